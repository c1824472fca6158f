theorem dX0_init_0 : decode cX0_init 0 = .ok (.aload_n 0, 1) := by decide +kernel
theorem dX0_init_1 : decode cX0_init 1 = .ok (.invokespecial 3, 3) := by decide +kernel
theorem dX0_init_4 : decode cX0_init 4 = .ok (.aload_n 0, 1) := by decide +kernel
theorem dX0_init_5 : decode cX0_init 5 = .ok (.aload_n 1, 1) := by decide +kernel
theorem dX0_init_6 : decode cX0_init 6 = .ok (.putfield 9, 3) := by decide +kernel
theorem dX0_init_9 : decode cX0_init 9 = .ok (.aload_n 0, 1) := by decide +kernel
theorem dX0_init_10 : decode cX0_init 10 = .ok (.aload_n 2, 1) := by decide +kernel
theorem dX0_init_11 : decode cX0_init 11 = .ok (.putfield 15, 3) := by decide +kernel
theorem dX0_init_14 : decode cX0_init 14 = .ok (.aload_n 0, 1) := by decide +kernel
theorem dX0_init_15 : decode cX0_init 15 = .ok (.aload_n 3, 1) := by decide +kernel
theorem dX0_init_16 : decode cX0_init 16 = .ok (.putfield 19, 3) := by decide +kernel
theorem dX0_init_19 : decode cX0_init 19 = .ok (.return_, 1) := by decide +kernel
theorem dX0_go_0 : decode cX0_go 0 = .ok (.aload_n 0, 1) := by decide +kernel
theorem dX0_go_1 : decode cX0_go 1 = .ok (.getfield 19, 3) := by decide +kernel
theorem dX0_go_4 : decode cX0_go 4 = .ok (.invokevirtual 23, 3) := by decide +kernel
theorem dX0_go_7 : decode cX0_go 7 = .ok (.aload_n 0, 1) := by decide +kernel
theorem dX0_go_8 : decode cX0_go 8 = .ok (.iload_n 1, 1) := by decide +kernel
theorem dX0_go_9 : decode cX0_go 9 = .ok (.putfield 28, 3) := by decide +kernel
theorem dX0_go_12 : decode cX0_go 12 = .ok (.aload_n 0, 1) := by decide +kernel
theorem dX0_go_13 : decode cX0_go 13 = .ok (.iconst 0, 1) := by decide +kernel
theorem dX0_go_14 : decode cX0_go 14 = .ok (.putfield 32, 3) := by decide +kernel
theorem dX0_go_17 : decode cX0_go 17 = .ok (.aload_n 0, 1) := by decide +kernel
theorem dX0_go_18 : decode cX0_go 18 = .ok (.iconst 0, 1) := by decide +kernel
theorem dX0_go_19 : decode cX0_go 19 = .ok (.putfield 35, 3) := by decide +kernel
theorem dX0_go_22 : decode cX0_go 22 = .ok (.aload_n 0, 1) := by decide +kernel
theorem dX0_go_23 : decode cX0_go 23 = .ok (.aload_n 0, 1) := by decide +kernel
theorem dX0_go_24 : decode cX0_go 24 = .ok (.invokevirtual 38, 3) := by decide +kernel
theorem dX0_go_27 : decode cX0_go 27 = .ok (.putfield 42, 3) := by decide +kernel
theorem dX0_go_30 : decode cX0_go 30 = .ok (.aload_n 0, 1) := by decide +kernel
theorem dX0_go_31 : decode cX0_go 31 = .ok (.getfield 15, 3) := by decide +kernel
theorem dX0_go_34 : decode cX0_go 34 = .ok (.getfield 45, 3) := by decide +kernel
theorem dX0_go_37 : decode cX0_go 37 = .ok (.istore_n 3, 1) := by decide +kernel
theorem dX0_go_38 : decode cX0_go 38 = .ok (.iconst 0, 1) := by decide +kernel
theorem dX0_go_39 : decode cX0_go 39 = .ok (.istore 4, 2) := by decide +kernel
theorem dX0_go_41 : decode cX0_go 41 = .ok (.iconst 0, 1) := by decide +kernel
theorem dX0_go_42 : decode cX0_go 42 = .ok (.istore 5, 2) := by decide +kernel
theorem dX0_go_44 : decode cX0_go 44 = .ok (.iload 5, 2) := by decide +kernel
theorem dX0_go_46 : decode cX0_go 46 = .ok (.bipush 12, 2) := by decide +kernel
theorem dX0_go_48 : decode cX0_go 48 = .ok (.if_icmp .ge 118, 3) := by decide +kernel
theorem dX0_go_51 : decode cX0_go 51 = .ok (.iload_n 3, 1) := by decide +kernel
theorem dX0_go_52 : decode cX0_go 52 = .ok (.invokestatic 50, 3) := by decide +kernel
theorem dX0_go_55 : decode cX0_go 55 = .ok (.iconst 1, 1) := by decide +kernel
theorem dX0_go_56 : decode cX0_go 56 = .ok (.if_icmp .le 110, 3) := by decide +kernel
theorem dX0_go_59 : decode cX0_go 59 = .ok (.aload_n 0, 1) := by decide +kernel
theorem dX0_go_60 : decode cX0_go 60 = .ok (.getfield 19, 3) := by decide +kernel
theorem dX0_go_63 : decode cX0_go 63 = .ok (.iload 4, 2) := by decide +kernel
theorem dX0_go_65 : decode cX0_go 65 = .ok (.iload_n 3, 1) := by decide +kernel
theorem dX0_go_66 : decode cX0_go 66 = .ok (.invokevirtual 56, 3) := by decide +kernel
theorem dX0_go_69 : decode cX0_go 69 = .ok (.istore 6, 2) := by decide +kernel
theorem dX0_go_71 : decode cX0_go 71 = .ok (.iload 6, 2) := by decide +kernel
theorem dX0_go_73 : decode cX0_go 73 = .ok (.iconst (-1), 1) := by decide +kernel
theorem dX0_go_74 : decode cX0_go 74 = .ok (.if_icmp .ne 6, 3) := by decide +kernel
theorem dX0_go_77 : decode cX0_go 77 = .ok (.goto 89, 3) := by decide +kernel
theorem dX0_go_80 : decode cX0_go 80 = .ok (.aload_n 0, 1) := by decide +kernel
theorem dX0_go_81 : decode cX0_go 81 = .ok (.dup, 1) := by decide +kernel
theorem dX0_go_82 : decode cX0_go 82 = .ok (.getfield 32, 3) := by decide +kernel
theorem dX0_go_85 : decode cX0_go 85 = .ok (.aload_n 0, 1) := by decide +kernel
theorem dX0_go_86 : decode cX0_go 86 = .ok (.getfield 15, 3) := by decide +kernel
theorem dX0_go_89 : decode cX0_go 89 = .ok (.iload 4, 2) := by decide +kernel
theorem dX0_go_91 : decode cX0_go 91 = .ok (.iload 6, 2) := by decide +kernel
theorem dX0_go_93 : decode cX0_go 93 = .ok (.invokevirtual 60, 3) := by decide +kernel
theorem dX0_go_96 : decode cX0_go 96 = .ok (.aload_n 0, 1) := by decide +kernel
theorem dX0_go_97 : decode cX0_go 97 = .ok (.getfield 9, 3) := by decide +kernel
theorem dX0_go_100 : decode cX0_go 100 = .ok (.getfield 63, 3) := by decide +kernel
theorem dX0_go_103 : decode cX0_go 103 = .ok (.iadd, 1) := by decide +kernel
theorem dX0_go_104 : decode cX0_go 104 = .ok (.iadd, 1) := by decide +kernel
theorem dX0_go_105 : decode cX0_go 105 = .ok (.putfield 32, 3) := by decide +kernel
theorem dX0_go_108 : decode cX0_go 108 = .ok (.aload_n 0, 1) := by decide +kernel
theorem dX0_go_109 : decode cX0_go 109 = .ok (.dup, 1) := by decide +kernel
theorem dX0_go_110 : decode cX0_go 110 = .ok (.getfield 35, 3) := by decide +kernel
theorem dX0_go_113 : decode cX0_go 113 = .ok (.iconst 1, 1) := by decide +kernel
theorem dX0_go_114 : decode cX0_go 114 = .ok (.iadd, 1) := by decide +kernel
theorem dX0_go_115 : decode cX0_go 115 = .ok (.putfield 35, 3) := by decide +kernel
theorem dX0_go_118 : decode cX0_go 118 = .ok (.iload 6, 2) := by decide +kernel
theorem dX0_go_120 : decode cX0_go 120 = .ok (.istore 4, 2) := by decide +kernel
theorem dX0_go_122 : decode cX0_go 122 = .ok (.iload_n 3, 1) := by decide +kernel
theorem dX0_go_123 : decode cX0_go 123 = .ok (.aload_n 0, 1) := by decide +kernel
theorem dX0_go_124 : decode cX0_go 124 = .ok (.iload 6, 2) := by decide +kernel
theorem dX0_go_126 : decode cX0_go 126 = .ok (.iload_n 2, 1) := by decide +kernel
theorem dX0_go_127 : decode cX0_go 127 = .ok (.invokevirtual 68, 3) := by decide +kernel
theorem dX0_go_130 : decode cX0_go 130 = .ok (.ifCond .eq 16, 3) := by decide +kernel
theorem dX0_go_133 : decode cX0_go 133 = .ok (.aload_n 0, 1) := by decide +kernel
theorem dX0_go_134 : decode cX0_go 134 = .ok (.getfield 15, 3) := by decide +kernel
theorem dX0_go_137 : decode cX0_go 137 = .ok (.getfield 72, 3) := by decide +kernel
theorem dX0_go_140 : decode cX0_go 140 = .ok (.iload 6, 2) := by decide +kernel
theorem dX0_go_142 : decode cX0_go 142 = .ok (.iaload, 1) := by decide +kernel
theorem dX0_go_143 : decode cX0_go 143 = .ok (.goto 15, 3) := by decide +kernel
theorem dX0_go_146 : decode cX0_go 146 = .ok (.aload_n 0, 1) := by decide +kernel
theorem dX0_go_147 : decode cX0_go 147 = .ok (.getfield 15, 3) := by decide +kernel
theorem dX0_go_150 : decode cX0_go 150 = .ok (.getfield 72, 3) := by decide +kernel
theorem dX0_go_153 : decode cX0_go 153 = .ok (.iload 6, 2) := by decide +kernel
theorem dX0_go_155 : decode cX0_go 155 = .ok (.iaload, 1) := by decide +kernel
theorem dX0_go_156 : decode cX0_go 156 = .ok (.iconst (-1), 1) := by decide +kernel
theorem dX0_go_157 : decode cX0_go 157 = .ok (.ixor, 1) := by decide +kernel
theorem dX0_go_158 : decode cX0_go 158 = .ok (.iand, 1) := by decide +kernel
theorem dX0_go_159 : decode cX0_go 159 = .ok (.istore_n 3, 1) := by decide +kernel
theorem dX0_go_160 : decode cX0_go 160 = .ok (.iinc 5 1, 3) := by decide +kernel
theorem dX0_go_163 : decode cX0_go 163 = .ok (.goto (-119), 3) := by decide +kernel
theorem dX0_go_166 : decode cX0_go 166 = .ok (.aload_n 0, 1) := by decide +kernel
theorem dX0_go_167 : decode cX0_go 167 = .ok (.iload_n 3, 1) := by decide +kernel
theorem dX0_go_168 : decode cX0_go 168 = .ok (.invokestatic 76, 3) := by decide +kernel
theorem dX0_go_171 : decode cX0_go 171 = .ok (.putfield 79, 3) := by decide +kernel
theorem dX0_go_174 : decode cX0_go 174 = .ok (.return_, 1) := by decide +kernel
theorem dX0_leastOf_0 : decode cX0_leastOf 0 = .ok (.iconst 0, 1) := by decide +kernel
theorem dX0_leastOf_1 : decode cX0_leastOf 1 = .ok (.istore_n 1, 1) := by decide +kernel
theorem dX0_leastOf_2 : decode cX0_leastOf 2 = .ok (.iload_n 1, 1) := by decide +kernel
theorem dX0_leastOf_3 : decode cX0_leastOf 3 = .ok (.bipush 12, 2) := by decide +kernel
theorem dX0_leastOf_5 : decode cX0_leastOf 5 = .ok (.if_icmp .ge 19, 3) := by decide +kernel
theorem dX0_leastOf_8 : decode cX0_leastOf 8 = .ok (.iload_n 0, 1) := by decide +kernel
theorem dX0_leastOf_9 : decode cX0_leastOf 9 = .ok (.iload_n 1, 1) := by decide +kernel
theorem dX0_leastOf_10 : decode cX0_leastOf 10 = .ok (.invokestatic 82, 3) := by decide +kernel
theorem dX0_leastOf_13 : decode cX0_leastOf 13 = .ok (.ifCond .eq 5, 3) := by decide +kernel
theorem dX0_leastOf_16 : decode cX0_leastOf 16 = .ok (.iload_n 1, 1) := by decide +kernel
theorem dX0_leastOf_17 : decode cX0_leastOf 17 = .ok (.ireturn, 1) := by decide +kernel
theorem dX0_leastOf_18 : decode cX0_leastOf 18 = .ok (.iinc 1 1, 3) := by decide +kernel
theorem dX0_leastOf_21 : decode cX0_leastOf 21 = .ok (.goto (-19), 3) := by decide +kernel
theorem dX0_leastOf_24 : decode cX0_leastOf 24 = .ok (.iconst (-1), 1) := by decide +kernel
theorem dX0_leastOf_25 : decode cX0_leastOf 25 = .ok (.ireturn, 1) := by decide +kernel
theorem dX0_draw_0 : decode cX0_draw 0 = .ok (.aload_n 0, 1) := by decide +kernel
theorem dX0_draw_1 : decode cX0_draw 1 = .ok (.aload_n 0, 1) := by decide +kernel
theorem dX0_draw_2 : decode cX0_draw 2 = .ok (.getfield 28, 3) := by decide +kernel
theorem dX0_draw_5 : decode cX0_draw 5 = .ok (.sipush 25173, 3) := by decide +kernel
theorem dX0_draw_8 : decode cX0_draw 8 = .ok (.imul, 1) := by decide +kernel
theorem dX0_draw_9 : decode cX0_draw 9 = .ok (.sipush 13849, 3) := by decide +kernel
theorem dX0_draw_12 : decode cX0_draw 12 = .ok (.iadd, 1) := by decide +kernel
theorem dX0_draw_13 : decode cX0_draw 13 = .ok (.ldc 85, 2) := by decide +kernel
theorem dX0_draw_15 : decode cX0_draw 15 = .ok (.iand, 1) := by decide +kernel
theorem dX0_draw_16 : decode cX0_draw 16 = .ok (.putfield 28, 3) := by decide +kernel
theorem dX0_draw_19 : decode cX0_draw 19 = .ok (.aload_n 0, 1) := by decide +kernel
theorem dX0_draw_20 : decode cX0_draw 20 = .ok (.getfield 28, 3) := by decide +kernel
theorem dX0_draw_23 : decode cX0_draw 23 = .ok (.bipush 64, 2) := by decide +kernel
theorem dX0_draw_25 : decode cX0_draw 25 = .ok (.idiv, 1) := by decide +kernel
theorem dX0_draw_26 : decode cX0_draw 26 = .ok (.ireturn, 1) := by decide +kernel
theorem dX0_drawSource_0 : decode cX0_drawSource 0 = .ok (.aload_n 0, 1) := by decide +kernel
theorem dX0_drawSource_1 : decode cX0_drawSource 1 = .ok (.invokevirtual 86, 3) := by decide +kernel
theorem dX0_drawSource_4 : decode cX0_drawSource 4 = .ok (.iconst 1, 1) := by decide +kernel
theorem dX0_drawSource_5 : decode cX0_drawSource 5 = .ok (.aload_n 0, 1) := by decide +kernel
theorem dX0_drawSource_6 : decode cX0_drawSource 6 = .ok (.getfield 15, 3) := by decide +kernel
theorem dX0_drawSource_9 : decode cX0_drawSource 9 = .ok (.aload_n 0, 1) := by decide +kernel
theorem dX0_drawSource_10 : decode cX0_drawSource 10 = .ok (.getfield 15, 3) := by decide +kernel
theorem dX0_drawSource_13 : decode cX0_drawSource 13 = .ok (.getfield 45, 3) := by decide +kernel
theorem dX0_drawSource_16 : decode cX0_drawSource 16 = .ok (.invokevirtual 89, 3) := by decide +kernel
theorem dX0_drawSource_19 : decode cX0_drawSource 19 = .ok (.invokestatic 92, 3) := by decide +kernel
theorem dX0_drawSource_22 : decode cX0_drawSource 22 = .ok (.irem, 1) := by decide +kernel
theorem dX0_drawSource_23 : decode cX0_drawSource 23 = .ok (.istore_n 1, 1) := by decide +kernel
theorem dX0_drawSource_24 : decode cX0_drawSource 24 = .ok (.iconst 0, 1) := by decide +kernel
theorem dX0_drawSource_25 : decode cX0_drawSource 25 = .ok (.istore_n 2, 1) := by decide +kernel
theorem dX0_drawSource_26 : decode cX0_drawSource 26 = .ok (.iload_n 2, 1) := by decide +kernel
theorem dX0_drawSource_27 : decode cX0_drawSource 27 = .ok (.bipush 12, 2) := by decide +kernel
theorem dX0_drawSource_29 : decode cX0_drawSource 29 = .ok (.if_icmp .ge 41, 3) := by decide +kernel
theorem dX0_drawSource_32 : decode cX0_drawSource 32 = .ok (.aload_n 0, 1) := by decide +kernel
theorem dX0_drawSource_33 : decode cX0_drawSource 33 = .ok (.getfield 15, 3) := by decide +kernel
theorem dX0_drawSource_36 : decode cX0_drawSource 36 = .ok (.getfield 45, 3) := by decide +kernel
theorem dX0_drawSource_39 : decode cX0_drawSource 39 = .ok (.iload_n 2, 1) := by decide +kernel
theorem dX0_drawSource_40 : decode cX0_drawSource 40 = .ok (.invokestatic 82, 3) := by decide +kernel
theorem dX0_drawSource_43 : decode cX0_drawSource 43 = .ok (.ifCond .eq 21, 3) := by decide +kernel
theorem dX0_drawSource_46 : decode cX0_drawSource 46 = .ok (.iload_n 1, 1) := by decide +kernel
theorem dX0_drawSource_47 : decode cX0_drawSource 47 = .ok (.aload_n 0, 1) := by decide +kernel
theorem dX0_drawSource_48 : decode cX0_drawSource 48 = .ok (.getfield 9, 3) := by decide +kernel
theorem dX0_drawSource_51 : decode cX0_drawSource 51 = .ok (.getfield 97, 3) := by decide +kernel
theorem dX0_drawSource_54 : decode cX0_drawSource 54 = .ok (.iload_n 2, 1) := by decide +kernel
theorem dX0_drawSource_55 : decode cX0_drawSource 55 = .ok (.iaload, 1) := by decide +kernel
theorem dX0_drawSource_56 : decode cX0_drawSource 56 = .ok (.isub, 1) := by decide +kernel
theorem dX0_drawSource_57 : decode cX0_drawSource 57 = .ok (.istore_n 1, 1) := by decide +kernel
theorem dX0_drawSource_58 : decode cX0_drawSource 58 = .ok (.iload_n 1, 1) := by decide +kernel
theorem dX0_drawSource_59 : decode cX0_drawSource 59 = .ok (.ifCond .ge 5, 3) := by decide +kernel
theorem dX0_drawSource_62 : decode cX0_drawSource 62 = .ok (.iload_n 2, 1) := by decide +kernel
theorem dX0_drawSource_63 : decode cX0_drawSource 63 = .ok (.ireturn, 1) := by decide +kernel
theorem dX0_drawSource_64 : decode cX0_drawSource 64 = .ok (.iinc 2 1, 3) := by decide +kernel
theorem dX0_drawSource_67 : decode cX0_drawSource 67 = .ok (.goto (-41), 3) := by decide +kernel
theorem dX0_drawSource_70 : decode cX0_drawSource 70 = .ok (.iconst (-1), 1) := by decide +kernel
theorem dX0_drawSource_71 : decode cX0_drawSource 71 = .ok (.ireturn, 1) := by decide +kernel
theorem dX0_drawAnswer_0 : decode cX0_drawAnswer 0 = .ok (.aload_n 0, 1) := by decide +kernel
theorem dX0_drawAnswer_1 : decode cX0_drawAnswer 1 = .ok (.getfield 15, 3) := by decide +kernel
theorem dX0_drawAnswer_4 : decode cX0_drawAnswer 4 = .ok (.getfield 72, 3) := by decide +kernel
theorem dX0_drawAnswer_7 : decode cX0_drawAnswer 7 = .ok (.iload_n 1, 1) := by decide +kernel
theorem dX0_drawAnswer_8 : decode cX0_drawAnswer 8 = .ok (.iaload, 1) := by decide +kernel
theorem dX0_drawAnswer_9 : decode cX0_drawAnswer 9 = .ok (.aload_n 0, 1) := by decide +kernel
theorem dX0_drawAnswer_10 : decode cX0_drawAnswer 10 = .ok (.getfield 42, 3) := by decide +kernel
theorem dX0_drawAnswer_13 : decode cX0_drawAnswer 13 = .ok (.invokestatic 82, 3) := by decide +kernel
theorem dX0_drawAnswer_16 : decode cX0_drawAnswer 16 = .ok (.istore_n 3, 1) := by decide +kernel
theorem dX0_drawAnswer_17 : decode cX0_drawAnswer 17 = .ok (.iload_n 3, 1) := by decide +kernel
theorem dX0_drawAnswer_18 : decode cX0_drawAnswer 18 = .ok (.ifCond .eq 15, 3) := by decide +kernel
theorem dX0_drawAnswer_21 : decode cX0_drawAnswer 21 = .ok (.aload_n 0, 1) := by decide +kernel
theorem dX0_drawAnswer_22 : decode cX0_drawAnswer 22 = .ok (.getfield 9, 3) := by decide +kernel
theorem dX0_drawAnswer_25 : decode cX0_drawAnswer 25 = .ok (.getfield 100, 3) := by decide +kernel
theorem dX0_drawAnswer_28 : decode cX0_drawAnswer 28 = .ok (.iload_n 2, 1) := by decide +kernel
theorem dX0_drawAnswer_29 : decode cX0_drawAnswer 29 = .ok (.iaload, 1) := by decide +kernel
theorem dX0_drawAnswer_30 : decode cX0_drawAnswer 30 = .ok (.goto 12, 3) := by decide +kernel
theorem dX0_drawAnswer_33 : decode cX0_drawAnswer 33 = .ok (.aload_n 0, 1) := by decide +kernel
theorem dX0_drawAnswer_34 : decode cX0_drawAnswer 34 = .ok (.getfield 9, 3) := by decide +kernel
theorem dX0_drawAnswer_37 : decode cX0_drawAnswer 37 = .ok (.getfield 103, 3) := by decide +kernel
theorem dX0_drawAnswer_40 : decode cX0_drawAnswer 40 = .ok (.iload_n 2, 1) := by decide +kernel
theorem dX0_drawAnswer_41 : decode cX0_drawAnswer 41 = .ok (.iaload, 1) := by decide +kernel
theorem dX0_drawAnswer_42 : decode cX0_drawAnswer 42 = .ok (.istore 4, 2) := by decide +kernel
theorem dX0_drawAnswer_44 : decode cX0_drawAnswer 44 = .ok (.aload_n 0, 1) := by decide +kernel
theorem dX0_drawAnswer_45 : decode cX0_drawAnswer 45 = .ok (.invokevirtual 86, 3) := by decide +kernel
theorem dX0_drawAnswer_48 : decode cX0_drawAnswer 48 = .ok (.bipush 10, 2) := by decide +kernel
theorem dX0_drawAnswer_50 : decode cX0_drawAnswer 50 = .ok (.irem, 1) := by decide +kernel
theorem dX0_drawAnswer_51 : decode cX0_drawAnswer 51 = .ok (.iload 4, 2) := by decide +kernel
theorem dX0_drawAnswer_53 : decode cX0_drawAnswer 53 = .ok (.if_icmp .ge 15, 3) := by decide +kernel
theorem dX0_drawAnswer_56 : decode cX0_drawAnswer 56 = .ok (.iload_n 3, 1) := by decide +kernel
theorem dX0_drawAnswer_57 : decode cX0_drawAnswer 57 = .ok (.ifCond .ne 7, 3) := by decide +kernel
theorem dX0_drawAnswer_60 : decode cX0_drawAnswer 60 = .ok (.iconst 1, 1) := by decide +kernel
theorem dX0_drawAnswer_61 : decode cX0_drawAnswer 61 = .ok (.goto 8, 3) := by decide +kernel
theorem dX0_drawAnswer_64 : decode cX0_drawAnswer 64 = .ok (.iconst 0, 1) := by decide +kernel
theorem dX0_drawAnswer_65 : decode cX0_drawAnswer 65 = .ok (.goto 4, 3) := by decide +kernel
theorem dX0_drawAnswer_68 : decode cX0_drawAnswer 68 = .ok (.iload_n 3, 1) := by decide +kernel
theorem dX0_drawAnswer_69 : decode cX0_drawAnswer 69 = .ok (.ireturn, 1) := by decide +kernel
theorem dX1_init_0 : decode cX1_init 0 = .ok (.aload_n 0, 1) := by decide +kernel
theorem dX1_init_1 : decode cX1_init 1 = .ok (.invokespecial 1, 3) := by decide +kernel
theorem dX1_init_4 : decode cX1_init 4 = .ok (.return_, 1) := by decide +kernel
theorem dX1_put_0 : decode cX1_put 0 = .ok (.aload_n 0, 1) := by decide +kernel
theorem dX1_put_1 : decode cX1_put 1 = .ok (.iload_n 1, 1) := by decide +kernel
theorem dX1_put_2 : decode cX1_put 2 = .ok (.putfield 7, 3) := by decide +kernel
theorem dX1_put_5 : decode cX1_put 5 = .ok (.aload_n 0, 1) := by decide +kernel
theorem dX1_put_6 : decode cX1_put 6 = .ok (.iload_n 2, 1) := by decide +kernel
theorem dX1_put_7 : decode cX1_put 7 = .ok (.putfield 13, 3) := by decide +kernel
theorem dX1_put_10 : decode cX1_put 10 = .ok (.aload_n 0, 1) := by decide +kernel
theorem dX1_put_11 : decode cX1_put 11 = .ok (.iload_n 3, 1) := by decide +kernel
theorem dX1_put_12 : decode cX1_put 12 = .ok (.putfield 16, 3) := by decide +kernel
theorem dX1_put_15 : decode cX1_put 15 = .ok (.aload_n 0, 1) := by decide +kernel
theorem dX1_put_16 : decode cX1_put 16 = .ok (.iload 4, 2) := by decide +kernel
theorem dX1_put_18 : decode cX1_put 18 = .ok (.putfield 19, 3) := by decide +kernel
theorem dX1_put_21 : decode cX1_put 21 = .ok (.aload_n 0, 1) := by decide +kernel
theorem dX1_put_22 : decode cX1_put 22 = .ok (.iload 5, 2) := by decide +kernel
theorem dX1_put_24 : decode cX1_put 24 = .ok (.putfield 22, 3) := by decide +kernel
theorem dX1_put_27 : decode cX1_put 27 = .ok (.return_, 1) := by decide +kernel
theorem dX2_init_0 : decode cX2_init 0 = .ok (.aload_n 0, 1) := by decide +kernel
theorem dX2_init_1 : decode cX2_init 1 = .ok (.invokespecial 3, 3) := by decide +kernel
theorem dX2_init_4 : decode cX2_init 4 = .ok (.aload_n 0, 1) := by decide +kernel
theorem dX2_init_5 : decode cX2_init 5 = .ok (.iconst 0, 1) := by decide +kernel
theorem dX2_init_6 : decode cX2_init 6 = .ok (.newarray .int, 2) := by decide +kernel
theorem dX2_init_8 : decode cX2_init 8 = .ok (.putfield 9, 3) := by decide +kernel
theorem dX2_init_11 : decode cX2_init 11 = .ok (.aload_n 0, 1) := by decide +kernel
theorem dX2_init_12 : decode cX2_init 12 = .ok (.iconst 0, 1) := by decide +kernel
theorem dX2_init_13 : decode cX2_init 13 = .ok (.newarray .int, 2) := by decide +kernel
theorem dX2_init_15 : decode cX2_init 15 = .ok (.putfield 15, 3) := by decide +kernel
theorem dX2_init_18 : decode cX2_init 18 = .ok (.aload_n 0, 1) := by decide +kernel
theorem dX2_init_19 : decode cX2_init 19 = .ok (.iconst 0, 1) := by decide +kernel
theorem dX2_init_20 : decode cX2_init 20 = .ok (.newarray .int, 2) := by decide +kernel
theorem dX2_init_22 : decode cX2_init 22 = .ok (.putfield 18, 3) := by decide +kernel
theorem dX2_init_25 : decode cX2_init 25 = .ok (.aload_n 0, 1) := by decide +kernel
theorem dX2_init_26 : decode cX2_init 26 = .ok (.aload_n 1, 1) := by decide +kernel
theorem dX2_init_27 : decode cX2_init 27 = .ok (.putfield 21, 3) := by decide +kernel
theorem dX2_init_30 : decode cX2_init 30 = .ok (.aload_n 0, 1) := by decide +kernel
theorem dX2_init_31 : decode cX2_init 31 = .ok (.aload_n 2, 1) := by decide +kernel
theorem dX2_init_32 : decode cX2_init 32 = .ok (.putfield 25, 3) := by decide +kernel
theorem dX2_init_35 : decode cX2_init 35 = .ok (.return_, 1) := by decide +kernel
theorem dX2_doubt_0 : decode cX2_doubt 0 = .ok (.aload_n 0, 1) := by decide +kernel
theorem dX2_doubt_1 : decode cX2_doubt 1 = .ok (.iconst 0, 1) := by decide +kernel
theorem dX2_doubt_2 : decode cX2_doubt 2 = .ok (.putfield 29, 3) := by decide +kernel
theorem dX2_doubt_5 : decode cX2_doubt 5 = .ok (.return_, 1) := by decide +kernel
theorem dX2_solve_0 : decode cX2_solve 0 = .ok (.aload_n 0, 1) := by decide +kernel
theorem dX2_solve_1 : decode cX2_solve 1 = .ok (.getfield 29, 3) := by decide +kernel
theorem dX2_solve_4 : decode cX2_solve 4 = .ok (.ifCond .eq 4, 3) := by decide +kernel
theorem dX2_solve_7 : decode cX2_solve 7 = .ok (.return_, 1) := by decide +kernel
theorem dX2_solve_8 : decode cX2_solve 8 = .ok (.aload_n 0, 1) := by decide +kernel
theorem dX2_solve_9 : decode cX2_solve 9 = .ok (.getfield 25, 3) := by decide +kernel
theorem dX2_solve_12 : decode cX2_solve 12 = .ok (.getfield 33, 3) := by decide +kernel
theorem dX2_solve_15 : decode cX2_solve 15 = .ok (.istore_n 1, 1) := by decide +kernel
theorem dX2_solve_16 : decode cX2_solve 16 = .ok (.aload_n 0, 1) := by decide +kernel
theorem dX2_solve_17 : decode cX2_solve 17 = .ok (.iload_n 1, 1) := by decide +kernel
theorem dX2_solve_18 : decode cX2_solve 18 = .ok (.invokevirtual 39, 3) := by decide +kernel
theorem dX2_solve_21 : decode cX2_solve 21 = .ok (.aload_n 0, 1) := by decide +kernel
theorem dX2_solve_22 : decode cX2_solve 22 = .ok (.iload_n 1, 1) := by decide +kernel
theorem dX2_solve_23 : decode cX2_solve 23 = .ok (.invokevirtual 43, 3) := by decide +kernel
theorem dX2_solve_26 : decode cX2_solve 26 = .ok (.iconst 0, 1) := by decide +kernel
theorem dX2_solve_27 : decode cX2_solve 27 = .ok (.istore_n 2, 1) := by decide +kernel
theorem dX2_solve_28 : decode cX2_solve 28 = .ok (.iload_n 2, 1) := by decide +kernel
theorem dX2_solve_29 : decode cX2_solve 29 = .ok (.iload_n 1, 1) := by decide +kernel
theorem dX2_solve_30 : decode cX2_solve 30 = .ok (.if_icmp .gt 24, 3) := by decide +kernel
theorem dX2_solve_33 : decode cX2_solve 33 = .ok (.aload_n 0, 1) := by decide +kernel
theorem dX2_solve_34 : decode cX2_solve 34 = .ok (.getfield 9, 3) := by decide +kernel
theorem dX2_solve_37 : decode cX2_solve 37 = .ok (.iload_n 2, 1) := by decide +kernel
theorem dX2_solve_38 : decode cX2_solve 38 = .ok (.iaload, 1) := by decide +kernel
theorem dX2_solve_39 : decode cX2_solve 39 = .ok (.iconst (-1), 1) := by decide +kernel
theorem dX2_solve_40 : decode cX2_solve 40 = .ok (.if_icmp .eq 8, 3) := by decide +kernel
theorem dX2_solve_43 : decode cX2_solve 43 = .ok (.aload_n 0, 1) := by decide +kernel
theorem dX2_solve_44 : decode cX2_solve 44 = .ok (.iload_n 2, 1) := by decide +kernel
theorem dX2_solve_45 : decode cX2_solve 45 = .ok (.invokevirtual 46, 3) := by decide +kernel
theorem dX2_solve_48 : decode cX2_solve 48 = .ok (.iinc 2 1, 3) := by decide +kernel
theorem dX2_solve_51 : decode cX2_solve 51 = .ok (.goto (-23), 3) := by decide +kernel
theorem dX2_solve_54 : decode cX2_solve 54 = .ok (.aload_n 0, 1) := by decide +kernel
theorem dX2_solve_55 : decode cX2_solve 55 = .ok (.iconst 1, 1) := by decide +kernel
theorem dX2_solve_56 : decode cX2_solve 56 = .ok (.putfield 29, 3) := by decide +kernel
theorem dX2_solve_59 : decode cX2_solve 59 = .ok (.return_, 1) := by decide +kernel
theorem dX2_markWhatMayBeLeft_0 : decode cX2_markWhatMayBeLeft 0 = .ok (.iconst 0, 1) := by decide +kernel
theorem dX2_markWhatMayBeLeft_1 : decode cX2_markWhatMayBeLeft 1 = .ok (.istore_n 2, 1) := by decide +kernel
theorem dX2_markWhatMayBeLeft_2 : decode cX2_markWhatMayBeLeft 2 = .ok (.iload_n 2, 1) := by decide +kernel
theorem dX2_markWhatMayBeLeft_3 : decode cX2_markWhatMayBeLeft 3 = .ok (.iload_n 1, 1) := by decide +kernel
theorem dX2_markWhatMayBeLeft_4 : decode cX2_markWhatMayBeLeft 4 = .ok (.if_icmp .gt 16, 3) := by decide +kernel
theorem dX2_markWhatMayBeLeft_7 : decode cX2_markWhatMayBeLeft 7 = .ok (.aload_n 0, 1) := by decide +kernel
theorem dX2_markWhatMayBeLeft_8 : decode cX2_markWhatMayBeLeft 8 = .ok (.getfield 9, 3) := by decide +kernel
theorem dX2_markWhatMayBeLeft_11 : decode cX2_markWhatMayBeLeft 11 = .ok (.iload_n 2, 1) := by decide +kernel
theorem dX2_markWhatMayBeLeft_12 : decode cX2_markWhatMayBeLeft 12 = .ok (.iconst (-1), 1) := by decide +kernel
theorem dX2_markWhatMayBeLeft_13 : decode cX2_markWhatMayBeLeft 13 = .ok (.iastore, 1) := by decide +kernel
theorem dX2_markWhatMayBeLeft_14 : decode cX2_markWhatMayBeLeft 14 = .ok (.iinc 2 1, 3) := by decide +kernel
theorem dX2_markWhatMayBeLeft_17 : decode cX2_markWhatMayBeLeft 17 = .ok (.goto (-15), 3) := by decide +kernel
theorem dX2_markWhatMayBeLeft_20 : decode cX2_markWhatMayBeLeft 20 = .ok (.aload_n 0, 1) := by decide +kernel
theorem dX2_markWhatMayBeLeft_21 : decode cX2_markWhatMayBeLeft 21 = .ok (.getfield 9, 3) := by decide +kernel
theorem dX2_markWhatMayBeLeft_24 : decode cX2_markWhatMayBeLeft 24 = .ok (.iload_n 1, 1) := by decide +kernel
theorem dX2_markWhatMayBeLeft_25 : decode cX2_markWhatMayBeLeft 25 = .ok (.ldc 49, 2) := by decide +kernel
theorem dX2_markWhatMayBeLeft_27 : decode cX2_markWhatMayBeLeft 27 = .ok (.iastore, 1) := by decide +kernel
theorem dX2_markWhatMayBeLeft_28 : decode cX2_markWhatMayBeLeft 28 = .ok (.iload_n 1, 1) := by decide +kernel
theorem dX2_markWhatMayBeLeft_29 : decode cX2_markWhatMayBeLeft 29 = .ok (.istore_n 2, 1) := by decide +kernel
theorem dX2_markWhatMayBeLeft_30 : decode cX2_markWhatMayBeLeft 30 = .ok (.iload_n 2, 1) := by decide +kernel
theorem dX2_markWhatMayBeLeft_31 : decode cX2_markWhatMayBeLeft 31 = .ok (.ifCond .le 24, 3) := by decide +kernel
theorem dX2_markWhatMayBeLeft_34 : decode cX2_markWhatMayBeLeft 34 = .ok (.aload_n 0, 1) := by decide +kernel
theorem dX2_markWhatMayBeLeft_35 : decode cX2_markWhatMayBeLeft 35 = .ok (.getfield 9, 3) := by decide +kernel
theorem dX2_markWhatMayBeLeft_38 : decode cX2_markWhatMayBeLeft 38 = .ok (.iload_n 2, 1) := by decide +kernel
theorem dX2_markWhatMayBeLeft_39 : decode cX2_markWhatMayBeLeft 39 = .ok (.iaload, 1) := by decide +kernel
theorem dX2_markWhatMayBeLeft_40 : decode cX2_markWhatMayBeLeft 40 = .ok (.iconst (-1), 1) := by decide +kernel
theorem dX2_markWhatMayBeLeft_41 : decode cX2_markWhatMayBeLeft 41 = .ok (.if_icmp .eq 8, 3) := by decide +kernel
theorem dX2_markWhatMayBeLeft_44 : decode cX2_markWhatMayBeLeft 44 = .ok (.aload_n 0, 1) := by decide +kernel
theorem dX2_markWhatMayBeLeft_45 : decode cX2_markWhatMayBeLeft 45 = .ok (.iload_n 2, 1) := by decide +kernel
theorem dX2_markWhatMayBeLeft_46 : decode cX2_markWhatMayBeLeft 46 = .ok (.invokevirtual 50, 3) := by decide +kernel
theorem dX2_markWhatMayBeLeft_49 : decode cX2_markWhatMayBeLeft 49 = .ok (.iinc 2 (-1), 3) := by decide +kernel
theorem dX2_markWhatMayBeLeft_52 : decode cX2_markWhatMayBeLeft 52 = .ok (.goto (-22), 3) := by decide +kernel
theorem dX2_markWhatMayBeLeft_55 : decode cX2_markWhatMayBeLeft 55 = .ok (.return_, 1) := by decide +kernel
theorem dX2_markPartsOf_0 : decode cX2_markPartsOf 0 = .ok (.iconst 0, 1) := by decide +kernel
theorem dX2_markPartsOf_1 : decode cX2_markPartsOf 1 = .ok (.istore_n 2, 1) := by decide +kernel
theorem dX2_markPartsOf_2 : decode cX2_markPartsOf 2 = .ok (.iload_n 2, 1) := by decide +kernel
theorem dX2_markPartsOf_3 : decode cX2_markPartsOf 3 = .ok (.bipush 12, 2) := by decide +kernel
theorem dX2_markPartsOf_5 : decode cX2_markPartsOf 5 = .ok (.if_icmp .ge 48, 3) := by decide +kernel
theorem dX2_markPartsOf_8 : decode cX2_markPartsOf 8 = .ok (.aload_n 0, 1) := by decide +kernel
theorem dX2_markPartsOf_9 : decode cX2_markPartsOf 9 = .ok (.iload_n 2, 1) := by decide +kernel
theorem dX2_markPartsOf_10 : decode cX2_markPartsOf 10 = .ok (.iload_n 1, 1) := by decide +kernel
theorem dX2_markPartsOf_11 : decode cX2_markPartsOf 11 = .ok (.invokevirtual 53, 3) := by decide +kernel
theorem dX2_markPartsOf_14 : decode cX2_markPartsOf 14 = .ok (.ifCond .eq 33, 3) := by decide +kernel
theorem dX2_markPartsOf_17 : decode cX2_markPartsOf 17 = .ok (.iload_n 1, 1) := by decide +kernel
theorem dX2_markPartsOf_18 : decode cX2_markPartsOf 18 = .ok (.aload_n 0, 1) := by decide +kernel
theorem dX2_markPartsOf_19 : decode cX2_markPartsOf 19 = .ok (.getfield 25, 3) := by decide +kernel
theorem dX2_markPartsOf_22 : decode cX2_markPartsOf 22 = .ok (.getfield 57, 3) := by decide +kernel
theorem dX2_markPartsOf_25 : decode cX2_markPartsOf 25 = .ok (.iload_n 2, 1) := by decide +kernel
theorem dX2_markPartsOf_26 : decode cX2_markPartsOf 26 = .ok (.iaload, 1) := by decide +kernel
theorem dX2_markPartsOf_27 : decode cX2_markPartsOf 27 = .ok (.iand, 1) := by decide +kernel
theorem dX2_markPartsOf_28 : decode cX2_markPartsOf 28 = .ok (.istore_n 3, 1) := by decide +kernel
theorem dX2_markPartsOf_29 : decode cX2_markPartsOf 29 = .ok (.aload_n 0, 1) := by decide +kernel
theorem dX2_markPartsOf_30 : decode cX2_markPartsOf 30 = .ok (.getfield 9, 3) := by decide +kernel
theorem dX2_markPartsOf_33 : decode cX2_markPartsOf 33 = .ok (.iload_n 3, 1) := by decide +kernel
theorem dX2_markPartsOf_34 : decode cX2_markPartsOf 34 = .ok (.ldc 49, 2) := by decide +kernel
theorem dX2_markPartsOf_36 : decode cX2_markPartsOf 36 = .ok (.iastore, 1) := by decide +kernel
theorem dX2_markPartsOf_37 : decode cX2_markPartsOf 37 = .ok (.aload_n 0, 1) := by decide +kernel
theorem dX2_markPartsOf_38 : decode cX2_markPartsOf 38 = .ok (.getfield 9, 3) := by decide +kernel
theorem dX2_markPartsOf_41 : decode cX2_markPartsOf 41 = .ok (.iload_n 1, 1) := by decide +kernel
theorem dX2_markPartsOf_42 : decode cX2_markPartsOf 42 = .ok (.iload_n 3, 1) := by decide +kernel
theorem dX2_markPartsOf_43 : decode cX2_markPartsOf 43 = .ok (.ixor, 1) := by decide +kernel
theorem dX2_markPartsOf_44 : decode cX2_markPartsOf 44 = .ok (.ldc 49, 2) := by decide +kernel
theorem dX2_markPartsOf_46 : decode cX2_markPartsOf 46 = .ok (.iastore, 1) := by decide +kernel
theorem dX2_markPartsOf_47 : decode cX2_markPartsOf 47 = .ok (.iinc 2 1, 3) := by decide +kernel
theorem dX2_markPartsOf_50 : decode cX2_markPartsOf 50 = .ok (.goto (-48), 3) := by decide +kernel
theorem dX2_markPartsOf_53 : decode cX2_markPartsOf 53 = .ok (.return_, 1) := by decide +kernel
theorem dX2_makeRoomFor_0 : decode cX2_makeRoomFor 0 = .ok (.iconst 1, 1) := by decide +kernel
theorem dX2_makeRoomFor_1 : decode cX2_makeRoomFor 1 = .ok (.istore_n 2, 1) := by decide +kernel
theorem dX2_makeRoomFor_2 : decode cX2_makeRoomFor 2 = .ok (.iconst 0, 1) := by decide +kernel
theorem dX2_makeRoomFor_3 : decode cX2_makeRoomFor 3 = .ok (.istore_n 3, 1) := by decide +kernel
theorem dX2_makeRoomFor_4 : decode cX2_makeRoomFor 4 = .ok (.iload_n 3, 1) := by decide +kernel
theorem dX2_makeRoomFor_5 : decode cX2_makeRoomFor 5 = .ok (.bipush 12, 2) := by decide +kernel
theorem dX2_makeRoomFor_7 : decode cX2_makeRoomFor 7 = .ok (.if_icmp .ge 18, 3) := by decide +kernel
theorem dX2_makeRoomFor_10 : decode cX2_makeRoomFor 10 = .ok (.iload_n 2, 1) := by decide +kernel
theorem dX2_makeRoomFor_11 : decode cX2_makeRoomFor 11 = .ok (.iload_n 1, 1) := by decide +kernel
theorem dX2_makeRoomFor_12 : decode cX2_makeRoomFor 12 = .ok (.if_icmp .gt 13, 3) := by decide +kernel
theorem dX2_makeRoomFor_15 : decode cX2_makeRoomFor 15 = .ok (.iload_n 2, 1) := by decide +kernel
theorem dX2_makeRoomFor_16 : decode cX2_makeRoomFor 16 = .ok (.iconst 2, 1) := by decide +kernel
theorem dX2_makeRoomFor_17 : decode cX2_makeRoomFor 17 = .ok (.imul, 1) := by decide +kernel
theorem dX2_makeRoomFor_18 : decode cX2_makeRoomFor 18 = .ok (.istore_n 2, 1) := by decide +kernel
theorem dX2_makeRoomFor_19 : decode cX2_makeRoomFor 19 = .ok (.iinc 3 1, 3) := by decide +kernel
theorem dX2_makeRoomFor_22 : decode cX2_makeRoomFor 22 = .ok (.goto (-18), 3) := by decide +kernel
theorem dX2_makeRoomFor_25 : decode cX2_makeRoomFor 25 = .ok (.iload_n 2, 1) := by decide +kernel
theorem dX2_makeRoomFor_26 : decode cX2_makeRoomFor 26 = .ok (.aload_n 0, 1) := by decide +kernel
theorem dX2_makeRoomFor_27 : decode cX2_makeRoomFor 27 = .ok (.getfield 9, 3) := by decide +kernel
theorem dX2_makeRoomFor_30 : decode cX2_makeRoomFor 30 = .ok (.arraylength, 1) := by decide +kernel
theorem dX2_makeRoomFor_31 : decode cX2_makeRoomFor 31 = .ok (.if_icmp .le 27, 3) := by decide +kernel
theorem dX2_makeRoomFor_34 : decode cX2_makeRoomFor 34 = .ok (.aload_n 0, 1) := by decide +kernel
theorem dX2_makeRoomFor_35 : decode cX2_makeRoomFor 35 = .ok (.iload_n 2, 1) := by decide +kernel
theorem dX2_makeRoomFor_36 : decode cX2_makeRoomFor 36 = .ok (.newarray .int, 2) := by decide +kernel
theorem dX2_makeRoomFor_38 : decode cX2_makeRoomFor 38 = .ok (.putfield 9, 3) := by decide +kernel
theorem dX2_makeRoomFor_41 : decode cX2_makeRoomFor 41 = .ok (.aload_n 0, 1) := by decide +kernel
theorem dX2_makeRoomFor_42 : decode cX2_makeRoomFor 42 = .ok (.iload_n 2, 1) := by decide +kernel
theorem dX2_makeRoomFor_43 : decode cX2_makeRoomFor 43 = .ok (.newarray .int, 2) := by decide +kernel
theorem dX2_makeRoomFor_45 : decode cX2_makeRoomFor 45 = .ok (.putfield 15, 3) := by decide +kernel
theorem dX2_makeRoomFor_48 : decode cX2_makeRoomFor 48 = .ok (.aload_n 0, 1) := by decide +kernel
theorem dX2_makeRoomFor_49 : decode cX2_makeRoomFor 49 = .ok (.iload_n 2, 1) := by decide +kernel
theorem dX2_makeRoomFor_50 : decode cX2_makeRoomFor 50 = .ok (.bipush 12, 2) := by decide +kernel
theorem dX2_makeRoomFor_52 : decode cX2_makeRoomFor 52 = .ok (.imul, 1) := by decide +kernel
theorem dX2_makeRoomFor_53 : decode cX2_makeRoomFor 53 = .ok (.newarray .int, 2) := by decide +kernel
theorem dX2_makeRoomFor_55 : decode cX2_makeRoomFor 55 = .ok (.putfield 18, 3) := by decide +kernel
theorem dX2_makeRoomFor_58 : decode cX2_makeRoomFor 58 = .ok (.return_, 1) := by decide +kernel
theorem dX2_solveFor_0 : decode cX2_solveFor 0 = .ok (.iload_n 1, 1) := by decide +kernel
theorem dX2_solveFor_1 : decode cX2_solveFor 1 = .ok (.invokestatic 60, 3) := by decide +kernel
theorem dX2_solveFor_4 : decode cX2_solveFor 4 = .ok (.iconst 1, 1) := by decide +kernel
theorem dX2_solveFor_5 : decode cX2_solveFor 5 = .ok (.if_icmp .gt 7, 3) := by decide +kernel
theorem dX2_solveFor_8 : decode cX2_solveFor 8 = .ok (.iconst 1, 1) := by decide +kernel
theorem dX2_solveFor_9 : decode cX2_solveFor 9 = .ok (.goto 4, 3) := by decide +kernel
theorem dX2_solveFor_12 : decode cX2_solveFor 12 = .ok (.iconst 0, 1) := by decide +kernel
theorem dX2_solveFor_13 : decode cX2_solveFor 13 = .ok (.istore_n 2, 1) := by decide +kernel
theorem dX2_solveFor_14 : decode cX2_solveFor 14 = .ok (.iload_n 1, 1) := by decide +kernel
theorem dX2_solveFor_15 : decode cX2_solveFor 15 = .ok (.bipush 12, 2) := by decide +kernel
theorem dX2_solveFor_17 : decode cX2_solveFor 17 = .ok (.imul, 1) := by decide +kernel
theorem dX2_solveFor_18 : decode cX2_solveFor 18 = .ok (.istore_n 3, 1) := by decide +kernel
theorem dX2_solveFor_19 : decode cX2_solveFor 19 = .ok (.iconst 0, 1) := by decide +kernel
theorem dX2_solveFor_20 : decode cX2_solveFor 20 = .ok (.istore 4, 2) := by decide +kernel
theorem dX2_solveFor_22 : decode cX2_solveFor 22 = .ok (.iload 4, 2) := by decide +kernel
theorem dX2_solveFor_24 : decode cX2_solveFor 24 = .ok (.bipush 12, 2) := by decide +kernel
theorem dX2_solveFor_26 : decode cX2_solveFor 26 = .ok (.if_icmp .ge 28, 3) := by decide +kernel
theorem dX2_solveFor_29 : decode cX2_solveFor 29 = .ok (.aload_n 0, 1) := by decide +kernel
theorem dX2_solveFor_30 : decode cX2_solveFor 30 = .ok (.getfield 18, 3) := by decide +kernel
theorem dX2_solveFor_33 : decode cX2_solveFor 33 = .ok (.iload_n 3, 1) := by decide +kernel
theorem dX2_solveFor_34 : decode cX2_solveFor 34 = .ok (.iload 4, 2) := by decide +kernel
theorem dX2_solveFor_36 : decode cX2_solveFor 36 = .ok (.iadd, 1) := by decide +kernel
theorem dX2_solveFor_37 : decode cX2_solveFor 37 = .ok (.iload_n 2, 1) := by decide +kernel
theorem dX2_solveFor_38 : decode cX2_solveFor 38 = .ok (.ifCond .eq 7, 3) := by decide +kernel
theorem dX2_solveFor_41 : decode cX2_solveFor 41 = .ok (.iconst 0, 1) := by decide +kernel
theorem dX2_solveFor_42 : decode cX2_solveFor 42 = .ok (.goto 5, 3) := by decide +kernel
theorem dX2_solveFor_45 : decode cX2_solveFor 45 = .ok (.ldc 49, 2) := by decide +kernel
theorem dX2_solveFor_47 : decode cX2_solveFor 47 = .ok (.iastore, 1) := by decide +kernel
theorem dX2_solveFor_48 : decode cX2_solveFor 48 = .ok (.iinc 4 1, 3) := by decide +kernel
theorem dX2_solveFor_51 : decode cX2_solveFor 51 = .ok (.goto (-29), 3) := by decide +kernel
theorem dX2_solveFor_54 : decode cX2_solveFor 54 = .ok (.ldc 49, 2) := by decide +kernel
theorem dX2_solveFor_56 : decode cX2_solveFor 56 = .ok (.istore 4, 2) := by decide +kernel
theorem dX2_solveFor_58 : decode cX2_solveFor 58 = .ok (.ldc 49, 2) := by decide +kernel
theorem dX2_solveFor_60 : decode cX2_solveFor 60 = .ok (.istore 5, 2) := by decide +kernel
theorem dX2_solveFor_62 : decode cX2_solveFor 62 = .ok (.iconst 0, 1) := by decide +kernel
theorem dX2_solveFor_63 : decode cX2_solveFor 63 = .ok (.istore 6, 2) := by decide +kernel
theorem dX2_solveFor_65 : decode cX2_solveFor 65 = .ok (.iload 6, 2) := by decide +kernel
theorem dX2_solveFor_67 : decode cX2_solveFor 67 = .ok (.bipush 12, 2) := by decide +kernel
theorem dX2_solveFor_69 : decode cX2_solveFor 69 = .ok (.if_icmp .ge 91, 3) := by decide +kernel
theorem dX2_solveFor_72 : decode cX2_solveFor 72 = .ok (.iload_n 2, 1) := by decide +kernel
theorem dX2_solveFor_73 : decode cX2_solveFor 73 = .ok (.ifCond .ne 87, 3) := by decide +kernel
theorem dX2_solveFor_76 : decode cX2_solveFor 76 = .ok (.aload_n 0, 1) := by decide +kernel
theorem dX2_solveFor_77 : decode cX2_solveFor 77 = .ok (.iload 6, 2) := by decide +kernel
theorem dX2_solveFor_79 : decode cX2_solveFor 79 = .ok (.iload_n 1, 1) := by decide +kernel
theorem dX2_solveFor_80 : decode cX2_solveFor 80 = .ok (.invokevirtual 53, 3) := by decide +kernel
theorem dX2_solveFor_83 : decode cX2_solveFor 83 = .ok (.ifCond .eq 71, 3) := by decide +kernel
theorem dX2_solveFor_86 : decode cX2_solveFor 86 = .ok (.iload_n 1, 1) := by decide +kernel
theorem dX2_solveFor_87 : decode cX2_solveFor 87 = .ok (.aload_n 0, 1) := by decide +kernel
theorem dX2_solveFor_88 : decode cX2_solveFor 88 = .ok (.getfield 25, 3) := by decide +kernel
theorem dX2_solveFor_91 : decode cX2_solveFor 91 = .ok (.getfield 57, 3) := by decide +kernel
theorem dX2_solveFor_94 : decode cX2_solveFor 94 = .ok (.iload 6, 2) := by decide +kernel
theorem dX2_solveFor_96 : decode cX2_solveFor 96 = .ok (.iaload, 1) := by decide +kernel
theorem dX2_solveFor_97 : decode cX2_solveFor 97 = .ok (.iand, 1) := by decide +kernel
theorem dX2_solveFor_98 : decode cX2_solveFor 98 = .ok (.istore 7, 2) := by decide +kernel
theorem dX2_solveFor_100 : decode cX2_solveFor 100 = .ok (.iload 4, 2) := by decide +kernel
theorem dX2_solveFor_102 : decode cX2_solveFor 102 = .ok (.aload_n 0, 1) := by decide +kernel
theorem dX2_solveFor_103 : decode cX2_solveFor 103 = .ok (.iload 6, 2) := by decide +kernel
theorem dX2_solveFor_105 : decode cX2_solveFor 105 = .ok (.iload_n 1, 1) := by decide +kernel
theorem dX2_solveFor_106 : decode cX2_solveFor 106 = .ok (.invokevirtual 66, 3) := by decide +kernel
theorem dX2_solveFor_109 : decode cX2_solveFor 109 = .ok (.invokestatic 70, 3) := by decide +kernel
theorem dX2_solveFor_112 : decode cX2_solveFor 112 = .ok (.istore 4, 2) := by decide +kernel
theorem dX2_solveFor_114 : decode cX2_solveFor 114 = .ok (.iload 5, 2) := by decide +kernel
theorem dX2_solveFor_116 : decode cX2_solveFor 116 = .ok (.aload_n 0, 1) := by decide +kernel
theorem dX2_solveFor_117 : decode cX2_solveFor 117 = .ok (.getfield 15, 3) := by decide +kernel
theorem dX2_solveFor_120 : decode cX2_solveFor 120 = .ok (.iload 7, 2) := by decide +kernel
theorem dX2_solveFor_122 : decode cX2_solveFor 122 = .ok (.iaload, 1) := by decide +kernel
theorem dX2_solveFor_123 : decode cX2_solveFor 123 = .ok (.aload_n 0, 1) := by decide +kernel
theorem dX2_solveFor_124 : decode cX2_solveFor 124 = .ok (.getfield 15, 3) := by decide +kernel
theorem dX2_solveFor_127 : decode cX2_solveFor 127 = .ok (.iload_n 1, 1) := by decide +kernel
theorem dX2_solveFor_128 : decode cX2_solveFor 128 = .ok (.iload 7, 2) := by decide +kernel
theorem dX2_solveFor_130 : decode cX2_solveFor 130 = .ok (.ixor, 1) := by decide +kernel
theorem dX2_solveFor_131 : decode cX2_solveFor 131 = .ok (.iaload, 1) := by decide +kernel
theorem dX2_solveFor_132 : decode cX2_solveFor 132 = .ok (.iadd, 1) := by decide +kernel
theorem dX2_solveFor_133 : decode cX2_solveFor 133 = .ok (.invokestatic 70, 3) := by decide +kernel
theorem dX2_solveFor_136 : decode cX2_solveFor 136 = .ok (.istore 5, 2) := by decide +kernel
theorem dX2_solveFor_138 : decode cX2_solveFor 138 = .ok (.aload_n 0, 1) := by decide +kernel
theorem dX2_solveFor_139 : decode cX2_solveFor 139 = .ok (.getfield 18, 3) := by decide +kernel
theorem dX2_solveFor_142 : decode cX2_solveFor 142 = .ok (.iload_n 3, 1) := by decide +kernel
theorem dX2_solveFor_143 : decode cX2_solveFor 143 = .ok (.iload 6, 2) := by decide +kernel
theorem dX2_solveFor_145 : decode cX2_solveFor 145 = .ok (.iadd, 1) := by decide +kernel
theorem dX2_solveFor_146 : decode cX2_solveFor 146 = .ok (.aload_n 0, 1) := by decide +kernel
theorem dX2_solveFor_147 : decode cX2_solveFor 147 = .ok (.iload 6, 2) := by decide +kernel
theorem dX2_solveFor_149 : decode cX2_solveFor 149 = .ok (.iload_n 1, 1) := by decide +kernel
theorem dX2_solveFor_150 : decode cX2_solveFor 150 = .ok (.invokevirtual 75, 3) := by decide +kernel
theorem dX2_solveFor_153 : decode cX2_solveFor 153 = .ok (.iastore, 1) := by decide +kernel
theorem dX2_solveFor_154 : decode cX2_solveFor 154 = .ok (.iinc 6 1, 3) := by decide +kernel
theorem dX2_solveFor_157 : decode cX2_solveFor 157 = .ok (.goto (-92), 3) := by decide +kernel
theorem dX2_solveFor_160 : decode cX2_solveFor 160 = .ok (.aload_n 0, 1) := by decide +kernel
theorem dX2_solveFor_161 : decode cX2_solveFor 161 = .ok (.getfield 9, 3) := by decide +kernel
theorem dX2_solveFor_164 : decode cX2_solveFor 164 = .ok (.iload_n 1, 1) := by decide +kernel
theorem dX2_solveFor_165 : decode cX2_solveFor 165 = .ok (.iload_n 2, 1) := by decide +kernel
theorem dX2_solveFor_166 : decode cX2_solveFor 166 = .ok (.ifCond .eq 7, 3) := by decide +kernel
theorem dX2_solveFor_169 : decode cX2_solveFor 169 = .ok (.iconst 0, 1) := by decide +kernel
theorem dX2_solveFor_170 : decode cX2_solveFor 170 = .ok (.goto 5, 3) := by decide +kernel
theorem dX2_solveFor_173 : decode cX2_solveFor 173 = .ok (.iload 4, 2) := by decide +kernel
theorem dX2_solveFor_175 : decode cX2_solveFor 175 = .ok (.iastore, 1) := by decide +kernel
theorem dX2_solveFor_176 : decode cX2_solveFor 176 = .ok (.aload_n 0, 1) := by decide +kernel
theorem dX2_solveFor_177 : decode cX2_solveFor 177 = .ok (.getfield 15, 3) := by decide +kernel
theorem dX2_solveFor_180 : decode cX2_solveFor 180 = .ok (.iload_n 1, 1) := by decide +kernel
theorem dX2_solveFor_181 : decode cX2_solveFor 181 = .ok (.iload_n 2, 1) := by decide +kernel
theorem dX2_solveFor_182 : decode cX2_solveFor 182 = .ok (.ifCond .eq 7, 3) := by decide +kernel
theorem dX2_solveFor_185 : decode cX2_solveFor 185 = .ok (.iconst 0, 1) := by decide +kernel
theorem dX2_solveFor_186 : decode cX2_solveFor 186 = .ok (.goto 14, 3) := by decide +kernel
theorem dX2_solveFor_189 : decode cX2_solveFor 189 = .ok (.iload 5, 2) := by decide +kernel
theorem dX2_solveFor_191 : decode cX2_solveFor 191 = .ok (.aload_n 0, 1) := by decide +kernel
theorem dX2_solveFor_192 : decode cX2_solveFor 192 = .ok (.getfield 25, 3) := by decide +kernel
theorem dX2_solveFor_195 : decode cX2_solveFor 195 = .ok (.iload_n 1, 1) := by decide +kernel
theorem dX2_solveFor_196 : decode cX2_solveFor 196 = .ok (.invokevirtual 78, 3) := by decide +kernel
theorem dX2_solveFor_199 : decode cX2_solveFor 199 = .ok (.iadd, 1) := by decide +kernel
theorem dX2_solveFor_200 : decode cX2_solveFor 200 = .ok (.iastore, 1) := by decide +kernel
theorem dX2_solveFor_201 : decode cX2_solveFor 201 = .ok (.iload_n 2, 1) := by decide +kernel
theorem dX2_solveFor_202 : decode cX2_solveFor 202 = .ok (.ifCond .ne 8, 3) := by decide +kernel
theorem dX2_solveFor_205 : decode cX2_solveFor 205 = .ok (.aload_n 0, 1) := by decide +kernel
theorem dX2_solveFor_206 : decode cX2_solveFor 206 = .ok (.iload_n 3, 1) := by decide +kernel
theorem dX2_solveFor_207 : decode cX2_solveFor 207 = .ok (.invokevirtual 81, 3) := by decide +kernel
theorem dX2_solveFor_210 : decode cX2_solveFor 210 = .ok (.return_, 1) := by decide +kernel
theorem dX2_walkToLids_0 : decode cX2_walkToLids 0 = .ok (.bipush 11, 2) := by decide +kernel
theorem dX2_walkToLids_2 : decode cX2_walkToLids 2 = .ok (.istore_n 2, 1) := by decide +kernel
theorem dX2_walkToLids_3 : decode cX2_walkToLids 3 = .ok (.iload_n 2, 1) := by decide +kernel
theorem dX2_walkToLids_4 : decode cX2_walkToLids 4 = .ok (.ifCond .le 33, 3) := by decide +kernel
theorem dX2_walkToLids_7 : decode cX2_walkToLids 7 = .ok (.aload_n 0, 1) := by decide +kernel
theorem dX2_walkToLids_8 : decode cX2_walkToLids 8 = .ok (.iload_n 1, 1) := by decide +kernel
theorem dX2_walkToLids_9 : decode cX2_walkToLids 9 = .ok (.aload_n 0, 1) := by decide +kernel
theorem dX2_walkToLids_10 : decode cX2_walkToLids 10 = .ok (.getfield 21, 3) := by decide +kernel
theorem dX2_walkToLids_13 : decode cX2_walkToLids 13 = .ok (.getfield 84, 3) := by decide +kernel
theorem dX2_walkToLids_16 : decode cX2_walkToLids 16 = .ok (.iload_n 2, 1) := by decide +kernel
theorem dX2_walkToLids_17 : decode cX2_walkToLids 17 = .ok (.iaload, 1) := by decide +kernel
theorem dX2_walkToLids_18 : decode cX2_walkToLids 18 = .ok (.iload_n 2, 1) := by decide +kernel
theorem dX2_walkToLids_19 : decode cX2_walkToLids 19 = .ok (.aload_n 0, 1) := by decide +kernel
theorem dX2_walkToLids_20 : decode cX2_walkToLids 20 = .ok (.getfield 21, 3) := by decide +kernel
theorem dX2_walkToLids_23 : decode cX2_walkToLids 23 = .ok (.getfield 89, 3) := by decide +kernel
theorem dX2_walkToLids_26 : decode cX2_walkToLids 26 = .ok (.iload_n 2, 1) := by decide +kernel
theorem dX2_walkToLids_27 : decode cX2_walkToLids 27 = .ok (.iaload, 1) := by decide +kernel
theorem dX2_walkToLids_28 : decode cX2_walkToLids 28 = .ok (.invokevirtual 92, 3) := by decide +kernel
theorem dX2_walkToLids_31 : decode cX2_walkToLids 31 = .ok (.iinc 2 (-1), 3) := by decide +kernel
theorem dX2_walkToLids_34 : decode cX2_walkToLids 34 = .ok (.goto (-31), 3) := by decide +kernel
theorem dX2_walkToLids_37 : decode cX2_walkToLids 37 = .ok (.iconst 1, 1) := by decide +kernel
theorem dX2_walkToLids_38 : decode cX2_walkToLids 38 = .ok (.istore_n 2, 1) := by decide +kernel
theorem dX2_walkToLids_39 : decode cX2_walkToLids 39 = .ok (.iload_n 2, 1) := by decide +kernel
theorem dX2_walkToLids_40 : decode cX2_walkToLids 40 = .ok (.bipush 12, 2) := by decide +kernel
theorem dX2_walkToLids_42 : decode cX2_walkToLids 42 = .ok (.if_icmp .ge 33, 3) := by decide +kernel
theorem dX2_walkToLids_45 : decode cX2_walkToLids 45 = .ok (.aload_n 0, 1) := by decide +kernel
theorem dX2_walkToLids_46 : decode cX2_walkToLids 46 = .ok (.iload_n 1, 1) := by decide +kernel
theorem dX2_walkToLids_47 : decode cX2_walkToLids 47 = .ok (.iload_n 2, 1) := by decide +kernel
theorem dX2_walkToLids_48 : decode cX2_walkToLids 48 = .ok (.aload_n 0, 1) := by decide +kernel
theorem dX2_walkToLids_49 : decode cX2_walkToLids 49 = .ok (.getfield 21, 3) := by decide +kernel
theorem dX2_walkToLids_52 : decode cX2_walkToLids 52 = .ok (.getfield 84, 3) := by decide +kernel
theorem dX2_walkToLids_55 : decode cX2_walkToLids 55 = .ok (.iload_n 2, 1) := by decide +kernel
theorem dX2_walkToLids_56 : decode cX2_walkToLids 56 = .ok (.iaload, 1) := by decide +kernel
theorem dX2_walkToLids_57 : decode cX2_walkToLids 57 = .ok (.aload_n 0, 1) := by decide +kernel
theorem dX2_walkToLids_58 : decode cX2_walkToLids 58 = .ok (.getfield 21, 3) := by decide +kernel
theorem dX2_walkToLids_61 : decode cX2_walkToLids 61 = .ok (.getfield 89, 3) := by decide +kernel
theorem dX2_walkToLids_64 : decode cX2_walkToLids 64 = .ok (.iload_n 2, 1) := by decide +kernel
theorem dX2_walkToLids_65 : decode cX2_walkToLids 65 = .ok (.iaload, 1) := by decide +kernel
theorem dX2_walkToLids_66 : decode cX2_walkToLids 66 = .ok (.invokevirtual 92, 3) := by decide +kernel
theorem dX2_walkToLids_69 : decode cX2_walkToLids 69 = .ok (.iinc 2 1, 3) := by decide +kernel
theorem dX2_walkToLids_72 : decode cX2_walkToLids 72 = .ok (.goto (-33), 3) := by decide +kernel
theorem dX2_walkToLids_75 : decode cX2_walkToLids 75 = .ok (.return_, 1) := by decide +kernel
theorem dX2_shorten_0 : decode cX2_shorten 0 = .ok (.iload_n 2, 1) := by decide +kernel
theorem dX2_shorten_1 : decode cX2_shorten 1 = .ok (.ifCond .lt 37, 3) := by decide +kernel
theorem dX2_shorten_4 : decode cX2_shorten 4 = .ok (.iload_n 3, 1) := by decide +kernel
theorem dX2_shorten_5 : decode cX2_shorten 5 = .ok (.ifCond .lt 33, 3) := by decide +kernel
theorem dX2_shorten_8 : decode cX2_shorten 8 = .ok (.aload_n 0, 1) := by decide +kernel
theorem dX2_shorten_9 : decode cX2_shorten 9 = .ok (.getfield 18, 3) := by decide +kernel
theorem dX2_shorten_12 : decode cX2_shorten 12 = .ok (.iload_n 1, 1) := by decide +kernel
theorem dX2_shorten_13 : decode cX2_shorten 13 = .ok (.iload_n 2, 1) := by decide +kernel
theorem dX2_shorten_14 : decode cX2_shorten 14 = .ok (.iadd, 1) := by decide +kernel
theorem dX2_shorten_15 : decode cX2_shorten 15 = .ok (.aload_n 0, 1) := by decide +kernel
theorem dX2_shorten_16 : decode cX2_shorten 16 = .ok (.getfield 18, 3) := by decide +kernel
theorem dX2_shorten_19 : decode cX2_shorten 19 = .ok (.iload_n 1, 1) := by decide +kernel
theorem dX2_shorten_20 : decode cX2_shorten 20 = .ok (.iload_n 2, 1) := by decide +kernel
theorem dX2_shorten_21 : decode cX2_shorten 21 = .ok (.iadd, 1) := by decide +kernel
theorem dX2_shorten_22 : decode cX2_shorten 22 = .ok (.iaload, 1) := by decide +kernel
theorem dX2_shorten_23 : decode cX2_shorten 23 = .ok (.aload_n 0, 1) := by decide +kernel
theorem dX2_shorten_24 : decode cX2_shorten 24 = .ok (.getfield 18, 3) := by decide +kernel
theorem dX2_shorten_27 : decode cX2_shorten 27 = .ok (.iload_n 1, 1) := by decide +kernel
theorem dX2_shorten_28 : decode cX2_shorten 28 = .ok (.iload_n 3, 1) := by decide +kernel
theorem dX2_shorten_29 : decode cX2_shorten 29 = .ok (.iadd, 1) := by decide +kernel
theorem dX2_shorten_30 : decode cX2_shorten 30 = .ok (.iaload, 1) := by decide +kernel
theorem dX2_shorten_31 : decode cX2_shorten 31 = .ok (.iload 4, 2) := by decide +kernel
theorem dX2_shorten_33 : decode cX2_shorten 33 = .ok (.iadd, 1) := by decide +kernel
theorem dX2_shorten_34 : decode cX2_shorten 34 = .ok (.invokestatic 70, 3) := by decide +kernel
theorem dX2_shorten_37 : decode cX2_shorten 37 = .ok (.iastore, 1) := by decide +kernel
theorem dX2_shorten_38 : decode cX2_shorten 38 = .ok (.return_, 1) := by decide +kernel
theorem dX2_splits_0 : decode cX2_splits 0 = .ok (.iload_n 2, 1) := by decide +kernel
theorem dX2_splits_1 : decode cX2_splits 1 = .ok (.aload_n 0, 1) := by decide +kernel
theorem dX2_splits_2 : decode cX2_splits 2 = .ok (.getfield 25, 3) := by decide +kernel
theorem dX2_splits_5 : decode cX2_splits 5 = .ok (.getfield 57, 3) := by decide +kernel
theorem dX2_splits_8 : decode cX2_splits 8 = .ok (.iload_n 1, 1) := by decide +kernel
theorem dX2_splits_9 : decode cX2_splits 9 = .ok (.iaload, 1) := by decide +kernel
theorem dX2_splits_10 : decode cX2_splits 10 = .ok (.iand, 1) := by decide +kernel
theorem dX2_splits_11 : decode cX2_splits 11 = .ok (.istore_n 3, 1) := by decide +kernel
theorem dX2_splits_12 : decode cX2_splits 12 = .ok (.iload_n 3, 1) := by decide +kernel
theorem dX2_splits_13 : decode cX2_splits 13 = .ok (.ifCond .eq 12, 3) := by decide +kernel
theorem dX2_splits_16 : decode cX2_splits 16 = .ok (.iload_n 3, 1) := by decide +kernel
theorem dX2_splits_17 : decode cX2_splits 17 = .ok (.iload_n 2, 1) := by decide +kernel
theorem dX2_splits_18 : decode cX2_splits 18 = .ok (.if_icmp .eq 7, 3) := by decide +kernel
theorem dX2_splits_21 : decode cX2_splits 21 = .ok (.iconst 1, 1) := by decide +kernel
theorem dX2_splits_22 : decode cX2_splits 22 = .ok (.goto 4, 3) := by decide +kernel
theorem dX2_splits_25 : decode cX2_splits 25 = .ok (.iconst 0, 1) := by decide +kernel
theorem dX2_splits_26 : decode cX2_splits 26 = .ok (.ireturn, 1) := by decide +kernel
theorem dX2_lidsBy_0 : decode cX2_lidsBy 0 = .ok (.iload_n 2, 1) := by decide +kernel
theorem dX2_lidsBy_1 : decode cX2_lidsBy 1 = .ok (.aload_n 0, 1) := by decide +kernel
theorem dX2_lidsBy_2 : decode cX2_lidsBy 2 = .ok (.getfield 25, 3) := by decide +kernel
theorem dX2_lidsBy_5 : decode cX2_lidsBy 5 = .ok (.getfield 57, 3) := by decide +kernel
theorem dX2_lidsBy_8 : decode cX2_lidsBy 8 = .ok (.iload_n 1, 1) := by decide +kernel
theorem dX2_lidsBy_9 : decode cX2_lidsBy 9 = .ok (.iaload, 1) := by decide +kernel
theorem dX2_lidsBy_10 : decode cX2_lidsBy 10 = .ok (.iand, 1) := by decide +kernel
theorem dX2_lidsBy_11 : decode cX2_lidsBy 11 = .ok (.istore_n 3, 1) := by decide +kernel
theorem dX2_lidsBy_12 : decode cX2_lidsBy 12 = .ok (.iconst 1, 1) := by decide +kernel
theorem dX2_lidsBy_13 : decode cX2_lidsBy 13 = .ok (.aload_n 0, 1) := by decide +kernel
theorem dX2_lidsBy_14 : decode cX2_lidsBy 14 = .ok (.getfield 9, 3) := by decide +kernel
theorem dX2_lidsBy_17 : decode cX2_lidsBy 17 = .ok (.iload_n 3, 1) := by decide +kernel
theorem dX2_lidsBy_18 : decode cX2_lidsBy 18 = .ok (.iaload, 1) := by decide +kernel
theorem dX2_lidsBy_19 : decode cX2_lidsBy 19 = .ok (.aload_n 0, 1) := by decide +kernel
theorem dX2_lidsBy_20 : decode cX2_lidsBy 20 = .ok (.getfield 9, 3) := by decide +kernel
theorem dX2_lidsBy_23 : decode cX2_lidsBy 23 = .ok (.iload_n 2, 1) := by decide +kernel
theorem dX2_lidsBy_24 : decode cX2_lidsBy 24 = .ok (.iload_n 3, 1) := by decide +kernel
theorem dX2_lidsBy_25 : decode cX2_lidsBy 25 = .ok (.ixor, 1) := by decide +kernel
theorem dX2_lidsBy_26 : decode cX2_lidsBy 26 = .ok (.iaload, 1) := by decide +kernel
theorem dX2_lidsBy_27 : decode cX2_lidsBy 27 = .ok (.invokestatic 96, 3) := by decide +kernel
theorem dX2_lidsBy_30 : decode cX2_lidsBy 30 = .ok (.iadd, 1) := by decide +kernel
theorem dX2_lidsBy_31 : decode cX2_lidsBy 31 = .ok (.ireturn, 1) := by decide +kernel
theorem dX2_minutesBy_0 : decode cX2_minutesBy 0 = .ok (.iload_n 2, 1) := by decide +kernel
theorem dX2_minutesBy_1 : decode cX2_minutesBy 1 = .ok (.aload_n 0, 1) := by decide +kernel
theorem dX2_minutesBy_2 : decode cX2_minutesBy 2 = .ok (.getfield 25, 3) := by decide +kernel
theorem dX2_minutesBy_5 : decode cX2_minutesBy 5 = .ok (.getfield 57, 3) := by decide +kernel
theorem dX2_minutesBy_8 : decode cX2_minutesBy 8 = .ok (.iload_n 1, 1) := by decide +kernel
theorem dX2_minutesBy_9 : decode cX2_minutesBy 9 = .ok (.iaload, 1) := by decide +kernel
theorem dX2_minutesBy_10 : decode cX2_minutesBy 10 = .ok (.iand, 1) := by decide +kernel
theorem dX2_minutesBy_11 : decode cX2_minutesBy 11 = .ok (.istore_n 3, 1) := by decide +kernel
theorem dX2_minutesBy_12 : decode cX2_minutesBy 12 = .ok (.aload_n 0, 1) := by decide +kernel
theorem dX2_minutesBy_13 : decode cX2_minutesBy 13 = .ok (.getfield 18, 3) := by decide +kernel
theorem dX2_minutesBy_16 : decode cX2_minutesBy 16 = .ok (.iload_n 3, 1) := by decide +kernel
theorem dX2_minutesBy_17 : decode cX2_minutesBy 17 = .ok (.bipush 12, 2) := by decide +kernel
theorem dX2_minutesBy_19 : decode cX2_minutesBy 19 = .ok (.imul, 1) := by decide +kernel
theorem dX2_minutesBy_20 : decode cX2_minutesBy 20 = .ok (.iload_n 1, 1) := by decide +kernel
theorem dX2_minutesBy_21 : decode cX2_minutesBy 21 = .ok (.iadd, 1) := by decide +kernel
theorem dX2_minutesBy_22 : decode cX2_minutesBy 22 = .ok (.iaload, 1) := by decide +kernel
theorem dX2_minutesBy_23 : decode cX2_minutesBy 23 = .ok (.istore 4, 2) := by decide +kernel
theorem dX2_minutesBy_25 : decode cX2_minutesBy 25 = .ok (.aload_n 0, 1) := by decide +kernel
theorem dX2_minutesBy_26 : decode cX2_minutesBy 26 = .ok (.getfield 18, 3) := by decide +kernel
theorem dX2_minutesBy_29 : decode cX2_minutesBy 29 = .ok (.iload_n 2, 1) := by decide +kernel
theorem dX2_minutesBy_30 : decode cX2_minutesBy 30 = .ok (.iload_n 3, 1) := by decide +kernel
theorem dX2_minutesBy_31 : decode cX2_minutesBy 31 = .ok (.ixor, 1) := by decide +kernel
theorem dX2_minutesBy_32 : decode cX2_minutesBy 32 = .ok (.bipush 12, 2) := by decide +kernel
theorem dX2_minutesBy_34 : decode cX2_minutesBy 34 = .ok (.imul, 1) := by decide +kernel
theorem dX2_minutesBy_35 : decode cX2_minutesBy 35 = .ok (.iload_n 1, 1) := by decide +kernel
theorem dX2_minutesBy_36 : decode cX2_minutesBy 36 = .ok (.iadd, 1) := by decide +kernel
theorem dX2_minutesBy_37 : decode cX2_minutesBy 37 = .ok (.iaload, 1) := by decide +kernel
theorem dX2_minutesBy_38 : decode cX2_minutesBy 38 = .ok (.istore 5, 2) := by decide +kernel
theorem dX2_minutesBy_40 : decode cX2_minutesBy 40 = .ok (.aload_n 0, 1) := by decide +kernel
theorem dX2_minutesBy_41 : decode cX2_minutesBy 41 = .ok (.getfield 21, 3) := by decide +kernel
theorem dX2_minutesBy_44 : decode cX2_minutesBy 44 = .ok (.getfield 99, 3) := by decide +kernel
theorem dX2_minutesBy_47 : decode cX2_minutesBy 47 = .ok (.iload 4, 2) := by decide +kernel
theorem dX2_minutesBy_49 : decode cX2_minutesBy 49 = .ok (.iload 5, 2) := by decide +kernel
theorem dX2_minutesBy_51 : decode cX2_minutesBy 51 = .ok (.invokestatic 96, 3) := by decide +kernel
theorem dX2_minutesBy_54 : decode cX2_minutesBy 54 = .ok (.iadd, 1) := by decide +kernel
theorem dX2_minutesBy_55 : decode cX2_minutesBy 55 = .ok (.ireturn, 1) := by decide +kernel
theorem dX2_firstOfFewest_0 : decode cX2_firstOfFewest 0 = .ok (.aload_n 0, 1) := by decide +kernel
theorem dX2_firstOfFewest_1 : decode cX2_firstOfFewest 1 = .ok (.getfield 25, 3) := by decide +kernel
theorem dX2_firstOfFewest_4 : decode cX2_firstOfFewest 4 = .ok (.getfield 33, 3) := by decide +kernel
theorem dX2_firstOfFewest_7 : decode cX2_firstOfFewest 7 = .ok (.istore_n 1, 1) := by decide +kernel
theorem dX2_firstOfFewest_8 : decode cX2_firstOfFewest 8 = .ok (.iconst 0, 1) := by decide +kernel
theorem dX2_firstOfFewest_9 : decode cX2_firstOfFewest 9 = .ok (.istore_n 2, 1) := by decide +kernel
theorem dX2_firstOfFewest_10 : decode cX2_firstOfFewest 10 = .ok (.iload_n 2, 1) := by decide +kernel
theorem dX2_firstOfFewest_11 : decode cX2_firstOfFewest 11 = .ok (.bipush 12, 2) := by decide +kernel
theorem dX2_firstOfFewest_13 : decode cX2_firstOfFewest 13 = .ok (.if_icmp .ge 35, 3) := by decide +kernel
theorem dX2_firstOfFewest_16 : decode cX2_firstOfFewest 16 = .ok (.aload_n 0, 1) := by decide +kernel
theorem dX2_firstOfFewest_17 : decode cX2_firstOfFewest 17 = .ok (.iload_n 2, 1) := by decide +kernel
theorem dX2_firstOfFewest_18 : decode cX2_firstOfFewest 18 = .ok (.iload_n 1, 1) := by decide +kernel
theorem dX2_firstOfFewest_19 : decode cX2_firstOfFewest 19 = .ok (.invokevirtual 53, 3) := by decide +kernel
theorem dX2_firstOfFewest_22 : decode cX2_firstOfFewest 22 = .ok (.ifCond .eq 20, 3) := by decide +kernel
theorem dX2_firstOfFewest_25 : decode cX2_firstOfFewest 25 = .ok (.aload_n 0, 1) := by decide +kernel
theorem dX2_firstOfFewest_26 : decode cX2_firstOfFewest 26 = .ok (.iload_n 2, 1) := by decide +kernel
theorem dX2_firstOfFewest_27 : decode cX2_firstOfFewest 27 = .ok (.iload_n 1, 1) := by decide +kernel
theorem dX2_firstOfFewest_28 : decode cX2_firstOfFewest 28 = .ok (.invokevirtual 66, 3) := by decide +kernel
theorem dX2_firstOfFewest_31 : decode cX2_firstOfFewest 31 = .ok (.aload_n 0, 1) := by decide +kernel
theorem dX2_firstOfFewest_32 : decode cX2_firstOfFewest 32 = .ok (.getfield 9, 3) := by decide +kernel
theorem dX2_firstOfFewest_35 : decode cX2_firstOfFewest 35 = .ok (.iload_n 1, 1) := by decide +kernel
theorem dX2_firstOfFewest_36 : decode cX2_firstOfFewest 36 = .ok (.iaload, 1) := by decide +kernel
theorem dX2_firstOfFewest_37 : decode cX2_firstOfFewest 37 = .ok (.if_icmp .ne 5, 3) := by decide +kernel
theorem dX2_firstOfFewest_40 : decode cX2_firstOfFewest 40 = .ok (.iload_n 2, 1) := by decide +kernel
theorem dX2_firstOfFewest_41 : decode cX2_firstOfFewest 41 = .ok (.ireturn, 1) := by decide +kernel
theorem dX2_firstOfFewest_42 : decode cX2_firstOfFewest 42 = .ok (.iinc 2 1, 3) := by decide +kernel
theorem dX2_firstOfFewest_45 : decode cX2_firstOfFewest 45 = .ok (.goto (-35), 3) := by decide +kernel
theorem dX2_firstOfFewest_48 : decode cX2_firstOfFewest 48 = .ok (.iconst (-1), 1) := by decide +kernel
theorem dX2_firstOfFewest_49 : decode cX2_firstOfFewest 49 = .ok (.ireturn, 1) := by decide +kernel
theorem dX2_nextLid_0 : decode cX2_nextLid 0 = .ok (.iconst 0, 1) := by decide +kernel
theorem dX2_nextLid_1 : decode cX2_nextLid 1 = .ok (.istore_n 3, 1) := by decide +kernel
theorem dX2_nextLid_2 : decode cX2_nextLid 2 = .ok (.iload_n 3, 1) := by decide +kernel
theorem dX2_nextLid_3 : decode cX2_nextLid 3 = .ok (.bipush 12, 2) := by decide +kernel
theorem dX2_nextLid_5 : decode cX2_nextLid 5 = .ok (.if_icmp .ge 54, 3) := by decide +kernel
theorem dX2_nextLid_8 : decode cX2_nextLid 8 = .ok (.aload_n 0, 1) := by decide +kernel
theorem dX2_nextLid_9 : decode cX2_nextLid 9 = .ok (.iload_n 3, 1) := by decide +kernel
theorem dX2_nextLid_10 : decode cX2_nextLid 10 = .ok (.iload_n 2, 1) := by decide +kernel
theorem dX2_nextLid_11 : decode cX2_nextLid 11 = .ok (.invokevirtual 53, 3) := by decide +kernel
theorem dX2_nextLid_14 : decode cX2_nextLid 14 = .ok (.ifCond .eq 39, 3) := by decide +kernel
theorem dX2_nextLid_17 : decode cX2_nextLid 17 = .ok (.aload_n 0, 1) := by decide +kernel
theorem dX2_nextLid_18 : decode cX2_nextLid 18 = .ok (.getfield 25, 3) := by decide +kernel
theorem dX2_nextLid_21 : decode cX2_nextLid 21 = .ok (.iload_n 1, 1) := by decide +kernel
theorem dX2_nextLid_22 : decode cX2_nextLid 22 = .ok (.iload_n 3, 1) := by decide +kernel
theorem dX2_nextLid_23 : decode cX2_nextLid 23 = .ok (.invokevirtual 102, 3) := by decide +kernel
theorem dX2_nextLid_26 : decode cX2_nextLid 26 = .ok (.aload_n 0, 1) := by decide +kernel
theorem dX2_nextLid_27 : decode cX2_nextLid 27 = .ok (.iload_n 3, 1) := by decide +kernel
theorem dX2_nextLid_28 : decode cX2_nextLid 28 = .ok (.iload_n 2, 1) := by decide +kernel
theorem dX2_nextLid_29 : decode cX2_nextLid 29 = .ok (.invokevirtual 75, 3) := by decide +kernel
theorem dX2_nextLid_32 : decode cX2_nextLid 32 = .ok (.iadd, 1) := by decide +kernel
theorem dX2_nextLid_33 : decode cX2_nextLid 33 = .ok (.istore 4, 2) := by decide +kernel
theorem dX2_nextLid_35 : decode cX2_nextLid 35 = .ok (.iload 4, 2) := by decide +kernel
theorem dX2_nextLid_37 : decode cX2_nextLid 37 = .ok (.aload_n 0, 1) := by decide +kernel
theorem dX2_nextLid_38 : decode cX2_nextLid 38 = .ok (.getfield 18, 3) := by decide +kernel
theorem dX2_nextLid_41 : decode cX2_nextLid 41 = .ok (.iload_n 2, 1) := by decide +kernel
theorem dX2_nextLid_42 : decode cX2_nextLid 42 = .ok (.bipush 12, 2) := by decide +kernel
theorem dX2_nextLid_44 : decode cX2_nextLid 44 = .ok (.imul, 1) := by decide +kernel
theorem dX2_nextLid_45 : decode cX2_nextLid 45 = .ok (.iload_n 1, 1) := by decide +kernel
theorem dX2_nextLid_46 : decode cX2_nextLid 46 = .ok (.iadd, 1) := by decide +kernel
theorem dX2_nextLid_47 : decode cX2_nextLid 47 = .ok (.iaload, 1) := by decide +kernel
theorem dX2_nextLid_48 : decode cX2_nextLid 48 = .ok (.if_icmp .ne 5, 3) := by decide +kernel
theorem dX2_nextLid_51 : decode cX2_nextLid 51 = .ok (.iload_n 3, 1) := by decide +kernel
theorem dX2_nextLid_52 : decode cX2_nextLid 52 = .ok (.ireturn, 1) := by decide +kernel
theorem dX2_nextLid_53 : decode cX2_nextLid 53 = .ok (.iinc 3 1, 3) := by decide +kernel
theorem dX2_nextLid_56 : decode cX2_nextLid 56 = .ok (.goto (-54), 3) := by decide +kernel
theorem dX2_nextLid_59 : decode cX2_nextLid 59 = .ok (.iconst (-1), 1) := by decide +kernel
theorem dX2_nextLid_60 : decode cX2_nextLid 60 = .ok (.ireturn, 1) := by decide +kernel
theorem dX3_init_0 : decode cX3_init 0 = .ok (.aload_n 0, 1) := by decide +kernel
theorem dX3_init_1 : decode cX3_init 1 = .ok (.invokespecial 3, 3) := by decide +kernel
theorem dX3_init_4 : decode cX3_init 4 = .ok (.aload_n 0, 1) := by decide +kernel
theorem dX3_init_5 : decode cX3_init 5 = .ok (.bipush 12, 2) := by decide +kernel
theorem dX3_init_7 : decode cX3_init 7 = .ok (.newarray .int, 2) := by decide +kernel
theorem dX3_init_9 : decode cX3_init 9 = .ok (.putfield 9, 3) := by decide +kernel
theorem dX3_init_12 : decode cX3_init 12 = .ok (.aload_n 0, 1) := by decide +kernel
theorem dX3_init_13 : decode cX3_init 13 = .ok (.bipush 66, 2) := by decide +kernel
theorem dX3_init_15 : decode cX3_init 15 = .ok (.newarray .int, 2) := by decide +kernel
theorem dX3_init_17 : decode cX3_init 17 = .ok (.putfield 15, 3) := by decide +kernel
theorem dX3_init_20 : decode cX3_init 20 = .ok (.aload_n 0, 1) := by decide +kernel
theorem dX3_init_21 : decode cX3_init 21 = .ok (.aload_n 1, 1) := by decide +kernel
theorem dX3_init_22 : decode cX3_init 22 = .ok (.putfield 18, 3) := by decide +kernel
theorem dX3_init_25 : decode cX3_init 25 = .ok (.aload_n 0, 1) := by decide +kernel
theorem dX3_init_26 : decode cX3_init 26 = .ok (.aload_n 2, 1) := by decide +kernel
theorem dX3_init_27 : decode cX3_init 27 = .ok (.putfield 22, 3) := by decide +kernel
theorem dX3_init_30 : decode cX3_init 30 = .ok (.return_, 1) := by decide +kernel
theorem dX3_lidOf_0 : decode cX3_lidOf 0 = .ok (.iload_n 0, 1) := by decide +kernel
theorem dX3_lidOf_1 : decode cX3_lidOf 1 = .ok (.iconst 4, 1) := by decide +kernel
theorem dX3_lidOf_2 : decode cX3_lidOf 2 = .ok (.iload_n 1, 1) := by decide +kernel
theorem dX3_lidOf_3 : decode cX3_lidOf 3 = .ok (.imul, 1) := by decide +kernel
theorem dX3_lidOf_4 : decode cX3_lidOf 4 = .ok (.ishr, 1) := by decide +kernel
theorem dX3_lidOf_5 : decode cX3_lidOf 5 = .ok (.bipush 15, 2) := by decide +kernel
theorem dX3_lidOf_7 : decode cX3_lidOf 7 = .ok (.iand, 1) := by decide +kernel
theorem dX3_lidOf_8 : decode cX3_lidOf 8 = .ok (.ireturn, 1) := by decide +kernel
theorem dX3_answersOf_0 : decode cX3_answersOf 0 = .ok (.iconst 0, 1) := by decide +kernel
theorem dX3_answersOf_1 : decode cX3_answersOf 1 = .ok (.istore 5, 2) := by decide +kernel
theorem dX3_answersOf_3 : decode cX3_answersOf 3 = .ok (.iconst 0, 1) := by decide +kernel
theorem dX3_answersOf_4 : decode cX3_answersOf 4 = .ok (.istore 6, 2) := by decide +kernel
theorem dX3_answersOf_6 : decode cX3_answersOf 6 = .ok (.iload 6, 2) := by decide +kernel
theorem dX3_answersOf_8 : decode cX3_answersOf 8 = .ok (.iload_n 3, 1) := by decide +kernel
theorem dX3_answersOf_9 : decode cX3_answersOf 9 = .ok (.if_icmp .ge 65, 3) := by decide +kernel
theorem dX3_answersOf_12 : decode cX3_answersOf 12 = .ok (.iload_n 2, 1) := by decide +kernel
theorem dX3_answersOf_13 : decode cX3_answersOf 13 = .ok (.iload 6, 2) := by decide +kernel
theorem dX3_answersOf_15 : decode cX3_answersOf 15 = .ok (.invokestatic 26, 3) := by decide +kernel
theorem dX3_answersOf_18 : decode cX3_answersOf 18 = .ok (.istore 7, 2) := by decide +kernel
theorem dX3_answersOf_20 : decode cX3_answersOf 20 = .ok (.iload 5, 2) := by decide +kernel
theorem dX3_answersOf_22 : decode cX3_answersOf 22 = .ok (.aload_n 0, 1) := by decide +kernel
theorem dX3_answersOf_23 : decode cX3_answersOf 23 = .ok (.getfield 22, 3) := by decide +kernel
theorem dX3_answersOf_26 : decode cX3_answersOf 26 = .ok (.getfield 30, 3) := by decide +kernel
theorem dX3_answersOf_29 : decode cX3_answersOf 29 = .ok (.iload 7, 2) := by decide +kernel
theorem dX3_answersOf_31 : decode cX3_answersOf 31 = .ok (.iaload, 1) := by decide +kernel
theorem dX3_answersOf_32 : decode cX3_answersOf 32 = .ok (.iload_n 1, 1) := by decide +kernel
theorem dX3_answersOf_33 : decode cX3_answersOf 33 = .ok (.invokestatic 35, 3) := by decide +kernel
theorem dX3_answersOf_36 : decode cX3_answersOf 36 = .ok (.ifCond .eq 10, 3) := by decide +kernel
theorem dX3_answersOf_39 : decode cX3_answersOf 39 = .ok (.iconst 1, 1) := by decide +kernel
theorem dX3_answersOf_40 : decode cX3_answersOf 40 = .ok (.iload 6, 2) := by decide +kernel
theorem dX3_answersOf_42 : decode cX3_answersOf 42 = .ok (.ishl, 1) := by decide +kernel
theorem dX3_answersOf_43 : decode cX3_answersOf 43 = .ok (.goto 4, 3) := by decide +kernel
theorem dX3_answersOf_46 : decode cX3_answersOf 46 = .ok (.iconst 0, 1) := by decide +kernel
theorem dX3_answersOf_47 : decode cX3_answersOf 47 = .ok (.ior, 1) := by decide +kernel
theorem dX3_answersOf_48 : decode cX3_answersOf 48 = .ok (.istore 5, 2) := by decide +kernel
theorem dX3_answersOf_50 : decode cX3_answersOf 50 = .ok (.aload_n 0, 1) := by decide +kernel
theorem dX3_answersOf_51 : decode cX3_answersOf 51 = .ok (.getfield 22, 3) := by decide +kernel
theorem dX3_answersOf_54 : decode cX3_answersOf 54 = .ok (.iload_n 1, 1) := by decide +kernel
theorem dX3_answersOf_55 : decode cX3_answersOf 55 = .ok (.iload 7, 2) := by decide +kernel
theorem dX3_answersOf_57 : decode cX3_answersOf 57 = .ok (.invokevirtual 39, 3) := by decide +kernel
theorem dX3_answersOf_60 : decode cX3_answersOf 60 = .ok (.iload 4, 2) := by decide +kernel
theorem dX3_answersOf_62 : decode cX3_answersOf 62 = .ok (.if_icmp .gt 6, 3) := by decide +kernel
theorem dX3_answersOf_65 : decode cX3_answersOf 65 = .ok (.goto 9, 3) := by decide +kernel
theorem dX3_answersOf_68 : decode cX3_answersOf 68 = .ok (.iinc 6 1, 3) := by decide +kernel
theorem dX3_answersOf_71 : decode cX3_answersOf 71 = .ok (.goto (-65), 3) := by decide +kernel
theorem dX3_answersOf_74 : decode cX3_answersOf 74 = .ok (.iload 5, 2) := by decide +kernel
theorem dX3_answersOf_76 : decode cX3_answersOf 76 = .ok (.ireturn, 1) := by decide +kernel
theorem dX3_kindsIn_0 : decode cX3_kindsIn 0 = .ok (.aload_n 0, 1) := by decide +kernel
theorem dX3_kindsIn_1 : decode cX3_kindsIn 1 = .ok (.iload_n 1, 1) := by decide +kernel
theorem dX3_kindsIn_2 : decode cX3_kindsIn 2 = .ok (.iload_n 2, 1) := by decide +kernel
theorem dX3_kindsIn_3 : decode cX3_kindsIn 3 = .ok (.iload_n 3, 1) := by decide +kernel
theorem dX3_kindsIn_4 : decode cX3_kindsIn 4 = .ok (.invokevirtual 42, 3) := by decide +kernel
theorem dX3_kindsIn_7 : decode cX3_kindsIn 7 = .ok (.istore 4, 2) := by decide +kernel
theorem dX3_kindsIn_9 : decode cX3_kindsIn 9 = .ok (.iconst 0, 1) := by decide +kernel
theorem dX3_kindsIn_10 : decode cX3_kindsIn 10 = .ok (.istore 5, 2) := by decide +kernel
theorem dX3_kindsIn_12 : decode cX3_kindsIn 12 = .ok (.iconst 0, 1) := by decide +kernel
theorem dX3_kindsIn_13 : decode cX3_kindsIn 13 = .ok (.istore 6, 2) := by decide +kernel
theorem dX3_kindsIn_15 : decode cX3_kindsIn 15 = .ok (.iload 6, 2) := by decide +kernel
theorem dX3_kindsIn_17 : decode cX3_kindsIn 17 = .ok (.iload 4, 2) := by decide +kernel
theorem dX3_kindsIn_19 : decode cX3_kindsIn 19 = .ok (.if_icmp .ge 30, 3) := by decide +kernel
theorem dX3_kindsIn_22 : decode cX3_kindsIn 22 = .ok (.iload 5, 2) := by decide +kernel
theorem dX3_kindsIn_24 : decode cX3_kindsIn 24 = .ok (.aload_n 0, 1) := by decide +kernel
theorem dX3_kindsIn_25 : decode cX3_kindsIn 25 = .ok (.iload 6, 2) := by decide +kernel
theorem dX3_kindsIn_27 : decode cX3_kindsIn 27 = .ok (.iload 6, 2) := by decide +kernel
theorem dX3_kindsIn_29 : decode cX3_kindsIn 29 = .ok (.invokevirtual 46, 3) := by decide +kernel
theorem dX3_kindsIn_32 : decode cX3_kindsIn 32 = .ok (.ifCond .ne 7, 3) := by decide +kernel
theorem dX3_kindsIn_35 : decode cX3_kindsIn 35 = .ok (.iconst 1, 1) := by decide +kernel
theorem dX3_kindsIn_36 : decode cX3_kindsIn 36 = .ok (.goto 4, 3) := by decide +kernel
theorem dX3_kindsIn_39 : decode cX3_kindsIn 39 = .ok (.iconst 0, 1) := by decide +kernel
theorem dX3_kindsIn_40 : decode cX3_kindsIn 40 = .ok (.iadd, 1) := by decide +kernel
theorem dX3_kindsIn_41 : decode cX3_kindsIn 41 = .ok (.istore 5, 2) := by decide +kernel
theorem dX3_kindsIn_43 : decode cX3_kindsIn 43 = .ok (.iinc 6 1, 3) := by decide +kernel
theorem dX3_kindsIn_46 : decode cX3_kindsIn 46 = .ok (.goto (-31), 3) := by decide +kernel
theorem dX3_kindsIn_49 : decode cX3_kindsIn 49 = .ok (.iload 5, 2) := by decide +kernel
theorem dX3_kindsIn_51 : decode cX3_kindsIn 51 = .ok (.ireturn, 1) := by decide +kernel
theorem dX3_largestIn_0 : decode cX3_largestIn 0 = .ok (.aload_n 0, 1) := by decide +kernel
theorem dX3_largestIn_1 : decode cX3_largestIn 1 = .ok (.iload_n 1, 1) := by decide +kernel
theorem dX3_largestIn_2 : decode cX3_largestIn 2 = .ok (.iload_n 2, 1) := by decide +kernel
theorem dX3_largestIn_3 : decode cX3_largestIn 3 = .ok (.iload_n 3, 1) := by decide +kernel
theorem dX3_largestIn_4 : decode cX3_largestIn 4 = .ok (.invokevirtual 42, 3) := by decide +kernel
theorem dX3_largestIn_7 : decode cX3_largestIn 7 = .ok (.istore 4, 2) := by decide +kernel
theorem dX3_largestIn_9 : decode cX3_largestIn 9 = .ok (.iconst 0, 1) := by decide +kernel
theorem dX3_largestIn_10 : decode cX3_largestIn 10 = .ok (.istore 5, 2) := by decide +kernel
theorem dX3_largestIn_12 : decode cX3_largestIn 12 = .ok (.iconst 0, 1) := by decide +kernel
theorem dX3_largestIn_13 : decode cX3_largestIn 13 = .ok (.istore 6, 2) := by decide +kernel
theorem dX3_largestIn_15 : decode cX3_largestIn 15 = .ok (.iload 6, 2) := by decide +kernel
theorem dX3_largestIn_17 : decode cX3_largestIn 17 = .ok (.iload 4, 2) := by decide +kernel
theorem dX3_largestIn_19 : decode cX3_largestIn 19 = .ok (.if_icmp .ge 24, 3) := by decide +kernel
theorem dX3_largestIn_22 : decode cX3_largestIn 22 = .ok (.iload 5, 2) := by decide +kernel
theorem dX3_largestIn_24 : decode cX3_largestIn 24 = .ok (.aload_n 0, 1) := by decide +kernel
theorem dX3_largestIn_25 : decode cX3_largestIn 25 = .ok (.iload 6, 2) := by decide +kernel
theorem dX3_largestIn_27 : decode cX3_largestIn 27 = .ok (.iload 4, 2) := by decide +kernel
theorem dX3_largestIn_29 : decode cX3_largestIn 29 = .ok (.invokevirtual 46, 3) := by decide +kernel
theorem dX3_largestIn_32 : decode cX3_largestIn 32 = .ok (.invokestatic 49, 3) := by decide +kernel
theorem dX3_largestIn_35 : decode cX3_largestIn 35 = .ok (.istore 5, 2) := by decide +kernel
theorem dX3_largestIn_37 : decode cX3_largestIn 37 = .ok (.iinc 6 1, 3) := by decide +kernel
theorem dX3_largestIn_40 : decode cX3_largestIn 40 = .ok (.goto (-25), 3) := by decide +kernel
theorem dX3_largestIn_43 : decode cX3_largestIn 43 = .ok (.iload 5, 2) := by decide +kernel
theorem dX3_largestIn_45 : decode cX3_largestIn 45 = .ok (.ireturn, 1) := by decide +kernel
theorem dX3_answerAll_0 : decode cX3_answerAll 0 = .ok (.iconst 0, 1) := by decide +kernel
theorem dX3_answerAll_1 : decode cX3_answerAll 1 = .ok (.istore 4, 2) := by decide +kernel
theorem dX3_answerAll_3 : decode cX3_answerAll 3 = .ok (.iconst 0, 1) := by decide +kernel
theorem dX3_answerAll_4 : decode cX3_answerAll 4 = .ok (.istore 5, 2) := by decide +kernel
theorem dX3_answerAll_6 : decode cX3_answerAll 6 = .ok (.iload 5, 2) := by decide +kernel
theorem dX3_answerAll_8 : decode cX3_answerAll 8 = .ok (.bipush 12, 2) := by decide +kernel
theorem dX3_answerAll_10 : decode cX3_answerAll 10 = .ok (.if_icmp .ge 43, 3) := by decide +kernel
theorem dX3_answerAll_13 : decode cX3_answerAll 13 = .ok (.aload_n 0, 1) := by decide +kernel
theorem dX3_answerAll_14 : decode cX3_answerAll 14 = .ok (.getfield 22, 3) := by decide +kernel
theorem dX3_answerAll_17 : decode cX3_answerAll 17 = .ok (.getfield 54, 3) := by decide +kernel
theorem dX3_answerAll_20 : decode cX3_answerAll 20 = .ok (.iload 5, 2) := by decide +kernel
theorem dX3_answerAll_22 : decode cX3_answerAll 22 = .ok (.invokestatic 35, 3) := by decide +kernel
theorem dX3_answerAll_25 : decode cX3_answerAll 25 = .ok (.ifCond .eq 22, 3) := by decide +kernel
theorem dX3_answerAll_28 : decode cX3_answerAll 28 = .ok (.aload_n 0, 1) := by decide +kernel
theorem dX3_answerAll_29 : decode cX3_answerAll 29 = .ok (.getfield 9, 3) := by decide +kernel
theorem dX3_answerAll_32 : decode cX3_answerAll 32 = .ok (.iload 4, 2) := by decide +kernel
theorem dX3_answerAll_34 : decode cX3_answerAll 34 = .ok (.aload_n 0, 1) := by decide +kernel
theorem dX3_answerAll_35 : decode cX3_answerAll 35 = .ok (.iload 5, 2) := by decide +kernel
theorem dX3_answerAll_37 : decode cX3_answerAll 37 = .ok (.iload_n 1, 1) := by decide +kernel
theorem dX3_answerAll_38 : decode cX3_answerAll 38 = .ok (.iload_n 2, 1) := by decide +kernel
theorem dX3_answerAll_39 : decode cX3_answerAll 39 = .ok (.iload_n 3, 1) := by decide +kernel
theorem dX3_answerAll_40 : decode cX3_answerAll 40 = .ok (.invokevirtual 58, 3) := by decide +kernel
theorem dX3_answerAll_43 : decode cX3_answerAll 43 = .ok (.iastore, 1) := by decide +kernel
theorem dX3_answerAll_44 : decode cX3_answerAll 44 = .ok (.iinc 4 1, 3) := by decide +kernel
theorem dX3_answerAll_47 : decode cX3_answerAll 47 = .ok (.iinc 5 1, 3) := by decide +kernel
theorem dX3_answerAll_50 : decode cX3_answerAll 50 = .ok (.goto (-44), 3) := by decide +kernel
theorem dX3_answerAll_53 : decode cX3_answerAll 53 = .ok (.iload 4, 2) := by decide +kernel
theorem dX3_answerAll_55 : decode cX3_answerAll 55 = .ok (.ireturn, 1) := by decide +kernel
theorem dX3_likeAhead_0 : decode cX3_likeAhead 0 = .ok (.iconst 0, 1) := by decide +kernel
theorem dX3_likeAhead_1 : decode cX3_likeAhead 1 = .ok (.istore_n 3, 1) := by decide +kernel
theorem dX3_likeAhead_2 : decode cX3_likeAhead 2 = .ok (.iconst 0, 1) := by decide +kernel
theorem dX3_likeAhead_3 : decode cX3_likeAhead 3 = .ok (.istore 4, 2) := by decide +kernel
theorem dX3_likeAhead_5 : decode cX3_likeAhead 5 = .ok (.iload 4, 2) := by decide +kernel
theorem dX3_likeAhead_7 : decode cX3_likeAhead 7 = .ok (.iload_n 2, 1) := by decide +kernel
theorem dX3_likeAhead_8 : decode cX3_likeAhead 8 = .ok (.if_icmp .ge 33, 3) := by decide +kernel
theorem dX3_likeAhead_11 : decode cX3_likeAhead 11 = .ok (.iload_n 3, 1) := by decide +kernel
theorem dX3_likeAhead_12 : decode cX3_likeAhead 12 = .ok (.aload_n 0, 1) := by decide +kernel
theorem dX3_likeAhead_13 : decode cX3_likeAhead 13 = .ok (.getfield 9, 3) := by decide +kernel
theorem dX3_likeAhead_16 : decode cX3_likeAhead 16 = .ok (.iload 4, 2) := by decide +kernel
theorem dX3_likeAhead_18 : decode cX3_likeAhead 18 = .ok (.iaload, 1) := by decide +kernel
theorem dX3_likeAhead_19 : decode cX3_likeAhead 19 = .ok (.aload_n 0, 1) := by decide +kernel
theorem dX3_likeAhead_20 : decode cX3_likeAhead 20 = .ok (.getfield 9, 3) := by decide +kernel
theorem dX3_likeAhead_23 : decode cX3_likeAhead 23 = .ok (.iload_n 1, 1) := by decide +kernel
theorem dX3_likeAhead_24 : decode cX3_likeAhead 24 = .ok (.iaload, 1) := by decide +kernel
theorem dX3_likeAhead_25 : decode cX3_likeAhead 25 = .ok (.if_icmp .ne 7, 3) := by decide +kernel
theorem dX3_likeAhead_28 : decode cX3_likeAhead 28 = .ok (.iconst 1, 1) := by decide +kernel
theorem dX3_likeAhead_29 : decode cX3_likeAhead 29 = .ok (.goto 4, 3) := by decide +kernel
theorem dX3_likeAhead_32 : decode cX3_likeAhead 32 = .ok (.iconst 0, 1) := by decide +kernel
theorem dX3_likeAhead_33 : decode cX3_likeAhead 33 = .ok (.iadd, 1) := by decide +kernel
theorem dX3_likeAhead_34 : decode cX3_likeAhead 34 = .ok (.istore_n 3, 1) := by decide +kernel
theorem dX3_likeAhead_35 : decode cX3_likeAhead 35 = .ok (.iinc 4 1, 3) := by decide +kernel
theorem dX3_likeAhead_38 : decode cX3_likeAhead 38 = .ok (.goto (-33), 3) := by decide +kernel
theorem dX3_likeAhead_41 : decode cX3_likeAhead 41 = .ok (.iload_n 3, 1) := by decide +kernel
theorem dX3_likeAhead_42 : decode cX3_likeAhead 42 = .ok (.ireturn, 1) := by decide +kernel
theorem dX3_fewestToHang_0 : decode cX3_fewestToHang 0 = .ok (.aload_n 0, 1) := by decide +kernel
theorem dX3_fewestToHang_1 : decode cX3_fewestToHang 1 = .ok (.iload_n 1, 1) := by decide +kernel
theorem dX3_fewestToHang_2 : decode cX3_fewestToHang 2 = .ok (.invokevirtual 62, 3) := by decide +kernel
theorem dX3_fewestToHang_5 : decode cX3_fewestToHang 5 = .ok (.istore_n 2, 1) := by decide +kernel
theorem dX3_fewestToHang_6 : decode cX3_fewestToHang 6 = .ok (.aload_n 0, 1) := by decide +kernel
theorem dX3_fewestToHang_7 : decode cX3_fewestToHang 7 = .ok (.getfield 18, 3) := by decide +kernel
theorem dX3_fewestToHang_10 : decode cX3_fewestToHang 10 = .ok (.getfield 66, 3) := by decide +kernel
theorem dX3_fewestToHang_13 : decode cX3_fewestToHang 13 = .ok (.istore_n 3, 1) := by decide +kernel
theorem dX3_fewestToHang_14 : decode cX3_fewestToHang 14 = .ok (.iload_n 3, 1) := by decide +kernel
theorem dX3_fewestToHang_15 : decode cX3_fewestToHang 15 = .ok (.invokestatic 71, 3) := by decide +kernel
theorem dX3_fewestToHang_18 : decode cX3_fewestToHang 18 = .ok (.istore 4, 2) := by decide +kernel
theorem dX3_fewestToHang_20 : decode cX3_fewestToHang 20 = .ok (.iconst 0, 1) := by decide +kernel
theorem dX3_fewestToHang_21 : decode cX3_fewestToHang 21 = .ok (.istore 5, 2) := by decide +kernel
theorem dX3_fewestToHang_23 : decode cX3_fewestToHang 23 = .ok (.iload 5, 2) := by decide +kernel
theorem dX3_fewestToHang_25 : decode cX3_fewestToHang 25 = .ok (.aload_n 0, 1) := by decide +kernel
theorem dX3_fewestToHang_26 : decode cX3_fewestToHang 26 = .ok (.getfield 18, 3) := by decide +kernel
theorem dX3_fewestToHang_29 : decode cX3_fewestToHang 29 = .ok (.getfield 66, 3) := by decide +kernel
theorem dX3_fewestToHang_32 : decode cX3_fewestToHang 32 = .ok (.if_icmp .ge 66, 3) := by decide +kernel
theorem dX3_fewestToHang_35 : decode cX3_fewestToHang 35 = .ok (.iload 5, 2) := by decide +kernel
theorem dX3_fewestToHang_37 : decode cX3_fewestToHang 37 = .ok (.aload_n 0, 1) := by decide +kernel
theorem dX3_fewestToHang_38 : decode cX3_fewestToHang 38 = .ok (.getfield 18, 3) := by decide +kernel
theorem dX3_fewestToHang_41 : decode cX3_fewestToHang 41 = .ok (.getfield 66, 3) := by decide +kernel
theorem dX3_fewestToHang_44 : decode cX3_fewestToHang 44 = .ok (.iconst (-1), 1) := by decide +kernel
theorem dX3_fewestToHang_45 : decode cX3_fewestToHang 45 = .ok (.ixor, 1) := by decide +kernel
theorem dX3_fewestToHang_46 : decode cX3_fewestToHang 46 = .ok (.iand, 1) := by decide +kernel
theorem dX3_fewestToHang_47 : decode cX3_fewestToHang 47 = .ok (.ifCond .ne 7, 3) := by decide +kernel
theorem dX3_fewestToHang_50 : decode cX3_fewestToHang 50 = .ok (.iconst 1, 1) := by decide +kernel
theorem dX3_fewestToHang_51 : decode cX3_fewestToHang 51 = .ok (.goto 4, 3) := by decide +kernel
theorem dX3_fewestToHang_54 : decode cX3_fewestToHang 54 = .ok (.iconst 0, 1) := by decide +kernel
theorem dX3_fewestToHang_55 : decode cX3_fewestToHang 55 = .ok (.istore 6, 2) := by decide +kernel
theorem dX3_fewestToHang_57 : decode cX3_fewestToHang 57 = .ok (.iload 6, 2) := by decide +kernel
theorem dX3_fewestToHang_59 : decode cX3_fewestToHang 59 = .ok (.ifCond .eq 33, 3) := by decide +kernel
theorem dX3_fewestToHang_62 : decode cX3_fewestToHang 62 = .ok (.iload 5, 2) := by decide +kernel
theorem dX3_fewestToHang_64 : decode cX3_fewestToHang 64 = .ok (.invokestatic 71, 3) := by decide +kernel
theorem dX3_fewestToHang_67 : decode cX3_fewestToHang 67 = .ok (.iload 4, 2) := by decide +kernel
theorem dX3_fewestToHang_69 : decode cX3_fewestToHang 69 = .ok (.if_icmp .ge 23, 3) := by decide +kernel
theorem dX3_fewestToHang_72 : decode cX3_fewestToHang 72 = .ok (.aload_n 0, 1) := by decide +kernel
theorem dX3_fewestToHang_73 : decode cX3_fewestToHang 73 = .ok (.iload 5, 2) := by decide +kernel
theorem dX3_fewestToHang_75 : decode cX3_fewestToHang 75 = .ok (.iload_n 2, 1) := by decide +kernel
theorem dX3_fewestToHang_76 : decode cX3_fewestToHang 76 = .ok (.invokevirtual 76, 3) := by decide +kernel
theorem dX3_fewestToHang_79 : decode cX3_fewestToHang 79 = .ok (.ifCond .eq 13, 3) := by decide +kernel
theorem dX3_fewestToHang_82 : decode cX3_fewestToHang 82 = .ok (.iload 5, 2) := by decide +kernel
theorem dX3_fewestToHang_84 : decode cX3_fewestToHang 84 = .ok (.istore_n 3, 1) := by decide +kernel
theorem dX3_fewestToHang_85 : decode cX3_fewestToHang 85 = .ok (.iload 5, 2) := by decide +kernel
theorem dX3_fewestToHang_87 : decode cX3_fewestToHang 87 = .ok (.invokestatic 71, 3) := by decide +kernel
theorem dX3_fewestToHang_90 : decode cX3_fewestToHang 90 = .ok (.istore 4, 2) := by decide +kernel
theorem dX3_fewestToHang_92 : decode cX3_fewestToHang 92 = .ok (.iinc 5 1, 3) := by decide +kernel
theorem dX3_fewestToHang_95 : decode cX3_fewestToHang 95 = .ok (.goto (-72), 3) := by decide +kernel
theorem dX3_fewestToHang_98 : decode cX3_fewestToHang 98 = .ok (.iload_n 3, 1) := by decide +kernel
theorem dX3_fewestToHang_99 : decode cX3_fewestToHang 99 = .ok (.ireturn, 1) := by decide +kernel
theorem dX3_tellsApart_0 : decode cX3_tellsApart 0 = .ok (.iconst 0, 1) := by decide +kernel
theorem dX3_tellsApart_1 : decode cX3_tellsApart 1 = .ok (.istore_n 3, 1) := by decide +kernel
theorem dX3_tellsApart_2 : decode cX3_tellsApart 2 = .ok (.iload_n 3, 1) := by decide +kernel
theorem dX3_tellsApart_3 : decode cX3_tellsApart 3 = .ok (.iload_n 2, 1) := by decide +kernel
theorem dX3_tellsApart_4 : decode cX3_tellsApart 4 = .ok (.if_icmp .ge 22, 3) := by decide +kernel
theorem dX3_tellsApart_7 : decode cX3_tellsApart 7 = .ok (.aload_n 0, 1) := by decide +kernel
theorem dX3_tellsApart_8 : decode cX3_tellsApart 8 = .ok (.getfield 15, 3) := by decide +kernel
theorem dX3_tellsApart_11 : decode cX3_tellsApart 11 = .ok (.iload_n 3, 1) := by decide +kernel
theorem dX3_tellsApart_12 : decode cX3_tellsApart 12 = .ok (.iaload, 1) := by decide +kernel
theorem dX3_tellsApart_13 : decode cX3_tellsApart 13 = .ok (.iload_n 1, 1) := by decide +kernel
theorem dX3_tellsApart_14 : decode cX3_tellsApart 14 = .ok (.iand, 1) := by decide +kernel
theorem dX3_tellsApart_15 : decode cX3_tellsApart 15 = .ok (.ifCond .ne 5, 3) := by decide +kernel
theorem dX3_tellsApart_18 : decode cX3_tellsApart 18 = .ok (.iconst 0, 1) := by decide +kernel
theorem dX3_tellsApart_19 : decode cX3_tellsApart 19 = .ok (.ireturn, 1) := by decide +kernel
theorem dX3_tellsApart_20 : decode cX3_tellsApart 20 = .ok (.iinc 3 1, 3) := by decide +kernel
theorem dX3_tellsApart_23 : decode cX3_tellsApart 23 = .ok (.goto (-21), 3) := by decide +kernel
theorem dX3_tellsApart_26 : decode cX3_tellsApart 26 = .ok (.iconst 1, 1) := by decide +kernel
theorem dX3_tellsApart_27 : decode cX3_tellsApart 27 = .ok (.ireturn, 1) := by decide +kernel
theorem dX3_pairsFartherThan_0 : decode cX3_pairsFartherThan 0 = .ok (.iconst 0, 1) := by decide +kernel
theorem dX3_pairsFartherThan_1 : decode cX3_pairsFartherThan 1 = .ok (.istore_n 2, 1) := by decide +kernel
theorem dX3_pairsFartherThan_2 : decode cX3_pairsFartherThan 2 = .ok (.iconst 0, 1) := by decide +kernel
theorem dX3_pairsFartherThan_3 : decode cX3_pairsFartherThan 3 = .ok (.istore_n 3, 1) := by decide +kernel
theorem dX3_pairsFartherThan_4 : decode cX3_pairsFartherThan 4 = .ok (.iload_n 3, 1) := by decide +kernel
theorem dX3_pairsFartherThan_5 : decode cX3_pairsFartherThan 5 = .ok (.bipush 12, 2) := by decide +kernel
theorem dX3_pairsFartherThan_7 : decode cX3_pairsFartherThan 7 = .ok (.if_icmp .ge 83, 3) := by decide +kernel
theorem dX3_pairsFartherThan_10 : decode cX3_pairsFartherThan 10 = .ok (.iconst 0, 1) := by decide +kernel
theorem dX3_pairsFartherThan_11 : decode cX3_pairsFartherThan 11 = .ok (.istore 4, 2) := by decide +kernel
theorem dX3_pairsFartherThan_13 : decode cX3_pairsFartherThan 13 = .ok (.iload 4, 2) := by decide +kernel
theorem dX3_pairsFartherThan_15 : decode cX3_pairsFartherThan 15 = .ok (.iload_n 3, 1) := by decide +kernel
theorem dX3_pairsFartherThan_16 : decode cX3_pairsFartherThan 16 = .ok (.if_icmp .ge 68, 3) := by decide +kernel
theorem dX3_pairsFartherThan_19 : decode cX3_pairsFartherThan 19 = .ok (.aload_n 0, 1) := by decide +kernel
theorem dX3_pairsFartherThan_20 : decode cX3_pairsFartherThan 20 = .ok (.getfield 22, 3) := by decide +kernel
theorem dX3_pairsFartherThan_23 : decode cX3_pairsFartherThan 23 = .ok (.getfield 54, 3) := by decide +kernel
theorem dX3_pairsFartherThan_26 : decode cX3_pairsFartherThan 26 = .ok (.iload_n 3, 1) := by decide +kernel
theorem dX3_pairsFartherThan_27 : decode cX3_pairsFartherThan 27 = .ok (.invokestatic 35, 3) := by decide +kernel
theorem dX3_pairsFartherThan_30 : decode cX3_pairsFartherThan 30 = .ok (.ifCond .eq 48, 3) := by decide +kernel
theorem dX3_pairsFartherThan_33 : decode cX3_pairsFartherThan 33 = .ok (.aload_n 0, 1) := by decide +kernel
theorem dX3_pairsFartherThan_34 : decode cX3_pairsFartherThan 34 = .ok (.getfield 22, 3) := by decide +kernel
theorem dX3_pairsFartherThan_37 : decode cX3_pairsFartherThan 37 = .ok (.getfield 54, 3) := by decide +kernel
theorem dX3_pairsFartherThan_40 : decode cX3_pairsFartherThan 40 = .ok (.iload 4, 2) := by decide +kernel
theorem dX3_pairsFartherThan_42 : decode cX3_pairsFartherThan 42 = .ok (.invokestatic 35, 3) := by decide +kernel
theorem dX3_pairsFartherThan_45 : decode cX3_pairsFartherThan 45 = .ok (.ifCond .eq 33, 3) := by decide +kernel
theorem dX3_pairsFartherThan_48 : decode cX3_pairsFartherThan 48 = .ok (.aload_n 0, 1) := by decide +kernel
theorem dX3_pairsFartherThan_49 : decode cX3_pairsFartherThan 49 = .ok (.getfield 22, 3) := by decide +kernel
theorem dX3_pairsFartherThan_52 : decode cX3_pairsFartherThan 52 = .ok (.iload_n 3, 1) := by decide +kernel
theorem dX3_pairsFartherThan_53 : decode cX3_pairsFartherThan 53 = .ok (.iload 4, 2) := by decide +kernel
theorem dX3_pairsFartherThan_55 : decode cX3_pairsFartherThan 55 = .ok (.invokevirtual 39, 3) := by decide +kernel
theorem dX3_pairsFartherThan_58 : decode cX3_pairsFartherThan 58 = .ok (.iload_n 1, 1) := by decide +kernel
theorem dX3_pairsFartherThan_59 : decode cX3_pairsFartherThan 59 = .ok (.if_icmp .le 19, 3) := by decide +kernel
theorem dX3_pairsFartherThan_62 : decode cX3_pairsFartherThan 62 = .ok (.aload_n 0, 1) := by decide +kernel
theorem dX3_pairsFartherThan_63 : decode cX3_pairsFartherThan 63 = .ok (.getfield 15, 3) := by decide +kernel
theorem dX3_pairsFartherThan_66 : decode cX3_pairsFartherThan 66 = .ok (.iload_n 2, 1) := by decide +kernel
theorem dX3_pairsFartherThan_67 : decode cX3_pairsFartherThan 67 = .ok (.aload_n 0, 1) := by decide +kernel
theorem dX3_pairsFartherThan_68 : decode cX3_pairsFartherThan 68 = .ok (.iload_n 3, 1) := by decide +kernel
theorem dX3_pairsFartherThan_69 : decode cX3_pairsFartherThan 69 = .ok (.iload 4, 2) := by decide +kernel
theorem dX3_pairsFartherThan_71 : decode cX3_pairsFartherThan 71 = .ok (.invokevirtual 79, 3) := by decide +kernel
theorem dX3_pairsFartherThan_74 : decode cX3_pairsFartherThan 74 = .ok (.iastore, 1) := by decide +kernel
theorem dX3_pairsFartherThan_75 : decode cX3_pairsFartherThan 75 = .ok (.iinc 2 1, 3) := by decide +kernel
theorem dX3_pairsFartherThan_78 : decode cX3_pairsFartherThan 78 = .ok (.iinc 4 1, 3) := by decide +kernel
theorem dX3_pairsFartherThan_81 : decode cX3_pairsFartherThan 81 = .ok (.goto (-68), 3) := by decide +kernel
theorem dX3_pairsFartherThan_84 : decode cX3_pairsFartherThan 84 = .ok (.iinc 3 1, 3) := by decide +kernel
theorem dX3_pairsFartherThan_87 : decode cX3_pairsFartherThan 87 = .ok (.goto (-83), 3) := by decide +kernel
theorem dX3_pairsFartherThan_90 : decode cX3_pairsFartherThan 90 = .ok (.iload_n 2, 1) := by decide +kernel
theorem dX3_pairsFartherThan_91 : decode cX3_pairsFartherThan 91 = .ok (.ireturn, 1) := by decide +kernel
theorem dX3_nodesBelowOne_0 : decode cX3_nodesBelowOne 0 = .ok (.iconst 0, 1) := by decide +kernel
theorem dX3_nodesBelowOne_1 : decode cX3_nodesBelowOne 1 = .ok (.istore_n 3, 1) := by decide +kernel
theorem dX3_nodesBelowOne_2 : decode cX3_nodesBelowOne 2 = .ok (.iconst 0, 1) := by decide +kernel
theorem dX3_nodesBelowOne_3 : decode cX3_nodesBelowOne 3 = .ok (.istore 4, 2) := by decide +kernel
theorem dX3_nodesBelowOne_5 : decode cX3_nodesBelowOne 5 = .ok (.iload 4, 2) := by decide +kernel
theorem dX3_nodesBelowOne_7 : decode cX3_nodesBelowOne 7 = .ok (.bipush 12, 2) := by decide +kernel
theorem dX3_nodesBelowOne_9 : decode cX3_nodesBelowOne 9 = .ok (.if_icmp .ge 51, 3) := by decide +kernel
theorem dX3_nodesBelowOne_12 : decode cX3_nodesBelowOne 12 = .ok (.iload_n 3, 1) := by decide +kernel
theorem dX3_nodesBelowOne_13 : decode cX3_nodesBelowOne 13 = .ok (.aload_n 0, 1) := by decide +kernel
theorem dX3_nodesBelowOne_14 : decode cX3_nodesBelowOne 14 = .ok (.getfield 22, 3) := by decide +kernel
theorem dX3_nodesBelowOne_17 : decode cX3_nodesBelowOne 17 = .ok (.getfield 30, 3) := by decide +kernel
theorem dX3_nodesBelowOne_20 : decode cX3_nodesBelowOne 20 = .ok (.iload 4, 2) := by decide +kernel
theorem dX3_nodesBelowOne_22 : decode cX3_nodesBelowOne 22 = .ok (.iaload, 1) := by decide +kernel
theorem dX3_nodesBelowOne_23 : decode cX3_nodesBelowOne 23 = .ok (.iload_n 1, 1) := by decide +kernel
theorem dX3_nodesBelowOne_24 : decode cX3_nodesBelowOne 24 = .ok (.invokestatic 35, 3) := by decide +kernel
theorem dX3_nodesBelowOne_27 : decode cX3_nodesBelowOne 27 = .ok (.aload_n 0, 1) := by decide +kernel
theorem dX3_nodesBelowOne_28 : decode cX3_nodesBelowOne 28 = .ok (.getfield 22, 3) := by decide +kernel
theorem dX3_nodesBelowOne_31 : decode cX3_nodesBelowOne 31 = .ok (.getfield 30, 3) := by decide +kernel
theorem dX3_nodesBelowOne_34 : decode cX3_nodesBelowOne 34 = .ok (.iload 4, 2) := by decide +kernel
theorem dX3_nodesBelowOne_36 : decode cX3_nodesBelowOne 36 = .ok (.iaload, 1) := by decide +kernel
theorem dX3_nodesBelowOne_37 : decode cX3_nodesBelowOne 37 = .ok (.iload_n 2, 1) := by decide +kernel
theorem dX3_nodesBelowOne_38 : decode cX3_nodesBelowOne 38 = .ok (.invokestatic 35, 3) := by decide +kernel
theorem dX3_nodesBelowOne_41 : decode cX3_nodesBelowOne 41 = .ok (.if_icmp .eq 10, 3) := by decide +kernel
theorem dX3_nodesBelowOne_44 : decode cX3_nodesBelowOne 44 = .ok (.iconst 1, 1) := by decide +kernel
theorem dX3_nodesBelowOne_45 : decode cX3_nodesBelowOne 45 = .ok (.iload 4, 2) := by decide +kernel
theorem dX3_nodesBelowOne_47 : decode cX3_nodesBelowOne 47 = .ok (.ishl, 1) := by decide +kernel
theorem dX3_nodesBelowOne_48 : decode cX3_nodesBelowOne 48 = .ok (.goto 4, 3) := by decide +kernel
theorem dX3_nodesBelowOne_51 : decode cX3_nodesBelowOne 51 = .ok (.iconst 0, 1) := by decide +kernel
theorem dX3_nodesBelowOne_52 : decode cX3_nodesBelowOne 52 = .ok (.ior, 1) := by decide +kernel
theorem dX3_nodesBelowOne_53 : decode cX3_nodesBelowOne 53 = .ok (.istore_n 3, 1) := by decide +kernel
theorem dX3_nodesBelowOne_54 : decode cX3_nodesBelowOne 54 = .ok (.iinc 4 1, 3) := by decide +kernel
theorem dX3_nodesBelowOne_57 : decode cX3_nodesBelowOne 57 = .ok (.goto (-52), 3) := by decide +kernel
theorem dX3_nodesBelowOne_60 : decode cX3_nodesBelowOne 60 = .ok (.iload_n 3, 1) := by decide +kernel
theorem dX3_nodesBelowOne_61 : decode cX3_nodesBelowOne 61 = .ok (.ireturn, 1) := by decide +kernel
theorem dX4_init_0 : decode cX4_init 0 = .ok (.aload_n 0, 1) := by decide +kernel
theorem dX4_init_1 : decode cX4_init 1 = .ok (.invokespecial 3, 3) := by decide +kernel
theorem dX4_init_4 : decode cX4_init 4 = .ok (.aload_n 0, 1) := by decide +kernel
theorem dX4_init_5 : decode cX4_init 5 = .ok (.bipush 12, 2) := by decide +kernel
theorem dX4_init_7 : decode cX4_init 7 = .ok (.newarray .int, 2) := by decide +kernel
theorem dX4_init_9 : decode cX4_init 9 = .ok (.putfield 9, 3) := by decide +kernel
theorem dX4_init_12 : decode cX4_init 12 = .ok (.aload_n 0, 1) := by decide +kernel
theorem dX4_init_13 : decode cX4_init 13 = .ok (.bipush 12, 2) := by decide +kernel
theorem dX4_init_15 : decode cX4_init 15 = .ok (.newarray .int, 2) := by decide +kernel
theorem dX4_init_17 : decode cX4_init 17 = .ok (.putfield 15, 3) := by decide +kernel
theorem dX4_init_20 : decode cX4_init 20 = .ok (.return_, 1) := by decide +kernel
theorem dX4_follow_0 : decode cX4_follow 0 = .ok (.aload_n 0, 1) := by decide +kernel
theorem dX4_follow_1 : decode cX4_follow 1 = .ok (.iload 4, 2) := by decide +kernel
theorem dX4_follow_3 : decode cX4_follow 3 = .ok (.putfield 18, 3) := by decide +kernel
theorem dX4_follow_6 : decode cX4_follow 6 = .ok (.aload_n 0, 1) := by decide +kernel
theorem dX4_follow_7 : decode cX4_follow 7 = .ok (.iload 5, 2) := by decide +kernel
theorem dX4_follow_9 : decode cX4_follow 9 = .ok (.putfield 22, 3) := by decide +kernel
theorem dX4_follow_12 : decode cX4_follow 12 = .ok (.iconst 0, 1) := by decide +kernel
theorem dX4_follow_13 : decode cX4_follow 13 = .ok (.istore 6, 2) := by decide +kernel
theorem dX4_follow_15 : decode cX4_follow 15 = .ok (.iload 6, 2) := by decide +kernel
theorem dX4_follow_17 : decode cX4_follow 17 = .ok (.bipush 12, 2) := by decide +kernel
theorem dX4_follow_19 : decode cX4_follow 19 = .ok (.if_icmp .ge 25, 3) := by decide +kernel
theorem dX4_follow_22 : decode cX4_follow 22 = .ok (.aload_n 0, 1) := by decide +kernel
theorem dX4_follow_23 : decode cX4_follow 23 = .ok (.getfield 9, 3) := by decide +kernel
theorem dX4_follow_26 : decode cX4_follow 26 = .ok (.iload 6, 2) := by decide +kernel
theorem dX4_follow_28 : decode cX4_follow 28 = .ok (.iconst 0, 1) := by decide +kernel
theorem dX4_follow_29 : decode cX4_follow 29 = .ok (.iastore, 1) := by decide +kernel
theorem dX4_follow_30 : decode cX4_follow 30 = .ok (.aload_n 0, 1) := by decide +kernel
theorem dX4_follow_31 : decode cX4_follow 31 = .ok (.getfield 15, 3) := by decide +kernel
theorem dX4_follow_34 : decode cX4_follow 34 = .ok (.iload 6, 2) := by decide +kernel
theorem dX4_follow_36 : decode cX4_follow 36 = .ok (.iconst 0, 1) := by decide +kernel
theorem dX4_follow_37 : decode cX4_follow 37 = .ok (.iastore, 1) := by decide +kernel
theorem dX4_follow_38 : decode cX4_follow 38 = .ok (.iinc 6 1, 3) := by decide +kernel
theorem dX4_follow_41 : decode cX4_follow 41 = .ok (.goto (-26), 3) := by decide +kernel
theorem dX4_follow_44 : decode cX4_follow 44 = .ok (.iload_n 3, 1) := by decide +kernel
theorem dX4_follow_45 : decode cX4_follow 45 = .ok (.istore 6, 2) := by decide +kernel
theorem dX4_follow_47 : decode cX4_follow 47 = .ok (.iconst 0, 1) := by decide +kernel
theorem dX4_follow_48 : decode cX4_follow 48 = .ok (.istore 7, 2) := by decide +kernel
theorem dX4_follow_50 : decode cX4_follow 50 = .ok (.iload_n 2, 1) := by decide +kernel
theorem dX4_follow_51 : decode cX4_follow 51 = .ok (.istore 8, 2) := by decide +kernel
theorem dX4_follow_53 : decode cX4_follow 53 = .ok (.iconst 0, 1) := by decide +kernel
theorem dX4_follow_54 : decode cX4_follow 54 = .ok (.istore 9, 2) := by decide +kernel
theorem dX4_follow_56 : decode cX4_follow 56 = .ok (.iload 9, 2) := by decide +kernel
theorem dX4_follow_58 : decode cX4_follow 58 = .ok (.bipush 12, 2) := by decide +kernel
theorem dX4_follow_60 : decode cX4_follow 60 = .ok (.if_icmp .ge 71, 3) := by decide +kernel
theorem dX4_follow_63 : decode cX4_follow 63 = .ok (.iload 8, 2) := by decide +kernel
theorem dX4_follow_65 : decode cX4_follow 65 = .ok (.ifCond .lt 66, 3) := by decide +kernel
theorem dX4_follow_68 : decode cX4_follow 68 = .ok (.aload_n 0, 1) := by decide +kernel
theorem dX4_follow_69 : decode cX4_follow 69 = .ok (.getfield 9, 3) := by decide +kernel
theorem dX4_follow_72 : decode cX4_follow 72 = .ok (.iload 8, 2) := by decide +kernel
theorem dX4_follow_74 : decode cX4_follow 74 = .ok (.iload 6, 2) := by decide +kernel
theorem dX4_follow_76 : decode cX4_follow 76 = .ok (.iastore, 1) := by decide +kernel
theorem dX4_follow_77 : decode cX4_follow 77 = .ok (.aload_n 0, 1) := by decide +kernel
theorem dX4_follow_78 : decode cX4_follow 78 = .ok (.getfield 15, 3) := by decide +kernel
theorem dX4_follow_81 : decode cX4_follow 81 = .ok (.iload 8, 2) := by decide +kernel
theorem dX4_follow_83 : decode cX4_follow 83 = .ok (.iload 7, 2) := by decide +kernel
theorem dX4_follow_85 : decode cX4_follow 85 = .ok (.iastore, 1) := by decide +kernel
theorem dX4_follow_86 : decode cX4_follow 86 = .ok (.iload 6, 2) := by decide +kernel
theorem dX4_follow_88 : decode cX4_follow 88 = .ok (.bipush 100, 2) := by decide +kernel
theorem dX4_follow_90 : decode cX4_follow 90 = .ok (.aload_n 1, 1) := by decide +kernel
theorem dX4_follow_91 : decode cX4_follow 91 = .ok (.getfield 25, 3) := by decide +kernel
theorem dX4_follow_94 : decode cX4_follow 94 = .ok (.iload 8, 2) := by decide +kernel
theorem dX4_follow_96 : decode cX4_follow 96 = .ok (.iaload, 1) := by decide +kernel
theorem dX4_follow_97 : decode cX4_follow 97 = .ok (.isub, 1) := by decide +kernel
theorem dX4_follow_98 : decode cX4_follow 98 = .ok (.imul, 1) := by decide +kernel
theorem dX4_follow_99 : decode cX4_follow 99 = .ok (.bipush 100, 2) := by decide +kernel
theorem dX4_follow_101 : decode cX4_follow 101 = .ok (.idiv, 1) := by decide +kernel
theorem dX4_follow_102 : decode cX4_follow 102 = .ok (.istore 6, 2) := by decide +kernel
theorem dX4_follow_104 : decode cX4_follow 104 = .ok (.iload 7, 2) := by decide +kernel
theorem dX4_follow_106 : decode cX4_follow 106 = .ok (.aload_n 1, 1) := by decide +kernel
theorem dX4_follow_107 : decode cX4_follow 107 = .ok (.getfield 30, 3) := by decide +kernel
theorem dX4_follow_110 : decode cX4_follow 110 = .ok (.iload 8, 2) := by decide +kernel
theorem dX4_follow_112 : decode cX4_follow 112 = .ok (.iaload, 1) := by decide +kernel
theorem dX4_follow_113 : decode cX4_follow 113 = .ok (.iadd, 1) := by decide +kernel
theorem dX4_follow_114 : decode cX4_follow 114 = .ok (.istore 7, 2) := by decide +kernel
theorem dX4_follow_116 : decode cX4_follow 116 = .ok (.aload_n 1, 1) := by decide +kernel
theorem dX4_follow_117 : decode cX4_follow 117 = .ok (.getfield 33, 3) := by decide +kernel
theorem dX4_follow_120 : decode cX4_follow 120 = .ok (.iload 8, 2) := by decide +kernel
theorem dX4_follow_122 : decode cX4_follow 122 = .ok (.iaload, 1) := by decide +kernel
theorem dX4_follow_123 : decode cX4_follow 123 = .ok (.istore 8, 2) := by decide +kernel
theorem dX4_follow_125 : decode cX4_follow 125 = .ok (.iinc 9 1, 3) := by decide +kernel
theorem dX4_follow_128 : decode cX4_follow 128 = .ok (.goto (-72), 3) := by decide +kernel
theorem dX4_follow_131 : decode cX4_follow 131 = .ok (.return_, 1) := by decide +kernel
theorem dX4_amountAt_0 : decode cX4_amountAt 0 = .ok (.iload_n 2, 1) := by decide +kernel
theorem dX4_amountAt_1 : decode cX4_amountAt 1 = .ok (.aload_n 0, 1) := by decide +kernel
theorem dX4_amountAt_2 : decode cX4_amountAt 2 = .ok (.getfield 15, 3) := by decide +kernel
theorem dX4_amountAt_5 : decode cX4_amountAt 5 = .ok (.iload_n 1, 1) := by decide +kernel
theorem dX4_amountAt_6 : decode cX4_amountAt 6 = .ok (.iaload, 1) := by decide +kernel
theorem dX4_amountAt_7 : decode cX4_amountAt 7 = .ok (.isub, 1) := by decide +kernel
theorem dX4_amountAt_8 : decode cX4_amountAt 8 = .ok (.istore_n 3, 1) := by decide +kernel
theorem dX4_amountAt_9 : decode cX4_amountAt 9 = .ok (.iload_n 3, 1) := by decide +kernel
theorem dX4_amountAt_10 : decode cX4_amountAt 10 = .ok (.aload_n 0, 1) := by decide +kernel
theorem dX4_amountAt_11 : decode cX4_amountAt 11 = .ok (.getfield 18, 3) := by decide +kernel
theorem dX4_amountAt_14 : decode cX4_amountAt 14 = .ok (.bipush 60, 2) := by decide +kernel
theorem dX4_amountAt_16 : decode cX4_amountAt 16 = .ok (.imul, 1) := by decide +kernel
theorem dX4_amountAt_17 : decode cX4_amountAt 17 = .ok (.if_icmp .lt 16, 3) := by decide +kernel
theorem dX4_amountAt_20 : decode cX4_amountAt 20 = .ok (.iload_n 3, 1) := by decide +kernel
theorem dX4_amountAt_21 : decode cX4_amountAt 21 = .ok (.aload_n 0, 1) := by decide +kernel
theorem dX4_amountAt_22 : decode cX4_amountAt 22 = .ok (.getfield 22, 3) := by decide +kernel
theorem dX4_amountAt_25 : decode cX4_amountAt 25 = .ok (.iconst 1, 1) := by decide +kernel
theorem dX4_amountAt_26 : decode cX4_amountAt 26 = .ok (.iadd, 1) := by decide +kernel
theorem dX4_amountAt_27 : decode cX4_amountAt 27 = .ok (.bipush 60, 2) := by decide +kernel
theorem dX4_amountAt_29 : decode cX4_amountAt 29 = .ok (.imul, 1) := by decide +kernel
theorem dX4_amountAt_30 : decode cX4_amountAt 30 = .ok (.if_icmp .lt 5, 3) := by decide +kernel
theorem dX4_amountAt_33 : decode cX4_amountAt 33 = .ok (.iconst 0, 1) := by decide +kernel
theorem dX4_amountAt_34 : decode cX4_amountAt 34 = .ok (.ireturn, 1) := by decide +kernel
theorem dX4_amountAt_35 : decode cX4_amountAt 35 = .ok (.aload_n 0, 1) := by decide +kernel
theorem dX4_amountAt_36 : decode cX4_amountAt 36 = .ok (.getfield 9, 3) := by decide +kernel
theorem dX4_amountAt_39 : decode cX4_amountAt 39 = .ok (.iload_n 1, 1) := by decide +kernel
theorem dX4_amountAt_40 : decode cX4_amountAt 40 = .ok (.iaload, 1) := by decide +kernel
theorem dX4_amountAt_41 : decode cX4_amountAt 41 = .ok (.ireturn, 1) := by decide +kernel
theorem dX5_init_0 : decode cX5_init 0 = .ok (.aload_n 0, 1) := by decide +kernel
theorem dX5_init_1 : decode cX5_init 1 = .ok (.invokespecial 3, 3) := by decide +kernel
theorem dX5_init_4 : decode cX5_init 4 = .ok (.aload_n 0, 1) := by decide +kernel
theorem dX5_init_5 : decode cX5_init 5 = .ok (.sipush 200, 3) := by decide +kernel
theorem dX5_init_8 : decode cX5_init 8 = .ok (.newarray .int, 2) := by decide +kernel
theorem dX5_init_10 : decode cX5_init 10 = .ok (.putfield 11, 3) := by decide +kernel
theorem dX5_init_13 : decode cX5_init 13 = .ok (.aload_n 0, 1) := by decide +kernel
theorem dX5_init_14 : decode cX5_init 14 = .ok (.bipush 9, 2) := by decide +kernel
theorem dX5_init_16 : decode cX5_init 16 = .ok (.newarray .int, 2) := by decide +kernel
theorem dX5_init_18 : decode cX5_init 18 = .ok (.putfield 15, 3) := by decide +kernel
theorem dX5_init_21 : decode cX5_init 21 = .ok (.aload_n 0, 1) := by decide +kernel
theorem dX5_init_22 : decode cX5_init 22 = .ok (.bipush 45, 2) := by decide +kernel
theorem dX5_init_24 : decode cX5_init 24 = .ok (.newarray .int, 2) := by decide +kernel
theorem dX5_init_26 : decode cX5_init 26 = .ok (.putfield 18, 3) := by decide +kernel
theorem dX5_init_29 : decode cX5_init 29 = .ok (.return_, 1) := by decide +kernel
theorem dX5_append_0 : decode cX5_append 0 = .ok (.iconst 0, 1) := by decide +kernel
theorem dX5_append_1 : decode cX5_append 1 = .ok (.istore 4, 2) := by decide +kernel
theorem dX5_append_3 : decode cX5_append 3 = .ok (.iload 4, 2) := by decide +kernel
theorem dX5_append_5 : decode cX5_append 5 = .ok (.iload_n 3, 1) := by decide +kernel
theorem dX5_append_6 : decode cX5_append 6 = .ok (.if_icmp .ge 50, 3) := by decide +kernel
theorem dX5_append_9 : decode cX5_append 9 = .ok (.aload_n 0, 1) := by decide +kernel
theorem dX5_append_10 : decode cX5_append 10 = .ok (.getfield 21, 3) := by decide +kernel
theorem dX5_append_13 : decode cX5_append 13 = .ok (.sipush 200, 3) := by decide +kernel
theorem dX5_append_16 : decode cX5_append 16 = .ok (.if_icmp .ge 40, 3) := by decide +kernel
theorem dX5_append_19 : decode cX5_append 19 = .ok (.aload_n 0, 1) := by decide +kernel
theorem dX5_append_20 : decode cX5_append 20 = .ok (.getfield 11, 3) := by decide +kernel
theorem dX5_append_23 : decode cX5_append 23 = .ok (.aload_n 0, 1) := by decide +kernel
theorem dX5_append_24 : decode cX5_append 24 = .ok (.getfield 21, 3) := by decide +kernel
theorem dX5_append_27 : decode cX5_append 27 = .ok (.lload_n 1, 1) := by decide +kernel
theorem dX5_append_28 : decode cX5_append 28 = .ok (.bipush 8, 2) := by decide +kernel
theorem dX5_append_30 : decode cX5_append 30 = .ok (.iload 4, 2) := by decide +kernel
theorem dX5_append_32 : decode cX5_append 32 = .ok (.imul, 1) := by decide +kernel
theorem dX5_append_33 : decode cX5_append 33 = .ok (.lshr, 1) := by decide +kernel
theorem dX5_append_34 : decode cX5_append 34 = .ok (.ldc2_w 25, 3) := by decide +kernel
theorem dX5_append_37 : decode cX5_append 37 = .ok (.land, 1) := by decide +kernel
theorem dX5_append_38 : decode cX5_append 38 = .ok (.l2i, 1) := by decide +kernel
theorem dX5_append_39 : decode cX5_append 39 = .ok (.iastore, 1) := by decide +kernel
theorem dX5_append_40 : decode cX5_append 40 = .ok (.aload_n 0, 1) := by decide +kernel
theorem dX5_append_41 : decode cX5_append 41 = .ok (.dup, 1) := by decide +kernel
theorem dX5_append_42 : decode cX5_append 42 = .ok (.getfield 21, 3) := by decide +kernel
theorem dX5_append_45 : decode cX5_append 45 = .ok (.iconst 1, 1) := by decide +kernel
theorem dX5_append_46 : decode cX5_append 46 = .ok (.iadd, 1) := by decide +kernel
theorem dX5_append_47 : decode cX5_append 47 = .ok (.putfield 21, 3) := by decide +kernel
theorem dX5_append_50 : decode cX5_append 50 = .ok (.iinc 4 1, 3) := by decide +kernel
theorem dX5_append_53 : decode cX5_append 53 = .ok (.goto (-50), 3) := by decide +kernel
theorem dX5_append_56 : decode cX5_append 56 = .ok (.aload_n 0, 1) := by decide +kernel
theorem dX5_append_57 : decode cX5_append 57 = .ok (.getfield 21, 3) := by decide +kernel
theorem dX5_append_60 : decode cX5_append 60 = .ok (.ireturn, 1) := by decide +kernel
theorem dX5_empty_0 : decode cX5_empty 0 = .ok (.aload_n 0, 1) := by decide +kernel
theorem dX5_empty_1 : decode cX5_empty 1 = .ok (.getfield 21, 3) := by decide +kernel
theorem dX5_empty_4 : decode cX5_empty 4 = .ok (.istore_n 1, 1) := by decide +kernel
theorem dX5_empty_5 : decode cX5_empty 5 = .ok (.aload_n 0, 1) := by decide +kernel
theorem dX5_empty_6 : decode cX5_empty 6 = .ok (.iconst 0, 1) := by decide +kernel
theorem dX5_empty_7 : decode cX5_empty 7 = .ok (.putfield 21, 3) := by decide +kernel
theorem dX5_empty_10 : decode cX5_empty 10 = .ok (.iload_n 1, 1) := by decide +kernel
theorem dX5_empty_11 : decode cX5_empty 11 = .ok (.ireturn, 1) := by decide +kernel
theorem dX5_read_0 : decode cX5_read 0 = .ok (.aload_n 0, 1) := by decide +kernel
theorem dX5_read_1 : decode cX5_read 1 = .ok (.iconst 0, 1) := by decide +kernel
theorem dX5_read_2 : decode cX5_read 2 = .ok (.putfield 27, 3) := by decide +kernel
theorem dX5_read_5 : decode cX5_read 5 = .ok (.aload_n 0, 1) := by decide +kernel
theorem dX5_read_6 : decode cX5_read 6 = .ok (.iconst 0, 1) := by decide +kernel
theorem dX5_read_7 : decode cX5_read 7 = .ok (.putfield 30, 3) := by decide +kernel
theorem dX5_read_10 : decode cX5_read 10 = .ok (.iconst 0, 1) := by decide +kernel
theorem dX5_read_11 : decode cX5_read 11 = .ok (.istore_n 1, 1) := by decide +kernel
theorem dX5_read_12 : decode cX5_read 12 = .ok (.iload_n 1, 1) := by decide +kernel
theorem dX5_read_13 : decode cX5_read 13 = .ok (.bipush 9, 2) := by decide +kernel
theorem dX5_read_15 : decode cX5_read 15 = .ok (.if_icmp .ge 65, 3) := by decide +kernel
theorem dX5_read_18 : decode cX5_read 18 = .ok (.aload_n 0, 1) := by decide +kernel
theorem dX5_read_19 : decode cX5_read 19 = .ok (.iload_n 1, 1) := by decide +kernel
theorem dX5_read_20 : decode cX5_read 20 = .ok (.invokevirtual 33, 3) := by decide +kernel
theorem dX5_read_23 : decode cX5_read 23 = .ok (.ifCond .ne 8, 3) := by decide +kernel
theorem dX5_read_26 : decode cX5_read 26 = .ok (.aload_n 0, 1) := by decide +kernel
theorem dX5_read_27 : decode cX5_read 27 = .ok (.getfield 37, 3) := by decide +kernel
theorem dX5_read_30 : decode cX5_read 30 = .ok (.ireturn, 1) := by decide +kernel
theorem dX5_read_31 : decode cX5_read 31 = .ok (.aload_n 0, 1) := by decide +kernel
theorem dX5_read_32 : decode cX5_read 32 = .ok (.iload_n 1, 1) := by decide +kernel
theorem dX5_read_33 : decode cX5_read 33 = .ok (.iconst 1, 1) := by decide +kernel
theorem dX5_read_34 : decode cX5_read 34 = .ok (.iadd, 1) := by decide +kernel
theorem dX5_read_35 : decode cX5_read 35 = .ok (.putfield 27, 3) := by decide +kernel
theorem dX5_read_38 : decode cX5_read 38 = .ok (.aload_n 0, 1) := by decide +kernel
theorem dX5_read_39 : decode cX5_read 39 = .ok (.invokevirtual 40, 3) := by decide +kernel
theorem dX5_read_42 : decode cX5_read 42 = .ok (.aload_n 0, 1) := by decide +kernel
theorem dX5_read_43 : decode cX5_read 43 = .ok (.getfield 37, 3) := by decide +kernel
theorem dX5_read_46 : decode cX5_read 46 = .ok (.aload_n 0, 1) := by decide +kernel
theorem dX5_read_47 : decode cX5_read 47 = .ok (.getfield 21, 3) := by decide +kernel
theorem dX5_read_50 : decode cX5_read 50 = .ok (.if_icmp .lt 5, 3) := by decide +kernel
theorem dX5_read_53 : decode cX5_read 53 = .ok (.iconst (-1), 1) := by decide +kernel
theorem dX5_read_54 : decode cX5_read 54 = .ok (.ireturn, 1) := by decide +kernel
theorem dX5_read_55 : decode cX5_read 55 = .ok (.aload_n 0, 1) := by decide +kernel
theorem dX5_read_56 : decode cX5_read 56 = .ok (.getfield 11, 3) := by decide +kernel
theorem dX5_read_59 : decode cX5_read 59 = .ok (.aload_n 0, 1) := by decide +kernel
theorem dX5_read_60 : decode cX5_read 60 = .ok (.getfield 37, 3) := by decide +kernel
theorem dX5_read_63 : decode cX5_read 63 = .ok (.iaload, 1) := by decide +kernel
theorem dX5_read_64 : decode cX5_read 64 = .ok (.bipush 59, 2) := by decide +kernel
theorem dX5_read_66 : decode cX5_read 66 = .ok (.if_icmp .eq 8, 3) := by decide +kernel
theorem dX5_read_69 : decode cX5_read 69 = .ok (.aload_n 0, 1) := by decide +kernel
theorem dX5_read_70 : decode cX5_read 70 = .ok (.getfield 37, 3) := by decide +kernel
theorem dX5_read_73 : decode cX5_read 73 = .ok (.ireturn, 1) := by decide +kernel
theorem dX5_read_74 : decode cX5_read 74 = .ok (.iinc 1 1, 3) := by decide +kernel
theorem dX5_read_77 : decode cX5_read 77 = .ok (.goto (-65), 3) := by decide +kernel
theorem dX5_read_80 : decode cX5_read 80 = .ok (.aload_n 0, 1) := by decide +kernel
theorem dX5_read_81 : decode cX5_read 81 = .ok (.getfield 37, 3) := by decide +kernel
theorem dX5_read_84 : decode cX5_read 84 = .ok (.ireturn, 1) := by decide +kernel
theorem dX5_readLine_0 : decode cX5_readLine 0 = .ok (.aload_n 0, 1) := by decide +kernel
theorem dX5_readLine_1 : decode cX5_readLine 1 = .ok (.invokevirtual 40, 3) := by decide +kernel
theorem dX5_readLine_4 : decode cX5_readLine 4 = .ok (.aload_n 0, 1) := by decide +kernel
theorem dX5_readLine_5 : decode cX5_readLine 5 = .ok (.invokevirtual 43, 3) := by decide +kernel
theorem dX5_readLine_8 : decode cX5_readLine 8 = .ok (.istore_n 2, 1) := by decide +kernel
theorem dX5_readLine_9 : decode cX5_readLine 9 = .ok (.iload_n 2, 1) := by decide +kernel
theorem dX5_readLine_10 : decode cX5_readLine 10 = .ok (.iconst (-1), 1) := by decide +kernel
theorem dX5_readLine_11 : decode cX5_readLine 11 = .ok (.if_icmp .ne 5, 3) := by decide +kernel
theorem dX5_readLine_14 : decode cX5_readLine 14 = .ok (.iconst 0, 1) := by decide +kernel
theorem dX5_readLine_15 : decode cX5_readLine 15 = .ok (.ireturn, 1) := by decide +kernel
theorem dX5_readLine_16 : decode cX5_readLine 16 = .ok (.aload_n 0, 1) := by decide +kernel
theorem dX5_readLine_17 : decode cX5_readLine 17 = .ok (.getfield 15, 3) := by decide +kernel
theorem dX5_readLine_20 : decode cX5_readLine 20 = .ok (.iload_n 1, 1) := by decide +kernel
theorem dX5_readLine_21 : decode cX5_readLine 21 = .ok (.iload_n 2, 1) := by decide +kernel
theorem dX5_readLine_22 : decode cX5_readLine 22 = .ok (.iastore, 1) := by decide +kernel
theorem dX5_readLine_23 : decode cX5_readLine 23 = .ok (.iload_n 1, 1) := by decide +kernel
theorem dX5_readLine_24 : decode cX5_readLine 24 = .ok (.iconst 5, 1) := by decide +kernel
theorem dX5_readLine_25 : decode cX5_readLine 25 = .ok (.imul, 1) := by decide +kernel
theorem dX5_readLine_26 : decode cX5_readLine 26 = .ok (.istore_n 3, 1) := by decide +kernel
theorem dX5_readLine_27 : decode cX5_readLine 27 = .ok (.getstatic 47, 3) := by decide +kernel
theorem dX5_readLine_30 : decode cX5_readLine 30 = .ok (.iload_n 2, 1) := by decide +kernel
theorem dX5_readLine_31 : decode cX5_readLine 31 = .ok (.iconst 1, 1) := by decide +kernel
theorem dX5_readLine_32 : decode cX5_readLine 32 = .ok (.iadd, 1) := by decide +kernel
theorem dX5_readLine_33 : decode cX5_readLine 33 = .ok (.iaload, 1) := by decide +kernel
theorem dX5_readLine_34 : decode cX5_readLine 34 = .ok (.getstatic 47, 3) := by decide +kernel
theorem dX5_readLine_37 : decode cX5_readLine 37 = .ok (.iload_n 2, 1) := by decide +kernel
theorem dX5_readLine_38 : decode cX5_readLine 38 = .ok (.iaload, 1) := by decide +kernel
theorem dX5_readLine_39 : decode cX5_readLine 39 = .ok (.isub, 1) := by decide +kernel
theorem dX5_readLine_40 : decode cX5_readLine 40 = .ok (.istore 4, 2) := by decide +kernel
theorem dX5_readLine_42 : decode cX5_readLine 42 = .ok (.iconst 0, 1) := by decide +kernel
theorem dX5_readLine_43 : decode cX5_readLine 43 = .ok (.istore 5, 2) := by decide +kernel
theorem dX5_readLine_45 : decode cX5_readLine 45 = .ok (.iload 5, 2) := by decide +kernel
theorem dX5_readLine_47 : decode cX5_readLine 47 = .ok (.iload 4, 2) := by decide +kernel
theorem dX5_readLine_49 : decode cX5_readLine 49 = .ok (.if_icmp .ge 117, 3) := by decide +kernel
theorem dX5_readLine_52 : decode cX5_readLine 52 = .ok (.aload_n 0, 1) := by decide +kernel
theorem dX5_readLine_53 : decode cX5_readLine 53 = .ok (.invokevirtual 40, 3) := by decide +kernel
theorem dX5_readLine_56 : decode cX5_readLine 56 = .ok (.aload_n 0, 1) := by decide +kernel
theorem dX5_readLine_57 : decode cX5_readLine 57 = .ok (.invokevirtual 50, 3) := by decide +kernel
theorem dX5_readLine_60 : decode cX5_readLine 60 = .ok (.istore 6, 2) := by decide +kernel
theorem dX5_readLine_62 : decode cX5_readLine 62 = .ok (.iload_n 2, 1) := by decide +kernel
theorem dX5_readLine_63 : decode cX5_readLine 63 = .ok (.iconst 3, 1) := by decide +kernel
theorem dX5_readLine_64 : decode cX5_readLine 64 = .ok (.if_icmp .ne 20, 3) := by decide +kernel
theorem dX5_readLine_67 : decode cX5_readLine 67 = .ok (.iload 5, 2) := by decide +kernel
theorem dX5_readLine_69 : decode cX5_readLine 69 = .ok (.iconst 2, 1) := by decide +kernel
theorem dX5_readLine_70 : decode cX5_readLine 70 = .ok (.if_icmp .ne 14, 3) := by decide +kernel
theorem dX5_readLine_73 : decode cX5_readLine 73 = .ok (.aload_n 0, 1) := by decide +kernel
theorem dX5_readLine_74 : decode cX5_readLine 74 = .ok (.getfield 18, 3) := by decide +kernel
theorem dX5_readLine_77 : decode cX5_readLine 77 = .ok (.iload_n 3, 1) := by decide +kernel
theorem dX5_readLine_78 : decode cX5_readLine 78 = .ok (.iconst 1, 1) := by decide +kernel
theorem dX5_readLine_79 : decode cX5_readLine 79 = .ok (.iadd, 1) := by decide +kernel
theorem dX5_readLine_80 : decode cX5_readLine 80 = .ok (.iaload, 1) := by decide +kernel
theorem dX5_readLine_81 : decode cX5_readLine 81 = .ok (.goto 15, 3) := by decide +kernel
theorem dX5_readLine_84 : decode cX5_readLine 84 = .ok (.getstatic 53, 3) := by decide +kernel
theorem dX5_readLine_87 : decode cX5_readLine 87 = .ok (.getstatic 47, 3) := by decide +kernel
theorem dX5_readLine_90 : decode cX5_readLine 90 = .ok (.iload_n 2, 1) := by decide +kernel
theorem dX5_readLine_91 : decode cX5_readLine 91 = .ok (.iaload, 1) := by decide +kernel
theorem dX5_readLine_92 : decode cX5_readLine 92 = .ok (.iload 5, 2) := by decide +kernel
theorem dX5_readLine_94 : decode cX5_readLine 94 = .ok (.iadd, 1) := by decide +kernel
theorem dX5_readLine_95 : decode cX5_readLine 95 = .ok (.iaload, 1) := by decide +kernel
theorem dX5_readLine_96 : decode cX5_readLine 96 = .ok (.istore 7, 2) := by decide +kernel
theorem dX5_readLine_98 : decode cX5_readLine 98 = .ok (.iload_n 2, 1) := by decide +kernel
theorem dX5_readLine_99 : decode cX5_readLine 99 = .ok (.ifCond .ne 20, 3) := by decide +kernel
theorem dX5_readLine_102 : decode cX5_readLine 102 = .ok (.iload 5, 2) := by decide +kernel
theorem dX5_readLine_104 : decode cX5_readLine 104 = .ok (.iconst 1, 1) := by decide +kernel
theorem dX5_readLine_105 : decode cX5_readLine 105 = .ok (.if_icmp .ne 14, 3) := by decide +kernel
theorem dX5_readLine_108 : decode cX5_readLine 108 = .ok (.aload_n 0, 1) := by decide +kernel
theorem dX5_readLine_109 : decode cX5_readLine 109 = .ok (.getfield 18, 3) := by decide +kernel
theorem dX5_readLine_112 : decode cX5_readLine 112 = .ok (.iload_n 3, 1) := by decide +kernel
theorem dX5_readLine_113 : decode cX5_readLine 113 = .ok (.iaload, 1) := by decide +kernel
theorem dX5_readLine_114 : decode cX5_readLine 114 = .ok (.iconst 1, 1) := by decide +kernel
theorem dX5_readLine_115 : decode cX5_readLine 115 = .ok (.isub, 1) := by decide +kernel
theorem dX5_readLine_116 : decode cX5_readLine 116 = .ok (.goto 15, 3) := by decide +kernel
theorem dX5_readLine_119 : decode cX5_readLine 119 = .ok (.getstatic 56, 3) := by decide +kernel
theorem dX5_readLine_122 : decode cX5_readLine 122 = .ok (.getstatic 47, 3) := by decide +kernel
theorem dX5_readLine_125 : decode cX5_readLine 125 = .ok (.iload_n 2, 1) := by decide +kernel
theorem dX5_readLine_126 : decode cX5_readLine 126 = .ok (.iaload, 1) := by decide +kernel
theorem dX5_readLine_127 : decode cX5_readLine 127 = .ok (.iload 5, 2) := by decide +kernel
theorem dX5_readLine_129 : decode cX5_readLine 129 = .ok (.iadd, 1) := by decide +kernel
theorem dX5_readLine_130 : decode cX5_readLine 130 = .ok (.iaload, 1) := by decide +kernel
theorem dX5_readLine_131 : decode cX5_readLine 131 = .ok (.istore 8, 2) := by decide +kernel
theorem dX5_readLine_133 : decode cX5_readLine 133 = .ok (.iload 6, 2) := by decide +kernel
theorem dX5_readLine_135 : decode cX5_readLine 135 = .ok (.iload 7, 2) := by decide +kernel
theorem dX5_readLine_137 : decode cX5_readLine 137 = .ok (.if_icmp .lt 10, 3) := by decide +kernel
theorem dX5_readLine_140 : decode cX5_readLine 140 = .ok (.iload 6, 2) := by decide +kernel
theorem dX5_readLine_142 : decode cX5_readLine 142 = .ok (.iload 8, 2) := by decide +kernel
theorem dX5_readLine_144 : decode cX5_readLine 144 = .ok (.if_icmp .le 5, 3) := by decide +kernel
theorem dX5_readLine_147 : decode cX5_readLine 147 = .ok (.iconst 0, 1) := by decide +kernel
theorem dX5_readLine_148 : decode cX5_readLine 148 = .ok (.ireturn, 1) := by decide +kernel
theorem dX5_readLine_149 : decode cX5_readLine 149 = .ok (.aload_n 0, 1) := by decide +kernel
theorem dX5_readLine_150 : decode cX5_readLine 150 = .ok (.getfield 18, 3) := by decide +kernel
theorem dX5_readLine_153 : decode cX5_readLine 153 = .ok (.iload_n 3, 1) := by decide +kernel
theorem dX5_readLine_154 : decode cX5_readLine 154 = .ok (.iload 5, 2) := by decide +kernel
theorem dX5_readLine_156 : decode cX5_readLine 156 = .ok (.iadd, 1) := by decide +kernel
theorem dX5_readLine_157 : decode cX5_readLine 157 = .ok (.iload 6, 2) := by decide +kernel
theorem dX5_readLine_159 : decode cX5_readLine 159 = .ok (.iastore, 1) := by decide +kernel
theorem dX5_readLine_160 : decode cX5_readLine 160 = .ok (.iinc 5 1, 3) := by decide +kernel
theorem dX5_readLine_163 : decode cX5_readLine 163 = .ok (.goto (-118), 3) := by decide +kernel
theorem dX5_readLine_166 : decode cX5_readLine 166 = .ok (.iconst 1, 1) := by decide +kernel
theorem dX5_readLine_167 : decode cX5_readLine 167 = .ok (.ireturn, 1) := by decide +kernel
theorem dX5_nextToken_0 : decode cX5_nextToken 0 = .ok (.aload_n 0, 1) := by decide +kernel
theorem dX5_nextToken_1 : decode cX5_nextToken 1 = .ok (.getfield 30, 3) := by decide +kernel
theorem dX5_nextToken_4 : decode cX5_nextToken 4 = .ok (.istore_n 1, 1) := by decide +kernel
theorem dX5_nextToken_5 : decode cX5_nextToken 5 = .ok (.iload_n 1, 1) := by decide +kernel
theorem dX5_nextToken_6 : decode cX5_nextToken 6 = .ok (.aload_n 0, 1) := by decide +kernel
theorem dX5_nextToken_7 : decode cX5_nextToken 7 = .ok (.getfield 21, 3) := by decide +kernel
theorem dX5_nextToken_10 : decode cX5_nextToken 10 = .ok (.if_icmp .ge 20, 3) := by decide +kernel
theorem dX5_nextToken_13 : decode cX5_nextToken 13 = .ok (.aload_n 0, 1) := by decide +kernel
theorem dX5_nextToken_14 : decode cX5_nextToken 14 = .ok (.getfield 11, 3) := by decide +kernel
theorem dX5_nextToken_17 : decode cX5_nextToken 17 = .ok (.iload_n 1, 1) := by decide +kernel
theorem dX5_nextToken_18 : decode cX5_nextToken 18 = .ok (.iaload, 1) := by decide +kernel
theorem dX5_nextToken_19 : decode cX5_nextToken 19 = .ok (.bipush 32, 2) := by decide +kernel
theorem dX5_nextToken_21 : decode cX5_nextToken 21 = .ok (.if_icmp .ne 9, 3) := by decide +kernel
theorem dX5_nextToken_24 : decode cX5_nextToken 24 = .ok (.iinc 1 1, 3) := by decide +kernel
theorem dX5_nextToken_27 : decode cX5_nextToken 27 = .ok (.goto (-22), 3) := by decide +kernel
theorem dX5_nextToken_30 : decode cX5_nextToken 30 = .ok (.aload_n 0, 1) := by decide +kernel
theorem dX5_nextToken_31 : decode cX5_nextToken 31 = .ok (.iload_n 1, 1) := by decide +kernel
theorem dX5_nextToken_32 : decode cX5_nextToken 32 = .ok (.putfield 37, 3) := by decide +kernel
theorem dX5_nextToken_35 : decode cX5_nextToken 35 = .ok (.iload_n 1, 1) := by decide +kernel
theorem dX5_nextToken_36 : decode cX5_nextToken 36 = .ok (.aload_n 0, 1) := by decide +kernel
theorem dX5_nextToken_37 : decode cX5_nextToken 37 = .ok (.getfield 21, 3) := by decide +kernel
theorem dX5_nextToken_40 : decode cX5_nextToken 40 = .ok (.if_icmp .ge 72, 3) := by decide +kernel
theorem dX5_nextToken_43 : decode cX5_nextToken 43 = .ok (.aload_n 0, 1) := by decide +kernel
theorem dX5_nextToken_44 : decode cX5_nextToken 44 = .ok (.getfield 11, 3) := by decide +kernel
theorem dX5_nextToken_47 : decode cX5_nextToken 47 = .ok (.iload_n 1, 1) := by decide +kernel
theorem dX5_nextToken_48 : decode cX5_nextToken 48 = .ok (.iaload, 1) := by decide +kernel
theorem dX5_nextToken_49 : decode cX5_nextToken 49 = .ok (.invokestatic 59, 3) := by decide +kernel
theorem dX5_nextToken_52 : decode cX5_nextToken 52 = .ok (.istore_n 2, 1) := by decide +kernel
theorem dX5_nextToken_53 : decode cX5_nextToken 53 = .ok (.aload_n 0, 1) := by decide +kernel
theorem dX5_nextToken_54 : decode cX5_nextToken 54 = .ok (.getfield 11, 3) := by decide +kernel
theorem dX5_nextToken_57 : decode cX5_nextToken 57 = .ok (.iload_n 1, 1) := by decide +kernel
theorem dX5_nextToken_58 : decode cX5_nextToken 58 = .ok (.iaload, 1) := by decide +kernel
theorem dX5_nextToken_59 : decode cX5_nextToken 59 = .ok (.invokestatic 62, 3) := by decide +kernel
theorem dX5_nextToken_62 : decode cX5_nextToken 62 = .ok (.istore_n 3, 1) := by decide +kernel
theorem dX5_nextToken_63 : decode cX5_nextToken 63 = .ok (.iinc 1 1, 3) := by decide +kernel
theorem dX5_nextToken_66 : decode cX5_nextToken 66 = .ok (.iload_n 1, 1) := by decide +kernel
theorem dX5_nextToken_67 : decode cX5_nextToken 67 = .ok (.aload_n 0, 1) := by decide +kernel
theorem dX5_nextToken_68 : decode cX5_nextToken 68 = .ok (.getfield 21, 3) := by decide +kernel
theorem dX5_nextToken_71 : decode cX5_nextToken 71 = .ok (.if_icmp .ge 41, 3) := by decide +kernel
theorem dX5_nextToken_74 : decode cX5_nextToken 74 = .ok (.iload_n 2, 1) := by decide +kernel
theorem dX5_nextToken_75 : decode cX5_nextToken 75 = .ok (.ifCond .eq 15, 3) := by decide +kernel
theorem dX5_nextToken_78 : decode cX5_nextToken 78 = .ok (.aload_n 0, 1) := by decide +kernel
theorem dX5_nextToken_79 : decode cX5_nextToken 79 = .ok (.getfield 11, 3) := by decide +kernel
theorem dX5_nextToken_82 : decode cX5_nextToken 82 = .ok (.iload_n 1, 1) := by decide +kernel
theorem dX5_nextToken_83 : decode cX5_nextToken 83 = .ok (.iaload, 1) := by decide +kernel
theorem dX5_nextToken_84 : decode cX5_nextToken 84 = .ok (.invokestatic 59, 3) := by decide +kernel
theorem dX5_nextToken_87 : decode cX5_nextToken 87 = .ok (.ifCond .ne 19, 3) := by decide +kernel
theorem dX5_nextToken_90 : decode cX5_nextToken 90 = .ok (.iload_n 3, 1) := by decide +kernel
theorem dX5_nextToken_91 : decode cX5_nextToken 91 = .ok (.ifCond .eq 21, 3) := by decide +kernel
theorem dX5_nextToken_94 : decode cX5_nextToken 94 = .ok (.aload_n 0, 1) := by decide +kernel
theorem dX5_nextToken_95 : decode cX5_nextToken 95 = .ok (.getfield 11, 3) := by decide +kernel
theorem dX5_nextToken_98 : decode cX5_nextToken 98 = .ok (.iload_n 1, 1) := by decide +kernel
theorem dX5_nextToken_99 : decode cX5_nextToken 99 = .ok (.iaload, 1) := by decide +kernel
theorem dX5_nextToken_100 : decode cX5_nextToken 100 = .ok (.invokestatic 62, 3) := by decide +kernel
theorem dX5_nextToken_103 : decode cX5_nextToken 103 = .ok (.ifCond .eq 9, 3) := by decide +kernel
theorem dX5_nextToken_106 : decode cX5_nextToken 106 = .ok (.iinc 1 1, 3) := by decide +kernel
theorem dX5_nextToken_109 : decode cX5_nextToken 109 = .ok (.goto (-43), 3) := by decide +kernel
theorem dX5_nextToken_112 : decode cX5_nextToken 112 = .ok (.aload_n 0, 1) := by decide +kernel
theorem dX5_nextToken_113 : decode cX5_nextToken 113 = .ok (.iload_n 1, 1) := by decide +kernel
theorem dX5_nextToken_114 : decode cX5_nextToken 114 = .ok (.putfield 30, 3) := by decide +kernel
theorem dX5_nextToken_117 : decode cX5_nextToken 117 = .ok (.return_, 1) := by decide +kernel
theorem dX5_kindOfToken_0 : decode cX5_kindOfToken 0 = .ok (.iconst 0, 1) := by decide +kernel
theorem dX5_kindOfToken_1 : decode cX5_kindOfToken 1 = .ok (.istore_n 1, 1) := by decide +kernel
theorem dX5_kindOfToken_2 : decode cX5_kindOfToken 2 = .ok (.iload_n 1, 1) := by decide +kernel
theorem dX5_kindOfToken_3 : decode cX5_kindOfToken 3 = .ok (.bipush 8, 2) := by decide +kernel
theorem dX5_kindOfToken_5 : decode cX5_kindOfToken 5 = .ok (.if_icmp .ge 22, 3) := by decide +kernel
theorem dX5_kindOfToken_8 : decode cX5_kindOfToken 8 = .ok (.aload_n 0, 1) := by decide +kernel
theorem dX5_kindOfToken_9 : decode cX5_kindOfToken 9 = .ok (.iload_n 1, 1) := by decide +kernel
theorem dX5_kindOfToken_10 : decode cX5_kindOfToken 10 = .ok (.invokestatic 65, 3) := by decide +kernel
theorem dX5_kindOfToken_13 : decode cX5_kindOfToken 13 = .ok (.invokevirtual 69, 3) := by decide +kernel
theorem dX5_kindOfToken_16 : decode cX5_kindOfToken 16 = .ok (.ifCond .eq 5, 3) := by decide +kernel
theorem dX5_kindOfToken_19 : decode cX5_kindOfToken 19 = .ok (.iload_n 1, 1) := by decide +kernel
theorem dX5_kindOfToken_20 : decode cX5_kindOfToken 20 = .ok (.ireturn, 1) := by decide +kernel
theorem dX5_kindOfToken_21 : decode cX5_kindOfToken 21 = .ok (.iinc 1 1, 3) := by decide +kernel
theorem dX5_kindOfToken_24 : decode cX5_kindOfToken 24 = .ok (.goto (-22), 3) := by decide +kernel
theorem dX5_kindOfToken_27 : decode cX5_kindOfToken 27 = .ok (.iconst (-1), 1) := by decide +kernel
theorem dX5_kindOfToken_28 : decode cX5_kindOfToken 28 = .ok (.ireturn, 1) := by decide +kernel
theorem dX5_tokenIs_0 : decode cX5_tokenIs 0 = .ok (.aload_n 0, 1) := by decide +kernel
theorem dX5_tokenIs_1 : decode cX5_tokenIs 1 = .ok (.getfield 30, 3) := by decide +kernel
theorem dX5_tokenIs_4 : decode cX5_tokenIs 4 = .ok (.aload_n 0, 1) := by decide +kernel
theorem dX5_tokenIs_5 : decode cX5_tokenIs 5 = .ok (.getfield 37, 3) := by decide +kernel
theorem dX5_tokenIs_8 : decode cX5_tokenIs 8 = .ok (.isub, 1) := by decide +kernel
theorem dX5_tokenIs_9 : decode cX5_tokenIs 9 = .ok (.aload_n 1, 1) := by decide +kernel
theorem dX5_tokenIs_10 : decode cX5_tokenIs 10 = .ok (.invokevirtual 73, 3) := by decide +kernel
theorem dX5_tokenIs_13 : decode cX5_tokenIs 13 = .ok (.if_icmp .eq 5, 3) := by decide +kernel
theorem dX5_tokenIs_16 : decode cX5_tokenIs 16 = .ok (.iconst 0, 1) := by decide +kernel
theorem dX5_tokenIs_17 : decode cX5_tokenIs 17 = .ok (.ireturn, 1) := by decide +kernel
theorem dX5_tokenIs_18 : decode cX5_tokenIs 18 = .ok (.iconst 0, 1) := by decide +kernel
theorem dX5_tokenIs_19 : decode cX5_tokenIs 19 = .ok (.istore_n 2, 1) := by decide +kernel
theorem dX5_tokenIs_20 : decode cX5_tokenIs 20 = .ok (.iload_n 2, 1) := by decide +kernel
theorem dX5_tokenIs_21 : decode cX5_tokenIs 21 = .ok (.aload_n 1, 1) := by decide +kernel
theorem dX5_tokenIs_22 : decode cX5_tokenIs 22 = .ok (.invokevirtual 73, 3) := by decide +kernel
theorem dX5_tokenIs_25 : decode cX5_tokenIs 25 = .ok (.if_icmp .ge 30, 3) := by decide +kernel
theorem dX5_tokenIs_28 : decode cX5_tokenIs 28 = .ok (.aload_n 0, 1) := by decide +kernel
theorem dX5_tokenIs_29 : decode cX5_tokenIs 29 = .ok (.getfield 11, 3) := by decide +kernel
theorem dX5_tokenIs_32 : decode cX5_tokenIs 32 = .ok (.aload_n 0, 1) := by decide +kernel
theorem dX5_tokenIs_33 : decode cX5_tokenIs 33 = .ok (.getfield 37, 3) := by decide +kernel
theorem dX5_tokenIs_36 : decode cX5_tokenIs 36 = .ok (.iload_n 2, 1) := by decide +kernel
theorem dX5_tokenIs_37 : decode cX5_tokenIs 37 = .ok (.iadd, 1) := by decide +kernel
theorem dX5_tokenIs_38 : decode cX5_tokenIs 38 = .ok (.iaload, 1) := by decide +kernel
theorem dX5_tokenIs_39 : decode cX5_tokenIs 39 = .ok (.aload_n 1, 1) := by decide +kernel
theorem dX5_tokenIs_40 : decode cX5_tokenIs 40 = .ok (.iload_n 2, 1) := by decide +kernel
theorem dX5_tokenIs_41 : decode cX5_tokenIs 41 = .ok (.invokevirtual 77, 3) := by decide +kernel
theorem dX5_tokenIs_44 : decode cX5_tokenIs 44 = .ok (.if_icmp .eq 5, 3) := by decide +kernel
theorem dX5_tokenIs_47 : decode cX5_tokenIs 47 = .ok (.iconst 0, 1) := by decide +kernel
theorem dX5_tokenIs_48 : decode cX5_tokenIs 48 = .ok (.ireturn, 1) := by decide +kernel
theorem dX5_tokenIs_49 : decode cX5_tokenIs 49 = .ok (.iinc 2 1, 3) := by decide +kernel
theorem dX5_tokenIs_52 : decode cX5_tokenIs 52 = .ok (.goto (-32), 3) := by decide +kernel
theorem dX5_tokenIs_55 : decode cX5_tokenIs 55 = .ok (.iconst 1, 1) := by decide +kernel
theorem dX5_tokenIs_56 : decode cX5_tokenIs 56 = .ok (.ireturn, 1) := by decide +kernel
theorem dX5_numberOfToken_0 : decode cX5_numberOfToken 0 = .ok (.aload_n 0, 1) := by decide +kernel
theorem dX5_numberOfToken_1 : decode cX5_numberOfToken 1 = .ok (.getfield 30, 3) := by decide +kernel
theorem dX5_numberOfToken_4 : decode cX5_numberOfToken 4 = .ok (.aload_n 0, 1) := by decide +kernel
theorem dX5_numberOfToken_5 : decode cX5_numberOfToken 5 = .ok (.getfield 37, 3) := by decide +kernel
theorem dX5_numberOfToken_8 : decode cX5_numberOfToken 8 = .ok (.isub, 1) := by decide +kernel
theorem dX5_numberOfToken_9 : decode cX5_numberOfToken 9 = .ok (.istore_n 1, 1) := by decide +kernel
theorem dX5_numberOfToken_10 : decode cX5_numberOfToken 10 = .ok (.iload_n 1, 1) := by decide +kernel
theorem dX5_numberOfToken_11 : decode cX5_numberOfToken 11 = .ok (.iconst 1, 1) := by decide +kernel
theorem dX5_numberOfToken_12 : decode cX5_numberOfToken 12 = .ok (.if_icmp .lt 8, 3) := by decide +kernel
theorem dX5_numberOfToken_15 : decode cX5_numberOfToken 15 = .ok (.iload_n 1, 1) := by decide +kernel
theorem dX5_numberOfToken_16 : decode cX5_numberOfToken 16 = .ok (.iconst 4, 1) := by decide +kernel
theorem dX5_numberOfToken_17 : decode cX5_numberOfToken 17 = .ok (.if_icmp .le 5, 3) := by decide +kernel
theorem dX5_numberOfToken_20 : decode cX5_numberOfToken 20 = .ok (.iconst (-1), 1) := by decide +kernel
theorem dX5_numberOfToken_21 : decode cX5_numberOfToken 21 = .ok (.ireturn, 1) := by decide +kernel
theorem dX5_numberOfToken_22 : decode cX5_numberOfToken 22 = .ok (.iconst 0, 1) := by decide +kernel
theorem dX5_numberOfToken_23 : decode cX5_numberOfToken 23 = .ok (.istore_n 2, 1) := by decide +kernel
theorem dX5_numberOfToken_24 : decode cX5_numberOfToken 24 = .ok (.aload_n 0, 1) := by decide +kernel
theorem dX5_numberOfToken_25 : decode cX5_numberOfToken 25 = .ok (.getfield 37, 3) := by decide +kernel
theorem dX5_numberOfToken_28 : decode cX5_numberOfToken 28 = .ok (.istore_n 3, 1) := by decide +kernel
theorem dX5_numberOfToken_29 : decode cX5_numberOfToken 29 = .ok (.iload_n 3, 1) := by decide +kernel
theorem dX5_numberOfToken_30 : decode cX5_numberOfToken 30 = .ok (.aload_n 0, 1) := by decide +kernel
theorem dX5_numberOfToken_31 : decode cX5_numberOfToken 31 = .ok (.getfield 30, 3) := by decide +kernel
theorem dX5_numberOfToken_34 : decode cX5_numberOfToken 34 = .ok (.if_icmp .ge 38, 3) := by decide +kernel
theorem dX5_numberOfToken_37 : decode cX5_numberOfToken 37 = .ok (.aload_n 0, 1) := by decide +kernel
theorem dX5_numberOfToken_38 : decode cX5_numberOfToken 38 = .ok (.getfield 11, 3) := by decide +kernel
theorem dX5_numberOfToken_41 : decode cX5_numberOfToken 41 = .ok (.iload_n 3, 1) := by decide +kernel
theorem dX5_numberOfToken_42 : decode cX5_numberOfToken 42 = .ok (.iaload, 1) := by decide +kernel
theorem dX5_numberOfToken_43 : decode cX5_numberOfToken 43 = .ok (.invokestatic 62, 3) := by decide +kernel
theorem dX5_numberOfToken_46 : decode cX5_numberOfToken 46 = .ok (.ifCond .ne 5, 3) := by decide +kernel
theorem dX5_numberOfToken_49 : decode cX5_numberOfToken 49 = .ok (.iconst (-1), 1) := by decide +kernel
theorem dX5_numberOfToken_50 : decode cX5_numberOfToken 50 = .ok (.ireturn, 1) := by decide +kernel
theorem dX5_numberOfToken_51 : decode cX5_numberOfToken 51 = .ok (.iload_n 2, 1) := by decide +kernel
theorem dX5_numberOfToken_52 : decode cX5_numberOfToken 52 = .ok (.bipush 10, 2) := by decide +kernel
theorem dX5_numberOfToken_54 : decode cX5_numberOfToken 54 = .ok (.imul, 1) := by decide +kernel
theorem dX5_numberOfToken_55 : decode cX5_numberOfToken 55 = .ok (.aload_n 0, 1) := by decide +kernel
theorem dX5_numberOfToken_56 : decode cX5_numberOfToken 56 = .ok (.getfield 11, 3) := by decide +kernel
theorem dX5_numberOfToken_59 : decode cX5_numberOfToken 59 = .ok (.iload_n 3, 1) := by decide +kernel
theorem dX5_numberOfToken_60 : decode cX5_numberOfToken 60 = .ok (.iaload, 1) := by decide +kernel
theorem dX5_numberOfToken_61 : decode cX5_numberOfToken 61 = .ok (.iadd, 1) := by decide +kernel
theorem dX5_numberOfToken_62 : decode cX5_numberOfToken 62 = .ok (.bipush 48, 2) := by decide +kernel
theorem dX5_numberOfToken_64 : decode cX5_numberOfToken 64 = .ok (.isub, 1) := by decide +kernel
theorem dX5_numberOfToken_65 : decode cX5_numberOfToken 65 = .ok (.istore_n 2, 1) := by decide +kernel
theorem dX5_numberOfToken_66 : decode cX5_numberOfToken 66 = .ok (.iinc 3 1, 3) := by decide +kernel
theorem dX5_numberOfToken_69 : decode cX5_numberOfToken 69 = .ok (.goto (-40), 3) := by decide +kernel
theorem dX5_numberOfToken_72 : decode cX5_numberOfToken 72 = .ok (.iload_n 2, 1) := by decide +kernel
theorem dX5_numberOfToken_73 : decode cX5_numberOfToken 73 = .ok (.ireturn, 1) := by decide +kernel
theorem dX5_wordOf_0 : decode cX5_wordOf 0 = .ok (.iload_n 0, 1) := by decide +kernel
theorem dX5_wordOf_1 : decode cX5_wordOf 1 = .ok (.tableswitch 64 0 6 #[43, 46, 49, 52, 55, 58, 61], 43) := by decide +kernel
theorem dX5_wordOf_44 : decode cX5_wordOf 44 = .ok (.ldc 81, 2) := by decide +kernel
theorem dX5_wordOf_46 : decode cX5_wordOf 46 = .ok (.areturn, 1) := by decide +kernel
theorem dX5_wordOf_47 : decode cX5_wordOf 47 = .ok (.ldc 83, 2) := by decide +kernel
theorem dX5_wordOf_49 : decode cX5_wordOf 49 = .ok (.areturn, 1) := by decide +kernel
theorem dX5_wordOf_50 : decode cX5_wordOf 50 = .ok (.ldc 85, 2) := by decide +kernel
theorem dX5_wordOf_52 : decode cX5_wordOf 52 = .ok (.areturn, 1) := by decide +kernel
theorem dX5_wordOf_53 : decode cX5_wordOf 53 = .ok (.ldc 87, 2) := by decide +kernel
theorem dX5_wordOf_55 : decode cX5_wordOf 55 = .ok (.areturn, 1) := by decide +kernel
theorem dX5_wordOf_56 : decode cX5_wordOf 56 = .ok (.ldc 89, 2) := by decide +kernel
theorem dX5_wordOf_58 : decode cX5_wordOf 58 = .ok (.areturn, 1) := by decide +kernel
theorem dX5_wordOf_59 : decode cX5_wordOf 59 = .ok (.ldc 91, 2) := by decide +kernel
theorem dX5_wordOf_61 : decode cX5_wordOf 61 = .ok (.areturn, 1) := by decide +kernel
theorem dX5_wordOf_62 : decode cX5_wordOf 62 = .ok (.ldc 93, 2) := by decide +kernel
theorem dX5_wordOf_64 : decode cX5_wordOf 64 = .ok (.areturn, 1) := by decide +kernel
theorem dX5_wordOf_65 : decode cX5_wordOf 65 = .ok (.ldc 95, 2) := by decide +kernel
theorem dX5_wordOf_67 : decode cX5_wordOf 67 = .ok (.areturn, 1) := by decide +kernel
theorem dX5_isLetter_0 : decode cX5_isLetter 0 = .ok (.iload_n 0, 1) := by decide +kernel
theorem dX5_isLetter_1 : decode cX5_isLetter 1 = .ok (.bipush 97, 2) := by decide +kernel
theorem dX5_isLetter_3 : decode cX5_isLetter 3 = .ok (.if_icmp .lt 13, 3) := by decide +kernel
theorem dX5_isLetter_6 : decode cX5_isLetter 6 = .ok (.iload_n 0, 1) := by decide +kernel
theorem dX5_isLetter_7 : decode cX5_isLetter 7 = .ok (.bipush 122, 2) := by decide +kernel
theorem dX5_isLetter_9 : decode cX5_isLetter 9 = .ok (.if_icmp .gt 7, 3) := by decide +kernel
theorem dX5_isLetter_12 : decode cX5_isLetter 12 = .ok (.iconst 1, 1) := by decide +kernel
theorem dX5_isLetter_13 : decode cX5_isLetter 13 = .ok (.goto 4, 3) := by decide +kernel
theorem dX5_isLetter_16 : decode cX5_isLetter 16 = .ok (.iconst 0, 1) := by decide +kernel
theorem dX5_isLetter_17 : decode cX5_isLetter 17 = .ok (.ireturn, 1) := by decide +kernel
theorem dX5_isDigit_0 : decode cX5_isDigit 0 = .ok (.iload_n 0, 1) := by decide +kernel
theorem dX5_isDigit_1 : decode cX5_isDigit 1 = .ok (.bipush 48, 2) := by decide +kernel
theorem dX5_isDigit_3 : decode cX5_isDigit 3 = .ok (.if_icmp .lt 13, 3) := by decide +kernel
theorem dX5_isDigit_6 : decode cX5_isDigit 6 = .ok (.iload_n 0, 1) := by decide +kernel
theorem dX5_isDigit_7 : decode cX5_isDigit 7 = .ok (.bipush 57, 2) := by decide +kernel
theorem dX5_isDigit_9 : decode cX5_isDigit 9 = .ok (.if_icmp .gt 7, 3) := by decide +kernel
theorem dX5_isDigit_12 : decode cX5_isDigit 12 = .ok (.iconst 1, 1) := by decide +kernel
theorem dX5_isDigit_13 : decode cX5_isDigit 13 = .ok (.goto 4, 3) := by decide +kernel
theorem dX5_isDigit_16 : decode cX5_isDigit 16 = .ok (.iconst 0, 1) := by decide +kernel
theorem dX5_isDigit_17 : decode cX5_isDigit 17 = .ok (.ireturn, 1) := by decide +kernel
theorem dX6_init_0 : decode cX6_init 0 = .ok (.aload_n 0, 1) := by decide +kernel
theorem dX6_init_1 : decode cX6_init 1 = .ok (.invokespecial 3, 3) := by decide +kernel
theorem dX6_init_4 : decode cX6_init 4 = .ok (.aload_n 0, 1) := by decide +kernel
theorem dX6_init_5 : decode cX6_init 5 = .ok (.bipush 10, 2) := by decide +kernel
theorem dX6_init_7 : decode cX6_init 7 = .ok (.anewarray 9, 3) := by decide +kernel
theorem dX6_init_10 : decode cX6_init 10 = .ok (.putfield 11, 3) := by decide +kernel
theorem dX6_init_13 : decode cX6_init 13 = .ok (.aload_n 0, 1) := by decide +kernel
theorem dX6_init_14 : decode cX6_init 14 = .ok (.new 17, 3) := by decide +kernel
theorem dX6_init_17 : decode cX6_init 17 = .ok (.dup, 1) := by decide +kernel
theorem dX6_init_18 : decode cX6_init 18 = .ok (.invokespecial 19, 3) := by decide +kernel
theorem dX6_init_21 : decode cX6_init 21 = .ok (.putfield 20, 3) := by decide +kernel
theorem dX6_init_24 : decode cX6_init 24 = .ok (.aload_n 0, 1) := by decide +kernel
theorem dX6_init_25 : decode cX6_init 25 = .ok (.bipush 12, 2) := by decide +kernel
theorem dX6_init_27 : decode cX6_init 27 = .ok (.newarray .long, 2) := by decide +kernel
theorem dX6_init_29 : decode cX6_init 29 = .ok (.putfield 24, 3) := by decide +kernel
theorem dX6_init_32 : decode cX6_init 32 = .ok (.aload_n 0, 1) := by decide +kernel
theorem dX6_init_33 : decode cX6_init 33 = .ok (.sipush 144, 3) := by decide +kernel
theorem dX6_init_36 : decode cX6_init 36 = .ok (.newarray .long, 2) := by decide +kernel
theorem dX6_init_38 : decode cX6_init 38 = .ok (.putfield 28, 3) := by decide +kernel
theorem dX6_init_41 : decode cX6_init 41 = .ok (.aload_n 0, 1) := by decide +kernel
theorem dX6_init_42 : decode cX6_init 42 = .ok (.aload_n 1, 1) := by decide +kernel
theorem dX6_init_43 : decode cX6_init 43 = .ok (.putfield 31, 3) := by decide +kernel
theorem dX6_init_46 : decode cX6_init 46 = .ok (.aload_n 0, 1) := by decide +kernel
theorem dX6_init_47 : decode cX6_init 47 = .ok (.aload_n 2, 1) := by decide +kernel
theorem dX6_init_48 : decode cX6_init 48 = .ok (.putfield 35, 3) := by decide +kernel
theorem dX6_init_51 : decode cX6_init 51 = .ok (.aload_n 0, 1) := by decide +kernel
theorem dX6_init_52 : decode cX6_init 52 = .ok (.aload_n 3, 1) := by decide +kernel
theorem dX6_init_53 : decode cX6_init 53 = .ok (.putfield 39, 3) := by decide +kernel
theorem dX6_init_56 : decode cX6_init 56 = .ok (.iconst 0, 1) := by decide +kernel
theorem dX6_init_57 : decode cX6_init 57 = .ok (.istore 4, 2) := by decide +kernel
theorem dX6_init_59 : decode cX6_init 59 = .ok (.iload 4, 2) := by decide +kernel
theorem dX6_init_61 : decode cX6_init 61 = .ok (.bipush 10, 2) := by decide +kernel
theorem dX6_init_63 : decode cX6_init 63 = .ok (.if_icmp .ge 23, 3) := by decide +kernel
theorem dX6_init_66 : decode cX6_init 66 = .ok (.aload_n 0, 1) := by decide +kernel
theorem dX6_init_67 : decode cX6_init 67 = .ok (.getfield 11, 3) := by decide +kernel
theorem dX6_init_70 : decode cX6_init 70 = .ok (.iload 4, 2) := by decide +kernel
theorem dX6_init_72 : decode cX6_init 72 = .ok (.new 9, 3) := by decide +kernel
theorem dX6_init_75 : decode cX6_init 75 = .ok (.dup, 1) := by decide +kernel
theorem dX6_init_76 : decode cX6_init 76 = .ok (.invokespecial 43, 3) := by decide +kernel
theorem dX6_init_79 : decode cX6_init 79 = .ok (.aastore, 1) := by decide +kernel
theorem dX6_init_80 : decode cX6_init 80 = .ok (.iinc 4 1, 3) := by decide +kernel
theorem dX6_init_83 : decode cX6_init 83 = .ok (.goto (-24), 3) := by decide +kernel
theorem dX6_init_86 : decode cX6_init 86 = .ok (.return_, 1) := by decide +kernel
theorem dX6_doubt_0 : decode cX6_doubt 0 = .ok (.aload_n 0, 1) := by decide +kernel
theorem dX6_doubt_1 : decode cX6_doubt 1 = .ok (.iconst 0, 1) := by decide +kernel
theorem dX6_doubt_2 : decode cX6_doubt 2 = .ok (.putfield 44, 3) := by decide +kernel
theorem dX6_doubt_5 : decode cX6_doubt 5 = .ok (.aload_n 0, 1) := by decide +kernel
theorem dX6_doubt_6 : decode cX6_doubt 6 = .ok (.iconst 0, 1) := by decide +kernel
theorem dX6_doubt_7 : decode cX6_doubt 7 = .ok (.putfield 48, 3) := by decide +kernel
theorem dX6_doubt_10 : decode cX6_doubt 10 = .ok (.return_, 1) := by decide +kernel
theorem dX6_keep_0 : decode cX6_keep 0 = .ok (.aload_n 0, 1) := by decide +kernel
theorem dX6_keep_1 : decode cX6_keep 1 = .ok (.getfield 51, 3) := by decide +kernel
theorem dX6_keep_4 : decode cX6_keep 4 = .ok (.bipush 10, 2) := by decide +kernel
theorem dX6_keep_6 : decode cX6_keep 6 = .ok (.if_icmp .ge 36, 3) := by decide +kernel
theorem dX6_keep_9 : decode cX6_keep 9 = .ok (.aload_n 0, 1) := by decide +kernel
theorem dX6_keep_10 : decode cX6_keep 10 = .ok (.getfield 11, 3) := by decide +kernel
theorem dX6_keep_13 : decode cX6_keep 13 = .ok (.aload_n 0, 1) := by decide +kernel
theorem dX6_keep_14 : decode cX6_keep 14 = .ok (.getfield 51, 3) := by decide +kernel
theorem dX6_keep_17 : decode cX6_keep 17 = .ok (.aaload, 1) := by decide +kernel
theorem dX6_keep_18 : decode cX6_keep 18 = .ok (.iload_n 1, 1) := by decide +kernel
theorem dX6_keep_19 : decode cX6_keep 19 = .ok (.iload_n 2, 1) := by decide +kernel
theorem dX6_keep_20 : decode cX6_keep 20 = .ok (.iload_n 3, 1) := by decide +kernel
theorem dX6_keep_21 : decode cX6_keep 21 = .ok (.iload 4, 2) := by decide +kernel
theorem dX6_keep_23 : decode cX6_keep 23 = .ok (.iload 5, 2) := by decide +kernel
theorem dX6_keep_25 : decode cX6_keep 25 = .ok (.invokevirtual 55, 3) := by decide +kernel
theorem dX6_keep_28 : decode cX6_keep 28 = .ok (.aload_n 0, 1) := by decide +kernel
theorem dX6_keep_29 : decode cX6_keep 29 = .ok (.dup, 1) := by decide +kernel
theorem dX6_keep_30 : decode cX6_keep 30 = .ok (.getfield 51, 3) := by decide +kernel
theorem dX6_keep_33 : decode cX6_keep 33 = .ok (.iconst 1, 1) := by decide +kernel
theorem dX6_keep_34 : decode cX6_keep 34 = .ok (.iadd, 1) := by decide +kernel
theorem dX6_keep_35 : decode cX6_keep 35 = .ok (.putfield 51, 3) := by decide +kernel
theorem dX6_keep_38 : decode cX6_keep 38 = .ok (.aload_n 0, 1) := by decide +kernel
theorem dX6_keep_39 : decode cX6_keep 39 = .ok (.invokevirtual 59, 3) := by decide +kernel
theorem dX6_keep_42 : decode cX6_keep 42 = .ok (.aload_n 0, 1) := by decide +kernel
theorem dX6_keep_43 : decode cX6_keep 43 = .ok (.getfield 51, 3) := by decide +kernel
theorem dX6_keep_46 : decode cX6_keep 46 = .ok (.ireturn, 1) := by decide +kernel
theorem dX6_drop_0 : decode cX6_drop 0 = .ok (.aload_n 0, 1) := by decide +kernel
theorem dX6_drop_1 : decode cX6_drop 1 = .ok (.getfield 51, 3) := by decide +kernel
theorem dX6_drop_4 : decode cX6_drop 4 = .ok (.istore_n 1, 1) := by decide +kernel
theorem dX6_drop_5 : decode cX6_drop 5 = .ok (.aload_n 0, 1) := by decide +kernel
theorem dX6_drop_6 : decode cX6_drop 6 = .ok (.iconst 0, 1) := by decide +kernel
theorem dX6_drop_7 : decode cX6_drop 7 = .ok (.putfield 51, 3) := by decide +kernel
theorem dX6_drop_10 : decode cX6_drop 10 = .ok (.aload_n 0, 1) := by decide +kernel
theorem dX6_drop_11 : decode cX6_drop 11 = .ok (.invokevirtual 59, 3) := by decide +kernel
theorem dX6_drop_14 : decode cX6_drop 14 = .ok (.iload_n 1, 1) := by decide +kernel
theorem dX6_drop_15 : decode cX6_drop 15 = .ok (.ireturn, 1) := by decide +kernel
theorem dX6_thinkOfOne_0 : decode cX6_thinkOfOne 0 = .ok (.aload_n 0, 1) := by decide +kernel
theorem dX6_thinkOfOne_1 : decode cX6_thinkOfOne 1 = .ok (.getfield 44, 3) := by decide +kernel
theorem dX6_thinkOfOne_4 : decode cX6_thinkOfOne 4 = .ok (.ifCond .eq 4, 3) := by decide +kernel
theorem dX6_thinkOfOne_7 : decode cX6_thinkOfOne 7 = .ok (.return_, 1) := by decide +kernel
theorem dX6_thinkOfOne_8 : decode cX6_thinkOfOne 8 = .ok (.aload_n 0, 1) := by decide +kernel
theorem dX6_thinkOfOne_9 : decode cX6_thinkOfOne 9 = .ok (.aload_n 0, 1) := by decide +kernel
theorem dX6_thinkOfOne_10 : decode cX6_thinkOfOne 10 = .ok (.aload_n 0, 1) := by decide +kernel
theorem dX6_thinkOfOne_11 : decode cX6_thinkOfOne 11 = .ok (.getfield 31, 3) := by decide +kernel
theorem dX6_thinkOfOne_14 : decode cX6_thinkOfOne 14 = .ok (.getfield 62, 3) := by decide +kernel
theorem dX6_thinkOfOne_17 : decode cX6_thinkOfOne 17 = .ok (.i2l, 1) := by decide +kernel
theorem dX6_thinkOfOne_18 : decode cX6_thinkOfOne 18 = .ok (.aconst_null, 1) := by decide +kernel
theorem dX6_thinkOfOne_19 : decode cX6_thinkOfOne 19 = .ok (.aconst_null, 1) := by decide +kernel
theorem dX6_thinkOfOne_20 : decode cX6_thinkOfOne 20 = .ok (.invokevirtual 67, 3) := by decide +kernel
theorem dX6_thinkOfOne_23 : decode cX6_thinkOfOne 23 = .ok (.putfield 71, 3) := by decide +kernel
theorem dX6_thinkOfOne_26 : decode cX6_thinkOfOne 26 = .ok (.aload_n 0, 1) := by decide +kernel
theorem dX6_thinkOfOne_27 : decode cX6_thinkOfOne 27 = .ok (.aload_n 0, 1) := by decide +kernel
theorem dX6_thinkOfOne_28 : decode cX6_thinkOfOne 28 = .ok (.getfield 71, 3) := by decide +kernel
theorem dX6_thinkOfOne_31 : decode cX6_thinkOfOne 31 = .ok (.putfield 75, 3) := by decide +kernel
theorem dX6_thinkOfOne_34 : decode cX6_thinkOfOne 34 = .ok (.iconst 0, 1) := by decide +kernel
theorem dX6_thinkOfOne_35 : decode cX6_thinkOfOne 35 = .ok (.istore_n 1, 1) := by decide +kernel
theorem dX6_thinkOfOne_36 : decode cX6_thinkOfOne 36 = .ok (.iload_n 1, 1) := by decide +kernel
theorem dX6_thinkOfOne_37 : decode cX6_thinkOfOne 37 = .ok (.bipush 12, 2) := by decide +kernel
theorem dX6_thinkOfOne_39 : decode cX6_thinkOfOne 39 = .ok (.if_icmp .ge 75, 3) := by decide +kernel
theorem dX6_thinkOfOne_42 : decode cX6_thinkOfOne 42 = .ok (.aload_n 0, 1) := by decide +kernel
theorem dX6_thinkOfOne_43 : decode cX6_thinkOfOne 43 = .ok (.getfield 24, 3) := by decide +kernel
theorem dX6_thinkOfOne_46 : decode cX6_thinkOfOne 46 = .ok (.iload_n 1, 1) := by decide +kernel
theorem dX6_thinkOfOne_47 : decode cX6_thinkOfOne 47 = .ok (.lconst 0, 1) := by decide +kernel
theorem dX6_thinkOfOne_48 : decode cX6_thinkOfOne 48 = .ok (.lastore, 1) := by decide +kernel
theorem dX6_thinkOfOne_49 : decode cX6_thinkOfOne 49 = .ok (.aload_n 0, 1) := by decide +kernel
theorem dX6_thinkOfOne_50 : decode cX6_thinkOfOne 50 = .ok (.getfield 35, 3) := by decide +kernel
theorem dX6_thinkOfOne_53 : decode cX6_thinkOfOne 53 = .ok (.getfield 78, 3) := by decide +kernel
theorem dX6_thinkOfOne_56 : decode cX6_thinkOfOne 56 = .ok (.iload_n 1, 1) := by decide +kernel
theorem dX6_thinkOfOne_57 : decode cX6_thinkOfOne 57 = .ok (.invokestatic 83, 3) := by decide +kernel
theorem dX6_thinkOfOne_60 : decode cX6_thinkOfOne 60 = .ok (.ifCond .eq 48, 3) := by decide +kernel
theorem dX6_thinkOfOne_63 : decode cX6_thinkOfOne 63 = .ok (.aload_n 0, 1) := by decide +kernel
theorem dX6_thinkOfOne_64 : decode cX6_thinkOfOne 64 = .ok (.getfield 24, 3) := by decide +kernel
theorem dX6_thinkOfOne_67 : decode cX6_thinkOfOne 67 = .ok (.iload_n 1, 1) := by decide +kernel
theorem dX6_thinkOfOne_68 : decode cX6_thinkOfOne 68 = .ok (.aload_n 0, 1) := by decide +kernel
theorem dX6_thinkOfOne_69 : decode cX6_thinkOfOne 69 = .ok (.aload_n 0, 1) := by decide +kernel
theorem dX6_thinkOfOne_70 : decode cX6_thinkOfOne 70 = .ok (.getfield 31, 3) := by decide +kernel
theorem dX6_thinkOfOne_73 : decode cX6_thinkOfOne 73 = .ok (.getfield 87, 3) := by decide +kernel
theorem dX6_thinkOfOne_76 : decode cX6_thinkOfOne 76 = .ok (.iload_n 1, 1) := by decide +kernel
theorem dX6_thinkOfOne_77 : decode cX6_thinkOfOne 77 = .ok (.iaload, 1) := by decide +kernel
theorem dX6_thinkOfOne_78 : decode cX6_thinkOfOne 78 = .ok (.i2l, 1) := by decide +kernel
theorem dX6_thinkOfOne_79 : decode cX6_thinkOfOne 79 = .ok (.aload_n 0, 1) := by decide +kernel
theorem dX6_thinkOfOne_80 : decode cX6_thinkOfOne 80 = .ok (.getfield 39, 3) := by decide +kernel
theorem dX6_thinkOfOne_83 : decode cX6_thinkOfOne 83 = .ok (.getfield 91, 3) := by decide +kernel
theorem dX6_thinkOfOne_86 : decode cX6_thinkOfOne 86 = .ok (.iload_n 1, 1) := by decide +kernel
theorem dX6_thinkOfOne_87 : decode cX6_thinkOfOne 87 = .ok (.aaload, 1) := by decide +kernel
theorem dX6_thinkOfOne_88 : decode cX6_thinkOfOne 88 = .ok (.aconst_null, 1) := by decide +kernel
theorem dX6_thinkOfOne_89 : decode cX6_thinkOfOne 89 = .ok (.invokevirtual 67, 3) := by decide +kernel
theorem dX6_thinkOfOne_92 : decode cX6_thinkOfOne 92 = .ok (.lastore, 1) := by decide +kernel
theorem dX6_thinkOfOne_93 : decode cX6_thinkOfOne 93 = .ok (.aload_n 0, 1) := by decide +kernel
theorem dX6_thinkOfOne_94 : decode cX6_thinkOfOne 94 = .ok (.dup, 1) := by decide +kernel
theorem dX6_thinkOfOne_95 : decode cX6_thinkOfOne 95 = .ok (.getfield 75, 3) := by decide +kernel
theorem dX6_thinkOfOne_98 : decode cX6_thinkOfOne 98 = .ok (.aload_n 0, 1) := by decide +kernel
theorem dX6_thinkOfOne_99 : decode cX6_thinkOfOne 99 = .ok (.getfield 24, 3) := by decide +kernel
theorem dX6_thinkOfOne_102 : decode cX6_thinkOfOne 102 = .ok (.iload_n 1, 1) := by decide +kernel
theorem dX6_thinkOfOne_103 : decode cX6_thinkOfOne 103 = .ok (.laload, 1) := by decide +kernel
theorem dX6_thinkOfOne_104 : decode cX6_thinkOfOne 104 = .ok (.ladd, 1) := by decide +kernel
theorem dX6_thinkOfOne_105 : decode cX6_thinkOfOne 105 = .ok (.putfield 75, 3) := by decide +kernel
theorem dX6_thinkOfOne_108 : decode cX6_thinkOfOne 108 = .ok (.iinc 1 1, 3) := by decide +kernel
theorem dX6_thinkOfOne_111 : decode cX6_thinkOfOne 111 = .ok (.goto (-75), 3) := by decide +kernel
theorem dX6_thinkOfOne_114 : decode cX6_thinkOfOne 114 = .ok (.aload_n 0, 1) := by decide +kernel
theorem dX6_thinkOfOne_115 : decode cX6_thinkOfOne 115 = .ok (.iconst 1, 1) := by decide +kernel
theorem dX6_thinkOfOne_116 : decode cX6_thinkOfOne 116 = .ok (.putfield 44, 3) := by decide +kernel
theorem dX6_thinkOfOne_119 : decode cX6_thinkOfOne 119 = .ok (.return_, 1) := by decide +kernel
theorem dX6_thinkOfTwo_0 : decode cX6_thinkOfTwo 0 = .ok (.aload_n 0, 1) := by decide +kernel
theorem dX6_thinkOfTwo_1 : decode cX6_thinkOfTwo 1 = .ok (.getfield 48, 3) := by decide +kernel
theorem dX6_thinkOfTwo_4 : decode cX6_thinkOfTwo 4 = .ok (.ifCond .eq 4, 3) := by decide +kernel
theorem dX6_thinkOfTwo_7 : decode cX6_thinkOfTwo 7 = .ok (.return_, 1) := by decide +kernel
theorem dX6_thinkOfTwo_8 : decode cX6_thinkOfTwo 8 = .ok (.aload_n 0, 1) := by decide +kernel
theorem dX6_thinkOfTwo_9 : decode cX6_thinkOfTwo 9 = .ok (.lconst 0, 1) := by decide +kernel
theorem dX6_thinkOfTwo_10 : decode cX6_thinkOfTwo 10 = .ok (.putfield 97, 3) := by decide +kernel
theorem dX6_thinkOfTwo_13 : decode cX6_thinkOfTwo 13 = .ok (.iconst 0, 1) := by decide +kernel
theorem dX6_thinkOfTwo_14 : decode cX6_thinkOfTwo 14 = .ok (.istore_n 1, 1) := by decide +kernel
theorem dX6_thinkOfTwo_15 : decode cX6_thinkOfTwo 15 = .ok (.iload_n 1, 1) := by decide +kernel
theorem dX6_thinkOfTwo_16 : decode cX6_thinkOfTwo 16 = .ok (.bipush 12, 2) := by decide +kernel
theorem dX6_thinkOfTwo_18 : decode cX6_thinkOfTwo 18 = .ok (.if_icmp .ge 133, 3) := by decide +kernel
theorem dX6_thinkOfTwo_21 : decode cX6_thinkOfTwo 21 = .ok (.iconst 0, 1) := by decide +kernel
theorem dX6_thinkOfTwo_22 : decode cX6_thinkOfTwo 22 = .ok (.istore_n 2, 1) := by decide +kernel
theorem dX6_thinkOfTwo_23 : decode cX6_thinkOfTwo 23 = .ok (.iload_n 2, 1) := by decide +kernel
theorem dX6_thinkOfTwo_24 : decode cX6_thinkOfTwo 24 = .ok (.iload_n 1, 1) := by decide +kernel
theorem dX6_thinkOfTwo_25 : decode cX6_thinkOfTwo 25 = .ok (.if_icmp .ge 120, 3) := by decide +kernel
theorem dX6_thinkOfTwo_28 : decode cX6_thinkOfTwo 28 = .ok (.aload_n 0, 1) := by decide +kernel
theorem dX6_thinkOfTwo_29 : decode cX6_thinkOfTwo 29 = .ok (.getfield 35, 3) := by decide +kernel
theorem dX6_thinkOfTwo_32 : decode cX6_thinkOfTwo 32 = .ok (.getfield 78, 3) := by decide +kernel
theorem dX6_thinkOfTwo_35 : decode cX6_thinkOfTwo 35 = .ok (.iload_n 1, 1) := by decide +kernel
theorem dX6_thinkOfTwo_36 : decode cX6_thinkOfTwo 36 = .ok (.invokestatic 83, 3) := by decide +kernel
theorem dX6_thinkOfTwo_39 : decode cX6_thinkOfTwo 39 = .ok (.ifCond .eq 100, 3) := by decide +kernel
theorem dX6_thinkOfTwo_42 : decode cX6_thinkOfTwo 42 = .ok (.aload_n 0, 1) := by decide +kernel
theorem dX6_thinkOfTwo_43 : decode cX6_thinkOfTwo 43 = .ok (.getfield 35, 3) := by decide +kernel
theorem dX6_thinkOfTwo_46 : decode cX6_thinkOfTwo 46 = .ok (.getfield 78, 3) := by decide +kernel
theorem dX6_thinkOfTwo_49 : decode cX6_thinkOfTwo 49 = .ok (.iload_n 2, 1) := by decide +kernel
theorem dX6_thinkOfTwo_50 : decode cX6_thinkOfTwo 50 = .ok (.invokestatic 83, 3) := by decide +kernel
theorem dX6_thinkOfTwo_53 : decode cX6_thinkOfTwo 53 = .ok (.ifCond .eq 86, 3) := by decide +kernel
theorem dX6_thinkOfTwo_56 : decode cX6_thinkOfTwo 56 = .ok (.aload_n 0, 1) := by decide +kernel
theorem dX6_thinkOfTwo_57 : decode cX6_thinkOfTwo 57 = .ok (.getfield 31, 3) := by decide +kernel
theorem dX6_thinkOfTwo_60 : decode cX6_thinkOfTwo 60 = .ok (.getfield 87, 3) := by decide +kernel
theorem dX6_thinkOfTwo_63 : decode cX6_thinkOfTwo 63 = .ok (.iload_n 1, 1) := by decide +kernel
theorem dX6_thinkOfTwo_64 : decode cX6_thinkOfTwo 64 = .ok (.iaload, 1) := by decide +kernel
theorem dX6_thinkOfTwo_65 : decode cX6_thinkOfTwo 65 = .ok (.aload_n 0, 1) := by decide +kernel
theorem dX6_thinkOfTwo_66 : decode cX6_thinkOfTwo 66 = .ok (.getfield 31, 3) := by decide +kernel
theorem dX6_thinkOfTwo_69 : decode cX6_thinkOfTwo 69 = .ok (.getfield 87, 3) := by decide +kernel
theorem dX6_thinkOfTwo_72 : decode cX6_thinkOfTwo 72 = .ok (.iload_n 2, 1) := by decide +kernel
theorem dX6_thinkOfTwo_73 : decode cX6_thinkOfTwo 73 = .ok (.iaload, 1) := by decide +kernel
theorem dX6_thinkOfTwo_74 : decode cX6_thinkOfTwo 74 = .ok (.imul, 1) := by decide +kernel
theorem dX6_thinkOfTwo_75 : decode cX6_thinkOfTwo 75 = .ok (.i2l, 1) := by decide +kernel
theorem dX6_thinkOfTwo_76 : decode cX6_thinkOfTwo 76 = .ok (.lstore_n 3, 1) := by decide +kernel
theorem dX6_thinkOfTwo_77 : decode cX6_thinkOfTwo 77 = .ok (.aload_n 0, 1) := by decide +kernel
theorem dX6_thinkOfTwo_78 : decode cX6_thinkOfTwo 78 = .ok (.lload_n 3, 1) := by decide +kernel
theorem dX6_thinkOfTwo_79 : decode cX6_thinkOfTwo 79 = .ok (.aload_n 0, 1) := by decide +kernel
theorem dX6_thinkOfTwo_80 : decode cX6_thinkOfTwo 80 = .ok (.getfield 39, 3) := by decide +kernel
theorem dX6_thinkOfTwo_83 : decode cX6_thinkOfTwo 83 = .ok (.getfield 91, 3) := by decide +kernel
theorem dX6_thinkOfTwo_86 : decode cX6_thinkOfTwo 86 = .ok (.iload_n 1, 1) := by decide +kernel
theorem dX6_thinkOfTwo_87 : decode cX6_thinkOfTwo 87 = .ok (.aaload, 1) := by decide +kernel
theorem dX6_thinkOfTwo_88 : decode cX6_thinkOfTwo 88 = .ok (.aload_n 0, 1) := by decide +kernel
theorem dX6_thinkOfTwo_89 : decode cX6_thinkOfTwo 89 = .ok (.getfield 39, 3) := by decide +kernel
theorem dX6_thinkOfTwo_92 : decode cX6_thinkOfTwo 92 = .ok (.getfield 91, 3) := by decide +kernel
theorem dX6_thinkOfTwo_95 : decode cX6_thinkOfTwo 95 = .ok (.iload_n 2, 1) := by decide +kernel
theorem dX6_thinkOfTwo_96 : decode cX6_thinkOfTwo 96 = .ok (.aaload, 1) := by decide +kernel
theorem dX6_thinkOfTwo_97 : decode cX6_thinkOfTwo 97 = .ok (.invokevirtual 67, 3) := by decide +kernel
theorem dX6_thinkOfTwo_100 : decode cX6_thinkOfTwo 100 = .ok (.lstore 5, 2) := by decide +kernel
theorem dX6_thinkOfTwo_102 : decode cX6_thinkOfTwo 102 = .ok (.aload_n 0, 1) := by decide +kernel
theorem dX6_thinkOfTwo_103 : decode cX6_thinkOfTwo 103 = .ok (.getfield 28, 3) := by decide +kernel
theorem dX6_thinkOfTwo_106 : decode cX6_thinkOfTwo 106 = .ok (.iload_n 1, 1) := by decide +kernel
theorem dX6_thinkOfTwo_107 : decode cX6_thinkOfTwo 107 = .ok (.bipush 12, 2) := by decide +kernel
theorem dX6_thinkOfTwo_109 : decode cX6_thinkOfTwo 109 = .ok (.imul, 1) := by decide +kernel
theorem dX6_thinkOfTwo_110 : decode cX6_thinkOfTwo 110 = .ok (.iload_n 2, 1) := by decide +kernel
theorem dX6_thinkOfTwo_111 : decode cX6_thinkOfTwo 111 = .ok (.iadd, 1) := by decide +kernel
theorem dX6_thinkOfTwo_112 : decode cX6_thinkOfTwo 112 = .ok (.lload 5, 2) := by decide +kernel
theorem dX6_thinkOfTwo_114 : decode cX6_thinkOfTwo 114 = .ok (.lastore, 1) := by decide +kernel
theorem dX6_thinkOfTwo_115 : decode cX6_thinkOfTwo 115 = .ok (.aload_n 0, 1) := by decide +kernel
theorem dX6_thinkOfTwo_116 : decode cX6_thinkOfTwo 116 = .ok (.getfield 28, 3) := by decide +kernel
theorem dX6_thinkOfTwo_119 : decode cX6_thinkOfTwo 119 = .ok (.iload_n 2, 1) := by decide +kernel
theorem dX6_thinkOfTwo_120 : decode cX6_thinkOfTwo 120 = .ok (.bipush 12, 2) := by decide +kernel
theorem dX6_thinkOfTwo_122 : decode cX6_thinkOfTwo 122 = .ok (.imul, 1) := by decide +kernel
theorem dX6_thinkOfTwo_123 : decode cX6_thinkOfTwo 123 = .ok (.iload_n 1, 1) := by decide +kernel
theorem dX6_thinkOfTwo_124 : decode cX6_thinkOfTwo 124 = .ok (.iadd, 1) := by decide +kernel
theorem dX6_thinkOfTwo_125 : decode cX6_thinkOfTwo 125 = .ok (.lload 5, 2) := by decide +kernel
theorem dX6_thinkOfTwo_127 : decode cX6_thinkOfTwo 127 = .ok (.lastore, 1) := by decide +kernel
theorem dX6_thinkOfTwo_128 : decode cX6_thinkOfTwo 128 = .ok (.aload_n 0, 1) := by decide +kernel
theorem dX6_thinkOfTwo_129 : decode cX6_thinkOfTwo 129 = .ok (.dup, 1) := by decide +kernel
theorem dX6_thinkOfTwo_130 : decode cX6_thinkOfTwo 130 = .ok (.getfield 97, 3) := by decide +kernel
theorem dX6_thinkOfTwo_133 : decode cX6_thinkOfTwo 133 = .ok (.lload 5, 2) := by decide +kernel
theorem dX6_thinkOfTwo_135 : decode cX6_thinkOfTwo 135 = .ok (.ladd, 1) := by decide +kernel
theorem dX6_thinkOfTwo_136 : decode cX6_thinkOfTwo 136 = .ok (.putfield 97, 3) := by decide +kernel
theorem dX6_thinkOfTwo_139 : decode cX6_thinkOfTwo 139 = .ok (.iinc 2 1, 3) := by decide +kernel
theorem dX6_thinkOfTwo_142 : decode cX6_thinkOfTwo 142 = .ok (.goto (-119), 3) := by decide +kernel
theorem dX6_thinkOfTwo_145 : decode cX6_thinkOfTwo 145 = .ok (.iinc 1 1, 3) := by decide +kernel
theorem dX6_thinkOfTwo_148 : decode cX6_thinkOfTwo 148 = .ok (.goto (-133), 3) := by decide +kernel
theorem dX6_thinkOfTwo_151 : decode cX6_thinkOfTwo 151 = .ok (.aload_n 0, 1) := by decide +kernel
theorem dX6_thinkOfTwo_152 : decode cX6_thinkOfTwo 152 = .ok (.iconst 1, 1) := by decide +kernel
theorem dX6_thinkOfTwo_153 : decode cX6_thinkOfTwo 153 = .ok (.putfield 48, 3) := by decide +kernel
theorem dX6_thinkOfTwo_156 : decode cX6_thinkOfTwo 156 = .ok (.return_, 1) := by decide +kernel
theorem dX6_thoughtBy_0 : decode cX6_thoughtBy 0 = .ok (.lload_n 1, 1) := by decide +kernel
theorem dX6_thoughtBy_1 : decode cX6_thoughtBy 1 = .ok (.lstore 5, 2) := by decide +kernel
theorem dX6_thoughtBy_3 : decode cX6_thoughtBy 3 = .ok (.iconst 0, 1) := by decide +kernel
theorem dX6_thoughtBy_4 : decode cX6_thoughtBy 4 = .ok (.istore 7, 2) := by decide +kernel
theorem dX6_thoughtBy_6 : decode cX6_thoughtBy 6 = .ok (.iload 7, 2) := by decide +kernel
theorem dX6_thoughtBy_8 : decode cX6_thoughtBy 8 = .ok (.aload_n 0, 1) := by decide +kernel
theorem dX6_thoughtBy_9 : decode cX6_thoughtBy 9 = .ok (.getfield 51, 3) := by decide +kernel
theorem dX6_thoughtBy_12 : decode cX6_thoughtBy 12 = .ok (.if_icmp .ge 49, 3) := by decide +kernel
theorem dX6_thoughtBy_15 : decode cX6_thoughtBy 15 = .ok (.lload 5, 2) := by decide +kernel
theorem dX6_thoughtBy_17 : decode cX6_thoughtBy 17 = .ok (.lconst 0, 1) := by decide +kernel
theorem dX6_thoughtBy_18 : decode cX6_thoughtBy 18 = .ok (.lcmp, 1) := by decide +kernel
theorem dX6_thoughtBy_19 : decode cX6_thoughtBy 19 = .ok (.ifCond .eq 42, 3) := by decide +kernel
theorem dX6_thoughtBy_22 : decode cX6_thoughtBy 22 = .ok (.aload_n 0, 1) := by decide +kernel
theorem dX6_thoughtBy_23 : decode cX6_thoughtBy 23 = .ok (.getfield 11, 3) := by decide +kernel
theorem dX6_thoughtBy_26 : decode cX6_thoughtBy 26 = .ok (.iload 7, 2) := by decide +kernel
theorem dX6_thoughtBy_28 : decode cX6_thoughtBy 28 = .ok (.aaload, 1) := by decide +kernel
theorem dX6_thoughtBy_29 : decode cX6_thoughtBy 29 = .ok (.astore 8, 2) := by decide +kernel
theorem dX6_thoughtBy_31 : decode cX6_thoughtBy 31 = .ok (.lload 5, 2) := by decide +kernel
theorem dX6_thoughtBy_33 : decode cX6_thoughtBy 33 = .ok (.aload_n 0, 1) := by decide +kernel
theorem dX6_thoughtBy_34 : decode cX6_thoughtBy 34 = .ok (.aload 8, 2) := by decide +kernel
