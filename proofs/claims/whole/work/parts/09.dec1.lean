theorem dX6_thoughtBy_36 : decode cX6_thoughtBy 36 = .ok (.aload_n 0, 1) := by decide +kernel
theorem dX6_thoughtBy_37 : decode cX6_thoughtBy 37 = .ok (.getfield 39, 3) := by decide +kernel
theorem dX6_thoughtBy_40 : decode cX6_thoughtBy 40 = .ok (.aload 8, 2) := by decide +kernel
theorem dX6_thoughtBy_42 : decode cX6_thoughtBy 42 = .ok (.aload_n 3, 1) := by decide +kernel
theorem dX6_thoughtBy_43 : decode cX6_thoughtBy 43 = .ok (.aload 4, 2) := by decide +kernel
theorem dX6_thoughtBy_45 : decode cX6_thoughtBy 45 = .ok (.invokevirtual 100, 3) := by decide +kernel
theorem dX6_thoughtBy_48 : decode cX6_thoughtBy 48 = .ok (.invokevirtual 104, 3) := by decide +kernel
theorem dX6_thoughtBy_51 : decode cX6_thoughtBy 51 = .ok (.i2l, 1) := by decide +kernel
theorem dX6_thoughtBy_52 : decode cX6_thoughtBy 52 = .ok (.lmul, 1) := by decide +kernel
theorem dX6_thoughtBy_53 : decode cX6_thoughtBy 53 = .ok (.lstore 5, 2) := by decide +kernel
theorem dX6_thoughtBy_55 : decode cX6_thoughtBy 55 = .ok (.iinc 7 1, 3) := by decide +kernel
theorem dX6_thoughtBy_58 : decode cX6_thoughtBy 58 = .ok (.goto (-52), 3) := by decide +kernel
theorem dX6_thoughtBy_61 : decode cX6_thoughtBy 61 = .ok (.lload 5, 2) := by decide +kernel
theorem dX6_thoughtBy_63 : decode cX6_thoughtBy 63 = .ok (.lreturn, 1) := by decide +kernel
theorem dX6_tenthsToSay_0 : decode cX6_tenthsToSay 0 = .ok (.iload_n 2, 1) := by decide +kernel
theorem dX6_tenthsToSay_1 : decode cX6_tenthsToSay 1 = .ok (.ifCond .eq 21, 3) := by decide +kernel
theorem dX6_tenthsToSay_4 : decode cX6_tenthsToSay 4 = .ok (.bipush 10, 2) := by decide +kernel
theorem dX6_tenthsToSay_6 : decode cX6_tenthsToSay 6 = .ok (.aload_n 0, 1) := by decide +kernel
theorem dX6_tenthsToSay_7 : decode cX6_tenthsToSay 7 = .ok (.getfield 31, 3) := by decide +kernel
theorem dX6_tenthsToSay_10 : decode cX6_tenthsToSay 10 = .ok (.getfield 108, 3) := by decide +kernel
theorem dX6_tenthsToSay_13 : decode cX6_tenthsToSay 13 = .ok (.aload_n 1, 1) := by decide +kernel
theorem dX6_tenthsToSay_14 : decode cX6_tenthsToSay 14 = .ok (.getfield 111, 3) := by decide +kernel
theorem dX6_tenthsToSay_17 : decode cX6_tenthsToSay 17 = .ok (.iaload, 1) := by decide +kernel
theorem dX6_tenthsToSay_18 : decode cX6_tenthsToSay 18 = .ok (.isub, 1) := by decide +kernel
theorem dX6_tenthsToSay_19 : decode cX6_tenthsToSay 19 = .ok (.goto 15, 3) := by decide +kernel
theorem dX6_tenthsToSay_22 : decode cX6_tenthsToSay 22 = .ok (.aload_n 0, 1) := by decide +kernel
theorem dX6_tenthsToSay_23 : decode cX6_tenthsToSay 23 = .ok (.getfield 31, 3) := by decide +kernel
theorem dX6_tenthsToSay_26 : decode cX6_tenthsToSay 26 = .ok (.getfield 114, 3) := by decide +kernel
theorem dX6_tenthsToSay_29 : decode cX6_tenthsToSay 29 = .ok (.aload_n 1, 1) := by decide +kernel
theorem dX6_tenthsToSay_30 : decode cX6_tenthsToSay 30 = .ok (.getfield 111, 3) := by decide +kernel
theorem dX6_tenthsToSay_33 : decode cX6_tenthsToSay 33 = .ok (.iaload, 1) := by decide +kernel
theorem dX6_tenthsToSay_34 : decode cX6_tenthsToSay 34 = .ok (.istore_n 3, 1) := by decide +kernel
theorem dX6_tenthsToSay_35 : decode cX6_tenthsToSay 35 = .ok (.aload_n 1, 1) := by decide +kernel
theorem dX6_tenthsToSay_36 : decode cX6_tenthsToSay 36 = .ok (.getfield 117, 3) := by decide +kernel
theorem dX6_tenthsToSay_39 : decode cX6_tenthsToSay 39 = .ok (.ifCond .eq 7, 3) := by decide +kernel
theorem dX6_tenthsToSay_42 : decode cX6_tenthsToSay 42 = .ok (.iload_n 3, 1) := by decide +kernel
theorem dX6_tenthsToSay_43 : decode cX6_tenthsToSay 43 = .ok (.goto 7, 3) := by decide +kernel
theorem dX6_tenthsToSay_46 : decode cX6_tenthsToSay 46 = .ok (.bipush 10, 2) := by decide +kernel
theorem dX6_tenthsToSay_48 : decode cX6_tenthsToSay 48 = .ok (.iload_n 3, 1) := by decide +kernel
theorem dX6_tenthsToSay_49 : decode cX6_tenthsToSay 49 = .ok (.isub, 1) := by decide +kernel
theorem dX6_tenthsToSay_50 : decode cX6_tenthsToSay 50 = .ok (.ireturn, 1) := by decide +kernel
theorem dX6_tenthsOf_0 : decode cX6_tenthsOf 0 = .ok (.aload_n 0, 1) := by decide +kernel
theorem dX6_tenthsOf_1 : decode cX6_tenthsOf 1 = .ok (.getfield 71, 3) := by decide +kernel
theorem dX6_tenthsOf_4 : decode cX6_tenthsOf 4 = .ok (.aload_n 0, 1) := by decide +kernel
theorem dX6_tenthsOf_5 : decode cX6_tenthsOf 5 = .ok (.aload_n 1, 1) := by decide +kernel
theorem dX6_tenthsOf_6 : decode cX6_tenthsOf 6 = .ok (.iconst 0, 1) := by decide +kernel
theorem dX6_tenthsOf_7 : decode cX6_tenthsOf 7 = .ok (.invokevirtual 104, 3) := by decide +kernel
theorem dX6_tenthsOf_10 : decode cX6_tenthsOf 10 = .ok (.i2l, 1) := by decide +kernel
theorem dX6_tenthsOf_11 : decode cX6_tenthsOf 11 = .ok (.lmul, 1) := by decide +kernel
theorem dX6_tenthsOf_12 : decode cX6_tenthsOf 12 = .ok (.lstore_n 2, 1) := by decide +kernel
theorem dX6_tenthsOf_13 : decode cX6_tenthsOf 13 = .ok (.iconst 0, 1) := by decide +kernel
theorem dX6_tenthsOf_14 : decode cX6_tenthsOf 14 = .ok (.istore 4, 2) := by decide +kernel
theorem dX6_tenthsOf_16 : decode cX6_tenthsOf 16 = .ok (.iload 4, 2) := by decide +kernel
theorem dX6_tenthsOf_18 : decode cX6_tenthsOf 18 = .ok (.bipush 12, 2) := by decide +kernel
theorem dX6_tenthsOf_20 : decode cX6_tenthsOf 20 = .ok (.if_icmp .ge 61, 3) := by decide +kernel
theorem dX6_tenthsOf_23 : decode cX6_tenthsOf 23 = .ok (.aload_n 0, 1) := by decide +kernel
theorem dX6_tenthsOf_24 : decode cX6_tenthsOf 24 = .ok (.getfield 24, 3) := by decide +kernel
theorem dX6_tenthsOf_27 : decode cX6_tenthsOf 27 = .ok (.iload 4, 2) := by decide +kernel
theorem dX6_tenthsOf_29 : decode cX6_tenthsOf 29 = .ok (.laload, 1) := by decide +kernel
theorem dX6_tenthsOf_30 : decode cX6_tenthsOf 30 = .ok (.lconst 0, 1) := by decide +kernel
theorem dX6_tenthsOf_31 : decode cX6_tenthsOf 31 = .ok (.lcmp, 1) := by decide +kernel
theorem dX6_tenthsOf_32 : decode cX6_tenthsOf 32 = .ok (.ifCond .eq 43, 3) := by decide +kernel
theorem dX6_tenthsOf_35 : decode cX6_tenthsOf 35 = .ok (.aload_n 0, 1) := by decide +kernel
theorem dX6_tenthsOf_36 : decode cX6_tenthsOf 36 = .ok (.getfield 39, 3) := by decide +kernel
theorem dX6_tenthsOf_39 : decode cX6_tenthsOf 39 = .ok (.aload_n 1, 1) := by decide +kernel
theorem dX6_tenthsOf_40 : decode cX6_tenthsOf 40 = .ok (.aload_n 0, 1) := by decide +kernel
theorem dX6_tenthsOf_41 : decode cX6_tenthsOf 41 = .ok (.getfield 39, 3) := by decide +kernel
theorem dX6_tenthsOf_44 : decode cX6_tenthsOf 44 = .ok (.getfield 91, 3) := by decide +kernel
theorem dX6_tenthsOf_47 : decode cX6_tenthsOf 47 = .ok (.iload 4, 2) := by decide +kernel
theorem dX6_tenthsOf_49 : decode cX6_tenthsOf 49 = .ok (.aaload, 1) := by decide +kernel
theorem dX6_tenthsOf_50 : decode cX6_tenthsOf 50 = .ok (.aconst_null, 1) := by decide +kernel
theorem dX6_tenthsOf_51 : decode cX6_tenthsOf 51 = .ok (.invokevirtual 100, 3) := by decide +kernel
theorem dX6_tenthsOf_54 : decode cX6_tenthsOf 54 = .ok (.istore 5, 2) := by decide +kernel
theorem dX6_tenthsOf_56 : decode cX6_tenthsOf 56 = .ok (.lload_n 2, 1) := by decide +kernel
theorem dX6_tenthsOf_57 : decode cX6_tenthsOf 57 = .ok (.aload_n 0, 1) := by decide +kernel
theorem dX6_tenthsOf_58 : decode cX6_tenthsOf 58 = .ok (.getfield 24, 3) := by decide +kernel
theorem dX6_tenthsOf_61 : decode cX6_tenthsOf 61 = .ok (.iload 4, 2) := by decide +kernel
theorem dX6_tenthsOf_63 : decode cX6_tenthsOf 63 = .ok (.laload, 1) := by decide +kernel
theorem dX6_tenthsOf_64 : decode cX6_tenthsOf 64 = .ok (.aload_n 0, 1) := by decide +kernel
theorem dX6_tenthsOf_65 : decode cX6_tenthsOf 65 = .ok (.aload_n 1, 1) := by decide +kernel
theorem dX6_tenthsOf_66 : decode cX6_tenthsOf 66 = .ok (.iload 5, 2) := by decide +kernel
theorem dX6_tenthsOf_68 : decode cX6_tenthsOf 68 = .ok (.invokevirtual 104, 3) := by decide +kernel
theorem dX6_tenthsOf_71 : decode cX6_tenthsOf 71 = .ok (.i2l, 1) := by decide +kernel
theorem dX6_tenthsOf_72 : decode cX6_tenthsOf 72 = .ok (.lmul, 1) := by decide +kernel
theorem dX6_tenthsOf_73 : decode cX6_tenthsOf 73 = .ok (.ladd, 1) := by decide +kernel
theorem dX6_tenthsOf_74 : decode cX6_tenthsOf 74 = .ok (.lstore_n 2, 1) := by decide +kernel
theorem dX6_tenthsOf_75 : decode cX6_tenthsOf 75 = .ok (.iinc 4 1, 3) := by decide +kernel
theorem dX6_tenthsOf_78 : decode cX6_tenthsOf 78 = .ok (.goto (-62), 3) := by decide +kernel
theorem dX6_tenthsOf_81 : decode cX6_tenthsOf 81 = .ok (.lload_n 2, 1) := by decide +kernel
theorem dX6_tenthsOf_82 : decode cX6_tenthsOf 82 = .ok (.lreturn, 1) := by decide +kernel
theorem dX6_most_0 : decode cX6_most 0 = .ok (.iconst (-1), 1) := by decide +kernel
theorem dX6_most_1 : decode cX6_most 1 = .ok (.istore_n 1, 1) := by decide +kernel
theorem dX6_most_2 : decode cX6_most 2 = .ok (.aload_n 0, 1) := by decide +kernel
theorem dX6_most_3 : decode cX6_most 3 = .ok (.getfield 71, 3) := by decide +kernel
theorem dX6_most_6 : decode cX6_most 6 = .ok (.lstore_n 2, 1) := by decide +kernel
theorem dX6_most_7 : decode cX6_most 7 = .ok (.iconst 0, 1) := by decide +kernel
theorem dX6_most_8 : decode cX6_most 8 = .ok (.istore 4, 2) := by decide +kernel
theorem dX6_most_10 : decode cX6_most 10 = .ok (.iload 4, 2) := by decide +kernel
theorem dX6_most_12 : decode cX6_most 12 = .ok (.bipush 12, 2) := by decide +kernel
theorem dX6_most_14 : decode cX6_most 14 = .ok (.if_icmp .ge 32, 3) := by decide +kernel
theorem dX6_most_17 : decode cX6_most 17 = .ok (.aload_n 0, 1) := by decide +kernel
theorem dX6_most_18 : decode cX6_most 18 = .ok (.getfield 24, 3) := by decide +kernel
theorem dX6_most_21 : decode cX6_most 21 = .ok (.iload 4, 2) := by decide +kernel
theorem dX6_most_23 : decode cX6_most 23 = .ok (.laload, 1) := by decide +kernel
theorem dX6_most_24 : decode cX6_most 24 = .ok (.lload_n 2, 1) := by decide +kernel
theorem dX6_most_25 : decode cX6_most 25 = .ok (.lcmp, 1) := by decide +kernel
theorem dX6_most_26 : decode cX6_most 26 = .ok (.ifCond .le 14, 3) := by decide +kernel
theorem dX6_most_29 : decode cX6_most 29 = .ok (.iload 4, 2) := by decide +kernel
theorem dX6_most_31 : decode cX6_most 31 = .ok (.istore_n 1, 1) := by decide +kernel
theorem dX6_most_32 : decode cX6_most 32 = .ok (.aload_n 0, 1) := by decide +kernel
theorem dX6_most_33 : decode cX6_most 33 = .ok (.getfield 24, 3) := by decide +kernel
theorem dX6_most_36 : decode cX6_most 36 = .ok (.iload 4, 2) := by decide +kernel
theorem dX6_most_38 : decode cX6_most 38 = .ok (.laload, 1) := by decide +kernel
theorem dX6_most_39 : decode cX6_most 39 = .ok (.lstore_n 2, 1) := by decide +kernel
theorem dX6_most_40 : decode cX6_most 40 = .ok (.iinc 4 1, 3) := by decide +kernel
theorem dX6_most_43 : decode cX6_most 43 = .ok (.goto (-33), 3) := by decide +kernel
theorem dX6_most_46 : decode cX6_most 46 = .ok (.iload_n 1, 1) := by decide +kernel
theorem dX6_most_47 : decode cX6_most 47 = .ok (.ireturn, 1) := by decide +kernel
theorem dX6_nodesThatFit_0 : decode cX6_nodesThatFit 0 = .ok (.iconst 0, 1) := by decide +kernel
theorem dX6_nodesThatFit_1 : decode cX6_nodesThatFit 1 = .ok (.istore_n 2, 1) := by decide +kernel
theorem dX6_nodesThatFit_2 : decode cX6_nodesThatFit 2 = .ok (.iconst 0, 1) := by decide +kernel
theorem dX6_nodesThatFit_3 : decode cX6_nodesThatFit 3 = .ok (.istore_n 3, 1) := by decide +kernel
theorem dX6_nodesThatFit_4 : decode cX6_nodesThatFit 4 = .ok (.iload_n 3, 1) := by decide +kernel
theorem dX6_nodesThatFit_5 : decode cX6_nodesThatFit 5 = .ok (.bipush 12, 2) := by decide +kernel
theorem dX6_nodesThatFit_7 : decode cX6_nodesThatFit 7 = .ok (.if_icmp .ge 56, 3) := by decide +kernel
theorem dX6_nodesThatFit_10 : decode cX6_nodesThatFit 10 = .ok (.aload_n 0, 1) := by decide +kernel
theorem dX6_nodesThatFit_11 : decode cX6_nodesThatFit 11 = .ok (.getfield 31, 3) := by decide +kernel
theorem dX6_nodesThatFit_14 : decode cX6_nodesThatFit 14 = .ok (.getfield 120, 3) := by decide +kernel
theorem dX6_nodesThatFit_17 : decode cX6_nodesThatFit 17 = .ok (.iload_n 3, 1) := by decide +kernel
theorem dX6_nodesThatFit_18 : decode cX6_nodesThatFit 18 = .ok (.invokestatic 83, 3) := by decide +kernel
theorem dX6_nodesThatFit_21 : decode cX6_nodesThatFit 21 = .ok (.ifCond .eq 36, 3) := by decide +kernel
theorem dX6_nodesThatFit_24 : decode cX6_nodesThatFit 24 = .ok (.aload_n 0, 1) := by decide +kernel
theorem dX6_nodesThatFit_25 : decode cX6_nodesThatFit 25 = .ok (.getfield 20, 3) := by decide +kernel
theorem dX6_nodesThatFit_28 : decode cX6_nodesThatFit 28 = .ok (.aload_n 0, 1) := by decide +kernel
theorem dX6_nodesThatFit_29 : decode cX6_nodesThatFit 29 = .ok (.getfield 31, 3) := by decide +kernel
theorem dX6_nodesThatFit_32 : decode cX6_nodesThatFit 32 = .ok (.iload_n 3, 1) := by decide +kernel
theorem dX6_nodesThatFit_33 : decode cX6_nodesThatFit 33 = .ok (.iload_n 1, 1) := by decide +kernel
theorem dX6_nodesThatFit_34 : decode cX6_nodesThatFit 34 = .ok (.iconst 0, 1) := by decide +kernel
theorem dX6_nodesThatFit_35 : decode cX6_nodesThatFit 35 = .ok (.bipush 23, 2) := by decide +kernel
theorem dX6_nodesThatFit_37 : decode cX6_nodesThatFit 37 = .ok (.invokevirtual 123, 3) := by decide +kernel
theorem dX6_nodesThatFit_40 : decode cX6_nodesThatFit 40 = .ok (.iload_n 2, 1) := by decide +kernel
theorem dX6_nodesThatFit_41 : decode cX6_nodesThatFit 41 = .ok (.aload_n 0, 1) := by decide +kernel
theorem dX6_nodesThatFit_42 : decode cX6_nodesThatFit 42 = .ok (.invokevirtual 127, 3) := by decide +kernel
theorem dX6_nodesThatFit_45 : decode cX6_nodesThatFit 45 = .ok (.ifCond .eq 9, 3) := by decide +kernel
theorem dX6_nodesThatFit_48 : decode cX6_nodesThatFit 48 = .ok (.iconst 1, 1) := by decide +kernel
theorem dX6_nodesThatFit_49 : decode cX6_nodesThatFit 49 = .ok (.iload_n 3, 1) := by decide +kernel
theorem dX6_nodesThatFit_50 : decode cX6_nodesThatFit 50 = .ok (.ishl, 1) := by decide +kernel
theorem dX6_nodesThatFit_51 : decode cX6_nodesThatFit 51 = .ok (.goto 4, 3) := by decide +kernel
theorem dX6_nodesThatFit_54 : decode cX6_nodesThatFit 54 = .ok (.iconst 0, 1) := by decide +kernel
theorem dX6_nodesThatFit_55 : decode cX6_nodesThatFit 55 = .ok (.ior, 1) := by decide +kernel
theorem dX6_nodesThatFit_56 : decode cX6_nodesThatFit 56 = .ok (.istore_n 2, 1) := by decide +kernel
theorem dX6_nodesThatFit_57 : decode cX6_nodesThatFit 57 = .ok (.iinc 3 1, 3) := by decide +kernel
theorem dX6_nodesThatFit_60 : decode cX6_nodesThatFit 60 = .ok (.goto (-56), 3) := by decide +kernel
theorem dX6_nodesThatFit_63 : decode cX6_nodesThatFit 63 = .ok (.iload_n 2, 1) := by decide +kernel
theorem dX6_nodesThatFit_64 : decode cX6_nodesThatFit 64 = .ok (.ireturn, 1) := by decide +kernel
theorem dX6_trialFits_0 : decode cX6_trialFits 0 = .ok (.iconst 0, 1) := by decide +kernel
theorem dX6_trialFits_1 : decode cX6_trialFits 1 = .ok (.istore_n 1, 1) := by decide +kernel
theorem dX6_trialFits_2 : decode cX6_trialFits 2 = .ok (.iload_n 1, 1) := by decide +kernel
theorem dX6_trialFits_3 : decode cX6_trialFits 3 = .ok (.aload_n 0, 1) := by decide +kernel
theorem dX6_trialFits_4 : decode cX6_trialFits 4 = .ok (.getfield 51, 3) := by decide +kernel
theorem dX6_trialFits_7 : decode cX6_trialFits 7 = .ok (.if_icmp .ge 41, 3) := by decide +kernel
theorem dX6_trialFits_10 : decode cX6_trialFits 10 = .ok (.aload_n 0, 1) := by decide +kernel
theorem dX6_trialFits_11 : decode cX6_trialFits 11 = .ok (.getfield 39, 3) := by decide +kernel
theorem dX6_trialFits_14 : decode cX6_trialFits 14 = .ok (.aload_n 0, 1) := by decide +kernel
theorem dX6_trialFits_15 : decode cX6_trialFits 15 = .ok (.getfield 11, 3) := by decide +kernel
theorem dX6_trialFits_18 : decode cX6_trialFits 18 = .ok (.iload_n 1, 1) := by decide +kernel
theorem dX6_trialFits_19 : decode cX6_trialFits 19 = .ok (.aaload, 1) := by decide +kernel
theorem dX6_trialFits_20 : decode cX6_trialFits 20 = .ok (.aload_n 0, 1) := by decide +kernel
theorem dX6_trialFits_21 : decode cX6_trialFits 21 = .ok (.getfield 20, 3) := by decide +kernel
theorem dX6_trialFits_24 : decode cX6_trialFits 24 = .ok (.aconst_null, 1) := by decide +kernel
theorem dX6_trialFits_25 : decode cX6_trialFits 25 = .ok (.invokevirtual 100, 3) := by decide +kernel
theorem dX6_trialFits_28 : decode cX6_trialFits 28 = .ok (.aload_n 0, 1) := by decide +kernel
theorem dX6_trialFits_29 : decode cX6_trialFits 29 = .ok (.getfield 11, 3) := by decide +kernel
theorem dX6_trialFits_32 : decode cX6_trialFits 32 = .ok (.iload_n 1, 1) := by decide +kernel
theorem dX6_trialFits_33 : decode cX6_trialFits 33 = .ok (.aaload, 1) := by decide +kernel
theorem dX6_trialFits_34 : decode cX6_trialFits 34 = .ok (.getfield 117, 3) := by decide +kernel
theorem dX6_trialFits_37 : decode cX6_trialFits 37 = .ok (.if_icmp .eq 5, 3) := by decide +kernel
theorem dX6_trialFits_40 : decode cX6_trialFits 40 = .ok (.iconst 0, 1) := by decide +kernel
theorem dX6_trialFits_41 : decode cX6_trialFits 41 = .ok (.ireturn, 1) := by decide +kernel
theorem dX6_trialFits_42 : decode cX6_trialFits 42 = .ok (.iinc 1 1, 3) := by decide +kernel
theorem dX6_trialFits_45 : decode cX6_trialFits 45 = .ok (.goto (-43), 3) := by decide +kernel
theorem dX6_trialFits_48 : decode cX6_trialFits 48 = .ok (.iconst 1, 1) := by decide +kernel
theorem dX6_trialFits_49 : decode cX6_trialFits 49 = .ok (.ireturn, 1) := by decide +kernel
theorem dX7_init_0 : decode cX7_init 0 = .ok (.aload_n 0, 1) := by decide +kernel
theorem dX7_init_1 : decode cX7_init 1 = .ok (.invokespecial 3, 3) := by decide +kernel
theorem dX7_init_4 : decode cX7_init 4 = .ok (.aload_n 0, 1) := by decide +kernel
theorem dX7_init_5 : decode cX7_init 5 = .ok (.bipush 12, 2) := by decide +kernel
theorem dX7_init_7 : decode cX7_init 7 = .ok (.newarray .int, 2) := by decide +kernel
theorem dX7_init_9 : decode cX7_init 9 = .ok (.putfield 9, 3) := by decide +kernel
theorem dX7_init_12 : decode cX7_init 12 = .ok (.aload_n 0, 1) := by decide +kernel
theorem dX7_init_13 : decode cX7_init 13 = .ok (.bipush 12, 2) := by decide +kernel
theorem dX7_init_15 : decode cX7_init 15 = .ok (.newarray .int, 2) := by decide +kernel
theorem dX7_init_17 : decode cX7_init 17 = .ok (.putfield 15, 3) := by decide +kernel
theorem dX7_init_20 : decode cX7_init 20 = .ok (.aload_n 0, 1) := by decide +kernel
theorem dX7_init_21 : decode cX7_init 21 = .ok (.bipush 12, 2) := by decide +kernel
theorem dX7_init_23 : decode cX7_init 23 = .ok (.newarray .int, 2) := by decide +kernel
theorem dX7_init_25 : decode cX7_init 25 = .ok (.putfield 18, 3) := by decide +kernel
theorem dX7_init_28 : decode cX7_init 28 = .ok (.aload_n 0, 1) := by decide +kernel
theorem dX7_init_29 : decode cX7_init 29 = .ok (.bipush 12, 2) := by decide +kernel
theorem dX7_init_31 : decode cX7_init 31 = .ok (.newarray .int, 2) := by decide +kernel
theorem dX7_init_33 : decode cX7_init 33 = .ok (.putfield 21, 3) := by decide +kernel
theorem dX7_init_36 : decode cX7_init 36 = .ok (.aload_n 0, 1) := by decide +kernel
theorem dX7_init_37 : decode cX7_init 37 = .ok (.bipush 12, 2) := by decide +kernel
theorem dX7_init_39 : decode cX7_init 39 = .ok (.newarray .int, 2) := by decide +kernel
theorem dX7_init_41 : decode cX7_init 41 = .ok (.putfield 24, 3) := by decide +kernel
theorem dX7_init_44 : decode cX7_init 44 = .ok (.aload_n 0, 1) := by decide +kernel
theorem dX7_init_45 : decode cX7_init 45 = .ok (.bipush 12, 2) := by decide +kernel
theorem dX7_init_47 : decode cX7_init 47 = .ok (.newarray .int, 2) := by decide +kernel
theorem dX7_init_49 : decode cX7_init 49 = .ok (.putfield 27, 3) := by decide +kernel
theorem dX7_init_52 : decode cX7_init 52 = .ok (.aload_n 0, 1) := by decide +kernel
theorem dX7_init_53 : decode cX7_init 53 = .ok (.bipush 12, 2) := by decide +kernel
theorem dX7_init_55 : decode cX7_init 55 = .ok (.newarray .int, 2) := by decide +kernel
theorem dX7_init_57 : decode cX7_init 57 = .ok (.putfield 30, 3) := by decide +kernel
theorem dX7_init_60 : decode cX7_init 60 = .ok (.aload_n 0, 1) := by decide +kernel
theorem dX7_init_61 : decode cX7_init 61 = .ok (.bipush 12, 2) := by decide +kernel
theorem dX7_init_63 : decode cX7_init 63 = .ok (.newarray .int, 2) := by decide +kernel
theorem dX7_init_65 : decode cX7_init 65 = .ok (.putfield 33, 3) := by decide +kernel
theorem dX7_init_68 : decode cX7_init 68 = .ok (.aload_n 0, 1) := by decide +kernel
theorem dX7_init_69 : decode cX7_init 69 = .ok (.bipush 12, 2) := by decide +kernel
theorem dX7_init_71 : decode cX7_init 71 = .ok (.newarray .int, 2) := by decide +kernel
theorem dX7_init_73 : decode cX7_init 73 = .ok (.putfield 36, 3) := by decide +kernel
theorem dX7_init_76 : decode cX7_init 76 = .ok (.aload_n 0, 1) := by decide +kernel
theorem dX7_init_77 : decode cX7_init 77 = .ok (.bipush 24, 2) := by decide +kernel
theorem dX7_init_79 : decode cX7_init 79 = .ok (.newarray .int, 2) := by decide +kernel
theorem dX7_init_81 : decode cX7_init 81 = .ok (.putfield 39, 3) := by decide +kernel
theorem dX7_init_84 : decode cX7_init 84 = .ok (.aload_n 0, 1) := by decide +kernel
theorem dX7_init_85 : decode cX7_init 85 = .ok (.iconst 4, 1) := by decide +kernel
theorem dX7_init_86 : decode cX7_init 86 = .ok (.newarray .int, 2) := by decide +kernel
theorem dX7_init_88 : decode cX7_init 88 = .ok (.putfield 42, 3) := by decide +kernel
theorem dX7_init_91 : decode cX7_init 91 = .ok (.aload_n 0, 1) := by decide +kernel
theorem dX7_init_92 : decode cX7_init 92 = .ok (.iconst 4, 1) := by decide +kernel
theorem dX7_init_93 : decode cX7_init 93 = .ok (.newarray .int, 2) := by decide +kernel
theorem dX7_init_95 : decode cX7_init 95 = .ok (.putfield 45, 3) := by decide +kernel
theorem dX7_init_98 : decode cX7_init 98 = .ok (.aload_n 0, 1) := by decide +kernel
theorem dX7_init_99 : decode cX7_init 99 = .ok (.iconst 4, 1) := by decide +kernel
theorem dX7_init_100 : decode cX7_init 100 = .ok (.newarray .int, 2) := by decide +kernel
theorem dX7_init_102 : decode cX7_init 102 = .ok (.putfield 48, 3) := by decide +kernel
theorem dX7_init_105 : decode cX7_init 105 = .ok (.aload_n 0, 1) := by decide +kernel
theorem dX7_init_106 : decode cX7_init 106 = .ok (.iconst 1, 1) := by decide +kernel
theorem dX7_init_107 : decode cX7_init 107 = .ok (.putfield 51, 3) := by decide +kernel
theorem dX7_init_110 : decode cX7_init 110 = .ok (.iconst 0, 1) := by decide +kernel
theorem dX7_init_111 : decode cX7_init 111 = .ok (.istore_n 1, 1) := by decide +kernel
theorem dX7_init_112 : decode cX7_init 112 = .ok (.iload_n 1, 1) := by decide +kernel
theorem dX7_init_113 : decode cX7_init 113 = .ok (.bipush 12, 2) := by decide +kernel
theorem dX7_init_115 : decode cX7_init 115 = .ok (.if_icmp .ge 24, 3) := by decide +kernel
theorem dX7_init_118 : decode cX7_init 118 = .ok (.aload_n 0, 1) := by decide +kernel
theorem dX7_init_119 : decode cX7_init 119 = .ok (.getfield 9, 3) := by decide +kernel
theorem dX7_init_122 : decode cX7_init 122 = .ok (.iload_n 1, 1) := by decide +kernel
theorem dX7_init_123 : decode cX7_init 123 = .ok (.iconst (-1), 1) := by decide +kernel
theorem dX7_init_124 : decode cX7_init 124 = .ok (.iastore, 1) := by decide +kernel
theorem dX7_init_125 : decode cX7_init 125 = .ok (.aload_n 0, 1) := by decide +kernel
theorem dX7_init_126 : decode cX7_init 126 = .ok (.getfield 36, 3) := by decide +kernel
theorem dX7_init_129 : decode cX7_init 129 = .ok (.iload_n 1, 1) := by decide +kernel
theorem dX7_init_130 : decode cX7_init 130 = .ok (.bipush 23, 2) := by decide +kernel
theorem dX7_init_132 : decode cX7_init 132 = .ok (.iastore, 1) := by decide +kernel
theorem dX7_init_133 : decode cX7_init 133 = .ok (.iinc 1 1, 3) := by decide +kernel
theorem dX7_init_136 : decode cX7_init 136 = .ok (.goto (-24), 3) := by decide +kernel
theorem dX7_init_139 : decode cX7_init 139 = .ok (.iconst 0, 1) := by decide +kernel
theorem dX7_init_140 : decode cX7_init 140 = .ok (.istore_n 1, 1) := by decide +kernel
theorem dX7_init_141 : decode cX7_init 141 = .ok (.iload_n 1, 1) := by decide +kernel
theorem dX7_init_142 : decode cX7_init 142 = .ok (.iconst 4, 1) := by decide +kernel
theorem dX7_init_143 : decode cX7_init 143 = .ok (.if_icmp .ge 16, 3) := by decide +kernel
theorem dX7_init_146 : decode cX7_init 146 = .ok (.aload_n 0, 1) := by decide +kernel
theorem dX7_init_147 : decode cX7_init 147 = .ok (.getfield 42, 3) := by decide +kernel
theorem dX7_init_150 : decode cX7_init 150 = .ok (.iload_n 1, 1) := by decide +kernel
theorem dX7_init_151 : decode cX7_init 151 = .ok (.iconst 1, 1) := by decide +kernel
theorem dX7_init_152 : decode cX7_init 152 = .ok (.iastore, 1) := by decide +kernel
theorem dX7_init_153 : decode cX7_init 153 = .ok (.iinc 1 1, 3) := by decide +kernel
theorem dX7_init_156 : decode cX7_init 156 = .ok (.goto (-15), 3) := by decide +kernel
theorem dX7_init_159 : decode cX7_init 159 = .ok (.return_, 1) := by decide +kernel
theorem dX7_tell_0 : decode cX7_tell 0 = .ok (.iload_n 3, 1) := by decide +kernel
theorem dX7_tell_1 : decode cX7_tell 1 = .ok (.ifCond .lt 11, 3) := by decide +kernel
theorem dX7_tell_4 : decode cX7_tell 4 = .ok (.iload_n 3, 1) := by decide +kernel
theorem dX7_tell_5 : decode cX7_tell 5 = .ok (.iconst 5, 1) := by decide +kernel
theorem dX7_tell_6 : decode cX7_tell 6 = .ok (.iadd, 1) := by decide +kernel
theorem dX7_tell_7 : decode cX7_tell 7 = .ok (.aload_n 2, 1) := by decide +kernel
theorem dX7_tell_8 : decode cX7_tell 8 = .ok (.arraylength, 1) := by decide +kernel
theorem dX7_tell_9 : decode cX7_tell 9 = .ok (.if_icmp .le 4, 3) := by decide +kernel
theorem dX7_tell_12 : decode cX7_tell 12 = .ok (.return_, 1) := by decide +kernel
theorem dX7_tell_13 : decode cX7_tell 13 = .ok (.aload_n 2, 1) := by decide +kernel
theorem dX7_tell_14 : decode cX7_tell 14 = .ok (.iload_n 3, 1) := by decide +kernel
theorem dX7_tell_15 : decode cX7_tell 15 = .ok (.iaload, 1) := by decide +kernel
theorem dX7_tell_16 : decode cX7_tell 16 = .ok (.istore 4, 2) := by decide +kernel
theorem dX7_tell_18 : decode cX7_tell 18 = .ok (.aload_n 2, 1) := by decide +kernel
theorem dX7_tell_19 : decode cX7_tell 19 = .ok (.iload_n 3, 1) := by decide +kernel
theorem dX7_tell_20 : decode cX7_tell 20 = .ok (.iconst 1, 1) := by decide +kernel
theorem dX7_tell_21 : decode cX7_tell 21 = .ok (.iadd, 1) := by decide +kernel
theorem dX7_tell_22 : decode cX7_tell 22 = .ok (.iaload, 1) := by decide +kernel
theorem dX7_tell_23 : decode cX7_tell 23 = .ok (.istore 5, 2) := by decide +kernel
theorem dX7_tell_25 : decode cX7_tell 25 = .ok (.aload_n 2, 1) := by decide +kernel
theorem dX7_tell_26 : decode cX7_tell 26 = .ok (.iload_n 3, 1) := by decide +kernel
theorem dX7_tell_27 : decode cX7_tell 27 = .ok (.iconst 2, 1) := by decide +kernel
theorem dX7_tell_28 : decode cX7_tell 28 = .ok (.iadd, 1) := by decide +kernel
theorem dX7_tell_29 : decode cX7_tell 29 = .ok (.iaload, 1) := by decide +kernel
theorem dX7_tell_30 : decode cX7_tell 30 = .ok (.istore 6, 2) := by decide +kernel
theorem dX7_tell_32 : decode cX7_tell 32 = .ok (.aload_n 2, 1) := by decide +kernel
theorem dX7_tell_33 : decode cX7_tell 33 = .ok (.iload_n 3, 1) := by decide +kernel
theorem dX7_tell_34 : decode cX7_tell 34 = .ok (.iconst 3, 1) := by decide +kernel
theorem dX7_tell_35 : decode cX7_tell 35 = .ok (.iadd, 1) := by decide +kernel
theorem dX7_tell_36 : decode cX7_tell 36 = .ok (.iaload, 1) := by decide +kernel
theorem dX7_tell_37 : decode cX7_tell 37 = .ok (.istore 7, 2) := by decide +kernel
theorem dX7_tell_39 : decode cX7_tell 39 = .ok (.iload_n 1, 1) := by decide +kernel
theorem dX7_tell_40 : decode cX7_tell 40 = .ok (.tableswitch 138 0 6 #[44, 64, 76, 89, 102, 114, 129], 44) := by decide +kernel
theorem dX7_tell_84 : decode cX7_tell 84 = .ok (.aload_n 0, 1) := by decide +kernel
theorem dX7_tell_85 : decode cX7_tell 85 = .ok (.iload 4, 2) := by decide +kernel
theorem dX7_tell_87 : decode cX7_tell 87 = .ok (.iload 5, 2) := by decide +kernel
theorem dX7_tell_89 : decode cX7_tell 89 = .ok (.iload 6, 2) := by decide +kernel
theorem dX7_tell_91 : decode cX7_tell 91 = .ok (.iload 7, 2) := by decide +kernel
theorem dX7_tell_93 : decode cX7_tell 93 = .ok (.aload_n 2, 1) := by decide +kernel
theorem dX7_tell_94 : decode cX7_tell 94 = .ok (.iload_n 3, 1) := by decide +kernel
theorem dX7_tell_95 : decode cX7_tell 95 = .ok (.iconst 4, 1) := by decide +kernel
theorem dX7_tell_96 : decode cX7_tell 96 = .ok (.iadd, 1) := by decide +kernel
theorem dX7_tell_97 : decode cX7_tell 97 = .ok (.iaload, 1) := by decide +kernel
theorem dX7_tell_98 : decode cX7_tell 98 = .ok (.invokevirtual 57, 3) := by decide +kernel
theorem dX7_tell_101 : decode cX7_tell 101 = .ok (.goto 83, 3) := by decide +kernel
theorem dX7_tell_104 : decode cX7_tell 104 = .ok (.aload_n 0, 1) := by decide +kernel
theorem dX7_tell_105 : decode cX7_tell 105 = .ok (.getfield 24, 3) := by decide +kernel
theorem dX7_tell_108 : decode cX7_tell 108 = .ok (.iload 4, 2) := by decide +kernel
theorem dX7_tell_110 : decode cX7_tell 110 = .ok (.iload 5, 2) := by decide +kernel
theorem dX7_tell_112 : decode cX7_tell 112 = .ok (.iastore, 1) := by decide +kernel
theorem dX7_tell_113 : decode cX7_tell 113 = .ok (.goto 71, 3) := by decide +kernel
theorem dX7_tell_116 : decode cX7_tell 116 = .ok (.aload_n 0, 1) := by decide +kernel
theorem dX7_tell_117 : decode cX7_tell 117 = .ok (.iload 4, 2) := by decide +kernel
theorem dX7_tell_119 : decode cX7_tell 119 = .ok (.iload 5, 2) := by decide +kernel
theorem dX7_tell_121 : decode cX7_tell 121 = .ok (.iload 6, 2) := by decide +kernel
theorem dX7_tell_123 : decode cX7_tell 123 = .ok (.invokevirtual 61, 3) := by decide +kernel
theorem dX7_tell_126 : decode cX7_tell 126 = .ok (.goto 58, 3) := by decide +kernel
theorem dX7_tell_129 : decode cX7_tell 129 = .ok (.aload_n 0, 1) := by decide +kernel
theorem dX7_tell_130 : decode cX7_tell 130 = .ok (.iload 4, 2) := by decide +kernel
theorem dX7_tell_132 : decode cX7_tell 132 = .ok (.iload 5, 2) := by decide +kernel
theorem dX7_tell_134 : decode cX7_tell 134 = .ok (.iload 6, 2) := by decide +kernel
theorem dX7_tell_136 : decode cX7_tell 136 = .ok (.invokevirtual 65, 3) := by decide +kernel
theorem dX7_tell_139 : decode cX7_tell 139 = .ok (.goto 45, 3) := by decide +kernel
theorem dX7_tell_142 : decode cX7_tell 142 = .ok (.aload_n 0, 1) := by decide +kernel
theorem dX7_tell_143 : decode cX7_tell 143 = .ok (.getfield 39, 3) := by decide +kernel
theorem dX7_tell_146 : decode cX7_tell 146 = .ok (.iload 4, 2) := by decide +kernel
theorem dX7_tell_148 : decode cX7_tell 148 = .ok (.iload 5, 2) := by decide +kernel
theorem dX7_tell_150 : decode cX7_tell 150 = .ok (.iastore, 1) := by decide +kernel
theorem dX7_tell_151 : decode cX7_tell 151 = .ok (.goto 33, 3) := by decide +kernel
theorem dX7_tell_154 : decode cX7_tell 154 = .ok (.aload_n 0, 1) := by decide +kernel
theorem dX7_tell_155 : decode cX7_tell 155 = .ok (.iload 4, 2) := by decide +kernel
theorem dX7_tell_157 : decode cX7_tell 157 = .ok (.iload 5, 2) := by decide +kernel
theorem dX7_tell_159 : decode cX7_tell 159 = .ok (.iload 6, 2) := by decide +kernel
theorem dX7_tell_161 : decode cX7_tell 161 = .ok (.iload 7, 2) := by decide +kernel
theorem dX7_tell_163 : decode cX7_tell 163 = .ok (.invokevirtual 68, 3) := by decide +kernel
theorem dX7_tell_166 : decode cX7_tell 166 = .ok (.goto 18, 3) := by decide +kernel
theorem dX7_tell_169 : decode cX7_tell 169 = .ok (.aload_n 0, 1) := by decide +kernel
theorem dX7_tell_170 : decode cX7_tell 170 = .ok (.iload 4, 2) := by decide +kernel
theorem dX7_tell_172 : decode cX7_tell 172 = .ok (.putfield 72, 3) := by decide +kernel
theorem dX7_tell_175 : decode cX7_tell 175 = .ok (.goto 9, 3) := by decide +kernel
theorem dX7_tell_178 : decode cX7_tell 178 = .ok (.aload_n 0, 1) := by decide +kernel
theorem dX7_tell_179 : decode cX7_tell 179 = .ok (.iload 4, 2) := by decide +kernel
theorem dX7_tell_181 : decode cX7_tell 181 = .ok (.putfield 75, 3) := by decide +kernel
theorem dX7_tell_184 : decode cX7_tell 184 = .ok (.return_, 1) := by decide +kernel
theorem dX7_layFrom_0 : decode cX7_layFrom 0 = .ok (.aload_n 0, 1) := by decide +kernel
theorem dX7_layFrom_1 : decode cX7_layFrom 1 = .ok (.getfield 51, 3) := by decide +kernel
theorem dX7_layFrom_4 : decode cX7_layFrom 4 = .ok (.iload_n 2, 1) := by decide +kernel
theorem dX7_layFrom_5 : decode cX7_layFrom 5 = .ok (.invokestatic 78, 3) := by decide +kernel
theorem dX7_layFrom_8 : decode cX7_layFrom 8 = .ok (.ifCond .ne 12, 3) := by decide +kernel
theorem dX7_layFrom_11 : decode cX7_layFrom 11 = .ok (.aload_n 0, 1) := by decide +kernel
theorem dX7_layFrom_12 : decode cX7_layFrom 12 = .ok (.iload_n 2, 1) := by decide +kernel
theorem dX7_layFrom_13 : decode cX7_layFrom 13 = .ok (.iconst 0, 1) := by decide +kernel
theorem dX7_layFrom_14 : decode cX7_layFrom 14 = .ok (.iconst 0, 1) := by decide +kernel
theorem dX7_layFrom_15 : decode cX7_layFrom 15 = .ok (.iconst 1, 1) := by decide +kernel
theorem dX7_layFrom_16 : decode cX7_layFrom 16 = .ok (.iconst 0, 1) := by decide +kernel
theorem dX7_layFrom_17 : decode cX7_layFrom 17 = .ok (.invokevirtual 82, 3) := by decide +kernel
theorem dX7_layFrom_20 : decode cX7_layFrom 20 = .ok (.aload_n 0, 1) := by decide +kernel
theorem dX7_layFrom_21 : decode cX7_layFrom 21 = .ok (.iload_n 1, 1) := by decide +kernel
theorem dX7_layFrom_22 : decode cX7_layFrom 22 = .ok (.iload_n 2, 1) := by decide +kernel
theorem dX7_layFrom_23 : decode cX7_layFrom 23 = .ok (.iload_n 3, 1) := by decide +kernel
theorem dX7_layFrom_24 : decode cX7_layFrom 24 = .ok (.iload 4, 2) := by decide +kernel
theorem dX7_layFrom_26 : decode cX7_layFrom 26 = .ok (.iload 5, 2) := by decide +kernel
theorem dX7_layFrom_28 : decode cX7_layFrom 28 = .ok (.invokevirtual 82, 3) := by decide +kernel
theorem dX7_layFrom_31 : decode cX7_layFrom 31 = .ok (.return_, 1) := by decide +kernel
theorem dX7_lay_0 : decode cX7_lay 0 = .ok (.aload_n 0, 1) := by decide +kernel
theorem dX7_lay_1 : decode cX7_lay 1 = .ok (.dup, 1) := by decide +kernel
theorem dX7_lay_2 : decode cX7_lay 2 = .ok (.getfield 51, 3) := by decide +kernel
theorem dX7_lay_5 : decode cX7_lay 5 = .ok (.iconst 1, 1) := by decide +kernel
theorem dX7_lay_6 : decode cX7_lay 6 = .ok (.iload_n 1, 1) := by decide +kernel
theorem dX7_lay_7 : decode cX7_lay 7 = .ok (.ishl, 1) := by decide +kernel
theorem dX7_lay_8 : decode cX7_lay 8 = .ok (.ior, 1) := by decide +kernel
theorem dX7_lay_9 : decode cX7_lay 9 = .ok (.putfield 51, 3) := by decide +kernel
theorem dX7_lay_12 : decode cX7_lay 12 = .ok (.aload_n 0, 1) := by decide +kernel
theorem dX7_lay_13 : decode cX7_lay 13 = .ok (.getfield 9, 3) := by decide +kernel
theorem dX7_lay_16 : decode cX7_lay 16 = .ok (.iload_n 1, 1) := by decide +kernel
theorem dX7_lay_17 : decode cX7_lay 17 = .ok (.iload_n 2, 1) := by decide +kernel
theorem dX7_lay_18 : decode cX7_lay 18 = .ok (.iastore, 1) := by decide +kernel
theorem dX7_lay_19 : decode cX7_lay 19 = .ok (.aload_n 0, 1) := by decide +kernel
theorem dX7_lay_20 : decode cX7_lay 20 = .ok (.getfield 15, 3) := by decide +kernel
theorem dX7_lay_23 : decode cX7_lay 23 = .ok (.iload_n 1, 1) := by decide +kernel
theorem dX7_lay_24 : decode cX7_lay 24 = .ok (.iload_n 3, 1) := by decide +kernel
theorem dX7_lay_25 : decode cX7_lay 25 = .ok (.iastore, 1) := by decide +kernel
theorem dX7_lay_26 : decode cX7_lay 26 = .ok (.aload_n 0, 1) := by decide +kernel
theorem dX7_lay_27 : decode cX7_lay 27 = .ok (.getfield 18, 3) := by decide +kernel
theorem dX7_lay_30 : decode cX7_lay 30 = .ok (.iload_n 1, 1) := by decide +kernel
theorem dX7_lay_31 : decode cX7_lay 31 = .ok (.iload 4, 2) := by decide +kernel
theorem dX7_lay_33 : decode cX7_lay 33 = .ok (.iastore, 1) := by decide +kernel
theorem dX7_lay_34 : decode cX7_lay 34 = .ok (.aload_n 0, 1) := by decide +kernel
theorem dX7_lay_35 : decode cX7_lay 35 = .ok (.getfield 21, 3) := by decide +kernel
theorem dX7_lay_38 : decode cX7_lay 38 = .ok (.iload_n 1, 1) := by decide +kernel
theorem dX7_lay_39 : decode cX7_lay 39 = .ok (.iload 5, 2) := by decide +kernel
theorem dX7_lay_41 : decode cX7_lay 41 = .ok (.iastore, 1) := by decide +kernel
theorem dX7_lay_42 : decode cX7_lay 42 = .ok (.return_, 1) := by decide +kernel
theorem dX7_letIn_0 : decode cX7_letIn 0 = .ok (.aload_n 0, 1) := by decide +kernel
theorem dX7_letIn_1 : decode cX7_letIn 1 = .ok (.getfield 27, 3) := by decide +kernel
theorem dX7_letIn_4 : decode cX7_letIn 4 = .ok (.iload_n 1, 1) := by decide +kernel
theorem dX7_letIn_5 : decode cX7_letIn 5 = .ok (.iload_n 2, 1) := by decide +kernel
theorem dX7_letIn_6 : decode cX7_letIn 6 = .ok (.iastore, 1) := by decide +kernel
theorem dX7_letIn_7 : decode cX7_letIn 7 = .ok (.aload_n 0, 1) := by decide +kernel
theorem dX7_letIn_8 : decode cX7_letIn 8 = .ok (.getfield 30, 3) := by decide +kernel
theorem dX7_letIn_11 : decode cX7_letIn 11 = .ok (.iload_n 1, 1) := by decide +kernel
theorem dX7_letIn_12 : decode cX7_letIn 12 = .ok (.iload_n 3, 1) := by decide +kernel
theorem dX7_letIn_13 : decode cX7_letIn 13 = .ok (.iastore, 1) := by decide +kernel
theorem dX7_letIn_14 : decode cX7_letIn 14 = .ok (.aload_n 0, 1) := by decide +kernel
theorem dX7_letIn_15 : decode cX7_letIn 15 = .ok (.iload_n 1, 1) := by decide +kernel
theorem dX7_letIn_16 : decode cX7_letIn 16 = .ok (.iconst 0, 1) := by decide +kernel
theorem dX7_letIn_17 : decode cX7_letIn 17 = .ok (.bipush 23, 2) := by decide +kernel
theorem dX7_letIn_19 : decode cX7_letIn 19 = .ok (.invokevirtual 65, 3) := by decide +kernel
theorem dX7_letIn_22 : decode cX7_letIn 22 = .ok (.return_, 1) := by decide +kernel
theorem dX7_openBetween_0 : decode cX7_openBetween 0 = .ok (.aload_n 0, 1) := by decide +kernel
theorem dX7_openBetween_1 : decode cX7_openBetween 1 = .ok (.getfield 33, 3) := by decide +kernel
theorem dX7_openBetween_4 : decode cX7_openBetween 4 = .ok (.iload_n 1, 1) := by decide +kernel
theorem dX7_openBetween_5 : decode cX7_openBetween 5 = .ok (.iload_n 2, 1) := by decide +kernel
theorem dX7_openBetween_6 : decode cX7_openBetween 6 = .ok (.iastore, 1) := by decide +kernel
theorem dX7_openBetween_7 : decode cX7_openBetween 7 = .ok (.aload_n 0, 1) := by decide +kernel
theorem dX7_openBetween_8 : decode cX7_openBetween 8 = .ok (.getfield 36, 3) := by decide +kernel
theorem dX7_openBetween_11 : decode cX7_openBetween 11 = .ok (.iload_n 1, 1) := by decide +kernel
theorem dX7_openBetween_12 : decode cX7_openBetween 12 = .ok (.iload_n 3, 1) := by decide +kernel
theorem dX7_openBetween_13 : decode cX7_openBetween 13 = .ok (.iastore, 1) := by decide +kernel
theorem dX7_openBetween_14 : decode cX7_openBetween 14 = .ok (.return_, 1) := by decide +kernel
theorem dX7_giveCup_0 : decode cX7_giveCup 0 = .ok (.aload_n 0, 1) := by decide +kernel
theorem dX7_giveCup_1 : decode cX7_giveCup 1 = .ok (.getfield 42, 3) := by decide +kernel
theorem dX7_giveCup_4 : decode cX7_giveCup 4 = .ok (.iload_n 1, 1) := by decide +kernel
theorem dX7_giveCup_5 : decode cX7_giveCup 5 = .ok (.iload_n 2, 1) := by decide +kernel
theorem dX7_giveCup_6 : decode cX7_giveCup 6 = .ok (.iastore, 1) := by decide +kernel
theorem dX7_giveCup_7 : decode cX7_giveCup 7 = .ok (.aload_n 0, 1) := by decide +kernel
theorem dX7_giveCup_8 : decode cX7_giveCup 8 = .ok (.getfield 45, 3) := by decide +kernel
theorem dX7_giveCup_11 : decode cX7_giveCup 11 = .ok (.iload_n 1, 1) := by decide +kernel
theorem dX7_giveCup_12 : decode cX7_giveCup 12 = .ok (.iload_n 3, 1) := by decide +kernel
theorem dX7_giveCup_13 : decode cX7_giveCup 13 = .ok (.iastore, 1) := by decide +kernel
theorem dX7_giveCup_14 : decode cX7_giveCup 14 = .ok (.aload_n 0, 1) := by decide +kernel
theorem dX7_giveCup_15 : decode cX7_giveCup 15 = .ok (.getfield 48, 3) := by decide +kernel
theorem dX7_giveCup_18 : decode cX7_giveCup 18 = .ok (.iload_n 1, 1) := by decide +kernel
theorem dX7_giveCup_19 : decode cX7_giveCup 19 = .ok (.iload 4, 2) := by decide +kernel
theorem dX7_giveCup_21 : decode cX7_giveCup 21 = .ok (.iastore, 1) := by decide +kernel
theorem dX7_giveCup_22 : decode cX7_giveCup 22 = .ok (.return_, 1) := by decide +kernel
theorem dX8_init_0 : decode cX8_init 0 = .ok (.aload_n 0, 1) := by decide +kernel
theorem dX8_init_1 : decode cX8_init 1 = .ok (.invokespecial 3, 3) := by decide +kernel
theorem dX8_init_4 : decode cX8_init 4 = .ok (.aload_n 0, 1) := by decide +kernel
theorem dX8_init_5 : decode cX8_init 5 = .ok (.bipush 12, 2) := by decide +kernel
theorem dX8_init_7 : decode cX8_init 7 = .ok (.newarray .int, 2) := by decide +kernel
theorem dX8_init_9 : decode cX8_init 9 = .ok (.putfield 9, 3) := by decide +kernel
theorem dX8_init_12 : decode cX8_init 12 = .ok (.aload_n 0, 1) := by decide +kernel
theorem dX8_init_13 : decode cX8_init 13 = .ok (.bipush 12, 2) := by decide +kernel
theorem dX8_init_15 : decode cX8_init 15 = .ok (.anewarray 15, 3) := by decide +kernel
theorem dX8_init_18 : decode cX8_init 18 = .ok (.putfield 17, 3) := by decide +kernel
theorem dX8_init_21 : decode cX8_init 21 = .ok (.aload_n 0, 1) := by decide +kernel
theorem dX8_init_22 : decode cX8_init 22 = .ok (.aload_n 1, 1) := by decide +kernel
theorem dX8_init_23 : decode cX8_init 23 = .ok (.putfield 21, 3) := by decide +kernel
theorem dX8_init_26 : decode cX8_init 26 = .ok (.aload_n 0, 1) := by decide +kernel
theorem dX8_init_27 : decode cX8_init 27 = .ok (.aload_n 2, 1) := by decide +kernel
theorem dX8_init_28 : decode cX8_init 28 = .ok (.putfield 25, 3) := by decide +kernel
theorem dX8_init_31 : decode cX8_init 31 = .ok (.iconst 0, 1) := by decide +kernel
theorem dX8_init_32 : decode cX8_init 32 = .ok (.istore_n 3, 1) := by decide +kernel
theorem dX8_init_33 : decode cX8_init 33 = .ok (.iload_n 3, 1) := by decide +kernel
theorem dX8_init_34 : decode cX8_init 34 = .ok (.bipush 12, 2) := by decide +kernel
theorem dX8_init_36 : decode cX8_init 36 = .ok (.if_icmp .ge 22, 3) := by decide +kernel
theorem dX8_init_39 : decode cX8_init 39 = .ok (.aload_n 0, 1) := by decide +kernel
theorem dX8_init_40 : decode cX8_init 40 = .ok (.getfield 17, 3) := by decide +kernel
theorem dX8_init_43 : decode cX8_init 43 = .ok (.iload_n 3, 1) := by decide +kernel
theorem dX8_init_44 : decode cX8_init 44 = .ok (.new 15, 3) := by decide +kernel
theorem dX8_init_47 : decode cX8_init 47 = .ok (.dup, 1) := by decide +kernel
theorem dX8_init_48 : decode cX8_init 48 = .ok (.invokespecial 29, 3) := by decide +kernel
theorem dX8_init_51 : decode cX8_init 51 = .ok (.aastore, 1) := by decide +kernel
theorem dX8_init_52 : decode cX8_init 52 = .ok (.iinc 3 1, 3) := by decide +kernel
theorem dX8_init_55 : decode cX8_init 55 = .ok (.goto (-22), 3) := by decide +kernel
theorem dX8_init_58 : decode cX8_init 58 = .ok (.return_, 1) := by decide +kernel
theorem dX8_renew_0 : decode cX8_renew 0 = .ok (.iconst 0, 1) := by decide +kernel
theorem dX8_renew_1 : decode cX8_renew 1 = .ok (.istore_n 1, 1) := by decide +kernel
theorem dX8_renew_2 : decode cX8_renew 2 = .ok (.iload_n 1, 1) := by decide +kernel
theorem dX8_renew_3 : decode cX8_renew 3 = .ok (.bipush 12, 2) := by decide +kernel
theorem dX8_renew_5 : decode cX8_renew 5 = .ok (.if_icmp .ge 83, 3) := by decide +kernel
theorem dX8_renew_8 : decode cX8_renew 8 = .ok (.aload_n 0, 1) := by decide +kernel
theorem dX8_renew_9 : decode cX8_renew 9 = .ok (.getfield 9, 3) := by decide +kernel
theorem dX8_renew_12 : decode cX8_renew 12 = .ok (.iload_n 1, 1) := by decide +kernel
theorem dX8_renew_13 : decode cX8_renew 13 = .ok (.aload_n 0, 1) := by decide +kernel
theorem dX8_renew_14 : decode cX8_renew 14 = .ok (.aload_n 0, 1) := by decide +kernel
theorem dX8_renew_15 : decode cX8_renew 15 = .ok (.getfield 25, 3) := by decide +kernel
theorem dX8_renew_18 : decode cX8_renew 18 = .ok (.getfield 30, 3) := by decide +kernel
theorem dX8_renew_21 : decode cX8_renew 21 = .ok (.iload_n 1, 1) := by decide +kernel
theorem dX8_renew_22 : decode cX8_renew 22 = .ok (.iaload, 1) := by decide +kernel
theorem dX8_renew_23 : decode cX8_renew 23 = .ok (.invokevirtual 35, 3) := by decide +kernel
theorem dX8_renew_26 : decode cX8_renew 26 = .ok (.iastore, 1) := by decide +kernel
theorem dX8_renew_27 : decode cX8_renew 27 = .ok (.aload_n 0, 1) := by decide +kernel
theorem dX8_renew_28 : decode cX8_renew 28 = .ok (.getfield 21, 3) := by decide +kernel
theorem dX8_renew_31 : decode cX8_renew 31 = .ok (.getfield 39, 3) := by decide +kernel
theorem dX8_renew_34 : decode cX8_renew 34 = .ok (.iload_n 1, 1) := by decide +kernel
theorem dX8_renew_35 : decode cX8_renew 35 = .ok (.invokestatic 45, 3) := by decide +kernel
theorem dX8_renew_38 : decode cX8_renew 38 = .ok (.ifCond .eq 44, 3) := by decide +kernel
theorem dX8_renew_41 : decode cX8_renew 41 = .ok (.aload_n 0, 1) := by decide +kernel
theorem dX8_renew_42 : decode cX8_renew 42 = .ok (.getfield 17, 3) := by decide +kernel
theorem dX8_renew_45 : decode cX8_renew 45 = .ok (.iload_n 1, 1) := by decide +kernel
theorem dX8_renew_46 : decode cX8_renew 46 = .ok (.aaload, 1) := by decide +kernel
theorem dX8_renew_47 : decode cX8_renew 47 = .ok (.aload_n 0, 1) := by decide +kernel
theorem dX8_renew_48 : decode cX8_renew 48 = .ok (.getfield 21, 3) := by decide +kernel
theorem dX8_renew_51 : decode cX8_renew 51 = .ok (.iload_n 1, 1) := by decide +kernel
theorem dX8_renew_52 : decode cX8_renew 52 = .ok (.aload_n 0, 1) := by decide +kernel
theorem dX8_renew_53 : decode cX8_renew 53 = .ok (.getfield 21, 3) := by decide +kernel
theorem dX8_renew_56 : decode cX8_renew 56 = .ok (.getfield 49, 3) := by decide +kernel
theorem dX8_renew_59 : decode cX8_renew 59 = .ok (.iload_n 1, 1) := by decide +kernel
theorem dX8_renew_60 : decode cX8_renew 60 = .ok (.iaload, 1) := by decide +kernel
theorem dX8_renew_61 : decode cX8_renew 61 = .ok (.aload_n 0, 1) := by decide +kernel
theorem dX8_renew_62 : decode cX8_renew 62 = .ok (.getfield 21, 3) := by decide +kernel
theorem dX8_renew_65 : decode cX8_renew 65 = .ok (.getfield 52, 3) := by decide +kernel
theorem dX8_renew_68 : decode cX8_renew 68 = .ok (.iload_n 1, 1) := by decide +kernel
theorem dX8_renew_69 : decode cX8_renew 69 = .ok (.iaload, 1) := by decide +kernel
theorem dX8_renew_70 : decode cX8_renew 70 = .ok (.aload_n 0, 1) := by decide +kernel
theorem dX8_renew_71 : decode cX8_renew 71 = .ok (.getfield 21, 3) := by decide +kernel
theorem dX8_renew_74 : decode cX8_renew 74 = .ok (.getfield 55, 3) := by decide +kernel
theorem dX8_renew_77 : decode cX8_renew 77 = .ok (.iload_n 1, 1) := by decide +kernel
theorem dX8_renew_78 : decode cX8_renew 78 = .ok (.iaload, 1) := by decide +kernel
theorem dX8_renew_79 : decode cX8_renew 79 = .ok (.invokevirtual 58, 3) := by decide +kernel
theorem dX8_renew_82 : decode cX8_renew 82 = .ok (.iinc 1 1, 3) := by decide +kernel
theorem dX8_renew_85 : decode cX8_renew 85 = .ok (.goto (-83), 3) := by decide +kernel
theorem dX8_renew_88 : decode cX8_renew 88 = .ok (.return_, 1) := by decide +kernel
theorem dX8_inflowOf_0 : decode cX8_inflowOf 0 = .ok (.iconst 0, 1) := by decide +kernel
theorem dX8_inflowOf_1 : decode cX8_inflowOf 1 = .ok (.istore_n 2, 1) := by decide +kernel
theorem dX8_inflowOf_2 : decode cX8_inflowOf 2 = .ok (.iconst 0, 1) := by decide +kernel
theorem dX8_inflowOf_3 : decode cX8_inflowOf 3 = .ok (.istore_n 3, 1) := by decide +kernel
theorem dX8_inflowOf_4 : decode cX8_inflowOf 4 = .ok (.iload_n 3, 1) := by decide +kernel
theorem dX8_inflowOf_5 : decode cX8_inflowOf 5 = .ok (.bipush 12, 2) := by decide +kernel
theorem dX8_inflowOf_7 : decode cX8_inflowOf 7 = .ok (.if_icmp .ge 33, 3) := by decide +kernel
theorem dX8_inflowOf_10 : decode cX8_inflowOf 10 = .ok (.iload_n 2, 1) := by decide +kernel
theorem dX8_inflowOf_11 : decode cX8_inflowOf 11 = .ok (.iload_n 1, 1) := by decide +kernel
theorem dX8_inflowOf_12 : decode cX8_inflowOf 12 = .ok (.iload_n 3, 1) := by decide +kernel
theorem dX8_inflowOf_13 : decode cX8_inflowOf 13 = .ok (.invokestatic 45, 3) := by decide +kernel
theorem dX8_inflowOf_16 : decode cX8_inflowOf 16 = .ok (.ifCond .eq 15, 3) := by decide +kernel
theorem dX8_inflowOf_19 : decode cX8_inflowOf 19 = .ok (.aload_n 0, 1) := by decide +kernel
theorem dX8_inflowOf_20 : decode cX8_inflowOf 20 = .ok (.getfield 21, 3) := by decide +kernel
theorem dX8_inflowOf_23 : decode cX8_inflowOf 23 = .ok (.getfield 62, 3) := by decide +kernel
theorem dX8_inflowOf_26 : decode cX8_inflowOf 26 = .ok (.iload_n 3, 1) := by decide +kernel
theorem dX8_inflowOf_27 : decode cX8_inflowOf 27 = .ok (.iaload, 1) := by decide +kernel
theorem dX8_inflowOf_28 : decode cX8_inflowOf 28 = .ok (.goto 4, 3) := by decide +kernel
theorem dX8_inflowOf_31 : decode cX8_inflowOf 31 = .ok (.iconst 0, 1) := by decide +kernel
theorem dX8_inflowOf_32 : decode cX8_inflowOf 32 = .ok (.iadd, 1) := by decide +kernel
theorem dX8_inflowOf_33 : decode cX8_inflowOf 33 = .ok (.istore_n 2, 1) := by decide +kernel
theorem dX8_inflowOf_34 : decode cX8_inflowOf 34 = .ok (.iinc 3 1, 3) := by decide +kernel
theorem dX8_inflowOf_37 : decode cX8_inflowOf 37 = .ok (.goto (-33), 3) := by decide +kernel
theorem dX8_inflowOf_40 : decode cX8_inflowOf 40 = .ok (.iload_n 2, 1) := by decide +kernel
theorem dX8_inflowOf_41 : decode cX8_inflowOf 41 = .ok (.ireturn, 1) := by decide +kernel
theorem dX8_flowAt_0 : decode cX8_flowAt 0 = .ok (.aload_n 0, 1) := by decide +kernel
theorem dX8_flowAt_1 : decode cX8_flowAt 1 = .ok (.getfield 9, 3) := by decide +kernel
theorem dX8_flowAt_4 : decode cX8_flowAt 4 = .ok (.iload_n 1, 1) := by decide +kernel
theorem dX8_flowAt_5 : decode cX8_flowAt 5 = .ok (.iaload, 1) := by decide +kernel
theorem dX8_flowAt_6 : decode cX8_flowAt 6 = .ok (.bipush 10, 2) := by decide +kernel
theorem dX8_flowAt_8 : decode cX8_flowAt 8 = .ok (.aload_n 0, 1) := by decide +kernel
theorem dX8_flowAt_9 : decode cX8_flowAt 9 = .ok (.getfield 21, 3) := by decide +kernel
theorem dX8_flowAt_12 : decode cX8_flowAt 12 = .ok (.getfield 65, 3) := by decide +kernel
theorem dX8_flowAt_15 : decode cX8_flowAt 15 = .ok (.iload_n 2, 1) := by decide +kernel
theorem dX8_flowAt_16 : decode cX8_flowAt 16 = .ok (.iaload, 1) := by decide +kernel
theorem dX8_flowAt_17 : decode cX8_flowAt 17 = .ok (.iadd, 1) := by decide +kernel
theorem dX8_flowAt_18 : decode cX8_flowAt 18 = .ok (.imul, 1) := by decide +kernel
theorem dX8_flowAt_19 : decode cX8_flowAt 19 = .ok (.bipush 10, 2) := by decide +kernel
theorem dX8_flowAt_21 : decode cX8_flowAt 21 = .ok (.idiv, 1) := by decide +kernel
theorem dX8_flowAt_22 : decode cX8_flowAt 22 = .ok (.istore_n 3, 1) := by decide +kernel
theorem dX8_flowAt_23 : decode cX8_flowAt 23 = .ok (.iload_n 3, 1) := by decide +kernel
theorem dX8_flowAt_24 : decode cX8_flowAt 24 = .ok (.iconst 1, 1) := by decide +kernel
theorem dX8_flowAt_25 : decode cX8_flowAt 25 = .ok (.if_icmp .ge 7, 3) := by decide +kernel
theorem dX8_flowAt_28 : decode cX8_flowAt 28 = .ok (.iconst 1, 1) := by decide +kernel
theorem dX8_flowAt_29 : decode cX8_flowAt 29 = .ok (.goto 4, 3) := by decide +kernel
theorem dX8_flowAt_32 : decode cX8_flowAt 32 = .ok (.iload_n 3, 1) := by decide +kernel
theorem dX8_flowAt_33 : decode cX8_flowAt 33 = .ok (.ireturn, 1) := by decide +kernel
theorem dX8_thinAt_0 : decode cX8_thinAt 0 = .ok (.iconst 0, 1) := by decide +kernel
theorem dX8_thinAt_1 : decode cX8_thinAt 1 = .ok (.istore 5, 2) := by decide +kernel
theorem dX8_thinAt_3 : decode cX8_thinAt 3 = .ok (.aload_n 3, 1) := by decide +kernel
theorem dX8_thinAt_4 : decode cX8_thinAt 4 = .ok (.ifnull 14, 3) := by decide +kernel
theorem dX8_thinAt_7 : decode cX8_thinAt 7 = .ok (.iload 5, 2) := by decide +kernel
theorem dX8_thinAt_9 : decode cX8_thinAt 9 = .ok (.aload_n 3, 1) := by decide +kernel
theorem dX8_thinAt_10 : decode cX8_thinAt 10 = .ok (.iload_n 1, 1) := by decide +kernel
theorem dX8_thinAt_11 : decode cX8_thinAt 11 = .ok (.iload_n 2, 1) := by decide +kernel
theorem dX8_thinAt_12 : decode cX8_thinAt 12 = .ok (.invokevirtual 68, 3) := by decide +kernel
theorem dX8_thinAt_15 : decode cX8_thinAt 15 = .ok (.iadd, 1) := by decide +kernel
theorem dX8_thinAt_16 : decode cX8_thinAt 16 = .ok (.istore 5, 2) := by decide +kernel
theorem dX8_thinAt_18 : decode cX8_thinAt 18 = .ok (.aload 4, 2) := by decide +kernel
theorem dX8_thinAt_20 : decode cX8_thinAt 20 = .ok (.ifnull 15, 3) := by decide +kernel
theorem dX8_thinAt_23 : decode cX8_thinAt 23 = .ok (.iload 5, 2) := by decide +kernel
theorem dX8_thinAt_25 : decode cX8_thinAt 25 = .ok (.aload 4, 2) := by decide +kernel
theorem dX8_thinAt_27 : decode cX8_thinAt 27 = .ok (.iload_n 1, 1) := by decide +kernel
theorem dX8_thinAt_28 : decode cX8_thinAt 28 = .ok (.iload_n 2, 1) := by decide +kernel
theorem dX8_thinAt_29 : decode cX8_thinAt 29 = .ok (.invokevirtual 68, 3) := by decide +kernel
theorem dX8_thinAt_32 : decode cX8_thinAt 32 = .ok (.iadd, 1) := by decide +kernel
theorem dX8_thinAt_33 : decode cX8_thinAt 33 = .ok (.istore 5, 2) := by decide +kernel
theorem dX8_thinAt_35 : decode cX8_thinAt 35 = .ok (.sipush 1000, 3) := by decide +kernel
theorem dX8_thinAt_38 : decode cX8_thinAt 38 = .ok (.iload 5, 2) := by decide +kernel
theorem dX8_thinAt_40 : decode cX8_thinAt 40 = .ok (.imul, 1) := by decide +kernel
theorem dX8_thinAt_41 : decode cX8_thinAt 41 = .ok (.aload_n 0, 1) := by decide +kernel
theorem dX8_thinAt_42 : decode cX8_thinAt 42 = .ok (.iload_n 1, 1) := by decide +kernel
theorem dX8_thinAt_43 : decode cX8_thinAt 43 = .ok (.iload_n 2, 1) := by decide +kernel
theorem dX8_thinAt_44 : decode cX8_thinAt 44 = .ok (.bipush 60, 2) := by decide +kernel
theorem dX8_thinAt_46 : decode cX8_thinAt 46 = .ok (.idiv, 1) := by decide +kernel
theorem dX8_thinAt_47 : decode cX8_thinAt 47 = .ok (.invokevirtual 72, 3) := by decide +kernel
theorem dX8_thinAt_50 : decode cX8_thinAt 50 = .ok (.idiv, 1) := by decide +kernel
theorem dX8_thinAt_51 : decode cX8_thinAt 51 = .ok (.ireturn, 1) := by decide +kernel
theorem dX8_shouldSayYes_0 : decode cX8_shouldSayYes 0 = .ok (.aload_n 2, 1) := by decide +kernel
theorem dX8_shouldSayYes_1 : decode cX8_shouldSayYes 1 = .ok (.ifnonnull 9, 3) := by decide +kernel
theorem dX8_shouldSayYes_4 : decode cX8_shouldSayYes 4 = .ok (.aload_n 3, 1) := by decide +kernel
theorem dX8_shouldSayYes_5 : decode cX8_shouldSayYes 5 = .ok (.ifnonnull 5, 3) := by decide +kernel
theorem dX8_shouldSayYes_8 : decode cX8_shouldSayYes 8 = .ok (.iconst 0, 1) := by decide +kernel
theorem dX8_shouldSayYes_9 : decode cX8_shouldSayYes 9 = .ok (.ireturn, 1) := by decide +kernel
theorem dX8_shouldSayYes_10 : decode cX8_shouldSayYes 10 = .ok (.iconst 0, 1) := by decide +kernel
theorem dX8_shouldSayYes_11 : decode cX8_shouldSayYes 11 = .ok (.istore 4, 2) := by decide +kernel
theorem dX8_shouldSayYes_13 : decode cX8_shouldSayYes 13 = .ok (.iload 4, 2) := by decide +kernel
theorem dX8_shouldSayYes_15 : decode cX8_shouldSayYes 15 = .ok (.aload_n 1, 1) := by decide +kernel
theorem dX8_shouldSayYes_16 : decode cX8_shouldSayYes 16 = .ok (.getfield 75, 3) := by decide +kernel
theorem dX8_shouldSayYes_19 : decode cX8_shouldSayYes 19 = .ok (.if_icmp .ge 50, 3) := by decide +kernel
theorem dX8_shouldSayYes_22 : decode cX8_shouldSayYes 22 = .ok (.aload_n 1, 1) := by decide +kernel
theorem dX8_shouldSayYes_23 : decode cX8_shouldSayYes 23 = .ok (.getfield 80, 3) := by decide +kernel
theorem dX8_shouldSayYes_26 : decode cX8_shouldSayYes 26 = .ok (.iload 4, 2) := by decide +kernel
theorem dX8_shouldSayYes_28 : decode cX8_shouldSayYes 28 = .ok (.bipush 60, 2) := by decide +kernel
theorem dX8_shouldSayYes_30 : decode cX8_shouldSayYes 30 = .ok (.imul, 1) := by decide +kernel
theorem dX8_shouldSayYes_31 : decode cX8_shouldSayYes 31 = .ok (.iadd, 1) := by decide +kernel
theorem dX8_shouldSayYes_32 : decode cX8_shouldSayYes 32 = .ok (.istore 5, 2) := by decide +kernel
theorem dX8_shouldSayYes_34 : decode cX8_shouldSayYes 34 = .ok (.aload_n 0, 1) := by decide +kernel
theorem dX8_shouldSayYes_35 : decode cX8_shouldSayYes 35 = .ok (.aload_n 1, 1) := by decide +kernel
theorem dX8_shouldSayYes_36 : decode cX8_shouldSayYes 36 = .ok (.getfield 83, 3) := by decide +kernel
theorem dX8_shouldSayYes_39 : decode cX8_shouldSayYes 39 = .ok (.iload 5, 2) := by decide +kernel
theorem dX8_shouldSayYes_41 : decode cX8_shouldSayYes 41 = .ok (.aload_n 2, 1) := by decide +kernel
theorem dX8_shouldSayYes_42 : decode cX8_shouldSayYes 42 = .ok (.aload_n 3, 1) := by decide +kernel
theorem dX8_shouldSayYes_43 : decode cX8_shouldSayYes 43 = .ok (.invokevirtual 86, 3) := by decide +kernel
theorem dX8_shouldSayYes_46 : decode cX8_shouldSayYes 46 = .ok (.aload_n 0, 1) := by decide +kernel
theorem dX8_shouldSayYes_47 : decode cX8_shouldSayYes 47 = .ok (.getfield 21, 3) := by decide +kernel
theorem dX8_shouldSayYes_50 : decode cX8_shouldSayYes 50 = .ok (.getfield 90, 3) := by decide +kernel
theorem dX8_shouldSayYes_53 : decode cX8_shouldSayYes 53 = .ok (.aload_n 1, 1) := by decide +kernel
theorem dX8_shouldSayYes_54 : decode cX8_shouldSayYes 54 = .ok (.getfield 93, 3) := by decide +kernel
theorem dX8_shouldSayYes_57 : decode cX8_shouldSayYes 57 = .ok (.iaload, 1) := by decide +kernel
theorem dX8_shouldSayYes_58 : decode cX8_shouldSayYes 58 = .ok (.if_icmp .lt 5, 3) := by decide +kernel
theorem dX8_shouldSayYes_61 : decode cX8_shouldSayYes 61 = .ok (.iconst 1, 1) := by decide +kernel
theorem dX8_shouldSayYes_62 : decode cX8_shouldSayYes 62 = .ok (.ireturn, 1) := by decide +kernel
theorem dX8_shouldSayYes_63 : decode cX8_shouldSayYes 63 = .ok (.iinc 4 1, 3) := by decide +kernel
theorem dX8_shouldSayYes_66 : decode cX8_shouldSayYes 66 = .ok (.goto (-53), 3) := by decide +kernel
theorem dX8_shouldSayYes_69 : decode cX8_shouldSayYes 69 = .ok (.iconst 0, 1) := by decide +kernel
theorem dX8_shouldSayYes_70 : decode cX8_shouldSayYes 70 = .ok (.ireturn, 1) := by decide +kernel
theorem dX8_pouredTogether_0 : decode cX8_pouredTogether 0 = .ok (.iconst 0, 1) := by decide +kernel
theorem dX8_pouredTogether_1 : decode cX8_pouredTogether 1 = .ok (.istore 5, 2) := by decide +kernel
theorem dX8_pouredTogether_3 : decode cX8_pouredTogether 3 = .ok (.iconst 0, 1) := by decide +kernel
theorem dX8_pouredTogether_4 : decode cX8_pouredTogether 4 = .ok (.istore 6, 2) := by decide +kernel
theorem dX8_pouredTogether_6 : decode cX8_pouredTogether 6 = .ok (.iconst 0, 1) := by decide +kernel
theorem dX8_pouredTogether_7 : decode cX8_pouredTogether 7 = .ok (.istore 7, 2) := by decide +kernel
theorem dX8_pouredTogether_9 : decode cX8_pouredTogether 9 = .ok (.iload 7, 2) := by decide +kernel
theorem dX8_pouredTogether_11 : decode cX8_pouredTogether 11 = .ok (.bipush 12, 2) := by decide +kernel
theorem dX8_pouredTogether_13 : decode cX8_pouredTogether 13 = .ok (.if_icmp .ge 36, 3) := by decide +kernel
theorem dX8_pouredTogether_16 : decode cX8_pouredTogether 16 = .ok (.iload_n 1, 1) := by decide +kernel
theorem dX8_pouredTogether_17 : decode cX8_pouredTogether 17 = .ok (.iload 7, 2) := by decide +kernel
theorem dX8_pouredTogether_19 : decode cX8_pouredTogether 19 = .ok (.invokestatic 45, 3) := by decide +kernel
theorem dX8_pouredTogether_22 : decode cX8_pouredTogether 22 = .ok (.ifCond .eq 21, 3) := by decide +kernel
theorem dX8_pouredTogether_25 : decode cX8_pouredTogether 25 = .ok (.iload 5, 2) := by decide +kernel
theorem dX8_pouredTogether_27 : decode cX8_pouredTogether 27 = .ok (.aload_n 0, 1) := by decide +kernel
theorem dX8_pouredTogether_28 : decode cX8_pouredTogether 28 = .ok (.iload 7, 2) := by decide +kernel
theorem dX8_pouredTogether_30 : decode cX8_pouredTogether 30 = .ok (.iload_n 2, 1) := by decide +kernel
theorem dX8_pouredTogether_31 : decode cX8_pouredTogether 31 = .ok (.aload_n 3, 1) := by decide +kernel
theorem dX8_pouredTogether_32 : decode cX8_pouredTogether 32 = .ok (.aload 4, 2) := by decide +kernel
theorem dX8_pouredTogether_34 : decode cX8_pouredTogether 34 = .ok (.invokevirtual 96, 3) := by decide +kernel
theorem dX8_pouredTogether_37 : decode cX8_pouredTogether 37 = .ok (.iadd, 1) := by decide +kernel
theorem dX8_pouredTogether_38 : decode cX8_pouredTogether 38 = .ok (.istore 5, 2) := by decide +kernel
theorem dX8_pouredTogether_40 : decode cX8_pouredTogether 40 = .ok (.iinc 6 1, 3) := by decide +kernel
theorem dX8_pouredTogether_43 : decode cX8_pouredTogether 43 = .ok (.iinc 7 1, 3) := by decide +kernel
theorem dX8_pouredTogether_46 : decode cX8_pouredTogether 46 = .ok (.goto (-37), 3) := by decide +kernel
theorem dX8_pouredTogether_49 : decode cX8_pouredTogether 49 = .ok (.iload 5, 2) := by decide +kernel
theorem dX8_pouredTogether_51 : decode cX8_pouredTogether 51 = .ok (.iconst 1, 1) := by decide +kernel
theorem dX8_pouredTogether_52 : decode cX8_pouredTogether 52 = .ok (.iload 6, 2) := by decide +kernel
theorem dX8_pouredTogether_54 : decode cX8_pouredTogether 54 = .ok (.invokestatic 99, 3) := by decide +kernel
theorem dX8_pouredTogether_57 : decode cX8_pouredTogether 57 = .ok (.idiv, 1) := by decide +kernel
theorem dX8_pouredTogether_58 : decode cX8_pouredTogether 58 = .ok (.ireturn, 1) := by decide +kernel
theorem dX9_init_0 : decode cX9_init 0 = .ok (.aload_n 0, 1) := by decide +kernel
theorem dX9_init_1 : decode cX9_init 1 = .ok (.invokespecial 3, 3) := by decide +kernel
theorem dX9_init_4 : decode cX9_init 4 = .ok (.aload_n 0, 1) := by decide +kernel
theorem dX9_init_5 : decode cX9_init 5 = .ok (.bipush 12, 2) := by decide +kernel
theorem dX9_init_7 : decode cX9_init 7 = .ok (.newarray .int, 2) := by decide +kernel
theorem dX9_init_9 : decode cX9_init 9 = .ok (.putfield 9, 3) := by decide +kernel
theorem dX9_init_12 : decode cX9_init 12 = .ok (.aload_n 0, 1) := by decide +kernel
theorem dX9_init_13 : decode cX9_init 13 = .ok (.aload_n 1, 1) := by decide +kernel
theorem dX9_init_14 : decode cX9_init 14 = .ok (.putfield 15, 3) := by decide +kernel
theorem dX9_init_17 : decode cX9_init 17 = .ok (.return_, 1) := by decide +kernel
theorem dX9_renew_0 : decode cX9_renew 0 = .ok (.aload_n 0, 1) := by decide +kernel
theorem dX9_renew_1 : decode cX9_renew 1 = .ok (.iconst 0, 1) := by decide +kernel
theorem dX9_renew_2 : decode cX9_renew 2 = .ok (.putfield 19, 3) := by decide +kernel
theorem dX9_renew_5 : decode cX9_renew 5 = .ok (.iconst 0, 1) := by decide +kernel
theorem dX9_renew_6 : decode cX9_renew 6 = .ok (.istore_n 1, 1) := by decide +kernel
theorem dX9_renew_7 : decode cX9_renew 7 = .ok (.iload_n 1, 1) := by decide +kernel
theorem dX9_renew_8 : decode cX9_renew 8 = .ok (.bipush 12, 2) := by decide +kernel
theorem dX9_renew_10 : decode cX9_renew 10 = .ok (.if_icmp .ge 16, 3) := by decide +kernel
theorem dX9_renew_13 : decode cX9_renew 13 = .ok (.aload_n 0, 1) := by decide +kernel
theorem dX9_renew_14 : decode cX9_renew 14 = .ok (.getfield 9, 3) := by decide +kernel
theorem dX9_renew_17 : decode cX9_renew 17 = .ok (.iload_n 1, 1) := by decide +kernel
theorem dX9_renew_18 : decode cX9_renew 18 = .ok (.iconst 0, 1) := by decide +kernel
theorem dX9_renew_19 : decode cX9_renew 19 = .ok (.iastore, 1) := by decide +kernel
theorem dX9_renew_20 : decode cX9_renew 20 = .ok (.iinc 1 1, 3) := by decide +kernel
theorem dX9_renew_23 : decode cX9_renew 23 = .ok (.goto (-16), 3) := by decide +kernel
theorem dX9_renew_26 : decode cX9_renew 26 = .ok (.iconst 0, 1) := by decide +kernel
theorem dX9_renew_27 : decode cX9_renew 27 = .ok (.istore_n 1, 1) := by decide +kernel
theorem dX9_renew_28 : decode cX9_renew 28 = .ok (.iload_n 1, 1) := by decide +kernel
theorem dX9_renew_29 : decode cX9_renew 29 = .ok (.bipush 12, 2) := by decide +kernel
theorem dX9_renew_31 : decode cX9_renew 31 = .ok (.if_icmp .ge 56, 3) := by decide +kernel
theorem dX9_renew_34 : decode cX9_renew 34 = .ok (.aload_n 0, 1) := by decide +kernel
theorem dX9_renew_35 : decode cX9_renew 35 = .ok (.getfield 15, 3) := by decide +kernel
theorem dX9_renew_38 : decode cX9_renew 38 = .ok (.getfield 23, 3) := by decide +kernel
theorem dX9_renew_41 : decode cX9_renew 41 = .ok (.iload_n 1, 1) := by decide +kernel
theorem dX9_renew_42 : decode cX9_renew 42 = .ok (.invokestatic 28, 3) := by decide +kernel
theorem dX9_renew_45 : decode cX9_renew 45 = .ok (.ifCond .eq 36, 3) := by decide +kernel
theorem dX9_renew_48 : decode cX9_renew 48 = .ok (.aload_n 0, 1) := by decide +kernel
theorem dX9_renew_49 : decode cX9_renew 49 = .ok (.iload_n 1, 1) := by decide +kernel
theorem dX9_renew_50 : decode cX9_renew 50 = .ok (.invokevirtual 32, 3) := by decide +kernel
theorem dX9_renew_53 : decode cX9_renew 53 = .ok (.aload_n 0, 1) := by decide +kernel
theorem dX9_renew_54 : decode cX9_renew 54 = .ok (.dup, 1) := by decide +kernel
theorem dX9_renew_55 : decode cX9_renew 55 = .ok (.getfield 19, 3) := by decide +kernel
theorem dX9_renew_58 : decode cX9_renew 58 = .ok (.aload_n 0, 1) := by decide +kernel
theorem dX9_renew_59 : decode cX9_renew 59 = .ok (.getfield 15, 3) := by decide +kernel
theorem dX9_renew_62 : decode cX9_renew 62 = .ok (.getfield 36, 3) := by decide +kernel
theorem dX9_renew_65 : decode cX9_renew 65 = .ok (.iload_n 1, 1) := by decide +kernel
theorem dX9_renew_66 : decode cX9_renew 66 = .ok (.iaload, 1) := by decide +kernel
theorem dX9_renew_67 : decode cX9_renew 67 = .ok (.ifCond .le 9, 3) := by decide +kernel
theorem dX9_renew_70 : decode cX9_renew 70 = .ok (.iconst 1, 1) := by decide +kernel
theorem dX9_renew_71 : decode cX9_renew 71 = .ok (.iload_n 1, 1) := by decide +kernel
theorem dX9_renew_72 : decode cX9_renew 72 = .ok (.ishl, 1) := by decide +kernel
theorem dX9_renew_73 : decode cX9_renew 73 = .ok (.goto 4, 3) := by decide +kernel
theorem dX9_renew_76 : decode cX9_renew 76 = .ok (.iconst 0, 1) := by decide +kernel
theorem dX9_renew_77 : decode cX9_renew 77 = .ok (.ior, 1) := by decide +kernel
theorem dX9_renew_78 : decode cX9_renew 78 = .ok (.putfield 19, 3) := by decide +kernel
theorem dX9_renew_81 : decode cX9_renew 81 = .ok (.iinc 1 1, 3) := by decide +kernel
theorem dX9_renew_84 : decode cX9_renew 84 = .ok (.goto (-56), 3) := by decide +kernel
theorem dX9_renew_87 : decode cX9_renew 87 = .ok (.return_, 1) := by decide +kernel
theorem dX9_standOverAllBelow_0 : decode cX9_standOverAllBelow 0 = .ok (.iload_n 1, 1) := by decide +kernel
theorem dX9_standOverAllBelow_1 : decode cX9_standOverAllBelow 1 = .ok (.istore_n 2, 1) := by decide +kernel
theorem dX9_standOverAllBelow_2 : decode cX9_standOverAllBelow 2 = .ok (.iconst 0, 1) := by decide +kernel
theorem dX9_standOverAllBelow_3 : decode cX9_standOverAllBelow 3 = .ok (.istore_n 3, 1) := by decide +kernel
theorem dX9_standOverAllBelow_4 : decode cX9_standOverAllBelow 4 = .ok (.iload_n 3, 1) := by decide +kernel
theorem dX9_standOverAllBelow_5 : decode cX9_standOverAllBelow 5 = .ok (.bipush 12, 2) := by decide +kernel
theorem dX9_standOverAllBelow_7 : decode cX9_standOverAllBelow 7 = .ok (.if_icmp .ge 35, 3) := by decide +kernel
theorem dX9_standOverAllBelow_10 : decode cX9_standOverAllBelow 10 = .ok (.iload_n 2, 1) := by decide +kernel
theorem dX9_standOverAllBelow_11 : decode cX9_standOverAllBelow 11 = .ok (.ifCond .lt 31, 3) := by decide +kernel
theorem dX9_standOverAllBelow_14 : decode cX9_standOverAllBelow 14 = .ok (.aload_n 0, 1) := by decide +kernel
theorem dX9_standOverAllBelow_15 : decode cX9_standOverAllBelow 15 = .ok (.getfield 9, 3) := by decide +kernel
theorem dX9_standOverAllBelow_18 : decode cX9_standOverAllBelow 18 = .ok (.iload_n 2, 1) := by decide +kernel
theorem dX9_standOverAllBelow_19 : decode cX9_standOverAllBelow 19 = .ok (.dup2, 1) := by decide +kernel
theorem dX9_standOverAllBelow_20 : decode cX9_standOverAllBelow 20 = .ok (.iaload, 1) := by decide +kernel
theorem dX9_standOverAllBelow_21 : decode cX9_standOverAllBelow 21 = .ok (.iconst 1, 1) := by decide +kernel
theorem dX9_standOverAllBelow_22 : decode cX9_standOverAllBelow 22 = .ok (.iload_n 1, 1) := by decide +kernel
theorem dX9_standOverAllBelow_23 : decode cX9_standOverAllBelow 23 = .ok (.ishl, 1) := by decide +kernel
theorem dX9_standOverAllBelow_24 : decode cX9_standOverAllBelow 24 = .ok (.ior, 1) := by decide +kernel
theorem dX9_standOverAllBelow_25 : decode cX9_standOverAllBelow 25 = .ok (.iastore, 1) := by decide +kernel
theorem dX9_standOverAllBelow_26 : decode cX9_standOverAllBelow 26 = .ok (.aload_n 0, 1) := by decide +kernel
theorem dX9_standOverAllBelow_27 : decode cX9_standOverAllBelow 27 = .ok (.getfield 15, 3) := by decide +kernel
theorem dX9_standOverAllBelow_30 : decode cX9_standOverAllBelow 30 = .ok (.getfield 39, 3) := by decide +kernel
theorem dX9_standOverAllBelow_33 : decode cX9_standOverAllBelow 33 = .ok (.iload_n 2, 1) := by decide +kernel
theorem dX9_standOverAllBelow_34 : decode cX9_standOverAllBelow 34 = .ok (.iaload, 1) := by decide +kernel
theorem dX9_standOverAllBelow_35 : decode cX9_standOverAllBelow 35 = .ok (.istore_n 2, 1) := by decide +kernel
theorem dX9_standOverAllBelow_36 : decode cX9_standOverAllBelow 36 = .ok (.iinc 3 1, 3) := by decide +kernel
theorem dX9_standOverAllBelow_39 : decode cX9_standOverAllBelow 39 = .ok (.goto (-35), 3) := by decide +kernel
theorem dX9_standOverAllBelow_42 : decode cX9_standOverAllBelow 42 = .ok (.return_, 1) := by decide +kernel
theorem dX9_minutesBetween_0 : decode cX9_minutesBetween 0 = .ok (.iconst 0, 1) := by decide +kernel
theorem dX9_minutesBetween_1 : decode cX9_minutesBetween 1 = .ok (.istore_n 3, 1) := by decide +kernel
theorem dX9_minutesBetween_2 : decode cX9_minutesBetween 2 = .ok (.iload_n 1, 1) := by decide +kernel
theorem dX9_minutesBetween_3 : decode cX9_minutesBetween 3 = .ok (.istore 4, 2) := by decide +kernel
theorem dX9_minutesBetween_5 : decode cX9_minutesBetween 5 = .ok (.iload_n 2, 1) := by decide +kernel
theorem dX9_minutesBetween_6 : decode cX9_minutesBetween 6 = .ok (.istore 5, 2) := by decide +kernel
theorem dX9_minutesBetween_8 : decode cX9_minutesBetween 8 = .ok (.iconst 0, 1) := by decide +kernel
theorem dX9_minutesBetween_9 : decode cX9_minutesBetween 9 = .ok (.istore 6, 2) := by decide +kernel
theorem dX9_minutesBetween_11 : decode cX9_minutesBetween 11 = .ok (.iload 6, 2) := by decide +kernel
theorem dX9_minutesBetween_13 : decode cX9_minutesBetween 13 = .ok (.bipush 24, 2) := by decide +kernel
theorem dX9_minutesBetween_15 : decode cX9_minutesBetween 15 = .ok (.if_icmp .ge 76, 3) := by decide +kernel
theorem dX9_minutesBetween_18 : decode cX9_minutesBetween 18 = .ok (.iload 4, 2) := by decide +kernel
theorem dX9_minutesBetween_20 : decode cX9_minutesBetween 20 = .ok (.iload 5, 2) := by decide +kernel
theorem dX9_minutesBetween_22 : decode cX9_minutesBetween 22 = .ok (.if_icmp .eq 69, 3) := by decide +kernel
theorem dX9_minutesBetween_25 : decode cX9_minutesBetween 25 = .ok (.iload 4, 2) := by decide +kernel
theorem dX9_minutesBetween_27 : decode cX9_minutesBetween 27 = .ok (.iload 5, 2) := by decide +kernel
theorem dX9_minutesBetween_29 : decode cX9_minutesBetween 29 = .ok (.if_icmp .le 31, 3) := by decide +kernel
theorem dX9_minutesBetween_32 : decode cX9_minutesBetween 32 = .ok (.iload_n 3, 1) := by decide +kernel
theorem dX9_minutesBetween_33 : decode cX9_minutesBetween 33 = .ok (.aload_n 0, 1) := by decide +kernel
theorem dX9_minutesBetween_34 : decode cX9_minutesBetween 34 = .ok (.getfield 15, 3) := by decide +kernel
theorem dX9_minutesBetween_37 : decode cX9_minutesBetween 37 = .ok (.getfield 42, 3) := by decide +kernel
theorem dX9_minutesBetween_40 : decode cX9_minutesBetween 40 = .ok (.iload 4, 2) := by decide +kernel
theorem dX9_minutesBetween_42 : decode cX9_minutesBetween 42 = .ok (.iaload, 1) := by decide +kernel
theorem dX9_minutesBetween_43 : decode cX9_minutesBetween 43 = .ok (.iadd, 1) := by decide +kernel
theorem dX9_minutesBetween_44 : decode cX9_minutesBetween 44 = .ok (.istore_n 3, 1) := by decide +kernel
theorem dX9_minutesBetween_45 : decode cX9_minutesBetween 45 = .ok (.aload_n 0, 1) := by decide +kernel
theorem dX9_minutesBetween_46 : decode cX9_minutesBetween 46 = .ok (.getfield 15, 3) := by decide +kernel
theorem dX9_minutesBetween_49 : decode cX9_minutesBetween 49 = .ok (.getfield 39, 3) := by decide +kernel
theorem dX9_minutesBetween_52 : decode cX9_minutesBetween 52 = .ok (.iload 4, 2) := by decide +kernel
theorem dX9_minutesBetween_54 : decode cX9_minutesBetween 54 = .ok (.iaload, 1) := by decide +kernel
theorem dX9_minutesBetween_55 : decode cX9_minutesBetween 55 = .ok (.istore 4, 2) := by decide +kernel
theorem dX9_minutesBetween_57 : decode cX9_minutesBetween 57 = .ok (.goto 28, 3) := by decide +kernel
theorem dX9_minutesBetween_60 : decode cX9_minutesBetween 60 = .ok (.iload_n 3, 1) := by decide +kernel
theorem dX9_minutesBetween_61 : decode cX9_minutesBetween 61 = .ok (.aload_n 0, 1) := by decide +kernel
theorem dX9_minutesBetween_62 : decode cX9_minutesBetween 62 = .ok (.getfield 15, 3) := by decide +kernel
theorem dX9_minutesBetween_65 : decode cX9_minutesBetween 65 = .ok (.getfield 42, 3) := by decide +kernel
theorem dX9_minutesBetween_68 : decode cX9_minutesBetween 68 = .ok (.iload 5, 2) := by decide +kernel
theorem dX9_minutesBetween_70 : decode cX9_minutesBetween 70 = .ok (.iaload, 1) := by decide +kernel
theorem dX9_minutesBetween_71 : decode cX9_minutesBetween 71 = .ok (.iadd, 1) := by decide +kernel
theorem dX9_minutesBetween_72 : decode cX9_minutesBetween 72 = .ok (.istore_n 3, 1) := by decide +kernel
theorem dX9_minutesBetween_73 : decode cX9_minutesBetween 73 = .ok (.aload_n 0, 1) := by decide +kernel
theorem dX9_minutesBetween_74 : decode cX9_minutesBetween 74 = .ok (.getfield 15, 3) := by decide +kernel
theorem dX9_minutesBetween_77 : decode cX9_minutesBetween 77 = .ok (.getfield 39, 3) := by decide +kernel
theorem dX9_minutesBetween_80 : decode cX9_minutesBetween 80 = .ok (.iload 5, 2) := by decide +kernel
theorem dX9_minutesBetween_82 : decode cX9_minutesBetween 82 = .ok (.iaload, 1) := by decide +kernel
theorem dX9_minutesBetween_83 : decode cX9_minutesBetween 83 = .ok (.istore 5, 2) := by decide +kernel
theorem dX9_minutesBetween_85 : decode cX9_minutesBetween 85 = .ok (.iinc 6 1, 3) := by decide +kernel
theorem dX9_minutesBetween_88 : decode cX9_minutesBetween 88 = .ok (.goto (-77), 3) := by decide +kernel
theorem dX9_minutesBetween_91 : decode cX9_minutesBetween 91 = .ok (.iload_n 3, 1) := by decide +kernel
theorem dX9_minutesBetween_92 : decode cX9_minutesBetween 92 = .ok (.ireturn, 1) := by decide +kernel
theorem dX9_likelyOf_0 : decode cX9_likelyOf 0 = .ok (.iconst 0, 1) := by decide +kernel
theorem dX9_likelyOf_1 : decode cX9_likelyOf 1 = .ok (.istore_n 2, 1) := by decide +kernel
theorem dX9_likelyOf_2 : decode cX9_likelyOf 2 = .ok (.iconst 0, 1) := by decide +kernel
theorem dX9_likelyOf_3 : decode cX9_likelyOf 3 = .ok (.istore_n 3, 1) := by decide +kernel
theorem dX9_likelyOf_4 : decode cX9_likelyOf 4 = .ok (.iload_n 3, 1) := by decide +kernel
theorem dX9_likelyOf_5 : decode cX9_likelyOf 5 = .ok (.bipush 12, 2) := by decide +kernel
theorem dX9_likelyOf_7 : decode cX9_likelyOf 7 = .ok (.if_icmp .ge 33, 3) := by decide +kernel
theorem dX9_likelyOf_10 : decode cX9_likelyOf 10 = .ok (.iload_n 2, 1) := by decide +kernel
theorem dX9_likelyOf_11 : decode cX9_likelyOf 11 = .ok (.iload_n 1, 1) := by decide +kernel
theorem dX9_likelyOf_12 : decode cX9_likelyOf 12 = .ok (.iload_n 3, 1) := by decide +kernel
theorem dX9_likelyOf_13 : decode cX9_likelyOf 13 = .ok (.invokestatic 28, 3) := by decide +kernel
theorem dX9_likelyOf_16 : decode cX9_likelyOf 16 = .ok (.ifCond .eq 15, 3) := by decide +kernel
theorem dX9_likelyOf_19 : decode cX9_likelyOf 19 = .ok (.aload_n 0, 1) := by decide +kernel
theorem dX9_likelyOf_20 : decode cX9_likelyOf 20 = .ok (.getfield 15, 3) := by decide +kernel
theorem dX9_likelyOf_23 : decode cX9_likelyOf 23 = .ok (.getfield 36, 3) := by decide +kernel
theorem dX9_likelyOf_26 : decode cX9_likelyOf 26 = .ok (.iload_n 3, 1) := by decide +kernel
theorem dX9_likelyOf_27 : decode cX9_likelyOf 27 = .ok (.iaload, 1) := by decide +kernel
theorem dX9_likelyOf_28 : decode cX9_likelyOf 28 = .ok (.goto 4, 3) := by decide +kernel
theorem dX9_likelyOf_31 : decode cX9_likelyOf 31 = .ok (.iconst 0, 1) := by decide +kernel
theorem dX9_likelyOf_32 : decode cX9_likelyOf 32 = .ok (.iadd, 1) := by decide +kernel
theorem dX9_likelyOf_33 : decode cX9_likelyOf 33 = .ok (.istore_n 2, 1) := by decide +kernel
theorem dX9_likelyOf_34 : decode cX9_likelyOf 34 = .ok (.iinc 3 1, 3) := by decide +kernel
theorem dX9_likelyOf_37 : decode cX9_likelyOf 37 = .ok (.goto (-33), 3) := by decide +kernel
theorem dX9_likelyOf_40 : decode cX9_likelyOf 40 = .ok (.iload_n 2, 1) := by decide +kernel
theorem dX9_likelyOf_41 : decode cX9_likelyOf 41 = .ok (.ireturn, 1) := by decide +kernel
theorem dX9_allPaces_0 : decode cX9_allPaces 0 = .ok (.iconst 0, 1) := by decide +kernel
theorem dX9_allPaces_1 : decode cX9_allPaces 1 = .ok (.istore_n 1, 1) := by decide +kernel
theorem dX9_allPaces_2 : decode cX9_allPaces 2 = .ok (.iconst 0, 1) := by decide +kernel
theorem dX9_allPaces_3 : decode cX9_allPaces 3 = .ok (.istore_n 2, 1) := by decide +kernel
theorem dX9_allPaces_4 : decode cX9_allPaces 4 = .ok (.iload_n 2, 1) := by decide +kernel
theorem dX9_allPaces_5 : decode cX9_allPaces 5 = .ok (.bipush 12, 2) := by decide +kernel
theorem dX9_allPaces_7 : decode cX9_allPaces 7 = .ok (.if_icmp .ge 39, 3) := by decide +kernel
theorem dX9_allPaces_10 : decode cX9_allPaces 10 = .ok (.iload_n 1, 1) := by decide +kernel
theorem dX9_allPaces_11 : decode cX9_allPaces 11 = .ok (.aload_n 0, 1) := by decide +kernel
theorem dX9_allPaces_12 : decode cX9_allPaces 12 = .ok (.getfield 15, 3) := by decide +kernel
theorem dX9_allPaces_15 : decode cX9_allPaces 15 = .ok (.getfield 23, 3) := by decide +kernel
theorem dX9_allPaces_18 : decode cX9_allPaces 18 = .ok (.iload_n 2, 1) := by decide +kernel
theorem dX9_allPaces_19 : decode cX9_allPaces 19 = .ok (.invokestatic 28, 3) := by decide +kernel
theorem dX9_allPaces_22 : decode cX9_allPaces 22 = .ok (.ifCond .eq 15, 3) := by decide +kernel
theorem dX9_allPaces_25 : decode cX9_allPaces 25 = .ok (.aload_n 0, 1) := by decide +kernel
theorem dX9_allPaces_26 : decode cX9_allPaces 26 = .ok (.getfield 15, 3) := by decide +kernel
theorem dX9_allPaces_29 : decode cX9_allPaces 29 = .ok (.getfield 42, 3) := by decide +kernel
theorem dX9_allPaces_32 : decode cX9_allPaces 32 = .ok (.iload_n 2, 1) := by decide +kernel
theorem dX9_allPaces_33 : decode cX9_allPaces 33 = .ok (.iaload, 1) := by decide +kernel
theorem dX9_allPaces_34 : decode cX9_allPaces 34 = .ok (.goto 4, 3) := by decide +kernel
theorem dX9_allPaces_37 : decode cX9_allPaces 37 = .ok (.iconst 0, 1) := by decide +kernel
theorem dX9_allPaces_38 : decode cX9_allPaces 38 = .ok (.iadd, 1) := by decide +kernel
theorem dX9_allPaces_39 : decode cX9_allPaces 39 = .ok (.istore_n 1, 1) := by decide +kernel
theorem dX9_allPaces_40 : decode cX9_allPaces 40 = .ok (.iinc 2 1, 3) := by decide +kernel
theorem dX9_allPaces_43 : decode cX9_allPaces 43 = .ok (.goto (-39), 3) := by decide +kernel
theorem dX9_allPaces_46 : decode cX9_allPaces 46 = .ok (.iload_n 1, 1) := by decide +kernel
theorem dX9_allPaces_47 : decode cX9_allPaces 47 = .ok (.ireturn, 1) := by decide +kernel
theorem dX10_init_0 : decode cX10_init 0 = .ok (.aload_n 0, 1) := by decide +kernel
theorem dX10_init_1 : decode cX10_init 1 = .ok (.invokespecial 1, 3) := by decide +kernel
theorem dX10_init_4 : decode cX10_init 4 = .ok (.aload_n 0, 1) := by decide +kernel
theorem dX10_init_5 : decode cX10_init 5 = .ok (.new 7, 3) := by decide +kernel
theorem dX10_init_8 : decode cX10_init 8 = .ok (.dup, 1) := by decide +kernel
theorem dX10_init_9 : decode cX10_init 9 = .ok (.invokespecial 9, 3) := by decide +kernel
theorem dX10_init_12 : decode cX10_init 12 = .ok (.putfield 10, 3) := by decide +kernel
theorem dX10_init_15 : decode cX10_init 15 = .ok (.aload_n 0, 1) := by decide +kernel
theorem dX10_init_16 : decode cX10_init 16 = .ok (.new 16, 3) := by decide +kernel
theorem dX10_init_19 : decode cX10_init 19 = .ok (.dup, 1) := by decide +kernel
theorem dX10_init_20 : decode cX10_init 20 = .ok (.invokespecial 18, 3) := by decide +kernel
theorem dX10_init_23 : decode cX10_init 23 = .ok (.putfield 19, 3) := by decide +kernel
theorem dX10_init_26 : decode cX10_init 26 = .ok (.aload_n 0, 1) := by decide +kernel
theorem dX10_init_27 : decode cX10_init 27 = .ok (.new 23, 3) := by decide +kernel
theorem dX10_init_30 : decode cX10_init 30 = .ok (.dup, 1) := by decide +kernel
theorem dX10_init_31 : decode cX10_init 31 = .ok (.aload_n 0, 1) := by decide +kernel
theorem dX10_init_32 : decode cX10_init 32 = .ok (.getfield 19, 3) := by decide +kernel
theorem dX10_init_35 : decode cX10_init 35 = .ok (.invokespecial 25, 3) := by decide +kernel
theorem dX10_init_38 : decode cX10_init 38 = .ok (.putfield 28, 3) := by decide +kernel
theorem dX10_init_41 : decode cX10_init 41 = .ok (.aload_n 0, 1) := by decide +kernel
theorem dX10_init_42 : decode cX10_init 42 = .ok (.new 32, 3) := by decide +kernel
theorem dX10_init_45 : decode cX10_init 45 = .ok (.dup, 1) := by decide +kernel
theorem dX10_init_46 : decode cX10_init 46 = .ok (.aload_n 0, 1) := by decide +kernel
theorem dX10_init_47 : decode cX10_init 47 = .ok (.getfield 19, 3) := by decide +kernel
theorem dX10_init_50 : decode cX10_init 50 = .ok (.aload_n 0, 1) := by decide +kernel
theorem dX10_init_51 : decode cX10_init 51 = .ok (.getfield 28, 3) := by decide +kernel
theorem dX10_init_54 : decode cX10_init 54 = .ok (.invokespecial 34, 3) := by decide +kernel
theorem dX10_init_57 : decode cX10_init 57 = .ok (.putfield 37, 3) := by decide +kernel
theorem dX10_init_60 : decode cX10_init 60 = .ok (.aload_n 0, 1) := by decide +kernel
theorem dX10_init_61 : decode cX10_init 61 = .ok (.new 41, 3) := by decide +kernel
theorem dX10_init_64 : decode cX10_init 64 = .ok (.dup, 1) := by decide +kernel
theorem dX10_init_65 : decode cX10_init 65 = .ok (.aload_n 0, 1) := by decide +kernel
theorem dX10_init_66 : decode cX10_init 66 = .ok (.getfield 19, 3) := by decide +kernel
theorem dX10_init_69 : decode cX10_init 69 = .ok (.aload_n 0, 1) := by decide +kernel
theorem dX10_init_70 : decode cX10_init 70 = .ok (.getfield 28, 3) := by decide +kernel
theorem dX10_init_73 : decode cX10_init 73 = .ok (.aload_n 0, 1) := by decide +kernel
theorem dX10_init_74 : decode cX10_init 74 = .ok (.getfield 37, 3) := by decide +kernel
theorem dX10_init_77 : decode cX10_init 77 = .ok (.invokespecial 43, 3) := by decide +kernel
theorem dX10_init_80 : decode cX10_init 80 = .ok (.putfield 46, 3) := by decide +kernel
theorem dX10_init_83 : decode cX10_init 83 = .ok (.aload_n 0, 1) := by decide +kernel
theorem dX10_init_84 : decode cX10_init 84 = .ok (.new 50, 3) := by decide +kernel
theorem dX10_init_87 : decode cX10_init 87 = .ok (.dup, 1) := by decide +kernel
theorem dX10_init_88 : decode cX10_init 88 = .ok (.aload_n 0, 1) := by decide +kernel
theorem dX10_init_89 : decode cX10_init 89 = .ok (.getfield 19, 3) := by decide +kernel
theorem dX10_init_92 : decode cX10_init 92 = .ok (.aload_n 0, 1) := by decide +kernel
theorem dX10_init_93 : decode cX10_init 93 = .ok (.getfield 28, 3) := by decide +kernel
theorem dX10_init_96 : decode cX10_init 96 = .ok (.invokespecial 52, 3) := by decide +kernel
theorem dX10_init_99 : decode cX10_init 99 = .ok (.putfield 53, 3) := by decide +kernel
theorem dX10_init_102 : decode cX10_init 102 = .ok (.aload_n 0, 1) := by decide +kernel
theorem dX10_init_103 : decode cX10_init 103 = .ok (.new 57, 3) := by decide +kernel
theorem dX10_init_106 : decode cX10_init 106 = .ok (.dup, 1) := by decide +kernel
theorem dX10_init_107 : decode cX10_init 107 = .ok (.aload_n 0, 1) := by decide +kernel
theorem dX10_init_108 : decode cX10_init 108 = .ok (.getfield 19, 3) := by decide +kernel
theorem dX10_init_111 : decode cX10_init 111 = .ok (.aload_n 0, 1) := by decide +kernel
theorem dX10_init_112 : decode cX10_init 112 = .ok (.getfield 28, 3) := by decide +kernel
theorem dX10_init_115 : decode cX10_init 115 = .ok (.invokespecial 59, 3) := by decide +kernel
theorem dX10_init_118 : decode cX10_init 118 = .ok (.putfield 60, 3) := by decide +kernel
theorem dX10_init_121 : decode cX10_init 121 = .ok (.aload_n 0, 1) := by decide +kernel
theorem dX10_init_122 : decode cX10_init 122 = .ok (.new 64, 3) := by decide +kernel
theorem dX10_init_125 : decode cX10_init 125 = .ok (.dup, 1) := by decide +kernel
theorem dX10_init_126 : decode cX10_init 126 = .ok (.aload_n 0, 1) := by decide +kernel
theorem dX10_init_127 : decode cX10_init 127 = .ok (.getfield 19, 3) := by decide +kernel
theorem dX10_init_130 : decode cX10_init 130 = .ok (.aload_n 0, 1) := by decide +kernel
theorem dX10_init_131 : decode cX10_init 131 = .ok (.getfield 28, 3) := by decide +kernel
theorem dX10_init_134 : decode cX10_init 134 = .ok (.aload_n 0, 1) := by decide +kernel
theorem dX10_init_135 : decode cX10_init 135 = .ok (.getfield 53, 3) := by decide +kernel
theorem dX10_init_138 : decode cX10_init 138 = .ok (.invokespecial 66, 3) := by decide +kernel
theorem dX10_init_141 : decode cX10_init 141 = .ok (.putfield 69, 3) := by decide +kernel
theorem dX10_init_144 : decode cX10_init 144 = .ok (.aload_n 0, 1) := by decide +kernel
theorem dX10_init_145 : decode cX10_init 145 = .ok (.new 73, 3) := by decide +kernel
theorem dX10_init_148 : decode cX10_init 148 = .ok (.dup, 1) := by decide +kernel
theorem dX10_init_149 : decode cX10_init 149 = .ok (.invokespecial 75, 3) := by decide +kernel
theorem dX10_init_152 : decode cX10_init 152 = .ok (.putfield 76, 3) := by decide +kernel
theorem dX10_init_155 : decode cX10_init 155 = .ok (.aload_n 0, 1) := by decide +kernel
theorem dX10_init_156 : decode cX10_init 156 = .ok (.invokevirtual 80, 3) := by decide +kernel
theorem dX10_init_159 : decode cX10_init 159 = .ok (.return_, 1) := by decide +kernel
theorem dX10_write_0 : decode cX10_write 0 = .ok (.iload_n 3, 1) := by decide +kernel
theorem dX10_write_1 : decode cX10_write 1 = .ok (.iconst 1, 1) := by decide +kernel
theorem dX10_write_2 : decode cX10_write 2 = .ok (.if_icmp .lt 9, 3) := by decide +kernel
theorem dX10_write_5 : decode cX10_write 5 = .ok (.iload_n 3, 1) := by decide +kernel
theorem dX10_write_6 : decode cX10_write 6 = .ok (.bipush 8, 2) := by decide +kernel
theorem dX10_write_8 : decode cX10_write 8 = .ok (.if_icmp .le 6, 3) := by decide +kernel
theorem dX10_write_11 : decode cX10_write 11 = .ok (.bipush (-3), 2) := by decide +kernel
theorem dX10_write_13 : decode cX10_write 13 = .ok (.ireturn, 1) := by decide +kernel
theorem dX10_write_14 : decode cX10_write 14 = .ok (.aload_n 0, 1) := by decide +kernel
theorem dX10_write_15 : decode cX10_write 15 = .ok (.getfield 10, 3) := by decide +kernel
theorem dX10_write_18 : decode cX10_write 18 = .ok (.getfield 83, 3) := by decide +kernel
theorem dX10_write_21 : decode cX10_write 21 = .ok (.iload_n 3, 1) := by decide +kernel
theorem dX10_write_22 : decode cX10_write 22 = .ok (.iadd, 1) := by decide +kernel
theorem dX10_write_23 : decode cX10_write 23 = .ok (.sipush 200, 3) := by decide +kernel
theorem dX10_write_26 : decode cX10_write 26 = .ok (.if_icmp .le 6, 3) := by decide +kernel
theorem dX10_write_29 : decode cX10_write 29 = .ok (.bipush (-5), 2) := by decide +kernel
theorem dX10_write_31 : decode cX10_write 31 = .ok (.ireturn, 1) := by decide +kernel
theorem dX10_write_32 : decode cX10_write 32 = .ok (.aload_n 0, 1) := by decide +kernel
theorem dX10_write_33 : decode cX10_write 33 = .ok (.getfield 10, 3) := by decide +kernel
theorem dX10_write_36 : decode cX10_write 36 = .ok (.lload_n 1, 1) := by decide +kernel
theorem dX10_write_37 : decode cX10_write 37 = .ok (.iload_n 3, 1) := by decide +kernel
theorem dX10_write_38 : decode cX10_write 38 = .ok (.invokevirtual 87, 3) := by decide +kernel
theorem dX10_write_41 : decode cX10_write 41 = .ok (.ireturn, 1) := by decide +kernel
theorem dX10_erase_0 : decode cX10_erase 0 = .ok (.aload_n 0, 1) := by decide +kernel
theorem dX10_erase_1 : decode cX10_erase 1 = .ok (.getfield 10, 3) := by decide +kernel
theorem dX10_erase_4 : decode cX10_erase 4 = .ok (.invokevirtual 91, 3) := by decide +kernel
theorem dX10_erase_7 : decode cX10_erase 7 = .ok (.ireturn, 1) := by decide +kernel
theorem dX10_fault_0 : decode cX10_fault 0 = .ok (.aload_n 0, 1) := by decide +kernel
theorem dX10_fault_1 : decode cX10_fault 1 = .ok (.getfield 10, 3) := by decide +kernel
theorem dX10_fault_4 : decode cX10_fault 4 = .ok (.invokevirtual 95, 3) := by decide +kernel
theorem dX10_fault_7 : decode cX10_fault 7 = .ok (.ireturn, 1) := by decide +kernel
theorem dX10_town_0 : decode cX10_town 0 = .ok (.aload_n 0, 1) := by decide +kernel
theorem dX10_town_1 : decode cX10_town 1 = .ok (.getfield 10, 3) := by decide +kernel
theorem dX10_town_4 : decode cX10_town 4 = .ok (.invokevirtual 95, 3) := by decide +kernel
theorem dX10_town_7 : decode cX10_town 7 = .ok (.iconst (-1), 1) := by decide +kernel
theorem dX10_town_8 : decode cX10_town 8 = .ok (.if_icmp .eq 6, 3) := by decide +kernel
theorem dX10_town_11 : decode cX10_town 11 = .ok (.bipush (-4), 2) := by decide +kernel
theorem dX10_town_13 : decode cX10_town 13 = .ok (.ireturn, 1) := by decide +kernel
theorem dX10_town_14 : decode cX10_town 14 = .ok (.aload_n 0, 1) := by decide +kernel
theorem dX10_town_15 : decode cX10_town 15 = .ok (.getfield 10, 3) := by decide +kernel
theorem dX10_town_18 : decode cX10_town 18 = .ok (.getfield 98, 3) := by decide +kernel
theorem dX10_town_21 : decode cX10_town 21 = .ok (.istore_n 1, 1) := by decide +kernel
theorem dX10_town_22 : decode cX10_town 22 = .ok (.iconst 0, 1) := by decide +kernel
theorem dX10_town_23 : decode cX10_town 23 = .ok (.istore_n 2, 1) := by decide +kernel
theorem dX10_town_24 : decode cX10_town 24 = .ok (.iload_n 2, 1) := by decide +kernel
theorem dX10_town_25 : decode cX10_town 25 = .ok (.iload_n 1, 1) := by decide +kernel
theorem dX10_town_26 : decode cX10_town 26 = .ok (.if_icmp .ge 35, 3) := by decide +kernel
theorem dX10_town_29 : decode cX10_town 29 = .ok (.aload_n 0, 1) := by decide +kernel
theorem dX10_town_30 : decode cX10_town 30 = .ok (.getfield 19, 3) := by decide +kernel
theorem dX10_town_33 : decode cX10_town 33 = .ok (.aload_n 0, 1) := by decide +kernel
theorem dX10_town_34 : decode cX10_town 34 = .ok (.getfield 10, 3) := by decide +kernel
theorem dX10_town_37 : decode cX10_town 37 = .ok (.getfield 101, 3) := by decide +kernel
theorem dX10_town_40 : decode cX10_town 40 = .ok (.iload_n 2, 1) := by decide +kernel
theorem dX10_town_41 : decode cX10_town 41 = .ok (.iaload, 1) := by decide +kernel
theorem dX10_town_42 : decode cX10_town 42 = .ok (.aload_n 0, 1) := by decide +kernel
theorem dX10_town_43 : decode cX10_town 43 = .ok (.getfield 10, 3) := by decide +kernel
theorem dX10_town_46 : decode cX10_town 46 = .ok (.getfield 105, 3) := by decide +kernel
theorem dX10_town_49 : decode cX10_town 49 = .ok (.iload_n 2, 1) := by decide +kernel
theorem dX10_town_50 : decode cX10_town 50 = .ok (.iconst 5, 1) := by decide +kernel
theorem dX10_town_51 : decode cX10_town 51 = .ok (.imul, 1) := by decide +kernel
theorem dX10_town_52 : decode cX10_town 52 = .ok (.invokevirtual 108, 3) := by decide +kernel
theorem dX10_town_55 : decode cX10_town 55 = .ok (.iinc 2 1, 3) := by decide +kernel
theorem dX10_town_58 : decode cX10_town 58 = .ok (.goto (-34), 3) := by decide +kernel
theorem dX10_town_61 : decode cX10_town 61 = .ok (.aload_n 0, 1) := by decide +kernel
theorem dX10_town_62 : decode cX10_town 62 = .ok (.getfield 10, 3) := by decide +kernel
theorem dX10_town_65 : decode cX10_town 65 = .ok (.invokevirtual 91, 3) := by decide +kernel
theorem dX10_town_68 : decode cX10_town 68 = .ok (.pop, 1) := by decide +kernel
theorem dX10_town_69 : decode cX10_town 69 = .ok (.aload_n 0, 1) := by decide +kernel
theorem dX10_town_70 : decode cX10_town 70 = .ok (.invokevirtual 80, 3) := by decide +kernel
theorem dX10_town_73 : decode cX10_town 73 = .ok (.iload_n 1, 1) := by decide +kernel
theorem dX10_town_74 : decode cX10_town 74 = .ok (.ireturn, 1) := by decide +kernel
theorem dX10_of_0 : decode cX10_of 0 = .ok (.aload_n 0, 1) := by decide +kernel
theorem dX10_of_1 : decode cX10_of 1 = .ok (.iload_n 1, 1) := by decide +kernel
theorem dX10_of_2 : decode cX10_of 2 = .ok (.invokevirtual 112, 3) := by decide +kernel
theorem dX10_of_5 : decode cX10_of 5 = .ok (.ifCond .ne 6, 3) := by decide +kernel
theorem dX10_of_8 : decode cX10_of 8 = .ok (.bipush (-2), 2) := by decide +kernel
theorem dX10_of_10 : decode cX10_of 10 = .ok (.ireturn, 1) := by decide +kernel
theorem dX10_of_11 : decode cX10_of 11 = .ok (.iload_n 2, 1) := by decide +kernel
theorem dX10_of_12 : decode cX10_of 12 = .ok (.tableswitch 142 0 8 #[52, 62, 72, 82, 92, 102, 112, 122, 132], 52) := by decide +kernel
theorem dX10_of_64 : decode cX10_of 64 = .ok (.aload_n 0, 1) := by decide +kernel
theorem dX10_of_65 : decode cX10_of 65 = .ok (.getfield 19, 3) := by decide +kernel
theorem dX10_of_68 : decode cX10_of 68 = .ok (.getfield 116, 3) := by decide +kernel
theorem dX10_of_71 : decode cX10_of 71 = .ok (.iload_n 1, 1) := by decide +kernel
theorem dX10_of_72 : decode cX10_of 72 = .ok (.iaload, 1) := by decide +kernel
theorem dX10_of_73 : decode cX10_of 73 = .ok (.ireturn, 1) := by decide +kernel
theorem dX10_of_74 : decode cX10_of 74 = .ok (.aload_n 0, 1) := by decide +kernel
theorem dX10_of_75 : decode cX10_of 75 = .ok (.getfield 19, 3) := by decide +kernel
theorem dX10_of_78 : decode cX10_of 78 = .ok (.getfield 119, 3) := by decide +kernel
theorem dX10_of_81 : decode cX10_of 81 = .ok (.iload_n 1, 1) := by decide +kernel
theorem dX10_of_82 : decode cX10_of 82 = .ok (.iaload, 1) := by decide +kernel
theorem dX10_of_83 : decode cX10_of 83 = .ok (.ireturn, 1) := by decide +kernel
theorem dX10_of_84 : decode cX10_of 84 = .ok (.aload_n 0, 1) := by decide +kernel
theorem dX10_of_85 : decode cX10_of 85 = .ok (.getfield 19, 3) := by decide +kernel
theorem dX10_of_88 : decode cX10_of 88 = .ok (.getfield 122, 3) := by decide +kernel
theorem dX10_of_91 : decode cX10_of 91 = .ok (.iload_n 1, 1) := by decide +kernel
theorem dX10_of_92 : decode cX10_of 92 = .ok (.iaload, 1) := by decide +kernel
theorem dX10_of_93 : decode cX10_of 93 = .ok (.ireturn, 1) := by decide +kernel
theorem dX10_of_94 : decode cX10_of 94 = .ok (.aload_n 0, 1) := by decide +kernel
theorem dX10_of_95 : decode cX10_of 95 = .ok (.getfield 19, 3) := by decide +kernel
theorem dX10_of_98 : decode cX10_of 98 = .ok (.getfield 125, 3) := by decide +kernel
theorem dX10_of_101 : decode cX10_of 101 = .ok (.iload_n 1, 1) := by decide +kernel
theorem dX10_of_102 : decode cX10_of 102 = .ok (.iaload, 1) := by decide +kernel
theorem dX10_of_103 : decode cX10_of 103 = .ok (.ireturn, 1) := by decide +kernel
theorem dX10_of_104 : decode cX10_of 104 = .ok (.aload_n 0, 1) := by decide +kernel
theorem dX10_of_105 : decode cX10_of 105 = .ok (.getfield 19, 3) := by decide +kernel
theorem dX10_of_108 : decode cX10_of 108 = .ok (.getfield 128, 3) := by decide +kernel
theorem dX10_of_111 : decode cX10_of 111 = .ok (.iload_n 1, 1) := by decide +kernel
theorem dX10_of_112 : decode cX10_of 112 = .ok (.iaload, 1) := by decide +kernel
theorem dX10_of_113 : decode cX10_of 113 = .ok (.ireturn, 1) := by decide +kernel
theorem dX10_of_114 : decode cX10_of 114 = .ok (.aload_n 0, 1) := by decide +kernel
theorem dX10_of_115 : decode cX10_of 115 = .ok (.getfield 19, 3) := by decide +kernel
theorem dX10_of_118 : decode cX10_of 118 = .ok (.getfield 131, 3) := by decide +kernel
theorem dX10_of_121 : decode cX10_of 121 = .ok (.iload_n 1, 1) := by decide +kernel
theorem dX10_of_122 : decode cX10_of 122 = .ok (.iaload, 1) := by decide +kernel
theorem dX10_of_123 : decode cX10_of 123 = .ok (.ireturn, 1) := by decide +kernel
theorem dX10_of_124 : decode cX10_of 124 = .ok (.aload_n 0, 1) := by decide +kernel
theorem dX10_of_125 : decode cX10_of 125 = .ok (.getfield 19, 3) := by decide +kernel
theorem dX10_of_128 : decode cX10_of 128 = .ok (.getfield 134, 3) := by decide +kernel
theorem dX10_of_131 : decode cX10_of 131 = .ok (.iload_n 1, 1) := by decide +kernel
theorem dX10_of_132 : decode cX10_of 132 = .ok (.iaload, 1) := by decide +kernel
theorem dX10_of_133 : decode cX10_of 133 = .ok (.ireturn, 1) := by decide +kernel
theorem dX10_of_134 : decode cX10_of 134 = .ok (.aload_n 0, 1) := by decide +kernel
theorem dX10_of_135 : decode cX10_of 135 = .ok (.getfield 19, 3) := by decide +kernel
theorem dX10_of_138 : decode cX10_of 138 = .ok (.getfield 137, 3) := by decide +kernel
theorem dX10_of_141 : decode cX10_of 141 = .ok (.iload_n 1, 1) := by decide +kernel
theorem dX10_of_142 : decode cX10_of 142 = .ok (.iaload, 1) := by decide +kernel
theorem dX10_of_143 : decode cX10_of 143 = .ok (.ireturn, 1) := by decide +kernel
theorem dX10_of_144 : decode cX10_of 144 = .ok (.aload_n 0, 1) := by decide +kernel
theorem dX10_of_145 : decode cX10_of 145 = .ok (.getfield 19, 3) := by decide +kernel
theorem dX10_of_148 : decode cX10_of 148 = .ok (.getfield 140, 3) := by decide +kernel
theorem dX10_of_151 : decode cX10_of 151 = .ok (.iload_n 1, 1) := by decide +kernel
theorem dX10_of_152 : decode cX10_of 152 = .ok (.iaload, 1) := by decide +kernel
theorem dX10_of_153 : decode cX10_of 153 = .ok (.ireturn, 1) := by decide +kernel
theorem dX10_of_154 : decode cX10_of 154 = .ok (.bipush (-3), 2) := by decide +kernel
theorem dX10_of_156 : decode cX10_of 156 = .ok (.ireturn, 1) := by decide +kernel
theorem dX10_cup_0 : decode cX10_cup 0 = .ok (.iload_n 1, 1) := by decide +kernel
theorem dX10_cup_1 : decode cX10_cup 1 = .ok (.invokestatic 143, 3) := by decide +kernel
theorem dX10_cup_4 : decode cX10_cup 4 = .ok (.ifCond .ne 6, 3) := by decide +kernel
theorem dX10_cup_7 : decode cX10_cup 7 = .ok (.bipush (-2), 2) := by decide +kernel
theorem dX10_cup_9 : decode cX10_cup 9 = .ok (.ireturn, 1) := by decide +kernel
theorem dX10_cup_10 : decode cX10_cup 10 = .ok (.iload_n 2, 1) := by decide +kernel
theorem dX10_cup_11 : decode cX10_cup 11 = .ok (.tableswitch 55 0 2 #[25, 35, 45], 25) := by decide +kernel
theorem dX10_cup_36 : decode cX10_cup 36 = .ok (.aload_n 0, 1) := by decide +kernel
theorem dX10_cup_37 : decode cX10_cup 37 = .ok (.getfield 19, 3) := by decide +kernel
theorem dX10_cup_40 : decode cX10_cup 40 = .ok (.getfield 146, 3) := by decide +kernel
theorem dX10_cup_43 : decode cX10_cup 43 = .ok (.iload_n 1, 1) := by decide +kernel
theorem dX10_cup_44 : decode cX10_cup 44 = .ok (.iaload, 1) := by decide +kernel
theorem dX10_cup_45 : decode cX10_cup 45 = .ok (.ireturn, 1) := by decide +kernel
theorem dX10_cup_46 : decode cX10_cup 46 = .ok (.aload_n 0, 1) := by decide +kernel
theorem dX10_cup_47 : decode cX10_cup 47 = .ok (.getfield 19, 3) := by decide +kernel
theorem dX10_cup_50 : decode cX10_cup 50 = .ok (.getfield 149, 3) := by decide +kernel
theorem dX10_cup_53 : decode cX10_cup 53 = .ok (.iload_n 1, 1) := by decide +kernel
theorem dX10_cup_54 : decode cX10_cup 54 = .ok (.iaload, 1) := by decide +kernel
theorem dX10_cup_55 : decode cX10_cup 55 = .ok (.ireturn, 1) := by decide +kernel
theorem dX10_cup_56 : decode cX10_cup 56 = .ok (.aload_n 0, 1) := by decide +kernel
theorem dX10_cup_57 : decode cX10_cup 57 = .ok (.getfield 19, 3) := by decide +kernel
theorem dX10_cup_60 : decode cX10_cup 60 = .ok (.getfield 152, 3) := by decide +kernel
theorem dX10_cup_63 : decode cX10_cup 63 = .ok (.iload_n 1, 1) := by decide +kernel
theorem dX10_cup_64 : decode cX10_cup 64 = .ok (.iaload, 1) := by decide +kernel
theorem dX10_cup_65 : decode cX10_cup 65 = .ok (.ireturn, 1) := by decide +kernel
theorem dX10_cup_66 : decode cX10_cup 66 = .ok (.bipush (-3), 2) := by decide +kernel
theorem dX10_cup_68 : decode cX10_cup 68 = .ok (.ireturn, 1) := by decide +kernel
theorem dX10_above_0 : decode cX10_above 0 = .ok (.aload_n 0, 1) := by decide +kernel
theorem dX10_above_1 : decode cX10_above 1 = .ok (.iload_n 1, 1) := by decide +kernel
theorem dX10_above_2 : decode cX10_above 2 = .ok (.invokevirtual 112, 3) := by decide +kernel
theorem dX10_above_5 : decode cX10_above 5 = .ok (.ifCond .eq 15, 3) := by decide +kernel
theorem dX10_above_8 : decode cX10_above 8 = .ok (.aload_n 0, 1) := by decide +kernel
theorem dX10_above_9 : decode cX10_above 9 = .ok (.getfield 28, 3) := by decide +kernel
theorem dX10_above_12 : decode cX10_above 12 = .ok (.getfield 155, 3) := by decide +kernel
theorem dX10_above_15 : decode cX10_above 15 = .ok (.iload_n 1, 1) := by decide +kernel
theorem dX10_above_16 : decode cX10_above 16 = .ok (.iaload, 1) := by decide +kernel
theorem dX10_above_17 : decode cX10_above 17 = .ok (.goto 5, 3) := by decide +kernel
theorem dX10_above_20 : decode cX10_above 20 = .ok (.bipush (-2), 2) := by decide +kernel
theorem dX10_above_22 : decode cX10_above 22 = .ok (.ireturn, 1) := by decide +kernel
theorem dX10_walk_0 : decode cX10_walk 0 = .ok (.aload_n 0, 1) := by decide +kernel
theorem dX10_walk_1 : decode cX10_walk 1 = .ok (.iload_n 1, 1) := by decide +kernel
theorem dX10_walk_2 : decode cX10_walk 2 = .ok (.invokevirtual 112, 3) := by decide +kernel
theorem dX10_walk_5 : decode cX10_walk 5 = .ok (.ifCond .eq 23, 3) := by decide +kernel
theorem dX10_walk_8 : decode cX10_walk 8 = .ok (.aload_n 0, 1) := by decide +kernel
theorem dX10_walk_9 : decode cX10_walk 9 = .ok (.iload_n 2, 1) := by decide +kernel
theorem dX10_walk_10 : decode cX10_walk 10 = .ok (.invokevirtual 112, 3) := by decide +kernel
theorem dX10_walk_13 : decode cX10_walk 13 = .ok (.ifCond .eq 15, 3) := by decide +kernel
theorem dX10_walk_16 : decode cX10_walk 16 = .ok (.aload_n 0, 1) := by decide +kernel
theorem dX10_walk_17 : decode cX10_walk 17 = .ok (.getfield 28, 3) := by decide +kernel
theorem dX10_walk_20 : decode cX10_walk 20 = .ok (.iload_n 1, 1) := by decide +kernel
theorem dX10_walk_21 : decode cX10_walk 21 = .ok (.iload_n 2, 1) := by decide +kernel
theorem dX10_walk_22 : decode cX10_walk 22 = .ok (.invokevirtual 158, 3) := by decide +kernel
theorem dX10_walk_25 : decode cX10_walk 25 = .ok (.goto 5, 3) := by decide +kernel
theorem dX10_walk_28 : decode cX10_walk 28 = .ok (.bipush (-2), 2) := by decide +kernel
theorem dX10_walk_30 : decode cX10_walk 30 = .ok (.ireturn, 1) := by decide +kernel
theorem dX10_flow_0 : decode cX10_flow 0 = .ok (.aload_n 0, 1) := by decide +kernel
theorem dX10_flow_1 : decode cX10_flow 1 = .ok (.iload_n 1, 1) := by decide +kernel
theorem dX10_flow_2 : decode cX10_flow 2 = .ok (.invokevirtual 112, 3) := by decide +kernel
theorem dX10_flow_5 : decode cX10_flow 5 = .ok (.ifCond .ne 6, 3) := by decide +kernel
theorem dX10_flow_8 : decode cX10_flow 8 = .ok (.bipush (-2), 2) := by decide +kernel
theorem dX10_flow_10 : decode cX10_flow 10 = .ok (.ireturn, 1) := by decide +kernel
theorem dX10_flow_11 : decode cX10_flow 11 = .ok (.iload_n 2, 1) := by decide +kernel
theorem dX10_flow_12 : decode cX10_flow 12 = .ok (.ifCond .lt 9, 3) := by decide +kernel
theorem dX10_flow_15 : decode cX10_flow 15 = .ok (.iload_n 2, 1) := by decide +kernel
theorem dX10_flow_16 : decode cX10_flow 16 = .ok (.bipush 24, 2) := by decide +kernel
theorem dX10_flow_18 : decode cX10_flow 18 = .ok (.if_icmp .lt 6, 3) := by decide +kernel
theorem dX10_flow_21 : decode cX10_flow 21 = .ok (.bipush (-3), 2) := by decide +kernel
theorem dX10_flow_23 : decode cX10_flow 23 = .ok (.ireturn, 1) := by decide +kernel
theorem dX10_flow_24 : decode cX10_flow 24 = .ok (.aload_n 0, 1) := by decide +kernel
theorem dX10_flow_25 : decode cX10_flow 25 = .ok (.getfield 37, 3) := by decide +kernel
theorem dX10_flow_28 : decode cX10_flow 28 = .ok (.iload_n 1, 1) := by decide +kernel
theorem dX10_flow_29 : decode cX10_flow 29 = .ok (.iload_n 2, 1) := by decide +kernel
theorem dX10_flow_30 : decode cX10_flow 30 = .ok (.invokevirtual 162, 3) := by decide +kernel
theorem dX10_flow_33 : decode cX10_flow 33 = .ok (.ireturn, 1) := by decide +kernel
theorem dX10_comes_0 : decode cX10_comes 0 = .ok (.aload_n 0, 1) := by decide +kernel
theorem dX10_comes_1 : decode cX10_comes 1 = .ok (.iload_n 1, 1) := by decide +kernel
theorem dX10_comes_2 : decode cX10_comes 2 = .ok (.invokevirtual 112, 3) := by decide +kernel
theorem dX10_comes_5 : decode cX10_comes 5 = .ok (.ifCond .eq 11, 3) := by decide +kernel
theorem dX10_comes_8 : decode cX10_comes 8 = .ok (.aload_n 0, 1) := by decide +kernel
theorem dX10_comes_9 : decode cX10_comes 9 = .ok (.iload_n 2, 1) := by decide +kernel
theorem dX10_comes_10 : decode cX10_comes 10 = .ok (.invokevirtual 112, 3) := by decide +kernel
theorem dX10_comes_13 : decode cX10_comes 13 = .ok (.ifCond .ne 6, 3) := by decide +kernel
theorem dX10_comes_16 : decode cX10_comes 16 = .ok (.bipush (-2), 2) := by decide +kernel
theorem dX10_comes_18 : decode cX10_comes 18 = .ok (.ireturn, 1) := by decide +kernel
theorem dX10_comes_19 : decode cX10_comes 19 = .ok (.iload_n 3, 1) := by decide +kernel
theorem dX10_comes_20 : decode cX10_comes 20 = .ok (.invokestatic 165, 3) := by decide +kernel
theorem dX10_comes_23 : decode cX10_comes 23 = .ok (.ifCond .eq 11, 3) := by decide +kernel
theorem dX10_comes_26 : decode cX10_comes 26 = .ok (.iload 4, 2) := by decide +kernel
theorem dX10_comes_28 : decode cX10_comes 28 = .ok (.invokestatic 168, 3) := by decide +kernel
theorem dX10_comes_31 : decode cX10_comes 31 = .ok (.ifCond .ne 6, 3) := by decide +kernel
theorem dX10_comes_34 : decode cX10_comes 34 = .ok (.bipush (-3), 2) := by decide +kernel
theorem dX10_comes_36 : decode cX10_comes 36 = .ok (.ireturn, 1) := by decide +kernel
theorem dX10_comes_37 : decode cX10_comes 37 = .ok (.aload_n 0, 1) := by decide +kernel
theorem dX10_comes_38 : decode cX10_comes 38 = .ok (.getfield 37, 3) := by decide +kernel
theorem dX10_comes_41 : decode cX10_comes 41 = .ok (.getfield 171, 3) := by decide +kernel
theorem dX10_comes_44 : decode cX10_comes 44 = .ok (.iload_n 1, 1) := by decide +kernel
theorem dX10_comes_45 : decode cX10_comes 45 = .ok (.aaload, 1) := by decide +kernel
theorem dX10_comes_46 : decode cX10_comes 46 = .ok (.astore 5, 2) := by decide +kernel
theorem dX10_comes_48 : decode cX10_comes 48 = .ok (.iload 4, 2) := by decide +kernel
theorem dX10_comes_50 : decode cX10_comes 50 = .ok (.ifCond .ne 13, 3) := by decide +kernel
theorem dX10_comes_53 : decode cX10_comes 53 = .ok (.aload 5, 2) := by decide +kernel
theorem dX10_comes_55 : decode cX10_comes 55 = .ok (.iload_n 2, 1) := by decide +kernel
theorem dX10_comes_56 : decode cX10_comes 56 = .ok (.iload_n 3, 1) := by decide +kernel
theorem dX10_comes_57 : decode cX10_comes 57 = .ok (.invokevirtual 175, 3) := by decide +kernel
theorem dX10_comes_60 : decode cX10_comes 60 = .ok (.goto 15, 3) := by decide +kernel
theorem dX10_comes_63 : decode cX10_comes 63 = .ok (.aload_n 0, 1) := by decide +kernel
theorem dX10_comes_64 : decode cX10_comes 64 = .ok (.getfield 37, 3) := by decide +kernel
theorem dX10_comes_67 : decode cX10_comes 67 = .ok (.iload_n 2, 1) := by decide +kernel
theorem dX10_comes_68 : decode cX10_comes 68 = .ok (.iload_n 3, 1) := by decide +kernel
theorem dX10_comes_69 : decode cX10_comes 69 = .ok (.aload 5, 2) := by decide +kernel
theorem dX10_comes_71 : decode cX10_comes 71 = .ok (.aconst_null, 1) := by decide +kernel
theorem dX10_comes_72 : decode cX10_comes 72 = .ok (.invokevirtual 180, 3) := by decide +kernel
theorem dX10_comes_75 : decode cX10_comes 75 = .ok (.ireturn, 1) := by decide +kernel
theorem dX10_should_0 : decode cX10_should 0 = .ok (.aload_n 0, 1) := by decide +kernel
theorem dX10_should_1 : decode cX10_should 1 = .ok (.iload_n 1, 1) := by decide +kernel
theorem dX10_should_2 : decode cX10_should 2 = .ok (.invokevirtual 112, 3) := by decide +kernel
theorem dX10_should_5 : decode cX10_should 5 = .ok (.ifCond .eq 10, 3) := by decide +kernel
theorem dX10_should_8 : decode cX10_should 8 = .ok (.iload_n 2, 1) := by decide +kernel
theorem dX10_should_9 : decode cX10_should 9 = .ok (.invokestatic 143, 3) := by decide +kernel
theorem dX10_should_12 : decode cX10_should 12 = .ok (.ifCond .ne 6, 3) := by decide +kernel
theorem dX10_should_15 : decode cX10_should 15 = .ok (.bipush (-2), 2) := by decide +kernel
theorem dX10_should_17 : decode cX10_should 17 = .ok (.ireturn, 1) := by decide +kernel
theorem dX10_should_18 : decode cX10_should 18 = .ok (.aload_n 0, 1) := by decide +kernel
theorem dX10_should_19 : decode cX10_should 19 = .ok (.iload_n 3, 1) := by decide +kernel
theorem dX10_should_20 : decode cX10_should 20 = .ok (.iload 4, 2) := by decide +kernel
theorem dX10_should_22 : decode cX10_should 22 = .ok (.iload 5, 2) := by decide +kernel
theorem dX10_should_24 : decode cX10_should 24 = .ok (.invokevirtual 184, 3) := by decide +kernel
theorem dX10_should_27 : decode cX10_should 27 = .ok (.ifCond .ne 6, 3) := by decide +kernel
theorem dX10_should_30 : decode cX10_should 30 = .ok (.bipush (-3), 2) := by decide +kernel
theorem dX10_should_32 : decode cX10_should 32 = .ok (.ireturn, 1) := by decide +kernel
theorem dX10_should_33 : decode cX10_should 33 = .ok (.aload_n 0, 1) := by decide +kernel
theorem dX10_should_34 : decode cX10_should 34 = .ok (.getfield 76, 3) := by decide +kernel
theorem dX10_should_37 : decode cX10_should 37 = .ok (.iload_n 2, 1) := by decide +kernel
theorem dX10_should_38 : decode cX10_should 38 = .ok (.iload_n 3, 1) := by decide +kernel
theorem dX10_should_39 : decode cX10_should 39 = .ok (.iload 4, 2) := by decide +kernel
theorem dX10_should_41 : decode cX10_should 41 = .ok (.iload 5, 2) := by decide +kernel
theorem dX10_should_43 : decode cX10_should 43 = .ok (.iconst 1, 1) := by decide +kernel
theorem dX10_should_44 : decode cX10_should 44 = .ok (.invokevirtual 188, 3) := by decide +kernel
theorem dX10_should_47 : decode cX10_should 47 = .ok (.aload_n 0, 1) := by decide +kernel
theorem dX10_should_48 : decode cX10_should 48 = .ok (.getfield 37, 3) := by decide +kernel
theorem dX10_should_51 : decode cX10_should 51 = .ok (.aload_n 0, 1) := by decide +kernel
theorem dX10_should_52 : decode cX10_should 52 = .ok (.getfield 76, 3) := by decide +kernel
theorem dX10_should_55 : decode cX10_should 55 = .ok (.aload_n 0, 1) := by decide +kernel
theorem dX10_should_56 : decode cX10_should 56 = .ok (.getfield 37, 3) := by decide +kernel
theorem dX10_should_59 : decode cX10_should 59 = .ok (.getfield 171, 3) := by decide +kernel
theorem dX10_should_62 : decode cX10_should 62 = .ok (.iload_n 1, 1) := by decide +kernel
theorem dX10_should_63 : decode cX10_should 63 = .ok (.aaload, 1) := by decide +kernel
theorem dX10_should_64 : decode cX10_should 64 = .ok (.aconst_null, 1) := by decide +kernel
theorem dX10_should_65 : decode cX10_should 65 = .ok (.invokevirtual 192, 3) := by decide +kernel
theorem dX10_should_68 : decode cX10_should 68 = .ok (.ifCond .eq 7, 3) := by decide +kernel
theorem dX10_should_71 : decode cX10_should 71 = .ok (.iconst 1, 1) := by decide +kernel
theorem dX10_should_72 : decode cX10_should 72 = .ok (.goto 4, 3) := by decide +kernel
theorem dX10_should_75 : decode cX10_should 75 = .ok (.iconst 0, 1) := by decide +kernel
theorem dX10_should_76 : decode cX10_should 76 = .ok (.ireturn, 1) := by decide +kernel
theorem dX10_found_0 : decode cX10_found 0 = .ok (.iload_n 1, 1) := by decide +kernel
theorem dX10_found_1 : decode cX10_found 1 = .ok (.invokestatic 143, 3) := by decide +kernel
theorem dX10_found_4 : decode cX10_found 4 = .ok (.ifCond .ne 6, 3) := by decide +kernel
theorem dX10_found_7 : decode cX10_found 7 = .ok (.bipush (-2), 2) := by decide +kernel
theorem dX10_found_9 : decode cX10_found 9 = .ok (.ireturn, 1) := by decide +kernel
theorem dX10_found_10 : decode cX10_found 10 = .ok (.aload_n 0, 1) := by decide +kernel
theorem dX10_found_11 : decode cX10_found 11 = .ok (.iload_n 2, 1) := by decide +kernel
theorem dX10_found_12 : decode cX10_found 12 = .ok (.iload_n 3, 1) := by decide +kernel
theorem dX10_found_13 : decode cX10_found 13 = .ok (.iload 4, 2) := by decide +kernel
theorem dX10_found_15 : decode cX10_found 15 = .ok (.invokevirtual 184, 3) := by decide +kernel
theorem dX10_found_18 : decode cX10_found 18 = .ok (.ifCond .ne 6, 3) := by decide +kernel
theorem dX10_found_21 : decode cX10_found 21 = .ok (.bipush (-3), 2) := by decide +kernel
theorem dX10_found_23 : decode cX10_found 23 = .ok (.ireturn, 1) := by decide +kernel
theorem dX10_found_24 : decode cX10_found 24 = .ok (.aload_n 0, 1) := by decide +kernel
theorem dX10_found_25 : decode cX10_found 25 = .ok (.getfield 46, 3) := by decide +kernel
theorem dX10_found_28 : decode cX10_found 28 = .ok (.getfield 196, 3) := by decide +kernel
theorem dX10_found_31 : decode cX10_found 31 = .ok (.bipush 10, 2) := by decide +kernel
theorem dX10_found_33 : decode cX10_found 33 = .ok (.if_icmp .lt 6, 3) := by decide +kernel
theorem dX10_found_36 : decode cX10_found 36 = .ok (.bipush (-5), 2) := by decide +kernel
theorem dX10_found_38 : decode cX10_found 38 = .ok (.ireturn, 1) := by decide +kernel
theorem dX10_found_39 : decode cX10_found 39 = .ok (.aload_n 0, 1) := by decide +kernel
theorem dX10_found_40 : decode cX10_found 40 = .ok (.getfield 46, 3) := by decide +kernel
theorem dX10_found_43 : decode cX10_found 43 = .ok (.iload_n 1, 1) := by decide +kernel
theorem dX10_found_44 : decode cX10_found 44 = .ok (.iload_n 2, 1) := by decide +kernel
theorem dX10_found_45 : decode cX10_found 45 = .ok (.iload_n 3, 1) := by decide +kernel
theorem dX10_found_46 : decode cX10_found 46 = .ok (.iload 4, 2) := by decide +kernel
theorem dX10_found_48 : decode cX10_found 48 = .ok (.iload 5, 2) := by decide +kernel
theorem dX10_found_50 : decode cX10_found 50 = .ok (.invokevirtual 199, 3) := by decide +kernel
theorem dX10_found_53 : decode cX10_found 53 = .ok (.ireturn, 1) := by decide +kernel
theorem dX10_forget_0 : decode cX10_forget 0 = .ok (.aload_n 0, 1) := by decide +kernel
theorem dX10_forget_1 : decode cX10_forget 1 = .ok (.getfield 46, 3) := by decide +kernel
theorem dX10_forget_4 : decode cX10_forget 4 = .ok (.invokevirtual 203, 3) := by decide +kernel
theorem dX10_forget_7 : decode cX10_forget 7 = .ok (.ireturn, 1) := by decide +kernel
theorem dX10_chance_0 : decode cX10_chance 0 = .ok (.iload_n 1, 1) := by decide +kernel
theorem dX10_chance_1 : decode cX10_chance 1 = .ok (.iconst (-1), 1) := by decide +kernel
theorem dX10_chance_2 : decode cX10_chance 2 = .ok (.if_icmp .eq 15, 3) := by decide +kernel
theorem dX10_chance_5 : decode cX10_chance 5 = .ok (.aload_n 0, 1) := by decide +kernel
theorem dX10_chance_6 : decode cX10_chance 6 = .ok (.iload_n 1, 1) := by decide +kernel
theorem dX10_chance_7 : decode cX10_chance 7 = .ok (.invokevirtual 206, 3) := by decide +kernel
theorem dX10_chance_10 : decode cX10_chance 10 = .ok (.ifCond .ne 7, 3) := by decide +kernel
theorem dX10_chance_13 : decode cX10_chance 13 = .ok (.ldc2_w 209, 3) := by decide +kernel
theorem dX10_chance_16 : decode cX10_chance 16 = .ok (.lreturn, 1) := by decide +kernel
theorem dX10_chance_17 : decode cX10_chance 17 = .ok (.iload_n 2, 1) := by decide +kernel
theorem dX10_chance_18 : decode cX10_chance 18 = .ok (.invokestatic 168, 3) := by decide +kernel
theorem dX10_chance_21 : decode cX10_chance 21 = .ok (.ifCond .ne 7, 3) := by decide +kernel
theorem dX10_chance_24 : decode cX10_chance 24 = .ok (.ldc2_w 211, 3) := by decide +kernel
theorem dX10_chance_27 : decode cX10_chance 27 = .ok (.lreturn, 1) := by decide +kernel
theorem dX10_chance_28 : decode cX10_chance 28 = .ok (.aload_n 0, 1) := by decide +kernel
theorem dX10_chance_29 : decode cX10_chance 29 = .ok (.getfield 46, 3) := by decide +kernel
theorem dX10_chance_32 : decode cX10_chance 32 = .ok (.invokevirtual 213, 3) := by decide +kernel
theorem dX10_chance_35 : decode cX10_chance 35 = .ok (.aload_n 0, 1) := by decide +kernel
theorem dX10_chance_36 : decode cX10_chance 36 = .ok (.getfield 46, 3) := by decide +kernel
theorem dX10_chance_39 : decode cX10_chance 39 = .ok (.getfield 216, 3) := by decide +kernel
theorem dX10_chance_42 : decode cX10_chance 42 = .ok (.lstore_n 3, 1) := by decide +kernel
theorem dX10_chance_43 : decode cX10_chance 43 = .ok (.lload_n 3, 1) := by decide +kernel
theorem dX10_chance_44 : decode cX10_chance 44 = .ok (.lconst 0, 1) := by decide +kernel
theorem dX10_chance_45 : decode cX10_chance 45 = .ok (.lcmp, 1) := by decide +kernel
theorem dX10_chance_46 : decode cX10_chance 46 = .ok (.ifCond .ne 7, 3) := by decide +kernel
theorem dX10_chance_49 : decode cX10_chance 49 = .ok (.ldc2_w 220, 3) := by decide +kernel
theorem dX10_chance_52 : decode cX10_chance 52 = .ok (.lreturn, 1) := by decide +kernel
theorem dX10_chance_53 : decode cX10_chance 53 = .ok (.iload_n 1, 1) := by decide +kernel
theorem dX10_chance_54 : decode cX10_chance 54 = .ok (.iconst (-1), 1) := by decide +kernel
theorem dX10_chance_55 : decode cX10_chance 55 = .ok (.if_icmp .ne 13, 3) := by decide +kernel
theorem dX10_chance_58 : decode cX10_chance 58 = .ok (.aload_n 0, 1) := by decide +kernel
theorem dX10_chance_59 : decode cX10_chance 59 = .ok (.getfield 46, 3) := by decide +kernel
theorem dX10_chance_62 : decode cX10_chance 62 = .ok (.getfield 222, 3) := by decide +kernel
theorem dX10_chance_65 : decode cX10_chance 65 = .ok (.goto 12, 3) := by decide +kernel
theorem dX10_chance_68 : decode cX10_chance 68 = .ok (.aload_n 0, 1) := by decide +kernel
theorem dX10_chance_69 : decode cX10_chance 69 = .ok (.getfield 46, 3) := by decide +kernel
theorem dX10_chance_72 : decode cX10_chance 72 = .ok (.getfield 225, 3) := by decide +kernel
theorem dX10_chance_75 : decode cX10_chance 75 = .ok (.iload_n 1, 1) := by decide +kernel
theorem dX10_chance_76 : decode cX10_chance 76 = .ok (.laload, 1) := by decide +kernel
theorem dX10_chance_77 : decode cX10_chance 77 = .ok (.lload_n 3, 1) := by decide +kernel
theorem dX10_chance_78 : decode cX10_chance 78 = .ok (.iload_n 2, 1) := by decide +kernel
theorem dX10_chance_79 : decode cX10_chance 79 = .ok (.invokestatic 229, 3) := by decide +kernel
theorem dX10_chance_82 : decode cX10_chance 82 = .ok (.lreturn, 1) := by decide +kernel
theorem dX10_two_0 : decode cX10_two 0 = .ok (.aload_n 0, 1) := by decide +kernel
theorem dX10_two_1 : decode cX10_two 1 = .ok (.iload_n 1, 1) := by decide +kernel
theorem dX10_two_2 : decode cX10_two 2 = .ok (.invokevirtual 206, 3) := by decide +kernel
theorem dX10_two_5 : decode cX10_two 5 = .ok (.ifCond .eq 16, 3) := by decide +kernel
theorem dX10_two_8 : decode cX10_two 8 = .ok (.aload_n 0, 1) := by decide +kernel
theorem dX10_two_9 : decode cX10_two 9 = .ok (.iload_n 2, 1) := by decide +kernel
theorem dX10_two_10 : decode cX10_two 10 = .ok (.invokevirtual 206, 3) := by decide +kernel
theorem dX10_two_13 : decode cX10_two 13 = .ok (.ifCond .eq 8, 3) := by decide +kernel
theorem dX10_two_16 : decode cX10_two 16 = .ok (.iload_n 1, 1) := by decide +kernel
theorem dX10_two_17 : decode cX10_two 17 = .ok (.iload_n 2, 1) := by decide +kernel
theorem dX10_two_18 : decode cX10_two 18 = .ok (.if_icmp .ne 7, 3) := by decide +kernel
theorem dX10_two_21 : decode cX10_two 21 = .ok (.ldc2_w 209, 3) := by decide +kernel
theorem dX10_two_24 : decode cX10_two 24 = .ok (.lreturn, 1) := by decide +kernel
theorem dX10_two_25 : decode cX10_two 25 = .ok (.iload_n 3, 1) := by decide +kernel
theorem dX10_two_26 : decode cX10_two 26 = .ok (.invokestatic 168, 3) := by decide +kernel
theorem dX10_two_29 : decode cX10_two 29 = .ok (.ifCond .ne 7, 3) := by decide +kernel
theorem dX10_two_32 : decode cX10_two 32 = .ok (.ldc2_w 211, 3) := by decide +kernel
theorem dX10_two_35 : decode cX10_two 35 = .ok (.lreturn, 1) := by decide +kernel
theorem dX10_two_36 : decode cX10_two 36 = .ok (.aload_n 0, 1) := by decide +kernel
theorem dX10_two_37 : decode cX10_two 37 = .ok (.getfield 46, 3) := by decide +kernel
theorem dX10_two_40 : decode cX10_two 40 = .ok (.invokevirtual 233, 3) := by decide +kernel
theorem dX10_two_43 : decode cX10_two 43 = .ok (.aload_n 0, 1) := by decide +kernel
theorem dX10_two_44 : decode cX10_two 44 = .ok (.getfield 46, 3) := by decide +kernel
theorem dX10_two_47 : decode cX10_two 47 = .ok (.getfield 236, 3) := by decide +kernel
theorem dX10_two_50 : decode cX10_two 50 = .ok (.lstore 4, 2) := by decide +kernel
theorem dX10_two_52 : decode cX10_two 52 = .ok (.lload 4, 2) := by decide +kernel
theorem dX10_two_54 : decode cX10_two 54 = .ok (.lconst 0, 1) := by decide +kernel
theorem dX10_two_55 : decode cX10_two 55 = .ok (.lcmp, 1) := by decide +kernel
theorem dX10_two_56 : decode cX10_two 56 = .ok (.ifCond .ne 9, 3) := by decide +kernel
theorem dX10_two_59 : decode cX10_two 59 = .ok (.ldc2_w 220, 3) := by decide +kernel
theorem dX10_two_62 : decode cX10_two 62 = .ok (.goto 23, 3) := by decide +kernel
theorem dX10_two_65 : decode cX10_two 65 = .ok (.aload_n 0, 1) := by decide +kernel
theorem dX10_two_66 : decode cX10_two 66 = .ok (.getfield 46, 3) := by decide +kernel
theorem dX10_two_69 : decode cX10_two 69 = .ok (.getfield 239, 3) := by decide +kernel
theorem dX10_two_72 : decode cX10_two 72 = .ok (.iload_n 1, 1) := by decide +kernel
theorem dX10_two_73 : decode cX10_two 73 = .ok (.bipush 12, 2) := by decide +kernel
theorem dX10_two_75 : decode cX10_two 75 = .ok (.imul, 1) := by decide +kernel
theorem dX10_two_76 : decode cX10_two 76 = .ok (.iload_n 2, 1) := by decide +kernel
theorem dX10_two_77 : decode cX10_two 77 = .ok (.iadd, 1) := by decide +kernel
theorem dX10_two_78 : decode cX10_two 78 = .ok (.laload, 1) := by decide +kernel
theorem dX10_two_79 : decode cX10_two 79 = .ok (.lload 4, 2) := by decide +kernel
theorem dX10_two_81 : decode cX10_two 81 = .ok (.iload_n 3, 1) := by decide +kernel
theorem dX10_two_82 : decode cX10_two 82 = .ok (.invokestatic 229, 3) := by decide +kernel
theorem dX10_two_85 : decode cX10_two 85 = .ok (.lreturn, 1) := by decide +kernel
theorem dX10_worth_0 : decode cX10_worth 0 = .ok (.iload_n 1, 1) := by decide +kernel
theorem dX10_worth_1 : decode cX10_worth 1 = .ok (.invokestatic 143, 3) := by decide +kernel
theorem dX10_worth_4 : decode cX10_worth 4 = .ok (.ifCond .ne 7, 3) := by decide +kernel
theorem dX10_worth_7 : decode cX10_worth 7 = .ok (.ldc2_w 209, 3) := by decide +kernel
theorem dX10_worth_10 : decode cX10_worth 10 = .ok (.lreturn, 1) := by decide +kernel
theorem dX10_worth_11 : decode cX10_worth 11 = .ok (.aload_n 0, 1) := by decide +kernel
theorem dX10_worth_12 : decode cX10_worth 12 = .ok (.iload_n 2, 1) := by decide +kernel
theorem dX10_worth_13 : decode cX10_worth 13 = .ok (.iload_n 3, 1) := by decide +kernel
theorem dX10_worth_14 : decode cX10_worth 14 = .ok (.iload 4, 2) := by decide +kernel
theorem dX10_worth_16 : decode cX10_worth 16 = .ok (.invokevirtual 184, 3) := by decide +kernel
theorem dX10_worth_19 : decode cX10_worth 19 = .ok (.ifCond .eq 11, 3) := by decide +kernel
theorem dX10_worth_22 : decode cX10_worth 22 = .ok (.iload 5, 2) := by decide +kernel
theorem dX10_worth_24 : decode cX10_worth 24 = .ok (.invokestatic 168, 3) := by decide +kernel
theorem dX10_worth_27 : decode cX10_worth 27 = .ok (.ifCond .ne 7, 3) := by decide +kernel
theorem dX10_worth_30 : decode cX10_worth 30 = .ok (.ldc2_w 211, 3) := by decide +kernel
theorem dX10_worth_33 : decode cX10_worth 33 = .ok (.lreturn, 1) := by decide +kernel
theorem dX10_worth_34 : decode cX10_worth 34 = .ok (.aload_n 0, 1) := by decide +kernel
theorem dX10_worth_35 : decode cX10_worth 35 = .ok (.getfield 46, 3) := by decide +kernel
theorem dX10_worth_38 : decode cX10_worth 38 = .ok (.invokevirtual 213, 3) := by decide +kernel
theorem dX10_worth_41 : decode cX10_worth 41 = .ok (.aload_n 0, 1) := by decide +kernel
theorem dX10_worth_42 : decode cX10_worth 42 = .ok (.getfield 46, 3) := by decide +kernel
theorem dX10_worth_45 : decode cX10_worth 45 = .ok (.getfield 216, 3) := by decide +kernel
theorem dX10_worth_48 : decode cX10_worth 48 = .ok (.lconst 0, 1) := by decide +kernel
theorem dX10_worth_49 : decode cX10_worth 49 = .ok (.lcmp, 1) := by decide +kernel
theorem dX10_worth_50 : decode cX10_worth 50 = .ok (.ifCond .ne 7, 3) := by decide +kernel
theorem dX10_worth_53 : decode cX10_worth 53 = .ok (.ldc2_w 220, 3) := by decide +kernel
theorem dX10_worth_56 : decode cX10_worth 56 = .ok (.lreturn, 1) := by decide +kernel
theorem dX10_worth_57 : decode cX10_worth 57 = .ok (.aload_n 0, 1) := by decide +kernel
theorem dX10_worth_58 : decode cX10_worth 58 = .ok (.getfield 76, 3) := by decide +kernel
theorem dX10_worth_61 : decode cX10_worth 61 = .ok (.iload_n 1, 1) := by decide +kernel
theorem dX10_worth_62 : decode cX10_worth 62 = .ok (.iload_n 2, 1) := by decide +kernel
theorem dX10_worth_63 : decode cX10_worth 63 = .ok (.iload_n 3, 1) := by decide +kernel
theorem dX10_worth_64 : decode cX10_worth 64 = .ok (.iload 4, 2) := by decide +kernel
theorem dX10_worth_66 : decode cX10_worth 66 = .ok (.iconst 1, 1) := by decide +kernel
theorem dX10_worth_67 : decode cX10_worth 67 = .ok (.invokevirtual 188, 3) := by decide +kernel
theorem dX10_worth_70 : decode cX10_worth 70 = .ok (.aload_n 0, 1) := by decide +kernel
theorem dX10_worth_71 : decode cX10_worth 71 = .ok (.getfield 46, 3) := by decide +kernel
theorem dX10_worth_74 : decode cX10_worth 74 = .ok (.aload_n 0, 1) := by decide +kernel
theorem dX10_worth_75 : decode cX10_worth 75 = .ok (.getfield 76, 3) := by decide +kernel
theorem dX10_worth_78 : decode cX10_worth 78 = .ok (.invokevirtual 242, 3) := by decide +kernel
theorem dX10_worth_81 : decode cX10_worth 81 = .ok (.ldc2_w 246, 3) := by decide +kernel
theorem dX10_worth_84 : decode cX10_worth 84 = .ok (.aload_n 0, 1) := by decide +kernel
theorem dX10_worth_85 : decode cX10_worth 85 = .ok (.getfield 46, 3) := by decide +kernel
theorem dX10_worth_88 : decode cX10_worth 88 = .ok (.getfield 216, 3) := by decide +kernel
theorem dX10_worth_91 : decode cX10_worth 91 = .ok (.lmul, 1) := by decide +kernel
theorem dX10_worth_92 : decode cX10_worth 92 = .ok (.iload 5, 2) := by decide +kernel
theorem dX10_worth_94 : decode cX10_worth 94 = .ok (.invokestatic 229, 3) := by decide +kernel
theorem dX10_worth_97 : decode cX10_worth 97 = .ok (.lreturn, 1) := by decide +kernel
theorem dX10_likeliest_0 : decode cX10_likeliest 0 = .ok (.aload_n 0, 1) := by decide +kernel
theorem dX10_likeliest_1 : decode cX10_likeliest 1 = .ok (.getfield 46, 3) := by decide +kernel
theorem dX10_likeliest_4 : decode cX10_likeliest 4 = .ok (.invokevirtual 213, 3) := by decide +kernel
theorem dX10_likeliest_7 : decode cX10_likeliest 7 = .ok (.aload_n 0, 1) := by decide +kernel
theorem dX10_likeliest_8 : decode cX10_likeliest 8 = .ok (.getfield 46, 3) := by decide +kernel
theorem dX10_likeliest_11 : decode cX10_likeliest 11 = .ok (.invokevirtual 248, 3) := by decide +kernel
theorem dX10_likeliest_14 : decode cX10_likeliest 14 = .ok (.ireturn, 1) := by decide +kernel
theorem dX10_lacks_0 : decode cX10_lacks 0 = .ok (.iload_n 1, 1) := by decide +kernel
theorem dX10_lacks_1 : decode cX10_lacks 1 = .ok (.ifCond .lt 10, 3) := by decide +kernel
theorem dX10_lacks_4 : decode cX10_lacks 4 = .ok (.iload_n 1, 1) := by decide +kernel
theorem dX10_lacks_5 : decode cX10_lacks 5 = .ok (.sipush 9999, 3) := by decide +kernel
theorem dX10_lacks_8 : decode cX10_lacks 8 = .ok (.if_icmp .le 6, 3) := by decide +kernel
theorem dX10_lacks_11 : decode cX10_lacks 11 = .ok (.bipush (-3), 2) := by decide +kernel
theorem dX10_lacks_13 : decode cX10_lacks 13 = .ok (.ireturn, 1) := by decide +kernel
theorem dX10_lacks_14 : decode cX10_lacks 14 = .ok (.aload_n 0, 1) := by decide +kernel
theorem dX10_lacks_15 : decode cX10_lacks 15 = .ok (.getfield 46, 3) := by decide +kernel
theorem dX10_lacks_18 : decode cX10_lacks 18 = .ok (.iload_n 1, 1) := by decide +kernel
theorem dX10_lacks_19 : decode cX10_lacks 19 = .ok (.invokevirtual 251, 3) := by decide +kernel
theorem dX10_lacks_22 : decode cX10_lacks 22 = .ok (.ireturn, 1) := by decide +kernel
theorem dX10_fewest_0 : decode cX10_fewest 0 = .ok (.iload_n 1, 1) := by decide +kernel
theorem dX10_fewest_1 : decode cX10_fewest 1 = .ok (.invokestatic 168, 3) := by decide +kernel
theorem dX10_fewest_4 : decode cX10_fewest 4 = .ok (.ifCond .ne 6, 3) := by decide +kernel
theorem dX10_fewest_7 : decode cX10_fewest 7 = .ok (.bipush (-3), 2) := by decide +kernel
theorem dX10_fewest_9 : decode cX10_fewest 9 = .ok (.ireturn, 1) := by decide +kernel
theorem dX10_fewest_10 : decode cX10_fewest 10 = .ok (.aload_n 0, 1) := by decide +kernel
theorem dX10_fewest_11 : decode cX10_fewest 11 = .ok (.getfield 53, 3) := by decide +kernel
theorem dX10_fewest_14 : decode cX10_fewest 14 = .ok (.invokevirtual 255, 3) := by decide +kernel
theorem dX10_fewest_17 : decode cX10_fewest 17 = .ok (.iload_n 1, 1) := by decide +kernel
theorem dX10_fewest_18 : decode cX10_fewest 18 = .ok (.ifCond .ne 21, 3) := by decide +kernel
theorem dX10_fewest_21 : decode cX10_fewest 21 = .ok (.aload_n 0, 1) := by decide +kernel
theorem dX10_fewest_22 : decode cX10_fewest 22 = .ok (.getfield 53, 3) := by decide +kernel
theorem dX10_fewest_25 : decode cX10_fewest 25 = .ok (.getfield 258, 3) := by decide +kernel
theorem dX10_fewest_28 : decode cX10_fewest 28 = .ok (.aload_n 0, 1) := by decide +kernel
theorem dX10_fewest_29 : decode cX10_fewest 29 = .ok (.getfield 28, 3) := by decide +kernel
theorem dX10_fewest_32 : decode cX10_fewest 32 = .ok (.getfield 261, 3) := by decide +kernel
theorem dX10_fewest_35 : decode cX10_fewest 35 = .ok (.iaload, 1) := by decide +kernel
theorem dX10_fewest_36 : decode cX10_fewest 36 = .ok (.goto 10, 3) := by decide +kernel
theorem dX10_fewest_39 : decode cX10_fewest 39 = .ok (.aload_n 0, 1) := by decide +kernel
theorem dX10_fewest_40 : decode cX10_fewest 40 = .ok (.getfield 53, 3) := by decide +kernel
theorem dX10_fewest_43 : decode cX10_fewest 43 = .ok (.invokevirtual 264, 3) := by decide +kernel
theorem dX10_fewest_46 : decode cX10_fewest 46 = .ok (.ireturn, 1) := by decide +kernel
theorem dX10_mean_0 : decode cX10_mean 0 = .ok (.iload_n 1, 1) := by decide +kernel
theorem dX10_mean_1 : decode cX10_mean 1 = .ok (.invokestatic 168, 3) := by decide +kernel
theorem dX10_mean_4 : decode cX10_mean 4 = .ok (.ifCond .ne 6, 3) := by decide +kernel
theorem dX10_mean_7 : decode cX10_mean 7 = .ok (.bipush (-3), 2) := by decide +kernel
theorem dX10_mean_9 : decode cX10_mean 9 = .ok (.ireturn, 1) := by decide +kernel
theorem dX10_mean_10 : decode cX10_mean 10 = .ok (.aload_n 0, 1) := by decide +kernel
theorem dX10_mean_11 : decode cX10_mean 11 = .ok (.getfield 28, 3) := by decide +kernel
theorem dX10_mean_14 : decode cX10_mean 14 = .ok (.getfield 261, 3) := by decide +kernel
theorem dX10_mean_17 : decode cX10_mean 17 = .ok (.ifCond .ne 6, 3) := by decide +kernel
theorem dX10_mean_20 : decode cX10_mean 20 = .ok (.bipush (-4), 2) := by decide +kernel
theorem dX10_mean_22 : decode cX10_mean 22 = .ok (.ireturn, 1) := by decide +kernel
theorem dX10_mean_23 : decode cX10_mean 23 = .ok (.aload_n 0, 1) := by decide +kernel
theorem dX10_mean_24 : decode cX10_mean 24 = .ok (.getfield 53, 3) := by decide +kernel
theorem dX10_mean_27 : decode cX10_mean 27 = .ok (.invokevirtual 255, 3) := by decide +kernel
theorem dX10_mean_30 : decode cX10_mean 30 = .ok (.aload_n 0, 1) := by decide +kernel
theorem dX10_mean_31 : decode cX10_mean 31 = .ok (.getfield 53, 3) := by decide +kernel
theorem dX10_mean_34 : decode cX10_mean 34 = .ok (.getfield 267, 3) := by decide +kernel
theorem dX10_mean_37 : decode cX10_mean 37 = .ok (.aload_n 0, 1) := by decide +kernel
theorem dX10_mean_38 : decode cX10_mean 38 = .ok (.getfield 28, 3) := by decide +kernel
theorem dX10_mean_41 : decode cX10_mean 41 = .ok (.getfield 261, 3) := by decide +kernel
theorem dX10_mean_44 : decode cX10_mean 44 = .ok (.iaload, 1) := by decide +kernel
theorem dX10_mean_45 : decode cX10_mean 45 = .ok (.i2l, 1) := by decide +kernel
theorem dX10_mean_46 : decode cX10_mean 46 = .ok (.aload_n 0, 1) := by decide +kernel
theorem dX10_mean_47 : decode cX10_mean 47 = .ok (.getfield 28, 3) := by decide +kernel
theorem dX10_mean_50 : decode cX10_mean 50 = .ok (.aload_n 0, 1) := by decide +kernel
theorem dX10_mean_51 : decode cX10_mean 51 = .ok (.getfield 28, 3) := by decide +kernel
theorem dX10_mean_54 : decode cX10_mean 54 = .ok (.getfield 261, 3) := by decide +kernel
theorem dX10_mean_57 : decode cX10_mean 57 = .ok (.invokevirtual 270, 3) := by decide +kernel
theorem dX10_mean_60 : decode cX10_mean 60 = .ok (.i2l, 1) := by decide +kernel
theorem dX10_mean_61 : decode cX10_mean 61 = .ok (.iload_n 1, 1) := by decide +kernel
theorem dX10_mean_62 : decode cX10_mean 62 = .ok (.invokestatic 229, 3) := by decide +kernel
theorem dX10_mean_65 : decode cX10_mean 65 = .ok (.l2i, 1) := by decide +kernel
theorem dX10_mean_66 : decode cX10_mean 66 = .ok (.ireturn, 1) := by decide +kernel
theorem dX10_soon_0 : decode cX10_soon 0 = .ok (.aload_n 0, 1) := by decide +kernel
theorem dX10_soon_1 : decode cX10_soon 1 = .ok (.iload_n 1, 1) := by decide +kernel
theorem dX10_soon_2 : decode cX10_soon 2 = .ok (.invokevirtual 112, 3) := by decide +kernel
theorem dX10_soon_5 : decode cX10_soon 5 = .ok (.ifCond .ne 6, 3) := by decide +kernel
theorem dX10_soon_8 : decode cX10_soon 8 = .ok (.bipush (-2), 2) := by decide +kernel
theorem dX10_soon_10 : decode cX10_soon 10 = .ok (.ireturn, 1) := by decide +kernel
theorem dX10_soon_11 : decode cX10_soon 11 = .ok (.iload_n 2, 1) := by decide +kernel
theorem dX10_soon_12 : decode cX10_soon 12 = .ok (.invokestatic 168, 3) := by decide +kernel
theorem dX10_soon_15 : decode cX10_soon 15 = .ok (.ifCond .ne 6, 3) := by decide +kernel
theorem dX10_soon_18 : decode cX10_soon 18 = .ok (.bipush (-3), 2) := by decide +kernel
theorem dX10_soon_20 : decode cX10_soon 20 = .ok (.ireturn, 1) := by decide +kernel
theorem dX10_soon_21 : decode cX10_soon 21 = .ok (.aload_n 0, 1) := by decide +kernel
theorem dX10_soon_22 : decode cX10_soon 22 = .ok (.getfield 53, 3) := by decide +kernel
theorem dX10_soon_25 : decode cX10_soon 25 = .ok (.invokevirtual 255, 3) := by decide +kernel
theorem dX10_soon_28 : decode cX10_soon 28 = .ok (.iload_n 2, 1) := by decide +kernel
theorem dX10_soon_29 : decode cX10_soon 29 = .ok (.ifCond .ne 26, 3) := by decide +kernel
theorem dX10_soon_32 : decode cX10_soon 32 = .ok (.aload_n 0, 1) := by decide +kernel
theorem dX10_soon_33 : decode cX10_soon 33 = .ok (.getfield 53, 3) := by decide +kernel
theorem dX10_soon_36 : decode cX10_soon 36 = .ok (.getfield 273, 3) := by decide +kernel
theorem dX10_soon_39 : decode cX10_soon 39 = .ok (.aload_n 0, 1) := by decide +kernel
theorem dX10_soon_40 : decode cX10_soon 40 = .ok (.getfield 28, 3) := by decide +kernel
theorem dX10_soon_43 : decode cX10_soon 43 = .ok (.getfield 261, 3) := by decide +kernel
theorem dX10_soon_46 : decode cX10_soon 46 = .ok (.bipush 12, 2) := by decide +kernel
theorem dX10_soon_48 : decode cX10_soon 48 = .ok (.imul, 1) := by decide +kernel
theorem dX10_soon_49 : decode cX10_soon 49 = .ok (.iload_n 1, 1) := by decide +kernel
theorem dX10_soon_50 : decode cX10_soon 50 = .ok (.iadd, 1) := by decide +kernel
theorem dX10_soon_51 : decode cX10_soon 51 = .ok (.iaload, 1) := by decide +kernel
theorem dX10_soon_52 : decode cX10_soon 52 = .ok (.goto 18, 3) := by decide +kernel
theorem dX10_soon_55 : decode cX10_soon 55 = .ok (.aload_n 0, 1) := by decide +kernel
theorem dX10_soon_56 : decode cX10_soon 56 = .ok (.getfield 53, 3) := by decide +kernel
theorem dX10_soon_59 : decode cX10_soon 59 = .ok (.iload_n 1, 1) := by decide +kernel
theorem dX10_soon_60 : decode cX10_soon 60 = .ok (.aload_n 0, 1) := by decide +kernel
theorem dX10_soon_61 : decode cX10_soon 61 = .ok (.getfield 28, 3) := by decide +kernel
theorem dX10_soon_64 : decode cX10_soon 64 = .ok (.getfield 261, 3) := by decide +kernel
theorem dX10_soon_67 : decode cX10_soon 67 = .ok (.invokevirtual 276, 3) := by decide +kernel
theorem dX10_soon_70 : decode cX10_soon 70 = .ok (.ireturn, 1) := by decide +kernel
theorem dX10_row_0 : decode cX10_row 0 = .ok (.iload_n 2, 1) := by decide +kernel
theorem dX10_row_1 : decode cX10_row 1 = .ok (.iconst 1, 1) := by decide +kernel
theorem dX10_row_2 : decode cX10_row 2 = .ok (.if_icmp .lt 9, 3) := by decide +kernel
theorem dX10_row_5 : decode cX10_row 5 = .ok (.iload_n 2, 1) := by decide +kernel
theorem dX10_row_6 : decode cX10_row 6 = .ok (.bipush 8, 2) := by decide +kernel
theorem dX10_row_8 : decode cX10_row 8 = .ok (.if_icmp .le 6, 3) := by decide +kernel
theorem dX10_row_11 : decode cX10_row 11 = .ok (.bipush (-3), 2) := by decide +kernel
theorem dX10_row_13 : decode cX10_row 13 = .ok (.ireturn, 1) := by decide +kernel
theorem dX10_row_14 : decode cX10_row 14 = .ok (.aload_n 0, 1) := by decide +kernel
theorem dX10_row_15 : decode cX10_row 15 = .ok (.iload_n 1, 1) := by decide +kernel
theorem dX10_row_16 : decode cX10_row 16 = .ok (.iload_n 2, 1) := by decide +kernel
theorem dX10_row_17 : decode cX10_row 17 = .ok (.invokevirtual 279, 3) := by decide +kernel
theorem dX10_row_20 : decode cX10_row 20 = .ok (.ifCond .ne 6, 3) := by decide +kernel
theorem dX10_row_23 : decode cX10_row 23 = .ok (.bipush (-2), 2) := by decide +kernel
theorem dX10_row_25 : decode cX10_row 25 = .ok (.ireturn, 1) := by decide +kernel
theorem dX10_row_26 : decode cX10_row 26 = .ok (.iload 4, 2) := by decide +kernel
theorem dX10_row_28 : decode cX10_row 28 = .ok (.invokestatic 168, 3) := by decide +kernel
theorem dX10_row_31 : decode cX10_row 31 = .ok (.ifCond .eq 10, 3) := by decide +kernel
theorem dX10_row_34 : decode cX10_row 34 = .ok (.iload_n 3, 1) := by decide +kernel
theorem dX10_row_35 : decode cX10_row 35 = .ok (.invokestatic 283, 3) := by decide +kernel
theorem dX10_row_38 : decode cX10_row 38 = .ok (.ifCond .ne 6, 3) := by decide +kernel
theorem dX10_row_41 : decode cX10_row 41 = .ok (.bipush (-3), 2) := by decide +kernel
theorem dX10_row_43 : decode cX10_row 43 = .ok (.ireturn, 1) := by decide +kernel
theorem dX10_row_44 : decode cX10_row 44 = .ok (.iload 4, 2) := by decide +kernel
theorem dX10_row_46 : decode cX10_row 46 = .ok (.ifCond .ne 16, 3) := by decide +kernel
theorem dX10_row_49 : decode cX10_row 49 = .ok (.aload_n 0, 1) := by decide +kernel
theorem dX10_row_50 : decode cX10_row 50 = .ok (.getfield 60, 3) := by decide +kernel
theorem dX10_row_53 : decode cX10_row 53 = .ok (.iload_n 1, 1) := by decide +kernel
theorem dX10_row_54 : decode cX10_row 54 = .ok (.iload_n 2, 1) := by decide +kernel
theorem dX10_row_55 : decode cX10_row 55 = .ok (.iload_n 3, 1) := by decide +kernel
theorem dX10_row_56 : decode cX10_row 56 = .ok (.invokevirtual 286, 3) := by decide +kernel
theorem dX10_row_59 : decode cX10_row 59 = .ok (.goto 13, 3) := by decide +kernel
theorem dX10_row_62 : decode cX10_row 62 = .ok (.aload_n 0, 1) := by decide +kernel
theorem dX10_row_63 : decode cX10_row 63 = .ok (.getfield 60, 3) := by decide +kernel
theorem dX10_row_66 : decode cX10_row 66 = .ok (.iload_n 1, 1) := by decide +kernel
theorem dX10_row_67 : decode cX10_row 67 = .ok (.iload_n 2, 1) := by decide +kernel
theorem dX10_row_68 : decode cX10_row 68 = .ok (.iload_n 3, 1) := by decide +kernel
theorem dX10_row_69 : decode cX10_row 69 = .ok (.invokevirtual 290, 3) := by decide +kernel
theorem dX10_row_72 : decode cX10_row 72 = .ok (.ireturn, 1) := by decide +kernel
theorem dX10_answers_0 : decode cX10_answers 0 = .ok (.iload_n 3, 1) := by decide +kernel
theorem dX10_answers_1 : decode cX10_answers 1 = .ok (.iconst 1, 1) := by decide +kernel
theorem dX10_answers_2 : decode cX10_answers 2 = .ok (.if_icmp .lt 9, 3) := by decide +kernel
theorem dX10_answers_5 : decode cX10_answers 5 = .ok (.iload_n 3, 1) := by decide +kernel
theorem dX10_answers_6 : decode cX10_answers 6 = .ok (.bipush 8, 2) := by decide +kernel
theorem dX10_answers_8 : decode cX10_answers 8 = .ok (.if_icmp .le 6, 3) := by decide +kernel
theorem dX10_answers_11 : decode cX10_answers 11 = .ok (.bipush (-3), 2) := by decide +kernel
theorem dX10_answers_13 : decode cX10_answers 13 = .ok (.ireturn, 1) := by decide +kernel
theorem dX10_answers_14 : decode cX10_answers 14 = .ok (.aload_n 0, 1) := by decide +kernel
theorem dX10_answers_15 : decode cX10_answers 15 = .ok (.iload_n 1, 1) := by decide +kernel
theorem dX10_answers_16 : decode cX10_answers 16 = .ok (.invokevirtual 206, 3) := by decide +kernel
theorem dX10_answers_19 : decode cX10_answers 19 = .ok (.ifCond .eq 12, 3) := by decide +kernel
theorem dX10_answers_22 : decode cX10_answers 22 = .ok (.aload_n 0, 1) := by decide +kernel
theorem dX10_answers_23 : decode cX10_answers 23 = .ok (.iload_n 2, 1) := by decide +kernel
theorem dX10_answers_24 : decode cX10_answers 24 = .ok (.iload_n 3, 1) := by decide +kernel
theorem dX10_answers_25 : decode cX10_answers 25 = .ok (.invokevirtual 279, 3) := by decide +kernel
theorem dX10_answers_28 : decode cX10_answers 28 = .ok (.ifCond .ne 6, 3) := by decide +kernel
theorem dX10_answers_31 : decode cX10_answers 31 = .ok (.bipush (-2), 2) := by decide +kernel
theorem dX10_answers_33 : decode cX10_answers 33 = .ok (.ireturn, 1) := by decide +kernel
theorem dX10_answers_34 : decode cX10_answers 34 = .ok (.iload 4, 2) := by decide +kernel
theorem dX10_answers_36 : decode cX10_answers 36 = .ok (.invokestatic 283, 3) := by decide +kernel
theorem dX10_answers_39 : decode cX10_answers 39 = .ok (.ifCond .eq 18, 3) := by decide +kernel
theorem dX10_answers_42 : decode cX10_answers 42 = .ok (.aload_n 0, 1) := by decide +kernel
theorem dX10_answers_43 : decode cX10_answers 43 = .ok (.getfield 60, 3) := by decide +kernel
theorem dX10_answers_46 : decode cX10_answers 46 = .ok (.iload_n 1, 1) := by decide +kernel
theorem dX10_answers_47 : decode cX10_answers 47 = .ok (.iload_n 2, 1) := by decide +kernel
theorem dX10_answers_48 : decode cX10_answers 48 = .ok (.iload_n 3, 1) := by decide +kernel
theorem dX10_answers_49 : decode cX10_answers 49 = .ok (.iload 4, 2) := by decide +kernel
theorem dX10_answers_51 : decode cX10_answers 51 = .ok (.invokevirtual 293, 3) := by decide +kernel
theorem dX10_answers_54 : decode cX10_answers 54 = .ok (.goto 5, 3) := by decide +kernel
theorem dX10_answers_57 : decode cX10_answers 57 = .ok (.bipush (-3), 2) := by decide +kernel
theorem dX10_answers_59 : decode cX10_answers 59 = .ok (.ireturn, 1) := by decide +kernel
theorem dX10_hang_0 : decode cX10_hang 0 = .ok (.iload_n 1, 1) := by decide +kernel
theorem dX10_hang_1 : decode cX10_hang 1 = .ok (.ifCond .lt 10, 3) := by decide +kernel
theorem dX10_hang_4 : decode cX10_hang 4 = .ok (.iload_n 1, 1) := by decide +kernel
theorem dX10_hang_5 : decode cX10_hang 5 = .ok (.sipush 999, 3) := by decide +kernel
theorem dX10_hang_8 : decode cX10_hang 8 = .ok (.if_icmp .le 8, 3) := by decide +kernel
theorem dX10_hang_11 : decode cX10_hang 11 = .ok (.bipush (-3), 2) := by decide +kernel
theorem dX10_hang_13 : decode cX10_hang 13 = .ok (.goto 11, 3) := by decide +kernel
theorem dX10_hang_16 : decode cX10_hang 16 = .ok (.aload_n 0, 1) := by decide +kernel
theorem dX10_hang_17 : decode cX10_hang 17 = .ok (.getfield 60, 3) := by decide +kernel
theorem dX10_hang_20 : decode cX10_hang 20 = .ok (.iload_n 1, 1) := by decide +kernel
theorem dX10_hang_21 : decode cX10_hang 21 = .ok (.invokevirtual 297, 3) := by decide +kernel
theorem dX10_hang_24 : decode cX10_hang 24 = .ok (.ireturn, 1) := by decide +kernel
theorem dX10_day_0 : decode cX10_day 0 = .ok (.iload_n 2, 1) := by decide +kernel
theorem dX10_day_1 : decode cX10_day 1 = .ok (.invokestatic 143, 3) := by decide +kernel
theorem dX10_day_4 : decode cX10_day 4 = .ok (.ifCond .ne 6, 3) := by decide +kernel
theorem dX10_day_7 : decode cX10_day 7 = .ok (.bipush (-2), 2) := by decide +kernel
theorem dX10_day_9 : decode cX10_day 9 = .ok (.ireturn, 1) := by decide +kernel
theorem dX10_day_10 : decode cX10_day 10 = .ok (.iload_n 1, 1) := by decide +kernel
theorem dX10_day_11 : decode cX10_day 11 = .ok (.ifCond .lt 19, 3) := by decide +kernel
theorem dX10_day_14 : decode cX10_day 14 = .ok (.iload_n 1, 1) := by decide +kernel
theorem dX10_day_15 : decode cX10_day 15 = .ok (.ldc_w 300, 3) := by decide +kernel
theorem dX10_day_18 : decode cX10_day 18 = .ok (.if_icmp .ge 12, 3) := by decide +kernel
theorem dX10_day_21 : decode cX10_day 21 = .ok (.iload_n 3, 1) := by decide +kernel
theorem dX10_day_22 : decode cX10_day 22 = .ok (.ifCond .lt 8, 3) := by decide +kernel
theorem dX10_day_25 : decode cX10_day 25 = .ok (.iload_n 3, 1) := by decide +kernel
theorem dX10_day_26 : decode cX10_day 26 = .ok (.iconst 3, 1) := by decide +kernel
theorem dX10_day_27 : decode cX10_day 27 = .ok (.if_icmp .le 6, 3) := by decide +kernel
theorem dX10_day_30 : decode cX10_day 30 = .ok (.bipush (-3), 2) := by decide +kernel
theorem dX10_day_32 : decode cX10_day 32 = .ok (.ireturn, 1) := by decide +kernel
theorem dX10_day_33 : decode cX10_day 33 = .ok (.aload_n 0, 1) := by decide +kernel
theorem dX10_day_34 : decode cX10_day 34 = .ok (.getfield 28, 3) := by decide +kernel
theorem dX10_day_37 : decode cX10_day 37 = .ok (.getfield 261, 3) := by decide +kernel
theorem dX10_day_40 : decode cX10_day 40 = .ok (.ifCond .ne 6, 3) := by decide +kernel
theorem dX10_day_43 : decode cX10_day 43 = .ok (.bipush (-4), 2) := by decide +kernel
theorem dX10_day_45 : decode cX10_day 45 = .ok (.ireturn, 1) := by decide +kernel
theorem dX10_day_46 : decode cX10_day 46 = .ok (.aload_n 0, 1) := by decide +kernel
theorem dX10_day_47 : decode cX10_day 47 = .ok (.getfield 69, 3) := by decide +kernel
theorem dX10_day_50 : decode cX10_day 50 = .ok (.iload_n 1, 1) := by decide +kernel
theorem dX10_day_51 : decode cX10_day 51 = .ok (.iload_n 2, 1) := by decide +kernel
theorem dX10_day_52 : decode cX10_day 52 = .ok (.invokevirtual 301, 3) := by decide +kernel
theorem dX10_day_55 : decode cX10_day 55 = .ok (.iload_n 3, 1) := by decide +kernel
theorem dX10_day_56 : decode cX10_day 56 = .ok (.tableswitch 52 0 2 #[28, 36, 44], 28) := by decide +kernel
theorem dX10_day_84 : decode cX10_day 84 = .ok (.aload_n 0, 1) := by decide +kernel
theorem dX10_day_85 : decode cX10_day 85 = .ok (.getfield 69, 3) := by decide +kernel
theorem dX10_day_88 : decode cX10_day 88 = .ok (.getfield 305, 3) := by decide +kernel
theorem dX10_day_91 : decode cX10_day 91 = .ok (.ireturn, 1) := by decide +kernel
theorem dX10_day_92 : decode cX10_day 92 = .ok (.aload_n 0, 1) := by decide +kernel
theorem dX10_day_93 : decode cX10_day 93 = .ok (.getfield 69, 3) := by decide +kernel
theorem dX10_day_96 : decode cX10_day 96 = .ok (.getfield 307, 3) := by decide +kernel
theorem dX10_day_99 : decode cX10_day 99 = .ok (.ireturn, 1) := by decide +kernel
theorem dX10_day_100 : decode cX10_day 100 = .ok (.aload_n 0, 1) := by decide +kernel
theorem dX10_day_101 : decode cX10_day 101 = .ok (.getfield 69, 3) := by decide +kernel
theorem dX10_day_104 : decode cX10_day 104 = .ok (.getfield 310, 3) := by decide +kernel
theorem dX10_day_107 : decode cX10_day 107 = .ok (.ireturn, 1) := by decide +kernel
theorem dX10_day_108 : decode cX10_day 108 = .ok (.aload_n 0, 1) := by decide +kernel
theorem dX10_day_109 : decode cX10_day 109 = .ok (.getfield 69, 3) := by decide +kernel
theorem dX10_day_112 : decode cX10_day 112 = .ok (.getfield 313, 3) := by decide +kernel
theorem dX10_day_115 : decode cX10_day 115 = .ok (.ireturn, 1) := by decide +kernel
theorem dX10_count_0 : decode cX10_count 0 = .ok (.iload_n 1, 1) := by decide +kernel
theorem dX10_count_1 : decode cX10_count 1 = .ok (.tableswitch 105 0 6 #[43, 54, 62, 73, 81, 89, 97], 43) := by decide +kernel
theorem dX10_count_44 : decode cX10_count 44 = .ok (.aload_n 0, 1) := by decide +kernel
theorem dX10_count_45 : decode cX10_count 45 = .ok (.getfield 19, 3) := by decide +kernel
theorem dX10_count_48 : decode cX10_count 48 = .ok (.getfield 316, 3) := by decide +kernel
theorem dX10_count_51 : decode cX10_count 51 = .ok (.invokestatic 319, 3) := by decide +kernel
theorem dX10_count_54 : decode cX10_count 54 = .ok (.ireturn, 1) := by decide +kernel
theorem dX10_count_55 : decode cX10_count 55 = .ok (.aload_n 0, 1) := by decide +kernel
theorem dX10_count_56 : decode cX10_count 56 = .ok (.getfield 10, 3) := by decide +kernel
theorem dX10_count_59 : decode cX10_count 59 = .ok (.getfield 83, 3) := by decide +kernel
theorem dX10_count_62 : decode cX10_count 62 = .ok (.ireturn, 1) := by decide +kernel
theorem dX10_count_63 : decode cX10_count 63 = .ok (.aload_n 0, 1) := by decide +kernel
theorem dX10_count_64 : decode cX10_count 64 = .ok (.getfield 28, 3) := by decide +kernel
theorem dX10_count_67 : decode cX10_count 67 = .ok (.getfield 261, 3) := by decide +kernel
theorem dX10_count_70 : decode cX10_count 70 = .ok (.invokestatic 319, 3) := by decide +kernel
theorem dX10_count_73 : decode cX10_count 73 = .ok (.ireturn, 1) := by decide +kernel
theorem dX10_count_74 : decode cX10_count 74 = .ok (.aload_n 0, 1) := by decide +kernel
theorem dX10_count_75 : decode cX10_count 75 = .ok (.getfield 46, 3) := by decide +kernel
theorem dX10_count_78 : decode cX10_count 78 = .ok (.getfield 196, 3) := by decide +kernel
theorem dX10_count_81 : decode cX10_count 81 = .ok (.ireturn, 1) := by decide +kernel
theorem dX10_count_82 : decode cX10_count 82 = .ok (.aload_n 0, 1) := by decide +kernel
theorem dX10_count_83 : decode cX10_count 83 = .ok (.getfield 19, 3) := by decide +kernel
theorem dX10_count_86 : decode cX10_count 86 = .ok (.getfield 324, 3) := by decide +kernel
theorem dX10_count_89 : decode cX10_count 89 = .ok (.ireturn, 1) := by decide +kernel
theorem dX10_count_90 : decode cX10_count 90 = .ok (.aload_n 0, 1) := by decide +kernel
theorem dX10_count_91 : decode cX10_count 91 = .ok (.getfield 19, 3) := by decide +kernel
theorem dX10_count_94 : decode cX10_count 94 = .ok (.getfield 327, 3) := by decide +kernel
theorem dX10_count_97 : decode cX10_count 97 = .ok (.ireturn, 1) := by decide +kernel
theorem dX10_count_98 : decode cX10_count 98 = .ok (.aload_n 0, 1) := by decide +kernel
theorem dX10_count_99 : decode cX10_count 99 = .ok (.getfield 28, 3) := by decide +kernel
theorem dX10_count_102 : decode cX10_count 102 = .ok (.invokevirtual 330, 3) := by decide +kernel
theorem dX10_count_105 : decode cX10_count 105 = .ok (.ireturn, 1) := by decide +kernel
theorem dX10_count_106 : decode cX10_count 106 = .ok (.bipush (-3), 2) := by decide +kernel
theorem dX10_count_108 : decode cX10_count 108 = .ok (.ireturn, 1) := by decide +kernel
theorem dX10_lookAgain_0 : decode cX10_lookAgain 0 = .ok (.aload_n 0, 1) := by decide +kernel
theorem dX10_lookAgain_1 : decode cX10_lookAgain 1 = .ok (.getfield 28, 3) := by decide +kernel
theorem dX10_lookAgain_4 : decode cX10_lookAgain 4 = .ok (.invokevirtual 333, 3) := by decide +kernel
theorem dX10_lookAgain_7 : decode cX10_lookAgain 7 = .ok (.aload_n 0, 1) := by decide +kernel
theorem dX10_lookAgain_8 : decode cX10_lookAgain 8 = .ok (.getfield 37, 3) := by decide +kernel
theorem dX10_lookAgain_11 : decode cX10_lookAgain 11 = .ok (.invokevirtual 336, 3) := by decide +kernel
theorem dX10_lookAgain_14 : decode cX10_lookAgain 14 = .ok (.aload_n 0, 1) := by decide +kernel
theorem dX10_lookAgain_15 : decode cX10_lookAgain 15 = .ok (.getfield 46, 3) := by decide +kernel
theorem dX10_lookAgain_18 : decode cX10_lookAgain 18 = .ok (.invokevirtual 337, 3) := by decide +kernel
theorem dX10_lookAgain_21 : decode cX10_lookAgain 21 = .ok (.aload_n 0, 1) := by decide +kernel
theorem dX10_lookAgain_22 : decode cX10_lookAgain 22 = .ok (.getfield 53, 3) := by decide +kernel
theorem dX10_lookAgain_25 : decode cX10_lookAgain 25 = .ok (.invokevirtual 340, 3) := by decide +kernel
theorem dX10_lookAgain_28 : decode cX10_lookAgain 28 = .ok (.return_, 1) := by decide +kernel
theorem dX10_isThere_0 : decode cX10_isThere 0 = .ok (.iload_n 1, 1) := by decide +kernel
theorem dX10_isThere_1 : decode cX10_isThere 1 = .ok (.ifCond .lt 27, 3) := by decide +kernel
theorem dX10_isThere_4 : decode cX10_isThere 4 = .ok (.iload_n 1, 1) := by decide +kernel
theorem dX10_isThere_5 : decode cX10_isThere 5 = .ok (.bipush 12, 2) := by decide +kernel
theorem dX10_isThere_7 : decode cX10_isThere 7 = .ok (.if_icmp .ge 21, 3) := by decide +kernel
theorem dX10_isThere_10 : decode cX10_isThere 10 = .ok (.aload_n 0, 1) := by decide +kernel
theorem dX10_isThere_11 : decode cX10_isThere 11 = .ok (.getfield 19, 3) := by decide +kernel
theorem dX10_isThere_14 : decode cX10_isThere 14 = .ok (.getfield 316, 3) := by decide +kernel
theorem dX10_isThere_17 : decode cX10_isThere 17 = .ok (.iload_n 1, 1) := by decide +kernel
theorem dX10_isThere_18 : decode cX10_isThere 18 = .ok (.invokestatic 341, 3) := by decide +kernel
theorem dX10_isThere_21 : decode cX10_isThere 21 = .ok (.ifCond .eq 7, 3) := by decide +kernel
theorem dX10_isThere_24 : decode cX10_isThere 24 = .ok (.iconst 1, 1) := by decide +kernel
theorem dX10_isThere_25 : decode cX10_isThere 25 = .ok (.goto 4, 3) := by decide +kernel
theorem dX10_isThere_28 : decode cX10_isThere 28 = .ok (.iconst 0, 1) := by decide +kernel
theorem dX10_isThere_29 : decode cX10_isThere 29 = .ok (.ireturn, 1) := by decide +kernel
theorem dX10_isSource_0 : decode cX10_isSource 0 = .ok (.aload_n 0, 1) := by decide +kernel
theorem dX10_isSource_1 : decode cX10_isSource 1 = .ok (.iload_n 1, 1) := by decide +kernel
theorem dX10_isSource_2 : decode cX10_isSource 2 = .ok (.invokevirtual 112, 3) := by decide +kernel
theorem dX10_isSource_5 : decode cX10_isSource 5 = .ok (.ifCond .eq 21, 3) := by decide +kernel
theorem dX10_isSource_8 : decode cX10_isSource 8 = .ok (.aload_n 0, 1) := by decide +kernel
theorem dX10_isSource_9 : decode cX10_isSource 9 = .ok (.getfield 28, 3) := by decide +kernel
theorem dX10_isSource_12 : decode cX10_isSource 12 = .ok (.getfield 261, 3) := by decide +kernel
theorem dX10_isSource_15 : decode cX10_isSource 15 = .ok (.iload_n 1, 1) := by decide +kernel
theorem dX10_isSource_16 : decode cX10_isSource 16 = .ok (.invokestatic 341, 3) := by decide +kernel
theorem dX10_isSource_19 : decode cX10_isSource 19 = .ok (.ifCond .eq 7, 3) := by decide +kernel
theorem dX10_isSource_22 : decode cX10_isSource 22 = .ok (.iconst 1, 1) := by decide +kernel
theorem dX10_isSource_23 : decode cX10_isSource 23 = .ok (.goto 4, 3) := by decide +kernel
theorem dX10_isSource_26 : decode cX10_isSource 26 = .ok (.iconst 0, 1) := by decide +kernel
theorem dX10_isSource_27 : decode cX10_isSource 27 = .ok (.ireturn, 1) := by decide +kernel
theorem dX10_areLids_0 : decode cX10_areLids 0 = .ok (.iconst 0, 1) := by decide +kernel
theorem dX10_areLids_1 : decode cX10_areLids 1 = .ok (.istore_n 3, 1) := by decide +kernel
theorem dX10_areLids_2 : decode cX10_areLids 2 = .ok (.iload_n 3, 1) := by decide +kernel
theorem dX10_areLids_3 : decode cX10_areLids 3 = .ok (.iload_n 2, 1) := by decide +kernel
theorem dX10_areLids_4 : decode cX10_areLids 4 = .ok (.if_icmp .ge 23, 3) := by decide +kernel
theorem dX10_areLids_7 : decode cX10_areLids 7 = .ok (.aload_n 0, 1) := by decide +kernel
theorem dX10_areLids_8 : decode cX10_areLids 8 = .ok (.iload_n 1, 1) := by decide +kernel
theorem dX10_areLids_9 : decode cX10_areLids 9 = .ok (.iload_n 3, 1) := by decide +kernel
theorem dX10_areLids_10 : decode cX10_areLids 10 = .ok (.invokestatic 344, 3) := by decide +kernel
theorem dX10_areLids_13 : decode cX10_areLids 13 = .ok (.invokevirtual 112, 3) := by decide +kernel
theorem dX10_areLids_16 : decode cX10_areLids 16 = .ok (.ifCond .ne 5, 3) := by decide +kernel
theorem dX10_areLids_19 : decode cX10_areLids 19 = .ok (.iconst 0, 1) := by decide +kernel
theorem dX10_areLids_20 : decode cX10_areLids 20 = .ok (.ireturn, 1) := by decide +kernel
theorem dX10_areLids_21 : decode cX10_areLids 21 = .ok (.iinc 3 1, 3) := by decide +kernel
theorem dX10_areLids_24 : decode cX10_areLids 24 = .ok (.goto (-22), 3) := by decide +kernel
theorem dX10_areLids_27 : decode cX10_areLids 27 = .ok (.iconst 1, 1) := by decide +kernel
theorem dX10_areLids_28 : decode cX10_areLids 28 = .ok (.ireturn, 1) := by decide +kernel
theorem dX10_canFill_0 : decode cX10_canFill 0 = .ok (.iload_n 1, 1) := by decide +kernel
theorem dX10_canFill_1 : decode cX10_canFill 1 = .ok (.ifCond .eq 17, 3) := by decide +kernel
theorem dX10_canFill_4 : decode cX10_canFill 4 = .ok (.iload_n 1, 1) := by decide +kernel
theorem dX10_canFill_5 : decode cX10_canFill 5 = .ok (.aload_n 0, 1) := by decide +kernel
theorem dX10_canFill_6 : decode cX10_canFill 6 = .ok (.getfield 19, 3) := by decide +kernel
theorem dX10_canFill_9 : decode cX10_canFill 9 = .ok (.getfield 316, 3) := by decide +kernel
theorem dX10_canFill_12 : decode cX10_canFill 12 = .ok (.iconst (-1), 1) := by decide +kernel
theorem dX10_canFill_13 : decode cX10_canFill 13 = .ok (.ixor, 1) := by decide +kernel
theorem dX10_canFill_14 : decode cX10_canFill 14 = .ok (.iand, 1) := by decide +kernel
theorem dX10_canFill_15 : decode cX10_canFill 15 = .ok (.ifCond .eq 5, 3) := by decide +kernel
theorem dX10_canFill_18 : decode cX10_canFill 18 = .ok (.iconst 0, 1) := by decide +kernel
theorem dX10_canFill_19 : decode cX10_canFill 19 = .ok (.ireturn, 1) := by decide +kernel
theorem dX10_canFill_20 : decode cX10_canFill 20 = .ok (.iload_n 2, 1) := by decide +kernel
theorem dX10_canFill_21 : decode cX10_canFill 21 = .ok (.invokestatic 165, 3) := by decide +kernel
theorem dX10_canFill_24 : decode cX10_canFill 24 = .ok (.ifCond .eq 32, 3) := by decide +kernel
theorem dX10_canFill_27 : decode cX10_canFill 27 = .ok (.iload_n 3, 1) := by decide +kernel
theorem dX10_canFill_28 : decode cX10_canFill 28 = .ok (.iconst 1, 1) := by decide +kernel
theorem dX10_canFill_29 : decode cX10_canFill 29 = .ok (.if_icmp .lt 27, 3) := by decide +kernel
theorem dX10_canFill_32 : decode cX10_canFill 32 = .ok (.iload_n 3, 1) := by decide +kernel
theorem dX10_canFill_33 : decode cX10_canFill 33 = .ok (.bipush 6, 2) := by decide +kernel
theorem dX10_canFill_35 : decode cX10_canFill 35 = .ok (.if_icmp .gt 21, 3) := by decide +kernel
theorem dX10_canFill_38 : decode cX10_canFill 38 = .ok (.iload_n 2, 1) := by decide +kernel
theorem dX10_canFill_39 : decode cX10_canFill 39 = .ok (.iload_n 3, 1) := by decide +kernel
theorem dX10_canFill_40 : decode cX10_canFill 40 = .ok (.iconst 1, 1) := by decide +kernel
theorem dX10_canFill_41 : decode cX10_canFill 41 = .ok (.isub, 1) := by decide +kernel
theorem dX10_canFill_42 : decode cX10_canFill 42 = .ok (.bipush 60, 2) := by decide +kernel
theorem dX10_canFill_44 : decode cX10_canFill 44 = .ok (.imul, 1) := by decide +kernel
theorem dX10_canFill_45 : decode cX10_canFill 45 = .ok (.iadd, 1) := by decide +kernel
theorem dX10_canFill_46 : decode cX10_canFill 46 = .ok (.invokestatic 165, 3) := by decide +kernel
theorem dX10_canFill_49 : decode cX10_canFill 49 = .ok (.ifCond .eq 7, 3) := by decide +kernel
theorem dX10_canFill_52 : decode cX10_canFill 52 = .ok (.iconst 1, 1) := by decide +kernel
theorem dX10_canFill_53 : decode cX10_canFill 53 = .ok (.goto 4, 3) := by decide +kernel
theorem dX10_canFill_56 : decode cX10_canFill 56 = .ok (.iconst 0, 1) := by decide +kernel
theorem dX10_canFill_57 : decode cX10_canFill 57 = .ok (.ireturn, 1) := by decide +kernel
theorem dX10_isCup_0 : decode cX10_isCup 0 = .ok (.iload_n 0, 1) := by decide +kernel
theorem dX10_isCup_1 : decode cX10_isCup 1 = .ok (.ifCond .lt 12, 3) := by decide +kernel
theorem dX10_isCup_4 : decode cX10_isCup 4 = .ok (.iload_n 0, 1) := by decide +kernel
theorem dX10_isCup_5 : decode cX10_isCup 5 = .ok (.iconst 4, 1) := by decide +kernel
theorem dX10_isCup_6 : decode cX10_isCup 6 = .ok (.if_icmp .ge 7, 3) := by decide +kernel
theorem dX10_isCup_9 : decode cX10_isCup 9 = .ok (.iconst 1, 1) := by decide +kernel
theorem dX10_isCup_10 : decode cX10_isCup 10 = .ok (.goto 4, 3) := by decide +kernel
theorem dX10_isCup_13 : decode cX10_isCup 13 = .ok (.iconst 0, 1) := by decide +kernel
theorem dX10_isCup_14 : decode cX10_isCup 14 = .ok (.ireturn, 1) := by decide +kernel
theorem dX10_isMinute_0 : decode cX10_isMinute 0 = .ok (.iload_n 0, 1) := by decide +kernel
theorem dX10_isMinute_1 : decode cX10_isMinute 1 = .ok (.ifCond .lt 14, 3) := by decide +kernel
theorem dX10_isMinute_4 : decode cX10_isMinute 4 = .ok (.iload_n 0, 1) := by decide +kernel
theorem dX10_isMinute_5 : decode cX10_isMinute 5 = .ok (.sipush 1440, 3) := by decide +kernel
theorem dX10_isMinute_8 : decode cX10_isMinute 8 = .ok (.if_icmp .ge 7, 3) := by decide +kernel
theorem dX10_isMinute_11 : decode cX10_isMinute 11 = .ok (.iconst 1, 1) := by decide +kernel
theorem dX10_isMinute_12 : decode cX10_isMinute 12 = .ok (.goto 4, 3) := by decide +kernel
theorem dX10_isMinute_15 : decode cX10_isMinute 15 = .ok (.iconst 0, 1) := by decide +kernel
theorem dX10_isMinute_16 : decode cX10_isMinute 16 = .ok (.ireturn, 1) := by decide +kernel
theorem dX10_isPart_0 : decode cX10_isPart 0 = .ok (.iload_n 0, 1) := by decide +kernel
theorem dX10_isPart_1 : decode cX10_isPart 1 = .ok (.ifCond .eq 8, 3) := by decide +kernel
theorem dX10_isPart_4 : decode cX10_isPart 4 = .ok (.iload_n 0, 1) := by decide +kernel
theorem dX10_isPart_5 : decode cX10_isPart 5 = .ok (.iconst 1, 1) := by decide +kernel
theorem dX10_isPart_6 : decode cX10_isPart 6 = .ok (.if_icmp .ne 7, 3) := by decide +kernel
theorem dX10_isPart_9 : decode cX10_isPart 9 = .ok (.iconst 1, 1) := by decide +kernel
theorem dX10_isPart_10 : decode cX10_isPart 10 = .ok (.goto 4, 3) := by decide +kernel
theorem dX10_isPart_13 : decode cX10_isPart 13 = .ok (.iconst 0, 1) := by decide +kernel
theorem dX10_isPart_14 : decode cX10_isPart 14 = .ok (.ireturn, 1) := by decide +kernel
theorem dX10_isShyness_0 : decode cX10_isShyness 0 = .ok (.iload_n 0, 1) := by decide +kernel
theorem dX10_isShyness_1 : decode cX10_isShyness 1 = .ok (.iconst (-1), 1) := by decide +kernel
theorem dX10_isShyness_2 : decode cX10_isShyness 2 = .ok (.if_icmp .lt 14, 3) := by decide +kernel
theorem dX10_isShyness_5 : decode cX10_isShyness 5 = .ok (.iload_n 0, 1) := by decide +kernel
theorem dX10_isShyness_6 : decode cX10_isShyness 6 = .ok (.sipush 999, 3) := by decide +kernel
theorem dX10_isShyness_9 : decode cX10_isShyness 9 = .ok (.if_icmp .gt 7, 3) := by decide +kernel
theorem dX10_isShyness_12 : decode cX10_isShyness 12 = .ok (.iconst 1, 1) := by decide +kernel
theorem dX10_isShyness_13 : decode cX10_isShyness 13 = .ok (.goto 4, 3) := by decide +kernel
theorem dX10_isShyness_16 : decode cX10_isShyness 16 = .ok (.iconst 0, 1) := by decide +kernel
theorem dX10_isShyness_17 : decode cX10_isShyness 17 = .ok (.ireturn, 1) := by decide +kernel
theorem dX10_has_0 : decode cX10_has 0 = .ok (.iload_n 0, 1) := by decide +kernel
theorem dX10_has_1 : decode cX10_has 1 = .ok (.iload_n 1, 1) := by decide +kernel
theorem dX10_has_2 : decode cX10_has 2 = .ok (.ishr, 1) := by decide +kernel
