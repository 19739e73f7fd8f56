theorem d_bStart_2 : decode b_bStart 2 = .ok (.putfield 14, 3) := by decide +kernel
theorem d_bStart_5 : decode b_bStart 5 = .ok (.aload_n 0, 1) := by decide +kernel
theorem d_bStart_6 : decode b_bStart 6 = .ok (.iconst (-1), 1) := by decide +kernel
theorem d_bStart_7 : decode b_bStart 7 = .ok (.putfield 18, 3) := by decide +kernel
theorem d_bStart_10 : decode b_bStart 10 = .ok (.aload_n 0, 1) := by decide +kernel
theorem d_bStart_11 : decode b_bStart 11 = .ok (.iconst (-1), 1) := by decide +kernel
theorem d_bStart_12 : decode b_bStart 12 = .ok (.putfield 21, 3) := by decide +kernel
theorem d_bStart_15 : decode b_bStart 15 = .ok (.aload_n 0, 1) := by decide +kernel
theorem d_bStart_16 : decode b_bStart 16 = .ok (.iconst (-1), 1) := by decide +kernel
theorem d_bStart_17 : decode b_bStart 17 = .ok (.putfield 24, 3) := by decide +kernel
theorem d_bStart_20 : decode b_bStart 20 = .ok (.aload_n 0, 1) := by decide +kernel
theorem d_bStart_21 : decode b_bStart 21 = .ok (.iconst (-1), 1) := by decide +kernel
theorem d_bStart_22 : decode b_bStart 22 = .ok (.putfield 27, 3) := by decide +kernel
theorem d_bStart_25 : decode b_bStart 25 = .ok (.aload_n 0, 1) := by decide +kernel
theorem d_bStart_26 : decode b_bStart 26 = .ok (.iconst 0, 1) := by decide +kernel
theorem d_bStart_27 : decode b_bStart 27 = .ok (.putfield 30, 3) := by decide +kernel
theorem d_bStart_30 : decode b_bStart 30 = .ok (.return_, 1) := by decide +kernel
theorem d_bLeavesout_0 : decode b_bLeavesout 0 = .ok (.iload_n 1, 1) := by decide +kernel
theorem d_bLeavesout_1 : decode b_bLeavesout 1 = .ok (.ldc2_w 34, 3) := by decide +kernel
theorem d_bLeavesout_4 : decode b_bLeavesout 4 = .ok (.invokestatic 36, 3) := by decide +kernel
theorem d_bLeavesout_7 : decode b_bLeavesout 7 = .ok (.ifCond .eq 28, 3) := by decide +kernel
theorem d_bLeavesout_10 : decode b_bLeavesout 10 = .ok (.aload_n 0, 1) := by decide +kernel
theorem d_bLeavesout_11 : decode b_bLeavesout 11 = .ok (.getfield 14, 3) := by decide +kernel
theorem d_bLeavesout_14 : decode b_bLeavesout 14 = .ok (.iconst (-1), 1) := by decide +kernel
theorem d_bLeavesout_15 : decode b_bLeavesout 15 = .ok (.if_icmp .eq 20, 3) := by decide +kernel
theorem d_bLeavesout_18 : decode b_bLeavesout 18 = .ok (.aload_n 0, 1) := by decide +kernel
theorem d_bLeavesout_19 : decode b_bLeavesout 19 = .ok (.getfield 14, 3) := by decide +kernel
theorem d_bLeavesout_22 : decode b_bLeavesout 22 = .ok (.ldc2_w 40, 3) := by decide +kernel
theorem d_bLeavesout_25 : decode b_bLeavesout 25 = .ok (.invokestatic 36, 3) := by decide +kernel
theorem d_bLeavesout_28 : decode b_bLeavesout 28 = .ok (.ifCond .ne 7, 3) := by decide +kernel
theorem d_bLeavesout_31 : decode b_bLeavesout 31 = .ok (.iconst 1, 1) := by decide +kernel
theorem d_bLeavesout_32 : decode b_bLeavesout 32 = .ok (.goto 4, 3) := by decide +kernel
theorem d_bLeavesout_35 : decode b_bLeavesout 35 = .ok (.iconst 0, 1) := by decide +kernel
theorem d_bLeavesout_36 : decode b_bLeavesout 36 = .ok (.ireturn, 1) := by decide +kernel
theorem d_bPass_0 : decode b_bPass 0 = .ok (.aload_n 0, 1) := by decide +kernel
theorem d_bPass_1 : decode b_bPass 1 = .ok (.iload_n 1, 1) := by decide +kernel
theorem d_bPass_2 : decode b_bPass 2 = .ok (.invokevirtual 42, 3) := by decide +kernel
theorem d_bPass_5 : decode b_bPass 5 = .ok (.istore_n 3, 1) := by decide +kernel
theorem d_bPass_6 : decode b_bPass 6 = .ok (.aload_n 0, 1) := by decide +kernel
theorem d_bPass_7 : decode b_bPass 7 = .ok (.iload_n 1, 1) := by decide +kernel
theorem d_bPass_8 : decode b_bPass 8 = .ok (.putfield 14, 3) := by decide +kernel
theorem d_bPass_11 : decode b_bPass 11 = .ok (.iload_n 3, 1) := by decide +kernel
theorem d_bPass_12 : decode b_bPass 12 = .ok (.ifCond .eq 4, 3) := by decide +kernel
theorem d_bPass_15 : decode b_bPass 15 = .ok (.return_, 1) := by decide +kernel
theorem d_bPass_16 : decode b_bPass 16 = .ok (.aload_n 0, 1) := by decide +kernel
theorem d_bPass_17 : decode b_bPass 17 = .ok (.aload_n 0, 1) := by decide +kernel
theorem d_bPass_18 : decode b_bPass 18 = .ok (.getfield 18, 3) := by decide +kernel
theorem d_bPass_21 : decode b_bPass 21 = .ok (.putfield 24, 3) := by decide +kernel
theorem d_bPass_24 : decode b_bPass 24 = .ok (.aload_n 0, 1) := by decide +kernel
theorem d_bPass_25 : decode b_bPass 25 = .ok (.iload_n 1, 1) := by decide +kernel
theorem d_bPass_26 : decode b_bPass 26 = .ok (.invokestatic 46, 3) := by decide +kernel
theorem d_bPass_29 : decode b_bPass 29 = .ok (.putfield 18, 3) := by decide +kernel
theorem d_bPass_32 : decode b_bPass 32 = .ok (.aload_n 0, 1) := by decide +kernel
theorem d_bPass_33 : decode b_bPass 33 = .ok (.iload_n 2, 1) := by decide +kernel
theorem d_bPass_34 : decode b_bPass 34 = .ok (.putfield 21, 3) := by decide +kernel
theorem d_bPass_37 : decode b_bPass 37 = .ok (.aload_n 0, 1) := by decide +kernel
theorem d_bPass_38 : decode b_bPass 38 = .ok (.getfield 18, 3) := by decide +kernel
theorem d_bPass_41 : decode b_bPass 41 = .ok (.iconst 4, 1) := by decide +kernel
theorem d_bPass_42 : decode b_bPass 42 = .ok (.if_icmp .eq 11, 3) := by decide +kernel
theorem d_bPass_45 : decode b_bPass 45 = .ok (.aload_n 0, 1) := by decide +kernel
theorem d_bPass_46 : decode b_bPass 46 = .ok (.aload_n 0, 1) := by decide +kernel
theorem d_bPass_47 : decode b_bPass 47 = .ok (.getfield 18, 3) := by decide +kernel
theorem d_bPass_50 : decode b_bPass 50 = .ok (.putfield 27, 3) := by decide +kernel
theorem d_bPass_53 : decode b_bPass 53 = .ok (.aload_n 0, 1) := by decide +kernel
theorem d_bPass_54 : decode b_bPass 54 = .ok (.aload_n 0, 1) := by decide +kernel
theorem d_bPass_55 : decode b_bPass 55 = .ok (.getfield 18, 3) := by decide +kernel
theorem d_bPass_58 : decode b_bPass 58 = .ok (.bipush 37, 2) := by decide +kernel
theorem d_bPass_60 : decode b_bPass 60 = .ok (.if_icmp .ne 14, 3) := by decide +kernel
theorem d_bPass_63 : decode b_bPass 63 = .ok (.aload_n 0, 1) := by decide +kernel
theorem d_bPass_64 : decode b_bPass 64 = .ok (.getfield 30, 3) := by decide +kernel
theorem d_bPass_67 : decode b_bPass 67 = .ok (.ifCond .ne 7, 3) := by decide +kernel
theorem d_bPass_70 : decode b_bPass 70 = .ok (.iconst 1, 1) := by decide +kernel
theorem d_bPass_71 : decode b_bPass 71 = .ok (.goto 4, 3) := by decide +kernel
theorem d_bPass_74 : decode b_bPass 74 = .ok (.iconst 0, 1) := by decide +kernel
theorem d_bPass_75 : decode b_bPass 75 = .ok (.putfield 30, 3) := by decide +kernel
theorem d_bPass_78 : decode b_bPass 78 = .ok (.return_, 1) := by decide +kernel
theorem d_isPosition_0 : decode b_isPosition 0 = .ok (.iload_n 1, 1) := by decide +kernel
theorem d_isPosition_1 : decode b_isPosition 1 = .ok (.ifCond .lt 15, 3) := by decide +kernel
theorem d_isPosition_4 : decode b_isPosition 4 = .ok (.iload_n 1, 1) := by decide +kernel
theorem d_isPosition_5 : decode b_isPosition 5 = .ok (.aload_n 0, 1) := by decide +kernel
theorem d_isPosition_6 : decode b_isPosition 6 = .ok (.getfield 44, 3) := by decide +kernel
theorem d_isPosition_9 : decode b_isPosition 9 = .ok (.if_icmp .ge 7, 3) := by decide +kernel
theorem d_isPosition_12 : decode b_isPosition 12 = .ok (.iconst 1, 1) := by decide +kernel
theorem d_isPosition_13 : decode b_isPosition 13 = .ok (.goto 4, 3) := by decide +kernel
theorem d_isPosition_16 : decode b_isPosition 16 = .ok (.iconst 0, 1) := by decide +kernel
theorem d_isPosition_17 : decode b_isPosition 17 = .ok (.ireturn, 1) := by decide +kernel
theorem d_isPlace_0 : decode b_isPlace 0 = .ok (.iload_n 1, 1) := by decide +kernel
theorem d_isPlace_1 : decode b_isPlace 1 = .ok (.ifCond .lt 15, 3) := by decide +kernel
theorem d_isPlace_4 : decode b_isPlace 4 = .ok (.iload_n 1, 1) := by decide +kernel
theorem d_isPlace_5 : decode b_isPlace 5 = .ok (.aload_n 0, 1) := by decide +kernel
theorem d_isPlace_6 : decode b_isPlace 6 = .ok (.getfield 44, 3) := by decide +kernel
theorem d_isPlace_9 : decode b_isPlace 9 = .ok (.if_icmp .gt 7, 3) := by decide +kernel
theorem d_isPlace_12 : decode b_isPlace 12 = .ok (.iconst 1, 1) := by decide +kernel
theorem d_isPlace_13 : decode b_isPlace 13 = .ok (.goto 4, 3) := by decide +kernel
theorem d_isPlace_16 : decode b_isPlace 16 = .ok (.iconst 0, 1) := by decide +kernel
theorem d_isPlace_17 : decode b_isPlace 17 = .ok (.ireturn, 1) := by decide +kernel
theorem d_forgetRules_0 : decode b_forgetRules 0 = .ok (.aload_n 0, 1) := by decide +kernel
theorem d_forgetRules_1 : decode b_forgetRules 1 = .ok (.iconst 0, 1) := by decide +kernel
theorem d_forgetRules_2 : decode b_forgetRules 2 = .ok (.putfield 52, 3) := by decide +kernel
theorem d_forgetRules_5 : decode b_forgetRules 5 = .ok (.aload_n 0, 1) := by decide +kernel
theorem d_forgetRules_6 : decode b_forgetRules 6 = .ok (.getfield 40, 3) := by decide +kernel
theorem d_forgetRules_9 : decode b_forgetRules 9 = .ok (.invokevirtual 148, 3) := by decide +kernel
theorem d_forgetRules_12 : decode b_forgetRules 12 = .ok (.return_, 1) := by decide +kernel
theorem d_kindAt_0 : decode b_kindAt 0 = .ok (.aload_n 0, 1) := by decide +kernel
theorem d_kindAt_1 : decode b_kindAt 1 = .ok (.getfield 13, 3) := by decide +kernel
theorem d_kindAt_4 : decode b_kindAt 4 = .ok (.iload_n 1, 1) := by decide +kernel
theorem d_kindAt_5 : decode b_kindAt 5 = .ok (.iaload, 1) := by decide +kernel
theorem d_kindAt_6 : decode b_kindAt 6 = .ok (.tableswitch 59 38 43 #[38, 38, 38, 38, 41, 44], 38) := by decide +kernel
theorem d_kindAt_44 : decode b_kindAt 44 = .ok (.bipush 27, 2) := by decide +kernel
theorem d_kindAt_46 : decode b_kindAt 46 = .ok (.ireturn, 1) := by decide +kernel
theorem d_kindAt_47 : decode b_kindAt 47 = .ok (.bipush 8, 2) := by decide +kernel
theorem d_kindAt_49 : decode b_kindAt 49 = .ok (.ireturn, 1) := by decide +kernel
theorem d_kindAt_50 : decode b_kindAt 50 = .ok (.aload_n 0, 1) := by decide +kernel
theorem d_kindAt_51 : decode b_kindAt 51 = .ok (.getfield 48, 3) := by decide +kernel
theorem d_kindAt_54 : decode b_kindAt 54 = .ok (.ifCond .eq 8, 3) := by decide +kernel
theorem d_kindAt_57 : decode b_kindAt 57 = .ok (.bipush 29, 2) := by decide +kernel
theorem d_kindAt_59 : decode b_kindAt 59 = .ok (.goto 5, 3) := by decide +kernel
theorem d_kindAt_62 : decode b_kindAt 62 = .ok (.bipush 19, 2) := by decide +kernel
theorem d_kindAt_64 : decode b_kindAt 64 = .ok (.ireturn, 1) := by decide +kernel
theorem d_kindAt_65 : decode b_kindAt 65 = .ok (.aload_n 0, 1) := by decide +kernel
theorem d_kindAt_66 : decode b_kindAt 66 = .ok (.getfield 13, 3) := by decide +kernel
theorem d_kindAt_69 : decode b_kindAt 69 = .ok (.iload_n 1, 1) := by decide +kernel
theorem d_kindAt_70 : decode b_kindAt 70 = .ok (.iaload, 1) := by decide +kernel
theorem d_kindAt_71 : decode b_kindAt 71 = .ok (.ireturn, 1) := by decide +kernel
theorem d_isBetween_0 : decode b_isBetween 0 = .ok (.iload_n 1, 1) := by decide +kernel
theorem d_isBetween_1 : decode b_isBetween 1 = .ok (.ifCond .le 35, 3) := by decide +kernel
theorem d_isBetween_4 : decode b_isBetween 4 = .ok (.iload_n 1, 1) := by decide +kernel
theorem d_isBetween_5 : decode b_isBetween 5 = .ok (.aload_n 0, 1) := by decide +kernel
theorem d_isBetween_6 : decode b_isBetween 6 = .ok (.getfield 44, 3) := by decide +kernel
theorem d_isBetween_9 : decode b_isBetween 9 = .ok (.if_icmp .ge 27, 3) := by decide +kernel
theorem d_isBetween_12 : decode b_isBetween 12 = .ok (.aload_n 0, 1) := by decide +kernel
theorem d_isBetween_13 : decode b_isBetween 13 = .ok (.iload_n 1, 1) := by decide +kernel
theorem d_isBetween_14 : decode b_isBetween 14 = .ok (.iconst 1, 1) := by decide +kernel
theorem d_isBetween_15 : decode b_isBetween 15 = .ok (.isub, 1) := by decide +kernel
theorem d_isBetween_16 : decode b_isBetween 16 = .ok (.invokevirtual 114, 3) := by decide +kernel
theorem d_isBetween_19 : decode b_isBetween 19 = .ok (.iconst 1, 1) := by decide +kernel
theorem d_isBetween_20 : decode b_isBetween 20 = .ok (.if_icmp .ne 16, 3) := by decide +kernel
theorem d_isBetween_23 : decode b_isBetween 23 = .ok (.aload_n 0, 1) := by decide +kernel
theorem d_isBetween_24 : decode b_isBetween 24 = .ok (.iload_n 1, 1) := by decide +kernel
theorem d_isBetween_25 : decode b_isBetween 25 = .ok (.invokevirtual 114, 3) := by decide +kernel
theorem d_isBetween_28 : decode b_isBetween 28 = .ok (.iconst 2, 1) := by decide +kernel
theorem d_isBetween_29 : decode b_isBetween 29 = .ok (.if_icmp .ne 7, 3) := by decide +kernel
theorem d_isBetween_32 : decode b_isBetween 32 = .ok (.iconst 1, 1) := by decide +kernel
theorem d_isBetween_33 : decode b_isBetween 33 = .ok (.goto 4, 3) := by decide +kernel
theorem d_isBetween_36 : decode b_isBetween 36 = .ok (.iconst 0, 1) := by decide +kernel
theorem d_isBetween_37 : decode b_isBetween 37 = .ok (.ireturn, 1) := by decide +kernel
theorem d_ruleOfSpaces_0 : decode b_ruleOfSpaces 0 = .ok (.aload_n 0, 1) := by decide +kernel
theorem d_ruleOfSpaces_1 : decode b_ruleOfSpaces 1 = .ok (.getfield 40, 3) := by decide +kernel
theorem d_ruleOfSpaces_4 : decode b_ruleOfSpaces 4 = .ok (.getfield 192, 3) := by decide +kernel
theorem d_ruleOfSpaces_7 : decode b_ruleOfSpaces 7 = .ok (.ifCond .ne 6, 3) := by decide +kernel
theorem d_ruleOfSpaces_10 : decode b_ruleOfSpaces 10 = .ok (.bipush 40, 2) := by decide +kernel
theorem d_ruleOfSpaces_12 : decode b_ruleOfSpaces 12 = .ok (.ireturn, 1) := by decide +kernel
theorem d_ruleOfSpaces_13 : decode b_ruleOfSpaces 13 = .ok (.aload_n 0, 1) := by decide +kernel
theorem d_ruleOfSpaces_14 : decode b_ruleOfSpaces 14 = .ok (.getfield 40, 3) := by decide +kernel
theorem d_ruleOfSpaces_17 : decode b_ruleOfSpaces 17 = .ok (.getfield 192, 3) := by decide +kernel
theorem d_ruleOfSpaces_20 : decode b_ruleOfSpaces 20 = .ok (.ldc2_w 195, 3) := by decide +kernel
theorem d_ruleOfSpaces_23 : decode b_ruleOfSpaces 23 = .ok (.invokestatic 130, 3) := by decide +kernel
theorem d_ruleOfSpaces_26 : decode b_ruleOfSpaces 26 = .ok (.ifCond .eq 6, 3) := by decide +kernel
theorem d_ruleOfSpaces_29 : decode b_ruleOfSpaces 29 = .ok (.bipush 50, 2) := by decide +kernel
theorem d_ruleOfSpaces_31 : decode b_ruleOfSpaces 31 = .ok (.ireturn, 1) := by decide +kernel
theorem d_ruleOfSpaces_32 : decode b_ruleOfSpaces 32 = .ok (.iload_n 1, 1) := by decide +kernel
theorem d_ruleOfSpaces_33 : decode b_ruleOfSpaces 33 = .ok (.ldc2_w 195, 3) := by decide +kernel
theorem d_ruleOfSpaces_36 : decode b_ruleOfSpaces 36 = .ok (.invokestatic 130, 3) := by decide +kernel
theorem d_ruleOfSpaces_39 : decode b_ruleOfSpaces 39 = .ok (.ifCond .eq 6, 3) := by decide +kernel
theorem d_ruleOfSpaces_42 : decode b_ruleOfSpaces 42 = .ok (.bipush 60, 2) := by decide +kernel
theorem d_ruleOfSpaces_44 : decode b_ruleOfSpaces 44 = .ok (.ireturn, 1) := by decide +kernel
theorem d_ruleOfSpaces_45 : decode b_ruleOfSpaces 45 = .ok (.iload_n 1, 1) := by decide +kernel
theorem d_ruleOfSpaces_46 : decode b_ruleOfSpaces 46 = .ok (.ldc2_w 197, 3) := by decide +kernel
theorem d_ruleOfSpaces_49 : decode b_ruleOfSpaces 49 = .ok (.invokestatic 130, 3) := by decide +kernel
theorem d_ruleOfSpaces_52 : decode b_ruleOfSpaces 52 = .ok (.ifCond .eq 6, 3) := by decide +kernel
theorem d_ruleOfSpaces_55 : decode b_ruleOfSpaces 55 = .ok (.bipush 70, 2) := by decide +kernel
theorem d_ruleOfSpaces_57 : decode b_ruleOfSpaces 57 = .ok (.ireturn, 1) := by decide +kernel
theorem d_ruleOfSpaces_58 : decode b_ruleOfSpaces 58 = .ok (.aload_n 0, 1) := by decide +kernel
theorem d_ruleOfSpaces_59 : decode b_ruleOfSpaces 59 = .ok (.getfield 40, 3) := by decide +kernel
theorem d_ruleOfSpaces_62 : decode b_ruleOfSpaces 62 = .ok (.getfield 173, 3) := by decide +kernel
theorem d_ruleOfSpaces_65 : decode b_ruleOfSpaces 65 = .ok (.iconst 5, 1) := by decide +kernel
theorem d_ruleOfSpaces_66 : decode b_ruleOfSpaces 66 = .ok (.if_icmp .ne 6, 3) := by decide +kernel
theorem d_ruleOfSpaces_69 : decode b_ruleOfSpaces 69 = .ok (.bipush 80, 2) := by decide +kernel
theorem d_ruleOfSpaces_71 : decode b_ruleOfSpaces 71 = .ok (.ireturn, 1) := by decide +kernel
theorem d_ruleOfSpaces_72 : decode b_ruleOfSpaces 72 = .ok (.aload_n 0, 1) := by decide +kernel
theorem d_ruleOfSpaces_73 : decode b_ruleOfSpaces 73 = .ok (.getfield 40, 3) := by decide +kernel
theorem d_ruleOfSpaces_76 : decode b_ruleOfSpaces 76 = .ok (.getfield 192, 3) := by decide +kernel
theorem d_ruleOfSpaces_79 : decode b_ruleOfSpaces 79 = .ok (.bipush 7, 2) := by decide +kernel
theorem d_ruleOfSpaces_81 : decode b_ruleOfSpaces 81 = .ok (.if_icmp .ne 6, 3) := by decide +kernel
theorem d_ruleOfSpaces_84 : decode b_ruleOfSpaces 84 = .ok (.bipush 81, 2) := by decide +kernel
theorem d_ruleOfSpaces_86 : decode b_ruleOfSpaces 86 = .ok (.ireturn, 1) := by decide +kernel
theorem d_ruleOfSpaces_87 : decode b_ruleOfSpaces 87 = .ok (.aload_n 0, 1) := by decide +kernel
theorem d_ruleOfSpaces_88 : decode b_ruleOfSpaces 88 = .ok (.getfield 40, 3) := by decide +kernel
theorem d_ruleOfSpaces_91 : decode b_ruleOfSpaces 91 = .ok (.iload_n 1, 1) := by decide +kernel
theorem d_ruleOfSpaces_92 : decode b_ruleOfSpaces 92 = .ok (.invokevirtual 199, 3) := by decide +kernel
theorem d_ruleOfSpaces_95 : decode b_ruleOfSpaces 95 = .ok (.ifCond .eq 8, 3) := by decide +kernel
theorem d_ruleOfSpaces_98 : decode b_ruleOfSpaces 98 = .ok (.bipush 90, 2) := by decide +kernel
theorem d_ruleOfSpaces_100 : decode b_ruleOfSpaces 100 = .ok (.goto 4, 3) := by decide +kernel
theorem d_ruleOfSpaces_103 : decode b_ruleOfSpaces 103 = .ok (.iconst 0, 1) := by decide +kernel
theorem d_ruleOfSpaces_104 : decode b_ruleOfSpaces 104 = .ok (.ireturn, 1) := by decide +kernel
theorem d_ruleOfSigns_0 : decode b_ruleOfSigns 0 = .ok (.iload_n 1, 1) := by decide +kernel
theorem d_ruleOfSigns_1 : decode b_ruleOfSigns 1 = .ok (.iconst 4, 1) := by decide +kernel
theorem d_ruleOfSigns_2 : decode b_ruleOfSigns 2 = .ok (.if_icmp .ne 7, 3) := by decide +kernel
theorem d_ruleOfSigns_5 : decode b_ruleOfSigns 5 = .ok (.sipush 180, 3) := by decide +kernel
theorem d_ruleOfSigns_8 : decode b_ruleOfSigns 8 = .ok (.ireturn, 1) := by decide +kernel
theorem d_ruleOfSigns_9 : decode b_ruleOfSigns 9 = .ok (.iload_n 1, 1) := by decide +kernel
theorem d_ruleOfSigns_10 : decode b_ruleOfSigns 10 = .ok (.bipush 21, 2) := by decide +kernel
theorem d_ruleOfSigns_12 : decode b_ruleOfSigns 12 = .ok (.if_icmp .eq 9, 3) := by decide +kernel
theorem d_ruleOfSigns_15 : decode b_ruleOfSigns 15 = .ok (.iload_n 2, 1) := by decide +kernel
theorem d_ruleOfSigns_16 : decode b_ruleOfSigns 16 = .ok (.bipush 21, 2) := by decide +kernel
theorem d_ruleOfSigns_18 : decode b_ruleOfSigns 18 = .ok (.if_icmp .ne 7, 3) := by decide +kernel
theorem d_ruleOfSigns_21 : decode b_ruleOfSigns 21 = .ok (.sipush 190, 3) := by decide +kernel
theorem d_ruleOfSigns_24 : decode b_ruleOfSigns 24 = .ok (.ireturn, 1) := by decide +kernel
theorem d_ruleOfSigns_25 : decode b_ruleOfSigns 25 = .ok (.iload_n 1, 1) := by decide +kernel
theorem d_ruleOfSigns_26 : decode b_ruleOfSigns 26 = .ok (.bipush 14, 2) := by decide +kernel
theorem d_ruleOfSigns_28 : decode b_ruleOfSigns 28 = .ok (.if_icmp .eq 9, 3) := by decide +kernel
theorem d_ruleOfSigns_31 : decode b_ruleOfSigns 31 = .ok (.iload_n 2, 1) := by decide +kernel
theorem d_ruleOfSigns_32 : decode b_ruleOfSigns 32 = .ok (.bipush 14, 2) := by decide +kernel
theorem d_ruleOfSigns_34 : decode b_ruleOfSigns 34 = .ok (.if_icmp .ne 7, 3) := by decide +kernel
theorem d_ruleOfSigns_37 : decode b_ruleOfSigns 37 = .ok (.sipush 200, 3) := by decide +kernel
theorem d_ruleOfSigns_40 : decode b_ruleOfSigns 40 = .ok (.ireturn, 1) := by decide +kernel
theorem d_ruleOfSigns_41 : decode b_ruleOfSigns 41 = .ok (.iload_n 2, 1) := by decide +kernel
theorem d_ruleOfSigns_42 : decode b_ruleOfSigns 42 = .ok (.ldc2_w 202, 3) := by decide +kernel
theorem d_ruleOfSigns_45 : decode b_ruleOfSigns 45 = .ok (.invokestatic 130, 3) := by decide +kernel
theorem d_ruleOfSigns_48 : decode b_ruleOfSigns 48 = .ok (.ifCond .ne 15, 3) := by decide +kernel
theorem d_ruleOfSigns_51 : decode b_ruleOfSigns 51 = .ok (.iload_n 2, 1) := by decide +kernel
theorem d_ruleOfSigns_52 : decode b_ruleOfSigns 52 = .ok (.bipush 19, 2) := by decide +kernel
theorem d_ruleOfSigns_54 : decode b_ruleOfSigns 54 = .ok (.if_icmp .eq 9, 3) := by decide +kernel
theorem d_ruleOfSigns_57 : decode b_ruleOfSigns 57 = .ok (.iload_n 1, 1) := by decide +kernel
theorem d_ruleOfSigns_58 : decode b_ruleOfSigns 58 = .ok (.bipush 12, 2) := by decide +kernel
theorem d_ruleOfSigns_60 : decode b_ruleOfSigns 60 = .ok (.if_icmp .ne 7, 3) := by decide +kernel
theorem d_ruleOfSigns_63 : decode b_ruleOfSigns 63 = .ok (.sipush 210, 3) := by decide +kernel
theorem d_ruleOfSigns_66 : decode b_ruleOfSigns 66 = .ok (.ireturn, 1) := by decide +kernel
theorem d_ruleOfSigns_67 : decode b_ruleOfSigns 67 = .ok (.iload_n 1, 1) := by decide +kernel
theorem d_ruleOfSigns_68 : decode b_ruleOfSigns 68 = .ok (.ldc2_w 202, 3) := by decide +kernel
theorem d_ruleOfSigns_71 : decode b_ruleOfSigns 71 = .ok (.invokestatic 130, 3) := by decide +kernel
theorem d_ruleOfSigns_74 : decode b_ruleOfSigns 74 = .ok (.ifCond .eq 19, 3) := by decide +kernel
theorem d_ruleOfSigns_77 : decode b_ruleOfSigns 77 = .ok (.aload_n 0, 1) := by decide +kernel
theorem d_ruleOfSigns_78 : decode b_ruleOfSigns 78 = .ok (.getfield 40, 3) := by decide +kernel
theorem d_ruleOfSigns_81 : decode b_ruleOfSigns 81 = .ok (.getfield 208, 3) := by decide +kernel
theorem d_ruleOfSigns_84 : decode b_ruleOfSigns 84 = .ok (.bipush 28, 2) := by decide +kernel
theorem d_ruleOfSigns_86 : decode b_ruleOfSigns 86 = .ok (.if_icmp .ne 7, 3) := by decide +kernel
theorem d_ruleOfSigns_89 : decode b_ruleOfSigns 89 = .ok (.sipush 211, 3) := by decide +kernel
theorem d_ruleOfSigns_92 : decode b_ruleOfSigns 92 = .ok (.ireturn, 1) := by decide +kernel
theorem d_ruleOfSigns_93 : decode b_ruleOfSigns 93 = .ok (.iload_n 1, 1) := by decide +kernel
theorem d_ruleOfSigns_94 : decode b_ruleOfSigns 94 = .ok (.bipush 26, 2) := by decide +kernel
theorem d_ruleOfSigns_96 : decode b_ruleOfSigns 96 = .ok (.if_icmp .ne 13, 3) := by decide +kernel
theorem d_ruleOfSigns_99 : decode b_ruleOfSigns 99 = .ok (.iload_n 2, 1) := by decide +kernel
theorem d_ruleOfSigns_100 : decode b_ruleOfSigns 100 = .ok (.bipush 28, 2) := by decide +kernel
theorem d_ruleOfSigns_102 : decode b_ruleOfSigns 102 = .ok (.if_icmp .ne 7, 3) := by decide +kernel
theorem d_ruleOfSigns_105 : decode b_ruleOfSigns 105 = .ok (.sipush 212, 3) := by decide +kernel
theorem d_ruleOfSigns_108 : decode b_ruleOfSigns 108 = .ok (.ireturn, 1) := by decide +kernel
theorem d_ruleOfSigns_109 : decode b_ruleOfSigns 109 = .ok (.iload_n 2, 1) := by decide +kernel
theorem d_ruleOfSigns_110 : decode b_ruleOfSigns 110 = .ok (.bipush 18, 2) := by decide +kernel
theorem d_ruleOfSigns_112 : decode b_ruleOfSigns 112 = .ok (.if_icmp .ne 9, 3) := by decide +kernel
theorem d_ruleOfSigns_115 : decode b_ruleOfSigns 115 = .ok (.sipush 220, 3) := by decide +kernel
theorem d_ruleOfSigns_118 : decode b_ruleOfSigns 118 = .ok (.goto 4, 3) := by decide +kernel
theorem d_ruleOfSigns_121 : decode b_ruleOfSigns 121 = .ok (.iconst 0, 1) := by decide +kernel
theorem d_ruleOfSigns_122 : decode b_ruleOfSigns 122 = .ok (.ireturn, 1) := by decide +kernel
theorem d_ruleOfMarks_0 : decode b_ruleOfMarks 0 = .ok (.iload_n 1, 1) := by decide +kernel
theorem d_ruleOfMarks_1 : decode b_ruleOfMarks 1 = .ok (.ldc2_w 223, 3) := by decide +kernel
theorem d_ruleOfMarks_4 : decode b_ruleOfMarks 4 = .ok (.invokestatic 130, 3) := by decide +kernel
theorem d_ruleOfMarks_7 : decode b_ruleOfMarks 7 = .ok (.ifCond .eq 24, 3) := by decide +kernel
theorem d_ruleOfMarks_10 : decode b_ruleOfMarks 10 = .ok (.iload_n 2, 1) := by decide +kernel
theorem d_ruleOfMarks_11 : decode b_ruleOfMarks 11 = .ok (.bipush 20, 2) := by decide +kernel
theorem d_ruleOfMarks_13 : decode b_ruleOfMarks 13 = .ok (.if_icmp .ne 18, 3) := by decide +kernel
theorem d_ruleOfMarks_16 : decode b_ruleOfMarks 16 = .ok (.aload_n 0, 1) := by decide +kernel
theorem d_ruleOfMarks_17 : decode b_ruleOfMarks 17 = .ok (.getfield 31, 3) := by decide +kernel
theorem d_ruleOfMarks_20 : decode b_ruleOfMarks 20 = .ok (.iload_n 3, 1) := by decide +kernel
theorem d_ruleOfMarks_21 : decode b_ruleOfMarks 21 = .ok (.invokestatic 225, 3) := by decide +kernel
theorem d_ruleOfMarks_24 : decode b_ruleOfMarks 24 = .ok (.ifCond .ne 7, 3) := by decide +kernel
theorem d_ruleOfMarks_27 : decode b_ruleOfMarks 27 = .ok (.sipush 300, 3) := by decide +kernel
theorem d_ruleOfMarks_30 : decode b_ruleOfMarks 30 = .ok (.ireturn, 1) := by decide +kernel
theorem d_ruleOfMarks_31 : decode b_ruleOfMarks 31 = .ok (.iload_n 1, 1) := by decide +kernel
theorem d_ruleOfMarks_32 : decode b_ruleOfMarks 32 = .ok (.bipush 16, 2) := by decide +kernel
theorem d_ruleOfMarks_34 : decode b_ruleOfMarks 34 = .ok (.if_icmp .ne 34, 3) := by decide +kernel
theorem d_ruleOfMarks_37 : decode b_ruleOfMarks 37 = .ok (.iload_n 2, 1) := by decide +kernel
theorem d_ruleOfMarks_38 : decode b_ruleOfMarks 38 = .ok (.ldc2_w 223, 3) := by decide +kernel
theorem d_ruleOfMarks_41 : decode b_ruleOfMarks 41 = .ok (.invokestatic 130, 3) := by decide +kernel
theorem d_ruleOfMarks_44 : decode b_ruleOfMarks 44 = .ok (.ifCond .eq 24, 3) := by decide +kernel
theorem d_ruleOfMarks_47 : decode b_ruleOfMarks 47 = .ok (.aload_n 0, 1) := by decide +kernel
theorem d_ruleOfMarks_48 : decode b_ruleOfMarks 48 = .ok (.getfield 31, 3) := by decide +kernel
theorem d_ruleOfMarks_51 : decode b_ruleOfMarks 51 = .ok (.aload_n 0, 1) := by decide +kernel
theorem d_ruleOfMarks_52 : decode b_ruleOfMarks 52 = .ok (.getfield 40, 3) := by decide +kernel
theorem d_ruleOfMarks_55 : decode b_ruleOfMarks 55 = .ok (.getfield 229, 3) := by decide +kernel
theorem d_ruleOfMarks_58 : decode b_ruleOfMarks 58 = .ok (.invokestatic 225, 3) := by decide +kernel
theorem d_ruleOfMarks_61 : decode b_ruleOfMarks 61 = .ok (.ifCond .ne 7, 3) := by decide +kernel
theorem d_ruleOfMarks_64 : decode b_ruleOfMarks 64 = .ok (.sipush 300, 3) := by decide +kernel
theorem d_ruleOfMarks_67 : decode b_ruleOfMarks 67 = .ok (.ireturn, 1) := by decide +kernel
theorem d_ruleOfMarks_68 : decode b_ruleOfMarks 68 = .ok (.iload_n 1, 1) := by decide +kernel
theorem d_ruleOfMarks_69 : decode b_ruleOfMarks 69 = .ok (.bipush 37, 2) := by decide +kernel
theorem d_ruleOfMarks_71 : decode b_ruleOfMarks 71 = .ok (.if_icmp .ne 23, 3) := by decide +kernel
theorem d_ruleOfMarks_74 : decode b_ruleOfMarks 74 = .ok (.iload_n 2, 1) := by decide +kernel
theorem d_ruleOfMarks_75 : decode b_ruleOfMarks 75 = .ok (.bipush 37, 2) := by decide +kernel
theorem d_ruleOfMarks_77 : decode b_ruleOfMarks 77 = .ok (.if_icmp .ne 17, 3) := by decide +kernel
theorem d_ruleOfMarks_80 : decode b_ruleOfMarks 80 = .ok (.aload_n 0, 1) := by decide +kernel
theorem d_ruleOfMarks_81 : decode b_ruleOfMarks 81 = .ok (.getfield 40, 3) := by decide +kernel
theorem d_ruleOfMarks_84 : decode b_ruleOfMarks 84 = .ok (.getfield 232, 3) := by decide +kernel
theorem d_ruleOfMarks_87 : decode b_ruleOfMarks 87 = .ok (.ifCond .eq 7, 3) := by decide +kernel
theorem d_ruleOfMarks_90 : decode b_ruleOfMarks 90 = .ok (.sipush 301, 3) := by decide +kernel
theorem d_ruleOfMarks_93 : decode b_ruleOfMarks 93 = .ok (.ireturn, 1) := by decide +kernel
theorem d_ruleOfMarks_94 : decode b_ruleOfMarks 94 = .ok (.iload_n 2, 1) := by decide +kernel
theorem d_ruleOfMarks_95 : decode b_ruleOfMarks 95 = .ok (.bipush 31, 2) := by decide +kernel
theorem d_ruleOfMarks_97 : decode b_ruleOfMarks 97 = .ok (.if_icmp .ne 30, 3) := by decide +kernel
theorem d_ruleOfMarks_100 : decode b_ruleOfMarks 100 = .ok (.iload_n 1, 1) := by decide +kernel
theorem d_ruleOfMarks_101 : decode b_ruleOfMarks 101 = .ok (.bipush 30, 2) := by decide +kernel
theorem d_ruleOfMarks_103 : decode b_ruleOfMarks 103 = .ok (.if_icmp .eq 20, 3) := by decide +kernel
theorem d_ruleOfMarks_106 : decode b_ruleOfMarks 106 = .ok (.aload_n 0, 1) := by decide +kernel
theorem d_ruleOfMarks_107 : decode b_ruleOfMarks 107 = .ok (.getfield 34, 3) := by decide +kernel
theorem d_ruleOfMarks_110 : decode b_ruleOfMarks 110 = .ok (.aload_n 0, 1) := by decide +kernel
theorem d_ruleOfMarks_111 : decode b_ruleOfMarks 111 = .ok (.getfield 40, 3) := by decide +kernel
theorem d_ruleOfMarks_114 : decode b_ruleOfMarks 114 = .ok (.getfield 229, 3) := by decide +kernel
theorem d_ruleOfMarks_117 : decode b_ruleOfMarks 117 = .ok (.invokestatic 225, 3) := by decide +kernel
theorem d_ruleOfMarks_120 : decode b_ruleOfMarks 120 = .ok (.ifCond .eq 7, 3) := by decide +kernel
theorem d_ruleOfMarks_123 : decode b_ruleOfMarks 123 = .ok (.sipush 302, 3) := by decide +kernel
theorem d_ruleOfMarks_126 : decode b_ruleOfMarks 126 = .ok (.ireturn, 1) := by decide +kernel
theorem d_ruleOfMarks_127 : decode b_ruleOfMarks 127 = .ok (.iconst 0, 1) := by decide +kernel
theorem d_ruleOfMarks_128 : decode b_ruleOfMarks 128 = .ok (.ireturn, 1) := by decide +kernel
theorem d_findRule_0 : decode b_findRule 0 = .ok (.aload_n 0, 1) := by decide +kernel
theorem d_findRule_1 : decode b_findRule 1 = .ok (.iload_n 1, 1) := by decide +kernel
theorem d_findRule_2 : decode b_findRule 2 = .ok (.invokevirtual 161, 3) := by decide +kernel
theorem d_findRule_5 : decode b_findRule 5 = .ok (.istore_n 3, 1) := by decide +kernel
theorem d_findRule_6 : decode b_findRule 6 = .ok (.iload_n 3, 1) := by decide +kernel
theorem d_findRule_7 : decode b_findRule 7 = .ok (.ifCond .eq 5, 3) := by decide +kernel
theorem d_findRule_10 : decode b_findRule 10 = .ok (.iload_n 3, 1) := by decide +kernel
theorem d_findRule_11 : decode b_findRule 11 = .ok (.ireturn, 1) := by decide +kernel
theorem d_findRule_12 : decode b_findRule 12 = .ok (.iload_n 1, 1) := by decide +kernel
theorem d_findRule_13 : decode b_findRule 13 = .ok (.invokestatic 164, 3) := by decide +kernel
theorem d_findRule_16 : decode b_findRule 16 = .ok (.istore 4, 2) := by decide +kernel
theorem d_findRule_18 : decode b_findRule 18 = .ok (.aload_n 0, 1) := by decide +kernel
theorem d_findRule_19 : decode b_findRule 19 = .ok (.getfield 40, 3) := by decide +kernel
theorem d_findRule_22 : decode b_findRule 22 = .ok (.getfield 167, 3) := by decide +kernel
theorem d_findRule_25 : decode b_findRule 25 = .ok (.iload 4, 2) := by decide +kernel
theorem d_findRule_27 : decode b_findRule 27 = .ok (.invokestatic 170, 3) := by decide +kernel
theorem d_findRule_30 : decode b_findRule 30 = .ok (.istore_n 3, 1) := by decide +kernel
theorem d_findRule_31 : decode b_findRule 31 = .ok (.iload_n 3, 1) := by decide +kernel
theorem d_findRule_32 : decode b_findRule 32 = .ok (.ifCond .ne 16, 3) := by decide +kernel
theorem d_findRule_35 : decode b_findRule 35 = .ok (.aload_n 0, 1) := by decide +kernel
theorem d_findRule_36 : decode b_findRule 36 = .ok (.getfield 40, 3) := by decide +kernel
theorem d_findRule_39 : decode b_findRule 39 = .ok (.getfield 173, 3) := by decide +kernel
theorem d_findRule_42 : decode b_findRule 42 = .ok (.iload 4, 2) := by decide +kernel
theorem d_findRule_44 : decode b_findRule 44 = .ok (.invokestatic 176, 3) := by decide +kernel
theorem d_findRule_47 : decode b_findRule 47 = .ok (.istore_n 3, 1) := by decide +kernel
theorem d_findRule_48 : decode b_findRule 48 = .ok (.iload_n 3, 1) := by decide +kernel
theorem d_findRule_49 : decode b_findRule 49 = .ok (.ifCond .ne 17, 3) := by decide +kernel
theorem d_findRule_52 : decode b_findRule 52 = .ok (.aload_n 0, 1) := by decide +kernel
theorem d_findRule_53 : decode b_findRule 53 = .ok (.aload_n 0, 1) := by decide +kernel
theorem d_findRule_54 : decode b_findRule 54 = .ok (.getfield 40, 3) := by decide +kernel
theorem d_findRule_57 : decode b_findRule 57 = .ok (.getfield 167, 3) := by decide +kernel
theorem d_findRule_60 : decode b_findRule 60 = .ok (.iload 4, 2) := by decide +kernel
theorem d_findRule_62 : decode b_findRule 62 = .ok (.invokevirtual 179, 3) := by decide +kernel
theorem d_findRule_65 : decode b_findRule 65 = .ok (.istore_n 3, 1) := by decide +kernel
theorem d_findRule_66 : decode b_findRule 66 = .ok (.iload_n 3, 1) := by decide +kernel
theorem d_findRule_67 : decode b_findRule 67 = .ok (.ifCond .ne 16, 3) := by decide +kernel
theorem d_findRule_70 : decode b_findRule 70 = .ok (.aload_n 0, 1) := by decide +kernel
