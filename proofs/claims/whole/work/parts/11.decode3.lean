theorem d_next_17 : decode b_next 17 = .ok (.athrow, 1) := by decide +kernel
theorem d_next_18 : decode b_next 18 = .ok (.iload_n 1, 1) := by decide +kernel
theorem d_next_19 : decode b_next 19 = .ok (.iconst 1, 1) := by decide +kernel
theorem d_next_20 : decode b_next 20 = .ok (.iadd, 1) := by decide +kernel
theorem d_next_21 : decode b_next 21 = .ok (.istore_n 2, 1) := by decide +kernel
theorem d_next_22 : decode b_next 22 = .ok (.iload_n 2, 1) := by decide +kernel
theorem d_next_23 : decode b_next 23 = .ok (.aload_n 0, 1) := by decide +kernel
theorem d_next_24 : decode b_next 24 = .ok (.getfield 44, 3) := by decide +kernel
theorem d_next_27 : decode b_next 27 = .ok (.if_icmp .gt 19, 3) := by decide +kernel
theorem d_next_30 : decode b_next 30 = .ok (.aload_n 0, 1) := by decide +kernel
theorem d_next_31 : decode b_next 31 = .ok (.iload_n 2, 1) := by decide +kernel
theorem d_next_32 : decode b_next 32 = .ok (.invokevirtual 120, 3) := by decide +kernel
theorem d_next_35 : decode b_next 35 = .ok (.ifCond .eq 5, 3) := by decide +kernel
theorem d_next_38 : decode b_next 38 = .ok (.iload_n 2, 1) := by decide +kernel
theorem d_next_39 : decode b_next 39 = .ok (.ireturn, 1) := by decide +kernel
theorem d_next_40 : decode b_next 40 = .ok (.iinc 2 1, 3) := by decide +kernel
theorem d_next_43 : decode b_next 43 = .ok (.goto (-21), 3) := by decide +kernel
theorem d_next_46 : decode b_next 46 = .ok (.iconst (-1), 1) := by decide +kernel
theorem d_next_47 : decode b_next 47 = .ok (.ireturn, 1) := by decide +kernel
theorem d_fit_0 : decode b_fit 0 = .ok (.aload_n 0, 1) := by decide +kernel
theorem d_fit_1 : decode b_fit 1 = .ok (.iload_n 1, 1) := by decide +kernel
theorem d_fit_2 : decode b_fit 2 = .ok (.invokevirtual 101, 3) := by decide +kernel
theorem d_fit_5 : decode b_fit 5 = .ok (.ifCond .ne 13, 3) := by decide +kernel
theorem d_fit_8 : decode b_fit 8 = .ok (.new 104, 3) := by decide +kernel
theorem d_fit_11 : decode b_fit 11 = .ok (.dup, 1) := by decide +kernel
theorem d_fit_12 : decode b_fit 12 = .ok (.ldc 118, 2) := by decide +kernel
theorem d_fit_14 : decode b_fit 14 = .ok (.invokespecial 108, 3) := by decide +kernel
theorem d_fit_17 : decode b_fit 17 = .ok (.athrow, 1) := by decide +kernel
theorem d_fit_18 : decode b_fit 18 = .ok (.iload_n 2, 1) := by decide +kernel
theorem d_fit_19 : decode b_fit 19 = .ok (.iconst 1, 1) := by decide +kernel
theorem d_fit_20 : decode b_fit 20 = .ok (.if_icmp .lt 10, 3) := by decide +kernel
theorem d_fit_23 : decode b_fit 23 = .ok (.iload_n 2, 1) := by decide +kernel
theorem d_fit_24 : decode b_fit 24 = .ok (.sipush 2000, 3) := by decide +kernel
theorem d_fit_27 : decode b_fit 27 = .ok (.if_icmp .le 13, 3) := by decide +kernel
theorem d_fit_30 : decode b_fit 30 = .ok (.new 59, 3) := by decide +kernel
theorem d_fit_33 : decode b_fit 33 = .ok (.dup, 1) := by decide +kernel
theorem d_fit_34 : decode b_fit 34 = .ok (.ldc 126, 2) := by decide +kernel
theorem d_fit_36 : decode b_fit 36 = .ok (.invokespecial 63, 3) := by decide +kernel
theorem d_fit_39 : decode b_fit 39 = .ok (.athrow, 1) := by decide +kernel
theorem d_fit_40 : decode b_fit 40 = .ok (.iload_n 1, 1) := by decide +kernel
theorem d_fit_41 : decode b_fit 41 = .ok (.aload_n 0, 1) := by decide +kernel
theorem d_fit_42 : decode b_fit 42 = .ok (.getfield 44, 3) := by decide +kernel
theorem d_fit_45 : decode b_fit 45 = .ok (.if_icmp .ne 7, 3) := by decide +kernel
theorem d_fit_48 : decode b_fit 48 = .ok (.iconst 0, 1) := by decide +kernel
theorem d_fit_49 : decode b_fit 49 = .ok (.goto 4, 3) := by decide +kernel
theorem d_fit_52 : decode b_fit 52 = .ok (.iload_n 2, 1) := by decide +kernel
theorem d_fit_53 : decode b_fit 53 = .ok (.istore_n 3, 1) := by decide +kernel
theorem d_fit_54 : decode b_fit 54 = .ok (.iload_n 1, 1) := by decide +kernel
theorem d_fit_55 : decode b_fit 55 = .ok (.istore 4, 2) := by decide +kernel
theorem d_fit_57 : decode b_fit 57 = .ok (.iload_n 1, 1) := by decide +kernel
theorem d_fit_58 : decode b_fit 58 = .ok (.iconst 1, 1) := by decide +kernel
theorem d_fit_59 : decode b_fit 59 = .ok (.iadd, 1) := by decide +kernel
theorem d_fit_60 : decode b_fit 60 = .ok (.istore 5, 2) := by decide +kernel
theorem d_fit_62 : decode b_fit 62 = .ok (.iload 5, 2) := by decide +kernel
theorem d_fit_64 : decode b_fit 64 = .ok (.aload_n 0, 1) := by decide +kernel
theorem d_fit_65 : decode b_fit 65 = .ok (.getfield 44, 3) := by decide +kernel
theorem d_fit_68 : decode b_fit 68 = .ok (.if_icmp .gt 68, 3) := by decide +kernel
theorem d_fit_71 : decode b_fit 71 = .ok (.aload_n 0, 1) := by decide +kernel
theorem d_fit_72 : decode b_fit 72 = .ok (.iload 5, 2) := by decide +kernel
theorem d_fit_74 : decode b_fit 74 = .ok (.iconst 1, 1) := by decide +kernel
theorem d_fit_75 : decode b_fit 75 = .ok (.isub, 1) := by decide +kernel
theorem d_fit_76 : decode b_fit 76 = .ok (.invokevirtual 114, 3) := by decide +kernel
theorem d_fit_79 : decode b_fit 79 = .ok (.ldc2_w 128, 3) := by decide +kernel
theorem d_fit_82 : decode b_fit 82 = .ok (.invokestatic 130, 3) := by decide +kernel
theorem d_fit_85 : decode b_fit 85 = .ok (.ifCond .ne 7, 3) := by decide +kernel
theorem d_fit_88 : decode b_fit 88 = .ok (.iload 5, 2) := by decide +kernel
theorem d_fit_90 : decode b_fit 90 = .ok (.istore 4, 2) := by decide +kernel
theorem d_fit_92 : decode b_fit 92 = .ok (.iload 4, 2) := by decide +kernel
theorem d_fit_94 : decode b_fit 94 = .ok (.iload_n 1, 1) := by decide +kernel
theorem d_fit_95 : decode b_fit 95 = .ok (.isub, 1) := by decide +kernel
theorem d_fit_96 : decode b_fit 96 = .ok (.iload_n 2, 1) := by decide +kernel
theorem d_fit_97 : decode b_fit 97 = .ok (.if_icmp .le 6, 3) := by decide +kernel
theorem d_fit_100 : decode b_fit 100 = .ok (.goto 36, 3) := by decide +kernel
theorem d_fit_103 : decode b_fit 103 = .ok (.aload_n 0, 1) := by decide +kernel
theorem d_fit_104 : decode b_fit 104 = .ok (.iload 5, 2) := by decide +kernel
theorem d_fit_106 : decode b_fit 106 = .ok (.invokevirtual 120, 3) := by decide +kernel
theorem d_fit_109 : decode b_fit 109 = .ok (.istore 6, 2) := by decide +kernel
theorem d_fit_111 : decode b_fit 111 = .ok (.iload 6, 2) := by decide +kernel
theorem d_fit_113 : decode b_fit 113 = .ok (.ifCond .eq 8, 3) := by decide +kernel
theorem d_fit_116 : decode b_fit 116 = .ok (.iload 5, 2) := by decide +kernel
theorem d_fit_118 : decode b_fit 118 = .ok (.iload_n 1, 1) := by decide +kernel
theorem d_fit_119 : decode b_fit 119 = .ok (.isub, 1) := by decide +kernel
theorem d_fit_120 : decode b_fit 120 = .ok (.istore_n 3, 1) := by decide +kernel
theorem d_fit_121 : decode b_fit 121 = .ok (.iload 6, 2) := by decide +kernel
theorem d_fit_123 : decode b_fit 123 = .ok (.iconst 2, 1) := by decide +kernel
theorem d_fit_124 : decode b_fit 124 = .ok (.if_icmp .ne 6, 3) := by decide +kernel
theorem d_fit_127 : decode b_fit 127 = .ok (.goto 9, 3) := by decide +kernel
theorem d_fit_130 : decode b_fit 130 = .ok (.iinc 5 1, 3) := by decide +kernel
theorem d_fit_133 : decode b_fit 133 = .ok (.goto (-71), 3) := by decide +kernel
theorem d_fit_136 : decode b_fit 136 = .ok (.iload_n 3, 1) := by decide +kernel
theorem d_fit_137 : decode b_fit 137 = .ok (.ireturn, 1) := by decide +kernel
theorem d_property_0 : decode b_property 0 = .ok (.iload_n 1, 1) := by decide +kernel
theorem d_property_1 : decode b_property 1 = .ok (.iload_n 2, 1) := by decide +kernel
theorem d_property_2 : decode b_property 2 = .ok (.invokestatic 55, 3) := by decide +kernel
theorem d_property_5 : decode b_property 5 = .ok (.ifCond .eq 13, 3) := by decide +kernel
theorem d_property_8 : decode b_property 8 = .ok (.iload_n 3, 1) := by decide +kernel
theorem d_property_9 : decode b_property 9 = .ok (.ifCond .lt 9, 3) := by decide +kernel
theorem d_property_12 : decode b_property 12 = .ok (.iload_n 3, 1) := by decide +kernel
theorem d_property_13 : decode b_property 13 = .ok (.bipush 43, 2) := by decide +kernel
theorem d_property_15 : decode b_property 15 = .ok (.if_icmp .le 13, 3) := by decide +kernel
theorem d_property_18 : decode b_property 18 = .ok (.new 59, 3) := by decide +kernel
theorem d_property_21 : decode b_property 21 = .ok (.dup, 1) := by decide +kernel
theorem d_property_22 : decode b_property 22 = .ok (.ldc 61, 2) := by decide +kernel
theorem d_property_24 : decode b_property 24 = .ok (.invokespecial 63, 3) := by decide +kernel
theorem d_property_27 : decode b_property 27 = .ok (.athrow, 1) := by decide +kernel
theorem d_property_28 : decode b_property 28 = .ok (.aload_n 0, 1) := by decide +kernel
theorem d_property_29 : decode b_property 29 = .ok (.getfield 27, 3) := by decide +kernel
theorem d_property_32 : decode b_property 32 = .ok (.invokevirtual 66, 3) := by decide +kernel
theorem d_property_35 : decode b_property 35 = .ok (.ifCond .eq 13, 3) := by decide +kernel
theorem d_property_38 : decode b_property 38 = .ok (.new 70, 3) := by decide +kernel
theorem d_property_41 : decode b_property 41 = .ok (.dup, 1) := by decide +kernel
theorem d_property_42 : decode b_property 42 = .ok (.ldc 72, 2) := by decide +kernel
theorem d_property_44 : decode b_property 44 = .ok (.invokespecial 74, 3) := by decide +kernel
theorem d_property_47 : decode b_property 47 = .ok (.athrow, 1) := by decide +kernel
theorem d_property_48 : decode b_property 48 = .ok (.aload_n 0, 1) := by decide +kernel
theorem d_property_49 : decode b_property 49 = .ok (.getfield 27, 3) := by decide +kernel
theorem d_property_52 : decode b_property 52 = .ok (.iload_n 1, 1) := by decide +kernel
theorem d_property_53 : decode b_property 53 = .ok (.iload_n 2, 1) := by decide +kernel
theorem d_property_54 : decode b_property 54 = .ok (.iload_n 3, 1) := by decide +kernel
theorem d_property_55 : decode b_property 55 = .ok (.invokevirtual 75, 3) := by decide +kernel
theorem d_property_58 : decode b_property 58 = .ok (.iconst 0, 1) := by decide +kernel
theorem d_property_59 : decode b_property 59 = .ok (.istore 4, 2) := by decide +kernel
theorem d_property_61 : decode b_property 61 = .ok (.iload 4, 2) := by decide +kernel
theorem d_property_63 : decode b_property 63 = .ok (.aload_n 0, 1) := by decide +kernel
theorem d_property_64 : decode b_property 64 = .ok (.getfield 44, 3) := by decide +kernel
theorem d_property_67 : decode b_property 67 = .ok (.if_icmp .ge 39, 3) := by decide +kernel
theorem d_property_70 : decode b_property 70 = .ok (.iload_n 1, 1) := by decide +kernel
theorem d_property_71 : decode b_property 71 = .ok (.aload_n 0, 1) := by decide +kernel
theorem d_property_72 : decode b_property 72 = .ok (.getfield 9, 3) := by decide +kernel
theorem d_property_75 : decode b_property 75 = .ok (.iload 4, 2) := by decide +kernel
theorem d_property_77 : decode b_property 77 = .ok (.iaload, 1) := by decide +kernel
theorem d_property_78 : decode b_property 78 = .ok (.if_icmp .gt 22, 3) := by decide +kernel
theorem d_property_81 : decode b_property 81 = .ok (.aload_n 0, 1) := by decide +kernel
theorem d_property_82 : decode b_property 82 = .ok (.getfield 9, 3) := by decide +kernel
theorem d_property_85 : decode b_property 85 = .ok (.iload 4, 2) := by decide +kernel
theorem d_property_87 : decode b_property 87 = .ok (.iaload, 1) := by decide +kernel
theorem d_property_88 : decode b_property 88 = .ok (.iload_n 2, 1) := by decide +kernel
theorem d_property_89 : decode b_property 89 = .ok (.if_icmp .gt 11, 3) := by decide +kernel
theorem d_property_92 : decode b_property 92 = .ok (.aload_n 0, 1) := by decide +kernel
theorem d_property_93 : decode b_property 93 = .ok (.getfield 13, 3) := by decide +kernel
theorem d_property_96 : decode b_property 96 = .ok (.iload 4, 2) := by decide +kernel
theorem d_property_98 : decode b_property 98 = .ok (.iload_n 3, 1) := by decide +kernel
theorem d_property_99 : decode b_property 99 = .ok (.iastore, 1) := by decide +kernel
theorem d_property_100 : decode b_property 100 = .ok (.iinc 4 1, 3) := by decide +kernel
theorem d_property_103 : decode b_property 103 = .ok (.goto (-42), 3) := by decide +kernel
theorem d_property_106 : decode b_property 106 = .ok (.aload_n 0, 1) := by decide +kernel
theorem d_property_107 : decode b_property 107 = .ok (.invokevirtual 79, 3) := by decide +kernel
theorem d_property_110 : decode b_property 110 = .ok (.return_, 1) := by decide +kernel
theorem d_mark_0 : decode b_mark 0 = .ok (.iload_n 1, 1) := by decide +kernel
theorem d_mark_1 : decode b_mark 1 = .ok (.iload_n 2, 1) := by decide +kernel
theorem d_mark_2 : decode b_mark 2 = .ok (.invokestatic 55, 3) := by decide +kernel
theorem d_mark_5 : decode b_mark 5 = .ok (.ifCond .eq 12, 3) := by decide +kernel
theorem d_mark_8 : decode b_mark 8 = .ok (.iload_n 3, 1) := by decide +kernel
theorem d_mark_9 : decode b_mark 9 = .ok (.ifCond .eq 18, 3) := by decide +kernel
theorem d_mark_12 : decode b_mark 12 = .ok (.iload_n 3, 1) := by decide +kernel
theorem d_mark_13 : decode b_mark 13 = .ok (.iconst 1, 1) := by decide +kernel
theorem d_mark_14 : decode b_mark 14 = .ok (.if_icmp .eq 13, 3) := by decide +kernel
theorem d_mark_17 : decode b_mark 17 = .ok (.new 59, 3) := by decide +kernel
theorem d_mark_20 : decode b_mark 20 = .ok (.dup, 1) := by decide +kernel
theorem d_mark_21 : decode b_mark 21 = .ok (.ldc 82, 2) := by decide +kernel
theorem d_mark_23 : decode b_mark 23 = .ok (.invokespecial 63, 3) := by decide +kernel
theorem d_mark_26 : decode b_mark 26 = .ok (.athrow, 1) := by decide +kernel
theorem d_mark_27 : decode b_mark 27 = .ok (.iload_n 3, 1) := by decide +kernel
theorem d_mark_28 : decode b_mark 28 = .ok (.ifCond .ne 10, 3) := by decide +kernel
theorem d_mark_31 : decode b_mark 31 = .ok (.aload_n 0, 1) := by decide +kernel
theorem d_mark_32 : decode b_mark 32 = .ok (.getfield 31, 3) := by decide +kernel
theorem d_mark_35 : decode b_mark 35 = .ok (.goto 7, 3) := by decide +kernel
theorem d_mark_38 : decode b_mark 38 = .ok (.aload_n 0, 1) := by decide +kernel
theorem d_mark_39 : decode b_mark 39 = .ok (.getfield 34, 3) := by decide +kernel
theorem d_mark_42 : decode b_mark 42 = .ok (.astore 5, 2) := by decide +kernel
theorem d_mark_44 : decode b_mark 44 = .ok (.aload 5, 2) := by decide +kernel
theorem d_mark_46 : decode b_mark 46 = .ok (.invokevirtual 66, 3) := by decide +kernel
theorem d_mark_49 : decode b_mark 49 = .ok (.ifCond .eq 13, 3) := by decide +kernel
theorem d_mark_52 : decode b_mark 52 = .ok (.new 70, 3) := by decide +kernel
theorem d_mark_55 : decode b_mark 55 = .ok (.dup, 1) := by decide +kernel
theorem d_mark_56 : decode b_mark 56 = .ok (.ldc 84, 2) := by decide +kernel
theorem d_mark_58 : decode b_mark 58 = .ok (.invokespecial 74, 3) := by decide +kernel
theorem d_mark_61 : decode b_mark 61 = .ok (.athrow, 1) := by decide +kernel
theorem d_mark_62 : decode b_mark 62 = .ok (.aload 5, 2) := by decide +kernel
theorem d_mark_64 : decode b_mark 64 = .ok (.iload_n 1, 1) := by decide +kernel
theorem d_mark_65 : decode b_mark 65 = .ok (.iload_n 2, 1) := by decide +kernel
theorem d_mark_66 : decode b_mark 66 = .ok (.iload 4, 2) := by decide +kernel
theorem d_mark_68 : decode b_mark 68 = .ok (.ifCond .eq 7, 3) := by decide +kernel
theorem d_mark_71 : decode b_mark 71 = .ok (.iconst 1, 1) := by decide +kernel
theorem d_mark_72 : decode b_mark 72 = .ok (.goto 4, 3) := by decide +kernel
theorem d_mark_75 : decode b_mark 75 = .ok (.iconst 0, 1) := by decide +kernel
theorem d_mark_76 : decode b_mark 76 = .ok (.invokevirtual 75, 3) := by decide +kernel
theorem d_mark_79 : decode b_mark 79 = .ok (.aload_n 0, 1) := by decide +kernel
theorem d_mark_80 : decode b_mark 80 = .ok (.invokevirtual 79, 3) := by decide +kernel
theorem d_mark_83 : decode b_mark 83 = .ok (.return_, 1) := by decide +kernel
theorem d_mIsChar_0 : decode b_mIsChar 0 = .ok (.iload_n 0, 1) := by decide +kernel
theorem d_mIsChar_1 : decode b_mIsChar 1 = .ok (.ifCond .lt 13, 3) := by decide +kernel
theorem d_mIsChar_4 : decode b_mIsChar 4 = .ok (.iload_n 0, 1) := by decide +kernel
theorem d_mIsChar_5 : decode b_mIsChar 5 = .ok (.ldc 42, 2) := by decide +kernel
theorem d_mIsChar_7 : decode b_mIsChar 7 = .ok (.if_icmp .gt 7, 3) := by decide +kernel
theorem d_mIsChar_10 : decode b_mIsChar 10 = .ok (.iconst 1, 1) := by decide +kernel
theorem d_mIsChar_11 : decode b_mIsChar 11 = .ok (.goto 4, 3) := by decide +kernel
theorem d_mIsChar_14 : decode b_mIsChar 14 = .ok (.iconst 0, 1) := by decide +kernel
theorem d_mIsChar_15 : decode b_mIsChar 15 = .ok (.ireturn, 1) := by decide +kernel
theorem d_mIsLetter_0 : decode b_mIsLetter 0 = .ok (.iload_n 0, 1) := by decide +kernel
theorem d_mIsLetter_1 : decode b_mIsLetter 1 = .ok (.bipush 27, 2) := by decide +kernel
theorem d_mIsLetter_3 : decode b_mIsLetter 3 = .ok (.if_icmp .eq 9, 3) := by decide +kernel
theorem d_mIsLetter_6 : decode b_mIsLetter 6 = .ok (.iload_n 0, 1) := by decide +kernel
theorem d_mIsLetter_7 : decode b_mIsLetter 7 = .ok (.bipush 28, 2) := by decide +kernel
theorem d_mIsLetter_9 : decode b_mIsLetter 9 = .ok (.if_icmp .ne 7, 3) := by decide +kernel
theorem d_mIsLetter_12 : decode b_mIsLetter 12 = .ok (.iconst 1, 1) := by decide +kernel
theorem d_mIsLetter_13 : decode b_mIsLetter 13 = .ok (.goto 4, 3) := by decide +kernel
theorem d_mIsLetter_16 : decode b_mIsLetter 16 = .ok (.iconst 0, 1) := by decide +kernel
theorem d_mIsLetter_17 : decode b_mIsLetter 17 = .ok (.ireturn, 1) := by decide +kernel
theorem d_mIsHangul_0 : decode b_mIsHangul 0 = .ok (.iload_n 0, 1) := by decide +kernel
theorem d_mIsHangul_1 : decode b_mIsHangul 1 = .ok (.bipush 32, 2) := by decide +kernel
theorem d_mIsHangul_3 : decode b_mIsHangul 3 = .ok (.if_icmp .lt 13, 3) := by decide +kernel
theorem d_mIsHangul_6 : decode b_mIsHangul 6 = .ok (.iload_n 0, 1) := by decide +kernel
theorem d_mIsHangul_7 : decode b_mIsHangul 7 = .ok (.bipush 36, 2) := by decide +kernel
theorem d_mIsHangul_9 : decode b_mIsHangul 9 = .ok (.if_icmp .gt 7, 3) := by decide +kernel
theorem d_mIsHangul_12 : decode b_mIsHangul 12 = .ok (.iconst 1, 1) := by decide +kernel
theorem d_mIsHangul_13 : decode b_mIsHangul 13 = .ok (.goto 4, 3) := by decide +kernel
theorem d_mIsHangul_16 : decode b_mIsHangul 16 = .ok (.iconst 0, 1) := by decide +kernel
theorem d_mIsHangul_17 : decode b_mIsHangul 17 = .ok (.ireturn, 1) := by decide +kernel
theorem d_mIsBlank_0 : decode b_mIsBlank 0 = .ok (.iload_n 0, 1) := by decide +kernel
theorem d_mIsBlank_1 : decode b_mIsBlank 1 = .ok (.iconst 4, 1) := by decide +kernel
theorem d_mIsBlank_2 : decode b_mIsBlank 2 = .ok (.if_icmp .gt 7, 3) := by decide +kernel
theorem d_mIsBlank_5 : decode b_mIsBlank 5 = .ok (.iconst 1, 1) := by decide +kernel
theorem d_mIsBlank_6 : decode b_mIsBlank 6 = .ok (.goto 4, 3) := by decide +kernel
theorem d_mIsBlank_9 : decode b_mIsBlank 9 = .ok (.iconst 0, 1) := by decide +kernel
theorem d_mIsBlank_10 : decode b_mIsBlank 10 = .ok (.ireturn, 1) := by decide +kernel
theorem d_mIsNumeric_0 : decode b_mIsNumeric 0 = .ok (.iload_n 0, 1) := by decide +kernel
theorem d_mIsNumeric_1 : decode b_mIsNumeric 1 = .ok (.bipush 15, 2) := by decide +kernel
theorem d_mIsNumeric_3 : decode b_mIsNumeric 3 = .ok (.if_icmp .eq 15, 3) := by decide +kernel
theorem d_mIsNumeric_6 : decode b_mIsNumeric 6 = .ok (.iload_n 0, 1) := by decide +kernel
theorem d_mIsNumeric_7 : decode b_mIsNumeric 7 = .ok (.bipush 16, 2) := by decide +kernel
theorem d_mIsNumeric_9 : decode b_mIsNumeric 9 = .ok (.if_icmp .eq 9, 3) := by decide +kernel
theorem d_mIsNumeric_12 : decode b_mIsNumeric 12 = .ok (.iload_n 0, 1) := by decide +kernel
theorem d_mIsNumeric_13 : decode b_mIsNumeric 13 = .ok (.bipush 23, 2) := by decide +kernel
theorem d_mIsNumeric_15 : decode b_mIsNumeric 15 = .ok (.if_icmp .ne 19, 3) := by decide +kernel
theorem d_mIsNumeric_18 : decode b_mIsNumeric 18 = .ok (.iload_n 1, 1) := by decide +kernel
theorem d_mIsNumeric_19 : decode b_mIsNumeric 19 = .ok (.bipush 24, 2) := by decide +kernel
theorem d_mIsNumeric_21 : decode b_mIsNumeric 21 = .ok (.if_icmp .eq 9, 3) := by decide +kernel
theorem d_mIsNumeric_24 : decode b_mIsNumeric 24 = .ok (.iload_n 1, 1) := by decide +kernel
theorem d_mIsNumeric_25 : decode b_mIsNumeric 25 = .ok (.bipush 25, 2) := by decide +kernel
theorem d_mIsNumeric_27 : decode b_mIsNumeric 27 = .ok (.if_icmp .ne 7, 3) := by decide +kernel
theorem d_mIsNumeric_30 : decode b_mIsNumeric 30 = .ok (.iconst 1, 1) := by decide +kernel
theorem d_mIsNumeric_31 : decode b_mIsNumeric 31 = .ok (.goto 4, 3) := by decide +kernel
theorem d_mIsNumeric_34 : decode b_mIsNumeric 34 = .ok (.iconst 0, 1) := by decide +kernel
theorem d_mIsNumeric_35 : decode b_mIsNumeric 35 = .ok (.istore_n 2, 1) := by decide +kernel
theorem d_mIsNumeric_36 : decode b_mIsNumeric 36 = .ok (.iload_n 0, 1) := by decide +kernel
theorem d_mIsNumeric_37 : decode b_mIsNumeric 37 = .ok (.bipush 24, 2) := by decide +kernel
theorem d_mIsNumeric_39 : decode b_mIsNumeric 39 = .ok (.if_icmp .eq 9, 3) := by decide +kernel
theorem d_mIsNumeric_42 : decode b_mIsNumeric 42 = .ok (.iload_n 0, 1) := by decide +kernel
theorem d_mIsNumeric_43 : decode b_mIsNumeric 43 = .ok (.bipush 25, 2) := by decide +kernel
theorem d_mIsNumeric_45 : decode b_mIsNumeric 45 = .ok (.if_icmp .ne 19, 3) := by decide +kernel
theorem d_mIsNumeric_48 : decode b_mIsNumeric 48 = .ok (.iload_n 1, 1) := by decide +kernel
theorem d_mIsNumeric_49 : decode b_mIsNumeric 49 = .ok (.bipush 20, 2) := by decide +kernel
theorem d_mIsNumeric_51 : decode b_mIsNumeric 51 = .ok (.if_icmp .eq 9, 3) := by decide +kernel
theorem d_mIsNumeric_54 : decode b_mIsNumeric 54 = .ok (.iload_n 1, 1) := by decide +kernel
theorem d_mIsNumeric_55 : decode b_mIsNumeric 55 = .ok (.bipush 23, 2) := by decide +kernel
theorem d_mIsNumeric_57 : decode b_mIsNumeric 57 = .ok (.if_icmp .ne 7, 3) := by decide +kernel
theorem d_mIsNumeric_60 : decode b_mIsNumeric 60 = .ok (.iconst 1, 1) := by decide +kernel
theorem d_mIsNumeric_61 : decode b_mIsNumeric 61 = .ok (.goto 4, 3) := by decide +kernel
theorem d_mIsNumeric_64 : decode b_mIsNumeric 64 = .ok (.iconst 0, 1) := by decide +kernel
theorem d_mIsNumeric_65 : decode b_mIsNumeric 65 = .ok (.istore_n 3, 1) := by decide +kernel
theorem d_mIsNumeric_66 : decode b_mIsNumeric 66 = .ok (.iload_n 2, 1) := by decide +kernel
theorem d_mIsNumeric_67 : decode b_mIsNumeric 67 = .ok (.ifCond .ne 37, 3) := by decide +kernel
theorem d_mIsNumeric_70 : decode b_mIsNumeric 70 = .ok (.iload_n 3, 1) := by decide +kernel
theorem d_mIsNumeric_71 : decode b_mIsNumeric 71 = .ok (.ifCond .ne 33, 3) := by decide +kernel
theorem d_mIsNumeric_74 : decode b_mIsNumeric 74 = .ok (.iload_n 0, 1) := by decide +kernel
theorem d_mIsNumeric_75 : decode b_mIsNumeric 75 = .ok (.bipush 13, 2) := by decide +kernel
theorem d_mIsNumeric_77 : decode b_mIsNumeric 77 = .ok (.if_icmp .eq 21, 3) := by decide +kernel
theorem d_mIsNumeric_80 : decode b_mIsNumeric 80 = .ok (.iload_n 0, 1) := by decide +kernel
theorem d_mIsNumeric_81 : decode b_mIsNumeric 81 = .ok (.bipush 22, 2) := by decide +kernel
theorem d_mIsNumeric_83 : decode b_mIsNumeric 83 = .ok (.if_icmp .eq 15, 3) := by decide +kernel
theorem d_mIsNumeric_86 : decode b_mIsNumeric 86 = .ok (.iload_n 0, 1) := by decide +kernel
theorem d_mIsNumeric_87 : decode b_mIsNumeric 87 = .ok (.bipush 23, 2) := by decide +kernel
theorem d_mIsNumeric_89 : decode b_mIsNumeric 89 = .ok (.if_icmp .eq 9, 3) := by decide +kernel
theorem d_mIsNumeric_92 : decode b_mIsNumeric 92 = .ok (.iload_n 0, 1) := by decide +kernel
theorem d_mIsNumeric_93 : decode b_mIsNumeric 93 = .ok (.bipush 26, 2) := by decide +kernel
theorem d_mIsNumeric_95 : decode b_mIsNumeric 95 = .ok (.if_icmp .ne 13, 3) := by decide +kernel
theorem d_mIsNumeric_98 : decode b_mIsNumeric 98 = .ok (.iload_n 1, 1) := by decide +kernel
theorem d_mIsNumeric_99 : decode b_mIsNumeric 99 = .ok (.bipush 23, 2) := by decide +kernel
theorem d_mIsNumeric_101 : decode b_mIsNumeric 101 = .ok (.if_icmp .ne 7, 3) := by decide +kernel
theorem d_mIsNumeric_104 : decode b_mIsNumeric 104 = .ok (.iconst 1, 1) := by decide +kernel
theorem d_mIsNumeric_105 : decode b_mIsNumeric 105 = .ok (.goto 4, 3) := by decide +kernel
theorem d_mIsNumeric_108 : decode b_mIsNumeric 108 = .ok (.iconst 0, 1) := by decide +kernel
theorem d_mIsNumeric_109 : decode b_mIsNumeric 109 = .ok (.ireturn, 1) := by decide +kernel
theorem d_mIsSyllable_0 : decode b_mIsSyllable 0 = .ok (.iload_n 0, 1) := by decide +kernel
theorem d_mIsSyllable_1 : decode b_mIsSyllable 1 = .ok (.bipush 34, 2) := by decide +kernel
theorem d_mIsSyllable_3 : decode b_mIsSyllable 3 = .ok (.if_icmp .ne 31, 3) := by decide +kernel
theorem d_mIsSyllable_6 : decode b_mIsSyllable 6 = .ok (.iload_n 1, 1) := by decide +kernel
theorem d_mIsSyllable_7 : decode b_mIsSyllable 7 = .ok (.bipush 34, 2) := by decide +kernel
theorem d_mIsSyllable_9 : decode b_mIsSyllable 9 = .ok (.if_icmp .eq 21, 3) := by decide +kernel
theorem d_mIsSyllable_12 : decode b_mIsSyllable 12 = .ok (.iload_n 1, 1) := by decide +kernel
theorem d_mIsSyllable_13 : decode b_mIsSyllable 13 = .ok (.bipush 35, 2) := by decide +kernel
theorem d_mIsSyllable_15 : decode b_mIsSyllable 15 = .ok (.if_icmp .eq 15, 3) := by decide +kernel
theorem d_mIsSyllable_18 : decode b_mIsSyllable 18 = .ok (.iload_n 1, 1) := by decide +kernel
theorem d_mIsSyllable_19 : decode b_mIsSyllable 19 = .ok (.bipush 32, 2) := by decide +kernel
theorem d_mIsSyllable_21 : decode b_mIsSyllable 21 = .ok (.if_icmp .eq 9, 3) := by decide +kernel
theorem d_mIsSyllable_24 : decode b_mIsSyllable 24 = .ok (.iload_n 1, 1) := by decide +kernel
theorem d_mIsSyllable_25 : decode b_mIsSyllable 25 = .ok (.bipush 33, 2) := by decide +kernel
theorem d_mIsSyllable_27 : decode b_mIsSyllable 27 = .ok (.if_icmp .ne 7, 3) := by decide +kernel
theorem d_mIsSyllable_30 : decode b_mIsSyllable 30 = .ok (.iconst 1, 1) := by decide +kernel
theorem d_mIsSyllable_31 : decode b_mIsSyllable 31 = .ok (.goto 4, 3) := by decide +kernel
theorem d_mIsSyllable_34 : decode b_mIsSyllable 34 = .ok (.iconst 0, 1) := by decide +kernel
theorem d_mIsSyllable_35 : decode b_mIsSyllable 35 = .ok (.istore_n 2, 1) := by decide +kernel
theorem d_mIsSyllable_36 : decode b_mIsSyllable 36 = .ok (.iload_n 0, 1) := by decide +kernel
theorem d_mIsSyllable_37 : decode b_mIsSyllable 37 = .ok (.bipush 35, 2) := by decide +kernel
theorem d_mIsSyllable_39 : decode b_mIsSyllable 39 = .ok (.if_icmp .eq 9, 3) := by decide +kernel
theorem d_mIsSyllable_42 : decode b_mIsSyllable 42 = .ok (.iload_n 0, 1) := by decide +kernel
theorem d_mIsSyllable_43 : decode b_mIsSyllable 43 = .ok (.bipush 32, 2) := by decide +kernel
theorem d_mIsSyllable_45 : decode b_mIsSyllable 45 = .ok (.if_icmp .ne 19, 3) := by decide +kernel
theorem d_mIsSyllable_48 : decode b_mIsSyllable 48 = .ok (.iload_n 1, 1) := by decide +kernel
theorem d_mIsSyllable_49 : decode b_mIsSyllable 49 = .ok (.bipush 35, 2) := by decide +kernel
theorem d_mIsSyllable_51 : decode b_mIsSyllable 51 = .ok (.if_icmp .eq 9, 3) := by decide +kernel
theorem d_mIsSyllable_54 : decode b_mIsSyllable 54 = .ok (.iload_n 1, 1) := by decide +kernel
theorem d_mIsSyllable_55 : decode b_mIsSyllable 55 = .ok (.bipush 36, 2) := by decide +kernel
theorem d_mIsSyllable_57 : decode b_mIsSyllable 57 = .ok (.if_icmp .ne 7, 3) := by decide +kernel
theorem d_mIsSyllable_60 : decode b_mIsSyllable 60 = .ok (.iconst 1, 1) := by decide +kernel
theorem d_mIsSyllable_61 : decode b_mIsSyllable 61 = .ok (.goto 4, 3) := by decide +kernel
theorem d_mIsSyllable_64 : decode b_mIsSyllable 64 = .ok (.iconst 0, 1) := by decide +kernel
theorem d_mIsSyllable_65 : decode b_mIsSyllable 65 = .ok (.istore_n 3, 1) := by decide +kernel
theorem d_mIsSyllable_66 : decode b_mIsSyllable 66 = .ok (.iload_n 2, 1) := by decide +kernel
theorem d_mIsSyllable_67 : decode b_mIsSyllable 67 = .ok (.ifCond .ne 25, 3) := by decide +kernel
theorem d_mIsSyllable_70 : decode b_mIsSyllable 70 = .ok (.iload_n 3, 1) := by decide +kernel
theorem d_mIsSyllable_71 : decode b_mIsSyllable 71 = .ok (.ifCond .ne 21, 3) := by decide +kernel
theorem d_mIsSyllable_74 : decode b_mIsSyllable 74 = .ok (.iload_n 0, 1) := by decide +kernel
theorem d_mIsSyllable_75 : decode b_mIsSyllable 75 = .ok (.bipush 36, 2) := by decide +kernel
theorem d_mIsSyllable_77 : decode b_mIsSyllable 77 = .ok (.if_icmp .eq 9, 3) := by decide +kernel
theorem d_mIsSyllable_80 : decode b_mIsSyllable 80 = .ok (.iload_n 0, 1) := by decide +kernel
theorem d_mIsSyllable_81 : decode b_mIsSyllable 81 = .ok (.bipush 33, 2) := by decide +kernel
theorem d_mIsSyllable_83 : decode b_mIsSyllable 83 = .ok (.if_icmp .ne 13, 3) := by decide +kernel
theorem d_mIsSyllable_86 : decode b_mIsSyllable 86 = .ok (.iload_n 1, 1) := by decide +kernel
theorem d_mIsSyllable_87 : decode b_mIsSyllable 87 = .ok (.bipush 36, 2) := by decide +kernel
theorem d_mIsSyllable_89 : decode b_mIsSyllable 89 = .ok (.if_icmp .ne 7, 3) := by decide +kernel
theorem d_mIsSyllable_92 : decode b_mIsSyllable 92 = .ok (.iconst 1, 1) := by decide +kernel
theorem d_mIsSyllable_93 : decode b_mIsSyllable 93 = .ok (.goto 4, 3) := by decide +kernel
theorem d_mIsSyllable_96 : decode b_mIsSyllable 96 = .ok (.iconst 0, 1) := by decide +kernel
theorem d_mIsSyllable_97 : decode b_mIsSyllable 97 = .ok (.ireturn, 1) := by decide +kernel
theorem d_mThrown_0 : decode b_mThrown 0 = .ok (.aload_n 0, 1) := by decide +kernel
theorem d_mThrown_1 : decode b_mThrown 1 = .ok (.getfield 38, 3) := by decide +kernel
theorem d_mThrown_4 : decode b_mThrown 4 = .ok (.ireturn, 1) := by decide +kernel
theorem d_mRefused_0 : decode b_mRefused 0 = .ok (.aload_n 0, 1) := by decide +kernel
theorem d_mRefused_1 : decode b_mRefused 1 = .ok (.iload_n 1, 1) := by decide +kernel
theorem d_mRefused_2 : decode b_mRefused 2 = .ok (.putfield 38, 3) := by decide +kernel
theorem d_mRefused_5 : decode b_mRefused 5 = .ok (.iload_n 1, 1) := by decide +kernel
theorem d_mRefused_6 : decode b_mRefused 6 = .ok (.ifCond .le 7, 3) := by decide +kernel
theorem d_mRefused_9 : decode b_mRefused 9 = .ok (.iconst 1, 1) := by decide +kernel
theorem d_mRefused_10 : decode b_mRefused 10 = .ok (.goto 4, 3) := by decide +kernel
theorem d_mRefused_13 : decode b_mRefused 13 = .ok (.iconst 0, 1) := by decide +kernel
theorem d_mRefused_14 : decode b_mRefused 14 = .ok (.ireturn, 1) := by decide +kernel
theorem d_mTell_0 : decode b_mTell 0 = .ok (.aload_n 0, 1) := by decide +kernel
theorem d_mTell_1 : decode b_mTell 1 = .ok (.iload_n 2, 1) := by decide +kernel
