theorem d_mTell_2 : decode b_mTell 2 = .ok (.putfield 80, 3) := by decide +kernel
theorem d_mTell_5 : decode b_mTell 5 = .ok (.iload_n 1, 1) := by decide +kernel
theorem d_mTell_6 : decode b_mTell 6 = .ok (.ireturn, 1) := by decide +kernel
theorem d_mClear_0 : decode b_mClear 0 = .ok (.aload_n 0, 1) := by decide +kernel
theorem d_mClear_1 : decode b_mClear 1 = .ok (.iconst 0, 1) := by decide +kernel
theorem d_mClear_2 : decode b_mClear 2 = .ok (.putfield 38, 3) := by decide +kernel
theorem d_mClear_5 : decode b_mClear 5 = .ok (.aload_n 0, 1) := by decide +kernel
theorem d_mClear_6 : decode b_mClear 6 = .ok (.getfield 68, 3) := by decide +kernel
theorem d_mClear_9 : decode b_mClear 9 = .ok (.istore_n 1, 1) := by decide +kernel
theorem d_mClear_10 : decode b_mClear 10 = .ok (.aload_n 0, 1) := by decide +kernel
theorem d_mClear_11 : decode b_mClear 11 = .ok (.iconst 0, 1) := by decide +kernel
theorem d_mClear_12 : decode b_mClear 12 = .ok (.putfield 68, 3) := by decide +kernel
theorem d_mClear_15 : decode b_mClear 15 = .ok (.iload_n 1, 1) := by decide +kernel
theorem d_mClear_16 : decode b_mClear 16 = .ok (.ireturn, 1) := by decide +kernel
theorem d_mLoose_0 : decode b_mLoose 0 = .ok (.aload_n 0, 1) := by decide +kernel
theorem d_mLoose_1 : decode b_mLoose 1 = .ok (.iconst 0, 1) := by decide +kernel
theorem d_mLoose_2 : decode b_mLoose 2 = .ok (.putfield 38, 3) := by decide +kernel
theorem d_mLoose_5 : decode b_mLoose 5 = .ok (.aload_n 0, 1) := by decide +kernel
theorem d_mLoose_6 : decode b_mLoose 6 = .ok (.getfield 53, 3) := by decide +kernel
theorem d_mLoose_9 : decode b_mLoose 9 = .ok (.istore_n 2, 1) := by decide +kernel
theorem d_mLoose_10 : decode b_mLoose 10 = .ok (.aload_n 0, 1) := by decide +kernel
theorem d_mLoose_11 : decode b_mLoose 11 = .ok (.iload_n 1, 1) := by decide +kernel
theorem d_mLoose_12 : decode b_mLoose 12 = .ok (.putfield 53, 3) := by decide +kernel
theorem d_mLoose_15 : decode b_mLoose 15 = .ok (.iload_n 2, 1) := by decide +kernel
theorem d_mLoose_16 : decode b_mLoose 16 = .ok (.ireturn, 1) := by decide +kernel
theorem d_mKeep_0 : decode b_mKeep 0 = .ok (.aload_n 0, 1) := by decide +kernel
theorem d_mKeep_1 : decode b_mKeep 1 = .ok (.getfield 35, 3) := by decide +kernel
theorem d_mKeep_4 : decode b_mKeep 4 = .ok (.iconst 0, 1) := by decide +kernel
theorem d_mKeep_5 : decode b_mKeep 5 = .ok (.iload_n 1, 1) := by decide +kernel
theorem d_mKeep_6 : decode b_mKeep 6 = .ok (.iastore, 1) := by decide +kernel
theorem d_mKeep_7 : decode b_mKeep 7 = .ok (.aload_n 0, 1) := by decide +kernel
theorem d_mKeep_8 : decode b_mKeep 8 = .ok (.getfield 35, 3) := by decide +kernel
theorem d_mKeep_11 : decode b_mKeep 11 = .ok (.iconst 1, 1) := by decide +kernel
theorem d_mKeep_12 : decode b_mKeep 12 = .ok (.iload_n 2, 1) := by decide +kernel
theorem d_mKeep_13 : decode b_mKeep 13 = .ok (.iastore, 1) := by decide +kernel
theorem d_mKeep_14 : decode b_mKeep 14 = .ok (.aload_n 0, 1) := by decide +kernel
theorem d_mKeep_15 : decode b_mKeep 15 = .ok (.getfield 35, 3) := by decide +kernel
theorem d_mKeep_18 : decode b_mKeep 18 = .ok (.iconst 2, 1) := by decide +kernel
theorem d_mKeep_19 : decode b_mKeep 19 = .ok (.iload_n 3, 1) := by decide +kernel
theorem d_mKeep_20 : decode b_mKeep 20 = .ok (.iastore, 1) := by decide +kernel
theorem d_mKeep_21 : decode b_mKeep 21 = .ok (.aload_n 0, 1) := by decide +kernel
theorem d_mKeep_22 : decode b_mKeep 22 = .ok (.getfield 35, 3) := by decide +kernel
theorem d_mKeep_25 : decode b_mKeep 25 = .ok (.iconst 3, 1) := by decide +kernel
theorem d_mKeep_26 : decode b_mKeep 26 = .ok (.iload 4, 2) := by decide +kernel
theorem d_mKeep_28 : decode b_mKeep 28 = .ok (.iastore, 1) := by decide +kernel
theorem d_mKeep_29 : decode b_mKeep 29 = .ok (.aload_n 0, 1) := by decide +kernel
theorem d_mKeep_30 : decode b_mKeep 30 = .ok (.getfield 35, 3) := by decide +kernel
theorem d_mKeep_33 : decode b_mKeep 33 = .ok (.iconst 4, 1) := by decide +kernel
theorem d_mKeep_34 : decode b_mKeep 34 = .ok (.iload 5, 2) := by decide +kernel
theorem d_mKeep_36 : decode b_mKeep 36 = .ok (.iastore, 1) := by decide +kernel
theorem d_mKeep_37 : decode b_mKeep 37 = .ok (.return_, 1) := by decide +kernel
theorem d_mProperty_0 : decode b_mProperty 0 = .ok (.iload_n 1, 1) := by decide +kernel
theorem d_mProperty_1 : decode b_mProperty 1 = .ok (.invokestatic 43, 3) := by decide +kernel
theorem d_mProperty_4 : decode b_mProperty 4 = .ok (.ifCond .eq 29, 3) := by decide +kernel
theorem d_mProperty_7 : decode b_mProperty 7 = .ok (.iload_n 2, 1) := by decide +kernel
theorem d_mProperty_8 : decode b_mProperty 8 = .ok (.invokestatic 43, 3) := by decide +kernel
theorem d_mProperty_11 : decode b_mProperty 11 = .ok (.ifCond .eq 22, 3) := by decide +kernel
theorem d_mProperty_14 : decode b_mProperty 14 = .ok (.iload_n 1, 1) := by decide +kernel
theorem d_mProperty_15 : decode b_mProperty 15 = .ok (.iload_n 2, 1) := by decide +kernel
theorem d_mProperty_16 : decode b_mProperty 16 = .ok (.if_icmp .gt 17, 3) := by decide +kernel
theorem d_mProperty_19 : decode b_mProperty 19 = .ok (.iload_n 3, 1) := by decide +kernel
theorem d_mProperty_20 : decode b_mProperty 20 = .ok (.ifCond .lt 13, 3) := by decide +kernel
theorem d_mProperty_23 : decode b_mProperty 23 = .ok (.iload_n 3, 1) := by decide +kernel
theorem d_mProperty_24 : decode b_mProperty 24 = .ok (.bipush 43, 2) := by decide +kernel
theorem d_mProperty_26 : decode b_mProperty 26 = .ok (.if_icmp .gt 7, 3) := by decide +kernel
theorem d_mProperty_29 : decode b_mProperty 29 = .ok (.iconst 1, 1) := by decide +kernel
theorem d_mProperty_30 : decode b_mProperty 30 = .ok (.goto 4, 3) := by decide +kernel
theorem d_mProperty_33 : decode b_mProperty 33 = .ok (.iconst 0, 1) := by decide +kernel
theorem d_mProperty_34 : decode b_mProperty 34 = .ok (.istore 4, 2) := by decide +kernel
theorem d_mProperty_36 : decode b_mProperty 36 = .ok (.aload_n 0, 1) := by decide +kernel
theorem d_mProperty_37 : decode b_mProperty 37 = .ok (.iload 4, 2) := by decide +kernel
theorem d_mProperty_39 : decode b_mProperty 39 = .ok (.ifCond .ne 7, 3) := by decide +kernel
theorem d_mProperty_42 : decode b_mProperty 42 = .ok (.iconst 1, 1) := by decide +kernel
theorem d_mProperty_43 : decode b_mProperty 43 = .ok (.goto 17, 3) := by decide +kernel
theorem d_mProperty_46 : decode b_mProperty 46 = .ok (.aload_n 0, 1) := by decide +kernel
theorem d_mProperty_47 : decode b_mProperty 47 = .ok (.getfield 47, 3) := by decide +kernel
theorem d_mProperty_50 : decode b_mProperty 50 = .ok (.bipush 100, 2) := by decide +kernel
theorem d_mProperty_52 : decode b_mProperty 52 = .ok (.if_icmp .ne 7, 3) := by decide +kernel
theorem d_mProperty_55 : decode b_mProperty 55 = .ok (.iconst 2, 1) := by decide +kernel
theorem d_mProperty_56 : decode b_mProperty 56 = .ok (.goto 4, 3) := by decide +kernel
theorem d_mProperty_59 : decode b_mProperty 59 = .ok (.iconst 0, 1) := by decide +kernel
theorem d_mProperty_60 : decode b_mProperty 60 = .ok (.invokevirtual 50, 3) := by decide +kernel
theorem d_mProperty_63 : decode b_mProperty 63 = .ok (.ifCond .ne 43, 3) := by decide +kernel
theorem d_mProperty_66 : decode b_mProperty 66 = .ok (.aload_n 0, 1) := by decide +kernel
theorem d_mProperty_67 : decode b_mProperty 67 = .ok (.getfield 7, 3) := by decide +kernel
theorem d_mProperty_70 : decode b_mProperty 70 = .ok (.aload_n 0, 1) := by decide +kernel
theorem d_mProperty_71 : decode b_mProperty 71 = .ok (.getfield 47, 3) := by decide +kernel
theorem d_mProperty_74 : decode b_mProperty 74 = .ok (.iload_n 1, 1) := by decide +kernel
theorem d_mProperty_75 : decode b_mProperty 75 = .ok (.iastore, 1) := by decide +kernel
theorem d_mProperty_76 : decode b_mProperty 76 = .ok (.aload_n 0, 1) := by decide +kernel
theorem d_mProperty_77 : decode b_mProperty 77 = .ok (.getfield 13, 3) := by decide +kernel
theorem d_mProperty_80 : decode b_mProperty 80 = .ok (.aload_n 0, 1) := by decide +kernel
theorem d_mProperty_81 : decode b_mProperty 81 = .ok (.getfield 47, 3) := by decide +kernel
theorem d_mProperty_84 : decode b_mProperty 84 = .ok (.iload_n 2, 1) := by decide +kernel
theorem d_mProperty_85 : decode b_mProperty 85 = .ok (.iastore, 1) := by decide +kernel
theorem d_mProperty_86 : decode b_mProperty 86 = .ok (.aload_n 0, 1) := by decide +kernel
theorem d_mProperty_87 : decode b_mProperty 87 = .ok (.getfield 16, 3) := by decide +kernel
theorem d_mProperty_90 : decode b_mProperty 90 = .ok (.aload_n 0, 1) := by decide +kernel
theorem d_mProperty_91 : decode b_mProperty 91 = .ok (.getfield 47, 3) := by decide +kernel
theorem d_mProperty_94 : decode b_mProperty 94 = .ok (.iload_n 3, 1) := by decide +kernel
theorem d_mProperty_95 : decode b_mProperty 95 = .ok (.iastore, 1) := by decide +kernel
theorem d_mProperty_96 : decode b_mProperty 96 = .ok (.aload_n 0, 1) := by decide +kernel
theorem d_mProperty_97 : decode b_mProperty 97 = .ok (.dup, 1) := by decide +kernel
theorem d_mProperty_98 : decode b_mProperty 98 = .ok (.getfield 47, 3) := by decide +kernel
theorem d_mProperty_101 : decode b_mProperty 101 = .ok (.iconst 1, 1) := by decide +kernel
theorem d_mProperty_102 : decode b_mProperty 102 = .ok (.iadd, 1) := by decide +kernel
theorem d_mProperty_103 : decode b_mProperty 103 = .ok (.putfield 47, 3) := by decide +kernel
theorem d_mProperty_106 : decode b_mProperty 106 = .ok (.return_, 1) := by decide +kernel
theorem d_mGiven_0 : decode b_mGiven 0 = .ok (.iconst 0, 1) := by decide +kernel
theorem d_mGiven_1 : decode b_mGiven 1 = .ok (.istore_n 2, 1) := by decide +kernel
theorem d_mGiven_2 : decode b_mGiven 2 = .ok (.iload_n 2, 1) := by decide +kernel
theorem d_mGiven_3 : decode b_mGiven 3 = .ok (.iload_n 1, 1) := by decide +kernel
theorem d_mGiven_4 : decode b_mGiven 4 = .ok (.if_icmp .ge 19, 3) := by decide +kernel
theorem d_mGiven_7 : decode b_mGiven 7 = .ok (.aload_n 0, 1) := by decide +kernel
theorem d_mGiven_8 : decode b_mGiven 8 = .ok (.getfield 35, 3) := by decide +kernel
theorem d_mGiven_11 : decode b_mGiven 11 = .ok (.iload_n 2, 1) := by decide +kernel
theorem d_mGiven_12 : decode b_mGiven 12 = .ok (.iaload, 1) := by decide +kernel
theorem d_mGiven_13 : decode b_mGiven 13 = .ok (.iconst (-1), 1) := by decide +kernel
theorem d_mGiven_14 : decode b_mGiven 14 = .ok (.if_icmp .eq 9, 3) := by decide +kernel
theorem d_mGiven_17 : decode b_mGiven 17 = .ok (.iinc 2 1, 3) := by decide +kernel
theorem d_mGiven_20 : decode b_mGiven 20 = .ok (.goto (-18), 3) := by decide +kernel
theorem d_mGiven_23 : decode b_mGiven 23 = .ok (.iload_n 2, 1) := by decide +kernel
theorem d_mGiven_24 : decode b_mGiven 24 = .ok (.ireturn, 1) := by decide +kernel
theorem d_mIsSound_0 : decode b_mIsSound 0 = .ok (.iconst 1, 1) := by decide +kernel
theorem d_mIsSound_1 : decode b_mIsSound 1 = .ok (.istore_n 2, 1) := by decide +kernel
theorem d_mIsSound_2 : decode b_mIsSound 2 = .ok (.iconst 0, 1) := by decide +kernel
theorem d_mIsSound_3 : decode b_mIsSound 3 = .ok (.istore_n 3, 1) := by decide +kernel
theorem d_mIsSound_4 : decode b_mIsSound 4 = .ok (.iload_n 3, 1) := by decide +kernel
theorem d_mIsSound_5 : decode b_mIsSound 5 = .ok (.iload_n 1, 1) := by decide +kernel
theorem d_mIsSound_6 : decode b_mIsSound 6 = .ok (.if_icmp .ge 31, 3) := by decide +kernel
theorem d_mIsSound_9 : decode b_mIsSound 9 = .ok (.iload_n 2, 1) := by decide +kernel
theorem d_mIsSound_10 : decode b_mIsSound 10 = .ok (.ifCond .eq 19, 3) := by decide +kernel
theorem d_mIsSound_13 : decode b_mIsSound 13 = .ok (.aload_n 0, 1) := by decide +kernel
theorem d_mIsSound_14 : decode b_mIsSound 14 = .ok (.getfield 35, 3) := by decide +kernel
theorem d_mIsSound_17 : decode b_mIsSound 17 = .ok (.iload_n 3, 1) := by decide +kernel
theorem d_mIsSound_18 : decode b_mIsSound 18 = .ok (.iaload, 1) := by decide +kernel
theorem d_mIsSound_19 : decode b_mIsSound 19 = .ok (.invokestatic 43, 3) := by decide +kernel
theorem d_mIsSound_22 : decode b_mIsSound 22 = .ok (.ifCond .eq 7, 3) := by decide +kernel
theorem d_mIsSound_25 : decode b_mIsSound 25 = .ok (.iconst 1, 1) := by decide +kernel
theorem d_mIsSound_26 : decode b_mIsSound 26 = .ok (.goto 4, 3) := by decide +kernel
theorem d_mIsSound_29 : decode b_mIsSound 29 = .ok (.iconst 0, 1) := by decide +kernel
theorem d_mIsSound_30 : decode b_mIsSound 30 = .ok (.istore_n 2, 1) := by decide +kernel
theorem d_mIsSound_31 : decode b_mIsSound 31 = .ok (.iinc 3 1, 3) := by decide +kernel
theorem d_mIsSound_34 : decode b_mIsSound 34 = .ok (.goto (-30), 3) := by decide +kernel
theorem d_mIsSound_37 : decode b_mIsSound 37 = .ok (.iload_n 2, 1) := by decide +kernel
theorem d_mIsSound_38 : decode b_mIsSound 38 = .ok (.ireturn, 1) := by decide +kernel
theorem d_mAdd_0 : decode b_mAdd 0 = .ok (.aload_n 0, 1) := by decide +kernel
theorem d_mAdd_1 : decode b_mAdd 1 = .ok (.iload_n 1, 1) := by decide +kernel
theorem d_mAdd_2 : decode b_mAdd 2 = .ok (.iload_n 2, 1) := by decide +kernel
theorem d_mAdd_3 : decode b_mAdd 3 = .ok (.iload_n 3, 1) := by decide +kernel
theorem d_mAdd_4 : decode b_mAdd 4 = .ok (.iload 4, 2) := by decide +kernel
theorem d_mAdd_6 : decode b_mAdd 6 = .ok (.iload 5, 2) := by decide +kernel
theorem d_mAdd_8 : decode b_mAdd 8 = .ok (.invokevirtual 57, 3) := by decide +kernel
theorem d_mAdd_11 : decode b_mAdd 11 = .ok (.aload_n 0, 1) := by decide +kernel
theorem d_mAdd_12 : decode b_mAdd 12 = .ok (.iconst 5, 1) := by decide +kernel
theorem d_mAdd_13 : decode b_mAdd 13 = .ok (.invokevirtual 61, 3) := by decide +kernel
theorem d_mAdd_16 : decode b_mAdd 16 = .ok (.istore 6, 2) := by decide +kernel
theorem d_mAdd_18 : decode b_mAdd 18 = .ok (.aload_n 0, 1) := by decide +kernel
theorem d_mAdd_19 : decode b_mAdd 19 = .ok (.aload_n 0, 1) := by decide +kernel
theorem d_mAdd_20 : decode b_mAdd 20 = .ok (.iload 6, 2) := by decide +kernel
theorem d_mAdd_22 : decode b_mAdd 22 = .ok (.invokevirtual 65, 3) := by decide +kernel
theorem d_mAdd_25 : decode b_mAdd 25 = .ok (.ifCond .ne 7, 3) := by decide +kernel
theorem d_mAdd_28 : decode b_mAdd 28 = .ok (.iconst 1, 1) := by decide +kernel
theorem d_mAdd_29 : decode b_mAdd 29 = .ok (.goto 21, 3) := by decide +kernel
theorem d_mAdd_32 : decode b_mAdd 32 = .ok (.aload_n 0, 1) := by decide +kernel
theorem d_mAdd_33 : decode b_mAdd 33 = .ok (.getfield 68, 3) := by decide +kernel
theorem d_mAdd_36 : decode b_mAdd 36 = .ok (.iload 6, 2) := by decide +kernel
theorem d_mAdd_38 : decode b_mAdd 38 = .ok (.iadd, 1) := by decide +kernel
theorem d_mAdd_39 : decode b_mAdd 39 = .ok (.sipush 2000, 3) := by decide +kernel
theorem d_mAdd_42 : decode b_mAdd 42 = .ok (.if_icmp .le 7, 3) := by decide +kernel
theorem d_mAdd_45 : decode b_mAdd 45 = .ok (.iconst 2, 1) := by decide +kernel
theorem d_mAdd_46 : decode b_mAdd 46 = .ok (.goto 4, 3) := by decide +kernel
theorem d_mAdd_49 : decode b_mAdd 49 = .ok (.iconst 0, 1) := by decide +kernel
theorem d_mAdd_50 : decode b_mAdd 50 = .ok (.invokevirtual 50, 3) := by decide +kernel
theorem d_mAdd_53 : decode b_mAdd 53 = .ok (.ifCond .eq 5, 3) := by decide +kernel
theorem d_mAdd_56 : decode b_mAdd 56 = .ok (.iconst 0, 1) := by decide +kernel
theorem d_mAdd_57 : decode b_mAdd 57 = .ok (.ireturn, 1) := by decide +kernel
theorem d_mAdd_58 : decode b_mAdd 58 = .ok (.iconst 0, 1) := by decide +kernel
theorem d_mAdd_59 : decode b_mAdd 59 = .ok (.istore 7, 2) := by decide +kernel
theorem d_mAdd_61 : decode b_mAdd 61 = .ok (.iload 7, 2) := by decide +kernel
theorem d_mAdd_63 : decode b_mAdd 63 = .ok (.iload 6, 2) := by decide +kernel
theorem d_mAdd_65 : decode b_mAdd 65 = .ok (.if_icmp .ge 28, 3) := by decide +kernel
theorem d_mAdd_68 : decode b_mAdd 68 = .ok (.aload_n 0, 1) := by decide +kernel
theorem d_mAdd_69 : decode b_mAdd 69 = .ok (.getfield 32, 3) := by decide +kernel
theorem d_mAdd_72 : decode b_mAdd 72 = .ok (.aload_n 0, 1) := by decide +kernel
theorem d_mAdd_73 : decode b_mAdd 73 = .ok (.getfield 68, 3) := by decide +kernel
theorem d_mAdd_76 : decode b_mAdd 76 = .ok (.iload 7, 2) := by decide +kernel
theorem d_mAdd_78 : decode b_mAdd 78 = .ok (.iadd, 1) := by decide +kernel
theorem d_mAdd_79 : decode b_mAdd 79 = .ok (.aload_n 0, 1) := by decide +kernel
theorem d_mAdd_80 : decode b_mAdd 80 = .ok (.getfield 35, 3) := by decide +kernel
theorem d_mAdd_83 : decode b_mAdd 83 = .ok (.iload 7, 2) := by decide +kernel
theorem d_mAdd_85 : decode b_mAdd 85 = .ok (.iaload, 1) := by decide +kernel
theorem d_mAdd_86 : decode b_mAdd 86 = .ok (.iastore, 1) := by decide +kernel
theorem d_mAdd_87 : decode b_mAdd 87 = .ok (.iinc 7 1, 3) := by decide +kernel
theorem d_mAdd_90 : decode b_mAdd 90 = .ok (.goto (-29), 3) := by decide +kernel
theorem d_mAdd_93 : decode b_mAdd 93 = .ok (.aload_n 0, 1) := by decide +kernel
theorem d_mAdd_94 : decode b_mAdd 94 = .ok (.aload_n 0, 1) := by decide +kernel
theorem d_mAdd_95 : decode b_mAdd 95 = .ok (.getfield 68, 3) := by decide +kernel
theorem d_mAdd_98 : decode b_mAdd 98 = .ok (.iload 6, 2) := by decide +kernel
theorem d_mAdd_100 : decode b_mAdd 100 = .ok (.iadd, 1) := by decide +kernel
theorem d_mAdd_101 : decode b_mAdd 101 = .ok (.putfield 68, 3) := by decide +kernel
theorem d_mAdd_104 : decode b_mAdd 104 = .ok (.aload_n 0, 1) := by decide +kernel
theorem d_mAdd_105 : decode b_mAdd 105 = .ok (.getfield 68, 3) := by decide +kernel
theorem d_mAdd_108 : decode b_mAdd 108 = .ok (.ireturn, 1) := by decide +kernel
theorem d_mReplace_0 : decode b_mReplace 0 = .ok (.aload_n 0, 1) := by decide +kernel
theorem d_mReplace_1 : decode b_mReplace 1 = .ok (.iload_n 3, 1) := by decide +kernel
theorem d_mReplace_2 : decode b_mReplace 2 = .ok (.iload 4, 2) := by decide +kernel
theorem d_mReplace_4 : decode b_mReplace 4 = .ok (.iload 5, 2) := by decide +kernel
theorem d_mReplace_6 : decode b_mReplace 6 = .ok (.iconst (-1), 1) := by decide +kernel
theorem d_mReplace_7 : decode b_mReplace 7 = .ok (.iconst (-1), 1) := by decide +kernel
theorem d_mReplace_8 : decode b_mReplace 8 = .ok (.invokevirtual 57, 3) := by decide +kernel
theorem d_mReplace_11 : decode b_mReplace 11 = .ok (.aload_n 0, 1) := by decide +kernel
theorem d_mReplace_12 : decode b_mReplace 12 = .ok (.iconst 3, 1) := by decide +kernel
theorem d_mReplace_13 : decode b_mReplace 13 = .ok (.invokevirtual 61, 3) := by decide +kernel
theorem d_mReplace_16 : decode b_mReplace 16 = .ok (.istore 6, 2) := by decide +kernel
theorem d_mReplace_18 : decode b_mReplace 18 = .ok (.iload_n 1, 1) := by decide +kernel
theorem d_mReplace_19 : decode b_mReplace 19 = .ok (.ifCond .lt 20, 3) := by decide +kernel
theorem d_mReplace_22 : decode b_mReplace 22 = .ok (.iload_n 1, 1) := by decide +kernel
theorem d_mReplace_23 : decode b_mReplace 23 = .ok (.iload_n 2, 1) := by decide +kernel
theorem d_mReplace_24 : decode b_mReplace 24 = .ok (.if_icmp .gt 15, 3) := by decide +kernel
theorem d_mReplace_27 : decode b_mReplace 27 = .ok (.iload_n 2, 1) := by decide +kernel
theorem d_mReplace_28 : decode b_mReplace 28 = .ok (.aload_n 0, 1) := by decide +kernel
theorem d_mReplace_29 : decode b_mReplace 29 = .ok (.getfield 68, 3) := by decide +kernel
theorem d_mReplace_32 : decode b_mReplace 32 = .ok (.if_icmp .gt 7, 3) := by decide +kernel
theorem d_mReplace_35 : decode b_mReplace 35 = .ok (.iconst 1, 1) := by decide +kernel
theorem d_mReplace_36 : decode b_mReplace 36 = .ok (.goto 4, 3) := by decide +kernel
theorem d_mReplace_39 : decode b_mReplace 39 = .ok (.iconst 0, 1) := by decide +kernel
theorem d_mReplace_40 : decode b_mReplace 40 = .ok (.istore 7, 2) := by decide +kernel
theorem d_mReplace_42 : decode b_mReplace 42 = .ok (.aload_n 0, 1) := by decide +kernel
theorem d_mReplace_43 : decode b_mReplace 43 = .ok (.iload 7, 2) := by decide +kernel
theorem d_mReplace_45 : decode b_mReplace 45 = .ok (.ifCond .ne 7, 3) := by decide +kernel
theorem d_mReplace_48 : decode b_mReplace 48 = .ok (.iconst 1, 1) := by decide +kernel
theorem d_mReplace_49 : decode b_mReplace 49 = .ok (.goto 38, 3) := by decide +kernel
theorem d_mReplace_52 : decode b_mReplace 52 = .ok (.aload_n 0, 1) := by decide +kernel
theorem d_mReplace_53 : decode b_mReplace 53 = .ok (.iload 6, 2) := by decide +kernel
theorem d_mReplace_55 : decode b_mReplace 55 = .ok (.invokevirtual 65, 3) := by decide +kernel
theorem d_mReplace_58 : decode b_mReplace 58 = .ok (.ifCond .ne 7, 3) := by decide +kernel
theorem d_mReplace_61 : decode b_mReplace 61 = .ok (.iconst 2, 1) := by decide +kernel
theorem d_mReplace_62 : decode b_mReplace 62 = .ok (.goto 25, 3) := by decide +kernel
theorem d_mReplace_65 : decode b_mReplace 65 = .ok (.aload_n 0, 1) := by decide +kernel
theorem d_mReplace_66 : decode b_mReplace 66 = .ok (.getfield 68, 3) := by decide +kernel
theorem d_mReplace_69 : decode b_mReplace 69 = .ok (.iload_n 2, 1) := by decide +kernel
theorem d_mReplace_70 : decode b_mReplace 70 = .ok (.iload_n 1, 1) := by decide +kernel
theorem d_mReplace_71 : decode b_mReplace 71 = .ok (.isub, 1) := by decide +kernel
theorem d_mReplace_72 : decode b_mReplace 72 = .ok (.isub, 1) := by decide +kernel
theorem d_mReplace_73 : decode b_mReplace 73 = .ok (.iload 6, 2) := by decide +kernel
theorem d_mReplace_75 : decode b_mReplace 75 = .ok (.iadd, 1) := by decide +kernel
theorem d_mReplace_76 : decode b_mReplace 76 = .ok (.sipush 2000, 3) := by decide +kernel
theorem d_mReplace_79 : decode b_mReplace 79 = .ok (.if_icmp .le 7, 3) := by decide +kernel
theorem d_mReplace_82 : decode b_mReplace 82 = .ok (.iconst 3, 1) := by decide +kernel
theorem d_mReplace_83 : decode b_mReplace 83 = .ok (.goto 4, 3) := by decide +kernel
theorem d_mReplace_86 : decode b_mReplace 86 = .ok (.iconst 0, 1) := by decide +kernel
theorem d_mReplace_87 : decode b_mReplace 87 = .ok (.invokevirtual 50, 3) := by decide +kernel
theorem d_mReplace_90 : decode b_mReplace 90 = .ok (.ifCond .eq 5, 3) := by decide +kernel
theorem d_mReplace_93 : decode b_mReplace 93 = .ok (.iconst 0, 1) := by decide +kernel
theorem d_mReplace_94 : decode b_mReplace 94 = .ok (.ireturn, 1) := by decide +kernel
theorem d_mReplace_95 : decode b_mReplace 95 = .ok (.iload 6, 2) := by decide +kernel
theorem d_mReplace_97 : decode b_mReplace 97 = .ok (.iload_n 2, 1) := by decide +kernel
theorem d_mReplace_98 : decode b_mReplace 98 = .ok (.iload_n 1, 1) := by decide +kernel
theorem d_mReplace_99 : decode b_mReplace 99 = .ok (.isub, 1) := by decide +kernel
theorem d_mReplace_100 : decode b_mReplace 100 = .ok (.isub, 1) := by decide +kernel
theorem d_mReplace_101 : decode b_mReplace 101 = .ok (.istore 8, 2) := by decide +kernel
theorem d_mReplace_103 : decode b_mReplace 103 = .ok (.iload 8, 2) := by decide +kernel
theorem d_mReplace_105 : decode b_mReplace 105 = .ok (.ifCond .le 43, 3) := by decide +kernel
theorem d_mReplace_108 : decode b_mReplace 108 = .ok (.aload_n 0, 1) := by decide +kernel
theorem d_mReplace_109 : decode b_mReplace 109 = .ok (.getfield 68, 3) := by decide +kernel
theorem d_mReplace_112 : decode b_mReplace 112 = .ok (.iconst 1, 1) := by decide +kernel
theorem d_mReplace_113 : decode b_mReplace 113 = .ok (.isub, 1) := by decide +kernel
theorem d_mReplace_114 : decode b_mReplace 114 = .ok (.istore 9, 2) := by decide +kernel
theorem d_mReplace_116 : decode b_mReplace 116 = .ok (.iload 9, 2) := by decide +kernel
theorem d_mReplace_118 : decode b_mReplace 118 = .ok (.iload_n 2, 1) := by decide +kernel
theorem d_mReplace_119 : decode b_mReplace 119 = .ok (.if_icmp .lt 26, 3) := by decide +kernel
theorem d_mReplace_122 : decode b_mReplace 122 = .ok (.aload_n 0, 1) := by decide +kernel
theorem d_mReplace_123 : decode b_mReplace 123 = .ok (.getfield 32, 3) := by decide +kernel
theorem d_mReplace_126 : decode b_mReplace 126 = .ok (.iload 9, 2) := by decide +kernel
theorem d_mReplace_128 : decode b_mReplace 128 = .ok (.iload 8, 2) := by decide +kernel
theorem d_mReplace_130 : decode b_mReplace 130 = .ok (.iadd, 1) := by decide +kernel
theorem d_mReplace_131 : decode b_mReplace 131 = .ok (.aload_n 0, 1) := by decide +kernel
theorem d_mReplace_132 : decode b_mReplace 132 = .ok (.getfield 32, 3) := by decide +kernel
theorem d_mReplace_135 : decode b_mReplace 135 = .ok (.iload 9, 2) := by decide +kernel
theorem d_mReplace_137 : decode b_mReplace 137 = .ok (.iaload, 1) := by decide +kernel
theorem d_mReplace_138 : decode b_mReplace 138 = .ok (.iastore, 1) := by decide +kernel
theorem d_mReplace_139 : decode b_mReplace 139 = .ok (.iinc 9 (-1), 3) := by decide +kernel
theorem d_mReplace_142 : decode b_mReplace 142 = .ok (.goto (-26), 3) := by decide +kernel
theorem d_mReplace_145 : decode b_mReplace 145 = .ok (.goto 38, 3) := by decide +kernel
theorem d_mReplace_148 : decode b_mReplace 148 = .ok (.iload_n 2, 1) := by decide +kernel
theorem d_mReplace_149 : decode b_mReplace 149 = .ok (.istore 9, 2) := by decide +kernel
theorem d_mReplace_151 : decode b_mReplace 151 = .ok (.iload 9, 2) := by decide +kernel
theorem d_mReplace_153 : decode b_mReplace 153 = .ok (.aload_n 0, 1) := by decide +kernel
theorem d_mReplace_154 : decode b_mReplace 154 = .ok (.getfield 68, 3) := by decide +kernel
theorem d_mReplace_157 : decode b_mReplace 157 = .ok (.if_icmp .ge 26, 3) := by decide +kernel
theorem d_mReplace_160 : decode b_mReplace 160 = .ok (.aload_n 0, 1) := by decide +kernel
theorem d_mReplace_161 : decode b_mReplace 161 = .ok (.getfield 32, 3) := by decide +kernel
theorem d_mReplace_164 : decode b_mReplace 164 = .ok (.iload 9, 2) := by decide +kernel
theorem d_mReplace_166 : decode b_mReplace 166 = .ok (.iload 8, 2) := by decide +kernel
theorem d_mReplace_168 : decode b_mReplace 168 = .ok (.iadd, 1) := by decide +kernel
theorem d_mReplace_169 : decode b_mReplace 169 = .ok (.aload_n 0, 1) := by decide +kernel
theorem d_mReplace_170 : decode b_mReplace 170 = .ok (.getfield 32, 3) := by decide +kernel
theorem d_mReplace_173 : decode b_mReplace 173 = .ok (.iload 9, 2) := by decide +kernel
theorem d_mReplace_175 : decode b_mReplace 175 = .ok (.iaload, 1) := by decide +kernel
theorem d_mReplace_176 : decode b_mReplace 176 = .ok (.iastore, 1) := by decide +kernel
theorem d_mReplace_177 : decode b_mReplace 177 = .ok (.iinc 9 1, 3) := by decide +kernel
theorem d_mReplace_180 : decode b_mReplace 180 = .ok (.goto (-29), 3) := by decide +kernel
theorem d_mReplace_183 : decode b_mReplace 183 = .ok (.iconst 0, 1) := by decide +kernel
theorem d_mReplace_184 : decode b_mReplace 184 = .ok (.istore 9, 2) := by decide +kernel
theorem d_mReplace_186 : decode b_mReplace 186 = .ok (.iload 9, 2) := by decide +kernel
theorem d_mReplace_188 : decode b_mReplace 188 = .ok (.iload 6, 2) := by decide +kernel
theorem d_mReplace_190 : decode b_mReplace 190 = .ok (.if_icmp .ge 25, 3) := by decide +kernel
theorem d_mReplace_193 : decode b_mReplace 193 = .ok (.aload_n 0, 1) := by decide +kernel
theorem d_mReplace_194 : decode b_mReplace 194 = .ok (.getfield 32, 3) := by decide +kernel
theorem d_mReplace_197 : decode b_mReplace 197 = .ok (.iload_n 1, 1) := by decide +kernel
theorem d_mReplace_198 : decode b_mReplace 198 = .ok (.iload 9, 2) := by decide +kernel
theorem d_mReplace_200 : decode b_mReplace 200 = .ok (.iadd, 1) := by decide +kernel
theorem d_mReplace_201 : decode b_mReplace 201 = .ok (.aload_n 0, 1) := by decide +kernel
theorem d_mReplace_202 : decode b_mReplace 202 = .ok (.getfield 35, 3) := by decide +kernel
theorem d_mReplace_205 : decode b_mReplace 205 = .ok (.iload 9, 2) := by decide +kernel
theorem d_mReplace_207 : decode b_mReplace 207 = .ok (.iaload, 1) := by decide +kernel
theorem d_mReplace_208 : decode b_mReplace 208 = .ok (.iastore, 1) := by decide +kernel
theorem d_mReplace_209 : decode b_mReplace 209 = .ok (.iinc 9 1, 3) := by decide +kernel
theorem d_mReplace_212 : decode b_mReplace 212 = .ok (.goto (-26), 3) := by decide +kernel
theorem d_mReplace_215 : decode b_mReplace 215 = .ok (.aload_n 0, 1) := by decide +kernel
theorem d_mReplace_216 : decode b_mReplace 216 = .ok (.aload_n 0, 1) := by decide +kernel
theorem d_mReplace_217 : decode b_mReplace 217 = .ok (.getfield 68, 3) := by decide +kernel
theorem d_mReplace_220 : decode b_mReplace 220 = .ok (.iload 8, 2) := by decide +kernel
theorem d_mReplace_222 : decode b_mReplace 222 = .ok (.iadd, 1) := by decide +kernel
theorem d_mReplace_223 : decode b_mReplace 223 = .ok (.putfield 68, 3) := by decide +kernel
theorem d_mReplace_226 : decode b_mReplace 226 = .ok (.aload_n 0, 1) := by decide +kernel
theorem d_mReplace_227 : decode b_mReplace 227 = .ok (.getfield 68, 3) := by decide +kernel
theorem d_mReplace_230 : decode b_mReplace 230 = .ok (.ireturn, 1) := by decide +kernel
theorem d_mClassOf_0 : decode b_mClassOf 0 = .ok (.aload_n 0, 1) := by decide +kernel
theorem d_mClassOf_1 : decode b_mClassOf 1 = .ok (.getfield 32, 3) := by decide +kernel
theorem d_mClassOf_4 : decode b_mClassOf 4 = .ok (.iload_n 1, 1) := by decide +kernel
theorem d_mClassOf_5 : decode b_mClassOf 5 = .ok (.iaload, 1) := by decide +kernel
theorem d_mClassOf_6 : decode b_mClassOf 6 = .ok (.istore_n 2, 1) := by decide +kernel
theorem d_mClassOf_7 : decode b_mClassOf 7 = .ok (.bipush 40, 2) := by decide +kernel
theorem d_mClassOf_9 : decode b_mClassOf 9 = .ok (.istore_n 3, 1) := by decide +kernel
theorem d_mClassOf_10 : decode b_mClassOf 10 = .ok (.iconst 0, 1) := by decide +kernel
theorem d_mClassOf_11 : decode b_mClassOf 11 = .ok (.istore 4, 2) := by decide +kernel
theorem d_mClassOf_13 : decode b_mClassOf 13 = .ok (.iload 4, 2) := by decide +kernel
theorem d_mClassOf_15 : decode b_mClassOf 15 = .ok (.aload_n 0, 1) := by decide +kernel
theorem d_mClassOf_16 : decode b_mClassOf 16 = .ok (.getfield 47, 3) := by decide +kernel
theorem d_mClassOf_19 : decode b_mClassOf 19 = .ok (.if_icmp .ge 43, 3) := by decide +kernel
theorem d_mClassOf_22 : decode b_mClassOf 22 = .ok (.aload_n 0, 1) := by decide +kernel
theorem d_mClassOf_23 : decode b_mClassOf 23 = .ok (.getfield 7, 3) := by decide +kernel
theorem d_mClassOf_26 : decode b_mClassOf 26 = .ok (.iload 4, 2) := by decide +kernel
theorem d_mClassOf_28 : decode b_mClassOf 28 = .ok (.iaload, 1) := by decide +kernel
theorem d_mClassOf_29 : decode b_mClassOf 29 = .ok (.iload_n 2, 1) := by decide +kernel
theorem d_mClassOf_30 : decode b_mClassOf 30 = .ok (.if_icmp .gt 24, 3) := by decide +kernel
theorem d_mClassOf_33 : decode b_mClassOf 33 = .ok (.iload_n 2, 1) := by decide +kernel
theorem d_mClassOf_34 : decode b_mClassOf 34 = .ok (.aload_n 0, 1) := by decide +kernel
