theorem d_mClassOf_35 : decode b_mClassOf 35 = .ok (.getfield 13, 3) := by decide +kernel
theorem d_mClassOf_38 : decode b_mClassOf 38 = .ok (.iload 4, 2) := by decide +kernel
theorem d_mClassOf_40 : decode b_mClassOf 40 = .ok (.iaload, 1) := by decide +kernel
theorem d_mClassOf_41 : decode b_mClassOf 41 = .ok (.if_icmp .gt 13, 3) := by decide +kernel
theorem d_mClassOf_44 : decode b_mClassOf 44 = .ok (.aload_n 0, 1) := by decide +kernel
theorem d_mClassOf_45 : decode b_mClassOf 45 = .ok (.getfield 16, 3) := by decide +kernel
theorem d_mClassOf_48 : decode b_mClassOf 48 = .ok (.iload 4, 2) := by decide +kernel
theorem d_mClassOf_50 : decode b_mClassOf 50 = .ok (.iaload, 1) := by decide +kernel
theorem d_mClassOf_51 : decode b_mClassOf 51 = .ok (.goto 4, 3) := by decide +kernel
theorem d_mClassOf_54 : decode b_mClassOf 54 = .ok (.iload_n 3, 1) := by decide +kernel
theorem d_mClassOf_55 : decode b_mClassOf 55 = .ok (.istore_n 3, 1) := by decide +kernel
theorem d_mClassOf_56 : decode b_mClassOf 56 = .ok (.iinc 4 1, 3) := by decide +kernel
theorem d_mClassOf_59 : decode b_mClassOf 59 = .ok (.goto (-46), 3) := by decide +kernel
theorem d_mClassOf_62 : decode b_mClassOf 62 = .ok (.iload_n 3, 1) := by decide +kernel
theorem d_mClassOf_63 : decode b_mClassOf 63 = .ok (.bipush 42, 2) := by decide +kernel
theorem d_mClassOf_65 : decode b_mClassOf 65 = .ok (.if_icmp .ne 6, 3) := by decide +kernel
theorem d_mClassOf_68 : decode b_mClassOf 68 = .ok (.bipush 8, 2) := by decide +kernel
theorem d_mClassOf_70 : decode b_mClassOf 70 = .ok (.ireturn, 1) := by decide +kernel
theorem d_mClassOf_71 : decode b_mClassOf 71 = .ok (.iload_n 3, 1) := by decide +kernel
theorem d_mClassOf_72 : decode b_mClassOf 72 = .ok (.bipush 43, 2) := by decide +kernel
theorem d_mClassOf_74 : decode b_mClassOf 74 = .ok (.if_icmp .ne 18, 3) := by decide +kernel
theorem d_mClassOf_77 : decode b_mClassOf 77 = .ok (.aload_n 0, 1) := by decide +kernel
theorem d_mClassOf_78 : decode b_mClassOf 78 = .ok (.getfield 53, 3) := by decide +kernel
theorem d_mClassOf_81 : decode b_mClassOf 81 = .ok (.ifCond .eq 8, 3) := by decide +kernel
theorem d_mClassOf_84 : decode b_mClassOf 84 = .ok (.bipush 29, 2) := by decide +kernel
theorem d_mClassOf_86 : decode b_mClassOf 86 = .ok (.goto 5, 3) := by decide +kernel
theorem d_mClassOf_89 : decode b_mClassOf 89 = .ok (.bipush 19, 2) := by decide +kernel
theorem d_mClassOf_91 : decode b_mClassOf 91 = .ok (.ireturn, 1) := by decide +kernel
theorem d_mClassOf_92 : decode b_mClassOf 92 = .ok (.iload_n 3, 1) := by decide +kernel
theorem d_mClassOf_93 : decode b_mClassOf 93 = .ok (.bipush 38, 2) := by decide +kernel
theorem d_mClassOf_95 : decode b_mClassOf 95 = .ok (.if_icmp .lt 8, 3) := by decide +kernel
theorem d_mClassOf_98 : decode b_mClassOf 98 = .ok (.bipush 27, 2) := by decide +kernel
theorem d_mClassOf_100 : decode b_mClassOf 100 = .ok (.goto 4, 3) := by decide +kernel
theorem d_mClassOf_103 : decode b_mClassOf 103 = .ok (.iload_n 3, 1) := by decide +kernel
theorem d_mClassOf_104 : decode b_mClassOf 104 = .ok (.ireturn, 1) := by decide +kernel
theorem d_mIsMarked_0 : decode b_mIsMarked 0 = .ok (.aload_n 0, 1) := by decide +kernel
theorem d_mIsMarked_1 : decode b_mIsMarked 1 = .ok (.getfield 32, 3) := by decide +kernel
theorem d_mIsMarked_4 : decode b_mIsMarked 4 = .ok (.iload_n 1, 1) := by decide +kernel
theorem d_mIsMarked_5 : decode b_mIsMarked 5 = .ok (.iaload, 1) := by decide +kernel
theorem d_mIsMarked_6 : decode b_mIsMarked 6 = .ok (.istore_n 3, 1) := by decide +kernel
theorem d_mIsMarked_7 : decode b_mIsMarked 7 = .ok (.iconst 0, 1) := by decide +kernel
theorem d_mIsMarked_8 : decode b_mIsMarked 8 = .ok (.istore 4, 2) := by decide +kernel
theorem d_mIsMarked_10 : decode b_mIsMarked 10 = .ok (.bipush 40, 2) := by decide +kernel
theorem d_mIsMarked_12 : decode b_mIsMarked 12 = .ok (.iload_n 2, 1) := by decide +kernel
theorem d_mIsMarked_13 : decode b_mIsMarked 13 = .ok (.imul, 1) := by decide +kernel
theorem d_mIsMarked_14 : decode b_mIsMarked 14 = .ok (.istore 5, 2) := by decide +kernel
theorem d_mIsMarked_16 : decode b_mIsMarked 16 = .ok (.iload 5, 2) := by decide +kernel
theorem d_mIsMarked_18 : decode b_mIsMarked 18 = .ok (.bipush 40, 2) := by decide +kernel
theorem d_mIsMarked_20 : decode b_mIsMarked 20 = .ok (.iload_n 2, 1) := by decide +kernel
theorem d_mIsMarked_21 : decode b_mIsMarked 21 = .ok (.imul, 1) := by decide +kernel
theorem d_mIsMarked_22 : decode b_mIsMarked 22 = .ok (.aload_n 0, 1) := by decide +kernel
theorem d_mIsMarked_23 : decode b_mIsMarked 23 = .ok (.getfield 19, 3) := by decide +kernel
theorem d_mIsMarked_26 : decode b_mIsMarked 26 = .ok (.iload_n 2, 1) := by decide +kernel
theorem d_mIsMarked_27 : decode b_mIsMarked 27 = .ok (.iaload, 1) := by decide +kernel
theorem d_mIsMarked_28 : decode b_mIsMarked 28 = .ok (.iadd, 1) := by decide +kernel
theorem d_mIsMarked_29 : decode b_mIsMarked 29 = .ok (.if_icmp .ge 45, 3) := by decide +kernel
theorem d_mIsMarked_32 : decode b_mIsMarked 32 = .ok (.aload_n 0, 1) := by decide +kernel
theorem d_mIsMarked_33 : decode b_mIsMarked 33 = .ok (.getfield 22, 3) := by decide +kernel
theorem d_mIsMarked_36 : decode b_mIsMarked 36 = .ok (.iload 5, 2) := by decide +kernel
theorem d_mIsMarked_38 : decode b_mIsMarked 38 = .ok (.iaload, 1) := by decide +kernel
theorem d_mIsMarked_39 : decode b_mIsMarked 39 = .ok (.iload_n 3, 1) := by decide +kernel
theorem d_mIsMarked_40 : decode b_mIsMarked 40 = .ok (.if_icmp .gt 24, 3) := by decide +kernel
theorem d_mIsMarked_43 : decode b_mIsMarked 43 = .ok (.iload_n 3, 1) := by decide +kernel
theorem d_mIsMarked_44 : decode b_mIsMarked 44 = .ok (.aload_n 0, 1) := by decide +kernel
theorem d_mIsMarked_45 : decode b_mIsMarked 45 = .ok (.getfield 25, 3) := by decide +kernel
theorem d_mIsMarked_48 : decode b_mIsMarked 48 = .ok (.iload 5, 2) := by decide +kernel
theorem d_mIsMarked_50 : decode b_mIsMarked 50 = .ok (.iaload, 1) := by decide +kernel
theorem d_mIsMarked_51 : decode b_mIsMarked 51 = .ok (.if_icmp .gt 13, 3) := by decide +kernel
theorem d_mIsMarked_54 : decode b_mIsMarked 54 = .ok (.aload_n 0, 1) := by decide +kernel
theorem d_mIsMarked_55 : decode b_mIsMarked 55 = .ok (.getfield 28, 3) := by decide +kernel
theorem d_mIsMarked_58 : decode b_mIsMarked 58 = .ok (.iload 5, 2) := by decide +kernel
theorem d_mIsMarked_60 : decode b_mIsMarked 60 = .ok (.baload, 1) := by decide +kernel
theorem d_mIsMarked_61 : decode b_mIsMarked 61 = .ok (.goto 5, 3) := by decide +kernel
theorem d_mIsMarked_64 : decode b_mIsMarked 64 = .ok (.iload 4, 2) := by decide +kernel
theorem d_mIsMarked_66 : decode b_mIsMarked 66 = .ok (.istore 4, 2) := by decide +kernel
theorem d_mIsMarked_68 : decode b_mIsMarked 68 = .ok (.iinc 5 1, 3) := by decide +kernel
theorem d_mIsMarked_71 : decode b_mIsMarked 71 = .ok (.goto (-55), 3) := by decide +kernel
theorem d_mIsMarked_74 : decode b_mIsMarked 74 = .ok (.iload 4, 2) := by decide +kernel
theorem d_mIsMarked_76 : decode b_mIsMarked 76 = .ok (.ireturn, 1) := by decide +kernel
theorem d_mMark_0 : decode b_mMark 0 = .ok (.iload_n 1, 1) := by decide +kernel
theorem d_mMark_1 : decode b_mMark 1 = .ok (.invokestatic 43, 3) := by decide +kernel
theorem d_mMark_4 : decode b_mMark 4 = .ok (.ifCond .eq 28, 3) := by decide +kernel
theorem d_mMark_7 : decode b_mMark 7 = .ok (.iload_n 2, 1) := by decide +kernel
theorem d_mMark_8 : decode b_mMark 8 = .ok (.invokestatic 43, 3) := by decide +kernel
theorem d_mMark_11 : decode b_mMark 11 = .ok (.ifCond .eq 21, 3) := by decide +kernel
theorem d_mMark_14 : decode b_mMark 14 = .ok (.iload_n 1, 1) := by decide +kernel
theorem d_mMark_15 : decode b_mMark 15 = .ok (.iload_n 2, 1) := by decide +kernel
theorem d_mMark_16 : decode b_mMark 16 = .ok (.if_icmp .gt 16, 3) := by decide +kernel
theorem d_mMark_19 : decode b_mMark 19 = .ok (.iload_n 3, 1) := by decide +kernel
theorem d_mMark_20 : decode b_mMark 20 = .ok (.ifCond .eq 8, 3) := by decide +kernel
theorem d_mMark_23 : decode b_mMark 23 = .ok (.iload_n 3, 1) := by decide +kernel
theorem d_mMark_24 : decode b_mMark 24 = .ok (.iconst 1, 1) := by decide +kernel
theorem d_mMark_25 : decode b_mMark 25 = .ok (.if_icmp .ne 7, 3) := by decide +kernel
theorem d_mMark_28 : decode b_mMark 28 = .ok (.iconst 1, 1) := by decide +kernel
theorem d_mMark_29 : decode b_mMark 29 = .ok (.goto 4, 3) := by decide +kernel
theorem d_mMark_32 : decode b_mMark 32 = .ok (.iconst 0, 1) := by decide +kernel
theorem d_mMark_33 : decode b_mMark 33 = .ok (.istore 5, 2) := by decide +kernel
theorem d_mMark_35 : decode b_mMark 35 = .ok (.aload_n 0, 1) := by decide +kernel
theorem d_mMark_36 : decode b_mMark 36 = .ok (.iload 5, 2) := by decide +kernel
theorem d_mMark_38 : decode b_mMark 38 = .ok (.ifCond .ne 7, 3) := by decide +kernel
theorem d_mMark_41 : decode b_mMark 41 = .ok (.iconst 1, 1) := by decide +kernel
theorem d_mMark_42 : decode b_mMark 42 = .ok (.goto 19, 3) := by decide +kernel
theorem d_mMark_45 : decode b_mMark 45 = .ok (.aload_n 0, 1) := by decide +kernel
theorem d_mMark_46 : decode b_mMark 46 = .ok (.getfield 19, 3) := by decide +kernel
theorem d_mMark_49 : decode b_mMark 49 = .ok (.iload_n 3, 1) := by decide +kernel
theorem d_mMark_50 : decode b_mMark 50 = .ok (.iaload, 1) := by decide +kernel
theorem d_mMark_51 : decode b_mMark 51 = .ok (.bipush 40, 2) := by decide +kernel
theorem d_mMark_53 : decode b_mMark 53 = .ok (.if_icmp .ne 7, 3) := by decide +kernel
theorem d_mMark_56 : decode b_mMark 56 = .ok (.iconst 2, 1) := by decide +kernel
theorem d_mMark_57 : decode b_mMark 57 = .ok (.goto 4, 3) := by decide +kernel
theorem d_mMark_60 : decode b_mMark 60 = .ok (.iconst 0, 1) := by decide +kernel
theorem d_mMark_61 : decode b_mMark 61 = .ok (.invokevirtual 50, 3) := by decide +kernel
theorem d_mMark_64 : decode b_mMark 64 = .ok (.ifCond .eq 4, 3) := by decide +kernel
theorem d_mMark_67 : decode b_mMark 67 = .ok (.return_, 1) := by decide +kernel
theorem d_mMark_68 : decode b_mMark 68 = .ok (.bipush 40, 2) := by decide +kernel
theorem d_mMark_70 : decode b_mMark 70 = .ok (.iload_n 3, 1) := by decide +kernel
theorem d_mMark_71 : decode b_mMark 71 = .ok (.imul, 1) := by decide +kernel
theorem d_mMark_72 : decode b_mMark 72 = .ok (.aload_n 0, 1) := by decide +kernel
theorem d_mMark_73 : decode b_mMark 73 = .ok (.getfield 19, 3) := by decide +kernel
theorem d_mMark_76 : decode b_mMark 76 = .ok (.iload_n 3, 1) := by decide +kernel
theorem d_mMark_77 : decode b_mMark 77 = .ok (.iaload, 1) := by decide +kernel
theorem d_mMark_78 : decode b_mMark 78 = .ok (.iadd, 1) := by decide +kernel
theorem d_mMark_79 : decode b_mMark 79 = .ok (.istore 6, 2) := by decide +kernel
theorem d_mMark_81 : decode b_mMark 81 = .ok (.aload_n 0, 1) := by decide +kernel
theorem d_mMark_82 : decode b_mMark 82 = .ok (.getfield 22, 3) := by decide +kernel
theorem d_mMark_85 : decode b_mMark 85 = .ok (.iload 6, 2) := by decide +kernel
theorem d_mMark_87 : decode b_mMark 87 = .ok (.iload_n 1, 1) := by decide +kernel
theorem d_mMark_88 : decode b_mMark 88 = .ok (.iastore, 1) := by decide +kernel
theorem d_mMark_89 : decode b_mMark 89 = .ok (.aload_n 0, 1) := by decide +kernel
theorem d_mMark_90 : decode b_mMark 90 = .ok (.getfield 25, 3) := by decide +kernel
theorem d_mMark_93 : decode b_mMark 93 = .ok (.iload 6, 2) := by decide +kernel
theorem d_mMark_95 : decode b_mMark 95 = .ok (.iload_n 2, 1) := by decide +kernel
theorem d_mMark_96 : decode b_mMark 96 = .ok (.iastore, 1) := by decide +kernel
theorem d_mMark_97 : decode b_mMark 97 = .ok (.aload_n 0, 1) := by decide +kernel
theorem d_mMark_98 : decode b_mMark 98 = .ok (.getfield 28, 3) := by decide +kernel
theorem d_mMark_101 : decode b_mMark 101 = .ok (.iload 6, 2) := by decide +kernel
theorem d_mMark_103 : decode b_mMark 103 = .ok (.iload 4, 2) := by decide +kernel
theorem d_mMark_105 : decode b_mMark 105 = .ok (.bastore, 1) := by decide +kernel
theorem d_mMark_106 : decode b_mMark 106 = .ok (.aload_n 0, 1) := by decide +kernel
theorem d_mMark_107 : decode b_mMark 107 = .ok (.getfield 19, 3) := by decide +kernel
theorem d_mMark_110 : decode b_mMark 110 = .ok (.iload_n 3, 1) := by decide +kernel
theorem d_mMark_111 : decode b_mMark 111 = .ok (.dup2, 1) := by decide +kernel
theorem d_mMark_112 : decode b_mMark 112 = .ok (.iaload, 1) := by decide +kernel
theorem d_mMark_113 : decode b_mMark 113 = .ok (.iconst 1, 1) := by decide +kernel
theorem d_mMark_114 : decode b_mMark 114 = .ok (.iadd, 1) := by decide +kernel
theorem d_mMark_115 : decode b_mMark 115 = .ok (.iastore, 1) := by decide +kernel
theorem d_mMark_116 : decode b_mMark 116 = .ok (.return_, 1) := by decide +kernel
theorem d_mIsMark_0 : decode b_mIsMark 0 = .ok (.aload_n 0, 1) := by decide +kernel
theorem d_mIsMark_1 : decode b_mIsMark 1 = .ok (.iload_n 1, 1) := by decide +kernel
theorem d_mIsMark_2 : decode b_mIsMark 2 = .ok (.invokevirtual 71, 3) := by decide +kernel
theorem d_mIsMark_5 : decode b_mIsMark 5 = .ok (.istore_n 2, 1) := by decide +kernel
theorem d_mIsMark_6 : decode b_mIsMark 6 = .ok (.iload_n 2, 1) := by decide +kernel
theorem d_mIsMark_7 : decode b_mIsMark 7 = .ok (.bipush 8, 2) := by decide +kernel
theorem d_mIsMark_9 : decode b_mIsMark 9 = .ok (.if_icmp .eq 9, 3) := by decide +kernel
theorem d_mIsMark_12 : decode b_mIsMark 12 = .ok (.iload_n 2, 1) := by decide +kernel
theorem d_mIsMark_13 : decode b_mIsMark 13 = .ok (.bipush 7, 2) := by decide +kernel
theorem d_mIsMark_15 : decode b_mIsMark 15 = .ok (.if_icmp .ne 7, 3) := by decide +kernel
theorem d_mIsMark_18 : decode b_mIsMark 18 = .ok (.iconst 1, 1) := by decide +kernel
theorem d_mIsMark_19 : decode b_mIsMark 19 = .ok (.goto 4, 3) := by decide +kernel
theorem d_mIsMark_22 : decode b_mIsMark 22 = .ok (.iconst 0, 1) := by decide +kernel
theorem d_mIsMark_23 : decode b_mIsMark 23 = .ok (.ireturn, 1) := by decide +kernel
theorem d_mIsLeftOut_0 : decode b_mIsLeftOut 0 = .ok (.iload_n 1, 1) := by decide +kernel
theorem d_mIsLeftOut_1 : decode b_mIsLeftOut 1 = .ok (.ifCond .eq 11, 3) := by decide +kernel
theorem d_mIsLeftOut_4 : decode b_mIsLeftOut 4 = .ok (.aload_n 0, 1) := by decide +kernel
theorem d_mIsLeftOut_5 : decode b_mIsLeftOut 5 = .ok (.iload_n 1, 1) := by decide +kernel
theorem d_mIsLeftOut_6 : decode b_mIsLeftOut 6 = .ok (.invokevirtual 74, 3) := by decide +kernel
theorem d_mIsLeftOut_9 : decode b_mIsLeftOut 9 = .ok (.ifCond .ne 5, 3) := by decide +kernel
theorem d_mIsLeftOut_12 : decode b_mIsLeftOut 12 = .ok (.iconst 0, 1) := by decide +kernel
theorem d_mIsLeftOut_13 : decode b_mIsLeftOut 13 = .ok (.ireturn, 1) := by decide +kernel
theorem d_mIsLeftOut_14 : decode b_mIsLeftOut 14 = .ok (.aload_n 0, 1) := by decide +kernel
theorem d_mIsLeftOut_15 : decode b_mIsLeftOut 15 = .ok (.iload_n 1, 1) := by decide +kernel
theorem d_mIsLeftOut_16 : decode b_mIsLeftOut 16 = .ok (.iconst 1, 1) := by decide +kernel
theorem d_mIsLeftOut_17 : decode b_mIsLeftOut 17 = .ok (.isub, 1) := by decide +kernel
theorem d_mIsLeftOut_18 : decode b_mIsLeftOut 18 = .ok (.invokevirtual 71, 3) := by decide +kernel
theorem d_mIsLeftOut_21 : decode b_mIsLeftOut 21 = .ok (.istore_n 2, 1) := by decide +kernel
theorem d_mIsLeftOut_22 : decode b_mIsLeftOut 22 = .ok (.iload_n 2, 1) := by decide +kernel
theorem d_mIsLeftOut_23 : decode b_mIsLeftOut 23 = .ok (.iconst 5, 1) := by decide +kernel
theorem d_mIsLeftOut_24 : decode b_mIsLeftOut 24 = .ok (.if_icmp .le 7, 3) := by decide +kernel
theorem d_mIsLeftOut_27 : decode b_mIsLeftOut 27 = .ok (.iconst 1, 1) := by decide +kernel
theorem d_mIsLeftOut_28 : decode b_mIsLeftOut 28 = .ok (.goto 4, 3) := by decide +kernel
theorem d_mIsLeftOut_31 : decode b_mIsLeftOut 31 = .ok (.iconst 0, 1) := by decide +kernel
theorem d_mIsLeftOut_32 : decode b_mIsLeftOut 32 = .ok (.ireturn, 1) := by decide +kernel
theorem d_mBase_0 : decode b_mBase 0 = .ok (.iload_n 1, 1) := by decide +kernel
theorem d_mBase_1 : decode b_mBase 1 = .ok (.istore_n 2, 1) := by decide +kernel
theorem d_mBase_2 : decode b_mBase 2 = .ok (.iload_n 2, 1) := by decide +kernel
theorem d_mBase_3 : decode b_mBase 3 = .ok (.ifCond .lt 17, 3) := by decide +kernel
theorem d_mBase_6 : decode b_mBase 6 = .ok (.aload_n 0, 1) := by decide +kernel
theorem d_mBase_7 : decode b_mBase 7 = .ok (.iload_n 2, 1) := by decide +kernel
theorem d_mBase_8 : decode b_mBase 8 = .ok (.invokevirtual 77, 3) := by decide +kernel
theorem d_mBase_11 : decode b_mBase 11 = .ok (.ifCond .eq 9, 3) := by decide +kernel
theorem d_mBase_14 : decode b_mBase 14 = .ok (.iinc 2 (-1), 3) := by decide +kernel
theorem d_mBase_17 : decode b_mBase 17 = .ok (.goto (-15), 3) := by decide +kernel
theorem d_mBase_20 : decode b_mBase 20 = .ok (.iload_n 2, 1) := by decide +kernel
theorem d_mBase_21 : decode b_mBase 21 = .ok (.ireturn, 1) := by decide +kernel
theorem d_mBaseClass_0 : decode b_mBaseClass 0 = .ok (.iload_n 1, 1) := by decide +kernel
theorem d_mBaseClass_1 : decode b_mBaseClass 1 = .ok (.ifCond .ge 5, 3) := by decide +kernel
theorem d_mBaseClass_4 : decode b_mBaseClass 4 = .ok (.iconst (-1), 1) := by decide +kernel
theorem d_mBaseClass_5 : decode b_mBaseClass 5 = .ok (.ireturn, 1) := by decide +kernel
theorem d_mBaseClass_6 : decode b_mBaseClass 6 = .ok (.aload_n 0, 1) := by decide +kernel
theorem d_mBaseClass_7 : decode b_mBaseClass 7 = .ok (.iload_n 1, 1) := by decide +kernel
theorem d_mBaseClass_8 : decode b_mBaseClass 8 = .ok (.invokevirtual 74, 3) := by decide +kernel
theorem d_mBaseClass_11 : decode b_mBaseClass 11 = .ok (.ifCond .eq 8, 3) := by decide +kernel
theorem d_mBaseClass_14 : decode b_mBaseClass 14 = .ok (.bipush 27, 2) := by decide +kernel
theorem d_mBaseClass_16 : decode b_mBaseClass 16 = .ok (.goto 8, 3) := by decide +kernel
theorem d_mBaseClass_19 : decode b_mBaseClass 19 = .ok (.aload_n 0, 1) := by decide +kernel
theorem d_mBaseClass_20 : decode b_mBaseClass 20 = .ok (.iload_n 1, 1) := by decide +kernel
theorem d_mBaseClass_21 : decode b_mBaseClass 21 = .ok (.invokevirtual 71, 3) := by decide +kernel
theorem d_mBaseClass_24 : decode b_mBaseClass 24 = .ok (.ireturn, 1) := by decide +kernel
theorem d_mEarly_0 : decode b_mEarly 0 = .ok (.iload_n 1, 1) := by decide +kernel
theorem d_mEarly_1 : decode b_mEarly 1 = .ok (.ifCond .ne 11, 3) := by decide +kernel
theorem d_mEarly_4 : decode b_mEarly 4 = .ok (.aload_n 0, 1) := by decide +kernel
theorem d_mEarly_5 : decode b_mEarly 5 = .ok (.bipush 20, 2) := by decide +kernel
theorem d_mEarly_7 : decode b_mEarly 7 = .ok (.iconst 0, 1) := by decide +kernel
theorem d_mEarly_8 : decode b_mEarly 8 = .ok (.invokevirtual 83, 3) := by decide +kernel
theorem d_mEarly_11 : decode b_mEarly 11 = .ok (.ireturn, 1) := by decide +kernel
theorem d_mEarly_12 : decode b_mEarly 12 = .ok (.iload_n 1, 1) := by decide +kernel
theorem d_mEarly_13 : decode b_mEarly 13 = .ok (.aload_n 0, 1) := by decide +kernel
theorem d_mEarly_14 : decode b_mEarly 14 = .ok (.getfield 68, 3) := by decide +kernel
theorem d_mEarly_17 : decode b_mEarly 17 = .ok (.if_icmp .ne 11, 3) := by decide +kernel
theorem d_mEarly_20 : decode b_mEarly 20 = .ok (.aload_n 0, 1) := by decide +kernel
theorem d_mEarly_21 : decode b_mEarly 21 = .ok (.bipush 30, 2) := by decide +kernel
theorem d_mEarly_23 : decode b_mEarly 23 = .ok (.iconst 2, 1) := by decide +kernel
theorem d_mEarly_24 : decode b_mEarly 24 = .ok (.invokevirtual 83, 3) := by decide +kernel
theorem d_mEarly_27 : decode b_mEarly 27 = .ok (.ireturn, 1) := by decide +kernel
theorem d_mEarly_28 : decode b_mEarly 28 = .ok (.aload_n 0, 1) := by decide +kernel
theorem d_mEarly_29 : decode b_mEarly 29 = .ok (.iload_n 1, 1) := by decide +kernel
theorem d_mEarly_30 : decode b_mEarly 30 = .ok (.iconst 1, 1) := by decide +kernel
theorem d_mEarly_31 : decode b_mEarly 31 = .ok (.isub, 1) := by decide +kernel
theorem d_mEarly_32 : decode b_mEarly 32 = .ok (.invokevirtual 71, 3) := by decide +kernel
theorem d_mEarly_35 : decode b_mEarly 35 = .ok (.istore_n 2, 1) := by decide +kernel
theorem d_mEarly_36 : decode b_mEarly 36 = .ok (.aload_n 0, 1) := by decide +kernel
theorem d_mEarly_37 : decode b_mEarly 37 = .ok (.iload_n 1, 1) := by decide +kernel
theorem d_mEarly_38 : decode b_mEarly 38 = .ok (.invokevirtual 71, 3) := by decide +kernel
theorem d_mEarly_41 : decode b_mEarly 41 = .ok (.istore_n 3, 1) := by decide +kernel
theorem d_mEarly_42 : decode b_mEarly 42 = .ok (.iload_n 2, 1) := by decide +kernel
theorem d_mEarly_43 : decode b_mEarly 43 = .ok (.ifCond .ne 11, 3) := by decide +kernel
theorem d_mEarly_46 : decode b_mEarly 46 = .ok (.aload_n 0, 1) := by decide +kernel
theorem d_mEarly_47 : decode b_mEarly 47 = .ok (.bipush 40, 2) := by decide +kernel
theorem d_mEarly_49 : decode b_mEarly 49 = .ok (.iconst 2, 1) := by decide +kernel
theorem d_mEarly_50 : decode b_mEarly 50 = .ok (.invokevirtual 83, 3) := by decide +kernel
theorem d_mEarly_53 : decode b_mEarly 53 = .ok (.ireturn, 1) := by decide +kernel
theorem d_mEarly_54 : decode b_mEarly 54 = .ok (.iload_n 2, 1) := by decide +kernel
theorem d_mEarly_55 : decode b_mEarly 55 = .ok (.iconst 1, 1) := by decide +kernel
theorem d_mEarly_56 : decode b_mEarly 56 = .ok (.if_icmp .ne 16, 3) := by decide +kernel
theorem d_mEarly_59 : decode b_mEarly 59 = .ok (.iload_n 3, 1) := by decide +kernel
theorem d_mEarly_60 : decode b_mEarly 60 = .ok (.iconst 2, 1) := by decide +kernel
theorem d_mEarly_61 : decode b_mEarly 61 = .ok (.if_icmp .ne 11, 3) := by decide +kernel
theorem d_mEarly_64 : decode b_mEarly 64 = .ok (.aload_n 0, 1) := by decide +kernel
theorem d_mEarly_65 : decode b_mEarly 65 = .ok (.bipush 50, 2) := by decide +kernel
theorem d_mEarly_67 : decode b_mEarly 67 = .ok (.iconst 0, 1) := by decide +kernel
theorem d_mEarly_68 : decode b_mEarly 68 = .ok (.invokevirtual 83, 3) := by decide +kernel
theorem d_mEarly_71 : decode b_mEarly 71 = .ok (.ireturn, 1) := by decide +kernel
theorem d_mEarly_72 : decode b_mEarly 72 = .ok (.iload_n 2, 1) := by decide +kernel
theorem d_mEarly_73 : decode b_mEarly 73 = .ok (.iconst 1, 1) := by decide +kernel
theorem d_mEarly_74 : decode b_mEarly 74 = .ok (.if_icmp .eq 13, 3) := by decide +kernel
theorem d_mEarly_77 : decode b_mEarly 77 = .ok (.iload_n 2, 1) := by decide +kernel
theorem d_mEarly_78 : decode b_mEarly 78 = .ok (.iconst 2, 1) := by decide +kernel
theorem d_mEarly_79 : decode b_mEarly 79 = .ok (.if_icmp .eq 8, 3) := by decide +kernel
theorem d_mEarly_82 : decode b_mEarly 82 = .ok (.iload_n 2, 1) := by decide +kernel
theorem d_mEarly_83 : decode b_mEarly 83 = .ok (.iconst 3, 1) := by decide +kernel
theorem d_mEarly_84 : decode b_mEarly 84 = .ok (.if_icmp .ne 11, 3) := by decide +kernel
theorem d_mEarly_87 : decode b_mEarly 87 = .ok (.aload_n 0, 1) := by decide +kernel
theorem d_mEarly_88 : decode b_mEarly 88 = .ok (.bipush 50, 2) := by decide +kernel
theorem d_mEarly_90 : decode b_mEarly 90 = .ok (.iconst 2, 1) := by decide +kernel
theorem d_mEarly_91 : decode b_mEarly 91 = .ok (.invokevirtual 83, 3) := by decide +kernel
theorem d_mEarly_94 : decode b_mEarly 94 = .ok (.ireturn, 1) := by decide +kernel
theorem d_mEarly_95 : decode b_mEarly 95 = .ok (.iload_n 3, 1) := by decide +kernel
theorem d_mEarly_96 : decode b_mEarly 96 = .ok (.iconst 3, 1) := by decide +kernel
theorem d_mEarly_97 : decode b_mEarly 97 = .ok (.if_icmp .gt 11, 3) := by decide +kernel
theorem d_mEarly_100 : decode b_mEarly 100 = .ok (.aload_n 0, 1) := by decide +kernel
theorem d_mEarly_101 : decode b_mEarly 101 = .ok (.bipush 60, 2) := by decide +kernel
theorem d_mEarly_103 : decode b_mEarly 103 = .ok (.iconst 0, 1) := by decide +kernel
theorem d_mEarly_104 : decode b_mEarly 104 = .ok (.invokevirtual 83, 3) := by decide +kernel
theorem d_mEarly_107 : decode b_mEarly 107 = .ok (.ireturn, 1) := by decide +kernel
theorem d_mEarly_108 : decode b_mEarly 108 = .ok (.iload_n 3, 1) := by decide +kernel
theorem d_mEarly_109 : decode b_mEarly 109 = .ok (.iconst 4, 1) := by decide +kernel
theorem d_mEarly_110 : decode b_mEarly 110 = .ok (.if_icmp .eq 8, 3) := by decide +kernel
theorem d_mEarly_113 : decode b_mEarly 113 = .ok (.iload_n 3, 1) := by decide +kernel
theorem d_mEarly_114 : decode b_mEarly 114 = .ok (.iconst 5, 1) := by decide +kernel
theorem d_mEarly_115 : decode b_mEarly 115 = .ok (.if_icmp .ne 11, 3) := by decide +kernel
theorem d_mEarly_118 : decode b_mEarly 118 = .ok (.aload_n 0, 1) := by decide +kernel
theorem d_mEarly_119 : decode b_mEarly 119 = .ok (.bipush 70, 2) := by decide +kernel
theorem d_mEarly_121 : decode b_mEarly 121 = .ok (.iconst 0, 1) := by decide +kernel
theorem d_mEarly_122 : decode b_mEarly 122 = .ok (.invokevirtual 83, 3) := by decide +kernel
theorem d_mEarly_125 : decode b_mEarly 125 = .ok (.ireturn, 1) := by decide +kernel
theorem d_mEarly_126 : decode b_mEarly 126 = .ok (.iload_n 1, 1) := by decide +kernel
theorem d_mEarly_127 : decode b_mEarly 127 = .ok (.iconst 1, 1) := by decide +kernel
theorem d_mEarly_128 : decode b_mEarly 128 = .ok (.isub, 1) := by decide +kernel
theorem d_mEarly_129 : decode b_mEarly 129 = .ok (.istore 4, 2) := by decide +kernel
theorem d_mEarly_131 : decode b_mEarly 131 = .ok (.iload 4, 2) := by decide +kernel
theorem d_mEarly_133 : decode b_mEarly 133 = .ok (.ifCond .le 19, 3) := by decide +kernel
theorem d_mEarly_136 : decode b_mEarly 136 = .ok (.aload_n 0, 1) := by decide +kernel
theorem d_mEarly_137 : decode b_mEarly 137 = .ok (.iload 4, 2) := by decide +kernel
theorem d_mEarly_139 : decode b_mEarly 139 = .ok (.invokevirtual 71, 3) := by decide +kernel
theorem d_mEarly_142 : decode b_mEarly 142 = .ok (.iconst 4, 1) := by decide +kernel
theorem d_mEarly_143 : decode b_mEarly 143 = .ok (.if_icmp .ne 9, 3) := by decide +kernel
theorem d_mEarly_146 : decode b_mEarly 146 = .ok (.iinc 4 (-1), 3) := by decide +kernel
theorem d_mEarly_149 : decode b_mEarly 149 = .ok (.goto (-18), 3) := by decide +kernel
theorem d_mEarly_152 : decode b_mEarly 152 = .ok (.aload_n 0, 1) := by decide +kernel
theorem d_mEarly_153 : decode b_mEarly 153 = .ok (.iload 4, 2) := by decide +kernel
theorem d_mEarly_155 : decode b_mEarly 155 = .ok (.invokevirtual 71, 3) := by decide +kernel
theorem d_mEarly_158 : decode b_mEarly 158 = .ok (.iconst 5, 1) := by decide +kernel
theorem d_mEarly_159 : decode b_mEarly 159 = .ok (.if_icmp .ne 11, 3) := by decide +kernel
theorem d_mEarly_162 : decode b_mEarly 162 = .ok (.aload_n 0, 1) := by decide +kernel
theorem d_mEarly_163 : decode b_mEarly 163 = .ok (.bipush 80, 2) := by decide +kernel
theorem d_mEarly_165 : decode b_mEarly 165 = .ok (.iconst 1, 1) := by decide +kernel
theorem d_mEarly_166 : decode b_mEarly 166 = .ok (.invokevirtual 83, 3) := by decide +kernel
theorem d_mEarly_169 : decode b_mEarly 169 = .ok (.ireturn, 1) := by decide +kernel
theorem d_mEarly_170 : decode b_mEarly 170 = .ok (.iload_n 2, 1) := by decide +kernel
theorem d_mEarly_171 : decode b_mEarly 171 = .ok (.bipush 7, 2) := by decide +kernel
theorem d_mEarly_173 : decode b_mEarly 173 = .ok (.if_icmp .ne 11, 3) := by decide +kernel
theorem d_mEarly_176 : decode b_mEarly 176 = .ok (.aload_n 0, 1) := by decide +kernel
theorem d_mEarly_177 : decode b_mEarly 177 = .ok (.bipush 81, 2) := by decide +kernel
theorem d_mEarly_179 : decode b_mEarly 179 = .ok (.iconst 0, 1) := by decide +kernel
theorem d_mEarly_180 : decode b_mEarly 180 = .ok (.invokevirtual 83, 3) := by decide +kernel
theorem d_mEarly_183 : decode b_mEarly 183 = .ok (.ireturn, 1) := by decide +kernel
theorem d_mEarly_184 : decode b_mEarly 184 = .ok (.aload_n 0, 1) := by decide +kernel
theorem d_mEarly_185 : decode b_mEarly 185 = .ok (.iload_n 1, 1) := by decide +kernel
theorem d_mEarly_186 : decode b_mEarly 186 = .ok (.invokevirtual 77, 3) := by decide +kernel
theorem d_mEarly_189 : decode b_mEarly 189 = .ok (.ifCond .eq 13, 3) := by decide +kernel
theorem d_mEarly_192 : decode b_mEarly 192 = .ok (.aload_n 0, 1) := by decide +kernel
theorem d_mEarly_193 : decode b_mEarly 193 = .ok (.bipush 90, 2) := by decide +kernel
theorem d_mEarly_195 : decode b_mEarly 195 = .ok (.iconst 0, 1) := by decide +kernel
theorem d_mEarly_196 : decode b_mEarly 196 = .ok (.invokevirtual 83, 3) := by decide +kernel
theorem d_mEarly_199 : decode b_mEarly 199 = .ok (.goto 4, 3) := by decide +kernel
theorem d_mEarly_202 : decode b_mEarly 202 = .ok (.iconst 0, 1) := by decide +kernel
theorem d_mEarly_203 : decode b_mEarly 203 = .ok (.ireturn, 1) := by decide +kernel
theorem d_mBeforeSpaces_0 : decode b_mBeforeSpaces 0 = .ok (.iload_n 1, 1) := by decide +kernel
theorem d_mBeforeSpaces_1 : decode b_mBeforeSpaces 1 = .ok (.iconst 1, 1) := by decide +kernel
theorem d_mBeforeSpaces_2 : decode b_mBeforeSpaces 2 = .ok (.isub, 1) := by decide +kernel
theorem d_mBeforeSpaces_3 : decode b_mBeforeSpaces 3 = .ok (.istore_n 2, 1) := by decide +kernel
theorem d_mBeforeSpaces_4 : decode b_mBeforeSpaces 4 = .ok (.iload_n 2, 1) := by decide +kernel
theorem d_mBeforeSpaces_5 : decode b_mBeforeSpaces 5 = .ok (.ifCond .lt 18, 3) := by decide +kernel
theorem d_mBeforeSpaces_8 : decode b_mBeforeSpaces 8 = .ok (.aload_n 0, 1) := by decide +kernel
theorem d_mBeforeSpaces_9 : decode b_mBeforeSpaces 9 = .ok (.iload_n 2, 1) := by decide +kernel
theorem d_mBeforeSpaces_10 : decode b_mBeforeSpaces 10 = .ok (.invokevirtual 71, 3) := by decide +kernel
theorem d_mBeforeSpaces_13 : decode b_mBeforeSpaces 13 = .ok (.iconst 4, 1) := by decide +kernel
theorem d_mBeforeSpaces_14 : decode b_mBeforeSpaces 14 = .ok (.if_icmp .ne 9, 3) := by decide +kernel
theorem d_mBeforeSpaces_17 : decode b_mBeforeSpaces 17 = .ok (.iinc 2 (-1), 3) := by decide +kernel
theorem d_mBeforeSpaces_20 : decode b_mBeforeSpaces 20 = .ok (.goto (-16), 3) := by decide +kernel
theorem d_mBeforeSpaces_23 : decode b_mBeforeSpaces 23 = .ok (.aload_n 0, 1) := by decide +kernel
theorem d_mBeforeSpaces_24 : decode b_mBeforeSpaces 24 = .ok (.aload_n 0, 1) := by decide +kernel
theorem d_mBeforeSpaces_25 : decode b_mBeforeSpaces 25 = .ok (.iload_n 2, 1) := by decide +kernel
theorem d_mBeforeSpaces_26 : decode b_mBeforeSpaces 26 = .ok (.invokevirtual 87, 3) := by decide +kernel
theorem d_mBeforeSpaces_29 : decode b_mBeforeSpaces 29 = .ok (.invokevirtual 90, 3) := by decide +kernel
theorem d_mBeforeSpaces_32 : decode b_mBeforeSpaces 32 = .ok (.ireturn, 1) := by decide +kernel
theorem d_mFlags_0 : decode b_mFlags 0 = .ok (.iconst 0, 1) := by decide +kernel
theorem d_mFlags_1 : decode b_mFlags 1 = .ok (.istore_n 2, 1) := by decide +kernel
theorem d_mFlags_2 : decode b_mFlags 2 = .ok (.iload_n 1, 1) := by decide +kernel
theorem d_mFlags_3 : decode b_mFlags 3 = .ok (.istore_n 3, 1) := by decide +kernel
