theorem d_La_beginAny_0 : decode b_La_beginAny 0 = .ok (.aload_n 0, 1) := by decide +kernel
theorem d_La_beginAny_1 : decode b_La_beginAny 1 = .ok (.getfield 12, 3) := by decide +kernel
theorem d_La_beginAny_4 : decode b_La_beginAny 4 = .ok (.getfield 187, 3) := by decide +kernel
theorem d_La_beginAny_7 : decode b_La_beginAny 7 = .ok (.iload_n 1, 1) := by decide +kernel
theorem d_La_beginAny_8 : decode b_La_beginAny 8 = .ok (.iaload, 1) := by decide +kernel
theorem d_La_beginAny_9 : decode b_La_beginAny 9 = .ok (.iconst (-1), 1) := by decide +kernel
theorem d_La_beginAny_10 : decode b_La_beginAny 10 = .ok (.if_icmp .ne 11, 3) := by decide +kernel
theorem d_La_beginAny_13 : decode b_La_beginAny 13 = .ok (.aload_n 0, 1) := by decide +kernel
theorem d_La_beginAny_14 : decode b_La_beginAny 14 = .ok (.getfield 21, 3) := by decide +kernel
theorem d_La_beginAny_17 : decode b_La_beginAny 17 = .ok (.invokevirtual 147, 3) := by decide +kernel
theorem d_La_beginAny_20 : decode b_La_beginAny 20 = .ok (.return_, 1) := by decide +kernel
theorem d_La_beginAny_21 : decode b_La_beginAny 21 = .ok (.aload_n 0, 1) := by decide +kernel
theorem d_La_beginAny_22 : decode b_La_beginAny 22 = .ok (.getfield 12, 3) := by decide +kernel
theorem d_La_beginAny_25 : decode b_La_beginAny 25 = .ok (.getfield 206, 3) := by decide +kernel
theorem d_La_beginAny_28 : decode b_La_beginAny 28 = .ok (.iload_n 1, 1) := by decide +kernel
theorem d_La_beginAny_29 : decode b_La_beginAny 29 = .ok (.iaload, 1) := by decide +kernel
theorem d_La_beginAny_30 : decode b_La_beginAny 30 = .ok (.istore_n 2, 1) := by decide +kernel
theorem d_La_beginAny_31 : decode b_La_beginAny 31 = .ok (.aload_n 0, 1) := by decide +kernel
theorem d_La_beginAny_32 : decode b_La_beginAny 32 = .ok (.getfield 28, 3) := by decide +kernel
theorem d_La_beginAny_35 : decode b_La_beginAny 35 = .ok (.iload_n 1, 1) := by decide +kernel
theorem d_La_beginAny_36 : decode b_La_beginAny 36 = .ok (.iconst (-1), 1) := by decide +kernel
theorem d_La_beginAny_37 : decode b_La_beginAny 37 = .ok (.aload_n 0, 1) := by decide +kernel
theorem d_La_beginAny_38 : decode b_La_beginAny 38 = .ok (.getfield 40, 3) := by decide +kernel
theorem d_La_beginAny_41 : decode b_La_beginAny 41 = .ok (.getfield 74, 3) := by decide +kernel
theorem d_La_beginAny_44 : decode b_La_beginAny 44 = .ok (.aload_n 0, 1) := by decide +kernel
theorem d_La_beginAny_45 : decode b_La_beginAny 45 = .ok (.getfield 12, 3) := by decide +kernel
theorem d_La_beginAny_48 : decode b_La_beginAny 48 = .ok (.getfield 212, 3) := by decide +kernel
theorem d_La_beginAny_51 : decode b_La_beginAny 51 = .ok (.invokevirtual 215, 3) := by decide +kernel
theorem d_La_beginAny_54 : decode b_La_beginAny 54 = .ok (.aload_n 0, 1) := by decide +kernel
theorem d_La_beginAny_55 : decode b_La_beginAny 55 = .ok (.bipush 15, 2) := by decide +kernel
theorem d_La_beginAny_57 : decode b_La_beginAny 57 = .ok (.iload_n 2, 1) := by decide +kernel
theorem d_La_beginAny_58 : decode b_La_beginAny 58 = .ok (.aload_n 0, 1) := by decide +kernel
theorem d_La_beginAny_59 : decode b_La_beginAny 59 = .ok (.getfield 12, 3) := by decide +kernel
theorem d_La_beginAny_62 : decode b_La_beginAny 62 = .ok (.getfield 184, 3) := by decide +kernel
theorem d_La_beginAny_65 : decode b_La_beginAny 65 = .ok (.iload_n 1, 1) := by decide +kernel
theorem d_La_beginAny_66 : decode b_La_beginAny 66 = .ok (.iaload, 1) := by decide +kernel
theorem d_La_beginAny_67 : decode b_La_beginAny 67 = .ok (.invokevirtual 95, 3) := by decide +kernel
theorem d_La_beginAny_70 : decode b_La_beginAny 70 = .ok (.aload_n 0, 1) := by decide +kernel
theorem d_La_beginAny_71 : decode b_La_beginAny 71 = .ok (.getfield 40, 3) := by decide +kernel
theorem d_La_beginAny_74 : decode b_La_beginAny 74 = .ok (.aload_n 0, 1) := by decide +kernel
theorem d_La_beginAny_75 : decode b_La_beginAny 75 = .ok (.getfield 40, 3) := by decide +kernel
theorem d_La_beginAny_78 : decode b_La_beginAny 78 = .ok (.getfield 219, 3) := by decide +kernel
theorem d_La_beginAny_81 : decode b_La_beginAny 81 = .ok (.iload_n 2, 1) := by decide +kernel
theorem d_La_beginAny_82 : decode b_La_beginAny 82 = .ok (.invokestatic 222, 3) := by decide +kernel
theorem d_La_beginAny_85 : decode b_La_beginAny 85 = .ok (.putfield 219, 3) := by decide +kernel
theorem d_La_beginAny_88 : decode b_La_beginAny 88 = .ok (.aload_n 0, 1) := by decide +kernel
theorem d_La_beginAny_89 : decode b_La_beginAny 89 = .ok (.aload_n 0, 1) := by decide +kernel
theorem d_La_beginAny_90 : decode b_La_beginAny 90 = .ok (.getfield 12, 3) := by decide +kernel
theorem d_La_beginAny_93 : decode b_La_beginAny 93 = .ok (.getfield 187, 3) := by decide +kernel
theorem d_La_beginAny_96 : decode b_La_beginAny 96 = .ok (.iload_n 1, 1) := by decide +kernel
theorem d_La_beginAny_97 : decode b_La_beginAny 97 = .ok (.iaload, 1) := by decide +kernel
theorem d_La_beginAny_98 : decode b_La_beginAny 98 = .ok (.iload_n 1, 1) := by decide +kernel
theorem d_La_beginAny_99 : decode b_La_beginAny 99 = .ok (.iconst 2, 1) := by decide +kernel
theorem d_La_beginAny_100 : decode b_La_beginAny 100 = .ok (.invokestatic 102, 3) := by decide +kernel
theorem d_La_beginAny_103 : decode b_La_beginAny 103 = .ok (.invokevirtual 86, 3) := by decide +kernel
theorem d_La_beginAny_106 : decode b_La_beginAny 106 = .ok (.return_, 1) := by decide +kernel
theorem d_La_turnApart_0 : decode b_La_turnApart 0 = .ok (.aload_n 0, 1) := by decide +kernel
theorem d_La_turnApart_1 : decode b_La_turnApart 1 = .ok (.getfield 21, 3) := by decide +kernel
theorem d_La_turnApart_4 : decode b_La_turnApart 4 = .ok (.getfield 154, 3) := by decide +kernel
theorem d_La_turnApart_7 : decode b_La_turnApart 7 = .ok (.iload_n 1, 1) := by decide +kernel
theorem d_La_turnApart_8 : decode b_La_turnApart 8 = .ok (.iaload, 1) := by decide +kernel
theorem d_La_turnApart_9 : decode b_La_turnApart 9 = .ok (.invokestatic 166, 3) := by decide +kernel
theorem d_La_turnApart_12 : decode b_La_turnApart 12 = .ok (.istore_n 3, 1) := by decide +kernel
theorem d_La_turnApart_13 : decode b_La_turnApart 13 = .ok (.iload_n 2, 1) := by decide +kernel
theorem d_La_turnApart_14 : decode b_La_turnApart 14 = .ok (.tableswitch 92 3 6 #[30, 39, 47, 84], 30) := by decide +kernel
theorem d_La_turnApart_44 : decode b_La_turnApart 44 = .ok (.aload_n 0, 1) := by decide +kernel
theorem d_La_turnApart_45 : decode b_La_turnApart 45 = .ok (.iload_n 1, 1) := by decide +kernel
theorem d_La_turnApart_46 : decode b_La_turnApart 46 = .ok (.iload_n 3, 1) := by decide +kernel
theorem d_La_turnApart_47 : decode b_La_turnApart 47 = .ok (.invokevirtual 200, 3) := by decide +kernel
theorem d_La_turnApart_50 : decode b_La_turnApart 50 = .ok (.goto 87, 3) := by decide +kernel
theorem d_La_turnApart_53 : decode b_La_turnApart 53 = .ok (.aload_n 0, 1) := by decide +kernel
theorem d_La_turnApart_54 : decode b_La_turnApart 54 = .ok (.iload_n 3, 1) := by decide +kernel
theorem d_La_turnApart_55 : decode b_La_turnApart 55 = .ok (.invokevirtual 194, 3) := by decide +kernel
theorem d_La_turnApart_58 : decode b_La_turnApart 58 = .ok (.goto 79, 3) := by decide +kernel
theorem d_La_turnApart_61 : decode b_La_turnApart 61 = .ok (.aload_n 0, 1) := by decide +kernel
theorem d_La_turnApart_62 : decode b_La_turnApart 62 = .ok (.bipush 11, 2) := by decide +kernel
theorem d_La_turnApart_64 : decode b_La_turnApart 64 = .ok (.aload_n 0, 1) := by decide +kernel
theorem d_La_turnApart_65 : decode b_La_turnApart 65 = .ok (.getfield 12, 3) := by decide +kernel
theorem d_La_turnApart_68 : decode b_La_turnApart 68 = .ok (.getfield 172, 3) := by decide +kernel
theorem d_La_turnApart_71 : decode b_La_turnApart 71 = .ok (.iload_n 3, 1) := by decide +kernel
theorem d_La_turnApart_72 : decode b_La_turnApart 72 = .ok (.iaload, 1) := by decide +kernel
theorem d_La_turnApart_73 : decode b_La_turnApart 73 = .ok (.aload_n 0, 1) := by decide +kernel
theorem d_La_turnApart_74 : decode b_La_turnApart 74 = .ok (.getfield 12, 3) := by decide +kernel
theorem d_La_turnApart_77 : decode b_La_turnApart 77 = .ok (.getfield 184, 3) := by decide +kernel
theorem d_La_turnApart_80 : decode b_La_turnApart 80 = .ok (.iload_n 3, 1) := by decide +kernel
theorem d_La_turnApart_81 : decode b_La_turnApart 81 = .ok (.iaload, 1) := by decide +kernel
theorem d_La_turnApart_82 : decode b_La_turnApart 82 = .ok (.invokevirtual 95, 3) := by decide +kernel
theorem d_La_turnApart_85 : decode b_La_turnApart 85 = .ok (.aload_n 0, 1) := by decide +kernel
theorem d_La_turnApart_86 : decode b_La_turnApart 86 = .ok (.getfield 21, 3) := by decide +kernel
theorem d_La_turnApart_89 : decode b_La_turnApart 89 = .ok (.getfield 113, 3) := by decide +kernel
theorem d_La_turnApart_92 : decode b_La_turnApart 92 = .ok (.iload_n 1, 1) := by decide +kernel
theorem d_La_turnApart_93 : decode b_La_turnApart 93 = .ok (.iconst 3, 1) := by decide +kernel
theorem d_La_turnApart_94 : decode b_La_turnApart 94 = .ok (.iastore, 1) := by decide +kernel
theorem d_La_turnApart_95 : decode b_La_turnApart 95 = .ok (.goto 42, 3) := by decide +kernel
theorem d_La_turnApart_98 : decode b_La_turnApart 98 = .ok (.aload_n 0, 1) := by decide +kernel
theorem d_La_turnApart_99 : decode b_La_turnApart 99 = .ok (.iload_n 3, 1) := by decide +kernel
theorem d_La_turnApart_100 : decode b_La_turnApart 100 = .ok (.invokevirtual 203, 3) := by decide +kernel
theorem d_La_turnApart_103 : decode b_La_turnApart 103 = .ok (.goto 34, 3) := by decide +kernel
theorem d_La_turnApart_106 : decode b_La_turnApart 106 = .ok (.aload_n 0, 1) := by decide +kernel
theorem d_La_turnApart_107 : decode b_La_turnApart 107 = .ok (.bipush 16, 2) := by decide +kernel
theorem d_La_turnApart_109 : decode b_La_turnApart 109 = .ok (.aload_n 0, 1) := by decide +kernel
theorem d_La_turnApart_110 : decode b_La_turnApart 110 = .ok (.getfield 12, 3) := by decide +kernel
theorem d_La_turnApart_113 : decode b_La_turnApart 113 = .ok (.getfield 206, 3) := by decide +kernel
theorem d_La_turnApart_116 : decode b_La_turnApart 116 = .ok (.iload_n 3, 1) := by decide +kernel
theorem d_La_turnApart_117 : decode b_La_turnApart 117 = .ok (.iaload, 1) := by decide +kernel
theorem d_La_turnApart_118 : decode b_La_turnApart 118 = .ok (.aload_n 0, 1) := by decide +kernel
theorem d_La_turnApart_119 : decode b_La_turnApart 119 = .ok (.getfield 12, 3) := by decide +kernel
theorem d_La_turnApart_122 : decode b_La_turnApart 122 = .ok (.getfield 184, 3) := by decide +kernel
theorem d_La_turnApart_125 : decode b_La_turnApart 125 = .ok (.iload_n 3, 1) := by decide +kernel
theorem d_La_turnApart_126 : decode b_La_turnApart 126 = .ok (.iaload, 1) := by decide +kernel
theorem d_La_turnApart_127 : decode b_La_turnApart 127 = .ok (.invokevirtual 95, 3) := by decide +kernel
theorem d_La_turnApart_130 : decode b_La_turnApart 130 = .ok (.aload_n 0, 1) := by decide +kernel
theorem d_La_turnApart_131 : decode b_La_turnApart 131 = .ok (.getfield 21, 3) := by decide +kernel
theorem d_La_turnApart_134 : decode b_La_turnApart 134 = .ok (.invokevirtual 147, 3) := by decide +kernel
theorem d_La_turnApart_137 : decode b_La_turnApart 137 = .ok (.return_, 1) := by decide +kernel
theorem d_La_setDone_0 : decode b_La_setDone 0 = .ok (.aload_n 0, 1) := by decide +kernel
theorem d_La_setDone_1 : decode b_La_setDone 1 = .ok (.getfield 78, 3) := by decide +kernel
theorem d_La_setDone_4 : decode b_La_setDone 4 = .ok (.sipush 2000, 3) := by decide +kernel
theorem d_La_setDone_7 : decode b_La_setDone 7 = .ok (.if_icmp .ge 23, 3) := by decide +kernel
theorem d_La_setDone_10 : decode b_La_setDone 10 = .ok (.aload_n 0, 1) := by decide +kernel
theorem d_La_setDone_11 : decode b_La_setDone 11 = .ok (.getfield 32, 3) := by decide +kernel
theorem d_La_setDone_14 : decode b_La_setDone 14 = .ok (.aload_n 0, 1) := by decide +kernel
theorem d_La_setDone_15 : decode b_La_setDone 15 = .ok (.getfield 78, 3) := by decide +kernel
theorem d_La_setDone_18 : decode b_La_setDone 18 = .ok (.iload_n 1, 1) := by decide +kernel
theorem d_La_setDone_19 : decode b_La_setDone 19 = .ok (.iastore, 1) := by decide +kernel
theorem d_La_setDone_20 : decode b_La_setDone 20 = .ok (.aload_n 0, 1) := by decide +kernel
theorem d_La_setDone_21 : decode b_La_setDone 21 = .ok (.dup, 1) := by decide +kernel
theorem d_La_setDone_22 : decode b_La_setDone 22 = .ok (.getfield 78, 3) := by decide +kernel
theorem d_La_setDone_25 : decode b_La_setDone 25 = .ok (.iconst 1, 1) := by decide +kernel
theorem d_La_setDone_26 : decode b_La_setDone 26 = .ok (.iadd, 1) := by decide +kernel
theorem d_La_setDone_27 : decode b_La_setDone 27 = .ok (.putfield 78, 3) := by decide +kernel
theorem d_La_setDone_30 : decode b_La_setDone 30 = .ok (.return_, 1) := by decide +kernel
theorem d_Sc_openTry_0 : decode b_Sc_openTry 0 = .ok (.aload_n 0, 1) := by decide +kernel
theorem d_Sc_openTry_1 : decode b_Sc_openTry 1 = .ok (.iload_n 1, 1) := by decide +kernel
theorem d_Sc_openTry_2 : decode b_Sc_openTry 2 = .ok (.invokevirtual 43, 3) := by decide +kernel
theorem d_Sc_openTry_5 : decode b_Sc_openTry 5 = .ok (.istore 4, 2) := by decide +kernel
theorem d_Sc_openTry_7 : decode b_Sc_openTry 7 = .ok (.aload_n 0, 1) := by decide +kernel
theorem d_Sc_openTry_8 : decode b_Sc_openTry 8 = .ok (.getfield 15, 3) := by decide +kernel
theorem d_Sc_openTry_11 : decode b_Sc_openTry 11 = .ok (.iload 4, 2) := by decide +kernel
theorem d_Sc_openTry_13 : decode b_Sc_openTry 13 = .ok (.iload_n 2, 1) := by decide +kernel
theorem d_Sc_openTry_14 : decode b_Sc_openTry 14 = .ok (.iastore, 1) := by decide +kernel
theorem d_Sc_openTry_15 : decode b_Sc_openTry 15 = .ok (.aload_n 0, 1) := by decide +kernel
theorem d_Sc_openTry_16 : decode b_Sc_openTry 16 = .ok (.getfield 18, 3) := by decide +kernel
theorem d_Sc_openTry_19 : decode b_Sc_openTry 19 = .ok (.iload 4, 2) := by decide +kernel
theorem d_Sc_openTry_21 : decode b_Sc_openTry 21 = .ok (.iload_n 3, 1) := by decide +kernel
theorem d_Sc_openTry_22 : decode b_Sc_openTry 22 = .ok (.iastore, 1) := by decide +kernel
theorem d_Sc_openTry_23 : decode b_Sc_openTry 23 = .ok (.aload_n 0, 1) := by decide +kernel
theorem d_Sc_openTry_24 : decode b_Sc_openTry 24 = .ok (.getfield 21, 3) := by decide +kernel
theorem d_Sc_openTry_27 : decode b_Sc_openTry 27 = .ok (.iload 4, 2) := by decide +kernel
theorem d_Sc_openTry_29 : decode b_Sc_openTry 29 = .ok (.aload_n 0, 1) := by decide +kernel
theorem d_Sc_openTry_30 : decode b_Sc_openTry 30 = .ok (.getfield 21, 3) := by decide +kernel
theorem d_Sc_openTry_33 : decode b_Sc_openTry 33 = .ok (.iload_n 1, 1) := by decide +kernel
theorem d_Sc_openTry_34 : decode b_Sc_openTry 34 = .ok (.invokestatic 47, 3) := by decide +kernel
theorem d_Sc_openTry_37 : decode b_Sc_openTry 37 = .ok (.iaload, 1) := by decide +kernel
theorem d_Sc_openTry_38 : decode b_Sc_openTry 38 = .ok (.iastore, 1) := by decide +kernel
theorem d_Sc_openTry_39 : decode b_Sc_openTry 39 = .ok (.iload 4, 2) := by decide +kernel
theorem d_Sc_openTry_41 : decode b_Sc_openTry 41 = .ok (.ireturn, 1) := by decide +kernel
theorem d_La_turnTry_0 : decode b_La_turnTry 0 = .ok (.iload_n 3, 1) := by decide +kernel
theorem d_La_turnTry_1 : decode b_La_turnTry 1 = .ok (.ifCond .ne 69, 3) := by decide +kernel
theorem d_La_turnTry_4 : decode b_La_turnTry 4 = .ok (.aload_n 0, 1) := by decide +kernel
theorem d_La_turnTry_5 : decode b_La_turnTry 5 = .ok (.getfield 12, 3) := by decide +kernel
theorem d_La_turnTry_8 : decode b_La_turnTry 8 = .ok (.aload_n 0, 1) := by decide +kernel
theorem d_La_turnTry_9 : decode b_La_turnTry 9 = .ok (.getfield 21, 3) := by decide +kernel
theorem d_La_turnTry_12 : decode b_La_turnTry 12 = .ok (.getfield 154, 3) := by decide +kernel
theorem d_La_turnTry_15 : decode b_La_turnTry 15 = .ok (.iload_n 1, 1) := by decide +kernel
theorem d_La_turnTry_16 : decode b_La_turnTry 16 = .ok (.iaload, 1) := by decide +kernel
theorem d_La_turnTry_17 : decode b_La_turnTry 17 = .ok (.iload_n 2, 1) := by decide +kernel
theorem d_La_turnTry_18 : decode b_La_turnTry 18 = .ok (.aload_n 0, 1) := by decide +kernel
theorem d_La_turnTry_19 : decode b_La_turnTry 19 = .ok (.getfield 36, 3) := by decide +kernel
theorem d_La_turnTry_22 : decode b_La_turnTry 22 = .ok (.iload_n 2, 1) := by decide +kernel
theorem d_La_turnTry_23 : decode b_La_turnTry 23 = .ok (.iconst 2, 1) := by decide +kernel
theorem d_La_turnTry_24 : decode b_La_turnTry 24 = .ok (.invokevirtual 141, 3) := by decide +kernel
theorem d_La_turnTry_27 : decode b_La_turnTry 27 = .ok (.invokevirtual 190, 3) := by decide +kernel
theorem d_La_turnTry_30 : decode b_La_turnTry 30 = .ok (.istore 4, 2) := by decide +kernel
theorem d_La_turnTry_32 : decode b_La_turnTry 32 = .ok (.aload_n 0, 1) := by decide +kernel
theorem d_La_turnTry_33 : decode b_La_turnTry 33 = .ok (.getfield 21, 3) := by decide +kernel
theorem d_La_turnTry_36 : decode b_La_turnTry 36 = .ok (.getfield 154, 3) := by decide +kernel
theorem d_La_turnTry_39 : decode b_La_turnTry 39 = .ok (.iload_n 1, 1) := by decide +kernel
theorem d_La_turnTry_40 : decode b_La_turnTry 40 = .ok (.iload 4, 2) := by decide +kernel
theorem d_La_turnTry_42 : decode b_La_turnTry 42 = .ok (.iconst 0, 1) := by decide +kernel
theorem d_La_turnTry_43 : decode b_La_turnTry 43 = .ok (.invokestatic 102, 3) := by decide +kernel
theorem d_La_turnTry_46 : decode b_La_turnTry 46 = .ok (.iastore, 1) := by decide +kernel
theorem d_La_turnTry_47 : decode b_La_turnTry 47 = .ok (.aload_n 0, 1) := by decide +kernel
theorem d_La_turnTry_48 : decode b_La_turnTry 48 = .ok (.aload_n 0, 1) := by decide +kernel
theorem d_La_turnTry_49 : decode b_La_turnTry 49 = .ok (.getfield 36, 3) := by decide +kernel
theorem d_La_turnTry_52 : decode b_La_turnTry 52 = .ok (.iload_n 2, 1) := by decide +kernel
theorem d_La_turnTry_53 : decode b_La_turnTry 53 = .ok (.iconst 0, 1) := by decide +kernel
theorem d_La_turnTry_54 : decode b_La_turnTry 54 = .ok (.invokevirtual 141, 3) := by decide +kernel
theorem d_La_turnTry_57 : decode b_La_turnTry 57 = .ok (.aload_n 0, 1) := by decide +kernel
theorem d_La_turnTry_58 : decode b_La_turnTry 58 = .ok (.getfield 21, 3) := by decide +kernel
theorem d_La_turnTry_61 : decode b_La_turnTry 61 = .ok (.getfield 154, 3) := by decide +kernel
theorem d_La_turnTry_64 : decode b_La_turnTry 64 = .ok (.iload_n 1, 1) := by decide +kernel
theorem d_La_turnTry_65 : decode b_La_turnTry 65 = .ok (.iaload, 1) := by decide +kernel
theorem d_La_turnTry_66 : decode b_La_turnTry 66 = .ok (.invokevirtual 86, 3) := by decide +kernel
theorem d_La_turnTry_69 : decode b_La_turnTry 69 = .ok (.return_, 1) := by decide +kernel
theorem d_La_turnTry_70 : decode b_La_turnTry 70 = .ok (.aload_n 0, 1) := by decide +kernel
theorem d_La_turnTry_71 : decode b_La_turnTry 71 = .ok (.getfield 21, 3) := by decide +kernel
theorem d_La_turnTry_74 : decode b_La_turnTry 74 = .ok (.getfield 154, 3) := by decide +kernel
theorem d_La_turnTry_77 : decode b_La_turnTry 77 = .ok (.iload_n 1, 1) := by decide +kernel
theorem d_La_turnTry_78 : decode b_La_turnTry 78 = .ok (.iaload, 1) := by decide +kernel
theorem d_La_turnTry_79 : decode b_La_turnTry 79 = .ok (.invokestatic 166, 3) := by decide +kernel
theorem d_La_turnTry_82 : decode b_La_turnTry 82 = .ok (.istore 4, 2) := by decide +kernel
theorem d_La_turnTry_84 : decode b_La_turnTry 84 = .ok (.iload_n 3, 1) := by decide +kernel
theorem d_La_turnTry_85 : decode b_La_turnTry 85 = .ok (.iconst 1, 1) := by decide +kernel
theorem d_La_turnTry_86 : decode b_La_turnTry 86 = .ok (.if_icmp .ne 12, 3) := by decide +kernel
theorem d_La_turnTry_89 : decode b_La_turnTry 89 = .ok (.aload_n 0, 1) := by decide +kernel
theorem d_La_turnTry_90 : decode b_La_turnTry 90 = .ok (.iload 4, 2) := by decide +kernel
theorem d_La_turnTry_92 : decode b_La_turnTry 92 = .ok (.invokevirtual 194, 3) := by decide +kernel
theorem d_La_turnTry_95 : decode b_La_turnTry 95 = .ok (.goto 33, 3) := by decide +kernel
theorem d_La_turnTry_98 : decode b_La_turnTry 98 = .ok (.aload_n 0, 1) := by decide +kernel
theorem d_La_turnTry_99 : decode b_La_turnTry 99 = .ok (.getfield 12, 3) := by decide +kernel
theorem d_La_turnTry_102 : decode b_La_turnTry 102 = .ok (.getfield 172, 3) := by decide +kernel
theorem d_La_turnTry_105 : decode b_La_turnTry 105 = .ok (.iload 4, 2) := by decide +kernel
theorem d_La_turnTry_107 : decode b_La_turnTry 107 = .ok (.aload_n 0, 1) := by decide +kernel
theorem d_La_turnTry_108 : decode b_La_turnTry 108 = .ok (.getfield 40, 3) := by decide +kernel
theorem d_La_turnTry_111 : decode b_La_turnTry 111 = .ok (.getfield 74, 3) := by decide +kernel
theorem d_La_turnTry_114 : decode b_La_turnTry 114 = .ok (.iastore, 1) := by decide +kernel
theorem d_La_turnTry_115 : decode b_La_turnTry 115 = .ok (.aload_n 0, 1) := by decide +kernel
theorem d_La_turnTry_116 : decode b_La_turnTry 116 = .ok (.iload 4, 2) := by decide +kernel
theorem d_La_turnTry_118 : decode b_La_turnTry 118 = .ok (.invokevirtual 197, 3) := by decide +kernel
theorem d_La_turnTry_121 : decode b_La_turnTry 121 = .ok (.aload_n 0, 1) := by decide +kernel
theorem d_La_turnTry_122 : decode b_La_turnTry 122 = .ok (.getfield 21, 3) := by decide +kernel
theorem d_La_turnTry_125 : decode b_La_turnTry 125 = .ok (.invokevirtual 147, 3) := by decide +kernel
theorem d_La_turnTry_128 : decode b_La_turnTry 128 = .ok (.return_, 1) := by decide +kernel
theorem d_La_partsThen_0 : decode b_La_partsThen 0 = .ok (.iload_n 2, 1) := by decide +kernel
theorem d_La_partsThen_1 : decode b_La_partsThen 1 = .ok (.ifCond .ne 20, 3) := by decide +kernel
theorem d_La_partsThen_4 : decode b_La_partsThen 4 = .ok (.aload_n 0, 1) := by decide +kernel
theorem d_La_partsThen_5 : decode b_La_partsThen 5 = .ok (.iload_n 3, 1) := by decide +kernel
theorem d_La_partsThen_6 : decode b_La_partsThen 6 = .ok (.aload_n 0, 1) := by decide +kernel
theorem d_La_partsThen_7 : decode b_La_partsThen 7 = .ok (.getfield 21, 3) := by decide +kernel
theorem d_La_partsThen_10 : decode b_La_partsThen 10 = .ok (.getfield 154, 3) := by decide +kernel
theorem d_La_partsThen_13 : decode b_La_partsThen 13 = .ok (.iload_n 1, 1) := by decide +kernel
theorem d_La_partsThen_14 : decode b_La_partsThen 14 = .ok (.iaload, 1) := by decide +kernel
theorem d_La_partsThen_15 : decode b_La_partsThen 15 = .ok (.invokevirtual 86, 3) := by decide +kernel
theorem d_La_partsThen_18 : decode b_La_partsThen 18 = .ok (.goto 57, 3) := by decide +kernel
theorem d_La_partsThen_21 : decode b_La_partsThen 21 = .ok (.iload_n 2, 1) := by decide +kernel
theorem d_La_partsThen_22 : decode b_La_partsThen 22 = .ok (.iconst 1, 1) := by decide +kernel
theorem d_La_partsThen_23 : decode b_La_partsThen 23 = .ok (.if_icmp .ne 27, 3) := by decide +kernel
theorem d_La_partsThen_26 : decode b_La_partsThen 26 = .ok (.iload 4, 2) := by decide +kernel
theorem d_La_partsThen_28 : decode b_La_partsThen 28 = .ok (.iconst (-1), 1) := by decide +kernel
theorem d_La_partsThen_29 : decode b_La_partsThen 29 = .ok (.if_icmp .eq 21, 3) := by decide +kernel
theorem d_La_partsThen_32 : decode b_La_partsThen 32 = .ok (.aload_n 0, 1) := by decide +kernel
theorem d_La_partsThen_33 : decode b_La_partsThen 33 = .ok (.iload 4, 2) := by decide +kernel
theorem d_La_partsThen_35 : decode b_La_partsThen 35 = .ok (.aload_n 0, 1) := by decide +kernel
theorem d_La_partsThen_36 : decode b_La_partsThen 36 = .ok (.getfield 21, 3) := by decide +kernel
theorem d_La_partsThen_39 : decode b_La_partsThen 39 = .ok (.getfield 154, 3) := by decide +kernel
theorem d_La_partsThen_42 : decode b_La_partsThen 42 = .ok (.iload_n 1, 1) := by decide +kernel
theorem d_La_partsThen_43 : decode b_La_partsThen 43 = .ok (.iaload, 1) := by decide +kernel
theorem d_La_partsThen_44 : decode b_La_partsThen 44 = .ok (.invokevirtual 86, 3) := by decide +kernel
theorem d_La_partsThen_47 : decode b_La_partsThen 47 = .ok (.goto 28, 3) := by decide +kernel
theorem d_La_partsThen_50 : decode b_La_partsThen 50 = .ok (.iload 5, 2) := by decide +kernel
theorem d_La_partsThen_52 : decode b_La_partsThen 52 = .ok (.iconst (-1), 1) := by decide +kernel
theorem d_La_partsThen_53 : decode b_La_partsThen 53 = .ok (.if_icmp .ne 13, 3) := by decide +kernel
theorem d_La_partsThen_56 : decode b_La_partsThen 56 = .ok (.aload_n 0, 1) := by decide +kernel
theorem d_La_partsThen_57 : decode b_La_partsThen 57 = .ok (.getfield 21, 3) := by decide +kernel
theorem d_La_partsThen_60 : decode b_La_partsThen 60 = .ok (.invokevirtual 147, 3) := by decide +kernel
theorem d_La_partsThen_63 : decode b_La_partsThen 63 = .ok (.goto 12, 3) := by decide +kernel
theorem d_La_partsThen_66 : decode b_La_partsThen 66 = .ok (.aload_n 0, 1) := by decide +kernel
theorem d_La_partsThen_67 : decode b_La_partsThen 67 = .ok (.iload_n 1, 1) := by decide +kernel
theorem d_La_partsThen_68 : decode b_La_partsThen 68 = .ok (.iload 5, 2) := by decide +kernel
theorem d_La_partsThen_70 : decode b_La_partsThen 70 = .ok (.iload 6, 2) := by decide +kernel
theorem d_La_partsThen_72 : decode b_La_partsThen 72 = .ok (.invokevirtual 144, 3) := by decide +kernel
theorem d_La_partsThen_75 : decode b_La_partsThen 75 = .ok (.return_, 1) := by decide +kernel
theorem d_La_turnPlain_0 : decode b_La_turnPlain 0 = .ok (.aload_n 0, 1) := by decide +kernel
theorem d_La_turnPlain_1 : decode b_La_turnPlain 1 = .ok (.getfield 36, 3) := by decide +kernel
theorem d_La_turnPlain_4 : decode b_La_turnPlain 4 = .ok (.iload_n 2, 1) := by decide +kernel
theorem d_La_turnPlain_5 : decode b_La_turnPlain 5 = .ok (.invokevirtual 116, 3) := by decide +kernel
theorem d_La_turnPlain_8 : decode b_La_turnPlain 8 = .ok (.istore 4, 2) := by decide +kernel
theorem d_La_turnPlain_10 : decode b_La_turnPlain 10 = .ok (.aload_n 0, 1) := by decide +kernel
theorem d_La_turnPlain_11 : decode b_La_turnPlain 11 = .ok (.getfield 36, 3) := by decide +kernel
theorem d_La_turnPlain_14 : decode b_La_turnPlain 14 = .ok (.iload_n 2, 1) := by decide +kernel
theorem d_La_turnPlain_15 : decode b_La_turnPlain 15 = .ok (.iconst 0, 1) := by decide +kernel
theorem d_La_turnPlain_16 : decode b_La_turnPlain 16 = .ok (.invokevirtual 141, 3) := by decide +kernel
theorem d_La_turnPlain_19 : decode b_La_turnPlain 19 = .ok (.istore 5, 2) := by decide +kernel
theorem d_La_turnPlain_21 : decode b_La_turnPlain 21 = .ok (.iload 4, 2) := by decide +kernel
theorem d_La_turnPlain_23 : decode b_La_turnPlain 23 = .ok (.tableswitch 186 0 15 #[77, 77, 186, 186, 186, 186, 186, 186, 89, 99, 122, 137, 186, 186, 159, 174], 77) := by decide +kernel
theorem d_La_turnPlain_100 : decode b_La_turnPlain 100 = .ok (.aload_n 0, 1) := by decide +kernel
theorem d_La_turnPlain_101 : decode b_La_turnPlain 101 = .ok (.iload_n 1, 1) := by decide +kernel
theorem d_La_turnPlain_102 : decode b_La_turnPlain 102 = .ok (.iload 4, 2) := by decide +kernel
theorem d_La_turnPlain_104 : decode b_La_turnPlain 104 = .ok (.iload 5, 2) := by decide +kernel
theorem d_La_turnPlain_106 : decode b_La_turnPlain 106 = .ok (.invokevirtual 144, 3) := by decide +kernel
theorem d_La_turnPlain_109 : decode b_La_turnPlain 109 = .ok (.goto 120, 3) := by decide +kernel
theorem d_La_turnPlain_112 : decode b_La_turnPlain 112 = .ok (.aload_n 0, 1) := by decide +kernel
theorem d_La_turnPlain_113 : decode b_La_turnPlain 113 = .ok (.getfield 21, 3) := by decide +kernel
theorem d_La_turnPlain_116 : decode b_La_turnPlain 116 = .ok (.invokevirtual 147, 3) := by decide +kernel
theorem d_La_turnPlain_119 : decode b_La_turnPlain 119 = .ok (.goto 110, 3) := by decide +kernel
theorem d_La_turnPlain_122 : decode b_La_turnPlain 122 = .ok (.aload_n 0, 1) := by decide +kernel
theorem d_La_turnPlain_123 : decode b_La_turnPlain 123 = .ok (.iload_n 1, 1) := by decide +kernel
theorem d_La_turnPlain_124 : decode b_La_turnPlain 124 = .ok (.iload_n 3, 1) := by decide +kernel
theorem d_La_turnPlain_125 : decode b_La_turnPlain 125 = .ok (.aload_n 0, 1) := by decide +kernel
theorem d_La_turnPlain_126 : decode b_La_turnPlain 126 = .ok (.getfield 36, 3) := by decide +kernel
theorem d_La_turnPlain_129 : decode b_La_turnPlain 129 = .ok (.iload_n 2, 1) := by decide +kernel
theorem d_La_turnPlain_130 : decode b_La_turnPlain 130 = .ok (.iconst 1, 1) := by decide +kernel
theorem d_La_turnPlain_131 : decode b_La_turnPlain 131 = .ok (.invokevirtual 141, 3) := by decide +kernel
theorem d_La_turnPlain_134 : decode b_La_turnPlain 134 = .ok (.iconst (-1), 1) := by decide +kernel
theorem d_La_turnPlain_135 : decode b_La_turnPlain 135 = .ok (.bipush 8, 2) := by decide +kernel
theorem d_La_turnPlain_137 : decode b_La_turnPlain 137 = .ok (.iload 5, 2) := by decide +kernel
theorem d_La_turnPlain_139 : decode b_La_turnPlain 139 = .ok (.invokevirtual 150, 3) := by decide +kernel
theorem d_La_turnPlain_142 : decode b_La_turnPlain 142 = .ok (.goto 87, 3) := by decide +kernel
theorem d_La_turnPlain_145 : decode b_La_turnPlain 145 = .ok (.aload_n 0, 1) := by decide +kernel
theorem d_La_turnPlain_146 : decode b_La_turnPlain 146 = .ok (.iload_n 1, 1) := by decide +kernel
theorem d_La_turnPlain_147 : decode b_La_turnPlain 147 = .ok (.iload_n 3, 1) := by decide +kernel
theorem d_La_turnPlain_148 : decode b_La_turnPlain 148 = .ok (.iload 5, 2) := by decide +kernel
theorem d_La_turnPlain_150 : decode b_La_turnPlain 150 = .ok (.iconst (-1), 1) := by decide +kernel
theorem d_La_turnPlain_151 : decode b_La_turnPlain 151 = .ok (.bipush 9, 2) := by decide +kernel
theorem d_La_turnPlain_153 : decode b_La_turnPlain 153 = .ok (.iconst 0, 1) := by decide +kernel
theorem d_La_turnPlain_154 : decode b_La_turnPlain 154 = .ok (.invokevirtual 150, 3) := by decide +kernel
theorem d_La_turnPlain_157 : decode b_La_turnPlain 157 = .ok (.goto 72, 3) := by decide +kernel
theorem d_La_turnPlain_160 : decode b_La_turnPlain 160 = .ok (.aload_n 0, 1) := by decide +kernel
theorem d_La_turnPlain_161 : decode b_La_turnPlain 161 = .ok (.iload_n 1, 1) := by decide +kernel
theorem d_La_turnPlain_162 : decode b_La_turnPlain 162 = .ok (.iload_n 3, 1) := by decide +kernel
theorem d_La_turnPlain_163 : decode b_La_turnPlain 163 = .ok (.iload 5, 2) := by decide +kernel
theorem d_La_turnPlain_165 : decode b_La_turnPlain 165 = .ok (.aload_n 0, 1) := by decide +kernel
theorem d_La_turnPlain_166 : decode b_La_turnPlain 166 = .ok (.getfield 36, 3) := by decide +kernel
theorem d_La_turnPlain_169 : decode b_La_turnPlain 169 = .ok (.iload_n 2, 1) := by decide +kernel
theorem d_La_turnPlain_170 : decode b_La_turnPlain 170 = .ok (.iconst 1, 1) := by decide +kernel
theorem d_La_turnPlain_171 : decode b_La_turnPlain 171 = .ok (.invokevirtual 141, 3) := by decide +kernel
theorem d_La_turnPlain_174 : decode b_La_turnPlain 174 = .ok (.iconst (-1), 1) := by decide +kernel
theorem d_La_turnPlain_175 : decode b_La_turnPlain 175 = .ok (.iconst 0, 1) := by decide +kernel
theorem d_La_turnPlain_176 : decode b_La_turnPlain 176 = .ok (.invokevirtual 150, 3) := by decide +kernel
theorem d_La_turnPlain_179 : decode b_La_turnPlain 179 = .ok (.goto 50, 3) := by decide +kernel
theorem d_La_turnPlain_182 : decode b_La_turnPlain 182 = .ok (.aload_n 0, 1) := by decide +kernel
theorem d_La_turnPlain_183 : decode b_La_turnPlain 183 = .ok (.iload_n 1, 1) := by decide +kernel
theorem d_La_turnPlain_184 : decode b_La_turnPlain 184 = .ok (.iload_n 3, 1) := by decide +kernel
theorem d_La_turnPlain_185 : decode b_La_turnPlain 185 = .ok (.iload 5, 2) := by decide +kernel
theorem d_La_turnPlain_187 : decode b_La_turnPlain 187 = .ok (.iconst (-1), 1) := by decide +kernel
theorem d_La_turnPlain_188 : decode b_La_turnPlain 188 = .ok (.bipush 12, 2) := by decide +kernel
theorem d_La_turnPlain_190 : decode b_La_turnPlain 190 = .ok (.iconst 0, 1) := by decide +kernel
theorem d_La_turnPlain_191 : decode b_La_turnPlain 191 = .ok (.invokevirtual 150, 3) := by decide +kernel
theorem d_La_turnPlain_194 : decode b_La_turnPlain 194 = .ok (.goto 35, 3) := by decide +kernel
theorem d_La_turnPlain_197 : decode b_La_turnPlain 197 = .ok (.aload_n 0, 1) := by decide +kernel
theorem d_La_turnPlain_198 : decode b_La_turnPlain 198 = .ok (.iload_n 1, 1) := by decide +kernel
theorem d_La_turnPlain_199 : decode b_La_turnPlain 199 = .ok (.bipush 13, 2) := by decide +kernel
theorem d_La_turnPlain_201 : decode b_La_turnPlain 201 = .ok (.iload 5, 2) := by decide +kernel
theorem d_La_turnPlain_203 : decode b_La_turnPlain 203 = .ok (.invokevirtual 144, 3) := by decide +kernel
theorem d_La_turnPlain_206 : decode b_La_turnPlain 206 = .ok (.goto 23, 3) := by decide +kernel
theorem d_La_turnPlain_209 : decode b_La_turnPlain 209 = .ok (.aload_n 0, 1) := by decide +kernel
theorem d_La_turnPlain_210 : decode b_La_turnPlain 210 = .ok (.iload_n 1, 1) := by decide +kernel
theorem d_La_turnPlain_211 : decode b_La_turnPlain 211 = .ok (.iload_n 3, 1) := by decide +kernel
theorem d_La_turnPlain_212 : decode b_La_turnPlain 212 = .ok (.iload 5, 2) := by decide +kernel
theorem d_La_turnPlain_214 : decode b_La_turnPlain 214 = .ok (.aload_n 0, 1) := by decide +kernel
theorem d_La_turnPlain_215 : decode b_La_turnPlain 215 = .ok (.getfield 36, 3) := by decide +kernel
theorem d_La_turnPlain_218 : decode b_La_turnPlain 218 = .ok (.iload_n 2, 1) := by decide +kernel
theorem d_La_turnPlain_219 : decode b_La_turnPlain 219 = .ok (.iconst 1, 1) := by decide +kernel
theorem d_La_turnPlain_220 : decode b_La_turnPlain 220 = .ok (.invokevirtual 141, 3) := by decide +kernel
theorem d_La_turnPlain_223 : decode b_La_turnPlain 223 = .ok (.iload 4, 2) := by decide +kernel
theorem d_La_turnPlain_225 : decode b_La_turnPlain 225 = .ok (.iconst 0, 1) := by decide +kernel
theorem d_La_turnPlain_226 : decode b_La_turnPlain 226 = .ok (.invokevirtual 150, 3) := by decide +kernel
theorem d_La_turnPlain_229 : decode b_La_turnPlain 229 = .ok (.return_, 1) := by decide +kernel
theorem d_La_takeTurns_0 : decode b_La_takeTurns 0 = .ok (.iconst 0, 1) := by decide +kernel
theorem d_La_takeTurns_1 : decode b_La_takeTurns 1 = .ok (.istore_n 1, 1) := by decide +kernel
theorem d_La_takeTurns_2 : decode b_La_takeTurns 2 = .ok (.iload_n 1, 1) := by decide +kernel
theorem d_La_takeTurns_3 : decode b_La_takeTurns 3 = .ok (.ldc 109, 2) := by decide +kernel
theorem d_La_takeTurns_5 : decode b_La_takeTurns 5 = .ok (.if_icmp .ge 194, 3) := by decide +kernel
theorem d_La_takeTurns_8 : decode b_La_takeTurns 8 = .ok (.aload_n 0, 1) := by decide +kernel
theorem d_La_takeTurns_9 : decode b_La_takeTurns 9 = .ok (.getfield 21, 3) := by decide +kernel
theorem d_La_takeTurns_12 : decode b_La_takeTurns 12 = .ok (.getfield 50, 3) := by decide +kernel
theorem d_La_takeTurns_15 : decode b_La_takeTurns 15 = .ok (.ifCond .le 184, 3) := by decide +kernel
theorem d_La_takeTurns_18 : decode b_La_takeTurns 18 = .ok (.aload_n 0, 1) := by decide +kernel
theorem d_La_takeTurns_19 : decode b_La_takeTurns 19 = .ok (.getfield 61, 3) := by decide +kernel
theorem d_La_takeTurns_22 : decode b_La_takeTurns 22 = .ok (.ifCond .ne 177, 3) := by decide +kernel
theorem d_La_takeTurns_25 : decode b_La_takeTurns 25 = .ok (.aload_n 0, 1) := by decide +kernel
theorem d_La_takeTurns_26 : decode b_La_takeTurns 26 = .ok (.getfield 21, 3) := by decide +kernel
theorem d_La_takeTurns_29 : decode b_La_takeTurns 29 = .ok (.getfield 50, 3) := by decide +kernel
theorem d_La_takeTurns_32 : decode b_La_takeTurns 32 = .ok (.iconst 1, 1) := by decide +kernel
theorem d_La_takeTurns_33 : decode b_La_takeTurns 33 = .ok (.isub, 1) := by decide +kernel
theorem d_La_takeTurns_34 : decode b_La_takeTurns 34 = .ok (.istore_n 2, 1) := by decide +kernel
theorem d_La_takeTurns_35 : decode b_La_takeTurns 35 = .ok (.aload_n 0, 1) := by decide +kernel
theorem d_La_takeTurns_36 : decode b_La_takeTurns 36 = .ok (.getfield 21, 3) := by decide +kernel
theorem d_La_takeTurns_39 : decode b_La_takeTurns 39 = .ok (.getfield 110, 3) := by decide +kernel
theorem d_La_takeTurns_42 : decode b_La_takeTurns 42 = .ok (.iload_n 2, 1) := by decide +kernel
theorem d_La_takeTurns_43 : decode b_La_takeTurns 43 = .ok (.iaload, 1) := by decide +kernel
theorem d_La_takeTurns_44 : decode b_La_takeTurns 44 = .ok (.istore_n 3, 1) := by decide +kernel
theorem d_La_takeTurns_45 : decode b_La_takeTurns 45 = .ok (.aload_n 0, 1) := by decide +kernel
theorem d_La_takeTurns_46 : decode b_La_takeTurns 46 = .ok (.getfield 21, 3) := by decide +kernel
theorem d_La_takeTurns_49 : decode b_La_takeTurns 49 = .ok (.getfield 113, 3) := by decide +kernel
theorem d_La_takeTurns_52 : decode b_La_takeTurns 52 = .ok (.iload_n 2, 1) := by decide +kernel
theorem d_La_takeTurns_53 : decode b_La_takeTurns 53 = .ok (.iaload, 1) := by decide +kernel
theorem d_La_takeTurns_54 : decode b_La_takeTurns 54 = .ok (.istore 4, 2) := by decide +kernel
theorem d_La_takeTurns_56 : decode b_La_takeTurns 56 = .ok (.aload_n 0, 1) := by decide +kernel
theorem d_La_takeTurns_57 : decode b_La_takeTurns 57 = .ok (.getfield 21, 3) := by decide +kernel
theorem d_La_takeTurns_60 : decode b_La_takeTurns 60 = .ok (.getfield 113, 3) := by decide +kernel
theorem d_La_takeTurns_63 : decode b_La_takeTurns 63 = .ok (.iload_n 2, 1) := by decide +kernel
theorem d_La_takeTurns_64 : decode b_La_takeTurns 64 = .ok (.iload 4, 2) := by decide +kernel
theorem d_La_takeTurns_66 : decode b_La_takeTurns 66 = .ok (.iconst 1, 1) := by decide +kernel
theorem d_La_takeTurns_67 : decode b_La_takeTurns 67 = .ok (.iadd, 1) := by decide +kernel
theorem d_La_takeTurns_68 : decode b_La_takeTurns 68 = .ok (.iastore, 1) := by decide +kernel
theorem d_La_takeTurns_69 : decode b_La_takeTurns 69 = .ok (.aload_n 0, 1) := by decide +kernel
theorem d_La_takeTurns_70 : decode b_La_takeTurns 70 = .ok (.getfield 36, 3) := by decide +kernel
theorem d_La_takeTurns_73 : decode b_La_takeTurns 73 = .ok (.iload_n 3, 1) := by decide +kernel
theorem d_La_takeTurns_74 : decode b_La_takeTurns 74 = .ok (.invokevirtual 116, 3) := by decide +kernel
theorem d_La_takeTurns_77 : decode b_La_takeTurns 77 = .ok (.tableswitch 108 12 18 #[43, 54, 108, 108, 65, 73, 81], 43) := by decide +kernel
theorem d_La_takeTurns_120 : decode b_La_takeTurns 120 = .ok (.aload_n 0, 1) := by decide +kernel
theorem d_La_takeTurns_121 : decode b_La_takeTurns 121 = .ok (.iload_n 2, 1) := by decide +kernel
theorem d_La_takeTurns_122 : decode b_La_takeTurns 122 = .ok (.iload_n 3, 1) := by decide +kernel
theorem d_La_takeTurns_123 : decode b_La_takeTurns 123 = .ok (.iload 4, 2) := by decide +kernel
theorem d_La_takeTurns_125 : decode b_La_takeTurns 125 = .ok (.invokevirtual 120, 3) := by decide +kernel
theorem d_La_takeTurns_128 : decode b_La_takeTurns 128 = .ok (.goto 65, 3) := by decide +kernel
theorem d_La_takeTurns_131 : decode b_La_takeTurns 131 = .ok (.aload_n 0, 1) := by decide +kernel
theorem d_La_takeTurns_132 : decode b_La_takeTurns 132 = .ok (.iload_n 2, 1) := by decide +kernel
theorem d_La_takeTurns_133 : decode b_La_takeTurns 133 = .ok (.iload_n 3, 1) := by decide +kernel
theorem d_La_takeTurns_134 : decode b_La_takeTurns 134 = .ok (.iload 4, 2) := by decide +kernel
theorem d_La_takeTurns_136 : decode b_La_takeTurns 136 = .ok (.invokevirtual 123, 3) := by decide +kernel
theorem d_La_takeTurns_139 : decode b_La_takeTurns 139 = .ok (.goto 54, 3) := by decide +kernel
theorem d_La_takeTurns_142 : decode b_La_takeTurns 142 = .ok (.aload_n 0, 1) := by decide +kernel
theorem d_La_takeTurns_143 : decode b_La_takeTurns 143 = .ok (.iload_n 2, 1) := by decide +kernel
theorem d_La_takeTurns_144 : decode b_La_takeTurns 144 = .ok (.invokevirtual 126, 3) := by decide +kernel
theorem d_La_takeTurns_147 : decode b_La_takeTurns 147 = .ok (.goto 46, 3) := by decide +kernel
theorem d_La_takeTurns_150 : decode b_La_takeTurns 150 = .ok (.aload_n 0, 1) := by decide +kernel
theorem d_La_takeTurns_151 : decode b_La_takeTurns 151 = .ok (.iload_n 2, 1) := by decide +kernel
theorem d_La_takeTurns_152 : decode b_La_takeTurns 152 = .ok (.invokevirtual 129, 3) := by decide +kernel
theorem d_La_takeTurns_155 : decode b_La_takeTurns 155 = .ok (.goto 38, 3) := by decide +kernel
theorem d_La_takeTurns_158 : decode b_La_takeTurns 158 = .ok (.iload 4, 2) := by decide +kernel
theorem d_La_takeTurns_160 : decode b_La_takeTurns 160 = .ok (.iconst 3, 1) := by decide +kernel
theorem d_La_takeTurns_161 : decode b_La_takeTurns 161 = .ok (.if_icmp .ge 14, 3) := by decide +kernel
theorem d_La_takeTurns_164 : decode b_La_takeTurns 164 = .ok (.aload_n 0, 1) := by decide +kernel
theorem d_La_takeTurns_165 : decode b_La_takeTurns 165 = .ok (.iload_n 2, 1) := by decide +kernel
theorem d_La_takeTurns_166 : decode b_La_takeTurns 166 = .ok (.iload_n 3, 1) := by decide +kernel
theorem d_La_takeTurns_167 : decode b_La_takeTurns 167 = .ok (.iload 4, 2) := by decide +kernel
theorem d_La_takeTurns_169 : decode b_La_takeTurns 169 = .ok (.invokevirtual 132, 3) := by decide +kernel
theorem d_La_takeTurns_172 : decode b_La_takeTurns 172 = .ok (.goto 21, 3) := by decide +kernel
theorem d_La_takeTurns_175 : decode b_La_takeTurns 175 = .ok (.aload_n 0, 1) := by decide +kernel
theorem d_La_takeTurns_176 : decode b_La_takeTurns 176 = .ok (.iload_n 2, 1) := by decide +kernel
theorem d_La_takeTurns_177 : decode b_La_takeTurns 177 = .ok (.iload 4, 2) := by decide +kernel
theorem d_La_takeTurns_179 : decode b_La_takeTurns 179 = .ok (.invokevirtual 135, 3) := by decide +kernel
theorem d_La_takeTurns_182 : decode b_La_takeTurns 182 = .ok (.goto 11, 3) := by decide +kernel
theorem d_La_takeTurns_185 : decode b_La_takeTurns 185 = .ok (.aload_n 0, 1) := by decide +kernel
theorem d_La_takeTurns_186 : decode b_La_takeTurns 186 = .ok (.iload_n 2, 1) := by decide +kernel
theorem d_La_takeTurns_187 : decode b_La_takeTurns 187 = .ok (.iload_n 3, 1) := by decide +kernel
theorem d_La_takeTurns_188 : decode b_La_takeTurns 188 = .ok (.iload 4, 2) := by decide +kernel
theorem d_La_takeTurns_190 : decode b_La_takeTurns 190 = .ok (.invokevirtual 138, 3) := by decide +kernel
theorem d_La_takeTurns_193 : decode b_La_takeTurns 193 = .ok (.iinc 1 1, 3) := by decide +kernel
theorem d_La_takeTurns_196 : decode b_La_takeTurns 196 = .ok (.goto (-194), 3) := by decide +kernel
theorem d_La_takeTurns_199 : decode b_La_takeTurns 199 = .ok (.return_, 1) := by decide +kernel
