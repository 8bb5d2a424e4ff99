theorem d_La_turnWhile_0 : decode b_La_turnWhile 0 = .ok (.iload_n 3, 1) := by decide +kernel
theorem d_La_turnWhile_1 : decode b_La_turnWhile 1 = .ok (.ifCond .ne 71, 3) := by decide +kernel
theorem d_La_turnWhile_4 : decode b_La_turnWhile 4 = .ok (.aload_n 0, 1) := by decide +kernel
theorem d_La_turnWhile_5 : decode b_La_turnWhile 5 = .ok (.getfield 21, 3) := by decide +kernel
theorem d_La_turnWhile_8 : decode b_La_turnWhile 8 = .ok (.getfield 154, 3) := by decide +kernel
theorem d_La_turnWhile_11 : decode b_La_turnWhile 11 = .ok (.iload_n 1, 1) := by decide +kernel
theorem d_La_turnWhile_12 : decode b_La_turnWhile 12 = .ok (.aload_n 0, 1) := by decide +kernel
theorem d_La_turnWhile_13 : decode b_La_turnWhile 13 = .ok (.getfield 12, 3) := by decide +kernel
theorem d_La_turnWhile_16 : decode b_La_turnWhile 16 = .ok (.aload_n 0, 1) := by decide +kernel
theorem d_La_turnWhile_17 : decode b_La_turnWhile 17 = .ok (.getfield 21, 3) := by decide +kernel
theorem d_La_turnWhile_20 : decode b_La_turnWhile 20 = .ok (.getfield 154, 3) := by decide +kernel
theorem d_La_turnWhile_23 : decode b_La_turnWhile 23 = .ok (.iload_n 1, 1) := by decide +kernel
theorem d_La_turnWhile_24 : decode b_La_turnWhile 24 = .ok (.iaload, 1) := by decide +kernel
theorem d_La_turnWhile_25 : decode b_La_turnWhile 25 = .ok (.invokevirtual 163, 3) := by decide +kernel
theorem d_La_turnWhile_28 : decode b_La_turnWhile 28 = .ok (.iconst 0, 1) := by decide +kernel
theorem d_La_turnWhile_29 : decode b_La_turnWhile 29 = .ok (.invokestatic 102, 3) := by decide +kernel
theorem d_La_turnWhile_32 : decode b_La_turnWhile 32 = .ok (.iastore, 1) := by decide +kernel
theorem d_La_turnWhile_33 : decode b_La_turnWhile 33 = .ok (.aload_n 0, 1) := by decide +kernel
theorem d_La_turnWhile_34 : decode b_La_turnWhile 34 = .ok (.getfield 21, 3) := by decide +kernel
theorem d_La_turnWhile_37 : decode b_La_turnWhile 37 = .ok (.getfield 157, 3) := by decide +kernel
theorem d_La_turnWhile_40 : decode b_La_turnWhile 40 = .ok (.iload_n 1, 1) := by decide +kernel
theorem d_La_turnWhile_41 : decode b_La_turnWhile 41 = .ok (.aload_n 0, 1) := by decide +kernel
theorem d_La_turnWhile_42 : decode b_La_turnWhile 42 = .ok (.getfield 40, 3) := by decide +kernel
theorem d_La_turnWhile_45 : decode b_La_turnWhile 45 = .ok (.getfield 74, 3) := by decide +kernel
theorem d_La_turnWhile_48 : decode b_La_turnWhile 48 = .ok (.iastore, 1) := by decide +kernel
theorem d_La_turnWhile_49 : decode b_La_turnWhile 49 = .ok (.aload_n 0, 1) := by decide +kernel
theorem d_La_turnWhile_50 : decode b_La_turnWhile 50 = .ok (.aload_n 0, 1) := by decide +kernel
theorem d_La_turnWhile_51 : decode b_La_turnWhile 51 = .ok (.getfield 36, 3) := by decide +kernel
theorem d_La_turnWhile_54 : decode b_La_turnWhile 54 = .ok (.iload_n 2, 1) := by decide +kernel
theorem d_La_turnWhile_55 : decode b_La_turnWhile 55 = .ok (.iconst 0, 1) := by decide +kernel
theorem d_La_turnWhile_56 : decode b_La_turnWhile 56 = .ok (.invokevirtual 141, 3) := by decide +kernel
theorem d_La_turnWhile_59 : decode b_La_turnWhile 59 = .ok (.aload_n 0, 1) := by decide +kernel
theorem d_La_turnWhile_60 : decode b_La_turnWhile 60 = .ok (.getfield 21, 3) := by decide +kernel
theorem d_La_turnWhile_63 : decode b_La_turnWhile 63 = .ok (.getfield 154, 3) := by decide +kernel
theorem d_La_turnWhile_66 : decode b_La_turnWhile 66 = .ok (.iload_n 1, 1) := by decide +kernel
theorem d_La_turnWhile_67 : decode b_La_turnWhile 67 = .ok (.iaload, 1) := by decide +kernel
theorem d_La_turnWhile_68 : decode b_La_turnWhile 68 = .ok (.invokevirtual 86, 3) := by decide +kernel
theorem d_La_turnWhile_71 : decode b_La_turnWhile 71 = .ok (.return_, 1) := by decide +kernel
theorem d_La_turnWhile_72 : decode b_La_turnWhile 72 = .ok (.aload_n 0, 1) := by decide +kernel
theorem d_La_turnWhile_73 : decode b_La_turnWhile 73 = .ok (.getfield 21, 3) := by decide +kernel
theorem d_La_turnWhile_76 : decode b_La_turnWhile 76 = .ok (.getfield 154, 3) := by decide +kernel
theorem d_La_turnWhile_79 : decode b_La_turnWhile 79 = .ok (.iload_n 1, 1) := by decide +kernel
theorem d_La_turnWhile_80 : decode b_La_turnWhile 80 = .ok (.iaload, 1) := by decide +kernel
theorem d_La_turnWhile_81 : decode b_La_turnWhile 81 = .ok (.istore 4, 2) := by decide +kernel
theorem d_La_turnWhile_83 : decode b_La_turnWhile 83 = .ok (.iload 4, 2) := by decide +kernel
theorem d_La_turnWhile_85 : decode b_La_turnWhile 85 = .ok (.invokestatic 166, 3) := by decide +kernel
theorem d_La_turnWhile_88 : decode b_La_turnWhile 88 = .ok (.istore 5, 2) := by decide +kernel
theorem d_La_turnWhile_90 : decode b_La_turnWhile 90 = .ok (.iload_n 3, 1) := by decide +kernel
theorem d_La_turnWhile_91 : decode b_La_turnWhile 91 = .ok (.iconst 1, 1) := by decide +kernel
theorem d_La_turnWhile_92 : decode b_La_turnWhile 92 = .ok (.if_icmp .ne 34, 3) := by decide +kernel
theorem d_La_turnWhile_95 : decode b_La_turnWhile 95 = .ok (.aload_n 0, 1) := by decide +kernel
theorem d_La_turnWhile_96 : decode b_La_turnWhile 96 = .ok (.bipush 10, 2) := by decide +kernel
theorem d_La_turnWhile_98 : decode b_La_turnWhile 98 = .ok (.iload 5, 2) := by decide +kernel
theorem d_La_turnWhile_100 : decode b_La_turnWhile 100 = .ok (.invokestatic 169, 3) := by decide +kernel
theorem d_La_turnWhile_103 : decode b_La_turnWhile 103 = .ok (.iload 4, 2) := by decide +kernel
theorem d_La_turnWhile_105 : decode b_La_turnWhile 105 = .ok (.invokevirtual 95, 3) := by decide +kernel
theorem d_La_turnWhile_108 : decode b_La_turnWhile 108 = .ok (.aload_n 0, 1) := by decide +kernel
theorem d_La_turnWhile_109 : decode b_La_turnWhile 109 = .ok (.aload_n 0, 1) := by decide +kernel
theorem d_La_turnWhile_110 : decode b_La_turnWhile 110 = .ok (.getfield 36, 3) := by decide +kernel
theorem d_La_turnWhile_113 : decode b_La_turnWhile 113 = .ok (.iload_n 2, 1) := by decide +kernel
theorem d_La_turnWhile_114 : decode b_La_turnWhile 114 = .ok (.iconst 1, 1) := by decide +kernel
theorem d_La_turnWhile_115 : decode b_La_turnWhile 115 = .ok (.invokevirtual 141, 3) := by decide +kernel
theorem d_La_turnWhile_118 : decode b_La_turnWhile 118 = .ok (.iload 4, 2) := by decide +kernel
theorem d_La_turnWhile_120 : decode b_La_turnWhile 120 = .ok (.invokevirtual 86, 3) := by decide +kernel
theorem d_La_turnWhile_123 : decode b_La_turnWhile 123 = .ok (.goto 36, 3) := by decide +kernel
theorem d_La_turnWhile_126 : decode b_La_turnWhile 126 = .ok (.aload_n 0, 1) := by decide +kernel
theorem d_La_turnWhile_127 : decode b_La_turnWhile 127 = .ok (.iload_n 1, 1) := by decide +kernel
theorem d_La_turnWhile_128 : decode b_La_turnWhile 128 = .ok (.bipush 11, 2) := by decide +kernel
theorem d_La_turnWhile_130 : decode b_La_turnWhile 130 = .ok (.aload_n 0, 1) := by decide +kernel
theorem d_La_turnWhile_131 : decode b_La_turnWhile 131 = .ok (.getfield 21, 3) := by decide +kernel
theorem d_La_turnWhile_134 : decode b_La_turnWhile 134 = .ok (.getfield 157, 3) := by decide +kernel
theorem d_La_turnWhile_137 : decode b_La_turnWhile 137 = .ok (.iload_n 1, 1) := by decide +kernel
theorem d_La_turnWhile_138 : decode b_La_turnWhile 138 = .ok (.iaload, 1) := by decide +kernel
theorem d_La_turnWhile_139 : decode b_La_turnWhile 139 = .ok (.invokevirtual 144, 3) := by decide +kernel
theorem d_La_turnWhile_142 : decode b_La_turnWhile 142 = .ok (.aload_n 0, 1) := by decide +kernel
theorem d_La_turnWhile_143 : decode b_La_turnWhile 143 = .ok (.getfield 12, 3) := by decide +kernel
theorem d_La_turnWhile_146 : decode b_La_turnWhile 146 = .ok (.getfield 172, 3) := by decide +kernel
theorem d_La_turnWhile_149 : decode b_La_turnWhile 149 = .ok (.iload 5, 2) := by decide +kernel
theorem d_La_turnWhile_151 : decode b_La_turnWhile 151 = .ok (.aload_n 0, 1) := by decide +kernel
theorem d_La_turnWhile_152 : decode b_La_turnWhile 152 = .ok (.getfield 40, 3) := by decide +kernel
theorem d_La_turnWhile_155 : decode b_La_turnWhile 155 = .ok (.getfield 74, 3) := by decide +kernel
theorem d_La_turnWhile_158 : decode b_La_turnWhile 158 = .ok (.iastore, 1) := by decide +kernel
theorem d_La_turnWhile_159 : decode b_La_turnWhile 159 = .ok (.return_, 1) := by decide +kernel
theorem d_Sc_finallyAround_0 : decode b_Sc_finallyAround 0 = .ok (.iload_n 1, 1) := by decide +kernel
theorem d_Sc_finallyAround_1 : decode b_Sc_finallyAround 1 = .ok (.istore_n 3, 1) := by decide +kernel
theorem d_Sc_finallyAround_2 : decode b_Sc_finallyAround 2 = .ok (.aload_n 0, 1) := by decide +kernel
theorem d_Sc_finallyAround_3 : decode b_Sc_finallyAround 3 = .ok (.getfield 40, 3) := by decide +kernel
theorem d_Sc_finallyAround_6 : decode b_Sc_finallyAround 6 = .ok (.istore 4, 2) := by decide +kernel
theorem d_Sc_finallyAround_8 : decode b_Sc_finallyAround 8 = .ok (.iload 4, 2) := by decide +kernel
theorem d_Sc_finallyAround_10 : decode b_Sc_finallyAround 10 = .ok (.ifCond .le 53, 3) := by decide +kernel
theorem d_Sc_finallyAround_13 : decode b_Sc_finallyAround 13 = .ok (.iload_n 3, 1) := by decide +kernel
theorem d_Sc_finallyAround_14 : decode b_Sc_finallyAround 14 = .ok (.invokestatic 47, 3) := by decide +kernel
theorem d_Sc_finallyAround_17 : decode b_Sc_finallyAround 17 = .ok (.iload_n 2, 1) := by decide +kernel
theorem d_Sc_finallyAround_18 : decode b_Sc_finallyAround 18 = .ok (.if_icmp .le 45, 3) := by decide +kernel
theorem d_Sc_finallyAround_21 : decode b_Sc_finallyAround 21 = .ok (.aload_n 0, 1) := by decide +kernel
theorem d_Sc_finallyAround_22 : decode b_Sc_finallyAround 22 = .ok (.getfield 18, 3) := by decide +kernel
theorem d_Sc_finallyAround_25 : decode b_Sc_finallyAround 25 = .ok (.iload_n 3, 1) := by decide +kernel
theorem d_Sc_finallyAround_26 : decode b_Sc_finallyAround 26 = .ok (.invokestatic 47, 3) := by decide +kernel
theorem d_Sc_finallyAround_29 : decode b_Sc_finallyAround 29 = .ok (.iaload, 1) := by decide +kernel
theorem d_Sc_finallyAround_30 : decode b_Sc_finallyAround 30 = .ok (.iconst (-1), 1) := by decide +kernel
theorem d_Sc_finallyAround_31 : decode b_Sc_finallyAround 31 = .ok (.if_icmp .eq 16, 3) := by decide +kernel
theorem d_Sc_finallyAround_34 : decode b_Sc_finallyAround 34 = .ok (.iload_n 3, 1) := by decide +kernel
theorem d_Sc_finallyAround_35 : decode b_Sc_finallyAround 35 = .ok (.invokestatic 50, 3) := by decide +kernel
theorem d_Sc_finallyAround_38 : decode b_Sc_finallyAround 38 = .ok (.iconst 2, 1) := by decide +kernel
theorem d_Sc_finallyAround_39 : decode b_Sc_finallyAround 39 = .ok (.if_icmp .eq 8, 3) := by decide +kernel
theorem d_Sc_finallyAround_42 : decode b_Sc_finallyAround 42 = .ok (.iload_n 3, 1) := by decide +kernel
theorem d_Sc_finallyAround_43 : decode b_Sc_finallyAround 43 = .ok (.invokestatic 47, 3) := by decide +kernel
theorem d_Sc_finallyAround_46 : decode b_Sc_finallyAround 46 = .ok (.ireturn, 1) := by decide +kernel
theorem d_Sc_finallyAround_47 : decode b_Sc_finallyAround 47 = .ok (.aload_n 0, 1) := by decide +kernel
theorem d_Sc_finallyAround_48 : decode b_Sc_finallyAround 48 = .ok (.getfield 11, 3) := by decide +kernel
theorem d_Sc_finallyAround_51 : decode b_Sc_finallyAround 51 = .ok (.iload_n 3, 1) := by decide +kernel
theorem d_Sc_finallyAround_52 : decode b_Sc_finallyAround 52 = .ok (.invokestatic 47, 3) := by decide +kernel
theorem d_Sc_finallyAround_55 : decode b_Sc_finallyAround 55 = .ok (.iaload, 1) := by decide +kernel
theorem d_Sc_finallyAround_56 : decode b_Sc_finallyAround 56 = .ok (.istore_n 3, 1) := by decide +kernel
theorem d_Sc_finallyAround_57 : decode b_Sc_finallyAround 57 = .ok (.iinc 4 (-1), 3) := by decide +kernel
theorem d_Sc_finallyAround_60 : decode b_Sc_finallyAround 60 = .ok (.goto (-52), 3) := by decide +kernel
theorem d_Sc_finallyAround_63 : decode b_Sc_finallyAround 63 = .ok (.iconst (-1), 1) := by decide +kernel
theorem d_Sc_finallyAround_64 : decode b_Sc_finallyAround 64 = .ok (.ireturn, 1) := by decide +kernel
theorem d_La_leave_0 : decode b_La_leave 0 = .ok (.aload_n 0, 1) := by decide +kernel
theorem d_La_leave_1 : decode b_La_leave 1 = .ok (.getfield 21, 3) := by decide +kernel
theorem d_La_leave_4 : decode b_La_leave 4 = .ok (.getfield 154, 3) := by decide +kernel
theorem d_La_leave_7 : decode b_La_leave 7 = .ok (.iload_n 1, 1) := by decide +kernel
theorem d_La_leave_8 : decode b_La_leave 8 = .ok (.aload_n 0, 1) := by decide +kernel
theorem d_La_leave_9 : decode b_La_leave 9 = .ok (.getfield 12, 3) := by decide +kernel
theorem d_La_leave_12 : decode b_La_leave 12 = .ok (.getfield 184, 3) := by decide +kernel
theorem d_La_leave_15 : decode b_La_leave 15 = .ok (.iload_n 2, 1) := by decide +kernel
theorem d_La_leave_16 : decode b_La_leave 16 = .ok (.iaload, 1) := by decide +kernel
theorem d_La_leave_17 : decode b_La_leave 17 = .ok (.iastore, 1) := by decide +kernel
theorem d_La_leave_18 : decode b_La_leave 18 = .ok (.aload_n 0, 1) := by decide +kernel
theorem d_La_leave_19 : decode b_La_leave 19 = .ok (.aload_n 0, 1) := by decide +kernel
theorem d_La_leave_20 : decode b_La_leave 20 = .ok (.getfield 12, 3) := by decide +kernel
theorem d_La_leave_23 : decode b_La_leave 23 = .ok (.getfield 187, 3) := by decide +kernel
theorem d_La_leave_26 : decode b_La_leave 26 = .ok (.iload_n 2, 1) := by decide +kernel
theorem d_La_leave_27 : decode b_La_leave 27 = .ok (.iaload, 1) := by decide +kernel
theorem d_La_leave_28 : decode b_La_leave 28 = .ok (.iload_n 2, 1) := by decide +kernel
theorem d_La_leave_29 : decode b_La_leave 29 = .ok (.iconst 2, 1) := by decide +kernel
theorem d_La_leave_30 : decode b_La_leave 30 = .ok (.invokestatic 102, 3) := by decide +kernel
theorem d_La_leave_33 : decode b_La_leave 33 = .ok (.invokevirtual 86, 3) := by decide +kernel
theorem d_La_leave_36 : decode b_La_leave 36 = .ok (.return_, 1) := by decide +kernel
theorem d_La_turnReturn_0 : decode b_La_turnReturn 0 = .ok (.aload_n 0, 1) := by decide +kernel
theorem d_La_turnReturn_1 : decode b_La_turnReturn 1 = .ok (.getfield 12, 3) := by decide +kernel
theorem d_La_turnReturn_4 : decode b_La_turnReturn 4 = .ok (.aload_n 0, 1) := by decide +kernel
theorem d_La_turnReturn_5 : decode b_La_turnReturn 5 = .ok (.getfield 21, 3) := by decide +kernel
theorem d_La_turnReturn_8 : decode b_La_turnReturn 8 = .ok (.getfield 154, 3) := by decide +kernel
theorem d_La_turnReturn_11 : decode b_La_turnReturn 11 = .ok (.iload_n 1, 1) := by decide +kernel
theorem d_La_turnReturn_12 : decode b_La_turnReturn 12 = .ok (.iaload, 1) := by decide +kernel
theorem d_La_turnReturn_13 : decode b_La_turnReturn 13 = .ok (.iconst 0, 1) := by decide +kernel
theorem d_La_turnReturn_14 : decode b_La_turnReturn 14 = .ok (.invokevirtual 175, 3) := by decide +kernel
theorem d_La_turnReturn_17 : decode b_La_turnReturn 17 = .ok (.istore_n 2, 1) := by decide +kernel
theorem d_La_turnReturn_18 : decode b_La_turnReturn 18 = .ok (.iload_n 2, 1) := by decide +kernel
theorem d_La_turnReturn_19 : decode b_La_turnReturn 19 = .ok (.iconst (-1), 1) := by decide +kernel
theorem d_La_turnReturn_20 : decode b_La_turnReturn 20 = .ok (.if_icmp .ne 14, 3) := by decide +kernel
theorem d_La_turnReturn_23 : decode b_La_turnReturn 23 = .ok (.aload_n 0, 1) := by decide +kernel
theorem d_La_turnReturn_24 : decode b_La_turnReturn 24 = .ok (.iload_n 1, 1) := by decide +kernel
theorem d_La_turnReturn_25 : decode b_La_turnReturn 25 = .ok (.bipush 14, 2) := by decide +kernel
theorem d_La_turnReturn_27 : decode b_La_turnReturn 27 = .ok (.iconst 0, 1) := by decide +kernel
theorem d_La_turnReturn_28 : decode b_La_turnReturn 28 = .ok (.invokevirtual 144, 3) := by decide +kernel
theorem d_La_turnReturn_31 : decode b_La_turnReturn 31 = .ok (.goto 9, 3) := by decide +kernel
theorem d_La_turnReturn_34 : decode b_La_turnReturn 34 = .ok (.aload_n 0, 1) := by decide +kernel
theorem d_La_turnReturn_35 : decode b_La_turnReturn 35 = .ok (.iload_n 1, 1) := by decide +kernel
theorem d_La_turnReturn_36 : decode b_La_turnReturn 36 = .ok (.iload_n 2, 1) := by decide +kernel
theorem d_La_turnReturn_37 : decode b_La_turnReturn 37 = .ok (.invokevirtual 178, 3) := by decide +kernel
theorem d_La_turnReturn_40 : decode b_La_turnReturn 40 = .ok (.return_, 1) := by decide +kernel
theorem d_La_turnBreak_0 : decode b_La_turnBreak 0 = .ok (.aload_n 0, 1) := by decide +kernel
theorem d_La_turnBreak_1 : decode b_La_turnBreak 1 = .ok (.getfield 21, 3) := by decide +kernel
theorem d_La_turnBreak_4 : decode b_La_turnBreak 4 = .ok (.getfield 154, 3) := by decide +kernel
theorem d_La_turnBreak_7 : decode b_La_turnBreak 7 = .ok (.iload_n 1, 1) := by decide +kernel
theorem d_La_turnBreak_8 : decode b_La_turnBreak 8 = .ok (.iaload, 1) := by decide +kernel
theorem d_La_turnBreak_9 : decode b_La_turnBreak 9 = .ok (.istore_n 2, 1) := by decide +kernel
theorem d_La_turnBreak_10 : decode b_La_turnBreak 10 = .ok (.aload_n 0, 1) := by decide +kernel
theorem d_La_turnBreak_11 : decode b_La_turnBreak 11 = .ok (.getfield 12, 3) := by decide +kernel
theorem d_La_turnBreak_14 : decode b_La_turnBreak 14 = .ok (.getfield 181, 3) := by decide +kernel
theorem d_La_turnBreak_17 : decode b_La_turnBreak 17 = .ok (.iload_n 2, 1) := by decide +kernel
theorem d_La_turnBreak_18 : decode b_La_turnBreak 18 = .ok (.invokestatic 166, 3) := by decide +kernel
theorem d_La_turnBreak_21 : decode b_La_turnBreak 21 = .ok (.iaload, 1) := by decide +kernel
theorem d_La_turnBreak_22 : decode b_La_turnBreak 22 = .ok (.istore_n 3, 1) := by decide +kernel
theorem d_La_turnBreak_23 : decode b_La_turnBreak 23 = .ok (.iload_n 3, 1) := by decide +kernel
theorem d_La_turnBreak_24 : decode b_La_turnBreak 24 = .ok (.ifCond .ne 10, 3) := by decide +kernel
theorem d_La_turnBreak_27 : decode b_La_turnBreak 27 = .ok (.aload_n 0, 1) := by decide +kernel
theorem d_La_turnBreak_28 : decode b_La_turnBreak 28 = .ok (.bipush (-3), 2) := by decide +kernel
theorem d_La_turnBreak_30 : decode b_La_turnBreak 30 = .ok (.putfield 61, 3) := by decide +kernel
theorem d_La_turnBreak_33 : decode b_La_turnBreak 33 = .ok (.return_, 1) := by decide +kernel
theorem d_La_turnBreak_34 : decode b_La_turnBreak 34 = .ok (.aload_n 0, 1) := by decide +kernel
theorem d_La_turnBreak_35 : decode b_La_turnBreak 35 = .ok (.getfield 12, 3) := by decide +kernel
theorem d_La_turnBreak_38 : decode b_La_turnBreak 38 = .ok (.iload_n 2, 1) := by decide +kernel
theorem d_La_turnBreak_39 : decode b_La_turnBreak 39 = .ok (.iload_n 3, 1) := by decide +kernel
theorem d_La_turnBreak_40 : decode b_La_turnBreak 40 = .ok (.invokevirtual 175, 3) := by decide +kernel
theorem d_La_turnBreak_43 : decode b_La_turnBreak 43 = .ok (.istore 4, 2) := by decide +kernel
theorem d_La_turnBreak_45 : decode b_La_turnBreak 45 = .ok (.iload 4, 2) := by decide +kernel
theorem d_La_turnBreak_47 : decode b_La_turnBreak 47 = .ok (.iconst (-1), 1) := by decide +kernel
theorem d_La_turnBreak_48 : decode b_La_turnBreak 48 = .ok (.if_icmp .ne 17, 3) := by decide +kernel
theorem d_La_turnBreak_51 : decode b_La_turnBreak 51 = .ok (.aload_n 0, 1) := by decide +kernel
theorem d_La_turnBreak_52 : decode b_La_turnBreak 52 = .ok (.iload_n 1, 1) := by decide +kernel
theorem d_La_turnBreak_53 : decode b_La_turnBreak 53 = .ok (.bipush 11, 2) := by decide +kernel
theorem d_La_turnBreak_55 : decode b_La_turnBreak 55 = .ok (.iload_n 3, 1) := by decide +kernel
theorem d_La_turnBreak_56 : decode b_La_turnBreak 56 = .ok (.invokestatic 169, 3) := by decide +kernel
theorem d_La_turnBreak_59 : decode b_La_turnBreak 59 = .ok (.invokevirtual 144, 3) := by decide +kernel
theorem d_La_turnBreak_62 : decode b_La_turnBreak 62 = .ok (.goto 10, 3) := by decide +kernel
theorem d_La_turnBreak_65 : decode b_La_turnBreak 65 = .ok (.aload_n 0, 1) := by decide +kernel
theorem d_La_turnBreak_66 : decode b_La_turnBreak 66 = .ok (.iload_n 1, 1) := by decide +kernel
theorem d_La_turnBreak_67 : decode b_La_turnBreak 67 = .ok (.iload 4, 2) := by decide +kernel
theorem d_La_turnBreak_69 : decode b_La_turnBreak 69 = .ok (.invokevirtual 178, 3) := by decide +kernel
theorem d_La_turnBreak_72 : decode b_La_turnBreak 72 = .ok (.return_, 1) := by decide +kernel
theorem d_Ha_comesBefore_0 : decode b_Ha_comesBefore 0 = .ok (.aload_n 2, 1) := by decide +kernel
theorem d_Ha_comesBefore_1 : decode b_Ha_comesBefore 1 = .ok (.iload_n 0, 1) := by decide +kernel
theorem d_Ha_comesBefore_2 : decode b_Ha_comesBefore 2 = .ok (.iaload, 1) := by decide +kernel
theorem d_Ha_comesBefore_3 : decode b_Ha_comesBefore 3 = .ok (.aload_n 2, 1) := by decide +kernel
theorem d_Ha_comesBefore_4 : decode b_Ha_comesBefore 4 = .ok (.iload_n 1, 1) := by decide +kernel
theorem d_Ha_comesBefore_5 : decode b_Ha_comesBefore 5 = .ok (.iaload, 1) := by decide +kernel
theorem d_Ha_comesBefore_6 : decode b_Ha_comesBefore 6 = .ok (.if_icmp .gt 17, 3) := by decide +kernel
theorem d_Ha_comesBefore_9 : decode b_Ha_comesBefore 9 = .ok (.aload_n 2, 1) := by decide +kernel
theorem d_Ha_comesBefore_10 : decode b_Ha_comesBefore 10 = .ok (.iload_n 0, 1) := by decide +kernel
theorem d_Ha_comesBefore_11 : decode b_Ha_comesBefore 11 = .ok (.iaload, 1) := by decide +kernel
theorem d_Ha_comesBefore_12 : decode b_Ha_comesBefore 12 = .ok (.aload_n 2, 1) := by decide +kernel
theorem d_Ha_comesBefore_13 : decode b_Ha_comesBefore 13 = .ok (.iload_n 1, 1) := by decide +kernel
theorem d_Ha_comesBefore_14 : decode b_Ha_comesBefore 14 = .ok (.iaload, 1) := by decide +kernel
theorem d_Ha_comesBefore_15 : decode b_Ha_comesBefore 15 = .ok (.if_icmp .ne 12, 3) := by decide +kernel
theorem d_Ha_comesBefore_18 : decode b_Ha_comesBefore 18 = .ok (.iload_n 0, 1) := by decide +kernel
theorem d_Ha_comesBefore_19 : decode b_Ha_comesBefore 19 = .ok (.iload_n 1, 1) := by decide +kernel
theorem d_Ha_comesBefore_20 : decode b_Ha_comesBefore 20 = .ok (.if_icmp .ge 7, 3) := by decide +kernel
theorem d_Ha_comesBefore_23 : decode b_Ha_comesBefore 23 = .ok (.iconst 1, 1) := by decide +kernel
theorem d_Ha_comesBefore_24 : decode b_Ha_comesBefore 24 = .ok (.goto 4, 3) := by decide +kernel
theorem d_Ha_comesBefore_27 : decode b_Ha_comesBefore 27 = .ok (.iconst 0, 1) := by decide +kernel
theorem d_Ha_comesBefore_28 : decode b_Ha_comesBefore 28 = .ok (.ireturn, 1) := by decide +kernel
theorem d_Ha_add_0 : decode b_Ha_add 0 = .ok (.aload_n 0, 1) := by decide +kernel
theorem d_Ha_add_1 : decode b_Ha_add 1 = .ok (.getfield 21, 3) := by decide +kernel
theorem d_Ha_add_4 : decode b_Ha_add 4 = .ok (.sipush 501, 3) := by decide +kernel
theorem d_Ha_add_7 : decode b_Ha_add 7 = .ok (.if_icmp .lt 4, 3) := by decide +kernel
theorem d_Ha_add_10 : decode b_Ha_add 10 = .ok (.return_, 1) := by decide +kernel
theorem d_Ha_add_11 : decode b_Ha_add 11 = .ok (.aload_n 0, 1) := by decide +kernel
theorem d_Ha_add_12 : decode b_Ha_add 12 = .ok (.getfield 21, 3) := by decide +kernel
theorem d_Ha_add_15 : decode b_Ha_add 15 = .ok (.istore 5, 2) := by decide +kernel
theorem d_Ha_add_17 : decode b_Ha_add 17 = .ok (.iload 5, 2) := by decide +kernel
theorem d_Ha_add_19 : decode b_Ha_add 19 = .ok (.ifCond .le 75, 3) := by decide +kernel
theorem d_Ha_add_22 : decode b_Ha_add 22 = .ok (.iload_n 1, 1) := by decide +kernel
theorem d_Ha_add_23 : decode b_Ha_add 23 = .ok (.aload_n 0, 1) := by decide +kernel
theorem d_Ha_add_24 : decode b_Ha_add 24 = .ok (.getfield 11, 3) := by decide +kernel
theorem d_Ha_add_27 : decode b_Ha_add 27 = .ok (.iload 5, 2) := by decide +kernel
theorem d_Ha_add_29 : decode b_Ha_add 29 = .ok (.iconst 1, 1) := by decide +kernel
theorem d_Ha_add_30 : decode b_Ha_add 30 = .ok (.isub, 1) := by decide +kernel
theorem d_Ha_add_31 : decode b_Ha_add 31 = .ok (.iaload, 1) := by decide +kernel
theorem d_Ha_add_32 : decode b_Ha_add 32 = .ok (.aload 4, 2) := by decide +kernel
theorem d_Ha_add_34 : decode b_Ha_add 34 = .ok (.invokestatic 25, 3) := by decide +kernel
theorem d_Ha_add_37 : decode b_Ha_add 37 = .ok (.ifCond .eq 57, 3) := by decide +kernel
theorem d_Ha_add_40 : decode b_Ha_add 40 = .ok (.aload_n 0, 1) := by decide +kernel
theorem d_Ha_add_41 : decode b_Ha_add 41 = .ok (.getfield 11, 3) := by decide +kernel
theorem d_Ha_add_44 : decode b_Ha_add 44 = .ok (.iload 5, 2) := by decide +kernel
theorem d_Ha_add_46 : decode b_Ha_add 46 = .ok (.aload_n 0, 1) := by decide +kernel
theorem d_Ha_add_47 : decode b_Ha_add 47 = .ok (.getfield 11, 3) := by decide +kernel
theorem d_Ha_add_50 : decode b_Ha_add 50 = .ok (.iload 5, 2) := by decide +kernel
theorem d_Ha_add_52 : decode b_Ha_add 52 = .ok (.iconst 1, 1) := by decide +kernel
theorem d_Ha_add_53 : decode b_Ha_add 53 = .ok (.isub, 1) := by decide +kernel
theorem d_Ha_add_54 : decode b_Ha_add 54 = .ok (.iaload, 1) := by decide +kernel
theorem d_Ha_add_55 : decode b_Ha_add 55 = .ok (.iastore, 1) := by decide +kernel
theorem d_Ha_add_56 : decode b_Ha_add 56 = .ok (.aload_n 0, 1) := by decide +kernel
theorem d_Ha_add_57 : decode b_Ha_add 57 = .ok (.getfield 15, 3) := by decide +kernel
theorem d_Ha_add_60 : decode b_Ha_add 60 = .ok (.iload 5, 2) := by decide +kernel
theorem d_Ha_add_62 : decode b_Ha_add 62 = .ok (.aload_n 0, 1) := by decide +kernel
theorem d_Ha_add_63 : decode b_Ha_add 63 = .ok (.getfield 15, 3) := by decide +kernel
theorem d_Ha_add_66 : decode b_Ha_add 66 = .ok (.iload 5, 2) := by decide +kernel
theorem d_Ha_add_68 : decode b_Ha_add 68 = .ok (.iconst 1, 1) := by decide +kernel
theorem d_Ha_add_69 : decode b_Ha_add 69 = .ok (.isub, 1) := by decide +kernel
theorem d_Ha_add_70 : decode b_Ha_add 70 = .ok (.iaload, 1) := by decide +kernel
theorem d_Ha_add_71 : decode b_Ha_add 71 = .ok (.iastore, 1) := by decide +kernel
theorem d_Ha_add_72 : decode b_Ha_add 72 = .ok (.aload_n 0, 1) := by decide +kernel
theorem d_Ha_add_73 : decode b_Ha_add 73 = .ok (.getfield 18, 3) := by decide +kernel
theorem d_Ha_add_76 : decode b_Ha_add 76 = .ok (.iload 5, 2) := by decide +kernel
theorem d_Ha_add_78 : decode b_Ha_add 78 = .ok (.aload_n 0, 1) := by decide +kernel
theorem d_Ha_add_79 : decode b_Ha_add 79 = .ok (.getfield 18, 3) := by decide +kernel
theorem d_Ha_add_82 : decode b_Ha_add 82 = .ok (.iload 5, 2) := by decide +kernel
theorem d_Ha_add_84 : decode b_Ha_add 84 = .ok (.iconst 1, 1) := by decide +kernel
theorem d_Ha_add_85 : decode b_Ha_add 85 = .ok (.isub, 1) := by decide +kernel
theorem d_Ha_add_86 : decode b_Ha_add 86 = .ok (.iaload, 1) := by decide +kernel
theorem d_Ha_add_87 : decode b_Ha_add 87 = .ok (.iastore, 1) := by decide +kernel
theorem d_Ha_add_88 : decode b_Ha_add 88 = .ok (.iinc 5 (-1), 3) := by decide +kernel
theorem d_Ha_add_91 : decode b_Ha_add 91 = .ok (.goto (-74), 3) := by decide +kernel
theorem d_Ha_add_94 : decode b_Ha_add 94 = .ok (.aload_n 0, 1) := by decide +kernel
theorem d_Ha_add_95 : decode b_Ha_add 95 = .ok (.getfield 11, 3) := by decide +kernel
theorem d_Ha_add_98 : decode b_Ha_add 98 = .ok (.iload 5, 2) := by decide +kernel
theorem d_Ha_add_100 : decode b_Ha_add 100 = .ok (.iload_n 1, 1) := by decide +kernel
theorem d_Ha_add_101 : decode b_Ha_add 101 = .ok (.iastore, 1) := by decide +kernel
theorem d_Ha_add_102 : decode b_Ha_add 102 = .ok (.aload_n 0, 1) := by decide +kernel
theorem d_Ha_add_103 : decode b_Ha_add 103 = .ok (.getfield 15, 3) := by decide +kernel
theorem d_Ha_add_106 : decode b_Ha_add 106 = .ok (.iload 5, 2) := by decide +kernel
theorem d_Ha_add_108 : decode b_Ha_add 108 = .ok (.iload_n 2, 1) := by decide +kernel
theorem d_Ha_add_109 : decode b_Ha_add 109 = .ok (.iastore, 1) := by decide +kernel
theorem d_Ha_add_110 : decode b_Ha_add 110 = .ok (.aload_n 0, 1) := by decide +kernel
theorem d_Ha_add_111 : decode b_Ha_add 111 = .ok (.getfield 18, 3) := by decide +kernel
theorem d_Ha_add_114 : decode b_Ha_add 114 = .ok (.iload 5, 2) := by decide +kernel
theorem d_Ha_add_116 : decode b_Ha_add 116 = .ok (.iload_n 3, 1) := by decide +kernel
theorem d_Ha_add_117 : decode b_Ha_add 117 = .ok (.iastore, 1) := by decide +kernel
theorem d_Ha_add_118 : decode b_Ha_add 118 = .ok (.aload_n 0, 1) := by decide +kernel
theorem d_Ha_add_119 : decode b_Ha_add 119 = .ok (.dup, 1) := by decide +kernel
theorem d_Ha_add_120 : decode b_Ha_add 120 = .ok (.getfield 21, 3) := by decide +kernel
theorem d_Ha_add_123 : decode b_Ha_add 123 = .ok (.iconst 1, 1) := by decide +kernel
theorem d_Ha_add_124 : decode b_Ha_add 124 = .ok (.iadd, 1) := by decide +kernel
theorem d_Ha_add_125 : decode b_Ha_add 125 = .ok (.putfield 21, 3) := by decide +kernel
theorem d_Ha_add_128 : decode b_Ha_add 128 = .ok (.return_, 1) := by decide +kernel
theorem d_Tr_catchAfter_0 : decode b_Tr_catchAfter 0 = .ok (.iconst (-1), 1) := by decide +kernel
theorem d_Tr_catchAfter_1 : decode b_Tr_catchAfter 1 = .ok (.istore_n 3, 1) := by decide +kernel
theorem d_Tr_catchAfter_2 : decode b_Tr_catchAfter 2 = .ok (.aload_n 0, 1) := by decide +kernel
theorem d_Tr_catchAfter_3 : decode b_Tr_catchAfter 3 = .ok (.iload_n 1, 1) := by decide +kernel
theorem d_Tr_catchAfter_4 : decode b_Tr_catchAfter 4 = .ok (.iconst 1, 1) := by decide +kernel
theorem d_Tr_catchAfter_5 : decode b_Tr_catchAfter 5 = .ok (.invokevirtual 44, 3) := by decide +kernel
theorem d_Tr_catchAfter_8 : decode b_Tr_catchAfter 8 = .ok (.istore 4, 2) := by decide +kernel
theorem d_Tr_catchAfter_10 : decode b_Tr_catchAfter 10 = .ok (.aload_n 0, 1) := by decide +kernel
theorem d_Tr_catchAfter_11 : decode b_Tr_catchAfter 11 = .ok (.getfield 29, 3) := by decide +kernel
theorem d_Tr_catchAfter_14 : decode b_Tr_catchAfter 14 = .ok (.istore 5, 2) := by decide +kernel
theorem d_Tr_catchAfter_16 : decode b_Tr_catchAfter 16 = .ok (.iload 5, 2) := by decide +kernel
theorem d_Tr_catchAfter_18 : decode b_Tr_catchAfter 18 = .ok (.ifCond .le 33, 3) := by decide +kernel
theorem d_Tr_catchAfter_21 : decode b_Tr_catchAfter 21 = .ok (.iload 4, 2) := by decide +kernel
theorem d_Tr_catchAfter_23 : decode b_Tr_catchAfter 23 = .ok (.iconst (-1), 1) := by decide +kernel
theorem d_Tr_catchAfter_24 : decode b_Tr_catchAfter 24 = .ok (.if_icmp .eq 27, 3) := by decide +kernel
theorem d_Tr_catchAfter_27 : decode b_Tr_catchAfter 27 = .ok (.iload 4, 2) := by decide +kernel
theorem d_Tr_catchAfter_29 : decode b_Tr_catchAfter 29 = .ok (.iload_n 2, 1) := by decide +kernel
theorem d_Tr_catchAfter_30 : decode b_Tr_catchAfter 30 = .ok (.if_icmp .eq 21, 3) := by decide +kernel
theorem d_Tr_catchAfter_33 : decode b_Tr_catchAfter 33 = .ok (.iload 4, 2) := by decide +kernel
theorem d_Tr_catchAfter_35 : decode b_Tr_catchAfter 35 = .ok (.istore_n 3, 1) := by decide +kernel
theorem d_Tr_catchAfter_36 : decode b_Tr_catchAfter 36 = .ok (.aload_n 0, 1) := by decide +kernel
theorem d_Tr_catchAfter_37 : decode b_Tr_catchAfter 37 = .ok (.iload 4, 2) := by decide +kernel
theorem d_Tr_catchAfter_39 : decode b_Tr_catchAfter 39 = .ok (.iconst 4, 1) := by decide +kernel
theorem d_Tr_catchAfter_40 : decode b_Tr_catchAfter 40 = .ok (.invokevirtual 44, 3) := by decide +kernel
theorem d_Tr_catchAfter_43 : decode b_Tr_catchAfter 43 = .ok (.istore 4, 2) := by decide +kernel
theorem d_Tr_catchAfter_45 : decode b_Tr_catchAfter 45 = .ok (.iinc 5 (-1), 3) := by decide +kernel
theorem d_Tr_catchAfter_48 : decode b_Tr_catchAfter 48 = .ok (.goto (-32), 3) := by decide +kernel
theorem d_Tr_catchAfter_51 : decode b_Tr_catchAfter 51 = .ok (.iload_n 3, 1) := by decide +kernel
theorem d_Tr_catchAfter_52 : decode b_Tr_catchAfter 52 = .ok (.ireturn, 1) := by decide +kernel
theorem d_La_beginCatch_0 : decode b_La_beginCatch 0 = .ok (.aload_n 0, 1) := by decide +kernel
theorem d_La_beginCatch_1 : decode b_La_beginCatch 1 = .ok (.getfield 57, 3) := by decide +kernel
theorem d_La_beginCatch_4 : decode b_La_beginCatch 4 = .ok (.ifCond .eq 7, 3) := by decide +kernel
theorem d_La_beginCatch_7 : decode b_La_beginCatch 7 = .ok (.iconst (-1), 1) := by decide +kernel
theorem d_La_beginCatch_8 : decode b_La_beginCatch 8 = .ok (.goto 28, 3) := by decide +kernel
theorem d_La_beginCatch_11 : decode b_La_beginCatch 11 = .ok (.aload_n 0, 1) := by decide +kernel
theorem d_La_beginCatch_12 : decode b_La_beginCatch 12 = .ok (.getfield 36, 3) := by decide +kernel
theorem d_La_beginCatch_15 : decode b_La_beginCatch 15 = .ok (.aload_n 0, 1) := by decide +kernel
theorem d_La_beginCatch_16 : decode b_La_beginCatch 16 = .ok (.getfield 12, 3) := by decide +kernel
theorem d_La_beginCatch_19 : decode b_La_beginCatch 19 = .ok (.getfield 99, 3) := by decide +kernel
theorem d_La_beginCatch_22 : decode b_La_beginCatch 22 = .ok (.iload_n 2, 1) := by decide +kernel
theorem d_La_beginCatch_23 : decode b_La_beginCatch 23 = .ok (.iaload, 1) := by decide +kernel
theorem d_La_beginCatch_24 : decode b_La_beginCatch 24 = .ok (.aload_n 0, 1) := by decide +kernel
theorem d_La_beginCatch_25 : decode b_La_beginCatch 25 = .ok (.getfield 21, 3) := by decide +kernel
theorem d_La_beginCatch_28 : decode b_La_beginCatch 28 = .ok (.getfield 157, 3) := by decide +kernel
theorem d_La_beginCatch_31 : decode b_La_beginCatch 31 = .ok (.iload_n 1, 1) := by decide +kernel
theorem d_La_beginCatch_32 : decode b_La_beginCatch 32 = .ok (.iaload, 1) := by decide +kernel
theorem d_La_beginCatch_33 : decode b_La_beginCatch 33 = .ok (.invokevirtual 209, 3) := by decide +kernel
theorem d_La_beginCatch_36 : decode b_La_beginCatch 36 = .ok (.istore_n 3, 1) := by decide +kernel
theorem d_La_beginCatch_37 : decode b_La_beginCatch 37 = .ok (.iload_n 3, 1) := by decide +kernel
theorem d_La_beginCatch_38 : decode b_La_beginCatch 38 = .ok (.iconst (-1), 1) := by decide +kernel
theorem d_La_beginCatch_39 : decode b_La_beginCatch 39 = .ok (.if_icmp .ne 15, 3) := by decide +kernel
theorem d_La_beginCatch_42 : decode b_La_beginCatch 42 = .ok (.aload_n 0, 1) := by decide +kernel
theorem d_La_beginCatch_43 : decode b_La_beginCatch 43 = .ok (.getfield 21, 3) := by decide +kernel
theorem d_La_beginCatch_46 : decode b_La_beginCatch 46 = .ok (.getfield 113, 3) := by decide +kernel
theorem d_La_beginCatch_49 : decode b_La_beginCatch 49 = .ok (.iload_n 1, 1) := by decide +kernel
theorem d_La_beginCatch_50 : decode b_La_beginCatch 50 = .ok (.bipush 6, 2) := by decide +kernel
theorem d_La_beginCatch_52 : decode b_La_beginCatch 52 = .ok (.iastore, 1) := by decide +kernel
theorem d_La_beginCatch_53 : decode b_La_beginCatch 53 = .ok (.return_, 1) := by decide +kernel
theorem d_La_beginCatch_54 : decode b_La_beginCatch 54 = .ok (.aload_n 0, 1) := by decide +kernel
theorem d_La_beginCatch_55 : decode b_La_beginCatch 55 = .ok (.getfield 21, 3) := by decide +kernel
theorem d_La_beginCatch_58 : decode b_La_beginCatch 58 = .ok (.getfield 157, 3) := by decide +kernel
theorem d_La_beginCatch_61 : decode b_La_beginCatch 61 = .ok (.iload_n 1, 1) := by decide +kernel
theorem d_La_beginCatch_62 : decode b_La_beginCatch 62 = .ok (.iload_n 3, 1) := by decide +kernel
theorem d_La_beginCatch_63 : decode b_La_beginCatch 63 = .ok (.iastore, 1) := by decide +kernel
theorem d_La_beginCatch_64 : decode b_La_beginCatch 64 = .ok (.aload_n 0, 1) := by decide +kernel
theorem d_La_beginCatch_65 : decode b_La_beginCatch 65 = .ok (.getfield 28, 3) := by decide +kernel
theorem d_La_beginCatch_68 : decode b_La_beginCatch 68 = .ok (.iload_n 2, 1) := by decide +kernel
theorem d_La_beginCatch_69 : decode b_La_beginCatch 69 = .ok (.iload_n 3, 1) := by decide +kernel
theorem d_La_beginCatch_70 : decode b_La_beginCatch 70 = .ok (.aload_n 0, 1) := by decide +kernel
theorem d_La_beginCatch_71 : decode b_La_beginCatch 71 = .ok (.getfield 40, 3) := by decide +kernel
theorem d_La_beginCatch_74 : decode b_La_beginCatch 74 = .ok (.getfield 74, 3) := by decide +kernel
theorem d_La_beginCatch_77 : decode b_La_beginCatch 77 = .ok (.aload_n 0, 1) := by decide +kernel
theorem d_La_beginCatch_78 : decode b_La_beginCatch 78 = .ok (.getfield 12, 3) := by decide +kernel
theorem d_La_beginCatch_81 : decode b_La_beginCatch 81 = .ok (.getfield 212, 3) := by decide +kernel
theorem d_La_beginCatch_84 : decode b_La_beginCatch 84 = .ok (.invokevirtual 215, 3) := by decide +kernel
theorem d_La_beginCatch_87 : decode b_La_beginCatch 87 = .ok (.aload_n 0, 1) := by decide +kernel
theorem d_La_beginCatch_88 : decode b_La_beginCatch 88 = .ok (.bipush 8, 2) := by decide +kernel
theorem d_La_beginCatch_90 : decode b_La_beginCatch 90 = .ok (.aload_n 0, 1) := by decide +kernel
theorem d_La_beginCatch_91 : decode b_La_beginCatch 91 = .ok (.getfield 36, 3) := by decide +kernel
theorem d_La_beginCatch_94 : decode b_La_beginCatch 94 = .ok (.iload_n 3, 1) := by decide +kernel
theorem d_La_beginCatch_95 : decode b_La_beginCatch 95 = .ok (.iconst 2, 1) := by decide +kernel
theorem d_La_beginCatch_96 : decode b_La_beginCatch 96 = .ok (.invokevirtual 141, 3) := by decide +kernel
theorem d_La_beginCatch_99 : decode b_La_beginCatch 99 = .ok (.aload_n 0, 1) := by decide +kernel
theorem d_La_beginCatch_100 : decode b_La_beginCatch 100 = .ok (.getfield 21, 3) := by decide +kernel
theorem d_La_beginCatch_103 : decode b_La_beginCatch 103 = .ok (.getfield 154, 3) := by decide +kernel
theorem d_La_beginCatch_106 : decode b_La_beginCatch 106 = .ok (.iload_n 1, 1) := by decide +kernel
theorem d_La_beginCatch_107 : decode b_La_beginCatch 107 = .ok (.iaload, 1) := by decide +kernel
theorem d_La_beginCatch_108 : decode b_La_beginCatch 108 = .ok (.invokevirtual 95, 3) := by decide +kernel
theorem d_La_beginCatch_111 : decode b_La_beginCatch 111 = .ok (.aload_n 0, 1) := by decide +kernel
theorem d_La_beginCatch_112 : decode b_La_beginCatch 112 = .ok (.aload_n 0, 1) := by decide +kernel
theorem d_La_beginCatch_113 : decode b_La_beginCatch 113 = .ok (.getfield 36, 3) := by decide +kernel
theorem d_La_beginCatch_116 : decode b_La_beginCatch 116 = .ok (.iload_n 3, 1) := by decide +kernel
theorem d_La_beginCatch_117 : decode b_La_beginCatch 117 = .ok (.iconst 3, 1) := by decide +kernel
theorem d_La_beginCatch_118 : decode b_La_beginCatch 118 = .ok (.invokevirtual 141, 3) := by decide +kernel
theorem d_La_beginCatch_121 : decode b_La_beginCatch 121 = .ok (.aload_n 0, 1) := by decide +kernel
theorem d_La_beginCatch_122 : decode b_La_beginCatch 122 = .ok (.getfield 21, 3) := by decide +kernel
theorem d_La_beginCatch_125 : decode b_La_beginCatch 125 = .ok (.getfield 154, 3) := by decide +kernel
theorem d_La_beginCatch_128 : decode b_La_beginCatch 128 = .ok (.iload_n 1, 1) := by decide +kernel
theorem d_La_beginCatch_129 : decode b_La_beginCatch 129 = .ok (.iaload, 1) := by decide +kernel
theorem d_La_beginCatch_130 : decode b_La_beginCatch 130 = .ok (.invokevirtual 86, 3) := by decide +kernel
theorem d_La_beginCatch_133 : decode b_La_beginCatch 133 = .ok (.return_, 1) := by decide +kernel
theorem d_La_beginFinally_0 : decode b_La_beginFinally 0 = .ok (.aload_n 0, 1) := by decide +kernel
theorem d_La_beginFinally_1 : decode b_La_beginFinally 1 = .ok (.getfield 12, 3) := by decide +kernel
theorem d_La_beginFinally_4 : decode b_La_beginFinally 4 = .ok (.getfield 187, 3) := by decide +kernel
theorem d_La_beginFinally_7 : decode b_La_beginFinally 7 = .ok (.iload_n 1, 1) := by decide +kernel
theorem d_La_beginFinally_8 : decode b_La_beginFinally 8 = .ok (.iaload, 1) := by decide +kernel
theorem d_La_beginFinally_9 : decode b_La_beginFinally 9 = .ok (.iconst (-1), 1) := by decide +kernel
theorem d_La_beginFinally_10 : decode b_La_beginFinally 10 = .ok (.if_icmp .eq 21, 3) := by decide +kernel
theorem d_La_beginFinally_13 : decode b_La_beginFinally 13 = .ok (.aload_n 0, 1) := by decide +kernel
theorem d_La_beginFinally_14 : decode b_La_beginFinally 14 = .ok (.aload_n 0, 1) := by decide +kernel
theorem d_La_beginFinally_15 : decode b_La_beginFinally 15 = .ok (.getfield 12, 3) := by decide +kernel
theorem d_La_beginFinally_18 : decode b_La_beginFinally 18 = .ok (.getfield 187, 3) := by decide +kernel
theorem d_La_beginFinally_21 : decode b_La_beginFinally 21 = .ok (.iload_n 1, 1) := by decide +kernel
theorem d_La_beginFinally_22 : decode b_La_beginFinally 22 = .ok (.iaload, 1) := by decide +kernel
theorem d_La_beginFinally_23 : decode b_La_beginFinally 23 = .ok (.iload_n 1, 1) := by decide +kernel
theorem d_La_beginFinally_24 : decode b_La_beginFinally 24 = .ok (.iconst 2, 1) := by decide +kernel
theorem d_La_beginFinally_25 : decode b_La_beginFinally 25 = .ok (.invokestatic 102, 3) := by decide +kernel
theorem d_La_beginFinally_28 : decode b_La_beginFinally 28 = .ok (.invokevirtual 86, 3) := by decide +kernel
theorem d_La_beginFinally_31 : decode b_La_beginFinally 31 = .ok (.return_, 1) := by decide +kernel
