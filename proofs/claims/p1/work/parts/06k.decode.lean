theorem d_Mo_goesOn_0 : decode b_Mo_goesOn 0 = .ok (.aload_n 0, 1) := by decide +kernel
theorem d_Mo_goesOn_1 : decode b_Mo_goesOn 1 = .ok (.getfield 173, 3) := by decide +kernel
theorem d_Mo_goesOn_4 : decode b_Mo_goesOn 4 = .ok (.iconst 1, 1) := by decide +kernel
theorem d_Mo_goesOn_5 : decode b_Mo_goesOn 5 = .ok (.isub, 1) := by decide +kernel
theorem d_Mo_goesOn_6 : decode b_Mo_goesOn 6 = .ok (.istore_n 1, 1) := by decide +kernel
theorem d_Mo_goesOn_7 : decode b_Mo_goesOn 7 = .ok (.aload_n 0, 1) := by decide +kernel
theorem d_Mo_goesOn_8 : decode b_Mo_goesOn 8 = .ok (.getfield 7, 3) := by decide +kernel
theorem d_Mo_goesOn_11 : decode b_Mo_goesOn 11 = .ok (.aload_n 0, 1) := by decide +kernel
theorem d_Mo_goesOn_12 : decode b_Mo_goesOn 12 = .ok (.getfield 82, 3) := by decide +kernel
theorem d_Mo_goesOn_15 : decode b_Mo_goesOn 15 = .ok (.iload_n 1, 1) := by decide +kernel
theorem d_Mo_goesOn_16 : decode b_Mo_goesOn 16 = .ok (.iaload, 1) := by decide +kernel
theorem d_Mo_goesOn_17 : decode b_Mo_goesOn 17 = .ok (.iaload, 1) := by decide +kernel
theorem d_Mo_goesOn_18 : decode b_Mo_goesOn 18 = .ok (.istore_n 2, 1) := by decide +kernel
theorem d_Mo_goesOn_19 : decode b_Mo_goesOn 19 = .ok (.aload_n 0, 1) := by decide +kernel
theorem d_Mo_goesOn_20 : decode b_Mo_goesOn 20 = .ok (.getfield 94, 3) := by decide +kernel
theorem d_Mo_goesOn_23 : decode b_Mo_goesOn 23 = .ok (.iload_n 1, 1) := by decide +kernel
theorem d_Mo_goesOn_24 : decode b_Mo_goesOn 24 = .ok (.dup2, 1) := by decide +kernel
theorem d_Mo_goesOn_25 : decode b_Mo_goesOn 25 = .ok (.iaload, 1) := by decide +kernel
theorem d_Mo_goesOn_26 : decode b_Mo_goesOn 26 = .ok (.iconst 1, 1) := by decide +kernel
theorem d_Mo_goesOn_27 : decode b_Mo_goesOn 27 = .ok (.iadd, 1) := by decide +kernel
theorem d_Mo_goesOn_28 : decode b_Mo_goesOn 28 = .ok (.iastore, 1) := by decide +kernel
theorem d_Mo_goesOn_29 : decode b_Mo_goesOn 29 = .ok (.iload_n 2, 1) := by decide +kernel
theorem d_Mo_goesOn_30 : decode b_Mo_goesOn 30 = .ok (.bipush 8, 2) := by decide +kernel
theorem d_Mo_goesOn_32 : decode b_Mo_goesOn 32 = .ok (.if_icmp .ge 12, 3) := by decide +kernel
theorem d_Mo_goesOn_35 : decode b_Mo_goesOn 35 = .ok (.aload_n 0, 1) := by decide +kernel
theorem d_Mo_goesOn_36 : decode b_Mo_goesOn 36 = .ok (.iload_n 1, 1) := by decide +kernel
theorem d_Mo_goesOn_37 : decode b_Mo_goesOn 37 = .ok (.iload_n 2, 1) := by decide +kernel
theorem d_Mo_goesOn_38 : decode b_Mo_goesOn 38 = .ok (.invokevirtual 183, 3) := by decide +kernel
theorem d_Mo_goesOn_41 : decode b_Mo_goesOn 41 = .ok (.goto 69, 3) := by decide +kernel
theorem d_Mo_goesOn_44 : decode b_Mo_goesOn 44 = .ok (.iload_n 2, 1) := by decide +kernel
theorem d_Mo_goesOn_45 : decode b_Mo_goesOn 45 = .ok (.bipush 18, 2) := by decide +kernel
theorem d_Mo_goesOn_47 : decode b_Mo_goesOn 47 = .ok (.if_icmp .ne 22, 3) := by decide +kernel
theorem d_Mo_goesOn_50 : decode b_Mo_goesOn 50 = .ok (.aload_n 0, 1) := by decide +kernel
theorem d_Mo_goesOn_51 : decode b_Mo_goesOn 51 = .ok (.getfield 94, 3) := by decide +kernel
theorem d_Mo_goesOn_54 : decode b_Mo_goesOn 54 = .ok (.iload_n 1, 1) := by decide +kernel
theorem d_Mo_goesOn_55 : decode b_Mo_goesOn 55 = .ok (.iaload, 1) := by decide +kernel
theorem d_Mo_goesOn_56 : decode b_Mo_goesOn 56 = .ok (.bipush 100, 2) := by decide +kernel
theorem d_Mo_goesOn_58 : decode b_Mo_goesOn 58 = .ok (.if_icmp .le 11, 3) := by decide +kernel
theorem d_Mo_goesOn_61 : decode b_Mo_goesOn 61 = .ok (.aload_n 0, 1) := by decide +kernel
theorem d_Mo_goesOn_62 : decode b_Mo_goesOn 62 = .ok (.iload_n 1, 1) := by decide +kernel
theorem d_Mo_goesOn_63 : decode b_Mo_goesOn 63 = .ok (.invokevirtual 187, 3) := by decide +kernel
theorem d_Mo_goesOn_66 : decode b_Mo_goesOn 66 = .ok (.goto 44, 3) := by decide +kernel
theorem d_Mo_goesOn_69 : decode b_Mo_goesOn 69 = .ok (.iload_n 2, 1) := by decide +kernel
theorem d_Mo_goesOn_70 : decode b_Mo_goesOn 70 = .ok (.bipush 18, 2) := by decide +kernel
theorem d_Mo_goesOn_72 : decode b_Mo_goesOn 72 = .ok (.if_icmp .ne 11, 3) := by decide +kernel
theorem d_Mo_goesOn_75 : decode b_Mo_goesOn 75 = .ok (.aload_n 0, 1) := by decide +kernel
theorem d_Mo_goesOn_76 : decode b_Mo_goesOn 76 = .ok (.iload_n 1, 1) := by decide +kernel
theorem d_Mo_goesOn_77 : decode b_Mo_goesOn 77 = .ok (.invokevirtual 191, 3) := by decide +kernel
theorem d_Mo_goesOn_80 : decode b_Mo_goesOn 80 = .ok (.goto 30, 3) := by decide +kernel
theorem d_Mo_goesOn_83 : decode b_Mo_goesOn 83 = .ok (.iload_n 2, 1) := by decide +kernel
theorem d_Mo_goesOn_84 : decode b_Mo_goesOn 84 = .ok (.bipush 16, 2) := by decide +kernel
theorem d_Mo_goesOn_86 : decode b_Mo_goesOn 86 = .ok (.if_icmp .eq 9, 3) := by decide +kernel
theorem d_Mo_goesOn_89 : decode b_Mo_goesOn 89 = .ok (.iload_n 2, 1) := by decide +kernel
theorem d_Mo_goesOn_90 : decode b_Mo_goesOn 90 = .ok (.bipush 17, 2) := by decide +kernel
theorem d_Mo_goesOn_92 : decode b_Mo_goesOn 92 = .ok (.if_icmp .ne 12, 3) := by decide +kernel
theorem d_Mo_goesOn_95 : decode b_Mo_goesOn 95 = .ok (.aload_n 0, 1) := by decide +kernel
theorem d_Mo_goesOn_96 : decode b_Mo_goesOn 96 = .ok (.iload_n 1, 1) := by decide +kernel
theorem d_Mo_goesOn_97 : decode b_Mo_goesOn 97 = .ok (.iload_n 2, 1) := by decide +kernel
theorem d_Mo_goesOn_98 : decode b_Mo_goesOn 98 = .ok (.invokevirtual 194, 3) := by decide +kernel
theorem d_Mo_goesOn_101 : decode b_Mo_goesOn 101 = .ok (.goto 9, 3) := by decide +kernel
theorem d_Mo_goesOn_104 : decode b_Mo_goesOn 104 = .ok (.aload_n 0, 1) := by decide +kernel
theorem d_Mo_goesOn_105 : decode b_Mo_goesOn 105 = .ok (.iload_n 1, 1) := by decide +kernel
theorem d_Mo_goesOn_106 : decode b_Mo_goesOn 106 = .ok (.iload_n 2, 1) := by decide +kernel
theorem d_Mo_goesOn_107 : decode b_Mo_goesOn 107 = .ok (.invokevirtual 197, 3) := by decide +kernel
theorem d_Mo_goesOn_110 : decode b_Mo_goesOn 110 = .ok (.return_, 1) := by decide +kernel
theorem d_Mo_laysAll_0 : decode b_Mo_laysAll 0 = .ok (.iconst 0, 1) := by decide +kernel
theorem d_Mo_laysAll_1 : decode b_Mo_laysAll 1 = .ok (.istore_n 1, 1) := by decide +kernel
theorem d_Mo_laysAll_2 : decode b_Mo_laysAll 2 = .ok (.iload_n 1, 1) := by decide +kernel
theorem d_Mo_laysAll_3 : decode b_Mo_laysAll 3 = .ok (.bipush 6, 2) := by decide +kernel
theorem d_Mo_laysAll_5 : decode b_Mo_laysAll 5 = .ok (.if_icmp .ge 148, 3) := by decide +kernel
theorem d_Mo_laysAll_8 : decode b_Mo_laysAll 8 = .ok (.aload_n 0, 1) := by decide +kernel
theorem d_Mo_laysAll_9 : decode b_Mo_laysAll 9 = .ok (.getfield 167, 3) := by decide +kernel
theorem d_Mo_laysAll_12 : decode b_Mo_laysAll 12 = .ok (.ifCond .ne 141, 3) := by decide +kernel
theorem d_Mo_laysAll_15 : decode b_Mo_laysAll 15 = .ok (.aload_n 0, 1) := by decide +kernel
theorem d_Mo_laysAll_16 : decode b_Mo_laysAll 16 = .ok (.getfield 222, 3) := by decide +kernel
theorem d_Mo_laysAll_19 : decode b_Mo_laysAll 19 = .ok (.ifCond .ne 134, 3) := by decide +kernel
theorem d_Mo_laysAll_22 : decode b_Mo_laysAll 22 = .ok (.aload_n 0, 1) := by decide +kernel
theorem d_Mo_laysAll_23 : decode b_Mo_laysAll 23 = .ok (.getfield 55, 3) := by decide +kernel
theorem d_Mo_laysAll_26 : decode b_Mo_laysAll 26 = .ok (.iload_n 1, 1) := by decide +kernel
theorem d_Mo_laysAll_27 : decode b_Mo_laysAll 27 = .ok (.aload_n 0, 1) := by decide +kernel
theorem d_Mo_laysAll_28 : decode b_Mo_laysAll 28 = .ok (.getfield 164, 3) := by decide +kernel
theorem d_Mo_laysAll_31 : decode b_Mo_laysAll 31 = .ok (.iastore, 1) := by decide +kernel
theorem d_Mo_laysAll_32 : decode b_Mo_laysAll 32 = .ok (.aload_n 0, 1) := by decide +kernel
theorem d_Mo_laysAll_33 : decode b_Mo_laysAll 33 = .ok (.iconst 0, 1) := by decide +kernel
theorem d_Mo_laysAll_34 : decode b_Mo_laysAll 34 = .ok (.putfield 173, 3) := by decide +kernel
theorem d_Mo_laysAll_37 : decode b_Mo_laysAll 37 = .ok (.aload_n 0, 1) := by decide +kernel
theorem d_Mo_laysAll_38 : decode b_Mo_laysAll 38 = .ok (.getfield 231, 3) := by decide +kernel
theorem d_Mo_laysAll_41 : decode b_Mo_laysAll 41 = .ok (.istore_n 2, 1) := by decide +kernel
theorem d_Mo_laysAll_42 : decode b_Mo_laysAll 42 = .ok (.aload_n 0, 1) := by decide +kernel
theorem d_Mo_laysAll_43 : decode b_Mo_laysAll 43 = .ok (.getfield 28, 3) := by decide +kernel
theorem d_Mo_laysAll_46 : decode b_Mo_laysAll 46 = .ok (.iload_n 1, 1) := by decide +kernel
theorem d_Mo_laysAll_47 : decode b_Mo_laysAll 47 = .ok (.iaload, 1) := by decide +kernel
theorem d_Mo_laysAll_48 : decode b_Mo_laysAll 48 = .ok (.iconst (-1), 1) := by decide +kernel
theorem d_Mo_laysAll_49 : decode b_Mo_laysAll 49 = .ok (.if_icmp .eq 16, 3) := by decide +kernel
theorem d_Mo_laysAll_52 : decode b_Mo_laysAll 52 = .ok (.aload_n 0, 1) := by decide +kernel
theorem d_Mo_laysAll_53 : decode b_Mo_laysAll 53 = .ok (.aload_n 0, 1) := by decide +kernel
theorem d_Mo_laysAll_54 : decode b_Mo_laysAll 54 = .ok (.getfield 28, 3) := by decide +kernel
theorem d_Mo_laysAll_57 : decode b_Mo_laysAll 57 = .ok (.iload_n 1, 1) := by decide +kernel
theorem d_Mo_laysAll_58 : decode b_Mo_laysAll 58 = .ok (.iaload, 1) := by decide +kernel
theorem d_Mo_laysAll_59 : decode b_Mo_laysAll 59 = .ok (.iconst (-1), 1) := by decide +kernel
theorem d_Mo_laysAll_60 : decode b_Mo_laysAll 60 = .ok (.iconst 0, 1) := by decide +kernel
theorem d_Mo_laysAll_61 : decode b_Mo_laysAll 61 = .ok (.iconst 0, 1) := by decide +kernel
theorem d_Mo_laysAll_62 : decode b_Mo_laysAll 62 = .ok (.invokevirtual 176, 3) := by decide +kernel
theorem d_Mo_laysAll_65 : decode b_Mo_laysAll 65 = .ok (.iconst 0, 1) := by decide +kernel
theorem d_Mo_laysAll_66 : decode b_Mo_laysAll 66 = .ok (.istore_n 3, 1) := by decide +kernel
theorem d_Mo_laysAll_67 : decode b_Mo_laysAll 67 = .ok (.aload_n 0, 1) := by decide +kernel
theorem d_Mo_laysAll_68 : decode b_Mo_laysAll 68 = .ok (.getfield 167, 3) := by decide +kernel
theorem d_Mo_laysAll_71 : decode b_Mo_laysAll 71 = .ok (.ifCond .ne 76, 3) := by decide +kernel
theorem d_Mo_laysAll_74 : decode b_Mo_laysAll 74 = .ok (.aload_n 0, 1) := by decide +kernel
theorem d_Mo_laysAll_75 : decode b_Mo_laysAll 75 = .ok (.getfield 222, 3) := by decide +kernel
theorem d_Mo_laysAll_78 : decode b_Mo_laysAll 78 = .ok (.ifCond .ne 69, 3) := by decide +kernel
theorem d_Mo_laysAll_81 : decode b_Mo_laysAll 81 = .ok (.aload_n 0, 1) := by decide +kernel
theorem d_Mo_laysAll_82 : decode b_Mo_laysAll 82 = .ok (.getfield 173, 3) := by decide +kernel
theorem d_Mo_laysAll_85 : decode b_Mo_laysAll 85 = .ok (.ifCond .gt 15, 3) := by decide +kernel
theorem d_Mo_laysAll_88 : decode b_Mo_laysAll 88 = .ok (.iload_n 3, 1) := by decide +kernel
theorem d_Mo_laysAll_89 : decode b_Mo_laysAll 89 = .ok (.ifCond .eq 11, 3) := by decide +kernel
theorem d_Mo_laysAll_92 : decode b_Mo_laysAll 92 = .ok (.iload_n 2, 1) := by decide +kernel
theorem d_Mo_laysAll_93 : decode b_Mo_laysAll 93 = .ok (.aload_n 0, 1) := by decide +kernel
theorem d_Mo_laysAll_94 : decode b_Mo_laysAll 94 = .ok (.getfield 231, 3) := by decide +kernel
theorem d_Mo_laysAll_97 : decode b_Mo_laysAll 97 = .ok (.if_icmp .ge 50, 3) := by decide +kernel
theorem d_Mo_laysAll_100 : decode b_Mo_laysAll 100 = .ok (.aload_n 0, 1) := by decide +kernel
theorem d_Mo_laysAll_101 : decode b_Mo_laysAll 101 = .ok (.getfield 173, 3) := by decide +kernel
theorem d_Mo_laysAll_104 : decode b_Mo_laysAll 104 = .ok (.ifCond .le 10, 3) := by decide +kernel
theorem d_Mo_laysAll_107 : decode b_Mo_laysAll 107 = .ok (.aload_n 0, 1) := by decide +kernel
theorem d_Mo_laysAll_108 : decode b_Mo_laysAll 108 = .ok (.invokevirtual 260, 3) := by decide +kernel
theorem d_Mo_laysAll_111 : decode b_Mo_laysAll 111 = .ok (.goto (-44), 3) := by decide +kernel
theorem d_Mo_laysAll_114 : decode b_Mo_laysAll 114 = .ok (.iload_n 3, 1) := by decide +kernel
theorem d_Mo_laysAll_115 : decode b_Mo_laysAll 115 = .ok (.ifCond .ne 16, 3) := by decide +kernel
theorem d_Mo_laysAll_118 : decode b_Mo_laysAll 118 = .ok (.aload_n 0, 1) := by decide +kernel
theorem d_Mo_laysAll_119 : decode b_Mo_laysAll 119 = .ok (.bipush 14, 2) := by decide +kernel
theorem d_Mo_laysAll_121 : decode b_Mo_laysAll 121 = .ok (.iconst 0, 1) := by decide +kernel
theorem d_Mo_laysAll_122 : decode b_Mo_laysAll 122 = .ok (.iconst (-1), 1) := by decide +kernel
theorem d_Mo_laysAll_123 : decode b_Mo_laysAll 123 = .ok (.invokevirtual 200, 3) := by decide +kernel
theorem d_Mo_laysAll_126 : decode b_Mo_laysAll 126 = .ok (.iconst 1, 1) := by decide +kernel
theorem d_Mo_laysAll_127 : decode b_Mo_laysAll 127 = .ok (.istore_n 3, 1) := by decide +kernel
theorem d_Mo_laysAll_128 : decode b_Mo_laysAll 128 = .ok (.goto (-61), 3) := by decide +kernel
theorem d_Mo_laysAll_131 : decode b_Mo_laysAll 131 = .ok (.aload_n 0, 1) := by decide +kernel
theorem d_Mo_laysAll_132 : decode b_Mo_laysAll 132 = .ok (.aload_n 0, 1) := by decide +kernel
theorem d_Mo_laysAll_133 : decode b_Mo_laysAll 133 = .ok (.getfield 79, 3) := by decide +kernel
theorem d_Mo_laysAll_136 : decode b_Mo_laysAll 136 = .ok (.iload_n 2, 1) := by decide +kernel
theorem d_Mo_laysAll_137 : decode b_Mo_laysAll 137 = .ok (.iaload, 1) := by decide +kernel
theorem d_Mo_laysAll_138 : decode b_Mo_laysAll 138 = .ok (.invokevirtual 263, 3) := by decide +kernel
theorem d_Mo_laysAll_141 : decode b_Mo_laysAll 141 = .ok (.iinc 2 1, 3) := by decide +kernel
theorem d_Mo_laysAll_144 : decode b_Mo_laysAll 144 = .ok (.goto (-77), 3) := by decide +kernel
theorem d_Mo_laysAll_147 : decode b_Mo_laysAll 147 = .ok (.iinc 1 1, 3) := by decide +kernel
theorem d_Mo_laysAll_150 : decode b_Mo_laysAll 150 = .ok (.goto (-148), 3) := by decide +kernel
theorem d_Mo_laysAll_153 : decode b_Mo_laysAll 153 = .ok (.return_, 1) := by decide +kernel
theorem d_Mo_lay_0 : decode b_Mo_lay 0 = .ok (.aload_n 0, 1) := by decide +kernel
theorem d_Mo_lay_1 : decode b_Mo_lay 1 = .ok (.iconst 0, 1) := by decide +kernel
theorem d_Mo_lay_2 : decode b_Mo_lay 2 = .ok (.putfield 125, 3) := by decide +kernel
theorem d_Mo_lay_5 : decode b_Mo_lay 5 = .ok (.aload_n 0, 1) := by decide +kernel
theorem d_Mo_lay_6 : decode b_Mo_lay 6 = .ok (.iload_n 1, 1) := by decide +kernel
theorem d_Mo_lay_7 : decode b_Mo_lay 7 = .ok (.putfield 156, 3) := by decide +kernel
theorem d_Mo_lay_10 : decode b_Mo_lay 10 = .ok (.aload_n 0, 1) := by decide +kernel
theorem d_Mo_lay_11 : decode b_Mo_lay 11 = .ok (.iconst 0, 1) := by decide +kernel
theorem d_Mo_lay_12 : decode b_Mo_lay 12 = .ok (.putfield 266, 3) := by decide +kernel
theorem d_Mo_lay_15 : decode b_Mo_lay 15 = .ok (.aload_n 0, 1) := by decide +kernel
theorem d_Mo_lay_16 : decode b_Mo_lay 16 = .ok (.iconst 0, 1) := by decide +kernel
theorem d_Mo_lay_17 : decode b_Mo_lay 17 = .ok (.putfield 167, 3) := by decide +kernel
theorem d_Mo_lay_20 : decode b_Mo_lay 20 = .ok (.aload_n 0, 1) := by decide +kernel
theorem d_Mo_lay_21 : decode b_Mo_lay 21 = .ok (.iconst 0, 1) := by decide +kernel
theorem d_Mo_lay_22 : decode b_Mo_lay 22 = .ok (.putfield 222, 3) := by decide +kernel
theorem d_Mo_lay_25 : decode b_Mo_lay 25 = .ok (.aload_n 0, 1) := by decide +kernel
theorem d_Mo_lay_26 : decode b_Mo_lay 26 = .ok (.iconst 0, 1) := by decide +kernel
theorem d_Mo_lay_27 : decode b_Mo_lay 27 = .ok (.putfield 164, 3) := by decide +kernel
theorem d_Mo_lay_30 : decode b_Mo_lay 30 = .ok (.aload_n 0, 1) := by decide +kernel
theorem d_Mo_lay_31 : decode b_Mo_lay 31 = .ok (.iconst 0, 1) := by decide +kernel
theorem d_Mo_lay_32 : decode b_Mo_lay 32 = .ok (.putfield 244, 3) := by decide +kernel
theorem d_Mo_lay_35 : decode b_Mo_lay 35 = .ok (.aload_n 0, 1) := by decide +kernel
theorem d_Mo_lay_36 : decode b_Mo_lay 36 = .ok (.iconst 0, 1) := by decide +kernel
theorem d_Mo_lay_37 : decode b_Mo_lay 37 = .ok (.putfield 170, 3) := by decide +kernel
theorem d_Mo_lay_40 : decode b_Mo_lay 40 = .ok (.aload_n 0, 1) := by decide +kernel
theorem d_Mo_lay_41 : decode b_Mo_lay 41 = .ok (.iconst (-1), 1) := by decide +kernel
theorem d_Mo_lay_42 : decode b_Mo_lay 42 = .ok (.putfield 241, 3) := by decide +kernel
theorem d_Mo_lay_45 : decode b_Mo_lay 45 = .ok (.aload_n 0, 1) := by decide +kernel
theorem d_Mo_lay_46 : decode b_Mo_lay 46 = .ok (.iconst 0, 1) := by decide +kernel
theorem d_Mo_lay_47 : decode b_Mo_lay 47 = .ok (.putfield 180, 3) := by decide +kernel
theorem d_Mo_lay_50 : decode b_Mo_lay 50 = .ok (.aload_n 0, 1) := by decide +kernel
theorem d_Mo_lay_51 : decode b_Mo_lay 51 = .ok (.iconst 0, 1) := by decide +kernel
theorem d_Mo_lay_52 : decode b_Mo_lay 52 = .ok (.putfield 238, 3) := by decide +kernel
theorem d_Mo_lay_55 : decode b_Mo_lay 55 = .ok (.aload_n 0, 1) := by decide +kernel
theorem d_Mo_lay_56 : decode b_Mo_lay 56 = .ok (.iconst 0, 1) := by decide +kernel
theorem d_Mo_lay_57 : decode b_Mo_lay 57 = .ok (.putfield 231, 3) := by decide +kernel
theorem d_Mo_lay_60 : decode b_Mo_lay 60 = .ok (.aload_n 0, 1) := by decide +kernel
theorem d_Mo_lay_61 : decode b_Mo_lay 61 = .ok (.invokevirtual 269, 3) := by decide +kernel
theorem d_Mo_lay_64 : decode b_Mo_lay 64 = .ok (.sipush 150, 3) := by decide +kernel
theorem d_Mo_lay_67 : decode b_Mo_lay 67 = .ok (.istore_n 2, 1) := by decide +kernel
theorem d_Mo_lay_68 : decode b_Mo_lay 68 = .ok (.iload_n 2, 1) := by decide +kernel
theorem d_Mo_lay_69 : decode b_Mo_lay 69 = .ok (.ifCond .lt 70, 3) := by decide +kernel
theorem d_Mo_lay_72 : decode b_Mo_lay 72 = .ok (.aload_n 0, 1) := by decide +kernel
theorem d_Mo_lay_73 : decode b_Mo_lay 73 = .ok (.getfield 167, 3) := by decide +kernel
theorem d_Mo_lay_76 : decode b_Mo_lay 76 = .ok (.ifCond .ne 63, 3) := by decide +kernel
theorem d_Mo_lay_79 : decode b_Mo_lay 79 = .ok (.aload_n 0, 1) := by decide +kernel
theorem d_Mo_lay_80 : decode b_Mo_lay 80 = .ok (.getfield 222, 3) := by decide +kernel
theorem d_Mo_lay_83 : decode b_Mo_lay 83 = .ok (.ifCond .ne 56, 3) := by decide +kernel
theorem d_Mo_lay_86 : decode b_Mo_lay 86 = .ok (.iconst 0, 1) := by decide +kernel
theorem d_Mo_lay_87 : decode b_Mo_lay 87 = .ok (.istore_n 3, 1) := by decide +kernel
theorem d_Mo_lay_88 : decode b_Mo_lay 88 = .ok (.iload_n 3, 1) := by decide +kernel
theorem d_Mo_lay_89 : decode b_Mo_lay 89 = .ok (.aload_n 0, 1) := by decide +kernel
theorem d_Mo_lay_90 : decode b_Mo_lay 90 = .ok (.getfield 180, 3) := by decide +kernel
theorem d_Mo_lay_93 : decode b_Mo_lay 93 = .ok (.if_icmp .ge 40, 3) := by decide +kernel
theorem d_Mo_lay_96 : decode b_Mo_lay 96 = .ok (.aload_n 0, 1) := by decide +kernel
theorem d_Mo_lay_97 : decode b_Mo_lay 97 = .ok (.getfield 7, 3) := by decide +kernel
theorem d_Mo_lay_100 : decode b_Mo_lay 100 = .ok (.aload_n 0, 1) := by decide +kernel
theorem d_Mo_lay_101 : decode b_Mo_lay 101 = .ok (.getfield 58, 3) := by decide +kernel
theorem d_Mo_lay_104 : decode b_Mo_lay 104 = .ok (.iload_n 3, 1) := by decide +kernel
theorem d_Mo_lay_105 : decode b_Mo_lay 105 = .ok (.iaload, 1) := by decide +kernel
theorem d_Mo_lay_106 : decode b_Mo_lay 106 = .ok (.iaload, 1) := by decide +kernel
theorem d_Mo_lay_107 : decode b_Mo_lay 107 = .ok (.bipush 18, 2) := by decide +kernel
theorem d_Mo_lay_109 : decode b_Mo_lay 109 = .ok (.if_icmp .ne 18, 3) := by decide +kernel
theorem d_Mo_lay_112 : decode b_Mo_lay 112 = .ok (.aload_n 0, 1) := by decide +kernel
theorem d_Mo_lay_113 : decode b_Mo_lay 113 = .ok (.getfield 64, 3) := by decide +kernel
theorem d_Mo_lay_116 : decode b_Mo_lay 116 = .ok (.iload_n 3, 1) := by decide +kernel
theorem d_Mo_lay_117 : decode b_Mo_lay 117 = .ok (.iaload, 1) := by decide +kernel
theorem d_Mo_lay_118 : decode b_Mo_lay 118 = .ok (.iload_n 2, 1) := by decide +kernel
theorem d_Mo_lay_119 : decode b_Mo_lay 119 = .ok (.if_icmp .ne 8, 3) := by decide +kernel
theorem d_Mo_lay_122 : decode b_Mo_lay 122 = .ok (.aload_n 0, 1) := by decide +kernel
theorem d_Mo_lay_123 : decode b_Mo_lay 123 = .ok (.iload_n 3, 1) := by decide +kernel
theorem d_Mo_lay_124 : decode b_Mo_lay 124 = .ok (.invokevirtual 272, 3) := by decide +kernel
theorem d_Mo_lay_127 : decode b_Mo_lay 127 = .ok (.iinc 3 1, 3) := by decide +kernel
theorem d_Mo_lay_130 : decode b_Mo_lay 130 = .ok (.goto (-42), 3) := by decide +kernel
theorem d_Mo_lay_133 : decode b_Mo_lay 133 = .ok (.iinc 2 (-1), 3) := by decide +kernel
theorem d_Mo_lay_136 : decode b_Mo_lay 136 = .ok (.goto (-68), 3) := by decide +kernel
theorem d_Mo_lay_139 : decode b_Mo_lay 139 = .ok (.aload_n 0, 1) := by decide +kernel
theorem d_Mo_lay_140 : decode b_Mo_lay 140 = .ok (.aload_n 0, 1) := by decide +kernel
theorem d_Mo_lay_141 : decode b_Mo_lay 141 = .ok (.getfield 167, 3) := by decide +kernel
theorem d_Mo_lay_144 : decode b_Mo_lay 144 = .ok (.ifCond .ne 14, 3) := by decide +kernel
theorem d_Mo_lay_147 : decode b_Mo_lay 147 = .ok (.aload_n 0, 1) := by decide +kernel
theorem d_Mo_lay_148 : decode b_Mo_lay 148 = .ok (.getfield 222, 3) := by decide +kernel
theorem d_Mo_lay_151 : decode b_Mo_lay 151 = .ok (.ifCond .ne 7, 3) := by decide +kernel
theorem d_Mo_lay_154 : decode b_Mo_lay 154 = .ok (.iconst 1, 1) := by decide +kernel
theorem d_Mo_lay_155 : decode b_Mo_lay 155 = .ok (.goto 4, 3) := by decide +kernel
theorem d_Mo_lay_158 : decode b_Mo_lay 158 = .ok (.iconst 0, 1) := by decide +kernel
theorem d_Mo_lay_159 : decode b_Mo_lay 159 = .ok (.putfield 266, 3) := by decide +kernel
theorem d_Mo_lay_162 : decode b_Mo_lay 162 = .ok (.aload_n 0, 1) := by decide +kernel
theorem d_Mo_lay_163 : decode b_Mo_lay 163 = .ok (.getfield 222, 3) := by decide +kernel
theorem d_Mo_lay_166 : decode b_Mo_lay 166 = .ok (.ifCond .eq 8, 3) := by decide +kernel
theorem d_Mo_lay_169 : decode b_Mo_lay 169 = .ok (.bipush (-3), 2) := by decide +kernel
theorem d_Mo_lay_171 : decode b_Mo_lay 171 = .ok (.goto 19, 3) := by decide +kernel
theorem d_Mo_lay_174 : decode b_Mo_lay 174 = .ok (.aload_n 0, 1) := by decide +kernel
theorem d_Mo_lay_175 : decode b_Mo_lay 175 = .ok (.getfield 167, 3) := by decide +kernel
theorem d_Mo_lay_178 : decode b_Mo_lay 178 = .ok (.ifCond .eq 8, 3) := by decide +kernel
theorem d_Mo_lay_181 : decode b_Mo_lay 181 = .ok (.bipush (-2), 2) := by decide +kernel
theorem d_Mo_lay_183 : decode b_Mo_lay 183 = .ok (.goto 7, 3) := by decide +kernel
theorem d_Mo_lay_186 : decode b_Mo_lay 186 = .ok (.aload_n 0, 1) := by decide +kernel
theorem d_Mo_lay_187 : decode b_Mo_lay 187 = .ok (.getfield 164, 3) := by decide +kernel
theorem d_Mo_lay_190 : decode b_Mo_lay 190 = .ok (.ireturn, 1) := by decide +kernel
theorem d_Mo_laid_0 : decode b_Mo_laid 0 = .ok (.aload_n 0, 1) := by decide +kernel
theorem d_Mo_laid_1 : decode b_Mo_laid 1 = .ok (.iconst 0, 1) := by decide +kernel
theorem d_Mo_laid_2 : decode b_Mo_laid 2 = .ok (.putfield 125, 3) := by decide +kernel
theorem d_Mo_laid_5 : decode b_Mo_laid 5 = .ok (.aload_n 0, 1) := by decide +kernel
theorem d_Mo_laid_6 : decode b_Mo_laid 6 = .ok (.getfield 266, 3) := by decide +kernel
theorem d_Mo_laid_9 : decode b_Mo_laid 9 = .ok (.ifCond .ne 5, 3) := by decide +kernel
theorem d_Mo_laid_12 : decode b_Mo_laid 12 = .ok (.iconst (-1), 1) := by decide +kernel
theorem d_Mo_laid_13 : decode b_Mo_laid 13 = .ok (.ireturn, 1) := by decide +kernel
theorem d_Mo_laid_14 : decode b_Mo_laid 14 = .ok (.iload_n 1, 1) := by decide +kernel
theorem d_Mo_laid_15 : decode b_Mo_laid 15 = .ok (.tableswitch 49 0 3 #[29, 34, 39, 44], 29) := by decide +kernel
theorem d_Mo_laid_44 : decode b_Mo_laid 44 = .ok (.aload_n 0, 1) := by decide +kernel
theorem d_Mo_laid_45 : decode b_Mo_laid 45 = .ok (.getfield 164, 3) := by decide +kernel
theorem d_Mo_laid_48 : decode b_Mo_laid 48 = .ok (.ireturn, 1) := by decide +kernel
theorem d_Mo_laid_49 : decode b_Mo_laid 49 = .ok (.aload_n 0, 1) := by decide +kernel
theorem d_Mo_laid_50 : decode b_Mo_laid 50 = .ok (.getfield 244, 3) := by decide +kernel
theorem d_Mo_laid_53 : decode b_Mo_laid 53 = .ok (.ireturn, 1) := by decide +kernel
theorem d_Mo_laid_54 : decode b_Mo_laid 54 = .ok (.aload_n 0, 1) := by decide +kernel
theorem d_Mo_laid_55 : decode b_Mo_laid 55 = .ok (.getfield 170, 3) := by decide +kernel
theorem d_Mo_laid_58 : decode b_Mo_laid 58 = .ok (.ireturn, 1) := by decide +kernel
theorem d_Mo_laid_59 : decode b_Mo_laid 59 = .ok (.aload_n 0, 1) := by decide +kernel
theorem d_Mo_laid_60 : decode b_Mo_laid 60 = .ok (.getfield 241, 3) := by decide +kernel
theorem d_Mo_laid_63 : decode b_Mo_laid 63 = .ok (.ireturn, 1) := by decide +kernel
theorem d_Mo_laid_64 : decode b_Mo_laid 64 = .ok (.iconst (-1), 1) := by decide +kernel
theorem d_Mo_laid_65 : decode b_Mo_laid 65 = .ok (.ireturn, 1) := by decide +kernel
theorem d_Mo_instruction_0 : decode b_Mo_instruction 0 = .ok (.aload_n 0, 1) := by decide +kernel
theorem d_Mo_instruction_1 : decode b_Mo_instruction 1 = .ok (.aload_n 0, 1) := by decide +kernel
theorem d_Mo_instruction_2 : decode b_Mo_instruction 2 = .ok (.getfield 266, 3) := by decide +kernel
theorem d_Mo_instruction_5 : decode b_Mo_instruction 5 = .ok (.ifCond .eq 15, 3) := by decide +kernel
theorem d_Mo_instruction_8 : decode b_Mo_instruction 8 = .ok (.iload_n 1, 1) := by decide +kernel
theorem d_Mo_instruction_9 : decode b_Mo_instruction 9 = .ok (.ifCond .lt 11, 3) := by decide +kernel
theorem d_Mo_instruction_12 : decode b_Mo_instruction 12 = .ok (.iload_n 1, 1) := by decide +kernel
theorem d_Mo_instruction_13 : decode b_Mo_instruction 13 = .ok (.aload_n 0, 1) := by decide +kernel
theorem d_Mo_instruction_14 : decode b_Mo_instruction 14 = .ok (.getfield 164, 3) := by decide +kernel
theorem d_Mo_instruction_17 : decode b_Mo_instruction 17 = .ok (.if_icmp .lt 7, 3) := by decide +kernel
theorem d_Mo_instruction_20 : decode b_Mo_instruction 20 = .ok (.iconst 1, 1) := by decide +kernel
theorem d_Mo_instruction_21 : decode b_Mo_instruction 21 = .ok (.goto 17, 3) := by decide +kernel
theorem d_Mo_instruction_24 : decode b_Mo_instruction 24 = .ok (.iload_n 2, 1) := by decide +kernel
theorem d_Mo_instruction_25 : decode b_Mo_instruction 25 = .ok (.ifCond .lt 8, 3) := by decide +kernel
theorem d_Mo_instruction_28 : decode b_Mo_instruction 28 = .ok (.iload_n 2, 1) := by decide +kernel
theorem d_Mo_instruction_29 : decode b_Mo_instruction 29 = .ok (.iconst 1, 1) := by decide +kernel
theorem d_Mo_instruction_30 : decode b_Mo_instruction 30 = .ok (.if_icmp .le 7, 3) := by decide +kernel
theorem d_Mo_instruction_33 : decode b_Mo_instruction 33 = .ok (.iconst 2, 1) := by decide +kernel
theorem d_Mo_instruction_34 : decode b_Mo_instruction 34 = .ok (.goto 4, 3) := by decide +kernel
theorem d_Mo_instruction_37 : decode b_Mo_instruction 37 = .ok (.iconst 0, 1) := by decide +kernel
theorem d_Mo_instruction_38 : decode b_Mo_instruction 38 = .ok (.putfield 125, 3) := by decide +kernel
theorem d_Mo_instruction_41 : decode b_Mo_instruction 41 = .ok (.aload_n 0, 1) := by decide +kernel
theorem d_Mo_instruction_42 : decode b_Mo_instruction 42 = .ok (.getfield 125, 3) := by decide +kernel
theorem d_Mo_instruction_45 : decode b_Mo_instruction 45 = .ok (.ifCond .eq 7, 3) := by decide +kernel
theorem d_Mo_instruction_48 : decode b_Mo_instruction 48 = .ok (.iconst 0, 1) := by decide +kernel
theorem d_Mo_instruction_49 : decode b_Mo_instruction 49 = .ok (.goto 22, 3) := by decide +kernel
theorem d_Mo_instruction_52 : decode b_Mo_instruction 52 = .ok (.iload_n 2, 1) := by decide +kernel
theorem d_Mo_instruction_53 : decode b_Mo_instruction 53 = .ok (.ifCond .ne 12, 3) := by decide +kernel
theorem d_Mo_instruction_56 : decode b_Mo_instruction 56 = .ok (.aload_n 0, 1) := by decide +kernel
theorem d_Mo_instruction_57 : decode b_Mo_instruction 57 = .ok (.getfield 31, 3) := by decide +kernel
theorem d_Mo_instruction_60 : decode b_Mo_instruction 60 = .ok (.iload_n 1, 1) := by decide +kernel
theorem d_Mo_instruction_61 : decode b_Mo_instruction 61 = .ok (.iaload, 1) := by decide +kernel
theorem d_Mo_instruction_62 : decode b_Mo_instruction 62 = .ok (.goto 9, 3) := by decide +kernel
theorem d_Mo_instruction_65 : decode b_Mo_instruction 65 = .ok (.aload_n 0, 1) := by decide +kernel
theorem d_Mo_instruction_66 : decode b_Mo_instruction 66 = .ok (.getfield 34, 3) := by decide +kernel
theorem d_Mo_instruction_69 : decode b_Mo_instruction 69 = .ok (.iload_n 1, 1) := by decide +kernel
theorem d_Mo_instruction_70 : decode b_Mo_instruction 70 = .ok (.iaload, 1) := by decide +kernel
theorem d_Mo_instruction_71 : decode b_Mo_instruction 71 = .ok (.ireturn, 1) := by decide +kernel
theorem d_Mo_entry_0 : decode b_Mo_entry 0 = .ok (.aload_n 0, 1) := by decide +kernel
theorem d_Mo_entry_1 : decode b_Mo_entry 1 = .ok (.iconst 0, 1) := by decide +kernel
theorem d_Mo_entry_2 : decode b_Mo_entry 2 = .ok (.putfield 125, 3) := by decide +kernel
theorem d_Mo_entry_5 : decode b_Mo_entry 5 = .ok (.aload_n 0, 1) := by decide +kernel
theorem d_Mo_entry_6 : decode b_Mo_entry 6 = .ok (.getfield 266, 3) := by decide +kernel
theorem d_Mo_entry_9 : decode b_Mo_entry 9 = .ok (.ifCond .eq 22, 3) := by decide +kernel
theorem d_Mo_entry_12 : decode b_Mo_entry 12 = .ok (.iload_n 1, 1) := by decide +kernel
theorem d_Mo_entry_13 : decode b_Mo_entry 13 = .ok (.ifCond .lt 18, 3) := by decide +kernel
theorem d_Mo_entry_16 : decode b_Mo_entry 16 = .ok (.iload_n 1, 1) := by decide +kernel
theorem d_Mo_entry_17 : decode b_Mo_entry 17 = .ok (.bipush 6, 2) := by decide +kernel
theorem d_Mo_entry_19 : decode b_Mo_entry 19 = .ok (.if_icmp .ge 12, 3) := by decide +kernel
theorem d_Mo_entry_22 : decode b_Mo_entry 22 = .ok (.aload_n 0, 1) := by decide +kernel
theorem d_Mo_entry_23 : decode b_Mo_entry 23 = .ok (.getfield 55, 3) := by decide +kernel
theorem d_Mo_entry_26 : decode b_Mo_entry 26 = .ok (.iload_n 1, 1) := by decide +kernel
theorem d_Mo_entry_27 : decode b_Mo_entry 27 = .ok (.iaload, 1) := by decide +kernel
theorem d_Mo_entry_28 : decode b_Mo_entry 28 = .ok (.goto 4, 3) := by decide +kernel
theorem d_Mo_entry_31 : decode b_Mo_entry 31 = .ok (.iconst (-1), 1) := by decide +kernel
theorem d_Mo_entry_32 : decode b_Mo_entry 32 = .ok (.ireturn, 1) := by decide +kernel
theorem d_Mo_row_II_0 : decode b_Mo_row_II 0 = .ok (.aload_n 0, 1) := by decide +kernel
theorem d_Mo_row_II_1 : decode b_Mo_row_II 1 = .ok (.aload_n 0, 1) := by decide +kernel
theorem d_Mo_row_II_2 : decode b_Mo_row_II 2 = .ok (.getfield 266, 3) := by decide +kernel
theorem d_Mo_row_II_5 : decode b_Mo_row_II 5 = .ok (.ifCond .eq 15, 3) := by decide +kernel
theorem d_Mo_row_II_8 : decode b_Mo_row_II 8 = .ok (.iload_n 1, 1) := by decide +kernel
theorem d_Mo_row_II_9 : decode b_Mo_row_II 9 = .ok (.ifCond .lt 11, 3) := by decide +kernel
theorem d_Mo_row_II_12 : decode b_Mo_row_II 12 = .ok (.iload_n 1, 1) := by decide +kernel
theorem d_Mo_row_II_13 : decode b_Mo_row_II 13 = .ok (.aload_n 0, 1) := by decide +kernel
theorem d_Mo_row_II_14 : decode b_Mo_row_II 14 = .ok (.getfield 244, 3) := by decide +kernel
theorem d_Mo_row_II_17 : decode b_Mo_row_II 17 = .ok (.if_icmp .lt 7, 3) := by decide +kernel
theorem d_Mo_row_II_20 : decode b_Mo_row_II 20 = .ok (.iconst 1, 1) := by decide +kernel
theorem d_Mo_row_II_21 : decode b_Mo_row_II 21 = .ok (.goto 17, 3) := by decide +kernel
theorem d_Mo_row_II_24 : decode b_Mo_row_II 24 = .ok (.iload_n 2, 1) := by decide +kernel
theorem d_Mo_row_II_25 : decode b_Mo_row_II 25 = .ok (.ifCond .lt 8, 3) := by decide +kernel
theorem d_Mo_row_II_28 : decode b_Mo_row_II 28 = .ok (.iload_n 2, 1) := by decide +kernel
theorem d_Mo_row_II_29 : decode b_Mo_row_II 29 = .ok (.iconst 4, 1) := by decide +kernel
theorem d_Mo_row_II_30 : decode b_Mo_row_II 30 = .ok (.if_icmp .le 7, 3) := by decide +kernel
theorem d_Mo_row_II_33 : decode b_Mo_row_II 33 = .ok (.iconst 2, 1) := by decide +kernel
theorem d_Mo_row_II_34 : decode b_Mo_row_II 34 = .ok (.goto 4, 3) := by decide +kernel
theorem d_Mo_row_II_37 : decode b_Mo_row_II 37 = .ok (.iconst 0, 1) := by decide +kernel
theorem d_Mo_row_II_38 : decode b_Mo_row_II 38 = .ok (.putfield 125, 3) := by decide +kernel
theorem d_Mo_row_II_41 : decode b_Mo_row_II 41 = .ok (.aload_n 0, 1) := by decide +kernel
theorem d_Mo_row_II_42 : decode b_Mo_row_II 42 = .ok (.getfield 125, 3) := by decide +kernel
theorem d_Mo_row_II_45 : decode b_Mo_row_II 45 = .ok (.ifCond .eq 5, 3) := by decide +kernel
theorem d_Mo_row_II_48 : decode b_Mo_row_II 48 = .ok (.iconst 0, 1) := by decide +kernel
theorem d_Mo_row_II_49 : decode b_Mo_row_II 49 = .ok (.ireturn, 1) := by decide +kernel
theorem d_Mo_row_II_50 : decode b_Mo_row_II 50 = .ok (.iload_n 2, 1) := by decide +kernel
theorem d_Mo_row_II_51 : decode b_Mo_row_II 51 = .ok (.ifCond .ne 12, 3) := by decide +kernel
theorem d_Mo_row_II_54 : decode b_Mo_row_II 54 = .ok (.aload_n 0, 1) := by decide +kernel
theorem d_Mo_row_II_55 : decode b_Mo_row_II 55 = .ok (.getfield 40, 3) := by decide +kernel
theorem d_Mo_row_II_58 : decode b_Mo_row_II 58 = .ok (.iload_n 1, 1) := by decide +kernel
theorem d_Mo_row_II_59 : decode b_Mo_row_II 59 = .ok (.iaload, 1) := by decide +kernel
theorem d_Mo_row_II_60 : decode b_Mo_row_II 60 = .ok (.goto 51, 3) := by decide +kernel
theorem d_Mo_row_II_63 : decode b_Mo_row_II 63 = .ok (.iload_n 2, 1) := by decide +kernel
theorem d_Mo_row_II_64 : decode b_Mo_row_II 64 = .ok (.iconst 1, 1) := by decide +kernel
theorem d_Mo_row_II_65 : decode b_Mo_row_II 65 = .ok (.if_icmp .ne 12, 3) := by decide +kernel
theorem d_Mo_row_II_68 : decode b_Mo_row_II 68 = .ok (.aload_n 0, 1) := by decide +kernel
theorem d_Mo_row_II_69 : decode b_Mo_row_II 69 = .ok (.getfield 43, 3) := by decide +kernel
theorem d_Mo_row_II_72 : decode b_Mo_row_II 72 = .ok (.iload_n 1, 1) := by decide +kernel
theorem d_Mo_row_II_73 : decode b_Mo_row_II 73 = .ok (.iaload, 1) := by decide +kernel
theorem d_Mo_row_II_74 : decode b_Mo_row_II 74 = .ok (.goto 37, 3) := by decide +kernel
theorem d_Mo_row_II_77 : decode b_Mo_row_II 77 = .ok (.iload_n 2, 1) := by decide +kernel
theorem d_Mo_row_II_78 : decode b_Mo_row_II 78 = .ok (.iconst 2, 1) := by decide +kernel
theorem d_Mo_row_II_79 : decode b_Mo_row_II 79 = .ok (.if_icmp .ne 12, 3) := by decide +kernel
theorem d_Mo_row_II_82 : decode b_Mo_row_II 82 = .ok (.aload_n 0, 1) := by decide +kernel
theorem d_Mo_row_II_83 : decode b_Mo_row_II 83 = .ok (.getfield 46, 3) := by decide +kernel
theorem d_Mo_row_II_86 : decode b_Mo_row_II 86 = .ok (.iload_n 1, 1) := by decide +kernel
theorem d_Mo_row_II_87 : decode b_Mo_row_II 87 = .ok (.iaload, 1) := by decide +kernel
theorem d_Mo_row_II_88 : decode b_Mo_row_II 88 = .ok (.goto 23, 3) := by decide +kernel
theorem d_Mo_row_II_91 : decode b_Mo_row_II 91 = .ok (.iload_n 2, 1) := by decide +kernel
theorem d_Mo_row_II_92 : decode b_Mo_row_II 92 = .ok (.iconst 3, 1) := by decide +kernel
theorem d_Mo_row_II_93 : decode b_Mo_row_II 93 = .ok (.if_icmp .ne 12, 3) := by decide +kernel
theorem d_Mo_row_II_96 : decode b_Mo_row_II 96 = .ok (.aload_n 0, 1) := by decide +kernel
theorem d_Mo_row_II_97 : decode b_Mo_row_II 97 = .ok (.getfield 49, 3) := by decide +kernel
theorem d_Mo_row_II_100 : decode b_Mo_row_II 100 = .ok (.iload_n 1, 1) := by decide +kernel
theorem d_Mo_row_II_101 : decode b_Mo_row_II 101 = .ok (.iaload, 1) := by decide +kernel
theorem d_Mo_row_II_102 : decode b_Mo_row_II 102 = .ok (.goto 9, 3) := by decide +kernel
theorem d_Mo_row_II_105 : decode b_Mo_row_II 105 = .ok (.aload_n 0, 1) := by decide +kernel
theorem d_Mo_row_II_106 : decode b_Mo_row_II 106 = .ok (.getfield 52, 3) := by decide +kernel
theorem d_Mo_row_II_109 : decode b_Mo_row_II 109 = .ok (.iload_n 1, 1) := by decide +kernel
theorem d_Mo_row_II_110 : decode b_Mo_row_II 110 = .ok (.iaload, 1) := by decide +kernel
theorem d_Mo_row_II_111 : decode b_Mo_row_II 111 = .ok (.ireturn, 1) := by decide +kernel
theorem d_Mo_push_0 : decode b_Mo_push 0 = .ok (.aload_n 0, 1) := by decide +kernel
theorem d_Mo_push_1 : decode b_Mo_push 1 = .ok (.getfield 119, 3) := by decide +kernel
theorem d_Mo_push_4 : decode b_Mo_push 4 = .ok (.sipush 200, 3) := by decide +kernel
theorem d_Mo_push_7 : decode b_Mo_push 7 = .ok (.aload_n 0, 1) := by decide +kernel
theorem d_Mo_push_8 : decode b_Mo_push 8 = .ok (.getfield 275, 3) := by decide +kernel
theorem d_Mo_push_11 : decode b_Mo_push 11 = .ok (.iconst 1, 1) := by decide +kernel
theorem d_Mo_push_12 : decode b_Mo_push 12 = .ok (.isub, 1) := by decide +kernel
theorem d_Mo_push_13 : decode b_Mo_push 13 = .ok (.imul, 1) := by decide +kernel
theorem d_Mo_push_14 : decode b_Mo_push 14 = .ok (.aload_n 0, 1) := by decide +kernel
theorem d_Mo_push_15 : decode b_Mo_push 15 = .ok (.getfield 116, 3) := by decide +kernel
theorem d_Mo_push_18 : decode b_Mo_push 18 = .ok (.aload_n 0, 1) := by decide +kernel
theorem d_Mo_push_19 : decode b_Mo_push 19 = .ok (.getfield 275, 3) := by decide +kernel
theorem d_Mo_push_22 : decode b_Mo_push 22 = .ok (.iconst 1, 1) := by decide +kernel
theorem d_Mo_push_23 : decode b_Mo_push 23 = .ok (.isub, 1) := by decide +kernel
theorem d_Mo_push_24 : decode b_Mo_push 24 = .ok (.iaload, 1) := by decide +kernel
theorem d_Mo_push_25 : decode b_Mo_push 25 = .ok (.iadd, 1) := by decide +kernel
theorem d_Mo_push_26 : decode b_Mo_push 26 = .ok (.iload_n 1, 1) := by decide +kernel
theorem d_Mo_push_27 : decode b_Mo_push 27 = .ok (.iastore, 1) := by decide +kernel
theorem d_Mo_push_28 : decode b_Mo_push 28 = .ok (.aload_n 0, 1) := by decide +kernel
theorem d_Mo_push_29 : decode b_Mo_push 29 = .ok (.getfield 116, 3) := by decide +kernel
theorem d_Mo_push_32 : decode b_Mo_push 32 = .ok (.aload_n 0, 1) := by decide +kernel
theorem d_Mo_push_33 : decode b_Mo_push 33 = .ok (.getfield 275, 3) := by decide +kernel
theorem d_Mo_push_36 : decode b_Mo_push 36 = .ok (.iconst 1, 1) := by decide +kernel
theorem d_Mo_push_37 : decode b_Mo_push 37 = .ok (.isub, 1) := by decide +kernel
theorem d_Mo_push_38 : decode b_Mo_push 38 = .ok (.dup2, 1) := by decide +kernel
theorem d_Mo_push_39 : decode b_Mo_push 39 = .ok (.iaload, 1) := by decide +kernel
theorem d_Mo_push_40 : decode b_Mo_push 40 = .ok (.iconst 1, 1) := by decide +kernel
theorem d_Mo_push_41 : decode b_Mo_push 41 = .ok (.iadd, 1) := by decide +kernel
theorem d_Mo_push_42 : decode b_Mo_push 42 = .ok (.iastore, 1) := by decide +kernel
theorem d_Mo_push_43 : decode b_Mo_push 43 = .ok (.return_, 1) := by decide +kernel
theorem d_Mo_pop_0 : decode b_Mo_pop 0 = .ok (.aload_n 0, 1) := by decide +kernel
theorem d_Mo_pop_1 : decode b_Mo_pop 1 = .ok (.getfield 116, 3) := by decide +kernel
theorem d_Mo_pop_4 : decode b_Mo_pop 4 = .ok (.aload_n 0, 1) := by decide +kernel
theorem d_Mo_pop_5 : decode b_Mo_pop 5 = .ok (.getfield 275, 3) := by decide +kernel
theorem d_Mo_pop_8 : decode b_Mo_pop 8 = .ok (.iconst 1, 1) := by decide +kernel
theorem d_Mo_pop_9 : decode b_Mo_pop 9 = .ok (.isub, 1) := by decide +kernel
theorem d_Mo_pop_10 : decode b_Mo_pop 10 = .ok (.dup2, 1) := by decide +kernel
theorem d_Mo_pop_11 : decode b_Mo_pop 11 = .ok (.iaload, 1) := by decide +kernel
theorem d_Mo_pop_12 : decode b_Mo_pop 12 = .ok (.iconst 1, 1) := by decide +kernel
theorem d_Mo_pop_13 : decode b_Mo_pop 13 = .ok (.isub, 1) := by decide +kernel
theorem d_Mo_pop_14 : decode b_Mo_pop 14 = .ok (.iastore, 1) := by decide +kernel
theorem d_Mo_pop_15 : decode b_Mo_pop 15 = .ok (.aload_n 0, 1) := by decide +kernel
theorem d_Mo_pop_16 : decode b_Mo_pop 16 = .ok (.getfield 119, 3) := by decide +kernel
theorem d_Mo_pop_19 : decode b_Mo_pop 19 = .ok (.sipush 200, 3) := by decide +kernel
theorem d_Mo_pop_22 : decode b_Mo_pop 22 = .ok (.aload_n 0, 1) := by decide +kernel
theorem d_Mo_pop_23 : decode b_Mo_pop 23 = .ok (.getfield 275, 3) := by decide +kernel
theorem d_Mo_pop_26 : decode b_Mo_pop 26 = .ok (.iconst 1, 1) := by decide +kernel
theorem d_Mo_pop_27 : decode b_Mo_pop 27 = .ok (.isub, 1) := by decide +kernel
theorem d_Mo_pop_28 : decode b_Mo_pop 28 = .ok (.imul, 1) := by decide +kernel
theorem d_Mo_pop_29 : decode b_Mo_pop 29 = .ok (.aload_n 0, 1) := by decide +kernel
theorem d_Mo_pop_30 : decode b_Mo_pop 30 = .ok (.getfield 116, 3) := by decide +kernel
theorem d_Mo_pop_33 : decode b_Mo_pop 33 = .ok (.aload_n 0, 1) := by decide +kernel
theorem d_Mo_pop_34 : decode b_Mo_pop 34 = .ok (.getfield 275, 3) := by decide +kernel
theorem d_Mo_pop_37 : decode b_Mo_pop 37 = .ok (.iconst 1, 1) := by decide +kernel
theorem d_Mo_pop_38 : decode b_Mo_pop 38 = .ok (.isub, 1) := by decide +kernel
theorem d_Mo_pop_39 : decode b_Mo_pop 39 = .ok (.iaload, 1) := by decide +kernel
theorem d_Mo_pop_40 : decode b_Mo_pop 40 = .ok (.iadd, 1) := by decide +kernel
theorem d_Mo_pop_41 : decode b_Mo_pop 41 = .ok (.iaload, 1) := by decide +kernel
theorem d_Mo_pop_42 : decode b_Mo_pop 42 = .ok (.ireturn, 1) := by decide +kernel
