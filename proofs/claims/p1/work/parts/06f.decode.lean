theorem d_Ma_combine_0 : decode b_Ma_combine 0 = .ok (.iload_n 0, 1) := by decide +kernel
theorem d_Ma_combine_1 : decode b_Ma_combine 1 = .ok (.tableswitch 70 2 6 #[35, 39, 43, 47, 59], 35) := by decide +kernel
theorem d_Ma_combine_36 : decode b_Ma_combine 36 = .ok (.iload_n 1, 1) := by decide +kernel
theorem d_Ma_combine_37 : decode b_Ma_combine 37 = .ok (.iload_n 2, 1) := by decide +kernel
theorem d_Ma_combine_38 : decode b_Ma_combine 38 = .ok (.iadd, 1) := by decide +kernel
theorem d_Ma_combine_39 : decode b_Ma_combine 39 = .ok (.ireturn, 1) := by decide +kernel
theorem d_Ma_combine_40 : decode b_Ma_combine 40 = .ok (.iload_n 1, 1) := by decide +kernel
theorem d_Ma_combine_41 : decode b_Ma_combine 41 = .ok (.iload_n 2, 1) := by decide +kernel
theorem d_Ma_combine_42 : decode b_Ma_combine 42 = .ok (.isub, 1) := by decide +kernel
theorem d_Ma_combine_43 : decode b_Ma_combine 43 = .ok (.ireturn, 1) := by decide +kernel
theorem d_Ma_combine_44 : decode b_Ma_combine 44 = .ok (.iload_n 1, 1) := by decide +kernel
theorem d_Ma_combine_45 : decode b_Ma_combine 45 = .ok (.iload_n 2, 1) := by decide +kernel
theorem d_Ma_combine_46 : decode b_Ma_combine 46 = .ok (.imul, 1) := by decide +kernel
theorem d_Ma_combine_47 : decode b_Ma_combine 47 = .ok (.ireturn, 1) := by decide +kernel
theorem d_Ma_combine_48 : decode b_Ma_combine 48 = .ok (.iload_n 2, 1) := by decide +kernel
theorem d_Ma_combine_49 : decode b_Ma_combine 49 = .ok (.ifCond .ne 7, 3) := by decide +kernel
theorem d_Ma_combine_52 : decode b_Ma_combine 52 = .ok (.iconst 0, 1) := by decide +kernel
theorem d_Ma_combine_53 : decode b_Ma_combine 53 = .ok (.goto 6, 3) := by decide +kernel
theorem d_Ma_combine_56 : decode b_Ma_combine 56 = .ok (.iload_n 1, 1) := by decide +kernel
theorem d_Ma_combine_57 : decode b_Ma_combine 57 = .ok (.iload_n 2, 1) := by decide +kernel
theorem d_Ma_combine_58 : decode b_Ma_combine 58 = .ok (.idiv, 1) := by decide +kernel
theorem d_Ma_combine_59 : decode b_Ma_combine 59 = .ok (.ireturn, 1) := by decide +kernel
theorem d_Ma_combine_60 : decode b_Ma_combine 60 = .ok (.iload_n 1, 1) := by decide +kernel
theorem d_Ma_combine_61 : decode b_Ma_combine 61 = .ok (.iload_n 2, 1) := by decide +kernel
theorem d_Ma_combine_62 : decode b_Ma_combine 62 = .ok (.if_icmp .ge 7, 3) := by decide +kernel
theorem d_Ma_combine_65 : decode b_Ma_combine 65 = .ok (.iconst 1, 1) := by decide +kernel
theorem d_Ma_combine_66 : decode b_Ma_combine 66 = .ok (.goto 4, 3) := by decide +kernel
theorem d_Ma_combine_69 : decode b_Ma_combine 69 = .ok (.iconst 0, 1) := by decide +kernel
theorem d_Ma_combine_70 : decode b_Ma_combine 70 = .ok (.ireturn, 1) := by decide +kernel
theorem d_Ma_combine_71 : decode b_Ma_combine 71 = .ok (.iload_n 1, 1) := by decide +kernel
theorem d_Ma_combine_72 : decode b_Ma_combine 72 = .ok (.iload_n 2, 1) := by decide +kernel
theorem d_Ma_combine_73 : decode b_Ma_combine 73 = .ok (.if_icmp .ne 7, 3) := by decide +kernel
theorem d_Ma_combine_76 : decode b_Ma_combine 76 = .ok (.iconst 1, 1) := by decide +kernel
theorem d_Ma_combine_77 : decode b_Ma_combine 77 = .ok (.goto 4, 3) := by decide +kernel
theorem d_Ma_combine_80 : decode b_Ma_combine 80 = .ok (.iconst 0, 1) := by decide +kernel
theorem d_Ma_combine_81 : decode b_Ma_combine 81 = .ok (.ireturn, 1) := by decide +kernel
theorem d_Ma_putOut_0 : decode b_Ma_putOut 0 = .ok (.aload_n 0, 1) := by decide +kernel
theorem d_Ma_putOut_1 : decode b_Ma_putOut 1 = .ok (.getfield 18, 3) := by decide +kernel
theorem d_Ma_putOut_4 : decode b_Ma_putOut 4 = .ok (.iconst 3, 1) := by decide +kernel
theorem d_Ma_putOut_5 : decode b_Ma_putOut 5 = .ok (.iaload, 1) := by decide +kernel
theorem d_Ma_putOut_6 : decode b_Ma_putOut 6 = .ok (.bipush 64, 2) := by decide +kernel
theorem d_Ma_putOut_8 : decode b_Ma_putOut 8 = .ok (.if_icmp .ge 25, 3) := by decide +kernel
theorem d_Ma_putOut_11 : decode b_Ma_putOut 11 = .ok (.aload_n 0, 1) := by decide +kernel
theorem d_Ma_putOut_12 : decode b_Ma_putOut 12 = .ok (.getfield 15, 3) := by decide +kernel
theorem d_Ma_putOut_15 : decode b_Ma_putOut 15 = .ok (.aload_n 0, 1) := by decide +kernel
theorem d_Ma_putOut_16 : decode b_Ma_putOut 16 = .ok (.getfield 18, 3) := by decide +kernel
theorem d_Ma_putOut_19 : decode b_Ma_putOut 19 = .ok (.iconst 3, 1) := by decide +kernel
theorem d_Ma_putOut_20 : decode b_Ma_putOut 20 = .ok (.iaload, 1) := by decide +kernel
theorem d_Ma_putOut_21 : decode b_Ma_putOut 21 = .ok (.iload_n 1, 1) := by decide +kernel
theorem d_Ma_putOut_22 : decode b_Ma_putOut 22 = .ok (.iastore, 1) := by decide +kernel
theorem d_Ma_putOut_23 : decode b_Ma_putOut 23 = .ok (.aload_n 0, 1) := by decide +kernel
theorem d_Ma_putOut_24 : decode b_Ma_putOut 24 = .ok (.getfield 18, 3) := by decide +kernel
theorem d_Ma_putOut_27 : decode b_Ma_putOut 27 = .ok (.iconst 3, 1) := by decide +kernel
theorem d_Ma_putOut_28 : decode b_Ma_putOut 28 = .ok (.dup2, 1) := by decide +kernel
theorem d_Ma_putOut_29 : decode b_Ma_putOut 29 = .ok (.iaload, 1) := by decide +kernel
theorem d_Ma_putOut_30 : decode b_Ma_putOut 30 = .ok (.iconst 1, 1) := by decide +kernel
theorem d_Ma_putOut_31 : decode b_Ma_putOut 31 = .ok (.iadd, 1) := by decide +kernel
theorem d_Ma_putOut_32 : decode b_Ma_putOut 32 = .ok (.iastore, 1) := by decide +kernel
theorem d_Ma_putOut_33 : decode b_Ma_putOut 33 = .ok (.return_, 1) := by decide +kernel
theorem d_Ma_doStraight_0 : decode b_Ma_doStraight 0 = .ok (.iload_n 1, 1) := by decide +kernel
theorem d_Ma_doStraight_1 : decode b_Ma_doStraight 1 = .ok (.lookupswitch 113 #[(0, 51), (1, 59), (8, 72), (9, 85), (15, 96)], 51) := by decide +kernel
theorem d_Ma_doStraight_52 : decode b_Ma_doStraight 52 = .ok (.aload_n 0, 1) := by decide +kernel
theorem d_Ma_doStraight_53 : decode b_Ma_doStraight 53 = .ok (.iload_n 2, 1) := by decide +kernel
theorem d_Ma_doStraight_54 : decode b_Ma_doStraight 54 = .ok (.invokevirtual 87, 3) := by decide +kernel
theorem d_Ma_doStraight_57 : decode b_Ma_doStraight 57 = .ok (.goto 94, 3) := by decide +kernel
theorem d_Ma_doStraight_60 : decode b_Ma_doStraight 60 = .ok (.aload_n 0, 1) := by decide +kernel
theorem d_Ma_doStraight_61 : decode b_Ma_doStraight 61 = .ok (.aload_n 0, 1) := by decide +kernel
theorem d_Ma_doStraight_62 : decode b_Ma_doStraight 62 = .ok (.getfield 9, 3) := by decide +kernel
theorem d_Ma_doStraight_65 : decode b_Ma_doStraight 65 = .ok (.iload_n 2, 1) := by decide +kernel
theorem d_Ma_doStraight_66 : decode b_Ma_doStraight 66 = .ok (.iaload, 1) := by decide +kernel
theorem d_Ma_doStraight_67 : decode b_Ma_doStraight 67 = .ok (.invokevirtual 87, 3) := by decide +kernel
theorem d_Ma_doStraight_70 : decode b_Ma_doStraight 70 = .ok (.goto 81, 3) := by decide +kernel
theorem d_Ma_doStraight_73 : decode b_Ma_doStraight 73 = .ok (.aload_n 0, 1) := by decide +kernel
theorem d_Ma_doStraight_74 : decode b_Ma_doStraight 74 = .ok (.getfield 9, 3) := by decide +kernel
theorem d_Ma_doStraight_77 : decode b_Ma_doStraight 77 = .ok (.iload_n 2, 1) := by decide +kernel
theorem d_Ma_doStraight_78 : decode b_Ma_doStraight 78 = .ok (.aload_n 0, 1) := by decide +kernel
theorem d_Ma_doStraight_79 : decode b_Ma_doStraight 79 = .ok (.invokevirtual 65, 3) := by decide +kernel
theorem d_Ma_doStraight_82 : decode b_Ma_doStraight 82 = .ok (.iastore, 1) := by decide +kernel
theorem d_Ma_doStraight_83 : decode b_Ma_doStraight 83 = .ok (.goto 68, 3) := by decide +kernel
theorem d_Ma_doStraight_86 : decode b_Ma_doStraight 86 = .ok (.aload_n 0, 1) := by decide +kernel
theorem d_Ma_doStraight_87 : decode b_Ma_doStraight 87 = .ok (.aload_n 0, 1) := by decide +kernel
theorem d_Ma_doStraight_88 : decode b_Ma_doStraight 88 = .ok (.invokevirtual 65, 3) := by decide +kernel
theorem d_Ma_doStraight_91 : decode b_Ma_doStraight 91 = .ok (.invokevirtual 90, 3) := by decide +kernel
theorem d_Ma_doStraight_94 : decode b_Ma_doStraight 94 = .ok (.goto 57, 3) := by decide +kernel
theorem d_Ma_doStraight_97 : decode b_Ma_doStraight 97 = .ok (.aload_n 0, 1) := by decide +kernel
theorem d_Ma_doStraight_98 : decode b_Ma_doStraight 98 = .ok (.getfield 27, 3) := by decide +kernel
theorem d_Ma_doStraight_101 : decode b_Ma_doStraight 101 = .ok (.aload_n 0, 1) := by decide +kernel
theorem d_Ma_doStraight_102 : decode b_Ma_doStraight 102 = .ok (.iload_n 2, 1) := by decide +kernel
theorem d_Ma_doStraight_103 : decode b_Ma_doStraight 103 = .ok (.invokevirtual 79, 3) := by decide +kernel
theorem d_Ma_doStraight_106 : decode b_Ma_doStraight 106 = .ok (.aload_n 0, 1) := by decide +kernel
theorem d_Ma_doStraight_107 : decode b_Ma_doStraight 107 = .ok (.invokevirtual 65, 3) := by decide +kernel
theorem d_Ma_doStraight_110 : decode b_Ma_doStraight 110 = .ok (.iastore, 1) := by decide +kernel
theorem d_Ma_doStraight_111 : decode b_Ma_doStraight 111 = .ok (.goto 40, 3) := by decide +kernel
theorem d_Ma_doStraight_114 : decode b_Ma_doStraight 114 = .ok (.aload_n 0, 1) := by decide +kernel
theorem d_Ma_doStraight_115 : decode b_Ma_doStraight 115 = .ok (.invokevirtual 65, 3) := by decide +kernel
theorem d_Ma_doStraight_118 : decode b_Ma_doStraight 118 = .ok (.istore_n 3, 1) := by decide +kernel
theorem d_Ma_doStraight_119 : decode b_Ma_doStraight 119 = .ok (.aload_n 0, 1) := by decide +kernel
theorem d_Ma_doStraight_120 : decode b_Ma_doStraight 120 = .ok (.invokevirtual 65, 3) := by decide +kernel
theorem d_Ma_doStraight_123 : decode b_Ma_doStraight 123 = .ok (.istore 4, 2) := by decide +kernel
theorem d_Ma_doStraight_125 : decode b_Ma_doStraight 125 = .ok (.iload_n 1, 1) := by decide +kernel
theorem d_Ma_doStraight_126 : decode b_Ma_doStraight 126 = .ok (.iconst 5, 1) := by decide +kernel
theorem d_Ma_doStraight_127 : decode b_Ma_doStraight 127 = .ok (.if_icmp .ne 13, 3) := by decide +kernel
theorem d_Ma_doStraight_130 : decode b_Ma_doStraight 130 = .ok (.iload_n 3, 1) := by decide +kernel
theorem d_Ma_doStraight_131 : decode b_Ma_doStraight 131 = .ok (.ifCond .ne 9, 3) := by decide +kernel
theorem d_Ma_doStraight_134 : decode b_Ma_doStraight 134 = .ok (.aload_n 0, 1) := by decide +kernel
theorem d_Ma_doStraight_135 : decode b_Ma_doStraight 135 = .ok (.iconst 1, 1) := by decide +kernel
theorem d_Ma_doStraight_136 : decode b_Ma_doStraight 136 = .ok (.invokevirtual 69, 3) := by decide +kernel
theorem d_Ma_doStraight_139 : decode b_Ma_doStraight 139 = .ok (.return_, 1) := by decide +kernel
theorem d_Ma_doStraight_140 : decode b_Ma_doStraight 140 = .ok (.aload_n 0, 1) := by decide +kernel
theorem d_Ma_doStraight_141 : decode b_Ma_doStraight 141 = .ok (.iload_n 1, 1) := by decide +kernel
theorem d_Ma_doStraight_142 : decode b_Ma_doStraight 142 = .ok (.iload 4, 2) := by decide +kernel
theorem d_Ma_doStraight_144 : decode b_Ma_doStraight 144 = .ok (.iload_n 3, 1) := by decide +kernel
theorem d_Ma_doStraight_145 : decode b_Ma_doStraight 145 = .ok (.invokestatic 95, 3) := by decide +kernel
theorem d_Ma_doStraight_148 : decode b_Ma_doStraight 148 = .ok (.invokevirtual 87, 3) := by decide +kernel
theorem d_Ma_doStraight_151 : decode b_Ma_doStraight 151 = .ok (.aload_n 0, 1) := by decide +kernel
theorem d_Ma_doStraight_152 : decode b_Ma_doStraight 152 = .ok (.dup, 1) := by decide +kernel
theorem d_Ma_doStraight_153 : decode b_Ma_doStraight 153 = .ok (.getfield 51, 3) := by decide +kernel
theorem d_Ma_doStraight_156 : decode b_Ma_doStraight 156 = .ok (.iconst 1, 1) := by decide +kernel
theorem d_Ma_doStraight_157 : decode b_Ma_doStraight 157 = .ok (.iadd, 1) := by decide +kernel
theorem d_Ma_doStraight_158 : decode b_Ma_doStraight 158 = .ok (.putfield 51, 3) := by decide +kernel
theorem d_Ma_doStraight_161 : decode b_Ma_doStraight 161 = .ok (.return_, 1) := by decide +kernel
theorem d_Ma_doStep_0 : decode b_Ma_doStep 0 = .ok (.aload_n 0, 1) := by decide +kernel
theorem d_Ma_doStep_1 : decode b_Ma_doStep 1 = .ok (.getfield 30, 3) := by decide +kernel
theorem d_Ma_doStep_4 : decode b_Ma_doStep 4 = .ok (.getfield 57, 3) := by decide +kernel
theorem d_Ma_doStep_7 : decode b_Ma_doStep 7 = .ok (.aload_n 0, 1) := by decide +kernel
theorem d_Ma_doStep_8 : decode b_Ma_doStep 8 = .ok (.getfield 51, 3) := by decide +kernel
theorem d_Ma_doStep_11 : decode b_Ma_doStep 11 = .ok (.iaload, 1) := by decide +kernel
theorem d_Ma_doStep_12 : decode b_Ma_doStep 12 = .ok (.istore_n 1, 1) := by decide +kernel
theorem d_Ma_doStep_13 : decode b_Ma_doStep 13 = .ok (.aload_n 0, 1) := by decide +kernel
theorem d_Ma_doStep_14 : decode b_Ma_doStep 14 = .ok (.getfield 30, 3) := by decide +kernel
theorem d_Ma_doStep_17 : decode b_Ma_doStep 17 = .ok (.getfield 62, 3) := by decide +kernel
theorem d_Ma_doStep_20 : decode b_Ma_doStep 20 = .ok (.aload_n 0, 1) := by decide +kernel
theorem d_Ma_doStep_21 : decode b_Ma_doStep 21 = .ok (.getfield 51, 3) := by decide +kernel
theorem d_Ma_doStep_24 : decode b_Ma_doStep 24 = .ok (.iaload, 1) := by decide +kernel
theorem d_Ma_doStep_25 : decode b_Ma_doStep 25 = .ok (.istore_n 2, 1) := by decide +kernel
theorem d_Ma_doStep_26 : decode b_Ma_doStep 26 = .ok (.iload_n 1, 1) := by decide +kernel
theorem d_Ma_doStep_27 : decode b_Ma_doStep 27 = .ok (.tableswitch 126 10 16 #[49, 41, 73, 94, 102, 126, 109], 41) := by decide +kernel
theorem d_Ma_doStep_68 : decode b_Ma_doStep 68 = .ok (.aload_n 0, 1) := by decide +kernel
theorem d_Ma_doStep_69 : decode b_Ma_doStep 69 = .ok (.iload_n 2, 1) := by decide +kernel
theorem d_Ma_doStep_70 : decode b_Ma_doStep 70 = .ok (.putfield 51, 3) := by decide +kernel
theorem d_Ma_doStep_73 : decode b_Ma_doStep 73 = .ok (.goto 86, 3) := by decide +kernel
theorem d_Ma_doStep_76 : decode b_Ma_doStep 76 = .ok (.aload_n 0, 1) := by decide +kernel
theorem d_Ma_doStep_77 : decode b_Ma_doStep 77 = .ok (.aload_n 0, 1) := by decide +kernel
theorem d_Ma_doStep_78 : decode b_Ma_doStep 78 = .ok (.invokevirtual 65, 3) := by decide +kernel
theorem d_Ma_doStep_81 : decode b_Ma_doStep 81 = .ok (.ifCond .ne 7, 3) := by decide +kernel
theorem d_Ma_doStep_84 : decode b_Ma_doStep 84 = .ok (.iload_n 2, 1) := by decide +kernel
theorem d_Ma_doStep_85 : decode b_Ma_doStep 85 = .ok (.goto 9, 3) := by decide +kernel
theorem d_Ma_doStep_88 : decode b_Ma_doStep 88 = .ok (.aload_n 0, 1) := by decide +kernel
theorem d_Ma_doStep_89 : decode b_Ma_doStep 89 = .ok (.getfield 51, 3) := by decide +kernel
theorem d_Ma_doStep_92 : decode b_Ma_doStep 92 = .ok (.iconst 1, 1) := by decide +kernel
theorem d_Ma_doStep_93 : decode b_Ma_doStep 93 = .ok (.iadd, 1) := by decide +kernel
theorem d_Ma_doStep_94 : decode b_Ma_doStep 94 = .ok (.putfield 51, 3) := by decide +kernel
theorem d_Ma_doStep_97 : decode b_Ma_doStep 97 = .ok (.goto 62, 3) := by decide +kernel
theorem d_Ma_doStep_100 : decode b_Ma_doStep 100 = .ok (.aload_n 0, 1) := by decide +kernel
theorem d_Ma_doStep_101 : decode b_Ma_doStep 101 = .ok (.invokevirtual 65, 3) := by decide +kernel
theorem d_Ma_doStep_104 : decode b_Ma_doStep 104 = .ok (.istore_n 3, 1) := by decide +kernel
theorem d_Ma_doStep_105 : decode b_Ma_doStep 105 = .ok (.aload_n 0, 1) := by decide +kernel
theorem d_Ma_doStep_106 : decode b_Ma_doStep 106 = .ok (.iload_n 3, 1) := by decide +kernel
theorem d_Ma_doStep_107 : decode b_Ma_doStep 107 = .ok (.ifCond .ne 7, 3) := by decide +kernel
theorem d_Ma_doStep_110 : decode b_Ma_doStep 110 = .ok (.iconst 2, 1) := by decide +kernel
theorem d_Ma_doStep_111 : decode b_Ma_doStep 111 = .ok (.goto 4, 3) := by decide +kernel
theorem d_Ma_doStep_114 : decode b_Ma_doStep 114 = .ok (.iload_n 3, 1) := by decide +kernel
theorem d_Ma_doStep_115 : decode b_Ma_doStep 115 = .ok (.invokevirtual 69, 3) := by decide +kernel
theorem d_Ma_doStep_118 : decode b_Ma_doStep 118 = .ok (.goto 41, 3) := by decide +kernel
theorem d_Ma_doStep_121 : decode b_Ma_doStep 121 = .ok (.aload_n 0, 1) := by decide +kernel
theorem d_Ma_doStep_122 : decode b_Ma_doStep 122 = .ok (.iload_n 2, 1) := by decide +kernel
theorem d_Ma_doStep_123 : decode b_Ma_doStep 123 = .ok (.invokevirtual 73, 3) := by decide +kernel
theorem d_Ma_doStep_126 : decode b_Ma_doStep 126 = .ok (.goto 33, 3) := by decide +kernel
theorem d_Ma_doStep_129 : decode b_Ma_doStep 129 = .ok (.aload_n 0, 1) := by decide +kernel
theorem d_Ma_doStep_130 : decode b_Ma_doStep 130 = .ok (.invokevirtual 76, 3) := by decide +kernel
theorem d_Ma_doStep_133 : decode b_Ma_doStep 133 = .ok (.goto 26, 3) := by decide +kernel
theorem d_Ma_doStep_136 : decode b_Ma_doStep 136 = .ok (.aload_n 0, 1) := by decide +kernel
theorem d_Ma_doStep_137 : decode b_Ma_doStep 137 = .ok (.aload_n 0, 1) := by decide +kernel
theorem d_Ma_doStep_138 : decode b_Ma_doStep 138 = .ok (.getfield 27, 3) := by decide +kernel
theorem d_Ma_doStep_141 : decode b_Ma_doStep 141 = .ok (.aload_n 0, 1) := by decide +kernel
theorem d_Ma_doStep_142 : decode b_Ma_doStep 142 = .ok (.iload_n 2, 1) := by decide +kernel
theorem d_Ma_doStep_143 : decode b_Ma_doStep 143 = .ok (.invokevirtual 79, 3) := by decide +kernel
theorem d_Ma_doStep_146 : decode b_Ma_doStep 146 = .ok (.iaload, 1) := by decide +kernel
theorem d_Ma_doStep_147 : decode b_Ma_doStep 147 = .ok (.invokevirtual 69, 3) := by decide +kernel
theorem d_Ma_doStep_150 : decode b_Ma_doStep 150 = .ok (.goto 9, 3) := by decide +kernel
theorem d_Ma_doStep_153 : decode b_Ma_doStep 153 = .ok (.aload_n 0, 1) := by decide +kernel
theorem d_Ma_doStep_154 : decode b_Ma_doStep 154 = .ok (.iload_n 1, 1) := by decide +kernel
theorem d_Ma_doStep_155 : decode b_Ma_doStep 155 = .ok (.iload_n 2, 1) := by decide +kernel
theorem d_Ma_doStep_156 : decode b_Ma_doStep 156 = .ok (.invokevirtual 83, 3) := by decide +kernel
theorem d_Ma_doStep_159 : decode b_Ma_doStep 159 = .ok (.return_, 1) := by decide +kernel
theorem d_Ma_start_0 : decode b_Ma_start 0 = .ok (.aload_n 0, 1) := by decide +kernel
theorem d_Ma_start_1 : decode b_Ma_start 1 = .ok (.iconst 1, 1) := by decide +kernel
theorem d_Ma_start_2 : decode b_Ma_start 2 = .ok (.putfield 34, 3) := by decide +kernel
theorem d_Ma_start_5 : decode b_Ma_start 5 = .ok (.aload_n 0, 1) := by decide +kernel
theorem d_Ma_start_6 : decode b_Ma_start 6 = .ok (.getfield 9, 3) := by decide +kernel
theorem d_Ma_start_9 : decode b_Ma_start 9 = .ok (.iconst 0, 1) := by decide +kernel
theorem d_Ma_start_10 : decode b_Ma_start 10 = .ok (.invokestatic 38, 3) := by decide +kernel
theorem d_Ma_start_13 : decode b_Ma_start 13 = .ok (.aload_n 0, 1) := by decide +kernel
theorem d_Ma_start_14 : decode b_Ma_start 14 = .ok (.getfield 18, 3) := by decide +kernel
theorem d_Ma_start_17 : decode b_Ma_start 17 = .ok (.iconst 0, 1) := by decide +kernel
theorem d_Ma_start_18 : decode b_Ma_start 18 = .ok (.invokestatic 38, 3) := by decide +kernel
theorem d_Ma_start_21 : decode b_Ma_start 21 = .ok (.aload_n 0, 1) := by decide +kernel
theorem d_Ma_start_22 : decode b_Ma_start 22 = .ok (.iconst 0, 1) := by decide +kernel
theorem d_Ma_start_23 : decode b_Ma_start 23 = .ok (.putfield 44, 3) := by decide +kernel
theorem d_Ma_start_26 : decode b_Ma_start 26 = .ok (.aload_n 0, 1) := by decide +kernel
theorem d_Ma_start_27 : decode b_Ma_start 27 = .ok (.iconst 1, 1) := by decide +kernel
theorem d_Ma_start_28 : decode b_Ma_start 28 = .ok (.putfield 48, 3) := by decide +kernel
theorem d_Ma_start_31 : decode b_Ma_start 31 = .ok (.aload_n 0, 1) := by decide +kernel
theorem d_Ma_start_32 : decode b_Ma_start 32 = .ok (.iload_n 1, 1) := by decide +kernel
theorem d_Ma_start_33 : decode b_Ma_start 33 = .ok (.putfield 51, 3) := by decide +kernel
theorem d_Ma_start_36 : decode b_Ma_start 36 = .ok (.aload_n 0, 1) := by decide +kernel
theorem d_Ma_start_37 : decode b_Ma_start 37 = .ok (.getfield 18, 3) := by decide +kernel
theorem d_Ma_start_40 : decode b_Ma_start 40 = .ok (.iconst 5, 1) := by decide +kernel
theorem d_Ma_start_41 : decode b_Ma_start 41 = .ok (.iconst 1, 1) := by decide +kernel
theorem d_Ma_start_42 : decode b_Ma_start 42 = .ok (.iastore, 1) := by decide +kernel
theorem d_Ma_start_43 : decode b_Ma_start 43 = .ok (.iconst 0, 1) := by decide +kernel
theorem d_Ma_start_44 : decode b_Ma_start 44 = .ok (.istore_n 2, 1) := by decide +kernel
theorem d_Ma_start_45 : decode b_Ma_start 45 = .ok (.iload_n 2, 1) := by decide +kernel
theorem d_Ma_start_46 : decode b_Ma_start 46 = .ok (.sipush 3000, 3) := by decide +kernel
theorem d_Ma_start_49 : decode b_Ma_start 49 = .ok (.if_icmp .ge 32, 3) := by decide +kernel
theorem d_Ma_start_52 : decode b_Ma_start 52 = .ok (.aload_n 0, 1) := by decide +kernel
theorem d_Ma_start_53 : decode b_Ma_start 53 = .ok (.getfield 18, 3) := by decide +kernel
theorem d_Ma_start_56 : decode b_Ma_start 56 = .ok (.iconst 0, 1) := by decide +kernel
theorem d_Ma_start_57 : decode b_Ma_start 57 = .ok (.iaload, 1) := by decide +kernel
theorem d_Ma_start_58 : decode b_Ma_start 58 = .ok (.ifCond .ne 23, 3) := by decide +kernel
theorem d_Ma_start_61 : decode b_Ma_start 61 = .ok (.aload_n 0, 1) := by decide +kernel
theorem d_Ma_start_62 : decode b_Ma_start 62 = .ok (.getfield 18, 3) := by decide +kernel
theorem d_Ma_start_65 : decode b_Ma_start 65 = .ok (.iconst 2, 1) := by decide +kernel
theorem d_Ma_start_66 : decode b_Ma_start 66 = .ok (.dup2, 1) := by decide +kernel
theorem d_Ma_start_67 : decode b_Ma_start 67 = .ok (.iaload, 1) := by decide +kernel
theorem d_Ma_start_68 : decode b_Ma_start 68 = .ok (.iconst 1, 1) := by decide +kernel
theorem d_Ma_start_69 : decode b_Ma_start 69 = .ok (.iadd, 1) := by decide +kernel
theorem d_Ma_start_70 : decode b_Ma_start 70 = .ok (.iastore, 1) := by decide +kernel
theorem d_Ma_start_71 : decode b_Ma_start 71 = .ok (.aload_n 0, 1) := by decide +kernel
theorem d_Ma_start_72 : decode b_Ma_start 72 = .ok (.invokevirtual 54, 3) := by decide +kernel
theorem d_Ma_start_75 : decode b_Ma_start 75 = .ok (.iinc 2 1, 3) := by decide +kernel
theorem d_Ma_start_78 : decode b_Ma_start 78 = .ok (.goto (-33), 3) := by decide +kernel
theorem d_Ma_start_81 : decode b_Ma_start 81 = .ok (.aload_n 0, 1) := by decide +kernel
theorem d_Ma_start_82 : decode b_Ma_start 82 = .ok (.getfield 18, 3) := by decide +kernel
theorem d_Ma_start_85 : decode b_Ma_start 85 = .ok (.iconst 0, 1) := by decide +kernel
theorem d_Ma_start_86 : decode b_Ma_start 86 = .ok (.iaload, 1) := by decide +kernel
theorem d_Ma_start_87 : decode b_Ma_start 87 = .ok (.ifCond .ne 10, 3) := by decide +kernel
theorem d_Ma_start_90 : decode b_Ma_start 90 = .ok (.aload_n 0, 1) := by decide +kernel
theorem d_Ma_start_91 : decode b_Ma_start 91 = .ok (.getfield 18, 3) := by decide +kernel
theorem d_Ma_start_94 : decode b_Ma_start 94 = .ok (.iconst 0, 1) := by decide +kernel
theorem d_Ma_start_95 : decode b_Ma_start 95 = .ok (.iconst 3, 1) := by decide +kernel
theorem d_Ma_start_96 : decode b_Ma_start 96 = .ok (.iastore, 1) := by decide +kernel
theorem d_Ma_start_97 : decode b_Ma_start 97 = .ok (.aload_n 0, 1) := by decide +kernel
theorem d_Ma_start_98 : decode b_Ma_start 98 = .ok (.getfield 18, 3) := by decide +kernel
theorem d_Ma_start_101 : decode b_Ma_start 101 = .ok (.iconst 0, 1) := by decide +kernel
theorem d_Ma_start_102 : decode b_Ma_start 102 = .ok (.iaload, 1) := by decide +kernel
theorem d_Ma_start_103 : decode b_Ma_start 103 = .ok (.ireturn, 1) := by decide +kernel
theorem d_UM_run_0 : decode b_UM_run 0 = .ok (.aload_n 0, 1) := by decide +kernel
theorem d_UM_run_1 : decode b_UM_run 1 = .ok (.getfield 19, 3) := by decide +kernel
theorem d_UM_run_4 : decode b_UM_run 4 = .ok (.invokevirtual 55, 3) := by decide +kernel
theorem d_UM_run_7 : decode b_UM_run 7 = .ok (.ifCond .eq 29, 3) := by decide +kernel
theorem d_UM_run_10 : decode b_UM_run 10 = .ok (.iload_n 1, 1) := by decide +kernel
theorem d_UM_run_11 : decode b_UM_run 11 = .ok (.invokestatic 91, 3) := by decide +kernel
theorem d_UM_run_14 : decode b_UM_run 14 = .ok (.ifCond .eq 22, 3) := by decide +kernel
theorem d_UM_run_17 : decode b_UM_run 17 = .ok (.aload_n 0, 1) := by decide +kernel
theorem d_UM_run_18 : decode b_UM_run 18 = .ok (.getfield 37, 3) := by decide +kernel
theorem d_UM_run_21 : decode b_UM_run 21 = .ok (.aload_n 0, 1) := by decide +kernel
theorem d_UM_run_22 : decode b_UM_run 22 = .ok (.getfield 19, 3) := by decide +kernel
theorem d_UM_run_25 : decode b_UM_run 25 = .ok (.getfield 95, 3) := by decide +kernel
theorem d_UM_run_28 : decode b_UM_run 28 = .ok (.iload_n 1, 1) := by decide +kernel
theorem d_UM_run_29 : decode b_UM_run 29 = .ok (.iaload, 1) := by decide +kernel
theorem d_UM_run_30 : decode b_UM_run 30 = .ok (.invokevirtual 105, 3) := by decide +kernel
theorem d_UM_run_33 : decode b_UM_run 33 = .ok (.goto 4, 3) := by decide +kernel
theorem d_UM_run_36 : decode b_UM_run 36 = .ok (.iconst (-1), 1) := by decide +kernel
theorem d_UM_run_37 : decode b_UM_run 37 = .ok (.ireturn, 1) := by decide +kernel
theorem d_UM_latest_0 : decode b_UM_latest 0 = .ok (.aload_n 0, 1) := by decide +kernel
theorem d_UM_latest_1 : decode b_UM_latest 1 = .ok (.getfield 37, 3) := by decide +kernel
theorem d_UM_latest_4 : decode b_UM_latest 4 = .ok (.getfield 109, 3) := by decide +kernel
theorem d_UM_latest_7 : decode b_UM_latest 7 = .ok (.ifCond .eq 25, 3) := by decide +kernel
theorem d_UM_latest_10 : decode b_UM_latest 10 = .ok (.iload_n 1, 1) := by decide +kernel
theorem d_UM_latest_11 : decode b_UM_latest 11 = .ok (.ifCond .lt 21, 3) := by decide +kernel
theorem d_UM_latest_14 : decode b_UM_latest 14 = .ok (.iload_n 1, 1) := by decide +kernel
theorem d_UM_latest_15 : decode b_UM_latest 15 = .ok (.bipush 6, 2) := by decide +kernel
theorem d_UM_latest_17 : decode b_UM_latest 17 = .ok (.if_icmp .ge 15, 3) := by decide +kernel
theorem d_UM_latest_20 : decode b_UM_latest 20 = .ok (.aload_n 0, 1) := by decide +kernel
theorem d_UM_latest_21 : decode b_UM_latest 21 = .ok (.getfield 37, 3) := by decide +kernel
theorem d_UM_latest_24 : decode b_UM_latest 24 = .ok (.getfield 113, 3) := by decide +kernel
theorem d_UM_latest_27 : decode b_UM_latest 27 = .ok (.iload_n 1, 1) := by decide +kernel
theorem d_UM_latest_28 : decode b_UM_latest 28 = .ok (.iaload, 1) := by decide +kernel
theorem d_UM_latest_29 : decode b_UM_latest 29 = .ok (.goto 4, 3) := by decide +kernel
theorem d_UM_latest_32 : decode b_UM_latest 32 = .ok (.iconst (-1), 1) := by decide +kernel
theorem d_UM_latest_33 : decode b_UM_latest 33 = .ok (.ireturn, 1) := by decide +kernel
theorem d_UM_out_0 : decode b_UM_out 0 = .ok (.iload_n 1, 1) := by decide +kernel
theorem d_UM_out_1 : decode b_UM_out 1 = .ok (.ifCond .lt 28, 3) := by decide +kernel
theorem d_UM_out_4 : decode b_UM_out 4 = .ok (.iload_n 1, 1) := by decide +kernel
theorem d_UM_out_5 : decode b_UM_out 5 = .ok (.aload_n 0, 1) := by decide +kernel
theorem d_UM_out_6 : decode b_UM_out 6 = .ok (.getfield 37, 3) := by decide +kernel
theorem d_UM_out_9 : decode b_UM_out 9 = .ok (.getfield 113, 3) := by decide +kernel
theorem d_UM_out_12 : decode b_UM_out 12 = .ok (.iconst 3, 1) := by decide +kernel
theorem d_UM_out_13 : decode b_UM_out 13 = .ok (.iaload, 1) := by decide +kernel
theorem d_UM_out_14 : decode b_UM_out 14 = .ok (.if_icmp .ge 15, 3) := by decide +kernel
theorem d_UM_out_17 : decode b_UM_out 17 = .ok (.aload_n 0, 1) := by decide +kernel
theorem d_UM_out_18 : decode b_UM_out 18 = .ok (.getfield 37, 3) := by decide +kernel
theorem d_UM_out_21 : decode b_UM_out 21 = .ok (.getfield 116, 3) := by decide +kernel
theorem d_UM_out_24 : decode b_UM_out 24 = .ok (.iload_n 1, 1) := by decide +kernel
theorem d_UM_out_25 : decode b_UM_out 25 = .ok (.iaload, 1) := by decide +kernel
theorem d_UM_out_26 : decode b_UM_out 26 = .ok (.goto 4, 3) := by decide +kernel
theorem d_UM_out_29 : decode b_UM_out 29 = .ok (.iconst 0, 1) := by decide +kernel
theorem d_UM_out_30 : decode b_UM_out 30 = .ok (.ireturn, 1) := by decide +kernel
theorem d_UM_variable_0 : decode b_UM_variable 0 = .ok (.iload_n 1, 1) := by decide +kernel
theorem d_UM_variable_1 : decode b_UM_variable 1 = .ok (.invokestatic 119, 3) := by decide +kernel
theorem d_UM_variable_4 : decode b_UM_variable 4 = .ok (.ifCond .eq 15, 3) := by decide +kernel
theorem d_UM_variable_7 : decode b_UM_variable 7 = .ok (.aload_n 0, 1) := by decide +kernel
theorem d_UM_variable_8 : decode b_UM_variable 8 = .ok (.getfield 37, 3) := by decide +kernel
theorem d_UM_variable_11 : decode b_UM_variable 11 = .ok (.getfield 122, 3) := by decide +kernel
theorem d_UM_variable_14 : decode b_UM_variable 14 = .ok (.iload_n 1, 1) := by decide +kernel
theorem d_UM_variable_15 : decode b_UM_variable 15 = .ok (.iaload, 1) := by decide +kernel
theorem d_UM_variable_16 : decode b_UM_variable 16 = .ok (.goto 4, 3) := by decide +kernel
theorem d_UM_variable_19 : decode b_UM_variable 19 = .ok (.iconst 0, 1) := by decide +kernel
theorem d_UM_variable_20 : decode b_UM_variable 20 = .ok (.ireturn, 1) := by decide +kernel
theorem d_Mo_isThere_0 : decode b_Mo_isThere 0 = .ok (.iload_n 1, 1) := by decide +kernel
theorem d_Mo_isThere_1 : decode b_Mo_isThere 1 = .ok (.ifCond .lt 35, 3) := by decide +kernel
theorem d_Mo_isThere_4 : decode b_Mo_isThere 4 = .ok (.iload_n 1, 1) := by decide +kernel
theorem d_Mo_isThere_5 : decode b_Mo_isThere 5 = .ok (.aload_n 0, 1) := by decide +kernel
theorem d_Mo_isThere_6 : decode b_Mo_isThere 6 = .ok (.getfield 128, 3) := by decide +kernel
theorem d_Mo_isThere_9 : decode b_Mo_isThere 9 = .ok (.if_icmp .ge 27, 3) := by decide +kernel
theorem d_Mo_isThere_12 : decode b_Mo_isThere 12 = .ok (.aload_n 0, 1) := by decide +kernel
theorem d_Mo_isThere_13 : decode b_Mo_isThere 13 = .ok (.getfield 7, 3) := by decide +kernel
theorem d_Mo_isThere_16 : decode b_Mo_isThere 16 = .ok (.iload_n 1, 1) := by decide +kernel
theorem d_Mo_isThere_17 : decode b_Mo_isThere 17 = .ok (.iaload, 1) := by decide +kernel
theorem d_Mo_isThere_18 : decode b_Mo_isThere 18 = .ok (.iload_n 2, 1) := by decide +kernel
theorem d_Mo_isThere_19 : decode b_Mo_isThere 19 = .ok (.if_icmp .lt 17, 3) := by decide +kernel
theorem d_Mo_isThere_22 : decode b_Mo_isThere 22 = .ok (.aload_n 0, 1) := by decide +kernel
theorem d_Mo_isThere_23 : decode b_Mo_isThere 23 = .ok (.getfield 7, 3) := by decide +kernel
theorem d_Mo_isThere_26 : decode b_Mo_isThere 26 = .ok (.iload_n 1, 1) := by decide +kernel
theorem d_Mo_isThere_27 : decode b_Mo_isThere 27 = .ok (.iaload, 1) := by decide +kernel
theorem d_Mo_isThere_28 : decode b_Mo_isThere 28 = .ok (.iload_n 3, 1) := by decide +kernel
theorem d_Mo_isThere_29 : decode b_Mo_isThere 29 = .ok (.if_icmp .gt 7, 3) := by decide +kernel
theorem d_Mo_isThere_32 : decode b_Mo_isThere 32 = .ok (.iconst 1, 1) := by decide +kernel
theorem d_Mo_isThere_33 : decode b_Mo_isThere 33 = .ok (.goto 4, 3) := by decide +kernel
theorem d_Mo_isThere_36 : decode b_Mo_isThere 36 = .ok (.iconst 0, 1) := by decide +kernel
theorem d_Mo_isThere_37 : decode b_Mo_isThere 37 = .ok (.ireturn, 1) := by decide +kernel
theorem d_Mo_isStatement_0 : decode b_Mo_isStatement 0 = .ok (.aload_n 0, 1) := by decide +kernel
theorem d_Mo_isStatement_1 : decode b_Mo_isStatement 1 = .ok (.iload_n 1, 1) := by decide +kernel
theorem d_Mo_isStatement_2 : decode b_Mo_isStatement 2 = .ok (.bipush 8, 2) := by decide +kernel
theorem d_Mo_isStatement_4 : decode b_Mo_isStatement 4 = .ok (.bipush 18, 2) := by decide +kernel
theorem d_Mo_isStatement_6 : decode b_Mo_isStatement 6 = .ok (.invokevirtual 131, 3) := by decide +kernel
theorem d_Mo_isStatement_9 : decode b_Mo_isStatement 9 = .ok (.ireturn, 1) := by decide +kernel
theorem d_Mo_isVariable_0 : decode b_Mo_isVariable 0 = .ok (.iload_n 0, 1) := by decide +kernel
theorem d_Mo_isVariable_1 : decode b_Mo_isVariable 1 = .ok (.ifCond .lt 13, 3) := by decide +kernel
theorem d_Mo_isVariable_4 : decode b_Mo_isVariable 4 = .ok (.iload_n 0, 1) := by decide +kernel
theorem d_Mo_isVariable_5 : decode b_Mo_isVariable 5 = .ok (.bipush 8, 2) := by decide +kernel
theorem d_Mo_isVariable_7 : decode b_Mo_isVariable 7 = .ok (.if_icmp .ge 7, 3) := by decide +kernel
theorem d_Mo_isVariable_10 : decode b_Mo_isVariable 10 = .ok (.iconst 1, 1) := by decide +kernel
theorem d_Mo_isVariable_11 : decode b_Mo_isVariable 11 = .ok (.goto 4, 3) := by decide +kernel
theorem d_Mo_isVariable_14 : decode b_Mo_isVariable 14 = .ok (.iconst 0, 1) := by decide +kernel
theorem d_Mo_isVariable_15 : decode b_Mo_isVariable 15 = .ok (.ireturn, 1) := by decide +kernel
theorem d_Mo_isExpression_0 : decode b_Mo_isExpression 0 = .ok (.aload_n 0, 1) := by decide +kernel
theorem d_Mo_isExpression_1 : decode b_Mo_isExpression 1 = .ok (.iload_n 1, 1) := by decide +kernel
theorem d_Mo_isExpression_2 : decode b_Mo_isExpression 2 = .ok (.iconst 0, 1) := by decide +kernel
theorem d_Mo_isExpression_3 : decode b_Mo_isExpression 3 = .ok (.bipush 7, 2) := by decide +kernel
theorem d_Mo_isExpression_5 : decode b_Mo_isExpression 5 = .ok (.invokevirtual 131, 3) := by decide +kernel
theorem d_Mo_isExpression_8 : decode b_Mo_isExpression 8 = .ok (.ireturn, 1) := by decide +kernel
theorem d_Mo_isCatch_0 : decode b_Mo_isCatch 0 = .ok (.aload_n 0, 1) := by decide +kernel
theorem d_Mo_isCatch_1 : decode b_Mo_isCatch 1 = .ok (.iload_n 1, 1) := by decide +kernel
theorem d_Mo_isCatch_2 : decode b_Mo_isCatch 2 = .ok (.bipush 19, 2) := by decide +kernel
theorem d_Mo_isCatch_4 : decode b_Mo_isCatch 4 = .ok (.bipush 20, 2) := by decide +kernel
theorem d_Mo_isCatch_6 : decode b_Mo_isCatch 6 = .ok (.invokevirtual 131, 3) := by decide +kernel
theorem d_Mo_isCatch_9 : decode b_Mo_isCatch 9 = .ok (.ireturn, 1) := by decide +kernel
