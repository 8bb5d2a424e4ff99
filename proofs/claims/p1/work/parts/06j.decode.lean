theorem d_Mo_tries_0 : decode b_Mo_tries 0 = .ok (.aload_n 0, 1) := by decide +kernel
theorem d_Mo_tries_1 : decode b_Mo_tries 1 = .ok (.getfield 82, 3) := by decide +kernel
theorem d_Mo_tries_4 : decode b_Mo_tries 4 = .ok (.iload_n 1, 1) := by decide +kernel
theorem d_Mo_tries_5 : decode b_Mo_tries 5 = .ok (.iaload, 1) := by decide +kernel
theorem d_Mo_tries_6 : decode b_Mo_tries 6 = .ok (.istore_n 2, 1) := by decide +kernel
theorem d_Mo_tries_7 : decode b_Mo_tries 7 = .ok (.aload_n 0, 1) := by decide +kernel
theorem d_Mo_tries_8 : decode b_Mo_tries 8 = .ok (.getfield 94, 3) := by decide +kernel
theorem d_Mo_tries_11 : decode b_Mo_tries 11 = .ok (.iload_n 1, 1) := by decide +kernel
theorem d_Mo_tries_12 : decode b_Mo_tries 12 = .ok (.iaload, 1) := by decide +kernel
theorem d_Mo_tries_13 : decode b_Mo_tries 13 = .ok (.lookupswitch 112 #[(1, 27), (2, 86)], 27) := by decide +kernel
theorem d_Mo_tries_40 : decode b_Mo_tries 40 = .ok (.aload_n 0, 1) := by decide +kernel
theorem d_Mo_tries_41 : decode b_Mo_tries 41 = .ok (.iload_n 1, 1) := by decide +kernel
theorem d_Mo_tries_42 : decode b_Mo_tries 42 = .ok (.invokevirtual 213, 3) := by decide +kernel
theorem d_Mo_tries_45 : decode b_Mo_tries 45 = .ok (.aload_n 0, 1) := by decide +kernel
theorem d_Mo_tries_46 : decode b_Mo_tries 46 = .ok (.aload_n 0, 1) := by decide +kernel
theorem d_Mo_tries_47 : decode b_Mo_tries 47 = .ok (.getfield 13, 3) := by decide +kernel
theorem d_Mo_tries_50 : decode b_Mo_tries 50 = .ok (.iload_n 2, 1) := by decide +kernel
theorem d_Mo_tries_51 : decode b_Mo_tries 51 = .ok (.iaload, 1) := by decide +kernel
theorem d_Mo_tries_52 : decode b_Mo_tries 52 = .ok (.iconst 2, 1) := by decide +kernel
theorem d_Mo_tries_53 : decode b_Mo_tries 53 = .ok (.aload_n 0, 1) := by decide +kernel
theorem d_Mo_tries_54 : decode b_Mo_tries 54 = .ok (.getfield 97, 3) := by decide +kernel
theorem d_Mo_tries_57 : decode b_Mo_tries 57 = .ok (.iload_n 1, 1) := by decide +kernel
theorem d_Mo_tries_58 : decode b_Mo_tries 58 = .ok (.iaload, 1) := by decide +kernel
theorem d_Mo_tries_59 : decode b_Mo_tries 59 = .ok (.imul, 1) := by decide +kernel
theorem d_Mo_tries_60 : decode b_Mo_tries 60 = .ok (.aload_n 0, 1) := by decide +kernel
theorem d_Mo_tries_61 : decode b_Mo_tries 61 = .ok (.getfield 88, 3) := by decide +kernel
theorem d_Mo_tries_64 : decode b_Mo_tries 64 = .ok (.iload_n 1, 1) := by decide +kernel
theorem d_Mo_tries_65 : decode b_Mo_tries 65 = .ok (.iaload, 1) := by decide +kernel
theorem d_Mo_tries_66 : decode b_Mo_tries 66 = .ok (.iconst 1, 1) := by decide +kernel
theorem d_Mo_tries_67 : decode b_Mo_tries 67 = .ok (.iadd, 1) := by decide +kernel
theorem d_Mo_tries_68 : decode b_Mo_tries 68 = .ok (.aload_n 0, 1) := by decide +kernel
theorem d_Mo_tries_69 : decode b_Mo_tries 69 = .ok (.getfield 91, 3) := by decide +kernel
theorem d_Mo_tries_72 : decode b_Mo_tries 72 = .ok (.iload_n 1, 1) := by decide +kernel
theorem d_Mo_tries_73 : decode b_Mo_tries 73 = .ok (.iaload, 1) := by decide +kernel
theorem d_Mo_tries_74 : decode b_Mo_tries 74 = .ok (.aload_n 0, 1) := by decide +kernel
theorem d_Mo_tries_75 : decode b_Mo_tries 75 = .ok (.aload_n 0, 1) := by decide +kernel
theorem d_Mo_tries_76 : decode b_Mo_tries 76 = .ok (.getfield 97, 3) := by decide +kernel
theorem d_Mo_tries_79 : decode b_Mo_tries 79 = .ok (.iload_n 1, 1) := by decide +kernel
theorem d_Mo_tries_80 : decode b_Mo_tries 80 = .ok (.iaload, 1) := by decide +kernel
theorem d_Mo_tries_81 : decode b_Mo_tries 81 = .ok (.invokevirtual 225, 3) := by decide +kernel
theorem d_Mo_tries_84 : decode b_Mo_tries 84 = .ok (.ifCond .eq 7, 3) := by decide +kernel
theorem d_Mo_tries_87 : decode b_Mo_tries 87 = .ok (.iconst 1, 1) := by decide +kernel
theorem d_Mo_tries_88 : decode b_Mo_tries 88 = .ok (.goto 4, 3) := by decide +kernel
theorem d_Mo_tries_91 : decode b_Mo_tries 91 = .ok (.iconst 0, 1) := by decide +kernel
theorem d_Mo_tries_92 : decode b_Mo_tries 92 = .ok (.iadd, 1) := by decide +kernel
theorem d_Mo_tries_93 : decode b_Mo_tries 93 = .ok (.invokevirtual 176, 3) := by decide +kernel
theorem d_Mo_tries_96 : decode b_Mo_tries 96 = .ok (.goto 95, 3) := by decide +kernel
theorem d_Mo_tries_99 : decode b_Mo_tries 99 = .ok (.aload_n 0, 1) := by decide +kernel
theorem d_Mo_tries_100 : decode b_Mo_tries 100 = .ok (.aload_n 0, 1) := by decide +kernel
theorem d_Mo_tries_101 : decode b_Mo_tries 101 = .ok (.getfield 97, 3) := by decide +kernel
theorem d_Mo_tries_104 : decode b_Mo_tries 104 = .ok (.iload_n 1, 1) := by decide +kernel
theorem d_Mo_tries_105 : decode b_Mo_tries 105 = .ok (.iaload, 1) := by decide +kernel
theorem d_Mo_tries_106 : decode b_Mo_tries 106 = .ok (.invokevirtual 225, 3) := by decide +kernel
theorem d_Mo_tries_109 : decode b_Mo_tries 109 = .ok (.ifCond .eq 82, 3) := by decide +kernel
theorem d_Mo_tries_112 : decode b_Mo_tries 112 = .ok (.aload_n 0, 1) := by decide +kernel
theorem d_Mo_tries_113 : decode b_Mo_tries 113 = .ok (.aload_n 0, 1) := by decide +kernel
theorem d_Mo_tries_114 : decode b_Mo_tries 114 = .ok (.getfield 97, 3) := by decide +kernel
theorem d_Mo_tries_117 : decode b_Mo_tries 117 = .ok (.iload_n 1, 1) := by decide +kernel
theorem d_Mo_tries_118 : decode b_Mo_tries 118 = .ok (.iaload, 1) := by decide +kernel
theorem d_Mo_tries_119 : decode b_Mo_tries 119 = .ok (.invokevirtual 228, 3) := by decide +kernel
theorem d_Mo_tries_122 : decode b_Mo_tries 122 = .ok (.goto 69, 3) := by decide +kernel
theorem d_Mo_tries_125 : decode b_Mo_tries 125 = .ok (.aload_n 0, 1) := by decide +kernel
theorem d_Mo_tries_126 : decode b_Mo_tries 126 = .ok (.aload_n 0, 1) := by decide +kernel
theorem d_Mo_tries_127 : decode b_Mo_tries 127 = .ok (.getfield 97, 3) := by decide +kernel
theorem d_Mo_tries_130 : decode b_Mo_tries 130 = .ok (.iload_n 1, 1) := by decide +kernel
theorem d_Mo_tries_131 : decode b_Mo_tries 131 = .ok (.iaload, 1) := by decide +kernel
theorem d_Mo_tries_132 : decode b_Mo_tries 132 = .ok (.invokevirtual 216, 3) := by decide +kernel
theorem d_Mo_tries_135 : decode b_Mo_tries 135 = .ok (.aload_n 0, 1) := by decide +kernel
theorem d_Mo_tries_136 : decode b_Mo_tries 136 = .ok (.iload_n 2, 1) := by decide +kernel
theorem d_Mo_tries_137 : decode b_Mo_tries 137 = .ok (.invokevirtual 160, 3) := by decide +kernel
theorem d_Mo_tries_140 : decode b_Mo_tries 140 = .ok (.ifCond .gt 16, 3) := by decide +kernel
theorem d_Mo_tries_143 : decode b_Mo_tries 143 = .ok (.aload_n 0, 1) := by decide +kernel
theorem d_Mo_tries_144 : decode b_Mo_tries 144 = .ok (.aload_n 0, 1) := by decide +kernel
theorem d_Mo_tries_145 : decode b_Mo_tries 145 = .ok (.getfield 97, 3) := by decide +kernel
theorem d_Mo_tries_148 : decode b_Mo_tries 148 = .ok (.iload_n 1, 1) := by decide +kernel
theorem d_Mo_tries_149 : decode b_Mo_tries 149 = .ok (.iaload, 1) := by decide +kernel
theorem d_Mo_tries_150 : decode b_Mo_tries 150 = .ok (.invokevirtual 225, 3) := by decide +kernel
theorem d_Mo_tries_153 : decode b_Mo_tries 153 = .ok (.ifCond .eq 28, 3) := by decide +kernel
theorem d_Mo_tries_156 : decode b_Mo_tries 156 = .ok (.aload_n 0, 1) := by decide +kernel
theorem d_Mo_tries_157 : decode b_Mo_tries 157 = .ok (.getfield 79, 3) := by decide +kernel
theorem d_Mo_tries_160 : decode b_Mo_tries 160 = .ok (.aload_n 0, 1) := by decide +kernel
theorem d_Mo_tries_161 : decode b_Mo_tries 161 = .ok (.getfield 231, 3) := by decide +kernel
theorem d_Mo_tries_164 : decode b_Mo_tries 164 = .ok (.aload_n 0, 1) := by decide +kernel
theorem d_Mo_tries_165 : decode b_Mo_tries 165 = .ok (.getfield 97, 3) := by decide +kernel
theorem d_Mo_tries_168 : decode b_Mo_tries 168 = .ok (.iload_n 1, 1) := by decide +kernel
theorem d_Mo_tries_169 : decode b_Mo_tries 169 = .ok (.iaload, 1) := by decide +kernel
theorem d_Mo_tries_170 : decode b_Mo_tries 170 = .ok (.iastore, 1) := by decide +kernel
theorem d_Mo_tries_171 : decode b_Mo_tries 171 = .ok (.aload_n 0, 1) := by decide +kernel
theorem d_Mo_tries_172 : decode b_Mo_tries 172 = .ok (.dup, 1) := by decide +kernel
theorem d_Mo_tries_173 : decode b_Mo_tries 173 = .ok (.getfield 231, 3) := by decide +kernel
theorem d_Mo_tries_176 : decode b_Mo_tries 176 = .ok (.iconst 1, 1) := by decide +kernel
theorem d_Mo_tries_177 : decode b_Mo_tries 177 = .ok (.iadd, 1) := by decide +kernel
theorem d_Mo_tries_178 : decode b_Mo_tries 178 = .ok (.putfield 231, 3) := by decide +kernel
theorem d_Mo_tries_181 : decode b_Mo_tries 181 = .ok (.aload_n 0, 1) := by decide +kernel
theorem d_Mo_tries_182 : decode b_Mo_tries 182 = .ok (.dup, 1) := by decide +kernel
theorem d_Mo_tries_183 : decode b_Mo_tries 183 = .ok (.getfield 173, 3) := by decide +kernel
theorem d_Mo_tries_186 : decode b_Mo_tries 186 = .ok (.iconst 1, 1) := by decide +kernel
theorem d_Mo_tries_187 : decode b_Mo_tries 187 = .ok (.isub, 1) := by decide +kernel
theorem d_Mo_tries_188 : decode b_Mo_tries 188 = .ok (.putfield 173, 3) := by decide +kernel
theorem d_Mo_tries_191 : decode b_Mo_tries 191 = .ok (.return_, 1) := by decide +kernel
theorem d_Mo_apart_0 : decode b_Mo_apart 0 = .ok (.aload_n 0, 1) := by decide +kernel
theorem d_Mo_apart_1 : decode b_Mo_apart 1 = .ok (.getfield 97, 3) := by decide +kernel
theorem d_Mo_apart_4 : decode b_Mo_apart 4 = .ok (.iload_n 1, 1) := by decide +kernel
theorem d_Mo_apart_5 : decode b_Mo_apart 5 = .ok (.iaload, 1) := by decide +kernel
theorem d_Mo_apart_6 : decode b_Mo_apart 6 = .ok (.istore_n 2, 1) := by decide +kernel
theorem d_Mo_apart_7 : decode b_Mo_apart 7 = .ok (.aload_n 0, 1) := by decide +kernel
theorem d_Mo_apart_8 : decode b_Mo_apart 8 = .ok (.getfield 82, 3) := by decide +kernel
theorem d_Mo_apart_11 : decode b_Mo_apart 11 = .ok (.iload_n 1, 1) := by decide +kernel
theorem d_Mo_apart_12 : decode b_Mo_apart 12 = .ok (.iaload, 1) := by decide +kernel
theorem d_Mo_apart_13 : decode b_Mo_apart 13 = .ok (.istore_n 3, 1) := by decide +kernel
theorem d_Mo_apart_14 : decode b_Mo_apart 14 = .ok (.aload_n 0, 1) := by decide +kernel
theorem d_Mo_apart_15 : decode b_Mo_apart 15 = .ok (.getfield 94, 3) := by decide +kernel
theorem d_Mo_apart_18 : decode b_Mo_apart 18 = .ok (.iload_n 1, 1) := by decide +kernel
theorem d_Mo_apart_19 : decode b_Mo_apart 19 = .ok (.iaload, 1) := by decide +kernel
theorem d_Mo_apart_20 : decode b_Mo_apart 20 = .ok (.bipush 101, 2) := by decide +kernel
theorem d_Mo_apart_22 : decode b_Mo_apart 22 = .ok (.if_icmp .ne 118, 3) := by decide +kernel
theorem d_Mo_apart_25 : decode b_Mo_apart 25 = .ok (.aload_n 0, 1) := by decide +kernel
theorem d_Mo_apart_26 : decode b_Mo_apart 26 = .ok (.getfield 100, 3) := by decide +kernel
theorem d_Mo_apart_29 : decode b_Mo_apart 29 = .ok (.iload_n 1, 1) := by decide +kernel
theorem d_Mo_apart_30 : decode b_Mo_apart 30 = .ok (.iaload, 1) := by decide +kernel
theorem d_Mo_apart_31 : decode b_Mo_apart 31 = .ok (.aload_n 0, 1) := by decide +kernel
theorem d_Mo_apart_32 : decode b_Mo_apart 32 = .ok (.iload_n 3, 1) := by decide +kernel
theorem d_Mo_apart_33 : decode b_Mo_apart 33 = .ok (.invokevirtual 160, 3) := by decide +kernel
theorem d_Mo_apart_36 : decode b_Mo_apart 36 = .ok (.if_icmp .ge 104, 3) := by decide +kernel
theorem d_Mo_apart_39 : decode b_Mo_apart 39 = .ok (.aload_n 0, 1) := by decide +kernel
theorem d_Mo_apart_40 : decode b_Mo_apart 40 = .ok (.iload_n 3, 1) := by decide +kernel
theorem d_Mo_apart_41 : decode b_Mo_apart 41 = .ok (.aload_n 0, 1) := by decide +kernel
theorem d_Mo_apart_42 : decode b_Mo_apart 42 = .ok (.getfield 100, 3) := by decide +kernel
theorem d_Mo_apart_45 : decode b_Mo_apart 45 = .ok (.iload_n 1, 1) := by decide +kernel
theorem d_Mo_apart_46 : decode b_Mo_apart 46 = .ok (.iaload, 1) := by decide +kernel
theorem d_Mo_apart_47 : decode b_Mo_apart 47 = .ok (.invokevirtual 234, 3) := by decide +kernel
theorem d_Mo_apart_50 : decode b_Mo_apart 50 = .ok (.istore 4, 2) := by decide +kernel
theorem d_Mo_apart_52 : decode b_Mo_apart 52 = .ok (.aload_n 0, 1) := by decide +kernel
theorem d_Mo_apart_53 : decode b_Mo_apart 53 = .ok (.getfield 76, 3) := by decide +kernel
theorem d_Mo_apart_56 : decode b_Mo_apart 56 = .ok (.aload_n 0, 1) := by decide +kernel
theorem d_Mo_apart_57 : decode b_Mo_apart 57 = .ok (.getfield 238, 3) := by decide +kernel
theorem d_Mo_apart_60 : decode b_Mo_apart 60 = .ok (.aload_n 0, 1) := by decide +kernel
theorem d_Mo_apart_61 : decode b_Mo_apart 61 = .ok (.getfield 164, 3) := by decide +kernel
theorem d_Mo_apart_64 : decode b_Mo_apart 64 = .ok (.iastore, 1) := by decide +kernel
theorem d_Mo_apart_65 : decode b_Mo_apart 65 = .ok (.aload_n 0, 1) := by decide +kernel
theorem d_Mo_apart_66 : decode b_Mo_apart 66 = .ok (.dup, 1) := by decide +kernel
theorem d_Mo_apart_67 : decode b_Mo_apart 67 = .ok (.getfield 238, 3) := by decide +kernel
theorem d_Mo_apart_70 : decode b_Mo_apart 70 = .ok (.iconst 1, 1) := by decide +kernel
theorem d_Mo_apart_71 : decode b_Mo_apart 71 = .ok (.iadd, 1) := by decide +kernel
theorem d_Mo_apart_72 : decode b_Mo_apart 72 = .ok (.putfield 238, 3) := by decide +kernel
theorem d_Mo_apart_75 : decode b_Mo_apart 75 = .ok (.aload_n 0, 1) := by decide +kernel
theorem d_Mo_apart_76 : decode b_Mo_apart 76 = .ok (.bipush 8, 2) := by decide +kernel
theorem d_Mo_apart_78 : decode b_Mo_apart 78 = .ok (.aload_n 0, 1) := by decide +kernel
theorem d_Mo_apart_79 : decode b_Mo_apart 79 = .ok (.getfield 19, 3) := by decide +kernel
theorem d_Mo_apart_82 : decode b_Mo_apart 82 = .ok (.iload 4, 2) := by decide +kernel
theorem d_Mo_apart_84 : decode b_Mo_apart 84 = .ok (.iaload, 1) := by decide +kernel
theorem d_Mo_apart_85 : decode b_Mo_apart 85 = .ok (.iconst 2, 1) := by decide +kernel
theorem d_Mo_apart_86 : decode b_Mo_apart 86 = .ok (.iload_n 2, 1) := by decide +kernel
theorem d_Mo_apart_87 : decode b_Mo_apart 87 = .ok (.imul, 1) := by decide +kernel
theorem d_Mo_apart_88 : decode b_Mo_apart 88 = .ok (.iconst 1, 1) := by decide +kernel
theorem d_Mo_apart_89 : decode b_Mo_apart 89 = .ok (.iadd, 1) := by decide +kernel
theorem d_Mo_apart_90 : decode b_Mo_apart 90 = .ok (.invokevirtual 200, 3) := by decide +kernel
theorem d_Mo_apart_93 : decode b_Mo_apart 93 = .ok (.aload_n 0, 1) := by decide +kernel
theorem d_Mo_apart_94 : decode b_Mo_apart 94 = .ok (.aload_n 0, 1) := by decide +kernel
theorem d_Mo_apart_95 : decode b_Mo_apart 95 = .ok (.getfield 22, 3) := by decide +kernel
theorem d_Mo_apart_98 : decode b_Mo_apart 98 = .ok (.iload 4, 2) := by decide +kernel
theorem d_Mo_apart_100 : decode b_Mo_apart 100 = .ok (.iaload, 1) := by decide +kernel
theorem d_Mo_apart_101 : decode b_Mo_apart 101 = .ok (.iconst 2, 1) := by decide +kernel
theorem d_Mo_apart_102 : decode b_Mo_apart 102 = .ok (.iload_n 2, 1) := by decide +kernel
theorem d_Mo_apart_103 : decode b_Mo_apart 103 = .ok (.imul, 1) := by decide +kernel
theorem d_Mo_apart_104 : decode b_Mo_apart 104 = .ok (.iconst 1, 1) := by decide +kernel
theorem d_Mo_apart_105 : decode b_Mo_apart 105 = .ok (.iadd, 1) := by decide +kernel
theorem d_Mo_apart_106 : decode b_Mo_apart 106 = .ok (.aload_n 0, 1) := by decide +kernel
theorem d_Mo_apart_107 : decode b_Mo_apart 107 = .ok (.getfield 64, 3) := by decide +kernel
theorem d_Mo_apart_110 : decode b_Mo_apart 110 = .ok (.iload_n 2, 1) := by decide +kernel
theorem d_Mo_apart_111 : decode b_Mo_apart 111 = .ok (.iaload, 1) := by decide +kernel
theorem d_Mo_apart_112 : decode b_Mo_apart 112 = .ok (.iconst 1, 1) := by decide +kernel
theorem d_Mo_apart_113 : decode b_Mo_apart 113 = .ok (.iadd, 1) := by decide +kernel
theorem d_Mo_apart_114 : decode b_Mo_apart 114 = .ok (.aload_n 0, 1) := by decide +kernel
theorem d_Mo_apart_115 : decode b_Mo_apart 115 = .ok (.getfield 67, 3) := by decide +kernel
theorem d_Mo_apart_118 : decode b_Mo_apart 118 = .ok (.iload_n 2, 1) := by decide +kernel
theorem d_Mo_apart_119 : decode b_Mo_apart 119 = .ok (.iaload, 1) := by decide +kernel
theorem d_Mo_apart_120 : decode b_Mo_apart 120 = .ok (.aload_n 0, 1) := by decide +kernel
theorem d_Mo_apart_121 : decode b_Mo_apart 121 = .ok (.iload_n 2, 1) := by decide +kernel
theorem d_Mo_apart_122 : decode b_Mo_apart 122 = .ok (.invokevirtual 225, 3) := by decide +kernel
theorem d_Mo_apart_125 : decode b_Mo_apart 125 = .ok (.ifCond .eq 7, 3) := by decide +kernel
theorem d_Mo_apart_128 : decode b_Mo_apart 128 = .ok (.iconst 1, 1) := by decide +kernel
theorem d_Mo_apart_129 : decode b_Mo_apart 129 = .ok (.goto 4, 3) := by decide +kernel
theorem d_Mo_apart_132 : decode b_Mo_apart 132 = .ok (.iconst 0, 1) := by decide +kernel
theorem d_Mo_apart_133 : decode b_Mo_apart 133 = .ok (.iadd, 1) := by decide +kernel
theorem d_Mo_apart_134 : decode b_Mo_apart 134 = .ok (.invokevirtual 176, 3) := by decide +kernel
theorem d_Mo_apart_137 : decode b_Mo_apart 137 = .ok (.goto 239, 3) := by decide +kernel
theorem d_Mo_apart_140 : decode b_Mo_apart 140 = .ok (.aload_n 0, 1) := by decide +kernel
theorem d_Mo_apart_141 : decode b_Mo_apart 141 = .ok (.getfield 94, 3) := by decide +kernel
theorem d_Mo_apart_144 : decode b_Mo_apart 144 = .ok (.iload_n 1, 1) := by decide +kernel
theorem d_Mo_apart_145 : decode b_Mo_apart 145 = .ok (.iaload, 1) := by decide +kernel
theorem d_Mo_apart_146 : decode b_Mo_apart 146 = .ok (.bipush 101, 2) := by decide +kernel
theorem d_Mo_apart_148 : decode b_Mo_apart 148 = .ok (.if_icmp .ne 99, 3) := by decide +kernel
theorem d_Mo_apart_151 : decode b_Mo_apart 151 = .ok (.aload_n 0, 1) := by decide +kernel
theorem d_Mo_apart_152 : decode b_Mo_apart 152 = .ok (.iload_n 2, 1) := by decide +kernel
theorem d_Mo_apart_153 : decode b_Mo_apart 153 = .ok (.invokevirtual 225, 3) := by decide +kernel
theorem d_Mo_apart_156 : decode b_Mo_apart 156 = .ok (.ifCond .eq 91, 3) := by decide +kernel
theorem d_Mo_apart_159 : decode b_Mo_apart 159 = .ok (.aload_n 0, 1) := by decide +kernel
theorem d_Mo_apart_160 : decode b_Mo_apart 160 = .ok (.getfield 94, 3) := by decide +kernel
theorem d_Mo_apart_163 : decode b_Mo_apart 163 = .ok (.iload_n 1, 1) := by decide +kernel
theorem d_Mo_apart_164 : decode b_Mo_apart 164 = .ok (.sipush 201, 3) := by decide +kernel
theorem d_Mo_apart_167 : decode b_Mo_apart 167 = .ok (.iastore, 1) := by decide +kernel
theorem d_Mo_apart_168 : decode b_Mo_apart 168 = .ok (.aload_n 0, 1) := by decide +kernel
theorem d_Mo_apart_169 : decode b_Mo_apart 169 = .ok (.getfield 76, 3) := by decide +kernel
theorem d_Mo_apart_172 : decode b_Mo_apart 172 = .ok (.aload_n 0, 1) := by decide +kernel
theorem d_Mo_apart_173 : decode b_Mo_apart 173 = .ok (.getfield 238, 3) := by decide +kernel
theorem d_Mo_apart_176 : decode b_Mo_apart 176 = .ok (.aload_n 0, 1) := by decide +kernel
theorem d_Mo_apart_177 : decode b_Mo_apart 177 = .ok (.getfield 164, 3) := by decide +kernel
theorem d_Mo_apart_180 : decode b_Mo_apart 180 = .ok (.iastore, 1) := by decide +kernel
theorem d_Mo_apart_181 : decode b_Mo_apart 181 = .ok (.aload_n 0, 1) := by decide +kernel
theorem d_Mo_apart_182 : decode b_Mo_apart 182 = .ok (.dup, 1) := by decide +kernel
theorem d_Mo_apart_183 : decode b_Mo_apart 183 = .ok (.getfield 238, 3) := by decide +kernel
theorem d_Mo_apart_186 : decode b_Mo_apart 186 = .ok (.iconst 1, 1) := by decide +kernel
theorem d_Mo_apart_187 : decode b_Mo_apart 187 = .ok (.iadd, 1) := by decide +kernel
theorem d_Mo_apart_188 : decode b_Mo_apart 188 = .ok (.putfield 238, 3) := by decide +kernel
theorem d_Mo_apart_191 : decode b_Mo_apart 191 = .ok (.aload_n 0, 1) := by decide +kernel
theorem d_Mo_apart_192 : decode b_Mo_apart 192 = .ok (.aload_n 0, 1) := by decide +kernel
theorem d_Mo_apart_193 : decode b_Mo_apart 193 = .ok (.getfield 67, 3) := by decide +kernel
theorem d_Mo_apart_196 : decode b_Mo_apart 196 = .ok (.iload_n 2, 1) := by decide +kernel
theorem d_Mo_apart_197 : decode b_Mo_apart 197 = .ok (.iaload, 1) := by decide +kernel
theorem d_Mo_apart_198 : decode b_Mo_apart 198 = .ok (.aload_n 0, 1) := by decide +kernel
theorem d_Mo_apart_199 : decode b_Mo_apart 199 = .ok (.getfield 241, 3) := by decide +kernel
theorem d_Mo_apart_202 : decode b_Mo_apart 202 = .ok (.if_icmp .le 12, 3) := by decide +kernel
theorem d_Mo_apart_205 : decode b_Mo_apart 205 = .ok (.aload_n 0, 1) := by decide +kernel
theorem d_Mo_apart_206 : decode b_Mo_apart 206 = .ok (.getfield 67, 3) := by decide +kernel
theorem d_Mo_apart_209 : decode b_Mo_apart 209 = .ok (.iload_n 2, 1) := by decide +kernel
theorem d_Mo_apart_210 : decode b_Mo_apart 210 = .ok (.iaload, 1) := by decide +kernel
theorem d_Mo_apart_211 : decode b_Mo_apart 211 = .ok (.goto 7, 3) := by decide +kernel
theorem d_Mo_apart_214 : decode b_Mo_apart 214 = .ok (.aload_n 0, 1) := by decide +kernel
theorem d_Mo_apart_215 : decode b_Mo_apart 215 = .ok (.getfield 241, 3) := by decide +kernel
theorem d_Mo_apart_218 : decode b_Mo_apart 218 = .ok (.putfield 241, 3) := by decide +kernel
theorem d_Mo_apart_221 : decode b_Mo_apart 221 = .ok (.aload_n 0, 1) := by decide +kernel
theorem d_Mo_apart_222 : decode b_Mo_apart 222 = .ok (.bipush 15, 2) := by decide +kernel
theorem d_Mo_apart_224 : decode b_Mo_apart 224 = .ok (.aload_n 0, 1) := by decide +kernel
theorem d_Mo_apart_225 : decode b_Mo_apart 225 = .ok (.getfield 67, 3) := by decide +kernel
theorem d_Mo_apart_228 : decode b_Mo_apart 228 = .ok (.iload_n 2, 1) := by decide +kernel
theorem d_Mo_apart_229 : decode b_Mo_apart 229 = .ok (.iaload, 1) := by decide +kernel
theorem d_Mo_apart_230 : decode b_Mo_apart 230 = .ok (.aload_n 0, 1) := by decide +kernel
theorem d_Mo_apart_231 : decode b_Mo_apart 231 = .ok (.getfield 61, 3) := by decide +kernel
theorem d_Mo_apart_234 : decode b_Mo_apart 234 = .ok (.iload_n 2, 1) := by decide +kernel
theorem d_Mo_apart_235 : decode b_Mo_apart 235 = .ok (.iaload, 1) := by decide +kernel
theorem d_Mo_apart_236 : decode b_Mo_apart 236 = .ok (.invokevirtual 200, 3) := by decide +kernel
theorem d_Mo_apart_239 : decode b_Mo_apart 239 = .ok (.aload_n 0, 1) := by decide +kernel
theorem d_Mo_apart_240 : decode b_Mo_apart 240 = .ok (.iload_n 2, 1) := by decide +kernel
theorem d_Mo_apart_241 : decode b_Mo_apart 241 = .ok (.invokevirtual 228, 3) := by decide +kernel
theorem d_Mo_apart_244 : decode b_Mo_apart 244 = .ok (.goto 132, 3) := by decide +kernel
theorem d_Mo_apart_247 : decode b_Mo_apart 247 = .ok (.aload_n 0, 1) := by decide +kernel
theorem d_Mo_apart_248 : decode b_Mo_apart 248 = .ok (.getfield 94, 3) := by decide +kernel
theorem d_Mo_apart_251 : decode b_Mo_apart 251 = .ok (.iload_n 1, 1) := by decide +kernel
theorem d_Mo_apart_252 : decode b_Mo_apart 252 = .ok (.iaload, 1) := by decide +kernel
theorem d_Mo_apart_253 : decode b_Mo_apart 253 = .ok (.bipush 101, 2) := by decide +kernel
theorem d_Mo_apart_255 : decode b_Mo_apart 255 = .ok (.if_icmp .ne 16, 3) := by decide +kernel
theorem d_Mo_apart_258 : decode b_Mo_apart 258 = .ok (.aload_n 0, 1) := by decide +kernel
theorem d_Mo_apart_259 : decode b_Mo_apart 259 = .ok (.dup, 1) := by decide +kernel
theorem d_Mo_apart_260 : decode b_Mo_apart 260 = .ok (.getfield 173, 3) := by decide +kernel
theorem d_Mo_apart_263 : decode b_Mo_apart 263 = .ok (.iconst 1, 1) := by decide +kernel
theorem d_Mo_apart_264 : decode b_Mo_apart 264 = .ok (.isub, 1) := by decide +kernel
theorem d_Mo_apart_265 : decode b_Mo_apart 265 = .ok (.putfield 173, 3) := by decide +kernel
theorem d_Mo_apart_268 : decode b_Mo_apart 268 = .ok (.goto 108, 3) := by decide +kernel
theorem d_Mo_apart_271 : decode b_Mo_apart 271 = .ok (.aload_n 0, 1) := by decide +kernel
theorem d_Mo_apart_272 : decode b_Mo_apart 272 = .ok (.getfield 94, 3) := by decide +kernel
theorem d_Mo_apart_275 : decode b_Mo_apart 275 = .ok (.iload_n 1, 1) := by decide +kernel
theorem d_Mo_apart_276 : decode b_Mo_apart 276 = .ok (.iaload, 1) := by decide +kernel
theorem d_Mo_apart_277 : decode b_Mo_apart 277 = .ok (.bipush 102, 2) := by decide +kernel
theorem d_Mo_apart_279 : decode b_Mo_apart 279 = .ok (.if_icmp .ne 19, 3) := by decide +kernel
theorem d_Mo_apart_282 : decode b_Mo_apart 282 = .ok (.aload_n 0, 1) := by decide +kernel
theorem d_Mo_apart_283 : decode b_Mo_apart 283 = .ok (.iload_n 2, 1) := by decide +kernel
theorem d_Mo_apart_284 : decode b_Mo_apart 284 = .ok (.invokevirtual 225, 3) := by decide +kernel
theorem d_Mo_apart_287 : decode b_Mo_apart 287 = .ok (.ifCond .eq 89, 3) := by decide +kernel
theorem d_Mo_apart_290 : decode b_Mo_apart 290 = .ok (.aload_n 0, 1) := by decide +kernel
theorem d_Mo_apart_291 : decode b_Mo_apart 291 = .ok (.iload_n 2, 1) := by decide +kernel
theorem d_Mo_apart_292 : decode b_Mo_apart 292 = .ok (.invokevirtual 228, 3) := by decide +kernel
theorem d_Mo_apart_295 : decode b_Mo_apart 295 = .ok (.goto 81, 3) := by decide +kernel
theorem d_Mo_apart_298 : decode b_Mo_apart 298 = .ok (.aload_n 0, 1) := by decide +kernel
theorem d_Mo_apart_299 : decode b_Mo_apart 299 = .ok (.getfield 94, 3) := by decide +kernel
theorem d_Mo_apart_302 : decode b_Mo_apart 302 = .ok (.iload_n 1, 1) := by decide +kernel
theorem d_Mo_apart_303 : decode b_Mo_apart 303 = .ok (.iaload, 1) := by decide +kernel
theorem d_Mo_apart_304 : decode b_Mo_apart 304 = .ok (.bipush 103, 2) := by decide +kernel
theorem d_Mo_apart_306 : decode b_Mo_apart 306 = .ok (.if_icmp .ne 42, 3) := by decide +kernel
theorem d_Mo_apart_309 : decode b_Mo_apart 309 = .ok (.aload_n 0, 1) := by decide +kernel
theorem d_Mo_apart_310 : decode b_Mo_apart 310 = .ok (.bipush 11, 2) := by decide +kernel
theorem d_Mo_apart_312 : decode b_Mo_apart 312 = .ok (.aload_n 0, 1) := by decide +kernel
theorem d_Mo_apart_313 : decode b_Mo_apart 313 = .ok (.getfield 70, 3) := by decide +kernel
theorem d_Mo_apart_316 : decode b_Mo_apart 316 = .ok (.iload_n 2, 1) := by decide +kernel
theorem d_Mo_apart_317 : decode b_Mo_apart 317 = .ok (.iaload, 1) := by decide +kernel
theorem d_Mo_apart_318 : decode b_Mo_apart 318 = .ok (.aload_n 0, 1) := by decide +kernel
theorem d_Mo_apart_319 : decode b_Mo_apart 319 = .ok (.getfield 61, 3) := by decide +kernel
theorem d_Mo_apart_322 : decode b_Mo_apart 322 = .ok (.iload_n 2, 1) := by decide +kernel
theorem d_Mo_apart_323 : decode b_Mo_apart 323 = .ok (.iaload, 1) := by decide +kernel
theorem d_Mo_apart_324 : decode b_Mo_apart 324 = .ok (.invokevirtual 200, 3) := by decide +kernel
theorem d_Mo_apart_327 : decode b_Mo_apart 327 = .ok (.aload_n 0, 1) := by decide +kernel
theorem d_Mo_apart_328 : decode b_Mo_apart 328 = .ok (.getfield 100, 3) := by decide +kernel
theorem d_Mo_apart_331 : decode b_Mo_apart 331 = .ok (.iload_n 1, 1) := by decide +kernel
theorem d_Mo_apart_332 : decode b_Mo_apart 332 = .ok (.dup2, 1) := by decide +kernel
theorem d_Mo_apart_333 : decode b_Mo_apart 333 = .ok (.iaload, 1) := by decide +kernel
theorem d_Mo_apart_334 : decode b_Mo_apart 334 = .ok (.iconst 1, 1) := by decide +kernel
theorem d_Mo_apart_335 : decode b_Mo_apart 335 = .ok (.iadd, 1) := by decide +kernel
theorem d_Mo_apart_336 : decode b_Mo_apart 336 = .ok (.iastore, 1) := by decide +kernel
theorem d_Mo_apart_337 : decode b_Mo_apart 337 = .ok (.aload_n 0, 1) := by decide +kernel
theorem d_Mo_apart_338 : decode b_Mo_apart 338 = .ok (.getfield 94, 3) := by decide +kernel
theorem d_Mo_apart_341 : decode b_Mo_apart 341 = .ok (.iload_n 1, 1) := by decide +kernel
theorem d_Mo_apart_342 : decode b_Mo_apart 342 = .ok (.bipush 100, 2) := by decide +kernel
theorem d_Mo_apart_344 : decode b_Mo_apart 344 = .ok (.iastore, 1) := by decide +kernel
theorem d_Mo_apart_345 : decode b_Mo_apart 345 = .ok (.goto 31, 3) := by decide +kernel
theorem d_Mo_apart_348 : decode b_Mo_apart 348 = .ok (.aload_n 0, 1) := by decide +kernel
theorem d_Mo_apart_349 : decode b_Mo_apart 349 = .ok (.bipush 16, 2) := by decide +kernel
theorem d_Mo_apart_351 : decode b_Mo_apart 351 = .ok (.aload_n 0, 1) := by decide +kernel
theorem d_Mo_apart_352 : decode b_Mo_apart 352 = .ok (.getfield 67, 3) := by decide +kernel
theorem d_Mo_apart_355 : decode b_Mo_apart 355 = .ok (.iload_n 2, 1) := by decide +kernel
theorem d_Mo_apart_356 : decode b_Mo_apart 356 = .ok (.iaload, 1) := by decide +kernel
theorem d_Mo_apart_357 : decode b_Mo_apart 357 = .ok (.aload_n 0, 1) := by decide +kernel
theorem d_Mo_apart_358 : decode b_Mo_apart 358 = .ok (.getfield 61, 3) := by decide +kernel
theorem d_Mo_apart_361 : decode b_Mo_apart 361 = .ok (.iload_n 2, 1) := by decide +kernel
theorem d_Mo_apart_362 : decode b_Mo_apart 362 = .ok (.iaload, 1) := by decide +kernel
theorem d_Mo_apart_363 : decode b_Mo_apart 363 = .ok (.invokevirtual 200, 3) := by decide +kernel
theorem d_Mo_apart_366 : decode b_Mo_apart 366 = .ok (.aload_n 0, 1) := by decide +kernel
theorem d_Mo_apart_367 : decode b_Mo_apart 367 = .ok (.dup, 1) := by decide +kernel
theorem d_Mo_apart_368 : decode b_Mo_apart 368 = .ok (.getfield 173, 3) := by decide +kernel
theorem d_Mo_apart_371 : decode b_Mo_apart 371 = .ok (.iconst 1, 1) := by decide +kernel
theorem d_Mo_apart_372 : decode b_Mo_apart 372 = .ok (.isub, 1) := by decide +kernel
theorem d_Mo_apart_373 : decode b_Mo_apart 373 = .ok (.putfield 173, 3) := by decide +kernel
theorem d_Mo_apart_376 : decode b_Mo_apart 376 = .ok (.return_, 1) := by decide +kernel
theorem d_Mo_expression_0 : decode b_Mo_expression 0 = .ok (.aload_n 0, 1) := by decide +kernel
theorem d_Mo_expression_1 : decode b_Mo_expression 1 = .ok (.getfield 82, 3) := by decide +kernel
theorem d_Mo_expression_4 : decode b_Mo_expression 4 = .ok (.iload_n 1, 1) := by decide +kernel
theorem d_Mo_expression_5 : decode b_Mo_expression 5 = .ok (.iaload, 1) := by decide +kernel
theorem d_Mo_expression_6 : decode b_Mo_expression 6 = .ok (.istore_n 3, 1) := by decide +kernel
theorem d_Mo_expression_7 : decode b_Mo_expression 7 = .ok (.iload_n 2, 1) := by decide +kernel
theorem d_Mo_expression_8 : decode b_Mo_expression 8 = .ok (.iconst 2, 1) := by decide +kernel
theorem d_Mo_expression_9 : decode b_Mo_expression 9 = .ok (.if_icmp .ge 33, 3) := by decide +kernel
theorem d_Mo_expression_12 : decode b_Mo_expression 12 = .ok (.aload_n 0, 1) := by decide +kernel
theorem d_Mo_expression_13 : decode b_Mo_expression 13 = .ok (.iload_n 2, 1) := by decide +kernel
theorem d_Mo_expression_14 : decode b_Mo_expression 14 = .ok (.aload_n 0, 1) := by decide +kernel
theorem d_Mo_expression_15 : decode b_Mo_expression 15 = .ok (.getfield 13, 3) := by decide +kernel
theorem d_Mo_expression_18 : decode b_Mo_expression 18 = .ok (.iload_n 3, 1) := by decide +kernel
theorem d_Mo_expression_19 : decode b_Mo_expression 19 = .ok (.iaload, 1) := by decide +kernel
theorem d_Mo_expression_20 : decode b_Mo_expression 20 = .ok (.aload_n 0, 1) := by decide +kernel
theorem d_Mo_expression_21 : decode b_Mo_expression 21 = .ok (.getfield 85, 3) := by decide +kernel
theorem d_Mo_expression_24 : decode b_Mo_expression 24 = .ok (.iload_n 1, 1) := by decide +kernel
theorem d_Mo_expression_25 : decode b_Mo_expression 25 = .ok (.iaload, 1) := by decide +kernel
theorem d_Mo_expression_26 : decode b_Mo_expression 26 = .ok (.invokevirtual 200, 3) := by decide +kernel
theorem d_Mo_expression_29 : decode b_Mo_expression 29 = .ok (.aload_n 0, 1) := by decide +kernel
theorem d_Mo_expression_30 : decode b_Mo_expression 30 = .ok (.dup, 1) := by decide +kernel
theorem d_Mo_expression_31 : decode b_Mo_expression 31 = .ok (.getfield 173, 3) := by decide +kernel
theorem d_Mo_expression_34 : decode b_Mo_expression 34 = .ok (.iconst 1, 1) := by decide +kernel
theorem d_Mo_expression_35 : decode b_Mo_expression 35 = .ok (.isub, 1) := by decide +kernel
theorem d_Mo_expression_36 : decode b_Mo_expression 36 = .ok (.putfield 173, 3) := by decide +kernel
theorem d_Mo_expression_39 : decode b_Mo_expression 39 = .ok (.goto 68, 3) := by decide +kernel
theorem d_Mo_expression_42 : decode b_Mo_expression 42 = .ok (.aload_n 0, 1) := by decide +kernel
theorem d_Mo_expression_43 : decode b_Mo_expression 43 = .ok (.getfield 94, 3) := by decide +kernel
theorem d_Mo_expression_46 : decode b_Mo_expression 46 = .ok (.iload_n 1, 1) := by decide +kernel
theorem d_Mo_expression_47 : decode b_Mo_expression 47 = .ok (.iaload, 1) := by decide +kernel
theorem d_Mo_expression_48 : decode b_Mo_expression 48 = .ok (.iconst 3, 1) := by decide +kernel
theorem d_Mo_expression_49 : decode b_Mo_expression 49 = .ok (.if_icmp .ge 36, 3) := by decide +kernel
theorem d_Mo_expression_52 : decode b_Mo_expression 52 = .ok (.aload_n 0, 1) := by decide +kernel
theorem d_Mo_expression_53 : decode b_Mo_expression 53 = .ok (.iload_n 1, 1) := by decide +kernel
theorem d_Mo_expression_54 : decode b_Mo_expression 54 = .ok (.aload_n 0, 1) := by decide +kernel
theorem d_Mo_expression_55 : decode b_Mo_expression 55 = .ok (.getfield 94, 3) := by decide +kernel
theorem d_Mo_expression_58 : decode b_Mo_expression 58 = .ok (.iload_n 1, 1) := by decide +kernel
theorem d_Mo_expression_59 : decode b_Mo_expression 59 = .ok (.iaload, 1) := by decide +kernel
theorem d_Mo_expression_60 : decode b_Mo_expression 60 = .ok (.iconst 1, 1) := by decide +kernel
theorem d_Mo_expression_61 : decode b_Mo_expression 61 = .ok (.if_icmp .ne 12, 3) := by decide +kernel
theorem d_Mo_expression_64 : decode b_Mo_expression 64 = .ok (.aload_n 0, 1) := by decide +kernel
theorem d_Mo_expression_65 : decode b_Mo_expression 65 = .ok (.getfield 13, 3) := by decide +kernel
theorem d_Mo_expression_68 : decode b_Mo_expression 68 = .ok (.iload_n 3, 1) := by decide +kernel
theorem d_Mo_expression_69 : decode b_Mo_expression 69 = .ok (.iaload, 1) := by decide +kernel
theorem d_Mo_expression_70 : decode b_Mo_expression 70 = .ok (.goto 9, 3) := by decide +kernel
theorem d_Mo_expression_73 : decode b_Mo_expression 73 = .ok (.aload_n 0, 1) := by decide +kernel
theorem d_Mo_expression_74 : decode b_Mo_expression 74 = .ok (.getfield 16, 3) := by decide +kernel
theorem d_Mo_expression_77 : decode b_Mo_expression 77 = .ok (.iload_n 3, 1) := by decide +kernel
theorem d_Mo_expression_78 : decode b_Mo_expression 78 = .ok (.iaload, 1) := by decide +kernel
theorem d_Mo_expression_79 : decode b_Mo_expression 79 = .ok (.invokevirtual 204, 3) := by decide +kernel
theorem d_Mo_expression_82 : decode b_Mo_expression 82 = .ok (.goto 25, 3) := by decide +kernel
theorem d_Mo_expression_85 : decode b_Mo_expression 85 = .ok (.aload_n 0, 1) := by decide +kernel
theorem d_Mo_expression_86 : decode b_Mo_expression 86 = .ok (.iload_n 2, 1) := by decide +kernel
theorem d_Mo_expression_87 : decode b_Mo_expression 87 = .ok (.iconst 0, 1) := by decide +kernel
theorem d_Mo_expression_88 : decode b_Mo_expression 88 = .ok (.aload_n 0, 1) := by decide +kernel
theorem d_Mo_expression_89 : decode b_Mo_expression 89 = .ok (.getfield 85, 3) := by decide +kernel
theorem d_Mo_expression_92 : decode b_Mo_expression 92 = .ok (.iload_n 1, 1) := by decide +kernel
theorem d_Mo_expression_93 : decode b_Mo_expression 93 = .ok (.iaload, 1) := by decide +kernel
theorem d_Mo_expression_94 : decode b_Mo_expression 94 = .ok (.invokevirtual 200, 3) := by decide +kernel
theorem d_Mo_expression_97 : decode b_Mo_expression 97 = .ok (.aload_n 0, 1) := by decide +kernel
theorem d_Mo_expression_98 : decode b_Mo_expression 98 = .ok (.dup, 1) := by decide +kernel
theorem d_Mo_expression_99 : decode b_Mo_expression 99 = .ok (.getfield 173, 3) := by decide +kernel
theorem d_Mo_expression_102 : decode b_Mo_expression 102 = .ok (.iconst 1, 1) := by decide +kernel
theorem d_Mo_expression_103 : decode b_Mo_expression 103 = .ok (.isub, 1) := by decide +kernel
theorem d_Mo_expression_104 : decode b_Mo_expression 104 = .ok (.putfield 173, 3) := by decide +kernel
theorem d_Mo_expression_107 : decode b_Mo_expression 107 = .ok (.return_, 1) := by decide +kernel
