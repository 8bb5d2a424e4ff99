theorem d_Ar_fill_AII_0 : decode b_Ar_fill_AII 0 = .ok (.iconst 0, 1) := by decide +kernel
theorem d_Ar_fill_AII_1 : decode b_Ar_fill_AII 1 = .ok (.istore_n 2, 1) := by decide +kernel
theorem d_Ar_fill_AII_2 : decode b_Ar_fill_AII 2 = .ok (.aload_n 0, 1) := by decide +kernel
theorem d_Ar_fill_AII_3 : decode b_Ar_fill_AII 3 = .ok (.arraylength, 1) := by decide +kernel
theorem d_Ar_fill_AII_4 : decode b_Ar_fill_AII 4 = .ok (.istore_n 3, 1) := by decide +kernel
theorem d_Ar_fill_AII_5 : decode b_Ar_fill_AII 5 = .ok (.iload_n 2, 1) := by decide +kernel
theorem d_Ar_fill_AII_6 : decode b_Ar_fill_AII 6 = .ok (.iload_n 3, 1) := by decide +kernel
theorem d_Ar_fill_AII_7 : decode b_Ar_fill_AII 7 = .ok (.if_icmp .ge 13, 3) := by decide +kernel
theorem d_Ar_fill_AII_10 : decode b_Ar_fill_AII 10 = .ok (.aload_n 0, 1) := by decide +kernel
theorem d_Ar_fill_AII_11 : decode b_Ar_fill_AII 11 = .ok (.iload_n 2, 1) := by decide +kernel
theorem d_Ar_fill_AII_12 : decode b_Ar_fill_AII 12 = .ok (.iload_n 1, 1) := by decide +kernel
theorem d_Ar_fill_AII_13 : decode b_Ar_fill_AII 13 = .ok (.iastore, 1) := by decide +kernel
theorem d_Ar_fill_AII_14 : decode b_Ar_fill_AII 14 = .ok (.iinc 2 1, 3) := by decide +kernel
theorem d_Ar_fill_AII_17 : decode b_Ar_fill_AII 17 = .ok (.goto (-12), 3) := by decide +kernel
theorem d_Ar_fill_AII_20 : decode b_Ar_fill_AII 20 = .ok (.return_, 1) := by decide +kernel
theorem d_Tr_kindOf_0 : decode b_Tr_kindOf 0 = .ok (.iload_n 1, 1) := by decide +kernel
theorem d_Tr_kindOf_1 : decode b_Tr_kindOf 1 = .ok (.ifCond .lt 20, 3) := by decide +kernel
theorem d_Tr_kindOf_4 : decode b_Tr_kindOf 4 = .ok (.iload_n 1, 1) := by decide +kernel
theorem d_Tr_kindOf_5 : decode b_Tr_kindOf 5 = .ok (.aload_n 0, 1) := by decide +kernel
theorem d_Tr_kindOf_6 : decode b_Tr_kindOf 6 = .ok (.getfield 29, 3) := by decide +kernel
theorem d_Tr_kindOf_9 : decode b_Tr_kindOf 9 = .ok (.if_icmp .ge 12, 3) := by decide +kernel
theorem d_Tr_kindOf_12 : decode b_Tr_kindOf 12 = .ok (.aload_n 0, 1) := by decide +kernel
theorem d_Tr_kindOf_13 : decode b_Tr_kindOf 13 = .ok (.getfield 9, 3) := by decide +kernel
theorem d_Tr_kindOf_16 : decode b_Tr_kindOf 16 = .ok (.iload_n 1, 1) := by decide +kernel
theorem d_Tr_kindOf_17 : decode b_Tr_kindOf 17 = .ok (.iaload, 1) := by decide +kernel
theorem d_Tr_kindOf_18 : decode b_Tr_kindOf 18 = .ok (.goto 4, 3) := by decide +kernel
theorem d_Tr_kindOf_21 : decode b_Tr_kindOf 21 = .ok (.iconst (-1), 1) := by decide +kernel
theorem d_Tr_kindOf_22 : decode b_Tr_kindOf 22 = .ok (.ireturn, 1) := by decide +kernel
theorem d_UM_isVariable_0 : decode b_UM_isVariable 0 = .ok (.iload_n 0, 1) := by decide +kernel
theorem d_UM_isVariable_1 : decode b_UM_isVariable 1 = .ok (.ifCond .lt 13, 3) := by decide +kernel
theorem d_UM_isVariable_4 : decode b_UM_isVariable 4 = .ok (.iload_n 0, 1) := by decide +kernel
theorem d_UM_isVariable_5 : decode b_UM_isVariable 5 = .ok (.bipush 8, 2) := by decide +kernel
theorem d_UM_isVariable_7 : decode b_UM_isVariable 7 = .ok (.if_icmp .ge 7, 3) := by decide +kernel
theorem d_UM_isVariable_10 : decode b_UM_isVariable 10 = .ok (.iconst 1, 1) := by decide +kernel
theorem d_UM_isVariable_11 : decode b_UM_isVariable 11 = .ok (.goto 4, 3) := by decide +kernel
theorem d_UM_isVariable_14 : decode b_UM_isVariable 14 = .ok (.iconst 0, 1) := by decide +kernel
theorem d_UM_isVariable_15 : decode b_UM_isVariable 15 = .ok (.ireturn, 1) := by decide +kernel
theorem d_UM_isFunction_0 : decode b_UM_isFunction 0 = .ok (.iload_n 0, 1) := by decide +kernel
theorem d_UM_isFunction_1 : decode b_UM_isFunction 1 = .ok (.ifCond .lt 13, 3) := by decide +kernel
theorem d_UM_isFunction_4 : decode b_UM_isFunction 4 = .ok (.iload_n 0, 1) := by decide +kernel
theorem d_UM_isFunction_5 : decode b_UM_isFunction 5 = .ok (.bipush 6, 2) := by decide +kernel
theorem d_UM_isFunction_7 : decode b_UM_isFunction 7 = .ok (.if_icmp .ge 7, 3) := by decide +kernel
theorem d_UM_isFunction_10 : decode b_UM_isFunction 10 = .ok (.iconst 1, 1) := by decide +kernel
theorem d_UM_isFunction_11 : decode b_UM_isFunction 11 = .ok (.goto 4, 3) := by decide +kernel
theorem d_UM_isFunction_14 : decode b_UM_isFunction 14 = .ok (.iconst 0, 1) := by decide +kernel
theorem d_UM_isFunction_15 : decode b_UM_isFunction 15 = .ok (.ireturn, 1) := by decide +kernel
theorem d_Tr_fits_0 : decode b_Tr_fits 0 = .ok (.aload_n 0, 1) := by decide +kernel
theorem d_Tr_fits_1 : decode b_Tr_fits 1 = .ok (.iload_n 2, 1) := by decide +kernel
theorem d_Tr_fits_2 : decode b_Tr_fits 2 = .ok (.invokevirtual 48, 3) := by decide +kernel
theorem d_Tr_fits_5 : decode b_Tr_fits 5 = .ok (.istore_n 3, 1) := by decide +kernel
theorem d_Tr_fits_6 : decode b_Tr_fits 6 = .ok (.iload_n 1, 1) := by decide +kernel
theorem d_Tr_fits_7 : decode b_Tr_fits 7 = .ok (.tableswitch 137 1 7 #[41, 46, 51, 67, 85, 97, 120], 41) := by decide +kernel
theorem d_Tr_fits_48 : decode b_Tr_fits 48 = .ok (.iload_n 2, 1) := by decide +kernel
theorem d_Tr_fits_49 : decode b_Tr_fits 49 = .ok (.invokestatic 52, 3) := by decide +kernel
theorem d_Tr_fits_52 : decode b_Tr_fits 52 = .ok (.ireturn, 1) := by decide +kernel
theorem d_Tr_fits_53 : decode b_Tr_fits 53 = .ok (.iload_n 2, 1) := by decide +kernel
theorem d_Tr_fits_54 : decode b_Tr_fits 54 = .ok (.invokestatic 40, 3) := by decide +kernel
theorem d_Tr_fits_57 : decode b_Tr_fits 57 = .ok (.ireturn, 1) := by decide +kernel
theorem d_Tr_fits_58 : decode b_Tr_fits 58 = .ok (.iload_n 3, 1) := by decide +kernel
theorem d_Tr_fits_59 : decode b_Tr_fits 59 = .ok (.ifCond .lt 13, 3) := by decide +kernel
theorem d_Tr_fits_62 : decode b_Tr_fits 62 = .ok (.iload_n 3, 1) := by decide +kernel
theorem d_Tr_fits_63 : decode b_Tr_fits 63 = .ok (.bipush 7, 2) := by decide +kernel
theorem d_Tr_fits_65 : decode b_Tr_fits 65 = .ok (.if_icmp .gt 7, 3) := by decide +kernel
theorem d_Tr_fits_68 : decode b_Tr_fits 68 = .ok (.iconst 1, 1) := by decide +kernel
theorem d_Tr_fits_69 : decode b_Tr_fits 69 = .ok (.goto 4, 3) := by decide +kernel
theorem d_Tr_fits_72 : decode b_Tr_fits 72 = .ok (.iconst 0, 1) := by decide +kernel
theorem d_Tr_fits_73 : decode b_Tr_fits 73 = .ok (.ireturn, 1) := by decide +kernel
theorem d_Tr_fits_74 : decode b_Tr_fits 74 = .ok (.iload_n 3, 1) := by decide +kernel
theorem d_Tr_fits_75 : decode b_Tr_fits 75 = .ok (.bipush 8, 2) := by decide +kernel
theorem d_Tr_fits_77 : decode b_Tr_fits 77 = .ok (.if_icmp .lt 13, 3) := by decide +kernel
theorem d_Tr_fits_80 : decode b_Tr_fits 80 = .ok (.iload_n 3, 1) := by decide +kernel
theorem d_Tr_fits_81 : decode b_Tr_fits 81 = .ok (.bipush 18, 2) := by decide +kernel
theorem d_Tr_fits_83 : decode b_Tr_fits 83 = .ok (.if_icmp .gt 7, 3) := by decide +kernel
theorem d_Tr_fits_86 : decode b_Tr_fits 86 = .ok (.iconst 1, 1) := by decide +kernel
theorem d_Tr_fits_87 : decode b_Tr_fits 87 = .ok (.goto 4, 3) := by decide +kernel
theorem d_Tr_fits_90 : decode b_Tr_fits 90 = .ok (.iconst 0, 1) := by decide +kernel
theorem d_Tr_fits_91 : decode b_Tr_fits 91 = .ok (.ireturn, 1) := by decide +kernel
theorem d_Tr_fits_92 : decode b_Tr_fits 92 = .ok (.iload_n 3, 1) := by decide +kernel
theorem d_Tr_fits_93 : decode b_Tr_fits 93 = .ok (.bipush 19, 2) := by decide +kernel
theorem d_Tr_fits_95 : decode b_Tr_fits 95 = .ok (.if_icmp .lt 7, 3) := by decide +kernel
theorem d_Tr_fits_98 : decode b_Tr_fits 98 = .ok (.iconst 1, 1) := by decide +kernel
theorem d_Tr_fits_99 : decode b_Tr_fits 99 = .ok (.goto 4, 3) := by decide +kernel
theorem d_Tr_fits_102 : decode b_Tr_fits 102 = .ok (.iconst 0, 1) := by decide +kernel
theorem d_Tr_fits_103 : decode b_Tr_fits 103 = .ok (.ireturn, 1) := by decide +kernel
theorem d_Tr_fits_104 : decode b_Tr_fits 104 = .ok (.iload_n 2, 1) := by decide +kernel
theorem d_Tr_fits_105 : decode b_Tr_fits 105 = .ok (.iconst (-1), 1) := by decide +kernel
theorem d_Tr_fits_106 : decode b_Tr_fits 106 = .ok (.if_icmp .eq 15, 3) := by decide +kernel
theorem d_Tr_fits_109 : decode b_Tr_fits 109 = .ok (.iload_n 3, 1) := by decide +kernel
theorem d_Tr_fits_110 : decode b_Tr_fits 110 = .ok (.bipush 8, 2) := by decide +kernel
theorem d_Tr_fits_112 : decode b_Tr_fits 112 = .ok (.if_icmp .lt 13, 3) := by decide +kernel
theorem d_Tr_fits_115 : decode b_Tr_fits 115 = .ok (.iload_n 3, 1) := by decide +kernel
theorem d_Tr_fits_116 : decode b_Tr_fits 116 = .ok (.bipush 18, 2) := by decide +kernel
theorem d_Tr_fits_118 : decode b_Tr_fits 118 = .ok (.if_icmp .gt 7, 3) := by decide +kernel
theorem d_Tr_fits_121 : decode b_Tr_fits 121 = .ok (.iconst 1, 1) := by decide +kernel
theorem d_Tr_fits_122 : decode b_Tr_fits 122 = .ok (.goto 4, 3) := by decide +kernel
theorem d_Tr_fits_125 : decode b_Tr_fits 125 = .ok (.iconst 0, 1) := by decide +kernel
theorem d_Tr_fits_126 : decode b_Tr_fits 126 = .ok (.ireturn, 1) := by decide +kernel
theorem d_Tr_fits_127 : decode b_Tr_fits 127 = .ok (.iload_n 2, 1) := by decide +kernel
theorem d_Tr_fits_128 : decode b_Tr_fits 128 = .ok (.iconst (-1), 1) := by decide +kernel
theorem d_Tr_fits_129 : decode b_Tr_fits 129 = .ok (.if_icmp .eq 9, 3) := by decide +kernel
theorem d_Tr_fits_132 : decode b_Tr_fits 132 = .ok (.iload_n 3, 1) := by decide +kernel
theorem d_Tr_fits_133 : decode b_Tr_fits 133 = .ok (.bipush 19, 2) := by decide +kernel
theorem d_Tr_fits_135 : decode b_Tr_fits 135 = .ok (.if_icmp .lt 7, 3) := by decide +kernel
theorem d_Tr_fits_138 : decode b_Tr_fits 138 = .ok (.iconst 1, 1) := by decide +kernel
theorem d_Tr_fits_139 : decode b_Tr_fits 139 = .ok (.goto 4, 3) := by decide +kernel
theorem d_Tr_fits_142 : decode b_Tr_fits 142 = .ok (.iconst 0, 1) := by decide +kernel
theorem d_Tr_fits_143 : decode b_Tr_fits 143 = .ok (.ireturn, 1) := by decide +kernel
theorem d_Tr_fits_144 : decode b_Tr_fits 144 = .ok (.iconst 1, 1) := by decide +kernel
theorem d_Tr_fits_145 : decode b_Tr_fits 145 = .ok (.ireturn, 1) := by decide +kernel
theorem d_Tr_add_0 : decode b_Tr_add 0 = .ok (.iload_n 1, 1) := by decide +kernel
theorem d_Tr_add_1 : decode b_Tr_add 1 = .ok (.ifCond .lt 19, 3) := by decide +kernel
theorem d_Tr_add_4 : decode b_Tr_add 4 = .ok (.iload_n 1, 1) := by decide +kernel
theorem d_Tr_add_5 : decode b_Tr_add 5 = .ok (.bipush 20, 2) := by decide +kernel
theorem d_Tr_add_7 : decode b_Tr_add 7 = .ok (.if_icmp .gt 13, 3) := by decide +kernel
theorem d_Tr_add_10 : decode b_Tr_add 10 = .ok (.aload_n 0, 1) := by decide +kernel
theorem d_Tr_add_11 : decode b_Tr_add 11 = .ok (.getfield 29, 3) := by decide +kernel
theorem d_Tr_add_14 : decode b_Tr_add 14 = .ok (.sipush 150, 3) := by decide +kernel
theorem d_Tr_add_17 : decode b_Tr_add 17 = .ok (.if_icmp .lt 5, 3) := by decide +kernel
theorem d_Tr_add_20 : decode b_Tr_add 20 = .ok (.iconst (-1), 1) := by decide +kernel
theorem d_Tr_add_21 : decode b_Tr_add 21 = .ok (.ireturn, 1) := by decide +kernel
theorem d_Tr_add_22 : decode b_Tr_add 22 = .ok (.iload_n 1, 1) := by decide +kernel
theorem d_Tr_add_23 : decode b_Tr_add 23 = .ok (.iconst 5, 1) := by decide +kernel
theorem d_Tr_add_24 : decode b_Tr_add 24 = .ok (.imul, 1) := by decide +kernel
theorem d_Tr_add_25 : decode b_Tr_add 25 = .ok (.istore 7, 2) := by decide +kernel
theorem d_Tr_add_27 : decode b_Tr_add 27 = .ok (.aload_n 0, 1) := by decide +kernel
theorem d_Tr_add_28 : decode b_Tr_add 28 = .ok (.getstatic 33, 3) := by decide +kernel
theorem d_Tr_add_31 : decode b_Tr_add 31 = .ok (.iload 7, 2) := by decide +kernel
theorem d_Tr_add_33 : decode b_Tr_add 33 = .ok (.iaload, 1) := by decide +kernel
theorem d_Tr_add_34 : decode b_Tr_add 34 = .ok (.iload_n 2, 1) := by decide +kernel
theorem d_Tr_add_35 : decode b_Tr_add 35 = .ok (.invokevirtual 36, 3) := by decide +kernel
theorem d_Tr_add_38 : decode b_Tr_add 38 = .ok (.ifCond .eq 74, 3) := by decide +kernel
theorem d_Tr_add_41 : decode b_Tr_add 41 = .ok (.aload_n 0, 1) := by decide +kernel
theorem d_Tr_add_42 : decode b_Tr_add 42 = .ok (.getstatic 33, 3) := by decide +kernel
theorem d_Tr_add_45 : decode b_Tr_add 45 = .ok (.iload 7, 2) := by decide +kernel
theorem d_Tr_add_47 : decode b_Tr_add 47 = .ok (.iconst 1, 1) := by decide +kernel
theorem d_Tr_add_48 : decode b_Tr_add 48 = .ok (.iadd, 1) := by decide +kernel
theorem d_Tr_add_49 : decode b_Tr_add 49 = .ok (.iaload, 1) := by decide +kernel
theorem d_Tr_add_50 : decode b_Tr_add 50 = .ok (.iload_n 3, 1) := by decide +kernel
theorem d_Tr_add_51 : decode b_Tr_add 51 = .ok (.invokevirtual 36, 3) := by decide +kernel
theorem d_Tr_add_54 : decode b_Tr_add 54 = .ok (.ifCond .eq 58, 3) := by decide +kernel
theorem d_Tr_add_57 : decode b_Tr_add 57 = .ok (.aload_n 0, 1) := by decide +kernel
theorem d_Tr_add_58 : decode b_Tr_add 58 = .ok (.getstatic 33, 3) := by decide +kernel
theorem d_Tr_add_61 : decode b_Tr_add 61 = .ok (.iload 7, 2) := by decide +kernel
theorem d_Tr_add_63 : decode b_Tr_add 63 = .ok (.iconst 2, 1) := by decide +kernel
theorem d_Tr_add_64 : decode b_Tr_add 64 = .ok (.iadd, 1) := by decide +kernel
theorem d_Tr_add_65 : decode b_Tr_add 65 = .ok (.iaload, 1) := by decide +kernel
theorem d_Tr_add_66 : decode b_Tr_add 66 = .ok (.iload 4, 2) := by decide +kernel
theorem d_Tr_add_68 : decode b_Tr_add 68 = .ok (.invokevirtual 36, 3) := by decide +kernel
theorem d_Tr_add_71 : decode b_Tr_add 71 = .ok (.ifCond .eq 41, 3) := by decide +kernel
theorem d_Tr_add_74 : decode b_Tr_add 74 = .ok (.aload_n 0, 1) := by decide +kernel
theorem d_Tr_add_75 : decode b_Tr_add 75 = .ok (.getstatic 33, 3) := by decide +kernel
theorem d_Tr_add_78 : decode b_Tr_add 78 = .ok (.iload 7, 2) := by decide +kernel
theorem d_Tr_add_80 : decode b_Tr_add 80 = .ok (.iconst 3, 1) := by decide +kernel
theorem d_Tr_add_81 : decode b_Tr_add 81 = .ok (.iadd, 1) := by decide +kernel
theorem d_Tr_add_82 : decode b_Tr_add 82 = .ok (.iaload, 1) := by decide +kernel
theorem d_Tr_add_83 : decode b_Tr_add 83 = .ok (.iload 5, 2) := by decide +kernel
theorem d_Tr_add_85 : decode b_Tr_add 85 = .ok (.invokevirtual 36, 3) := by decide +kernel
theorem d_Tr_add_88 : decode b_Tr_add 88 = .ok (.ifCond .eq 24, 3) := by decide +kernel
theorem d_Tr_add_91 : decode b_Tr_add 91 = .ok (.aload_n 0, 1) := by decide +kernel
theorem d_Tr_add_92 : decode b_Tr_add 92 = .ok (.getstatic 33, 3) := by decide +kernel
theorem d_Tr_add_95 : decode b_Tr_add 95 = .ok (.iload 7, 2) := by decide +kernel
theorem d_Tr_add_97 : decode b_Tr_add 97 = .ok (.iconst 4, 1) := by decide +kernel
theorem d_Tr_add_98 : decode b_Tr_add 98 = .ok (.iadd, 1) := by decide +kernel
theorem d_Tr_add_99 : decode b_Tr_add 99 = .ok (.iaload, 1) := by decide +kernel
theorem d_Tr_add_100 : decode b_Tr_add 100 = .ok (.iload 6, 2) := by decide +kernel
theorem d_Tr_add_102 : decode b_Tr_add 102 = .ok (.invokevirtual 36, 3) := by decide +kernel
theorem d_Tr_add_105 : decode b_Tr_add 105 = .ok (.ifCond .eq 7, 3) := by decide +kernel
theorem d_Tr_add_108 : decode b_Tr_add 108 = .ok (.iconst 1, 1) := by decide +kernel
theorem d_Tr_add_109 : decode b_Tr_add 109 = .ok (.goto 4, 3) := by decide +kernel
theorem d_Tr_add_112 : decode b_Tr_add 112 = .ok (.iconst 0, 1) := by decide +kernel
theorem d_Tr_add_113 : decode b_Tr_add 113 = .ok (.istore 8, 2) := by decide +kernel
theorem d_Tr_add_115 : decode b_Tr_add 115 = .ok (.iload 8, 2) := by decide +kernel
theorem d_Tr_add_117 : decode b_Tr_add 117 = .ok (.ifCond .ne 5, 3) := by decide +kernel
theorem d_Tr_add_120 : decode b_Tr_add 120 = .ok (.iconst (-1), 1) := by decide +kernel
theorem d_Tr_add_121 : decode b_Tr_add 121 = .ok (.ireturn, 1) := by decide +kernel
theorem d_Tr_add_122 : decode b_Tr_add 122 = .ok (.aload_n 0, 1) := by decide +kernel
theorem d_Tr_add_123 : decode b_Tr_add 123 = .ok (.getfield 29, 3) := by decide +kernel
theorem d_Tr_add_126 : decode b_Tr_add 126 = .ok (.iconst 5, 1) := by decide +kernel
theorem d_Tr_add_127 : decode b_Tr_add 127 = .ok (.imul, 1) := by decide +kernel
theorem d_Tr_add_128 : decode b_Tr_add 128 = .ok (.istore 9, 2) := by decide +kernel
theorem d_Tr_add_130 : decode b_Tr_add 130 = .ok (.aload_n 0, 1) := by decide +kernel
theorem d_Tr_add_131 : decode b_Tr_add 131 = .ok (.getfield 9, 3) := by decide +kernel
theorem d_Tr_add_134 : decode b_Tr_add 134 = .ok (.aload_n 0, 1) := by decide +kernel
theorem d_Tr_add_135 : decode b_Tr_add 135 = .ok (.getfield 29, 3) := by decide +kernel
theorem d_Tr_add_138 : decode b_Tr_add 138 = .ok (.iload_n 1, 1) := by decide +kernel
theorem d_Tr_add_139 : decode b_Tr_add 139 = .ok (.iastore, 1) := by decide +kernel
theorem d_Tr_add_140 : decode b_Tr_add 140 = .ok (.aload_n 0, 1) := by decide +kernel
theorem d_Tr_add_141 : decode b_Tr_add 141 = .ok (.getfield 15, 3) := by decide +kernel
theorem d_Tr_add_144 : decode b_Tr_add 144 = .ok (.iload 9, 2) := by decide +kernel
theorem d_Tr_add_146 : decode b_Tr_add 146 = .ok (.iload_n 2, 1) := by decide +kernel
theorem d_Tr_add_147 : decode b_Tr_add 147 = .ok (.iastore, 1) := by decide +kernel
theorem d_Tr_add_148 : decode b_Tr_add 148 = .ok (.aload_n 0, 1) := by decide +kernel
theorem d_Tr_add_149 : decode b_Tr_add 149 = .ok (.getfield 15, 3) := by decide +kernel
theorem d_Tr_add_152 : decode b_Tr_add 152 = .ok (.iload 9, 2) := by decide +kernel
theorem d_Tr_add_154 : decode b_Tr_add 154 = .ok (.iconst 1, 1) := by decide +kernel
theorem d_Tr_add_155 : decode b_Tr_add 155 = .ok (.iadd, 1) := by decide +kernel
theorem d_Tr_add_156 : decode b_Tr_add 156 = .ok (.iload_n 3, 1) := by decide +kernel
theorem d_Tr_add_157 : decode b_Tr_add 157 = .ok (.iastore, 1) := by decide +kernel
theorem d_Tr_add_158 : decode b_Tr_add 158 = .ok (.aload_n 0, 1) := by decide +kernel
theorem d_Tr_add_159 : decode b_Tr_add 159 = .ok (.getfield 15, 3) := by decide +kernel
theorem d_Tr_add_162 : decode b_Tr_add 162 = .ok (.iload 9, 2) := by decide +kernel
theorem d_Tr_add_164 : decode b_Tr_add 164 = .ok (.iconst 2, 1) := by decide +kernel
theorem d_Tr_add_165 : decode b_Tr_add 165 = .ok (.iadd, 1) := by decide +kernel
theorem d_Tr_add_166 : decode b_Tr_add 166 = .ok (.iload 4, 2) := by decide +kernel
theorem d_Tr_add_168 : decode b_Tr_add 168 = .ok (.iastore, 1) := by decide +kernel
theorem d_Tr_add_169 : decode b_Tr_add 169 = .ok (.aload_n 0, 1) := by decide +kernel
theorem d_Tr_add_170 : decode b_Tr_add 170 = .ok (.getfield 15, 3) := by decide +kernel
theorem d_Tr_add_173 : decode b_Tr_add 173 = .ok (.iload 9, 2) := by decide +kernel
theorem d_Tr_add_175 : decode b_Tr_add 175 = .ok (.iconst 3, 1) := by decide +kernel
theorem d_Tr_add_176 : decode b_Tr_add 176 = .ok (.iadd, 1) := by decide +kernel
theorem d_Tr_add_177 : decode b_Tr_add 177 = .ok (.iload 5, 2) := by decide +kernel
theorem d_Tr_add_179 : decode b_Tr_add 179 = .ok (.iastore, 1) := by decide +kernel
theorem d_Tr_add_180 : decode b_Tr_add 180 = .ok (.aload_n 0, 1) := by decide +kernel
theorem d_Tr_add_181 : decode b_Tr_add 181 = .ok (.getfield 15, 3) := by decide +kernel
theorem d_Tr_add_184 : decode b_Tr_add 184 = .ok (.iload 9, 2) := by decide +kernel
theorem d_Tr_add_186 : decode b_Tr_add 186 = .ok (.iconst 4, 1) := by decide +kernel
theorem d_Tr_add_187 : decode b_Tr_add 187 = .ok (.iadd, 1) := by decide +kernel
theorem d_Tr_add_188 : decode b_Tr_add 188 = .ok (.iload 6, 2) := by decide +kernel
theorem d_Tr_add_190 : decode b_Tr_add 190 = .ok (.iastore, 1) := by decide +kernel
theorem d_Tr_add_191 : decode b_Tr_add 191 = .ok (.aload_n 0, 1) := by decide +kernel
theorem d_Tr_add_192 : decode b_Tr_add 192 = .ok (.dup, 1) := by decide +kernel
theorem d_Tr_add_193 : decode b_Tr_add 193 = .ok (.getfield 29, 3) := by decide +kernel
theorem d_Tr_add_196 : decode b_Tr_add 196 = .ok (.iconst 1, 1) := by decide +kernel
theorem d_Tr_add_197 : decode b_Tr_add 197 = .ok (.iadd, 1) := by decide +kernel
theorem d_Tr_add_198 : decode b_Tr_add 198 = .ok (.putfield 29, 3) := by decide +kernel
theorem d_Tr_add_201 : decode b_Tr_add 201 = .ok (.aload_n 0, 1) := by decide +kernel
theorem d_Tr_add_202 : decode b_Tr_add 202 = .ok (.getfield 29, 3) := by decide +kernel
theorem d_Tr_add_205 : decode b_Tr_add 205 = .ok (.iconst 1, 1) := by decide +kernel
theorem d_Tr_add_206 : decode b_Tr_add 206 = .ok (.isub, 1) := by decide +kernel
theorem d_Tr_add_207 : decode b_Tr_add 207 = .ok (.ireturn, 1) := by decide +kernel
theorem d_UM_node_0 : decode b_UM_node 0 = .ok (.aload_n 0, 1) := by decide +kernel
theorem d_UM_node_1 : decode b_UM_node 1 = .ok (.getfield 10, 3) := by decide +kernel
theorem d_UM_node_4 : decode b_UM_node 4 = .ok (.iload_n 1, 1) := by decide +kernel
theorem d_UM_node_5 : decode b_UM_node 5 = .ok (.iload_n 2, 1) := by decide +kernel
theorem d_UM_node_6 : decode b_UM_node 6 = .ok (.iload_n 3, 1) := by decide +kernel
theorem d_UM_node_7 : decode b_UM_node 7 = .ok (.iload 4, 2) := by decide +kernel
theorem d_UM_node_9 : decode b_UM_node 9 = .ok (.iload 5, 2) := by decide +kernel
theorem d_UM_node_11 : decode b_UM_node 11 = .ok (.iconst (-1), 1) := by decide +kernel
theorem d_UM_node_12 : decode b_UM_node 12 = .ok (.invokevirtual 41, 3) := by decide +kernel
theorem d_UM_node_15 : decode b_UM_node 15 = .ok (.ireturn, 1) := by decide +kernel
theorem d_UM_catchBehind_0 : decode b_UM_catchBehind 0 = .ok (.aload_n 0, 1) := by decide +kernel
theorem d_UM_catchBehind_1 : decode b_UM_catchBehind 1 = .ok (.getfield 10, 3) := by decide +kernel
theorem d_UM_catchBehind_4 : decode b_UM_catchBehind 4 = .ok (.bipush 20, 2) := by decide +kernel
theorem d_UM_catchBehind_6 : decode b_UM_catchBehind 6 = .ok (.iload_n 1, 1) := by decide +kernel
theorem d_UM_catchBehind_7 : decode b_UM_catchBehind 7 = .ok (.iload_n 2, 1) := by decide +kernel
theorem d_UM_catchBehind_8 : decode b_UM_catchBehind 8 = .ok (.iload_n 3, 1) := by decide +kernel
theorem d_UM_catchBehind_9 : decode b_UM_catchBehind 9 = .ok (.iload 4, 2) := by decide +kernel
theorem d_UM_catchBehind_11 : decode b_UM_catchBehind 11 = .ok (.iload 5, 2) := by decide +kernel
theorem d_UM_catchBehind_13 : decode b_UM_catchBehind 13 = .ok (.invokevirtual 41, 3) := by decide +kernel
theorem d_UM_catchBehind_16 : decode b_UM_catchBehind 16 = .ok (.ireturn, 1) := by decide +kernel
theorem d_Tr_setBody_0 : decode b_Tr_setBody 0 = .ok (.iload_n 1, 1) := by decide +kernel
theorem d_Tr_setBody_1 : decode b_Tr_setBody 1 = .ok (.invokestatic 40, 3) := by decide +kernel
theorem d_Tr_setBody_4 : decode b_Tr_setBody 4 = .ok (.ifCond .eq 13, 3) := by decide +kernel
theorem d_Tr_setBody_7 : decode b_Tr_setBody 7 = .ok (.aload_n 0, 1) := by decide +kernel
theorem d_Tr_setBody_8 : decode b_Tr_setBody 8 = .ok (.bipush 6, 2) := by decide +kernel
theorem d_Tr_setBody_10 : decode b_Tr_setBody 10 = .ok (.iload_n 2, 1) := by decide +kernel
theorem d_Tr_setBody_11 : decode b_Tr_setBody 11 = .ok (.invokevirtual 36, 3) := by decide +kernel
theorem d_Tr_setBody_14 : decode b_Tr_setBody 14 = .ok (.ifCond .ne 5, 3) := by decide +kernel
theorem d_Tr_setBody_17 : decode b_Tr_setBody 17 = .ok (.iconst 0, 1) := by decide +kernel
theorem d_Tr_setBody_18 : decode b_Tr_setBody 18 = .ok (.ireturn, 1) := by decide +kernel
theorem d_Tr_setBody_19 : decode b_Tr_setBody 19 = .ok (.aload_n 0, 1) := by decide +kernel
theorem d_Tr_setBody_20 : decode b_Tr_setBody 20 = .ok (.getfield 18, 3) := by decide +kernel
theorem d_Tr_setBody_23 : decode b_Tr_setBody 23 = .ok (.iload_n 1, 1) := by decide +kernel
theorem d_Tr_setBody_24 : decode b_Tr_setBody 24 = .ok (.iload_n 2, 1) := by decide +kernel
theorem d_Tr_setBody_25 : decode b_Tr_setBody 25 = .ok (.iastore, 1) := by decide +kernel
theorem d_Tr_setBody_26 : decode b_Tr_setBody 26 = .ok (.iconst 1, 1) := by decide +kernel
theorem d_Tr_setBody_27 : decode b_Tr_setBody 27 = .ok (.ireturn, 1) := by decide +kernel
theorem d_UM_body_0 : decode b_UM_body 0 = .ok (.aload_n 0, 1) := by decide +kernel
theorem d_UM_body_1 : decode b_UM_body 1 = .ok (.getfield 10, 3) := by decide +kernel
theorem d_UM_body_4 : decode b_UM_body 4 = .ok (.iload_n 1, 1) := by decide +kernel
theorem d_UM_body_5 : decode b_UM_body 5 = .ok (.iload_n 2, 1) := by decide +kernel
theorem d_UM_body_6 : decode b_UM_body 6 = .ok (.invokevirtual 47, 3) := by decide +kernel
theorem d_UM_body_9 : decode b_UM_body 9 = .ok (.ireturn, 1) := by decide +kernel
theorem d_La_settleGoals_0 : decode b_La_settleGoals 0 = .ok (.iconst 0, 1) := by decide +kernel
theorem d_La_settleGoals_1 : decode b_La_settleGoals 1 = .ok (.istore_n 1, 1) := by decide +kernel
theorem d_La_settleGoals_2 : decode b_La_settleGoals 2 = .ok (.iload_n 1, 1) := by decide +kernel
theorem d_La_settleGoals_3 : decode b_La_settleGoals 3 = .ok (.aload_n 0, 1) := by decide +kernel
theorem d_La_settleGoals_4 : decode b_La_settleGoals 4 = .ok (.getfield 40, 3) := by decide +kernel
theorem d_La_settleGoals_7 : decode b_La_settleGoals 7 = .ok (.getfield 74, 3) := by decide +kernel
theorem d_La_settleGoals_10 : decode b_La_settleGoals 10 = .ok (.if_icmp .ge 86, 3) := by decide +kernel
theorem d_La_settleGoals_13 : decode b_La_settleGoals 13 = .ok (.aload_n 0, 1) := by decide +kernel
theorem d_La_settleGoals_14 : decode b_La_settleGoals 14 = .ok (.getfield 40, 3) := by decide +kernel
theorem d_La_settleGoals_17 : decode b_La_settleGoals 17 = .ok (.getfield 230, 3) := by decide +kernel
theorem d_La_settleGoals_20 : decode b_La_settleGoals 20 = .ok (.iload_n 1, 1) := by decide +kernel
theorem d_La_settleGoals_21 : decode b_La_settleGoals 21 = .ok (.iaload, 1) := by decide +kernel
theorem d_La_settleGoals_22 : decode b_La_settleGoals 22 = .ok (.bipush 10, 2) := by decide +kernel
theorem d_La_settleGoals_24 : decode b_La_settleGoals 24 = .ok (.if_icmp .eq 17, 3) := by decide +kernel
theorem d_La_settleGoals_27 : decode b_La_settleGoals 27 = .ok (.aload_n 0, 1) := by decide +kernel
theorem d_La_settleGoals_28 : decode b_La_settleGoals 28 = .ok (.getfield 40, 3) := by decide +kernel
theorem d_La_settleGoals_31 : decode b_La_settleGoals 31 = .ok (.getfield 230, 3) := by decide +kernel
theorem d_La_settleGoals_34 : decode b_La_settleGoals 34 = .ok (.iload_n 1, 1) := by decide +kernel
theorem d_La_settleGoals_35 : decode b_La_settleGoals 35 = .ok (.iaload, 1) := by decide +kernel
theorem d_La_settleGoals_36 : decode b_La_settleGoals 36 = .ok (.bipush 11, 2) := by decide +kernel
theorem d_La_settleGoals_38 : decode b_La_settleGoals 38 = .ok (.if_icmp .ne 7, 3) := by decide +kernel
theorem d_La_settleGoals_41 : decode b_La_settleGoals 41 = .ok (.iconst 1, 1) := by decide +kernel
theorem d_La_settleGoals_42 : decode b_La_settleGoals 42 = .ok (.goto 4, 3) := by decide +kernel
theorem d_La_settleGoals_45 : decode b_La_settleGoals 45 = .ok (.iconst 0, 1) := by decide +kernel
theorem d_La_settleGoals_46 : decode b_La_settleGoals 46 = .ok (.istore_n 2, 1) := by decide +kernel
theorem d_La_settleGoals_47 : decode b_La_settleGoals 47 = .ok (.iload_n 2, 1) := by decide +kernel
theorem d_La_settleGoals_48 : decode b_La_settleGoals 48 = .ok (.ifCond .eq 42, 3) := by decide +kernel
theorem d_La_settleGoals_51 : decode b_La_settleGoals 51 = .ok (.aload_n 0, 1) := by decide +kernel
theorem d_La_settleGoals_52 : decode b_La_settleGoals 52 = .ok (.getfield 40, 3) := by decide +kernel
theorem d_La_settleGoals_55 : decode b_La_settleGoals 55 = .ok (.getfield 233, 3) := by decide +kernel
theorem d_La_settleGoals_58 : decode b_La_settleGoals 58 = .ok (.iload_n 1, 1) := by decide +kernel
theorem d_La_settleGoals_59 : decode b_La_settleGoals 59 = .ok (.iaload, 1) := by decide +kernel
theorem d_La_settleGoals_60 : decode b_La_settleGoals 60 = .ok (.ifCond .ge 30, 3) := by decide +kernel
theorem d_La_settleGoals_63 : decode b_La_settleGoals 63 = .ok (.aload_n 0, 1) := by decide +kernel
theorem d_La_settleGoals_64 : decode b_La_settleGoals 64 = .ok (.getfield 40, 3) := by decide +kernel
theorem d_La_settleGoals_67 : decode b_La_settleGoals 67 = .ok (.getfield 233, 3) := by decide +kernel
theorem d_La_settleGoals_70 : decode b_La_settleGoals 70 = .ok (.iload_n 1, 1) := by decide +kernel
theorem d_La_settleGoals_71 : decode b_La_settleGoals 71 = .ok (.aload_n 0, 1) := by decide +kernel
theorem d_La_settleGoals_72 : decode b_La_settleGoals 72 = .ok (.getfield 12, 3) := by decide +kernel
theorem d_La_settleGoals_75 : decode b_La_settleGoals 75 = .ok (.getfield 172, 3) := by decide +kernel
theorem d_La_settleGoals_78 : decode b_La_settleGoals 78 = .ok (.aload_n 0, 1) := by decide +kernel
theorem d_La_settleGoals_79 : decode b_La_settleGoals 79 = .ok (.getfield 40, 3) := by decide +kernel
theorem d_La_settleGoals_82 : decode b_La_settleGoals 82 = .ok (.getfield 233, 3) := by decide +kernel
theorem d_La_settleGoals_85 : decode b_La_settleGoals 85 = .ok (.iload_n 1, 1) := by decide +kernel
theorem d_La_settleGoals_86 : decode b_La_settleGoals 86 = .ok (.iaload, 1) := by decide +kernel
theorem d_La_settleGoals_87 : decode b_La_settleGoals 87 = .ok (.ineg, 1) := by decide +kernel
theorem d_La_settleGoals_88 : decode b_La_settleGoals 88 = .ok (.iaload, 1) := by decide +kernel
theorem d_La_settleGoals_89 : decode b_La_settleGoals 89 = .ok (.iastore, 1) := by decide +kernel
theorem d_La_settleGoals_90 : decode b_La_settleGoals 90 = .ok (.iinc 1 1, 3) := by decide +kernel
theorem d_La_settleGoals_93 : decode b_La_settleGoals 93 = .ok (.goto (-91), 3) := by decide +kernel
theorem d_La_settleGoals_96 : decode b_La_settleGoals 96 = .ok (.return_, 1) := by decide +kernel
theorem d_Co_clear_0 : decode b_Co_clear 0 = .ok (.aload_n 0, 1) := by decide +kernel
theorem d_Co_clear_1 : decode b_Co_clear 1 = .ok (.iconst 0, 1) := by decide +kernel
theorem d_Co_clear_2 : decode b_Co_clear 2 = .ok (.putfield 27, 3) := by decide +kernel
theorem d_Co_clear_5 : decode b_Co_clear 5 = .ok (.aload_n 0, 1) := by decide +kernel
theorem d_Co_clear_6 : decode b_Co_clear 6 = .ok (.iconst 0, 1) := by decide +kernel
theorem d_Co_clear_7 : decode b_Co_clear 7 = .ok (.putfield 31, 3) := by decide +kernel
theorem d_Co_clear_10 : decode b_Co_clear 10 = .ok (.aload_n 0, 1) := by decide +kernel
theorem d_Co_clear_11 : decode b_Co_clear 11 = .ok (.iconst 0, 1) := by decide +kernel
theorem d_Co_clear_12 : decode b_Co_clear 12 = .ok (.putfield 34, 3) := by decide +kernel
theorem d_Co_clear_15 : decode b_Co_clear 15 = .ok (.aload_n 0, 1) := by decide +kernel
theorem d_Co_clear_16 : decode b_Co_clear 16 = .ok (.iconst (-1), 1) := by decide +kernel
theorem d_Co_clear_17 : decode b_Co_clear 17 = .ok (.putfield 37, 3) := by decide +kernel
theorem d_Co_clear_20 : decode b_Co_clear 20 = .ok (.return_, 1) := by decide +kernel
theorem d_Tr_part_0 : decode b_Tr_part 0 = .ok (.iload_n 1, 1) := by decide +kernel
theorem d_Tr_part_1 : decode b_Tr_part 1 = .ok (.ifCond .lt 24, 3) := by decide +kernel
theorem d_Tr_part_4 : decode b_Tr_part 4 = .ok (.iload_n 1, 1) := by decide +kernel
theorem d_Tr_part_5 : decode b_Tr_part 5 = .ok (.aload_n 0, 1) := by decide +kernel
theorem d_Tr_part_6 : decode b_Tr_part 6 = .ok (.getfield 29, 3) := by decide +kernel
theorem d_Tr_part_9 : decode b_Tr_part 9 = .ok (.if_icmp .ge 16, 3) := by decide +kernel
theorem d_Tr_part_12 : decode b_Tr_part 12 = .ok (.aload_n 0, 1) := by decide +kernel
theorem d_Tr_part_13 : decode b_Tr_part 13 = .ok (.getfield 15, 3) := by decide +kernel
theorem d_Tr_part_16 : decode b_Tr_part 16 = .ok (.iload_n 1, 1) := by decide +kernel
theorem d_Tr_part_17 : decode b_Tr_part 17 = .ok (.iconst 5, 1) := by decide +kernel
theorem d_Tr_part_18 : decode b_Tr_part 18 = .ok (.imul, 1) := by decide +kernel
theorem d_Tr_part_19 : decode b_Tr_part 19 = .ok (.iload_n 2, 1) := by decide +kernel
theorem d_Tr_part_20 : decode b_Tr_part 20 = .ok (.iadd, 1) := by decide +kernel
theorem d_Tr_part_21 : decode b_Tr_part 21 = .ok (.iaload, 1) := by decide +kernel
theorem d_Tr_part_22 : decode b_Tr_part 22 = .ok (.goto 4, 3) := by decide +kernel
theorem d_Tr_part_25 : decode b_Tr_part 25 = .ok (.iconst (-1), 1) := by decide +kernel
theorem d_Tr_part_26 : decode b_Tr_part 26 = .ok (.ireturn, 1) := by decide +kernel
theorem d_La_addRow_0 : decode b_La_addRow 0 = .ok (.aload_n 0, 1) := by decide +kernel
theorem d_La_addRow_1 : decode b_La_addRow 1 = .ok (.getfield 40, 3) := by decide +kernel
theorem d_La_addRow_4 : decode b_La_addRow 4 = .ok (.getfield 255, 3) := by decide +kernel
theorem d_La_addRow_7 : decode b_La_addRow 7 = .ok (.sipush 300, 3) := by decide +kernel
theorem d_La_addRow_10 : decode b_La_addRow 10 = .ok (.if_icmp .lt 10, 3) := by decide +kernel
theorem d_La_addRow_13 : decode b_La_addRow 13 = .ok (.aload_n 0, 1) := by decide +kernel
theorem d_La_addRow_14 : decode b_La_addRow 14 = .ok (.bipush (-2), 2) := by decide +kernel
theorem d_La_addRow_16 : decode b_La_addRow 16 = .ok (.putfield 61, 3) := by decide +kernel
theorem d_La_addRow_19 : decode b_La_addRow 19 = .ok (.return_, 1) := by decide +kernel
theorem d_La_addRow_20 : decode b_La_addRow 20 = .ok (.aload_n 0, 1) := by decide +kernel
theorem d_La_addRow_21 : decode b_La_addRow 21 = .ok (.getfield 28, 3) := by decide +kernel
theorem d_La_addRow_24 : decode b_La_addRow 24 = .ok (.getfield 252, 3) := by decide +kernel
theorem d_La_addRow_27 : decode b_La_addRow 27 = .ok (.iload_n 1, 1) := by decide +kernel
theorem d_La_addRow_28 : decode b_La_addRow 28 = .ok (.iaload, 1) := by decide +kernel
theorem d_La_addRow_29 : decode b_La_addRow 29 = .ok (.istore 4, 2) := by decide +kernel
theorem d_La_addRow_31 : decode b_La_addRow 31 = .ok (.aload_n 0, 1) := by decide +kernel
theorem d_La_addRow_32 : decode b_La_addRow 32 = .ok (.getfield 40, 3) := by decide +kernel
theorem d_La_addRow_35 : decode b_La_addRow 35 = .ok (.getfield 255, 3) := by decide +kernel
theorem d_La_addRow_38 : decode b_La_addRow 38 = .ok (.iconst 5, 1) := by decide +kernel
theorem d_La_addRow_39 : decode b_La_addRow 39 = .ok (.imul, 1) := by decide +kernel
theorem d_La_addRow_40 : decode b_La_addRow 40 = .ok (.istore 5, 2) := by decide +kernel
theorem d_La_addRow_42 : decode b_La_addRow 42 = .ok (.aload_n 0, 1) := by decide +kernel
theorem d_La_addRow_43 : decode b_La_addRow 43 = .ok (.getfield 40, 3) := by decide +kernel
theorem d_La_addRow_46 : decode b_La_addRow 46 = .ok (.getfield 258, 3) := by decide +kernel
theorem d_La_addRow_49 : decode b_La_addRow 49 = .ok (.iload 5, 2) := by decide +kernel
theorem d_La_addRow_51 : decode b_La_addRow 51 = .ok (.iload_n 2, 1) := by decide +kernel
theorem d_La_addRow_52 : decode b_La_addRow 52 = .ok (.iastore, 1) := by decide +kernel
theorem d_La_addRow_53 : decode b_La_addRow 53 = .ok (.aload_n 0, 1) := by decide +kernel
theorem d_La_addRow_54 : decode b_La_addRow 54 = .ok (.getfield 40, 3) := by decide +kernel
theorem d_La_addRow_57 : decode b_La_addRow 57 = .ok (.getfield 258, 3) := by decide +kernel
theorem d_La_addRow_60 : decode b_La_addRow 60 = .ok (.iload 5, 2) := by decide +kernel
theorem d_La_addRow_62 : decode b_La_addRow 62 = .ok (.iconst 1, 1) := by decide +kernel
theorem d_La_addRow_63 : decode b_La_addRow 63 = .ok (.iadd, 1) := by decide +kernel
theorem d_La_addRow_64 : decode b_La_addRow 64 = .ok (.iload_n 3, 1) := by decide +kernel
theorem d_La_addRow_65 : decode b_La_addRow 65 = .ok (.iastore, 1) := by decide +kernel
theorem d_La_addRow_66 : decode b_La_addRow 66 = .ok (.aload_n 0, 1) := by decide +kernel
theorem d_La_addRow_67 : decode b_La_addRow 67 = .ok (.getfield 40, 3) := by decide +kernel
theorem d_La_addRow_70 : decode b_La_addRow 70 = .ok (.getfield 258, 3) := by decide +kernel
theorem d_La_addRow_73 : decode b_La_addRow 73 = .ok (.iload 5, 2) := by decide +kernel
theorem d_La_addRow_75 : decode b_La_addRow 75 = .ok (.iconst 2, 1) := by decide +kernel
theorem d_La_addRow_76 : decode b_La_addRow 76 = .ok (.iadd, 1) := by decide +kernel
theorem d_La_addRow_77 : decode b_La_addRow 77 = .ok (.aload_n 0, 1) := by decide +kernel
theorem d_La_addRow_78 : decode b_La_addRow 78 = .ok (.getfield 28, 3) := by decide +kernel
theorem d_La_addRow_81 : decode b_La_addRow 81 = .ok (.getfield 261, 3) := by decide +kernel
theorem d_La_addRow_84 : decode b_La_addRow 84 = .ok (.iload_n 1, 1) := by decide +kernel
theorem d_La_addRow_85 : decode b_La_addRow 85 = .ok (.iaload, 1) := by decide +kernel
theorem d_La_addRow_86 : decode b_La_addRow 86 = .ok (.iastore, 1) := by decide +kernel
theorem d_La_addRow_87 : decode b_La_addRow 87 = .ok (.aload_n 0, 1) := by decide +kernel
theorem d_La_addRow_88 : decode b_La_addRow 88 = .ok (.getfield 40, 3) := by decide +kernel
theorem d_La_addRow_91 : decode b_La_addRow 91 = .ok (.getfield 258, 3) := by decide +kernel
theorem d_La_addRow_94 : decode b_La_addRow 94 = .ok (.iload 5, 2) := by decide +kernel
theorem d_La_addRow_96 : decode b_La_addRow 96 = .ok (.iconst 3, 1) := by decide +kernel
theorem d_La_addRow_97 : decode b_La_addRow 97 = .ok (.iadd, 1) := by decide +kernel
theorem d_La_addRow_98 : decode b_La_addRow 98 = .ok (.iload 4, 2) := by decide +kernel
theorem d_La_addRow_100 : decode b_La_addRow 100 = .ok (.iconst (-1), 1) := by decide +kernel
theorem d_La_addRow_101 : decode b_La_addRow 101 = .ok (.if_icmp .ne 9, 3) := by decide +kernel
theorem d_La_addRow_104 : decode b_La_addRow 104 = .ok (.ldc_w 264, 3) := by decide +kernel
theorem d_La_addRow_107 : decode b_La_addRow 107 = .ok (.goto 13, 3) := by decide +kernel
theorem d_La_addRow_110 : decode b_La_addRow 110 = .ok (.aload_n 0, 1) := by decide +kernel
theorem d_La_addRow_111 : decode b_La_addRow 111 = .ok (.getfield 36, 3) := by decide +kernel
theorem d_La_addRow_114 : decode b_La_addRow 114 = .ok (.iload 4, 2) := by decide +kernel
theorem d_La_addRow_116 : decode b_La_addRow 116 = .ok (.iconst 0, 1) := by decide +kernel
theorem d_La_addRow_117 : decode b_La_addRow 117 = .ok (.invokevirtual 141, 3) := by decide +kernel
theorem d_La_addRow_120 : decode b_La_addRow 120 = .ok (.iastore, 1) := by decide +kernel
theorem d_La_addRow_121 : decode b_La_addRow 121 = .ok (.aload_n 0, 1) := by decide +kernel
theorem d_La_addRow_122 : decode b_La_addRow 122 = .ok (.getfield 40, 3) := by decide +kernel
theorem d_La_addRow_125 : decode b_La_addRow 125 = .ok (.getfield 258, 3) := by decide +kernel
theorem d_La_addRow_128 : decode b_La_addRow 128 = .ok (.iload 5, 2) := by decide +kernel
theorem d_La_addRow_130 : decode b_La_addRow 130 = .ok (.iconst 4, 1) := by decide +kernel
theorem d_La_addRow_131 : decode b_La_addRow 131 = .ok (.iadd, 1) := by decide +kernel
theorem d_La_addRow_132 : decode b_La_addRow 132 = .ok (.iload 4, 2) := by decide +kernel
theorem d_La_addRow_134 : decode b_La_addRow 134 = .ok (.iconst (-1), 1) := by decide +kernel
theorem d_La_addRow_135 : decode b_La_addRow 135 = .ok (.if_icmp .ne 9, 3) := by decide +kernel
theorem d_La_addRow_138 : decode b_La_addRow 138 = .ok (.ldc_w 265, 3) := by decide +kernel
theorem d_La_addRow_141 : decode b_La_addRow 141 = .ok (.goto 13, 3) := by decide +kernel
theorem d_La_addRow_144 : decode b_La_addRow 144 = .ok (.aload_n 0, 1) := by decide +kernel
theorem d_La_addRow_145 : decode b_La_addRow 145 = .ok (.getfield 36, 3) := by decide +kernel
theorem d_La_addRow_148 : decode b_La_addRow 148 = .ok (.iload 4, 2) := by decide +kernel
theorem d_La_addRow_150 : decode b_La_addRow 150 = .ok (.iconst 1, 1) := by decide +kernel
theorem d_La_addRow_151 : decode b_La_addRow 151 = .ok (.invokevirtual 141, 3) := by decide +kernel
theorem d_La_addRow_154 : decode b_La_addRow 154 = .ok (.iastore, 1) := by decide +kernel
theorem d_La_addRow_155 : decode b_La_addRow 155 = .ok (.aload_n 0, 1) := by decide +kernel
theorem d_La_addRow_156 : decode b_La_addRow 156 = .ok (.getfield 40, 3) := by decide +kernel
theorem d_La_addRow_159 : decode b_La_addRow 159 = .ok (.dup, 1) := by decide +kernel
theorem d_La_addRow_160 : decode b_La_addRow 160 = .ok (.getfield 255, 3) := by decide +kernel
theorem d_La_addRow_163 : decode b_La_addRow 163 = .ok (.iconst 1, 1) := by decide +kernel
theorem d_La_addRow_164 : decode b_La_addRow 164 = .ok (.iadd, 1) := by decide +kernel
theorem d_La_addRow_165 : decode b_La_addRow 165 = .ok (.putfield 255, 3) := by decide +kernel
theorem d_La_addRow_168 : decode b_La_addRow 168 = .ok (.return_, 1) := by decide +kernel
theorem d_Sc_scopeOf_0 : decode b_Sc_scopeOf 0 = .ok (.iload_n 0, 1) := by decide +kernel
theorem d_Sc_scopeOf_1 : decode b_Sc_scopeOf 1 = .ok (.iconst 2, 1) := by decide +kernel
theorem d_Sc_scopeOf_2 : decode b_Sc_scopeOf 2 = .ok (.ishr, 1) := by decide +kernel
theorem d_Sc_scopeOf_3 : decode b_Sc_scopeOf 3 = .ok (.ireturn, 1) := by decide +kernel
