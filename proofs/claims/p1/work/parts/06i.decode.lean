theorem d_Mo_decides_0 : decode b_Mo_decides 0 = .ok (.aload_n 0, 1) := by decide +kernel
theorem d_Mo_decides_1 : decode b_Mo_decides 1 = .ok (.getfield 94, 3) := by decide +kernel
theorem d_Mo_decides_4 : decode b_Mo_decides 4 = .ok (.iload_n 1, 1) := by decide +kernel
theorem d_Mo_decides_5 : decode b_Mo_decides 5 = .ok (.iaload, 1) := by decide +kernel
theorem d_Mo_decides_6 : decode b_Mo_decides 6 = .ok (.tableswitch 136 1 3 #[26, 40, 77], 26) := by decide +kernel
theorem d_Mo_decides_32 : decode b_Mo_decides 32 = .ok (.aload_n 0, 1) := by decide +kernel
theorem d_Mo_decides_33 : decode b_Mo_decides 33 = .ok (.iload_n 1, 1) := by decide +kernel
theorem d_Mo_decides_34 : decode b_Mo_decides 34 = .ok (.aload_n 0, 1) := by decide +kernel
theorem d_Mo_decides_35 : decode b_Mo_decides 35 = .ok (.getfield 13, 3) := by decide +kernel
theorem d_Mo_decides_38 : decode b_Mo_decides 38 = .ok (.iload_n 2, 1) := by decide +kernel
theorem d_Mo_decides_39 : decode b_Mo_decides 39 = .ok (.iaload, 1) := by decide +kernel
theorem d_Mo_decides_40 : decode b_Mo_decides 40 = .ok (.invokevirtual 204, 3) := by decide +kernel
theorem d_Mo_decides_43 : decode b_Mo_decides 43 = .ok (.goto 124, 3) := by decide +kernel
theorem d_Mo_decides_46 : decode b_Mo_decides 46 = .ok (.aload_n 0, 1) := by decide +kernel
theorem d_Mo_decides_47 : decode b_Mo_decides 47 = .ok (.getfield 97, 3) := by decide +kernel
theorem d_Mo_decides_50 : decode b_Mo_decides 50 = .ok (.iload_n 1, 1) := by decide +kernel
theorem d_Mo_decides_51 : decode b_Mo_decides 51 = .ok (.aload_n 0, 1) := by decide +kernel
theorem d_Mo_decides_52 : decode b_Mo_decides 52 = .ok (.getfield 164, 3) := by decide +kernel
theorem d_Mo_decides_55 : decode b_Mo_decides 55 = .ok (.iastore, 1) := by decide +kernel
theorem d_Mo_decides_56 : decode b_Mo_decides 56 = .ok (.aload_n 0, 1) := by decide +kernel
theorem d_Mo_decides_57 : decode b_Mo_decides 57 = .ok (.bipush 10, 2) := by decide +kernel
theorem d_Mo_decides_59 : decode b_Mo_decides 59 = .ok (.iconst 0, 1) := by decide +kernel
theorem d_Mo_decides_60 : decode b_Mo_decides 60 = .ok (.aload_n 0, 1) := by decide +kernel
theorem d_Mo_decides_61 : decode b_Mo_decides 61 = .ok (.getfield 85, 3) := by decide +kernel
theorem d_Mo_decides_64 : decode b_Mo_decides 64 = .ok (.iload_n 1, 1) := by decide +kernel
theorem d_Mo_decides_65 : decode b_Mo_decides 65 = .ok (.iaload, 1) := by decide +kernel
theorem d_Mo_decides_66 : decode b_Mo_decides 66 = .ok (.invokevirtual 200, 3) := by decide +kernel
theorem d_Mo_decides_69 : decode b_Mo_decides 69 = .ok (.aload_n 0, 1) := by decide +kernel
theorem d_Mo_decides_70 : decode b_Mo_decides 70 = .ok (.iload_n 1, 1) := by decide +kernel
theorem d_Mo_decides_71 : decode b_Mo_decides 71 = .ok (.aload_n 0, 1) := by decide +kernel
theorem d_Mo_decides_72 : decode b_Mo_decides 72 = .ok (.getfield 16, 3) := by decide +kernel
theorem d_Mo_decides_75 : decode b_Mo_decides 75 = .ok (.iload_n 2, 1) := by decide +kernel
theorem d_Mo_decides_76 : decode b_Mo_decides 76 = .ok (.iaload, 1) := by decide +kernel
theorem d_Mo_decides_77 : decode b_Mo_decides 77 = .ok (.invokevirtual 204, 3) := by decide +kernel
theorem d_Mo_decides_80 : decode b_Mo_decides 80 = .ok (.goto 87, 3) := by decide +kernel
theorem d_Mo_decides_83 : decode b_Mo_decides 83 = .ok (.aload_n 0, 1) := by decide +kernel
theorem d_Mo_decides_84 : decode b_Mo_decides 84 = .ok (.getfield 100, 3) := by decide +kernel
theorem d_Mo_decides_87 : decode b_Mo_decides 87 = .ok (.iload_n 1, 1) := by decide +kernel
theorem d_Mo_decides_88 : decode b_Mo_decides 88 = .ok (.aload_n 0, 1) := by decide +kernel
theorem d_Mo_decides_89 : decode b_Mo_decides 89 = .ok (.getfield 164, 3) := by decide +kernel
theorem d_Mo_decides_92 : decode b_Mo_decides 92 = .ok (.iastore, 1) := by decide +kernel
theorem d_Mo_decides_93 : decode b_Mo_decides 93 = .ok (.aload_n 0, 1) := by decide +kernel
theorem d_Mo_decides_94 : decode b_Mo_decides 94 = .ok (.bipush 11, 2) := by decide +kernel
theorem d_Mo_decides_96 : decode b_Mo_decides 96 = .ok (.iconst 0, 1) := by decide +kernel
theorem d_Mo_decides_97 : decode b_Mo_decides 97 = .ok (.aload_n 0, 1) := by decide +kernel
theorem d_Mo_decides_98 : decode b_Mo_decides 98 = .ok (.getfield 85, 3) := by decide +kernel
theorem d_Mo_decides_101 : decode b_Mo_decides 101 = .ok (.iload_n 1, 1) := by decide +kernel
theorem d_Mo_decides_102 : decode b_Mo_decides 102 = .ok (.iaload, 1) := by decide +kernel
theorem d_Mo_decides_103 : decode b_Mo_decides 103 = .ok (.invokevirtual 200, 3) := by decide +kernel
theorem d_Mo_decides_106 : decode b_Mo_decides 106 = .ok (.aload_n 0, 1) := by decide +kernel
theorem d_Mo_decides_107 : decode b_Mo_decides 107 = .ok (.getfield 167, 3) := by decide +kernel
theorem d_Mo_decides_110 : decode b_Mo_decides 110 = .ok (.ifCond .ne 18, 3) := by decide +kernel
theorem d_Mo_decides_113 : decode b_Mo_decides 113 = .ok (.aload_n 0, 1) := by decide +kernel
theorem d_Mo_decides_114 : decode b_Mo_decides 114 = .ok (.getfield 34, 3) := by decide +kernel
theorem d_Mo_decides_117 : decode b_Mo_decides 117 = .ok (.aload_n 0, 1) := by decide +kernel
theorem d_Mo_decides_118 : decode b_Mo_decides 118 = .ok (.getfield 97, 3) := by decide +kernel
theorem d_Mo_decides_121 : decode b_Mo_decides 121 = .ok (.iload_n 1, 1) := by decide +kernel
theorem d_Mo_decides_122 : decode b_Mo_decides 122 = .ok (.iaload, 1) := by decide +kernel
theorem d_Mo_decides_123 : decode b_Mo_decides 123 = .ok (.aload_n 0, 1) := by decide +kernel
theorem d_Mo_decides_124 : decode b_Mo_decides 124 = .ok (.getfield 164, 3) := by decide +kernel
theorem d_Mo_decides_127 : decode b_Mo_decides 127 = .ok (.iastore, 1) := by decide +kernel
theorem d_Mo_decides_128 : decode b_Mo_decides 128 = .ok (.aload_n 0, 1) := by decide +kernel
theorem d_Mo_decides_129 : decode b_Mo_decides 129 = .ok (.iload_n 1, 1) := by decide +kernel
theorem d_Mo_decides_130 : decode b_Mo_decides 130 = .ok (.aload_n 0, 1) := by decide +kernel
theorem d_Mo_decides_131 : decode b_Mo_decides 131 = .ok (.getfield 19, 3) := by decide +kernel
theorem d_Mo_decides_134 : decode b_Mo_decides 134 = .ok (.iload_n 2, 1) := by decide +kernel
theorem d_Mo_decides_135 : decode b_Mo_decides 135 = .ok (.iaload, 1) := by decide +kernel
theorem d_Mo_decides_136 : decode b_Mo_decides 136 = .ok (.invokevirtual 204, 3) := by decide +kernel
theorem d_Mo_decides_139 : decode b_Mo_decides 139 = .ok (.goto 28, 3) := by decide +kernel
theorem d_Mo_decides_142 : decode b_Mo_decides 142 = .ok (.aload_n 0, 1) := by decide +kernel
theorem d_Mo_decides_143 : decode b_Mo_decides 143 = .ok (.getfield 34, 3) := by decide +kernel
theorem d_Mo_decides_146 : decode b_Mo_decides 146 = .ok (.aload_n 0, 1) := by decide +kernel
theorem d_Mo_decides_147 : decode b_Mo_decides 147 = .ok (.getfield 100, 3) := by decide +kernel
theorem d_Mo_decides_150 : decode b_Mo_decides 150 = .ok (.iload_n 1, 1) := by decide +kernel
theorem d_Mo_decides_151 : decode b_Mo_decides 151 = .ok (.iaload, 1) := by decide +kernel
theorem d_Mo_decides_152 : decode b_Mo_decides 152 = .ok (.aload_n 0, 1) := by decide +kernel
theorem d_Mo_decides_153 : decode b_Mo_decides 153 = .ok (.getfield 164, 3) := by decide +kernel
theorem d_Mo_decides_156 : decode b_Mo_decides 156 = .ok (.iastore, 1) := by decide +kernel
theorem d_Mo_decides_157 : decode b_Mo_decides 157 = .ok (.aload_n 0, 1) := by decide +kernel
theorem d_Mo_decides_158 : decode b_Mo_decides 158 = .ok (.dup, 1) := by decide +kernel
theorem d_Mo_decides_159 : decode b_Mo_decides 159 = .ok (.getfield 173, 3) := by decide +kernel
theorem d_Mo_decides_162 : decode b_Mo_decides 162 = .ok (.iconst 1, 1) := by decide +kernel
theorem d_Mo_decides_163 : decode b_Mo_decides 163 = .ok (.isub, 1) := by decide +kernel
theorem d_Mo_decides_164 : decode b_Mo_decides 164 = .ok (.putfield 173, 3) := by decide +kernel
theorem d_Mo_decides_167 : decode b_Mo_decides 167 = .ok (.return_, 1) := by decide +kernel
theorem d_Mo_item_0 : decode b_Mo_item 0 = .ok (.aload_n 0, 1) := by decide +kernel
theorem d_Mo_item_1 : decode b_Mo_item 1 = .ok (.getfield 58, 3) := by decide +kernel
theorem d_Mo_item_4 : decode b_Mo_item 4 = .ok (.aload_n 0, 1) := by decide +kernel
theorem d_Mo_item_5 : decode b_Mo_item 5 = .ok (.getfield 180, 3) := by decide +kernel
theorem d_Mo_item_8 : decode b_Mo_item 8 = .ok (.aload_n 0, 1) := by decide +kernel
theorem d_Mo_item_9 : decode b_Mo_item 9 = .ok (.getfield 82, 3) := by decide +kernel
theorem d_Mo_item_12 : decode b_Mo_item 12 = .ok (.iload_n 1, 1) := by decide +kernel
theorem d_Mo_item_13 : decode b_Mo_item 13 = .ok (.iaload, 1) := by decide +kernel
theorem d_Mo_item_14 : decode b_Mo_item 14 = .ok (.iastore, 1) := by decide +kernel
theorem d_Mo_item_15 : decode b_Mo_item 15 = .ok (.aload_n 0, 1) := by decide +kernel
theorem d_Mo_item_16 : decode b_Mo_item 16 = .ok (.getfield 61, 3) := by decide +kernel
theorem d_Mo_item_19 : decode b_Mo_item 19 = .ok (.aload_n 0, 1) := by decide +kernel
theorem d_Mo_item_20 : decode b_Mo_item 20 = .ok (.getfield 180, 3) := by decide +kernel
theorem d_Mo_item_23 : decode b_Mo_item 23 = .ok (.aload_n 0, 1) := by decide +kernel
theorem d_Mo_item_24 : decode b_Mo_item 24 = .ok (.getfield 85, 3) := by decide +kernel
theorem d_Mo_item_27 : decode b_Mo_item 27 = .ok (.iload_n 1, 1) := by decide +kernel
theorem d_Mo_item_28 : decode b_Mo_item 28 = .ok (.iaload, 1) := by decide +kernel
theorem d_Mo_item_29 : decode b_Mo_item 29 = .ok (.iastore, 1) := by decide +kernel
theorem d_Mo_item_30 : decode b_Mo_item 30 = .ok (.aload_n 0, 1) := by decide +kernel
theorem d_Mo_item_31 : decode b_Mo_item 31 = .ok (.getfield 64, 3) := by decide +kernel
theorem d_Mo_item_34 : decode b_Mo_item 34 = .ok (.aload_n 0, 1) := by decide +kernel
theorem d_Mo_item_35 : decode b_Mo_item 35 = .ok (.getfield 180, 3) := by decide +kernel
theorem d_Mo_item_38 : decode b_Mo_item 38 = .ok (.aload_n 0, 1) := by decide +kernel
theorem d_Mo_item_39 : decode b_Mo_item 39 = .ok (.getfield 88, 3) := by decide +kernel
theorem d_Mo_item_42 : decode b_Mo_item 42 = .ok (.iload_n 1, 1) := by decide +kernel
theorem d_Mo_item_43 : decode b_Mo_item 43 = .ok (.iaload, 1) := by decide +kernel
theorem d_Mo_item_44 : decode b_Mo_item 44 = .ok (.iastore, 1) := by decide +kernel
theorem d_Mo_item_45 : decode b_Mo_item 45 = .ok (.aload_n 0, 1) := by decide +kernel
theorem d_Mo_item_46 : decode b_Mo_item 46 = .ok (.getfield 67, 3) := by decide +kernel
theorem d_Mo_item_49 : decode b_Mo_item 49 = .ok (.aload_n 0, 1) := by decide +kernel
theorem d_Mo_item_50 : decode b_Mo_item 50 = .ok (.getfield 180, 3) := by decide +kernel
theorem d_Mo_item_53 : decode b_Mo_item 53 = .ok (.aload_n 0, 1) := by decide +kernel
theorem d_Mo_item_54 : decode b_Mo_item 54 = .ok (.getfield 91, 3) := by decide +kernel
theorem d_Mo_item_57 : decode b_Mo_item 57 = .ok (.iload_n 1, 1) := by decide +kernel
theorem d_Mo_item_58 : decode b_Mo_item 58 = .ok (.iaload, 1) := by decide +kernel
theorem d_Mo_item_59 : decode b_Mo_item 59 = .ok (.iastore, 1) := by decide +kernel
theorem d_Mo_item_60 : decode b_Mo_item 60 = .ok (.aload_n 0, 1) := by decide +kernel
theorem d_Mo_item_61 : decode b_Mo_item 61 = .ok (.getfield 70, 3) := by decide +kernel
theorem d_Mo_item_64 : decode b_Mo_item 64 = .ok (.aload_n 0, 1) := by decide +kernel
theorem d_Mo_item_65 : decode b_Mo_item 65 = .ok (.getfield 180, 3) := by decide +kernel
theorem d_Mo_item_68 : decode b_Mo_item 68 = .ok (.iconst (-1), 1) := by decide +kernel
theorem d_Mo_item_69 : decode b_Mo_item 69 = .ok (.iastore, 1) := by decide +kernel
theorem d_Mo_item_70 : decode b_Mo_item 70 = .ok (.aload_n 0, 1) := by decide +kernel
theorem d_Mo_item_71 : decode b_Mo_item 71 = .ok (.getfield 97, 3) := by decide +kernel
theorem d_Mo_item_74 : decode b_Mo_item 74 = .ok (.iload_n 1, 1) := by decide +kernel
theorem d_Mo_item_75 : decode b_Mo_item 75 = .ok (.aload_n 0, 1) := by decide +kernel
theorem d_Mo_item_76 : decode b_Mo_item 76 = .ok (.getfield 180, 3) := by decide +kernel
theorem d_Mo_item_79 : decode b_Mo_item 79 = .ok (.iastore, 1) := by decide +kernel
theorem d_Mo_item_80 : decode b_Mo_item 80 = .ok (.aload_n 0, 1) := by decide +kernel
theorem d_Mo_item_81 : decode b_Mo_item 81 = .ok (.dup, 1) := by decide +kernel
theorem d_Mo_item_82 : decode b_Mo_item 82 = .ok (.getfield 180, 3) := by decide +kernel
theorem d_Mo_item_85 : decode b_Mo_item 85 = .ok (.iconst 1, 1) := by decide +kernel
theorem d_Mo_item_86 : decode b_Mo_item 86 = .ok (.iadd, 1) := by decide +kernel
theorem d_Mo_item_87 : decode b_Mo_item 87 = .ok (.putfield 180, 3) := by decide +kernel
theorem d_Mo_item_90 : decode b_Mo_item 90 = .ok (.return_, 1) := by decide +kernel
theorem d_Mo_ends_0 : decode b_Mo_ends 0 = .ok (.aload_n 0, 1) := by decide +kernel
theorem d_Mo_ends_1 : decode b_Mo_ends 1 = .ok (.getfield 70, 3) := by decide +kernel
theorem d_Mo_ends_4 : decode b_Mo_ends 4 = .ok (.iload_n 1, 1) := by decide +kernel
theorem d_Mo_ends_5 : decode b_Mo_ends 5 = .ok (.aload_n 0, 1) := by decide +kernel
theorem d_Mo_ends_6 : decode b_Mo_ends 6 = .ok (.getfield 164, 3) := by decide +kernel
theorem d_Mo_ends_9 : decode b_Mo_ends 9 = .ok (.iastore, 1) := by decide +kernel
theorem d_Mo_ends_10 : decode b_Mo_ends 10 = .ok (.iconst 0, 1) := by decide +kernel
theorem d_Mo_ends_11 : decode b_Mo_ends 11 = .ok (.istore_n 2, 1) := by decide +kernel
theorem d_Mo_ends_12 : decode b_Mo_ends 12 = .ok (.iload_n 2, 1) := by decide +kernel
theorem d_Mo_ends_13 : decode b_Mo_ends 13 = .ok (.aload_n 0, 1) := by decide +kernel
theorem d_Mo_ends_14 : decode b_Mo_ends 14 = .ok (.getfield 164, 3) := by decide +kernel
theorem d_Mo_ends_17 : decode b_Mo_ends 17 = .ok (.if_icmp .ge 62, 3) := by decide +kernel
theorem d_Mo_ends_20 : decode b_Mo_ends 20 = .ok (.aload_n 0, 1) := by decide +kernel
theorem d_Mo_ends_21 : decode b_Mo_ends 21 = .ok (.getfield 34, 3) := by decide +kernel
theorem d_Mo_ends_24 : decode b_Mo_ends 24 = .ok (.iload_n 2, 1) := by decide +kernel
theorem d_Mo_ends_25 : decode b_Mo_ends 25 = .ok (.aload_n 0, 1) := by decide +kernel
theorem d_Mo_ends_26 : decode b_Mo_ends 26 = .ok (.getfield 31, 3) := by decide +kernel
theorem d_Mo_ends_29 : decode b_Mo_ends 29 = .ok (.iload_n 2, 1) := by decide +kernel
theorem d_Mo_ends_30 : decode b_Mo_ends 30 = .ok (.iaload, 1) := by decide +kernel
theorem d_Mo_ends_31 : decode b_Mo_ends 31 = .ok (.bipush 10, 2) := by decide +kernel
theorem d_Mo_ends_33 : decode b_Mo_ends 33 = .ok (.if_icmp .eq 14, 3) := by decide +kernel
theorem d_Mo_ends_36 : decode b_Mo_ends 36 = .ok (.aload_n 0, 1) := by decide +kernel
theorem d_Mo_ends_37 : decode b_Mo_ends 37 = .ok (.getfield 31, 3) := by decide +kernel
theorem d_Mo_ends_40 : decode b_Mo_ends 40 = .ok (.iload_n 2, 1) := by decide +kernel
theorem d_Mo_ends_41 : decode b_Mo_ends 41 = .ok (.iaload, 1) := by decide +kernel
theorem d_Mo_ends_42 : decode b_Mo_ends 42 = .ok (.bipush 11, 2) := by decide +kernel
theorem d_Mo_ends_44 : decode b_Mo_ends 44 = .ok (.if_icmp .ne 22, 3) := by decide +kernel
theorem d_Mo_ends_47 : decode b_Mo_ends 47 = .ok (.aload_n 0, 1) := by decide +kernel
theorem d_Mo_ends_48 : decode b_Mo_ends 48 = .ok (.getfield 34, 3) := by decide +kernel
theorem d_Mo_ends_51 : decode b_Mo_ends 51 = .ok (.iload_n 2, 1) := by decide +kernel
theorem d_Mo_ends_52 : decode b_Mo_ends 52 = .ok (.iaload, 1) := by decide +kernel
theorem d_Mo_ends_53 : decode b_Mo_ends 53 = .ok (.iconst (-1), 1) := by decide +kernel
theorem d_Mo_ends_54 : decode b_Mo_ends 54 = .ok (.iload_n 1, 1) := by decide +kernel
theorem d_Mo_ends_55 : decode b_Mo_ends 55 = .ok (.isub, 1) := by decide +kernel
theorem d_Mo_ends_56 : decode b_Mo_ends 56 = .ok (.if_icmp .ne 10, 3) := by decide +kernel
theorem d_Mo_ends_59 : decode b_Mo_ends 59 = .ok (.aload_n 0, 1) := by decide +kernel
theorem d_Mo_ends_60 : decode b_Mo_ends 60 = .ok (.getfield 164, 3) := by decide +kernel
theorem d_Mo_ends_63 : decode b_Mo_ends 63 = .ok (.goto 9, 3) := by decide +kernel
theorem d_Mo_ends_66 : decode b_Mo_ends 66 = .ok (.aload_n 0, 1) := by decide +kernel
theorem d_Mo_ends_67 : decode b_Mo_ends 67 = .ok (.getfield 34, 3) := by decide +kernel
theorem d_Mo_ends_70 : decode b_Mo_ends 70 = .ok (.iload_n 2, 1) := by decide +kernel
theorem d_Mo_ends_71 : decode b_Mo_ends 71 = .ok (.iaload, 1) := by decide +kernel
theorem d_Mo_ends_72 : decode b_Mo_ends 72 = .ok (.iastore, 1) := by decide +kernel
theorem d_Mo_ends_73 : decode b_Mo_ends 73 = .ok (.iinc 2 1, 3) := by decide +kernel
theorem d_Mo_ends_76 : decode b_Mo_ends 76 = .ok (.goto (-64), 3) := by decide +kernel
theorem d_Mo_ends_79 : decode b_Mo_ends 79 = .ok (.return_, 1) := by decide +kernel
theorem d_Mo_repeats_0 : decode b_Mo_repeats 0 = .ok (.aload_n 0, 1) := by decide +kernel
theorem d_Mo_repeats_1 : decode b_Mo_repeats 1 = .ok (.getfield 94, 3) := by decide +kernel
theorem d_Mo_repeats_4 : decode b_Mo_repeats 4 = .ok (.iload_n 1, 1) := by decide +kernel
theorem d_Mo_repeats_5 : decode b_Mo_repeats 5 = .ok (.iaload, 1) := by decide +kernel
theorem d_Mo_repeats_6 : decode b_Mo_repeats 6 = .ok (.lookupswitch 108 #[(1, 26), (2, 55)], 26) := by decide +kernel
theorem d_Mo_repeats_32 : decode b_Mo_repeats 32 = .ok (.aload_n 0, 1) := by decide +kernel
theorem d_Mo_repeats_33 : decode b_Mo_repeats 33 = .ok (.iload_n 1, 1) := by decide +kernel
theorem d_Mo_repeats_34 : decode b_Mo_repeats 34 = .ok (.invokevirtual 213, 3) := by decide +kernel
theorem d_Mo_repeats_37 : decode b_Mo_repeats 37 = .ok (.aload_n 0, 1) := by decide +kernel
theorem d_Mo_repeats_38 : decode b_Mo_repeats 38 = .ok (.getfield 100, 3) := by decide +kernel
theorem d_Mo_repeats_41 : decode b_Mo_repeats 41 = .ok (.iload_n 1, 1) := by decide +kernel
theorem d_Mo_repeats_42 : decode b_Mo_repeats 42 = .ok (.aload_n 0, 1) := by decide +kernel
theorem d_Mo_repeats_43 : decode b_Mo_repeats 43 = .ok (.getfield 164, 3) := by decide +kernel
theorem d_Mo_repeats_46 : decode b_Mo_repeats 46 = .ok (.iastore, 1) := by decide +kernel
theorem d_Mo_repeats_47 : decode b_Mo_repeats 47 = .ok (.aload_n 0, 1) := by decide +kernel
theorem d_Mo_repeats_48 : decode b_Mo_repeats 48 = .ok (.iload_n 1, 1) := by decide +kernel
theorem d_Mo_repeats_49 : decode b_Mo_repeats 49 = .ok (.aload_n 0, 1) := by decide +kernel
theorem d_Mo_repeats_50 : decode b_Mo_repeats 50 = .ok (.getfield 13, 3) := by decide +kernel
theorem d_Mo_repeats_53 : decode b_Mo_repeats 53 = .ok (.iload_n 2, 1) := by decide +kernel
theorem d_Mo_repeats_54 : decode b_Mo_repeats 54 = .ok (.iaload, 1) := by decide +kernel
theorem d_Mo_repeats_55 : decode b_Mo_repeats 55 = .ok (.invokevirtual 204, 3) := by decide +kernel
theorem d_Mo_repeats_58 : decode b_Mo_repeats 58 = .ok (.goto 94, 3) := by decide +kernel
theorem d_Mo_repeats_61 : decode b_Mo_repeats 61 = .ok (.aload_n 0, 1) := by decide +kernel
theorem d_Mo_repeats_62 : decode b_Mo_repeats 62 = .ok (.bipush 10, 2) := by decide +kernel
theorem d_Mo_repeats_64 : decode b_Mo_repeats 64 = .ok (.iconst (-1), 1) := by decide +kernel
theorem d_Mo_repeats_65 : decode b_Mo_repeats 65 = .ok (.aload_n 0, 1) := by decide +kernel
theorem d_Mo_repeats_66 : decode b_Mo_repeats 66 = .ok (.getfield 97, 3) := by decide +kernel
theorem d_Mo_repeats_69 : decode b_Mo_repeats 69 = .ok (.iload_n 1, 1) := by decide +kernel
theorem d_Mo_repeats_70 : decode b_Mo_repeats 70 = .ok (.iaload, 1) := by decide +kernel
theorem d_Mo_repeats_71 : decode b_Mo_repeats 71 = .ok (.isub, 1) := by decide +kernel
theorem d_Mo_repeats_72 : decode b_Mo_repeats 72 = .ok (.aload_n 0, 1) := by decide +kernel
theorem d_Mo_repeats_73 : decode b_Mo_repeats 73 = .ok (.getfield 85, 3) := by decide +kernel
theorem d_Mo_repeats_76 : decode b_Mo_repeats 76 = .ok (.iload_n 1, 1) := by decide +kernel
theorem d_Mo_repeats_77 : decode b_Mo_repeats 77 = .ok (.iaload, 1) := by decide +kernel
theorem d_Mo_repeats_78 : decode b_Mo_repeats 78 = .ok (.invokevirtual 200, 3) := by decide +kernel
theorem d_Mo_repeats_81 : decode b_Mo_repeats 81 = .ok (.aload_n 0, 1) := by decide +kernel
theorem d_Mo_repeats_82 : decode b_Mo_repeats 82 = .ok (.aload_n 0, 1) := by decide +kernel
theorem d_Mo_repeats_83 : decode b_Mo_repeats 83 = .ok (.getfield 16, 3) := by decide +kernel
theorem d_Mo_repeats_86 : decode b_Mo_repeats 86 = .ok (.iload_n 2, 1) := by decide +kernel
theorem d_Mo_repeats_87 : decode b_Mo_repeats 87 = .ok (.iaload, 1) := by decide +kernel
theorem d_Mo_repeats_88 : decode b_Mo_repeats 88 = .ok (.iconst 2, 1) := by decide +kernel
theorem d_Mo_repeats_89 : decode b_Mo_repeats 89 = .ok (.aload_n 0, 1) := by decide +kernel
theorem d_Mo_repeats_90 : decode b_Mo_repeats 90 = .ok (.getfield 97, 3) := by decide +kernel
theorem d_Mo_repeats_93 : decode b_Mo_repeats 93 = .ok (.iload_n 1, 1) := by decide +kernel
theorem d_Mo_repeats_94 : decode b_Mo_repeats 94 = .ok (.iaload, 1) := by decide +kernel
theorem d_Mo_repeats_95 : decode b_Mo_repeats 95 = .ok (.imul, 1) := by decide +kernel
theorem d_Mo_repeats_96 : decode b_Mo_repeats 96 = .ok (.aload_n 0, 1) := by decide +kernel
theorem d_Mo_repeats_97 : decode b_Mo_repeats 97 = .ok (.getfield 88, 3) := by decide +kernel
theorem d_Mo_repeats_100 : decode b_Mo_repeats 100 = .ok (.iload_n 1, 1) := by decide +kernel
theorem d_Mo_repeats_101 : decode b_Mo_repeats 101 = .ok (.iaload, 1) := by decide +kernel
theorem d_Mo_repeats_102 : decode b_Mo_repeats 102 = .ok (.aload_n 0, 1) := by decide +kernel
theorem d_Mo_repeats_103 : decode b_Mo_repeats 103 = .ok (.getfield 91, 3) := by decide +kernel
theorem d_Mo_repeats_106 : decode b_Mo_repeats 106 = .ok (.iload_n 1, 1) := by decide +kernel
theorem d_Mo_repeats_107 : decode b_Mo_repeats 107 = .ok (.iaload, 1) := by decide +kernel
theorem d_Mo_repeats_108 : decode b_Mo_repeats 108 = .ok (.invokevirtual 176, 3) := by decide +kernel
theorem d_Mo_repeats_111 : decode b_Mo_repeats 111 = .ok (.goto 41, 3) := by decide +kernel
theorem d_Mo_repeats_114 : decode b_Mo_repeats 114 = .ok (.aload_n 0, 1) := by decide +kernel
theorem d_Mo_repeats_115 : decode b_Mo_repeats 115 = .ok (.bipush 11, 2) := by decide +kernel
theorem d_Mo_repeats_117 : decode b_Mo_repeats 117 = .ok (.aload_n 0, 1) := by decide +kernel
theorem d_Mo_repeats_118 : decode b_Mo_repeats 118 = .ok (.getfield 100, 3) := by decide +kernel
theorem d_Mo_repeats_121 : decode b_Mo_repeats 121 = .ok (.iload_n 1, 1) := by decide +kernel
theorem d_Mo_repeats_122 : decode b_Mo_repeats 122 = .ok (.iaload, 1) := by decide +kernel
theorem d_Mo_repeats_123 : decode b_Mo_repeats 123 = .ok (.aload_n 0, 1) := by decide +kernel
theorem d_Mo_repeats_124 : decode b_Mo_repeats 124 = .ok (.getfield 85, 3) := by decide +kernel
theorem d_Mo_repeats_127 : decode b_Mo_repeats 127 = .ok (.iload_n 1, 1) := by decide +kernel
theorem d_Mo_repeats_128 : decode b_Mo_repeats 128 = .ok (.iaload, 1) := by decide +kernel
theorem d_Mo_repeats_129 : decode b_Mo_repeats 129 = .ok (.invokevirtual 200, 3) := by decide +kernel
theorem d_Mo_repeats_132 : decode b_Mo_repeats 132 = .ok (.aload_n 0, 1) := by decide +kernel
theorem d_Mo_repeats_133 : decode b_Mo_repeats 133 = .ok (.aload_n 0, 1) := by decide +kernel
theorem d_Mo_repeats_134 : decode b_Mo_repeats 134 = .ok (.getfield 97, 3) := by decide +kernel
theorem d_Mo_repeats_137 : decode b_Mo_repeats 137 = .ok (.iload_n 1, 1) := by decide +kernel
theorem d_Mo_repeats_138 : decode b_Mo_repeats 138 = .ok (.iaload, 1) := by decide +kernel
theorem d_Mo_repeats_139 : decode b_Mo_repeats 139 = .ok (.invokevirtual 216, 3) := by decide +kernel
theorem d_Mo_repeats_142 : decode b_Mo_repeats 142 = .ok (.aload_n 0, 1) := by decide +kernel
theorem d_Mo_repeats_143 : decode b_Mo_repeats 143 = .ok (.dup, 1) := by decide +kernel
theorem d_Mo_repeats_144 : decode b_Mo_repeats 144 = .ok (.getfield 173, 3) := by decide +kernel
theorem d_Mo_repeats_147 : decode b_Mo_repeats 147 = .ok (.iconst 1, 1) := by decide +kernel
theorem d_Mo_repeats_148 : decode b_Mo_repeats 148 = .ok (.isub, 1) := by decide +kernel
theorem d_Mo_repeats_149 : decode b_Mo_repeats 149 = .ok (.putfield 173, 3) := by decide +kernel
theorem d_Mo_repeats_152 : decode b_Mo_repeats 152 = .ok (.return_, 1) := by decide +kernel
theorem d_Mo_statement_0 : decode b_Mo_statement 0 = .ok (.aload_n 0, 1) := by decide +kernel
theorem d_Mo_statement_1 : decode b_Mo_statement 1 = .ok (.getfield 82, 3) := by decide +kernel
theorem d_Mo_statement_4 : decode b_Mo_statement 4 = .ok (.iload_n 1, 1) := by decide +kernel
theorem d_Mo_statement_5 : decode b_Mo_statement 5 = .ok (.iaload, 1) := by decide +kernel
theorem d_Mo_statement_6 : decode b_Mo_statement 6 = .ok (.istore_n 3, 1) := by decide +kernel
theorem d_Mo_statement_7 : decode b_Mo_statement 7 = .ok (.iload_n 2, 1) := by decide +kernel
theorem d_Mo_statement_8 : decode b_Mo_statement 8 = .ok (.tableswitch 251 9 15 #[44, 44, 146, 202, 211, 44, 220], 44) := by decide +kernel
theorem d_Mo_statement_52 : decode b_Mo_statement 52 = .ok (.aload_n 0, 1) := by decide +kernel
theorem d_Mo_statement_53 : decode b_Mo_statement 53 = .ok (.getfield 94, 3) := by decide +kernel
theorem d_Mo_statement_56 : decode b_Mo_statement 56 = .ok (.iload_n 1, 1) := by decide +kernel
theorem d_Mo_statement_57 : decode b_Mo_statement 57 = .ok (.iaload, 1) := by decide +kernel
theorem d_Mo_statement_58 : decode b_Mo_statement 58 = .ok (.iconst 1, 1) := by decide +kernel
theorem d_Mo_statement_59 : decode b_Mo_statement 59 = .ok (.if_icmp .ne 32, 3) := by decide +kernel
theorem d_Mo_statement_62 : decode b_Mo_statement 62 = .ok (.aload_n 0, 1) := by decide +kernel
theorem d_Mo_statement_63 : decode b_Mo_statement 63 = .ok (.iload_n 1, 1) := by decide +kernel
theorem d_Mo_statement_64 : decode b_Mo_statement 64 = .ok (.iload_n 2, 1) := by decide +kernel
theorem d_Mo_statement_65 : decode b_Mo_statement 65 = .ok (.bipush 9, 2) := by decide +kernel
theorem d_Mo_statement_67 : decode b_Mo_statement 67 = .ok (.if_icmp .ne 12, 3) := by decide +kernel
theorem d_Mo_statement_70 : decode b_Mo_statement 70 = .ok (.aload_n 0, 1) := by decide +kernel
theorem d_Mo_statement_71 : decode b_Mo_statement 71 = .ok (.getfield 16, 3) := by decide +kernel
theorem d_Mo_statement_74 : decode b_Mo_statement 74 = .ok (.iload_n 3, 1) := by decide +kernel
theorem d_Mo_statement_75 : decode b_Mo_statement 75 = .ok (.iaload, 1) := by decide +kernel
theorem d_Mo_statement_76 : decode b_Mo_statement 76 = .ok (.goto 9, 3) := by decide +kernel
theorem d_Mo_statement_79 : decode b_Mo_statement 79 = .ok (.aload_n 0, 1) := by decide +kernel
theorem d_Mo_statement_80 : decode b_Mo_statement 80 = .ok (.getfield 13, 3) := by decide +kernel
theorem d_Mo_statement_83 : decode b_Mo_statement 83 = .ok (.iload_n 3, 1) := by decide +kernel
theorem d_Mo_statement_84 : decode b_Mo_statement 84 = .ok (.iaload, 1) := by decide +kernel
theorem d_Mo_statement_85 : decode b_Mo_statement 85 = .ok (.invokevirtual 204, 3) := by decide +kernel
theorem d_Mo_statement_88 : decode b_Mo_statement 88 = .ok (.goto 181, 3) := by decide +kernel
theorem d_Mo_statement_91 : decode b_Mo_statement 91 = .ok (.aload_n 0, 1) := by decide +kernel
theorem d_Mo_statement_92 : decode b_Mo_statement 92 = .ok (.iload_n 2, 1) := by decide +kernel
theorem d_Mo_statement_93 : decode b_Mo_statement 93 = .ok (.bipush 9, 2) := by decide +kernel
theorem d_Mo_statement_95 : decode b_Mo_statement 95 = .ok (.if_icmp .ne 8, 3) := by decide +kernel
theorem d_Mo_statement_98 : decode b_Mo_statement 98 = .ok (.bipush 8, 2) := by decide +kernel
theorem d_Mo_statement_100 : decode b_Mo_statement 100 = .ok (.goto 16, 3) := by decide +kernel
theorem d_Mo_statement_103 : decode b_Mo_statement 103 = .ok (.iload_n 2, 1) := by decide +kernel
theorem d_Mo_statement_104 : decode b_Mo_statement 104 = .ok (.bipush 10, 2) := by decide +kernel
theorem d_Mo_statement_106 : decode b_Mo_statement 106 = .ok (.if_icmp .ne 8, 3) := by decide +kernel
theorem d_Mo_statement_109 : decode b_Mo_statement 109 = .ok (.bipush 9, 2) := by decide +kernel
theorem d_Mo_statement_111 : decode b_Mo_statement 111 = .ok (.goto 5, 3) := by decide +kernel
theorem d_Mo_statement_114 : decode b_Mo_statement 114 = .ok (.bipush 12, 2) := by decide +kernel
theorem d_Mo_statement_116 : decode b_Mo_statement 116 = .ok (.iload_n 2, 1) := by decide +kernel
theorem d_Mo_statement_117 : decode b_Mo_statement 117 = .ok (.bipush 9, 2) := by decide +kernel
theorem d_Mo_statement_119 : decode b_Mo_statement 119 = .ok (.if_icmp .ne 12, 3) := by decide +kernel
theorem d_Mo_statement_122 : decode b_Mo_statement 122 = .ok (.aload_n 0, 1) := by decide +kernel
theorem d_Mo_statement_123 : decode b_Mo_statement 123 = .ok (.getfield 13, 3) := by decide +kernel
theorem d_Mo_statement_126 : decode b_Mo_statement 126 = .ok (.iload_n 3, 1) := by decide +kernel
theorem d_Mo_statement_127 : decode b_Mo_statement 127 = .ok (.iaload, 1) := by decide +kernel
theorem d_Mo_statement_128 : decode b_Mo_statement 128 = .ok (.goto 4, 3) := by decide +kernel
theorem d_Mo_statement_131 : decode b_Mo_statement 131 = .ok (.iconst 0, 1) := by decide +kernel
theorem d_Mo_statement_132 : decode b_Mo_statement 132 = .ok (.aload_n 0, 1) := by decide +kernel
theorem d_Mo_statement_133 : decode b_Mo_statement 133 = .ok (.getfield 85, 3) := by decide +kernel
theorem d_Mo_statement_136 : decode b_Mo_statement 136 = .ok (.iload_n 1, 1) := by decide +kernel
theorem d_Mo_statement_137 : decode b_Mo_statement 137 = .ok (.iaload, 1) := by decide +kernel
theorem d_Mo_statement_138 : decode b_Mo_statement 138 = .ok (.invokevirtual 200, 3) := by decide +kernel
theorem d_Mo_statement_141 : decode b_Mo_statement 141 = .ok (.aload_n 0, 1) := by decide +kernel
theorem d_Mo_statement_142 : decode b_Mo_statement 142 = .ok (.dup, 1) := by decide +kernel
theorem d_Mo_statement_143 : decode b_Mo_statement 143 = .ok (.getfield 173, 3) := by decide +kernel
theorem d_Mo_statement_146 : decode b_Mo_statement 146 = .ok (.iconst 1, 1) := by decide +kernel
theorem d_Mo_statement_147 : decode b_Mo_statement 147 = .ok (.isub, 1) := by decide +kernel
theorem d_Mo_statement_148 : decode b_Mo_statement 148 = .ok (.putfield 173, 3) := by decide +kernel
theorem d_Mo_statement_151 : decode b_Mo_statement 151 = .ok (.goto 118, 3) := by decide +kernel
theorem d_Mo_statement_154 : decode b_Mo_statement 154 = .ok (.aload_n 0, 1) := by decide +kernel
theorem d_Mo_statement_155 : decode b_Mo_statement 155 = .ok (.getfield 94, 3) := by decide +kernel
theorem d_Mo_statement_158 : decode b_Mo_statement 158 = .ok (.iload_n 1, 1) := by decide +kernel
theorem d_Mo_statement_159 : decode b_Mo_statement 159 = .ok (.iaload, 1) := by decide +kernel
theorem d_Mo_statement_160 : decode b_Mo_statement 160 = .ok (.iconst 3, 1) := by decide +kernel
theorem d_Mo_statement_161 : decode b_Mo_statement 161 = .ok (.if_icmp .ge 36, 3) := by decide +kernel
theorem d_Mo_statement_164 : decode b_Mo_statement 164 = .ok (.aload_n 0, 1) := by decide +kernel
theorem d_Mo_statement_165 : decode b_Mo_statement 165 = .ok (.iload_n 1, 1) := by decide +kernel
theorem d_Mo_statement_166 : decode b_Mo_statement 166 = .ok (.aload_n 0, 1) := by decide +kernel
theorem d_Mo_statement_167 : decode b_Mo_statement 167 = .ok (.getfield 94, 3) := by decide +kernel
theorem d_Mo_statement_170 : decode b_Mo_statement 170 = .ok (.iload_n 1, 1) := by decide +kernel
theorem d_Mo_statement_171 : decode b_Mo_statement 171 = .ok (.iaload, 1) := by decide +kernel
theorem d_Mo_statement_172 : decode b_Mo_statement 172 = .ok (.iconst 1, 1) := by decide +kernel
theorem d_Mo_statement_173 : decode b_Mo_statement 173 = .ok (.if_icmp .ne 12, 3) := by decide +kernel
theorem d_Mo_statement_176 : decode b_Mo_statement 176 = .ok (.aload_n 0, 1) := by decide +kernel
theorem d_Mo_statement_177 : decode b_Mo_statement 177 = .ok (.getfield 13, 3) := by decide +kernel
theorem d_Mo_statement_180 : decode b_Mo_statement 180 = .ok (.iload_n 3, 1) := by decide +kernel
theorem d_Mo_statement_181 : decode b_Mo_statement 181 = .ok (.iaload, 1) := by decide +kernel
theorem d_Mo_statement_182 : decode b_Mo_statement 182 = .ok (.goto 9, 3) := by decide +kernel
theorem d_Mo_statement_185 : decode b_Mo_statement 185 = .ok (.aload_n 0, 1) := by decide +kernel
theorem d_Mo_statement_186 : decode b_Mo_statement 186 = .ok (.getfield 16, 3) := by decide +kernel
theorem d_Mo_statement_189 : decode b_Mo_statement 189 = .ok (.iload_n 3, 1) := by decide +kernel
theorem d_Mo_statement_190 : decode b_Mo_statement 190 = .ok (.iaload, 1) := by decide +kernel
theorem d_Mo_statement_191 : decode b_Mo_statement 191 = .ok (.invokevirtual 204, 3) := by decide +kernel
theorem d_Mo_statement_194 : decode b_Mo_statement 194 = .ok (.goto 75, 3) := by decide +kernel
theorem d_Mo_statement_197 : decode b_Mo_statement 197 = .ok (.aload_n 0, 1) := by decide +kernel
theorem d_Mo_statement_198 : decode b_Mo_statement 198 = .ok (.dup, 1) := by decide +kernel
theorem d_Mo_statement_199 : decode b_Mo_statement 199 = .ok (.getfield 173, 3) := by decide +kernel
theorem d_Mo_statement_202 : decode b_Mo_statement 202 = .ok (.iconst 1, 1) := by decide +kernel
theorem d_Mo_statement_203 : decode b_Mo_statement 203 = .ok (.isub, 1) := by decide +kernel
theorem d_Mo_statement_204 : decode b_Mo_statement 204 = .ok (.putfield 173, 3) := by decide +kernel
theorem d_Mo_statement_207 : decode b_Mo_statement 207 = .ok (.goto 62, 3) := by decide +kernel
theorem d_Mo_statement_210 : decode b_Mo_statement 210 = .ok (.aload_n 0, 1) := by decide +kernel
theorem d_Mo_statement_211 : decode b_Mo_statement 211 = .ok (.iload_n 1, 1) := by decide +kernel
theorem d_Mo_statement_212 : decode b_Mo_statement 212 = .ok (.iload_n 3, 1) := by decide +kernel
theorem d_Mo_statement_213 : decode b_Mo_statement 213 = .ok (.invokevirtual 207, 3) := by decide +kernel
theorem d_Mo_statement_216 : decode b_Mo_statement 216 = .ok (.goto 53, 3) := by decide +kernel
theorem d_Mo_statement_219 : decode b_Mo_statement 219 = .ok (.aload_n 0, 1) := by decide +kernel
theorem d_Mo_statement_220 : decode b_Mo_statement 220 = .ok (.iload_n 1, 1) := by decide +kernel
theorem d_Mo_statement_221 : decode b_Mo_statement 221 = .ok (.iload_n 3, 1) := by decide +kernel
theorem d_Mo_statement_222 : decode b_Mo_statement 222 = .ok (.invokevirtual 210, 3) := by decide +kernel
theorem d_Mo_statement_225 : decode b_Mo_statement 225 = .ok (.goto 44, 3) := by decide +kernel
theorem d_Mo_statement_228 : decode b_Mo_statement 228 = .ok (.aload_n 0, 1) := by decide +kernel
theorem d_Mo_statement_229 : decode b_Mo_statement 229 = .ok (.bipush 13, 2) := by decide +kernel
theorem d_Mo_statement_231 : decode b_Mo_statement 231 = .ok (.aload_n 0, 1) := by decide +kernel
theorem d_Mo_statement_232 : decode b_Mo_statement 232 = .ok (.getfield 13, 3) := by decide +kernel
theorem d_Mo_statement_235 : decode b_Mo_statement 235 = .ok (.iload_n 3, 1) := by decide +kernel
theorem d_Mo_statement_236 : decode b_Mo_statement 236 = .ok (.iaload, 1) := by decide +kernel
theorem d_Mo_statement_237 : decode b_Mo_statement 237 = .ok (.aload_n 0, 1) := by decide +kernel
theorem d_Mo_statement_238 : decode b_Mo_statement 238 = .ok (.getfield 85, 3) := by decide +kernel
theorem d_Mo_statement_241 : decode b_Mo_statement 241 = .ok (.iload_n 1, 1) := by decide +kernel
theorem d_Mo_statement_242 : decode b_Mo_statement 242 = .ok (.iaload, 1) := by decide +kernel
theorem d_Mo_statement_243 : decode b_Mo_statement 243 = .ok (.invokevirtual 200, 3) := by decide +kernel
theorem d_Mo_statement_246 : decode b_Mo_statement 246 = .ok (.aload_n 0, 1) := by decide +kernel
theorem d_Mo_statement_247 : decode b_Mo_statement 247 = .ok (.dup, 1) := by decide +kernel
theorem d_Mo_statement_248 : decode b_Mo_statement 248 = .ok (.getfield 173, 3) := by decide +kernel
theorem d_Mo_statement_251 : decode b_Mo_statement 251 = .ok (.iconst 1, 1) := by decide +kernel
theorem d_Mo_statement_252 : decode b_Mo_statement 252 = .ok (.isub, 1) := by decide +kernel
theorem d_Mo_statement_253 : decode b_Mo_statement 253 = .ok (.putfield 173, 3) := by decide +kernel
theorem d_Mo_statement_256 : decode b_Mo_statement 256 = .ok (.goto 13, 3) := by decide +kernel
theorem d_Mo_statement_259 : decode b_Mo_statement 259 = .ok (.aload_n 0, 1) := by decide +kernel
theorem d_Mo_statement_260 : decode b_Mo_statement 260 = .ok (.dup, 1) := by decide +kernel
theorem d_Mo_statement_261 : decode b_Mo_statement 261 = .ok (.getfield 173, 3) := by decide +kernel
theorem d_Mo_statement_264 : decode b_Mo_statement 264 = .ok (.iconst 1, 1) := by decide +kernel
theorem d_Mo_statement_265 : decode b_Mo_statement 265 = .ok (.isub, 1) := by decide +kernel
theorem d_Mo_statement_266 : decode b_Mo_statement 266 = .ok (.putfield 173, 3) := by decide +kernel
theorem d_Mo_statement_269 : decode b_Mo_statement 269 = .ok (.return_, 1) := by decide +kernel
