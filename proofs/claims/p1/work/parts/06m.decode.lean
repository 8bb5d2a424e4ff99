theorem d_Mo_run_0 : decode b_Mo_run 0 = .ok (.aload_n 0, 1) := by decide +kernel
theorem d_Mo_run_1 : decode b_Mo_run 1 = .ok (.iconst 0, 1) := by decide +kernel
theorem d_Mo_run_2 : decode b_Mo_run 2 = .ok (.putfield 125, 3) := by decide +kernel
theorem d_Mo_run_5 : decode b_Mo_run 5 = .ok (.aload_n 0, 1) := by decide +kernel
theorem d_Mo_run_6 : decode b_Mo_run 6 = .ok (.getfield 266, 3) := by decide +kernel
theorem d_Mo_run_9 : decode b_Mo_run 9 = .ok (.ifCond .eq 12, 3) := by decide +kernel
theorem d_Mo_run_12 : decode b_Mo_run 12 = .ok (.iload_n 1, 1) := by decide +kernel
theorem d_Mo_run_13 : decode b_Mo_run 13 = .ok (.ifCond .lt 8, 3) := by decide +kernel
theorem d_Mo_run_16 : decode b_Mo_run 16 = .ok (.iload_n 1, 1) := by decide +kernel
theorem d_Mo_run_17 : decode b_Mo_run 17 = .ok (.iconst 5, 1) := by decide +kernel
theorem d_Mo_run_18 : decode b_Mo_run 18 = .ok (.if_icmp .le 5, 3) := by decide +kernel
theorem d_Mo_run_21 : decode b_Mo_run 21 = .ok (.iconst (-1), 1) := by decide +kernel
theorem d_Mo_run_22 : decode b_Mo_run 22 = .ok (.ireturn, 1) := by decide +kernel
theorem d_Mo_run_23 : decode b_Mo_run 23 = .ok (.iconst 0, 1) := by decide +kernel
theorem d_Mo_run_24 : decode b_Mo_run 24 = .ok (.istore_n 2, 1) := by decide +kernel
theorem d_Mo_run_25 : decode b_Mo_run 25 = .ok (.iload_n 2, 1) := by decide +kernel
theorem d_Mo_run_26 : decode b_Mo_run 26 = .ok (.bipush 8, 2) := by decide +kernel
theorem d_Mo_run_28 : decode b_Mo_run 28 = .ok (.if_icmp .ge 16, 3) := by decide +kernel
theorem d_Mo_run_31 : decode b_Mo_run 31 = .ok (.aload_n 0, 1) := by decide +kernel
theorem d_Mo_run_32 : decode b_Mo_run 32 = .ok (.getfield 103, 3) := by decide +kernel
theorem d_Mo_run_35 : decode b_Mo_run 35 = .ok (.iload_n 2, 1) := by decide +kernel
theorem d_Mo_run_36 : decode b_Mo_run 36 = .ok (.iconst 0, 1) := by decide +kernel
theorem d_Mo_run_37 : decode b_Mo_run 37 = .ok (.iastore, 1) := by decide +kernel
theorem d_Mo_run_38 : decode b_Mo_run 38 = .ok (.iinc 2 1, 3) := by decide +kernel
theorem d_Mo_run_41 : decode b_Mo_run 41 = .ok (.goto (-16), 3) := by decide +kernel
theorem d_Mo_run_44 : decode b_Mo_run 44 = .ok (.aload_n 0, 1) := by decide +kernel
theorem d_Mo_run_45 : decode b_Mo_run 45 = .ok (.iconst 0, 1) := by decide +kernel
theorem d_Mo_run_46 : decode b_Mo_run 46 = .ok (.putfield 106, 3) := by decide +kernel
theorem d_Mo_run_49 : decode b_Mo_run 49 = .ok (.aload_n 0, 1) := by decide +kernel
theorem d_Mo_run_50 : decode b_Mo_run 50 = .ok (.iconst 0, 1) := by decide +kernel
theorem d_Mo_run_51 : decode b_Mo_run 51 = .ok (.putfield 284, 3) := by decide +kernel
theorem d_Mo_run_54 : decode b_Mo_run 54 = .ok (.aload_n 0, 1) := by decide +kernel
theorem d_Mo_run_55 : decode b_Mo_run 55 = .ok (.iconst 0, 1) := by decide +kernel
theorem d_Mo_run_56 : decode b_Mo_run 56 = .ok (.putfield 313, 3) := by decide +kernel
theorem d_Mo_run_59 : decode b_Mo_run 59 = .ok (.aload_n 0, 1) := by decide +kernel
theorem d_Mo_run_60 : decode b_Mo_run 60 = .ok (.iconst 0, 1) := by decide +kernel
theorem d_Mo_run_61 : decode b_Mo_run 61 = .ok (.putfield 301, 3) := by decide +kernel
theorem d_Mo_run_64 : decode b_Mo_run 64 = .ok (.aload_n 0, 1) := by decide +kernel
theorem d_Mo_run_65 : decode b_Mo_run 65 = .ok (.iconst 0, 1) := by decide +kernel
theorem d_Mo_run_66 : decode b_Mo_run 66 = .ok (.putfield 278, 3) := by decide +kernel
theorem d_Mo_run_69 : decode b_Mo_run 69 = .ok (.aload_n 0, 1) := by decide +kernel
theorem d_Mo_run_70 : decode b_Mo_run 70 = .ok (.iconst 1, 1) := by decide +kernel
theorem d_Mo_run_71 : decode b_Mo_run 71 = .ok (.putfield 275, 3) := by decide +kernel
theorem d_Mo_run_74 : decode b_Mo_run 74 = .ok (.aload_n 0, 1) := by decide +kernel
theorem d_Mo_run_75 : decode b_Mo_run 75 = .ok (.iconst 1, 1) := by decide +kernel
theorem d_Mo_run_76 : decode b_Mo_run 76 = .ok (.putfield 298, 3) := by decide +kernel
theorem d_Mo_run_79 : decode b_Mo_run 79 = .ok (.aload_n 0, 1) := by decide +kernel
theorem d_Mo_run_80 : decode b_Mo_run 80 = .ok (.getfield 113, 3) := by decide +kernel
theorem d_Mo_run_83 : decode b_Mo_run 83 = .ok (.iconst 0, 1) := by decide +kernel
theorem d_Mo_run_84 : decode b_Mo_run 84 = .ok (.aload_n 0, 1) := by decide +kernel
theorem d_Mo_run_85 : decode b_Mo_run 85 = .ok (.getfield 55, 3) := by decide +kernel
theorem d_Mo_run_88 : decode b_Mo_run 88 = .ok (.iload_n 1, 1) := by decide +kernel
theorem d_Mo_run_89 : decode b_Mo_run 89 = .ok (.iaload, 1) := by decide +kernel
theorem d_Mo_run_90 : decode b_Mo_run 90 = .ok (.iastore, 1) := by decide +kernel
theorem d_Mo_run_91 : decode b_Mo_run 91 = .ok (.aload_n 0, 1) := by decide +kernel
theorem d_Mo_run_92 : decode b_Mo_run 92 = .ok (.getfield 116, 3) := by decide +kernel
theorem d_Mo_run_95 : decode b_Mo_run 95 = .ok (.iconst 0, 1) := by decide +kernel
theorem d_Mo_run_96 : decode b_Mo_run 96 = .ok (.iconst 0, 1) := by decide +kernel
theorem d_Mo_run_97 : decode b_Mo_run 97 = .ok (.iastore, 1) := by decide +kernel
theorem d_Mo_run_98 : decode b_Mo_run 98 = .ok (.aload_n 0, 1) := by decide +kernel
theorem d_Mo_run_99 : decode b_Mo_run 99 = .ok (.getfield 106, 3) := by decide +kernel
theorem d_Mo_run_102 : decode b_Mo_run 102 = .ok (.ifCond .ne 38, 3) := by decide +kernel
theorem d_Mo_run_105 : decode b_Mo_run 105 = .ok (.aload_n 0, 1) := by decide +kernel
theorem d_Mo_run_106 : decode b_Mo_run 106 = .ok (.getfield 313, 3) := by decide +kernel
theorem d_Mo_run_109 : decode b_Mo_run 109 = .ok (.sipush 3000, 3) := by decide +kernel
theorem d_Mo_run_112 : decode b_Mo_run 112 = .ok (.if_icmp .ne 11, 3) := by decide +kernel
theorem d_Mo_run_115 : decode b_Mo_run 115 = .ok (.aload_n 0, 1) := by decide +kernel
theorem d_Mo_run_116 : decode b_Mo_run 116 = .ok (.iconst 3, 1) := by decide +kernel
theorem d_Mo_run_117 : decode b_Mo_run 117 = .ok (.putfield 106, 3) := by decide +kernel
theorem d_Mo_run_120 : decode b_Mo_run 120 = .ok (.goto (-22), 3) := by decide +kernel
theorem d_Mo_run_123 : decode b_Mo_run 123 = .ok (.aload_n 0, 1) := by decide +kernel
theorem d_Mo_run_124 : decode b_Mo_run 124 = .ok (.dup, 1) := by decide +kernel
theorem d_Mo_run_125 : decode b_Mo_run 125 = .ok (.getfield 313, 3) := by decide +kernel
theorem d_Mo_run_128 : decode b_Mo_run 128 = .ok (.iconst 1, 1) := by decide +kernel
theorem d_Mo_run_129 : decode b_Mo_run 129 = .ok (.iadd, 1) := by decide +kernel
theorem d_Mo_run_130 : decode b_Mo_run 130 = .ok (.putfield 313, 3) := by decide +kernel
theorem d_Mo_run_133 : decode b_Mo_run 133 = .ok (.aload_n 0, 1) := by decide +kernel
theorem d_Mo_run_134 : decode b_Mo_run 134 = .ok (.invokevirtual 316, 3) := by decide +kernel
theorem d_Mo_run_137 : decode b_Mo_run 137 = .ok (.goto (-39), 3) := by decide +kernel
theorem d_Mo_run_140 : decode b_Mo_run 140 = .ok (.aload_n 0, 1) := by decide +kernel
theorem d_Mo_run_141 : decode b_Mo_run 141 = .ok (.getfield 106, 3) := by decide +kernel
theorem d_Mo_run_144 : decode b_Mo_run 144 = .ok (.ireturn, 1) := by decide +kernel
theorem d_Mo_latest_0 : decode b_Mo_latest 0 = .ok (.aload_n 0, 1) := by decide +kernel
theorem d_Mo_latest_1 : decode b_Mo_latest 1 = .ok (.iconst 0, 1) := by decide +kernel
theorem d_Mo_latest_2 : decode b_Mo_latest 2 = .ok (.putfield 125, 3) := by decide +kernel
theorem d_Mo_latest_5 : decode b_Mo_latest 5 = .ok (.aload_n 0, 1) := by decide +kernel
theorem d_Mo_latest_6 : decode b_Mo_latest 6 = .ok (.getfield 106, 3) := by decide +kernel
theorem d_Mo_latest_9 : decode b_Mo_latest 9 = .ok (.iconst (-1), 1) := by decide +kernel
theorem d_Mo_latest_10 : decode b_Mo_latest 10 = .ok (.if_icmp .ne 5, 3) := by decide +kernel
theorem d_Mo_latest_13 : decode b_Mo_latest 13 = .ok (.iconst (-1), 1) := by decide +kernel
theorem d_Mo_latest_14 : decode b_Mo_latest 14 = .ok (.ireturn, 1) := by decide +kernel
theorem d_Mo_latest_15 : decode b_Mo_latest 15 = .ok (.iload_n 1, 1) := by decide +kernel
theorem d_Mo_latest_16 : decode b_Mo_latest 16 = .ok (.tableswitch 70 0 5 #[40, 45, 50, 55, 60, 65], 40) := by decide +kernel
theorem d_Mo_latest_56 : decode b_Mo_latest 56 = .ok (.aload_n 0, 1) := by decide +kernel
theorem d_Mo_latest_57 : decode b_Mo_latest 57 = .ok (.getfield 106, 3) := by decide +kernel
theorem d_Mo_latest_60 : decode b_Mo_latest 60 = .ok (.ireturn, 1) := by decide +kernel
theorem d_Mo_latest_61 : decode b_Mo_latest 61 = .ok (.aload_n 0, 1) := by decide +kernel
theorem d_Mo_latest_62 : decode b_Mo_latest 62 = .ok (.getfield 284, 3) := by decide +kernel
theorem d_Mo_latest_65 : decode b_Mo_latest 65 = .ok (.ireturn, 1) := by decide +kernel
theorem d_Mo_latest_66 : decode b_Mo_latest 66 = .ok (.aload_n 0, 1) := by decide +kernel
theorem d_Mo_latest_67 : decode b_Mo_latest 67 = .ok (.getfield 313, 3) := by decide +kernel
theorem d_Mo_latest_70 : decode b_Mo_latest 70 = .ok (.ireturn, 1) := by decide +kernel
theorem d_Mo_latest_71 : decode b_Mo_latest 71 = .ok (.aload_n 0, 1) := by decide +kernel
theorem d_Mo_latest_72 : decode b_Mo_latest 72 = .ok (.getfield 301, 3) := by decide +kernel
theorem d_Mo_latest_75 : decode b_Mo_latest 75 = .ok (.ireturn, 1) := by decide +kernel
theorem d_Mo_latest_76 : decode b_Mo_latest 76 = .ok (.aload_n 0, 1) := by decide +kernel
theorem d_Mo_latest_77 : decode b_Mo_latest 77 = .ok (.getfield 278, 3) := by decide +kernel
theorem d_Mo_latest_80 : decode b_Mo_latest 80 = .ok (.ireturn, 1) := by decide +kernel
theorem d_Mo_latest_81 : decode b_Mo_latest 81 = .ok (.aload_n 0, 1) := by decide +kernel
theorem d_Mo_latest_82 : decode b_Mo_latest 82 = .ok (.getfield 298, 3) := by decide +kernel
theorem d_Mo_latest_85 : decode b_Mo_latest 85 = .ok (.ireturn, 1) := by decide +kernel
theorem d_Mo_latest_86 : decode b_Mo_latest 86 = .ok (.iconst (-1), 1) := by decide +kernel
theorem d_Mo_latest_87 : decode b_Mo_latest 87 = .ok (.ireturn, 1) := by decide +kernel
theorem d_Mo_out_0 : decode b_Mo_out 0 = .ok (.aload_n 0, 1) := by decide +kernel
theorem d_Mo_out_1 : decode b_Mo_out 1 = .ok (.iconst 0, 1) := by decide +kernel
theorem d_Mo_out_2 : decode b_Mo_out 2 = .ok (.putfield 125, 3) := by decide +kernel
theorem d_Mo_out_5 : decode b_Mo_out 5 = .ok (.iload_n 1, 1) := by decide +kernel
theorem d_Mo_out_6 : decode b_Mo_out 6 = .ok (.ifCond .lt 20, 3) := by decide +kernel
theorem d_Mo_out_9 : decode b_Mo_out 9 = .ok (.iload_n 1, 1) := by decide +kernel
theorem d_Mo_out_10 : decode b_Mo_out 10 = .ok (.aload_n 0, 1) := by decide +kernel
theorem d_Mo_out_11 : decode b_Mo_out 11 = .ok (.getfield 301, 3) := by decide +kernel
theorem d_Mo_out_14 : decode b_Mo_out 14 = .ok (.if_icmp .ge 12, 3) := by decide +kernel
theorem d_Mo_out_17 : decode b_Mo_out 17 = .ok (.aload_n 0, 1) := by decide +kernel
theorem d_Mo_out_18 : decode b_Mo_out 18 = .ok (.getfield 110, 3) := by decide +kernel
theorem d_Mo_out_21 : decode b_Mo_out 21 = .ok (.iload_n 1, 1) := by decide +kernel
theorem d_Mo_out_22 : decode b_Mo_out 22 = .ok (.iaload, 1) := by decide +kernel
theorem d_Mo_out_23 : decode b_Mo_out 23 = .ok (.goto 4, 3) := by decide +kernel
theorem d_Mo_out_26 : decode b_Mo_out 26 = .ok (.iconst 0, 1) := by decide +kernel
theorem d_Mo_out_27 : decode b_Mo_out 27 = .ok (.ireturn, 1) := by decide +kernel
theorem d_Mo_variable_0 : decode b_Mo_variable 0 = .ok (.aload_n 0, 1) := by decide +kernel
theorem d_Mo_variable_1 : decode b_Mo_variable 1 = .ok (.iconst 0, 1) := by decide +kernel
theorem d_Mo_variable_2 : decode b_Mo_variable 2 = .ok (.putfield 125, 3) := by decide +kernel
theorem d_Mo_variable_5 : decode b_Mo_variable 5 = .ok (.iload_n 1, 1) := by decide +kernel
theorem d_Mo_variable_6 : decode b_Mo_variable 6 = .ok (.invokestatic 135, 3) := by decide +kernel
theorem d_Mo_variable_9 : decode b_Mo_variable 9 = .ok (.ifCond .eq 12, 3) := by decide +kernel
theorem d_Mo_variable_12 : decode b_Mo_variable 12 = .ok (.aload_n 0, 1) := by decide +kernel
theorem d_Mo_variable_13 : decode b_Mo_variable 13 = .ok (.getfield 103, 3) := by decide +kernel
theorem d_Mo_variable_16 : decode b_Mo_variable 16 = .ok (.iload_n 1, 1) := by decide +kernel
theorem d_Mo_variable_17 : decode b_Mo_variable 17 = .ok (.iaload, 1) := by decide +kernel
theorem d_Mo_variable_18 : decode b_Mo_variable 18 = .ok (.goto 4, 3) := by decide +kernel
theorem d_Mo_variable_21 : decode b_Mo_variable 21 = .ok (.iconst 0, 1) := by decide +kernel
theorem d_Mo_variable_22 : decode b_Mo_variable 22 = .ok (.ireturn, 1) := by decide +kernel
theorem d_Mo_thrown_0 : decode b_Mo_thrown 0 = .ok (.aload_n 0, 1) := by decide +kernel
theorem d_Mo_thrown_1 : decode b_Mo_thrown 1 = .ok (.getfield 125, 3) := by decide +kernel
theorem d_Mo_thrown_4 : decode b_Mo_thrown 4 = .ok (.ireturn, 1) := by decide +kernel
