theorem d_La_layFunction_0 : decode b_La_layFunction 0 = .ok (.aload_n 0, 1) := by decide +kernel
theorem d_La_layFunction_1 : decode b_La_layFunction 1 = .ok (.getfield 40, 3) := by decide +kernel
theorem d_La_layFunction_4 : decode b_La_layFunction 4 = .ok (.getfield 75, 3) := by decide +kernel
theorem d_La_layFunction_7 : decode b_La_layFunction 7 = .ok (.iload_n 1, 1) := by decide +kernel
theorem d_La_layFunction_8 : decode b_La_layFunction 8 = .ok (.aload_n 0, 1) := by decide +kernel
theorem d_La_layFunction_9 : decode b_La_layFunction 9 = .ok (.getfield 40, 3) := by decide +kernel
theorem d_La_layFunction_12 : decode b_La_layFunction 12 = .ok (.getfield 74, 3) := by decide +kernel
theorem d_La_layFunction_15 : decode b_La_layFunction 15 = .ok (.iastore, 1) := by decide +kernel
theorem d_La_layFunction_16 : decode b_La_layFunction 16 = .ok (.aload_n 0, 1) := by decide +kernel
theorem d_La_layFunction_17 : decode b_La_layFunction 17 = .ok (.iconst 0, 1) := by decide +kernel
theorem d_La_layFunction_18 : decode b_La_layFunction 18 = .ok (.putfield 78, 3) := by decide +kernel
theorem d_La_layFunction_21 : decode b_La_layFunction 21 = .ok (.aload_n 0, 1) := by decide +kernel
theorem d_La_layFunction_22 : decode b_La_layFunction 22 = .ok (.getfield 36, 3) := by decide +kernel
theorem d_La_layFunction_25 : decode b_La_layFunction 25 = .ok (.getfield 81, 3) := by decide +kernel
theorem d_La_layFunction_28 : decode b_La_layFunction 28 = .ok (.iload_n 1, 1) := by decide +kernel
theorem d_La_layFunction_29 : decode b_La_layFunction 29 = .ok (.iaload, 1) := by decide +kernel
theorem d_La_layFunction_30 : decode b_La_layFunction 30 = .ok (.istore_n 2, 1) := by decide +kernel
theorem d_La_layFunction_31 : decode b_La_layFunction 31 = .ok (.iload_n 2, 1) := by decide +kernel
theorem d_La_layFunction_32 : decode b_La_layFunction 32 = .ok (.iconst (-1), 1) := by decide +kernel
theorem d_La_layFunction_33 : decode b_La_layFunction 33 = .ok (.if_icmp .eq 13, 3) := by decide +kernel
theorem d_La_layFunction_36 : decode b_La_layFunction 36 = .ok (.aload_n 0, 1) := by decide +kernel
theorem d_La_layFunction_37 : decode b_La_layFunction 37 = .ok (.iload_n 2, 1) := by decide +kernel
theorem d_La_layFunction_38 : decode b_La_layFunction 38 = .ok (.iconst 0, 1) := by decide +kernel
theorem d_La_layFunction_39 : decode b_La_layFunction 39 = .ok (.invokevirtual 86, 3) := by decide +kernel
theorem d_La_layFunction_42 : decode b_La_layFunction 42 = .ok (.aload_n 0, 1) := by decide +kernel
theorem d_La_layFunction_43 : decode b_La_layFunction 43 = .ok (.invokevirtual 90, 3) := by decide +kernel
theorem d_La_layFunction_46 : decode b_La_layFunction 46 = .ok (.aload_n 0, 1) := by decide +kernel
theorem d_La_layFunction_47 : decode b_La_layFunction 47 = .ok (.bipush 14, 2) := by decide +kernel
theorem d_La_layFunction_49 : decode b_La_layFunction 49 = .ok (.iconst 0, 1) := by decide +kernel
theorem d_La_layFunction_50 : decode b_La_layFunction 50 = .ok (.iconst 0, 1) := by decide +kernel
theorem d_La_layFunction_51 : decode b_La_layFunction 51 = .ok (.invokevirtual 95, 3) := by decide +kernel
theorem d_La_layFunction_54 : decode b_La_layFunction 54 = .ok (.iconst 0, 1) := by decide +kernel
theorem d_La_layFunction_55 : decode b_La_layFunction 55 = .ok (.istore_n 3, 1) := by decide +kernel
theorem d_La_layFunction_56 : decode b_La_layFunction 56 = .ok (.iload_n 3, 1) := by decide +kernel
theorem d_La_layFunction_57 : decode b_La_layFunction 57 = .ok (.sipush 2000, 3) := by decide +kernel
theorem d_La_layFunction_60 : decode b_La_layFunction 60 = .ok (.if_icmp .ge 60, 3) := by decide +kernel
theorem d_La_layFunction_63 : decode b_La_layFunction 63 = .ok (.iload_n 3, 1) := by decide +kernel
theorem d_La_layFunction_64 : decode b_La_layFunction 64 = .ok (.aload_n 0, 1) := by decide +kernel
theorem d_La_layFunction_65 : decode b_La_layFunction 65 = .ok (.getfield 78, 3) := by decide +kernel
theorem d_La_layFunction_68 : decode b_La_layFunction 68 = .ok (.if_icmp .ge 52, 3) := by decide +kernel
theorem d_La_layFunction_71 : decode b_La_layFunction 71 = .ok (.aload_n 0, 1) := by decide +kernel
theorem d_La_layFunction_72 : decode b_La_layFunction 72 = .ok (.getfield 61, 3) := by decide +kernel
theorem d_La_layFunction_75 : decode b_La_layFunction 75 = .ok (.ifCond .ne 45, 3) := by decide +kernel
theorem d_La_layFunction_78 : decode b_La_layFunction 78 = .ok (.aload_n 0, 1) := by decide +kernel
theorem d_La_layFunction_79 : decode b_La_layFunction 79 = .ok (.getfield 32, 3) := by decide +kernel
theorem d_La_layFunction_82 : decode b_La_layFunction 82 = .ok (.iload_n 3, 1) := by decide +kernel
theorem d_La_layFunction_83 : decode b_La_layFunction 83 = .ok (.iaload, 1) := by decide +kernel
theorem d_La_layFunction_84 : decode b_La_layFunction 84 = .ok (.istore 4, 2) := by decide +kernel
theorem d_La_layFunction_86 : decode b_La_layFunction 86 = .ok (.aload_n 0, 1) := by decide +kernel
theorem d_La_layFunction_87 : decode b_La_layFunction 87 = .ok (.getfield 21, 3) := by decide +kernel
theorem d_La_layFunction_90 : decode b_La_layFunction 90 = .ok (.aload_n 0, 1) := by decide +kernel
theorem d_La_layFunction_91 : decode b_La_layFunction 91 = .ok (.getfield 12, 3) := by decide +kernel
theorem d_La_layFunction_94 : decode b_La_layFunction 94 = .ok (.getfield 99, 3) := by decide +kernel
theorem d_La_layFunction_97 : decode b_La_layFunction 97 = .ok (.iload 4, 2) := by decide +kernel
theorem d_La_layFunction_99 : decode b_La_layFunction 99 = .ok (.iaload, 1) := by decide +kernel
theorem d_La_layFunction_100 : decode b_La_layFunction 100 = .ok (.iload 4, 2) := by decide +kernel
theorem d_La_layFunction_102 : decode b_La_layFunction 102 = .ok (.iconst 1, 1) := by decide +kernel
theorem d_La_layFunction_103 : decode b_La_layFunction 103 = .ok (.invokestatic 102, 3) := by decide +kernel
theorem d_La_layFunction_106 : decode b_La_layFunction 106 = .ok (.iconst 3, 1) := by decide +kernel
theorem d_La_layFunction_107 : decode b_La_layFunction 107 = .ok (.invokevirtual 106, 3) := by decide +kernel
theorem d_La_layFunction_110 : decode b_La_layFunction 110 = .ok (.aload_n 0, 1) := by decide +kernel
theorem d_La_layFunction_111 : decode b_La_layFunction 111 = .ok (.invokevirtual 90, 3) := by decide +kernel
theorem d_La_layFunction_114 : decode b_La_layFunction 114 = .ok (.iinc 3 1, 3) := by decide +kernel
theorem d_La_layFunction_117 : decode b_La_layFunction 117 = .ok (.goto (-61), 3) := by decide +kernel
theorem d_La_layFunction_120 : decode b_La_layFunction 120 = .ok (.return_, 1) := by decide +kernel
theorem d_Sc_clear_0 : decode b_Sc_clear 0 = .ok (.aload_n 0, 1) := by decide +kernel
theorem d_Sc_clear_1 : decode b_Sc_clear 1 = .ok (.getfield 15, 3) := by decide +kernel
theorem d_Sc_clear_4 : decode b_Sc_clear 4 = .ok (.iconst 0, 1) := by decide +kernel
theorem d_Sc_clear_5 : decode b_Sc_clear 5 = .ok (.iconst (-1), 1) := by decide +kernel
theorem d_Sc_clear_6 : decode b_Sc_clear 6 = .ok (.iastore, 1) := by decide +kernel
theorem d_Sc_clear_7 : decode b_Sc_clear 7 = .ok (.aload_n 0, 1) := by decide +kernel
theorem d_Sc_clear_8 : decode b_Sc_clear 8 = .ok (.getfield 18, 3) := by decide +kernel
theorem d_Sc_clear_11 : decode b_Sc_clear 11 = .ok (.iconst 0, 1) := by decide +kernel
theorem d_Sc_clear_12 : decode b_Sc_clear 12 = .ok (.iconst (-1), 1) := by decide +kernel
theorem d_Sc_clear_13 : decode b_Sc_clear 13 = .ok (.iastore, 1) := by decide +kernel
theorem d_Sc_clear_14 : decode b_Sc_clear 14 = .ok (.aload_n 0, 1) := by decide +kernel
theorem d_Sc_clear_15 : decode b_Sc_clear 15 = .ok (.iconst 0, 1) := by decide +kernel
theorem d_Sc_clear_16 : decode b_Sc_clear 16 = .ok (.putfield 36, 3) := by decide +kernel
theorem d_Sc_clear_19 : decode b_Sc_clear 19 = .ok (.aload_n 0, 1) := by decide +kernel
theorem d_Sc_clear_20 : decode b_Sc_clear 20 = .ok (.iconst 1, 1) := by decide +kernel
theorem d_Sc_clear_21 : decode b_Sc_clear 21 = .ok (.putfield 40, 3) := by decide +kernel
theorem d_Sc_clear_24 : decode b_Sc_clear 24 = .ok (.return_, 1) := by decide +kernel
theorem d_La_layDown_0 : decode b_La_layDown 0 = .ok (.aload_n 0, 1) := by decide +kernel
theorem d_La_layDown_1 : decode b_La_layDown 1 = .ok (.getfield 40, 3) := by decide +kernel
theorem d_La_layDown_4 : decode b_La_layDown 4 = .ok (.invokevirtual 44, 3) := by decide +kernel
theorem d_La_layDown_7 : decode b_La_layDown 7 = .ok (.aload_n 0, 1) := by decide +kernel
theorem d_La_layDown_8 : decode b_La_layDown 8 = .ok (.getfield 12, 3) := by decide +kernel
theorem d_La_layDown_11 : decode b_La_layDown 11 = .ok (.invokevirtual 49, 3) := by decide +kernel
theorem d_La_layDown_14 : decode b_La_layDown 14 = .ok (.aload_n 0, 1) := by decide +kernel
theorem d_La_layDown_15 : decode b_La_layDown 15 = .ok (.getfield 21, 3) := by decide +kernel
theorem d_La_layDown_18 : decode b_La_layDown 18 = .ok (.iconst 0, 1) := by decide +kernel
theorem d_La_layDown_19 : decode b_La_layDown 19 = .ok (.putfield 50, 3) := by decide +kernel
theorem d_La_layDown_22 : decode b_La_layDown 22 = .ok (.aload_n 0, 1) := by decide +kernel
theorem d_La_layDown_23 : decode b_La_layDown 23 = .ok (.getfield 28, 3) := by decide +kernel
theorem d_La_layDown_26 : decode b_La_layDown 26 = .ok (.iconst 0, 1) := by decide +kernel
theorem d_La_layDown_27 : decode b_La_layDown 27 = .ok (.putfield 54, 3) := by decide +kernel
theorem d_La_layDown_30 : decode b_La_layDown 30 = .ok (.aload_n 0, 1) := by decide +kernel
theorem d_La_layDown_31 : decode b_La_layDown 31 = .ok (.iload_n 1, 1) := by decide +kernel
theorem d_La_layDown_32 : decode b_La_layDown 32 = .ok (.putfield 57, 3) := by decide +kernel
theorem d_La_layDown_35 : decode b_La_layDown 35 = .ok (.aload_n 0, 1) := by decide +kernel
theorem d_La_layDown_36 : decode b_La_layDown 36 = .ok (.iconst 0, 1) := by decide +kernel
theorem d_La_layDown_37 : decode b_La_layDown 37 = .ok (.putfield 61, 3) := by decide +kernel
theorem d_La_layDown_40 : decode b_La_layDown 40 = .ok (.iconst 0, 1) := by decide +kernel
theorem d_La_layDown_41 : decode b_La_layDown 41 = .ok (.istore_n 2, 1) := by decide +kernel
theorem d_La_layDown_42 : decode b_La_layDown 42 = .ok (.iload_n 2, 1) := by decide +kernel
theorem d_La_layDown_43 : decode b_La_layDown 43 = .ok (.bipush 6, 2) := by decide +kernel
theorem d_La_layDown_45 : decode b_La_layDown 45 = .ok (.if_icmp .ge 21, 3) := by decide +kernel
theorem d_La_layDown_48 : decode b_La_layDown 48 = .ok (.aload_n 0, 1) := by decide +kernel
theorem d_La_layDown_49 : decode b_La_layDown 49 = .ok (.getfield 61, 3) := by decide +kernel
theorem d_La_layDown_52 : decode b_La_layDown 52 = .ok (.ifCond .ne 14, 3) := by decide +kernel
theorem d_La_layDown_55 : decode b_La_layDown 55 = .ok (.aload_n 0, 1) := by decide +kernel
theorem d_La_layDown_56 : decode b_La_layDown 56 = .ok (.iload_n 2, 1) := by decide +kernel
theorem d_La_layDown_57 : decode b_La_layDown 57 = .ok (.invokevirtual 64, 3) := by decide +kernel
theorem d_La_layDown_60 : decode b_La_layDown 60 = .ok (.iinc 2 1, 3) := by decide +kernel
theorem d_La_layDown_63 : decode b_La_layDown 63 = .ok (.goto (-21), 3) := by decide +kernel
theorem d_La_layDown_66 : decode b_La_layDown 66 = .ok (.iconst 0, 1) := by decide +kernel
theorem d_La_layDown_67 : decode b_La_layDown 67 = .ok (.istore_n 2, 1) := by decide +kernel
theorem d_La_layDown_68 : decode b_La_layDown 68 = .ok (.iload_n 2, 1) := by decide +kernel
theorem d_La_layDown_69 : decode b_La_layDown 69 = .ok (.aload_n 0, 1) := by decide +kernel
theorem d_La_layDown_70 : decode b_La_layDown 70 = .ok (.getfield 28, 3) := by decide +kernel
theorem d_La_layDown_73 : decode b_La_layDown 73 = .ok (.getfield 54, 3) := by decide +kernel
theorem d_La_layDown_76 : decode b_La_layDown 76 = .ok (.if_icmp .ge 21, 3) := by decide +kernel
theorem d_La_layDown_79 : decode b_La_layDown 79 = .ok (.aload_n 0, 1) := by decide +kernel
theorem d_La_layDown_80 : decode b_La_layDown 80 = .ok (.getfield 61, 3) := by decide +kernel
theorem d_La_layDown_83 : decode b_La_layDown 83 = .ok (.ifCond .ne 14, 3) := by decide +kernel
theorem d_La_layDown_86 : decode b_La_layDown 86 = .ok (.aload_n 0, 1) := by decide +kernel
theorem d_La_layDown_87 : decode b_La_layDown 87 = .ok (.iload_n 2, 1) := by decide +kernel
theorem d_La_layDown_88 : decode b_La_layDown 88 = .ok (.invokevirtual 68, 3) := by decide +kernel
theorem d_La_layDown_91 : decode b_La_layDown 91 = .ok (.iinc 2 1, 3) := by decide +kernel
theorem d_La_layDown_94 : decode b_La_layDown 94 = .ok (.goto (-26), 3) := by decide +kernel
theorem d_La_layDown_97 : decode b_La_layDown 97 = .ok (.aload_n 0, 1) := by decide +kernel
theorem d_La_layDown_98 : decode b_La_layDown 98 = .ok (.getfield 61, 3) := by decide +kernel
theorem d_La_layDown_101 : decode b_La_layDown 101 = .ok (.ifCond .eq 15, 3) := by decide +kernel
theorem d_La_layDown_104 : decode b_La_layDown 104 = .ok (.aload_n 0, 1) := by decide +kernel
theorem d_La_layDown_105 : decode b_La_layDown 105 = .ok (.getfield 40, 3) := by decide +kernel
theorem d_La_layDown_108 : decode b_La_layDown 108 = .ok (.invokevirtual 44, 3) := by decide +kernel
theorem d_La_layDown_111 : decode b_La_layDown 111 = .ok (.aload_n 0, 1) := by decide +kernel
theorem d_La_layDown_112 : decode b_La_layDown 112 = .ok (.getfield 61, 3) := by decide +kernel
theorem d_La_layDown_115 : decode b_La_layDown 115 = .ok (.ireturn, 1) := by decide +kernel
theorem d_La_layDown_116 : decode b_La_layDown 116 = .ok (.aload_n 0, 1) := by decide +kernel
theorem d_La_layDown_117 : decode b_La_layDown 117 = .ok (.invokevirtual 71, 3) := by decide +kernel
theorem d_La_layDown_120 : decode b_La_layDown 120 = .ok (.aload_n 0, 1) := by decide +kernel
theorem d_La_layDown_121 : decode b_La_layDown 121 = .ok (.getfield 40, 3) := by decide +kernel
theorem d_La_layDown_124 : decode b_La_layDown 124 = .ok (.getfield 74, 3) := by decide +kernel
theorem d_La_layDown_127 : decode b_La_layDown 127 = .ok (.ireturn, 1) := by decide +kernel
theorem d_UM_lay_0 : decode b_UM_lay 0 = .ok (.aload_n 0, 1) := by decide +kernel
theorem d_UM_lay_1 : decode b_UM_lay 1 = .ok (.getfield 28, 3) := by decide +kernel
theorem d_UM_lay_4 : decode b_UM_lay 4 = .ok (.iload_n 1, 1) := by decide +kernel
theorem d_UM_lay_5 : decode b_UM_lay 5 = .ok (.invokevirtual 51, 3) := by decide +kernel
theorem d_UM_lay_8 : decode b_UM_lay 8 = .ok (.ireturn, 1) := by decide +kernel
theorem d_Co_stands_0 : decode b_Co_stands 0 = .ok (.aload_n 0, 1) := by decide +kernel
theorem d_Co_stands_1 : decode b_Co_stands 1 = .ok (.getfield 27, 3) := by decide +kernel
theorem d_Co_stands_4 : decode b_Co_stands 4 = .ok (.ifCond .le 7, 3) := by decide +kernel
theorem d_Co_stands_7 : decode b_Co_stands 7 = .ok (.iconst 1, 1) := by decide +kernel
theorem d_Co_stands_8 : decode b_Co_stands 8 = .ok (.goto 4, 3) := by decide +kernel
theorem d_Co_stands_11 : decode b_Co_stands 11 = .ok (.iconst 0, 1) := by decide +kernel
theorem d_Co_stands_12 : decode b_Co_stands 12 = .ok (.ireturn, 1) := by decide +kernel
theorem d_UM_laid_0 : decode b_UM_laid 0 = .ok (.aload_n 0, 1) := by decide +kernel
theorem d_UM_laid_1 : decode b_UM_laid 1 = .ok (.getfield 19, 3) := by decide +kernel
theorem d_UM_laid_4 : decode b_UM_laid 4 = .ok (.invokevirtual 55, 3) := by decide +kernel
theorem d_UM_laid_7 : decode b_UM_laid 7 = .ok (.ifCond .ne 5, 3) := by decide +kernel
theorem d_UM_laid_10 : decode b_UM_laid 10 = .ok (.iconst (-1), 1) := by decide +kernel
theorem d_UM_laid_11 : decode b_UM_laid 11 = .ok (.ireturn, 1) := by decide +kernel
theorem d_UM_laid_12 : decode b_UM_laid 12 = .ok (.iload_n 1, 1) := by decide +kernel
theorem d_UM_laid_13 : decode b_UM_laid 13 = .ok (.tableswitch 63 0 3 #[31, 39, 47, 55], 31) := by decide +kernel
theorem d_UM_laid_44 : decode b_UM_laid 44 = .ok (.aload_n 0, 1) := by decide +kernel
theorem d_UM_laid_45 : decode b_UM_laid 45 = .ok (.getfield 19, 3) := by decide +kernel
theorem d_UM_laid_48 : decode b_UM_laid 48 = .ok (.getfield 59, 3) := by decide +kernel
theorem d_UM_laid_51 : decode b_UM_laid 51 = .ok (.ireturn, 1) := by decide +kernel
theorem d_UM_laid_52 : decode b_UM_laid 52 = .ok (.aload_n 0, 1) := by decide +kernel
theorem d_UM_laid_53 : decode b_UM_laid 53 = .ok (.getfield 19, 3) := by decide +kernel
theorem d_UM_laid_56 : decode b_UM_laid 56 = .ok (.getfield 63, 3) := by decide +kernel
theorem d_UM_laid_59 : decode b_UM_laid 59 = .ok (.ireturn, 1) := by decide +kernel
theorem d_UM_laid_60 : decode b_UM_laid 60 = .ok (.aload_n 0, 1) := by decide +kernel
theorem d_UM_laid_61 : decode b_UM_laid 61 = .ok (.getfield 19, 3) := by decide +kernel
theorem d_UM_laid_64 : decode b_UM_laid 64 = .ok (.getfield 66, 3) := by decide +kernel
theorem d_UM_laid_67 : decode b_UM_laid 67 = .ok (.ireturn, 1) := by decide +kernel
theorem d_UM_laid_68 : decode b_UM_laid 68 = .ok (.aload_n 0, 1) := by decide +kernel
theorem d_UM_laid_69 : decode b_UM_laid 69 = .ok (.getfield 19, 3) := by decide +kernel
theorem d_UM_laid_72 : decode b_UM_laid 72 = .ok (.getfield 69, 3) := by decide +kernel
theorem d_UM_laid_75 : decode b_UM_laid 75 = .ok (.ireturn, 1) := by decide +kernel
theorem d_UM_laid_76 : decode b_UM_laid 76 = .ok (.iconst (-1), 1) := by decide +kernel
theorem d_UM_laid_77 : decode b_UM_laid 77 = .ok (.ireturn, 1) := by decide +kernel
theorem d_UM_entry_0 : decode b_UM_entry 0 = .ok (.aload_n 0, 1) := by decide +kernel
theorem d_UM_entry_1 : decode b_UM_entry 1 = .ok (.getfield 19, 3) := by decide +kernel
theorem d_UM_entry_4 : decode b_UM_entry 4 = .ok (.invokevirtual 55, 3) := by decide +kernel
theorem d_UM_entry_7 : decode b_UM_entry 7 = .ok (.ifCond .eq 22, 3) := by decide +kernel
theorem d_UM_entry_10 : decode b_UM_entry 10 = .ok (.iload_n 1, 1) := by decide +kernel
theorem d_UM_entry_11 : decode b_UM_entry 11 = .ok (.invokestatic 91, 3) := by decide +kernel
theorem d_UM_entry_14 : decode b_UM_entry 14 = .ok (.ifCond .eq 15, 3) := by decide +kernel
theorem d_UM_entry_17 : decode b_UM_entry 17 = .ok (.aload_n 0, 1) := by decide +kernel
theorem d_UM_entry_18 : decode b_UM_entry 18 = .ok (.getfield 19, 3) := by decide +kernel
theorem d_UM_entry_21 : decode b_UM_entry 21 = .ok (.getfield 95, 3) := by decide +kernel
theorem d_UM_entry_24 : decode b_UM_entry 24 = .ok (.iload_n 1, 1) := by decide +kernel
theorem d_UM_entry_25 : decode b_UM_entry 25 = .ok (.iaload, 1) := by decide +kernel
theorem d_UM_entry_26 : decode b_UM_entry 26 = .ok (.goto 4, 3) := by decide +kernel
theorem d_UM_entry_29 : decode b_UM_entry 29 = .ok (.iconst (-1), 1) := by decide +kernel
theorem d_UM_entry_30 : decode b_UM_entry 30 = .ok (.ireturn, 1) := by decide +kernel
theorem d_Ma_pull_0 : decode b_Ma_pull 0 = .ok (.aload_n 0, 1) := by decide +kernel
theorem d_Ma_pull_1 : decode b_Ma_pull 1 = .ok (.getfield 44, 3) := by decide +kernel
theorem d_Ma_pull_4 : decode b_Ma_pull 4 = .ok (.ifCond .ne 5, 3) := by decide +kernel
theorem d_Ma_pull_7 : decode b_Ma_pull 7 = .ok (.iconst 0, 1) := by decide +kernel
theorem d_Ma_pull_8 : decode b_Ma_pull 8 = .ok (.ireturn, 1) := by decide +kernel
theorem d_Ma_pull_9 : decode b_Ma_pull 9 = .ok (.aload_n 0, 1) := by decide +kernel
theorem d_Ma_pull_10 : decode b_Ma_pull 10 = .ok (.dup, 1) := by decide +kernel
theorem d_Ma_pull_11 : decode b_Ma_pull 11 = .ok (.getfield 44, 3) := by decide +kernel
theorem d_Ma_pull_14 : decode b_Ma_pull 14 = .ok (.iconst 1, 1) := by decide +kernel
theorem d_Ma_pull_15 : decode b_Ma_pull 15 = .ok (.isub, 1) := by decide +kernel
theorem d_Ma_pull_16 : decode b_Ma_pull 16 = .ok (.putfield 44, 3) := by decide +kernel
theorem d_Ma_pull_19 : decode b_Ma_pull 19 = .ok (.aload_n 0, 1) := by decide +kernel
theorem d_Ma_pull_20 : decode b_Ma_pull 20 = .ok (.getfield 21, 3) := by decide +kernel
theorem d_Ma_pull_23 : decode b_Ma_pull 23 = .ok (.aload_n 0, 1) := by decide +kernel
theorem d_Ma_pull_24 : decode b_Ma_pull 24 = .ok (.getfield 44, 3) := by decide +kernel
theorem d_Ma_pull_27 : decode b_Ma_pull 27 = .ok (.iaload, 1) := by decide +kernel
theorem d_Ma_pull_28 : decode b_Ma_pull 28 = .ok (.ireturn, 1) := by decide +kernel
theorem d_Co_rowFor_0 : decode b_Co_rowFor 0 = .ok (.iconst 0, 1) := by decide +kernel
theorem d_Co_rowFor_1 : decode b_Co_rowFor 1 = .ok (.istore_n 3, 1) := by decide +kernel
theorem d_Co_rowFor_2 : decode b_Co_rowFor 2 = .ok (.iload_n 3, 1) := by decide +kernel
theorem d_Co_rowFor_3 : decode b_Co_rowFor 3 = .ok (.aload_n 0, 1) := by decide +kernel
theorem d_Co_rowFor_4 : decode b_Co_rowFor 4 = .ok (.getfield 31, 3) := by decide +kernel
theorem d_Co_rowFor_7 : decode b_Co_rowFor 7 = .ok (.if_icmp .ge 78, 3) := by decide +kernel
theorem d_Co_rowFor_10 : decode b_Co_rowFor 10 = .ok (.iload_n 3, 1) := by decide +kernel
theorem d_Co_rowFor_11 : decode b_Co_rowFor 11 = .ok (.iconst 5, 1) := by decide +kernel
theorem d_Co_rowFor_12 : decode b_Co_rowFor 12 = .ok (.imul, 1) := by decide +kernel
theorem d_Co_rowFor_13 : decode b_Co_rowFor 13 = .ok (.istore 4, 2) := by decide +kernel
theorem d_Co_rowFor_15 : decode b_Co_rowFor 15 = .ok (.aload_n 0, 1) := by decide +kernel
theorem d_Co_rowFor_16 : decode b_Co_rowFor 16 = .ok (.getfield 24, 3) := by decide +kernel
theorem d_Co_rowFor_19 : decode b_Co_rowFor 19 = .ok (.iload 4, 2) := by decide +kernel
theorem d_Co_rowFor_21 : decode b_Co_rowFor 21 = .ok (.iaload, 1) := by decide +kernel
theorem d_Co_rowFor_22 : decode b_Co_rowFor 22 = .ok (.iload_n 1, 1) := by decide +kernel
theorem d_Co_rowFor_23 : decode b_Co_rowFor 23 = .ok (.if_icmp .gt 20, 3) := by decide +kernel
theorem d_Co_rowFor_26 : decode b_Co_rowFor 26 = .ok (.iload_n 1, 1) := by decide +kernel
theorem d_Co_rowFor_27 : decode b_Co_rowFor 27 = .ok (.aload_n 0, 1) := by decide +kernel
theorem d_Co_rowFor_28 : decode b_Co_rowFor 28 = .ok (.getfield 24, 3) := by decide +kernel
theorem d_Co_rowFor_31 : decode b_Co_rowFor 31 = .ok (.iload 4, 2) := by decide +kernel
theorem d_Co_rowFor_33 : decode b_Co_rowFor 33 = .ok (.iconst 1, 1) := by decide +kernel
theorem d_Co_rowFor_34 : decode b_Co_rowFor 34 = .ok (.iadd, 1) := by decide +kernel
theorem d_Co_rowFor_35 : decode b_Co_rowFor 35 = .ok (.iaload, 1) := by decide +kernel
theorem d_Co_rowFor_36 : decode b_Co_rowFor 36 = .ok (.if_icmp .ge 7, 3) := by decide +kernel
theorem d_Co_rowFor_39 : decode b_Co_rowFor 39 = .ok (.iconst 1, 1) := by decide +kernel
theorem d_Co_rowFor_40 : decode b_Co_rowFor 40 = .ok (.goto 4, 3) := by decide +kernel
theorem d_Co_rowFor_43 : decode b_Co_rowFor 43 = .ok (.iconst 0, 1) := by decide +kernel
theorem d_Co_rowFor_44 : decode b_Co_rowFor 44 = .ok (.istore 5, 2) := by decide +kernel
theorem d_Co_rowFor_46 : decode b_Co_rowFor 46 = .ok (.iload 5, 2) := by decide +kernel
theorem d_Co_rowFor_48 : decode b_Co_rowFor 48 = .ok (.ifCond .eq 31, 3) := by decide +kernel
theorem d_Co_rowFor_51 : decode b_Co_rowFor 51 = .ok (.aload_n 0, 1) := by decide +kernel
theorem d_Co_rowFor_52 : decode b_Co_rowFor 52 = .ok (.getfield 24, 3) := by decide +kernel
theorem d_Co_rowFor_55 : decode b_Co_rowFor 55 = .ok (.iload 4, 2) := by decide +kernel
theorem d_Co_rowFor_57 : decode b_Co_rowFor 57 = .ok (.iconst 3, 1) := by decide +kernel
theorem d_Co_rowFor_58 : decode b_Co_rowFor 58 = .ok (.iadd, 1) := by decide +kernel
theorem d_Co_rowFor_59 : decode b_Co_rowFor 59 = .ok (.iaload, 1) := by decide +kernel
theorem d_Co_rowFor_60 : decode b_Co_rowFor 60 = .ok (.iload_n 2, 1) := by decide +kernel
theorem d_Co_rowFor_61 : decode b_Co_rowFor 61 = .ok (.if_icmp .gt 18, 3) := by decide +kernel
theorem d_Co_rowFor_64 : decode b_Co_rowFor 64 = .ok (.iload_n 2, 1) := by decide +kernel
theorem d_Co_rowFor_65 : decode b_Co_rowFor 65 = .ok (.aload_n 0, 1) := by decide +kernel
theorem d_Co_rowFor_66 : decode b_Co_rowFor 66 = .ok (.getfield 24, 3) := by decide +kernel
theorem d_Co_rowFor_69 : decode b_Co_rowFor 69 = .ok (.iload 4, 2) := by decide +kernel
theorem d_Co_rowFor_71 : decode b_Co_rowFor 71 = .ok (.iconst 4, 1) := by decide +kernel
theorem d_Co_rowFor_72 : decode b_Co_rowFor 72 = .ok (.iadd, 1) := by decide +kernel
theorem d_Co_rowFor_73 : decode b_Co_rowFor 73 = .ok (.iaload, 1) := by decide +kernel
theorem d_Co_rowFor_74 : decode b_Co_rowFor 74 = .ok (.if_icmp .gt 5, 3) := by decide +kernel
theorem d_Co_rowFor_77 : decode b_Co_rowFor 77 = .ok (.iload_n 3, 1) := by decide +kernel
theorem d_Co_rowFor_78 : decode b_Co_rowFor 78 = .ok (.ireturn, 1) := by decide +kernel
theorem d_Co_rowFor_79 : decode b_Co_rowFor 79 = .ok (.iinc 3 1, 3) := by decide +kernel
theorem d_Co_rowFor_82 : decode b_Co_rowFor 82 = .ok (.goto (-80), 3) := by decide +kernel
theorem d_Co_rowFor_85 : decode b_Co_rowFor 85 = .ok (.iconst (-1), 1) := by decide +kernel
theorem d_Co_rowFor_86 : decode b_Co_rowFor 86 = .ok (.ireturn, 1) := by decide +kernel
theorem d_Ma_push_0 : decode b_Ma_push 0 = .ok (.aload_n 0, 1) := by decide +kernel
theorem d_Ma_push_1 : decode b_Ma_push 1 = .ok (.getfield 44, 3) := by decide +kernel
theorem d_Ma_push_4 : decode b_Ma_push 4 = .ok (.sipush 150, 3) := by decide +kernel
theorem d_Ma_push_7 : decode b_Ma_push 7 = .ok (.if_icmp .ge 23, 3) := by decide +kernel
theorem d_Ma_push_10 : decode b_Ma_push 10 = .ok (.aload_n 0, 1) := by decide +kernel
theorem d_Ma_push_11 : decode b_Ma_push 11 = .ok (.getfield 21, 3) := by decide +kernel
theorem d_Ma_push_14 : decode b_Ma_push 14 = .ok (.aload_n 0, 1) := by decide +kernel
theorem d_Ma_push_15 : decode b_Ma_push 15 = .ok (.getfield 44, 3) := by decide +kernel
theorem d_Ma_push_18 : decode b_Ma_push 18 = .ok (.iload_n 1, 1) := by decide +kernel
theorem d_Ma_push_19 : decode b_Ma_push 19 = .ok (.iastore, 1) := by decide +kernel
theorem d_Ma_push_20 : decode b_Ma_push 20 = .ok (.aload_n 0, 1) := by decide +kernel
theorem d_Ma_push_21 : decode b_Ma_push 21 = .ok (.dup, 1) := by decide +kernel
theorem d_Ma_push_22 : decode b_Ma_push 22 = .ok (.getfield 44, 3) := by decide +kernel
theorem d_Ma_push_25 : decode b_Ma_push 25 = .ok (.iconst 1, 1) := by decide +kernel
theorem d_Ma_push_26 : decode b_Ma_push 26 = .ok (.iadd, 1) := by decide +kernel
theorem d_Ma_push_27 : decode b_Ma_push 27 = .ok (.putfield 44, 3) := by decide +kernel
theorem d_Ma_push_30 : decode b_Ma_push 30 = .ok (.return_, 1) := by decide +kernel
theorem d_Ma_raise_0 : decode b_Ma_raise 0 = .ok (.aload_n 0, 1) := by decide +kernel
theorem d_Ma_raise_1 : decode b_Ma_raise 1 = .ok (.getfield 18, 3) := by decide +kernel
theorem d_Ma_raise_4 : decode b_Ma_raise 4 = .ok (.iconst 4, 1) := by decide +kernel
theorem d_Ma_raise_5 : decode b_Ma_raise 5 = .ok (.dup2, 1) := by decide +kernel
theorem d_Ma_raise_6 : decode b_Ma_raise 6 = .ok (.iaload, 1) := by decide +kernel
theorem d_Ma_raise_7 : decode b_Ma_raise 7 = .ok (.iconst 1, 1) := by decide +kernel
theorem d_Ma_raise_8 : decode b_Ma_raise 8 = .ok (.iadd, 1) := by decide +kernel
theorem d_Ma_raise_9 : decode b_Ma_raise 9 = .ok (.iastore, 1) := by decide +kernel
theorem d_Ma_raise_10 : decode b_Ma_raise 10 = .ok (.aload_n 0, 1) := by decide +kernel
theorem d_Ma_raise_11 : decode b_Ma_raise 11 = .ok (.iconst 0, 1) := by decide +kernel
theorem d_Ma_raise_12 : decode b_Ma_raise 12 = .ok (.putfield 44, 3) := by decide +kernel
theorem d_Ma_raise_15 : decode b_Ma_raise 15 = .ok (.aload_n 0, 1) := by decide +kernel
theorem d_Ma_raise_16 : decode b_Ma_raise 16 = .ok (.getfield 48, 3) := by decide +kernel
theorem d_Ma_raise_19 : decode b_Ma_raise 19 = .ok (.ifCond .le 80, 3) := by decide +kernel
theorem d_Ma_raise_22 : decode b_Ma_raise 22 = .ok (.aload_n 0, 1) := by decide +kernel
theorem d_Ma_raise_23 : decode b_Ma_raise 23 = .ok (.getfield 30, 3) := by decide +kernel
theorem d_Ma_raise_26 : decode b_Ma_raise 26 = .ok (.aload_n 0, 1) := by decide +kernel
theorem d_Ma_raise_27 : decode b_Ma_raise 27 = .ok (.getfield 51, 3) := by decide +kernel
theorem d_Ma_raise_30 : decode b_Ma_raise 30 = .ok (.iload_n 1, 1) := by decide +kernel
theorem d_Ma_raise_31 : decode b_Ma_raise 31 = .ok (.invokevirtual 108, 3) := by decide +kernel
theorem d_Ma_raise_34 : decode b_Ma_raise 34 = .ok (.istore_n 2, 1) := by decide +kernel
theorem d_Ma_raise_35 : decode b_Ma_raise 35 = .ok (.iload_n 2, 1) := by decide +kernel
theorem d_Ma_raise_36 : decode b_Ma_raise 36 = .ok (.iconst (-1), 1) := by decide +kernel
theorem d_Ma_raise_37 : decode b_Ma_raise 37 = .ok (.if_icmp .eq 26, 3) := by decide +kernel
theorem d_Ma_raise_40 : decode b_Ma_raise 40 = .ok (.aload_n 0, 1) := by decide +kernel
theorem d_Ma_raise_41 : decode b_Ma_raise 41 = .ok (.iload_n 1, 1) := by decide +kernel
theorem d_Ma_raise_42 : decode b_Ma_raise 42 = .ok (.invokevirtual 87, 3) := by decide +kernel
theorem d_Ma_raise_45 : decode b_Ma_raise 45 = .ok (.aload_n 0, 1) := by decide +kernel
theorem d_Ma_raise_46 : decode b_Ma_raise 46 = .ok (.aload_n 0, 1) := by decide +kernel
theorem d_Ma_raise_47 : decode b_Ma_raise 47 = .ok (.getfield 30, 3) := by decide +kernel
theorem d_Ma_raise_50 : decode b_Ma_raise 50 = .ok (.getfield 111, 3) := by decide +kernel
theorem d_Ma_raise_53 : decode b_Ma_raise 53 = .ok (.iload_n 2, 1) := by decide +kernel
theorem d_Ma_raise_54 : decode b_Ma_raise 54 = .ok (.iconst 5, 1) := by decide +kernel
theorem d_Ma_raise_55 : decode b_Ma_raise 55 = .ok (.imul, 1) := by decide +kernel
theorem d_Ma_raise_56 : decode b_Ma_raise 56 = .ok (.iconst 2, 1) := by decide +kernel
theorem d_Ma_raise_57 : decode b_Ma_raise 57 = .ok (.iadd, 1) := by decide +kernel
theorem d_Ma_raise_58 : decode b_Ma_raise 58 = .ok (.iaload, 1) := by decide +kernel
theorem d_Ma_raise_59 : decode b_Ma_raise 59 = .ok (.putfield 51, 3) := by decide +kernel
theorem d_Ma_raise_62 : decode b_Ma_raise 62 = .ok (.return_, 1) := by decide +kernel
theorem d_Ma_raise_63 : decode b_Ma_raise 63 = .ok (.aload_n 0, 1) := by decide +kernel
theorem d_Ma_raise_64 : decode b_Ma_raise 64 = .ok (.getfield 48, 3) := by decide +kernel
theorem d_Ma_raise_67 : decode b_Ma_raise 67 = .ok (.iconst 1, 1) := by decide +kernel
theorem d_Ma_raise_68 : decode b_Ma_raise 68 = .ok (.if_icmp .le 18, 3) := by decide +kernel
theorem d_Ma_raise_71 : decode b_Ma_raise 71 = .ok (.aload_n 0, 1) := by decide +kernel
theorem d_Ma_raise_72 : decode b_Ma_raise 72 = .ok (.aload_n 0, 1) := by decide +kernel
theorem d_Ma_raise_73 : decode b_Ma_raise 73 = .ok (.getfield 24, 3) := by decide +kernel
theorem d_Ma_raise_76 : decode b_Ma_raise 76 = .ok (.aload_n 0, 1) := by decide +kernel
theorem d_Ma_raise_77 : decode b_Ma_raise 77 = .ok (.getfield 48, 3) := by decide +kernel
theorem d_Ma_raise_80 : decode b_Ma_raise 80 = .ok (.iconst 2, 1) := by decide +kernel
theorem d_Ma_raise_81 : decode b_Ma_raise 81 = .ok (.isub, 1) := by decide +kernel
theorem d_Ma_raise_82 : decode b_Ma_raise 82 = .ok (.iaload, 1) := by decide +kernel
theorem d_Ma_raise_83 : decode b_Ma_raise 83 = .ok (.putfield 51, 3) := by decide +kernel
theorem d_Ma_raise_86 : decode b_Ma_raise 86 = .ok (.aload_n 0, 1) := by decide +kernel
theorem d_Ma_raise_87 : decode b_Ma_raise 87 = .ok (.dup, 1) := by decide +kernel
theorem d_Ma_raise_88 : decode b_Ma_raise 88 = .ok (.getfield 48, 3) := by decide +kernel
theorem d_Ma_raise_91 : decode b_Ma_raise 91 = .ok (.iconst 1, 1) := by decide +kernel
theorem d_Ma_raise_92 : decode b_Ma_raise 92 = .ok (.isub, 1) := by decide +kernel
theorem d_Ma_raise_93 : decode b_Ma_raise 93 = .ok (.putfield 48, 3) := by decide +kernel
theorem d_Ma_raise_96 : decode b_Ma_raise 96 = .ok (.goto (-81), 3) := by decide +kernel
theorem d_Ma_raise_99 : decode b_Ma_raise 99 = .ok (.aload_n 0, 1) := by decide +kernel
theorem d_Ma_raise_100 : decode b_Ma_raise 100 = .ok (.getfield 18, 3) := by decide +kernel
theorem d_Ma_raise_103 : decode b_Ma_raise 103 = .ok (.iconst 0, 1) := by decide +kernel
theorem d_Ma_raise_104 : decode b_Ma_raise 104 = .ok (.iconst 2, 1) := by decide +kernel
theorem d_Ma_raise_105 : decode b_Ma_raise 105 = .ok (.iastore, 1) := by decide +kernel
theorem d_Ma_raise_106 : decode b_Ma_raise 106 = .ok (.aload_n 0, 1) := by decide +kernel
theorem d_Ma_raise_107 : decode b_Ma_raise 107 = .ok (.getfield 18, 3) := by decide +kernel
theorem d_Ma_raise_110 : decode b_Ma_raise 110 = .ok (.iconst 1, 1) := by decide +kernel
theorem d_Ma_raise_111 : decode b_Ma_raise 111 = .ok (.iload_n 1, 1) := by decide +kernel
theorem d_Ma_raise_112 : decode b_Ma_raise 112 = .ok (.iastore, 1) := by decide +kernel
theorem d_Ma_raise_113 : decode b_Ma_raise 113 = .ok (.return_, 1) := by decide +kernel
theorem d_Ma_enter_0 : decode b_Ma_enter 0 = .ok (.aload_n 0, 1) := by decide +kernel
theorem d_Ma_enter_1 : decode b_Ma_enter 1 = .ok (.getfield 48, 3) := by decide +kernel
theorem d_Ma_enter_4 : decode b_Ma_enter 4 = .ok (.bipush 12, 2) := by decide +kernel
theorem d_Ma_enter_6 : decode b_Ma_enter 6 = .ok (.if_icmp .lt 9, 3) := by decide +kernel
theorem d_Ma_enter_9 : decode b_Ma_enter 9 = .ok (.aload_n 0, 1) := by decide +kernel
theorem d_Ma_enter_10 : decode b_Ma_enter 10 = .ok (.iconst 3, 1) := by decide +kernel
theorem d_Ma_enter_11 : decode b_Ma_enter 11 = .ok (.invokevirtual 69, 3) := by decide +kernel
theorem d_Ma_enter_14 : decode b_Ma_enter 14 = .ok (.return_, 1) := by decide +kernel
theorem d_Ma_enter_15 : decode b_Ma_enter 15 = .ok (.aload_n 0, 1) := by decide +kernel
theorem d_Ma_enter_16 : decode b_Ma_enter 16 = .ok (.getfield 24, 3) := by decide +kernel
theorem d_Ma_enter_19 : decode b_Ma_enter 19 = .ok (.aload_n 0, 1) := by decide +kernel
theorem d_Ma_enter_20 : decode b_Ma_enter 20 = .ok (.getfield 48, 3) := by decide +kernel
theorem d_Ma_enter_23 : decode b_Ma_enter 23 = .ok (.iconst 1, 1) := by decide +kernel
theorem d_Ma_enter_24 : decode b_Ma_enter 24 = .ok (.isub, 1) := by decide +kernel
theorem d_Ma_enter_25 : decode b_Ma_enter 25 = .ok (.aload_n 0, 1) := by decide +kernel
theorem d_Ma_enter_26 : decode b_Ma_enter 26 = .ok (.getfield 51, 3) := by decide +kernel
theorem d_Ma_enter_29 : decode b_Ma_enter 29 = .ok (.iastore, 1) := by decide +kernel
theorem d_Ma_enter_30 : decode b_Ma_enter 30 = .ok (.aload_n 0, 1) := by decide +kernel
theorem d_Ma_enter_31 : decode b_Ma_enter 31 = .ok (.dup, 1) := by decide +kernel
theorem d_Ma_enter_32 : decode b_Ma_enter 32 = .ok (.getfield 48, 3) := by decide +kernel
theorem d_Ma_enter_35 : decode b_Ma_enter 35 = .ok (.iconst 1, 1) := by decide +kernel
theorem d_Ma_enter_36 : decode b_Ma_enter 36 = .ok (.iadd, 1) := by decide +kernel
theorem d_Ma_enter_37 : decode b_Ma_enter 37 = .ok (.putfield 48, 3) := by decide +kernel
theorem d_Ma_enter_40 : decode b_Ma_enter 40 = .ok (.aload_n 0, 1) := by decide +kernel
theorem d_Ma_enter_41 : decode b_Ma_enter 41 = .ok (.getfield 18, 3) := by decide +kernel
theorem d_Ma_enter_44 : decode b_Ma_enter 44 = .ok (.iconst 5, 1) := by decide +kernel
theorem d_Ma_enter_45 : decode b_Ma_enter 45 = .ok (.aload_n 0, 1) := by decide +kernel
theorem d_Ma_enter_46 : decode b_Ma_enter 46 = .ok (.getfield 18, 3) := by decide +kernel
theorem d_Ma_enter_49 : decode b_Ma_enter 49 = .ok (.iconst 5, 1) := by decide +kernel
theorem d_Ma_enter_50 : decode b_Ma_enter 50 = .ok (.iaload, 1) := by decide +kernel
theorem d_Ma_enter_51 : decode b_Ma_enter 51 = .ok (.aload_n 0, 1) := by decide +kernel
theorem d_Ma_enter_52 : decode b_Ma_enter 52 = .ok (.getfield 48, 3) := by decide +kernel
theorem d_Ma_enter_55 : decode b_Ma_enter 55 = .ok (.invokestatic 99, 3) := by decide +kernel
theorem d_Ma_enter_58 : decode b_Ma_enter 58 = .ok (.iastore, 1) := by decide +kernel
theorem d_Ma_enter_59 : decode b_Ma_enter 59 = .ok (.aload_n 0, 1) := by decide +kernel
theorem d_Ma_enter_60 : decode b_Ma_enter 60 = .ok (.aload_n 0, 1) := by decide +kernel
theorem d_Ma_enter_61 : decode b_Ma_enter 61 = .ok (.getfield 30, 3) := by decide +kernel
theorem d_Ma_enter_64 : decode b_Ma_enter 64 = .ok (.getfield 105, 3) := by decide +kernel
theorem d_Ma_enter_67 : decode b_Ma_enter 67 = .ok (.iload_n 1, 1) := by decide +kernel
theorem d_Ma_enter_68 : decode b_Ma_enter 68 = .ok (.iaload, 1) := by decide +kernel
theorem d_Ma_enter_69 : decode b_Ma_enter 69 = .ok (.putfield 51, 3) := by decide +kernel
theorem d_Ma_enter_72 : decode b_Ma_enter 72 = .ok (.return_, 1) := by decide +kernel
theorem d_Ma_goBack_0 : decode b_Ma_goBack 0 = .ok (.aload_n 0, 1) := by decide +kernel
theorem d_Ma_goBack_1 : decode b_Ma_goBack 1 = .ok (.dup, 1) := by decide +kernel
theorem d_Ma_goBack_2 : decode b_Ma_goBack 2 = .ok (.getfield 48, 3) := by decide +kernel
theorem d_Ma_goBack_5 : decode b_Ma_goBack 5 = .ok (.iconst 1, 1) := by decide +kernel
theorem d_Ma_goBack_6 : decode b_Ma_goBack 6 = .ok (.isub, 1) := by decide +kernel
theorem d_Ma_goBack_7 : decode b_Ma_goBack 7 = .ok (.putfield 48, 3) := by decide +kernel
theorem d_Ma_goBack_10 : decode b_Ma_goBack 10 = .ok (.aload_n 0, 1) := by decide +kernel
theorem d_Ma_goBack_11 : decode b_Ma_goBack 11 = .ok (.getfield 48, 3) := by decide +kernel
theorem d_Ma_goBack_14 : decode b_Ma_goBack 14 = .ok (.ifCond .ne 13, 3) := by decide +kernel
theorem d_Ma_goBack_17 : decode b_Ma_goBack 17 = .ok (.aload_n 0, 1) := by decide +kernel
theorem d_Ma_goBack_18 : decode b_Ma_goBack 18 = .ok (.getfield 18, 3) := by decide +kernel
theorem d_Ma_goBack_21 : decode b_Ma_goBack 21 = .ok (.iconst 0, 1) := by decide +kernel
theorem d_Ma_goBack_22 : decode b_Ma_goBack 22 = .ok (.iconst 1, 1) := by decide +kernel
theorem d_Ma_goBack_23 : decode b_Ma_goBack 23 = .ok (.iastore, 1) := by decide +kernel
theorem d_Ma_goBack_24 : decode b_Ma_goBack 24 = .ok (.goto 20, 3) := by decide +kernel
theorem d_Ma_goBack_27 : decode b_Ma_goBack 27 = .ok (.aload_n 0, 1) := by decide +kernel
theorem d_Ma_goBack_28 : decode b_Ma_goBack 28 = .ok (.aload_n 0, 1) := by decide +kernel
theorem d_Ma_goBack_29 : decode b_Ma_goBack 29 = .ok (.getfield 24, 3) := by decide +kernel
theorem d_Ma_goBack_32 : decode b_Ma_goBack 32 = .ok (.aload_n 0, 1) := by decide +kernel
theorem d_Ma_goBack_33 : decode b_Ma_goBack 33 = .ok (.getfield 48, 3) := by decide +kernel
theorem d_Ma_goBack_36 : decode b_Ma_goBack 36 = .ok (.iconst 1, 1) := by decide +kernel
theorem d_Ma_goBack_37 : decode b_Ma_goBack 37 = .ok (.isub, 1) := by decide +kernel
theorem d_Ma_goBack_38 : decode b_Ma_goBack 38 = .ok (.iaload, 1) := by decide +kernel
theorem d_Ma_goBack_39 : decode b_Ma_goBack 39 = .ok (.iconst 1, 1) := by decide +kernel
theorem d_Ma_goBack_40 : decode b_Ma_goBack 40 = .ok (.iadd, 1) := by decide +kernel
theorem d_Ma_goBack_41 : decode b_Ma_goBack 41 = .ok (.putfield 51, 3) := by decide +kernel
theorem d_Ma_goBack_44 : decode b_Ma_goBack 44 = .ok (.return_, 1) := by decide +kernel
theorem d_Ma_placeOf_0 : decode b_Ma_placeOf 0 = .ok (.aload_n 0, 1) := by decide +kernel
theorem d_Ma_placeOf_1 : decode b_Ma_placeOf 1 = .ok (.getfield 48, 3) := by decide +kernel
theorem d_Ma_placeOf_4 : decode b_Ma_placeOf 4 = .ok (.iconst 1, 1) := by decide +kernel
theorem d_Ma_placeOf_5 : decode b_Ma_placeOf 5 = .ok (.isub, 1) := by decide +kernel
theorem d_Ma_placeOf_6 : decode b_Ma_placeOf 6 = .ok (.sipush 150, 3) := by decide +kernel
theorem d_Ma_placeOf_9 : decode b_Ma_placeOf 9 = .ok (.imul, 1) := by decide +kernel
theorem d_Ma_placeOf_10 : decode b_Ma_placeOf 10 = .ok (.iload_n 1, 1) := by decide +kernel
theorem d_Ma_placeOf_11 : decode b_Ma_placeOf 11 = .ok (.iadd, 1) := by decide +kernel
theorem d_Ma_placeOf_12 : decode b_Ma_placeOf 12 = .ok (.ireturn, 1) := by decide +kernel
