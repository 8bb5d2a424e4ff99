theorem d_Mo_throwing_0 : decode b_Mo_throwing 0 = .ok (.aload_n 0, 1) := by decide +kernel
theorem d_Mo_throwing_1 : decode b_Mo_throwing 1 = .ok (.dup, 1) := by decide +kernel
theorem d_Mo_throwing_2 : decode b_Mo_throwing 2 = .ok (.getfield 278, 3) := by decide +kernel
theorem d_Mo_throwing_5 : decode b_Mo_throwing 5 = .ok (.iconst 1, 1) := by decide +kernel
theorem d_Mo_throwing_6 : decode b_Mo_throwing 6 = .ok (.iadd, 1) := by decide +kernel
theorem d_Mo_throwing_7 : decode b_Mo_throwing 7 = .ok (.putfield 278, 3) := by decide +kernel
theorem d_Mo_throwing_10 : decode b_Mo_throwing 10 = .ok (.aload_n 0, 1) := by decide +kernel
theorem d_Mo_throwing_11 : decode b_Mo_throwing 11 = .ok (.getfield 275, 3) := by decide +kernel
theorem d_Mo_throwing_14 : decode b_Mo_throwing 14 = .ok (.ifCond .le 119, 3) := by decide +kernel
theorem d_Mo_throwing_17 : decode b_Mo_throwing 17 = .ok (.aload_n 0, 1) := by decide +kernel
theorem d_Mo_throwing_18 : decode b_Mo_throwing 18 = .ok (.getfield 113, 3) := by decide +kernel
theorem d_Mo_throwing_21 : decode b_Mo_throwing 21 = .ok (.aload_n 0, 1) := by decide +kernel
theorem d_Mo_throwing_22 : decode b_Mo_throwing 22 = .ok (.getfield 275, 3) := by decide +kernel
theorem d_Mo_throwing_25 : decode b_Mo_throwing 25 = .ok (.iconst 1, 1) := by decide +kernel
theorem d_Mo_throwing_26 : decode b_Mo_throwing 26 = .ok (.isub, 1) := by decide +kernel
theorem d_Mo_throwing_27 : decode b_Mo_throwing 27 = .ok (.iaload, 1) := by decide +kernel
theorem d_Mo_throwing_28 : decode b_Mo_throwing 28 = .ok (.istore_n 2, 1) := by decide +kernel
theorem d_Mo_throwing_29 : decode b_Mo_throwing 29 = .ok (.iconst 0, 1) := by decide +kernel
theorem d_Mo_throwing_30 : decode b_Mo_throwing 30 = .ok (.istore_n 3, 1) := by decide +kernel
theorem d_Mo_throwing_31 : decode b_Mo_throwing 31 = .ok (.iload_n 3, 1) := by decide +kernel
theorem d_Mo_throwing_32 : decode b_Mo_throwing 32 = .ok (.aload_n 0, 1) := by decide +kernel
theorem d_Mo_throwing_33 : decode b_Mo_throwing 33 = .ok (.getfield 244, 3) := by decide +kernel
theorem d_Mo_throwing_36 : decode b_Mo_throwing 36 = .ok (.if_icmp .ge 84, 3) := by decide +kernel
theorem d_Mo_throwing_39 : decode b_Mo_throwing 39 = .ok (.iload_n 2, 1) := by decide +kernel
theorem d_Mo_throwing_40 : decode b_Mo_throwing 40 = .ok (.aload_n 0, 1) := by decide +kernel
theorem d_Mo_throwing_41 : decode b_Mo_throwing 41 = .ok (.getfield 40, 3) := by decide +kernel
theorem d_Mo_throwing_44 : decode b_Mo_throwing 44 = .ok (.iload_n 3, 1) := by decide +kernel
theorem d_Mo_throwing_45 : decode b_Mo_throwing 45 = .ok (.iaload, 1) := by decide +kernel
theorem d_Mo_throwing_46 : decode b_Mo_throwing 46 = .ok (.if_icmp .lt 68, 3) := by decide +kernel
theorem d_Mo_throwing_49 : decode b_Mo_throwing 49 = .ok (.iload_n 2, 1) := by decide +kernel
theorem d_Mo_throwing_50 : decode b_Mo_throwing 50 = .ok (.aload_n 0, 1) := by decide +kernel
theorem d_Mo_throwing_51 : decode b_Mo_throwing 51 = .ok (.getfield 43, 3) := by decide +kernel
theorem d_Mo_throwing_54 : decode b_Mo_throwing 54 = .ok (.iload_n 3, 1) := by decide +kernel
theorem d_Mo_throwing_55 : decode b_Mo_throwing 55 = .ok (.iaload, 1) := by decide +kernel
theorem d_Mo_throwing_56 : decode b_Mo_throwing 56 = .ok (.if_icmp .ge 58, 3) := by decide +kernel
theorem d_Mo_throwing_59 : decode b_Mo_throwing 59 = .ok (.iload_n 1, 1) := by decide +kernel
theorem d_Mo_throwing_60 : decode b_Mo_throwing 60 = .ok (.aload_n 0, 1) := by decide +kernel
theorem d_Mo_throwing_61 : decode b_Mo_throwing 61 = .ok (.getfield 49, 3) := by decide +kernel
theorem d_Mo_throwing_64 : decode b_Mo_throwing 64 = .ok (.iload_n 3, 1) := by decide +kernel
theorem d_Mo_throwing_65 : decode b_Mo_throwing 65 = .ok (.iaload, 1) := by decide +kernel
theorem d_Mo_throwing_66 : decode b_Mo_throwing 66 = .ok (.if_icmp .lt 48, 3) := by decide +kernel
theorem d_Mo_throwing_69 : decode b_Mo_throwing 69 = .ok (.iload_n 1, 1) := by decide +kernel
theorem d_Mo_throwing_70 : decode b_Mo_throwing 70 = .ok (.aload_n 0, 1) := by decide +kernel
theorem d_Mo_throwing_71 : decode b_Mo_throwing 71 = .ok (.getfield 52, 3) := by decide +kernel
theorem d_Mo_throwing_74 : decode b_Mo_throwing 74 = .ok (.iload_n 3, 1) := by decide +kernel
theorem d_Mo_throwing_75 : decode b_Mo_throwing 75 = .ok (.iaload, 1) := by decide +kernel
theorem d_Mo_throwing_76 : decode b_Mo_throwing 76 = .ok (.if_icmp .gt 38, 3) := by decide +kernel
theorem d_Mo_throwing_79 : decode b_Mo_throwing 79 = .ok (.aload_n 0, 1) := by decide +kernel
theorem d_Mo_throwing_80 : decode b_Mo_throwing 80 = .ok (.getfield 116, 3) := by decide +kernel
theorem d_Mo_throwing_83 : decode b_Mo_throwing 83 = .ok (.aload_n 0, 1) := by decide +kernel
theorem d_Mo_throwing_84 : decode b_Mo_throwing 84 = .ok (.getfield 275, 3) := by decide +kernel
theorem d_Mo_throwing_87 : decode b_Mo_throwing 87 = .ok (.iconst 1, 1) := by decide +kernel
theorem d_Mo_throwing_88 : decode b_Mo_throwing 88 = .ok (.isub, 1) := by decide +kernel
theorem d_Mo_throwing_89 : decode b_Mo_throwing 89 = .ok (.iconst 0, 1) := by decide +kernel
theorem d_Mo_throwing_90 : decode b_Mo_throwing 90 = .ok (.iastore, 1) := by decide +kernel
theorem d_Mo_throwing_91 : decode b_Mo_throwing 91 = .ok (.aload_n 0, 1) := by decide +kernel
theorem d_Mo_throwing_92 : decode b_Mo_throwing 92 = .ok (.iload_n 1, 1) := by decide +kernel
theorem d_Mo_throwing_93 : decode b_Mo_throwing 93 = .ok (.invokevirtual 281, 3) := by decide +kernel
theorem d_Mo_throwing_96 : decode b_Mo_throwing 96 = .ok (.aload_n 0, 1) := by decide +kernel
theorem d_Mo_throwing_97 : decode b_Mo_throwing 97 = .ok (.getfield 113, 3) := by decide +kernel
theorem d_Mo_throwing_100 : decode b_Mo_throwing 100 = .ok (.aload_n 0, 1) := by decide +kernel
theorem d_Mo_throwing_101 : decode b_Mo_throwing 101 = .ok (.getfield 275, 3) := by decide +kernel
theorem d_Mo_throwing_104 : decode b_Mo_throwing 104 = .ok (.iconst 1, 1) := by decide +kernel
theorem d_Mo_throwing_105 : decode b_Mo_throwing 105 = .ok (.isub, 1) := by decide +kernel
theorem d_Mo_throwing_106 : decode b_Mo_throwing 106 = .ok (.aload_n 0, 1) := by decide +kernel
theorem d_Mo_throwing_107 : decode b_Mo_throwing 107 = .ok (.getfield 46, 3) := by decide +kernel
theorem d_Mo_throwing_110 : decode b_Mo_throwing 110 = .ok (.iload_n 3, 1) := by decide +kernel
theorem d_Mo_throwing_111 : decode b_Mo_throwing 111 = .ok (.iaload, 1) := by decide +kernel
theorem d_Mo_throwing_112 : decode b_Mo_throwing 112 = .ok (.iastore, 1) := by decide +kernel
theorem d_Mo_throwing_113 : decode b_Mo_throwing 113 = .ok (.return_, 1) := by decide +kernel
theorem d_Mo_throwing_114 : decode b_Mo_throwing 114 = .ok (.iinc 3 1, 3) := by decide +kernel
theorem d_Mo_throwing_117 : decode b_Mo_throwing 117 = .ok (.goto (-86), 3) := by decide +kernel
theorem d_Mo_throwing_120 : decode b_Mo_throwing 120 = .ok (.aload_n 0, 1) := by decide +kernel
theorem d_Mo_throwing_121 : decode b_Mo_throwing 121 = .ok (.dup, 1) := by decide +kernel
theorem d_Mo_throwing_122 : decode b_Mo_throwing 122 = .ok (.getfield 275, 3) := by decide +kernel
theorem d_Mo_throwing_125 : decode b_Mo_throwing 125 = .ok (.iconst 1, 1) := by decide +kernel
theorem d_Mo_throwing_126 : decode b_Mo_throwing 126 = .ok (.isub, 1) := by decide +kernel
theorem d_Mo_throwing_127 : decode b_Mo_throwing 127 = .ok (.putfield 275, 3) := by decide +kernel
theorem d_Mo_throwing_130 : decode b_Mo_throwing 130 = .ok (.goto (-120), 3) := by decide +kernel
theorem d_Mo_throwing_133 : decode b_Mo_throwing 133 = .ok (.aload_n 0, 1) := by decide +kernel
theorem d_Mo_throwing_134 : decode b_Mo_throwing 134 = .ok (.iconst 2, 1) := by decide +kernel
theorem d_Mo_throwing_135 : decode b_Mo_throwing 135 = .ok (.putfield 106, 3) := by decide +kernel
theorem d_Mo_throwing_138 : decode b_Mo_throwing 138 = .ok (.aload_n 0, 1) := by decide +kernel
theorem d_Mo_throwing_139 : decode b_Mo_throwing 139 = .ok (.iload_n 1, 1) := by decide +kernel
theorem d_Mo_throwing_140 : decode b_Mo_throwing 140 = .ok (.putfield 284, 3) := by decide +kernel
theorem d_Mo_throwing_143 : decode b_Mo_throwing 143 = .ok (.return_, 1) := by decide +kernel
theorem d_Mo_calls_0 : decode b_Mo_calls 0 = .ok (.aload_n 0, 1) := by decide +kernel
theorem d_Mo_calls_1 : decode b_Mo_calls 1 = .ok (.getfield 275, 3) := by decide +kernel
theorem d_Mo_calls_4 : decode b_Mo_calls 4 = .ok (.bipush 12, 2) := by decide +kernel
theorem d_Mo_calls_6 : decode b_Mo_calls 6 = .ok (.if_icmp .ne 9, 3) := by decide +kernel
theorem d_Mo_calls_9 : decode b_Mo_calls 9 = .ok (.aload_n 0, 1) := by decide +kernel
theorem d_Mo_calls_10 : decode b_Mo_calls 10 = .ok (.iconst 3, 1) := by decide +kernel
theorem d_Mo_calls_11 : decode b_Mo_calls 11 = .ok (.invokevirtual 291, 3) := by decide +kernel
theorem d_Mo_calls_14 : decode b_Mo_calls 14 = .ok (.return_, 1) := by decide +kernel
theorem d_Mo_calls_15 : decode b_Mo_calls 15 = .ok (.aload_n 0, 1) := by decide +kernel
theorem d_Mo_calls_16 : decode b_Mo_calls 16 = .ok (.getfield 113, 3) := by decide +kernel
theorem d_Mo_calls_19 : decode b_Mo_calls 19 = .ok (.aload_n 0, 1) := by decide +kernel
theorem d_Mo_calls_20 : decode b_Mo_calls 20 = .ok (.getfield 275, 3) := by decide +kernel
theorem d_Mo_calls_23 : decode b_Mo_calls 23 = .ok (.aload_n 0, 1) := by decide +kernel
theorem d_Mo_calls_24 : decode b_Mo_calls 24 = .ok (.getfield 55, 3) := by decide +kernel
theorem d_Mo_calls_27 : decode b_Mo_calls 27 = .ok (.iload_n 1, 1) := by decide +kernel
theorem d_Mo_calls_28 : decode b_Mo_calls 28 = .ok (.iaload, 1) := by decide +kernel
theorem d_Mo_calls_29 : decode b_Mo_calls 29 = .ok (.iastore, 1) := by decide +kernel
theorem d_Mo_calls_30 : decode b_Mo_calls 30 = .ok (.aload_n 0, 1) := by decide +kernel
theorem d_Mo_calls_31 : decode b_Mo_calls 31 = .ok (.getfield 116, 3) := by decide +kernel
theorem d_Mo_calls_34 : decode b_Mo_calls 34 = .ok (.aload_n 0, 1) := by decide +kernel
theorem d_Mo_calls_35 : decode b_Mo_calls 35 = .ok (.getfield 275, 3) := by decide +kernel
theorem d_Mo_calls_38 : decode b_Mo_calls 38 = .ok (.iconst 0, 1) := by decide +kernel
theorem d_Mo_calls_39 : decode b_Mo_calls 39 = .ok (.iastore, 1) := by decide +kernel
theorem d_Mo_calls_40 : decode b_Mo_calls 40 = .ok (.aload_n 0, 1) := by decide +kernel
theorem d_Mo_calls_41 : decode b_Mo_calls 41 = .ok (.dup, 1) := by decide +kernel
theorem d_Mo_calls_42 : decode b_Mo_calls 42 = .ok (.getfield 275, 3) := by decide +kernel
theorem d_Mo_calls_45 : decode b_Mo_calls 45 = .ok (.iconst 1, 1) := by decide +kernel
theorem d_Mo_calls_46 : decode b_Mo_calls 46 = .ok (.iadd, 1) := by decide +kernel
theorem d_Mo_calls_47 : decode b_Mo_calls 47 = .ok (.putfield 275, 3) := by decide +kernel
theorem d_Mo_calls_50 : decode b_Mo_calls 50 = .ok (.aload_n 0, 1) := by decide +kernel
theorem d_Mo_calls_51 : decode b_Mo_calls 51 = .ok (.aload_n 0, 1) := by decide +kernel
theorem d_Mo_calls_52 : decode b_Mo_calls 52 = .ok (.getfield 275, 3) := by decide +kernel
theorem d_Mo_calls_55 : decode b_Mo_calls 55 = .ok (.aload_n 0, 1) := by decide +kernel
theorem d_Mo_calls_56 : decode b_Mo_calls 56 = .ok (.getfield 298, 3) := by decide +kernel
theorem d_Mo_calls_59 : decode b_Mo_calls 59 = .ok (.if_icmp .le 10, 3) := by decide +kernel
theorem d_Mo_calls_62 : decode b_Mo_calls 62 = .ok (.aload_n 0, 1) := by decide +kernel
theorem d_Mo_calls_63 : decode b_Mo_calls 63 = .ok (.getfield 275, 3) := by decide +kernel
theorem d_Mo_calls_66 : decode b_Mo_calls 66 = .ok (.goto 7, 3) := by decide +kernel
theorem d_Mo_calls_69 : decode b_Mo_calls 69 = .ok (.aload_n 0, 1) := by decide +kernel
theorem d_Mo_calls_70 : decode b_Mo_calls 70 = .ok (.getfield 298, 3) := by decide +kernel
theorem d_Mo_calls_73 : decode b_Mo_calls 73 = .ok (.putfield 298, 3) := by decide +kernel
theorem d_Mo_calls_76 : decode b_Mo_calls 76 = .ok (.return_, 1) := by decide +kernel
theorem d_Mo_returns_0 : decode b_Mo_returns 0 = .ok (.aload_n 0, 1) := by decide +kernel
theorem d_Mo_returns_1 : decode b_Mo_returns 1 = .ok (.dup, 1) := by decide +kernel
theorem d_Mo_returns_2 : decode b_Mo_returns 2 = .ok (.getfield 275, 3) := by decide +kernel
theorem d_Mo_returns_5 : decode b_Mo_returns 5 = .ok (.iconst 1, 1) := by decide +kernel
theorem d_Mo_returns_6 : decode b_Mo_returns 6 = .ok (.isub, 1) := by decide +kernel
theorem d_Mo_returns_7 : decode b_Mo_returns 7 = .ok (.putfield 275, 3) := by decide +kernel
theorem d_Mo_returns_10 : decode b_Mo_returns 10 = .ok (.aload_n 0, 1) := by decide +kernel
theorem d_Mo_returns_11 : decode b_Mo_returns 11 = .ok (.getfield 275, 3) := by decide +kernel
theorem d_Mo_returns_14 : decode b_Mo_returns 14 = .ok (.ifCond .ne 11, 3) := by decide +kernel
theorem d_Mo_returns_17 : decode b_Mo_returns 17 = .ok (.aload_n 0, 1) := by decide +kernel
theorem d_Mo_returns_18 : decode b_Mo_returns 18 = .ok (.iconst 1, 1) := by decide +kernel
theorem d_Mo_returns_19 : decode b_Mo_returns 19 = .ok (.putfield 106, 3) := by decide +kernel
theorem d_Mo_returns_22 : decode b_Mo_returns 22 = .ok (.goto 18, 3) := by decide +kernel
theorem d_Mo_returns_25 : decode b_Mo_returns 25 = .ok (.aload_n 0, 1) := by decide +kernel
theorem d_Mo_returns_26 : decode b_Mo_returns 26 = .ok (.getfield 113, 3) := by decide +kernel
theorem d_Mo_returns_29 : decode b_Mo_returns 29 = .ok (.aload_n 0, 1) := by decide +kernel
theorem d_Mo_returns_30 : decode b_Mo_returns 30 = .ok (.getfield 275, 3) := by decide +kernel
theorem d_Mo_returns_33 : decode b_Mo_returns 33 = .ok (.iconst 1, 1) := by decide +kernel
theorem d_Mo_returns_34 : decode b_Mo_returns 34 = .ok (.isub, 1) := by decide +kernel
theorem d_Mo_returns_35 : decode b_Mo_returns 35 = .ok (.dup2, 1) := by decide +kernel
theorem d_Mo_returns_36 : decode b_Mo_returns 36 = .ok (.iaload, 1) := by decide +kernel
theorem d_Mo_returns_37 : decode b_Mo_returns 37 = .ok (.iconst 1, 1) := by decide +kernel
theorem d_Mo_returns_38 : decode b_Mo_returns 38 = .ok (.iadd, 1) := by decide +kernel
theorem d_Mo_returns_39 : decode b_Mo_returns 39 = .ok (.iastore, 1) := by decide +kernel
theorem d_Mo_returns_40 : decode b_Mo_returns 40 = .ok (.return_, 1) := by decide +kernel
theorem d_Mo_worked_0 : decode b_Mo_worked 0 = .ok (.iload_n 0, 1) := by decide +kernel
theorem d_Mo_worked_1 : decode b_Mo_worked 1 = .ok (.tableswitch 72 2 6 #[35, 39, 43, 47, 61], 35) := by decide +kernel
theorem d_Mo_worked_36 : decode b_Mo_worked 36 = .ok (.iload_n 1, 1) := by decide +kernel
theorem d_Mo_worked_37 : decode b_Mo_worked 37 = .ok (.iload_n 2, 1) := by decide +kernel
theorem d_Mo_worked_38 : decode b_Mo_worked 38 = .ok (.iadd, 1) := by decide +kernel
theorem d_Mo_worked_39 : decode b_Mo_worked 39 = .ok (.ireturn, 1) := by decide +kernel
theorem d_Mo_worked_40 : decode b_Mo_worked 40 = .ok (.iload_n 1, 1) := by decide +kernel
theorem d_Mo_worked_41 : decode b_Mo_worked 41 = .ok (.iload_n 2, 1) := by decide +kernel
theorem d_Mo_worked_42 : decode b_Mo_worked 42 = .ok (.isub, 1) := by decide +kernel
theorem d_Mo_worked_43 : decode b_Mo_worked 43 = .ok (.ireturn, 1) := by decide +kernel
theorem d_Mo_worked_44 : decode b_Mo_worked 44 = .ok (.iload_n 1, 1) := by decide +kernel
theorem d_Mo_worked_45 : decode b_Mo_worked 45 = .ok (.iload_n 2, 1) := by decide +kernel
theorem d_Mo_worked_46 : decode b_Mo_worked 46 = .ok (.imul, 1) := by decide +kernel
theorem d_Mo_worked_47 : decode b_Mo_worked 47 = .ok (.ireturn, 1) := by decide +kernel
theorem d_Mo_worked_48 : decode b_Mo_worked 48 = .ok (.iload_n 2, 1) := by decide +kernel
theorem d_Mo_worked_49 : decode b_Mo_worked 49 = .ok (.iconst (-1), 1) := by decide +kernel
theorem d_Mo_worked_50 : decode b_Mo_worked 50 = .ok (.if_icmp .ne 8, 3) := by decide +kernel
theorem d_Mo_worked_53 : decode b_Mo_worked 53 = .ok (.iload_n 1, 1) := by decide +kernel
theorem d_Mo_worked_54 : decode b_Mo_worked 54 = .ok (.ineg, 1) := by decide +kernel
theorem d_Mo_worked_55 : decode b_Mo_worked 55 = .ok (.goto 6, 3) := by decide +kernel
theorem d_Mo_worked_58 : decode b_Mo_worked 58 = .ok (.iload_n 1, 1) := by decide +kernel
theorem d_Mo_worked_59 : decode b_Mo_worked 59 = .ok (.iload_n 2, 1) := by decide +kernel
theorem d_Mo_worked_60 : decode b_Mo_worked 60 = .ok (.idiv, 1) := by decide +kernel
theorem d_Mo_worked_61 : decode b_Mo_worked 61 = .ok (.ireturn, 1) := by decide +kernel
theorem d_Mo_worked_62 : decode b_Mo_worked 62 = .ok (.iload_n 1, 1) := by decide +kernel
theorem d_Mo_worked_63 : decode b_Mo_worked 63 = .ok (.iload_n 2, 1) := by decide +kernel
theorem d_Mo_worked_64 : decode b_Mo_worked 64 = .ok (.if_icmp .ge 7, 3) := by decide +kernel
theorem d_Mo_worked_67 : decode b_Mo_worked 67 = .ok (.iconst 1, 1) := by decide +kernel
theorem d_Mo_worked_68 : decode b_Mo_worked 68 = .ok (.goto 4, 3) := by decide +kernel
theorem d_Mo_worked_71 : decode b_Mo_worked 71 = .ok (.iconst 0, 1) := by decide +kernel
theorem d_Mo_worked_72 : decode b_Mo_worked 72 = .ok (.ireturn, 1) := by decide +kernel
theorem d_Mo_worked_73 : decode b_Mo_worked 73 = .ok (.iload_n 1, 1) := by decide +kernel
theorem d_Mo_worked_74 : decode b_Mo_worked 74 = .ok (.iload_n 2, 1) := by decide +kernel
theorem d_Mo_worked_75 : decode b_Mo_worked 75 = .ok (.if_icmp .ne 7, 3) := by decide +kernel
theorem d_Mo_worked_78 : decode b_Mo_worked 78 = .ok (.iconst 1, 1) := by decide +kernel
theorem d_Mo_worked_79 : decode b_Mo_worked 79 = .ok (.goto 4, 3) := by decide +kernel
theorem d_Mo_worked_82 : decode b_Mo_worked 82 = .ok (.iconst 0, 1) := by decide +kernel
theorem d_Mo_worked_83 : decode b_Mo_worked 83 = .ok (.ireturn, 1) := by decide +kernel
theorem d_Mo_works_0 : decode b_Mo_works 0 = .ok (.aload_n 0, 1) := by decide +kernel
theorem d_Mo_works_1 : decode b_Mo_works 1 = .ok (.invokevirtual 287, 3) := by decide +kernel
theorem d_Mo_works_4 : decode b_Mo_works 4 = .ok (.istore_n 2, 1) := by decide +kernel
theorem d_Mo_works_5 : decode b_Mo_works 5 = .ok (.aload_n 0, 1) := by decide +kernel
theorem d_Mo_works_6 : decode b_Mo_works 6 = .ok (.invokevirtual 287, 3) := by decide +kernel
theorem d_Mo_works_9 : decode b_Mo_works 9 = .ok (.istore_n 3, 1) := by decide +kernel
theorem d_Mo_works_10 : decode b_Mo_works 10 = .ok (.iload_n 1, 1) := by decide +kernel
theorem d_Mo_works_11 : decode b_Mo_works 11 = .ok (.iconst 5, 1) := by decide +kernel
theorem d_Mo_works_12 : decode b_Mo_works 12 = .ok (.if_icmp .ne 15, 3) := by decide +kernel
theorem d_Mo_works_15 : decode b_Mo_works 15 = .ok (.iload_n 2, 1) := by decide +kernel
theorem d_Mo_works_16 : decode b_Mo_works 16 = .ok (.ifCond .ne 11, 3) := by decide +kernel
theorem d_Mo_works_19 : decode b_Mo_works 19 = .ok (.aload_n 0, 1) := by decide +kernel
theorem d_Mo_works_20 : decode b_Mo_works 20 = .ok (.iconst 1, 1) := by decide +kernel
theorem d_Mo_works_21 : decode b_Mo_works 21 = .ok (.invokevirtual 291, 3) := by decide +kernel
theorem d_Mo_works_24 : decode b_Mo_works 24 = .ok (.goto 28, 3) := by decide +kernel
theorem d_Mo_works_27 : decode b_Mo_works 27 = .ok (.aload_n 0, 1) := by decide +kernel
theorem d_Mo_works_28 : decode b_Mo_works 28 = .ok (.iload_n 1, 1) := by decide +kernel
theorem d_Mo_works_29 : decode b_Mo_works 29 = .ok (.iload_n 3, 1) := by decide +kernel
theorem d_Mo_works_30 : decode b_Mo_works 30 = .ok (.iload_n 2, 1) := by decide +kernel
theorem d_Mo_works_31 : decode b_Mo_works 31 = .ok (.invokestatic 294, 3) := by decide +kernel
theorem d_Mo_works_34 : decode b_Mo_works 34 = .ok (.invokevirtual 281, 3) := by decide +kernel
theorem d_Mo_works_37 : decode b_Mo_works 37 = .ok (.aload_n 0, 1) := by decide +kernel
theorem d_Mo_works_38 : decode b_Mo_works 38 = .ok (.getfield 113, 3) := by decide +kernel
theorem d_Mo_works_41 : decode b_Mo_works 41 = .ok (.aload_n 0, 1) := by decide +kernel
theorem d_Mo_works_42 : decode b_Mo_works 42 = .ok (.getfield 275, 3) := by decide +kernel
theorem d_Mo_works_45 : decode b_Mo_works 45 = .ok (.iconst 1, 1) := by decide +kernel
theorem d_Mo_works_46 : decode b_Mo_works 46 = .ok (.isub, 1) := by decide +kernel
theorem d_Mo_works_47 : decode b_Mo_works 47 = .ok (.dup2, 1) := by decide +kernel
theorem d_Mo_works_48 : decode b_Mo_works 48 = .ok (.iaload, 1) := by decide +kernel
theorem d_Mo_works_49 : decode b_Mo_works 49 = .ok (.iconst 1, 1) := by decide +kernel
theorem d_Mo_works_50 : decode b_Mo_works 50 = .ok (.iadd, 1) := by decide +kernel
theorem d_Mo_works_51 : decode b_Mo_works 51 = .ok (.iastore, 1) := by decide +kernel
theorem d_Mo_works_52 : decode b_Mo_works 52 = .ok (.return_, 1) := by decide +kernel
theorem d_Mo_step_0 : decode b_Mo_step 0 = .ok (.aload_n 0, 1) := by decide +kernel
theorem d_Mo_step_1 : decode b_Mo_step 1 = .ok (.getfield 113, 3) := by decide +kernel
theorem d_Mo_step_4 : decode b_Mo_step 4 = .ok (.aload_n 0, 1) := by decide +kernel
theorem d_Mo_step_5 : decode b_Mo_step 5 = .ok (.getfield 275, 3) := by decide +kernel
theorem d_Mo_step_8 : decode b_Mo_step 8 = .ok (.iconst 1, 1) := by decide +kernel
theorem d_Mo_step_9 : decode b_Mo_step 9 = .ok (.isub, 1) := by decide +kernel
theorem d_Mo_step_10 : decode b_Mo_step 10 = .ok (.iaload, 1) := by decide +kernel
theorem d_Mo_step_11 : decode b_Mo_step 11 = .ok (.istore_n 1, 1) := by decide +kernel
theorem d_Mo_step_12 : decode b_Mo_step 12 = .ok (.aload_n 0, 1) := by decide +kernel
theorem d_Mo_step_13 : decode b_Mo_step 13 = .ok (.getfield 34, 3) := by decide +kernel
theorem d_Mo_step_16 : decode b_Mo_step 16 = .ok (.iload_n 1, 1) := by decide +kernel
theorem d_Mo_step_17 : decode b_Mo_step 17 = .ok (.iaload, 1) := by decide +kernel
theorem d_Mo_step_18 : decode b_Mo_step 18 = .ok (.istore_n 2, 1) := by decide +kernel
theorem d_Mo_step_19 : decode b_Mo_step 19 = .ok (.aload_n 0, 1) := by decide +kernel
theorem d_Mo_step_20 : decode b_Mo_step 20 = .ok (.getfield 31, 3) := by decide +kernel
theorem d_Mo_step_23 : decode b_Mo_step 23 = .ok (.iload_n 1, 1) := by decide +kernel
theorem d_Mo_step_24 : decode b_Mo_step 24 = .ok (.iaload, 1) := by decide +kernel
theorem d_Mo_step_25 : decode b_Mo_step 25 = .ok (.tableswitch 346 0 16 #[83, 83, 346, 346, 346, 346, 346, 346, 124, 152, 204, 232, 247, 268, 276, 283, 322], 83) := by decide +kernel
theorem d_Mo_step_108 : decode b_Mo_step 108 = .ok (.aload_n 0, 1) := by decide +kernel
theorem d_Mo_step_109 : decode b_Mo_step 109 = .ok (.aload_n 0, 1) := by decide +kernel
theorem d_Mo_step_110 : decode b_Mo_step 110 = .ok (.getfield 31, 3) := by decide +kernel
theorem d_Mo_step_113 : decode b_Mo_step 113 = .ok (.iload_n 1, 1) := by decide +kernel
theorem d_Mo_step_114 : decode b_Mo_step 114 = .ok (.iaload, 1) := by decide +kernel
theorem d_Mo_step_115 : decode b_Mo_step 115 = .ok (.ifCond .ne 7, 3) := by decide +kernel
theorem d_Mo_step_118 : decode b_Mo_step 118 = .ok (.iload_n 2, 1) := by decide +kernel
theorem d_Mo_step_119 : decode b_Mo_step 119 = .ok (.goto 9, 3) := by decide +kernel
theorem d_Mo_step_122 : decode b_Mo_step 122 = .ok (.aload_n 0, 1) := by decide +kernel
theorem d_Mo_step_123 : decode b_Mo_step 123 = .ok (.getfield 103, 3) := by decide +kernel
theorem d_Mo_step_126 : decode b_Mo_step 126 = .ok (.iload_n 2, 1) := by decide +kernel
theorem d_Mo_step_127 : decode b_Mo_step 127 = .ok (.iaload, 1) := by decide +kernel
theorem d_Mo_step_128 : decode b_Mo_step 128 = .ok (.invokevirtual 281, 3) := by decide +kernel
theorem d_Mo_step_131 : decode b_Mo_step 131 = .ok (.aload_n 0, 1) := by decide +kernel
theorem d_Mo_step_132 : decode b_Mo_step 132 = .ok (.getfield 113, 3) := by decide +kernel
theorem d_Mo_step_135 : decode b_Mo_step 135 = .ok (.aload_n 0, 1) := by decide +kernel
theorem d_Mo_step_136 : decode b_Mo_step 136 = .ok (.getfield 275, 3) := by decide +kernel
theorem d_Mo_step_139 : decode b_Mo_step 139 = .ok (.iconst 1, 1) := by decide +kernel
theorem d_Mo_step_140 : decode b_Mo_step 140 = .ok (.isub, 1) := by decide +kernel
theorem d_Mo_step_141 : decode b_Mo_step 141 = .ok (.dup2, 1) := by decide +kernel
theorem d_Mo_step_142 : decode b_Mo_step 142 = .ok (.iaload, 1) := by decide +kernel
theorem d_Mo_step_143 : decode b_Mo_step 143 = .ok (.iconst 1, 1) := by decide +kernel
theorem d_Mo_step_144 : decode b_Mo_step 144 = .ok (.iadd, 1) := by decide +kernel
theorem d_Mo_step_145 : decode b_Mo_step 145 = .ok (.iastore, 1) := by decide +kernel
theorem d_Mo_step_146 : decode b_Mo_step 146 = .ok (.goto 235, 3) := by decide +kernel
theorem d_Mo_step_149 : decode b_Mo_step 149 = .ok (.aload_n 0, 1) := by decide +kernel
theorem d_Mo_step_150 : decode b_Mo_step 150 = .ok (.getfield 103, 3) := by decide +kernel
theorem d_Mo_step_153 : decode b_Mo_step 153 = .ok (.iload_n 2, 1) := by decide +kernel
theorem d_Mo_step_154 : decode b_Mo_step 154 = .ok (.aload_n 0, 1) := by decide +kernel
theorem d_Mo_step_155 : decode b_Mo_step 155 = .ok (.invokevirtual 287, 3) := by decide +kernel
theorem d_Mo_step_158 : decode b_Mo_step 158 = .ok (.iastore, 1) := by decide +kernel
theorem d_Mo_step_159 : decode b_Mo_step 159 = .ok (.aload_n 0, 1) := by decide +kernel
theorem d_Mo_step_160 : decode b_Mo_step 160 = .ok (.getfield 113, 3) := by decide +kernel
theorem d_Mo_step_163 : decode b_Mo_step 163 = .ok (.aload_n 0, 1) := by decide +kernel
theorem d_Mo_step_164 : decode b_Mo_step 164 = .ok (.getfield 275, 3) := by decide +kernel
theorem d_Mo_step_167 : decode b_Mo_step 167 = .ok (.iconst 1, 1) := by decide +kernel
theorem d_Mo_step_168 : decode b_Mo_step 168 = .ok (.isub, 1) := by decide +kernel
theorem d_Mo_step_169 : decode b_Mo_step 169 = .ok (.dup2, 1) := by decide +kernel
theorem d_Mo_step_170 : decode b_Mo_step 170 = .ok (.iaload, 1) := by decide +kernel
theorem d_Mo_step_171 : decode b_Mo_step 171 = .ok (.iconst 1, 1) := by decide +kernel
theorem d_Mo_step_172 : decode b_Mo_step 172 = .ok (.iadd, 1) := by decide +kernel
theorem d_Mo_step_173 : decode b_Mo_step 173 = .ok (.iastore, 1) := by decide +kernel
theorem d_Mo_step_174 : decode b_Mo_step 174 = .ok (.goto 207, 3) := by decide +kernel
theorem d_Mo_step_177 : decode b_Mo_step 177 = .ok (.aload_n 0, 1) := by decide +kernel
theorem d_Mo_step_178 : decode b_Mo_step 178 = .ok (.invokevirtual 287, 3) := by decide +kernel
theorem d_Mo_step_181 : decode b_Mo_step 181 = .ok (.istore_n 3, 1) := by decide +kernel
theorem d_Mo_step_182 : decode b_Mo_step 182 = .ok (.aload_n 0, 1) := by decide +kernel
theorem d_Mo_step_183 : decode b_Mo_step 183 = .ok (.getfield 301, 3) := by decide +kernel
theorem d_Mo_step_186 : decode b_Mo_step 186 = .ok (.bipush 64, 2) := by decide +kernel
theorem d_Mo_step_188 : decode b_Mo_step 188 = .ok (.if_icmp .ge 23, 3) := by decide +kernel
theorem d_Mo_step_191 : decode b_Mo_step 191 = .ok (.aload_n 0, 1) := by decide +kernel
theorem d_Mo_step_192 : decode b_Mo_step 192 = .ok (.getfield 110, 3) := by decide +kernel
theorem d_Mo_step_195 : decode b_Mo_step 195 = .ok (.aload_n 0, 1) := by decide +kernel
theorem d_Mo_step_196 : decode b_Mo_step 196 = .ok (.getfield 301, 3) := by decide +kernel
theorem d_Mo_step_199 : decode b_Mo_step 199 = .ok (.iload_n 3, 1) := by decide +kernel
theorem d_Mo_step_200 : decode b_Mo_step 200 = .ok (.iastore, 1) := by decide +kernel
theorem d_Mo_step_201 : decode b_Mo_step 201 = .ok (.aload_n 0, 1) := by decide +kernel
theorem d_Mo_step_202 : decode b_Mo_step 202 = .ok (.dup, 1) := by decide +kernel
theorem d_Mo_step_203 : decode b_Mo_step 203 = .ok (.getfield 301, 3) := by decide +kernel
theorem d_Mo_step_206 : decode b_Mo_step 206 = .ok (.iconst 1, 1) := by decide +kernel
theorem d_Mo_step_207 : decode b_Mo_step 207 = .ok (.iadd, 1) := by decide +kernel
theorem d_Mo_step_208 : decode b_Mo_step 208 = .ok (.putfield 301, 3) := by decide +kernel
theorem d_Mo_step_211 : decode b_Mo_step 211 = .ok (.aload_n 0, 1) := by decide +kernel
theorem d_Mo_step_212 : decode b_Mo_step 212 = .ok (.getfield 113, 3) := by decide +kernel
theorem d_Mo_step_215 : decode b_Mo_step 215 = .ok (.aload_n 0, 1) := by decide +kernel
theorem d_Mo_step_216 : decode b_Mo_step 216 = .ok (.getfield 275, 3) := by decide +kernel
theorem d_Mo_step_219 : decode b_Mo_step 219 = .ok (.iconst 1, 1) := by decide +kernel
theorem d_Mo_step_220 : decode b_Mo_step 220 = .ok (.isub, 1) := by decide +kernel
theorem d_Mo_step_221 : decode b_Mo_step 221 = .ok (.dup2, 1) := by decide +kernel
theorem d_Mo_step_222 : decode b_Mo_step 222 = .ok (.iaload, 1) := by decide +kernel
theorem d_Mo_step_223 : decode b_Mo_step 223 = .ok (.iconst 1, 1) := by decide +kernel
theorem d_Mo_step_224 : decode b_Mo_step 224 = .ok (.iadd, 1) := by decide +kernel
theorem d_Mo_step_225 : decode b_Mo_step 225 = .ok (.iastore, 1) := by decide +kernel
theorem d_Mo_step_226 : decode b_Mo_step 226 = .ok (.goto 155, 3) := by decide +kernel
theorem d_Mo_step_229 : decode b_Mo_step 229 = .ok (.aload_n 0, 1) := by decide +kernel
theorem d_Mo_step_230 : decode b_Mo_step 230 = .ok (.getfield 113, 3) := by decide +kernel
theorem d_Mo_step_233 : decode b_Mo_step 233 = .ok (.aload_n 0, 1) := by decide +kernel
theorem d_Mo_step_234 : decode b_Mo_step 234 = .ok (.getfield 275, 3) := by decide +kernel
theorem d_Mo_step_237 : decode b_Mo_step 237 = .ok (.iconst 1, 1) := by decide +kernel
theorem d_Mo_step_238 : decode b_Mo_step 238 = .ok (.isub, 1) := by decide +kernel
theorem d_Mo_step_239 : decode b_Mo_step 239 = .ok (.aload_n 0, 1) := by decide +kernel
theorem d_Mo_step_240 : decode b_Mo_step 240 = .ok (.invokevirtual 287, 3) := by decide +kernel
theorem d_Mo_step_243 : decode b_Mo_step 243 = .ok (.ifCond .ne 7, 3) := by decide +kernel
theorem d_Mo_step_246 : decode b_Mo_step 246 = .ok (.iload_n 2, 1) := by decide +kernel
theorem d_Mo_step_247 : decode b_Mo_step 247 = .ok (.goto 6, 3) := by decide +kernel
theorem d_Mo_step_250 : decode b_Mo_step 250 = .ok (.iload_n 1, 1) := by decide +kernel
theorem d_Mo_step_251 : decode b_Mo_step 251 = .ok (.iconst 1, 1) := by decide +kernel
theorem d_Mo_step_252 : decode b_Mo_step 252 = .ok (.iadd, 1) := by decide +kernel
theorem d_Mo_step_253 : decode b_Mo_step 253 = .ok (.iastore, 1) := by decide +kernel
theorem d_Mo_step_254 : decode b_Mo_step 254 = .ok (.goto 127, 3) := by decide +kernel
theorem d_Mo_step_257 : decode b_Mo_step 257 = .ok (.aload_n 0, 1) := by decide +kernel
theorem d_Mo_step_258 : decode b_Mo_step 258 = .ok (.getfield 113, 3) := by decide +kernel
theorem d_Mo_step_261 : decode b_Mo_step 261 = .ok (.aload_n 0, 1) := by decide +kernel
theorem d_Mo_step_262 : decode b_Mo_step 262 = .ok (.getfield 275, 3) := by decide +kernel
theorem d_Mo_step_265 : decode b_Mo_step 265 = .ok (.iconst 1, 1) := by decide +kernel
theorem d_Mo_step_266 : decode b_Mo_step 266 = .ok (.isub, 1) := by decide +kernel
theorem d_Mo_step_267 : decode b_Mo_step 267 = .ok (.iload_n 2, 1) := by decide +kernel
theorem d_Mo_step_268 : decode b_Mo_step 268 = .ok (.iastore, 1) := by decide +kernel
theorem d_Mo_step_269 : decode b_Mo_step 269 = .ok (.goto 112, 3) := by decide +kernel
theorem d_Mo_step_272 : decode b_Mo_step 272 = .ok (.aload_n 0, 1) := by decide +kernel
theorem d_Mo_step_273 : decode b_Mo_step 273 = .ok (.invokevirtual 287, 3) := by decide +kernel
theorem d_Mo_step_276 : decode b_Mo_step 276 = .ok (.istore_n 3, 1) := by decide +kernel
theorem d_Mo_step_277 : decode b_Mo_step 277 = .ok (.aload_n 0, 1) := by decide +kernel
theorem d_Mo_step_278 : decode b_Mo_step 278 = .ok (.iload_n 3, 1) := by decide +kernel
theorem d_Mo_step_279 : decode b_Mo_step 279 = .ok (.ifCond .ne 7, 3) := by decide +kernel
theorem d_Mo_step_282 : decode b_Mo_step 282 = .ok (.iconst 2, 1) := by decide +kernel
theorem d_Mo_step_283 : decode b_Mo_step 283 = .ok (.goto 4, 3) := by decide +kernel
theorem d_Mo_step_286 : decode b_Mo_step 286 = .ok (.iload_n 3, 1) := by decide +kernel
theorem d_Mo_step_287 : decode b_Mo_step 287 = .ok (.invokevirtual 291, 3) := by decide +kernel
theorem d_Mo_step_290 : decode b_Mo_step 290 = .ok (.goto 91, 3) := by decide +kernel
theorem d_Mo_step_293 : decode b_Mo_step 293 = .ok (.aload_n 0, 1) := by decide +kernel
theorem d_Mo_step_294 : decode b_Mo_step 294 = .ok (.iload_n 2, 1) := by decide +kernel
theorem d_Mo_step_295 : decode b_Mo_step 295 = .ok (.invokevirtual 304, 3) := by decide +kernel
theorem d_Mo_step_298 : decode b_Mo_step 298 = .ok (.goto 83, 3) := by decide +kernel
theorem d_Mo_step_301 : decode b_Mo_step 301 = .ok (.aload_n 0, 1) := by decide +kernel
theorem d_Mo_step_302 : decode b_Mo_step 302 = .ok (.invokevirtual 307, 3) := by decide +kernel
theorem d_Mo_step_305 : decode b_Mo_step 305 = .ok (.goto 76, 3) := by decide +kernel
theorem d_Mo_step_308 : decode b_Mo_step 308 = .ok (.aload_n 0, 1) := by decide +kernel
theorem d_Mo_step_309 : decode b_Mo_step 309 = .ok (.getfield 122, 3) := by decide +kernel
theorem d_Mo_step_312 : decode b_Mo_step 312 = .ok (.sipush 200, 3) := by decide +kernel
theorem d_Mo_step_315 : decode b_Mo_step 315 = .ok (.aload_n 0, 1) := by decide +kernel
theorem d_Mo_step_316 : decode b_Mo_step 316 = .ok (.getfield 275, 3) := by decide +kernel
theorem d_Mo_step_319 : decode b_Mo_step 319 = .ok (.iconst 1, 1) := by decide +kernel
theorem d_Mo_step_320 : decode b_Mo_step 320 = .ok (.isub, 1) := by decide +kernel
theorem d_Mo_step_321 : decode b_Mo_step 321 = .ok (.imul, 1) := by decide +kernel
theorem d_Mo_step_322 : decode b_Mo_step 322 = .ok (.iload_n 2, 1) := by decide +kernel
theorem d_Mo_step_323 : decode b_Mo_step 323 = .ok (.iadd, 1) := by decide +kernel
theorem d_Mo_step_324 : decode b_Mo_step 324 = .ok (.aload_n 0, 1) := by decide +kernel
theorem d_Mo_step_325 : decode b_Mo_step 325 = .ok (.invokevirtual 287, 3) := by decide +kernel
theorem d_Mo_step_328 : decode b_Mo_step 328 = .ok (.iastore, 1) := by decide +kernel
theorem d_Mo_step_329 : decode b_Mo_step 329 = .ok (.aload_n 0, 1) := by decide +kernel
theorem d_Mo_step_330 : decode b_Mo_step 330 = .ok (.getfield 113, 3) := by decide +kernel
theorem d_Mo_step_333 : decode b_Mo_step 333 = .ok (.aload_n 0, 1) := by decide +kernel
theorem d_Mo_step_334 : decode b_Mo_step 334 = .ok (.getfield 275, 3) := by decide +kernel
theorem d_Mo_step_337 : decode b_Mo_step 337 = .ok (.iconst 1, 1) := by decide +kernel
theorem d_Mo_step_338 : decode b_Mo_step 338 = .ok (.isub, 1) := by decide +kernel
theorem d_Mo_step_339 : decode b_Mo_step 339 = .ok (.dup2, 1) := by decide +kernel
theorem d_Mo_step_340 : decode b_Mo_step 340 = .ok (.iaload, 1) := by decide +kernel
theorem d_Mo_step_341 : decode b_Mo_step 341 = .ok (.iconst 1, 1) := by decide +kernel
theorem d_Mo_step_342 : decode b_Mo_step 342 = .ok (.iadd, 1) := by decide +kernel
theorem d_Mo_step_343 : decode b_Mo_step 343 = .ok (.iastore, 1) := by decide +kernel
theorem d_Mo_step_344 : decode b_Mo_step 344 = .ok (.goto 37, 3) := by decide +kernel
theorem d_Mo_step_347 : decode b_Mo_step 347 = .ok (.aload_n 0, 1) := by decide +kernel
theorem d_Mo_step_348 : decode b_Mo_step 348 = .ok (.aload_n 0, 1) := by decide +kernel
theorem d_Mo_step_349 : decode b_Mo_step 349 = .ok (.getfield 122, 3) := by decide +kernel
theorem d_Mo_step_352 : decode b_Mo_step 352 = .ok (.sipush 200, 3) := by decide +kernel
theorem d_Mo_step_355 : decode b_Mo_step 355 = .ok (.aload_n 0, 1) := by decide +kernel
theorem d_Mo_step_356 : decode b_Mo_step 356 = .ok (.getfield 275, 3) := by decide +kernel
theorem d_Mo_step_359 : decode b_Mo_step 359 = .ok (.iconst 1, 1) := by decide +kernel
theorem d_Mo_step_360 : decode b_Mo_step 360 = .ok (.isub, 1) := by decide +kernel
theorem d_Mo_step_361 : decode b_Mo_step 361 = .ok (.imul, 1) := by decide +kernel
theorem d_Mo_step_362 : decode b_Mo_step 362 = .ok (.iload_n 2, 1) := by decide +kernel
theorem d_Mo_step_363 : decode b_Mo_step 363 = .ok (.iadd, 1) := by decide +kernel
theorem d_Mo_step_364 : decode b_Mo_step 364 = .ok (.iaload, 1) := by decide +kernel
theorem d_Mo_step_365 : decode b_Mo_step 365 = .ok (.invokevirtual 291, 3) := by decide +kernel
theorem d_Mo_step_368 : decode b_Mo_step 368 = .ok (.goto 13, 3) := by decide +kernel
theorem d_Mo_step_371 : decode b_Mo_step 371 = .ok (.aload_n 0, 1) := by decide +kernel
theorem d_Mo_step_372 : decode b_Mo_step 372 = .ok (.aload_n 0, 1) := by decide +kernel
theorem d_Mo_step_373 : decode b_Mo_step 373 = .ok (.getfield 31, 3) := by decide +kernel
theorem d_Mo_step_376 : decode b_Mo_step 376 = .ok (.iload_n 1, 1) := by decide +kernel
theorem d_Mo_step_377 : decode b_Mo_step 377 = .ok (.iaload, 1) := by decide +kernel
theorem d_Mo_step_378 : decode b_Mo_step 378 = .ok (.invokevirtual 310, 3) := by decide +kernel
theorem d_Mo_step_381 : decode b_Mo_step 381 = .ok (.return_, 1) := by decide +kernel
