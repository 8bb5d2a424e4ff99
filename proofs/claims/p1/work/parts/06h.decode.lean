theorem d_Mo_catchAt_0 : decode b_Mo_catchAt 0 = .ok (.aload_n 0, 1) := by decide +kernel
theorem d_Mo_catchAt_1 : decode b_Mo_catchAt 1 = .ok (.getfield 16, 3) := by decide +kernel
theorem d_Mo_catchAt_4 : decode b_Mo_catchAt 4 = .ok (.iload_n 1, 1) := by decide +kernel
theorem d_Mo_catchAt_5 : decode b_Mo_catchAt 5 = .ok (.iaload, 1) := by decide +kernel
theorem d_Mo_catchAt_6 : decode b_Mo_catchAt 6 = .ok (.istore_n 3, 1) := by decide +kernel
theorem d_Mo_catchAt_7 : decode b_Mo_catchAt 7 = .ok (.aload_n 0, 1) := by decide +kernel
theorem d_Mo_catchAt_8 : decode b_Mo_catchAt 8 = .ok (.iload_n 1, 1) := by decide +kernel
theorem d_Mo_catchAt_9 : decode b_Mo_catchAt 9 = .ok (.invokevirtual 160, 3) := by decide +kernel
theorem d_Mo_catchAt_12 : decode b_Mo_catchAt 12 = .ok (.iconst 1, 1) := by decide +kernel
theorem d_Mo_catchAt_13 : decode b_Mo_catchAt 13 = .ok (.isub, 1) := by decide +kernel
theorem d_Mo_catchAt_14 : decode b_Mo_catchAt 14 = .ok (.istore 4, 2) := by decide +kernel
theorem d_Mo_catchAt_16 : decode b_Mo_catchAt 16 = .ok (.iload 4, 2) := by decide +kernel
theorem d_Mo_catchAt_18 : decode b_Mo_catchAt 18 = .ok (.iload_n 2, 1) := by decide +kernel
theorem d_Mo_catchAt_19 : decode b_Mo_catchAt 19 = .ok (.if_icmp .le 16, 3) := by decide +kernel
theorem d_Mo_catchAt_22 : decode b_Mo_catchAt 22 = .ok (.aload_n 0, 1) := by decide +kernel
theorem d_Mo_catchAt_23 : decode b_Mo_catchAt 23 = .ok (.getfield 25, 3) := by decide +kernel
theorem d_Mo_catchAt_26 : decode b_Mo_catchAt 26 = .ok (.iload_n 3, 1) := by decide +kernel
theorem d_Mo_catchAt_27 : decode b_Mo_catchAt 27 = .ok (.iaload, 1) := by decide +kernel
theorem d_Mo_catchAt_28 : decode b_Mo_catchAt 28 = .ok (.istore_n 3, 1) := by decide +kernel
theorem d_Mo_catchAt_29 : decode b_Mo_catchAt 29 = .ok (.iinc 4 (-1), 3) := by decide +kernel
theorem d_Mo_catchAt_32 : decode b_Mo_catchAt 32 = .ok (.goto (-16), 3) := by decide +kernel
theorem d_Mo_catchAt_35 : decode b_Mo_catchAt 35 = .ok (.iload_n 3, 1) := by decide +kernel
theorem d_Mo_catchAt_36 : decode b_Mo_catchAt 36 = .ok (.ireturn, 1) := by decide +kernel
theorem d_Mo_table_0 : decode b_Mo_table 0 = .ok (.aload_n 0, 1) := by decide +kernel
theorem d_Mo_table_1 : decode b_Mo_table 1 = .ok (.getfield 58, 3) := by decide +kernel
theorem d_Mo_table_4 : decode b_Mo_table 4 = .ok (.iload_n 1, 1) := by decide +kernel
theorem d_Mo_table_5 : decode b_Mo_table 5 = .ok (.iaload, 1) := by decide +kernel
theorem d_Mo_table_6 : decode b_Mo_table 6 = .ok (.istore_n 2, 1) := by decide +kernel
theorem d_Mo_table_7 : decode b_Mo_table 7 = .ok (.aload_n 0, 1) := by decide +kernel
theorem d_Mo_table_8 : decode b_Mo_table 8 = .ok (.iload_n 2, 1) := by decide +kernel
theorem d_Mo_table_9 : decode b_Mo_table 9 = .ok (.invokevirtual 160, 3) := by decide +kernel
theorem d_Mo_table_12 : decode b_Mo_table 12 = .ok (.istore_n 3, 1) := by decide +kernel
theorem d_Mo_table_13 : decode b_Mo_table 13 = .ok (.iconst 0, 1) := by decide +kernel
theorem d_Mo_table_14 : decode b_Mo_table 14 = .ok (.istore 4, 2) := by decide +kernel
theorem d_Mo_table_16 : decode b_Mo_table 16 = .ok (.iload 4, 2) := by decide +kernel
theorem d_Mo_table_18 : decode b_Mo_table 18 = .ok (.iload_n 3, 1) := by decide +kernel
theorem d_Mo_table_19 : decode b_Mo_table 19 = .ok (.if_icmp .ge 60, 3) := by decide +kernel
theorem d_Mo_table_22 : decode b_Mo_table 22 = .ok (.aload_n 0, 1) := by decide +kernel
theorem d_Mo_table_23 : decode b_Mo_table 23 = .ok (.getfield 167, 3) := by decide +kernel
theorem d_Mo_table_26 : decode b_Mo_table 26 = .ok (.ifCond .ne 53, 3) := by decide +kernel
theorem d_Mo_table_29 : decode b_Mo_table 29 = .ok (.aload_n 0, 1) := by decide +kernel
theorem d_Mo_table_30 : decode b_Mo_table 30 = .ok (.iload_n 1, 1) := by decide +kernel
theorem d_Mo_table_31 : decode b_Mo_table 31 = .ok (.iconst 1, 1) := by decide +kernel
theorem d_Mo_table_32 : decode b_Mo_table 32 = .ok (.aload_n 0, 1) := by decide +kernel
theorem d_Mo_table_33 : decode b_Mo_table 33 = .ok (.getfield 76, 3) := by decide +kernel
theorem d_Mo_table_36 : decode b_Mo_table 36 = .ok (.aload_n 0, 1) := by decide +kernel
theorem d_Mo_table_37 : decode b_Mo_table 37 = .ok (.getfield 73, 3) := by decide +kernel
theorem d_Mo_table_40 : decode b_Mo_table 40 = .ok (.iload_n 1, 1) := by decide +kernel
theorem d_Mo_table_41 : decode b_Mo_table 41 = .ok (.iaload, 1) := by decide +kernel
theorem d_Mo_table_42 : decode b_Mo_table 42 = .ok (.iload 4, 2) := by decide +kernel
theorem d_Mo_table_44 : decode b_Mo_table 44 = .ok (.iadd, 1) := by decide +kernel
theorem d_Mo_table_45 : decode b_Mo_table 45 = .ok (.iaload, 1) := by decide +kernel
theorem d_Mo_table_46 : decode b_Mo_table 46 = .ok (.aload_n 0, 1) := by decide +kernel
theorem d_Mo_table_47 : decode b_Mo_table 47 = .ok (.getfield 13, 3) := by decide +kernel
theorem d_Mo_table_50 : decode b_Mo_table 50 = .ok (.aload_n 0, 1) := by decide +kernel
theorem d_Mo_table_51 : decode b_Mo_table 51 = .ok (.iload_n 2, 1) := by decide +kernel
theorem d_Mo_table_52 : decode b_Mo_table 52 = .ok (.iload 4, 2) := by decide +kernel
theorem d_Mo_table_54 : decode b_Mo_table 54 = .ok (.invokevirtual 234, 3) := by decide +kernel
theorem d_Mo_table_57 : decode b_Mo_table 57 = .ok (.iaload, 1) := by decide +kernel
theorem d_Mo_table_58 : decode b_Mo_table 58 = .ok (.aload_n 0, 1) := by decide +kernel
theorem d_Mo_table_59 : decode b_Mo_table 59 = .ok (.getfield 16, 3) := by decide +kernel
theorem d_Mo_table_62 : decode b_Mo_table 62 = .ok (.aload_n 0, 1) := by decide +kernel
theorem d_Mo_table_63 : decode b_Mo_table 63 = .ok (.iload_n 2, 1) := by decide +kernel
theorem d_Mo_table_64 : decode b_Mo_table 64 = .ok (.iload 4, 2) := by decide +kernel
theorem d_Mo_table_66 : decode b_Mo_table 66 = .ok (.invokevirtual 234, 3) := by decide +kernel
theorem d_Mo_table_69 : decode b_Mo_table 69 = .ok (.iaload, 1) := by decide +kernel
theorem d_Mo_table_70 : decode b_Mo_table 70 = .ok (.invokevirtual 254, 3) := by decide +kernel
theorem d_Mo_table_73 : decode b_Mo_table 73 = .ok (.iinc 4 1, 3) := by decide +kernel
theorem d_Mo_table_76 : decode b_Mo_table 76 = .ok (.goto (-60), 3) := by decide +kernel
theorem d_Mo_table_79 : decode b_Mo_table 79 = .ok (.aload_n 0, 1) := by decide +kernel
theorem d_Mo_table_80 : decode b_Mo_table 80 = .ok (.iload_n 1, 1) := by decide +kernel
theorem d_Mo_table_81 : decode b_Mo_table 81 = .ok (.invokevirtual 225, 3) := by decide +kernel
theorem d_Mo_table_84 : decode b_Mo_table 84 = .ok (.ifCond .eq 28, 3) := by decide +kernel
theorem d_Mo_table_87 : decode b_Mo_table 87 = .ok (.aload_n 0, 1) := by decide +kernel
theorem d_Mo_table_88 : decode b_Mo_table 88 = .ok (.iload_n 1, 1) := by decide +kernel
theorem d_Mo_table_89 : decode b_Mo_table 89 = .ok (.iconst 0, 1) := by decide +kernel
theorem d_Mo_table_90 : decode b_Mo_table 90 = .ok (.aload_n 0, 1) := by decide +kernel
theorem d_Mo_table_91 : decode b_Mo_table 91 = .ok (.getfield 76, 3) := by decide +kernel
theorem d_Mo_table_94 : decode b_Mo_table 94 = .ok (.aload_n 0, 1) := by decide +kernel
theorem d_Mo_table_95 : decode b_Mo_table 95 = .ok (.getfield 73, 3) := by decide +kernel
theorem d_Mo_table_98 : decode b_Mo_table 98 = .ok (.iload_n 1, 1) := by decide +kernel
theorem d_Mo_table_99 : decode b_Mo_table 99 = .ok (.iaload, 1) := by decide +kernel
theorem d_Mo_table_100 : decode b_Mo_table 100 = .ok (.iload_n 3, 1) := by decide +kernel
theorem d_Mo_table_101 : decode b_Mo_table 101 = .ok (.iadd, 1) := by decide +kernel
theorem d_Mo_table_102 : decode b_Mo_table 102 = .ok (.iaload, 1) := by decide +kernel
theorem d_Mo_table_103 : decode b_Mo_table 103 = .ok (.ldc_w 258, 3) := by decide +kernel
theorem d_Mo_table_106 : decode b_Mo_table 106 = .ok (.ldc_w 259, 3) := by decide +kernel
theorem d_Mo_table_109 : decode b_Mo_table 109 = .ok (.invokevirtual 254, 3) := by decide +kernel
theorem d_Mo_table_112 : decode b_Mo_table 112 = .ok (.return_, 1) := by decide +kernel
theorem d_Mo_separates_0 : decode b_Mo_separates 0 = .ok (.aload_n 0, 1) := by decide +kernel
theorem d_Mo_separates_1 : decode b_Mo_separates 1 = .ok (.getfield 73, 3) := by decide +kernel
theorem d_Mo_separates_4 : decode b_Mo_separates 4 = .ok (.iload_n 1, 1) := by decide +kernel
theorem d_Mo_separates_5 : decode b_Mo_separates 5 = .ok (.aload_n 0, 1) := by decide +kernel
theorem d_Mo_separates_6 : decode b_Mo_separates 6 = .ok (.getfield 238, 3) := by decide +kernel
theorem d_Mo_separates_9 : decode b_Mo_separates 9 = .ok (.iastore, 1) := by decide +kernel
theorem d_Mo_separates_10 : decode b_Mo_separates 10 = .ok (.aload_n 0, 1) := by decide +kernel
theorem d_Mo_separates_11 : decode b_Mo_separates 11 = .ok (.getfield 82, 3) := by decide +kernel
theorem d_Mo_separates_14 : decode b_Mo_separates 14 = .ok (.aload_n 0, 1) := by decide +kernel
theorem d_Mo_separates_15 : decode b_Mo_separates 15 = .ok (.getfield 173, 3) := by decide +kernel
theorem d_Mo_separates_18 : decode b_Mo_separates 18 = .ok (.aload_n 0, 1) := by decide +kernel
theorem d_Mo_separates_19 : decode b_Mo_separates 19 = .ok (.getfield 58, 3) := by decide +kernel
theorem d_Mo_separates_22 : decode b_Mo_separates 22 = .ok (.iload_n 1, 1) := by decide +kernel
theorem d_Mo_separates_23 : decode b_Mo_separates 23 = .ok (.iaload, 1) := by decide +kernel
theorem d_Mo_separates_24 : decode b_Mo_separates 24 = .ok (.iastore, 1) := by decide +kernel
theorem d_Mo_separates_25 : decode b_Mo_separates 25 = .ok (.aload_n 0, 1) := by decide +kernel
theorem d_Mo_separates_26 : decode b_Mo_separates 26 = .ok (.getfield 85, 3) := by decide +kernel
theorem d_Mo_separates_29 : decode b_Mo_separates 29 = .ok (.aload_n 0, 1) := by decide +kernel
theorem d_Mo_separates_30 : decode b_Mo_separates 30 = .ok (.getfield 173, 3) := by decide +kernel
theorem d_Mo_separates_33 : decode b_Mo_separates 33 = .ok (.aload_n 0, 1) := by decide +kernel
theorem d_Mo_separates_34 : decode b_Mo_separates 34 = .ok (.getfield 61, 3) := by decide +kernel
theorem d_Mo_separates_37 : decode b_Mo_separates 37 = .ok (.iload_n 1, 1) := by decide +kernel
theorem d_Mo_separates_38 : decode b_Mo_separates 38 = .ok (.iaload, 1) := by decide +kernel
theorem d_Mo_separates_39 : decode b_Mo_separates 39 = .ok (.iastore, 1) := by decide +kernel
theorem d_Mo_separates_40 : decode b_Mo_separates 40 = .ok (.aload_n 0, 1) := by decide +kernel
theorem d_Mo_separates_41 : decode b_Mo_separates 41 = .ok (.getfield 94, 3) := by decide +kernel
theorem d_Mo_separates_44 : decode b_Mo_separates 44 = .ok (.aload_n 0, 1) := by decide +kernel
theorem d_Mo_separates_45 : decode b_Mo_separates 45 = .ok (.getfield 173, 3) := by decide +kernel
theorem d_Mo_separates_48 : decode b_Mo_separates 48 = .ok (.bipush 100, 2) := by decide +kernel
theorem d_Mo_separates_50 : decode b_Mo_separates 50 = .ok (.iastore, 1) := by decide +kernel
theorem d_Mo_separates_51 : decode b_Mo_separates 51 = .ok (.aload_n 0, 1) := by decide +kernel
theorem d_Mo_separates_52 : decode b_Mo_separates 52 = .ok (.getfield 97, 3) := by decide +kernel
theorem d_Mo_separates_55 : decode b_Mo_separates 55 = .ok (.aload_n 0, 1) := by decide +kernel
theorem d_Mo_separates_56 : decode b_Mo_separates 56 = .ok (.getfield 173, 3) := by decide +kernel
theorem d_Mo_separates_59 : decode b_Mo_separates 59 = .ok (.iload_n 1, 1) := by decide +kernel
theorem d_Mo_separates_60 : decode b_Mo_separates 60 = .ok (.iastore, 1) := by decide +kernel
theorem d_Mo_separates_61 : decode b_Mo_separates 61 = .ok (.aload_n 0, 1) := by decide +kernel
theorem d_Mo_separates_62 : decode b_Mo_separates 62 = .ok (.getfield 100, 3) := by decide +kernel
theorem d_Mo_separates_65 : decode b_Mo_separates 65 = .ok (.aload_n 0, 1) := by decide +kernel
theorem d_Mo_separates_66 : decode b_Mo_separates 66 = .ok (.getfield 173, 3) := by decide +kernel
theorem d_Mo_separates_69 : decode b_Mo_separates 69 = .ok (.iconst 0, 1) := by decide +kernel
theorem d_Mo_separates_70 : decode b_Mo_separates 70 = .ok (.iastore, 1) := by decide +kernel
theorem d_Mo_separates_71 : decode b_Mo_separates 71 = .ok (.aload_n 0, 1) := by decide +kernel
theorem d_Mo_separates_72 : decode b_Mo_separates 72 = .ok (.dup, 1) := by decide +kernel
theorem d_Mo_separates_73 : decode b_Mo_separates 73 = .ok (.getfield 173, 3) := by decide +kernel
theorem d_Mo_separates_76 : decode b_Mo_separates 76 = .ok (.iconst 1, 1) := by decide +kernel
theorem d_Mo_separates_77 : decode b_Mo_separates 77 = .ok (.iadd, 1) := by decide +kernel
theorem d_Mo_separates_78 : decode b_Mo_separates 78 = .ok (.putfield 173, 3) := by decide +kernel
theorem d_Mo_separates_81 : decode b_Mo_separates 81 = .ok (.return_, 1) := by decide +kernel
theorem d_Mo_put_0 : decode b_Mo_put 0 = .ok (.aload_n 0, 1) := by decide +kernel
theorem d_Mo_put_1 : decode b_Mo_put 1 = .ok (.getfield 164, 3) := by decide +kernel
theorem d_Mo_put_4 : decode b_Mo_put 4 = .ok (.sipush 1000, 3) := by decide +kernel
theorem d_Mo_put_7 : decode b_Mo_put 7 = .ok (.if_icmp .eq 10, 3) := by decide +kernel
theorem d_Mo_put_10 : decode b_Mo_put 10 = .ok (.aload_n 0, 1) := by decide +kernel
theorem d_Mo_put_11 : decode b_Mo_put 11 = .ok (.getfield 167, 3) := by decide +kernel
theorem d_Mo_put_14 : decode b_Mo_put 14 = .ok (.ifCond .eq 9, 3) := by decide +kernel
theorem d_Mo_put_17 : decode b_Mo_put 17 = .ok (.aload_n 0, 1) := by decide +kernel
theorem d_Mo_put_18 : decode b_Mo_put 18 = .ok (.iconst 1, 1) := by decide +kernel
theorem d_Mo_put_19 : decode b_Mo_put 19 = .ok (.putfield 167, 3) := by decide +kernel
theorem d_Mo_put_22 : decode b_Mo_put 22 = .ok (.return_, 1) := by decide +kernel
theorem d_Mo_put_23 : decode b_Mo_put 23 = .ok (.aload_n 0, 1) := by decide +kernel
theorem d_Mo_put_24 : decode b_Mo_put 24 = .ok (.getfield 31, 3) := by decide +kernel
theorem d_Mo_put_27 : decode b_Mo_put 27 = .ok (.aload_n 0, 1) := by decide +kernel
theorem d_Mo_put_28 : decode b_Mo_put 28 = .ok (.getfield 164, 3) := by decide +kernel
theorem d_Mo_put_31 : decode b_Mo_put 31 = .ok (.iload_n 1, 1) := by decide +kernel
theorem d_Mo_put_32 : decode b_Mo_put 32 = .ok (.iastore, 1) := by decide +kernel
theorem d_Mo_put_33 : decode b_Mo_put 33 = .ok (.aload_n 0, 1) := by decide +kernel
theorem d_Mo_put_34 : decode b_Mo_put 34 = .ok (.getfield 34, 3) := by decide +kernel
theorem d_Mo_put_37 : decode b_Mo_put 37 = .ok (.aload_n 0, 1) := by decide +kernel
theorem d_Mo_put_38 : decode b_Mo_put 38 = .ok (.getfield 164, 3) := by decide +kernel
theorem d_Mo_put_41 : decode b_Mo_put 41 = .ok (.iload_n 2, 1) := by decide +kernel
theorem d_Mo_put_42 : decode b_Mo_put 42 = .ok (.iastore, 1) := by decide +kernel
theorem d_Mo_put_43 : decode b_Mo_put 43 = .ok (.aload_n 0, 1) := by decide +kernel
theorem d_Mo_put_44 : decode b_Mo_put 44 = .ok (.getfield 37, 3) := by decide +kernel
theorem d_Mo_put_47 : decode b_Mo_put 47 = .ok (.aload_n 0, 1) := by decide +kernel
theorem d_Mo_put_48 : decode b_Mo_put 48 = .ok (.getfield 164, 3) := by decide +kernel
theorem d_Mo_put_51 : decode b_Mo_put 51 = .ok (.iload_n 3, 1) := by decide +kernel
theorem d_Mo_put_52 : decode b_Mo_put 52 = .ok (.iastore, 1) := by decide +kernel
theorem d_Mo_put_53 : decode b_Mo_put 53 = .ok (.aload_n 0, 1) := by decide +kernel
theorem d_Mo_put_54 : decode b_Mo_put 54 = .ok (.dup, 1) := by decide +kernel
theorem d_Mo_put_55 : decode b_Mo_put 55 = .ok (.getfield 164, 3) := by decide +kernel
theorem d_Mo_put_58 : decode b_Mo_put 58 = .ok (.iconst 1, 1) := by decide +kernel
theorem d_Mo_put_59 : decode b_Mo_put 59 = .ok (.iadd, 1) := by decide +kernel
theorem d_Mo_put_60 : decode b_Mo_put 60 = .ok (.putfield 164, 3) := by decide +kernel
theorem d_Mo_put_63 : decode b_Mo_put 63 = .ok (.return_, 1) := by decide +kernel
theorem d_Mo_begin_0 : decode b_Mo_begin 0 = .ok (.aload_n 0, 1) := by decide +kernel
theorem d_Mo_begin_1 : decode b_Mo_begin 1 = .ok (.getfield 170, 3) := by decide +kernel
theorem d_Mo_begin_4 : decode b_Mo_begin 4 = .ok (.sipush 2000, 3) := by decide +kernel
theorem d_Mo_begin_7 : decode b_Mo_begin 7 = .ok (.if_icmp .eq 10, 3) := by decide +kernel
theorem d_Mo_begin_10 : decode b_Mo_begin 10 = .ok (.aload_n 0, 1) := by decide +kernel
theorem d_Mo_begin_11 : decode b_Mo_begin 11 = .ok (.getfield 167, 3) := by decide +kernel
theorem d_Mo_begin_14 : decode b_Mo_begin 14 = .ok (.ifCond .eq 9, 3) := by decide +kernel
theorem d_Mo_begin_17 : decode b_Mo_begin 17 = .ok (.aload_n 0, 1) := by decide +kernel
theorem d_Mo_begin_18 : decode b_Mo_begin 18 = .ok (.iconst 1, 1) := by decide +kernel
theorem d_Mo_begin_19 : decode b_Mo_begin 19 = .ok (.putfield 167, 3) := by decide +kernel
theorem d_Mo_begin_22 : decode b_Mo_begin 22 = .ok (.return_, 1) := by decide +kernel
theorem d_Mo_begin_23 : decode b_Mo_begin 23 = .ok (.aload_n 0, 1) := by decide +kernel
theorem d_Mo_begin_24 : decode b_Mo_begin 24 = .ok (.dup, 1) := by decide +kernel
theorem d_Mo_begin_25 : decode b_Mo_begin 25 = .ok (.getfield 170, 3) := by decide +kernel
theorem d_Mo_begin_28 : decode b_Mo_begin 28 = .ok (.iconst 1, 1) := by decide +kernel
theorem d_Mo_begin_29 : decode b_Mo_begin 29 = .ok (.iadd, 1) := by decide +kernel
theorem d_Mo_begin_30 : decode b_Mo_begin 30 = .ok (.putfield 170, 3) := by decide +kernel
theorem d_Mo_begin_33 : decode b_Mo_begin 33 = .ok (.aload_n 0, 1) := by decide +kernel
theorem d_Mo_begin_34 : decode b_Mo_begin 34 = .ok (.getfield 82, 3) := by decide +kernel
theorem d_Mo_begin_37 : decode b_Mo_begin 37 = .ok (.aload_n 0, 1) := by decide +kernel
theorem d_Mo_begin_38 : decode b_Mo_begin 38 = .ok (.getfield 173, 3) := by decide +kernel
theorem d_Mo_begin_41 : decode b_Mo_begin 41 = .ok (.iload_n 1, 1) := by decide +kernel
theorem d_Mo_begin_42 : decode b_Mo_begin 42 = .ok (.iastore, 1) := by decide +kernel
theorem d_Mo_begin_43 : decode b_Mo_begin 43 = .ok (.aload_n 0, 1) := by decide +kernel
theorem d_Mo_begin_44 : decode b_Mo_begin 44 = .ok (.getfield 85, 3) := by decide +kernel
theorem d_Mo_begin_47 : decode b_Mo_begin 47 = .ok (.aload_n 0, 1) := by decide +kernel
theorem d_Mo_begin_48 : decode b_Mo_begin 48 = .ok (.getfield 173, 3) := by decide +kernel
theorem d_Mo_begin_51 : decode b_Mo_begin 51 = .ok (.iload_n 2, 1) := by decide +kernel
theorem d_Mo_begin_52 : decode b_Mo_begin 52 = .ok (.iastore, 1) := by decide +kernel
theorem d_Mo_begin_53 : decode b_Mo_begin 53 = .ok (.aload_n 0, 1) := by decide +kernel
theorem d_Mo_begin_54 : decode b_Mo_begin 54 = .ok (.getfield 88, 3) := by decide +kernel
theorem d_Mo_begin_57 : decode b_Mo_begin 57 = .ok (.aload_n 0, 1) := by decide +kernel
theorem d_Mo_begin_58 : decode b_Mo_begin 58 = .ok (.getfield 173, 3) := by decide +kernel
theorem d_Mo_begin_61 : decode b_Mo_begin 61 = .ok (.iload_n 3, 1) := by decide +kernel
theorem d_Mo_begin_62 : decode b_Mo_begin 62 = .ok (.iastore, 1) := by decide +kernel
theorem d_Mo_begin_63 : decode b_Mo_begin 63 = .ok (.aload_n 0, 1) := by decide +kernel
theorem d_Mo_begin_64 : decode b_Mo_begin 64 = .ok (.getfield 91, 3) := by decide +kernel
theorem d_Mo_begin_67 : decode b_Mo_begin 67 = .ok (.aload_n 0, 1) := by decide +kernel
theorem d_Mo_begin_68 : decode b_Mo_begin 68 = .ok (.getfield 173, 3) := by decide +kernel
theorem d_Mo_begin_71 : decode b_Mo_begin 71 = .ok (.iload 4, 2) := by decide +kernel
theorem d_Mo_begin_73 : decode b_Mo_begin 73 = .ok (.iastore, 1) := by decide +kernel
theorem d_Mo_begin_74 : decode b_Mo_begin 74 = .ok (.aload_n 0, 1) := by decide +kernel
theorem d_Mo_begin_75 : decode b_Mo_begin 75 = .ok (.getfield 94, 3) := by decide +kernel
theorem d_Mo_begin_78 : decode b_Mo_begin 78 = .ok (.aload_n 0, 1) := by decide +kernel
theorem d_Mo_begin_79 : decode b_Mo_begin 79 = .ok (.getfield 173, 3) := by decide +kernel
theorem d_Mo_begin_82 : decode b_Mo_begin 82 = .ok (.iconst 0, 1) := by decide +kernel
theorem d_Mo_begin_83 : decode b_Mo_begin 83 = .ok (.iastore, 1) := by decide +kernel
theorem d_Mo_begin_84 : decode b_Mo_begin 84 = .ok (.aload_n 0, 1) := by decide +kernel
theorem d_Mo_begin_85 : decode b_Mo_begin 85 = .ok (.getfield 97, 3) := by decide +kernel
theorem d_Mo_begin_88 : decode b_Mo_begin 88 = .ok (.aload_n 0, 1) := by decide +kernel
theorem d_Mo_begin_89 : decode b_Mo_begin 89 = .ok (.getfield 173, 3) := by decide +kernel
theorem d_Mo_begin_92 : decode b_Mo_begin 92 = .ok (.iconst 0, 1) := by decide +kernel
theorem d_Mo_begin_93 : decode b_Mo_begin 93 = .ok (.iastore, 1) := by decide +kernel
theorem d_Mo_begin_94 : decode b_Mo_begin 94 = .ok (.aload_n 0, 1) := by decide +kernel
theorem d_Mo_begin_95 : decode b_Mo_begin 95 = .ok (.getfield 100, 3) := by decide +kernel
theorem d_Mo_begin_98 : decode b_Mo_begin 98 = .ok (.aload_n 0, 1) := by decide +kernel
theorem d_Mo_begin_99 : decode b_Mo_begin 99 = .ok (.getfield 173, 3) := by decide +kernel
theorem d_Mo_begin_102 : decode b_Mo_begin 102 = .ok (.iconst 0, 1) := by decide +kernel
theorem d_Mo_begin_103 : decode b_Mo_begin 103 = .ok (.iastore, 1) := by decide +kernel
theorem d_Mo_begin_104 : decode b_Mo_begin 104 = .ok (.aload_n 0, 1) := by decide +kernel
theorem d_Mo_begin_105 : decode b_Mo_begin 105 = .ok (.dup, 1) := by decide +kernel
theorem d_Mo_begin_106 : decode b_Mo_begin 106 = .ok (.getfield 173, 3) := by decide +kernel
theorem d_Mo_begin_109 : decode b_Mo_begin 109 = .ok (.iconst 1, 1) := by decide +kernel
theorem d_Mo_begin_110 : decode b_Mo_begin 110 = .ok (.iadd, 1) := by decide +kernel
theorem d_Mo_begin_111 : decode b_Mo_begin 111 = .ok (.putfield 173, 3) := by decide +kernel
theorem d_Mo_begin_114 : decode b_Mo_begin 114 = .ok (.return_, 1) := by decide +kernel
theorem d_Mo_last_0 : decode b_Mo_last 0 = .ok (.aload_n 0, 1) := by decide +kernel
theorem d_Mo_last_1 : decode b_Mo_last 1 = .ok (.aload_n 0, 1) := by decide +kernel
theorem d_Mo_last_2 : decode b_Mo_last 2 = .ok (.getfield 19, 3) := by decide +kernel
theorem d_Mo_last_5 : decode b_Mo_last 5 = .ok (.aload_n 0, 1) := by decide +kernel
theorem d_Mo_last_6 : decode b_Mo_last 6 = .ok (.getfield 58, 3) := by decide +kernel
theorem d_Mo_last_9 : decode b_Mo_last 9 = .ok (.iload_n 1, 1) := by decide +kernel
theorem d_Mo_last_10 : decode b_Mo_last 10 = .ok (.iaload, 1) := by decide +kernel
theorem d_Mo_last_11 : decode b_Mo_last 11 = .ok (.iaload, 1) := by decide +kernel
theorem d_Mo_last_12 : decode b_Mo_last 12 = .ok (.aload_n 0, 1) := by decide +kernel
theorem d_Mo_last_13 : decode b_Mo_last 13 = .ok (.getfield 61, 3) := by decide +kernel
theorem d_Mo_last_16 : decode b_Mo_last 16 = .ok (.iload_n 1, 1) := by decide +kernel
theorem d_Mo_last_17 : decode b_Mo_last 17 = .ok (.iaload, 1) := by decide +kernel
theorem d_Mo_last_18 : decode b_Mo_last 18 = .ok (.aload_n 0, 1) := by decide +kernel
theorem d_Mo_last_19 : decode b_Mo_last 19 = .ok (.getfield 64, 3) := by decide +kernel
theorem d_Mo_last_22 : decode b_Mo_last 22 = .ok (.iload_n 1, 1) := by decide +kernel
theorem d_Mo_last_23 : decode b_Mo_last 23 = .ok (.iaload, 1) := by decide +kernel
theorem d_Mo_last_24 : decode b_Mo_last 24 = .ok (.iconst 1, 1) := by decide +kernel
theorem d_Mo_last_25 : decode b_Mo_last 25 = .ok (.iadd, 1) := by decide +kernel
theorem d_Mo_last_26 : decode b_Mo_last 26 = .ok (.aload_n 0, 1) := by decide +kernel
theorem d_Mo_last_27 : decode b_Mo_last 27 = .ok (.getfield 67, 3) := by decide +kernel
theorem d_Mo_last_30 : decode b_Mo_last 30 = .ok (.iload_n 1, 1) := by decide +kernel
theorem d_Mo_last_31 : decode b_Mo_last 31 = .ok (.iaload, 1) := by decide +kernel
theorem d_Mo_last_32 : decode b_Mo_last 32 = .ok (.iconst 1, 1) := by decide +kernel
theorem d_Mo_last_33 : decode b_Mo_last 33 = .ok (.iadd, 1) := by decide +kernel
theorem d_Mo_last_34 : decode b_Mo_last 34 = .ok (.invokevirtual 176, 3) := by decide +kernel
theorem d_Mo_last_37 : decode b_Mo_last 37 = .ok (.return_, 1) := by decide +kernel
theorem d_Mo_loop_0 : decode b_Mo_loop 0 = .ok (.iload_n 1, 1) := by decide +kernel
theorem d_Mo_loop_1 : decode b_Mo_loop 1 = .ok (.istore_n 2, 1) := by decide +kernel
theorem d_Mo_loop_2 : decode b_Mo_loop 2 = .ok (.iload_n 2, 1) := by decide +kernel
theorem d_Mo_loop_3 : decode b_Mo_loop 3 = .ok (.iconst (-1), 1) := by decide +kernel
theorem d_Mo_loop_4 : decode b_Mo_loop 4 = .ok (.if_icmp .eq 33, 3) := by decide +kernel
theorem d_Mo_loop_7 : decode b_Mo_loop 7 = .ok (.aload_n 0, 1) := by decide +kernel
theorem d_Mo_loop_8 : decode b_Mo_loop 8 = .ok (.getfield 7, 3) := by decide +kernel
theorem d_Mo_loop_11 : decode b_Mo_loop 11 = .ok (.aload_n 0, 1) := by decide +kernel
theorem d_Mo_loop_12 : decode b_Mo_loop 12 = .ok (.getfield 58, 3) := by decide +kernel
theorem d_Mo_loop_15 : decode b_Mo_loop 15 = .ok (.iload_n 2, 1) := by decide +kernel
theorem d_Mo_loop_16 : decode b_Mo_loop 16 = .ok (.iconst 2, 1) := by decide +kernel
theorem d_Mo_loop_17 : decode b_Mo_loop 17 = .ok (.idiv, 1) := by decide +kernel
theorem d_Mo_loop_18 : decode b_Mo_loop 18 = .ok (.iaload, 1) := by decide +kernel
theorem d_Mo_loop_19 : decode b_Mo_loop 19 = .ok (.iaload, 1) := by decide +kernel
theorem d_Mo_loop_20 : decode b_Mo_loop 20 = .ok (.bipush 13, 2) := by decide +kernel
theorem d_Mo_loop_22 : decode b_Mo_loop 22 = .ok (.if_icmp .eq 15, 3) := by decide +kernel
theorem d_Mo_loop_25 : decode b_Mo_loop 25 = .ok (.aload_n 0, 1) := by decide +kernel
theorem d_Mo_loop_26 : decode b_Mo_loop 26 = .ok (.getfield 61, 3) := by decide +kernel
theorem d_Mo_loop_29 : decode b_Mo_loop 29 = .ok (.iload_n 2, 1) := by decide +kernel
theorem d_Mo_loop_30 : decode b_Mo_loop 30 = .ok (.iconst 2, 1) := by decide +kernel
theorem d_Mo_loop_31 : decode b_Mo_loop 31 = .ok (.idiv, 1) := by decide +kernel
theorem d_Mo_loop_32 : decode b_Mo_loop 32 = .ok (.iaload, 1) := by decide +kernel
theorem d_Mo_loop_33 : decode b_Mo_loop 33 = .ok (.istore_n 2, 1) := by decide +kernel
theorem d_Mo_loop_34 : decode b_Mo_loop 34 = .ok (.goto (-32), 3) := by decide +kernel
theorem d_Mo_loop_37 : decode b_Mo_loop 37 = .ok (.iload_n 2, 1) := by decide +kernel
theorem d_Mo_loop_38 : decode b_Mo_loop 38 = .ok (.iconst (-1), 1) := by decide +kernel
theorem d_Mo_loop_39 : decode b_Mo_loop 39 = .ok (.if_icmp .ne 7, 3) := by decide +kernel
theorem d_Mo_loop_42 : decode b_Mo_loop 42 = .ok (.iconst (-1), 1) := by decide +kernel
theorem d_Mo_loop_43 : decode b_Mo_loop 43 = .ok (.goto 6, 3) := by decide +kernel
theorem d_Mo_loop_46 : decode b_Mo_loop 46 = .ok (.iload_n 2, 1) := by decide +kernel
theorem d_Mo_loop_47 : decode b_Mo_loop 47 = .ok (.iconst 2, 1) := by decide +kernel
theorem d_Mo_loop_48 : decode b_Mo_loop 48 = .ok (.idiv, 1) := by decide +kernel
theorem d_Mo_loop_49 : decode b_Mo_loop 49 = .ok (.ireturn, 1) := by decide +kernel
theorem d_Mo_leaves_0 : decode b_Mo_leaves 0 = .ok (.aload_n 0, 1) := by decide +kernel
theorem d_Mo_leaves_1 : decode b_Mo_leaves 1 = .ok (.getfield 94, 3) := by decide +kernel
theorem d_Mo_leaves_4 : decode b_Mo_leaves 4 = .ok (.iload_n 1, 1) := by decide +kernel
theorem d_Mo_leaves_5 : decode b_Mo_leaves 5 = .ok (.iaload, 1) := by decide +kernel
theorem d_Mo_leaves_6 : decode b_Mo_leaves 6 = .ok (.iconst 1, 1) := by decide +kernel
theorem d_Mo_leaves_7 : decode b_Mo_leaves 7 = .ok (.if_icmp .ne 15, 3) := by decide +kernel
theorem d_Mo_leaves_10 : decode b_Mo_leaves 10 = .ok (.aload_n 0, 1) := by decide +kernel
theorem d_Mo_leaves_11 : decode b_Mo_leaves 11 = .ok (.getfield 100, 3) := by decide +kernel
theorem d_Mo_leaves_14 : decode b_Mo_leaves 14 = .ok (.iload_n 1, 1) := by decide +kernel
theorem d_Mo_leaves_15 : decode b_Mo_leaves 15 = .ok (.aload_n 0, 1) := by decide +kernel
theorem d_Mo_leaves_16 : decode b_Mo_leaves 16 = .ok (.getfield 85, 3) := by decide +kernel
theorem d_Mo_leaves_19 : decode b_Mo_leaves 19 = .ok (.iload_n 1, 1) := by decide +kernel
theorem d_Mo_leaves_20 : decode b_Mo_leaves 20 = .ok (.iaload, 1) := by decide +kernel
theorem d_Mo_leaves_21 : decode b_Mo_leaves 21 = .ok (.iastore, 1) := by decide +kernel
theorem d_Mo_leaves_22 : decode b_Mo_leaves 22 = .ok (.aload_n 0, 1) := by decide +kernel
theorem d_Mo_leaves_23 : decode b_Mo_leaves 23 = .ok (.aload_n 0, 1) := by decide +kernel
theorem d_Mo_leaves_24 : decode b_Mo_leaves 24 = .ok (.getfield 85, 3) := by decide +kernel
theorem d_Mo_leaves_27 : decode b_Mo_leaves 27 = .ok (.iload_n 1, 1) := by decide +kernel
theorem d_Mo_leaves_28 : decode b_Mo_leaves 28 = .ok (.iaload, 1) := by decide +kernel
theorem d_Mo_leaves_29 : decode b_Mo_leaves 29 = .ok (.invokevirtual 219, 3) := by decide +kernel
theorem d_Mo_leaves_32 : decode b_Mo_leaves 32 = .ok (.istore_n 3, 1) := by decide +kernel
theorem d_Mo_leaves_33 : decode b_Mo_leaves 33 = .ok (.iload_n 2, 1) := by decide +kernel
theorem d_Mo_leaves_34 : decode b_Mo_leaves 34 = .ok (.bipush 17, 2) := by decide +kernel
theorem d_Mo_leaves_36 : decode b_Mo_leaves 36 = .ok (.if_icmp .ne 14, 3) := by decide +kernel
theorem d_Mo_leaves_39 : decode b_Mo_leaves 39 = .ok (.iload_n 3, 1) := by decide +kernel
theorem d_Mo_leaves_40 : decode b_Mo_leaves 40 = .ok (.iconst (-1), 1) := by decide +kernel
theorem d_Mo_leaves_41 : decode b_Mo_leaves 41 = .ok (.if_icmp .ne 9, 3) := by decide +kernel
theorem d_Mo_leaves_44 : decode b_Mo_leaves 44 = .ok (.aload_n 0, 1) := by decide +kernel
theorem d_Mo_leaves_45 : decode b_Mo_leaves 45 = .ok (.iconst 1, 1) := by decide +kernel
theorem d_Mo_leaves_46 : decode b_Mo_leaves 46 = .ok (.putfield 222, 3) := by decide +kernel
theorem d_Mo_leaves_49 : decode b_Mo_leaves 49 = .ok (.return_, 1) := by decide +kernel
theorem d_Mo_leaves_50 : decode b_Mo_leaves 50 = .ok (.aload_n 0, 1) := by decide +kernel
theorem d_Mo_leaves_51 : decode b_Mo_leaves 51 = .ok (.getfield 100, 3) := by decide +kernel
theorem d_Mo_leaves_54 : decode b_Mo_leaves 54 = .ok (.iload_n 1, 1) := by decide +kernel
theorem d_Mo_leaves_55 : decode b_Mo_leaves 55 = .ok (.iaload, 1) := by decide +kernel
theorem d_Mo_leaves_56 : decode b_Mo_leaves 56 = .ok (.istore 4, 2) := by decide +kernel
theorem d_Mo_leaves_58 : decode b_Mo_leaves 58 = .ok (.iload 4, 2) := by decide +kernel
theorem d_Mo_leaves_60 : decode b_Mo_leaves 60 = .ok (.iconst (-1), 1) := by decide +kernel
theorem d_Mo_leaves_61 : decode b_Mo_leaves 61 = .ok (.if_icmp .eq 42, 3) := by decide +kernel
theorem d_Mo_leaves_64 : decode b_Mo_leaves 64 = .ok (.iload_n 2, 1) := by decide +kernel
theorem d_Mo_leaves_65 : decode b_Mo_leaves 65 = .ok (.bipush 17, 2) := by decide +kernel
theorem d_Mo_leaves_67 : decode b_Mo_leaves 67 = .ok (.if_icmp .ne 11, 3) := by decide +kernel
theorem d_Mo_leaves_70 : decode b_Mo_leaves 70 = .ok (.iload 4, 2) := by decide +kernel
theorem d_Mo_leaves_72 : decode b_Mo_leaves 72 = .ok (.iconst 2, 1) := by decide +kernel
theorem d_Mo_leaves_73 : decode b_Mo_leaves 73 = .ok (.idiv, 1) := by decide +kernel
theorem d_Mo_leaves_74 : decode b_Mo_leaves 74 = .ok (.iload_n 3, 1) := by decide +kernel
theorem d_Mo_leaves_75 : decode b_Mo_leaves 75 = .ok (.if_icmp .eq 28, 3) := by decide +kernel
theorem d_Mo_leaves_78 : decode b_Mo_leaves 78 = .ok (.aload_n 0, 1) := by decide +kernel
theorem d_Mo_leaves_79 : decode b_Mo_leaves 79 = .ok (.iload 4, 2) := by decide +kernel
theorem d_Mo_leaves_81 : decode b_Mo_leaves 81 = .ok (.iconst 2, 1) := by decide +kernel
theorem d_Mo_leaves_82 : decode b_Mo_leaves 82 = .ok (.idiv, 1) := by decide +kernel
theorem d_Mo_leaves_83 : decode b_Mo_leaves 83 = .ok (.invokevirtual 225, 3) := by decide +kernel
theorem d_Mo_leaves_86 : decode b_Mo_leaves 86 = .ok (.ifCond .ne 17, 3) := by decide +kernel
theorem d_Mo_leaves_89 : decode b_Mo_leaves 89 = .ok (.aload_n 0, 1) := by decide +kernel
theorem d_Mo_leaves_90 : decode b_Mo_leaves 90 = .ok (.getfield 61, 3) := by decide +kernel
theorem d_Mo_leaves_93 : decode b_Mo_leaves 93 = .ok (.iload 4, 2) := by decide +kernel
theorem d_Mo_leaves_95 : decode b_Mo_leaves 95 = .ok (.iconst 2, 1) := by decide +kernel
theorem d_Mo_leaves_96 : decode b_Mo_leaves 96 = .ok (.idiv, 1) := by decide +kernel
theorem d_Mo_leaves_97 : decode b_Mo_leaves 97 = .ok (.iaload, 1) := by decide +kernel
theorem d_Mo_leaves_98 : decode b_Mo_leaves 98 = .ok (.istore 4, 2) := by decide +kernel
theorem d_Mo_leaves_100 : decode b_Mo_leaves 100 = .ok (.goto (-42), 3) := by decide +kernel
theorem d_Mo_leaves_103 : decode b_Mo_leaves 103 = .ok (.iload 4, 2) := by decide +kernel
theorem d_Mo_leaves_105 : decode b_Mo_leaves 105 = .ok (.iconst (-1), 1) := by decide +kernel
theorem d_Mo_leaves_106 : decode b_Mo_leaves 106 = .ok (.if_icmp .eq 48, 3) := by decide +kernel
theorem d_Mo_leaves_109 : decode b_Mo_leaves 109 = .ok (.aload_n 0, 1) := by decide +kernel
theorem d_Mo_leaves_110 : decode b_Mo_leaves 110 = .ok (.getfield 7, 3) := by decide +kernel
theorem d_Mo_leaves_113 : decode b_Mo_leaves 113 = .ok (.aload_n 0, 1) := by decide +kernel
theorem d_Mo_leaves_114 : decode b_Mo_leaves 114 = .ok (.getfield 58, 3) := by decide +kernel
theorem d_Mo_leaves_117 : decode b_Mo_leaves 117 = .ok (.iload 4, 2) := by decide +kernel
theorem d_Mo_leaves_119 : decode b_Mo_leaves 119 = .ok (.iconst 2, 1) := by decide +kernel
theorem d_Mo_leaves_120 : decode b_Mo_leaves 120 = .ok (.idiv, 1) := by decide +kernel
theorem d_Mo_leaves_121 : decode b_Mo_leaves 121 = .ok (.iaload, 1) := by decide +kernel
theorem d_Mo_leaves_122 : decode b_Mo_leaves 122 = .ok (.iaload, 1) := by decide +kernel
theorem d_Mo_leaves_123 : decode b_Mo_leaves 123 = .ok (.bipush 18, 2) := by decide +kernel
theorem d_Mo_leaves_125 : decode b_Mo_leaves 125 = .ok (.if_icmp .ne 29, 3) := by decide +kernel
theorem d_Mo_leaves_128 : decode b_Mo_leaves 128 = .ok (.aload_n 0, 1) := by decide +kernel
theorem d_Mo_leaves_129 : decode b_Mo_leaves 129 = .ok (.getfield 100, 3) := by decide +kernel
theorem d_Mo_leaves_132 : decode b_Mo_leaves 132 = .ok (.iload_n 1, 1) := by decide +kernel
theorem d_Mo_leaves_133 : decode b_Mo_leaves 133 = .ok (.aload_n 0, 1) := by decide +kernel
theorem d_Mo_leaves_134 : decode b_Mo_leaves 134 = .ok (.getfield 61, 3) := by decide +kernel
theorem d_Mo_leaves_137 : decode b_Mo_leaves 137 = .ok (.iload 4, 2) := by decide +kernel
theorem d_Mo_leaves_139 : decode b_Mo_leaves 139 = .ok (.iconst 2, 1) := by decide +kernel
theorem d_Mo_leaves_140 : decode b_Mo_leaves 140 = .ok (.idiv, 1) := by decide +kernel
theorem d_Mo_leaves_141 : decode b_Mo_leaves 141 = .ok (.iaload, 1) := by decide +kernel
theorem d_Mo_leaves_142 : decode b_Mo_leaves 142 = .ok (.iastore, 1) := by decide +kernel
theorem d_Mo_leaves_143 : decode b_Mo_leaves 143 = .ok (.aload_n 0, 1) := by decide +kernel
theorem d_Mo_leaves_144 : decode b_Mo_leaves 144 = .ok (.iload 4, 2) := by decide +kernel
theorem d_Mo_leaves_146 : decode b_Mo_leaves 146 = .ok (.iconst 2, 1) := by decide +kernel
theorem d_Mo_leaves_147 : decode b_Mo_leaves 147 = .ok (.idiv, 1) := by decide +kernel
theorem d_Mo_leaves_148 : decode b_Mo_leaves 148 = .ok (.invokevirtual 228, 3) := by decide +kernel
theorem d_Mo_leaves_151 : decode b_Mo_leaves 151 = .ok (.goto 72, 3) := by decide +kernel
theorem d_Mo_leaves_154 : decode b_Mo_leaves 154 = .ok (.iload_n 2, 1) := by decide +kernel
theorem d_Mo_leaves_155 : decode b_Mo_leaves 155 = .ok (.bipush 16, 2) := by decide +kernel
theorem d_Mo_leaves_157 : decode b_Mo_leaves 157 = .ok (.if_icmp .ne 7, 3) := by decide +kernel
theorem d_Mo_leaves_160 : decode b_Mo_leaves 160 = .ok (.iconst 0, 1) := by decide +kernel
theorem d_Mo_leaves_161 : decode b_Mo_leaves 161 = .ok (.goto 25, 3) := by decide +kernel
theorem d_Mo_leaves_164 : decode b_Mo_leaves 164 = .ok (.aload_n 0, 1) := by decide +kernel
theorem d_Mo_leaves_165 : decode b_Mo_leaves 165 = .ok (.getfield 70, 3) := by decide +kernel
theorem d_Mo_leaves_168 : decode b_Mo_leaves 168 = .ok (.iload_n 3, 1) := by decide +kernel
theorem d_Mo_leaves_169 : decode b_Mo_leaves 169 = .ok (.iaload, 1) := by decide +kernel
theorem d_Mo_leaves_170 : decode b_Mo_leaves 170 = .ok (.iconst (-1), 1) := by decide +kernel
theorem d_Mo_leaves_171 : decode b_Mo_leaves 171 = .ok (.if_icmp .ne 9, 3) := by decide +kernel
theorem d_Mo_leaves_174 : decode b_Mo_leaves 174 = .ok (.iconst (-1), 1) := by decide +kernel
theorem d_Mo_leaves_175 : decode b_Mo_leaves 175 = .ok (.iload_n 3, 1) := by decide +kernel
theorem d_Mo_leaves_176 : decode b_Mo_leaves 176 = .ok (.isub, 1) := by decide +kernel
theorem d_Mo_leaves_177 : decode b_Mo_leaves 177 = .ok (.goto 9, 3) := by decide +kernel
theorem d_Mo_leaves_180 : decode b_Mo_leaves 180 = .ok (.aload_n 0, 1) := by decide +kernel
theorem d_Mo_leaves_181 : decode b_Mo_leaves 181 = .ok (.getfield 70, 3) := by decide +kernel
theorem d_Mo_leaves_184 : decode b_Mo_leaves 184 = .ok (.iload_n 3, 1) := by decide +kernel
theorem d_Mo_leaves_185 : decode b_Mo_leaves 185 = .ok (.iaload, 1) := by decide +kernel
theorem d_Mo_leaves_186 : decode b_Mo_leaves 186 = .ok (.istore 5, 2) := by decide +kernel
theorem d_Mo_leaves_188 : decode b_Mo_leaves 188 = .ok (.aload_n 0, 1) := by decide +kernel
theorem d_Mo_leaves_189 : decode b_Mo_leaves 189 = .ok (.iload_n 2, 1) := by decide +kernel
theorem d_Mo_leaves_190 : decode b_Mo_leaves 190 = .ok (.bipush 16, 2) := by decide +kernel
theorem d_Mo_leaves_192 : decode b_Mo_leaves 192 = .ok (.if_icmp .ne 8, 3) := by decide +kernel
theorem d_Mo_leaves_195 : decode b_Mo_leaves 195 = .ok (.bipush 14, 2) := by decide +kernel
theorem d_Mo_leaves_197 : decode b_Mo_leaves 197 = .ok (.goto 5, 3) := by decide +kernel
theorem d_Mo_leaves_200 : decode b_Mo_leaves 200 = .ok (.bipush 11, 2) := by decide +kernel
theorem d_Mo_leaves_202 : decode b_Mo_leaves 202 = .ok (.iload 5, 2) := by decide +kernel
theorem d_Mo_leaves_204 : decode b_Mo_leaves 204 = .ok (.aload_n 0, 1) := by decide +kernel
theorem d_Mo_leaves_205 : decode b_Mo_leaves 205 = .ok (.getfield 100, 3) := by decide +kernel
theorem d_Mo_leaves_208 : decode b_Mo_leaves 208 = .ok (.iload_n 1, 1) := by decide +kernel
theorem d_Mo_leaves_209 : decode b_Mo_leaves 209 = .ok (.iaload, 1) := by decide +kernel
theorem d_Mo_leaves_210 : decode b_Mo_leaves 210 = .ok (.invokevirtual 200, 3) := by decide +kernel
theorem d_Mo_leaves_213 : decode b_Mo_leaves 213 = .ok (.aload_n 0, 1) := by decide +kernel
theorem d_Mo_leaves_214 : decode b_Mo_leaves 214 = .ok (.dup, 1) := by decide +kernel
theorem d_Mo_leaves_215 : decode b_Mo_leaves 215 = .ok (.getfield 173, 3) := by decide +kernel
theorem d_Mo_leaves_218 : decode b_Mo_leaves 218 = .ok (.iconst 1, 1) := by decide +kernel
theorem d_Mo_leaves_219 : decode b_Mo_leaves 219 = .ok (.isub, 1) := by decide +kernel
theorem d_Mo_leaves_220 : decode b_Mo_leaves 220 = .ok (.putfield 173, 3) := by decide +kernel
theorem d_Mo_leaves_223 : decode b_Mo_leaves 223 = .ok (.return_, 1) := by decide +kernel
theorem d_Mo_part_0 : decode b_Mo_part 0 = .ok (.aload_n 0, 1) := by decide +kernel
theorem d_Mo_part_1 : decode b_Mo_part 1 = .ok (.iload_n 2, 1) := by decide +kernel
theorem d_Mo_part_2 : decode b_Mo_part 2 = .ok (.aload_n 0, 1) := by decide +kernel
theorem d_Mo_part_3 : decode b_Mo_part 3 = .ok (.getfield 85, 3) := by decide +kernel
theorem d_Mo_part_6 : decode b_Mo_part 6 = .ok (.iload_n 1, 1) := by decide +kernel
theorem d_Mo_part_7 : decode b_Mo_part 7 = .ok (.iaload, 1) := by decide +kernel
theorem d_Mo_part_8 : decode b_Mo_part 8 = .ok (.aload_n 0, 1) := by decide +kernel
theorem d_Mo_part_9 : decode b_Mo_part 9 = .ok (.getfield 88, 3) := by decide +kernel
theorem d_Mo_part_12 : decode b_Mo_part 12 = .ok (.iload_n 1, 1) := by decide +kernel
theorem d_Mo_part_13 : decode b_Mo_part 13 = .ok (.iaload, 1) := by decide +kernel
theorem d_Mo_part_14 : decode b_Mo_part 14 = .ok (.aload_n 0, 1) := by decide +kernel
theorem d_Mo_part_15 : decode b_Mo_part 15 = .ok (.getfield 91, 3) := by decide +kernel
theorem d_Mo_part_18 : decode b_Mo_part 18 = .ok (.iload_n 1, 1) := by decide +kernel
theorem d_Mo_part_19 : decode b_Mo_part 19 = .ok (.iaload, 1) := by decide +kernel
theorem d_Mo_part_20 : decode b_Mo_part 20 = .ok (.invokevirtual 176, 3) := by decide +kernel
theorem d_Mo_part_23 : decode b_Mo_part 23 = .ok (.return_, 1) := by decide +kernel
