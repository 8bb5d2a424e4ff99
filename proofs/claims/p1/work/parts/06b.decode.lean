theorem d_Sc_partOf_0 : decode b_Sc_partOf 0 = .ok (.iload_n 0, 1) := by decide +kernel
theorem d_Sc_partOf_1 : decode b_Sc_partOf 1 = .ok (.iconst 3, 1) := by decide +kernel
theorem d_Sc_partOf_2 : decode b_Sc_partOf 2 = .ok (.iand, 1) := by decide +kernel
theorem d_Sc_partOf_3 : decode b_Sc_partOf 3 = .ok (.ireturn, 1) := by decide +kernel
theorem d_Sc_partLookedAt_0 : decode b_Sc_partLookedAt 0 = .ok (.iload_n 1, 1) := by decide +kernel
theorem d_Sc_partLookedAt_1 : decode b_Sc_partLookedAt 1 = .ok (.invokestatic 47, 3) := by decide +kernel
theorem d_Sc_partLookedAt_4 : decode b_Sc_partLookedAt 4 = .ok (.istore_n 2, 1) := by decide +kernel
theorem d_Sc_partLookedAt_5 : decode b_Sc_partLookedAt 5 = .ok (.iload_n 2, 1) := by decide +kernel
theorem d_Sc_partLookedAt_6 : decode b_Sc_partLookedAt 6 = .ok (.aload_n 0, 1) := by decide +kernel
theorem d_Sc_partLookedAt_7 : decode b_Sc_partLookedAt 7 = .ok (.getfield 36, 3) := by decide +kernel
theorem d_Sc_partLookedAt_10 : decode b_Sc_partLookedAt 10 = .ok (.if_icmp .ge 5, 3) := by decide +kernel
theorem d_Sc_partLookedAt_13 : decode b_Sc_partLookedAt 13 = .ok (.iconst (-1), 1) := by decide +kernel
theorem d_Sc_partLookedAt_14 : decode b_Sc_partLookedAt 14 = .ok (.ireturn, 1) := by decide +kernel
theorem d_Sc_partLookedAt_15 : decode b_Sc_partLookedAt 15 = .ok (.iload_n 2, 1) := by decide +kernel
theorem d_Sc_partLookedAt_16 : decode b_Sc_partLookedAt 16 = .ok (.aload_n 0, 1) := by decide +kernel
theorem d_Sc_partLookedAt_17 : decode b_Sc_partLookedAt 17 = .ok (.getfield 36, 3) := by decide +kernel
theorem d_Sc_partLookedAt_20 : decode b_Sc_partLookedAt 20 = .ok (.if_icmp .ne 10, 3) := by decide +kernel
theorem d_Sc_partLookedAt_23 : decode b_Sc_partLookedAt 23 = .ok (.iload_n 1, 1) := by decide +kernel
theorem d_Sc_partLookedAt_24 : decode b_Sc_partLookedAt 24 = .ok (.invokestatic 50, 3) := by decide +kernel
theorem d_Sc_partLookedAt_27 : decode b_Sc_partLookedAt 27 = .ok (.goto 9, 3) := by decide +kernel
theorem d_Sc_partLookedAt_30 : decode b_Sc_partLookedAt 30 = .ok (.aload_n 0, 1) := by decide +kernel
theorem d_Sc_partLookedAt_31 : decode b_Sc_partLookedAt 31 = .ok (.getfield 33, 3) := by decide +kernel
theorem d_Sc_partLookedAt_34 : decode b_Sc_partLookedAt 34 = .ok (.iload_n 2, 1) := by decide +kernel
theorem d_Sc_partLookedAt_35 : decode b_Sc_partLookedAt 35 = .ok (.iaload, 1) := by decide +kernel
theorem d_Sc_partLookedAt_36 : decode b_Sc_partLookedAt 36 = .ok (.ireturn, 1) := by decide +kernel
theorem d_La_takesFrom_0 : decode b_La_takesFrom 0 = .ok (.aload_n 0, 1) := by decide +kernel
theorem d_La_takesFrom_1 : decode b_La_takesFrom 1 = .ok (.getfield 12, 3) := by decide +kernel
theorem d_La_takesFrom_4 : decode b_La_takesFrom 4 = .ok (.aload_n 0, 1) := by decide +kernel
theorem d_La_takesFrom_5 : decode b_La_takesFrom 5 = .ok (.getfield 40, 3) := by decide +kernel
theorem d_La_takesFrom_8 : decode b_La_takesFrom 8 = .ok (.getfield 236, 3) := by decide +kernel
theorem d_La_takesFrom_11 : decode b_La_takesFrom 11 = .ok (.iload_n 2, 1) := by decide +kernel
theorem d_La_takesFrom_12 : decode b_La_takesFrom 12 = .ok (.iaload, 1) := by decide +kernel
theorem d_La_takesFrom_13 : decode b_La_takesFrom 13 = .ok (.invokevirtual 249, 3) := by decide +kernel
theorem d_La_takesFrom_16 : decode b_La_takesFrom 16 = .ok (.istore_n 3, 1) := by decide +kernel
theorem d_La_takesFrom_17 : decode b_La_takesFrom 17 = .ok (.iload_n 3, 1) := by decide +kernel
theorem d_La_takesFrom_18 : decode b_La_takesFrom 18 = .ok (.ifCond .eq 21, 3) := by decide +kernel
theorem d_La_takesFrom_21 : decode b_La_takesFrom 21 = .ok (.iload_n 3, 1) := by decide +kernel
theorem d_La_takesFrom_22 : decode b_La_takesFrom 22 = .ok (.iconst 1, 1) := by decide +kernel
theorem d_La_takesFrom_23 : decode b_La_takesFrom 23 = .ok (.if_icmp .ne 20, 3) := by decide +kernel
theorem d_La_takesFrom_26 : decode b_La_takesFrom 26 = .ok (.aload_n 0, 1) := by decide +kernel
theorem d_La_takesFrom_27 : decode b_La_takesFrom 27 = .ok (.getfield 28, 3) := by decide +kernel
theorem d_La_takesFrom_30 : decode b_La_takesFrom 30 = .ok (.getfield 252, 3) := by decide +kernel
theorem d_La_takesFrom_33 : decode b_La_takesFrom 33 = .ok (.iload_n 1, 1) := by decide +kernel
theorem d_La_takesFrom_34 : decode b_La_takesFrom 34 = .ok (.iaload, 1) := by decide +kernel
theorem d_La_takesFrom_35 : decode b_La_takesFrom 35 = .ok (.iconst (-1), 1) := by decide +kernel
theorem d_La_takesFrom_36 : decode b_La_takesFrom 36 = .ok (.if_icmp .ne 7, 3) := by decide +kernel
theorem d_La_takesFrom_39 : decode b_La_takesFrom 39 = .ok (.iconst 1, 1) := by decide +kernel
theorem d_La_takesFrom_40 : decode b_La_takesFrom 40 = .ok (.goto 4, 3) := by decide +kernel
theorem d_La_takesFrom_43 : decode b_La_takesFrom 43 = .ok (.iconst 0, 1) := by decide +kernel
theorem d_La_takesFrom_44 : decode b_La_takesFrom 44 = .ok (.ireturn, 1) := by decide +kernel
theorem d_Sc_lookAt_0 : decode b_Sc_lookAt 0 = .ok (.iload_n 1, 1) := by decide +kernel
theorem d_Sc_lookAt_1 : decode b_Sc_lookAt 1 = .ok (.aload_n 0, 1) := by decide +kernel
theorem d_Sc_lookAt_2 : decode b_Sc_lookAt 2 = .ok (.getfield 36, 3) := by decide +kernel
theorem d_Sc_lookAt_5 : decode b_Sc_lookAt 5 = .ok (.if_icmp .ne 4, 3) := by decide +kernel
theorem d_Sc_lookAt_8 : decode b_Sc_lookAt 8 = .ok (.return_, 1) := by decide +kernel
theorem d_Sc_lookAt_9 : decode b_Sc_lookAt 9 = .ok (.aload_n 0, 1) := by decide +kernel
theorem d_Sc_lookAt_10 : decode b_Sc_lookAt 10 = .ok (.iload_n 1, 1) := by decide +kernel
theorem d_Sc_lookAt_11 : decode b_Sc_lookAt 11 = .ok (.putfield 36, 3) := by decide +kernel
theorem d_Sc_lookAt_14 : decode b_Sc_lookAt 14 = .ok (.iload_n 1, 1) := by decide +kernel
theorem d_Sc_lookAt_15 : decode b_Sc_lookAt 15 = .ok (.iconst 1, 1) := by decide +kernel
theorem d_Sc_lookAt_16 : decode b_Sc_lookAt 16 = .ok (.iadd, 1) := by decide +kernel
theorem d_Sc_lookAt_17 : decode b_Sc_lookAt 17 = .ok (.istore_n 2, 1) := by decide +kernel
theorem d_Sc_lookAt_18 : decode b_Sc_lookAt 18 = .ok (.iload_n 2, 1) := by decide +kernel
theorem d_Sc_lookAt_19 : decode b_Sc_lookAt 19 = .ok (.aload_n 0, 1) := by decide +kernel
theorem d_Sc_lookAt_20 : decode b_Sc_lookAt 20 = .ok (.getfield 40, 3) := by decide +kernel
theorem d_Sc_lookAt_23 : decode b_Sc_lookAt 23 = .ok (.if_icmp .ge 25, 3) := by decide +kernel
theorem d_Sc_lookAt_26 : decode b_Sc_lookAt 26 = .ok (.aload_n 0, 1) := by decide +kernel
theorem d_Sc_lookAt_27 : decode b_Sc_lookAt 27 = .ok (.getfield 33, 3) := by decide +kernel
theorem d_Sc_lookAt_30 : decode b_Sc_lookAt 30 = .ok (.iload_n 2, 1) := by decide +kernel
theorem d_Sc_lookAt_31 : decode b_Sc_lookAt 31 = .ok (.aload_n 0, 1) := by decide +kernel
theorem d_Sc_lookAt_32 : decode b_Sc_lookAt 32 = .ok (.aload_n 0, 1) := by decide +kernel
theorem d_Sc_lookAt_33 : decode b_Sc_lookAt 33 = .ok (.getfield 11, 3) := by decide +kernel
theorem d_Sc_lookAt_36 : decode b_Sc_lookAt 36 = .ok (.iload_n 2, 1) := by decide +kernel
theorem d_Sc_lookAt_37 : decode b_Sc_lookAt 37 = .ok (.iaload, 1) := by decide +kernel
theorem d_Sc_lookAt_38 : decode b_Sc_lookAt 38 = .ok (.invokevirtual 53, 3) := by decide +kernel
theorem d_Sc_lookAt_41 : decode b_Sc_lookAt 41 = .ok (.iastore, 1) := by decide +kernel
theorem d_Sc_lookAt_42 : decode b_Sc_lookAt 42 = .ok (.iinc 2 1, 3) := by decide +kernel
theorem d_Sc_lookAt_45 : decode b_Sc_lookAt 45 = .ok (.goto (-27), 3) := by decide +kernel
theorem d_Sc_lookAt_48 : decode b_Sc_lookAt 48 = .ok (.return_, 1) := by decide +kernel
theorem d_La_addRows_0 : decode b_La_addRows 0 = .ok (.aload_n 0, 1) := by decide +kernel
theorem d_La_addRows_1 : decode b_La_addRows 1 = .ok (.getfield 12, 3) := by decide +kernel
theorem d_La_addRows_4 : decode b_La_addRows 4 = .ok (.aload_n 0, 1) := by decide +kernel
theorem d_La_addRows_5 : decode b_La_addRows 5 = .ok (.getfield 28, 3) := by decide +kernel
theorem d_La_addRows_8 : decode b_La_addRows 8 = .ok (.getfield 237, 3) := by decide +kernel
theorem d_La_addRows_11 : decode b_La_addRows 11 = .ok (.iload_n 1, 1) := by decide +kernel
theorem d_La_addRows_12 : decode b_La_addRows 12 = .ok (.iaload, 1) := by decide +kernel
theorem d_La_addRows_13 : decode b_La_addRows 13 = .ok (.invokevirtual 239, 3) := by decide +kernel
theorem d_La_addRows_16 : decode b_La_addRows 16 = .ok (.iconst (-1), 1) := by decide +kernel
theorem d_La_addRows_17 : decode b_La_addRows 17 = .ok (.istore_n 2, 1) := by decide +kernel
theorem d_La_addRows_18 : decode b_La_addRows 18 = .ok (.iconst 0, 1) := by decide +kernel
theorem d_La_addRows_19 : decode b_La_addRows 19 = .ok (.istore_n 3, 1) := by decide +kernel
theorem d_La_addRows_20 : decode b_La_addRows 20 = .ok (.iload_n 3, 1) := by decide +kernel
theorem d_La_addRows_21 : decode b_La_addRows 21 = .ok (.aload_n 0, 1) := by decide +kernel
theorem d_La_addRows_22 : decode b_La_addRows 22 = .ok (.getfield 40, 3) := by decide +kernel
theorem d_La_addRows_25 : decode b_La_addRows 25 = .ok (.getfield 74, 3) := by decide +kernel
theorem d_La_addRows_28 : decode b_La_addRows 28 = .ok (.if_icmp .gt 70, 3) := by decide +kernel
theorem d_La_addRows_31 : decode b_La_addRows 31 = .ok (.iload_n 3, 1) := by decide +kernel
theorem d_La_addRows_32 : decode b_La_addRows 32 = .ok (.aload_n 0, 1) := by decide +kernel
theorem d_La_addRows_33 : decode b_La_addRows 33 = .ok (.getfield 40, 3) := by decide +kernel
theorem d_La_addRows_36 : decode b_La_addRows 36 = .ok (.getfield 74, 3) := by decide +kernel
theorem d_La_addRows_39 : decode b_La_addRows 39 = .ok (.if_icmp .ge 16, 3) := by decide +kernel
theorem d_La_addRows_42 : decode b_La_addRows 42 = .ok (.aload_n 0, 1) := by decide +kernel
theorem d_La_addRows_43 : decode b_La_addRows 43 = .ok (.iload_n 1, 1) := by decide +kernel
theorem d_La_addRows_44 : decode b_La_addRows 44 = .ok (.iload_n 3, 1) := by decide +kernel
theorem d_La_addRows_45 : decode b_La_addRows 45 = .ok (.invokevirtual 242, 3) := by decide +kernel
theorem d_La_addRows_48 : decode b_La_addRows 48 = .ok (.ifCond .eq 7, 3) := by decide +kernel
theorem d_La_addRows_51 : decode b_La_addRows 51 = .ok (.iconst 1, 1) := by decide +kernel
theorem d_La_addRows_52 : decode b_La_addRows 52 = .ok (.goto 4, 3) := by decide +kernel
theorem d_La_addRows_55 : decode b_La_addRows 55 = .ok (.iconst 0, 1) := by decide +kernel
theorem d_La_addRows_56 : decode b_La_addRows 56 = .ok (.istore 4, 2) := by decide +kernel
theorem d_La_addRows_58 : decode b_La_addRows 58 = .ok (.iload 4, 2) := by decide +kernel
theorem d_La_addRows_60 : decode b_La_addRows 60 = .ok (.ifCond .eq 13, 3) := by decide +kernel
theorem d_La_addRows_63 : decode b_La_addRows 63 = .ok (.iload_n 2, 1) := by decide +kernel
theorem d_La_addRows_64 : decode b_La_addRows 64 = .ok (.iconst (-1), 1) := by decide +kernel
theorem d_La_addRows_65 : decode b_La_addRows 65 = .ok (.if_icmp .ne 8, 3) := by decide +kernel
theorem d_La_addRows_68 : decode b_La_addRows 68 = .ok (.iload_n 3, 1) := by decide +kernel
theorem d_La_addRows_69 : decode b_La_addRows 69 = .ok (.istore_n 2, 1) := by decide +kernel
theorem d_La_addRows_70 : decode b_La_addRows 70 = .ok (.goto 22, 3) := by decide +kernel
theorem d_La_addRows_73 : decode b_La_addRows 73 = .ok (.iload 4, 2) := by decide +kernel
theorem d_La_addRows_75 : decode b_La_addRows 75 = .ok (.ifCond .ne 17, 3) := by decide +kernel
theorem d_La_addRows_78 : decode b_La_addRows 78 = .ok (.iload_n 2, 1) := by decide +kernel
theorem d_La_addRows_79 : decode b_La_addRows 79 = .ok (.iconst (-1), 1) := by decide +kernel
theorem d_La_addRows_80 : decode b_La_addRows 80 = .ok (.if_icmp .eq 12, 3) := by decide +kernel
theorem d_La_addRows_83 : decode b_La_addRows 83 = .ok (.aload_n 0, 1) := by decide +kernel
theorem d_La_addRows_84 : decode b_La_addRows 84 = .ok (.iload_n 1, 1) := by decide +kernel
theorem d_La_addRows_85 : decode b_La_addRows 85 = .ok (.iload_n 2, 1) := by decide +kernel
theorem d_La_addRows_86 : decode b_La_addRows 86 = .ok (.iload_n 3, 1) := by decide +kernel
theorem d_La_addRows_87 : decode b_La_addRows 87 = .ok (.invokevirtual 246, 3) := by decide +kernel
theorem d_La_addRows_90 : decode b_La_addRows 90 = .ok (.iconst (-1), 1) := by decide +kernel
theorem d_La_addRows_91 : decode b_La_addRows 91 = .ok (.istore_n 2, 1) := by decide +kernel
theorem d_La_addRows_92 : decode b_La_addRows 92 = .ok (.iinc 3 1, 3) := by decide +kernel
theorem d_La_addRows_95 : decode b_La_addRows 95 = .ok (.goto (-75), 3) := by decide +kernel
theorem d_La_addRows_98 : decode b_La_addRows 98 = .ok (.return_, 1) := by decide +kernel
theorem d_Sc_within_0 : decode b_Sc_within 0 = .ok (.iload_n 0, 1) := by decide +kernel
theorem d_Sc_within_1 : decode b_Sc_within 1 = .ok (.iconst 2, 1) := by decide +kernel
theorem d_Sc_within_2 : decode b_Sc_within 2 = .ok (.ishl, 1) := by decide +kernel
theorem d_Sc_within_3 : decode b_Sc_within 3 = .ok (.iload_n 1, 1) := by decide +kernel
theorem d_Sc_within_4 : decode b_Sc_within 4 = .ok (.ior, 1) := by decide +kernel
theorem d_Sc_within_5 : decode b_Sc_within 5 = .ok (.ireturn, 1) := by decide +kernel
theorem d_Wo_push_0 : decode b_Wo_push 0 = .ok (.aload_n 0, 1) := by decide +kernel
theorem d_Wo_push_1 : decode b_Wo_push 1 = .ok (.getfield 24, 3) := by decide +kernel
theorem d_Wo_push_4 : decode b_Wo_push 4 = .ok (.sipush 2001, 3) := by decide +kernel
theorem d_Wo_push_7 : decode b_Wo_push 7 = .ok (.if_icmp .ge 53, 3) := by decide +kernel
theorem d_Wo_push_10 : decode b_Wo_push 10 = .ok (.aload_n 0, 1) := by decide +kernel
theorem d_Wo_push_11 : decode b_Wo_push 11 = .ok (.getfield 11, 3) := by decide +kernel
theorem d_Wo_push_14 : decode b_Wo_push 14 = .ok (.aload_n 0, 1) := by decide +kernel
theorem d_Wo_push_15 : decode b_Wo_push 15 = .ok (.getfield 24, 3) := by decide +kernel
theorem d_Wo_push_18 : decode b_Wo_push 18 = .ok (.iload_n 1, 1) := by decide +kernel
theorem d_Wo_push_19 : decode b_Wo_push 19 = .ok (.iastore, 1) := by decide +kernel
theorem d_Wo_push_20 : decode b_Wo_push 20 = .ok (.aload_n 0, 1) := by decide +kernel
theorem d_Wo_push_21 : decode b_Wo_push 21 = .ok (.getfield 15, 3) := by decide +kernel
theorem d_Wo_push_24 : decode b_Wo_push 24 = .ok (.aload_n 0, 1) := by decide +kernel
theorem d_Wo_push_25 : decode b_Wo_push 25 = .ok (.getfield 24, 3) := by decide +kernel
theorem d_Wo_push_28 : decode b_Wo_push 28 = .ok (.iload_n 2, 1) := by decide +kernel
theorem d_Wo_push_29 : decode b_Wo_push 29 = .ok (.iastore, 1) := by decide +kernel
theorem d_Wo_push_30 : decode b_Wo_push 30 = .ok (.aload_n 0, 1) := by decide +kernel
theorem d_Wo_push_31 : decode b_Wo_push 31 = .ok (.getfield 18, 3) := by decide +kernel
theorem d_Wo_push_34 : decode b_Wo_push 34 = .ok (.aload_n 0, 1) := by decide +kernel
theorem d_Wo_push_35 : decode b_Wo_push 35 = .ok (.getfield 24, 3) := by decide +kernel
theorem d_Wo_push_38 : decode b_Wo_push 38 = .ok (.iload_n 3, 1) := by decide +kernel
theorem d_Wo_push_39 : decode b_Wo_push 39 = .ok (.iastore, 1) := by decide +kernel
theorem d_Wo_push_40 : decode b_Wo_push 40 = .ok (.aload_n 0, 1) := by decide +kernel
theorem d_Wo_push_41 : decode b_Wo_push 41 = .ok (.getfield 21, 3) := by decide +kernel
theorem d_Wo_push_44 : decode b_Wo_push 44 = .ok (.aload_n 0, 1) := by decide +kernel
theorem d_Wo_push_45 : decode b_Wo_push 45 = .ok (.getfield 24, 3) := by decide +kernel
theorem d_Wo_push_48 : decode b_Wo_push 48 = .ok (.iconst (-1), 1) := by decide +kernel
theorem d_Wo_push_49 : decode b_Wo_push 49 = .ok (.iastore, 1) := by decide +kernel
theorem d_Wo_push_50 : decode b_Wo_push 50 = .ok (.aload_n 0, 1) := by decide +kernel
theorem d_Wo_push_51 : decode b_Wo_push 51 = .ok (.dup, 1) := by decide +kernel
theorem d_Wo_push_52 : decode b_Wo_push 52 = .ok (.getfield 24, 3) := by decide +kernel
theorem d_Wo_push_55 : decode b_Wo_push 55 = .ok (.iconst 1, 1) := by decide +kernel
theorem d_Wo_push_56 : decode b_Wo_push 56 = .ok (.iadd, 1) := by decide +kernel
theorem d_Wo_push_57 : decode b_Wo_push 57 = .ok (.putfield 24, 3) := by decide +kernel
theorem d_Wo_push_60 : decode b_Wo_push 60 = .ok (.return_, 1) := by decide +kernel
theorem d_La_begin_0 : decode b_La_begin 0 = .ok (.aload_n 0, 1) := by decide +kernel
theorem d_La_begin_1 : decode b_La_begin 1 = .ok (.getfield 40, 3) := by decide +kernel
theorem d_La_begin_4 : decode b_La_begin 4 = .ok (.getfield 227, 3) := by decide +kernel
theorem d_La_begin_7 : decode b_La_begin 7 = .ok (.sipush 2000, 3) := by decide +kernel
theorem d_La_begin_10 : decode b_La_begin 10 = .ok (.if_icmp .lt 10, 3) := by decide +kernel
theorem d_La_begin_13 : decode b_La_begin 13 = .ok (.aload_n 0, 1) := by decide +kernel
theorem d_La_begin_14 : decode b_La_begin 14 = .ok (.bipush (-2), 2) := by decide +kernel
theorem d_La_begin_16 : decode b_La_begin 16 = .ok (.putfield 61, 3) := by decide +kernel
theorem d_La_begin_19 : decode b_La_begin 19 = .ok (.return_, 1) := by decide +kernel
theorem d_La_begin_20 : decode b_La_begin 20 = .ok (.aload_n 0, 1) := by decide +kernel
theorem d_La_begin_21 : decode b_La_begin 21 = .ok (.getfield 40, 3) := by decide +kernel
theorem d_La_begin_24 : decode b_La_begin 24 = .ok (.dup, 1) := by decide +kernel
theorem d_La_begin_25 : decode b_La_begin 25 = .ok (.getfield 227, 3) := by decide +kernel
theorem d_La_begin_28 : decode b_La_begin 28 = .ok (.iconst 1, 1) := by decide +kernel
theorem d_La_begin_29 : decode b_La_begin 29 = .ok (.iadd, 1) := by decide +kernel
theorem d_La_begin_30 : decode b_La_begin 30 = .ok (.putfield 227, 3) := by decide +kernel
theorem d_La_begin_33 : decode b_La_begin 33 = .ok (.aload_n 0, 1) := by decide +kernel
theorem d_La_begin_34 : decode b_La_begin 34 = .ok (.getfield 21, 3) := by decide +kernel
theorem d_La_begin_37 : decode b_La_begin 37 = .ok (.iload_n 1, 1) := by decide +kernel
theorem d_La_begin_38 : decode b_La_begin 38 = .ok (.iload_n 2, 1) := by decide +kernel
theorem d_La_begin_39 : decode b_La_begin 39 = .ok (.iconst 0, 1) := by decide +kernel
theorem d_La_begin_40 : decode b_La_begin 40 = .ok (.invokevirtual 106, 3) := by decide +kernel
theorem d_La_begin_43 : decode b_La_begin 43 = .ok (.return_, 1) := by decide +kernel
theorem d_La_emit_0 : decode b_La_emit 0 = .ok (.aload_n 0, 1) := by decide +kernel
theorem d_La_emit_1 : decode b_La_emit 1 = .ok (.getfield 61, 3) := by decide +kernel
theorem d_La_emit_4 : decode b_La_emit 4 = .ok (.ifCond .eq 4, 3) := by decide +kernel
theorem d_La_emit_7 : decode b_La_emit 7 = .ok (.return_, 1) := by decide +kernel
theorem d_La_emit_8 : decode b_La_emit 8 = .ok (.aload_n 0, 1) := by decide +kernel
theorem d_La_emit_9 : decode b_La_emit 9 = .ok (.getfield 40, 3) := by decide +kernel
theorem d_La_emit_12 : decode b_La_emit 12 = .ok (.getfield 74, 3) := by decide +kernel
theorem d_La_emit_15 : decode b_La_emit 15 = .ok (.sipush 1000, 3) := by decide +kernel
theorem d_La_emit_18 : decode b_La_emit 18 = .ok (.if_icmp .lt 10, 3) := by decide +kernel
theorem d_La_emit_21 : decode b_La_emit 21 = .ok (.aload_n 0, 1) := by decide +kernel
theorem d_La_emit_22 : decode b_La_emit 22 = .ok (.bipush (-2), 2) := by decide +kernel
theorem d_La_emit_24 : decode b_La_emit 24 = .ok (.putfield 61, 3) := by decide +kernel
theorem d_La_emit_27 : decode b_La_emit 27 = .ok (.return_, 1) := by decide +kernel
theorem d_La_emit_28 : decode b_La_emit 28 = .ok (.aload_n 0, 1) := by decide +kernel
theorem d_La_emit_29 : decode b_La_emit 29 = .ok (.getfield 40, 3) := by decide +kernel
theorem d_La_emit_32 : decode b_La_emit 32 = .ok (.getfield 230, 3) := by decide +kernel
theorem d_La_emit_35 : decode b_La_emit 35 = .ok (.aload_n 0, 1) := by decide +kernel
theorem d_La_emit_36 : decode b_La_emit 36 = .ok (.getfield 40, 3) := by decide +kernel
theorem d_La_emit_39 : decode b_La_emit 39 = .ok (.getfield 74, 3) := by decide +kernel
theorem d_La_emit_42 : decode b_La_emit 42 = .ok (.iload_n 1, 1) := by decide +kernel
theorem d_La_emit_43 : decode b_La_emit 43 = .ok (.iastore, 1) := by decide +kernel
theorem d_La_emit_44 : decode b_La_emit 44 = .ok (.aload_n 0, 1) := by decide +kernel
theorem d_La_emit_45 : decode b_La_emit 45 = .ok (.getfield 40, 3) := by decide +kernel
theorem d_La_emit_48 : decode b_La_emit 48 = .ok (.getfield 233, 3) := by decide +kernel
theorem d_La_emit_51 : decode b_La_emit 51 = .ok (.aload_n 0, 1) := by decide +kernel
theorem d_La_emit_52 : decode b_La_emit 52 = .ok (.getfield 40, 3) := by decide +kernel
theorem d_La_emit_55 : decode b_La_emit 55 = .ok (.getfield 74, 3) := by decide +kernel
theorem d_La_emit_58 : decode b_La_emit 58 = .ok (.iload_n 2, 1) := by decide +kernel
theorem d_La_emit_59 : decode b_La_emit 59 = .ok (.iastore, 1) := by decide +kernel
theorem d_La_emit_60 : decode b_La_emit 60 = .ok (.aload_n 0, 1) := by decide +kernel
theorem d_La_emit_61 : decode b_La_emit 61 = .ok (.getfield 40, 3) := by decide +kernel
theorem d_La_emit_64 : decode b_La_emit 64 = .ok (.getfield 236, 3) := by decide +kernel
theorem d_La_emit_67 : decode b_La_emit 67 = .ok (.aload_n 0, 1) := by decide +kernel
theorem d_La_emit_68 : decode b_La_emit 68 = .ok (.getfield 40, 3) := by decide +kernel
theorem d_La_emit_71 : decode b_La_emit 71 = .ok (.getfield 74, 3) := by decide +kernel
theorem d_La_emit_74 : decode b_La_emit 74 = .ok (.iload_n 3, 1) := by decide +kernel
theorem d_La_emit_75 : decode b_La_emit 75 = .ok (.iastore, 1) := by decide +kernel
theorem d_La_emit_76 : decode b_La_emit 76 = .ok (.aload_n 0, 1) := by decide +kernel
theorem d_La_emit_77 : decode b_La_emit 77 = .ok (.getfield 40, 3) := by decide +kernel
theorem d_La_emit_80 : decode b_La_emit 80 = .ok (.dup, 1) := by decide +kernel
theorem d_La_emit_81 : decode b_La_emit 81 = .ok (.getfield 74, 3) := by decide +kernel
theorem d_La_emit_84 : decode b_La_emit 84 = .ok (.iconst 1, 1) := by decide +kernel
theorem d_La_emit_85 : decode b_La_emit 85 = .ok (.iadd, 1) := by decide +kernel
theorem d_La_emit_86 : decode b_La_emit 86 = .ok (.putfield 74, 3) := by decide +kernel
theorem d_La_emit_89 : decode b_La_emit 89 = .ok (.return_, 1) := by decide +kernel
theorem d_La_setGoal_0 : decode b_La_setGoal 0 = .ok (.iload_n 1, 1) := by decide +kernel
theorem d_La_setGoal_1 : decode b_La_setGoal 1 = .ok (.ifCond .lt 24, 3) := by decide +kernel
theorem d_La_setGoal_4 : decode b_La_setGoal 4 = .ok (.iload_n 1, 1) := by decide +kernel
theorem d_La_setGoal_5 : decode b_La_setGoal 5 = .ok (.aload_n 0, 1) := by decide +kernel
theorem d_La_setGoal_6 : decode b_La_setGoal 6 = .ok (.getfield 40, 3) := by decide +kernel
theorem d_La_setGoal_9 : decode b_La_setGoal 9 = .ok (.getfield 74, 3) := by decide +kernel
theorem d_La_setGoal_12 : decode b_La_setGoal 12 = .ok (.if_icmp .ge 13, 3) := by decide +kernel
theorem d_La_setGoal_15 : decode b_La_setGoal 15 = .ok (.aload_n 0, 1) := by decide +kernel
theorem d_La_setGoal_16 : decode b_La_setGoal 16 = .ok (.getfield 40, 3) := by decide +kernel
theorem d_La_setGoal_19 : decode b_La_setGoal 19 = .ok (.getfield 233, 3) := by decide +kernel
theorem d_La_setGoal_22 : decode b_La_setGoal 22 = .ok (.iload_n 1, 1) := by decide +kernel
theorem d_La_setGoal_23 : decode b_La_setGoal 23 = .ok (.iload_n 2, 1) := by decide +kernel
theorem d_La_setGoal_24 : decode b_La_setGoal 24 = .ok (.iastore, 1) := by decide +kernel
theorem d_La_setGoal_25 : decode b_La_setGoal 25 = .ok (.return_, 1) := by decide +kernel
theorem d_Wo_pop_0 : decode b_Wo_pop 0 = .ok (.aload_n 0, 1) := by decide +kernel
theorem d_Wo_pop_1 : decode b_Wo_pop 1 = .ok (.getfield 24, 3) := by decide +kernel
theorem d_Wo_pop_4 : decode b_Wo_pop 4 = .ok (.ifCond .le 13, 3) := by decide +kernel
theorem d_Wo_pop_7 : decode b_Wo_pop 7 = .ok (.aload_n 0, 1) := by decide +kernel
theorem d_Wo_pop_8 : decode b_Wo_pop 8 = .ok (.dup, 1) := by decide +kernel
theorem d_Wo_pop_9 : decode b_Wo_pop 9 = .ok (.getfield 24, 3) := by decide +kernel
theorem d_Wo_pop_12 : decode b_Wo_pop 12 = .ok (.iconst 1, 1) := by decide +kernel
theorem d_Wo_pop_13 : decode b_Wo_pop 13 = .ok (.isub, 1) := by decide +kernel
theorem d_Wo_pop_14 : decode b_Wo_pop 14 = .ok (.putfield 24, 3) := by decide +kernel
theorem d_Wo_pop_17 : decode b_Wo_pop 17 = .ok (.return_, 1) := by decide +kernel
theorem d_La_turnIf_0 : decode b_La_turnIf 0 = .ok (.aload_n 0, 1) := by decide +kernel
theorem d_La_turnIf_1 : decode b_La_turnIf 1 = .ok (.getfield 21, 3) := by decide +kernel
theorem d_La_turnIf_4 : decode b_La_turnIf 4 = .ok (.getfield 154, 3) := by decide +kernel
theorem d_La_turnIf_7 : decode b_La_turnIf 7 = .ok (.iload_n 1, 1) := by decide +kernel
theorem d_La_turnIf_8 : decode b_La_turnIf 8 = .ok (.iaload, 1) := by decide +kernel
theorem d_La_turnIf_9 : decode b_La_turnIf 9 = .ok (.istore 4, 2) := by decide +kernel
theorem d_La_turnIf_11 : decode b_La_turnIf 11 = .ok (.aload_n 0, 1) := by decide +kernel
theorem d_La_turnIf_12 : decode b_La_turnIf 12 = .ok (.getfield 40, 3) := by decide +kernel
theorem d_La_turnIf_15 : decode b_La_turnIf 15 = .ok (.getfield 74, 3) := by decide +kernel
theorem d_La_turnIf_18 : decode b_La_turnIf 18 = .ok (.istore 5, 2) := by decide +kernel
theorem d_La_turnIf_20 : decode b_La_turnIf 20 = .ok (.iload_n 3, 1) := by decide +kernel
theorem d_La_turnIf_21 : decode b_La_turnIf 21 = .ok (.tableswitch 141 0 2 #[27, 45, 83], 27) := by decide +kernel
theorem d_La_turnIf_48 : decode b_La_turnIf 48 = .ok (.aload_n 0, 1) := by decide +kernel
theorem d_La_turnIf_49 : decode b_La_turnIf 49 = .ok (.aload_n 0, 1) := by decide +kernel
theorem d_La_turnIf_50 : decode b_La_turnIf 50 = .ok (.getfield 36, 3) := by decide +kernel
theorem d_La_turnIf_53 : decode b_La_turnIf 53 = .ok (.iload_n 2, 1) := by decide +kernel
theorem d_La_turnIf_54 : decode b_La_turnIf 54 = .ok (.iconst 0, 1) := by decide +kernel
theorem d_La_turnIf_55 : decode b_La_turnIf 55 = .ok (.invokevirtual 141, 3) := by decide +kernel
theorem d_La_turnIf_58 : decode b_La_turnIf 58 = .ok (.iload 4, 2) := by decide +kernel
theorem d_La_turnIf_60 : decode b_La_turnIf 60 = .ok (.invokevirtual 86, 3) := by decide +kernel
theorem d_La_turnIf_63 : decode b_La_turnIf 63 = .ok (.goto 121, 3) := by decide +kernel
theorem d_La_turnIf_66 : decode b_La_turnIf 66 = .ok (.aload_n 0, 1) := by decide +kernel
theorem d_La_turnIf_67 : decode b_La_turnIf 67 = .ok (.getfield 21, 3) := by decide +kernel
theorem d_La_turnIf_70 : decode b_La_turnIf 70 = .ok (.getfield 157, 3) := by decide +kernel
theorem d_La_turnIf_73 : decode b_La_turnIf 73 = .ok (.iload_n 1, 1) := by decide +kernel
theorem d_La_turnIf_74 : decode b_La_turnIf 74 = .ok (.iload 5, 2) := by decide +kernel
theorem d_La_turnIf_76 : decode b_La_turnIf 76 = .ok (.iastore, 1) := by decide +kernel
theorem d_La_turnIf_77 : decode b_La_turnIf 77 = .ok (.aload_n 0, 1) := by decide +kernel
theorem d_La_turnIf_78 : decode b_La_turnIf 78 = .ok (.bipush 10, 2) := by decide +kernel
theorem d_La_turnIf_80 : decode b_La_turnIf 80 = .ok (.iconst 0, 1) := by decide +kernel
theorem d_La_turnIf_81 : decode b_La_turnIf 81 = .ok (.iload 4, 2) := by decide +kernel
theorem d_La_turnIf_83 : decode b_La_turnIf 83 = .ok (.invokevirtual 95, 3) := by decide +kernel
theorem d_La_turnIf_86 : decode b_La_turnIf 86 = .ok (.aload_n 0, 1) := by decide +kernel
theorem d_La_turnIf_87 : decode b_La_turnIf 87 = .ok (.aload_n 0, 1) := by decide +kernel
theorem d_La_turnIf_88 : decode b_La_turnIf 88 = .ok (.getfield 36, 3) := by decide +kernel
theorem d_La_turnIf_91 : decode b_La_turnIf 91 = .ok (.iload_n 2, 1) := by decide +kernel
theorem d_La_turnIf_92 : decode b_La_turnIf 92 = .ok (.iconst 1, 1) := by decide +kernel
theorem d_La_turnIf_93 : decode b_La_turnIf 93 = .ok (.invokevirtual 141, 3) := by decide +kernel
theorem d_La_turnIf_96 : decode b_La_turnIf 96 = .ok (.iload 4, 2) := by decide +kernel
theorem d_La_turnIf_98 : decode b_La_turnIf 98 = .ok (.invokevirtual 86, 3) := by decide +kernel
theorem d_La_turnIf_101 : decode b_La_turnIf 101 = .ok (.goto 83, 3) := by decide +kernel
theorem d_La_turnIf_104 : decode b_La_turnIf 104 = .ok (.aload_n 0, 1) := by decide +kernel
theorem d_La_turnIf_105 : decode b_La_turnIf 105 = .ok (.bipush 11, 2) := by decide +kernel
theorem d_La_turnIf_107 : decode b_La_turnIf 107 = .ok (.iconst 0, 1) := by decide +kernel
theorem d_La_turnIf_108 : decode b_La_turnIf 108 = .ok (.iload 4, 2) := by decide +kernel
theorem d_La_turnIf_110 : decode b_La_turnIf 110 = .ok (.invokevirtual 95, 3) := by decide +kernel
theorem d_La_turnIf_113 : decode b_La_turnIf 113 = .ok (.aload_n 0, 1) := by decide +kernel
theorem d_La_turnIf_114 : decode b_La_turnIf 114 = .ok (.aload_n 0, 1) := by decide +kernel
theorem d_La_turnIf_115 : decode b_La_turnIf 115 = .ok (.getfield 21, 3) := by decide +kernel
theorem d_La_turnIf_118 : decode b_La_turnIf 118 = .ok (.getfield 157, 3) := by decide +kernel
theorem d_La_turnIf_121 : decode b_La_turnIf 121 = .ok (.iload_n 1, 1) := by decide +kernel
theorem d_La_turnIf_122 : decode b_La_turnIf 122 = .ok (.iaload, 1) := by decide +kernel
theorem d_La_turnIf_123 : decode b_La_turnIf 123 = .ok (.aload_n 0, 1) := by decide +kernel
theorem d_La_turnIf_124 : decode b_La_turnIf 124 = .ok (.getfield 40, 3) := by decide +kernel
theorem d_La_turnIf_127 : decode b_La_turnIf 127 = .ok (.getfield 74, 3) := by decide +kernel
theorem d_La_turnIf_130 : decode b_La_turnIf 130 = .ok (.invokevirtual 160, 3) := by decide +kernel
theorem d_La_turnIf_133 : decode b_La_turnIf 133 = .ok (.aload_n 0, 1) := by decide +kernel
theorem d_La_turnIf_134 : decode b_La_turnIf 134 = .ok (.getfield 21, 3) := by decide +kernel
theorem d_La_turnIf_137 : decode b_La_turnIf 137 = .ok (.getfield 157, 3) := by decide +kernel
theorem d_La_turnIf_140 : decode b_La_turnIf 140 = .ok (.iload_n 1, 1) := by decide +kernel
theorem d_La_turnIf_141 : decode b_La_turnIf 141 = .ok (.iload 5, 2) := by decide +kernel
theorem d_La_turnIf_143 : decode b_La_turnIf 143 = .ok (.iastore, 1) := by decide +kernel
theorem d_La_turnIf_144 : decode b_La_turnIf 144 = .ok (.aload_n 0, 1) := by decide +kernel
theorem d_La_turnIf_145 : decode b_La_turnIf 145 = .ok (.aload_n 0, 1) := by decide +kernel
theorem d_La_turnIf_146 : decode b_La_turnIf 146 = .ok (.getfield 36, 3) := by decide +kernel
theorem d_La_turnIf_149 : decode b_La_turnIf 149 = .ok (.iload_n 2, 1) := by decide +kernel
theorem d_La_turnIf_150 : decode b_La_turnIf 150 = .ok (.iconst 2, 1) := by decide +kernel
theorem d_La_turnIf_151 : decode b_La_turnIf 151 = .ok (.invokevirtual 141, 3) := by decide +kernel
theorem d_La_turnIf_154 : decode b_La_turnIf 154 = .ok (.iload 4, 2) := by decide +kernel
theorem d_La_turnIf_156 : decode b_La_turnIf 156 = .ok (.invokevirtual 86, 3) := by decide +kernel
theorem d_La_turnIf_159 : decode b_La_turnIf 159 = .ok (.goto 25, 3) := by decide +kernel
theorem d_La_turnIf_162 : decode b_La_turnIf 162 = .ok (.aload_n 0, 1) := by decide +kernel
theorem d_La_turnIf_163 : decode b_La_turnIf 163 = .ok (.aload_n 0, 1) := by decide +kernel
theorem d_La_turnIf_164 : decode b_La_turnIf 164 = .ok (.getfield 21, 3) := by decide +kernel
theorem d_La_turnIf_167 : decode b_La_turnIf 167 = .ok (.getfield 157, 3) := by decide +kernel
theorem d_La_turnIf_170 : decode b_La_turnIf 170 = .ok (.iload_n 1, 1) := by decide +kernel
theorem d_La_turnIf_171 : decode b_La_turnIf 171 = .ok (.iaload, 1) := by decide +kernel
theorem d_La_turnIf_172 : decode b_La_turnIf 172 = .ok (.iload 5, 2) := by decide +kernel
theorem d_La_turnIf_174 : decode b_La_turnIf 174 = .ok (.invokevirtual 160, 3) := by decide +kernel
theorem d_La_turnIf_177 : decode b_La_turnIf 177 = .ok (.aload_n 0, 1) := by decide +kernel
theorem d_La_turnIf_178 : decode b_La_turnIf 178 = .ok (.getfield 21, 3) := by decide +kernel
theorem d_La_turnIf_181 : decode b_La_turnIf 181 = .ok (.invokevirtual 147, 3) := by decide +kernel
theorem d_La_turnIf_184 : decode b_La_turnIf 184 = .ok (.return_, 1) := by decide +kernel
theorem d_La_finish_0 : decode b_La_finish 0 = .ok (.aload_n 0, 1) := by decide +kernel
theorem d_La_finish_1 : decode b_La_finish 1 = .ok (.iload_n 2, 1) := by decide +kernel
theorem d_La_finish_2 : decode b_La_finish 2 = .ok (.iload_n 3, 1) := by decide +kernel
theorem d_La_finish_3 : decode b_La_finish 3 = .ok (.aload_n 0, 1) := by decide +kernel
theorem d_La_finish_4 : decode b_La_finish 4 = .ok (.getfield 21, 3) := by decide +kernel
theorem d_La_finish_7 : decode b_La_finish 7 = .ok (.getfield 154, 3) := by decide +kernel
theorem d_La_finish_10 : decode b_La_finish 10 = .ok (.iload_n 1, 1) := by decide +kernel
theorem d_La_finish_11 : decode b_La_finish 11 = .ok (.iaload, 1) := by decide +kernel
theorem d_La_finish_12 : decode b_La_finish 12 = .ok (.invokevirtual 95, 3) := by decide +kernel
theorem d_La_finish_15 : decode b_La_finish 15 = .ok (.aload_n 0, 1) := by decide +kernel
theorem d_La_finish_16 : decode b_La_finish 16 = .ok (.getfield 21, 3) := by decide +kernel
theorem d_La_finish_19 : decode b_La_finish 19 = .ok (.invokevirtual 147, 3) := by decide +kernel
theorem d_La_finish_22 : decode b_La_finish 22 = .ok (.return_, 1) := by decide +kernel
theorem d_La_behind_0 : decode b_La_behind 0 = .ok (.iload_n 0, 1) := by decide +kernel
theorem d_La_behind_1 : decode b_La_behind 1 = .ok (.ineg, 1) := by decide +kernel
theorem d_La_behind_2 : decode b_La_behind 2 = .ok (.ireturn, 1) := by decide +kernel
theorem d_Sc_open_0 : decode b_Sc_open 0 = .ok (.aload_n 0, 1) := by decide +kernel
theorem d_Sc_open_1 : decode b_Sc_open 1 = .ok (.getfield 40, 3) := by decide +kernel
theorem d_Sc_open_4 : decode b_Sc_open 4 = .ok (.sipush 2001, 3) := by decide +kernel
theorem d_Sc_open_7 : decode b_Sc_open 7 = .ok (.if_icmp .ge 13, 3) := by decide +kernel
theorem d_Sc_open_10 : decode b_Sc_open 10 = .ok (.aload_n 0, 1) := by decide +kernel
theorem d_Sc_open_11 : decode b_Sc_open 11 = .ok (.dup, 1) := by decide +kernel
theorem d_Sc_open_12 : decode b_Sc_open 12 = .ok (.getfield 40, 3) := by decide +kernel
theorem d_Sc_open_15 : decode b_Sc_open 15 = .ok (.iconst 1, 1) := by decide +kernel
theorem d_Sc_open_16 : decode b_Sc_open 16 = .ok (.iadd, 1) := by decide +kernel
theorem d_Sc_open_17 : decode b_Sc_open 17 = .ok (.putfield 40, 3) := by decide +kernel
theorem d_Sc_open_20 : decode b_Sc_open 20 = .ok (.aload_n 0, 1) := by decide +kernel
theorem d_Sc_open_21 : decode b_Sc_open 21 = .ok (.getfield 40, 3) := by decide +kernel
theorem d_Sc_open_24 : decode b_Sc_open 24 = .ok (.iconst 1, 1) := by decide +kernel
theorem d_Sc_open_25 : decode b_Sc_open 25 = .ok (.isub, 1) := by decide +kernel
theorem d_Sc_open_26 : decode b_Sc_open 26 = .ok (.istore_n 2, 1) := by decide +kernel
theorem d_Sc_open_27 : decode b_Sc_open 27 = .ok (.iload_n 1, 1) := by decide +kernel
theorem d_Sc_open_28 : decode b_Sc_open 28 = .ok (.invokestatic 47, 3) := by decide +kernel
theorem d_Sc_open_31 : decode b_Sc_open 31 = .ok (.istore_n 3, 1) := by decide +kernel
theorem d_Sc_open_32 : decode b_Sc_open 32 = .ok (.aload_n 0, 1) := by decide +kernel
theorem d_Sc_open_33 : decode b_Sc_open 33 = .ok (.getfield 11, 3) := by decide +kernel
theorem d_Sc_open_36 : decode b_Sc_open 36 = .ok (.iload_n 2, 1) := by decide +kernel
theorem d_Sc_open_37 : decode b_Sc_open 37 = .ok (.iload_n 1, 1) := by decide +kernel
theorem d_Sc_open_38 : decode b_Sc_open 38 = .ok (.iastore, 1) := by decide +kernel
theorem d_Sc_open_39 : decode b_Sc_open 39 = .ok (.aload_n 0, 1) := by decide +kernel
theorem d_Sc_open_40 : decode b_Sc_open 40 = .ok (.getfield 24, 3) := by decide +kernel
theorem d_Sc_open_43 : decode b_Sc_open 43 = .ok (.iload_n 2, 1) := by decide +kernel
theorem d_Sc_open_44 : decode b_Sc_open 44 = .ok (.aload_n 0, 1) := by decide +kernel
theorem d_Sc_open_45 : decode b_Sc_open 45 = .ok (.getfield 24, 3) := by decide +kernel
theorem d_Sc_open_48 : decode b_Sc_open 48 = .ok (.iload_n 3, 1) := by decide +kernel
theorem d_Sc_open_49 : decode b_Sc_open 49 = .ok (.iaload, 1) := by decide +kernel
theorem d_Sc_open_50 : decode b_Sc_open 50 = .ok (.aload_n 0, 1) := by decide +kernel
theorem d_Sc_open_51 : decode b_Sc_open 51 = .ok (.getfield 15, 3) := by decide +kernel
theorem d_Sc_open_54 : decode b_Sc_open 54 = .ok (.iload_n 3, 1) := by decide +kernel
theorem d_Sc_open_55 : decode b_Sc_open 55 = .ok (.iaload, 1) := by decide +kernel
theorem d_Sc_open_56 : decode b_Sc_open 56 = .ok (.iconst (-1), 1) := by decide +kernel
theorem d_Sc_open_57 : decode b_Sc_open 57 = .ok (.if_icmp .ne 7, 3) := by decide +kernel
theorem d_Sc_open_60 : decode b_Sc_open 60 = .ok (.iconst 0, 1) := by decide +kernel
theorem d_Sc_open_61 : decode b_Sc_open 61 = .ok (.goto 4, 3) := by decide +kernel
theorem d_Sc_open_64 : decode b_Sc_open 64 = .ok (.iconst 1, 1) := by decide +kernel
theorem d_Sc_open_65 : decode b_Sc_open 65 = .ok (.iadd, 1) := by decide +kernel
theorem d_Sc_open_66 : decode b_Sc_open 66 = .ok (.iastore, 1) := by decide +kernel
theorem d_Sc_open_67 : decode b_Sc_open 67 = .ok (.aload_n 0, 1) := by decide +kernel
theorem d_Sc_open_68 : decode b_Sc_open 68 = .ok (.getfield 27, 3) := by decide +kernel
theorem d_Sc_open_71 : decode b_Sc_open 71 = .ok (.iload_n 2, 1) := by decide +kernel
theorem d_Sc_open_72 : decode b_Sc_open 72 = .ok (.aload_n 0, 1) := by decide +kernel
theorem d_Sc_open_73 : decode b_Sc_open 73 = .ok (.getfield 27, 3) := by decide +kernel
theorem d_Sc_open_76 : decode b_Sc_open 76 = .ok (.iload_n 3, 1) := by decide +kernel
theorem d_Sc_open_77 : decode b_Sc_open 77 = .ok (.iaload, 1) := by decide +kernel
theorem d_Sc_open_78 : decode b_Sc_open 78 = .ok (.aload_n 0, 1) := by decide +kernel
theorem d_Sc_open_79 : decode b_Sc_open 79 = .ok (.getfield 18, 3) := by decide +kernel
theorem d_Sc_open_82 : decode b_Sc_open 82 = .ok (.iload_n 3, 1) := by decide +kernel
theorem d_Sc_open_83 : decode b_Sc_open 83 = .ok (.iaload, 1) := by decide +kernel
theorem d_Sc_open_84 : decode b_Sc_open 84 = .ok (.iconst (-1), 1) := by decide +kernel
theorem d_Sc_open_85 : decode b_Sc_open 85 = .ok (.if_icmp .ne 7, 3) := by decide +kernel
theorem d_Sc_open_88 : decode b_Sc_open 88 = .ok (.iconst 0, 1) := by decide +kernel
theorem d_Sc_open_89 : decode b_Sc_open 89 = .ok (.goto 4, 3) := by decide +kernel
theorem d_Sc_open_92 : decode b_Sc_open 92 = .ok (.iconst 1, 1) := by decide +kernel
theorem d_Sc_open_93 : decode b_Sc_open 93 = .ok (.iadd, 1) := by decide +kernel
theorem d_Sc_open_94 : decode b_Sc_open 94 = .ok (.iastore, 1) := by decide +kernel
theorem d_Sc_open_95 : decode b_Sc_open 95 = .ok (.iload_n 2, 1) := by decide +kernel
theorem d_Sc_open_96 : decode b_Sc_open 96 = .ok (.ireturn, 1) := by decide +kernel
theorem d_Sc_openLoop_0 : decode b_Sc_openLoop 0 = .ok (.aload_n 0, 1) := by decide +kernel
theorem d_Sc_openLoop_1 : decode b_Sc_openLoop 1 = .ok (.iload_n 1, 1) := by decide +kernel
theorem d_Sc_openLoop_2 : decode b_Sc_openLoop 2 = .ok (.invokevirtual 43, 3) := by decide +kernel
theorem d_Sc_openLoop_5 : decode b_Sc_openLoop 5 = .ok (.istore_n 2, 1) := by decide +kernel
theorem d_Sc_openLoop_6 : decode b_Sc_openLoop 6 = .ok (.aload_n 0, 1) := by decide +kernel
theorem d_Sc_openLoop_7 : decode b_Sc_openLoop 7 = .ok (.getfield 15, 3) := by decide +kernel
theorem d_Sc_openLoop_10 : decode b_Sc_openLoop 10 = .ok (.iload_n 2, 1) := by decide +kernel
theorem d_Sc_openLoop_11 : decode b_Sc_openLoop 11 = .ok (.iconst (-1), 1) := by decide +kernel
theorem d_Sc_openLoop_12 : decode b_Sc_openLoop 12 = .ok (.iastore, 1) := by decide +kernel
theorem d_Sc_openLoop_13 : decode b_Sc_openLoop 13 = .ok (.aload_n 0, 1) := by decide +kernel
theorem d_Sc_openLoop_14 : decode b_Sc_openLoop 14 = .ok (.getfield 18, 3) := by decide +kernel
theorem d_Sc_openLoop_17 : decode b_Sc_openLoop 17 = .ok (.iload_n 2, 1) := by decide +kernel
theorem d_Sc_openLoop_18 : decode b_Sc_openLoop 18 = .ok (.iconst (-1), 1) := by decide +kernel
theorem d_Sc_openLoop_19 : decode b_Sc_openLoop 19 = .ok (.iastore, 1) := by decide +kernel
theorem d_Sc_openLoop_20 : decode b_Sc_openLoop 20 = .ok (.aload_n 0, 1) := by decide +kernel
theorem d_Sc_openLoop_21 : decode b_Sc_openLoop 21 = .ok (.getfield 21, 3) := by decide +kernel
theorem d_Sc_openLoop_24 : decode b_Sc_openLoop 24 = .ok (.iload_n 2, 1) := by decide +kernel
theorem d_Sc_openLoop_25 : decode b_Sc_openLoop 25 = .ok (.iload_n 2, 1) := by decide +kernel
theorem d_Sc_openLoop_26 : decode b_Sc_openLoop 26 = .ok (.iastore, 1) := by decide +kernel
theorem d_Sc_openLoop_27 : decode b_Sc_openLoop 27 = .ok (.iload_n 2, 1) := by decide +kernel
theorem d_Sc_openLoop_28 : decode b_Sc_openLoop 28 = .ok (.ireturn, 1) := by decide +kernel
