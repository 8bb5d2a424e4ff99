/-! instruction and row: names, words, decode rows (printed) -/
abbrev X_I : String := "java/lang/IndexOutOfBoundsException"
abbrev X_E : String := "java/lang/IllegalArgumentException"
abbrev y_UM_instruction : MethodName := ⟨R_UM, "instruction", "(II)I"⟩
abbrev b_UM_instruction : ByteArray := prog_1_method_7_code
abbrev M_UM_instruction : um_M := (y_UM_instruction, b_UM_instruction, 3, some .int)
set_option maxRecDepth 100000 in
theorem wc_UM_instruction : Cond.code M_UM_instruction.1 M_UM_instruction.2.1 M_UM_instruction.2.2.1 M_UM_instruction.2.2.2 ∈ um_AW := um_in 661 (by rfl) rfl
set_option maxRecDepth 100000 in
theorem wnf_UM_instruction : Cond.instanceMethod y_UM_instruction ∈ um_AW := um_in 659 (by decide +kernel) rfl
set_option maxRecDepth 100000 in
theorem wvf_UM_instruction : Cond.selects R_UM y_UM_instruction y_UM_instruction ∈ um_AW := um_in 660 (by decide +kernel) rfl
set_option maxRecDepth 100000 in
theorem wl_Lw_7 : Cond.methodLink R_Lw 7 y_UM_instruction ∈ um_AW := um_in 658 (by decide +kernel) rfl
theorem d_UM_instruction_0 : decode b_UM_instruction 0 = .ok (.iload_n 1, 1) := by decide +kernel
theorem d_UM_instruction_1 : decode b_UM_instruction 1 = .ok (.ifCond .lt 14, 3) := by decide +kernel
theorem d_UM_instruction_4 : decode b_UM_instruction 4 = .ok (.iload_n 1, 1) := by decide +kernel
theorem d_UM_instruction_5 : decode b_UM_instruction 5 = .ok (.aload_n 0, 1) := by decide +kernel
theorem d_UM_instruction_6 : decode b_UM_instruction 6 = .ok (.getfield 19, 3) := by decide +kernel
theorem d_UM_instruction_9 : decode b_UM_instruction 9 = .ok (.getfield 59, 3) := by decide +kernel
theorem d_UM_instruction_12 : decode b_UM_instruction 12 = .ok (.if_icmp .lt 13, 3) := by decide +kernel
theorem d_UM_instruction_15 : decode b_UM_instruction 15 = .ok (.new 72, 3) := by decide +kernel
theorem d_UM_instruction_18 : decode b_UM_instruction 18 = .ok (.dup, 1) := by decide +kernel
theorem d_UM_instruction_19 : decode b_UM_instruction 19 = .ok (.ldc 74, 2) := by decide +kernel
theorem d_UM_instruction_21 : decode b_UM_instruction 21 = .ok (.invokespecial 76, 3) := by decide +kernel
theorem d_UM_instruction_24 : decode b_UM_instruction 24 = .ok (.athrow, 1) := by decide +kernel
theorem d_UM_instruction_25 : decode b_UM_instruction 25 = .ok (.iload_n 2, 1) := by decide +kernel
theorem d_UM_instruction_26 : decode b_UM_instruction 26 = .ok (.ifCond .eq 18, 3) := by decide +kernel
theorem d_UM_instruction_29 : decode b_UM_instruction 29 = .ok (.iload_n 2, 1) := by decide +kernel
theorem d_UM_instruction_30 : decode b_UM_instruction 30 = .ok (.iconst 1, 1) := by decide +kernel
theorem d_UM_instruction_31 : decode b_UM_instruction 31 = .ok (.if_icmp .eq 13, 3) := by decide +kernel
theorem d_UM_instruction_34 : decode b_UM_instruction 34 = .ok (.new 79, 3) := by decide +kernel
theorem d_UM_instruction_37 : decode b_UM_instruction 37 = .ok (.dup, 1) := by decide +kernel
theorem d_UM_instruction_38 : decode b_UM_instruction 38 = .ok (.ldc 81, 2) := by decide +kernel
theorem d_UM_instruction_40 : decode b_UM_instruction 40 = .ok (.invokespecial 83, 3) := by decide +kernel
theorem d_UM_instruction_43 : decode b_UM_instruction 43 = .ok (.athrow, 1) := by decide +kernel
theorem d_UM_instruction_44 : decode b_UM_instruction 44 = .ok (.iload_n 2, 1) := by decide +kernel
theorem d_UM_instruction_45 : decode b_UM_instruction 45 = .ok (.ifCond .ne 15, 3) := by decide +kernel
theorem d_UM_instruction_48 : decode b_UM_instruction 48 = .ok (.aload_n 0, 1) := by decide +kernel
theorem d_UM_instruction_49 : decode b_UM_instruction 49 = .ok (.getfield 19, 3) := by decide +kernel
theorem d_UM_instruction_52 : decode b_UM_instruction 52 = .ok (.getfield 84, 3) := by decide +kernel
theorem d_UM_instruction_55 : decode b_UM_instruction 55 = .ok (.iload_n 1, 1) := by decide +kernel
theorem d_UM_instruction_56 : decode b_UM_instruction 56 = .ok (.iaload, 1) := by decide +kernel
theorem d_UM_instruction_57 : decode b_UM_instruction 57 = .ok (.goto 12, 3) := by decide +kernel
theorem d_UM_instruction_60 : decode b_UM_instruction 60 = .ok (.aload_n 0, 1) := by decide +kernel
theorem d_UM_instruction_61 : decode b_UM_instruction 61 = .ok (.getfield 19, 3) := by decide +kernel
theorem d_UM_instruction_64 : decode b_UM_instruction 64 = .ok (.getfield 88, 3) := by decide +kernel
theorem d_UM_instruction_67 : decode b_UM_instruction 67 = .ok (.iload_n 1, 1) := by decide +kernel
theorem d_UM_instruction_68 : decode b_UM_instruction 68 = .ok (.iaload, 1) := by decide +kernel
theorem d_UM_instruction_69 : decode b_UM_instruction 69 = .ok (.ireturn, 1) := by decide +kernel
abbrev y_Lw_instruction : MethodName := ⟨R_Lw, "instruction", "(LUnwindMill;II[J)I"⟩
abbrev b_Lw_instruction : ByteArray := method_3_code
set_option maxRecDepth 100000 in
theorem wcw_Lw_instruction : Cond.codeWith y_Lw_instruction b_Lw_instruction 5 (some .int) [(0, 10, 13, 13), (0, 10, 17, 15)] ∈ lw_tbl := List.mem_of_getElem? (i := 655) (by rfl)
set_option maxRecDepth 100000 in
theorem wst_Lw_instruction : Cond.static y_Lw_instruction ∈ lw_tbl := List.mem_of_getElem? (i := 654) (by decide +kernel)
set_option maxRecDepth 100000 in
theorem wl_Lw_48 : Cond.methodLink R_Lw 48 y_Lw_instruction ∈ lw_tbl := List.mem_of_getElem? (i := 653) (by decide +kernel)
theorem d_Lw_instruction_0 : decode b_Lw_instruction 0 = .ok (.aload_n 3, 1) := by decide +kernel
theorem d_Lw_instruction_1 : decode b_Lw_instruction 1 = .ok (.iconst 0, 1) := by decide +kernel
theorem d_Lw_instruction_2 : decode b_Lw_instruction 2 = .ok (.aload_n 0, 1) := by decide +kernel
theorem d_Lw_instruction_3 : decode b_Lw_instruction 3 = .ok (.iload_n 1, 1) := by decide +kernel
theorem d_Lw_instruction_4 : decode b_Lw_instruction 4 = .ok (.iload_n 2, 1) := by decide +kernel
theorem d_Lw_instruction_5 : decode b_Lw_instruction 5 = .ok (.invokevirtual 7, 3) := by decide +kernel
theorem d_Lw_instruction_8 : decode b_Lw_instruction 8 = .ok (.i2l, 1) := by decide +kernel
theorem d_Lw_instruction_9 : decode b_Lw_instruction 9 = .ok (.lastore, 1) := by decide +kernel
theorem d_Lw_instruction_10 : decode b_Lw_instruction 10 = .ok (.goto 11, 3) := by decide +kernel
theorem d_Lw_instruction_13 : decode b_Lw_instruction 13 = .ok (.astore 4, 2) := by decide +kernel
theorem d_Lw_instruction_15 : decode b_Lw_instruction 15 = .ok (.iconst 1, 1) := by decide +kernel
theorem d_Lw_instruction_16 : decode b_Lw_instruction 16 = .ok (.ireturn, 1) := by decide +kernel
theorem d_Lw_instruction_17 : decode b_Lw_instruction 17 = .ok (.astore 4, 2) := by decide +kernel
theorem d_Lw_instruction_19 : decode b_Lw_instruction 19 = .ok (.iconst 2, 1) := by decide +kernel
theorem d_Lw_instruction_20 : decode b_Lw_instruction 20 = .ok (.ireturn, 1) := by decide +kernel
theorem d_Lw_instruction_21 : decode b_Lw_instruction 21 = .ok (.iconst 0, 1) := by decide +kernel
theorem d_Lw_instruction_22 : decode b_Lw_instruction 22 = .ok (.ireturn, 1) := by decide +kernel
abbrev y_UM_row : MethodName := ⟨R_UM, "row", "(II)I"⟩
abbrev b_UM_row : ByteArray := prog_1_method_9_code
abbrev M_UM_row : um_M := (y_UM_row, b_UM_row, 3, some .int)
set_option maxRecDepth 100000 in
theorem wc_UM_row : Cond.code M_UM_row.1 M_UM_row.2.1 M_UM_row.2.2.1 M_UM_row.2.2.2 ∈ um_AW := um_in 751 (by rfl) rfl
set_option maxRecDepth 100000 in
theorem wnf_UM_row : Cond.instanceMethod y_UM_row ∈ um_AW := um_in 749 (by decide +kernel) rfl
set_option maxRecDepth 100000 in
theorem wvf_UM_row : Cond.selects R_UM y_UM_row y_UM_row ∈ um_AW := um_in 750 (by decide +kernel) rfl
set_option maxRecDepth 100000 in
theorem wl_Lw_17 : Cond.methodLink R_Lw 17 y_UM_row ∈ um_AW := um_in 748 (by decide +kernel) rfl
theorem d_UM_row_0 : decode b_UM_row 0 = .ok (.iload_n 1, 1) := by decide +kernel
theorem d_UM_row_1 : decode b_UM_row 1 = .ok (.ifCond .lt 14, 3) := by decide +kernel
theorem d_UM_row_4 : decode b_UM_row 4 = .ok (.iload_n 1, 1) := by decide +kernel
theorem d_UM_row_5 : decode b_UM_row 5 = .ok (.aload_n 0, 1) := by decide +kernel
theorem d_UM_row_6 : decode b_UM_row 6 = .ok (.getfield 19, 3) := by decide +kernel
theorem d_UM_row_9 : decode b_UM_row 9 = .ok (.getfield 63, 3) := by decide +kernel
theorem d_UM_row_12 : decode b_UM_row 12 = .ok (.if_icmp .lt 13, 3) := by decide +kernel
theorem d_UM_row_15 : decode b_UM_row 15 = .ok (.new 72, 3) := by decide +kernel
theorem d_UM_row_18 : decode b_UM_row 18 = .ok (.dup, 1) := by decide +kernel
theorem d_UM_row_19 : decode b_UM_row 19 = .ok (.ldc 98, 2) := by decide +kernel
theorem d_UM_row_21 : decode b_UM_row 21 = .ok (.invokespecial 76, 3) := by decide +kernel
theorem d_UM_row_24 : decode b_UM_row 24 = .ok (.athrow, 1) := by decide +kernel
theorem d_UM_row_25 : decode b_UM_row 25 = .ok (.iload_n 2, 1) := by decide +kernel
theorem d_UM_row_26 : decode b_UM_row 26 = .ok (.ifCond .lt 8, 3) := by decide +kernel
theorem d_UM_row_29 : decode b_UM_row 29 = .ok (.iload_n 2, 1) := by decide +kernel
theorem d_UM_row_30 : decode b_UM_row 30 = .ok (.iconst 5, 1) := by decide +kernel
theorem d_UM_row_31 : decode b_UM_row 31 = .ok (.if_icmp .lt 13, 3) := by decide +kernel
theorem d_UM_row_34 : decode b_UM_row 34 = .ok (.new 79, 3) := by decide +kernel
theorem d_UM_row_37 : decode b_UM_row 37 = .ok (.dup, 1) := by decide +kernel
theorem d_UM_row_38 : decode b_UM_row 38 = .ok (.ldc 100, 2) := by decide +kernel
theorem d_UM_row_40 : decode b_UM_row 40 = .ok (.invokespecial 83, 3) := by decide +kernel
theorem d_UM_row_43 : decode b_UM_row 43 = .ok (.athrow, 1) := by decide +kernel
theorem d_UM_row_44 : decode b_UM_row 44 = .ok (.aload_n 0, 1) := by decide +kernel
theorem d_UM_row_45 : decode b_UM_row 45 = .ok (.getfield 19, 3) := by decide +kernel
theorem d_UM_row_48 : decode b_UM_row 48 = .ok (.getfield 102, 3) := by decide +kernel
theorem d_UM_row_51 : decode b_UM_row 51 = .ok (.iload_n 1, 1) := by decide +kernel
theorem d_UM_row_52 : decode b_UM_row 52 = .ok (.iconst 5, 1) := by decide +kernel
theorem d_UM_row_53 : decode b_UM_row 53 = .ok (.imul, 1) := by decide +kernel
theorem d_UM_row_54 : decode b_UM_row 54 = .ok (.iload_n 2, 1) := by decide +kernel
theorem d_UM_row_55 : decode b_UM_row 55 = .ok (.iadd, 1) := by decide +kernel
theorem d_UM_row_56 : decode b_UM_row 56 = .ok (.iaload, 1) := by decide +kernel
theorem d_UM_row_57 : decode b_UM_row 57 = .ok (.ireturn, 1) := by decide +kernel
abbrev y_Lw_row : MethodName := ⟨R_Lw, "row", "(LUnwindMill;II[J)I"⟩
abbrev b_Lw_row : ByteArray := method_4_code
set_option maxRecDepth 100000 in
theorem wcw_Lw_row : Cond.codeWith y_Lw_row b_Lw_row 5 (some .int) [(0, 10, 13, 13), (0, 10, 17, 15)] ∈ lw_tbl := List.mem_of_getElem? (i := 747) (by rfl)
set_option maxRecDepth 100000 in
theorem wst_Lw_row : Cond.static y_Lw_row ∈ lw_tbl := List.mem_of_getElem? (i := 746) (by decide +kernel)
set_option maxRecDepth 100000 in
theorem wl_Lw_62 : Cond.methodLink R_Lw 62 y_Lw_row ∈ lw_tbl := List.mem_of_getElem? (i := 745) (by decide +kernel)
theorem d_Lw_row_0 : decode b_Lw_row 0 = .ok (.aload_n 3, 1) := by decide +kernel
theorem d_Lw_row_1 : decode b_Lw_row 1 = .ok (.iconst 0, 1) := by decide +kernel
theorem d_Lw_row_2 : decode b_Lw_row 2 = .ok (.aload_n 0, 1) := by decide +kernel
theorem d_Lw_row_3 : decode b_Lw_row 3 = .ok (.iload_n 1, 1) := by decide +kernel
theorem d_Lw_row_4 : decode b_Lw_row 4 = .ok (.iload_n 2, 1) := by decide +kernel
theorem d_Lw_row_5 : decode b_Lw_row 5 = .ok (.invokevirtual 17, 3) := by decide +kernel
theorem d_Lw_row_8 : decode b_Lw_row 8 = .ok (.i2l, 1) := by decide +kernel
theorem d_Lw_row_9 : decode b_Lw_row 9 = .ok (.lastore, 1) := by decide +kernel
theorem d_Lw_row_10 : decode b_Lw_row 10 = .ok (.goto 11, 3) := by decide +kernel
theorem d_Lw_row_13 : decode b_Lw_row 13 = .ok (.astore 4, 2) := by decide +kernel
theorem d_Lw_row_15 : decode b_Lw_row 15 = .ok (.iconst 1, 1) := by decide +kernel
theorem d_Lw_row_16 : decode b_Lw_row 16 = .ok (.ireturn, 1) := by decide +kernel
theorem d_Lw_row_17 : decode b_Lw_row 17 = .ok (.astore 4, 2) := by decide +kernel
theorem d_Lw_row_19 : decode b_Lw_row 19 = .ok (.iconst 2, 1) := by decide +kernel
theorem d_Lw_row_20 : decode b_Lw_row 20 = .ok (.ireturn, 1) := by decide +kernel
theorem d_Lw_row_21 : decode b_Lw_row 21 = .ok (.iconst 0, 1) := by decide +kernel
theorem d_Lw_row_22 : decode b_Lw_row 22 = .ok (.ireturn, 1) := by decide +kernel
set_option maxRecDepth 100000 in
theorem wi_Lw : Cond.initialized R_Lw ∈ lw_tbl := List.mem_of_getElem? (i := 72) (by decide +kernel)
set_option maxRecDepth 100000 in
theorem wcl_Lw_13 : Cond.classLink R_Lw 13 X_I ∈ um_AW := um_in 656 (by decide +kernel) rfl
set_option maxRecDepth 100000 in
theorem wcl_Lw_15 : Cond.classLink R_Lw 15 X_E ∈ um_AW := um_in 657 (by decide +kernel) rfl
set_option maxRecDepth 100000 in
theorem wcl_UM_72 : Cond.classLink R_UM 72 X_I ∈ um_AW := um_in 662 (by decide +kernel) rfl
set_option maxRecDepth 100000 in
theorem wi_X_I : Cond.initialized X_I ∈ um_AW := um_in 87 (by decide +kernel) rfl
set_option maxRecDepth 100000 in
theorem wca_X_I : Cond.castable X_I X_I ∈ lw_tbl := List.mem_of_getElem? (i := 664) (by decide +kernel)
set_option maxRecDepth 100000 in
theorem wcl_UM_79 : Cond.classLink R_UM 79 X_E ∈ um_AW := um_in 729 (by decide +kernel) rfl
set_option maxRecDepth 100000 in
theorem wi_X_E : Cond.initialized X_E ∈ um_AW := um_in 88 (by decide +kernel) rfl
set_option maxRecDepth 100000 in
theorem wca_X_E : Cond.castable X_E X_E ∈ lw_tbl := List.mem_of_getElem? (i := 731) (by decide +kernel)
abbrev x_74 : String := "no such instruction"
set_option maxRecDepth 100000 in
theorem wsr_74 : Cond.stringRef R_UM 74 x_74 ∈ lw_tbl := List.mem_of_getElem? (i := 702) (by decide +kernel)
abbrev x_81 : String := "what is 0 or 1"
set_option maxRecDepth 100000 in
theorem wsr_81 : Cond.stringRef R_UM 81 x_81 ∈ lw_tbl := List.mem_of_getElem? (i := 738) (by decide +kernel)
abbrev x_98 : String := "no such row"
set_option maxRecDepth 100000 in
theorem wsr_98 : Cond.stringRef R_UM 98 x_98 ∈ lw_tbl := List.mem_of_getElem? (i := 752) (by decide +kernel)
abbrev x_100 : String := "what is 0 to 4"
set_option maxRecDepth 100000 in
theorem wsr_100 : Cond.stringRef R_UM 100 x_100 ∈ lw_tbl := List.mem_of_getElem? (i := 753) (by decide +kernel)
set_option maxRecDepth 100000 in
theorem wf_UM_84 : Cond.fieldLink R_UM 84 (F_Co 0).1 (F_Co 0).2.1 (F_Co 0).2.2.1 ∈ um_AW := um_in 129 (by decide +kernel) rfl
theorem f_UM_84 : um_Fd um_cl um_AW R_UM 84 2 0 := ⟨R_Co, F_Co, 9, cl_Co, by decide, Or.inl wf_UM_84⟩
set_option maxRecDepth 100000 in
theorem wf_UM_88 : Cond.fieldLink R_UM 88 (F_Co 1).1 (F_Co 1).2.1 (F_Co 1).2.2.1 ∈ um_AW := um_in 133 (by decide +kernel) rfl
theorem f_UM_88 : um_Fd um_cl um_AW R_UM 88 2 1 := ⟨R_Co, F_Co, 9, cl_Co, by decide, Or.inl wf_UM_88⟩
set_option maxRecDepth 100000 in
theorem wf_UM_102 : Cond.fieldLink R_UM 102 (F_Co 4).1 (F_Co 4).2.1 (F_Co 4).2.2.1 ∈ um_AW := um_in 143 (by decide +kernel) rfl
theorem f_UM_102 : um_Fd um_cl um_AW R_UM 102 2 4 := ⟨R_Co, F_Co, 9, cl_Co, by decide, Or.inl wf_UM_102⟩
abbrev th_up : List String := ["java/lang/RuntimeException", "java/lang/Exception"]
abbrev th_r1 : Cond := .isRef (.static Bundle.tN "UNASSIGNED_STACK" Bundle.steD)
abbrev th_r2 : Cond := .isRef (.static Bundle.tN "SUPPRESSED_SENTINEL" Bundle.listD)
set_option maxRecDepth 100000 in
set_option maxHeartbeats 4000000 in
theorem th_at_X_I : ∀ w ∈ Bundle.ownAtoms R_UM 76 X_I th_up, w ∈ lw_tbl ∨ w = th_r1 ∨ w = th_r2 := by decide +kernel
set_option maxRecDepth 100000 in
theorem th_mv_X_I : ∀ w ∈ Bundle.ownAtoms R_UM 76 X_I th_up, th_mv w = true := by decide +kernel
set_option maxRecDepth 100000 in
set_option maxHeartbeats 4000000 in
theorem th_at_X_E : ∀ w ∈ Bundle.ownAtoms R_UM 83 X_E th_up, w ∈ lw_tbl ∨ w = th_r1 ∨ w = th_r2 := by decide +kernel
set_option maxRecDepth 100000 in
theorem th_mv_X_E : ∀ w ∈ Bundle.ownAtoms R_UM 83 X_E th_up, th_mv w = true := by decide +kernel
