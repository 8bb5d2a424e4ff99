/-! constructors: names, words, decode rows -/
set_option maxRecDepth 100000 in
theorem wo_inst : Cond.instanceMethod Lib.objectInit ∈ um_AW := um_in 95 (by decide +kernel) rfl
set_option maxRecDepth 100000 in
theorem wo_code : Cond.code Lib.objectInit ⟨#[0xb1]⟩ 1 none ∈ um_AW := um_in 96 (by rfl) rfl
set_option maxRecDepth 100000 in
theorem wo_arr : Cond.arrayClass .int ∈ um_AW := um_in 120 (by decide +kernel) rfl
abbrev y_Tr_init : MethodName := ⟨R_Tr, "<init>", "()V"⟩
abbrev b_Tr_init : ByteArray := prog_9_method_1_code
abbrev M_Tr_init : um_M := (y_Tr_init, b_Tr_init, 1, none)
set_option maxRecDepth 100000 in
theorem wii_Tr : Cond.initialized R_Tr ∈ um_AW := um_in 74 (by decide +kernel) rfl
set_option maxRecDepth 100000 in
theorem wc_Tr_init : Cond.code M_Tr_init.1 M_Tr_init.2.1 M_Tr_init.2.2.1 M_Tr_init.2.2.2 ∈ um_AW := um_in 101 (by rfl) rfl
set_option maxRecDepth 100000 in
theorem wn_Tr_init : Cond.instanceMethod M_Tr_init.1 ∈ um_AW := um_in 100 (by decide +kernel) rfl
set_option maxRecDepth 100000 in
theorem wt_Tr : Cond.instantiable R_Tr 4 ∈ um_AW := um_in 98 (by decide +kernel) rfl
theorem t_Tr_ok : ∀ k, k < 4 → parseFieldDescriptor (F_Tr k).2.2.1 = some (t_Tr k) := by decide +kernel
theorem n_Tr_ok : ∀ a, a < 4 → ∀ b, b < 4 → a ≠ b → (F_Tr a).2.1 ≠ (F_Tr b).2.1 := by decide +kernel
abbrev y_Co_init : MethodName := ⟨R_Co, "<init>", "()V"⟩
abbrev b_Co_init : ByteArray := prog_2_method_1_code
abbrev M_Co_init : um_M := (y_Co_init, b_Co_init, 1, none)
set_option maxRecDepth 100000 in
theorem wii_Co : Cond.initialized R_Co ∈ um_AW := um_in 76 (by decide +kernel) rfl
set_option maxRecDepth 100000 in
theorem wc_Co_init : Cond.code M_Co_init.1 M_Co_init.2.1 M_Co_init.2.2.1 M_Co_init.2.2.2 ∈ um_AW := um_in 125 (by rfl) rfl
set_option maxRecDepth 100000 in
theorem wn_Co_init : Cond.instanceMethod M_Co_init.1 ∈ um_AW := um_in 124 (by decide +kernel) rfl
set_option maxRecDepth 100000 in
theorem wt_Co : Cond.instantiable R_Co 9 ∈ um_AW := um_in 122 (by decide +kernel) rfl
theorem t_Co_ok : ∀ k, k < 9 → parseFieldDescriptor (F_Co k).2.2.1 = some (t_Co k) := by decide +kernel
theorem n_Co_ok : ∀ a, a < 9 → ∀ b, b < 9 → a ≠ b → (F_Co a).2.1 ≠ (F_Co b).2.1 := by decide +kernel
abbrev y_Sc_init : MethodName := ⟨R_Sc, "<init>", "()V"⟩
abbrev b_Sc_init : ByteArray := prog_8_method_1_code
abbrev M_Sc_init : um_M := (y_Sc_init, b_Sc_init, 1, none)
set_option maxRecDepth 100000 in
theorem wii_Sc : Cond.initialized R_Sc ∈ um_AW := um_in 78 (by decide +kernel) rfl
set_option maxRecDepth 100000 in
theorem wc_Sc_init : Cond.code M_Sc_init.1 M_Sc_init.2.1 M_Sc_init.2.2.1 M_Sc_init.2.2.2 ∈ um_AW := um_in 186 (by rfl) rfl
set_option maxRecDepth 100000 in
theorem wn_Sc_init : Cond.instanceMethod M_Sc_init.1 ∈ um_AW := um_in 185 (by decide +kernel) rfl
set_option maxRecDepth 100000 in
theorem wt_Sc : Cond.instantiable R_Sc 10 ∈ um_AW := um_in 183 (by decide +kernel) rfl
theorem t_Sc_ok : ∀ k, k < 10 → parseFieldDescriptor (F_Sc k).2.2.1 = some (t_Sc k) := by decide +kernel
theorem n_Sc_ok : ∀ a, a < 10 → ∀ b, b < 10 → a ≠ b → (F_Sc a).2.1 ≠ (F_Sc b).2.1 := by decide +kernel
abbrev y_Wo_init : MethodName := ⟨R_Wo, "<init>", "()V"⟩
abbrev b_Wo_init : ByteArray := prog_10_method_1_code
abbrev M_Wo_init : um_M := (y_Wo_init, b_Wo_init, 1, none)
set_option maxRecDepth 100000 in
theorem wii_Wo : Cond.initialized R_Wo ∈ um_AW := um_in 79 (by decide +kernel) rfl
set_option maxRecDepth 100000 in
theorem wc_Wo_init : Cond.code M_Wo_init.1 M_Wo_init.2.1 M_Wo_init.2.2.1 M_Wo_init.2.2.2 ∈ um_AW := um_in 230 (by rfl) rfl
set_option maxRecDepth 100000 in
theorem wn_Wo_init : Cond.instanceMethod M_Wo_init.1 ∈ um_AW := um_in 229 (by decide +kernel) rfl
set_option maxRecDepth 100000 in
theorem wt_Wo : Cond.instantiable R_Wo 5 ∈ um_AW := um_in 227 (by decide +kernel) rfl
theorem t_Wo_ok : ∀ k, k < 5 → parseFieldDescriptor (F_Wo k).2.2.1 = some (t_Wo k) := by decide +kernel
theorem n_Wo_ok : ∀ a, a < 5 → ∀ b, b < 5 → a ≠ b → (F_Wo a).2.1 ≠ (F_Wo b).2.1 := by decide +kernel
abbrev y_Ha_init : MethodName := ⟨R_Ha, "<init>", "()V"⟩
abbrev b_Ha_init : ByteArray := prog_3_method_1_code
abbrev M_Ha_init : um_M := (y_Ha_init, b_Ha_init, 1, none)
set_option maxRecDepth 100000 in
theorem wii_Ha : Cond.initialized R_Ha ∈ um_AW := um_in 80 (by decide +kernel) rfl
set_option maxRecDepth 100000 in
theorem wc_Ha_init : Cond.code M_Ha_init.1 M_Ha_init.2.1 M_Ha_init.2.2.1 M_Ha_init.2.2.2 ∈ um_AW := um_in 257 (by rfl) rfl
set_option maxRecDepth 100000 in
theorem wn_Ha_init : Cond.instanceMethod M_Ha_init.1 ∈ um_AW := um_in 256 (by decide +kernel) rfl
set_option maxRecDepth 100000 in
theorem wt_Ha : Cond.instantiable R_Ha 4 ∈ um_AW := um_in 254 (by decide +kernel) rfl
theorem t_Ha_ok : ∀ k, k < 4 → parseFieldDescriptor (F_Ha k).2.2.1 = some (t_Ha k) := by decide +kernel
theorem n_Ha_ok : ∀ a, a < 4 → ∀ b, b < 4 → a ≠ b → (F_Ha a).2.1 ≠ (F_Ha b).2.1 := by decide +kernel
abbrev y_La_init : MethodName := ⟨R_La, "<init>", "(LUnwindMill$Tree;LUnwindMill$Code;)V"⟩
abbrev b_La_init : ByteArray := prog_5_method_1_code
abbrev M_La_init : um_M := (y_La_init, b_La_init, 3, none)
set_option maxRecDepth 100000 in
theorem wii_La : Cond.initialized R_La ∈ um_AW := um_in 77 (by decide +kernel) rfl
set_option maxRecDepth 100000 in
theorem wc_La_init : Cond.code M_La_init.1 M_La_init.2.1 M_La_init.2.2.1 M_La_init.2.2.2 ∈ um_AW := um_in 180 (by rfl) rfl
set_option maxRecDepth 100000 in
theorem wn_La_init : Cond.instanceMethod M_La_init.1 ∈ um_AW := um_in 179 (by decide +kernel) rfl
set_option maxRecDepth 100000 in
theorem wt_La : Cond.instantiable R_La 9 ∈ um_AW := um_in 177 (by decide +kernel) rfl
theorem t_La_ok : ∀ k, k < 9 → parseFieldDescriptor (F_La k).2.2.1 = some (t_La k) := by decide +kernel
theorem n_La_ok : ∀ a, a < 9 → ∀ b, b < 9 → a ≠ b → (F_La a).2.1 ≠ (F_La b).2.1 := by decide +kernel
abbrev y_Ma_init : MethodName := ⟨R_Ma, "<init>", "(LUnwindMill$Code;)V"⟩
abbrev b_Ma_init : ByteArray := prog_6_method_1_code
abbrev M_Ma_init : um_M := (y_Ma_init, b_Ma_init, 2, none)
set_option maxRecDepth 100000 in
theorem wii_Ma : Cond.initialized R_Ma ∈ um_AW := um_in 81 (by decide +kernel) rfl
set_option maxRecDepth 100000 in
theorem wc_Ma_init : Cond.code M_Ma_init.1 M_Ma_init.2.1 M_Ma_init.2.2.1 M_Ma_init.2.2.2 ∈ um_AW := um_in 308 (by rfl) rfl
set_option maxRecDepth 100000 in
theorem wn_Ma_init : Cond.instanceMethod M_Ma_init.1 ∈ um_AW := um_in 307 (by decide +kernel) rfl
set_option maxRecDepth 100000 in
theorem wt_Ma : Cond.instantiable R_Ma 11 ∈ um_AW := um_in 305 (by decide +kernel) rfl
theorem t_Ma_ok : ∀ k, k < 11 → parseFieldDescriptor (F_Ma k).2.2.1 = some (t_Ma k) := by decide +kernel
theorem n_Ma_ok : ∀ a, a < 11 → ∀ b, b < 11 → a ≠ b → (F_Ma a).2.1 ≠ (F_Ma b).2.1 := by decide +kernel
abbrev y_UM_init : MethodName := ⟨R_UM, "<init>", "()V"⟩
abbrev b_UM_init : ByteArray := prog_1_method_1_code
abbrev M_UM_init : um_M := (y_UM_init, b_UM_init, 1, none)
set_option maxRecDepth 100000 in
theorem wii_UM : Cond.initialized R_UM ∈ um_AW := um_in 73 (by decide +kernel) rfl
set_option maxRecDepth 100000 in
theorem wc_UM_init : Cond.code M_UM_init.1 M_UM_init.2.1 M_UM_init.2.2.1 M_UM_init.2.2.2 ∈ um_AW := um_in 93 (by rfl) rfl
set_option maxRecDepth 100000 in
theorem wn_UM_init : Cond.instanceMethod M_UM_init.1 ∈ um_AW := um_in 92 (by decide +kernel) rfl
set_option maxRecDepth 100000 in
theorem wt_UM : Cond.instantiable R_UM 4 ∈ um_AW := um_in 90 (by decide +kernel) rfl
theorem t_UM_ok : ∀ k, k < 4 → parseFieldDescriptor (F_UM k).2.2.1 = some (t_UM k) := by decide +kernel
theorem n_UM_ok : ∀ a, a < 4 → ∀ b, b < 4 → a ≠ b → (F_UM a).2.1 ≠ (F_UM b).2.1 := by decide +kernel
abbrev y_Mo_init : MethodName := ⟨R_Mo, "<init>", "()V"⟩
abbrev b_Mo_init : ByteArray := prog_12_method_1_code
abbrev M_Mo_init : um_M := (y_Mo_init, b_Mo_init, 2, none)
set_option maxRecDepth 100000 in
theorem wii_Mo : Cond.initialized R_Mo ∈ um_AW := um_in 82 (by decide +kernel) rfl
set_option maxRecDepth 100000 in
theorem wc_Mo_init : Cond.code M_Mo_init.1 M_Mo_init.2.1 M_Mo_init.2.2.1 M_Mo_init.2.2.2 ∈ um_AW := um_in 758 (by rfl) rfl
set_option maxRecDepth 100000 in
theorem wn_Mo_init : Cond.instanceMethod M_Mo_init.1 ∈ um_AW := um_in 757 (by decide +kernel) rfl
set_option maxRecDepth 100000 in
theorem wt_Mo : Cond.instantiable R_Mo 58 ∈ um_AW := um_in 755 (by decide +kernel) rfl
theorem t_Mo_ok : ∀ k, k < 58 → parseFieldDescriptor (F_Mo k).2.2.1 = some (t_Mo k) := by decide +kernel
theorem n_Mo_ok : ∀ a, a < 58 → ∀ b, b < 58 → a ≠ b → (F_Mo a).2.1 ≠ (F_Mo b).2.1 := by decide +kernel
theorem d_Tr_init_0 : decode b_Tr_init 0 = .ok (.aload_n 0, 1) := by decide +kernel
theorem d_Tr_init_1 : decode b_Tr_init 1 = .ok (.invokespecial 3, 3) := by decide +kernel
set_option maxRecDepth 100000 in
theorem wlo_Tr : Cond.methodLink R_Tr 3 Lib.objectInit ∈ um_AW := um_in 102 (by decide +kernel) rfl
theorem d_Tr_init_4 : decode b_Tr_init 4 = .ok (.aload_n 0, 1) := by decide +kernel
theorem d_Tr_init_5 : decode b_Tr_init 5 = .ok (.sipush 150, 3) := by decide +kernel
theorem d_Tr_init_8 : decode b_Tr_init 8 = .ok (.newarray .int, 2) := by decide +kernel
theorem d_Tr_init_10 : decode b_Tr_init 10 = .ok (.putfield 9, 3) := by decide +kernel
set_option maxRecDepth 100000 in
theorem wfi_Tr_9 : Cond.fieldLink R_Tr 9 (F_Tr 0).1 (F_Tr 0).2.1 (F_Tr 0).2.2.1 ∈ um_AW := um_in 106 (by decide +kernel) rfl
theorem d_Tr_init_13 : decode b_Tr_init 13 = .ok (.aload_n 0, 1) := by decide +kernel
theorem d_Tr_init_14 : decode b_Tr_init 14 = .ok (.sipush 750, 3) := by decide +kernel
theorem d_Tr_init_17 : decode b_Tr_init 17 = .ok (.newarray .int, 2) := by decide +kernel
theorem d_Tr_init_19 : decode b_Tr_init 19 = .ok (.putfield 15, 3) := by decide +kernel
set_option maxRecDepth 100000 in
theorem wfi_Tr_15 : Cond.fieldLink R_Tr 15 (F_Tr 1).1 (F_Tr 1).2.1 (F_Tr 1).2.2.1 ∈ um_AW := um_in 107 (by decide +kernel) rfl
theorem d_Tr_init_22 : decode b_Tr_init 22 = .ok (.aload_n 0, 1) := by decide +kernel
theorem d_Tr_init_23 : decode b_Tr_init 23 = .ok (.bipush 6, 2) := by decide +kernel
theorem d_Tr_init_25 : decode b_Tr_init 25 = .ok (.newarray .int, 2) := by decide +kernel
theorem d_Tr_init_27 : decode b_Tr_init 27 = .ok (.putfield 18, 3) := by decide +kernel
set_option maxRecDepth 100000 in
theorem wfi_Tr_18 : Cond.fieldLink R_Tr 18 (F_Tr 2).1 (F_Tr 2).2.1 (F_Tr 2).2.2.1 ∈ um_AW := um_in 108 (by decide +kernel) rfl
theorem d_Tr_init_30 : decode b_Tr_init 30 = .ok (.aload_n 0, 1) := by decide +kernel
theorem d_Tr_init_31 : decode b_Tr_init 31 = .ok (.getfield 18, 3) := by decide +kernel
theorem d_Tr_init_34 : decode b_Tr_init 34 = .ok (.iconst (-1), 1) := by decide +kernel
theorem d_Tr_init_35 : decode b_Tr_init 35 = .ok (.invokestatic 21, 3) := by decide +kernel
set_option maxRecDepth 100000 in
theorem wls_Tr_21 : Cond.methodLink R_Tr 21 M_Ar_fill_AII.1 ∈ um_AW := um_in 103 (by decide +kernel) rfl
theorem d_Tr_init_38 : decode b_Tr_init 38 = .ok (.return_, 1) := by decide +kernel
theorem d_Co_init_0 : decode b_Co_init 0 = .ok (.aload_n 0, 1) := by decide +kernel
theorem d_Co_init_1 : decode b_Co_init 1 = .ok (.invokespecial 3, 3) := by decide +kernel
set_option maxRecDepth 100000 in
theorem wlo_Co : Cond.methodLink R_Co 3 Lib.objectInit ∈ um_AW := um_in 126 (by decide +kernel) rfl
theorem d_Co_init_4 : decode b_Co_init 4 = .ok (.aload_n 0, 1) := by decide +kernel
theorem d_Co_init_5 : decode b_Co_init 5 = .ok (.sipush 1000, 3) := by decide +kernel
theorem d_Co_init_8 : decode b_Co_init 8 = .ok (.newarray .int, 2) := by decide +kernel
theorem d_Co_init_10 : decode b_Co_init 10 = .ok (.putfield 9, 3) := by decide +kernel
set_option maxRecDepth 100000 in
theorem wfi_Co_9 : Cond.fieldLink R_Co 9 (F_Co 0).1 (F_Co 0).2.1 (F_Co 0).2.2.1 ∈ um_AW := um_in 127 (by decide +kernel) rfl
theorem d_Co_init_13 : decode b_Co_init 13 = .ok (.aload_n 0, 1) := by decide +kernel
theorem d_Co_init_14 : decode b_Co_init 14 = .ok (.sipush 1000, 3) := by decide +kernel
theorem d_Co_init_17 : decode b_Co_init 17 = .ok (.newarray .int, 2) := by decide +kernel
theorem d_Co_init_19 : decode b_Co_init 19 = .ok (.putfield 15, 3) := by decide +kernel
set_option maxRecDepth 100000 in
theorem wfi_Co_15 : Cond.fieldLink R_Co 15 (F_Co 1).1 (F_Co 1).2.1 (F_Co 1).2.2.1 ∈ um_AW := um_in 131 (by decide +kernel) rfl
theorem d_Co_init_22 : decode b_Co_init 22 = .ok (.aload_n 0, 1) := by decide +kernel
theorem d_Co_init_23 : decode b_Co_init 23 = .ok (.sipush 1000, 3) := by decide +kernel
theorem d_Co_init_26 : decode b_Co_init 26 = .ok (.newarray .int, 2) := by decide +kernel
theorem d_Co_init_28 : decode b_Co_init 28 = .ok (.putfield 18, 3) := by decide +kernel
set_option maxRecDepth 100000 in
theorem wfi_Co_18 : Cond.fieldLink R_Co 18 (F_Co 2).1 (F_Co 2).2.1 (F_Co 2).2.2.1 ∈ um_AW := um_in 135 (by decide +kernel) rfl
theorem d_Co_init_31 : decode b_Co_init 31 = .ok (.aload_n 0, 1) := by decide +kernel
theorem d_Co_init_32 : decode b_Co_init 32 = .ok (.bipush 6, 2) := by decide +kernel
theorem d_Co_init_34 : decode b_Co_init 34 = .ok (.newarray .int, 2) := by decide +kernel
theorem d_Co_init_36 : decode b_Co_init 36 = .ok (.putfield 21, 3) := by decide +kernel
set_option maxRecDepth 100000 in
theorem wfi_Co_21 : Cond.fieldLink R_Co 21 (F_Co 3).1 (F_Co 3).2.1 (F_Co 3).2.2.1 ∈ um_AW := um_in 137 (by decide +kernel) rfl
theorem d_Co_init_39 : decode b_Co_init 39 = .ok (.aload_n 0, 1) := by decide +kernel
theorem d_Co_init_40 : decode b_Co_init 40 = .ok (.sipush 1500, 3) := by decide +kernel
theorem d_Co_init_43 : decode b_Co_init 43 = .ok (.newarray .int, 2) := by decide +kernel
theorem d_Co_init_45 : decode b_Co_init 45 = .ok (.putfield 24, 3) := by decide +kernel
set_option maxRecDepth 100000 in
theorem wfi_Co_24 : Cond.fieldLink R_Co 24 (F_Co 4).1 (F_Co 4).2.1 (F_Co 4).2.2.1 ∈ um_AW := um_in 141 (by decide +kernel) rfl
theorem d_Co_init_48 : decode b_Co_init 48 = .ok (.return_, 1) := by decide +kernel
theorem d_Sc_init_0 : decode b_Sc_init 0 = .ok (.aload_n 0, 1) := by decide +kernel
theorem d_Sc_init_1 : decode b_Sc_init 1 = .ok (.invokespecial 3, 3) := by decide +kernel
set_option maxRecDepth 100000 in
theorem wlo_Sc : Cond.methodLink R_Sc 3 Lib.objectInit ∈ um_AW := um_in 187 (by decide +kernel) rfl
theorem d_Sc_init_4 : decode b_Sc_init 4 = .ok (.aload_n 0, 1) := by decide +kernel
theorem d_Sc_init_5 : decode b_Sc_init 5 = .ok (.sipush 2001, 3) := by decide +kernel
theorem d_Sc_init_8 : decode b_Sc_init 8 = .ok (.newarray .int, 2) := by decide +kernel
theorem d_Sc_init_10 : decode b_Sc_init 10 = .ok (.putfield 11, 3) := by decide +kernel
set_option maxRecDepth 100000 in
theorem wfi_Sc_11 : Cond.fieldLink R_Sc 11 (F_Sc 0).1 (F_Sc 0).2.1 (F_Sc 0).2.2.1 ∈ um_AW := um_in 188 (by decide +kernel) rfl
theorem d_Sc_init_13 : decode b_Sc_init 13 = .ok (.aload_n 0, 1) := by decide +kernel
theorem d_Sc_init_14 : decode b_Sc_init 14 = .ok (.sipush 2001, 3) := by decide +kernel
theorem d_Sc_init_17 : decode b_Sc_init 17 = .ok (.newarray .int, 2) := by decide +kernel
theorem d_Sc_init_19 : decode b_Sc_init 19 = .ok (.putfield 15, 3) := by decide +kernel
set_option maxRecDepth 100000 in
theorem wfi_Sc_15 : Cond.fieldLink R_Sc 15 (F_Sc 1).1 (F_Sc 1).2.1 (F_Sc 1).2.2.1 ∈ um_AW := um_in 190 (by decide +kernel) rfl
theorem d_Sc_init_22 : decode b_Sc_init 22 = .ok (.aload_n 0, 1) := by decide +kernel
theorem d_Sc_init_23 : decode b_Sc_init 23 = .ok (.sipush 2001, 3) := by decide +kernel
theorem d_Sc_init_26 : decode b_Sc_init 26 = .ok (.newarray .int, 2) := by decide +kernel
theorem d_Sc_init_28 : decode b_Sc_init 28 = .ok (.putfield 18, 3) := by decide +kernel
set_option maxRecDepth 100000 in
theorem wfi_Sc_18 : Cond.fieldLink R_Sc 18 (F_Sc 2).1 (F_Sc 2).2.1 (F_Sc 2).2.2.1 ∈ um_AW := um_in 192 (by decide +kernel) rfl
theorem d_Sc_init_31 : decode b_Sc_init 31 = .ok (.aload_n 0, 1) := by decide +kernel
theorem d_Sc_init_32 : decode b_Sc_init 32 = .ok (.sipush 2001, 3) := by decide +kernel
theorem d_Sc_init_35 : decode b_Sc_init 35 = .ok (.newarray .int, 2) := by decide +kernel
theorem d_Sc_init_37 : decode b_Sc_init 37 = .ok (.putfield 21, 3) := by decide +kernel
set_option maxRecDepth 100000 in
theorem wfi_Sc_21 : Cond.fieldLink R_Sc 21 (F_Sc 3).1 (F_Sc 3).2.1 (F_Sc 3).2.2.1 ∈ um_AW := um_in 194 (by decide +kernel) rfl
theorem d_Sc_init_40 : decode b_Sc_init 40 = .ok (.aload_n 0, 1) := by decide +kernel
theorem d_Sc_init_41 : decode b_Sc_init 41 = .ok (.sipush 2001, 3) := by decide +kernel
theorem d_Sc_init_44 : decode b_Sc_init 44 = .ok (.newarray .int, 2) := by decide +kernel
theorem d_Sc_init_46 : decode b_Sc_init 46 = .ok (.putfield 24, 3) := by decide +kernel
set_option maxRecDepth 100000 in
theorem wfi_Sc_24 : Cond.fieldLink R_Sc 24 (F_Sc 4).1 (F_Sc 4).2.1 (F_Sc 4).2.2.1 ∈ um_AW := um_in 196 (by decide +kernel) rfl
theorem d_Sc_init_49 : decode b_Sc_init 49 = .ok (.aload_n 0, 1) := by decide +kernel
theorem d_Sc_init_50 : decode b_Sc_init 50 = .ok (.sipush 2001, 3) := by decide +kernel
theorem d_Sc_init_53 : decode b_Sc_init 53 = .ok (.newarray .int, 2) := by decide +kernel
theorem d_Sc_init_55 : decode b_Sc_init 55 = .ok (.putfield 27, 3) := by decide +kernel
set_option maxRecDepth 100000 in
theorem wfi_Sc_27 : Cond.fieldLink R_Sc 27 (F_Sc 5).1 (F_Sc 5).2.1 (F_Sc 5).2.2.1 ∈ um_AW := um_in 198 (by decide +kernel) rfl
theorem d_Sc_init_58 : decode b_Sc_init 58 = .ok (.aload_n 0, 1) := by decide +kernel
theorem d_Sc_init_59 : decode b_Sc_init 59 = .ok (.sipush 2001, 3) := by decide +kernel
theorem d_Sc_init_62 : decode b_Sc_init 62 = .ok (.newarray .int, 2) := by decide +kernel
theorem d_Sc_init_64 : decode b_Sc_init 64 = .ok (.putfield 30, 3) := by decide +kernel
set_option maxRecDepth 100000 in
theorem wfi_Sc_30 : Cond.fieldLink R_Sc 30 (F_Sc 6).1 (F_Sc 6).2.1 (F_Sc 6).2.2.1 ∈ um_AW := um_in 200 (by decide +kernel) rfl
theorem d_Sc_init_67 : decode b_Sc_init 67 = .ok (.aload_n 0, 1) := by decide +kernel
theorem d_Sc_init_68 : decode b_Sc_init 68 = .ok (.sipush 2001, 3) := by decide +kernel
theorem d_Sc_init_71 : decode b_Sc_init 71 = .ok (.newarray .int, 2) := by decide +kernel
theorem d_Sc_init_73 : decode b_Sc_init 73 = .ok (.putfield 33, 3) := by decide +kernel
set_option maxRecDepth 100000 in
theorem wfi_Sc_33 : Cond.fieldLink R_Sc 33 (F_Sc 7).1 (F_Sc 7).2.1 (F_Sc 7).2.2.1 ∈ um_AW := um_in 202 (by decide +kernel) rfl
theorem d_Sc_init_76 : decode b_Sc_init 76 = .ok (.return_, 1) := by decide +kernel
theorem d_Wo_init_0 : decode b_Wo_init 0 = .ok (.aload_n 0, 1) := by decide +kernel
theorem d_Wo_init_1 : decode b_Wo_init 1 = .ok (.invokespecial 3, 3) := by decide +kernel
set_option maxRecDepth 100000 in
theorem wlo_Wo : Cond.methodLink R_Wo 3 Lib.objectInit ∈ um_AW := um_in 231 (by decide +kernel) rfl
theorem d_Wo_init_4 : decode b_Wo_init 4 = .ok (.aload_n 0, 1) := by decide +kernel
theorem d_Wo_init_5 : decode b_Wo_init 5 = .ok (.sipush 2001, 3) := by decide +kernel
theorem d_Wo_init_8 : decode b_Wo_init 8 = .ok (.newarray .int, 2) := by decide +kernel
theorem d_Wo_init_10 : decode b_Wo_init 10 = .ok (.putfield 11, 3) := by decide +kernel
set_option maxRecDepth 100000 in
theorem wfi_Wo_11 : Cond.fieldLink R_Wo 11 (F_Wo 0).1 (F_Wo 0).2.1 (F_Wo 0).2.2.1 ∈ um_AW := um_in 232 (by decide +kernel) rfl
theorem d_Wo_init_13 : decode b_Wo_init 13 = .ok (.aload_n 0, 1) := by decide +kernel
theorem d_Wo_init_14 : decode b_Wo_init 14 = .ok (.sipush 2001, 3) := by decide +kernel
theorem d_Wo_init_17 : decode b_Wo_init 17 = .ok (.newarray .int, 2) := by decide +kernel
theorem d_Wo_init_19 : decode b_Wo_init 19 = .ok (.putfield 15, 3) := by decide +kernel
set_option maxRecDepth 100000 in
theorem wfi_Wo_15 : Cond.fieldLink R_Wo 15 (F_Wo 1).1 (F_Wo 1).2.1 (F_Wo 1).2.2.1 ∈ um_AW := um_in 234 (by decide +kernel) rfl
theorem d_Wo_init_22 : decode b_Wo_init 22 = .ok (.aload_n 0, 1) := by decide +kernel
theorem d_Wo_init_23 : decode b_Wo_init 23 = .ok (.sipush 2001, 3) := by decide +kernel
theorem d_Wo_init_26 : decode b_Wo_init 26 = .ok (.newarray .int, 2) := by decide +kernel
theorem d_Wo_init_28 : decode b_Wo_init 28 = .ok (.putfield 18, 3) := by decide +kernel
set_option maxRecDepth 100000 in
theorem wfi_Wo_18 : Cond.fieldLink R_Wo 18 (F_Wo 2).1 (F_Wo 2).2.1 (F_Wo 2).2.2.1 ∈ um_AW := um_in 236 (by decide +kernel) rfl
theorem d_Wo_init_31 : decode b_Wo_init 31 = .ok (.aload_n 0, 1) := by decide +kernel
theorem d_Wo_init_32 : decode b_Wo_init 32 = .ok (.sipush 2001, 3) := by decide +kernel
theorem d_Wo_init_35 : decode b_Wo_init 35 = .ok (.newarray .int, 2) := by decide +kernel
theorem d_Wo_init_37 : decode b_Wo_init 37 = .ok (.putfield 21, 3) := by decide +kernel
set_option maxRecDepth 100000 in
theorem wfi_Wo_21 : Cond.fieldLink R_Wo 21 (F_Wo 3).1 (F_Wo 3).2.1 (F_Wo 3).2.2.1 ∈ um_AW := um_in 238 (by decide +kernel) rfl
theorem d_Wo_init_40 : decode b_Wo_init 40 = .ok (.return_, 1) := by decide +kernel
theorem d_Ha_init_0 : decode b_Ha_init 0 = .ok (.aload_n 0, 1) := by decide +kernel
theorem d_Ha_init_1 : decode b_Ha_init 1 = .ok (.invokespecial 3, 3) := by decide +kernel
set_option maxRecDepth 100000 in
theorem wlo_Ha : Cond.methodLink R_Ha 3 Lib.objectInit ∈ um_AW := um_in 258 (by decide +kernel) rfl
theorem d_Ha_init_4 : decode b_Ha_init 4 = .ok (.aload_n 0, 1) := by decide +kernel
theorem d_Ha_init_5 : decode b_Ha_init 5 = .ok (.sipush 501, 3) := by decide +kernel
theorem d_Ha_init_8 : decode b_Ha_init 8 = .ok (.newarray .int, 2) := by decide +kernel
theorem d_Ha_init_10 : decode b_Ha_init 10 = .ok (.putfield 11, 3) := by decide +kernel
set_option maxRecDepth 100000 in
theorem wfi_Ha_11 : Cond.fieldLink R_Ha 11 (F_Ha 0).1 (F_Ha 0).2.1 (F_Ha 0).2.2.1 ∈ um_AW := um_in 259 (by decide +kernel) rfl
theorem d_Ha_init_13 : decode b_Ha_init 13 = .ok (.aload_n 0, 1) := by decide +kernel
theorem d_Ha_init_14 : decode b_Ha_init 14 = .ok (.sipush 501, 3) := by decide +kernel
theorem d_Ha_init_17 : decode b_Ha_init 17 = .ok (.newarray .int, 2) := by decide +kernel
theorem d_Ha_init_19 : decode b_Ha_init 19 = .ok (.putfield 15, 3) := by decide +kernel
set_option maxRecDepth 100000 in
theorem wfi_Ha_15 : Cond.fieldLink R_Ha 15 (F_Ha 1).1 (F_Ha 1).2.1 (F_Ha 1).2.2.1 ∈ um_AW := um_in 261 (by decide +kernel) rfl
theorem d_Ha_init_22 : decode b_Ha_init 22 = .ok (.aload_n 0, 1) := by decide +kernel
theorem d_Ha_init_23 : decode b_Ha_init 23 = .ok (.sipush 501, 3) := by decide +kernel
theorem d_Ha_init_26 : decode b_Ha_init 26 = .ok (.newarray .int, 2) := by decide +kernel
theorem d_Ha_init_28 : decode b_Ha_init 28 = .ok (.putfield 18, 3) := by decide +kernel
set_option maxRecDepth 100000 in
theorem wfi_Ha_18 : Cond.fieldLink R_Ha 18 (F_Ha 2).1 (F_Ha 2).2.1 (F_Ha 2).2.2.1 ∈ um_AW := um_in 263 (by decide +kernel) rfl
theorem d_Ha_init_31 : decode b_Ha_init 31 = .ok (.return_, 1) := by decide +kernel
theorem d_La_init_0 : decode b_La_init 0 = .ok (.aload_n 0, 1) := by decide +kernel
theorem d_La_init_1 : decode b_La_init 1 = .ok (.invokespecial 3, 3) := by decide +kernel
set_option maxRecDepth 100000 in
theorem wlo_La : Cond.methodLink R_La 3 Lib.objectInit ∈ um_AW := um_in 181 (by decide +kernel) rfl
theorem d_La_init_4 : decode b_La_init 4 = .ok (.aload_n 0, 1) := by decide +kernel
theorem d_La_init_5 : decode b_La_init 5 = .ok (.new 9, 3) := by decide +kernel
set_option maxRecDepth 100000 in
theorem wcl_La_9 : Cond.classLink R_La 9 R_Sc ∈ um_AW := um_in 182 (by decide +kernel) rfl
theorem d_La_init_8 : decode b_La_init 8 = .ok (.dup, 1) := by decide +kernel
theorem d_La_init_9 : decode b_La_init 9 = .ok (.invokespecial 11, 3) := by decide +kernel
theorem d_La_init_12 : decode b_La_init 12 = .ok (.putfield 12, 3) := by decide +kernel
set_option maxRecDepth 100000 in
theorem wfi_La_12 : Cond.fieldLink R_La 12 (F_La 2).1 (F_La 2).2.1 (F_La 2).2.2.1 ∈ um_AW := um_in 278 (by decide +kernel) rfl
theorem d_La_init_15 : decode b_La_init 15 = .ok (.aload_n 0, 1) := by decide +kernel
theorem d_La_init_16 : decode b_La_init 16 = .ok (.new 18, 3) := by decide +kernel
set_option maxRecDepth 100000 in
theorem wcl_La_18 : Cond.classLink R_La 18 R_Wo ∈ um_AW := um_in 226 (by decide +kernel) rfl
theorem d_La_init_19 : decode b_La_init 19 = .ok (.dup, 1) := by decide +kernel
theorem d_La_init_20 : decode b_La_init 20 = .ok (.invokespecial 20, 3) := by decide +kernel
theorem d_La_init_23 : decode b_La_init 23 = .ok (.putfield 21, 3) := by decide +kernel
set_option maxRecDepth 100000 in
theorem wfi_La_21 : Cond.fieldLink R_La 21 (F_La 3).1 (F_La 3).2.1 (F_La 3).2.2.1 ∈ um_AW := um_in 279 (by decide +kernel) rfl
theorem d_La_init_26 : decode b_La_init 26 = .ok (.aload_n 0, 1) := by decide +kernel
theorem d_La_init_27 : decode b_La_init 27 = .ok (.new 25, 3) := by decide +kernel
set_option maxRecDepth 100000 in
theorem wcl_La_25 : Cond.classLink R_La 25 R_Ha ∈ um_AW := um_in 253 (by decide +kernel) rfl
theorem d_La_init_30 : decode b_La_init 30 = .ok (.dup, 1) := by decide +kernel
theorem d_La_init_31 : decode b_La_init 31 = .ok (.invokespecial 27, 3) := by decide +kernel
theorem d_La_init_34 : decode b_La_init 34 = .ok (.putfield 28, 3) := by decide +kernel
set_option maxRecDepth 100000 in
theorem wfi_La_28 : Cond.fieldLink R_La 28 (F_La 4).1 (F_La 4).2.1 (F_La 4).2.2.1 ∈ um_AW := um_in 280 (by decide +kernel) rfl
theorem d_La_init_37 : decode b_La_init 37 = .ok (.aload_n 0, 1) := by decide +kernel
theorem d_La_init_38 : decode b_La_init 38 = .ok (.sipush 2000, 3) := by decide +kernel
theorem d_La_init_41 : decode b_La_init 41 = .ok (.newarray .int, 2) := by decide +kernel
theorem d_La_init_43 : decode b_La_init 43 = .ok (.putfield 32, 3) := by decide +kernel
set_option maxRecDepth 100000 in
theorem wfi_La_32 : Cond.fieldLink R_La 32 (F_La 5).1 (F_La 5).2.1 (F_La 5).2.2.1 ∈ um_AW := um_in 281 (by decide +kernel) rfl
theorem d_La_init_46 : decode b_La_init 46 = .ok (.aload_n 0, 1) := by decide +kernel
theorem d_La_init_47 : decode b_La_init 47 = .ok (.aload_n 1, 1) := by decide +kernel
theorem d_La_init_48 : decode b_La_init 48 = .ok (.putfield 36, 3) := by decide +kernel
set_option maxRecDepth 100000 in
theorem wfi_La_36 : Cond.fieldLink R_La 36 (F_La 0).1 (F_La 0).2.1 (F_La 0).2.2.1 ∈ um_AW := um_in 276 (by decide +kernel) rfl
theorem d_La_init_51 : decode b_La_init 51 = .ok (.aload_n 0, 1) := by decide +kernel
theorem d_La_init_52 : decode b_La_init 52 = .ok (.aload_n 2, 1) := by decide +kernel
theorem d_La_init_53 : decode b_La_init 53 = .ok (.putfield 40, 3) := by decide +kernel
set_option maxRecDepth 100000 in
theorem wfi_La_40 : Cond.fieldLink R_La 40 (F_La 1).1 (F_La 1).2.1 (F_La 1).2.2.1 ∈ um_AW := um_in 277 (by decide +kernel) rfl
theorem d_La_init_56 : decode b_La_init 56 = .ok (.return_, 1) := by decide +kernel
theorem d_Ma_init_0 : decode b_Ma_init 0 = .ok (.aload_n 0, 1) := by decide +kernel
theorem d_Ma_init_1 : decode b_Ma_init 1 = .ok (.invokespecial 3, 3) := by decide +kernel
set_option maxRecDepth 100000 in
theorem wlo_Ma : Cond.methodLink R_Ma 3 Lib.objectInit ∈ um_AW := um_in 309 (by decide +kernel) rfl
theorem d_Ma_init_4 : decode b_Ma_init 4 = .ok (.aload_n 0, 1) := by decide +kernel
theorem d_Ma_init_5 : decode b_Ma_init 5 = .ok (.bipush 8, 2) := by decide +kernel
theorem d_Ma_init_7 : decode b_Ma_init 7 = .ok (.newarray .int, 2) := by decide +kernel
theorem d_Ma_init_9 : decode b_Ma_init 9 = .ok (.putfield 9, 3) := by decide +kernel
set_option maxRecDepth 100000 in
theorem wfi_Ma_9 : Cond.fieldLink R_Ma 9 (F_Ma 1).1 (F_Ma 1).2.1 (F_Ma 1).2.2.1 ∈ um_AW := um_in 311 (by decide +kernel) rfl
theorem d_Ma_init_12 : decode b_Ma_init 12 = .ok (.aload_n 0, 1) := by decide +kernel
theorem d_Ma_init_13 : decode b_Ma_init 13 = .ok (.bipush 64, 2) := by decide +kernel
theorem d_Ma_init_15 : decode b_Ma_init 15 = .ok (.newarray .int, 2) := by decide +kernel
theorem d_Ma_init_17 : decode b_Ma_init 17 = .ok (.putfield 15, 3) := by decide +kernel
set_option maxRecDepth 100000 in
theorem wfi_Ma_15 : Cond.fieldLink R_Ma 15 (F_Ma 2).1 (F_Ma 2).2.1 (F_Ma 2).2.2.1 ∈ um_AW := um_in 313 (by decide +kernel) rfl
theorem d_Ma_init_20 : decode b_Ma_init 20 = .ok (.aload_n 0, 1) := by decide +kernel
theorem d_Ma_init_21 : decode b_Ma_init 21 = .ok (.bipush 6, 2) := by decide +kernel
theorem d_Ma_init_23 : decode b_Ma_init 23 = .ok (.newarray .int, 2) := by decide +kernel
theorem d_Ma_init_25 : decode b_Ma_init 25 = .ok (.putfield 18, 3) := by decide +kernel
set_option maxRecDepth 100000 in
theorem wfi_Ma_18 : Cond.fieldLink R_Ma 18 (F_Ma 3).1 (F_Ma 3).2.1 (F_Ma 3).2.2.1 ∈ um_AW := um_in 315 (by decide +kernel) rfl
theorem d_Ma_init_28 : decode b_Ma_init 28 = .ok (.aload_n 0, 1) := by decide +kernel
theorem d_Ma_init_29 : decode b_Ma_init 29 = .ok (.sipush 150, 3) := by decide +kernel
theorem d_Ma_init_32 : decode b_Ma_init 32 = .ok (.newarray .int, 2) := by decide +kernel
theorem d_Ma_init_34 : decode b_Ma_init 34 = .ok (.putfield 21, 3) := by decide +kernel
set_option maxRecDepth 100000 in
theorem wfi_Ma_21 : Cond.fieldLink R_Ma 21 (F_Ma 5).1 (F_Ma 5).2.1 (F_Ma 5).2.2.1 ∈ um_AW := um_in 319 (by decide +kernel) rfl
theorem d_Ma_init_37 : decode b_Ma_init 37 = .ok (.aload_n 0, 1) := by decide +kernel
theorem d_Ma_init_38 : decode b_Ma_init 38 = .ok (.bipush 12, 2) := by decide +kernel
theorem d_Ma_init_40 : decode b_Ma_init 40 = .ok (.newarray .int, 2) := by decide +kernel
theorem d_Ma_init_42 : decode b_Ma_init 42 = .ok (.putfield 24, 3) := by decide +kernel
set_option maxRecDepth 100000 in
theorem wfi_Ma_24 : Cond.fieldLink R_Ma 24 (F_Ma 7).1 (F_Ma 7).2.1 (F_Ma 7).2.2.1 ∈ um_AW := um_in 321 (by decide +kernel) rfl
theorem d_Ma_init_45 : decode b_Ma_init 45 = .ok (.aload_n 0, 1) := by decide +kernel
theorem d_Ma_init_46 : decode b_Ma_init 46 = .ok (.sipush 1800, 3) := by decide +kernel
theorem d_Ma_init_49 : decode b_Ma_init 49 = .ok (.newarray .int, 2) := by decide +kernel
theorem d_Ma_init_51 : decode b_Ma_init 51 = .ok (.putfield 27, 3) := by decide +kernel
set_option maxRecDepth 100000 in
theorem wfi_Ma_27 : Cond.fieldLink R_Ma 27 (F_Ma 8).1 (F_Ma 8).2.1 (F_Ma 8).2.2.1 ∈ um_AW := um_in 322 (by decide +kernel) rfl
theorem d_Ma_init_54 : decode b_Ma_init 54 = .ok (.aload_n 0, 1) := by decide +kernel
theorem d_Ma_init_55 : decode b_Ma_init 55 = .ok (.aload_n 1, 1) := by decide +kernel
theorem d_Ma_init_56 : decode b_Ma_init 56 = .ok (.putfield 30, 3) := by decide +kernel
set_option maxRecDepth 100000 in
theorem wfi_Ma_30 : Cond.fieldLink R_Ma 30 (F_Ma 0).1 (F_Ma 0).2.1 (F_Ma 0).2.2.1 ∈ um_AW := um_in 310 (by decide +kernel) rfl
theorem d_Ma_init_59 : decode b_Ma_init 59 = .ok (.return_, 1) := by decide +kernel
theorem d_UM_init_0 : decode b_UM_init 0 = .ok (.aload_n 0, 1) := by decide +kernel
theorem d_UM_init_1 : decode b_UM_init 1 = .ok (.invokespecial 1, 3) := by decide +kernel
set_option maxRecDepth 100000 in
theorem wlo_UM : Cond.methodLink R_UM 1 Lib.objectInit ∈ um_AW := um_in 94 (by decide +kernel) rfl
theorem d_UM_init_4 : decode b_UM_init 4 = .ok (.aload_n 0, 1) := by decide +kernel
theorem d_UM_init_5 : decode b_UM_init 5 = .ok (.new 7, 3) := by decide +kernel
set_option maxRecDepth 100000 in
theorem wcl_UM_7 : Cond.classLink R_UM 7 R_Tr ∈ um_AW := um_in 97 (by decide +kernel) rfl
theorem d_UM_init_8 : decode b_UM_init 8 = .ok (.dup, 1) := by decide +kernel
theorem d_UM_init_9 : decode b_UM_init 9 = .ok (.invokespecial 9, 3) := by decide +kernel
set_option maxRecDepth 100000 in
theorem wli_UM_9 : Cond.methodLink R_UM 9 M_Tr_init.1 ∈ um_AW := um_in 99 (by decide +kernel) rfl
theorem d_UM_init_12 : decode b_UM_init 12 = .ok (.putfield 10, 3) := by decide +kernel
set_option maxRecDepth 100000 in
theorem wfi_UM_10 : Cond.fieldLink R_UM 10 (F_UM 0).1 (F_UM 0).2.1 (F_UM 0).2.2.1 ∈ um_AW := um_in 348 (by decide +kernel) rfl
theorem d_UM_init_15 : decode b_UM_init 15 = .ok (.aload_n 0, 1) := by decide +kernel
theorem d_UM_init_16 : decode b_UM_init 16 = .ok (.new 16, 3) := by decide +kernel
set_option maxRecDepth 100000 in
theorem wcl_UM_16 : Cond.classLink R_UM 16 R_Co ∈ um_AW := um_in 121 (by decide +kernel) rfl
theorem d_UM_init_19 : decode b_UM_init 19 = .ok (.dup, 1) := by decide +kernel
theorem d_UM_init_20 : decode b_UM_init 20 = .ok (.invokespecial 18, 3) := by decide +kernel
theorem d_UM_init_23 : decode b_UM_init 23 = .ok (.putfield 19, 3) := by decide +kernel
set_option maxRecDepth 100000 in
theorem wfi_UM_19 : Cond.fieldLink R_UM 19 (F_UM 1).1 (F_UM 1).2.1 (F_UM 1).2.2.1 ∈ um_AW := um_in 349 (by decide +kernel) rfl
theorem d_UM_init_26 : decode b_UM_init 26 = .ok (.aload_n 0, 1) := by decide +kernel
theorem d_UM_init_27 : decode b_UM_init 27 = .ok (.new 23, 3) := by decide +kernel
set_option maxRecDepth 100000 in
theorem wcl_UM_23 : Cond.classLink R_UM 23 R_La ∈ um_AW := um_in 176 (by decide +kernel) rfl
theorem d_UM_init_30 : decode b_UM_init 30 = .ok (.dup, 1) := by decide +kernel
theorem d_UM_init_31 : decode b_UM_init 31 = .ok (.aload_n 0, 1) := by decide +kernel
theorem d_UM_init_32 : decode b_UM_init 32 = .ok (.getfield 10, 3) := by decide +kernel
theorem d_UM_init_35 : decode b_UM_init 35 = .ok (.aload_n 0, 1) := by decide +kernel
theorem d_UM_init_36 : decode b_UM_init 36 = .ok (.getfield 19, 3) := by decide +kernel
theorem d_UM_init_39 : decode b_UM_init 39 = .ok (.invokespecial 25, 3) := by decide +kernel
set_option maxRecDepth 100000 in
theorem wli_UM_25 : Cond.methodLink R_UM 25 M_La_init.1 ∈ um_AW := um_in 178 (by decide +kernel) rfl
theorem d_UM_init_42 : decode b_UM_init 42 = .ok (.putfield 28, 3) := by decide +kernel
set_option maxRecDepth 100000 in
theorem wfi_UM_28 : Cond.fieldLink R_UM 28 (F_UM 2).1 (F_UM 2).2.1 (F_UM 2).2.2.1 ∈ um_AW := um_in 350 (by decide +kernel) rfl
theorem d_UM_init_45 : decode b_UM_init 45 = .ok (.aload_n 0, 1) := by decide +kernel
theorem d_UM_init_46 : decode b_UM_init 46 = .ok (.new 32, 3) := by decide +kernel
set_option maxRecDepth 100000 in
theorem wcl_UM_32 : Cond.classLink R_UM 32 R_Ma ∈ um_AW := um_in 304 (by decide +kernel) rfl
theorem d_UM_init_49 : decode b_UM_init 49 = .ok (.dup, 1) := by decide +kernel
theorem d_UM_init_50 : decode b_UM_init 50 = .ok (.aload_n 0, 1) := by decide +kernel
theorem d_UM_init_51 : decode b_UM_init 51 = .ok (.getfield 19, 3) := by decide +kernel
theorem d_UM_init_54 : decode b_UM_init 54 = .ok (.invokespecial 34, 3) := by decide +kernel
set_option maxRecDepth 100000 in
theorem wli_UM_34 : Cond.methodLink R_UM 34 M_Ma_init.1 ∈ um_AW := um_in 306 (by decide +kernel) rfl
theorem d_UM_init_57 : decode b_UM_init 57 = .ok (.putfield 37, 3) := by decide +kernel
set_option maxRecDepth 100000 in
theorem wfi_UM_37 : Cond.fieldLink R_UM 37 (F_UM 3).1 (F_UM 3).2.1 (F_UM 3).2.2.1 ∈ um_AW := um_in 351 (by decide +kernel) rfl
theorem d_UM_init_60 : decode b_UM_init 60 = .ok (.return_, 1) := by decide +kernel
theorem d_Mo_init_0 : decode b_Mo_init 0 = .ok (.aload_n 0, 1) := by decide +kernel
theorem d_Mo_init_1 : decode b_Mo_init 1 = .ok (.invokespecial 1, 3) := by decide +kernel
set_option maxRecDepth 100000 in
theorem wlo_Mo : Cond.methodLink R_Mo 1 Lib.objectInit ∈ um_AW := um_in 759 (by decide +kernel) rfl
theorem d_Mo_init_4 : decode b_Mo_init 4 = .ok (.aload_n 0, 1) := by decide +kernel
theorem d_Mo_init_5 : decode b_Mo_init 5 = .ok (.sipush 150, 3) := by decide +kernel
theorem d_Mo_init_8 : decode b_Mo_init 8 = .ok (.newarray .int, 2) := by decide +kernel
theorem d_Mo_init_10 : decode b_Mo_init 10 = .ok (.putfield 7, 3) := by decide +kernel
set_option maxRecDepth 100000 in
theorem wfi_Mo_7 : Cond.fieldLink R_Mo 7 (F_Mo 2).1 (F_Mo 2).2.1 (F_Mo 2).2.2.1 ∈ um_AW := um_in 762 (by decide +kernel) rfl
theorem d_Mo_init_13 : decode b_Mo_init 13 = .ok (.aload_n 0, 1) := by decide +kernel
theorem d_Mo_init_14 : decode b_Mo_init 14 = .ok (.sipush 150, 3) := by decide +kernel
theorem d_Mo_init_17 : decode b_Mo_init 17 = .ok (.newarray .int, 2) := by decide +kernel
theorem d_Mo_init_19 : decode b_Mo_init 19 = .ok (.putfield 13, 3) := by decide +kernel
set_option maxRecDepth 100000 in
theorem wfi_Mo_13 : Cond.fieldLink R_Mo 13 (F_Mo 3).1 (F_Mo 3).2.1 (F_Mo 3).2.2.1 ∈ um_AW := um_in 763 (by decide +kernel) rfl
theorem d_Mo_init_22 : decode b_Mo_init 22 = .ok (.aload_n 0, 1) := by decide +kernel
theorem d_Mo_init_23 : decode b_Mo_init 23 = .ok (.sipush 150, 3) := by decide +kernel
theorem d_Mo_init_26 : decode b_Mo_init 26 = .ok (.newarray .int, 2) := by decide +kernel
theorem d_Mo_init_28 : decode b_Mo_init 28 = .ok (.putfield 16, 3) := by decide +kernel
set_option maxRecDepth 100000 in
theorem wfi_Mo_16 : Cond.fieldLink R_Mo 16 (F_Mo 4).1 (F_Mo 4).2.1 (F_Mo 4).2.2.1 ∈ um_AW := um_in 764 (by decide +kernel) rfl
theorem d_Mo_init_31 : decode b_Mo_init 31 = .ok (.aload_n 0, 1) := by decide +kernel
theorem d_Mo_init_32 : decode b_Mo_init 32 = .ok (.sipush 150, 3) := by decide +kernel
theorem d_Mo_init_35 : decode b_Mo_init 35 = .ok (.newarray .int, 2) := by decide +kernel
theorem d_Mo_init_37 : decode b_Mo_init 37 = .ok (.putfield 19, 3) := by decide +kernel
set_option maxRecDepth 100000 in
theorem wfi_Mo_19 : Cond.fieldLink R_Mo 19 (F_Mo 5).1 (F_Mo 5).2.1 (F_Mo 5).2.2.1 ∈ um_AW := um_in 765 (by decide +kernel) rfl
theorem d_Mo_init_40 : decode b_Mo_init 40 = .ok (.aload_n 0, 1) := by decide +kernel
theorem d_Mo_init_41 : decode b_Mo_init 41 = .ok (.sipush 150, 3) := by decide +kernel
theorem d_Mo_init_44 : decode b_Mo_init 44 = .ok (.newarray .int, 2) := by decide +kernel
theorem d_Mo_init_46 : decode b_Mo_init 46 = .ok (.putfield 22, 3) := by decide +kernel
set_option maxRecDepth 100000 in
theorem wfi_Mo_22 : Cond.fieldLink R_Mo 22 (F_Mo 6).1 (F_Mo 6).2.1 (F_Mo 6).2.2.1 ∈ um_AW := um_in 766 (by decide +kernel) rfl
theorem d_Mo_init_49 : decode b_Mo_init 49 = .ok (.aload_n 0, 1) := by decide +kernel
theorem d_Mo_init_50 : decode b_Mo_init 50 = .ok (.sipush 150, 3) := by decide +kernel
theorem d_Mo_init_53 : decode b_Mo_init 53 = .ok (.newarray .int, 2) := by decide +kernel
theorem d_Mo_init_55 : decode b_Mo_init 55 = .ok (.putfield 25, 3) := by decide +kernel
set_option maxRecDepth 100000 in
theorem wfi_Mo_25 : Cond.fieldLink R_Mo 25 (F_Mo 7).1 (F_Mo 7).2.1 (F_Mo 7).2.2.1 ∈ um_AW := um_in 767 (by decide +kernel) rfl
theorem d_Mo_init_58 : decode b_Mo_init 58 = .ok (.aload_n 0, 1) := by decide +kernel
theorem d_Mo_init_59 : decode b_Mo_init 59 = .ok (.bipush 6, 2) := by decide +kernel
theorem d_Mo_init_61 : decode b_Mo_init 61 = .ok (.newarray .int, 2) := by decide +kernel
theorem d_Mo_init_63 : decode b_Mo_init 63 = .ok (.putfield 28, 3) := by decide +kernel
set_option maxRecDepth 100000 in
theorem wfi_Mo_28 : Cond.fieldLink R_Mo 28 (F_Mo 8).1 (F_Mo 8).2.1 (F_Mo 8).2.2.1 ∈ um_AW := um_in 768 (by decide +kernel) rfl
theorem d_Mo_init_66 : decode b_Mo_init 66 = .ok (.aload_n 0, 1) := by decide +kernel
theorem d_Mo_init_67 : decode b_Mo_init 67 = .ok (.sipush 1000, 3) := by decide +kernel
theorem d_Mo_init_70 : decode b_Mo_init 70 = .ok (.newarray .int, 2) := by decide +kernel
theorem d_Mo_init_72 : decode b_Mo_init 72 = .ok (.putfield 31, 3) := by decide +kernel
set_option maxRecDepth 100000 in
theorem wfi_Mo_31 : Cond.fieldLink R_Mo 31 (F_Mo 11).1 (F_Mo 11).2.1 (F_Mo 11).2.2.1 ∈ um_AW := um_in 771 (by decide +kernel) rfl
theorem d_Mo_init_75 : decode b_Mo_init 75 = .ok (.aload_n 0, 1) := by decide +kernel
theorem d_Mo_init_76 : decode b_Mo_init 76 = .ok (.sipush 1000, 3) := by decide +kernel
theorem d_Mo_init_79 : decode b_Mo_init 79 = .ok (.newarray .int, 2) := by decide +kernel
theorem d_Mo_init_81 : decode b_Mo_init 81 = .ok (.putfield 34, 3) := by decide +kernel
set_option maxRecDepth 100000 in
theorem wfi_Mo_34 : Cond.fieldLink R_Mo 34 (F_Mo 12).1 (F_Mo 12).2.1 (F_Mo 12).2.2.1 ∈ um_AW := um_in 772 (by decide +kernel) rfl
theorem d_Mo_init_84 : decode b_Mo_init 84 = .ok (.aload_n 0, 1) := by decide +kernel
theorem d_Mo_init_85 : decode b_Mo_init 85 = .ok (.sipush 1000, 3) := by decide +kernel
theorem d_Mo_init_88 : decode b_Mo_init 88 = .ok (.newarray .int, 2) := by decide +kernel
theorem d_Mo_init_90 : decode b_Mo_init 90 = .ok (.putfield 37, 3) := by decide +kernel
set_option maxRecDepth 100000 in
theorem wfi_Mo_37 : Cond.fieldLink R_Mo 37 (F_Mo 13).1 (F_Mo 13).2.1 (F_Mo 13).2.2.1 ∈ um_AW := um_in 773 (by decide +kernel) rfl
theorem d_Mo_init_93 : decode b_Mo_init 93 = .ok (.aload_n 0, 1) := by decide +kernel
theorem d_Mo_init_94 : decode b_Mo_init 94 = .ok (.sipush 300, 3) := by decide +kernel
theorem d_Mo_init_97 : decode b_Mo_init 97 = .ok (.newarray .int, 2) := by decide +kernel
theorem d_Mo_init_99 : decode b_Mo_init 99 = .ok (.putfield 40, 3) := by decide +kernel
set_option maxRecDepth 100000 in
theorem wfi_Mo_40 : Cond.fieldLink R_Mo 40 (F_Mo 15).1 (F_Mo 15).2.1 (F_Mo 15).2.2.1 ∈ um_AW := um_in 775 (by decide +kernel) rfl
theorem d_Mo_init_102 : decode b_Mo_init 102 = .ok (.aload_n 0, 1) := by decide +kernel
theorem d_Mo_init_103 : decode b_Mo_init 103 = .ok (.sipush 300, 3) := by decide +kernel
theorem d_Mo_init_106 : decode b_Mo_init 106 = .ok (.newarray .int, 2) := by decide +kernel
theorem d_Mo_init_108 : decode b_Mo_init 108 = .ok (.putfield 43, 3) := by decide +kernel
set_option maxRecDepth 100000 in
theorem wfi_Mo_43 : Cond.fieldLink R_Mo 43 (F_Mo 16).1 (F_Mo 16).2.1 (F_Mo 16).2.2.1 ∈ um_AW := um_in 776 (by decide +kernel) rfl
theorem d_Mo_init_111 : decode b_Mo_init 111 = .ok (.aload_n 0, 1) := by decide +kernel
theorem d_Mo_init_112 : decode b_Mo_init 112 = .ok (.sipush 300, 3) := by decide +kernel
theorem d_Mo_init_115 : decode b_Mo_init 115 = .ok (.newarray .int, 2) := by decide +kernel
theorem d_Mo_init_117 : decode b_Mo_init 117 = .ok (.putfield 46, 3) := by decide +kernel
set_option maxRecDepth 100000 in
theorem wfi_Mo_46 : Cond.fieldLink R_Mo 46 (F_Mo 17).1 (F_Mo 17).2.1 (F_Mo 17).2.2.1 ∈ um_AW := um_in 777 (by decide +kernel) rfl
theorem d_Mo_init_120 : decode b_Mo_init 120 = .ok (.aload_n 0, 1) := by decide +kernel
theorem d_Mo_init_121 : decode b_Mo_init 121 = .ok (.sipush 300, 3) := by decide +kernel
theorem d_Mo_init_124 : decode b_Mo_init 124 = .ok (.newarray .int, 2) := by decide +kernel
theorem d_Mo_init_126 : decode b_Mo_init 126 = .ok (.putfield 49, 3) := by decide +kernel
set_option maxRecDepth 100000 in
theorem wfi_Mo_49 : Cond.fieldLink R_Mo 49 (F_Mo 18).1 (F_Mo 18).2.1 (F_Mo 18).2.2.1 ∈ um_AW := um_in 778 (by decide +kernel) rfl
theorem d_Mo_init_129 : decode b_Mo_init 129 = .ok (.aload_n 0, 1) := by decide +kernel
theorem d_Mo_init_130 : decode b_Mo_init 130 = .ok (.sipush 300, 3) := by decide +kernel
theorem d_Mo_init_133 : decode b_Mo_init 133 = .ok (.newarray .int, 2) := by decide +kernel
theorem d_Mo_init_135 : decode b_Mo_init 135 = .ok (.putfield 52, 3) := by decide +kernel
set_option maxRecDepth 100000 in
theorem wfi_Mo_52 : Cond.fieldLink R_Mo 52 (F_Mo 19).1 (F_Mo 19).2.1 (F_Mo 19).2.2.1 ∈ um_AW := um_in 779 (by decide +kernel) rfl
theorem d_Mo_init_138 : decode b_Mo_init 138 = .ok (.aload_n 0, 1) := by decide +kernel
theorem d_Mo_init_139 : decode b_Mo_init 139 = .ok (.bipush 6, 2) := by decide +kernel
theorem d_Mo_init_141 : decode b_Mo_init 141 = .ok (.newarray .int, 2) := by decide +kernel
theorem d_Mo_init_143 : decode b_Mo_init 143 = .ok (.putfield 55, 3) := by decide +kernel
set_option maxRecDepth 100000 in
theorem wfi_Mo_55 : Cond.fieldLink R_Mo 55 (F_Mo 22).1 (F_Mo 22).2.1 (F_Mo 22).2.2.1 ∈ um_AW := um_in 782 (by decide +kernel) rfl
theorem d_Mo_init_146 : decode b_Mo_init 146 = .ok (.aload_n 0, 1) := by decide +kernel
theorem d_Mo_init_147 : decode b_Mo_init 147 = .ok (.sipush 2001, 3) := by decide +kernel
theorem d_Mo_init_150 : decode b_Mo_init 150 = .ok (.newarray .int, 2) := by decide +kernel
theorem d_Mo_init_152 : decode b_Mo_init 152 = .ok (.putfield 58, 3) := by decide +kernel
set_option maxRecDepth 100000 in
theorem wfi_Mo_58 : Cond.fieldLink R_Mo 58 (F_Mo 24).1 (F_Mo 24).2.1 (F_Mo 24).2.2.1 ∈ um_AW := um_in 784 (by decide +kernel) rfl
theorem d_Mo_init_155 : decode b_Mo_init 155 = .ok (.aload_n 0, 1) := by decide +kernel
theorem d_Mo_init_156 : decode b_Mo_init 156 = .ok (.sipush 2001, 3) := by decide +kernel
theorem d_Mo_init_159 : decode b_Mo_init 159 = .ok (.newarray .int, 2) := by decide +kernel
theorem d_Mo_init_161 : decode b_Mo_init 161 = .ok (.putfield 61, 3) := by decide +kernel
set_option maxRecDepth 100000 in
theorem wfi_Mo_61 : Cond.fieldLink R_Mo 61 (F_Mo 25).1 (F_Mo 25).2.1 (F_Mo 25).2.2.1 ∈ um_AW := um_in 785 (by decide +kernel) rfl
theorem d_Mo_init_164 : decode b_Mo_init 164 = .ok (.aload_n 0, 1) := by decide +kernel
theorem d_Mo_init_165 : decode b_Mo_init 165 = .ok (.sipush 2001, 3) := by decide +kernel
theorem d_Mo_init_168 : decode b_Mo_init 168 = .ok (.newarray .int, 2) := by decide +kernel
theorem d_Mo_init_170 : decode b_Mo_init 170 = .ok (.putfield 64, 3) := by decide +kernel
set_option maxRecDepth 100000 in
theorem wfi_Mo_64 : Cond.fieldLink R_Mo 64 (F_Mo 26).1 (F_Mo 26).2.1 (F_Mo 26).2.2.1 ∈ um_AW := um_in 786 (by decide +kernel) rfl
theorem d_Mo_init_173 : decode b_Mo_init 173 = .ok (.aload_n 0, 1) := by decide +kernel
theorem d_Mo_init_174 : decode b_Mo_init 174 = .ok (.sipush 2001, 3) := by decide +kernel
theorem d_Mo_init_177 : decode b_Mo_init 177 = .ok (.newarray .int, 2) := by decide +kernel
theorem d_Mo_init_179 : decode b_Mo_init 179 = .ok (.putfield 67, 3) := by decide +kernel
set_option maxRecDepth 100000 in
theorem wfi_Mo_67 : Cond.fieldLink R_Mo 67 (F_Mo 27).1 (F_Mo 27).2.1 (F_Mo 27).2.2.1 ∈ um_AW := um_in 787 (by decide +kernel) rfl
theorem d_Mo_init_182 : decode b_Mo_init 182 = .ok (.aload_n 0, 1) := by decide +kernel
theorem d_Mo_init_183 : decode b_Mo_init 183 = .ok (.sipush 2001, 3) := by decide +kernel
theorem d_Mo_init_186 : decode b_Mo_init 186 = .ok (.newarray .int, 2) := by decide +kernel
theorem d_Mo_init_188 : decode b_Mo_init 188 = .ok (.putfield 70, 3) := by decide +kernel
set_option maxRecDepth 100000 in
theorem wfi_Mo_70 : Cond.fieldLink R_Mo 70 (F_Mo 28).1 (F_Mo 28).2.1 (F_Mo 28).2.2.1 ∈ um_AW := um_in 788 (by decide +kernel) rfl
theorem d_Mo_init_191 : decode b_Mo_init 191 = .ok (.aload_n 0, 1) := by decide +kernel
theorem d_Mo_init_192 : decode b_Mo_init 192 = .ok (.sipush 2001, 3) := by decide +kernel
theorem d_Mo_init_195 : decode b_Mo_init 195 = .ok (.newarray .int, 2) := by decide +kernel
theorem d_Mo_init_197 : decode b_Mo_init 197 = .ok (.putfield 73, 3) := by decide +kernel
set_option maxRecDepth 100000 in
theorem wfi_Mo_73 : Cond.fieldLink R_Mo 73 (F_Mo 29).1 (F_Mo 29).2.1 (F_Mo 29).2.2.1 ∈ um_AW := um_in 789 (by decide +kernel) rfl
theorem d_Mo_init_200 : decode b_Mo_init 200 = .ok (.aload_n 0, 1) := by decide +kernel
theorem d_Mo_init_201 : decode b_Mo_init 201 = .ok (.sipush 2001, 3) := by decide +kernel
theorem d_Mo_init_204 : decode b_Mo_init 204 = .ok (.newarray .int, 2) := by decide +kernel
theorem d_Mo_init_206 : decode b_Mo_init 206 = .ok (.putfield 76, 3) := by decide +kernel
set_option maxRecDepth 100000 in
theorem wfi_Mo_76 : Cond.fieldLink R_Mo 76 (F_Mo 31).1 (F_Mo 31).2.1 (F_Mo 31).2.2.1 ∈ um_AW := um_in 791 (by decide +kernel) rfl
theorem d_Mo_init_209 : decode b_Mo_init 209 = .ok (.aload_n 0, 1) := by decide +kernel
theorem d_Mo_init_210 : decode b_Mo_init 210 = .ok (.sipush 2001, 3) := by decide +kernel
theorem d_Mo_init_213 : decode b_Mo_init 213 = .ok (.newarray .int, 2) := by decide +kernel
theorem d_Mo_init_215 : decode b_Mo_init 215 = .ok (.putfield 79, 3) := by decide +kernel
set_option maxRecDepth 100000 in
theorem wfi_Mo_79 : Cond.fieldLink R_Mo 79 (F_Mo 33).1 (F_Mo 33).2.1 (F_Mo 33).2.2.1 ∈ um_AW := um_in 793 (by decide +kernel) rfl
theorem d_Mo_init_218 : decode b_Mo_init 218 = .ok (.aload_n 0, 1) := by decide +kernel
theorem d_Mo_init_219 : decode b_Mo_init 219 = .ok (.sipush 2002, 3) := by decide +kernel
theorem d_Mo_init_222 : decode b_Mo_init 222 = .ok (.newarray .int, 2) := by decide +kernel
theorem d_Mo_init_224 : decode b_Mo_init 224 = .ok (.putfield 82, 3) := by decide +kernel
set_option maxRecDepth 100000 in
theorem wfi_Mo_82 : Cond.fieldLink R_Mo 82 (F_Mo 38).1 (F_Mo 38).2.1 (F_Mo 38).2.2.1 ∈ um_AW := um_in 798 (by decide +kernel) rfl
theorem d_Mo_init_227 : decode b_Mo_init 227 = .ok (.aload_n 0, 1) := by decide +kernel
theorem d_Mo_init_228 : decode b_Mo_init 228 = .ok (.sipush 2002, 3) := by decide +kernel
theorem d_Mo_init_231 : decode b_Mo_init 231 = .ok (.newarray .int, 2) := by decide +kernel
theorem d_Mo_init_233 : decode b_Mo_init 233 = .ok (.putfield 85, 3) := by decide +kernel
set_option maxRecDepth 100000 in
theorem wfi_Mo_85 : Cond.fieldLink R_Mo 85 (F_Mo 39).1 (F_Mo 39).2.1 (F_Mo 39).2.2.1 ∈ um_AW := um_in 799 (by decide +kernel) rfl
theorem d_Mo_init_236 : decode b_Mo_init 236 = .ok (.aload_n 0, 1) := by decide +kernel
theorem d_Mo_init_237 : decode b_Mo_init 237 = .ok (.sipush 2002, 3) := by decide +kernel
theorem d_Mo_init_240 : decode b_Mo_init 240 = .ok (.newarray .int, 2) := by decide +kernel
theorem d_Mo_init_242 : decode b_Mo_init 242 = .ok (.putfield 88, 3) := by decide +kernel
set_option maxRecDepth 100000 in
theorem wfi_Mo_88 : Cond.fieldLink R_Mo 88 (F_Mo 40).1 (F_Mo 40).2.1 (F_Mo 40).2.2.1 ∈ um_AW := um_in 800 (by decide +kernel) rfl
theorem d_Mo_init_245 : decode b_Mo_init 245 = .ok (.aload_n 0, 1) := by decide +kernel
theorem d_Mo_init_246 : decode b_Mo_init 246 = .ok (.sipush 2002, 3) := by decide +kernel
theorem d_Mo_init_249 : decode b_Mo_init 249 = .ok (.newarray .int, 2) := by decide +kernel
theorem d_Mo_init_251 : decode b_Mo_init 251 = .ok (.putfield 91, 3) := by decide +kernel
set_option maxRecDepth 100000 in
theorem wfi_Mo_91 : Cond.fieldLink R_Mo 91 (F_Mo 41).1 (F_Mo 41).2.1 (F_Mo 41).2.2.1 ∈ um_AW := um_in 801 (by decide +kernel) rfl
theorem d_Mo_init_254 : decode b_Mo_init 254 = .ok (.aload_n 0, 1) := by decide +kernel
theorem d_Mo_init_255 : decode b_Mo_init 255 = .ok (.sipush 2002, 3) := by decide +kernel
theorem d_Mo_init_258 : decode b_Mo_init 258 = .ok (.newarray .int, 2) := by decide +kernel
theorem d_Mo_init_260 : decode b_Mo_init 260 = .ok (.putfield 94, 3) := by decide +kernel
set_option maxRecDepth 100000 in
theorem wfi_Mo_94 : Cond.fieldLink R_Mo 94 (F_Mo 42).1 (F_Mo 42).2.1 (F_Mo 42).2.2.1 ∈ um_AW := um_in 802 (by decide +kernel) rfl
theorem d_Mo_init_263 : decode b_Mo_init 263 = .ok (.aload_n 0, 1) := by decide +kernel
theorem d_Mo_init_264 : decode b_Mo_init 264 = .ok (.sipush 2002, 3) := by decide +kernel
theorem d_Mo_init_267 : decode b_Mo_init 267 = .ok (.newarray .int, 2) := by decide +kernel
theorem d_Mo_init_269 : decode b_Mo_init 269 = .ok (.putfield 97, 3) := by decide +kernel
set_option maxRecDepth 100000 in
theorem wfi_Mo_97 : Cond.fieldLink R_Mo 97 (F_Mo 43).1 (F_Mo 43).2.1 (F_Mo 43).2.2.1 ∈ um_AW := um_in 803 (by decide +kernel) rfl
theorem d_Mo_init_272 : decode b_Mo_init 272 = .ok (.aload_n 0, 1) := by decide +kernel
theorem d_Mo_init_273 : decode b_Mo_init 273 = .ok (.sipush 2002, 3) := by decide +kernel
theorem d_Mo_init_276 : decode b_Mo_init 276 = .ok (.newarray .int, 2) := by decide +kernel
theorem d_Mo_init_278 : decode b_Mo_init 278 = .ok (.putfield 100, 3) := by decide +kernel
set_option maxRecDepth 100000 in
theorem wfi_Mo_100 : Cond.fieldLink R_Mo 100 (F_Mo 44).1 (F_Mo 44).2.1 (F_Mo 44).2.2.1 ∈ um_AW := um_in 804 (by decide +kernel) rfl
theorem d_Mo_init_281 : decode b_Mo_init 281 = .ok (.aload_n 0, 1) := by decide +kernel
theorem d_Mo_init_282 : decode b_Mo_init 282 = .ok (.bipush 8, 2) := by decide +kernel
theorem d_Mo_init_284 : decode b_Mo_init 284 = .ok (.newarray .int, 2) := by decide +kernel
theorem d_Mo_init_286 : decode b_Mo_init 286 = .ok (.putfield 103, 3) := by decide +kernel
set_option maxRecDepth 100000 in
theorem wfi_Mo_103 : Cond.fieldLink R_Mo 103 (F_Mo 45).1 (F_Mo 45).2.1 (F_Mo 45).2.2.1 ∈ um_AW := um_in 805 (by decide +kernel) rfl
theorem d_Mo_init_289 : decode b_Mo_init 289 = .ok (.aload_n 0, 1) := by decide +kernel
theorem d_Mo_init_290 : decode b_Mo_init 290 = .ok (.iconst (-1), 1) := by decide +kernel
theorem d_Mo_init_291 : decode b_Mo_init 291 = .ok (.putfield 106, 3) := by decide +kernel
set_option maxRecDepth 100000 in
theorem wfi_Mo_106 : Cond.fieldLink R_Mo 106 (F_Mo 46).1 (F_Mo 46).2.1 (F_Mo 46).2.2.1 ∈ um_AW := um_in 806 (by decide +kernel) rfl
theorem d_Mo_init_294 : decode b_Mo_init 294 = .ok (.aload_n 0, 1) := by decide +kernel
theorem d_Mo_init_295 : decode b_Mo_init 295 = .ok (.bipush 64, 2) := by decide +kernel
theorem d_Mo_init_297 : decode b_Mo_init 297 = .ok (.newarray .int, 2) := by decide +kernel
theorem d_Mo_init_299 : decode b_Mo_init 299 = .ok (.putfield 110, 3) := by decide +kernel
set_option maxRecDepth 100000 in
theorem wfi_Mo_110 : Cond.fieldLink R_Mo 110 (F_Mo 50).1 (F_Mo 50).2.1 (F_Mo 50).2.2.1 ∈ um_AW := um_in 810 (by decide +kernel) rfl
theorem d_Mo_init_302 : decode b_Mo_init 302 = .ok (.aload_n 0, 1) := by decide +kernel
theorem d_Mo_init_303 : decode b_Mo_init 303 = .ok (.bipush 12, 2) := by decide +kernel
theorem d_Mo_init_305 : decode b_Mo_init 305 = .ok (.newarray .int, 2) := by decide +kernel
theorem d_Mo_init_307 : decode b_Mo_init 307 = .ok (.putfield 113, 3) := by decide +kernel
set_option maxRecDepth 100000 in
theorem wfi_Mo_113 : Cond.fieldLink R_Mo 113 (F_Mo 54).1 (F_Mo 54).2.1 (F_Mo 54).2.2.1 ∈ um_AW := um_in 814 (by decide +kernel) rfl
theorem d_Mo_init_310 : decode b_Mo_init 310 = .ok (.aload_n 0, 1) := by decide +kernel
theorem d_Mo_init_311 : decode b_Mo_init 311 = .ok (.bipush 12, 2) := by decide +kernel
theorem d_Mo_init_313 : decode b_Mo_init 313 = .ok (.newarray .int, 2) := by decide +kernel
theorem d_Mo_init_315 : decode b_Mo_init 315 = .ok (.putfield 116, 3) := by decide +kernel
set_option maxRecDepth 100000 in
theorem wfi_Mo_116 : Cond.fieldLink R_Mo 116 (F_Mo 55).1 (F_Mo 55).2.1 (F_Mo 55).2.2.1 ∈ um_AW := um_in 815 (by decide +kernel) rfl
theorem d_Mo_init_318 : decode b_Mo_init 318 = .ok (.aload_n 0, 1) := by decide +kernel
theorem d_Mo_init_319 : decode b_Mo_init 319 = .ok (.sipush 2400, 3) := by decide +kernel
theorem d_Mo_init_322 : decode b_Mo_init 322 = .ok (.newarray .int, 2) := by decide +kernel
theorem d_Mo_init_324 : decode b_Mo_init 324 = .ok (.putfield 119, 3) := by decide +kernel
set_option maxRecDepth 100000 in
theorem wfi_Mo_119 : Cond.fieldLink R_Mo 119 (F_Mo 56).1 (F_Mo 56).2.1 (F_Mo 56).2.2.1 ∈ um_AW := um_in 816 (by decide +kernel) rfl
theorem d_Mo_init_327 : decode b_Mo_init 327 = .ok (.aload_n 0, 1) := by decide +kernel
theorem d_Mo_init_328 : decode b_Mo_init 328 = .ok (.sipush 2400, 3) := by decide +kernel
theorem d_Mo_init_331 : decode b_Mo_init 331 = .ok (.newarray .int, 2) := by decide +kernel
theorem d_Mo_init_333 : decode b_Mo_init 333 = .ok (.putfield 122, 3) := by decide +kernel
set_option maxRecDepth 100000 in
theorem wfi_Mo_122 : Cond.fieldLink R_Mo 122 (F_Mo 57).1 (F_Mo 57).2.1 (F_Mo 57).2.2.1 ∈ um_AW := um_in 817 (by decide +kernel) rfl
theorem d_Mo_init_336 : decode b_Mo_init 336 = .ok (.iconst 0, 1) := by decide +kernel
theorem d_Mo_init_337 : decode b_Mo_init 337 = .ok (.istore_n 1, 1) := by decide +kernel
theorem d_Mo_init_338 : decode b_Mo_init 338 = .ok (.iload_n 1, 1) := by decide +kernel
theorem d_Mo_init_339 : decode b_Mo_init 339 = .ok (.bipush 6, 2) := by decide +kernel
theorem d_Mo_init_341 : decode b_Mo_init 341 = .ok (.if_icmp .ge 16, 3) := by decide +kernel
theorem d_Mo_init_344 : decode b_Mo_init 344 = .ok (.aload_n 0, 1) := by decide +kernel
theorem d_Mo_init_345 : decode b_Mo_init 345 = .ok (.getfield 28, 3) := by decide +kernel
theorem d_Mo_init_348 : decode b_Mo_init 348 = .ok (.iload_n 1, 1) := by decide +kernel
theorem d_Mo_init_349 : decode b_Mo_init 349 = .ok (.iconst (-1), 1) := by decide +kernel
theorem d_Mo_init_350 : decode b_Mo_init 350 = .ok (.iastore, 1) := by decide +kernel
theorem d_Mo_init_351 : decode b_Mo_init 351 = .ok (.iinc 1 1, 3) := by decide +kernel
theorem d_Mo_init_354 : decode b_Mo_init 354 = .ok (.goto (-16), 3) := by decide +kernel
theorem d_Mo_init_357 : decode b_Mo_init 357 = .ok (.return_, 1) := by decide +kernel
