def wp_La_beginCatch_37 (Q : um_S → Prop) (v1 : Int32) (v2 : Int32) (v3 : Int32) (σ : um_S) : Prop :=
  (¬ v3 = (-1) → vp_in v1 2001 ∧ ∀ σ1 : um_S, σ1 = um_up σ 34 v1.toNatClampNeg v3 → wp_Ha_add_27 v2 v3 (σ1 2 5) σ1 (fun σ2 => wp_Tr_part v3 2 σ2 (fun x4 σ3 => vp_in v1 2001 ∧ wp_La_emit 8 x4 (σ3 32 v1.toNatClampNeg) σ3 (fun σ5 => wp_Tr_part v3 3 σ5 (fun x7 σ6 => vp_in v1 2001 ∧ wp_La_begin x7 (σ6 32 v1.toNatClampNeg) σ6 (fun σ8 => Q σ8)))))) ∧ (v3 = (-1) → vp_in v1 2001 ∧ ∀ σ9 : um_S, σ9 = um_up σ 33 v1.toNatClampNeg 6 → Q σ9)
def wp_La_beginCatch (a1 : Int32) (a2 : Int32) (σ : um_S) (Q : um_S → Prop) : Prop :=
  ((σ 3 7) = 0 → vp_in a2 2001 ∧ vp_in a1 2001 ∧ wp_Tr_catchAfter (σ 24 a2.toNatClampNeg) (σ 34 a1.toNatClampNeg) σ (fun x2 σ1 => wp_La_beginCatch_37 Q a1 a2 x2 σ1)) ∧ (¬ (σ 3 7) = 0 → wp_La_beginCatch_37 Q a1 a2 (-1) σ)
set_option maxHeartbeats 4000000 in
set_option maxRecDepth 100000 in
theorem b_La_beginCatch_37 {Q : um_S → Prop} {v1 : Int32} {v2 : Int32} {v3 : Int32} {σ : um_S} (h : wp_La_beginCatch_37 Q v1 v2 v3 σ) : um_Ev um_cl um_AW um_L um_SX M_La_beginCatch 2 47 37 [some (.ref 3), some (.int v1), some (.int v2), some (.int v3)] [] σ (um_Qv Q) := by
  unfold wp_La_beginCatch_37 at h
  refine um_iload_n (pc2 := 38) d_La_beginCatch_37 rfl rfl ?_
  refine um_iconst (pc2 := 39) (v := (-1)) d_La_beginCatch_38 rfl (by decide) ?_
  refine um_icmp_ne (pc2 := 42) (tgt := 54) d_La_beginCatch_39 rfl rfl (fun z => ?_) (fun z => ?_)
  · replace h := h.1 z
    refine um_aload_n (pc2 := 55) d_La_beginCatch_54 rfl rfl ?_
    refine um_getR (pc2 := 58) d_La_beginCatch_55 rfl f_La_21 rfl rfl ?_
    refine um_getR (pc2 := 61) d_La_beginCatch_58 rfl f_La_157 rfl rfl ?_
    refine um_iload_n (pc2 := 62) d_La_beginCatch_61 rfl rfl ?_
    refine um_iload_n (pc2 := 63) d_La_beginCatch_62 rfl rfl ?_
    refine um_iast (pc2 := 64) d_La_beginCatch_63 rfl rfl h.1 rfl (um_gen (fun σ1 eσ1 => ?_))
    replace h := h.2 σ1 eσ1
    refine um_aload_n (pc2 := 65) d_La_beginCatch_64 rfl rfl ?_
    refine um_getR (pc2 := 68) d_La_beginCatch_65 rfl f_La_28 rfl rfl ?_
    refine um_iload_n (pc2 := 69) d_La_beginCatch_68 rfl rfl ?_
    refine um_iload_n (pc2 := 70) d_La_beginCatch_69 rfl rfl ?_
    refine um_aload_n (pc2 := 71) d_La_beginCatch_70 rfl rfl ?_
    refine um_getR (pc2 := 74) d_La_beginCatch_71 rfl f_La_40 rfl rfl ?_
    refine um_getI (pc2 := 77) d_La_beginCatch_74 rfl f_La_74 rfl rfl ?_
    refine um_aload_n (pc2 := 78) d_La_beginCatch_77 rfl rfl ?_
    refine um_getR (pc2 := 81) d_La_beginCatch_78 rfl f_La_12 rfl rfl ?_
    refine um_getR (pc2 := 84) d_La_beginCatch_81 rfl f_La_212 rfl rfl ?_
    refine um_callV4v (pc2 := 87) d_La_beginCatch_84 rfl g_La_215 rfl (Nat.le_of_ble_eq_true rfl) (Nat.le_of_ble_eq_true rfl) (Nat.le_of_ble_eq_true rfl) (c_Ha_add_27 h) (fun σ2 h => ?_)
    refine um_aload_n (pc2 := 88) d_La_beginCatch_87 rfl rfl ?_
    refine um_bipush (pc2 := 90) (v := 8) d_La_beginCatch_88 rfl (by decide) ?_
    refine um_aload_n (pc2 := 91) d_La_beginCatch_90 rfl rfl ?_
    refine um_getR (pc2 := 94) d_La_beginCatch_91 rfl f_La_36 rfl rfl ?_
    refine um_iload_n (pc2 := 95) d_La_beginCatch_94 rfl rfl ?_
    refine um_iconst (pc2 := 96) (v := 2) d_La_beginCatch_95 rfl (by decide) ?_
    refine um_callV2i (pc2 := 99) d_La_beginCatch_96 rfl g_La_141 rfl (Nat.le_of_ble_eq_true rfl) (Nat.le_of_ble_eq_true rfl) (Nat.le_of_ble_eq_true rfl) (c_Tr_part h) (fun x4 σ3 h => ?_)
    refine um_aload_n (pc2 := 100) d_La_beginCatch_99 rfl rfl ?_
    refine um_getR (pc2 := 103) d_La_beginCatch_100 rfl f_La_21 rfl rfl ?_
    refine um_getR (pc2 := 106) d_La_beginCatch_103 rfl f_La_154 rfl rfl ?_
    refine um_iload_n (pc2 := 107) d_La_beginCatch_106 rfl rfl ?_
    refine um_iald (pc2 := 108) d_La_beginCatch_107 rfl rfl h.1 rfl ?_
    replace h := h.2
    refine um_callV3v (pc2 := 111) d_La_beginCatch_108 rfl g_La_95 rfl (Nat.le_of_ble_eq_true rfl) (Nat.le_of_ble_eq_true rfl) (Nat.le_of_ble_eq_true rfl) (c_La_emit h) (fun σ5 h => ?_)
    refine um_aload_n (pc2 := 112) d_La_beginCatch_111 rfl rfl ?_
    refine um_aload_n (pc2 := 113) d_La_beginCatch_112 rfl rfl ?_
    refine um_getR (pc2 := 116) d_La_beginCatch_113 rfl f_La_36 rfl rfl ?_
    refine um_iload_n (pc2 := 117) d_La_beginCatch_116 rfl rfl ?_
    refine um_iconst (pc2 := 118) (v := 3) d_La_beginCatch_117 rfl (by decide) ?_
    refine um_callV2i (pc2 := 121) d_La_beginCatch_118 rfl g_La_141 rfl (Nat.le_of_ble_eq_true rfl) (Nat.le_of_ble_eq_true rfl) (Nat.le_of_ble_eq_true rfl) (c_Tr_part h) (fun x7 σ6 h => ?_)
    refine um_aload_n (pc2 := 122) d_La_beginCatch_121 rfl rfl ?_
    refine um_getR (pc2 := 125) d_La_beginCatch_122 rfl f_La_21 rfl rfl ?_
    refine um_getR (pc2 := 128) d_La_beginCatch_125 rfl f_La_154 rfl rfl ?_
    refine um_iload_n (pc2 := 129) d_La_beginCatch_128 rfl rfl ?_
    refine um_iald (pc2 := 130) d_La_beginCatch_129 rfl rfl h.1 rfl ?_
    replace h := h.2
    refine um_callV2v (pc2 := 133) d_La_beginCatch_130 rfl g_La_86 rfl (Nat.le_of_ble_eq_true rfl) (Nat.le_of_ble_eq_true rfl) (Nat.le_of_ble_eq_true rfl) (c_La_begin h) (fun σ8 h => ?_)
    exact um_vret d_La_beginCatch_133 rfl ⟨rfl, h⟩
  · replace h := h.2 z
    refine um_aload_n (pc2 := 43) d_La_beginCatch_42 rfl rfl ?_
    refine um_getR (pc2 := 46) d_La_beginCatch_43 rfl f_La_21 rfl rfl ?_
    refine um_getR (pc2 := 49) d_La_beginCatch_46 rfl f_La_113 rfl rfl ?_
    refine um_iload_n (pc2 := 50) d_La_beginCatch_49 rfl rfl ?_
    refine um_bipush (pc2 := 52) (v := 6) d_La_beginCatch_50 rfl (by decide) ?_
    refine um_iast (pc2 := 53) d_La_beginCatch_52 rfl rfl h.1 rfl (um_gen (fun σ9 eσ9 => ?_))
    replace h := h.2 σ9 eσ9
    exact um_vret d_La_beginCatch_53 rfl ⟨rfl, h⟩
set_option maxHeartbeats 4000000 in
set_option maxRecDepth 100000 in
theorem c_La_beginCatch {a1 : Int32} {a2 : Int32} {σ : um_S} {Q : um_S → Prop} (h : wp_La_beginCatch a1 a2 σ Q) : um_Con um_cl um_AW um_L um_SX 2 47 M_La_beginCatch [.ref 3, .int a1, .int a2] σ (um_Qv Q) := by
  refine um_con (by decide) (Nat.le_of_ble_eq_true rfl) (fun v hv => by simp only [List.mem_cons, List.not_mem_nil, or_false] at hv; rcases hv with rfl | rfl | rfl <;> rfl) ?_
  show um_Ev um_cl um_AW um_L um_SX M_La_beginCatch 2 47 0 [some (.ref 3), some (.int a1), some (.int a2), none] [] σ (um_Qv Q)
  unfold wp_La_beginCatch at h
  refine um_aload_n (pc2 := 1) d_La_beginCatch_0 rfl rfl ?_
  refine um_getI (pc2 := 4) d_La_beginCatch_1 rfl f_La_57 rfl rfl ?_
  refine um_if_eq (pc2 := 7) (tgt := 11) d_La_beginCatch_4 rfl rfl (fun z => ?_) (fun z => ?_)
  · replace h := h.1 z
    refine um_aload_n (pc2 := 12) d_La_beginCatch_11 rfl rfl ?_
    refine um_getR (pc2 := 15) d_La_beginCatch_12 rfl f_La_36 rfl rfl ?_
    refine um_aload_n (pc2 := 16) d_La_beginCatch_15 rfl rfl ?_
    refine um_getR (pc2 := 19) d_La_beginCatch_16 rfl f_La_12 rfl rfl ?_
    refine um_getR (pc2 := 22) d_La_beginCatch_19 rfl f_La_99 rfl rfl ?_
    refine um_iload_n (pc2 := 23) d_La_beginCatch_22 rfl rfl ?_
    refine um_iald (pc2 := 24) d_La_beginCatch_23 rfl rfl h.1 rfl ?_
    replace h := h.2
    refine um_aload_n (pc2 := 25) d_La_beginCatch_24 rfl rfl ?_
    refine um_getR (pc2 := 28) d_La_beginCatch_25 rfl f_La_21 rfl rfl ?_
    refine um_getR (pc2 := 31) d_La_beginCatch_28 rfl f_La_157 rfl rfl ?_
    refine um_iload_n (pc2 := 32) d_La_beginCatch_31 rfl rfl ?_
    refine um_iald (pc2 := 33) d_La_beginCatch_32 rfl rfl h.1 rfl ?_
    replace h := h.2
    refine um_callV2i (pc2 := 36) d_La_beginCatch_33 rfl g_La_209 rfl (Nat.le_of_ble_eq_true rfl) (Nat.le_of_ble_eq_true rfl) (Nat.le_of_ble_eq_true rfl) (c_Tr_catchAfter h) (fun x2 σ1 h => ?_)
    refine um_istore_n (pc2 := 37) (ls2 := [some (.ref 3), some (.int a1), some (.int a2), some (.int x2)]) d_La_beginCatch_36 rfl (Nat.le_of_ble_eq_true rfl) rfl ?_
    refine um_forget [true, true, true, true] rfl ?_
    exact b_La_beginCatch_37 h
  · replace h := h.2 z
    refine um_iconst (pc2 := 8) (v := (-1)) d_La_beginCatch_7 rfl (by decide) ?_
    refine um_goto (tgt := 36) d_La_beginCatch_8 rfl ?_
    refine um_istore_n (pc2 := 37) (ls2 := [some (.ref 3), some (.int a1), some (.int a2), some (.int (-1))]) d_La_beginCatch_36 rfl (Nat.le_of_ble_eq_true rfl) rfl ?_
    refine um_forget [true, true, true, true] rfl ?_
    exact b_La_beginCatch_37 h
def wp_La_beginFinally (a1 : Int32) (σ : um_S) (Q : um_S → Prop) : Prop :=
  vp_in a1 2001 ∧ ((σ 25 a1.toNatClampNeg) = (-1) → Q σ) ∧ (¬ (σ 25 a1.toNatClampNeg) = (-1) → vp_in a1 2001 ∧ wp_Sc_within a1 2 σ (fun x2 σ1 => wp_La_begin (σ 25 a1.toNatClampNeg) x2 σ1 (fun σ3 => Q σ3)))
set_option maxHeartbeats 4000000 in
set_option maxRecDepth 100000 in
theorem c_La_beginFinally {a1 : Int32} {σ : um_S} {Q : um_S → Prop} (h : wp_La_beginFinally a1 σ Q) : um_Con um_cl um_AW um_L um_SX 2 45 M_La_beginFinally [.ref 3, .int a1] σ (um_Qv Q) := by
  refine um_con (by decide) (Nat.le_of_ble_eq_true rfl) (fun v hv => by simp only [List.mem_cons, List.not_mem_nil, or_false] at hv; rcases hv with rfl | rfl <;> rfl) ?_
  show um_Ev um_cl um_AW um_L um_SX M_La_beginFinally 2 45 0 [some (.ref 3), some (.int a1)] [] σ (um_Qv Q)
  unfold wp_La_beginFinally at h
  refine um_aload_n (pc2 := 1) d_La_beginFinally_0 rfl rfl ?_
  refine um_getR (pc2 := 4) d_La_beginFinally_1 rfl f_La_12 rfl rfl ?_
  refine um_getR (pc2 := 7) d_La_beginFinally_4 rfl f_La_187 rfl rfl ?_
  refine um_iload_n (pc2 := 8) d_La_beginFinally_7 rfl rfl ?_
  refine um_iald (pc2 := 9) d_La_beginFinally_8 rfl rfl h.1 rfl ?_
  replace h := h.2
  refine um_iconst (pc2 := 10) (v := (-1)) d_La_beginFinally_9 rfl (by decide) ?_
  refine um_icmp_eq (pc2 := 13) (tgt := 31) d_La_beginFinally_10 rfl rfl (fun z => ?_) (fun z => ?_)
  · replace h := h.1 z
    exact um_vret d_La_beginFinally_31 rfl ⟨rfl, h⟩
  · replace h := h.2 z
    refine um_aload_n (pc2 := 14) d_La_beginFinally_13 rfl rfl ?_
    refine um_aload_n (pc2 := 15) d_La_beginFinally_14 rfl rfl ?_
    refine um_getR (pc2 := 18) d_La_beginFinally_15 rfl f_La_12 rfl rfl ?_
    refine um_getR (pc2 := 21) d_La_beginFinally_18 rfl f_La_187 rfl rfl ?_
    refine um_iload_n (pc2 := 22) d_La_beginFinally_21 rfl rfl ?_
    refine um_iald (pc2 := 23) d_La_beginFinally_22 rfl rfl h.1 rfl ?_
    replace h := h.2
    refine um_iload_n (pc2 := 24) d_La_beginFinally_23 rfl rfl ?_
    refine um_iconst (pc2 := 25) (v := 2) d_La_beginFinally_24 rfl (by decide) ?_
    refine um_callS2i (pc2 := 28) d_La_beginFinally_25 rfl g_La_102 (Nat.le_of_ble_eq_true rfl) (Nat.le_of_ble_eq_true rfl) (Nat.le_of_ble_eq_true rfl) (c_Sc_within h) (fun x2 σ1 h => ?_)
    refine um_callV2v (pc2 := 31) d_La_beginFinally_28 rfl g_La_86 rfl (Nat.le_of_ble_eq_true rfl) (Nat.le_of_ble_eq_true rfl) (Nat.le_of_ble_eq_true rfl) (c_La_begin h) (fun σ3 h => ?_)
    exact um_vret d_La_beginFinally_31 rfl ⟨rfl, h⟩
def wp_La_beginAny (a1 : Int32) (σ : um_S) (Q : um_S → Prop) : Prop :=
  vp_in a1 2001 ∧ (¬ (σ 25 a1.toNatClampNeg) = (-1) → vp_in a1 2001 ∧ ∀ x1 : Int32, x1 = (σ 28 a1.toNatClampNeg) → wp_Ha_add_27 a1 (-1) (σ 2 5) σ (fun σ2 => vp_in a1 2001 ∧ wp_La_emit 15 x1 (σ2 23 a1.toNatClampNeg) σ2 (fun σ3 => ∀ σ4 : um_S, σ4 = um_up σ3 2 8 (if (σ3 2 8) < x1 then x1 else (σ3 2 8)) → vp_in a1 2001 ∧ wp_Sc_within a1 2 σ4 (fun x6 σ5 => wp_La_begin (σ4 25 a1.toNatClampNeg) x6 σ5 (fun σ7 => Q σ7))))) ∧ ((σ 25 a1.toNatClampNeg) = (-1) → wp_Wo_pop σ (fun σ8 => Q σ8))
set_option maxHeartbeats 4000000 in
set_option maxRecDepth 100000 in
theorem c_La_beginAny {a1 : Int32} {σ : um_S} {Q : um_S → Prop} (h : wp_La_beginAny a1 σ Q) : um_Con um_cl um_AW um_L um_SX 2 47 M_La_beginAny [.ref 3, .int a1] σ (um_Qv Q) := by
  refine um_con (by decide) (Nat.le_of_ble_eq_true rfl) (fun v hv => by simp only [List.mem_cons, List.not_mem_nil, or_false] at hv; rcases hv with rfl | rfl <;> rfl) ?_
  show um_Ev um_cl um_AW um_L um_SX M_La_beginAny 2 47 0 [some (.ref 3), some (.int a1), none] [] σ (um_Qv Q)
  unfold wp_La_beginAny at h
  refine um_aload_n (pc2 := 1) d_La_beginAny_0 rfl rfl ?_
  refine um_getR (pc2 := 4) d_La_beginAny_1 rfl f_La_12 rfl rfl ?_
  refine um_getR (pc2 := 7) d_La_beginAny_4 rfl f_La_187 rfl rfl ?_
  refine um_iload_n (pc2 := 8) d_La_beginAny_7 rfl rfl ?_
  refine um_iald (pc2 := 9) d_La_beginAny_8 rfl rfl h.1 rfl ?_
  replace h := h.2
  refine um_iconst (pc2 := 10) (v := (-1)) d_La_beginAny_9 rfl (by decide) ?_
  refine um_icmp_ne (pc2 := 13) (tgt := 21) d_La_beginAny_10 rfl rfl (fun z => ?_) (fun z => ?_)
  · replace h := h.1 z
    refine um_aload_n (pc2 := 22) d_La_beginAny_21 rfl rfl ?_
    refine um_getR (pc2 := 25) d_La_beginAny_22 rfl f_La_12 rfl rfl ?_
    refine um_getR (pc2 := 28) d_La_beginAny_25 rfl f_La_206 rfl rfl ?_
    refine um_iload_n (pc2 := 29) d_La_beginAny_28 rfl rfl ?_
    refine um_iald (pc2 := 30) d_La_beginAny_29 rfl rfl h.1 rfl ?_
    replace h := h.2
    refine um_top (fun x1 ex1 => ?_)
    replace h := h x1 ex1
    refine um_istore_n (pc2 := 31) (ls2 := [some (.ref 3), some (.int a1), some (.int x1)]) d_La_beginAny_30 rfl (Nat.le_of_ble_eq_true rfl) rfl ?_
    refine um_aload_n (pc2 := 32) d_La_beginAny_31 rfl rfl ?_
    refine um_getR (pc2 := 35) d_La_beginAny_32 rfl f_La_28 rfl rfl ?_
    refine um_iload_n (pc2 := 36) d_La_beginAny_35 rfl rfl ?_
    refine um_iconst (pc2 := 37) (v := (-1)) d_La_beginAny_36 rfl (by decide) ?_
    refine um_aload_n (pc2 := 38) d_La_beginAny_37 rfl rfl ?_
    refine um_getR (pc2 := 41) d_La_beginAny_38 rfl f_La_40 rfl rfl ?_
    refine um_getI (pc2 := 44) d_La_beginAny_41 rfl f_La_74 rfl rfl ?_
    refine um_aload_n (pc2 := 45) d_La_beginAny_44 rfl rfl ?_
    refine um_getR (pc2 := 48) d_La_beginAny_45 rfl f_La_12 rfl rfl ?_
    refine um_getR (pc2 := 51) d_La_beginAny_48 rfl f_La_212 rfl rfl ?_
    refine um_callV4v (pc2 := 54) d_La_beginAny_51 rfl g_La_215 rfl (Nat.le_of_ble_eq_true rfl) (Nat.le_of_ble_eq_true rfl) (Nat.le_of_ble_eq_true rfl) (c_Ha_add_27 h) (fun σ2 h => ?_)
    refine um_aload_n (pc2 := 55) d_La_beginAny_54 rfl rfl ?_
    refine um_bipush (pc2 := 57) (v := 15) d_La_beginAny_55 rfl (by decide) ?_
    refine um_iload_n (pc2 := 58) d_La_beginAny_57 rfl rfl ?_
    refine um_aload_n (pc2 := 59) d_La_beginAny_58 rfl rfl ?_
    refine um_getR (pc2 := 62) d_La_beginAny_59 rfl f_La_12 rfl rfl ?_
    refine um_getR (pc2 := 65) d_La_beginAny_62 rfl f_La_184 rfl rfl ?_
    refine um_iload_n (pc2 := 66) d_La_beginAny_65 rfl rfl ?_
    refine um_iald (pc2 := 67) d_La_beginAny_66 rfl rfl h.1 rfl ?_
    replace h := h.2
    refine um_callV3v (pc2 := 70) d_La_beginAny_67 rfl g_La_95 rfl (Nat.le_of_ble_eq_true rfl) (Nat.le_of_ble_eq_true rfl) (Nat.le_of_ble_eq_true rfl) (c_La_emit h) (fun σ3 h => ?_)
    refine um_aload_n (pc2 := 71) d_La_beginAny_70 rfl rfl ?_
    refine um_getR (pc2 := 74) d_La_beginAny_71 rfl f_La_40 rfl rfl ?_
    refine um_aload_n (pc2 := 75) d_La_beginAny_74 rfl rfl ?_
    refine um_getR (pc2 := 78) d_La_beginAny_75 rfl f_La_40 rfl rfl ?_
    refine um_getI (pc2 := 81) d_La_beginAny_78 rfl f_La_219 rfl rfl ?_
    refine um_iload_n (pc2 := 82) d_La_beginAny_81 rfl rfl ?_
    refine um_mmax (pc2 := 85) d_La_beginAny_82 rfl mx_La_222 (Nat.le_of_ble_eq_true rfl) (Nat.le_of_ble_eq_true rfl) ?_
    refine um_putI (pc2 := 88) d_La_beginAny_85 rfl fw_La_219 rfl rfl (um_gen (fun σ4 eσ4 => ?_))
    replace h := h σ4 eσ4
    refine um_aload_n (pc2 := 89) d_La_beginAny_88 rfl rfl ?_
    refine um_aload_n (pc2 := 90) d_La_beginAny_89 rfl rfl ?_
    refine um_getR (pc2 := 93) d_La_beginAny_90 rfl f_La_12 rfl rfl ?_
    refine um_getR (pc2 := 96) d_La_beginAny_93 rfl f_La_187 rfl rfl ?_
    refine um_iload_n (pc2 := 97) d_La_beginAny_96 rfl rfl ?_
    refine um_iald (pc2 := 98) d_La_beginAny_97 rfl rfl h.1 rfl ?_
    replace h := h.2
    refine um_iload_n (pc2 := 99) d_La_beginAny_98 rfl rfl ?_
    refine um_iconst (pc2 := 100) (v := 2) d_La_beginAny_99 rfl (by decide) ?_
    refine um_callS2i (pc2 := 103) d_La_beginAny_100 rfl g_La_102 (Nat.le_of_ble_eq_true rfl) (Nat.le_of_ble_eq_true rfl) (Nat.le_of_ble_eq_true rfl) (c_Sc_within h) (fun x6 σ5 h => ?_)
    refine um_callV2v (pc2 := 106) d_La_beginAny_103 rfl g_La_86 rfl (Nat.le_of_ble_eq_true rfl) (Nat.le_of_ble_eq_true rfl) (Nat.le_of_ble_eq_true rfl) (c_La_begin h) (fun σ7 h => ?_)
    exact um_vret d_La_beginAny_106 rfl ⟨rfl, h⟩
  · replace h := h.2 z
    refine um_aload_n (pc2 := 14) d_La_beginAny_13 rfl rfl ?_
    refine um_getR (pc2 := 17) d_La_beginAny_14 rfl f_La_21 rfl rfl ?_
    refine um_callV0v (pc2 := 20) d_La_beginAny_17 rfl g_La_147 rfl (Nat.le_of_ble_eq_true rfl) (Nat.le_of_ble_eq_true rfl) (Nat.le_of_ble_eq_true rfl) (c_Wo_pop h) (fun σ8 h => ?_)
    exact um_vret d_La_beginAny_20 rfl ⟨rfl, h⟩
def wp_La_turnApart (a1 : Int32) (a2 : Int32) (σ : um_S) (Q : um_S → Prop) : Prop :=
  vp_in a1 2001 ∧ wp_Sc_scopeOf (σ 32 a1.toNatClampNeg) σ (fun x2 σ1 => (a2 = 3 → wp_La_beginCatch a1 x2 σ1 (fun σ3 => Q σ3)) ∧ (¬ a2 = 3 → (a2 = 4 → wp_La_beginFinally x2 σ1 (fun σ4 => Q σ4)) ∧ (¬ a2 = 4 → (a2 = 5 → vp_in x2 2001 ∧ vp_in x2 2001 ∧ wp_La_emit 11 (σ1 29 x2.toNatClampNeg) (σ1 23 x2.toNatClampNeg) σ1 (fun σ5 => vp_in a1 2001 ∧ ∀ σ6 : um_S, σ6 = um_up σ5 33 a1.toNatClampNeg 3 → Q σ6)) ∧ (¬ a2 = 5 → (a2 = 6 → wp_La_beginAny x2 σ1 (fun σ7 => Q σ7)) ∧ (¬ a2 = 6 → vp_in x2 2001 ∧ vp_in x2 2001 ∧ wp_La_emit 16 (σ1 28 x2.toNatClampNeg) (σ1 23 x2.toNatClampNeg) σ1 (fun σ8 => wp_Wo_pop σ8 (fun σ9 => Q σ9)))))))
set_option maxHeartbeats 4000000 in
set_option maxRecDepth 100000 in
theorem c_La_turnApart {a1 : Int32} {a2 : Int32} {σ : um_S} {Q : um_S → Prop} (h : wp_La_turnApart a1 a2 σ Q) : um_Con um_cl um_AW um_L um_SX 3 70 M_La_turnApart [.ref 3, .int a1, .int a2] σ (um_Qv Q) := by
  refine um_con (by decide) (Nat.le_of_ble_eq_true rfl) (fun v hv => by simp only [List.mem_cons, List.not_mem_nil, or_false] at hv; rcases hv with rfl | rfl | rfl <;> rfl) ?_
  show um_Ev um_cl um_AW um_L um_SX M_La_turnApart 3 70 0 [some (.ref 3), some (.int a1), some (.int a2), none] [] σ (um_Qv Q)
  unfold wp_La_turnApart at h
  refine um_aload_n (pc2 := 1) d_La_turnApart_0 rfl rfl ?_
  refine um_getR (pc2 := 4) d_La_turnApart_1 rfl f_La_21 rfl rfl ?_
  refine um_getR (pc2 := 7) d_La_turnApart_4 rfl f_La_154 rfl rfl ?_
  refine um_iload_n (pc2 := 8) d_La_turnApart_7 rfl rfl ?_
  refine um_iald (pc2 := 9) d_La_turnApart_8 rfl rfl h.1 rfl ?_
  replace h := h.2
  refine um_callS1i (pc2 := 12) d_La_turnApart_9 rfl g_La_166 (Nat.le_of_ble_eq_true rfl) (Nat.le_of_ble_eq_true rfl) (Nat.le_of_ble_eq_true rfl) (c_Sc_scopeOf h) (fun x2 σ1 h => ?_)
  refine um_istore_n (pc2 := 13) (ls2 := [some (.ref 3), some (.int a1), some (.int a2), some (.int x2)]) d_La_turnApart_12 rfl (Nat.le_of_ble_eq_true rfl) rfl ?_
  refine um_iload_n (pc2 := 14) d_La_turnApart_13 rfl rfl ?_
  by_cases z3 : a2 = 3
  · replace h := h.1 z3
    refine um_tableAt (tgt := 44) d_La_turnApart_14 z3 (kk := 3) (by decide) (by decide) (by decide) rfl rfl ?_
    refine um_aload_n (pc2 := 45) d_La_turnApart_44 rfl rfl ?_
    refine um_iload_n (pc2 := 46) d_La_turnApart_45 rfl rfl ?_
    refine um_iload_n (pc2 := 47) d_La_turnApart_46 rfl rfl ?_
    refine um_callV2v (pc2 := 50) d_La_turnApart_47 rfl g_La_200 rfl (Nat.le_of_ble_eq_true rfl) (Nat.le_of_ble_eq_true rfl) (Nat.le_of_ble_eq_true rfl) (c_La_beginCatch h) (fun σ3 h => ?_)
    refine um_goto (tgt := 137) d_La_turnApart_50 rfl ?_
    exact um_vret d_La_turnApart_137 rfl ⟨rfl, h⟩
  replace h := h.2 z3
  by_cases z4 : a2 = 4
  · replace h := h.1 z4
    refine um_tableAt (tgt := 53) d_La_turnApart_14 z4 (kk := 4) (by decide) (by decide) (by decide) rfl rfl ?_
    refine um_aload_n (pc2 := 54) d_La_turnApart_53 rfl rfl ?_
    refine um_iload_n (pc2 := 55) d_La_turnApart_54 rfl rfl ?_
    refine um_callV1v (pc2 := 58) d_La_turnApart_55 rfl g_La_194 rfl (Nat.le_of_ble_eq_true rfl) (Nat.le_of_ble_eq_true rfl) (Nat.le_of_ble_eq_true rfl) (c_La_beginFinally h) (fun σ4 h => ?_)
    refine um_goto (tgt := 137) d_La_turnApart_58 rfl ?_
    exact um_vret d_La_turnApart_137 rfl ⟨rfl, h⟩
  replace h := h.2 z4
  by_cases z5 : a2 = 5
  · replace h := h.1 z5
    refine um_tableAt (tgt := 61) d_La_turnApart_14 z5 (kk := 5) (by decide) (by decide) (by decide) rfl rfl ?_
    refine um_aload_n (pc2 := 62) d_La_turnApart_61 rfl rfl ?_
    refine um_bipush (pc2 := 64) (v := 11) d_La_turnApart_62 rfl (by decide) ?_
    refine um_aload_n (pc2 := 65) d_La_turnApart_64 rfl rfl ?_
    refine um_getR (pc2 := 68) d_La_turnApart_65 rfl f_La_12 rfl rfl ?_
    refine um_getR (pc2 := 71) d_La_turnApart_68 rfl f_La_172 rfl rfl ?_
    refine um_iload_n (pc2 := 72) d_La_turnApart_71 rfl rfl ?_
    refine um_iald (pc2 := 73) d_La_turnApart_72 rfl rfl h.1 rfl ?_
    replace h := h.2
    refine um_aload_n (pc2 := 74) d_La_turnApart_73 rfl rfl ?_
    refine um_getR (pc2 := 77) d_La_turnApart_74 rfl f_La_12 rfl rfl ?_
    refine um_getR (pc2 := 80) d_La_turnApart_77 rfl f_La_184 rfl rfl ?_
    refine um_iload_n (pc2 := 81) d_La_turnApart_80 rfl rfl ?_
    refine um_iald (pc2 := 82) d_La_turnApart_81 rfl rfl h.1 rfl ?_
    replace h := h.2
    refine um_callV3v (pc2 := 85) d_La_turnApart_82 rfl g_La_95 rfl (Nat.le_of_ble_eq_true rfl) (Nat.le_of_ble_eq_true rfl) (Nat.le_of_ble_eq_true rfl) (c_La_emit h) (fun σ5 h => ?_)
    refine um_aload_n (pc2 := 86) d_La_turnApart_85 rfl rfl ?_
    refine um_getR (pc2 := 89) d_La_turnApart_86 rfl f_La_21 rfl rfl ?_
    refine um_getR (pc2 := 92) d_La_turnApart_89 rfl f_La_113 rfl rfl ?_
    refine um_iload_n (pc2 := 93) d_La_turnApart_92 rfl rfl ?_
    refine um_iconst (pc2 := 94) (v := 3) d_La_turnApart_93 rfl (by decide) ?_
    refine um_iast (pc2 := 95) d_La_turnApart_94 rfl rfl h.1 rfl (um_gen (fun σ6 eσ6 => ?_))
    replace h := h.2 σ6 eσ6
    refine um_goto (tgt := 137) d_La_turnApart_95 rfl ?_
    exact um_vret d_La_turnApart_137 rfl ⟨rfl, h⟩
  replace h := h.2 z5
  by_cases z6 : a2 = 6
  · replace h := h.1 z6
    refine um_tableAt (tgt := 98) d_La_turnApart_14 z6 (kk := 6) (by decide) (by decide) (by decide) rfl rfl ?_
    refine um_aload_n (pc2 := 99) d_La_turnApart_98 rfl rfl ?_
    refine um_iload_n (pc2 := 100) d_La_turnApart_99 rfl rfl ?_
    refine um_callV1v (pc2 := 103) d_La_turnApart_100 rfl g_La_203 rfl (Nat.le_of_ble_eq_true rfl) (Nat.le_of_ble_eq_true rfl) (Nat.le_of_ble_eq_true rfl) (c_La_beginAny h) (fun σ7 h => ?_)
    refine um_goto (tgt := 137) d_La_turnApart_103 rfl ?_
    exact um_vret d_La_turnApart_137 rfl ⟨rfl, h⟩
  replace h := h.2 z6
  have hE : um_Ev um_cl um_AW um_L um_SX M_La_turnApart 3 70 106 [some (.ref 3), some (.int a1), some (.int a2), some (.int x2)] [] σ1 (um_Qv Q) := by
    refine um_aload_n (pc2 := 107) d_La_turnApart_106 rfl rfl ?_
    refine um_bipush (pc2 := 109) (v := 16) d_La_turnApart_107 rfl (by decide) ?_
    refine um_aload_n (pc2 := 110) d_La_turnApart_109 rfl rfl ?_
    refine um_getR (pc2 := 113) d_La_turnApart_110 rfl f_La_12 rfl rfl ?_
    refine um_getR (pc2 := 116) d_La_turnApart_113 rfl f_La_206 rfl rfl ?_
    refine um_iload_n (pc2 := 117) d_La_turnApart_116 rfl rfl ?_
    refine um_iald (pc2 := 118) d_La_turnApart_117 rfl rfl h.1 rfl ?_
    replace h := h.2
    refine um_aload_n (pc2 := 119) d_La_turnApart_118 rfl rfl ?_
    refine um_getR (pc2 := 122) d_La_turnApart_119 rfl f_La_12 rfl rfl ?_
    refine um_getR (pc2 := 125) d_La_turnApart_122 rfl f_La_184 rfl rfl ?_
    refine um_iload_n (pc2 := 126) d_La_turnApart_125 rfl rfl ?_
    refine um_iald (pc2 := 127) d_La_turnApart_126 rfl rfl h.1 rfl ?_
    replace h := h.2
    refine um_callV3v (pc2 := 130) d_La_turnApart_127 rfl g_La_95 rfl (Nat.le_of_ble_eq_true rfl) (Nat.le_of_ble_eq_true rfl) (Nat.le_of_ble_eq_true rfl) (c_La_emit h) (fun σ8 h => ?_)
    refine um_aload_n (pc2 := 131) d_La_turnApart_130 rfl rfl ?_
    refine um_getR (pc2 := 134) d_La_turnApart_131 rfl f_La_21 rfl rfl ?_
    refine um_callV0v (pc2 := 137) d_La_turnApart_134 rfl g_La_147 rfl (Nat.le_of_ble_eq_true rfl) (Nat.le_of_ble_eq_true rfl) (Nat.le_of_ble_eq_true rfl) (c_Wo_pop h) (fun σ9 h => ?_)
    exact um_vret d_La_turnApart_137 rfl ⟨rfl, h⟩
  exact um_tableOut (tgt := 106) d_La_turnApart_14 (by have := um_toInt_ne (kk := 3) z3 (by decide); have := um_toInt_ne (kk := 4) z4 (by decide); have := um_toInt_ne (kk := 5) z5 (by decide); have := um_toInt_ne (kk := 6) z6 (by decide); omega) rfl hE
def wp_La_setDone (a1 : Int32) (σ : um_S) (Q : um_S → Prop) : Prop :=
  (2000 ≤ (σ 3 6) → Q σ) ∧ (¬ 2000 ≤ (σ 3 6) → vp_in (σ 3 6) 2000 ∧ ∀ σ1 : um_S, σ1 = um_up σ 16 (σ 3 6).toNatClampNeg a1 → ∀ σ2 : um_S, σ2 = um_up σ1 3 6 ((σ1 3 6) + 1) → Q σ2)
set_option maxHeartbeats 4000000 in
set_option maxRecDepth 100000 in
theorem c_La_setDone {a1 : Int32} {σ : um_S} {Q : um_S → Prop} (h : wp_La_setDone a1 σ Q) : um_Con um_cl um_AW um_L um_SX 0 0 M_La_setDone [.ref 3, .int a1] σ (um_Qv Q) := by
  refine um_con (by decide) (Nat.le_of_ble_eq_true rfl) (fun v hv => by simp only [List.mem_cons, List.not_mem_nil, or_false] at hv; rcases hv with rfl | rfl <;> rfl) ?_
  show um_Ev um_cl um_AW um_L um_SX M_La_setDone 0 0 0 [some (.ref 3), some (.int a1)] [] σ (um_Qv Q)
  unfold wp_La_setDone at h
  refine um_aload_n (pc2 := 1) d_La_setDone_0 rfl rfl ?_
  refine um_getI (pc2 := 4) d_La_setDone_1 rfl f_La_78 rfl rfl ?_
  refine um_sipush (pc2 := 7) (v := 2000) d_La_setDone_4 rfl (by decide) ?_
  refine um_icmp_ge (pc2 := 10) (tgt := 30) d_La_setDone_7 rfl rfl (fun z => ?_) (fun z => ?_)
  · replace h := h.1 z
    exact um_vret d_La_setDone_30 rfl ⟨rfl, h⟩
  · replace h := h.2 z
    refine um_aload_n (pc2 := 11) d_La_setDone_10 rfl rfl ?_
    refine um_getR (pc2 := 14) d_La_setDone_11 rfl f_La_32 rfl rfl ?_
    refine um_aload_n (pc2 := 15) d_La_setDone_14 rfl rfl ?_
    refine um_getI (pc2 := 18) d_La_setDone_15 rfl f_La_78 rfl rfl ?_
    refine um_iload_n (pc2 := 19) d_La_setDone_18 rfl rfl ?_
    refine um_iast (pc2 := 20) d_La_setDone_19 rfl rfl h.1 rfl (um_gen (fun σ1 eσ1 => ?_))
    replace h := h.2 σ1 eσ1
    refine um_aload_n (pc2 := 21) d_La_setDone_20 rfl rfl ?_
    refine um_dup (pc2 := 22) d_La_setDone_21 rfl rfl ?_
    refine um_getI (pc2 := 25) d_La_setDone_22 rfl f_La_78 rfl rfl ?_
    refine um_iconst (pc2 := 26) (v := 1) d_La_setDone_25 rfl (by decide) ?_
    refine um_iadd (pc2 := 27) d_La_setDone_26 rfl ?_
    refine um_putI (pc2 := 30) d_La_setDone_27 rfl fw_La_78 rfl rfl (um_gen (fun σ2 eσ2 => ?_))
    replace h := h σ2 eσ2
    exact um_vret d_La_setDone_30 rfl ⟨rfl, h⟩
def wp_Sc_openTry (a1 : Int32) (a2 : Int32) (a3 : Int32) (σ : um_S) (Q : Int32 → um_S → Prop) : Prop :=
  wp_Sc_open a1 σ (fun x2 σ1 => vp_in x2 2001 ∧ ∀ σ3 : um_S, σ3 = um_up σ1 24 x2.toNatClampNeg a2 → vp_in x2 2001 ∧ ∀ σ4 : um_S, σ4 = um_up σ3 25 x2.toNatClampNeg a3 → wp_Sc_scopeOf a1 σ4 (fun x6 σ5 => vp_in x6 2001 ∧ vp_in x2 2001 ∧ ∀ σ7 : um_S, σ7 = um_up σ5 26 x2.toNatClampNeg (σ5 26 x6.toNatClampNeg) → Q x2 σ7))
set_option maxHeartbeats 4000000 in
set_option maxRecDepth 100000 in
theorem c_Sc_openTry {a1 : Int32} {a2 : Int32} {a3 : Int32} {σ : um_S} {Q : Int32 → um_S → Prop} (h : wp_Sc_openTry a1 a2 a3 σ Q) : um_Con um_cl um_AW um_L um_SX 2 43 M_Sc_openTry [.ref 5, .int a1, .int a2, .int a3] σ (um_Qi Q) := by
  refine um_con (by decide) (Nat.le_of_ble_eq_true rfl) (fun v hv => by simp only [List.mem_cons, List.not_mem_nil, or_false] at hv; rcases hv with rfl | rfl | rfl | rfl <;> rfl) ?_
  show um_Ev um_cl um_AW um_L um_SX M_Sc_openTry 2 43 0 [some (.ref 5), some (.int a1), some (.int a2), some (.int a3), none] [] σ (um_Qi Q)
  unfold wp_Sc_openTry at h
  refine um_aload_n (pc2 := 1) d_Sc_openTry_0 rfl rfl ?_
  refine um_iload_n (pc2 := 2) d_Sc_openTry_1 rfl rfl ?_
  refine um_callV1i (pc2 := 5) d_Sc_openTry_2 rfl g_Sc_43 rfl (Nat.le_of_ble_eq_true rfl) (Nat.le_of_ble_eq_true rfl) (Nat.le_of_ble_eq_true rfl) (c_Sc_open h) (fun x2 σ1 h => ?_)
  refine um_istore (pc2 := 7) (ls2 := [some (.ref 5), some (.int a1), some (.int a2), some (.int a3), some (.int x2)]) d_Sc_openTry_5 rfl (Nat.le_of_ble_eq_true rfl) rfl ?_
  refine um_aload_n (pc2 := 8) d_Sc_openTry_7 rfl rfl ?_
  refine um_getR (pc2 := 11) d_Sc_openTry_8 rfl f_Sc_15 rfl rfl ?_
  refine um_iload (pc2 := 13) d_Sc_openTry_11 rfl rfl ?_
  refine um_iload_n (pc2 := 14) d_Sc_openTry_13 rfl rfl ?_
  refine um_iast (pc2 := 15) d_Sc_openTry_14 rfl rfl h.1 rfl (um_gen (fun σ3 eσ3 => ?_))
  replace h := h.2 σ3 eσ3
  refine um_aload_n (pc2 := 16) d_Sc_openTry_15 rfl rfl ?_
  refine um_getR (pc2 := 19) d_Sc_openTry_16 rfl f_Sc_18 rfl rfl ?_
  refine um_iload (pc2 := 21) d_Sc_openTry_19 rfl rfl ?_
  refine um_iload_n (pc2 := 22) d_Sc_openTry_21 rfl rfl ?_
  refine um_iast (pc2 := 23) d_Sc_openTry_22 rfl rfl h.1 rfl (um_gen (fun σ4 eσ4 => ?_))
  replace h := h.2 σ4 eσ4
  refine um_aload_n (pc2 := 24) d_Sc_openTry_23 rfl rfl ?_
  refine um_getR (pc2 := 27) d_Sc_openTry_24 rfl f_Sc_21 rfl rfl ?_
  refine um_iload (pc2 := 29) d_Sc_openTry_27 rfl rfl ?_
  refine um_aload_n (pc2 := 30) d_Sc_openTry_29 rfl rfl ?_
  refine um_getR (pc2 := 33) d_Sc_openTry_30 rfl f_Sc_21 rfl rfl ?_
  refine um_iload_n (pc2 := 34) d_Sc_openTry_33 rfl rfl ?_
  refine um_callS1i (pc2 := 37) d_Sc_openTry_34 rfl g_Sc_47 (Nat.le_of_ble_eq_true rfl) (Nat.le_of_ble_eq_true rfl) (Nat.le_of_ble_eq_true rfl) (c_Sc_scopeOf h) (fun x6 σ5 h => ?_)
  refine um_iald (pc2 := 38) d_Sc_openTry_37 rfl rfl h.1 rfl ?_
  replace h := h.2
  refine um_iast (pc2 := 39) d_Sc_openTry_38 rfl rfl h.1 rfl (um_gen (fun σ7 eσ7 => ?_))
  replace h := h.2 σ7 eσ7
  refine um_iload (pc2 := 41) d_Sc_openTry_39 rfl rfl ?_
  exact um_iret d_Sc_openTry_41 rfl ⟨_, rfl, h⟩
def wp_La_turnTry (a1 : Int32) (a2 : Int32) (a3 : Int32) (σ : um_S) (Q : um_S → Prop) : Prop :=
  (¬ a3 = 0 → vp_in a1 2001 ∧ wp_Sc_scopeOf (σ 32 a1.toNatClampNeg) σ (fun x2 σ1 => (¬ a3 = 1 → vp_in x2 2001 ∧ ∀ σ3 : um_S, σ3 = um_up σ1 29 x2.toNatClampNeg (σ1 2 5) → wp_La_setDone x2 σ3 (fun σ4 => wp_Wo_pop σ4 (fun σ5 => Q σ5))) ∧ (a3 = 1 → wp_La_beginFinally x2 σ1 (fun σ6 => Q σ6)))) ∧ (a3 = 0 → vp_in a1 2001 ∧ wp_Tr_part a2 2 σ (fun x8 σ7 => wp_Sc_openTry (σ 32 a1.toNatClampNeg) a2 x8 σ7 (fun x10 σ9 => wp_Sc_within x10 0 σ9 (fun x12 σ11 => vp_in a1 2001 ∧ ∀ σ13 : um_S, σ13 = um_up σ11 32 a1.toNatClampNeg x12 → wp_Tr_part a2 0 σ13 (fun x15 σ14 => vp_in a1 2001 ∧ wp_La_begin x15 (σ14 32 a1.toNatClampNeg) σ14 (fun σ16 => Q σ16))))))
set_option maxHeartbeats 4000000 in
set_option maxRecDepth 100000 in
theorem c_La_turnTry {a1 : Int32} {a2 : Int32} {a3 : Int32} {σ : um_S} {Q : um_S → Prop} (h : wp_La_turnTry a1 a2 a3 σ Q) : um_Con um_cl um_AW um_L um_SX 3 67 M_La_turnTry [.ref 3, .int a1, .int a2, .int a3] σ (um_Qv Q) := by
  refine um_con (by decide) (Nat.le_of_ble_eq_true rfl) (fun v hv => by simp only [List.mem_cons, List.not_mem_nil, or_false] at hv; rcases hv with rfl | rfl | rfl | rfl <;> rfl) ?_
  show um_Ev um_cl um_AW um_L um_SX M_La_turnTry 3 67 0 [some (.ref 3), some (.int a1), some (.int a2), some (.int a3), none] [] σ (um_Qv Q)
  unfold wp_La_turnTry at h
  refine um_iload_n (pc2 := 1) d_La_turnTry_0 rfl rfl ?_
  refine um_if_ne (pc2 := 4) (tgt := 70) d_La_turnTry_1 rfl rfl (fun z => ?_) (fun z => ?_)
  · replace h := h.1 z
    refine um_aload_n (pc2 := 71) d_La_turnTry_70 rfl rfl ?_
    refine um_getR (pc2 := 74) d_La_turnTry_71 rfl f_La_21 rfl rfl ?_
    refine um_getR (pc2 := 77) d_La_turnTry_74 rfl f_La_154 rfl rfl ?_
    refine um_iload_n (pc2 := 78) d_La_turnTry_77 rfl rfl ?_
    refine um_iald (pc2 := 79) d_La_turnTry_78 rfl rfl h.1 rfl ?_
    replace h := h.2
    refine um_callS1i (pc2 := 82) d_La_turnTry_79 rfl g_La_166 (Nat.le_of_ble_eq_true rfl) (Nat.le_of_ble_eq_true rfl) (Nat.le_of_ble_eq_true rfl) (c_Sc_scopeOf h) (fun x2 σ1 h => ?_)
    refine um_istore (pc2 := 84) (ls2 := [some (.ref 3), some (.int a1), some (.int a2), some (.int a3), some (.int x2)]) d_La_turnTry_82 rfl (Nat.le_of_ble_eq_true rfl) rfl ?_
    refine um_iload_n (pc2 := 85) d_La_turnTry_84 rfl rfl ?_
    refine um_iconst (pc2 := 86) (v := 1) d_La_turnTry_85 rfl (by decide) ?_
    refine um_icmp_ne (pc2 := 89) (tgt := 98) d_La_turnTry_86 rfl rfl (fun z => ?_) (fun z => ?_)
    · replace h := h.1 z
      refine um_aload_n (pc2 := 99) d_La_turnTry_98 rfl rfl ?_
      refine um_getR (pc2 := 102) d_La_turnTry_99 rfl f_La_12 rfl rfl ?_
      refine um_getR (pc2 := 105) d_La_turnTry_102 rfl f_La_172 rfl rfl ?_
      refine um_iload (pc2 := 107) d_La_turnTry_105 rfl rfl ?_
      refine um_aload_n (pc2 := 108) d_La_turnTry_107 rfl rfl ?_
      refine um_getR (pc2 := 111) d_La_turnTry_108 rfl f_La_40 rfl rfl ?_
      refine um_getI (pc2 := 114) d_La_turnTry_111 rfl f_La_74 rfl rfl ?_
      refine um_iast (pc2 := 115) d_La_turnTry_114 rfl rfl h.1 rfl (um_gen (fun σ3 eσ3 => ?_))
      replace h := h.2 σ3 eσ3
      refine um_aload_n (pc2 := 116) d_La_turnTry_115 rfl rfl ?_
      refine um_iload (pc2 := 118) d_La_turnTry_116 rfl rfl ?_
      refine um_callV1v (pc2 := 121) d_La_turnTry_118 rfl g_La_197 rfl (Nat.le_of_ble_eq_true rfl) (Nat.le_of_ble_eq_true rfl) (Nat.le_of_ble_eq_true rfl) (c_La_setDone h) (fun σ4 h => ?_)
      refine um_aload_n (pc2 := 122) d_La_turnTry_121 rfl rfl ?_
      refine um_getR (pc2 := 125) d_La_turnTry_122 rfl f_La_21 rfl rfl ?_
      refine um_callV0v (pc2 := 128) d_La_turnTry_125 rfl g_La_147 rfl (Nat.le_of_ble_eq_true rfl) (Nat.le_of_ble_eq_true rfl) (Nat.le_of_ble_eq_true rfl) (c_Wo_pop h) (fun σ5 h => ?_)
      exact um_vret d_La_turnTry_128 rfl ⟨rfl, h⟩
    · replace h := h.2 z
      refine um_aload_n (pc2 := 90) d_La_turnTry_89 rfl rfl ?_
      refine um_iload (pc2 := 92) d_La_turnTry_90 rfl rfl ?_
      refine um_callV1v (pc2 := 95) d_La_turnTry_92 rfl g_La_194 rfl (Nat.le_of_ble_eq_true rfl) (Nat.le_of_ble_eq_true rfl) (Nat.le_of_ble_eq_true rfl) (c_La_beginFinally h) (fun σ6 h => ?_)
      refine um_goto (tgt := 128) d_La_turnTry_95 rfl ?_
      exact um_vret d_La_turnTry_128 rfl ⟨rfl, h⟩
  · replace h := h.2 z
    refine um_aload_n (pc2 := 5) d_La_turnTry_4 rfl rfl ?_
    refine um_getR (pc2 := 8) d_La_turnTry_5 rfl f_La_12 rfl rfl ?_
    refine um_aload_n (pc2 := 9) d_La_turnTry_8 rfl rfl ?_
    refine um_getR (pc2 := 12) d_La_turnTry_9 rfl f_La_21 rfl rfl ?_
    refine um_getR (pc2 := 15) d_La_turnTry_12 rfl f_La_154 rfl rfl ?_
    refine um_iload_n (pc2 := 16) d_La_turnTry_15 rfl rfl ?_
    refine um_iald (pc2 := 17) d_La_turnTry_16 rfl rfl h.1 rfl ?_
    replace h := h.2
    refine um_iload_n (pc2 := 18) d_La_turnTry_17 rfl rfl ?_
    refine um_aload_n (pc2 := 19) d_La_turnTry_18 rfl rfl ?_
    refine um_getR (pc2 := 22) d_La_turnTry_19 rfl f_La_36 rfl rfl ?_
    refine um_iload_n (pc2 := 23) d_La_turnTry_22 rfl rfl ?_
    refine um_iconst (pc2 := 24) (v := 2) d_La_turnTry_23 rfl (by decide) ?_
    refine um_callV2i (pc2 := 27) d_La_turnTry_24 rfl g_La_141 rfl (Nat.le_of_ble_eq_true rfl) (Nat.le_of_ble_eq_true rfl) (Nat.le_of_ble_eq_true rfl) (c_Tr_part h) (fun x8 σ7 h => ?_)
    refine um_callV3i (pc2 := 30) d_La_turnTry_27 rfl g_La_190 rfl (Nat.le_of_ble_eq_true rfl) (Nat.le_of_ble_eq_true rfl) (Nat.le_of_ble_eq_true rfl) (c_Sc_openTry h) (fun x10 σ9 h => ?_)
    refine um_istore (pc2 := 32) (ls2 := [some (.ref 3), some (.int a1), some (.int a2), some (.int a3), some (.int x10)]) d_La_turnTry_30 rfl (Nat.le_of_ble_eq_true rfl) rfl ?_
    refine um_aload_n (pc2 := 33) d_La_turnTry_32 rfl rfl ?_
    refine um_getR (pc2 := 36) d_La_turnTry_33 rfl f_La_21 rfl rfl ?_
    refine um_getR (pc2 := 39) d_La_turnTry_36 rfl f_La_154 rfl rfl ?_
    refine um_iload_n (pc2 := 40) d_La_turnTry_39 rfl rfl ?_
    refine um_iload (pc2 := 42) d_La_turnTry_40 rfl rfl ?_
    refine um_iconst (pc2 := 43) (v := 0) d_La_turnTry_42 rfl (by decide) ?_
    refine um_callS2i (pc2 := 46) d_La_turnTry_43 rfl g_La_102 (Nat.le_of_ble_eq_true rfl) (Nat.le_of_ble_eq_true rfl) (Nat.le_of_ble_eq_true rfl) (c_Sc_within h) (fun x12 σ11 h => ?_)
    refine um_iast (pc2 := 47) d_La_turnTry_46 rfl rfl h.1 rfl (um_gen (fun σ13 eσ13 => ?_))
    replace h := h.2 σ13 eσ13
    refine um_aload_n (pc2 := 48) d_La_turnTry_47 rfl rfl ?_
    refine um_aload_n (pc2 := 49) d_La_turnTry_48 rfl rfl ?_
    refine um_getR (pc2 := 52) d_La_turnTry_49 rfl f_La_36 rfl rfl ?_
    refine um_iload_n (pc2 := 53) d_La_turnTry_52 rfl rfl ?_
    refine um_iconst (pc2 := 54) (v := 0) d_La_turnTry_53 rfl (by decide) ?_
    refine um_callV2i (pc2 := 57) d_La_turnTry_54 rfl g_La_141 rfl (Nat.le_of_ble_eq_true rfl) (Nat.le_of_ble_eq_true rfl) (Nat.le_of_ble_eq_true rfl) (c_Tr_part h) (fun x15 σ14 h => ?_)
    refine um_aload_n (pc2 := 58) d_La_turnTry_57 rfl rfl ?_
    refine um_getR (pc2 := 61) d_La_turnTry_58 rfl f_La_21 rfl rfl ?_
    refine um_getR (pc2 := 64) d_La_turnTry_61 rfl f_La_154 rfl rfl ?_
    refine um_iload_n (pc2 := 65) d_La_turnTry_64 rfl rfl ?_
    refine um_iald (pc2 := 66) d_La_turnTry_65 rfl rfl h.1 rfl ?_
    replace h := h.2
    refine um_callV2v (pc2 := 69) d_La_turnTry_66 rfl g_La_86 rfl (Nat.le_of_ble_eq_true rfl) (Nat.le_of_ble_eq_true rfl) (Nat.le_of_ble_eq_true rfl) (c_La_begin h) (fun σ16 h => ?_)
    exact um_vret d_La_turnTry_69 rfl ⟨rfl, h⟩
def wp_La_partsThen_50 (Q : um_S → Prop) (v1 : Int32) (v5 : Int32) (v6 : Int32) (σ : um_S) : Prop :=
  (¬ v5 = (-1) → wp_La_finish v1 v5 v6 σ (fun σ1 => Q σ1)) ∧ (v5 = (-1) → wp_Wo_pop σ (fun σ2 => Q σ2))
def wp_La_partsThen (a1 : Int32) (a2 : Int32) (a3 : Int32) (a4 : Int32) (a5 : Int32) (a6 : Int32) (σ : um_S) (Q : um_S → Prop) : Prop :=
  (¬ a2 = 0 → (¬ a2 = 1 → wp_La_partsThen_50 Q a1 a5 a6 σ) ∧ (a2 = 1 → (a4 = (-1) → wp_La_partsThen_50 Q a1 a5 a6 σ) ∧ (¬ a4 = (-1) → vp_in a1 2001 ∧ wp_La_begin a4 (σ 32 a1.toNatClampNeg) σ (fun σ1 => Q σ1)))) ∧ (a2 = 0 → vp_in a1 2001 ∧ wp_La_begin a3 (σ 32 a1.toNatClampNeg) σ (fun σ2 => Q σ2))
set_option maxHeartbeats 4000000 in
set_option maxRecDepth 100000 in
theorem b_La_partsThen_50 {Q : um_S → Prop} {v1 : Int32} {v5 : Int32} {v6 : Int32} {σ : um_S} (h : wp_La_partsThen_50 Q v1 v5 v6 σ) : um_Ev um_cl um_AW um_L um_SX M_La_partsThen 2 46 50 [some (.ref 3), some (.int v1), none, none, none, some (.int v5), some (.int v6)] [] σ (um_Qv Q) := by
  unfold wp_La_partsThen_50 at h
  refine um_iload (pc2 := 52) d_La_partsThen_50 rfl rfl ?_
  refine um_iconst (pc2 := 53) (v := (-1)) d_La_partsThen_52 rfl (by decide) ?_
  refine um_icmp_ne (pc2 := 56) (tgt := 66) d_La_partsThen_53 rfl rfl (fun z => ?_) (fun z => ?_)
  · replace h := h.1 z
    refine um_aload_n (pc2 := 67) d_La_partsThen_66 rfl rfl ?_
    refine um_iload_n (pc2 := 68) d_La_partsThen_67 rfl rfl ?_
    refine um_iload (pc2 := 70) d_La_partsThen_68 rfl rfl ?_
    refine um_iload (pc2 := 72) d_La_partsThen_70 rfl rfl ?_
    refine um_callV3v (pc2 := 75) d_La_partsThen_72 rfl g_La_144 rfl (Nat.le_of_ble_eq_true rfl) (Nat.le_of_ble_eq_true rfl) (Nat.le_of_ble_eq_true rfl) (c_La_finish h) (fun σ1 h => ?_)
    exact um_vret d_La_partsThen_75 rfl ⟨rfl, h⟩
  · replace h := h.2 z
    refine um_aload_n (pc2 := 57) d_La_partsThen_56 rfl rfl ?_
    refine um_getR (pc2 := 60) d_La_partsThen_57 rfl f_La_21 rfl rfl ?_
    refine um_callV0v (pc2 := 63) d_La_partsThen_60 rfl g_La_147 rfl (Nat.le_of_ble_eq_true rfl) (Nat.le_of_ble_eq_true rfl) (Nat.le_of_ble_eq_true rfl) (c_Wo_pop h) (fun σ2 h => ?_)
    refine um_goto (tgt := 75) d_La_partsThen_63 rfl ?_
    exact um_vret d_La_partsThen_75 rfl ⟨rfl, h⟩
set_option maxHeartbeats 4000000 in
set_option maxRecDepth 100000 in
theorem c_La_partsThen {a1 : Int32} {a2 : Int32} {a3 : Int32} {a4 : Int32} {a5 : Int32} {a6 : Int32} {σ : um_S} {Q : um_S → Prop} (h : wp_La_partsThen a1 a2 a3 a4 a5 a6 σ Q) : um_Con um_cl um_AW um_L um_SX 2 46 M_La_partsThen [.ref 3, .int a1, .int a2, .int a3, .int a4, .int a5, .int a6] σ (um_Qv Q) := by
  refine um_con (by decide) (Nat.le_of_ble_eq_true rfl) (fun v hv => by simp only [List.mem_cons, List.not_mem_nil, or_false] at hv; rcases hv with rfl | rfl | rfl | rfl | rfl | rfl | rfl <;> rfl) ?_
  show um_Ev um_cl um_AW um_L um_SX M_La_partsThen 2 46 0 [some (.ref 3), some (.int a1), some (.int a2), some (.int a3), some (.int a4), some (.int a5), some (.int a6)] [] σ (um_Qv Q)
  unfold wp_La_partsThen at h
  refine um_iload_n (pc2 := 1) d_La_partsThen_0 rfl rfl ?_
  refine um_if_ne (pc2 := 4) (tgt := 21) d_La_partsThen_1 rfl rfl (fun z => ?_) (fun z => ?_)
  · replace h := h.1 z
    refine um_iload_n (pc2 := 22) d_La_partsThen_21 rfl rfl ?_
    refine um_iconst (pc2 := 23) (v := 1) d_La_partsThen_22 rfl (by decide) ?_
    refine um_icmp_ne (pc2 := 26) (tgt := 50) d_La_partsThen_23 rfl rfl (fun z => ?_) (fun z => ?_)
    · replace h := h.1 z
      refine um_forget [true, true, false, false, false, true, true] rfl ?_
      exact b_La_partsThen_50 h
    · replace h := h.2 z
      refine um_iload (pc2 := 28) d_La_partsThen_26 rfl rfl ?_
      refine um_iconst (pc2 := 29) (v := (-1)) d_La_partsThen_28 rfl (by decide) ?_
      refine um_icmp_eq (pc2 := 32) (tgt := 50) d_La_partsThen_29 rfl rfl (fun z => ?_) (fun z => ?_)
      · replace h := h.1 z
        refine um_forget [true, true, false, false, false, true, true] rfl ?_
        exact b_La_partsThen_50 h
      · replace h := h.2 z
        refine um_aload_n (pc2 := 33) d_La_partsThen_32 rfl rfl ?_
        refine um_iload (pc2 := 35) d_La_partsThen_33 rfl rfl ?_
        refine um_aload_n (pc2 := 36) d_La_partsThen_35 rfl rfl ?_
        refine um_getR (pc2 := 39) d_La_partsThen_36 rfl f_La_21 rfl rfl ?_
        refine um_getR (pc2 := 42) d_La_partsThen_39 rfl f_La_154 rfl rfl ?_
        refine um_iload_n (pc2 := 43) d_La_partsThen_42 rfl rfl ?_
        refine um_iald (pc2 := 44) d_La_partsThen_43 rfl rfl h.1 rfl ?_
        replace h := h.2
        refine um_callV2v (pc2 := 47) d_La_partsThen_44 rfl g_La_86 rfl (Nat.le_of_ble_eq_true rfl) (Nat.le_of_ble_eq_true rfl) (Nat.le_of_ble_eq_true rfl) (c_La_begin h) (fun σ1 h => ?_)
        refine um_goto (tgt := 75) d_La_partsThen_47 rfl ?_
        exact um_vret d_La_partsThen_75 rfl ⟨rfl, h⟩
  · replace h := h.2 z
    refine um_aload_n (pc2 := 5) d_La_partsThen_4 rfl rfl ?_
    refine um_iload_n (pc2 := 6) d_La_partsThen_5 rfl rfl ?_
    refine um_aload_n (pc2 := 7) d_La_partsThen_6 rfl rfl ?_
    refine um_getR (pc2 := 10) d_La_partsThen_7 rfl f_La_21 rfl rfl ?_
    refine um_getR (pc2 := 13) d_La_partsThen_10 rfl f_La_154 rfl rfl ?_
    refine um_iload_n (pc2 := 14) d_La_partsThen_13 rfl rfl ?_
    refine um_iald (pc2 := 15) d_La_partsThen_14 rfl rfl h.1 rfl ?_
    replace h := h.2
    refine um_callV2v (pc2 := 18) d_La_partsThen_15 rfl g_La_86 rfl (Nat.le_of_ble_eq_true rfl) (Nat.le_of_ble_eq_true rfl) (Nat.le_of_ble_eq_true rfl) (c_La_begin h) (fun σ2 h => ?_)
    refine um_goto (tgt := 75) d_La_partsThen_18 rfl ?_
    exact um_vret d_La_partsThen_75 rfl ⟨rfl, h⟩
def wp_La_turnPlain (a1 : Int32) (a2 : Int32) (a3 : Int32) (σ : um_S) (Q : um_S → Prop) : Prop :=
  wp_Tr_kindOf a2 σ (fun x2 σ1 => wp_Tr_part a2 0 σ1 (fun x4 σ3 => (x2 = 0 → wp_La_finish a1 x2 x4 σ3 (fun σ5 => Q σ5)) ∧ (¬ x2 = 0 → (x2 = 1 → wp_La_finish a1 x2 x4 σ3 (fun σ6 => Q σ6)) ∧ (¬ x2 = 1 → (x2 = 8 → wp_Wo_pop σ3 (fun σ7 => Q σ7)) ∧ (¬ x2 = 8 → (x2 = 9 → wp_Tr_part a2 1 σ3 (fun x9 σ8 => wp_La_partsThen a1 a3 x9 (-1) 8 x4 σ8 (fun σ10 => Q σ10))) ∧ (¬ x2 = 9 → (x2 = 10 → wp_La_partsThen a1 a3 x4 (-1) 9 0 σ3 (fun σ11 => Q σ11)) ∧ (¬ x2 = 10 → (x2 = 11 → wp_Tr_part a2 1 σ3 (fun x13 σ12 => wp_La_partsThen a1 a3 x4 x13 (-1) 0 σ12 (fun σ14 => Q σ14))) ∧ (¬ x2 = 11 → (x2 = 14 → wp_La_partsThen a1 a3 x4 (-1) 12 0 σ3 (fun σ15 => Q σ15)) ∧ (¬ x2 = 14 → (x2 = 15 → wp_La_finish a1 13 x4 σ3 (fun σ16 => Q σ16)) ∧ (¬ x2 = 15 → wp_Tr_part a2 1 σ3 (fun x18 σ17 => wp_La_partsThen a1 a3 x4 x18 x2 0 σ17 (fun σ19 => Q σ19))))))))))))
set_option maxHeartbeats 4000000 in
set_option maxRecDepth 100000 in
theorem c_La_turnPlain {a1 : Int32} {a2 : Int32} {a3 : Int32} {σ : um_S} {Q : um_S → Prop} (h : wp_La_turnPlain a1 a2 a3 σ Q) : um_Con um_cl um_AW um_L um_SX 3 72 M_La_turnPlain [.ref 3, .int a1, .int a2, .int a3] σ (um_Qv Q) := by
  refine um_con (by decide) (Nat.le_of_ble_eq_true rfl) (fun v hv => by simp only [List.mem_cons, List.not_mem_nil, or_false] at hv; rcases hv with rfl | rfl | rfl | rfl <;> rfl) ?_
  show um_Ev um_cl um_AW um_L um_SX M_La_turnPlain 3 72 0 [some (.ref 3), some (.int a1), some (.int a2), some (.int a3), none, none] [] σ (um_Qv Q)
  unfold wp_La_turnPlain at h
  refine um_aload_n (pc2 := 1) d_La_turnPlain_0 rfl rfl ?_
  refine um_getR (pc2 := 4) d_La_turnPlain_1 rfl f_La_36 rfl rfl ?_
  refine um_iload_n (pc2 := 5) d_La_turnPlain_4 rfl rfl ?_
  refine um_callV1i (pc2 := 8) d_La_turnPlain_5 rfl g_La_116 rfl (Nat.le_of_ble_eq_true rfl) (Nat.le_of_ble_eq_true rfl) (Nat.le_of_ble_eq_true rfl) (c_Tr_kindOf h) (fun x2 σ1 h => ?_)
  refine um_istore (pc2 := 10) (ls2 := [some (.ref 3), some (.int a1), some (.int a2), some (.int a3), some (.int x2), none]) d_La_turnPlain_8 rfl (Nat.le_of_ble_eq_true rfl) rfl ?_
  refine um_aload_n (pc2 := 11) d_La_turnPlain_10 rfl rfl ?_
  refine um_getR (pc2 := 14) d_La_turnPlain_11 rfl f_La_36 rfl rfl ?_
  refine um_iload_n (pc2 := 15) d_La_turnPlain_14 rfl rfl ?_
  refine um_iconst (pc2 := 16) (v := 0) d_La_turnPlain_15 rfl (by decide) ?_
  refine um_callV2i (pc2 := 19) d_La_turnPlain_16 rfl g_La_141 rfl (Nat.le_of_ble_eq_true rfl) (Nat.le_of_ble_eq_true rfl) (Nat.le_of_ble_eq_true rfl) (c_Tr_part h) (fun x4 σ3 h => ?_)
  refine um_istore (pc2 := 21) (ls2 := [some (.ref 3), some (.int a1), some (.int a2), some (.int a3), some (.int x2), some (.int x4)]) d_La_turnPlain_19 rfl (Nat.le_of_ble_eq_true rfl) rfl ?_
  refine um_iload (pc2 := 23) d_La_turnPlain_21 rfl rfl ?_
  by_cases z0 : x2 = 0
  · replace h := h.1 z0
    refine um_tableAt (tgt := 100) d_La_turnPlain_23 z0 (kk := 0) (by decide) (by decide) (by decide) rfl rfl ?_
    refine um_aload_n (pc2 := 101) d_La_turnPlain_100 rfl rfl ?_
    refine um_iload_n (pc2 := 102) d_La_turnPlain_101 rfl rfl ?_
    refine um_iload (pc2 := 104) d_La_turnPlain_102 rfl rfl ?_
    refine um_iload (pc2 := 106) d_La_turnPlain_104 rfl rfl ?_
    refine um_callV3v (pc2 := 109) d_La_turnPlain_106 rfl g_La_144 rfl (Nat.le_of_ble_eq_true rfl) (Nat.le_of_ble_eq_true rfl) (Nat.le_of_ble_eq_true rfl) (c_La_finish h) (fun σ5 h => ?_)
    refine um_goto (tgt := 229) d_La_turnPlain_109 rfl ?_
    exact um_vret d_La_turnPlain_229 rfl ⟨rfl, h⟩
  replace h := h.2 z0
  by_cases z1 : x2 = 1
  · replace h := h.1 z1
    refine um_tableAt (tgt := 100) d_La_turnPlain_23 z1 (kk := 1) (by decide) (by decide) (by decide) rfl rfl ?_
    refine um_aload_n (pc2 := 101) d_La_turnPlain_100 rfl rfl ?_
    refine um_iload_n (pc2 := 102) d_La_turnPlain_101 rfl rfl ?_
    refine um_iload (pc2 := 104) d_La_turnPlain_102 rfl rfl ?_
    refine um_iload (pc2 := 106) d_La_turnPlain_104 rfl rfl ?_
    refine um_callV3v (pc2 := 109) d_La_turnPlain_106 rfl g_La_144 rfl (Nat.le_of_ble_eq_true rfl) (Nat.le_of_ble_eq_true rfl) (Nat.le_of_ble_eq_true rfl) (c_La_finish h) (fun σ6 h => ?_)
    refine um_goto (tgt := 229) d_La_turnPlain_109 rfl ?_
    exact um_vret d_La_turnPlain_229 rfl ⟨rfl, h⟩
  replace h := h.2 z1
  by_cases z8 : x2 = 8
  · replace h := h.1 z8
    refine um_tableAt (tgt := 112) d_La_turnPlain_23 z8 (kk := 8) (by decide) (by decide) (by decide) rfl rfl ?_
    refine um_aload_n (pc2 := 113) d_La_turnPlain_112 rfl rfl ?_
    refine um_getR (pc2 := 116) d_La_turnPlain_113 rfl f_La_21 rfl rfl ?_
    refine um_callV0v (pc2 := 119) d_La_turnPlain_116 rfl g_La_147 rfl (Nat.le_of_ble_eq_true rfl) (Nat.le_of_ble_eq_true rfl) (Nat.le_of_ble_eq_true rfl) (c_Wo_pop h) (fun σ7 h => ?_)
    refine um_goto (tgt := 229) d_La_turnPlain_119 rfl ?_
    exact um_vret d_La_turnPlain_229 rfl ⟨rfl, h⟩
  replace h := h.2 z8
  by_cases z9 : x2 = 9
  · replace h := h.1 z9
    refine um_tableAt (tgt := 122) d_La_turnPlain_23 z9 (kk := 9) (by decide) (by decide) (by decide) rfl rfl ?_
    refine um_aload_n (pc2 := 123) d_La_turnPlain_122 rfl rfl ?_
    refine um_iload_n (pc2 := 124) d_La_turnPlain_123 rfl rfl ?_
    refine um_iload_n (pc2 := 125) d_La_turnPlain_124 rfl rfl ?_
    refine um_aload_n (pc2 := 126) d_La_turnPlain_125 rfl rfl ?_
    refine um_getR (pc2 := 129) d_La_turnPlain_126 rfl f_La_36 rfl rfl ?_
    refine um_iload_n (pc2 := 130) d_La_turnPlain_129 rfl rfl ?_
    refine um_iconst (pc2 := 131) (v := 1) d_La_turnPlain_130 rfl (by decide) ?_
    refine um_callV2i (pc2 := 134) d_La_turnPlain_131 rfl g_La_141 rfl (Nat.le_of_ble_eq_true rfl) (Nat.le_of_ble_eq_true rfl) (Nat.le_of_ble_eq_true rfl) (c_Tr_part h) (fun x9 σ8 h => ?_)
    refine um_iconst (pc2 := 135) (v := (-1)) d_La_turnPlain_134 rfl (by decide) ?_
    refine um_bipush (pc2 := 137) (v := 8) d_La_turnPlain_135 rfl (by decide) ?_
    refine um_iload (pc2 := 139) d_La_turnPlain_137 rfl rfl ?_
    refine um_callV6v (pc2 := 142) d_La_turnPlain_139 rfl g_La_150 rfl (Nat.le_of_ble_eq_true rfl) (Nat.le_of_ble_eq_true rfl) (Nat.le_of_ble_eq_true rfl) (c_La_partsThen h) (fun σ10 h => ?_)
    refine um_goto (tgt := 229) d_La_turnPlain_142 rfl ?_
    exact um_vret d_La_turnPlain_229 rfl ⟨rfl, h⟩
  replace h := h.2 z9
  by_cases z10 : x2 = 10
  · replace h := h.1 z10
    refine um_tableAt (tgt := 145) d_La_turnPlain_23 z10 (kk := 10) (by decide) (by decide) (by decide) rfl rfl ?_
    refine um_aload_n (pc2 := 146) d_La_turnPlain_145 rfl rfl ?_
    refine um_iload_n (pc2 := 147) d_La_turnPlain_146 rfl rfl ?_
    refine um_iload_n (pc2 := 148) d_La_turnPlain_147 rfl rfl ?_
    refine um_iload (pc2 := 150) d_La_turnPlain_148 rfl rfl ?_
    refine um_iconst (pc2 := 151) (v := (-1)) d_La_turnPlain_150 rfl (by decide) ?_
    refine um_bipush (pc2 := 153) (v := 9) d_La_turnPlain_151 rfl (by decide) ?_
    refine um_iconst (pc2 := 154) (v := 0) d_La_turnPlain_153 rfl (by decide) ?_
    refine um_callV6v (pc2 := 157) d_La_turnPlain_154 rfl g_La_150 rfl (Nat.le_of_ble_eq_true rfl) (Nat.le_of_ble_eq_true rfl) (Nat.le_of_ble_eq_true rfl) (c_La_partsThen h) (fun σ11 h => ?_)
    refine um_goto (tgt := 229) d_La_turnPlain_157 rfl ?_
    exact um_vret d_La_turnPlain_229 rfl ⟨rfl, h⟩
  replace h := h.2 z10
  by_cases z11 : x2 = 11
  · replace h := h.1 z11
    refine um_tableAt (tgt := 160) d_La_turnPlain_23 z11 (kk := 11) (by decide) (by decide) (by decide) rfl rfl ?_
    refine um_aload_n (pc2 := 161) d_La_turnPlain_160 rfl rfl ?_
    refine um_iload_n (pc2 := 162) d_La_turnPlain_161 rfl rfl ?_
    refine um_iload_n (pc2 := 163) d_La_turnPlain_162 rfl rfl ?_
    refine um_iload (pc2 := 165) d_La_turnPlain_163 rfl rfl ?_
    refine um_aload_n (pc2 := 166) d_La_turnPlain_165 rfl rfl ?_
    refine um_getR (pc2 := 169) d_La_turnPlain_166 rfl f_La_36 rfl rfl ?_
    refine um_iload_n (pc2 := 170) d_La_turnPlain_169 rfl rfl ?_
    refine um_iconst (pc2 := 171) (v := 1) d_La_turnPlain_170 rfl (by decide) ?_
    refine um_callV2i (pc2 := 174) d_La_turnPlain_171 rfl g_La_141 rfl (Nat.le_of_ble_eq_true rfl) (Nat.le_of_ble_eq_true rfl) (Nat.le_of_ble_eq_true rfl) (c_Tr_part h) (fun x13 σ12 h => ?_)
    refine um_iconst (pc2 := 175) (v := (-1)) d_La_turnPlain_174 rfl (by decide) ?_
    refine um_iconst (pc2 := 176) (v := 0) d_La_turnPlain_175 rfl (by decide) ?_
    refine um_callV6v (pc2 := 179) d_La_turnPlain_176 rfl g_La_150 rfl (Nat.le_of_ble_eq_true rfl) (Nat.le_of_ble_eq_true rfl) (Nat.le_of_ble_eq_true rfl) (c_La_partsThen h) (fun σ14 h => ?_)
    refine um_goto (tgt := 229) d_La_turnPlain_179 rfl ?_
    exact um_vret d_La_turnPlain_229 rfl ⟨rfl, h⟩
  replace h := h.2 z11
  by_cases z14 : x2 = 14
  · replace h := h.1 z14
    refine um_tableAt (tgt := 182) d_La_turnPlain_23 z14 (kk := 14) (by decide) (by decide) (by decide) rfl rfl ?_
    refine um_aload_n (pc2 := 183) d_La_turnPlain_182 rfl rfl ?_
    refine um_iload_n (pc2 := 184) d_La_turnPlain_183 rfl rfl ?_
    refine um_iload_n (pc2 := 185) d_La_turnPlain_184 rfl rfl ?_
    refine um_iload (pc2 := 187) d_La_turnPlain_185 rfl rfl ?_
    refine um_iconst (pc2 := 188) (v := (-1)) d_La_turnPlain_187 rfl (by decide) ?_
    refine um_bipush (pc2 := 190) (v := 12) d_La_turnPlain_188 rfl (by decide) ?_
    refine um_iconst (pc2 := 191) (v := 0) d_La_turnPlain_190 rfl (by decide) ?_
    refine um_callV6v (pc2 := 194) d_La_turnPlain_191 rfl g_La_150 rfl (Nat.le_of_ble_eq_true rfl) (Nat.le_of_ble_eq_true rfl) (Nat.le_of_ble_eq_true rfl) (c_La_partsThen h) (fun σ15 h => ?_)
    refine um_goto (tgt := 229) d_La_turnPlain_194 rfl ?_
    exact um_vret d_La_turnPlain_229 rfl ⟨rfl, h⟩
  replace h := h.2 z14
  by_cases z15 : x2 = 15
  · replace h := h.1 z15
    refine um_tableAt (tgt := 197) d_La_turnPlain_23 z15 (kk := 15) (by decide) (by decide) (by decide) rfl rfl ?_
    refine um_aload_n (pc2 := 198) d_La_turnPlain_197 rfl rfl ?_
    refine um_iload_n (pc2 := 199) d_La_turnPlain_198 rfl rfl ?_
    refine um_bipush (pc2 := 201) (v := 13) d_La_turnPlain_199 rfl (by decide) ?_
    refine um_iload (pc2 := 203) d_La_turnPlain_201 rfl rfl ?_
    refine um_callV3v (pc2 := 206) d_La_turnPlain_203 rfl g_La_144 rfl (Nat.le_of_ble_eq_true rfl) (Nat.le_of_ble_eq_true rfl) (Nat.le_of_ble_eq_true rfl) (c_La_finish h) (fun σ16 h => ?_)
    refine um_goto (tgt := 229) d_La_turnPlain_206 rfl ?_
    exact um_vret d_La_turnPlain_229 rfl ⟨rfl, h⟩
  replace h := h.2 z15
  have hE : um_Ev um_cl um_AW um_L um_SX M_La_turnPlain 3 72 209 [some (.ref 3), some (.int a1), some (.int a2), some (.int a3), some (.int x2), some (.int x4)] [] σ3 (um_Qv Q) := by
    refine um_aload_n (pc2 := 210) d_La_turnPlain_209 rfl rfl ?_
    refine um_iload_n (pc2 := 211) d_La_turnPlain_210 rfl rfl ?_
    refine um_iload_n (pc2 := 212) d_La_turnPlain_211 rfl rfl ?_
    refine um_iload (pc2 := 214) d_La_turnPlain_212 rfl rfl ?_
    refine um_aload_n (pc2 := 215) d_La_turnPlain_214 rfl rfl ?_
    refine um_getR (pc2 := 218) d_La_turnPlain_215 rfl f_La_36 rfl rfl ?_
    refine um_iload_n (pc2 := 219) d_La_turnPlain_218 rfl rfl ?_
    refine um_iconst (pc2 := 220) (v := 1) d_La_turnPlain_219 rfl (by decide) ?_
    refine um_callV2i (pc2 := 223) d_La_turnPlain_220 rfl g_La_141 rfl (Nat.le_of_ble_eq_true rfl) (Nat.le_of_ble_eq_true rfl) (Nat.le_of_ble_eq_true rfl) (c_Tr_part h) (fun x18 σ17 h => ?_)
    refine um_iload (pc2 := 225) d_La_turnPlain_223 rfl rfl ?_
    refine um_iconst (pc2 := 226) (v := 0) d_La_turnPlain_225 rfl (by decide) ?_
    refine um_callV6v (pc2 := 229) d_La_turnPlain_226 rfl g_La_150 rfl (Nat.le_of_ble_eq_true rfl) (Nat.le_of_ble_eq_true rfl) (Nat.le_of_ble_eq_true rfl) (c_La_partsThen h) (fun σ19 h => ?_)
    exact um_vret d_La_turnPlain_229 rfl ⟨rfl, h⟩
  by_cases y2 : x2 = 2
  · exact um_tableAt (tgt := 209) d_La_turnPlain_23 y2 (kk := 2) (by decide) (by decide) (by decide) rfl rfl hE
  by_cases y3 : x2 = 3
  · exact um_tableAt (tgt := 209) d_La_turnPlain_23 y3 (kk := 3) (by decide) (by decide) (by decide) rfl rfl hE
  by_cases y4 : x2 = 4
  · exact um_tableAt (tgt := 209) d_La_turnPlain_23 y4 (kk := 4) (by decide) (by decide) (by decide) rfl rfl hE
  by_cases y5 : x2 = 5
  · exact um_tableAt (tgt := 209) d_La_turnPlain_23 y5 (kk := 5) (by decide) (by decide) (by decide) rfl rfl hE
  by_cases y6 : x2 = 6
  · exact um_tableAt (tgt := 209) d_La_turnPlain_23 y6 (kk := 6) (by decide) (by decide) (by decide) rfl rfl hE
  by_cases y7 : x2 = 7
  · exact um_tableAt (tgt := 209) d_La_turnPlain_23 y7 (kk := 7) (by decide) (by decide) (by decide) rfl rfl hE
  by_cases y12 : x2 = 12
  · exact um_tableAt (tgt := 209) d_La_turnPlain_23 y12 (kk := 12) (by decide) (by decide) (by decide) rfl rfl hE
  by_cases y13 : x2 = 13
  · exact um_tableAt (tgt := 209) d_La_turnPlain_23 y13 (kk := 13) (by decide) (by decide) (by decide) rfl rfl hE
  exact um_tableOut (tgt := 209) d_La_turnPlain_23 (by have := um_toInt_ne (kk := 0) z0 (by decide); have := um_toInt_ne (kk := 1) z1 (by decide); have := um_toInt_ne (kk := 2) y2 (by decide); have := um_toInt_ne (kk := 3) y3 (by decide); have := um_toInt_ne (kk := 4) y4 (by decide); have := um_toInt_ne (kk := 5) y5 (by decide); have := um_toInt_ne (kk := 6) y6 (by decide); have := um_toInt_ne (kk := 7) y7 (by decide); have := um_toInt_ne (kk := 8) z8 (by decide); have := um_toInt_ne (kk := 9) z9 (by decide); have := um_toInt_ne (kk := 10) z10 (by decide); have := um_toInt_ne (kk := 11) z11 (by decide); have := um_toInt_ne (kk := 12) y12 (by decide); have := um_toInt_ne (kk := 13) y13 (by decide); have := um_toInt_ne (kk := 14) z14 (by decide); have := um_toInt_ne (kk := 15) z15 (by decide); omega) rfl hE
