def wp_Mo_separates (a1 : Int32) (σ : um_S) (Q : um_S → Prop) : Prop :=
  vp_in a1 2001 ∧ ∀ σ1 : um_S, σ1 = um_up σ 60 a1.toNatClampNeg (σ 38 30) → vp_in a1 2001 ∧ vp_in (σ1 38 37) 2002 ∧ ∀ σ2 : um_S, σ2 = um_up σ1 63 (σ1 38 37).toNatClampNeg (σ1 55 a1.toNatClampNeg) → vp_in a1 2001 ∧ vp_in (σ2 38 37) 2002 ∧ ∀ σ3 : um_S, σ3 = um_up σ2 64 (σ2 38 37).toNatClampNeg (σ2 56 a1.toNatClampNeg) → vp_in (σ3 38 37) 2002 ∧ ∀ σ4 : um_S, σ4 = um_up σ3 67 (σ3 38 37).toNatClampNeg 100 → vp_in (σ4 38 37) 2002 ∧ ∀ σ5 : um_S, σ5 = um_up σ4 68 (σ4 38 37).toNatClampNeg a1 → vp_in (σ5 38 37) 2002 ∧ ∀ σ6 : um_S, σ6 = um_up σ5 69 (σ5 38 37).toNatClampNeg 0 → ∀ σ7 : um_S, σ7 = um_up σ6 38 37 ((σ6 38 37) + 1) → Q σ7
set_option maxHeartbeats 4000000 in
set_option maxRecDepth 100000 in
theorem c_Mo_separates {a1 : Int32} {σ : um_S} {Q : um_S → Prop} (h : wp_Mo_separates a1 σ Q) : um_Con um_cl um_AW um_L um_SX 0 0 M_Mo_separates [.ref 38, .int a1] σ (um_Qv Q) := by
  refine um_con (by decide) (Nat.le_of_ble_eq_true rfl) (fun v hv => by simp only [List.mem_cons, List.not_mem_nil, or_false] at hv; rcases hv with rfl | rfl <;> rfl) ?_
  show um_Ev um_cl um_AW um_L um_SX M_Mo_separates 0 0 0 [some (.ref 38), some (.int a1)] [] σ (um_Qv Q)
  unfold wp_Mo_separates at h
  refine um_aload_n (pc2 := 1) d_Mo_separates_0 rfl rfl ?_
  refine um_getR (pc2 := 4) d_Mo_separates_1 rfl f_Mo_73 rfl rfl ?_
  refine um_iload_n (pc2 := 5) d_Mo_separates_4 rfl rfl ?_
  refine um_aload_n (pc2 := 6) d_Mo_separates_5 rfl rfl ?_
  refine um_getI (pc2 := 9) d_Mo_separates_6 rfl f_Mo_238 rfl rfl ?_
  refine um_iast (pc2 := 10) d_Mo_separates_9 rfl rfl h.1 rfl (um_gen (fun σ1 eσ1 => ?_))
  replace h := h.2 σ1 eσ1
  refine um_aload_n (pc2 := 11) d_Mo_separates_10 rfl rfl ?_
  refine um_getR (pc2 := 14) d_Mo_separates_11 rfl f_Mo_82 rfl rfl ?_
  refine um_aload_n (pc2 := 15) d_Mo_separates_14 rfl rfl ?_
  refine um_getI (pc2 := 18) d_Mo_separates_15 rfl f_Mo_173 rfl rfl ?_
  refine um_aload_n (pc2 := 19) d_Mo_separates_18 rfl rfl ?_
  refine um_getR (pc2 := 22) d_Mo_separates_19 rfl f_Mo_58 rfl rfl ?_
  refine um_iload_n (pc2 := 23) d_Mo_separates_22 rfl rfl ?_
  refine um_iald (pc2 := 24) d_Mo_separates_23 rfl rfl h.1 rfl ?_
  replace h := h.2
  refine um_iast (pc2 := 25) d_Mo_separates_24 rfl rfl h.1 rfl (um_gen (fun σ2 eσ2 => ?_))
  replace h := h.2 σ2 eσ2
  refine um_aload_n (pc2 := 26) d_Mo_separates_25 rfl rfl ?_
  refine um_getR (pc2 := 29) d_Mo_separates_26 rfl f_Mo_85 rfl rfl ?_
  refine um_aload_n (pc2 := 30) d_Mo_separates_29 rfl rfl ?_
  refine um_getI (pc2 := 33) d_Mo_separates_30 rfl f_Mo_173 rfl rfl ?_
  refine um_aload_n (pc2 := 34) d_Mo_separates_33 rfl rfl ?_
  refine um_getR (pc2 := 37) d_Mo_separates_34 rfl f_Mo_61 rfl rfl ?_
  refine um_iload_n (pc2 := 38) d_Mo_separates_37 rfl rfl ?_
  refine um_iald (pc2 := 39) d_Mo_separates_38 rfl rfl h.1 rfl ?_
  replace h := h.2
  refine um_iast (pc2 := 40) d_Mo_separates_39 rfl rfl h.1 rfl (um_gen (fun σ3 eσ3 => ?_))
  replace h := h.2 σ3 eσ3
  refine um_aload_n (pc2 := 41) d_Mo_separates_40 rfl rfl ?_
  refine um_getR (pc2 := 44) d_Mo_separates_41 rfl f_Mo_94 rfl rfl ?_
  refine um_aload_n (pc2 := 45) d_Mo_separates_44 rfl rfl ?_
  refine um_getI (pc2 := 48) d_Mo_separates_45 rfl f_Mo_173 rfl rfl ?_
  refine um_bipush (pc2 := 50) (v := 100) d_Mo_separates_48 rfl (by decide) ?_
  refine um_iast (pc2 := 51) d_Mo_separates_50 rfl rfl h.1 rfl (um_gen (fun σ4 eσ4 => ?_))
  replace h := h.2 σ4 eσ4
  refine um_aload_n (pc2 := 52) d_Mo_separates_51 rfl rfl ?_
  refine um_getR (pc2 := 55) d_Mo_separates_52 rfl f_Mo_97 rfl rfl ?_
  refine um_aload_n (pc2 := 56) d_Mo_separates_55 rfl rfl ?_
  refine um_getI (pc2 := 59) d_Mo_separates_56 rfl f_Mo_173 rfl rfl ?_
  refine um_iload_n (pc2 := 60) d_Mo_separates_59 rfl rfl ?_
  refine um_iast (pc2 := 61) d_Mo_separates_60 rfl rfl h.1 rfl (um_gen (fun σ5 eσ5 => ?_))
  replace h := h.2 σ5 eσ5
  refine um_aload_n (pc2 := 62) d_Mo_separates_61 rfl rfl ?_
  refine um_getR (pc2 := 65) d_Mo_separates_62 rfl f_Mo_100 rfl rfl ?_
  refine um_aload_n (pc2 := 66) d_Mo_separates_65 rfl rfl ?_
  refine um_getI (pc2 := 69) d_Mo_separates_66 rfl f_Mo_173 rfl rfl ?_
  refine um_iconst (pc2 := 70) (v := 0) d_Mo_separates_69 rfl (by decide) ?_
  refine um_iast (pc2 := 71) d_Mo_separates_70 rfl rfl h.1 rfl (um_gen (fun σ6 eσ6 => ?_))
  replace h := h.2 σ6 eσ6
  refine um_aload_n (pc2 := 72) d_Mo_separates_71 rfl rfl ?_
  refine um_dup (pc2 := 73) d_Mo_separates_72 rfl rfl ?_
  refine um_getI (pc2 := 76) d_Mo_separates_73 rfl f_Mo_173 rfl rfl ?_
  refine um_iconst (pc2 := 77) (v := 1) d_Mo_separates_76 rfl (by decide) ?_
  refine um_iadd (pc2 := 78) d_Mo_separates_77 rfl ?_
  refine um_putI (pc2 := 81) d_Mo_separates_78 rfl fw_Mo_173 rfl rfl (um_gen (fun σ7 eσ7 => ?_))
  replace h := h σ7 eσ7
  exact um_vret d_Mo_separates_81 rfl ⟨rfl, h⟩
def wp_Mo_put (a1 : Int32) (a2 : Int32) (a3 : Int32) (σ : um_S) (Q : um_S → Prop) : Prop :=
  ((σ 38 10) = 1000 → ∀ σ1 : um_S, σ1 = um_up σ 38 35 1 → Q σ1) ∧ (¬ (σ 38 10) = 1000 → ((σ 38 35) = 0 → vp_in (σ 38 10) 1000 ∧ ∀ σ2 : um_S, σ2 = um_up σ 46 (σ 38 10).toNatClampNeg a1 → vp_in (σ2 38 10) 1000 ∧ ∀ σ3 : um_S, σ3 = um_up σ2 47 (σ2 38 10).toNatClampNeg a2 → vp_in (σ3 38 10) 1000 ∧ ∀ σ4 : um_S, σ4 = um_up σ3 48 (σ3 38 10).toNatClampNeg a3 → ∀ σ5 : um_S, σ5 = um_up σ4 38 10 ((σ4 38 10) + 1) → Q σ5) ∧ (¬ (σ 38 35) = 0 → ∀ σ6 : um_S, σ6 = um_up σ 38 35 1 → Q σ6))
set_option maxHeartbeats 4000000 in
set_option maxRecDepth 100000 in
theorem c_Mo_put {a1 : Int32} {a2 : Int32} {a3 : Int32} {σ : um_S} {Q : um_S → Prop} (h : wp_Mo_put a1 a2 a3 σ Q) : um_Con um_cl um_AW um_L um_SX 0 0 M_Mo_put [.ref 38, .int a1, .int a2, .int a3] σ (um_Qv Q) := by
  refine um_con (by decide) (Nat.le_of_ble_eq_true rfl) (fun v hv => by simp only [List.mem_cons, List.not_mem_nil, or_false] at hv; rcases hv with rfl | rfl | rfl | rfl <;> rfl) ?_
  show um_Ev um_cl um_AW um_L um_SX M_Mo_put 0 0 0 [some (.ref 38), some (.int a1), some (.int a2), some (.int a3)] [] σ (um_Qv Q)
  unfold wp_Mo_put at h
  refine um_aload_n (pc2 := 1) d_Mo_put_0 rfl rfl ?_
  refine um_getI (pc2 := 4) d_Mo_put_1 rfl f_Mo_164 rfl rfl ?_
  refine um_sipush (pc2 := 7) (v := 1000) d_Mo_put_4 rfl (by decide) ?_
  refine um_icmp_eq (pc2 := 10) (tgt := 17) d_Mo_put_7 rfl rfl (fun z => ?_) (fun z => ?_)
  · replace h := h.1 z
    refine um_aload_n (pc2 := 18) d_Mo_put_17 rfl rfl ?_
    refine um_iconst (pc2 := 19) (v := 1) d_Mo_put_18 rfl (by decide) ?_
    refine um_putZ (pc2 := 22) d_Mo_put_19 rfl fw_Mo_167 rfl rfl (by decide) (um_gen (fun σ1 eσ1 => ?_))
    replace h := h σ1 eσ1
    exact um_vret d_Mo_put_22 rfl ⟨rfl, h⟩
  · replace h := h.2 z
    refine um_aload_n (pc2 := 11) d_Mo_put_10 rfl rfl ?_
    refine um_getI (pc2 := 14) d_Mo_put_11 rfl f_Mo_167 rfl rfl ?_
    refine um_if_eq (pc2 := 17) (tgt := 23) d_Mo_put_14 rfl rfl (fun z => ?_) (fun z => ?_)
    · replace h := h.1 z
      refine um_aload_n (pc2 := 24) d_Mo_put_23 rfl rfl ?_
      refine um_getR (pc2 := 27) d_Mo_put_24 rfl f_Mo_31 rfl rfl ?_
      refine um_aload_n (pc2 := 28) d_Mo_put_27 rfl rfl ?_
      refine um_getI (pc2 := 31) d_Mo_put_28 rfl f_Mo_164 rfl rfl ?_
      refine um_iload_n (pc2 := 32) d_Mo_put_31 rfl rfl ?_
      refine um_iast (pc2 := 33) d_Mo_put_32 rfl rfl h.1 rfl (um_gen (fun σ2 eσ2 => ?_))
      replace h := h.2 σ2 eσ2
      refine um_aload_n (pc2 := 34) d_Mo_put_33 rfl rfl ?_
      refine um_getR (pc2 := 37) d_Mo_put_34 rfl f_Mo_34 rfl rfl ?_
      refine um_aload_n (pc2 := 38) d_Mo_put_37 rfl rfl ?_
      refine um_getI (pc2 := 41) d_Mo_put_38 rfl f_Mo_164 rfl rfl ?_
      refine um_iload_n (pc2 := 42) d_Mo_put_41 rfl rfl ?_
      refine um_iast (pc2 := 43) d_Mo_put_42 rfl rfl h.1 rfl (um_gen (fun σ3 eσ3 => ?_))
      replace h := h.2 σ3 eσ3
      refine um_aload_n (pc2 := 44) d_Mo_put_43 rfl rfl ?_
      refine um_getR (pc2 := 47) d_Mo_put_44 rfl f_Mo_37 rfl rfl ?_
      refine um_aload_n (pc2 := 48) d_Mo_put_47 rfl rfl ?_
      refine um_getI (pc2 := 51) d_Mo_put_48 rfl f_Mo_164 rfl rfl ?_
      refine um_iload_n (pc2 := 52) d_Mo_put_51 rfl rfl ?_
      refine um_iast (pc2 := 53) d_Mo_put_52 rfl rfl h.1 rfl (um_gen (fun σ4 eσ4 => ?_))
      replace h := h.2 σ4 eσ4
      refine um_aload_n (pc2 := 54) d_Mo_put_53 rfl rfl ?_
      refine um_dup (pc2 := 55) d_Mo_put_54 rfl rfl ?_
      refine um_getI (pc2 := 58) d_Mo_put_55 rfl f_Mo_164 rfl rfl ?_
      refine um_iconst (pc2 := 59) (v := 1) d_Mo_put_58 rfl (by decide) ?_
      refine um_iadd (pc2 := 60) d_Mo_put_59 rfl ?_
      refine um_putI (pc2 := 63) d_Mo_put_60 rfl fw_Mo_164 rfl rfl (um_gen (fun σ5 eσ5 => ?_))
      replace h := h σ5 eσ5
      exact um_vret d_Mo_put_63 rfl ⟨rfl, h⟩
    · replace h := h.2 z
      refine um_aload_n (pc2 := 18) d_Mo_put_17 rfl rfl ?_
      refine um_iconst (pc2 := 19) (v := 1) d_Mo_put_18 rfl (by decide) ?_
      refine um_putZ (pc2 := 22) d_Mo_put_19 rfl fw_Mo_167 rfl rfl (by decide) (um_gen (fun σ6 eσ6 => ?_))
      replace h := h σ6 eσ6
      exact um_vret d_Mo_put_22 rfl ⟨rfl, h⟩
def wp_Mo_begin (a1 : Int32) (a2 : Int32) (a3 : Int32) (a4 : Int32) (σ : um_S) (Q : um_S → Prop) : Prop :=
  ((σ 38 20) = 2000 → ∀ σ1 : um_S, σ1 = um_up σ 38 35 1 → Q σ1) ∧ (¬ (σ 38 20) = 2000 → ((σ 38 35) = 0 → ∀ σ2 : um_S, σ2 = um_up σ 38 20 ((σ 38 20) + 1) → vp_in (σ2 38 37) 2002 ∧ ∀ σ3 : um_S, σ3 = um_up σ2 63 (σ2 38 37).toNatClampNeg a1 → vp_in (σ3 38 37) 2002 ∧ ∀ σ4 : um_S, σ4 = um_up σ3 64 (σ3 38 37).toNatClampNeg a2 → vp_in (σ4 38 37) 2002 ∧ ∀ σ5 : um_S, σ5 = um_up σ4 65 (σ4 38 37).toNatClampNeg a3 → vp_in (σ5 38 37) 2002 ∧ ∀ σ6 : um_S, σ6 = um_up σ5 66 (σ5 38 37).toNatClampNeg a4 → vp_in (σ6 38 37) 2002 ∧ ∀ σ7 : um_S, σ7 = um_up σ6 67 (σ6 38 37).toNatClampNeg 0 → vp_in (σ7 38 37) 2002 ∧ ∀ σ8 : um_S, σ8 = um_up σ7 68 (σ7 38 37).toNatClampNeg 0 → vp_in (σ8 38 37) 2002 ∧ ∀ σ9 : um_S, σ9 = um_up σ8 69 (σ8 38 37).toNatClampNeg 0 → ∀ σ10 : um_S, σ10 = um_up σ9 38 37 ((σ9 38 37) + 1) → Q σ10) ∧ (¬ (σ 38 35) = 0 → ∀ σ11 : um_S, σ11 = um_up σ 38 35 1 → Q σ11))
set_option maxHeartbeats 4000000 in
set_option maxRecDepth 100000 in
theorem c_Mo_begin {a1 : Int32} {a2 : Int32} {a3 : Int32} {a4 : Int32} {σ : um_S} {Q : um_S → Prop} (h : wp_Mo_begin a1 a2 a3 a4 σ Q) : um_Con um_cl um_AW um_L um_SX 0 0 M_Mo_begin [.ref 38, .int a1, .int a2, .int a3, .int a4] σ (um_Qv Q) := by
  refine um_con (by decide) (Nat.le_of_ble_eq_true rfl) (fun v hv => by simp only [List.mem_cons, List.not_mem_nil, or_false] at hv; rcases hv with rfl | rfl | rfl | rfl | rfl <;> rfl) ?_
  show um_Ev um_cl um_AW um_L um_SX M_Mo_begin 0 0 0 [some (.ref 38), some (.int a1), some (.int a2), some (.int a3), some (.int a4)] [] σ (um_Qv Q)
  unfold wp_Mo_begin at h
  refine um_aload_n (pc2 := 1) d_Mo_begin_0 rfl rfl ?_
  refine um_getI (pc2 := 4) d_Mo_begin_1 rfl f_Mo_170 rfl rfl ?_
  refine um_sipush (pc2 := 7) (v := 2000) d_Mo_begin_4 rfl (by decide) ?_
  refine um_icmp_eq (pc2 := 10) (tgt := 17) d_Mo_begin_7 rfl rfl (fun z => ?_) (fun z => ?_)
  · replace h := h.1 z
    refine um_aload_n (pc2 := 18) d_Mo_begin_17 rfl rfl ?_
    refine um_iconst (pc2 := 19) (v := 1) d_Mo_begin_18 rfl (by decide) ?_
    refine um_putZ (pc2 := 22) d_Mo_begin_19 rfl fw_Mo_167 rfl rfl (by decide) (um_gen (fun σ1 eσ1 => ?_))
    replace h := h σ1 eσ1
    exact um_vret d_Mo_begin_22 rfl ⟨rfl, h⟩
  · replace h := h.2 z
    refine um_aload_n (pc2 := 11) d_Mo_begin_10 rfl rfl ?_
    refine um_getI (pc2 := 14) d_Mo_begin_11 rfl f_Mo_167 rfl rfl ?_
    refine um_if_eq (pc2 := 17) (tgt := 23) d_Mo_begin_14 rfl rfl (fun z => ?_) (fun z => ?_)
    · replace h := h.1 z
      refine um_aload_n (pc2 := 24) d_Mo_begin_23 rfl rfl ?_
      refine um_dup (pc2 := 25) d_Mo_begin_24 rfl rfl ?_
      refine um_getI (pc2 := 28) d_Mo_begin_25 rfl f_Mo_170 rfl rfl ?_
      refine um_iconst (pc2 := 29) (v := 1) d_Mo_begin_28 rfl (by decide) ?_
      refine um_iadd (pc2 := 30) d_Mo_begin_29 rfl ?_
      refine um_putI (pc2 := 33) d_Mo_begin_30 rfl fw_Mo_170 rfl rfl (um_gen (fun σ2 eσ2 => ?_))
      replace h := h σ2 eσ2
      refine um_aload_n (pc2 := 34) d_Mo_begin_33 rfl rfl ?_
      refine um_getR (pc2 := 37) d_Mo_begin_34 rfl f_Mo_82 rfl rfl ?_
      refine um_aload_n (pc2 := 38) d_Mo_begin_37 rfl rfl ?_
      refine um_getI (pc2 := 41) d_Mo_begin_38 rfl f_Mo_173 rfl rfl ?_
      refine um_iload_n (pc2 := 42) d_Mo_begin_41 rfl rfl ?_
      refine um_iast (pc2 := 43) d_Mo_begin_42 rfl rfl h.1 rfl (um_gen (fun σ3 eσ3 => ?_))
      replace h := h.2 σ3 eσ3
      refine um_aload_n (pc2 := 44) d_Mo_begin_43 rfl rfl ?_
      refine um_getR (pc2 := 47) d_Mo_begin_44 rfl f_Mo_85 rfl rfl ?_
      refine um_aload_n (pc2 := 48) d_Mo_begin_47 rfl rfl ?_
      refine um_getI (pc2 := 51) d_Mo_begin_48 rfl f_Mo_173 rfl rfl ?_
      refine um_iload_n (pc2 := 52) d_Mo_begin_51 rfl rfl ?_
      refine um_iast (pc2 := 53) d_Mo_begin_52 rfl rfl h.1 rfl (um_gen (fun σ4 eσ4 => ?_))
      replace h := h.2 σ4 eσ4
      refine um_aload_n (pc2 := 54) d_Mo_begin_53 rfl rfl ?_
      refine um_getR (pc2 := 57) d_Mo_begin_54 rfl f_Mo_88 rfl rfl ?_
      refine um_aload_n (pc2 := 58) d_Mo_begin_57 rfl rfl ?_
      refine um_getI (pc2 := 61) d_Mo_begin_58 rfl f_Mo_173 rfl rfl ?_
      refine um_iload_n (pc2 := 62) d_Mo_begin_61 rfl rfl ?_
      refine um_iast (pc2 := 63) d_Mo_begin_62 rfl rfl h.1 rfl (um_gen (fun σ5 eσ5 => ?_))
      replace h := h.2 σ5 eσ5
      refine um_aload_n (pc2 := 64) d_Mo_begin_63 rfl rfl ?_
      refine um_getR (pc2 := 67) d_Mo_begin_64 rfl f_Mo_91 rfl rfl ?_
      refine um_aload_n (pc2 := 68) d_Mo_begin_67 rfl rfl ?_
      refine um_getI (pc2 := 71) d_Mo_begin_68 rfl f_Mo_173 rfl rfl ?_
      refine um_iload (pc2 := 73) d_Mo_begin_71 rfl rfl ?_
      refine um_iast (pc2 := 74) d_Mo_begin_73 rfl rfl h.1 rfl (um_gen (fun σ6 eσ6 => ?_))
      replace h := h.2 σ6 eσ6
      refine um_aload_n (pc2 := 75) d_Mo_begin_74 rfl rfl ?_
      refine um_getR (pc2 := 78) d_Mo_begin_75 rfl f_Mo_94 rfl rfl ?_
      refine um_aload_n (pc2 := 79) d_Mo_begin_78 rfl rfl ?_
      refine um_getI (pc2 := 82) d_Mo_begin_79 rfl f_Mo_173 rfl rfl ?_
      refine um_iconst (pc2 := 83) (v := 0) d_Mo_begin_82 rfl (by decide) ?_
      refine um_iast (pc2 := 84) d_Mo_begin_83 rfl rfl h.1 rfl (um_gen (fun σ7 eσ7 => ?_))
      replace h := h.2 σ7 eσ7
      refine um_aload_n (pc2 := 85) d_Mo_begin_84 rfl rfl ?_
      refine um_getR (pc2 := 88) d_Mo_begin_85 rfl f_Mo_97 rfl rfl ?_
      refine um_aload_n (pc2 := 89) d_Mo_begin_88 rfl rfl ?_
      refine um_getI (pc2 := 92) d_Mo_begin_89 rfl f_Mo_173 rfl rfl ?_
      refine um_iconst (pc2 := 93) (v := 0) d_Mo_begin_92 rfl (by decide) ?_
      refine um_iast (pc2 := 94) d_Mo_begin_93 rfl rfl h.1 rfl (um_gen (fun σ8 eσ8 => ?_))
      replace h := h.2 σ8 eσ8
      refine um_aload_n (pc2 := 95) d_Mo_begin_94 rfl rfl ?_
      refine um_getR (pc2 := 98) d_Mo_begin_95 rfl f_Mo_100 rfl rfl ?_
      refine um_aload_n (pc2 := 99) d_Mo_begin_98 rfl rfl ?_
      refine um_getI (pc2 := 102) d_Mo_begin_99 rfl f_Mo_173 rfl rfl ?_
      refine um_iconst (pc2 := 103) (v := 0) d_Mo_begin_102 rfl (by decide) ?_
      refine um_iast (pc2 := 104) d_Mo_begin_103 rfl rfl h.1 rfl (um_gen (fun σ9 eσ9 => ?_))
      replace h := h.2 σ9 eσ9
      refine um_aload_n (pc2 := 105) d_Mo_begin_104 rfl rfl ?_
      refine um_dup (pc2 := 106) d_Mo_begin_105 rfl rfl ?_
      refine um_getI (pc2 := 109) d_Mo_begin_106 rfl f_Mo_173 rfl rfl ?_
      refine um_iconst (pc2 := 110) (v := 1) d_Mo_begin_109 rfl (by decide) ?_
      refine um_iadd (pc2 := 111) d_Mo_begin_110 rfl ?_
      refine um_putI (pc2 := 114) d_Mo_begin_111 rfl fw_Mo_173 rfl rfl (um_gen (fun σ10 eσ10 => ?_))
      replace h := h σ10 eσ10
      exact um_vret d_Mo_begin_114 rfl ⟨rfl, h⟩
    · replace h := h.2 z
      refine um_aload_n (pc2 := 18) d_Mo_begin_17 rfl rfl ?_
      refine um_iconst (pc2 := 19) (v := 1) d_Mo_begin_18 rfl (by decide) ?_
      refine um_putZ (pc2 := 22) d_Mo_begin_19 rfl fw_Mo_167 rfl rfl (by decide) (um_gen (fun σ11 eσ11 => ?_))
      replace h := h σ11 eσ11
      exact um_vret d_Mo_begin_22 rfl ⟨rfl, h⟩
def wp_Mo_last (a1 : Int32) (σ : um_S) (Q : um_S → Prop) : Prop :=
  vp_in a1 2001 ∧ vp_in (σ 55 a1.toNatClampNeg) 150 ∧ vp_in a1 2001 ∧ vp_in a1 2001 ∧ vp_in a1 2001 ∧ wp_Mo_begin (σ 42 (σ 55 a1.toNatClampNeg).toNatClampNeg) (σ 56 a1.toNatClampNeg) ((σ 57 a1.toNatClampNeg) + 1) ((σ 58 a1.toNatClampNeg) + 1) σ (fun σ1 => Q σ1)
set_option maxHeartbeats 4000000 in
set_option maxRecDepth 100000 in
theorem c_Mo_last {a1 : Int32} {σ : um_S} {Q : um_S → Prop} (h : wp_Mo_last a1 σ Q) : um_Con um_cl um_AW um_L um_SX 1 24 M_Mo_last [.ref 38, .int a1] σ (um_Qv Q) := by
  refine um_con (by decide) (Nat.le_of_ble_eq_true rfl) (fun v hv => by simp only [List.mem_cons, List.not_mem_nil, or_false] at hv; rcases hv with rfl | rfl <;> rfl) ?_
  show um_Ev um_cl um_AW um_L um_SX M_Mo_last 1 24 0 [some (.ref 38), some (.int a1)] [] σ (um_Qv Q)
  unfold wp_Mo_last at h
  refine um_aload_n (pc2 := 1) d_Mo_last_0 rfl rfl ?_
  refine um_aload_n (pc2 := 2) d_Mo_last_1 rfl rfl ?_
  refine um_getR (pc2 := 5) d_Mo_last_2 rfl f_Mo_19 rfl rfl ?_
  refine um_aload_n (pc2 := 6) d_Mo_last_5 rfl rfl ?_
  refine um_getR (pc2 := 9) d_Mo_last_6 rfl f_Mo_58 rfl rfl ?_
  refine um_iload_n (pc2 := 10) d_Mo_last_9 rfl rfl ?_
  refine um_iald (pc2 := 11) d_Mo_last_10 rfl rfl h.1 rfl ?_
  replace h := h.2
  refine um_iald (pc2 := 12) d_Mo_last_11 rfl rfl h.1 rfl ?_
  replace h := h.2
  refine um_aload_n (pc2 := 13) d_Mo_last_12 rfl rfl ?_
  refine um_getR (pc2 := 16) d_Mo_last_13 rfl f_Mo_61 rfl rfl ?_
  refine um_iload_n (pc2 := 17) d_Mo_last_16 rfl rfl ?_
  refine um_iald (pc2 := 18) d_Mo_last_17 rfl rfl h.1 rfl ?_
  replace h := h.2
  refine um_aload_n (pc2 := 19) d_Mo_last_18 rfl rfl ?_
  refine um_getR (pc2 := 22) d_Mo_last_19 rfl f_Mo_64 rfl rfl ?_
  refine um_iload_n (pc2 := 23) d_Mo_last_22 rfl rfl ?_
  refine um_iald (pc2 := 24) d_Mo_last_23 rfl rfl h.1 rfl ?_
  replace h := h.2
  refine um_iconst (pc2 := 25) (v := 1) d_Mo_last_24 rfl (by decide) ?_
  refine um_iadd (pc2 := 26) d_Mo_last_25 rfl ?_
  refine um_aload_n (pc2 := 27) d_Mo_last_26 rfl rfl ?_
  refine um_getR (pc2 := 30) d_Mo_last_27 rfl f_Mo_67 rfl rfl ?_
  refine um_iload_n (pc2 := 31) d_Mo_last_30 rfl rfl ?_
  refine um_iald (pc2 := 32) d_Mo_last_31 rfl rfl h.1 rfl ?_
  replace h := h.2
  refine um_iconst (pc2 := 33) (v := 1) d_Mo_last_32 rfl (by decide) ?_
  refine um_iadd (pc2 := 34) d_Mo_last_33 rfl ?_
  refine um_callV4v (pc2 := 37) d_Mo_last_34 rfl g_Mo_176 rfl (Nat.le_of_ble_eq_true rfl) (Nat.le_of_ble_eq_true rfl) (Nat.le_of_ble_eq_true rfl) (c_Mo_begin h) (fun σ1 h => ?_)
  exact um_vret d_Mo_last_37 rfl ⟨rfl, h⟩
def wp_Mo_loop_37 (Q : Int32 → um_S → Prop) (v2 : Int32) (σ : um_S) : Prop :=
  (¬ v2 = (-1) → Q (v2 / 2) σ) ∧ (v2 = (-1) → Q (-1) σ)
def wp_Mo_loop_2 (Q : Int32 → um_S → Prop) : Nat → Int32 → um_S → Prop
  | 0, _, _ => False
  | n + 1, v2, σ =>
    (v2 = (-1) → wp_Mo_loop_37 Q v2 σ) ∧ (¬ v2 = (-1) → vp_in (v2 / 2) 2001 ∧ vp_in (σ 55 (v2 / 2).toNatClampNeg) 150 ∧ ((σ 39 (σ 55 (v2 / 2).toNatClampNeg).toNatClampNeg) = 13 → wp_Mo_loop_37 Q v2 σ) ∧ (¬ (σ 39 (σ 55 (v2 / 2).toNatClampNeg).toNatClampNeg) = 13 → vp_in (v2 / 2) 2001 ∧ ∀ x1 : Int32, x1 = (σ 56 (v2 / 2).toNatClampNeg) → wp_Mo_loop_2 Q n x1 σ))
def wp_Mo_loop (a1 : Int32) (σ : um_S) (Q : Int32 → um_S → Prop) : Prop :=
  wp_Mo_loop_2 Q 100000 a1 σ
set_option maxHeartbeats 4000000 in
set_option maxRecDepth 100000 in
theorem b_Mo_loop_37 {Q : Int32 → um_S → Prop} {v2 : Int32} {σ : um_S} (h : wp_Mo_loop_37 Q v2 σ) : um_Ev um_cl um_AW um_L um_SX M_Mo_loop 0 0 37 [none, none, some (.int v2)] [] σ (um_Qi Q) := by
  unfold wp_Mo_loop_37 at h
  refine um_iload_n (pc2 := 38) d_Mo_loop_37 rfl rfl ?_
  refine um_iconst (pc2 := 39) (v := (-1)) d_Mo_loop_38 rfl (by decide) ?_
  refine um_icmp_ne (pc2 := 42) (tgt := 46) d_Mo_loop_39 rfl rfl (fun z => ?_) (fun z => ?_)
  · replace h := h.1 z
    refine um_iload_n (pc2 := 47) d_Mo_loop_46 rfl rfl ?_
    refine um_iconst (pc2 := 48) (v := 2) d_Mo_loop_47 rfl (by decide) ?_
    refine um_idiv (pc2 := 49) d_Mo_loop_48 rfl (by decide) ?_
    exact um_iret d_Mo_loop_49 rfl ⟨_, rfl, h⟩
  · replace h := h.2 z
    refine um_iconst (pc2 := 43) (v := (-1)) d_Mo_loop_42 rfl (by decide) ?_
    refine um_goto (tgt := 49) d_Mo_loop_43 rfl ?_
    exact um_iret d_Mo_loop_49 rfl ⟨_, rfl, h⟩
set_option maxHeartbeats 4000000 in
set_option maxRecDepth 100000 in
theorem b_Mo_loop_2 {Q : Int32 → um_S → Prop} (n : Nat) : ∀ (v2 : Int32) (σ : um_S), wp_Mo_loop_2 Q n v2 σ → um_Ev um_cl um_AW um_L um_SX M_Mo_loop 0 0 2 [some (.ref 38), none, some (.int v2)] [] σ (um_Qi Q) := by
  induction n with
  | zero =>
    intro v2 σ h
    exact h.elim
  | succ n ih =>
    intro v2 σ h
    unfold wp_Mo_loop_2 at h
    refine um_iload_n (pc2 := 3) d_Mo_loop_2 rfl rfl ?_
    refine um_iconst (pc2 := 4) (v := (-1)) d_Mo_loop_3 rfl (by decide) ?_
    refine um_icmp_eq (pc2 := 7) (tgt := 37) d_Mo_loop_4 rfl rfl (fun z => ?_) (fun z => ?_)
    · replace h := h.1 z
      refine um_forget [false, false, true] rfl ?_
      exact b_Mo_loop_37 h
    · replace h := h.2 z
      refine um_aload_n (pc2 := 8) d_Mo_loop_7 rfl rfl ?_
      refine um_getR (pc2 := 11) d_Mo_loop_8 rfl f_Mo_7 rfl rfl ?_
      refine um_aload_n (pc2 := 12) d_Mo_loop_11 rfl rfl ?_
      refine um_getR (pc2 := 15) d_Mo_loop_12 rfl f_Mo_58 rfl rfl ?_
      refine um_iload_n (pc2 := 16) d_Mo_loop_15 rfl rfl ?_
      refine um_iconst (pc2 := 17) (v := 2) d_Mo_loop_16 rfl (by decide) ?_
      refine um_idiv (pc2 := 18) d_Mo_loop_17 rfl (by decide) ?_
      refine um_iald (pc2 := 19) d_Mo_loop_18 rfl rfl h.1 rfl ?_
      replace h := h.2
      refine um_iald (pc2 := 20) d_Mo_loop_19 rfl rfl h.1 rfl ?_
      replace h := h.2
      refine um_bipush (pc2 := 22) (v := 13) d_Mo_loop_20 rfl (by decide) ?_
      refine um_icmp_eq (pc2 := 25) (tgt := 37) d_Mo_loop_22 rfl rfl (fun z => ?_) (fun z => ?_)
      · replace h := h.1 z
        refine um_forget [false, false, true] rfl ?_
        exact b_Mo_loop_37 h
      · replace h := h.2 z
        refine um_aload_n (pc2 := 26) d_Mo_loop_25 rfl rfl ?_
        refine um_getR (pc2 := 29) d_Mo_loop_26 rfl f_Mo_61 rfl rfl ?_
        refine um_iload_n (pc2 := 30) d_Mo_loop_29 rfl rfl ?_
        refine um_iconst (pc2 := 31) (v := 2) d_Mo_loop_30 rfl (by decide) ?_
        refine um_idiv (pc2 := 32) d_Mo_loop_31 rfl (by decide) ?_
        refine um_iald (pc2 := 33) d_Mo_loop_32 rfl rfl h.1 rfl ?_
        replace h := h.2
        refine um_top (fun x1 ex1 => ?_)
        replace h := h x1 ex1
        refine um_istore_n (pc2 := 34) (ls2 := [some (.ref 38), none, some (.int x1)]) d_Mo_loop_33 rfl (Nat.le_of_ble_eq_true rfl) rfl ?_
        refine um_goto (tgt := 2) d_Mo_loop_34 rfl ?_
        refine um_forget [true, false, true] rfl ?_
        exact ih _ _ h
set_option maxHeartbeats 4000000 in
set_option maxRecDepth 100000 in
theorem c_Mo_loop {a1 : Int32} {σ : um_S} {Q : Int32 → um_S → Prop} (h : wp_Mo_loop a1 σ Q) : um_Con um_cl um_AW um_L um_SX 0 0 M_Mo_loop [.ref 38, .int a1] σ (um_Qi Q) := by
  refine um_con (by decide) (Nat.le_of_ble_eq_true rfl) (fun v hv => by simp only [List.mem_cons, List.not_mem_nil, or_false] at hv; rcases hv with rfl | rfl <;> rfl) ?_
  show um_Ev um_cl um_AW um_L um_SX M_Mo_loop 0 0 0 [some (.ref 38), some (.int a1), none] [] σ (um_Qi Q)
  unfold wp_Mo_loop at h
  refine um_iload_n (pc2 := 1) d_Mo_loop_0 rfl rfl ?_
  refine um_istore_n (pc2 := 2) (ls2 := [some (.ref 38), some (.int a1), some (.int a1)]) d_Mo_loop_1 rfl (Nat.le_of_ble_eq_true rfl) rfl ?_
  refine um_forget [true, false, true] rfl ?_
  exact b_Mo_loop_2 _ _ _ h
def wp_Mo_leaves_213 (Q : um_S → Prop) (σ : um_S) : Prop :=
  ∀ σ1 : um_S, σ1 = um_up σ 38 37 ((σ 38 37) - 1) → Q σ1
def wp_Mo_leaves_188 (Q : um_S → Prop) (v1 : Int32) (v2 : Int32) (v5 : Int32) (σ : um_S) : Prop :=
  (¬ v2 = 16 → vp_in v1 2002 ∧ wp_Mo_put 11 v5 (σ 69 v1.toNatClampNeg) σ (fun σ1 => wp_Mo_leaves_213 Q σ1)) ∧ (v2 = 16 → vp_in v1 2002 ∧ wp_Mo_put 14 v5 (σ 69 v1.toNatClampNeg) σ (fun σ2 => wp_Mo_leaves_213 Q σ2))
def wp_Mo_leaves_154 (Q : um_S → Prop) (v1 : Int32) (v2 : Int32) (v3 : Int32) (σ : um_S) : Prop :=
  (¬ v2 = 16 → vp_in v3 2001 ∧ (¬ (σ 59 v3.toNatClampNeg) = (-1) → vp_in v3 2001 ∧ ∀ x1 : Int32, x1 = (σ 59 v3.toNatClampNeg) → wp_Mo_leaves_188 Q v1 v2 x1 σ) ∧ ((σ 59 v3.toNatClampNeg) = (-1) → ∀ x2 : Int32, x2 = ((-1) - v3) → wp_Mo_leaves_188 Q v1 v2 x2 σ)) ∧ (v2 = 16 → wp_Mo_leaves_188 Q v1 v2 0 σ)
def wp_Mo_leaves_103 (Q : um_S → Prop) (v1 : Int32) (v2 : Int32) (v3 : Int32) (v4 : Int32) (σ : um_S) : Prop :=
  (v4 = (-1) → wp_Mo_leaves_154 Q v1 v2 v3 σ) ∧ (¬ v4 = (-1) → vp_in (v4 / 2) 2001 ∧ vp_in (σ 55 (v4 / 2).toNatClampNeg) 150 ∧ (¬ (σ 39 (σ 55 (v4 / 2).toNatClampNeg).toNatClampNeg) = 18 → wp_Mo_leaves_154 Q v1 v2 v3 σ) ∧ ((σ 39 (σ 55 (v4 / 2).toNatClampNeg).toNatClampNeg) = 18 → vp_in (v4 / 2) 2001 ∧ vp_in v1 2002 ∧ ∀ σ1 : um_S, σ1 = um_up σ 69 v1.toNatClampNeg (σ 56 (v4 / 2).toNatClampNeg) → wp_Mo_last (v4 / 2) σ1 (fun σ2 => Q σ2)))
def wp_Mo_leaves_78 (Q : um_S → Prop) (K58 : Int32 → Int32 → Int32 → Int32 → um_S → Prop) (v1 : Int32) (v2 : Int32) (v3 : Int32) (v4 : Int32) (σ : um_S) : Prop :=
  wp_Mo_hasFinally (v4 / 2) σ (fun t2 σ1 => (t2 = true → wp_Mo_leaves_103 Q v1 v2 v3 v4 σ1) ∧ (t2 = false → vp_in (v4 / 2) 2001 ∧ ∀ x3 : Int32, x3 = (σ1 56 (v4 / 2).toNatClampNeg) → K58 v1 v2 v3 x3 σ1))
def wp_Mo_leaves_58 (Q : um_S → Prop) : Nat → Int32 → Int32 → Int32 → Int32 → um_S → Prop
  | 0, _, _, _, _, _ => False
  | n + 1, v1, v2, v3, v4, σ =>
    (v4 = (-1) → wp_Mo_leaves_103 Q v1 v2 v3 v4 σ) ∧ (¬ v4 = (-1) → (¬ v2 = 17 → wp_Mo_leaves_78 Q (fun v1 v2 v3 v4 σ => wp_Mo_leaves_58 Q n v1 v2 v3 v4 σ) v1 v2 v3 v4 σ) ∧ (v2 = 17 → ((v4 / 2) = v3 → wp_Mo_leaves_103 Q v1 v2 v3 v4 σ) ∧ (¬ (v4 / 2) = v3 → wp_Mo_leaves_78 Q (fun v1 v2 v3 v4 σ => wp_Mo_leaves_58 Q n v1 v2 v3 v4 σ) v1 v2 v3 v4 σ)))
def wp_Mo_leaves_22 (Q : um_S → Prop) (v1 : Int32) (v2 : Int32) (σ : um_S) : Prop :=
  vp_in v1 2002 ∧ wp_Mo_loop (σ 64 v1.toNatClampNeg) σ (fun x2 σ1 => (¬ v2 = 17 → vp_in v1 2002 ∧ ∀ x3 : Int32, x3 = (σ1 69 v1.toNatClampNeg) → wp_Mo_leaves_58 Q 100000 v1 v2 x2 x3 σ1) ∧ (v2 = 17 → (¬ x2 = (-1) → vp_in v1 2002 ∧ ∀ x4 : Int32, x4 = (σ1 69 v1.toNatClampNeg) → wp_Mo_leaves_58 Q 100000 v1 v2 x2 x4 σ1) ∧ (x2 = (-1) → ∀ σ5 : um_S, σ5 = um_up σ1 38 36 1 → Q σ5)))
def wp_Mo_leaves (a1 : Int32) (a2 : Int32) (σ : um_S) (Q : um_S → Prop) : Prop :=
  vp_in a1 2002 ∧ (¬ (σ 67 a1.toNatClampNeg) = 1 → wp_Mo_leaves_22 Q a1 a2 σ) ∧ ((σ 67 a1.toNatClampNeg) = 1 → vp_in a1 2002 ∧ vp_in a1 2002 ∧ ∀ σ1 : um_S, σ1 = um_up σ 69 a1.toNatClampNeg (σ 64 a1.toNatClampNeg) → wp_Mo_leaves_22 Q a1 a2 σ1)
set_option maxHeartbeats 4000000 in
set_option maxRecDepth 100000 in
theorem b_Mo_leaves_213 {Q : um_S → Prop} {σ : um_S} (h : wp_Mo_leaves_213 Q σ) : um_Ev um_cl um_AW um_L um_SX M_Mo_leaves 2 45 213 [some (.ref 38), none, none, none, none, none] [] σ (um_Qv Q) := by
  unfold wp_Mo_leaves_213 at h
  refine um_aload_n (pc2 := 214) d_Mo_leaves_213 rfl rfl ?_
  refine um_dup (pc2 := 215) d_Mo_leaves_214 rfl rfl ?_
  refine um_getI (pc2 := 218) d_Mo_leaves_215 rfl f_Mo_173 rfl rfl ?_
  refine um_iconst (pc2 := 219) (v := 1) d_Mo_leaves_218 rfl (by decide) ?_
  refine um_isub (pc2 := 220) d_Mo_leaves_219 rfl ?_
  refine um_putI (pc2 := 223) d_Mo_leaves_220 rfl fw_Mo_173 rfl rfl (um_gen (fun σ1 eσ1 => ?_))
  replace h := h σ1 eσ1
  exact um_vret d_Mo_leaves_223 rfl ⟨rfl, h⟩
set_option maxHeartbeats 4000000 in
set_option maxRecDepth 100000 in
theorem b_Mo_leaves_188 {Q : um_S → Prop} {v1 : Int32} {v2 : Int32} {v5 : Int32} {σ : um_S} (h : wp_Mo_leaves_188 Q v1 v2 v5 σ) : um_Ev um_cl um_AW um_L um_SX M_Mo_leaves 2 45 188 [some (.ref 38), some (.int v1), some (.int v2), none, none, some (.int v5)] [] σ (um_Qv Q) := by
  unfold wp_Mo_leaves_188 at h
  refine um_aload_n (pc2 := 189) d_Mo_leaves_188 rfl rfl ?_
  refine um_iload_n (pc2 := 190) d_Mo_leaves_189 rfl rfl ?_
  refine um_bipush (pc2 := 192) (v := 16) d_Mo_leaves_190 rfl (by decide) ?_
  refine um_icmp_ne (pc2 := 195) (tgt := 200) d_Mo_leaves_192 rfl rfl (fun z => ?_) (fun z => ?_)
  · replace h := h.1 z
    refine um_bipush (pc2 := 202) (v := 11) d_Mo_leaves_200 rfl (by decide) ?_
    refine um_iload (pc2 := 204) d_Mo_leaves_202 rfl rfl ?_
    refine um_aload_n (pc2 := 205) d_Mo_leaves_204 rfl rfl ?_
    refine um_getR (pc2 := 208) d_Mo_leaves_205 rfl f_Mo_100 rfl rfl ?_
    refine um_iload_n (pc2 := 209) d_Mo_leaves_208 rfl rfl ?_
    refine um_iald (pc2 := 210) d_Mo_leaves_209 rfl rfl h.1 rfl ?_
    replace h := h.2
    refine um_callV3v (pc2 := 213) d_Mo_leaves_210 rfl g_Mo_200 rfl (Nat.le_of_ble_eq_true rfl) (Nat.le_of_ble_eq_true rfl) (Nat.le_of_ble_eq_true rfl) (c_Mo_put h) (fun σ1 h => ?_)
    refine um_forget [true, false, false, false, false, false] rfl ?_
    exact b_Mo_leaves_213 h
  · replace h := h.2 z
    refine um_bipush (pc2 := 197) (v := 14) d_Mo_leaves_195 rfl (by decide) ?_
    refine um_goto (tgt := 202) d_Mo_leaves_197 rfl ?_
    refine um_iload (pc2 := 204) d_Mo_leaves_202 rfl rfl ?_
    refine um_aload_n (pc2 := 205) d_Mo_leaves_204 rfl rfl ?_
    refine um_getR (pc2 := 208) d_Mo_leaves_205 rfl f_Mo_100 rfl rfl ?_
    refine um_iload_n (pc2 := 209) d_Mo_leaves_208 rfl rfl ?_
    refine um_iald (pc2 := 210) d_Mo_leaves_209 rfl rfl h.1 rfl ?_
    replace h := h.2
    refine um_callV3v (pc2 := 213) d_Mo_leaves_210 rfl g_Mo_200 rfl (Nat.le_of_ble_eq_true rfl) (Nat.le_of_ble_eq_true rfl) (Nat.le_of_ble_eq_true rfl) (c_Mo_put h) (fun σ2 h => ?_)
    refine um_forget [true, false, false, false, false, false] rfl ?_
    exact b_Mo_leaves_213 h
set_option maxHeartbeats 4000000 in
set_option maxRecDepth 100000 in
theorem b_Mo_leaves_154 {Q : um_S → Prop} {v1 : Int32} {v2 : Int32} {v3 : Int32} {σ : um_S} (h : wp_Mo_leaves_154 Q v1 v2 v3 σ) : um_Ev um_cl um_AW um_L um_SX M_Mo_leaves 2 45 154 [some (.ref 38), some (.int v1), some (.int v2), some (.int v3), none, none] [] σ (um_Qv Q) := by
  unfold wp_Mo_leaves_154 at h
  refine um_iload_n (pc2 := 155) d_Mo_leaves_154 rfl rfl ?_
  refine um_bipush (pc2 := 157) (v := 16) d_Mo_leaves_155 rfl (by decide) ?_
  refine um_icmp_ne (pc2 := 160) (tgt := 164) d_Mo_leaves_157 rfl rfl (fun z => ?_) (fun z => ?_)
  · replace h := h.1 z
    refine um_aload_n (pc2 := 165) d_Mo_leaves_164 rfl rfl ?_
    refine um_getR (pc2 := 168) d_Mo_leaves_165 rfl f_Mo_70 rfl rfl ?_
    refine um_iload_n (pc2 := 169) d_Mo_leaves_168 rfl rfl ?_
    refine um_iald (pc2 := 170) d_Mo_leaves_169 rfl rfl h.1 rfl ?_
    replace h := h.2
    refine um_iconst (pc2 := 171) (v := (-1)) d_Mo_leaves_170 rfl (by decide) ?_
    refine um_icmp_ne (pc2 := 174) (tgt := 180) d_Mo_leaves_171 rfl rfl (fun z => ?_) (fun z => ?_)
    · replace h := h.1 z
      refine um_aload_n (pc2 := 181) d_Mo_leaves_180 rfl rfl ?_
      refine um_getR (pc2 := 184) d_Mo_leaves_181 rfl f_Mo_70 rfl rfl ?_
      refine um_iload_n (pc2 := 185) d_Mo_leaves_184 rfl rfl ?_
      refine um_iald (pc2 := 186) d_Mo_leaves_185 rfl rfl h.1 rfl ?_
      replace h := h.2
      refine um_top (fun x1 ex1 => ?_)
      replace h := h x1 ex1
      refine um_istore (pc2 := 188) (ls2 := [some (.ref 38), some (.int v1), some (.int v2), some (.int v3), none, some (.int x1)]) d_Mo_leaves_186 rfl (Nat.le_of_ble_eq_true rfl) rfl ?_
      refine um_forget [true, true, true, false, false, true] rfl ?_
      exact b_Mo_leaves_188 h
    · replace h := h.2 z
      refine um_iconst (pc2 := 175) (v := (-1)) d_Mo_leaves_174 rfl (by decide) ?_
      refine um_iload_n (pc2 := 176) d_Mo_leaves_175 rfl rfl ?_
      refine um_isub (pc2 := 177) d_Mo_leaves_176 rfl ?_
      refine um_goto (tgt := 186) d_Mo_leaves_177 rfl ?_
      refine um_top (fun x2 ex2 => ?_)
      replace h := h x2 ex2
      refine um_istore (pc2 := 188) (ls2 := [some (.ref 38), some (.int v1), some (.int v2), some (.int v3), none, some (.int x2)]) d_Mo_leaves_186 rfl (Nat.le_of_ble_eq_true rfl) rfl ?_
      refine um_forget [true, true, true, false, false, true] rfl ?_
      exact b_Mo_leaves_188 h
  · replace h := h.2 z
    refine um_iconst (pc2 := 161) (v := 0) d_Mo_leaves_160 rfl (by decide) ?_
    refine um_goto (tgt := 186) d_Mo_leaves_161 rfl ?_
    refine um_istore (pc2 := 188) (ls2 := [some (.ref 38), some (.int v1), some (.int v2), some (.int v3), none, some (.int 0)]) d_Mo_leaves_186 rfl (Nat.le_of_ble_eq_true rfl) rfl ?_
    refine um_forget [true, true, true, false, false, true] rfl ?_
    exact b_Mo_leaves_188 h
set_option maxHeartbeats 4000000 in
set_option maxRecDepth 100000 in
theorem b_Mo_leaves_103 {Q : um_S → Prop} {v1 : Int32} {v2 : Int32} {v3 : Int32} {v4 : Int32} {σ : um_S} (h : wp_Mo_leaves_103 Q v1 v2 v3 v4 σ) : um_Ev um_cl um_AW um_L um_SX M_Mo_leaves 2 45 103 [some (.ref 38), some (.int v1), some (.int v2), some (.int v3), some (.int v4), none] [] σ (um_Qv Q) := by
  unfold wp_Mo_leaves_103 at h
  refine um_iload (pc2 := 105) d_Mo_leaves_103 rfl rfl ?_
  refine um_iconst (pc2 := 106) (v := (-1)) d_Mo_leaves_105 rfl (by decide) ?_
  refine um_icmp_eq (pc2 := 109) (tgt := 154) d_Mo_leaves_106 rfl rfl (fun z => ?_) (fun z => ?_)
  · replace h := h.1 z
    refine um_forget [true, true, true, true, false, false] rfl ?_
    exact b_Mo_leaves_154 h
  · replace h := h.2 z
    refine um_aload_n (pc2 := 110) d_Mo_leaves_109 rfl rfl ?_
    refine um_getR (pc2 := 113) d_Mo_leaves_110 rfl f_Mo_7 rfl rfl ?_
    refine um_aload_n (pc2 := 114) d_Mo_leaves_113 rfl rfl ?_
    refine um_getR (pc2 := 117) d_Mo_leaves_114 rfl f_Mo_58 rfl rfl ?_
    refine um_iload (pc2 := 119) d_Mo_leaves_117 rfl rfl ?_
    refine um_iconst (pc2 := 120) (v := 2) d_Mo_leaves_119 rfl (by decide) ?_
    refine um_idiv (pc2 := 121) d_Mo_leaves_120 rfl (by decide) ?_
    refine um_iald (pc2 := 122) d_Mo_leaves_121 rfl rfl h.1 rfl ?_
    replace h := h.2
    refine um_iald (pc2 := 123) d_Mo_leaves_122 rfl rfl h.1 rfl ?_
    replace h := h.2
    refine um_bipush (pc2 := 125) (v := 18) d_Mo_leaves_123 rfl (by decide) ?_
    refine um_icmp_ne (pc2 := 128) (tgt := 154) d_Mo_leaves_125 rfl rfl (fun z => ?_) (fun z => ?_)
    · replace h := h.1 z
      refine um_forget [true, true, true, true, false, false] rfl ?_
      exact b_Mo_leaves_154 h
    · replace h := h.2 z
      refine um_aload_n (pc2 := 129) d_Mo_leaves_128 rfl rfl ?_
      refine um_getR (pc2 := 132) d_Mo_leaves_129 rfl f_Mo_100 rfl rfl ?_
      refine um_iload_n (pc2 := 133) d_Mo_leaves_132 rfl rfl ?_
      refine um_aload_n (pc2 := 134) d_Mo_leaves_133 rfl rfl ?_
      refine um_getR (pc2 := 137) d_Mo_leaves_134 rfl f_Mo_61 rfl rfl ?_
      refine um_iload (pc2 := 139) d_Mo_leaves_137 rfl rfl ?_
      refine um_iconst (pc2 := 140) (v := 2) d_Mo_leaves_139 rfl (by decide) ?_
      refine um_idiv (pc2 := 141) d_Mo_leaves_140 rfl (by decide) ?_
      refine um_iald (pc2 := 142) d_Mo_leaves_141 rfl rfl h.1 rfl ?_
      replace h := h.2
      refine um_iast (pc2 := 143) d_Mo_leaves_142 rfl rfl h.1 rfl (um_gen (fun σ1 eσ1 => ?_))
      replace h := h.2 σ1 eσ1
      refine um_aload_n (pc2 := 144) d_Mo_leaves_143 rfl rfl ?_
      refine um_iload (pc2 := 146) d_Mo_leaves_144 rfl rfl ?_
      refine um_iconst (pc2 := 147) (v := 2) d_Mo_leaves_146 rfl (by decide) ?_
      refine um_idiv (pc2 := 148) d_Mo_leaves_147 rfl (by decide) ?_
      refine um_callV1v (pc2 := 151) d_Mo_leaves_148 rfl g_Mo_228 rfl (Nat.le_of_ble_eq_true rfl) (Nat.le_of_ble_eq_true rfl) (Nat.le_of_ble_eq_true rfl) (c_Mo_last h) (fun σ2 h => ?_)
      refine um_goto (tgt := 223) d_Mo_leaves_151 rfl ?_
      exact um_vret d_Mo_leaves_223 rfl ⟨rfl, h⟩
set_option maxHeartbeats 4000000 in
set_option maxRecDepth 100000 in
theorem b_Mo_leaves_78 {Q : um_S → Prop} {K58 : Int32 → Int32 → Int32 → Int32 → um_S → Prop} {v1 : Int32} {v2 : Int32} {v3 : Int32} {v4 : Int32} {σ : um_S} (hK58 : ∀ (v1 : Int32) (v2 : Int32) (v3 : Int32) (v4 : Int32) (σ : um_S), K58 v1 v2 v3 v4 σ → um_Ev um_cl um_AW um_L um_SX M_Mo_leaves 2 45 58 [some (.ref 38), some (.int v1), some (.int v2), some (.int v3), some (.int v4), none] [] σ (um_Qv Q)) (h : wp_Mo_leaves_78 Q K58 v1 v2 v3 v4 σ) : um_Ev um_cl um_AW um_L um_SX M_Mo_leaves 2 45 78 [some (.ref 38), some (.int v1), some (.int v2), some (.int v3), some (.int v4), none] [] σ (um_Qv Q) := by
  unfold wp_Mo_leaves_78 at h
  refine um_aload_n (pc2 := 79) d_Mo_leaves_78 rfl rfl ?_
  refine um_iload (pc2 := 81) d_Mo_leaves_79 rfl rfl ?_
  refine um_iconst (pc2 := 82) (v := 2) d_Mo_leaves_81 rfl (by decide) ?_
  refine um_idiv (pc2 := 83) d_Mo_leaves_82 rfl (by decide) ?_
  refine um_callV1z (pc2 := 86) d_Mo_leaves_83 rfl g_Mo_225 rfl (Nat.le_of_ble_eq_true rfl) (Nat.le_of_ble_eq_true rfl) (Nat.le_of_ble_eq_true rfl) (c_Mo_hasFinally h) (fun t2 σ1 h => ?_)
  refine um_if_ne (pc2 := 89) (tgt := 103) d_Mo_leaves_86 rfl rfl (fun z => ?_) (fun z => ?_)
  · replace h := h.1 (um_b1 z)
    refine um_forget [true, true, true, true, true, false] rfl ?_
    exact b_Mo_leaves_103 h
  · replace h := h.2 (um_b0 z)
    refine um_aload_n (pc2 := 90) d_Mo_leaves_89 rfl rfl ?_
    refine um_getR (pc2 := 93) d_Mo_leaves_90 rfl f_Mo_61 rfl rfl ?_
    refine um_iload (pc2 := 95) d_Mo_leaves_93 rfl rfl ?_
    refine um_iconst (pc2 := 96) (v := 2) d_Mo_leaves_95 rfl (by decide) ?_
    refine um_idiv (pc2 := 97) d_Mo_leaves_96 rfl (by decide) ?_
    refine um_iald (pc2 := 98) d_Mo_leaves_97 rfl rfl h.1 rfl ?_
    replace h := h.2
    refine um_top (fun x3 ex3 => ?_)
    replace h := h x3 ex3
    refine um_istore (pc2 := 100) (ls2 := [some (.ref 38), some (.int v1), some (.int v2), some (.int v3), some (.int x3), none]) d_Mo_leaves_98 rfl (Nat.le_of_ble_eq_true rfl) rfl ?_
    refine um_goto (tgt := 58) d_Mo_leaves_100 rfl ?_
    refine um_forget [true, true, true, true, true, false] rfl ?_
    exact hK58 _ _ _ _ _ h
set_option maxHeartbeats 4000000 in
set_option maxRecDepth 100000 in
theorem b_Mo_leaves_58 {Q : um_S → Prop} (n : Nat) : ∀ (v1 : Int32) (v2 : Int32) (v3 : Int32) (v4 : Int32) (σ : um_S), wp_Mo_leaves_58 Q n v1 v2 v3 v4 σ → um_Ev um_cl um_AW um_L um_SX M_Mo_leaves 2 45 58 [some (.ref 38), some (.int v1), some (.int v2), some (.int v3), some (.int v4), none] [] σ (um_Qv Q) := by
  induction n with
  | zero =>
    intro v1 v2 v3 v4 σ h
    exact h.elim
  | succ n ih =>
    intro v1 v2 v3 v4 σ h
    unfold wp_Mo_leaves_58 at h
    refine um_iload (pc2 := 60) d_Mo_leaves_58 rfl rfl ?_
    refine um_iconst (pc2 := 61) (v := (-1)) d_Mo_leaves_60 rfl (by decide) ?_
    refine um_icmp_eq (pc2 := 64) (tgt := 103) d_Mo_leaves_61 rfl rfl (fun z => ?_) (fun z => ?_)
    · replace h := h.1 z
      refine um_forget [true, true, true, true, true, false] rfl ?_
      exact b_Mo_leaves_103 h
    · replace h := h.2 z
      refine um_iload_n (pc2 := 65) d_Mo_leaves_64 rfl rfl ?_
      refine um_bipush (pc2 := 67) (v := 17) d_Mo_leaves_65 rfl (by decide) ?_
      refine um_icmp_ne (pc2 := 70) (tgt := 78) d_Mo_leaves_67 rfl rfl (fun z => ?_) (fun z => ?_)
      · replace h := h.1 z
        refine um_forget [true, true, true, true, true, false] rfl ?_
        exact b_Mo_leaves_78 (fun _ _ _ _ _ z => ih _ _ _ _ _ z) h
      · replace h := h.2 z
        refine um_iload (pc2 := 72) d_Mo_leaves_70 rfl rfl ?_
        refine um_iconst (pc2 := 73) (v := 2) d_Mo_leaves_72 rfl (by decide) ?_
        refine um_idiv (pc2 := 74) d_Mo_leaves_73 rfl (by decide) ?_
        refine um_iload_n (pc2 := 75) d_Mo_leaves_74 rfl rfl ?_
        refine um_icmp_eq (pc2 := 78) (tgt := 103) d_Mo_leaves_75 rfl rfl (fun z => ?_) (fun z => ?_)
        · replace h := h.1 z
          refine um_forget [true, true, true, true, true, false] rfl ?_
          exact b_Mo_leaves_103 h
        · replace h := h.2 z
          refine um_forget [true, true, true, true, true, false] rfl ?_
          exact b_Mo_leaves_78 (fun _ _ _ _ _ z => ih _ _ _ _ _ z) h
set_option maxHeartbeats 4000000 in
set_option maxRecDepth 100000 in
theorem b_Mo_leaves_22 {Q : um_S → Prop} {v1 : Int32} {v2 : Int32} {σ : um_S} (h : wp_Mo_leaves_22 Q v1 v2 σ) : um_Ev um_cl um_AW um_L um_SX M_Mo_leaves 2 45 22 [some (.ref 38), some (.int v1), some (.int v2), none, none, none] [] σ (um_Qv Q) := by
  unfold wp_Mo_leaves_22 at h
  refine um_aload_n (pc2 := 23) d_Mo_leaves_22 rfl rfl ?_
  refine um_aload_n (pc2 := 24) d_Mo_leaves_23 rfl rfl ?_
  refine um_getR (pc2 := 27) d_Mo_leaves_24 rfl f_Mo_85 rfl rfl ?_
  refine um_iload_n (pc2 := 28) d_Mo_leaves_27 rfl rfl ?_
  refine um_iald (pc2 := 29) d_Mo_leaves_28 rfl rfl h.1 rfl ?_
  replace h := h.2
  refine um_callV1i (pc2 := 32) d_Mo_leaves_29 rfl g_Mo_219 rfl (Nat.le_of_ble_eq_true rfl) (Nat.le_of_ble_eq_true rfl) (Nat.le_of_ble_eq_true rfl) (c_Mo_loop h) (fun x2 σ1 h => ?_)
  refine um_istore_n (pc2 := 33) (ls2 := [some (.ref 38), some (.int v1), some (.int v2), some (.int x2), none, none]) d_Mo_leaves_32 rfl (Nat.le_of_ble_eq_true rfl) rfl ?_
  refine um_iload_n (pc2 := 34) d_Mo_leaves_33 rfl rfl ?_
  refine um_bipush (pc2 := 36) (v := 17) d_Mo_leaves_34 rfl (by decide) ?_
  refine um_icmp_ne (pc2 := 39) (tgt := 50) d_Mo_leaves_36 rfl rfl (fun z => ?_) (fun z => ?_)
  · replace h := h.1 z
    refine um_aload_n (pc2 := 51) d_Mo_leaves_50 rfl rfl ?_
    refine um_getR (pc2 := 54) d_Mo_leaves_51 rfl f_Mo_100 rfl rfl ?_
    refine um_iload_n (pc2 := 55) d_Mo_leaves_54 rfl rfl ?_
    refine um_iald (pc2 := 56) d_Mo_leaves_55 rfl rfl h.1 rfl ?_
    replace h := h.2
    refine um_top (fun x3 ex3 => ?_)
    replace h := h x3 ex3
    refine um_istore (pc2 := 58) (ls2 := [some (.ref 38), some (.int v1), some (.int v2), some (.int x2), some (.int x3), none]) d_Mo_leaves_56 rfl (Nat.le_of_ble_eq_true rfl) rfl ?_
    refine um_forget [true, true, true, true, true, false] rfl ?_
    exact b_Mo_leaves_58 _ _ _ _ _ _ h
  · replace h := h.2 z
    refine um_iload_n (pc2 := 40) d_Mo_leaves_39 rfl rfl ?_
    refine um_iconst (pc2 := 41) (v := (-1)) d_Mo_leaves_40 rfl (by decide) ?_
    refine um_icmp_ne (pc2 := 44) (tgt := 50) d_Mo_leaves_41 rfl rfl (fun z => ?_) (fun z => ?_)
    · replace h := h.1 z
      refine um_aload_n (pc2 := 51) d_Mo_leaves_50 rfl rfl ?_
      refine um_getR (pc2 := 54) d_Mo_leaves_51 rfl f_Mo_100 rfl rfl ?_
      refine um_iload_n (pc2 := 55) d_Mo_leaves_54 rfl rfl ?_
      refine um_iald (pc2 := 56) d_Mo_leaves_55 rfl rfl h.1 rfl ?_
      replace h := h.2
      refine um_top (fun x4 ex4 => ?_)
      replace h := h x4 ex4
      refine um_istore (pc2 := 58) (ls2 := [some (.ref 38), some (.int v1), some (.int v2), some (.int x2), some (.int x4), none]) d_Mo_leaves_56 rfl (Nat.le_of_ble_eq_true rfl) rfl ?_
      refine um_forget [true, true, true, true, true, false] rfl ?_
      exact b_Mo_leaves_58 _ _ _ _ _ _ h
    · replace h := h.2 z
      refine um_aload_n (pc2 := 45) d_Mo_leaves_44 rfl rfl ?_
      refine um_iconst (pc2 := 46) (v := 1) d_Mo_leaves_45 rfl (by decide) ?_
      refine um_putZ (pc2 := 49) d_Mo_leaves_46 rfl fw_Mo_222 rfl rfl (by decide) (um_gen (fun σ5 eσ5 => ?_))
      replace h := h σ5 eσ5
      exact um_vret d_Mo_leaves_49 rfl ⟨rfl, h⟩
set_option maxHeartbeats 4000000 in
set_option maxRecDepth 100000 in
theorem c_Mo_leaves {a1 : Int32} {a2 : Int32} {σ : um_S} {Q : um_S → Prop} (h : wp_Mo_leaves a1 a2 σ Q) : um_Con um_cl um_AW um_L um_SX 2 45 M_Mo_leaves [.ref 38, .int a1, .int a2] σ (um_Qv Q) := by
  refine um_con (by decide) (Nat.le_of_ble_eq_true rfl) (fun v hv => by simp only [List.mem_cons, List.not_mem_nil, or_false] at hv; rcases hv with rfl | rfl | rfl <;> rfl) ?_
  show um_Ev um_cl um_AW um_L um_SX M_Mo_leaves 2 45 0 [some (.ref 38), some (.int a1), some (.int a2), none, none, none] [] σ (um_Qv Q)
  unfold wp_Mo_leaves at h
  refine um_aload_n (pc2 := 1) d_Mo_leaves_0 rfl rfl ?_
  refine um_getR (pc2 := 4) d_Mo_leaves_1 rfl f_Mo_94 rfl rfl ?_
  refine um_iload_n (pc2 := 5) d_Mo_leaves_4 rfl rfl ?_
  refine um_iald (pc2 := 6) d_Mo_leaves_5 rfl rfl h.1 rfl ?_
  replace h := h.2
  refine um_iconst (pc2 := 7) (v := 1) d_Mo_leaves_6 rfl (by decide) ?_
  refine um_icmp_ne (pc2 := 10) (tgt := 22) d_Mo_leaves_7 rfl rfl (fun z => ?_) (fun z => ?_)
  · replace h := h.1 z
    refine um_forget [true, true, true, false, false, false] rfl ?_
    exact b_Mo_leaves_22 h
  · replace h := h.2 z
    refine um_aload_n (pc2 := 11) d_Mo_leaves_10 rfl rfl ?_
    refine um_getR (pc2 := 14) d_Mo_leaves_11 rfl f_Mo_100 rfl rfl ?_
    refine um_iload_n (pc2 := 15) d_Mo_leaves_14 rfl rfl ?_
    refine um_aload_n (pc2 := 16) d_Mo_leaves_15 rfl rfl ?_
    refine um_getR (pc2 := 19) d_Mo_leaves_16 rfl f_Mo_85 rfl rfl ?_
    refine um_iload_n (pc2 := 20) d_Mo_leaves_19 rfl rfl ?_
    refine um_iald (pc2 := 21) d_Mo_leaves_20 rfl rfl h.1 rfl ?_
    replace h := h.2
    refine um_iast (pc2 := 22) d_Mo_leaves_21 rfl rfl h.1 rfl (um_gen (fun σ1 eσ1 => ?_))
    replace h := h.2 σ1 eσ1
    refine um_forget [true, true, true, false, false, false] rfl ?_
    exact b_Mo_leaves_22 h
def wp_Mo_part (a1 : Int32) (a2 : Int32) (σ : um_S) (Q : um_S → Prop) : Prop :=
  vp_in a1 2002 ∧ vp_in a1 2002 ∧ vp_in a1 2002 ∧ wp_Mo_begin a2 (σ 64 a1.toNatClampNeg) (σ 65 a1.toNatClampNeg) (σ 66 a1.toNatClampNeg) σ (fun σ1 => Q σ1)
set_option maxHeartbeats 4000000 in
set_option maxRecDepth 100000 in
theorem c_Mo_part {a1 : Int32} {a2 : Int32} {σ : um_S} {Q : um_S → Prop} (h : wp_Mo_part a1 a2 σ Q) : um_Con um_cl um_AW um_L um_SX 1 24 M_Mo_part [.ref 38, .int a1, .int a2] σ (um_Qv Q) := by
  refine um_con (by decide) (Nat.le_of_ble_eq_true rfl) (fun v hv => by simp only [List.mem_cons, List.not_mem_nil, or_false] at hv; rcases hv with rfl | rfl | rfl <;> rfl) ?_
  show um_Ev um_cl um_AW um_L um_SX M_Mo_part 1 24 0 [some (.ref 38), some (.int a1), some (.int a2)] [] σ (um_Qv Q)
  unfold wp_Mo_part at h
  refine um_aload_n (pc2 := 1) d_Mo_part_0 rfl rfl ?_
  refine um_iload_n (pc2 := 2) d_Mo_part_1 rfl rfl ?_
  refine um_aload_n (pc2 := 3) d_Mo_part_2 rfl rfl ?_
  refine um_getR (pc2 := 6) d_Mo_part_3 rfl f_Mo_85 rfl rfl ?_
  refine um_iload_n (pc2 := 7) d_Mo_part_6 rfl rfl ?_
  refine um_iald (pc2 := 8) d_Mo_part_7 rfl rfl h.1 rfl ?_
  replace h := h.2
  refine um_aload_n (pc2 := 9) d_Mo_part_8 rfl rfl ?_
  refine um_getR (pc2 := 12) d_Mo_part_9 rfl f_Mo_88 rfl rfl ?_
  refine um_iload_n (pc2 := 13) d_Mo_part_12 rfl rfl ?_
  refine um_iald (pc2 := 14) d_Mo_part_13 rfl rfl h.1 rfl ?_
  replace h := h.2
  refine um_aload_n (pc2 := 15) d_Mo_part_14 rfl rfl ?_
  refine um_getR (pc2 := 18) d_Mo_part_15 rfl f_Mo_91 rfl rfl ?_
  refine um_iload_n (pc2 := 19) d_Mo_part_18 rfl rfl ?_
  refine um_iald (pc2 := 20) d_Mo_part_19 rfl rfl h.1 rfl ?_
  replace h := h.2
  refine um_callV4v (pc2 := 23) d_Mo_part_20 rfl g_Mo_176 rfl (Nat.le_of_ble_eq_true rfl) (Nat.le_of_ble_eq_true rfl) (Nat.le_of_ble_eq_true rfl) (c_Mo_begin h) (fun σ1 h => ?_)
  exact um_vret d_Mo_part_23 rfl ⟨rfl, h⟩
def wp_Mo_decides_128 (Q : um_S → Prop) (v1 : Int32) (v2 : Int32) (σ : um_S) : Prop :=
  vp_in v2 150 ∧ wp_Mo_part v1 (σ 42 v2.toNatClampNeg) σ (fun σ1 => Q σ1)
def wp_Mo_decides (a1 : Int32) (a2 : Int32) (σ : um_S) (Q : um_S → Prop) : Prop :=
  vp_in a1 2002 ∧ ∀ x1 : Int32, x1 = (σ 67 a1.toNatClampNeg) → (x1 = 1 → vp_in a2 150 ∧ wp_Mo_part a1 (σ 40 a2.toNatClampNeg) σ (fun σ2 => Q σ2)) ∧ (¬ x1 = 1 → (x1 = 2 → vp_in a1 2002 ∧ ∀ σ3 : um_S, σ3 = um_up σ 68 a1.toNatClampNeg (σ 38 10) → vp_in a1 2002 ∧ wp_Mo_put 10 0 (σ3 64 a1.toNatClampNeg) σ3 (fun σ4 => vp_in a2 150 ∧ wp_Mo_part a1 (σ4 41 a2.toNatClampNeg) σ4 (fun σ5 => Q σ5))) ∧ (¬ x1 = 2 → (x1 = 3 → vp_in a1 2002 ∧ ∀ σ6 : um_S, σ6 = um_up σ 69 a1.toNatClampNeg (σ 38 10) → vp_in a1 2002 ∧ wp_Mo_put 11 0 (σ6 64 a1.toNatClampNeg) σ6 (fun σ7 => (¬ (σ7 38 35) = 0 → wp_Mo_decides_128 Q a1 a2 σ7) ∧ ((σ7 38 35) = 0 → vp_in a1 2002 ∧ vp_in (σ7 68 a1.toNatClampNeg) 1000 ∧ ∀ σ8 : um_S, σ8 = um_up σ7 47 (σ7 68 a1.toNatClampNeg).toNatClampNeg (σ7 38 10) → wp_Mo_decides_128 Q a1 a2 σ8))) ∧ (¬ x1 = 3 → vp_in a1 2002 ∧ vp_in (σ 69 a1.toNatClampNeg) 1000 ∧ ∀ σ9 : um_S, σ9 = um_up σ 47 (σ 69 a1.toNatClampNeg).toNatClampNeg (σ 38 10) → ∀ σ10 : um_S, σ10 = um_up σ9 38 37 ((σ9 38 37) - 1) → Q σ10)))
set_option maxHeartbeats 4000000 in
set_option maxRecDepth 100000 in
theorem b_Mo_decides_128 {Q : um_S → Prop} {v1 : Int32} {v2 : Int32} {σ : um_S} (h : wp_Mo_decides_128 Q v1 v2 σ) : um_Ev um_cl um_AW um_L um_SX M_Mo_decides 2 46 128 [some (.ref 38), some (.int v1), some (.int v2)] [] σ (um_Qv Q) := by
  unfold wp_Mo_decides_128 at h
  refine um_aload_n (pc2 := 129) d_Mo_decides_128 rfl rfl ?_
  refine um_iload_n (pc2 := 130) d_Mo_decides_129 rfl rfl ?_
  refine um_aload_n (pc2 := 131) d_Mo_decides_130 rfl rfl ?_
  refine um_getR (pc2 := 134) d_Mo_decides_131 rfl f_Mo_19 rfl rfl ?_
  refine um_iload_n (pc2 := 135) d_Mo_decides_134 rfl rfl ?_
  refine um_iald (pc2 := 136) d_Mo_decides_135 rfl rfl h.1 rfl ?_
  replace h := h.2
  refine um_callV2v (pc2 := 139) d_Mo_decides_136 rfl g_Mo_204 rfl (Nat.le_of_ble_eq_true rfl) (Nat.le_of_ble_eq_true rfl) (Nat.le_of_ble_eq_true rfl) (c_Mo_part h) (fun σ1 h => ?_)
  refine um_goto (tgt := 167) d_Mo_decides_139 rfl ?_
  exact um_vret d_Mo_decides_167 rfl ⟨rfl, h⟩
set_option maxHeartbeats 4000000 in
set_option maxRecDepth 100000 in
theorem c_Mo_decides {a1 : Int32} {a2 : Int32} {σ : um_S} {Q : um_S → Prop} (h : wp_Mo_decides a1 a2 σ Q) : um_Con um_cl um_AW um_L um_SX 2 46 M_Mo_decides [.ref 38, .int a1, .int a2] σ (um_Qv Q) := by
  refine um_con (by decide) (Nat.le_of_ble_eq_true rfl) (fun v hv => by simp only [List.mem_cons, List.not_mem_nil, or_false] at hv; rcases hv with rfl | rfl | rfl <;> rfl) ?_
  show um_Ev um_cl um_AW um_L um_SX M_Mo_decides 2 46 0 [some (.ref 38), some (.int a1), some (.int a2)] [] σ (um_Qv Q)
  unfold wp_Mo_decides at h
  refine um_aload_n (pc2 := 1) d_Mo_decides_0 rfl rfl ?_
  refine um_getR (pc2 := 4) d_Mo_decides_1 rfl f_Mo_94 rfl rfl ?_
  refine um_iload_n (pc2 := 5) d_Mo_decides_4 rfl rfl ?_
  refine um_iald (pc2 := 6) d_Mo_decides_5 rfl rfl h.1 rfl ?_
  replace h := h.2
  refine um_top (fun x1 ex1 => ?_)
  replace h := h x1 ex1
  by_cases z1 : x1 = 1
  · replace h := h.1 z1
    refine um_tableAt (tgt := 32) d_Mo_decides_6 z1 (kk := 1) (by decide) (by decide) (by decide) rfl rfl ?_
    refine um_aload_n (pc2 := 33) d_Mo_decides_32 rfl rfl ?_
    refine um_iload_n (pc2 := 34) d_Mo_decides_33 rfl rfl ?_
    refine um_aload_n (pc2 := 35) d_Mo_decides_34 rfl rfl ?_
    refine um_getR (pc2 := 38) d_Mo_decides_35 rfl f_Mo_13 rfl rfl ?_
    refine um_iload_n (pc2 := 39) d_Mo_decides_38 rfl rfl ?_
    refine um_iald (pc2 := 40) d_Mo_decides_39 rfl rfl h.1 rfl ?_
    replace h := h.2
    refine um_callV2v (pc2 := 43) d_Mo_decides_40 rfl g_Mo_204 rfl (Nat.le_of_ble_eq_true rfl) (Nat.le_of_ble_eq_true rfl) (Nat.le_of_ble_eq_true rfl) (c_Mo_part h) (fun σ2 h => ?_)
    refine um_goto (tgt := 167) d_Mo_decides_43 rfl ?_
    exact um_vret d_Mo_decides_167 rfl ⟨rfl, h⟩
  replace h := h.2 z1
  by_cases z2 : x1 = 2
  · replace h := h.1 z2
    refine um_tableAt (tgt := 46) d_Mo_decides_6 z2 (kk := 2) (by decide) (by decide) (by decide) rfl rfl ?_
    refine um_aload_n (pc2 := 47) d_Mo_decides_46 rfl rfl ?_
    refine um_getR (pc2 := 50) d_Mo_decides_47 rfl f_Mo_97 rfl rfl ?_
    refine um_iload_n (pc2 := 51) d_Mo_decides_50 rfl rfl ?_
    refine um_aload_n (pc2 := 52) d_Mo_decides_51 rfl rfl ?_
    refine um_getI (pc2 := 55) d_Mo_decides_52 rfl f_Mo_164 rfl rfl ?_
    refine um_iast (pc2 := 56) d_Mo_decides_55 rfl rfl h.1 rfl (um_gen (fun σ3 eσ3 => ?_))
    replace h := h.2 σ3 eσ3
    refine um_aload_n (pc2 := 57) d_Mo_decides_56 rfl rfl ?_
    refine um_bipush (pc2 := 59) (v := 10) d_Mo_decides_57 rfl (by decide) ?_
    refine um_iconst (pc2 := 60) (v := 0) d_Mo_decides_59 rfl (by decide) ?_
    refine um_aload_n (pc2 := 61) d_Mo_decides_60 rfl rfl ?_
    refine um_getR (pc2 := 64) d_Mo_decides_61 rfl f_Mo_85 rfl rfl ?_
    refine um_iload_n (pc2 := 65) d_Mo_decides_64 rfl rfl ?_
    refine um_iald (pc2 := 66) d_Mo_decides_65 rfl rfl h.1 rfl ?_
    replace h := h.2
    refine um_callV3v (pc2 := 69) d_Mo_decides_66 rfl g_Mo_200 rfl (Nat.le_of_ble_eq_true rfl) (Nat.le_of_ble_eq_true rfl) (Nat.le_of_ble_eq_true rfl) (c_Mo_put h) (fun σ4 h => ?_)
    refine um_aload_n (pc2 := 70) d_Mo_decides_69 rfl rfl ?_
    refine um_iload_n (pc2 := 71) d_Mo_decides_70 rfl rfl ?_
    refine um_aload_n (pc2 := 72) d_Mo_decides_71 rfl rfl ?_
    refine um_getR (pc2 := 75) d_Mo_decides_72 rfl f_Mo_16 rfl rfl ?_
    refine um_iload_n (pc2 := 76) d_Mo_decides_75 rfl rfl ?_
    refine um_iald (pc2 := 77) d_Mo_decides_76 rfl rfl h.1 rfl ?_
    replace h := h.2
    refine um_callV2v (pc2 := 80) d_Mo_decides_77 rfl g_Mo_204 rfl (Nat.le_of_ble_eq_true rfl) (Nat.le_of_ble_eq_true rfl) (Nat.le_of_ble_eq_true rfl) (c_Mo_part h) (fun σ5 h => ?_)
    refine um_goto (tgt := 167) d_Mo_decides_80 rfl ?_
    exact um_vret d_Mo_decides_167 rfl ⟨rfl, h⟩
  replace h := h.2 z2
  by_cases z3 : x1 = 3
  · replace h := h.1 z3
    refine um_tableAt (tgt := 83) d_Mo_decides_6 z3 (kk := 3) (by decide) (by decide) (by decide) rfl rfl ?_
    refine um_aload_n (pc2 := 84) d_Mo_decides_83 rfl rfl ?_
    refine um_getR (pc2 := 87) d_Mo_decides_84 rfl f_Mo_100 rfl rfl ?_
    refine um_iload_n (pc2 := 88) d_Mo_decides_87 rfl rfl ?_
    refine um_aload_n (pc2 := 89) d_Mo_decides_88 rfl rfl ?_
    refine um_getI (pc2 := 92) d_Mo_decides_89 rfl f_Mo_164 rfl rfl ?_
    refine um_iast (pc2 := 93) d_Mo_decides_92 rfl rfl h.1 rfl (um_gen (fun σ6 eσ6 => ?_))
    replace h := h.2 σ6 eσ6
    refine um_aload_n (pc2 := 94) d_Mo_decides_93 rfl rfl ?_
    refine um_bipush (pc2 := 96) (v := 11) d_Mo_decides_94 rfl (by decide) ?_
    refine um_iconst (pc2 := 97) (v := 0) d_Mo_decides_96 rfl (by decide) ?_
    refine um_aload_n (pc2 := 98) d_Mo_decides_97 rfl rfl ?_
    refine um_getR (pc2 := 101) d_Mo_decides_98 rfl f_Mo_85 rfl rfl ?_
    refine um_iload_n (pc2 := 102) d_Mo_decides_101 rfl rfl ?_
    refine um_iald (pc2 := 103) d_Mo_decides_102 rfl rfl h.1 rfl ?_
    replace h := h.2
    refine um_callV3v (pc2 := 106) d_Mo_decides_103 rfl g_Mo_200 rfl (Nat.le_of_ble_eq_true rfl) (Nat.le_of_ble_eq_true rfl) (Nat.le_of_ble_eq_true rfl) (c_Mo_put h) (fun σ7 h => ?_)
    refine um_aload_n (pc2 := 107) d_Mo_decides_106 rfl rfl ?_
    refine um_getI (pc2 := 110) d_Mo_decides_107 rfl f_Mo_167 rfl rfl ?_
    refine um_if_ne (pc2 := 113) (tgt := 128) d_Mo_decides_110 rfl rfl (fun z => ?_) (fun z => ?_)
    · replace h := h.1 z
      refine um_forget [true, true, true] rfl ?_
      exact b_Mo_decides_128 h
    · replace h := h.2 z
      refine um_aload_n (pc2 := 114) d_Mo_decides_113 rfl rfl ?_
      refine um_getR (pc2 := 117) d_Mo_decides_114 rfl f_Mo_34 rfl rfl ?_
      refine um_aload_n (pc2 := 118) d_Mo_decides_117 rfl rfl ?_
      refine um_getR (pc2 := 121) d_Mo_decides_118 rfl f_Mo_97 rfl rfl ?_
      refine um_iload_n (pc2 := 122) d_Mo_decides_121 rfl rfl ?_
      refine um_iald (pc2 := 123) d_Mo_decides_122 rfl rfl h.1 rfl ?_
      replace h := h.2
      refine um_aload_n (pc2 := 124) d_Mo_decides_123 rfl rfl ?_
      refine um_getI (pc2 := 127) d_Mo_decides_124 rfl f_Mo_164 rfl rfl ?_
      refine um_iast (pc2 := 128) d_Mo_decides_127 rfl rfl h.1 rfl (um_gen (fun σ8 eσ8 => ?_))
      replace h := h.2 σ8 eσ8
      refine um_forget [true, true, true] rfl ?_
      exact b_Mo_decides_128 h
  replace h := h.2 z3
  have hE : um_Ev um_cl um_AW um_L um_SX M_Mo_decides 2 46 142 [some (.ref 38), some (.int a1), some (.int a2)] [] σ (um_Qv Q) := by
    refine um_aload_n (pc2 := 143) d_Mo_decides_142 rfl rfl ?_
    refine um_getR (pc2 := 146) d_Mo_decides_143 rfl f_Mo_34 rfl rfl ?_
    refine um_aload_n (pc2 := 147) d_Mo_decides_146 rfl rfl ?_
    refine um_getR (pc2 := 150) d_Mo_decides_147 rfl f_Mo_100 rfl rfl ?_
    refine um_iload_n (pc2 := 151) d_Mo_decides_150 rfl rfl ?_
    refine um_iald (pc2 := 152) d_Mo_decides_151 rfl rfl h.1 rfl ?_
    replace h := h.2
    refine um_aload_n (pc2 := 153) d_Mo_decides_152 rfl rfl ?_
    refine um_getI (pc2 := 156) d_Mo_decides_153 rfl f_Mo_164 rfl rfl ?_
    refine um_iast (pc2 := 157) d_Mo_decides_156 rfl rfl h.1 rfl (um_gen (fun σ9 eσ9 => ?_))
    replace h := h.2 σ9 eσ9
    refine um_aload_n (pc2 := 158) d_Mo_decides_157 rfl rfl ?_
    refine um_dup (pc2 := 159) d_Mo_decides_158 rfl rfl ?_
    refine um_getI (pc2 := 162) d_Mo_decides_159 rfl f_Mo_173 rfl rfl ?_
    refine um_iconst (pc2 := 163) (v := 1) d_Mo_decides_162 rfl (by decide) ?_
    refine um_isub (pc2 := 164) d_Mo_decides_163 rfl ?_
    refine um_putI (pc2 := 167) d_Mo_decides_164 rfl fw_Mo_173 rfl rfl (um_gen (fun σ10 eσ10 => ?_))
    replace h := h σ10 eσ10
    exact um_vret d_Mo_decides_167 rfl ⟨rfl, h⟩
  exact um_tableOut (tgt := 142) d_Mo_decides_6 (by have := um_toInt_ne (kk := 1) z1 (by decide); have := um_toInt_ne (kk := 2) z2 (by decide); have := um_toInt_ne (kk := 3) z3 (by decide); omega) rfl hE
