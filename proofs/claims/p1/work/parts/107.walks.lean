def wp_Mo_catchBehind (a1 : Int32) (a2 : Int32) (a3 : Int32) (a4 : Int32) (a5 : Int32) (σ : um_S) (Q : Int32 → um_S → Prop) : Prop :=
  ∀ σ1 : um_S, σ1 = um_up σ 38 0 0 → ((σ1 38 1) = 150 → Q (-1) σ1) ∧ (¬ (σ1 38 1) = 150 → wp_Mo_can 19 a1 a2 a3 a4 σ1 (fun t3 σ2 => (t3 = false → Q (-1) σ2) ∧ (t3 = true → wp_Mo_isCatch a5 σ2 (fun t5 σ4 => (t5 = true → vp_in (σ4 38 1) 150 ∧ ∀ σ6 : um_S, σ6 = um_up σ4 44 (σ4 38 1).toNatClampNeg a5 → wp_Mo_adds 20 a1 a2 a3 a4 σ6 (fun x8 σ7 => Q x8 σ7)) ∧ (t5 = false → Q (-1) σ4)))))
set_option maxHeartbeats 4000000 in
set_option maxRecDepth 100000 in
theorem c_Mo_catchBehind {a1 : Int32} {a2 : Int32} {a3 : Int32} {a4 : Int32} {a5 : Int32} {σ : um_S} {Q : Int32 → um_S → Prop} (h : wp_Mo_catchBehind a1 a2 a3 a4 a5 σ Q) : um_Con um_cl um_AW um_L um_SX 3 69 M_Mo_catchBehind [.ref 38, .int a1, .int a2, .int a3, .int a4, .int a5] σ (um_Qi Q) := by
  refine um_con (by decide) (Nat.le_of_ble_eq_true rfl) (fun v hv => by simp only [List.mem_cons, List.not_mem_nil, or_false] at hv; rcases hv with rfl | rfl | rfl | rfl | rfl | rfl <;> rfl) ?_
  show um_Ev um_cl um_AW um_L um_SX M_Mo_catchBehind 3 69 0 [some (.ref 38), some (.int a1), some (.int a2), some (.int a3), some (.int a4), some (.int a5)] [] σ (um_Qi Q)
  unfold wp_Mo_catchBehind at h
  refine um_aload_n (pc2 := 1) d_Mo_catchBehind_0 rfl rfl ?_
  refine um_iconst (pc2 := 2) (v := 0) d_Mo_catchBehind_1 rfl (by decide) ?_
  refine um_putI (pc2 := 5) d_Mo_catchBehind_2 rfl fw_Mo_125 rfl rfl (um_gen (fun σ1 eσ1 => ?_))
  replace h := h σ1 eσ1
  refine um_aload_n (pc2 := 6) d_Mo_catchBehind_5 rfl rfl ?_
  refine um_getI (pc2 := 9) d_Mo_catchBehind_6 rfl f_Mo_128 rfl rfl ?_
  refine um_sipush (pc2 := 12) (v := 150) d_Mo_catchBehind_9 rfl (by decide) ?_
  refine um_icmp_eq (pc2 := 15) (tgt := 38) d_Mo_catchBehind_12 rfl rfl (fun z => ?_) (fun z => ?_)
  · replace h := h.1 z
    refine um_iconst (pc2 := 39) (v := (-1)) d_Mo_catchBehind_38 rfl (by decide) ?_
    exact um_iret d_Mo_catchBehind_39 rfl ⟨_, rfl, h⟩
  · replace h := h.2 z
    refine um_aload_n (pc2 := 16) d_Mo_catchBehind_15 rfl rfl ?_
    refine um_bipush (pc2 := 18) (v := 19) d_Mo_catchBehind_16 rfl (by decide) ?_
    refine um_iload_n (pc2 := 19) d_Mo_catchBehind_18 rfl rfl ?_
    refine um_iload_n (pc2 := 20) d_Mo_catchBehind_19 rfl rfl ?_
    refine um_iload_n (pc2 := 21) d_Mo_catchBehind_20 rfl rfl ?_
    refine um_iload (pc2 := 23) d_Mo_catchBehind_21 rfl rfl ?_
    refine um_callV5z (pc2 := 26) d_Mo_catchBehind_23 rfl g_Mo_148 rfl (Nat.le_of_ble_eq_true rfl) (Nat.le_of_ble_eq_true rfl) (Nat.le_of_ble_eq_true rfl) (c_Mo_can h) (fun t3 σ2 h => ?_)
    refine um_if_eq (pc2 := 29) (tgt := 38) d_Mo_catchBehind_26 rfl rfl (fun z => ?_) (fun z => ?_)
    · replace h := h.1 (um_b0 z)
      refine um_iconst (pc2 := 39) (v := (-1)) d_Mo_catchBehind_38 rfl (by decide) ?_
      exact um_iret d_Mo_catchBehind_39 rfl ⟨_, rfl, h⟩
    · replace h := h.2 (um_b1 z)
      refine um_aload_n (pc2 := 30) d_Mo_catchBehind_29 rfl rfl ?_
      refine um_iload (pc2 := 32) d_Mo_catchBehind_30 rfl rfl ?_
      refine um_callV1z (pc2 := 35) d_Mo_catchBehind_32 rfl g_Mo_145 rfl (Nat.le_of_ble_eq_true rfl) (Nat.le_of_ble_eq_true rfl) (Nat.le_of_ble_eq_true rfl) (c_Mo_isCatch h) (fun t5 σ4 h => ?_)
      refine um_if_ne (pc2 := 38) (tgt := 40) d_Mo_catchBehind_35 rfl rfl (fun z => ?_) (fun z => ?_)
      · replace h := h.1 (um_b1 z)
        refine um_aload_n (pc2 := 41) d_Mo_catchBehind_40 rfl rfl ?_
        refine um_getR (pc2 := 44) d_Mo_catchBehind_41 rfl f_Mo_25 rfl rfl ?_
        refine um_aload_n (pc2 := 45) d_Mo_catchBehind_44 rfl rfl ?_
        refine um_getI (pc2 := 48) d_Mo_catchBehind_45 rfl f_Mo_128 rfl rfl ?_
        refine um_iload (pc2 := 50) d_Mo_catchBehind_48 rfl rfl ?_
        refine um_iast (pc2 := 51) d_Mo_catchBehind_50 rfl rfl h.1 rfl (um_gen (fun σ6 eσ6 => ?_))
        replace h := h.2 σ6 eσ6
        refine um_aload_n (pc2 := 52) d_Mo_catchBehind_51 rfl rfl ?_
        refine um_bipush (pc2 := 54) (v := 20) d_Mo_catchBehind_52 rfl (by decide) ?_
        refine um_iload_n (pc2 := 55) d_Mo_catchBehind_54 rfl rfl ?_
        refine um_iload_n (pc2 := 56) d_Mo_catchBehind_55 rfl rfl ?_
        refine um_iload_n (pc2 := 57) d_Mo_catchBehind_56 rfl rfl ?_
        refine um_iload (pc2 := 59) d_Mo_catchBehind_57 rfl rfl ?_
        refine um_callV5i (pc2 := 62) d_Mo_catchBehind_59 rfl g_Mo_152 rfl (Nat.le_of_ble_eq_true rfl) (Nat.le_of_ble_eq_true rfl) (Nat.le_of_ble_eq_true rfl) (c_Mo_adds h) (fun x8 σ7 h => ?_)
        exact um_iret d_Mo_catchBehind_62 rfl ⟨_, rfl, h⟩
      · replace h := h.2 (um_b0 z)
        refine um_iconst (pc2 := 39) (v := (-1)) d_Mo_catchBehind_38 rfl (by decide) ?_
        exact um_iret d_Mo_catchBehind_39 rfl ⟨_, rfl, h⟩
def wp_Mo_body_29 (Q : Bool → um_S → Prop) (v1 : Int32) (v2 : Int32) (σ : um_S) : Prop :=
  vp_in v1 6 ∧ ∀ σ1 : um_S, σ1 = um_up σ 45 v1.toNatClampNeg v2 → Q true σ1
def wp_Mo_body (a1 : Int32) (a2 : Int32) (σ : um_S) (Q : Bool → um_S → Prop) : Prop :=
  ∀ σ1 : um_S, σ1 = um_up σ 38 0 0 → (a1 < 0 → Q false σ1) ∧ (¬ a1 < 0 → (5 < a1 → Q false σ1) ∧ (¬ 5 < a1 → (a2 = (-1) → wp_Mo_body_29 Q a1 a2 σ1) ∧ (¬ a2 = (-1) → wp_Mo_isStatement a2 σ1 (fun t3 σ2 => (t3 = true → wp_Mo_body_29 Q a1 a2 σ2) ∧ (t3 = false → Q false σ2)))))
set_option maxHeartbeats 4000000 in
set_option maxRecDepth 100000 in
theorem b_Mo_body_29 {Q : Bool → um_S → Prop} {v1 : Int32} {v2 : Int32} {σ : um_S} (h : wp_Mo_body_29 Q v1 v2 σ) : um_Ev um_cl um_AW um_L um_SX M_Mo_body 2 44 29 [some (.ref 38), some (.int v1), some (.int v2)] [] σ (um_Qz Q) := by
  unfold wp_Mo_body_29 at h
  refine um_aload_n (pc2 := 30) d_Mo_body_29 rfl rfl ?_
  refine um_getR (pc2 := 33) d_Mo_body_30 rfl f_Mo_28 rfl rfl ?_
  refine um_iload_n (pc2 := 34) d_Mo_body_33 rfl rfl ?_
  refine um_iload_n (pc2 := 35) d_Mo_body_34 rfl rfl ?_
  refine um_iast (pc2 := 36) d_Mo_body_35 rfl rfl h.1 rfl (um_gen (fun σ1 eσ1 => ?_))
  replace h := h.2 σ1 eσ1
  refine um_iconst (pc2 := 37) (v := 1) d_Mo_body_36 rfl (by decide) ?_
  exact um_zret d_Mo_body_37 rfl (by decide) ⟨true, rfl, h⟩
set_option maxHeartbeats 4000000 in
set_option maxRecDepth 100000 in
theorem c_Mo_body {a1 : Int32} {a2 : Int32} {σ : um_S} {Q : Bool → um_S → Prop} (h : wp_Mo_body a1 a2 σ Q) : um_Con um_cl um_AW um_L um_SX 2 44 M_Mo_body [.ref 38, .int a1, .int a2] σ (um_Qz Q) := by
  refine um_con (by decide) (Nat.le_of_ble_eq_true rfl) (fun v hv => by simp only [List.mem_cons, List.not_mem_nil, or_false] at hv; rcases hv with rfl | rfl | rfl <;> rfl) ?_
  show um_Ev um_cl um_AW um_L um_SX M_Mo_body 2 44 0 [some (.ref 38), some (.int a1), some (.int a2)] [] σ (um_Qz Q)
  unfold wp_Mo_body at h
  refine um_aload_n (pc2 := 1) d_Mo_body_0 rfl rfl ?_
  refine um_iconst (pc2 := 2) (v := 0) d_Mo_body_1 rfl (by decide) ?_
  refine um_putI (pc2 := 5) d_Mo_body_2 rfl fw_Mo_125 rfl rfl (um_gen (fun σ1 eσ1 => ?_))
  replace h := h σ1 eσ1
  refine um_iload_n (pc2 := 6) d_Mo_body_5 rfl rfl ?_
  refine um_if_lt (pc2 := 9) (tgt := 27) d_Mo_body_6 rfl rfl (fun z => ?_) (fun z => ?_)
  · replace h := h.1 z
    refine um_iconst (pc2 := 28) (v := 0) d_Mo_body_27 rfl (by decide) ?_
    exact um_zret d_Mo_body_28 rfl (by decide) ⟨false, rfl, h⟩
  · replace h := h.2 z
    refine um_iload_n (pc2 := 10) d_Mo_body_9 rfl rfl ?_
    refine um_iconst (pc2 := 11) (v := 5) d_Mo_body_10 rfl (by decide) ?_
    refine um_icmp_gt (pc2 := 14) (tgt := 27) d_Mo_body_11 rfl rfl (fun z => ?_) (fun z => ?_)
    · replace h := h.1 z
      refine um_iconst (pc2 := 28) (v := 0) d_Mo_body_27 rfl (by decide) ?_
      exact um_zret d_Mo_body_28 rfl (by decide) ⟨false, rfl, h⟩
    · replace h := h.2 z
      refine um_iload_n (pc2 := 15) d_Mo_body_14 rfl rfl ?_
      refine um_iconst (pc2 := 16) (v := (-1)) d_Mo_body_15 rfl (by decide) ?_
      refine um_icmp_eq (pc2 := 19) (tgt := 29) d_Mo_body_16 rfl rfl (fun z => ?_) (fun z => ?_)
      · replace h := h.1 z
        refine um_forget [true, true, true] rfl ?_
        exact b_Mo_body_29 h
      · replace h := h.2 z
        refine um_aload_n (pc2 := 20) d_Mo_body_19 rfl rfl ?_
        refine um_iload_n (pc2 := 21) d_Mo_body_20 rfl rfl ?_
        refine um_callV1z (pc2 := 24) d_Mo_body_21 rfl g_Mo_142 rfl (Nat.le_of_ble_eq_true rfl) (Nat.le_of_ble_eq_true rfl) (Nat.le_of_ble_eq_true rfl) (c_Mo_isStatement h) (fun t3 σ2 h => ?_)
        refine um_if_ne (pc2 := 27) (tgt := 29) d_Mo_body_24 rfl rfl (fun z => ?_) (fun z => ?_)
        · replace h := h.1 (um_b1 z)
          refine um_forget [true, true, true] rfl ?_
          exact b_Mo_body_29 h
        · replace h := h.2 (um_b0 z)
          refine um_iconst (pc2 := 28) (v := 0) d_Mo_body_27 rfl (by decide) ?_
          exact um_zret d_Mo_body_28 rfl (by decide) ⟨false, rfl, h⟩
def wp_Mo_hasFinally (a1 : Int32) (σ : um_S) (Q : Bool → um_S → Prop) : Prop :=
  vp_in a1 2001 ∧ vp_in (σ 55 a1.toNatClampNeg) 150 ∧ (¬ (σ 39 (σ 55 a1.toNatClampNeg).toNatClampNeg) = 18 → Q false σ) ∧ ((σ 39 (σ 55 a1.toNatClampNeg).toNatClampNeg) = 18 → vp_in a1 2001 ∧ vp_in (σ 55 a1.toNatClampNeg) 150 ∧ ((σ 42 (σ 55 a1.toNatClampNeg).toNatClampNeg) = (-1) → Q false σ) ∧ (¬ (σ 42 (σ 55 a1.toNatClampNeg).toNatClampNeg) = (-1) → Q true σ))
set_option maxHeartbeats 4000000 in
set_option maxRecDepth 100000 in
theorem c_Mo_hasFinally {a1 : Int32} {σ : um_S} {Q : Bool → um_S → Prop} (h : wp_Mo_hasFinally a1 σ Q) : um_Con um_cl um_AW um_L um_SX 0 0 M_Mo_hasFinally [.ref 38, .int a1] σ (um_Qz Q) := by
  refine um_con (by decide) (Nat.le_of_ble_eq_true rfl) (fun v hv => by simp only [List.mem_cons, List.not_mem_nil, or_false] at hv; rcases hv with rfl | rfl <;> rfl) ?_
  show um_Ev um_cl um_AW um_L um_SX M_Mo_hasFinally 0 0 0 [some (.ref 38), some (.int a1)] [] σ (um_Qz Q)
  unfold wp_Mo_hasFinally at h
  refine um_aload_n (pc2 := 1) d_Mo_hasFinally_0 rfl rfl ?_
  refine um_getR (pc2 := 4) d_Mo_hasFinally_1 rfl f_Mo_7 rfl rfl ?_
  refine um_aload_n (pc2 := 5) d_Mo_hasFinally_4 rfl rfl ?_
  refine um_getR (pc2 := 8) d_Mo_hasFinally_5 rfl f_Mo_58 rfl rfl ?_
  refine um_iload_n (pc2 := 9) d_Mo_hasFinally_8 rfl rfl ?_
  refine um_iald (pc2 := 10) d_Mo_hasFinally_9 rfl rfl h.1 rfl ?_
  replace h := h.2
  refine um_iald (pc2 := 11) d_Mo_hasFinally_10 rfl rfl h.1 rfl ?_
  replace h := h.2
  refine um_bipush (pc2 := 13) (v := 18) d_Mo_hasFinally_11 rfl (by decide) ?_
  refine um_icmp_ne (pc2 := 16) (tgt := 35) d_Mo_hasFinally_13 rfl rfl (fun z => ?_) (fun z => ?_)
  · replace h := h.1 z
    refine um_iconst (pc2 := 36) (v := 0) d_Mo_hasFinally_35 rfl (by decide) ?_
    exact um_zret d_Mo_hasFinally_36 rfl (by decide) ⟨false, rfl, h⟩
  · replace h := h.2 z
    refine um_aload_n (pc2 := 17) d_Mo_hasFinally_16 rfl rfl ?_
    refine um_getR (pc2 := 20) d_Mo_hasFinally_17 rfl f_Mo_19 rfl rfl ?_
    refine um_aload_n (pc2 := 21) d_Mo_hasFinally_20 rfl rfl ?_
    refine um_getR (pc2 := 24) d_Mo_hasFinally_21 rfl f_Mo_58 rfl rfl ?_
    refine um_iload_n (pc2 := 25) d_Mo_hasFinally_24 rfl rfl ?_
    refine um_iald (pc2 := 26) d_Mo_hasFinally_25 rfl rfl h.1 rfl ?_
    replace h := h.2
    refine um_iald (pc2 := 27) d_Mo_hasFinally_26 rfl rfl h.1 rfl ?_
    replace h := h.2
    refine um_iconst (pc2 := 28) (v := (-1)) d_Mo_hasFinally_27 rfl (by decide) ?_
    refine um_icmp_eq (pc2 := 31) (tgt := 35) d_Mo_hasFinally_28 rfl rfl (fun z => ?_) (fun z => ?_)
    · replace h := h.1 z
      refine um_iconst (pc2 := 36) (v := 0) d_Mo_hasFinally_35 rfl (by decide) ?_
      exact um_zret d_Mo_hasFinally_36 rfl (by decide) ⟨false, rfl, h⟩
    · replace h := h.2 z
      refine um_iconst (pc2 := 32) (v := 1) d_Mo_hasFinally_31 rfl (by decide) ?_
      refine um_goto (tgt := 36) d_Mo_hasFinally_32 rfl ?_
      exact um_zret d_Mo_hasFinally_36 rfl (by decide) ⟨true, rfl, h⟩
def wp_Mo_row_IIIII (a1 : Int32) (a2 : Int32) (a3 : Int32) (a4 : Int32) (a5 : Int32) (σ : um_S) (Q : um_S → Prop) : Prop :=
  (¬ (σ 38 14) = 300 → vp_in (σ 38 14) 300 ∧ ∀ σ1 : um_S, σ1 = um_up σ 49 (σ 38 14).toNatClampNeg a1 → vp_in (σ1 38 14) 300 ∧ ∀ σ2 : um_S, σ2 = um_up σ1 50 (σ1 38 14).toNatClampNeg a2 → vp_in (σ2 38 14) 300 ∧ ∀ σ3 : um_S, σ3 = um_up σ2 51 (σ2 38 14).toNatClampNeg a3 → vp_in (σ3 38 14) 300 ∧ ∀ σ4 : um_S, σ4 = um_up σ3 52 (σ3 38 14).toNatClampNeg a4 → vp_in (σ4 38 14) 300 ∧ ∀ σ5 : um_S, σ5 = um_up σ4 53 (σ4 38 14).toNatClampNeg a5 → ∀ σ6 : um_S, σ6 = um_up σ5 38 14 ((σ5 38 14) + 1) → Q σ6) ∧ ((σ 38 14) = 300 → ∀ σ7 : um_S, σ7 = um_up σ 38 35 1 → Q σ7)
set_option maxHeartbeats 4000000 in
set_option maxRecDepth 100000 in
theorem c_Mo_row_IIIII {a1 : Int32} {a2 : Int32} {a3 : Int32} {a4 : Int32} {a5 : Int32} {σ : um_S} {Q : um_S → Prop} (h : wp_Mo_row_IIIII a1 a2 a3 a4 a5 σ Q) : um_Con um_cl um_AW um_L um_SX 0 0 M_Mo_row_IIIII [.ref 38, .int a1, .int a2, .int a3, .int a4, .int a5] σ (um_Qv Q) := by
  refine um_con (by decide) (Nat.le_of_ble_eq_true rfl) (fun v hv => by simp only [List.mem_cons, List.not_mem_nil, or_false] at hv; rcases hv with rfl | rfl | rfl | rfl | rfl | rfl <;> rfl) ?_
  show um_Ev um_cl um_AW um_L um_SX M_Mo_row_IIIII 0 0 0 [some (.ref 38), some (.int a1), some (.int a2), some (.int a3), some (.int a4), some (.int a5)] [] σ (um_Qv Q)
  unfold wp_Mo_row_IIIII at h
  refine um_aload_n (pc2 := 1) d_Mo_row_IIIII_0 rfl rfl ?_
  refine um_getI (pc2 := 4) d_Mo_row_IIIII_1 rfl f_Mo_244 rfl rfl ?_
  refine um_sipush (pc2 := 7) (v := 300) d_Mo_row_IIIII_4 rfl (by decide) ?_
  refine um_icmp_ne (pc2 := 10) (tgt := 16) d_Mo_row_IIIII_7 rfl rfl (fun z => ?_) (fun z => ?_)
  · replace h := h.1 z
    refine um_aload_n (pc2 := 17) d_Mo_row_IIIII_16 rfl rfl ?_
    refine um_getR (pc2 := 20) d_Mo_row_IIIII_17 rfl f_Mo_40 rfl rfl ?_
    refine um_aload_n (pc2 := 21) d_Mo_row_IIIII_20 rfl rfl ?_
    refine um_getI (pc2 := 24) d_Mo_row_IIIII_21 rfl f_Mo_244 rfl rfl ?_
    refine um_iload_n (pc2 := 25) d_Mo_row_IIIII_24 rfl rfl ?_
    refine um_iast (pc2 := 26) d_Mo_row_IIIII_25 rfl rfl h.1 rfl (um_gen (fun σ1 eσ1 => ?_))
    replace h := h.2 σ1 eσ1
    refine um_aload_n (pc2 := 27) d_Mo_row_IIIII_26 rfl rfl ?_
    refine um_getR (pc2 := 30) d_Mo_row_IIIII_27 rfl f_Mo_43 rfl rfl ?_
    refine um_aload_n (pc2 := 31) d_Mo_row_IIIII_30 rfl rfl ?_
    refine um_getI (pc2 := 34) d_Mo_row_IIIII_31 rfl f_Mo_244 rfl rfl ?_
    refine um_iload_n (pc2 := 35) d_Mo_row_IIIII_34 rfl rfl ?_
    refine um_iast (pc2 := 36) d_Mo_row_IIIII_35 rfl rfl h.1 rfl (um_gen (fun σ2 eσ2 => ?_))
    replace h := h.2 σ2 eσ2
    refine um_aload_n (pc2 := 37) d_Mo_row_IIIII_36 rfl rfl ?_
    refine um_getR (pc2 := 40) d_Mo_row_IIIII_37 rfl f_Mo_46 rfl rfl ?_
    refine um_aload_n (pc2 := 41) d_Mo_row_IIIII_40 rfl rfl ?_
    refine um_getI (pc2 := 44) d_Mo_row_IIIII_41 rfl f_Mo_244 rfl rfl ?_
    refine um_iload_n (pc2 := 45) d_Mo_row_IIIII_44 rfl rfl ?_
    refine um_iast (pc2 := 46) d_Mo_row_IIIII_45 rfl rfl h.1 rfl (um_gen (fun σ3 eσ3 => ?_))
    replace h := h.2 σ3 eσ3
    refine um_aload_n (pc2 := 47) d_Mo_row_IIIII_46 rfl rfl ?_
    refine um_getR (pc2 := 50) d_Mo_row_IIIII_47 rfl f_Mo_49 rfl rfl ?_
    refine um_aload_n (pc2 := 51) d_Mo_row_IIIII_50 rfl rfl ?_
    refine um_getI (pc2 := 54) d_Mo_row_IIIII_51 rfl f_Mo_244 rfl rfl ?_
    refine um_iload (pc2 := 56) d_Mo_row_IIIII_54 rfl rfl ?_
    refine um_iast (pc2 := 57) d_Mo_row_IIIII_56 rfl rfl h.1 rfl (um_gen (fun σ4 eσ4 => ?_))
    replace h := h.2 σ4 eσ4
    refine um_aload_n (pc2 := 58) d_Mo_row_IIIII_57 rfl rfl ?_
    refine um_getR (pc2 := 61) d_Mo_row_IIIII_58 rfl f_Mo_52 rfl rfl ?_
    refine um_aload_n (pc2 := 62) d_Mo_row_IIIII_61 rfl rfl ?_
    refine um_getI (pc2 := 65) d_Mo_row_IIIII_62 rfl f_Mo_244 rfl rfl ?_
    refine um_iload (pc2 := 67) d_Mo_row_IIIII_65 rfl rfl ?_
    refine um_iast (pc2 := 68) d_Mo_row_IIIII_67 rfl rfl h.1 rfl (um_gen (fun σ5 eσ5 => ?_))
    replace h := h.2 σ5 eσ5
    refine um_aload_n (pc2 := 69) d_Mo_row_IIIII_68 rfl rfl ?_
    refine um_dup (pc2 := 70) d_Mo_row_IIIII_69 rfl rfl ?_
    refine um_getI (pc2 := 73) d_Mo_row_IIIII_70 rfl f_Mo_244 rfl rfl ?_
    refine um_iconst (pc2 := 74) (v := 1) d_Mo_row_IIIII_73 rfl (by decide) ?_
    refine um_iadd (pc2 := 75) d_Mo_row_IIIII_74 rfl ?_
    refine um_putI (pc2 := 78) d_Mo_row_IIIII_75 rfl fw_Mo_244 rfl rfl (um_gen (fun σ6 eσ6 => ?_))
    replace h := h σ6 eσ6
    exact um_vret d_Mo_row_IIIII_78 rfl ⟨rfl, h⟩
  · replace h := h.2 z
    refine um_aload_n (pc2 := 11) d_Mo_row_IIIII_10 rfl rfl ?_
    refine um_iconst (pc2 := 12) (v := 1) d_Mo_row_IIIII_11 rfl (by decide) ?_
    refine um_putZ (pc2 := 15) d_Mo_row_IIIII_12 rfl fw_Mo_167 rfl rfl (by decide) (um_gen (fun σ7 eσ7 => ?_))
    replace h := h σ7 eσ7
    exact um_vret d_Mo_row_IIIII_15 rfl ⟨rfl, h⟩
def wp_Mo_isAround_7 (Q : Int32 → um_S → Prop) : Nat → Int32 → Int32 → um_S → Prop
  | 0, _, _, _ => False
  | n + 1, v1, v3, σ =>
    (v3 = (-1) → Q 0 σ) ∧ (¬ v3 = (-1) → (¬ (v3 / 2) = v1 → vp_in (v3 / 2) 2001 ∧ ∀ x1 : Int32, x1 = (σ 56 (v3 / 2).toNatClampNeg) → wp_Mo_isAround_7 Q n v1 x1 σ) ∧ ((v3 / 2) = v1 → Q (1 + (v3 - v3 / 2 * 2)) σ))
def wp_Mo_isAround (a1 : Int32) (a2 : Int32) (σ : um_S) (Q : Int32 → um_S → Prop) : Prop :=
  vp_in a2 1000 ∧ ∀ x1 : Int32, x1 = (σ 48 a2.toNatClampNeg) → wp_Mo_isAround_7 Q 100000 a1 x1 σ
set_option maxHeartbeats 4000000 in
set_option maxRecDepth 100000 in
theorem b_Mo_isAround_7 {Q : Int32 → um_S → Prop} (n : Nat) : ∀ (v1 : Int32) (v3 : Int32) (σ : um_S), wp_Mo_isAround_7 Q n v1 v3 σ → um_Ev um_cl um_AW um_L um_SX M_Mo_isAround 0 0 7 [some (.ref 38), some (.int v1), none, some (.int v3)] [] σ (um_Qi Q) := by
  induction n with
  | zero =>
    intro v1 v3 σ h
    exact h.elim
  | succ n ih =>
    intro v1 v3 σ h
    unfold wp_Mo_isAround_7 at h
    refine um_iload_n (pc2 := 8) d_Mo_isAround_7 rfl rfl ?_
    refine um_iconst (pc2 := 9) (v := (-1)) d_Mo_isAround_8 rfl (by decide) ?_
    refine um_icmp_eq (pc2 := 12) (tgt := 37) d_Mo_isAround_9 rfl rfl (fun z => ?_) (fun z => ?_)
    · replace h := h.1 z
      refine um_iconst (pc2 := 38) (v := 0) d_Mo_isAround_37 rfl (by decide) ?_
      exact um_iret d_Mo_isAround_38 rfl ⟨_, rfl, h⟩
    · replace h := h.2 z
      refine um_iload_n (pc2 := 13) d_Mo_isAround_12 rfl rfl ?_
      refine um_iconst (pc2 := 14) (v := 2) d_Mo_isAround_13 rfl (by decide) ?_
      refine um_idiv (pc2 := 15) d_Mo_isAround_14 rfl (by decide) ?_
      refine um_iload_n (pc2 := 16) d_Mo_isAround_15 rfl rfl ?_
      refine um_icmp_ne (pc2 := 19) (tgt := 25) d_Mo_isAround_16 rfl rfl (fun z => ?_) (fun z => ?_)
      · replace h := h.1 z
        refine um_aload_n (pc2 := 26) d_Mo_isAround_25 rfl rfl ?_
        refine um_getR (pc2 := 29) d_Mo_isAround_26 rfl f_Mo_61 rfl rfl ?_
        refine um_iload_n (pc2 := 30) d_Mo_isAround_29 rfl rfl ?_
        refine um_iconst (pc2 := 31) (v := 2) d_Mo_isAround_30 rfl (by decide) ?_
        refine um_idiv (pc2 := 32) d_Mo_isAround_31 rfl (by decide) ?_
        refine um_iald (pc2 := 33) d_Mo_isAround_32 rfl rfl h.1 rfl ?_
        replace h := h.2
        refine um_top (fun x1 ex1 => ?_)
        replace h := h x1 ex1
        refine um_istore_n (pc2 := 34) (ls2 := [some (.ref 38), some (.int v1), none, some (.int x1)]) d_Mo_isAround_33 rfl (Nat.le_of_ble_eq_true rfl) rfl ?_
        refine um_goto (tgt := 7) d_Mo_isAround_34 rfl ?_
        refine um_forget [true, true, false, true] rfl ?_
        exact ih _ _ _ h
      · replace h := h.2 z
        refine um_iconst (pc2 := 20) (v := 1) d_Mo_isAround_19 rfl (by decide) ?_
        refine um_iload_n (pc2 := 21) d_Mo_isAround_20 rfl rfl ?_
        refine um_iconst (pc2 := 22) (v := 2) d_Mo_isAround_21 rfl (by decide) ?_
        refine um_irem (pc2 := 23) d_Mo_isAround_22 rfl (by decide) ?_
        refine um_iadd (pc2 := 24) d_Mo_isAround_23 rfl ?_
        exact um_iret d_Mo_isAround_24 rfl ⟨_, rfl, h⟩
set_option maxHeartbeats 4000000 in
set_option maxRecDepth 100000 in
theorem c_Mo_isAround {a1 : Int32} {a2 : Int32} {σ : um_S} {Q : Int32 → um_S → Prop} (h : wp_Mo_isAround a1 a2 σ Q) : um_Con um_cl um_AW um_L um_SX 0 0 M_Mo_isAround [.ref 38, .int a1, .int a2] σ (um_Qi Q) := by
  refine um_con (by decide) (Nat.le_of_ble_eq_true rfl) (fun v hv => by simp only [List.mem_cons, List.not_mem_nil, or_false] at hv; rcases hv with rfl | rfl | rfl <;> rfl) ?_
  show um_Ev um_cl um_AW um_L um_SX M_Mo_isAround 0 0 0 [some (.ref 38), some (.int a1), some (.int a2), none] [] σ (um_Qi Q)
  unfold wp_Mo_isAround at h
  refine um_aload_n (pc2 := 1) d_Mo_isAround_0 rfl rfl ?_
  refine um_getR (pc2 := 4) d_Mo_isAround_1 rfl f_Mo_37 rfl rfl ?_
  refine um_iload_n (pc2 := 5) d_Mo_isAround_4 rfl rfl ?_
  refine um_iald (pc2 := 6) d_Mo_isAround_5 rfl rfl h.1 rfl ?_
  replace h := h.2
  refine um_top (fun x1 ex1 => ?_)
  replace h := h x1 ex1
  refine um_istore_n (pc2 := 7) (ls2 := [some (.ref 38), some (.int a1), some (.int a2), some (.int x1)]) d_Mo_isAround_6 rfl (Nat.le_of_ble_eq_true rfl) rfl ?_
  refine um_forget [true, true, false, true] rfl ?_
  exact b_Mo_isAround_7 _ _ _ _ h
def wp_Mo_stretches_82 (Q : um_S → Prop) (K6 : Int32 → Int32 → Int32 → Int32 → Int32 → Int32 → Int32 → um_S → Prop) (v1 : Int32) (v2 : Int32) (v3 : Int32) (v4 : Int32) (v5 : Int32) (v6 : Int32) (v7 : Int32) (v9 : Int32) (σ : um_S) : Prop :=
  (¬ v9 = 0 → K6 v1 v2 v3 v4 v5 v6 (v7 + 1) σ) ∧ (v9 = 0 → (v6 = (-1) → K6 v1 v2 v3 v4 v5 v6 (v7 + 1) σ) ∧ (¬ v6 = (-1) → wp_Mo_row_IIIII v6 v7 v3 v4 v5 σ (fun σ1 => K6 v1 v2 v3 v4 v5 (-1) (v7 + 1) σ1)))
def wp_Mo_stretches_67 (Q : um_S → Prop) (K6 : Int32 → Int32 → Int32 → Int32 → Int32 → Int32 → Int32 → um_S → Prop) (v1 : Int32) (v2 : Int32) (v3 : Int32) (v4 : Int32) (v5 : Int32) (v6 : Int32) (v7 : Int32) (v9 : Int32) (σ : um_S) : Prop :=
  (v9 = 0 → wp_Mo_stretches_82 Q K6 v1 v2 v3 v4 v5 v6 v7 v9 σ) ∧ (¬ v9 = 0 → (¬ v6 = (-1) → wp_Mo_stretches_82 Q K6 v1 v2 v3 v4 v5 v6 v7 v9 σ) ∧ (v6 = (-1) → wp_Mo_stretches_82 Q K6 v1 v2 v3 v4 v5 v7 v7 v9 σ))
def wp_Mo_stretches_60 (Q : um_S → Prop) (K6 : Int32 → Int32 → Int32 → Int32 → Int32 → Int32 → Int32 → um_S → Prop) (v1 : Int32) (v2 : Int32) (v3 : Int32) (v4 : Int32) (v5 : Int32) (v6 : Int32) (v7 : Int32) (σ : um_S) : Prop :=
  wp_Mo_stretches_67 Q K6 v1 v2 v3 v4 v5 v6 v7 1 σ
def wp_Mo_stretches_64 (Q : um_S → Prop) (K6 : Int32 → Int32 → Int32 → Int32 → Int32 → Int32 → Int32 → um_S → Prop) (v1 : Int32) (v2 : Int32) (v3 : Int32) (v4 : Int32) (v5 : Int32) (v6 : Int32) (v7 : Int32) (σ : um_S) : Prop :=
  wp_Mo_stretches_67 Q K6 v1 v2 v3 v4 v5 v6 v7 0 σ
def wp_Mo_stretches_44 (Q : um_S → Prop) (K6 : Int32 → Int32 → Int32 → Int32 → Int32 → Int32 → Int32 → um_S → Prop) (v1 : Int32) (v2 : Int32) (v3 : Int32) (v4 : Int32) (v5 : Int32) (v6 : Int32) (v7 : Int32) (v8 : Int32) (σ : um_S) : Prop :=
  (v8 = 1 → wp_Mo_stretches_60 Q K6 v1 v2 v3 v4 v5 v6 v7 σ) ∧ (¬ v8 = 1 → (¬ v8 = 2 → wp_Mo_stretches_64 Q K6 v1 v2 v3 v4 v5 v6 v7 σ) ∧ (v8 = 2 → (¬ v2 = 0 → wp_Mo_stretches_64 Q K6 v1 v2 v3 v4 v5 v6 v7 σ) ∧ (v2 = 0 → wp_Mo_stretches_60 Q K6 v1 v2 v3 v4 v5 v6 v7 σ)))
def wp_Mo_stretches_6 (Q : um_S → Prop) : Nat → Int32 → Int32 → Int32 → Int32 → Int32 → Int32 → Int32 → um_S → Prop
  | 0, _, _, _, _, _, _, _, _ => False
  | n + 1, v1, v2, v3, v4, v5, v6, v7, σ =>
    ((σ 38 10) < v7 → Q σ) ∧ (¬ (σ 38 10) < v7 → (¬ (σ 38 35) = 0 → Q σ) ∧ ((σ 38 35) = 0 → ((σ 38 10) ≤ v7 → wp_Mo_stretches_44 Q (fun v1 v2 v3 v4 v5 v6 v7 σ => wp_Mo_stretches_6 Q n v1 v2 v3 v4 v5 v6 v7 σ) v1 v2 v3 v4 v5 v6 v7 0 σ) ∧ (¬ (σ 38 10) ≤ v7 → wp_Mo_isAround v1 v7 σ (fun x2 σ1 => wp_Mo_stretches_44 Q (fun v1 v2 v3 v4 v5 v6 v7 σ => wp_Mo_stretches_6 Q n v1 v2 v3 v4 v5 v6 v7 σ) v1 v2 v3 v4 v5 v6 v7 x2 σ1))))
def wp_Mo_stretches (a1 : Int32) (b2 : Bool) (a3 : Int32) (a4 : Int32) (a5 : Int32) (σ : um_S) (Q : um_S → Prop) : Prop :=
  wp_Mo_stretches_6 Q 100000 a1 (if b2 then 1 else 0) a3 a4 a5 (-1) 0 σ
set_option maxHeartbeats 4000000 in
set_option maxRecDepth 100000 in
theorem b_Mo_stretches_82 {Q : um_S → Prop} {K6 : Int32 → Int32 → Int32 → Int32 → Int32 → Int32 → Int32 → um_S → Prop} {v1 : Int32} {v2 : Int32} {v3 : Int32} {v4 : Int32} {v5 : Int32} {v6 : Int32} {v7 : Int32} {v9 : Int32} {σ : um_S} (hK6 : ∀ (v1 : Int32) (v2 : Int32) (v3 : Int32) (v4 : Int32) (v5 : Int32) (v6 : Int32) (v7 : Int32) (σ : um_S), K6 v1 v2 v3 v4 v5 v6 v7 σ → um_Ev um_cl um_AW um_L um_SX M_Mo_stretches 1 25 6 [some (.ref 38), some (.int v1), some (.int v2), some (.int v3), some (.int v4), some (.int v5), some (.int v6), some (.int v7), none, none] [] σ (um_Qv Q)) (h : wp_Mo_stretches_82 Q K6 v1 v2 v3 v4 v5 v6 v7 v9 σ) : um_Ev um_cl um_AW um_L um_SX M_Mo_stretches 1 25 82 [some (.ref 38), some (.int v1), some (.int v2), some (.int v3), some (.int v4), some (.int v5), some (.int v6), some (.int v7), none, some (.int v9)] [] σ (um_Qv Q) := by
  unfold wp_Mo_stretches_82 at h
  refine um_iload (pc2 := 84) d_Mo_stretches_82 rfl rfl ?_
  refine um_if_ne (pc2 := 87) (tgt := 109) d_Mo_stretches_84 rfl rfl (fun z => ?_) (fun z => ?_)
  · replace h := h.1 z
    refine um_iinc (pc2 := 112) (v := (v7 + 1)) (ls2 := [some (.ref 38), some (.int v1), some (.int v2), some (.int v3), some (.int v4), some (.int v5), some (.int v6), some (.int (v7 + 1)), none, some (.int v9)]) d_Mo_stretches_109 rfl rfl rfl (Nat.le_of_ble_eq_true rfl) rfl ?_
    refine um_goto (tgt := 6) d_Mo_stretches_112 rfl ?_
    refine um_forget [true, true, true, true, true, true, true, true, false, false] rfl ?_
    exact hK6 _ _ _ _ _ _ _ _ h
  · replace h := h.2 z
    refine um_iload (pc2 := 89) d_Mo_stretches_87 rfl rfl ?_
    refine um_iconst (pc2 := 90) (v := (-1)) d_Mo_stretches_89 rfl (by decide) ?_
    refine um_icmp_eq (pc2 := 93) (tgt := 109) d_Mo_stretches_90 rfl rfl (fun z => ?_) (fun z => ?_)
    · replace h := h.1 z
      refine um_iinc (pc2 := 112) (v := (v7 + 1)) (ls2 := [some (.ref 38), some (.int v1), some (.int v2), some (.int v3), some (.int v4), some (.int v5), some (.int v6), some (.int (v7 + 1)), none, some (.int v9)]) d_Mo_stretches_109 rfl rfl rfl (Nat.le_of_ble_eq_true rfl) rfl ?_
      refine um_goto (tgt := 6) d_Mo_stretches_112 rfl ?_
      refine um_forget [true, true, true, true, true, true, true, true, false, false] rfl ?_
      exact hK6 _ _ _ _ _ _ _ _ h
    · replace h := h.2 z
      refine um_aload_n (pc2 := 94) d_Mo_stretches_93 rfl rfl ?_
      refine um_iload (pc2 := 96) d_Mo_stretches_94 rfl rfl ?_
      refine um_iload (pc2 := 98) d_Mo_stretches_96 rfl rfl ?_
      refine um_iload_n (pc2 := 99) d_Mo_stretches_98 rfl rfl ?_
      refine um_iload (pc2 := 101) d_Mo_stretches_99 rfl rfl ?_
      refine um_iload (pc2 := 103) d_Mo_stretches_101 rfl rfl ?_
      refine um_callV5v (pc2 := 106) d_Mo_stretches_103 rfl g_Mo_250 rfl (Nat.le_of_ble_eq_true rfl) (Nat.le_of_ble_eq_true rfl) (Nat.le_of_ble_eq_true rfl) (c_Mo_row_IIIII h) (fun σ1 h => ?_)
      refine um_iconst (pc2 := 107) (v := (-1)) d_Mo_stretches_106 rfl (by decide) ?_
      refine um_istore (pc2 := 109) (ls2 := [some (.ref 38), some (.int v1), some (.int v2), some (.int v3), some (.int v4), some (.int v5), some (.int (-1)), some (.int v7), none, some (.int v9)]) d_Mo_stretches_107 rfl (Nat.le_of_ble_eq_true rfl) rfl ?_
      refine um_iinc (pc2 := 112) (v := (v7 + 1)) (ls2 := [some (.ref 38), some (.int v1), some (.int v2), some (.int v3), some (.int v4), some (.int v5), some (.int (-1)), some (.int (v7 + 1)), none, some (.int v9)]) d_Mo_stretches_109 rfl rfl rfl (Nat.le_of_ble_eq_true rfl) rfl ?_
      refine um_goto (tgt := 6) d_Mo_stretches_112 rfl ?_
      refine um_forget [true, true, true, true, true, true, true, true, false, false] rfl ?_
      exact hK6 _ _ _ _ _ _ _ _ h
set_option maxHeartbeats 4000000 in
set_option maxRecDepth 100000 in
theorem b_Mo_stretches_67 {Q : um_S → Prop} {K6 : Int32 → Int32 → Int32 → Int32 → Int32 → Int32 → Int32 → um_S → Prop} {v1 : Int32} {v2 : Int32} {v3 : Int32} {v4 : Int32} {v5 : Int32} {v6 : Int32} {v7 : Int32} {v9 : Int32} {σ : um_S} (hK6 : ∀ (v1 : Int32) (v2 : Int32) (v3 : Int32) (v4 : Int32) (v5 : Int32) (v6 : Int32) (v7 : Int32) (σ : um_S), K6 v1 v2 v3 v4 v5 v6 v7 σ → um_Ev um_cl um_AW um_L um_SX M_Mo_stretches 1 25 6 [some (.ref 38), some (.int v1), some (.int v2), some (.int v3), some (.int v4), some (.int v5), some (.int v6), some (.int v7), none, none] [] σ (um_Qv Q)) (h : wp_Mo_stretches_67 Q K6 v1 v2 v3 v4 v5 v6 v7 v9 σ) : um_Ev um_cl um_AW um_L um_SX M_Mo_stretches 1 25 67 [some (.ref 38), some (.int v1), some (.int v2), some (.int v3), some (.int v4), some (.int v5), some (.int v6), some (.int v7), none, some (.int v9)] [] σ (um_Qv Q) := by
  unfold wp_Mo_stretches_67 at h
  refine um_iload (pc2 := 69) d_Mo_stretches_67 rfl rfl ?_
  refine um_if_eq (pc2 := 72) (tgt := 82) d_Mo_stretches_69 rfl rfl (fun z => ?_) (fun z => ?_)
  · replace h := h.1 z
    refine um_forget [true, true, true, true, true, true, true, true, false, true] rfl ?_
    exact b_Mo_stretches_82 hK6 h
  · replace h := h.2 z
    refine um_iload (pc2 := 74) d_Mo_stretches_72 rfl rfl ?_
    refine um_iconst (pc2 := 75) (v := (-1)) d_Mo_stretches_74 rfl (by decide) ?_
    refine um_icmp_ne (pc2 := 78) (tgt := 82) d_Mo_stretches_75 rfl rfl (fun z => ?_) (fun z => ?_)
    · replace h := h.1 z
      refine um_forget [true, true, true, true, true, true, true, true, false, true] rfl ?_
      exact b_Mo_stretches_82 hK6 h
    · replace h := h.2 z
      refine um_iload (pc2 := 80) d_Mo_stretches_78 rfl rfl ?_
      refine um_istore (pc2 := 82) (ls2 := [some (.ref 38), some (.int v1), some (.int v2), some (.int v3), some (.int v4), some (.int v5), some (.int v7), some (.int v7), none, some (.int v9)]) d_Mo_stretches_80 rfl (Nat.le_of_ble_eq_true rfl) rfl ?_
      refine um_forget [true, true, true, true, true, true, true, true, false, true] rfl ?_
      exact b_Mo_stretches_82 hK6 h
set_option maxHeartbeats 4000000 in
set_option maxRecDepth 100000 in
theorem b_Mo_stretches_60 {Q : um_S → Prop} {K6 : Int32 → Int32 → Int32 → Int32 → Int32 → Int32 → Int32 → um_S → Prop} {v1 : Int32} {v2 : Int32} {v3 : Int32} {v4 : Int32} {v5 : Int32} {v6 : Int32} {v7 : Int32} {σ : um_S} (hK6 : ∀ (v1 : Int32) (v2 : Int32) (v3 : Int32) (v4 : Int32) (v5 : Int32) (v6 : Int32) (v7 : Int32) (σ : um_S), K6 v1 v2 v3 v4 v5 v6 v7 σ → um_Ev um_cl um_AW um_L um_SX M_Mo_stretches 1 25 6 [some (.ref 38), some (.int v1), some (.int v2), some (.int v3), some (.int v4), some (.int v5), some (.int v6), some (.int v7), none, none] [] σ (um_Qv Q)) (h : wp_Mo_stretches_60 Q K6 v1 v2 v3 v4 v5 v6 v7 σ) : um_Ev um_cl um_AW um_L um_SX M_Mo_stretches 1 25 60 [some (.ref 38), some (.int v1), some (.int v2), some (.int v3), some (.int v4), some (.int v5), some (.int v6), some (.int v7), none, none] [] σ (um_Qv Q) := by
  unfold wp_Mo_stretches_60 at h
  refine um_iconst (pc2 := 61) (v := 1) d_Mo_stretches_60 rfl (by decide) ?_
  refine um_goto (tgt := 65) d_Mo_stretches_61 rfl ?_
  refine um_istore (pc2 := 67) (ls2 := [some (.ref 38), some (.int v1), some (.int v2), some (.int v3), some (.int v4), some (.int v5), some (.int v6), some (.int v7), none, some (.int 1)]) d_Mo_stretches_65 rfl (Nat.le_of_ble_eq_true rfl) rfl ?_
  refine um_forget [true, true, true, true, true, true, true, true, false, true] rfl ?_
  exact b_Mo_stretches_67 hK6 h
set_option maxHeartbeats 4000000 in
set_option maxRecDepth 100000 in
theorem b_Mo_stretches_64 {Q : um_S → Prop} {K6 : Int32 → Int32 → Int32 → Int32 → Int32 → Int32 → Int32 → um_S → Prop} {v1 : Int32} {v2 : Int32} {v3 : Int32} {v4 : Int32} {v5 : Int32} {v6 : Int32} {v7 : Int32} {σ : um_S} (hK6 : ∀ (v1 : Int32) (v2 : Int32) (v3 : Int32) (v4 : Int32) (v5 : Int32) (v6 : Int32) (v7 : Int32) (σ : um_S), K6 v1 v2 v3 v4 v5 v6 v7 σ → um_Ev um_cl um_AW um_L um_SX M_Mo_stretches 1 25 6 [some (.ref 38), some (.int v1), some (.int v2), some (.int v3), some (.int v4), some (.int v5), some (.int v6), some (.int v7), none, none] [] σ (um_Qv Q)) (h : wp_Mo_stretches_64 Q K6 v1 v2 v3 v4 v5 v6 v7 σ) : um_Ev um_cl um_AW um_L um_SX M_Mo_stretches 1 25 64 [some (.ref 38), some (.int v1), some (.int v2), some (.int v3), some (.int v4), some (.int v5), some (.int v6), some (.int v7), none, none] [] σ (um_Qv Q) := by
  unfold wp_Mo_stretches_64 at h
  refine um_iconst (pc2 := 65) (v := 0) d_Mo_stretches_64 rfl (by decide) ?_
  refine um_istore (pc2 := 67) (ls2 := [some (.ref 38), some (.int v1), some (.int v2), some (.int v3), some (.int v4), some (.int v5), some (.int v6), some (.int v7), none, some (.int 0)]) d_Mo_stretches_65 rfl (Nat.le_of_ble_eq_true rfl) rfl ?_
  refine um_forget [true, true, true, true, true, true, true, true, false, true] rfl ?_
  exact b_Mo_stretches_67 hK6 h
set_option maxHeartbeats 4000000 in
set_option maxRecDepth 100000 in
theorem b_Mo_stretches_44 {Q : um_S → Prop} {K6 : Int32 → Int32 → Int32 → Int32 → Int32 → Int32 → Int32 → um_S → Prop} {v1 : Int32} {v2 : Int32} {v3 : Int32} {v4 : Int32} {v5 : Int32} {v6 : Int32} {v7 : Int32} {v8 : Int32} {σ : um_S} (hK6 : ∀ (v1 : Int32) (v2 : Int32) (v3 : Int32) (v4 : Int32) (v5 : Int32) (v6 : Int32) (v7 : Int32) (σ : um_S), K6 v1 v2 v3 v4 v5 v6 v7 σ → um_Ev um_cl um_AW um_L um_SX M_Mo_stretches 1 25 6 [some (.ref 38), some (.int v1), some (.int v2), some (.int v3), some (.int v4), some (.int v5), some (.int v6), some (.int v7), none, none] [] σ (um_Qv Q)) (h : wp_Mo_stretches_44 Q K6 v1 v2 v3 v4 v5 v6 v7 v8 σ) : um_Ev um_cl um_AW um_L um_SX M_Mo_stretches 1 25 44 [some (.ref 38), some (.int v1), some (.int v2), some (.int v3), some (.int v4), some (.int v5), some (.int v6), some (.int v7), some (.int v8), none] [] σ (um_Qv Q) := by
  unfold wp_Mo_stretches_44 at h
  refine um_iload (pc2 := 46) d_Mo_stretches_44 rfl rfl ?_
  refine um_iconst (pc2 := 47) (v := 1) d_Mo_stretches_46 rfl (by decide) ?_
  refine um_icmp_eq (pc2 := 50) (tgt := 60) d_Mo_stretches_47 rfl rfl (fun z => ?_) (fun z => ?_)
  · replace h := h.1 z
    refine um_forget [true, true, true, true, true, true, true, true, false, false] rfl ?_
    exact b_Mo_stretches_60 hK6 h
  · replace h := h.2 z
    refine um_iload (pc2 := 52) d_Mo_stretches_50 rfl rfl ?_
    refine um_iconst (pc2 := 53) (v := 2) d_Mo_stretches_52 rfl (by decide) ?_
    refine um_icmp_ne (pc2 := 56) (tgt := 64) d_Mo_stretches_53 rfl rfl (fun z => ?_) (fun z => ?_)
    · replace h := h.1 z
      refine um_forget [true, true, true, true, true, true, true, true, false, false] rfl ?_
      exact b_Mo_stretches_64 hK6 h
    · replace h := h.2 z
      refine um_iload_n (pc2 := 57) d_Mo_stretches_56 rfl rfl ?_
      refine um_if_ne (pc2 := 60) (tgt := 64) d_Mo_stretches_57 rfl rfl (fun z => ?_) (fun z => ?_)
      · replace h := h.1 z
        refine um_forget [true, true, true, true, true, true, true, true, false, false] rfl ?_
        exact b_Mo_stretches_64 hK6 h
      · replace h := h.2 z
        refine um_forget [true, true, true, true, true, true, true, true, false, false] rfl ?_
        exact b_Mo_stretches_60 hK6 h
set_option maxHeartbeats 4000000 in
set_option maxRecDepth 100000 in
theorem b_Mo_stretches_6 {Q : um_S → Prop} (n : Nat) : ∀ (v1 : Int32) (v2 : Int32) (v3 : Int32) (v4 : Int32) (v5 : Int32) (v6 : Int32) (v7 : Int32) (σ : um_S), wp_Mo_stretches_6 Q n v1 v2 v3 v4 v5 v6 v7 σ → um_Ev um_cl um_AW um_L um_SX M_Mo_stretches 1 25 6 [some (.ref 38), some (.int v1), some (.int v2), some (.int v3), some (.int v4), some (.int v5), some (.int v6), some (.int v7), none, none] [] σ (um_Qv Q) := by
  induction n with
  | zero =>
    intro v1 v2 v3 v4 v5 v6 v7 σ h
    exact h.elim
  | succ n ih =>
    intro v1 v2 v3 v4 v5 v6 v7 σ h
    unfold wp_Mo_stretches_6 at h
    refine um_iload (pc2 := 8) d_Mo_stretches_6 rfl rfl ?_
    refine um_aload_n (pc2 := 9) d_Mo_stretches_8 rfl rfl ?_
    refine um_getI (pc2 := 12) d_Mo_stretches_9 rfl f_Mo_164 rfl rfl ?_
    refine um_icmp_gt (pc2 := 15) (tgt := 115) d_Mo_stretches_12 rfl rfl (fun z => ?_) (fun z => ?_)
    · replace h := h.1 z
      exact um_vret d_Mo_stretches_115 rfl ⟨rfl, h⟩
    · replace h := h.2 z
      refine um_aload_n (pc2 := 16) d_Mo_stretches_15 rfl rfl ?_
      refine um_getI (pc2 := 19) d_Mo_stretches_16 rfl f_Mo_167 rfl rfl ?_
      refine um_if_ne (pc2 := 22) (tgt := 115) d_Mo_stretches_19 rfl rfl (fun z => ?_) (fun z => ?_)
      · replace h := h.1 z
        exact um_vret d_Mo_stretches_115 rfl ⟨rfl, h⟩
      · replace h := h.2 z
        refine um_iload (pc2 := 24) d_Mo_stretches_22 rfl rfl ?_
        refine um_aload_n (pc2 := 25) d_Mo_stretches_24 rfl rfl ?_
        refine um_getI (pc2 := 28) d_Mo_stretches_25 rfl f_Mo_164 rfl rfl ?_
        refine um_icmp_ge (pc2 := 31) (tgt := 41) d_Mo_stretches_28 rfl rfl (fun z => ?_) (fun z => ?_)
        · replace h := h.1 z
          refine um_iconst (pc2 := 42) (v := 0) d_Mo_stretches_41 rfl (by decide) ?_
          refine um_istore (pc2 := 44) (ls2 := [some (.ref 38), some (.int v1), some (.int v2), some (.int v3), some (.int v4), some (.int v5), some (.int v6), some (.int v7), some (.int 0), none]) d_Mo_stretches_42 rfl (Nat.le_of_ble_eq_true rfl) rfl ?_
          refine um_forget [true, true, true, true, true, true, true, true, true, false] rfl ?_
          exact b_Mo_stretches_44 (fun _ _ _ _ _ _ _ _ z => ih _ _ _ _ _ _ _ _ z) h
        · replace h := h.2 z
          refine um_aload_n (pc2 := 32) d_Mo_stretches_31 rfl rfl ?_
          refine um_iload_n (pc2 := 33) d_Mo_stretches_32 rfl rfl ?_
          refine um_iload (pc2 := 35) d_Mo_stretches_33 rfl rfl ?_
          refine um_callV2i (pc2 := 38) d_Mo_stretches_35 rfl g_Mo_247 rfl (Nat.le_of_ble_eq_true rfl) (Nat.le_of_ble_eq_true rfl) (Nat.le_of_ble_eq_true rfl) (c_Mo_isAround h) (fun x2 σ1 h => ?_)
          refine um_goto (tgt := 42) d_Mo_stretches_38 rfl ?_
          refine um_istore (pc2 := 44) (ls2 := [some (.ref 38), some (.int v1), some (.int v2), some (.int v3), some (.int v4), some (.int v5), some (.int v6), some (.int v7), some (.int x2), none]) d_Mo_stretches_42 rfl (Nat.le_of_ble_eq_true rfl) rfl ?_
          refine um_forget [true, true, true, true, true, true, true, true, true, false] rfl ?_
          exact b_Mo_stretches_44 (fun _ _ _ _ _ _ _ _ z => ih _ _ _ _ _ _ _ _ z) h
set_option maxHeartbeats 4000000 in
set_option maxRecDepth 100000 in
theorem c_Mo_stretches {a1 : Int32} {b2 : Bool} {a3 : Int32} {a4 : Int32} {a5 : Int32} {σ : um_S} {Q : um_S → Prop} (h : wp_Mo_stretches a1 b2 a3 a4 a5 σ Q) : um_Con um_cl um_AW um_L um_SX 1 25 M_Mo_stretches [.ref 38, .int a1, .int (if b2 then 1 else 0), .int a3, .int a4, .int a5] σ (um_Qv Q) := by
  refine um_con (by decide) (Nat.le_of_ble_eq_true rfl) (fun v hv => by simp only [List.mem_cons, List.not_mem_nil, or_false] at hv; rcases hv with rfl | rfl | rfl | rfl | rfl | rfl <;> rfl) ?_
  show um_Ev um_cl um_AW um_L um_SX M_Mo_stretches 1 25 0 [some (.ref 38), some (.int a1), some (.int (if b2 then 1 else 0)), some (.int a3), some (.int a4), some (.int a5), none, none, none, none] [] σ (um_Qv Q)
  unfold wp_Mo_stretches at h
  refine um_iconst (pc2 := 1) (v := (-1)) d_Mo_stretches_0 rfl (by decide) ?_
  refine um_istore (pc2 := 3) (ls2 := [some (.ref 38), some (.int a1), some (.int (if b2 then 1 else 0)), some (.int a3), some (.int a4), some (.int a5), some (.int (-1)), none, none, none]) d_Mo_stretches_1 rfl (Nat.le_of_ble_eq_true rfl) rfl ?_
  refine um_iconst (pc2 := 4) (v := 0) d_Mo_stretches_3 rfl (by decide) ?_
  refine um_istore (pc2 := 6) (ls2 := [some (.ref 38), some (.int a1), some (.int (if b2 then 1 else 0)), some (.int a3), some (.int a4), some (.int a5), some (.int (-1)), some (.int 0), none, none]) d_Mo_stretches_4 rfl (Nat.le_of_ble_eq_true rfl) rfl ?_
  refine um_forget [true, true, true, true, true, true, true, true, false, false] rfl ?_
  exact b_Mo_stretches_6 _ _ _ _ _ _ _ _ _ h
def wp_Mo_catches_20 (Q : Int32 → um_S → Prop) : Nat → Int32 → Int32 → um_S → Prop
  | 0, _, _, _ => False
  | n + 1, v2, v3, σ =>
    (v3 = (-1) → Q v2 σ) ∧ (¬ v3 = (-1) → vp_in v3 150 ∧ (¬ (σ 39 v3.toNatClampNeg) = 20 → wp_Mo_catches_20 Q n (v2 + 1) (-1) σ) ∧ ((σ 39 v3.toNatClampNeg) = 20 → vp_in v3 150 ∧ ∀ x1 : Int32, x1 = (σ 44 v3.toNatClampNeg) → wp_Mo_catches_20 Q n (v2 + 1) x1 σ))
def wp_Mo_catches (a1 : Int32) (σ : um_S) (Q : Int32 → um_S → Prop) : Prop :=
  ((σ 38 34) = 0 → vp_in a1 150 ∧ ∀ x1 : Int32, x1 = (σ 41 a1.toNatClampNeg) → wp_Mo_catches_20 Q 100000 0 x1 σ) ∧ (¬ (σ 38 34) = 0 → wp_Mo_catches_20 Q 100000 0 (-1) σ)
set_option maxHeartbeats 4000000 in
set_option maxRecDepth 100000 in
theorem b_Mo_catches_20 {Q : Int32 → um_S → Prop} (n : Nat) : ∀ (v2 : Int32) (v3 : Int32) (σ : um_S), wp_Mo_catches_20 Q n v2 v3 σ → um_Ev um_cl um_AW um_L um_SX M_Mo_catches 0 0 20 [some (.ref 38), none, some (.int v2), some (.int v3)] [] σ (um_Qi Q) := by
  induction n with
  | zero =>
    intro v2 v3 σ h
    exact h.elim
  | succ n ih =>
    intro v2 v3 σ h
    unfold wp_Mo_catches_20 at h
    refine um_iload_n (pc2 := 21) d_Mo_catches_20 rfl rfl ?_
    refine um_iconst (pc2 := 22) (v := (-1)) d_Mo_catches_21 rfl (by decide) ?_
    refine um_icmp_eq (pc2 := 25) (tgt := 53) d_Mo_catches_22 rfl rfl (fun z => ?_) (fun z => ?_)
    · replace h := h.1 z
      refine um_iload_n (pc2 := 54) d_Mo_catches_53 rfl rfl ?_
      exact um_iret d_Mo_catches_54 rfl ⟨_, rfl, h⟩
    · replace h := h.2 z
      refine um_iinc (pc2 := 28) (v := (v2 + 1)) (ls2 := [some (.ref 38), none, some (.int (v2 + 1)), some (.int v3)]) d_Mo_catches_25 rfl rfl rfl (Nat.le_of_ble_eq_true rfl) rfl ?_
      refine um_aload_n (pc2 := 29) d_Mo_catches_28 rfl rfl ?_
      refine um_getR (pc2 := 32) d_Mo_catches_29 rfl f_Mo_7 rfl rfl ?_
      refine um_iload_n (pc2 := 33) d_Mo_catches_32 rfl rfl ?_
      refine um_iald (pc2 := 34) d_Mo_catches_33 rfl rfl h.1 rfl ?_
      replace h := h.2
      refine um_bipush (pc2 := 36) (v := 20) d_Mo_catches_34 rfl (by decide) ?_
      refine um_icmp_ne (pc2 := 39) (tgt := 48) d_Mo_catches_36 rfl rfl (fun z => ?_) (fun z => ?_)
      · replace h := h.1 z
        refine um_iconst (pc2 := 49) (v := (-1)) d_Mo_catches_48 rfl (by decide) ?_
        refine um_istore_n (pc2 := 50) (ls2 := [some (.ref 38), none, some (.int (v2 + 1)), some (.int (-1))]) d_Mo_catches_49 rfl (Nat.le_of_ble_eq_true rfl) rfl ?_
        refine um_goto (tgt := 20) d_Mo_catches_50 rfl ?_
        refine um_forget [true, false, true, true] rfl ?_
        exact ih _ _ _ h
      · replace h := h.2 z
        refine um_aload_n (pc2 := 40) d_Mo_catches_39 rfl rfl ?_
        refine um_getR (pc2 := 43) d_Mo_catches_40 rfl f_Mo_25 rfl rfl ?_
        refine um_iload_n (pc2 := 44) d_Mo_catches_43 rfl rfl ?_
        refine um_iald (pc2 := 45) d_Mo_catches_44 rfl rfl h.1 rfl ?_
        replace h := h.2
        refine um_goto (tgt := 49) d_Mo_catches_45 rfl ?_
        refine um_top (fun x1 ex1 => ?_)
        replace h := h x1 ex1
        refine um_istore_n (pc2 := 50) (ls2 := [some (.ref 38), none, some (.int (v2 + 1)), some (.int x1)]) d_Mo_catches_49 rfl (Nat.le_of_ble_eq_true rfl) rfl ?_
        refine um_goto (tgt := 20) d_Mo_catches_50 rfl ?_
        refine um_forget [true, false, true, true] rfl ?_
        exact ih _ _ _ h
set_option maxHeartbeats 4000000 in
set_option maxRecDepth 100000 in
theorem c_Mo_catches {a1 : Int32} {σ : um_S} {Q : Int32 → um_S → Prop} (h : wp_Mo_catches a1 σ Q) : um_Con um_cl um_AW um_L um_SX 0 0 M_Mo_catches [.ref 38, .int a1] σ (um_Qi Q) := by
  refine um_con (by decide) (Nat.le_of_ble_eq_true rfl) (fun v hv => by simp only [List.mem_cons, List.not_mem_nil, or_false] at hv; rcases hv with rfl | rfl <;> rfl) ?_
  show um_Ev um_cl um_AW um_L um_SX M_Mo_catches 0 0 0 [some (.ref 38), some (.int a1), none, none] [] σ (um_Qi Q)
  unfold wp_Mo_catches at h
  refine um_iconst (pc2 := 1) (v := 0) d_Mo_catches_0 rfl (by decide) ?_
  refine um_istore_n (pc2 := 2) (ls2 := [some (.ref 38), some (.int a1), some (.int 0), none]) d_Mo_catches_1 rfl (Nat.le_of_ble_eq_true rfl) rfl ?_
  refine um_aload_n (pc2 := 3) d_Mo_catches_2 rfl rfl ?_
  refine um_getI (pc2 := 6) d_Mo_catches_3 rfl f_Mo_156 rfl rfl ?_
  refine um_if_eq (pc2 := 9) (tgt := 13) d_Mo_catches_6 rfl rfl (fun z => ?_) (fun z => ?_)
  · replace h := h.1 z
    refine um_aload_n (pc2 := 14) d_Mo_catches_13 rfl rfl ?_
    refine um_getR (pc2 := 17) d_Mo_catches_14 rfl f_Mo_16 rfl rfl ?_
    refine um_iload_n (pc2 := 18) d_Mo_catches_17 rfl rfl ?_
    refine um_iald (pc2 := 19) d_Mo_catches_18 rfl rfl h.1 rfl ?_
    replace h := h.2
    refine um_top (fun x1 ex1 => ?_)
    replace h := h x1 ex1
    refine um_istore_n (pc2 := 20) (ls2 := [some (.ref 38), some (.int a1), some (.int 0), some (.int x1)]) d_Mo_catches_19 rfl (Nat.le_of_ble_eq_true rfl) rfl ?_
    refine um_forget [true, false, true, true] rfl ?_
    exact b_Mo_catches_20 _ _ _ _ h
  · replace h := h.2 z
    refine um_iconst (pc2 := 10) (v := (-1)) d_Mo_catches_9 rfl (by decide) ?_
    refine um_goto (tgt := 19) d_Mo_catches_10 rfl ?_
    refine um_istore_n (pc2 := 20) (ls2 := [some (.ref 38), some (.int a1), some (.int 0), some (.int (-1))]) d_Mo_catches_19 rfl (Nat.le_of_ble_eq_true rfl) rfl ?_
    refine um_forget [true, false, true, true] rfl ?_
    exact b_Mo_catches_20 _ _ _ _ h
def wp_Mo_catchAt_16 (Q : Int32 → um_S → Prop) : Nat → Int32 → Int32 → Int32 → um_S → Prop
  | 0, _, _, _, _ => False
  | n + 1, v2, v3, v4, σ =>
    (v4 ≤ v2 → Q v3 σ) ∧ (¬ v4 ≤ v2 → vp_in v3 150 ∧ ∀ x1 : Int32, x1 = (σ 44 v3.toNatClampNeg) → wp_Mo_catchAt_16 Q n v2 x1 (v4 + (-1)) σ)
def wp_Mo_catchAt (a1 : Int32) (a2 : Int32) (σ : um_S) (Q : Int32 → um_S → Prop) : Prop :=
  vp_in a1 150 ∧ ∀ x1 : Int32, x1 = (σ 41 a1.toNatClampNeg) → wp_Mo_catches a1 σ (fun x3 σ2 => ∀ x4 : Int32, x4 = (x3 - 1) → wp_Mo_catchAt_16 Q 100000 a2 x1 x4 σ2)
set_option maxHeartbeats 4000000 in
set_option maxRecDepth 100000 in
theorem b_Mo_catchAt_16 {Q : Int32 → um_S → Prop} (n : Nat) : ∀ (v2 : Int32) (v3 : Int32) (v4 : Int32) (σ : um_S), wp_Mo_catchAt_16 Q n v2 v3 v4 σ → um_Ev um_cl um_AW um_L um_SX M_Mo_catchAt 1 23 16 [some (.ref 38), none, some (.int v2), some (.int v3), some (.int v4)] [] σ (um_Qi Q) := by
  induction n with
  | zero =>
    intro v2 v3 v4 σ h
    exact h.elim
  | succ n ih =>
    intro v2 v3 v4 σ h
    unfold wp_Mo_catchAt_16 at h
    refine um_iload (pc2 := 18) d_Mo_catchAt_16 rfl rfl ?_
    refine um_iload_n (pc2 := 19) d_Mo_catchAt_18 rfl rfl ?_
    refine um_icmp_le (pc2 := 22) (tgt := 35) d_Mo_catchAt_19 rfl rfl (fun z => ?_) (fun z => ?_)
    · replace h := h.1 z
      refine um_iload_n (pc2 := 36) d_Mo_catchAt_35 rfl rfl ?_
      exact um_iret d_Mo_catchAt_36 rfl ⟨_, rfl, h⟩
    · replace h := h.2 z
      refine um_aload_n (pc2 := 23) d_Mo_catchAt_22 rfl rfl ?_
      refine um_getR (pc2 := 26) d_Mo_catchAt_23 rfl f_Mo_25 rfl rfl ?_
      refine um_iload_n (pc2 := 27) d_Mo_catchAt_26 rfl rfl ?_
      refine um_iald (pc2 := 28) d_Mo_catchAt_27 rfl rfl h.1 rfl ?_
      replace h := h.2
      refine um_top (fun x1 ex1 => ?_)
      replace h := h x1 ex1
      refine um_istore_n (pc2 := 29) (ls2 := [some (.ref 38), none, some (.int v2), some (.int x1), some (.int v4)]) d_Mo_catchAt_28 rfl (Nat.le_of_ble_eq_true rfl) rfl ?_
      refine um_iinc (pc2 := 32) (v := (v4 + (-1))) (ls2 := [some (.ref 38), none, some (.int v2), some (.int x1), some (.int (v4 + (-1)))]) d_Mo_catchAt_29 rfl rfl rfl (Nat.le_of_ble_eq_true rfl) rfl ?_
      refine um_goto (tgt := 16) d_Mo_catchAt_32 rfl ?_
      refine um_forget [true, false, true, true, true] rfl ?_
      exact ih _ _ _ _ h
set_option maxHeartbeats 4000000 in
set_option maxRecDepth 100000 in
theorem c_Mo_catchAt {a1 : Int32} {a2 : Int32} {σ : um_S} {Q : Int32 → um_S → Prop} (h : wp_Mo_catchAt a1 a2 σ Q) : um_Con um_cl um_AW um_L um_SX 1 23 M_Mo_catchAt [.ref 38, .int a1, .int a2] σ (um_Qi Q) := by
  refine um_con (by decide) (Nat.le_of_ble_eq_true rfl) (fun v hv => by simp only [List.mem_cons, List.not_mem_nil, or_false] at hv; rcases hv with rfl | rfl | rfl <;> rfl) ?_
  show um_Ev um_cl um_AW um_L um_SX M_Mo_catchAt 1 23 0 [some (.ref 38), some (.int a1), some (.int a2), none, none] [] σ (um_Qi Q)
  unfold wp_Mo_catchAt at h
  refine um_aload_n (pc2 := 1) d_Mo_catchAt_0 rfl rfl ?_
  refine um_getR (pc2 := 4) d_Mo_catchAt_1 rfl f_Mo_16 rfl rfl ?_
  refine um_iload_n (pc2 := 5) d_Mo_catchAt_4 rfl rfl ?_
  refine um_iald (pc2 := 6) d_Mo_catchAt_5 rfl rfl h.1 rfl ?_
  replace h := h.2
  refine um_top (fun x1 ex1 => ?_)
  replace h := h x1 ex1
  refine um_istore_n (pc2 := 7) (ls2 := [some (.ref 38), some (.int a1), some (.int a2), some (.int x1), none]) d_Mo_catchAt_6 rfl (Nat.le_of_ble_eq_true rfl) rfl ?_
  refine um_aload_n (pc2 := 8) d_Mo_catchAt_7 rfl rfl ?_
  refine um_iload_n (pc2 := 9) d_Mo_catchAt_8 rfl rfl ?_
  refine um_callV1i (pc2 := 12) d_Mo_catchAt_9 rfl g_Mo_160 rfl (Nat.le_of_ble_eq_true rfl) (Nat.le_of_ble_eq_true rfl) (Nat.le_of_ble_eq_true rfl) (c_Mo_catches h) (fun x3 σ2 h => ?_)
  refine um_iconst (pc2 := 13) (v := 1) d_Mo_catchAt_12 rfl (by decide) ?_
  refine um_isub (pc2 := 14) d_Mo_catchAt_13 rfl ?_
  refine um_top (fun x4 ex4 => ?_)
  replace h := h x4 ex4
  refine um_istore (pc2 := 16) (ls2 := [some (.ref 38), some (.int a1), some (.int a2), some (.int x1), some (.int x4)]) d_Mo_catchAt_14 rfl (Nat.le_of_ble_eq_true rfl) rfl ?_
  refine um_forget [true, false, true, true, true] rfl ?_
  exact b_Mo_catchAt_16 _ _ _ _ _ h
def wp_Mo_table_79 (Q : um_S → Prop) (v1 : Int32) (v3 : Int32) (σ : um_S) : Prop :=
  wp_Mo_hasFinally v1 σ (fun t2 σ1 => (t2 = false → Q σ1) ∧ (t2 = true → vp_in v1 2001 ∧ vp_in ((σ1 60 v1.toNatClampNeg) + v3) 2001 ∧ wp_Mo_stretches v1 false (σ1 61 ((σ1 60 v1.toNatClampNeg) + v3).toNatClampNeg) (-2147483648) 2147483647 σ1 (fun σ3 => Q σ3)))
def wp_Mo_table_16 (Q : um_S → Prop) : Nat → Int32 → Int32 → Int32 → Int32 → um_S → Prop
  | 0, _, _, _, _, _ => False
  | n + 1, v1, v2, v3, v4, σ =>
    (v3 ≤ v4 → wp_Mo_table_79 Q v1 v3 σ) ∧ (¬ v3 ≤ v4 → (¬ (σ 38 35) = 0 → wp_Mo_table_79 Q v1 v3 σ) ∧ ((σ 38 35) = 0 → vp_in v1 2001 ∧ vp_in ((σ 60 v1.toNatClampNeg) + v4) 2001 ∧ wp_Mo_catchAt v2 v4 σ (fun x2 σ1 => vp_in x2 150 ∧ wp_Mo_catchAt v2 v4 σ1 (fun x4 σ3 => vp_in x4 150 ∧ wp_Mo_stretches v1 true (σ 61 ((σ 60 v1.toNatClampNeg) + v4).toNatClampNeg) (σ1 40 x2.toNatClampNeg) (σ3 41 x4.toNatClampNeg) σ3 (fun σ5 => wp_Mo_table_16 Q n v1 v2 v3 (v4 + 1) σ5)))))
def wp_Mo_table (a1 : Int32) (σ : um_S) (Q : um_S → Prop) : Prop :=
  vp_in a1 2001 ∧ ∀ x1 : Int32, x1 = (σ 55 a1.toNatClampNeg) → wp_Mo_catches x1 σ (fun x3 σ2 => wp_Mo_table_16 Q 100000 a1 x1 x3 0 σ2)
set_option maxHeartbeats 4000000 in
set_option maxRecDepth 100000 in
theorem b_Mo_table_79 {Q : um_S → Prop} {v1 : Int32} {v3 : Int32} {σ : um_S} (h : wp_Mo_table_79 Q v1 v3 σ) : um_Ev um_cl um_AW um_L um_SX M_Mo_table 2 54 79 [some (.ref 38), some (.int v1), none, some (.int v3), none] [] σ (um_Qv Q) := by
  unfold wp_Mo_table_79 at h
  refine um_aload_n (pc2 := 80) d_Mo_table_79 rfl rfl ?_
  refine um_iload_n (pc2 := 81) d_Mo_table_80 rfl rfl ?_
  refine um_callV1z (pc2 := 84) d_Mo_table_81 rfl g_Mo_225 rfl (Nat.le_of_ble_eq_true rfl) (Nat.le_of_ble_eq_true rfl) (Nat.le_of_ble_eq_true rfl) (c_Mo_hasFinally h) (fun t2 σ1 h => ?_)
  refine um_if_eq (pc2 := 87) (tgt := 112) d_Mo_table_84 rfl rfl (fun z => ?_) (fun z => ?_)
  · replace h := h.1 (um_b0 z)
    exact um_vret d_Mo_table_112 rfl ⟨rfl, h⟩
  · replace h := h.2 (um_b1 z)
    refine um_aload_n (pc2 := 88) d_Mo_table_87 rfl rfl ?_
    refine um_iload_n (pc2 := 89) d_Mo_table_88 rfl rfl ?_
    refine um_iconst (pc2 := 90) (v := 0) d_Mo_table_89 rfl (by decide) ?_
    refine um_aload_n (pc2 := 91) d_Mo_table_90 rfl rfl ?_
    refine um_getR (pc2 := 94) d_Mo_table_91 rfl f_Mo_76 rfl rfl ?_
    refine um_aload_n (pc2 := 95) d_Mo_table_94 rfl rfl ?_
    refine um_getR (pc2 := 98) d_Mo_table_95 rfl f_Mo_73 rfl rfl ?_
    refine um_iload_n (pc2 := 99) d_Mo_table_98 rfl rfl ?_
    refine um_iald (pc2 := 100) d_Mo_table_99 rfl rfl h.1 rfl ?_
    replace h := h.2
    refine um_iload_n (pc2 := 101) d_Mo_table_100 rfl rfl ?_
    refine um_iadd (pc2 := 102) d_Mo_table_101 rfl ?_
    refine um_iald (pc2 := 103) d_Mo_table_102 rfl rfl h.1 rfl ?_
    replace h := h.2
    refine um_ldcw (pc2 := 106) (v := (-2147483648)) d_Mo_table_103 rfl k_Mo_258 ?_
    refine um_ldcw (pc2 := 109) (v := 2147483647) d_Mo_table_106 rfl k_Mo_259 ?_
    refine um_callV5v (pc2 := 112) d_Mo_table_109 rfl g_Mo_254 rfl (Nat.le_of_ble_eq_true rfl) (Nat.le_of_ble_eq_true rfl) (Nat.le_of_ble_eq_true rfl) (c_Mo_stretches h) (fun σ3 h => ?_)
    exact um_vret d_Mo_table_112 rfl ⟨rfl, h⟩
set_option maxHeartbeats 4000000 in
set_option maxRecDepth 100000 in
theorem b_Mo_table_16 {Q : um_S → Prop} (n : Nat) : ∀ (v1 : Int32) (v2 : Int32) (v3 : Int32) (v4 : Int32) (σ : um_S), wp_Mo_table_16 Q n v1 v2 v3 v4 σ → um_Ev um_cl um_AW um_L um_SX M_Mo_table 2 54 16 [some (.ref 38), some (.int v1), some (.int v2), some (.int v3), some (.int v4)] [] σ (um_Qv Q) := by
  induction n with
  | zero =>
    intro v1 v2 v3 v4 σ h
    exact h.elim
  | succ n ih =>
    intro v1 v2 v3 v4 σ h
    unfold wp_Mo_table_16 at h
    refine um_iload (pc2 := 18) d_Mo_table_16 rfl rfl ?_
    refine um_iload_n (pc2 := 19) d_Mo_table_18 rfl rfl ?_
    refine um_icmp_ge (pc2 := 22) (tgt := 79) d_Mo_table_19 rfl rfl (fun z => ?_) (fun z => ?_)
    · replace h := h.1 z
      refine um_forget [true, true, false, true, false] rfl ?_
      exact b_Mo_table_79 h
    · replace h := h.2 z
      refine um_aload_n (pc2 := 23) d_Mo_table_22 rfl rfl ?_
      refine um_getI (pc2 := 26) d_Mo_table_23 rfl f_Mo_167 rfl rfl ?_
      refine um_if_ne (pc2 := 29) (tgt := 79) d_Mo_table_26 rfl rfl (fun z => ?_) (fun z => ?_)
      · replace h := h.1 z
        refine um_forget [true, true, false, true, false] rfl ?_
        exact b_Mo_table_79 h
      · replace h := h.2 z
        refine um_aload_n (pc2 := 30) d_Mo_table_29 rfl rfl ?_
        refine um_iload_n (pc2 := 31) d_Mo_table_30 rfl rfl ?_
        refine um_iconst (pc2 := 32) (v := 1) d_Mo_table_31 rfl (by decide) ?_
        refine um_aload_n (pc2 := 33) d_Mo_table_32 rfl rfl ?_
        refine um_getR (pc2 := 36) d_Mo_table_33 rfl f_Mo_76 rfl rfl ?_
        refine um_aload_n (pc2 := 37) d_Mo_table_36 rfl rfl ?_
        refine um_getR (pc2 := 40) d_Mo_table_37 rfl f_Mo_73 rfl rfl ?_
        refine um_iload_n (pc2 := 41) d_Mo_table_40 rfl rfl ?_
        refine um_iald (pc2 := 42) d_Mo_table_41 rfl rfl h.1 rfl ?_
        replace h := h.2
        refine um_iload (pc2 := 44) d_Mo_table_42 rfl rfl ?_
        refine um_iadd (pc2 := 45) d_Mo_table_44 rfl ?_
        refine um_iald (pc2 := 46) d_Mo_table_45 rfl rfl h.1 rfl ?_
        replace h := h.2
        refine um_aload_n (pc2 := 47) d_Mo_table_46 rfl rfl ?_
        refine um_getR (pc2 := 50) d_Mo_table_47 rfl f_Mo_13 rfl rfl ?_
        refine um_aload_n (pc2 := 51) d_Mo_table_50 rfl rfl ?_
        refine um_iload_n (pc2 := 52) d_Mo_table_51 rfl rfl ?_
        refine um_iload (pc2 := 54) d_Mo_table_52 rfl rfl ?_
        refine um_callV2i (pc2 := 57) d_Mo_table_54 rfl g_Mo_234 rfl (Nat.le_of_ble_eq_true rfl) (Nat.le_of_ble_eq_true rfl) (Nat.le_of_ble_eq_true rfl) (c_Mo_catchAt h) (fun x2 σ1 h => ?_)
        refine um_iald (pc2 := 58) d_Mo_table_57 rfl rfl h.1 rfl ?_
        replace h := h.2
        refine um_aload_n (pc2 := 59) d_Mo_table_58 rfl rfl ?_
        refine um_getR (pc2 := 62) d_Mo_table_59 rfl f_Mo_16 rfl rfl ?_
        refine um_aload_n (pc2 := 63) d_Mo_table_62 rfl rfl ?_
        refine um_iload_n (pc2 := 64) d_Mo_table_63 rfl rfl ?_
        refine um_iload (pc2 := 66) d_Mo_table_64 rfl rfl ?_
        refine um_callV2i (pc2 := 69) d_Mo_table_66 rfl g_Mo_234 rfl (Nat.le_of_ble_eq_true rfl) (Nat.le_of_ble_eq_true rfl) (Nat.le_of_ble_eq_true rfl) (c_Mo_catchAt h) (fun x4 σ3 h => ?_)
        refine um_iald (pc2 := 70) d_Mo_table_69 rfl rfl h.1 rfl ?_
        replace h := h.2
        refine um_callV5v (pc2 := 73) d_Mo_table_70 rfl g_Mo_254 rfl (Nat.le_of_ble_eq_true rfl) (Nat.le_of_ble_eq_true rfl) (Nat.le_of_ble_eq_true rfl) (c_Mo_stretches h) (fun σ5 h => ?_)
        refine um_iinc (pc2 := 76) (v := (v4 + 1)) (ls2 := [some (.ref 38), some (.int v1), some (.int v2), some (.int v3), some (.int (v4 + 1))]) d_Mo_table_73 rfl rfl rfl (Nat.le_of_ble_eq_true rfl) rfl ?_
        refine um_goto (tgt := 16) d_Mo_table_76 rfl ?_
        refine um_forget [true, true, true, true, true] rfl ?_
        exact ih _ _ _ _ _ h
set_option maxHeartbeats 4000000 in
set_option maxRecDepth 100000 in
theorem c_Mo_table {a1 : Int32} {σ : um_S} {Q : um_S → Prop} (h : wp_Mo_table a1 σ Q) : um_Con um_cl um_AW um_L um_SX 2 54 M_Mo_table [.ref 38, .int a1] σ (um_Qv Q) := by
  refine um_con (by decide) (Nat.le_of_ble_eq_true rfl) (fun v hv => by simp only [List.mem_cons, List.not_mem_nil, or_false] at hv; rcases hv with rfl | rfl <;> rfl) ?_
  show um_Ev um_cl um_AW um_L um_SX M_Mo_table 2 54 0 [some (.ref 38), some (.int a1), none, none, none] [] σ (um_Qv Q)
  unfold wp_Mo_table at h
  refine um_aload_n (pc2 := 1) d_Mo_table_0 rfl rfl ?_
  refine um_getR (pc2 := 4) d_Mo_table_1 rfl f_Mo_58 rfl rfl ?_
  refine um_iload_n (pc2 := 5) d_Mo_table_4 rfl rfl ?_
  refine um_iald (pc2 := 6) d_Mo_table_5 rfl rfl h.1 rfl ?_
  replace h := h.2
  refine um_top (fun x1 ex1 => ?_)
  replace h := h x1 ex1
  refine um_istore_n (pc2 := 7) (ls2 := [some (.ref 38), some (.int a1), some (.int x1), none, none]) d_Mo_table_6 rfl (Nat.le_of_ble_eq_true rfl) rfl ?_
  refine um_aload_n (pc2 := 8) d_Mo_table_7 rfl rfl ?_
  refine um_iload_n (pc2 := 9) d_Mo_table_8 rfl rfl ?_
  refine um_callV1i (pc2 := 12) d_Mo_table_9 rfl g_Mo_160 rfl (Nat.le_of_ble_eq_true rfl) (Nat.le_of_ble_eq_true rfl) (Nat.le_of_ble_eq_true rfl) (c_Mo_catches h) (fun x3 σ2 h => ?_)
  refine um_istore_n (pc2 := 13) (ls2 := [some (.ref 38), some (.int a1), some (.int x1), some (.int x3), none]) d_Mo_table_12 rfl (Nat.le_of_ble_eq_true rfl) rfl ?_
  refine um_iconst (pc2 := 14) (v := 0) d_Mo_table_13 rfl (by decide) ?_
  refine um_istore (pc2 := 16) (ls2 := [some (.ref 38), some (.int a1), some (.int x1), some (.int x3), some (.int 0)]) d_Mo_table_14 rfl (Nat.le_of_ble_eq_true rfl) rfl ?_
  refine um_forget [true, true, true, true, true] rfl ?_
  exact b_Mo_table_16 _ _ _ _ _ _ h
