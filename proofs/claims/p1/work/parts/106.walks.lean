def wp_UM_run (a1 : Int32) (σ : um_S) (Q : Int32 → um_S → Prop) : Prop :=
  wp_Co_stands σ (fun t2 σ1 => (t2 = false → Q (-1) σ1) ∧ (t2 = true → wp_UM_isFunction a1 σ1 (fun t4 σ3 => (t4 = false → Q (-1) σ3) ∧ (t4 = true → vp_in a1 6 ∧ wp_Ma_start (σ3 14 a1.toNatClampNeg) σ3 (fun x6 σ5 => Q x6 σ5)))))
set_option maxHeartbeats 4000000 in
set_option maxRecDepth 100000 in
theorem c_UM_run {a1 : Int32} {σ : um_S} {Q : Int32 → um_S → Prop} (h : wp_UM_run a1 σ Q) : um_Con um_cl um_AW um_L um_SX 5 116 M_UM_run [.ref 0, .int a1] σ (um_Qi Q) := by
  refine um_con (by decide) (Nat.le_of_ble_eq_true rfl) (fun v hv => by simp only [List.mem_cons, List.not_mem_nil, or_false] at hv; rcases hv with rfl | rfl <;> rfl) ?_
  show um_Ev um_cl um_AW um_L um_SX M_UM_run 5 116 0 [some (.ref 0), some (.int a1)] [] σ (um_Qi Q)
  unfold wp_UM_run at h
  refine um_aload_n (pc2 := 1) d_UM_run_0 rfl rfl ?_
  refine um_getR (pc2 := 4) d_UM_run_1 rfl f_UM_19 rfl rfl ?_
  refine um_callV0z (pc2 := 7) d_UM_run_4 rfl g_UM_55 rfl (Nat.le_of_ble_eq_true rfl) (Nat.le_of_ble_eq_true rfl) (Nat.le_of_ble_eq_true rfl) (c_Co_stands h) (fun t2 σ1 h => ?_)
  refine um_if_eq (pc2 := 10) (tgt := 36) d_UM_run_7 rfl rfl (fun z => ?_) (fun z => ?_)
  · replace h := h.1 (um_b0 z)
    refine um_iconst (pc2 := 37) (v := (-1)) d_UM_run_36 rfl (by decide) ?_
    exact um_iret d_UM_run_37 rfl ⟨_, rfl, h⟩
  · replace h := h.2 (um_b1 z)
    refine um_iload_n (pc2 := 11) d_UM_run_10 rfl rfl ?_
    refine um_callS1z (pc2 := 14) d_UM_run_11 rfl g_UM_91 (Nat.le_of_ble_eq_true rfl) (Nat.le_of_ble_eq_true rfl) (Nat.le_of_ble_eq_true rfl) (c_UM_isFunction h) (fun t4 σ3 h => ?_)
    refine um_if_eq (pc2 := 17) (tgt := 36) d_UM_run_14 rfl rfl (fun z => ?_) (fun z => ?_)
    · replace h := h.1 (um_b0 z)
      refine um_iconst (pc2 := 37) (v := (-1)) d_UM_run_36 rfl (by decide) ?_
      exact um_iret d_UM_run_37 rfl ⟨_, rfl, h⟩
    · replace h := h.2 (um_b1 z)
      refine um_aload_n (pc2 := 18) d_UM_run_17 rfl rfl ?_
      refine um_getR (pc2 := 21) d_UM_run_18 rfl f_UM_37 rfl rfl ?_
      refine um_aload_n (pc2 := 22) d_UM_run_21 rfl rfl ?_
      refine um_getR (pc2 := 25) d_UM_run_22 rfl f_UM_19 rfl rfl ?_
      refine um_getR (pc2 := 28) d_UM_run_25 rfl f_UM_95 rfl rfl ?_
      refine um_iload_n (pc2 := 29) d_UM_run_28 rfl rfl ?_
      refine um_iald (pc2 := 30) d_UM_run_29 rfl rfl h.1 rfl ?_
      replace h := h.2
      refine um_callV1i (pc2 := 33) d_UM_run_30 rfl g_UM_105 rfl (Nat.le_of_ble_eq_true rfl) (Nat.le_of_ble_eq_true rfl) (Nat.le_of_ble_eq_true rfl) (c_Ma_start h) (fun x6 σ5 h => ?_)
      refine um_goto (tgt := 37) d_UM_run_33 rfl ?_
      exact um_iret d_UM_run_37 rfl ⟨_, rfl, h⟩
def wp_UM_latest (a1 : Int32) (σ : um_S) (Q : Int32 → um_S → Prop) : Prop :=
  ((σ 4 4) = 0 → Q (-1) σ) ∧ (¬ (σ 4 4) = 0 → (a1 < 0 → Q (-1) σ) ∧ (¬ a1 < 0 → (6 ≤ a1 → Q (-1) σ) ∧ (¬ 6 ≤ a1 → vp_in a1 6 ∧ Q (σ 19 a1.toNatClampNeg) σ)))
set_option maxHeartbeats 4000000 in
set_option maxRecDepth 100000 in
theorem c_UM_latest {a1 : Int32} {σ : um_S} {Q : Int32 → um_S → Prop} (h : wp_UM_latest a1 σ Q) : um_Con um_cl um_AW um_L um_SX 0 0 M_UM_latest [.ref 0, .int a1] σ (um_Qi Q) := by
  refine um_con (by decide) (Nat.le_of_ble_eq_true rfl) (fun v hv => by simp only [List.mem_cons, List.not_mem_nil, or_false] at hv; rcases hv with rfl | rfl <;> rfl) ?_
  show um_Ev um_cl um_AW um_L um_SX M_UM_latest 0 0 0 [some (.ref 0), some (.int a1)] [] σ (um_Qi Q)
  unfold wp_UM_latest at h
  refine um_aload_n (pc2 := 1) d_UM_latest_0 rfl rfl ?_
  refine um_getR (pc2 := 4) d_UM_latest_1 rfl f_UM_37 rfl rfl ?_
  refine um_getI (pc2 := 7) d_UM_latest_4 rfl f_UM_109 rfl rfl ?_
  refine um_if_eq (pc2 := 10) (tgt := 32) d_UM_latest_7 rfl rfl (fun z => ?_) (fun z => ?_)
  · replace h := h.1 z
    refine um_iconst (pc2 := 33) (v := (-1)) d_UM_latest_32 rfl (by decide) ?_
    exact um_iret d_UM_latest_33 rfl ⟨_, rfl, h⟩
  · replace h := h.2 z
    refine um_iload_n (pc2 := 11) d_UM_latest_10 rfl rfl ?_
    refine um_if_lt (pc2 := 14) (tgt := 32) d_UM_latest_11 rfl rfl (fun z => ?_) (fun z => ?_)
    · replace h := h.1 z
      refine um_iconst (pc2 := 33) (v := (-1)) d_UM_latest_32 rfl (by decide) ?_
      exact um_iret d_UM_latest_33 rfl ⟨_, rfl, h⟩
    · replace h := h.2 z
      refine um_iload_n (pc2 := 15) d_UM_latest_14 rfl rfl ?_
      refine um_bipush (pc2 := 17) (v := 6) d_UM_latest_15 rfl (by decide) ?_
      refine um_icmp_ge (pc2 := 20) (tgt := 32) d_UM_latest_17 rfl rfl (fun z => ?_) (fun z => ?_)
      · replace h := h.1 z
        refine um_iconst (pc2 := 33) (v := (-1)) d_UM_latest_32 rfl (by decide) ?_
        exact um_iret d_UM_latest_33 rfl ⟨_, rfl, h⟩
      · replace h := h.2 z
        refine um_aload_n (pc2 := 21) d_UM_latest_20 rfl rfl ?_
        refine um_getR (pc2 := 24) d_UM_latest_21 rfl f_UM_37 rfl rfl ?_
        refine um_getR (pc2 := 27) d_UM_latest_24 rfl f_UM_113 rfl rfl ?_
        refine um_iload_n (pc2 := 28) d_UM_latest_27 rfl rfl ?_
        refine um_iald (pc2 := 29) d_UM_latest_28 rfl rfl h.1 rfl ?_
        replace h := h.2
        refine um_goto (tgt := 33) d_UM_latest_29 rfl ?_
        exact um_iret d_UM_latest_33 rfl ⟨_, rfl, h⟩
def wp_UM_out (a1 : Int32) (σ : um_S) (Q : Int32 → um_S → Prop) : Prop :=
  (a1 < 0 → Q 0 σ) ∧ (¬ a1 < 0 → ((σ 19 3) ≤ a1 → Q 0 σ) ∧ (¬ (σ 19 3) ≤ a1 → vp_in a1 64 ∧ Q (σ 18 a1.toNatClampNeg) σ))
set_option maxHeartbeats 4000000 in
set_option maxRecDepth 100000 in
theorem c_UM_out {a1 : Int32} {σ : um_S} {Q : Int32 → um_S → Prop} (h : wp_UM_out a1 σ Q) : um_Con um_cl um_AW um_L um_SX 0 0 M_UM_out [.ref 0, .int a1] σ (um_Qi Q) := by
  refine um_con (by decide) (Nat.le_of_ble_eq_true rfl) (fun v hv => by simp only [List.mem_cons, List.not_mem_nil, or_false] at hv; rcases hv with rfl | rfl <;> rfl) ?_
  show um_Ev um_cl um_AW um_L um_SX M_UM_out 0 0 0 [some (.ref 0), some (.int a1)] [] σ (um_Qi Q)
  unfold wp_UM_out at h
  refine um_iload_n (pc2 := 1) d_UM_out_0 rfl rfl ?_
  refine um_if_lt (pc2 := 4) (tgt := 29) d_UM_out_1 rfl rfl (fun z => ?_) (fun z => ?_)
  · replace h := h.1 z
    refine um_iconst (pc2 := 30) (v := 0) d_UM_out_29 rfl (by decide) ?_
    exact um_iret d_UM_out_30 rfl ⟨_, rfl, h⟩
  · replace h := h.2 z
    refine um_iload_n (pc2 := 5) d_UM_out_4 rfl rfl ?_
    refine um_aload_n (pc2 := 6) d_UM_out_5 rfl rfl ?_
    refine um_getR (pc2 := 9) d_UM_out_6 rfl f_UM_37 rfl rfl ?_
    refine um_getR (pc2 := 12) d_UM_out_9 rfl f_UM_113 rfl rfl ?_
    refine um_iconst (pc2 := 13) (v := 3) d_UM_out_12 rfl (by decide) ?_
    refine um_iald (pc2 := 14) (k := 3) d_UM_out_13 rfl rfl (by unfold vp_in; decide) (by decide) ?_
    refine um_icmp_ge (pc2 := 17) (tgt := 29) d_UM_out_14 rfl rfl (fun z => ?_) (fun z => ?_)
    · replace h := h.1 z
      refine um_iconst (pc2 := 30) (v := 0) d_UM_out_29 rfl (by decide) ?_
      exact um_iret d_UM_out_30 rfl ⟨_, rfl, h⟩
    · replace h := h.2 z
      refine um_aload_n (pc2 := 18) d_UM_out_17 rfl rfl ?_
      refine um_getR (pc2 := 21) d_UM_out_18 rfl f_UM_37 rfl rfl ?_
      refine um_getR (pc2 := 24) d_UM_out_21 rfl f_UM_116 rfl rfl ?_
      refine um_iload_n (pc2 := 25) d_UM_out_24 rfl rfl ?_
      refine um_iald (pc2 := 26) d_UM_out_25 rfl rfl h.1 rfl ?_
      replace h := h.2
      refine um_goto (tgt := 30) d_UM_out_26 rfl ?_
      exact um_iret d_UM_out_30 rfl ⟨_, rfl, h⟩
def wp_UM_variable (a1 : Int32) (σ : um_S) (Q : Int32 → um_S → Prop) : Prop :=
  wp_UM_isVariable a1 σ (fun t2 σ1 => (t2 = false → Q 0 σ1) ∧ (t2 = true → vp_in a1 8 ∧ Q (σ1 17 a1.toNatClampNeg) σ1))
set_option maxHeartbeats 4000000 in
set_option maxRecDepth 100000 in
theorem c_UM_variable {a1 : Int32} {σ : um_S} {Q : Int32 → um_S → Prop} (h : wp_UM_variable a1 σ Q) : um_Con um_cl um_AW um_L um_SX 1 20 M_UM_variable [.ref 0, .int a1] σ (um_Qi Q) := by
  refine um_con (by decide) (Nat.le_of_ble_eq_true rfl) (fun v hv => by simp only [List.mem_cons, List.not_mem_nil, or_false] at hv; rcases hv with rfl | rfl <;> rfl) ?_
  show um_Ev um_cl um_AW um_L um_SX M_UM_variable 1 20 0 [some (.ref 0), some (.int a1)] [] σ (um_Qi Q)
  unfold wp_UM_variable at h
  refine um_iload_n (pc2 := 1) d_UM_variable_0 rfl rfl ?_
  refine um_callS1z (pc2 := 4) d_UM_variable_1 rfl g_UM_119 (Nat.le_of_ble_eq_true rfl) (Nat.le_of_ble_eq_true rfl) (Nat.le_of_ble_eq_true rfl) (c_UM_isVariable h) (fun t2 σ1 h => ?_)
  refine um_if_eq (pc2 := 7) (tgt := 19) d_UM_variable_4 rfl rfl (fun z => ?_) (fun z => ?_)
  · replace h := h.1 (um_b0 z)
    refine um_iconst (pc2 := 20) (v := 0) d_UM_variable_19 rfl (by decide) ?_
    exact um_iret d_UM_variable_20 rfl ⟨_, rfl, h⟩
  · replace h := h.2 (um_b1 z)
    refine um_aload_n (pc2 := 8) d_UM_variable_7 rfl rfl ?_
    refine um_getR (pc2 := 11) d_UM_variable_8 rfl f_UM_37 rfl rfl ?_
    refine um_getR (pc2 := 14) d_UM_variable_11 rfl f_UM_122 rfl rfl ?_
    refine um_iload_n (pc2 := 15) d_UM_variable_14 rfl rfl ?_
    refine um_iald (pc2 := 16) d_UM_variable_15 rfl rfl h.1 rfl ?_
    replace h := h.2
    refine um_goto (tgt := 20) d_UM_variable_16 rfl ?_
    exact um_iret d_UM_variable_20 rfl ⟨_, rfl, h⟩
def wp_Mo_isThere (a1 : Int32) (a2 : Int32) (a3 : Int32) (σ : um_S) (Q : Bool → um_S → Prop) : Prop :=
  (a1 < 0 → Q false σ) ∧ (¬ a1 < 0 → ((σ 38 1) ≤ a1 → Q false σ) ∧ (¬ (σ 38 1) ≤ a1 → vp_in a1 150 ∧ ((σ 39 a1.toNatClampNeg) < a2 → Q false σ) ∧ (¬ (σ 39 a1.toNatClampNeg) < a2 → vp_in a1 150 ∧ (a3 < (σ 39 a1.toNatClampNeg) → Q false σ) ∧ (¬ a3 < (σ 39 a1.toNatClampNeg) → Q true σ))))
set_option maxHeartbeats 4000000 in
set_option maxRecDepth 100000 in
theorem c_Mo_isThere {a1 : Int32} {a2 : Int32} {a3 : Int32} {σ : um_S} {Q : Bool → um_S → Prop} (h : wp_Mo_isThere a1 a2 a3 σ Q) : um_Con um_cl um_AW um_L um_SX 0 0 M_Mo_isThere [.ref 38, .int a1, .int a2, .int a3] σ (um_Qz Q) := by
  refine um_con (by decide) (Nat.le_of_ble_eq_true rfl) (fun v hv => by simp only [List.mem_cons, List.not_mem_nil, or_false] at hv; rcases hv with rfl | rfl | rfl | rfl <;> rfl) ?_
  show um_Ev um_cl um_AW um_L um_SX M_Mo_isThere 0 0 0 [some (.ref 38), some (.int a1), some (.int a2), some (.int a3)] [] σ (um_Qz Q)
  unfold wp_Mo_isThere at h
  refine um_iload_n (pc2 := 1) d_Mo_isThere_0 rfl rfl ?_
  refine um_if_lt (pc2 := 4) (tgt := 36) d_Mo_isThere_1 rfl rfl (fun z => ?_) (fun z => ?_)
  · replace h := h.1 z
    refine um_iconst (pc2 := 37) (v := 0) d_Mo_isThere_36 rfl (by decide) ?_
    exact um_zret d_Mo_isThere_37 rfl (by decide) ⟨false, rfl, h⟩
  · replace h := h.2 z
    refine um_iload_n (pc2 := 5) d_Mo_isThere_4 rfl rfl ?_
    refine um_aload_n (pc2 := 6) d_Mo_isThere_5 rfl rfl ?_
    refine um_getI (pc2 := 9) d_Mo_isThere_6 rfl f_Mo_128 rfl rfl ?_
    refine um_icmp_ge (pc2 := 12) (tgt := 36) d_Mo_isThere_9 rfl rfl (fun z => ?_) (fun z => ?_)
    · replace h := h.1 z
      refine um_iconst (pc2 := 37) (v := 0) d_Mo_isThere_36 rfl (by decide) ?_
      exact um_zret d_Mo_isThere_37 rfl (by decide) ⟨false, rfl, h⟩
    · replace h := h.2 z
      refine um_aload_n (pc2 := 13) d_Mo_isThere_12 rfl rfl ?_
      refine um_getR (pc2 := 16) d_Mo_isThere_13 rfl f_Mo_7 rfl rfl ?_
      refine um_iload_n (pc2 := 17) d_Mo_isThere_16 rfl rfl ?_
      refine um_iald (pc2 := 18) d_Mo_isThere_17 rfl rfl h.1 rfl ?_
      replace h := h.2
      refine um_iload_n (pc2 := 19) d_Mo_isThere_18 rfl rfl ?_
      refine um_icmp_lt (pc2 := 22) (tgt := 36) d_Mo_isThere_19 rfl rfl (fun z => ?_) (fun z => ?_)
      · replace h := h.1 z
        refine um_iconst (pc2 := 37) (v := 0) d_Mo_isThere_36 rfl (by decide) ?_
        exact um_zret d_Mo_isThere_37 rfl (by decide) ⟨false, rfl, h⟩
      · replace h := h.2 z
        refine um_aload_n (pc2 := 23) d_Mo_isThere_22 rfl rfl ?_
        refine um_getR (pc2 := 26) d_Mo_isThere_23 rfl f_Mo_7 rfl rfl ?_
        refine um_iload_n (pc2 := 27) d_Mo_isThere_26 rfl rfl ?_
        refine um_iald (pc2 := 28) d_Mo_isThere_27 rfl rfl h.1 rfl ?_
        replace h := h.2
        refine um_iload_n (pc2 := 29) d_Mo_isThere_28 rfl rfl ?_
        refine um_icmp_gt (pc2 := 32) (tgt := 36) d_Mo_isThere_29 rfl rfl (fun z => ?_) (fun z => ?_)
        · replace h := h.1 z
          refine um_iconst (pc2 := 37) (v := 0) d_Mo_isThere_36 rfl (by decide) ?_
          exact um_zret d_Mo_isThere_37 rfl (by decide) ⟨false, rfl, h⟩
        · replace h := h.2 z
          refine um_iconst (pc2 := 33) (v := 1) d_Mo_isThere_32 rfl (by decide) ?_
          refine um_goto (tgt := 37) d_Mo_isThere_33 rfl ?_
          exact um_zret d_Mo_isThere_37 rfl (by decide) ⟨true, rfl, h⟩
def wp_Mo_isStatement (a1 : Int32) (σ : um_S) (Q : Bool → um_S → Prop) : Prop :=
  wp_Mo_isThere a1 8 18 σ (fun t2 σ1 => Q t2 σ1)
set_option maxHeartbeats 4000000 in
set_option maxRecDepth 100000 in
theorem c_Mo_isStatement {a1 : Int32} {σ : um_S} {Q : Bool → um_S → Prop} (h : wp_Mo_isStatement a1 σ Q) : um_Con um_cl um_AW um_L um_SX 1 23 M_Mo_isStatement [.ref 38, .int a1] σ (um_Qz Q) := by
  refine um_con (by decide) (Nat.le_of_ble_eq_true rfl) (fun v hv => by simp only [List.mem_cons, List.not_mem_nil, or_false] at hv; rcases hv with rfl | rfl <;> rfl) ?_
  show um_Ev um_cl um_AW um_L um_SX M_Mo_isStatement 1 23 0 [some (.ref 38), some (.int a1)] [] σ (um_Qz Q)
  unfold wp_Mo_isStatement at h
  refine um_aload_n (pc2 := 1) d_Mo_isStatement_0 rfl rfl ?_
  refine um_iload_n (pc2 := 2) d_Mo_isStatement_1 rfl rfl ?_
  refine um_bipush (pc2 := 4) (v := 8) d_Mo_isStatement_2 rfl (by decide) ?_
  refine um_bipush (pc2 := 6) (v := 18) d_Mo_isStatement_4 rfl (by decide) ?_
  refine um_callV3z (pc2 := 9) d_Mo_isStatement_6 rfl g_Mo_131 rfl (Nat.le_of_ble_eq_true rfl) (Nat.le_of_ble_eq_true rfl) (Nat.le_of_ble_eq_true rfl) (c_Mo_isThere h) (fun t2 σ1 h => ?_)
  exact um_zret d_Mo_isStatement_9 rfl (um_b01 t2) ⟨t2, rfl, h⟩
def wp_Mo_isVariable (a0 : Int32) (σ : um_S) (Q : Bool → um_S → Prop) : Prop :=
  (a0 < 0 → Q false σ) ∧ (¬ a0 < 0 → (8 ≤ a0 → Q false σ) ∧ (¬ 8 ≤ a0 → Q true σ))
set_option maxHeartbeats 4000000 in
set_option maxRecDepth 100000 in
theorem c_Mo_isVariable {a0 : Int32} {σ : um_S} {Q : Bool → um_S → Prop} (h : wp_Mo_isVariable a0 σ Q) : um_Con um_cl um_AW um_L um_SX 0 0 M_Mo_isVariable [.int a0] σ (um_Qz Q) := by
  refine um_con (by decide) (Nat.le_of_ble_eq_true rfl) (fun v hv => by simp only [List.mem_cons, List.not_mem_nil, or_false] at hv; rcases hv with rfl <;> rfl) ?_
  show um_Ev um_cl um_AW um_L um_SX M_Mo_isVariable 0 0 0 [some (.int a0)] [] σ (um_Qz Q)
  unfold wp_Mo_isVariable at h
  refine um_iload_n (pc2 := 1) d_Mo_isVariable_0 rfl rfl ?_
  refine um_if_lt (pc2 := 4) (tgt := 14) d_Mo_isVariable_1 rfl rfl (fun z => ?_) (fun z => ?_)
  · replace h := h.1 z
    refine um_iconst (pc2 := 15) (v := 0) d_Mo_isVariable_14 rfl (by decide) ?_
    exact um_zret d_Mo_isVariable_15 rfl (by decide) ⟨false, rfl, h⟩
  · replace h := h.2 z
    refine um_iload_n (pc2 := 5) d_Mo_isVariable_4 rfl rfl ?_
    refine um_bipush (pc2 := 7) (v := 8) d_Mo_isVariable_5 rfl (by decide) ?_
    refine um_icmp_ge (pc2 := 10) (tgt := 14) d_Mo_isVariable_7 rfl rfl (fun z => ?_) (fun z => ?_)
    · replace h := h.1 z
      refine um_iconst (pc2 := 15) (v := 0) d_Mo_isVariable_14 rfl (by decide) ?_
      exact um_zret d_Mo_isVariable_15 rfl (by decide) ⟨false, rfl, h⟩
    · replace h := h.2 z
      refine um_iconst (pc2 := 11) (v := 1) d_Mo_isVariable_10 rfl (by decide) ?_
      refine um_goto (tgt := 15) d_Mo_isVariable_11 rfl ?_
      exact um_zret d_Mo_isVariable_15 rfl (by decide) ⟨true, rfl, h⟩
def wp_Mo_isExpression (a1 : Int32) (σ : um_S) (Q : Bool → um_S → Prop) : Prop :=
  wp_Mo_isThere a1 0 7 σ (fun t2 σ1 => Q t2 σ1)
set_option maxHeartbeats 4000000 in
set_option maxRecDepth 100000 in
theorem c_Mo_isExpression {a1 : Int32} {σ : um_S} {Q : Bool → um_S → Prop} (h : wp_Mo_isExpression a1 σ Q) : um_Con um_cl um_AW um_L um_SX 1 23 M_Mo_isExpression [.ref 38, .int a1] σ (um_Qz Q) := by
  refine um_con (by decide) (Nat.le_of_ble_eq_true rfl) (fun v hv => by simp only [List.mem_cons, List.not_mem_nil, or_false] at hv; rcases hv with rfl | rfl <;> rfl) ?_
  show um_Ev um_cl um_AW um_L um_SX M_Mo_isExpression 1 23 0 [some (.ref 38), some (.int a1)] [] σ (um_Qz Q)
  unfold wp_Mo_isExpression at h
  refine um_aload_n (pc2 := 1) d_Mo_isExpression_0 rfl rfl ?_
  refine um_iload_n (pc2 := 2) d_Mo_isExpression_1 rfl rfl ?_
  refine um_iconst (pc2 := 3) (v := 0) d_Mo_isExpression_2 rfl (by decide) ?_
  refine um_bipush (pc2 := 5) (v := 7) d_Mo_isExpression_3 rfl (by decide) ?_
  refine um_callV3z (pc2 := 8) d_Mo_isExpression_5 rfl g_Mo_131 rfl (Nat.le_of_ble_eq_true rfl) (Nat.le_of_ble_eq_true rfl) (Nat.le_of_ble_eq_true rfl) (c_Mo_isThere h) (fun t2 σ1 h => ?_)
  exact um_zret d_Mo_isExpression_8 rfl (um_b01 t2) ⟨t2, rfl, h⟩
def wp_Mo_isCatch (a1 : Int32) (σ : um_S) (Q : Bool → um_S → Prop) : Prop :=
  wp_Mo_isThere a1 19 20 σ (fun t2 σ1 => Q t2 σ1)
set_option maxHeartbeats 4000000 in
set_option maxRecDepth 100000 in
theorem c_Mo_isCatch {a1 : Int32} {σ : um_S} {Q : Bool → um_S → Prop} (h : wp_Mo_isCatch a1 σ Q) : um_Con um_cl um_AW um_L um_SX 1 23 M_Mo_isCatch [.ref 38, .int a1] σ (um_Qz Q) := by
  refine um_con (by decide) (Nat.le_of_ble_eq_true rfl) (fun v hv => by simp only [List.mem_cons, List.not_mem_nil, or_false] at hv; rcases hv with rfl | rfl <;> rfl) ?_
  show um_Ev um_cl um_AW um_L um_SX M_Mo_isCatch 1 23 0 [some (.ref 38), some (.int a1)] [] σ (um_Qz Q)
  unfold wp_Mo_isCatch at h
  refine um_aload_n (pc2 := 1) d_Mo_isCatch_0 rfl rfl ?_
  refine um_iload_n (pc2 := 2) d_Mo_isCatch_1 rfl rfl ?_
  refine um_bipush (pc2 := 4) (v := 19) d_Mo_isCatch_2 rfl (by decide) ?_
  refine um_bipush (pc2 := 6) (v := 20) d_Mo_isCatch_4 rfl (by decide) ?_
  refine um_callV3z (pc2 := 9) d_Mo_isCatch_6 rfl g_Mo_131 rfl (Nat.le_of_ble_eq_true rfl) (Nat.le_of_ble_eq_true rfl) (Nat.le_of_ble_eq_true rfl) (c_Mo_isThere h) (fun t2 σ1 h => ?_)
  exact um_zret d_Mo_isCatch_9 rfl (um_b01 t2) ⟨t2, rfl, h⟩
def wp_Mo_can_264 (Q : Bool → um_S → Prop) (v4 : Int32) (σ : um_S) : Prop :=
  (v4 = (-1) → Q true σ) ∧ (¬ v4 = (-1) → wp_Mo_isStatement v4 σ (fun t2 σ1 => (t2 = false → Q false σ1) ∧ (t2 = true → Q true σ1)))
def wp_Mo_can (a1 : Int32) (a2 : Int32) (a3 : Int32) (a4 : Int32) (a5 : Int32) (σ : um_S) (Q : Bool → um_S → Prop) : Prop :=
  (a1 = 0 → Q true σ) ∧ (¬ a1 = 0 → (a1 = 1 → wp_Mo_isVariable a2 σ (fun t2 σ1 => Q t2 σ1)) ∧ (¬ a1 = 1 → (a1 = 2 → wp_Mo_isExpression a2 σ (fun t4 σ3 => (t4 = false → Q false σ3) ∧ (t4 = true → wp_Mo_isExpression a3 σ3 (fun t6 σ5 => (t6 = false → Q false σ5) ∧ (t6 = true → Q true σ5))))) ∧ (¬ a1 = 2 → (a1 = 3 → wp_Mo_isExpression a2 σ (fun t8 σ7 => (t8 = false → Q false σ7) ∧ (t8 = true → wp_Mo_isExpression a3 σ7 (fun t10 σ9 => (t10 = false → Q false σ9) ∧ (t10 = true → Q true σ9))))) ∧ (¬ a1 = 3 → (a1 = 4 → wp_Mo_isExpression a2 σ (fun t12 σ11 => (t12 = false → Q false σ11) ∧ (t12 = true → wp_Mo_isExpression a3 σ11 (fun t14 σ13 => (t14 = false → Q false σ13) ∧ (t14 = true → Q true σ13))))) ∧ (¬ a1 = 4 → (a1 = 5 → wp_Mo_isExpression a2 σ (fun t16 σ15 => (t16 = false → Q false σ15) ∧ (t16 = true → wp_Mo_isExpression a3 σ15 (fun t18 σ17 => (t18 = false → Q false σ17) ∧ (t18 = true → Q true σ17))))) ∧ (¬ a1 = 5 → (a1 = 6 → wp_Mo_isExpression a2 σ (fun t20 σ19 => (t20 = false → Q false σ19) ∧ (t20 = true → wp_Mo_isExpression a3 σ19 (fun t22 σ21 => (t22 = false → Q false σ21) ∧ (t22 = true → Q true σ21))))) ∧ (¬ a1 = 6 → (a1 = 7 → wp_Mo_isExpression a2 σ (fun t24 σ23 => (t24 = false → Q false σ23) ∧ (t24 = true → wp_Mo_isExpression a3 σ23 (fun t26 σ25 => (t26 = false → Q false σ25) ∧ (t26 = true → Q true σ25))))) ∧ (¬ a1 = 7 → (a1 = 8 → Q true σ) ∧ (¬ a1 = 8 → (a1 = 9 → wp_Mo_isVariable a2 σ (fun t28 σ27 => (t28 = false → Q false σ27) ∧ (t28 = true → wp_Mo_isExpression a3 σ27 (fun t30 σ29 => (t30 = false → Q false σ29) ∧ (t30 = true → Q true σ29))))) ∧ (¬ a1 = 9 → (a1 = 10 → wp_Mo_isExpression a2 σ (fun t32 σ31 => Q t32 σ31)) ∧ (¬ a1 = 10 → (a1 = 11 → wp_Mo_isStatement a2 σ (fun t34 σ33 => (t34 = false → Q false σ33) ∧ (t34 = true → wp_Mo_isStatement a3 σ33 (fun t36 σ35 => (t36 = false → Q false σ35) ∧ (t36 = true → Q true σ35))))) ∧ (¬ a1 = 11 → (a1 = 12 → wp_Mo_isExpression a2 σ (fun t38 σ37 => (t38 = false → Q false σ37) ∧ (t38 = true → wp_Mo_isStatement a3 σ37 (fun t40 σ39 => (t40 = false → Q false σ39) ∧ (t40 = true → wp_Mo_isStatement a4 σ39 (fun t42 σ41 => (t42 = false → Q false σ41) ∧ (t42 = true → Q true σ41))))))) ∧ (¬ a1 = 12 → (a1 = 13 → wp_Mo_isExpression a2 σ (fun t44 σ43 => (t44 = false → Q false σ43) ∧ (t44 = true → wp_Mo_isStatement a3 σ43 (fun t46 σ45 => (t46 = false → Q false σ45) ∧ (t46 = true → Q true σ45))))) ∧ (¬ a1 = 13 → (a1 = 14 → wp_Mo_isExpression a2 σ (fun t48 σ47 => Q t48 σ47)) ∧ (¬ a1 = 14 → (a1 = 15 → (a2 < 0 → Q false σ) ∧ (¬ a2 < 0 → (6 ≤ a2 → Q false σ) ∧ (¬ 6 ≤ a2 → Q true σ))) ∧ (¬ a1 = 15 → (a1 = 16 → Q true σ) ∧ (¬ a1 = 16 → (a1 = 17 → Q true σ) ∧ (¬ a1 = 17 → (a1 = 18 → wp_Mo_isStatement a2 σ (fun t50 σ49 => (t50 = false → Q false σ49) ∧ (t50 = true → (a3 = (-1) → wp_Mo_can_264 Q a4 σ49) ∧ (¬ a3 = (-1) → wp_Mo_isCatch a3 σ49 (fun t52 σ51 => (t52 = false → Q false σ51) ∧ (t52 = true → wp_Mo_can_264 Q a4 σ51)))))) ∧ (¬ a1 = 18 → (a1 = 19 → wp_Mo_isVariable a4 σ (fun t54 σ53 => (t54 = false → Q false σ53) ∧ (t54 = true → wp_Mo_isStatement a5 σ53 (fun t56 σ55 => (t56 = false → Q false σ55) ∧ (t56 = true → Q true σ55))))) ∧ (¬ a1 = 19 → Q false σ))))))))))))))))))))
set_option maxHeartbeats 4000000 in
set_option maxRecDepth 100000 in
theorem b_Mo_can_264 {Q : Bool → um_S → Prop} {v4 : Int32} {σ : um_S} (h : wp_Mo_can_264 Q v4 σ) : um_Ev um_cl um_AW um_L um_SX M_Mo_can 2 44 264 [some (.ref 38), none, none, none, some (.int v4), none] [] σ (um_Qz Q) := by
  unfold wp_Mo_can_264 at h
  refine um_iload (pc2 := 266) d_Mo_can_264 rfl rfl ?_
  refine um_iconst (pc2 := 267) (v := (-1)) d_Mo_can_266 rfl (by decide) ?_
  refine um_icmp_eq (pc2 := 270) (tgt := 279) d_Mo_can_267 rfl rfl (fun z => ?_) (fun z => ?_)
  · replace h := h.1 z
    refine um_iconst (pc2 := 280) (v := 1) d_Mo_can_279 rfl (by decide) ?_
    refine um_goto (tgt := 284) d_Mo_can_280 rfl ?_
    exact um_zret d_Mo_can_284 rfl (by decide) ⟨true, rfl, h⟩
  · replace h := h.2 z
    refine um_aload_n (pc2 := 271) d_Mo_can_270 rfl rfl ?_
    refine um_iload (pc2 := 273) d_Mo_can_271 rfl rfl ?_
    refine um_callV1z (pc2 := 276) d_Mo_can_273 rfl g_Mo_142 rfl (Nat.le_of_ble_eq_true rfl) (Nat.le_of_ble_eq_true rfl) (Nat.le_of_ble_eq_true rfl) (c_Mo_isStatement h) (fun t2 σ1 h => ?_)
    refine um_if_eq (pc2 := 279) (tgt := 283) d_Mo_can_276 rfl rfl (fun z => ?_) (fun z => ?_)
    · replace h := h.1 (um_b0 z)
      refine um_iconst (pc2 := 284) (v := 0) d_Mo_can_283 rfl (by decide) ?_
      exact um_zret d_Mo_can_284 rfl (by decide) ⟨false, rfl, h⟩
    · replace h := h.2 (um_b1 z)
      refine um_iconst (pc2 := 280) (v := 1) d_Mo_can_279 rfl (by decide) ?_
      refine um_goto (tgt := 284) d_Mo_can_280 rfl ?_
      exact um_zret d_Mo_can_284 rfl (by decide) ⟨true, rfl, h⟩
set_option maxHeartbeats 4000000 in
set_option maxRecDepth 100000 in
theorem c_Mo_can {a1 : Int32} {a2 : Int32} {a3 : Int32} {a4 : Int32} {a5 : Int32} {σ : um_S} {Q : Bool → um_S → Prop} (h : wp_Mo_can a1 a2 a3 a4 a5 σ Q) : um_Con um_cl um_AW um_L um_SX 2 44 M_Mo_can [.ref 38, .int a1, .int a2, .int a3, .int a4, .int a5] σ (um_Qz Q) := by
  refine um_con (by decide) (Nat.le_of_ble_eq_true rfl) (fun v hv => by simp only [List.mem_cons, List.not_mem_nil, or_false] at hv; rcases hv with rfl | rfl | rfl | rfl | rfl | rfl <;> rfl) ?_
  show um_Ev um_cl um_AW um_L um_SX M_Mo_can 2 44 0 [some (.ref 38), some (.int a1), some (.int a2), some (.int a3), some (.int a4), some (.int a5)] [] σ (um_Qz Q)
  unfold wp_Mo_can at h
  refine um_iload_n (pc2 := 1) d_Mo_can_0 rfl rfl ?_
  by_cases z0 : a1 = 0
  · replace h := h.1 z0
    refine um_tableAt (tgt := 96) d_Mo_can_1 z0 (kk := 0) (by decide) (by decide) (by decide) rfl rfl ?_
    refine um_iconst (pc2 := 97) (v := 1) d_Mo_can_96 rfl (by decide) ?_
    exact um_zret d_Mo_can_97 rfl (by decide) ⟨true, rfl, h⟩
  replace h := h.2 z0
  by_cases z1 : a1 = 1
  · replace h := h.1 z1
    refine um_tableAt (tgt := 98) d_Mo_can_1 z1 (kk := 1) (by decide) (by decide) (by decide) rfl rfl ?_
    refine um_iload_n (pc2 := 99) d_Mo_can_98 rfl rfl ?_
    refine um_callS1z (pc2 := 102) d_Mo_can_99 rfl g_Mo_135 (Nat.le_of_ble_eq_true rfl) (Nat.le_of_ble_eq_true rfl) (Nat.le_of_ble_eq_true rfl) (c_Mo_isVariable h) (fun t2 σ1 h => ?_)
    exact um_zret d_Mo_can_102 rfl (um_b01 t2) ⟨t2, rfl, h⟩
  replace h := h.2 z1
  by_cases z2 : a1 = 2
  · replace h := h.1 z2
    refine um_tableAt (tgt := 103) d_Mo_can_1 z2 (kk := 2) (by decide) (by decide) (by decide) rfl rfl ?_
    refine um_aload_n (pc2 := 104) d_Mo_can_103 rfl rfl ?_
    refine um_iload_n (pc2 := 105) d_Mo_can_104 rfl rfl ?_
    refine um_callV1z (pc2 := 108) d_Mo_can_105 rfl g_Mo_139 rfl (Nat.le_of_ble_eq_true rfl) (Nat.le_of_ble_eq_true rfl) (Nat.le_of_ble_eq_true rfl) (c_Mo_isExpression h) (fun t4 σ3 h => ?_)
    refine um_if_eq (pc2 := 111) (tgt := 123) d_Mo_can_108 rfl rfl (fun z => ?_) (fun z => ?_)
    · replace h := h.1 (um_b0 z)
      refine um_iconst (pc2 := 124) (v := 0) d_Mo_can_123 rfl (by decide) ?_
      exact um_zret d_Mo_can_124 rfl (by decide) ⟨false, rfl, h⟩
    · replace h := h.2 (um_b1 z)
      refine um_aload_n (pc2 := 112) d_Mo_can_111 rfl rfl ?_
      refine um_iload_n (pc2 := 113) d_Mo_can_112 rfl rfl ?_
      refine um_callV1z (pc2 := 116) d_Mo_can_113 rfl g_Mo_139 rfl (Nat.le_of_ble_eq_true rfl) (Nat.le_of_ble_eq_true rfl) (Nat.le_of_ble_eq_true rfl) (c_Mo_isExpression h) (fun t6 σ5 h => ?_)
      refine um_if_eq (pc2 := 119) (tgt := 123) d_Mo_can_116 rfl rfl (fun z => ?_) (fun z => ?_)
      · replace h := h.1 (um_b0 z)
        refine um_iconst (pc2 := 124) (v := 0) d_Mo_can_123 rfl (by decide) ?_
        exact um_zret d_Mo_can_124 rfl (by decide) ⟨false, rfl, h⟩
      · replace h := h.2 (um_b1 z)
        refine um_iconst (pc2 := 120) (v := 1) d_Mo_can_119 rfl (by decide) ?_
        refine um_goto (tgt := 124) d_Mo_can_120 rfl ?_
        exact um_zret d_Mo_can_124 rfl (by decide) ⟨true, rfl, h⟩
  replace h := h.2 z2
  by_cases z3 : a1 = 3
  · replace h := h.1 z3
    refine um_tableAt (tgt := 103) d_Mo_can_1 z3 (kk := 3) (by decide) (by decide) (by decide) rfl rfl ?_
    refine um_aload_n (pc2 := 104) d_Mo_can_103 rfl rfl ?_
    refine um_iload_n (pc2 := 105) d_Mo_can_104 rfl rfl ?_
    refine um_callV1z (pc2 := 108) d_Mo_can_105 rfl g_Mo_139 rfl (Nat.le_of_ble_eq_true rfl) (Nat.le_of_ble_eq_true rfl) (Nat.le_of_ble_eq_true rfl) (c_Mo_isExpression h) (fun t8 σ7 h => ?_)
    refine um_if_eq (pc2 := 111) (tgt := 123) d_Mo_can_108 rfl rfl (fun z => ?_) (fun z => ?_)
    · replace h := h.1 (um_b0 z)
      refine um_iconst (pc2 := 124) (v := 0) d_Mo_can_123 rfl (by decide) ?_
      exact um_zret d_Mo_can_124 rfl (by decide) ⟨false, rfl, h⟩
    · replace h := h.2 (um_b1 z)
      refine um_aload_n (pc2 := 112) d_Mo_can_111 rfl rfl ?_
      refine um_iload_n (pc2 := 113) d_Mo_can_112 rfl rfl ?_
      refine um_callV1z (pc2 := 116) d_Mo_can_113 rfl g_Mo_139 rfl (Nat.le_of_ble_eq_true rfl) (Nat.le_of_ble_eq_true rfl) (Nat.le_of_ble_eq_true rfl) (c_Mo_isExpression h) (fun t10 σ9 h => ?_)
      refine um_if_eq (pc2 := 119) (tgt := 123) d_Mo_can_116 rfl rfl (fun z => ?_) (fun z => ?_)
      · replace h := h.1 (um_b0 z)
        refine um_iconst (pc2 := 124) (v := 0) d_Mo_can_123 rfl (by decide) ?_
        exact um_zret d_Mo_can_124 rfl (by decide) ⟨false, rfl, h⟩
      · replace h := h.2 (um_b1 z)
        refine um_iconst (pc2 := 120) (v := 1) d_Mo_can_119 rfl (by decide) ?_
        refine um_goto (tgt := 124) d_Mo_can_120 rfl ?_
        exact um_zret d_Mo_can_124 rfl (by decide) ⟨true, rfl, h⟩
  replace h := h.2 z3
  by_cases z4 : a1 = 4
  · replace h := h.1 z4
    refine um_tableAt (tgt := 103) d_Mo_can_1 z4 (kk := 4) (by decide) (by decide) (by decide) rfl rfl ?_
    refine um_aload_n (pc2 := 104) d_Mo_can_103 rfl rfl ?_
    refine um_iload_n (pc2 := 105) d_Mo_can_104 rfl rfl ?_
    refine um_callV1z (pc2 := 108) d_Mo_can_105 rfl g_Mo_139 rfl (Nat.le_of_ble_eq_true rfl) (Nat.le_of_ble_eq_true rfl) (Nat.le_of_ble_eq_true rfl) (c_Mo_isExpression h) (fun t12 σ11 h => ?_)
    refine um_if_eq (pc2 := 111) (tgt := 123) d_Mo_can_108 rfl rfl (fun z => ?_) (fun z => ?_)
    · replace h := h.1 (um_b0 z)
      refine um_iconst (pc2 := 124) (v := 0) d_Mo_can_123 rfl (by decide) ?_
      exact um_zret d_Mo_can_124 rfl (by decide) ⟨false, rfl, h⟩
    · replace h := h.2 (um_b1 z)
      refine um_aload_n (pc2 := 112) d_Mo_can_111 rfl rfl ?_
      refine um_iload_n (pc2 := 113) d_Mo_can_112 rfl rfl ?_
      refine um_callV1z (pc2 := 116) d_Mo_can_113 rfl g_Mo_139 rfl (Nat.le_of_ble_eq_true rfl) (Nat.le_of_ble_eq_true rfl) (Nat.le_of_ble_eq_true rfl) (c_Mo_isExpression h) (fun t14 σ13 h => ?_)
      refine um_if_eq (pc2 := 119) (tgt := 123) d_Mo_can_116 rfl rfl (fun z => ?_) (fun z => ?_)
      · replace h := h.1 (um_b0 z)
        refine um_iconst (pc2 := 124) (v := 0) d_Mo_can_123 rfl (by decide) ?_
        exact um_zret d_Mo_can_124 rfl (by decide) ⟨false, rfl, h⟩
      · replace h := h.2 (um_b1 z)
        refine um_iconst (pc2 := 120) (v := 1) d_Mo_can_119 rfl (by decide) ?_
        refine um_goto (tgt := 124) d_Mo_can_120 rfl ?_
        exact um_zret d_Mo_can_124 rfl (by decide) ⟨true, rfl, h⟩
  replace h := h.2 z4
  by_cases z5 : a1 = 5
  · replace h := h.1 z5
    refine um_tableAt (tgt := 103) d_Mo_can_1 z5 (kk := 5) (by decide) (by decide) (by decide) rfl rfl ?_
    refine um_aload_n (pc2 := 104) d_Mo_can_103 rfl rfl ?_
    refine um_iload_n (pc2 := 105) d_Mo_can_104 rfl rfl ?_
    refine um_callV1z (pc2 := 108) d_Mo_can_105 rfl g_Mo_139 rfl (Nat.le_of_ble_eq_true rfl) (Nat.le_of_ble_eq_true rfl) (Nat.le_of_ble_eq_true rfl) (c_Mo_isExpression h) (fun t16 σ15 h => ?_)
    refine um_if_eq (pc2 := 111) (tgt := 123) d_Mo_can_108 rfl rfl (fun z => ?_) (fun z => ?_)
    · replace h := h.1 (um_b0 z)
      refine um_iconst (pc2 := 124) (v := 0) d_Mo_can_123 rfl (by decide) ?_
      exact um_zret d_Mo_can_124 rfl (by decide) ⟨false, rfl, h⟩
    · replace h := h.2 (um_b1 z)
      refine um_aload_n (pc2 := 112) d_Mo_can_111 rfl rfl ?_
      refine um_iload_n (pc2 := 113) d_Mo_can_112 rfl rfl ?_
      refine um_callV1z (pc2 := 116) d_Mo_can_113 rfl g_Mo_139 rfl (Nat.le_of_ble_eq_true rfl) (Nat.le_of_ble_eq_true rfl) (Nat.le_of_ble_eq_true rfl) (c_Mo_isExpression h) (fun t18 σ17 h => ?_)
      refine um_if_eq (pc2 := 119) (tgt := 123) d_Mo_can_116 rfl rfl (fun z => ?_) (fun z => ?_)
      · replace h := h.1 (um_b0 z)
        refine um_iconst (pc2 := 124) (v := 0) d_Mo_can_123 rfl (by decide) ?_
        exact um_zret d_Mo_can_124 rfl (by decide) ⟨false, rfl, h⟩
      · replace h := h.2 (um_b1 z)
        refine um_iconst (pc2 := 120) (v := 1) d_Mo_can_119 rfl (by decide) ?_
        refine um_goto (tgt := 124) d_Mo_can_120 rfl ?_
        exact um_zret d_Mo_can_124 rfl (by decide) ⟨true, rfl, h⟩
  replace h := h.2 z5
  by_cases z6 : a1 = 6
  · replace h := h.1 z6
    refine um_tableAt (tgt := 103) d_Mo_can_1 z6 (kk := 6) (by decide) (by decide) (by decide) rfl rfl ?_
    refine um_aload_n (pc2 := 104) d_Mo_can_103 rfl rfl ?_
    refine um_iload_n (pc2 := 105) d_Mo_can_104 rfl rfl ?_
    refine um_callV1z (pc2 := 108) d_Mo_can_105 rfl g_Mo_139 rfl (Nat.le_of_ble_eq_true rfl) (Nat.le_of_ble_eq_true rfl) (Nat.le_of_ble_eq_true rfl) (c_Mo_isExpression h) (fun t20 σ19 h => ?_)
    refine um_if_eq (pc2 := 111) (tgt := 123) d_Mo_can_108 rfl rfl (fun z => ?_) (fun z => ?_)
    · replace h := h.1 (um_b0 z)
      refine um_iconst (pc2 := 124) (v := 0) d_Mo_can_123 rfl (by decide) ?_
      exact um_zret d_Mo_can_124 rfl (by decide) ⟨false, rfl, h⟩
    · replace h := h.2 (um_b1 z)
      refine um_aload_n (pc2 := 112) d_Mo_can_111 rfl rfl ?_
      refine um_iload_n (pc2 := 113) d_Mo_can_112 rfl rfl ?_
      refine um_callV1z (pc2 := 116) d_Mo_can_113 rfl g_Mo_139 rfl (Nat.le_of_ble_eq_true rfl) (Nat.le_of_ble_eq_true rfl) (Nat.le_of_ble_eq_true rfl) (c_Mo_isExpression h) (fun t22 σ21 h => ?_)
      refine um_if_eq (pc2 := 119) (tgt := 123) d_Mo_can_116 rfl rfl (fun z => ?_) (fun z => ?_)
      · replace h := h.1 (um_b0 z)
        refine um_iconst (pc2 := 124) (v := 0) d_Mo_can_123 rfl (by decide) ?_
        exact um_zret d_Mo_can_124 rfl (by decide) ⟨false, rfl, h⟩
      · replace h := h.2 (um_b1 z)
        refine um_iconst (pc2 := 120) (v := 1) d_Mo_can_119 rfl (by decide) ?_
        refine um_goto (tgt := 124) d_Mo_can_120 rfl ?_
        exact um_zret d_Mo_can_124 rfl (by decide) ⟨true, rfl, h⟩
  replace h := h.2 z6
  by_cases z7 : a1 = 7
  · replace h := h.1 z7
    refine um_tableAt (tgt := 103) d_Mo_can_1 z7 (kk := 7) (by decide) (by decide) (by decide) rfl rfl ?_
    refine um_aload_n (pc2 := 104) d_Mo_can_103 rfl rfl ?_
    refine um_iload_n (pc2 := 105) d_Mo_can_104 rfl rfl ?_
    refine um_callV1z (pc2 := 108) d_Mo_can_105 rfl g_Mo_139 rfl (Nat.le_of_ble_eq_true rfl) (Nat.le_of_ble_eq_true rfl) (Nat.le_of_ble_eq_true rfl) (c_Mo_isExpression h) (fun t24 σ23 h => ?_)
    refine um_if_eq (pc2 := 111) (tgt := 123) d_Mo_can_108 rfl rfl (fun z => ?_) (fun z => ?_)
    · replace h := h.1 (um_b0 z)
      refine um_iconst (pc2 := 124) (v := 0) d_Mo_can_123 rfl (by decide) ?_
      exact um_zret d_Mo_can_124 rfl (by decide) ⟨false, rfl, h⟩
    · replace h := h.2 (um_b1 z)
      refine um_aload_n (pc2 := 112) d_Mo_can_111 rfl rfl ?_
      refine um_iload_n (pc2 := 113) d_Mo_can_112 rfl rfl ?_
      refine um_callV1z (pc2 := 116) d_Mo_can_113 rfl g_Mo_139 rfl (Nat.le_of_ble_eq_true rfl) (Nat.le_of_ble_eq_true rfl) (Nat.le_of_ble_eq_true rfl) (c_Mo_isExpression h) (fun t26 σ25 h => ?_)
      refine um_if_eq (pc2 := 119) (tgt := 123) d_Mo_can_116 rfl rfl (fun z => ?_) (fun z => ?_)
      · replace h := h.1 (um_b0 z)
        refine um_iconst (pc2 := 124) (v := 0) d_Mo_can_123 rfl (by decide) ?_
        exact um_zret d_Mo_can_124 rfl (by decide) ⟨false, rfl, h⟩
      · replace h := h.2 (um_b1 z)
        refine um_iconst (pc2 := 120) (v := 1) d_Mo_can_119 rfl (by decide) ?_
        refine um_goto (tgt := 124) d_Mo_can_120 rfl ?_
        exact um_zret d_Mo_can_124 rfl (by decide) ⟨true, rfl, h⟩
  replace h := h.2 z7
  by_cases z8 : a1 = 8
  · replace h := h.1 z8
    refine um_tableAt (tgt := 96) d_Mo_can_1 z8 (kk := 8) (by decide) (by decide) (by decide) rfl rfl ?_
    refine um_iconst (pc2 := 97) (v := 1) d_Mo_can_96 rfl (by decide) ?_
    exact um_zret d_Mo_can_97 rfl (by decide) ⟨true, rfl, h⟩
  replace h := h.2 z8
  by_cases z9 : a1 = 9
  · replace h := h.1 z9
    refine um_tableAt (tgt := 125) d_Mo_can_1 z9 (kk := 9) (by decide) (by decide) (by decide) rfl rfl ?_
    refine um_iload_n (pc2 := 126) d_Mo_can_125 rfl rfl ?_
    refine um_callS1z (pc2 := 129) d_Mo_can_126 rfl g_Mo_135 (Nat.le_of_ble_eq_true rfl) (Nat.le_of_ble_eq_true rfl) (Nat.le_of_ble_eq_true rfl) (c_Mo_isVariable h) (fun t28 σ27 h => ?_)
    refine um_if_eq (pc2 := 132) (tgt := 144) d_Mo_can_129 rfl rfl (fun z => ?_) (fun z => ?_)
    · replace h := h.1 (um_b0 z)
      refine um_iconst (pc2 := 145) (v := 0) d_Mo_can_144 rfl (by decide) ?_
      exact um_zret d_Mo_can_145 rfl (by decide) ⟨false, rfl, h⟩
    · replace h := h.2 (um_b1 z)
      refine um_aload_n (pc2 := 133) d_Mo_can_132 rfl rfl ?_
      refine um_iload_n (pc2 := 134) d_Mo_can_133 rfl rfl ?_
      refine um_callV1z (pc2 := 137) d_Mo_can_134 rfl g_Mo_139 rfl (Nat.le_of_ble_eq_true rfl) (Nat.le_of_ble_eq_true rfl) (Nat.le_of_ble_eq_true rfl) (c_Mo_isExpression h) (fun t30 σ29 h => ?_)
      refine um_if_eq (pc2 := 140) (tgt := 144) d_Mo_can_137 rfl rfl (fun z => ?_) (fun z => ?_)
      · replace h := h.1 (um_b0 z)
        refine um_iconst (pc2 := 145) (v := 0) d_Mo_can_144 rfl (by decide) ?_
        exact um_zret d_Mo_can_145 rfl (by decide) ⟨false, rfl, h⟩
      · replace h := h.2 (um_b1 z)
        refine um_iconst (pc2 := 141) (v := 1) d_Mo_can_140 rfl (by decide) ?_
        refine um_goto (tgt := 145) d_Mo_can_141 rfl ?_
        exact um_zret d_Mo_can_145 rfl (by decide) ⟨true, rfl, h⟩
  replace h := h.2 z9
  by_cases z10 : a1 = 10
  · replace h := h.1 z10
    refine um_tableAt (tgt := 146) d_Mo_can_1 z10 (kk := 10) (by decide) (by decide) (by decide) rfl rfl ?_
    refine um_aload_n (pc2 := 147) d_Mo_can_146 rfl rfl ?_
    refine um_iload_n (pc2 := 148) d_Mo_can_147 rfl rfl ?_
    refine um_callV1z (pc2 := 151) d_Mo_can_148 rfl g_Mo_139 rfl (Nat.le_of_ble_eq_true rfl) (Nat.le_of_ble_eq_true rfl) (Nat.le_of_ble_eq_true rfl) (c_Mo_isExpression h) (fun t32 σ31 h => ?_)
    exact um_zret d_Mo_can_151 rfl (um_b01 t32) ⟨t32, rfl, h⟩
  replace h := h.2 z10
  by_cases z11 : a1 = 11
  · replace h := h.1 z11
    refine um_tableAt (tgt := 152) d_Mo_can_1 z11 (kk := 11) (by decide) (by decide) (by decide) rfl rfl ?_
    refine um_aload_n (pc2 := 153) d_Mo_can_152 rfl rfl ?_
    refine um_iload_n (pc2 := 154) d_Mo_can_153 rfl rfl ?_
    refine um_callV1z (pc2 := 157) d_Mo_can_154 rfl g_Mo_142 rfl (Nat.le_of_ble_eq_true rfl) (Nat.le_of_ble_eq_true rfl) (Nat.le_of_ble_eq_true rfl) (c_Mo_isStatement h) (fun t34 σ33 h => ?_)
    refine um_if_eq (pc2 := 160) (tgt := 172) d_Mo_can_157 rfl rfl (fun z => ?_) (fun z => ?_)
    · replace h := h.1 (um_b0 z)
      refine um_iconst (pc2 := 173) (v := 0) d_Mo_can_172 rfl (by decide) ?_
      exact um_zret d_Mo_can_173 rfl (by decide) ⟨false, rfl, h⟩
    · replace h := h.2 (um_b1 z)
      refine um_aload_n (pc2 := 161) d_Mo_can_160 rfl rfl ?_
      refine um_iload_n (pc2 := 162) d_Mo_can_161 rfl rfl ?_
      refine um_callV1z (pc2 := 165) d_Mo_can_162 rfl g_Mo_142 rfl (Nat.le_of_ble_eq_true rfl) (Nat.le_of_ble_eq_true rfl) (Nat.le_of_ble_eq_true rfl) (c_Mo_isStatement h) (fun t36 σ35 h => ?_)
      refine um_if_eq (pc2 := 168) (tgt := 172) d_Mo_can_165 rfl rfl (fun z => ?_) (fun z => ?_)
      · replace h := h.1 (um_b0 z)
        refine um_iconst (pc2 := 173) (v := 0) d_Mo_can_172 rfl (by decide) ?_
        exact um_zret d_Mo_can_173 rfl (by decide) ⟨false, rfl, h⟩
      · replace h := h.2 (um_b1 z)
        refine um_iconst (pc2 := 169) (v := 1) d_Mo_can_168 rfl (by decide) ?_
        refine um_goto (tgt := 173) d_Mo_can_169 rfl ?_
        exact um_zret d_Mo_can_173 rfl (by decide) ⟨true, rfl, h⟩
  replace h := h.2 z11
  by_cases z12 : a1 = 12
  · replace h := h.1 z12
    refine um_tableAt (tgt := 174) d_Mo_can_1 z12 (kk := 12) (by decide) (by decide) (by decide) rfl rfl ?_
    refine um_aload_n (pc2 := 175) d_Mo_can_174 rfl rfl ?_
    refine um_iload_n (pc2 := 176) d_Mo_can_175 rfl rfl ?_
    refine um_callV1z (pc2 := 179) d_Mo_can_176 rfl g_Mo_139 rfl (Nat.le_of_ble_eq_true rfl) (Nat.le_of_ble_eq_true rfl) (Nat.le_of_ble_eq_true rfl) (c_Mo_isExpression h) (fun t38 σ37 h => ?_)
    refine um_if_eq (pc2 := 182) (tgt := 203) d_Mo_can_179 rfl rfl (fun z => ?_) (fun z => ?_)
    · replace h := h.1 (um_b0 z)
      refine um_iconst (pc2 := 204) (v := 0) d_Mo_can_203 rfl (by decide) ?_
      exact um_zret d_Mo_can_204 rfl (by decide) ⟨false, rfl, h⟩
    · replace h := h.2 (um_b1 z)
      refine um_aload_n (pc2 := 183) d_Mo_can_182 rfl rfl ?_
      refine um_iload_n (pc2 := 184) d_Mo_can_183 rfl rfl ?_
      refine um_callV1z (pc2 := 187) d_Mo_can_184 rfl g_Mo_142 rfl (Nat.le_of_ble_eq_true rfl) (Nat.le_of_ble_eq_true rfl) (Nat.le_of_ble_eq_true rfl) (c_Mo_isStatement h) (fun t40 σ39 h => ?_)
      refine um_if_eq (pc2 := 190) (tgt := 203) d_Mo_can_187 rfl rfl (fun z => ?_) (fun z => ?_)
      · replace h := h.1 (um_b0 z)
        refine um_iconst (pc2 := 204) (v := 0) d_Mo_can_203 rfl (by decide) ?_
        exact um_zret d_Mo_can_204 rfl (by decide) ⟨false, rfl, h⟩
      · replace h := h.2 (um_b1 z)
        refine um_aload_n (pc2 := 191) d_Mo_can_190 rfl rfl ?_
        refine um_iload (pc2 := 193) d_Mo_can_191 rfl rfl ?_
        refine um_callV1z (pc2 := 196) d_Mo_can_193 rfl g_Mo_142 rfl (Nat.le_of_ble_eq_true rfl) (Nat.le_of_ble_eq_true rfl) (Nat.le_of_ble_eq_true rfl) (c_Mo_isStatement h) (fun t42 σ41 h => ?_)
        refine um_if_eq (pc2 := 199) (tgt := 203) d_Mo_can_196 rfl rfl (fun z => ?_) (fun z => ?_)
        · replace h := h.1 (um_b0 z)
          refine um_iconst (pc2 := 204) (v := 0) d_Mo_can_203 rfl (by decide) ?_
          exact um_zret d_Mo_can_204 rfl (by decide) ⟨false, rfl, h⟩
        · replace h := h.2 (um_b1 z)
          refine um_iconst (pc2 := 200) (v := 1) d_Mo_can_199 rfl (by decide) ?_
          refine um_goto (tgt := 204) d_Mo_can_200 rfl ?_
          exact um_zret d_Mo_can_204 rfl (by decide) ⟨true, rfl, h⟩
  replace h := h.2 z12
  by_cases z13 : a1 = 13
  · replace h := h.1 z13
    refine um_tableAt (tgt := 205) d_Mo_can_1 z13 (kk := 13) (by decide) (by decide) (by decide) rfl rfl ?_
    refine um_aload_n (pc2 := 206) d_Mo_can_205 rfl rfl ?_
    refine um_iload_n (pc2 := 207) d_Mo_can_206 rfl rfl ?_
    refine um_callV1z (pc2 := 210) d_Mo_can_207 rfl g_Mo_139 rfl (Nat.le_of_ble_eq_true rfl) (Nat.le_of_ble_eq_true rfl) (Nat.le_of_ble_eq_true rfl) (c_Mo_isExpression h) (fun t44 σ43 h => ?_)
    refine um_if_eq (pc2 := 213) (tgt := 225) d_Mo_can_210 rfl rfl (fun z => ?_) (fun z => ?_)
    · replace h := h.1 (um_b0 z)
      refine um_iconst (pc2 := 226) (v := 0) d_Mo_can_225 rfl (by decide) ?_
      exact um_zret d_Mo_can_226 rfl (by decide) ⟨false, rfl, h⟩
    · replace h := h.2 (um_b1 z)
      refine um_aload_n (pc2 := 214) d_Mo_can_213 rfl rfl ?_
      refine um_iload_n (pc2 := 215) d_Mo_can_214 rfl rfl ?_
      refine um_callV1z (pc2 := 218) d_Mo_can_215 rfl g_Mo_142 rfl (Nat.le_of_ble_eq_true rfl) (Nat.le_of_ble_eq_true rfl) (Nat.le_of_ble_eq_true rfl) (c_Mo_isStatement h) (fun t46 σ45 h => ?_)
      refine um_if_eq (pc2 := 221) (tgt := 225) d_Mo_can_218 rfl rfl (fun z => ?_) (fun z => ?_)
      · replace h := h.1 (um_b0 z)
        refine um_iconst (pc2 := 226) (v := 0) d_Mo_can_225 rfl (by decide) ?_
        exact um_zret d_Mo_can_226 rfl (by decide) ⟨false, rfl, h⟩
      · replace h := h.2 (um_b1 z)
        refine um_iconst (pc2 := 222) (v := 1) d_Mo_can_221 rfl (by decide) ?_
        refine um_goto (tgt := 226) d_Mo_can_222 rfl ?_
        exact um_zret d_Mo_can_226 rfl (by decide) ⟨true, rfl, h⟩
  replace h := h.2 z13
  by_cases z14 : a1 = 14
  · replace h := h.1 z14
    refine um_tableAt (tgt := 146) d_Mo_can_1 z14 (kk := 14) (by decide) (by decide) (by decide) rfl rfl ?_
    refine um_aload_n (pc2 := 147) d_Mo_can_146 rfl rfl ?_
    refine um_iload_n (pc2 := 148) d_Mo_can_147 rfl rfl ?_
    refine um_callV1z (pc2 := 151) d_Mo_can_148 rfl g_Mo_139 rfl (Nat.le_of_ble_eq_true rfl) (Nat.le_of_ble_eq_true rfl) (Nat.le_of_ble_eq_true rfl) (c_Mo_isExpression h) (fun t48 σ47 h => ?_)
    exact um_zret d_Mo_can_151 rfl (um_b01 t48) ⟨t48, rfl, h⟩
  replace h := h.2 z14
  by_cases z15 : a1 = 15
  · replace h := h.1 z15
    refine um_tableAt (tgt := 227) d_Mo_can_1 z15 (kk := 15) (by decide) (by decide) (by decide) rfl rfl ?_
    refine um_iload_n (pc2 := 228) d_Mo_can_227 rfl rfl ?_
    refine um_if_lt (pc2 := 231) (tgt := 241) d_Mo_can_228 rfl rfl (fun z => ?_) (fun z => ?_)
    · replace h := h.1 z
      refine um_iconst (pc2 := 242) (v := 0) d_Mo_can_241 rfl (by decide) ?_
      exact um_zret d_Mo_can_242 rfl (by decide) ⟨false, rfl, h⟩
    · replace h := h.2 z
      refine um_iload_n (pc2 := 232) d_Mo_can_231 rfl rfl ?_
      refine um_bipush (pc2 := 234) (v := 6) d_Mo_can_232 rfl (by decide) ?_
      refine um_icmp_ge (pc2 := 237) (tgt := 241) d_Mo_can_234 rfl rfl (fun z => ?_) (fun z => ?_)
      · replace h := h.1 z
        refine um_iconst (pc2 := 242) (v := 0) d_Mo_can_241 rfl (by decide) ?_
        exact um_zret d_Mo_can_242 rfl (by decide) ⟨false, rfl, h⟩
      · replace h := h.2 z
        refine um_iconst (pc2 := 238) (v := 1) d_Mo_can_237 rfl (by decide) ?_
        refine um_goto (tgt := 242) d_Mo_can_238 rfl ?_
        exact um_zret d_Mo_can_242 rfl (by decide) ⟨true, rfl, h⟩
  replace h := h.2 z15
  by_cases z16 : a1 = 16
  · replace h := h.1 z16
    refine um_tableAt (tgt := 96) d_Mo_can_1 z16 (kk := 16) (by decide) (by decide) (by decide) rfl rfl ?_
    refine um_iconst (pc2 := 97) (v := 1) d_Mo_can_96 rfl (by decide) ?_
    exact um_zret d_Mo_can_97 rfl (by decide) ⟨true, rfl, h⟩
  replace h := h.2 z16
  by_cases z17 : a1 = 17
  · replace h := h.1 z17
    refine um_tableAt (tgt := 96) d_Mo_can_1 z17 (kk := 17) (by decide) (by decide) (by decide) rfl rfl ?_
    refine um_iconst (pc2 := 97) (v := 1) d_Mo_can_96 rfl (by decide) ?_
    exact um_zret d_Mo_can_97 rfl (by decide) ⟨true, rfl, h⟩
  replace h := h.2 z17
  by_cases z18 : a1 = 18
  · replace h := h.1 z18
    refine um_tableAt (tgt := 243) d_Mo_can_1 z18 (kk := 18) (by decide) (by decide) (by decide) rfl rfl ?_
    refine um_aload_n (pc2 := 244) d_Mo_can_243 rfl rfl ?_
    refine um_iload_n (pc2 := 245) d_Mo_can_244 rfl rfl ?_
    refine um_callV1z (pc2 := 248) d_Mo_can_245 rfl g_Mo_142 rfl (Nat.le_of_ble_eq_true rfl) (Nat.le_of_ble_eq_true rfl) (Nat.le_of_ble_eq_true rfl) (c_Mo_isStatement h) (fun t50 σ49 h => ?_)
    refine um_if_eq (pc2 := 251) (tgt := 283) d_Mo_can_248 rfl rfl (fun z => ?_) (fun z => ?_)
    · replace h := h.1 (um_b0 z)
      refine um_iconst (pc2 := 284) (v := 0) d_Mo_can_283 rfl (by decide) ?_
      exact um_zret d_Mo_can_284 rfl (by decide) ⟨false, rfl, h⟩
    · replace h := h.2 (um_b1 z)
      refine um_iload_n (pc2 := 252) d_Mo_can_251 rfl rfl ?_
      refine um_iconst (pc2 := 253) (v := (-1)) d_Mo_can_252 rfl (by decide) ?_
      refine um_icmp_eq (pc2 := 256) (tgt := 264) d_Mo_can_253 rfl rfl (fun z => ?_) (fun z => ?_)
      · replace h := h.1 z
        refine um_forget [true, false, false, false, true, false] rfl ?_
        exact b_Mo_can_264 h
      · replace h := h.2 z
        refine um_aload_n (pc2 := 257) d_Mo_can_256 rfl rfl ?_
        refine um_iload_n (pc2 := 258) d_Mo_can_257 rfl rfl ?_
        refine um_callV1z (pc2 := 261) d_Mo_can_258 rfl g_Mo_145 rfl (Nat.le_of_ble_eq_true rfl) (Nat.le_of_ble_eq_true rfl) (Nat.le_of_ble_eq_true rfl) (c_Mo_isCatch h) (fun t52 σ51 h => ?_)
        refine um_if_eq (pc2 := 264) (tgt := 283) d_Mo_can_261 rfl rfl (fun z => ?_) (fun z => ?_)
        · replace h := h.1 (um_b0 z)
          refine um_iconst (pc2 := 284) (v := 0) d_Mo_can_283 rfl (by decide) ?_
          exact um_zret d_Mo_can_284 rfl (by decide) ⟨false, rfl, h⟩
        · replace h := h.2 (um_b1 z)
          refine um_forget [true, false, false, false, true, false] rfl ?_
          exact b_Mo_can_264 h
  replace h := h.2 z18
  by_cases z19 : a1 = 19
  · replace h := h.1 z19
    refine um_tableAt (tgt := 285) d_Mo_can_1 z19 (kk := 19) (by decide) (by decide) (by decide) rfl rfl ?_
    refine um_iload (pc2 := 287) d_Mo_can_285 rfl rfl ?_
    refine um_callS1z (pc2 := 290) d_Mo_can_287 rfl g_Mo_135 (Nat.le_of_ble_eq_true rfl) (Nat.le_of_ble_eq_true rfl) (Nat.le_of_ble_eq_true rfl) (c_Mo_isVariable h) (fun t54 σ53 h => ?_)
    refine um_if_eq (pc2 := 293) (tgt := 306) d_Mo_can_290 rfl rfl (fun z => ?_) (fun z => ?_)
    · replace h := h.1 (um_b0 z)
      refine um_iconst (pc2 := 307) (v := 0) d_Mo_can_306 rfl (by decide) ?_
      exact um_zret d_Mo_can_307 rfl (by decide) ⟨false, rfl, h⟩
    · replace h := h.2 (um_b1 z)
      refine um_aload_n (pc2 := 294) d_Mo_can_293 rfl rfl ?_
      refine um_iload (pc2 := 296) d_Mo_can_294 rfl rfl ?_
      refine um_callV1z (pc2 := 299) d_Mo_can_296 rfl g_Mo_142 rfl (Nat.le_of_ble_eq_true rfl) (Nat.le_of_ble_eq_true rfl) (Nat.le_of_ble_eq_true rfl) (c_Mo_isStatement h) (fun t56 σ55 h => ?_)
      refine um_if_eq (pc2 := 302) (tgt := 306) d_Mo_can_299 rfl rfl (fun z => ?_) (fun z => ?_)
      · replace h := h.1 (um_b0 z)
        refine um_iconst (pc2 := 307) (v := 0) d_Mo_can_306 rfl (by decide) ?_
        exact um_zret d_Mo_can_307 rfl (by decide) ⟨false, rfl, h⟩
      · replace h := h.2 (um_b1 z)
        refine um_iconst (pc2 := 303) (v := 1) d_Mo_can_302 rfl (by decide) ?_
        refine um_goto (tgt := 307) d_Mo_can_303 rfl ?_
        exact um_zret d_Mo_can_307 rfl (by decide) ⟨true, rfl, h⟩
  replace h := h.2 z19
  have hE : um_Ev um_cl um_AW um_L um_SX M_Mo_can 2 44 308 [some (.ref 38), some (.int a1), some (.int a2), some (.int a3), some (.int a4), some (.int a5)] [] σ (um_Qz Q) := by
    refine um_iconst (pc2 := 309) (v := 0) d_Mo_can_308 rfl (by decide) ?_
    exact um_zret d_Mo_can_309 rfl (by decide) ⟨false, rfl, h⟩
  exact um_tableOut (tgt := 308) d_Mo_can_1 (by have := um_toInt_ne (kk := 0) z0 (by decide); have := um_toInt_ne (kk := 1) z1 (by decide); have := um_toInt_ne (kk := 2) z2 (by decide); have := um_toInt_ne (kk := 3) z3 (by decide); have := um_toInt_ne (kk := 4) z4 (by decide); have := um_toInt_ne (kk := 5) z5 (by decide); have := um_toInt_ne (kk := 6) z6 (by decide); have := um_toInt_ne (kk := 7) z7 (by decide); have := um_toInt_ne (kk := 8) z8 (by decide); have := um_toInt_ne (kk := 9) z9 (by decide); have := um_toInt_ne (kk := 10) z10 (by decide); have := um_toInt_ne (kk := 11) z11 (by decide); have := um_toInt_ne (kk := 12) z12 (by decide); have := um_toInt_ne (kk := 13) z13 (by decide); have := um_toInt_ne (kk := 14) z14 (by decide); have := um_toInt_ne (kk := 15) z15 (by decide); have := um_toInt_ne (kk := 16) z16 (by decide); have := um_toInt_ne (kk := 17) z17 (by decide); have := um_toInt_ne (kk := 18) z18 (by decide); have := um_toInt_ne (kk := 19) z19 (by decide); omega) rfl hE
def wp_Mo_adds (a1 : Int32) (a2 : Int32) (a3 : Int32) (a4 : Int32) (a5 : Int32) (σ : um_S) (Q : Int32 → um_S → Prop) : Prop :=
  vp_in (σ 38 1) 150 ∧ ∀ σ1 : um_S, σ1 = um_up σ 39 (σ 38 1).toNatClampNeg a1 → vp_in (σ1 38 1) 150 ∧ ∀ σ2 : um_S, σ2 = um_up σ1 40 (σ1 38 1).toNatClampNeg a2 → vp_in (σ2 38 1) 150 ∧ ∀ σ3 : um_S, σ3 = um_up σ2 41 (σ2 38 1).toNatClampNeg a3 → vp_in (σ3 38 1) 150 ∧ ∀ σ4 : um_S, σ4 = um_up σ3 42 (σ3 38 1).toNatClampNeg a4 → vp_in (σ4 38 1) 150 ∧ ∀ σ5 : um_S, σ5 = um_up σ4 43 (σ4 38 1).toNatClampNeg a5 → ∀ σ6 : um_S, σ6 = um_up σ5 38 1 ((σ5 38 1) + 1) → Q ((σ6 38 1) - 1) σ6
set_option maxHeartbeats 4000000 in
set_option maxRecDepth 100000 in
theorem c_Mo_adds {a1 : Int32} {a2 : Int32} {a3 : Int32} {a4 : Int32} {a5 : Int32} {σ : um_S} {Q : Int32 → um_S → Prop} (h : wp_Mo_adds a1 a2 a3 a4 a5 σ Q) : um_Con um_cl um_AW um_L um_SX 0 0 M_Mo_adds [.ref 38, .int a1, .int a2, .int a3, .int a4, .int a5] σ (um_Qi Q) := by
  refine um_con (by decide) (Nat.le_of_ble_eq_true rfl) (fun v hv => by simp only [List.mem_cons, List.not_mem_nil, or_false] at hv; rcases hv with rfl | rfl | rfl | rfl | rfl | rfl <;> rfl) ?_
  show um_Ev um_cl um_AW um_L um_SX M_Mo_adds 0 0 0 [some (.ref 38), some (.int a1), some (.int a2), some (.int a3), some (.int a4), some (.int a5)] [] σ (um_Qi Q)
  unfold wp_Mo_adds at h
  refine um_aload_n (pc2 := 1) d_Mo_adds_0 rfl rfl ?_
  refine um_getR (pc2 := 4) d_Mo_adds_1 rfl f_Mo_7 rfl rfl ?_
  refine um_aload_n (pc2 := 5) d_Mo_adds_4 rfl rfl ?_
  refine um_getI (pc2 := 8) d_Mo_adds_5 rfl f_Mo_128 rfl rfl ?_
  refine um_iload_n (pc2 := 9) d_Mo_adds_8 rfl rfl ?_
  refine um_iast (pc2 := 10) d_Mo_adds_9 rfl rfl h.1 rfl (um_gen (fun σ1 eσ1 => ?_))
  replace h := h.2 σ1 eσ1
  refine um_aload_n (pc2 := 11) d_Mo_adds_10 rfl rfl ?_
  refine um_getR (pc2 := 14) d_Mo_adds_11 rfl f_Mo_13 rfl rfl ?_
  refine um_aload_n (pc2 := 15) d_Mo_adds_14 rfl rfl ?_
  refine um_getI (pc2 := 18) d_Mo_adds_15 rfl f_Mo_128 rfl rfl ?_
  refine um_iload_n (pc2 := 19) d_Mo_adds_18 rfl rfl ?_
  refine um_iast (pc2 := 20) d_Mo_adds_19 rfl rfl h.1 rfl (um_gen (fun σ2 eσ2 => ?_))
  replace h := h.2 σ2 eσ2
  refine um_aload_n (pc2 := 21) d_Mo_adds_20 rfl rfl ?_
  refine um_getR (pc2 := 24) d_Mo_adds_21 rfl f_Mo_16 rfl rfl ?_
  refine um_aload_n (pc2 := 25) d_Mo_adds_24 rfl rfl ?_
  refine um_getI (pc2 := 28) d_Mo_adds_25 rfl f_Mo_128 rfl rfl ?_
  refine um_iload_n (pc2 := 29) d_Mo_adds_28 rfl rfl ?_
  refine um_iast (pc2 := 30) d_Mo_adds_29 rfl rfl h.1 rfl (um_gen (fun σ3 eσ3 => ?_))
  replace h := h.2 σ3 eσ3
  refine um_aload_n (pc2 := 31) d_Mo_adds_30 rfl rfl ?_
  refine um_getR (pc2 := 34) d_Mo_adds_31 rfl f_Mo_19 rfl rfl ?_
  refine um_aload_n (pc2 := 35) d_Mo_adds_34 rfl rfl ?_
  refine um_getI (pc2 := 38) d_Mo_adds_35 rfl f_Mo_128 rfl rfl ?_
  refine um_iload (pc2 := 40) d_Mo_adds_38 rfl rfl ?_
  refine um_iast (pc2 := 41) d_Mo_adds_40 rfl rfl h.1 rfl (um_gen (fun σ4 eσ4 => ?_))
  replace h := h.2 σ4 eσ4
  refine um_aload_n (pc2 := 42) d_Mo_adds_41 rfl rfl ?_
  refine um_getR (pc2 := 45) d_Mo_adds_42 rfl f_Mo_22 rfl rfl ?_
  refine um_aload_n (pc2 := 46) d_Mo_adds_45 rfl rfl ?_
  refine um_getI (pc2 := 49) d_Mo_adds_46 rfl f_Mo_128 rfl rfl ?_
  refine um_iload (pc2 := 51) d_Mo_adds_49 rfl rfl ?_
  refine um_iast (pc2 := 52) d_Mo_adds_51 rfl rfl h.1 rfl (um_gen (fun σ5 eσ5 => ?_))
  replace h := h.2 σ5 eσ5
  refine um_aload_n (pc2 := 53) d_Mo_adds_52 rfl rfl ?_
  refine um_dup (pc2 := 54) d_Mo_adds_53 rfl rfl ?_
  refine um_getI (pc2 := 57) d_Mo_adds_54 rfl f_Mo_128 rfl rfl ?_
  refine um_iconst (pc2 := 58) (v := 1) d_Mo_adds_57 rfl (by decide) ?_
  refine um_iadd (pc2 := 59) d_Mo_adds_58 rfl ?_
  refine um_putI (pc2 := 62) d_Mo_adds_59 rfl fw_Mo_128 rfl rfl (um_gen (fun σ6 eσ6 => ?_))
  replace h := h σ6 eσ6
  refine um_aload_n (pc2 := 63) d_Mo_adds_62 rfl rfl ?_
  refine um_getI (pc2 := 66) d_Mo_adds_63 rfl f_Mo_128 rfl rfl ?_
  refine um_iconst (pc2 := 67) (v := 1) d_Mo_adds_66 rfl (by decide) ?_
  refine um_isub (pc2 := 68) d_Mo_adds_67 rfl ?_
  exact um_iret d_Mo_adds_68 rfl ⟨_, rfl, h⟩
def wp_Mo_node (a1 : Int32) (a2 : Int32) (a3 : Int32) (a4 : Int32) (a5 : Int32) (σ : um_S) (Q : Int32 → um_S → Prop) : Prop :=
  ∀ σ1 : um_S, σ1 = um_up σ 38 0 0 → ((σ1 38 1) = 150 → Q (-1) σ1) ∧ (¬ (σ1 38 1) = 150 → wp_Mo_can a1 a2 a3 a4 a5 σ1 (fun t3 σ2 => (t3 = true → wp_Mo_adds a1 a2 a3 a4 a5 σ2 (fun x5 σ4 => Q x5 σ4)) ∧ (t3 = false → Q (-1) σ2)))
set_option maxHeartbeats 4000000 in
set_option maxRecDepth 100000 in
theorem c_Mo_node {a1 : Int32} {a2 : Int32} {a3 : Int32} {a4 : Int32} {a5 : Int32} {σ : um_S} {Q : Int32 → um_S → Prop} (h : wp_Mo_node a1 a2 a3 a4 a5 σ Q) : um_Con um_cl um_AW um_L um_SX 3 69 M_Mo_node [.ref 38, .int a1, .int a2, .int a3, .int a4, .int a5] σ (um_Qi Q) := by
  refine um_con (by decide) (Nat.le_of_ble_eq_true rfl) (fun v hv => by simp only [List.mem_cons, List.not_mem_nil, or_false] at hv; rcases hv with rfl | rfl | rfl | rfl | rfl | rfl <;> rfl) ?_
  show um_Ev um_cl um_AW um_L um_SX M_Mo_node 3 69 0 [some (.ref 38), some (.int a1), some (.int a2), some (.int a3), some (.int a4), some (.int a5)] [] σ (um_Qi Q)
  unfold wp_Mo_node at h
  refine um_aload_n (pc2 := 1) d_Mo_node_0 rfl rfl ?_
  refine um_iconst (pc2 := 2) (v := 0) d_Mo_node_1 rfl (by decide) ?_
  refine um_putI (pc2 := 5) d_Mo_node_2 rfl fw_Mo_125 rfl rfl (um_gen (fun σ1 eσ1 => ?_))
  replace h := h σ1 eσ1
  refine um_aload_n (pc2 := 6) d_Mo_node_5 rfl rfl ?_
  refine um_getI (pc2 := 9) d_Mo_node_6 rfl f_Mo_128 rfl rfl ?_
  refine um_sipush (pc2 := 12) (v := 150) d_Mo_node_9 rfl (by decide) ?_
  refine um_icmp_eq (pc2 := 15) (tgt := 29) d_Mo_node_12 rfl rfl (fun z => ?_) (fun z => ?_)
  · replace h := h.1 z
    refine um_iconst (pc2 := 30) (v := (-1)) d_Mo_node_29 rfl (by decide) ?_
    refine um_goto (tgt := 44) d_Mo_node_30 rfl ?_
    exact um_iret d_Mo_node_44 rfl ⟨_, rfl, h⟩
  · replace h := h.2 z
    refine um_aload_n (pc2 := 16) d_Mo_node_15 rfl rfl ?_
    refine um_iload_n (pc2 := 17) d_Mo_node_16 rfl rfl ?_
    refine um_iload_n (pc2 := 18) d_Mo_node_17 rfl rfl ?_
    refine um_iload_n (pc2 := 19) d_Mo_node_18 rfl rfl ?_
    refine um_iload (pc2 := 21) d_Mo_node_19 rfl rfl ?_
    refine um_iload (pc2 := 23) d_Mo_node_21 rfl rfl ?_
    refine um_callV5z (pc2 := 26) d_Mo_node_23 rfl g_Mo_148 rfl (Nat.le_of_ble_eq_true rfl) (Nat.le_of_ble_eq_true rfl) (Nat.le_of_ble_eq_true rfl) (c_Mo_can h) (fun t3 σ2 h => ?_)
    refine um_if_ne (pc2 := 29) (tgt := 33) d_Mo_node_26 rfl rfl (fun z => ?_) (fun z => ?_)
    · replace h := h.1 (um_b1 z)
      refine um_aload_n (pc2 := 34) d_Mo_node_33 rfl rfl ?_
      refine um_iload_n (pc2 := 35) d_Mo_node_34 rfl rfl ?_
      refine um_iload_n (pc2 := 36) d_Mo_node_35 rfl rfl ?_
      refine um_iload_n (pc2 := 37) d_Mo_node_36 rfl rfl ?_
      refine um_iload (pc2 := 39) d_Mo_node_37 rfl rfl ?_
      refine um_iload (pc2 := 41) d_Mo_node_39 rfl rfl ?_
      refine um_callV5i (pc2 := 44) d_Mo_node_41 rfl g_Mo_152 rfl (Nat.le_of_ble_eq_true rfl) (Nat.le_of_ble_eq_true rfl) (Nat.le_of_ble_eq_true rfl) (c_Mo_adds h) (fun x5 σ4 h => ?_)
      exact um_iret d_Mo_node_44 rfl ⟨_, rfl, h⟩
    · replace h := h.2 (um_b0 z)
      refine um_iconst (pc2 := 30) (v := (-1)) d_Mo_node_29 rfl (by decide) ?_
      refine um_goto (tgt := 44) d_Mo_node_30 rfl ?_
      exact um_iret d_Mo_node_44 rfl ⟨_, rfl, h⟩
