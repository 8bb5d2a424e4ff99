def wp_Mo_returns (σ : um_S) (Q : um_S → Prop) : Prop :=
  ∀ σ1 : um_S, σ1 = um_up σ 38 53 ((σ 38 53) - 1) → (¬ (σ1 38 53) = 0 → vp_in ((σ1 38 53) - 1) 12 ∧ vp_in ((σ1 38 53) - 1) 12 ∧ ∀ σ2 : um_S, σ2 = um_up σ1 72 ((σ1 38 53) - 1).toNatClampNeg ((σ1 72 ((σ1 38 53) - 1).toNatClampNeg) + 1) → Q σ2) ∧ ((σ1 38 53) = 0 → ∀ σ3 : um_S, σ3 = um_up σ1 38 46 1 → Q σ3)
set_option maxHeartbeats 4000000 in
set_option maxRecDepth 100000 in
theorem c_Mo_returns {σ : um_S} {Q : um_S → Prop} (h : wp_Mo_returns σ Q) : um_Con um_cl um_AW um_L um_SX 0 0 M_Mo_returns [.ref 38] σ (um_Qv Q) := by
  refine um_con (by decide) (Nat.le_of_ble_eq_true rfl) (fun v hv => by simp only [List.mem_cons, List.not_mem_nil, or_false] at hv; rcases hv with rfl <;> rfl) ?_
  show um_Ev um_cl um_AW um_L um_SX M_Mo_returns 0 0 0 [some (.ref 38)] [] σ (um_Qv Q)
  unfold wp_Mo_returns at h
  refine um_aload_n (pc2 := 1) d_Mo_returns_0 rfl rfl ?_
  refine um_dup (pc2 := 2) d_Mo_returns_1 rfl rfl ?_
  refine um_getI (pc2 := 5) d_Mo_returns_2 rfl f_Mo_275 rfl rfl ?_
  refine um_iconst (pc2 := 6) (v := 1) d_Mo_returns_5 rfl (by decide) ?_
  refine um_isub (pc2 := 7) d_Mo_returns_6 rfl ?_
  refine um_putI (pc2 := 10) d_Mo_returns_7 rfl fw_Mo_275 rfl rfl (um_gen (fun σ1 eσ1 => ?_))
  replace h := h σ1 eσ1
  refine um_aload_n (pc2 := 11) d_Mo_returns_10 rfl rfl ?_
  refine um_getI (pc2 := 14) d_Mo_returns_11 rfl f_Mo_275 rfl rfl ?_
  refine um_if_ne (pc2 := 17) (tgt := 25) d_Mo_returns_14 rfl rfl (fun z => ?_) (fun z => ?_)
  · replace h := h.1 z
    refine um_aload_n (pc2 := 26) d_Mo_returns_25 rfl rfl ?_
    refine um_getR (pc2 := 29) d_Mo_returns_26 rfl f_Mo_113 rfl rfl ?_
    refine um_aload_n (pc2 := 30) d_Mo_returns_29 rfl rfl ?_
    refine um_getI (pc2 := 33) d_Mo_returns_30 rfl f_Mo_275 rfl rfl ?_
    refine um_iconst (pc2 := 34) (v := 1) d_Mo_returns_33 rfl (by decide) ?_
    refine um_isub (pc2 := 35) d_Mo_returns_34 rfl ?_
    refine um_dup2 (pc2 := 36) d_Mo_returns_35 rfl rfl rfl ?_
    refine um_iald (pc2 := 37) d_Mo_returns_36 rfl rfl h.1 rfl ?_
    replace h := h.2
    refine um_iconst (pc2 := 38) (v := 1) d_Mo_returns_37 rfl (by decide) ?_
    refine um_iadd (pc2 := 39) d_Mo_returns_38 rfl ?_
    refine um_iast (pc2 := 40) d_Mo_returns_39 rfl rfl h.1 rfl (um_gen (fun σ2 eσ2 => ?_))
    replace h := h.2 σ2 eσ2
    exact um_vret d_Mo_returns_40 rfl ⟨rfl, h⟩
  · replace h := h.2 z
    refine um_aload_n (pc2 := 18) d_Mo_returns_17 rfl rfl ?_
    refine um_iconst (pc2 := 19) (v := 1) d_Mo_returns_18 rfl (by decide) ?_
    refine um_putI (pc2 := 22) d_Mo_returns_19 rfl fw_Mo_106 rfl rfl (um_gen (fun σ3 eσ3 => ?_))
    replace h := h σ3 eσ3
    refine um_goto (tgt := 40) d_Mo_returns_22 rfl ?_
    exact um_vret d_Mo_returns_40 rfl ⟨rfl, h⟩
def wp_Mo_worked (a0 : Int32) (a1 : Int32) (a2 : Int32) (σ : um_S) (Q : Int32 → um_S → Prop) : Prop :=
  (a0 = 2 → Q (a1 + a2) σ) ∧ (¬ a0 = 2 → (a0 = 3 → Q (a1 - a2) σ) ∧ (¬ a0 = 3 → (a0 = 4 → Q (a1 * a2) σ) ∧ (¬ a0 = 4 → (a0 = 5 → (¬ a2 = (-1) → ¬ a2 = 0 ∧ Q (a1 / a2) σ) ∧ (a2 = (-1) → Q (-a1) σ)) ∧ (¬ a0 = 5 → (a0 = 6 → (a2 ≤ a1 → Q 0 σ) ∧ (¬ a2 ≤ a1 → Q 1 σ)) ∧ (¬ a0 = 6 → (¬ a1 = a2 → Q 0 σ) ∧ (a1 = a2 → Q 1 σ))))))
set_option maxHeartbeats 4000000 in
set_option maxRecDepth 100000 in
theorem c_Mo_worked {a0 : Int32} {a1 : Int32} {a2 : Int32} {σ : um_S} {Q : Int32 → um_S → Prop} (h : wp_Mo_worked a0 a1 a2 σ Q) : um_Con um_cl um_AW um_L um_SX 0 0 M_Mo_worked [.int a0, .int a1, .int a2] σ (um_Qi Q) := by
  refine um_con (by decide) (Nat.le_of_ble_eq_true rfl) (fun v hv => by simp only [List.mem_cons, List.not_mem_nil, or_false] at hv; rcases hv with rfl | rfl | rfl <;> rfl) ?_
  show um_Ev um_cl um_AW um_L um_SX M_Mo_worked 0 0 0 [some (.int a0), some (.int a1), some (.int a2)] [] σ (um_Qi Q)
  unfold wp_Mo_worked at h
  refine um_iload_n (pc2 := 1) d_Mo_worked_0 rfl rfl ?_
  by_cases z2 : a0 = 2
  · replace h := h.1 z2
    refine um_tableAt (tgt := 36) d_Mo_worked_1 z2 (kk := 2) (by decide) (by decide) (by decide) rfl rfl ?_
    refine um_iload_n (pc2 := 37) d_Mo_worked_36 rfl rfl ?_
    refine um_iload_n (pc2 := 38) d_Mo_worked_37 rfl rfl ?_
    refine um_iadd (pc2 := 39) d_Mo_worked_38 rfl ?_
    exact um_iret d_Mo_worked_39 rfl ⟨_, rfl, h⟩
  replace h := h.2 z2
  by_cases z3 : a0 = 3
  · replace h := h.1 z3
    refine um_tableAt (tgt := 40) d_Mo_worked_1 z3 (kk := 3) (by decide) (by decide) (by decide) rfl rfl ?_
    refine um_iload_n (pc2 := 41) d_Mo_worked_40 rfl rfl ?_
    refine um_iload_n (pc2 := 42) d_Mo_worked_41 rfl rfl ?_
    refine um_isub (pc2 := 43) d_Mo_worked_42 rfl ?_
    exact um_iret d_Mo_worked_43 rfl ⟨_, rfl, h⟩
  replace h := h.2 z3
  by_cases z4 : a0 = 4
  · replace h := h.1 z4
    refine um_tableAt (tgt := 44) d_Mo_worked_1 z4 (kk := 4) (by decide) (by decide) (by decide) rfl rfl ?_
    refine um_iload_n (pc2 := 45) d_Mo_worked_44 rfl rfl ?_
    refine um_iload_n (pc2 := 46) d_Mo_worked_45 rfl rfl ?_
    refine um_imul (pc2 := 47) d_Mo_worked_46 rfl ?_
    exact um_iret d_Mo_worked_47 rfl ⟨_, rfl, h⟩
  replace h := h.2 z4
  by_cases z5 : a0 = 5
  · replace h := h.1 z5
    refine um_tableAt (tgt := 48) d_Mo_worked_1 z5 (kk := 5) (by decide) (by decide) (by decide) rfl rfl ?_
    refine um_iload_n (pc2 := 49) d_Mo_worked_48 rfl rfl ?_
    refine um_iconst (pc2 := 50) (v := (-1)) d_Mo_worked_49 rfl (by decide) ?_
    refine um_icmp_ne (pc2 := 53) (tgt := 58) d_Mo_worked_50 rfl rfl (fun z => ?_) (fun z => ?_)
    · replace h := h.1 z
      refine um_iload_n (pc2 := 59) d_Mo_worked_58 rfl rfl ?_
      refine um_iload_n (pc2 := 60) d_Mo_worked_59 rfl rfl ?_
      refine um_idiv (pc2 := 61) d_Mo_worked_60 rfl h.1 ?_
      replace h := h.2
      exact um_iret d_Mo_worked_61 rfl ⟨_, rfl, h⟩
    · replace h := h.2 z
      refine um_iload_n (pc2 := 54) d_Mo_worked_53 rfl rfl ?_
      refine um_ineg (pc2 := 55) d_Mo_worked_54 rfl ?_
      refine um_goto (tgt := 61) d_Mo_worked_55 rfl ?_
      exact um_iret d_Mo_worked_61 rfl ⟨_, rfl, h⟩
  replace h := h.2 z5
  by_cases z6 : a0 = 6
  · replace h := h.1 z6
    refine um_tableAt (tgt := 62) d_Mo_worked_1 z6 (kk := 6) (by decide) (by decide) (by decide) rfl rfl ?_
    refine um_iload_n (pc2 := 63) d_Mo_worked_62 rfl rfl ?_
    refine um_iload_n (pc2 := 64) d_Mo_worked_63 rfl rfl ?_
    refine um_icmp_ge (pc2 := 67) (tgt := 71) d_Mo_worked_64 rfl rfl (fun z => ?_) (fun z => ?_)
    · replace h := h.1 z
      refine um_iconst (pc2 := 72) (v := 0) d_Mo_worked_71 rfl (by decide) ?_
      exact um_iret d_Mo_worked_72 rfl ⟨_, rfl, h⟩
    · replace h := h.2 z
      refine um_iconst (pc2 := 68) (v := 1) d_Mo_worked_67 rfl (by decide) ?_
      refine um_goto (tgt := 72) d_Mo_worked_68 rfl ?_
      exact um_iret d_Mo_worked_72 rfl ⟨_, rfl, h⟩
  replace h := h.2 z6
  have hE : um_Ev um_cl um_AW um_L um_SX M_Mo_worked 0 0 73 [some (.int a0), some (.int a1), some (.int a2)] [] σ (um_Qi Q) := by
    refine um_iload_n (pc2 := 74) d_Mo_worked_73 rfl rfl ?_
    refine um_iload_n (pc2 := 75) d_Mo_worked_74 rfl rfl ?_
    refine um_icmp_ne (pc2 := 78) (tgt := 82) d_Mo_worked_75 rfl rfl (fun z => ?_) (fun z => ?_)
    · replace h := h.1 z
      refine um_iconst (pc2 := 83) (v := 0) d_Mo_worked_82 rfl (by decide) ?_
      exact um_iret d_Mo_worked_83 rfl ⟨_, rfl, h⟩
    · replace h := h.2 z
      refine um_iconst (pc2 := 79) (v := 1) d_Mo_worked_78 rfl (by decide) ?_
      refine um_goto (tgt := 83) d_Mo_worked_79 rfl ?_
      exact um_iret d_Mo_worked_83 rfl ⟨_, rfl, h⟩
  exact um_tableOut (tgt := 73) d_Mo_worked_1 (by have := um_toInt_ne (kk := 2) z2 (by decide); have := um_toInt_ne (kk := 3) z3 (by decide); have := um_toInt_ne (kk := 4) z4 (by decide); have := um_toInt_ne (kk := 5) z5 (by decide); have := um_toInt_ne (kk := 6) z6 (by decide); omega) rfl hE
def wp_Mo_works_27 (Q : um_S → Prop) (v1 : Int32) (v2 : Int32) (v3 : Int32) (σ : um_S) : Prop :=
  wp_Mo_worked v1 v3 v2 σ (fun x2 σ1 => wp_Mo_push x2 σ1 (fun σ3 => vp_in ((σ3 38 53) - 1) 12 ∧ vp_in ((σ3 38 53) - 1) 12 ∧ ∀ σ4 : um_S, σ4 = um_up σ3 72 ((σ3 38 53) - 1).toNatClampNeg ((σ3 72 ((σ3 38 53) - 1).toNatClampNeg) + 1) → Q σ4))
def wp_Mo_works (a1 : Int32) (σ : um_S) (Q : um_S → Prop) : Prop :=
  wp_Mo_pop σ (fun x2 σ1 => wp_Mo_pop σ1 (fun x4 σ3 => (¬ a1 = 5 → wp_Mo_works_27 Q a1 x2 x4 σ3) ∧ (a1 = 5 → (¬ x2 = 0 → wp_Mo_works_27 Q a1 x2 x4 σ3) ∧ (x2 = 0 → wp_Mo_throwing 1 σ3 (fun σ5 => Q σ5)))))
set_option maxHeartbeats 4000000 in
set_option maxRecDepth 100000 in
theorem b_Mo_works_27 {Q : um_S → Prop} {v1 : Int32} {v2 : Int32} {v3 : Int32} {σ : um_S} (h : wp_Mo_works_27 Q v1 v2 v3 σ) : um_Ev um_cl um_AW um_L um_SX M_Mo_works 2 44 27 [some (.ref 38), some (.int v1), some (.int v2), some (.int v3)] [] σ (um_Qv Q) := by
  unfold wp_Mo_works_27 at h
  refine um_aload_n (pc2 := 28) d_Mo_works_27 rfl rfl ?_
  refine um_iload_n (pc2 := 29) d_Mo_works_28 rfl rfl ?_
  refine um_iload_n (pc2 := 30) d_Mo_works_29 rfl rfl ?_
  refine um_iload_n (pc2 := 31) d_Mo_works_30 rfl rfl ?_
  refine um_callS3i (pc2 := 34) d_Mo_works_31 rfl g_Mo_294 (Nat.le_of_ble_eq_true rfl) (Nat.le_of_ble_eq_true rfl) (Nat.le_of_ble_eq_true rfl) (c_Mo_worked h) (fun x2 σ1 h => ?_)
  refine um_callV1v (pc2 := 37) d_Mo_works_34 rfl g_Mo_281 rfl (Nat.le_of_ble_eq_true rfl) (Nat.le_of_ble_eq_true rfl) (Nat.le_of_ble_eq_true rfl) (c_Mo_push h) (fun σ3 h => ?_)
  refine um_aload_n (pc2 := 38) d_Mo_works_37 rfl rfl ?_
  refine um_getR (pc2 := 41) d_Mo_works_38 rfl f_Mo_113 rfl rfl ?_
  refine um_aload_n (pc2 := 42) d_Mo_works_41 rfl rfl ?_
  refine um_getI (pc2 := 45) d_Mo_works_42 rfl f_Mo_275 rfl rfl ?_
  refine um_iconst (pc2 := 46) (v := 1) d_Mo_works_45 rfl (by decide) ?_
  refine um_isub (pc2 := 47) d_Mo_works_46 rfl ?_
  refine um_dup2 (pc2 := 48) d_Mo_works_47 rfl rfl rfl ?_
  refine um_iald (pc2 := 49) d_Mo_works_48 rfl rfl h.1 rfl ?_
  replace h := h.2
  refine um_iconst (pc2 := 50) (v := 1) d_Mo_works_49 rfl (by decide) ?_
  refine um_iadd (pc2 := 51) d_Mo_works_50 rfl ?_
  refine um_iast (pc2 := 52) d_Mo_works_51 rfl rfl h.1 rfl (um_gen (fun σ4 eσ4 => ?_))
  replace h := h.2 σ4 eσ4
  exact um_vret d_Mo_works_52 rfl ⟨rfl, h⟩
set_option maxHeartbeats 4000000 in
set_option maxRecDepth 100000 in
theorem c_Mo_works {a1 : Int32} {σ : um_S} {Q : um_S → Prop} (h : wp_Mo_works a1 σ Q) : um_Con um_cl um_AW um_L um_SX 2 44 M_Mo_works [.ref 38, .int a1] σ (um_Qv Q) := by
  refine um_con (by decide) (Nat.le_of_ble_eq_true rfl) (fun v hv => by simp only [List.mem_cons, List.not_mem_nil, or_false] at hv; rcases hv with rfl | rfl <;> rfl) ?_
  show um_Ev um_cl um_AW um_L um_SX M_Mo_works 2 44 0 [some (.ref 38), some (.int a1), none, none] [] σ (um_Qv Q)
  unfold wp_Mo_works at h
  refine um_aload_n (pc2 := 1) d_Mo_works_0 rfl rfl ?_
  refine um_callV0i (pc2 := 4) d_Mo_works_1 rfl g_Mo_287 rfl (Nat.le_of_ble_eq_true rfl) (Nat.le_of_ble_eq_true rfl) (Nat.le_of_ble_eq_true rfl) (c_Mo_pop h) (fun x2 σ1 h => ?_)
  refine um_istore_n (pc2 := 5) (ls2 := [some (.ref 38), some (.int a1), some (.int x2), none]) d_Mo_works_4 rfl (Nat.le_of_ble_eq_true rfl) rfl ?_
  refine um_aload_n (pc2 := 6) d_Mo_works_5 rfl rfl ?_
  refine um_callV0i (pc2 := 9) d_Mo_works_6 rfl g_Mo_287 rfl (Nat.le_of_ble_eq_true rfl) (Nat.le_of_ble_eq_true rfl) (Nat.le_of_ble_eq_true rfl) (c_Mo_pop h) (fun x4 σ3 h => ?_)
  refine um_istore_n (pc2 := 10) (ls2 := [some (.ref 38), some (.int a1), some (.int x2), some (.int x4)]) d_Mo_works_9 rfl (Nat.le_of_ble_eq_true rfl) rfl ?_
  refine um_iload_n (pc2 := 11) d_Mo_works_10 rfl rfl ?_
  refine um_iconst (pc2 := 12) (v := 5) d_Mo_works_11 rfl (by decide) ?_
  refine um_icmp_ne (pc2 := 15) (tgt := 27) d_Mo_works_12 rfl rfl (fun z => ?_) (fun z => ?_)
  · replace h := h.1 z
    refine um_forget [true, true, true, true] rfl ?_
    exact b_Mo_works_27 h
  · replace h := h.2 z
    refine um_iload_n (pc2 := 16) d_Mo_works_15 rfl rfl ?_
    refine um_if_ne (pc2 := 19) (tgt := 27) d_Mo_works_16 rfl rfl (fun z => ?_) (fun z => ?_)
    · replace h := h.1 z
      refine um_forget [true, true, true, true] rfl ?_
      exact b_Mo_works_27 h
    · replace h := h.2 z
      refine um_aload_n (pc2 := 20) d_Mo_works_19 rfl rfl ?_
      refine um_iconst (pc2 := 21) (v := 1) d_Mo_works_20 rfl (by decide) ?_
      refine um_callV1v (pc2 := 24) d_Mo_works_21 rfl g_Mo_291 rfl (Nat.le_of_ble_eq_true rfl) (Nat.le_of_ble_eq_true rfl) (Nat.le_of_ble_eq_true rfl) (c_Mo_throwing h) (fun σ5 h => ?_)
      refine um_goto (tgt := 52) d_Mo_works_24 rfl ?_
      exact um_vret d_Mo_works_52 rfl ⟨rfl, h⟩
def wp_Mo_step_131 (Q : um_S → Prop) (σ : um_S) : Prop :=
  vp_in ((σ 38 53) - 1) 12 ∧ vp_in ((σ 38 53) - 1) 12 ∧ ∀ σ1 : um_S, σ1 = um_up σ 72 ((σ 38 53) - 1).toNatClampNeg ((σ 72 ((σ 38 53) - 1).toNatClampNeg) + 1) → Q σ1
def wp_Mo_step_211 (Q : um_S → Prop) (σ : um_S) : Prop :=
  vp_in ((σ 38 53) - 1) 12 ∧ vp_in ((σ 38 53) - 1) 12 ∧ ∀ σ1 : um_S, σ1 = um_up σ 72 ((σ 38 53) - 1).toNatClampNeg ((σ 72 ((σ 38 53) - 1).toNatClampNeg) + 1) → Q σ1
def wp_Mo_step (σ : um_S) (Q : um_S → Prop) : Prop :=
  vp_in ((σ 38 53) - 1) 12 ∧ ∀ x1 : Int32, x1 = (σ 72 ((σ 38 53) - 1).toNatClampNeg) → vp_in x1 1000 ∧ ∀ x2 : Int32, x2 = (σ 47 x1.toNatClampNeg) → vp_in x1 1000 ∧ ∀ x3 : Int32, x3 = (σ 46 x1.toNatClampNeg) → (x3 = 0 → vp_in x1 1000 ∧ (¬ (σ 46 x1.toNatClampNeg) = 0 → vp_in x2 8 ∧ wp_Mo_push (σ 70 x2.toNatClampNeg) σ (fun σ4 => wp_Mo_step_131 Q σ4)) ∧ ((σ 46 x1.toNatClampNeg) = 0 → wp_Mo_push x2 σ (fun σ5 => wp_Mo_step_131 Q σ5))) ∧ (¬ x3 = 0 → (x3 = 1 → vp_in x1 1000 ∧ (¬ (σ 46 x1.toNatClampNeg) = 0 → vp_in x2 8 ∧ wp_Mo_push (σ 70 x2.toNatClampNeg) σ (fun σ6 => wp_Mo_step_131 Q σ6)) ∧ ((σ 46 x1.toNatClampNeg) = 0 → wp_Mo_push x2 σ (fun σ7 => wp_Mo_step_131 Q σ7))) ∧ (¬ x3 = 1 → (x3 = 8 → wp_Mo_pop σ (fun x9 σ8 => vp_in x2 8 ∧ ∀ σ10 : um_S, σ10 = um_up σ8 70 x2.toNatClampNeg x9 → vp_in ((σ10 38 53) - 1) 12 ∧ vp_in ((σ10 38 53) - 1) 12 ∧ ∀ σ11 : um_S, σ11 = um_up σ10 72 ((σ10 38 53) - 1).toNatClampNeg ((σ10 72 ((σ10 38 53) - 1).toNatClampNeg) + 1) → Q σ11)) ∧ (¬ x3 = 8 → (x3 = 9 → wp_Mo_pop σ (fun x13 σ12 => (64 ≤ (σ12 38 49) → wp_Mo_step_211 Q σ12) ∧ (¬ 64 ≤ (σ12 38 49) → vp_in (σ12 38 49) 64 ∧ ∀ σ14 : um_S, σ14 = um_up σ12 71 (σ12 38 49).toNatClampNeg x13 → ∀ σ15 : um_S, σ15 = um_up σ14 38 49 ((σ14 38 49) + 1) → wp_Mo_step_211 Q σ15))) ∧ (¬ x3 = 9 → (x3 = 10 → wp_Mo_pop σ (fun x17 σ16 => (¬ x17 = 0 → vp_in ((σ 38 53) - 1) 12 ∧ ∀ σ18 : um_S, σ18 = um_up σ16 72 ((σ 38 53) - 1).toNatClampNeg (x1 + 1) → Q σ18) ∧ (x17 = 0 → vp_in ((σ 38 53) - 1) 12 ∧ ∀ σ19 : um_S, σ19 = um_up σ16 72 ((σ 38 53) - 1).toNatClampNeg x2 → Q σ19))) ∧ (¬ x3 = 10 → (x3 = 11 → vp_in ((σ 38 53) - 1) 12 ∧ ∀ σ20 : um_S, σ20 = um_up σ 72 ((σ 38 53) - 1).toNatClampNeg x2 → Q σ20) ∧ (¬ x3 = 11 → (x3 = 12 → wp_Mo_pop σ (fun x22 σ21 => (¬ x22 = 0 → wp_Mo_throwing x22 σ21 (fun σ23 => Q σ23)) ∧ (x22 = 0 → wp_Mo_throwing 2 σ21 (fun σ24 => Q σ24)))) ∧ (¬ x3 = 12 → (x3 = 13 → wp_Mo_calls x2 σ (fun σ25 => Q σ25)) ∧ (¬ x3 = 13 → (x3 = 14 → wp_Mo_returns σ (fun σ26 => Q σ26)) ∧ (¬ x3 = 14 → (x3 = 15 → wp_Mo_pop σ (fun x28 σ27 => vp_in ((200 * ((σ 38 53) - 1)) + x2) 2400 ∧ ∀ σ29 : um_S, σ29 = um_up σ27 75 ((200 * ((σ 38 53) - 1)) + x2).toNatClampNeg x28 → vp_in ((σ29 38 53) - 1) 12 ∧ vp_in ((σ29 38 53) - 1) 12 ∧ ∀ σ30 : um_S, σ30 = um_up σ29 72 ((σ29 38 53) - 1).toNatClampNeg ((σ29 72 ((σ29 38 53) - 1).toNatClampNeg) + 1) → Q σ30)) ∧ (¬ x3 = 15 → (x3 = 16 → vp_in ((200 * ((σ 38 53) - 1)) + x2) 2400 ∧ wp_Mo_throwing (σ 75 ((200 * ((σ 38 53) - 1)) + x2).toNatClampNeg) σ (fun σ31 => Q σ31)) ∧ (¬ x3 = 16 → vp_in x1 1000 ∧ wp_Mo_works (σ 46 x1.toNatClampNeg) σ (fun σ32 => Q σ32))))))))))))
set_option maxHeartbeats 4000000 in
set_option maxRecDepth 100000 in
theorem b_Mo_step_131 {Q : um_S → Prop} {σ : um_S} (h : wp_Mo_step_131 Q σ) : um_Ev um_cl um_AW um_L um_SX M_Mo_step 3 67 131 [some (.ref 38), none, none, none] [] σ (um_Qv Q) := by
  unfold wp_Mo_step_131 at h
  refine um_aload_n (pc2 := 132) d_Mo_step_131 rfl rfl ?_
  refine um_getR (pc2 := 135) d_Mo_step_132 rfl f_Mo_113 rfl rfl ?_
  refine um_aload_n (pc2 := 136) d_Mo_step_135 rfl rfl ?_
  refine um_getI (pc2 := 139) d_Mo_step_136 rfl f_Mo_275 rfl rfl ?_
  refine um_iconst (pc2 := 140) (v := 1) d_Mo_step_139 rfl (by decide) ?_
  refine um_isub (pc2 := 141) d_Mo_step_140 rfl ?_
  refine um_dup2 (pc2 := 142) d_Mo_step_141 rfl rfl rfl ?_
  refine um_iald (pc2 := 143) d_Mo_step_142 rfl rfl h.1 rfl ?_
  replace h := h.2
  refine um_iconst (pc2 := 144) (v := 1) d_Mo_step_143 rfl (by decide) ?_
  refine um_iadd (pc2 := 145) d_Mo_step_144 rfl ?_
  refine um_iast (pc2 := 146) d_Mo_step_145 rfl rfl h.1 rfl (um_gen (fun σ1 eσ1 => ?_))
  replace h := h.2 σ1 eσ1
  refine um_goto (tgt := 381) d_Mo_step_146 rfl ?_
  exact um_vret d_Mo_step_381 rfl ⟨rfl, h⟩
set_option maxHeartbeats 4000000 in
set_option maxRecDepth 100000 in
theorem b_Mo_step_211 {Q : um_S → Prop} {σ : um_S} (h : wp_Mo_step_211 Q σ) : um_Ev um_cl um_AW um_L um_SX M_Mo_step 3 67 211 [some (.ref 38), none, none, none] [] σ (um_Qv Q) := by
  unfold wp_Mo_step_211 at h
  refine um_aload_n (pc2 := 212) d_Mo_step_211 rfl rfl ?_
  refine um_getR (pc2 := 215) d_Mo_step_212 rfl f_Mo_113 rfl rfl ?_
  refine um_aload_n (pc2 := 216) d_Mo_step_215 rfl rfl ?_
  refine um_getI (pc2 := 219) d_Mo_step_216 rfl f_Mo_275 rfl rfl ?_
  refine um_iconst (pc2 := 220) (v := 1) d_Mo_step_219 rfl (by decide) ?_
  refine um_isub (pc2 := 221) d_Mo_step_220 rfl ?_
  refine um_dup2 (pc2 := 222) d_Mo_step_221 rfl rfl rfl ?_
  refine um_iald (pc2 := 223) d_Mo_step_222 rfl rfl h.1 rfl ?_
  replace h := h.2
  refine um_iconst (pc2 := 224) (v := 1) d_Mo_step_223 rfl (by decide) ?_
  refine um_iadd (pc2 := 225) d_Mo_step_224 rfl ?_
  refine um_iast (pc2 := 226) d_Mo_step_225 rfl rfl h.1 rfl (um_gen (fun σ1 eσ1 => ?_))
  replace h := h.2 σ1 eσ1
  refine um_goto (tgt := 381) d_Mo_step_226 rfl ?_
  exact um_vret d_Mo_step_381 rfl ⟨rfl, h⟩
set_option maxHeartbeats 4000000 in
set_option maxRecDepth 100000 in
theorem c_Mo_step {σ : um_S} {Q : um_S → Prop} (h : wp_Mo_step σ Q) : um_Con um_cl um_AW um_L um_SX 3 67 M_Mo_step [.ref 38] σ (um_Qv Q) := by
  refine um_con (by decide) (Nat.le_of_ble_eq_true rfl) (fun v hv => by simp only [List.mem_cons, List.not_mem_nil, or_false] at hv; rcases hv with rfl <;> rfl) ?_
  show um_Ev um_cl um_AW um_L um_SX M_Mo_step 3 67 0 [some (.ref 38), none, none, none] [] σ (um_Qv Q)
  unfold wp_Mo_step at h
  refine um_aload_n (pc2 := 1) d_Mo_step_0 rfl rfl ?_
  refine um_getR (pc2 := 4) d_Mo_step_1 rfl f_Mo_113 rfl rfl ?_
  refine um_aload_n (pc2 := 5) d_Mo_step_4 rfl rfl ?_
  refine um_getI (pc2 := 8) d_Mo_step_5 rfl f_Mo_275 rfl rfl ?_
  refine um_iconst (pc2 := 9) (v := 1) d_Mo_step_8 rfl (by decide) ?_
  refine um_isub (pc2 := 10) d_Mo_step_9 rfl ?_
  refine um_iald (pc2 := 11) d_Mo_step_10 rfl rfl h.1 rfl ?_
  replace h := h.2
  refine um_top (fun x1 ex1 => ?_)
  replace h := h x1 ex1
  refine um_istore_n (pc2 := 12) (ls2 := [some (.ref 38), some (.int x1), none, none]) d_Mo_step_11 rfl (Nat.le_of_ble_eq_true rfl) rfl ?_
  refine um_aload_n (pc2 := 13) d_Mo_step_12 rfl rfl ?_
  refine um_getR (pc2 := 16) d_Mo_step_13 rfl f_Mo_34 rfl rfl ?_
  refine um_iload_n (pc2 := 17) d_Mo_step_16 rfl rfl ?_
  refine um_iald (pc2 := 18) d_Mo_step_17 rfl rfl h.1 rfl ?_
  replace h := h.2
  refine um_top (fun x2 ex2 => ?_)
  replace h := h x2 ex2
  refine um_istore_n (pc2 := 19) (ls2 := [some (.ref 38), some (.int x1), some (.int x2), none]) d_Mo_step_18 rfl (Nat.le_of_ble_eq_true rfl) rfl ?_
  refine um_aload_n (pc2 := 20) d_Mo_step_19 rfl rfl ?_
  refine um_getR (pc2 := 23) d_Mo_step_20 rfl f_Mo_31 rfl rfl ?_
  refine um_iload_n (pc2 := 24) d_Mo_step_23 rfl rfl ?_
  refine um_iald (pc2 := 25) d_Mo_step_24 rfl rfl h.1 rfl ?_
  replace h := h.2
  refine um_top (fun x3 ex3 => ?_)
  replace h := h x3 ex3
  by_cases z0 : x3 = 0
  · replace h := h.1 z0
    refine um_tableAt (tgt := 108) d_Mo_step_25 z0 (kk := 0) (by decide) (by decide) (by decide) rfl rfl ?_
    refine um_aload_n (pc2 := 109) d_Mo_step_108 rfl rfl ?_
    refine um_aload_n (pc2 := 110) d_Mo_step_109 rfl rfl ?_
    refine um_getR (pc2 := 113) d_Mo_step_110 rfl f_Mo_31 rfl rfl ?_
    refine um_iload_n (pc2 := 114) d_Mo_step_113 rfl rfl ?_
    refine um_iald (pc2 := 115) d_Mo_step_114 rfl rfl h.1 rfl ?_
    replace h := h.2
    refine um_if_ne (pc2 := 118) (tgt := 122) d_Mo_step_115 rfl rfl (fun z => ?_) (fun z => ?_)
    · replace h := h.1 z
      refine um_aload_n (pc2 := 123) d_Mo_step_122 rfl rfl ?_
      refine um_getR (pc2 := 126) d_Mo_step_123 rfl f_Mo_103 rfl rfl ?_
      refine um_iload_n (pc2 := 127) d_Mo_step_126 rfl rfl ?_
      refine um_iald (pc2 := 128) d_Mo_step_127 rfl rfl h.1 rfl ?_
      replace h := h.2
      refine um_callV1v (pc2 := 131) d_Mo_step_128 rfl g_Mo_281 rfl (Nat.le_of_ble_eq_true rfl) (Nat.le_of_ble_eq_true rfl) (Nat.le_of_ble_eq_true rfl) (c_Mo_push h) (fun σ4 h => ?_)
      refine um_forget [true, false, false, false] rfl ?_
      exact b_Mo_step_131 h
    · replace h := h.2 z
      refine um_iload_n (pc2 := 119) d_Mo_step_118 rfl rfl ?_
      refine um_goto (tgt := 128) d_Mo_step_119 rfl ?_
      refine um_callV1v (pc2 := 131) d_Mo_step_128 rfl g_Mo_281 rfl (Nat.le_of_ble_eq_true rfl) (Nat.le_of_ble_eq_true rfl) (Nat.le_of_ble_eq_true rfl) (c_Mo_push h) (fun σ5 h => ?_)
      refine um_forget [true, false, false, false] rfl ?_
      exact b_Mo_step_131 h
  replace h := h.2 z0
  by_cases z1 : x3 = 1
  · replace h := h.1 z1
    refine um_tableAt (tgt := 108) d_Mo_step_25 z1 (kk := 1) (by decide) (by decide) (by decide) rfl rfl ?_
    refine um_aload_n (pc2 := 109) d_Mo_step_108 rfl rfl ?_
    refine um_aload_n (pc2 := 110) d_Mo_step_109 rfl rfl ?_
    refine um_getR (pc2 := 113) d_Mo_step_110 rfl f_Mo_31 rfl rfl ?_
    refine um_iload_n (pc2 := 114) d_Mo_step_113 rfl rfl ?_
    refine um_iald (pc2 := 115) d_Mo_step_114 rfl rfl h.1 rfl ?_
    replace h := h.2
    refine um_if_ne (pc2 := 118) (tgt := 122) d_Mo_step_115 rfl rfl (fun z => ?_) (fun z => ?_)
    · replace h := h.1 z
      refine um_aload_n (pc2 := 123) d_Mo_step_122 rfl rfl ?_
      refine um_getR (pc2 := 126) d_Mo_step_123 rfl f_Mo_103 rfl rfl ?_
      refine um_iload_n (pc2 := 127) d_Mo_step_126 rfl rfl ?_
      refine um_iald (pc2 := 128) d_Mo_step_127 rfl rfl h.1 rfl ?_
      replace h := h.2
      refine um_callV1v (pc2 := 131) d_Mo_step_128 rfl g_Mo_281 rfl (Nat.le_of_ble_eq_true rfl) (Nat.le_of_ble_eq_true rfl) (Nat.le_of_ble_eq_true rfl) (c_Mo_push h) (fun σ6 h => ?_)
      refine um_forget [true, false, false, false] rfl ?_
      exact b_Mo_step_131 h
    · replace h := h.2 z
      refine um_iload_n (pc2 := 119) d_Mo_step_118 rfl rfl ?_
      refine um_goto (tgt := 128) d_Mo_step_119 rfl ?_
      refine um_callV1v (pc2 := 131) d_Mo_step_128 rfl g_Mo_281 rfl (Nat.le_of_ble_eq_true rfl) (Nat.le_of_ble_eq_true rfl) (Nat.le_of_ble_eq_true rfl) (c_Mo_push h) (fun σ7 h => ?_)
      refine um_forget [true, false, false, false] rfl ?_
      exact b_Mo_step_131 h
  replace h := h.2 z1
  by_cases z8 : x3 = 8
  · replace h := h.1 z8
    refine um_tableAt (tgt := 149) d_Mo_step_25 z8 (kk := 8) (by decide) (by decide) (by decide) rfl rfl ?_
    refine um_aload_n (pc2 := 150) d_Mo_step_149 rfl rfl ?_
    refine um_getR (pc2 := 153) d_Mo_step_150 rfl f_Mo_103 rfl rfl ?_
    refine um_iload_n (pc2 := 154) d_Mo_step_153 rfl rfl ?_
    refine um_aload_n (pc2 := 155) d_Mo_step_154 rfl rfl ?_
    refine um_callV0i (pc2 := 158) d_Mo_step_155 rfl g_Mo_287 rfl (Nat.le_of_ble_eq_true rfl) (Nat.le_of_ble_eq_true rfl) (Nat.le_of_ble_eq_true rfl) (c_Mo_pop h) (fun x9 σ8 h => ?_)
    refine um_iast (pc2 := 159) d_Mo_step_158 rfl rfl h.1 rfl (um_gen (fun σ10 eσ10 => ?_))
    replace h := h.2 σ10 eσ10
    refine um_aload_n (pc2 := 160) d_Mo_step_159 rfl rfl ?_
    refine um_getR (pc2 := 163) d_Mo_step_160 rfl f_Mo_113 rfl rfl ?_
    refine um_aload_n (pc2 := 164) d_Mo_step_163 rfl rfl ?_
    refine um_getI (pc2 := 167) d_Mo_step_164 rfl f_Mo_275 rfl rfl ?_
    refine um_iconst (pc2 := 168) (v := 1) d_Mo_step_167 rfl (by decide) ?_
    refine um_isub (pc2 := 169) d_Mo_step_168 rfl ?_
    refine um_dup2 (pc2 := 170) d_Mo_step_169 rfl rfl rfl ?_
    refine um_iald (pc2 := 171) d_Mo_step_170 rfl rfl h.1 rfl ?_
    replace h := h.2
    refine um_iconst (pc2 := 172) (v := 1) d_Mo_step_171 rfl (by decide) ?_
    refine um_iadd (pc2 := 173) d_Mo_step_172 rfl ?_
    refine um_iast (pc2 := 174) d_Mo_step_173 rfl rfl h.1 rfl (um_gen (fun σ11 eσ11 => ?_))
    replace h := h.2 σ11 eσ11
    refine um_goto (tgt := 381) d_Mo_step_174 rfl ?_
    exact um_vret d_Mo_step_381 rfl ⟨rfl, h⟩
  replace h := h.2 z8
  by_cases z9 : x3 = 9
  · replace h := h.1 z9
    refine um_tableAt (tgt := 177) d_Mo_step_25 z9 (kk := 9) (by decide) (by decide) (by decide) rfl rfl ?_
    refine um_aload_n (pc2 := 178) d_Mo_step_177 rfl rfl ?_
    refine um_callV0i (pc2 := 181) d_Mo_step_178 rfl g_Mo_287 rfl (Nat.le_of_ble_eq_true rfl) (Nat.le_of_ble_eq_true rfl) (Nat.le_of_ble_eq_true rfl) (c_Mo_pop h) (fun x13 σ12 h => ?_)
    refine um_istore_n (pc2 := 182) (ls2 := [some (.ref 38), some (.int x1), some (.int x2), some (.int x13)]) d_Mo_step_181 rfl (Nat.le_of_ble_eq_true rfl) rfl ?_
    refine um_aload_n (pc2 := 183) d_Mo_step_182 rfl rfl ?_
    refine um_getI (pc2 := 186) d_Mo_step_183 rfl f_Mo_301 rfl rfl ?_
    refine um_bipush (pc2 := 188) (v := 64) d_Mo_step_186 rfl (by decide) ?_
    refine um_icmp_ge (pc2 := 191) (tgt := 211) d_Mo_step_188 rfl rfl (fun z => ?_) (fun z => ?_)
    · replace h := h.1 z
      refine um_forget [true, false, false, false] rfl ?_
      exact b_Mo_step_211 h
    · replace h := h.2 z
      refine um_aload_n (pc2 := 192) d_Mo_step_191 rfl rfl ?_
      refine um_getR (pc2 := 195) d_Mo_step_192 rfl f_Mo_110 rfl rfl ?_
      refine um_aload_n (pc2 := 196) d_Mo_step_195 rfl rfl ?_
      refine um_getI (pc2 := 199) d_Mo_step_196 rfl f_Mo_301 rfl rfl ?_
      refine um_iload_n (pc2 := 200) d_Mo_step_199 rfl rfl ?_
      refine um_iast (pc2 := 201) d_Mo_step_200 rfl rfl h.1 rfl (um_gen (fun σ14 eσ14 => ?_))
      replace h := h.2 σ14 eσ14
      refine um_aload_n (pc2 := 202) d_Mo_step_201 rfl rfl ?_
      refine um_dup (pc2 := 203) d_Mo_step_202 rfl rfl ?_
      refine um_getI (pc2 := 206) d_Mo_step_203 rfl f_Mo_301 rfl rfl ?_
      refine um_iconst (pc2 := 207) (v := 1) d_Mo_step_206 rfl (by decide) ?_
      refine um_iadd (pc2 := 208) d_Mo_step_207 rfl ?_
      refine um_putI (pc2 := 211) d_Mo_step_208 rfl fw_Mo_301 rfl rfl (um_gen (fun σ15 eσ15 => ?_))
      replace h := h σ15 eσ15
      refine um_forget [true, false, false, false] rfl ?_
      exact b_Mo_step_211 h
  replace h := h.2 z9
  by_cases z10 : x3 = 10
  · replace h := h.1 z10
    refine um_tableAt (tgt := 229) d_Mo_step_25 z10 (kk := 10) (by decide) (by decide) (by decide) rfl rfl ?_
    refine um_aload_n (pc2 := 230) d_Mo_step_229 rfl rfl ?_
    refine um_getR (pc2 := 233) d_Mo_step_230 rfl f_Mo_113 rfl rfl ?_
    refine um_aload_n (pc2 := 234) d_Mo_step_233 rfl rfl ?_
    refine um_getI (pc2 := 237) d_Mo_step_234 rfl f_Mo_275 rfl rfl ?_
    refine um_iconst (pc2 := 238) (v := 1) d_Mo_step_237 rfl (by decide) ?_
    refine um_isub (pc2 := 239) d_Mo_step_238 rfl ?_
    refine um_aload_n (pc2 := 240) d_Mo_step_239 rfl rfl ?_
    refine um_callV0i (pc2 := 243) d_Mo_step_240 rfl g_Mo_287 rfl (Nat.le_of_ble_eq_true rfl) (Nat.le_of_ble_eq_true rfl) (Nat.le_of_ble_eq_true rfl) (c_Mo_pop h) (fun x17 σ16 h => ?_)
    refine um_if_ne (pc2 := 246) (tgt := 250) d_Mo_step_243 rfl rfl (fun z => ?_) (fun z => ?_)
    · replace h := h.1 z
      refine um_iload_n (pc2 := 251) d_Mo_step_250 rfl rfl ?_
      refine um_iconst (pc2 := 252) (v := 1) d_Mo_step_251 rfl (by decide) ?_
      refine um_iadd (pc2 := 253) d_Mo_step_252 rfl ?_
      refine um_iast (pc2 := 254) d_Mo_step_253 rfl rfl h.1 rfl (um_gen (fun σ18 eσ18 => ?_))
      replace h := h.2 σ18 eσ18
      refine um_goto (tgt := 381) d_Mo_step_254 rfl ?_
      exact um_vret d_Mo_step_381 rfl ⟨rfl, h⟩
    · replace h := h.2 z
      refine um_iload_n (pc2 := 247) d_Mo_step_246 rfl rfl ?_
      refine um_goto (tgt := 253) d_Mo_step_247 rfl ?_
      refine um_iast (pc2 := 254) d_Mo_step_253 rfl rfl h.1 rfl (um_gen (fun σ19 eσ19 => ?_))
      replace h := h.2 σ19 eσ19
      refine um_goto (tgt := 381) d_Mo_step_254 rfl ?_
      exact um_vret d_Mo_step_381 rfl ⟨rfl, h⟩
  replace h := h.2 z10
  by_cases z11 : x3 = 11
  · replace h := h.1 z11
    refine um_tableAt (tgt := 257) d_Mo_step_25 z11 (kk := 11) (by decide) (by decide) (by decide) rfl rfl ?_
    refine um_aload_n (pc2 := 258) d_Mo_step_257 rfl rfl ?_
    refine um_getR (pc2 := 261) d_Mo_step_258 rfl f_Mo_113 rfl rfl ?_
    refine um_aload_n (pc2 := 262) d_Mo_step_261 rfl rfl ?_
    refine um_getI (pc2 := 265) d_Mo_step_262 rfl f_Mo_275 rfl rfl ?_
    refine um_iconst (pc2 := 266) (v := 1) d_Mo_step_265 rfl (by decide) ?_
    refine um_isub (pc2 := 267) d_Mo_step_266 rfl ?_
    refine um_iload_n (pc2 := 268) d_Mo_step_267 rfl rfl ?_
    refine um_iast (pc2 := 269) d_Mo_step_268 rfl rfl h.1 rfl (um_gen (fun σ20 eσ20 => ?_))
    replace h := h.2 σ20 eσ20
    refine um_goto (tgt := 381) d_Mo_step_269 rfl ?_
    exact um_vret d_Mo_step_381 rfl ⟨rfl, h⟩
  replace h := h.2 z11
  by_cases z12 : x3 = 12
  · replace h := h.1 z12
    refine um_tableAt (tgt := 272) d_Mo_step_25 z12 (kk := 12) (by decide) (by decide) (by decide) rfl rfl ?_
    refine um_aload_n (pc2 := 273) d_Mo_step_272 rfl rfl ?_
    refine um_callV0i (pc2 := 276) d_Mo_step_273 rfl g_Mo_287 rfl (Nat.le_of_ble_eq_true rfl) (Nat.le_of_ble_eq_true rfl) (Nat.le_of_ble_eq_true rfl) (c_Mo_pop h) (fun x22 σ21 h => ?_)
    refine um_istore_n (pc2 := 277) (ls2 := [some (.ref 38), some (.int x1), some (.int x2), some (.int x22)]) d_Mo_step_276 rfl (Nat.le_of_ble_eq_true rfl) rfl ?_
    refine um_aload_n (pc2 := 278) d_Mo_step_277 rfl rfl ?_
    refine um_iload_n (pc2 := 279) d_Mo_step_278 rfl rfl ?_
    refine um_if_ne (pc2 := 282) (tgt := 286) d_Mo_step_279 rfl rfl (fun z => ?_) (fun z => ?_)
    · replace h := h.1 z
      refine um_iload_n (pc2 := 287) d_Mo_step_286 rfl rfl ?_
      refine um_callV1v (pc2 := 290) d_Mo_step_287 rfl g_Mo_291 rfl (Nat.le_of_ble_eq_true rfl) (Nat.le_of_ble_eq_true rfl) (Nat.le_of_ble_eq_true rfl) (c_Mo_throwing h) (fun σ23 h => ?_)
      refine um_goto (tgt := 381) d_Mo_step_290 rfl ?_
      exact um_vret d_Mo_step_381 rfl ⟨rfl, h⟩
    · replace h := h.2 z
      refine um_iconst (pc2 := 283) (v := 2) d_Mo_step_282 rfl (by decide) ?_
      refine um_goto (tgt := 287) d_Mo_step_283 rfl ?_
      refine um_callV1v (pc2 := 290) d_Mo_step_287 rfl g_Mo_291 rfl (Nat.le_of_ble_eq_true rfl) (Nat.le_of_ble_eq_true rfl) (Nat.le_of_ble_eq_true rfl) (c_Mo_throwing h) (fun σ24 h => ?_)
      refine um_goto (tgt := 381) d_Mo_step_290 rfl ?_
      exact um_vret d_Mo_step_381 rfl ⟨rfl, h⟩
  replace h := h.2 z12
  by_cases z13 : x3 = 13
  · replace h := h.1 z13
    refine um_tableAt (tgt := 293) d_Mo_step_25 z13 (kk := 13) (by decide) (by decide) (by decide) rfl rfl ?_
    refine um_aload_n (pc2 := 294) d_Mo_step_293 rfl rfl ?_
    refine um_iload_n (pc2 := 295) d_Mo_step_294 rfl rfl ?_
    refine um_callV1v (pc2 := 298) d_Mo_step_295 rfl g_Mo_304 rfl (Nat.le_of_ble_eq_true rfl) (Nat.le_of_ble_eq_true rfl) (Nat.le_of_ble_eq_true rfl) (c_Mo_calls h) (fun σ25 h => ?_)
    refine um_goto (tgt := 381) d_Mo_step_298 rfl ?_
    exact um_vret d_Mo_step_381 rfl ⟨rfl, h⟩
  replace h := h.2 z13
  by_cases z14 : x3 = 14
  · replace h := h.1 z14
    refine um_tableAt (tgt := 301) d_Mo_step_25 z14 (kk := 14) (by decide) (by decide) (by decide) rfl rfl ?_
    refine um_aload_n (pc2 := 302) d_Mo_step_301 rfl rfl ?_
    refine um_callV0v (pc2 := 305) d_Mo_step_302 rfl g_Mo_307 rfl (Nat.le_of_ble_eq_true rfl) (Nat.le_of_ble_eq_true rfl) (Nat.le_of_ble_eq_true rfl) (c_Mo_returns h) (fun σ26 h => ?_)
    refine um_goto (tgt := 381) d_Mo_step_305 rfl ?_
    exact um_vret d_Mo_step_381 rfl ⟨rfl, h⟩
  replace h := h.2 z14
  by_cases z15 : x3 = 15
  · replace h := h.1 z15
    refine um_tableAt (tgt := 308) d_Mo_step_25 z15 (kk := 15) (by decide) (by decide) (by decide) rfl rfl ?_
    refine um_aload_n (pc2 := 309) d_Mo_step_308 rfl rfl ?_
    refine um_getR (pc2 := 312) d_Mo_step_309 rfl f_Mo_122 rfl rfl ?_
    refine um_sipush (pc2 := 315) (v := 200) d_Mo_step_312 rfl (by decide) ?_
    refine um_aload_n (pc2 := 316) d_Mo_step_315 rfl rfl ?_
    refine um_getI (pc2 := 319) d_Mo_step_316 rfl f_Mo_275 rfl rfl ?_
    refine um_iconst (pc2 := 320) (v := 1) d_Mo_step_319 rfl (by decide) ?_
    refine um_isub (pc2 := 321) d_Mo_step_320 rfl ?_
    refine um_imul (pc2 := 322) d_Mo_step_321 rfl ?_
    refine um_iload_n (pc2 := 323) d_Mo_step_322 rfl rfl ?_
    refine um_iadd (pc2 := 324) d_Mo_step_323 rfl ?_
    refine um_aload_n (pc2 := 325) d_Mo_step_324 rfl rfl ?_
    refine um_callV0i (pc2 := 328) d_Mo_step_325 rfl g_Mo_287 rfl (Nat.le_of_ble_eq_true rfl) (Nat.le_of_ble_eq_true rfl) (Nat.le_of_ble_eq_true rfl) (c_Mo_pop h) (fun x28 σ27 h => ?_)
    refine um_iast (pc2 := 329) d_Mo_step_328 rfl rfl h.1 rfl (um_gen (fun σ29 eσ29 => ?_))
    replace h := h.2 σ29 eσ29
    refine um_aload_n (pc2 := 330) d_Mo_step_329 rfl rfl ?_
    refine um_getR (pc2 := 333) d_Mo_step_330 rfl f_Mo_113 rfl rfl ?_
    refine um_aload_n (pc2 := 334) d_Mo_step_333 rfl rfl ?_
    refine um_getI (pc2 := 337) d_Mo_step_334 rfl f_Mo_275 rfl rfl ?_
    refine um_iconst (pc2 := 338) (v := 1) d_Mo_step_337 rfl (by decide) ?_
    refine um_isub (pc2 := 339) d_Mo_step_338 rfl ?_
    refine um_dup2 (pc2 := 340) d_Mo_step_339 rfl rfl rfl ?_
    refine um_iald (pc2 := 341) d_Mo_step_340 rfl rfl h.1 rfl ?_
    replace h := h.2
    refine um_iconst (pc2 := 342) (v := 1) d_Mo_step_341 rfl (by decide) ?_
    refine um_iadd (pc2 := 343) d_Mo_step_342 rfl ?_
    refine um_iast (pc2 := 344) d_Mo_step_343 rfl rfl h.1 rfl (um_gen (fun σ30 eσ30 => ?_))
    replace h := h.2 σ30 eσ30
    refine um_goto (tgt := 381) d_Mo_step_344 rfl ?_
    exact um_vret d_Mo_step_381 rfl ⟨rfl, h⟩
  replace h := h.2 z15
  by_cases z16 : x3 = 16
  · replace h := h.1 z16
    refine um_tableAt (tgt := 347) d_Mo_step_25 z16 (kk := 16) (by decide) (by decide) (by decide) rfl rfl ?_
    refine um_aload_n (pc2 := 348) d_Mo_step_347 rfl rfl ?_
    refine um_aload_n (pc2 := 349) d_Mo_step_348 rfl rfl ?_
    refine um_getR (pc2 := 352) d_Mo_step_349 rfl f_Mo_122 rfl rfl ?_
    refine um_sipush (pc2 := 355) (v := 200) d_Mo_step_352 rfl (by decide) ?_
    refine um_aload_n (pc2 := 356) d_Mo_step_355 rfl rfl ?_
    refine um_getI (pc2 := 359) d_Mo_step_356 rfl f_Mo_275 rfl rfl ?_
    refine um_iconst (pc2 := 360) (v := 1) d_Mo_step_359 rfl (by decide) ?_
    refine um_isub (pc2 := 361) d_Mo_step_360 rfl ?_
    refine um_imul (pc2 := 362) d_Mo_step_361 rfl ?_
    refine um_iload_n (pc2 := 363) d_Mo_step_362 rfl rfl ?_
    refine um_iadd (pc2 := 364) d_Mo_step_363 rfl ?_
    refine um_iald (pc2 := 365) d_Mo_step_364 rfl rfl h.1 rfl ?_
    replace h := h.2
    refine um_callV1v (pc2 := 368) d_Mo_step_365 rfl g_Mo_291 rfl (Nat.le_of_ble_eq_true rfl) (Nat.le_of_ble_eq_true rfl) (Nat.le_of_ble_eq_true rfl) (c_Mo_throwing h) (fun σ31 h => ?_)
    refine um_goto (tgt := 381) d_Mo_step_368 rfl ?_
    exact um_vret d_Mo_step_381 rfl ⟨rfl, h⟩
  replace h := h.2 z16
  have hE : um_Ev um_cl um_AW um_L um_SX M_Mo_step 3 67 371 [some (.ref 38), some (.int x1), some (.int x2), none] [] σ (um_Qv Q) := by
    refine um_aload_n (pc2 := 372) d_Mo_step_371 rfl rfl ?_
    refine um_aload_n (pc2 := 373) d_Mo_step_372 rfl rfl ?_
    refine um_getR (pc2 := 376) d_Mo_step_373 rfl f_Mo_31 rfl rfl ?_
    refine um_iload_n (pc2 := 377) d_Mo_step_376 rfl rfl ?_
    refine um_iald (pc2 := 378) d_Mo_step_377 rfl rfl h.1 rfl ?_
    replace h := h.2
    refine um_callV1v (pc2 := 381) d_Mo_step_378 rfl g_Mo_310 rfl (Nat.le_of_ble_eq_true rfl) (Nat.le_of_ble_eq_true rfl) (Nat.le_of_ble_eq_true rfl) (c_Mo_works h) (fun σ32 h => ?_)
    exact um_vret d_Mo_step_381 rfl ⟨rfl, h⟩
  by_cases y2 : x3 = 2
  · exact um_tableAt (tgt := 371) d_Mo_step_25 y2 (kk := 2) (by decide) (by decide) (by decide) rfl rfl hE
  by_cases y3 : x3 = 3
  · exact um_tableAt (tgt := 371) d_Mo_step_25 y3 (kk := 3) (by decide) (by decide) (by decide) rfl rfl hE
  by_cases y4 : x3 = 4
  · exact um_tableAt (tgt := 371) d_Mo_step_25 y4 (kk := 4) (by decide) (by decide) (by decide) rfl rfl hE
  by_cases y5 : x3 = 5
  · exact um_tableAt (tgt := 371) d_Mo_step_25 y5 (kk := 5) (by decide) (by decide) (by decide) rfl rfl hE
  by_cases y6 : x3 = 6
  · exact um_tableAt (tgt := 371) d_Mo_step_25 y6 (kk := 6) (by decide) (by decide) (by decide) rfl rfl hE
  by_cases y7 : x3 = 7
  · exact um_tableAt (tgt := 371) d_Mo_step_25 y7 (kk := 7) (by decide) (by decide) (by decide) rfl rfl hE
  exact um_tableOut (tgt := 371) d_Mo_step_25 (by have := um_toInt_ne (kk := 0) z0 (by decide); have := um_toInt_ne (kk := 1) z1 (by decide); have := um_toInt_ne (kk := 2) y2 (by decide); have := um_toInt_ne (kk := 3) y3 (by decide); have := um_toInt_ne (kk := 4) y4 (by decide); have := um_toInt_ne (kk := 5) y5 (by decide); have := um_toInt_ne (kk := 6) y6 (by decide); have := um_toInt_ne (kk := 7) y7 (by decide); have := um_toInt_ne (kk := 8) z8 (by decide); have := um_toInt_ne (kk := 9) z9 (by decide); have := um_toInt_ne (kk := 10) z10 (by decide); have := um_toInt_ne (kk := 11) z11 (by decide); have := um_toInt_ne (kk := 12) z12 (by decide); have := um_toInt_ne (kk := 13) z13 (by decide); have := um_toInt_ne (kk := 14) z14 (by decide); have := um_toInt_ne (kk := 15) z15 (by decide); have := um_toInt_ne (kk := 16) z16 (by decide); omega) rfl hE
def wp_Mo_run_98 (Q : Int32 → um_S → Prop) : Nat → um_S → Prop
  | 0, _ => False
  | n + 1, σ =>
    (¬ (σ 38 46) = 0 → Q (σ 38 46) σ) ∧ ((σ 38 46) = 0 → (¬ (σ 38 48) = 3000 → ∀ σ1 : um_S, σ1 = um_up σ 38 48 ((σ 38 48) + 1) → wp_Mo_step σ1 (fun σ2 => wp_Mo_run_98 Q n σ2)) ∧ ((σ 38 48) = 3000 → ∀ σ3 : um_S, σ3 = um_up σ 38 46 3 → wp_Mo_run_98 Q n σ3))
def wp_Mo_run_25 (Q : Int32 → um_S → Prop) : Nat → Int32 → Int32 → um_S → Prop
  | 0, _, _, _ => False
  | n + 1, v1, v2, σ =>
    (8 ≤ v2 → ∀ σ1 : um_S, σ1 = um_up σ 38 46 0 → ∀ σ2 : um_S, σ2 = um_up σ1 38 47 0 → ∀ σ3 : um_S, σ3 = um_up σ2 38 48 0 → ∀ σ4 : um_S, σ4 = um_up σ3 38 49 0 → ∀ σ5 : um_S, σ5 = um_up σ4 38 51 0 → ∀ σ6 : um_S, σ6 = um_up σ5 38 53 1 → ∀ σ7 : um_S, σ7 = um_up σ6 38 52 1 → vp_in v1 6 ∧ ∀ σ8 : um_S, σ8 = um_up σ7 72 0 (σ7 54 v1.toNatClampNeg) → ∀ σ9 : um_S, σ9 = um_up σ8 73 0 0 → wp_Mo_run_98 Q 100000 σ9) ∧ (¬ 8 ≤ v2 → vp_in v2 8 ∧ ∀ σ10 : um_S, σ10 = um_up σ 70 v2.toNatClampNeg 0 → wp_Mo_run_25 Q n v1 (v2 + 1) σ10)
def wp_Mo_run (a1 : Int32) (σ : um_S) (Q : Int32 → um_S → Prop) : Prop :=
  ∀ σ1 : um_S, σ1 = um_up σ 38 0 0 → ((σ1 38 9) = 0 → Q (-1) σ1) ∧ (¬ (σ1 38 9) = 0 → (a1 < 0 → Q (-1) σ1) ∧ (¬ a1 < 0 → (a1 ≤ 5 → wp_Mo_run_25 Q 100000 a1 0 σ1) ∧ (¬ a1 ≤ 5 → Q (-1) σ1)))
set_option maxHeartbeats 4000000 in
set_option maxRecDepth 100000 in
theorem b_Mo_run_98 {Q : Int32 → um_S → Prop} (n : Nat) : ∀ (σ : um_S), wp_Mo_run_98 Q n σ → um_Ev um_cl um_AW um_L um_SX M_Mo_run 4 90 98 [some (.ref 38), none, none] [] σ (um_Qi Q) := by
  induction n with
  | zero =>
    intro σ h
    exact h.elim
  | succ n ih =>
    intro σ h
    unfold wp_Mo_run_98 at h
    refine um_aload_n (pc2 := 99) d_Mo_run_98 rfl rfl ?_
    refine um_getI (pc2 := 102) d_Mo_run_99 rfl f_Mo_106 rfl rfl ?_
    refine um_if_ne (pc2 := 105) (tgt := 140) d_Mo_run_102 rfl rfl (fun z => ?_) (fun z => ?_)
    · replace h := h.1 z
      refine um_aload_n (pc2 := 141) d_Mo_run_140 rfl rfl ?_
      refine um_getI (pc2 := 144) d_Mo_run_141 rfl f_Mo_106 rfl rfl ?_
      exact um_iret d_Mo_run_144 rfl ⟨_, rfl, h⟩
    · replace h := h.2 z
      refine um_aload_n (pc2 := 106) d_Mo_run_105 rfl rfl ?_
      refine um_getI (pc2 := 109) d_Mo_run_106 rfl f_Mo_313 rfl rfl ?_
      refine um_sipush (pc2 := 112) (v := 3000) d_Mo_run_109 rfl (by decide) ?_
      refine um_icmp_ne (pc2 := 115) (tgt := 123) d_Mo_run_112 rfl rfl (fun z => ?_) (fun z => ?_)
      · replace h := h.1 z
        refine um_aload_n (pc2 := 124) d_Mo_run_123 rfl rfl ?_
        refine um_dup (pc2 := 125) d_Mo_run_124 rfl rfl ?_
        refine um_getI (pc2 := 128) d_Mo_run_125 rfl f_Mo_313 rfl rfl ?_
        refine um_iconst (pc2 := 129) (v := 1) d_Mo_run_128 rfl (by decide) ?_
        refine um_iadd (pc2 := 130) d_Mo_run_129 rfl ?_
        refine um_putI (pc2 := 133) d_Mo_run_130 rfl fw_Mo_313 rfl rfl (um_gen (fun σ1 eσ1 => ?_))
        replace h := h σ1 eσ1
        refine um_aload_n (pc2 := 134) d_Mo_run_133 rfl rfl ?_
        refine um_callV0v (pc2 := 137) d_Mo_run_134 rfl g_Mo_316 rfl (Nat.le_of_ble_eq_true rfl) (Nat.le_of_ble_eq_true rfl) (Nat.le_of_ble_eq_true rfl) (c_Mo_step h) (fun σ2 h => ?_)
        refine um_goto (tgt := 98) d_Mo_run_137 rfl ?_
        refine um_forget [true, false, false] rfl ?_
        exact ih _ h
      · replace h := h.2 z
        refine um_aload_n (pc2 := 116) d_Mo_run_115 rfl rfl ?_
        refine um_iconst (pc2 := 117) (v := 3) d_Mo_run_116 rfl (by decide) ?_
        refine um_putI (pc2 := 120) d_Mo_run_117 rfl fw_Mo_106 rfl rfl (um_gen (fun σ3 eσ3 => ?_))
        replace h := h σ3 eσ3
        refine um_goto (tgt := 98) d_Mo_run_120 rfl ?_
        refine um_forget [true, false, false] rfl ?_
        exact ih _ h
set_option maxHeartbeats 4000000 in
set_option maxRecDepth 100000 in
theorem b_Mo_run_25 {Q : Int32 → um_S → Prop} (n : Nat) : ∀ (v1 : Int32) (v2 : Int32) (σ : um_S), wp_Mo_run_25 Q n v1 v2 σ → um_Ev um_cl um_AW um_L um_SX M_Mo_run 4 90 25 [some (.ref 38), some (.int v1), some (.int v2)] [] σ (um_Qi Q) := by
  induction n with
  | zero =>
    intro v1 v2 σ h
    exact h.elim
  | succ n ih =>
    intro v1 v2 σ h
    unfold wp_Mo_run_25 at h
    refine um_iload_n (pc2 := 26) d_Mo_run_25 rfl rfl ?_
    refine um_bipush (pc2 := 28) (v := 8) d_Mo_run_26 rfl (by decide) ?_
    refine um_icmp_ge (pc2 := 31) (tgt := 44) d_Mo_run_28 rfl rfl (fun z => ?_) (fun z => ?_)
    · replace h := h.1 z
      refine um_aload_n (pc2 := 45) d_Mo_run_44 rfl rfl ?_
      refine um_iconst (pc2 := 46) (v := 0) d_Mo_run_45 rfl (by decide) ?_
      refine um_putI (pc2 := 49) d_Mo_run_46 rfl fw_Mo_106 rfl rfl (um_gen (fun σ1 eσ1 => ?_))
      replace h := h σ1 eσ1
      refine um_aload_n (pc2 := 50) d_Mo_run_49 rfl rfl ?_
      refine um_iconst (pc2 := 51) (v := 0) d_Mo_run_50 rfl (by decide) ?_
      refine um_putI (pc2 := 54) d_Mo_run_51 rfl fw_Mo_284 rfl rfl (um_gen (fun σ2 eσ2 => ?_))
      replace h := h σ2 eσ2
      refine um_aload_n (pc2 := 55) d_Mo_run_54 rfl rfl ?_
      refine um_iconst (pc2 := 56) (v := 0) d_Mo_run_55 rfl (by decide) ?_
      refine um_putI (pc2 := 59) d_Mo_run_56 rfl fw_Mo_313 rfl rfl (um_gen (fun σ3 eσ3 => ?_))
      replace h := h σ3 eσ3
      refine um_aload_n (pc2 := 60) d_Mo_run_59 rfl rfl ?_
      refine um_iconst (pc2 := 61) (v := 0) d_Mo_run_60 rfl (by decide) ?_
      refine um_putI (pc2 := 64) d_Mo_run_61 rfl fw_Mo_301 rfl rfl (um_gen (fun σ4 eσ4 => ?_))
      replace h := h σ4 eσ4
      refine um_aload_n (pc2 := 65) d_Mo_run_64 rfl rfl ?_
      refine um_iconst (pc2 := 66) (v := 0) d_Mo_run_65 rfl (by decide) ?_
      refine um_putI (pc2 := 69) d_Mo_run_66 rfl fw_Mo_278 rfl rfl (um_gen (fun σ5 eσ5 => ?_))
      replace h := h σ5 eσ5
      refine um_aload_n (pc2 := 70) d_Mo_run_69 rfl rfl ?_
      refine um_iconst (pc2 := 71) (v := 1) d_Mo_run_70 rfl (by decide) ?_
      refine um_putI (pc2 := 74) d_Mo_run_71 rfl fw_Mo_275 rfl rfl (um_gen (fun σ6 eσ6 => ?_))
      replace h := h σ6 eσ6
      refine um_aload_n (pc2 := 75) d_Mo_run_74 rfl rfl ?_
      refine um_iconst (pc2 := 76) (v := 1) d_Mo_run_75 rfl (by decide) ?_
      refine um_putI (pc2 := 79) d_Mo_run_76 rfl fw_Mo_298 rfl rfl (um_gen (fun σ7 eσ7 => ?_))
      replace h := h σ7 eσ7
      refine um_aload_n (pc2 := 80) d_Mo_run_79 rfl rfl ?_
      refine um_getR (pc2 := 83) d_Mo_run_80 rfl f_Mo_113 rfl rfl ?_
      refine um_iconst (pc2 := 84) (v := 0) d_Mo_run_83 rfl (by decide) ?_
      refine um_aload_n (pc2 := 85) d_Mo_run_84 rfl rfl ?_
      refine um_getR (pc2 := 88) d_Mo_run_85 rfl f_Mo_55 rfl rfl ?_
      refine um_iload_n (pc2 := 89) d_Mo_run_88 rfl rfl ?_
      refine um_iald (pc2 := 90) d_Mo_run_89 rfl rfl h.1 rfl ?_
      replace h := h.2
      refine um_iast (pc2 := 91) (k := 0) d_Mo_run_90 rfl rfl (by unfold vp_in; decide) (by decide) (um_gen (fun σ8 eσ8 => ?_))
      replace h := h σ8 eσ8
      refine um_aload_n (pc2 := 92) d_Mo_run_91 rfl rfl ?_
      refine um_getR (pc2 := 95) d_Mo_run_92 rfl f_Mo_116 rfl rfl ?_
      refine um_iconst (pc2 := 96) (v := 0) d_Mo_run_95 rfl (by decide) ?_
      refine um_iconst (pc2 := 97) (v := 0) d_Mo_run_96 rfl (by decide) ?_
      refine um_iast (pc2 := 98) (k := 0) d_Mo_run_97 rfl rfl (by unfold vp_in; decide) (by decide) (um_gen (fun σ9 eσ9 => ?_))
      replace h := h σ9 eσ9
      refine um_forget [true, false, false] rfl ?_
      exact b_Mo_run_98 _ _ h
    · replace h := h.2 z
      refine um_aload_n (pc2 := 32) d_Mo_run_31 rfl rfl ?_
      refine um_getR (pc2 := 35) d_Mo_run_32 rfl f_Mo_103 rfl rfl ?_
      refine um_iload_n (pc2 := 36) d_Mo_run_35 rfl rfl ?_
      refine um_iconst (pc2 := 37) (v := 0) d_Mo_run_36 rfl (by decide) ?_
      refine um_iast (pc2 := 38) d_Mo_run_37 rfl rfl h.1 rfl (um_gen (fun σ10 eσ10 => ?_))
      replace h := h.2 σ10 eσ10
      refine um_iinc (pc2 := 41) (v := (v2 + 1)) (ls2 := [some (.ref 38), some (.int v1), some (.int (v2 + 1))]) d_Mo_run_38 rfl rfl rfl (Nat.le_of_ble_eq_true rfl) rfl ?_
      refine um_goto (tgt := 25) d_Mo_run_41 rfl ?_
      refine um_forget [true, true, true] rfl ?_
      exact ih _ _ _ h
set_option maxHeartbeats 4000000 in
set_option maxRecDepth 100000 in
theorem c_Mo_run {a1 : Int32} {σ : um_S} {Q : Int32 → um_S → Prop} (h : wp_Mo_run a1 σ Q) : um_Con um_cl um_AW um_L um_SX 4 90 M_Mo_run [.ref 38, .int a1] σ (um_Qi Q) := by
  refine um_con (by decide) (Nat.le_of_ble_eq_true rfl) (fun v hv => by simp only [List.mem_cons, List.not_mem_nil, or_false] at hv; rcases hv with rfl | rfl <;> rfl) ?_
  show um_Ev um_cl um_AW um_L um_SX M_Mo_run 4 90 0 [some (.ref 38), some (.int a1), none] [] σ (um_Qi Q)
  unfold wp_Mo_run at h
  refine um_aload_n (pc2 := 1) d_Mo_run_0 rfl rfl ?_
  refine um_iconst (pc2 := 2) (v := 0) d_Mo_run_1 rfl (by decide) ?_
  refine um_putI (pc2 := 5) d_Mo_run_2 rfl fw_Mo_125 rfl rfl (um_gen (fun σ1 eσ1 => ?_))
  replace h := h σ1 eσ1
  refine um_aload_n (pc2 := 6) d_Mo_run_5 rfl rfl ?_
  refine um_getI (pc2 := 9) d_Mo_run_6 rfl f_Mo_266 rfl rfl ?_
  refine um_if_eq (pc2 := 12) (tgt := 21) d_Mo_run_9 rfl rfl (fun z => ?_) (fun z => ?_)
  · replace h := h.1 z
    refine um_iconst (pc2 := 22) (v := (-1)) d_Mo_run_21 rfl (by decide) ?_
    exact um_iret d_Mo_run_22 rfl ⟨_, rfl, h⟩
  · replace h := h.2 z
    refine um_iload_n (pc2 := 13) d_Mo_run_12 rfl rfl ?_
    refine um_if_lt (pc2 := 16) (tgt := 21) d_Mo_run_13 rfl rfl (fun z => ?_) (fun z => ?_)
    · replace h := h.1 z
      refine um_iconst (pc2 := 22) (v := (-1)) d_Mo_run_21 rfl (by decide) ?_
      exact um_iret d_Mo_run_22 rfl ⟨_, rfl, h⟩
    · replace h := h.2 z
      refine um_iload_n (pc2 := 17) d_Mo_run_16 rfl rfl ?_
      refine um_iconst (pc2 := 18) (v := 5) d_Mo_run_17 rfl (by decide) ?_
      refine um_icmp_le (pc2 := 21) (tgt := 23) d_Mo_run_18 rfl rfl (fun z => ?_) (fun z => ?_)
      · replace h := h.1 z
        refine um_iconst (pc2 := 24) (v := 0) d_Mo_run_23 rfl (by decide) ?_
        refine um_istore_n (pc2 := 25) (ls2 := [some (.ref 38), some (.int a1), some (.int 0)]) d_Mo_run_24 rfl (Nat.le_of_ble_eq_true rfl) rfl ?_
        refine um_forget [true, true, true] rfl ?_
        exact b_Mo_run_25 _ _ _ _ h
      · replace h := h.2 z
        refine um_iconst (pc2 := 22) (v := (-1)) d_Mo_run_21 rfl (by decide) ?_
        exact um_iret d_Mo_run_22 rfl ⟨_, rfl, h⟩
def wp_Mo_latest (a1 : Int32) (σ : um_S) (Q : Int32 → um_S → Prop) : Prop :=
  ∀ σ1 : um_S, σ1 = um_up σ 38 0 0 → (¬ (σ1 38 46) = (-1) → (a1 = 0 → Q (σ1 38 46) σ1) ∧ (¬ a1 = 0 → (a1 = 1 → Q (σ1 38 47) σ1) ∧ (¬ a1 = 1 → (a1 = 2 → Q (σ1 38 48) σ1) ∧ (¬ a1 = 2 → (a1 = 3 → Q (σ1 38 49) σ1) ∧ (¬ a1 = 3 → (a1 = 4 → Q (σ1 38 51) σ1) ∧ (¬ a1 = 4 → (a1 = 5 → Q (σ1 38 52) σ1) ∧ (¬ a1 = 5 → Q (-1) σ1))))))) ∧ ((σ1 38 46) = (-1) → Q (-1) σ1)
set_option maxHeartbeats 4000000 in
set_option maxRecDepth 100000 in
theorem c_Mo_latest {a1 : Int32} {σ : um_S} {Q : Int32 → um_S → Prop} (h : wp_Mo_latest a1 σ Q) : um_Con um_cl um_AW um_L um_SX 0 0 M_Mo_latest [.ref 38, .int a1] σ (um_Qi Q) := by
  refine um_con (by decide) (Nat.le_of_ble_eq_true rfl) (fun v hv => by simp only [List.mem_cons, List.not_mem_nil, or_false] at hv; rcases hv with rfl | rfl <;> rfl) ?_
  show um_Ev um_cl um_AW um_L um_SX M_Mo_latest 0 0 0 [some (.ref 38), some (.int a1)] [] σ (um_Qi Q)
  unfold wp_Mo_latest at h
  refine um_aload_n (pc2 := 1) d_Mo_latest_0 rfl rfl ?_
  refine um_iconst (pc2 := 2) (v := 0) d_Mo_latest_1 rfl (by decide) ?_
  refine um_putI (pc2 := 5) d_Mo_latest_2 rfl fw_Mo_125 rfl rfl (um_gen (fun σ1 eσ1 => ?_))
  replace h := h σ1 eσ1
  refine um_aload_n (pc2 := 6) d_Mo_latest_5 rfl rfl ?_
  refine um_getI (pc2 := 9) d_Mo_latest_6 rfl f_Mo_106 rfl rfl ?_
  refine um_iconst (pc2 := 10) (v := (-1)) d_Mo_latest_9 rfl (by decide) ?_
  refine um_icmp_ne (pc2 := 13) (tgt := 15) d_Mo_latest_10 rfl rfl (fun z => ?_) (fun z => ?_)
  · replace h := h.1 z
    refine um_iload_n (pc2 := 16) d_Mo_latest_15 rfl rfl ?_
    by_cases z0 : a1 = 0
    · replace h := h.1 z0
      refine um_tableAt (tgt := 56) d_Mo_latest_16 z0 (kk := 0) (by decide) (by decide) (by decide) rfl rfl ?_
      refine um_aload_n (pc2 := 57) d_Mo_latest_56 rfl rfl ?_
      refine um_getI (pc2 := 60) d_Mo_latest_57 rfl f_Mo_106 rfl rfl ?_
      exact um_iret d_Mo_latest_60 rfl ⟨_, rfl, h⟩
    replace h := h.2 z0
    by_cases z1 : a1 = 1
    · replace h := h.1 z1
      refine um_tableAt (tgt := 61) d_Mo_latest_16 z1 (kk := 1) (by decide) (by decide) (by decide) rfl rfl ?_
      refine um_aload_n (pc2 := 62) d_Mo_latest_61 rfl rfl ?_
      refine um_getI (pc2 := 65) d_Mo_latest_62 rfl f_Mo_284 rfl rfl ?_
      exact um_iret d_Mo_latest_65 rfl ⟨_, rfl, h⟩
    replace h := h.2 z1
    by_cases z2 : a1 = 2
    · replace h := h.1 z2
      refine um_tableAt (tgt := 66) d_Mo_latest_16 z2 (kk := 2) (by decide) (by decide) (by decide) rfl rfl ?_
      refine um_aload_n (pc2 := 67) d_Mo_latest_66 rfl rfl ?_
      refine um_getI (pc2 := 70) d_Mo_latest_67 rfl f_Mo_313 rfl rfl ?_
      exact um_iret d_Mo_latest_70 rfl ⟨_, rfl, h⟩
    replace h := h.2 z2
    by_cases z3 : a1 = 3
    · replace h := h.1 z3
      refine um_tableAt (tgt := 71) d_Mo_latest_16 z3 (kk := 3) (by decide) (by decide) (by decide) rfl rfl ?_
      refine um_aload_n (pc2 := 72) d_Mo_latest_71 rfl rfl ?_
      refine um_getI (pc2 := 75) d_Mo_latest_72 rfl f_Mo_301 rfl rfl ?_
      exact um_iret d_Mo_latest_75 rfl ⟨_, rfl, h⟩
    replace h := h.2 z3
    by_cases z4 : a1 = 4
    · replace h := h.1 z4
      refine um_tableAt (tgt := 76) d_Mo_latest_16 z4 (kk := 4) (by decide) (by decide) (by decide) rfl rfl ?_
      refine um_aload_n (pc2 := 77) d_Mo_latest_76 rfl rfl ?_
      refine um_getI (pc2 := 80) d_Mo_latest_77 rfl f_Mo_278 rfl rfl ?_
      exact um_iret d_Mo_latest_80 rfl ⟨_, rfl, h⟩
    replace h := h.2 z4
    by_cases z5 : a1 = 5
    · replace h := h.1 z5
      refine um_tableAt (tgt := 81) d_Mo_latest_16 z5 (kk := 5) (by decide) (by decide) (by decide) rfl rfl ?_
      refine um_aload_n (pc2 := 82) d_Mo_latest_81 rfl rfl ?_
      refine um_getI (pc2 := 85) d_Mo_latest_82 rfl f_Mo_298 rfl rfl ?_
      exact um_iret d_Mo_latest_85 rfl ⟨_, rfl, h⟩
    replace h := h.2 z5
    have hE : um_Ev um_cl um_AW um_L um_SX M_Mo_latest 0 0 86 [some (.ref 38), some (.int a1)] [] σ1 (um_Qi Q) := by
      refine um_iconst (pc2 := 87) (v := (-1)) d_Mo_latest_86 rfl (by decide) ?_
      exact um_iret d_Mo_latest_87 rfl ⟨_, rfl, h⟩
    exact um_tableOut (tgt := 86) d_Mo_latest_16 (by have := um_toInt_ne (kk := 0) z0 (by decide); have := um_toInt_ne (kk := 1) z1 (by decide); have := um_toInt_ne (kk := 2) z2 (by decide); have := um_toInt_ne (kk := 3) z3 (by decide); have := um_toInt_ne (kk := 4) z4 (by decide); have := um_toInt_ne (kk := 5) z5 (by decide); omega) rfl hE
  · replace h := h.2 z
    refine um_iconst (pc2 := 14) (v := (-1)) d_Mo_latest_13 rfl (by decide) ?_
    exact um_iret d_Mo_latest_14 rfl ⟨_, rfl, h⟩
def wp_Mo_out (a1 : Int32) (σ : um_S) (Q : Int32 → um_S → Prop) : Prop :=
  ∀ σ1 : um_S, σ1 = um_up σ 38 0 0 → (a1 < 0 → Q 0 σ1) ∧ (¬ a1 < 0 → ((σ1 38 49) ≤ a1 → Q 0 σ1) ∧ (¬ (σ1 38 49) ≤ a1 → vp_in a1 64 ∧ Q (σ1 71 a1.toNatClampNeg) σ1))
set_option maxHeartbeats 4000000 in
set_option maxRecDepth 100000 in
theorem c_Mo_out {a1 : Int32} {σ : um_S} {Q : Int32 → um_S → Prop} (h : wp_Mo_out a1 σ Q) : um_Con um_cl um_AW um_L um_SX 0 0 M_Mo_out [.ref 38, .int a1] σ (um_Qi Q) := by
  refine um_con (by decide) (Nat.le_of_ble_eq_true rfl) (fun v hv => by simp only [List.mem_cons, List.not_mem_nil, or_false] at hv; rcases hv with rfl | rfl <;> rfl) ?_
  show um_Ev um_cl um_AW um_L um_SX M_Mo_out 0 0 0 [some (.ref 38), some (.int a1)] [] σ (um_Qi Q)
  unfold wp_Mo_out at h
  refine um_aload_n (pc2 := 1) d_Mo_out_0 rfl rfl ?_
  refine um_iconst (pc2 := 2) (v := 0) d_Mo_out_1 rfl (by decide) ?_
  refine um_putI (pc2 := 5) d_Mo_out_2 rfl fw_Mo_125 rfl rfl (um_gen (fun σ1 eσ1 => ?_))
  replace h := h σ1 eσ1
  refine um_iload_n (pc2 := 6) d_Mo_out_5 rfl rfl ?_
  refine um_if_lt (pc2 := 9) (tgt := 26) d_Mo_out_6 rfl rfl (fun z => ?_) (fun z => ?_)
  · replace h := h.1 z
    refine um_iconst (pc2 := 27) (v := 0) d_Mo_out_26 rfl (by decide) ?_
    exact um_iret d_Mo_out_27 rfl ⟨_, rfl, h⟩
  · replace h := h.2 z
    refine um_iload_n (pc2 := 10) d_Mo_out_9 rfl rfl ?_
    refine um_aload_n (pc2 := 11) d_Mo_out_10 rfl rfl ?_
    refine um_getI (pc2 := 14) d_Mo_out_11 rfl f_Mo_301 rfl rfl ?_
    refine um_icmp_ge (pc2 := 17) (tgt := 26) d_Mo_out_14 rfl rfl (fun z => ?_) (fun z => ?_)
    · replace h := h.1 z
      refine um_iconst (pc2 := 27) (v := 0) d_Mo_out_26 rfl (by decide) ?_
      exact um_iret d_Mo_out_27 rfl ⟨_, rfl, h⟩
    · replace h := h.2 z
      refine um_aload_n (pc2 := 18) d_Mo_out_17 rfl rfl ?_
      refine um_getR (pc2 := 21) d_Mo_out_18 rfl f_Mo_110 rfl rfl ?_
      refine um_iload_n (pc2 := 22) d_Mo_out_21 rfl rfl ?_
      refine um_iald (pc2 := 23) d_Mo_out_22 rfl rfl h.1 rfl ?_
      replace h := h.2
      refine um_goto (tgt := 27) d_Mo_out_23 rfl ?_
      exact um_iret d_Mo_out_27 rfl ⟨_, rfl, h⟩
def wp_Mo_variable (a1 : Int32) (σ : um_S) (Q : Int32 → um_S → Prop) : Prop :=
  ∀ σ1 : um_S, σ1 = um_up σ 38 0 0 → wp_Mo_isVariable a1 σ1 (fun t3 σ2 => (t3 = false → Q 0 σ2) ∧ (t3 = true → vp_in a1 8 ∧ Q (σ2 70 a1.toNatClampNeg) σ2))
set_option maxHeartbeats 4000000 in
set_option maxRecDepth 100000 in
theorem c_Mo_variable {a1 : Int32} {σ : um_S} {Q : Int32 → um_S → Prop} (h : wp_Mo_variable a1 σ Q) : um_Con um_cl um_AW um_L um_SX 1 20 M_Mo_variable [.ref 38, .int a1] σ (um_Qi Q) := by
  refine um_con (by decide) (Nat.le_of_ble_eq_true rfl) (fun v hv => by simp only [List.mem_cons, List.not_mem_nil, or_false] at hv; rcases hv with rfl | rfl <;> rfl) ?_
  show um_Ev um_cl um_AW um_L um_SX M_Mo_variable 1 20 0 [some (.ref 38), some (.int a1)] [] σ (um_Qi Q)
  unfold wp_Mo_variable at h
  refine um_aload_n (pc2 := 1) d_Mo_variable_0 rfl rfl ?_
  refine um_iconst (pc2 := 2) (v := 0) d_Mo_variable_1 rfl (by decide) ?_
  refine um_putI (pc2 := 5) d_Mo_variable_2 rfl fw_Mo_125 rfl rfl (um_gen (fun σ1 eσ1 => ?_))
  replace h := h σ1 eσ1
  refine um_iload_n (pc2 := 6) d_Mo_variable_5 rfl rfl ?_
  refine um_callS1z (pc2 := 9) d_Mo_variable_6 rfl g_Mo_135 (Nat.le_of_ble_eq_true rfl) (Nat.le_of_ble_eq_true rfl) (Nat.le_of_ble_eq_true rfl) (c_Mo_isVariable h) (fun t3 σ2 h => ?_)
  refine um_if_eq (pc2 := 12) (tgt := 21) d_Mo_variable_9 rfl rfl (fun z => ?_) (fun z => ?_)
  · replace h := h.1 (um_b0 z)
    refine um_iconst (pc2 := 22) (v := 0) d_Mo_variable_21 rfl (by decide) ?_
    exact um_iret d_Mo_variable_22 rfl ⟨_, rfl, h⟩
  · replace h := h.2 (um_b1 z)
    refine um_aload_n (pc2 := 13) d_Mo_variable_12 rfl rfl ?_
    refine um_getR (pc2 := 16) d_Mo_variable_13 rfl f_Mo_103 rfl rfl ?_
    refine um_iload_n (pc2 := 17) d_Mo_variable_16 rfl rfl ?_
    refine um_iald (pc2 := 18) d_Mo_variable_17 rfl rfl h.1 rfl ?_
    replace h := h.2
    refine um_goto (tgt := 22) d_Mo_variable_18 rfl ?_
    exact um_iret d_Mo_variable_22 rfl ⟨_, rfl, h⟩
def wp_Mo_thrown (σ : um_S) (Q : Int32 → um_S → Prop) : Prop :=
  Q (σ 38 0) σ
set_option maxHeartbeats 4000000 in
set_option maxRecDepth 100000 in
theorem c_Mo_thrown {σ : um_S} {Q : Int32 → um_S → Prop} (h : wp_Mo_thrown σ Q) : um_Con um_cl um_AW um_L um_SX 0 0 M_Mo_thrown [.ref 38] σ (um_Qi Q) := by
  refine um_con (by decide) (Nat.le_of_ble_eq_true rfl) (fun v hv => by simp only [List.mem_cons, List.not_mem_nil, or_false] at hv; rcases hv with rfl <;> rfl) ?_
  show um_Ev um_cl um_AW um_L um_SX M_Mo_thrown 0 0 0 [some (.ref 38)] [] σ (um_Qi Q)
  unfold wp_Mo_thrown at h
  refine um_aload_n (pc2 := 1) d_Mo_thrown_0 rfl rfl ?_
  refine um_getI (pc2 := 4) d_Mo_thrown_1 rfl f_Mo_125 rfl rfl ?_
  exact um_iret d_Mo_thrown_4 rfl ⟨_, rfl, h⟩
