def wp_La_finish (a1 : Int32) (a2 : Int32) (a3 : Int32) (σ : um_S) (Q : um_S → Prop) : Prop :=
  vp_in a1 2001 ∧ wp_La_emit a2 a3 (σ 32 a1.toNatClampNeg) σ (fun σ1 => wp_Wo_pop σ1 (fun σ2 => Q σ2))
set_option maxHeartbeats 4000000 in
set_option maxRecDepth 100000 in
theorem c_La_finish {a1 : Int32} {a2 : Int32} {a3 : Int32} {σ : um_S} {Q : um_S → Prop} (h : wp_La_finish a1 a2 a3 σ Q) : um_Con um_cl um_AW um_L um_SX 1 23 M_La_finish [.ref 3, .int a1, .int a2, .int a3] σ (um_Qv Q) := by
  refine um_con (by decide) (Nat.le_of_ble_eq_true rfl) (fun v hv => by simp only [List.mem_cons, List.not_mem_nil, or_false] at hv; rcases hv with rfl | rfl | rfl | rfl <;> rfl) ?_
  show um_Ev um_cl um_AW um_L um_SX M_La_finish 1 23 0 [some (.ref 3), some (.int a1), some (.int a2), some (.int a3)] [] σ (um_Qv Q)
  unfold wp_La_finish at h
  refine um_aload_n (pc2 := 1) d_La_finish_0 rfl rfl ?_
  refine um_iload_n (pc2 := 2) d_La_finish_1 rfl rfl ?_
  refine um_iload_n (pc2 := 3) d_La_finish_2 rfl rfl ?_
  refine um_aload_n (pc2 := 4) d_La_finish_3 rfl rfl ?_
  refine um_getR (pc2 := 7) d_La_finish_4 rfl f_La_21 rfl rfl ?_
  refine um_getR (pc2 := 10) d_La_finish_7 rfl f_La_154 rfl rfl ?_
  refine um_iload_n (pc2 := 11) d_La_finish_10 rfl rfl ?_
  refine um_iald (pc2 := 12) d_La_finish_11 rfl rfl h.1 rfl ?_
  replace h := h.2
  refine um_callV3v (pc2 := 15) d_La_finish_12 rfl g_La_95 rfl (Nat.le_of_ble_eq_true rfl) (Nat.le_of_ble_eq_true rfl) (Nat.le_of_ble_eq_true rfl) (c_La_emit h) (fun σ1 h => ?_)
  refine um_aload_n (pc2 := 16) d_La_finish_15 rfl rfl ?_
  refine um_getR (pc2 := 19) d_La_finish_16 rfl f_La_21 rfl rfl ?_
  refine um_callV0v (pc2 := 22) d_La_finish_19 rfl g_La_147 rfl (Nat.le_of_ble_eq_true rfl) (Nat.le_of_ble_eq_true rfl) (Nat.le_of_ble_eq_true rfl) (c_Wo_pop h) (fun σ2 h => ?_)
  exact um_vret d_La_finish_22 rfl ⟨rfl, h⟩
def wp_La_behind (a0 : Int32) (σ : um_S) (Q : Int32 → um_S → Prop) : Prop :=
  Q (-a0) σ
set_option maxHeartbeats 4000000 in
set_option maxRecDepth 100000 in
theorem c_La_behind {a0 : Int32} {σ : um_S} {Q : Int32 → um_S → Prop} (h : wp_La_behind a0 σ Q) : um_Con um_cl um_AW um_L um_SX 0 0 M_La_behind [.int a0] σ (um_Qi Q) := by
  refine um_con (by decide) (Nat.le_of_ble_eq_true rfl) (fun v hv => by simp only [List.mem_cons, List.not_mem_nil, or_false] at hv; rcases hv with rfl <;> rfl) ?_
  show um_Ev um_cl um_AW um_L um_SX M_La_behind 0 0 0 [some (.int a0)] [] σ (um_Qi Q)
  unfold wp_La_behind at h
  refine um_iload_n (pc2 := 1) d_La_behind_0 rfl rfl ?_
  refine um_ineg (pc2 := 2) d_La_behind_1 rfl ?_
  exact um_iret d_La_behind_2 rfl ⟨_, rfl, h⟩
def wp_Sc_open_67 (Q : Int32 → um_S → Prop) (v2 : Int32) (v3 : Int32) (σ : um_S) : Prop :=
  vp_in v3 2001 ∧ vp_in v3 2001 ∧ (¬ (σ 25 v3.toNatClampNeg) = (-1) → vp_in v2 2001 ∧ ∀ σ1 : um_S, σ1 = um_up σ 28 v2.toNatClampNeg ((σ 28 v3.toNatClampNeg) + 1) → Q v2 σ1) ∧ ((σ 25 v3.toNatClampNeg) = (-1) → vp_in v2 2001 ∧ ∀ σ2 : um_S, σ2 = um_up σ 28 v2.toNatClampNeg ((σ 28 v3.toNatClampNeg) + 0) → Q v2 σ2)
def wp_Sc_open_20 (Q : Int32 → um_S → Prop) (v1 : Int32) (σ : um_S) : Prop :=
  ∀ x1 : Int32, x1 = ((σ 5 9) - 1) → wp_Sc_scopeOf v1 σ (fun x3 σ2 => vp_in x1 2001 ∧ ∀ σ4 : um_S, σ4 = um_up σ2 23 x1.toNatClampNeg v1 → vp_in x3 2001 ∧ vp_in x3 2001 ∧ (¬ (σ4 24 x3.toNatClampNeg) = (-1) → vp_in x1 2001 ∧ ∀ σ5 : um_S, σ5 = um_up σ4 27 x1.toNatClampNeg ((σ4 27 x3.toNatClampNeg) + 1) → wp_Sc_open_67 Q x1 x3 σ5) ∧ ((σ4 24 x3.toNatClampNeg) = (-1) → vp_in x1 2001 ∧ ∀ σ6 : um_S, σ6 = um_up σ4 27 x1.toNatClampNeg ((σ4 27 x3.toNatClampNeg) + 0) → wp_Sc_open_67 Q x1 x3 σ6))
def wp_Sc_open (a1 : Int32) (σ : um_S) (Q : Int32 → um_S → Prop) : Prop :=
  (2001 ≤ (σ 5 9) → wp_Sc_open_20 Q a1 σ) ∧ (¬ 2001 ≤ (σ 5 9) → ∀ σ1 : um_S, σ1 = um_up σ 5 9 ((σ 5 9) + 1) → wp_Sc_open_20 Q a1 σ1)
set_option maxHeartbeats 4000000 in
set_option maxRecDepth 100000 in
theorem b_Sc_open_67 {Q : Int32 → um_S → Prop} {v2 : Int32} {v3 : Int32} {σ : um_S} (h : wp_Sc_open_67 Q v2 v3 σ) : um_Ev um_cl um_AW um_L um_SX M_Sc_open 1 20 67 [some (.ref 5), none, some (.int v2), some (.int v3)] [] σ (um_Qi Q) := by
  unfold wp_Sc_open_67 at h
  refine um_aload_n (pc2 := 68) d_Sc_open_67 rfl rfl ?_
  refine um_getR (pc2 := 71) d_Sc_open_68 rfl f_Sc_27 rfl rfl ?_
  refine um_iload_n (pc2 := 72) d_Sc_open_71 rfl rfl ?_
  refine um_aload_n (pc2 := 73) d_Sc_open_72 rfl rfl ?_
  refine um_getR (pc2 := 76) d_Sc_open_73 rfl f_Sc_27 rfl rfl ?_
  refine um_iload_n (pc2 := 77) d_Sc_open_76 rfl rfl ?_
  refine um_iald (pc2 := 78) d_Sc_open_77 rfl rfl h.1 rfl ?_
  replace h := h.2
  refine um_aload_n (pc2 := 79) d_Sc_open_78 rfl rfl ?_
  refine um_getR (pc2 := 82) d_Sc_open_79 rfl f_Sc_18 rfl rfl ?_
  refine um_iload_n (pc2 := 83) d_Sc_open_82 rfl rfl ?_
  refine um_iald (pc2 := 84) d_Sc_open_83 rfl rfl h.1 rfl ?_
  replace h := h.2
  refine um_iconst (pc2 := 85) (v := (-1)) d_Sc_open_84 rfl (by decide) ?_
  refine um_icmp_ne (pc2 := 88) (tgt := 92) d_Sc_open_85 rfl rfl (fun z => ?_) (fun z => ?_)
  · replace h := h.1 z
    refine um_iconst (pc2 := 93) (v := 1) d_Sc_open_92 rfl (by decide) ?_
    refine um_iadd (pc2 := 94) d_Sc_open_93 rfl ?_
    refine um_iast (pc2 := 95) d_Sc_open_94 rfl rfl h.1 rfl (um_gen (fun σ1 eσ1 => ?_))
    replace h := h.2 σ1 eσ1
    refine um_iload_n (pc2 := 96) d_Sc_open_95 rfl rfl ?_
    exact um_iret d_Sc_open_96 rfl ⟨_, rfl, h⟩
  · replace h := h.2 z
    refine um_iconst (pc2 := 89) (v := 0) d_Sc_open_88 rfl (by decide) ?_
    refine um_goto (tgt := 93) d_Sc_open_89 rfl ?_
    refine um_iadd (pc2 := 94) d_Sc_open_93 rfl ?_
    refine um_iast (pc2 := 95) d_Sc_open_94 rfl rfl h.1 rfl (um_gen (fun σ2 eσ2 => ?_))
    replace h := h.2 σ2 eσ2
    refine um_iload_n (pc2 := 96) d_Sc_open_95 rfl rfl ?_
    exact um_iret d_Sc_open_96 rfl ⟨_, rfl, h⟩
set_option maxHeartbeats 4000000 in
set_option maxRecDepth 100000 in
theorem b_Sc_open_20 {Q : Int32 → um_S → Prop} {v1 : Int32} {σ : um_S} (h : wp_Sc_open_20 Q v1 σ) : um_Ev um_cl um_AW um_L um_SX M_Sc_open 1 20 20 [some (.ref 5), some (.int v1), none, none] [] σ (um_Qi Q) := by
  unfold wp_Sc_open_20 at h
  refine um_aload_n (pc2 := 21) d_Sc_open_20 rfl rfl ?_
  refine um_getI (pc2 := 24) d_Sc_open_21 rfl f_Sc_40 rfl rfl ?_
  refine um_iconst (pc2 := 25) (v := 1) d_Sc_open_24 rfl (by decide) ?_
  refine um_isub (pc2 := 26) d_Sc_open_25 rfl ?_
  refine um_top (fun x1 ex1 => ?_)
  replace h := h x1 ex1
  refine um_istore_n (pc2 := 27) (ls2 := [some (.ref 5), some (.int v1), some (.int x1), none]) d_Sc_open_26 rfl (Nat.le_of_ble_eq_true rfl) rfl ?_
  refine um_iload_n (pc2 := 28) d_Sc_open_27 rfl rfl ?_
  refine um_callS1i (pc2 := 31) d_Sc_open_28 rfl g_Sc_47 (Nat.le_of_ble_eq_true rfl) (Nat.le_of_ble_eq_true rfl) (Nat.le_of_ble_eq_true rfl) (c_Sc_scopeOf h) (fun x3 σ2 h => ?_)
  refine um_istore_n (pc2 := 32) (ls2 := [some (.ref 5), some (.int v1), some (.int x1), some (.int x3)]) d_Sc_open_31 rfl (Nat.le_of_ble_eq_true rfl) rfl ?_
  refine um_aload_n (pc2 := 33) d_Sc_open_32 rfl rfl ?_
  refine um_getR (pc2 := 36) d_Sc_open_33 rfl f_Sc_11 rfl rfl ?_
  refine um_iload_n (pc2 := 37) d_Sc_open_36 rfl rfl ?_
  refine um_iload_n (pc2 := 38) d_Sc_open_37 rfl rfl ?_
  refine um_iast (pc2 := 39) d_Sc_open_38 rfl rfl h.1 rfl (um_gen (fun σ4 eσ4 => ?_))
  replace h := h.2 σ4 eσ4
  refine um_aload_n (pc2 := 40) d_Sc_open_39 rfl rfl ?_
  refine um_getR (pc2 := 43) d_Sc_open_40 rfl f_Sc_24 rfl rfl ?_
  refine um_iload_n (pc2 := 44) d_Sc_open_43 rfl rfl ?_
  refine um_aload_n (pc2 := 45) d_Sc_open_44 rfl rfl ?_
  refine um_getR (pc2 := 48) d_Sc_open_45 rfl f_Sc_24 rfl rfl ?_
  refine um_iload_n (pc2 := 49) d_Sc_open_48 rfl rfl ?_
  refine um_iald (pc2 := 50) d_Sc_open_49 rfl rfl h.1 rfl ?_
  replace h := h.2
  refine um_aload_n (pc2 := 51) d_Sc_open_50 rfl rfl ?_
  refine um_getR (pc2 := 54) d_Sc_open_51 rfl f_Sc_15 rfl rfl ?_
  refine um_iload_n (pc2 := 55) d_Sc_open_54 rfl rfl ?_
  refine um_iald (pc2 := 56) d_Sc_open_55 rfl rfl h.1 rfl ?_
  replace h := h.2
  refine um_iconst (pc2 := 57) (v := (-1)) d_Sc_open_56 rfl (by decide) ?_
  refine um_icmp_ne (pc2 := 60) (tgt := 64) d_Sc_open_57 rfl rfl (fun z => ?_) (fun z => ?_)
  · replace h := h.1 z
    refine um_iconst (pc2 := 65) (v := 1) d_Sc_open_64 rfl (by decide) ?_
    refine um_iadd (pc2 := 66) d_Sc_open_65 rfl ?_
    refine um_iast (pc2 := 67) d_Sc_open_66 rfl rfl h.1 rfl (um_gen (fun σ5 eσ5 => ?_))
    replace h := h.2 σ5 eσ5
    refine um_forget [true, false, true, true] rfl ?_
    exact b_Sc_open_67 h
  · replace h := h.2 z
    refine um_iconst (pc2 := 61) (v := 0) d_Sc_open_60 rfl (by decide) ?_
    refine um_goto (tgt := 65) d_Sc_open_61 rfl ?_
    refine um_iadd (pc2 := 66) d_Sc_open_65 rfl ?_
    refine um_iast (pc2 := 67) d_Sc_open_66 rfl rfl h.1 rfl (um_gen (fun σ6 eσ6 => ?_))
    replace h := h.2 σ6 eσ6
    refine um_forget [true, false, true, true] rfl ?_
    exact b_Sc_open_67 h
set_option maxHeartbeats 4000000 in
set_option maxRecDepth 100000 in
theorem c_Sc_open {a1 : Int32} {σ : um_S} {Q : Int32 → um_S → Prop} (h : wp_Sc_open a1 σ Q) : um_Con um_cl um_AW um_L um_SX 1 20 M_Sc_open [.ref 5, .int a1] σ (um_Qi Q) := by
  refine um_con (by decide) (Nat.le_of_ble_eq_true rfl) (fun v hv => by simp only [List.mem_cons, List.not_mem_nil, or_false] at hv; rcases hv with rfl | rfl <;> rfl) ?_
  show um_Ev um_cl um_AW um_L um_SX M_Sc_open 1 20 0 [some (.ref 5), some (.int a1), none, none] [] σ (um_Qi Q)
  unfold wp_Sc_open at h
  refine um_aload_n (pc2 := 1) d_Sc_open_0 rfl rfl ?_
  refine um_getI (pc2 := 4) d_Sc_open_1 rfl f_Sc_40 rfl rfl ?_
  refine um_sipush (pc2 := 7) (v := 2001) d_Sc_open_4 rfl (by decide) ?_
  refine um_icmp_ge (pc2 := 10) (tgt := 20) d_Sc_open_7 rfl rfl (fun z => ?_) (fun z => ?_)
  · replace h := h.1 z
    refine um_forget [true, true, false, false] rfl ?_
    exact b_Sc_open_20 h
  · replace h := h.2 z
    refine um_aload_n (pc2 := 11) d_Sc_open_10 rfl rfl ?_
    refine um_dup (pc2 := 12) d_Sc_open_11 rfl rfl ?_
    refine um_getI (pc2 := 15) d_Sc_open_12 rfl f_Sc_40 rfl rfl ?_
    refine um_iconst (pc2 := 16) (v := 1) d_Sc_open_15 rfl (by decide) ?_
    refine um_iadd (pc2 := 17) d_Sc_open_16 rfl ?_
    refine um_putI (pc2 := 20) d_Sc_open_17 rfl fw_Sc_40 rfl rfl (um_gen (fun σ1 eσ1 => ?_))
    replace h := h σ1 eσ1
    refine um_forget [true, true, false, false] rfl ?_
    exact b_Sc_open_20 h
def wp_Sc_openLoop (a1 : Int32) (σ : um_S) (Q : Int32 → um_S → Prop) : Prop :=
  wp_Sc_open a1 σ (fun x2 σ1 => vp_in x2 2001 ∧ ∀ σ3 : um_S, σ3 = um_up σ1 24 x2.toNatClampNeg (-1) → vp_in x2 2001 ∧ ∀ σ4 : um_S, σ4 = um_up σ3 25 x2.toNatClampNeg (-1) → vp_in x2 2001 ∧ ∀ σ5 : um_S, σ5 = um_up σ4 26 x2.toNatClampNeg x2 → Q x2 σ5)
set_option maxHeartbeats 4000000 in
set_option maxRecDepth 100000 in
theorem c_Sc_openLoop {a1 : Int32} {σ : um_S} {Q : Int32 → um_S → Prop} (h : wp_Sc_openLoop a1 σ Q) : um_Con um_cl um_AW um_L um_SX 2 43 M_Sc_openLoop [.ref 5, .int a1] σ (um_Qi Q) := by
  refine um_con (by decide) (Nat.le_of_ble_eq_true rfl) (fun v hv => by simp only [List.mem_cons, List.not_mem_nil, or_false] at hv; rcases hv with rfl | rfl <;> rfl) ?_
  show um_Ev um_cl um_AW um_L um_SX M_Sc_openLoop 2 43 0 [some (.ref 5), some (.int a1), none] [] σ (um_Qi Q)
  unfold wp_Sc_openLoop at h
  refine um_aload_n (pc2 := 1) d_Sc_openLoop_0 rfl rfl ?_
  refine um_iload_n (pc2 := 2) d_Sc_openLoop_1 rfl rfl ?_
  refine um_callV1i (pc2 := 5) d_Sc_openLoop_2 rfl g_Sc_43 rfl (Nat.le_of_ble_eq_true rfl) (Nat.le_of_ble_eq_true rfl) (Nat.le_of_ble_eq_true rfl) (c_Sc_open h) (fun x2 σ1 h => ?_)
  refine um_istore_n (pc2 := 6) (ls2 := [some (.ref 5), some (.int a1), some (.int x2)]) d_Sc_openLoop_5 rfl (Nat.le_of_ble_eq_true rfl) rfl ?_
  refine um_aload_n (pc2 := 7) d_Sc_openLoop_6 rfl rfl ?_
  refine um_getR (pc2 := 10) d_Sc_openLoop_7 rfl f_Sc_15 rfl rfl ?_
  refine um_iload_n (pc2 := 11) d_Sc_openLoop_10 rfl rfl ?_
  refine um_iconst (pc2 := 12) (v := (-1)) d_Sc_openLoop_11 rfl (by decide) ?_
  refine um_iast (pc2 := 13) d_Sc_openLoop_12 rfl rfl h.1 rfl (um_gen (fun σ3 eσ3 => ?_))
  replace h := h.2 σ3 eσ3
  refine um_aload_n (pc2 := 14) d_Sc_openLoop_13 rfl rfl ?_
  refine um_getR (pc2 := 17) d_Sc_openLoop_14 rfl f_Sc_18 rfl rfl ?_
  refine um_iload_n (pc2 := 18) d_Sc_openLoop_17 rfl rfl ?_
  refine um_iconst (pc2 := 19) (v := (-1)) d_Sc_openLoop_18 rfl (by decide) ?_
  refine um_iast (pc2 := 20) d_Sc_openLoop_19 rfl rfl h.1 rfl (um_gen (fun σ4 eσ4 => ?_))
  replace h := h.2 σ4 eσ4
  refine um_aload_n (pc2 := 21) d_Sc_openLoop_20 rfl rfl ?_
  refine um_getR (pc2 := 24) d_Sc_openLoop_21 rfl f_Sc_21 rfl rfl ?_
  refine um_iload_n (pc2 := 25) d_Sc_openLoop_24 rfl rfl ?_
  refine um_iload_n (pc2 := 26) d_Sc_openLoop_25 rfl rfl ?_
  refine um_iast (pc2 := 27) d_Sc_openLoop_26 rfl rfl h.1 rfl (um_gen (fun σ5 eσ5 => ?_))
  replace h := h.2 σ5 eσ5
  refine um_iload_n (pc2 := 28) d_Sc_openLoop_27 rfl rfl ?_
  exact um_iret d_Sc_openLoop_28 rfl ⟨_, rfl, h⟩
def wp_La_turnWhile (a1 : Int32) (a2 : Int32) (a3 : Int32) (σ : um_S) (Q : um_S → Prop) : Prop :=
  (¬ a3 = 0 → vp_in a1 2001 ∧ ∀ x1 : Int32, x1 = (σ 32 a1.toNatClampNeg) → wp_Sc_scopeOf x1 σ (fun x3 σ2 => (¬ a3 = 1 → vp_in a1 2001 ∧ wp_La_finish a1 11 (σ2 34 a1.toNatClampNeg) σ2 (fun σ4 => vp_in x3 2001 ∧ ∀ σ5 : um_S, σ5 = um_up σ4 29 x3.toNatClampNeg (σ4 2 5) → Q σ5)) ∧ (a3 = 1 → wp_La_behind x3 σ2 (fun x7 σ6 => wp_La_emit 10 x7 x1 σ6 (fun σ8 => wp_Tr_part a2 1 σ8 (fun x10 σ9 => wp_La_begin x10 x1 σ9 (fun σ11 => Q σ11))))))) ∧ (a3 = 0 → vp_in a1 2001 ∧ wp_Sc_openLoop (σ 32 a1.toNatClampNeg) σ (fun x13 σ12 => wp_Sc_within x13 0 σ12 (fun x15 σ14 => vp_in a1 2001 ∧ ∀ σ16 : um_S, σ16 = um_up σ14 32 a1.toNatClampNeg x15 → vp_in a1 2001 ∧ ∀ σ17 : um_S, σ17 = um_up σ16 34 a1.toNatClampNeg (σ16 2 5) → wp_Tr_part a2 0 σ17 (fun x19 σ18 => vp_in a1 2001 ∧ wp_La_begin x19 (σ18 32 a1.toNatClampNeg) σ18 (fun σ20 => Q σ20)))))
set_option maxHeartbeats 4000000 in
set_option maxRecDepth 100000 in
theorem c_La_turnWhile {a1 : Int32} {a2 : Int32} {a3 : Int32} {σ : um_S} {Q : um_S → Prop} (h : wp_La_turnWhile a1 a2 a3 σ Q) : um_Con um_cl um_AW um_L um_SX 3 65 M_La_turnWhile [.ref 3, .int a1, .int a2, .int a3] σ (um_Qv Q) := by
  refine um_con (by decide) (Nat.le_of_ble_eq_true rfl) (fun v hv => by simp only [List.mem_cons, List.not_mem_nil, or_false] at hv; rcases hv with rfl | rfl | rfl | rfl <;> rfl) ?_
  show um_Ev um_cl um_AW um_L um_SX M_La_turnWhile 3 65 0 [some (.ref 3), some (.int a1), some (.int a2), some (.int a3), none, none] [] σ (um_Qv Q)
  unfold wp_La_turnWhile at h
  refine um_iload_n (pc2 := 1) d_La_turnWhile_0 rfl rfl ?_
  refine um_if_ne (pc2 := 4) (tgt := 72) d_La_turnWhile_1 rfl rfl (fun z => ?_) (fun z => ?_)
  · replace h := h.1 z
    refine um_aload_n (pc2 := 73) d_La_turnWhile_72 rfl rfl ?_
    refine um_getR (pc2 := 76) d_La_turnWhile_73 rfl f_La_21 rfl rfl ?_
    refine um_getR (pc2 := 79) d_La_turnWhile_76 rfl f_La_154 rfl rfl ?_
    refine um_iload_n (pc2 := 80) d_La_turnWhile_79 rfl rfl ?_
    refine um_iald (pc2 := 81) d_La_turnWhile_80 rfl rfl h.1 rfl ?_
    replace h := h.2
    refine um_top (fun x1 ex1 => ?_)
    replace h := h x1 ex1
    refine um_istore (pc2 := 83) (ls2 := [some (.ref 3), some (.int a1), some (.int a2), some (.int a3), some (.int x1), none]) d_La_turnWhile_81 rfl (Nat.le_of_ble_eq_true rfl) rfl ?_
    refine um_iload (pc2 := 85) d_La_turnWhile_83 rfl rfl ?_
    refine um_callS1i (pc2 := 88) d_La_turnWhile_85 rfl g_La_166 (Nat.le_of_ble_eq_true rfl) (Nat.le_of_ble_eq_true rfl) (Nat.le_of_ble_eq_true rfl) (c_Sc_scopeOf h) (fun x3 σ2 h => ?_)
    refine um_istore (pc2 := 90) (ls2 := [some (.ref 3), some (.int a1), some (.int a2), some (.int a3), some (.int x1), some (.int x3)]) d_La_turnWhile_88 rfl (Nat.le_of_ble_eq_true rfl) rfl ?_
    refine um_iload_n (pc2 := 91) d_La_turnWhile_90 rfl rfl ?_
    refine um_iconst (pc2 := 92) (v := 1) d_La_turnWhile_91 rfl (by decide) ?_
    refine um_icmp_ne (pc2 := 95) (tgt := 126) d_La_turnWhile_92 rfl rfl (fun z => ?_) (fun z => ?_)
    · replace h := h.1 z
      refine um_aload_n (pc2 := 127) d_La_turnWhile_126 rfl rfl ?_
      refine um_iload_n (pc2 := 128) d_La_turnWhile_127 rfl rfl ?_
      refine um_bipush (pc2 := 130) (v := 11) d_La_turnWhile_128 rfl (by decide) ?_
      refine um_aload_n (pc2 := 131) d_La_turnWhile_130 rfl rfl ?_
      refine um_getR (pc2 := 134) d_La_turnWhile_131 rfl f_La_21 rfl rfl ?_
      refine um_getR (pc2 := 137) d_La_turnWhile_134 rfl f_La_157 rfl rfl ?_
      refine um_iload_n (pc2 := 138) d_La_turnWhile_137 rfl rfl ?_
      refine um_iald (pc2 := 139) d_La_turnWhile_138 rfl rfl h.1 rfl ?_
      replace h := h.2
      refine um_callV3v (pc2 := 142) d_La_turnWhile_139 rfl g_La_144 rfl (Nat.le_of_ble_eq_true rfl) (Nat.le_of_ble_eq_true rfl) (Nat.le_of_ble_eq_true rfl) (c_La_finish h) (fun σ4 h => ?_)
      refine um_aload_n (pc2 := 143) d_La_turnWhile_142 rfl rfl ?_
      refine um_getR (pc2 := 146) d_La_turnWhile_143 rfl f_La_12 rfl rfl ?_
      refine um_getR (pc2 := 149) d_La_turnWhile_146 rfl f_La_172 rfl rfl ?_
      refine um_iload (pc2 := 151) d_La_turnWhile_149 rfl rfl ?_
      refine um_aload_n (pc2 := 152) d_La_turnWhile_151 rfl rfl ?_
      refine um_getR (pc2 := 155) d_La_turnWhile_152 rfl f_La_40 rfl rfl ?_
      refine um_getI (pc2 := 158) d_La_turnWhile_155 rfl f_La_74 rfl rfl ?_
      refine um_iast (pc2 := 159) d_La_turnWhile_158 rfl rfl h.1 rfl (um_gen (fun σ5 eσ5 => ?_))
      replace h := h.2 σ5 eσ5
      exact um_vret d_La_turnWhile_159 rfl ⟨rfl, h⟩
    · replace h := h.2 z
      refine um_aload_n (pc2 := 96) d_La_turnWhile_95 rfl rfl ?_
      refine um_bipush (pc2 := 98) (v := 10) d_La_turnWhile_96 rfl (by decide) ?_
      refine um_iload (pc2 := 100) d_La_turnWhile_98 rfl rfl ?_
      refine um_callS1i (pc2 := 103) d_La_turnWhile_100 rfl g_La_169 (Nat.le_of_ble_eq_true rfl) (Nat.le_of_ble_eq_true rfl) (Nat.le_of_ble_eq_true rfl) (c_La_behind h) (fun x7 σ6 h => ?_)
      refine um_iload (pc2 := 105) d_La_turnWhile_103 rfl rfl ?_
      refine um_callV3v (pc2 := 108) d_La_turnWhile_105 rfl g_La_95 rfl (Nat.le_of_ble_eq_true rfl) (Nat.le_of_ble_eq_true rfl) (Nat.le_of_ble_eq_true rfl) (c_La_emit h) (fun σ8 h => ?_)
      refine um_aload_n (pc2 := 109) d_La_turnWhile_108 rfl rfl ?_
      refine um_aload_n (pc2 := 110) d_La_turnWhile_109 rfl rfl ?_
      refine um_getR (pc2 := 113) d_La_turnWhile_110 rfl f_La_36 rfl rfl ?_
      refine um_iload_n (pc2 := 114) d_La_turnWhile_113 rfl rfl ?_
      refine um_iconst (pc2 := 115) (v := 1) d_La_turnWhile_114 rfl (by decide) ?_
      refine um_callV2i (pc2 := 118) d_La_turnWhile_115 rfl g_La_141 rfl (Nat.le_of_ble_eq_true rfl) (Nat.le_of_ble_eq_true rfl) (Nat.le_of_ble_eq_true rfl) (c_Tr_part h) (fun x10 σ9 h => ?_)
      refine um_iload (pc2 := 120) d_La_turnWhile_118 rfl rfl ?_
      refine um_callV2v (pc2 := 123) d_La_turnWhile_120 rfl g_La_86 rfl (Nat.le_of_ble_eq_true rfl) (Nat.le_of_ble_eq_true rfl) (Nat.le_of_ble_eq_true rfl) (c_La_begin h) (fun σ11 h => ?_)
      refine um_goto (tgt := 159) d_La_turnWhile_123 rfl ?_
      exact um_vret d_La_turnWhile_159 rfl ⟨rfl, h⟩
  · replace h := h.2 z
    refine um_aload_n (pc2 := 5) d_La_turnWhile_4 rfl rfl ?_
    refine um_getR (pc2 := 8) d_La_turnWhile_5 rfl f_La_21 rfl rfl ?_
    refine um_getR (pc2 := 11) d_La_turnWhile_8 rfl f_La_154 rfl rfl ?_
    refine um_iload_n (pc2 := 12) d_La_turnWhile_11 rfl rfl ?_
    refine um_aload_n (pc2 := 13) d_La_turnWhile_12 rfl rfl ?_
    refine um_getR (pc2 := 16) d_La_turnWhile_13 rfl f_La_12 rfl rfl ?_
    refine um_aload_n (pc2 := 17) d_La_turnWhile_16 rfl rfl ?_
    refine um_getR (pc2 := 20) d_La_turnWhile_17 rfl f_La_21 rfl rfl ?_
    refine um_getR (pc2 := 23) d_La_turnWhile_20 rfl f_La_154 rfl rfl ?_
    refine um_iload_n (pc2 := 24) d_La_turnWhile_23 rfl rfl ?_
    refine um_iald (pc2 := 25) d_La_turnWhile_24 rfl rfl h.1 rfl ?_
    replace h := h.2
    refine um_callV1i (pc2 := 28) d_La_turnWhile_25 rfl g_La_163 rfl (Nat.le_of_ble_eq_true rfl) (Nat.le_of_ble_eq_true rfl) (Nat.le_of_ble_eq_true rfl) (c_Sc_openLoop h) (fun x13 σ12 h => ?_)
    refine um_iconst (pc2 := 29) (v := 0) d_La_turnWhile_28 rfl (by decide) ?_
    refine um_callS2i (pc2 := 32) d_La_turnWhile_29 rfl g_La_102 (Nat.le_of_ble_eq_true rfl) (Nat.le_of_ble_eq_true rfl) (Nat.le_of_ble_eq_true rfl) (c_Sc_within h) (fun x15 σ14 h => ?_)
    refine um_iast (pc2 := 33) d_La_turnWhile_32 rfl rfl h.1 rfl (um_gen (fun σ16 eσ16 => ?_))
    replace h := h.2 σ16 eσ16
    refine um_aload_n (pc2 := 34) d_La_turnWhile_33 rfl rfl ?_
    refine um_getR (pc2 := 37) d_La_turnWhile_34 rfl f_La_21 rfl rfl ?_
    refine um_getR (pc2 := 40) d_La_turnWhile_37 rfl f_La_157 rfl rfl ?_
    refine um_iload_n (pc2 := 41) d_La_turnWhile_40 rfl rfl ?_
    refine um_aload_n (pc2 := 42) d_La_turnWhile_41 rfl rfl ?_
    refine um_getR (pc2 := 45) d_La_turnWhile_42 rfl f_La_40 rfl rfl ?_
    refine um_getI (pc2 := 48) d_La_turnWhile_45 rfl f_La_74 rfl rfl ?_
    refine um_iast (pc2 := 49) d_La_turnWhile_48 rfl rfl h.1 rfl (um_gen (fun σ17 eσ17 => ?_))
    replace h := h.2 σ17 eσ17
    refine um_aload_n (pc2 := 50) d_La_turnWhile_49 rfl rfl ?_
    refine um_aload_n (pc2 := 51) d_La_turnWhile_50 rfl rfl ?_
    refine um_getR (pc2 := 54) d_La_turnWhile_51 rfl f_La_36 rfl rfl ?_
    refine um_iload_n (pc2 := 55) d_La_turnWhile_54 rfl rfl ?_
    refine um_iconst (pc2 := 56) (v := 0) d_La_turnWhile_55 rfl (by decide) ?_
    refine um_callV2i (pc2 := 59) d_La_turnWhile_56 rfl g_La_141 rfl (Nat.le_of_ble_eq_true rfl) (Nat.le_of_ble_eq_true rfl) (Nat.le_of_ble_eq_true rfl) (c_Tr_part h) (fun x19 σ18 h => ?_)
    refine um_aload_n (pc2 := 60) d_La_turnWhile_59 rfl rfl ?_
    refine um_getR (pc2 := 63) d_La_turnWhile_60 rfl f_La_21 rfl rfl ?_
    refine um_getR (pc2 := 66) d_La_turnWhile_63 rfl f_La_154 rfl rfl ?_
    refine um_iload_n (pc2 := 67) d_La_turnWhile_66 rfl rfl ?_
    refine um_iald (pc2 := 68) d_La_turnWhile_67 rfl rfl h.1 rfl ?_
    replace h := h.2
    refine um_callV2v (pc2 := 71) d_La_turnWhile_68 rfl g_La_86 rfl (Nat.le_of_ble_eq_true rfl) (Nat.le_of_ble_eq_true rfl) (Nat.le_of_ble_eq_true rfl) (c_La_begin h) (fun σ20 h => ?_)
    exact um_vret d_La_turnWhile_71 rfl ⟨rfl, h⟩
def wp_Sc_finallyAround_47 (Q : Int32 → um_S → Prop) (K8 : Int32 → Int32 → Int32 → um_S → Prop) (v2 : Int32) (v3 : Int32) (v4 : Int32) (σ : um_S) : Prop :=
  wp_Sc_scopeOf v3 σ (fun x2 σ1 => vp_in x2 2001 ∧ ∀ x3 : Int32, x3 = (σ1 23 x2.toNatClampNeg) → K8 v2 x3 (v4 + (-1)) σ1)
def wp_Sc_finallyAround_8 (Q : Int32 → um_S → Prop) : Nat → Int32 → Int32 → Int32 → um_S → Prop
  | 0, _, _, _, _ => False
  | n + 1, v2, v3, v4, σ =>
    (v4 ≤ 0 → Q (-1) σ) ∧ (¬ v4 ≤ 0 → wp_Sc_scopeOf v3 σ (fun x2 σ1 => (x2 ≤ v2 → Q (-1) σ1) ∧ (¬ x2 ≤ v2 → wp_Sc_scopeOf v3 σ1 (fun x4 σ3 => vp_in x4 2001 ∧ ((σ3 25 x4.toNatClampNeg) = (-1) → wp_Sc_finallyAround_47 Q (fun v2 v3 v4 σ => wp_Sc_finallyAround_8 Q n v2 v3 v4 σ) v2 v3 v4 σ3) ∧ (¬ (σ3 25 x4.toNatClampNeg) = (-1) → wp_Sc_partOf v3 σ3 (fun x6 σ5 => (x6 = 2 → wp_Sc_finallyAround_47 Q (fun v2 v3 v4 σ => wp_Sc_finallyAround_8 Q n v2 v3 v4 σ) v2 v3 v4 σ5) ∧ (¬ x6 = 2 → wp_Sc_scopeOf v3 σ5 (fun x8 σ7 => Q x8 σ7))))))))
def wp_Sc_finallyAround (a1 : Int32) (a2 : Int32) (σ : um_S) (Q : Int32 → um_S → Prop) : Prop :=
  ∀ x1 : Int32, x1 = (σ 5 9) → wp_Sc_finallyAround_8 Q 100000 a2 a1 x1 σ
set_option maxHeartbeats 4000000 in
set_option maxRecDepth 100000 in
theorem b_Sc_finallyAround_47 {Q : Int32 → um_S → Prop} {K8 : Int32 → Int32 → Int32 → um_S → Prop} {v2 : Int32} {v3 : Int32} {v4 : Int32} {σ : um_S} (hK8 : ∀ (v2 : Int32) (v3 : Int32) (v4 : Int32) (σ : um_S), K8 v2 v3 v4 σ → um_Ev um_cl um_AW um_L um_SX M_Sc_finallyAround 1 20 8 [some (.ref 5), none, some (.int v2), some (.int v3), some (.int v4)] [] σ (um_Qi Q)) (h : wp_Sc_finallyAround_47 Q K8 v2 v3 v4 σ) : um_Ev um_cl um_AW um_L um_SX M_Sc_finallyAround 1 20 47 [some (.ref 5), none, some (.int v2), some (.int v3), some (.int v4)] [] σ (um_Qi Q) := by
  unfold wp_Sc_finallyAround_47 at h
  refine um_aload_n (pc2 := 48) d_Sc_finallyAround_47 rfl rfl ?_
  refine um_getR (pc2 := 51) d_Sc_finallyAround_48 rfl f_Sc_11 rfl rfl ?_
  refine um_iload_n (pc2 := 52) d_Sc_finallyAround_51 rfl rfl ?_
  refine um_callS1i (pc2 := 55) d_Sc_finallyAround_52 rfl g_Sc_47 (Nat.le_of_ble_eq_true rfl) (Nat.le_of_ble_eq_true rfl) (Nat.le_of_ble_eq_true rfl) (c_Sc_scopeOf h) (fun x2 σ1 h => ?_)
  refine um_iald (pc2 := 56) d_Sc_finallyAround_55 rfl rfl h.1 rfl ?_
  replace h := h.2
  refine um_top (fun x3 ex3 => ?_)
  replace h := h x3 ex3
  refine um_istore_n (pc2 := 57) (ls2 := [some (.ref 5), none, some (.int v2), some (.int x3), some (.int v4)]) d_Sc_finallyAround_56 rfl (Nat.le_of_ble_eq_true rfl) rfl ?_
  refine um_iinc (pc2 := 60) (v := (v4 + (-1))) (ls2 := [some (.ref 5), none, some (.int v2), some (.int x3), some (.int (v4 + (-1)))]) d_Sc_finallyAround_57 rfl rfl rfl (Nat.le_of_ble_eq_true rfl) rfl ?_
  refine um_goto (tgt := 8) d_Sc_finallyAround_60 rfl ?_
  refine um_forget [true, false, true, true, true] rfl ?_
  exact hK8 _ _ _ _ h
set_option maxHeartbeats 4000000 in
set_option maxRecDepth 100000 in
theorem b_Sc_finallyAround_8 {Q : Int32 → um_S → Prop} (n : Nat) : ∀ (v2 : Int32) (v3 : Int32) (v4 : Int32) (σ : um_S), wp_Sc_finallyAround_8 Q n v2 v3 v4 σ → um_Ev um_cl um_AW um_L um_SX M_Sc_finallyAround 1 20 8 [some (.ref 5), none, some (.int v2), some (.int v3), some (.int v4)] [] σ (um_Qi Q) := by
  induction n with
  | zero =>
    intro v2 v3 v4 σ h
    exact h.elim
  | succ n ih =>
    intro v2 v3 v4 σ h
    unfold wp_Sc_finallyAround_8 at h
    refine um_iload (pc2 := 10) d_Sc_finallyAround_8 rfl rfl ?_
    refine um_if_le (pc2 := 13) (tgt := 63) d_Sc_finallyAround_10 rfl rfl (fun z => ?_) (fun z => ?_)
    · replace h := h.1 z
      refine um_iconst (pc2 := 64) (v := (-1)) d_Sc_finallyAround_63 rfl (by decide) ?_
      exact um_iret d_Sc_finallyAround_64 rfl ⟨_, rfl, h⟩
    · replace h := h.2 z
      refine um_iload_n (pc2 := 14) d_Sc_finallyAround_13 rfl rfl ?_
      refine um_callS1i (pc2 := 17) d_Sc_finallyAround_14 rfl g_Sc_47 (Nat.le_of_ble_eq_true rfl) (Nat.le_of_ble_eq_true rfl) (Nat.le_of_ble_eq_true rfl) (c_Sc_scopeOf h) (fun x2 σ1 h => ?_)
      refine um_iload_n (pc2 := 18) d_Sc_finallyAround_17 rfl rfl ?_
      refine um_icmp_le (pc2 := 21) (tgt := 63) d_Sc_finallyAround_18 rfl rfl (fun z => ?_) (fun z => ?_)
      · replace h := h.1 z
        refine um_iconst (pc2 := 64) (v := (-1)) d_Sc_finallyAround_63 rfl (by decide) ?_
        exact um_iret d_Sc_finallyAround_64 rfl ⟨_, rfl, h⟩
      · replace h := h.2 z
        refine um_aload_n (pc2 := 22) d_Sc_finallyAround_21 rfl rfl ?_
        refine um_getR (pc2 := 25) d_Sc_finallyAround_22 rfl f_Sc_18 rfl rfl ?_
        refine um_iload_n (pc2 := 26) d_Sc_finallyAround_25 rfl rfl ?_
        refine um_callS1i (pc2 := 29) d_Sc_finallyAround_26 rfl g_Sc_47 (Nat.le_of_ble_eq_true rfl) (Nat.le_of_ble_eq_true rfl) (Nat.le_of_ble_eq_true rfl) (c_Sc_scopeOf h) (fun x4 σ3 h => ?_)
        refine um_iald (pc2 := 30) d_Sc_finallyAround_29 rfl rfl h.1 rfl ?_
        replace h := h.2
        refine um_iconst (pc2 := 31) (v := (-1)) d_Sc_finallyAround_30 rfl (by decide) ?_
        refine um_icmp_eq (pc2 := 34) (tgt := 47) d_Sc_finallyAround_31 rfl rfl (fun z => ?_) (fun z => ?_)
        · replace h := h.1 z
          refine um_forget [true, false, true, true, true] rfl ?_
          exact b_Sc_finallyAround_47 (fun _ _ _ _ z => ih _ _ _ _ z) h
        · replace h := h.2 z
          refine um_iload_n (pc2 := 35) d_Sc_finallyAround_34 rfl rfl ?_
          refine um_callS1i (pc2 := 38) d_Sc_finallyAround_35 rfl g_Sc_50 (Nat.le_of_ble_eq_true rfl) (Nat.le_of_ble_eq_true rfl) (Nat.le_of_ble_eq_true rfl) (c_Sc_partOf h) (fun x6 σ5 h => ?_)
          refine um_iconst (pc2 := 39) (v := 2) d_Sc_finallyAround_38 rfl (by decide) ?_
          refine um_icmp_eq (pc2 := 42) (tgt := 47) d_Sc_finallyAround_39 rfl rfl (fun z => ?_) (fun z => ?_)
          · replace h := h.1 z
            refine um_forget [true, false, true, true, true] rfl ?_
            exact b_Sc_finallyAround_47 (fun _ _ _ _ z => ih _ _ _ _ z) h
          · replace h := h.2 z
            refine um_iload_n (pc2 := 43) d_Sc_finallyAround_42 rfl rfl ?_
            refine um_callS1i (pc2 := 46) d_Sc_finallyAround_43 rfl g_Sc_47 (Nat.le_of_ble_eq_true rfl) (Nat.le_of_ble_eq_true rfl) (Nat.le_of_ble_eq_true rfl) (c_Sc_scopeOf h) (fun x8 σ7 h => ?_)
            exact um_iret d_Sc_finallyAround_46 rfl ⟨_, rfl, h⟩
set_option maxHeartbeats 4000000 in
set_option maxRecDepth 100000 in
theorem c_Sc_finallyAround {a1 : Int32} {a2 : Int32} {σ : um_S} {Q : Int32 → um_S → Prop} (h : wp_Sc_finallyAround a1 a2 σ Q) : um_Con um_cl um_AW um_L um_SX 1 20 M_Sc_finallyAround [.ref 5, .int a1, .int a2] σ (um_Qi Q) := by
  refine um_con (by decide) (Nat.le_of_ble_eq_true rfl) (fun v hv => by simp only [List.mem_cons, List.not_mem_nil, or_false] at hv; rcases hv with rfl | rfl | rfl <;> rfl) ?_
  show um_Ev um_cl um_AW um_L um_SX M_Sc_finallyAround 1 20 0 [some (.ref 5), some (.int a1), some (.int a2), none, none] [] σ (um_Qi Q)
  unfold wp_Sc_finallyAround at h
  refine um_iload_n (pc2 := 1) d_Sc_finallyAround_0 rfl rfl ?_
  refine um_istore_n (pc2 := 2) (ls2 := [some (.ref 5), some (.int a1), some (.int a2), some (.int a1), none]) d_Sc_finallyAround_1 rfl (Nat.le_of_ble_eq_true rfl) rfl ?_
  refine um_aload_n (pc2 := 3) d_Sc_finallyAround_2 rfl rfl ?_
  refine um_getI (pc2 := 6) d_Sc_finallyAround_3 rfl f_Sc_40 rfl rfl ?_
  refine um_top (fun x1 ex1 => ?_)
  replace h := h x1 ex1
  refine um_istore (pc2 := 8) (ls2 := [some (.ref 5), some (.int a1), some (.int a2), some (.int a1), some (.int x1)]) d_Sc_finallyAround_6 rfl (Nat.le_of_ble_eq_true rfl) rfl ?_
  refine um_forget [true, false, true, true, true] rfl ?_
  exact b_Sc_finallyAround_8 _ _ _ _ _ h
def wp_La_leave (a1 : Int32) (a2 : Int32) (σ : um_S) (Q : um_S → Prop) : Prop :=
  vp_in a2 2001 ∧ vp_in a1 2001 ∧ ∀ σ1 : um_S, σ1 = um_up σ 32 a1.toNatClampNeg (σ 23 a2.toNatClampNeg) → vp_in a2 2001 ∧ wp_Sc_within a2 2 σ1 (fun x3 σ2 => wp_La_begin (σ1 25 a2.toNatClampNeg) x3 σ2 (fun σ4 => Q σ4))
set_option maxHeartbeats 4000000 in
set_option maxRecDepth 100000 in
theorem c_La_leave {a1 : Int32} {a2 : Int32} {σ : um_S} {Q : um_S → Prop} (h : wp_La_leave a1 a2 σ Q) : um_Con um_cl um_AW um_L um_SX 2 45 M_La_leave [.ref 3, .int a1, .int a2] σ (um_Qv Q) := by
  refine um_con (by decide) (Nat.le_of_ble_eq_true rfl) (fun v hv => by simp only [List.mem_cons, List.not_mem_nil, or_false] at hv; rcases hv with rfl | rfl | rfl <;> rfl) ?_
  show um_Ev um_cl um_AW um_L um_SX M_La_leave 2 45 0 [some (.ref 3), some (.int a1), some (.int a2)] [] σ (um_Qv Q)
  unfold wp_La_leave at h
  refine um_aload_n (pc2 := 1) d_La_leave_0 rfl rfl ?_
  refine um_getR (pc2 := 4) d_La_leave_1 rfl f_La_21 rfl rfl ?_
  refine um_getR (pc2 := 7) d_La_leave_4 rfl f_La_154 rfl rfl ?_
  refine um_iload_n (pc2 := 8) d_La_leave_7 rfl rfl ?_
  refine um_aload_n (pc2 := 9) d_La_leave_8 rfl rfl ?_
  refine um_getR (pc2 := 12) d_La_leave_9 rfl f_La_12 rfl rfl ?_
  refine um_getR (pc2 := 15) d_La_leave_12 rfl f_La_184 rfl rfl ?_
  refine um_iload_n (pc2 := 16) d_La_leave_15 rfl rfl ?_
  refine um_iald (pc2 := 17) d_La_leave_16 rfl rfl h.1 rfl ?_
  replace h := h.2
  refine um_iast (pc2 := 18) d_La_leave_17 rfl rfl h.1 rfl (um_gen (fun σ1 eσ1 => ?_))
  replace h := h.2 σ1 eσ1
  refine um_aload_n (pc2 := 19) d_La_leave_18 rfl rfl ?_
  refine um_aload_n (pc2 := 20) d_La_leave_19 rfl rfl ?_
  refine um_getR (pc2 := 23) d_La_leave_20 rfl f_La_12 rfl rfl ?_
  refine um_getR (pc2 := 26) d_La_leave_23 rfl f_La_187 rfl rfl ?_
  refine um_iload_n (pc2 := 27) d_La_leave_26 rfl rfl ?_
  refine um_iald (pc2 := 28) d_La_leave_27 rfl rfl h.1 rfl ?_
  replace h := h.2
  refine um_iload_n (pc2 := 29) d_La_leave_28 rfl rfl ?_
  refine um_iconst (pc2 := 30) (v := 2) d_La_leave_29 rfl (by decide) ?_
  refine um_callS2i (pc2 := 33) d_La_leave_30 rfl g_La_102 (Nat.le_of_ble_eq_true rfl) (Nat.le_of_ble_eq_true rfl) (Nat.le_of_ble_eq_true rfl) (c_Sc_within h) (fun x3 σ2 h => ?_)
  refine um_callV2v (pc2 := 36) d_La_leave_33 rfl g_La_86 rfl (Nat.le_of_ble_eq_true rfl) (Nat.le_of_ble_eq_true rfl) (Nat.le_of_ble_eq_true rfl) (c_La_begin h) (fun σ4 h => ?_)
  exact um_vret d_La_leave_36 rfl ⟨rfl, h⟩
def wp_La_turnReturn (a1 : Int32) (σ : um_S) (Q : um_S → Prop) : Prop :=
  vp_in a1 2001 ∧ wp_Sc_finallyAround (σ 32 a1.toNatClampNeg) 0 σ (fun x2 σ1 => (¬ x2 = (-1) → wp_La_leave a1 x2 σ1 (fun σ3 => Q σ3)) ∧ (x2 = (-1) → wp_La_finish a1 14 0 σ1 (fun σ4 => Q σ4)))
set_option maxHeartbeats 4000000 in
set_option maxRecDepth 100000 in
theorem c_La_turnReturn {a1 : Int32} {σ : um_S} {Q : um_S → Prop} (h : wp_La_turnReturn a1 σ Q) : um_Con um_cl um_AW um_L um_SX 3 67 M_La_turnReturn [.ref 3, .int a1] σ (um_Qv Q) := by
  refine um_con (by decide) (Nat.le_of_ble_eq_true rfl) (fun v hv => by simp only [List.mem_cons, List.not_mem_nil, or_false] at hv; rcases hv with rfl | rfl <;> rfl) ?_
  show um_Ev um_cl um_AW um_L um_SX M_La_turnReturn 3 67 0 [some (.ref 3), some (.int a1), none] [] σ (um_Qv Q)
  unfold wp_La_turnReturn at h
  refine um_aload_n (pc2 := 1) d_La_turnReturn_0 rfl rfl ?_
  refine um_getR (pc2 := 4) d_La_turnReturn_1 rfl f_La_12 rfl rfl ?_
  refine um_aload_n (pc2 := 5) d_La_turnReturn_4 rfl rfl ?_
  refine um_getR (pc2 := 8) d_La_turnReturn_5 rfl f_La_21 rfl rfl ?_
  refine um_getR (pc2 := 11) d_La_turnReturn_8 rfl f_La_154 rfl rfl ?_
  refine um_iload_n (pc2 := 12) d_La_turnReturn_11 rfl rfl ?_
  refine um_iald (pc2 := 13) d_La_turnReturn_12 rfl rfl h.1 rfl ?_
  replace h := h.2
  refine um_iconst (pc2 := 14) (v := 0) d_La_turnReturn_13 rfl (by decide) ?_
  refine um_callV2i (pc2 := 17) d_La_turnReturn_14 rfl g_La_175 rfl (Nat.le_of_ble_eq_true rfl) (Nat.le_of_ble_eq_true rfl) (Nat.le_of_ble_eq_true rfl) (c_Sc_finallyAround h) (fun x2 σ1 h => ?_)
  refine um_istore_n (pc2 := 18) (ls2 := [some (.ref 3), some (.int a1), some (.int x2)]) d_La_turnReturn_17 rfl (Nat.le_of_ble_eq_true rfl) rfl ?_
  refine um_iload_n (pc2 := 19) d_La_turnReturn_18 rfl rfl ?_
  refine um_iconst (pc2 := 20) (v := (-1)) d_La_turnReturn_19 rfl (by decide) ?_
  refine um_icmp_ne (pc2 := 23) (tgt := 34) d_La_turnReturn_20 rfl rfl (fun z => ?_) (fun z => ?_)
  · replace h := h.1 z
    refine um_aload_n (pc2 := 35) d_La_turnReturn_34 rfl rfl ?_
    refine um_iload_n (pc2 := 36) d_La_turnReturn_35 rfl rfl ?_
    refine um_iload_n (pc2 := 37) d_La_turnReturn_36 rfl rfl ?_
    refine um_callV2v (pc2 := 40) d_La_turnReturn_37 rfl g_La_178 rfl (Nat.le_of_ble_eq_true rfl) (Nat.le_of_ble_eq_true rfl) (Nat.le_of_ble_eq_true rfl) (c_La_leave h) (fun σ3 h => ?_)
    exact um_vret d_La_turnReturn_40 rfl ⟨rfl, h⟩
  · replace h := h.2 z
    refine um_aload_n (pc2 := 24) d_La_turnReturn_23 rfl rfl ?_
    refine um_iload_n (pc2 := 25) d_La_turnReturn_24 rfl rfl ?_
    refine um_bipush (pc2 := 27) (v := 14) d_La_turnReturn_25 rfl (by decide) ?_
    refine um_iconst (pc2 := 28) (v := 0) d_La_turnReturn_27 rfl (by decide) ?_
    refine um_callV3v (pc2 := 31) d_La_turnReturn_28 rfl g_La_144 rfl (Nat.le_of_ble_eq_true rfl) (Nat.le_of_ble_eq_true rfl) (Nat.le_of_ble_eq_true rfl) (c_La_finish h) (fun σ4 h => ?_)
    refine um_goto (tgt := 40) d_La_turnReturn_31 rfl ?_
    exact um_vret d_La_turnReturn_40 rfl ⟨rfl, h⟩
def wp_La_turnBreak (a1 : Int32) (σ : um_S) (Q : um_S → Prop) : Prop :=
  vp_in a1 2001 ∧ ∀ x1 : Int32, x1 = (σ 32 a1.toNatClampNeg) → wp_Sc_scopeOf x1 σ (fun x3 σ2 => vp_in x3 2001 ∧ ∀ x4 : Int32, x4 = (σ2 26 x3.toNatClampNeg) → (¬ x4 = 0 → wp_Sc_finallyAround x1 x4 σ2 (fun x6 σ5 => (¬ x6 = (-1) → wp_La_leave a1 x6 σ5 (fun σ7 => Q σ7)) ∧ (x6 = (-1) → wp_La_behind x4 σ5 (fun x9 σ8 => wp_La_finish a1 11 x9 σ8 (fun σ10 => Q σ10))))) ∧ (x4 = 0 → ∀ σ11 : um_S, σ11 = um_up σ2 3 8 (-3) → Q σ11))
set_option maxHeartbeats 4000000 in
set_option maxRecDepth 100000 in
theorem c_La_turnBreak {a1 : Int32} {σ : um_S} {Q : um_S → Prop} (h : wp_La_turnBreak a1 σ Q) : um_Con um_cl um_AW um_L um_SX 3 67 M_La_turnBreak [.ref 3, .int a1] σ (um_Qv Q) := by
  refine um_con (by decide) (Nat.le_of_ble_eq_true rfl) (fun v hv => by simp only [List.mem_cons, List.not_mem_nil, or_false] at hv; rcases hv with rfl | rfl <;> rfl) ?_
  show um_Ev um_cl um_AW um_L um_SX M_La_turnBreak 3 67 0 [some (.ref 3), some (.int a1), none, none, none] [] σ (um_Qv Q)
  unfold wp_La_turnBreak at h
  refine um_aload_n (pc2 := 1) d_La_turnBreak_0 rfl rfl ?_
  refine um_getR (pc2 := 4) d_La_turnBreak_1 rfl f_La_21 rfl rfl ?_
  refine um_getR (pc2 := 7) d_La_turnBreak_4 rfl f_La_154 rfl rfl ?_
  refine um_iload_n (pc2 := 8) d_La_turnBreak_7 rfl rfl ?_
  refine um_iald (pc2 := 9) d_La_turnBreak_8 rfl rfl h.1 rfl ?_
  replace h := h.2
  refine um_top (fun x1 ex1 => ?_)
  replace h := h x1 ex1
  refine um_istore_n (pc2 := 10) (ls2 := [some (.ref 3), some (.int a1), some (.int x1), none, none]) d_La_turnBreak_9 rfl (Nat.le_of_ble_eq_true rfl) rfl ?_
  refine um_aload_n (pc2 := 11) d_La_turnBreak_10 rfl rfl ?_
  refine um_getR (pc2 := 14) d_La_turnBreak_11 rfl f_La_12 rfl rfl ?_
  refine um_getR (pc2 := 17) d_La_turnBreak_14 rfl f_La_181 rfl rfl ?_
  refine um_iload_n (pc2 := 18) d_La_turnBreak_17 rfl rfl ?_
  refine um_callS1i (pc2 := 21) d_La_turnBreak_18 rfl g_La_166 (Nat.le_of_ble_eq_true rfl) (Nat.le_of_ble_eq_true rfl) (Nat.le_of_ble_eq_true rfl) (c_Sc_scopeOf h) (fun x3 σ2 h => ?_)
  refine um_iald (pc2 := 22) d_La_turnBreak_21 rfl rfl h.1 rfl ?_
  replace h := h.2
  refine um_top (fun x4 ex4 => ?_)
  replace h := h x4 ex4
  refine um_istore_n (pc2 := 23) (ls2 := [some (.ref 3), some (.int a1), some (.int x1), some (.int x4), none]) d_La_turnBreak_22 rfl (Nat.le_of_ble_eq_true rfl) rfl ?_
  refine um_iload_n (pc2 := 24) d_La_turnBreak_23 rfl rfl ?_
  refine um_if_ne (pc2 := 27) (tgt := 34) d_La_turnBreak_24 rfl rfl (fun z => ?_) (fun z => ?_)
  · replace h := h.1 z
    refine um_aload_n (pc2 := 35) d_La_turnBreak_34 rfl rfl ?_
    refine um_getR (pc2 := 38) d_La_turnBreak_35 rfl f_La_12 rfl rfl ?_
    refine um_iload_n (pc2 := 39) d_La_turnBreak_38 rfl rfl ?_
    refine um_iload_n (pc2 := 40) d_La_turnBreak_39 rfl rfl ?_
    refine um_callV2i (pc2 := 43) d_La_turnBreak_40 rfl g_La_175 rfl (Nat.le_of_ble_eq_true rfl) (Nat.le_of_ble_eq_true rfl) (Nat.le_of_ble_eq_true rfl) (c_Sc_finallyAround h) (fun x6 σ5 h => ?_)
    refine um_istore (pc2 := 45) (ls2 := [some (.ref 3), some (.int a1), some (.int x1), some (.int x4), some (.int x6)]) d_La_turnBreak_43 rfl (Nat.le_of_ble_eq_true rfl) rfl ?_
    refine um_iload (pc2 := 47) d_La_turnBreak_45 rfl rfl ?_
    refine um_iconst (pc2 := 48) (v := (-1)) d_La_turnBreak_47 rfl (by decide) ?_
    refine um_icmp_ne (pc2 := 51) (tgt := 65) d_La_turnBreak_48 rfl rfl (fun z => ?_) (fun z => ?_)
    · replace h := h.1 z
      refine um_aload_n (pc2 := 66) d_La_turnBreak_65 rfl rfl ?_
      refine um_iload_n (pc2 := 67) d_La_turnBreak_66 rfl rfl ?_
      refine um_iload (pc2 := 69) d_La_turnBreak_67 rfl rfl ?_
      refine um_callV2v (pc2 := 72) d_La_turnBreak_69 rfl g_La_178 rfl (Nat.le_of_ble_eq_true rfl) (Nat.le_of_ble_eq_true rfl) (Nat.le_of_ble_eq_true rfl) (c_La_leave h) (fun σ7 h => ?_)
      exact um_vret d_La_turnBreak_72 rfl ⟨rfl, h⟩
    · replace h := h.2 z
      refine um_aload_n (pc2 := 52) d_La_turnBreak_51 rfl rfl ?_
      refine um_iload_n (pc2 := 53) d_La_turnBreak_52 rfl rfl ?_
      refine um_bipush (pc2 := 55) (v := 11) d_La_turnBreak_53 rfl (by decide) ?_
      refine um_iload_n (pc2 := 56) d_La_turnBreak_55 rfl rfl ?_
      refine um_callS1i (pc2 := 59) d_La_turnBreak_56 rfl g_La_169 (Nat.le_of_ble_eq_true rfl) (Nat.le_of_ble_eq_true rfl) (Nat.le_of_ble_eq_true rfl) (c_La_behind h) (fun x9 σ8 h => ?_)
      refine um_callV3v (pc2 := 62) d_La_turnBreak_59 rfl g_La_144 rfl (Nat.le_of_ble_eq_true rfl) (Nat.le_of_ble_eq_true rfl) (Nat.le_of_ble_eq_true rfl) (c_La_finish h) (fun σ10 h => ?_)
      refine um_goto (tgt := 72) d_La_turnBreak_62 rfl ?_
      exact um_vret d_La_turnBreak_72 rfl ⟨rfl, h⟩
  · replace h := h.2 z
    refine um_aload_n (pc2 := 28) d_La_turnBreak_27 rfl rfl ?_
    refine um_bipush (pc2 := 30) (v := (-3)) d_La_turnBreak_28 rfl (by decide) ?_
    refine um_putI (pc2 := 33) d_La_turnBreak_30 rfl fw_La_61 rfl rfl (um_gen (fun σ11 eσ11 => ?_))
    replace h := h σ11 eσ11
    exact um_vret d_La_turnBreak_33 rfl ⟨rfl, h⟩
def wp_Ha_comesBefore_27 (a0 : Int32) (a1 : Int32) (σ : um_S) (Q : Bool → um_S → Prop) : Prop :=
  vp_in a0 2001 ∧ vp_in a1 2001 ∧ ((σ 27 a1.toNatClampNeg) < (σ 27 a0.toNatClampNeg) → Q true σ) ∧ (¬ (σ 27 a1.toNatClampNeg) < (σ 27 a0.toNatClampNeg) → vp_in a0 2001 ∧ vp_in a1 2001 ∧ (¬ (σ 27 a0.toNatClampNeg) = (σ 27 a1.toNatClampNeg) → Q false σ) ∧ ((σ 27 a0.toNatClampNeg) = (σ 27 a1.toNatClampNeg) → (a1 ≤ a0 → Q false σ) ∧ (¬ a1 ≤ a0 → Q true σ)))
set_option maxHeartbeats 4000000 in
set_option maxRecDepth 100000 in
theorem c_Ha_comesBefore_27 {a0 : Int32} {a1 : Int32} {σ : um_S} {Q : Bool → um_S → Prop} (h : wp_Ha_comesBefore_27 a0 a1 σ Q) : um_Con um_cl um_AW um_L um_SX 0 0 M_Ha_comesBefore [.int a0, .int a1, .ref 27] σ (um_Qz Q) := by
  refine um_con (by decide) (Nat.le_of_ble_eq_true rfl) (fun v hv => by simp only [List.mem_cons, List.not_mem_nil, or_false] at hv; rcases hv with rfl | rfl | rfl <;> rfl) ?_
  show um_Ev um_cl um_AW um_L um_SX M_Ha_comesBefore 0 0 0 [some (.int a0), some (.int a1), some (.ref 27)] [] σ (um_Qz Q)
  unfold wp_Ha_comesBefore_27 at h
  refine um_aload_n (pc2 := 1) d_Ha_comesBefore_0 rfl rfl ?_
  refine um_iload_n (pc2 := 2) d_Ha_comesBefore_1 rfl rfl ?_
  refine um_iald (pc2 := 3) d_Ha_comesBefore_2 rfl rfl h.1 rfl ?_
  replace h := h.2
  refine um_aload_n (pc2 := 4) d_Ha_comesBefore_3 rfl rfl ?_
  refine um_iload_n (pc2 := 5) d_Ha_comesBefore_4 rfl rfl ?_
  refine um_iald (pc2 := 6) d_Ha_comesBefore_5 rfl rfl h.1 rfl ?_
  replace h := h.2
  refine um_icmp_gt (pc2 := 9) (tgt := 23) d_Ha_comesBefore_6 rfl rfl (fun z => ?_) (fun z => ?_)
  · replace h := h.1 z
    refine um_iconst (pc2 := 24) (v := 1) d_Ha_comesBefore_23 rfl (by decide) ?_
    refine um_goto (tgt := 28) d_Ha_comesBefore_24 rfl ?_
    exact um_zret d_Ha_comesBefore_28 rfl (by decide) ⟨true, rfl, h⟩
  · replace h := h.2 z
    refine um_aload_n (pc2 := 10) d_Ha_comesBefore_9 rfl rfl ?_
    refine um_iload_n (pc2 := 11) d_Ha_comesBefore_10 rfl rfl ?_
    refine um_iald (pc2 := 12) d_Ha_comesBefore_11 rfl rfl h.1 rfl ?_
    replace h := h.2
    refine um_aload_n (pc2 := 13) d_Ha_comesBefore_12 rfl rfl ?_
    refine um_iload_n (pc2 := 14) d_Ha_comesBefore_13 rfl rfl ?_
    refine um_iald (pc2 := 15) d_Ha_comesBefore_14 rfl rfl h.1 rfl ?_
    replace h := h.2
    refine um_icmp_ne (pc2 := 18) (tgt := 27) d_Ha_comesBefore_15 rfl rfl (fun z => ?_) (fun z => ?_)
    · replace h := h.1 z
      refine um_iconst (pc2 := 28) (v := 0) d_Ha_comesBefore_27 rfl (by decide) ?_
      exact um_zret d_Ha_comesBefore_28 rfl (by decide) ⟨false, rfl, h⟩
    · replace h := h.2 z
      refine um_iload_n (pc2 := 19) d_Ha_comesBefore_18 rfl rfl ?_
      refine um_iload_n (pc2 := 20) d_Ha_comesBefore_19 rfl rfl ?_
      refine um_icmp_ge (pc2 := 23) (tgt := 27) d_Ha_comesBefore_20 rfl rfl (fun z => ?_) (fun z => ?_)
      · replace h := h.1 z
        refine um_iconst (pc2 := 28) (v := 0) d_Ha_comesBefore_27 rfl (by decide) ?_
        exact um_zret d_Ha_comesBefore_28 rfl (by decide) ⟨false, rfl, h⟩
      · replace h := h.2 z
        refine um_iconst (pc2 := 24) (v := 1) d_Ha_comesBefore_23 rfl (by decide) ?_
        refine um_goto (tgt := 28) d_Ha_comesBefore_24 rfl ?_
        exact um_zret d_Ha_comesBefore_28 rfl (by decide) ⟨true, rfl, h⟩
def wp_Ha_add_27_94 (Q : um_S → Prop) (v1 : Int32) (v2 : Int32) (v3 : Int32) (v5 : Int32) (σ : um_S) : Prop :=
  vp_in v5 501 ∧ ∀ σ1 : um_S, σ1 = um_up σ 35 v5.toNatClampNeg v1 → vp_in v5 501 ∧ ∀ σ2 : um_S, σ2 = um_up σ1 36 v5.toNatClampNeg v2 → vp_in v5 501 ∧ ∀ σ3 : um_S, σ3 = um_up σ2 37 v5.toNatClampNeg v3 → ∀ σ4 : um_S, σ4 = um_up σ3 7 3 ((σ3 7 3) + 1) → Q σ4
def wp_Ha_add_27_17 (Q : um_S → Prop) : Nat → Int32 → Int32 → Int32 → Int32 → um_S → Prop
  | 0, _, _, _, _, _ => False
  | n + 1, v1, v2, v3, v5, σ =>
    (v5 ≤ 0 → wp_Ha_add_27_94 Q v1 v2 v3 v5 σ) ∧ (¬ v5 ≤ 0 → vp_in (v5 - 1) 501 ∧ wp_Ha_comesBefore_27 v1 (σ 35 (v5 - 1).toNatClampNeg) σ (fun t2 σ1 => (t2 = false → wp_Ha_add_27_94 Q v1 v2 v3 v5 σ1) ∧ (t2 = true → vp_in (v5 - 1) 501 ∧ vp_in v5 501 ∧ ∀ σ3 : um_S, σ3 = um_up σ1 35 v5.toNatClampNeg (σ1 35 (v5 - 1).toNatClampNeg) → vp_in (v5 - 1) 501 ∧ vp_in v5 501 ∧ ∀ σ4 : um_S, σ4 = um_up σ3 36 v5.toNatClampNeg (σ3 36 (v5 - 1).toNatClampNeg) → vp_in (v5 - 1) 501 ∧ vp_in v5 501 ∧ ∀ σ5 : um_S, σ5 = um_up σ4 37 v5.toNatClampNeg (σ4 37 (v5 - 1).toNatClampNeg) → wp_Ha_add_27_17 Q n v1 v2 v3 (v5 + (-1)) σ5)))
def wp_Ha_add_27 (a1 : Int32) (a2 : Int32) (a3 : Int32) (σ : um_S) (Q : um_S → Prop) : Prop :=
  ((σ 7 3) < 501 → ∀ x1 : Int32, x1 = (σ 7 3) → wp_Ha_add_27_17 Q 100000 a1 a2 a3 x1 σ) ∧ (¬ (σ 7 3) < 501 → Q σ)
set_option maxHeartbeats 4000000 in
set_option maxRecDepth 100000 in
theorem b_Ha_add_27_94 {Q : um_S → Prop} {v1 : Int32} {v2 : Int32} {v3 : Int32} {v5 : Int32} {σ : um_S} (h : wp_Ha_add_27_94 Q v1 v2 v3 v5 σ) : um_Ev um_cl um_AW um_L um_SX M_Ha_add 1 22 94 [some (.ref 7), some (.int v1), some (.int v2), some (.int v3), none, some (.int v5)] [] σ (um_Qv Q) := by
  unfold wp_Ha_add_27_94 at h
  refine um_aload_n (pc2 := 95) d_Ha_add_94 rfl rfl ?_
  refine um_getR (pc2 := 98) d_Ha_add_95 rfl f_Ha_11 rfl rfl ?_
  refine um_iload (pc2 := 100) d_Ha_add_98 rfl rfl ?_
  refine um_iload_n (pc2 := 101) d_Ha_add_100 rfl rfl ?_
  refine um_iast (pc2 := 102) d_Ha_add_101 rfl rfl h.1 rfl (um_gen (fun σ1 eσ1 => ?_))
  replace h := h.2 σ1 eσ1
  refine um_aload_n (pc2 := 103) d_Ha_add_102 rfl rfl ?_
  refine um_getR (pc2 := 106) d_Ha_add_103 rfl f_Ha_15 rfl rfl ?_
  refine um_iload (pc2 := 108) d_Ha_add_106 rfl rfl ?_
  refine um_iload_n (pc2 := 109) d_Ha_add_108 rfl rfl ?_
  refine um_iast (pc2 := 110) d_Ha_add_109 rfl rfl h.1 rfl (um_gen (fun σ2 eσ2 => ?_))
  replace h := h.2 σ2 eσ2
  refine um_aload_n (pc2 := 111) d_Ha_add_110 rfl rfl ?_
  refine um_getR (pc2 := 114) d_Ha_add_111 rfl f_Ha_18 rfl rfl ?_
  refine um_iload (pc2 := 116) d_Ha_add_114 rfl rfl ?_
  refine um_iload_n (pc2 := 117) d_Ha_add_116 rfl rfl ?_
  refine um_iast (pc2 := 118) d_Ha_add_117 rfl rfl h.1 rfl (um_gen (fun σ3 eσ3 => ?_))
  replace h := h.2 σ3 eσ3
  refine um_aload_n (pc2 := 119) d_Ha_add_118 rfl rfl ?_
  refine um_dup (pc2 := 120) d_Ha_add_119 rfl rfl ?_
  refine um_getI (pc2 := 123) d_Ha_add_120 rfl f_Ha_21 rfl rfl ?_
  refine um_iconst (pc2 := 124) (v := 1) d_Ha_add_123 rfl (by decide) ?_
  refine um_iadd (pc2 := 125) d_Ha_add_124 rfl ?_
  refine um_putI (pc2 := 128) d_Ha_add_125 rfl fw_Ha_21 rfl rfl (um_gen (fun σ4 eσ4 => ?_))
  replace h := h σ4 eσ4
  exact um_vret d_Ha_add_128 rfl ⟨rfl, h⟩
set_option maxHeartbeats 4000000 in
set_option maxRecDepth 100000 in
theorem b_Ha_add_27_17 {Q : um_S → Prop} (n : Nat) : ∀ (v1 : Int32) (v2 : Int32) (v3 : Int32) (v5 : Int32) (σ : um_S), wp_Ha_add_27_17 Q n v1 v2 v3 v5 σ → um_Ev um_cl um_AW um_L um_SX M_Ha_add 1 22 17 [some (.ref 7), some (.int v1), some (.int v2), some (.int v3), some (.ref 27), some (.int v5)] [] σ (um_Qv Q) := by
  induction n with
  | zero =>
    intro v1 v2 v3 v5 σ h
    exact h.elim
  | succ n ih =>
    intro v1 v2 v3 v5 σ h
    unfold wp_Ha_add_27_17 at h
    refine um_iload (pc2 := 19) d_Ha_add_17 rfl rfl ?_
    refine um_if_le (pc2 := 22) (tgt := 94) d_Ha_add_19 rfl rfl (fun z => ?_) (fun z => ?_)
    · replace h := h.1 z
      refine um_forget [true, true, true, true, false, true] rfl ?_
      exact b_Ha_add_27_94 h
    · replace h := h.2 z
      refine um_iload_n (pc2 := 23) d_Ha_add_22 rfl rfl ?_
      refine um_aload_n (pc2 := 24) d_Ha_add_23 rfl rfl ?_
      refine um_getR (pc2 := 27) d_Ha_add_24 rfl f_Ha_11 rfl rfl ?_
      refine um_iload (pc2 := 29) d_Ha_add_27 rfl rfl ?_
      refine um_iconst (pc2 := 30) (v := 1) d_Ha_add_29 rfl (by decide) ?_
      refine um_isub (pc2 := 31) d_Ha_add_30 rfl ?_
      refine um_iald (pc2 := 32) d_Ha_add_31 rfl rfl h.1 rfl ?_
      replace h := h.2
      refine um_aload (pc2 := 34) d_Ha_add_32 rfl rfl ?_
      refine um_callS3z (pc2 := 37) d_Ha_add_34 rfl g_Ha_25 (Nat.le_of_ble_eq_true rfl) (Nat.le_of_ble_eq_true rfl) (Nat.le_of_ble_eq_true rfl) (c_Ha_comesBefore_27 h) (fun t2 σ1 h => ?_)
      refine um_if_eq (pc2 := 40) (tgt := 94) d_Ha_add_37 rfl rfl (fun z => ?_) (fun z => ?_)
      · replace h := h.1 (um_b0 z)
        refine um_forget [true, true, true, true, false, true] rfl ?_
        exact b_Ha_add_27_94 h
      · replace h := h.2 (um_b1 z)
        refine um_aload_n (pc2 := 41) d_Ha_add_40 rfl rfl ?_
        refine um_getR (pc2 := 44) d_Ha_add_41 rfl f_Ha_11 rfl rfl ?_
        refine um_iload (pc2 := 46) d_Ha_add_44 rfl rfl ?_
        refine um_aload_n (pc2 := 47) d_Ha_add_46 rfl rfl ?_
        refine um_getR (pc2 := 50) d_Ha_add_47 rfl f_Ha_11 rfl rfl ?_
        refine um_iload (pc2 := 52) d_Ha_add_50 rfl rfl ?_
        refine um_iconst (pc2 := 53) (v := 1) d_Ha_add_52 rfl (by decide) ?_
        refine um_isub (pc2 := 54) d_Ha_add_53 rfl ?_
        refine um_iald (pc2 := 55) d_Ha_add_54 rfl rfl h.1 rfl ?_
        replace h := h.2
        refine um_iast (pc2 := 56) d_Ha_add_55 rfl rfl h.1 rfl (um_gen (fun σ3 eσ3 => ?_))
        replace h := h.2 σ3 eσ3
        refine um_aload_n (pc2 := 57) d_Ha_add_56 rfl rfl ?_
        refine um_getR (pc2 := 60) d_Ha_add_57 rfl f_Ha_15 rfl rfl ?_
        refine um_iload (pc2 := 62) d_Ha_add_60 rfl rfl ?_
        refine um_aload_n (pc2 := 63) d_Ha_add_62 rfl rfl ?_
        refine um_getR (pc2 := 66) d_Ha_add_63 rfl f_Ha_15 rfl rfl ?_
        refine um_iload (pc2 := 68) d_Ha_add_66 rfl rfl ?_
        refine um_iconst (pc2 := 69) (v := 1) d_Ha_add_68 rfl (by decide) ?_
        refine um_isub (pc2 := 70) d_Ha_add_69 rfl ?_
        refine um_iald (pc2 := 71) d_Ha_add_70 rfl rfl h.1 rfl ?_
        replace h := h.2
        refine um_iast (pc2 := 72) d_Ha_add_71 rfl rfl h.1 rfl (um_gen (fun σ4 eσ4 => ?_))
        replace h := h.2 σ4 eσ4
        refine um_aload_n (pc2 := 73) d_Ha_add_72 rfl rfl ?_
        refine um_getR (pc2 := 76) d_Ha_add_73 rfl f_Ha_18 rfl rfl ?_
        refine um_iload (pc2 := 78) d_Ha_add_76 rfl rfl ?_
        refine um_aload_n (pc2 := 79) d_Ha_add_78 rfl rfl ?_
        refine um_getR (pc2 := 82) d_Ha_add_79 rfl f_Ha_18 rfl rfl ?_
        refine um_iload (pc2 := 84) d_Ha_add_82 rfl rfl ?_
        refine um_iconst (pc2 := 85) (v := 1) d_Ha_add_84 rfl (by decide) ?_
        refine um_isub (pc2 := 86) d_Ha_add_85 rfl ?_
        refine um_iald (pc2 := 87) d_Ha_add_86 rfl rfl h.1 rfl ?_
        replace h := h.2
        refine um_iast (pc2 := 88) d_Ha_add_87 rfl rfl h.1 rfl (um_gen (fun σ5 eσ5 => ?_))
        replace h := h.2 σ5 eσ5
        refine um_iinc (pc2 := 91) (v := (v5 + (-1))) (ls2 := [some (.ref 7), some (.int v1), some (.int v2), some (.int v3), some (.ref 27), some (.int (v5 + (-1)))]) d_Ha_add_88 rfl rfl rfl (Nat.le_of_ble_eq_true rfl) rfl ?_
        refine um_goto (tgt := 17) d_Ha_add_91 rfl ?_
        refine um_forget [true, true, true, true, true, true] rfl ?_
        exact ih _ _ _ _ _ h
set_option maxHeartbeats 4000000 in
set_option maxRecDepth 100000 in
theorem c_Ha_add_27 {a1 : Int32} {a2 : Int32} {a3 : Int32} {σ : um_S} {Q : um_S → Prop} (h : wp_Ha_add_27 a1 a2 a3 σ Q) : um_Con um_cl um_AW um_L um_SX 1 22 M_Ha_add [.ref 7, .int a1, .int a2, .int a3, .ref 27] σ (um_Qv Q) := by
  refine um_con (by decide) (Nat.le_of_ble_eq_true rfl) (fun v hv => by simp only [List.mem_cons, List.not_mem_nil, or_false] at hv; rcases hv with rfl | rfl | rfl | rfl | rfl <;> rfl) ?_
  show um_Ev um_cl um_AW um_L um_SX M_Ha_add 1 22 0 [some (.ref 7), some (.int a1), some (.int a2), some (.int a3), some (.ref 27), none] [] σ (um_Qv Q)
  unfold wp_Ha_add_27 at h
  refine um_aload_n (pc2 := 1) d_Ha_add_0 rfl rfl ?_
  refine um_getI (pc2 := 4) d_Ha_add_1 rfl f_Ha_21 rfl rfl ?_
  refine um_sipush (pc2 := 7) (v := 501) d_Ha_add_4 rfl (by decide) ?_
  refine um_icmp_lt (pc2 := 10) (tgt := 11) d_Ha_add_7 rfl rfl (fun z => ?_) (fun z => ?_)
  · replace h := h.1 z
    refine um_aload_n (pc2 := 12) d_Ha_add_11 rfl rfl ?_
    refine um_getI (pc2 := 15) d_Ha_add_12 rfl f_Ha_21 rfl rfl ?_
    refine um_top (fun x1 ex1 => ?_)
    replace h := h x1 ex1
    refine um_istore (pc2 := 17) (ls2 := [some (.ref 7), some (.int a1), some (.int a2), some (.int a3), some (.ref 27), some (.int x1)]) d_Ha_add_15 rfl (Nat.le_of_ble_eq_true rfl) rfl ?_
    refine um_forget [true, true, true, true, true, true] rfl ?_
    exact b_Ha_add_27_17 _ _ _ _ _ _ h
  · replace h := h.2 z
    exact um_vret d_Ha_add_10 rfl ⟨rfl, h⟩
def wp_Tr_catchAfter_16 (Q : Int32 → um_S → Prop) : Nat → Int32 → Int32 → Int32 → Int32 → um_S → Prop
  | 0, _, _, _, _, _ => False
  | n + 1, v2, v3, v4, v5, σ =>
    (v5 ≤ 0 → Q v3 σ) ∧ (¬ v5 ≤ 0 → (v4 = (-1) → Q v3 σ) ∧ (¬ v4 = (-1) → (v4 = v2 → Q v3 σ) ∧ (¬ v4 = v2 → wp_Tr_part v4 4 σ (fun x2 σ1 => wp_Tr_catchAfter_16 Q n v2 v4 x2 (v5 + (-1)) σ1))))
def wp_Tr_catchAfter (a1 : Int32) (a2 : Int32) (σ : um_S) (Q : Int32 → um_S → Prop) : Prop :=
  wp_Tr_part a1 1 σ (fun x2 σ1 => ∀ x3 : Int32, x3 = (σ1 1 3) → wp_Tr_catchAfter_16 Q 100000 a2 (-1) x2 x3 σ1)
set_option maxHeartbeats 4000000 in
set_option maxRecDepth 100000 in
theorem b_Tr_catchAfter_16 {Q : Int32 → um_S → Prop} (n : Nat) : ∀ (v2 : Int32) (v3 : Int32) (v4 : Int32) (v5 : Int32) (σ : um_S), wp_Tr_catchAfter_16 Q n v2 v3 v4 v5 σ → um_Ev um_cl um_AW um_L um_SX M_Tr_catchAfter 1 22 16 [some (.ref 1), none, some (.int v2), some (.int v3), some (.int v4), some (.int v5)] [] σ (um_Qi Q) := by
  induction n with
  | zero =>
    intro v2 v3 v4 v5 σ h
    exact h.elim
  | succ n ih =>
    intro v2 v3 v4 v5 σ h
    unfold wp_Tr_catchAfter_16 at h
    refine um_iload (pc2 := 18) d_Tr_catchAfter_16 rfl rfl ?_
    refine um_if_le (pc2 := 21) (tgt := 51) d_Tr_catchAfter_18 rfl rfl (fun z => ?_) (fun z => ?_)
    · replace h := h.1 z
      refine um_iload_n (pc2 := 52) d_Tr_catchAfter_51 rfl rfl ?_
      exact um_iret d_Tr_catchAfter_52 rfl ⟨_, rfl, h⟩
    · replace h := h.2 z
      refine um_iload (pc2 := 23) d_Tr_catchAfter_21 rfl rfl ?_
      refine um_iconst (pc2 := 24) (v := (-1)) d_Tr_catchAfter_23 rfl (by decide) ?_
      refine um_icmp_eq (pc2 := 27) (tgt := 51) d_Tr_catchAfter_24 rfl rfl (fun z => ?_) (fun z => ?_)
      · replace h := h.1 z
        refine um_iload_n (pc2 := 52) d_Tr_catchAfter_51 rfl rfl ?_
        exact um_iret d_Tr_catchAfter_52 rfl ⟨_, rfl, h⟩
      · replace h := h.2 z
        refine um_iload (pc2 := 29) d_Tr_catchAfter_27 rfl rfl ?_
        refine um_iload_n (pc2 := 30) d_Tr_catchAfter_29 rfl rfl ?_
        refine um_icmp_eq (pc2 := 33) (tgt := 51) d_Tr_catchAfter_30 rfl rfl (fun z => ?_) (fun z => ?_)
        · replace h := h.1 z
          refine um_iload_n (pc2 := 52) d_Tr_catchAfter_51 rfl rfl ?_
          exact um_iret d_Tr_catchAfter_52 rfl ⟨_, rfl, h⟩
        · replace h := h.2 z
          refine um_iload (pc2 := 35) d_Tr_catchAfter_33 rfl rfl ?_
          refine um_istore_n (pc2 := 36) (ls2 := [some (.ref 1), none, some (.int v2), some (.int v4), some (.int v4), some (.int v5)]) d_Tr_catchAfter_35 rfl (Nat.le_of_ble_eq_true rfl) rfl ?_
          refine um_aload_n (pc2 := 37) d_Tr_catchAfter_36 rfl rfl ?_
          refine um_iload (pc2 := 39) d_Tr_catchAfter_37 rfl rfl ?_
          refine um_iconst (pc2 := 40) (v := 4) d_Tr_catchAfter_39 rfl (by decide) ?_
          refine um_callV2i (pc2 := 43) d_Tr_catchAfter_40 rfl g_Tr_44 rfl (Nat.le_of_ble_eq_true rfl) (Nat.le_of_ble_eq_true rfl) (Nat.le_of_ble_eq_true rfl) (c_Tr_part h) (fun x2 σ1 h => ?_)
          refine um_istore (pc2 := 45) (ls2 := [some (.ref 1), none, some (.int v2), some (.int v4), some (.int x2), some (.int v5)]) d_Tr_catchAfter_43 rfl (Nat.le_of_ble_eq_true rfl) rfl ?_
          refine um_iinc (pc2 := 48) (v := (v5 + (-1))) (ls2 := [some (.ref 1), none, some (.int v2), some (.int v4), some (.int x2), some (.int (v5 + (-1)))]) d_Tr_catchAfter_45 rfl rfl rfl (Nat.le_of_ble_eq_true rfl) rfl ?_
          refine um_goto (tgt := 16) d_Tr_catchAfter_48 rfl ?_
          refine um_forget [true, false, true, true, true, true] rfl ?_
          exact ih _ _ _ _ _ h
set_option maxHeartbeats 4000000 in
set_option maxRecDepth 100000 in
theorem c_Tr_catchAfter {a1 : Int32} {a2 : Int32} {σ : um_S} {Q : Int32 → um_S → Prop} (h : wp_Tr_catchAfter a1 a2 σ Q) : um_Con um_cl um_AW um_L um_SX 1 22 M_Tr_catchAfter [.ref 1, .int a1, .int a2] σ (um_Qi Q) := by
  refine um_con (by decide) (Nat.le_of_ble_eq_true rfl) (fun v hv => by simp only [List.mem_cons, List.not_mem_nil, or_false] at hv; rcases hv with rfl | rfl | rfl <;> rfl) ?_
  show um_Ev um_cl um_AW um_L um_SX M_Tr_catchAfter 1 22 0 [some (.ref 1), some (.int a1), some (.int a2), none, none, none] [] σ (um_Qi Q)
  unfold wp_Tr_catchAfter at h
  refine um_iconst (pc2 := 1) (v := (-1)) d_Tr_catchAfter_0 rfl (by decide) ?_
  refine um_istore_n (pc2 := 2) (ls2 := [some (.ref 1), some (.int a1), some (.int a2), some (.int (-1)), none, none]) d_Tr_catchAfter_1 rfl (Nat.le_of_ble_eq_true rfl) rfl ?_
  refine um_aload_n (pc2 := 3) d_Tr_catchAfter_2 rfl rfl ?_
  refine um_iload_n (pc2 := 4) d_Tr_catchAfter_3 rfl rfl ?_
  refine um_iconst (pc2 := 5) (v := 1) d_Tr_catchAfter_4 rfl (by decide) ?_
  refine um_callV2i (pc2 := 8) d_Tr_catchAfter_5 rfl g_Tr_44 rfl (Nat.le_of_ble_eq_true rfl) (Nat.le_of_ble_eq_true rfl) (Nat.le_of_ble_eq_true rfl) (c_Tr_part h) (fun x2 σ1 h => ?_)
  refine um_istore (pc2 := 10) (ls2 := [some (.ref 1), some (.int a1), some (.int a2), some (.int (-1)), some (.int x2), none]) d_Tr_catchAfter_8 rfl (Nat.le_of_ble_eq_true rfl) rfl ?_
  refine um_aload_n (pc2 := 11) d_Tr_catchAfter_10 rfl rfl ?_
  refine um_getI (pc2 := 14) d_Tr_catchAfter_11 rfl f_Tr_29 rfl rfl ?_
  refine um_top (fun x3 ex3 => ?_)
  replace h := h x3 ex3
  refine um_istore (pc2 := 16) (ls2 := [some (.ref 1), some (.int a1), some (.int a2), some (.int (-1)), some (.int x2), some (.int x3)]) d_Tr_catchAfter_14 rfl (Nat.le_of_ble_eq_true rfl) rfl ?_
  refine um_forget [true, false, true, true, true, true] rfl ?_
  exact b_Tr_catchAfter_16 _ _ _ _ _ _ h
