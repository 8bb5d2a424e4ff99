def wp_Ar_fill_AII_10_5 (Q : um_S → Prop) : Nat → Int32 → Int32 → Int32 → um_S → Prop
  | 0, _, _, _, _ => False
  | n + 1, v1, v2, v3, σ =>
    (v3 ≤ v2 → Q σ) ∧ (¬ v3 ≤ v2 → vp_in v2 6 ∧ ∀ σ1 : um_S, σ1 = um_up σ 10 v2.toNatClampNeg v1 → wp_Ar_fill_AII_10_5 Q n v1 (v2 + 1) v3 σ1)
def wp_Ar_fill_AII_10 (a1 : Int32) (σ : um_S) (Q : um_S → Prop) : Prop :=
  wp_Ar_fill_AII_10_5 Q 100000 a1 0 6 σ
set_option maxHeartbeats 4000000 in
set_option maxRecDepth 100000 in
theorem b_Ar_fill_AII_10_5 {Q : um_S → Prop} (n : Nat) : ∀ (v1 : Int32) (v2 : Int32) (v3 : Int32) (σ : um_S), wp_Ar_fill_AII_10_5 Q n v1 v2 v3 σ → um_Ev um_cl um_AW um_L um_SX M_Ar_fill_AII 0 0 5 [some (.ref 10), some (.int v1), some (.int v2), some (.int v3)] [] σ (um_Qv Q) := by
  induction n with
  | zero =>
    intro v1 v2 v3 σ h
    exact h.elim
  | succ n ih =>
    intro v1 v2 v3 σ h
    unfold wp_Ar_fill_AII_10_5 at h
    refine um_iload_n (pc2 := 6) d_Ar_fill_AII_5 rfl rfl ?_
    refine um_iload_n (pc2 := 7) d_Ar_fill_AII_6 rfl rfl ?_
    refine um_icmp_ge (pc2 := 10) (tgt := 20) d_Ar_fill_AII_7 rfl rfl (fun z => ?_) (fun z => ?_)
    · replace h := h.1 z
      exact um_vret d_Ar_fill_AII_20 rfl ⟨rfl, h⟩
    · replace h := h.2 z
      refine um_aload_n (pc2 := 11) d_Ar_fill_AII_10 rfl rfl ?_
      refine um_iload_n (pc2 := 12) d_Ar_fill_AII_11 rfl rfl ?_
      refine um_iload_n (pc2 := 13) d_Ar_fill_AII_12 rfl rfl ?_
      refine um_iast (pc2 := 14) d_Ar_fill_AII_13 rfl rfl h.1 rfl (um_gen (fun σ1 eσ1 => ?_))
      replace h := h.2 σ1 eσ1
      refine um_iinc (pc2 := 17) (v := (v2 + 1)) (ls2 := [some (.ref 10), some (.int v1), some (.int (v2 + 1)), some (.int v3)]) d_Ar_fill_AII_14 rfl rfl rfl (Nat.le_of_ble_eq_true rfl) rfl ?_
      refine um_goto (tgt := 5) d_Ar_fill_AII_17 rfl ?_
      refine um_forget [true, true, true, true] rfl ?_
      exact ih _ _ _ _ h
set_option maxHeartbeats 4000000 in
set_option maxRecDepth 100000 in
theorem c_Ar_fill_AII_10 {a1 : Int32} {σ : um_S} {Q : um_S → Prop} (h : wp_Ar_fill_AII_10 a1 σ Q) : um_Con um_cl um_AW um_L um_SX 0 0 M_Ar_fill_AII [.ref 10, .int a1] σ (um_Qv Q) := by
  refine um_con (by decide) (Nat.le_of_ble_eq_true rfl) (fun v hv => by simp only [List.mem_cons, List.not_mem_nil, or_false] at hv; rcases hv with rfl | rfl <;> rfl) ?_
  show um_Ev um_cl um_AW um_L um_SX M_Ar_fill_AII 0 0 0 [some (.ref 10), some (.int a1), none, none] [] σ (um_Qv Q)
  unfold wp_Ar_fill_AII_10 at h
  refine um_iconst (pc2 := 1) (v := 0) d_Ar_fill_AII_0 rfl (by decide) ?_
  refine um_istore_n (pc2 := 2) (ls2 := [some (.ref 10), some (.int a1), some (.int 0), none]) d_Ar_fill_AII_1 rfl (Nat.le_of_ble_eq_true rfl) rfl ?_
  refine um_aload_n (pc2 := 3) d_Ar_fill_AII_2 rfl rfl ?_
  refine um_alen (pc2 := 4) d_Ar_fill_AII_3 rfl rfl ?_
  refine um_istore_n (pc2 := 5) (ls2 := [some (.ref 10), some (.int a1), some (.int 0), some (.int 6)]) d_Ar_fill_AII_4 rfl (Nat.le_of_ble_eq_true rfl) rfl ?_
  refine um_forget [true, true, true, true] rfl ?_
  exact b_Ar_fill_AII_10_5 _ _ _ _ _ h
def wp_Tr_kindOf (a1 : Int32) (σ : um_S) (Q : Int32 → um_S → Prop) : Prop :=
  (a1 < 0 → Q (-1) σ) ∧ (¬ a1 < 0 → ((σ 1 3) ≤ a1 → Q (-1) σ) ∧ (¬ (σ 1 3) ≤ a1 → vp_in a1 150 ∧ Q (σ 8 a1.toNatClampNeg) σ))
set_option maxHeartbeats 4000000 in
set_option maxRecDepth 100000 in
theorem c_Tr_kindOf {a1 : Int32} {σ : um_S} {Q : Int32 → um_S → Prop} (h : wp_Tr_kindOf a1 σ Q) : um_Con um_cl um_AW um_L um_SX 0 0 M_Tr_kindOf [.ref 1, .int a1] σ (um_Qi Q) := by
  refine um_con (by decide) (Nat.le_of_ble_eq_true rfl) (fun v hv => by simp only [List.mem_cons, List.not_mem_nil, or_false] at hv; rcases hv with rfl | rfl <;> rfl) ?_
  show um_Ev um_cl um_AW um_L um_SX M_Tr_kindOf 0 0 0 [some (.ref 1), some (.int a1)] [] σ (um_Qi Q)
  unfold wp_Tr_kindOf at h
  refine um_iload_n (pc2 := 1) d_Tr_kindOf_0 rfl rfl ?_
  refine um_if_lt (pc2 := 4) (tgt := 21) d_Tr_kindOf_1 rfl rfl (fun z => ?_) (fun z => ?_)
  · replace h := h.1 z
    refine um_iconst (pc2 := 22) (v := (-1)) d_Tr_kindOf_21 rfl (by decide) ?_
    exact um_iret d_Tr_kindOf_22 rfl ⟨_, rfl, h⟩
  · replace h := h.2 z
    refine um_iload_n (pc2 := 5) d_Tr_kindOf_4 rfl rfl ?_
    refine um_aload_n (pc2 := 6) d_Tr_kindOf_5 rfl rfl ?_
    refine um_getI (pc2 := 9) d_Tr_kindOf_6 rfl f_Tr_29 rfl rfl ?_
    refine um_icmp_ge (pc2 := 12) (tgt := 21) d_Tr_kindOf_9 rfl rfl (fun z => ?_) (fun z => ?_)
    · replace h := h.1 z
      refine um_iconst (pc2 := 22) (v := (-1)) d_Tr_kindOf_21 rfl (by decide) ?_
      exact um_iret d_Tr_kindOf_22 rfl ⟨_, rfl, h⟩
    · replace h := h.2 z
      refine um_aload_n (pc2 := 13) d_Tr_kindOf_12 rfl rfl ?_
      refine um_getR (pc2 := 16) d_Tr_kindOf_13 rfl f_Tr_9 rfl rfl ?_
      refine um_iload_n (pc2 := 17) d_Tr_kindOf_16 rfl rfl ?_
      refine um_iald (pc2 := 18) d_Tr_kindOf_17 rfl rfl h.1 rfl ?_
      replace h := h.2
      refine um_goto (tgt := 22) d_Tr_kindOf_18 rfl ?_
      exact um_iret d_Tr_kindOf_22 rfl ⟨_, rfl, h⟩
def wp_UM_isVariable (a0 : Int32) (σ : um_S) (Q : Bool → um_S → Prop) : Prop :=
  (a0 < 0 → Q false σ) ∧ (¬ a0 < 0 → (8 ≤ a0 → Q false σ) ∧ (¬ 8 ≤ a0 → Q true σ))
set_option maxHeartbeats 4000000 in
set_option maxRecDepth 100000 in
theorem c_UM_isVariable {a0 : Int32} {σ : um_S} {Q : Bool → um_S → Prop} (h : wp_UM_isVariable a0 σ Q) : um_Con um_cl um_AW um_L um_SX 0 0 M_UM_isVariable [.int a0] σ (um_Qz Q) := by
  refine um_con (by decide) (Nat.le_of_ble_eq_true rfl) (fun v hv => by simp only [List.mem_cons, List.not_mem_nil, or_false] at hv; rcases hv with rfl <;> rfl) ?_
  show um_Ev um_cl um_AW um_L um_SX M_UM_isVariable 0 0 0 [some (.int a0)] [] σ (um_Qz Q)
  unfold wp_UM_isVariable at h
  refine um_iload_n (pc2 := 1) d_UM_isVariable_0 rfl rfl ?_
  refine um_if_lt (pc2 := 4) (tgt := 14) d_UM_isVariable_1 rfl rfl (fun z => ?_) (fun z => ?_)
  · replace h := h.1 z
    refine um_iconst (pc2 := 15) (v := 0) d_UM_isVariable_14 rfl (by decide) ?_
    exact um_zret d_UM_isVariable_15 rfl (by decide) ⟨false, rfl, h⟩
  · replace h := h.2 z
    refine um_iload_n (pc2 := 5) d_UM_isVariable_4 rfl rfl ?_
    refine um_bipush (pc2 := 7) (v := 8) d_UM_isVariable_5 rfl (by decide) ?_
    refine um_icmp_ge (pc2 := 10) (tgt := 14) d_UM_isVariable_7 rfl rfl (fun z => ?_) (fun z => ?_)
    · replace h := h.1 z
      refine um_iconst (pc2 := 15) (v := 0) d_UM_isVariable_14 rfl (by decide) ?_
      exact um_zret d_UM_isVariable_15 rfl (by decide) ⟨false, rfl, h⟩
    · replace h := h.2 z
      refine um_iconst (pc2 := 11) (v := 1) d_UM_isVariable_10 rfl (by decide) ?_
      refine um_goto (tgt := 15) d_UM_isVariable_11 rfl ?_
      exact um_zret d_UM_isVariable_15 rfl (by decide) ⟨true, rfl, h⟩
def wp_UM_isFunction (a0 : Int32) (σ : um_S) (Q : Bool → um_S → Prop) : Prop :=
  (a0 < 0 → Q false σ) ∧ (¬ a0 < 0 → (6 ≤ a0 → Q false σ) ∧ (¬ 6 ≤ a0 → Q true σ))
set_option maxHeartbeats 4000000 in
set_option maxRecDepth 100000 in
theorem c_UM_isFunction {a0 : Int32} {σ : um_S} {Q : Bool → um_S → Prop} (h : wp_UM_isFunction a0 σ Q) : um_Con um_cl um_AW um_L um_SX 0 0 M_UM_isFunction [.int a0] σ (um_Qz Q) := by
  refine um_con (by decide) (Nat.le_of_ble_eq_true rfl) (fun v hv => by simp only [List.mem_cons, List.not_mem_nil, or_false] at hv; rcases hv with rfl <;> rfl) ?_
  show um_Ev um_cl um_AW um_L um_SX M_UM_isFunction 0 0 0 [some (.int a0)] [] σ (um_Qz Q)
  unfold wp_UM_isFunction at h
  refine um_iload_n (pc2 := 1) d_UM_isFunction_0 rfl rfl ?_
  refine um_if_lt (pc2 := 4) (tgt := 14) d_UM_isFunction_1 rfl rfl (fun z => ?_) (fun z => ?_)
  · replace h := h.1 z
    refine um_iconst (pc2 := 15) (v := 0) d_UM_isFunction_14 rfl (by decide) ?_
    exact um_zret d_UM_isFunction_15 rfl (by decide) ⟨false, rfl, h⟩
  · replace h := h.2 z
    refine um_iload_n (pc2 := 5) d_UM_isFunction_4 rfl rfl ?_
    refine um_bipush (pc2 := 7) (v := 6) d_UM_isFunction_5 rfl (by decide) ?_
    refine um_icmp_ge (pc2 := 10) (tgt := 14) d_UM_isFunction_7 rfl rfl (fun z => ?_) (fun z => ?_)
    · replace h := h.1 z
      refine um_iconst (pc2 := 15) (v := 0) d_UM_isFunction_14 rfl (by decide) ?_
      exact um_zret d_UM_isFunction_15 rfl (by decide) ⟨false, rfl, h⟩
    · replace h := h.2 z
      refine um_iconst (pc2 := 11) (v := 1) d_UM_isFunction_10 rfl (by decide) ?_
      refine um_goto (tgt := 15) d_UM_isFunction_11 rfl ?_
      exact um_zret d_UM_isFunction_15 rfl (by decide) ⟨true, rfl, h⟩
def wp_Tr_fits (a1 : Int32) (a2 : Int32) (σ : um_S) (Q : Bool → um_S → Prop) : Prop :=
  wp_Tr_kindOf a2 σ (fun x2 σ1 => (a1 = 1 → wp_UM_isVariable a2 σ1 (fun t4 σ3 => Q t4 σ3)) ∧ (¬ a1 = 1 → (a1 = 2 → wp_UM_isFunction a2 σ1 (fun t6 σ5 => Q t6 σ5)) ∧ (¬ a1 = 2 → (a1 = 3 → (x2 < 0 → Q false σ1) ∧ (¬ x2 < 0 → (7 < x2 → Q false σ1) ∧ (¬ 7 < x2 → Q true σ1))) ∧ (¬ a1 = 3 → (a1 = 4 → (x2 < 8 → Q false σ1) ∧ (¬ x2 < 8 → (18 < x2 → Q false σ1) ∧ (¬ 18 < x2 → Q true σ1))) ∧ (¬ a1 = 4 → (a1 = 5 → (x2 < 19 → Q false σ1) ∧ (¬ x2 < 19 → Q true σ1)) ∧ (¬ a1 = 5 → (a1 = 6 → (a2 = (-1) → Q true σ1) ∧ (¬ a2 = (-1) → (x2 < 8 → Q false σ1) ∧ (¬ x2 < 8 → (18 < x2 → Q false σ1) ∧ (¬ 18 < x2 → Q true σ1)))) ∧ (¬ a1 = 6 → (a1 = 7 → (a2 = (-1) → Q true σ1) ∧ (¬ a2 = (-1) → (x2 < 19 → Q false σ1) ∧ (¬ x2 < 19 → Q true σ1))) ∧ (¬ a1 = 7 → Q true σ1))))))))
set_option maxHeartbeats 4000000 in
set_option maxRecDepth 100000 in
theorem c_Tr_fits {a1 : Int32} {a2 : Int32} {σ : um_S} {Q : Bool → um_S → Prop} (h : wp_Tr_fits a1 a2 σ Q) : um_Con um_cl um_AW um_L um_SX 1 21 M_Tr_fits [.ref 1, .int a1, .int a2] σ (um_Qz Q) := by
  refine um_con (by decide) (Nat.le_of_ble_eq_true rfl) (fun v hv => by simp only [List.mem_cons, List.not_mem_nil, or_false] at hv; rcases hv with rfl | rfl | rfl <;> rfl) ?_
  show um_Ev um_cl um_AW um_L um_SX M_Tr_fits 1 21 0 [some (.ref 1), some (.int a1), some (.int a2), none] [] σ (um_Qz Q)
  unfold wp_Tr_fits at h
  refine um_aload_n (pc2 := 1) d_Tr_fits_0 rfl rfl ?_
  refine um_iload_n (pc2 := 2) d_Tr_fits_1 rfl rfl ?_
  refine um_callV1i (pc2 := 5) d_Tr_fits_2 rfl g_Tr_48 rfl (Nat.le_of_ble_eq_true rfl) (Nat.le_of_ble_eq_true rfl) (Nat.le_of_ble_eq_true rfl) (c_Tr_kindOf h) (fun x2 σ1 h => ?_)
  refine um_istore_n (pc2 := 6) (ls2 := [some (.ref 1), some (.int a1), some (.int a2), some (.int x2)]) d_Tr_fits_5 rfl (Nat.le_of_ble_eq_true rfl) rfl ?_
  refine um_iload_n (pc2 := 7) d_Tr_fits_6 rfl rfl ?_
  by_cases z1 : a1 = 1
  · replace h := h.1 z1
    refine um_tableAt (tgt := 48) d_Tr_fits_7 z1 (kk := 1) (by decide) (by decide) (by decide) rfl rfl ?_
    refine um_iload_n (pc2 := 49) d_Tr_fits_48 rfl rfl ?_
    refine um_callS1z (pc2 := 52) d_Tr_fits_49 rfl g_Tr_52 (Nat.le_of_ble_eq_true rfl) (Nat.le_of_ble_eq_true rfl) (Nat.le_of_ble_eq_true rfl) (c_UM_isVariable h) (fun t4 σ3 h => ?_)
    exact um_zret d_Tr_fits_52 rfl (um_b01 t4) ⟨t4, rfl, h⟩
  replace h := h.2 z1
  by_cases z2 : a1 = 2
  · replace h := h.1 z2
    refine um_tableAt (tgt := 53) d_Tr_fits_7 z2 (kk := 2) (by decide) (by decide) (by decide) rfl rfl ?_
    refine um_iload_n (pc2 := 54) d_Tr_fits_53 rfl rfl ?_
    refine um_callS1z (pc2 := 57) d_Tr_fits_54 rfl g_Tr_40 (Nat.le_of_ble_eq_true rfl) (Nat.le_of_ble_eq_true rfl) (Nat.le_of_ble_eq_true rfl) (c_UM_isFunction h) (fun t6 σ5 h => ?_)
    exact um_zret d_Tr_fits_57 rfl (um_b01 t6) ⟨t6, rfl, h⟩
  replace h := h.2 z2
  by_cases z3 : a1 = 3
  · replace h := h.1 z3
    refine um_tableAt (tgt := 58) d_Tr_fits_7 z3 (kk := 3) (by decide) (by decide) (by decide) rfl rfl ?_
    refine um_iload_n (pc2 := 59) d_Tr_fits_58 rfl rfl ?_
    refine um_if_lt (pc2 := 62) (tgt := 72) d_Tr_fits_59 rfl rfl (fun z => ?_) (fun z => ?_)
    · replace h := h.1 z
      refine um_iconst (pc2 := 73) (v := 0) d_Tr_fits_72 rfl (by decide) ?_
      exact um_zret d_Tr_fits_73 rfl (by decide) ⟨false, rfl, h⟩
    · replace h := h.2 z
      refine um_iload_n (pc2 := 63) d_Tr_fits_62 rfl rfl ?_
      refine um_bipush (pc2 := 65) (v := 7) d_Tr_fits_63 rfl (by decide) ?_
      refine um_icmp_gt (pc2 := 68) (tgt := 72) d_Tr_fits_65 rfl rfl (fun z => ?_) (fun z => ?_)
      · replace h := h.1 z
        refine um_iconst (pc2 := 73) (v := 0) d_Tr_fits_72 rfl (by decide) ?_
        exact um_zret d_Tr_fits_73 rfl (by decide) ⟨false, rfl, h⟩
      · replace h := h.2 z
        refine um_iconst (pc2 := 69) (v := 1) d_Tr_fits_68 rfl (by decide) ?_
        refine um_goto (tgt := 73) d_Tr_fits_69 rfl ?_
        exact um_zret d_Tr_fits_73 rfl (by decide) ⟨true, rfl, h⟩
  replace h := h.2 z3
  by_cases z4 : a1 = 4
  · replace h := h.1 z4
    refine um_tableAt (tgt := 74) d_Tr_fits_7 z4 (kk := 4) (by decide) (by decide) (by decide) rfl rfl ?_
    refine um_iload_n (pc2 := 75) d_Tr_fits_74 rfl rfl ?_
    refine um_bipush (pc2 := 77) (v := 8) d_Tr_fits_75 rfl (by decide) ?_
    refine um_icmp_lt (pc2 := 80) (tgt := 90) d_Tr_fits_77 rfl rfl (fun z => ?_) (fun z => ?_)
    · replace h := h.1 z
      refine um_iconst (pc2 := 91) (v := 0) d_Tr_fits_90 rfl (by decide) ?_
      exact um_zret d_Tr_fits_91 rfl (by decide) ⟨false, rfl, h⟩
    · replace h := h.2 z
      refine um_iload_n (pc2 := 81) d_Tr_fits_80 rfl rfl ?_
      refine um_bipush (pc2 := 83) (v := 18) d_Tr_fits_81 rfl (by decide) ?_
      refine um_icmp_gt (pc2 := 86) (tgt := 90) d_Tr_fits_83 rfl rfl (fun z => ?_) (fun z => ?_)
      · replace h := h.1 z
        refine um_iconst (pc2 := 91) (v := 0) d_Tr_fits_90 rfl (by decide) ?_
        exact um_zret d_Tr_fits_91 rfl (by decide) ⟨false, rfl, h⟩
      · replace h := h.2 z
        refine um_iconst (pc2 := 87) (v := 1) d_Tr_fits_86 rfl (by decide) ?_
        refine um_goto (tgt := 91) d_Tr_fits_87 rfl ?_
        exact um_zret d_Tr_fits_91 rfl (by decide) ⟨true, rfl, h⟩
  replace h := h.2 z4
  by_cases z5 : a1 = 5
  · replace h := h.1 z5
    refine um_tableAt (tgt := 92) d_Tr_fits_7 z5 (kk := 5) (by decide) (by decide) (by decide) rfl rfl ?_
    refine um_iload_n (pc2 := 93) d_Tr_fits_92 rfl rfl ?_
    refine um_bipush (pc2 := 95) (v := 19) d_Tr_fits_93 rfl (by decide) ?_
    refine um_icmp_lt (pc2 := 98) (tgt := 102) d_Tr_fits_95 rfl rfl (fun z => ?_) (fun z => ?_)
    · replace h := h.1 z
      refine um_iconst (pc2 := 103) (v := 0) d_Tr_fits_102 rfl (by decide) ?_
      exact um_zret d_Tr_fits_103 rfl (by decide) ⟨false, rfl, h⟩
    · replace h := h.2 z
      refine um_iconst (pc2 := 99) (v := 1) d_Tr_fits_98 rfl (by decide) ?_
      refine um_goto (tgt := 103) d_Tr_fits_99 rfl ?_
      exact um_zret d_Tr_fits_103 rfl (by decide) ⟨true, rfl, h⟩
  replace h := h.2 z5
  by_cases z6 : a1 = 6
  · replace h := h.1 z6
    refine um_tableAt (tgt := 104) d_Tr_fits_7 z6 (kk := 6) (by decide) (by decide) (by decide) rfl rfl ?_
    refine um_iload_n (pc2 := 105) d_Tr_fits_104 rfl rfl ?_
    refine um_iconst (pc2 := 106) (v := (-1)) d_Tr_fits_105 rfl (by decide) ?_
    refine um_icmp_eq (pc2 := 109) (tgt := 121) d_Tr_fits_106 rfl rfl (fun z => ?_) (fun z => ?_)
    · replace h := h.1 z
      refine um_iconst (pc2 := 122) (v := 1) d_Tr_fits_121 rfl (by decide) ?_
      refine um_goto (tgt := 126) d_Tr_fits_122 rfl ?_
      exact um_zret d_Tr_fits_126 rfl (by decide) ⟨true, rfl, h⟩
    · replace h := h.2 z
      refine um_iload_n (pc2 := 110) d_Tr_fits_109 rfl rfl ?_
      refine um_bipush (pc2 := 112) (v := 8) d_Tr_fits_110 rfl (by decide) ?_
      refine um_icmp_lt (pc2 := 115) (tgt := 125) d_Tr_fits_112 rfl rfl (fun z => ?_) (fun z => ?_)
      · replace h := h.1 z
        refine um_iconst (pc2 := 126) (v := 0) d_Tr_fits_125 rfl (by decide) ?_
        exact um_zret d_Tr_fits_126 rfl (by decide) ⟨false, rfl, h⟩
      · replace h := h.2 z
        refine um_iload_n (pc2 := 116) d_Tr_fits_115 rfl rfl ?_
        refine um_bipush (pc2 := 118) (v := 18) d_Tr_fits_116 rfl (by decide) ?_
        refine um_icmp_gt (pc2 := 121) (tgt := 125) d_Tr_fits_118 rfl rfl (fun z => ?_) (fun z => ?_)
        · replace h := h.1 z
          refine um_iconst (pc2 := 126) (v := 0) d_Tr_fits_125 rfl (by decide) ?_
          exact um_zret d_Tr_fits_126 rfl (by decide) ⟨false, rfl, h⟩
        · replace h := h.2 z
          refine um_iconst (pc2 := 122) (v := 1) d_Tr_fits_121 rfl (by decide) ?_
          refine um_goto (tgt := 126) d_Tr_fits_122 rfl ?_
          exact um_zret d_Tr_fits_126 rfl (by decide) ⟨true, rfl, h⟩
  replace h := h.2 z6
  by_cases z7 : a1 = 7
  · replace h := h.1 z7
    refine um_tableAt (tgt := 127) d_Tr_fits_7 z7 (kk := 7) (by decide) (by decide) (by decide) rfl rfl ?_
    refine um_iload_n (pc2 := 128) d_Tr_fits_127 rfl rfl ?_
    refine um_iconst (pc2 := 129) (v := (-1)) d_Tr_fits_128 rfl (by decide) ?_
    refine um_icmp_eq (pc2 := 132) (tgt := 138) d_Tr_fits_129 rfl rfl (fun z => ?_) (fun z => ?_)
    · replace h := h.1 z
      refine um_iconst (pc2 := 139) (v := 1) d_Tr_fits_138 rfl (by decide) ?_
      refine um_goto (tgt := 143) d_Tr_fits_139 rfl ?_
      exact um_zret d_Tr_fits_143 rfl (by decide) ⟨true, rfl, h⟩
    · replace h := h.2 z
      refine um_iload_n (pc2 := 133) d_Tr_fits_132 rfl rfl ?_
      refine um_bipush (pc2 := 135) (v := 19) d_Tr_fits_133 rfl (by decide) ?_
      refine um_icmp_lt (pc2 := 138) (tgt := 142) d_Tr_fits_135 rfl rfl (fun z => ?_) (fun z => ?_)
      · replace h := h.1 z
        refine um_iconst (pc2 := 143) (v := 0) d_Tr_fits_142 rfl (by decide) ?_
        exact um_zret d_Tr_fits_143 rfl (by decide) ⟨false, rfl, h⟩
      · replace h := h.2 z
        refine um_iconst (pc2 := 139) (v := 1) d_Tr_fits_138 rfl (by decide) ?_
        refine um_goto (tgt := 143) d_Tr_fits_139 rfl ?_
        exact um_zret d_Tr_fits_143 rfl (by decide) ⟨true, rfl, h⟩
  replace h := h.2 z7
  have hE : um_Ev um_cl um_AW um_L um_SX M_Tr_fits 1 21 144 [some (.ref 1), some (.int a1), some (.int a2), some (.int x2)] [] σ1 (um_Qz Q) := by
    refine um_iconst (pc2 := 145) (v := 1) d_Tr_fits_144 rfl (by decide) ?_
    exact um_zret d_Tr_fits_145 rfl (by decide) ⟨true, rfl, h⟩
  exact um_tableOut (tgt := 144) d_Tr_fits_7 (by have := um_toInt_ne (kk := 1) z1 (by decide); have := um_toInt_ne (kk := 2) z2 (by decide); have := um_toInt_ne (kk := 3) z3 (by decide); have := um_toInt_ne (kk := 4) z4 (by decide); have := um_toInt_ne (kk := 5) z5 (by decide); have := um_toInt_ne (kk := 6) z6 (by decide); have := um_toInt_ne (kk := 7) z7 (by decide); omega) rfl hE
def wp_Tr_add_115 (Q : Int32 → um_S → Prop) (v1 : Int32) (v2 : Int32) (v3 : Int32) (v4 : Int32) (v5 : Int32) (v6 : Int32) (v8 : Int32) (σ : um_S) : Prop :=
  (¬ v8 = 0 → ∀ x1 : Int32, x1 = ((σ 1 3) * 5) → vp_in (σ 1 3) 150 ∧ ∀ σ2 : um_S, σ2 = um_up σ 8 (σ 1 3).toNatClampNeg v1 → vp_in x1 750 ∧ ∀ σ3 : um_S, σ3 = um_up σ2 9 x1.toNatClampNeg v2 → vp_in (x1 + 1) 750 ∧ ∀ σ4 : um_S, σ4 = um_up σ3 9 (x1 + 1).toNatClampNeg v3 → vp_in (x1 + 2) 750 ∧ ∀ σ5 : um_S, σ5 = um_up σ4 9 (x1 + 2).toNatClampNeg v4 → vp_in (x1 + 3) 750 ∧ ∀ σ6 : um_S, σ6 = um_up σ5 9 (x1 + 3).toNatClampNeg v5 → vp_in (x1 + 4) 750 ∧ ∀ σ7 : um_S, σ7 = um_up σ6 9 (x1 + 4).toNatClampNeg v6 → ∀ σ8 : um_S, σ8 = um_up σ7 1 3 ((σ7 1 3) + 1) → Q ((σ8 1 3) - 1) σ8) ∧ (v8 = 0 → Q (-1) σ)
def wp_Tr_add_112 (Q : Int32 → um_S → Prop) (v1 : Int32) (v2 : Int32) (v3 : Int32) (v4 : Int32) (v5 : Int32) (v6 : Int32) (σ : um_S) : Prop :=
  wp_Tr_add_115 Q v1 v2 v3 v4 v5 v6 0 σ
def wp_Tr_add (a1 : Int32) (a2 : Int32) (a3 : Int32) (a4 : Int32) (a5 : Int32) (a6 : Int32) (σ : um_S) (Q : Int32 → um_S → Prop) : Prop :=
  (a1 < 0 → Q (-1) σ) ∧ (¬ a1 < 0 → (20 < a1 → Q (-1) σ) ∧ (¬ 20 < a1 → ((σ 1 3) < 150 → ∀ x1 : Int32, x1 = (a1 * 5) → vp_in x1 105 ∧ wp_Tr_fits (um_SORTS x1.toNatClampNeg) a2 σ (fun t3 σ2 => (t3 = false → wp_Tr_add_112 Q a1 a2 a3 a4 a5 a6 σ2) ∧ (t3 = true → vp_in (x1 + 1) 105 ∧ wp_Tr_fits (um_SORTS (x1 + 1).toNatClampNeg) a3 σ2 (fun t5 σ4 => (t5 = false → wp_Tr_add_112 Q a1 a2 a3 a4 a5 a6 σ4) ∧ (t5 = true → vp_in (x1 + 2) 105 ∧ wp_Tr_fits (um_SORTS (x1 + 2).toNatClampNeg) a4 σ4 (fun t7 σ6 => (t7 = false → wp_Tr_add_112 Q a1 a2 a3 a4 a5 a6 σ6) ∧ (t7 = true → vp_in (x1 + 3) 105 ∧ wp_Tr_fits (um_SORTS (x1 + 3).toNatClampNeg) a5 σ6 (fun t9 σ8 => (t9 = false → wp_Tr_add_112 Q a1 a2 a3 a4 a5 a6 σ8) ∧ (t9 = true → vp_in (x1 + 4) 105 ∧ wp_Tr_fits (um_SORTS (x1 + 4).toNatClampNeg) a6 σ8 (fun t11 σ10 => (t11 = false → wp_Tr_add_112 Q a1 a2 a3 a4 a5 a6 σ10) ∧ (t11 = true → wp_Tr_add_115 Q a1 a2 a3 a4 a5 a6 1 σ10))))))))))) ∧ (¬ (σ 1 3) < 150 → Q (-1) σ)))
set_option maxHeartbeats 4000000 in
set_option maxRecDepth 100000 in
theorem b_Tr_add_115 {Q : Int32 → um_S → Prop} {v1 : Int32} {v2 : Int32} {v3 : Int32} {v4 : Int32} {v5 : Int32} {v6 : Int32} {v8 : Int32} {σ : um_S} (h : wp_Tr_add_115 Q v1 v2 v3 v4 v5 v6 v8 σ) : um_Ev um_cl um_AW um_L um_SX M_Tr_add 2 44 115 [some (.ref 1), some (.int v1), some (.int v2), some (.int v3), some (.int v4), some (.int v5), some (.int v6), none, some (.int v8), none] [] σ (um_Qi Q) := by
  unfold wp_Tr_add_115 at h
  refine um_iload (pc2 := 117) d_Tr_add_115 rfl rfl ?_
  refine um_if_ne (pc2 := 120) (tgt := 122) d_Tr_add_117 rfl rfl (fun z => ?_) (fun z => ?_)
  · replace h := h.1 z
    refine um_aload_n (pc2 := 123) d_Tr_add_122 rfl rfl ?_
    refine um_getI (pc2 := 126) d_Tr_add_123 rfl f_Tr_29 rfl rfl ?_
    refine um_iconst (pc2 := 127) (v := 5) d_Tr_add_126 rfl (by decide) ?_
    refine um_imul (pc2 := 128) d_Tr_add_127 rfl ?_
    refine um_top (fun x1 ex1 => ?_)
    replace h := h x1 ex1
    refine um_istore (pc2 := 130) (ls2 := [some (.ref 1), some (.int v1), some (.int v2), some (.int v3), some (.int v4), some (.int v5), some (.int v6), none, some (.int v8), some (.int x1)]) d_Tr_add_128 rfl (Nat.le_of_ble_eq_true rfl) rfl ?_
    refine um_aload_n (pc2 := 131) d_Tr_add_130 rfl rfl ?_
    refine um_getR (pc2 := 134) d_Tr_add_131 rfl f_Tr_9 rfl rfl ?_
    refine um_aload_n (pc2 := 135) d_Tr_add_134 rfl rfl ?_
    refine um_getI (pc2 := 138) d_Tr_add_135 rfl f_Tr_29 rfl rfl ?_
    refine um_iload_n (pc2 := 139) d_Tr_add_138 rfl rfl ?_
    refine um_iast (pc2 := 140) d_Tr_add_139 rfl rfl h.1 rfl (um_gen (fun σ2 eσ2 => ?_))
    replace h := h.2 σ2 eσ2
    refine um_aload_n (pc2 := 141) d_Tr_add_140 rfl rfl ?_
    refine um_getR (pc2 := 144) d_Tr_add_141 rfl f_Tr_15 rfl rfl ?_
    refine um_iload (pc2 := 146) d_Tr_add_144 rfl rfl ?_
    refine um_iload_n (pc2 := 147) d_Tr_add_146 rfl rfl ?_
    refine um_iast (pc2 := 148) d_Tr_add_147 rfl rfl h.1 rfl (um_gen (fun σ3 eσ3 => ?_))
    replace h := h.2 σ3 eσ3
    refine um_aload_n (pc2 := 149) d_Tr_add_148 rfl rfl ?_
    refine um_getR (pc2 := 152) d_Tr_add_149 rfl f_Tr_15 rfl rfl ?_
    refine um_iload (pc2 := 154) d_Tr_add_152 rfl rfl ?_
    refine um_iconst (pc2 := 155) (v := 1) d_Tr_add_154 rfl (by decide) ?_
    refine um_iadd (pc2 := 156) d_Tr_add_155 rfl ?_
    refine um_iload_n (pc2 := 157) d_Tr_add_156 rfl rfl ?_
    refine um_iast (pc2 := 158) d_Tr_add_157 rfl rfl h.1 rfl (um_gen (fun σ4 eσ4 => ?_))
    replace h := h.2 σ4 eσ4
    refine um_aload_n (pc2 := 159) d_Tr_add_158 rfl rfl ?_
    refine um_getR (pc2 := 162) d_Tr_add_159 rfl f_Tr_15 rfl rfl ?_
    refine um_iload (pc2 := 164) d_Tr_add_162 rfl rfl ?_
    refine um_iconst (pc2 := 165) (v := 2) d_Tr_add_164 rfl (by decide) ?_
    refine um_iadd (pc2 := 166) d_Tr_add_165 rfl ?_
    refine um_iload (pc2 := 168) d_Tr_add_166 rfl rfl ?_
    refine um_iast (pc2 := 169) d_Tr_add_168 rfl rfl h.1 rfl (um_gen (fun σ5 eσ5 => ?_))
    replace h := h.2 σ5 eσ5
    refine um_aload_n (pc2 := 170) d_Tr_add_169 rfl rfl ?_
    refine um_getR (pc2 := 173) d_Tr_add_170 rfl f_Tr_15 rfl rfl ?_
    refine um_iload (pc2 := 175) d_Tr_add_173 rfl rfl ?_
    refine um_iconst (pc2 := 176) (v := 3) d_Tr_add_175 rfl (by decide) ?_
    refine um_iadd (pc2 := 177) d_Tr_add_176 rfl ?_
    refine um_iload (pc2 := 179) d_Tr_add_177 rfl rfl ?_
    refine um_iast (pc2 := 180) d_Tr_add_179 rfl rfl h.1 rfl (um_gen (fun σ6 eσ6 => ?_))
    replace h := h.2 σ6 eσ6
    refine um_aload_n (pc2 := 181) d_Tr_add_180 rfl rfl ?_
    refine um_getR (pc2 := 184) d_Tr_add_181 rfl f_Tr_15 rfl rfl ?_
    refine um_iload (pc2 := 186) d_Tr_add_184 rfl rfl ?_
    refine um_iconst (pc2 := 187) (v := 4) d_Tr_add_186 rfl (by decide) ?_
    refine um_iadd (pc2 := 188) d_Tr_add_187 rfl ?_
    refine um_iload (pc2 := 190) d_Tr_add_188 rfl rfl ?_
    refine um_iast (pc2 := 191) d_Tr_add_190 rfl rfl h.1 rfl (um_gen (fun σ7 eσ7 => ?_))
    replace h := h.2 σ7 eσ7
    refine um_aload_n (pc2 := 192) d_Tr_add_191 rfl rfl ?_
    refine um_dup (pc2 := 193) d_Tr_add_192 rfl rfl ?_
    refine um_getI (pc2 := 196) d_Tr_add_193 rfl f_Tr_29 rfl rfl ?_
    refine um_iconst (pc2 := 197) (v := 1) d_Tr_add_196 rfl (by decide) ?_
    refine um_iadd (pc2 := 198) d_Tr_add_197 rfl ?_
    refine um_putI (pc2 := 201) d_Tr_add_198 rfl fw_Tr_29 rfl rfl (um_gen (fun σ8 eσ8 => ?_))
    replace h := h σ8 eσ8
    refine um_aload_n (pc2 := 202) d_Tr_add_201 rfl rfl ?_
    refine um_getI (pc2 := 205) d_Tr_add_202 rfl f_Tr_29 rfl rfl ?_
    refine um_iconst (pc2 := 206) (v := 1) d_Tr_add_205 rfl (by decide) ?_
    refine um_isub (pc2 := 207) d_Tr_add_206 rfl ?_
    exact um_iret d_Tr_add_207 rfl ⟨_, rfl, h⟩
  · replace h := h.2 z
    refine um_iconst (pc2 := 121) (v := (-1)) d_Tr_add_120 rfl (by decide) ?_
    exact um_iret d_Tr_add_121 rfl ⟨_, rfl, h⟩
set_option maxHeartbeats 4000000 in
set_option maxRecDepth 100000 in
theorem b_Tr_add_112 {Q : Int32 → um_S → Prop} {v1 : Int32} {v2 : Int32} {v3 : Int32} {v4 : Int32} {v5 : Int32} {v6 : Int32} {σ : um_S} (h : wp_Tr_add_112 Q v1 v2 v3 v4 v5 v6 σ) : um_Ev um_cl um_AW um_L um_SX M_Tr_add 2 44 112 [some (.ref 1), some (.int v1), some (.int v2), some (.int v3), some (.int v4), some (.int v5), some (.int v6), none, none, none] [] σ (um_Qi Q) := by
  unfold wp_Tr_add_112 at h
  refine um_iconst (pc2 := 113) (v := 0) d_Tr_add_112 rfl (by decide) ?_
  refine um_istore (pc2 := 115) (ls2 := [some (.ref 1), some (.int v1), some (.int v2), some (.int v3), some (.int v4), some (.int v5), some (.int v6), none, some (.int 0), none]) d_Tr_add_113 rfl (Nat.le_of_ble_eq_true rfl) rfl ?_
  refine um_forget [true, true, true, true, true, true, true, false, true, false] rfl ?_
  exact b_Tr_add_115 h
set_option maxHeartbeats 4000000 in
set_option maxRecDepth 100000 in
theorem c_Tr_add {a1 : Int32} {a2 : Int32} {a3 : Int32} {a4 : Int32} {a5 : Int32} {a6 : Int32} {σ : um_S} {Q : Int32 → um_S → Prop} (h : wp_Tr_add a1 a2 a3 a4 a5 a6 σ Q) : um_Con um_cl um_AW um_L um_SX 2 44 M_Tr_add [.ref 1, .int a1, .int a2, .int a3, .int a4, .int a5, .int a6] σ (um_Qi Q) := by
  refine um_con (by decide) (Nat.le_of_ble_eq_true rfl) (fun v hv => by simp only [List.mem_cons, List.not_mem_nil, or_false] at hv; rcases hv with rfl | rfl | rfl | rfl | rfl | rfl | rfl <;> rfl) ?_
  show um_Ev um_cl um_AW um_L um_SX M_Tr_add 2 44 0 [some (.ref 1), some (.int a1), some (.int a2), some (.int a3), some (.int a4), some (.int a5), some (.int a6), none, none, none] [] σ (um_Qi Q)
  unfold wp_Tr_add at h
  refine um_iload_n (pc2 := 1) d_Tr_add_0 rfl rfl ?_
  refine um_if_lt (pc2 := 4) (tgt := 20) d_Tr_add_1 rfl rfl (fun z => ?_) (fun z => ?_)
  · replace h := h.1 z
    refine um_iconst (pc2 := 21) (v := (-1)) d_Tr_add_20 rfl (by decide) ?_
    exact um_iret d_Tr_add_21 rfl ⟨_, rfl, h⟩
  · replace h := h.2 z
    refine um_iload_n (pc2 := 5) d_Tr_add_4 rfl rfl ?_
    refine um_bipush (pc2 := 7) (v := 20) d_Tr_add_5 rfl (by decide) ?_
    refine um_icmp_gt (pc2 := 10) (tgt := 20) d_Tr_add_7 rfl rfl (fun z => ?_) (fun z => ?_)
    · replace h := h.1 z
      refine um_iconst (pc2 := 21) (v := (-1)) d_Tr_add_20 rfl (by decide) ?_
      exact um_iret d_Tr_add_21 rfl ⟨_, rfl, h⟩
    · replace h := h.2 z
      refine um_aload_n (pc2 := 11) d_Tr_add_10 rfl rfl ?_
      refine um_getI (pc2 := 14) d_Tr_add_11 rfl f_Tr_29 rfl rfl ?_
      refine um_sipush (pc2 := 17) (v := 150) d_Tr_add_14 rfl (by decide) ?_
      refine um_icmp_lt (pc2 := 20) (tgt := 22) d_Tr_add_17 rfl rfl (fun z => ?_) (fun z => ?_)
      · replace h := h.1 z
        refine um_iload_n (pc2 := 23) d_Tr_add_22 rfl rfl ?_
        refine um_iconst (pc2 := 24) (v := 5) d_Tr_add_23 rfl (by decide) ?_
        refine um_imul (pc2 := 25) d_Tr_add_24 rfl ?_
        refine um_top (fun x1 ex1 => ?_)
        replace h := h x1 ex1
        refine um_istore (pc2 := 27) (ls2 := [some (.ref 1), some (.int a1), some (.int a2), some (.int a3), some (.int a4), some (.int a5), some (.int a6), some (.int x1), none, none]) d_Tr_add_25 rfl (Nat.le_of_ble_eq_true rfl) rfl ?_
        refine um_aload_n (pc2 := 28) d_Tr_add_27 rfl rfl ?_
        refine um_gets (pc2 := 31) (i := 0) d_Tr_add_28 rfl rfl s_Tr_33 ?_
        refine um_iload (pc2 := 33) d_Tr_add_31 rfl rfl ?_
        refine um_sald (pc2 := 34) (i := 0) d_Tr_add_33 rfl rfl h.1 ?_
        replace h := h.2
        refine um_iload_n (pc2 := 35) d_Tr_add_34 rfl rfl ?_
        refine um_callV2z (pc2 := 38) d_Tr_add_35 rfl g_Tr_36 rfl (Nat.le_of_ble_eq_true rfl) (Nat.le_of_ble_eq_true rfl) (Nat.le_of_ble_eq_true rfl) (c_Tr_fits h) (fun t3 σ2 h => ?_)
        refine um_if_eq (pc2 := 41) (tgt := 112) d_Tr_add_38 rfl rfl (fun z => ?_) (fun z => ?_)
        · replace h := h.1 (um_b0 z)
          refine um_forget [true, true, true, true, true, true, true, false, false, false] rfl ?_
          exact b_Tr_add_112 h
        · replace h := h.2 (um_b1 z)
          refine um_aload_n (pc2 := 42) d_Tr_add_41 rfl rfl ?_
          refine um_gets (pc2 := 45) (i := 0) d_Tr_add_42 rfl rfl s_Tr_33 ?_
          refine um_iload (pc2 := 47) d_Tr_add_45 rfl rfl ?_
          refine um_iconst (pc2 := 48) (v := 1) d_Tr_add_47 rfl (by decide) ?_
          refine um_iadd (pc2 := 49) d_Tr_add_48 rfl ?_
          refine um_sald (pc2 := 50) (i := 0) d_Tr_add_49 rfl rfl h.1 ?_
          replace h := h.2
          refine um_iload_n (pc2 := 51) d_Tr_add_50 rfl rfl ?_
          refine um_callV2z (pc2 := 54) d_Tr_add_51 rfl g_Tr_36 rfl (Nat.le_of_ble_eq_true rfl) (Nat.le_of_ble_eq_true rfl) (Nat.le_of_ble_eq_true rfl) (c_Tr_fits h) (fun t5 σ4 h => ?_)
          refine um_if_eq (pc2 := 57) (tgt := 112) d_Tr_add_54 rfl rfl (fun z => ?_) (fun z => ?_)
          · replace h := h.1 (um_b0 z)
            refine um_forget [true, true, true, true, true, true, true, false, false, false] rfl ?_
            exact b_Tr_add_112 h
          · replace h := h.2 (um_b1 z)
            refine um_aload_n (pc2 := 58) d_Tr_add_57 rfl rfl ?_
            refine um_gets (pc2 := 61) (i := 0) d_Tr_add_58 rfl rfl s_Tr_33 ?_
            refine um_iload (pc2 := 63) d_Tr_add_61 rfl rfl ?_
            refine um_iconst (pc2 := 64) (v := 2) d_Tr_add_63 rfl (by decide) ?_
            refine um_iadd (pc2 := 65) d_Tr_add_64 rfl ?_
            refine um_sald (pc2 := 66) (i := 0) d_Tr_add_65 rfl rfl h.1 ?_
            replace h := h.2
            refine um_iload (pc2 := 68) d_Tr_add_66 rfl rfl ?_
            refine um_callV2z (pc2 := 71) d_Tr_add_68 rfl g_Tr_36 rfl (Nat.le_of_ble_eq_true rfl) (Nat.le_of_ble_eq_true rfl) (Nat.le_of_ble_eq_true rfl) (c_Tr_fits h) (fun t7 σ6 h => ?_)
            refine um_if_eq (pc2 := 74) (tgt := 112) d_Tr_add_71 rfl rfl (fun z => ?_) (fun z => ?_)
            · replace h := h.1 (um_b0 z)
              refine um_forget [true, true, true, true, true, true, true, false, false, false] rfl ?_
              exact b_Tr_add_112 h
            · replace h := h.2 (um_b1 z)
              refine um_aload_n (pc2 := 75) d_Tr_add_74 rfl rfl ?_
              refine um_gets (pc2 := 78) (i := 0) d_Tr_add_75 rfl rfl s_Tr_33 ?_
              refine um_iload (pc2 := 80) d_Tr_add_78 rfl rfl ?_
              refine um_iconst (pc2 := 81) (v := 3) d_Tr_add_80 rfl (by decide) ?_
              refine um_iadd (pc2 := 82) d_Tr_add_81 rfl ?_
              refine um_sald (pc2 := 83) (i := 0) d_Tr_add_82 rfl rfl h.1 ?_
              replace h := h.2
              refine um_iload (pc2 := 85) d_Tr_add_83 rfl rfl ?_
              refine um_callV2z (pc2 := 88) d_Tr_add_85 rfl g_Tr_36 rfl (Nat.le_of_ble_eq_true rfl) (Nat.le_of_ble_eq_true rfl) (Nat.le_of_ble_eq_true rfl) (c_Tr_fits h) (fun t9 σ8 h => ?_)
              refine um_if_eq (pc2 := 91) (tgt := 112) d_Tr_add_88 rfl rfl (fun z => ?_) (fun z => ?_)
              · replace h := h.1 (um_b0 z)
                refine um_forget [true, true, true, true, true, true, true, false, false, false] rfl ?_
                exact b_Tr_add_112 h
              · replace h := h.2 (um_b1 z)
                refine um_aload_n (pc2 := 92) d_Tr_add_91 rfl rfl ?_
                refine um_gets (pc2 := 95) (i := 0) d_Tr_add_92 rfl rfl s_Tr_33 ?_
                refine um_iload (pc2 := 97) d_Tr_add_95 rfl rfl ?_
                refine um_iconst (pc2 := 98) (v := 4) d_Tr_add_97 rfl (by decide) ?_
                refine um_iadd (pc2 := 99) d_Tr_add_98 rfl ?_
                refine um_sald (pc2 := 100) (i := 0) d_Tr_add_99 rfl rfl h.1 ?_
                replace h := h.2
                refine um_iload (pc2 := 102) d_Tr_add_100 rfl rfl ?_
                refine um_callV2z (pc2 := 105) d_Tr_add_102 rfl g_Tr_36 rfl (Nat.le_of_ble_eq_true rfl) (Nat.le_of_ble_eq_true rfl) (Nat.le_of_ble_eq_true rfl) (c_Tr_fits h) (fun t11 σ10 h => ?_)
                refine um_if_eq (pc2 := 108) (tgt := 112) d_Tr_add_105 rfl rfl (fun z => ?_) (fun z => ?_)
                · replace h := h.1 (um_b0 z)
                  refine um_forget [true, true, true, true, true, true, true, false, false, false] rfl ?_
                  exact b_Tr_add_112 h
                · replace h := h.2 (um_b1 z)
                  refine um_iconst (pc2 := 109) (v := 1) d_Tr_add_108 rfl (by decide) ?_
                  refine um_goto (tgt := 113) d_Tr_add_109 rfl ?_
                  refine um_istore (pc2 := 115) (ls2 := [some (.ref 1), some (.int a1), some (.int a2), some (.int a3), some (.int a4), some (.int a5), some (.int a6), some (.int x1), some (.int 1), none]) d_Tr_add_113 rfl (Nat.le_of_ble_eq_true rfl) rfl ?_
                  refine um_forget [true, true, true, true, true, true, true, false, true, false] rfl ?_
                  exact b_Tr_add_115 h
      · replace h := h.2 z
        refine um_iconst (pc2 := 21) (v := (-1)) d_Tr_add_20 rfl (by decide) ?_
        exact um_iret d_Tr_add_21 rfl ⟨_, rfl, h⟩
def wp_UM_node (a1 : Int32) (a2 : Int32) (a3 : Int32) (a4 : Int32) (a5 : Int32) (σ : um_S) (Q : Int32 → um_S → Prop) : Prop :=
  wp_Tr_add a1 a2 a3 a4 a5 (-1) σ (fun x2 σ1 => Q x2 σ1)
set_option maxHeartbeats 4000000 in
set_option maxRecDepth 100000 in
theorem c_UM_node {a1 : Int32} {a2 : Int32} {a3 : Int32} {a4 : Int32} {a5 : Int32} {σ : um_S} {Q : Int32 → um_S → Prop} (h : wp_UM_node a1 a2 a3 a4 a5 σ Q) : um_Con um_cl um_AW um_L um_SX 3 73 M_UM_node [.ref 0, .int a1, .int a2, .int a3, .int a4, .int a5] σ (um_Qi Q) := by
  refine um_con (by decide) (Nat.le_of_ble_eq_true rfl) (fun v hv => by simp only [List.mem_cons, List.not_mem_nil, or_false] at hv; rcases hv with rfl | rfl | rfl | rfl | rfl | rfl <;> rfl) ?_
  show um_Ev um_cl um_AW um_L um_SX M_UM_node 3 73 0 [some (.ref 0), some (.int a1), some (.int a2), some (.int a3), some (.int a4), some (.int a5)] [] σ (um_Qi Q)
  unfold wp_UM_node at h
  refine um_aload_n (pc2 := 1) d_UM_node_0 rfl rfl ?_
  refine um_getR (pc2 := 4) d_UM_node_1 rfl f_UM_10 rfl rfl ?_
  refine um_iload_n (pc2 := 5) d_UM_node_4 rfl rfl ?_
  refine um_iload_n (pc2 := 6) d_UM_node_5 rfl rfl ?_
  refine um_iload_n (pc2 := 7) d_UM_node_6 rfl rfl ?_
  refine um_iload (pc2 := 9) d_UM_node_7 rfl rfl ?_
  refine um_iload (pc2 := 11) d_UM_node_9 rfl rfl ?_
  refine um_iconst (pc2 := 12) (v := (-1)) d_UM_node_11 rfl (by decide) ?_
  refine um_callV6i (pc2 := 15) d_UM_node_12 rfl g_UM_41 rfl (Nat.le_of_ble_eq_true rfl) (Nat.le_of_ble_eq_true rfl) (Nat.le_of_ble_eq_true rfl) (c_Tr_add h) (fun x2 σ1 h => ?_)
  exact um_iret d_UM_node_15 rfl ⟨_, rfl, h⟩
def wp_UM_catchBehind (a1 : Int32) (a2 : Int32) (a3 : Int32) (a4 : Int32) (a5 : Int32) (σ : um_S) (Q : Int32 → um_S → Prop) : Prop :=
  wp_Tr_add 20 a1 a2 a3 a4 a5 σ (fun x2 σ1 => Q x2 σ1)
set_option maxHeartbeats 4000000 in
set_option maxRecDepth 100000 in
theorem c_UM_catchBehind {a1 : Int32} {a2 : Int32} {a3 : Int32} {a4 : Int32} {a5 : Int32} {σ : um_S} {Q : Int32 → um_S → Prop} (h : wp_UM_catchBehind a1 a2 a3 a4 a5 σ Q) : um_Con um_cl um_AW um_L um_SX 3 73 M_UM_catchBehind [.ref 0, .int a1, .int a2, .int a3, .int a4, .int a5] σ (um_Qi Q) := by
  refine um_con (by decide) (Nat.le_of_ble_eq_true rfl) (fun v hv => by simp only [List.mem_cons, List.not_mem_nil, or_false] at hv; rcases hv with rfl | rfl | rfl | rfl | rfl | rfl <;> rfl) ?_
  show um_Ev um_cl um_AW um_L um_SX M_UM_catchBehind 3 73 0 [some (.ref 0), some (.int a1), some (.int a2), some (.int a3), some (.int a4), some (.int a5)] [] σ (um_Qi Q)
  unfold wp_UM_catchBehind at h
  refine um_aload_n (pc2 := 1) d_UM_catchBehind_0 rfl rfl ?_
  refine um_getR (pc2 := 4) d_UM_catchBehind_1 rfl f_UM_10 rfl rfl ?_
  refine um_bipush (pc2 := 6) (v := 20) d_UM_catchBehind_4 rfl (by decide) ?_
  refine um_iload_n (pc2 := 7) d_UM_catchBehind_6 rfl rfl ?_
  refine um_iload_n (pc2 := 8) d_UM_catchBehind_7 rfl rfl ?_
  refine um_iload_n (pc2 := 9) d_UM_catchBehind_8 rfl rfl ?_
  refine um_iload (pc2 := 11) d_UM_catchBehind_9 rfl rfl ?_
  refine um_iload (pc2 := 13) d_UM_catchBehind_11 rfl rfl ?_
  refine um_callV6i (pc2 := 16) d_UM_catchBehind_13 rfl g_UM_41 rfl (Nat.le_of_ble_eq_true rfl) (Nat.le_of_ble_eq_true rfl) (Nat.le_of_ble_eq_true rfl) (c_Tr_add h) (fun x2 σ1 h => ?_)
  exact um_iret d_UM_catchBehind_16 rfl ⟨_, rfl, h⟩
def wp_Tr_setBody (a1 : Int32) (a2 : Int32) (σ : um_S) (Q : Bool → um_S → Prop) : Prop :=
  wp_UM_isFunction a1 σ (fun t2 σ1 => (t2 = false → Q false σ1) ∧ (t2 = true → wp_Tr_fits 6 a2 σ1 (fun t4 σ3 => (t4 = true → vp_in a1 6 ∧ ∀ σ5 : um_S, σ5 = um_up σ3 10 a1.toNatClampNeg a2 → Q true σ5) ∧ (t4 = false → Q false σ3))))
set_option maxHeartbeats 4000000 in
set_option maxRecDepth 100000 in
theorem c_Tr_setBody {a1 : Int32} {a2 : Int32} {σ : um_S} {Q : Bool → um_S → Prop} (h : wp_Tr_setBody a1 a2 σ Q) : um_Con um_cl um_AW um_L um_SX 2 44 M_Tr_setBody [.ref 1, .int a1, .int a2] σ (um_Qz Q) := by
  refine um_con (by decide) (Nat.le_of_ble_eq_true rfl) (fun v hv => by simp only [List.mem_cons, List.not_mem_nil, or_false] at hv; rcases hv with rfl | rfl | rfl <;> rfl) ?_
  show um_Ev um_cl um_AW um_L um_SX M_Tr_setBody 2 44 0 [some (.ref 1), some (.int a1), some (.int a2)] [] σ (um_Qz Q)
  unfold wp_Tr_setBody at h
  refine um_iload_n (pc2 := 1) d_Tr_setBody_0 rfl rfl ?_
  refine um_callS1z (pc2 := 4) d_Tr_setBody_1 rfl g_Tr_40 (Nat.le_of_ble_eq_true rfl) (Nat.le_of_ble_eq_true rfl) (Nat.le_of_ble_eq_true rfl) (c_UM_isFunction h) (fun t2 σ1 h => ?_)
  refine um_if_eq (pc2 := 7) (tgt := 17) d_Tr_setBody_4 rfl rfl (fun z => ?_) (fun z => ?_)
  · replace h := h.1 (um_b0 z)
    refine um_iconst (pc2 := 18) (v := 0) d_Tr_setBody_17 rfl (by decide) ?_
    exact um_zret d_Tr_setBody_18 rfl (by decide) ⟨false, rfl, h⟩
  · replace h := h.2 (um_b1 z)
    refine um_aload_n (pc2 := 8) d_Tr_setBody_7 rfl rfl ?_
    refine um_bipush (pc2 := 10) (v := 6) d_Tr_setBody_8 rfl (by decide) ?_
    refine um_iload_n (pc2 := 11) d_Tr_setBody_10 rfl rfl ?_
    refine um_callV2z (pc2 := 14) d_Tr_setBody_11 rfl g_Tr_36 rfl (Nat.le_of_ble_eq_true rfl) (Nat.le_of_ble_eq_true rfl) (Nat.le_of_ble_eq_true rfl) (c_Tr_fits h) (fun t4 σ3 h => ?_)
    refine um_if_ne (pc2 := 17) (tgt := 19) d_Tr_setBody_14 rfl rfl (fun z => ?_) (fun z => ?_)
    · replace h := h.1 (um_b1 z)
      refine um_aload_n (pc2 := 20) d_Tr_setBody_19 rfl rfl ?_
      refine um_getR (pc2 := 23) d_Tr_setBody_20 rfl f_Tr_18 rfl rfl ?_
      refine um_iload_n (pc2 := 24) d_Tr_setBody_23 rfl rfl ?_
      refine um_iload_n (pc2 := 25) d_Tr_setBody_24 rfl rfl ?_
      refine um_iast (pc2 := 26) d_Tr_setBody_25 rfl rfl h.1 rfl (um_gen (fun σ5 eσ5 => ?_))
      replace h := h.2 σ5 eσ5
      refine um_iconst (pc2 := 27) (v := 1) d_Tr_setBody_26 rfl (by decide) ?_
      exact um_zret d_Tr_setBody_27 rfl (by decide) ⟨true, rfl, h⟩
    · replace h := h.2 (um_b0 z)
      refine um_iconst (pc2 := 18) (v := 0) d_Tr_setBody_17 rfl (by decide) ?_
      exact um_zret d_Tr_setBody_18 rfl (by decide) ⟨false, rfl, h⟩
def wp_UM_body (a1 : Int32) (a2 : Int32) (σ : um_S) (Q : Bool → um_S → Prop) : Prop :=
  wp_Tr_setBody a1 a2 σ (fun t2 σ1 => Q t2 σ1)
set_option maxHeartbeats 4000000 in
set_option maxRecDepth 100000 in
theorem c_UM_body {a1 : Int32} {a2 : Int32} {σ : um_S} {Q : Bool → um_S → Prop} (h : wp_UM_body a1 a2 σ Q) : um_Con um_cl um_AW um_L um_SX 3 66 M_UM_body [.ref 0, .int a1, .int a2] σ (um_Qz Q) := by
  refine um_con (by decide) (Nat.le_of_ble_eq_true rfl) (fun v hv => by simp only [List.mem_cons, List.not_mem_nil, or_false] at hv; rcases hv with rfl | rfl | rfl <;> rfl) ?_
  show um_Ev um_cl um_AW um_L um_SX M_UM_body 3 66 0 [some (.ref 0), some (.int a1), some (.int a2)] [] σ (um_Qz Q)
  unfold wp_UM_body at h
  refine um_aload_n (pc2 := 1) d_UM_body_0 rfl rfl ?_
  refine um_getR (pc2 := 4) d_UM_body_1 rfl f_UM_10 rfl rfl ?_
  refine um_iload_n (pc2 := 5) d_UM_body_4 rfl rfl ?_
  refine um_iload_n (pc2 := 6) d_UM_body_5 rfl rfl ?_
  refine um_callV2z (pc2 := 9) d_UM_body_6 rfl g_UM_47 rfl (Nat.le_of_ble_eq_true rfl) (Nat.le_of_ble_eq_true rfl) (Nat.le_of_ble_eq_true rfl) (c_Tr_setBody h) (fun t2 σ1 h => ?_)
  exact um_zret d_UM_body_9 rfl (um_b01 t2) ⟨t2, rfl, h⟩
def wp_La_settleGoals_47 (Q : um_S → Prop) (K2 : Int32 → um_S → Prop) (v1 : Int32) (v2 : Int32) (σ : um_S) : Prop :=
  (v2 = 0 → K2 (v1 + 1) σ) ∧ (¬ v2 = 0 → vp_in v1 1000 ∧ (0 ≤ (σ 12 v1.toNatClampNeg) → K2 (v1 + 1) σ) ∧ (¬ 0 ≤ (σ 12 v1.toNatClampNeg) → vp_in v1 1000 ∧ vp_in (-(σ 12 v1.toNatClampNeg)) 2001 ∧ vp_in v1 1000 ∧ ∀ σ1 : um_S, σ1 = um_up σ 12 v1.toNatClampNeg (σ 29 (-(σ 12 v1.toNatClampNeg)).toNatClampNeg) → K2 (v1 + 1) σ1))
def wp_La_settleGoals_41 (Q : um_S → Prop) (K2 : Int32 → um_S → Prop) (v1 : Int32) (σ : um_S) : Prop :=
  wp_La_settleGoals_47 Q K2 v1 1 σ
def wp_La_settleGoals_2 (Q : um_S → Prop) : Nat → Int32 → um_S → Prop
  | 0, _, _ => False
  | n + 1, v1, σ =>
    ((σ 2 5) ≤ v1 → Q σ) ∧ (¬ (σ 2 5) ≤ v1 → vp_in v1 1000 ∧ ((σ 11 v1.toNatClampNeg) = 10 → wp_La_settleGoals_41 Q (fun v1 σ => wp_La_settleGoals_2 Q n v1 σ) v1 σ) ∧ (¬ (σ 11 v1.toNatClampNeg) = 10 → vp_in v1 1000 ∧ (¬ (σ 11 v1.toNatClampNeg) = 11 → wp_La_settleGoals_47 Q (fun v1 σ => wp_La_settleGoals_2 Q n v1 σ) v1 0 σ) ∧ ((σ 11 v1.toNatClampNeg) = 11 → wp_La_settleGoals_41 Q (fun v1 σ => wp_La_settleGoals_2 Q n v1 σ) v1 σ)))
def wp_La_settleGoals (σ : um_S) (Q : um_S → Prop) : Prop :=
  wp_La_settleGoals_2 Q 100000 0 σ
set_option maxHeartbeats 4000000 in
set_option maxRecDepth 100000 in
theorem b_La_settleGoals_47 {Q : um_S → Prop} {K2 : Int32 → um_S → Prop} {v1 : Int32} {v2 : Int32} {σ : um_S} (hK2 : ∀ (v1 : Int32) (σ : um_S), K2 v1 σ → um_Ev um_cl um_AW um_L um_SX M_La_settleGoals 0 0 2 [some (.ref 3), some (.int v1), none] [] σ (um_Qv Q)) (h : wp_La_settleGoals_47 Q K2 v1 v2 σ) : um_Ev um_cl um_AW um_L um_SX M_La_settleGoals 0 0 47 [some (.ref 3), some (.int v1), some (.int v2)] [] σ (um_Qv Q) := by
  unfold wp_La_settleGoals_47 at h
  refine um_iload_n (pc2 := 48) d_La_settleGoals_47 rfl rfl ?_
  refine um_if_eq (pc2 := 51) (tgt := 90) d_La_settleGoals_48 rfl rfl (fun z => ?_) (fun z => ?_)
  · replace h := h.1 z
    refine um_iinc (pc2 := 93) (v := (v1 + 1)) (ls2 := [some (.ref 3), some (.int (v1 + 1)), some (.int v2)]) d_La_settleGoals_90 rfl rfl rfl (Nat.le_of_ble_eq_true rfl) rfl ?_
    refine um_goto (tgt := 2) d_La_settleGoals_93 rfl ?_
    refine um_forget [true, true, false] rfl ?_
    exact hK2 _ _ h
  · replace h := h.2 z
    refine um_aload_n (pc2 := 52) d_La_settleGoals_51 rfl rfl ?_
    refine um_getR (pc2 := 55) d_La_settleGoals_52 rfl f_La_40 rfl rfl ?_
    refine um_getR (pc2 := 58) d_La_settleGoals_55 rfl f_La_233 rfl rfl ?_
    refine um_iload_n (pc2 := 59) d_La_settleGoals_58 rfl rfl ?_
    refine um_iald (pc2 := 60) d_La_settleGoals_59 rfl rfl h.1 rfl ?_
    replace h := h.2
    refine um_if_ge (pc2 := 63) (tgt := 90) d_La_settleGoals_60 rfl rfl (fun z => ?_) (fun z => ?_)
    · replace h := h.1 z
      refine um_iinc (pc2 := 93) (v := (v1 + 1)) (ls2 := [some (.ref 3), some (.int (v1 + 1)), some (.int v2)]) d_La_settleGoals_90 rfl rfl rfl (Nat.le_of_ble_eq_true rfl) rfl ?_
      refine um_goto (tgt := 2) d_La_settleGoals_93 rfl ?_
      refine um_forget [true, true, false] rfl ?_
      exact hK2 _ _ h
    · replace h := h.2 z
      refine um_aload_n (pc2 := 64) d_La_settleGoals_63 rfl rfl ?_
      refine um_getR (pc2 := 67) d_La_settleGoals_64 rfl f_La_40 rfl rfl ?_
      refine um_getR (pc2 := 70) d_La_settleGoals_67 rfl f_La_233 rfl rfl ?_
      refine um_iload_n (pc2 := 71) d_La_settleGoals_70 rfl rfl ?_
      refine um_aload_n (pc2 := 72) d_La_settleGoals_71 rfl rfl ?_
      refine um_getR (pc2 := 75) d_La_settleGoals_72 rfl f_La_12 rfl rfl ?_
      refine um_getR (pc2 := 78) d_La_settleGoals_75 rfl f_La_172 rfl rfl ?_
      refine um_aload_n (pc2 := 79) d_La_settleGoals_78 rfl rfl ?_
      refine um_getR (pc2 := 82) d_La_settleGoals_79 rfl f_La_40 rfl rfl ?_
      refine um_getR (pc2 := 85) d_La_settleGoals_82 rfl f_La_233 rfl rfl ?_
      refine um_iload_n (pc2 := 86) d_La_settleGoals_85 rfl rfl ?_
      refine um_iald (pc2 := 87) d_La_settleGoals_86 rfl rfl h.1 rfl ?_
      replace h := h.2
      refine um_ineg (pc2 := 88) d_La_settleGoals_87 rfl ?_
      refine um_iald (pc2 := 89) d_La_settleGoals_88 rfl rfl h.1 rfl ?_
      replace h := h.2
      refine um_iast (pc2 := 90) d_La_settleGoals_89 rfl rfl h.1 rfl (um_gen (fun σ1 eσ1 => ?_))
      replace h := h.2 σ1 eσ1
      refine um_iinc (pc2 := 93) (v := (v1 + 1)) (ls2 := [some (.ref 3), some (.int (v1 + 1)), some (.int v2)]) d_La_settleGoals_90 rfl rfl rfl (Nat.le_of_ble_eq_true rfl) rfl ?_
      refine um_goto (tgt := 2) d_La_settleGoals_93 rfl ?_
      refine um_forget [true, true, false] rfl ?_
      exact hK2 _ _ h
set_option maxHeartbeats 4000000 in
set_option maxRecDepth 100000 in
theorem b_La_settleGoals_41 {Q : um_S → Prop} {K2 : Int32 → um_S → Prop} {v1 : Int32} {σ : um_S} (hK2 : ∀ (v1 : Int32) (σ : um_S), K2 v1 σ → um_Ev um_cl um_AW um_L um_SX M_La_settleGoals 0 0 2 [some (.ref 3), some (.int v1), none] [] σ (um_Qv Q)) (h : wp_La_settleGoals_41 Q K2 v1 σ) : um_Ev um_cl um_AW um_L um_SX M_La_settleGoals 0 0 41 [some (.ref 3), some (.int v1), none] [] σ (um_Qv Q) := by
  unfold wp_La_settleGoals_41 at h
  refine um_iconst (pc2 := 42) (v := 1) d_La_settleGoals_41 rfl (by decide) ?_
  refine um_goto (tgt := 46) d_La_settleGoals_42 rfl ?_
  refine um_istore_n (pc2 := 47) (ls2 := [some (.ref 3), some (.int v1), some (.int 1)]) d_La_settleGoals_46 rfl (Nat.le_of_ble_eq_true rfl) rfl ?_
  refine um_forget [true, true, true] rfl ?_
  exact b_La_settleGoals_47 hK2 h
set_option maxHeartbeats 4000000 in
set_option maxRecDepth 100000 in
theorem b_La_settleGoals_2 {Q : um_S → Prop} (n : Nat) : ∀ (v1 : Int32) (σ : um_S), wp_La_settleGoals_2 Q n v1 σ → um_Ev um_cl um_AW um_L um_SX M_La_settleGoals 0 0 2 [some (.ref 3), some (.int v1), none] [] σ (um_Qv Q) := by
  induction n with
  | zero =>
    intro v1 σ h
    exact h.elim
  | succ n ih =>
    intro v1 σ h
    unfold wp_La_settleGoals_2 at h
    refine um_iload_n (pc2 := 3) d_La_settleGoals_2 rfl rfl ?_
    refine um_aload_n (pc2 := 4) d_La_settleGoals_3 rfl rfl ?_
    refine um_getR (pc2 := 7) d_La_settleGoals_4 rfl f_La_40 rfl rfl ?_
    refine um_getI (pc2 := 10) d_La_settleGoals_7 rfl f_La_74 rfl rfl ?_
    refine um_icmp_ge (pc2 := 13) (tgt := 96) d_La_settleGoals_10 rfl rfl (fun z => ?_) (fun z => ?_)
    · replace h := h.1 z
      exact um_vret d_La_settleGoals_96 rfl ⟨rfl, h⟩
    · replace h := h.2 z
      refine um_aload_n (pc2 := 14) d_La_settleGoals_13 rfl rfl ?_
      refine um_getR (pc2 := 17) d_La_settleGoals_14 rfl f_La_40 rfl rfl ?_
      refine um_getR (pc2 := 20) d_La_settleGoals_17 rfl f_La_230 rfl rfl ?_
      refine um_iload_n (pc2 := 21) d_La_settleGoals_20 rfl rfl ?_
      refine um_iald (pc2 := 22) d_La_settleGoals_21 rfl rfl h.1 rfl ?_
      replace h := h.2
      refine um_bipush (pc2 := 24) (v := 10) d_La_settleGoals_22 rfl (by decide) ?_
      refine um_icmp_eq (pc2 := 27) (tgt := 41) d_La_settleGoals_24 rfl rfl (fun z => ?_) (fun z => ?_)
      · replace h := h.1 z
        refine um_forget [true, true, false] rfl ?_
        exact b_La_settleGoals_41 (fun _ _ z => ih _ _ z) h
      · replace h := h.2 z
        refine um_aload_n (pc2 := 28) d_La_settleGoals_27 rfl rfl ?_
        refine um_getR (pc2 := 31) d_La_settleGoals_28 rfl f_La_40 rfl rfl ?_
        refine um_getR (pc2 := 34) d_La_settleGoals_31 rfl f_La_230 rfl rfl ?_
        refine um_iload_n (pc2 := 35) d_La_settleGoals_34 rfl rfl ?_
        refine um_iald (pc2 := 36) d_La_settleGoals_35 rfl rfl h.1 rfl ?_
        replace h := h.2
        refine um_bipush (pc2 := 38) (v := 11) d_La_settleGoals_36 rfl (by decide) ?_
        refine um_icmp_ne (pc2 := 41) (tgt := 45) d_La_settleGoals_38 rfl rfl (fun z => ?_) (fun z => ?_)
        · replace h := h.1 z
          refine um_iconst (pc2 := 46) (v := 0) d_La_settleGoals_45 rfl (by decide) ?_
          refine um_istore_n (pc2 := 47) (ls2 := [some (.ref 3), some (.int v1), some (.int 0)]) d_La_settleGoals_46 rfl (Nat.le_of_ble_eq_true rfl) rfl ?_
          refine um_forget [true, true, true] rfl ?_
          exact b_La_settleGoals_47 (fun _ _ z => ih _ _ z) h
        · replace h := h.2 z
          refine um_forget [true, true, false] rfl ?_
          exact b_La_settleGoals_41 (fun _ _ z => ih _ _ z) h
set_option maxHeartbeats 4000000 in
set_option maxRecDepth 100000 in
theorem c_La_settleGoals {σ : um_S} {Q : um_S → Prop} (h : wp_La_settleGoals σ Q) : um_Con um_cl um_AW um_L um_SX 0 0 M_La_settleGoals [.ref 3] σ (um_Qv Q) := by
  refine um_con (by decide) (Nat.le_of_ble_eq_true rfl) (fun v hv => by simp only [List.mem_cons, List.not_mem_nil, or_false] at hv; rcases hv with rfl <;> rfl) ?_
  show um_Ev um_cl um_AW um_L um_SX M_La_settleGoals 0 0 0 [some (.ref 3), none, none] [] σ (um_Qv Q)
  unfold wp_La_settleGoals at h
  refine um_iconst (pc2 := 1) (v := 0) d_La_settleGoals_0 rfl (by decide) ?_
  refine um_istore_n (pc2 := 2) (ls2 := [some (.ref 3), some (.int 0), none]) d_La_settleGoals_1 rfl (Nat.le_of_ble_eq_true rfl) rfl ?_
  refine um_forget [true, true, false] rfl ?_
  exact b_La_settleGoals_2 _ _ _ h
def wp_Co_clear (σ : um_S) (Q : um_S → Prop) : Prop :=
  ∀ σ1 : um_S, σ1 = um_up σ 2 5 0 → ∀ σ2 : um_S, σ2 = um_up σ1 2 6 0 → ∀ σ3 : um_S, σ3 = um_up σ2 2 7 0 → ∀ σ4 : um_S, σ4 = um_up σ3 2 8 (-1) → Q σ4
set_option maxHeartbeats 4000000 in
set_option maxRecDepth 100000 in
theorem c_Co_clear {σ : um_S} {Q : um_S → Prop} (h : wp_Co_clear σ Q) : um_Con um_cl um_AW um_L um_SX 0 0 M_Co_clear [.ref 2] σ (um_Qv Q) := by
  refine um_con (by decide) (Nat.le_of_ble_eq_true rfl) (fun v hv => by simp only [List.mem_cons, List.not_mem_nil, or_false] at hv; rcases hv with rfl <;> rfl) ?_
  show um_Ev um_cl um_AW um_L um_SX M_Co_clear 0 0 0 [some (.ref 2)] [] σ (um_Qv Q)
  unfold wp_Co_clear at h
  refine um_aload_n (pc2 := 1) d_Co_clear_0 rfl rfl ?_
  refine um_iconst (pc2 := 2) (v := 0) d_Co_clear_1 rfl (by decide) ?_
  refine um_putI (pc2 := 5) d_Co_clear_2 rfl fw_Co_27 rfl rfl (um_gen (fun σ1 eσ1 => ?_))
  replace h := h σ1 eσ1
  refine um_aload_n (pc2 := 6) d_Co_clear_5 rfl rfl ?_
  refine um_iconst (pc2 := 7) (v := 0) d_Co_clear_6 rfl (by decide) ?_
  refine um_putI (pc2 := 10) d_Co_clear_7 rfl fw_Co_31 rfl rfl (um_gen (fun σ2 eσ2 => ?_))
  replace h := h σ2 eσ2
  refine um_aload_n (pc2 := 11) d_Co_clear_10 rfl rfl ?_
  refine um_iconst (pc2 := 12) (v := 0) d_Co_clear_11 rfl (by decide) ?_
  refine um_putI (pc2 := 15) d_Co_clear_12 rfl fw_Co_34 rfl rfl (um_gen (fun σ3 eσ3 => ?_))
  replace h := h σ3 eσ3
  refine um_aload_n (pc2 := 16) d_Co_clear_15 rfl rfl ?_
  refine um_iconst (pc2 := 17) (v := (-1)) d_Co_clear_16 rfl (by decide) ?_
  refine um_putI (pc2 := 20) d_Co_clear_17 rfl fw_Co_37 rfl rfl (um_gen (fun σ4 eσ4 => ?_))
  replace h := h σ4 eσ4
  exact um_vret d_Co_clear_20 rfl ⟨rfl, h⟩
def wp_Tr_part (a1 : Int32) (a2 : Int32) (σ : um_S) (Q : Int32 → um_S → Prop) : Prop :=
  (a1 < 0 → Q (-1) σ) ∧ (¬ a1 < 0 → ((σ 1 3) ≤ a1 → Q (-1) σ) ∧ (¬ (σ 1 3) ≤ a1 → vp_in ((a1 * 5) + a2) 750 ∧ Q (σ 9 ((a1 * 5) + a2).toNatClampNeg) σ))
set_option maxHeartbeats 4000000 in
set_option maxRecDepth 100000 in
theorem c_Tr_part {a1 : Int32} {a2 : Int32} {σ : um_S} {Q : Int32 → um_S → Prop} (h : wp_Tr_part a1 a2 σ Q) : um_Con um_cl um_AW um_L um_SX 0 0 M_Tr_part [.ref 1, .int a1, .int a2] σ (um_Qi Q) := by
  refine um_con (by decide) (Nat.le_of_ble_eq_true rfl) (fun v hv => by simp only [List.mem_cons, List.not_mem_nil, or_false] at hv; rcases hv with rfl | rfl | rfl <;> rfl) ?_
  show um_Ev um_cl um_AW um_L um_SX M_Tr_part 0 0 0 [some (.ref 1), some (.int a1), some (.int a2)] [] σ (um_Qi Q)
  unfold wp_Tr_part at h
  refine um_iload_n (pc2 := 1) d_Tr_part_0 rfl rfl ?_
  refine um_if_lt (pc2 := 4) (tgt := 25) d_Tr_part_1 rfl rfl (fun z => ?_) (fun z => ?_)
  · replace h := h.1 z
    refine um_iconst (pc2 := 26) (v := (-1)) d_Tr_part_25 rfl (by decide) ?_
    exact um_iret d_Tr_part_26 rfl ⟨_, rfl, h⟩
  · replace h := h.2 z
    refine um_iload_n (pc2 := 5) d_Tr_part_4 rfl rfl ?_
    refine um_aload_n (pc2 := 6) d_Tr_part_5 rfl rfl ?_
    refine um_getI (pc2 := 9) d_Tr_part_6 rfl f_Tr_29 rfl rfl ?_
    refine um_icmp_ge (pc2 := 12) (tgt := 25) d_Tr_part_9 rfl rfl (fun z => ?_) (fun z => ?_)
    · replace h := h.1 z
      refine um_iconst (pc2 := 26) (v := (-1)) d_Tr_part_25 rfl (by decide) ?_
      exact um_iret d_Tr_part_26 rfl ⟨_, rfl, h⟩
    · replace h := h.2 z
      refine um_aload_n (pc2 := 13) d_Tr_part_12 rfl rfl ?_
      refine um_getR (pc2 := 16) d_Tr_part_13 rfl f_Tr_15 rfl rfl ?_
      refine um_iload_n (pc2 := 17) d_Tr_part_16 rfl rfl ?_
      refine um_iconst (pc2 := 18) (v := 5) d_Tr_part_17 rfl (by decide) ?_
      refine um_imul (pc2 := 19) d_Tr_part_18 rfl ?_
      refine um_iload_n (pc2 := 20) d_Tr_part_19 rfl rfl ?_
      refine um_iadd (pc2 := 21) d_Tr_part_20 rfl ?_
      refine um_iald (pc2 := 22) d_Tr_part_21 rfl rfl h.1 rfl ?_
      replace h := h.2
      refine um_goto (tgt := 26) d_Tr_part_22 rfl ?_
      exact um_iret d_Tr_part_26 rfl ⟨_, rfl, h⟩
