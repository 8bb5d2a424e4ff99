def wp_Ma_raise_86 (Q : um_S → Prop) (K15 : Int32 → um_S → Prop) (v1 : Int32) (σ : um_S) : Prop :=
  ∀ σ1 : um_S, σ1 = um_up σ 4 9 ((σ 4 9) - 1) → K15 v1 σ1
def wp_Ma_raise_15 (Q : um_S → Prop) : Nat → Int32 → um_S → Prop
  | 0, _, _ => False
  | n + 1, v1, σ =>
    ((σ 4 9) ≤ 0 → ∀ σ1 : um_S, σ1 = um_up σ 19 0 2 → ∀ σ2 : um_S, σ2 = um_up σ1 19 1 v1 → Q σ2) ∧ (¬ (σ 4 9) ≤ 0 → wp_Co_rowFor (σ 4 10) v1 σ (fun x4 σ3 => (x4 = (-1) → ((σ3 4 9) ≤ 1 → wp_Ma_raise_86 Q (fun v1 σ => wp_Ma_raise_15 Q n v1 σ) v1 σ3) ∧ (¬ (σ3 4 9) ≤ 1 → vp_in ((σ3 4 9) - 2) 12 ∧ ∀ σ5 : um_S, σ5 = um_up σ3 4 10 (σ3 21 ((σ3 4 9) - 2).toNatClampNeg) → wp_Ma_raise_86 Q (fun v1 σ => wp_Ma_raise_15 Q n v1 σ) v1 σ5)) ∧ (¬ x4 = (-1) → wp_Ma_push v1 σ3 (fun σ6 => vp_in ((x4 * 5) + 2) 1500 ∧ ∀ σ7 : um_S, σ7 = um_up σ6 4 10 (σ6 15 ((x4 * 5) + 2).toNatClampNeg) → Q σ7))))
def wp_Ma_raise (a1 : Int32) (σ : um_S) (Q : um_S → Prop) : Prop :=
  ∀ σ1 : um_S, σ1 = um_up σ 19 4 ((σ 19 4) + 1) → ∀ σ2 : um_S, σ2 = um_up σ1 4 6 0 → wp_Ma_raise_15 Q 100000 a1 σ2
set_option maxHeartbeats 4000000 in
set_option maxRecDepth 100000 in
theorem b_Ma_raise_86 {Q : um_S → Prop} {K15 : Int32 → um_S → Prop} {v1 : Int32} {σ : um_S} (hK15 : ∀ (v1 : Int32) (σ : um_S), K15 v1 σ → um_Ev um_cl um_AW um_L um_SX M_Ma_raise 1 25 15 [some (.ref 4), some (.int v1), none] [] σ (um_Qv Q)) (h : wp_Ma_raise_86 Q K15 v1 σ) : um_Ev um_cl um_AW um_L um_SX M_Ma_raise 1 25 86 [some (.ref 4), some (.int v1), none] [] σ (um_Qv Q) := by
  unfold wp_Ma_raise_86 at h
  refine um_aload_n (pc2 := 87) d_Ma_raise_86 rfl rfl ?_
  refine um_dup (pc2 := 88) d_Ma_raise_87 rfl rfl ?_
  refine um_getI (pc2 := 91) d_Ma_raise_88 rfl f_Ma_48 rfl rfl ?_
  refine um_iconst (pc2 := 92) (v := 1) d_Ma_raise_91 rfl (by decide) ?_
  refine um_isub (pc2 := 93) d_Ma_raise_92 rfl ?_
  refine um_putI (pc2 := 96) d_Ma_raise_93 rfl fw_Ma_48 rfl rfl (um_gen (fun σ1 eσ1 => ?_))
  replace h := h σ1 eσ1
  refine um_goto (tgt := 15) d_Ma_raise_96 rfl ?_
  refine um_forget [true, true, false] rfl ?_
  exact hK15 _ _ h
set_option maxHeartbeats 4000000 in
set_option maxRecDepth 100000 in
theorem b_Ma_raise_15 {Q : um_S → Prop} (n : Nat) : ∀ (v1 : Int32) (σ : um_S), wp_Ma_raise_15 Q n v1 σ → um_Ev um_cl um_AW um_L um_SX M_Ma_raise 1 25 15 [some (.ref 4), some (.int v1), none] [] σ (um_Qv Q) := by
  induction n with
  | zero =>
    intro v1 σ h
    exact h.elim
  | succ n ih =>
    intro v1 σ h
    unfold wp_Ma_raise_15 at h
    refine um_aload_n (pc2 := 16) d_Ma_raise_15 rfl rfl ?_
    refine um_getI (pc2 := 19) d_Ma_raise_16 rfl f_Ma_48 rfl rfl ?_
    refine um_if_le (pc2 := 22) (tgt := 99) d_Ma_raise_19 rfl rfl (fun z => ?_) (fun z => ?_)
    · replace h := h.1 z
      refine um_aload_n (pc2 := 100) d_Ma_raise_99 rfl rfl ?_
      refine um_getR (pc2 := 103) d_Ma_raise_100 rfl f_Ma_18 rfl rfl ?_
      refine um_iconst (pc2 := 104) (v := 0) d_Ma_raise_103 rfl (by decide) ?_
      refine um_iconst (pc2 := 105) (v := 2) d_Ma_raise_104 rfl (by decide) ?_
      refine um_iast (pc2 := 106) (k := 0) d_Ma_raise_105 rfl rfl (by unfold vp_in; decide) (by decide) (um_gen (fun σ1 eσ1 => ?_))
      replace h := h σ1 eσ1
      refine um_aload_n (pc2 := 107) d_Ma_raise_106 rfl rfl ?_
      refine um_getR (pc2 := 110) d_Ma_raise_107 rfl f_Ma_18 rfl rfl ?_
      refine um_iconst (pc2 := 111) (v := 1) d_Ma_raise_110 rfl (by decide) ?_
      refine um_iload_n (pc2 := 112) d_Ma_raise_111 rfl rfl ?_
      refine um_iast (pc2 := 113) (k := 1) d_Ma_raise_112 rfl rfl (by unfold vp_in; decide) (by decide) (um_gen (fun σ2 eσ2 => ?_))
      replace h := h σ2 eσ2
      exact um_vret d_Ma_raise_113 rfl ⟨rfl, h⟩
    · replace h := h.2 z
      refine um_aload_n (pc2 := 23) d_Ma_raise_22 rfl rfl ?_
      refine um_getR (pc2 := 26) d_Ma_raise_23 rfl f_Ma_30 rfl rfl ?_
      refine um_aload_n (pc2 := 27) d_Ma_raise_26 rfl rfl ?_
      refine um_getI (pc2 := 30) d_Ma_raise_27 rfl f_Ma_51 rfl rfl ?_
      refine um_iload_n (pc2 := 31) d_Ma_raise_30 rfl rfl ?_
      refine um_callV2i (pc2 := 34) d_Ma_raise_31 rfl g_Ma_108 rfl (Nat.le_of_ble_eq_true rfl) (Nat.le_of_ble_eq_true rfl) (Nat.le_of_ble_eq_true rfl) (c_Co_rowFor h) (fun x4 σ3 h => ?_)
      refine um_istore_n (pc2 := 35) (ls2 := [some (.ref 4), some (.int v1), some (.int x4)]) d_Ma_raise_34 rfl (Nat.le_of_ble_eq_true rfl) rfl ?_
      refine um_iload_n (pc2 := 36) d_Ma_raise_35 rfl rfl ?_
      refine um_iconst (pc2 := 37) (v := (-1)) d_Ma_raise_36 rfl (by decide) ?_
      refine um_icmp_eq (pc2 := 40) (tgt := 63) d_Ma_raise_37 rfl rfl (fun z => ?_) (fun z => ?_)
      · replace h := h.1 z
        refine um_aload_n (pc2 := 64) d_Ma_raise_63 rfl rfl ?_
        refine um_getI (pc2 := 67) d_Ma_raise_64 rfl f_Ma_48 rfl rfl ?_
        refine um_iconst (pc2 := 68) (v := 1) d_Ma_raise_67 rfl (by decide) ?_
        refine um_icmp_le (pc2 := 71) (tgt := 86) d_Ma_raise_68 rfl rfl (fun z => ?_) (fun z => ?_)
        · replace h := h.1 z
          refine um_forget [true, true, false] rfl ?_
          exact b_Ma_raise_86 (fun _ _ z => ih _ _ z) h
        · replace h := h.2 z
          refine um_aload_n (pc2 := 72) d_Ma_raise_71 rfl rfl ?_
          refine um_aload_n (pc2 := 73) d_Ma_raise_72 rfl rfl ?_
          refine um_getR (pc2 := 76) d_Ma_raise_73 rfl f_Ma_24 rfl rfl ?_
          refine um_aload_n (pc2 := 77) d_Ma_raise_76 rfl rfl ?_
          refine um_getI (pc2 := 80) d_Ma_raise_77 rfl f_Ma_48 rfl rfl ?_
          refine um_iconst (pc2 := 81) (v := 2) d_Ma_raise_80 rfl (by decide) ?_
          refine um_isub (pc2 := 82) d_Ma_raise_81 rfl ?_
          refine um_iald (pc2 := 83) d_Ma_raise_82 rfl rfl h.1 rfl ?_
          replace h := h.2
          refine um_putI (pc2 := 86) d_Ma_raise_83 rfl fw_Ma_51 rfl rfl (um_gen (fun σ5 eσ5 => ?_))
          replace h := h σ5 eσ5
          refine um_forget [true, true, false] rfl ?_
          exact b_Ma_raise_86 (fun _ _ z => ih _ _ z) h
      · replace h := h.2 z
        refine um_aload_n (pc2 := 41) d_Ma_raise_40 rfl rfl ?_
        refine um_iload_n (pc2 := 42) d_Ma_raise_41 rfl rfl ?_
        refine um_callV1v (pc2 := 45) d_Ma_raise_42 rfl g_Ma_87 rfl (Nat.le_of_ble_eq_true rfl) (Nat.le_of_ble_eq_true rfl) (Nat.le_of_ble_eq_true rfl) (c_Ma_push h) (fun σ6 h => ?_)
        refine um_aload_n (pc2 := 46) d_Ma_raise_45 rfl rfl ?_
        refine um_aload_n (pc2 := 47) d_Ma_raise_46 rfl rfl ?_
        refine um_getR (pc2 := 50) d_Ma_raise_47 rfl f_Ma_30 rfl rfl ?_
        refine um_getR (pc2 := 53) d_Ma_raise_50 rfl f_Ma_111 rfl rfl ?_
        refine um_iload_n (pc2 := 54) d_Ma_raise_53 rfl rfl ?_
        refine um_iconst (pc2 := 55) (v := 5) d_Ma_raise_54 rfl (by decide) ?_
        refine um_imul (pc2 := 56) d_Ma_raise_55 rfl ?_
        refine um_iconst (pc2 := 57) (v := 2) d_Ma_raise_56 rfl (by decide) ?_
        refine um_iadd (pc2 := 58) d_Ma_raise_57 rfl ?_
        refine um_iald (pc2 := 59) d_Ma_raise_58 rfl rfl h.1 rfl ?_
        replace h := h.2
        refine um_putI (pc2 := 62) d_Ma_raise_59 rfl fw_Ma_51 rfl rfl (um_gen (fun σ7 eσ7 => ?_))
        replace h := h σ7 eσ7
        exact um_vret d_Ma_raise_62 rfl ⟨rfl, h⟩
set_option maxHeartbeats 4000000 in
set_option maxRecDepth 100000 in
theorem c_Ma_raise {a1 : Int32} {σ : um_S} {Q : um_S → Prop} (h : wp_Ma_raise a1 σ Q) : um_Con um_cl um_AW um_L um_SX 1 25 M_Ma_raise [.ref 4, .int a1] σ (um_Qv Q) := by
  refine um_con (by decide) (Nat.le_of_ble_eq_true rfl) (fun v hv => by simp only [List.mem_cons, List.not_mem_nil, or_false] at hv; rcases hv with rfl | rfl <;> rfl) ?_
  show um_Ev um_cl um_AW um_L um_SX M_Ma_raise 1 25 0 [some (.ref 4), some (.int a1), none] [] σ (um_Qv Q)
  unfold wp_Ma_raise at h
  refine um_aload_n (pc2 := 1) d_Ma_raise_0 rfl rfl ?_
  refine um_getR (pc2 := 4) d_Ma_raise_1 rfl f_Ma_18 rfl rfl ?_
  refine um_iconst (pc2 := 5) (v := 4) d_Ma_raise_4 rfl (by decide) ?_
  refine um_dup2 (pc2 := 6) d_Ma_raise_5 rfl rfl rfl ?_
  refine um_iald (pc2 := 7) (k := 4) d_Ma_raise_6 rfl rfl (by unfold vp_in; decide) (by decide) ?_
  refine um_iconst (pc2 := 8) (v := 1) d_Ma_raise_7 rfl (by decide) ?_
  refine um_iadd (pc2 := 9) d_Ma_raise_8 rfl ?_
  refine um_iast (pc2 := 10) (k := 4) d_Ma_raise_9 rfl rfl (by unfold vp_in; decide) (by decide) (um_gen (fun σ1 eσ1 => ?_))
  replace h := h σ1 eσ1
  refine um_aload_n (pc2 := 11) d_Ma_raise_10 rfl rfl ?_
  refine um_iconst (pc2 := 12) (v := 0) d_Ma_raise_11 rfl (by decide) ?_
  refine um_putI (pc2 := 15) d_Ma_raise_12 rfl fw_Ma_44 rfl rfl (um_gen (fun σ2 eσ2 => ?_))
  replace h := h σ2 eσ2
  refine um_forget [true, true, false] rfl ?_
  exact b_Ma_raise_15 _ _ _ h
def wp_Ma_enter (a1 : Int32) (σ : um_S) (Q : um_S → Prop) : Prop :=
  ((σ 4 9) < 12 → vp_in ((σ 4 9) - 1) 12 ∧ ∀ σ1 : um_S, σ1 = um_up σ 21 ((σ 4 9) - 1).toNatClampNeg (σ 4 10) → ∀ σ2 : um_S, σ2 = um_up σ1 4 9 ((σ1 4 9) + 1) → ∀ σ3 : um_S, σ3 = um_up σ2 19 5 (if (σ2 19 5) < (σ2 4 9) then (σ2 4 9) else (σ2 19 5)) → vp_in a1 6 ∧ ∀ σ4 : um_S, σ4 = um_up σ3 4 10 (σ3 14 a1.toNatClampNeg) → Q σ4) ∧ (¬ (σ 4 9) < 12 → wp_Ma_raise 3 σ (fun σ5 => Q σ5))
set_option maxHeartbeats 4000000 in
set_option maxRecDepth 100000 in
theorem c_Ma_enter {a1 : Int32} {σ : um_S} {Q : um_S → Prop} (h : wp_Ma_enter a1 σ Q) : um_Con um_cl um_AW um_L um_SX 2 47 M_Ma_enter [.ref 4, .int a1] σ (um_Qv Q) := by
  refine um_con (by decide) (Nat.le_of_ble_eq_true rfl) (fun v hv => by simp only [List.mem_cons, List.not_mem_nil, or_false] at hv; rcases hv with rfl | rfl <;> rfl) ?_
  show um_Ev um_cl um_AW um_L um_SX M_Ma_enter 2 47 0 [some (.ref 4), some (.int a1)] [] σ (um_Qv Q)
  unfold wp_Ma_enter at h
  refine um_aload_n (pc2 := 1) d_Ma_enter_0 rfl rfl ?_
  refine um_getI (pc2 := 4) d_Ma_enter_1 rfl f_Ma_48 rfl rfl ?_
  refine um_bipush (pc2 := 6) (v := 12) d_Ma_enter_4 rfl (by decide) ?_
  refine um_icmp_lt (pc2 := 9) (tgt := 15) d_Ma_enter_6 rfl rfl (fun z => ?_) (fun z => ?_)
  · replace h := h.1 z
    refine um_aload_n (pc2 := 16) d_Ma_enter_15 rfl rfl ?_
    refine um_getR (pc2 := 19) d_Ma_enter_16 rfl f_Ma_24 rfl rfl ?_
    refine um_aload_n (pc2 := 20) d_Ma_enter_19 rfl rfl ?_
    refine um_getI (pc2 := 23) d_Ma_enter_20 rfl f_Ma_48 rfl rfl ?_
    refine um_iconst (pc2 := 24) (v := 1) d_Ma_enter_23 rfl (by decide) ?_
    refine um_isub (pc2 := 25) d_Ma_enter_24 rfl ?_
    refine um_aload_n (pc2 := 26) d_Ma_enter_25 rfl rfl ?_
    refine um_getI (pc2 := 29) d_Ma_enter_26 rfl f_Ma_51 rfl rfl ?_
    refine um_iast (pc2 := 30) d_Ma_enter_29 rfl rfl h.1 rfl (um_gen (fun σ1 eσ1 => ?_))
    replace h := h.2 σ1 eσ1
    refine um_aload_n (pc2 := 31) d_Ma_enter_30 rfl rfl ?_
    refine um_dup (pc2 := 32) d_Ma_enter_31 rfl rfl ?_
    refine um_getI (pc2 := 35) d_Ma_enter_32 rfl f_Ma_48 rfl rfl ?_
    refine um_iconst (pc2 := 36) (v := 1) d_Ma_enter_35 rfl (by decide) ?_
    refine um_iadd (pc2 := 37) d_Ma_enter_36 rfl ?_
    refine um_putI (pc2 := 40) d_Ma_enter_37 rfl fw_Ma_48 rfl rfl (um_gen (fun σ2 eσ2 => ?_))
    replace h := h σ2 eσ2
    refine um_aload_n (pc2 := 41) d_Ma_enter_40 rfl rfl ?_
    refine um_getR (pc2 := 44) d_Ma_enter_41 rfl f_Ma_18 rfl rfl ?_
    refine um_iconst (pc2 := 45) (v := 5) d_Ma_enter_44 rfl (by decide) ?_
    refine um_aload_n (pc2 := 46) d_Ma_enter_45 rfl rfl ?_
    refine um_getR (pc2 := 49) d_Ma_enter_46 rfl f_Ma_18 rfl rfl ?_
    refine um_iconst (pc2 := 50) (v := 5) d_Ma_enter_49 rfl (by decide) ?_
    refine um_iald (pc2 := 51) (k := 5) d_Ma_enter_50 rfl rfl (by unfold vp_in; decide) (by decide) ?_
    refine um_aload_n (pc2 := 52) d_Ma_enter_51 rfl rfl ?_
    refine um_getI (pc2 := 55) d_Ma_enter_52 rfl f_Ma_48 rfl rfl ?_
    refine um_mmax (pc2 := 58) d_Ma_enter_55 rfl mx_Ma_99 (Nat.le_of_ble_eq_true rfl) (Nat.le_of_ble_eq_true rfl) ?_
    refine um_iast (pc2 := 59) (k := 5) d_Ma_enter_58 rfl rfl (by unfold vp_in; decide) (by decide) (um_gen (fun σ3 eσ3 => ?_))
    replace h := h σ3 eσ3
    refine um_aload_n (pc2 := 60) d_Ma_enter_59 rfl rfl ?_
    refine um_aload_n (pc2 := 61) d_Ma_enter_60 rfl rfl ?_
    refine um_getR (pc2 := 64) d_Ma_enter_61 rfl f_Ma_30 rfl rfl ?_
    refine um_getR (pc2 := 67) d_Ma_enter_64 rfl f_Ma_105 rfl rfl ?_
    refine um_iload_n (pc2 := 68) d_Ma_enter_67 rfl rfl ?_
    refine um_iald (pc2 := 69) d_Ma_enter_68 rfl rfl h.1 rfl ?_
    replace h := h.2
    refine um_putI (pc2 := 72) d_Ma_enter_69 rfl fw_Ma_51 rfl rfl (um_gen (fun σ4 eσ4 => ?_))
    replace h := h σ4 eσ4
    exact um_vret d_Ma_enter_72 rfl ⟨rfl, h⟩
  · replace h := h.2 z
    refine um_aload_n (pc2 := 10) d_Ma_enter_9 rfl rfl ?_
    refine um_iconst (pc2 := 11) (v := 3) d_Ma_enter_10 rfl (by decide) ?_
    refine um_callV1v (pc2 := 14) d_Ma_enter_11 rfl g_Ma_69 rfl (Nat.le_of_ble_eq_true rfl) (Nat.le_of_ble_eq_true rfl) (Nat.le_of_ble_eq_true rfl) (c_Ma_raise h) (fun σ5 h => ?_)
    exact um_vret d_Ma_enter_14 rfl ⟨rfl, h⟩
def wp_Ma_goBack (σ : um_S) (Q : um_S → Prop) : Prop :=
  ∀ σ1 : um_S, σ1 = um_up σ 4 9 ((σ 4 9) - 1) → (¬ (σ1 4 9) = 0 → vp_in ((σ1 4 9) - 1) 12 ∧ ∀ σ2 : um_S, σ2 = um_up σ1 4 10 ((σ1 21 ((σ1 4 9) - 1).toNatClampNeg) + 1) → Q σ2) ∧ ((σ1 4 9) = 0 → ∀ σ3 : um_S, σ3 = um_up σ1 19 0 1 → Q σ3)
set_option maxHeartbeats 4000000 in
set_option maxRecDepth 100000 in
theorem c_Ma_goBack {σ : um_S} {Q : um_S → Prop} (h : wp_Ma_goBack σ Q) : um_Con um_cl um_AW um_L um_SX 0 0 M_Ma_goBack [.ref 4] σ (um_Qv Q) := by
  refine um_con (by decide) (Nat.le_of_ble_eq_true rfl) (fun v hv => by simp only [List.mem_cons, List.not_mem_nil, or_false] at hv; rcases hv with rfl <;> rfl) ?_
  show um_Ev um_cl um_AW um_L um_SX M_Ma_goBack 0 0 0 [some (.ref 4)] [] σ (um_Qv Q)
  unfold wp_Ma_goBack at h
  refine um_aload_n (pc2 := 1) d_Ma_goBack_0 rfl rfl ?_
  refine um_dup (pc2 := 2) d_Ma_goBack_1 rfl rfl ?_
  refine um_getI (pc2 := 5) d_Ma_goBack_2 rfl f_Ma_48 rfl rfl ?_
  refine um_iconst (pc2 := 6) (v := 1) d_Ma_goBack_5 rfl (by decide) ?_
  refine um_isub (pc2 := 7) d_Ma_goBack_6 rfl ?_
  refine um_putI (pc2 := 10) d_Ma_goBack_7 rfl fw_Ma_48 rfl rfl (um_gen (fun σ1 eσ1 => ?_))
  replace h := h σ1 eσ1
  refine um_aload_n (pc2 := 11) d_Ma_goBack_10 rfl rfl ?_
  refine um_getI (pc2 := 14) d_Ma_goBack_11 rfl f_Ma_48 rfl rfl ?_
  refine um_if_ne (pc2 := 17) (tgt := 27) d_Ma_goBack_14 rfl rfl (fun z => ?_) (fun z => ?_)
  · replace h := h.1 z
    refine um_aload_n (pc2 := 28) d_Ma_goBack_27 rfl rfl ?_
    refine um_aload_n (pc2 := 29) d_Ma_goBack_28 rfl rfl ?_
    refine um_getR (pc2 := 32) d_Ma_goBack_29 rfl f_Ma_24 rfl rfl ?_
    refine um_aload_n (pc2 := 33) d_Ma_goBack_32 rfl rfl ?_
    refine um_getI (pc2 := 36) d_Ma_goBack_33 rfl f_Ma_48 rfl rfl ?_
    refine um_iconst (pc2 := 37) (v := 1) d_Ma_goBack_36 rfl (by decide) ?_
    refine um_isub (pc2 := 38) d_Ma_goBack_37 rfl ?_
    refine um_iald (pc2 := 39) d_Ma_goBack_38 rfl rfl h.1 rfl ?_
    replace h := h.2
    refine um_iconst (pc2 := 40) (v := 1) d_Ma_goBack_39 rfl (by decide) ?_
    refine um_iadd (pc2 := 41) d_Ma_goBack_40 rfl ?_
    refine um_putI (pc2 := 44) d_Ma_goBack_41 rfl fw_Ma_51 rfl rfl (um_gen (fun σ2 eσ2 => ?_))
    replace h := h σ2 eσ2
    exact um_vret d_Ma_goBack_44 rfl ⟨rfl, h⟩
  · replace h := h.2 z
    refine um_aload_n (pc2 := 18) d_Ma_goBack_17 rfl rfl ?_
    refine um_getR (pc2 := 21) d_Ma_goBack_18 rfl f_Ma_18 rfl rfl ?_
    refine um_iconst (pc2 := 22) (v := 0) d_Ma_goBack_21 rfl (by decide) ?_
    refine um_iconst (pc2 := 23) (v := 1) d_Ma_goBack_22 rfl (by decide) ?_
    refine um_iast (pc2 := 24) (k := 0) d_Ma_goBack_23 rfl rfl (by unfold vp_in; decide) (by decide) (um_gen (fun σ3 eσ3 => ?_))
    replace h := h σ3 eσ3
    refine um_goto (tgt := 44) d_Ma_goBack_24 rfl ?_
    exact um_vret d_Ma_goBack_44 rfl ⟨rfl, h⟩
def wp_Ma_placeOf (a1 : Int32) (σ : um_S) (Q : Int32 → um_S → Prop) : Prop :=
  Q ((((σ 4 9) - 1) * 150) + a1) σ
set_option maxHeartbeats 4000000 in
set_option maxRecDepth 100000 in
theorem c_Ma_placeOf {a1 : Int32} {σ : um_S} {Q : Int32 → um_S → Prop} (h : wp_Ma_placeOf a1 σ Q) : um_Con um_cl um_AW um_L um_SX 0 0 M_Ma_placeOf [.ref 4, .int a1] σ (um_Qi Q) := by
  refine um_con (by decide) (Nat.le_of_ble_eq_true rfl) (fun v hv => by simp only [List.mem_cons, List.not_mem_nil, or_false] at hv; rcases hv with rfl | rfl <;> rfl) ?_
  show um_Ev um_cl um_AW um_L um_SX M_Ma_placeOf 0 0 0 [some (.ref 4), some (.int a1)] [] σ (um_Qi Q)
  unfold wp_Ma_placeOf at h
  refine um_aload_n (pc2 := 1) d_Ma_placeOf_0 rfl rfl ?_
  refine um_getI (pc2 := 4) d_Ma_placeOf_1 rfl f_Ma_48 rfl rfl ?_
  refine um_iconst (pc2 := 5) (v := 1) d_Ma_placeOf_4 rfl (by decide) ?_
  refine um_isub (pc2 := 6) d_Ma_placeOf_5 rfl ?_
  refine um_sipush (pc2 := 9) (v := 150) d_Ma_placeOf_6 rfl (by decide) ?_
  refine um_imul (pc2 := 10) d_Ma_placeOf_9 rfl ?_
  refine um_iload_n (pc2 := 11) d_Ma_placeOf_10 rfl rfl ?_
  refine um_iadd (pc2 := 12) d_Ma_placeOf_11 rfl ?_
  exact um_iret d_Ma_placeOf_12 rfl ⟨_, rfl, h⟩
def wp_Ma_combine (a0 : Int32) (a1 : Int32) (a2 : Int32) (σ : um_S) (Q : Int32 → um_S → Prop) : Prop :=
  (a0 = 2 → Q (a1 + a2) σ) ∧ (¬ a0 = 2 → (a0 = 3 → Q (a1 - a2) σ) ∧ (¬ a0 = 3 → (a0 = 4 → Q (a1 * a2) σ) ∧ (¬ a0 = 4 → (a0 = 5 → (¬ a2 = 0 → ¬ a2 = 0 ∧ Q (a1 / a2) σ) ∧ (a2 = 0 → Q 0 σ)) ∧ (¬ a0 = 5 → (a0 = 6 → (a2 ≤ a1 → Q 0 σ) ∧ (¬ a2 ≤ a1 → Q 1 σ)) ∧ (¬ a0 = 6 → (¬ a1 = a2 → Q 0 σ) ∧ (a1 = a2 → Q 1 σ))))))
set_option maxHeartbeats 4000000 in
set_option maxRecDepth 100000 in
theorem c_Ma_combine {a0 : Int32} {a1 : Int32} {a2 : Int32} {σ : um_S} {Q : Int32 → um_S → Prop} (h : wp_Ma_combine a0 a1 a2 σ Q) : um_Con um_cl um_AW um_L um_SX 0 0 M_Ma_combine [.int a0, .int a1, .int a2] σ (um_Qi Q) := by
  refine um_con (by decide) (Nat.le_of_ble_eq_true rfl) (fun v hv => by simp only [List.mem_cons, List.not_mem_nil, or_false] at hv; rcases hv with rfl | rfl | rfl <;> rfl) ?_
  show um_Ev um_cl um_AW um_L um_SX M_Ma_combine 0 0 0 [some (.int a0), some (.int a1), some (.int a2)] [] σ (um_Qi Q)
  unfold wp_Ma_combine at h
  refine um_iload_n (pc2 := 1) d_Ma_combine_0 rfl rfl ?_
  by_cases z2 : a0 = 2
  · replace h := h.1 z2
    refine um_tableAt (tgt := 36) d_Ma_combine_1 z2 (kk := 2) (by decide) (by decide) (by decide) rfl rfl ?_
    refine um_iload_n (pc2 := 37) d_Ma_combine_36 rfl rfl ?_
    refine um_iload_n (pc2 := 38) d_Ma_combine_37 rfl rfl ?_
    refine um_iadd (pc2 := 39) d_Ma_combine_38 rfl ?_
    exact um_iret d_Ma_combine_39 rfl ⟨_, rfl, h⟩
  replace h := h.2 z2
  by_cases z3 : a0 = 3
  · replace h := h.1 z3
    refine um_tableAt (tgt := 40) d_Ma_combine_1 z3 (kk := 3) (by decide) (by decide) (by decide) rfl rfl ?_
    refine um_iload_n (pc2 := 41) d_Ma_combine_40 rfl rfl ?_
    refine um_iload_n (pc2 := 42) d_Ma_combine_41 rfl rfl ?_
    refine um_isub (pc2 := 43) d_Ma_combine_42 rfl ?_
    exact um_iret d_Ma_combine_43 rfl ⟨_, rfl, h⟩
  replace h := h.2 z3
  by_cases z4 : a0 = 4
  · replace h := h.1 z4
    refine um_tableAt (tgt := 44) d_Ma_combine_1 z4 (kk := 4) (by decide) (by decide) (by decide) rfl rfl ?_
    refine um_iload_n (pc2 := 45) d_Ma_combine_44 rfl rfl ?_
    refine um_iload_n (pc2 := 46) d_Ma_combine_45 rfl rfl ?_
    refine um_imul (pc2 := 47) d_Ma_combine_46 rfl ?_
    exact um_iret d_Ma_combine_47 rfl ⟨_, rfl, h⟩
  replace h := h.2 z4
  by_cases z5 : a0 = 5
  · replace h := h.1 z5
    refine um_tableAt (tgt := 48) d_Ma_combine_1 z5 (kk := 5) (by decide) (by decide) (by decide) rfl rfl ?_
    refine um_iload_n (pc2 := 49) d_Ma_combine_48 rfl rfl ?_
    refine um_if_ne (pc2 := 52) (tgt := 56) d_Ma_combine_49 rfl rfl (fun z => ?_) (fun z => ?_)
    · replace h := h.1 z
      refine um_iload_n (pc2 := 57) d_Ma_combine_56 rfl rfl ?_
      refine um_iload_n (pc2 := 58) d_Ma_combine_57 rfl rfl ?_
      refine um_idiv (pc2 := 59) d_Ma_combine_58 rfl h.1 ?_
      replace h := h.2
      exact um_iret d_Ma_combine_59 rfl ⟨_, rfl, h⟩
    · replace h := h.2 z
      refine um_iconst (pc2 := 53) (v := 0) d_Ma_combine_52 rfl (by decide) ?_
      refine um_goto (tgt := 59) d_Ma_combine_53 rfl ?_
      exact um_iret d_Ma_combine_59 rfl ⟨_, rfl, h⟩
  replace h := h.2 z5
  by_cases z6 : a0 = 6
  · replace h := h.1 z6
    refine um_tableAt (tgt := 60) d_Ma_combine_1 z6 (kk := 6) (by decide) (by decide) (by decide) rfl rfl ?_
    refine um_iload_n (pc2 := 61) d_Ma_combine_60 rfl rfl ?_
    refine um_iload_n (pc2 := 62) d_Ma_combine_61 rfl rfl ?_
    refine um_icmp_ge (pc2 := 65) (tgt := 69) d_Ma_combine_62 rfl rfl (fun z => ?_) (fun z => ?_)
    · replace h := h.1 z
      refine um_iconst (pc2 := 70) (v := 0) d_Ma_combine_69 rfl (by decide) ?_
      exact um_iret d_Ma_combine_70 rfl ⟨_, rfl, h⟩
    · replace h := h.2 z
      refine um_iconst (pc2 := 66) (v := 1) d_Ma_combine_65 rfl (by decide) ?_
      refine um_goto (tgt := 70) d_Ma_combine_66 rfl ?_
      exact um_iret d_Ma_combine_70 rfl ⟨_, rfl, h⟩
  replace h := h.2 z6
  have hE : um_Ev um_cl um_AW um_L um_SX M_Ma_combine 0 0 71 [some (.int a0), some (.int a1), some (.int a2)] [] σ (um_Qi Q) := by
    refine um_iload_n (pc2 := 72) d_Ma_combine_71 rfl rfl ?_
    refine um_iload_n (pc2 := 73) d_Ma_combine_72 rfl rfl ?_
    refine um_icmp_ne (pc2 := 76) (tgt := 80) d_Ma_combine_73 rfl rfl (fun z => ?_) (fun z => ?_)
    · replace h := h.1 z
      refine um_iconst (pc2 := 81) (v := 0) d_Ma_combine_80 rfl (by decide) ?_
      exact um_iret d_Ma_combine_81 rfl ⟨_, rfl, h⟩
    · replace h := h.2 z
      refine um_iconst (pc2 := 77) (v := 1) d_Ma_combine_76 rfl (by decide) ?_
      refine um_goto (tgt := 81) d_Ma_combine_77 rfl ?_
      exact um_iret d_Ma_combine_81 rfl ⟨_, rfl, h⟩
  exact um_tableOut (tgt := 71) d_Ma_combine_1 (by have := um_toInt_ne (kk := 2) z2 (by decide); have := um_toInt_ne (kk := 3) z3 (by decide); have := um_toInt_ne (kk := 4) z4 (by decide); have := um_toInt_ne (kk := 5) z5 (by decide); have := um_toInt_ne (kk := 6) z6 (by decide); omega) rfl hE
def wp_Ma_putOut (a1 : Int32) (σ : um_S) (Q : um_S → Prop) : Prop :=
  (64 ≤ (σ 19 3) → Q σ) ∧ (¬ 64 ≤ (σ 19 3) → vp_in (σ 19 3) 64 ∧ ∀ σ1 : um_S, σ1 = um_up σ 18 (σ 19 3).toNatClampNeg a1 → ∀ σ2 : um_S, σ2 = um_up σ1 19 3 ((σ1 19 3) + 1) → Q σ2)
set_option maxHeartbeats 4000000 in
set_option maxRecDepth 100000 in
theorem c_Ma_putOut {a1 : Int32} {σ : um_S} {Q : um_S → Prop} (h : wp_Ma_putOut a1 σ Q) : um_Con um_cl um_AW um_L um_SX 0 0 M_Ma_putOut [.ref 4, .int a1] σ (um_Qv Q) := by
  refine um_con (by decide) (Nat.le_of_ble_eq_true rfl) (fun v hv => by simp only [List.mem_cons, List.not_mem_nil, or_false] at hv; rcases hv with rfl | rfl <;> rfl) ?_
  show um_Ev um_cl um_AW um_L um_SX M_Ma_putOut 0 0 0 [some (.ref 4), some (.int a1)] [] σ (um_Qv Q)
  unfold wp_Ma_putOut at h
  refine um_aload_n (pc2 := 1) d_Ma_putOut_0 rfl rfl ?_
  refine um_getR (pc2 := 4) d_Ma_putOut_1 rfl f_Ma_18 rfl rfl ?_
  refine um_iconst (pc2 := 5) (v := 3) d_Ma_putOut_4 rfl (by decide) ?_
  refine um_iald (pc2 := 6) (k := 3) d_Ma_putOut_5 rfl rfl (by unfold vp_in; decide) (by decide) ?_
  refine um_bipush (pc2 := 8) (v := 64) d_Ma_putOut_6 rfl (by decide) ?_
  refine um_icmp_ge (pc2 := 11) (tgt := 33) d_Ma_putOut_8 rfl rfl (fun z => ?_) (fun z => ?_)
  · replace h := h.1 z
    exact um_vret d_Ma_putOut_33 rfl ⟨rfl, h⟩
  · replace h := h.2 z
    refine um_aload_n (pc2 := 12) d_Ma_putOut_11 rfl rfl ?_
    refine um_getR (pc2 := 15) d_Ma_putOut_12 rfl f_Ma_15 rfl rfl ?_
    refine um_aload_n (pc2 := 16) d_Ma_putOut_15 rfl rfl ?_
    refine um_getR (pc2 := 19) d_Ma_putOut_16 rfl f_Ma_18 rfl rfl ?_
    refine um_iconst (pc2 := 20) (v := 3) d_Ma_putOut_19 rfl (by decide) ?_
    refine um_iald (pc2 := 21) (k := 3) d_Ma_putOut_20 rfl rfl (by unfold vp_in; decide) (by decide) ?_
    refine um_iload_n (pc2 := 22) d_Ma_putOut_21 rfl rfl ?_
    refine um_iast (pc2 := 23) d_Ma_putOut_22 rfl rfl h.1 rfl (um_gen (fun σ1 eσ1 => ?_))
    replace h := h.2 σ1 eσ1
    refine um_aload_n (pc2 := 24) d_Ma_putOut_23 rfl rfl ?_
    refine um_getR (pc2 := 27) d_Ma_putOut_24 rfl f_Ma_18 rfl rfl ?_
    refine um_iconst (pc2 := 28) (v := 3) d_Ma_putOut_27 rfl (by decide) ?_
    refine um_dup2 (pc2 := 29) d_Ma_putOut_28 rfl rfl rfl ?_
    refine um_iald (pc2 := 30) (k := 3) d_Ma_putOut_29 rfl rfl (by unfold vp_in; decide) (by decide) ?_
    refine um_iconst (pc2 := 31) (v := 1) d_Ma_putOut_30 rfl (by decide) ?_
    refine um_iadd (pc2 := 32) d_Ma_putOut_31 rfl ?_
    refine um_iast (pc2 := 33) (k := 3) d_Ma_putOut_32 rfl rfl (by unfold vp_in; decide) (by decide) (um_gen (fun σ2 eσ2 => ?_))
    replace h := h σ2 eσ2
    exact um_vret d_Ma_putOut_33 rfl ⟨rfl, h⟩
def wp_Ma_doStraight_151 (Q : um_S → Prop) (σ : um_S) : Prop :=
  ∀ σ1 : um_S, σ1 = um_up σ 4 10 ((σ 4 10) + 1) → Q σ1
def wp_Ma_doStraight_140 (Q : um_S → Prop) (v1 : Int32) (v3 : Int32) (v4 : Int32) (σ : um_S) : Prop :=
  wp_Ma_combine v1 v4 v3 σ (fun x2 σ1 => wp_Ma_push x2 σ1 (fun σ3 => wp_Ma_doStraight_151 Q σ3))
def wp_Ma_doStraight (a1 : Int32) (a2 : Int32) (σ : um_S) (Q : um_S → Prop) : Prop :=
  (a1 = 0 → wp_Ma_push a2 σ (fun σ1 => wp_Ma_doStraight_151 Q σ1)) ∧ (¬ a1 = 0 → (a1 = 1 → vp_in a2 8 ∧ wp_Ma_push (σ 17 a2.toNatClampNeg) σ (fun σ2 => wp_Ma_doStraight_151 Q σ2)) ∧ (¬ a1 = 1 → (a1 = 8 → wp_Ma_pull σ (fun x4 σ3 => vp_in a2 8 ∧ ∀ σ5 : um_S, σ5 = um_up σ3 17 a2.toNatClampNeg x4 → wp_Ma_doStraight_151 Q σ5)) ∧ (¬ a1 = 8 → (a1 = 9 → wp_Ma_pull σ (fun x7 σ6 => wp_Ma_putOut x7 σ6 (fun σ8 => wp_Ma_doStraight_151 Q σ8))) ∧ (¬ a1 = 9 → (a1 = 15 → wp_Ma_placeOf a2 σ (fun x10 σ9 => wp_Ma_pull σ9 (fun x12 σ11 => vp_in x10 1800 ∧ ∀ σ13 : um_S, σ13 = um_up σ11 22 x10.toNatClampNeg x12 → wp_Ma_doStraight_151 Q σ13))) ∧ (¬ a1 = 15 → wp_Ma_pull σ (fun x15 σ14 => wp_Ma_pull σ14 (fun x17 σ16 => (¬ a1 = 5 → wp_Ma_doStraight_140 Q a1 x15 x17 σ16) ∧ (a1 = 5 → (¬ x15 = 0 → wp_Ma_doStraight_140 Q a1 x15 x17 σ16) ∧ (x15 = 0 → wp_Ma_raise 1 σ16 (fun σ18 => Q σ18))))))))))
set_option maxHeartbeats 4000000 in
set_option maxRecDepth 100000 in
theorem b_Ma_doStraight_151 {Q : um_S → Prop} {σ : um_S} (h : wp_Ma_doStraight_151 Q σ) : um_Ev um_cl um_AW um_L um_SX M_Ma_doStraight 2 47 151 [some (.ref 4), none, none, none, none] [] σ (um_Qv Q) := by
  unfold wp_Ma_doStraight_151 at h
  refine um_aload_n (pc2 := 152) d_Ma_doStraight_151 rfl rfl ?_
  refine um_dup (pc2 := 153) d_Ma_doStraight_152 rfl rfl ?_
  refine um_getI (pc2 := 156) d_Ma_doStraight_153 rfl f_Ma_51 rfl rfl ?_
  refine um_iconst (pc2 := 157) (v := 1) d_Ma_doStraight_156 rfl (by decide) ?_
  refine um_iadd (pc2 := 158) d_Ma_doStraight_157 rfl ?_
  refine um_putI (pc2 := 161) d_Ma_doStraight_158 rfl fw_Ma_51 rfl rfl (um_gen (fun σ1 eσ1 => ?_))
  replace h := h σ1 eσ1
  exact um_vret d_Ma_doStraight_161 rfl ⟨rfl, h⟩
set_option maxHeartbeats 4000000 in
set_option maxRecDepth 100000 in
theorem b_Ma_doStraight_140 {Q : um_S → Prop} {v1 : Int32} {v3 : Int32} {v4 : Int32} {σ : um_S} (h : wp_Ma_doStraight_140 Q v1 v3 v4 σ) : um_Ev um_cl um_AW um_L um_SX M_Ma_doStraight 2 47 140 [some (.ref 4), some (.int v1), none, some (.int v3), some (.int v4)] [] σ (um_Qv Q) := by
  unfold wp_Ma_doStraight_140 at h
  refine um_aload_n (pc2 := 141) d_Ma_doStraight_140 rfl rfl ?_
  refine um_iload_n (pc2 := 142) d_Ma_doStraight_141 rfl rfl ?_
  refine um_iload (pc2 := 144) d_Ma_doStraight_142 rfl rfl ?_
  refine um_iload_n (pc2 := 145) d_Ma_doStraight_144 rfl rfl ?_
  refine um_callS3i (pc2 := 148) d_Ma_doStraight_145 rfl g_Ma_95 (Nat.le_of_ble_eq_true rfl) (Nat.le_of_ble_eq_true rfl) (Nat.le_of_ble_eq_true rfl) (c_Ma_combine h) (fun x2 σ1 h => ?_)
  refine um_callV1v (pc2 := 151) d_Ma_doStraight_148 rfl g_Ma_87 rfl (Nat.le_of_ble_eq_true rfl) (Nat.le_of_ble_eq_true rfl) (Nat.le_of_ble_eq_true rfl) (c_Ma_push h) (fun σ3 h => ?_)
  refine um_forget [true, false, false, false, false] rfl ?_
  exact b_Ma_doStraight_151 h
set_option maxHeartbeats 4000000 in
set_option maxRecDepth 100000 in
theorem c_Ma_doStraight {a1 : Int32} {a2 : Int32} {σ : um_S} {Q : um_S → Prop} (h : wp_Ma_doStraight a1 a2 σ Q) : um_Con um_cl um_AW um_L um_SX 2 47 M_Ma_doStraight [.ref 4, .int a1, .int a2] σ (um_Qv Q) := by
  refine um_con (by decide) (Nat.le_of_ble_eq_true rfl) (fun v hv => by simp only [List.mem_cons, List.not_mem_nil, or_false] at hv; rcases hv with rfl | rfl | rfl <;> rfl) ?_
  show um_Ev um_cl um_AW um_L um_SX M_Ma_doStraight 2 47 0 [some (.ref 4), some (.int a1), some (.int a2), none, none] [] σ (um_Qv Q)
  unfold wp_Ma_doStraight at h
  refine um_iload_n (pc2 := 1) d_Ma_doStraight_0 rfl rfl ?_
  by_cases z0 : a1 = 0
  · replace h := h.1 z0
    refine um_lookup (tgt := 52) (off := 51) d_Ma_doStraight_1 (by decide) (by rw [z0]; decide) rfl ?_
    refine um_aload_n (pc2 := 53) d_Ma_doStraight_52 rfl rfl ?_
    refine um_iload_n (pc2 := 54) d_Ma_doStraight_53 rfl rfl ?_
    refine um_callV1v (pc2 := 57) d_Ma_doStraight_54 rfl g_Ma_87 rfl (Nat.le_of_ble_eq_true rfl) (Nat.le_of_ble_eq_true rfl) (Nat.le_of_ble_eq_true rfl) (c_Ma_push h) (fun σ1 h => ?_)
    refine um_goto (tgt := 151) d_Ma_doStraight_57 rfl ?_
    refine um_forget [true, false, false, false, false] rfl ?_
    exact b_Ma_doStraight_151 h
  replace h := h.2 z0
  by_cases z1 : a1 = 1
  · replace h := h.1 z1
    refine um_lookup (tgt := 60) (off := 59) d_Ma_doStraight_1 (by decide) (by rw [z1]; decide) rfl ?_
    refine um_aload_n (pc2 := 61) d_Ma_doStraight_60 rfl rfl ?_
    refine um_aload_n (pc2 := 62) d_Ma_doStraight_61 rfl rfl ?_
    refine um_getR (pc2 := 65) d_Ma_doStraight_62 rfl f_Ma_9 rfl rfl ?_
    refine um_iload_n (pc2 := 66) d_Ma_doStraight_65 rfl rfl ?_
    refine um_iald (pc2 := 67) d_Ma_doStraight_66 rfl rfl h.1 rfl ?_
    replace h := h.2
    refine um_callV1v (pc2 := 70) d_Ma_doStraight_67 rfl g_Ma_87 rfl (Nat.le_of_ble_eq_true rfl) (Nat.le_of_ble_eq_true rfl) (Nat.le_of_ble_eq_true rfl) (c_Ma_push h) (fun σ2 h => ?_)
    refine um_goto (tgt := 151) d_Ma_doStraight_70 rfl ?_
    refine um_forget [true, false, false, false, false] rfl ?_
    exact b_Ma_doStraight_151 h
  replace h := h.2 z1
  by_cases z8 : a1 = 8
  · replace h := h.1 z8
    refine um_lookup (tgt := 73) (off := 72) d_Ma_doStraight_1 (by decide) (by rw [z8]; decide) rfl ?_
    refine um_aload_n (pc2 := 74) d_Ma_doStraight_73 rfl rfl ?_
    refine um_getR (pc2 := 77) d_Ma_doStraight_74 rfl f_Ma_9 rfl rfl ?_
    refine um_iload_n (pc2 := 78) d_Ma_doStraight_77 rfl rfl ?_
    refine um_aload_n (pc2 := 79) d_Ma_doStraight_78 rfl rfl ?_
    refine um_callV0i (pc2 := 82) d_Ma_doStraight_79 rfl g_Ma_65 rfl (Nat.le_of_ble_eq_true rfl) (Nat.le_of_ble_eq_true rfl) (Nat.le_of_ble_eq_true rfl) (c_Ma_pull h) (fun x4 σ3 h => ?_)
    refine um_iast (pc2 := 83) d_Ma_doStraight_82 rfl rfl h.1 rfl (um_gen (fun σ5 eσ5 => ?_))
    replace h := h.2 σ5 eσ5
    refine um_goto (tgt := 151) d_Ma_doStraight_83 rfl ?_
    refine um_forget [true, false, false, false, false] rfl ?_
    exact b_Ma_doStraight_151 h
  replace h := h.2 z8
  by_cases z9 : a1 = 9
  · replace h := h.1 z9
    refine um_lookup (tgt := 86) (off := 85) d_Ma_doStraight_1 (by decide) (by rw [z9]; decide) rfl ?_
    refine um_aload_n (pc2 := 87) d_Ma_doStraight_86 rfl rfl ?_
    refine um_aload_n (pc2 := 88) d_Ma_doStraight_87 rfl rfl ?_
    refine um_callV0i (pc2 := 91) d_Ma_doStraight_88 rfl g_Ma_65 rfl (Nat.le_of_ble_eq_true rfl) (Nat.le_of_ble_eq_true rfl) (Nat.le_of_ble_eq_true rfl) (c_Ma_pull h) (fun x7 σ6 h => ?_)
    refine um_callV1v (pc2 := 94) d_Ma_doStraight_91 rfl g_Ma_90 rfl (Nat.le_of_ble_eq_true rfl) (Nat.le_of_ble_eq_true rfl) (Nat.le_of_ble_eq_true rfl) (c_Ma_putOut h) (fun σ8 h => ?_)
    refine um_goto (tgt := 151) d_Ma_doStraight_94 rfl ?_
    refine um_forget [true, false, false, false, false] rfl ?_
    exact b_Ma_doStraight_151 h
  replace h := h.2 z9
  by_cases z15 : a1 = 15
  · replace h := h.1 z15
    refine um_lookup (tgt := 97) (off := 96) d_Ma_doStraight_1 (by decide) (by rw [z15]; decide) rfl ?_
    refine um_aload_n (pc2 := 98) d_Ma_doStraight_97 rfl rfl ?_
    refine um_getR (pc2 := 101) d_Ma_doStraight_98 rfl f_Ma_27 rfl rfl ?_
    refine um_aload_n (pc2 := 102) d_Ma_doStraight_101 rfl rfl ?_
    refine um_iload_n (pc2 := 103) d_Ma_doStraight_102 rfl rfl ?_
    refine um_callV1i (pc2 := 106) d_Ma_doStraight_103 rfl g_Ma_79 rfl (Nat.le_of_ble_eq_true rfl) (Nat.le_of_ble_eq_true rfl) (Nat.le_of_ble_eq_true rfl) (c_Ma_placeOf h) (fun x10 σ9 h => ?_)
    refine um_aload_n (pc2 := 107) d_Ma_doStraight_106 rfl rfl ?_
    refine um_callV0i (pc2 := 110) d_Ma_doStraight_107 rfl g_Ma_65 rfl (Nat.le_of_ble_eq_true rfl) (Nat.le_of_ble_eq_true rfl) (Nat.le_of_ble_eq_true rfl) (c_Ma_pull h) (fun x12 σ11 h => ?_)
    refine um_iast (pc2 := 111) d_Ma_doStraight_110 rfl rfl h.1 rfl (um_gen (fun σ13 eσ13 => ?_))
    replace h := h.2 σ13 eσ13
    refine um_goto (tgt := 151) d_Ma_doStraight_111 rfl ?_
    refine um_forget [true, false, false, false, false] rfl ?_
    exact b_Ma_doStraight_151 h
  replace h := h.2 z15
  refine um_lookup (tgt := 114) (off := 113) d_Ma_doStraight_1 (by decide) ((lv_osw z0 rfl).trans ((lv_osw z1 rfl).trans ((lv_osw z8 rfl).trans ((lv_osw z9 rfl).trans ((lv_osw z15 rfl).trans (rfl)))))) rfl ?_
  refine um_aload_n (pc2 := 115) d_Ma_doStraight_114 rfl rfl ?_
  refine um_callV0i (pc2 := 118) d_Ma_doStraight_115 rfl g_Ma_65 rfl (Nat.le_of_ble_eq_true rfl) (Nat.le_of_ble_eq_true rfl) (Nat.le_of_ble_eq_true rfl) (c_Ma_pull h) (fun x15 σ14 h => ?_)
  refine um_istore_n (pc2 := 119) (ls2 := [some (.ref 4), some (.int a1), some (.int a2), some (.int x15), none]) d_Ma_doStraight_118 rfl (Nat.le_of_ble_eq_true rfl) rfl ?_
  refine um_aload_n (pc2 := 120) d_Ma_doStraight_119 rfl rfl ?_
  refine um_callV0i (pc2 := 123) d_Ma_doStraight_120 rfl g_Ma_65 rfl (Nat.le_of_ble_eq_true rfl) (Nat.le_of_ble_eq_true rfl) (Nat.le_of_ble_eq_true rfl) (c_Ma_pull h) (fun x17 σ16 h => ?_)
  refine um_istore (pc2 := 125) (ls2 := [some (.ref 4), some (.int a1), some (.int a2), some (.int x15), some (.int x17)]) d_Ma_doStraight_123 rfl (Nat.le_of_ble_eq_true rfl) rfl ?_
  refine um_iload_n (pc2 := 126) d_Ma_doStraight_125 rfl rfl ?_
  refine um_iconst (pc2 := 127) (v := 5) d_Ma_doStraight_126 rfl (by decide) ?_
  refine um_icmp_ne (pc2 := 130) (tgt := 140) d_Ma_doStraight_127 rfl rfl (fun z => ?_) (fun z => ?_)
  · replace h := h.1 z
    refine um_forget [true, true, false, true, true] rfl ?_
    exact b_Ma_doStraight_140 h
  · replace h := h.2 z
    refine um_iload_n (pc2 := 131) d_Ma_doStraight_130 rfl rfl ?_
    refine um_if_ne (pc2 := 134) (tgt := 140) d_Ma_doStraight_131 rfl rfl (fun z => ?_) (fun z => ?_)
    · replace h := h.1 z
      refine um_forget [true, true, false, true, true] rfl ?_
      exact b_Ma_doStraight_140 h
    · replace h := h.2 z
      refine um_aload_n (pc2 := 135) d_Ma_doStraight_134 rfl rfl ?_
      refine um_iconst (pc2 := 136) (v := 1) d_Ma_doStraight_135 rfl (by decide) ?_
      refine um_callV1v (pc2 := 139) d_Ma_doStraight_136 rfl g_Ma_69 rfl (Nat.le_of_ble_eq_true rfl) (Nat.le_of_ble_eq_true rfl) (Nat.le_of_ble_eq_true rfl) (c_Ma_raise h) (fun σ18 h => ?_)
      exact um_vret d_Ma_doStraight_139 rfl ⟨rfl, h⟩
def wp_Ma_doStep (σ : um_S) (Q : um_S → Prop) : Prop :=
  vp_in (σ 4 10) 1000 ∧ ∀ x1 : Int32, x1 = (σ 11 (σ 4 10).toNatClampNeg) → vp_in (σ 4 10) 1000 ∧ ∀ x2 : Int32, x2 = (σ 12 (σ 4 10).toNatClampNeg) → (x1 = 10 → wp_Ma_pull σ (fun x4 σ3 => (¬ x4 = 0 → ∀ σ5 : um_S, σ5 = um_up σ3 4 10 ((σ3 4 10) + 1) → Q σ5) ∧ (x4 = 0 → ∀ σ6 : um_S, σ6 = um_up σ3 4 10 x2 → Q σ6))) ∧ (¬ x1 = 10 → (x1 = 11 → ∀ σ7 : um_S, σ7 = um_up σ 4 10 x2 → Q σ7) ∧ (¬ x1 = 11 → (x1 = 12 → wp_Ma_pull σ (fun x9 σ8 => (¬ x9 = 0 → wp_Ma_raise x9 σ8 (fun σ10 => Q σ10)) ∧ (x9 = 0 → wp_Ma_raise 2 σ8 (fun σ11 => Q σ11)))) ∧ (¬ x1 = 12 → (x1 = 13 → wp_Ma_enter x2 σ (fun σ12 => Q σ12)) ∧ (¬ x1 = 13 → (x1 = 14 → wp_Ma_goBack σ (fun σ13 => Q σ13)) ∧ (¬ x1 = 14 → (x1 = 16 → wp_Ma_placeOf x2 σ (fun x15 σ14 => vp_in x15 1800 ∧ wp_Ma_raise (σ14 22 x15.toNatClampNeg) σ14 (fun σ16 => Q σ16))) ∧ (¬ x1 = 16 → wp_Ma_doStraight x1 x2 σ (fun σ17 => Q σ17)))))))
set_option maxHeartbeats 4000000 in
set_option maxRecDepth 100000 in
theorem c_Ma_doStep {σ : um_S} {Q : um_S → Prop} (h : wp_Ma_doStep σ Q) : um_Con um_cl um_AW um_L um_SX 3 71 M_Ma_doStep [.ref 4] σ (um_Qv Q) := by
  refine um_con (by decide) (Nat.le_of_ble_eq_true rfl) (fun v hv => by simp only [List.mem_cons, List.not_mem_nil, or_false] at hv; rcases hv with rfl <;> rfl) ?_
  show um_Ev um_cl um_AW um_L um_SX M_Ma_doStep 3 71 0 [some (.ref 4), none, none, none] [] σ (um_Qv Q)
  unfold wp_Ma_doStep at h
  refine um_aload_n (pc2 := 1) d_Ma_doStep_0 rfl rfl ?_
  refine um_getR (pc2 := 4) d_Ma_doStep_1 rfl f_Ma_30 rfl rfl ?_
  refine um_getR (pc2 := 7) d_Ma_doStep_4 rfl f_Ma_57 rfl rfl ?_
  refine um_aload_n (pc2 := 8) d_Ma_doStep_7 rfl rfl ?_
  refine um_getI (pc2 := 11) d_Ma_doStep_8 rfl f_Ma_51 rfl rfl ?_
  refine um_iald (pc2 := 12) d_Ma_doStep_11 rfl rfl h.1 rfl ?_
  replace h := h.2
  refine um_top (fun x1 ex1 => ?_)
  replace h := h x1 ex1
  refine um_istore_n (pc2 := 13) (ls2 := [some (.ref 4), some (.int x1), none, none]) d_Ma_doStep_12 rfl (Nat.le_of_ble_eq_true rfl) rfl ?_
  refine um_aload_n (pc2 := 14) d_Ma_doStep_13 rfl rfl ?_
  refine um_getR (pc2 := 17) d_Ma_doStep_14 rfl f_Ma_30 rfl rfl ?_
  refine um_getR (pc2 := 20) d_Ma_doStep_17 rfl f_Ma_62 rfl rfl ?_
  refine um_aload_n (pc2 := 21) d_Ma_doStep_20 rfl rfl ?_
  refine um_getI (pc2 := 24) d_Ma_doStep_21 rfl f_Ma_51 rfl rfl ?_
  refine um_iald (pc2 := 25) d_Ma_doStep_24 rfl rfl h.1 rfl ?_
  replace h := h.2
  refine um_top (fun x2 ex2 => ?_)
  replace h := h x2 ex2
  refine um_istore_n (pc2 := 26) (ls2 := [some (.ref 4), some (.int x1), some (.int x2), none]) d_Ma_doStep_25 rfl (Nat.le_of_ble_eq_true rfl) rfl ?_
  refine um_iload_n (pc2 := 27) d_Ma_doStep_26 rfl rfl ?_
  by_cases z10 : x1 = 10
  · replace h := h.1 z10
    refine um_tableAt (tgt := 76) d_Ma_doStep_27 z10 (kk := 10) (by decide) (by decide) (by decide) rfl rfl ?_
    refine um_aload_n (pc2 := 77) d_Ma_doStep_76 rfl rfl ?_
    refine um_aload_n (pc2 := 78) d_Ma_doStep_77 rfl rfl ?_
    refine um_callV0i (pc2 := 81) d_Ma_doStep_78 rfl g_Ma_65 rfl (Nat.le_of_ble_eq_true rfl) (Nat.le_of_ble_eq_true rfl) (Nat.le_of_ble_eq_true rfl) (c_Ma_pull h) (fun x4 σ3 h => ?_)
    refine um_if_ne (pc2 := 84) (tgt := 88) d_Ma_doStep_81 rfl rfl (fun z => ?_) (fun z => ?_)
    · replace h := h.1 z
      refine um_aload_n (pc2 := 89) d_Ma_doStep_88 rfl rfl ?_
      refine um_getI (pc2 := 92) d_Ma_doStep_89 rfl f_Ma_51 rfl rfl ?_
      refine um_iconst (pc2 := 93) (v := 1) d_Ma_doStep_92 rfl (by decide) ?_
      refine um_iadd (pc2 := 94) d_Ma_doStep_93 rfl ?_
      refine um_putI (pc2 := 97) d_Ma_doStep_94 rfl fw_Ma_51 rfl rfl (um_gen (fun σ5 eσ5 => ?_))
      replace h := h σ5 eσ5
      refine um_goto (tgt := 159) d_Ma_doStep_97 rfl ?_
      exact um_vret d_Ma_doStep_159 rfl ⟨rfl, h⟩
    · replace h := h.2 z
      refine um_iload_n (pc2 := 85) d_Ma_doStep_84 rfl rfl ?_
      refine um_goto (tgt := 94) d_Ma_doStep_85 rfl ?_
      refine um_putI (pc2 := 97) d_Ma_doStep_94 rfl fw_Ma_51 rfl rfl (um_gen (fun σ6 eσ6 => ?_))
      replace h := h σ6 eσ6
      refine um_goto (tgt := 159) d_Ma_doStep_97 rfl ?_
      exact um_vret d_Ma_doStep_159 rfl ⟨rfl, h⟩
  replace h := h.2 z10
  by_cases z11 : x1 = 11
  · replace h := h.1 z11
    refine um_tableAt (tgt := 68) d_Ma_doStep_27 z11 (kk := 11) (by decide) (by decide) (by decide) rfl rfl ?_
    refine um_aload_n (pc2 := 69) d_Ma_doStep_68 rfl rfl ?_
    refine um_iload_n (pc2 := 70) d_Ma_doStep_69 rfl rfl ?_
    refine um_putI (pc2 := 73) d_Ma_doStep_70 rfl fw_Ma_51 rfl rfl (um_gen (fun σ7 eσ7 => ?_))
    replace h := h σ7 eσ7
    refine um_goto (tgt := 159) d_Ma_doStep_73 rfl ?_
    exact um_vret d_Ma_doStep_159 rfl ⟨rfl, h⟩
  replace h := h.2 z11
  by_cases z12 : x1 = 12
  · replace h := h.1 z12
    refine um_tableAt (tgt := 100) d_Ma_doStep_27 z12 (kk := 12) (by decide) (by decide) (by decide) rfl rfl ?_
    refine um_aload_n (pc2 := 101) d_Ma_doStep_100 rfl rfl ?_
    refine um_callV0i (pc2 := 104) d_Ma_doStep_101 rfl g_Ma_65 rfl (Nat.le_of_ble_eq_true rfl) (Nat.le_of_ble_eq_true rfl) (Nat.le_of_ble_eq_true rfl) (c_Ma_pull h) (fun x9 σ8 h => ?_)
    refine um_istore_n (pc2 := 105) (ls2 := [some (.ref 4), some (.int x1), some (.int x2), some (.int x9)]) d_Ma_doStep_104 rfl (Nat.le_of_ble_eq_true rfl) rfl ?_
    refine um_aload_n (pc2 := 106) d_Ma_doStep_105 rfl rfl ?_
    refine um_iload_n (pc2 := 107) d_Ma_doStep_106 rfl rfl ?_
    refine um_if_ne (pc2 := 110) (tgt := 114) d_Ma_doStep_107 rfl rfl (fun z => ?_) (fun z => ?_)
    · replace h := h.1 z
      refine um_iload_n (pc2 := 115) d_Ma_doStep_114 rfl rfl ?_
      refine um_callV1v (pc2 := 118) d_Ma_doStep_115 rfl g_Ma_69 rfl (Nat.le_of_ble_eq_true rfl) (Nat.le_of_ble_eq_true rfl) (Nat.le_of_ble_eq_true rfl) (c_Ma_raise h) (fun σ10 h => ?_)
      refine um_goto (tgt := 159) d_Ma_doStep_118 rfl ?_
      exact um_vret d_Ma_doStep_159 rfl ⟨rfl, h⟩
    · replace h := h.2 z
      refine um_iconst (pc2 := 111) (v := 2) d_Ma_doStep_110 rfl (by decide) ?_
      refine um_goto (tgt := 115) d_Ma_doStep_111 rfl ?_
      refine um_callV1v (pc2 := 118) d_Ma_doStep_115 rfl g_Ma_69 rfl (Nat.le_of_ble_eq_true rfl) (Nat.le_of_ble_eq_true rfl) (Nat.le_of_ble_eq_true rfl) (c_Ma_raise h) (fun σ11 h => ?_)
      refine um_goto (tgt := 159) d_Ma_doStep_118 rfl ?_
      exact um_vret d_Ma_doStep_159 rfl ⟨rfl, h⟩
  replace h := h.2 z12
  by_cases z13 : x1 = 13
  · replace h := h.1 z13
    refine um_tableAt (tgt := 121) d_Ma_doStep_27 z13 (kk := 13) (by decide) (by decide) (by decide) rfl rfl ?_
    refine um_aload_n (pc2 := 122) d_Ma_doStep_121 rfl rfl ?_
    refine um_iload_n (pc2 := 123) d_Ma_doStep_122 rfl rfl ?_
    refine um_callV1v (pc2 := 126) d_Ma_doStep_123 rfl g_Ma_73 rfl (Nat.le_of_ble_eq_true rfl) (Nat.le_of_ble_eq_true rfl) (Nat.le_of_ble_eq_true rfl) (c_Ma_enter h) (fun σ12 h => ?_)
    refine um_goto (tgt := 159) d_Ma_doStep_126 rfl ?_
    exact um_vret d_Ma_doStep_159 rfl ⟨rfl, h⟩
  replace h := h.2 z13
  by_cases z14 : x1 = 14
  · replace h := h.1 z14
    refine um_tableAt (tgt := 129) d_Ma_doStep_27 z14 (kk := 14) (by decide) (by decide) (by decide) rfl rfl ?_
    refine um_aload_n (pc2 := 130) d_Ma_doStep_129 rfl rfl ?_
    refine um_callV0v (pc2 := 133) d_Ma_doStep_130 rfl g_Ma_76 rfl (Nat.le_of_ble_eq_true rfl) (Nat.le_of_ble_eq_true rfl) (Nat.le_of_ble_eq_true rfl) (c_Ma_goBack h) (fun σ13 h => ?_)
    refine um_goto (tgt := 159) d_Ma_doStep_133 rfl ?_
    exact um_vret d_Ma_doStep_159 rfl ⟨rfl, h⟩
  replace h := h.2 z14
  by_cases z16 : x1 = 16
  · replace h := h.1 z16
    refine um_tableAt (tgt := 136) d_Ma_doStep_27 z16 (kk := 16) (by decide) (by decide) (by decide) rfl rfl ?_
    refine um_aload_n (pc2 := 137) d_Ma_doStep_136 rfl rfl ?_
    refine um_aload_n (pc2 := 138) d_Ma_doStep_137 rfl rfl ?_
    refine um_getR (pc2 := 141) d_Ma_doStep_138 rfl f_Ma_27 rfl rfl ?_
    refine um_aload_n (pc2 := 142) d_Ma_doStep_141 rfl rfl ?_
    refine um_iload_n (pc2 := 143) d_Ma_doStep_142 rfl rfl ?_
    refine um_callV1i (pc2 := 146) d_Ma_doStep_143 rfl g_Ma_79 rfl (Nat.le_of_ble_eq_true rfl) (Nat.le_of_ble_eq_true rfl) (Nat.le_of_ble_eq_true rfl) (c_Ma_placeOf h) (fun x15 σ14 h => ?_)
    refine um_iald (pc2 := 147) d_Ma_doStep_146 rfl rfl h.1 rfl ?_
    replace h := h.2
    refine um_callV1v (pc2 := 150) d_Ma_doStep_147 rfl g_Ma_69 rfl (Nat.le_of_ble_eq_true rfl) (Nat.le_of_ble_eq_true rfl) (Nat.le_of_ble_eq_true rfl) (c_Ma_raise h) (fun σ16 h => ?_)
    refine um_goto (tgt := 159) d_Ma_doStep_150 rfl ?_
    exact um_vret d_Ma_doStep_159 rfl ⟨rfl, h⟩
  replace h := h.2 z16
  have hE : um_Ev um_cl um_AW um_L um_SX M_Ma_doStep 3 71 153 [some (.ref 4), some (.int x1), some (.int x2), none] [] σ (um_Qv Q) := by
    refine um_aload_n (pc2 := 154) d_Ma_doStep_153 rfl rfl ?_
    refine um_iload_n (pc2 := 155) d_Ma_doStep_154 rfl rfl ?_
    refine um_iload_n (pc2 := 156) d_Ma_doStep_155 rfl rfl ?_
    refine um_callV2v (pc2 := 159) d_Ma_doStep_156 rfl g_Ma_83 rfl (Nat.le_of_ble_eq_true rfl) (Nat.le_of_ble_eq_true rfl) (Nat.le_of_ble_eq_true rfl) (c_Ma_doStraight h) (fun σ17 h => ?_)
    exact um_vret d_Ma_doStep_159 rfl ⟨rfl, h⟩
  by_cases y15 : x1 = 15
  · exact um_tableAt (tgt := 153) d_Ma_doStep_27 y15 (kk := 15) (by decide) (by decide) (by decide) rfl rfl hE
  exact um_tableOut (tgt := 153) d_Ma_doStep_27 (by have := um_toInt_ne (kk := 10) z10 (by decide); have := um_toInt_ne (kk := 11) z11 (by decide); have := um_toInt_ne (kk := 12) z12 (by decide); have := um_toInt_ne (kk := 13) z13 (by decide); have := um_toInt_ne (kk := 14) z14 (by decide); have := um_toInt_ne (kk := 15) y15 (by decide); have := um_toInt_ne (kk := 16) z16 (by decide); omega) rfl hE
def wp_Ar_fill_AII_17_5 (Q : um_S → Prop) : Nat → Int32 → Int32 → Int32 → um_S → Prop
  | 0, _, _, _, _ => False
  | n + 1, v1, v2, v3, σ =>
    (v3 ≤ v2 → Q σ) ∧ (¬ v3 ≤ v2 → vp_in v2 8 ∧ ∀ σ1 : um_S, σ1 = um_up σ 17 v2.toNatClampNeg v1 → wp_Ar_fill_AII_17_5 Q n v1 (v2 + 1) v3 σ1)
def wp_Ar_fill_AII_17 (a1 : Int32) (σ : um_S) (Q : um_S → Prop) : Prop :=
  wp_Ar_fill_AII_17_5 Q 100000 a1 0 8 σ
set_option maxHeartbeats 4000000 in
set_option maxRecDepth 100000 in
theorem b_Ar_fill_AII_17_5 {Q : um_S → Prop} (n : Nat) : ∀ (v1 : Int32) (v2 : Int32) (v3 : Int32) (σ : um_S), wp_Ar_fill_AII_17_5 Q n v1 v2 v3 σ → um_Ev um_cl um_AW um_L um_SX M_Ar_fill_AII 0 0 5 [some (.ref 17), some (.int v1), some (.int v2), some (.int v3)] [] σ (um_Qv Q) := by
  induction n with
  | zero =>
    intro v1 v2 v3 σ h
    exact h.elim
  | succ n ih =>
    intro v1 v2 v3 σ h
    unfold wp_Ar_fill_AII_17_5 at h
    refine um_iload_n (pc2 := 6) d_Ar_fill_AII_5 rfl rfl ?_
    refine um_iload_n (pc2 := 7) d_Ar_fill_AII_6 rfl rfl ?_
    refine um_icmp_ge (pc2 := 10) (tgt := 20) d_Ar_fill_AII_7 rfl rfl (fun z => ?_) (fun z => ?_)
    · replace h := h.1 z
      exact um_vret d_Ar_fill_AII_20 rfl ⟨rfl, h⟩
    · replace h := h.2 z
      refine um_aload_n (pc2 := 11) d_Ar_fill_AII_10 rfl rfl ?_
      refine um_iload_n (pc2 := 12) d_Ar_fill_AII_11 rfl rfl ?_
      refine um_iload_n (pc2 := 13) d_Ar_fill_AII_12 rfl rfl ?_
      refine um_iast (pc2 := 14) d_Ar_fill_AII_13 rfl rfl h.1 rfl (um_gen (fun σ1 eσ1 => ?_))
      replace h := h.2 σ1 eσ1
      refine um_iinc (pc2 := 17) (v := (v2 + 1)) (ls2 := [some (.ref 17), some (.int v1), some (.int (v2 + 1)), some (.int v3)]) d_Ar_fill_AII_14 rfl rfl rfl (Nat.le_of_ble_eq_true rfl) rfl ?_
      refine um_goto (tgt := 5) d_Ar_fill_AII_17 rfl ?_
      refine um_forget [true, true, true, true] rfl ?_
      exact ih _ _ _ _ h
set_option maxHeartbeats 4000000 in
set_option maxRecDepth 100000 in
theorem c_Ar_fill_AII_17 {a1 : Int32} {σ : um_S} {Q : um_S → Prop} (h : wp_Ar_fill_AII_17 a1 σ Q) : um_Con um_cl um_AW um_L um_SX 0 0 M_Ar_fill_AII [.ref 17, .int a1] σ (um_Qv Q) := by
  refine um_con (by decide) (Nat.le_of_ble_eq_true rfl) (fun v hv => by simp only [List.mem_cons, List.not_mem_nil, or_false] at hv; rcases hv with rfl | rfl <;> rfl) ?_
  show um_Ev um_cl um_AW um_L um_SX M_Ar_fill_AII 0 0 0 [some (.ref 17), some (.int a1), none, none] [] σ (um_Qv Q)
  unfold wp_Ar_fill_AII_17 at h
  refine um_iconst (pc2 := 1) (v := 0) d_Ar_fill_AII_0 rfl (by decide) ?_
  refine um_istore_n (pc2 := 2) (ls2 := [some (.ref 17), some (.int a1), some (.int 0), none]) d_Ar_fill_AII_1 rfl (Nat.le_of_ble_eq_true rfl) rfl ?_
  refine um_aload_n (pc2 := 3) d_Ar_fill_AII_2 rfl rfl ?_
  refine um_alen (pc2 := 4) d_Ar_fill_AII_3 rfl rfl ?_
  refine um_istore_n (pc2 := 5) (ls2 := [some (.ref 17), some (.int a1), some (.int 0), some (.int 8)]) d_Ar_fill_AII_4 rfl (Nat.le_of_ble_eq_true rfl) rfl ?_
  refine um_forget [true, true, true, true] rfl ?_
  exact b_Ar_fill_AII_17_5 _ _ _ _ _ h
def wp_Ar_fill_AII_19_5 (Q : um_S → Prop) : Nat → Int32 → Int32 → Int32 → um_S → Prop
  | 0, _, _, _, _ => False
  | n + 1, v1, v2, v3, σ =>
    (v3 ≤ v2 → Q σ) ∧ (¬ v3 ≤ v2 → vp_in v2 6 ∧ ∀ σ1 : um_S, σ1 = um_up σ 19 v2.toNatClampNeg v1 → wp_Ar_fill_AII_19_5 Q n v1 (v2 + 1) v3 σ1)
def wp_Ar_fill_AII_19 (a1 : Int32) (σ : um_S) (Q : um_S → Prop) : Prop :=
  wp_Ar_fill_AII_19_5 Q 100000 a1 0 6 σ
set_option maxHeartbeats 4000000 in
set_option maxRecDepth 100000 in
theorem b_Ar_fill_AII_19_5 {Q : um_S → Prop} (n : Nat) : ∀ (v1 : Int32) (v2 : Int32) (v3 : Int32) (σ : um_S), wp_Ar_fill_AII_19_5 Q n v1 v2 v3 σ → um_Ev um_cl um_AW um_L um_SX M_Ar_fill_AII 0 0 5 [some (.ref 19), some (.int v1), some (.int v2), some (.int v3)] [] σ (um_Qv Q) := by
  induction n with
  | zero =>
    intro v1 v2 v3 σ h
    exact h.elim
  | succ n ih =>
    intro v1 v2 v3 σ h
    unfold wp_Ar_fill_AII_19_5 at h
    refine um_iload_n (pc2 := 6) d_Ar_fill_AII_5 rfl rfl ?_
    refine um_iload_n (pc2 := 7) d_Ar_fill_AII_6 rfl rfl ?_
    refine um_icmp_ge (pc2 := 10) (tgt := 20) d_Ar_fill_AII_7 rfl rfl (fun z => ?_) (fun z => ?_)
    · replace h := h.1 z
      exact um_vret d_Ar_fill_AII_20 rfl ⟨rfl, h⟩
    · replace h := h.2 z
      refine um_aload_n (pc2 := 11) d_Ar_fill_AII_10 rfl rfl ?_
      refine um_iload_n (pc2 := 12) d_Ar_fill_AII_11 rfl rfl ?_
      refine um_iload_n (pc2 := 13) d_Ar_fill_AII_12 rfl rfl ?_
      refine um_iast (pc2 := 14) d_Ar_fill_AII_13 rfl rfl h.1 rfl (um_gen (fun σ1 eσ1 => ?_))
      replace h := h.2 σ1 eσ1
      refine um_iinc (pc2 := 17) (v := (v2 + 1)) (ls2 := [some (.ref 19), some (.int v1), some (.int (v2 + 1)), some (.int v3)]) d_Ar_fill_AII_14 rfl rfl rfl (Nat.le_of_ble_eq_true rfl) rfl ?_
      refine um_goto (tgt := 5) d_Ar_fill_AII_17 rfl ?_
      refine um_forget [true, true, true, true] rfl ?_
      exact ih _ _ _ _ h
set_option maxHeartbeats 4000000 in
set_option maxRecDepth 100000 in
theorem c_Ar_fill_AII_19 {a1 : Int32} {σ : um_S} {Q : um_S → Prop} (h : wp_Ar_fill_AII_19 a1 σ Q) : um_Con um_cl um_AW um_L um_SX 0 0 M_Ar_fill_AII [.ref 19, .int a1] σ (um_Qv Q) := by
  refine um_con (by decide) (Nat.le_of_ble_eq_true rfl) (fun v hv => by simp only [List.mem_cons, List.not_mem_nil, or_false] at hv; rcases hv with rfl | rfl <;> rfl) ?_
  show um_Ev um_cl um_AW um_L um_SX M_Ar_fill_AII 0 0 0 [some (.ref 19), some (.int a1), none, none] [] σ (um_Qv Q)
  unfold wp_Ar_fill_AII_19 at h
  refine um_iconst (pc2 := 1) (v := 0) d_Ar_fill_AII_0 rfl (by decide) ?_
  refine um_istore_n (pc2 := 2) (ls2 := [some (.ref 19), some (.int a1), some (.int 0), none]) d_Ar_fill_AII_1 rfl (Nat.le_of_ble_eq_true rfl) rfl ?_
  refine um_aload_n (pc2 := 3) d_Ar_fill_AII_2 rfl rfl ?_
  refine um_alen (pc2 := 4) d_Ar_fill_AII_3 rfl rfl ?_
  refine um_istore_n (pc2 := 5) (ls2 := [some (.ref 19), some (.int a1), some (.int 0), some (.int 6)]) d_Ar_fill_AII_4 rfl (Nat.le_of_ble_eq_true rfl) rfl ?_
  refine um_forget [true, true, true, true] rfl ?_
  exact b_Ar_fill_AII_19_5 _ _ _ _ _ h
def wp_Ma_start_81 (Q : Int32 → um_S → Prop) (σ : um_S) : Prop :=
  (¬ (σ 19 0) = 0 → Q (σ 19 0) σ) ∧ ((σ 19 0) = 0 → ∀ σ1 : um_S, σ1 = um_up σ 19 0 3 → Q (σ1 19 0) σ1)
def wp_Ma_start_45 (Q : Int32 → um_S → Prop) : Nat → Int32 → um_S → Prop
  | 0, _, _ => False
  | n + 1, v2, σ =>
    (3000 ≤ v2 → wp_Ma_start_81 Q σ) ∧ (¬ 3000 ≤ v2 → (¬ (σ 19 0) = 0 → wp_Ma_start_81 Q σ) ∧ ((σ 19 0) = 0 → ∀ σ1 : um_S, σ1 = um_up σ 19 2 ((σ 19 2) + 1) → wp_Ma_doStep σ1 (fun σ2 => wp_Ma_start_45 Q n (v2 + 1) σ2)))
def wp_Ma_start (a1 : Int32) (σ : um_S) (Q : Int32 → um_S → Prop) : Prop :=
  ∀ σ1 : um_S, σ1 = um_up σ 4 4 1 → wp_Ar_fill_AII_17 0 σ1 (fun σ2 => wp_Ar_fill_AII_19 0 σ2 (fun σ3 => ∀ σ4 : um_S, σ4 = um_up σ3 4 6 0 → ∀ σ5 : um_S, σ5 = um_up σ4 4 9 1 → ∀ σ6 : um_S, σ6 = um_up σ5 4 10 a1 → ∀ σ7 : um_S, σ7 = um_up σ6 19 5 1 → wp_Ma_start_45 Q 100000 0 σ7))
set_option maxHeartbeats 4000000 in
set_option maxRecDepth 100000 in
theorem b_Ma_start_81 {Q : Int32 → um_S → Prop} {σ : um_S} (h : wp_Ma_start_81 Q σ) : um_Ev um_cl um_AW um_L um_SX M_Ma_start 4 94 81 [some (.ref 4), none, none] [] σ (um_Qi Q) := by
  unfold wp_Ma_start_81 at h
  refine um_aload_n (pc2 := 82) d_Ma_start_81 rfl rfl ?_
  refine um_getR (pc2 := 85) d_Ma_start_82 rfl f_Ma_18 rfl rfl ?_
  refine um_iconst (pc2 := 86) (v := 0) d_Ma_start_85 rfl (by decide) ?_
  refine um_iald (pc2 := 87) (k := 0) d_Ma_start_86 rfl rfl (by unfold vp_in; decide) (by decide) ?_
  refine um_if_ne (pc2 := 90) (tgt := 97) d_Ma_start_87 rfl rfl (fun z => ?_) (fun z => ?_)
  · replace h := h.1 z
    refine um_aload_n (pc2 := 98) d_Ma_start_97 rfl rfl ?_
    refine um_getR (pc2 := 101) d_Ma_start_98 rfl f_Ma_18 rfl rfl ?_
    refine um_iconst (pc2 := 102) (v := 0) d_Ma_start_101 rfl (by decide) ?_
    refine um_iald (pc2 := 103) (k := 0) d_Ma_start_102 rfl rfl (by unfold vp_in; decide) (by decide) ?_
    exact um_iret d_Ma_start_103 rfl ⟨_, rfl, h⟩
  · replace h := h.2 z
    refine um_aload_n (pc2 := 91) d_Ma_start_90 rfl rfl ?_
    refine um_getR (pc2 := 94) d_Ma_start_91 rfl f_Ma_18 rfl rfl ?_
    refine um_iconst (pc2 := 95) (v := 0) d_Ma_start_94 rfl (by decide) ?_
    refine um_iconst (pc2 := 96) (v := 3) d_Ma_start_95 rfl (by decide) ?_
    refine um_iast (pc2 := 97) (k := 0) d_Ma_start_96 rfl rfl (by unfold vp_in; decide) (by decide) (um_gen (fun σ1 eσ1 => ?_))
    replace h := h σ1 eσ1
    refine um_aload_n (pc2 := 98) d_Ma_start_97 rfl rfl ?_
    refine um_getR (pc2 := 101) d_Ma_start_98 rfl f_Ma_18 rfl rfl ?_
    refine um_iconst (pc2 := 102) (v := 0) d_Ma_start_101 rfl (by decide) ?_
    refine um_iald (pc2 := 103) (k := 0) d_Ma_start_102 rfl rfl (by unfold vp_in; decide) (by decide) ?_
    exact um_iret d_Ma_start_103 rfl ⟨_, rfl, h⟩
set_option maxHeartbeats 4000000 in
set_option maxRecDepth 100000 in
theorem b_Ma_start_45 {Q : Int32 → um_S → Prop} (n : Nat) : ∀ (v2 : Int32) (σ : um_S), wp_Ma_start_45 Q n v2 σ → um_Ev um_cl um_AW um_L um_SX M_Ma_start 4 94 45 [some (.ref 4), none, some (.int v2)] [] σ (um_Qi Q) := by
  induction n with
  | zero =>
    intro v2 σ h
    exact h.elim
  | succ n ih =>
    intro v2 σ h
    unfold wp_Ma_start_45 at h
    refine um_iload_n (pc2 := 46) d_Ma_start_45 rfl rfl ?_
    refine um_sipush (pc2 := 49) (v := 3000) d_Ma_start_46 rfl (by decide) ?_
    refine um_icmp_ge (pc2 := 52) (tgt := 81) d_Ma_start_49 rfl rfl (fun z => ?_) (fun z => ?_)
    · replace h := h.1 z
      refine um_forget [true, false, false] rfl ?_
      exact b_Ma_start_81 h
    · replace h := h.2 z
      refine um_aload_n (pc2 := 53) d_Ma_start_52 rfl rfl ?_
      refine um_getR (pc2 := 56) d_Ma_start_53 rfl f_Ma_18 rfl rfl ?_
      refine um_iconst (pc2 := 57) (v := 0) d_Ma_start_56 rfl (by decide) ?_
      refine um_iald (pc2 := 58) (k := 0) d_Ma_start_57 rfl rfl (by unfold vp_in; decide) (by decide) ?_
      refine um_if_ne (pc2 := 61) (tgt := 81) d_Ma_start_58 rfl rfl (fun z => ?_) (fun z => ?_)
      · replace h := h.1 z
        refine um_forget [true, false, false] rfl ?_
        exact b_Ma_start_81 h
      · replace h := h.2 z
        refine um_aload_n (pc2 := 62) d_Ma_start_61 rfl rfl ?_
        refine um_getR (pc2 := 65) d_Ma_start_62 rfl f_Ma_18 rfl rfl ?_
        refine um_iconst (pc2 := 66) (v := 2) d_Ma_start_65 rfl (by decide) ?_
        refine um_dup2 (pc2 := 67) d_Ma_start_66 rfl rfl rfl ?_
        refine um_iald (pc2 := 68) (k := 2) d_Ma_start_67 rfl rfl (by unfold vp_in; decide) (by decide) ?_
        refine um_iconst (pc2 := 69) (v := 1) d_Ma_start_68 rfl (by decide) ?_
        refine um_iadd (pc2 := 70) d_Ma_start_69 rfl ?_
        refine um_iast (pc2 := 71) (k := 2) d_Ma_start_70 rfl rfl (by unfold vp_in; decide) (by decide) (um_gen (fun σ1 eσ1 => ?_))
        replace h := h σ1 eσ1
        refine um_aload_n (pc2 := 72) d_Ma_start_71 rfl rfl ?_
        refine um_callV0v (pc2 := 75) d_Ma_start_72 rfl g_Ma_54 rfl (Nat.le_of_ble_eq_true rfl) (Nat.le_of_ble_eq_true rfl) (Nat.le_of_ble_eq_true rfl) (c_Ma_doStep h) (fun σ2 h => ?_)
        refine um_iinc (pc2 := 78) (v := (v2 + 1)) (ls2 := [some (.ref 4), none, some (.int (v2 + 1))]) d_Ma_start_75 rfl rfl rfl (Nat.le_of_ble_eq_true rfl) rfl ?_
        refine um_goto (tgt := 45) d_Ma_start_78 rfl ?_
        refine um_forget [true, false, true] rfl ?_
        exact ih _ _ h
set_option maxHeartbeats 4000000 in
set_option maxRecDepth 100000 in
theorem c_Ma_start {a1 : Int32} {σ : um_S} {Q : Int32 → um_S → Prop} (h : wp_Ma_start a1 σ Q) : um_Con um_cl um_AW um_L um_SX 4 94 M_Ma_start [.ref 4, .int a1] σ (um_Qi Q) := by
  refine um_con (by decide) (Nat.le_of_ble_eq_true rfl) (fun v hv => by simp only [List.mem_cons, List.not_mem_nil, or_false] at hv; rcases hv with rfl | rfl <;> rfl) ?_
  show um_Ev um_cl um_AW um_L um_SX M_Ma_start 4 94 0 [some (.ref 4), some (.int a1), none] [] σ (um_Qi Q)
  unfold wp_Ma_start at h
  refine um_aload_n (pc2 := 1) d_Ma_start_0 rfl rfl ?_
  refine um_iconst (pc2 := 2) (v := 1) d_Ma_start_1 rfl (by decide) ?_
  refine um_putZ (pc2 := 5) d_Ma_start_2 rfl fw_Ma_34 rfl rfl (by decide) (um_gen (fun σ1 eσ1 => ?_))
  replace h := h σ1 eσ1
  refine um_aload_n (pc2 := 6) d_Ma_start_5 rfl rfl ?_
  refine um_getR (pc2 := 9) d_Ma_start_6 rfl f_Ma_9 rfl rfl ?_
  refine um_iconst (pc2 := 10) (v := 0) d_Ma_start_9 rfl (by decide) ?_
  refine um_callS2v (pc2 := 13) d_Ma_start_10 rfl g_Ma_38 (Nat.le_of_ble_eq_true rfl) (Nat.le_of_ble_eq_true rfl) (Nat.le_of_ble_eq_true rfl) (c_Ar_fill_AII_17 h) (fun σ2 h => ?_)
  refine um_aload_n (pc2 := 14) d_Ma_start_13 rfl rfl ?_
  refine um_getR (pc2 := 17) d_Ma_start_14 rfl f_Ma_18 rfl rfl ?_
  refine um_iconst (pc2 := 18) (v := 0) d_Ma_start_17 rfl (by decide) ?_
  refine um_callS2v (pc2 := 21) d_Ma_start_18 rfl g_Ma_38 (Nat.le_of_ble_eq_true rfl) (Nat.le_of_ble_eq_true rfl) (Nat.le_of_ble_eq_true rfl) (c_Ar_fill_AII_19 h) (fun σ3 h => ?_)
  refine um_aload_n (pc2 := 22) d_Ma_start_21 rfl rfl ?_
  refine um_iconst (pc2 := 23) (v := 0) d_Ma_start_22 rfl (by decide) ?_
  refine um_putI (pc2 := 26) d_Ma_start_23 rfl fw_Ma_44 rfl rfl (um_gen (fun σ4 eσ4 => ?_))
  replace h := h σ4 eσ4
  refine um_aload_n (pc2 := 27) d_Ma_start_26 rfl rfl ?_
  refine um_iconst (pc2 := 28) (v := 1) d_Ma_start_27 rfl (by decide) ?_
  refine um_putI (pc2 := 31) d_Ma_start_28 rfl fw_Ma_48 rfl rfl (um_gen (fun σ5 eσ5 => ?_))
  replace h := h σ5 eσ5
  refine um_aload_n (pc2 := 32) d_Ma_start_31 rfl rfl ?_
  refine um_iload_n (pc2 := 33) d_Ma_start_32 rfl rfl ?_
  refine um_putI (pc2 := 36) d_Ma_start_33 rfl fw_Ma_51 rfl rfl (um_gen (fun σ6 eσ6 => ?_))
  replace h := h σ6 eσ6
  refine um_aload_n (pc2 := 37) d_Ma_start_36 rfl rfl ?_
  refine um_getR (pc2 := 40) d_Ma_start_37 rfl f_Ma_18 rfl rfl ?_
  refine um_iconst (pc2 := 41) (v := 5) d_Ma_start_40 rfl (by decide) ?_
  refine um_iconst (pc2 := 42) (v := 1) d_Ma_start_41 rfl (by decide) ?_
  refine um_iast (pc2 := 43) (k := 5) d_Ma_start_42 rfl rfl (by unfold vp_in; decide) (by decide) (um_gen (fun σ7 eσ7 => ?_))
  replace h := h σ7 eσ7
  refine um_iconst (pc2 := 44) (v := 0) d_Ma_start_43 rfl (by decide) ?_
  refine um_istore_n (pc2 := 45) (ls2 := [some (.ref 4), some (.int a1), some (.int 0)]) d_Ma_start_44 rfl (Nat.le_of_ble_eq_true rfl) rfl ?_
  refine um_forget [true, false, true] rfl ?_
  exact b_Ma_start_45 _ _ _ h
