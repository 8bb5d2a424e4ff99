def wp_Mo_item (a1 : Int32) (σ : um_S) (Q : um_S → Prop) : Prop :=
  vp_in a1 2002 ∧ vp_in (σ 38 23) 2001 ∧ ∀ σ1 : um_S, σ1 = um_up σ 55 (σ 38 23).toNatClampNeg (σ 63 a1.toNatClampNeg) → vp_in a1 2002 ∧ vp_in (σ1 38 23) 2001 ∧ ∀ σ2 : um_S, σ2 = um_up σ1 56 (σ1 38 23).toNatClampNeg (σ1 64 a1.toNatClampNeg) → vp_in a1 2002 ∧ vp_in (σ2 38 23) 2001 ∧ ∀ σ3 : um_S, σ3 = um_up σ2 57 (σ2 38 23).toNatClampNeg (σ2 65 a1.toNatClampNeg) → vp_in a1 2002 ∧ vp_in (σ3 38 23) 2001 ∧ ∀ σ4 : um_S, σ4 = um_up σ3 58 (σ3 38 23).toNatClampNeg (σ3 66 a1.toNatClampNeg) → vp_in (σ4 38 23) 2001 ∧ ∀ σ5 : um_S, σ5 = um_up σ4 59 (σ4 38 23).toNatClampNeg (-1) → vp_in a1 2002 ∧ ∀ σ6 : um_S, σ6 = um_up σ5 68 a1.toNatClampNeg (σ5 38 23) → ∀ σ7 : um_S, σ7 = um_up σ6 38 23 ((σ6 38 23) + 1) → Q σ7
set_option maxHeartbeats 4000000 in
set_option maxRecDepth 100000 in
theorem c_Mo_item {a1 : Int32} {σ : um_S} {Q : um_S → Prop} (h : wp_Mo_item a1 σ Q) : um_Con um_cl um_AW um_L um_SX 0 0 M_Mo_item [.ref 38, .int a1] σ (um_Qv Q) := by
  refine um_con (by decide) (Nat.le_of_ble_eq_true rfl) (fun v hv => by simp only [List.mem_cons, List.not_mem_nil, or_false] at hv; rcases hv with rfl | rfl <;> rfl) ?_
  show um_Ev um_cl um_AW um_L um_SX M_Mo_item 0 0 0 [some (.ref 38), some (.int a1)] [] σ (um_Qv Q)
  unfold wp_Mo_item at h
  refine um_aload_n (pc2 := 1) d_Mo_item_0 rfl rfl ?_
  refine um_getR (pc2 := 4) d_Mo_item_1 rfl f_Mo_58 rfl rfl ?_
  refine um_aload_n (pc2 := 5) d_Mo_item_4 rfl rfl ?_
  refine um_getI (pc2 := 8) d_Mo_item_5 rfl f_Mo_180 rfl rfl ?_
  refine um_aload_n (pc2 := 9) d_Mo_item_8 rfl rfl ?_
  refine um_getR (pc2 := 12) d_Mo_item_9 rfl f_Mo_82 rfl rfl ?_
  refine um_iload_n (pc2 := 13) d_Mo_item_12 rfl rfl ?_
  refine um_iald (pc2 := 14) d_Mo_item_13 rfl rfl h.1 rfl ?_
  replace h := h.2
  refine um_iast (pc2 := 15) d_Mo_item_14 rfl rfl h.1 rfl (um_gen (fun σ1 eσ1 => ?_))
  replace h := h.2 σ1 eσ1
  refine um_aload_n (pc2 := 16) d_Mo_item_15 rfl rfl ?_
  refine um_getR (pc2 := 19) d_Mo_item_16 rfl f_Mo_61 rfl rfl ?_
  refine um_aload_n (pc2 := 20) d_Mo_item_19 rfl rfl ?_
  refine um_getI (pc2 := 23) d_Mo_item_20 rfl f_Mo_180 rfl rfl ?_
  refine um_aload_n (pc2 := 24) d_Mo_item_23 rfl rfl ?_
  refine um_getR (pc2 := 27) d_Mo_item_24 rfl f_Mo_85 rfl rfl ?_
  refine um_iload_n (pc2 := 28) d_Mo_item_27 rfl rfl ?_
  refine um_iald (pc2 := 29) d_Mo_item_28 rfl rfl h.1 rfl ?_
  replace h := h.2
  refine um_iast (pc2 := 30) d_Mo_item_29 rfl rfl h.1 rfl (um_gen (fun σ2 eσ2 => ?_))
  replace h := h.2 σ2 eσ2
  refine um_aload_n (pc2 := 31) d_Mo_item_30 rfl rfl ?_
  refine um_getR (pc2 := 34) d_Mo_item_31 rfl f_Mo_64 rfl rfl ?_
  refine um_aload_n (pc2 := 35) d_Mo_item_34 rfl rfl ?_
  refine um_getI (pc2 := 38) d_Mo_item_35 rfl f_Mo_180 rfl rfl ?_
  refine um_aload_n (pc2 := 39) d_Mo_item_38 rfl rfl ?_
  refine um_getR (pc2 := 42) d_Mo_item_39 rfl f_Mo_88 rfl rfl ?_
  refine um_iload_n (pc2 := 43) d_Mo_item_42 rfl rfl ?_
  refine um_iald (pc2 := 44) d_Mo_item_43 rfl rfl h.1 rfl ?_
  replace h := h.2
  refine um_iast (pc2 := 45) d_Mo_item_44 rfl rfl h.1 rfl (um_gen (fun σ3 eσ3 => ?_))
  replace h := h.2 σ3 eσ3
  refine um_aload_n (pc2 := 46) d_Mo_item_45 rfl rfl ?_
  refine um_getR (pc2 := 49) d_Mo_item_46 rfl f_Mo_67 rfl rfl ?_
  refine um_aload_n (pc2 := 50) d_Mo_item_49 rfl rfl ?_
  refine um_getI (pc2 := 53) d_Mo_item_50 rfl f_Mo_180 rfl rfl ?_
  refine um_aload_n (pc2 := 54) d_Mo_item_53 rfl rfl ?_
  refine um_getR (pc2 := 57) d_Mo_item_54 rfl f_Mo_91 rfl rfl ?_
  refine um_iload_n (pc2 := 58) d_Mo_item_57 rfl rfl ?_
  refine um_iald (pc2 := 59) d_Mo_item_58 rfl rfl h.1 rfl ?_
  replace h := h.2
  refine um_iast (pc2 := 60) d_Mo_item_59 rfl rfl h.1 rfl (um_gen (fun σ4 eσ4 => ?_))
  replace h := h.2 σ4 eσ4
  refine um_aload_n (pc2 := 61) d_Mo_item_60 rfl rfl ?_
  refine um_getR (pc2 := 64) d_Mo_item_61 rfl f_Mo_70 rfl rfl ?_
  refine um_aload_n (pc2 := 65) d_Mo_item_64 rfl rfl ?_
  refine um_getI (pc2 := 68) d_Mo_item_65 rfl f_Mo_180 rfl rfl ?_
  refine um_iconst (pc2 := 69) (v := (-1)) d_Mo_item_68 rfl (by decide) ?_
  refine um_iast (pc2 := 70) d_Mo_item_69 rfl rfl h.1 rfl (um_gen (fun σ5 eσ5 => ?_))
  replace h := h.2 σ5 eσ5
  refine um_aload_n (pc2 := 71) d_Mo_item_70 rfl rfl ?_
  refine um_getR (pc2 := 74) d_Mo_item_71 rfl f_Mo_97 rfl rfl ?_
  refine um_iload_n (pc2 := 75) d_Mo_item_74 rfl rfl ?_
  refine um_aload_n (pc2 := 76) d_Mo_item_75 rfl rfl ?_
  refine um_getI (pc2 := 79) d_Mo_item_76 rfl f_Mo_180 rfl rfl ?_
  refine um_iast (pc2 := 80) d_Mo_item_79 rfl rfl h.1 rfl (um_gen (fun σ6 eσ6 => ?_))
  replace h := h.2 σ6 eσ6
  refine um_aload_n (pc2 := 81) d_Mo_item_80 rfl rfl ?_
  refine um_dup (pc2 := 82) d_Mo_item_81 rfl rfl ?_
  refine um_getI (pc2 := 85) d_Mo_item_82 rfl f_Mo_180 rfl rfl ?_
  refine um_iconst (pc2 := 86) (v := 1) d_Mo_item_85 rfl (by decide) ?_
  refine um_iadd (pc2 := 87) d_Mo_item_86 rfl ?_
  refine um_putI (pc2 := 90) d_Mo_item_87 rfl fw_Mo_180 rfl rfl (um_gen (fun σ7 eσ7 => ?_))
  replace h := h σ7 eσ7
  exact um_vret d_Mo_item_90 rfl ⟨rfl, h⟩
def wp_Mo_ends_12 (Q : um_S → Prop) : Nat → Int32 → Int32 → um_S → Prop
  | 0, _, _, _ => False
  | n + 1, v1, v2, σ =>
    ((σ 38 10) ≤ v2 → Q σ) ∧ (¬ (σ 38 10) ≤ v2 → vp_in v2 1000 ∧ ((σ 46 v2.toNatClampNeg) = 10 → vp_in v2 1000 ∧ (¬ (σ 47 v2.toNatClampNeg) = ((-1) - v1) → vp_in v2 1000 ∧ vp_in v2 1000 ∧ ∀ σ1 : um_S, σ1 = um_up σ 47 v2.toNatClampNeg (σ 47 v2.toNatClampNeg) → wp_Mo_ends_12 Q n v1 (v2 + 1) σ1) ∧ ((σ 47 v2.toNatClampNeg) = ((-1) - v1) → vp_in v2 1000 ∧ ∀ σ2 : um_S, σ2 = um_up σ 47 v2.toNatClampNeg (σ 38 10) → wp_Mo_ends_12 Q n v1 (v2 + 1) σ2)) ∧ (¬ (σ 46 v2.toNatClampNeg) = 10 → vp_in v2 1000 ∧ (¬ (σ 46 v2.toNatClampNeg) = 11 → vp_in v2 1000 ∧ vp_in v2 1000 ∧ ∀ σ3 : um_S, σ3 = um_up σ 47 v2.toNatClampNeg (σ 47 v2.toNatClampNeg) → wp_Mo_ends_12 Q n v1 (v2 + 1) σ3) ∧ ((σ 46 v2.toNatClampNeg) = 11 → vp_in v2 1000 ∧ (¬ (σ 47 v2.toNatClampNeg) = ((-1) - v1) → vp_in v2 1000 ∧ vp_in v2 1000 ∧ ∀ σ4 : um_S, σ4 = um_up σ 47 v2.toNatClampNeg (σ 47 v2.toNatClampNeg) → wp_Mo_ends_12 Q n v1 (v2 + 1) σ4) ∧ ((σ 47 v2.toNatClampNeg) = ((-1) - v1) → vp_in v2 1000 ∧ ∀ σ5 : um_S, σ5 = um_up σ 47 v2.toNatClampNeg (σ 38 10) → wp_Mo_ends_12 Q n v1 (v2 + 1) σ5))))
def wp_Mo_ends (a1 : Int32) (σ : um_S) (Q : um_S → Prop) : Prop :=
  vp_in a1 2001 ∧ ∀ σ1 : um_S, σ1 = um_up σ 59 a1.toNatClampNeg (σ 38 10) → wp_Mo_ends_12 Q 100000 a1 0 σ1
set_option maxHeartbeats 4000000 in
set_option maxRecDepth 100000 in
theorem b_Mo_ends_12 {Q : um_S → Prop} (n : Nat) : ∀ (v1 : Int32) (v2 : Int32) (σ : um_S), wp_Mo_ends_12 Q n v1 v2 σ → um_Ev um_cl um_AW um_L um_SX M_Mo_ends 0 0 12 [some (.ref 38), some (.int v1), some (.int v2)] [] σ (um_Qv Q) := by
  induction n with
  | zero =>
    intro v1 v2 σ h
    exact h.elim
  | succ n ih =>
    intro v1 v2 σ h
    unfold wp_Mo_ends_12 at h
    refine um_iload_n (pc2 := 13) d_Mo_ends_12 rfl rfl ?_
    refine um_aload_n (pc2 := 14) d_Mo_ends_13 rfl rfl ?_
    refine um_getI (pc2 := 17) d_Mo_ends_14 rfl f_Mo_164 rfl rfl ?_
    refine um_icmp_ge (pc2 := 20) (tgt := 79) d_Mo_ends_17 rfl rfl (fun z => ?_) (fun z => ?_)
    · replace h := h.1 z
      exact um_vret d_Mo_ends_79 rfl ⟨rfl, h⟩
    · replace h := h.2 z
      refine um_aload_n (pc2 := 21) d_Mo_ends_20 rfl rfl ?_
      refine um_getR (pc2 := 24) d_Mo_ends_21 rfl f_Mo_34 rfl rfl ?_
      refine um_iload_n (pc2 := 25) d_Mo_ends_24 rfl rfl ?_
      refine um_aload_n (pc2 := 26) d_Mo_ends_25 rfl rfl ?_
      refine um_getR (pc2 := 29) d_Mo_ends_26 rfl f_Mo_31 rfl rfl ?_
      refine um_iload_n (pc2 := 30) d_Mo_ends_29 rfl rfl ?_
      refine um_iald (pc2 := 31) d_Mo_ends_30 rfl rfl h.1 rfl ?_
      replace h := h.2
      refine um_bipush (pc2 := 33) (v := 10) d_Mo_ends_31 rfl (by decide) ?_
      refine um_icmp_eq (pc2 := 36) (tgt := 47) d_Mo_ends_33 rfl rfl (fun z => ?_) (fun z => ?_)
      · replace h := h.1 z
        refine um_aload_n (pc2 := 48) d_Mo_ends_47 rfl rfl ?_
        refine um_getR (pc2 := 51) d_Mo_ends_48 rfl f_Mo_34 rfl rfl ?_
        refine um_iload_n (pc2 := 52) d_Mo_ends_51 rfl rfl ?_
        refine um_iald (pc2 := 53) d_Mo_ends_52 rfl rfl h.1 rfl ?_
        replace h := h.2
        refine um_iconst (pc2 := 54) (v := (-1)) d_Mo_ends_53 rfl (by decide) ?_
        refine um_iload_n (pc2 := 55) d_Mo_ends_54 rfl rfl ?_
        refine um_isub (pc2 := 56) d_Mo_ends_55 rfl ?_
        refine um_icmp_ne (pc2 := 59) (tgt := 66) d_Mo_ends_56 rfl rfl (fun z => ?_) (fun z => ?_)
        · replace h := h.1 z
          refine um_aload_n (pc2 := 67) d_Mo_ends_66 rfl rfl ?_
          refine um_getR (pc2 := 70) d_Mo_ends_67 rfl f_Mo_34 rfl rfl ?_
          refine um_iload_n (pc2 := 71) d_Mo_ends_70 rfl rfl ?_
          refine um_iald (pc2 := 72) d_Mo_ends_71 rfl rfl h.1 rfl ?_
          replace h := h.2
          refine um_iast (pc2 := 73) d_Mo_ends_72 rfl rfl h.1 rfl (um_gen (fun σ1 eσ1 => ?_))
          replace h := h.2 σ1 eσ1
          refine um_iinc (pc2 := 76) (v := (v2 + 1)) (ls2 := [some (.ref 38), some (.int v1), some (.int (v2 + 1))]) d_Mo_ends_73 rfl rfl rfl (Nat.le_of_ble_eq_true rfl) rfl ?_
          refine um_goto (tgt := 12) d_Mo_ends_76 rfl ?_
          refine um_forget [true, true, true] rfl ?_
          exact ih _ _ _ h
        · replace h := h.2 z
          refine um_aload_n (pc2 := 60) d_Mo_ends_59 rfl rfl ?_
          refine um_getI (pc2 := 63) d_Mo_ends_60 rfl f_Mo_164 rfl rfl ?_
          refine um_goto (tgt := 72) d_Mo_ends_63 rfl ?_
          refine um_iast (pc2 := 73) d_Mo_ends_72 rfl rfl h.1 rfl (um_gen (fun σ2 eσ2 => ?_))
          replace h := h.2 σ2 eσ2
          refine um_iinc (pc2 := 76) (v := (v2 + 1)) (ls2 := [some (.ref 38), some (.int v1), some (.int (v2 + 1))]) d_Mo_ends_73 rfl rfl rfl (Nat.le_of_ble_eq_true rfl) rfl ?_
          refine um_goto (tgt := 12) d_Mo_ends_76 rfl ?_
          refine um_forget [true, true, true] rfl ?_
          exact ih _ _ _ h
      · replace h := h.2 z
        refine um_aload_n (pc2 := 37) d_Mo_ends_36 rfl rfl ?_
        refine um_getR (pc2 := 40) d_Mo_ends_37 rfl f_Mo_31 rfl rfl ?_
        refine um_iload_n (pc2 := 41) d_Mo_ends_40 rfl rfl ?_
        refine um_iald (pc2 := 42) d_Mo_ends_41 rfl rfl h.1 rfl ?_
        replace h := h.2
        refine um_bipush (pc2 := 44) (v := 11) d_Mo_ends_42 rfl (by decide) ?_
        refine um_icmp_ne (pc2 := 47) (tgt := 66) d_Mo_ends_44 rfl rfl (fun z => ?_) (fun z => ?_)
        · replace h := h.1 z
          refine um_aload_n (pc2 := 67) d_Mo_ends_66 rfl rfl ?_
          refine um_getR (pc2 := 70) d_Mo_ends_67 rfl f_Mo_34 rfl rfl ?_
          refine um_iload_n (pc2 := 71) d_Mo_ends_70 rfl rfl ?_
          refine um_iald (pc2 := 72) d_Mo_ends_71 rfl rfl h.1 rfl ?_
          replace h := h.2
          refine um_iast (pc2 := 73) d_Mo_ends_72 rfl rfl h.1 rfl (um_gen (fun σ3 eσ3 => ?_))
          replace h := h.2 σ3 eσ3
          refine um_iinc (pc2 := 76) (v := (v2 + 1)) (ls2 := [some (.ref 38), some (.int v1), some (.int (v2 + 1))]) d_Mo_ends_73 rfl rfl rfl (Nat.le_of_ble_eq_true rfl) rfl ?_
          refine um_goto (tgt := 12) d_Mo_ends_76 rfl ?_
          refine um_forget [true, true, true] rfl ?_
          exact ih _ _ _ h
        · replace h := h.2 z
          refine um_aload_n (pc2 := 48) d_Mo_ends_47 rfl rfl ?_
          refine um_getR (pc2 := 51) d_Mo_ends_48 rfl f_Mo_34 rfl rfl ?_
          refine um_iload_n (pc2 := 52) d_Mo_ends_51 rfl rfl ?_
          refine um_iald (pc2 := 53) d_Mo_ends_52 rfl rfl h.1 rfl ?_
          replace h := h.2
          refine um_iconst (pc2 := 54) (v := (-1)) d_Mo_ends_53 rfl (by decide) ?_
          refine um_iload_n (pc2 := 55) d_Mo_ends_54 rfl rfl ?_
          refine um_isub (pc2 := 56) d_Mo_ends_55 rfl ?_
          refine um_icmp_ne (pc2 := 59) (tgt := 66) d_Mo_ends_56 rfl rfl (fun z => ?_) (fun z => ?_)
          · replace h := h.1 z
            refine um_aload_n (pc2 := 67) d_Mo_ends_66 rfl rfl ?_
            refine um_getR (pc2 := 70) d_Mo_ends_67 rfl f_Mo_34 rfl rfl ?_
            refine um_iload_n (pc2 := 71) d_Mo_ends_70 rfl rfl ?_
            refine um_iald (pc2 := 72) d_Mo_ends_71 rfl rfl h.1 rfl ?_
            replace h := h.2
            refine um_iast (pc2 := 73) d_Mo_ends_72 rfl rfl h.1 rfl (um_gen (fun σ4 eσ4 => ?_))
            replace h := h.2 σ4 eσ4
            refine um_iinc (pc2 := 76) (v := (v2 + 1)) (ls2 := [some (.ref 38), some (.int v1), some (.int (v2 + 1))]) d_Mo_ends_73 rfl rfl rfl (Nat.le_of_ble_eq_true rfl) rfl ?_
            refine um_goto (tgt := 12) d_Mo_ends_76 rfl ?_
            refine um_forget [true, true, true] rfl ?_
            exact ih _ _ _ h
          · replace h := h.2 z
            refine um_aload_n (pc2 := 60) d_Mo_ends_59 rfl rfl ?_
            refine um_getI (pc2 := 63) d_Mo_ends_60 rfl f_Mo_164 rfl rfl ?_
            refine um_goto (tgt := 72) d_Mo_ends_63 rfl ?_
            refine um_iast (pc2 := 73) d_Mo_ends_72 rfl rfl h.1 rfl (um_gen (fun σ5 eσ5 => ?_))
            replace h := h.2 σ5 eσ5
            refine um_iinc (pc2 := 76) (v := (v2 + 1)) (ls2 := [some (.ref 38), some (.int v1), some (.int (v2 + 1))]) d_Mo_ends_73 rfl rfl rfl (Nat.le_of_ble_eq_true rfl) rfl ?_
            refine um_goto (tgt := 12) d_Mo_ends_76 rfl ?_
            refine um_forget [true, true, true] rfl ?_
            exact ih _ _ _ h
set_option maxHeartbeats 4000000 in
set_option maxRecDepth 100000 in
theorem c_Mo_ends {a1 : Int32} {σ : um_S} {Q : um_S → Prop} (h : wp_Mo_ends a1 σ Q) : um_Con um_cl um_AW um_L um_SX 0 0 M_Mo_ends [.ref 38, .int a1] σ (um_Qv Q) := by
  refine um_con (by decide) (Nat.le_of_ble_eq_true rfl) (fun v hv => by simp only [List.mem_cons, List.not_mem_nil, or_false] at hv; rcases hv with rfl | rfl <;> rfl) ?_
  show um_Ev um_cl um_AW um_L um_SX M_Mo_ends 0 0 0 [some (.ref 38), some (.int a1), none] [] σ (um_Qv Q)
  unfold wp_Mo_ends at h
  refine um_aload_n (pc2 := 1) d_Mo_ends_0 rfl rfl ?_
  refine um_getR (pc2 := 4) d_Mo_ends_1 rfl f_Mo_70 rfl rfl ?_
  refine um_iload_n (pc2 := 5) d_Mo_ends_4 rfl rfl ?_
  refine um_aload_n (pc2 := 6) d_Mo_ends_5 rfl rfl ?_
  refine um_getI (pc2 := 9) d_Mo_ends_6 rfl f_Mo_164 rfl rfl ?_
  refine um_iast (pc2 := 10) d_Mo_ends_9 rfl rfl h.1 rfl (um_gen (fun σ1 eσ1 => ?_))
  replace h := h.2 σ1 eσ1
  refine um_iconst (pc2 := 11) (v := 0) d_Mo_ends_10 rfl (by decide) ?_
  refine um_istore_n (pc2 := 12) (ls2 := [some (.ref 38), some (.int a1), some (.int 0)]) d_Mo_ends_11 rfl (Nat.le_of_ble_eq_true rfl) rfl ?_
  refine um_forget [true, true, true] rfl ?_
  exact b_Mo_ends_12 _ _ _ _ h
def wp_Mo_repeats (a1 : Int32) (a2 : Int32) (σ : um_S) (Q : um_S → Prop) : Prop :=
  vp_in a1 2002 ∧ ∀ x1 : Int32, x1 = (σ 67 a1.toNatClampNeg) → (x1 = 1 → wp_Mo_item a1 σ (fun σ2 => vp_in a1 2002 ∧ ∀ σ3 : um_S, σ3 = um_up σ2 69 a1.toNatClampNeg (σ2 38 10) → vp_in a2 150 ∧ wp_Mo_part a1 (σ3 40 a2.toNatClampNeg) σ3 (fun σ4 => Q σ4))) ∧ (¬ x1 = 1 → (x1 = 2 → vp_in a1 2002 ∧ vp_in a1 2002 ∧ wp_Mo_put 10 ((-1) - (σ 68 a1.toNatClampNeg)) (σ 64 a1.toNatClampNeg) σ (fun σ5 => vp_in a2 150 ∧ vp_in a1 2002 ∧ vp_in a1 2002 ∧ vp_in a1 2002 ∧ wp_Mo_begin (σ5 41 a2.toNatClampNeg) (2 * (σ5 68 a1.toNatClampNeg)) (σ5 65 a1.toNatClampNeg) (σ5 66 a1.toNatClampNeg) σ5 (fun σ6 => Q σ6))) ∧ (¬ x1 = 2 → vp_in a1 2002 ∧ vp_in a1 2002 ∧ wp_Mo_put 11 (σ 69 a1.toNatClampNeg) (σ 64 a1.toNatClampNeg) σ (fun σ7 => vp_in a1 2002 ∧ wp_Mo_ends (σ7 68 a1.toNatClampNeg) σ7 (fun σ8 => ∀ σ9 : um_S, σ9 = um_up σ8 38 37 ((σ8 38 37) - 1) → Q σ9))))
set_option maxHeartbeats 4000000 in
set_option maxRecDepth 100000 in
theorem c_Mo_repeats {a1 : Int32} {a2 : Int32} {σ : um_S} {Q : um_S → Prop} (h : wp_Mo_repeats a1 a2 σ Q) : um_Con um_cl um_AW um_L um_SX 2 46 M_Mo_repeats [.ref 38, .int a1, .int a2] σ (um_Qv Q) := by
  refine um_con (by decide) (Nat.le_of_ble_eq_true rfl) (fun v hv => by simp only [List.mem_cons, List.not_mem_nil, or_false] at hv; rcases hv with rfl | rfl | rfl <;> rfl) ?_
  show um_Ev um_cl um_AW um_L um_SX M_Mo_repeats 2 46 0 [some (.ref 38), some (.int a1), some (.int a2)] [] σ (um_Qv Q)
  unfold wp_Mo_repeats at h
  refine um_aload_n (pc2 := 1) d_Mo_repeats_0 rfl rfl ?_
  refine um_getR (pc2 := 4) d_Mo_repeats_1 rfl f_Mo_94 rfl rfl ?_
  refine um_iload_n (pc2 := 5) d_Mo_repeats_4 rfl rfl ?_
  refine um_iald (pc2 := 6) d_Mo_repeats_5 rfl rfl h.1 rfl ?_
  replace h := h.2
  refine um_top (fun x1 ex1 => ?_)
  replace h := h x1 ex1
  by_cases z1 : x1 = 1
  · replace h := h.1 z1
    refine um_lookup (tgt := 32) (off := 26) d_Mo_repeats_6 (by decide) (by rw [z1]; decide) rfl ?_
    refine um_aload_n (pc2 := 33) d_Mo_repeats_32 rfl rfl ?_
    refine um_iload_n (pc2 := 34) d_Mo_repeats_33 rfl rfl ?_
    refine um_callV1v (pc2 := 37) d_Mo_repeats_34 rfl g_Mo_213 rfl (Nat.le_of_ble_eq_true rfl) (Nat.le_of_ble_eq_true rfl) (Nat.le_of_ble_eq_true rfl) (c_Mo_item h) (fun σ2 h => ?_)
    refine um_aload_n (pc2 := 38) d_Mo_repeats_37 rfl rfl ?_
    refine um_getR (pc2 := 41) d_Mo_repeats_38 rfl f_Mo_100 rfl rfl ?_
    refine um_iload_n (pc2 := 42) d_Mo_repeats_41 rfl rfl ?_
    refine um_aload_n (pc2 := 43) d_Mo_repeats_42 rfl rfl ?_
    refine um_getI (pc2 := 46) d_Mo_repeats_43 rfl f_Mo_164 rfl rfl ?_
    refine um_iast (pc2 := 47) d_Mo_repeats_46 rfl rfl h.1 rfl (um_gen (fun σ3 eσ3 => ?_))
    replace h := h.2 σ3 eσ3
    refine um_aload_n (pc2 := 48) d_Mo_repeats_47 rfl rfl ?_
    refine um_iload_n (pc2 := 49) d_Mo_repeats_48 rfl rfl ?_
    refine um_aload_n (pc2 := 50) d_Mo_repeats_49 rfl rfl ?_
    refine um_getR (pc2 := 53) d_Mo_repeats_50 rfl f_Mo_13 rfl rfl ?_
    refine um_iload_n (pc2 := 54) d_Mo_repeats_53 rfl rfl ?_
    refine um_iald (pc2 := 55) d_Mo_repeats_54 rfl rfl h.1 rfl ?_
    replace h := h.2
    refine um_callV2v (pc2 := 58) d_Mo_repeats_55 rfl g_Mo_204 rfl (Nat.le_of_ble_eq_true rfl) (Nat.le_of_ble_eq_true rfl) (Nat.le_of_ble_eq_true rfl) (c_Mo_part h) (fun σ4 h => ?_)
    refine um_goto (tgt := 152) d_Mo_repeats_58 rfl ?_
    exact um_vret d_Mo_repeats_152 rfl ⟨rfl, h⟩
  replace h := h.2 z1
  by_cases z2 : x1 = 2
  · replace h := h.1 z2
    refine um_lookup (tgt := 61) (off := 55) d_Mo_repeats_6 (by decide) (by rw [z2]; decide) rfl ?_
    refine um_aload_n (pc2 := 62) d_Mo_repeats_61 rfl rfl ?_
    refine um_bipush (pc2 := 64) (v := 10) d_Mo_repeats_62 rfl (by decide) ?_
    refine um_iconst (pc2 := 65) (v := (-1)) d_Mo_repeats_64 rfl (by decide) ?_
    refine um_aload_n (pc2 := 66) d_Mo_repeats_65 rfl rfl ?_
    refine um_getR (pc2 := 69) d_Mo_repeats_66 rfl f_Mo_97 rfl rfl ?_
    refine um_iload_n (pc2 := 70) d_Mo_repeats_69 rfl rfl ?_
    refine um_iald (pc2 := 71) d_Mo_repeats_70 rfl rfl h.1 rfl ?_
    replace h := h.2
    refine um_isub (pc2 := 72) d_Mo_repeats_71 rfl ?_
    refine um_aload_n (pc2 := 73) d_Mo_repeats_72 rfl rfl ?_
    refine um_getR (pc2 := 76) d_Mo_repeats_73 rfl f_Mo_85 rfl rfl ?_
    refine um_iload_n (pc2 := 77) d_Mo_repeats_76 rfl rfl ?_
    refine um_iald (pc2 := 78) d_Mo_repeats_77 rfl rfl h.1 rfl ?_
    replace h := h.2
    refine um_callV3v (pc2 := 81) d_Mo_repeats_78 rfl g_Mo_200 rfl (Nat.le_of_ble_eq_true rfl) (Nat.le_of_ble_eq_true rfl) (Nat.le_of_ble_eq_true rfl) (c_Mo_put h) (fun σ5 h => ?_)
    refine um_aload_n (pc2 := 82) d_Mo_repeats_81 rfl rfl ?_
    refine um_aload_n (pc2 := 83) d_Mo_repeats_82 rfl rfl ?_
    refine um_getR (pc2 := 86) d_Mo_repeats_83 rfl f_Mo_16 rfl rfl ?_
    refine um_iload_n (pc2 := 87) d_Mo_repeats_86 rfl rfl ?_
    refine um_iald (pc2 := 88) d_Mo_repeats_87 rfl rfl h.1 rfl ?_
    replace h := h.2
    refine um_iconst (pc2 := 89) (v := 2) d_Mo_repeats_88 rfl (by decide) ?_
    refine um_aload_n (pc2 := 90) d_Mo_repeats_89 rfl rfl ?_
    refine um_getR (pc2 := 93) d_Mo_repeats_90 rfl f_Mo_97 rfl rfl ?_
    refine um_iload_n (pc2 := 94) d_Mo_repeats_93 rfl rfl ?_
    refine um_iald (pc2 := 95) d_Mo_repeats_94 rfl rfl h.1 rfl ?_
    replace h := h.2
    refine um_imul (pc2 := 96) d_Mo_repeats_95 rfl ?_
    refine um_aload_n (pc2 := 97) d_Mo_repeats_96 rfl rfl ?_
    refine um_getR (pc2 := 100) d_Mo_repeats_97 rfl f_Mo_88 rfl rfl ?_
    refine um_iload_n (pc2 := 101) d_Mo_repeats_100 rfl rfl ?_
    refine um_iald (pc2 := 102) d_Mo_repeats_101 rfl rfl h.1 rfl ?_
    replace h := h.2
    refine um_aload_n (pc2 := 103) d_Mo_repeats_102 rfl rfl ?_
    refine um_getR (pc2 := 106) d_Mo_repeats_103 rfl f_Mo_91 rfl rfl ?_
    refine um_iload_n (pc2 := 107) d_Mo_repeats_106 rfl rfl ?_
    refine um_iald (pc2 := 108) d_Mo_repeats_107 rfl rfl h.1 rfl ?_
    replace h := h.2
    refine um_callV4v (pc2 := 111) d_Mo_repeats_108 rfl g_Mo_176 rfl (Nat.le_of_ble_eq_true rfl) (Nat.le_of_ble_eq_true rfl) (Nat.le_of_ble_eq_true rfl) (c_Mo_begin h) (fun σ6 h => ?_)
    refine um_goto (tgt := 152) d_Mo_repeats_111 rfl ?_
    exact um_vret d_Mo_repeats_152 rfl ⟨rfl, h⟩
  replace h := h.2 z2
  refine um_lookup (tgt := 114) (off := 108) d_Mo_repeats_6 (by decide) ((lv_osw z1 rfl).trans ((lv_osw z2 rfl).trans (rfl))) rfl ?_
  refine um_aload_n (pc2 := 115) d_Mo_repeats_114 rfl rfl ?_
  refine um_bipush (pc2 := 117) (v := 11) d_Mo_repeats_115 rfl (by decide) ?_
  refine um_aload_n (pc2 := 118) d_Mo_repeats_117 rfl rfl ?_
  refine um_getR (pc2 := 121) d_Mo_repeats_118 rfl f_Mo_100 rfl rfl ?_
  refine um_iload_n (pc2 := 122) d_Mo_repeats_121 rfl rfl ?_
  refine um_iald (pc2 := 123) d_Mo_repeats_122 rfl rfl h.1 rfl ?_
  replace h := h.2
  refine um_aload_n (pc2 := 124) d_Mo_repeats_123 rfl rfl ?_
  refine um_getR (pc2 := 127) d_Mo_repeats_124 rfl f_Mo_85 rfl rfl ?_
  refine um_iload_n (pc2 := 128) d_Mo_repeats_127 rfl rfl ?_
  refine um_iald (pc2 := 129) d_Mo_repeats_128 rfl rfl h.1 rfl ?_
  replace h := h.2
  refine um_callV3v (pc2 := 132) d_Mo_repeats_129 rfl g_Mo_200 rfl (Nat.le_of_ble_eq_true rfl) (Nat.le_of_ble_eq_true rfl) (Nat.le_of_ble_eq_true rfl) (c_Mo_put h) (fun σ7 h => ?_)
  refine um_aload_n (pc2 := 133) d_Mo_repeats_132 rfl rfl ?_
  refine um_aload_n (pc2 := 134) d_Mo_repeats_133 rfl rfl ?_
  refine um_getR (pc2 := 137) d_Mo_repeats_134 rfl f_Mo_97 rfl rfl ?_
  refine um_iload_n (pc2 := 138) d_Mo_repeats_137 rfl rfl ?_
  refine um_iald (pc2 := 139) d_Mo_repeats_138 rfl rfl h.1 rfl ?_
  replace h := h.2
  refine um_callV1v (pc2 := 142) d_Mo_repeats_139 rfl g_Mo_216 rfl (Nat.le_of_ble_eq_true rfl) (Nat.le_of_ble_eq_true rfl) (Nat.le_of_ble_eq_true rfl) (c_Mo_ends h) (fun σ8 h => ?_)
  refine um_aload_n (pc2 := 143) d_Mo_repeats_142 rfl rfl ?_
  refine um_dup (pc2 := 144) d_Mo_repeats_143 rfl rfl ?_
  refine um_getI (pc2 := 147) d_Mo_repeats_144 rfl f_Mo_173 rfl rfl ?_
  refine um_iconst (pc2 := 148) (v := 1) d_Mo_repeats_147 rfl (by decide) ?_
  refine um_isub (pc2 := 149) d_Mo_repeats_148 rfl ?_
  refine um_putI (pc2 := 152) d_Mo_repeats_149 rfl fw_Mo_173 rfl rfl (um_gen (fun σ9 eσ9 => ?_))
  replace h := h σ9 eσ9
  exact um_vret d_Mo_repeats_152 rfl ⟨rfl, h⟩
