def wp_La_addRow_155 (Q : um_S → Prop) (σ : um_S) : Prop :=
  ∀ σ1 : um_S, σ1 = um_up σ 2 6 ((σ 2 6) + 1) → Q σ1
def wp_La_addRow_121 (Q : um_S → Prop) (v4 : Int32) (v5 : Int32) (σ : um_S) : Prop :=
  (¬ v4 = (-1) → wp_Tr_part v4 1 σ (fun x2 σ1 => vp_in (v5 + 4) 1500 ∧ ∀ σ3 : um_S, σ3 = um_up σ1 15 (v5 + 4).toNatClampNeg x2 → wp_La_addRow_155 Q σ3)) ∧ (v4 = (-1) → vp_in (v5 + 4) 1500 ∧ ∀ σ4 : um_S, σ4 = um_up σ 15 (v5 + 4).toNatClampNeg 2147483647 → wp_La_addRow_155 Q σ4)
def wp_La_addRow (a1 : Int32) (a2 : Int32) (a3 : Int32) (σ : um_S) (Q : um_S → Prop) : Prop :=
  ((σ 2 6) < 300 → vp_in a1 501 ∧ ∀ x1 : Int32, x1 = (σ 36 a1.toNatClampNeg) → ∀ x2 : Int32, x2 = ((σ 2 6) * 5) → vp_in x2 1500 ∧ ∀ σ3 : um_S, σ3 = um_up σ 15 x2.toNatClampNeg a2 → vp_in (x2 + 1) 1500 ∧ ∀ σ4 : um_S, σ4 = um_up σ3 15 (x2 + 1).toNatClampNeg a3 → vp_in a1 501 ∧ vp_in (x2 + 2) 1500 ∧ ∀ σ5 : um_S, σ5 = um_up σ4 15 (x2 + 2).toNatClampNeg (σ4 37 a1.toNatClampNeg) → (¬ x1 = (-1) → wp_Tr_part x1 0 σ5 (fun x7 σ6 => vp_in (x2 + 3) 1500 ∧ ∀ σ8 : um_S, σ8 = um_up σ6 15 (x2 + 3).toNatClampNeg x7 → wp_La_addRow_121 Q x1 x2 σ8)) ∧ (x1 = (-1) → vp_in (x2 + 3) 1500 ∧ ∀ σ9 : um_S, σ9 = um_up σ5 15 (x2 + 3).toNatClampNeg (-2147483648) → wp_La_addRow_121 Q x1 x2 σ9)) ∧ (¬ (σ 2 6) < 300 → ∀ σ10 : um_S, σ10 = um_up σ 3 8 (-2) → Q σ10)
set_option maxHeartbeats 4000000 in
set_option maxRecDepth 100000 in
theorem b_La_addRow_155 {Q : um_S → Prop} {σ : um_S} (h : wp_La_addRow_155 Q σ) : um_Ev um_cl um_AW um_L um_SX M_La_addRow 1 22 155 [some (.ref 3), none, none, none, none, none] [] σ (um_Qv Q) := by
  unfold wp_La_addRow_155 at h
  refine um_aload_n (pc2 := 156) d_La_addRow_155 rfl rfl ?_
  refine um_getR (pc2 := 159) d_La_addRow_156 rfl f_La_40 rfl rfl ?_
  refine um_dup (pc2 := 160) d_La_addRow_159 rfl rfl ?_
  refine um_getI (pc2 := 163) d_La_addRow_160 rfl f_La_255 rfl rfl ?_
  refine um_iconst (pc2 := 164) (v := 1) d_La_addRow_163 rfl (by decide) ?_
  refine um_iadd (pc2 := 165) d_La_addRow_164 rfl ?_
  refine um_putI (pc2 := 168) d_La_addRow_165 rfl fw_La_255 rfl rfl (um_gen (fun σ1 eσ1 => ?_))
  replace h := h σ1 eσ1
  exact um_vret d_La_addRow_168 rfl ⟨rfl, h⟩
set_option maxHeartbeats 4000000 in
set_option maxRecDepth 100000 in
theorem b_La_addRow_121 {Q : um_S → Prop} {v4 : Int32} {v5 : Int32} {σ : um_S} (h : wp_La_addRow_121 Q v4 v5 σ) : um_Ev um_cl um_AW um_L um_SX M_La_addRow 1 22 121 [some (.ref 3), none, none, none, some (.int v4), some (.int v5)] [] σ (um_Qv Q) := by
  unfold wp_La_addRow_121 at h
  refine um_aload_n (pc2 := 122) d_La_addRow_121 rfl rfl ?_
  refine um_getR (pc2 := 125) d_La_addRow_122 rfl f_La_40 rfl rfl ?_
  refine um_getR (pc2 := 128) d_La_addRow_125 rfl f_La_258 rfl rfl ?_
  refine um_iload (pc2 := 130) d_La_addRow_128 rfl rfl ?_
  refine um_iconst (pc2 := 131) (v := 4) d_La_addRow_130 rfl (by decide) ?_
  refine um_iadd (pc2 := 132) d_La_addRow_131 rfl ?_
  refine um_iload (pc2 := 134) d_La_addRow_132 rfl rfl ?_
  refine um_iconst (pc2 := 135) (v := (-1)) d_La_addRow_134 rfl (by decide) ?_
  refine um_icmp_ne (pc2 := 138) (tgt := 144) d_La_addRow_135 rfl rfl (fun z => ?_) (fun z => ?_)
  · replace h := h.1 z
    refine um_aload_n (pc2 := 145) d_La_addRow_144 rfl rfl ?_
    refine um_getR (pc2 := 148) d_La_addRow_145 rfl f_La_36 rfl rfl ?_
    refine um_iload (pc2 := 150) d_La_addRow_148 rfl rfl ?_
    refine um_iconst (pc2 := 151) (v := 1) d_La_addRow_150 rfl (by decide) ?_
    refine um_callV2i (pc2 := 154) d_La_addRow_151 rfl g_La_141 rfl (Nat.le_of_ble_eq_true rfl) (Nat.le_of_ble_eq_true rfl) (Nat.le_of_ble_eq_true rfl) (c_Tr_part h) (fun x2 σ1 h => ?_)
    refine um_iast (pc2 := 155) d_La_addRow_154 rfl rfl h.1 rfl (um_gen (fun σ3 eσ3 => ?_))
    replace h := h.2 σ3 eσ3
    refine um_forget [true, false, false, false, false, false] rfl ?_
    exact b_La_addRow_155 h
  · replace h := h.2 z
    refine um_ldcw (pc2 := 141) (v := 2147483647) d_La_addRow_138 rfl k_La_265 ?_
    refine um_goto (tgt := 154) d_La_addRow_141 rfl ?_
    refine um_iast (pc2 := 155) d_La_addRow_154 rfl rfl h.1 rfl (um_gen (fun σ4 eσ4 => ?_))
    replace h := h.2 σ4 eσ4
    refine um_forget [true, false, false, false, false, false] rfl ?_
    exact b_La_addRow_155 h
set_option maxHeartbeats 4000000 in
set_option maxRecDepth 100000 in
theorem c_La_addRow {a1 : Int32} {a2 : Int32} {a3 : Int32} {σ : um_S} {Q : um_S → Prop} (h : wp_La_addRow a1 a2 a3 σ Q) : um_Con um_cl um_AW um_L um_SX 1 22 M_La_addRow [.ref 3, .int a1, .int a2, .int a3] σ (um_Qv Q) := by
  refine um_con (by decide) (Nat.le_of_ble_eq_true rfl) (fun v hv => by simp only [List.mem_cons, List.not_mem_nil, or_false] at hv; rcases hv with rfl | rfl | rfl | rfl <;> rfl) ?_
  show um_Ev um_cl um_AW um_L um_SX M_La_addRow 1 22 0 [some (.ref 3), some (.int a1), some (.int a2), some (.int a3), none, none] [] σ (um_Qv Q)
  unfold wp_La_addRow at h
  refine um_aload_n (pc2 := 1) d_La_addRow_0 rfl rfl ?_
  refine um_getR (pc2 := 4) d_La_addRow_1 rfl f_La_40 rfl rfl ?_
  refine um_getI (pc2 := 7) d_La_addRow_4 rfl f_La_255 rfl rfl ?_
  refine um_sipush (pc2 := 10) (v := 300) d_La_addRow_7 rfl (by decide) ?_
  refine um_icmp_lt (pc2 := 13) (tgt := 20) d_La_addRow_10 rfl rfl (fun z => ?_) (fun z => ?_)
  · replace h := h.1 z
    refine um_aload_n (pc2 := 21) d_La_addRow_20 rfl rfl ?_
    refine um_getR (pc2 := 24) d_La_addRow_21 rfl f_La_28 rfl rfl ?_
    refine um_getR (pc2 := 27) d_La_addRow_24 rfl f_La_252 rfl rfl ?_
    refine um_iload_n (pc2 := 28) d_La_addRow_27 rfl rfl ?_
    refine um_iald (pc2 := 29) d_La_addRow_28 rfl rfl h.1 rfl ?_
    replace h := h.2
    refine um_top (fun x1 ex1 => ?_)
    replace h := h x1 ex1
    refine um_istore (pc2 := 31) (ls2 := [some (.ref 3), some (.int a1), some (.int a2), some (.int a3), some (.int x1), none]) d_La_addRow_29 rfl (Nat.le_of_ble_eq_true rfl) rfl ?_
    refine um_aload_n (pc2 := 32) d_La_addRow_31 rfl rfl ?_
    refine um_getR (pc2 := 35) d_La_addRow_32 rfl f_La_40 rfl rfl ?_
    refine um_getI (pc2 := 38) d_La_addRow_35 rfl f_La_255 rfl rfl ?_
    refine um_iconst (pc2 := 39) (v := 5) d_La_addRow_38 rfl (by decide) ?_
    refine um_imul (pc2 := 40) d_La_addRow_39 rfl ?_
    refine um_top (fun x2 ex2 => ?_)
    replace h := h x2 ex2
    refine um_istore (pc2 := 42) (ls2 := [some (.ref 3), some (.int a1), some (.int a2), some (.int a3), some (.int x1), some (.int x2)]) d_La_addRow_40 rfl (Nat.le_of_ble_eq_true rfl) rfl ?_
    refine um_aload_n (pc2 := 43) d_La_addRow_42 rfl rfl ?_
    refine um_getR (pc2 := 46) d_La_addRow_43 rfl f_La_40 rfl rfl ?_
    refine um_getR (pc2 := 49) d_La_addRow_46 rfl f_La_258 rfl rfl ?_
    refine um_iload (pc2 := 51) d_La_addRow_49 rfl rfl ?_
    refine um_iload_n (pc2 := 52) d_La_addRow_51 rfl rfl ?_
    refine um_iast (pc2 := 53) d_La_addRow_52 rfl rfl h.1 rfl (um_gen (fun σ3 eσ3 => ?_))
    replace h := h.2 σ3 eσ3
    refine um_aload_n (pc2 := 54) d_La_addRow_53 rfl rfl ?_
    refine um_getR (pc2 := 57) d_La_addRow_54 rfl f_La_40 rfl rfl ?_
    refine um_getR (pc2 := 60) d_La_addRow_57 rfl f_La_258 rfl rfl ?_
    refine um_iload (pc2 := 62) d_La_addRow_60 rfl rfl ?_
    refine um_iconst (pc2 := 63) (v := 1) d_La_addRow_62 rfl (by decide) ?_
    refine um_iadd (pc2 := 64) d_La_addRow_63 rfl ?_
    refine um_iload_n (pc2 := 65) d_La_addRow_64 rfl rfl ?_
    refine um_iast (pc2 := 66) d_La_addRow_65 rfl rfl h.1 rfl (um_gen (fun σ4 eσ4 => ?_))
    replace h := h.2 σ4 eσ4
    refine um_aload_n (pc2 := 67) d_La_addRow_66 rfl rfl ?_
    refine um_getR (pc2 := 70) d_La_addRow_67 rfl f_La_40 rfl rfl ?_
    refine um_getR (pc2 := 73) d_La_addRow_70 rfl f_La_258 rfl rfl ?_
    refine um_iload (pc2 := 75) d_La_addRow_73 rfl rfl ?_
    refine um_iconst (pc2 := 76) (v := 2) d_La_addRow_75 rfl (by decide) ?_
    refine um_iadd (pc2 := 77) d_La_addRow_76 rfl ?_
    refine um_aload_n (pc2 := 78) d_La_addRow_77 rfl rfl ?_
    refine um_getR (pc2 := 81) d_La_addRow_78 rfl f_La_28 rfl rfl ?_
    refine um_getR (pc2 := 84) d_La_addRow_81 rfl f_La_261 rfl rfl ?_
    refine um_iload_n (pc2 := 85) d_La_addRow_84 rfl rfl ?_
    refine um_iald (pc2 := 86) d_La_addRow_85 rfl rfl h.1 rfl ?_
    replace h := h.2
    refine um_iast (pc2 := 87) d_La_addRow_86 rfl rfl h.1 rfl (um_gen (fun σ5 eσ5 => ?_))
    replace h := h.2 σ5 eσ5
    refine um_aload_n (pc2 := 88) d_La_addRow_87 rfl rfl ?_
    refine um_getR (pc2 := 91) d_La_addRow_88 rfl f_La_40 rfl rfl ?_
    refine um_getR (pc2 := 94) d_La_addRow_91 rfl f_La_258 rfl rfl ?_
    refine um_iload (pc2 := 96) d_La_addRow_94 rfl rfl ?_
    refine um_iconst (pc2 := 97) (v := 3) d_La_addRow_96 rfl (by decide) ?_
    refine um_iadd (pc2 := 98) d_La_addRow_97 rfl ?_
    refine um_iload (pc2 := 100) d_La_addRow_98 rfl rfl ?_
    refine um_iconst (pc2 := 101) (v := (-1)) d_La_addRow_100 rfl (by decide) ?_
    refine um_icmp_ne (pc2 := 104) (tgt := 110) d_La_addRow_101 rfl rfl (fun z => ?_) (fun z => ?_)
    · replace h := h.1 z
      refine um_aload_n (pc2 := 111) d_La_addRow_110 rfl rfl ?_
      refine um_getR (pc2 := 114) d_La_addRow_111 rfl f_La_36 rfl rfl ?_
      refine um_iload (pc2 := 116) d_La_addRow_114 rfl rfl ?_
      refine um_iconst (pc2 := 117) (v := 0) d_La_addRow_116 rfl (by decide) ?_
      refine um_callV2i (pc2 := 120) d_La_addRow_117 rfl g_La_141 rfl (Nat.le_of_ble_eq_true rfl) (Nat.le_of_ble_eq_true rfl) (Nat.le_of_ble_eq_true rfl) (c_Tr_part h) (fun x7 σ6 h => ?_)
      refine um_iast (pc2 := 121) d_La_addRow_120 rfl rfl h.1 rfl (um_gen (fun σ8 eσ8 => ?_))
      replace h := h.2 σ8 eσ8
      refine um_forget [true, false, false, false, true, true] rfl ?_
      exact b_La_addRow_121 h
    · replace h := h.2 z
      refine um_ldcw (pc2 := 107) (v := (-2147483648)) d_La_addRow_104 rfl k_La_264 ?_
      refine um_goto (tgt := 120) d_La_addRow_107 rfl ?_
      refine um_iast (pc2 := 121) d_La_addRow_120 rfl rfl h.1 rfl (um_gen (fun σ9 eσ9 => ?_))
      replace h := h.2 σ9 eσ9
      refine um_forget [true, false, false, false, true, true] rfl ?_
      exact b_La_addRow_121 h
  · replace h := h.2 z
    refine um_aload_n (pc2 := 14) d_La_addRow_13 rfl rfl ?_
    refine um_bipush (pc2 := 16) (v := (-2)) d_La_addRow_14 rfl (by decide) ?_
    refine um_putI (pc2 := 19) d_La_addRow_16 rfl fw_La_61 rfl rfl (um_gen (fun σ10 eσ10 => ?_))
    replace h := h σ10 eσ10
    exact um_vret d_La_addRow_19 rfl ⟨rfl, h⟩
def wp_Sc_scopeOf (a0 : Int32) (σ : um_S) (Q : Int32 → um_S → Prop) : Prop :=
  Q (a0 >>> (2 &&& 31)) σ
set_option maxHeartbeats 4000000 in
set_option maxRecDepth 100000 in
theorem c_Sc_scopeOf {a0 : Int32} {σ : um_S} {Q : Int32 → um_S → Prop} (h : wp_Sc_scopeOf a0 σ Q) : um_Con um_cl um_AW um_L um_SX 0 0 M_Sc_scopeOf [.int a0] σ (um_Qi Q) := by
  refine um_con (by decide) (Nat.le_of_ble_eq_true rfl) (fun v hv => by simp only [List.mem_cons, List.not_mem_nil, or_false] at hv; rcases hv with rfl <;> rfl) ?_
  show um_Ev um_cl um_AW um_L um_SX M_Sc_scopeOf 0 0 0 [some (.int a0)] [] σ (um_Qi Q)
  unfold wp_Sc_scopeOf at h
  refine um_iload_n (pc2 := 1) d_Sc_scopeOf_0 rfl rfl ?_
  refine um_iconst (pc2 := 2) (v := 2) d_Sc_scopeOf_1 rfl (by decide) ?_
  refine um_ishr (pc2 := 3) d_Sc_scopeOf_2 rfl ?_
  exact um_iret d_Sc_scopeOf_3 rfl ⟨_, rfl, h⟩
def wp_Sc_partOf (a0 : Int32) (σ : um_S) (Q : Int32 → um_S → Prop) : Prop :=
  Q (a0 &&& 3) σ
set_option maxHeartbeats 4000000 in
set_option maxRecDepth 100000 in
theorem c_Sc_partOf {a0 : Int32} {σ : um_S} {Q : Int32 → um_S → Prop} (h : wp_Sc_partOf a0 σ Q) : um_Con um_cl um_AW um_L um_SX 0 0 M_Sc_partOf [.int a0] σ (um_Qi Q) := by
  refine um_con (by decide) (Nat.le_of_ble_eq_true rfl) (fun v hv => by simp only [List.mem_cons, List.not_mem_nil, or_false] at hv; rcases hv with rfl <;> rfl) ?_
  show um_Ev um_cl um_AW um_L um_SX M_Sc_partOf 0 0 0 [some (.int a0)] [] σ (um_Qi Q)
  unfold wp_Sc_partOf at h
  refine um_iload_n (pc2 := 1) d_Sc_partOf_0 rfl rfl ?_
  refine um_iconst (pc2 := 2) (v := 3) d_Sc_partOf_1 rfl (by decide) ?_
  refine um_iand (pc2 := 3) d_Sc_partOf_2 rfl ?_
  exact um_iret d_Sc_partOf_3 rfl ⟨_, rfl, h⟩
def wp_Sc_partLookedAt (a1 : Int32) (σ : um_S) (Q : Int32 → um_S → Prop) : Prop :=
  wp_Sc_scopeOf a1 σ (fun x2 σ1 => ((σ1 5 8) ≤ x2 → (¬ x2 = (σ1 5 8) → vp_in x2 2001 ∧ Q (σ1 30 x2.toNatClampNeg) σ1) ∧ (x2 = (σ1 5 8) → wp_Sc_partOf a1 σ1 (fun x4 σ3 => Q x4 σ3))) ∧ (¬ (σ1 5 8) ≤ x2 → Q (-1) σ1))
set_option maxHeartbeats 4000000 in
set_option maxRecDepth 100000 in
theorem c_Sc_partLookedAt {a1 : Int32} {σ : um_S} {Q : Int32 → um_S → Prop} (h : wp_Sc_partLookedAt a1 σ Q) : um_Con um_cl um_AW um_L um_SX 1 20 M_Sc_partLookedAt [.ref 5, .int a1] σ (um_Qi Q) := by
  refine um_con (by decide) (Nat.le_of_ble_eq_true rfl) (fun v hv => by simp only [List.mem_cons, List.not_mem_nil, or_false] at hv; rcases hv with rfl | rfl <;> rfl) ?_
  show um_Ev um_cl um_AW um_L um_SX M_Sc_partLookedAt 1 20 0 [some (.ref 5), some (.int a1), none] [] σ (um_Qi Q)
  unfold wp_Sc_partLookedAt at h
  refine um_iload_n (pc2 := 1) d_Sc_partLookedAt_0 rfl rfl ?_
  refine um_callS1i (pc2 := 4) d_Sc_partLookedAt_1 rfl g_Sc_47 (Nat.le_of_ble_eq_true rfl) (Nat.le_of_ble_eq_true rfl) (Nat.le_of_ble_eq_true rfl) (c_Sc_scopeOf h) (fun x2 σ1 h => ?_)
  refine um_istore_n (pc2 := 5) (ls2 := [some (.ref 5), some (.int a1), some (.int x2)]) d_Sc_partLookedAt_4 rfl (Nat.le_of_ble_eq_true rfl) rfl ?_
  refine um_iload_n (pc2 := 6) d_Sc_partLookedAt_5 rfl rfl ?_
  refine um_aload_n (pc2 := 7) d_Sc_partLookedAt_6 rfl rfl ?_
  refine um_getI (pc2 := 10) d_Sc_partLookedAt_7 rfl f_Sc_36 rfl rfl ?_
  refine um_icmp_ge (pc2 := 13) (tgt := 15) d_Sc_partLookedAt_10 rfl rfl (fun z => ?_) (fun z => ?_)
  · replace h := h.1 z
    refine um_iload_n (pc2 := 16) d_Sc_partLookedAt_15 rfl rfl ?_
    refine um_aload_n (pc2 := 17) d_Sc_partLookedAt_16 rfl rfl ?_
    refine um_getI (pc2 := 20) d_Sc_partLookedAt_17 rfl f_Sc_36 rfl rfl ?_
    refine um_icmp_ne (pc2 := 23) (tgt := 30) d_Sc_partLookedAt_20 rfl rfl (fun z => ?_) (fun z => ?_)
    · replace h := h.1 z
      refine um_aload_n (pc2 := 31) d_Sc_partLookedAt_30 rfl rfl ?_
      refine um_getR (pc2 := 34) d_Sc_partLookedAt_31 rfl f_Sc_33 rfl rfl ?_
      refine um_iload_n (pc2 := 35) d_Sc_partLookedAt_34 rfl rfl ?_
      refine um_iald (pc2 := 36) d_Sc_partLookedAt_35 rfl rfl h.1 rfl ?_
      replace h := h.2
      exact um_iret d_Sc_partLookedAt_36 rfl ⟨_, rfl, h⟩
    · replace h := h.2 z
      refine um_iload_n (pc2 := 24) d_Sc_partLookedAt_23 rfl rfl ?_
      refine um_callS1i (pc2 := 27) d_Sc_partLookedAt_24 rfl g_Sc_50 (Nat.le_of_ble_eq_true rfl) (Nat.le_of_ble_eq_true rfl) (Nat.le_of_ble_eq_true rfl) (c_Sc_partOf h) (fun x4 σ3 h => ?_)
      refine um_goto (tgt := 36) d_Sc_partLookedAt_27 rfl ?_
      exact um_iret d_Sc_partLookedAt_36 rfl ⟨_, rfl, h⟩
  · replace h := h.2 z
    refine um_iconst (pc2 := 14) (v := (-1)) d_Sc_partLookedAt_13 rfl (by decide) ?_
    exact um_iret d_Sc_partLookedAt_14 rfl ⟨_, rfl, h⟩
def wp_La_takesFrom (a1 : Int32) (a2 : Int32) (σ : um_S) (Q : Bool → um_S → Prop) : Prop :=
  vp_in a2 1000 ∧ wp_Sc_partLookedAt (σ 13 a2.toNatClampNeg) σ (fun x2 σ1 => (x2 = 0 → Q true σ1) ∧ (¬ x2 = 0 → (¬ x2 = 1 → Q false σ1) ∧ (x2 = 1 → vp_in a1 501 ∧ (¬ (σ1 36 a1.toNatClampNeg) = (-1) → Q false σ1) ∧ ((σ1 36 a1.toNatClampNeg) = (-1) → Q true σ1))))
set_option maxHeartbeats 4000000 in
set_option maxRecDepth 100000 in
theorem c_La_takesFrom {a1 : Int32} {a2 : Int32} {σ : um_S} {Q : Bool → um_S → Prop} (h : wp_La_takesFrom a1 a2 σ Q) : um_Con um_cl um_AW um_L um_SX 2 42 M_La_takesFrom [.ref 3, .int a1, .int a2] σ (um_Qz Q) := by
  refine um_con (by decide) (Nat.le_of_ble_eq_true rfl) (fun v hv => by simp only [List.mem_cons, List.not_mem_nil, or_false] at hv; rcases hv with rfl | rfl | rfl <;> rfl) ?_
  show um_Ev um_cl um_AW um_L um_SX M_La_takesFrom 2 42 0 [some (.ref 3), some (.int a1), some (.int a2), none] [] σ (um_Qz Q)
  unfold wp_La_takesFrom at h
  refine um_aload_n (pc2 := 1) d_La_takesFrom_0 rfl rfl ?_
  refine um_getR (pc2 := 4) d_La_takesFrom_1 rfl f_La_12 rfl rfl ?_
  refine um_aload_n (pc2 := 5) d_La_takesFrom_4 rfl rfl ?_
  refine um_getR (pc2 := 8) d_La_takesFrom_5 rfl f_La_40 rfl rfl ?_
  refine um_getR (pc2 := 11) d_La_takesFrom_8 rfl f_La_236 rfl rfl ?_
  refine um_iload_n (pc2 := 12) d_La_takesFrom_11 rfl rfl ?_
  refine um_iald (pc2 := 13) d_La_takesFrom_12 rfl rfl h.1 rfl ?_
  replace h := h.2
  refine um_callV1i (pc2 := 16) d_La_takesFrom_13 rfl g_La_249 rfl (Nat.le_of_ble_eq_true rfl) (Nat.le_of_ble_eq_true rfl) (Nat.le_of_ble_eq_true rfl) (c_Sc_partLookedAt h) (fun x2 σ1 h => ?_)
  refine um_istore_n (pc2 := 17) (ls2 := [some (.ref 3), some (.int a1), some (.int a2), some (.int x2)]) d_La_takesFrom_16 rfl (Nat.le_of_ble_eq_true rfl) rfl ?_
  refine um_iload_n (pc2 := 18) d_La_takesFrom_17 rfl rfl ?_
  refine um_if_eq (pc2 := 21) (tgt := 39) d_La_takesFrom_18 rfl rfl (fun z => ?_) (fun z => ?_)
  · replace h := h.1 z
    refine um_iconst (pc2 := 40) (v := 1) d_La_takesFrom_39 rfl (by decide) ?_
    refine um_goto (tgt := 44) d_La_takesFrom_40 rfl ?_
    exact um_zret d_La_takesFrom_44 rfl (by decide) ⟨true, rfl, h⟩
  · replace h := h.2 z
    refine um_iload_n (pc2 := 22) d_La_takesFrom_21 rfl rfl ?_
    refine um_iconst (pc2 := 23) (v := 1) d_La_takesFrom_22 rfl (by decide) ?_
    refine um_icmp_ne (pc2 := 26) (tgt := 43) d_La_takesFrom_23 rfl rfl (fun z => ?_) (fun z => ?_)
    · replace h := h.1 z
      refine um_iconst (pc2 := 44) (v := 0) d_La_takesFrom_43 rfl (by decide) ?_
      exact um_zret d_La_takesFrom_44 rfl (by decide) ⟨false, rfl, h⟩
    · replace h := h.2 z
      refine um_aload_n (pc2 := 27) d_La_takesFrom_26 rfl rfl ?_
      refine um_getR (pc2 := 30) d_La_takesFrom_27 rfl f_La_28 rfl rfl ?_
      refine um_getR (pc2 := 33) d_La_takesFrom_30 rfl f_La_252 rfl rfl ?_
      refine um_iload_n (pc2 := 34) d_La_takesFrom_33 rfl rfl ?_
      refine um_iald (pc2 := 35) d_La_takesFrom_34 rfl rfl h.1 rfl ?_
      replace h := h.2
      refine um_iconst (pc2 := 36) (v := (-1)) d_La_takesFrom_35 rfl (by decide) ?_
      refine um_icmp_ne (pc2 := 39) (tgt := 43) d_La_takesFrom_36 rfl rfl (fun z => ?_) (fun z => ?_)
      · replace h := h.1 z
        refine um_iconst (pc2 := 44) (v := 0) d_La_takesFrom_43 rfl (by decide) ?_
        exact um_zret d_La_takesFrom_44 rfl (by decide) ⟨false, rfl, h⟩
      · replace h := h.2 z
        refine um_iconst (pc2 := 40) (v := 1) d_La_takesFrom_39 rfl (by decide) ?_
        refine um_goto (tgt := 44) d_La_takesFrom_40 rfl ?_
        exact um_zret d_La_takesFrom_44 rfl (by decide) ⟨true, rfl, h⟩
def wp_Sc_lookAt_18 (Q : um_S → Prop) : Nat → Int32 → um_S → Prop
  | 0, _, _ => False
  | n + 1, v2, σ =>
    ((σ 5 9) ≤ v2 → Q σ) ∧ (¬ (σ 5 9) ≤ v2 → vp_in v2 2001 ∧ wp_Sc_partLookedAt (σ 23 v2.toNatClampNeg) σ (fun x2 σ1 => vp_in v2 2001 ∧ ∀ σ3 : um_S, σ3 = um_up σ1 30 v2.toNatClampNeg x2 → wp_Sc_lookAt_18 Q n (v2 + 1) σ3))
def wp_Sc_lookAt (a1 : Int32) (σ : um_S) (Q : um_S → Prop) : Prop :=
  (¬ a1 = (σ 5 8) → ∀ σ1 : um_S, σ1 = um_up σ 5 8 a1 → ∀ x2 : Int32, x2 = (a1 + 1) → wp_Sc_lookAt_18 Q 100000 x2 σ1) ∧ (a1 = (σ 5 8) → Q σ)
set_option maxHeartbeats 4000000 in
set_option maxRecDepth 100000 in
theorem b_Sc_lookAt_18 {Q : um_S → Prop} (n : Nat) : ∀ (v2 : Int32) (σ : um_S), wp_Sc_lookAt_18 Q n v2 σ → um_Ev um_cl um_AW um_L um_SX M_Sc_lookAt 2 42 18 [some (.ref 5), none, some (.int v2)] [] σ (um_Qv Q) := by
  induction n with
  | zero =>
    intro v2 σ h
    exact h.elim
  | succ n ih =>
    intro v2 σ h
    unfold wp_Sc_lookAt_18 at h
    refine um_iload_n (pc2 := 19) d_Sc_lookAt_18 rfl rfl ?_
    refine um_aload_n (pc2 := 20) d_Sc_lookAt_19 rfl rfl ?_
    refine um_getI (pc2 := 23) d_Sc_lookAt_20 rfl f_Sc_40 rfl rfl ?_
    refine um_icmp_ge (pc2 := 26) (tgt := 48) d_Sc_lookAt_23 rfl rfl (fun z => ?_) (fun z => ?_)
    · replace h := h.1 z
      exact um_vret d_Sc_lookAt_48 rfl ⟨rfl, h⟩
    · replace h := h.2 z
      refine um_aload_n (pc2 := 27) d_Sc_lookAt_26 rfl rfl ?_
      refine um_getR (pc2 := 30) d_Sc_lookAt_27 rfl f_Sc_33 rfl rfl ?_
      refine um_iload_n (pc2 := 31) d_Sc_lookAt_30 rfl rfl ?_
      refine um_aload_n (pc2 := 32) d_Sc_lookAt_31 rfl rfl ?_
      refine um_aload_n (pc2 := 33) d_Sc_lookAt_32 rfl rfl ?_
      refine um_getR (pc2 := 36) d_Sc_lookAt_33 rfl f_Sc_11 rfl rfl ?_
      refine um_iload_n (pc2 := 37) d_Sc_lookAt_36 rfl rfl ?_
      refine um_iald (pc2 := 38) d_Sc_lookAt_37 rfl rfl h.1 rfl ?_
      replace h := h.2
      refine um_callV1i (pc2 := 41) d_Sc_lookAt_38 rfl g_Sc_53 rfl (Nat.le_of_ble_eq_true rfl) (Nat.le_of_ble_eq_true rfl) (Nat.le_of_ble_eq_true rfl) (c_Sc_partLookedAt h) (fun x2 σ1 h => ?_)
      refine um_iast (pc2 := 42) d_Sc_lookAt_41 rfl rfl h.1 rfl (um_gen (fun σ3 eσ3 => ?_))
      replace h := h.2 σ3 eσ3
      refine um_iinc (pc2 := 45) (v := (v2 + 1)) (ls2 := [some (.ref 5), none, some (.int (v2 + 1))]) d_Sc_lookAt_42 rfl rfl rfl (Nat.le_of_ble_eq_true rfl) rfl ?_
      refine um_goto (tgt := 18) d_Sc_lookAt_45 rfl ?_
      refine um_forget [true, false, true] rfl ?_
      exact ih _ _ h
set_option maxHeartbeats 4000000 in
set_option maxRecDepth 100000 in
theorem c_Sc_lookAt {a1 : Int32} {σ : um_S} {Q : um_S → Prop} (h : wp_Sc_lookAt a1 σ Q) : um_Con um_cl um_AW um_L um_SX 2 42 M_Sc_lookAt [.ref 5, .int a1] σ (um_Qv Q) := by
  refine um_con (by decide) (Nat.le_of_ble_eq_true rfl) (fun v hv => by simp only [List.mem_cons, List.not_mem_nil, or_false] at hv; rcases hv with rfl | rfl <;> rfl) ?_
  show um_Ev um_cl um_AW um_L um_SX M_Sc_lookAt 2 42 0 [some (.ref 5), some (.int a1), none] [] σ (um_Qv Q)
  unfold wp_Sc_lookAt at h
  refine um_iload_n (pc2 := 1) d_Sc_lookAt_0 rfl rfl ?_
  refine um_aload_n (pc2 := 2) d_Sc_lookAt_1 rfl rfl ?_
  refine um_getI (pc2 := 5) d_Sc_lookAt_2 rfl f_Sc_36 rfl rfl ?_
  refine um_icmp_ne (pc2 := 8) (tgt := 9) d_Sc_lookAt_5 rfl rfl (fun z => ?_) (fun z => ?_)
  · replace h := h.1 z
    refine um_aload_n (pc2 := 10) d_Sc_lookAt_9 rfl rfl ?_
    refine um_iload_n (pc2 := 11) d_Sc_lookAt_10 rfl rfl ?_
    refine um_putI (pc2 := 14) d_Sc_lookAt_11 rfl fw_Sc_36 rfl rfl (um_gen (fun σ1 eσ1 => ?_))
    replace h := h σ1 eσ1
    refine um_iload_n (pc2 := 15) d_Sc_lookAt_14 rfl rfl ?_
    refine um_iconst (pc2 := 16) (v := 1) d_Sc_lookAt_15 rfl (by decide) ?_
    refine um_iadd (pc2 := 17) d_Sc_lookAt_16 rfl ?_
    refine um_top (fun x2 ex2 => ?_)
    replace h := h x2 ex2
    refine um_istore_n (pc2 := 18) (ls2 := [some (.ref 5), some (.int a1), some (.int x2)]) d_Sc_lookAt_17 rfl (Nat.le_of_ble_eq_true rfl) rfl ?_
    refine um_forget [true, false, true] rfl ?_
    exact b_Sc_lookAt_18 _ _ _ h
  · replace h := h.2 z
    exact um_vret d_Sc_lookAt_8 rfl ⟨rfl, h⟩
def wp_La_addRows_73 (Q : um_S → Prop) (K20 : Int32 → Int32 → Int32 → um_S → Prop) (v1 : Int32) (v2 : Int32) (v3 : Int32) (v4 : Int32) (σ : um_S) : Prop :=
  (¬ v4 = 0 → K20 v1 v2 (v3 + 1) σ) ∧ (v4 = 0 → (v2 = (-1) → K20 v1 v2 (v3 + 1) σ) ∧ (¬ v2 = (-1) → wp_La_addRow v1 v2 v3 σ (fun σ1 => K20 v1 (-1) (v3 + 1) σ1)))
def wp_La_addRows_58 (Q : um_S → Prop) (K20 : Int32 → Int32 → Int32 → um_S → Prop) (v1 : Int32) (v2 : Int32) (v3 : Int32) (v4 : Int32) (σ : um_S) : Prop :=
  (v4 = 0 → wp_La_addRows_73 Q K20 v1 v2 v3 v4 σ) ∧ (¬ v4 = 0 → (¬ v2 = (-1) → wp_La_addRows_73 Q K20 v1 v2 v3 v4 σ) ∧ (v2 = (-1) → K20 v1 v3 (v3 + 1) σ))
def wp_La_addRows_55 (Q : um_S → Prop) (K20 : Int32 → Int32 → Int32 → um_S → Prop) (v1 : Int32) (v2 : Int32) (v3 : Int32) (σ : um_S) : Prop :=
  wp_La_addRows_58 Q K20 v1 v2 v3 0 σ
def wp_La_addRows_20 (Q : um_S → Prop) : Nat → Int32 → Int32 → Int32 → um_S → Prop
  | 0, _, _, _, _ => False
  | n + 1, v1, v2, v3, σ =>
    ((σ 2 5) < v3 → Q σ) ∧ (¬ (σ 2 5) < v3 → ((σ 2 5) ≤ v3 → wp_La_addRows_55 Q (fun v1 v2 v3 σ => wp_La_addRows_20 Q n v1 v2 v3 σ) v1 v2 v3 σ) ∧ (¬ (σ 2 5) ≤ v3 → wp_La_takesFrom v1 v3 σ (fun t2 σ1 => (t2 = false → wp_La_addRows_55 Q (fun v1 v2 v3 σ => wp_La_addRows_20 Q n v1 v2 v3 σ) v1 v2 v3 σ1) ∧ (t2 = true → wp_La_addRows_58 Q (fun v1 v2 v3 σ => wp_La_addRows_20 Q n v1 v2 v3 σ) v1 v2 v3 1 σ1))))
def wp_La_addRows (a1 : Int32) (σ : um_S) (Q : um_S → Prop) : Prop :=
  vp_in a1 501 ∧ wp_Sc_lookAt (σ 35 a1.toNatClampNeg) σ (fun σ1 => wp_La_addRows_20 Q 100000 a1 (-1) 0 σ1)
set_option maxHeartbeats 4000000 in
set_option maxRecDepth 100000 in
theorem b_La_addRows_73 {Q : um_S → Prop} {K20 : Int32 → Int32 → Int32 → um_S → Prop} {v1 : Int32} {v2 : Int32} {v3 : Int32} {v4 : Int32} {σ : um_S} (hK20 : ∀ (v1 : Int32) (v2 : Int32) (v3 : Int32) (σ : um_S), K20 v1 v2 v3 σ → um_Ev um_cl um_AW um_L um_SX M_La_addRows 3 65 20 [some (.ref 3), some (.int v1), some (.int v2), some (.int v3), none] [] σ (um_Qv Q)) (h : wp_La_addRows_73 Q K20 v1 v2 v3 v4 σ) : um_Ev um_cl um_AW um_L um_SX M_La_addRows 3 65 73 [some (.ref 3), some (.int v1), some (.int v2), some (.int v3), some (.int v4)] [] σ (um_Qv Q) := by
  unfold wp_La_addRows_73 at h
  refine um_iload (pc2 := 75) d_La_addRows_73 rfl rfl ?_
  refine um_if_ne (pc2 := 78) (tgt := 92) d_La_addRows_75 rfl rfl (fun z => ?_) (fun z => ?_)
  · replace h := h.1 z
    refine um_iinc (pc2 := 95) (v := (v3 + 1)) (ls2 := [some (.ref 3), some (.int v1), some (.int v2), some (.int (v3 + 1)), some (.int v4)]) d_La_addRows_92 rfl rfl rfl (Nat.le_of_ble_eq_true rfl) rfl ?_
    refine um_goto (tgt := 20) d_La_addRows_95 rfl ?_
    refine um_forget [true, true, true, true, false] rfl ?_
    exact hK20 _ _ _ _ h
  · replace h := h.2 z
    refine um_iload_n (pc2 := 79) d_La_addRows_78 rfl rfl ?_
    refine um_iconst (pc2 := 80) (v := (-1)) d_La_addRows_79 rfl (by decide) ?_
    refine um_icmp_eq (pc2 := 83) (tgt := 92) d_La_addRows_80 rfl rfl (fun z => ?_) (fun z => ?_)
    · replace h := h.1 z
      refine um_iinc (pc2 := 95) (v := (v3 + 1)) (ls2 := [some (.ref 3), some (.int v1), some (.int v2), some (.int (v3 + 1)), some (.int v4)]) d_La_addRows_92 rfl rfl rfl (Nat.le_of_ble_eq_true rfl) rfl ?_
      refine um_goto (tgt := 20) d_La_addRows_95 rfl ?_
      refine um_forget [true, true, true, true, false] rfl ?_
      exact hK20 _ _ _ _ h
    · replace h := h.2 z
      refine um_aload_n (pc2 := 84) d_La_addRows_83 rfl rfl ?_
      refine um_iload_n (pc2 := 85) d_La_addRows_84 rfl rfl ?_
      refine um_iload_n (pc2 := 86) d_La_addRows_85 rfl rfl ?_
      refine um_iload_n (pc2 := 87) d_La_addRows_86 rfl rfl ?_
      refine um_callV3v (pc2 := 90) d_La_addRows_87 rfl g_La_246 rfl (Nat.le_of_ble_eq_true rfl) (Nat.le_of_ble_eq_true rfl) (Nat.le_of_ble_eq_true rfl) (c_La_addRow h) (fun σ1 h => ?_)
      refine um_iconst (pc2 := 91) (v := (-1)) d_La_addRows_90 rfl (by decide) ?_
      refine um_istore_n (pc2 := 92) (ls2 := [some (.ref 3), some (.int v1), some (.int (-1)), some (.int v3), some (.int v4)]) d_La_addRows_91 rfl (Nat.le_of_ble_eq_true rfl) rfl ?_
      refine um_iinc (pc2 := 95) (v := (v3 + 1)) (ls2 := [some (.ref 3), some (.int v1), some (.int (-1)), some (.int (v3 + 1)), some (.int v4)]) d_La_addRows_92 rfl rfl rfl (Nat.le_of_ble_eq_true rfl) rfl ?_
      refine um_goto (tgt := 20) d_La_addRows_95 rfl ?_
      refine um_forget [true, true, true, true, false] rfl ?_
      exact hK20 _ _ _ _ h
set_option maxHeartbeats 4000000 in
set_option maxRecDepth 100000 in
theorem b_La_addRows_58 {Q : um_S → Prop} {K20 : Int32 → Int32 → Int32 → um_S → Prop} {v1 : Int32} {v2 : Int32} {v3 : Int32} {v4 : Int32} {σ : um_S} (hK20 : ∀ (v1 : Int32) (v2 : Int32) (v3 : Int32) (σ : um_S), K20 v1 v2 v3 σ → um_Ev um_cl um_AW um_L um_SX M_La_addRows 3 65 20 [some (.ref 3), some (.int v1), some (.int v2), some (.int v3), none] [] σ (um_Qv Q)) (h : wp_La_addRows_58 Q K20 v1 v2 v3 v4 σ) : um_Ev um_cl um_AW um_L um_SX M_La_addRows 3 65 58 [some (.ref 3), some (.int v1), some (.int v2), some (.int v3), some (.int v4)] [] σ (um_Qv Q) := by
  unfold wp_La_addRows_58 at h
  refine um_iload (pc2 := 60) d_La_addRows_58 rfl rfl ?_
  refine um_if_eq (pc2 := 63) (tgt := 73) d_La_addRows_60 rfl rfl (fun z => ?_) (fun z => ?_)
  · replace h := h.1 z
    refine um_forget [true, true, true, true, true] rfl ?_
    exact b_La_addRows_73 hK20 h
  · replace h := h.2 z
    refine um_iload_n (pc2 := 64) d_La_addRows_63 rfl rfl ?_
    refine um_iconst (pc2 := 65) (v := (-1)) d_La_addRows_64 rfl (by decide) ?_
    refine um_icmp_ne (pc2 := 68) (tgt := 73) d_La_addRows_65 rfl rfl (fun z => ?_) (fun z => ?_)
    · replace h := h.1 z
      refine um_forget [true, true, true, true, true] rfl ?_
      exact b_La_addRows_73 hK20 h
    · replace h := h.2 z
      refine um_iload_n (pc2 := 69) d_La_addRows_68 rfl rfl ?_
      refine um_istore_n (pc2 := 70) (ls2 := [some (.ref 3), some (.int v1), some (.int v3), some (.int v3), some (.int v4)]) d_La_addRows_69 rfl (Nat.le_of_ble_eq_true rfl) rfl ?_
      refine um_goto (tgt := 92) d_La_addRows_70 rfl ?_
      refine um_iinc (pc2 := 95) (v := (v3 + 1)) (ls2 := [some (.ref 3), some (.int v1), some (.int v3), some (.int (v3 + 1)), some (.int v4)]) d_La_addRows_92 rfl rfl rfl (Nat.le_of_ble_eq_true rfl) rfl ?_
      refine um_goto (tgt := 20) d_La_addRows_95 rfl ?_
      refine um_forget [true, true, true, true, false] rfl ?_
      exact hK20 _ _ _ _ h
set_option maxHeartbeats 4000000 in
set_option maxRecDepth 100000 in
theorem b_La_addRows_55 {Q : um_S → Prop} {K20 : Int32 → Int32 → Int32 → um_S → Prop} {v1 : Int32} {v2 : Int32} {v3 : Int32} {σ : um_S} (hK20 : ∀ (v1 : Int32) (v2 : Int32) (v3 : Int32) (σ : um_S), K20 v1 v2 v3 σ → um_Ev um_cl um_AW um_L um_SX M_La_addRows 3 65 20 [some (.ref 3), some (.int v1), some (.int v2), some (.int v3), none] [] σ (um_Qv Q)) (h : wp_La_addRows_55 Q K20 v1 v2 v3 σ) : um_Ev um_cl um_AW um_L um_SX M_La_addRows 3 65 55 [some (.ref 3), some (.int v1), some (.int v2), some (.int v3), none] [] σ (um_Qv Q) := by
  unfold wp_La_addRows_55 at h
  refine um_iconst (pc2 := 56) (v := 0) d_La_addRows_55 rfl (by decide) ?_
  refine um_istore (pc2 := 58) (ls2 := [some (.ref 3), some (.int v1), some (.int v2), some (.int v3), some (.int 0)]) d_La_addRows_56 rfl (Nat.le_of_ble_eq_true rfl) rfl ?_
  refine um_forget [true, true, true, true, true] rfl ?_
  exact b_La_addRows_58 hK20 h
set_option maxHeartbeats 4000000 in
set_option maxRecDepth 100000 in
theorem b_La_addRows_20 {Q : um_S → Prop} (n : Nat) : ∀ (v1 : Int32) (v2 : Int32) (v3 : Int32) (σ : um_S), wp_La_addRows_20 Q n v1 v2 v3 σ → um_Ev um_cl um_AW um_L um_SX M_La_addRows 3 65 20 [some (.ref 3), some (.int v1), some (.int v2), some (.int v3), none] [] σ (um_Qv Q) := by
  induction n with
  | zero =>
    intro v1 v2 v3 σ h
    exact h.elim
  | succ n ih =>
    intro v1 v2 v3 σ h
    unfold wp_La_addRows_20 at h
    refine um_iload_n (pc2 := 21) d_La_addRows_20 rfl rfl ?_
    refine um_aload_n (pc2 := 22) d_La_addRows_21 rfl rfl ?_
    refine um_getR (pc2 := 25) d_La_addRows_22 rfl f_La_40 rfl rfl ?_
    refine um_getI (pc2 := 28) d_La_addRows_25 rfl f_La_74 rfl rfl ?_
    refine um_icmp_gt (pc2 := 31) (tgt := 98) d_La_addRows_28 rfl rfl (fun z => ?_) (fun z => ?_)
    · replace h := h.1 z
      exact um_vret d_La_addRows_98 rfl ⟨rfl, h⟩
    · replace h := h.2 z
      refine um_iload_n (pc2 := 32) d_La_addRows_31 rfl rfl ?_
      refine um_aload_n (pc2 := 33) d_La_addRows_32 rfl rfl ?_
      refine um_getR (pc2 := 36) d_La_addRows_33 rfl f_La_40 rfl rfl ?_
      refine um_getI (pc2 := 39) d_La_addRows_36 rfl f_La_74 rfl rfl ?_
      refine um_icmp_ge (pc2 := 42) (tgt := 55) d_La_addRows_39 rfl rfl (fun z => ?_) (fun z => ?_)
      · replace h := h.1 z
        refine um_forget [true, true, true, true, false] rfl ?_
        exact b_La_addRows_55 (fun _ _ _ _ z => ih _ _ _ _ z) h
      · replace h := h.2 z
        refine um_aload_n (pc2 := 43) d_La_addRows_42 rfl rfl ?_
        refine um_iload_n (pc2 := 44) d_La_addRows_43 rfl rfl ?_
        refine um_iload_n (pc2 := 45) d_La_addRows_44 rfl rfl ?_
        refine um_callV2z (pc2 := 48) d_La_addRows_45 rfl g_La_242 rfl (Nat.le_of_ble_eq_true rfl) (Nat.le_of_ble_eq_true rfl) (Nat.le_of_ble_eq_true rfl) (c_La_takesFrom h) (fun t2 σ1 h => ?_)
        refine um_if_eq (pc2 := 51) (tgt := 55) d_La_addRows_48 rfl rfl (fun z => ?_) (fun z => ?_)
        · replace h := h.1 (um_b0 z)
          refine um_forget [true, true, true, true, false] rfl ?_
          exact b_La_addRows_55 (fun _ _ _ _ z => ih _ _ _ _ z) h
        · replace h := h.2 (um_b1 z)
          refine um_iconst (pc2 := 52) (v := 1) d_La_addRows_51 rfl (by decide) ?_
          refine um_goto (tgt := 56) d_La_addRows_52 rfl ?_
          refine um_istore (pc2 := 58) (ls2 := [some (.ref 3), some (.int v1), some (.int v2), some (.int v3), some (.int 1)]) d_La_addRows_56 rfl (Nat.le_of_ble_eq_true rfl) rfl ?_
          refine um_forget [true, true, true, true, true] rfl ?_
          exact b_La_addRows_58 (fun _ _ _ _ z => ih _ _ _ _ z) h
set_option maxHeartbeats 4000000 in
set_option maxRecDepth 100000 in
theorem c_La_addRows {a1 : Int32} {σ : um_S} {Q : um_S → Prop} (h : wp_La_addRows a1 σ Q) : um_Con um_cl um_AW um_L um_SX 3 65 M_La_addRows [.ref 3, .int a1] σ (um_Qv Q) := by
  refine um_con (by decide) (Nat.le_of_ble_eq_true rfl) (fun v hv => by simp only [List.mem_cons, List.not_mem_nil, or_false] at hv; rcases hv with rfl | rfl <;> rfl) ?_
  show um_Ev um_cl um_AW um_L um_SX M_La_addRows 3 65 0 [some (.ref 3), some (.int a1), none, none, none] [] σ (um_Qv Q)
  unfold wp_La_addRows at h
  refine um_aload_n (pc2 := 1) d_La_addRows_0 rfl rfl ?_
  refine um_getR (pc2 := 4) d_La_addRows_1 rfl f_La_12 rfl rfl ?_
  refine um_aload_n (pc2 := 5) d_La_addRows_4 rfl rfl ?_
  refine um_getR (pc2 := 8) d_La_addRows_5 rfl f_La_28 rfl rfl ?_
  refine um_getR (pc2 := 11) d_La_addRows_8 rfl f_La_237 rfl rfl ?_
  refine um_iload_n (pc2 := 12) d_La_addRows_11 rfl rfl ?_
  refine um_iald (pc2 := 13) d_La_addRows_12 rfl rfl h.1 rfl ?_
  replace h := h.2
  refine um_callV1v (pc2 := 16) d_La_addRows_13 rfl g_La_239 rfl (Nat.le_of_ble_eq_true rfl) (Nat.le_of_ble_eq_true rfl) (Nat.le_of_ble_eq_true rfl) (c_Sc_lookAt h) (fun σ1 h => ?_)
  refine um_iconst (pc2 := 17) (v := (-1)) d_La_addRows_16 rfl (by decide) ?_
  refine um_istore_n (pc2 := 18) (ls2 := [some (.ref 3), some (.int a1), some (.int (-1)), none, none]) d_La_addRows_17 rfl (Nat.le_of_ble_eq_true rfl) rfl ?_
  refine um_iconst (pc2 := 19) (v := 0) d_La_addRows_18 rfl (by decide) ?_
  refine um_istore_n (pc2 := 20) (ls2 := [some (.ref 3), some (.int a1), some (.int (-1)), some (.int 0), none]) d_La_addRows_19 rfl (Nat.le_of_ble_eq_true rfl) rfl ?_
  refine um_forget [true, true, true, true, false] rfl ?_
  exact b_La_addRows_20 _ _ _ _ _ h
def wp_Sc_within (a0 : Int32) (a1 : Int32) (σ : um_S) (Q : Int32 → um_S → Prop) : Prop :=
  Q ((a0 <<< (2 &&& 31)) ||| a1) σ
set_option maxHeartbeats 4000000 in
set_option maxRecDepth 100000 in
theorem c_Sc_within {a0 : Int32} {a1 : Int32} {σ : um_S} {Q : Int32 → um_S → Prop} (h : wp_Sc_within a0 a1 σ Q) : um_Con um_cl um_AW um_L um_SX 0 0 M_Sc_within [.int a0, .int a1] σ (um_Qi Q) := by
  refine um_con (by decide) (Nat.le_of_ble_eq_true rfl) (fun v hv => by simp only [List.mem_cons, List.not_mem_nil, or_false] at hv; rcases hv with rfl | rfl <;> rfl) ?_
  show um_Ev um_cl um_AW um_L um_SX M_Sc_within 0 0 0 [some (.int a0), some (.int a1)] [] σ (um_Qi Q)
  unfold wp_Sc_within at h
  refine um_iload_n (pc2 := 1) d_Sc_within_0 rfl rfl ?_
  refine um_iconst (pc2 := 2) (v := 2) d_Sc_within_1 rfl (by decide) ?_
  refine um_ishl (pc2 := 3) d_Sc_within_2 rfl ?_
  refine um_iload_n (pc2 := 4) d_Sc_within_3 rfl rfl ?_
  refine um_ior (pc2 := 5) d_Sc_within_4 rfl ?_
  exact um_iret d_Sc_within_5 rfl ⟨_, rfl, h⟩
def wp_Wo_push (a1 : Int32) (a2 : Int32) (a3 : Int32) (σ : um_S) (Q : um_S → Prop) : Prop :=
  (2001 ≤ (σ 6 4) → Q σ) ∧ (¬ 2001 ≤ (σ 6 4) → vp_in (σ 6 4) 2001 ∧ ∀ σ1 : um_S, σ1 = um_up σ 31 (σ 6 4).toNatClampNeg a1 → vp_in (σ1 6 4) 2001 ∧ ∀ σ2 : um_S, σ2 = um_up σ1 32 (σ1 6 4).toNatClampNeg a2 → vp_in (σ2 6 4) 2001 ∧ ∀ σ3 : um_S, σ3 = um_up σ2 33 (σ2 6 4).toNatClampNeg a3 → vp_in (σ3 6 4) 2001 ∧ ∀ σ4 : um_S, σ4 = um_up σ3 34 (σ3 6 4).toNatClampNeg (-1) → ∀ σ5 : um_S, σ5 = um_up σ4 6 4 ((σ4 6 4) + 1) → Q σ5)
set_option maxHeartbeats 4000000 in
set_option maxRecDepth 100000 in
theorem c_Wo_push {a1 : Int32} {a2 : Int32} {a3 : Int32} {σ : um_S} {Q : um_S → Prop} (h : wp_Wo_push a1 a2 a3 σ Q) : um_Con um_cl um_AW um_L um_SX 0 0 M_Wo_push [.ref 6, .int a1, .int a2, .int a3] σ (um_Qv Q) := by
  refine um_con (by decide) (Nat.le_of_ble_eq_true rfl) (fun v hv => by simp only [List.mem_cons, List.not_mem_nil, or_false] at hv; rcases hv with rfl | rfl | rfl | rfl <;> rfl) ?_
  show um_Ev um_cl um_AW um_L um_SX M_Wo_push 0 0 0 [some (.ref 6), some (.int a1), some (.int a2), some (.int a3)] [] σ (um_Qv Q)
  unfold wp_Wo_push at h
  refine um_aload_n (pc2 := 1) d_Wo_push_0 rfl rfl ?_
  refine um_getI (pc2 := 4) d_Wo_push_1 rfl f_Wo_24 rfl rfl ?_
  refine um_sipush (pc2 := 7) (v := 2001) d_Wo_push_4 rfl (by decide) ?_
  refine um_icmp_ge (pc2 := 10) (tgt := 60) d_Wo_push_7 rfl rfl (fun z => ?_) (fun z => ?_)
  · replace h := h.1 z
    exact um_vret d_Wo_push_60 rfl ⟨rfl, h⟩
  · replace h := h.2 z
    refine um_aload_n (pc2 := 11) d_Wo_push_10 rfl rfl ?_
    refine um_getR (pc2 := 14) d_Wo_push_11 rfl f_Wo_11 rfl rfl ?_
    refine um_aload_n (pc2 := 15) d_Wo_push_14 rfl rfl ?_
    refine um_getI (pc2 := 18) d_Wo_push_15 rfl f_Wo_24 rfl rfl ?_
    refine um_iload_n (pc2 := 19) d_Wo_push_18 rfl rfl ?_
    refine um_iast (pc2 := 20) d_Wo_push_19 rfl rfl h.1 rfl (um_gen (fun σ1 eσ1 => ?_))
    replace h := h.2 σ1 eσ1
    refine um_aload_n (pc2 := 21) d_Wo_push_20 rfl rfl ?_
    refine um_getR (pc2 := 24) d_Wo_push_21 rfl f_Wo_15 rfl rfl ?_
    refine um_aload_n (pc2 := 25) d_Wo_push_24 rfl rfl ?_
    refine um_getI (pc2 := 28) d_Wo_push_25 rfl f_Wo_24 rfl rfl ?_
    refine um_iload_n (pc2 := 29) d_Wo_push_28 rfl rfl ?_
    refine um_iast (pc2 := 30) d_Wo_push_29 rfl rfl h.1 rfl (um_gen (fun σ2 eσ2 => ?_))
    replace h := h.2 σ2 eσ2
    refine um_aload_n (pc2 := 31) d_Wo_push_30 rfl rfl ?_
    refine um_getR (pc2 := 34) d_Wo_push_31 rfl f_Wo_18 rfl rfl ?_
    refine um_aload_n (pc2 := 35) d_Wo_push_34 rfl rfl ?_
    refine um_getI (pc2 := 38) d_Wo_push_35 rfl f_Wo_24 rfl rfl ?_
    refine um_iload_n (pc2 := 39) d_Wo_push_38 rfl rfl ?_
    refine um_iast (pc2 := 40) d_Wo_push_39 rfl rfl h.1 rfl (um_gen (fun σ3 eσ3 => ?_))
    replace h := h.2 σ3 eσ3
    refine um_aload_n (pc2 := 41) d_Wo_push_40 rfl rfl ?_
    refine um_getR (pc2 := 44) d_Wo_push_41 rfl f_Wo_21 rfl rfl ?_
    refine um_aload_n (pc2 := 45) d_Wo_push_44 rfl rfl ?_
    refine um_getI (pc2 := 48) d_Wo_push_45 rfl f_Wo_24 rfl rfl ?_
    refine um_iconst (pc2 := 49) (v := (-1)) d_Wo_push_48 rfl (by decide) ?_
    refine um_iast (pc2 := 50) d_Wo_push_49 rfl rfl h.1 rfl (um_gen (fun σ4 eσ4 => ?_))
    replace h := h.2 σ4 eσ4
    refine um_aload_n (pc2 := 51) d_Wo_push_50 rfl rfl ?_
    refine um_dup (pc2 := 52) d_Wo_push_51 rfl rfl ?_
    refine um_getI (pc2 := 55) d_Wo_push_52 rfl f_Wo_24 rfl rfl ?_
    refine um_iconst (pc2 := 56) (v := 1) d_Wo_push_55 rfl (by decide) ?_
    refine um_iadd (pc2 := 57) d_Wo_push_56 rfl ?_
    refine um_putI (pc2 := 60) d_Wo_push_57 rfl fw_Wo_24 rfl rfl (um_gen (fun σ5 eσ5 => ?_))
    replace h := h σ5 eσ5
    exact um_vret d_Wo_push_60 rfl ⟨rfl, h⟩
def wp_La_begin (a1 : Int32) (a2 : Int32) (σ : um_S) (Q : um_S → Prop) : Prop :=
  ((σ 2 7) < 2000 → ∀ σ1 : um_S, σ1 = um_up σ 2 7 ((σ 2 7) + 1) → wp_Wo_push a1 a2 0 σ1 (fun σ2 => Q σ2)) ∧ (¬ (σ 2 7) < 2000 → ∀ σ3 : um_S, σ3 = um_up σ 3 8 (-2) → Q σ3)
set_option maxHeartbeats 4000000 in
set_option maxRecDepth 100000 in
theorem c_La_begin {a1 : Int32} {a2 : Int32} {σ : um_S} {Q : um_S → Prop} (h : wp_La_begin a1 a2 σ Q) : um_Con um_cl um_AW um_L um_SX 1 23 M_La_begin [.ref 3, .int a1, .int a2] σ (um_Qv Q) := by
  refine um_con (by decide) (Nat.le_of_ble_eq_true rfl) (fun v hv => by simp only [List.mem_cons, List.not_mem_nil, or_false] at hv; rcases hv with rfl | rfl | rfl <;> rfl) ?_
  show um_Ev um_cl um_AW um_L um_SX M_La_begin 1 23 0 [some (.ref 3), some (.int a1), some (.int a2)] [] σ (um_Qv Q)
  unfold wp_La_begin at h
  refine um_aload_n (pc2 := 1) d_La_begin_0 rfl rfl ?_
  refine um_getR (pc2 := 4) d_La_begin_1 rfl f_La_40 rfl rfl ?_
  refine um_getI (pc2 := 7) d_La_begin_4 rfl f_La_227 rfl rfl ?_
  refine um_sipush (pc2 := 10) (v := 2000) d_La_begin_7 rfl (by decide) ?_
  refine um_icmp_lt (pc2 := 13) (tgt := 20) d_La_begin_10 rfl rfl (fun z => ?_) (fun z => ?_)
  · replace h := h.1 z
    refine um_aload_n (pc2 := 21) d_La_begin_20 rfl rfl ?_
    refine um_getR (pc2 := 24) d_La_begin_21 rfl f_La_40 rfl rfl ?_
    refine um_dup (pc2 := 25) d_La_begin_24 rfl rfl ?_
    refine um_getI (pc2 := 28) d_La_begin_25 rfl f_La_227 rfl rfl ?_
    refine um_iconst (pc2 := 29) (v := 1) d_La_begin_28 rfl (by decide) ?_
    refine um_iadd (pc2 := 30) d_La_begin_29 rfl ?_
    refine um_putI (pc2 := 33) d_La_begin_30 rfl fw_La_227 rfl rfl (um_gen (fun σ1 eσ1 => ?_))
    replace h := h σ1 eσ1
    refine um_aload_n (pc2 := 34) d_La_begin_33 rfl rfl ?_
    refine um_getR (pc2 := 37) d_La_begin_34 rfl f_La_21 rfl rfl ?_
    refine um_iload_n (pc2 := 38) d_La_begin_37 rfl rfl ?_
    refine um_iload_n (pc2 := 39) d_La_begin_38 rfl rfl ?_
    refine um_iconst (pc2 := 40) (v := 0) d_La_begin_39 rfl (by decide) ?_
    refine um_callV3v (pc2 := 43) d_La_begin_40 rfl g_La_106 rfl (Nat.le_of_ble_eq_true rfl) (Nat.le_of_ble_eq_true rfl) (Nat.le_of_ble_eq_true rfl) (c_Wo_push h) (fun σ2 h => ?_)
    exact um_vret d_La_begin_43 rfl ⟨rfl, h⟩
  · replace h := h.2 z
    refine um_aload_n (pc2 := 14) d_La_begin_13 rfl rfl ?_
    refine um_bipush (pc2 := 16) (v := (-2)) d_La_begin_14 rfl (by decide) ?_
    refine um_putI (pc2 := 19) d_La_begin_16 rfl fw_La_61 rfl rfl (um_gen (fun σ3 eσ3 => ?_))
    replace h := h σ3 eσ3
    exact um_vret d_La_begin_19 rfl ⟨rfl, h⟩
def wp_La_emit (a1 : Int32) (a2 : Int32) (a3 : Int32) (σ : um_S) (Q : um_S → Prop) : Prop :=
  ((σ 3 8) = 0 → ((σ 2 5) < 1000 → vp_in (σ 2 5) 1000 ∧ ∀ σ1 : um_S, σ1 = um_up σ 11 (σ 2 5).toNatClampNeg a1 → vp_in (σ1 2 5) 1000 ∧ ∀ σ2 : um_S, σ2 = um_up σ1 12 (σ1 2 5).toNatClampNeg a2 → vp_in (σ2 2 5) 1000 ∧ ∀ σ3 : um_S, σ3 = um_up σ2 13 (σ2 2 5).toNatClampNeg a3 → ∀ σ4 : um_S, σ4 = um_up σ3 2 5 ((σ3 2 5) + 1) → Q σ4) ∧ (¬ (σ 2 5) < 1000 → ∀ σ5 : um_S, σ5 = um_up σ 3 8 (-2) → Q σ5)) ∧ (¬ (σ 3 8) = 0 → Q σ)
set_option maxHeartbeats 4000000 in
set_option maxRecDepth 100000 in
theorem c_La_emit {a1 : Int32} {a2 : Int32} {a3 : Int32} {σ : um_S} {Q : um_S → Prop} (h : wp_La_emit a1 a2 a3 σ Q) : um_Con um_cl um_AW um_L um_SX 0 0 M_La_emit [.ref 3, .int a1, .int a2, .int a3] σ (um_Qv Q) := by
  refine um_con (by decide) (Nat.le_of_ble_eq_true rfl) (fun v hv => by simp only [List.mem_cons, List.not_mem_nil, or_false] at hv; rcases hv with rfl | rfl | rfl | rfl <;> rfl) ?_
  show um_Ev um_cl um_AW um_L um_SX M_La_emit 0 0 0 [some (.ref 3), some (.int a1), some (.int a2), some (.int a3)] [] σ (um_Qv Q)
  unfold wp_La_emit at h
  refine um_aload_n (pc2 := 1) d_La_emit_0 rfl rfl ?_
  refine um_getI (pc2 := 4) d_La_emit_1 rfl f_La_61 rfl rfl ?_
  refine um_if_eq (pc2 := 7) (tgt := 8) d_La_emit_4 rfl rfl (fun z => ?_) (fun z => ?_)
  · replace h := h.1 z
    refine um_aload_n (pc2 := 9) d_La_emit_8 rfl rfl ?_
    refine um_getR (pc2 := 12) d_La_emit_9 rfl f_La_40 rfl rfl ?_
    refine um_getI (pc2 := 15) d_La_emit_12 rfl f_La_74 rfl rfl ?_
    refine um_sipush (pc2 := 18) (v := 1000) d_La_emit_15 rfl (by decide) ?_
    refine um_icmp_lt (pc2 := 21) (tgt := 28) d_La_emit_18 rfl rfl (fun z => ?_) (fun z => ?_)
    · replace h := h.1 z
      refine um_aload_n (pc2 := 29) d_La_emit_28 rfl rfl ?_
      refine um_getR (pc2 := 32) d_La_emit_29 rfl f_La_40 rfl rfl ?_
      refine um_getR (pc2 := 35) d_La_emit_32 rfl f_La_230 rfl rfl ?_
      refine um_aload_n (pc2 := 36) d_La_emit_35 rfl rfl ?_
      refine um_getR (pc2 := 39) d_La_emit_36 rfl f_La_40 rfl rfl ?_
      refine um_getI (pc2 := 42) d_La_emit_39 rfl f_La_74 rfl rfl ?_
      refine um_iload_n (pc2 := 43) d_La_emit_42 rfl rfl ?_
      refine um_iast (pc2 := 44) d_La_emit_43 rfl rfl h.1 rfl (um_gen (fun σ1 eσ1 => ?_))
      replace h := h.2 σ1 eσ1
      refine um_aload_n (pc2 := 45) d_La_emit_44 rfl rfl ?_
      refine um_getR (pc2 := 48) d_La_emit_45 rfl f_La_40 rfl rfl ?_
      refine um_getR (pc2 := 51) d_La_emit_48 rfl f_La_233 rfl rfl ?_
      refine um_aload_n (pc2 := 52) d_La_emit_51 rfl rfl ?_
      refine um_getR (pc2 := 55) d_La_emit_52 rfl f_La_40 rfl rfl ?_
      refine um_getI (pc2 := 58) d_La_emit_55 rfl f_La_74 rfl rfl ?_
      refine um_iload_n (pc2 := 59) d_La_emit_58 rfl rfl ?_
      refine um_iast (pc2 := 60) d_La_emit_59 rfl rfl h.1 rfl (um_gen (fun σ2 eσ2 => ?_))
      replace h := h.2 σ2 eσ2
      refine um_aload_n (pc2 := 61) d_La_emit_60 rfl rfl ?_
      refine um_getR (pc2 := 64) d_La_emit_61 rfl f_La_40 rfl rfl ?_
      refine um_getR (pc2 := 67) d_La_emit_64 rfl f_La_236 rfl rfl ?_
      refine um_aload_n (pc2 := 68) d_La_emit_67 rfl rfl ?_
      refine um_getR (pc2 := 71) d_La_emit_68 rfl f_La_40 rfl rfl ?_
      refine um_getI (pc2 := 74) d_La_emit_71 rfl f_La_74 rfl rfl ?_
      refine um_iload_n (pc2 := 75) d_La_emit_74 rfl rfl ?_
      refine um_iast (pc2 := 76) d_La_emit_75 rfl rfl h.1 rfl (um_gen (fun σ3 eσ3 => ?_))
      replace h := h.2 σ3 eσ3
      refine um_aload_n (pc2 := 77) d_La_emit_76 rfl rfl ?_
      refine um_getR (pc2 := 80) d_La_emit_77 rfl f_La_40 rfl rfl ?_
      refine um_dup (pc2 := 81) d_La_emit_80 rfl rfl ?_
      refine um_getI (pc2 := 84) d_La_emit_81 rfl f_La_74 rfl rfl ?_
      refine um_iconst (pc2 := 85) (v := 1) d_La_emit_84 rfl (by decide) ?_
      refine um_iadd (pc2 := 86) d_La_emit_85 rfl ?_
      refine um_putI (pc2 := 89) d_La_emit_86 rfl fw_La_74 rfl rfl (um_gen (fun σ4 eσ4 => ?_))
      replace h := h σ4 eσ4
      exact um_vret d_La_emit_89 rfl ⟨rfl, h⟩
    · replace h := h.2 z
      refine um_aload_n (pc2 := 22) d_La_emit_21 rfl rfl ?_
      refine um_bipush (pc2 := 24) (v := (-2)) d_La_emit_22 rfl (by decide) ?_
      refine um_putI (pc2 := 27) d_La_emit_24 rfl fw_La_61 rfl rfl (um_gen (fun σ5 eσ5 => ?_))
      replace h := h σ5 eσ5
      exact um_vret d_La_emit_27 rfl ⟨rfl, h⟩
  · replace h := h.2 z
    exact um_vret d_La_emit_7 rfl ⟨rfl, h⟩
def wp_La_setGoal (a1 : Int32) (a2 : Int32) (σ : um_S) (Q : um_S → Prop) : Prop :=
  (a1 < 0 → Q σ) ∧ (¬ a1 < 0 → ((σ 2 5) ≤ a1 → Q σ) ∧ (¬ (σ 2 5) ≤ a1 → vp_in a1 1000 ∧ ∀ σ1 : um_S, σ1 = um_up σ 12 a1.toNatClampNeg a2 → Q σ1))
set_option maxHeartbeats 4000000 in
set_option maxRecDepth 100000 in
theorem c_La_setGoal {a1 : Int32} {a2 : Int32} {σ : um_S} {Q : um_S → Prop} (h : wp_La_setGoal a1 a2 σ Q) : um_Con um_cl um_AW um_L um_SX 0 0 M_La_setGoal [.ref 3, .int a1, .int a2] σ (um_Qv Q) := by
  refine um_con (by decide) (Nat.le_of_ble_eq_true rfl) (fun v hv => by simp only [List.mem_cons, List.not_mem_nil, or_false] at hv; rcases hv with rfl | rfl | rfl <;> rfl) ?_
  show um_Ev um_cl um_AW um_L um_SX M_La_setGoal 0 0 0 [some (.ref 3), some (.int a1), some (.int a2)] [] σ (um_Qv Q)
  unfold wp_La_setGoal at h
  refine um_iload_n (pc2 := 1) d_La_setGoal_0 rfl rfl ?_
  refine um_if_lt (pc2 := 4) (tgt := 25) d_La_setGoal_1 rfl rfl (fun z => ?_) (fun z => ?_)
  · replace h := h.1 z
    exact um_vret d_La_setGoal_25 rfl ⟨rfl, h⟩
  · replace h := h.2 z
    refine um_iload_n (pc2 := 5) d_La_setGoal_4 rfl rfl ?_
    refine um_aload_n (pc2 := 6) d_La_setGoal_5 rfl rfl ?_
    refine um_getR (pc2 := 9) d_La_setGoal_6 rfl f_La_40 rfl rfl ?_
    refine um_getI (pc2 := 12) d_La_setGoal_9 rfl f_La_74 rfl rfl ?_
    refine um_icmp_ge (pc2 := 15) (tgt := 25) d_La_setGoal_12 rfl rfl (fun z => ?_) (fun z => ?_)
    · replace h := h.1 z
      exact um_vret d_La_setGoal_25 rfl ⟨rfl, h⟩
    · replace h := h.2 z
      refine um_aload_n (pc2 := 16) d_La_setGoal_15 rfl rfl ?_
      refine um_getR (pc2 := 19) d_La_setGoal_16 rfl f_La_40 rfl rfl ?_
      refine um_getR (pc2 := 22) d_La_setGoal_19 rfl f_La_233 rfl rfl ?_
      refine um_iload_n (pc2 := 23) d_La_setGoal_22 rfl rfl ?_
      refine um_iload_n (pc2 := 24) d_La_setGoal_23 rfl rfl ?_
      refine um_iast (pc2 := 25) d_La_setGoal_24 rfl rfl h.1 rfl (um_gen (fun σ1 eσ1 => ?_))
      replace h := h.2 σ1 eσ1
      exact um_vret d_La_setGoal_25 rfl ⟨rfl, h⟩
def wp_Wo_pop (σ : um_S) (Q : um_S → Prop) : Prop :=
  ((σ 6 4) ≤ 0 → Q σ) ∧ (¬ (σ 6 4) ≤ 0 → ∀ σ1 : um_S, σ1 = um_up σ 6 4 ((σ 6 4) - 1) → Q σ1)
set_option maxHeartbeats 4000000 in
set_option maxRecDepth 100000 in
theorem c_Wo_pop {σ : um_S} {Q : um_S → Prop} (h : wp_Wo_pop σ Q) : um_Con um_cl um_AW um_L um_SX 0 0 M_Wo_pop [.ref 6] σ (um_Qv Q) := by
  refine um_con (by decide) (Nat.le_of_ble_eq_true rfl) (fun v hv => by simp only [List.mem_cons, List.not_mem_nil, or_false] at hv; rcases hv with rfl <;> rfl) ?_
  show um_Ev um_cl um_AW um_L um_SX M_Wo_pop 0 0 0 [some (.ref 6)] [] σ (um_Qv Q)
  unfold wp_Wo_pop at h
  refine um_aload_n (pc2 := 1) d_Wo_pop_0 rfl rfl ?_
  refine um_getI (pc2 := 4) d_Wo_pop_1 rfl f_Wo_24 rfl rfl ?_
  refine um_if_le (pc2 := 7) (tgt := 17) d_Wo_pop_4 rfl rfl (fun z => ?_) (fun z => ?_)
  · replace h := h.1 z
    exact um_vret d_Wo_pop_17 rfl ⟨rfl, h⟩
  · replace h := h.2 z
    refine um_aload_n (pc2 := 8) d_Wo_pop_7 rfl rfl ?_
    refine um_dup (pc2 := 9) d_Wo_pop_8 rfl rfl ?_
    refine um_getI (pc2 := 12) d_Wo_pop_9 rfl f_Wo_24 rfl rfl ?_
    refine um_iconst (pc2 := 13) (v := 1) d_Wo_pop_12 rfl (by decide) ?_
    refine um_isub (pc2 := 14) d_Wo_pop_13 rfl ?_
    refine um_putI (pc2 := 17) d_Wo_pop_14 rfl fw_Wo_24 rfl rfl (um_gen (fun σ1 eσ1 => ?_))
    replace h := h σ1 eσ1
    exact um_vret d_Wo_pop_17 rfl ⟨rfl, h⟩
def wp_La_turnIf (a1 : Int32) (a2 : Int32) (a3 : Int32) (σ : um_S) (Q : um_S → Prop) : Prop :=
  vp_in a1 2001 ∧ ∀ x1 : Int32, x1 = (σ 32 a1.toNatClampNeg) → ∀ x2 : Int32, x2 = (σ 2 5) → (a3 = 0 → wp_Tr_part a2 0 σ (fun x4 σ3 => wp_La_begin x4 x1 σ3 (fun σ5 => Q σ5))) ∧ (¬ a3 = 0 → (a3 = 1 → vp_in a1 2001 ∧ ∀ σ6 : um_S, σ6 = um_up σ 34 a1.toNatClampNeg x2 → wp_La_emit 10 0 x1 σ6 (fun σ7 => wp_Tr_part a2 1 σ7 (fun x9 σ8 => wp_La_begin x9 x1 σ8 (fun σ10 => Q σ10)))) ∧ (¬ a3 = 1 → (a3 = 2 → wp_La_emit 11 0 x1 σ (fun σ11 => vp_in a1 2001 ∧ wp_La_setGoal (σ11 34 a1.toNatClampNeg) (σ11 2 5) σ11 (fun σ12 => vp_in a1 2001 ∧ ∀ σ13 : um_S, σ13 = um_up σ12 34 a1.toNatClampNeg x2 → wp_Tr_part a2 2 σ13 (fun x15 σ14 => wp_La_begin x15 x1 σ14 (fun σ16 => Q σ16))))) ∧ (¬ a3 = 2 → vp_in a1 2001 ∧ wp_La_setGoal (σ 34 a1.toNatClampNeg) x2 σ (fun σ17 => wp_Wo_pop σ17 (fun σ18 => Q σ18)))))
set_option maxHeartbeats 4000000 in
set_option maxRecDepth 100000 in
theorem c_La_turnIf {a1 : Int32} {a2 : Int32} {a3 : Int32} {σ : um_S} {Q : um_S → Prop} (h : wp_La_turnIf a1 a2 a3 σ Q) : um_Con um_cl um_AW um_L um_SX 2 45 M_La_turnIf [.ref 3, .int a1, .int a2, .int a3] σ (um_Qv Q) := by
  refine um_con (by decide) (Nat.le_of_ble_eq_true rfl) (fun v hv => by simp only [List.mem_cons, List.not_mem_nil, or_false] at hv; rcases hv with rfl | rfl | rfl | rfl <;> rfl) ?_
  show um_Ev um_cl um_AW um_L um_SX M_La_turnIf 2 45 0 [some (.ref 3), some (.int a1), some (.int a2), some (.int a3), none, none] [] σ (um_Qv Q)
  unfold wp_La_turnIf at h
  refine um_aload_n (pc2 := 1) d_La_turnIf_0 rfl rfl ?_
  refine um_getR (pc2 := 4) d_La_turnIf_1 rfl f_La_21 rfl rfl ?_
  refine um_getR (pc2 := 7) d_La_turnIf_4 rfl f_La_154 rfl rfl ?_
  refine um_iload_n (pc2 := 8) d_La_turnIf_7 rfl rfl ?_
  refine um_iald (pc2 := 9) d_La_turnIf_8 rfl rfl h.1 rfl ?_
  replace h := h.2
  refine um_top (fun x1 ex1 => ?_)
  replace h := h x1 ex1
  refine um_istore (pc2 := 11) (ls2 := [some (.ref 3), some (.int a1), some (.int a2), some (.int a3), some (.int x1), none]) d_La_turnIf_9 rfl (Nat.le_of_ble_eq_true rfl) rfl ?_
  refine um_aload_n (pc2 := 12) d_La_turnIf_11 rfl rfl ?_
  refine um_getR (pc2 := 15) d_La_turnIf_12 rfl f_La_40 rfl rfl ?_
  refine um_getI (pc2 := 18) d_La_turnIf_15 rfl f_La_74 rfl rfl ?_
  refine um_top (fun x2 ex2 => ?_)
  replace h := h x2 ex2
  refine um_istore (pc2 := 20) (ls2 := [some (.ref 3), some (.int a1), some (.int a2), some (.int a3), some (.int x1), some (.int x2)]) d_La_turnIf_18 rfl (Nat.le_of_ble_eq_true rfl) rfl ?_
  refine um_iload_n (pc2 := 21) d_La_turnIf_20 rfl rfl ?_
  by_cases z0 : a3 = 0
  · replace h := h.1 z0
    refine um_tableAt (tgt := 48) d_La_turnIf_21 z0 (kk := 0) (by decide) (by decide) (by decide) rfl rfl ?_
    refine um_aload_n (pc2 := 49) d_La_turnIf_48 rfl rfl ?_
    refine um_aload_n (pc2 := 50) d_La_turnIf_49 rfl rfl ?_
    refine um_getR (pc2 := 53) d_La_turnIf_50 rfl f_La_36 rfl rfl ?_
    refine um_iload_n (pc2 := 54) d_La_turnIf_53 rfl rfl ?_
    refine um_iconst (pc2 := 55) (v := 0) d_La_turnIf_54 rfl (by decide) ?_
    refine um_callV2i (pc2 := 58) d_La_turnIf_55 rfl g_La_141 rfl (Nat.le_of_ble_eq_true rfl) (Nat.le_of_ble_eq_true rfl) (Nat.le_of_ble_eq_true rfl) (c_Tr_part h) (fun x4 σ3 h => ?_)
    refine um_iload (pc2 := 60) d_La_turnIf_58 rfl rfl ?_
    refine um_callV2v (pc2 := 63) d_La_turnIf_60 rfl g_La_86 rfl (Nat.le_of_ble_eq_true rfl) (Nat.le_of_ble_eq_true rfl) (Nat.le_of_ble_eq_true rfl) (c_La_begin h) (fun σ5 h => ?_)
    refine um_goto (tgt := 184) d_La_turnIf_63 rfl ?_
    exact um_vret d_La_turnIf_184 rfl ⟨rfl, h⟩
  replace h := h.2 z0
  by_cases z1 : a3 = 1
  · replace h := h.1 z1
    refine um_tableAt (tgt := 66) d_La_turnIf_21 z1 (kk := 1) (by decide) (by decide) (by decide) rfl rfl ?_
    refine um_aload_n (pc2 := 67) d_La_turnIf_66 rfl rfl ?_
    refine um_getR (pc2 := 70) d_La_turnIf_67 rfl f_La_21 rfl rfl ?_
    refine um_getR (pc2 := 73) d_La_turnIf_70 rfl f_La_157 rfl rfl ?_
    refine um_iload_n (pc2 := 74) d_La_turnIf_73 rfl rfl ?_
    refine um_iload (pc2 := 76) d_La_turnIf_74 rfl rfl ?_
    refine um_iast (pc2 := 77) d_La_turnIf_76 rfl rfl h.1 rfl (um_gen (fun σ6 eσ6 => ?_))
    replace h := h.2 σ6 eσ6
    refine um_aload_n (pc2 := 78) d_La_turnIf_77 rfl rfl ?_
    refine um_bipush (pc2 := 80) (v := 10) d_La_turnIf_78 rfl (by decide) ?_
    refine um_iconst (pc2 := 81) (v := 0) d_La_turnIf_80 rfl (by decide) ?_
    refine um_iload (pc2 := 83) d_La_turnIf_81 rfl rfl ?_
    refine um_callV3v (pc2 := 86) d_La_turnIf_83 rfl g_La_95 rfl (Nat.le_of_ble_eq_true rfl) (Nat.le_of_ble_eq_true rfl) (Nat.le_of_ble_eq_true rfl) (c_La_emit h) (fun σ7 h => ?_)
    refine um_aload_n (pc2 := 87) d_La_turnIf_86 rfl rfl ?_
    refine um_aload_n (pc2 := 88) d_La_turnIf_87 rfl rfl ?_
    refine um_getR (pc2 := 91) d_La_turnIf_88 rfl f_La_36 rfl rfl ?_
    refine um_iload_n (pc2 := 92) d_La_turnIf_91 rfl rfl ?_
    refine um_iconst (pc2 := 93) (v := 1) d_La_turnIf_92 rfl (by decide) ?_
    refine um_callV2i (pc2 := 96) d_La_turnIf_93 rfl g_La_141 rfl (Nat.le_of_ble_eq_true rfl) (Nat.le_of_ble_eq_true rfl) (Nat.le_of_ble_eq_true rfl) (c_Tr_part h) (fun x9 σ8 h => ?_)
    refine um_iload (pc2 := 98) d_La_turnIf_96 rfl rfl ?_
    refine um_callV2v (pc2 := 101) d_La_turnIf_98 rfl g_La_86 rfl (Nat.le_of_ble_eq_true rfl) (Nat.le_of_ble_eq_true rfl) (Nat.le_of_ble_eq_true rfl) (c_La_begin h) (fun σ10 h => ?_)
    refine um_goto (tgt := 184) d_La_turnIf_101 rfl ?_
    exact um_vret d_La_turnIf_184 rfl ⟨rfl, h⟩
  replace h := h.2 z1
  by_cases z2 : a3 = 2
  · replace h := h.1 z2
    refine um_tableAt (tgt := 104) d_La_turnIf_21 z2 (kk := 2) (by decide) (by decide) (by decide) rfl rfl ?_
    refine um_aload_n (pc2 := 105) d_La_turnIf_104 rfl rfl ?_
    refine um_bipush (pc2 := 107) (v := 11) d_La_turnIf_105 rfl (by decide) ?_
    refine um_iconst (pc2 := 108) (v := 0) d_La_turnIf_107 rfl (by decide) ?_
    refine um_iload (pc2 := 110) d_La_turnIf_108 rfl rfl ?_
    refine um_callV3v (pc2 := 113) d_La_turnIf_110 rfl g_La_95 rfl (Nat.le_of_ble_eq_true rfl) (Nat.le_of_ble_eq_true rfl) (Nat.le_of_ble_eq_true rfl) (c_La_emit h) (fun σ11 h => ?_)
    refine um_aload_n (pc2 := 114) d_La_turnIf_113 rfl rfl ?_
    refine um_aload_n (pc2 := 115) d_La_turnIf_114 rfl rfl ?_
    refine um_getR (pc2 := 118) d_La_turnIf_115 rfl f_La_21 rfl rfl ?_
    refine um_getR (pc2 := 121) d_La_turnIf_118 rfl f_La_157 rfl rfl ?_
    refine um_iload_n (pc2 := 122) d_La_turnIf_121 rfl rfl ?_
    refine um_iald (pc2 := 123) d_La_turnIf_122 rfl rfl h.1 rfl ?_
    replace h := h.2
    refine um_aload_n (pc2 := 124) d_La_turnIf_123 rfl rfl ?_
    refine um_getR (pc2 := 127) d_La_turnIf_124 rfl f_La_40 rfl rfl ?_
    refine um_getI (pc2 := 130) d_La_turnIf_127 rfl f_La_74 rfl rfl ?_
    refine um_callV2v (pc2 := 133) d_La_turnIf_130 rfl g_La_160 rfl (Nat.le_of_ble_eq_true rfl) (Nat.le_of_ble_eq_true rfl) (Nat.le_of_ble_eq_true rfl) (c_La_setGoal h) (fun σ12 h => ?_)
    refine um_aload_n (pc2 := 134) d_La_turnIf_133 rfl rfl ?_
    refine um_getR (pc2 := 137) d_La_turnIf_134 rfl f_La_21 rfl rfl ?_
    refine um_getR (pc2 := 140) d_La_turnIf_137 rfl f_La_157 rfl rfl ?_
    refine um_iload_n (pc2 := 141) d_La_turnIf_140 rfl rfl ?_
    refine um_iload (pc2 := 143) d_La_turnIf_141 rfl rfl ?_
    refine um_iast (pc2 := 144) d_La_turnIf_143 rfl rfl h.1 rfl (um_gen (fun σ13 eσ13 => ?_))
    replace h := h.2 σ13 eσ13
    refine um_aload_n (pc2 := 145) d_La_turnIf_144 rfl rfl ?_
    refine um_aload_n (pc2 := 146) d_La_turnIf_145 rfl rfl ?_
    refine um_getR (pc2 := 149) d_La_turnIf_146 rfl f_La_36 rfl rfl ?_
    refine um_iload_n (pc2 := 150) d_La_turnIf_149 rfl rfl ?_
    refine um_iconst (pc2 := 151) (v := 2) d_La_turnIf_150 rfl (by decide) ?_
    refine um_callV2i (pc2 := 154) d_La_turnIf_151 rfl g_La_141 rfl (Nat.le_of_ble_eq_true rfl) (Nat.le_of_ble_eq_true rfl) (Nat.le_of_ble_eq_true rfl) (c_Tr_part h) (fun x15 σ14 h => ?_)
    refine um_iload (pc2 := 156) d_La_turnIf_154 rfl rfl ?_
    refine um_callV2v (pc2 := 159) d_La_turnIf_156 rfl g_La_86 rfl (Nat.le_of_ble_eq_true rfl) (Nat.le_of_ble_eq_true rfl) (Nat.le_of_ble_eq_true rfl) (c_La_begin h) (fun σ16 h => ?_)
    refine um_goto (tgt := 184) d_La_turnIf_159 rfl ?_
    exact um_vret d_La_turnIf_184 rfl ⟨rfl, h⟩
  replace h := h.2 z2
  have hE : um_Ev um_cl um_AW um_L um_SX M_La_turnIf 2 45 162 [some (.ref 3), some (.int a1), some (.int a2), some (.int a3), some (.int x1), some (.int x2)] [] σ (um_Qv Q) := by
    refine um_aload_n (pc2 := 163) d_La_turnIf_162 rfl rfl ?_
    refine um_aload_n (pc2 := 164) d_La_turnIf_163 rfl rfl ?_
    refine um_getR (pc2 := 167) d_La_turnIf_164 rfl f_La_21 rfl rfl ?_
    refine um_getR (pc2 := 170) d_La_turnIf_167 rfl f_La_157 rfl rfl ?_
    refine um_iload_n (pc2 := 171) d_La_turnIf_170 rfl rfl ?_
    refine um_iald (pc2 := 172) d_La_turnIf_171 rfl rfl h.1 rfl ?_
    replace h := h.2
    refine um_iload (pc2 := 174) d_La_turnIf_172 rfl rfl ?_
    refine um_callV2v (pc2 := 177) d_La_turnIf_174 rfl g_La_160 rfl (Nat.le_of_ble_eq_true rfl) (Nat.le_of_ble_eq_true rfl) (Nat.le_of_ble_eq_true rfl) (c_La_setGoal h) (fun σ17 h => ?_)
    refine um_aload_n (pc2 := 178) d_La_turnIf_177 rfl rfl ?_
    refine um_getR (pc2 := 181) d_La_turnIf_178 rfl f_La_21 rfl rfl ?_
    refine um_callV0v (pc2 := 184) d_La_turnIf_181 rfl g_La_147 rfl (Nat.le_of_ble_eq_true rfl) (Nat.le_of_ble_eq_true rfl) (Nat.le_of_ble_eq_true rfl) (c_Wo_pop h) (fun σ18 h => ?_)
    exact um_vret d_La_turnIf_184 rfl ⟨rfl, h⟩
  exact um_tableOut (tgt := 162) d_La_turnIf_21 (by have := um_toInt_ne (kk := 0) z0 (by decide); have := um_toInt_ne (kk := 1) z1 (by decide); have := um_toInt_ne (kk := 2) z2 (by decide); omega) rfl hE
