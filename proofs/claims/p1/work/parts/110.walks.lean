def wp_Mo_statement_141 (Q : um_S → Prop) (σ : um_S) : Prop :=
  ∀ σ1 : um_S, σ1 = um_up σ 38 37 ((σ 38 37) - 1) → Q σ1
def wp_Mo_statement (a1 : Int32) (a2 : Int32) (σ : um_S) (Q : um_S → Prop) : Prop :=
  vp_in a1 2002 ∧ ∀ x1 : Int32, x1 = (σ 63 a1.toNatClampNeg) → (a2 = 9 → vp_in a1 2002 ∧ (¬ (σ 67 a1.toNatClampNeg) = 1 → (¬ a2 = 9 → (¬ a2 = 10 → (¬ a2 = 9 → vp_in a1 2002 ∧ wp_Mo_put 12 0 (σ 64 a1.toNatClampNeg) σ (fun σ2 => wp_Mo_statement_141 Q σ2)) ∧ (a2 = 9 → vp_in x1 150 ∧ vp_in a1 2002 ∧ wp_Mo_put 12 (σ 40 x1.toNatClampNeg) (σ 64 a1.toNatClampNeg) σ (fun σ3 => wp_Mo_statement_141 Q σ3))) ∧ (a2 = 10 → (¬ a2 = 9 → vp_in a1 2002 ∧ wp_Mo_put 9 0 (σ 64 a1.toNatClampNeg) σ (fun σ4 => wp_Mo_statement_141 Q σ4)) ∧ (a2 = 9 → vp_in x1 150 ∧ vp_in a1 2002 ∧ wp_Mo_put 9 (σ 40 x1.toNatClampNeg) (σ 64 a1.toNatClampNeg) σ (fun σ5 => wp_Mo_statement_141 Q σ5)))) ∧ (a2 = 9 → (¬ a2 = 9 → vp_in a1 2002 ∧ wp_Mo_put 8 0 (σ 64 a1.toNatClampNeg) σ (fun σ6 => wp_Mo_statement_141 Q σ6)) ∧ (a2 = 9 → vp_in x1 150 ∧ vp_in a1 2002 ∧ wp_Mo_put 8 (σ 40 x1.toNatClampNeg) (σ 64 a1.toNatClampNeg) σ (fun σ7 => wp_Mo_statement_141 Q σ7)))) ∧ ((σ 67 a1.toNatClampNeg) = 1 → (¬ a2 = 9 → vp_in x1 150 ∧ wp_Mo_part a1 (σ 40 x1.toNatClampNeg) σ (fun σ8 => Q σ8)) ∧ (a2 = 9 → vp_in x1 150 ∧ wp_Mo_part a1 (σ 41 x1.toNatClampNeg) σ (fun σ9 => Q σ9)))) ∧ (¬ a2 = 9 → (a2 = 10 → vp_in a1 2002 ∧ (¬ (σ 67 a1.toNatClampNeg) = 1 → (¬ a2 = 9 → (¬ a2 = 10 → (¬ a2 = 9 → vp_in a1 2002 ∧ wp_Mo_put 12 0 (σ 64 a1.toNatClampNeg) σ (fun σ10 => wp_Mo_statement_141 Q σ10)) ∧ (a2 = 9 → vp_in x1 150 ∧ vp_in a1 2002 ∧ wp_Mo_put 12 (σ 40 x1.toNatClampNeg) (σ 64 a1.toNatClampNeg) σ (fun σ11 => wp_Mo_statement_141 Q σ11))) ∧ (a2 = 10 → (¬ a2 = 9 → vp_in a1 2002 ∧ wp_Mo_put 9 0 (σ 64 a1.toNatClampNeg) σ (fun σ12 => wp_Mo_statement_141 Q σ12)) ∧ (a2 = 9 → vp_in x1 150 ∧ vp_in a1 2002 ∧ wp_Mo_put 9 (σ 40 x1.toNatClampNeg) (σ 64 a1.toNatClampNeg) σ (fun σ13 => wp_Mo_statement_141 Q σ13)))) ∧ (a2 = 9 → (¬ a2 = 9 → vp_in a1 2002 ∧ wp_Mo_put 8 0 (σ 64 a1.toNatClampNeg) σ (fun σ14 => wp_Mo_statement_141 Q σ14)) ∧ (a2 = 9 → vp_in x1 150 ∧ vp_in a1 2002 ∧ wp_Mo_put 8 (σ 40 x1.toNatClampNeg) (σ 64 a1.toNatClampNeg) σ (fun σ15 => wp_Mo_statement_141 Q σ15)))) ∧ ((σ 67 a1.toNatClampNeg) = 1 → (¬ a2 = 9 → vp_in x1 150 ∧ wp_Mo_part a1 (σ 40 x1.toNatClampNeg) σ (fun σ16 => Q σ16)) ∧ (a2 = 9 → vp_in x1 150 ∧ wp_Mo_part a1 (σ 41 x1.toNatClampNeg) σ (fun σ17 => Q σ17)))) ∧ (¬ a2 = 10 → (a2 = 11 → vp_in a1 2002 ∧ (3 ≤ (σ 67 a1.toNatClampNeg) → ∀ σ18 : um_S, σ18 = um_up σ 38 37 ((σ 38 37) - 1) → Q σ18) ∧ (¬ 3 ≤ (σ 67 a1.toNatClampNeg) → vp_in a1 2002 ∧ (¬ (σ 67 a1.toNatClampNeg) = 1 → vp_in x1 150 ∧ wp_Mo_part a1 (σ 41 x1.toNatClampNeg) σ (fun σ19 => Q σ19)) ∧ ((σ 67 a1.toNatClampNeg) = 1 → vp_in x1 150 ∧ wp_Mo_part a1 (σ 40 x1.toNatClampNeg) σ (fun σ20 => Q σ20)))) ∧ (¬ a2 = 11 → (a2 = 12 → wp_Mo_decides a1 x1 σ (fun σ21 => Q σ21)) ∧ (¬ a2 = 12 → (a2 = 13 → wp_Mo_repeats a1 x1 σ (fun σ22 => Q σ22)) ∧ (¬ a2 = 13 → (a2 = 14 → vp_in a1 2002 ∧ (¬ (σ 67 a1.toNatClampNeg) = 1 → (¬ a2 = 9 → (¬ a2 = 10 → (¬ a2 = 9 → vp_in a1 2002 ∧ wp_Mo_put 12 0 (σ 64 a1.toNatClampNeg) σ (fun σ23 => wp_Mo_statement_141 Q σ23)) ∧ (a2 = 9 → vp_in x1 150 ∧ vp_in a1 2002 ∧ wp_Mo_put 12 (σ 40 x1.toNatClampNeg) (σ 64 a1.toNatClampNeg) σ (fun σ24 => wp_Mo_statement_141 Q σ24))) ∧ (a2 = 10 → (¬ a2 = 9 → vp_in a1 2002 ∧ wp_Mo_put 9 0 (σ 64 a1.toNatClampNeg) σ (fun σ25 => wp_Mo_statement_141 Q σ25)) ∧ (a2 = 9 → vp_in x1 150 ∧ vp_in a1 2002 ∧ wp_Mo_put 9 (σ 40 x1.toNatClampNeg) (σ 64 a1.toNatClampNeg) σ (fun σ26 => wp_Mo_statement_141 Q σ26)))) ∧ (a2 = 9 → (¬ a2 = 9 → vp_in a1 2002 ∧ wp_Mo_put 8 0 (σ 64 a1.toNatClampNeg) σ (fun σ27 => wp_Mo_statement_141 Q σ27)) ∧ (a2 = 9 → vp_in x1 150 ∧ vp_in a1 2002 ∧ wp_Mo_put 8 (σ 40 x1.toNatClampNeg) (σ 64 a1.toNatClampNeg) σ (fun σ28 => wp_Mo_statement_141 Q σ28)))) ∧ ((σ 67 a1.toNatClampNeg) = 1 → (¬ a2 = 9 → vp_in x1 150 ∧ wp_Mo_part a1 (σ 40 x1.toNatClampNeg) σ (fun σ29 => Q σ29)) ∧ (a2 = 9 → vp_in x1 150 ∧ wp_Mo_part a1 (σ 41 x1.toNatClampNeg) σ (fun σ30 => Q σ30)))) ∧ (¬ a2 = 14 → (a2 = 15 → vp_in x1 150 ∧ vp_in a1 2002 ∧ wp_Mo_put 13 (σ 40 x1.toNatClampNeg) (σ 64 a1.toNatClampNeg) σ (fun σ31 => ∀ σ32 : um_S, σ32 = um_up σ31 38 37 ((σ31 38 37) - 1) → Q σ32)) ∧ (¬ a2 = 15 → ∀ σ33 : um_S, σ33 = um_up σ 38 37 ((σ 38 37) - 1) → Q σ33)))))))
set_option maxHeartbeats 4000000 in
set_option maxRecDepth 100000 in
theorem b_Mo_statement_141 {Q : um_S → Prop} {σ : um_S} (h : wp_Mo_statement_141 Q σ) : um_Ev um_cl um_AW um_L um_SX M_Mo_statement 3 68 141 [some (.ref 38), none, none, none] [] σ (um_Qv Q) := by
  unfold wp_Mo_statement_141 at h
  refine um_aload_n (pc2 := 142) d_Mo_statement_141 rfl rfl ?_
  refine um_dup (pc2 := 143) d_Mo_statement_142 rfl rfl ?_
  refine um_getI (pc2 := 146) d_Mo_statement_143 rfl f_Mo_173 rfl rfl ?_
  refine um_iconst (pc2 := 147) (v := 1) d_Mo_statement_146 rfl (by decide) ?_
  refine um_isub (pc2 := 148) d_Mo_statement_147 rfl ?_
  refine um_putI (pc2 := 151) d_Mo_statement_148 rfl fw_Mo_173 rfl rfl (um_gen (fun σ1 eσ1 => ?_))
  replace h := h σ1 eσ1
  refine um_goto (tgt := 269) d_Mo_statement_151 rfl ?_
  exact um_vret d_Mo_statement_269 rfl ⟨rfl, h⟩
set_option maxHeartbeats 4000000 in
set_option maxRecDepth 100000 in
theorem c_Mo_statement {a1 : Int32} {a2 : Int32} {σ : um_S} {Q : um_S → Prop} (h : wp_Mo_statement a1 a2 σ Q) : um_Con um_cl um_AW um_L um_SX 3 68 M_Mo_statement [.ref 38, .int a1, .int a2] σ (um_Qv Q) := by
  refine um_con (by decide) (Nat.le_of_ble_eq_true rfl) (fun v hv => by simp only [List.mem_cons, List.not_mem_nil, or_false] at hv; rcases hv with rfl | rfl | rfl <;> rfl) ?_
  show um_Ev um_cl um_AW um_L um_SX M_Mo_statement 3 68 0 [some (.ref 38), some (.int a1), some (.int a2), none] [] σ (um_Qv Q)
  unfold wp_Mo_statement at h
  refine um_aload_n (pc2 := 1) d_Mo_statement_0 rfl rfl ?_
  refine um_getR (pc2 := 4) d_Mo_statement_1 rfl f_Mo_82 rfl rfl ?_
  refine um_iload_n (pc2 := 5) d_Mo_statement_4 rfl rfl ?_
  refine um_iald (pc2 := 6) d_Mo_statement_5 rfl rfl h.1 rfl ?_
  replace h := h.2
  refine um_top (fun x1 ex1 => ?_)
  replace h := h x1 ex1
  refine um_istore_n (pc2 := 7) (ls2 := [some (.ref 38), some (.int a1), some (.int a2), some (.int x1)]) d_Mo_statement_6 rfl (Nat.le_of_ble_eq_true rfl) rfl ?_
  refine um_iload_n (pc2 := 8) d_Mo_statement_7 rfl rfl ?_
  by_cases z9 : a2 = 9
  · replace h := h.1 z9
    refine um_tableAt (tgt := 52) d_Mo_statement_8 z9 (kk := 9) (by decide) (by decide) (by decide) rfl rfl ?_
    refine um_aload_n (pc2 := 53) d_Mo_statement_52 rfl rfl ?_
    refine um_getR (pc2 := 56) d_Mo_statement_53 rfl f_Mo_94 rfl rfl ?_
    refine um_iload_n (pc2 := 57) d_Mo_statement_56 rfl rfl ?_
    refine um_iald (pc2 := 58) d_Mo_statement_57 rfl rfl h.1 rfl ?_
    replace h := h.2
    refine um_iconst (pc2 := 59) (v := 1) d_Mo_statement_58 rfl (by decide) ?_
    refine um_icmp_ne (pc2 := 62) (tgt := 91) d_Mo_statement_59 rfl rfl (fun z => ?_) (fun z => ?_)
    · replace h := h.1 z
      refine um_aload_n (pc2 := 92) d_Mo_statement_91 rfl rfl ?_
      refine um_iload_n (pc2 := 93) d_Mo_statement_92 rfl rfl ?_
      refine um_bipush (pc2 := 95) (v := 9) d_Mo_statement_93 rfl (by decide) ?_
      refine um_icmp_ne (pc2 := 98) (tgt := 103) d_Mo_statement_95 rfl rfl (fun z => ?_) (fun z => ?_)
      · replace h := h.1 z
        refine um_iload_n (pc2 := 104) d_Mo_statement_103 rfl rfl ?_
        refine um_bipush (pc2 := 106) (v := 10) d_Mo_statement_104 rfl (by decide) ?_
        refine um_icmp_ne (pc2 := 109) (tgt := 114) d_Mo_statement_106 rfl rfl (fun z => ?_) (fun z => ?_)
        · replace h := h.1 z
          refine um_bipush (pc2 := 116) (v := 12) d_Mo_statement_114 rfl (by decide) ?_
          refine um_iload_n (pc2 := 117) d_Mo_statement_116 rfl rfl ?_
          refine um_bipush (pc2 := 119) (v := 9) d_Mo_statement_117 rfl (by decide) ?_
          refine um_icmp_ne (pc2 := 122) (tgt := 131) d_Mo_statement_119 rfl rfl (fun z => ?_) (fun z => ?_)
          · replace h := h.1 z
            refine um_iconst (pc2 := 132) (v := 0) d_Mo_statement_131 rfl (by decide) ?_
            refine um_aload_n (pc2 := 133) d_Mo_statement_132 rfl rfl ?_
            refine um_getR (pc2 := 136) d_Mo_statement_133 rfl f_Mo_85 rfl rfl ?_
            refine um_iload_n (pc2 := 137) d_Mo_statement_136 rfl rfl ?_
            refine um_iald (pc2 := 138) d_Mo_statement_137 rfl rfl h.1 rfl ?_
            replace h := h.2
            refine um_callV3v (pc2 := 141) d_Mo_statement_138 rfl g_Mo_200 rfl (Nat.le_of_ble_eq_true rfl) (Nat.le_of_ble_eq_true rfl) (Nat.le_of_ble_eq_true rfl) (c_Mo_put h) (fun σ2 h => ?_)
            refine um_forget [true, false, false, false] rfl ?_
            exact b_Mo_statement_141 h
          · replace h := h.2 z
            refine um_aload_n (pc2 := 123) d_Mo_statement_122 rfl rfl ?_
            refine um_getR (pc2 := 126) d_Mo_statement_123 rfl f_Mo_13 rfl rfl ?_
            refine um_iload_n (pc2 := 127) d_Mo_statement_126 rfl rfl ?_
            refine um_iald (pc2 := 128) d_Mo_statement_127 rfl rfl h.1 rfl ?_
            replace h := h.2
            refine um_goto (tgt := 132) d_Mo_statement_128 rfl ?_
            refine um_aload_n (pc2 := 133) d_Mo_statement_132 rfl rfl ?_
            refine um_getR (pc2 := 136) d_Mo_statement_133 rfl f_Mo_85 rfl rfl ?_
            refine um_iload_n (pc2 := 137) d_Mo_statement_136 rfl rfl ?_
            refine um_iald (pc2 := 138) d_Mo_statement_137 rfl rfl h.1 rfl ?_
            replace h := h.2
            refine um_callV3v (pc2 := 141) d_Mo_statement_138 rfl g_Mo_200 rfl (Nat.le_of_ble_eq_true rfl) (Nat.le_of_ble_eq_true rfl) (Nat.le_of_ble_eq_true rfl) (c_Mo_put h) (fun σ3 h => ?_)
            refine um_forget [true, false, false, false] rfl ?_
            exact b_Mo_statement_141 h
        · replace h := h.2 z
          refine um_bipush (pc2 := 111) (v := 9) d_Mo_statement_109 rfl (by decide) ?_
          refine um_goto (tgt := 116) d_Mo_statement_111 rfl ?_
          refine um_iload_n (pc2 := 117) d_Mo_statement_116 rfl rfl ?_
          refine um_bipush (pc2 := 119) (v := 9) d_Mo_statement_117 rfl (by decide) ?_
          refine um_icmp_ne (pc2 := 122) (tgt := 131) d_Mo_statement_119 rfl rfl (fun z => ?_) (fun z => ?_)
          · replace h := h.1 z
            refine um_iconst (pc2 := 132) (v := 0) d_Mo_statement_131 rfl (by decide) ?_
            refine um_aload_n (pc2 := 133) d_Mo_statement_132 rfl rfl ?_
            refine um_getR (pc2 := 136) d_Mo_statement_133 rfl f_Mo_85 rfl rfl ?_
            refine um_iload_n (pc2 := 137) d_Mo_statement_136 rfl rfl ?_
            refine um_iald (pc2 := 138) d_Mo_statement_137 rfl rfl h.1 rfl ?_
            replace h := h.2
            refine um_callV3v (pc2 := 141) d_Mo_statement_138 rfl g_Mo_200 rfl (Nat.le_of_ble_eq_true rfl) (Nat.le_of_ble_eq_true rfl) (Nat.le_of_ble_eq_true rfl) (c_Mo_put h) (fun σ4 h => ?_)
            refine um_forget [true, false, false, false] rfl ?_
            exact b_Mo_statement_141 h
          · replace h := h.2 z
            refine um_aload_n (pc2 := 123) d_Mo_statement_122 rfl rfl ?_
            refine um_getR (pc2 := 126) d_Mo_statement_123 rfl f_Mo_13 rfl rfl ?_
            refine um_iload_n (pc2 := 127) d_Mo_statement_126 rfl rfl ?_
            refine um_iald (pc2 := 128) d_Mo_statement_127 rfl rfl h.1 rfl ?_
            replace h := h.2
            refine um_goto (tgt := 132) d_Mo_statement_128 rfl ?_
            refine um_aload_n (pc2 := 133) d_Mo_statement_132 rfl rfl ?_
            refine um_getR (pc2 := 136) d_Mo_statement_133 rfl f_Mo_85 rfl rfl ?_
            refine um_iload_n (pc2 := 137) d_Mo_statement_136 rfl rfl ?_
            refine um_iald (pc2 := 138) d_Mo_statement_137 rfl rfl h.1 rfl ?_
            replace h := h.2
            refine um_callV3v (pc2 := 141) d_Mo_statement_138 rfl g_Mo_200 rfl (Nat.le_of_ble_eq_true rfl) (Nat.le_of_ble_eq_true rfl) (Nat.le_of_ble_eq_true rfl) (c_Mo_put h) (fun σ5 h => ?_)
            refine um_forget [true, false, false, false] rfl ?_
            exact b_Mo_statement_141 h
      · replace h := h.2 z
        refine um_bipush (pc2 := 100) (v := 8) d_Mo_statement_98 rfl (by decide) ?_
        refine um_goto (tgt := 116) d_Mo_statement_100 rfl ?_
        refine um_iload_n (pc2 := 117) d_Mo_statement_116 rfl rfl ?_
        refine um_bipush (pc2 := 119) (v := 9) d_Mo_statement_117 rfl (by decide) ?_
        refine um_icmp_ne (pc2 := 122) (tgt := 131) d_Mo_statement_119 rfl rfl (fun z => ?_) (fun z => ?_)
        · replace h := h.1 z
          refine um_iconst (pc2 := 132) (v := 0) d_Mo_statement_131 rfl (by decide) ?_
          refine um_aload_n (pc2 := 133) d_Mo_statement_132 rfl rfl ?_
          refine um_getR (pc2 := 136) d_Mo_statement_133 rfl f_Mo_85 rfl rfl ?_
          refine um_iload_n (pc2 := 137) d_Mo_statement_136 rfl rfl ?_
          refine um_iald (pc2 := 138) d_Mo_statement_137 rfl rfl h.1 rfl ?_
          replace h := h.2
          refine um_callV3v (pc2 := 141) d_Mo_statement_138 rfl g_Mo_200 rfl (Nat.le_of_ble_eq_true rfl) (Nat.le_of_ble_eq_true rfl) (Nat.le_of_ble_eq_true rfl) (c_Mo_put h) (fun σ6 h => ?_)
          refine um_forget [true, false, false, false] rfl ?_
          exact b_Mo_statement_141 h
        · replace h := h.2 z
          refine um_aload_n (pc2 := 123) d_Mo_statement_122 rfl rfl ?_
          refine um_getR (pc2 := 126) d_Mo_statement_123 rfl f_Mo_13 rfl rfl ?_
          refine um_iload_n (pc2 := 127) d_Mo_statement_126 rfl rfl ?_
          refine um_iald (pc2 := 128) d_Mo_statement_127 rfl rfl h.1 rfl ?_
          replace h := h.2
          refine um_goto (tgt := 132) d_Mo_statement_128 rfl ?_
          refine um_aload_n (pc2 := 133) d_Mo_statement_132 rfl rfl ?_
          refine um_getR (pc2 := 136) d_Mo_statement_133 rfl f_Mo_85 rfl rfl ?_
          refine um_iload_n (pc2 := 137) d_Mo_statement_136 rfl rfl ?_
          refine um_iald (pc2 := 138) d_Mo_statement_137 rfl rfl h.1 rfl ?_
          replace h := h.2
          refine um_callV3v (pc2 := 141) d_Mo_statement_138 rfl g_Mo_200 rfl (Nat.le_of_ble_eq_true rfl) (Nat.le_of_ble_eq_true rfl) (Nat.le_of_ble_eq_true rfl) (c_Mo_put h) (fun σ7 h => ?_)
          refine um_forget [true, false, false, false] rfl ?_
          exact b_Mo_statement_141 h
    · replace h := h.2 z
      refine um_aload_n (pc2 := 63) d_Mo_statement_62 rfl rfl ?_
      refine um_iload_n (pc2 := 64) d_Mo_statement_63 rfl rfl ?_
      refine um_iload_n (pc2 := 65) d_Mo_statement_64 rfl rfl ?_
      refine um_bipush (pc2 := 67) (v := 9) d_Mo_statement_65 rfl (by decide) ?_
      refine um_icmp_ne (pc2 := 70) (tgt := 79) d_Mo_statement_67 rfl rfl (fun z => ?_) (fun z => ?_)
      · replace h := h.1 z
        refine um_aload_n (pc2 := 80) d_Mo_statement_79 rfl rfl ?_
        refine um_getR (pc2 := 83) d_Mo_statement_80 rfl f_Mo_13 rfl rfl ?_
        refine um_iload_n (pc2 := 84) d_Mo_statement_83 rfl rfl ?_
        refine um_iald (pc2 := 85) d_Mo_statement_84 rfl rfl h.1 rfl ?_
        replace h := h.2
        refine um_callV2v (pc2 := 88) d_Mo_statement_85 rfl g_Mo_204 rfl (Nat.le_of_ble_eq_true rfl) (Nat.le_of_ble_eq_true rfl) (Nat.le_of_ble_eq_true rfl) (c_Mo_part h) (fun σ8 h => ?_)
        refine um_goto (tgt := 269) d_Mo_statement_88 rfl ?_
        exact um_vret d_Mo_statement_269 rfl ⟨rfl, h⟩
      · replace h := h.2 z
        refine um_aload_n (pc2 := 71) d_Mo_statement_70 rfl rfl ?_
        refine um_getR (pc2 := 74) d_Mo_statement_71 rfl f_Mo_16 rfl rfl ?_
        refine um_iload_n (pc2 := 75) d_Mo_statement_74 rfl rfl ?_
        refine um_iald (pc2 := 76) d_Mo_statement_75 rfl rfl h.1 rfl ?_
        replace h := h.2
        refine um_goto (tgt := 85) d_Mo_statement_76 rfl ?_
        refine um_callV2v (pc2 := 88) d_Mo_statement_85 rfl g_Mo_204 rfl (Nat.le_of_ble_eq_true rfl) (Nat.le_of_ble_eq_true rfl) (Nat.le_of_ble_eq_true rfl) (c_Mo_part h) (fun σ9 h => ?_)
        refine um_goto (tgt := 269) d_Mo_statement_88 rfl ?_
        exact um_vret d_Mo_statement_269 rfl ⟨rfl, h⟩
  replace h := h.2 z9
  by_cases z10 : a2 = 10
  · replace h := h.1 z10
    refine um_tableAt (tgt := 52) d_Mo_statement_8 z10 (kk := 10) (by decide) (by decide) (by decide) rfl rfl ?_
    refine um_aload_n (pc2 := 53) d_Mo_statement_52 rfl rfl ?_
    refine um_getR (pc2 := 56) d_Mo_statement_53 rfl f_Mo_94 rfl rfl ?_
    refine um_iload_n (pc2 := 57) d_Mo_statement_56 rfl rfl ?_
    refine um_iald (pc2 := 58) d_Mo_statement_57 rfl rfl h.1 rfl ?_
    replace h := h.2
    refine um_iconst (pc2 := 59) (v := 1) d_Mo_statement_58 rfl (by decide) ?_
    refine um_icmp_ne (pc2 := 62) (tgt := 91) d_Mo_statement_59 rfl rfl (fun z => ?_) (fun z => ?_)
    · replace h := h.1 z
      refine um_aload_n (pc2 := 92) d_Mo_statement_91 rfl rfl ?_
      refine um_iload_n (pc2 := 93) d_Mo_statement_92 rfl rfl ?_
      refine um_bipush (pc2 := 95) (v := 9) d_Mo_statement_93 rfl (by decide) ?_
      refine um_icmp_ne (pc2 := 98) (tgt := 103) d_Mo_statement_95 rfl rfl (fun z => ?_) (fun z => ?_)
      · replace h := h.1 z
        refine um_iload_n (pc2 := 104) d_Mo_statement_103 rfl rfl ?_
        refine um_bipush (pc2 := 106) (v := 10) d_Mo_statement_104 rfl (by decide) ?_
        refine um_icmp_ne (pc2 := 109) (tgt := 114) d_Mo_statement_106 rfl rfl (fun z => ?_) (fun z => ?_)
        · replace h := h.1 z
          refine um_bipush (pc2 := 116) (v := 12) d_Mo_statement_114 rfl (by decide) ?_
          refine um_iload_n (pc2 := 117) d_Mo_statement_116 rfl rfl ?_
          refine um_bipush (pc2 := 119) (v := 9) d_Mo_statement_117 rfl (by decide) ?_
          refine um_icmp_ne (pc2 := 122) (tgt := 131) d_Mo_statement_119 rfl rfl (fun z => ?_) (fun z => ?_)
          · replace h := h.1 z
            refine um_iconst (pc2 := 132) (v := 0) d_Mo_statement_131 rfl (by decide) ?_
            refine um_aload_n (pc2 := 133) d_Mo_statement_132 rfl rfl ?_
            refine um_getR (pc2 := 136) d_Mo_statement_133 rfl f_Mo_85 rfl rfl ?_
            refine um_iload_n (pc2 := 137) d_Mo_statement_136 rfl rfl ?_
            refine um_iald (pc2 := 138) d_Mo_statement_137 rfl rfl h.1 rfl ?_
            replace h := h.2
            refine um_callV3v (pc2 := 141) d_Mo_statement_138 rfl g_Mo_200 rfl (Nat.le_of_ble_eq_true rfl) (Nat.le_of_ble_eq_true rfl) (Nat.le_of_ble_eq_true rfl) (c_Mo_put h) (fun σ10 h => ?_)
            refine um_forget [true, false, false, false] rfl ?_
            exact b_Mo_statement_141 h
          · replace h := h.2 z
            refine um_aload_n (pc2 := 123) d_Mo_statement_122 rfl rfl ?_
            refine um_getR (pc2 := 126) d_Mo_statement_123 rfl f_Mo_13 rfl rfl ?_
            refine um_iload_n (pc2 := 127) d_Mo_statement_126 rfl rfl ?_
            refine um_iald (pc2 := 128) d_Mo_statement_127 rfl rfl h.1 rfl ?_
            replace h := h.2
            refine um_goto (tgt := 132) d_Mo_statement_128 rfl ?_
            refine um_aload_n (pc2 := 133) d_Mo_statement_132 rfl rfl ?_
            refine um_getR (pc2 := 136) d_Mo_statement_133 rfl f_Mo_85 rfl rfl ?_
            refine um_iload_n (pc2 := 137) d_Mo_statement_136 rfl rfl ?_
            refine um_iald (pc2 := 138) d_Mo_statement_137 rfl rfl h.1 rfl ?_
            replace h := h.2
            refine um_callV3v (pc2 := 141) d_Mo_statement_138 rfl g_Mo_200 rfl (Nat.le_of_ble_eq_true rfl) (Nat.le_of_ble_eq_true rfl) (Nat.le_of_ble_eq_true rfl) (c_Mo_put h) (fun σ11 h => ?_)
            refine um_forget [true, false, false, false] rfl ?_
            exact b_Mo_statement_141 h
        · replace h := h.2 z
          refine um_bipush (pc2 := 111) (v := 9) d_Mo_statement_109 rfl (by decide) ?_
          refine um_goto (tgt := 116) d_Mo_statement_111 rfl ?_
          refine um_iload_n (pc2 := 117) d_Mo_statement_116 rfl rfl ?_
          refine um_bipush (pc2 := 119) (v := 9) d_Mo_statement_117 rfl (by decide) ?_
          refine um_icmp_ne (pc2 := 122) (tgt := 131) d_Mo_statement_119 rfl rfl (fun z => ?_) (fun z => ?_)
          · replace h := h.1 z
            refine um_iconst (pc2 := 132) (v := 0) d_Mo_statement_131 rfl (by decide) ?_
            refine um_aload_n (pc2 := 133) d_Mo_statement_132 rfl rfl ?_
            refine um_getR (pc2 := 136) d_Mo_statement_133 rfl f_Mo_85 rfl rfl ?_
            refine um_iload_n (pc2 := 137) d_Mo_statement_136 rfl rfl ?_
            refine um_iald (pc2 := 138) d_Mo_statement_137 rfl rfl h.1 rfl ?_
            replace h := h.2
            refine um_callV3v (pc2 := 141) d_Mo_statement_138 rfl g_Mo_200 rfl (Nat.le_of_ble_eq_true rfl) (Nat.le_of_ble_eq_true rfl) (Nat.le_of_ble_eq_true rfl) (c_Mo_put h) (fun σ12 h => ?_)
            refine um_forget [true, false, false, false] rfl ?_
            exact b_Mo_statement_141 h
          · replace h := h.2 z
            refine um_aload_n (pc2 := 123) d_Mo_statement_122 rfl rfl ?_
            refine um_getR (pc2 := 126) d_Mo_statement_123 rfl f_Mo_13 rfl rfl ?_
            refine um_iload_n (pc2 := 127) d_Mo_statement_126 rfl rfl ?_
            refine um_iald (pc2 := 128) d_Mo_statement_127 rfl rfl h.1 rfl ?_
            replace h := h.2
            refine um_goto (tgt := 132) d_Mo_statement_128 rfl ?_
            refine um_aload_n (pc2 := 133) d_Mo_statement_132 rfl rfl ?_
            refine um_getR (pc2 := 136) d_Mo_statement_133 rfl f_Mo_85 rfl rfl ?_
            refine um_iload_n (pc2 := 137) d_Mo_statement_136 rfl rfl ?_
            refine um_iald (pc2 := 138) d_Mo_statement_137 rfl rfl h.1 rfl ?_
            replace h := h.2
            refine um_callV3v (pc2 := 141) d_Mo_statement_138 rfl g_Mo_200 rfl (Nat.le_of_ble_eq_true rfl) (Nat.le_of_ble_eq_true rfl) (Nat.le_of_ble_eq_true rfl) (c_Mo_put h) (fun σ13 h => ?_)
            refine um_forget [true, false, false, false] rfl ?_
            exact b_Mo_statement_141 h
      · replace h := h.2 z
        refine um_bipush (pc2 := 100) (v := 8) d_Mo_statement_98 rfl (by decide) ?_
        refine um_goto (tgt := 116) d_Mo_statement_100 rfl ?_
        refine um_iload_n (pc2 := 117) d_Mo_statement_116 rfl rfl ?_
        refine um_bipush (pc2 := 119) (v := 9) d_Mo_statement_117 rfl (by decide) ?_
        refine um_icmp_ne (pc2 := 122) (tgt := 131) d_Mo_statement_119 rfl rfl (fun z => ?_) (fun z => ?_)
        · replace h := h.1 z
          refine um_iconst (pc2 := 132) (v := 0) d_Mo_statement_131 rfl (by decide) ?_
          refine um_aload_n (pc2 := 133) d_Mo_statement_132 rfl rfl ?_
          refine um_getR (pc2 := 136) d_Mo_statement_133 rfl f_Mo_85 rfl rfl ?_
          refine um_iload_n (pc2 := 137) d_Mo_statement_136 rfl rfl ?_
          refine um_iald (pc2 := 138) d_Mo_statement_137 rfl rfl h.1 rfl ?_
          replace h := h.2
          refine um_callV3v (pc2 := 141) d_Mo_statement_138 rfl g_Mo_200 rfl (Nat.le_of_ble_eq_true rfl) (Nat.le_of_ble_eq_true rfl) (Nat.le_of_ble_eq_true rfl) (c_Mo_put h) (fun σ14 h => ?_)
          refine um_forget [true, false, false, false] rfl ?_
          exact b_Mo_statement_141 h
        · replace h := h.2 z
          refine um_aload_n (pc2 := 123) d_Mo_statement_122 rfl rfl ?_
          refine um_getR (pc2 := 126) d_Mo_statement_123 rfl f_Mo_13 rfl rfl ?_
          refine um_iload_n (pc2 := 127) d_Mo_statement_126 rfl rfl ?_
          refine um_iald (pc2 := 128) d_Mo_statement_127 rfl rfl h.1 rfl ?_
          replace h := h.2
          refine um_goto (tgt := 132) d_Mo_statement_128 rfl ?_
          refine um_aload_n (pc2 := 133) d_Mo_statement_132 rfl rfl ?_
          refine um_getR (pc2 := 136) d_Mo_statement_133 rfl f_Mo_85 rfl rfl ?_
          refine um_iload_n (pc2 := 137) d_Mo_statement_136 rfl rfl ?_
          refine um_iald (pc2 := 138) d_Mo_statement_137 rfl rfl h.1 rfl ?_
          replace h := h.2
          refine um_callV3v (pc2 := 141) d_Mo_statement_138 rfl g_Mo_200 rfl (Nat.le_of_ble_eq_true rfl) (Nat.le_of_ble_eq_true rfl) (Nat.le_of_ble_eq_true rfl) (c_Mo_put h) (fun σ15 h => ?_)
          refine um_forget [true, false, false, false] rfl ?_
          exact b_Mo_statement_141 h
    · replace h := h.2 z
      refine um_aload_n (pc2 := 63) d_Mo_statement_62 rfl rfl ?_
      refine um_iload_n (pc2 := 64) d_Mo_statement_63 rfl rfl ?_
      refine um_iload_n (pc2 := 65) d_Mo_statement_64 rfl rfl ?_
      refine um_bipush (pc2 := 67) (v := 9) d_Mo_statement_65 rfl (by decide) ?_
      refine um_icmp_ne (pc2 := 70) (tgt := 79) d_Mo_statement_67 rfl rfl (fun z => ?_) (fun z => ?_)
      · replace h := h.1 z
        refine um_aload_n (pc2 := 80) d_Mo_statement_79 rfl rfl ?_
        refine um_getR (pc2 := 83) d_Mo_statement_80 rfl f_Mo_13 rfl rfl ?_
        refine um_iload_n (pc2 := 84) d_Mo_statement_83 rfl rfl ?_
        refine um_iald (pc2 := 85) d_Mo_statement_84 rfl rfl h.1 rfl ?_
        replace h := h.2
        refine um_callV2v (pc2 := 88) d_Mo_statement_85 rfl g_Mo_204 rfl (Nat.le_of_ble_eq_true rfl) (Nat.le_of_ble_eq_true rfl) (Nat.le_of_ble_eq_true rfl) (c_Mo_part h) (fun σ16 h => ?_)
        refine um_goto (tgt := 269) d_Mo_statement_88 rfl ?_
        exact um_vret d_Mo_statement_269 rfl ⟨rfl, h⟩
      · replace h := h.2 z
        refine um_aload_n (pc2 := 71) d_Mo_statement_70 rfl rfl ?_
        refine um_getR (pc2 := 74) d_Mo_statement_71 rfl f_Mo_16 rfl rfl ?_
        refine um_iload_n (pc2 := 75) d_Mo_statement_74 rfl rfl ?_
        refine um_iald (pc2 := 76) d_Mo_statement_75 rfl rfl h.1 rfl ?_
        replace h := h.2
        refine um_goto (tgt := 85) d_Mo_statement_76 rfl ?_
        refine um_callV2v (pc2 := 88) d_Mo_statement_85 rfl g_Mo_204 rfl (Nat.le_of_ble_eq_true rfl) (Nat.le_of_ble_eq_true rfl) (Nat.le_of_ble_eq_true rfl) (c_Mo_part h) (fun σ17 h => ?_)
        refine um_goto (tgt := 269) d_Mo_statement_88 rfl ?_
        exact um_vret d_Mo_statement_269 rfl ⟨rfl, h⟩
  replace h := h.2 z10
  by_cases z11 : a2 = 11
  · replace h := h.1 z11
    refine um_tableAt (tgt := 154) d_Mo_statement_8 z11 (kk := 11) (by decide) (by decide) (by decide) rfl rfl ?_
    refine um_aload_n (pc2 := 155) d_Mo_statement_154 rfl rfl ?_
    refine um_getR (pc2 := 158) d_Mo_statement_155 rfl f_Mo_94 rfl rfl ?_
    refine um_iload_n (pc2 := 159) d_Mo_statement_158 rfl rfl ?_
    refine um_iald (pc2 := 160) d_Mo_statement_159 rfl rfl h.1 rfl ?_
    replace h := h.2
    refine um_iconst (pc2 := 161) (v := 3) d_Mo_statement_160 rfl (by decide) ?_
    refine um_icmp_ge (pc2 := 164) (tgt := 197) d_Mo_statement_161 rfl rfl (fun z => ?_) (fun z => ?_)
    · replace h := h.1 z
      refine um_aload_n (pc2 := 198) d_Mo_statement_197 rfl rfl ?_
      refine um_dup (pc2 := 199) d_Mo_statement_198 rfl rfl ?_
      refine um_getI (pc2 := 202) d_Mo_statement_199 rfl f_Mo_173 rfl rfl ?_
      refine um_iconst (pc2 := 203) (v := 1) d_Mo_statement_202 rfl (by decide) ?_
      refine um_isub (pc2 := 204) d_Mo_statement_203 rfl ?_
      refine um_putI (pc2 := 207) d_Mo_statement_204 rfl fw_Mo_173 rfl rfl (um_gen (fun σ18 eσ18 => ?_))
      replace h := h σ18 eσ18
      refine um_goto (tgt := 269) d_Mo_statement_207 rfl ?_
      exact um_vret d_Mo_statement_269 rfl ⟨rfl, h⟩
    · replace h := h.2 z
      refine um_aload_n (pc2 := 165) d_Mo_statement_164 rfl rfl ?_
      refine um_iload_n (pc2 := 166) d_Mo_statement_165 rfl rfl ?_
      refine um_aload_n (pc2 := 167) d_Mo_statement_166 rfl rfl ?_
      refine um_getR (pc2 := 170) d_Mo_statement_167 rfl f_Mo_94 rfl rfl ?_
      refine um_iload_n (pc2 := 171) d_Mo_statement_170 rfl rfl ?_
      refine um_iald (pc2 := 172) d_Mo_statement_171 rfl rfl h.1 rfl ?_
      replace h := h.2
      refine um_iconst (pc2 := 173) (v := 1) d_Mo_statement_172 rfl (by decide) ?_
      refine um_icmp_ne (pc2 := 176) (tgt := 185) d_Mo_statement_173 rfl rfl (fun z => ?_) (fun z => ?_)
      · replace h := h.1 z
        refine um_aload_n (pc2 := 186) d_Mo_statement_185 rfl rfl ?_
        refine um_getR (pc2 := 189) d_Mo_statement_186 rfl f_Mo_16 rfl rfl ?_
        refine um_iload_n (pc2 := 190) d_Mo_statement_189 rfl rfl ?_
        refine um_iald (pc2 := 191) d_Mo_statement_190 rfl rfl h.1 rfl ?_
        replace h := h.2
        refine um_callV2v (pc2 := 194) d_Mo_statement_191 rfl g_Mo_204 rfl (Nat.le_of_ble_eq_true rfl) (Nat.le_of_ble_eq_true rfl) (Nat.le_of_ble_eq_true rfl) (c_Mo_part h) (fun σ19 h => ?_)
        refine um_goto (tgt := 269) d_Mo_statement_194 rfl ?_
        exact um_vret d_Mo_statement_269 rfl ⟨rfl, h⟩
      · replace h := h.2 z
        refine um_aload_n (pc2 := 177) d_Mo_statement_176 rfl rfl ?_
        refine um_getR (pc2 := 180) d_Mo_statement_177 rfl f_Mo_13 rfl rfl ?_
        refine um_iload_n (pc2 := 181) d_Mo_statement_180 rfl rfl ?_
        refine um_iald (pc2 := 182) d_Mo_statement_181 rfl rfl h.1 rfl ?_
        replace h := h.2
        refine um_goto (tgt := 191) d_Mo_statement_182 rfl ?_
        refine um_callV2v (pc2 := 194) d_Mo_statement_191 rfl g_Mo_204 rfl (Nat.le_of_ble_eq_true rfl) (Nat.le_of_ble_eq_true rfl) (Nat.le_of_ble_eq_true rfl) (c_Mo_part h) (fun σ20 h => ?_)
        refine um_goto (tgt := 269) d_Mo_statement_194 rfl ?_
        exact um_vret d_Mo_statement_269 rfl ⟨rfl, h⟩
  replace h := h.2 z11
  by_cases z12 : a2 = 12
  · replace h := h.1 z12
    refine um_tableAt (tgt := 210) d_Mo_statement_8 z12 (kk := 12) (by decide) (by decide) (by decide) rfl rfl ?_
    refine um_aload_n (pc2 := 211) d_Mo_statement_210 rfl rfl ?_
    refine um_iload_n (pc2 := 212) d_Mo_statement_211 rfl rfl ?_
    refine um_iload_n (pc2 := 213) d_Mo_statement_212 rfl rfl ?_
    refine um_callV2v (pc2 := 216) d_Mo_statement_213 rfl g_Mo_207 rfl (Nat.le_of_ble_eq_true rfl) (Nat.le_of_ble_eq_true rfl) (Nat.le_of_ble_eq_true rfl) (c_Mo_decides h) (fun σ21 h => ?_)
    refine um_goto (tgt := 269) d_Mo_statement_216 rfl ?_
    exact um_vret d_Mo_statement_269 rfl ⟨rfl, h⟩
  replace h := h.2 z12
  by_cases z13 : a2 = 13
  · replace h := h.1 z13
    refine um_tableAt (tgt := 219) d_Mo_statement_8 z13 (kk := 13) (by decide) (by decide) (by decide) rfl rfl ?_
    refine um_aload_n (pc2 := 220) d_Mo_statement_219 rfl rfl ?_
    refine um_iload_n (pc2 := 221) d_Mo_statement_220 rfl rfl ?_
    refine um_iload_n (pc2 := 222) d_Mo_statement_221 rfl rfl ?_
    refine um_callV2v (pc2 := 225) d_Mo_statement_222 rfl g_Mo_210 rfl (Nat.le_of_ble_eq_true rfl) (Nat.le_of_ble_eq_true rfl) (Nat.le_of_ble_eq_true rfl) (c_Mo_repeats h) (fun σ22 h => ?_)
    refine um_goto (tgt := 269) d_Mo_statement_225 rfl ?_
    exact um_vret d_Mo_statement_269 rfl ⟨rfl, h⟩
  replace h := h.2 z13
  by_cases z14 : a2 = 14
  · replace h := h.1 z14
    refine um_tableAt (tgt := 52) d_Mo_statement_8 z14 (kk := 14) (by decide) (by decide) (by decide) rfl rfl ?_
    refine um_aload_n (pc2 := 53) d_Mo_statement_52 rfl rfl ?_
    refine um_getR (pc2 := 56) d_Mo_statement_53 rfl f_Mo_94 rfl rfl ?_
    refine um_iload_n (pc2 := 57) d_Mo_statement_56 rfl rfl ?_
    refine um_iald (pc2 := 58) d_Mo_statement_57 rfl rfl h.1 rfl ?_
    replace h := h.2
    refine um_iconst (pc2 := 59) (v := 1) d_Mo_statement_58 rfl (by decide) ?_
    refine um_icmp_ne (pc2 := 62) (tgt := 91) d_Mo_statement_59 rfl rfl (fun z => ?_) (fun z => ?_)
    · replace h := h.1 z
      refine um_aload_n (pc2 := 92) d_Mo_statement_91 rfl rfl ?_
      refine um_iload_n (pc2 := 93) d_Mo_statement_92 rfl rfl ?_
      refine um_bipush (pc2 := 95) (v := 9) d_Mo_statement_93 rfl (by decide) ?_
      refine um_icmp_ne (pc2 := 98) (tgt := 103) d_Mo_statement_95 rfl rfl (fun z => ?_) (fun z => ?_)
      · replace h := h.1 z
        refine um_iload_n (pc2 := 104) d_Mo_statement_103 rfl rfl ?_
        refine um_bipush (pc2 := 106) (v := 10) d_Mo_statement_104 rfl (by decide) ?_
        refine um_icmp_ne (pc2 := 109) (tgt := 114) d_Mo_statement_106 rfl rfl (fun z => ?_) (fun z => ?_)
        · replace h := h.1 z
          refine um_bipush (pc2 := 116) (v := 12) d_Mo_statement_114 rfl (by decide) ?_
          refine um_iload_n (pc2 := 117) d_Mo_statement_116 rfl rfl ?_
          refine um_bipush (pc2 := 119) (v := 9) d_Mo_statement_117 rfl (by decide) ?_
          refine um_icmp_ne (pc2 := 122) (tgt := 131) d_Mo_statement_119 rfl rfl (fun z => ?_) (fun z => ?_)
          · replace h := h.1 z
            refine um_iconst (pc2 := 132) (v := 0) d_Mo_statement_131 rfl (by decide) ?_
            refine um_aload_n (pc2 := 133) d_Mo_statement_132 rfl rfl ?_
            refine um_getR (pc2 := 136) d_Mo_statement_133 rfl f_Mo_85 rfl rfl ?_
            refine um_iload_n (pc2 := 137) d_Mo_statement_136 rfl rfl ?_
            refine um_iald (pc2 := 138) d_Mo_statement_137 rfl rfl h.1 rfl ?_
            replace h := h.2
            refine um_callV3v (pc2 := 141) d_Mo_statement_138 rfl g_Mo_200 rfl (Nat.le_of_ble_eq_true rfl) (Nat.le_of_ble_eq_true rfl) (Nat.le_of_ble_eq_true rfl) (c_Mo_put h) (fun σ23 h => ?_)
            refine um_forget [true, false, false, false] rfl ?_
            exact b_Mo_statement_141 h
          · replace h := h.2 z
            refine um_aload_n (pc2 := 123) d_Mo_statement_122 rfl rfl ?_
            refine um_getR (pc2 := 126) d_Mo_statement_123 rfl f_Mo_13 rfl rfl ?_
            refine um_iload_n (pc2 := 127) d_Mo_statement_126 rfl rfl ?_
            refine um_iald (pc2 := 128) d_Mo_statement_127 rfl rfl h.1 rfl ?_
            replace h := h.2
            refine um_goto (tgt := 132) d_Mo_statement_128 rfl ?_
            refine um_aload_n (pc2 := 133) d_Mo_statement_132 rfl rfl ?_
            refine um_getR (pc2 := 136) d_Mo_statement_133 rfl f_Mo_85 rfl rfl ?_
            refine um_iload_n (pc2 := 137) d_Mo_statement_136 rfl rfl ?_
            refine um_iald (pc2 := 138) d_Mo_statement_137 rfl rfl h.1 rfl ?_
            replace h := h.2
            refine um_callV3v (pc2 := 141) d_Mo_statement_138 rfl g_Mo_200 rfl (Nat.le_of_ble_eq_true rfl) (Nat.le_of_ble_eq_true rfl) (Nat.le_of_ble_eq_true rfl) (c_Mo_put h) (fun σ24 h => ?_)
            refine um_forget [true, false, false, false] rfl ?_
            exact b_Mo_statement_141 h
        · replace h := h.2 z
          refine um_bipush (pc2 := 111) (v := 9) d_Mo_statement_109 rfl (by decide) ?_
          refine um_goto (tgt := 116) d_Mo_statement_111 rfl ?_
          refine um_iload_n (pc2 := 117) d_Mo_statement_116 rfl rfl ?_
          refine um_bipush (pc2 := 119) (v := 9) d_Mo_statement_117 rfl (by decide) ?_
          refine um_icmp_ne (pc2 := 122) (tgt := 131) d_Mo_statement_119 rfl rfl (fun z => ?_) (fun z => ?_)
          · replace h := h.1 z
            refine um_iconst (pc2 := 132) (v := 0) d_Mo_statement_131 rfl (by decide) ?_
            refine um_aload_n (pc2 := 133) d_Mo_statement_132 rfl rfl ?_
            refine um_getR (pc2 := 136) d_Mo_statement_133 rfl f_Mo_85 rfl rfl ?_
            refine um_iload_n (pc2 := 137) d_Mo_statement_136 rfl rfl ?_
            refine um_iald (pc2 := 138) d_Mo_statement_137 rfl rfl h.1 rfl ?_
            replace h := h.2
            refine um_callV3v (pc2 := 141) d_Mo_statement_138 rfl g_Mo_200 rfl (Nat.le_of_ble_eq_true rfl) (Nat.le_of_ble_eq_true rfl) (Nat.le_of_ble_eq_true rfl) (c_Mo_put h) (fun σ25 h => ?_)
            refine um_forget [true, false, false, false] rfl ?_
            exact b_Mo_statement_141 h
          · replace h := h.2 z
            refine um_aload_n (pc2 := 123) d_Mo_statement_122 rfl rfl ?_
            refine um_getR (pc2 := 126) d_Mo_statement_123 rfl f_Mo_13 rfl rfl ?_
            refine um_iload_n (pc2 := 127) d_Mo_statement_126 rfl rfl ?_
            refine um_iald (pc2 := 128) d_Mo_statement_127 rfl rfl h.1 rfl ?_
            replace h := h.2
            refine um_goto (tgt := 132) d_Mo_statement_128 rfl ?_
            refine um_aload_n (pc2 := 133) d_Mo_statement_132 rfl rfl ?_
            refine um_getR (pc2 := 136) d_Mo_statement_133 rfl f_Mo_85 rfl rfl ?_
            refine um_iload_n (pc2 := 137) d_Mo_statement_136 rfl rfl ?_
            refine um_iald (pc2 := 138) d_Mo_statement_137 rfl rfl h.1 rfl ?_
            replace h := h.2
            refine um_callV3v (pc2 := 141) d_Mo_statement_138 rfl g_Mo_200 rfl (Nat.le_of_ble_eq_true rfl) (Nat.le_of_ble_eq_true rfl) (Nat.le_of_ble_eq_true rfl) (c_Mo_put h) (fun σ26 h => ?_)
            refine um_forget [true, false, false, false] rfl ?_
            exact b_Mo_statement_141 h
      · replace h := h.2 z
        refine um_bipush (pc2 := 100) (v := 8) d_Mo_statement_98 rfl (by decide) ?_
        refine um_goto (tgt := 116) d_Mo_statement_100 rfl ?_
        refine um_iload_n (pc2 := 117) d_Mo_statement_116 rfl rfl ?_
        refine um_bipush (pc2 := 119) (v := 9) d_Mo_statement_117 rfl (by decide) ?_
        refine um_icmp_ne (pc2 := 122) (tgt := 131) d_Mo_statement_119 rfl rfl (fun z => ?_) (fun z => ?_)
        · replace h := h.1 z
          refine um_iconst (pc2 := 132) (v := 0) d_Mo_statement_131 rfl (by decide) ?_
          refine um_aload_n (pc2 := 133) d_Mo_statement_132 rfl rfl ?_
          refine um_getR (pc2 := 136) d_Mo_statement_133 rfl f_Mo_85 rfl rfl ?_
          refine um_iload_n (pc2 := 137) d_Mo_statement_136 rfl rfl ?_
          refine um_iald (pc2 := 138) d_Mo_statement_137 rfl rfl h.1 rfl ?_
          replace h := h.2
          refine um_callV3v (pc2 := 141) d_Mo_statement_138 rfl g_Mo_200 rfl (Nat.le_of_ble_eq_true rfl) (Nat.le_of_ble_eq_true rfl) (Nat.le_of_ble_eq_true rfl) (c_Mo_put h) (fun σ27 h => ?_)
          refine um_forget [true, false, false, false] rfl ?_
          exact b_Mo_statement_141 h
        · replace h := h.2 z
          refine um_aload_n (pc2 := 123) d_Mo_statement_122 rfl rfl ?_
          refine um_getR (pc2 := 126) d_Mo_statement_123 rfl f_Mo_13 rfl rfl ?_
          refine um_iload_n (pc2 := 127) d_Mo_statement_126 rfl rfl ?_
          refine um_iald (pc2 := 128) d_Mo_statement_127 rfl rfl h.1 rfl ?_
          replace h := h.2
          refine um_goto (tgt := 132) d_Mo_statement_128 rfl ?_
          refine um_aload_n (pc2 := 133) d_Mo_statement_132 rfl rfl ?_
          refine um_getR (pc2 := 136) d_Mo_statement_133 rfl f_Mo_85 rfl rfl ?_
          refine um_iload_n (pc2 := 137) d_Mo_statement_136 rfl rfl ?_
          refine um_iald (pc2 := 138) d_Mo_statement_137 rfl rfl h.1 rfl ?_
          replace h := h.2
          refine um_callV3v (pc2 := 141) d_Mo_statement_138 rfl g_Mo_200 rfl (Nat.le_of_ble_eq_true rfl) (Nat.le_of_ble_eq_true rfl) (Nat.le_of_ble_eq_true rfl) (c_Mo_put h) (fun σ28 h => ?_)
          refine um_forget [true, false, false, false] rfl ?_
          exact b_Mo_statement_141 h
    · replace h := h.2 z
      refine um_aload_n (pc2 := 63) d_Mo_statement_62 rfl rfl ?_
      refine um_iload_n (pc2 := 64) d_Mo_statement_63 rfl rfl ?_
      refine um_iload_n (pc2 := 65) d_Mo_statement_64 rfl rfl ?_
      refine um_bipush (pc2 := 67) (v := 9) d_Mo_statement_65 rfl (by decide) ?_
      refine um_icmp_ne (pc2 := 70) (tgt := 79) d_Mo_statement_67 rfl rfl (fun z => ?_) (fun z => ?_)
      · replace h := h.1 z
        refine um_aload_n (pc2 := 80) d_Mo_statement_79 rfl rfl ?_
        refine um_getR (pc2 := 83) d_Mo_statement_80 rfl f_Mo_13 rfl rfl ?_
        refine um_iload_n (pc2 := 84) d_Mo_statement_83 rfl rfl ?_
        refine um_iald (pc2 := 85) d_Mo_statement_84 rfl rfl h.1 rfl ?_
        replace h := h.2
        refine um_callV2v (pc2 := 88) d_Mo_statement_85 rfl g_Mo_204 rfl (Nat.le_of_ble_eq_true rfl) (Nat.le_of_ble_eq_true rfl) (Nat.le_of_ble_eq_true rfl) (c_Mo_part h) (fun σ29 h => ?_)
        refine um_goto (tgt := 269) d_Mo_statement_88 rfl ?_
        exact um_vret d_Mo_statement_269 rfl ⟨rfl, h⟩
      · replace h := h.2 z
        refine um_aload_n (pc2 := 71) d_Mo_statement_70 rfl rfl ?_
        refine um_getR (pc2 := 74) d_Mo_statement_71 rfl f_Mo_16 rfl rfl ?_
        refine um_iload_n (pc2 := 75) d_Mo_statement_74 rfl rfl ?_
        refine um_iald (pc2 := 76) d_Mo_statement_75 rfl rfl h.1 rfl ?_
        replace h := h.2
        refine um_goto (tgt := 85) d_Mo_statement_76 rfl ?_
        refine um_callV2v (pc2 := 88) d_Mo_statement_85 rfl g_Mo_204 rfl (Nat.le_of_ble_eq_true rfl) (Nat.le_of_ble_eq_true rfl) (Nat.le_of_ble_eq_true rfl) (c_Mo_part h) (fun σ30 h => ?_)
        refine um_goto (tgt := 269) d_Mo_statement_88 rfl ?_
        exact um_vret d_Mo_statement_269 rfl ⟨rfl, h⟩
  replace h := h.2 z14
  by_cases z15 : a2 = 15
  · replace h := h.1 z15
    refine um_tableAt (tgt := 228) d_Mo_statement_8 z15 (kk := 15) (by decide) (by decide) (by decide) rfl rfl ?_
    refine um_aload_n (pc2 := 229) d_Mo_statement_228 rfl rfl ?_
    refine um_bipush (pc2 := 231) (v := 13) d_Mo_statement_229 rfl (by decide) ?_
    refine um_aload_n (pc2 := 232) d_Mo_statement_231 rfl rfl ?_
    refine um_getR (pc2 := 235) d_Mo_statement_232 rfl f_Mo_13 rfl rfl ?_
    refine um_iload_n (pc2 := 236) d_Mo_statement_235 rfl rfl ?_
    refine um_iald (pc2 := 237) d_Mo_statement_236 rfl rfl h.1 rfl ?_
    replace h := h.2
    refine um_aload_n (pc2 := 238) d_Mo_statement_237 rfl rfl ?_
    refine um_getR (pc2 := 241) d_Mo_statement_238 rfl f_Mo_85 rfl rfl ?_
    refine um_iload_n (pc2 := 242) d_Mo_statement_241 rfl rfl ?_
    refine um_iald (pc2 := 243) d_Mo_statement_242 rfl rfl h.1 rfl ?_
    replace h := h.2
    refine um_callV3v (pc2 := 246) d_Mo_statement_243 rfl g_Mo_200 rfl (Nat.le_of_ble_eq_true rfl) (Nat.le_of_ble_eq_true rfl) (Nat.le_of_ble_eq_true rfl) (c_Mo_put h) (fun σ31 h => ?_)
    refine um_aload_n (pc2 := 247) d_Mo_statement_246 rfl rfl ?_
    refine um_dup (pc2 := 248) d_Mo_statement_247 rfl rfl ?_
    refine um_getI (pc2 := 251) d_Mo_statement_248 rfl f_Mo_173 rfl rfl ?_
    refine um_iconst (pc2 := 252) (v := 1) d_Mo_statement_251 rfl (by decide) ?_
    refine um_isub (pc2 := 253) d_Mo_statement_252 rfl ?_
    refine um_putI (pc2 := 256) d_Mo_statement_253 rfl fw_Mo_173 rfl rfl (um_gen (fun σ32 eσ32 => ?_))
    replace h := h σ32 eσ32
    refine um_goto (tgt := 269) d_Mo_statement_256 rfl ?_
    exact um_vret d_Mo_statement_269 rfl ⟨rfl, h⟩
  replace h := h.2 z15
  have hE : um_Ev um_cl um_AW um_L um_SX M_Mo_statement 3 68 259 [some (.ref 38), some (.int a1), some (.int a2), some (.int x1)] [] σ (um_Qv Q) := by
    refine um_aload_n (pc2 := 260) d_Mo_statement_259 rfl rfl ?_
    refine um_dup (pc2 := 261) d_Mo_statement_260 rfl rfl ?_
    refine um_getI (pc2 := 264) d_Mo_statement_261 rfl f_Mo_173 rfl rfl ?_
    refine um_iconst (pc2 := 265) (v := 1) d_Mo_statement_264 rfl (by decide) ?_
    refine um_isub (pc2 := 266) d_Mo_statement_265 rfl ?_
    refine um_putI (pc2 := 269) d_Mo_statement_266 rfl fw_Mo_173 rfl rfl (um_gen (fun σ33 eσ33 => ?_))
    replace h := h σ33 eσ33
    exact um_vret d_Mo_statement_269 rfl ⟨rfl, h⟩
  exact um_tableOut (tgt := 259) d_Mo_statement_8 (by have := um_toInt_ne (kk := 9) z9 (by decide); have := um_toInt_ne (kk := 10) z10 (by decide); have := um_toInt_ne (kk := 11) z11 (by decide); have := um_toInt_ne (kk := 12) z12 (by decide); have := um_toInt_ne (kk := 13) z13 (by decide); have := um_toInt_ne (kk := 14) z14 (by decide); have := um_toInt_ne (kk := 15) z15 (by decide); omega) rfl hE
def wp_Mo_tries_181 (Q : um_S → Prop) (σ : um_S) : Prop :=
  ∀ σ1 : um_S, σ1 = um_up σ 38 37 ((σ 38 37) - 1) → Q σ1
def wp_Mo_tries_156 (Q : um_S → Prop) (v1 : Int32) (σ : um_S) : Prop :=
  vp_in v1 2002 ∧ vp_in (σ 38 32) 2001 ∧ ∀ σ1 : um_S, σ1 = um_up σ 62 (σ 38 32).toNatClampNeg (σ 68 v1.toNatClampNeg) → ∀ σ2 : um_S, σ2 = um_up σ1 38 32 ((σ1 38 32) + 1) → wp_Mo_tries_181 Q σ2
def wp_Mo_tries (a1 : Int32) (σ : um_S) (Q : um_S → Prop) : Prop :=
  vp_in a1 2002 ∧ ∀ x1 : Int32, x1 = (σ 63 a1.toNatClampNeg) → vp_in a1 2002 ∧ ∀ x2 : Int32, x2 = (σ 67 a1.toNatClampNeg) → (x2 = 1 → wp_Mo_item a1 σ (fun σ3 => vp_in x1 150 ∧ vp_in a1 2002 ∧ vp_in a1 2002 ∧ vp_in a1 2002 ∧ vp_in a1 2002 ∧ wp_Mo_hasFinally (σ3 68 a1.toNatClampNeg) σ3 (fun t5 σ4 => (t5 = false → wp_Mo_begin (σ3 40 x1.toNatClampNeg) (2 * (σ3 68 a1.toNatClampNeg)) ((σ3 65 a1.toNatClampNeg) + 1) ((σ3 66 a1.toNatClampNeg) + 0) σ4 (fun σ6 => Q σ6)) ∧ (t5 = true → wp_Mo_begin (σ3 40 x1.toNatClampNeg) (2 * (σ3 68 a1.toNatClampNeg)) ((σ3 65 a1.toNatClampNeg) + 1) ((σ3 66 a1.toNatClampNeg) + 1) σ4 (fun σ7 => Q σ7))))) ∧ (¬ x2 = 1 → (x2 = 2 → vp_in a1 2002 ∧ wp_Mo_hasFinally (σ 68 a1.toNatClampNeg) σ (fun t9 σ8 => (t9 = false → Q σ8) ∧ (t9 = true → vp_in a1 2002 ∧ wp_Mo_last (σ8 68 a1.toNatClampNeg) σ8 (fun σ10 => Q σ10)))) ∧ (¬ x2 = 2 → vp_in a1 2002 ∧ wp_Mo_ends (σ 68 a1.toNatClampNeg) σ (fun σ11 => wp_Mo_catches x1 σ11 (fun x13 σ12 => (0 < x13 → wp_Mo_tries_156 Q a1 σ12) ∧ (¬ 0 < x13 → vp_in a1 2002 ∧ wp_Mo_hasFinally (σ12 68 a1.toNatClampNeg) σ12 (fun t15 σ14 => (t15 = false → wp_Mo_tries_181 Q σ14) ∧ (t15 = true → wp_Mo_tries_156 Q a1 σ14)))))))
set_option maxHeartbeats 4000000 in
set_option maxRecDepth 100000 in
theorem b_Mo_tries_181 {Q : um_S → Prop} {σ : um_S} (h : wp_Mo_tries_181 Q σ) : um_Ev um_cl um_AW um_L um_SX M_Mo_tries 2 45 181 [some (.ref 38), none, none] [] σ (um_Qv Q) := by
  unfold wp_Mo_tries_181 at h
  refine um_aload_n (pc2 := 182) d_Mo_tries_181 rfl rfl ?_
  refine um_dup (pc2 := 183) d_Mo_tries_182 rfl rfl ?_
  refine um_getI (pc2 := 186) d_Mo_tries_183 rfl f_Mo_173 rfl rfl ?_
  refine um_iconst (pc2 := 187) (v := 1) d_Mo_tries_186 rfl (by decide) ?_
  refine um_isub (pc2 := 188) d_Mo_tries_187 rfl ?_
  refine um_putI (pc2 := 191) d_Mo_tries_188 rfl fw_Mo_173 rfl rfl (um_gen (fun σ1 eσ1 => ?_))
  replace h := h σ1 eσ1
  exact um_vret d_Mo_tries_191 rfl ⟨rfl, h⟩
set_option maxHeartbeats 4000000 in
set_option maxRecDepth 100000 in
theorem b_Mo_tries_156 {Q : um_S → Prop} {v1 : Int32} {σ : um_S} (h : wp_Mo_tries_156 Q v1 σ) : um_Ev um_cl um_AW um_L um_SX M_Mo_tries 2 45 156 [some (.ref 38), some (.int v1), none] [] σ (um_Qv Q) := by
  unfold wp_Mo_tries_156 at h
  refine um_aload_n (pc2 := 157) d_Mo_tries_156 rfl rfl ?_
  refine um_getR (pc2 := 160) d_Mo_tries_157 rfl f_Mo_79 rfl rfl ?_
  refine um_aload_n (pc2 := 161) d_Mo_tries_160 rfl rfl ?_
  refine um_getI (pc2 := 164) d_Mo_tries_161 rfl f_Mo_231 rfl rfl ?_
  refine um_aload_n (pc2 := 165) d_Mo_tries_164 rfl rfl ?_
  refine um_getR (pc2 := 168) d_Mo_tries_165 rfl f_Mo_97 rfl rfl ?_
  refine um_iload_n (pc2 := 169) d_Mo_tries_168 rfl rfl ?_
  refine um_iald (pc2 := 170) d_Mo_tries_169 rfl rfl h.1 rfl ?_
  replace h := h.2
  refine um_iast (pc2 := 171) d_Mo_tries_170 rfl rfl h.1 rfl (um_gen (fun σ1 eσ1 => ?_))
  replace h := h.2 σ1 eσ1
  refine um_aload_n (pc2 := 172) d_Mo_tries_171 rfl rfl ?_
  refine um_dup (pc2 := 173) d_Mo_tries_172 rfl rfl ?_
  refine um_getI (pc2 := 176) d_Mo_tries_173 rfl f_Mo_231 rfl rfl ?_
  refine um_iconst (pc2 := 177) (v := 1) d_Mo_tries_176 rfl (by decide) ?_
  refine um_iadd (pc2 := 178) d_Mo_tries_177 rfl ?_
  refine um_putI (pc2 := 181) d_Mo_tries_178 rfl fw_Mo_231 rfl rfl (um_gen (fun σ2 eσ2 => ?_))
  replace h := h σ2 eσ2
  refine um_forget [true, false, false] rfl ?_
  exact b_Mo_tries_181 h
set_option maxHeartbeats 4000000 in
set_option maxRecDepth 100000 in
theorem c_Mo_tries {a1 : Int32} {σ : um_S} {Q : um_S → Prop} (h : wp_Mo_tries a1 σ Q) : um_Con um_cl um_AW um_L um_SX 2 45 M_Mo_tries [.ref 38, .int a1] σ (um_Qv Q) := by
  refine um_con (by decide) (Nat.le_of_ble_eq_true rfl) (fun v hv => by simp only [List.mem_cons, List.not_mem_nil, or_false] at hv; rcases hv with rfl | rfl <;> rfl) ?_
  show um_Ev um_cl um_AW um_L um_SX M_Mo_tries 2 45 0 [some (.ref 38), some (.int a1), none] [] σ (um_Qv Q)
  unfold wp_Mo_tries at h
  refine um_aload_n (pc2 := 1) d_Mo_tries_0 rfl rfl ?_
  refine um_getR (pc2 := 4) d_Mo_tries_1 rfl f_Mo_82 rfl rfl ?_
  refine um_iload_n (pc2 := 5) d_Mo_tries_4 rfl rfl ?_
  refine um_iald (pc2 := 6) d_Mo_tries_5 rfl rfl h.1 rfl ?_
  replace h := h.2
  refine um_top (fun x1 ex1 => ?_)
  replace h := h x1 ex1
  refine um_istore_n (pc2 := 7) (ls2 := [some (.ref 38), some (.int a1), some (.int x1)]) d_Mo_tries_6 rfl (Nat.le_of_ble_eq_true rfl) rfl ?_
  refine um_aload_n (pc2 := 8) d_Mo_tries_7 rfl rfl ?_
  refine um_getR (pc2 := 11) d_Mo_tries_8 rfl f_Mo_94 rfl rfl ?_
  refine um_iload_n (pc2 := 12) d_Mo_tries_11 rfl rfl ?_
  refine um_iald (pc2 := 13) d_Mo_tries_12 rfl rfl h.1 rfl ?_
  replace h := h.2
  refine um_top (fun x2 ex2 => ?_)
  replace h := h x2 ex2
  by_cases z1 : x2 = 1
  · replace h := h.1 z1
    refine um_lookup (tgt := 40) (off := 27) d_Mo_tries_13 (by decide) (by rw [z1]; decide) rfl ?_
    refine um_aload_n (pc2 := 41) d_Mo_tries_40 rfl rfl ?_
    refine um_iload_n (pc2 := 42) d_Mo_tries_41 rfl rfl ?_
    refine um_callV1v (pc2 := 45) d_Mo_tries_42 rfl g_Mo_213 rfl (Nat.le_of_ble_eq_true rfl) (Nat.le_of_ble_eq_true rfl) (Nat.le_of_ble_eq_true rfl) (c_Mo_item h) (fun σ3 h => ?_)
    refine um_aload_n (pc2 := 46) d_Mo_tries_45 rfl rfl ?_
    refine um_aload_n (pc2 := 47) d_Mo_tries_46 rfl rfl ?_
    refine um_getR (pc2 := 50) d_Mo_tries_47 rfl f_Mo_13 rfl rfl ?_
    refine um_iload_n (pc2 := 51) d_Mo_tries_50 rfl rfl ?_
    refine um_iald (pc2 := 52) d_Mo_tries_51 rfl rfl h.1 rfl ?_
    replace h := h.2
    refine um_iconst (pc2 := 53) (v := 2) d_Mo_tries_52 rfl (by decide) ?_
    refine um_aload_n (pc2 := 54) d_Mo_tries_53 rfl rfl ?_
    refine um_getR (pc2 := 57) d_Mo_tries_54 rfl f_Mo_97 rfl rfl ?_
    refine um_iload_n (pc2 := 58) d_Mo_tries_57 rfl rfl ?_
    refine um_iald (pc2 := 59) d_Mo_tries_58 rfl rfl h.1 rfl ?_
    replace h := h.2
    refine um_imul (pc2 := 60) d_Mo_tries_59 rfl ?_
    refine um_aload_n (pc2 := 61) d_Mo_tries_60 rfl rfl ?_
    refine um_getR (pc2 := 64) d_Mo_tries_61 rfl f_Mo_88 rfl rfl ?_
    refine um_iload_n (pc2 := 65) d_Mo_tries_64 rfl rfl ?_
    refine um_iald (pc2 := 66) d_Mo_tries_65 rfl rfl h.1 rfl ?_
    replace h := h.2
    refine um_iconst (pc2 := 67) (v := 1) d_Mo_tries_66 rfl (by decide) ?_
    refine um_iadd (pc2 := 68) d_Mo_tries_67 rfl ?_
    refine um_aload_n (pc2 := 69) d_Mo_tries_68 rfl rfl ?_
    refine um_getR (pc2 := 72) d_Mo_tries_69 rfl f_Mo_91 rfl rfl ?_
    refine um_iload_n (pc2 := 73) d_Mo_tries_72 rfl rfl ?_
    refine um_iald (pc2 := 74) d_Mo_tries_73 rfl rfl h.1 rfl ?_
    replace h := h.2
    refine um_aload_n (pc2 := 75) d_Mo_tries_74 rfl rfl ?_
    refine um_aload_n (pc2 := 76) d_Mo_tries_75 rfl rfl ?_
    refine um_getR (pc2 := 79) d_Mo_tries_76 rfl f_Mo_97 rfl rfl ?_
    refine um_iload_n (pc2 := 80) d_Mo_tries_79 rfl rfl ?_
    refine um_iald (pc2 := 81) d_Mo_tries_80 rfl rfl h.1 rfl ?_
    replace h := h.2
    refine um_callV1z (pc2 := 84) d_Mo_tries_81 rfl g_Mo_225 rfl (Nat.le_of_ble_eq_true rfl) (Nat.le_of_ble_eq_true rfl) (Nat.le_of_ble_eq_true rfl) (c_Mo_hasFinally h) (fun t5 σ4 h => ?_)
    refine um_if_eq (pc2 := 87) (tgt := 91) d_Mo_tries_84 rfl rfl (fun z => ?_) (fun z => ?_)
    · replace h := h.1 (um_b0 z)
      refine um_iconst (pc2 := 92) (v := 0) d_Mo_tries_91 rfl (by decide) ?_
      refine um_iadd (pc2 := 93) d_Mo_tries_92 rfl ?_
      refine um_callV4v (pc2 := 96) d_Mo_tries_93 rfl g_Mo_176 rfl (Nat.le_of_ble_eq_true rfl) (Nat.le_of_ble_eq_true rfl) (Nat.le_of_ble_eq_true rfl) (c_Mo_begin h) (fun σ6 h => ?_)
      refine um_goto (tgt := 191) d_Mo_tries_96 rfl ?_
      exact um_vret d_Mo_tries_191 rfl ⟨rfl, h⟩
    · replace h := h.2 (um_b1 z)
      refine um_iconst (pc2 := 88) (v := 1) d_Mo_tries_87 rfl (by decide) ?_
      refine um_goto (tgt := 92) d_Mo_tries_88 rfl ?_
      refine um_iadd (pc2 := 93) d_Mo_tries_92 rfl ?_
      refine um_callV4v (pc2 := 96) d_Mo_tries_93 rfl g_Mo_176 rfl (Nat.le_of_ble_eq_true rfl) (Nat.le_of_ble_eq_true rfl) (Nat.le_of_ble_eq_true rfl) (c_Mo_begin h) (fun σ7 h => ?_)
      refine um_goto (tgt := 191) d_Mo_tries_96 rfl ?_
      exact um_vret d_Mo_tries_191 rfl ⟨rfl, h⟩
  replace h := h.2 z1
  by_cases z2 : x2 = 2
  · replace h := h.1 z2
    refine um_lookup (tgt := 99) (off := 86) d_Mo_tries_13 (by decide) (by rw [z2]; decide) rfl ?_
    refine um_aload_n (pc2 := 100) d_Mo_tries_99 rfl rfl ?_
    refine um_aload_n (pc2 := 101) d_Mo_tries_100 rfl rfl ?_
    refine um_getR (pc2 := 104) d_Mo_tries_101 rfl f_Mo_97 rfl rfl ?_
    refine um_iload_n (pc2 := 105) d_Mo_tries_104 rfl rfl ?_
    refine um_iald (pc2 := 106) d_Mo_tries_105 rfl rfl h.1 rfl ?_
    replace h := h.2
    refine um_callV1z (pc2 := 109) d_Mo_tries_106 rfl g_Mo_225 rfl (Nat.le_of_ble_eq_true rfl) (Nat.le_of_ble_eq_true rfl) (Nat.le_of_ble_eq_true rfl) (c_Mo_hasFinally h) (fun t9 σ8 h => ?_)
    refine um_if_eq (pc2 := 112) (tgt := 191) d_Mo_tries_109 rfl rfl (fun z => ?_) (fun z => ?_)
    · replace h := h.1 (um_b0 z)
      exact um_vret d_Mo_tries_191 rfl ⟨rfl, h⟩
    · replace h := h.2 (um_b1 z)
      refine um_aload_n (pc2 := 113) d_Mo_tries_112 rfl rfl ?_
      refine um_aload_n (pc2 := 114) d_Mo_tries_113 rfl rfl ?_
      refine um_getR (pc2 := 117) d_Mo_tries_114 rfl f_Mo_97 rfl rfl ?_
      refine um_iload_n (pc2 := 118) d_Mo_tries_117 rfl rfl ?_
      refine um_iald (pc2 := 119) d_Mo_tries_118 rfl rfl h.1 rfl ?_
      replace h := h.2
      refine um_callV1v (pc2 := 122) d_Mo_tries_119 rfl g_Mo_228 rfl (Nat.le_of_ble_eq_true rfl) (Nat.le_of_ble_eq_true rfl) (Nat.le_of_ble_eq_true rfl) (c_Mo_last h) (fun σ10 h => ?_)
      refine um_goto (tgt := 191) d_Mo_tries_122 rfl ?_
      exact um_vret d_Mo_tries_191 rfl ⟨rfl, h⟩
  replace h := h.2 z2
  refine um_lookup (tgt := 125) (off := 112) d_Mo_tries_13 (by decide) ((lv_osw z1 rfl).trans ((lv_osw z2 rfl).trans (rfl))) rfl ?_
  refine um_aload_n (pc2 := 126) d_Mo_tries_125 rfl rfl ?_
  refine um_aload_n (pc2 := 127) d_Mo_tries_126 rfl rfl ?_
  refine um_getR (pc2 := 130) d_Mo_tries_127 rfl f_Mo_97 rfl rfl ?_
  refine um_iload_n (pc2 := 131) d_Mo_tries_130 rfl rfl ?_
  refine um_iald (pc2 := 132) d_Mo_tries_131 rfl rfl h.1 rfl ?_
  replace h := h.2
  refine um_callV1v (pc2 := 135) d_Mo_tries_132 rfl g_Mo_216 rfl (Nat.le_of_ble_eq_true rfl) (Nat.le_of_ble_eq_true rfl) (Nat.le_of_ble_eq_true rfl) (c_Mo_ends h) (fun σ11 h => ?_)
  refine um_aload_n (pc2 := 136) d_Mo_tries_135 rfl rfl ?_
  refine um_iload_n (pc2 := 137) d_Mo_tries_136 rfl rfl ?_
  refine um_callV1i (pc2 := 140) d_Mo_tries_137 rfl g_Mo_160 rfl (Nat.le_of_ble_eq_true rfl) (Nat.le_of_ble_eq_true rfl) (Nat.le_of_ble_eq_true rfl) (c_Mo_catches h) (fun x13 σ12 h => ?_)
  refine um_if_gt (pc2 := 143) (tgt := 156) d_Mo_tries_140 rfl rfl (fun z => ?_) (fun z => ?_)
  · replace h := h.1 z
    refine um_forget [true, true, false] rfl ?_
    exact b_Mo_tries_156 h
  · replace h := h.2 z
    refine um_aload_n (pc2 := 144) d_Mo_tries_143 rfl rfl ?_
    refine um_aload_n (pc2 := 145) d_Mo_tries_144 rfl rfl ?_
    refine um_getR (pc2 := 148) d_Mo_tries_145 rfl f_Mo_97 rfl rfl ?_
    refine um_iload_n (pc2 := 149) d_Mo_tries_148 rfl rfl ?_
    refine um_iald (pc2 := 150) d_Mo_tries_149 rfl rfl h.1 rfl ?_
    replace h := h.2
    refine um_callV1z (pc2 := 153) d_Mo_tries_150 rfl g_Mo_225 rfl (Nat.le_of_ble_eq_true rfl) (Nat.le_of_ble_eq_true rfl) (Nat.le_of_ble_eq_true rfl) (c_Mo_hasFinally h) (fun t15 σ14 h => ?_)
    refine um_if_eq (pc2 := 156) (tgt := 181) d_Mo_tries_153 rfl rfl (fun z => ?_) (fun z => ?_)
    · replace h := h.1 (um_b0 z)
      refine um_forget [true, false, false] rfl ?_
      exact b_Mo_tries_181 h
    · replace h := h.2 (um_b1 z)
      refine um_forget [true, true, false] rfl ?_
      exact b_Mo_tries_156 h
