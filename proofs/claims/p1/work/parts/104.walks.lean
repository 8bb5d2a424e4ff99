def wp_La_takeTurns_2 (Q : um_S → Prop) : Nat → Int32 → um_S → Prop
  | 0, _, _ => False
  | n + 1, v1, σ =>
    (1000000 ≤ v1 → Q σ) ∧ (¬ 1000000 ≤ v1 → ((σ 6 4) ≤ 0 → Q σ) ∧ (¬ (σ 6 4) ≤ 0 → (¬ (σ 3 8) = 0 → Q σ) ∧ ((σ 3 8) = 0 → ∀ x1 : Int32, x1 = ((σ 6 4) - 1) → vp_in x1 2001 ∧ ∀ x2 : Int32, x2 = (σ 31 x1.toNatClampNeg) → vp_in x1 2001 ∧ ∀ x3 : Int32, x3 = (σ 33 x1.toNatClampNeg) → vp_in x1 2001 ∧ ∀ σ4 : um_S, σ4 = um_up σ 33 x1.toNatClampNeg (x3 + 1) → wp_Tr_kindOf x2 σ4 (fun x6 σ5 => (x6 = 12 → wp_La_turnIf x1 x2 x3 σ5 (fun σ7 => wp_La_takeTurns_2 Q n (v1 + 1) σ7)) ∧ (¬ x6 = 12 → (x6 = 13 → wp_La_turnWhile x1 x2 x3 σ5 (fun σ8 => wp_La_takeTurns_2 Q n (v1 + 1) σ8)) ∧ (¬ x6 = 13 → (x6 = 16 → wp_La_turnReturn x1 σ5 (fun σ9 => wp_La_takeTurns_2 Q n (v1 + 1) σ9)) ∧ (¬ x6 = 16 → (x6 = 17 → wp_La_turnBreak x1 σ5 (fun σ10 => wp_La_takeTurns_2 Q n (v1 + 1) σ10)) ∧ (¬ x6 = 17 → (x6 = 18 → (3 ≤ x3 → wp_La_turnApart x1 x3 σ5 (fun σ11 => wp_La_takeTurns_2 Q n (v1 + 1) σ11)) ∧ (¬ 3 ≤ x3 → wp_La_turnTry x1 x2 x3 σ5 (fun σ12 => wp_La_takeTurns_2 Q n (v1 + 1) σ12))) ∧ (¬ x6 = 18 → wp_La_turnPlain x1 x2 x3 σ5 (fun σ13 => wp_La_takeTurns_2 Q n (v1 + 1) σ13))))))))))
def wp_La_takeTurns (σ : um_S) (Q : um_S → Prop) : Prop :=
  wp_La_takeTurns_2 Q 100000 0 σ
set_option maxHeartbeats 4000000 in
set_option maxRecDepth 100000 in
theorem b_La_takeTurns_2 {Q : um_S → Prop} (n : Nat) : ∀ (v1 : Int32) (σ : um_S), wp_La_takeTurns_2 Q n v1 σ → um_Ev um_cl um_AW um_L um_SX M_La_takeTurns 4 97 2 [some (.ref 3), some (.int v1), none, none, none] [] σ (um_Qv Q) := by
  induction n with
  | zero =>
    intro v1 σ h
    exact h.elim
  | succ n ih =>
    intro v1 σ h
    unfold wp_La_takeTurns_2 at h
    refine um_iload_n (pc2 := 3) d_La_takeTurns_2 rfl rfl ?_
    refine um_ldc (pc2 := 5) (v := 1000000) d_La_takeTurns_3 rfl k_La_109 ?_
    refine um_icmp_ge (pc2 := 8) (tgt := 199) d_La_takeTurns_5 rfl rfl (fun z => ?_) (fun z => ?_)
    · replace h := h.1 z
      exact um_vret d_La_takeTurns_199 rfl ⟨rfl, h⟩
    · replace h := h.2 z
      refine um_aload_n (pc2 := 9) d_La_takeTurns_8 rfl rfl ?_
      refine um_getR (pc2 := 12) d_La_takeTurns_9 rfl f_La_21 rfl rfl ?_
      refine um_getI (pc2 := 15) d_La_takeTurns_12 rfl f_La_50 rfl rfl ?_
      refine um_if_le (pc2 := 18) (tgt := 199) d_La_takeTurns_15 rfl rfl (fun z => ?_) (fun z => ?_)
      · replace h := h.1 z
        exact um_vret d_La_takeTurns_199 rfl ⟨rfl, h⟩
      · replace h := h.2 z
        refine um_aload_n (pc2 := 19) d_La_takeTurns_18 rfl rfl ?_
        refine um_getI (pc2 := 22) d_La_takeTurns_19 rfl f_La_61 rfl rfl ?_
        refine um_if_ne (pc2 := 25) (tgt := 199) d_La_takeTurns_22 rfl rfl (fun z => ?_) (fun z => ?_)
        · replace h := h.1 z
          exact um_vret d_La_takeTurns_199 rfl ⟨rfl, h⟩
        · replace h := h.2 z
          refine um_aload_n (pc2 := 26) d_La_takeTurns_25 rfl rfl ?_
          refine um_getR (pc2 := 29) d_La_takeTurns_26 rfl f_La_21 rfl rfl ?_
          refine um_getI (pc2 := 32) d_La_takeTurns_29 rfl f_La_50 rfl rfl ?_
          refine um_iconst (pc2 := 33) (v := 1) d_La_takeTurns_32 rfl (by decide) ?_
          refine um_isub (pc2 := 34) d_La_takeTurns_33 rfl ?_
          refine um_top (fun x1 ex1 => ?_)
          replace h := h x1 ex1
          refine um_istore_n (pc2 := 35) (ls2 := [some (.ref 3), some (.int v1), some (.int x1), none, none]) d_La_takeTurns_34 rfl (Nat.le_of_ble_eq_true rfl) rfl ?_
          refine um_aload_n (pc2 := 36) d_La_takeTurns_35 rfl rfl ?_
          refine um_getR (pc2 := 39) d_La_takeTurns_36 rfl f_La_21 rfl rfl ?_
          refine um_getR (pc2 := 42) d_La_takeTurns_39 rfl f_La_110 rfl rfl ?_
          refine um_iload_n (pc2 := 43) d_La_takeTurns_42 rfl rfl ?_
          refine um_iald (pc2 := 44) d_La_takeTurns_43 rfl rfl h.1 rfl ?_
          replace h := h.2
          refine um_top (fun x2 ex2 => ?_)
          replace h := h x2 ex2
          refine um_istore_n (pc2 := 45) (ls2 := [some (.ref 3), some (.int v1), some (.int x1), some (.int x2), none]) d_La_takeTurns_44 rfl (Nat.le_of_ble_eq_true rfl) rfl ?_
          refine um_aload_n (pc2 := 46) d_La_takeTurns_45 rfl rfl ?_
          refine um_getR (pc2 := 49) d_La_takeTurns_46 rfl f_La_21 rfl rfl ?_
          refine um_getR (pc2 := 52) d_La_takeTurns_49 rfl f_La_113 rfl rfl ?_
          refine um_iload_n (pc2 := 53) d_La_takeTurns_52 rfl rfl ?_
          refine um_iald (pc2 := 54) d_La_takeTurns_53 rfl rfl h.1 rfl ?_
          replace h := h.2
          refine um_top (fun x3 ex3 => ?_)
          replace h := h x3 ex3
          refine um_istore (pc2 := 56) (ls2 := [some (.ref 3), some (.int v1), some (.int x1), some (.int x2), some (.int x3)]) d_La_takeTurns_54 rfl (Nat.le_of_ble_eq_true rfl) rfl ?_
          refine um_aload_n (pc2 := 57) d_La_takeTurns_56 rfl rfl ?_
          refine um_getR (pc2 := 60) d_La_takeTurns_57 rfl f_La_21 rfl rfl ?_
          refine um_getR (pc2 := 63) d_La_takeTurns_60 rfl f_La_113 rfl rfl ?_
          refine um_iload_n (pc2 := 64) d_La_takeTurns_63 rfl rfl ?_
          refine um_iload (pc2 := 66) d_La_takeTurns_64 rfl rfl ?_
          refine um_iconst (pc2 := 67) (v := 1) d_La_takeTurns_66 rfl (by decide) ?_
          refine um_iadd (pc2 := 68) d_La_takeTurns_67 rfl ?_
          refine um_iast (pc2 := 69) d_La_takeTurns_68 rfl rfl h.1 rfl (um_gen (fun σ4 eσ4 => ?_))
          replace h := h.2 σ4 eσ4
          refine um_aload_n (pc2 := 70) d_La_takeTurns_69 rfl rfl ?_
          refine um_getR (pc2 := 73) d_La_takeTurns_70 rfl f_La_36 rfl rfl ?_
          refine um_iload_n (pc2 := 74) d_La_takeTurns_73 rfl rfl ?_
          refine um_callV1i (pc2 := 77) d_La_takeTurns_74 rfl g_La_116 rfl (Nat.le_of_ble_eq_true rfl) (Nat.le_of_ble_eq_true rfl) (Nat.le_of_ble_eq_true rfl) (c_Tr_kindOf h) (fun x6 σ5 h => ?_)
          by_cases z12 : x6 = 12
          · replace h := h.1 z12
            refine um_tableAt (tgt := 120) d_La_takeTurns_77 z12 (kk := 12) (by decide) (by decide) (by decide) rfl rfl ?_
            refine um_aload_n (pc2 := 121) d_La_takeTurns_120 rfl rfl ?_
            refine um_iload_n (pc2 := 122) d_La_takeTurns_121 rfl rfl ?_
            refine um_iload_n (pc2 := 123) d_La_takeTurns_122 rfl rfl ?_
            refine um_iload (pc2 := 125) d_La_takeTurns_123 rfl rfl ?_
            refine um_callV3v (pc2 := 128) d_La_takeTurns_125 rfl g_La_120 rfl (Nat.le_of_ble_eq_true rfl) (Nat.le_of_ble_eq_true rfl) (Nat.le_of_ble_eq_true rfl) (c_La_turnIf h) (fun σ7 h => ?_)
            refine um_goto (tgt := 193) d_La_takeTurns_128 rfl ?_
            refine um_iinc (pc2 := 196) (v := (v1 + 1)) (ls2 := [some (.ref 3), some (.int (v1 + 1)), some (.int x1), some (.int x2), some (.int x3)]) d_La_takeTurns_193 rfl rfl rfl (Nat.le_of_ble_eq_true rfl) rfl ?_
            refine um_goto (tgt := 2) d_La_takeTurns_196 rfl ?_
            refine um_forget [true, true, false, false, false] rfl ?_
            exact ih _ _ h
          replace h := h.2 z12
          by_cases z13 : x6 = 13
          · replace h := h.1 z13
            refine um_tableAt (tgt := 131) d_La_takeTurns_77 z13 (kk := 13) (by decide) (by decide) (by decide) rfl rfl ?_
            refine um_aload_n (pc2 := 132) d_La_takeTurns_131 rfl rfl ?_
            refine um_iload_n (pc2 := 133) d_La_takeTurns_132 rfl rfl ?_
            refine um_iload_n (pc2 := 134) d_La_takeTurns_133 rfl rfl ?_
            refine um_iload (pc2 := 136) d_La_takeTurns_134 rfl rfl ?_
            refine um_callV3v (pc2 := 139) d_La_takeTurns_136 rfl g_La_123 rfl (Nat.le_of_ble_eq_true rfl) (Nat.le_of_ble_eq_true rfl) (Nat.le_of_ble_eq_true rfl) (c_La_turnWhile h) (fun σ8 h => ?_)
            refine um_goto (tgt := 193) d_La_takeTurns_139 rfl ?_
            refine um_iinc (pc2 := 196) (v := (v1 + 1)) (ls2 := [some (.ref 3), some (.int (v1 + 1)), some (.int x1), some (.int x2), some (.int x3)]) d_La_takeTurns_193 rfl rfl rfl (Nat.le_of_ble_eq_true rfl) rfl ?_
            refine um_goto (tgt := 2) d_La_takeTurns_196 rfl ?_
            refine um_forget [true, true, false, false, false] rfl ?_
            exact ih _ _ h
          replace h := h.2 z13
          by_cases z16 : x6 = 16
          · replace h := h.1 z16
            refine um_tableAt (tgt := 142) d_La_takeTurns_77 z16 (kk := 16) (by decide) (by decide) (by decide) rfl rfl ?_
            refine um_aload_n (pc2 := 143) d_La_takeTurns_142 rfl rfl ?_
            refine um_iload_n (pc2 := 144) d_La_takeTurns_143 rfl rfl ?_
            refine um_callV1v (pc2 := 147) d_La_takeTurns_144 rfl g_La_126 rfl (Nat.le_of_ble_eq_true rfl) (Nat.le_of_ble_eq_true rfl) (Nat.le_of_ble_eq_true rfl) (c_La_turnReturn h) (fun σ9 h => ?_)
            refine um_goto (tgt := 193) d_La_takeTurns_147 rfl ?_
            refine um_iinc (pc2 := 196) (v := (v1 + 1)) (ls2 := [some (.ref 3), some (.int (v1 + 1)), some (.int x1), some (.int x2), some (.int x3)]) d_La_takeTurns_193 rfl rfl rfl (Nat.le_of_ble_eq_true rfl) rfl ?_
            refine um_goto (tgt := 2) d_La_takeTurns_196 rfl ?_
            refine um_forget [true, true, false, false, false] rfl ?_
            exact ih _ _ h
          replace h := h.2 z16
          by_cases z17 : x6 = 17
          · replace h := h.1 z17
            refine um_tableAt (tgt := 150) d_La_takeTurns_77 z17 (kk := 17) (by decide) (by decide) (by decide) rfl rfl ?_
            refine um_aload_n (pc2 := 151) d_La_takeTurns_150 rfl rfl ?_
            refine um_iload_n (pc2 := 152) d_La_takeTurns_151 rfl rfl ?_
            refine um_callV1v (pc2 := 155) d_La_takeTurns_152 rfl g_La_129 rfl (Nat.le_of_ble_eq_true rfl) (Nat.le_of_ble_eq_true rfl) (Nat.le_of_ble_eq_true rfl) (c_La_turnBreak h) (fun σ10 h => ?_)
            refine um_goto (tgt := 193) d_La_takeTurns_155 rfl ?_
            refine um_iinc (pc2 := 196) (v := (v1 + 1)) (ls2 := [some (.ref 3), some (.int (v1 + 1)), some (.int x1), some (.int x2), some (.int x3)]) d_La_takeTurns_193 rfl rfl rfl (Nat.le_of_ble_eq_true rfl) rfl ?_
            refine um_goto (tgt := 2) d_La_takeTurns_196 rfl ?_
            refine um_forget [true, true, false, false, false] rfl ?_
            exact ih _ _ h
          replace h := h.2 z17
          by_cases z18 : x6 = 18
          · replace h := h.1 z18
            refine um_tableAt (tgt := 158) d_La_takeTurns_77 z18 (kk := 18) (by decide) (by decide) (by decide) rfl rfl ?_
            refine um_iload (pc2 := 160) d_La_takeTurns_158 rfl rfl ?_
            refine um_iconst (pc2 := 161) (v := 3) d_La_takeTurns_160 rfl (by decide) ?_
            refine um_icmp_ge (pc2 := 164) (tgt := 175) d_La_takeTurns_161 rfl rfl (fun z => ?_) (fun z => ?_)
            · replace h := h.1 z
              refine um_aload_n (pc2 := 176) d_La_takeTurns_175 rfl rfl ?_
              refine um_iload_n (pc2 := 177) d_La_takeTurns_176 rfl rfl ?_
              refine um_iload (pc2 := 179) d_La_takeTurns_177 rfl rfl ?_
              refine um_callV2v (pc2 := 182) d_La_takeTurns_179 rfl g_La_135 rfl (Nat.le_of_ble_eq_true rfl) (Nat.le_of_ble_eq_true rfl) (Nat.le_of_ble_eq_true rfl) (c_La_turnApart h) (fun σ11 h => ?_)
              refine um_goto (tgt := 193) d_La_takeTurns_182 rfl ?_
              refine um_iinc (pc2 := 196) (v := (v1 + 1)) (ls2 := [some (.ref 3), some (.int (v1 + 1)), some (.int x1), some (.int x2), some (.int x3)]) d_La_takeTurns_193 rfl rfl rfl (Nat.le_of_ble_eq_true rfl) rfl ?_
              refine um_goto (tgt := 2) d_La_takeTurns_196 rfl ?_
              refine um_forget [true, true, false, false, false] rfl ?_
              exact ih _ _ h
            · replace h := h.2 z
              refine um_aload_n (pc2 := 165) d_La_takeTurns_164 rfl rfl ?_
              refine um_iload_n (pc2 := 166) d_La_takeTurns_165 rfl rfl ?_
              refine um_iload_n (pc2 := 167) d_La_takeTurns_166 rfl rfl ?_
              refine um_iload (pc2 := 169) d_La_takeTurns_167 rfl rfl ?_
              refine um_callV3v (pc2 := 172) d_La_takeTurns_169 rfl g_La_132 rfl (Nat.le_of_ble_eq_true rfl) (Nat.le_of_ble_eq_true rfl) (Nat.le_of_ble_eq_true rfl) (c_La_turnTry h) (fun σ12 h => ?_)
              refine um_goto (tgt := 193) d_La_takeTurns_172 rfl ?_
              refine um_iinc (pc2 := 196) (v := (v1 + 1)) (ls2 := [some (.ref 3), some (.int (v1 + 1)), some (.int x1), some (.int x2), some (.int x3)]) d_La_takeTurns_193 rfl rfl rfl (Nat.le_of_ble_eq_true rfl) rfl ?_
              refine um_goto (tgt := 2) d_La_takeTurns_196 rfl ?_
              refine um_forget [true, true, false, false, false] rfl ?_
              exact ih _ _ h
          replace h := h.2 z18
          have hE : um_Ev um_cl um_AW um_L um_SX M_La_takeTurns 4 97 185 [some (.ref 3), some (.int v1), some (.int x1), some (.int x2), some (.int x3)] [] σ5 (um_Qv Q) := by
            refine um_aload_n (pc2 := 186) d_La_takeTurns_185 rfl rfl ?_
            refine um_iload_n (pc2 := 187) d_La_takeTurns_186 rfl rfl ?_
            refine um_iload_n (pc2 := 188) d_La_takeTurns_187 rfl rfl ?_
            refine um_iload (pc2 := 190) d_La_takeTurns_188 rfl rfl ?_
            refine um_callV3v (pc2 := 193) d_La_takeTurns_190 rfl g_La_138 rfl (Nat.le_of_ble_eq_true rfl) (Nat.le_of_ble_eq_true rfl) (Nat.le_of_ble_eq_true rfl) (c_La_turnPlain h) (fun σ13 h => ?_)
            refine um_iinc (pc2 := 196) (v := (v1 + 1)) (ls2 := [some (.ref 3), some (.int (v1 + 1)), some (.int x1), some (.int x2), some (.int x3)]) d_La_takeTurns_193 rfl rfl rfl (Nat.le_of_ble_eq_true rfl) rfl ?_
            refine um_goto (tgt := 2) d_La_takeTurns_196 rfl ?_
            refine um_forget [true, true, false, false, false] rfl ?_
            exact ih _ _ h
          by_cases y14 : x6 = 14
          · exact um_tableAt (tgt := 185) d_La_takeTurns_77 y14 (kk := 14) (by decide) (by decide) (by decide) rfl rfl hE
          by_cases y15 : x6 = 15
          · exact um_tableAt (tgt := 185) d_La_takeTurns_77 y15 (kk := 15) (by decide) (by decide) (by decide) rfl rfl hE
          exact um_tableOut (tgt := 185) d_La_takeTurns_77 (by have := um_toInt_ne (kk := 12) z12 (by decide); have := um_toInt_ne (kk := 13) z13 (by decide); have := um_toInt_ne (kk := 14) y14 (by decide); have := um_toInt_ne (kk := 15) y15 (by decide); have := um_toInt_ne (kk := 16) z16 (by decide); have := um_toInt_ne (kk := 17) z17 (by decide); have := um_toInt_ne (kk := 18) z18 (by decide); omega) rfl hE
set_option maxHeartbeats 4000000 in
set_option maxRecDepth 100000 in
theorem c_La_takeTurns {σ : um_S} {Q : um_S → Prop} (h : wp_La_takeTurns σ Q) : um_Con um_cl um_AW um_L um_SX 4 97 M_La_takeTurns [.ref 3] σ (um_Qv Q) := by
  refine um_con (by decide) (Nat.le_of_ble_eq_true rfl) (fun v hv => by simp only [List.mem_cons, List.not_mem_nil, or_false] at hv; rcases hv with rfl <;> rfl) ?_
  show um_Ev um_cl um_AW um_L um_SX M_La_takeTurns 4 97 0 [some (.ref 3), none, none, none, none] [] σ (um_Qv Q)
  unfold wp_La_takeTurns at h
  refine um_iconst (pc2 := 1) (v := 0) d_La_takeTurns_0 rfl (by decide) ?_
  refine um_istore_n (pc2 := 2) (ls2 := [some (.ref 3), some (.int 0), none, none, none]) d_La_takeTurns_1 rfl (Nat.le_of_ble_eq_true rfl) rfl ?_
  refine um_forget [true, true, false, false, false] rfl ?_
  exact b_La_takeTurns_2 _ _ _ h
def wp_La_layFunction_56 (Q : um_S → Prop) : Nat → Int32 → um_S → Prop
  | 0, _, _ => False
  | n + 1, v3, σ =>
    (2000 ≤ v3 → Q σ) ∧ (¬ 2000 ≤ v3 → ((σ 3 6) ≤ v3 → Q σ) ∧ (¬ (σ 3 6) ≤ v3 → (¬ (σ 3 8) = 0 → Q σ) ∧ ((σ 3 8) = 0 → vp_in v3 2000 ∧ ∀ x1 : Int32, x1 = (σ 16 v3.toNatClampNeg) → vp_in x1 2001 ∧ wp_Sc_within x1 1 σ (fun x3 σ2 => wp_Wo_push (σ 24 x1.toNatClampNeg) x3 3 σ2 (fun σ4 => wp_La_takeTurns σ4 (fun σ5 => wp_La_layFunction_56 Q n (v3 + 1) σ5))))))
def wp_La_layFunction_46 (Q : um_S → Prop) (σ : um_S) : Prop :=
  wp_La_emit 14 0 0 σ (fun σ1 => wp_La_layFunction_56 Q 100000 0 σ1)
def wp_La_layFunction (a1 : Int32) (σ : um_S) (Q : um_S → Prop) : Prop :=
  vp_in a1 6 ∧ ∀ σ1 : um_S, σ1 = um_up σ 14 a1.toNatClampNeg (σ 2 5) → ∀ σ2 : um_S, σ2 = um_up σ1 3 6 0 → vp_in a1 6 ∧ ∀ x3 : Int32, x3 = (σ2 10 a1.toNatClampNeg) → (x3 = (-1) → wp_La_layFunction_46 Q σ2) ∧ (¬ x3 = (-1) → wp_La_begin x3 0 σ2 (fun σ4 => wp_La_takeTurns σ4 (fun σ5 => wp_La_layFunction_46 Q σ5)))
set_option maxHeartbeats 4000000 in
set_option maxRecDepth 100000 in
theorem b_La_layFunction_56 {Q : um_S → Prop} (n : Nat) : ∀ (v3 : Int32) (σ : um_S), wp_La_layFunction_56 Q n v3 σ → um_Ev um_cl um_AW um_L um_SX M_La_layFunction 5 121 56 [some (.ref 3), none, none, some (.int v3), none] [] σ (um_Qv Q) := by
  induction n with
  | zero =>
    intro v3 σ h
    exact h.elim
  | succ n ih =>
    intro v3 σ h
    unfold wp_La_layFunction_56 at h
    refine um_iload_n (pc2 := 57) d_La_layFunction_56 rfl rfl ?_
    refine um_sipush (pc2 := 60) (v := 2000) d_La_layFunction_57 rfl (by decide) ?_
    refine um_icmp_ge (pc2 := 63) (tgt := 120) d_La_layFunction_60 rfl rfl (fun z => ?_) (fun z => ?_)
    · replace h := h.1 z
      exact um_vret d_La_layFunction_120 rfl ⟨rfl, h⟩
    · replace h := h.2 z
      refine um_iload_n (pc2 := 64) d_La_layFunction_63 rfl rfl ?_
      refine um_aload_n (pc2 := 65) d_La_layFunction_64 rfl rfl ?_
      refine um_getI (pc2 := 68) d_La_layFunction_65 rfl f_La_78 rfl rfl ?_
      refine um_icmp_ge (pc2 := 71) (tgt := 120) d_La_layFunction_68 rfl rfl (fun z => ?_) (fun z => ?_)
      · replace h := h.1 z
        exact um_vret d_La_layFunction_120 rfl ⟨rfl, h⟩
      · replace h := h.2 z
        refine um_aload_n (pc2 := 72) d_La_layFunction_71 rfl rfl ?_
        refine um_getI (pc2 := 75) d_La_layFunction_72 rfl f_La_61 rfl rfl ?_
        refine um_if_ne (pc2 := 78) (tgt := 120) d_La_layFunction_75 rfl rfl (fun z => ?_) (fun z => ?_)
        · replace h := h.1 z
          exact um_vret d_La_layFunction_120 rfl ⟨rfl, h⟩
        · replace h := h.2 z
          refine um_aload_n (pc2 := 79) d_La_layFunction_78 rfl rfl ?_
          refine um_getR (pc2 := 82) d_La_layFunction_79 rfl f_La_32 rfl rfl ?_
          refine um_iload_n (pc2 := 83) d_La_layFunction_82 rfl rfl ?_
          refine um_iald (pc2 := 84) d_La_layFunction_83 rfl rfl h.1 rfl ?_
          replace h := h.2
          refine um_top (fun x1 ex1 => ?_)
          replace h := h x1 ex1
          refine um_istore (pc2 := 86) (ls2 := [some (.ref 3), none, none, some (.int v3), some (.int x1)]) d_La_layFunction_84 rfl (Nat.le_of_ble_eq_true rfl) rfl ?_
          refine um_aload_n (pc2 := 87) d_La_layFunction_86 rfl rfl ?_
          refine um_getR (pc2 := 90) d_La_layFunction_87 rfl f_La_21 rfl rfl ?_
          refine um_aload_n (pc2 := 91) d_La_layFunction_90 rfl rfl ?_
          refine um_getR (pc2 := 94) d_La_layFunction_91 rfl f_La_12 rfl rfl ?_
          refine um_getR (pc2 := 97) d_La_layFunction_94 rfl f_La_99 rfl rfl ?_
          refine um_iload (pc2 := 99) d_La_layFunction_97 rfl rfl ?_
          refine um_iald (pc2 := 100) d_La_layFunction_99 rfl rfl h.1 rfl ?_
          replace h := h.2
          refine um_iload (pc2 := 102) d_La_layFunction_100 rfl rfl ?_
          refine um_iconst (pc2 := 103) (v := 1) d_La_layFunction_102 rfl (by decide) ?_
          refine um_callS2i (pc2 := 106) d_La_layFunction_103 rfl g_La_102 (Nat.le_of_ble_eq_true rfl) (Nat.le_of_ble_eq_true rfl) (Nat.le_of_ble_eq_true rfl) (c_Sc_within h) (fun x3 σ2 h => ?_)
          refine um_iconst (pc2 := 107) (v := 3) d_La_layFunction_106 rfl (by decide) ?_
          refine um_callV3v (pc2 := 110) d_La_layFunction_107 rfl g_La_106 rfl (Nat.le_of_ble_eq_true rfl) (Nat.le_of_ble_eq_true rfl) (Nat.le_of_ble_eq_true rfl) (c_Wo_push h) (fun σ4 h => ?_)
          refine um_aload_n (pc2 := 111) d_La_layFunction_110 rfl rfl ?_
          refine um_callV0v (pc2 := 114) d_La_layFunction_111 rfl g_La_90 rfl (Nat.le_of_ble_eq_true rfl) (Nat.le_of_ble_eq_true rfl) (Nat.le_of_ble_eq_true rfl) (c_La_takeTurns h) (fun σ5 h => ?_)
          refine um_iinc (pc2 := 117) (v := (v3 + 1)) (ls2 := [some (.ref 3), none, none, some (.int (v3 + 1)), some (.int x1)]) d_La_layFunction_114 rfl rfl rfl (Nat.le_of_ble_eq_true rfl) rfl ?_
          refine um_goto (tgt := 56) d_La_layFunction_117 rfl ?_
          refine um_forget [true, false, false, true, false] rfl ?_
          exact ih _ _ h
set_option maxHeartbeats 4000000 in
set_option maxRecDepth 100000 in
theorem b_La_layFunction_46 {Q : um_S → Prop} {σ : um_S} (h : wp_La_layFunction_46 Q σ) : um_Ev um_cl um_AW um_L um_SX M_La_layFunction 5 121 46 [some (.ref 3), none, none, none, none] [] σ (um_Qv Q) := by
  unfold wp_La_layFunction_46 at h
  refine um_aload_n (pc2 := 47) d_La_layFunction_46 rfl rfl ?_
  refine um_bipush (pc2 := 49) (v := 14) d_La_layFunction_47 rfl (by decide) ?_
  refine um_iconst (pc2 := 50) (v := 0) d_La_layFunction_49 rfl (by decide) ?_
  refine um_iconst (pc2 := 51) (v := 0) d_La_layFunction_50 rfl (by decide) ?_
  refine um_callV3v (pc2 := 54) d_La_layFunction_51 rfl g_La_95 rfl (Nat.le_of_ble_eq_true rfl) (Nat.le_of_ble_eq_true rfl) (Nat.le_of_ble_eq_true rfl) (c_La_emit h) (fun σ1 h => ?_)
  refine um_iconst (pc2 := 55) (v := 0) d_La_layFunction_54 rfl (by decide) ?_
  refine um_istore_n (pc2 := 56) (ls2 := [some (.ref 3), none, none, some (.int 0), none]) d_La_layFunction_55 rfl (Nat.le_of_ble_eq_true rfl) rfl ?_
  refine um_forget [true, false, false, true, false] rfl ?_
  exact b_La_layFunction_56 _ _ _ h
set_option maxHeartbeats 4000000 in
set_option maxRecDepth 100000 in
theorem c_La_layFunction {a1 : Int32} {σ : um_S} {Q : um_S → Prop} (h : wp_La_layFunction a1 σ Q) : um_Con um_cl um_AW um_L um_SX 5 121 M_La_layFunction [.ref 3, .int a1] σ (um_Qv Q) := by
  refine um_con (by decide) (Nat.le_of_ble_eq_true rfl) (fun v hv => by simp only [List.mem_cons, List.not_mem_nil, or_false] at hv; rcases hv with rfl | rfl <;> rfl) ?_
  show um_Ev um_cl um_AW um_L um_SX M_La_layFunction 5 121 0 [some (.ref 3), some (.int a1), none, none, none] [] σ (um_Qv Q)
  unfold wp_La_layFunction at h
  refine um_aload_n (pc2 := 1) d_La_layFunction_0 rfl rfl ?_
  refine um_getR (pc2 := 4) d_La_layFunction_1 rfl f_La_40 rfl rfl ?_
  refine um_getR (pc2 := 7) d_La_layFunction_4 rfl f_La_75 rfl rfl ?_
  refine um_iload_n (pc2 := 8) d_La_layFunction_7 rfl rfl ?_
  refine um_aload_n (pc2 := 9) d_La_layFunction_8 rfl rfl ?_
  refine um_getR (pc2 := 12) d_La_layFunction_9 rfl f_La_40 rfl rfl ?_
  refine um_getI (pc2 := 15) d_La_layFunction_12 rfl f_La_74 rfl rfl ?_
  refine um_iast (pc2 := 16) d_La_layFunction_15 rfl rfl h.1 rfl (um_gen (fun σ1 eσ1 => ?_))
  replace h := h.2 σ1 eσ1
  refine um_aload_n (pc2 := 17) d_La_layFunction_16 rfl rfl ?_
  refine um_iconst (pc2 := 18) (v := 0) d_La_layFunction_17 rfl (by decide) ?_
  refine um_putI (pc2 := 21) d_La_layFunction_18 rfl fw_La_78 rfl rfl (um_gen (fun σ2 eσ2 => ?_))
  replace h := h σ2 eσ2
  refine um_aload_n (pc2 := 22) d_La_layFunction_21 rfl rfl ?_
  refine um_getR (pc2 := 25) d_La_layFunction_22 rfl f_La_36 rfl rfl ?_
  refine um_getR (pc2 := 28) d_La_layFunction_25 rfl f_La_81 rfl rfl ?_
  refine um_iload_n (pc2 := 29) d_La_layFunction_28 rfl rfl ?_
  refine um_iald (pc2 := 30) d_La_layFunction_29 rfl rfl h.1 rfl ?_
  replace h := h.2
  refine um_top (fun x3 ex3 => ?_)
  replace h := h x3 ex3
  refine um_istore_n (pc2 := 31) (ls2 := [some (.ref 3), some (.int a1), some (.int x3), none, none]) d_La_layFunction_30 rfl (Nat.le_of_ble_eq_true rfl) rfl ?_
  refine um_iload_n (pc2 := 32) d_La_layFunction_31 rfl rfl ?_
  refine um_iconst (pc2 := 33) (v := (-1)) d_La_layFunction_32 rfl (by decide) ?_
  refine um_icmp_eq (pc2 := 36) (tgt := 46) d_La_layFunction_33 rfl rfl (fun z => ?_) (fun z => ?_)
  · replace h := h.1 z
    refine um_forget [true, false, false, false, false] rfl ?_
    exact b_La_layFunction_46 h
  · replace h := h.2 z
    refine um_aload_n (pc2 := 37) d_La_layFunction_36 rfl rfl ?_
    refine um_iload_n (pc2 := 38) d_La_layFunction_37 rfl rfl ?_
    refine um_iconst (pc2 := 39) (v := 0) d_La_layFunction_38 rfl (by decide) ?_
    refine um_callV2v (pc2 := 42) d_La_layFunction_39 rfl g_La_86 rfl (Nat.le_of_ble_eq_true rfl) (Nat.le_of_ble_eq_true rfl) (Nat.le_of_ble_eq_true rfl) (c_La_begin h) (fun σ4 h => ?_)
    refine um_aload_n (pc2 := 43) d_La_layFunction_42 rfl rfl ?_
    refine um_callV0v (pc2 := 46) d_La_layFunction_43 rfl g_La_90 rfl (Nat.le_of_ble_eq_true rfl) (Nat.le_of_ble_eq_true rfl) (Nat.le_of_ble_eq_true rfl) (c_La_takeTurns h) (fun σ5 h => ?_)
    refine um_forget [true, false, false, false, false] rfl ?_
    exact b_La_layFunction_46 h
def wp_Sc_clear (σ : um_S) (Q : um_S → Prop) : Prop :=
  ∀ σ1 : um_S, σ1 = um_up σ 24 0 (-1) → ∀ σ2 : um_S, σ2 = um_up σ1 25 0 (-1) → ∀ σ3 : um_S, σ3 = um_up σ2 5 8 0 → ∀ σ4 : um_S, σ4 = um_up σ3 5 9 1 → Q σ4
set_option maxHeartbeats 4000000 in
set_option maxRecDepth 100000 in
theorem c_Sc_clear {σ : um_S} {Q : um_S → Prop} (h : wp_Sc_clear σ Q) : um_Con um_cl um_AW um_L um_SX 0 0 M_Sc_clear [.ref 5] σ (um_Qv Q) := by
  refine um_con (by decide) (Nat.le_of_ble_eq_true rfl) (fun v hv => by simp only [List.mem_cons, List.not_mem_nil, or_false] at hv; rcases hv with rfl <;> rfl) ?_
  show um_Ev um_cl um_AW um_L um_SX M_Sc_clear 0 0 0 [some (.ref 5)] [] σ (um_Qv Q)
  unfold wp_Sc_clear at h
  refine um_aload_n (pc2 := 1) d_Sc_clear_0 rfl rfl ?_
  refine um_getR (pc2 := 4) d_Sc_clear_1 rfl f_Sc_15 rfl rfl ?_
  refine um_iconst (pc2 := 5) (v := 0) d_Sc_clear_4 rfl (by decide) ?_
  refine um_iconst (pc2 := 6) (v := (-1)) d_Sc_clear_5 rfl (by decide) ?_
  refine um_iast (pc2 := 7) (k := 0) d_Sc_clear_6 rfl rfl (by unfold vp_in; decide) (by decide) (um_gen (fun σ1 eσ1 => ?_))
  replace h := h σ1 eσ1
  refine um_aload_n (pc2 := 8) d_Sc_clear_7 rfl rfl ?_
  refine um_getR (pc2 := 11) d_Sc_clear_8 rfl f_Sc_18 rfl rfl ?_
  refine um_iconst (pc2 := 12) (v := 0) d_Sc_clear_11 rfl (by decide) ?_
  refine um_iconst (pc2 := 13) (v := (-1)) d_Sc_clear_12 rfl (by decide) ?_
  refine um_iast (pc2 := 14) (k := 0) d_Sc_clear_13 rfl rfl (by unfold vp_in; decide) (by decide) (um_gen (fun σ2 eσ2 => ?_))
  replace h := h σ2 eσ2
  refine um_aload_n (pc2 := 15) d_Sc_clear_14 rfl rfl ?_
  refine um_iconst (pc2 := 16) (v := 0) d_Sc_clear_15 rfl (by decide) ?_
  refine um_putI (pc2 := 19) d_Sc_clear_16 rfl fw_Sc_36 rfl rfl (um_gen (fun σ3 eσ3 => ?_))
  replace h := h σ3 eσ3
  refine um_aload_n (pc2 := 20) d_Sc_clear_19 rfl rfl ?_
  refine um_iconst (pc2 := 21) (v := 1) d_Sc_clear_20 rfl (by decide) ?_
  refine um_putI (pc2 := 24) d_Sc_clear_21 rfl fw_Sc_40 rfl rfl (um_gen (fun σ4 eσ4 => ?_))
  replace h := h σ4 eσ4
  exact um_vret d_Sc_clear_24 rfl ⟨rfl, h⟩
def wp_La_layDown_97 (Q : Int32 → um_S → Prop) (σ : um_S) : Prop :=
  ((σ 3 8) = 0 → wp_La_settleGoals σ (fun σ1 => Q (σ1 2 5) σ1)) ∧ (¬ (σ 3 8) = 0 → wp_Co_clear σ (fun σ2 => Q (σ2 3 8) σ2))
def wp_La_layDown_68 (Q : Int32 → um_S → Prop) : Nat → Int32 → um_S → Prop
  | 0, _, _ => False
  | n + 1, v2, σ =>
    ((σ 7 3) ≤ v2 → wp_La_layDown_97 Q σ) ∧ (¬ (σ 7 3) ≤ v2 → (¬ (σ 3 8) = 0 → wp_La_layDown_97 Q σ) ∧ ((σ 3 8) = 0 → wp_La_addRows v2 σ (fun σ1 => wp_La_layDown_68 Q n (v2 + 1) σ1)))
def wp_La_layDown_42 (Q : Int32 → um_S → Prop) : Nat → Int32 → um_S → Prop
  | 0, _, _ => False
  | n + 1, v2, σ =>
    (6 ≤ v2 → wp_La_layDown_68 Q 100000 0 σ) ∧ (¬ 6 ≤ v2 → (¬ (σ 3 8) = 0 → wp_La_layDown_68 Q 100000 0 σ) ∧ ((σ 3 8) = 0 → wp_La_layFunction v2 σ (fun σ1 => wp_La_layDown_42 Q n (v2 + 1) σ1)))
def wp_La_layDown (b1 : Bool) (σ : um_S) (Q : Int32 → um_S → Prop) : Prop :=
  wp_Co_clear σ (fun σ1 => wp_Sc_clear σ1 (fun σ2 => ∀ σ3 : um_S, σ3 = um_up σ2 6 4 0 → ∀ σ4 : um_S, σ4 = um_up σ3 7 3 0 → ∀ σ5 : um_S, σ5 = um_up σ4 3 7 (if b1 then 1 else 0) → ∀ σ6 : um_S, σ6 = um_up σ5 3 8 0 → wp_La_layDown_42 Q 100000 0 σ6))
set_option maxHeartbeats 4000000 in
set_option maxRecDepth 100000 in
theorem b_La_layDown_97 {Q : Int32 → um_S → Prop} {σ : um_S} (h : wp_La_layDown_97 Q σ) : um_Ev um_cl um_AW um_L um_SX M_La_layDown 6 145 97 [some (.ref 3), none, none] [] σ (um_Qi Q) := by
  unfold wp_La_layDown_97 at h
  refine um_aload_n (pc2 := 98) d_La_layDown_97 rfl rfl ?_
  refine um_getI (pc2 := 101) d_La_layDown_98 rfl f_La_61 rfl rfl ?_
  refine um_if_eq (pc2 := 104) (tgt := 116) d_La_layDown_101 rfl rfl (fun z => ?_) (fun z => ?_)
  · replace h := h.1 z
    refine um_aload_n (pc2 := 117) d_La_layDown_116 rfl rfl ?_
    refine um_callV0v (pc2 := 120) d_La_layDown_117 rfl g_La_71 rfl (Nat.le_of_ble_eq_true rfl) (Nat.le_of_ble_eq_true rfl) (Nat.le_of_ble_eq_true rfl) (c_La_settleGoals h) (fun σ1 h => ?_)
    refine um_aload_n (pc2 := 121) d_La_layDown_120 rfl rfl ?_
    refine um_getR (pc2 := 124) d_La_layDown_121 rfl f_La_40 rfl rfl ?_
    refine um_getI (pc2 := 127) d_La_layDown_124 rfl f_La_74 rfl rfl ?_
    exact um_iret d_La_layDown_127 rfl ⟨_, rfl, h⟩
  · replace h := h.2 z
    refine um_aload_n (pc2 := 105) d_La_layDown_104 rfl rfl ?_
    refine um_getR (pc2 := 108) d_La_layDown_105 rfl f_La_40 rfl rfl ?_
    refine um_callV0v (pc2 := 111) d_La_layDown_108 rfl g_La_44 rfl (Nat.le_of_ble_eq_true rfl) (Nat.le_of_ble_eq_true rfl) (Nat.le_of_ble_eq_true rfl) (c_Co_clear h) (fun σ2 h => ?_)
    refine um_aload_n (pc2 := 112) d_La_layDown_111 rfl rfl ?_
    refine um_getI (pc2 := 115) d_La_layDown_112 rfl f_La_61 rfl rfl ?_
    exact um_iret d_La_layDown_115 rfl ⟨_, rfl, h⟩
set_option maxHeartbeats 4000000 in
set_option maxRecDepth 100000 in
theorem b_La_layDown_68 {Q : Int32 → um_S → Prop} (n : Nat) : ∀ (v2 : Int32) (σ : um_S), wp_La_layDown_68 Q n v2 σ → um_Ev um_cl um_AW um_L um_SX M_La_layDown 6 145 68 [some (.ref 3), none, some (.int v2)] [] σ (um_Qi Q) := by
  induction n with
  | zero =>
    intro v2 σ h
    exact h.elim
  | succ n ih =>
    intro v2 σ h
    unfold wp_La_layDown_68 at h
    refine um_iload_n (pc2 := 69) d_La_layDown_68 rfl rfl ?_
    refine um_aload_n (pc2 := 70) d_La_layDown_69 rfl rfl ?_
    refine um_getR (pc2 := 73) d_La_layDown_70 rfl f_La_28 rfl rfl ?_
    refine um_getI (pc2 := 76) d_La_layDown_73 rfl f_La_54 rfl rfl ?_
    refine um_icmp_ge (pc2 := 79) (tgt := 97) d_La_layDown_76 rfl rfl (fun z => ?_) (fun z => ?_)
    · replace h := h.1 z
      refine um_forget [true, false, false] rfl ?_
      exact b_La_layDown_97 h
    · replace h := h.2 z
      refine um_aload_n (pc2 := 80) d_La_layDown_79 rfl rfl ?_
      refine um_getI (pc2 := 83) d_La_layDown_80 rfl f_La_61 rfl rfl ?_
      refine um_if_ne (pc2 := 86) (tgt := 97) d_La_layDown_83 rfl rfl (fun z => ?_) (fun z => ?_)
      · replace h := h.1 z
        refine um_forget [true, false, false] rfl ?_
        exact b_La_layDown_97 h
      · replace h := h.2 z
        refine um_aload_n (pc2 := 87) d_La_layDown_86 rfl rfl ?_
        refine um_iload_n (pc2 := 88) d_La_layDown_87 rfl rfl ?_
        refine um_callV1v (pc2 := 91) d_La_layDown_88 rfl g_La_68 rfl (Nat.le_of_ble_eq_true rfl) (Nat.le_of_ble_eq_true rfl) (Nat.le_of_ble_eq_true rfl) (c_La_addRows h) (fun σ1 h => ?_)
        refine um_iinc (pc2 := 94) (v := (v2 + 1)) (ls2 := [some (.ref 3), none, some (.int (v2 + 1))]) d_La_layDown_91 rfl rfl rfl (Nat.le_of_ble_eq_true rfl) rfl ?_
        refine um_goto (tgt := 68) d_La_layDown_94 rfl ?_
        refine um_forget [true, false, true] rfl ?_
        exact ih _ _ h
set_option maxHeartbeats 4000000 in
set_option maxRecDepth 100000 in
theorem b_La_layDown_42 {Q : Int32 → um_S → Prop} (n : Nat) : ∀ (v2 : Int32) (σ : um_S), wp_La_layDown_42 Q n v2 σ → um_Ev um_cl um_AW um_L um_SX M_La_layDown 6 145 42 [some (.ref 3), none, some (.int v2)] [] σ (um_Qi Q) := by
  induction n with
  | zero =>
    intro v2 σ h
    exact h.elim
  | succ n ih =>
    intro v2 σ h
    unfold wp_La_layDown_42 at h
    refine um_iload_n (pc2 := 43) d_La_layDown_42 rfl rfl ?_
    refine um_bipush (pc2 := 45) (v := 6) d_La_layDown_43 rfl (by decide) ?_
    refine um_icmp_ge (pc2 := 48) (tgt := 66) d_La_layDown_45 rfl rfl (fun z => ?_) (fun z => ?_)
    · replace h := h.1 z
      refine um_iconst (pc2 := 67) (v := 0) d_La_layDown_66 rfl (by decide) ?_
      refine um_istore_n (pc2 := 68) (ls2 := [some (.ref 3), none, some (.int 0)]) d_La_layDown_67 rfl (Nat.le_of_ble_eq_true rfl) rfl ?_
      refine um_forget [true, false, true] rfl ?_
      exact b_La_layDown_68 _ _ _ h
    · replace h := h.2 z
      refine um_aload_n (pc2 := 49) d_La_layDown_48 rfl rfl ?_
      refine um_getI (pc2 := 52) d_La_layDown_49 rfl f_La_61 rfl rfl ?_
      refine um_if_ne (pc2 := 55) (tgt := 66) d_La_layDown_52 rfl rfl (fun z => ?_) (fun z => ?_)
      · replace h := h.1 z
        refine um_iconst (pc2 := 67) (v := 0) d_La_layDown_66 rfl (by decide) ?_
        refine um_istore_n (pc2 := 68) (ls2 := [some (.ref 3), none, some (.int 0)]) d_La_layDown_67 rfl (Nat.le_of_ble_eq_true rfl) rfl ?_
        refine um_forget [true, false, true] rfl ?_
        exact b_La_layDown_68 _ _ _ h
      · replace h := h.2 z
        refine um_aload_n (pc2 := 56) d_La_layDown_55 rfl rfl ?_
        refine um_iload_n (pc2 := 57) d_La_layDown_56 rfl rfl ?_
        refine um_callV1v (pc2 := 60) d_La_layDown_57 rfl g_La_64 rfl (Nat.le_of_ble_eq_true rfl) (Nat.le_of_ble_eq_true rfl) (Nat.le_of_ble_eq_true rfl) (c_La_layFunction h) (fun σ1 h => ?_)
        refine um_iinc (pc2 := 63) (v := (v2 + 1)) (ls2 := [some (.ref 3), none, some (.int (v2 + 1))]) d_La_layDown_60 rfl rfl rfl (Nat.le_of_ble_eq_true rfl) rfl ?_
        refine um_goto (tgt := 42) d_La_layDown_63 rfl ?_
        refine um_forget [true, false, true] rfl ?_
        exact ih _ _ h
set_option maxHeartbeats 4000000 in
set_option maxRecDepth 100000 in
theorem c_La_layDown {b1 : Bool} {σ : um_S} {Q : Int32 → um_S → Prop} (h : wp_La_layDown b1 σ Q) : um_Con um_cl um_AW um_L um_SX 6 145 M_La_layDown [.ref 3, .int (if b1 then 1 else 0)] σ (um_Qi Q) := by
  refine um_con (by decide) (Nat.le_of_ble_eq_true rfl) (fun v hv => by simp only [List.mem_cons, List.not_mem_nil, or_false] at hv; rcases hv with rfl | rfl <;> rfl) ?_
  show um_Ev um_cl um_AW um_L um_SX M_La_layDown 6 145 0 [some (.ref 3), some (.int (if b1 then 1 else 0)), none] [] σ (um_Qi Q)
  unfold wp_La_layDown at h
  refine um_aload_n (pc2 := 1) d_La_layDown_0 rfl rfl ?_
  refine um_getR (pc2 := 4) d_La_layDown_1 rfl f_La_40 rfl rfl ?_
  refine um_callV0v (pc2 := 7) d_La_layDown_4 rfl g_La_44 rfl (Nat.le_of_ble_eq_true rfl) (Nat.le_of_ble_eq_true rfl) (Nat.le_of_ble_eq_true rfl) (c_Co_clear h) (fun σ1 h => ?_)
  refine um_aload_n (pc2 := 8) d_La_layDown_7 rfl rfl ?_
  refine um_getR (pc2 := 11) d_La_layDown_8 rfl f_La_12 rfl rfl ?_
  refine um_callV0v (pc2 := 14) d_La_layDown_11 rfl g_La_49 rfl (Nat.le_of_ble_eq_true rfl) (Nat.le_of_ble_eq_true rfl) (Nat.le_of_ble_eq_true rfl) (c_Sc_clear h) (fun σ2 h => ?_)
  refine um_aload_n (pc2 := 15) d_La_layDown_14 rfl rfl ?_
  refine um_getR (pc2 := 18) d_La_layDown_15 rfl f_La_21 rfl rfl ?_
  refine um_iconst (pc2 := 19) (v := 0) d_La_layDown_18 rfl (by decide) ?_
  refine um_putI (pc2 := 22) d_La_layDown_19 rfl fw_La_50 rfl rfl (um_gen (fun σ3 eσ3 => ?_))
  replace h := h σ3 eσ3
  refine um_aload_n (pc2 := 23) d_La_layDown_22 rfl rfl ?_
  refine um_getR (pc2 := 26) d_La_layDown_23 rfl f_La_28 rfl rfl ?_
  refine um_iconst (pc2 := 27) (v := 0) d_La_layDown_26 rfl (by decide) ?_
  refine um_putI (pc2 := 30) d_La_layDown_27 rfl fw_La_54 rfl rfl (um_gen (fun σ4 eσ4 => ?_))
  replace h := h σ4 eσ4
  refine um_aload_n (pc2 := 31) d_La_layDown_30 rfl rfl ?_
  refine um_iload_n (pc2 := 32) d_La_layDown_31 rfl rfl ?_
  refine um_putZ (pc2 := 35) d_La_layDown_32 rfl fw_La_57 rfl rfl (um_b01 b1) (um_gen (fun σ5 eσ5 => ?_))
  replace h := h σ5 eσ5
  refine um_aload_n (pc2 := 36) d_La_layDown_35 rfl rfl ?_
  refine um_iconst (pc2 := 37) (v := 0) d_La_layDown_36 rfl (by decide) ?_
  refine um_putI (pc2 := 40) d_La_layDown_37 rfl fw_La_61 rfl rfl (um_gen (fun σ6 eσ6 => ?_))
  replace h := h σ6 eσ6
  refine um_iconst (pc2 := 41) (v := 0) d_La_layDown_40 rfl (by decide) ?_
  refine um_istore_n (pc2 := 42) (ls2 := [some (.ref 3), some (.int (if b1 then 1 else 0)), some (.int 0)]) d_La_layDown_41 rfl (Nat.le_of_ble_eq_true rfl) rfl ?_
  refine um_forget [true, false, true] rfl ?_
  exact b_La_layDown_42 _ _ _ h
def wp_UM_lay (b1 : Bool) (σ : um_S) (Q : Int32 → um_S → Prop) : Prop :=
  wp_La_layDown b1 σ (fun x2 σ1 => Q x2 σ1)
set_option maxHeartbeats 4000000 in
set_option maxRecDepth 100000 in
theorem c_UM_lay {b1 : Bool} {σ : um_S} {Q : Int32 → um_S → Prop} (h : wp_UM_lay b1 σ Q) : um_Con um_cl um_AW um_L um_SX 7 167 M_UM_lay [.ref 0, .int (if b1 then 1 else 0)] σ (um_Qi Q) := by
  refine um_con (by decide) (Nat.le_of_ble_eq_true rfl) (fun v hv => by simp only [List.mem_cons, List.not_mem_nil, or_false] at hv; rcases hv with rfl | rfl <;> rfl) ?_
  show um_Ev um_cl um_AW um_L um_SX M_UM_lay 7 167 0 [some (.ref 0), some (.int (if b1 then 1 else 0))] [] σ (um_Qi Q)
  unfold wp_UM_lay at h
  refine um_aload_n (pc2 := 1) d_UM_lay_0 rfl rfl ?_
  refine um_getR (pc2 := 4) d_UM_lay_1 rfl f_UM_28 rfl rfl ?_
  refine um_iload_n (pc2 := 5) d_UM_lay_4 rfl rfl ?_
  refine um_callV1i (pc2 := 8) d_UM_lay_5 rfl g_UM_51 rfl (Nat.le_of_ble_eq_true rfl) (Nat.le_of_ble_eq_true rfl) (Nat.le_of_ble_eq_true rfl) (c_La_layDown h) (fun x2 σ1 h => ?_)
  exact um_iret d_UM_lay_8 rfl ⟨_, rfl, h⟩
def wp_Co_stands (σ : um_S) (Q : Bool → um_S → Prop) : Prop :=
  ((σ 2 5) ≤ 0 → Q false σ) ∧ (¬ (σ 2 5) ≤ 0 → Q true σ)
set_option maxHeartbeats 4000000 in
set_option maxRecDepth 100000 in
theorem c_Co_stands {σ : um_S} {Q : Bool → um_S → Prop} (h : wp_Co_stands σ Q) : um_Con um_cl um_AW um_L um_SX 0 0 M_Co_stands [.ref 2] σ (um_Qz Q) := by
  refine um_con (by decide) (Nat.le_of_ble_eq_true rfl) (fun v hv => by simp only [List.mem_cons, List.not_mem_nil, or_false] at hv; rcases hv with rfl <;> rfl) ?_
  show um_Ev um_cl um_AW um_L um_SX M_Co_stands 0 0 0 [some (.ref 2)] [] σ (um_Qz Q)
  unfold wp_Co_stands at h
  refine um_aload_n (pc2 := 1) d_Co_stands_0 rfl rfl ?_
  refine um_getI (pc2 := 4) d_Co_stands_1 rfl f_Co_27 rfl rfl ?_
  refine um_if_le (pc2 := 7) (tgt := 11) d_Co_stands_4 rfl rfl (fun z => ?_) (fun z => ?_)
  · replace h := h.1 z
    refine um_iconst (pc2 := 12) (v := 0) d_Co_stands_11 rfl (by decide) ?_
    exact um_zret d_Co_stands_12 rfl (by decide) ⟨false, rfl, h⟩
  · replace h := h.2 z
    refine um_iconst (pc2 := 8) (v := 1) d_Co_stands_7 rfl (by decide) ?_
    refine um_goto (tgt := 12) d_Co_stands_8 rfl ?_
    exact um_zret d_Co_stands_12 rfl (by decide) ⟨true, rfl, h⟩
def wp_UM_laid (a1 : Int32) (σ : um_S) (Q : Int32 → um_S → Prop) : Prop :=
  wp_Co_stands σ (fun t2 σ1 => (t2 = true → (a1 = 0 → Q (σ1 2 5) σ1) ∧ (¬ a1 = 0 → (a1 = 1 → Q (σ1 2 6) σ1) ∧ (¬ a1 = 1 → (a1 = 2 → Q (σ1 2 7) σ1) ∧ (¬ a1 = 2 → (a1 = 3 → Q (σ1 2 8) σ1) ∧ (¬ a1 = 3 → Q (-1) σ1))))) ∧ (t2 = false → Q (-1) σ1))
set_option maxHeartbeats 4000000 in
set_option maxRecDepth 100000 in
theorem c_UM_laid {a1 : Int32} {σ : um_S} {Q : Int32 → um_S → Prop} (h : wp_UM_laid a1 σ Q) : um_Con um_cl um_AW um_L um_SX 1 20 M_UM_laid [.ref 0, .int a1] σ (um_Qi Q) := by
  refine um_con (by decide) (Nat.le_of_ble_eq_true rfl) (fun v hv => by simp only [List.mem_cons, List.not_mem_nil, or_false] at hv; rcases hv with rfl | rfl <;> rfl) ?_
  show um_Ev um_cl um_AW um_L um_SX M_UM_laid 1 20 0 [some (.ref 0), some (.int a1)] [] σ (um_Qi Q)
  unfold wp_UM_laid at h
  refine um_aload_n (pc2 := 1) d_UM_laid_0 rfl rfl ?_
  refine um_getR (pc2 := 4) d_UM_laid_1 rfl f_UM_19 rfl rfl ?_
  refine um_callV0z (pc2 := 7) d_UM_laid_4 rfl g_UM_55 rfl (Nat.le_of_ble_eq_true rfl) (Nat.le_of_ble_eq_true rfl) (Nat.le_of_ble_eq_true rfl) (c_Co_stands h) (fun t2 σ1 h => ?_)
  refine um_if_ne (pc2 := 10) (tgt := 12) d_UM_laid_7 rfl rfl (fun z => ?_) (fun z => ?_)
  · replace h := h.1 (um_b1 z)
    refine um_iload_n (pc2 := 13) d_UM_laid_12 rfl rfl ?_
    by_cases z0 : a1 = 0
    · replace h := h.1 z0
      refine um_tableAt (tgt := 44) d_UM_laid_13 z0 (kk := 0) (by decide) (by decide) (by decide) rfl rfl ?_
      refine um_aload_n (pc2 := 45) d_UM_laid_44 rfl rfl ?_
      refine um_getR (pc2 := 48) d_UM_laid_45 rfl f_UM_19 rfl rfl ?_
      refine um_getI (pc2 := 51) d_UM_laid_48 rfl f_UM_59 rfl rfl ?_
      exact um_iret d_UM_laid_51 rfl ⟨_, rfl, h⟩
    replace h := h.2 z0
    by_cases z1 : a1 = 1
    · replace h := h.1 z1
      refine um_tableAt (tgt := 52) d_UM_laid_13 z1 (kk := 1) (by decide) (by decide) (by decide) rfl rfl ?_
      refine um_aload_n (pc2 := 53) d_UM_laid_52 rfl rfl ?_
      refine um_getR (pc2 := 56) d_UM_laid_53 rfl f_UM_19 rfl rfl ?_
      refine um_getI (pc2 := 59) d_UM_laid_56 rfl f_UM_63 rfl rfl ?_
      exact um_iret d_UM_laid_59 rfl ⟨_, rfl, h⟩
    replace h := h.2 z1
    by_cases z2 : a1 = 2
    · replace h := h.1 z2
      refine um_tableAt (tgt := 60) d_UM_laid_13 z2 (kk := 2) (by decide) (by decide) (by decide) rfl rfl ?_
      refine um_aload_n (pc2 := 61) d_UM_laid_60 rfl rfl ?_
      refine um_getR (pc2 := 64) d_UM_laid_61 rfl f_UM_19 rfl rfl ?_
      refine um_getI (pc2 := 67) d_UM_laid_64 rfl f_UM_66 rfl rfl ?_
      exact um_iret d_UM_laid_67 rfl ⟨_, rfl, h⟩
    replace h := h.2 z2
    by_cases z3 : a1 = 3
    · replace h := h.1 z3
      refine um_tableAt (tgt := 68) d_UM_laid_13 z3 (kk := 3) (by decide) (by decide) (by decide) rfl rfl ?_
      refine um_aload_n (pc2 := 69) d_UM_laid_68 rfl rfl ?_
      refine um_getR (pc2 := 72) d_UM_laid_69 rfl f_UM_19 rfl rfl ?_
      refine um_getI (pc2 := 75) d_UM_laid_72 rfl f_UM_69 rfl rfl ?_
      exact um_iret d_UM_laid_75 rfl ⟨_, rfl, h⟩
    replace h := h.2 z3
    have hE : um_Ev um_cl um_AW um_L um_SX M_UM_laid 1 20 76 [some (.ref 0), some (.int a1)] [] σ1 (um_Qi Q) := by
      refine um_iconst (pc2 := 77) (v := (-1)) d_UM_laid_76 rfl (by decide) ?_
      exact um_iret d_UM_laid_77 rfl ⟨_, rfl, h⟩
    exact um_tableOut (tgt := 76) d_UM_laid_13 (by have := um_toInt_ne (kk := 0) z0 (by decide); have := um_toInt_ne (kk := 1) z1 (by decide); have := um_toInt_ne (kk := 2) z2 (by decide); have := um_toInt_ne (kk := 3) z3 (by decide); omega) rfl hE
  · replace h := h.2 (um_b0 z)
    refine um_iconst (pc2 := 11) (v := (-1)) d_UM_laid_10 rfl (by decide) ?_
    exact um_iret d_UM_laid_11 rfl ⟨_, rfl, h⟩
def wp_UM_entry (a1 : Int32) (σ : um_S) (Q : Int32 → um_S → Prop) : Prop :=
  wp_Co_stands σ (fun t2 σ1 => (t2 = false → Q (-1) σ1) ∧ (t2 = true → wp_UM_isFunction a1 σ1 (fun t4 σ3 => (t4 = false → Q (-1) σ3) ∧ (t4 = true → vp_in a1 6 ∧ Q (σ3 14 a1.toNatClampNeg) σ3))))
set_option maxHeartbeats 4000000 in
set_option maxRecDepth 100000 in
theorem c_UM_entry {a1 : Int32} {σ : um_S} {Q : Int32 → um_S → Prop} (h : wp_UM_entry a1 σ Q) : um_Con um_cl um_AW um_L um_SX 1 20 M_UM_entry [.ref 0, .int a1] σ (um_Qi Q) := by
  refine um_con (by decide) (Nat.le_of_ble_eq_true rfl) (fun v hv => by simp only [List.mem_cons, List.not_mem_nil, or_false] at hv; rcases hv with rfl | rfl <;> rfl) ?_
  show um_Ev um_cl um_AW um_L um_SX M_UM_entry 1 20 0 [some (.ref 0), some (.int a1)] [] σ (um_Qi Q)
  unfold wp_UM_entry at h
  refine um_aload_n (pc2 := 1) d_UM_entry_0 rfl rfl ?_
  refine um_getR (pc2 := 4) d_UM_entry_1 rfl f_UM_19 rfl rfl ?_
  refine um_callV0z (pc2 := 7) d_UM_entry_4 rfl g_UM_55 rfl (Nat.le_of_ble_eq_true rfl) (Nat.le_of_ble_eq_true rfl) (Nat.le_of_ble_eq_true rfl) (c_Co_stands h) (fun t2 σ1 h => ?_)
  refine um_if_eq (pc2 := 10) (tgt := 29) d_UM_entry_7 rfl rfl (fun z => ?_) (fun z => ?_)
  · replace h := h.1 (um_b0 z)
    refine um_iconst (pc2 := 30) (v := (-1)) d_UM_entry_29 rfl (by decide) ?_
    exact um_iret d_UM_entry_30 rfl ⟨_, rfl, h⟩
  · replace h := h.2 (um_b1 z)
    refine um_iload_n (pc2 := 11) d_UM_entry_10 rfl rfl ?_
    refine um_callS1z (pc2 := 14) d_UM_entry_11 rfl g_UM_91 (Nat.le_of_ble_eq_true rfl) (Nat.le_of_ble_eq_true rfl) (Nat.le_of_ble_eq_true rfl) (c_UM_isFunction h) (fun t4 σ3 h => ?_)
    refine um_if_eq (pc2 := 17) (tgt := 29) d_UM_entry_14 rfl rfl (fun z => ?_) (fun z => ?_)
    · replace h := h.1 (um_b0 z)
      refine um_iconst (pc2 := 30) (v := (-1)) d_UM_entry_29 rfl (by decide) ?_
      exact um_iret d_UM_entry_30 rfl ⟨_, rfl, h⟩
    · replace h := h.2 (um_b1 z)
      refine um_aload_n (pc2 := 18) d_UM_entry_17 rfl rfl ?_
      refine um_getR (pc2 := 21) d_UM_entry_18 rfl f_UM_19 rfl rfl ?_
      refine um_getR (pc2 := 24) d_UM_entry_21 rfl f_UM_95 rfl rfl ?_
      refine um_iload_n (pc2 := 25) d_UM_entry_24 rfl rfl ?_
      refine um_iald (pc2 := 26) d_UM_entry_25 rfl rfl h.1 rfl ?_
      replace h := h.2
      refine um_goto (tgt := 30) d_UM_entry_26 rfl ?_
      exact um_iret d_UM_entry_30 rfl ⟨_, rfl, h⟩
def wp_Ma_pull (σ : um_S) (Q : Int32 → um_S → Prop) : Prop :=
  (¬ (σ 4 6) = 0 → ∀ σ1 : um_S, σ1 = um_up σ 4 6 ((σ 4 6) - 1) → vp_in (σ1 4 6) 150 ∧ Q (σ1 20 (σ1 4 6).toNatClampNeg) σ1) ∧ ((σ 4 6) = 0 → Q 0 σ)
set_option maxHeartbeats 4000000 in
set_option maxRecDepth 100000 in
theorem c_Ma_pull {σ : um_S} {Q : Int32 → um_S → Prop} (h : wp_Ma_pull σ Q) : um_Con um_cl um_AW um_L um_SX 0 0 M_Ma_pull [.ref 4] σ (um_Qi Q) := by
  refine um_con (by decide) (Nat.le_of_ble_eq_true rfl) (fun v hv => by simp only [List.mem_cons, List.not_mem_nil, or_false] at hv; rcases hv with rfl <;> rfl) ?_
  show um_Ev um_cl um_AW um_L um_SX M_Ma_pull 0 0 0 [some (.ref 4)] [] σ (um_Qi Q)
  unfold wp_Ma_pull at h
  refine um_aload_n (pc2 := 1) d_Ma_pull_0 rfl rfl ?_
  refine um_getI (pc2 := 4) d_Ma_pull_1 rfl f_Ma_44 rfl rfl ?_
  refine um_if_ne (pc2 := 7) (tgt := 9) d_Ma_pull_4 rfl rfl (fun z => ?_) (fun z => ?_)
  · replace h := h.1 z
    refine um_aload_n (pc2 := 10) d_Ma_pull_9 rfl rfl ?_
    refine um_dup (pc2 := 11) d_Ma_pull_10 rfl rfl ?_
    refine um_getI (pc2 := 14) d_Ma_pull_11 rfl f_Ma_44 rfl rfl ?_
    refine um_iconst (pc2 := 15) (v := 1) d_Ma_pull_14 rfl (by decide) ?_
    refine um_isub (pc2 := 16) d_Ma_pull_15 rfl ?_
    refine um_putI (pc2 := 19) d_Ma_pull_16 rfl fw_Ma_44 rfl rfl (um_gen (fun σ1 eσ1 => ?_))
    replace h := h σ1 eσ1
    refine um_aload_n (pc2 := 20) d_Ma_pull_19 rfl rfl ?_
    refine um_getR (pc2 := 23) d_Ma_pull_20 rfl f_Ma_21 rfl rfl ?_
    refine um_aload_n (pc2 := 24) d_Ma_pull_23 rfl rfl ?_
    refine um_getI (pc2 := 27) d_Ma_pull_24 rfl f_Ma_44 rfl rfl ?_
    refine um_iald (pc2 := 28) d_Ma_pull_27 rfl rfl h.1 rfl ?_
    replace h := h.2
    exact um_iret d_Ma_pull_28 rfl ⟨_, rfl, h⟩
  · replace h := h.2 z
    refine um_iconst (pc2 := 8) (v := 0) d_Ma_pull_7 rfl (by decide) ?_
    exact um_iret d_Ma_pull_8 rfl ⟨_, rfl, h⟩
def wp_Co_rowFor_46 (Q : Int32 → um_S → Prop) (K2 : Int32 → Int32 → Int32 → um_S → Prop) (v1 : Int32) (v2 : Int32) (v3 : Int32) (v4 : Int32) (v5 : Int32) (σ : um_S) : Prop :=
  (v5 = 0 → K2 v1 v2 (v3 + 1) σ) ∧ (¬ v5 = 0 → vp_in (v4 + 3) 1500 ∧ (v2 < (σ 15 (v4 + 3).toNatClampNeg) → K2 v1 v2 (v3 + 1) σ) ∧ (¬ v2 < (σ 15 (v4 + 3).toNatClampNeg) → vp_in (v4 + 4) 1500 ∧ ((σ 15 (v4 + 4).toNatClampNeg) < v2 → K2 v1 v2 (v3 + 1) σ) ∧ (¬ (σ 15 (v4 + 4).toNatClampNeg) < v2 → Q v3 σ)))
def wp_Co_rowFor_43 (Q : Int32 → um_S → Prop) (K2 : Int32 → Int32 → Int32 → um_S → Prop) (v1 : Int32) (v2 : Int32) (v3 : Int32) (v4 : Int32) (σ : um_S) : Prop :=
  wp_Co_rowFor_46 Q K2 v1 v2 v3 v4 0 σ
def wp_Co_rowFor_2 (Q : Int32 → um_S → Prop) : Nat → Int32 → Int32 → Int32 → um_S → Prop
  | 0, _, _, _, _ => False
  | n + 1, v1, v2, v3, σ =>
    ((σ 2 6) ≤ v3 → Q (-1) σ) ∧ (¬ (σ 2 6) ≤ v3 → ∀ x1 : Int32, x1 = (v3 * 5) → vp_in x1 1500 ∧ (v1 < (σ 15 x1.toNatClampNeg) → wp_Co_rowFor_43 Q (fun v1 v2 v3 σ => wp_Co_rowFor_2 Q n v1 v2 v3 σ) v1 v2 v3 x1 σ) ∧ (¬ v1 < (σ 15 x1.toNatClampNeg) → vp_in (x1 + 1) 1500 ∧ ((σ 15 (x1 + 1).toNatClampNeg) ≤ v1 → wp_Co_rowFor_43 Q (fun v1 v2 v3 σ => wp_Co_rowFor_2 Q n v1 v2 v3 σ) v1 v2 v3 x1 σ) ∧ (¬ (σ 15 (x1 + 1).toNatClampNeg) ≤ v1 → wp_Co_rowFor_46 Q (fun v1 v2 v3 σ => wp_Co_rowFor_2 Q n v1 v2 v3 σ) v1 v2 v3 x1 1 σ)))
def wp_Co_rowFor (a1 : Int32) (a2 : Int32) (σ : um_S) (Q : Int32 → um_S → Prop) : Prop :=
  wp_Co_rowFor_2 Q 100000 a1 a2 0 σ
set_option maxHeartbeats 4000000 in
set_option maxRecDepth 100000 in
theorem b_Co_rowFor_46 {Q : Int32 → um_S → Prop} {K2 : Int32 → Int32 → Int32 → um_S → Prop} {v1 : Int32} {v2 : Int32} {v3 : Int32} {v4 : Int32} {v5 : Int32} {σ : um_S} (hK2 : ∀ (v1 : Int32) (v2 : Int32) (v3 : Int32) (σ : um_S), K2 v1 v2 v3 σ → um_Ev um_cl um_AW um_L um_SX M_Co_rowFor 0 0 2 [some (.ref 2), some (.int v1), some (.int v2), some (.int v3), none, none] [] σ (um_Qi Q)) (h : wp_Co_rowFor_46 Q K2 v1 v2 v3 v4 v5 σ) : um_Ev um_cl um_AW um_L um_SX M_Co_rowFor 0 0 46 [some (.ref 2), some (.int v1), some (.int v2), some (.int v3), some (.int v4), some (.int v5)] [] σ (um_Qi Q) := by
  unfold wp_Co_rowFor_46 at h
  refine um_iload (pc2 := 48) d_Co_rowFor_46 rfl rfl ?_
  refine um_if_eq (pc2 := 51) (tgt := 79) d_Co_rowFor_48 rfl rfl (fun z => ?_) (fun z => ?_)
  · replace h := h.1 z
    refine um_iinc (pc2 := 82) (v := (v3 + 1)) (ls2 := [some (.ref 2), some (.int v1), some (.int v2), some (.int (v3 + 1)), some (.int v4), some (.int v5)]) d_Co_rowFor_79 rfl rfl rfl (Nat.le_of_ble_eq_true rfl) rfl ?_
    refine um_goto (tgt := 2) d_Co_rowFor_82 rfl ?_
    refine um_forget [true, true, true, true, false, false] rfl ?_
    exact hK2 _ _ _ _ h
  · replace h := h.2 z
    refine um_aload_n (pc2 := 52) d_Co_rowFor_51 rfl rfl ?_
    refine um_getR (pc2 := 55) d_Co_rowFor_52 rfl f_Co_24 rfl rfl ?_
    refine um_iload (pc2 := 57) d_Co_rowFor_55 rfl rfl ?_
    refine um_iconst (pc2 := 58) (v := 3) d_Co_rowFor_57 rfl (by decide) ?_
    refine um_iadd (pc2 := 59) d_Co_rowFor_58 rfl ?_
    refine um_iald (pc2 := 60) d_Co_rowFor_59 rfl rfl h.1 rfl ?_
    replace h := h.2
    refine um_iload_n (pc2 := 61) d_Co_rowFor_60 rfl rfl ?_
    refine um_icmp_gt (pc2 := 64) (tgt := 79) d_Co_rowFor_61 rfl rfl (fun z => ?_) (fun z => ?_)
    · replace h := h.1 z
      refine um_iinc (pc2 := 82) (v := (v3 + 1)) (ls2 := [some (.ref 2), some (.int v1), some (.int v2), some (.int (v3 + 1)), some (.int v4), some (.int v5)]) d_Co_rowFor_79 rfl rfl rfl (Nat.le_of_ble_eq_true rfl) rfl ?_
      refine um_goto (tgt := 2) d_Co_rowFor_82 rfl ?_
      refine um_forget [true, true, true, true, false, false] rfl ?_
      exact hK2 _ _ _ _ h
    · replace h := h.2 z
      refine um_iload_n (pc2 := 65) d_Co_rowFor_64 rfl rfl ?_
      refine um_aload_n (pc2 := 66) d_Co_rowFor_65 rfl rfl ?_
      refine um_getR (pc2 := 69) d_Co_rowFor_66 rfl f_Co_24 rfl rfl ?_
      refine um_iload (pc2 := 71) d_Co_rowFor_69 rfl rfl ?_
      refine um_iconst (pc2 := 72) (v := 4) d_Co_rowFor_71 rfl (by decide) ?_
      refine um_iadd (pc2 := 73) d_Co_rowFor_72 rfl ?_
      refine um_iald (pc2 := 74) d_Co_rowFor_73 rfl rfl h.1 rfl ?_
      replace h := h.2
      refine um_icmp_gt (pc2 := 77) (tgt := 79) d_Co_rowFor_74 rfl rfl (fun z => ?_) (fun z => ?_)
      · replace h := h.1 z
        refine um_iinc (pc2 := 82) (v := (v3 + 1)) (ls2 := [some (.ref 2), some (.int v1), some (.int v2), some (.int (v3 + 1)), some (.int v4), some (.int v5)]) d_Co_rowFor_79 rfl rfl rfl (Nat.le_of_ble_eq_true rfl) rfl ?_
        refine um_goto (tgt := 2) d_Co_rowFor_82 rfl ?_
        refine um_forget [true, true, true, true, false, false] rfl ?_
        exact hK2 _ _ _ _ h
      · replace h := h.2 z
        refine um_iload_n (pc2 := 78) d_Co_rowFor_77 rfl rfl ?_
        exact um_iret d_Co_rowFor_78 rfl ⟨_, rfl, h⟩
set_option maxHeartbeats 4000000 in
set_option maxRecDepth 100000 in
theorem b_Co_rowFor_43 {Q : Int32 → um_S → Prop} {K2 : Int32 → Int32 → Int32 → um_S → Prop} {v1 : Int32} {v2 : Int32} {v3 : Int32} {v4 : Int32} {σ : um_S} (hK2 : ∀ (v1 : Int32) (v2 : Int32) (v3 : Int32) (σ : um_S), K2 v1 v2 v3 σ → um_Ev um_cl um_AW um_L um_SX M_Co_rowFor 0 0 2 [some (.ref 2), some (.int v1), some (.int v2), some (.int v3), none, none] [] σ (um_Qi Q)) (h : wp_Co_rowFor_43 Q K2 v1 v2 v3 v4 σ) : um_Ev um_cl um_AW um_L um_SX M_Co_rowFor 0 0 43 [some (.ref 2), some (.int v1), some (.int v2), some (.int v3), some (.int v4), none] [] σ (um_Qi Q) := by
  unfold wp_Co_rowFor_43 at h
  refine um_iconst (pc2 := 44) (v := 0) d_Co_rowFor_43 rfl (by decide) ?_
  refine um_istore (pc2 := 46) (ls2 := [some (.ref 2), some (.int v1), some (.int v2), some (.int v3), some (.int v4), some (.int 0)]) d_Co_rowFor_44 rfl (Nat.le_of_ble_eq_true rfl) rfl ?_
  refine um_forget [true, true, true, true, true, true] rfl ?_
  exact b_Co_rowFor_46 hK2 h
set_option maxHeartbeats 4000000 in
set_option maxRecDepth 100000 in
theorem b_Co_rowFor_2 {Q : Int32 → um_S → Prop} (n : Nat) : ∀ (v1 : Int32) (v2 : Int32) (v3 : Int32) (σ : um_S), wp_Co_rowFor_2 Q n v1 v2 v3 σ → um_Ev um_cl um_AW um_L um_SX M_Co_rowFor 0 0 2 [some (.ref 2), some (.int v1), some (.int v2), some (.int v3), none, none] [] σ (um_Qi Q) := by
  induction n with
  | zero =>
    intro v1 v2 v3 σ h
    exact h.elim
  | succ n ih =>
    intro v1 v2 v3 σ h
    unfold wp_Co_rowFor_2 at h
    refine um_iload_n (pc2 := 3) d_Co_rowFor_2 rfl rfl ?_
    refine um_aload_n (pc2 := 4) d_Co_rowFor_3 rfl rfl ?_
    refine um_getI (pc2 := 7) d_Co_rowFor_4 rfl f_Co_31 rfl rfl ?_
    refine um_icmp_ge (pc2 := 10) (tgt := 85) d_Co_rowFor_7 rfl rfl (fun z => ?_) (fun z => ?_)
    · replace h := h.1 z
      refine um_iconst (pc2 := 86) (v := (-1)) d_Co_rowFor_85 rfl (by decide) ?_
      exact um_iret d_Co_rowFor_86 rfl ⟨_, rfl, h⟩
    · replace h := h.2 z
      refine um_iload_n (pc2 := 11) d_Co_rowFor_10 rfl rfl ?_
      refine um_iconst (pc2 := 12) (v := 5) d_Co_rowFor_11 rfl (by decide) ?_
      refine um_imul (pc2 := 13) d_Co_rowFor_12 rfl ?_
      refine um_top (fun x1 ex1 => ?_)
      replace h := h x1 ex1
      refine um_istore (pc2 := 15) (ls2 := [some (.ref 2), some (.int v1), some (.int v2), some (.int v3), some (.int x1), none]) d_Co_rowFor_13 rfl (Nat.le_of_ble_eq_true rfl) rfl ?_
      refine um_aload_n (pc2 := 16) d_Co_rowFor_15 rfl rfl ?_
      refine um_getR (pc2 := 19) d_Co_rowFor_16 rfl f_Co_24 rfl rfl ?_
      refine um_iload (pc2 := 21) d_Co_rowFor_19 rfl rfl ?_
      refine um_iald (pc2 := 22) d_Co_rowFor_21 rfl rfl h.1 rfl ?_
      replace h := h.2
      refine um_iload_n (pc2 := 23) d_Co_rowFor_22 rfl rfl ?_
      refine um_icmp_gt (pc2 := 26) (tgt := 43) d_Co_rowFor_23 rfl rfl (fun z => ?_) (fun z => ?_)
      · replace h := h.1 z
        refine um_forget [true, true, true, true, true, false] rfl ?_
        exact b_Co_rowFor_43 (fun _ _ _ _ z => ih _ _ _ _ z) h
      · replace h := h.2 z
        refine um_iload_n (pc2 := 27) d_Co_rowFor_26 rfl rfl ?_
        refine um_aload_n (pc2 := 28) d_Co_rowFor_27 rfl rfl ?_
        refine um_getR (pc2 := 31) d_Co_rowFor_28 rfl f_Co_24 rfl rfl ?_
        refine um_iload (pc2 := 33) d_Co_rowFor_31 rfl rfl ?_
        refine um_iconst (pc2 := 34) (v := 1) d_Co_rowFor_33 rfl (by decide) ?_
        refine um_iadd (pc2 := 35) d_Co_rowFor_34 rfl ?_
        refine um_iald (pc2 := 36) d_Co_rowFor_35 rfl rfl h.1 rfl ?_
        replace h := h.2
        refine um_icmp_ge (pc2 := 39) (tgt := 43) d_Co_rowFor_36 rfl rfl (fun z => ?_) (fun z => ?_)
        · replace h := h.1 z
          refine um_forget [true, true, true, true, true, false] rfl ?_
          exact b_Co_rowFor_43 (fun _ _ _ _ z => ih _ _ _ _ z) h
        · replace h := h.2 z
          refine um_iconst (pc2 := 40) (v := 1) d_Co_rowFor_39 rfl (by decide) ?_
          refine um_goto (tgt := 44) d_Co_rowFor_40 rfl ?_
          refine um_istore (pc2 := 46) (ls2 := [some (.ref 2), some (.int v1), some (.int v2), some (.int v3), some (.int x1), some (.int 1)]) d_Co_rowFor_44 rfl (Nat.le_of_ble_eq_true rfl) rfl ?_
          refine um_forget [true, true, true, true, true, true] rfl ?_
          exact b_Co_rowFor_46 (fun _ _ _ _ z => ih _ _ _ _ z) h
set_option maxHeartbeats 4000000 in
set_option maxRecDepth 100000 in
theorem c_Co_rowFor {a1 : Int32} {a2 : Int32} {σ : um_S} {Q : Int32 → um_S → Prop} (h : wp_Co_rowFor a1 a2 σ Q) : um_Con um_cl um_AW um_L um_SX 0 0 M_Co_rowFor [.ref 2, .int a1, .int a2] σ (um_Qi Q) := by
  refine um_con (by decide) (Nat.le_of_ble_eq_true rfl) (fun v hv => by simp only [List.mem_cons, List.not_mem_nil, or_false] at hv; rcases hv with rfl | rfl | rfl <;> rfl) ?_
  show um_Ev um_cl um_AW um_L um_SX M_Co_rowFor 0 0 0 [some (.ref 2), some (.int a1), some (.int a2), none, none, none] [] σ (um_Qi Q)
  unfold wp_Co_rowFor at h
  refine um_iconst (pc2 := 1) (v := 0) d_Co_rowFor_0 rfl (by decide) ?_
  refine um_istore_n (pc2 := 2) (ls2 := [some (.ref 2), some (.int a1), some (.int a2), some (.int 0), none, none]) d_Co_rowFor_1 rfl (Nat.le_of_ble_eq_true rfl) rfl ?_
  refine um_forget [true, true, true, true, false, false] rfl ?_
  exact b_Co_rowFor_2 _ _ _ _ _ h
def wp_Ma_push (a1 : Int32) (σ : um_S) (Q : um_S → Prop) : Prop :=
  (150 ≤ (σ 4 6) → Q σ) ∧ (¬ 150 ≤ (σ 4 6) → vp_in (σ 4 6) 150 ∧ ∀ σ1 : um_S, σ1 = um_up σ 20 (σ 4 6).toNatClampNeg a1 → ∀ σ2 : um_S, σ2 = um_up σ1 4 6 ((σ1 4 6) + 1) → Q σ2)
set_option maxHeartbeats 4000000 in
set_option maxRecDepth 100000 in
theorem c_Ma_push {a1 : Int32} {σ : um_S} {Q : um_S → Prop} (h : wp_Ma_push a1 σ Q) : um_Con um_cl um_AW um_L um_SX 0 0 M_Ma_push [.ref 4, .int a1] σ (um_Qv Q) := by
  refine um_con (by decide) (Nat.le_of_ble_eq_true rfl) (fun v hv => by simp only [List.mem_cons, List.not_mem_nil, or_false] at hv; rcases hv with rfl | rfl <;> rfl) ?_
  show um_Ev um_cl um_AW um_L um_SX M_Ma_push 0 0 0 [some (.ref 4), some (.int a1)] [] σ (um_Qv Q)
  unfold wp_Ma_push at h
  refine um_aload_n (pc2 := 1) d_Ma_push_0 rfl rfl ?_
  refine um_getI (pc2 := 4) d_Ma_push_1 rfl f_Ma_44 rfl rfl ?_
  refine um_sipush (pc2 := 7) (v := 150) d_Ma_push_4 rfl (by decide) ?_
  refine um_icmp_ge (pc2 := 10) (tgt := 30) d_Ma_push_7 rfl rfl (fun z => ?_) (fun z => ?_)
  · replace h := h.1 z
    exact um_vret d_Ma_push_30 rfl ⟨rfl, h⟩
  · replace h := h.2 z
    refine um_aload_n (pc2 := 11) d_Ma_push_10 rfl rfl ?_
    refine um_getR (pc2 := 14) d_Ma_push_11 rfl f_Ma_21 rfl rfl ?_
    refine um_aload_n (pc2 := 15) d_Ma_push_14 rfl rfl ?_
    refine um_getI (pc2 := 18) d_Ma_push_15 rfl f_Ma_44 rfl rfl ?_
    refine um_iload_n (pc2 := 19) d_Ma_push_18 rfl rfl ?_
    refine um_iast (pc2 := 20) d_Ma_push_19 rfl rfl h.1 rfl (um_gen (fun σ1 eσ1 => ?_))
    replace h := h.2 σ1 eσ1
    refine um_aload_n (pc2 := 21) d_Ma_push_20 rfl rfl ?_
    refine um_dup (pc2 := 22) d_Ma_push_21 rfl rfl ?_
    refine um_getI (pc2 := 25) d_Ma_push_22 rfl f_Ma_44 rfl rfl ?_
    refine um_iconst (pc2 := 26) (v := 1) d_Ma_push_25 rfl (by decide) ?_
    refine um_iadd (pc2 := 27) d_Ma_push_26 rfl ?_
    refine um_putI (pc2 := 30) d_Ma_push_27 rfl fw_Ma_44 rfl rfl (um_gen (fun σ2 eσ2 => ?_))
    replace h := h σ2 eσ2
    exact um_vret d_Ma_push_30 rfl ⟨rfl, h⟩
