def wp_Mo_lay_88 (Q : Int32 → um_S → Prop) (K68 : Int32 → um_S → Prop) : Nat → Int32 → Int32 → um_S → Prop
  | 0, _, _, _ => False
  | n + 1, v2, v3, σ =>
    ((σ 38 23) ≤ v3 → K68 (v2 + (-1)) σ) ∧ (¬ (σ 38 23) ≤ v3 → vp_in v3 2001 ∧ vp_in (σ 55 v3.toNatClampNeg) 150 ∧ (¬ (σ 39 (σ 55 v3.toNatClampNeg).toNatClampNeg) = 18 → wp_Mo_lay_88 Q K68 n v2 (v3 + 1) σ) ∧ ((σ 39 (σ 55 v3.toNatClampNeg).toNatClampNeg) = 18 → vp_in v3 2001 ∧ (¬ (σ 57 v3.toNatClampNeg) = v2 → wp_Mo_lay_88 Q K68 n v2 (v3 + 1) σ) ∧ ((σ 57 v3.toNatClampNeg) = v2 → wp_Mo_table v3 σ (fun σ1 => wp_Mo_lay_88 Q K68 n v2 (v3 + 1) σ1))))
def wp_Mo_lay_162 (Q : Int32 → um_S → Prop) (σ : um_S) : Prop :=
  ((σ 38 36) = 0 → ((σ 38 35) = 0 → Q (σ 38 10) σ) ∧ (¬ (σ 38 35) = 0 → Q (-2) σ)) ∧ (¬ (σ 38 36) = 0 → Q (-3) σ)
def wp_Mo_lay_139 (Q : Int32 → um_S → Prop) (σ : um_S) : Prop :=
  (¬ (σ 38 35) = 0 → ∀ σ1 : um_S, σ1 = um_up σ 38 9 0 → wp_Mo_lay_162 Q σ1) ∧ ((σ 38 35) = 0 → (¬ (σ 38 36) = 0 → ∀ σ2 : um_S, σ2 = um_up σ 38 9 0 → wp_Mo_lay_162 Q σ2) ∧ ((σ 38 36) = 0 → ∀ σ3 : um_S, σ3 = um_up σ 38 9 1 → wp_Mo_lay_162 Q σ3))
def wp_Mo_lay_68 (Q : Int32 → um_S → Prop) : Nat → Int32 → um_S → Prop
  | 0, _, _ => False
  | n + 1, v2, σ =>
    (v2 < 0 → wp_Mo_lay_139 Q σ) ∧ (¬ v2 < 0 → (¬ (σ 38 35) = 0 → wp_Mo_lay_139 Q σ) ∧ ((σ 38 35) = 0 → (¬ (σ 38 36) = 0 → wp_Mo_lay_139 Q σ) ∧ ((σ 38 36) = 0 → wp_Mo_lay_88 Q (fun v2 σ => wp_Mo_lay_68 Q n v2 σ) 100000 v2 0 σ)))
def wp_Mo_lay (b1 : Bool) (σ : um_S) (Q : Int32 → um_S → Prop) : Prop :=
  ∀ σ1 : um_S, σ1 = um_up σ 38 0 0 → ∀ σ2 : um_S, σ2 = um_up σ1 38 34 (if b1 then 1 else 0) → ∀ σ3 : um_S, σ3 = um_up σ2 38 9 0 → ∀ σ4 : um_S, σ4 = um_up σ3 38 35 0 → ∀ σ5 : um_S, σ5 = um_up σ4 38 36 0 → ∀ σ6 : um_S, σ6 = um_up σ5 38 10 0 → ∀ σ7 : um_S, σ7 = um_up σ6 38 14 0 → ∀ σ8 : um_S, σ8 = um_up σ7 38 20 0 → ∀ σ9 : um_S, σ9 = um_up σ8 38 21 (-1) → ∀ σ10 : um_S, σ10 = um_up σ9 38 23 0 → ∀ σ11 : um_S, σ11 = um_up σ10 38 30 0 → ∀ σ12 : um_S, σ12 = um_up σ11 38 32 0 → wp_Mo_laysAll σ12 (fun σ13 => wp_Mo_lay_68 Q 100000 150 σ13)
set_option maxHeartbeats 4000000 in
set_option maxRecDepth 100000 in
theorem b_Mo_lay_88 {Q : Int32 → um_S → Prop} {K68 : Int32 → um_S → Prop} (hK68 : ∀ (v2 : Int32) (σ : um_S), K68 v2 σ → um_Ev um_cl um_AW um_L um_SX M_Mo_lay 6 136 68 [some (.ref 38), none, some (.int v2), none] [] σ (um_Qi Q)) (n : Nat) : ∀ (v2 : Int32) (v3 : Int32) (σ : um_S), wp_Mo_lay_88 Q K68 n v2 v3 σ → um_Ev um_cl um_AW um_L um_SX M_Mo_lay 6 136 88 [some (.ref 38), none, some (.int v2), some (.int v3)] [] σ (um_Qi Q) := by
  induction n with
  | zero =>
    intro v2 v3 σ h
    exact h.elim
  | succ n ih =>
    intro v2 v3 σ h
    unfold wp_Mo_lay_88 at h
    refine um_iload_n (pc2 := 89) d_Mo_lay_88 rfl rfl ?_
    refine um_aload_n (pc2 := 90) d_Mo_lay_89 rfl rfl ?_
    refine um_getI (pc2 := 93) d_Mo_lay_90 rfl f_Mo_180 rfl rfl ?_
    refine um_icmp_ge (pc2 := 96) (tgt := 133) d_Mo_lay_93 rfl rfl (fun z => ?_) (fun z => ?_)
    · replace h := h.1 z
      refine um_iinc (pc2 := 136) (v := (v2 + (-1))) (ls2 := [some (.ref 38), none, some (.int (v2 + (-1))), some (.int v3)]) d_Mo_lay_133 rfl rfl rfl (Nat.le_of_ble_eq_true rfl) rfl ?_
      refine um_goto (tgt := 68) d_Mo_lay_136 rfl ?_
      refine um_forget [true, false, true, false] rfl ?_
      exact hK68 _ _ h
    · replace h := h.2 z
      refine um_aload_n (pc2 := 97) d_Mo_lay_96 rfl rfl ?_
      refine um_getR (pc2 := 100) d_Mo_lay_97 rfl f_Mo_7 rfl rfl ?_
      refine um_aload_n (pc2 := 101) d_Mo_lay_100 rfl rfl ?_
      refine um_getR (pc2 := 104) d_Mo_lay_101 rfl f_Mo_58 rfl rfl ?_
      refine um_iload_n (pc2 := 105) d_Mo_lay_104 rfl rfl ?_
      refine um_iald (pc2 := 106) d_Mo_lay_105 rfl rfl h.1 rfl ?_
      replace h := h.2
      refine um_iald (pc2 := 107) d_Mo_lay_106 rfl rfl h.1 rfl ?_
      replace h := h.2
      refine um_bipush (pc2 := 109) (v := 18) d_Mo_lay_107 rfl (by decide) ?_
      refine um_icmp_ne (pc2 := 112) (tgt := 127) d_Mo_lay_109 rfl rfl (fun z => ?_) (fun z => ?_)
      · replace h := h.1 z
        refine um_iinc (pc2 := 130) (v := (v3 + 1)) (ls2 := [some (.ref 38), none, some (.int v2), some (.int (v3 + 1))]) d_Mo_lay_127 rfl rfl rfl (Nat.le_of_ble_eq_true rfl) rfl ?_
        refine um_goto (tgt := 88) d_Mo_lay_130 rfl ?_
        refine um_forget [true, false, true, true] rfl ?_
        exact ih _ _ _ h
      · replace h := h.2 z
        refine um_aload_n (pc2 := 113) d_Mo_lay_112 rfl rfl ?_
        refine um_getR (pc2 := 116) d_Mo_lay_113 rfl f_Mo_64 rfl rfl ?_
        refine um_iload_n (pc2 := 117) d_Mo_lay_116 rfl rfl ?_
        refine um_iald (pc2 := 118) d_Mo_lay_117 rfl rfl h.1 rfl ?_
        replace h := h.2
        refine um_iload_n (pc2 := 119) d_Mo_lay_118 rfl rfl ?_
        refine um_icmp_ne (pc2 := 122) (tgt := 127) d_Mo_lay_119 rfl rfl (fun z => ?_) (fun z => ?_)
        · replace h := h.1 z
          refine um_iinc (pc2 := 130) (v := (v3 + 1)) (ls2 := [some (.ref 38), none, some (.int v2), some (.int (v3 + 1))]) d_Mo_lay_127 rfl rfl rfl (Nat.le_of_ble_eq_true rfl) rfl ?_
          refine um_goto (tgt := 88) d_Mo_lay_130 rfl ?_
          refine um_forget [true, false, true, true] rfl ?_
          exact ih _ _ _ h
        · replace h := h.2 z
          refine um_aload_n (pc2 := 123) d_Mo_lay_122 rfl rfl ?_
          refine um_iload_n (pc2 := 124) d_Mo_lay_123 rfl rfl ?_
          refine um_callV1v (pc2 := 127) d_Mo_lay_124 rfl g_Mo_272 rfl (Nat.le_of_ble_eq_true rfl) (Nat.le_of_ble_eq_true rfl) (Nat.le_of_ble_eq_true rfl) (c_Mo_table h) (fun σ1 h => ?_)
          refine um_iinc (pc2 := 130) (v := (v3 + 1)) (ls2 := [some (.ref 38), none, some (.int v2), some (.int (v3 + 1))]) d_Mo_lay_127 rfl rfl rfl (Nat.le_of_ble_eq_true rfl) rfl ?_
          refine um_goto (tgt := 88) d_Mo_lay_130 rfl ?_
          refine um_forget [true, false, true, true] rfl ?_
          exact ih _ _ _ h
set_option maxHeartbeats 4000000 in
set_option maxRecDepth 100000 in
theorem b_Mo_lay_162 {Q : Int32 → um_S → Prop} {σ : um_S} (h : wp_Mo_lay_162 Q σ) : um_Ev um_cl um_AW um_L um_SX M_Mo_lay 6 136 162 [some (.ref 38), none, none, none] [] σ (um_Qi Q) := by
  unfold wp_Mo_lay_162 at h
  refine um_aload_n (pc2 := 163) d_Mo_lay_162 rfl rfl ?_
  refine um_getI (pc2 := 166) d_Mo_lay_163 rfl f_Mo_222 rfl rfl ?_
  refine um_if_eq (pc2 := 169) (tgt := 174) d_Mo_lay_166 rfl rfl (fun z => ?_) (fun z => ?_)
  · replace h := h.1 z
    refine um_aload_n (pc2 := 175) d_Mo_lay_174 rfl rfl ?_
    refine um_getI (pc2 := 178) d_Mo_lay_175 rfl f_Mo_167 rfl rfl ?_
    refine um_if_eq (pc2 := 181) (tgt := 186) d_Mo_lay_178 rfl rfl (fun z => ?_) (fun z => ?_)
    · replace h := h.1 z
      refine um_aload_n (pc2 := 187) d_Mo_lay_186 rfl rfl ?_
      refine um_getI (pc2 := 190) d_Mo_lay_187 rfl f_Mo_164 rfl rfl ?_
      exact um_iret d_Mo_lay_190 rfl ⟨_, rfl, h⟩
    · replace h := h.2 z
      refine um_bipush (pc2 := 183) (v := (-2)) d_Mo_lay_181 rfl (by decide) ?_
      refine um_goto (tgt := 190) d_Mo_lay_183 rfl ?_
      exact um_iret d_Mo_lay_190 rfl ⟨_, rfl, h⟩
  · replace h := h.2 z
    refine um_bipush (pc2 := 171) (v := (-3)) d_Mo_lay_169 rfl (by decide) ?_
    refine um_goto (tgt := 190) d_Mo_lay_171 rfl ?_
    exact um_iret d_Mo_lay_190 rfl ⟨_, rfl, h⟩
set_option maxHeartbeats 4000000 in
set_option maxRecDepth 100000 in
theorem b_Mo_lay_139 {Q : Int32 → um_S → Prop} {σ : um_S} (h : wp_Mo_lay_139 Q σ) : um_Ev um_cl um_AW um_L um_SX M_Mo_lay 6 136 139 [some (.ref 38), none, none, none] [] σ (um_Qi Q) := by
  unfold wp_Mo_lay_139 at h
  refine um_aload_n (pc2 := 140) d_Mo_lay_139 rfl rfl ?_
  refine um_aload_n (pc2 := 141) d_Mo_lay_140 rfl rfl ?_
  refine um_getI (pc2 := 144) d_Mo_lay_141 rfl f_Mo_167 rfl rfl ?_
  refine um_if_ne (pc2 := 147) (tgt := 158) d_Mo_lay_144 rfl rfl (fun z => ?_) (fun z => ?_)
  · replace h := h.1 z
    refine um_iconst (pc2 := 159) (v := 0) d_Mo_lay_158 rfl (by decide) ?_
    refine um_putZ (pc2 := 162) d_Mo_lay_159 rfl fw_Mo_266 rfl rfl (by decide) (um_gen (fun σ1 eσ1 => ?_))
    replace h := h σ1 eσ1
    refine um_forget [true, false, false, false] rfl ?_
    exact b_Mo_lay_162 h
  · replace h := h.2 z
    refine um_aload_n (pc2 := 148) d_Mo_lay_147 rfl rfl ?_
    refine um_getI (pc2 := 151) d_Mo_lay_148 rfl f_Mo_222 rfl rfl ?_
    refine um_if_ne (pc2 := 154) (tgt := 158) d_Mo_lay_151 rfl rfl (fun z => ?_) (fun z => ?_)
    · replace h := h.1 z
      refine um_iconst (pc2 := 159) (v := 0) d_Mo_lay_158 rfl (by decide) ?_
      refine um_putZ (pc2 := 162) d_Mo_lay_159 rfl fw_Mo_266 rfl rfl (by decide) (um_gen (fun σ2 eσ2 => ?_))
      replace h := h σ2 eσ2
      refine um_forget [true, false, false, false] rfl ?_
      exact b_Mo_lay_162 h
    · replace h := h.2 z
      refine um_iconst (pc2 := 155) (v := 1) d_Mo_lay_154 rfl (by decide) ?_
      refine um_goto (tgt := 159) d_Mo_lay_155 rfl ?_
      refine um_putZ (pc2 := 162) d_Mo_lay_159 rfl fw_Mo_266 rfl rfl (by decide) (um_gen (fun σ3 eσ3 => ?_))
      replace h := h σ3 eσ3
      refine um_forget [true, false, false, false] rfl ?_
      exact b_Mo_lay_162 h
set_option maxHeartbeats 4000000 in
set_option maxRecDepth 100000 in
theorem b_Mo_lay_68 {Q : Int32 → um_S → Prop} (n : Nat) : ∀ (v2 : Int32) (σ : um_S), wp_Mo_lay_68 Q n v2 σ → um_Ev um_cl um_AW um_L um_SX M_Mo_lay 6 136 68 [some (.ref 38), none, some (.int v2), none] [] σ (um_Qi Q) := by
  induction n with
  | zero =>
    intro v2 σ h
    exact h.elim
  | succ n ih =>
    intro v2 σ h
    unfold wp_Mo_lay_68 at h
    refine um_iload_n (pc2 := 69) d_Mo_lay_68 rfl rfl ?_
    refine um_if_lt (pc2 := 72) (tgt := 139) d_Mo_lay_69 rfl rfl (fun z => ?_) (fun z => ?_)
    · replace h := h.1 z
      refine um_forget [true, false, false, false] rfl ?_
      exact b_Mo_lay_139 h
    · replace h := h.2 z
      refine um_aload_n (pc2 := 73) d_Mo_lay_72 rfl rfl ?_
      refine um_getI (pc2 := 76) d_Mo_lay_73 rfl f_Mo_167 rfl rfl ?_
      refine um_if_ne (pc2 := 79) (tgt := 139) d_Mo_lay_76 rfl rfl (fun z => ?_) (fun z => ?_)
      · replace h := h.1 z
        refine um_forget [true, false, false, false] rfl ?_
        exact b_Mo_lay_139 h
      · replace h := h.2 z
        refine um_aload_n (pc2 := 80) d_Mo_lay_79 rfl rfl ?_
        refine um_getI (pc2 := 83) d_Mo_lay_80 rfl f_Mo_222 rfl rfl ?_
        refine um_if_ne (pc2 := 86) (tgt := 139) d_Mo_lay_83 rfl rfl (fun z => ?_) (fun z => ?_)
        · replace h := h.1 z
          refine um_forget [true, false, false, false] rfl ?_
          exact b_Mo_lay_139 h
        · replace h := h.2 z
          refine um_iconst (pc2 := 87) (v := 0) d_Mo_lay_86 rfl (by decide) ?_
          refine um_istore_n (pc2 := 88) (ls2 := [some (.ref 38), none, some (.int v2), some (.int 0)]) d_Mo_lay_87 rfl (Nat.le_of_ble_eq_true rfl) rfl ?_
          refine um_forget [true, false, true, true] rfl ?_
          exact b_Mo_lay_88 (fun _ _ z => ih _ _ z) _ _ _ _ h
set_option maxHeartbeats 4000000 in
set_option maxRecDepth 100000 in
theorem c_Mo_lay {b1 : Bool} {σ : um_S} {Q : Int32 → um_S → Prop} (h : wp_Mo_lay b1 σ Q) : um_Con um_cl um_AW um_L um_SX 6 136 M_Mo_lay [.ref 38, .int (if b1 then 1 else 0)] σ (um_Qi Q) := by
  refine um_con (by decide) (Nat.le_of_ble_eq_true rfl) (fun v hv => by simp only [List.mem_cons, List.not_mem_nil, or_false] at hv; rcases hv with rfl | rfl <;> rfl) ?_
  show um_Ev um_cl um_AW um_L um_SX M_Mo_lay 6 136 0 [some (.ref 38), some (.int (if b1 then 1 else 0)), none, none] [] σ (um_Qi Q)
  unfold wp_Mo_lay at h
  refine um_aload_n (pc2 := 1) d_Mo_lay_0 rfl rfl ?_
  refine um_iconst (pc2 := 2) (v := 0) d_Mo_lay_1 rfl (by decide) ?_
  refine um_putI (pc2 := 5) d_Mo_lay_2 rfl fw_Mo_125 rfl rfl (um_gen (fun σ1 eσ1 => ?_))
  replace h := h σ1 eσ1
  refine um_aload_n (pc2 := 6) d_Mo_lay_5 rfl rfl ?_
  refine um_iload_n (pc2 := 7) d_Mo_lay_6 rfl rfl ?_
  refine um_putZ (pc2 := 10) d_Mo_lay_7 rfl fw_Mo_156 rfl rfl (um_b01 b1) (um_gen (fun σ2 eσ2 => ?_))
  replace h := h σ2 eσ2
  refine um_aload_n (pc2 := 11) d_Mo_lay_10 rfl rfl ?_
  refine um_iconst (pc2 := 12) (v := 0) d_Mo_lay_11 rfl (by decide) ?_
  refine um_putZ (pc2 := 15) d_Mo_lay_12 rfl fw_Mo_266 rfl rfl (by decide) (um_gen (fun σ3 eσ3 => ?_))
  replace h := h σ3 eσ3
  refine um_aload_n (pc2 := 16) d_Mo_lay_15 rfl rfl ?_
  refine um_iconst (pc2 := 17) (v := 0) d_Mo_lay_16 rfl (by decide) ?_
  refine um_putZ (pc2 := 20) d_Mo_lay_17 rfl fw_Mo_167 rfl rfl (by decide) (um_gen (fun σ4 eσ4 => ?_))
  replace h := h σ4 eσ4
  refine um_aload_n (pc2 := 21) d_Mo_lay_20 rfl rfl ?_
  refine um_iconst (pc2 := 22) (v := 0) d_Mo_lay_21 rfl (by decide) ?_
  refine um_putZ (pc2 := 25) d_Mo_lay_22 rfl fw_Mo_222 rfl rfl (by decide) (um_gen (fun σ5 eσ5 => ?_))
  replace h := h σ5 eσ5
  refine um_aload_n (pc2 := 26) d_Mo_lay_25 rfl rfl ?_
  refine um_iconst (pc2 := 27) (v := 0) d_Mo_lay_26 rfl (by decide) ?_
  refine um_putI (pc2 := 30) d_Mo_lay_27 rfl fw_Mo_164 rfl rfl (um_gen (fun σ6 eσ6 => ?_))
  replace h := h σ6 eσ6
  refine um_aload_n (pc2 := 31) d_Mo_lay_30 rfl rfl ?_
  refine um_iconst (pc2 := 32) (v := 0) d_Mo_lay_31 rfl (by decide) ?_
  refine um_putI (pc2 := 35) d_Mo_lay_32 rfl fw_Mo_244 rfl rfl (um_gen (fun σ7 eσ7 => ?_))
  replace h := h σ7 eσ7
  refine um_aload_n (pc2 := 36) d_Mo_lay_35 rfl rfl ?_
  refine um_iconst (pc2 := 37) (v := 0) d_Mo_lay_36 rfl (by decide) ?_
  refine um_putI (pc2 := 40) d_Mo_lay_37 rfl fw_Mo_170 rfl rfl (um_gen (fun σ8 eσ8 => ?_))
  replace h := h σ8 eσ8
  refine um_aload_n (pc2 := 41) d_Mo_lay_40 rfl rfl ?_
  refine um_iconst (pc2 := 42) (v := (-1)) d_Mo_lay_41 rfl (by decide) ?_
  refine um_putI (pc2 := 45) d_Mo_lay_42 rfl fw_Mo_241 rfl rfl (um_gen (fun σ9 eσ9 => ?_))
  replace h := h σ9 eσ9
  refine um_aload_n (pc2 := 46) d_Mo_lay_45 rfl rfl ?_
  refine um_iconst (pc2 := 47) (v := 0) d_Mo_lay_46 rfl (by decide) ?_
  refine um_putI (pc2 := 50) d_Mo_lay_47 rfl fw_Mo_180 rfl rfl (um_gen (fun σ10 eσ10 => ?_))
  replace h := h σ10 eσ10
  refine um_aload_n (pc2 := 51) d_Mo_lay_50 rfl rfl ?_
  refine um_iconst (pc2 := 52) (v := 0) d_Mo_lay_51 rfl (by decide) ?_
  refine um_putI (pc2 := 55) d_Mo_lay_52 rfl fw_Mo_238 rfl rfl (um_gen (fun σ11 eσ11 => ?_))
  replace h := h σ11 eσ11
  refine um_aload_n (pc2 := 56) d_Mo_lay_55 rfl rfl ?_
  refine um_iconst (pc2 := 57) (v := 0) d_Mo_lay_56 rfl (by decide) ?_
  refine um_putI (pc2 := 60) d_Mo_lay_57 rfl fw_Mo_231 rfl rfl (um_gen (fun σ12 eσ12 => ?_))
  replace h := h σ12 eσ12
  refine um_aload_n (pc2 := 61) d_Mo_lay_60 rfl rfl ?_
  refine um_callV0v (pc2 := 64) d_Mo_lay_61 rfl g_Mo_269 rfl (Nat.le_of_ble_eq_true rfl) (Nat.le_of_ble_eq_true rfl) (Nat.le_of_ble_eq_true rfl) (c_Mo_laysAll h) (fun σ13 h => ?_)
  refine um_sipush (pc2 := 67) (v := 150) d_Mo_lay_64 rfl (by decide) ?_
  refine um_istore_n (pc2 := 68) (ls2 := [some (.ref 38), some (.int (if b1 then 1 else 0)), some (.int 150), none]) d_Mo_lay_67 rfl (Nat.le_of_ble_eq_true rfl) rfl ?_
  refine um_forget [true, false, true, false] rfl ?_
  exact b_Mo_lay_68 _ _ _ h
def wp_Mo_laid (a1 : Int32) (σ : um_S) (Q : Int32 → um_S → Prop) : Prop :=
  ∀ σ1 : um_S, σ1 = um_up σ 38 0 0 → (¬ (σ1 38 9) = 0 → (a1 = 0 → Q (σ1 38 10) σ1) ∧ (¬ a1 = 0 → (a1 = 1 → Q (σ1 38 14) σ1) ∧ (¬ a1 = 1 → (a1 = 2 → Q (σ1 38 20) σ1) ∧ (¬ a1 = 2 → (a1 = 3 → Q (σ1 38 21) σ1) ∧ (¬ a1 = 3 → Q (-1) σ1))))) ∧ ((σ1 38 9) = 0 → Q (-1) σ1)
set_option maxHeartbeats 4000000 in
set_option maxRecDepth 100000 in
theorem c_Mo_laid {a1 : Int32} {σ : um_S} {Q : Int32 → um_S → Prop} (h : wp_Mo_laid a1 σ Q) : um_Con um_cl um_AW um_L um_SX 0 0 M_Mo_laid [.ref 38, .int a1] σ (um_Qi Q) := by
  refine um_con (by decide) (Nat.le_of_ble_eq_true rfl) (fun v hv => by simp only [List.mem_cons, List.not_mem_nil, or_false] at hv; rcases hv with rfl | rfl <;> rfl) ?_
  show um_Ev um_cl um_AW um_L um_SX M_Mo_laid 0 0 0 [some (.ref 38), some (.int a1)] [] σ (um_Qi Q)
  unfold wp_Mo_laid at h
  refine um_aload_n (pc2 := 1) d_Mo_laid_0 rfl rfl ?_
  refine um_iconst (pc2 := 2) (v := 0) d_Mo_laid_1 rfl (by decide) ?_
  refine um_putI (pc2 := 5) d_Mo_laid_2 rfl fw_Mo_125 rfl rfl (um_gen (fun σ1 eσ1 => ?_))
  replace h := h σ1 eσ1
  refine um_aload_n (pc2 := 6) d_Mo_laid_5 rfl rfl ?_
  refine um_getI (pc2 := 9) d_Mo_laid_6 rfl f_Mo_266 rfl rfl ?_
  refine um_if_ne (pc2 := 12) (tgt := 14) d_Mo_laid_9 rfl rfl (fun z => ?_) (fun z => ?_)
  · replace h := h.1 z
    refine um_iload_n (pc2 := 15) d_Mo_laid_14 rfl rfl ?_
    by_cases z0 : a1 = 0
    · replace h := h.1 z0
      refine um_tableAt (tgt := 44) d_Mo_laid_15 z0 (kk := 0) (by decide) (by decide) (by decide) rfl rfl ?_
      refine um_aload_n (pc2 := 45) d_Mo_laid_44 rfl rfl ?_
      refine um_getI (pc2 := 48) d_Mo_laid_45 rfl f_Mo_164 rfl rfl ?_
      exact um_iret d_Mo_laid_48 rfl ⟨_, rfl, h⟩
    replace h := h.2 z0
    by_cases z1 : a1 = 1
    · replace h := h.1 z1
      refine um_tableAt (tgt := 49) d_Mo_laid_15 z1 (kk := 1) (by decide) (by decide) (by decide) rfl rfl ?_
      refine um_aload_n (pc2 := 50) d_Mo_laid_49 rfl rfl ?_
      refine um_getI (pc2 := 53) d_Mo_laid_50 rfl f_Mo_244 rfl rfl ?_
      exact um_iret d_Mo_laid_53 rfl ⟨_, rfl, h⟩
    replace h := h.2 z1
    by_cases z2 : a1 = 2
    · replace h := h.1 z2
      refine um_tableAt (tgt := 54) d_Mo_laid_15 z2 (kk := 2) (by decide) (by decide) (by decide) rfl rfl ?_
      refine um_aload_n (pc2 := 55) d_Mo_laid_54 rfl rfl ?_
      refine um_getI (pc2 := 58) d_Mo_laid_55 rfl f_Mo_170 rfl rfl ?_
      exact um_iret d_Mo_laid_58 rfl ⟨_, rfl, h⟩
    replace h := h.2 z2
    by_cases z3 : a1 = 3
    · replace h := h.1 z3
      refine um_tableAt (tgt := 59) d_Mo_laid_15 z3 (kk := 3) (by decide) (by decide) (by decide) rfl rfl ?_
      refine um_aload_n (pc2 := 60) d_Mo_laid_59 rfl rfl ?_
      refine um_getI (pc2 := 63) d_Mo_laid_60 rfl f_Mo_241 rfl rfl ?_
      exact um_iret d_Mo_laid_63 rfl ⟨_, rfl, h⟩
    replace h := h.2 z3
    have hE : um_Ev um_cl um_AW um_L um_SX M_Mo_laid 0 0 64 [some (.ref 38), some (.int a1)] [] σ1 (um_Qi Q) := by
      refine um_iconst (pc2 := 65) (v := (-1)) d_Mo_laid_64 rfl (by decide) ?_
      exact um_iret d_Mo_laid_65 rfl ⟨_, rfl, h⟩
    exact um_tableOut (tgt := 64) d_Mo_laid_15 (by have := um_toInt_ne (kk := 0) z0 (by decide); have := um_toInt_ne (kk := 1) z1 (by decide); have := um_toInt_ne (kk := 2) z2 (by decide); have := um_toInt_ne (kk := 3) z3 (by decide); omega) rfl hE
  · replace h := h.2 z
    refine um_iconst (pc2 := 13) (v := (-1)) d_Mo_laid_12 rfl (by decide) ?_
    exact um_iret d_Mo_laid_13 rfl ⟨_, rfl, h⟩
def wp_Mo_instruction_41 (Q : Int32 → um_S → Prop) (v1 : Int32) (v2 : Int32) (σ : um_S) : Prop :=
  ((σ 38 0) = 0 → (¬ v2 = 0 → vp_in v1 1000 ∧ Q (σ 47 v1.toNatClampNeg) σ) ∧ (v2 = 0 → vp_in v1 1000 ∧ Q (σ 46 v1.toNatClampNeg) σ)) ∧ (¬ (σ 38 0) = 0 → Q 0 σ)
def wp_Mo_instruction (a1 : Int32) (a2 : Int32) (σ : um_S) (Q : Int32 → um_S → Prop) : Prop :=
  ((σ 38 9) = 0 → ∀ σ1 : um_S, σ1 = um_up σ 38 0 1 → wp_Mo_instruction_41 Q a1 a2 σ1) ∧ (¬ (σ 38 9) = 0 → (a1 < 0 → ∀ σ2 : um_S, σ2 = um_up σ 38 0 1 → wp_Mo_instruction_41 Q a1 a2 σ2) ∧ (¬ a1 < 0 → (a1 < (σ 38 10) → (a2 < 0 → ∀ σ3 : um_S, σ3 = um_up σ 38 0 2 → wp_Mo_instruction_41 Q a1 a2 σ3) ∧ (¬ a2 < 0 → (a2 ≤ 1 → ∀ σ4 : um_S, σ4 = um_up σ 38 0 0 → wp_Mo_instruction_41 Q a1 a2 σ4) ∧ (¬ a2 ≤ 1 → ∀ σ5 : um_S, σ5 = um_up σ 38 0 2 → wp_Mo_instruction_41 Q a1 a2 σ5))) ∧ (¬ a1 < (σ 38 10) → ∀ σ6 : um_S, σ6 = um_up σ 38 0 1 → wp_Mo_instruction_41 Q a1 a2 σ6)))
set_option maxHeartbeats 4000000 in
set_option maxRecDepth 100000 in
theorem b_Mo_instruction_41 {Q : Int32 → um_S → Prop} {v1 : Int32} {v2 : Int32} {σ : um_S} (h : wp_Mo_instruction_41 Q v1 v2 σ) : um_Ev um_cl um_AW um_L um_SX M_Mo_instruction 0 0 41 [some (.ref 38), some (.int v1), some (.int v2)] [] σ (um_Qi Q) := by
  unfold wp_Mo_instruction_41 at h
  refine um_aload_n (pc2 := 42) d_Mo_instruction_41 rfl rfl ?_
  refine um_getI (pc2 := 45) d_Mo_instruction_42 rfl f_Mo_125 rfl rfl ?_
  refine um_if_eq (pc2 := 48) (tgt := 52) d_Mo_instruction_45 rfl rfl (fun z => ?_) (fun z => ?_)
  · replace h := h.1 z
    refine um_iload_n (pc2 := 53) d_Mo_instruction_52 rfl rfl ?_
    refine um_if_ne (pc2 := 56) (tgt := 65) d_Mo_instruction_53 rfl rfl (fun z => ?_) (fun z => ?_)
    · replace h := h.1 z
      refine um_aload_n (pc2 := 66) d_Mo_instruction_65 rfl rfl ?_
      refine um_getR (pc2 := 69) d_Mo_instruction_66 rfl f_Mo_34 rfl rfl ?_
      refine um_iload_n (pc2 := 70) d_Mo_instruction_69 rfl rfl ?_
      refine um_iald (pc2 := 71) d_Mo_instruction_70 rfl rfl h.1 rfl ?_
      replace h := h.2
      exact um_iret d_Mo_instruction_71 rfl ⟨_, rfl, h⟩
    · replace h := h.2 z
      refine um_aload_n (pc2 := 57) d_Mo_instruction_56 rfl rfl ?_
      refine um_getR (pc2 := 60) d_Mo_instruction_57 rfl f_Mo_31 rfl rfl ?_
      refine um_iload_n (pc2 := 61) d_Mo_instruction_60 rfl rfl ?_
      refine um_iald (pc2 := 62) d_Mo_instruction_61 rfl rfl h.1 rfl ?_
      replace h := h.2
      refine um_goto (tgt := 71) d_Mo_instruction_62 rfl ?_
      exact um_iret d_Mo_instruction_71 rfl ⟨_, rfl, h⟩
  · replace h := h.2 z
    refine um_iconst (pc2 := 49) (v := 0) d_Mo_instruction_48 rfl (by decide) ?_
    refine um_goto (tgt := 71) d_Mo_instruction_49 rfl ?_
    exact um_iret d_Mo_instruction_71 rfl ⟨_, rfl, h⟩
set_option maxHeartbeats 4000000 in
set_option maxRecDepth 100000 in
theorem c_Mo_instruction {a1 : Int32} {a2 : Int32} {σ : um_S} {Q : Int32 → um_S → Prop} (h : wp_Mo_instruction a1 a2 σ Q) : um_Con um_cl um_AW um_L um_SX 0 0 M_Mo_instruction [.ref 38, .int a1, .int a2] σ (um_Qi Q) := by
  refine um_con (by decide) (Nat.le_of_ble_eq_true rfl) (fun v hv => by simp only [List.mem_cons, List.not_mem_nil, or_false] at hv; rcases hv with rfl | rfl | rfl <;> rfl) ?_
  show um_Ev um_cl um_AW um_L um_SX M_Mo_instruction 0 0 0 [some (.ref 38), some (.int a1), some (.int a2)] [] σ (um_Qi Q)
  unfold wp_Mo_instruction at h
  refine um_aload_n (pc2 := 1) d_Mo_instruction_0 rfl rfl ?_
  refine um_aload_n (pc2 := 2) d_Mo_instruction_1 rfl rfl ?_
  refine um_getI (pc2 := 5) d_Mo_instruction_2 rfl f_Mo_266 rfl rfl ?_
  refine um_if_eq (pc2 := 8) (tgt := 20) d_Mo_instruction_5 rfl rfl (fun z => ?_) (fun z => ?_)
  · replace h := h.1 z
    refine um_iconst (pc2 := 21) (v := 1) d_Mo_instruction_20 rfl (by decide) ?_
    refine um_goto (tgt := 38) d_Mo_instruction_21 rfl ?_
    refine um_putI (pc2 := 41) d_Mo_instruction_38 rfl fw_Mo_125 rfl rfl (um_gen (fun σ1 eσ1 => ?_))
    replace h := h σ1 eσ1
    refine um_forget [true, true, true] rfl ?_
    exact b_Mo_instruction_41 h
  · replace h := h.2 z
    refine um_iload_n (pc2 := 9) d_Mo_instruction_8 rfl rfl ?_
    refine um_if_lt (pc2 := 12) (tgt := 20) d_Mo_instruction_9 rfl rfl (fun z => ?_) (fun z => ?_)
    · replace h := h.1 z
      refine um_iconst (pc2 := 21) (v := 1) d_Mo_instruction_20 rfl (by decide) ?_
      refine um_goto (tgt := 38) d_Mo_instruction_21 rfl ?_
      refine um_putI (pc2 := 41) d_Mo_instruction_38 rfl fw_Mo_125 rfl rfl (um_gen (fun σ2 eσ2 => ?_))
      replace h := h σ2 eσ2
      refine um_forget [true, true, true] rfl ?_
      exact b_Mo_instruction_41 h
    · replace h := h.2 z
      refine um_iload_n (pc2 := 13) d_Mo_instruction_12 rfl rfl ?_
      refine um_aload_n (pc2 := 14) d_Mo_instruction_13 rfl rfl ?_
      refine um_getI (pc2 := 17) d_Mo_instruction_14 rfl f_Mo_164 rfl rfl ?_
      refine um_icmp_lt (pc2 := 20) (tgt := 24) d_Mo_instruction_17 rfl rfl (fun z => ?_) (fun z => ?_)
      · replace h := h.1 z
        refine um_iload_n (pc2 := 25) d_Mo_instruction_24 rfl rfl ?_
        refine um_if_lt (pc2 := 28) (tgt := 33) d_Mo_instruction_25 rfl rfl (fun z => ?_) (fun z => ?_)
        · replace h := h.1 z
          refine um_iconst (pc2 := 34) (v := 2) d_Mo_instruction_33 rfl (by decide) ?_
          refine um_goto (tgt := 38) d_Mo_instruction_34 rfl ?_
          refine um_putI (pc2 := 41) d_Mo_instruction_38 rfl fw_Mo_125 rfl rfl (um_gen (fun σ3 eσ3 => ?_))
          replace h := h σ3 eσ3
          refine um_forget [true, true, true] rfl ?_
          exact b_Mo_instruction_41 h
        · replace h := h.2 z
          refine um_iload_n (pc2 := 29) d_Mo_instruction_28 rfl rfl ?_
          refine um_iconst (pc2 := 30) (v := 1) d_Mo_instruction_29 rfl (by decide) ?_
          refine um_icmp_le (pc2 := 33) (tgt := 37) d_Mo_instruction_30 rfl rfl (fun z => ?_) (fun z => ?_)
          · replace h := h.1 z
            refine um_iconst (pc2 := 38) (v := 0) d_Mo_instruction_37 rfl (by decide) ?_
            refine um_putI (pc2 := 41) d_Mo_instruction_38 rfl fw_Mo_125 rfl rfl (um_gen (fun σ4 eσ4 => ?_))
            replace h := h σ4 eσ4
            refine um_forget [true, true, true] rfl ?_
            exact b_Mo_instruction_41 h
          · replace h := h.2 z
            refine um_iconst (pc2 := 34) (v := 2) d_Mo_instruction_33 rfl (by decide) ?_
            refine um_goto (tgt := 38) d_Mo_instruction_34 rfl ?_
            refine um_putI (pc2 := 41) d_Mo_instruction_38 rfl fw_Mo_125 rfl rfl (um_gen (fun σ5 eσ5 => ?_))
            replace h := h σ5 eσ5
            refine um_forget [true, true, true] rfl ?_
            exact b_Mo_instruction_41 h
      · replace h := h.2 z
        refine um_iconst (pc2 := 21) (v := 1) d_Mo_instruction_20 rfl (by decide) ?_
        refine um_goto (tgt := 38) d_Mo_instruction_21 rfl ?_
        refine um_putI (pc2 := 41) d_Mo_instruction_38 rfl fw_Mo_125 rfl rfl (um_gen (fun σ6 eσ6 => ?_))
        replace h := h σ6 eσ6
        refine um_forget [true, true, true] rfl ?_
        exact b_Mo_instruction_41 h
def wp_Mo_entry (a1 : Int32) (σ : um_S) (Q : Int32 → um_S → Prop) : Prop :=
  ∀ σ1 : um_S, σ1 = um_up σ 38 0 0 → ((σ1 38 9) = 0 → Q (-1) σ1) ∧ (¬ (σ1 38 9) = 0 → (a1 < 0 → Q (-1) σ1) ∧ (¬ a1 < 0 → (6 ≤ a1 → Q (-1) σ1) ∧ (¬ 6 ≤ a1 → vp_in a1 6 ∧ Q (σ1 54 a1.toNatClampNeg) σ1)))
set_option maxHeartbeats 4000000 in
set_option maxRecDepth 100000 in
theorem c_Mo_entry {a1 : Int32} {σ : um_S} {Q : Int32 → um_S → Prop} (h : wp_Mo_entry a1 σ Q) : um_Con um_cl um_AW um_L um_SX 0 0 M_Mo_entry [.ref 38, .int a1] σ (um_Qi Q) := by
  refine um_con (by decide) (Nat.le_of_ble_eq_true rfl) (fun v hv => by simp only [List.mem_cons, List.not_mem_nil, or_false] at hv; rcases hv with rfl | rfl <;> rfl) ?_
  show um_Ev um_cl um_AW um_L um_SX M_Mo_entry 0 0 0 [some (.ref 38), some (.int a1)] [] σ (um_Qi Q)
  unfold wp_Mo_entry at h
  refine um_aload_n (pc2 := 1) d_Mo_entry_0 rfl rfl ?_
  refine um_iconst (pc2 := 2) (v := 0) d_Mo_entry_1 rfl (by decide) ?_
  refine um_putI (pc2 := 5) d_Mo_entry_2 rfl fw_Mo_125 rfl rfl (um_gen (fun σ1 eσ1 => ?_))
  replace h := h σ1 eσ1
  refine um_aload_n (pc2 := 6) d_Mo_entry_5 rfl rfl ?_
  refine um_getI (pc2 := 9) d_Mo_entry_6 rfl f_Mo_266 rfl rfl ?_
  refine um_if_eq (pc2 := 12) (tgt := 31) d_Mo_entry_9 rfl rfl (fun z => ?_) (fun z => ?_)
  · replace h := h.1 z
    refine um_iconst (pc2 := 32) (v := (-1)) d_Mo_entry_31 rfl (by decide) ?_
    exact um_iret d_Mo_entry_32 rfl ⟨_, rfl, h⟩
  · replace h := h.2 z
    refine um_iload_n (pc2 := 13) d_Mo_entry_12 rfl rfl ?_
    refine um_if_lt (pc2 := 16) (tgt := 31) d_Mo_entry_13 rfl rfl (fun z => ?_) (fun z => ?_)
    · replace h := h.1 z
      refine um_iconst (pc2 := 32) (v := (-1)) d_Mo_entry_31 rfl (by decide) ?_
      exact um_iret d_Mo_entry_32 rfl ⟨_, rfl, h⟩
    · replace h := h.2 z
      refine um_iload_n (pc2 := 17) d_Mo_entry_16 rfl rfl ?_
      refine um_bipush (pc2 := 19) (v := 6) d_Mo_entry_17 rfl (by decide) ?_
      refine um_icmp_ge (pc2 := 22) (tgt := 31) d_Mo_entry_19 rfl rfl (fun z => ?_) (fun z => ?_)
      · replace h := h.1 z
        refine um_iconst (pc2 := 32) (v := (-1)) d_Mo_entry_31 rfl (by decide) ?_
        exact um_iret d_Mo_entry_32 rfl ⟨_, rfl, h⟩
      · replace h := h.2 z
        refine um_aload_n (pc2 := 23) d_Mo_entry_22 rfl rfl ?_
        refine um_getR (pc2 := 26) d_Mo_entry_23 rfl f_Mo_55 rfl rfl ?_
        refine um_iload_n (pc2 := 27) d_Mo_entry_26 rfl rfl ?_
        refine um_iald (pc2 := 28) d_Mo_entry_27 rfl rfl h.1 rfl ?_
        replace h := h.2
        refine um_goto (tgt := 32) d_Mo_entry_28 rfl ?_
        exact um_iret d_Mo_entry_32 rfl ⟨_, rfl, h⟩
def wp_Mo_row_II_41 (Q : Int32 → um_S → Prop) (v1 : Int32) (v2 : Int32) (σ : um_S) : Prop :=
  ((σ 38 0) = 0 → (¬ v2 = 0 → (¬ v2 = 1 → (¬ v2 = 2 → (¬ v2 = 3 → vp_in v1 300 ∧ Q (σ 53 v1.toNatClampNeg) σ) ∧ (v2 = 3 → vp_in v1 300 ∧ Q (σ 52 v1.toNatClampNeg) σ)) ∧ (v2 = 2 → vp_in v1 300 ∧ Q (σ 51 v1.toNatClampNeg) σ)) ∧ (v2 = 1 → vp_in v1 300 ∧ Q (σ 50 v1.toNatClampNeg) σ)) ∧ (v2 = 0 → vp_in v1 300 ∧ Q (σ 49 v1.toNatClampNeg) σ)) ∧ (¬ (σ 38 0) = 0 → Q 0 σ)
def wp_Mo_row_II (a1 : Int32) (a2 : Int32) (σ : um_S) (Q : Int32 → um_S → Prop) : Prop :=
  ((σ 38 9) = 0 → ∀ σ1 : um_S, σ1 = um_up σ 38 0 1 → wp_Mo_row_II_41 Q a1 a2 σ1) ∧ (¬ (σ 38 9) = 0 → (a1 < 0 → ∀ σ2 : um_S, σ2 = um_up σ 38 0 1 → wp_Mo_row_II_41 Q a1 a2 σ2) ∧ (¬ a1 < 0 → (a1 < (σ 38 14) → (a2 < 0 → ∀ σ3 : um_S, σ3 = um_up σ 38 0 2 → wp_Mo_row_II_41 Q a1 a2 σ3) ∧ (¬ a2 < 0 → (a2 ≤ 4 → ∀ σ4 : um_S, σ4 = um_up σ 38 0 0 → wp_Mo_row_II_41 Q a1 a2 σ4) ∧ (¬ a2 ≤ 4 → ∀ σ5 : um_S, σ5 = um_up σ 38 0 2 → wp_Mo_row_II_41 Q a1 a2 σ5))) ∧ (¬ a1 < (σ 38 14) → ∀ σ6 : um_S, σ6 = um_up σ 38 0 1 → wp_Mo_row_II_41 Q a1 a2 σ6)))
set_option maxHeartbeats 4000000 in
set_option maxRecDepth 100000 in
theorem b_Mo_row_II_41 {Q : Int32 → um_S → Prop} {v1 : Int32} {v2 : Int32} {σ : um_S} (h : wp_Mo_row_II_41 Q v1 v2 σ) : um_Ev um_cl um_AW um_L um_SX M_Mo_row_II 0 0 41 [some (.ref 38), some (.int v1), some (.int v2)] [] σ (um_Qi Q) := by
  unfold wp_Mo_row_II_41 at h
  refine um_aload_n (pc2 := 42) d_Mo_row_II_41 rfl rfl ?_
  refine um_getI (pc2 := 45) d_Mo_row_II_42 rfl f_Mo_125 rfl rfl ?_
  refine um_if_eq (pc2 := 48) (tgt := 50) d_Mo_row_II_45 rfl rfl (fun z => ?_) (fun z => ?_)
  · replace h := h.1 z
    refine um_iload_n (pc2 := 51) d_Mo_row_II_50 rfl rfl ?_
    refine um_if_ne (pc2 := 54) (tgt := 63) d_Mo_row_II_51 rfl rfl (fun z => ?_) (fun z => ?_)
    · replace h := h.1 z
      refine um_iload_n (pc2 := 64) d_Mo_row_II_63 rfl rfl ?_
      refine um_iconst (pc2 := 65) (v := 1) d_Mo_row_II_64 rfl (by decide) ?_
      refine um_icmp_ne (pc2 := 68) (tgt := 77) d_Mo_row_II_65 rfl rfl (fun z => ?_) (fun z => ?_)
      · replace h := h.1 z
        refine um_iload_n (pc2 := 78) d_Mo_row_II_77 rfl rfl ?_
        refine um_iconst (pc2 := 79) (v := 2) d_Mo_row_II_78 rfl (by decide) ?_
        refine um_icmp_ne (pc2 := 82) (tgt := 91) d_Mo_row_II_79 rfl rfl (fun z => ?_) (fun z => ?_)
        · replace h := h.1 z
          refine um_iload_n (pc2 := 92) d_Mo_row_II_91 rfl rfl ?_
          refine um_iconst (pc2 := 93) (v := 3) d_Mo_row_II_92 rfl (by decide) ?_
          refine um_icmp_ne (pc2 := 96) (tgt := 105) d_Mo_row_II_93 rfl rfl (fun z => ?_) (fun z => ?_)
          · replace h := h.1 z
            refine um_aload_n (pc2 := 106) d_Mo_row_II_105 rfl rfl ?_
            refine um_getR (pc2 := 109) d_Mo_row_II_106 rfl f_Mo_52 rfl rfl ?_
            refine um_iload_n (pc2 := 110) d_Mo_row_II_109 rfl rfl ?_
            refine um_iald (pc2 := 111) d_Mo_row_II_110 rfl rfl h.1 rfl ?_
            replace h := h.2
            exact um_iret d_Mo_row_II_111 rfl ⟨_, rfl, h⟩
          · replace h := h.2 z
            refine um_aload_n (pc2 := 97) d_Mo_row_II_96 rfl rfl ?_
            refine um_getR (pc2 := 100) d_Mo_row_II_97 rfl f_Mo_49 rfl rfl ?_
            refine um_iload_n (pc2 := 101) d_Mo_row_II_100 rfl rfl ?_
            refine um_iald (pc2 := 102) d_Mo_row_II_101 rfl rfl h.1 rfl ?_
            replace h := h.2
            refine um_goto (tgt := 111) d_Mo_row_II_102 rfl ?_
            exact um_iret d_Mo_row_II_111 rfl ⟨_, rfl, h⟩
        · replace h := h.2 z
          refine um_aload_n (pc2 := 83) d_Mo_row_II_82 rfl rfl ?_
          refine um_getR (pc2 := 86) d_Mo_row_II_83 rfl f_Mo_46 rfl rfl ?_
          refine um_iload_n (pc2 := 87) d_Mo_row_II_86 rfl rfl ?_
          refine um_iald (pc2 := 88) d_Mo_row_II_87 rfl rfl h.1 rfl ?_
          replace h := h.2
          refine um_goto (tgt := 111) d_Mo_row_II_88 rfl ?_
          exact um_iret d_Mo_row_II_111 rfl ⟨_, rfl, h⟩
      · replace h := h.2 z
        refine um_aload_n (pc2 := 69) d_Mo_row_II_68 rfl rfl ?_
        refine um_getR (pc2 := 72) d_Mo_row_II_69 rfl f_Mo_43 rfl rfl ?_
        refine um_iload_n (pc2 := 73) d_Mo_row_II_72 rfl rfl ?_
        refine um_iald (pc2 := 74) d_Mo_row_II_73 rfl rfl h.1 rfl ?_
        replace h := h.2
        refine um_goto (tgt := 111) d_Mo_row_II_74 rfl ?_
        exact um_iret d_Mo_row_II_111 rfl ⟨_, rfl, h⟩
    · replace h := h.2 z
      refine um_aload_n (pc2 := 55) d_Mo_row_II_54 rfl rfl ?_
      refine um_getR (pc2 := 58) d_Mo_row_II_55 rfl f_Mo_40 rfl rfl ?_
      refine um_iload_n (pc2 := 59) d_Mo_row_II_58 rfl rfl ?_
      refine um_iald (pc2 := 60) d_Mo_row_II_59 rfl rfl h.1 rfl ?_
      replace h := h.2
      refine um_goto (tgt := 111) d_Mo_row_II_60 rfl ?_
      exact um_iret d_Mo_row_II_111 rfl ⟨_, rfl, h⟩
  · replace h := h.2 z
    refine um_iconst (pc2 := 49) (v := 0) d_Mo_row_II_48 rfl (by decide) ?_
    exact um_iret d_Mo_row_II_49 rfl ⟨_, rfl, h⟩
set_option maxHeartbeats 4000000 in
set_option maxRecDepth 100000 in
theorem c_Mo_row_II {a1 : Int32} {a2 : Int32} {σ : um_S} {Q : Int32 → um_S → Prop} (h : wp_Mo_row_II a1 a2 σ Q) : um_Con um_cl um_AW um_L um_SX 0 0 M_Mo_row_II [.ref 38, .int a1, .int a2] σ (um_Qi Q) := by
  refine um_con (by decide) (Nat.le_of_ble_eq_true rfl) (fun v hv => by simp only [List.mem_cons, List.not_mem_nil, or_false] at hv; rcases hv with rfl | rfl | rfl <;> rfl) ?_
  show um_Ev um_cl um_AW um_L um_SX M_Mo_row_II 0 0 0 [some (.ref 38), some (.int a1), some (.int a2)] [] σ (um_Qi Q)
  unfold wp_Mo_row_II at h
  refine um_aload_n (pc2 := 1) d_Mo_row_II_0 rfl rfl ?_
  refine um_aload_n (pc2 := 2) d_Mo_row_II_1 rfl rfl ?_
  refine um_getI (pc2 := 5) d_Mo_row_II_2 rfl f_Mo_266 rfl rfl ?_
  refine um_if_eq (pc2 := 8) (tgt := 20) d_Mo_row_II_5 rfl rfl (fun z => ?_) (fun z => ?_)
  · replace h := h.1 z
    refine um_iconst (pc2 := 21) (v := 1) d_Mo_row_II_20 rfl (by decide) ?_
    refine um_goto (tgt := 38) d_Mo_row_II_21 rfl ?_
    refine um_putI (pc2 := 41) d_Mo_row_II_38 rfl fw_Mo_125 rfl rfl (um_gen (fun σ1 eσ1 => ?_))
    replace h := h σ1 eσ1
    refine um_forget [true, true, true] rfl ?_
    exact b_Mo_row_II_41 h
  · replace h := h.2 z
    refine um_iload_n (pc2 := 9) d_Mo_row_II_8 rfl rfl ?_
    refine um_if_lt (pc2 := 12) (tgt := 20) d_Mo_row_II_9 rfl rfl (fun z => ?_) (fun z => ?_)
    · replace h := h.1 z
      refine um_iconst (pc2 := 21) (v := 1) d_Mo_row_II_20 rfl (by decide) ?_
      refine um_goto (tgt := 38) d_Mo_row_II_21 rfl ?_
      refine um_putI (pc2 := 41) d_Mo_row_II_38 rfl fw_Mo_125 rfl rfl (um_gen (fun σ2 eσ2 => ?_))
      replace h := h σ2 eσ2
      refine um_forget [true, true, true] rfl ?_
      exact b_Mo_row_II_41 h
    · replace h := h.2 z
      refine um_iload_n (pc2 := 13) d_Mo_row_II_12 rfl rfl ?_
      refine um_aload_n (pc2 := 14) d_Mo_row_II_13 rfl rfl ?_
      refine um_getI (pc2 := 17) d_Mo_row_II_14 rfl f_Mo_244 rfl rfl ?_
      refine um_icmp_lt (pc2 := 20) (tgt := 24) d_Mo_row_II_17 rfl rfl (fun z => ?_) (fun z => ?_)
      · replace h := h.1 z
        refine um_iload_n (pc2 := 25) d_Mo_row_II_24 rfl rfl ?_
        refine um_if_lt (pc2 := 28) (tgt := 33) d_Mo_row_II_25 rfl rfl (fun z => ?_) (fun z => ?_)
        · replace h := h.1 z
          refine um_iconst (pc2 := 34) (v := 2) d_Mo_row_II_33 rfl (by decide) ?_
          refine um_goto (tgt := 38) d_Mo_row_II_34 rfl ?_
          refine um_putI (pc2 := 41) d_Mo_row_II_38 rfl fw_Mo_125 rfl rfl (um_gen (fun σ3 eσ3 => ?_))
          replace h := h σ3 eσ3
          refine um_forget [true, true, true] rfl ?_
          exact b_Mo_row_II_41 h
        · replace h := h.2 z
          refine um_iload_n (pc2 := 29) d_Mo_row_II_28 rfl rfl ?_
          refine um_iconst (pc2 := 30) (v := 4) d_Mo_row_II_29 rfl (by decide) ?_
          refine um_icmp_le (pc2 := 33) (tgt := 37) d_Mo_row_II_30 rfl rfl (fun z => ?_) (fun z => ?_)
          · replace h := h.1 z
            refine um_iconst (pc2 := 38) (v := 0) d_Mo_row_II_37 rfl (by decide) ?_
            refine um_putI (pc2 := 41) d_Mo_row_II_38 rfl fw_Mo_125 rfl rfl (um_gen (fun σ4 eσ4 => ?_))
            replace h := h σ4 eσ4
            refine um_forget [true, true, true] rfl ?_
            exact b_Mo_row_II_41 h
          · replace h := h.2 z
            refine um_iconst (pc2 := 34) (v := 2) d_Mo_row_II_33 rfl (by decide) ?_
            refine um_goto (tgt := 38) d_Mo_row_II_34 rfl ?_
            refine um_putI (pc2 := 41) d_Mo_row_II_38 rfl fw_Mo_125 rfl rfl (um_gen (fun σ5 eσ5 => ?_))
            replace h := h σ5 eσ5
            refine um_forget [true, true, true] rfl ?_
            exact b_Mo_row_II_41 h
      · replace h := h.2 z
        refine um_iconst (pc2 := 21) (v := 1) d_Mo_row_II_20 rfl (by decide) ?_
        refine um_goto (tgt := 38) d_Mo_row_II_21 rfl ?_
        refine um_putI (pc2 := 41) d_Mo_row_II_38 rfl fw_Mo_125 rfl rfl (um_gen (fun σ6 eσ6 => ?_))
        replace h := h σ6 eσ6
        refine um_forget [true, true, true] rfl ?_
        exact b_Mo_row_II_41 h
def wp_Mo_push (a1 : Int32) (σ : um_S) (Q : um_S → Prop) : Prop :=
  vp_in ((σ 38 53) - 1) 12 ∧ vp_in ((200 * ((σ 38 53) - 1)) + (σ 73 ((σ 38 53) - 1).toNatClampNeg)) 2400 ∧ ∀ σ1 : um_S, σ1 = um_up σ 74 ((200 * ((σ 38 53) - 1)) + (σ 73 ((σ 38 53) - 1).toNatClampNeg)).toNatClampNeg a1 → vp_in ((σ1 38 53) - 1) 12 ∧ vp_in ((σ1 38 53) - 1) 12 ∧ ∀ σ2 : um_S, σ2 = um_up σ1 73 ((σ1 38 53) - 1).toNatClampNeg ((σ1 73 ((σ1 38 53) - 1).toNatClampNeg) + 1) → Q σ2
set_option maxHeartbeats 4000000 in
set_option maxRecDepth 100000 in
theorem c_Mo_push {a1 : Int32} {σ : um_S} {Q : um_S → Prop} (h : wp_Mo_push a1 σ Q) : um_Con um_cl um_AW um_L um_SX 0 0 M_Mo_push [.ref 38, .int a1] σ (um_Qv Q) := by
  refine um_con (by decide) (Nat.le_of_ble_eq_true rfl) (fun v hv => by simp only [List.mem_cons, List.not_mem_nil, or_false] at hv; rcases hv with rfl | rfl <;> rfl) ?_
  show um_Ev um_cl um_AW um_L um_SX M_Mo_push 0 0 0 [some (.ref 38), some (.int a1)] [] σ (um_Qv Q)
  unfold wp_Mo_push at h
  refine um_aload_n (pc2 := 1) d_Mo_push_0 rfl rfl ?_
  refine um_getR (pc2 := 4) d_Mo_push_1 rfl f_Mo_119 rfl rfl ?_
  refine um_sipush (pc2 := 7) (v := 200) d_Mo_push_4 rfl (by decide) ?_
  refine um_aload_n (pc2 := 8) d_Mo_push_7 rfl rfl ?_
  refine um_getI (pc2 := 11) d_Mo_push_8 rfl f_Mo_275 rfl rfl ?_
  refine um_iconst (pc2 := 12) (v := 1) d_Mo_push_11 rfl (by decide) ?_
  refine um_isub (pc2 := 13) d_Mo_push_12 rfl ?_
  refine um_imul (pc2 := 14) d_Mo_push_13 rfl ?_
  refine um_aload_n (pc2 := 15) d_Mo_push_14 rfl rfl ?_
  refine um_getR (pc2 := 18) d_Mo_push_15 rfl f_Mo_116 rfl rfl ?_
  refine um_aload_n (pc2 := 19) d_Mo_push_18 rfl rfl ?_
  refine um_getI (pc2 := 22) d_Mo_push_19 rfl f_Mo_275 rfl rfl ?_
  refine um_iconst (pc2 := 23) (v := 1) d_Mo_push_22 rfl (by decide) ?_
  refine um_isub (pc2 := 24) d_Mo_push_23 rfl ?_
  refine um_iald (pc2 := 25) d_Mo_push_24 rfl rfl h.1 rfl ?_
  replace h := h.2
  refine um_iadd (pc2 := 26) d_Mo_push_25 rfl ?_
  refine um_iload_n (pc2 := 27) d_Mo_push_26 rfl rfl ?_
  refine um_iast (pc2 := 28) d_Mo_push_27 rfl rfl h.1 rfl (um_gen (fun σ1 eσ1 => ?_))
  replace h := h.2 σ1 eσ1
  refine um_aload_n (pc2 := 29) d_Mo_push_28 rfl rfl ?_
  refine um_getR (pc2 := 32) d_Mo_push_29 rfl f_Mo_116 rfl rfl ?_
  refine um_aload_n (pc2 := 33) d_Mo_push_32 rfl rfl ?_
  refine um_getI (pc2 := 36) d_Mo_push_33 rfl f_Mo_275 rfl rfl ?_
  refine um_iconst (pc2 := 37) (v := 1) d_Mo_push_36 rfl (by decide) ?_
  refine um_isub (pc2 := 38) d_Mo_push_37 rfl ?_
  refine um_dup2 (pc2 := 39) d_Mo_push_38 rfl rfl rfl ?_
  refine um_iald (pc2 := 40) d_Mo_push_39 rfl rfl h.1 rfl ?_
  replace h := h.2
  refine um_iconst (pc2 := 41) (v := 1) d_Mo_push_40 rfl (by decide) ?_
  refine um_iadd (pc2 := 42) d_Mo_push_41 rfl ?_
  refine um_iast (pc2 := 43) d_Mo_push_42 rfl rfl h.1 rfl (um_gen (fun σ2 eσ2 => ?_))
  replace h := h.2 σ2 eσ2
  exact um_vret d_Mo_push_43 rfl ⟨rfl, h⟩
def wp_Mo_pop (σ : um_S) (Q : Int32 → um_S → Prop) : Prop :=
  vp_in ((σ 38 53) - 1) 12 ∧ vp_in ((σ 38 53) - 1) 12 ∧ ∀ σ1 : um_S, σ1 = um_up σ 73 ((σ 38 53) - 1).toNatClampNeg ((σ 73 ((σ 38 53) - 1).toNatClampNeg) - 1) → vp_in ((σ1 38 53) - 1) 12 ∧ vp_in ((200 * ((σ1 38 53) - 1)) + (σ1 73 ((σ1 38 53) - 1).toNatClampNeg)) 2400 ∧ Q (σ1 74 ((200 * ((σ1 38 53) - 1)) + (σ1 73 ((σ1 38 53) - 1).toNatClampNeg)).toNatClampNeg) σ1
set_option maxHeartbeats 4000000 in
set_option maxRecDepth 100000 in
theorem c_Mo_pop {σ : um_S} {Q : Int32 → um_S → Prop} (h : wp_Mo_pop σ Q) : um_Con um_cl um_AW um_L um_SX 0 0 M_Mo_pop [.ref 38] σ (um_Qi Q) := by
  refine um_con (by decide) (Nat.le_of_ble_eq_true rfl) (fun v hv => by simp only [List.mem_cons, List.not_mem_nil, or_false] at hv; rcases hv with rfl <;> rfl) ?_
  show um_Ev um_cl um_AW um_L um_SX M_Mo_pop 0 0 0 [some (.ref 38)] [] σ (um_Qi Q)
  unfold wp_Mo_pop at h
  refine um_aload_n (pc2 := 1) d_Mo_pop_0 rfl rfl ?_
  refine um_getR (pc2 := 4) d_Mo_pop_1 rfl f_Mo_116 rfl rfl ?_
  refine um_aload_n (pc2 := 5) d_Mo_pop_4 rfl rfl ?_
  refine um_getI (pc2 := 8) d_Mo_pop_5 rfl f_Mo_275 rfl rfl ?_
  refine um_iconst (pc2 := 9) (v := 1) d_Mo_pop_8 rfl (by decide) ?_
  refine um_isub (pc2 := 10) d_Mo_pop_9 rfl ?_
  refine um_dup2 (pc2 := 11) d_Mo_pop_10 rfl rfl rfl ?_
  refine um_iald (pc2 := 12) d_Mo_pop_11 rfl rfl h.1 rfl ?_
  replace h := h.2
  refine um_iconst (pc2 := 13) (v := 1) d_Mo_pop_12 rfl (by decide) ?_
  refine um_isub (pc2 := 14) d_Mo_pop_13 rfl ?_
  refine um_iast (pc2 := 15) d_Mo_pop_14 rfl rfl h.1 rfl (um_gen (fun σ1 eσ1 => ?_))
  replace h := h.2 σ1 eσ1
  refine um_aload_n (pc2 := 16) d_Mo_pop_15 rfl rfl ?_
  refine um_getR (pc2 := 19) d_Mo_pop_16 rfl f_Mo_119 rfl rfl ?_
  refine um_sipush (pc2 := 22) (v := 200) d_Mo_pop_19 rfl (by decide) ?_
  refine um_aload_n (pc2 := 23) d_Mo_pop_22 rfl rfl ?_
  refine um_getI (pc2 := 26) d_Mo_pop_23 rfl f_Mo_275 rfl rfl ?_
  refine um_iconst (pc2 := 27) (v := 1) d_Mo_pop_26 rfl (by decide) ?_
  refine um_isub (pc2 := 28) d_Mo_pop_27 rfl ?_
  refine um_imul (pc2 := 29) d_Mo_pop_28 rfl ?_
  refine um_aload_n (pc2 := 30) d_Mo_pop_29 rfl rfl ?_
  refine um_getR (pc2 := 33) d_Mo_pop_30 rfl f_Mo_116 rfl rfl ?_
  refine um_aload_n (pc2 := 34) d_Mo_pop_33 rfl rfl ?_
  refine um_getI (pc2 := 37) d_Mo_pop_34 rfl f_Mo_275 rfl rfl ?_
  refine um_iconst (pc2 := 38) (v := 1) d_Mo_pop_37 rfl (by decide) ?_
  refine um_isub (pc2 := 39) d_Mo_pop_38 rfl ?_
  refine um_iald (pc2 := 40) d_Mo_pop_39 rfl rfl h.1 rfl ?_
  replace h := h.2
  refine um_iadd (pc2 := 41) d_Mo_pop_40 rfl ?_
  refine um_iald (pc2 := 42) d_Mo_pop_41 rfl rfl h.1 rfl ?_
  replace h := h.2
  exact um_iret d_Mo_pop_42 rfl ⟨_, rfl, h⟩
def wp_Mo_throwing_31 (Q : um_S → Prop) (K10 : Int32 → um_S → Prop) : Nat → Int32 → Int32 → Int32 → um_S → Prop
  | 0, _, _, _, _ => False
  | n + 1, v1, v2, v3, σ =>
    ((σ 38 14) ≤ v3 → ∀ σ1 : um_S, σ1 = um_up σ 38 53 ((σ 38 53) - 1) → K10 v1 σ1) ∧ (¬ (σ 38 14) ≤ v3 → vp_in v3 300 ∧ (v2 < (σ 49 v3.toNatClampNeg) → wp_Mo_throwing_31 Q K10 n v1 v2 (v3 + 1) σ) ∧ (¬ v2 < (σ 49 v3.toNatClampNeg) → vp_in v3 300 ∧ ((σ 50 v3.toNatClampNeg) ≤ v2 → wp_Mo_throwing_31 Q K10 n v1 v2 (v3 + 1) σ) ∧ (¬ (σ 50 v3.toNatClampNeg) ≤ v2 → vp_in v3 300 ∧ (v1 < (σ 52 v3.toNatClampNeg) → wp_Mo_throwing_31 Q K10 n v1 v2 (v3 + 1) σ) ∧ (¬ v1 < (σ 52 v3.toNatClampNeg) → vp_in v3 300 ∧ ((σ 53 v3.toNatClampNeg) < v1 → wp_Mo_throwing_31 Q K10 n v1 v2 (v3 + 1) σ) ∧ (¬ (σ 53 v3.toNatClampNeg) < v1 → vp_in ((σ 38 53) - 1) 12 ∧ ∀ σ2 : um_S, σ2 = um_up σ 73 ((σ 38 53) - 1).toNatClampNeg 0 → wp_Mo_push v1 σ2 (fun σ3 => vp_in v3 300 ∧ vp_in ((σ3 38 53) - 1) 12 ∧ ∀ σ4 : um_S, σ4 = um_up σ3 72 ((σ3 38 53) - 1).toNatClampNeg (σ3 51 v3.toNatClampNeg) → Q σ4))))))
def wp_Mo_throwing_10 (Q : um_S → Prop) : Nat → Int32 → um_S → Prop
  | 0, _, _ => False
  | n + 1, v1, σ =>
    ((σ 38 53) ≤ 0 → ∀ σ1 : um_S, σ1 = um_up σ 38 46 2 → ∀ σ2 : um_S, σ2 = um_up σ1 38 47 v1 → Q σ2) ∧ (¬ (σ 38 53) ≤ 0 → vp_in ((σ 38 53) - 1) 12 ∧ ∀ x3 : Int32, x3 = (σ 72 ((σ 38 53) - 1).toNatClampNeg) → wp_Mo_throwing_31 Q (fun v1 σ => wp_Mo_throwing_10 Q n v1 σ) 100000 v1 x3 0 σ)
def wp_Mo_throwing (a1 : Int32) (σ : um_S) (Q : um_S → Prop) : Prop :=
  ∀ σ1 : um_S, σ1 = um_up σ 38 51 ((σ 38 51) + 1) → wp_Mo_throwing_10 Q 100000 a1 σ1
set_option maxHeartbeats 4000000 in
set_option maxRecDepth 100000 in
theorem b_Mo_throwing_31 {Q : um_S → Prop} {K10 : Int32 → um_S → Prop} (hK10 : ∀ (v1 : Int32) (σ : um_S), K10 v1 σ → um_Ev um_cl um_AW um_L um_SX M_Mo_throwing 1 21 10 [some (.ref 38), some (.int v1), none, none] [] σ (um_Qv Q)) (n : Nat) : ∀ (v1 : Int32) (v2 : Int32) (v3 : Int32) (σ : um_S), wp_Mo_throwing_31 Q K10 n v1 v2 v3 σ → um_Ev um_cl um_AW um_L um_SX M_Mo_throwing 1 21 31 [some (.ref 38), some (.int v1), some (.int v2), some (.int v3)] [] σ (um_Qv Q) := by
  induction n with
  | zero =>
    intro v1 v2 v3 σ h
    exact h.elim
  | succ n ih =>
    intro v1 v2 v3 σ h
    unfold wp_Mo_throwing_31 at h
    refine um_iload_n (pc2 := 32) d_Mo_throwing_31 rfl rfl ?_
    refine um_aload_n (pc2 := 33) d_Mo_throwing_32 rfl rfl ?_
    refine um_getI (pc2 := 36) d_Mo_throwing_33 rfl f_Mo_244 rfl rfl ?_
    refine um_icmp_ge (pc2 := 39) (tgt := 120) d_Mo_throwing_36 rfl rfl (fun z => ?_) (fun z => ?_)
    · replace h := h.1 z
      refine um_aload_n (pc2 := 121) d_Mo_throwing_120 rfl rfl ?_
      refine um_dup (pc2 := 122) d_Mo_throwing_121 rfl rfl ?_
      refine um_getI (pc2 := 125) d_Mo_throwing_122 rfl f_Mo_275 rfl rfl ?_
      refine um_iconst (pc2 := 126) (v := 1) d_Mo_throwing_125 rfl (by decide) ?_
      refine um_isub (pc2 := 127) d_Mo_throwing_126 rfl ?_
      refine um_putI (pc2 := 130) d_Mo_throwing_127 rfl fw_Mo_275 rfl rfl (um_gen (fun σ1 eσ1 => ?_))
      replace h := h σ1 eσ1
      refine um_goto (tgt := 10) d_Mo_throwing_130 rfl ?_
      refine um_forget [true, true, false, false] rfl ?_
      exact hK10 _ _ h
    · replace h := h.2 z
      refine um_iload_n (pc2 := 40) d_Mo_throwing_39 rfl rfl ?_
      refine um_aload_n (pc2 := 41) d_Mo_throwing_40 rfl rfl ?_
      refine um_getR (pc2 := 44) d_Mo_throwing_41 rfl f_Mo_40 rfl rfl ?_
      refine um_iload_n (pc2 := 45) d_Mo_throwing_44 rfl rfl ?_
      refine um_iald (pc2 := 46) d_Mo_throwing_45 rfl rfl h.1 rfl ?_
      replace h := h.2
      refine um_icmp_lt (pc2 := 49) (tgt := 114) d_Mo_throwing_46 rfl rfl (fun z => ?_) (fun z => ?_)
      · replace h := h.1 z
        refine um_iinc (pc2 := 117) (v := (v3 + 1)) (ls2 := [some (.ref 38), some (.int v1), some (.int v2), some (.int (v3 + 1))]) d_Mo_throwing_114 rfl rfl rfl (Nat.le_of_ble_eq_true rfl) rfl ?_
        refine um_goto (tgt := 31) d_Mo_throwing_117 rfl ?_
        refine um_forget [true, true, true, true] rfl ?_
        exact ih _ _ _ _ h
      · replace h := h.2 z
        refine um_iload_n (pc2 := 50) d_Mo_throwing_49 rfl rfl ?_
        refine um_aload_n (pc2 := 51) d_Mo_throwing_50 rfl rfl ?_
        refine um_getR (pc2 := 54) d_Mo_throwing_51 rfl f_Mo_43 rfl rfl ?_
        refine um_iload_n (pc2 := 55) d_Mo_throwing_54 rfl rfl ?_
        refine um_iald (pc2 := 56) d_Mo_throwing_55 rfl rfl h.1 rfl ?_
        replace h := h.2
        refine um_icmp_ge (pc2 := 59) (tgt := 114) d_Mo_throwing_56 rfl rfl (fun z => ?_) (fun z => ?_)
        · replace h := h.1 z
          refine um_iinc (pc2 := 117) (v := (v3 + 1)) (ls2 := [some (.ref 38), some (.int v1), some (.int v2), some (.int (v3 + 1))]) d_Mo_throwing_114 rfl rfl rfl (Nat.le_of_ble_eq_true rfl) rfl ?_
          refine um_goto (tgt := 31) d_Mo_throwing_117 rfl ?_
          refine um_forget [true, true, true, true] rfl ?_
          exact ih _ _ _ _ h
        · replace h := h.2 z
          refine um_iload_n (pc2 := 60) d_Mo_throwing_59 rfl rfl ?_
          refine um_aload_n (pc2 := 61) d_Mo_throwing_60 rfl rfl ?_
          refine um_getR (pc2 := 64) d_Mo_throwing_61 rfl f_Mo_49 rfl rfl ?_
          refine um_iload_n (pc2 := 65) d_Mo_throwing_64 rfl rfl ?_
          refine um_iald (pc2 := 66) d_Mo_throwing_65 rfl rfl h.1 rfl ?_
          replace h := h.2
          refine um_icmp_lt (pc2 := 69) (tgt := 114) d_Mo_throwing_66 rfl rfl (fun z => ?_) (fun z => ?_)
          · replace h := h.1 z
            refine um_iinc (pc2 := 117) (v := (v3 + 1)) (ls2 := [some (.ref 38), some (.int v1), some (.int v2), some (.int (v3 + 1))]) d_Mo_throwing_114 rfl rfl rfl (Nat.le_of_ble_eq_true rfl) rfl ?_
            refine um_goto (tgt := 31) d_Mo_throwing_117 rfl ?_
            refine um_forget [true, true, true, true] rfl ?_
            exact ih _ _ _ _ h
          · replace h := h.2 z
            refine um_iload_n (pc2 := 70) d_Mo_throwing_69 rfl rfl ?_
            refine um_aload_n (pc2 := 71) d_Mo_throwing_70 rfl rfl ?_
            refine um_getR (pc2 := 74) d_Mo_throwing_71 rfl f_Mo_52 rfl rfl ?_
            refine um_iload_n (pc2 := 75) d_Mo_throwing_74 rfl rfl ?_
            refine um_iald (pc2 := 76) d_Mo_throwing_75 rfl rfl h.1 rfl ?_
            replace h := h.2
            refine um_icmp_gt (pc2 := 79) (tgt := 114) d_Mo_throwing_76 rfl rfl (fun z => ?_) (fun z => ?_)
            · replace h := h.1 z
              refine um_iinc (pc2 := 117) (v := (v3 + 1)) (ls2 := [some (.ref 38), some (.int v1), some (.int v2), some (.int (v3 + 1))]) d_Mo_throwing_114 rfl rfl rfl (Nat.le_of_ble_eq_true rfl) rfl ?_
              refine um_goto (tgt := 31) d_Mo_throwing_117 rfl ?_
              refine um_forget [true, true, true, true] rfl ?_
              exact ih _ _ _ _ h
            · replace h := h.2 z
              refine um_aload_n (pc2 := 80) d_Mo_throwing_79 rfl rfl ?_
              refine um_getR (pc2 := 83) d_Mo_throwing_80 rfl f_Mo_116 rfl rfl ?_
              refine um_aload_n (pc2 := 84) d_Mo_throwing_83 rfl rfl ?_
              refine um_getI (pc2 := 87) d_Mo_throwing_84 rfl f_Mo_275 rfl rfl ?_
              refine um_iconst (pc2 := 88) (v := 1) d_Mo_throwing_87 rfl (by decide) ?_
              refine um_isub (pc2 := 89) d_Mo_throwing_88 rfl ?_
              refine um_iconst (pc2 := 90) (v := 0) d_Mo_throwing_89 rfl (by decide) ?_
              refine um_iast (pc2 := 91) d_Mo_throwing_90 rfl rfl h.1 rfl (um_gen (fun σ2 eσ2 => ?_))
              replace h := h.2 σ2 eσ2
              refine um_aload_n (pc2 := 92) d_Mo_throwing_91 rfl rfl ?_
              refine um_iload_n (pc2 := 93) d_Mo_throwing_92 rfl rfl ?_
              refine um_callV1v (pc2 := 96) d_Mo_throwing_93 rfl g_Mo_281 rfl (Nat.le_of_ble_eq_true rfl) (Nat.le_of_ble_eq_true rfl) (Nat.le_of_ble_eq_true rfl) (c_Mo_push h) (fun σ3 h => ?_)
              refine um_aload_n (pc2 := 97) d_Mo_throwing_96 rfl rfl ?_
              refine um_getR (pc2 := 100) d_Mo_throwing_97 rfl f_Mo_113 rfl rfl ?_
              refine um_aload_n (pc2 := 101) d_Mo_throwing_100 rfl rfl ?_
              refine um_getI (pc2 := 104) d_Mo_throwing_101 rfl f_Mo_275 rfl rfl ?_
              refine um_iconst (pc2 := 105) (v := 1) d_Mo_throwing_104 rfl (by decide) ?_
              refine um_isub (pc2 := 106) d_Mo_throwing_105 rfl ?_
              refine um_aload_n (pc2 := 107) d_Mo_throwing_106 rfl rfl ?_
              refine um_getR (pc2 := 110) d_Mo_throwing_107 rfl f_Mo_46 rfl rfl ?_
              refine um_iload_n (pc2 := 111) d_Mo_throwing_110 rfl rfl ?_
              refine um_iald (pc2 := 112) d_Mo_throwing_111 rfl rfl h.1 rfl ?_
              replace h := h.2
              refine um_iast (pc2 := 113) d_Mo_throwing_112 rfl rfl h.1 rfl (um_gen (fun σ4 eσ4 => ?_))
              replace h := h.2 σ4 eσ4
              exact um_vret d_Mo_throwing_113 rfl ⟨rfl, h⟩
set_option maxHeartbeats 4000000 in
set_option maxRecDepth 100000 in
theorem b_Mo_throwing_10 {Q : um_S → Prop} (n : Nat) : ∀ (v1 : Int32) (σ : um_S), wp_Mo_throwing_10 Q n v1 σ → um_Ev um_cl um_AW um_L um_SX M_Mo_throwing 1 21 10 [some (.ref 38), some (.int v1), none, none] [] σ (um_Qv Q) := by
  induction n with
  | zero =>
    intro v1 σ h
    exact h.elim
  | succ n ih =>
    intro v1 σ h
    unfold wp_Mo_throwing_10 at h
    refine um_aload_n (pc2 := 11) d_Mo_throwing_10 rfl rfl ?_
    refine um_getI (pc2 := 14) d_Mo_throwing_11 rfl f_Mo_275 rfl rfl ?_
    refine um_if_le (pc2 := 17) (tgt := 133) d_Mo_throwing_14 rfl rfl (fun z => ?_) (fun z => ?_)
    · replace h := h.1 z
      refine um_aload_n (pc2 := 134) d_Mo_throwing_133 rfl rfl ?_
      refine um_iconst (pc2 := 135) (v := 2) d_Mo_throwing_134 rfl (by decide) ?_
      refine um_putI (pc2 := 138) d_Mo_throwing_135 rfl fw_Mo_106 rfl rfl (um_gen (fun σ1 eσ1 => ?_))
      replace h := h σ1 eσ1
      refine um_aload_n (pc2 := 139) d_Mo_throwing_138 rfl rfl ?_
      refine um_iload_n (pc2 := 140) d_Mo_throwing_139 rfl rfl ?_
      refine um_putI (pc2 := 143) d_Mo_throwing_140 rfl fw_Mo_284 rfl rfl (um_gen (fun σ2 eσ2 => ?_))
      replace h := h σ2 eσ2
      exact um_vret d_Mo_throwing_143 rfl ⟨rfl, h⟩
    · replace h := h.2 z
      refine um_aload_n (pc2 := 18) d_Mo_throwing_17 rfl rfl ?_
      refine um_getR (pc2 := 21) d_Mo_throwing_18 rfl f_Mo_113 rfl rfl ?_
      refine um_aload_n (pc2 := 22) d_Mo_throwing_21 rfl rfl ?_
      refine um_getI (pc2 := 25) d_Mo_throwing_22 rfl f_Mo_275 rfl rfl ?_
      refine um_iconst (pc2 := 26) (v := 1) d_Mo_throwing_25 rfl (by decide) ?_
      refine um_isub (pc2 := 27) d_Mo_throwing_26 rfl ?_
      refine um_iald (pc2 := 28) d_Mo_throwing_27 rfl rfl h.1 rfl ?_
      replace h := h.2
      refine um_top (fun x3 ex3 => ?_)
      replace h := h x3 ex3
      refine um_istore_n (pc2 := 29) (ls2 := [some (.ref 38), some (.int v1), some (.int x3), none]) d_Mo_throwing_28 rfl (Nat.le_of_ble_eq_true rfl) rfl ?_
      refine um_iconst (pc2 := 30) (v := 0) d_Mo_throwing_29 rfl (by decide) ?_
      refine um_istore_n (pc2 := 31) (ls2 := [some (.ref 38), some (.int v1), some (.int x3), some (.int 0)]) d_Mo_throwing_30 rfl (Nat.le_of_ble_eq_true rfl) rfl ?_
      refine um_forget [true, true, true, true] rfl ?_
      exact b_Mo_throwing_31 (fun _ _ z => ih _ _ z) _ _ _ _ _ h
set_option maxHeartbeats 4000000 in
set_option maxRecDepth 100000 in
theorem c_Mo_throwing {a1 : Int32} {σ : um_S} {Q : um_S → Prop} (h : wp_Mo_throwing a1 σ Q) : um_Con um_cl um_AW um_L um_SX 1 21 M_Mo_throwing [.ref 38, .int a1] σ (um_Qv Q) := by
  refine um_con (by decide) (Nat.le_of_ble_eq_true rfl) (fun v hv => by simp only [List.mem_cons, List.not_mem_nil, or_false] at hv; rcases hv with rfl | rfl <;> rfl) ?_
  show um_Ev um_cl um_AW um_L um_SX M_Mo_throwing 1 21 0 [some (.ref 38), some (.int a1), none, none] [] σ (um_Qv Q)
  unfold wp_Mo_throwing at h
  refine um_aload_n (pc2 := 1) d_Mo_throwing_0 rfl rfl ?_
  refine um_dup (pc2 := 2) d_Mo_throwing_1 rfl rfl ?_
  refine um_getI (pc2 := 5) d_Mo_throwing_2 rfl f_Mo_278 rfl rfl ?_
  refine um_iconst (pc2 := 6) (v := 1) d_Mo_throwing_5 rfl (by decide) ?_
  refine um_iadd (pc2 := 7) d_Mo_throwing_6 rfl ?_
  refine um_putI (pc2 := 10) d_Mo_throwing_7 rfl fw_Mo_278 rfl rfl (um_gen (fun σ1 eσ1 => ?_))
  replace h := h σ1 eσ1
  refine um_forget [true, true, false, false] rfl ?_
  exact b_Mo_throwing_10 _ _ _ h
def wp_Mo_calls (a1 : Int32) (σ : um_S) (Q : um_S → Prop) : Prop :=
  (¬ (σ 38 53) = 12 → vp_in a1 6 ∧ vp_in (σ 38 53) 12 ∧ ∀ σ1 : um_S, σ1 = um_up σ 72 (σ 38 53).toNatClampNeg (σ 54 a1.toNatClampNeg) → vp_in (σ1 38 53) 12 ∧ ∀ σ2 : um_S, σ2 = um_up σ1 73 (σ1 38 53).toNatClampNeg 0 → ∀ σ3 : um_S, σ3 = um_up σ2 38 53 ((σ2 38 53) + 1) → ((σ3 38 53) ≤ (σ3 38 52) → ∀ σ4 : um_S, σ4 = um_up σ3 38 52 (σ3 38 52) → Q σ4) ∧ (¬ (σ3 38 53) ≤ (σ3 38 52) → ∀ σ5 : um_S, σ5 = um_up σ3 38 52 (σ3 38 53) → Q σ5)) ∧ ((σ 38 53) = 12 → wp_Mo_throwing 3 σ (fun σ6 => Q σ6))
set_option maxHeartbeats 4000000 in
set_option maxRecDepth 100000 in
theorem c_Mo_calls {a1 : Int32} {σ : um_S} {Q : um_S → Prop} (h : wp_Mo_calls a1 σ Q) : um_Con um_cl um_AW um_L um_SX 2 44 M_Mo_calls [.ref 38, .int a1] σ (um_Qv Q) := by
  refine um_con (by decide) (Nat.le_of_ble_eq_true rfl) (fun v hv => by simp only [List.mem_cons, List.not_mem_nil, or_false] at hv; rcases hv with rfl | rfl <;> rfl) ?_
  show um_Ev um_cl um_AW um_L um_SX M_Mo_calls 2 44 0 [some (.ref 38), some (.int a1)] [] σ (um_Qv Q)
  unfold wp_Mo_calls at h
  refine um_aload_n (pc2 := 1) d_Mo_calls_0 rfl rfl ?_
  refine um_getI (pc2 := 4) d_Mo_calls_1 rfl f_Mo_275 rfl rfl ?_
  refine um_bipush (pc2 := 6) (v := 12) d_Mo_calls_4 rfl (by decide) ?_
  refine um_icmp_ne (pc2 := 9) (tgt := 15) d_Mo_calls_6 rfl rfl (fun z => ?_) (fun z => ?_)
  · replace h := h.1 z
    refine um_aload_n (pc2 := 16) d_Mo_calls_15 rfl rfl ?_
    refine um_getR (pc2 := 19) d_Mo_calls_16 rfl f_Mo_113 rfl rfl ?_
    refine um_aload_n (pc2 := 20) d_Mo_calls_19 rfl rfl ?_
    refine um_getI (pc2 := 23) d_Mo_calls_20 rfl f_Mo_275 rfl rfl ?_
    refine um_aload_n (pc2 := 24) d_Mo_calls_23 rfl rfl ?_
    refine um_getR (pc2 := 27) d_Mo_calls_24 rfl f_Mo_55 rfl rfl ?_
    refine um_iload_n (pc2 := 28) d_Mo_calls_27 rfl rfl ?_
    refine um_iald (pc2 := 29) d_Mo_calls_28 rfl rfl h.1 rfl ?_
    replace h := h.2
    refine um_iast (pc2 := 30) d_Mo_calls_29 rfl rfl h.1 rfl (um_gen (fun σ1 eσ1 => ?_))
    replace h := h.2 σ1 eσ1
    refine um_aload_n (pc2 := 31) d_Mo_calls_30 rfl rfl ?_
    refine um_getR (pc2 := 34) d_Mo_calls_31 rfl f_Mo_116 rfl rfl ?_
    refine um_aload_n (pc2 := 35) d_Mo_calls_34 rfl rfl ?_
    refine um_getI (pc2 := 38) d_Mo_calls_35 rfl f_Mo_275 rfl rfl ?_
    refine um_iconst (pc2 := 39) (v := 0) d_Mo_calls_38 rfl (by decide) ?_
    refine um_iast (pc2 := 40) d_Mo_calls_39 rfl rfl h.1 rfl (um_gen (fun σ2 eσ2 => ?_))
    replace h := h.2 σ2 eσ2
    refine um_aload_n (pc2 := 41) d_Mo_calls_40 rfl rfl ?_
    refine um_dup (pc2 := 42) d_Mo_calls_41 rfl rfl ?_
    refine um_getI (pc2 := 45) d_Mo_calls_42 rfl f_Mo_275 rfl rfl ?_
    refine um_iconst (pc2 := 46) (v := 1) d_Mo_calls_45 rfl (by decide) ?_
    refine um_iadd (pc2 := 47) d_Mo_calls_46 rfl ?_
    refine um_putI (pc2 := 50) d_Mo_calls_47 rfl fw_Mo_275 rfl rfl (um_gen (fun σ3 eσ3 => ?_))
    replace h := h σ3 eσ3
    refine um_aload_n (pc2 := 51) d_Mo_calls_50 rfl rfl ?_
    refine um_aload_n (pc2 := 52) d_Mo_calls_51 rfl rfl ?_
    refine um_getI (pc2 := 55) d_Mo_calls_52 rfl f_Mo_275 rfl rfl ?_
    refine um_aload_n (pc2 := 56) d_Mo_calls_55 rfl rfl ?_
    refine um_getI (pc2 := 59) d_Mo_calls_56 rfl f_Mo_298 rfl rfl ?_
    refine um_icmp_le (pc2 := 62) (tgt := 69) d_Mo_calls_59 rfl rfl (fun z => ?_) (fun z => ?_)
    · replace h := h.1 z
      refine um_aload_n (pc2 := 70) d_Mo_calls_69 rfl rfl ?_
      refine um_getI (pc2 := 73) d_Mo_calls_70 rfl f_Mo_298 rfl rfl ?_
      refine um_putI (pc2 := 76) d_Mo_calls_73 rfl fw_Mo_298 rfl rfl (um_gen (fun σ4 eσ4 => ?_))
      replace h := h σ4 eσ4
      exact um_vret d_Mo_calls_76 rfl ⟨rfl, h⟩
    · replace h := h.2 z
      refine um_aload_n (pc2 := 63) d_Mo_calls_62 rfl rfl ?_
      refine um_getI (pc2 := 66) d_Mo_calls_63 rfl f_Mo_275 rfl rfl ?_
      refine um_goto (tgt := 73) d_Mo_calls_66 rfl ?_
      refine um_putI (pc2 := 76) d_Mo_calls_73 rfl fw_Mo_298 rfl rfl (um_gen (fun σ5 eσ5 => ?_))
      replace h := h σ5 eσ5
      exact um_vret d_Mo_calls_76 rfl ⟨rfl, h⟩
  · replace h := h.2 z
    refine um_aload_n (pc2 := 10) d_Mo_calls_9 rfl rfl ?_
    refine um_iconst (pc2 := 11) (v := 3) d_Mo_calls_10 rfl (by decide) ?_
    refine um_callV1v (pc2 := 14) d_Mo_calls_11 rfl g_Mo_291 rfl (Nat.le_of_ble_eq_true rfl) (Nat.le_of_ble_eq_true rfl) (Nat.le_of_ble_eq_true rfl) (c_Mo_throwing h) (fun σ6 h => ?_)
    exact um_vret d_Mo_calls_14 rfl ⟨rfl, h⟩
