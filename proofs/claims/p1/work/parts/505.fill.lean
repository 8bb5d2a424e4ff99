def um_LF : List um_E := [.inr 6]
def wp_Ar_fill_AII_0_5 (Q : um_S → Prop) : Nat → Int32 → Int32 → Int32 → um_S → Prop
  | 0, _, _, _, _ => False
  | n + 1, v1, v2, v3, σ =>
    (v3 ≤ v2 → Q σ) ∧ (¬ v3 ≤ v2 → vp_in v2 6 ∧ ∀ σ1 : um_S, σ1 = um_up σ 0 v2.toNatClampNeg v1 → wp_Ar_fill_AII_0_5 Q n v1 (v2 + 1) v3 σ1)
def wp_Ar_fill_AII_0 (a1 : Int32) (σ : um_S) (Q : um_S → Prop) : Prop :=
  wp_Ar_fill_AII_0_5 Q 100000 a1 0 6 σ
set_option maxHeartbeats 4000000 in
set_option maxRecDepth 100000 in
theorem b_Ar_fill_AII_0_5 {Q : um_S → Prop} (n : Nat) : ∀ (v1 : Int32) (v2 : Int32) (v3 : Int32) (σ : um_S), wp_Ar_fill_AII_0_5 Q n v1 v2 v3 σ → um_Ev um_cl um_AW um_LF [] M_Ar_fill_AII 0 0 5 [some (.ref 0), some (.int v1), some (.int v2), some (.int v3)] [] σ (um_Qv Q) := by
  induction n with
  | zero =>
    intro v1 v2 v3 σ h
    exact h.elim
  | succ n ih =>
    intro v1 v2 v3 σ h
    unfold wp_Ar_fill_AII_0_5 at h
    refine um_iload_n (pc2 := 6) d_Ar_fill_AII_5 rfl rfl ?_
    refine um_iload_n (pc2 := 7) d_Ar_fill_AII_6 rfl rfl ?_
    refine um_icmp_ge (pc2 := 10) (tgt := 20) d_Ar_fill_AII_7 rfl rfl (fun z => ?_) (fun z => ?_)
    · replace h := h.1 z
      exact um_vret d_Ar_fill_AII_20 rfl ⟨rfl, h⟩
    · replace h := h.2 z
      refine um_aload_n (pc2 := 11) d_Ar_fill_AII_10 rfl rfl ?_
      refine um_iload_n (pc2 := 12) d_Ar_fill_AII_11 rfl rfl ?_
      refine um_iload_n (pc2 := 13) d_Ar_fill_AII_12 rfl rfl ?_
      refine um_iast (pc2 := 14) d_Ar_fill_AII_13 rfl rfl h.1 rfl (um_gen (fun σ1 eσ1 => ?_))
      replace h := h.2 σ1 eσ1
      refine um_iinc (pc2 := 17) (v := (v2 + 1)) (ls2 := [some (.ref 0), some (.int v1), some (.int (v2 + 1)), some (.int v3)]) d_Ar_fill_AII_14 rfl rfl rfl (Nat.le_of_ble_eq_true rfl) rfl ?_
      refine um_goto (tgt := 5) d_Ar_fill_AII_17 rfl ?_
      refine um_forget [true, true, true, true] rfl ?_
      exact ih _ _ _ _ h
set_option maxHeartbeats 4000000 in
set_option maxRecDepth 100000 in
theorem c_Ar_fill_AII_0 {a1 : Int32} {σ : um_S} {Q : um_S → Prop} (h : wp_Ar_fill_AII_0 a1 σ Q) : um_Con um_cl um_AW um_LF [] 0 0 M_Ar_fill_AII [.ref 0, .int a1] σ (um_Qv Q) := by
  refine um_con (by decide) (Nat.le_of_ble_eq_true rfl) (fun v hv => by simp only [List.mem_cons, List.not_mem_nil, or_false] at hv; rcases hv with rfl | rfl <;> rfl) ?_
  show um_Ev um_cl um_AW um_LF [] M_Ar_fill_AII 0 0 0 [some (.ref 0), some (.int a1), none, none] [] σ (um_Qv Q)
  unfold wp_Ar_fill_AII_0 at h
  refine um_iconst (pc2 := 1) (v := 0) d_Ar_fill_AII_0 rfl (by decide) ?_
  refine um_istore_n (pc2 := 2) (ls2 := [some (.ref 0), some (.int a1), some (.int 0), none]) d_Ar_fill_AII_1 rfl (Nat.le_of_ble_eq_true rfl) rfl ?_
  refine um_aload_n (pc2 := 3) d_Ar_fill_AII_2 rfl rfl ?_
  refine um_alen (pc2 := 4) d_Ar_fill_AII_3 rfl rfl ?_
  refine um_istore_n (pc2 := 5) (ls2 := [some (.ref 0), some (.int a1), some (.int 0), some (.int 6)]) d_Ar_fill_AII_4 rfl (Nat.le_of_ble_eq_true rfl) rfl ?_
  refine um_forget [true, true, true, true] rfl ?_
  exact b_Ar_fill_AII_0_5 _ _ _ _ _ h
theorem p_fill0 : wp_Ar_fill_AII_0 (-1) (fun _ _ => 0) (fun u => u = um_fill (fun _ _ => 0) 0 6 (-1)) := by
  have key : ∀ d i fu, i + d = 6 → d < fu → wp_Ar_fill_AII_0_5 (fun u => u = um_fill (fun _ _ => 0) 0 6 (-1)) fu (-1) (nI i) (nI 6) (um_fill (fun _ _ => 0) 0 i (-1)) := by
    intro d
    induction d with
    | zero =>
      intro i fu h1 h2
      obtain ⟨f, rfl⟩ : ∃ f, fu = f + 1 := ⟨fu - 1, by omega⟩
      have : i = 6 := by omega
      subst this
      unfold wp_Ar_fill_AII_0_5
      exact um_yes (Int32.le_refl _) rfl
    | succ d ih =>
      intro i fu h1 h2
      obtain ⟨f, rfl⟩ : ∃ f, fu = f + 1 := ⟨fu - 1, by omega⟩
      unfold wp_Ar_fill_AII_0_5
      rw [um_cl1 (by omega), um_fill_s, um_succ]
      exact um_no (nI_ge (by omega) (by decide)) ⟨vp_in_nI (by omega) (by decide), fun σ1 e => e ▸ ih (i + 1) f (by omega) (by omega)⟩
  have h0 := key 6 0 100000 (by omega) (by omega)
  rw [um_fill_0] at h0
  exact h0
