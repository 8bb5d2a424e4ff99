/-! lay: its start, and a function without a body -/
def lc_clear (c : um_S) : um_S := um_up (um_up (um_up (um_up c 2 5 0) 2 6 0) 2 7 0) 2 8 (-1)
def lc_start (c : um_S) (e : Bool) : um_S :=
  um_up (um_up (um_up (um_up (um_up (um_up (um_up (um_up (lc_clear c) 24 0 (-1)) 25 0 (-1)) 5 8 0) 5 9 1) 6 4 0) 7 3 0) 3 7 (if e then 1 else 0)) 3 8 0
def lm_start (m : um_S) (e : Bool) : um_S :=
  um_up (um_up (um_up (um_up (um_up (um_up (um_up (um_up (um_up (um_up (um_up (um_up m 38 0 0) 38 34 (if e then 1 else 0)) 38 9 0) 38 35 0) 38 36 0) 38 10 0) 38 14 0) 38 20 0) 38 21 (-1)) 38 23 0) 38 30 0) 38 32 0
section LayStart
variable {c m b : um_S} {n f : Nat} {e : Bool} {Q : um_S → Prop} {Qi : Int32 → um_S → Prop}
theorem p_clear (hq : Q (um_J (lc_clear c) b)) : wp_Co_clear (um_J c b) Q := by
  unfold wp_Co_clear
  rintro σ1 rfl σ2 rfl σ3 rfl σ4 rfl
  rw [um_J_uc (by decide), um_J_uc (by decide), um_J_uc (by decide), um_J_uc (by decide)]
  exact hq
theorem p_layDown (hq : wp_La_layDown_42 Qi 100000 0 (um_J (lc_start c e) b)) : wp_La_layDown e (um_J c b) Qi := by
  unfold wp_La_layDown
  refine p_clear ?_
  unfold wp_Sc_clear
  rintro σ1 rfl σ2 rfl σ3 rfl σ4 rfl σ5 rfl σ6 rfl σ7 rfl σ8 rfl
  rw [um_J_uc (by decide), um_J_uc (by decide), um_J_uc (by decide), um_J_uc (by decide), um_J_uc (by decide), um_J_uc (by decide), um_J_uc (by decide), um_J_uc (by decide)]
  exact hq
theorem p_Mlay (hq : wp_Mo_laysAll (um_J b (lm_start m e)) (fun σ => wp_Mo_lay_68 Qi 100000 150 σ)) : wp_Mo_lay e (um_J b m) Qi := by
  unfold wp_Mo_lay
  rintro σ1 rfl σ2 rfl σ3 rfl σ4 rfl σ5 rfl σ6 rfl σ7 rfl σ8 rfl σ9 rfl σ10 rfl σ11 rfl σ12 rfl
  rw [um_J_um (by decide), um_J_um (by decide), um_J_um (by decide), um_J_um (by decide), um_J_um (by decide), um_J_um (by decide), um_J_um (by decide), um_J_um (by decide), um_J_um (by decide), um_J_um (by decide), um_J_um (by decide), um_J_um (by decide)]
  exact hq
/-- a function without a body -/
def lc_fun0 (c : um_S) (f n : Nat) : um_S := lc_emit (um_up (um_up c 14 f (nI n)) 3 6 0) n 14 0 0
def lm_fun0 (m : um_S) (f n : Nat) : um_S := lm_put (um_up (um_up m 54 f (nI n)) 38 37 0) n 14 0 (-1)
theorem p_fun0 (hf : f < 6) (hv : c 3 8 = 0) (hn : c 2 5 = nI n) (hlt : n < 1000) (hb : c 10 f = -1) (hq : Q (um_J (lc_fun0 c f n) b)) : wp_La_layFunction (nI f) (um_J c b) Q := by
  have h3 : (nI f).toNatClampNeg = f := um_cl1 (by omega)
  unfold wp_La_layFunction
  rw [h3, um_J_c (q := 2) (by decide), hn]
  refine ⟨vp_in_nI hf (by decide), ?_⟩
  rintro σ1 rfl σ2 rfl
  rw [um_J_uc (by decide), um_J_uc (by decide)]
  refine ⟨vp_in_nI hf (by decide), ?_⟩
  rintro x3 rfl
  refine um_yes (by rw [um_J_c (by decide), um_up_q (by decide), um_up_q (by decide)]; exact hb) ?_
  unfold wp_La_layFunction_46
  refine p_emit (n := n) (by rw [um_up_ne (by decide), um_up_q (by decide)]; exact hv) (by rw [um_up_q (by decide), um_up_q (by decide)]; exact hn) hlt ?_
  have e1 : (um_J (lc_emit (um_up (um_up c 14 f (nI n)) 3 6 0) n 14 0 0) b) 3 6 = 0 := by
    rw [um_J_c (by decide)]
    unfold lc_emit
    rw [um_up_q (by decide), um_up_q (by decide), um_up_q (by decide), um_up_q (by decide), um_up_self]
  show wp_La_layFunction_56 Q (99999 + 1) 0 _
  unfold wp_La_layFunction_56
  exact um_no (by decide) (um_yes (by rw [e1]; decide) hq)
theorem p_Mfun0 {Q2 : um_S → Prop} {fuel : Nat} (hf : f < 6) (hv : m 38 35 = 0) (hi : m 38 36 = 0) (hn : m 38 10 = nI n) (hlt : n < 1000) (hb : m 45 f = -1) (hq : wp_Mo_laysAll_2 Q2 fuel (nI (f + 1)) (um_J b (lm_fun0 m f n))) : wp_Mo_laysAll_2 Q2 (fuel + 1) (nI f) (um_J b m) := by
  have h3 : (nI f).toNatClampNeg = f := um_cl1 (by omega)
  have h6 : ¬ (6 : Int32) ≤ nI f := by
    intro h
    have := (nI_leI (a := 6) (b := f) (by decide) (by omega)).mp h
    omega
  unfold wp_Mo_laysAll_2
  refine um_no h6 (um_yes' (by rw [um_J_m (by decide)]; exact hv) (um_yes' (by rw [um_J_m (by decide)]; exact hi) ⟨vp_in_nI hf (by decide), ?_⟩))
  rw [h3, um_J_m (q := 38) (by decide), hn]
  rintro σ1 rfl σ2 rfl x3 rfl
  rw [um_J_um (by decide), um_J_um (by decide)]
  refine ⟨vp_in_nI hf (by decide), um_yes (by rw [um_J_m (by decide), um_up_q (by decide), um_up_q (by decide)]; exact hb) ?_⟩
  have k37 : um_J b (um_up (um_up m 54 f (nI n)) 38 37 0) 38 37 = 0 := by rw [um_J_m (by decide), um_up_self]
  have k35 : um_J b (um_up (um_up m 54 f (nI n)) 38 37 0) 38 35 = 0 := by rw [um_J_m (by decide), um_up_ne (by decide), um_up_q (by decide)]; exact hv
  have k36 : um_J b (um_up (um_up m 54 f (nI n)) 38 37 0) 38 36 = 0 := by rw [um_J_m (by decide), um_up_ne (by decide), um_up_q (by decide)]; exact hi
  show wp_Mo_laysAll_67 Q2 _ (99998 + 1 + 1) _ _ _ _
  unfold wp_Mo_laysAll_67
  refine um_yes' k35 (um_yes' k36 (um_no (by rw [k37]; decide) (um_yes rfl ?_)))
  unfold wp_Mo_laysAll_100
  refine um_yes (by rw [k37]; decide) (um_yes' rfl ?_)
  refine p_put (n := n) (by rw [um_up_ne (by decide), um_up_q (by decide)]; exact hv) (by rw [um_up_ne (by decide), um_up_q (by decide)]; exact hn) hlt ?_
  have j : ∀ k, ¬ k = 10 → um_J b (lm_put (um_up (um_up m 54 f (nI n)) 38 37 0) n 14 0 (-1)) 38 k = um_J b (um_up (um_up m 54 f (nI n)) 38 37 0) 38 k := by
    intro k hk
    rw [um_J_m (by decide), um_J_m (by decide)]
    unfold lm_put
    rw [um_up_ne (by omega), um_up_q (by decide), um_up_q (by decide), um_up_q (by decide)]
  show wp_Mo_laysAll_67 Q2 _ (99998 + 1) _ _ _ _
  unfold wp_Mo_laysAll_67
  refine um_yes' (by rw [j _ (by decide)]; exact k35) (um_yes' (by rw [j _ (by decide)]; exact k36) (um_no (by rw [j _ (by decide), k37]; decide) (um_no (by decide) (um_yes (by rw [j _ (by decide)]; exact Int32.le_refl _) ?_))))
  rw [show nI f + 1 = nI (f + 1) from um_succ]
  exact hq
end LayStart
