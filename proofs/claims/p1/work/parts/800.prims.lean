/-! lay: what the primitives do, on the class's side (state c, beside b) and on the reference's (state m, beside b) -/
def lc_emit (c : um_S) (n : Nat) (op arg ctx : Int32) : um_S := um_up (um_up (um_up (um_up c 11 n op) 12 n arg) 13 n ctx) 2 5 (nI (n + 1))
def lc_push (c : um_S) (t : Nat) (node ctx step : Int32) : um_S := um_up (um_up (um_up (um_up (um_up c 31 t node) 32 t ctx) 33 t step) 34 t (-1)) 6 4 (nI (t + 1))
def lc_begin (c : um_S) (t B : Nat) (node ctx : Int32) : um_S := lc_push (um_up c 2 7 (nI (B + 1))) t node ctx 0
def lm_put (m : um_S) (n : Nat) (op arg ctx : Int32) : um_S := um_up (um_up (um_up (um_up m 46 n op) 47 n arg) 48 n ctx) 38 10 (nI (n + 1))
def lm_begin (m : um_S) (t B : Nat) (node ctx ab fi : Int32) : um_S :=
  um_up (um_up (um_up (um_up (um_up (um_up (um_up (um_up (um_up m 38 20 (nI (B + 1))) 63 t node) 64 t ctx) 65 t ab) 66 t fi) 67 t 0) 68 t 0) 69 t 0) 38 37 (nI (t + 1))
section LayPrims
variable {c m b : um_S} {n t B : Nat} {op arg ctx node step ab fi : Int32} {Q : um_S → Prop}
theorem p_emit (hv : c 3 8 = 0) (hn : c 2 5 = nI n) (hlt : n < 1000) (hq : Q (um_J (lc_emit c n op arg ctx) b)) : wp_La_emit op arg ctx (um_J c b) Q := by
  have h1 : nI n < (1000 : Int32) := nI_lt (b := 1000) hlt (by decide)
  have h2 : vp_in (nI n) 1000 := vp_in_nI hlt (by decide)
  have h3 : (nI n).toNatClampNeg = n := um_cl1 (by omega)
  have h4 : nI n + 1 = nI (n + 1) := um_succ
  unfold wp_La_emit
  refine um_yes (by rw [um_J_c (by decide)]; exact hv) (um_yes (by rw [um_J_c (by decide), hn]; exact h1) ?_)
  rw [um_J_c (q := 2) (by decide), hn, h3]
  refine ⟨h2, ?_⟩
  rintro σ1 rfl
  rw [um_J_uc (by decide), um_J_c (q := 2) (by decide), um_up_q (by decide), hn, h3]
  refine ⟨h2, ?_⟩
  rintro σ1 rfl
  rw [um_J_uc (by decide), um_J_c (q := 2) (by decide), um_up_q (by decide), um_up_q (by decide), hn, h3]
  refine ⟨h2, ?_⟩
  rintro σ1 rfl
  rw [um_J_uc (by decide), um_J_c (q := 2) (by decide), um_up_q (by decide), um_up_q (by decide), um_up_q (by decide), hn, h4]
  rintro σ1 rfl
  rw [um_J_uc (by decide)]
  exact hq
theorem p_emitFull (hv : c 3 8 = 0) (hn : c 2 5 = nI 1000) (hq : Q (um_J (um_up c 3 8 (-2)) b)) : wp_La_emit op arg ctx (um_J c b) Q := by
  unfold wp_La_emit
  refine um_yes (by rw [um_J_c (by decide)]; exact hv) (um_no (by rw [um_J_c (by decide), hn]; decide) ?_)
  rintro σ1 rfl
  rw [um_J_uc (by decide)]
  exact hq
theorem p_emitBad (hv : ¬ c 3 8 = 0) (hq : Q (um_J c b)) : wp_La_emit op arg ctx (um_J c b) Q := by
  unfold wp_La_emit
  exact um_no (by rw [um_J_c (by decide)]; exact hv) hq
theorem p_Wpush (ht : c 6 4 = nI t) (hlt : t < 2001) (hq : Q (um_J (lc_push c t node ctx step) b)) : wp_Wo_push node ctx step (um_J c b) Q := by
  have h1 : ¬ (2001 : Int32) ≤ nI t := by
    have := nI_leI (a := 2001) (b := t) (by decide) (by omega)
    intro h
    have := this.mp h
    omega
  have h2 : vp_in (nI t) 2001 := vp_in_nI hlt (by decide)
  have h3 : (nI t).toNatClampNeg = t := um_cl1 (by omega)
  have h4 : nI t + 1 = nI (t + 1) := um_succ
  unfold wp_Wo_push
  refine um_no (by rw [um_J_c (by decide), ht]; exact h1) ?_
  rw [um_J_c (q := 6) (by decide), ht, h3]
  refine ⟨h2, ?_⟩
  rintro σ1 rfl
  rw [um_J_uc (by decide), um_J_c (q := 6) (by decide), um_up_q (by decide), ht, h3]
  refine ⟨h2, ?_⟩
  rintro σ1 rfl
  rw [um_J_uc (by decide), um_J_c (q := 6) (by decide), um_up_q (by decide), um_up_q (by decide), ht, h3]
  refine ⟨h2, ?_⟩
  rintro σ1 rfl
  rw [um_J_uc (by decide), um_J_c (q := 6) (by decide), um_up_q (by decide), um_up_q (by decide), um_up_q (by decide), ht, h3]
  refine ⟨h2, ?_⟩
  rintro σ1 rfl
  rw [um_J_uc (by decide), um_J_c (q := 6) (by decide), um_up_q (by decide), um_up_q (by decide), um_up_q (by decide), um_up_q (by decide), ht, h4]
  rintro σ1 rfl
  rw [um_J_uc (by decide)]
  exact hq
theorem p_begin (hB : c 2 7 = nI B) (hB2 : B < 2000) (ht : c 6 4 = nI t) (hlt : t < 2001) (hq : Q (um_J (lc_begin c t B node ctx) b)) : wp_La_begin node ctx (um_J c b) Q := by
  unfold wp_La_begin
  refine um_yes (by rw [um_J_c (by decide), hB]; exact nI_lt (b := 2000) hB2 (by decide)) ?_
  rw [um_J_c (q := 2) (by decide), hB, um_succ]
  rintro σ1 rfl
  rw [um_J_uc (by decide)]
  exact p_Wpush (by rw [um_up_q (by decide)]; exact ht) hlt hq
theorem p_beginFull (hB : c 2 7 = nI 2000) (hq : Q (um_J (um_up c 3 8 (-2)) b)) : wp_La_begin node ctx (um_J c b) Q := by
  unfold wp_La_begin
  refine um_no (by rw [um_J_c (by decide), hB]; decide) ?_
  rintro σ1 rfl
  rw [um_J_uc (by decide)]
  exact hq
theorem p_Wpop (ht : c 6 4 = nI (t + 1)) (hlt : t < 2001) (hq : Q (um_J (um_up c 6 4 (nI t)) b)) : wp_Wo_pop (um_J c b) Q := by
  unfold wp_Wo_pop
  have h1 : ¬ nI (t + 1) ≤ (0 : Int32) := nI_nle (n := t + 1) (by omega) (by omega)
  refine um_no (by rw [um_J_c (by decide), ht]; exact h1) ?_
  rw [um_J_c (q := 6) (by decide), ht, show nI (t + 1) - 1 = nI t from um_pred (a := t + 1) (by omega)]
  rintro σ1 rfl
  rw [um_J_uc (by decide)]
  exact hq
theorem p_put (hv : m 38 35 = 0) (hn : m 38 10 = nI n) (hlt : n < 1000) (hq : Q (um_J b (lm_put m n op arg ctx))) : wp_Mo_put op arg ctx (um_J b m) Q := by
  have h1 : ¬ nI n = (1000 : Int32) := by
    intro h
    have := (nI_eq (a := n) (b := 1000) (by omega) (by decide)).mp h
    omega
  have h2 : vp_in (nI n) 1000 := vp_in_nI hlt (by decide)
  have h3 : (nI n).toNatClampNeg = n := um_cl1 (by omega)
  have h4 : nI n + 1 = nI (n + 1) := um_succ
  unfold wp_Mo_put
  refine um_no (by rw [um_J_m (by decide), hn]; exact h1) (um_yes (by rw [um_J_m (by decide)]; exact hv) ?_)
  rw [um_J_m (q := 38) (by decide), hn, h3]
  refine ⟨h2, ?_⟩
  rintro σ1 rfl
  rw [um_J_um (by decide), um_J_m (q := 38) (by decide), um_up_q (by decide), hn, h3]
  refine ⟨h2, ?_⟩
  rintro σ1 rfl
  rw [um_J_um (by decide), um_J_m (q := 38) (by decide), um_up_q (by decide), um_up_q (by decide), hn, h3]
  refine ⟨h2, ?_⟩
  rintro σ1 rfl
  rw [um_J_um (by decide), um_J_m (q := 38) (by decide), um_up_q (by decide), um_up_q (by decide), um_up_q (by decide), hn, h4]
  rintro σ1 rfl
  rw [um_J_um (by decide)]
  exact hq
theorem p_putFull (hn : m 38 10 = nI 1000) (hq : Q (um_J b (um_up m 38 35 1))) : wp_Mo_put op arg ctx (um_J b m) Q := by
  unfold wp_Mo_put
  refine um_yes (by rw [um_J_m (by decide)]; exact hn) ?_
  rintro σ1 rfl
  rw [um_J_um (by decide)]
  exact hq
theorem p_putBad (hv : ¬ m 38 35 = 0) (hq : Q (um_J b (um_up m 38 35 1))) : wp_Mo_put op arg ctx (um_J b m) Q := by
  have k : ∀ σ1 : um_S, σ1 = um_up (um_J b m) 38 35 1 → Q σ1 := by
    rintro σ1 rfl
    rw [um_J_um (by decide)]
    exact hq
  unfold wp_Mo_put
  exact ⟨fun _ => k, fun _ => um_no (by rw [um_J_m (by decide)]; exact hv) k⟩
theorem p_Mbegin (hv : m 38 35 = 0) (hB : m 38 20 = nI B) (hB2 : B < 2000) (ht : m 38 37 = nI t) (hlt : t < 2002) (hq : Q (um_J b (lm_begin m t B node ctx ab fi))) : wp_Mo_begin node ctx ab fi (um_J b m) Q := by
  have h1 : ¬ nI B = (2000 : Int32) := by
    intro h
    have := (nI_eq (a := B) (b := 2000) (by omega) (by decide)).mp h
    omega
  have h2 : vp_in (nI t) 2002 := vp_in_nI hlt (by decide)
  have h3 : (nI t).toNatClampNeg = t := um_cl1 (by omega)
  have h4 : nI t + 1 = nI (t + 1) := um_succ
  have h5 : nI B + 1 = nI (B + 1) := um_succ
  have k0 : um_up m 38 20 (nI (B + 1)) 38 37 = nI t := by rw [um_up_ne (by decide)]; exact ht
  unfold wp_Mo_begin
  refine um_no (by rw [um_J_m (by decide), hB]; exact h1) (um_yes (by rw [um_J_m (by decide)]; exact hv) ?_)
  rw [um_J_m (q := 38) (by decide), hB, h5]
  rintro σ1 rfl
  rw [um_J_um (by decide), um_J_m (q := 38) (by decide), k0, h3]
  refine ⟨h2, ?_⟩
  rintro σ1 rfl
  rw [um_J_um (by decide), um_J_m (q := 38) (by decide), um_up_q (by decide), k0, h3]
  refine ⟨h2, ?_⟩
  rintro σ1 rfl
  rw [um_J_um (by decide), um_J_m (q := 38) (by decide), um_up_q (by decide), um_up_q (by decide), k0, h3]
  refine ⟨h2, ?_⟩
  rintro σ1 rfl
  rw [um_J_um (by decide), um_J_m (q := 38) (by decide), um_up_q (by decide), um_up_q (by decide), um_up_q (by decide), k0, h3]
  refine ⟨h2, ?_⟩
  rintro σ1 rfl
  rw [um_J_um (by decide), um_J_m (q := 38) (by decide), um_up_q (by decide), um_up_q (by decide), um_up_q (by decide), um_up_q (by decide), k0, h3]
  refine ⟨h2, ?_⟩
  rintro σ1 rfl
  rw [um_J_um (by decide), um_J_m (q := 38) (by decide), um_up_q (by decide), um_up_q (by decide), um_up_q (by decide), um_up_q (by decide), um_up_q (by decide), k0, h3]
  refine ⟨h2, ?_⟩
  rintro σ1 rfl
  rw [um_J_um (by decide), um_J_m (q := 38) (by decide), um_up_q (by decide), um_up_q (by decide), um_up_q (by decide), um_up_q (by decide), um_up_q (by decide), um_up_q (by decide), k0, h3]
  refine ⟨h2, ?_⟩
  rintro σ1 rfl
  rw [um_J_um (by decide), um_J_m (q := 38) (by decide), um_up_q (by decide), um_up_q (by decide), um_up_q (by decide), um_up_q (by decide), um_up_q (by decide), um_up_q (by decide), um_up_q (by decide), k0, h4]
  rintro σ1 rfl
  rw [um_J_um (by decide)]
  exact hq
theorem p_MbeginFull (hB : m 38 20 = nI 2000) (hq : Q (um_J b (um_up m 38 35 1))) : wp_Mo_begin node ctx ab fi (um_J b m) Q := by
  unfold wp_Mo_begin
  refine um_yes (by rw [um_J_m (by decide)]; exact hB) ?_
  rintro σ1 rfl
  rw [um_J_um (by decide)]
  exact hq
theorem p_MbeginBad (hv : ¬ m 38 35 = 0) (hq : Q (um_J b (um_up m 38 35 1))) : wp_Mo_begin node ctx ab fi (um_J b m) Q := by
  have k : ∀ σ1 : um_S, σ1 = um_up (um_J b m) 38 35 1 → Q σ1 := by
    rintro σ1 rfl
    rw [um_J_um (by decide)]
    exact hq
  unfold wp_Mo_begin
  exact ⟨fun _ => k, fun _ => um_no (by rw [um_J_m (by decide)]; exact hv) k⟩
end LayPrims
/-! lay: the tree's answers at a node -/
section LayTree
variable {c m b : um_S} {N k : Nat}
theorem p_kind {Q : Int32 → um_S → Prop} (hT : um_tree N c m) (hk : k < N) (hq : Q (m 39 k) (um_J c b)) : wp_Tr_kindOf (nI k) (um_J c b) Q := by
  refine p_kindOf hT (fun j w hj e h1 h2 => ?_) (fun h => ?_)
  · have e2 : j = k := ((nI_eq (a := k) (b := j) (by have := hT.1.1; omega) (by have := hT.1.1; omega)).mp e).symm
    subst e2
    rw [h1] at hq
    exact hq
  · exact absurd rfl (h k hk)
theorem p_part {Q : Int32 → um_S → Prop} {i : Nat} (hT : um_tree N c m) (hk : k < N) (hi : i < 5) (hq : Q (c 9 (k * 5 + i)) (um_J c b)) : wp_Tr_part (nI k) (nI i) (um_J c b) Q := by
  have hN := hT.1.1
  unfold wp_Tr_part
  rw [um_J_c (q := 1) (by decide), hT.2.1, show nI k * 5 = nI (k * 5) from pk_mul k 5, nI_add, um_cl1 (by omega), um_J_c (q := 9) (by decide)]
  exact um_no (nI_pos (by omega)) (um_no (nI_ge hk (by omega)) ⟨vp_in_nI (by omega) (by decide), hq⟩)
end LayTree
