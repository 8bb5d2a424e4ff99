/-! lay: a WHILE or TRY becomes an item -/
def lc_open (c : um_S) (I : Nat) (x : Int32) (ab fi : Nat) : um_S := um_up (um_up (um_up (um_up c 5 9 (nI (I + 2))) 23 (I + 1) x) 27 (I + 1) (nI ab)) 28 (I + 1) (nI fi)
def lc_item (c : um_S) (I : Nat) (x : Int32) (ab fi : Nat) (tn fn lp : Int32) : um_S := um_up (um_up (um_up (lc_open c I x ab fi) 24 (I + 1) tn) 25 (I + 1) fn) 26 (I + 1) lp
def lm_item (m : um_S) (I r : Nat) (k y ab fi : Int32) : um_S := um_up (um_up (um_up (um_up (um_up (um_up (um_up m 55 I k) 56 I y) 57 I ab) 58 I fi) 59 I (-1)) 68 r (nI I)) 38 23 (nI (I + 1))
section LayOpen
variable {N a n B T I r s p : Nat} {D nd kd sd bd : Nat → Nat} {c m c2 m2 b : um_S} {X : Nat → Prop} {Q : um_S → Prop} {x tn fn lp k y : Int32} {ab fi : Nat} {q i : Nat}
theorem ly_up_sc (h : ly_up I (c 24) (c 25) (c 27) (c 28) x ab fi) (h0 : c 24 0 = -1 ∧ c 25 0 = -1) (hT : um_tree N c m) : ∃ s p : Nat, p < 3 ∧ s ≤ I ∧ x = nI (4 * s + p) ∧ (c 24 s = -1 → c 27 s = nI ab) ∧ (¬ c 24 s = -1 → c 27 s + 1 = nI ab) ∧ (c 25 s = -1 → c 28 s = nI fi) ∧ (¬ c 25 s = -1 → c 28 s + 1 = nI fi) := by
  rcases h with ⟨rfl, rfl, rfl⟩ | ⟨j, p, ov, kp, hj, hp, rfl, h1, h2, rfl, rfl⟩
  · exact ⟨0, 0, by decide, by omega, rfl, fun _ => hT.1.2.2.1, fun z => absurd h0.1 z, fun _ => hT.1.2.2.2, fun z => absurd h0.2 z⟩
  · refine ⟨j + 1, p, hp, by omega, rfl, fun z => ?_, fun z => ?_, fun z => ?_, fun z => ?_⟩
    · rw [if_pos z, h1]
      rfl
    · rw [if_neg z, h1]
      exact um_succ
    · rw [if_pos z, h2]
      rfl
    · rw [if_neg z, h2]
      exact um_succ
theorem lc_item_row (h : ¬ (q = 5 ∨ (23 ≤ q ∧ q ≤ 28))) : lc_item c I x ab fi tn fn lp q = c q := by
  unfold lc_item lc_open
  rw [um_up_q (by omega), um_up_q (by omega), um_up_q (by omega), um_up_q (by omega), um_up_q (by omega), um_up_q (by omega), um_up_q (by omega)]
theorem lc_item_old (h : ¬ (q = 5 ∧ i = 9) ∧ ¬ i = I + 1) : lc_item c I x ab fi tn fn lp q i = c q i := by
  unfold lc_item lc_open
  rw [um_up_ne (by omega), um_up_ne (by omega), um_up_ne (by omega), um_up_ne (by omega), um_up_ne (by omega), um_up_ne (by omega), um_up_ne (by omega)]
theorem lc_item_at : lc_item c I x ab fi tn fn lp 5 9 = nI (I + 2) ∧ lc_item c I x ab fi tn fn lp 23 (I + 1) = x ∧ lc_item c I x ab fi tn fn lp 27 (I + 1) = nI ab ∧ lc_item c I x ab fi tn fn lp 28 (I + 1) = nI fi ∧ lc_item c I x ab fi tn fn lp 24 (I + 1) = tn ∧ lc_item c I x ab fi tn fn lp 25 (I + 1) = fn ∧ lc_item c I x ab fi tn fn lp 26 (I + 1) = lp := by
  unfold lc_item lc_open
  refine ⟨?_, ?_, ?_, ?_, ?_, ?_, ?_⟩
  · rw [um_up_q (by decide), um_up_q (by decide), um_up_q (by decide), um_up_q (by decide), um_up_q (by decide), um_up_q (by decide), um_up_self]
  · rw [um_up_q (by decide), um_up_q (by decide), um_up_q (by decide), um_up_q (by decide), um_up_q (by decide), um_up_self]
  · rw [um_up_q (by decide), um_up_q (by decide), um_up_q (by decide), um_up_q (by decide), um_up_self]
  · rw [um_up_q (by decide), um_up_q (by decide), um_up_q (by decide), um_up_self]
  · rw [um_up_q (by decide), um_up_q (by decide), um_up_self]
  · rw [um_up_q (by decide), um_up_self]
  · rw [um_up_self]
theorem lm_item_row (h : ¬ (q = 38 ∨ (55 ≤ q ∧ q ≤ 59) ∨ q = 68)) : lm_item m I r k y x tn q = m q := by
  unfold lm_item
  rw [um_up_q (by omega), um_up_q (by omega), um_up_q (by omega), um_up_q (by omega), um_up_q (by omega), um_up_q (by omega), um_up_q (by omega)]
theorem lm_item_38 (h : ¬ i = 23) : lm_item m I r k y x tn 38 i = m 38 i := by
  unfold lm_item
  rw [um_up_ne (by omega), um_up_q (by decide), um_up_q (by decide), um_up_q (by decide), um_up_q (by decide), um_up_q (by decide), um_up_q (by decide)]
theorem lm_item_old (h1 : 55 ≤ q) (h2 : q ≤ 59) (h : ¬ i = I) : lm_item m I r k y x tn q i = m q i := by
  unfold lm_item
  rw [um_up_ne (by omega), um_up_ne (by omega), um_up_ne (by omega), um_up_ne (by omega), um_up_ne (by omega), um_up_ne (by omega), um_up_ne (by omega)]
theorem lm_item_68 (h : ¬ i = r) : lm_item m I r k y x tn 68 i = m 68 i := by
  unfold lm_item
  rw [um_up_ne (by omega), um_up_ne (by omega), um_up_ne (by omega), um_up_ne (by omega), um_up_ne (by omega), um_up_ne (by omega), um_up_ne (by omega)]
theorem lm_item_at : lm_item m I r k y x tn 38 23 = nI (I + 1) ∧ lm_item m I r k y x tn 55 I = k ∧ lm_item m I r k y x tn 56 I = y ∧ lm_item m I r k y x tn 57 I = x ∧ lm_item m I r k y x tn 58 I = tn ∧ lm_item m I r k y x tn 59 I = -1 ∧ lm_item m I r k y x tn 68 r = nI I := by
  unfold lm_item
  refine ⟨?_, ?_, ?_, ?_, ?_, ?_, ?_⟩
  · rw [um_up_self]
  · rw [um_up_q (by decide), um_up_q (by decide), um_up_q (by decide), um_up_q (by decide), um_up_q (by decide), um_up_q (by decide), um_up_self]
  · rw [um_up_q (by decide), um_up_q (by decide), um_up_q (by decide), um_up_q (by decide), um_up_q (by decide), um_up_self]
  · rw [um_up_q (by decide), um_up_q (by decide), um_up_q (by decide), um_up_q (by decide), um_up_self]
  · rw [um_up_q (by decide), um_up_q (by decide), um_up_q (by decide), um_up_self]
  · rw [um_up_q (by decide), um_up_q (by decide), um_up_self]
  · rw [um_up_q (by decide), um_up_self]
/-- the class opens a scope in the context x -/
theorem p_open {R : Int32 → um_S → Prop} (h59 : c 5 9 = nI (I + 1)) (hI : I + 1 ≤ 2000) (hp : p < 3) (hs : s ≤ I) (hx : x = nI (4 * s + p)) (u1 : c 24 s = -1 → c 27 s = nI ab) (u2 : ¬ c 24 s = -1 → c 27 s + 1 = nI ab) (u3 : c 25 s = -1 → c 28 s = nI fi) (u4 : ¬ c 25 s = -1 → c 28 s + 1 = nI fi)
    (hq : R (nI (I + 1)) (um_J (lc_open c I x ab fi) b)) : wp_Sc_open x (um_J c b) R := by
  have iI : vp_in (nI (I + 1)) 2001 := vp_in_nI (by omega) (by decide)
  have is : vp_in (nI s) 2001 := vp_in_nI (by omega) (by decide)
  have h67 : wp_Sc_open_67 R (nI (I + 1)) (nI s) (um_J (um_up (um_up (um_up c 5 9 (nI (I + 2))) 23 (I + 1) x) 27 (I + 1) (nI ab)) b) := by
    unfold wp_Sc_open_67
    rw [um_cl1 (show s < 2147483648 by omega), um_cl1 (show I + 1 < 2147483648 by omega), um_J_c (q := 25) (by decide), um_J_c (q := 28) (by decide), um_up_q (q := 27) (a := 25) (by decide), um_up_q (q := 23) (a := 25) (by decide), um_up_q (q := 5) (a := 25) (by decide), um_up_q (q := 27) (a := 28) (by decide), um_up_q (q := 23) (a := 28) (by decide), um_up_q (q := 5) (a := 28) (by decide), um_J_uc (by decide), um_J_uc (by decide)]
    refine ⟨is, is, fun z => ⟨iI, ?_⟩, fun z => ⟨iI, ?_⟩⟩
    · rintro σ1 rfl
      rw [u4 z]
      exact hq
    · rintro σ1 rfl
      rw [u3 z, Int32.add_zero]
      exact hq
  unfold wp_Sc_open
  rw [um_J_c (q := 5) (by decide), h59]
  refine um_no (fun z => ?_) ?_
  · have := (nI_leI (a := 2001) (b := I + 1) (by decide) (by omega)).mp z
    omega
  rw [show nI (I + 1) + 1 = nI (I + 2) from um_succ, um_J_uc (by decide)]
  rintro σ1 rfl
  unfold wp_Sc_open_20
  rw [um_J_c (q := 5) (by decide), um_up_self, show nI (I + 2) - 1 = nI (I + 1) from um_pred (a := I + 2) (by omega)]
  rintro x1 rfl
  have hsc : wp_Sc_scopeOf x = wp_Sc_scopeOf (nI (4 * s + p)) := by rw [hx]
  rw [hsc]
  refine p_scopeOf (by omega) (by omega) ⟨iI, ?_⟩
  rw [um_cl1 (show s < 2147483648 by omega), um_cl1 (show I + 1 < 2147483648 by omega), um_J_uc (by decide)]
  rintro σ4 rfl
  rw [um_J_c (q := 24) (by decide), um_J_c (q := 27) (by decide), um_up_q (q := 23) (a := 24) (by decide), um_up_q (q := 5) (a := 24) (by decide), um_up_q (q := 23) (a := 27) (by decide), um_up_q (q := 5) (a := 27) (by decide), um_J_uc (by decide), um_J_uc (by decide)]
  refine ⟨is, is, fun z => ⟨iI, ?_⟩, fun z => ⟨iI, ?_⟩⟩
  · rintro σ5 rfl
    rw [u2 z]
    exact h67
  · rintro σ6 rfl
    rw [u1 z, Int32.add_zero]
    exact h67
/-- the reference makes an item -/
theorem p_Mitem (hI : m 38 23 = nI I) (hI2 : I ≤ 2000) (hr : r < 2002) (hq : Q (um_J b (lm_item m I r (m 63 r) (m 64 r) (m 65 r) (m 66 r)))) : wp_Mo_item (nI r) (um_J b m) Q := by
  have ir : vp_in (nI r) 2002 := vp_in_nI hr (by decide)
  have iI : vp_in (nI I) 2001 := vp_in_nI (by omega) (by decide)
  have cI : (nI I).toNatClampNeg = I := um_cl1 (by omega)
  have cr : (nI r).toNatClampNeg = r := um_cl1 (by omega)
  unfold wp_Mo_item
  rw [um_J_m (q := 38) (by decide), hI, cI, cr, um_J_m (q := 63) (by decide), um_J_um (by decide)]
  refine ⟨ir, iI, ?_⟩
  rintro σ1 rfl
  rw [um_J_m (q := 38) (by decide), um_up_q (by decide), hI, cI, um_J_m (q := 64) (by decide), um_up_q (q := 55) (a := 64) (by decide), um_J_um (by decide)]
  refine ⟨ir, iI, ?_⟩
  rintro σ2 rfl
  rw [um_J_m (q := 38) (by decide), um_up_q (by decide), um_up_q (by decide), hI, cI, um_J_m (q := 65) (by decide), um_up_q (q := 56) (a := 65) (by decide), um_up_q (q := 55) (a := 65) (by decide), um_J_um (by decide)]
  refine ⟨ir, iI, ?_⟩
  rintro σ3 rfl
  rw [um_J_m (q := 38) (by decide), um_up_q (by decide), um_up_q (by decide), um_up_q (by decide), hI, cI, um_J_m (q := 66) (by decide), um_up_q (q := 57) (a := 66) (by decide), um_up_q (q := 56) (a := 66) (by decide), um_up_q (q := 55) (a := 66) (by decide), um_J_um (by decide)]
  refine ⟨ir, iI, ?_⟩
  rintro σ4 rfl
  rw [um_J_m (q := 38) (by decide), um_up_q (by decide), um_up_q (by decide), um_up_q (by decide), um_up_q (by decide), hI, cI, um_J_um (by decide)]
  refine ⟨iI, ?_⟩
  rintro σ5 rfl
  rw [um_J_m (q := 38) (by decide), um_up_q (by decide), um_up_q (by decide), um_up_q (by decide), um_up_q (by decide), um_up_q (by decide), hI, um_J_um (by decide)]
  refine ⟨ir, ?_⟩
  rintro σ6 rfl
  rw [um_J_m (q := 38) (by decide), um_up_q (by decide), um_up_q (by decide), um_up_q (by decide), um_up_q (by decide), um_up_q (by decide), um_up_q (by decide), hI, show nI I + 1 = nI (I + 1) from um_succ, um_J_um (by decide)]
  rintro σ7 rfl
  exact hq
theorem ly_core_open (h : ly_core N a n B T I D nd kd sd bd X c m) (hI : I + 1 ≤ B) (hF : ly_fr I c m c2 m2) (e : ∀ q, ¬ (q = 5 ∨ (23 ≤ q ∧ q ≤ 28) ∨ (31 ≤ q ∧ q ≤ 34)) → c2 q = c q) (e2 : ∀ q i, 31 ≤ q → q ≤ 34 → i < T → c2 q i = c q i) (g : ∀ q, ¬ (q = 38 ∨ (55 ≤ q ∧ q ≤ 59) ∨ (63 ≤ q ∧ q ≤ 69)) → m2 q = m q) (g2 : ∀ q i, 63 ≤ q → q ≤ 69 → i < T → m2 q i = m q i) (g38 : ∀ i, ¬ i = 23 → m2 38 i = m 38 i) (e59 : c2 5 9 = nI (I + 2)) (g23 : m2 38 23 = nI (I + 1)) (hit : ly_item N (n + 1) D c2 m2 I) :
    ly_core N a n B T (I + 1) D nd kd sd bd X c2 m2 := by
  obtain ⟨h1, h2, h3, h4, h5, h6, h7, h8, h9, h10⟩ := h
  have hT : um_tree N c2 m2 := um_tree_of h5 (by rw [e 1 (by decide)]) (e 8 (by decide)) (e 9 (by decide)) (e 10 (by decide)) (hF.1 26 0 (by decide) (by decide) (by omega)) (hF.1 27 0 (by decide) (by decide) (by omega)) (hF.1 28 0 (by decide) (by decide) (by omega))
    (g38 1 (by decide)) (g 39 (by decide)) (g 40 (by decide)) (g 41 (by decide)) (g 42 (by decide)) (g 43 (by decide)) (g 44 (by decide)) (g 45 (by decide))
  refine ⟨⟨by rw [e 3 (by decide)]; exact h1.1, by rw [g38 35 (by decide)]; exact h1.2.1, by rw [g38 36 (by decide)]; exact h1.2.2⟩, ⟨by rw [e 2 (by decide)]; exact h2.1, by rw [g38 10 (by decide)]; exact h2.2.1, h2.2.2⟩, ⟨by rw [e 2 (by decide)]; exact h3.1, by rw [g38 20 (by decide)]; exact h3.2.1, h3.2.2⟩, ⟨e59, g23, hI⟩, hT, ⟨(hF.1 24 0 (by decide) (by decide) (by omega)).trans h6.1, (hF.1 25 0 (by decide) (by decide) (by omega)).trans h6.2⟩, fun j hj => ?_, ?_, fun r a1 a2 => ?_, h10⟩
  · by_cases z : j = I
    · subst z
      exact hit
    · exact ly_item_mono (I := I) (by omega) (Nat.le_refl _) (fun _ _ => rfl) hF (h7 j (by omega))
  · exact ly_ins_mono (by omega) (by omega) (Nat.le_refl _) (fun _ _ => rfl) hF (fun _ _ x => x) (fun q p a1 a2 a3 => by rw [e q (by omega)]) (fun q p a1 a2 a3 => by rw [g q (by omega)]) h8
  · exact ly_ent_mono (Nat.le_refl _) (by omega) (fun p hp => Or.inr rfl) (by omega) (Nat.le_refl _) (Nat.le_refl _) (fun _ _ => rfl) hF (fun q b1 b2 => e2 q r b1 b2 a2) (fun q b1 b2 => g2 q r b1 b2 a2) (fun p hp => by rw [g 46 (by decide)]) (h9 r a1 a2)
end LayOpen
