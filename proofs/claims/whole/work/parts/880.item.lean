/-! lay: a WHILE or TRY is opened: both sides -/
section LayItem
variable {N a n n2 B r I T j : Nat} {D D2 nd kd sd bd : Nat → Nat} {c m c2 m2 b : um_S} {Q : um_S → Prop} {X : Nat → Prop} {k2 w2 ab fi ab2 fi2 s p : Nat} {tn fn lp v34 v69 x y : Int32}
theorem p_openLoop {R : Int32 → um_S → Prop} (h59 : c 5 9 = nI (I + 1)) (hI : I + 1 ≤ 2000) (hp : p < 3) (hs : s ≤ I) (hx : x = nI (4 * s + p)) (u1 : c 24 s = -1 → c 27 s = nI ab) (u2 : ¬ c 24 s = -1 → c 27 s + 1 = nI ab) (u3 : c 25 s = -1 → c 28 s = nI fi) (u4 : ¬ c 25 s = -1 → c 28 s + 1 = nI fi)
    (hq : R (nI (I + 1)) (um_J (lc_item c I x ab fi (-1) (-1) (nI (I + 1))) b)) : wp_Sc_openLoop x (um_J c b) R := by
  have iI : vp_in (nI (I + 1)) 2001 := vp_in_nI (by omega) (by decide)
  unfold wp_Sc_openLoop
  refine p_open h59 hI hp hs hx u1 u2 u3 u4 ?_
  rw [um_cl1 (show I + 1 < 2147483648 by omega)]
  refine ⟨iI, ?_⟩
  rintro σ3 rfl
  rw [um_J_uc (by decide)]
  refine ⟨iI, ?_⟩
  rintro σ4 rfl
  rw [um_J_uc (by decide)]
  refine ⟨iI, ?_⟩
  rintro σ5 rfl
  rw [um_J_uc (by decide)]
  exact hq
theorem p_openTry {R : Int32 → um_S → Prop} (h59 : c 5 9 = nI (I + 1)) (hI : I + 1 ≤ 2000) (hp : p < 3) (hs : s ≤ I) (hx : x = nI (4 * s + p)) (u1 : c 24 s = -1 → c 27 s = nI ab) (u2 : ¬ c 24 s = -1 → c 27 s + 1 = nI ab) (u3 : c 25 s = -1 → c 28 s = nI fi) (u4 : ¬ c 25 s = -1 → c 28 s + 1 = nI fi)
    (hq : R (nI (I + 1)) (um_J (lc_item c I x ab fi tn fn (c 26 s)) b)) : wp_Sc_openTry x tn fn (um_J c b) R := by
  have iI : vp_in (nI (I + 1)) 2001 := vp_in_nI (by omega) (by decide)
  have e26 : (um_up (um_up (lc_open c I x ab fi) 24 (I + 1) tn) 25 (I + 1) fn) 26 = c 26 := by
    unfold lc_open
    rw [um_up_q (by decide), um_up_q (by decide), um_up_q (by decide), um_up_q (by decide), um_up_q (by decide), um_up_q (by decide)]
  unfold wp_Sc_openTry
  refine p_open h59 hI hp hs hx u1 u2 u3 u4 ?_
  rw [um_cl1 (show I + 1 < 2147483648 by omega)]
  refine ⟨iI, ?_⟩
  rintro σ3 rfl
  rw [um_J_uc (by decide)]
  refine ⟨iI, ?_⟩
  rintro σ4 rfl
  rw [um_J_uc (by decide)]
  have hsc : wp_Sc_scopeOf x = wp_Sc_scopeOf (nI (4 * s + p)) := by rw [hx]
  rw [hsc]
  refine p_scopeOf (by omega) (by omega) ⟨vp_in_nI (by omega) (by decide), iI, ?_⟩
  rw [um_cl1 (show s < 2147483648 by omega), um_J_c (q := 26) (by decide), e26, um_J_uc (by decide)]
  rintro σ7 rfl
  exact hq
theorem ly_tree_item (hT : um_tree N c m) (e : ∀ q, q = 1 ∨ (8 ≤ q ∧ q ≤ 10) → c2 q = c q) (e0 : ∀ q, 26 ≤ q → q ≤ 28 → c2 q 0 = c q 0) : um_tree N c2 m :=
  um_tree_of hT (by rw [e 1 (by omega)]) (e 8 (by omega)) (e 9 (by omega)) (e 10 (by omega)) (e0 26 (by decide) (by decide)) (e0 27 (by decide) (by decide)) (e0 28 (by decide) (by decide)) rfl rfl rfl rfl rfl rfl rfl rfl
theorem p_Mhas {R : Bool → um_S → Prop} {k : Nat} (hj : j < 2001) (h55 : m 55 j = nI k) (hk : k < 150) (h18 : m 39 k = 18) (h0 : m 42 k = -1 → R false (um_J b m)) (h1 : ¬ m 42 k = -1 → R true (um_J b m)) : wp_Mo_hasFinally (nI j) (um_J b m) R := by
  unfold wp_Mo_hasFinally
  rw [um_cl1 (show j < 2147483648 by omega), um_J_m (q := 55) (by decide), h55, um_cl1 (show k < 2147483648 by omega), um_J_m (q := 39) (by decide), um_J_m (q := 42) (by decide)]
  exact ⟨vp_in_nI hj (by decide), vp_in_nI hk (by decide), fun z => absurd h18 z, fun _ => ⟨vp_in_nI hj (by decide), vp_in_nI hk (by decide), h0, h1⟩⟩
theorem p_turnW {fuel v : Nat} (h : ly_inv N a n B (r + 1) I D nd kd sd bd c m) (har : a ≤ r) (hk : kd r = 13) (hs : sd r ≤ 3) (hv : v < 1000000)
    (hp : wp_La_turnWhile (nI r) (nI (nd r)) (nI (sd r)) (um_J (um_up c 33 r (nI (sd r + 1))) b) (fun σ => wp_La_takeTurns_2 Q fuel (nI (v + 1)) σ)) : wp_La_takeTurns_2 Q (fuel + 1) (nI v) (um_J c b) := by
  obtain ⟨e1, e2, e3, e4, e5, e6, e7, -⟩ := ly_inv_ent h har
  obtain ⟨⟨⟨s1, s2, s3⟩, ⟨n1, n2, n3⟩, ⟨b1, b2', b3⟩, -⟩, ⟨t1, t2, t3, t4⟩, -⟩ := id h
  exact p_turn (ly_inv_tree h) hv t1 (by omega) s1 e4 e1 e6 (by omega) e2 e3 (fun z => absurd z (by omega)) (fun _ => hp) (fun z => absurd z (by omega)) (fun z => absurd z (by omega)) (fun z => absurd z (by omega)) (fun z => absurd z (by omega)) (fun _ z => absurd hk z)
theorem p_goesW (h : ly_inv N a n B (r + 1) I D nd kd sd bd c m) (har : a ≤ r) (hk : kd r = 13) (hs : sd r ≤ 3) (hp : wp_Mo_repeats (nI r) (nI (nd r)) (um_J b (um_up m 67 r (nI (sd r + 1)))) Q) : wp_Mo_goesOn (um_J b m) Q := by
  obtain ⟨hr, hN⟩ := ly_bound h
  obtain ⟨e1, e2, e3, e4, e5, e6, e7, -⟩ := ly_inv_ent h har
  refine p_goesS h har (by omega) (by rw [hk]; decide) ?_
  exact p_Mst (k := nd r) (s := sd r + 1) (by omega) (by rw [um_up_q (by decide)]; exact e5) (by omega) um_up_self (by omega) (by omega) e3 (fun z => absurd z (by omega)) (fun z => absurd z (by omega)) (fun z => absurd z (by omega)) (fun z => absurd z (by omega)) (fun z => absurd z (by omega)) (fun z => absurd z (by omega)) (fun z => absurd z (by omega)) (fun z => absurd z (by omega)) (fun _ => hp) (fun z => absurd z (by omega)) (fun z => absurd z (by omega)) (fun z => absurd z (by omega)) (fun z => absurd z (by omega))
theorem p_turnT {fuel v : Nat} (h : ly_inv N a n B (r + 1) I D nd kd sd bd c m) (har : a ≤ r) (hk : kd r = 18) (hs : sd r ≤ 2) (hv : v < 1000000)
    (hp : wp_La_turnTry (nI r) (nI (nd r)) (nI (sd r)) (um_J (um_up c 33 r (nI (sd r + 1))) b) (fun σ => wp_La_takeTurns_2 Q fuel (nI (v + 1)) σ)) : wp_La_takeTurns_2 Q (fuel + 1) (nI v) (um_J c b) := by
  obtain ⟨e1, e2, e3, e4, e5, e6, e7, -⟩ := ly_inv_ent h har
  obtain ⟨⟨⟨s1, s2, s3⟩, ⟨n1, n2, n3⟩, ⟨b1, b2', b3⟩, -⟩, ⟨t1, t2, t3, t4⟩, -⟩ := id h
  exact p_turn (ly_inv_tree h) hv t1 (by omega) s1 e4 e1 e6 (by omega) e2 e3 (fun z => absurd z (by omega)) (fun z => absurd z (by omega)) (fun z => absurd z (by omega)) (fun z => absurd z (by omega)) (fun _ z => absurd z (by omega)) (fun _ _ => hp) (fun _ _ _ _ z => absurd hk z)
theorem p_goesT (h : ly_inv N a n B (r + 1) I D nd kd sd bd c m) (har : a ≤ r) (hk : kd r = 18) (hs : sd r ≤ 2) (hp : wp_Mo_tries (nI r) (um_J b (um_up m 67 r (nI (sd r + 1)))) Q) : wp_Mo_goesOn (um_J b m) Q := by
  obtain ⟨hr, hN⟩ := ly_bound h
  obtain ⟨e1, e2, e3, e4, e5, e6, e7, -⟩ := ly_inv_ent h har
  obtain ⟨-, ⟨t1, t2, t3, t4⟩, -⟩ := id h
  exact p_goes t2 (by omega) e5 (by omega) e7 (by omega) e2 e3 (fun z => absurd z (by omega)) (fun _ z => absurd z (by omega)) (fun _ _ => hp) (fun z => absurd z (by omega)) (fun _ _ _ z => absurd hk z)
/-- what the topmost entry of a WHILE or TRY holds at first -/
theorem ly_top0 (h : ly_inv N a n B (r + 1) I D nd kd sd bd c m) (har : a ≤ r) (hk : kd r = 13 ∨ kd r = 18) (hs : sd r = 0) : ∃ ab fi : Nat, m 65 r = nI ab ∧ m 66 r = nI fi ∧ ab + nd r ≤ 149 ∧ fi + nd r ≤ 149 ∧ bd r = 0 ∧ ly_cx I (c 24) (m 56) (c 32 r) (m 64 r) ∧ ly_up I (c 24) (c 25) (c 27) (c 28) (c 32 r) ab fi ∧ D n = 0 := by
  obtain ⟨e1, e2, e3, e4, e5, e6, e7, ab, fi, e8, e9, e10, e11, hform⟩ := ly_inv_ent h har
  obtain ⟨-, ⟨t1, t2, t3, t4⟩, hd, -⟩ := id h
  obtain ⟨hd1, -⟩ := hd (by omega)
  rw [Nat.add_sub_cancel] at hd1
  rcases hform with ⟨z, -⟩ | ⟨z1, z2, z3, z4, -⟩ | ⟨-, -, z, -⟩ | ⟨-, z, -⟩ | ⟨-, -, z, -⟩
  · omega
  · refine ⟨ab, fi, e8, e9, e10, e11, z1, z3, z4, ?_⟩
    rw [hd1, z1, hs]
    rcases hk with y | y <;> rw [y] <;> rfl
  · omega
  · omega
  · omega
/-- and later on -/
theorem ly_topW (h : ly_inv N a n B (r + 1) I D nd kd sd bd c m) (har : a ≤ r) (hk : kd r = 13) (hs : ¬ sd r = 0) : ∃ ab fi j p : Nat, m 65 r = nI ab ∧ m 66 r = nI fi ∧ ab + nd r ≤ 149 ∧ fi + nd r ≤ 149 ∧ bd r = 0 ∧ D n = ly_pd 13 (sd r) ∧ (sd r = 1 ∨ sd r = 2) ∧ j < I ∧ m 68 r = nI j ∧ c 32 r = nI (4 * (j + 1)) ∧ m 55 j = nI (nd r) ∧ c 24 (j + 1) = -1 ∧ m 56 j = m 64 r ∧ m 57 j = nI ab ∧ m 58 j = nI fi ∧ m 59 j = -1 ∧ c 34 r = nI p ∧ m 69 r = nI p ∧ p < n + 1 ∧ D p = 0 := by
  obtain ⟨e1, e2, e3, e4, e5, e6, e7, ab, fi, e8, e9, e10, e11, hform⟩ := ly_inv_ent h har
  obtain ⟨-, ⟨t1, t2, t3, t4⟩, hd, -⟩ := id h
  obtain ⟨hd1, -⟩ := hd (by omega)
  rw [Nat.add_sub_cancel] at hd1
  rcases hform with ⟨z, -⟩ | ⟨-, -, -, -, z⟩ | ⟨z1, -, z3, j, p, z4, z5, z6, z7, z8, z9, z10, z11, z12, z13, z14, z15, z16⟩ | ⟨-, z, -⟩ | ⟨-, z, -⟩
  · omega
  · exfalso
    rcases z with z | ⟨-, z⟩ | ⟨-, z⟩ | ⟨z, -⟩ | ⟨z, -⟩ <;> omega
  · exact ⟨ab, fi, j, p, e8, e9, e10, e11, z1, by rw [hd1, z1, hk]; omega, z3, z4, z5, z6, z7, z8, z9, z10, z11, z12, z13, z14, z15, z16⟩
  · omega
  · omega
theorem ly_topT (h : ly_inv N a n B (r + 1) I D nd kd sd bd c m) (har : a ≤ r) (hk : kd r = 18) (hs : ¬ sd r = 0) : ∃ ab fi j : Nat, m 65 r = nI ab ∧ m 66 r = nI fi ∧ ab + nd r ≤ 149 ∧ fi + nd r ≤ 149 ∧ bd r = 0 ∧ D n = 0 ∧ (sd r = 1 ∨ sd r = 2) ∧ j < I ∧ m 68 r = nI j ∧ c 32 r = nI (4 * (j + 1)) ∧ m 55 j = nI (nd r) ∧ c 24 (j + 1) = nI (nd r) ∧ m 56 j = m 64 r ∧ m 57 j = nI ab ∧ m 58 j = nI fi ∧ m 59 j = -1 := by
  obtain ⟨e1, e2, e3, e4, e5, e6, e7, ab, fi, e8, e9, e10, e11, hform⟩ := ly_inv_ent h har
  obtain ⟨-, ⟨t1, t2, t3, t4⟩, hd, -⟩ := id h
  obtain ⟨hd1, -⟩ := hd (by omega)
  rw [Nat.add_sub_cancel] at hd1
  have hpd : ly_pd (kd r) (sd r) = 0 := by
    unfold ly_pd
    rw [if_neg (by omega), if_neg (by omega)]
  rcases hform with ⟨z, -⟩ | ⟨-, -, -, -, z⟩ | ⟨-, z, -⟩ | ⟨-, z, -⟩ | ⟨z1, -, z3, j, z4, z5, z6, z7, z8, z9, z10, z11, z12⟩
  · omega
  · exfalso
    rcases z with z | ⟨-, z⟩ | ⟨-, z⟩ | ⟨z, -⟩ | ⟨z, -⟩ <;> omega
  · omega
  · omega
  · exact ⟨ab, fi, j, e8, e9, e10, e11, z1, by omega, z3, z4, z5, z6, z7, z8, z9, z10, z11, z12⟩
theorem ly_others (h : ly_inv N a n B (r + 1) I D nd kd sd bd c m) (hk : kd r = 13 ∨ kd r = 18) (hs : 1 ≤ sd r) (hj : j < I) (h68 : m 68 r = nI j) : ∀ i, a ≤ i → i < r → (kd i = 13 ∨ kd i = 18) → 1 ≤ sd i → ¬ m 68 i = nI j := by
  intro i a1 a2 a3 a4 a5
  have := h.2.2.2.2.2 i r j j a1 a2 (by omega) a3 a4 hk hs a5 h68 hj hj
  omega
theorem ly_open_row {t : Nat} (h : ly_open a t I kd sd m) (g59 : m2 59 = m 59) (g68 : m2 68 = m 68) : ly_open a t I kd sd m2 := by
  unfold ly_open at *
  rw [g59, g68]
  exact h
/-- the first turn of a WHILE or TRY -/
theorem ly_to_item (h : ly_inv N a n B (r + 1) I D nd kd sd bd c m) (har : a ≤ r) (hk : kd r = 13 ∨ kd r = 18) (hs : sd r = 0) (e8 : m 65 r = nI ab) (e9 : m 66 r = nI fi) (e10 : ab + nd r ≤ 149) (e11 : fi + nd r ≤ 149) (f1 : bd r = 0) (f3 : ly_cx I (c 24) (m 56) (c 32 r) (m 64 r)) (hDn : D n = 0)
    (hit : (m 39 (nd r) = 13 ∧ tn = -1 ∧ fn = -1 ∧ lp = nI (I + 1)) ∨ (m 39 (nd r) = 18 ∧ tn = nI (nd r) ∧ fn = m 42 (nd r) ∧ ∃ s p : Nat, p < 3 ∧ s ≤ I ∧ c 32 r = nI (4 * s + p) ∧ lp = c 26 s)) (hen : (kd r = 13 ∧ tn = -1 ∧ v34 = nI n ∧ v69 = nI n) ∨ (kd r = 18 ∧ tn = nI (nd r)))
    (hk2 : k2 < nd r) (hw : m 39 k2 = nI w2) (hw2 : w2 ≤ 18) (hf : (kd r = 13 ∧ w2 ≤ 7 ∧ y = m 64 r ∧ tn = -1 ∧ fn = -1 ∧ ab2 = ab ∧ fi2 = fi) ∨ (kd r = 18 ∧ 8 ≤ w2 ∧ y = nI (2 * I) ∧ ¬ tn = -1 ∧ ab2 = ab + 1 ∧ fi2 = fi + (if fn = -1 then 0 else 1)))
    (hcl : ∀ (fuel v : Nat) (b : um_S) (Q : um_S → Prop), v < 1000000 → wp_La_begin (nI k2) (nI (4 * (I + 1))) (um_J (um_up (um_up (lc_item (um_up c 33 r (nI (sd r + 1))) I (c 32 r) ab fi tn fn lp) 32 r (nI (4 * (I + 1)))) 34 r v34) b) (fun σ => wp_La_takeTurns_2 Q fuel (nI (v + 1)) σ) → wp_La_takeTurns_2 Q (fuel + 1) (nI v) (um_J c b))
    (hmo : ∀ (b : um_S) (Q : um_S → Prop), wp_Mo_begin (nI k2) y (nI ab2) (nI fi2) (um_J b (um_up (lm_item (um_up m 67 r (nI (sd r + 1))) I r (m 63 r) (m 64 r) (m 65 r) (m 66 r)) 69 r v69)) Q → wp_Mo_goesOn (um_J b m) Q) : ly_to N a n B (r + 1) I D kd sd c m := by
  obtain ⟨hr, hN⟩ := ly_bound h
  obtain ⟨e1, e2, e3, e4, e5, e6, e7, -⟩ := ly_inv_ent h har
  obtain ⟨i1, i2, i3, i4, i5, i6, i7⟩ := lc_item_at (c := um_up c 33 r (nI (sd r + 1))) (I := I) (x := c 32 r) (ab := ab) (fi := fi) (tn := tn) (fn := fn) (lp := lp)
  obtain ⟨o1, o2, o3, o4, o5, o6, o7⟩ := lm_item_at (m := um_up m 67 r (nI (sd r + 1))) (I := I) (r := r) (k := m 63 r) (y := m 64 r) (x := m 65 r) (tn := m 66 r)
  generalize hc' : um_up (um_up (lc_item (um_up c 33 r (nI (sd r + 1))) I (c 32 r) ab fi tn fn lp) 32 r (nI (4 * (I + 1)))) 34 r v34 = c' at hcl
  generalize hm' : um_up (lm_item (um_up m 67 r (nI (sd r + 1))) I r (m 63 r) (m 64 r) (m 65 r) (m 66 r)) 69 r v69 = m' at hmo
  have E : ∀ q, ¬ (q = 5 ∨ (23 ≤ q ∧ q ≤ 28) ∨ (31 ≤ q ∧ q ≤ 34)) → c' q = c q := fun q hq => by rw [← hc', um_up_q (by omega), um_up_q (by omega), lc_item_row (by omega), um_up_q (by omega)]
  have E2 : ∀ q i, 31 ≤ q → q ≤ 34 → i < r → c' q i = c q i := fun q i a1 a2 a3 => by rw [← hc', um_up_ne (by omega), um_up_ne (by omega), lc_item_row (by omega), um_up_ne (by omega)]
  have Eo : ∀ q i, 23 ≤ q → q ≤ 29 → i ≤ I → c' q i = c q i := fun q i a1 a2 a3 => by rw [← hc', um_up_q (by omega), um_up_q (by omega), lc_item_old (by omega), um_up_q (by omega)]
  have Ei : ∀ q i, ¬ (q = 32 ∨ q = 34) → c' q i = lc_item (um_up c 33 r (nI (sd r + 1))) I (c 32 r) ab fi tn fn lp q i := fun q i hq => by rw [← hc', um_up_q (by omega), um_up_q (by omega)]
  have G : ∀ q, ¬ (q = 38 ∨ (55 ≤ q ∧ q ≤ 59) ∨ (63 ≤ q ∧ q ≤ 69)) → m' q = m q := fun q hq => by rw [← hm', um_up_q (by omega), lm_item_row (by omega), um_up_q (by omega)]
  have Gr : ∀ q, 63 ≤ q → q ≤ 66 → m' q = m q := fun q a1 a2 => by rw [← hm', um_up_q (by omega), lm_item_row (by omega), um_up_q (by omega)]
  have G38 : ∀ i, ¬ i = 23 → m' 38 i = m 38 i := fun i hi => by rw [← hm', um_up_q (by decide), lm_item_38 hi, um_up_q (by decide)]
  have G2 : ∀ q i, 63 ≤ q → q ≤ 69 → i < r → m' q i = m q i := fun q i a1 a2 a3 => by
    rw [← hm', um_up_ne (by omega)]
    by_cases z : q = 68
    · subst z
      rw [lm_item_68 (by omega), um_up_ne (by omega)]
    · rw [lm_item_row (by omega), um_up_ne (by omega)]
  have Go : ∀ q i, 55 ≤ q → q ≤ 59 → i < I → m' q i = m q i := fun q i a1 a2 a3 => by rw [← hm', um_up_q (by omega), lm_item_old a1 a2 (by omega), um_up_q (by omega)]
  have Gi : ∀ q i, ¬ q = 69 → m' q i = lm_item (um_up m 67 r (nI (sd r + 1))) I r (m 63 r) (m 64 r) (m 65 r) (m 66 r) q i := fun q i hq => by rw [← hm', um_up_q (by omega)]
  have c59 : c' 5 9 = nI (I + 2) := (Ei 5 9 (by decide)).trans i1
  have c58 : c' 5 8 = c 5 8 := by
    rw [Ei 5 8 (by decide)]
    unfold lc_item lc_open
    rw [um_up_q (by decide), um_up_q (by decide), um_up_q (by decide), um_up_q (by decide), um_up_q (by decide), um_up_q (by decide), um_up_ne (by decide), um_up_q (by decide)]
  have c23 : c' 23 (I + 1) = c 32 r := (Ei 23 _ (by decide)).trans i2
  have c27 : c' 27 (I + 1) = nI ab := (Ei 27 _ (by decide)).trans i3
  have c28 : c' 28 (I + 1) = nI fi := (Ei 28 _ (by decide)).trans i4
  have c24 : c' 24 (I + 1) = tn := (Ei 24 _ (by decide)).trans i5
  have c25 : c' 25 (I + 1) = fn := (Ei 25 _ (by decide)).trans i6
  have c26 : c' 26 (I + 1) = lp := (Ei 26 _ (by decide)).trans i7
  have c31 : c' 31 r = nI (nd r) := by rw [Ei 31 r (by decide), lc_item_row (by decide), um_up_q (by decide)]; exact e4
  have c32 : c' 32 r = nI (4 * (I + 1)) := by rw [← hc', um_up_q (by decide), um_up_self]
  have c33 : c' 33 r = nI 1 := by rw [Ei 33 r (by decide), lc_item_row (by decide), um_up_self, hs]
  have c34 : c' 34 r = v34 := by rw [← hc', um_up_self]
  have m23 : m' 38 23 = nI (I + 1) := (Gi 38 23 (by decide)).trans o1
  have m55 : m' 55 I = nI (nd r) := ((Gi 55 I (by decide)).trans o2).trans e5
  have m56 : m' 56 I = m 64 r := (Gi 56 I (by decide)).trans o3
  have m57 : m' 57 I = nI ab := ((Gi 57 I (by decide)).trans o4).trans e8
  have m58 : m' 58 I = nI fi := ((Gi 58 I (by decide)).trans o5).trans e9
  have m59 : m' 59 I = -1 := (Gi 59 I (by decide)).trans o6
  have m68 : m' 68 r = nI I := (Gi 68 r (by decide)).trans o7
  have m67 : m' 67 r = nI 1 := by rw [Gi 67 r (by decide), lm_item_row (by decide), um_up_self, hs]
  have m69 : m' 69 r = v69 := by rw [← hm', um_up_self]
  have hF : ly_fr I c m c' m' := ⟨Eo, Go, fun q a1 a2 => G q (by omega)⟩
  have hitem : ly_item N (n + 1) D c' m' I := by
    refine ⟨nd r, ab, fi, e1, m55, m57, c27, m58, c28, e10, e11, ?_, ?_, Or.inl m59⟩
    · rw [c23, m56]
      exact ly_cx_mono (Nat.le_refl I) hF f3
    · rw [G 39 (by decide), G 42 (by decide), c24, c25, c26, c23]
      rcases hit with z | ⟨z1, z2, z3, s, p, z4, z5, z6, z7⟩
      · exact Or.inl z
      · exact Or.inr ⟨z1, z2, z3, s, p, z4, z5, z6, by rw [Eo 26 s (by decide) (by decide) z5]; exact z7⟩
  have hent : ly_ent N n (n + 1) (I + 1) B D c' m' r (nd r) (kd r) 1 (bd r) := by
    refine ⟨e1, by rw [G 39 (by decide)]; exact e2, e3, c31, by rw [Gr 63 (by decide) (by decide)]; exact e5, c33, m67, ab, fi, by rw [Gr 65 (by decide) (by decide)]; exact e8, by rw [Gr 66 (by decide) (by decide)]; exact e9, e10, e11, ?_⟩
    rcases hen with ⟨z1, z2, z3, z4⟩ | ⟨z1, z2⟩
    · exact Or.inr (Or.inr (Or.inl ⟨f1, z1, Or.inl rfl, I, n, by omega, m68, c32, m55, c24.trans z2, by rw [Gr 64 (by decide) (by decide)]; exact m56, m57, m58, m59, c34.trans z3, m69.trans z4, by omega, hDn⟩))
    · exact Or.inr (Or.inr (Or.inr (Or.inr ⟨f1, z1, Or.inl rfl, I, by omega, m68, c32, m55, c24.trans z2, by rw [Gr 64 (by decide) (by decide)]; exact m56, m57, m58, m59⟩)))
  refine ly_to_open (k2 := k2) (w2 := w2) (ab := ab2) (fi := fi2) (x := nI (4 * (I + 1))) (y := y) h har hk hs hF E E2 G G2 G38 c59 c58 m23 m59 m68 hitem hent (by omega) hw hw2 ?_ ?_ ?_ ?_ hcl hmo
  · rcases hf with ⟨z1, z2, z3, z4, -⟩ | ⟨z1, z2, z3, -⟩
    · exact Or.inl ⟨z2, by omega, Or.inr ⟨I, by omega, c24.trans z4, rfl, z3.trans m56.symm⟩⟩
    · exact Or.inr ⟨z2, rfl, Or.inr ⟨I, by omega, Or.inl ⟨rfl, z3⟩⟩⟩
  · refine Or.inr ⟨I, 0, ab, fi, by omega, by decide, rfl, c27, c28, ?_, ?_⟩
    · rw [c24]
      rcases hf with ⟨-, -, -, z4, -, z5, -⟩ | ⟨-, -, -, z4, z5, -⟩
      · rw [if_pos z4]
        exact z5
      · rw [if_neg z4]
        exact z5
    · rw [c25]
      rcases hf with ⟨-, -, -, -, z4, -, z5⟩ | ⟨-, -, -, -, -, z5⟩
      · rw [if_pos z4]
        exact z5
      · exact z5
  · rcases hf with ⟨-, -, -, -, -, z4, z5⟩ | ⟨-, -, -, -, z4, z5⟩
    · omega
    · by_cases z : fn = -1
      · rw [if_pos z] at z5
        omega
      · rw [if_neg z] at z5
        omega
  · rcases hf with ⟨z1, z2, -⟩ | ⟨z1, z2, -⟩
    · rw [f1, z1]
      unfold ly_isE
      rw [if_pos z2]
      rfl
    · rw [f1, z1]
      unfold ly_isE
      rw [if_neg (by omega)]
      rfl
end LayItem
