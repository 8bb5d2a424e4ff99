/-! lay: the first turn of a WHILE or TRY -/
section LayOpen2
variable {N a n B r I : Nat} {D nd kd sd bd : Nat → Nat} {c m c' m' : um_S} {k2 w2 ab fi : Nat} {x y : Int32}
theorem ly_ent_item {n u B k w s b0 : Nat} (h : ly_ent N n u I B D c m r k w s b0) (hw : w = 13 ∨ w = 18) (hs : 1 ≤ s) : ∃ j, j < I ∧ m 68 r = nI j ∧ m 59 j = -1 ∧ c 32 r = nI (4 * (j + 1)) := by
  obtain ⟨h1, h2, h3, h4, h5, h6, h7, ab, fi, h8, h9, h10, h11, hf⟩ := h
  rcases hf with ⟨z, -⟩ | ⟨-, -, -, -, z⟩ | ⟨-, -, -, j, p, z1, z2, z3, -, -, -, -, -, z4, -⟩ | ⟨-, z, -⟩ | ⟨-, -, -, j, z1, z2, z3, -, -, -, -, -, z4⟩
  · omega
  · rcases z with z | ⟨-, z⟩ | ⟨-, z⟩ | ⟨z, -⟩ | ⟨z, -⟩
    · omega
    · exfalso
      rcases hw with y | y <;> rw [y] at z <;> revert z <;> decide
    · exfalso
      rcases hw with y | y <;> rw [y] at z <;> revert z <;> decide
    · exfalso
      rcases hw with y | y <;> rw [y] at z <;> revert z <;> decide
    · exfalso
      rcases hw with y | y <;> rw [y] at z <;> revert z <;> decide
  · exact ⟨j, z1, z2, z4, z3⟩
  · exfalso
    rcases hw with y | y <;> rw [y] at z <;> revert z <;> decide
  · exact ⟨j, z1, z2, z4, z3⟩
theorem ly_open_more (ho : ly_open a (r + 1) I kd sd m) (hI : I ≤ 2000) (har : a ≤ r) (hk : kd r = 13 ∨ kd r = 18) (hs : sd r = 0) (g59 : ∀ j, j < I → m' 59 j = m 59 j) (g68 : ∀ i, i < r → m' 68 i = m 68 i) (g68r : m' 68 r = nI I) (hold : ∀ i, a ≤ i → i < r → (kd i = 13 ∨ kd i = 18) → 1 ≤ sd i → ∃ j, j < I ∧ m 68 i = nI j) : ly_open a (r + 1) (I + 1) kd (ly_g sd r 1) m' := by
  refine ⟨fun j hj hj2 => ?_, fun i i2 j j2 a1 a2 a3 a4 a5 a6 a7 a8 a9 a10 a11 => ?_⟩
  · by_cases e : j = I
    · subst e
      exact ⟨r, har, by omega, hk, by rw [ly_g_at]; exact Nat.le_refl _, g68r⟩
    · rw [g59 j (by omega)] at hj2
      obtain ⟨i, a1, a2, a3, a4, a5⟩ := ho.1 j (by omega) hj2
      have ne : ¬ i = r := by
        rintro rfl
        omega
      exact ⟨i, a1, a2, a3, by rw [ly_g_ne ne]; exact a4, by rw [g68 i (by omega)]; exact a5⟩
  · have ne : ¬ i = r := by omega
    rw [ly_g_ne ne] at a5
    rw [g68 i (by omega)] at a8
    obtain ⟨j3, hj3, e3⟩ := hold i a1 (by omega) a4 a5
    have e4 : j = j3 := (nI_eq (a := j) (b := j3) (by omega) (by omega)).mp (a8.symm.trans e3)
    subst e4
    by_cases e : i2 = r
    · subst e
      rw [g68r] at a9
      have := (nI_eq (a := I) (b := j2) (by omega) (by omega)).mp a9
      omega
    · rw [ly_g_ne e] at a7
      rw [g68 i2 (by omega)] at a9
      obtain ⟨j4, hj4, e5⟩ := hold i2 (by omega) (by omega) a6 a7
      have e6 : j2 = j4 := (nI_eq (a := j2) (b := j4) (by omega) (by omega)).mp (a9.symm.trans e5)
      subst e6
      exact ho.2 i i2 j j2 a1 a2 a3 a4 a5 a6 a7 a8 a9 hj3 hj4
theorem ly_to_open (h : ly_inv N a n B (r + 1) I D nd kd sd bd c m) (har : a ≤ r) (hk : kd r = 13 ∨ kd r = 18) (hs : sd r = 0)
    (hF : ly_fr I c m c' m') (e : ∀ q, ¬ (q = 5 ∨ (23 ≤ q ∧ q ≤ 28) ∨ (31 ≤ q ∧ q ≤ 34)) → c' q = c q) (e2 : ∀ q i, 31 ≤ q → q ≤ 34 → i < r → c' q i = c q i) (g : ∀ q, ¬ (q = 38 ∨ (55 ≤ q ∧ q ≤ 59) ∨ (63 ≤ q ∧ q ≤ 69)) → m' q = m q) (g2 : ∀ q i, 63 ≤ q → q ≤ 69 → i < r → m' q i = m q i) (g38 : ∀ i, ¬ i = 23 → m' 38 i = m 38 i) (e59 : c' 5 9 = nI (I + 2)) (e58 : c' 5 8 = c 5 8) (g23 : m' 38 23 = nI (I + 1)) (m59 : m' 59 I = -1) (m68 : m' 68 r = nI I)
    (hit : ly_item N (n + 1) D c' m' I) (hent : ly_ent N n (n + 1) (I + 1) B D c' m' r (nd r) (kd r) 1 (bd r)) (hk2 : k2 < N) (hw : m 39 k2 = nI w2) (hw2 : w2 ≤ 18) (hf : (w2 ≤ 7 ∧ 0 + k2 ≤ 149 ∧ ly_cy (I + 1) (c' 24) (m' 56) x y) ∨ (8 ≤ w2 ∧ (0 : Nat) = 0 ∧ ly_cx (I + 1) (c' 24) (m' 56) x y)) (hup : ly_up (I + 1) (c' 24) (c' 25) (c' 27) (c' 28) x ab fi) (h149 : ab + k2 ≤ 149 ∧ fi + k2 ≤ 149) (hE : 0 + ly_isE w2 = bd r + ly_pd (kd r) 1)
    (hcl : ∀ (fuel v : Nat) (b : um_S) (Q : um_S → Prop), v < 1000000 → wp_La_begin (nI k2) x (um_J c' b) (fun σ => wp_La_takeTurns_2 Q fuel (nI (v + 1)) σ) → wp_La_takeTurns_2 Q (fuel + 1) (nI v) (um_J c b))
    (hmo : ∀ (b : um_S) (Q : um_S → Prop), wp_Mo_begin (nI k2) y (nI ab) (nI fi) (um_J b m') Q → wp_Mo_goesOn (um_J b m) Q) : ly_to N a n B (r + 1) I D kd sd c m := by
  obtain ⟨⟨⟨q1, q2, q3⟩, ⟨n1, n2, n3⟩, ⟨b1, b2', b3⟩, ⟨c59, -, hIB⟩, -, -, hitems, -, hents, -⟩, ⟨t1, t2, t3, t4⟩, hd, -, ho⟩ := id h
  have hI1 : I + 1 ≤ B := by omega
  have hb0 : bd r = 0 := by
    obtain ⟨-, -, -, -, -, -, -, ab0, fi0, -, -, -, -, hf0⟩ := ly_inv_ent h har
    rcases hf0 with ⟨z, -⟩ | ⟨z, -⟩ | ⟨z, -⟩ | ⟨z, -⟩ | ⟨z, -⟩
    · exfalso
      rcases hk with y | y <;> rw [y] at z <;> revert z <;> decide
    · exact z
    · exact z
    · exact z
    · exact z
  have hDn : D n = 0 := by
    have := (hd (by omega)).1
    rw [Nat.add_sub_cancel, hb0, hs] at this
    rw [this]
    rcases hk with y | y <;> rw [y] <;> rfl
  have kp : ly_kp a c m c' m' := by
    refine ⟨fun q hq => e q (by omega), fun k _ => by rw [e 2 (by decide)], fun k _ => by rw [e 3 (by decide)], ⟨e58, fun q a1 a2 => hF.1 q 0 (by omega) (by omega) (by omega)⟩, e 7 (by decide), fun q hq => g q (by omega), fun k hk => g38 k (by omega), fun q k a1 a2 a3 => e2 q k a1 a2 (by omega), fun q k a1 a2 a3 => g2 q k a1 a2 (by omega)⟩
  refine ly_to_begin (t := r + 1) (c' := c') (m' := m') (by omega) (by rw [g38 35 (by decide)]; exact q2) (by rw [g38 36 (by decide)]; exact q3) (by rw [e 2 (by decide)]; exact b1) (by rw [g38 20 (by decide)]; exact b2') b3 (by rw [e 6 (by decide)]; exact t1) (by rw [g38 37 (by decide)]; exact t2) kp (fun hB => ?_) hcl hmo
  have hc0 := ly_core_open (ly_inv_core h) hI1 hF e e2 g g2 g38 e59 g23 hit
  have hc1 := ly_core_X (X2 := ly_X (r + 1) kd (ly_g sd r 1) c') hc0 (by
    rintro p hp ⟨i, a1, a2, a3, a4⟩
    by_cases ei : i = r
    · subst ei
      rcases hk with z | z <;> exact absurd (a2.symm.trans z) (by decide)
    · exact ⟨i, a1, a2, by rw [ly_g_ne ei]; exact a3, by rw [e2 34 i (by decide) (by decide) (by omega)]; exact a4⟩)
  have hc2 := ly_core_gh (nd2 := nd) (kd2 := kd) (sd2 := ly_g sd r 1) (bd2 := bd) hc1 (fun i hi => ⟨rfl, rfl, ly_g_ne (by omega), rfl⟩)
  have hc3 := ly_core_top hc2 (fun _ => by rw [ly_g_at]; exact hent) (fun h0 => by rw [ly_g_ne (by omega)]; exact ly_inv_link h h0)
  have ho2 : ly_open a (r + 1) (I + 1) kd (ly_g sd r 1) m' := ly_open_more ho (by omega) har hk hs (fun j hj => hF.2.1 59 j (by decide) (by decide) hj) (fun i hi => g2 68 i (by decide) (by decide) hi) m68 (fun i a1 a2 a3 a4 => by
    obtain ⟨j, z1, z2, -⟩ := ly_ent_item (hents i a1 (by omega)) a3 a4
    exact ⟨j, z1, z2⟩)
  refine ⟨_, _, _, _, I + 1, D, ly_begin_inv hc3 (by omega) t4 hB ⟨t3.1, trivial⟩ hk2 (by rw [g 39 (by decide)]; exact hw) hw2 hf hup h149 hDn (fun _ => ?_) (fun z => by omega) (fun _ => (hd (by omega)).2) ho2, ?_, ⟨by omega, fun j hj => ⟨hF.2.1 55 j (by decide) (by decide) hj, hF.2.1 57 j (by decide) (by decide) hj, fun _ => hF.2.1 59 j (by decide) (by decide) hj⟩, fun j nd0 hj _ _ _ z => ?_⟩, fun _ _ => rfl⟩
  · rw [Nat.add_sub_cancel, ly_g_at]
    exact hE
  · refine ly_mu_begin hB (by omega) (fun i hi => ?_) ly_g_at
    rw [ly_g_ne (by omega), ly_g_ne (show ¬ i = r + 1 by omega)]
    by_cases ei : i = r
    · subst ei
      rw [ly_g_at, hs]
      rcases hk with y | y <;> rw [y] <;> decide
    · rw [ly_g_ne ei]
      exact Nat.le_refl _
  · by_cases ej : j = I
    · subst ej
      exact absurd m59 z
    · rw [hF.2.1 59 j (by decide) (by decide) (by omega)] at z
      exact ⟨by omega, z⟩
end LayOpen2
