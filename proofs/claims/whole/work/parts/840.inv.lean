/-! lay: the invariant between two turns -/
def ly_g (f : Nat → Nat) (i v : Nat) : Nat → Nat := fun k => if k = i then v else f k
theorem ly_g_at {f : Nat → Nat} {i v : Nat} : ly_g f i v i = v := if_pos rfl
theorem ly_g_ne {f : Nat → Nat} {i v k : Nat} (h : ¬ k = i) : ly_g f i v k = f k := if_neg h
/-- the WHILEs and TRYs that have no end yet are open, the inner ones later -/
def ly_open (a t I : Nat) (kd sd : Nat → Nat) (m : um_S) : Prop :=
  (∀ j, j < I → m 59 j = -1 → ∃ r, a ≤ r ∧ r < t ∧ (kd r = 13 ∨ kd r = 18) ∧ 1 ≤ sd r ∧ m 68 r = nI j) ∧
  ∀ r r2 j j2, a ≤ r → r < r2 → r2 < t → (kd r = 13 ∨ kd r = 18) → 1 ≤ sd r → (kd r2 = 13 ∨ kd r2 = 18) → 1 ≤ sd r2 → m 68 r = nI j → m 68 r2 = nI j2 → j < I → j2 < I → j < j2
def ly_inv (N a n B t I : Nat) (D nd kd sd bd : Nat → Nat) (c m : um_S) : Prop :=
  ly_core N a n B t I D nd kd sd bd (ly_X t kd sd c) c m ∧ (c 6 4 = nI t ∧ m 38 37 = nI t ∧ (t ≤ B + a ∧ (I + 1 ≤ B ∨ I = 0)) ∧ (a ≤ 1 ∧ (a = 1 → ¬ kd 0 = 12))) ∧
  (a < t → D n = bd (t - 1) + ly_pd (kd (t - 1)) (sd (t - 1)) ∧ bd a = 0 ∧ 8 ≤ kd a) ∧ (t = a → D n = 0) ∧ ly_open a t I kd sd m
/-- rows that no inner turn changes -/
def ly_kp (a : Nat) (c m c2 m2 : um_S) : Prop :=
  (∀ q, (q = 1 ∨ q = 4 ∨ (8 ≤ q ∧ q ≤ 10) ∨ (14 ≤ q ∧ q ≤ 22) ∨ q = 30 ∨ (35 ≤ q ∧ q ≤ 37)) → c2 q = c q) ∧ (∀ k, ¬ (k = 5 ∨ k = 7) → c2 2 k = c 2 k) ∧ (∀ k, ¬ k = 8 → c2 3 k = c 3 k) ∧ (c2 5 8 = c 5 8 ∧ ∀ q, 26 ≤ q → q ≤ 28 → c2 q 0 = c q 0) ∧ c2 7 = c 7 ∧
  (∀ q, ((39 ≤ q ∧ q ≤ 45) ∨ (49 ≤ q ∧ q ≤ 54) ∨ (60 ≤ q ∧ q ≤ 62) ∨ 70 ≤ q) → m2 q = m q) ∧ (∀ k, ¬ (k = 10 ∨ k = 20 ∨ k = 23 ∨ k = 35 ∨ k = 36 ∨ k = 37) → m2 38 k = m 38 k) ∧
  (∀ q k, 31 ≤ q → q ≤ 34 → k < a → c2 q k = c q k) ∧ ∀ q k, 63 ≤ q → q ≤ 69 → k < a → m2 q k = m q k
/-- the items after a turn: I of them before, I1 now; a TRY's end is not set by it -/
def ly_gw (I I1 : Nat) (m m1 : um_S) : Prop :=
  I ≤ I1 ∧ (∀ j, j < I → m1 55 j = m 55 j ∧ m1 57 j = m 57 j ∧ (¬ m 59 j = -1 → m1 59 j = m 59 j)) ∧ ∀ j nd : Nat, j < I1 → nd < 150 → m1 55 j = nI nd → m 39 nd = 18 → ¬ m1 59 j = -1 → j < I ∧ ¬ m 59 j = -1
/-- too large, or ill: alike on both sides -/
def ly_fail (c m : um_S) : Prop := (c 3 8 = -2 ∧ m 38 35 = 1 ∧ m 38 36 = 0) ∨ (c 3 8 = -3 ∧ m 38 36 = 1)
/-- how much is left to do for an entry -/
def ly_rs (w s : Nat) : Nat := if w = 16 ∨ w = 17 then 1 else 4 - s
def ly_sum (f : Nat → Nat) (a : Nat) : Nat → Nat
  | 0 => 0
  | t + 1 => ly_sum f a t + (if a ≤ t then f t else 0)
def ly_mu (a B t : Nat) (kd sd : Nat → Nat) : Nat := 10 * (2000 - B) + ly_sum (fun r => ly_rs (kd r) (sd r)) a t
/-- what a turn comes to -/
def ly_to (N a n B t I : Nat) (D kd sd : Nat → Nat) (c m : um_S) : Prop :=
  ∃ c1 m1, ly_st c m c1 m1 ∧ ly_kp a c m c1 m1 ∧
    ((∃ n1 B1 t1 I1 D1 nd1 kd1 sd1 bd1, ly_inv N a n1 B1 t1 I1 D1 nd1 kd1 sd1 bd1 c1 m1 ∧ ly_mu a B1 t1 kd1 sd1 < ly_mu a B t kd sd ∧ n ≤ n1 ∧ ly_gw I I1 m m1 ∧ (t1 + B ≤ B1 + t ∧ a ≤ t1) ∧ ∀ k, k < n + 1 → D1 k = D k) ∨ ly_fail c1 m1)
section LayInv
variable {N a n B T r t I : Nat} {D nd kd sd bd nd2 kd2 sd2 bd2 : Nat → Nat} {X X2 : Nat → Prop} {c m c2 m2 : um_S}
theorem ly_sum_le {f g : Nat → Nat} : ∀ t, (∀ r, r < t → f r = g r) → ly_sum f a t = ly_sum g a t
  | 0, _ => rfl
  | t + 1, h => by
    show ly_sum f a t + _ = ly_sum g a t + _
    rw [ly_sum_le t (fun r hr => h r (by omega)), h t (by omega)]
theorem ly_core_less (h : ly_core N a n B T I D nd kd sd bd X c m) (hr : r ≤ T) : ly_core N a n B r I D nd kd sd bd X c m := by
  obtain ⟨h1, h2, h3, h4, h5, h6, h7, h8, h9, h10⟩ := h
  exact ⟨h1, h2, h3, h4, h5, h6, h7, h8, fun i a1 a2 => h9 i a1 (by omega), fun i a1 a2 => h10 i a1 (by omega)⟩
theorem ly_core_gh (h : ly_core N a n B T I D nd kd sd bd X c m) (hg : ∀ i, i < T → nd2 i = nd i ∧ kd2 i = kd i ∧ sd2 i = sd i ∧ bd2 i = bd i) : ly_core N a n B T I D nd2 kd2 sd2 bd2 X c m := by
  obtain ⟨h1, h2, h3, h4, h5, h6, h7, h8, h9, h10⟩ := h
  refine ⟨h1, h2, h3, h4, h5, h6, h7, h8, fun i a1 a2 => ?_, fun i a1 a2 => ?_⟩
  · obtain ⟨e1, e2, e3, e4⟩ := hg i a2
    rw [e1, e2, e3, e4]
    exact h9 i a1 a2
  · obtain ⟨e1, e2, e3, e4⟩ := hg i (by omega)
    obtain ⟨f1, f2, f3, f4⟩ := hg (i + 1) a2
    rw [e2, e3, e4, f2, f4]
    exact h10 i a1 a2
theorem ly_core_X (h : ly_core N a n B T I D nd kd sd bd X c m) (hX : ∀ p, p < n → X p → X2 p) : ly_core N a n B T I D nd kd sd bd X2 c m := by
  obtain ⟨h1, h2, h3, h4, h5, h6, h7, h8, h9, h10⟩ := h
  exact ⟨h1, h2, h3, h4, h5, h6, h7, ly_ins_mono (by omega) (Nat.le_refl _) (Nat.le_refl _) (fun _ _ => rfl) ly_fr.rf hX (fun _ _ _ _ _ => rfl) (fun _ _ _ _ _ => rfl) h8, h9, h10⟩
/-- the topmost entry, on top of the core -/
theorem ly_core_top (h : ly_core N a n B r I D nd kd sd bd X c m) (ht : a ≤ r → ly_ent N n (n + 1) I B D c m r (nd r) (kd r) (sd r) (bd r)) (hl : a < r → bd r + ly_isE (kd r) = bd (r - 1) + ly_pd (kd (r - 1)) (sd (r - 1))) : ly_core N a n B (r + 1) I D nd kd sd bd X c m := by
  obtain ⟨h1, h2, h3, h4, h5, h6, h7, h8, h9, h10⟩ := h
  refine ⟨h1, h2, h3, h4, h5, h6, h7, h8, fun i a1 a2 => ?_, fun i a1 a2 => ?_⟩
  · by_cases e : i = r
    · subst e
      exact ht a1
    · exact h9 i a1 (by omega)
  · by_cases e : i + 1 = r
    · have := hl (by omega)
      rw [← e] at this
      exact this
    · exact h10 i a1 (by omega)
theorem ly_inv_core (h : ly_inv N a n B (r + 1) I D nd kd sd bd c m) : ly_core N a n B r I D nd kd sd bd (ly_X (r + 1) kd sd c) c m := ly_core_less h.1 (by omega)
theorem ly_inv_link (h : ly_inv N a n B (r + 1) I D nd kd sd bd c m) : a < r → bd r + ly_isE (kd r) = bd (r - 1) + ly_pd (kd (r - 1)) (sd (r - 1)) := by
  intro h0
  have := h.1.2.2.2.2.2.2.2.2.2 (r - 1) (by omega) (by omega)
  rwa [show r - 1 + 1 = r by omega] at this
/-- a row of the topmost entry, or one that counts nothing here, changes -/
theorem ly_core_up (h : ly_core N a n B r I D nd kd sd bd X c m) {q k q2 k2 : Nat} {v v2 : Int32} (hq : (31 ≤ q ∧ q ≤ 34 ∧ r ≤ k) ∨ (q = 6) ) (hq2 : (63 ≤ q2 ∧ q2 ≤ 69 ∧ r ≤ k2) ∨ (q2 = 38 ∧ k2 = 37)) : ly_core N a n B r I D nd kd sd bd X (um_up c q k v) (um_up m q2 k2 v2) := by
  obtain ⟨h1, h2, h3, h4, h5, h6, h7, h8, h9, h10⟩ := id h
  refine ly_core_keep h ⟨by rw [um_up_q (by omega)]; exact h1.1, by rw [um_up_ne (by omega)]; exact h1.2.1, by rw [um_up_ne (by omega)]; exact h1.2.2⟩ ⟨by rw [um_up_q (by omega)]; exact h2.1, by rw [um_up_ne (by omega)]; exact h2.2.1⟩ ⟨by rw [um_up_q (by omega)]; exact h3.1, by rw [um_up_ne (by omega)]; exact h3.2.1, Nat.le_refl _, h3.2.2⟩ ⟨by rw [um_up_q (by omega)], by rw [um_up_ne (by omega)]⟩ (um_tree_um (um_tree_uc h5 (by omega)) (by omega)) ⟨fun q s a1 a2 a3 => by rw [um_up_q (by omega)], fun q j a1 a2 a3 => by rw [um_up_q (by omega)], fun q a1 a2 => um_up_q (by omega)⟩ (fun _ _ x => x) (fun q p a1 a2 a3 => by rw [um_up_q (by omega)]) (fun q p a1 a2 a3 => by rw [um_up_q (by omega)]) (fun q i a1 a2 a3 => um_up_ne (by omega)) (fun q i a1 a2 a3 => um_up_ne (by omega))
/-- an instruction is laid down, and the topmost entry has ended -/
theorem ly_finish (h : ly_inv N a n B (r + 1) I D nd kd sd bd c m) (har : a ≤ r) (hlt : n < 1000) (hno1 : ¬ (kd r = 12 ∧ (sd r = 2 ∨ sd r = 3))) (hno2 : ¬ ((kd r = 13 ∨ kd r = 18) ∧ 1 ≤ sd r)) {op arg my s1 s2 : Int32}
    (hcx : ly_cy I (c 24) (m 56) (c 32 r) my) (hins : um_ins (n + 2) (ly_g D (n + 1) (bd r + ly_isE (kd r))) n op arg) :
    ly_inv N a (n + 1) B r I (ly_g D (n + 1) (bd r + ly_isE (kd r))) nd kd sd bd (um_up (lc_emit (um_up c 33 r s1) n op arg (c 32 r)) 6 4 (nI r)) (um_up (lm_put (um_up m 67 r s2) n op arg my) 38 37 (nI r)) := by
  have hc := ly_inv_core h
  obtain ⟨-, ⟨t1, t2, t3, t4⟩, hd, -, ho1, ho2⟩ := id h
  have hX : ∀ p, p < n → ly_X (r + 1) kd sd c p → ly_X r kd sd c p := by
    rintro p - ⟨i, a1, a2, a3, a4⟩
    by_cases e : i = r
    · subst e
      exact absurd ⟨a2, a3⟩ hno1
    · exact ⟨i, by omega, a2, a3, a4⟩
  have hc1 := ly_core_up (v := s1) (v2 := s2) (ly_core_X hc hX) (q := 33) (k := r) (q2 := 67) (k2 := r) (Or.inl ⟨by decide, by decide, Nat.le_refl _⟩) (Or.inl ⟨by decide, by decide, Nat.le_refl _⟩)
  have hc2 := ly_core_emit (op := op) (arg := arg) (cx := c 32 r) (my := my) (D2 := ly_g D (n + 1) (bd r + ly_isE (kd r))) (X2 := ly_X r kd sd c) (d1 := 0) hc1 hlt (fun k hk => ly_g_ne (by omega)) (by rw [um_up_q (by decide), um_up_q (by decide)]; exact hcx) (Or.inl hins) (fun _ _ x => x)
  have hc3 := ly_core_up (v := nI r) (v2 := nI r) hc2 (q := 6) (k := 4) (q2 := 38) (k2 := 37) (Or.inr rfl) (Or.inr ⟨rfl, rfl⟩)
  have e34 : ∀ i, (um_up (lc_emit (um_up c 33 r s1) n op arg (c 32 r)) 6 4 (nI r)) 34 i = c 34 i := fun i => by rw [um_up_q (by decide), lc_emit_row (by decide), um_up_q (by decide)]
  have e68 : ∀ q, q = 59 ∨ q = 68 → (um_up (lm_put (um_up m 67 r s2) n op arg my) 38 37 (nI r)) q = m q := fun q hq => by rw [um_up_q (by omega), lm_put_row (by omega), um_up_q (by omega)]
  refine ⟨ly_core_X hc3 ?_, ⟨um_up_self, um_up_self, by omega, t4⟩, ?_, ?_, ?_, ?_⟩
  · rintro p - ⟨i, a1, a2, a3, a4⟩
    exact ⟨i, a1, a2, a3, by rw [e34]; exact a4⟩
  · intro h0
    rw [ly_g_at]
    have := ly_inv_link h h0
    exact ⟨this, (hd (by omega)).2⟩
  · intro e
    rw [ly_g_at]
    obtain ⟨-, b0, k0⟩ := hd (by omega)
    subst e
    rw [b0, ly_isE, if_neg (by omega)]
  · intro j hj hj2
    rw [e68 59 (Or.inl rfl)] at hj2
    obtain ⟨i, a1, a2, a3, a4, a5⟩ := ho1 j hj hj2
    by_cases e : i = r
    · subst e
      exact absurd ⟨a3, a4⟩ hno2
    · exact ⟨i, a1, by omega, a3, a4, by rw [e68 68 (Or.inr rfl)]; exact a5⟩
  · intro i i2 j j2 a1 a2 a3 a4 a5 a6 a7 a8 a9
    rw [e68 68 (Or.inr rfl)] at a8 a9
    exact ho2 i i2 j j2 a1 a2 (by omega) a4 a5 a6 a7 a8 a9
end LayInv
