/-! lay: between the turns of one node and the next -/
def ly_z : Nat → Nat := fun _ => 0
/-- what holds with no node under way -/
def ly_bare (N n B I : Nat) (D : Nat → Nat) (c m : um_S) : Prop := ly_core N 0 n B 0 I D ly_z ly_z ly_z ly_z (fun _ => False) c m
/-- what is laid down stands whatever comes next: the depth at n is free -/
def ly_mid (N t n B I : Nat) (D : Nat → Nat) (c m : um_S) : Prop :=
  (∀ d, ly_bare N n B I (ly_g D n d) c m) ∧ (c 6 4 = nI t ∧ m 38 37 = nI t) ∧ (I + 1 ≤ B ∨ I = 0) ∧ ∀ j, j < I → ¬ m 59 j = -1
section LayIdle
variable {N a a2 n B t T I : Nat} {D D2 nd kd sd bd nd2 kd2 sd2 bd2 : Nat → Nat} {X X2 : Nat → Prop} {c m c2 m2 : um_S} {op arg cx my x y : Int32}
theorem ly_core_bare (h : ly_core N a n B T I D nd kd sd bd X c m) (hX : ∀ p, p < n → X p → X2 p) : ly_core N a2 n B a2 I D nd2 kd2 sd2 bd2 X2 c m := by
  obtain ⟨h1, h2, h3, h4, h5, h6, h7, h8, h9, h10⟩ := h
  exact ⟨h1, h2, h3, h4, h5, h6, h7, ly_ins_mono (by omega) (Nat.le_refl _) (Nat.le_refl _) (fun _ _ => rfl) ly_fr.rf hX (fun _ _ _ _ _ => rfl) (fun _ _ _ _ _ => rfl) h8, fun r a1 a2 => by omega, fun r a1 a2 => by omega⟩
theorem ly_inv_bare (h : ly_inv N a n B a I D nd kd sd bd c m) : ly_bare N n B I D c m ∧ D n = 0 ∧ (I + 1 ≤ B ∨ I = 0) ∧ (∀ j, j < I → ¬ m 59 j = -1) ∧ c 6 4 = nI a ∧ m 38 37 = nI a := by
  obtain ⟨h1, ⟨t1, t2, t3, t4⟩, h3, h4, h5⟩ := h
  refine ⟨ly_core_bare h1 ?_, h4 rfl, t3.2, fun j hj z => ?_, t1, t2⟩
  · rintro p hp ⟨r, a1, a2, -⟩
    have z : r = 0 := by omega
    subst z
    exact t4.2 (by omega) a2
  · obtain ⟨r, a1, a2, -⟩ := h5.1 j hj z
    omega
theorem ly_bare_emit (h : ly_bare N n B I D c m) (hlt : n < 1000) (hcx : ly_cy I (c 24) (m 56) cx my) (hins : um_ins (n + 2) D2 n op arg) (hD : ∀ k, k < n + 1 → D2 k = D k) : ly_bare N (n + 1) B I D2 (lc_emit c n op arg cx) (lm_put m n op arg my) :=
  ly_core_emit (d1 := 0) h hlt hD hcx (Or.inl hins) (fun _ _ x => x)
theorem ly_bare_row (h : ly_bare N n B I D c m) (e : ∀ q, (q = 1 ∨ q = 5 ∨ (8 ≤ q ∧ q ≤ 13) ∨ (23 ≤ q ∧ q ≤ 29)) → c2 q = c q) (e3 : c2 3 8 = c 3 8) (e2 : c2 2 5 = c 2 5 ∧ c2 2 7 = c 2 7) (g : ∀ q, ((39 ≤ q ∧ q ≤ 48) ∨ (55 ≤ q ∧ q ≤ 59)) → m2 q = m q) (g38 : ∀ k, (k = 1 ∨ k = 10 ∨ k = 20 ∨ k = 23 ∨ k = 35 ∨ k = 36) → m2 38 k = m 38 k) : ly_bare N n B I D c2 m2 := by
  obtain ⟨h1, h2, h3, h4, h5, h6, h7, h8, h9, h10⟩ := id h
  refine ly_core_keep (B2 := B) h ⟨by rw [e3]; exact h1.1, by rw [g38 35 (by omega)]; exact h1.2.1, by rw [g38 36 (by omega)]; exact h1.2.2⟩ ⟨by rw [e2.1]; exact h2.1, by rw [g38 10 (by omega)]; exact h2.2.1⟩ ⟨by rw [e2.2]; exact h3.1, by rw [g38 20 (by omega)]; exact h3.2.1, Nat.le_refl _, h3.2.2⟩ ⟨by rw [e 5 (by omega)], g38 23 (by omega)⟩ ?_ ⟨fun q s a1 a2 a3 => by rw [e q (by omega)], fun q j a1 a2 a3 => by rw [g q (by omega)], fun q a1 a2 => g q (by omega)⟩ (fun _ _ x => x) (fun q p a1 a2 a3 => by rw [e q (by omega)]) (fun q p a1 a2 a3 => by rw [g q (by omega)]) (fun q i a1 a2 a3 => by omega) (fun q i a1 a2 a3 => by omega)
  exact um_tree_of h5 (by rw [e 1 (by omega)]) (e 8 (by omega)) (e 9 (by omega)) (e 10 (by omega)) (by rw [e 26 (by omega)]) (by rw [e 27 (by omega)]) (by rw [e 28 (by omega)]) (g38 1 (by omega)) (g 39 (by omega)) (g 40 (by omega)) (g 41 (by omega)) (g 42 (by omega)) (g 43 (by omega)) (g 44 (by omega)) (g 45 (by omega))
theorem ly_bare_tree (h : ly_bare N n B I D c m) : um_tree N c m := h.2.2.2.2.1
/-- a node is begun on an empty pile -/
theorem ly_bare_begin {k2 w2 ab fi : Nat} (h : ly_bare N n B I D c m) (ha : a ≤ 1) (hB : B < 2000) (hIB : I + 1 ≤ B ∨ I = 0) (hend : ∀ j, j < I → ¬ m 59 j = -1) (hk : k2 < N) (hw : m 39 k2 = nI w2) (hw8 : 8 ≤ w2) (hw2 : w2 ≤ 18) (hcx : ly_cx I (c 24) (m 56) x y) (hup : ly_up I (c 24) (c 25) (c 27) (c 28) x ab fi) (h149 : ab + k2 ≤ 149 ∧ fi + k2 ≤ 149) (hD : D n = 0) :
    ly_inv N a n (B + 1) (a + 1) I D (ly_g ly_z a k2) (ly_g ly_z a w2) (ly_g ly_z a 0) (ly_g ly_z a 0) (lc_begin c a B (nI k2) x) (lm_begin m a B (nI k2) y (nI ab) (nI fi)) := by
  refine ly_begin_inv (C := True) (ly_core_bare (a2 := a) (nd2 := ly_z) (kd2 := ly_z) (sd2 := ly_z) (bd2 := ly_z) (X2 := ly_X a ly_z ly_z c) h (fun _ _ z => z.elim)) (Nat.le_refl _) ⟨ha, fun _ => by decide⟩ hB ⟨by omega, trivial⟩ hk hw hw2 (Or.inr ⟨hw8, rfl, hcx⟩) hup h149 hD (fun z => by omega) (fun _ => ⟨rfl, hw8⟩) (fun z => by omega) ⟨fun j hj z => absurd z (hend j hj), fun r r2 j j2 a1 a2 a3 => by omega⟩
theorem ly_mu_one {w : Nat} : ly_mu a (B + 1) (a + 1) (ly_g ly_z a w) (ly_g ly_z a 0) ≤ 10 * (2000 - (B + 1)) + 4 := by
  unfold ly_mu
  show 10 * (2000 - (B + 1)) + (ly_sum _ a a + (if a ≤ a then ly_rs (ly_g ly_z a w a) (ly_g ly_z a 0 a) else 0)) ≤ _
  have e : ∀ t, t ≤ a → ly_sum (fun r => ly_rs (ly_g ly_z a w r) (ly_g ly_z a 0 r)) a t = 0 := by
    intro t
    induction t with
    | zero => intro _; rfl
    | succ t ih =>
      intro ht
      show ly_sum _ a t + (if a ≤ t then _ else 0) = 0
      rw [ih (by omega), if_neg (by omega)]
  rw [e a (Nat.le_refl _), if_pos (Nat.le_refl _)]
  have : ly_rs (ly_g ly_z a w a) (ly_g ly_z a 0 a) ≤ 4 := by
    unfold ly_rs
    by_cases z : ly_g ly_z a w a = 16 ∨ ly_g ly_z a w a = 17
    · rw [if_pos z]
      omega
    · rw [if_neg z]
      omega
  omega
end LayIdle
