/-! lay: what the primitives leave and what they write -/
section LayRows
variable {c m : um_S} {n t B q k p : Nat} {op arg ctx node step ab fi : Int32}
theorem lc_emit_row (h : ¬ (q = 2 ∨ q = 11 ∨ q = 12 ∨ q = 13)) : lc_emit c n op arg ctx q = c q := by
  unfold lc_emit
  rw [um_up_q (by omega), um_up_q (by omega), um_up_q (by omega), um_up_q (by omega)]
theorem lc_emit_2 (h : ¬ k = 5) : lc_emit c n op arg ctx 2 k = c 2 k := by
  unfold lc_emit
  rw [um_up_ne (by omega), um_up_q (by decide), um_up_q (by decide), um_up_q (by decide)]
theorem lc_emit_n : lc_emit c n op arg ctx 2 5 = nI (n + 1) := by
  unfold lc_emit
  rw [um_up_self]
theorem lc_emit_old (h1 : 11 ≤ q) (h2 : q ≤ 13) (h : p < n) : lc_emit c n op arg ctx q p = c q p := by
  unfold lc_emit
  rw [um_up_ne (by omega), um_up_ne (by omega), um_up_ne (by omega), um_up_ne (by omega)]
theorem lc_emit_at : lc_emit c n op arg ctx 11 n = op ∧ lc_emit c n op arg ctx 12 n = arg ∧ lc_emit c n op arg ctx 13 n = ctx := by
  unfold lc_emit
  refine ⟨?_, ?_, ?_⟩
  · rw [um_up_q (by decide), um_up_q (by decide), um_up_q (by decide), um_up_self]
  · rw [um_up_q (by decide), um_up_q (by decide), um_up_self]
  · rw [um_up_q (by decide), um_up_self]
theorem lm_put_row (h : ¬ (q = 38 ∨ q = 46 ∨ q = 47 ∨ q = 48)) : lm_put m n op arg ctx q = m q := by
  unfold lm_put
  rw [um_up_q (by omega), um_up_q (by omega), um_up_q (by omega), um_up_q (by omega)]
theorem lm_put_38 (h : ¬ k = 10) : lm_put m n op arg ctx 38 k = m 38 k := by
  unfold lm_put
  rw [um_up_ne (by omega), um_up_q (by decide), um_up_q (by decide), um_up_q (by decide)]
theorem lm_put_n : lm_put m n op arg ctx 38 10 = nI (n + 1) := by
  unfold lm_put
  rw [um_up_self]
theorem lm_put_old (h1 : 46 ≤ q) (h2 : q ≤ 48) (h : p < n) : lm_put m n op arg ctx q p = m q p := by
  unfold lm_put
  rw [um_up_ne (by omega), um_up_ne (by omega), um_up_ne (by omega), um_up_ne (by omega)]
theorem lm_put_at : lm_put m n op arg ctx 46 n = op ∧ lm_put m n op arg ctx 47 n = arg ∧ lm_put m n op arg ctx 48 n = ctx := by
  unfold lm_put
  refine ⟨?_, ?_, ?_⟩
  · rw [um_up_q (by decide), um_up_q (by decide), um_up_q (by decide), um_up_self]
  · rw [um_up_q (by decide), um_up_q (by decide), um_up_self]
  · rw [um_up_q (by decide), um_up_self]
theorem lc_begin_row (h : ¬ (q = 2 ∨ q = 6 ∨ (31 ≤ q ∧ q ≤ 34))) : lc_begin c t B node ctx q = c q := by
  unfold lc_begin lc_push
  rw [um_up_q (by omega), um_up_q (by omega), um_up_q (by omega), um_up_q (by omega), um_up_q (by omega), um_up_q (by omega)]
theorem lc_begin_2 (h : ¬ k = 7) : lc_begin c t B node ctx 2 k = c 2 k := by
  unfold lc_begin lc_push
  rw [um_up_q (by decide), um_up_q (by decide), um_up_q (by decide), um_up_q (by decide), um_up_q (by decide), um_up_ne (by omega)]
theorem lc_begin_B : lc_begin c t B node ctx 2 7 = nI (B + 1) := by
  unfold lc_begin lc_push
  rw [um_up_q (by decide), um_up_q (by decide), um_up_q (by decide), um_up_q (by decide), um_up_q (by decide), um_up_self]
theorem lc_begin_t : lc_begin c t B node ctx 6 4 = nI (t + 1) := by
  unfold lc_begin lc_push
  rw [um_up_self]
theorem lc_begin_old (h1 : 31 ≤ q) (h2 : q ≤ 34) (h : p < t) : lc_begin c t B node ctx q p = c q p := by
  unfold lc_begin lc_push
  rw [um_up_ne (by omega), um_up_ne (by omega), um_up_ne (by omega), um_up_ne (by omega), um_up_ne (by omega), um_up_ne (by omega)]
theorem lc_begin_at : lc_begin c t B node ctx 31 t = node ∧ lc_begin c t B node ctx 32 t = ctx ∧ lc_begin c t B node ctx 33 t = 0 ∧ lc_begin c t B node ctx 34 t = -1 := by
  unfold lc_begin lc_push
  refine ⟨?_, ?_, ?_, ?_⟩
  · rw [um_up_q (by decide), um_up_q (by decide), um_up_q (by decide), um_up_q (by decide), um_up_self]
  · rw [um_up_q (by decide), um_up_q (by decide), um_up_q (by decide), um_up_self]
  · rw [um_up_q (by decide), um_up_q (by decide), um_up_self]
  · rw [um_up_q (by decide), um_up_self]
theorem lm_begin_row (h : ¬ (q = 38 ∨ (63 ≤ q ∧ q ≤ 69))) : lm_begin m t B node ctx ab fi q = m q := by
  unfold lm_begin
  rw [um_up_q (by omega), um_up_q (by omega), um_up_q (by omega), um_up_q (by omega), um_up_q (by omega), um_up_q (by omega), um_up_q (by omega), um_up_q (by omega), um_up_q (by omega)]
theorem lm_begin_38 (h : ¬ (k = 20 ∨ k = 37)) : lm_begin m t B node ctx ab fi 38 k = m 38 k := by
  unfold lm_begin
  rw [um_up_ne (by omega), um_up_q (by decide), um_up_q (by decide), um_up_q (by decide), um_up_q (by decide), um_up_q (by decide), um_up_q (by decide), um_up_q (by decide), um_up_ne (by omega)]
theorem lm_begin_B : lm_begin m t B node ctx ab fi 38 20 = nI (B + 1) := by
  unfold lm_begin
  rw [um_up_ne (by decide), um_up_q (by decide), um_up_q (by decide), um_up_q (by decide), um_up_q (by decide), um_up_q (by decide), um_up_q (by decide), um_up_q (by decide), um_up_self]
theorem lm_begin_t : lm_begin m t B node ctx ab fi 38 37 = nI (t + 1) := by
  unfold lm_begin
  rw [um_up_self]
theorem lm_begin_old (h1 : 63 ≤ q) (h2 : q ≤ 69) (h : p < t) : lm_begin m t B node ctx ab fi q p = m q p := by
  unfold lm_begin
  rw [um_up_ne (by omega), um_up_ne (by omega), um_up_ne (by omega), um_up_ne (by omega), um_up_ne (by omega), um_up_ne (by omega), um_up_ne (by omega), um_up_ne (by omega), um_up_ne (by omega)]
theorem lm_begin_at : lm_begin m t B node ctx ab fi 63 t = node ∧ lm_begin m t B node ctx ab fi 64 t = ctx ∧ lm_begin m t B node ctx ab fi 65 t = ab ∧ lm_begin m t B node ctx ab fi 66 t = fi ∧ lm_begin m t B node ctx ab fi 67 t = 0 := by
  unfold lm_begin
  refine ⟨?_, ?_, ?_, ?_, ?_⟩
  · rw [um_up_q (by decide), um_up_q (by decide), um_up_q (by decide), um_up_q (by decide), um_up_q (by decide), um_up_q (by decide), um_up_q (by decide), um_up_self]
  · rw [um_up_q (by decide), um_up_q (by decide), um_up_q (by decide), um_up_q (by decide), um_up_q (by decide), um_up_q (by decide), um_up_self]
  · rw [um_up_q (by decide), um_up_q (by decide), um_up_q (by decide), um_up_q (by decide), um_up_q (by decide), um_up_self]
  · rw [um_up_q (by decide), um_up_q (by decide), um_up_q (by decide), um_up_q (by decide), um_up_self]
  · rw [um_up_q (by decide), um_up_q (by decide), um_up_q (by decide), um_up_self]
end LayRows
/-- jumps of open IFs among the first T entries -/
def ly_X (T : Nat) (kd sd : Nat → Nat) (c : um_S) (p : Nat) : Prop := ∃ r, r < T ∧ kd r = 12 ∧ (sd r = 2 ∨ sd r = 3) ∧ c 34 r = nI p
/-- what holds apart from the topmost entries: T lower ones; X: jumps whose goals wait -/
def ly_core (N a n B T I : Nat) (D nd kd sd bd : Nat → Nat) (X : Nat → Prop) (c m : um_S) : Prop :=
  (c 3 8 = 0 ∧ m 38 35 = 0 ∧ m 38 36 = 0) ∧ (c 2 5 = nI n ∧ m 38 10 = nI n ∧ n ≤ 1000) ∧ (c 2 7 = nI B ∧ m 38 20 = nI B ∧ B ≤ 2000) ∧ (c 5 9 = nI (I + 1) ∧ m 38 23 = nI I ∧ I ≤ B) ∧
  um_tree N c m ∧ (c 24 0 = -1 ∧ c 25 0 = -1) ∧ (∀ j, j < I → ly_item N (n + 1) D c m j) ∧ ly_ins n (n + 1) I D X c m ∧
  (∀ r, a ≤ r → r < T → ly_ent N n (n + 1) I B D c m r (nd r) (kd r) (sd r) (bd r)) ∧
  ∀ r, a ≤ r → r + 1 < T → bd (r + 1) + ly_isE (kd (r + 1)) = bd r + ly_pd (kd r) (sd r)
section LayCore
variable {N a n B B2 T I : Nat} {D D2 nd kd sd bd : Nat → Nat} {X X2 : Nat → Prop} {c m c2 m2 : um_S}
/-- other rows change -/
theorem ly_core_keep (h : ly_core N a n B T I D nd kd sd bd X c m) (hs : c2 3 8 = 0 ∧ m2 38 35 = 0 ∧ m2 38 36 = 0) (hn : c2 2 5 = nI n ∧ m2 38 10 = nI n) (hB : c2 2 7 = nI B2 ∧ m2 38 20 = nI B2 ∧ B ≤ B2 ∧ B2 ≤ 2000) (hI : c2 5 9 = c 5 9 ∧ m2 38 23 = m 38 23) (hT : um_tree N c2 m2) (hF : ly_fr I c m c2 m2) (hX : ∀ p, p < n → X p → X2 p)
    (e : ∀ q p, 11 ≤ q → q ≤ 13 → p < n → c2 q p = c q p) (g : ∀ q p, 46 ≤ q → q ≤ 48 → p < n → m2 q p = m q p) (e2 : ∀ q r, 31 ≤ q → q ≤ 34 → r < T → c2 q r = c q r) (g2 : ∀ q r, 63 ≤ q → q ≤ 69 → r < T → m2 q r = m q r) : ly_core N a n B2 T I D nd kd sd bd X2 c2 m2 := by
  obtain ⟨h1, h2, h3, h4, h5, h6, h7, h8, h9, h10⟩ := h
  refine ⟨hs, ⟨hn.1, hn.2, h2.2.2⟩, ⟨hB.1, hB.2.1, hB.2.2.2⟩, ⟨hI.1.trans h4.1, hI.2.trans h4.2.1, ?_⟩, hT, ⟨(hF.1 24 0 (by decide) (by decide) (by omega)).trans h6.1, (hF.1 25 0 (by decide) (by decide) (by omega)).trans h6.2⟩, fun j hj => ly_item_mono hj (Nat.le_refl _) (fun _ _ => rfl) hF (h7 j hj), ly_ins_mono (by omega) (Nat.le_refl _) (Nat.le_refl _) (fun _ _ => rfl) hF hX e g h8, fun r h r2 => ?_, h10⟩
  · have := hB.2.2.1
    omega
  · exact ly_ent_mono (Nat.le_refl _) (by omega) (fun p hp => Or.inr rfl) (Nat.le_refl _) (Nat.le_refl _) hB.2.2.1 (fun _ _ => rfl) hF (fun q a1 a2 => e2 q r a1 a2 r2) (fun q a1 a2 => g2 q r a1 a2 r2) (fun p hp => g 46 p (by decide) (by decide) hp) (h9 r h r2)
/-- one more instruction -/
theorem ly_core_emit {op arg cx my : Int32} {d1 : Nat} (h : ly_core N a n B T I D nd kd sd bd X c m) (hlt : n < 1000) (hD : ∀ k, k < n + 1 → D2 k = D k)
    (hcx : ly_cy I (c 24) (m 56) cx my)
    (hins : (um_ins (n + 2) D2 n op arg) ∨ (((op = 10 ∧ D n = 1 ∧ D2 (n + 1) = 0) ∨ (op = 11 ∧ D n = 0)) ∧ ((X2 n ∧ arg = 0) ∨ ∃ j, j < I ∧ c 24 (j + 1) = -1 ∧ m 59 j = -1 ∧ arg = -(nI (j + 1)))))
    (hX : ∀ p, p < n → X p → X2 p) : ly_core N a (n + 1) B T I D2 nd kd sd bd X2 (lc_emit c n op arg cx) (lm_put m n op arg my) := by
  obtain ⟨h1, h2, h3, h4, h5, h6, h7, h8, h9, h10⟩ := h
  have hF : ly_fr I c m (lc_emit c n op arg cx) (lm_put m n op arg my) := ⟨fun q s a1 a2 a3 => by rw [lc_emit_row (by omega)], fun q j a1 a2 a3 => by rw [lm_put_row (by omega)], fun q a1 a2 => lm_put_row (by omega)⟩
  have hT : um_tree N (lc_emit c n op arg cx) (lm_put m n op arg my) := um_tree_of h5 (by rw [lc_emit_row (by decide)]) (lc_emit_row (by decide)) (lc_emit_row (by decide)) (lc_emit_row (by decide)) (by rw [lc_emit_row (by decide)]) (by rw [lc_emit_row (by decide)]) (by rw [lc_emit_row (by decide)])
    (lm_put_38 (by decide)) (lm_put_row (by decide)) (lm_put_row (by decide)) (lm_put_row (by decide)) (lm_put_row (by decide)) (lm_put_row (by decide)) (lm_put_row (by decide)) (lm_put_row (by decide))
  have o1 : ∀ q p, 11 ≤ q → q ≤ 13 → p < n → lc_emit c n op arg cx q p = c q p := fun q p a1 a2 a3 => lc_emit_old a1 a2 a3
  have o2 : ∀ q p, 46 ≤ q → q ≤ 48 → p < n → lm_put m n op arg my q p = m q p := fun q p a1 a2 a3 => lm_put_old a1 a2 a3
  refine ⟨⟨by rw [lc_emit_row (by decide)]; exact h1.1, by rw [lm_put_38 (by decide)]; exact h1.2.1, by rw [lm_put_38 (by decide)]; exact h1.2.2⟩, ⟨lc_emit_n, lm_put_n, by omega⟩, ⟨by rw [lc_emit_2 (by decide)]; exact h3.1, by rw [lm_put_38 (by decide)]; exact h3.2.1, h3.2.2⟩, ⟨by rw [lc_emit_row (by decide)]; exact h4.1, by rw [lm_put_38 (by decide)]; exact h4.2.1, h4.2.2⟩, hT, ⟨by rw [lc_emit_row (by decide)]; exact h6.1, by rw [lc_emit_row (by decide)]; exact h6.2⟩, fun j hj => ly_item_mono hj (by omega) hD hF (h7 j hj), ?_, fun r a1 a2 => ?_, h10⟩
  · have hold := ly_ins_mono (X2 := X2) (n := n) (by omega) (Nat.le_refl I) (show n + 1 ≤ n + 1 + 1 by omega) hD hF hX o1 o2 h8
    intro p hp
    by_cases hpn : p < n
    · exact hold p hpn
    · have e : p = n := by omega
      subst e
      rw [lc_emit_at.1, lc_emit_at.2.1, lc_emit_at.2.2, lm_put_at.1, lm_put_at.2.1, lm_put_at.2.2]
      refine ⟨rfl, ly_cy_mono (Nat.le_refl I) hF hcx, ?_⟩
      rcases hins with z | ⟨z1, z2⟩
      · exact Or.inl ⟨rfl, z⟩
      · refine Or.inr ⟨?_, ?_⟩
        · rcases z1 with ⟨a1, a2, a3⟩ | ⟨a1, a2⟩
          · exact Or.inl ⟨a1, by rw [hD _ (by omega)]; exact a2, by omega, a3⟩
          · exact Or.inr ⟨a1, by rw [hD _ (by omega)]; exact a2⟩
        · rcases z2 with ⟨a1, a2⟩ | ⟨j, hj, a1, a2, a3⟩
          · exact Or.inl ⟨a1, a2, a2⟩
          · refine Or.inr ⟨j, hj, ?_⟩
            rw [lc_emit_row (by decide), lm_put_row (by decide)]
            exact ⟨a1, a3, Or.inl ⟨a2, a3⟩⟩
  · exact ly_ent_mono (by omega) (by omega) (fun p hp => Or.inl (by omega)) (Nat.le_refl _) (by omega) (Nat.le_refl _) hD hF (fun q b1 b2 => by rw [lc_emit_row (by omega)]) (fun q b1 b2 => by rw [lm_put_row (by omega)]) (fun p hp => o2 46 p (by decide) (by decide) hp) (h9 r a1 a2)
end LayCore
