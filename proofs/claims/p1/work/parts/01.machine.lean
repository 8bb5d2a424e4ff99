/-! A small machine of ints above the kit's rows. A state is a function: the int of cell q at place k (a field's slot, an array's element).
The cells, their classes and what refers to what stay as they are (a layout): objects with int fields and references to cells, int arrays.
um_Ev: from this place of a method, with these locals, this stack and this state, the method returns, with Q of its answer and its state.
um_Con: a method's contract at these arguments and this state. A row an instruction, a row a call. -/
abbrev um_S : Type := Nat → Nat → Int32
def um_up (σ : um_S) (q k : Nat) (v : Int32) : um_S := fun a b => if a = q ∧ b = k then v else σ a b
theorem um_up_self {σ : um_S} {q k : Nat} {v : Int32} : um_up σ q k v q k = v := by simp [um_up]
theorem um_up_ne {σ : um_S} {q k a b : Nat} {v : Int32} (h : ¬ (a = q ∧ b = k)) : um_up σ q k v a b = σ a b := by simp [um_up, h]
theorem um_up_q {σ : um_S} {q k a : Nat} {v : Int32} (h : a ≠ q) : um_up σ q k v a = σ a := by
  funext b
  simp [um_up, h]
theorem um_up_row {σ : um_S} {q k : Nat} {v : Int32} : um_up σ q k v q = upd (σ q) k v := by
  funext b
  simp [um_up, upd]
abbrev um_E : Type := (Nat × List (Option Nat)) ⊕ Nat
def um_fv (ad : Nat → Nat) (σ : um_S) (q k : Nat) (o : Option Nat) : Value := match o with
  | none => .int (σ q k)
  | some j => .ref (ad j)
def um_cell (ad : Nat → Nat) (cA : ClassId) (σ : um_S) (q : Nat) (e : um_E) : Nat × va_E := match e with
  | .inl o => (ad q, .inr (o.1, o.2.mapIdx (um_fv ad σ q)))
  | .inr n => (ad q, .inl (cA, n, .inl (σ q)))
def um_ws (ad : Nat → Nat) (cA : ClassId) (L : List um_E) (σ : um_S) : va_W := L.mapIdx (um_cell ad cA σ)
theorem um_ws_at {ad : Nat → Nat} {cA : ClassId} {L : List um_E} {σ : um_S} {q : Nat} : (um_ws ad cA L σ)[q]? = (L[q]?).map (um_cell ad cA σ q) := by
  simp [um_ws]
theorem um_fv_ne {ad : Nat → Nat} {σ : um_S} {q k i : Nat} {v : Int32} (h : i ≠ q) : um_fv ad (um_up σ q k v) i = um_fv ad σ i := by
  funext j o
  cases o with
  | none => simp [um_fv, um_up, h]
  | some _ => rfl
theorem um_cell_ne {ad : Nat → Nat} {cA : ClassId} {σ : um_S} {q k i : Nat} {v : Int32} {e : um_E} (h : i ≠ q) : um_cell ad cA (um_up σ q k v) i e = um_cell ad cA σ i e := by
  cases e with
  | inl o => simp only [um_cell, um_fv_ne h]
  | inr n => simp only [um_cell, um_up_q h]
theorem um_ws_setF {ad : Nat → Nat} {cA : ClassId} {L : List um_E} {σ : um_S} {q k ci : Nat} {fs : List (Option Nat)} {v : Int32} (hL : L[q]? = some (.inl (ci, fs))) (hk : fs[k]? = some none) :
    (um_ws ad cA L σ).set q (ad q, .inr (ci, (fs.mapIdx (um_fv ad σ q)).set k (.int v))) = um_ws ad cA L (um_up σ q k v) := by
  apply List.ext_getElem?
  intro i
  have hlt := (List.getElem?_eq_some_iff.mp hL).1
  have hkt := (List.getElem?_eq_some_iff.mp hk).1
  by_cases hi : i = q
  · subst hi
    rw [List.getElem?_set_self (by simpa [um_ws] using hlt), um_ws_at, hL]
    have e : (fs.mapIdx (um_fv ad σ i)).set k (.int v) = fs.mapIdx (um_fv ad (um_up σ i k v) i) := by
      apply List.ext_getElem?
      intro j
      by_cases hj : j = k
      · subst hj
        rw [List.getElem?_set_self (by simpa using hkt), List.getElem?_mapIdx, hk]
        simp [um_fv, um_up]
      · rw [List.getElem?_set_ne (Ne.symm hj), List.getElem?_mapIdx, List.getElem?_mapIdx]
        cases fs[j]? with
        | none => rfl
        | some o =>
          cases o with
          | none => simp [um_fv, um_up, hj]
          | some _ => rfl
    rw [e]
    rfl
  · rw [List.getElem?_set_ne (Ne.symm hi), um_ws_at, um_ws_at]
    cases L[i]? with
    | none => rfl
    | some e => simp only [Option.map_some, um_cell_ne hi]
theorem um_ws_setA {ad : Nat → Nat} {cA : ClassId} {L : List um_E} {σ : um_S} {q k n : Nat} {v : Int32} (hL : L[q]? = some (.inr n)) :
    (um_ws ad cA L σ).set q (ad q, .inl (cA, n, .inl (upd (σ q) k v))) = um_ws ad cA L (um_up σ q k v) := by
  apply List.ext_getElem?
  intro i
  have hlt := (List.getElem?_eq_some_iff.mp hL).1
  by_cases hi : i = q
  · subst hi
    rw [List.getElem?_set_self (by simpa [um_ws] using hlt), um_ws_at, hL, ← um_up_row]
    rfl
  · rw [List.getElem?_set_ne (Ne.symm hi), um_ws_at, um_ws_at]
    cases L[i]? with
    | none => rfl
    | some e => simp only [Option.map_some, um_cell_ne hi]
/-- values: a reference names a cell by its place -/
def um_v (ad : Nat → Nat) (v : Value) : Value := match v with
  | .ref j => .ref (ad j)
  | .int x => .int x
  | .long x => .long x
  | .float x => .float x
  | .double x => .double x
  | .null => .null
  | .retAddr x => .retAddr x
theorem um_v_cat {ad : Nat → Nat} {v : Value} : (um_v ad v).category = v.category := by cases v <;> rfl
theorem um_v_sum {ad : Nat → Nat} {st : List Value} : ((st.map (um_v ad)).map fun v => v.category).sum = (st.map fun v => v.category).sum := by
  induction st with
  | nil => rfl
  | cons a l ih => simp only [List.map_cons, List.sum_cons, ih, um_v_cat]
/-- locals -/
def um_ls (ad : Nat → Nat) (lsr : Array Slot) (nL : Nat) (ls : List (Option Value)) : Prop :=
  lsr.size = nL ∧ lv_wf lsr ∧ ls.length = nL ∧ ∀ (i : Nat) (v : Value), ls[i]? = some (some v) → lsr[i]? = some (.val (um_v ad v)) ∧ v.category = 1
def um_lv (ad : Nat → Nat) : Nat → List (Option Value) → List (Nat × Value)
  | _, [] => []
  | i, none :: r => um_lv ad (i + 1) r
  | i, some v :: r => (i, um_v ad v) :: um_lv ad (i + 1) r
theorem um_lv_mem {ad : Nat → Nat} : ∀ (ls : List (Option Value)) (i j : Nat) (v : Value), ls[j]? = some (some v) → (i + j, um_v ad v) ∈ um_lv ad i ls
  | [], _, _, _, h => by simp at h
  | none :: r, i, 0, v, h => by simp at h
  | some w :: r, i, 0, v, h => by
    simp only [List.getElem?_cons_zero, Option.some.injEq] at h
    subst h
    exact List.mem_cons_self
  | none :: r, i, j + 1, v, h => by
    rw [List.getElem?_cons_succ] at h
    have := um_lv_mem (ad := ad) r (i + 1) j v h
    rw [show i + (j + 1) = i + 1 + j by omega]
    exact this
  | some w :: r, i, j + 1, v, h => by
    rw [List.getElem?_cons_succ] at h
    have := um_lv_mem (ad := ad) r (i + 1) j v h
    rw [show i + (j + 1) = i + 1 + j by omega]
    exact List.mem_cons_of_mem _ this
theorem um_lv_of {ad : Nat → Nat} : ∀ (ls : List (Option Value)) (i : Nat) (q : Nat × Value), q ∈ um_lv ad i ls → ∃ j v, ls[j]? = some (some v) ∧ q = (i + j, um_v ad v)
  | [], _, _, h => by simp [um_lv] at h
  | none :: r, i, q, h => by
    obtain ⟨j, v, h1, h2⟩ := um_lv_of r (i + 1) q h
    exact ⟨j + 1, v, by rw [List.getElem?_cons_succ]; exact h1, by rw [h2, show i + (j + 1) = i + 1 + j by omega]⟩
  | some w :: r, i, q, h => by
    rcases List.mem_cons.mp h with h | h
    · exact ⟨0, w, rfl, h⟩
    · obtain ⟨j, v, h1, h2⟩ := um_lv_of r (i + 1) q h
      exact ⟨j + 1, v, by rw [List.getElem?_cons_succ]; exact h1, by rw [h2, show i + (j + 1) = i + 1 + j by omega]⟩
theorem um_ls_has {ad : Nat → Nat} {lsr : Array Slot} {nL : Nat} {ls : List (Option Value)} (h : um_ls ad lsr nL ls) : lv_has lsr nL (um_lv ad 0 ls) := by
  refine ⟨h.1, h.2.1, fun q hq => ?_⟩
  obtain ⟨j, v, h1, rfl⟩ := um_lv_of ls 0 q hq
  have := (h.2.2.2 j v h1).1
  simpa using this
theorem um_ls_set {ad : Nat → Nat} {lsr ls' : Array Slot} {nL i : Nat} {ls : List (Option Value)} {v : Value} {lv : List (Nat × Value)} (h : um_ls ad lsr nL ls) (hv : v.category = 1) (hm : ∀ q ∈ um_lv ad 0 ls, q ∈ lv)
    (h' : lv_has ls' nL ((i, um_v ad v) :: lv.filter (fun q => !(q.1 == i) && !(q.1 + 1 == i && q.2.category == 2)))) : um_ls ad ls' nL (ls.set i (some v)) := by
  refine ⟨h'.1, h'.2.1, by rw [List.length_set]; exact h.2.2.1, fun j w hj => ?_⟩
  by_cases hji : i = j
  · subst hji
    have hlt : i < ls.length := by
      have := (List.getElem?_eq_some_iff.mp hj).1
      rwa [List.length_set] at this
    rw [List.getElem?_set_self hlt] at hj
    cases hj
    exact ⟨h'.2.2 _ List.mem_cons_self, hv⟩
  · rw [List.getElem?_set_ne hji] at hj
    obtain ⟨-, hc⟩ := h.2.2.2 j w hj
    refine ⟨h'.2.2 (j, um_v ad w) (List.mem_cons_of_mem _ (List.mem_filter.mpr ⟨hm _ ?_, ?_⟩)), hc⟩
    · have := um_lv_mem (ad := ad) ls 0 j w hj
      simpa using this
    · have h1 : (um_v ad w).category = 1 := um_v_cat.trans hc
      simp only [h1, Bool.and_eq_true, Bool.not_eq_true', beq_eq_false_iff_ne, ne_eq]
      refine ⟨fun z => hji z.symm, ?_⟩
      simp
theorem um_args_mem : ∀ (vs : List Value) (i j : Nat) (v : Value), (∀ w ∈ vs, w.category = 1) → vs[j]? = some v → (i + j, v) ∈ lv_args i vs
  | [], _, _, _, _, h => by simp at h
  | w :: r, i, 0, v, _, h => by
    simp only [List.getElem?_cons_zero, Option.some.injEq] at h
    subst h
    exact List.mem_cons_self
  | w :: r, i, j + 1, v, hc, h => by
    rw [List.getElem?_cons_succ] at h
    have h1 : w.category = 1 := hc w List.mem_cons_self
    have := um_args_mem r (i + 1) j v (fun w hw => hc w (List.mem_cons_of_mem _ hw)) h
    rw [show i + (j + 1) = i + 1 + j by omega]
    unfold lv_args
    rw [if_neg (by omega)]
    exact List.mem_cons_of_mem _ this
theorem um_sl_len : ∀ (vs : List Value), (∀ w ∈ vs, w.category = 1) → (lg_sl vs).length = vs.length
  | [], _ => rfl
  | w :: r, hc => by
    have h1 : w.category = 1 := hc w List.mem_cons_self
    have h2 := um_sl_len r (fun w hw => hc w (List.mem_cons_of_mem _ hw))
    unfold lg_sl at h2 ⊢
    rw [List.flatMap_cons, List.length_append, h2, if_neg (by omega)]
    simp
    omega
