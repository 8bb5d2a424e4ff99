section
/-! A small machine of ints above the kit's rows. A state is a function: the int of cell q at place k (a field's slot, an array's element).
The cells, their classes and what refers to what stay as they are (a layout): objects with int fields and references to cells, int arrays.
um_Ev: from this place of a method, with these locals, this stack and this state, the method returns, with Q of its answer and its state.
um_Con: a method's contract at these arguments and this state. A row an instruction, a row a call. -/
abbrev um_S : Type := Nat → Nat → Int32
def um_up (σ : um_S) (q k : Nat) (v : Int32) : um_S := fun a b => if a = q ∧ b = k then v else σ a b
theorem um_up_self {σ : um_S} {q k : Nat} {v : Int32} : um_up σ q k v q k = v := by simp [um_up]
theorem um_up_ne {σ : um_S} {q k a b : Nat} {v : Int32} (h : ¬ (a = q ∧ b = k)) : um_up σ q k v a b = σ a b := by simp [um_up, h]
theorem um_up_q {σ : um_S} {q k a : Nat} {v : Int32} (h : a ≠ q) : um_up σ q k v a = σ a := by
  funext b
  simp [um_up, h]
theorem um_up_row {σ : um_S} {q k : Nat} {v : Int32} : um_up σ q k v q = upd (σ q) k v := by
  funext b
  simp [um_up, upd]
abbrev um_E : Type := (Nat × List (Option Nat)) ⊕ Nat
def um_fv (ad : Nat → Nat) (σ : um_S) (q k : Nat) (o : Option Nat) : Value := match o with
  | none => .int (σ q k)
  | some j => .ref (ad j)
def um_cell (ad : Nat → Nat) (cA : ClassId) (σ : um_S) (q : Nat) (e : um_E) : Nat × va_E := match e with
  | .inl o => (ad q, .inr (o.1, o.2.mapIdx (um_fv ad σ q)))
  | .inr n => (ad q, .inl (cA, n, .inl (σ q)))
def um_ws (ad : Nat → Nat) (cA : ClassId) (L : List um_E) (σ : um_S) : va_W := L.mapIdx (um_cell ad cA σ)
theorem um_ws_at {ad : Nat → Nat} {cA : ClassId} {L : List um_E} {σ : um_S} {q : Nat} : (um_ws ad cA L σ)[q]? = (L[q]?).map (um_cell ad cA σ q) := by
  simp [um_ws]
theorem um_fv_ne {ad : Nat → Nat} {σ : um_S} {q k i : Nat} {v : Int32} (h : i ≠ q) : um_fv ad (um_up σ q k v) i = um_fv ad σ i := by
  funext j o
  cases o with
  | none => simp [um_fv, um_up, h]
  | some _ => rfl
theorem um_cell_ne {ad : Nat → Nat} {cA : ClassId} {σ : um_S} {q k i : Nat} {v : Int32} {e : um_E} (h : i ≠ q) : um_cell ad cA (um_up σ q k v) i e = um_cell ad cA σ i e := by
  cases e with
  | inl o => simp only [um_cell, um_fv_ne h]
  | inr n => simp only [um_cell, um_up_q h]
theorem um_ws_setF {ad : Nat → Nat} {cA : ClassId} {L : List um_E} {σ : um_S} {q k ci : Nat} {fs : List (Option Nat)} {v : Int32} (hL : L[q]? = some (.inl (ci, fs))) (hk : fs[k]? = some none) :
    (um_ws ad cA L σ).set q (ad q, .inr (ci, (fs.mapIdx (um_fv ad σ q)).set k (.int v))) = um_ws ad cA L (um_up σ q k v) := by
  apply List.ext_getElem?
  intro i
  have hlt := (List.getElem?_eq_some_iff.mp hL).1
  have hkt := (List.getElem?_eq_some_iff.mp hk).1
  by_cases hi : i = q
  · subst hi
    rw [List.getElem?_set_self (by simpa [um_ws] using hlt), um_ws_at, hL]
    have e : (fs.mapIdx (um_fv ad σ i)).set k (.int v) = fs.mapIdx (um_fv ad (um_up σ i k v) i) := by
      apply List.ext_getElem?
      intro j
      by_cases hj : j = k
      · subst hj
        rw [List.getElem?_set_self (by simpa using hkt), List.getElem?_mapIdx, hk]
        simp [um_fv, um_up]
      · rw [List.getElem?_set_ne (Ne.symm hj), List.getElem?_mapIdx, List.getElem?_mapIdx]
        cases fs[j]? with
        | none => rfl
        | some o =>
          cases o with
          | none => simp [um_fv, um_up, hj]
          | some _ => rfl
    rw [e]
    rfl
  · rw [List.getElem?_set_ne (Ne.symm hi), um_ws_at, um_ws_at]
    cases L[i]? with
    | none => rfl
    | some e => simp only [Option.map_some, um_cell_ne hi]
theorem um_ws_setA {ad : Nat → Nat} {cA : ClassId} {L : List um_E} {σ : um_S} {q k n : Nat} {v : Int32} (hL : L[q]? = some (.inr n)) :
    (um_ws ad cA L σ).set q (ad q, .inl (cA, n, .inl (upd (σ q) k v))) = um_ws ad cA L (um_up σ q k v) := by
  apply List.ext_getElem?
  intro i
  have hlt := (List.getElem?_eq_some_iff.mp hL).1
  by_cases hi : i = q
  · subst hi
    rw [List.getElem?_set_self (by simpa [um_ws] using hlt), um_ws_at, hL, ← um_up_row]
    rfl
  · rw [List.getElem?_set_ne (Ne.symm hi), um_ws_at, um_ws_at]
    cases L[i]? with
    | none => rfl
    | some e => simp only [Option.map_some, um_cell_ne hi]
/-- values: a reference names a cell by its place -/
def um_v (ad : Nat → Nat) (v : Value) : Value := match v with
  | .ref j => .ref (ad j)
  | .int x => .int x
  | .long x => .long x
  | .float x => .float x
  | .double x => .double x
  | .null => .null
  | .retAddr x => .retAddr x
theorem um_v_cat {ad : Nat → Nat} {v : Value} : (um_v ad v).category = v.category := by cases v <;> rfl
theorem um_v_sum {ad : Nat → Nat} {st : List Value} : ((st.map (um_v ad)).map fun v => v.category).sum = (st.map fun v => v.category).sum := by
  induction st with
  | nil => rfl
  | cons a l ih => simp only [List.map_cons, List.sum_cons, ih, um_v_cat]
/-- locals -/
def um_ls (ad : Nat → Nat) (lsr : Array Slot) (nL : Nat) (ls : List (Option Value)) : Prop :=
  lsr.size = nL ∧ lv_wf lsr ∧ ls.length = nL ∧ ∀ (i : Nat) (v : Value), ls[i]? = some (some v) → lsr[i]? = some (.val (um_v ad v)) ∧ v.category = 1
def um_lv (ad : Nat → Nat) : Nat → List (Option Value) → List (Nat × Value)
  | _, [] => []
  | i, none :: r => um_lv ad (i + 1) r
  | i, some v :: r => (i, um_v ad v) :: um_lv ad (i + 1) r
theorem um_lv_mem {ad : Nat → Nat} : ∀ (ls : List (Option Value)) (i j : Nat) (v : Value), ls[j]? = some (some v) → (i + j, um_v ad v) ∈ um_lv ad i ls
  | [], _, _, _, h => by simp at h
  | none :: r, i, 0, v, h => by simp at h
  | some w :: r, i, 0, v, h => by
    simp only [List.getElem?_cons_zero, Option.some.injEq] at h
    subst h
    exact List.mem_cons_self
  | none :: r, i, j + 1, v, h => by
    rw [List.getElem?_cons_succ] at h
    have := um_lv_mem (ad := ad) r (i + 1) j v h
    rw [show i + (j + 1) = i + 1 + j by omega]
    exact this
  | some w :: r, i, j + 1, v, h => by
    rw [List.getElem?_cons_succ] at h
    have := um_lv_mem (ad := ad) r (i + 1) j v h
    rw [show i + (j + 1) = i + 1 + j by omega]
    exact List.mem_cons_of_mem _ this
theorem um_lv_of {ad : Nat → Nat} : ∀ (ls : List (Option Value)) (i : Nat) (q : Nat × Value), q ∈ um_lv ad i ls → ∃ j v, ls[j]? = some (some v) ∧ q = (i + j, um_v ad v)
  | [], _, _, h => by simp [um_lv] at h
  | none :: r, i, q, h => by
    obtain ⟨j, v, h1, h2⟩ := um_lv_of r (i + 1) q h
    exact ⟨j + 1, v, by rw [List.getElem?_cons_succ]; exact h1, by rw [h2, show i + (j + 1) = i + 1 + j by omega]⟩
  | some w :: r, i, q, h => by
    rcases List.mem_cons.mp h with h | h
    · exact ⟨0, w, rfl, h⟩
    · obtain ⟨j, v, h1, h2⟩ := um_lv_of r (i + 1) q h
      exact ⟨j + 1, v, by rw [List.getElem?_cons_succ]; exact h1, by rw [h2, show i + (j + 1) = i + 1 + j by omega]⟩
theorem um_ls_has {ad : Nat → Nat} {lsr : Array Slot} {nL : Nat} {ls : List (Option Value)} (h : um_ls ad lsr nL ls) : lv_has lsr nL (um_lv ad 0 ls) := by
  refine ⟨h.1, h.2.1, fun q hq => ?_⟩
  obtain ⟨j, v, h1, rfl⟩ := um_lv_of ls 0 q hq
  have := (h.2.2.2 j v h1).1
  simpa using this
theorem um_ls_set {ad : Nat → Nat} {lsr ls' : Array Slot} {nL i : Nat} {ls : List (Option Value)} {v : Value} {lv : List (Nat × Value)} (h : um_ls ad lsr nL ls) (hv : v.category = 1) (hm : ∀ q ∈ um_lv ad 0 ls, q ∈ lv)
    (h' : lv_has ls' nL ((i, um_v ad v) :: lv.filter (fun q => !(q.1 == i) && !(q.1 + 1 == i && q.2.category == 2)))) : um_ls ad ls' nL (ls.set i (some v)) := by
  refine ⟨h'.1, h'.2.1, by rw [List.length_set]; exact h.2.2.1, fun j w hj => ?_⟩
  by_cases hji : i = j
  · subst hji
    have hlt : i < ls.length := by
      have := (List.getElem?_eq_some_iff.mp hj).1
      rwa [List.length_set] at this
    rw [List.getElem?_set_self hlt] at hj
    cases hj
    exact ⟨h'.2.2 _ List.mem_cons_self, hv⟩
  · rw [List.getElem?_set_ne hji] at hj
    obtain ⟨-, hc⟩ := h.2.2.2 j w hj
    refine ⟨h'.2.2 (j, um_v ad w) (List.mem_cons_of_mem _ (List.mem_filter.mpr ⟨hm _ ?_, ?_⟩)), hc⟩
    · have := um_lv_mem (ad := ad) ls 0 j w hj
      simpa using this
    · have h1 : (um_v ad w).category = 1 := um_v_cat.trans hc
      simp only [h1, Bool.and_eq_true, Bool.not_eq_true', beq_eq_false_iff_ne, ne_eq]
      refine ⟨fun z => hji z.symm, ?_⟩
      simp
theorem um_args_mem : ∀ (vs : List Value) (i j : Nat) (v : Value), (∀ w ∈ vs, w.category = 1) → vs[j]? = some v → (i + j, v) ∈ lv_args i vs
  | [], _, _, _, _, h => by simp at h
  | w :: r, i, 0, v, _, h => by
    simp only [List.getElem?_cons_zero, Option.some.injEq] at h
    subst h
    exact List.mem_cons_self
  | w :: r, i, j + 1, v, hc, h => by
    rw [List.getElem?_cons_succ] at h
    have h1 : w.category = 1 := hc w List.mem_cons_self
    have := um_args_mem r (i + 1) j v (fun w hw => hc w (List.mem_cons_of_mem _ hw)) h
    rw [show i + (j + 1) = i + 1 + j by omega]
    unfold lv_args
    rw [if_neg (by omega)]
    exact List.mem_cons_of_mem _ this
theorem um_sl_len : ∀ (vs : List Value), (∀ w ∈ vs, w.category = 1) → (lg_sl vs).length = vs.length
  | [], _ => rfl
  | w :: r, hc => by
    have h1 : w.category = 1 := hc w List.mem_cons_self
    have h2 := um_sl_len r (fun w hw => hc w (List.mem_cons_of_mem _ hw))
    unfold lg_sl at h2 ⊢
    rw [List.flatMap_cons, List.length_append, h2, if_neg (by omega)]
    simp
    omega
end
section
/-! um_Ev, um_Con and a row for each instruction -/
abbrev um_M : Type := MethodName × ByteArray × Nat × Option FieldType
abbrev um_X : Type := String × String × Nat × (Nat → Int32)
def um_wd (AW : List Cond) (M : um_M) : List Cond := Cond.code M.1 M.2.1 M.2.2.1 M.2.2.2 :: AW
/-- the static int arrays that are read: reference 1000 + i -/
def um_st (SX : List um_X) (ad : Nat → Nat) (A : Nat → Prop) (U : State) (H : Heap) : Prop :=
  ∀ (i : Nat) (C n : String) (N : Nat) (f : Nat → Int32), SX[i]? = some (C, n, N, f) → va_Z C n "[I" (.ref (ad (1000 + i))) A U H ∧ va_T .int (ad (1000 + i)) N (fun j => .int (f j)) A U H
def um_ctx (cl : List vw_C) (AW : List Cond) (SX : List um_X) (M : um_M) (D : va_G) (ad : Nat → Nat) (cA : ClassId) (A : Nat → Prop) (p : Program) (s : State) (m : MethodId) (args : Array Value) (meth : Method) (c : Code) : Prop :=
  p.tables.exec = Jvm.exec ∧ c.code = M.2.1 ∧ c.maxLocals = M.2.2.1 ∧ meth.sig.returnType = M.2.2.2 ∧ meth.locks = false ∧ (∀ w ∈ um_wd AW M, w.before args s = true) ∧ s.vm.findClass M.1.cls = some m.cls ∧ va_K D cl [(cA, .int)] s ∧ (∀ q : Nat, s.heap.size ≤ q → A q) ∧ um_st SX ad A s s.heap
def um_B (cl : List vw_C) (D : va_G) (ad : Nat → Nat) (cA : ClassId) (L : List um_E) (A : Nat → Prop) (u : um_S) (t : State) : Prop := va_P D cl (um_ws ad cA L u) t.heap ∧ va_K D cl [(cA, .int)] t ∧ va_D A (um_ws ad cA L u)
def um_Q (Q : Option Int32 → um_S → Prop) (B : um_S → State → Prop) (A : Nat → Prop) : Array Value → State → Outcome → State → Prop := fun _ st oc t =>
  (∃ (r : Option Int32) (u : um_S), oc = .returned (r.map Value.int) ∧ Q r u ∧ B u t) ∧ va_F A st t
def um_Ev (cl : List vw_C) (AW : List Cond) (L : List um_E) (SX : List um_X) (M : um_M) (f lo pc : Nat) (ls : List (Option Value)) (st : List Value) (σ : um_S) (Q : Option Int32 → um_S → Prop) : Prop :=
  ∀ (p : Program) (l : Launch) (e : Env) (s : State) (m : MethodId) (args : Array Value) (below : List Frame) (meth : Method) (c : Code) (D : va_G) (ad : Nat → Nat) (cA : ClassId) (A : Nat → Prop) (H : Heap) (locs : List Loc) (lsr : Array Slot),
    um_ctx cl AW SX M D ad cA A p s m args meth c → va_P D cl (um_ws ad cA L σ) H → va_D A (um_ws ad cA L σ) → va_S A s.heap H locs → um_ls ad lsr M.2.2.1 ls →
    W p l e { frames := f, cells := 0, slots := 0, locals := lo } s m args below meth c H locs 0 0 (MQ below (um_Q Q (um_B cl D ad cA L A) A) args s 0 0 A) (F0 m pc lsr (st.map (um_v ad)))
def um_Con (cl : List vw_C) (AW : List Cond) (L : List um_E) (SX : List um_X) (f lo : Nat) (M : um_M) (As : List Value) (σ : um_S) (Q : Option Int32 → um_S → Prop) : Prop :=
  ∀ (l : Launch) (D : va_G) (ad : Nat → Nat) (cA : ClassId) (sz : Nat), Met l M.1 (um_wd AW M) { frames := f, cells := 0, slots := 0, locals := lo }
    (va_Pc (As.map (um_v ad)) (fun U => U.heap.size = sz ∧ va_P D cl (um_ws ad cA L σ) U.heap ∧ va_K D cl [(cA, .int)] U ∧ va_D (fun _ => True) (um_ws ad cA L σ) ∧ um_st SX ad (va_A (um_ws ad cA L σ) sz) U U.heap))
    (um_Q Q (um_B cl D ad cA L (va_A (um_ws ad cA L σ) sz)) (va_A (um_ws ad cA L σ) sz)) 0 0 (va_A (um_ws ad cA L σ) sz)
section UmRows
variable {cl : List vw_C} {AW : List Cond} {L : List um_E} {SX : List um_X} {M : um_M} {f lo pc : Nat} {ls : List (Option Value)} {st : List Value} {σ : um_S} {Q : Option Int32 → um_S → Prop}
/-- a contract out of a walk -/
theorem um_con {As : List Value} (hy : plainName M.1.cls = true) (hlen : As.length ≤ M.2.2.1) (hcat : ∀ v ∈ As, v.category = 1)
    (h : um_Ev cl AW L SX M f lo 0 (As.map some ++ List.replicate (M.2.2.1 - As.length) none) [] σ Q) : um_Con cl AW L SX f lo M As σ Q := by
  intro l D ad cA sz
  refine Met.ofW (cc := M.2.1) (maxL := M.2.2.1) (ret := M.2.2.2) hy rfl ?_
  intro p e s m args below meth c s₁ B hml hv
  obtain ⟨rfl, hsz, hP, hK, hD0, hX⟩ := hv
  subst hsz
  have hD := hD0.self (sz := s.heap.size)
  have hc' : ∀ w ∈ As.map (um_v ad), w.category = 1 := by
    intro w hw
    obtain ⟨v, hv, rfl⟩ := List.mem_map.mp hw
    exact um_v_cat.trans (hcat v hv)
  have hl := lv_entry (As.map (um_v ad)) (n := M.2.2.1) (by rw [um_sl_len _ hc', List.length_map]; exact hlen)
  rw [lg_entry_eq]
  refine h p l e s m _ below meth c D ad cA (va_A (um_ws ad cA L σ) s.heap.size) s.heap [] _
    ⟨B.exec, B.bytes, hml, B.returns, B.notSynchronized, atoms_spec (ws := um_wd AW M) B.pre, findClass_of_methodNamed B.named, hK, fun q hq => Or.inr hq, hX⟩ hP hD va_S.rf ⟨hl.1, hl.2.1, ?_, ?_⟩
  · rw [List.length_append, List.length_map, List.length_replicate]
    omega
  · intro i v hi
    by_cases hlt : i < As.length
    · rw [List.getElem?_append_left (by rw [List.length_map]; exact hlt), List.getElem?_map] at hi
      have hv : As[i]? = some v := by
        cases h0 : As[i]? with
        | none => rw [h0] at hi; cases hi
        | some w => rw [h0] at hi; simp only [Option.map_some, Option.some.injEq] at hi; rw [hi]
      refine ⟨?_, hcat v (List.mem_of_getElem? hv)⟩
      have h1 := um_args_mem (As.map (um_v ad)) 0 i (um_v ad v) hc' (by rw [List.getElem?_map, hv]; rfl)
      have h2 := hl.2.2 _ h1
      simpa using h2
    · rw [List.getElem?_append_right (by rw [List.length_map]; omega), List.getElem?_replicate] at hi
      split at hi <;> cases hi
/-- a walk that says less -/
theorem um_Ev_mono {Q' : Option Int32 → um_S → Prop} (hQ : ∀ r u, Q' r u → Q r u) (h : um_Ev cl AW L SX M f lo pc ls st σ Q') : um_Ev cl AW L SX M f lo pc ls st σ Q := by
  intro p l e s m args below meth c D ad cA A H locs lsr hc hP hD hS hl
  intro T hT X
  obtain ⟨t, h1, o, h2, h3, ⟨⟨r, u, h4, h5, h6⟩, h7⟩, h8⟩ := h p l e s m args below meth c D ad cA A H locs lsr hc hP hD hS hl T hT X
  exact ⟨t, h1, o, h2, h3, ⟨⟨r, u, h4, hQ r u h5, h6⟩, h7⟩, h8⟩

theorem um_iconst {pc2 : Nat} {n : Int} {v : Int32} (hd : decode M.2.1 pc = .ok (.iconst n, 1)) (hp : pc + 1 = pc2) (hv : Int32.ofInt n = v) (h : um_Ev cl AW L SX M f lo pc2 ls (.int v :: st) σ Q) : um_Ev cl AW L SX M f lo pc ls st σ Q := by
  subst hp
  intro p l e s m args below meth c D ad cA A H locs lsr hc hP hD hS hl
  exact lv_iconst hc.1 hc.2.1 hd hv (h p l e s m args below meth c D ad cA A H locs lsr hc hP hD hS hl)
theorem um_bipush {pc2 : Nat} {n : Int} {v : Int32} (hd : decode M.2.1 pc = .ok (.bipush n, 2)) (hp : pc + 2 = pc2) (hv : (Int8.ofInt n).toInt32 = v) (h : um_Ev cl AW L SX M f lo pc2 ls (.int v :: st) σ Q) : um_Ev cl AW L SX M f lo pc ls st σ Q := by
  subst hp
  intro p l e s m args below meth c D ad cA A H locs lsr hc hP hD hS hl
  exact lv_bipush hc.1 hc.2.1 hd hv (h p l e s m args below meth c D ad cA A H locs lsr hc hP hD hS hl)
theorem um_sipush {pc2 : Nat} {n : Int} {v : Int32} (hd : decode M.2.1 pc = .ok (.sipush n, 3)) (hp : pc + 3 = pc2) (hv : (Int16.ofInt n).toInt32 = v) (h : um_Ev cl AW L SX M f lo pc2 ls (.int v :: st) σ Q) : um_Ev cl AW L SX M f lo pc ls st σ Q := by
  subst hp
  intro p l e s m args below meth c D ad cA A H locs lsr hc hP hD hS hl
  exact lv_sipush hc.1 hc.2.1 hd hv (h p l e s m args below meth c D ad cA A H locs lsr hc hP hD hS hl)
theorem um_iadd {pc2 : Nat} {x y : Int32} (hd : decode M.2.1 pc = .ok (.iadd, 1)) (hp : pc + 1 = pc2) (h : um_Ev cl AW L SX M f lo pc2 ls (.int (x + y) :: st) σ Q) : um_Ev cl AW L SX M f lo pc ls (.int y :: .int x :: st) σ Q := by
  subst hp
  intro p l e s m args below meth c D ad cA A H locs lsr hc hP hD hS hl
  exact lv_iadd hc.1 hc.2.1 hd (h p l e s m args below meth c D ad cA A H locs lsr hc hP hD hS hl)
theorem um_isub {pc2 : Nat} {x y : Int32} (hd : decode M.2.1 pc = .ok (.isub, 1)) (hp : pc + 1 = pc2) (h : um_Ev cl AW L SX M f lo pc2 ls (.int (x - y) :: st) σ Q) : um_Ev cl AW L SX M f lo pc ls (.int y :: .int x :: st) σ Q := by
  subst hp
  intro p l e s m args below meth c D ad cA A H locs lsr hc hP hD hS hl
  exact lv_isub hc.1 hc.2.1 hd (h p l e s m args below meth c D ad cA A H locs lsr hc hP hD hS hl)
theorem um_imul {pc2 : Nat} {x y : Int32} (hd : decode M.2.1 pc = .ok (.imul, 1)) (hp : pc + 1 = pc2) (h : um_Ev cl AW L SX M f lo pc2 ls (.int (x * y) :: st) σ Q) : um_Ev cl AW L SX M f lo pc ls (.int y :: .int x :: st) σ Q := by
  subst hp
  intro p l e s m args below meth c D ad cA A H locs lsr hc hP hD hS hl
  exact lv_imul hc.1 hc.2.1 hd (h p l e s m args below meth c D ad cA A H locs lsr hc hP hD hS hl)
theorem um_iand {pc2 : Nat} {x y : Int32} (hd : decode M.2.1 pc = .ok (.iand, 1)) (hp : pc + 1 = pc2) (h : um_Ev cl AW L SX M f lo pc2 ls (.int (x &&& y) :: st) σ Q) : um_Ev cl AW L SX M f lo pc ls (.int y :: .int x :: st) σ Q := by
  subst hp
  intro p l e s m args below meth c D ad cA A H locs lsr hc hP hD hS hl
  exact lv_iand hc.1 hc.2.1 hd (h p l e s m args below meth c D ad cA A H locs lsr hc hP hD hS hl)
theorem um_ior {pc2 : Nat} {x y : Int32} (hd : decode M.2.1 pc = .ok (.ior, 1)) (hp : pc + 1 = pc2) (h : um_Ev cl AW L SX M f lo pc2 ls (.int (x ||| y) :: st) σ Q) : um_Ev cl AW L SX M f lo pc ls (.int y :: .int x :: st) σ Q := by
  subst hp
  intro p l e s m args below meth c D ad cA A H locs lsr hc hP hD hS hl
  exact lv_ior hc.1 hc.2.1 hd (h p l e s m args below meth c D ad cA A H locs lsr hc hP hD hS hl)
theorem um_ishl {pc2 : Nat} {x y : Int32} (hd : decode M.2.1 pc = .ok (.ishl, 1)) (hp : pc + 1 = pc2) (h : um_Ev cl AW L SX M f lo pc2 ls (.int (x <<< (y &&& 31)) :: st) σ Q) : um_Ev cl AW L SX M f lo pc ls (.int y :: .int x :: st) σ Q := by
  subst hp
  intro p l e s m args below meth c D ad cA A H locs lsr hc hP hD hS hl
  exact lv_ishl hc.1 hc.2.1 hd (h p l e s m args below meth c D ad cA A H locs lsr hc hP hD hS hl)
theorem um_ishr {pc2 : Nat} {x y : Int32} (hd : decode M.2.1 pc = .ok (.ishr, 1)) (hp : pc + 1 = pc2) (h : um_Ev cl AW L SX M f lo pc2 ls (.int (x >>> (y &&& 31)) :: st) σ Q) : um_Ev cl AW L SX M f lo pc ls (.int y :: .int x :: st) σ Q := by
  subst hp
  intro p l e s m args below meth c D ad cA A H locs lsr hc hP hD hS hl
  exact lv_ishr hc.1 hc.2.1 hd (h p l e s m args below meth c D ad cA A H locs lsr hc hP hD hS hl)
theorem um_idiv {pc2 : Nat} {x y : Int32} (hd : decode M.2.1 pc = .ok (.idiv, 1)) (hp : pc + 1 = pc2) (hy : ¬ y = 0) (h : um_Ev cl AW L SX M f lo pc2 ls (.int (x / y) :: st) σ Q) : um_Ev cl AW L SX M f lo pc ls (.int y :: .int x :: st) σ Q := by
  subst hp
  intro p l e s m args below meth c D ad cA A H locs lsr hc hP hD hS hl
  exact lv_idiv hc.1 hc.2.1 hd hy (h p l e s m args below meth c D ad cA A H locs lsr hc hP hD hS hl)
theorem um_irem {pc2 : Nat} {x y : Int32} (hd : decode M.2.1 pc = .ok (.irem, 1)) (hp : pc + 1 = pc2) (hy : ¬ y = 0) (h : um_Ev cl AW L SX M f lo pc2 ls (.int (x - x / y * y) :: st) σ Q) : um_Ev cl AW L SX M f lo pc ls (.int y :: .int x :: st) σ Q := by
  subst hp
  intro p l e s m args below meth c D ad cA A H locs lsr hc hP hD hS hl
  exact lv_irem hc.1 hc.2.1 hd hy (h p l e s m args below meth c D ad cA A H locs lsr hc hP hD hS hl)
theorem um_ineg {pc2 : Nat} {x : Int32} (hd : decode M.2.1 pc = .ok (.ineg, 1)) (hp : pc + 1 = pc2) (h : um_Ev cl AW L SX M f lo pc2 ls (.int (-x) :: st) σ Q) : um_Ev cl AW L SX M f lo pc ls (.int x :: st) σ Q := by
  subst hp
  intro p l e s m args below meth c D ad cA A H locs lsr hc hP hD hS hl
  exact lv_ineg hc.1 hc.2.1 hd (h p l e s m args below meth c D ad cA A H locs lsr hc hP hD hS hl)
theorem um_iload_n {pc2 : Nat} {k : Fin 4} {x : Int32} (hd : decode M.2.1 pc = .ok (.iload_n k, 1)) (hp : pc + 1 = pc2) (hv : ls[(k : Nat)]? = some (some (.int x))) (h : um_Ev cl AW L SX M f lo pc2 ls (.int x :: st) σ Q) : um_Ev cl AW L SX M f lo pc ls st σ Q := by
  subst hp
  intro p l e s m args below meth c D ad cA A H locs lsr hc hP hD hS hl
  exact lv_iload_n hc.1 hc.2.1 hd rfl (hl.2.2.2 _ _ hv).1 (h p l e s m args below meth c D ad cA A H locs lsr hc hP hD hS hl)
theorem um_iload {pc2 : Nat} {i : Nat} {x : Int32} (hd : decode M.2.1 pc = .ok (.iload i, 2)) (hp : pc + 2 = pc2) (hv : ls[i]? = some (some (.int x))) (h : um_Ev cl AW L SX M f lo pc2 ls (.int x :: st) σ Q) : um_Ev cl AW L SX M f lo pc ls st σ Q := by
  subst hp
  intro p l e s m args below meth c D ad cA A H locs lsr hc hP hD hS hl
  exact lv_iload hc.1 hc.2.1 hd (hl.2.2.2 _ _ hv).1 (h p l e s m args below meth c D ad cA A H locs lsr hc hP hD hS hl)
theorem um_aload_n {pc2 : Nat} {k : Fin 4} {x : Nat} (hd : decode M.2.1 pc = .ok (.aload_n k, 1)) (hp : pc + 1 = pc2) (hv : ls[(k : Nat)]? = some (some (.ref x))) (h : um_Ev cl AW L SX M f lo pc2 ls (.ref x :: st) σ Q) : um_Ev cl AW L SX M f lo pc ls st σ Q := by
  subst hp
  intro p l e s m args below meth c D ad cA A H locs lsr hc hP hD hS hl
  exact lv_aload_n hc.1 hc.2.1 hd rfl (hl.2.2.2 _ _ hv).1 (h p l e s m args below meth c D ad cA A H locs lsr hc hP hD hS hl)
theorem um_aload {pc2 : Nat} {i : Nat} {x : Nat} (hd : decode M.2.1 pc = .ok (.aload i, 2)) (hp : pc + 2 = pc2) (hv : ls[i]? = some (some (.ref x))) (h : um_Ev cl AW L SX M f lo pc2 ls (.ref x :: st) σ Q) : um_Ev cl AW L SX M f lo pc ls st σ Q := by
  subst hp
  intro p l e s m args below meth c D ad cA A H locs lsr hc hP hD hS hl
  exact lv_aload hc.1 hc.2.1 hd (hl.2.2.2 _ _ hv).1 (h p l e s m args below meth c D ad cA A H locs lsr hc hP hD hS hl)
theorem um_istore_n {pc2 : Nat} {ls2 : List (Option Value)} {k : Fin 4} {x : Int32} (hd : decode M.2.1 pc = .ok (.istore_n k, 1)) (hp : pc + 1 = pc2) (hn : (k : Nat) < M.2.2.1) (hs : ls.set k (some (.int x)) = ls2) (h : um_Ev cl AW L SX M f lo pc2 ls2 st σ Q) : um_Ev cl AW L SX M f lo pc ls (.int x :: st) σ Q := by
  subst hp
  subst hs
  intro p l e s m args below meth c D ad cA A H locs lsr hc hP hD hS hl
  exact lv_istore_n hc.1 hc.2.1 hd rfl (um_ls_has hl) hn rfl (fun ls' h' => h p l e s m args below meth c D ad cA A H locs ls' hc hP hD hS (um_ls_set hl rfl (fun _ z => z) h'))
theorem um_istore {pc2 : Nat} {ls2 : List (Option Value)} {i : Nat} {x : Int32} (hd : decode M.2.1 pc = .ok (.istore i, 2)) (hp : pc + 2 = pc2) (hn : i < M.2.2.1) (hs : ls.set i (some (.int x)) = ls2) (h : um_Ev cl AW L SX M f lo pc2 ls2 st σ Q) : um_Ev cl AW L SX M f lo pc ls (.int x :: st) σ Q := by
  subst hp
  subst hs
  intro p l e s m args below meth c D ad cA A H locs lsr hc hP hD hS hl
  exact lv_istore hc.1 hc.2.1 hd (um_ls_has hl) hn rfl (fun ls' h' => h p l e s m args below meth c D ad cA A H locs ls' hc hP hD hS (um_ls_set hl rfl (fun _ z => z) h'))
theorem um_iinc {pc2 : Nat} {ls2 : List (Option Value)} {i : Nat} {n : Int} {x v : Int32} (hd : decode M.2.1 pc = .ok (.iinc i n, 3)) (hp : pc + 3 = pc2) (hx : ls[i]? = some (some (.int x))) (hv : x + Int32.ofInt n = v) (hn : i < M.2.2.1) (hs : ls.set i (some (.int v)) = ls2) (h : um_Ev cl AW L SX M f lo pc2 ls2 st σ Q) : um_Ev cl AW L SX M f lo pc ls st σ Q := by
  subst hp
  subst hs
  intro p l e s m args below meth c D ad cA A H locs lsr hc hP hD hS hl
  have h2 := um_ls_has hl
  have h3 : lv_has lsr M.2.2.1 ((i, .int x) :: um_lv ad 0 ls) := ⟨h2.1, h2.2.1, fun q hq => by
    rcases List.mem_cons.mp hq with hq | hq
    · subst hq
      exact (hl.2.2.2 i _ hx).1
    · exact h2.2.2 q hq⟩
  exact lv_iinc (k := 0) hc.1 hc.2.1 hd h3 rfl hv hn rfl (fun ls' h' => h p l e s m args below meth c D ad cA A H locs ls' hc hP hD hS (um_ls_set hl rfl (fun _ z => List.mem_cons_of_mem _ z) h'))
theorem um_dup {pc2 : Nat} {v : Value} (hd : decode M.2.1 pc = .ok (.dup, 1)) (hp : pc + 1 = pc2) (hv : v.category = 1) (h : um_Ev cl AW L SX M f lo pc2 ls (v :: v :: st) σ Q) : um_Ev cl AW L SX M f lo pc ls (v :: st) σ Q := by
  subst hp
  intro p l e s m args below meth c D ad cA A H locs lsr hc hP hD hS hl
  exact lv_dup hc.1 hc.2.1 hd (um_v_cat.trans hv) (h p l e s m args below meth c D ad cA A H locs lsr hc hP hD hS hl)
theorem um_dup2 {pc2 : Nat} {v w : Value} (hd : decode M.2.1 pc = .ok (.dup2, 1)) (hp : pc + 1 = pc2) (hv : v.category = 1) (hw : w.category = 1) (h : um_Ev cl AW L SX M f lo pc2 ls (v :: w :: v :: w :: st) σ Q) : um_Ev cl AW L SX M f lo pc ls (v :: w :: st) σ Q := by
  subst hp
  intro p l e s m args below meth c D ad cA A H locs lsr hc hP hD hS hl
  exact lv_dup2_11 hc.1 hc.2.1 hd (um_v_cat.trans hv) (um_v_cat.trans hw) (h p l e s m args below meth c D ad cA A H locs lsr hc hP hD hS hl)
theorem um_pop {pc2 : Nat} {v : Value} (hd : decode M.2.1 pc = .ok (.pop, 1)) (hp : pc + 1 = pc2) (hv : v.category = 1) (h : um_Ev cl AW L SX M f lo pc2 ls st σ Q) : um_Ev cl AW L SX M f lo pc ls (v :: st) σ Q := by
  subst hp
  intro p l e s m args below meth c D ad cA A H locs lsr hc hP hD hS hl
  exact lv_pop hc.1 hc.2.1 hd (um_v_cat.trans hv) (h p l e s m args below meth c D ad cA A H locs lsr hc hP hD hS hl)
theorem um_if_eq {pc2 : Nat} {x : Int32} {off : Int} {tgt : Nat} (hd : decode M.2.1 pc = .ok (.ifCond .eq off, 3)) (hp : pc + 3 = pc2) (ht : (pc : Int) + off = (tgt : Int)) (kt : x = 0 → um_Ev cl AW L SX M f lo tgt ls st σ Q) (kf : ¬ x = 0 → um_Ev cl AW L SX M f lo pc2 ls st σ Q) : um_Ev cl AW L SX M f lo pc ls (.int x :: st) σ Q := by
  subst hp
  intro p l e s m args below meth c D ad cA A H locs lsr hc hP hD hS hl
  exact lv_if_eq hc.1 hc.2.1 hd ht (fun z => kt z p l e s m args below meth c D ad cA A H locs lsr hc hP hD hS hl) (fun z => kf z p l e s m args below meth c D ad cA A H locs lsr hc hP hD hS hl)
theorem um_if_ne {pc2 : Nat} {x : Int32} {off : Int} {tgt : Nat} (hd : decode M.2.1 pc = .ok (.ifCond .ne off, 3)) (hp : pc + 3 = pc2) (ht : (pc : Int) + off = (tgt : Int)) (kt : ¬ x = 0 → um_Ev cl AW L SX M f lo tgt ls st σ Q) (kf : x = 0 → um_Ev cl AW L SX M f lo pc2 ls st σ Q) : um_Ev cl AW L SX M f lo pc ls (.int x :: st) σ Q := by
  subst hp
  intro p l e s m args below meth c D ad cA A H locs lsr hc hP hD hS hl
  exact lv_if_ne hc.1 hc.2.1 hd ht (fun z => kt z p l e s m args below meth c D ad cA A H locs lsr hc hP hD hS hl) (fun z => kf z p l e s m args below meth c D ad cA A H locs lsr hc hP hD hS hl)
theorem um_if_lt {pc2 : Nat} {x : Int32} {off : Int} {tgt : Nat} (hd : decode M.2.1 pc = .ok (.ifCond .lt off, 3)) (hp : pc + 3 = pc2) (ht : (pc : Int) + off = (tgt : Int)) (kt : x < 0 → um_Ev cl AW L SX M f lo tgt ls st σ Q) (kf : ¬ x < 0 → um_Ev cl AW L SX M f lo pc2 ls st σ Q) : um_Ev cl AW L SX M f lo pc ls (.int x :: st) σ Q := by
  subst hp
  intro p l e s m args below meth c D ad cA A H locs lsr hc hP hD hS hl
  exact lv_if_lt hc.1 hc.2.1 hd ht (fun z => kt z p l e s m args below meth c D ad cA A H locs lsr hc hP hD hS hl) (fun z => kf z p l e s m args below meth c D ad cA A H locs lsr hc hP hD hS hl)
theorem um_if_ge {pc2 : Nat} {x : Int32} {off : Int} {tgt : Nat} (hd : decode M.2.1 pc = .ok (.ifCond .ge off, 3)) (hp : pc + 3 = pc2) (ht : (pc : Int) + off = (tgt : Int)) (kt : 0 ≤ x → um_Ev cl AW L SX M f lo tgt ls st σ Q) (kf : ¬ 0 ≤ x → um_Ev cl AW L SX M f lo pc2 ls st σ Q) : um_Ev cl AW L SX M f lo pc ls (.int x :: st) σ Q := by
  subst hp
  intro p l e s m args below meth c D ad cA A H locs lsr hc hP hD hS hl
  exact lv_if_ge hc.1 hc.2.1 hd ht (fun z => kt z p l e s m args below meth c D ad cA A H locs lsr hc hP hD hS hl) (fun z => kf z p l e s m args below meth c D ad cA A H locs lsr hc hP hD hS hl)
theorem um_if_gt {pc2 : Nat} {x : Int32} {off : Int} {tgt : Nat} (hd : decode M.2.1 pc = .ok (.ifCond .gt off, 3)) (hp : pc + 3 = pc2) (ht : (pc : Int) + off = (tgt : Int)) (kt : 0 < x → um_Ev cl AW L SX M f lo tgt ls st σ Q) (kf : ¬ 0 < x → um_Ev cl AW L SX M f lo pc2 ls st σ Q) : um_Ev cl AW L SX M f lo pc ls (.int x :: st) σ Q := by
  subst hp
  intro p l e s m args below meth c D ad cA A H locs lsr hc hP hD hS hl
  exact lv_if_gt hc.1 hc.2.1 hd ht (fun z => kt z p l e s m args below meth c D ad cA A H locs lsr hc hP hD hS hl) (fun z => kf z p l e s m args below meth c D ad cA A H locs lsr hc hP hD hS hl)
theorem um_if_le {pc2 : Nat} {x : Int32} {off : Int} {tgt : Nat} (hd : decode M.2.1 pc = .ok (.ifCond .le off, 3)) (hp : pc + 3 = pc2) (ht : (pc : Int) + off = (tgt : Int)) (kt : x ≤ 0 → um_Ev cl AW L SX M f lo tgt ls st σ Q) (kf : ¬ x ≤ 0 → um_Ev cl AW L SX M f lo pc2 ls st σ Q) : um_Ev cl AW L SX M f lo pc ls (.int x :: st) σ Q := by
  subst hp
  intro p l e s m args below meth c D ad cA A H locs lsr hc hP hD hS hl
  exact lv_if_le hc.1 hc.2.1 hd ht (fun z => kt z p l e s m args below meth c D ad cA A H locs lsr hc hP hD hS hl) (fun z => kf z p l e s m args below meth c D ad cA A H locs lsr hc hP hD hS hl)
theorem um_icmp_eq {pc2 : Nat} {x y : Int32} {off : Int} {tgt : Nat} (hd : decode M.2.1 pc = .ok (.if_icmp .eq off, 3)) (hp : pc + 3 = pc2) (ht : (pc : Int) + off = (tgt : Int)) (kt : x = y → um_Ev cl AW L SX M f lo tgt ls st σ Q) (kf : ¬ x = y → um_Ev cl AW L SX M f lo pc2 ls st σ Q) : um_Ev cl AW L SX M f lo pc ls (.int y :: .int x :: st) σ Q := by
  subst hp
  intro p l e s m args below meth c D ad cA A H locs lsr hc hP hD hS hl
  exact lv_icmp_eq hc.1 hc.2.1 hd ht (fun z => kt z p l e s m args below meth c D ad cA A H locs lsr hc hP hD hS hl) (fun z => kf z p l e s m args below meth c D ad cA A H locs lsr hc hP hD hS hl)
theorem um_icmp_ne {pc2 : Nat} {x y : Int32} {off : Int} {tgt : Nat} (hd : decode M.2.1 pc = .ok (.if_icmp .ne off, 3)) (hp : pc + 3 = pc2) (ht : (pc : Int) + off = (tgt : Int)) (kt : ¬ x = y → um_Ev cl AW L SX M f lo tgt ls st σ Q) (kf : x = y → um_Ev cl AW L SX M f lo pc2 ls st σ Q) : um_Ev cl AW L SX M f lo pc ls (.int y :: .int x :: st) σ Q := by
  subst hp
  intro p l e s m args below meth c D ad cA A H locs lsr hc hP hD hS hl
  exact lv_icmp_ne hc.1 hc.2.1 hd ht (fun z => kt z p l e s m args below meth c D ad cA A H locs lsr hc hP hD hS hl) (fun z => kf z p l e s m args below meth c D ad cA A H locs lsr hc hP hD hS hl)
theorem um_icmp_lt {pc2 : Nat} {x y : Int32} {off : Int} {tgt : Nat} (hd : decode M.2.1 pc = .ok (.if_icmp .lt off, 3)) (hp : pc + 3 = pc2) (ht : (pc : Int) + off = (tgt : Int)) (kt : x < y → um_Ev cl AW L SX M f lo tgt ls st σ Q) (kf : ¬ x < y → um_Ev cl AW L SX M f lo pc2 ls st σ Q) : um_Ev cl AW L SX M f lo pc ls (.int y :: .int x :: st) σ Q := by
  subst hp
  intro p l e s m args below meth c D ad cA A H locs lsr hc hP hD hS hl
  exact lv_icmp_lt hc.1 hc.2.1 hd ht (fun z => kt z p l e s m args below meth c D ad cA A H locs lsr hc hP hD hS hl) (fun z => kf z p l e s m args below meth c D ad cA A H locs lsr hc hP hD hS hl)
theorem um_icmp_ge {pc2 : Nat} {x y : Int32} {off : Int} {tgt : Nat} (hd : decode M.2.1 pc = .ok (.if_icmp .ge off, 3)) (hp : pc + 3 = pc2) (ht : (pc : Int) + off = (tgt : Int)) (kt : y ≤ x → um_Ev cl AW L SX M f lo tgt ls st σ Q) (kf : ¬ y ≤ x → um_Ev cl AW L SX M f lo pc2 ls st σ Q) : um_Ev cl AW L SX M f lo pc ls (.int y :: .int x :: st) σ Q := by
  subst hp
  intro p l e s m args below meth c D ad cA A H locs lsr hc hP hD hS hl
  exact lv_icmp_ge hc.1 hc.2.1 hd ht (fun z => kt z p l e s m args below meth c D ad cA A H locs lsr hc hP hD hS hl) (fun z => kf z p l e s m args below meth c D ad cA A H locs lsr hc hP hD hS hl)
theorem um_icmp_gt {pc2 : Nat} {x y : Int32} {off : Int} {tgt : Nat} (hd : decode M.2.1 pc = .ok (.if_icmp .gt off, 3)) (hp : pc + 3 = pc2) (ht : (pc : Int) + off = (tgt : Int)) (kt : y < x → um_Ev cl AW L SX M f lo tgt ls st σ Q) (kf : ¬ y < x → um_Ev cl AW L SX M f lo pc2 ls st σ Q) : um_Ev cl AW L SX M f lo pc ls (.int y :: .int x :: st) σ Q := by
  subst hp
  intro p l e s m args below meth c D ad cA A H locs lsr hc hP hD hS hl
  exact lv_icmp_gt hc.1 hc.2.1 hd ht (fun z => kt z p l e s m args below meth c D ad cA A H locs lsr hc hP hD hS hl) (fun z => kf z p l e s m args below meth c D ad cA A H locs lsr hc hP hD hS hl)
theorem um_icmp_le {pc2 : Nat} {x y : Int32} {off : Int} {tgt : Nat} (hd : decode M.2.1 pc = .ok (.if_icmp .le off, 3)) (hp : pc + 3 = pc2) (ht : (pc : Int) + off = (tgt : Int)) (kt : x ≤ y → um_Ev cl AW L SX M f lo tgt ls st σ Q) (kf : ¬ x ≤ y → um_Ev cl AW L SX M f lo pc2 ls st σ Q) : um_Ev cl AW L SX M f lo pc ls (.int y :: .int x :: st) σ Q := by
  subst hp
  intro p l e s m args below meth c D ad cA A H locs lsr hc hP hD hS hl
  exact lv_icmp_le hc.1 hc.2.1 hd ht (fun z => kt z p l e s m args below meth c D ad cA A H locs lsr hc hP hD hS hl) (fun z => kf z p l e s m args below meth c D ad cA A H locs lsr hc hP hD hS hl)
theorem um_goto {off : Int} {tgt : Nat} (hd : decode M.2.1 pc = .ok (.goto off, 3)) (ht : (pc : Int) + off = (tgt : Int)) (h : um_Ev cl AW L SX M f lo tgt ls st σ Q) : um_Ev cl AW L SX M f lo pc ls st σ Q := by
  intro p l e s m args below meth c D ad cA A H locs lsr hc hP hD hS hl
  exact lv_goto hc.1 hc.2.1 hd ht (h p l e s m args below meth c D ad cA A H locs lsr hc hP hD hS hl)
theorem um_tableOut {dflt lw hi : Int} {offs : Array Int} {len : Nat} {x : Int32} {tgt : Nat} (hd : decode M.2.1 pc = .ok (.tableswitch dflt lw hi offs, len)) (hx : x.toInt < lw ∨ hi < x.toInt) (ht : (pc : Int) + dflt = (tgt : Int)) (h : um_Ev cl AW L SX M f lo tgt ls st σ Q) : um_Ev cl AW L SX M f lo pc ls (.int x :: st) σ Q := by
  intro p l e s m args below meth c D ad cA A H locs lsr hc hP hD hS hl
  exact lv_tableOut hc.1 hc.2.1 hd hx ht (h p l e s m args below meth c D ad cA A H locs lsr hc hP hD hS hl)
theorem um_tableIn {dflt lw hi : Int} {offs : Array Int} {len : Nat} {x : Int32} {off : Int} {tgt : Nat} (hd : decode M.2.1 pc = .ok (.tableswitch dflt lw hi offs, len)) (h1 : ¬ x.toInt < lw) (h2 : ¬ hi < x.toInt) (ho : offs[(x.toInt - lw).toNat]? = some off) (ht : (pc : Int) + off = (tgt : Int)) (h : um_Ev cl AW L SX M f lo tgt ls st σ Q) : um_Ev cl AW L SX M f lo pc ls (.int x :: st) σ Q := by
  intro p l e s m args below meth c D ad cA A H locs lsr hc hP hD hS hl
  exact lv_tableIn hc.1 hc.2.1 hd h1 h2 ho ht (h p l e s m args below meth c D ad cA A H locs lsr hc hP hD hS hl)
theorem um_lookup {dflt : Int} {ps : Array (Int × Int)} {len : Nat} {x : Int32} {off : Int} {tgt : Nat} (hd : decode M.2.1 pc = .ok (.lookupswitch dflt ps, len)) (hp : (ps.toList.zip (ps.toList.drop 1)).all (fun (a, next) => a.1 < next.1) = true) (ho : Op.lookupswitch.offset ps.toList dflt x.toInt = off) (ht : (pc : Int) + off = (tgt : Int)) (h : um_Ev cl AW L SX M f lo tgt ls st σ Q) : um_Ev cl AW L SX M f lo pc ls (.int x :: st) σ Q := by
  intro p l e s m args below meth c D ad cA A H locs lsr hc hP hD hS hl
  exact lv_lookup hc.1 hc.2.1 hd hp ho ht (h p l e s m args below meth c D ad cA A H locs lsr hc hP hD hS hl)
theorem um_ldc {pc2 : Nat} {idx : Nat} {v : Int32} (hd : decode M.2.1 pc = .ok (.ldc idx, 2)) (hp : pc + 2 = pc2) (hw : Cond.constant M.1.cls idx v ∈ AW) (h : um_Ev cl AW L SX M f lo pc2 ls (.int v :: st) σ Q) : um_Ev cl AW L SX M f lo pc ls st σ Q := by
  subst hp
  intro p l e s m args below meth c D ad cA A H locs lsr hc hP hD hS hl
  exact lv_ldc hc.1 hc.2.1 hc.2.2.2.2.2.2.1 (hc.2.2.2.2.2.1 _ (List.mem_cons_of_mem _ hw)) hd (h p l e s m args below meth c D ad cA A H locs lsr hc hP hD hS hl)
theorem um_ldcw {pc2 : Nat} {idx : Nat} {v : Int32} (hd : decode M.2.1 pc = .ok (.ldc_w idx, 3)) (hp : pc + 3 = pc2) (hw : Cond.constant M.1.cls idx v ∈ AW) (h : um_Ev cl AW L SX M f lo pc2 ls (.int v :: st) σ Q) : um_Ev cl AW L SX M f lo pc ls st σ Q := by
  subst hp
  intro p l e s m args below meth c D ad cA A H locs lsr hc hP hD hS hl
  exact lv_ldcw hc.1 hc.2.1 hc.2.2.2.2.2.2.1 (hc.2.2.2.2.2.1 _ (List.mem_cons_of_mem _ hw)) hd (h p l e s m args below meth c D ad cA A H locs lsr hc hP hD hS hl)
end UmRows
/-- a class of the world: its place, its fields' table -/
def um_Cl (cl : List vw_C) (AW : List Cond) (ci : Nat) (C : String) (T : u_T) (N : Nat) : Prop :=
  cl[ci]? = some (C, T, N) ∧ (∀ w ∈ u_ws C T N, w ∈ AW) ∧ (∃ ty0 : Nat → FieldType, ∀ k, k < N → parseFieldDescriptor (T k).2.2.1 = some (ty0 k)) ∧ (∀ a, a < N → ∀ b, b < N → a ≠ b → (T a).2.1 ≠ (T b).2.1)
def um_Lk (AW : List Cond) (own : String) (idx : Nat) (C n d : String) : Prop := Cond.fieldLink own idx C n d ∈ AW ∨ ∃ host : String, Cond.fieldLinkNest own idx C n d host ∈ AW
/-- a place of the pool that names field k of class ci -/
def um_Fd (cl : List vw_C) (AW : List Cond) (own : String) (idx ci k : Nat) : Prop := ∃ (C : String) (T : u_T) (N : Nat), um_Cl cl AW ci C T N ∧ k < N ∧ um_Lk AW own idx (T k).1 (T k).2.1 (T k).2.2.1
def um_Fw (cl : List vw_C) (AW : List Cond) (own : String) (idx ci k : Nat) (ty : FieldType) : Prop := ∃ (C : String) (T : u_T) (N : Nat), um_Cl cl AW ci C T N ∧ k < N ∧ um_Lk AW own idx (T k).1 (T k).2.1 (T k).2.2.1 ∧ (T k).2.2.2 = false ∧ parseFieldDescriptor (T k).2.2.1 = some ty
section UmCells
variable {cl : List vw_C} {AW : List Cond} {L : List um_E} {SX : List um_X} {M : um_M} {f lo pc : Nat} {ls : List (Option Value)} {st : List Value} {σ : um_S} {Q : Option Int32 → um_S → Prop}
theorem um_getI {pc2 : Nat} {q k ci idx : Nat} {fs : List (Option Nat)} (hd : decode M.2.1 pc = .ok (.getfield idx, 3)) (hp : pc + 3 = pc2) (hF : um_Fd cl AW M.1.cls idx ci k) (hL : L[q]? = some (.inl (ci, fs))) (hk : fs[k]? = some none) (h : um_Ev cl AW L SX M f lo pc2 ls (.int (σ q k) :: st) σ Q) : um_Ev cl AW L SX M f lo pc ls (.ref q :: st) σ Q := by
  subst hp
  intro p l e s m args below meth c D ad cA A H locs lsr hc hP hD hS hl
  obtain ⟨C, T, N, ⟨hcl, hin, -, -⟩, hk2, hlk⟩ := hF
  have hts := hc.2.2.2.2.2.1
  have hin' : ∀ w ∈ u_ws C T N, w ∈ um_wd AW M := fun w hw => List.mem_cons_of_mem _ (hin w hw)
  have he : (um_ws ad cA L σ)[q]? = some (ad q, .inr (ci, fs.mapIdx (um_fv ad σ q))) := by rw [um_ws_at, hL]; rfl
  have hv : (fs.mapIdx (um_fv ad σ q))[k]? = some (.int (σ q k)) := by rw [List.getElem?_mapIdx, hk]; rfl
  rcases hlk with hlk | ⟨host, hlk⟩
  · exact va_get hc.1 hc.2.1 hts hin' hc.2.2.2.2.2.2.1 hc.2.2.2.2.2.2.2.1 hP q he hcl k hk2 (hts _ (List.mem_cons_of_mem _ hlk)) (fun _ z => z) hv hd (h p l e s m args below meth c D ad cA A H locs lsr hc hP hD hS hl)
  · exact va_getN hc.1 hc.2.1 hts hin' hc.2.2.2.2.2.2.1 hc.2.2.2.2.2.2.2.1 hP q he hcl k hk2 (hts _ (List.mem_cons_of_mem _ hlk)) (fun _ z => z) hv hd (h p l e s m args below meth c D ad cA A H locs lsr hc hP hD hS hl)
theorem um_getR {pc2 : Nat} {q k ci idx j : Nat} {fs : List (Option Nat)} (hd : decode M.2.1 pc = .ok (.getfield idx, 3)) (hp : pc + 3 = pc2) (hF : um_Fd cl AW M.1.cls idx ci k) (hL : L[q]? = some (.inl (ci, fs))) (hk : fs[k]? = some (some j)) (h : um_Ev cl AW L SX M f lo pc2 ls (.ref j :: st) σ Q) : um_Ev cl AW L SX M f lo pc ls (.ref q :: st) σ Q := by
  subst hp
  intro p l e s m args below meth c D ad cA A H locs lsr hc hP hD hS hl
  obtain ⟨C, T, N, ⟨hcl, hin, -, -⟩, hk2, hlk⟩ := hF
  have hts := hc.2.2.2.2.2.1
  have hin' : ∀ w ∈ u_ws C T N, w ∈ um_wd AW M := fun w hw => List.mem_cons_of_mem _ (hin w hw)
  have he : (um_ws ad cA L σ)[q]? = some (ad q, .inr (ci, fs.mapIdx (um_fv ad σ q))) := by rw [um_ws_at, hL]; rfl
  have hv : (fs.mapIdx (um_fv ad σ q))[k]? = some (.ref (ad j)) := by rw [List.getElem?_mapIdx, hk]; rfl
  rcases hlk with hlk | ⟨host, hlk⟩
  · exact va_get hc.1 hc.2.1 hts hin' hc.2.2.2.2.2.2.1 hc.2.2.2.2.2.2.2.1 hP q he hcl k hk2 (hts _ (List.mem_cons_of_mem _ hlk)) (fun _ z => z) hv hd (h p l e s m args below meth c D ad cA A H locs lsr hc hP hD hS hl)
  · exact va_getN hc.1 hc.2.1 hts hin' hc.2.2.2.2.2.2.1 hc.2.2.2.2.2.2.2.1 hP q he hcl k hk2 (hts _ (List.mem_cons_of_mem _ hlk)) (fun _ z => z) hv hd (h p l e s m args below meth c D ad cA A H locs lsr hc hP hD hS hl)
theorem um_putI {pc2 : Nat} {q k ci idx : Nat} {fs : List (Option Nat)} {v : Int32} (hd : decode M.2.1 pc = .ok (.putfield idx, 3)) (hp : pc + 3 = pc2) (hF : um_Fw cl AW M.1.cls idx ci k .int) (hL : L[q]? = some (.inl (ci, fs))) (hk : fs[k]? = some none) (h : um_Ev cl AW L SX M f lo pc2 ls st (um_up σ q k v) Q) : um_Ev cl AW L SX M f lo pc ls (.int v :: .ref q :: st) σ Q := by
  subst hp
  intro p l e s m args below meth c D ad cA A H locs lsr hc hP hD hS hl
  obtain ⟨C, T, N, ⟨hcl, hin, ⟨ty0, hty⟩, hnm⟩, hk2, hlk, hfin, hpd⟩ := hF
  have hts := hc.2.2.2.2.2.1
  have hin' : ∀ w ∈ u_ws C T N, w ∈ um_wd AW M := fun w hw => List.mem_cons_of_mem _ (hin w hw)
  have he : (um_ws ad cA L σ)[q]? = some (ad q, .inr (ci, fs.mapIdx (um_fv ad σ q))) := by rw [um_ws_at, hL]; rfl
  have hlen : k < (fs.mapIdx (um_fv ad σ q)).length := by rw [List.length_mapIdx]; exact (List.getElem?_eq_some_iff.mp hk).1
  have hset := um_ws_setF (ad := ad) (cA := cA) (σ := σ) (v := v) hL hk
  have kk : ∀ (H1 : Heap) (locs1 : List Loc), va_P D cl ((um_ws ad cA L σ).set q (ad q, .inr (ci, (fs.mapIdx (um_fv ad σ q)).set k (.int v)))) H1 → va_D A ((um_ws ad cA L σ).set q (ad q, .inr (ci, (fs.mapIdx (um_fv ad σ q)).set k (.int v)))) → va_S A s.heap H1 locs1 → _ := fun H1 locs1 hP1 hD1 hS1 => h p l e s m args below meth c D ad cA A H1 locs1 lsr hc (hset ▸ hP1) (hset ▸ hD1) hS1 hl
  rcases hlk with hlk | ⟨host, hlk⟩
  · exact va_put hc.1 hc.2.1 hts hin' ty0 hty hnm hc.2.2.2.2.2.2.1 hc.2.2.2.2.2.2.2.1 hP hD hS q he hcl k hk2 (hts _ (List.mem_cons_of_mem _ hlk)) (fun _ z => z) hfin hpd rfl rfl hlen hd kk
  · exact va_putN hc.1 hc.2.1 hts hin' ty0 hty hnm hc.2.2.2.2.2.2.1 hc.2.2.2.2.2.2.2.1 hP hD hS q he hcl k hk2 (hts _ (List.mem_cons_of_mem _ hlk)) (fun _ z => z) hfin hpd rfl rfl hlen hd kk
theorem um_putZ {pc2 : Nat} {q k ci idx : Nat} {fs : List (Option Nat)} {v : Int32} (hd : decode M.2.1 pc = .ok (.putfield idx, 3)) (hp : pc + 3 = pc2) (hF : um_Fw cl AW M.1.cls idx ci k .boolean) (hL : L[q]? = some (.inl (ci, fs))) (hk : fs[k]? = some none) (hz : v = 0 ∨ v = 1) (h : um_Ev cl AW L SX M f lo pc2 ls st (um_up σ q k v) Q) : um_Ev cl AW L SX M f lo pc ls (.int v :: .ref q :: st) σ Q := by
  subst hp
  intro p l e s m args below meth c D ad cA A H locs lsr hc hP hD hS hl
  have hn1 : narrow .boolean (.int v) = .int v := by rcases hz with rfl | rfl <;> rfl
  have hn2 : fits .boolean (.int v) = true := by rcases hz with rfl | rfl <;> rfl
  obtain ⟨C, T, N, ⟨hcl, hin, ⟨ty0, hty⟩, hnm⟩, hk2, hlk, hfin, hpd⟩ := hF
  have hts := hc.2.2.2.2.2.1
  have hin' : ∀ w ∈ u_ws C T N, w ∈ um_wd AW M := fun w hw => List.mem_cons_of_mem _ (hin w hw)
  have he : (um_ws ad cA L σ)[q]? = some (ad q, .inr (ci, fs.mapIdx (um_fv ad σ q))) := by rw [um_ws_at, hL]; rfl
  have hlen : k < (fs.mapIdx (um_fv ad σ q)).length := by rw [List.length_mapIdx]; exact (List.getElem?_eq_some_iff.mp hk).1
  have hset := um_ws_setF (ad := ad) (cA := cA) (σ := σ) (v := v) hL hk
  have kk : ∀ (H1 : Heap) (locs1 : List Loc), va_P D cl ((um_ws ad cA L σ).set q (ad q, .inr (ci, (fs.mapIdx (um_fv ad σ q)).set k (.int v)))) H1 → va_D A ((um_ws ad cA L σ).set q (ad q, .inr (ci, (fs.mapIdx (um_fv ad σ q)).set k (.int v)))) → va_S A s.heap H1 locs1 → _ := fun H1 locs1 hP1 hD1 hS1 => h p l e s m args below meth c D ad cA A H1 locs1 lsr hc (hset ▸ hP1) (hset ▸ hD1) hS1 hl
  rcases hlk with hlk | ⟨host, hlk⟩
  · exact va_put hc.1 hc.2.1 hts hin' ty0 hty hnm hc.2.2.2.2.2.2.1 hc.2.2.2.2.2.2.2.1 hP hD hS q he hcl k hk2 (hts _ (List.mem_cons_of_mem _ hlk)) (fun _ z => z) hfin hpd hn1 hn2 hlen hd kk
  · exact va_putN hc.1 hc.2.1 hts hin' ty0 hty hnm hc.2.2.2.2.2.2.1 hc.2.2.2.2.2.2.2.1 hP hD hS q he hcl k hk2 (hts _ (List.mem_cons_of_mem _ hlk)) (fun _ z => z) hfin hpd hn1 hn2 hlen hd kk
theorem um_iald {pc2 : Nat} {q n k : Nat} {j : Int32} (hd : decode M.2.1 pc = .ok (.iaload, 1)) (hp : pc + 1 = pc2) (hL : L[q]? = some (.inr n)) (hin : vp_in j n) (hk : j.toNatClampNeg = k) (h : um_Ev cl AW L SX M f lo pc2 ls (.int (σ q k) :: st) σ Q) : um_Ev cl AW L SX M f lo pc ls (.int j :: .ref q :: st) σ Q := by
  subst hp
  subst hk
  intro p l e s m args below meth c D ad cA A H locs lsr hc hP hD hS hl
  have he : (um_ws ad cA L σ)[q]? = some (ad q, .inl (cA, n, .inl (σ q))) := by rw [um_ws_at, hL]; rfl
  exact va_iald hc.1 hc.2.1 hc.2.2.2.2.2.2.2.1 hP q 0 he rfl hin hd (h p l e s m args below meth c D ad cA A H locs lsr hc hP hD hS hl)
theorem um_iast {pc2 : Nat} {q n k : Nat} {j x : Int32} (hd : decode M.2.1 pc = .ok (.iastore, 1)) (hp : pc + 1 = pc2) (hL : L[q]? = some (.inr n)) (hin : vp_in j n) (hk : j.toNatClampNeg = k) (h : um_Ev cl AW L SX M f lo pc2 ls st (um_up σ q k x) Q) : um_Ev cl AW L SX M f lo pc ls (.int x :: .int j :: .ref q :: st) σ Q := by
  subst hp
  subst hk
  intro p l e s m args below meth c D ad cA A H locs lsr hc hP hD hS hl
  have he : (um_ws ad cA L σ)[q]? = some (ad q, .inl (cA, n, .inl (σ q))) := by rw [um_ws_at, hL]; rfl
  have hset := um_ws_setA (ad := ad) (cA := cA) (σ := σ) (k := j.toNatClampNeg) (v := x) hL
  exact va_iast hc.1 hc.2.1 hc.2.2.2.2.2.2.2.1 hP hD hS q 0 he rfl hin hd (fun H1 locs1 hP1 hD1 hS1 => h p l e s m args below meth c D ad cA A H1 locs1 lsr hc (hset ▸ hP1) (hset ▸ hD1) hS1 hl)
theorem um_alen {pc2 : Nat} {q n : Nat} (hd : decode M.2.1 pc = .ok (.arraylength, 1)) (hp : pc + 1 = pc2) (hL : L[q]? = some (.inr n)) (h : um_Ev cl AW L SX M f lo pc2 ls (.int (Int32.ofNat n) :: st) σ Q) : um_Ev cl AW L SX M f lo pc ls (.ref q :: st) σ Q := by
  subst hp
  intro p l e s m args below meth c D ad cA A H locs lsr hc hP hD hS hl
  have he : (um_ws ad cA L σ)[q]? = some (ad q, .inl (cA, n, .inl (σ q))) := by rw [um_ws_at, hL]; rfl
  exact va_alen hc.1 hc.2.1 hc.2.2.2.2.2.2.2.1 hP q 0 he rfl rfl hd (h p l e s m args below meth c D ad cA A H locs lsr hc hP hD hS hl)
theorem um_gets {pc2 : Nat} {i idx N : Nat} {C n : String} {fn : Nat → Int32} (hd : decode M.2.1 pc = .ok (.getstatic idx, 3)) (hp : pc + 3 = pc2) (hX : SX[i]? = some (C, n, N, fn)) (hw : Cond.fieldLink M.1.cls idx C n "[I" ∈ AW) (h : um_Ev cl AW L SX M f lo pc2 ls (.ref (1000 + i) :: st) σ Q) : um_Ev cl AW L SX M f lo pc ls st σ Q := by
  subst hp
  intro p l e s m args below meth c D ad cA A H locs lsr hc hP hD hS hl
  exact va_gets hc.1 hc.2.1 (hc.2.2.2.2.2.2.2.2.2 i C n N fn hX).1 hS hc.2.2.2.2.2.2.1 (hc.2.2.2.2.2.1 _ (List.mem_cons_of_mem _ hw)) (fun _ z => z) hd (h p l e s m args below meth c D ad cA A H locs lsr hc hP hD hS hl)
theorem um_sald {pc2 : Nat} {i N : Nat} {C n : String} {fn : Nat → Int32} {j : Int32} (hd : decode M.2.1 pc = .ok (.iaload, 1)) (hp : pc + 1 = pc2) (hX : SX[i]? = some (C, n, N, fn)) (hin : vp_in j N) (h : um_Ev cl AW L SX M f lo pc2 ls (.int (fn j.toNatClampNeg) :: st) σ Q) : um_Ev cl AW L SX M f lo pc ls (.int j :: .ref (1000 + i) :: st) σ Q := by
  subst hp
  intro p l e s m args below meth c D ad cA A H locs lsr hc hP hD hS hl
  exact va_ti hc.1 hc.2.1 (hc.2.2.2.2.2.2.2.2.2 i C n N fn hX).2 hS hin rfl hd (h p l e s m args below meth c D ad cA A H locs lsr hc hP hD hS hl)
theorem um_iret {v : Int32} (hd : decode M.2.1 pc = .ok (.ireturn, 1)) (hr : M.2.2.2 = some .int) (h : Q (some v) σ) : um_Ev cl AW L SX M f lo pc ls [.int v] σ Q := by
  intro p l e s m args below meth c D ad cA A H locs lsr hc hP hD hS hl
  exact W.iret (v := v) hc.1 hc.2.1 (hc.2.2.2.1.trans hr) (fun t ht hW => ⟨⟨some v, σ, rfl, h, by rw [ht]; exact hP, va_K.moved hW.alike hc.2.2.2.2.2.2.2.1, hD⟩, hS.F ht⟩) hS.2.2 hd hc.2.2.2.2.1
theorem um_zret {v : Int32} (hd : decode M.2.1 pc = .ok (.ireturn, 1)) (hr : M.2.2.2 = some .boolean) (hz : v = 0 ∨ v = 1) (h : Q (some v) σ) : um_Ev cl AW L SX M f lo pc ls [.int v] σ Q := by
  intro p l e s m args below meth c D ad cA A H locs lsr hc hP hD hS hl
  have hn1 : narrow .boolean (.int v) = .int v := by rcases hz with rfl | rfl <;> rfl
  exact W.zret (v := v) hc.1 hc.2.1 (hc.2.2.2.1.trans hr) hn1 (fun t ht hW => ⟨⟨some v, σ, rfl, h, by rw [ht]; exact hP, va_K.moved hW.alike hc.2.2.2.2.2.2.2.1, hD⟩, hS.F ht⟩) hS.2.2 hd hc.2.2.2.2.1
theorem um_vret (hd : decode M.2.1 pc = .ok (.return_, 1)) (hr : M.2.2.2 = none) (h : Q none σ) : um_Ev cl AW L SX M f lo pc ls [] σ Q := by
  intro p l e s m args below meth c D ad cA A H locs lsr hc hP hD hS hl
  exact W.vret hc.1 hc.2.1 (hc.2.2.2.1.trans hr) (fun t ht hW => ⟨⟨none, σ, rfl, h, by rw [ht]; exact hP, va_K.moved hW.alike hc.2.2.2.2.2.2.2.1, hD⟩, hS.F ht⟩) hS.2.2 hd hc.2.2.2.2.1
end UmCells
end
section
/-! calls -/
section UmGo
variable {p : Program} {l : Launch} {e : Env} {R : Room} {s : State} {m : MethodId} {args : Array Value} {below : List Frame} {meth : Method} {c : Code} {H : Heap} {locs : List Loc} {cells slots : Nat} {Qw : State → Prop}
/-- behind a call of an int's or of nothing's answer -/
theorem um_go {Q1 : Option Int32 → um_S → Prop} {B : um_S → State → Prop} {pc : Nat} {ls : Array Slot} {st0 rest : List Value} {a : Array Value} {A0 A1 : Nat → Prop} {H0 : Heap} {free : Addr → Prop}
    (hr : va_Run p l e R s m args below meth c H locs cells slots 0 0 (F0 m pc ls st0) rest (um_Q Q1 B A1 a) free) (hS : va_S A0 H0 H locs) (hA : ∀ q, q < H.size → A1 q → A0 q) (hf : ∀ q, free q → A0 q)
    (kk : ∀ (r : Option Int32) (u : um_S) (t : State) (H1 : Heap) (locs1 : List Loc), t.heap = H1 → s.vm.Alike t.vm → Q1 r u → B u t → va_S A0 H0 H1 locs1 → W p l e R s m args below meth c H1 locs1 cells slots Qw (F0 m (pc + 3) ls ((r.map Value.int).toList ++ rest))) :
    W p l e R s m args below meth c H locs cells slots Qw (F0 m pc ls st0) := by
  intro T hT X
  obtain ⟨v, st₀, t, T', L, h0, X', hL, e1, e2, ⟨⟨r, u, hv, hp, hb⟩, hz, hk⟩, st⟩ := hr T hT X
  cases hv
  rw [h0] at hz hk
  have hS' : va_S A0 H0 T'.heap (locs ++ L) := by
    refine ⟨Nat.le_trans hS.1 (by rw [e1]; exact hz), fun q h1 h2 => ?_, fun q hq => ?_⟩
    · have h3 : q < H.size := Nat.lt_of_lt_of_le h1 hS.1
      rw [e1, hk q h3 (fun z => h2 (hA q h3 z))]
      exact hS.2.1 q h1 h2
    · rcases List.mem_append.mp hq with h | h
      · exact hS.2.2 q h
      · exact hf _ (hL q h)
  obtain ⟨t2, a1, b1⟩ := kk r u t T'.heap (locs ++ L) e1.symm (by rw [← e2]; exact X'.warmed.alike) hp hb hS' T' rfl X'
  exact ⟨t2, st t2 a1, b1⟩
end UmGo
def um_good (AW : List Cond) : Prop := ∀ w ∈ AW, (w.onTables && w.keeps) = true ∨ ∃ ty, w = .arrayClass ty
/-- what a call needs of the words -/
def um_Cw (AW : List Cond) (own : String) (idx : Nat) (M2 : um_M) (n : Nat) : Prop :=
  um_good AW ∧ Cond.code M2.1 M2.2.1 M2.2.2.1 M2.2.2.2 ∈ AW ∧ Cond.initialized M2.1.cls ∈ AW ∧ (M2.1.cls ≠ "java/lang/invoke/MethodHandle" ∧ M2.1.cls ≠ "java/lang/invoke/VarHandle" ∧ (parseMethodDescriptor M2.1.desc).map (fun d => d.parameters.length) = some n) ∧
  (Cond.methodLink own idx M2.1 ∈ AW ∨ ∃ host : String, Cond.methodLinkNest own idx M2.1 host ∈ AW)
def um_Iv (cl : List vw_C) (AW : List Cond) (own : String) (idx ci : Nat) (M2 : um_M) (n : Nat) : Prop :=
  um_Cw AW own idx M2 n ∧ ∃ q : vw_C, cl[ci]? = some q ∧ Cond.instanceMethod M2.1 ∈ AW ∧ Cond.selects q.1 M2.1 M2.1 ∈ AW
def um_Is (AW : List Cond) (own : String) (idx : Nat) (M2 : um_M) (n : Nat) : Prop := um_Cw AW own idx M2 n ∧ Cond.static M2.1 ∈ AW
section UmCalls
variable {cl : List vw_C} {AW : List Cond} {L : List um_E} {SX : List um_X} {M M2 : um_M} {f lo f2 lo2 pc pc2 idx n q ci : Nat} {ls : List (Option Value)} {st : List Value} {σ : um_S} {Q Q1 : Option Int32 → um_S → Prop} {fs : List (Option Nat)} {As : List Value}
theorem um_goodIn (hg : um_good AW) (hcode : Cond.code M2.1 M2.2.1 M2.2.2.1 M2.2.2.2 ∈ AW) : GoodIn (um_wd AW M) (um_wd AW M2) := by
  intro w hw
  rcases List.mem_cons.mp hw with h | h
  · subst h
    exact ⟨List.mem_cons_of_mem _ hcode, hg _ hcode⟩
  · exact ⟨List.mem_cons_of_mem _ h, hg _ h⟩
def um_Pc (cl : List vw_C) (L : List um_E) (SX : List um_X) (D : va_G) (ad : Nat → Nat) (cA : ClassId) (sz : Nat) (As : List Value) (σ : um_S) : Array Value → State → Prop :=
  va_Pc (As.map (um_v ad)) (fun U => U.heap.size = sz ∧ va_P D cl (um_ws ad cA L σ) U.heap ∧ va_K D cl [(cA, .int)] U ∧ va_D (fun _ => True) (um_ws ad cA L σ) ∧ um_st SX ad (va_A (um_ws ad cA L σ) sz) U U.heap)
theorem um_blind {D : va_G} {ad : Nat → Nat} {cA : ClassId} {sz : Nat} : FrameBlind (um_Pc cl L SX D ad cA sz As σ) := by
  intro a U g mk hq
  obtain ⟨q0, q1, qP, qK, qD, qX⟩ := hq
  exact ⟨q0, q1, qP, va_K.moved (u := U) (U := U.calling g mk a) (Vm.Alike.refl U.vm) qK, qD, fun i C n N fn hi =>
    ⟨va_Z.moved (u := U) (U := U.calling g mk a) (Vm.Alike.refl U.vm) (qX i C n N fn hi).1, va_T.moved (u := U) (U := U.calling g mk a) (Vm.Alike.refl U.vm) (qX i C n N fn hi).2⟩⟩
section Inner
variable {p : Program} {s : State} {m : MethodId} {args : Array Value} {meth : Method} {c : Code} {D : va_G} {ad : Nat → Nat} {cA : ClassId} {A : Nat → Prop} {H : Heap} {locs : List Loc}
theorem um_A0 (hc : um_ctx cl AW SX M D ad cA A p s m args meth c) (hD : va_D A (um_ws ad cA L σ)) (hS : va_S A s.heap H locs) : ∀ q', va_A (um_ws ad cA L σ) H.size q' → A q' := by
  intro q' h
  rcases h with ⟨k, e, h⟩ | h
  · exact hD.2 k _ h
  · exact hc.2.2.2.2.2.2.2.2.1 q' (Nat.le_trans hS.1 h)
theorem um_pre (hc : um_ctx cl AW SX M D ad cA A p s m args meth c) (hP : va_P D cl (um_ws ad cA L σ) H) (hD : va_D A (um_ws ad cA L σ)) (hS : va_S A s.heap H locs) :
    ∀ U : State, U.heap = H → s.WarmedH U.vm → um_Pc cl L SX D ad cA H.size As σ (As.map (um_v ad)).toArray U := by
  intro U hU hW
  have hA := um_A0 hc hD hS
  refine ⟨rfl, by rw [hU], by rw [hU]; exact hP, va_K.moved hW.alike hc.2.2.2.2.2.2.2.1, hD.weaken (fun _ _ _ _ => trivial), fun i C n N fn hi => ?_⟩
  obtain ⟨h1, h2⟩ := hc.2.2.2.2.2.2.2.2.2 i C n N fn hi
  rw [hU]
  exact ⟨((h1.kept hS.2.1).narrow hA).moved hW.alike, ((h2.kept hS.2.1).narrow hA).moved hW.alike⟩
end Inner
theorem um_callV (hd : decode M.2.1 pc = .ok (.invokevirtual idx, 3)) (hp : pc + 3 = pc2) (hI : um_Iv cl AW M.1.cls idx ci M2 n) (hL : L[q]? = some (.inl (ci, fs))) (hn : As.length = n) (hf : f2 + 1 ≤ f) (hlo : 8 + (M2.2.2.1 + 11) + lo2 ≤ lo) (hst : (st.map fun v => v.category).sum ≤ 8)
    (hcon : um_Con cl AW L SX f2 lo2 M2 (.ref q :: As) σ Q1) (h : ∀ r u, Q1 r u → um_Ev cl AW L SX M f lo pc2 ls ((r.map Value.int).toList ++ st) u Q) : um_Ev cl AW L SX M f lo pc ls (As.reverse ++ .ref q :: st) σ Q := by
  subst hp
  intro p l e s m args below meth c D ad cA A H locs lsr hc hP hD hS hl
  obtain ⟨⟨hg, hcode, hini, hpar, hlk⟩, qc, hcl, hinst, hsel⟩ := hI
  have hts := hc.2.2.2.2.2.1
  have hok : ∀ w ∈ AW, w.before args s = true := fun w hw => hts w (List.mem_cons_of_mem _ hw)
  have hA0 := um_A0 hc hD hS
  have he : (um_ws ad cA L σ)[q]? = some (ad q, .inr (ci, fs.mapIdx (um_fv ad σ q))) := by rw [um_ws_at, hL]; rfl
  have hpre := um_pre (As := .ref q :: As) hc hP hD hS
  have hstk : (As.reverse ++ .ref q :: st).map (um_v ad) = (As.map (um_v ad)).reverse ++ .ref (ad q) :: st.map (um_v ad) := by
    rw [List.map_append, List.map_reverse]
    rfl
  rw [hstk]
  have hroom : ((st.map (um_v ad)).map fun v => v.category).sum ≤ 8 := by rw [um_v_sum]; exact hst
  have hlen : (As.map (um_v ad)).length = n := by rw [List.length_map]; exact hn
  have hM := hcon l D ad cA H.size
  have hrun : va_Run p l e { frames := f, cells := 0, slots := 0, locals := lo } s m args below meth c H locs 0 0 0 0 (F0 m pc lsr ((As.map (um_v ad)).reverse ++ .ref (ad q) :: st.map (um_v ad))) (st.map (um_v ad))
      (um_Q Q1 (um_B cl D ad cA L (va_A (um_ws ad cA L σ) H.size)) (va_A (um_ws ad cA L σ) H.size) (Value.ref (ad q) :: As.map (um_v ad)).toArray) (va_A (um_ws ad cA L σ) H.size) := by
    rcases hlk with hlk | ⟨host, hlk⟩
    · exact va_runV (Pc := um_Pc cl L SX D ad cA H.size (.ref q :: As) σ) ⟨hc.1, hc.2.1, hc.2.2.1, hc.2.2.2.2.2.2.1, hts⟩ hM ⟨callB_of n hts (um_goodIn hg hcode) rfl rfl rfl (hok _ hini) (hok _ hlk) hpar ⟨hf, hlo⟩, hok _ hinst, hok _ hsel⟩
        ⟨um_blind, va_recv hc.2.2.2.2.2.2.2.1 hP hcl he, hpre⟩ rfl hlen hl.1 rfl (lv_room hroom) hd ⟨Nat.le_refl _, Nat.le_refl _⟩
    · exact va_runVN (Pc := um_Pc cl L SX D ad cA H.size (.ref q :: As) σ) ⟨hc.1, hc.2.1, hc.2.2.1, hc.2.2.2.2.2.2.1, hts⟩ hM ⟨va_cnB n hts (um_goodIn hg hcode) rfl rfl rfl (va_Nw.of rfl (hok _ hlk)) (hok _ hini) hpar ⟨hf, hlo⟩, hok _ hinst, hok _ hsel⟩
        ⟨um_blind, va_recv hc.2.2.2.2.2.2.2.1 hP hcl he, hpre⟩ rfl hlen hl.1 rfl (lv_room hroom) hd ⟨Nat.le_refl _, Nat.le_refl _⟩
  refine um_go hrun hS (fun q' _ hq' => hA0 q' hq') hA0 (fun r u t H1 locs1 ht hvm hq hB hS1 => ?_)
  have e2 : ((r.map Value.int).toList ++ st).map (um_v ad) = (r.map Value.int).toList ++ st.map (um_v ad) := by cases r <;> rfl
  rw [← e2]
  exact h r u hq p l e s m args below meth c D ad cA A H1 locs1 lsr hc (by rw [← ht]; exact hB.1) (hB.2.2.weaken (fun _ _ _ z => hA0 _ z)) hS1 hl
theorem um_callS (hd : decode M.2.1 pc = .ok (.invokestatic idx, 3)) (hp : pc + 3 = pc2) (hI : um_Is AW M.1.cls idx M2 n) (hn : As.length = n) (hf : f2 + 1 ≤ f) (hlo : 8 + (M2.2.2.1 + 11) + lo2 ≤ lo) (hst : (st.map fun v => v.category).sum ≤ 8)
    (hcon : um_Con cl AW L SX f2 lo2 M2 As σ Q1) (h : ∀ r u, Q1 r u → um_Ev cl AW L SX M f lo pc2 ls ((r.map Value.int).toList ++ st) u Q) : um_Ev cl AW L SX M f lo pc ls (As.reverse ++ st) σ Q := by
  subst hp
  intro p l e s m args below meth c D ad cA A H locs lsr hc hP hD hS hl
  obtain ⟨⟨hg, hcode, hini, hpar, hlk⟩, hstat⟩ := hI
  have hts := hc.2.2.2.2.2.1
  have hok : ∀ w ∈ AW, w.before args s = true := fun w hw => hts w (List.mem_cons_of_mem _ hw)
  have hA0 := um_A0 hc hD hS
  have hpre := um_pre (As := As) hc hP hD hS
  have hstk : (As.reverse ++ st).map (um_v ad) = (As.map (um_v ad)).reverse ++ st.map (um_v ad) := by
    rw [List.map_append, List.map_reverse]
  rw [hstk]
  have hroom : ((st.map (um_v ad)).map fun v => v.category).sum ≤ 8 := by rw [um_v_sum]; exact hst
  have hlen : (As.map (um_v ad)).length = n := by rw [List.length_map]; exact hn
  have hM := hcon l D ad cA H.size
  have hrun : va_Run p l e { frames := f, cells := 0, slots := 0, locals := lo } s m args below meth c H locs 0 0 0 0 (F0 m pc lsr ((As.map (um_v ad)).reverse ++ st.map (um_v ad))) (st.map (um_v ad))
      (um_Q Q1 (um_B cl D ad cA L (va_A (um_ws ad cA L σ) H.size)) (va_A (um_ws ad cA L σ) H.size) (As.map (um_v ad)).toArray) (va_A (um_ws ad cA L σ) H.size) := by
    rcases hlk with hlk | ⟨host, hlk⟩
    · exact va_runS (Pc := um_Pc cl L SX D ad cA H.size As σ) ⟨hc.1, hc.2.1, hc.2.2.1, hc.2.2.2.2.2.2.1, hts⟩ hM ⟨callB_of n hts (um_goodIn hg hcode) rfl rfl rfl (hok _ hini) (hok _ hlk) hpar ⟨hf, hlo⟩, hok _ hstat⟩
        ⟨um_blind, hpre⟩ rfl hlen hl.1 rfl (lv_room hroom) hd ⟨Nat.le_refl _, Nat.le_refl _⟩
    · exact va_runSN (Pc := um_Pc cl L SX D ad cA H.size As σ) ⟨hc.1, hc.2.1, hc.2.2.1, hc.2.2.2.2.2.2.1, hts⟩ hM ⟨va_cnB n hts (um_goodIn hg hcode) rfl rfl rfl (va_Nw.of rfl (hok _ hlk)) (hok _ hini) hpar ⟨hf, hlo⟩, hok _ hstat, trivial⟩
        ⟨um_blind, hpre⟩ rfl hlen hl.1 rfl (lv_room hroom) hd ⟨Nat.le_refl _, Nat.le_refl _⟩
  refine um_go hrun hS (fun q' _ hq' => hA0 q' hq') hA0 (fun r u t H1 locs1 ht hvm hq hB hS1 => ?_)
  have e2 : ((r.map Value.int).toList ++ st).map (um_v ad) = (r.map Value.int).toList ++ st.map (um_v ad) := by cases r <;> rfl
  rw [← e2]
  exact h r u hq p l e s m args below meth c D ad cA A H1 locs1 lsr hc (by rw [← ht]; exact hB.1) (hB.2.2.weaken (fun _ _ _ z => hA0 _ z)) hS1 hl
theorem um_callV0 (hd : decode M.2.1 pc = .ok (.invokevirtual idx, 3)) (hp : pc + 3 = pc2) (hI : um_Iv cl AW M.1.cls idx ci M2 0) (hL : L[q]? = some (.inl (ci, fs))) (hf : f2 + 1 ≤ f) (hlo : 8 + (M2.2.2.1 + 11) + lo2 ≤ lo) (hst : (st.map fun v => v.category).sum ≤ 8) (hcon : um_Con cl AW L SX f2 lo2 M2 [.ref q] σ Q1) (h : ∀ r u, Q1 r u → um_Ev cl AW L SX M f lo pc2 ls ((r.map Value.int).toList ++ st) u Q) : um_Ev cl AW L SX M f lo pc ls (.ref q :: st) σ Q := um_callV (As := []) hd hp hI hL rfl hf hlo hst hcon h
theorem um_callV1 {a : Value} (hd : decode M.2.1 pc = .ok (.invokevirtual idx, 3)) (hp : pc + 3 = pc2) (hI : um_Iv cl AW M.1.cls idx ci M2 1) (hL : L[q]? = some (.inl (ci, fs))) (hf : f2 + 1 ≤ f) (hlo : 8 + (M2.2.2.1 + 11) + lo2 ≤ lo) (hst : (st.map fun v => v.category).sum ≤ 8) (hcon : um_Con cl AW L SX f2 lo2 M2 [.ref q, a] σ Q1) (h : ∀ r u, Q1 r u → um_Ev cl AW L SX M f lo pc2 ls ((r.map Value.int).toList ++ st) u Q) : um_Ev cl AW L SX M f lo pc ls (a :: .ref q :: st) σ Q := um_callV (As := [a]) hd hp hI hL rfl hf hlo hst hcon h
theorem um_callS1 {a : Value} (hd : decode M.2.1 pc = .ok (.invokestatic idx, 3)) (hp : pc + 3 = pc2) (hI : um_Is AW M.1.cls idx M2 1) (hf : f2 + 1 ≤ f) (hlo : 8 + (M2.2.2.1 + 11) + lo2 ≤ lo) (hst : (st.map fun v => v.category).sum ≤ 8) (hcon : um_Con cl AW L SX f2 lo2 M2 [a] σ Q1) (h : ∀ r u, Q1 r u → um_Ev cl AW L SX M f lo pc2 ls ((r.map Value.int).toList ++ st) u Q) : um_Ev cl AW L SX M f lo pc ls (a :: st) σ Q := um_callS (As := [a]) hd hp hI rfl hf hlo hst hcon h
theorem um_callV2 {a b : Value} (hd : decode M.2.1 pc = .ok (.invokevirtual idx, 3)) (hp : pc + 3 = pc2) (hI : um_Iv cl AW M.1.cls idx ci M2 2) (hL : L[q]? = some (.inl (ci, fs))) (hf : f2 + 1 ≤ f) (hlo : 8 + (M2.2.2.1 + 11) + lo2 ≤ lo) (hst : (st.map fun v => v.category).sum ≤ 8) (hcon : um_Con cl AW L SX f2 lo2 M2 [.ref q, a, b] σ Q1) (h : ∀ r u, Q1 r u → um_Ev cl AW L SX M f lo pc2 ls ((r.map Value.int).toList ++ st) u Q) : um_Ev cl AW L SX M f lo pc ls (b :: a :: .ref q :: st) σ Q := um_callV (As := [a, b]) hd hp hI hL rfl hf hlo hst hcon h
theorem um_callS2 {a b : Value} (hd : decode M.2.1 pc = .ok (.invokestatic idx, 3)) (hp : pc + 3 = pc2) (hI : um_Is AW M.1.cls idx M2 2) (hf : f2 + 1 ≤ f) (hlo : 8 + (M2.2.2.1 + 11) + lo2 ≤ lo) (hst : (st.map fun v => v.category).sum ≤ 8) (hcon : um_Con cl AW L SX f2 lo2 M2 [a, b] σ Q1) (h : ∀ r u, Q1 r u → um_Ev cl AW L SX M f lo pc2 ls ((r.map Value.int).toList ++ st) u Q) : um_Ev cl AW L SX M f lo pc ls (b :: a :: st) σ Q := um_callS (As := [a, b]) hd hp hI rfl hf hlo hst hcon h
theorem um_callV3 {a b c : Value} (hd : decode M.2.1 pc = .ok (.invokevirtual idx, 3)) (hp : pc + 3 = pc2) (hI : um_Iv cl AW M.1.cls idx ci M2 3) (hL : L[q]? = some (.inl (ci, fs))) (hf : f2 + 1 ≤ f) (hlo : 8 + (M2.2.2.1 + 11) + lo2 ≤ lo) (hst : (st.map fun v => v.category).sum ≤ 8) (hcon : um_Con cl AW L SX f2 lo2 M2 [.ref q, a, b, c] σ Q1) (h : ∀ r u, Q1 r u → um_Ev cl AW L SX M f lo pc2 ls ((r.map Value.int).toList ++ st) u Q) : um_Ev cl AW L SX M f lo pc ls (c :: b :: a :: .ref q :: st) σ Q := um_callV (As := [a, b, c]) hd hp hI hL rfl hf hlo hst hcon h
theorem um_callS3 {a b c : Value} (hd : decode M.2.1 pc = .ok (.invokestatic idx, 3)) (hp : pc + 3 = pc2) (hI : um_Is AW M.1.cls idx M2 3) (hf : f2 + 1 ≤ f) (hlo : 8 + (M2.2.2.1 + 11) + lo2 ≤ lo) (hst : (st.map fun v => v.category).sum ≤ 8) (hcon : um_Con cl AW L SX f2 lo2 M2 [a, b, c] σ Q1) (h : ∀ r u, Q1 r u → um_Ev cl AW L SX M f lo pc2 ls ((r.map Value.int).toList ++ st) u Q) : um_Ev cl AW L SX M f lo pc ls (c :: b :: a :: st) σ Q := um_callS (As := [a, b, c]) hd hp hI rfl hf hlo hst hcon h
theorem um_callV4 {a b c d : Value} (hd : decode M.2.1 pc = .ok (.invokevirtual idx, 3)) (hp : pc + 3 = pc2) (hI : um_Iv cl AW M.1.cls idx ci M2 4) (hL : L[q]? = some (.inl (ci, fs))) (hf : f2 + 1 ≤ f) (hlo : 8 + (M2.2.2.1 + 11) + lo2 ≤ lo) (hst : (st.map fun v => v.category).sum ≤ 8) (hcon : um_Con cl AW L SX f2 lo2 M2 [.ref q, a, b, c, d] σ Q1) (h : ∀ r u, Q1 r u → um_Ev cl AW L SX M f lo pc2 ls ((r.map Value.int).toList ++ st) u Q) : um_Ev cl AW L SX M f lo pc ls (d :: c :: b :: a :: .ref q :: st) σ Q := um_callV (As := [a, b, c, d]) hd hp hI hL rfl hf hlo hst hcon h
theorem um_callS4 {a b c d : Value} (hd : decode M.2.1 pc = .ok (.invokestatic idx, 3)) (hp : pc + 3 = pc2) (hI : um_Is AW M.1.cls idx M2 4) (hf : f2 + 1 ≤ f) (hlo : 8 + (M2.2.2.1 + 11) + lo2 ≤ lo) (hst : (st.map fun v => v.category).sum ≤ 8) (hcon : um_Con cl AW L SX f2 lo2 M2 [a, b, c, d] σ Q1) (h : ∀ r u, Q1 r u → um_Ev cl AW L SX M f lo pc2 ls ((r.map Value.int).toList ++ st) u Q) : um_Ev cl AW L SX M f lo pc ls (d :: c :: b :: a :: st) σ Q := um_callS (As := [a, b, c, d]) hd hp hI rfl hf hlo hst hcon h
theorem um_callV5 {a b c d e : Value} (hd : decode M.2.1 pc = .ok (.invokevirtual idx, 3)) (hp : pc + 3 = pc2) (hI : um_Iv cl AW M.1.cls idx ci M2 5) (hL : L[q]? = some (.inl (ci, fs))) (hf : f2 + 1 ≤ f) (hlo : 8 + (M2.2.2.1 + 11) + lo2 ≤ lo) (hst : (st.map fun v => v.category).sum ≤ 8) (hcon : um_Con cl AW L SX f2 lo2 M2 [.ref q, a, b, c, d, e] σ Q1) (h : ∀ r u, Q1 r u → um_Ev cl AW L SX M f lo pc2 ls ((r.map Value.int).toList ++ st) u Q) : um_Ev cl AW L SX M f lo pc ls (e :: d :: c :: b :: a :: .ref q :: st) σ Q := um_callV (As := [a, b, c, d, e]) hd hp hI hL rfl hf hlo hst hcon h
theorem um_callS5 {a b c d e : Value} (hd : decode M.2.1 pc = .ok (.invokestatic idx, 3)) (hp : pc + 3 = pc2) (hI : um_Is AW M.1.cls idx M2 5) (hf : f2 + 1 ≤ f) (hlo : 8 + (M2.2.2.1 + 11) + lo2 ≤ lo) (hst : (st.map fun v => v.category).sum ≤ 8) (hcon : um_Con cl AW L SX f2 lo2 M2 [a, b, c, d, e] σ Q1) (h : ∀ r u, Q1 r u → um_Ev cl AW L SX M f lo pc2 ls ((r.map Value.int).toList ++ st) u Q) : um_Ev cl AW L SX M f lo pc ls (e :: d :: c :: b :: a :: st) σ Q := um_callS (As := [a, b, c, d, e]) hd hp hI rfl hf hlo hst hcon h
theorem um_callV6 {a b c d e g : Value} (hd : decode M.2.1 pc = .ok (.invokevirtual idx, 3)) (hp : pc + 3 = pc2) (hI : um_Iv cl AW M.1.cls idx ci M2 6) (hL : L[q]? = some (.inl (ci, fs))) (hf : f2 + 1 ≤ f) (hlo : 8 + (M2.2.2.1 + 11) + lo2 ≤ lo) (hst : (st.map fun v => v.category).sum ≤ 8) (hcon : um_Con cl AW L SX f2 lo2 M2 [.ref q, a, b, c, d, e, g] σ Q1) (h : ∀ r u, Q1 r u → um_Ev cl AW L SX M f lo pc2 ls ((r.map Value.int).toList ++ st) u Q) : um_Ev cl AW L SX M f lo pc ls (g :: e :: d :: c :: b :: a :: .ref q :: st) σ Q := um_callV (As := [a, b, c, d, e, g]) hd hp hI hL rfl hf hlo hst hcon h
theorem um_callS6 {a b c d e g : Value} (hd : decode M.2.1 pc = .ok (.invokestatic idx, 3)) (hp : pc + 3 = pc2) (hI : um_Is AW M.1.cls idx M2 6) (hf : f2 + 1 ≤ f) (hlo : 8 + (M2.2.2.1 + 11) + lo2 ≤ lo) (hst : (st.map fun v => v.category).sum ≤ 8) (hcon : um_Con cl AW L SX f2 lo2 M2 [a, b, c, d, e, g] σ Q1) (h : ∀ r u, Q1 r u → um_Ev cl AW L SX M f lo pc2 ls ((r.map Value.int).toList ++ st) u Q) : um_Ev cl AW L SX M f lo pc ls (g :: e :: d :: c :: b :: a :: st) σ Q := um_callS (As := [a, b, c, d, e, g]) hd hp hI rfl hf hlo hst hcon h
theorem um_mmax {x y : Int32} (hd : decode M.2.1 pc = .ok (.invokestatic idx, 3)) (hp : pc + 3 = pc2) (hw : Cond.methodLink M.1.cls idx Lib.Math.max.name ∈ AW ∧ Cond.static Lib.Math.max.name ∈ AW ∧ Cond.initialized "java/lang/Math" ∈ AW ∧ Cond.code Lib.Math.max.name Lib.Math.max.code 2 (some .int) ∈ AW)
    (hf : 1 ≤ f) (hlo : (st.map fun v => v.category).sum + 13 ≤ lo) (h : um_Ev cl AW L SX M f lo pc2 ls (.int (if x < y then y else x) :: st) σ Q) : um_Ev cl AW L SX M f lo pc ls (.int y :: .int x :: st) σ Q := by
  subst hp
  intro p l e s m args below meth c D ad cA A H locs lsr hc hP hD hS hl
  have hok : ∀ w ∈ AW, w.before args s = true := fun w hw => hc.2.2.2.2.2.1 w (List.mem_cons_of_mem _ hw)
  exact va_mmax hc.1 hc.2.1 (hc.2.2.1.trans hl.1.symm) hc.2.2.2.2.2.2.1 (hok _ hw.1) (hok _ hw.2.1) (hok _ hw.2.2.1) (hok _ hw.2.2.2) hf (by rw [um_v_sum]; exact hlo) (Nat.le_refl _) (Nat.le_refl _) hd
    (h p l e s m args below meth c D ad cA A H locs lsr hc hP hD hS hl)
end UmCalls

section UmMore
variable {cl : List vw_C} {AW : List Cond} {L : List um_E} {SX : List um_X} {M : um_M} {f lo pc : Nat} {ls : List (Option Value)} {st : List Value} {σ : um_S} {Q : Option Int32 → um_S → Prop}
/-- a name for the state, a name for the number on top -/
theorem um_gen (h : ∀ τ : um_S, τ = σ → um_Ev cl AW L SX M f lo pc ls st τ Q) : um_Ev cl AW L SX M f lo pc ls st σ Q := h σ rfl
theorem um_top {x : Int32} (h : ∀ y : Int32, y = x → um_Ev cl AW L SX M f lo pc ls (.int y :: st) σ Q) : um_Ev cl AW L SX M f lo pc ls (.int x :: st) σ Q := h x rfl
/-- locals that are of no use any more -/
def um_mask : List Bool → List (Option Value) → List (Option Value)
  | b :: bs, v :: vs => (if b then v else none) :: um_mask bs vs
  | _, _ => []
theorem um_mask_at : ∀ (bs : List Bool) (ls : List (Option Value)) (i : Nat) (v : Value), (um_mask bs ls)[i]? = some (some v) → ls[i]? = some (some v)
  | [], _, _, _, h => by simp [um_mask] at h
  | _ :: _, [], _, _, h => by simp [um_mask] at h
  | b :: bs, w :: vs, 0, v, h => by
    cases b with
    | false => simp [um_mask] at h
    | true => simpa [um_mask] using h
  | b :: bs, w :: vs, i + 1, v, h => by
    rw [um_mask, List.getElem?_cons_succ] at h
    rw [List.getElem?_cons_succ]
    exact um_mask_at bs vs i v h
theorem um_forget (bs : List Bool) (hlen : (um_mask bs ls).length = ls.length) (h : um_Ev cl AW L SX M f lo pc (um_mask bs ls) st σ Q) : um_Ev cl AW L SX M f lo pc ls st σ Q := by
  intro p l e s m args below meth c D ad cA A H locs lsr hc hP hD hS hl
  exact h p l e s m args below meth c D ad cA A H locs lsr hc hP hD hS ⟨hl.1, hl.2.1, hlen.trans hl.2.2.1, fun i v hi => hl.2.2.2 i v (um_mask_at bs ls i v hi)⟩
/-- a table's place by the number's value -/
theorem um_tableAt {dflt lw hi kk off : Int} {offs : Array Int} {len tgt : Nat} {x k : Int32} (hd : decode M.2.1 pc = .ok (.tableswitch dflt lw hi offs, len)) (hx : x = k) (hk : k.toInt = kk) (h1 : ¬ kk < lw) (h2 : ¬ hi < kk) (ho : offs[(kk - lw).toNat]? = some off) (ht : (pc : Int) + off = (tgt : Int)) (h : um_Ev cl AW L SX M f lo tgt ls st σ Q) :
    um_Ev cl AW L SX M f lo pc ls (.int x :: st) σ Q := by
  subst hx
  exact um_tableIn hd (by rw [hk]; exact h1) (by rw [hk]; exact h2) (by rw [hk]; exact ho) ht h
end UmMore
def um_Qi (Q : Int32 → um_S → Prop) : Option Int32 → um_S → Prop := fun r u => ∃ x : Int32, r = some x ∧ Q x u
def um_Qv (Q : um_S → Prop) : Option Int32 → um_S → Prop := fun r u => r = none ∧ Q u
theorem um_toInt_ne {x k : Int32} {kk : Int} (h : ¬ x = k) (hk : k.toInt = kk) : x.toInt ≠ kk := fun z => h (Int32.toInt_inj.mp (z.trans hk.symm))
def um_Qz (Q : Bool → um_S → Prop) : Option Int32 → um_S → Prop := fun r u => ∃ b : Bool, r = some (if b then 1 else 0) ∧ Q b u
theorem um_b0 {b : Bool} (h : (if b then (1 : Int32) else 0) = 0) : b = false := by
  cases b with
  | false => rfl
  | true => exact absurd h (by decide)
theorem um_b1 {b : Bool} (h : ¬ (if b then (1 : Int32) else 0) = 0) : b = true := by
  cases b with
  | false => exact absurd rfl h
  | true => rfl
theorem um_b01 (b : Bool) : (if b then (1 : Int32) else 0) = 0 ∨ (if b then (1 : Int32) else 0) = 1 := by
  cases b with
  | false => exact Or.inl rfl
  | true => exact Or.inr rfl
section UmCallK
variable {cl : List vw_C} {AW : List Cond} {L : List um_E} {SX : List um_X} {M M2 : um_M} {f lo f2 lo2 pc pc2 idx q ci : Nat} {ls : List (Option Value)} {st : List Value} {σ : um_S} {Q : Option Int32 → um_S → Prop} {Qi : Int32 → um_S → Prop} {Qv : um_S → Prop} {Qz : Bool → um_S → Prop} {fs : List (Option Nat)}
theorem um_callV0i (hd : decode M.2.1 pc = .ok (.invokevirtual idx, 3)) (hp : pc + 3 = pc2) (hI : um_Iv cl AW M.1.cls idx ci M2 0) (hL : L[q]? = some (.inl (ci, fs))) (hf : f2 + 1 ≤ f) (hlo : 8 + (M2.2.2.1 + 11) + lo2 ≤ lo) (hst : (st.map fun v => v.category).sum ≤ 8) (hcon : um_Con cl AW L SX f2 lo2 M2 [.ref q] σ (um_Qi Qi)) (h : ∀ x u, Qi x u → um_Ev cl AW L SX M f lo pc2 ls (.int x :: st) u Q) : um_Ev cl AW L SX M f lo pc ls (.ref q :: st) σ Q := um_callV0 hd hp hI hL hf hlo hst hcon (fun r u z => by obtain ⟨x, rfl, z⟩ := z; exact h x u z)
theorem um_callV0v (hd : decode M.2.1 pc = .ok (.invokevirtual idx, 3)) (hp : pc + 3 = pc2) (hI : um_Iv cl AW M.1.cls idx ci M2 0) (hL : L[q]? = some (.inl (ci, fs))) (hf : f2 + 1 ≤ f) (hlo : 8 + (M2.2.2.1 + 11) + lo2 ≤ lo) (hst : (st.map fun v => v.category).sum ≤ 8) (hcon : um_Con cl AW L SX f2 lo2 M2 [.ref q] σ (um_Qv Qv)) (h : ∀ u, Qv u → um_Ev cl AW L SX M f lo pc2 ls st u Q) : um_Ev cl AW L SX M f lo pc ls (.ref q :: st) σ Q := um_callV0 hd hp hI hL hf hlo hst hcon (fun r u z => by obtain ⟨rfl, z⟩ := z; exact h u z)
theorem um_callV0z (hd : decode M.2.1 pc = .ok (.invokevirtual idx, 3)) (hp : pc + 3 = pc2) (hI : um_Iv cl AW M.1.cls idx ci M2 0) (hL : L[q]? = some (.inl (ci, fs))) (hf : f2 + 1 ≤ f) (hlo : 8 + (M2.2.2.1 + 11) + lo2 ≤ lo) (hst : (st.map fun v => v.category).sum ≤ 8) (hcon : um_Con cl AW L SX f2 lo2 M2 [.ref q] σ (um_Qz Qz)) (h : ∀ b u, Qz b u → um_Ev cl AW L SX M f lo pc2 ls (.int (if b then 1 else 0) :: st) u Q) : um_Ev cl AW L SX M f lo pc ls (.ref q :: st) σ Q := um_callV0 hd hp hI hL hf hlo hst hcon (fun r u z => by obtain ⟨b, rfl, z⟩ := z; exact h b u z)
theorem um_callV1i {a : Value} (hd : decode M.2.1 pc = .ok (.invokevirtual idx, 3)) (hp : pc + 3 = pc2) (hI : um_Iv cl AW M.1.cls idx ci M2 1) (hL : L[q]? = some (.inl (ci, fs))) (hf : f2 + 1 ≤ f) (hlo : 8 + (M2.2.2.1 + 11) + lo2 ≤ lo) (hst : (st.map fun v => v.category).sum ≤ 8) (hcon : um_Con cl AW L SX f2 lo2 M2 [.ref q, a] σ (um_Qi Qi)) (h : ∀ x u, Qi x u → um_Ev cl AW L SX M f lo pc2 ls (.int x :: st) u Q) : um_Ev cl AW L SX M f lo pc ls (a :: .ref q :: st) σ Q := um_callV1 hd hp hI hL hf hlo hst hcon (fun r u z => by obtain ⟨x, rfl, z⟩ := z; exact h x u z)
theorem um_callV1v {a : Value} (hd : decode M.2.1 pc = .ok (.invokevirtual idx, 3)) (hp : pc + 3 = pc2) (hI : um_Iv cl AW M.1.cls idx ci M2 1) (hL : L[q]? = some (.inl (ci, fs))) (hf : f2 + 1 ≤ f) (hlo : 8 + (M2.2.2.1 + 11) + lo2 ≤ lo) (hst : (st.map fun v => v.category).sum ≤ 8) (hcon : um_Con cl AW L SX f2 lo2 M2 [.ref q, a] σ (um_Qv Qv)) (h : ∀ u, Qv u → um_Ev cl AW L SX M f lo pc2 ls st u Q) : um_Ev cl AW L SX M f lo pc ls (a :: .ref q :: st) σ Q := um_callV1 hd hp hI hL hf hlo hst hcon (fun r u z => by obtain ⟨rfl, z⟩ := z; exact h u z)
theorem um_callV1z {a : Value} (hd : decode M.2.1 pc = .ok (.invokevirtual idx, 3)) (hp : pc + 3 = pc2) (hI : um_Iv cl AW M.1.cls idx ci M2 1) (hL : L[q]? = some (.inl (ci, fs))) (hf : f2 + 1 ≤ f) (hlo : 8 + (M2.2.2.1 + 11) + lo2 ≤ lo) (hst : (st.map fun v => v.category).sum ≤ 8) (hcon : um_Con cl AW L SX f2 lo2 M2 [.ref q, a] σ (um_Qz Qz)) (h : ∀ b u, Qz b u → um_Ev cl AW L SX M f lo pc2 ls (.int (if b then 1 else 0) :: st) u Q) : um_Ev cl AW L SX M f lo pc ls (a :: .ref q :: st) σ Q := um_callV1 hd hp hI hL hf hlo hst hcon (fun r u z => by obtain ⟨b, rfl, z⟩ := z; exact h b u z)
theorem um_callS1i {a : Value} (hd : decode M.2.1 pc = .ok (.invokestatic idx, 3)) (hp : pc + 3 = pc2) (hI : um_Is AW M.1.cls idx M2 1) (hf : f2 + 1 ≤ f) (hlo : 8 + (M2.2.2.1 + 11) + lo2 ≤ lo) (hst : (st.map fun v => v.category).sum ≤ 8) (hcon : um_Con cl AW L SX f2 lo2 M2 [a] σ (um_Qi Qi)) (h : ∀ x u, Qi x u → um_Ev cl AW L SX M f lo pc2 ls (.int x :: st) u Q) : um_Ev cl AW L SX M f lo pc ls (a :: st) σ Q := um_callS1 hd hp hI hf hlo hst hcon (fun r u z => by obtain ⟨x, rfl, z⟩ := z; exact h x u z)
theorem um_callS1v {a : Value} (hd : decode M.2.1 pc = .ok (.invokestatic idx, 3)) (hp : pc + 3 = pc2) (hI : um_Is AW M.1.cls idx M2 1) (hf : f2 + 1 ≤ f) (hlo : 8 + (M2.2.2.1 + 11) + lo2 ≤ lo) (hst : (st.map fun v => v.category).sum ≤ 8) (hcon : um_Con cl AW L SX f2 lo2 M2 [a] σ (um_Qv Qv)) (h : ∀ u, Qv u → um_Ev cl AW L SX M f lo pc2 ls st u Q) : um_Ev cl AW L SX M f lo pc ls (a :: st) σ Q := um_callS1 hd hp hI hf hlo hst hcon (fun r u z => by obtain ⟨rfl, z⟩ := z; exact h u z)
theorem um_callS1z {a : Value} (hd : decode M.2.1 pc = .ok (.invokestatic idx, 3)) (hp : pc + 3 = pc2) (hI : um_Is AW M.1.cls idx M2 1) (hf : f2 + 1 ≤ f) (hlo : 8 + (M2.2.2.1 + 11) + lo2 ≤ lo) (hst : (st.map fun v => v.category).sum ≤ 8) (hcon : um_Con cl AW L SX f2 lo2 M2 [a] σ (um_Qz Qz)) (h : ∀ b u, Qz b u → um_Ev cl AW L SX M f lo pc2 ls (.int (if b then 1 else 0) :: st) u Q) : um_Ev cl AW L SX M f lo pc ls (a :: st) σ Q := um_callS1 hd hp hI hf hlo hst hcon (fun r u z => by obtain ⟨b, rfl, z⟩ := z; exact h b u z)
theorem um_callV2i {a b : Value} (hd : decode M.2.1 pc = .ok (.invokevirtual idx, 3)) (hp : pc + 3 = pc2) (hI : um_Iv cl AW M.1.cls idx ci M2 2) (hL : L[q]? = some (.inl (ci, fs))) (hf : f2 + 1 ≤ f) (hlo : 8 + (M2.2.2.1 + 11) + lo2 ≤ lo) (hst : (st.map fun v => v.category).sum ≤ 8) (hcon : um_Con cl AW L SX f2 lo2 M2 [.ref q, a, b] σ (um_Qi Qi)) (h : ∀ x u, Qi x u → um_Ev cl AW L SX M f lo pc2 ls (.int x :: st) u Q) : um_Ev cl AW L SX M f lo pc ls (b :: a :: .ref q :: st) σ Q := um_callV2 hd hp hI hL hf hlo hst hcon (fun r u z => by obtain ⟨x, rfl, z⟩ := z; exact h x u z)
theorem um_callV2v {a b : Value} (hd : decode M.2.1 pc = .ok (.invokevirtual idx, 3)) (hp : pc + 3 = pc2) (hI : um_Iv cl AW M.1.cls idx ci M2 2) (hL : L[q]? = some (.inl (ci, fs))) (hf : f2 + 1 ≤ f) (hlo : 8 + (M2.2.2.1 + 11) + lo2 ≤ lo) (hst : (st.map fun v => v.category).sum ≤ 8) (hcon : um_Con cl AW L SX f2 lo2 M2 [.ref q, a, b] σ (um_Qv Qv)) (h : ∀ u, Qv u → um_Ev cl AW L SX M f lo pc2 ls st u Q) : um_Ev cl AW L SX M f lo pc ls (b :: a :: .ref q :: st) σ Q := um_callV2 hd hp hI hL hf hlo hst hcon (fun r u z => by obtain ⟨rfl, z⟩ := z; exact h u z)
theorem um_callV2z {a b : Value} (hd : decode M.2.1 pc = .ok (.invokevirtual idx, 3)) (hp : pc + 3 = pc2) (hI : um_Iv cl AW M.1.cls idx ci M2 2) (hL : L[q]? = some (.inl (ci, fs))) (hf : f2 + 1 ≤ f) (hlo : 8 + (M2.2.2.1 + 11) + lo2 ≤ lo) (hst : (st.map fun v => v.category).sum ≤ 8) (hcon : um_Con cl AW L SX f2 lo2 M2 [.ref q, a, b] σ (um_Qz Qz)) (h : ∀ y u, Qz y u → um_Ev cl AW L SX M f lo pc2 ls (.int (if y then 1 else 0) :: st) u Q) : um_Ev cl AW L SX M f lo pc ls (b :: a :: .ref q :: st) σ Q := um_callV2 hd hp hI hL hf hlo hst hcon (fun r u z => by obtain ⟨b, rfl, z⟩ := z; exact h b u z)
theorem um_callS2i {a b : Value} (hd : decode M.2.1 pc = .ok (.invokestatic idx, 3)) (hp : pc + 3 = pc2) (hI : um_Is AW M.1.cls idx M2 2) (hf : f2 + 1 ≤ f) (hlo : 8 + (M2.2.2.1 + 11) + lo2 ≤ lo) (hst : (st.map fun v => v.category).sum ≤ 8) (hcon : um_Con cl AW L SX f2 lo2 M2 [a, b] σ (um_Qi Qi)) (h : ∀ x u, Qi x u → um_Ev cl AW L SX M f lo pc2 ls (.int x :: st) u Q) : um_Ev cl AW L SX M f lo pc ls (b :: a :: st) σ Q := um_callS2 hd hp hI hf hlo hst hcon (fun r u z => by obtain ⟨x, rfl, z⟩ := z; exact h x u z)
theorem um_callS2v {a b : Value} (hd : decode M.2.1 pc = .ok (.invokestatic idx, 3)) (hp : pc + 3 = pc2) (hI : um_Is AW M.1.cls idx M2 2) (hf : f2 + 1 ≤ f) (hlo : 8 + (M2.2.2.1 + 11) + lo2 ≤ lo) (hst : (st.map fun v => v.category).sum ≤ 8) (hcon : um_Con cl AW L SX f2 lo2 M2 [a, b] σ (um_Qv Qv)) (h : ∀ u, Qv u → um_Ev cl AW L SX M f lo pc2 ls st u Q) : um_Ev cl AW L SX M f lo pc ls (b :: a :: st) σ Q := um_callS2 hd hp hI hf hlo hst hcon (fun r u z => by obtain ⟨rfl, z⟩ := z; exact h u z)
theorem um_callS2z {a b : Value} (hd : decode M.2.1 pc = .ok (.invokestatic idx, 3)) (hp : pc + 3 = pc2) (hI : um_Is AW M.1.cls idx M2 2) (hf : f2 + 1 ≤ f) (hlo : 8 + (M2.2.2.1 + 11) + lo2 ≤ lo) (hst : (st.map fun v => v.category).sum ≤ 8) (hcon : um_Con cl AW L SX f2 lo2 M2 [a, b] σ (um_Qz Qz)) (h : ∀ y u, Qz y u → um_Ev cl AW L SX M f lo pc2 ls (.int (if y then 1 else 0) :: st) u Q) : um_Ev cl AW L SX M f lo pc ls (b :: a :: st) σ Q := um_callS2 hd hp hI hf hlo hst hcon (fun r u z => by obtain ⟨b, rfl, z⟩ := z; exact h b u z)
theorem um_callV3i {a b c : Value} (hd : decode M.2.1 pc = .ok (.invokevirtual idx, 3)) (hp : pc + 3 = pc2) (hI : um_Iv cl AW M.1.cls idx ci M2 3) (hL : L[q]? = some (.inl (ci, fs))) (hf : f2 + 1 ≤ f) (hlo : 8 + (M2.2.2.1 + 11) + lo2 ≤ lo) (hst : (st.map fun v => v.category).sum ≤ 8) (hcon : um_Con cl AW L SX f2 lo2 M2 [.ref q, a, b, c] σ (um_Qi Qi)) (h : ∀ x u, Qi x u → um_Ev cl AW L SX M f lo pc2 ls (.int x :: st) u Q) : um_Ev cl AW L SX M f lo pc ls (c :: b :: a :: .ref q :: st) σ Q := um_callV3 hd hp hI hL hf hlo hst hcon (fun r u z => by obtain ⟨x, rfl, z⟩ := z; exact h x u z)
theorem um_callV3v {a b c : Value} (hd : decode M.2.1 pc = .ok (.invokevirtual idx, 3)) (hp : pc + 3 = pc2) (hI : um_Iv cl AW M.1.cls idx ci M2 3) (hL : L[q]? = some (.inl (ci, fs))) (hf : f2 + 1 ≤ f) (hlo : 8 + (M2.2.2.1 + 11) + lo2 ≤ lo) (hst : (st.map fun v => v.category).sum ≤ 8) (hcon : um_Con cl AW L SX f2 lo2 M2 [.ref q, a, b, c] σ (um_Qv Qv)) (h : ∀ u, Qv u → um_Ev cl AW L SX M f lo pc2 ls st u Q) : um_Ev cl AW L SX M f lo pc ls (c :: b :: a :: .ref q :: st) σ Q := um_callV3 hd hp hI hL hf hlo hst hcon (fun r u z => by obtain ⟨rfl, z⟩ := z; exact h u z)
theorem um_callV3z {a b c : Value} (hd : decode M.2.1 pc = .ok (.invokevirtual idx, 3)) (hp : pc + 3 = pc2) (hI : um_Iv cl AW M.1.cls idx ci M2 3) (hL : L[q]? = some (.inl (ci, fs))) (hf : f2 + 1 ≤ f) (hlo : 8 + (M2.2.2.1 + 11) + lo2 ≤ lo) (hst : (st.map fun v => v.category).sum ≤ 8) (hcon : um_Con cl AW L SX f2 lo2 M2 [.ref q, a, b, c] σ (um_Qz Qz)) (h : ∀ y u, Qz y u → um_Ev cl AW L SX M f lo pc2 ls (.int (if y then 1 else 0) :: st) u Q) : um_Ev cl AW L SX M f lo pc ls (c :: b :: a :: .ref q :: st) σ Q := um_callV3 hd hp hI hL hf hlo hst hcon (fun r u z => by obtain ⟨b, rfl, z⟩ := z; exact h b u z)
theorem um_callS3i {a b c : Value} (hd : decode M.2.1 pc = .ok (.invokestatic idx, 3)) (hp : pc + 3 = pc2) (hI : um_Is AW M.1.cls idx M2 3) (hf : f2 + 1 ≤ f) (hlo : 8 + (M2.2.2.1 + 11) + lo2 ≤ lo) (hst : (st.map fun v => v.category).sum ≤ 8) (hcon : um_Con cl AW L SX f2 lo2 M2 [a, b, c] σ (um_Qi Qi)) (h : ∀ x u, Qi x u → um_Ev cl AW L SX M f lo pc2 ls (.int x :: st) u Q) : um_Ev cl AW L SX M f lo pc ls (c :: b :: a :: st) σ Q := um_callS3 hd hp hI hf hlo hst hcon (fun r u z => by obtain ⟨x, rfl, z⟩ := z; exact h x u z)
theorem um_callS3v {a b c : Value} (hd : decode M.2.1 pc = .ok (.invokestatic idx, 3)) (hp : pc + 3 = pc2) (hI : um_Is AW M.1.cls idx M2 3) (hf : f2 + 1 ≤ f) (hlo : 8 + (M2.2.2.1 + 11) + lo2 ≤ lo) (hst : (st.map fun v => v.category).sum ≤ 8) (hcon : um_Con cl AW L SX f2 lo2 M2 [a, b, c] σ (um_Qv Qv)) (h : ∀ u, Qv u → um_Ev cl AW L SX M f lo pc2 ls st u Q) : um_Ev cl AW L SX M f lo pc ls (c :: b :: a :: st) σ Q := um_callS3 hd hp hI hf hlo hst hcon (fun r u z => by obtain ⟨rfl, z⟩ := z; exact h u z)
theorem um_callS3z {a b c : Value} (hd : decode M.2.1 pc = .ok (.invokestatic idx, 3)) (hp : pc + 3 = pc2) (hI : um_Is AW M.1.cls idx M2 3) (hf : f2 + 1 ≤ f) (hlo : 8 + (M2.2.2.1 + 11) + lo2 ≤ lo) (hst : (st.map fun v => v.category).sum ≤ 8) (hcon : um_Con cl AW L SX f2 lo2 M2 [a, b, c] σ (um_Qz Qz)) (h : ∀ y u, Qz y u → um_Ev cl AW L SX M f lo pc2 ls (.int (if y then 1 else 0) :: st) u Q) : um_Ev cl AW L SX M f lo pc ls (c :: b :: a :: st) σ Q := um_callS3 hd hp hI hf hlo hst hcon (fun r u z => by obtain ⟨b, rfl, z⟩ := z; exact h b u z)
theorem um_callV4i {a b c d : Value} (hd : decode M.2.1 pc = .ok (.invokevirtual idx, 3)) (hp : pc + 3 = pc2) (hI : um_Iv cl AW M.1.cls idx ci M2 4) (hL : L[q]? = some (.inl (ci, fs))) (hf : f2 + 1 ≤ f) (hlo : 8 + (M2.2.2.1 + 11) + lo2 ≤ lo) (hst : (st.map fun v => v.category).sum ≤ 8) (hcon : um_Con cl AW L SX f2 lo2 M2 [.ref q, a, b, c, d] σ (um_Qi Qi)) (h : ∀ x u, Qi x u → um_Ev cl AW L SX M f lo pc2 ls (.int x :: st) u Q) : um_Ev cl AW L SX M f lo pc ls (d :: c :: b :: a :: .ref q :: st) σ Q := um_callV4 hd hp hI hL hf hlo hst hcon (fun r u z => by obtain ⟨x, rfl, z⟩ := z; exact h x u z)
theorem um_callV4v {a b c d : Value} (hd : decode M.2.1 pc = .ok (.invokevirtual idx, 3)) (hp : pc + 3 = pc2) (hI : um_Iv cl AW M.1.cls idx ci M2 4) (hL : L[q]? = some (.inl (ci, fs))) (hf : f2 + 1 ≤ f) (hlo : 8 + (M2.2.2.1 + 11) + lo2 ≤ lo) (hst : (st.map fun v => v.category).sum ≤ 8) (hcon : um_Con cl AW L SX f2 lo2 M2 [.ref q, a, b, c, d] σ (um_Qv Qv)) (h : ∀ u, Qv u → um_Ev cl AW L SX M f lo pc2 ls st u Q) : um_Ev cl AW L SX M f lo pc ls (d :: c :: b :: a :: .ref q :: st) σ Q := um_callV4 hd hp hI hL hf hlo hst hcon (fun r u z => by obtain ⟨rfl, z⟩ := z; exact h u z)
theorem um_callV4z {a b c d : Value} (hd : decode M.2.1 pc = .ok (.invokevirtual idx, 3)) (hp : pc + 3 = pc2) (hI : um_Iv cl AW M.1.cls idx ci M2 4) (hL : L[q]? = some (.inl (ci, fs))) (hf : f2 + 1 ≤ f) (hlo : 8 + (M2.2.2.1 + 11) + lo2 ≤ lo) (hst : (st.map fun v => v.category).sum ≤ 8) (hcon : um_Con cl AW L SX f2 lo2 M2 [.ref q, a, b, c, d] σ (um_Qz Qz)) (h : ∀ y u, Qz y u → um_Ev cl AW L SX M f lo pc2 ls (.int (if y then 1 else 0) :: st) u Q) : um_Ev cl AW L SX M f lo pc ls (d :: c :: b :: a :: .ref q :: st) σ Q := um_callV4 hd hp hI hL hf hlo hst hcon (fun r u z => by obtain ⟨b, rfl, z⟩ := z; exact h b u z)
theorem um_callS4i {a b c d : Value} (hd : decode M.2.1 pc = .ok (.invokestatic idx, 3)) (hp : pc + 3 = pc2) (hI : um_Is AW M.1.cls idx M2 4) (hf : f2 + 1 ≤ f) (hlo : 8 + (M2.2.2.1 + 11) + lo2 ≤ lo) (hst : (st.map fun v => v.category).sum ≤ 8) (hcon : um_Con cl AW L SX f2 lo2 M2 [a, b, c, d] σ (um_Qi Qi)) (h : ∀ x u, Qi x u → um_Ev cl AW L SX M f lo pc2 ls (.int x :: st) u Q) : um_Ev cl AW L SX M f lo pc ls (d :: c :: b :: a :: st) σ Q := um_callS4 hd hp hI hf hlo hst hcon (fun r u z => by obtain ⟨x, rfl, z⟩ := z; exact h x u z)
theorem um_callS4v {a b c d : Value} (hd : decode M.2.1 pc = .ok (.invokestatic idx, 3)) (hp : pc + 3 = pc2) (hI : um_Is AW M.1.cls idx M2 4) (hf : f2 + 1 ≤ f) (hlo : 8 + (M2.2.2.1 + 11) + lo2 ≤ lo) (hst : (st.map fun v => v.category).sum ≤ 8) (hcon : um_Con cl AW L SX f2 lo2 M2 [a, b, c, d] σ (um_Qv Qv)) (h : ∀ u, Qv u → um_Ev cl AW L SX M f lo pc2 ls st u Q) : um_Ev cl AW L SX M f lo pc ls (d :: c :: b :: a :: st) σ Q := um_callS4 hd hp hI hf hlo hst hcon (fun r u z => by obtain ⟨rfl, z⟩ := z; exact h u z)
theorem um_callS4z {a b c d : Value} (hd : decode M.2.1 pc = .ok (.invokestatic idx, 3)) (hp : pc + 3 = pc2) (hI : um_Is AW M.1.cls idx M2 4) (hf : f2 + 1 ≤ f) (hlo : 8 + (M2.2.2.1 + 11) + lo2 ≤ lo) (hst : (st.map fun v => v.category).sum ≤ 8) (hcon : um_Con cl AW L SX f2 lo2 M2 [a, b, c, d] σ (um_Qz Qz)) (h : ∀ y u, Qz y u → um_Ev cl AW L SX M f lo pc2 ls (.int (if y then 1 else 0) :: st) u Q) : um_Ev cl AW L SX M f lo pc ls (d :: c :: b :: a :: st) σ Q := um_callS4 hd hp hI hf hlo hst hcon (fun r u z => by obtain ⟨b, rfl, z⟩ := z; exact h b u z)
theorem um_callV5i {a b c d e : Value} (hd : decode M.2.1 pc = .ok (.invokevirtual idx, 3)) (hp : pc + 3 = pc2) (hI : um_Iv cl AW M.1.cls idx ci M2 5) (hL : L[q]? = some (.inl (ci, fs))) (hf : f2 + 1 ≤ f) (hlo : 8 + (M2.2.2.1 + 11) + lo2 ≤ lo) (hst : (st.map fun v => v.category).sum ≤ 8) (hcon : um_Con cl AW L SX f2 lo2 M2 [.ref q, a, b, c, d, e] σ (um_Qi Qi)) (h : ∀ x u, Qi x u → um_Ev cl AW L SX M f lo pc2 ls (.int x :: st) u Q) : um_Ev cl AW L SX M f lo pc ls (e :: d :: c :: b :: a :: .ref q :: st) σ Q := um_callV5 hd hp hI hL hf hlo hst hcon (fun r u z => by obtain ⟨x, rfl, z⟩ := z; exact h x u z)
theorem um_callV5v {a b c d e : Value} (hd : decode M.2.1 pc = .ok (.invokevirtual idx, 3)) (hp : pc + 3 = pc2) (hI : um_Iv cl AW M.1.cls idx ci M2 5) (hL : L[q]? = some (.inl (ci, fs))) (hf : f2 + 1 ≤ f) (hlo : 8 + (M2.2.2.1 + 11) + lo2 ≤ lo) (hst : (st.map fun v => v.category).sum ≤ 8) (hcon : um_Con cl AW L SX f2 lo2 M2 [.ref q, a, b, c, d, e] σ (um_Qv Qv)) (h : ∀ u, Qv u → um_Ev cl AW L SX M f lo pc2 ls st u Q) : um_Ev cl AW L SX M f lo pc ls (e :: d :: c :: b :: a :: .ref q :: st) σ Q := um_callV5 hd hp hI hL hf hlo hst hcon (fun r u z => by obtain ⟨rfl, z⟩ := z; exact h u z)
theorem um_callV5z {a b c d e : Value} (hd : decode M.2.1 pc = .ok (.invokevirtual idx, 3)) (hp : pc + 3 = pc2) (hI : um_Iv cl AW M.1.cls idx ci M2 5) (hL : L[q]? = some (.inl (ci, fs))) (hf : f2 + 1 ≤ f) (hlo : 8 + (M2.2.2.1 + 11) + lo2 ≤ lo) (hst : (st.map fun v => v.category).sum ≤ 8) (hcon : um_Con cl AW L SX f2 lo2 M2 [.ref q, a, b, c, d, e] σ (um_Qz Qz)) (h : ∀ y u, Qz y u → um_Ev cl AW L SX M f lo pc2 ls (.int (if y then 1 else 0) :: st) u Q) : um_Ev cl AW L SX M f lo pc ls (e :: d :: c :: b :: a :: .ref q :: st) σ Q := um_callV5 hd hp hI hL hf hlo hst hcon (fun r u z => by obtain ⟨b, rfl, z⟩ := z; exact h b u z)
theorem um_callS5i {a b c d e : Value} (hd : decode M.2.1 pc = .ok (.invokestatic idx, 3)) (hp : pc + 3 = pc2) (hI : um_Is AW M.1.cls idx M2 5) (hf : f2 + 1 ≤ f) (hlo : 8 + (M2.2.2.1 + 11) + lo2 ≤ lo) (hst : (st.map fun v => v.category).sum ≤ 8) (hcon : um_Con cl AW L SX f2 lo2 M2 [a, b, c, d, e] σ (um_Qi Qi)) (h : ∀ x u, Qi x u → um_Ev cl AW L SX M f lo pc2 ls (.int x :: st) u Q) : um_Ev cl AW L SX M f lo pc ls (e :: d :: c :: b :: a :: st) σ Q := um_callS5 hd hp hI hf hlo hst hcon (fun r u z => by obtain ⟨x, rfl, z⟩ := z; exact h x u z)
theorem um_callS5v {a b c d e : Value} (hd : decode M.2.1 pc = .ok (.invokestatic idx, 3)) (hp : pc + 3 = pc2) (hI : um_Is AW M.1.cls idx M2 5) (hf : f2 + 1 ≤ f) (hlo : 8 + (M2.2.2.1 + 11) + lo2 ≤ lo) (hst : (st.map fun v => v.category).sum ≤ 8) (hcon : um_Con cl AW L SX f2 lo2 M2 [a, b, c, d, e] σ (um_Qv Qv)) (h : ∀ u, Qv u → um_Ev cl AW L SX M f lo pc2 ls st u Q) : um_Ev cl AW L SX M f lo pc ls (e :: d :: c :: b :: a :: st) σ Q := um_callS5 hd hp hI hf hlo hst hcon (fun r u z => by obtain ⟨rfl, z⟩ := z; exact h u z)
theorem um_callS5z {a b c d e : Value} (hd : decode M.2.1 pc = .ok (.invokestatic idx, 3)) (hp : pc + 3 = pc2) (hI : um_Is AW M.1.cls idx M2 5) (hf : f2 + 1 ≤ f) (hlo : 8 + (M2.2.2.1 + 11) + lo2 ≤ lo) (hst : (st.map fun v => v.category).sum ≤ 8) (hcon : um_Con cl AW L SX f2 lo2 M2 [a, b, c, d, e] σ (um_Qz Qz)) (h : ∀ y u, Qz y u → um_Ev cl AW L SX M f lo pc2 ls (.int (if y then 1 else 0) :: st) u Q) : um_Ev cl AW L SX M f lo pc ls (e :: d :: c :: b :: a :: st) σ Q := um_callS5 hd hp hI hf hlo hst hcon (fun r u z => by obtain ⟨b, rfl, z⟩ := z; exact h b u z)
theorem um_callV6i {a b c d e g : Value} (hd : decode M.2.1 pc = .ok (.invokevirtual idx, 3)) (hp : pc + 3 = pc2) (hI : um_Iv cl AW M.1.cls idx ci M2 6) (hL : L[q]? = some (.inl (ci, fs))) (hf : f2 + 1 ≤ f) (hlo : 8 + (M2.2.2.1 + 11) + lo2 ≤ lo) (hst : (st.map fun v => v.category).sum ≤ 8) (hcon : um_Con cl AW L SX f2 lo2 M2 [.ref q, a, b, c, d, e, g] σ (um_Qi Qi)) (h : ∀ x u, Qi x u → um_Ev cl AW L SX M f lo pc2 ls (.int x :: st) u Q) : um_Ev cl AW L SX M f lo pc ls (g :: e :: d :: c :: b :: a :: .ref q :: st) σ Q := um_callV6 hd hp hI hL hf hlo hst hcon (fun r u z => by obtain ⟨x, rfl, z⟩ := z; exact h x u z)
theorem um_callV6v {a b c d e g : Value} (hd : decode M.2.1 pc = .ok (.invokevirtual idx, 3)) (hp : pc + 3 = pc2) (hI : um_Iv cl AW M.1.cls idx ci M2 6) (hL : L[q]? = some (.inl (ci, fs))) (hf : f2 + 1 ≤ f) (hlo : 8 + (M2.2.2.1 + 11) + lo2 ≤ lo) (hst : (st.map fun v => v.category).sum ≤ 8) (hcon : um_Con cl AW L SX f2 lo2 M2 [.ref q, a, b, c, d, e, g] σ (um_Qv Qv)) (h : ∀ u, Qv u → um_Ev cl AW L SX M f lo pc2 ls st u Q) : um_Ev cl AW L SX M f lo pc ls (g :: e :: d :: c :: b :: a :: .ref q :: st) σ Q := um_callV6 hd hp hI hL hf hlo hst hcon (fun r u z => by obtain ⟨rfl, z⟩ := z; exact h u z)
theorem um_callV6z {a b c d e g : Value} (hd : decode M.2.1 pc = .ok (.invokevirtual idx, 3)) (hp : pc + 3 = pc2) (hI : um_Iv cl AW M.1.cls idx ci M2 6) (hL : L[q]? = some (.inl (ci, fs))) (hf : f2 + 1 ≤ f) (hlo : 8 + (M2.2.2.1 + 11) + lo2 ≤ lo) (hst : (st.map fun v => v.category).sum ≤ 8) (hcon : um_Con cl AW L SX f2 lo2 M2 [.ref q, a, b, c, d, e, g] σ (um_Qz Qz)) (h : ∀ y u, Qz y u → um_Ev cl AW L SX M f lo pc2 ls (.int (if y then 1 else 0) :: st) u Q) : um_Ev cl AW L SX M f lo pc ls (g :: e :: d :: c :: b :: a :: .ref q :: st) σ Q := um_callV6 hd hp hI hL hf hlo hst hcon (fun r u z => by obtain ⟨b, rfl, z⟩ := z; exact h b u z)
theorem um_callS6i {a b c d e g : Value} (hd : decode M.2.1 pc = .ok (.invokestatic idx, 3)) (hp : pc + 3 = pc2) (hI : um_Is AW M.1.cls idx M2 6) (hf : f2 + 1 ≤ f) (hlo : 8 + (M2.2.2.1 + 11) + lo2 ≤ lo) (hst : (st.map fun v => v.category).sum ≤ 8) (hcon : um_Con cl AW L SX f2 lo2 M2 [a, b, c, d, e, g] σ (um_Qi Qi)) (h : ∀ x u, Qi x u → um_Ev cl AW L SX M f lo pc2 ls (.int x :: st) u Q) : um_Ev cl AW L SX M f lo pc ls (g :: e :: d :: c :: b :: a :: st) σ Q := um_callS6 hd hp hI hf hlo hst hcon (fun r u z => by obtain ⟨x, rfl, z⟩ := z; exact h x u z)
theorem um_callS6v {a b c d e g : Value} (hd : decode M.2.1 pc = .ok (.invokestatic idx, 3)) (hp : pc + 3 = pc2) (hI : um_Is AW M.1.cls idx M2 6) (hf : f2 + 1 ≤ f) (hlo : 8 + (M2.2.2.1 + 11) + lo2 ≤ lo) (hst : (st.map fun v => v.category).sum ≤ 8) (hcon : um_Con cl AW L SX f2 lo2 M2 [a, b, c, d, e, g] σ (um_Qv Qv)) (h : ∀ u, Qv u → um_Ev cl AW L SX M f lo pc2 ls st u Q) : um_Ev cl AW L SX M f lo pc ls (g :: e :: d :: c :: b :: a :: st) σ Q := um_callS6 hd hp hI hf hlo hst hcon (fun r u z => by obtain ⟨rfl, z⟩ := z; exact h u z)
theorem um_callS6z {a b c d e g : Value} (hd : decode M.2.1 pc = .ok (.invokestatic idx, 3)) (hp : pc + 3 = pc2) (hI : um_Is AW M.1.cls idx M2 6) (hf : f2 + 1 ≤ f) (hlo : 8 + (M2.2.2.1 + 11) + lo2 ≤ lo) (hst : (st.map fun v => v.category).sum ≤ 8) (hcon : um_Con cl AW L SX f2 lo2 M2 [a, b, c, d, e, g] σ (um_Qz Qz)) (h : ∀ y u, Qz y u → um_Ev cl AW L SX M f lo pc2 ls (.int (if y then 1 else 0) :: st) u Q) : um_Ev cl AW L SX M f lo pc ls (g :: e :: d :: c :: b :: a :: st) σ Q := um_callS6 hd hp hI hf hlo hst hcon (fun r u z => by obtain ⟨b, rfl, z⟩ := z; exact h b u z)
end UmCallK
end
