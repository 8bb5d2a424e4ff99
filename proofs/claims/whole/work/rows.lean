section
/-! A small machine of ints above the kit's rows. A state is a function: the int of cell q at place k (a field's slot, an array's element).
The cells, their classes and what refers to what stay as they are (a layout): objects with int fields and references to cells, int arrays.
um_Ev: from this place of a method, with these locals, this stack and this state, the method returns, with Q of its answer and its state.
um_Con: a method's contract at these arguments and this state. A row an instruction, a row a call. -/
abbrev um_S : Type := Nat → Nat → Int32
def um_up (σ : um_S) (q k : Nat) (v : Int32) : um_S := fun a b => if a = q ∧ b = k then v else σ a b
theorem um_up_self {σ : um_S} {q k : Nat} {v : Int32} : um_up σ q k v q k = v := by simp [um_up]
theorem um_up_ne {σ : um_S} {q k a b : Nat} {v : Int32} (h : ¬ (a = q ∧ b = k)) : um_up σ q k v a b = σ a b := by simp [um_up, h]
theorem um_up_q {σ : um_S} {q k a : Nat} {v : Int32} (h : a ≠ q) : um_up σ q k v a = σ a := by
  funext b
  simp [um_up, h]
theorem um_up_row {σ : um_S} {q k : Nat} {v : Int32} : um_up σ q k v q = upd (σ q) k v := by
  funext b
  simp [um_up, upd]
abbrev um_E : Type := (Nat × List (Option Nat)) ⊕ Nat
def um_fv (ad : Nat → Nat) (σ : um_S) (q k : Nat) (o : Option Nat) : Value := match o with
  | none => .int (σ q k)
  | some j => .ref (ad j)
def um_cell (ad : Nat → Nat) (cA : ClassId) (σ : um_S) (q : Nat) (e : um_E) : Nat × va_E := match e with
  | .inl o => (ad q, .inr (o.1, o.2.mapIdx (um_fv ad σ q)))
  | .inr n => (ad q, .inl (cA, n, .inl (σ q)))
def um_ws (ad : Nat → Nat) (cA : ClassId) (L : List um_E) (σ : um_S) : va_W := L.mapIdx (um_cell ad cA σ)
theorem um_ws_at {ad : Nat → Nat} {cA : ClassId} {L : List um_E} {σ : um_S} {q : Nat} : (um_ws ad cA L σ)[q]? = (L[q]?).map (um_cell ad cA σ q) := by
  simp [um_ws]
theorem um_fv_ne {ad : Nat → Nat} {σ : um_S} {q k i : Nat} {v : Int32} (h : i ≠ q) : um_fv ad (um_up σ q k v) i = um_fv ad σ i := by
  funext j o
  cases o with
  | none => simp [um_fv, um_up, h]
  | some _ => rfl
theorem um_cell_ne {ad : Nat → Nat} {cA : ClassId} {σ : um_S} {q k i : Nat} {v : Int32} {e : um_E} (h : i ≠ q) : um_cell ad cA (um_up σ q k v) i e = um_cell ad cA σ i e := by
  cases e with
  | inl o => simp only [um_cell, um_fv_ne h]
  | inr n => simp only [um_cell, um_up_q h]
theorem um_ws_setF {ad : Nat → Nat} {cA : ClassId} {L : List um_E} {σ : um_S} {q k ci : Nat} {fs : List (Option Nat)} {v : Int32} (hL : L[q]? = some (.inl (ci, fs))) (hk : fs[k]? = some none) :
    (um_ws ad cA L σ).set q (ad q, .inr (ci, (fs.mapIdx (um_fv ad σ q)).set k (.int v))) = um_ws ad cA L (um_up σ q k v) := by
  apply List.ext_getElem?
  intro i
  have hlt := (List.getElem?_eq_some_iff.mp hL).1
  have hkt := (List.getElem?_eq_some_iff.mp hk).1
  by_cases hi : i = q
  · subst hi
    rw [List.getElem?_set_self (by simpa [um_ws] using hlt), um_ws_at, hL]
    have e : (fs.mapIdx (um_fv ad σ i)).set k (.int v) = fs.mapIdx (um_fv ad (um_up σ i k v) i) := by
      apply List.ext_getElem?
      intro j
      by_cases hj : j = k
      · subst hj
        rw [List.getElem?_set_self (by simpa using hkt), List.getElem?_mapIdx, hk]
        simp [um_fv, um_up]
      · rw [List.getElem?_set_ne (Ne.symm hj), List.getElem?_mapIdx, List.getElem?_mapIdx]
        cases fs[j]? with
        | none => rfl
        | some o =>
          cases o with
          | none => simp [um_fv, um_up, hj]
          | some _ => rfl
    rw [e]
    rfl
  · rw [List.getElem?_set_ne (Ne.symm hi), um_ws_at, um_ws_at]
    cases L[i]? with
    | none => rfl
    | some e => simp only [Option.map_some, um_cell_ne hi]
theorem um_ws_setA {ad : Nat → Nat} {cA : ClassId} {L : List um_E} {σ : um_S} {q k n : Nat} {v : Int32} (hL : L[q]? = some (.inr n)) :
    (um_ws ad cA L σ).set q (ad q, .inl (cA, n, .inl (upd (σ q) k v))) = um_ws ad cA L (um_up σ q k v) := by
  apply List.ext_getElem?
  intro i
  have hlt := (List.getElem?_eq_some_iff.mp hL).1
  by_cases hi : i = q
  · subst hi
    rw [List.getElem?_set_self (by simpa [um_ws] using hlt), um_ws_at, hL, ← um_up_row]
    rfl
  · rw [List.getElem?_set_ne (Ne.symm hi), um_ws_at, um_ws_at]
    cases L[i]? with
    | none => rfl
    | some e => simp only [Option.map_some, um_cell_ne hi]
/-- values: a reference names a cell by its place -/
def um_v (ad : Nat → Nat) (v : Value) : Value := match v with
  | .ref j => .ref (ad j)
  | .int x => .int x
  | .long x => .long x
  | .float x => .float x
  | .double x => .double x
  | .null => .null
  | .retAddr x => .retAddr x
theorem um_v_cat {ad : Nat → Nat} {v : Value} : (um_v ad v).category = v.category := by cases v <;> rfl
theorem um_v_sum {ad : Nat → Nat} {st : List Value} : ((st.map (um_v ad)).map fun v => v.category).sum = (st.map fun v => v.category).sum := by
  induction st with
  | nil => rfl
  | cons a l ih => simp only [List.map_cons, List.sum_cons, ih, um_v_cat]
/-- locals -/
def um_ls (ad : Nat → Nat) (lsr : Array Slot) (nL : Nat) (ls : List (Option Value)) : Prop :=
  lsr.size = nL ∧ lv_wf lsr ∧ ls.length = nL ∧ ∀ (i : Nat) (v : Value), ls[i]? = some (some v) → lsr[i]? = some (.val (um_v ad v)) ∧ v.category = 1
def um_lv (ad : Nat → Nat) : Nat → List (Option Value) → List (Nat × Value)
  | _, [] => []
  | i, none :: r => um_lv ad (i + 1) r
  | i, some v :: r => (i, um_v ad v) :: um_lv ad (i + 1) r
theorem um_lv_mem {ad : Nat → Nat} : ∀ (ls : List (Option Value)) (i j : Nat) (v : Value), ls[j]? = some (some v) → (i + j, um_v ad v) ∈ um_lv ad i ls
  | [], _, _, _, h => by simp at h
  | none :: r, i, 0, v, h => by simp at h
  | some w :: r, i, 0, v, h => by
    simp only [List.getElem?_cons_zero, Option.some.injEq] at h
    subst h
    exact List.mem_cons_self
  | none :: r, i, j + 1, v, h => by
    rw [List.getElem?_cons_succ] at h
    have := um_lv_mem (ad := ad) r (i + 1) j v h
    rw [show i + (j + 1) = i + 1 + j by omega]
    exact this
  | some w :: r, i, j + 1, v, h => by
    rw [List.getElem?_cons_succ] at h
    have := um_lv_mem (ad := ad) r (i + 1) j v h
    rw [show i + (j + 1) = i + 1 + j by omega]
    exact List.mem_cons_of_mem _ this
theorem um_lv_of {ad : Nat → Nat} : ∀ (ls : List (Option Value)) (i : Nat) (q : Nat × Value), q ∈ um_lv ad i ls → ∃ j v, ls[j]? = some (some v) ∧ q = (i + j, um_v ad v)
  | [], _, _, h => by simp [um_lv] at h
  | none :: r, i, q, h => by
    obtain ⟨j, v, h1, h2⟩ := um_lv_of r (i + 1) q h
    exact ⟨j + 1, v, by rw [List.getElem?_cons_succ]; exact h1, by rw [h2, show i + (j + 1) = i + 1 + j by omega]⟩
  | some w :: r, i, q, h => by
    rcases List.mem_cons.mp h with h | h
    · exact ⟨0, w, rfl, h⟩
    · obtain ⟨j, v, h1, h2⟩ := um_lv_of r (i + 1) q h
      exact ⟨j + 1, v, by rw [List.getElem?_cons_succ]; exact h1, by rw [h2, show i + (j + 1) = i + 1 + j by omega]⟩
theorem um_ls_has {ad : Nat → Nat} {lsr : Array Slot} {nL : Nat} {ls : List (Option Value)} (h : um_ls ad lsr nL ls) : lv_has lsr nL (um_lv ad 0 ls) := by
  refine ⟨h.1, h.2.1, fun q hq => ?_⟩
  obtain ⟨j, v, h1, rfl⟩ := um_lv_of ls 0 q hq
  have := (h.2.2.2 j v h1).1
  simpa using this
theorem um_ls_set {ad : Nat → Nat} {lsr ls' : Array Slot} {nL i : Nat} {ls : List (Option Value)} {v : Value} {lv : List (Nat × Value)} (h : um_ls ad lsr nL ls) (hv : v.category = 1) (hm : ∀ q ∈ um_lv ad 0 ls, q ∈ lv)
    (h' : lv_has ls' nL ((i, um_v ad v) :: lv.filter (fun q => !(q.1 == i) && !(q.1 + 1 == i && q.2.category == 2)))) : um_ls ad ls' nL (ls.set i (some v)) := by
  refine ⟨h'.1, h'.2.1, by rw [List.length_set]; exact h.2.2.1, fun j w hj => ?_⟩
  by_cases hji : i = j
  · subst hji
    have hlt : i < ls.length := by
      have := (List.getElem?_eq_some_iff.mp hj).1
      rwa [List.length_set] at this
    rw [List.getElem?_set_self hlt] at hj
    cases hj
    exact ⟨h'.2.2 _ List.mem_cons_self, hv⟩
  · rw [List.getElem?_set_ne hji] at hj
    obtain ⟨-, hc⟩ := h.2.2.2 j w hj
    refine ⟨h'.2.2 (j, um_v ad w) (List.mem_cons_of_mem _ (List.mem_filter.mpr ⟨hm _ ?_, ?_⟩)), hc⟩
    · have := um_lv_mem (ad := ad) ls 0 j w hj
      simpa using this
    · have h1 : (um_v ad w).category = 1 := um_v_cat.trans hc
      simp only [h1, Bool.and_eq_true, Bool.not_eq_true', beq_eq_false_iff_ne, ne_eq]
      refine ⟨fun z => hji z.symm, ?_⟩
      simp
theorem um_args_mem : ∀ (vs : List Value) (i j : Nat) (v : Value), (∀ w ∈ vs, w.category = 1) → vs[j]? = some v → (i + j, v) ∈ lv_args i vs
  | [], _, _, _, _, h => by simp at h
  | w :: r, i, 0, v, _, h => by
    simp only [List.getElem?_cons_zero, Option.some.injEq] at h
    subst h
    exact List.mem_cons_self
  | w :: r, i, j + 1, v, hc, h => by
    rw [List.getElem?_cons_succ] at h
    have h1 : w.category = 1 := hc w List.mem_cons_self
    have := um_args_mem r (i + 1) j v (fun w hw => hc w (List.mem_cons_of_mem _ hw)) h
    rw [show i + (j + 1) = i + 1 + j by omega]
    unfold lv_args
    rw [if_neg (by omega)]
    exact List.mem_cons_of_mem _ this
theorem um_sl_len : ∀ (vs : List Value), (∀ w ∈ vs, w.category = 1) → (lg_sl vs).length = vs.length
  | [], _ => rfl
  | w :: r, hc => by
    have h1 : w.category = 1 := hc w List.mem_cons_self
    have h2 := um_sl_len r (fun w hw => hc w (List.mem_cons_of_mem _ hw))
    unfold lg_sl at h2 ⊢
    rw [List.flatMap_cons, List.length_append, h2, if_neg (by omega)]
    simp
    omega
end
section
/-! um_Ev, um_Con and a row for each instruction -/
abbrev um_M : Type := MethodName × ByteArray × Nat × Option FieldType
abbrev um_X : Type := String × String × Nat × (Nat → Int32)
def um_wd (AW : List Cond) (M : um_M) : List Cond := Cond.code M.1 M.2.1 M.2.2.1 M.2.2.2 :: AW
/-- the nest mates' private methods that are called -/
def um_NW : List (String × Nat × MethodName × String) := [("UnwindMill$Tree", 52, ⟨"UnwindMill", "isVariable", "(I)Z"⟩, "UnwindMill"), ("UnwindMill$Tree", 40, ⟨"UnwindMill", "isFunction", "(I)Z"⟩, "UnwindMill")]
/-- the static int arrays that are read: reference 1000 + i; and the nest mates' links -/
def um_st (SX : List um_X) (ad : Nat → Nat) (A : Nat → Prop) (U : State) (H : Heap) : Prop :=
  (∀ (i : Nat) (C n : String) (N : Nat) (f : Nat → Int32), SX[i]? = some (C, n, N, f) → va_Z C n "[I" (.ref (ad (1000 + i))) A U H ∧ va_T .int (ad (1000 + i)) N (fun j => .int (f j)) A U H) ∧
  ∀ q ∈ um_NW, va_Nw (.methodLinkNest q.1 q.2.1 q.2.2.1 q.2.2.2) U
def um_ctx (cl : List vw_C) (AW : List Cond) (SX : List um_X) (M : um_M) (D : va_G) (ad : Nat → Nat) (cA : ClassId) (A : Nat → Prop) (p : Program) (s : State) (m : MethodId) (args : Array Value) (meth : Method) (c : Code) : Prop :=
  p.tables.exec = Jvm.exec ∧ c.code = M.2.1 ∧ c.maxLocals = M.2.2.1 ∧ meth.sig.returnType = M.2.2.2 ∧ meth.locks = false ∧ (∀ w ∈ um_wd AW M, w.before args s = true) ∧ s.vm.findClass M.1.cls = some m.cls ∧ va_K D cl [(cA, .int)] s ∧ (∀ q : Nat, s.heap.size ≤ q → A q) ∧ um_st SX ad A s s.heap
def um_B (cl : List vw_C) (D : va_G) (ad : Nat → Nat) (cA : ClassId) (L : List um_E) (A : Nat → Prop) (u : um_S) (t : State) : Prop := va_P D cl (um_ws ad cA L u) t.heap ∧ va_K D cl [(cA, .int)] t ∧ va_D A (um_ws ad cA L u)
def um_Q (Q : Option Int32 → um_S → Prop) (B : um_S → State → Prop) (A : Nat → Prop) : Array Value → State → Outcome → State → Prop := fun _ st oc t =>
  (∃ (r : Option Int32) (u : um_S), oc = .returned (r.map Value.int) ∧ Q r u ∧ B u t) ∧ va_F A st t
def um_Ev (cl : List vw_C) (AW : List Cond) (L : List um_E) (SX : List um_X) (M : um_M) (f lo pc : Nat) (ls : List (Option Value)) (st : List Value) (σ : um_S) (Q : Option Int32 → um_S → Prop) : Prop :=
  ∀ (p : Program) (l : Launch) (e : Env) (s : State) (m : MethodId) (args : Array Value) (below : List Frame) (meth : Method) (c : Code) (D : va_G) (ad : Nat → Nat) (cA : ClassId) (A : Nat → Prop) (H : Heap) (locs : List Loc) (lsr : Array Slot),
    um_ctx cl AW SX M D ad cA A p s m args meth c → va_P D cl (um_ws ad cA L σ) H → va_D A (um_ws ad cA L σ) → va_S A s.heap H locs → um_ls ad lsr M.2.2.1 ls →
    W p l e { frames := f, cells := 0, slots := 0, locals := lo } s m args below meth c H locs 0 0 (MQ below (um_Q Q (um_B cl D ad cA L A) A) args s 0 0 A) (F0 m pc lsr (st.map (um_v ad)))
def um_Con (cl : List vw_C) (AW : List Cond) (L : List um_E) (SX : List um_X) (f lo : Nat) (M : um_M) (As : List Value) (σ : um_S) (Q : Option Int32 → um_S → Prop) : Prop :=
  ∀ (l : Launch) (D : va_G) (ad : Nat → Nat) (cA : ClassId) (sz : Nat), Met l M.1 (um_wd AW M) { frames := f, cells := 0, slots := 0, locals := lo }
    (va_Pc (As.map (um_v ad)) (fun U => U.heap.size = sz ∧ va_P D cl (um_ws ad cA L σ) U.heap ∧ va_K D cl [(cA, .int)] U ∧ va_D (fun _ => True) (um_ws ad cA L σ) ∧ um_st SX ad (va_A (um_ws ad cA L σ) sz) U U.heap))
    (um_Q Q (um_B cl D ad cA L (va_A (um_ws ad cA L σ) sz)) (va_A (um_ws ad cA L σ) sz)) 0 0 (va_A (um_ws ad cA L σ) sz)
section UmRows
variable {cl : List vw_C} {AW : List Cond} {L : List um_E} {SX : List um_X} {M : um_M} {f lo pc : Nat} {ls : List (Option Value)} {st : List Value} {σ : um_S} {Q : Option Int32 → um_S → Prop}
/-- a contract out of a walk -/
theorem um_con {As : List Value} (hy : plainName M.1.cls = true) (hlen : As.length ≤ M.2.2.1) (hcat : ∀ v ∈ As, v.category = 1)
    (h : um_Ev cl AW L SX M f lo 0 (As.map some ++ List.replicate (M.2.2.1 - As.length) none) [] σ Q) : um_Con cl AW L SX f lo M As σ Q := by
  intro l D ad cA sz
  refine Met.ofW (cc := M.2.1) (maxL := M.2.2.1) (ret := M.2.2.2) hy rfl ?_
  intro p e s m args below meth c s₁ B hml hv
  obtain ⟨rfl, hsz, hP, hK, hD0, hX⟩ := hv
  subst hsz
  have hD := hD0.self (sz := s.heap.size)
  have hc' : ∀ w ∈ As.map (um_v ad), w.category = 1 := by
    intro w hw
    obtain ⟨v, hv, rfl⟩ := List.mem_map.mp hw
    exact um_v_cat.trans (hcat v hv)
  have hl := lv_entry (As.map (um_v ad)) (n := M.2.2.1) (by rw [um_sl_len _ hc', List.length_map]; exact hlen)
  rw [lg_entry_eq]
  refine h p l e s m _ below meth c D ad cA (va_A (um_ws ad cA L σ) s.heap.size) s.heap [] _
    ⟨B.exec, B.bytes, hml, B.returns, B.notSynchronized, atoms_spec (ws := um_wd AW M) B.pre, findClass_of_methodNamed B.named, hK, fun q hq => Or.inr hq, hX⟩ hP hD va_S.rf ⟨hl.1, hl.2.1, ?_, ?_⟩
  · rw [List.length_append, List.length_map, List.length_replicate]
    omega
  · intro i v hi
    by_cases hlt : i < As.length
    · rw [List.getElem?_append_left (by rw [List.length_map]; exact hlt), List.getElem?_map] at hi
      have hv : As[i]? = some v := by
        cases h0 : As[i]? with
        | none => rw [h0] at hi; cases hi
        | some w => rw [h0] at hi; simp only [Option.map_some, Option.some.injEq] at hi; rw [hi]
      refine ⟨?_, hcat v (List.mem_of_getElem? hv)⟩
      have h1 := um_args_mem (As.map (um_v ad)) 0 i (um_v ad v) hc' (by rw [List.getElem?_map, hv]; rfl)
      have h2 := hl.2.2 _ h1
      simpa using h2
    · rw [List.getElem?_append_right (by rw [List.length_map]; omega), List.getElem?_replicate] at hi
      split at hi <;> cases hi
/-- a walk that says less -/
theorem um_Ev_mono {Q' : Option Int32 → um_S → Prop} (hQ : ∀ r u, Q' r u → Q r u) (h : um_Ev cl AW L SX M f lo pc ls st σ Q') : um_Ev cl AW L SX M f lo pc ls st σ Q := by
  intro p l e s m args below meth c D ad cA A H locs lsr hc hP hD hS hl
  intro T hT X
  obtain ⟨t, h1, o, h2, h3, ⟨⟨r, u, h4, h5, h6⟩, h7⟩, h8⟩ := h p l e s m args below meth c D ad cA A H locs lsr hc hP hD hS hl T hT X
  exact ⟨t, h1, o, h2, h3, ⟨⟨r, u, h4, hQ r u h5, h6⟩, h7⟩, h8⟩

theorem um_iconst {pc2 : Nat} {n : Int} {v : Int32} (hd : decode M.2.1 pc = .ok (.iconst n, 1)) (hp : pc + 1 = pc2) (hv : Int32.ofInt n = v) (h : um_Ev cl AW L SX M f lo pc2 ls (.int v :: st) σ Q) : um_Ev cl AW L SX M f lo pc ls st σ Q := by
  subst hp
  intro p l e s m args below meth c D ad cA A H locs lsr hc hP hD hS hl
  exact lv_iconst hc.1 hc.2.1 hd hv (h p l e s m args below meth c D ad cA A H locs lsr hc hP hD hS hl)
theorem um_bipush {pc2 : Nat} {n : Int} {v : Int32} (hd : decode M.2.1 pc = .ok (.bipush n, 2)) (hp : pc + 2 = pc2) (hv : (Int8.ofInt n).toInt32 = v) (h : um_Ev cl AW L SX M f lo pc2 ls (.int v :: st) σ Q) : um_Ev cl AW L SX M f lo pc ls st σ Q := by
  subst hp
  intro p l e s m args below meth c D ad cA A H locs lsr hc hP hD hS hl
  exact lv_bipush hc.1 hc.2.1 hd hv (h p l e s m args below meth c D ad cA A H locs lsr hc hP hD hS hl)
theorem um_sipush {pc2 : Nat} {n : Int} {v : Int32} (hd : decode M.2.1 pc = .ok (.sipush n, 3)) (hp : pc + 3 = pc2) (hv : (Int16.ofInt n).toInt32 = v) (h : um_Ev cl AW L SX M f lo pc2 ls (.int v :: st) σ Q) : um_Ev cl AW L SX M f lo pc ls st σ Q := by
  subst hp
  intro p l e s m args below meth c D ad cA A H locs lsr hc hP hD hS hl
  exact lv_sipush hc.1 hc.2.1 hd hv (h p l e s m args below meth c D ad cA A H locs lsr hc hP hD hS hl)
theorem um_iadd {pc2 : Nat} {x y : Int32} (hd : decode M.2.1 pc = .ok (.iadd, 1)) (hp : pc + 1 = pc2) (h : um_Ev cl AW L SX M f lo pc2 ls (.int (x + y) :: st) σ Q) : um_Ev cl AW L SX M f lo pc ls (.int y :: .int x :: st) σ Q := by
  subst hp
  intro p l e s m args below meth c D ad cA A H locs lsr hc hP hD hS hl
  exact lv_iadd hc.1 hc.2.1 hd (h p l e s m args below meth c D ad cA A H locs lsr hc hP hD hS hl)
theorem um_isub {pc2 : Nat} {x y : Int32} (hd : decode M.2.1 pc = .ok (.isub, 1)) (hp : pc + 1 = pc2) (h : um_Ev cl AW L SX M f lo pc2 ls (.int (x - y) :: st) σ Q) : um_Ev cl AW L SX M f lo pc ls (.int y :: .int x :: st) σ Q := by
  subst hp
  intro p l e s m args below meth c D ad cA A H locs lsr hc hP hD hS hl
  exact lv_isub hc.1 hc.2.1 hd (h p l e s m args below meth c D ad cA A H locs lsr hc hP hD hS hl)
theorem um_imul {pc2 : Nat} {x y : Int32} (hd : decode M.2.1 pc = .ok (.imul, 1)) (hp : pc + 1 = pc2) (h : um_Ev cl AW L SX M f lo pc2 ls (.int (x * y) :: st) σ Q) : um_Ev cl AW L SX M f lo pc ls (.int y :: .int x :: st) σ Q := by
  subst hp
  intro p l e s m args below meth c D ad cA A H locs lsr hc hP hD hS hl
  exact lv_imul hc.1 hc.2.1 hd (h p l e s m args below meth c D ad cA A H locs lsr hc hP hD hS hl)
theorem um_iand {pc2 : Nat} {x y : Int32} (hd : decode M.2.1 pc = .ok (.iand, 1)) (hp : pc + 1 = pc2) (h : um_Ev cl AW L SX M f lo pc2 ls (.int (x &&& y) :: st) σ Q) : um_Ev cl AW L SX M f lo pc ls (.int y :: .int x :: st) σ Q := by
  subst hp
  intro p l e s m args below meth c D ad cA A H locs lsr hc hP hD hS hl
  exact lv_iand hc.1 hc.2.1 hd (h p l e s m args below meth c D ad cA A H locs lsr hc hP hD hS hl)
theorem um_ior {pc2 : Nat} {x y : Int32} (hd : decode M.2.1 pc = .ok (.ior, 1)) (hp : pc + 1 = pc2) (h : um_Ev cl AW L SX M f lo pc2 ls (.int (x ||| y) :: st) σ Q) : um_Ev cl AW L SX M f lo pc ls (.int y :: .int x :: st) σ Q := by
  subst hp
  intro p l e s m args below meth c D ad cA A H locs lsr hc hP hD hS hl
  exact lv_ior hc.1 hc.2.1 hd (h p l e s m args below meth c D ad cA A H locs lsr hc hP hD hS hl)
theorem um_ishl {pc2 : Nat} {x y : Int32} (hd : decode M.2.1 pc = .ok (.ishl, 1)) (hp : pc + 1 = pc2) (h : um_Ev cl AW L SX M f lo pc2 ls (.int (x <<< (y &&& 31)) :: st) σ Q) : um_Ev cl AW L SX M f lo pc ls (.int y :: .int x :: st) σ Q := by
  subst hp
  intro p l e s m args below meth c D ad cA A H locs lsr hc hP hD hS hl
  exact lv_ishl hc.1 hc.2.1 hd (h p l e s m args below meth c D ad cA A H locs lsr hc hP hD hS hl)
theorem um_ishr {pc2 : Nat} {x y : Int32} (hd : decode M.2.1 pc = .ok (.ishr, 1)) (hp : pc + 1 = pc2) (h : um_Ev cl AW L SX M f lo pc2 ls (.int (x >>> (y &&& 31)) :: st) σ Q) : um_Ev cl AW L SX M f lo pc ls (.int y :: .int x :: st) σ Q := by
  subst hp
  intro p l e s m args below meth c D ad cA A H locs lsr hc hP hD hS hl
  exact lv_ishr hc.1 hc.2.1 hd (h p l e s m args below meth c D ad cA A H locs lsr hc hP hD hS hl)
theorem um_idiv {pc2 : Nat} {x y : Int32} (hd : decode M.2.1 pc = .ok (.idiv, 1)) (hp : pc + 1 = pc2) (hy : ¬ y = 0) (h : um_Ev cl AW L SX M f lo pc2 ls (.int (x / y) :: st) σ Q) : um_Ev cl AW L SX M f lo pc ls (.int y :: .int x :: st) σ Q := by
  subst hp
  intro p l e s m args below meth c D ad cA A H locs lsr hc hP hD hS hl
  exact lv_idiv hc.1 hc.2.1 hd hy (h p l e s m args below meth c D ad cA A H locs lsr hc hP hD hS hl)
theorem um_irem {pc2 : Nat} {x y : Int32} (hd : decode M.2.1 pc = .ok (.irem, 1)) (hp : pc + 1 = pc2) (hy : ¬ y = 0) (h : um_Ev cl AW L SX M f lo pc2 ls (.int (x - x / y * y) :: st) σ Q) : um_Ev cl AW L SX M f lo pc ls (.int y :: .int x :: st) σ Q := by
  subst hp
  intro p l e s m args below meth c D ad cA A H locs lsr hc hP hD hS hl
  exact lv_irem hc.1 hc.2.1 hd hy (h p l e s m args below meth c D ad cA A H locs lsr hc hP hD hS hl)
theorem um_ineg {pc2 : Nat} {x : Int32} (hd : decode M.2.1 pc = .ok (.ineg, 1)) (hp : pc + 1 = pc2) (h : um_Ev cl AW L SX M f lo pc2 ls (.int (-x) :: st) σ Q) : um_Ev cl AW L SX M f lo pc ls (.int x :: st) σ Q := by
  subst hp
  intro p l e s m args below meth c D ad cA A H locs lsr hc hP hD hS hl
  exact lv_ineg hc.1 hc.2.1 hd (h p l e s m args below meth c D ad cA A H locs lsr hc hP hD hS hl)
theorem um_iload_n {pc2 : Nat} {k : Fin 4} {x : Int32} (hd : decode M.2.1 pc = .ok (.iload_n k, 1)) (hp : pc + 1 = pc2) (hv : ls[(k : Nat)]? = some (some (.int x))) (h : um_Ev cl AW L SX M f lo pc2 ls (.int x :: st) σ Q) : um_Ev cl AW L SX M f lo pc ls st σ Q := by
  subst hp
  intro p l e s m args below meth c D ad cA A H locs lsr hc hP hD hS hl
  exact lv_iload_n hc.1 hc.2.1 hd rfl (hl.2.2.2 _ _ hv).1 (h p l e s m args below meth c D ad cA A H locs lsr hc hP hD hS hl)
theorem um_iload {pc2 : Nat} {i : Nat} {x : Int32} (hd : decode M.2.1 pc = .ok (.iload i, 2)) (hp : pc + 2 = pc2) (hv : ls[i]? = some (some (.int x))) (h : um_Ev cl AW L SX M f lo pc2 ls (.int x :: st) σ Q) : um_Ev cl AW L SX M f lo pc ls st σ Q := by
  subst hp
  intro p l e s m args below meth c D ad cA A H locs lsr hc hP hD hS hl
  exact lv_iload hc.1 hc.2.1 hd (hl.2.2.2 _ _ hv).1 (h p l e s m args below meth c D ad cA A H locs lsr hc hP hD hS hl)
theorem um_aload_n {pc2 : Nat} {k : Fin 4} {x : Nat} (hd : decode M.2.1 pc = .ok (.aload_n k, 1)) (hp : pc + 1 = pc2) (hv : ls[(k : Nat)]? = some (some (.ref x))) (h : um_Ev cl AW L SX M f lo pc2 ls (.ref x :: st) σ Q) : um_Ev cl AW L SX M f lo pc ls st σ Q := by
  subst hp
  intro p l e s m args below meth c D ad cA A H locs lsr hc hP hD hS hl
  exact lv_aload_n hc.1 hc.2.1 hd rfl (hl.2.2.2 _ _ hv).1 (h p l e s m args below meth c D ad cA A H locs lsr hc hP hD hS hl)
theorem um_aload {pc2 : Nat} {i : Nat} {x : Nat} (hd : decode M.2.1 pc = .ok (.aload i, 2)) (hp : pc + 2 = pc2) (hv : ls[i]? = some (some (.ref x))) (h : um_Ev cl AW L SX M f lo pc2 ls (.ref x :: st) σ Q) : um_Ev cl AW L SX M f lo pc ls st σ Q := by
  subst hp
  intro p l e s m args below meth c D ad cA A H locs lsr hc hP hD hS hl
  exact lv_aload hc.1 hc.2.1 hd (hl.2.2.2 _ _ hv).1 (h p l e s m args below meth c D ad cA A H locs lsr hc hP hD hS hl)
theorem um_istore_n {pc2 : Nat} {ls2 : List (Option Value)} {k : Fin 4} {x : Int32} (hd : decode M.2.1 pc = .ok (.istore_n k, 1)) (hp : pc + 1 = pc2) (hn : (k : Nat) < M.2.2.1) (hs : ls.set k (some (.int x)) = ls2) (h : um_Ev cl AW L SX M f lo pc2 ls2 st σ Q) : um_Ev cl AW L SX M f lo pc ls (.int x :: st) σ Q := by
  subst hp
  subst hs
  intro p l e s m args below meth c D ad cA A H locs lsr hc hP hD hS hl
  exact lv_istore_n hc.1 hc.2.1 hd rfl (um_ls_has hl) hn rfl (fun ls' h' => h p l e s m args below meth c D ad cA A H locs ls' hc hP hD hS (um_ls_set hl rfl (fun _ z => z) h'))
theorem um_istore {pc2 : Nat} {ls2 : List (Option Value)} {i : Nat} {x : Int32} (hd : decode M.2.1 pc = .ok (.istore i, 2)) (hp : pc + 2 = pc2) (hn : i < M.2.2.1) (hs : ls.set i (some (.int x)) = ls2) (h : um_Ev cl AW L SX M f lo pc2 ls2 st σ Q) : um_Ev cl AW L SX M f lo pc ls (.int x :: st) σ Q := by
  subst hp
  subst hs
  intro p l e s m args below meth c D ad cA A H locs lsr hc hP hD hS hl
  exact lv_istore hc.1 hc.2.1 hd (um_ls_has hl) hn rfl (fun ls' h' => h p l e s m args below meth c D ad cA A H locs ls' hc hP hD hS (um_ls_set hl rfl (fun _ z => z) h'))
theorem um_iinc {pc2 : Nat} {ls2 : List (Option Value)} {i : Nat} {n : Int} {x v : Int32} (hd : decode M.2.1 pc = .ok (.iinc i n, 3)) (hp : pc + 3 = pc2) (hx : ls[i]? = some (some (.int x))) (hv : x + Int32.ofInt n = v) (hn : i < M.2.2.1) (hs : ls.set i (some (.int v)) = ls2) (h : um_Ev cl AW L SX M f lo pc2 ls2 st σ Q) : um_Ev cl AW L SX M f lo pc ls st σ Q := by
  subst hp
  subst hs
  intro p l e s m args below meth c D ad cA A H locs lsr hc hP hD hS hl
  have h2 := um_ls_has hl
  have h3 : lv_has lsr M.2.2.1 ((i, .int x) :: um_lv ad 0 ls) := ⟨h2.1, h2.2.1, fun q hq => by
    rcases List.mem_cons.mp hq with hq | hq
    · subst hq
      exact (hl.2.2.2 i _ hx).1
    · exact h2.2.2 q hq⟩
  exact lv_iinc (k := 0) hc.1 hc.2.1 hd h3 rfl hv hn rfl (fun ls' h' => h p l e s m args below meth c D ad cA A H locs ls' hc hP hD hS (um_ls_set hl rfl (fun _ z => List.mem_cons_of_mem _ z) h'))
theorem um_dup {pc2 : Nat} {v : Value} (hd : decode M.2.1 pc = .ok (.dup, 1)) (hp : pc + 1 = pc2) (hv : v.category = 1) (h : um_Ev cl AW L SX M f lo pc2 ls (v :: v :: st) σ Q) : um_Ev cl AW L SX M f lo pc ls (v :: st) σ Q := by
  subst hp
  intro p l e s m args below meth c D ad cA A H locs lsr hc hP hD hS hl
  exact lv_dup hc.1 hc.2.1 hd (um_v_cat.trans hv) (h p l e s m args below meth c D ad cA A H locs lsr hc hP hD hS hl)
theorem um_dup2 {pc2 : Nat} {v w : Value} (hd : decode M.2.1 pc = .ok (.dup2, 1)) (hp : pc + 1 = pc2) (hv : v.category = 1) (hw : w.category = 1) (h : um_Ev cl AW L SX M f lo pc2 ls (v :: w :: v :: w :: st) σ Q) : um_Ev cl AW L SX M f lo pc ls (v :: w :: st) σ Q := by
  subst hp
  intro p l e s m args below meth c D ad cA A H locs lsr hc hP hD hS hl
  exact lv_dup2_11 hc.1 hc.2.1 hd (um_v_cat.trans hv) (um_v_cat.trans hw) (h p l e s m args below meth c D ad cA A H locs lsr hc hP hD hS hl)
theorem um_pop {pc2 : Nat} {v : Value} (hd : decode M.2.1 pc = .ok (.pop, 1)) (hp : pc + 1 = pc2) (hv : v.category = 1) (h : um_Ev cl AW L SX M f lo pc2 ls st σ Q) : um_Ev cl AW L SX M f lo pc ls (v :: st) σ Q := by
  subst hp
  intro p l e s m args below meth c D ad cA A H locs lsr hc hP hD hS hl
  exact lv_pop hc.1 hc.2.1 hd (um_v_cat.trans hv) (h p l e s m args below meth c D ad cA A H locs lsr hc hP hD hS hl)
theorem um_if_eq {pc2 : Nat} {x : Int32} {off : Int} {tgt : Nat} (hd : decode M.2.1 pc = .ok (.ifCond .eq off, 3)) (hp : pc + 3 = pc2) (ht : (pc : Int) + off = (tgt : Int)) (kt : x = 0 → um_Ev cl AW L SX M f lo tgt ls st σ Q) (kf : ¬ x = 0 → um_Ev cl AW L SX M f lo pc2 ls st σ Q) : um_Ev cl AW L SX M f lo pc ls (.int x :: st) σ Q := by
  subst hp
  intro p l e s m args below meth c D ad cA A H locs lsr hc hP hD hS hl
  exact lv_if_eq hc.1 hc.2.1 hd ht (fun z => kt z p l e s m args below meth c D ad cA A H locs lsr hc hP hD hS hl) (fun z => kf z p l e s m args below meth c D ad cA A H locs lsr hc hP hD hS hl)
theorem um_if_ne {pc2 : Nat} {x : Int32} {off : Int} {tgt : Nat} (hd : decode M.2.1 pc = .ok (.ifCond .ne off, 3)) (hp : pc + 3 = pc2) (ht : (pc : Int) + off = (tgt : Int)) (kt : ¬ x = 0 → um_Ev cl AW L SX M f lo tgt ls st σ Q) (kf : x = 0 → um_Ev cl AW L SX M f lo pc2 ls st σ Q) : um_Ev cl AW L SX M f lo pc ls (.int x :: st) σ Q := by
  subst hp
  intro p l e s m args below meth c D ad cA A H locs lsr hc hP hD hS hl
  exact lv_if_ne hc.1 hc.2.1 hd ht (fun z => kt z p l e s m args below meth c D ad cA A H locs lsr hc hP hD hS hl) (fun z => kf z p l e s m args below meth c D ad cA A H locs lsr hc hP hD hS hl)
theorem um_if_lt {pc2 : Nat} {x : Int32} {off : Int} {tgt : Nat} (hd : decode M.2.1 pc = .ok (.ifCond .lt off, 3)) (hp : pc + 3 = pc2) (ht : (pc : Int) + off = (tgt : Int)) (kt : x < 0 → um_Ev cl AW L SX M f lo tgt ls st σ Q) (kf : ¬ x < 0 → um_Ev cl AW L SX M f lo pc2 ls st σ Q) : um_Ev cl AW L SX M f lo pc ls (.int x :: st) σ Q := by
  subst hp
  intro p l e s m args below meth c D ad cA A H locs lsr hc hP hD hS hl
  exact lv_if_lt hc.1 hc.2.1 hd ht (fun z => kt z p l e s m args below meth c D ad cA A H locs lsr hc hP hD hS hl) (fun z => kf z p l e s m args below meth c D ad cA A H locs lsr hc hP hD hS hl)
theorem um_if_ge {pc2 : Nat} {x : Int32} {off : Int} {tgt : Nat} (hd : decode M.2.1 pc = .ok (.ifCond .ge off, 3)) (hp : pc + 3 = pc2) (ht : (pc : Int) + off = (tgt : Int)) (kt : 0 ≤ x → um_Ev cl AW L SX M f lo tgt ls st σ Q) (kf : ¬ 0 ≤ x → um_Ev cl AW L SX M f lo pc2 ls st σ Q) : um_Ev cl AW L SX M f lo pc ls (.int x :: st) σ Q := by
  subst hp
  intro p l e s m args below meth c D ad cA A H locs lsr hc hP hD hS hl
  exact lv_if_ge hc.1 hc.2.1 hd ht (fun z => kt z p l e s m args below meth c D ad cA A H locs lsr hc hP hD hS hl) (fun z => kf z p l e s m args below meth c D ad cA A H locs lsr hc hP hD hS hl)
theorem um_if_gt {pc2 : Nat} {x : Int32} {off : Int} {tgt : Nat} (hd : decode M.2.1 pc = .ok (.ifCond .gt off, 3)) (hp : pc + 3 = pc2) (ht : (pc : Int) + off = (tgt : Int)) (kt : 0 < x → um_Ev cl AW L SX M f lo tgt ls st σ Q) (kf : ¬ 0 < x → um_Ev cl AW L SX M f lo pc2 ls st σ Q) : um_Ev cl AW L SX M f lo pc ls (.int x :: st) σ Q := by
  subst hp
  intro p l e s m args below meth c D ad cA A H locs lsr hc hP hD hS hl
  exact lv_if_gt hc.1 hc.2.1 hd ht (fun z => kt z p l e s m args below meth c D ad cA A H locs lsr hc hP hD hS hl) (fun z => kf z p l e s m args below meth c D ad cA A H locs lsr hc hP hD hS hl)
theorem um_if_le {pc2 : Nat} {x : Int32} {off : Int} {tgt : Nat} (hd : decode M.2.1 pc = .ok (.ifCond .le off, 3)) (hp : pc + 3 = pc2) (ht : (pc : Int) + off = (tgt : Int)) (kt : x ≤ 0 → um_Ev cl AW L SX M f lo tgt ls st σ Q) (kf : ¬ x ≤ 0 → um_Ev cl AW L SX M f lo pc2 ls st σ Q) : um_Ev cl AW L SX M f lo pc ls (.int x :: st) σ Q := by
  subst hp
  intro p l e s m args below meth c D ad cA A H locs lsr hc hP hD hS hl
  exact lv_if_le hc.1 hc.2.1 hd ht (fun z => kt z p l e s m args below meth c D ad cA A H locs lsr hc hP hD hS hl) (fun z => kf z p l e s m args below meth c D ad cA A H locs lsr hc hP hD hS hl)
theorem um_icmp_eq {pc2 : Nat} {x y : Int32} {off : Int} {tgt : Nat} (hd : decode M.2.1 pc = .ok (.if_icmp .eq off, 3)) (hp : pc + 3 = pc2) (ht : (pc : Int) + off = (tgt : Int)) (kt : x = y → um_Ev cl AW L SX M f lo tgt ls st σ Q) (kf : ¬ x = y → um_Ev cl AW L SX M f lo pc2 ls st σ Q) : um_Ev cl AW L SX M f lo pc ls (.int y :: .int x :: st) σ Q := by
  subst hp
  intro p l e s m args below meth c D ad cA A H locs lsr hc hP hD hS hl
  exact lv_icmp_eq hc.1 hc.2.1 hd ht (fun z => kt z p l e s m args below meth c D ad cA A H locs lsr hc hP hD hS hl) (fun z => kf z p l e s m args below meth c D ad cA A H locs lsr hc hP hD hS hl)
theorem um_icmp_ne {pc2 : Nat} {x y : Int32} {off : Int} {tgt : Nat} (hd : decode M.2.1 pc = .ok (.if_icmp .ne off, 3)) (hp : pc + 3 = pc2) (ht : (pc : Int) + off = (tgt : Int)) (kt : ¬ x = y → um_Ev cl AW L SX M f lo tgt ls st σ Q) (kf : x = y → um_Ev cl AW L SX M f lo pc2 ls st σ Q) : um_Ev cl AW L SX M f lo pc ls (.int y :: .int x :: st) σ Q := by
  subst hp
  intro p l e s m args below meth c D ad cA A H locs lsr hc hP hD hS hl
  exact lv_icmp_ne hc.1 hc.2.1 hd ht (fun z => kt z p l e s m args below meth c D ad cA A H locs lsr hc hP hD hS hl) (fun z => kf z p l e s m args below meth c D ad cA A H locs lsr hc hP hD hS hl)
theorem um_icmp_lt {pc2 : Nat} {x y : Int32} {off : Int} {tgt : Nat} (hd : decode M.2.1 pc = .ok (.if_icmp .lt off, 3)) (hp : pc + 3 = pc2) (ht : (pc : Int) + off = (tgt : Int)) (kt : x < y → um_Ev cl AW L SX M f lo tgt ls st σ Q) (kf : ¬ x < y → um_Ev cl AW L SX M f lo pc2 ls st σ Q) : um_Ev cl AW L SX M f lo pc ls (.int y :: .int x :: st) σ Q := by
  subst hp
  intro p l e s m args below meth c D ad cA A H locs lsr hc hP hD hS hl
  exact lv_icmp_lt hc.1 hc.2.1 hd ht (fun z => kt z p l e s m args below meth c D ad cA A H locs lsr hc hP hD hS hl) (fun z => kf z p l e s m args below meth c D ad cA A H locs lsr hc hP hD hS hl)
theorem um_icmp_ge {pc2 : Nat} {x y : Int32} {off : Int} {tgt : Nat} (hd : decode M.2.1 pc = .ok (.if_icmp .ge off, 3)) (hp : pc + 3 = pc2) (ht : (pc : Int) + off = (tgt : Int)) (kt : y ≤ x → um_Ev cl AW L SX M f lo tgt ls st σ Q) (kf : ¬ y ≤ x → um_Ev cl AW L SX M f lo pc2 ls st σ Q) : um_Ev cl AW L SX M f lo pc ls (.int y :: .int x :: st) σ Q := by
  subst hp
  intro p l e s m args below meth c D ad cA A H locs lsr hc hP hD hS hl
  exact lv_icmp_ge hc.1 hc.2.1 hd ht (fun z => kt z p l e s m args below meth c D ad cA A H locs lsr hc hP hD hS hl) (fun z => kf z p l e s m args below meth c D ad cA A H locs lsr hc hP hD hS hl)
theorem um_icmp_gt {pc2 : Nat} {x y : Int32} {off : Int} {tgt : Nat} (hd : decode M.2.1 pc = .ok (.if_icmp .gt off, 3)) (hp : pc + 3 = pc2) (ht : (pc : Int) + off = (tgt : Int)) (kt : y < x → um_Ev cl AW L SX M f lo tgt ls st σ Q) (kf : ¬ y < x → um_Ev cl AW L SX M f lo pc2 ls st σ Q) : um_Ev cl AW L SX M f lo pc ls (.int y :: .int x :: st) σ Q := by
  subst hp
  intro p l e s m args below meth c D ad cA A H locs lsr hc hP hD hS hl
  exact lv_icmp_gt hc.1 hc.2.1 hd ht (fun z => kt z p l e s m args below meth c D ad cA A H locs lsr hc hP hD hS hl) (fun z => kf z p l e s m args below meth c D ad cA A H locs lsr hc hP hD hS hl)
theorem um_icmp_le {pc2 : Nat} {x y : Int32} {off : Int} {tgt : Nat} (hd : decode M.2.1 pc = .ok (.if_icmp .le off, 3)) (hp : pc + 3 = pc2) (ht : (pc : Int) + off = (tgt : Int)) (kt : x ≤ y → um_Ev cl AW L SX M f lo tgt ls st σ Q) (kf : ¬ x ≤ y → um_Ev cl AW L SX M f lo pc2 ls st σ Q) : um_Ev cl AW L SX M f lo pc ls (.int y :: .int x :: st) σ Q := by
  subst hp
  intro p l e s m args below meth c D ad cA A H locs lsr hc hP hD hS hl
  exact lv_icmp_le hc.1 hc.2.1 hd ht (fun z => kt z p l e s m args below meth c D ad cA A H locs lsr hc hP hD hS hl) (fun z => kf z p l e s m args below meth c D ad cA A H locs lsr hc hP hD hS hl)
theorem um_goto {off : Int} {tgt : Nat} (hd : decode M.2.1 pc = .ok (.goto off, 3)) (ht : (pc : Int) + off = (tgt : Int)) (h : um_Ev cl AW L SX M f lo tgt ls st σ Q) : um_Ev cl AW L SX M f lo pc ls st σ Q := by
  intro p l e s m args below meth c D ad cA A H locs lsr hc hP hD hS hl
  exact lv_goto hc.1 hc.2.1 hd ht (h p l e s m args below meth c D ad cA A H locs lsr hc hP hD hS hl)
theorem um_tableOut {dflt lw hi : Int} {offs : Array Int} {len : Nat} {x : Int32} {tgt : Nat} (hd : decode M.2.1 pc = .ok (.tableswitch dflt lw hi offs, len)) (hx : x.toInt < lw ∨ hi < x.toInt) (ht : (pc : Int) + dflt = (tgt : Int)) (h : um_Ev cl AW L SX M f lo tgt ls st σ Q) : um_Ev cl AW L SX M f lo pc ls (.int x :: st) σ Q := by
  intro p l e s m args below meth c D ad cA A H locs lsr hc hP hD hS hl
  exact lv_tableOut hc.1 hc.2.1 hd hx ht (h p l e s m args below meth c D ad cA A H locs lsr hc hP hD hS hl)
theorem um_tableIn {dflt lw hi : Int} {offs : Array Int} {len : Nat} {x : Int32} {off : Int} {tgt : Nat} (hd : decode M.2.1 pc = .ok (.tableswitch dflt lw hi offs, len)) (h1 : ¬ x.toInt < lw) (h2 : ¬ hi < x.toInt) (ho : offs[(x.toInt - lw).toNat]? = some off) (ht : (pc : Int) + off = (tgt : Int)) (h : um_Ev cl AW L SX M f lo tgt ls st σ Q) : um_Ev cl AW L SX M f lo pc ls (.int x :: st) σ Q := by
  intro p l e s m args below meth c D ad cA A H locs lsr hc hP hD hS hl
  exact lv_tableIn hc.1 hc.2.1 hd h1 h2 ho ht (h p l e s m args below meth c D ad cA A H locs lsr hc hP hD hS hl)
theorem um_lookup {dflt : Int} {ps : Array (Int × Int)} {len : Nat} {x : Int32} {off : Int} {tgt : Nat} (hd : decode M.2.1 pc = .ok (.lookupswitch dflt ps, len)) (hp : (ps.toList.zip (ps.toList.drop 1)).all (fun (a, next) => a.1 < next.1) = true) (ho : Op.lookupswitch.offset ps.toList dflt x.toInt = off) (ht : (pc : Int) + off = (tgt : Int)) (h : um_Ev cl AW L SX M f lo tgt ls st σ Q) : um_Ev cl AW L SX M f lo pc ls (.int x :: st) σ Q := by
  intro p l e s m args below meth c D ad cA A H locs lsr hc hP hD hS hl
  exact lv_lookup hc.1 hc.2.1 hd hp ho ht (h p l e s m args below meth c D ad cA A H locs lsr hc hP hD hS hl)
theorem um_ldc {pc2 : Nat} {idx : Nat} {v : Int32} (hd : decode M.2.1 pc = .ok (.ldc idx, 2)) (hp : pc + 2 = pc2) (hw : Cond.constant M.1.cls idx v ∈ AW) (h : um_Ev cl AW L SX M f lo pc2 ls (.int v :: st) σ Q) : um_Ev cl AW L SX M f lo pc ls st σ Q := by
  subst hp
  intro p l e s m args below meth c D ad cA A H locs lsr hc hP hD hS hl
  exact lv_ldc hc.1 hc.2.1 hc.2.2.2.2.2.2.1 (hc.2.2.2.2.2.1 _ (List.mem_cons_of_mem _ hw)) hd (h p l e s m args below meth c D ad cA A H locs lsr hc hP hD hS hl)
theorem um_ldcw {pc2 : Nat} {idx : Nat} {v : Int32} (hd : decode M.2.1 pc = .ok (.ldc_w idx, 3)) (hp : pc + 3 = pc2) (hw : Cond.constant M.1.cls idx v ∈ AW) (h : um_Ev cl AW L SX M f lo pc2 ls (.int v :: st) σ Q) : um_Ev cl AW L SX M f lo pc ls st σ Q := by
  subst hp
  intro p l e s m args below meth c D ad cA A H locs lsr hc hP hD hS hl
  exact lv_ldcw hc.1 hc.2.1 hc.2.2.2.2.2.2.1 (hc.2.2.2.2.2.1 _ (List.mem_cons_of_mem _ hw)) hd (h p l e s m args below meth c D ad cA A H locs lsr hc hP hD hS hl)
end UmRows
/-- a class of the world: its place, its fields' table -/
def um_Cl (cl : List vw_C) (AW : List Cond) (ci : Nat) (C : String) (T : u_T) (N : Nat) : Prop :=
  cl[ci]? = some (C, T, N) ∧ (∀ w ∈ u_ws C T N, w ∈ AW) ∧ (∃ ty0 : Nat → FieldType, ∀ k, k < N → parseFieldDescriptor (T k).2.2.1 = some (ty0 k)) ∧ (∀ a, a < N → ∀ b, b < N → a ≠ b → (T a).2.1 ≠ (T b).2.1)
def um_Lk (AW : List Cond) (own : String) (idx : Nat) (C n d : String) : Prop := Cond.fieldLink own idx C n d ∈ AW ∨ ∃ host : String, Cond.fieldLinkNest own idx C n d host ∈ AW
/-- a place of the pool that names field k of class ci -/
def um_Fd (cl : List vw_C) (AW : List Cond) (own : String) (idx ci k : Nat) : Prop := ∃ (C : String) (T : u_T) (N : Nat), um_Cl cl AW ci C T N ∧ k < N ∧ um_Lk AW own idx (T k).1 (T k).2.1 (T k).2.2.1
def um_Fw (cl : List vw_C) (AW : List Cond) (own : String) (idx ci k : Nat) (ty : FieldType) : Prop := ∃ (C : String) (T : u_T) (N : Nat), um_Cl cl AW ci C T N ∧ k < N ∧ um_Lk AW own idx (T k).1 (T k).2.1 (T k).2.2.1 ∧ (T k).2.2.2 = false ∧ parseFieldDescriptor (T k).2.2.1 = some ty
section UmCells
variable {cl : List vw_C} {AW : List Cond} {L : List um_E} {SX : List um_X} {M : um_M} {f lo pc : Nat} {ls : List (Option Value)} {st : List Value} {σ : um_S} {Q : Option Int32 → um_S → Prop}
theorem um_getI {pc2 : Nat} {q k ci idx : Nat} {fs : List (Option Nat)} (hd : decode M.2.1 pc = .ok (.getfield idx, 3)) (hp : pc + 3 = pc2) (hF : um_Fd cl AW M.1.cls idx ci k) (hL : L[q]? = some (.inl (ci, fs))) (hk : fs[k]? = some none) (h : um_Ev cl AW L SX M f lo pc2 ls (.int (σ q k) :: st) σ Q) : um_Ev cl AW L SX M f lo pc ls (.ref q :: st) σ Q := by
  subst hp
  intro p l e s m args below meth c D ad cA A H locs lsr hc hP hD hS hl
  obtain ⟨C, T, N, ⟨hcl, hin, -, -⟩, hk2, hlk⟩ := hF
  have hts := hc.2.2.2.2.2.1
  have hin' : ∀ w ∈ u_ws C T N, w ∈ um_wd AW M := fun w hw => List.mem_cons_of_mem _ (hin w hw)
  have he : (um_ws ad cA L σ)[q]? = some (ad q, .inr (ci, fs.mapIdx (um_fv ad σ q))) := by rw [um_ws_at, hL]; rfl
  have hv : (fs.mapIdx (um_fv ad σ q))[k]? = some (.int (σ q k)) := by rw [List.getElem?_mapIdx, hk]; rfl
  rcases hlk with hlk | ⟨host, hlk⟩
  · exact va_get hc.1 hc.2.1 hts hin' hc.2.2.2.2.2.2.1 hc.2.2.2.2.2.2.2.1 hP q he hcl k hk2 (hts _ (List.mem_cons_of_mem _ hlk)) (fun _ z => z) hv hd (h p l e s m args below meth c D ad cA A H locs lsr hc hP hD hS hl)
  · exact va_getN hc.1 hc.2.1 hts hin' hc.2.2.2.2.2.2.1 hc.2.2.2.2.2.2.2.1 hP q he hcl k hk2 (hts _ (List.mem_cons_of_mem _ hlk)) (fun _ z => z) hv hd (h p l e s m args below meth c D ad cA A H locs lsr hc hP hD hS hl)
theorem um_getR {pc2 : Nat} {q k ci idx j : Nat} {fs : List (Option Nat)} (hd : decode M.2.1 pc = .ok (.getfield idx, 3)) (hp : pc + 3 = pc2) (hF : um_Fd cl AW M.1.cls idx ci k) (hL : L[q]? = some (.inl (ci, fs))) (hk : fs[k]? = some (some j)) (h : um_Ev cl AW L SX M f lo pc2 ls (.ref j :: st) σ Q) : um_Ev cl AW L SX M f lo pc ls (.ref q :: st) σ Q := by
  subst hp
  intro p l e s m args below meth c D ad cA A H locs lsr hc hP hD hS hl
  obtain ⟨C, T, N, ⟨hcl, hin, -, -⟩, hk2, hlk⟩ := hF
  have hts := hc.2.2.2.2.2.1
  have hin' : ∀ w ∈ u_ws C T N, w ∈ um_wd AW M := fun w hw => List.mem_cons_of_mem _ (hin w hw)
  have he : (um_ws ad cA L σ)[q]? = some (ad q, .inr (ci, fs.mapIdx (um_fv ad σ q))) := by rw [um_ws_at, hL]; rfl
  have hv : (fs.mapIdx (um_fv ad σ q))[k]? = some (.ref (ad j)) := by rw [List.getElem?_mapIdx, hk]; rfl
  rcases hlk with hlk | ⟨host, hlk⟩
  · exact va_get hc.1 hc.2.1 hts hin' hc.2.2.2.2.2.2.1 hc.2.2.2.2.2.2.2.1 hP q he hcl k hk2 (hts _ (List.mem_cons_of_mem _ hlk)) (fun _ z => z) hv hd (h p l e s m args below meth c D ad cA A H locs lsr hc hP hD hS hl)
  · exact va_getN hc.1 hc.2.1 hts hin' hc.2.2.2.2.2.2.1 hc.2.2.2.2.2.2.2.1 hP q he hcl k hk2 (hts _ (List.mem_cons_of_mem _ hlk)) (fun _ z => z) hv hd (h p l e s m args below meth c D ad cA A H locs lsr hc hP hD hS hl)
theorem um_putI {pc2 : Nat} {q k ci idx : Nat} {fs : List (Option Nat)} {v : Int32} (hd : decode M.2.1 pc = .ok (.putfield idx, 3)) (hp : pc + 3 = pc2) (hF : um_Fw cl AW M.1.cls idx ci k .int) (hL : L[q]? = some (.inl (ci, fs))) (hk : fs[k]? = some none) (h : um_Ev cl AW L SX M f lo pc2 ls st (um_up σ q k v) Q) : um_Ev cl AW L SX M f lo pc ls (.int v :: .ref q :: st) σ Q := by
  subst hp
  intro p l e s m args below meth c D ad cA A H locs lsr hc hP hD hS hl
  obtain ⟨C, T, N, ⟨hcl, hin, ⟨ty0, hty⟩, hnm⟩, hk2, hlk, hfin, hpd⟩ := hF
  have hts := hc.2.2.2.2.2.1
  have hin' : ∀ w ∈ u_ws C T N, w ∈ um_wd AW M := fun w hw => List.mem_cons_of_mem _ (hin w hw)
  have he : (um_ws ad cA L σ)[q]? = some (ad q, .inr (ci, fs.mapIdx (um_fv ad σ q))) := by rw [um_ws_at, hL]; rfl
  have hlen : k < (fs.mapIdx (um_fv ad σ q)).length := by rw [List.length_mapIdx]; exact (List.getElem?_eq_some_iff.mp hk).1
  have hset := um_ws_setF (ad := ad) (cA := cA) (σ := σ) (v := v) hL hk
  have kk : ∀ (H1 : Heap) (locs1 : List Loc), va_P D cl ((um_ws ad cA L σ).set q (ad q, .inr (ci, (fs.mapIdx (um_fv ad σ q)).set k (.int v)))) H1 → va_D A ((um_ws ad cA L σ).set q (ad q, .inr (ci, (fs.mapIdx (um_fv ad σ q)).set k (.int v)))) → va_S A s.heap H1 locs1 → _ := fun H1 locs1 hP1 hD1 hS1 => h p l e s m args below meth c D ad cA A H1 locs1 lsr hc (hset ▸ hP1) (hset ▸ hD1) hS1 hl
  rcases hlk with hlk | ⟨host, hlk⟩
  · exact va_put hc.1 hc.2.1 hts hin' ty0 hty hnm hc.2.2.2.2.2.2.1 hc.2.2.2.2.2.2.2.1 hP hD hS q he hcl k hk2 (hts _ (List.mem_cons_of_mem _ hlk)) (fun _ z => z) hfin hpd rfl rfl hlen hd kk
  · exact va_putN hc.1 hc.2.1 hts hin' ty0 hty hnm hc.2.2.2.2.2.2.1 hc.2.2.2.2.2.2.2.1 hP hD hS q he hcl k hk2 (hts _ (List.mem_cons_of_mem _ hlk)) (fun _ z => z) hfin hpd rfl rfl hlen hd kk
theorem um_putZ {pc2 : Nat} {q k ci idx : Nat} {fs : List (Option Nat)} {v : Int32} (hd : decode M.2.1 pc = .ok (.putfield idx, 3)) (hp : pc + 3 = pc2) (hF : um_Fw cl AW M.1.cls idx ci k .boolean) (hL : L[q]? = some (.inl (ci, fs))) (hk : fs[k]? = some none) (hz : v = 0 ∨ v = 1) (h : um_Ev cl AW L SX M f lo pc2 ls st (um_up σ q k v) Q) : um_Ev cl AW L SX M f lo pc ls (.int v :: .ref q :: st) σ Q := by
  subst hp
  intro p l e s m args below meth c D ad cA A H locs lsr hc hP hD hS hl
  have hn1 : narrow .boolean (.int v) = .int v := by rcases hz with rfl | rfl <;> rfl
  have hn2 : fits .boolean (.int v) = true := by rcases hz with rfl | rfl <;> rfl
  obtain ⟨C, T, N, ⟨hcl, hin, ⟨ty0, hty⟩, hnm⟩, hk2, hlk, hfin, hpd⟩ := hF
  have hts := hc.2.2.2.2.2.1
  have hin' : ∀ w ∈ u_ws C T N, w ∈ um_wd AW M := fun w hw => List.mem_cons_of_mem _ (hin w hw)
  have he : (um_ws ad cA L σ)[q]? = some (ad q, .inr (ci, fs.mapIdx (um_fv ad σ q))) := by rw [um_ws_at, hL]; rfl
  have hlen : k < (fs.mapIdx (um_fv ad σ q)).length := by rw [List.length_mapIdx]; exact (List.getElem?_eq_some_iff.mp hk).1
  have hset := um_ws_setF (ad := ad) (cA := cA) (σ := σ) (v := v) hL hk
  have kk : ∀ (H1 : Heap) (locs1 : List Loc), va_P D cl ((um_ws ad cA L σ).set q (ad q, .inr (ci, (fs.mapIdx (um_fv ad σ q)).set k (.int v)))) H1 → va_D A ((um_ws ad cA L σ).set q (ad q, .inr (ci, (fs.mapIdx (um_fv ad σ q)).set k (.int v)))) → va_S A s.heap H1 locs1 → _ := fun H1 locs1 hP1 hD1 hS1 => h p l e s m args below meth c D ad cA A H1 locs1 lsr hc (hset ▸ hP1) (hset ▸ hD1) hS1 hl
  rcases hlk with hlk | ⟨host, hlk⟩
  · exact va_put hc.1 hc.2.1 hts hin' ty0 hty hnm hc.2.2.2.2.2.2.1 hc.2.2.2.2.2.2.2.1 hP hD hS q he hcl k hk2 (hts _ (List.mem_cons_of_mem _ hlk)) (fun _ z => z) hfin hpd hn1 hn2 hlen hd kk
  · exact va_putN hc.1 hc.2.1 hts hin' ty0 hty hnm hc.2.2.2.2.2.2.1 hc.2.2.2.2.2.2.2.1 hP hD hS q he hcl k hk2 (hts _ (List.mem_cons_of_mem _ hlk)) (fun _ z => z) hfin hpd hn1 hn2 hlen hd kk
theorem um_iald {pc2 : Nat} {q n k : Nat} {j : Int32} (hd : decode M.2.1 pc = .ok (.iaload, 1)) (hp : pc + 1 = pc2) (hL : L[q]? = some (.inr n)) (hin : vp_in j n) (hk : j.toNatClampNeg = k) (h : um_Ev cl AW L SX M f lo pc2 ls (.int (σ q k) :: st) σ Q) : um_Ev cl AW L SX M f lo pc ls (.int j :: .ref q :: st) σ Q := by
  subst hp
  subst hk
  intro p l e s m args below meth c D ad cA A H locs lsr hc hP hD hS hl
  have he : (um_ws ad cA L σ)[q]? = some (ad q, .inl (cA, n, .inl (σ q))) := by rw [um_ws_at, hL]; rfl
  exact va_iald hc.1 hc.2.1 hc.2.2.2.2.2.2.2.1 hP q 0 he rfl hin hd (h p l e s m args below meth c D ad cA A H locs lsr hc hP hD hS hl)
theorem um_iast {pc2 : Nat} {q n k : Nat} {j x : Int32} (hd : decode M.2.1 pc = .ok (.iastore, 1)) (hp : pc + 1 = pc2) (hL : L[q]? = some (.inr n)) (hin : vp_in j n) (hk : j.toNatClampNeg = k) (h : um_Ev cl AW L SX M f lo pc2 ls st (um_up σ q k x) Q) : um_Ev cl AW L SX M f lo pc ls (.int x :: .int j :: .ref q :: st) σ Q := by
  subst hp
  subst hk
  intro p l e s m args below meth c D ad cA A H locs lsr hc hP hD hS hl
  have he : (um_ws ad cA L σ)[q]? = some (ad q, .inl (cA, n, .inl (σ q))) := by rw [um_ws_at, hL]; rfl
  have hset := um_ws_setA (ad := ad) (cA := cA) (σ := σ) (k := j.toNatClampNeg) (v := x) hL
  exact va_iast hc.1 hc.2.1 hc.2.2.2.2.2.2.2.1 hP hD hS q 0 he rfl hin hd (fun H1 locs1 hP1 hD1 hS1 => h p l e s m args below meth c D ad cA A H1 locs1 lsr hc (hset ▸ hP1) (hset ▸ hD1) hS1 hl)
theorem um_alen {pc2 : Nat} {q n : Nat} (hd : decode M.2.1 pc = .ok (.arraylength, 1)) (hp : pc + 1 = pc2) (hL : L[q]? = some (.inr n)) (h : um_Ev cl AW L SX M f lo pc2 ls (.int (Int32.ofNat n) :: st) σ Q) : um_Ev cl AW L SX M f lo pc ls (.ref q :: st) σ Q := by
  subst hp
  intro p l e s m args below meth c D ad cA A H locs lsr hc hP hD hS hl
  have he : (um_ws ad cA L σ)[q]? = some (ad q, .inl (cA, n, .inl (σ q))) := by rw [um_ws_at, hL]; rfl
  exact va_alen hc.1 hc.2.1 hc.2.2.2.2.2.2.2.1 hP q 0 he rfl rfl hd (h p l e s m args below meth c D ad cA A H locs lsr hc hP hD hS hl)
theorem um_gets {pc2 : Nat} {i idx N : Nat} {C n : String} {fn : Nat → Int32} (hd : decode M.2.1 pc = .ok (.getstatic idx, 3)) (hp : pc + 3 = pc2) (hX : SX[i]? = some (C, n, N, fn)) (hw : Cond.fieldLink M.1.cls idx C n "[I" ∈ AW) (h : um_Ev cl AW L SX M f lo pc2 ls (.ref (1000 + i) :: st) σ Q) : um_Ev cl AW L SX M f lo pc ls st σ Q := by
  subst hp
  intro p l e s m args below meth c D ad cA A H locs lsr hc hP hD hS hl
  exact va_gets hc.1 hc.2.1 (hc.2.2.2.2.2.2.2.2.2.1 i C n N fn hX).1 hS hc.2.2.2.2.2.2.1 (hc.2.2.2.2.2.1 _ (List.mem_cons_of_mem _ hw)) (fun _ z => z) hd (h p l e s m args below meth c D ad cA A H locs lsr hc hP hD hS hl)
theorem um_sald {pc2 : Nat} {i N : Nat} {C n : String} {fn : Nat → Int32} {j : Int32} (hd : decode M.2.1 pc = .ok (.iaload, 1)) (hp : pc + 1 = pc2) (hX : SX[i]? = some (C, n, N, fn)) (hin : vp_in j N) (h : um_Ev cl AW L SX M f lo pc2 ls (.int (fn j.toNatClampNeg) :: st) σ Q) : um_Ev cl AW L SX M f lo pc ls (.int j :: .ref (1000 + i) :: st) σ Q := by
  subst hp
  intro p l e s m args below meth c D ad cA A H locs lsr hc hP hD hS hl
  exact va_ti hc.1 hc.2.1 (hc.2.2.2.2.2.2.2.2.2.1 i C n N fn hX).2 hS hin rfl hd (h p l e s m args below meth c D ad cA A H locs lsr hc hP hD hS hl)
theorem um_iret {v : Int32} (hd : decode M.2.1 pc = .ok (.ireturn, 1)) (hr : M.2.2.2 = some .int) (h : Q (some v) σ) : um_Ev cl AW L SX M f lo pc ls [.int v] σ Q := by
  intro p l e s m args below meth c D ad cA A H locs lsr hc hP hD hS hl
  exact W.iret (v := v) hc.1 hc.2.1 (hc.2.2.2.1.trans hr) (fun t ht hW => ⟨⟨some v, σ, rfl, h, by rw [ht]; exact hP, va_K.moved hW.alike hc.2.2.2.2.2.2.2.1, hD⟩, hS.F ht⟩) hS.2.2 hd hc.2.2.2.2.1
theorem um_zret {v : Int32} (hd : decode M.2.1 pc = .ok (.ireturn, 1)) (hr : M.2.2.2 = some .boolean) (hz : v = 0 ∨ v = 1) (h : Q (some v) σ) : um_Ev cl AW L SX M f lo pc ls [.int v] σ Q := by
  intro p l e s m args below meth c D ad cA A H locs lsr hc hP hD hS hl
  have hn1 : narrow .boolean (.int v) = .int v := by rcases hz with rfl | rfl <;> rfl
  exact W.zret (v := v) hc.1 hc.2.1 (hc.2.2.2.1.trans hr) hn1 (fun t ht hW => ⟨⟨some v, σ, rfl, h, by rw [ht]; exact hP, va_K.moved hW.alike hc.2.2.2.2.2.2.2.1, hD⟩, hS.F ht⟩) hS.2.2 hd hc.2.2.2.2.1
theorem um_vret (hd : decode M.2.1 pc = .ok (.return_, 1)) (hr : M.2.2.2 = none) (h : Q none σ) : um_Ev cl AW L SX M f lo pc ls [] σ Q := by
  intro p l e s m args below meth c D ad cA A H locs lsr hc hP hD hS hl
  exact W.vret hc.1 hc.2.1 (hc.2.2.2.1.trans hr) (fun t ht hW => ⟨⟨none, σ, rfl, h, by rw [ht]; exact hP, va_K.moved hW.alike hc.2.2.2.2.2.2.2.1, hD⟩, hS.F ht⟩) hS.2.2 hd hc.2.2.2.2.1
end UmCells
end
section
/-! calls -/
section UmGo
variable {p : Program} {l : Launch} {e : Env} {R : Room} {s : State} {m : MethodId} {args : Array Value} {below : List Frame} {meth : Method} {c : Code} {H : Heap} {locs : List Loc} {cells slots : Nat} {Qw : State → Prop}
/-- behind a call of an int's or of nothing's answer -/
theorem um_go {Q1 : Option Int32 → um_S → Prop} {B : um_S → State → Prop} {pc : Nat} {ls : Array Slot} {st0 rest : List Value} {a : Array Value} {A0 A1 : Nat → Prop} {H0 : Heap} {free : Addr → Prop}
    (hr : va_Run p l e R s m args below meth c H locs cells slots 0 0 (F0 m pc ls st0) rest (um_Q Q1 B A1 a) free) (hS : va_S A0 H0 H locs) (hA : ∀ q, q < H.size → A1 q → A0 q) (hf : ∀ q, free q → A0 q)
    (kk : ∀ (r : Option Int32) (u : um_S) (t : State) (H1 : Heap) (locs1 : List Loc), t.heap = H1 → s.vm.Alike t.vm → Q1 r u → B u t → va_S A0 H0 H1 locs1 → W p l e R s m args below meth c H1 locs1 cells slots Qw (F0 m (pc + 3) ls ((r.map Value.int).toList ++ rest))) :
    W p l e R s m args below meth c H locs cells slots Qw (F0 m pc ls st0) := by
  intro T hT X
  obtain ⟨v, st₀, t, T', L, h0, X', hL, e1, e2, ⟨⟨r, u, hv, hp, hb⟩, hz, hk⟩, st⟩ := hr T hT X
  cases hv
  rw [h0] at hz hk
  have hS' : va_S A0 H0 T'.heap (locs ++ L) := by
    refine ⟨Nat.le_trans hS.1 (by rw [e1]; exact hz), fun q h1 h2 => ?_, fun q hq => ?_⟩
    · have h3 : q < H.size := Nat.lt_of_lt_of_le h1 hS.1
      rw [e1, hk q h3 (fun z => h2 (hA q h3 z))]
      exact hS.2.1 q h1 h2
    · rcases List.mem_append.mp hq with h | h
      · exact hS.2.2 q h
      · exact hf _ (hL q h)
  obtain ⟨t2, a1, b1⟩ := kk r u t T'.heap (locs ++ L) e1.symm (by rw [← e2]; exact X'.warmed.alike) hp hb hS' T' rfl X'
  exact ⟨t2, st t2 a1, b1⟩
end UmGo
def um_good (AW : List Cond) : Prop := ∀ w ∈ AW, (w.onTables && w.keeps) = true ∨ ∃ ty, w = .arrayClass ty
/-- what a call needs of the words -/
def um_Cw (AW : List Cond) (own : String) (idx : Nat) (M2 : um_M) (n : Nat) : Prop :=
  um_good AW ∧ Cond.code M2.1 M2.2.1 M2.2.2.1 M2.2.2.2 ∈ AW ∧ Cond.initialized M2.1.cls ∈ AW ∧ (M2.1.cls ≠ "java/lang/invoke/MethodHandle" ∧ M2.1.cls ≠ "java/lang/invoke/VarHandle" ∧ (parseMethodDescriptor M2.1.desc).map (fun d => d.parameters.length) = some n) ∧
  (Cond.methodLink own idx M2.1 ∈ AW ∨ ∃ host : String, (own, idx, M2.1, host) ∈ um_NW)
def um_Iv (cl : List vw_C) (AW : List Cond) (own : String) (idx ci : Nat) (M2 : um_M) (n : Nat) : Prop :=
  um_Cw AW own idx M2 n ∧ ∃ q : vw_C, cl[ci]? = some q ∧ Cond.instanceMethod M2.1 ∈ AW ∧ Cond.selects q.1 M2.1 M2.1 ∈ AW
def um_Is (AW : List Cond) (own : String) (idx : Nat) (M2 : um_M) (n : Nat) : Prop := um_Cw AW own idx M2 n ∧ Cond.static M2.1 ∈ AW
section UmCalls
variable {cl : List vw_C} {AW : List Cond} {L : List um_E} {SX : List um_X} {M M2 : um_M} {f lo f2 lo2 pc pc2 idx n q ci : Nat} {ls : List (Option Value)} {st : List Value} {σ : um_S} {Q Q1 : Option Int32 → um_S → Prop} {fs : List (Option Nat)} {As : List Value}
theorem um_goodIn (hg : um_good AW) (hcode : Cond.code M2.1 M2.2.1 M2.2.2.1 M2.2.2.2 ∈ AW) : GoodIn (um_wd AW M) (um_wd AW M2) := by
  intro w hw
  rcases List.mem_cons.mp hw with h | h
  · subst h
    exact ⟨List.mem_cons_of_mem _ hcode, hg _ hcode⟩
  · exact ⟨List.mem_cons_of_mem _ h, hg _ h⟩
def um_Pc (cl : List vw_C) (L : List um_E) (SX : List um_X) (D : va_G) (ad : Nat → Nat) (cA : ClassId) (sz : Nat) (As : List Value) (σ : um_S) : Array Value → State → Prop :=
  va_Pc (As.map (um_v ad)) (fun U => U.heap.size = sz ∧ va_P D cl (um_ws ad cA L σ) U.heap ∧ va_K D cl [(cA, .int)] U ∧ va_D (fun _ => True) (um_ws ad cA L σ) ∧ um_st SX ad (va_A (um_ws ad cA L σ) sz) U U.heap)
theorem um_blind {D : va_G} {ad : Nat → Nat} {cA : ClassId} {sz : Nat} : FrameBlind (um_Pc cl L SX D ad cA sz As σ) := by
  intro a U g mk hq
  obtain ⟨q0, q1, qP, qK, qD, qX⟩ := hq
  exact ⟨q0, q1, qP, va_K.moved (u := U) (U := U.calling g mk a) (Vm.Alike.refl U.vm) qK, qD, fun i C n N fn hi =>
    ⟨va_Z.moved (u := U) (U := U.calling g mk a) (Vm.Alike.refl U.vm) (qX.1 i C n N fn hi).1, va_T.moved (u := U) (U := U.calling g mk a) (Vm.Alike.refl U.vm) (qX.1 i C n N fn hi).2⟩,
    fun q hq => va_Nw.same (u := U) (U := U.calling g mk a) rfl rfl (qX.2 q hq)⟩
section Inner
variable {p : Program} {s : State} {m : MethodId} {args : Array Value} {meth : Method} {c : Code} {D : va_G} {ad : Nat → Nat} {cA : ClassId} {A : Nat → Prop} {H : Heap} {locs : List Loc}
theorem um_A0 (hc : um_ctx cl AW SX M D ad cA A p s m args meth c) (hD : va_D A (um_ws ad cA L σ)) (hS : va_S A s.heap H locs) : ∀ q', va_A (um_ws ad cA L σ) H.size q' → A q' := by
  intro q' h
  rcases h with ⟨k, e, h⟩ | h
  · exact hD.2 k _ h
  · exact hc.2.2.2.2.2.2.2.2.1 q' (Nat.le_trans hS.1 h)
theorem um_pre (hc : um_ctx cl AW SX M D ad cA A p s m args meth c) (hP : va_P D cl (um_ws ad cA L σ) H) (hD : va_D A (um_ws ad cA L σ)) (hS : va_S A s.heap H locs) :
    ∀ U : State, U.heap = H → s.WarmedH U.vm → um_Pc cl L SX D ad cA H.size As σ (As.map (um_v ad)).toArray U := by
  intro U hU hW
  have hA := um_A0 hc hD hS
  refine ⟨rfl, by rw [hU], by rw [hU]; exact hP, va_K.moved hW.alike hc.2.2.2.2.2.2.2.1, hD.weaken (fun _ _ _ _ => trivial), fun i C n N fn hi => ?_, fun q hq => va_Nw.warmM hW (hc.2.2.2.2.2.2.2.2.2.2 q hq)⟩
  obtain ⟨h1, h2⟩ := hc.2.2.2.2.2.2.2.2.2.1 i C n N fn hi
  rw [hU]
  exact ⟨((h1.kept hS.2.1).narrow hA).moved hW.alike, ((h2.kept hS.2.1).narrow hA).moved hW.alike⟩
end Inner
theorem um_callV (hd : decode M.2.1 pc = .ok (.invokevirtual idx, 3)) (hp : pc + 3 = pc2) (hI : um_Iv cl AW M.1.cls idx ci M2 n) (hL : L[q]? = some (.inl (ci, fs))) (hn : As.length = n) (hf : f2 + 1 ≤ f) (hlo : 8 + (M2.2.2.1 + 11) + lo2 ≤ lo) (hst : (st.map fun v => v.category).sum ≤ 8)
    (hcon : um_Con cl AW L SX f2 lo2 M2 (.ref q :: As) σ Q1) (h : ∀ r u, Q1 r u → um_Ev cl AW L SX M f lo pc2 ls ((r.map Value.int).toList ++ st) u Q) : um_Ev cl AW L SX M f lo pc ls (As.reverse ++ .ref q :: st) σ Q := by
  subst hp
  intro p l e s m args below meth c D ad cA A H locs lsr hc hP hD hS hl
  obtain ⟨⟨hg, hcode, hini, hpar, hlk⟩, qc, hcl, hinst, hsel⟩ := hI
  have hts := hc.2.2.2.2.2.1
  have hok : ∀ w ∈ AW, w.before args s = true := fun w hw => hts w (List.mem_cons_of_mem _ hw)
  have hA0 := um_A0 hc hD hS
  have he : (um_ws ad cA L σ)[q]? = some (ad q, .inr (ci, fs.mapIdx (um_fv ad σ q))) := by rw [um_ws_at, hL]; rfl
  have hpre := um_pre (As := .ref q :: As) hc hP hD hS
  have hstk : (As.reverse ++ .ref q :: st).map (um_v ad) = (As.map (um_v ad)).reverse ++ .ref (ad q) :: st.map (um_v ad) := by
    rw [List.map_append, List.map_reverse]
    rfl
  rw [hstk]
  have hroom : ((st.map (um_v ad)).map fun v => v.category).sum ≤ 8 := by rw [um_v_sum]; exact hst
  have hlen : (As.map (um_v ad)).length = n := by rw [List.length_map]; exact hn
  have hM := hcon l D ad cA H.size
  have hrun : va_Run p l e { frames := f, cells := 0, slots := 0, locals := lo } s m args below meth c H locs 0 0 0 0 (F0 m pc lsr ((As.map (um_v ad)).reverse ++ .ref (ad q) :: st.map (um_v ad))) (st.map (um_v ad))
      (um_Q Q1 (um_B cl D ad cA L (va_A (um_ws ad cA L σ) H.size)) (va_A (um_ws ad cA L σ) H.size) (Value.ref (ad q) :: As.map (um_v ad)).toArray) (va_A (um_ws ad cA L σ) H.size) := by
    rcases hlk with hlk | ⟨host, hlk⟩
    · exact va_runV (Pc := um_Pc cl L SX D ad cA H.size (.ref q :: As) σ) ⟨hc.1, hc.2.1, hc.2.2.1, hc.2.2.2.2.2.2.1, hts⟩ hM ⟨callB_of n hts (um_goodIn hg hcode) rfl rfl rfl (hok _ hini) (hok _ hlk) hpar ⟨hf, hlo⟩, hok _ hinst, hok _ hsel⟩
        ⟨um_blind, va_recv hc.2.2.2.2.2.2.2.1 hP hcl he, hpre⟩ rfl hlen hl.1 rfl (lv_room hroom) hd ⟨Nat.le_refl _, Nat.le_refl _⟩
    · exact va_runVN (Pc := um_Pc cl L SX D ad cA H.size (.ref q :: As) σ) ⟨hc.1, hc.2.1, hc.2.2.1, hc.2.2.2.2.2.2.1, hts⟩ hM ⟨va_cnB n hts (um_goodIn hg hcode) rfl rfl rfl (hc.2.2.2.2.2.2.2.2.2.2 _ hlk) (hok _ hini) hpar ⟨hf, hlo⟩, hok _ hinst, hok _ hsel⟩
        ⟨um_blind, va_recv hc.2.2.2.2.2.2.2.1 hP hcl he, hpre⟩ rfl hlen hl.1 rfl (lv_room hroom) hd ⟨Nat.le_refl _, Nat.le_refl _⟩
  refine um_go hrun hS (fun q' _ hq' => hA0 q' hq') hA0 (fun r u t H1 locs1 ht hvm hq hB hS1 => ?_)
  have e2 : ((r.map Value.int).toList ++ st).map (um_v ad) = (r.map Value.int).toList ++ st.map (um_v ad) := by cases r <;> rfl
  rw [← e2]
  exact h r u hq p l e s m args below meth c D ad cA A H1 locs1 lsr hc (by rw [← ht]; exact hB.1) (hB.2.2.weaken (fun _ _ _ z => hA0 _ z)) hS1 hl
theorem um_callS (hd : decode M.2.1 pc = .ok (.invokestatic idx, 3)) (hp : pc + 3 = pc2) (hI : um_Is AW M.1.cls idx M2 n) (hn : As.length = n) (hf : f2 + 1 ≤ f) (hlo : 8 + (M2.2.2.1 + 11) + lo2 ≤ lo) (hst : (st.map fun v => v.category).sum ≤ 8)
    (hcon : um_Con cl AW L SX f2 lo2 M2 As σ Q1) (h : ∀ r u, Q1 r u → um_Ev cl AW L SX M f lo pc2 ls ((r.map Value.int).toList ++ st) u Q) : um_Ev cl AW L SX M f lo pc ls (As.reverse ++ st) σ Q := by
  subst hp
  intro p l e s m args below meth c D ad cA A H locs lsr hc hP hD hS hl
  obtain ⟨⟨hg, hcode, hini, hpar, hlk⟩, hstat⟩ := hI
  have hts := hc.2.2.2.2.2.1
  have hok : ∀ w ∈ AW, w.before args s = true := fun w hw => hts w (List.mem_cons_of_mem _ hw)
  have hA0 := um_A0 hc hD hS
  have hpre := um_pre (As := As) hc hP hD hS
  have hstk : (As.reverse ++ st).map (um_v ad) = (As.map (um_v ad)).reverse ++ st.map (um_v ad) := by
    rw [List.map_append, List.map_reverse]
  rw [hstk]
  have hroom : ((st.map (um_v ad)).map fun v => v.category).sum ≤ 8 := by rw [um_v_sum]; exact hst
  have hlen : (As.map (um_v ad)).length = n := by rw [List.length_map]; exact hn
  have hM := hcon l D ad cA H.size
  have hrun : va_Run p l e { frames := f, cells := 0, slots := 0, locals := lo } s m args below meth c H locs 0 0 0 0 (F0 m pc lsr ((As.map (um_v ad)).reverse ++ st.map (um_v ad))) (st.map (um_v ad))
      (um_Q Q1 (um_B cl D ad cA L (va_A (um_ws ad cA L σ) H.size)) (va_A (um_ws ad cA L σ) H.size) (As.map (um_v ad)).toArray) (va_A (um_ws ad cA L σ) H.size) := by
    rcases hlk with hlk | ⟨host, hlk⟩
    · exact va_runS (Pc := um_Pc cl L SX D ad cA H.size As σ) ⟨hc.1, hc.2.1, hc.2.2.1, hc.2.2.2.2.2.2.1, hts⟩ hM ⟨callB_of n hts (um_goodIn hg hcode) rfl rfl rfl (hok _ hini) (hok _ hlk) hpar ⟨hf, hlo⟩, hok _ hstat⟩
        ⟨um_blind, hpre⟩ rfl hlen hl.1 rfl (lv_room hroom) hd ⟨Nat.le_refl _, Nat.le_refl _⟩
    · exact va_runSN (Pc := um_Pc cl L SX D ad cA H.size As σ) ⟨hc.1, hc.2.1, hc.2.2.1, hc.2.2.2.2.2.2.1, hts⟩ hM ⟨va_cnB n hts (um_goodIn hg hcode) rfl rfl rfl (hc.2.2.2.2.2.2.2.2.2.2 _ hlk) (hok _ hini) hpar ⟨hf, hlo⟩, hok _ hstat, trivial⟩
        ⟨um_blind, hpre⟩ rfl hlen hl.1 rfl (lv_room hroom) hd ⟨Nat.le_refl _, Nat.le_refl _⟩
  refine um_go hrun hS (fun q' _ hq' => hA0 q' hq') hA0 (fun r u t H1 locs1 ht hvm hq hB hS1 => ?_)
  have e2 : ((r.map Value.int).toList ++ st).map (um_v ad) = (r.map Value.int).toList ++ st.map (um_v ad) := by cases r <;> rfl
  rw [← e2]
  exact h r u hq p l e s m args below meth c D ad cA A H1 locs1 lsr hc (by rw [← ht]; exact hB.1) (hB.2.2.weaken (fun _ _ _ z => hA0 _ z)) hS1 hl
theorem um_callV0 (hd : decode M.2.1 pc = .ok (.invokevirtual idx, 3)) (hp : pc + 3 = pc2) (hI : um_Iv cl AW M.1.cls idx ci M2 0) (hL : L[q]? = some (.inl (ci, fs))) (hf : f2 + 1 ≤ f) (hlo : 8 + (M2.2.2.1 + 11) + lo2 ≤ lo) (hst : (st.map fun v => v.category).sum ≤ 8) (hcon : um_Con cl AW L SX f2 lo2 M2 [.ref q] σ Q1) (h : ∀ r u, Q1 r u → um_Ev cl AW L SX M f lo pc2 ls ((r.map Value.int).toList ++ st) u Q) : um_Ev cl AW L SX M f lo pc ls (.ref q :: st) σ Q := um_callV (As := []) hd hp hI hL rfl hf hlo hst hcon h
theorem um_callV1 {a : Value} (hd : decode M.2.1 pc = .ok (.invokevirtual idx, 3)) (hp : pc + 3 = pc2) (hI : um_Iv cl AW M.1.cls idx ci M2 1) (hL : L[q]? = some (.inl (ci, fs))) (hf : f2 + 1 ≤ f) (hlo : 8 + (M2.2.2.1 + 11) + lo2 ≤ lo) (hst : (st.map fun v => v.category).sum ≤ 8) (hcon : um_Con cl AW L SX f2 lo2 M2 [.ref q, a] σ Q1) (h : ∀ r u, Q1 r u → um_Ev cl AW L SX M f lo pc2 ls ((r.map Value.int).toList ++ st) u Q) : um_Ev cl AW L SX M f lo pc ls (a :: .ref q :: st) σ Q := um_callV (As := [a]) hd hp hI hL rfl hf hlo hst hcon h
theorem um_callS1 {a : Value} (hd : decode M.2.1 pc = .ok (.invokestatic idx, 3)) (hp : pc + 3 = pc2) (hI : um_Is AW M.1.cls idx M2 1) (hf : f2 + 1 ≤ f) (hlo : 8 + (M2.2.2.1 + 11) + lo2 ≤ lo) (hst : (st.map fun v => v.category).sum ≤ 8) (hcon : um_Con cl AW L SX f2 lo2 M2 [a] σ Q1) (h : ∀ r u, Q1 r u → um_Ev cl AW L SX M f lo pc2 ls ((r.map Value.int).toList ++ st) u Q) : um_Ev cl AW L SX M f lo pc ls (a :: st) σ Q := um_callS (As := [a]) hd hp hI rfl hf hlo hst hcon h
theorem um_callV2 {a b : Value} (hd : decode M.2.1 pc = .ok (.invokevirtual idx, 3)) (hp : pc + 3 = pc2) (hI : um_Iv cl AW M.1.cls idx ci M2 2) (hL : L[q]? = some (.inl (ci, fs))) (hf : f2 + 1 ≤ f) (hlo : 8 + (M2.2.2.1 + 11) + lo2 ≤ lo) (hst : (st.map fun v => v.category).sum ≤ 8) (hcon : um_Con cl AW L SX f2 lo2 M2 [.ref q, a, b] σ Q1) (h : ∀ r u, Q1 r u → um_Ev cl AW L SX M f lo pc2 ls ((r.map Value.int).toList ++ st) u Q) : um_Ev cl AW L SX M f lo pc ls (b :: a :: .ref q :: st) σ Q := um_callV (As := [a, b]) hd hp hI hL rfl hf hlo hst hcon h
theorem um_callS2 {a b : Value} (hd : decode M.2.1 pc = .ok (.invokestatic idx, 3)) (hp : pc + 3 = pc2) (hI : um_Is AW M.1.cls idx M2 2) (hf : f2 + 1 ≤ f) (hlo : 8 + (M2.2.2.1 + 11) + lo2 ≤ lo) (hst : (st.map fun v => v.category).sum ≤ 8) (hcon : um_Con cl AW L SX f2 lo2 M2 [a, b] σ Q1) (h : ∀ r u, Q1 r u → um_Ev cl AW L SX M f lo pc2 ls ((r.map Value.int).toList ++ st) u Q) : um_Ev cl AW L SX M f lo pc ls (b :: a :: st) σ Q := um_callS (As := [a, b]) hd hp hI rfl hf hlo hst hcon h
theorem um_callV3 {a b c : Value} (hd : decode M.2.1 pc = .ok (.invokevirtual idx, 3)) (hp : pc + 3 = pc2) (hI : um_Iv cl AW M.1.cls idx ci M2 3) (hL : L[q]? = some (.inl (ci, fs))) (hf : f2 + 1 ≤ f) (hlo : 8 + (M2.2.2.1 + 11) + lo2 ≤ lo) (hst : (st.map fun v => v.category).sum ≤ 8) (hcon : um_Con cl AW L SX f2 lo2 M2 [.ref q, a, b, c] σ Q1) (h : ∀ r u, Q1 r u → um_Ev cl AW L SX M f lo pc2 ls ((r.map Value.int).toList ++ st) u Q) : um_Ev cl AW L SX M f lo pc ls (c :: b :: a :: .ref q :: st) σ Q := um_callV (As := [a, b, c]) hd hp hI hL rfl hf hlo hst hcon h
theorem um_callS3 {a b c : Value} (hd : decode M.2.1 pc = .ok (.invokestatic idx, 3)) (hp : pc + 3 = pc2) (hI : um_Is AW M.1.cls idx M2 3) (hf : f2 + 1 ≤ f) (hlo : 8 + (M2.2.2.1 + 11) + lo2 ≤ lo) (hst : (st.map fun v => v.category).sum ≤ 8) (hcon : um_Con cl AW L SX f2 lo2 M2 [a, b, c] σ Q1) (h : ∀ r u, Q1 r u → um_Ev cl AW L SX M f lo pc2 ls ((r.map Value.int).toList ++ st) u Q) : um_Ev cl AW L SX M f lo pc ls (c :: b :: a :: st) σ Q := um_callS (As := [a, b, c]) hd hp hI rfl hf hlo hst hcon h
theorem um_callV4 {a b c d : Value} (hd : decode M.2.1 pc = .ok (.invokevirtual idx, 3)) (hp : pc + 3 = pc2) (hI : um_Iv cl AW M.1.cls idx ci M2 4) (hL : L[q]? = some (.inl (ci, fs))) (hf : f2 + 1 ≤ f) (hlo : 8 + (M2.2.2.1 + 11) + lo2 ≤ lo) (hst : (st.map fun v => v.category).sum ≤ 8) (hcon : um_Con cl AW L SX f2 lo2 M2 [.ref q, a, b, c, d] σ Q1) (h : ∀ r u, Q1 r u → um_Ev cl AW L SX M f lo pc2 ls ((r.map Value.int).toList ++ st) u Q) : um_Ev cl AW L SX M f lo pc ls (d :: c :: b :: a :: .ref q :: st) σ Q := um_callV (As := [a, b, c, d]) hd hp hI hL rfl hf hlo hst hcon h
theorem um_callS4 {a b c d : Value} (hd : decode M.2.1 pc = .ok (.invokestatic idx, 3)) (hp : pc + 3 = pc2) (hI : um_Is AW M.1.cls idx M2 4) (hf : f2 + 1 ≤ f) (hlo : 8 + (M2.2.2.1 + 11) + lo2 ≤ lo) (hst : (st.map fun v => v.category).sum ≤ 8) (hcon : um_Con cl AW L SX f2 lo2 M2 [a, b, c, d] σ Q1) (h : ∀ r u, Q1 r u → um_Ev cl AW L SX M f lo pc2 ls ((r.map Value.int).toList ++ st) u Q) : um_Ev cl AW L SX M f lo pc ls (d :: c :: b :: a :: st) σ Q := um_callS (As := [a, b, c, d]) hd hp hI rfl hf hlo hst hcon h
theorem um_callV5 {a b c d e : Value} (hd : decode M.2.1 pc = .ok (.invokevirtual idx, 3)) (hp : pc + 3 = pc2) (hI : um_Iv cl AW M.1.cls idx ci M2 5) (hL : L[q]? = some (.inl (ci, fs))) (hf : f2 + 1 ≤ f) (hlo : 8 + (M2.2.2.1 + 11) + lo2 ≤ lo) (hst : (st.map fun v => v.category).sum ≤ 8) (hcon : um_Con cl AW L SX f2 lo2 M2 [.ref q, a, b, c, d, e] σ Q1) (h : ∀ r u, Q1 r u → um_Ev cl AW L SX M f lo pc2 ls ((r.map Value.int).toList ++ st) u Q) : um_Ev cl AW L SX M f lo pc ls (e :: d :: c :: b :: a :: .ref q :: st) σ Q := um_callV (As := [a, b, c, d, e]) hd hp hI hL rfl hf hlo hst hcon h
theorem um_callS5 {a b c d e : Value} (hd : decode M.2.1 pc = .ok (.invokestatic idx, 3)) (hp : pc + 3 = pc2) (hI : um_Is AW M.1.cls idx M2 5) (hf : f2 + 1 ≤ f) (hlo : 8 + (M2.2.2.1 + 11) + lo2 ≤ lo) (hst : (st.map fun v => v.category).sum ≤ 8) (hcon : um_Con cl AW L SX f2 lo2 M2 [a, b, c, d, e] σ Q1) (h : ∀ r u, Q1 r u → um_Ev cl AW L SX M f lo pc2 ls ((r.map Value.int).toList ++ st) u Q) : um_Ev cl AW L SX M f lo pc ls (e :: d :: c :: b :: a :: st) σ Q := um_callS (As := [a, b, c, d, e]) hd hp hI rfl hf hlo hst hcon h
theorem um_callV6 {a b c d e g : Value} (hd : decode M.2.1 pc = .ok (.invokevirtual idx, 3)) (hp : pc + 3 = pc2) (hI : um_Iv cl AW M.1.cls idx ci M2 6) (hL : L[q]? = some (.inl (ci, fs))) (hf : f2 + 1 ≤ f) (hlo : 8 + (M2.2.2.1 + 11) + lo2 ≤ lo) (hst : (st.map fun v => v.category).sum ≤ 8) (hcon : um_Con cl AW L SX f2 lo2 M2 [.ref q, a, b, c, d, e, g] σ Q1) (h : ∀ r u, Q1 r u → um_Ev cl AW L SX M f lo pc2 ls ((r.map Value.int).toList ++ st) u Q) : um_Ev cl AW L SX M f lo pc ls (g :: e :: d :: c :: b :: a :: .ref q :: st) σ Q := um_callV (As := [a, b, c, d, e, g]) hd hp hI hL rfl hf hlo hst hcon h
theorem um_callS6 {a b c d e g : Value} (hd : decode M.2.1 pc = .ok (.invokestatic idx, 3)) (hp : pc + 3 = pc2) (hI : um_Is AW M.1.cls idx M2 6) (hf : f2 + 1 ≤ f) (hlo : 8 + (M2.2.2.1 + 11) + lo2 ≤ lo) (hst : (st.map fun v => v.category).sum ≤ 8) (hcon : um_Con cl AW L SX f2 lo2 M2 [a, b, c, d, e, g] σ Q1) (h : ∀ r u, Q1 r u → um_Ev cl AW L SX M f lo pc2 ls ((r.map Value.int).toList ++ st) u Q) : um_Ev cl AW L SX M f lo pc ls (g :: e :: d :: c :: b :: a :: st) σ Q := um_callS (As := [a, b, c, d, e, g]) hd hp hI rfl hf hlo hst hcon h
theorem um_mmax {x y : Int32} (hd : decode M.2.1 pc = .ok (.invokestatic idx, 3)) (hp : pc + 3 = pc2) (hw : Cond.methodLink M.1.cls idx Lib.Math.max.name ∈ AW ∧ Cond.static Lib.Math.max.name ∈ AW ∧ Cond.initialized "java/lang/Math" ∈ AW ∧ Cond.code Lib.Math.max.name Lib.Math.max.code 2 (some .int) ∈ AW)
    (hf : 1 ≤ f) (hlo : (st.map fun v => v.category).sum + 13 ≤ lo) (h : um_Ev cl AW L SX M f lo pc2 ls (.int (if x < y then y else x) :: st) σ Q) : um_Ev cl AW L SX M f lo pc ls (.int y :: .int x :: st) σ Q := by
  subst hp
  intro p l e s m args below meth c D ad cA A H locs lsr hc hP hD hS hl
  have hok : ∀ w ∈ AW, w.before args s = true := fun w hw => hc.2.2.2.2.2.1 w (List.mem_cons_of_mem _ hw)
  exact va_mmax hc.1 hc.2.1 (hc.2.2.1.trans hl.1.symm) hc.2.2.2.2.2.2.1 (hok _ hw.1) (hok _ hw.2.1) (hok _ hw.2.2.1) (hok _ hw.2.2.2) hf (by rw [um_v_sum]; exact hlo) (Nat.le_refl _) (Nat.le_refl _) hd
    (h p l e s m args below meth c D ad cA A H locs lsr hc hP hD hS hl)
end UmCalls

section UmMore
variable {cl : List vw_C} {AW : List Cond} {L : List um_E} {SX : List um_X} {M : um_M} {f lo pc : Nat} {ls : List (Option Value)} {st : List Value} {σ : um_S} {Q : Option Int32 → um_S → Prop}
/-- a name for the state, a name for the number on top -/
theorem um_gen (h : ∀ τ : um_S, τ = σ → um_Ev cl AW L SX M f lo pc ls st τ Q) : um_Ev cl AW L SX M f lo pc ls st σ Q := h σ rfl
theorem um_top {x : Int32} (h : ∀ y : Int32, y = x → um_Ev cl AW L SX M f lo pc ls (.int y :: st) σ Q) : um_Ev cl AW L SX M f lo pc ls (.int x :: st) σ Q := h x rfl
/-- locals that are of no use any more -/
def um_mask : List Bool → List (Option Value) → List (Option Value)
  | b :: bs, v :: vs => (if b then v else none) :: um_mask bs vs
  | _, _ => []
theorem um_mask_at : ∀ (bs : List Bool) (ls : List (Option Value)) (i : Nat) (v : Value), (um_mask bs ls)[i]? = some (some v) → ls[i]? = some (some v)
  | [], _, _, _, h => by simp [um_mask] at h
  | _ :: _, [], _, _, h => by simp [um_mask] at h
  | b :: bs, w :: vs, 0, v, h => by
    cases b with
    | false => simp [um_mask] at h
    | true => simpa [um_mask] using h
  | b :: bs, w :: vs, i + 1, v, h => by
    rw [um_mask, List.getElem?_cons_succ] at h
    rw [List.getElem?_cons_succ]
    exact um_mask_at bs vs i v h
theorem um_forget (bs : List Bool) (hlen : (um_mask bs ls).length = ls.length) (h : um_Ev cl AW L SX M f lo pc (um_mask bs ls) st σ Q) : um_Ev cl AW L SX M f lo pc ls st σ Q := by
  intro p l e s m args below meth c D ad cA A H locs lsr hc hP hD hS hl
  exact h p l e s m args below meth c D ad cA A H locs lsr hc hP hD hS ⟨hl.1, hl.2.1, hlen.trans hl.2.2.1, fun i v hi => hl.2.2.2 i v (um_mask_at bs ls i v hi)⟩
/-- a table's place by the number's value -/
theorem um_tableAt {dflt lw hi kk off : Int} {offs : Array Int} {len tgt : Nat} {x k : Int32} (hd : decode M.2.1 pc = .ok (.tableswitch dflt lw hi offs, len)) (hx : x = k) (hk : k.toInt = kk) (h1 : ¬ kk < lw) (h2 : ¬ hi < kk) (ho : offs[(kk - lw).toNat]? = some off) (ht : (pc : Int) + off = (tgt : Int)) (h : um_Ev cl AW L SX M f lo tgt ls st σ Q) :
    um_Ev cl AW L SX M f lo pc ls (.int x :: st) σ Q := by
  subst hx
  exact um_tableIn hd (by rw [hk]; exact h1) (by rw [hk]; exact h2) (by rw [hk]; exact ho) ht h
end UmMore
def um_Qi (Q : Int32 → um_S → Prop) : Option Int32 → um_S → Prop := fun r u => ∃ x : Int32, r = some x ∧ Q x u
def um_Qv (Q : um_S → Prop) : Option Int32 → um_S → Prop := fun r u => r = none ∧ Q u
theorem um_toInt_ne {x k : Int32} {kk : Int} (h : ¬ x = k) (hk : k.toInt = kk) : x.toInt ≠ kk := fun z => h (Int32.toInt_inj.mp (z.trans hk.symm))
def um_Qz (Q : Bool → um_S → Prop) : Option Int32 → um_S → Prop := fun r u => ∃ b : Bool, r = some (if b then 1 else 0) ∧ Q b u
theorem um_b0 {b : Bool} (h : (if b then (1 : Int32) else 0) = 0) : b = false := by
  cases b with
  | false => rfl
  | true => exact absurd h (by decide)
theorem um_b1 {b : Bool} (h : ¬ (if b then (1 : Int32) else 0) = 0) : b = true := by
  cases b with
  | false => exact absurd rfl h
  | true => rfl
theorem um_b01 (b : Bool) : (if b then (1 : Int32) else 0) = 0 ∨ (if b then (1 : Int32) else 0) = 1 := by
  cases b with
  | false => exact Or.inl rfl
  | true => exact Or.inr rfl
section UmCallK
variable {cl : List vw_C} {AW : List Cond} {L : List um_E} {SX : List um_X} {M M2 : um_M} {f lo f2 lo2 pc pc2 idx q ci : Nat} {ls : List (Option Value)} {st : List Value} {σ : um_S} {Q : Option Int32 → um_S → Prop} {Qi : Int32 → um_S → Prop} {Qv : um_S → Prop} {Qz : Bool → um_S → Prop} {fs : List (Option Nat)}
theorem um_callV0i (hd : decode M.2.1 pc = .ok (.invokevirtual idx, 3)) (hp : pc + 3 = pc2) (hI : um_Iv cl AW M.1.cls idx ci M2 0) (hL : L[q]? = some (.inl (ci, fs))) (hf : f2 + 1 ≤ f) (hlo : 8 + (M2.2.2.1 + 11) + lo2 ≤ lo) (hst : (st.map fun v => v.category).sum ≤ 8) (hcon : um_Con cl AW L SX f2 lo2 M2 [.ref q] σ (um_Qi Qi)) (h : ∀ x u, Qi x u → um_Ev cl AW L SX M f lo pc2 ls (.int x :: st) u Q) : um_Ev cl AW L SX M f lo pc ls (.ref q :: st) σ Q := um_callV0 hd hp hI hL hf hlo hst hcon (fun r u z => by obtain ⟨x, rfl, z⟩ := z; exact h x u z)
theorem um_callV0v (hd : decode M.2.1 pc = .ok (.invokevirtual idx, 3)) (hp : pc + 3 = pc2) (hI : um_Iv cl AW M.1.cls idx ci M2 0) (hL : L[q]? = some (.inl (ci, fs))) (hf : f2 + 1 ≤ f) (hlo : 8 + (M2.2.2.1 + 11) + lo2 ≤ lo) (hst : (st.map fun v => v.category).sum ≤ 8) (hcon : um_Con cl AW L SX f2 lo2 M2 [.ref q] σ (um_Qv Qv)) (h : ∀ u, Qv u → um_Ev cl AW L SX M f lo pc2 ls st u Q) : um_Ev cl AW L SX M f lo pc ls (.ref q :: st) σ Q := um_callV0 hd hp hI hL hf hlo hst hcon (fun r u z => by obtain ⟨rfl, z⟩ := z; exact h u z)
theorem um_callV0z (hd : decode M.2.1 pc = .ok (.invokevirtual idx, 3)) (hp : pc + 3 = pc2) (hI : um_Iv cl AW M.1.cls idx ci M2 0) (hL : L[q]? = some (.inl (ci, fs))) (hf : f2 + 1 ≤ f) (hlo : 8 + (M2.2.2.1 + 11) + lo2 ≤ lo) (hst : (st.map fun v => v.category).sum ≤ 8) (hcon : um_Con cl AW L SX f2 lo2 M2 [.ref q] σ (um_Qz Qz)) (h : ∀ b u, Qz b u → um_Ev cl AW L SX M f lo pc2 ls (.int (if b then 1 else 0) :: st) u Q) : um_Ev cl AW L SX M f lo pc ls (.ref q :: st) σ Q := um_callV0 hd hp hI hL hf hlo hst hcon (fun r u z => by obtain ⟨b, rfl, z⟩ := z; exact h b u z)
theorem um_callV1i {a : Value} (hd : decode M.2.1 pc = .ok (.invokevirtual idx, 3)) (hp : pc + 3 = pc2) (hI : um_Iv cl AW M.1.cls idx ci M2 1) (hL : L[q]? = some (.inl (ci, fs))) (hf : f2 + 1 ≤ f) (hlo : 8 + (M2.2.2.1 + 11) + lo2 ≤ lo) (hst : (st.map fun v => v.category).sum ≤ 8) (hcon : um_Con cl AW L SX f2 lo2 M2 [.ref q, a] σ (um_Qi Qi)) (h : ∀ x u, Qi x u → um_Ev cl AW L SX M f lo pc2 ls (.int x :: st) u Q) : um_Ev cl AW L SX M f lo pc ls (a :: .ref q :: st) σ Q := um_callV1 hd hp hI hL hf hlo hst hcon (fun r u z => by obtain ⟨x, rfl, z⟩ := z; exact h x u z)
theorem um_callV1v {a : Value} (hd : decode M.2.1 pc = .ok (.invokevirtual idx, 3)) (hp : pc + 3 = pc2) (hI : um_Iv cl AW M.1.cls idx ci M2 1) (hL : L[q]? = some (.inl (ci, fs))) (hf : f2 + 1 ≤ f) (hlo : 8 + (M2.2.2.1 + 11) + lo2 ≤ lo) (hst : (st.map fun v => v.category).sum ≤ 8) (hcon : um_Con cl AW L SX f2 lo2 M2 [.ref q, a] σ (um_Qv Qv)) (h : ∀ u, Qv u → um_Ev cl AW L SX M f lo pc2 ls st u Q) : um_Ev cl AW L SX M f lo pc ls (a :: .ref q :: st) σ Q := um_callV1 hd hp hI hL hf hlo hst hcon (fun r u z => by obtain ⟨rfl, z⟩ := z; exact h u z)
theorem um_callV1z {a : Value} (hd : decode M.2.1 pc = .ok (.invokevirtual idx, 3)) (hp : pc + 3 = pc2) (hI : um_Iv cl AW M.1.cls idx ci M2 1) (hL : L[q]? = some (.inl (ci, fs))) (hf : f2 + 1 ≤ f) (hlo : 8 + (M2.2.2.1 + 11) + lo2 ≤ lo) (hst : (st.map fun v => v.category).sum ≤ 8) (hcon : um_Con cl AW L SX f2 lo2 M2 [.ref q, a] σ (um_Qz Qz)) (h : ∀ b u, Qz b u → um_Ev cl AW L SX M f lo pc2 ls (.int (if b then 1 else 0) :: st) u Q) : um_Ev cl AW L SX M f lo pc ls (a :: .ref q :: st) σ Q := um_callV1 hd hp hI hL hf hlo hst hcon (fun r u z => by obtain ⟨b, rfl, z⟩ := z; exact h b u z)
theorem um_callS1i {a : Value} (hd : decode M.2.1 pc = .ok (.invokestatic idx, 3)) (hp : pc + 3 = pc2) (hI : um_Is AW M.1.cls idx M2 1) (hf : f2 + 1 ≤ f) (hlo : 8 + (M2.2.2.1 + 11) + lo2 ≤ lo) (hst : (st.map fun v => v.category).sum ≤ 8) (hcon : um_Con cl AW L SX f2 lo2 M2 [a] σ (um_Qi Qi)) (h : ∀ x u, Qi x u → um_Ev cl AW L SX M f lo pc2 ls (.int x :: st) u Q) : um_Ev cl AW L SX M f lo pc ls (a :: st) σ Q := um_callS1 hd hp hI hf hlo hst hcon (fun r u z => by obtain ⟨x, rfl, z⟩ := z; exact h x u z)
theorem um_callS1v {a : Value} (hd : decode M.2.1 pc = .ok (.invokestatic idx, 3)) (hp : pc + 3 = pc2) (hI : um_Is AW M.1.cls idx M2 1) (hf : f2 + 1 ≤ f) (hlo : 8 + (M2.2.2.1 + 11) + lo2 ≤ lo) (hst : (st.map fun v => v.category).sum ≤ 8) (hcon : um_Con cl AW L SX f2 lo2 M2 [a] σ (um_Qv Qv)) (h : ∀ u, Qv u → um_Ev cl AW L SX M f lo pc2 ls st u Q) : um_Ev cl AW L SX M f lo pc ls (a :: st) σ Q := um_callS1 hd hp hI hf hlo hst hcon (fun r u z => by obtain ⟨rfl, z⟩ := z; exact h u z)
theorem um_callS1z {a : Value} (hd : decode M.2.1 pc = .ok (.invokestatic idx, 3)) (hp : pc + 3 = pc2) (hI : um_Is AW M.1.cls idx M2 1) (hf : f2 + 1 ≤ f) (hlo : 8 + (M2.2.2.1 + 11) + lo2 ≤ lo) (hst : (st.map fun v => v.category).sum ≤ 8) (hcon : um_Con cl AW L SX f2 lo2 M2 [a] σ (um_Qz Qz)) (h : ∀ b u, Qz b u → um_Ev cl AW L SX M f lo pc2 ls (.int (if b then 1 else 0) :: st) u Q) : um_Ev cl AW L SX M f lo pc ls (a :: st) σ Q := um_callS1 hd hp hI hf hlo hst hcon (fun r u z => by obtain ⟨b, rfl, z⟩ := z; exact h b u z)
theorem um_callV2i {a b : Value} (hd : decode M.2.1 pc = .ok (.invokevirtual idx, 3)) (hp : pc + 3 = pc2) (hI : um_Iv cl AW M.1.cls idx ci M2 2) (hL : L[q]? = some (.inl (ci, fs))) (hf : f2 + 1 ≤ f) (hlo : 8 + (M2.2.2.1 + 11) + lo2 ≤ lo) (hst : (st.map fun v => v.category).sum ≤ 8) (hcon : um_Con cl AW L SX f2 lo2 M2 [.ref q, a, b] σ (um_Qi Qi)) (h : ∀ x u, Qi x u → um_Ev cl AW L SX M f lo pc2 ls (.int x :: st) u Q) : um_Ev cl AW L SX M f lo pc ls (b :: a :: .ref q :: st) σ Q := um_callV2 hd hp hI hL hf hlo hst hcon (fun r u z => by obtain ⟨x, rfl, z⟩ := z; exact h x u z)
theorem um_callV2v {a b : Value} (hd : decode M.2.1 pc = .ok (.invokevirtual idx, 3)) (hp : pc + 3 = pc2) (hI : um_Iv cl AW M.1.cls idx ci M2 2) (hL : L[q]? = some (.inl (ci, fs))) (hf : f2 + 1 ≤ f) (hlo : 8 + (M2.2.2.1 + 11) + lo2 ≤ lo) (hst : (st.map fun v => v.category).sum ≤ 8) (hcon : um_Con cl AW L SX f2 lo2 M2 [.ref q, a, b] σ (um_Qv Qv)) (h : ∀ u, Qv u → um_Ev cl AW L SX M f lo pc2 ls st u Q) : um_Ev cl AW L SX M f lo pc ls (b :: a :: .ref q :: st) σ Q := um_callV2 hd hp hI hL hf hlo hst hcon (fun r u z => by obtain ⟨rfl, z⟩ := z; exact h u z)
theorem um_callV2z {a b : Value} (hd : decode M.2.1 pc = .ok (.invokevirtual idx, 3)) (hp : pc + 3 = pc2) (hI : um_Iv cl AW M.1.cls idx ci M2 2) (hL : L[q]? = some (.inl (ci, fs))) (hf : f2 + 1 ≤ f) (hlo : 8 + (M2.2.2.1 + 11) + lo2 ≤ lo) (hst : (st.map fun v => v.category).sum ≤ 8) (hcon : um_Con cl AW L SX f2 lo2 M2 [.ref q, a, b] σ (um_Qz Qz)) (h : ∀ y u, Qz y u → um_Ev cl AW L SX M f lo pc2 ls (.int (if y then 1 else 0) :: st) u Q) : um_Ev cl AW L SX M f lo pc ls (b :: a :: .ref q :: st) σ Q := um_callV2 hd hp hI hL hf hlo hst hcon (fun r u z => by obtain ⟨b, rfl, z⟩ := z; exact h b u z)
theorem um_callS2i {a b : Value} (hd : decode M.2.1 pc = .ok (.invokestatic idx, 3)) (hp : pc + 3 = pc2) (hI : um_Is AW M.1.cls idx M2 2) (hf : f2 + 1 ≤ f) (hlo : 8 + (M2.2.2.1 + 11) + lo2 ≤ lo) (hst : (st.map fun v => v.category).sum ≤ 8) (hcon : um_Con cl AW L SX f2 lo2 M2 [a, b] σ (um_Qi Qi)) (h : ∀ x u, Qi x u → um_Ev cl AW L SX M f lo pc2 ls (.int x :: st) u Q) : um_Ev cl AW L SX M f lo pc ls (b :: a :: st) σ Q := um_callS2 hd hp hI hf hlo hst hcon (fun r u z => by obtain ⟨x, rfl, z⟩ := z; exact h x u z)
theorem um_callS2v {a b : Value} (hd : decode M.2.1 pc = .ok (.invokestatic idx, 3)) (hp : pc + 3 = pc2) (hI : um_Is AW M.1.cls idx M2 2) (hf : f2 + 1 ≤ f) (hlo : 8 + (M2.2.2.1 + 11) + lo2 ≤ lo) (hst : (st.map fun v => v.category).sum ≤ 8) (hcon : um_Con cl AW L SX f2 lo2 M2 [a, b] σ (um_Qv Qv)) (h : ∀ u, Qv u → um_Ev cl AW L SX M f lo pc2 ls st u Q) : um_Ev cl AW L SX M f lo pc ls (b :: a :: st) σ Q := um_callS2 hd hp hI hf hlo hst hcon (fun r u z => by obtain ⟨rfl, z⟩ := z; exact h u z)
theorem um_callS2z {a b : Value} (hd : decode M.2.1 pc = .ok (.invokestatic idx, 3)) (hp : pc + 3 = pc2) (hI : um_Is AW M.1.cls idx M2 2) (hf : f2 + 1 ≤ f) (hlo : 8 + (M2.2.2.1 + 11) + lo2 ≤ lo) (hst : (st.map fun v => v.category).sum ≤ 8) (hcon : um_Con cl AW L SX f2 lo2 M2 [a, b] σ (um_Qz Qz)) (h : ∀ y u, Qz y u → um_Ev cl AW L SX M f lo pc2 ls (.int (if y then 1 else 0) :: st) u Q) : um_Ev cl AW L SX M f lo pc ls (b :: a :: st) σ Q := um_callS2 hd hp hI hf hlo hst hcon (fun r u z => by obtain ⟨b, rfl, z⟩ := z; exact h b u z)
theorem um_callV3i {a b c : Value} (hd : decode M.2.1 pc = .ok (.invokevirtual idx, 3)) (hp : pc + 3 = pc2) (hI : um_Iv cl AW M.1.cls idx ci M2 3) (hL : L[q]? = some (.inl (ci, fs))) (hf : f2 + 1 ≤ f) (hlo : 8 + (M2.2.2.1 + 11) + lo2 ≤ lo) (hst : (st.map fun v => v.category).sum ≤ 8) (hcon : um_Con cl AW L SX f2 lo2 M2 [.ref q, a, b, c] σ (um_Qi Qi)) (h : ∀ x u, Qi x u → um_Ev cl AW L SX M f lo pc2 ls (.int x :: st) u Q) : um_Ev cl AW L SX M f lo pc ls (c :: b :: a :: .ref q :: st) σ Q := um_callV3 hd hp hI hL hf hlo hst hcon (fun r u z => by obtain ⟨x, rfl, z⟩ := z; exact h x u z)
theorem um_callV3v {a b c : Value} (hd : decode M.2.1 pc = .ok (.invokevirtual idx, 3)) (hp : pc + 3 = pc2) (hI : um_Iv cl AW M.1.cls idx ci M2 3) (hL : L[q]? = some (.inl (ci, fs))) (hf : f2 + 1 ≤ f) (hlo : 8 + (M2.2.2.1 + 11) + lo2 ≤ lo) (hst : (st.map fun v => v.category).sum ≤ 8) (hcon : um_Con cl AW L SX f2 lo2 M2 [.ref q, a, b, c] σ (um_Qv Qv)) (h : ∀ u, Qv u → um_Ev cl AW L SX M f lo pc2 ls st u Q) : um_Ev cl AW L SX M f lo pc ls (c :: b :: a :: .ref q :: st) σ Q := um_callV3 hd hp hI hL hf hlo hst hcon (fun r u z => by obtain ⟨rfl, z⟩ := z; exact h u z)
theorem um_callV3z {a b c : Value} (hd : decode M.2.1 pc = .ok (.invokevirtual idx, 3)) (hp : pc + 3 = pc2) (hI : um_Iv cl AW M.1.cls idx ci M2 3) (hL : L[q]? = some (.inl (ci, fs))) (hf : f2 + 1 ≤ f) (hlo : 8 + (M2.2.2.1 + 11) + lo2 ≤ lo) (hst : (st.map fun v => v.category).sum ≤ 8) (hcon : um_Con cl AW L SX f2 lo2 M2 [.ref q, a, b, c] σ (um_Qz Qz)) (h : ∀ y u, Qz y u → um_Ev cl AW L SX M f lo pc2 ls (.int (if y then 1 else 0) :: st) u Q) : um_Ev cl AW L SX M f lo pc ls (c :: b :: a :: .ref q :: st) σ Q := um_callV3 hd hp hI hL hf hlo hst hcon (fun r u z => by obtain ⟨b, rfl, z⟩ := z; exact h b u z)
theorem um_callS3i {a b c : Value} (hd : decode M.2.1 pc = .ok (.invokestatic idx, 3)) (hp : pc + 3 = pc2) (hI : um_Is AW M.1.cls idx M2 3) (hf : f2 + 1 ≤ f) (hlo : 8 + (M2.2.2.1 + 11) + lo2 ≤ lo) (hst : (st.map fun v => v.category).sum ≤ 8) (hcon : um_Con cl AW L SX f2 lo2 M2 [a, b, c] σ (um_Qi Qi)) (h : ∀ x u, Qi x u → um_Ev cl AW L SX M f lo pc2 ls (.int x :: st) u Q) : um_Ev cl AW L SX M f lo pc ls (c :: b :: a :: st) σ Q := um_callS3 hd hp hI hf hlo hst hcon (fun r u z => by obtain ⟨x, rfl, z⟩ := z; exact h x u z)
theorem um_callS3v {a b c : Value} (hd : decode M.2.1 pc = .ok (.invokestatic idx, 3)) (hp : pc + 3 = pc2) (hI : um_Is AW M.1.cls idx M2 3) (hf : f2 + 1 ≤ f) (hlo : 8 + (M2.2.2.1 + 11) + lo2 ≤ lo) (hst : (st.map fun v => v.category).sum ≤ 8) (hcon : um_Con cl AW L SX f2 lo2 M2 [a, b, c] σ (um_Qv Qv)) (h : ∀ u, Qv u → um_Ev cl AW L SX M f lo pc2 ls st u Q) : um_Ev cl AW L SX M f lo pc ls (c :: b :: a :: st) σ Q := um_callS3 hd hp hI hf hlo hst hcon (fun r u z => by obtain ⟨rfl, z⟩ := z; exact h u z)
theorem um_callS3z {a b c : Value} (hd : decode M.2.1 pc = .ok (.invokestatic idx, 3)) (hp : pc + 3 = pc2) (hI : um_Is AW M.1.cls idx M2 3) (hf : f2 + 1 ≤ f) (hlo : 8 + (M2.2.2.1 + 11) + lo2 ≤ lo) (hst : (st.map fun v => v.category).sum ≤ 8) (hcon : um_Con cl AW L SX f2 lo2 M2 [a, b, c] σ (um_Qz Qz)) (h : ∀ y u, Qz y u → um_Ev cl AW L SX M f lo pc2 ls (.int (if y then 1 else 0) :: st) u Q) : um_Ev cl AW L SX M f lo pc ls (c :: b :: a :: st) σ Q := um_callS3 hd hp hI hf hlo hst hcon (fun r u z => by obtain ⟨b, rfl, z⟩ := z; exact h b u z)
theorem um_callV4i {a b c d : Value} (hd : decode M.2.1 pc = .ok (.invokevirtual idx, 3)) (hp : pc + 3 = pc2) (hI : um_Iv cl AW M.1.cls idx ci M2 4) (hL : L[q]? = some (.inl (ci, fs))) (hf : f2 + 1 ≤ f) (hlo : 8 + (M2.2.2.1 + 11) + lo2 ≤ lo) (hst : (st.map fun v => v.category).sum ≤ 8) (hcon : um_Con cl AW L SX f2 lo2 M2 [.ref q, a, b, c, d] σ (um_Qi Qi)) (h : ∀ x u, Qi x u → um_Ev cl AW L SX M f lo pc2 ls (.int x :: st) u Q) : um_Ev cl AW L SX M f lo pc ls (d :: c :: b :: a :: .ref q :: st) σ Q := um_callV4 hd hp hI hL hf hlo hst hcon (fun r u z => by obtain ⟨x, rfl, z⟩ := z; exact h x u z)
theorem um_callV4v {a b c d : Value} (hd : decode M.2.1 pc = .ok (.invokevirtual idx, 3)) (hp : pc + 3 = pc2) (hI : um_Iv cl AW M.1.cls idx ci M2 4) (hL : L[q]? = some (.inl (ci, fs))) (hf : f2 + 1 ≤ f) (hlo : 8 + (M2.2.2.1 + 11) + lo2 ≤ lo) (hst : (st.map fun v => v.category).sum ≤ 8) (hcon : um_Con cl AW L SX f2 lo2 M2 [.ref q, a, b, c, d] σ (um_Qv Qv)) (h : ∀ u, Qv u → um_Ev cl AW L SX M f lo pc2 ls st u Q) : um_Ev cl AW L SX M f lo pc ls (d :: c :: b :: a :: .ref q :: st) σ Q := um_callV4 hd hp hI hL hf hlo hst hcon (fun r u z => by obtain ⟨rfl, z⟩ := z; exact h u z)
theorem um_callV4z {a b c d : Value} (hd : decode M.2.1 pc = .ok (.invokevirtual idx, 3)) (hp : pc + 3 = pc2) (hI : um_Iv cl AW M.1.cls idx ci M2 4) (hL : L[q]? = some (.inl (ci, fs))) (hf : f2 + 1 ≤ f) (hlo : 8 + (M2.2.2.1 + 11) + lo2 ≤ lo) (hst : (st.map fun v => v.category).sum ≤ 8) (hcon : um_Con cl AW L SX f2 lo2 M2 [.ref q, a, b, c, d] σ (um_Qz Qz)) (h : ∀ y u, Qz y u → um_Ev cl AW L SX M f lo pc2 ls (.int (if y then 1 else 0) :: st) u Q) : um_Ev cl AW L SX M f lo pc ls (d :: c :: b :: a :: .ref q :: st) σ Q := um_callV4 hd hp hI hL hf hlo hst hcon (fun r u z => by obtain ⟨b, rfl, z⟩ := z; exact h b u z)
theorem um_callS4i {a b c d : Value} (hd : decode M.2.1 pc = .ok (.invokestatic idx, 3)) (hp : pc + 3 = pc2) (hI : um_Is AW M.1.cls idx M2 4) (hf : f2 + 1 ≤ f) (hlo : 8 + (M2.2.2.1 + 11) + lo2 ≤ lo) (hst : (st.map fun v => v.category).sum ≤ 8) (hcon : um_Con cl AW L SX f2 lo2 M2 [a, b, c, d] σ (um_Qi Qi)) (h : ∀ x u, Qi x u → um_Ev cl AW L SX M f lo pc2 ls (.int x :: st) u Q) : um_Ev cl AW L SX M f lo pc ls (d :: c :: b :: a :: st) σ Q := um_callS4 hd hp hI hf hlo hst hcon (fun r u z => by obtain ⟨x, rfl, z⟩ := z; exact h x u z)
theorem um_callS4v {a b c d : Value} (hd : decode M.2.1 pc = .ok (.invokestatic idx, 3)) (hp : pc + 3 = pc2) (hI : um_Is AW M.1.cls idx M2 4) (hf : f2 + 1 ≤ f) (hlo : 8 + (M2.2.2.1 + 11) + lo2 ≤ lo) (hst : (st.map fun v => v.category).sum ≤ 8) (hcon : um_Con cl AW L SX f2 lo2 M2 [a, b, c, d] σ (um_Qv Qv)) (h : ∀ u, Qv u → um_Ev cl AW L SX M f lo pc2 ls st u Q) : um_Ev cl AW L SX M f lo pc ls (d :: c :: b :: a :: st) σ Q := um_callS4 hd hp hI hf hlo hst hcon (fun r u z => by obtain ⟨rfl, z⟩ := z; exact h u z)
theorem um_callS4z {a b c d : Value} (hd : decode M.2.1 pc = .ok (.invokestatic idx, 3)) (hp : pc + 3 = pc2) (hI : um_Is AW M.1.cls idx M2 4) (hf : f2 + 1 ≤ f) (hlo : 8 + (M2.2.2.1 + 11) + lo2 ≤ lo) (hst : (st.map fun v => v.category).sum ≤ 8) (hcon : um_Con cl AW L SX f2 lo2 M2 [a, b, c, d] σ (um_Qz Qz)) (h : ∀ y u, Qz y u → um_Ev cl AW L SX M f lo pc2 ls (.int (if y then 1 else 0) :: st) u Q) : um_Ev cl AW L SX M f lo pc ls (d :: c :: b :: a :: st) σ Q := um_callS4 hd hp hI hf hlo hst hcon (fun r u z => by obtain ⟨b, rfl, z⟩ := z; exact h b u z)
theorem um_callV5i {a b c d e : Value} (hd : decode M.2.1 pc = .ok (.invokevirtual idx, 3)) (hp : pc + 3 = pc2) (hI : um_Iv cl AW M.1.cls idx ci M2 5) (hL : L[q]? = some (.inl (ci, fs))) (hf : f2 + 1 ≤ f) (hlo : 8 + (M2.2.2.1 + 11) + lo2 ≤ lo) (hst : (st.map fun v => v.category).sum ≤ 8) (hcon : um_Con cl AW L SX f2 lo2 M2 [.ref q, a, b, c, d, e] σ (um_Qi Qi)) (h : ∀ x u, Qi x u → um_Ev cl AW L SX M f lo pc2 ls (.int x :: st) u Q) : um_Ev cl AW L SX M f lo pc ls (e :: d :: c :: b :: a :: .ref q :: st) σ Q := um_callV5 hd hp hI hL hf hlo hst hcon (fun r u z => by obtain ⟨x, rfl, z⟩ := z; exact h x u z)
theorem um_callV5v {a b c d e : Value} (hd : decode M.2.1 pc = .ok (.invokevirtual idx, 3)) (hp : pc + 3 = pc2) (hI : um_Iv cl AW M.1.cls idx ci M2 5) (hL : L[q]? = some (.inl (ci, fs))) (hf : f2 + 1 ≤ f) (hlo : 8 + (M2.2.2.1 + 11) + lo2 ≤ lo) (hst : (st.map fun v => v.category).sum ≤ 8) (hcon : um_Con cl AW L SX f2 lo2 M2 [.ref q, a, b, c, d, e] σ (um_Qv Qv)) (h : ∀ u, Qv u → um_Ev cl AW L SX M f lo pc2 ls st u Q) : um_Ev cl AW L SX M f lo pc ls (e :: d :: c :: b :: a :: .ref q :: st) σ Q := um_callV5 hd hp hI hL hf hlo hst hcon (fun r u z => by obtain ⟨rfl, z⟩ := z; exact h u z)
theorem um_callV5z {a b c d e : Value} (hd : decode M.2.1 pc = .ok (.invokevirtual idx, 3)) (hp : pc + 3 = pc2) (hI : um_Iv cl AW M.1.cls idx ci M2 5) (hL : L[q]? = some (.inl (ci, fs))) (hf : f2 + 1 ≤ f) (hlo : 8 + (M2.2.2.1 + 11) + lo2 ≤ lo) (hst : (st.map fun v => v.category).sum ≤ 8) (hcon : um_Con cl AW L SX f2 lo2 M2 [.ref q, a, b, c, d, e] σ (um_Qz Qz)) (h : ∀ y u, Qz y u → um_Ev cl AW L SX M f lo pc2 ls (.int (if y then 1 else 0) :: st) u Q) : um_Ev cl AW L SX M f lo pc ls (e :: d :: c :: b :: a :: .ref q :: st) σ Q := um_callV5 hd hp hI hL hf hlo hst hcon (fun r u z => by obtain ⟨b, rfl, z⟩ := z; exact h b u z)
theorem um_callS5i {a b c d e : Value} (hd : decode M.2.1 pc = .ok (.invokestatic idx, 3)) (hp : pc + 3 = pc2) (hI : um_Is AW M.1.cls idx M2 5) (hf : f2 + 1 ≤ f) (hlo : 8 + (M2.2.2.1 + 11) + lo2 ≤ lo) (hst : (st.map fun v => v.category).sum ≤ 8) (hcon : um_Con cl AW L SX f2 lo2 M2 [a, b, c, d, e] σ (um_Qi Qi)) (h : ∀ x u, Qi x u → um_Ev cl AW L SX M f lo pc2 ls (.int x :: st) u Q) : um_Ev cl AW L SX M f lo pc ls (e :: d :: c :: b :: a :: st) σ Q := um_callS5 hd hp hI hf hlo hst hcon (fun r u z => by obtain ⟨x, rfl, z⟩ := z; exact h x u z)
theorem um_callS5v {a b c d e : Value} (hd : decode M.2.1 pc = .ok (.invokestatic idx, 3)) (hp : pc + 3 = pc2) (hI : um_Is AW M.1.cls idx M2 5) (hf : f2 + 1 ≤ f) (hlo : 8 + (M2.2.2.1 + 11) + lo2 ≤ lo) (hst : (st.map fun v => v.category).sum ≤ 8) (hcon : um_Con cl AW L SX f2 lo2 M2 [a, b, c, d, e] σ (um_Qv Qv)) (h : ∀ u, Qv u → um_Ev cl AW L SX M f lo pc2 ls st u Q) : um_Ev cl AW L SX M f lo pc ls (e :: d :: c :: b :: a :: st) σ Q := um_callS5 hd hp hI hf hlo hst hcon (fun r u z => by obtain ⟨rfl, z⟩ := z; exact h u z)
theorem um_callS5z {a b c d e : Value} (hd : decode M.2.1 pc = .ok (.invokestatic idx, 3)) (hp : pc + 3 = pc2) (hI : um_Is AW M.1.cls idx M2 5) (hf : f2 + 1 ≤ f) (hlo : 8 + (M2.2.2.1 + 11) + lo2 ≤ lo) (hst : (st.map fun v => v.category).sum ≤ 8) (hcon : um_Con cl AW L SX f2 lo2 M2 [a, b, c, d, e] σ (um_Qz Qz)) (h : ∀ y u, Qz y u → um_Ev cl AW L SX M f lo pc2 ls (.int (if y then 1 else 0) :: st) u Q) : um_Ev cl AW L SX M f lo pc ls (e :: d :: c :: b :: a :: st) σ Q := um_callS5 hd hp hI hf hlo hst hcon (fun r u z => by obtain ⟨b, rfl, z⟩ := z; exact h b u z)
theorem um_callV6i {a b c d e g : Value} (hd : decode M.2.1 pc = .ok (.invokevirtual idx, 3)) (hp : pc + 3 = pc2) (hI : um_Iv cl AW M.1.cls idx ci M2 6) (hL : L[q]? = some (.inl (ci, fs))) (hf : f2 + 1 ≤ f) (hlo : 8 + (M2.2.2.1 + 11) + lo2 ≤ lo) (hst : (st.map fun v => v.category).sum ≤ 8) (hcon : um_Con cl AW L SX f2 lo2 M2 [.ref q, a, b, c, d, e, g] σ (um_Qi Qi)) (h : ∀ x u, Qi x u → um_Ev cl AW L SX M f lo pc2 ls (.int x :: st) u Q) : um_Ev cl AW L SX M f lo pc ls (g :: e :: d :: c :: b :: a :: .ref q :: st) σ Q := um_callV6 hd hp hI hL hf hlo hst hcon (fun r u z => by obtain ⟨x, rfl, z⟩ := z; exact h x u z)
theorem um_callV6v {a b c d e g : Value} (hd : decode M.2.1 pc = .ok (.invokevirtual idx, 3)) (hp : pc + 3 = pc2) (hI : um_Iv cl AW M.1.cls idx ci M2 6) (hL : L[q]? = some (.inl (ci, fs))) (hf : f2 + 1 ≤ f) (hlo : 8 + (M2.2.2.1 + 11) + lo2 ≤ lo) (hst : (st.map fun v => v.category).sum ≤ 8) (hcon : um_Con cl AW L SX f2 lo2 M2 [.ref q, a, b, c, d, e, g] σ (um_Qv Qv)) (h : ∀ u, Qv u → um_Ev cl AW L SX M f lo pc2 ls st u Q) : um_Ev cl AW L SX M f lo pc ls (g :: e :: d :: c :: b :: a :: .ref q :: st) σ Q := um_callV6 hd hp hI hL hf hlo hst hcon (fun r u z => by obtain ⟨rfl, z⟩ := z; exact h u z)
theorem um_callV6z {a b c d e g : Value} (hd : decode M.2.1 pc = .ok (.invokevirtual idx, 3)) (hp : pc + 3 = pc2) (hI : um_Iv cl AW M.1.cls idx ci M2 6) (hL : L[q]? = some (.inl (ci, fs))) (hf : f2 + 1 ≤ f) (hlo : 8 + (M2.2.2.1 + 11) + lo2 ≤ lo) (hst : (st.map fun v => v.category).sum ≤ 8) (hcon : um_Con cl AW L SX f2 lo2 M2 [.ref q, a, b, c, d, e, g] σ (um_Qz Qz)) (h : ∀ y u, Qz y u → um_Ev cl AW L SX M f lo pc2 ls (.int (if y then 1 else 0) :: st) u Q) : um_Ev cl AW L SX M f lo pc ls (g :: e :: d :: c :: b :: a :: .ref q :: st) σ Q := um_callV6 hd hp hI hL hf hlo hst hcon (fun r u z => by obtain ⟨b, rfl, z⟩ := z; exact h b u z)
theorem um_callS6i {a b c d e g : Value} (hd : decode M.2.1 pc = .ok (.invokestatic idx, 3)) (hp : pc + 3 = pc2) (hI : um_Is AW M.1.cls idx M2 6) (hf : f2 + 1 ≤ f) (hlo : 8 + (M2.2.2.1 + 11) + lo2 ≤ lo) (hst : (st.map fun v => v.category).sum ≤ 8) (hcon : um_Con cl AW L SX f2 lo2 M2 [a, b, c, d, e, g] σ (um_Qi Qi)) (h : ∀ x u, Qi x u → um_Ev cl AW L SX M f lo pc2 ls (.int x :: st) u Q) : um_Ev cl AW L SX M f lo pc ls (g :: e :: d :: c :: b :: a :: st) σ Q := um_callS6 hd hp hI hf hlo hst hcon (fun r u z => by obtain ⟨x, rfl, z⟩ := z; exact h x u z)
theorem um_callS6v {a b c d e g : Value} (hd : decode M.2.1 pc = .ok (.invokestatic idx, 3)) (hp : pc + 3 = pc2) (hI : um_Is AW M.1.cls idx M2 6) (hf : f2 + 1 ≤ f) (hlo : 8 + (M2.2.2.1 + 11) + lo2 ≤ lo) (hst : (st.map fun v => v.category).sum ≤ 8) (hcon : um_Con cl AW L SX f2 lo2 M2 [a, b, c, d, e, g] σ (um_Qv Qv)) (h : ∀ u, Qv u → um_Ev cl AW L SX M f lo pc2 ls st u Q) : um_Ev cl AW L SX M f lo pc ls (g :: e :: d :: c :: b :: a :: st) σ Q := um_callS6 hd hp hI hf hlo hst hcon (fun r u z => by obtain ⟨rfl, z⟩ := z; exact h u z)
theorem um_callS6z {a b c d e g : Value} (hd : decode M.2.1 pc = .ok (.invokestatic idx, 3)) (hp : pc + 3 = pc2) (hI : um_Is AW M.1.cls idx M2 6) (hf : f2 + 1 ≤ f) (hlo : 8 + (M2.2.2.1 + 11) + lo2 ≤ lo) (hst : (st.map fun v => v.category).sum ≤ 8) (hcon : um_Con cl AW L SX f2 lo2 M2 [a, b, c, d, e, g] σ (um_Qz Qz)) (h : ∀ y u, Qz y u → um_Ev cl AW L SX M f lo pc2 ls (.int (if y then 1 else 0) :: st) u Q) : um_Ev cl AW L SX M f lo pc ls (g :: e :: d :: c :: b :: a :: st) σ Q := um_callS6 hd hp hI hf hlo hst hcon (fun r u z => by obtain ⟨b, rfl, z⟩ := z; exact h b u z)
end UmCallK
end
section
-- ===== PART A: goes FIRST, ahead of the names: the tables' words, and 'selects' of the private methods out of them =====
/-- a private method of a class that the tables say can be made, by its rows of tables_1 -/
def lw_okq (q : MethodName × Nat) : Prop := (q.1.cls ≠ "java/lang/invoke/MethodHandle" ∧ q.1.cls ≠ "java/lang/invoke/VarHandle") ∧ Cond.instantiable q.1.cls q.2 ∈ tables_1 ∧ Cond.privateMethod q.1 ∈ tables_1 ∧ Cond.instanceMethod q.1 ∈ tables_1
theorem lw_p0 : lw_okq (⟨"UnwindMill$Tree", "fits", "(II)Z"⟩, 4) := ⟨⟨by decide +kernel, by decide +kernel⟩, List.mem_of_getElem? (i := 26) (by decide +kernel), List.mem_of_getElem? (i := 300) (by decide +kernel), List.mem_of_getElem? (i := 301) (by decide +kernel)⟩
theorem lw_p1 : lw_okq (⟨"UnwindMill$Layer", "layFunction", "(I)V"⟩, 9) := ⟨⟨by decide +kernel, by decide +kernel⟩, List.mem_of_getElem? (i := 105) (by decide +kernel), List.mem_of_getElem? (i := 342) (by decide +kernel), List.mem_of_getElem? (i := 343) (by decide +kernel)⟩
theorem lw_p2 : lw_okq (⟨"UnwindMill$Layer", "begin", "(II)V"⟩, 9) := ⟨⟨by decide +kernel, by decide +kernel⟩, List.mem_of_getElem? (i := 105) (by decide +kernel), List.mem_of_getElem? (i := 346) (by decide +kernel), List.mem_of_getElem? (i := 347) (by decide +kernel)⟩
theorem lw_p3 : lw_okq (⟨"UnwindMill$Layer", "takeTurns", "()V"⟩, 9) := ⟨⟨by decide +kernel, by decide +kernel⟩, List.mem_of_getElem? (i := 105) (by decide +kernel), List.mem_of_getElem? (i := 354) (by decide +kernel), List.mem_of_getElem? (i := 355) (by decide +kernel)⟩
theorem lw_p4 : lw_okq (⟨"UnwindMill$Layer", "turnIf", "(III)V"⟩, 9) := ⟨⟨by decide +kernel, by decide +kernel⟩, List.mem_of_getElem? (i := 105) (by decide +kernel), List.mem_of_getElem? (i := 360) (by decide +kernel), List.mem_of_getElem? (i := 361) (by decide +kernel)⟩
theorem lw_p5 : lw_okq (⟨"UnwindMill$Layer", "emit", "(III)V"⟩, 9) := ⟨⟨by decide +kernel, by decide +kernel⟩, List.mem_of_getElem? (i := 105) (by decide +kernel), List.mem_of_getElem? (i := 368) (by decide +kernel), List.mem_of_getElem? (i := 369) (by decide +kernel)⟩
theorem lw_p6 : lw_okq (⟨"UnwindMill$Layer", "setGoal", "(II)V"⟩, 9) := ⟨⟨by decide +kernel, by decide +kernel⟩, List.mem_of_getElem? (i := 105) (by decide +kernel), List.mem_of_getElem? (i := 372) (by decide +kernel), List.mem_of_getElem? (i := 373) (by decide +kernel)⟩
theorem lw_p7 : lw_okq (⟨"UnwindMill$Layer", "turnWhile", "(III)V"⟩, 9) := ⟨⟨by decide +kernel, by decide +kernel⟩, List.mem_of_getElem? (i := 105) (by decide +kernel), List.mem_of_getElem? (i := 380) (by decide +kernel), List.mem_of_getElem? (i := 381) (by decide +kernel)⟩
theorem lw_p8 : lw_okq (⟨"UnwindMill$Scopes", "open", "(I)I"⟩, 10) := ⟨⟨by decide +kernel, by decide +kernel⟩, List.mem_of_getElem? (i := 111) (by decide +kernel), List.mem_of_getElem? (i := 388) (by decide +kernel), List.mem_of_getElem? (i := 389) (by decide +kernel)⟩
theorem lw_p9 : lw_okq (⟨"UnwindMill$Layer", "finish", "(III)V"⟩, 9) := ⟨⟨by decide +kernel, by decide +kernel⟩, List.mem_of_getElem? (i := 105) (by decide +kernel), List.mem_of_getElem? (i := 402) (by decide +kernel), List.mem_of_getElem? (i := 403) (by decide +kernel)⟩
theorem lw_p10 : lw_okq (⟨"UnwindMill$Layer", "turnReturn", "(I)V"⟩, 9) := ⟨⟨by decide +kernel, by decide +kernel⟩, List.mem_of_getElem? (i := 105) (by decide +kernel), List.mem_of_getElem? (i := 406) (by decide +kernel), List.mem_of_getElem? (i := 407) (by decide +kernel)⟩
theorem lw_p11 : lw_okq (⟨"UnwindMill$Layer", "leave", "(II)V"⟩, 9) := ⟨⟨by decide +kernel, by decide +kernel⟩, List.mem_of_getElem? (i := 105) (by decide +kernel), List.mem_of_getElem? (i := 417) (by decide +kernel), List.mem_of_getElem? (i := 418) (by decide +kernel)⟩
theorem lw_p12 : lw_okq (⟨"UnwindMill$Layer", "turnBreak", "(I)V"⟩, 9) := ⟨⟨by decide +kernel, by decide +kernel⟩, List.mem_of_getElem? (i := 105) (by decide +kernel), List.mem_of_getElem? (i := 421) (by decide +kernel), List.mem_of_getElem? (i := 422) (by decide +kernel)⟩
theorem lw_p13 : lw_okq (⟨"UnwindMill$Layer", "turnTry", "(III)V"⟩, 9) := ⟨⟨by decide +kernel, by decide +kernel⟩, List.mem_of_getElem? (i := 105) (by decide +kernel), List.mem_of_getElem? (i := 425) (by decide +kernel), List.mem_of_getElem? (i := 426) (by decide +kernel)⟩
theorem lw_p14 : lw_okq (⟨"UnwindMill$Layer", "beginFinally", "(I)V"⟩, 9) := ⟨⟨by decide +kernel, by decide +kernel⟩, List.mem_of_getElem? (i := 105) (by decide +kernel), List.mem_of_getElem? (i := 433) (by decide +kernel), List.mem_of_getElem? (i := 434) (by decide +kernel)⟩
theorem lw_p15 : lw_okq (⟨"UnwindMill$Layer", "setDone", "(I)V"⟩, 9) := ⟨⟨by decide +kernel, by decide +kernel⟩, List.mem_of_getElem? (i := 105) (by decide +kernel), List.mem_of_getElem? (i := 437) (by decide +kernel), List.mem_of_getElem? (i := 438) (by decide +kernel)⟩
def lw_privs_1 : List (MethodName × Nat) := [(⟨"UnwindMill$Tree", "fits", "(II)Z"⟩, 4), (⟨"UnwindMill$Layer", "layFunction", "(I)V"⟩, 9), (⟨"UnwindMill$Layer", "begin", "(II)V"⟩, 9), (⟨"UnwindMill$Layer", "takeTurns", "()V"⟩, 9), (⟨"UnwindMill$Layer", "turnIf", "(III)V"⟩, 9), (⟨"UnwindMill$Layer", "emit", "(III)V"⟩, 9), (⟨"UnwindMill$Layer", "setGoal", "(II)V"⟩, 9), (⟨"UnwindMill$Layer", "turnWhile", "(III)V"⟩, 9), (⟨"UnwindMill$Scopes", "open", "(I)I"⟩, 10), (⟨"UnwindMill$Layer", "finish", "(III)V"⟩, 9), (⟨"UnwindMill$Layer", "turnReturn", "(I)V"⟩, 9), (⟨"UnwindMill$Layer", "leave", "(II)V"⟩, 9), (⟨"UnwindMill$Layer", "turnBreak", "(I)V"⟩, 9), (⟨"UnwindMill$Layer", "turnTry", "(III)V"⟩, 9), (⟨"UnwindMill$Layer", "beginFinally", "(I)V"⟩, 9), (⟨"UnwindMill$Layer", "setDone", "(I)V"⟩, 9)]
theorem lw_r1 : ∀ q ∈ lw_privs_1, lw_okq q := List.forall_mem_cons.mpr ⟨lw_p0, List.forall_mem_cons.mpr ⟨lw_p1, List.forall_mem_cons.mpr ⟨lw_p2, List.forall_mem_cons.mpr ⟨lw_p3, List.forall_mem_cons.mpr ⟨lw_p4, List.forall_mem_cons.mpr ⟨lw_p5, List.forall_mem_cons.mpr ⟨lw_p6, List.forall_mem_cons.mpr ⟨lw_p7, List.forall_mem_cons.mpr ⟨lw_p8, List.forall_mem_cons.mpr ⟨lw_p9, List.forall_mem_cons.mpr ⟨lw_p10, List.forall_mem_cons.mpr ⟨lw_p11, List.forall_mem_cons.mpr ⟨lw_p12, List.forall_mem_cons.mpr ⟨lw_p13, List.forall_mem_cons.mpr ⟨lw_p14, List.forall_mem_cons.mpr ⟨lw_p15, fun _ h => absurd h List.not_mem_nil⟩⟩⟩⟩⟩⟩⟩⟩⟩⟩⟩⟩⟩⟩⟩⟩
theorem lw_p16 : lw_okq (⟨"UnwindMill$Layer", "turnApart", "(II)V"⟩, 9) := ⟨⟨by decide +kernel, by decide +kernel⟩, List.mem_of_getElem? (i := 105) (by decide +kernel), List.mem_of_getElem? (i := 441) (by decide +kernel), List.mem_of_getElem? (i := 442) (by decide +kernel)⟩
theorem lw_p17 : lw_okq (⟨"UnwindMill$Layer", "beginCatch", "(II)V"⟩, 9) := ⟨⟨by decide +kernel, by decide +kernel⟩, List.mem_of_getElem? (i := 105) (by decide +kernel), List.mem_of_getElem? (i := 445) (by decide +kernel), List.mem_of_getElem? (i := 446) (by decide +kernel)⟩
theorem lw_p18 : lw_okq (⟨"UnwindMill$Layer", "beginAny", "(I)V"⟩, 9) := ⟨⟨by decide +kernel, by decide +kernel⟩, List.mem_of_getElem? (i := 105) (by decide +kernel), List.mem_of_getElem? (i := 461) (by decide +kernel), List.mem_of_getElem? (i := 462) (by decide +kernel)⟩
theorem lw_p19 : lw_okq (⟨"UnwindMill$Layer", "turnPlain", "(III)V"⟩, 9) := ⟨⟨by decide +kernel, by decide +kernel⟩, List.mem_of_getElem? (i := 105) (by decide +kernel), List.mem_of_getElem? (i := 468) (by decide +kernel), List.mem_of_getElem? (i := 469) (by decide +kernel)⟩
theorem lw_p20 : lw_okq (⟨"UnwindMill$Layer", "partsThen", "(IIIIII)V"⟩, 9) := ⟨⟨by decide +kernel, by decide +kernel⟩, List.mem_of_getElem? (i := 105) (by decide +kernel), List.mem_of_getElem? (i := 472) (by decide +kernel), List.mem_of_getElem? (i := 473) (by decide +kernel)⟩
theorem lw_p21 : lw_okq (⟨"UnwindMill$Layer", "addRows", "(I)V"⟩, 9) := ⟨⟨by decide +kernel, by decide +kernel⟩, List.mem_of_getElem? (i := 105) (by decide +kernel), List.mem_of_getElem? (i := 476) (by decide +kernel), List.mem_of_getElem? (i := 477) (by decide +kernel)⟩
theorem lw_p22 : lw_okq (⟨"UnwindMill$Layer", "takesFrom", "(II)Z"⟩, 9) := ⟨⟨by decide +kernel, by decide +kernel⟩, List.mem_of_getElem? (i := 105) (by decide +kernel), List.mem_of_getElem? (i := 488) (by decide +kernel), List.mem_of_getElem? (i := 489) (by decide +kernel)⟩
theorem lw_p23 : lw_okq (⟨"UnwindMill$Layer", "addRow", "(III)V"⟩, 9) := ⟨⟨by decide +kernel, by decide +kernel⟩, List.mem_of_getElem? (i := 105) (by decide +kernel), List.mem_of_getElem? (i := 493) (by decide +kernel), List.mem_of_getElem? (i := 494) (by decide +kernel)⟩
theorem lw_p24 : lw_okq (⟨"UnwindMill$Layer", "settleGoals", "()V"⟩, 9) := ⟨⟨by decide +kernel, by decide +kernel⟩, List.mem_of_getElem? (i := 105) (by decide +kernel), List.mem_of_getElem? (i := 499) (by decide +kernel), List.mem_of_getElem? (i := 500) (by decide +kernel)⟩
theorem lw_p25 : lw_okq (⟨"UnwindMill$Machine", "doStep", "()V"⟩, 11) := ⟨⟨by decide +kernel, by decide +kernel⟩, List.mem_of_getElem? (i := 233) (by decide +kernel), List.mem_of_getElem? (i := 525) (by decide +kernel), List.mem_of_getElem? (i := 526) (by decide +kernel)⟩
theorem lw_p26 : lw_okq (⟨"UnwindMill$Machine", "pull", "()I"⟩, 11) := ⟨⟨by decide +kernel, by decide +kernel⟩, List.mem_of_getElem? (i := 233) (by decide +kernel), List.mem_of_getElem? (i := 529) (by decide +kernel), List.mem_of_getElem? (i := 530) (by decide +kernel)⟩
theorem lw_p27 : lw_okq (⟨"UnwindMill$Machine", "raise", "(I)V"⟩, 11) := ⟨⟨by decide +kernel, by decide +kernel⟩, List.mem_of_getElem? (i := 233) (by decide +kernel), List.mem_of_getElem? (i := 533) (by decide +kernel), List.mem_of_getElem? (i := 534) (by decide +kernel)⟩
theorem lw_p28 : lw_okq (⟨"UnwindMill$Machine", "push", "(I)V"⟩, 11) := ⟨⟨by decide +kernel, by decide +kernel⟩, List.mem_of_getElem? (i := 233) (by decide +kernel), List.mem_of_getElem? (i := 541) (by decide +kernel), List.mem_of_getElem? (i := 542) (by decide +kernel)⟩
theorem lw_p29 : lw_okq (⟨"UnwindMill$Machine", "enter", "(I)V"⟩, 11) := ⟨⟨by decide +kernel, by decide +kernel⟩, List.mem_of_getElem? (i := 233) (by decide +kernel), List.mem_of_getElem? (i := 545) (by decide +kernel), List.mem_of_getElem? (i := 546) (by decide +kernel)⟩
theorem lw_p30 : lw_okq (⟨"UnwindMill$Machine", "goBack", "()V"⟩, 11) := ⟨⟨by decide +kernel, by decide +kernel⟩, List.mem_of_getElem? (i := 233) (by decide +kernel), List.mem_of_getElem? (i := 550) (by decide +kernel), List.mem_of_getElem? (i := 551) (by decide +kernel)⟩
theorem lw_p31 : lw_okq (⟨"UnwindMill$Machine", "placeOf", "(I)I"⟩, 11) := ⟨⟨by decide +kernel, by decide +kernel⟩, List.mem_of_getElem? (i := 233) (by decide +kernel), List.mem_of_getElem? (i := 554) (by decide +kernel), List.mem_of_getElem? (i := 555) (by decide +kernel)⟩
def lw_privs_2 : List (MethodName × Nat) := [(⟨"UnwindMill$Layer", "turnApart", "(II)V"⟩, 9), (⟨"UnwindMill$Layer", "beginCatch", "(II)V"⟩, 9), (⟨"UnwindMill$Layer", "beginAny", "(I)V"⟩, 9), (⟨"UnwindMill$Layer", "turnPlain", "(III)V"⟩, 9), (⟨"UnwindMill$Layer", "partsThen", "(IIIIII)V"⟩, 9), (⟨"UnwindMill$Layer", "addRows", "(I)V"⟩, 9), (⟨"UnwindMill$Layer", "takesFrom", "(II)Z"⟩, 9), (⟨"UnwindMill$Layer", "addRow", "(III)V"⟩, 9), (⟨"UnwindMill$Layer", "settleGoals", "()V"⟩, 9), (⟨"UnwindMill$Machine", "doStep", "()V"⟩, 11), (⟨"UnwindMill$Machine", "pull", "()I"⟩, 11), (⟨"UnwindMill$Machine", "raise", "(I)V"⟩, 11), (⟨"UnwindMill$Machine", "push", "(I)V"⟩, 11), (⟨"UnwindMill$Machine", "enter", "(I)V"⟩, 11), (⟨"UnwindMill$Machine", "goBack", "()V"⟩, 11), (⟨"UnwindMill$Machine", "placeOf", "(I)I"⟩, 11)]
theorem lw_r2 : ∀ q ∈ lw_privs_2, lw_okq q := List.forall_mem_cons.mpr ⟨lw_p16, List.forall_mem_cons.mpr ⟨lw_p17, List.forall_mem_cons.mpr ⟨lw_p18, List.forall_mem_cons.mpr ⟨lw_p19, List.forall_mem_cons.mpr ⟨lw_p20, List.forall_mem_cons.mpr ⟨lw_p21, List.forall_mem_cons.mpr ⟨lw_p22, List.forall_mem_cons.mpr ⟨lw_p23, List.forall_mem_cons.mpr ⟨lw_p24, List.forall_mem_cons.mpr ⟨lw_p25, List.forall_mem_cons.mpr ⟨lw_p26, List.forall_mem_cons.mpr ⟨lw_p27, List.forall_mem_cons.mpr ⟨lw_p28, List.forall_mem_cons.mpr ⟨lw_p29, List.forall_mem_cons.mpr ⟨lw_p30, List.forall_mem_cons.mpr ⟨lw_p31, fun _ h => absurd h List.not_mem_nil⟩⟩⟩⟩⟩⟩⟩⟩⟩⟩⟩⟩⟩⟩⟩⟩
theorem lw_p32 : lw_okq (⟨"UnwindMill$Machine", "doStraight", "(II)V"⟩, 11) := ⟨⟨by decide +kernel, by decide +kernel⟩, List.mem_of_getElem? (i := 233) (by decide +kernel), List.mem_of_getElem? (i := 558) (by decide +kernel), List.mem_of_getElem? (i := 559) (by decide +kernel)⟩
theorem lw_p33 : lw_okq (⟨"UnwindMill$Machine", "putOut", "(I)V"⟩, 11) := ⟨⟨by decide +kernel, by decide +kernel⟩, List.mem_of_getElem? (i := 233) (by decide +kernel), List.mem_of_getElem? (i := 562) (by decide +kernel), List.mem_of_getElem? (i := 563) (by decide +kernel)⟩
theorem lw_p34 : lw_okq (⟨"java/lang/Throwable", "fillInStackTrace", "(I)Ljava/lang/Throwable;"⟩, 6) := ⟨⟨by decide +kernel, by decide +kernel⟩, List.mem_of_getElem? (i := 628) (by decide +kernel), List.mem_of_getElem? (i := 626) (by decide +kernel), List.mem_of_getElem? (i := 627) (by decide +kernel)⟩
theorem lw_p35 : lw_okq (⟨"UnwindMillModel", "can", "(IIIII)Z"⟩, 58) := ⟨⟨by decide +kernel, by decide +kernel⟩, List.mem_of_getElem? (i := 683) (by decide +kernel), List.mem_of_getElem? (i := 872) (by decide +kernel), List.mem_of_getElem? (i := 873) (by decide +kernel)⟩
theorem lw_p36 : lw_okq (⟨"UnwindMillModel", "isExpression", "(I)Z"⟩, 58) := ⟨⟨by decide +kernel, by decide +kernel⟩, List.mem_of_getElem? (i := 683) (by decide +kernel), List.mem_of_getElem? (i := 879) (by decide +kernel), List.mem_of_getElem? (i := 880) (by decide +kernel)⟩
theorem lw_p37 : lw_okq (⟨"UnwindMillModel", "isThere", "(III)Z"⟩, 58) := ⟨⟨by decide +kernel, by decide +kernel⟩, List.mem_of_getElem? (i := 683) (by decide +kernel), List.mem_of_getElem? (i := 883) (by decide +kernel), List.mem_of_getElem? (i := 884) (by decide +kernel)⟩
theorem lw_p38 : lw_okq (⟨"UnwindMillModel", "isStatement", "(I)Z"⟩, 58) := ⟨⟨by decide +kernel, by decide +kernel⟩, List.mem_of_getElem? (i := 683) (by decide +kernel), List.mem_of_getElem? (i := 887) (by decide +kernel), List.mem_of_getElem? (i := 888) (by decide +kernel)⟩
theorem lw_p39 : lw_okq (⟨"UnwindMillModel", "isCatch", "(I)Z"⟩, 58) := ⟨⟨by decide +kernel, by decide +kernel⟩, List.mem_of_getElem? (i := 683) (by decide +kernel), List.mem_of_getElem? (i := 891) (by decide +kernel), List.mem_of_getElem? (i := 892) (by decide +kernel)⟩
theorem lw_p40 : lw_okq (⟨"UnwindMillModel", "adds", "(IIIII)I"⟩, 58) := ⟨⟨by decide +kernel, by decide +kernel⟩, List.mem_of_getElem? (i := 683) (by decide +kernel), List.mem_of_getElem? (i := 895) (by decide +kernel), List.mem_of_getElem? (i := 896) (by decide +kernel)⟩
theorem lw_p41 : lw_okq (⟨"UnwindMillModel", "laysAll", "()V"⟩, 58) := ⟨⟨by decide +kernel, by decide +kernel⟩, List.mem_of_getElem? (i := 683) (by decide +kernel), List.mem_of_getElem? (i := 911) (by decide +kernel), List.mem_of_getElem? (i := 912) (by decide +kernel)⟩
theorem lw_p42 : lw_okq (⟨"UnwindMillModel", "begin", "(IIII)V"⟩, 58) := ⟨⟨by decide +kernel, by decide +kernel⟩, List.mem_of_getElem? (i := 683) (by decide +kernel), List.mem_of_getElem? (i := 915) (by decide +kernel), List.mem_of_getElem? (i := 916) (by decide +kernel)⟩
theorem lw_p43 : lw_okq (⟨"UnwindMillModel", "goesOn", "()V"⟩, 58) := ⟨⟨by decide +kernel, by decide +kernel⟩, List.mem_of_getElem? (i := 683) (by decide +kernel), List.mem_of_getElem? (i := 919) (by decide +kernel), List.mem_of_getElem? (i := 920) (by decide +kernel)⟩
theorem lw_p44 : lw_okq (⟨"UnwindMillModel", "expression", "(II)V"⟩, 58) := ⟨⟨by decide +kernel, by decide +kernel⟩, List.mem_of_getElem? (i := 683) (by decide +kernel), List.mem_of_getElem? (i := 923) (by decide +kernel), List.mem_of_getElem? (i := 924) (by decide +kernel)⟩
theorem lw_p45 : lw_okq (⟨"UnwindMillModel", "put", "(III)V"⟩, 58) := ⟨⟨by decide +kernel, by decide +kernel⟩, List.mem_of_getElem? (i := 683) (by decide +kernel), List.mem_of_getElem? (i := 927) (by decide +kernel), List.mem_of_getElem? (i := 928) (by decide +kernel)⟩
theorem lw_p46 : lw_okq (⟨"UnwindMillModel", "part", "(II)V"⟩, 58) := ⟨⟨by decide +kernel, by decide +kernel⟩, List.mem_of_getElem? (i := 683) (by decide +kernel), List.mem_of_getElem? (i := 931) (by decide +kernel), List.mem_of_getElem? (i := 932) (by decide +kernel)⟩
theorem lw_p47 : lw_okq (⟨"UnwindMillModel", "apart", "(I)V"⟩, 58) := ⟨⟨by decide +kernel, by decide +kernel⟩, List.mem_of_getElem? (i := 683) (by decide +kernel), List.mem_of_getElem? (i := 935) (by decide +kernel), List.mem_of_getElem? (i := 936) (by decide +kernel)⟩
def lw_privs_3 : List (MethodName × Nat) := [(⟨"UnwindMill$Machine", "doStraight", "(II)V"⟩, 11), (⟨"UnwindMill$Machine", "putOut", "(I)V"⟩, 11), (⟨"java/lang/Throwable", "fillInStackTrace", "(I)Ljava/lang/Throwable;"⟩, 6), (⟨"UnwindMillModel", "can", "(IIIII)Z"⟩, 58), (⟨"UnwindMillModel", "isExpression", "(I)Z"⟩, 58), (⟨"UnwindMillModel", "isThere", "(III)Z"⟩, 58), (⟨"UnwindMillModel", "isStatement", "(I)Z"⟩, 58), (⟨"UnwindMillModel", "isCatch", "(I)Z"⟩, 58), (⟨"UnwindMillModel", "adds", "(IIIII)I"⟩, 58), (⟨"UnwindMillModel", "laysAll", "()V"⟩, 58), (⟨"UnwindMillModel", "begin", "(IIII)V"⟩, 58), (⟨"UnwindMillModel", "goesOn", "()V"⟩, 58), (⟨"UnwindMillModel", "expression", "(II)V"⟩, 58), (⟨"UnwindMillModel", "put", "(III)V"⟩, 58), (⟨"UnwindMillModel", "part", "(II)V"⟩, 58), (⟨"UnwindMillModel", "apart", "(I)V"⟩, 58)]
theorem lw_r3 : ∀ q ∈ lw_privs_3, lw_okq q := List.forall_mem_cons.mpr ⟨lw_p32, List.forall_mem_cons.mpr ⟨lw_p33, List.forall_mem_cons.mpr ⟨lw_p34, List.forall_mem_cons.mpr ⟨lw_p35, List.forall_mem_cons.mpr ⟨lw_p36, List.forall_mem_cons.mpr ⟨lw_p37, List.forall_mem_cons.mpr ⟨lw_p38, List.forall_mem_cons.mpr ⟨lw_p39, List.forall_mem_cons.mpr ⟨lw_p40, List.forall_mem_cons.mpr ⟨lw_p41, List.forall_mem_cons.mpr ⟨lw_p42, List.forall_mem_cons.mpr ⟨lw_p43, List.forall_mem_cons.mpr ⟨lw_p44, List.forall_mem_cons.mpr ⟨lw_p45, List.forall_mem_cons.mpr ⟨lw_p46, List.forall_mem_cons.mpr ⟨lw_p47, fun _ h => absurd h List.not_mem_nil⟩⟩⟩⟩⟩⟩⟩⟩⟩⟩⟩⟩⟩⟩⟩⟩
theorem lw_p48 : lw_okq (⟨"UnwindMillModel", "catches", "(I)I"⟩, 58) := ⟨⟨by decide +kernel, by decide +kernel⟩, List.mem_of_getElem? (i := 683) (by decide +kernel), List.mem_of_getElem? (i := 939) (by decide +kernel), List.mem_of_getElem? (i := 940) (by decide +kernel)⟩
theorem lw_p49 : lw_okq (⟨"UnwindMillModel", "catchAt", "(II)I"⟩, 58) := ⟨⟨by decide +kernel, by decide +kernel⟩, List.mem_of_getElem? (i := 683) (by decide +kernel), List.mem_of_getElem? (i := 943) (by decide +kernel), List.mem_of_getElem? (i := 944) (by decide +kernel)⟩
theorem lw_p50 : lw_okq (⟨"UnwindMillModel", "hasFinally", "(I)Z"⟩, 58) := ⟨⟨by decide +kernel, by decide +kernel⟩, List.mem_of_getElem? (i := 683) (by decide +kernel), List.mem_of_getElem? (i := 947) (by decide +kernel), List.mem_of_getElem? (i := 948) (by decide +kernel)⟩
theorem lw_p51 : lw_okq (⟨"UnwindMillModel", "last", "(I)V"⟩, 58) := ⟨⟨by decide +kernel, by decide +kernel⟩, List.mem_of_getElem? (i := 683) (by decide +kernel), List.mem_of_getElem? (i := 951) (by decide +kernel), List.mem_of_getElem? (i := 952) (by decide +kernel)⟩
theorem lw_p52 : lw_okq (⟨"UnwindMillModel", "tries", "(I)V"⟩, 58) := ⟨⟨by decide +kernel, by decide +kernel⟩, List.mem_of_getElem? (i := 683) (by decide +kernel), List.mem_of_getElem? (i := 955) (by decide +kernel), List.mem_of_getElem? (i := 956) (by decide +kernel)⟩
theorem lw_p53 : lw_okq (⟨"UnwindMillModel", "item", "(I)V"⟩, 58) := ⟨⟨by decide +kernel, by decide +kernel⟩, List.mem_of_getElem? (i := 683) (by decide +kernel), List.mem_of_getElem? (i := 959) (by decide +kernel), List.mem_of_getElem? (i := 960) (by decide +kernel)⟩
theorem lw_p54 : lw_okq (⟨"UnwindMillModel", "ends", "(I)V"⟩, 58) := ⟨⟨by decide +kernel, by decide +kernel⟩, List.mem_of_getElem? (i := 683) (by decide +kernel), List.mem_of_getElem? (i := 963) (by decide +kernel), List.mem_of_getElem? (i := 964) (by decide +kernel)⟩
theorem lw_p55 : lw_okq (⟨"UnwindMillModel", "leaves", "(II)V"⟩, 58) := ⟨⟨by decide +kernel, by decide +kernel⟩, List.mem_of_getElem? (i := 683) (by decide +kernel), List.mem_of_getElem? (i := 967) (by decide +kernel), List.mem_of_getElem? (i := 968) (by decide +kernel)⟩
theorem lw_p56 : lw_okq (⟨"UnwindMillModel", "loop", "(I)I"⟩, 58) := ⟨⟨by decide +kernel, by decide +kernel⟩, List.mem_of_getElem? (i := 683) (by decide +kernel), List.mem_of_getElem? (i := 971) (by decide +kernel), List.mem_of_getElem? (i := 972) (by decide +kernel)⟩
theorem lw_p57 : lw_okq (⟨"UnwindMillModel", "statement", "(II)V"⟩, 58) := ⟨⟨by decide +kernel, by decide +kernel⟩, List.mem_of_getElem? (i := 683) (by decide +kernel), List.mem_of_getElem? (i := 975) (by decide +kernel), List.mem_of_getElem? (i := 976) (by decide +kernel)⟩
theorem lw_p58 : lw_okq (⟨"UnwindMillModel", "decides", "(II)V"⟩, 58) := ⟨⟨by decide +kernel, by decide +kernel⟩, List.mem_of_getElem? (i := 683) (by decide +kernel), List.mem_of_getElem? (i := 979) (by decide +kernel), List.mem_of_getElem? (i := 980) (by decide +kernel)⟩
theorem lw_p59 : lw_okq (⟨"UnwindMillModel", "repeats", "(II)V"⟩, 58) := ⟨⟨by decide +kernel, by decide +kernel⟩, List.mem_of_getElem? (i := 683) (by decide +kernel), List.mem_of_getElem? (i := 983) (by decide +kernel), List.mem_of_getElem? (i := 984) (by decide +kernel)⟩
theorem lw_p60 : lw_okq (⟨"UnwindMillModel", "separates", "(I)V"⟩, 58) := ⟨⟨by decide +kernel, by decide +kernel⟩, List.mem_of_getElem? (i := 683) (by decide +kernel), List.mem_of_getElem? (i := 987) (by decide +kernel), List.mem_of_getElem? (i := 988) (by decide +kernel)⟩
theorem lw_p61 : lw_okq (⟨"UnwindMillModel", "table", "(I)V"⟩, 58) := ⟨⟨by decide +kernel, by decide +kernel⟩, List.mem_of_getElem? (i := 683) (by decide +kernel), List.mem_of_getElem? (i := 991) (by decide +kernel), List.mem_of_getElem? (i := 992) (by decide +kernel)⟩
theorem lw_p62 : lw_okq (⟨"UnwindMillModel", "stretches", "(IZIII)V"⟩, 58) := ⟨⟨by decide +kernel, by decide +kernel⟩, List.mem_of_getElem? (i := 683) (by decide +kernel), List.mem_of_getElem? (i := 995) (by decide +kernel), List.mem_of_getElem? (i := 996) (by decide +kernel)⟩
theorem lw_p63 : lw_okq (⟨"UnwindMillModel", "isAround", "(II)I"⟩, 58) := ⟨⟨by decide +kernel, by decide +kernel⟩, List.mem_of_getElem? (i := 683) (by decide +kernel), List.mem_of_getElem? (i := 999) (by decide +kernel), List.mem_of_getElem? (i := 1000) (by decide +kernel)⟩
def lw_privs_4 : List (MethodName × Nat) := [(⟨"UnwindMillModel", "catches", "(I)I"⟩, 58), (⟨"UnwindMillModel", "catchAt", "(II)I"⟩, 58), (⟨"UnwindMillModel", "hasFinally", "(I)Z"⟩, 58), (⟨"UnwindMillModel", "last", "(I)V"⟩, 58), (⟨"UnwindMillModel", "tries", "(I)V"⟩, 58), (⟨"UnwindMillModel", "item", "(I)V"⟩, 58), (⟨"UnwindMillModel", "ends", "(I)V"⟩, 58), (⟨"UnwindMillModel", "leaves", "(II)V"⟩, 58), (⟨"UnwindMillModel", "loop", "(I)I"⟩, 58), (⟨"UnwindMillModel", "statement", "(II)V"⟩, 58), (⟨"UnwindMillModel", "decides", "(II)V"⟩, 58), (⟨"UnwindMillModel", "repeats", "(II)V"⟩, 58), (⟨"UnwindMillModel", "separates", "(I)V"⟩, 58), (⟨"UnwindMillModel", "table", "(I)V"⟩, 58), (⟨"UnwindMillModel", "stretches", "(IZIII)V"⟩, 58), (⟨"UnwindMillModel", "isAround", "(II)I"⟩, 58)]
theorem lw_r4 : ∀ q ∈ lw_privs_4, lw_okq q := List.forall_mem_cons.mpr ⟨lw_p48, List.forall_mem_cons.mpr ⟨lw_p49, List.forall_mem_cons.mpr ⟨lw_p50, List.forall_mem_cons.mpr ⟨lw_p51, List.forall_mem_cons.mpr ⟨lw_p52, List.forall_mem_cons.mpr ⟨lw_p53, List.forall_mem_cons.mpr ⟨lw_p54, List.forall_mem_cons.mpr ⟨lw_p55, List.forall_mem_cons.mpr ⟨lw_p56, List.forall_mem_cons.mpr ⟨lw_p57, List.forall_mem_cons.mpr ⟨lw_p58, List.forall_mem_cons.mpr ⟨lw_p59, List.forall_mem_cons.mpr ⟨lw_p60, List.forall_mem_cons.mpr ⟨lw_p61, List.forall_mem_cons.mpr ⟨lw_p62, List.forall_mem_cons.mpr ⟨lw_p63, fun _ h => absurd h List.not_mem_nil⟩⟩⟩⟩⟩⟩⟩⟩⟩⟩⟩⟩⟩⟩⟩⟩
theorem lw_p64 : lw_okq (⟨"UnwindMillModel", "row", "(IIIII)V"⟩, 58) := ⟨⟨by decide +kernel, by decide +kernel⟩, List.mem_of_getElem? (i := 683) (by decide +kernel), List.mem_of_getElem? (i := 1003) (by decide +kernel), List.mem_of_getElem? (i := 1004) (by decide +kernel)⟩
theorem lw_p65 : lw_okq (⟨"UnwindMillModel", "step", "()V"⟩, 58) := ⟨⟨by decide +kernel, by decide +kernel⟩, List.mem_of_getElem? (i := 683) (by decide +kernel), List.mem_of_getElem? (i := 1029) (by decide +kernel), List.mem_of_getElem? (i := 1030) (by decide +kernel)⟩
theorem lw_p66 : lw_okq (⟨"UnwindMillModel", "push", "(I)V"⟩, 58) := ⟨⟨by decide +kernel, by decide +kernel⟩, List.mem_of_getElem? (i := 683) (by decide +kernel), List.mem_of_getElem? (i := 1033) (by decide +kernel), List.mem_of_getElem? (i := 1034) (by decide +kernel)⟩
theorem lw_p67 : lw_okq (⟨"UnwindMillModel", "pop", "()I"⟩, 58) := ⟨⟨by decide +kernel, by decide +kernel⟩, List.mem_of_getElem? (i := 683) (by decide +kernel), List.mem_of_getElem? (i := 1037) (by decide +kernel), List.mem_of_getElem? (i := 1038) (by decide +kernel)⟩
theorem lw_p68 : lw_okq (⟨"UnwindMillModel", "throwing", "(I)V"⟩, 58) := ⟨⟨by decide +kernel, by decide +kernel⟩, List.mem_of_getElem? (i := 683) (by decide +kernel), List.mem_of_getElem? (i := 1041) (by decide +kernel), List.mem_of_getElem? (i := 1042) (by decide +kernel)⟩
theorem lw_p69 : lw_okq (⟨"UnwindMillModel", "calls", "(I)V"⟩, 58) := ⟨⟨by decide +kernel, by decide +kernel⟩, List.mem_of_getElem? (i := 683) (by decide +kernel), List.mem_of_getElem? (i := 1045) (by decide +kernel), List.mem_of_getElem? (i := 1046) (by decide +kernel)⟩
theorem lw_p70 : lw_okq (⟨"UnwindMillModel", "returns", "()V"⟩, 58) := ⟨⟨by decide +kernel, by decide +kernel⟩, List.mem_of_getElem? (i := 683) (by decide +kernel), List.mem_of_getElem? (i := 1049) (by decide +kernel), List.mem_of_getElem? (i := 1050) (by decide +kernel)⟩
theorem lw_p71 : lw_okq (⟨"UnwindMillModel", "works", "(I)V"⟩, 58) := ⟨⟨by decide +kernel, by decide +kernel⟩, List.mem_of_getElem? (i := 683) (by decide +kernel), List.mem_of_getElem? (i := 1053) (by decide +kernel), List.mem_of_getElem? (i := 1054) (by decide +kernel)⟩
def lw_privs_5 : List (MethodName × Nat) := [(⟨"UnwindMillModel", "row", "(IIIII)V"⟩, 58), (⟨"UnwindMillModel", "step", "()V"⟩, 58), (⟨"UnwindMillModel", "push", "(I)V"⟩, 58), (⟨"UnwindMillModel", "pop", "()I"⟩, 58), (⟨"UnwindMillModel", "throwing", "(I)V"⟩, 58), (⟨"UnwindMillModel", "calls", "(I)V"⟩, 58), (⟨"UnwindMillModel", "returns", "()V"⟩, 58), (⟨"UnwindMillModel", "works", "(I)V"⟩, 58)]
theorem lw_r5 : ∀ q ∈ lw_privs_5, lw_okq q := List.forall_mem_cons.mpr ⟨lw_p64, List.forall_mem_cons.mpr ⟨lw_p65, List.forall_mem_cons.mpr ⟨lw_p66, List.forall_mem_cons.mpr ⟨lw_p67, List.forall_mem_cons.mpr ⟨lw_p68, List.forall_mem_cons.mpr ⟨lw_p69, List.forall_mem_cons.mpr ⟨lw_p70, List.forall_mem_cons.mpr ⟨lw_p71, fun _ h => absurd h List.not_mem_nil⟩⟩⟩⟩⟩⟩⟩⟩
def lw_privs : List (MethodName × Nat) := lw_privs_1 ++ (lw_privs_2 ++ (lw_privs_3 ++ (lw_privs_4 ++ (lw_privs_5))))
def lw_tbl : List Cond := k2_sels lw_privs ++ tables_1
theorem lw_privs_ok : ∀ q ∈ lw_privs, lw_okq q := by
  show ∀ q ∈ lw_privs_1 ++ (lw_privs_2 ++ (lw_privs_3 ++ (lw_privs_4 ++ (lw_privs_5)))), lw_okq q
  exact List.forall_mem_append.mpr ⟨lw_r1, List.forall_mem_append.mpr ⟨lw_r2, List.forall_mem_append.mpr ⟨lw_r3, List.forall_mem_append.mpr ⟨lw_r4, lw_r5⟩⟩⟩⟩
end
section
/-! names: classes, fields, layouts, methods (printed by a program from the class files) -/
abbrev R_UM : String := "UnwindMill"
abbrev R_Tr : String := "UnwindMill$Tree"
abbrev R_Co : String := "UnwindMill$Code"
abbrev R_La : String := "UnwindMill$Layer"
abbrev R_Ma : String := "UnwindMill$Machine"
abbrev R_Sc : String := "UnwindMill$Scopes"
abbrev R_Wo : String := "UnwindMill$Work"
abbrev R_Ha : String := "UnwindMill$Handlers"
abbrev R_Mo : String := "UnwindMillModel"
abbrev R_Ar : String := "java/util/Arrays"
def F_UM : u_T := fun k => match k with
  | 0 => ("UnwindMill", "tree", "LUnwindMill$Tree;", true)
  | 1 => ("UnwindMill", "code", "LUnwindMill$Code;", true)
  | 2 => ("UnwindMill", "layer", "LUnwindMill$Layer;", true)
  | _ => ("UnwindMill", "machine", "LUnwindMill$Machine;", true)
def t_UM : Nat → FieldType := fun k => match k with
  | 0 => .object "UnwindMill$Tree"
  | 1 => .object "UnwindMill$Code"
  | 2 => .object "UnwindMill$Layer"
  | _ => .object "UnwindMill$Machine"
def F_Tr : u_T := fun k => match k with
  | 0 => ("UnwindMill$Tree", "kinds", "[I", true)
  | 1 => ("UnwindMill$Tree", "parts", "[I", true)
  | 2 => ("UnwindMill$Tree", "bodies", "[I", true)
  | _ => ("UnwindMill$Tree", "count", "I", false)
def t_Tr : Nat → FieldType := fun k => match k with
  | 0 => .array .int
  | 1 => .array .int
  | 2 => .array .int
  | _ => .int
def F_Co : u_T := fun k => match k with
  | 0 => ("UnwindMill$Code", "ops", "[I", true)
  | 1 => ("UnwindMill$Code", "args", "[I", true)
  | 2 => ("UnwindMill$Code", "contexts", "[I", true)
  | 3 => ("UnwindMill$Code", "entries", "[I", true)
  | 4 => ("UnwindMill$Code", "rows", "[I", true)
  | 5 => ("UnwindMill$Code", "count", "I", false)
  | 6 => ("UnwindMill$Code", "rowCount", "I", false)
  | 7 => ("UnwindMill$Code", "begun", "I", false)
  | _ => ("UnwindMill$Code", "deepestKeep", "I", false)
def t_Co : Nat → FieldType := fun k => match k with
  | 0 => .array .int
  | 1 => .array .int
  | 2 => .array .int
  | 3 => .array .int
  | 4 => .array .int
  | 5 => .int
  | 6 => .int
  | 7 => .int
  | _ => .int
def F_La : u_T := fun k => match k with
  | 0 => ("UnwindMill$Layer", "tree", "LUnwindMill$Tree;", true)
  | 1 => ("UnwindMill$Layer", "code", "LUnwindMill$Code;", true)
  | 2 => ("UnwindMill$Layer", "scopes", "LUnwindMill$Scopes;", true)
  | 3 => ("UnwindMill$Layer", "work", "LUnwindMill$Work;", true)
  | 4 => ("UnwindMill$Layer", "handlers", "LUnwindMill$Handlers;", true)
  | 5 => ("UnwindMill$Layer", "done", "[I", true)
  | 6 => ("UnwindMill$Layer", "doneCount", "I", false)
  | 7 => ("UnwindMill$Layer", "erased", "Z", false)
  | _ => ("UnwindMill$Layer", "verdict", "I", false)
def t_La : Nat → FieldType := fun k => match k with
  | 0 => .object "UnwindMill$Tree"
  | 1 => .object "UnwindMill$Code"
  | 2 => .object "UnwindMill$Scopes"
  | 3 => .object "UnwindMill$Work"
  | 4 => .object "UnwindMill$Handlers"
  | 5 => .array .int
  | 6 => .int
  | 7 => .boolean
  | _ => .int
def F_Ma : u_T := fun k => match k with
  | 0 => ("UnwindMill$Machine", "code", "LUnwindMill$Code;", true)
  | 1 => ("UnwindMill$Machine", "variables", "[I", true)
  | 2 => ("UnwindMill$Machine", "outs", "[I", true)
  | 3 => ("UnwindMill$Machine", "report", "[I", true)
  | 4 => ("UnwindMill$Machine", "ran", "Z", false)
  | 5 => ("UnwindMill$Machine", "pile", "[I", true)
  | 6 => ("UnwindMill$Machine", "height", "I", false)
  | 7 => ("UnwindMill$Machine", "calls", "[I", true)
  | 8 => ("UnwindMill$Machine", "places", "[I", true)
  | 9 => ("UnwindMill$Machine", "frames", "I", false)
  | _ => ("UnwindMill$Machine", "at", "I", false)
def t_Ma : Nat → FieldType := fun k => match k with
  | 0 => .object "UnwindMill$Code"
  | 1 => .array .int
  | 2 => .array .int
  | 3 => .array .int
  | 4 => .boolean
  | 5 => .array .int
  | 6 => .int
  | 7 => .array .int
  | 8 => .array .int
  | 9 => .int
  | _ => .int
def F_Sc : u_T := fun k => match k with
  | 0 => ("UnwindMill$Scopes", "outers", "[I", true)
  | 1 => ("UnwindMill$Scopes", "tries", "[I", true)
  | 2 => ("UnwindMill$Scopes", "finallies", "[I", true)
  | 3 => ("UnwindMill$Scopes", "loops", "[I", true)
  | 4 => ("UnwindMill$Scopes", "overs", "[I", true)
  | 5 => ("UnwindMill$Scopes", "keeps", "[I", true)
  | 6 => ("UnwindMill$Scopes", "ends", "[I", true)
  | 7 => ("UnwindMill$Scopes", "parts", "[I", true)
  | 8 => ("UnwindMill$Scopes", "looked", "I", false)
  | _ => ("UnwindMill$Scopes", "count", "I", false)
def t_Sc : Nat → FieldType := fun k => match k with
  | 0 => .array .int
  | 1 => .array .int
  | 2 => .array .int
  | 3 => .array .int
  | 4 => .array .int
  | 5 => .array .int
  | 6 => .array .int
  | 7 => .array .int
  | 8 => .int
  | _ => .int
def F_Wo : u_T := fun k => match k with
  | 0 => ("UnwindMill$Work", "nodes", "[I", true)
  | 1 => ("UnwindMill$Work", "contexts", "[I", true)
  | 2 => ("UnwindMill$Work", "steps", "[I", true)
  | 3 => ("UnwindMill$Work", "marks", "[I", true)
  | _ => ("UnwindMill$Work", "open", "I", false)
def t_Wo : Nat → FieldType := fun k => match k with
  | 0 => .array .int
  | 1 => .array .int
  | 2 => .array .int
  | 3 => .array .int
  | _ => .int
def F_Ha : u_T := fun k => match k with
  | 0 => ("UnwindMill$Handlers", "scopes", "[I", true)
  | 1 => ("UnwindMill$Handlers", "catches", "[I", true)
  | 2 => ("UnwindMill$Handlers", "targets", "[I", true)
  | _ => ("UnwindMill$Handlers", "count", "I", false)
def t_Ha : Nat → FieldType := fun k => match k with
  | 0 => .array .int
  | 1 => .array .int
  | 2 => .array .int
  | _ => .int
def F_Mo : u_T := fun k => match k with
  | 0 => ("UnwindMillModel", "thrown", "I", false)
  | 1 => ("UnwindMillModel", "nodes", "I", false)
  | 2 => ("UnwindMillModel", "kind", "[I", true)
  | 3 => ("UnwindMillModel", "partA", "[I", true)
  | 4 => ("UnwindMillModel", "partB", "[I", true)
  | 5 => ("UnwindMillModel", "partC", "[I", true)
  | 6 => ("UnwindMillModel", "partD", "[I", true)
  | 7 => ("UnwindMillModel", "partE", "[I", true)
  | 8 => ("UnwindMillModel", "bodies", "[I", true)
  | 9 => ("UnwindMillModel", "there", "Z", false)
  | 10 => ("UnwindMillModel", "count", "I", false)
  | 11 => ("UnwindMillModel", "number", "[I", true)
  | 12 => ("UnwindMillModel", "arg", "[I", true)
  | 13 => ("UnwindMillModel", "lies", "[I", true)
  | 14 => ("UnwindMillModel", "rows", "I", false)
  | 15 => ("UnwindMillModel", "rowFrom", "[I", true)
  | 16 => ("UnwindMillModel", "rowUntil", "[I", true)
  | 17 => ("UnwindMillModel", "rowTarget", "[I", true)
  | 18 => ("UnwindMillModel", "rowLeast", "[I", true)
  | 19 => ("UnwindMillModel", "rowMost", "[I", true)
  | 20 => ("UnwindMillModel", "laidNodes", "I", false)
  | 21 => ("UnwindMillModel", "deepest", "I", false)
  | 22 => ("UnwindMillModel", "entries", "[I", true)
  | 23 => ("UnwindMillModel", "begun", "I", false)
  | 24 => ("UnwindMillModel", "itsNode", "[I", true)
  | 25 => ("UnwindMillModel", "outer", "[I", true)
  | 26 => ("UnwindMillModel", "over", "[I", true)
  | 27 => ("UnwindMillModel", "deep", "[I", true)
  | 28 => ("UnwindMillModel", "end", "[I", true)
  | 29 => ("UnwindMillModel", "headAt", "[I", true)
  | 30 => ("UnwindMillModel", "heads", "I", false)
  | 31 => ("UnwindMillModel", "head", "[I", true)
  | 32 => ("UnwindMillModel", "done", "I", false)
  | 33 => ("UnwindMillModel", "queue", "[I", true)
  | 34 => ("UnwindMillModel", "erased", "Z", false)
  | 35 => ("UnwindMillModel", "large", "Z", false)
  | 36 => ("UnwindMillModel", "ill", "Z", false)
  | 37 => ("UnwindMillModel", "top", "I", false)
  | 38 => ("UnwindMillModel", "node", "[I", true)
  | 39 => ("UnwindMillModel", "in", "[I", true)
  | 40 => ("UnwindMillModel", "above", "[I", true)
  | 41 => ("UnwindMillModel", "fins", "[I", true)
  | 42 => ("UnwindMillModel", "state", "[I", true)
  | 43 => ("UnwindMillModel", "one", "[I", true)
  | 44 => ("UnwindMillModel", "two", "[I", true)
  | 45 => ("UnwindMillModel", "variables", "[I", true)
  | 46 => ("UnwindMillModel", "how", "I", false)
  | 47 => ("UnwindMillModel", "code", "I", false)
  | 48 => ("UnwindMillModel", "steps", "I", false)
  | 49 => ("UnwindMillModel", "outs", "I", false)
  | 50 => ("UnwindMillModel", "out", "[I", true)
  | 51 => ("UnwindMillModel", "throwsMade", "I", false)
  | 52 => ("UnwindMillModel", "mostFrames", "I", false)
  | 53 => ("UnwindMillModel", "frames", "I", false)
  | 54 => ("UnwindMillModel", "at", "[I", true)
  | 55 => ("UnwindMillModel", "size", "[I", true)
  | 56 => ("UnwindMillModel", "pile", "[I", true)
  | _ => ("UnwindMillModel", "places", "[I", true)
def t_Mo : Nat → FieldType := fun k => match k with
  | 0 => .int
  | 1 => .int
  | 2 => .array .int
  | 3 => .array .int
  | 4 => .array .int
  | 5 => .array .int
  | 6 => .array .int
  | 7 => .array .int
  | 8 => .array .int
  | 9 => .boolean
  | 10 => .int
  | 11 => .array .int
  | 12 => .array .int
  | 13 => .array .int
  | 14 => .int
  | 15 => .array .int
  | 16 => .array .int
  | 17 => .array .int
  | 18 => .array .int
  | 19 => .array .int
  | 20 => .int
  | 21 => .int
  | 22 => .array .int
  | 23 => .int
  | 24 => .array .int
  | 25 => .array .int
  | 26 => .array .int
  | 27 => .array .int
  | 28 => .array .int
  | 29 => .array .int
  | 30 => .int
  | 31 => .array .int
  | 32 => .int
  | 33 => .array .int
  | 34 => .boolean
  | 35 => .boolean
  | 36 => .boolean
  | 37 => .int
  | 38 => .array .int
  | 39 => .array .int
  | 40 => .array .int
  | 41 => .array .int
  | 42 => .array .int
  | 43 => .array .int
  | 44 => .array .int
  | 45 => .array .int
  | 46 => .int
  | 47 => .int
  | 48 => .int
  | 49 => .int
  | 50 => .array .int
  | 51 => .int
  | 52 => .int
  | 53 => .int
  | 54 => .array .int
  | 55 => .array .int
  | 56 => .array .int
  | _ => .array .int
abbrev um_cl : List vw_C := [(R_UM, F_UM, 4), (R_Tr, F_Tr, 4), (R_Co, F_Co, 9), (R_La, F_La, 9), (R_Ma, F_Ma, 11), (R_Sc, F_Sc, 10), (R_Wo, F_Wo, 5), (R_Ha, F_Ha, 4), (R_Mo, F_Mo, 58)]
def um_L : List um_E := [.inl (0, [some 1, some 2, some 3, some 4]), .inl (1, [some 8, some 9, some 10, none]), .inl (2, [some 11, some 12, some 13, some 14, some 15, none, none, none, none]), .inl (3, [some 1, some 2, some 5, some 6, some 7, some 16, none, none, none]), .inl (4, [some 2, some 17, some 18, some 19, none, some 20, none, some 21, some 22, none, none]), .inl (5, [some 23, some 24, some 25, some 26, some 27, some 28, some 29, some 30, none, none]), .inl (6, [some 31, some 32, some 33, some 34, none]), .inl (7, [some 35, some 36, some 37, none]), .inr 150, .inr 750, .inr 6, .inr 1000, .inr 1000, .inr 1000, .inr 6, .inr 1500, .inr 2000, .inr 8, .inr 64, .inr 6, .inr 150, .inr 12, .inr 1800, .inr 2001, .inr 2001, .inr 2001, .inr 2001, .inr 2001, .inr 2001, .inr 2001, .inr 2001, .inr 2001, .inr 2001, .inr 2001, .inr 2001, .inr 501, .inr 501, .inr 501, .inl (8, [none, none, some 39, some 40, some 41, some 42, some 43, some 44, some 45, none, none, some 46, some 47, some 48, none, some 49, some 50, some 51, some 52, some 53, none, none, some 54, none, some 55, some 56, some 57, some 58, some 59, some 60, none, some 61, none, some 62, none, none, none, none, some 63, some 64, some 65, some 66, some 67, some 68, some 69, some 70, none, none, none, none, some 71, none, none, none, some 72, some 73, some 74, some 75]), .inr 150, .inr 150, .inr 150, .inr 150, .inr 150, .inr 150, .inr 6, .inr 1000, .inr 1000, .inr 1000, .inr 300, .inr 300, .inr 300, .inr 300, .inr 300, .inr 6, .inr 2001, .inr 2001, .inr 2001, .inr 2001, .inr 2001, .inr 2001, .inr 2001, .inr 2001, .inr 2002, .inr 2002, .inr 2002, .inr 2002, .inr 2002, .inr 2002, .inr 2002, .inr 8, .inr 64, .inr 12, .inr 12, .inr 2400, .inr 2400]
abbrev y_Ar_fill_AII : MethodName := ⟨R_Ar, "fill", "([II)V"⟩
abbrev b_Ar_fill_AII : ByteArray := prog_20_method_103_code
abbrev M_Ar_fill_AII : um_M := (y_Ar_fill_AII, b_Ar_fill_AII, 4, none)
abbrev y_Tr_kindOf : MethodName := ⟨R_Tr, "kindOf", "(I)I"⟩
abbrev b_Tr_kindOf : ByteArray := prog_9_method_4_code
abbrev M_Tr_kindOf : um_M := (y_Tr_kindOf, b_Tr_kindOf, 2, some .int)
abbrev y_UM_isVariable : MethodName := ⟨R_UM, "isVariable", "(I)Z"⟩
abbrev b_UM_isVariable : ByteArray := prog_1_method_15_code
abbrev M_UM_isVariable : um_M := (y_UM_isVariable, b_UM_isVariable, 1, some .boolean)
abbrev y_UM_isFunction : MethodName := ⟨R_UM, "isFunction", "(I)Z"⟩
abbrev b_UM_isFunction : ByteArray := prog_1_method_14_code
abbrev M_UM_isFunction : um_M := (y_UM_isFunction, b_UM_isFunction, 1, some .boolean)
abbrev y_Tr_fits : MethodName := ⟨R_Tr, "fits", "(II)Z"⟩
abbrev b_Tr_fits : ByteArray := prog_9_method_7_code
abbrev M_Tr_fits : um_M := (y_Tr_fits, b_Tr_fits, 4, some .boolean)
abbrev y_Tr_add : MethodName := ⟨R_Tr, "add", "(IIIIII)I"⟩
abbrev b_Tr_add : ByteArray := prog_9_method_2_code
abbrev M_Tr_add : um_M := (y_Tr_add, b_Tr_add, 10, some .int)
abbrev y_UM_node : MethodName := ⟨R_UM, "node", "(IIIII)I"⟩
abbrev b_UM_node : ByteArray := prog_1_method_2_code
abbrev M_UM_node : um_M := (y_UM_node, b_UM_node, 6, some .int)
abbrev y_UM_catchBehind : MethodName := ⟨R_UM, "catchBehind", "(IIIII)I"⟩
abbrev b_UM_catchBehind : ByteArray := prog_1_method_3_code
abbrev M_UM_catchBehind : um_M := (y_UM_catchBehind, b_UM_catchBehind, 6, some .int)
abbrev y_Tr_setBody : MethodName := ⟨R_Tr, "setBody", "(II)Z"⟩
abbrev b_Tr_setBody : ByteArray := prog_9_method_3_code
abbrev M_Tr_setBody : um_M := (y_Tr_setBody, b_Tr_setBody, 3, some .boolean)
abbrev y_UM_body : MethodName := ⟨R_UM, "body", "(II)Z"⟩
abbrev b_UM_body : ByteArray := prog_1_method_4_code
abbrev M_UM_body : um_M := (y_UM_body, b_UM_body, 3, some .boolean)
abbrev y_La_settleGoals : MethodName := ⟨R_La, "settleGoals", "()V"⟩
abbrev b_La_settleGoals : ByteArray := prog_5_method_23_code
abbrev M_La_settleGoals : um_M := (y_La_settleGoals, b_La_settleGoals, 3, none)
abbrev y_Co_clear : MethodName := ⟨R_Co, "clear", "()V"⟩
abbrev b_Co_clear : ByteArray := prog_2_method_2_code
abbrev M_Co_clear : um_M := (y_Co_clear, b_Co_clear, 1, none)
abbrev y_Tr_part : MethodName := ⟨R_Tr, "part", "(II)I"⟩
abbrev b_Tr_part : ByteArray := prog_9_method_5_code
abbrev M_Tr_part : um_M := (y_Tr_part, b_Tr_part, 3, some .int)
abbrev y_La_addRow : MethodName := ⟨R_La, "addRow", "(III)V"⟩
abbrev b_La_addRow : ByteArray := prog_5_method_26_code
abbrev M_La_addRow : um_M := (y_La_addRow, b_La_addRow, 6, none)
abbrev y_Sc_scopeOf : MethodName := ⟨R_Sc, "scopeOf", "(I)I"⟩
abbrev b_Sc_scopeOf : ByteArray := prog_8_method_4_code
abbrev M_Sc_scopeOf : um_M := (y_Sc_scopeOf, b_Sc_scopeOf, 1, some .int)
abbrev y_Sc_partOf : MethodName := ⟨R_Sc, "partOf", "(I)I"⟩
abbrev b_Sc_partOf : ByteArray := prog_8_method_5_code
abbrev M_Sc_partOf : um_M := (y_Sc_partOf, b_Sc_partOf, 1, some .int)
abbrev y_Sc_partLookedAt : MethodName := ⟨R_Sc, "partLookedAt", "(I)I"⟩
abbrev b_Sc_partLookedAt : ByteArray := prog_8_method_11_code
abbrev M_Sc_partLookedAt : um_M := (y_Sc_partLookedAt, b_Sc_partLookedAt, 3, some .int)
abbrev y_La_takesFrom : MethodName := ⟨R_La, "takesFrom", "(II)Z"⟩
abbrev b_La_takesFrom : ByteArray := prog_5_method_25_code
abbrev M_La_takesFrom : um_M := (y_La_takesFrom, b_La_takesFrom, 4, some .boolean)
abbrev y_Sc_lookAt : MethodName := ⟨R_Sc, "lookAt", "(I)V"⟩
abbrev b_Sc_lookAt : ByteArray := prog_8_method_10_code
abbrev M_Sc_lookAt : um_M := (y_Sc_lookAt, b_Sc_lookAt, 3, none)
abbrev y_La_addRows : MethodName := ⟨R_La, "addRows", "(I)V"⟩
abbrev b_La_addRows : ByteArray := prog_5_method_24_code
abbrev M_La_addRows : um_M := (y_La_addRows, b_La_addRows, 5, none)
abbrev y_Sc_within : MethodName := ⟨R_Sc, "within", "(II)I"⟩
abbrev b_Sc_within : ByteArray := prog_8_method_3_code
abbrev M_Sc_within : um_M := (y_Sc_within, b_Sc_within, 2, some .int)
abbrev y_Wo_push : MethodName := ⟨R_Wo, "push", "(III)V"⟩
abbrev b_Wo_push : ByteArray := prog_10_method_2_code
abbrev M_Wo_push : um_M := (y_Wo_push, b_Wo_push, 4, none)
abbrev y_La_begin : MethodName := ⟨R_La, "begin", "(II)V"⟩
abbrev b_La_begin : ByteArray := prog_5_method_18_code
abbrev M_La_begin : um_M := (y_La_begin, b_La_begin, 3, none)
abbrev y_La_emit : MethodName := ⟨R_La, "emit", "(III)V"⟩
abbrev b_La_emit : ByteArray := prog_5_method_20_code
abbrev M_La_emit : um_M := (y_La_emit, b_La_emit, 4, none)
abbrev y_La_setGoal : MethodName := ⟨R_La, "setGoal", "(II)V"⟩
abbrev b_La_setGoal : ByteArray := prog_5_method_21_code
abbrev M_La_setGoal : um_M := (y_La_setGoal, b_La_setGoal, 3, none)
abbrev y_Wo_pop : MethodName := ⟨R_Wo, "pop", "()V"⟩
abbrev b_Wo_pop : ByteArray := prog_10_method_3_code
abbrev M_Wo_pop : um_M := (y_Wo_pop, b_Wo_pop, 1, none)
abbrev y_La_turnIf : MethodName := ⟨R_La, "turnIf", "(III)V"⟩
abbrev b_La_turnIf : ByteArray := prog_5_method_7_code
abbrev M_La_turnIf : um_M := (y_La_turnIf, b_La_turnIf, 6, none)
abbrev y_La_finish : MethodName := ⟨R_La, "finish", "(III)V"⟩
abbrev b_La_finish : ByteArray := prog_5_method_19_code
abbrev M_La_finish : um_M := (y_La_finish, b_La_finish, 4, none)
abbrev y_La_behind : MethodName := ⟨R_La, "behind", "(I)I"⟩
abbrev b_La_behind : ByteArray := prog_5_method_22_code
abbrev M_La_behind : um_M := (y_La_behind, b_La_behind, 1, some .int)
abbrev y_Sc_open : MethodName := ⟨R_Sc, "open", "(I)I"⟩
abbrev b_Sc_open : ByteArray := prog_8_method_8_code
abbrev M_Sc_open : um_M := (y_Sc_open, b_Sc_open, 4, some .int)
abbrev y_Sc_openLoop : MethodName := ⟨R_Sc, "openLoop", "(I)I"⟩
abbrev b_Sc_openLoop : ByteArray := prog_8_method_7_code
abbrev M_Sc_openLoop : um_M := (y_Sc_openLoop, b_Sc_openLoop, 3, some .int)
abbrev y_La_turnWhile : MethodName := ⟨R_La, "turnWhile", "(III)V"⟩
abbrev b_La_turnWhile : ByteArray := prog_5_method_8_code
abbrev M_La_turnWhile : um_M := (y_La_turnWhile, b_La_turnWhile, 6, none)
abbrev y_Sc_finallyAround : MethodName := ⟨R_Sc, "finallyAround", "(II)I"⟩
abbrev b_Sc_finallyAround : ByteArray := prog_8_method_9_code
abbrev M_Sc_finallyAround : um_M := (y_Sc_finallyAround, b_Sc_finallyAround, 5, some .int)
abbrev y_La_leave : MethodName := ⟨R_La, "leave", "(II)V"⟩
abbrev b_La_leave : ByteArray := prog_5_method_11_code
abbrev M_La_leave : um_M := (y_La_leave, b_La_leave, 3, none)
abbrev y_La_turnReturn : MethodName := ⟨R_La, "turnReturn", "(I)V"⟩
abbrev b_La_turnReturn : ByteArray := prog_5_method_9_code
abbrev M_La_turnReturn : um_M := (y_La_turnReturn, b_La_turnReturn, 3, none)
abbrev y_La_turnBreak : MethodName := ⟨R_La, "turnBreak", "(I)V"⟩
abbrev b_La_turnBreak : ByteArray := prog_5_method_10_code
abbrev M_La_turnBreak : um_M := (y_La_turnBreak, b_La_turnBreak, 5, none)
abbrev y_Ha_comesBefore : MethodName := ⟨R_Ha, "comesBefore", "(II[I)Z"⟩
abbrev b_Ha_comesBefore : ByteArray := prog_3_method_3_code
abbrev M_Ha_comesBefore : um_M := (y_Ha_comesBefore, b_Ha_comesBefore, 3, some .boolean)
abbrev y_Ha_add : MethodName := ⟨R_Ha, "add", "(III[I)V"⟩
abbrev b_Ha_add : ByteArray := prog_3_method_2_code
abbrev M_Ha_add : um_M := (y_Ha_add, b_Ha_add, 6, none)
abbrev y_Tr_catchAfter : MethodName := ⟨R_Tr, "catchAfter", "(II)I"⟩
abbrev b_Tr_catchAfter : ByteArray := prog_9_method_6_code
abbrev M_Tr_catchAfter : um_M := (y_Tr_catchAfter, b_Tr_catchAfter, 6, some .int)
abbrev y_La_beginCatch : MethodName := ⟨R_La, "beginCatch", "(II)V"⟩
abbrev b_La_beginCatch : ByteArray := prog_5_method_15_code
abbrev M_La_beginCatch : um_M := (y_La_beginCatch, b_La_beginCatch, 4, none)
abbrev y_La_beginFinally : MethodName := ⟨R_La, "beginFinally", "(I)V"⟩
abbrev b_La_beginFinally : ByteArray := prog_5_method_17_code
abbrev M_La_beginFinally : um_M := (y_La_beginFinally, b_La_beginFinally, 2, none)
abbrev y_La_beginAny : MethodName := ⟨R_La, "beginAny", "(I)V"⟩
abbrev b_La_beginAny : ByteArray := prog_5_method_16_code
abbrev M_La_beginAny : um_M := (y_La_beginAny, b_La_beginAny, 3, none)
abbrev y_La_turnApart : MethodName := ⟨R_La, "turnApart", "(II)V"⟩
abbrev b_La_turnApart : ByteArray := prog_5_method_14_code
abbrev M_La_turnApart : um_M := (y_La_turnApart, b_La_turnApart, 4, none)
abbrev y_La_setDone : MethodName := ⟨R_La, "setDone", "(I)V"⟩
abbrev b_La_setDone : ByteArray := prog_5_method_13_code
abbrev M_La_setDone : um_M := (y_La_setDone, b_La_setDone, 2, none)
abbrev y_Sc_openTry : MethodName := ⟨R_Sc, "openTry", "(III)I"⟩
abbrev b_Sc_openTry : ByteArray := prog_8_method_6_code
abbrev M_Sc_openTry : um_M := (y_Sc_openTry, b_Sc_openTry, 5, some .int)
abbrev y_La_turnTry : MethodName := ⟨R_La, "turnTry", "(III)V"⟩
abbrev b_La_turnTry : ByteArray := prog_5_method_12_code
abbrev M_La_turnTry : um_M := (y_La_turnTry, b_La_turnTry, 5, none)
abbrev y_La_partsThen : MethodName := ⟨R_La, "partsThen", "(IIIIII)V"⟩
abbrev b_La_partsThen : ByteArray := prog_5_method_6_code
abbrev M_La_partsThen : um_M := (y_La_partsThen, b_La_partsThen, 7, none)
abbrev y_La_turnPlain : MethodName := ⟨R_La, "turnPlain", "(III)V"⟩
abbrev b_La_turnPlain : ByteArray := prog_5_method_5_code
abbrev M_La_turnPlain : um_M := (y_La_turnPlain, b_La_turnPlain, 6, none)
abbrev y_La_takeTurns : MethodName := ⟨R_La, "takeTurns", "()V"⟩
abbrev b_La_takeTurns : ByteArray := prog_5_method_4_code
abbrev M_La_takeTurns : um_M := (y_La_takeTurns, b_La_takeTurns, 5, none)
abbrev y_La_layFunction : MethodName := ⟨R_La, "layFunction", "(I)V"⟩
abbrev b_La_layFunction : ByteArray := prog_5_method_3_code
abbrev M_La_layFunction : um_M := (y_La_layFunction, b_La_layFunction, 5, none)
abbrev y_Sc_clear : MethodName := ⟨R_Sc, "clear", "()V"⟩
abbrev b_Sc_clear : ByteArray := prog_8_method_2_code
abbrev M_Sc_clear : um_M := (y_Sc_clear, b_Sc_clear, 1, none)
abbrev y_La_layDown : MethodName := ⟨R_La, "layDown", "(Z)I"⟩
abbrev b_La_layDown : ByteArray := prog_5_method_2_code
abbrev M_La_layDown : um_M := (y_La_layDown, b_La_layDown, 3, some .int)
abbrev y_UM_lay : MethodName := ⟨R_UM, "lay", "(Z)I"⟩
abbrev b_UM_lay : ByteArray := prog_1_method_5_code
abbrev M_UM_lay : um_M := (y_UM_lay, b_UM_lay, 2, some .int)
abbrev y_Co_stands : MethodName := ⟨R_Co, "stands", "()Z"⟩
abbrev b_Co_stands : ByteArray := prog_2_method_3_code
abbrev M_Co_stands : um_M := (y_Co_stands, b_Co_stands, 1, some .boolean)
abbrev y_UM_laid : MethodName := ⟨R_UM, "laid", "(I)I"⟩
abbrev b_UM_laid : ByteArray := prog_1_method_6_code
abbrev M_UM_laid : um_M := (y_UM_laid, b_UM_laid, 2, some .int)
abbrev y_UM_entry : MethodName := ⟨R_UM, "entry", "(I)I"⟩
abbrev b_UM_entry : ByteArray := prog_1_method_8_code
abbrev M_UM_entry : um_M := (y_UM_entry, b_UM_entry, 2, some .int)
abbrev y_Ma_pull : MethodName := ⟨R_Ma, "pull", "()I"⟩
abbrev b_Ma_pull : ByteArray := prog_6_method_12_code
abbrev M_Ma_pull : um_M := (y_Ma_pull, b_Ma_pull, 1, some .int)
abbrev y_Co_rowFor : MethodName := ⟨R_Co, "rowFor", "(II)I"⟩
abbrev b_Co_rowFor : ByteArray := prog_2_method_4_code
abbrev M_Co_rowFor : um_M := (y_Co_rowFor, b_Co_rowFor, 6, some .int)
abbrev y_Ma_push : MethodName := ⟨R_Ma, "push", "(I)V"⟩
abbrev b_Ma_push : ByteArray := prog_6_method_11_code
abbrev M_Ma_push : um_M := (y_Ma_push, b_Ma_push, 2, none)
abbrev y_Ma_raise : MethodName := ⟨R_Ma, "raise", "(I)V"⟩
abbrev b_Ma_raise : ByteArray := prog_6_method_8_code
abbrev M_Ma_raise : um_M := (y_Ma_raise, b_Ma_raise, 3, none)
abbrev y_Ma_enter : MethodName := ⟨R_Ma, "enter", "(I)V"⟩
abbrev b_Ma_enter : ByteArray := prog_6_method_6_code
abbrev M_Ma_enter : um_M := (y_Ma_enter, b_Ma_enter, 2, none)
abbrev y_Ma_goBack : MethodName := ⟨R_Ma, "goBack", "()V"⟩
abbrev b_Ma_goBack : ByteArray := prog_6_method_7_code
abbrev M_Ma_goBack : um_M := (y_Ma_goBack, b_Ma_goBack, 1, none)
abbrev y_Ma_placeOf : MethodName := ⟨R_Ma, "placeOf", "(I)I"⟩
abbrev b_Ma_placeOf : ByteArray := prog_6_method_10_code
abbrev M_Ma_placeOf : um_M := (y_Ma_placeOf, b_Ma_placeOf, 2, some .int)
abbrev y_Ma_combine : MethodName := ⟨R_Ma, "combine", "(III)I"⟩
abbrev b_Ma_combine : ByteArray := prog_6_method_5_code
abbrev M_Ma_combine : um_M := (y_Ma_combine, b_Ma_combine, 3, some .int)
abbrev y_Ma_putOut : MethodName := ⟨R_Ma, "putOut", "(I)V"⟩
abbrev b_Ma_putOut : ByteArray := prog_6_method_9_code
abbrev M_Ma_putOut : um_M := (y_Ma_putOut, b_Ma_putOut, 2, none)
abbrev y_Ma_doStraight : MethodName := ⟨R_Ma, "doStraight", "(II)V"⟩
abbrev b_Ma_doStraight : ByteArray := prog_6_method_4_code
abbrev M_Ma_doStraight : um_M := (y_Ma_doStraight, b_Ma_doStraight, 5, none)
abbrev y_Ma_doStep : MethodName := ⟨R_Ma, "doStep", "()V"⟩
abbrev b_Ma_doStep : ByteArray := prog_6_method_3_code
abbrev M_Ma_doStep : um_M := (y_Ma_doStep, b_Ma_doStep, 4, none)
abbrev y_Ma_start : MethodName := ⟨R_Ma, "start", "(I)I"⟩
abbrev b_Ma_start : ByteArray := prog_6_method_2_code
abbrev M_Ma_start : um_M := (y_Ma_start, b_Ma_start, 3, some .int)
abbrev y_UM_run : MethodName := ⟨R_UM, "run", "(I)I"⟩
abbrev b_UM_run : ByteArray := prog_1_method_10_code
abbrev M_UM_run : um_M := (y_UM_run, b_UM_run, 2, some .int)
abbrev y_UM_latest : MethodName := ⟨R_UM, "latest", "(I)I"⟩
abbrev b_UM_latest : ByteArray := prog_1_method_11_code
abbrev M_UM_latest : um_M := (y_UM_latest, b_UM_latest, 2, some .int)
abbrev y_UM_out : MethodName := ⟨R_UM, "out", "(I)I"⟩
abbrev b_UM_out : ByteArray := prog_1_method_12_code
abbrev M_UM_out : um_M := (y_UM_out, b_UM_out, 2, some .int)
abbrev y_UM_variable : MethodName := ⟨R_UM, "variable", "(I)I"⟩
abbrev b_UM_variable : ByteArray := prog_1_method_13_code
abbrev M_UM_variable : um_M := (y_UM_variable, b_UM_variable, 2, some .int)
abbrev y_Mo_isThere : MethodName := ⟨R_Mo, "isThere", "(III)Z"⟩
abbrev b_Mo_isThere : ByteArray := prog_12_method_3_code
abbrev M_Mo_isThere : um_M := (y_Mo_isThere, b_Mo_isThere, 4, some .boolean)
abbrev y_Mo_isStatement : MethodName := ⟨R_Mo, "isStatement", "(I)Z"⟩
abbrev b_Mo_isStatement : ByteArray := prog_12_method_5_code
abbrev M_Mo_isStatement : um_M := (y_Mo_isStatement, b_Mo_isStatement, 2, some .boolean)
abbrev y_Mo_isVariable : MethodName := ⟨R_Mo, "isVariable", "(I)Z"⟩
abbrev b_Mo_isVariable : ByteArray := prog_12_method_7_code
abbrev M_Mo_isVariable : um_M := (y_Mo_isVariable, b_Mo_isVariable, 1, some .boolean)
abbrev y_Mo_isExpression : MethodName := ⟨R_Mo, "isExpression", "(I)Z"⟩
abbrev b_Mo_isExpression : ByteArray := prog_12_method_4_code
abbrev M_Mo_isExpression : um_M := (y_Mo_isExpression, b_Mo_isExpression, 2, some .boolean)
abbrev y_Mo_isCatch : MethodName := ⟨R_Mo, "isCatch", "(I)Z"⟩
abbrev b_Mo_isCatch : ByteArray := prog_12_method_6_code
abbrev M_Mo_isCatch : um_M := (y_Mo_isCatch, b_Mo_isCatch, 2, some .boolean)
abbrev y_Mo_can : MethodName := ⟨R_Mo, "can", "(IIIII)Z"⟩
abbrev b_Mo_can : ByteArray := prog_12_method_8_code
abbrev M_Mo_can : um_M := (y_Mo_can, b_Mo_can, 6, some .boolean)
abbrev y_Mo_adds : MethodName := ⟨R_Mo, "adds", "(IIIII)I"⟩
abbrev b_Mo_adds : ByteArray := prog_12_method_9_code
abbrev M_Mo_adds : um_M := (y_Mo_adds, b_Mo_adds, 6, some .int)
abbrev y_Mo_node : MethodName := ⟨R_Mo, "node", "(IIIII)I"⟩
abbrev b_Mo_node : ByteArray := prog_12_method_10_code
abbrev M_Mo_node : um_M := (y_Mo_node, b_Mo_node, 6, some .int)
abbrev y_Mo_catchBehind : MethodName := ⟨R_Mo, "catchBehind", "(IIIII)I"⟩
abbrev b_Mo_catchBehind : ByteArray := prog_12_method_11_code
abbrev M_Mo_catchBehind : um_M := (y_Mo_catchBehind, b_Mo_catchBehind, 6, some .int)
abbrev y_Mo_body : MethodName := ⟨R_Mo, "body", "(II)Z"⟩
abbrev b_Mo_body : ByteArray := prog_12_method_12_code
abbrev M_Mo_body : um_M := (y_Mo_body, b_Mo_body, 3, some .boolean)
abbrev y_Mo_hasFinally : MethodName := ⟨R_Mo, "hasFinally", "(I)Z"⟩
abbrev b_Mo_hasFinally : ByteArray := prog_12_method_13_code
abbrev M_Mo_hasFinally : um_M := (y_Mo_hasFinally, b_Mo_hasFinally, 2, some .boolean)
abbrev y_Mo_row_IIIII : MethodName := ⟨R_Mo, "row", "(IIIII)V"⟩
abbrev b_Mo_row_IIIII : ByteArray := prog_12_method_33_code
abbrev M_Mo_row_IIIII : um_M := (y_Mo_row_IIIII, b_Mo_row_IIIII, 6, none)
abbrev y_Mo_isAround : MethodName := ⟨R_Mo, "isAround", "(II)I"⟩
abbrev b_Mo_isAround : ByteArray := prog_12_method_32_code
abbrev M_Mo_isAround : um_M := (y_Mo_isAround, b_Mo_isAround, 4, some .int)
abbrev y_Mo_stretches : MethodName := ⟨R_Mo, "stretches", "(IZIII)V"⟩
abbrev b_Mo_stretches : ByteArray := prog_12_method_34_code
abbrev M_Mo_stretches : um_M := (y_Mo_stretches, b_Mo_stretches, 10, none)
abbrev y_Mo_catches : MethodName := ⟨R_Mo, "catches", "(I)I"⟩
abbrev b_Mo_catches : ByteArray := prog_12_method_14_code
abbrev M_Mo_catches : um_M := (y_Mo_catches, b_Mo_catches, 4, some .int)
abbrev y_Mo_catchAt : MethodName := ⟨R_Mo, "catchAt", "(II)I"⟩
abbrev b_Mo_catchAt : ByteArray := prog_12_method_15_code
abbrev M_Mo_catchAt : um_M := (y_Mo_catchAt, b_Mo_catchAt, 5, some .int)
abbrev y_Mo_table : MethodName := ⟨R_Mo, "table", "(I)V"⟩
abbrev b_Mo_table : ByteArray := prog_12_method_35_code
abbrev M_Mo_table : um_M := (y_Mo_table, b_Mo_table, 5, none)
abbrev y_Mo_separates : MethodName := ⟨R_Mo, "separates", "(I)V"⟩
abbrev b_Mo_separates : ByteArray := prog_12_method_31_code
abbrev M_Mo_separates : um_M := (y_Mo_separates, b_Mo_separates, 2, none)
abbrev y_Mo_put : MethodName := ⟨R_Mo, "put", "(III)V"⟩
abbrev b_Mo_put : ByteArray := prog_12_method_16_code
abbrev M_Mo_put : um_M := (y_Mo_put, b_Mo_put, 4, none)
abbrev y_Mo_begin : MethodName := ⟨R_Mo, "begin", "(IIII)V"⟩
abbrev b_Mo_begin : ByteArray := prog_12_method_17_code
abbrev M_Mo_begin : um_M := (y_Mo_begin, b_Mo_begin, 5, none)
abbrev y_Mo_last : MethodName := ⟨R_Mo, "last", "(I)V"⟩
abbrev b_Mo_last : ByteArray := prog_12_method_19_code
abbrev M_Mo_last : um_M := (y_Mo_last, b_Mo_last, 2, none)
abbrev y_Mo_loop : MethodName := ⟨R_Mo, "loop", "(I)I"⟩
abbrev b_Mo_loop : ByteArray := prog_12_method_27_code
abbrev M_Mo_loop : um_M := (y_Mo_loop, b_Mo_loop, 3, some .int)
abbrev y_Mo_leaves : MethodName := ⟨R_Mo, "leaves", "(II)V"⟩
abbrev b_Mo_leaves : ByteArray := prog_12_method_28_code
abbrev M_Mo_leaves : um_M := (y_Mo_leaves, b_Mo_leaves, 6, none)
abbrev y_Mo_part : MethodName := ⟨R_Mo, "part", "(II)V"⟩
abbrev b_Mo_part : ByteArray := prog_12_method_18_code
abbrev M_Mo_part : um_M := (y_Mo_part, b_Mo_part, 3, none)
abbrev y_Mo_decides : MethodName := ⟨R_Mo, "decides", "(II)V"⟩
abbrev b_Mo_decides : ByteArray := prog_12_method_25_code
abbrev M_Mo_decides : um_M := (y_Mo_decides, b_Mo_decides, 3, none)
abbrev y_Mo_item : MethodName := ⟨R_Mo, "item", "(I)V"⟩
abbrev b_Mo_item : ByteArray := prog_12_method_20_code
abbrev M_Mo_item : um_M := (y_Mo_item, b_Mo_item, 2, none)
abbrev y_Mo_ends : MethodName := ⟨R_Mo, "ends", "(I)V"⟩
abbrev b_Mo_ends : ByteArray := prog_12_method_21_code
abbrev M_Mo_ends : um_M := (y_Mo_ends, b_Mo_ends, 3, none)
abbrev y_Mo_repeats : MethodName := ⟨R_Mo, "repeats", "(II)V"⟩
abbrev b_Mo_repeats : ByteArray := prog_12_method_26_code
abbrev M_Mo_repeats : um_M := (y_Mo_repeats, b_Mo_repeats, 3, none)
abbrev y_Mo_statement : MethodName := ⟨R_Mo, "statement", "(II)V"⟩
abbrev b_Mo_statement : ByteArray := prog_12_method_24_code
abbrev M_Mo_statement : um_M := (y_Mo_statement, b_Mo_statement, 4, none)
abbrev y_Mo_tries : MethodName := ⟨R_Mo, "tries", "(I)V"⟩
abbrev b_Mo_tries : ByteArray := prog_12_method_29_code
abbrev M_Mo_tries : um_M := (y_Mo_tries, b_Mo_tries, 3, none)
abbrev y_Mo_apart : MethodName := ⟨R_Mo, "apart", "(I)V"⟩
abbrev b_Mo_apart : ByteArray := prog_12_method_30_code
abbrev M_Mo_apart : um_M := (y_Mo_apart, b_Mo_apart, 5, none)
abbrev y_Mo_expression : MethodName := ⟨R_Mo, "expression", "(II)V"⟩
abbrev b_Mo_expression : ByteArray := prog_12_method_23_code
abbrev M_Mo_expression : um_M := (y_Mo_expression, b_Mo_expression, 4, none)
abbrev y_Mo_goesOn : MethodName := ⟨R_Mo, "goesOn", "()V"⟩
abbrev b_Mo_goesOn : ByteArray := prog_12_method_22_code
abbrev M_Mo_goesOn : um_M := (y_Mo_goesOn, b_Mo_goesOn, 3, none)
abbrev y_Mo_laysAll : MethodName := ⟨R_Mo, "laysAll", "()V"⟩
abbrev b_Mo_laysAll : ByteArray := prog_12_method_36_code
abbrev M_Mo_laysAll : um_M := (y_Mo_laysAll, b_Mo_laysAll, 4, none)
abbrev y_Mo_lay : MethodName := ⟨R_Mo, "lay", "(Z)I"⟩
abbrev b_Mo_lay : ByteArray := prog_12_method_37_code
abbrev M_Mo_lay : um_M := (y_Mo_lay, b_Mo_lay, 4, some .int)
abbrev y_Mo_laid : MethodName := ⟨R_Mo, "laid", "(I)I"⟩
abbrev b_Mo_laid : ByteArray := prog_12_method_38_code
abbrev M_Mo_laid : um_M := (y_Mo_laid, b_Mo_laid, 2, some .int)
abbrev y_Mo_instruction : MethodName := ⟨R_Mo, "instruction", "(II)I"⟩
abbrev b_Mo_instruction : ByteArray := prog_12_method_39_code
abbrev M_Mo_instruction : um_M := (y_Mo_instruction, b_Mo_instruction, 3, some .int)
abbrev y_Mo_entry : MethodName := ⟨R_Mo, "entry", "(I)I"⟩
abbrev b_Mo_entry : ByteArray := prog_12_method_40_code
abbrev M_Mo_entry : um_M := (y_Mo_entry, b_Mo_entry, 2, some .int)
abbrev y_Mo_row_II : MethodName := ⟨R_Mo, "row", "(II)I"⟩
abbrev b_Mo_row_II : ByteArray := prog_12_method_41_code
abbrev M_Mo_row_II : um_M := (y_Mo_row_II, b_Mo_row_II, 3, some .int)
abbrev y_Mo_push : MethodName := ⟨R_Mo, "push", "(I)V"⟩
abbrev b_Mo_push : ByteArray := prog_12_method_42_code
abbrev M_Mo_push : um_M := (y_Mo_push, b_Mo_push, 2, none)
abbrev y_Mo_pop : MethodName := ⟨R_Mo, "pop", "()I"⟩
abbrev b_Mo_pop : ByteArray := prog_12_method_43_code
abbrev M_Mo_pop : um_M := (y_Mo_pop, b_Mo_pop, 1, some .int)
abbrev y_Mo_throwing : MethodName := ⟨R_Mo, "throwing", "(I)V"⟩
abbrev b_Mo_throwing : ByteArray := prog_12_method_44_code
abbrev M_Mo_throwing : um_M := (y_Mo_throwing, b_Mo_throwing, 4, none)
abbrev y_Mo_calls : MethodName := ⟨R_Mo, "calls", "(I)V"⟩
abbrev b_Mo_calls : ByteArray := prog_12_method_47_code
abbrev M_Mo_calls : um_M := (y_Mo_calls, b_Mo_calls, 2, none)
abbrev y_Mo_returns : MethodName := ⟨R_Mo, "returns", "()V"⟩
abbrev b_Mo_returns : ByteArray := prog_12_method_48_code
abbrev M_Mo_returns : um_M := (y_Mo_returns, b_Mo_returns, 1, none)
abbrev y_Mo_worked : MethodName := ⟨R_Mo, "worked", "(III)I"⟩
abbrev b_Mo_worked : ByteArray := prog_12_method_45_code
abbrev M_Mo_worked : um_M := (y_Mo_worked, b_Mo_worked, 3, some .int)
abbrev y_Mo_works : MethodName := ⟨R_Mo, "works", "(I)V"⟩
abbrev b_Mo_works : ByteArray := prog_12_method_46_code
abbrev M_Mo_works : um_M := (y_Mo_works, b_Mo_works, 4, none)
abbrev y_Mo_step : MethodName := ⟨R_Mo, "step", "()V"⟩
abbrev b_Mo_step : ByteArray := prog_12_method_49_code
abbrev M_Mo_step : um_M := (y_Mo_step, b_Mo_step, 4, none)
abbrev y_Mo_run : MethodName := ⟨R_Mo, "run", "(I)I"⟩
abbrev b_Mo_run : ByteArray := prog_12_method_50_code
abbrev M_Mo_run : um_M := (y_Mo_run, b_Mo_run, 3, some .int)
abbrev y_Mo_latest : MethodName := ⟨R_Mo, "latest", "(I)I"⟩
abbrev b_Mo_latest : ByteArray := prog_12_method_51_code
abbrev M_Mo_latest : um_M := (y_Mo_latest, b_Mo_latest, 2, some .int)
abbrev y_Mo_out : MethodName := ⟨R_Mo, "out", "(I)I"⟩
abbrev b_Mo_out : ByteArray := prog_12_method_52_code
abbrev M_Mo_out : um_M := (y_Mo_out, b_Mo_out, 2, some .int)
abbrev y_Mo_variable : MethodName := ⟨R_Mo, "variable", "(I)I"⟩
abbrev b_Mo_variable : ByteArray := prog_12_method_53_code
abbrev M_Mo_variable : um_M := (y_Mo_variable, b_Mo_variable, 2, some .int)
abbrev y_Mo_thrown : MethodName := ⟨R_Mo, "thrown", "()I"⟩
abbrev b_Mo_thrown : ByteArray := prog_12_method_2_code
abbrev M_Mo_thrown : um_M := (y_Mo_thrown, b_Mo_thrown, 1, some .int)
/-! the words: those of the tables that stay -/
def um_AW : List Cond := lw_tbl.filter goodWord
theorem um_gd : um_good um_AW := fun w hw => good_of_word (List.mem_filter.mp hw).2
theorem um_in (i : Nat) {w : Cond} (h : lw_tbl[i]? = some w) (hg : goodWord w = true) : w ∈ um_AW := List.mem_filter.mpr ⟨List.mem_of_getElem? h, hg⟩
theorem um_all {l : List Cond} (ps : List Nat) (h : l = ps.filterMap (fun i => lw_tbl[i]?)) (hg : l.all goodWord = true) : ∀ w ∈ l, w ∈ um_AW := by
  intro w hw
  have h1 := List.all_eq_true.mp hg w hw
  rw [h] at hw
  obtain ⟨i, -, hi⟩ := List.mem_filterMap.mp hw
  exact um_in i hi h1
def um_SORTS : Nat → Int32 := fun j => ([0, 0, 0, 0, 0, 1, 0, 0, 0, 0, 3, 3, 0, 0, 0, 3, 3, 0, 0, 0, 3, 3, 0, 0, 0, 3, 3, 0, 0, 0, 3, 3, 0, 0, 0, 3, 3, 0, 0, 0, 0, 0, 0, 0, 0, 1, 3, 0, 0, 0, 3, 0, 0, 0, 0, 4, 4, 0, 0, 0, 3, 4, 4, 0, 0, 3, 4, 0, 0, 0, 3, 0, 0, 0, 0, 2, 0, 0, 0, 0, 0, 0, 0, 0, 0, 0, 0, 0, 0, 0, 4, 7, 6, 0, 0, 0, 0, 1, 4, 0, 0, 0, 1, 4, 5] : List Int32).getD j 0
def um_SX : List um_X := [("UnwindMill$Tree", "SORTS", 105, um_SORTS)]
set_option maxRecDepth 100000 in
theorem cl_UM : um_Cl um_cl um_AW 0 R_UM F_UM 4 := ⟨rfl, um_all [352, 354, 356, 358] (by decide +kernel) (by decide +kernel), ⟨t_UM, by decide +kernel⟩, by decide +kernel⟩
set_option maxRecDepth 100000 in
theorem cl_Tr : um_Cl um_cl um_AW 1 R_Tr F_Tr 4 := ⟨rfl, um_all [111, 113, 115, 117] (by decide +kernel) (by decide +kernel), ⟨t_Tr, by decide +kernel⟩, by decide +kernel⟩
set_option maxRecDepth 100000 in
theorem cl_Co : um_Cl um_cl um_AW 2 R_Co F_Co 9 := ⟨rfl, um_all [157, 159, 161, 163, 165, 167, 169, 171, 173] (by decide +kernel) (by decide +kernel), ⟨t_Co, by decide +kernel⟩, by decide +kernel⟩
set_option maxRecDepth 100000 in
theorem cl_La : um_Cl um_cl um_AW 3 R_La F_La 9 := ⟨rfl, um_all [285, 287, 289, 291, 293, 295, 297, 299, 301] (by decide +kernel) (by decide +kernel), ⟨t_La, by decide +kernel⟩, by decide +kernel⟩
set_option maxRecDepth 100000 in
theorem cl_Ma : um_Cl um_cl um_AW 4 R_Ma F_Ma 11 := ⟨rfl, um_all [325, 327, 329, 331, 333, 335, 337, 339, 341, 343, 345] (by decide +kernel) (by decide +kernel), ⟨t_Ma, by decide +kernel⟩, by decide +kernel⟩
set_option maxRecDepth 100000 in
theorem cl_Sc : um_Cl um_cl um_AW 5 R_Sc F_Sc 10 := ⟨rfl, um_all [205, 207, 209, 211, 213, 215, 217, 219, 221, 223] (by decide +kernel) (by decide +kernel), ⟨t_Sc, by decide +kernel⟩, by decide +kernel⟩
set_option maxRecDepth 100000 in
theorem cl_Wo : um_Cl um_cl um_AW 6 R_Wo F_Wo 5 := ⟨rfl, um_all [242, 244, 246, 248, 250] (by decide +kernel) (by decide +kernel), ⟨t_Wo, by decide +kernel⟩, by decide +kernel⟩
set_option maxRecDepth 100000 in
theorem cl_Ha : um_Cl um_cl um_AW 7 R_Ha F_Ha 4 := ⟨rfl, um_all [267, 269, 271, 273] (by decide +kernel) (by decide +kernel), ⟨t_Ha, by decide +kernel⟩, by decide +kernel⟩
set_option maxRecDepth 100000 in
theorem cl_Mo : um_Cl um_cl um_AW 8 R_Mo F_Mo 58 := ⟨rfl, um_all [818, 820, 822, 824, 826, 828, 830, 832, 834, 836, 838, 840, 842, 844, 846, 848, 850, 852, 854, 856, 858, 860, 862, 864, 866, 868, 870, 872, 874, 876, 878, 880, 882, 884, 886, 888, 890, 892, 894, 896, 898, 900, 902, 904, 906, 908, 910, 912, 914, 916, 918, 920, 922, 924, 926, 928, 930, 932] (by decide +kernel) (by decide +kernel), ⟨t_Mo, by decide +kernel⟩, by decide +kernel⟩
set_option maxRecDepth 100000 in
theorem wc_Ar_fill_AII : Cond.code M_Ar_fill_AII.1 M_Ar_fill_AII.2.1 M_Ar_fill_AII.2.2.1 M_Ar_fill_AII.2.2.2 ∈ um_AW := um_in 105 (by rfl) rfl
set_option maxRecDepth 100000 in
theorem wi_Ar : Cond.initialized R_Ar ∈ um_AW := um_in 75 (by decide +kernel) rfl
set_option maxRecDepth 100000 in
theorem wc_Tr_kindOf : Cond.code M_Tr_kindOf.1 M_Tr_kindOf.2.1 M_Tr_kindOf.2.2.1 M_Tr_kindOf.2.2.2 ∈ um_AW := um_in 378 (by rfl) rfl
set_option maxRecDepth 100000 in
theorem wi_Tr : Cond.initialized R_Tr ∈ um_AW := um_in 74 (by decide +kernel) rfl
set_option maxRecDepth 100000 in
theorem wc_UM_isVariable : Cond.code M_UM_isVariable.1 M_UM_isVariable.2.1 M_UM_isVariable.2.2.1 M_UM_isVariable.2.2.2 ∈ um_AW := um_in 381 (by rfl) rfl
set_option maxRecDepth 100000 in
theorem wi_UM : Cond.initialized R_UM ∈ um_AW := um_in 73 (by decide +kernel) rfl
set_option maxRecDepth 100000 in
theorem wc_UM_isFunction : Cond.code M_UM_isFunction.1 M_UM_isFunction.2.1 M_UM_isFunction.2.2.1 M_UM_isFunction.2.2.2 ∈ um_AW := um_in 384 (by rfl) rfl
set_option maxRecDepth 100000 in
theorem wc_Tr_fits : Cond.code M_Tr_fits.1 M_Tr_fits.2.1 M_Tr_fits.2.2.1 M_Tr_fits.2.2.2 ∈ um_AW := um_in 374 (by rfl) rfl
set_option maxRecDepth 100000 in
theorem wc_Tr_add : Cond.code M_Tr_add.1 M_Tr_add.2.1 M_Tr_add.2.2.1 M_Tr_add.2.2.2 ∈ um_AW := um_in 368 (by rfl) rfl
set_option maxRecDepth 100000 in
theorem wc_UM_node : Cond.code M_UM_node.1 M_UM_node.2.1 M_UM_node.2.2.1 M_UM_node.2.2.2 ∈ um_AW := um_in 364 (by rfl) rfl
set_option maxRecDepth 100000 in
theorem wc_UM_catchBehind : Cond.code M_UM_catchBehind.1 M_UM_catchBehind.2.1 M_UM_catchBehind.2.2.1 M_UM_catchBehind.2.2.2 ∈ um_AW := um_in 388 (by rfl) rfl
set_option maxRecDepth 100000 in
theorem wc_Tr_setBody : Cond.code M_Tr_setBody.1 M_Tr_setBody.2.1 M_Tr_setBody.2.2.1 M_Tr_setBody.2.2.2 ∈ um_AW := um_in 396 (by rfl) rfl
set_option maxRecDepth 100000 in
theorem wc_UM_body : Cond.code M_UM_body.1 M_UM_body.2.1 M_UM_body.2.2.1 M_UM_body.2.2.2 ∈ um_AW := um_in 392 (by rfl) rfl
set_option maxRecDepth 100000 in
theorem wc_La_settleGoals : Cond.code M_La_settleGoals.1 M_La_settleGoals.2.1 M_La_settleGoals.2.2.1 M_La_settleGoals.2.2.2 ∈ um_AW := um_in 573 (by rfl) rfl
set_option maxRecDepth 100000 in
theorem wi_La : Cond.initialized R_La ∈ um_AW := um_in 77 (by decide +kernel) rfl
set_option maxRecDepth 100000 in
theorem wc_Co_clear : Cond.code M_Co_clear.1 M_Co_clear.2.1 M_Co_clear.2.2.1 M_Co_clear.2.2.2 ∈ um_AW := um_in 408 (by rfl) rfl
set_option maxRecDepth 100000 in
theorem wi_Co : Cond.initialized R_Co ∈ um_AW := um_in 76 (by decide +kernel) rfl
set_option maxRecDepth 100000 in
theorem wc_Tr_part : Cond.code M_Tr_part.1 M_Tr_part.2.1 M_Tr_part.2.2.1 M_Tr_part.2.2.2 ∈ um_AW := um_in 438 (by rfl) rfl
set_option maxRecDepth 100000 in
theorem wc_La_addRow : Cond.code M_La_addRow.1 M_La_addRow.2.1 M_La_addRow.2.2.1 M_La_addRow.2.2.2 ∈ um_AW := um_in 567 (by rfl) rfl
set_option maxRecDepth 100000 in
theorem wc_Sc_scopeOf : Cond.code M_Sc_scopeOf.1 M_Sc_scopeOf.2.1 M_Sc_scopeOf.2.2.1 M_Sc_scopeOf.2.2.2 ∈ um_AW := um_in 465 (by rfl) rfl
set_option maxRecDepth 100000 in
theorem wi_Sc : Cond.initialized R_Sc ∈ um_AW := um_in 78 (by decide +kernel) rfl
set_option maxRecDepth 100000 in
theorem wc_Sc_partOf : Cond.code M_Sc_partOf.1 M_Sc_partOf.2.1 M_Sc_partOf.2.2.1 M_Sc_partOf.2.2.2 ∈ um_AW := um_in 487 (by rfl) rfl
set_option maxRecDepth 100000 in
theorem wc_Sc_partLookedAt : Cond.code M_Sc_partLookedAt.1 M_Sc_partLookedAt.2.1 M_Sc_partLookedAt.2.2.1 M_Sc_partLookedAt.2.2.2 ∈ um_AW := um_in 558 (by rfl) rfl
set_option maxRecDepth 100000 in
theorem wc_La_takesFrom : Cond.code M_La_takesFrom.1 M_La_takesFrom.2.1 M_La_takesFrom.2.2.1 M_La_takesFrom.2.2.2 ∈ um_AW := um_in 562 (by rfl) rfl
set_option maxRecDepth 100000 in
theorem wc_Sc_lookAt : Cond.code M_Sc_lookAt.1 M_Sc_lookAt.2.1 M_Sc_lookAt.2.2.1 M_Sc_lookAt.2.2.2 ∈ um_AW := um_in 554 (by rfl) rfl
set_option maxRecDepth 100000 in
theorem wc_La_addRows : Cond.code M_La_addRows.1 M_La_addRows.2.1 M_La_addRows.2.2.1 M_La_addRows.2.2.2 ∈ um_AW := um_in 550 (by rfl) rfl
set_option maxRecDepth 100000 in
theorem wc_Sc_within : Cond.code M_Sc_within.1 M_Sc_within.2.1 M_Sc_within.2.2.1 M_Sc_within.2.2.2 ∈ um_AW := um_in 468 (by rfl) rfl
set_option maxRecDepth 100000 in
theorem wc_Wo_push : Cond.code M_Wo_push.1 M_Wo_push.2.1 M_Wo_push.2.2.1 M_Wo_push.2.2.2 ∈ um_AW := um_in 424 (by rfl) rfl
set_option maxRecDepth 100000 in
theorem wi_Wo : Cond.initialized R_Wo ∈ um_AW := um_in 79 (by decide +kernel) rfl
set_option maxRecDepth 100000 in
theorem wc_La_begin : Cond.code M_La_begin.1 M_La_begin.2.1 M_La_begin.2.2.1 M_La_begin.2.2.2 ∈ um_AW := um_in 420 (by rfl) rfl
set_option maxRecDepth 100000 in
theorem wc_La_emit : Cond.code M_La_emit.1 M_La_emit.2.1 M_La_emit.2.2.1 M_La_emit.2.2.2 ∈ um_AW := um_in 442 (by rfl) rfl
set_option maxRecDepth 100000 in
theorem wc_La_setGoal : Cond.code M_La_setGoal.1 M_La_setGoal.2.1 M_La_setGoal.2.2.1 M_La_setGoal.2.2.2 ∈ um_AW := um_in 446 (by rfl) rfl
set_option maxRecDepth 100000 in
theorem wc_Wo_pop : Cond.code M_Wo_pop.1 M_Wo_pop.2.1 M_Wo_pop.2.2.1 M_Wo_pop.2.2.2 ∈ um_AW := um_in 450 (by rfl) rfl
set_option maxRecDepth 100000 in
theorem wc_La_turnIf : Cond.code M_La_turnIf.1 M_La_turnIf.2.1 M_La_turnIf.2.2.1 M_La_turnIf.2.2.2 ∈ um_AW := um_in 434 (by rfl) rfl
set_option maxRecDepth 100000 in
theorem wc_La_finish : Cond.code M_La_finish.1 M_La_finish.2.1 M_La_finish.2.2.1 M_La_finish.2.2.2 ∈ um_AW := um_in 476 (by rfl) rfl
set_option maxRecDepth 100000 in
theorem wc_La_behind : Cond.code M_La_behind.1 M_La_behind.2.1 M_La_behind.2.2.1 M_La_behind.2.2.2 ∈ um_AW := um_in 472 (by rfl) rfl
set_option maxRecDepth 100000 in
theorem wc_Sc_open : Cond.code M_Sc_open.1 M_Sc_open.2.1 M_Sc_open.2.2.1 M_Sc_open.2.2.2 ∈ um_AW := um_in 462 (by rfl) rfl
set_option maxRecDepth 100000 in
theorem wc_Sc_openLoop : Cond.code M_Sc_openLoop.1 M_Sc_openLoop.2.1 M_Sc_openLoop.2.2.1 M_Sc_openLoop.2.2.2 ∈ um_AW := um_in 458 (by rfl) rfl
set_option maxRecDepth 100000 in
theorem wc_La_turnWhile : Cond.code M_La_turnWhile.1 M_La_turnWhile.2.1 M_La_turnWhile.2.2.1 M_La_turnWhile.2.2.2 ∈ um_AW := um_in 454 (by rfl) rfl
set_option maxRecDepth 100000 in
theorem wc_Sc_finallyAround : Cond.code M_Sc_finallyAround.1 M_Sc_finallyAround.2.1 M_Sc_finallyAround.2.2.1 M_Sc_finallyAround.2.2.2 ∈ um_AW := um_in 484 (by rfl) rfl
set_option maxRecDepth 100000 in
theorem wc_La_leave : Cond.code M_La_leave.1 M_La_leave.2.1 M_La_leave.2.2.1 M_La_leave.2.2.2 ∈ um_AW := um_in 491 (by rfl) rfl
set_option maxRecDepth 100000 in
theorem wc_La_turnReturn : Cond.code M_La_turnReturn.1 M_La_turnReturn.2.1 M_La_turnReturn.2.2.1 M_La_turnReturn.2.2.2 ∈ um_AW := um_in 480 (by rfl) rfl
set_option maxRecDepth 100000 in
theorem wc_La_turnBreak : Cond.code M_La_turnBreak.1 M_La_turnBreak.2.1 M_La_turnBreak.2.2.1 M_La_turnBreak.2.2.2 ∈ um_AW := um_in 495 (by rfl) rfl
set_option maxRecDepth 100000 in
theorem wc_Ha_comesBefore : Cond.code M_Ha_comesBefore.1 M_Ha_comesBefore.2.1 M_Ha_comesBefore.2.2.1 M_Ha_comesBefore.2.2.2 ∈ um_AW := um_in 531 (by rfl) rfl
set_option maxRecDepth 100000 in
theorem wi_Ha : Cond.initialized R_Ha ∈ um_AW := um_in 80 (by decide +kernel) rfl
set_option maxRecDepth 100000 in
theorem wc_Ha_add : Cond.code M_Ha_add.1 M_Ha_add.2.1 M_Ha_add.2.2.1 M_Ha_add.2.2.2 ∈ um_AW := um_in 528 (by rfl) rfl
set_option maxRecDepth 100000 in
theorem wc_Tr_catchAfter : Cond.code M_Tr_catchAfter.1 M_Tr_catchAfter.2.1 M_Tr_catchAfter.2.2.1 M_Tr_catchAfter.2.2.2 ∈ um_AW := um_in 523 (by rfl) rfl
set_option maxRecDepth 100000 in
theorem wc_La_beginCatch : Cond.code M_La_beginCatch.1 M_La_beginCatch.2.1 M_La_beginCatch.2.2.1 M_La_beginCatch.2.2.2 ∈ um_AW := um_in 519 (by rfl) rfl
set_option maxRecDepth 100000 in
theorem wc_La_beginFinally : Cond.code M_La_beginFinally.1 M_La_beginFinally.2.1 M_La_beginFinally.2.2.1 M_La_beginFinally.2.2.2 ∈ um_AW := um_in 507 (by rfl) rfl
set_option maxRecDepth 100000 in
theorem wc_La_beginAny : Cond.code M_La_beginAny.1 M_La_beginAny.2.1 M_La_beginAny.2.2.1 M_La_beginAny.2.2.2 ∈ um_AW := um_in 535 (by rfl) rfl
set_option maxRecDepth 100000 in
theorem wc_La_turnApart : Cond.code M_La_turnApart.1 M_La_turnApart.2.1 M_La_turnApart.2.2.1 M_La_turnApart.2.2.2 ∈ um_AW := um_in 515 (by rfl) rfl
set_option maxRecDepth 100000 in
theorem wc_La_setDone : Cond.code M_La_setDone.1 M_La_setDone.2.1 M_La_setDone.2.2.1 M_La_setDone.2.2.2 ∈ um_AW := um_in 511 (by rfl) rfl
set_option maxRecDepth 100000 in
theorem wc_Sc_openTry : Cond.code M_Sc_openTry.1 M_Sc_openTry.2.1 M_Sc_openTry.2.2.1 M_Sc_openTry.2.2.2 ∈ um_AW := um_in 503 (by rfl) rfl
set_option maxRecDepth 100000 in
theorem wc_La_turnTry : Cond.code M_La_turnTry.1 M_La_turnTry.2.1 M_La_turnTry.2.2.1 M_La_turnTry.2.2.2 ∈ um_AW := um_in 499 (by rfl) rfl
set_option maxRecDepth 100000 in
theorem wc_La_partsThen : Cond.code M_La_partsThen.1 M_La_partsThen.2.1 M_La_partsThen.2.2.1 M_La_partsThen.2.2.2 ∈ um_AW := um_in 546 (by rfl) rfl
set_option maxRecDepth 100000 in
theorem wc_La_turnPlain : Cond.code M_La_turnPlain.1 M_La_turnPlain.2.1 M_La_turnPlain.2.2.1 M_La_turnPlain.2.2.2 ∈ um_AW := um_in 542 (by rfl) rfl
set_option maxRecDepth 100000 in
theorem wc_La_takeTurns : Cond.code M_La_takeTurns.1 M_La_takeTurns.2.1 M_La_takeTurns.2.2.1 M_La_takeTurns.2.2.2 ∈ um_AW := um_in 428 (by rfl) rfl
set_option maxRecDepth 100000 in
theorem wc_La_layFunction : Cond.code M_La_layFunction.1 M_La_layFunction.2.1 M_La_layFunction.2.2.1 M_La_layFunction.2.2.2 ∈ um_AW := um_in 416 (by rfl) rfl
set_option maxRecDepth 100000 in
theorem wc_Sc_clear : Cond.code M_Sc_clear.1 M_Sc_clear.2.1 M_Sc_clear.2.2.1 M_Sc_clear.2.2.2 ∈ um_AW := um_in 412 (by rfl) rfl
set_option maxRecDepth 100000 in
theorem wc_La_layDown : Cond.code M_La_layDown.1 M_La_layDown.2.1 M_La_layDown.2.2.1 M_La_layDown.2.2.2 ∈ um_AW := um_in 404 (by rfl) rfl
set_option maxRecDepth 100000 in
theorem wc_UM_lay : Cond.code M_UM_lay.1 M_UM_lay.2.1 M_UM_lay.2.2.1 M_UM_lay.2.2.2 ∈ um_AW := um_in 400 (by rfl) rfl
set_option maxRecDepth 100000 in
theorem wc_Co_stands : Cond.code M_Co_stands.1 M_Co_stands.2.1 M_Co_stands.2.2.1 M_Co_stands.2.2.2 ∈ um_AW := um_in 581 (by rfl) rfl
set_option maxRecDepth 100000 in
theorem wc_UM_laid : Cond.code M_UM_laid.1 M_UM_laid.2.1 M_UM_laid.2.2.1 M_UM_laid.2.2.2 ∈ um_AW := um_in 577 (by rfl) rfl
set_option maxRecDepth 100000 in
theorem wc_UM_entry : Cond.code M_UM_entry.1 M_UM_entry.2.1 M_UM_entry.2.2.1 M_UM_entry.2.2.2 ∈ um_AW := um_in 585 (by rfl) rfl
set_option maxRecDepth 100000 in
theorem wc_Ma_pull : Cond.code M_Ma_pull.1 M_Ma_pull.2.1 M_Ma_pull.2.2.1 M_Ma_pull.2.2.2 ∈ um_AW := um_in 603 (by rfl) rfl
set_option maxRecDepth 100000 in
theorem wi_Ma : Cond.initialized R_Ma ∈ um_AW := um_in 81 (by decide +kernel) rfl
set_option maxRecDepth 100000 in
theorem wc_Co_rowFor : Cond.code M_Co_rowFor.1 M_Co_rowFor.2.1 M_Co_rowFor.2.2.1 M_Co_rowFor.2.2.2 ∈ um_AW := um_in 611 (by rfl) rfl
set_option maxRecDepth 100000 in
theorem wc_Ma_push : Cond.code M_Ma_push.1 M_Ma_push.2.1 M_Ma_push.2.2.1 M_Ma_push.2.2.2 ∈ um_AW := um_in 615 (by rfl) rfl
set_option maxRecDepth 100000 in
theorem wc_Ma_raise : Cond.code M_Ma_raise.1 M_Ma_raise.2.1 M_Ma_raise.2.2.1 M_Ma_raise.2.2.2 ∈ um_AW := um_in 607 (by rfl) rfl
set_option maxRecDepth 100000 in
theorem wc_Ma_enter : Cond.code M_Ma_enter.1 M_Ma_enter.2.1 M_Ma_enter.2.2.1 M_Ma_enter.2.2.2 ∈ um_AW := um_in 619 (by rfl) rfl
set_option maxRecDepth 100000 in
theorem wc_Ma_goBack : Cond.code M_Ma_goBack.1 M_Ma_goBack.2.1 M_Ma_goBack.2.2.1 M_Ma_goBack.2.2.2 ∈ um_AW := um_in 624 (by rfl) rfl
set_option maxRecDepth 100000 in
theorem wc_Ma_placeOf : Cond.code M_Ma_placeOf.1 M_Ma_placeOf.2.1 M_Ma_placeOf.2.2.1 M_Ma_placeOf.2.2.2 ∈ um_AW := um_in 628 (by rfl) rfl
set_option maxRecDepth 100000 in
theorem wc_Ma_combine : Cond.code M_Ma_combine.1 M_Ma_combine.2.1 M_Ma_combine.2.2.1 M_Ma_combine.2.2.2 ∈ um_AW := um_in 639 (by rfl) rfl
set_option maxRecDepth 100000 in
theorem wc_Ma_putOut : Cond.code M_Ma_putOut.1 M_Ma_putOut.2.1 M_Ma_putOut.2.2.1 M_Ma_putOut.2.2.2 ∈ um_AW := um_in 636 (by rfl) rfl
set_option maxRecDepth 100000 in
theorem wc_Ma_doStraight : Cond.code M_Ma_doStraight.1 M_Ma_doStraight.2.1 M_Ma_doStraight.2.2.1 M_Ma_doStraight.2.2.2 ∈ um_AW := um_in 632 (by rfl) rfl
set_option maxRecDepth 100000 in
theorem wc_Ma_doStep : Cond.code M_Ma_doStep.1 M_Ma_doStep.2.1 M_Ma_doStep.2.2.1 M_Ma_doStep.2.2.2 ∈ um_AW := um_in 599 (by rfl) rfl
set_option maxRecDepth 100000 in
theorem wc_Ma_start : Cond.code M_Ma_start.1 M_Ma_start.2.1 M_Ma_start.2.2.1 M_Ma_start.2.2.2 ∈ um_AW := um_in 594 (by rfl) rfl
set_option maxRecDepth 100000 in
theorem wc_UM_run : Cond.code M_UM_run.1 M_UM_run.2.1 M_UM_run.2.2.1 M_UM_run.2.2.2 ∈ um_AW := um_in 590 (by rfl) rfl
set_option maxRecDepth 100000 in
theorem wc_UM_latest : Cond.code M_UM_latest.1 M_UM_latest.2.1 M_UM_latest.2.2.1 M_UM_latest.2.2.2 ∈ um_AW := um_in 643 (by rfl) rfl
set_option maxRecDepth 100000 in
theorem wc_UM_out : Cond.code M_UM_out.1 M_UM_out.2.1 M_UM_out.2.2.1 M_UM_out.2.2.2 ∈ um_AW := um_in 647 (by rfl) rfl
set_option maxRecDepth 100000 in
theorem wc_UM_variable : Cond.code M_UM_variable.1 M_UM_variable.2.1 M_UM_variable.2.2.1 M_UM_variable.2.2.2 ∈ um_AW := um_in 651 (by rfl) rfl
set_option maxRecDepth 100000 in
theorem wc_Mo_isThere : Cond.code M_Mo_isThere.1 M_Mo_isThere.2.1 M_Mo_isThere.2.2.1 M_Mo_isThere.2.2.2 ∈ um_AW := um_in 957 (by rfl) rfl
set_option maxRecDepth 100000 in
theorem wi_Mo : Cond.initialized R_Mo ∈ um_AW := um_in 82 (by decide +kernel) rfl
set_option maxRecDepth 100000 in
theorem wc_Mo_isStatement : Cond.code M_Mo_isStatement.1 M_Mo_isStatement.2.1 M_Mo_isStatement.2.2.1 M_Mo_isStatement.2.2.2 ∈ um_AW := um_in 961 (by rfl) rfl
set_option maxRecDepth 100000 in
theorem wc_Mo_isVariable : Cond.code M_Mo_isVariable.1 M_Mo_isVariable.2.1 M_Mo_isVariable.2.2.1 M_Mo_isVariable.2.2.2 ∈ um_AW := um_in 949 (by rfl) rfl
set_option maxRecDepth 100000 in
theorem wc_Mo_isExpression : Cond.code M_Mo_isExpression.1 M_Mo_isExpression.2.1 M_Mo_isExpression.2.2.1 M_Mo_isExpression.2.2.2 ∈ um_AW := um_in 953 (by rfl) rfl
set_option maxRecDepth 100000 in
theorem wc_Mo_isCatch : Cond.code M_Mo_isCatch.1 M_Mo_isCatch.2.1 M_Mo_isCatch.2.2.1 M_Mo_isCatch.2.2.2 ∈ um_AW := um_in 965 (by rfl) rfl
set_option maxRecDepth 100000 in
theorem wc_Mo_can : Cond.code M_Mo_can.1 M_Mo_can.2.1 M_Mo_can.2.2.1 M_Mo_can.2.2.2 ∈ um_AW := um_in 946 (by rfl) rfl
set_option maxRecDepth 100000 in
theorem wc_Mo_adds : Cond.code M_Mo_adds.1 M_Mo_adds.2.1 M_Mo_adds.2.2.1 M_Mo_adds.2.2.2 ∈ um_AW := um_in 969 (by rfl) rfl
set_option maxRecDepth 100000 in
theorem wc_Mo_node : Cond.code M_Mo_node.1 M_Mo_node.2.1 M_Mo_node.2.2.1 M_Mo_node.2.2.2 ∈ um_AW := um_in 942 (by rfl) rfl
set_option maxRecDepth 100000 in
theorem wc_Mo_catchBehind : Cond.code M_Mo_catchBehind.1 M_Mo_catchBehind.2.1 M_Mo_catchBehind.2.2.1 M_Mo_catchBehind.2.2.2 ∈ um_AW := um_in 973 (by rfl) rfl
set_option maxRecDepth 100000 in
theorem wc_Mo_body : Cond.code M_Mo_body.1 M_Mo_body.2.1 M_Mo_body.2.2.1 M_Mo_body.2.2.2 ∈ um_AW := um_in 977 (by rfl) rfl
set_option maxRecDepth 100000 in
theorem wc_Mo_hasFinally : Cond.code M_Mo_hasFinally.1 M_Mo_hasFinally.2.1 M_Mo_hasFinally.2.2.1 M_Mo_hasFinally.2.2.2 ∈ um_AW := um_in 1021 (by rfl) rfl
set_option maxRecDepth 100000 in
theorem wc_Mo_row_IIIII : Cond.code M_Mo_row_IIIII.1 M_Mo_row_IIIII.2.1 M_Mo_row_IIIII.2.2.1 M_Mo_row_IIIII.2.2.2 ∈ um_AW := um_in 1077 (by rfl) rfl
set_option maxRecDepth 100000 in
theorem wc_Mo_isAround : Cond.code M_Mo_isAround.1 M_Mo_isAround.2.1 M_Mo_isAround.2.2.1 M_Mo_isAround.2.2.2 ∈ um_AW := um_in 1073 (by rfl) rfl
set_option maxRecDepth 100000 in
theorem wc_Mo_stretches : Cond.code M_Mo_stretches.1 M_Mo_stretches.2.1 M_Mo_stretches.2.2.1 M_Mo_stretches.2.2.2 ∈ um_AW := um_in 1069 (by rfl) rfl
set_option maxRecDepth 100000 in
theorem wc_Mo_catches : Cond.code M_Mo_catches.1 M_Mo_catches.2.1 M_Mo_catches.2.2.1 M_Mo_catches.2.2.2 ∈ um_AW := um_in 1013 (by rfl) rfl
set_option maxRecDepth 100000 in
theorem wc_Mo_catchAt : Cond.code M_Mo_catchAt.1 M_Mo_catchAt.2.1 M_Mo_catchAt.2.2.1 M_Mo_catchAt.2.2.2 ∈ um_AW := um_in 1017 (by rfl) rfl
set_option maxRecDepth 100000 in
theorem wc_Mo_table : Cond.code M_Mo_table.1 M_Mo_table.2.1 M_Mo_table.2.2.1 M_Mo_table.2.2.2 ∈ um_AW := um_in 1065 (by rfl) rfl
set_option maxRecDepth 100000 in
theorem wc_Mo_separates : Cond.code M_Mo_separates.1 M_Mo_separates.2.1 M_Mo_separates.2.2.1 M_Mo_separates.2.2.2 ∈ um_AW := um_in 1061 (by rfl) rfl
set_option maxRecDepth 100000 in
theorem wc_Mo_put : Cond.code M_Mo_put.1 M_Mo_put.2.1 M_Mo_put.2.2.1 M_Mo_put.2.2.2 ∈ um_AW := um_in 1001 (by rfl) rfl
set_option maxRecDepth 100000 in
theorem wc_Mo_begin : Cond.code M_Mo_begin.1 M_Mo_begin.2.1 M_Mo_begin.2.2.1 M_Mo_begin.2.2.2 ∈ um_AW := um_in 989 (by rfl) rfl
set_option maxRecDepth 100000 in
theorem wc_Mo_last : Cond.code M_Mo_last.1 M_Mo_last.2.1 M_Mo_last.2.2.1 M_Mo_last.2.2.2 ∈ um_AW := um_in 1025 (by rfl) rfl
set_option maxRecDepth 100000 in
theorem wc_Mo_loop : Cond.code M_Mo_loop.1 M_Mo_loop.2.1 M_Mo_loop.2.2.1 M_Mo_loop.2.2.2 ∈ um_AW := um_in 1045 (by rfl) rfl
set_option maxRecDepth 100000 in
theorem wc_Mo_leaves : Cond.code M_Mo_leaves.1 M_Mo_leaves.2.1 M_Mo_leaves.2.2.1 M_Mo_leaves.2.2.2 ∈ um_AW := um_in 1041 (by rfl) rfl
set_option maxRecDepth 100000 in
theorem wc_Mo_part : Cond.code M_Mo_part.1 M_Mo_part.2.1 M_Mo_part.2.2.1 M_Mo_part.2.2.2 ∈ um_AW := um_in 1005 (by rfl) rfl
set_option maxRecDepth 100000 in
theorem wc_Mo_decides : Cond.code M_Mo_decides.1 M_Mo_decides.2.1 M_Mo_decides.2.2.1 M_Mo_decides.2.2.2 ∈ um_AW := um_in 1053 (by rfl) rfl
set_option maxRecDepth 100000 in
theorem wc_Mo_item : Cond.code M_Mo_item.1 M_Mo_item.2.1 M_Mo_item.2.2.1 M_Mo_item.2.2.2 ∈ um_AW := um_in 1033 (by rfl) rfl
set_option maxRecDepth 100000 in
theorem wc_Mo_ends : Cond.code M_Mo_ends.1 M_Mo_ends.2.1 M_Mo_ends.2.2.1 M_Mo_ends.2.2.2 ∈ um_AW := um_in 1037 (by rfl) rfl
set_option maxRecDepth 100000 in
theorem wc_Mo_repeats : Cond.code M_Mo_repeats.1 M_Mo_repeats.2.1 M_Mo_repeats.2.2.1 M_Mo_repeats.2.2.2 ∈ um_AW := um_in 1057 (by rfl) rfl
set_option maxRecDepth 100000 in
theorem wc_Mo_statement : Cond.code M_Mo_statement.1 M_Mo_statement.2.1 M_Mo_statement.2.2.1 M_Mo_statement.2.2.2 ∈ um_AW := um_in 1049 (by rfl) rfl
set_option maxRecDepth 100000 in
theorem wc_Mo_tries : Cond.code M_Mo_tries.1 M_Mo_tries.2.1 M_Mo_tries.2.2.1 M_Mo_tries.2.2.2 ∈ um_AW := um_in 1029 (by rfl) rfl
set_option maxRecDepth 100000 in
theorem wc_Mo_apart : Cond.code M_Mo_apart.1 M_Mo_apart.2.1 M_Mo_apart.2.2.1 M_Mo_apart.2.2.2 ∈ um_AW := um_in 1009 (by rfl) rfl
set_option maxRecDepth 100000 in
theorem wc_Mo_expression : Cond.code M_Mo_expression.1 M_Mo_expression.2.1 M_Mo_expression.2.2.1 M_Mo_expression.2.2.2 ∈ um_AW := um_in 997 (by rfl) rfl
set_option maxRecDepth 100000 in
theorem wc_Mo_goesOn : Cond.code M_Mo_goesOn.1 M_Mo_goesOn.2.1 M_Mo_goesOn.2.2.1 M_Mo_goesOn.2.2.2 ∈ um_AW := um_in 993 (by rfl) rfl
set_option maxRecDepth 100000 in
theorem wc_Mo_laysAll : Cond.code M_Mo_laysAll.1 M_Mo_laysAll.2.1 M_Mo_laysAll.2.2.1 M_Mo_laysAll.2.2.2 ∈ um_AW := um_in 985 (by rfl) rfl
set_option maxRecDepth 100000 in
theorem wc_Mo_lay : Cond.code M_Mo_lay.1 M_Mo_lay.2.1 M_Mo_lay.2.2.1 M_Mo_lay.2.2.2 ∈ um_AW := um_in 981 (by rfl) rfl
set_option maxRecDepth 100000 in
theorem wc_Mo_laid : Cond.code M_Mo_laid.1 M_Mo_laid.2.1 M_Mo_laid.2.2.1 M_Mo_laid.2.2.2 ∈ um_AW := um_in 1083 (by rfl) rfl
set_option maxRecDepth 100000 in
theorem wc_Mo_instruction : Cond.code M_Mo_instruction.1 M_Mo_instruction.2.1 M_Mo_instruction.2.2.1 M_Mo_instruction.2.2.2 ∈ um_AW := um_in 1087 (by rfl) rfl
set_option maxRecDepth 100000 in
theorem wc_Mo_entry : Cond.code M_Mo_entry.1 M_Mo_entry.2.1 M_Mo_entry.2.2.1 M_Mo_entry.2.2.2 ∈ um_AW := um_in 1091 (by rfl) rfl
set_option maxRecDepth 100000 in
theorem wc_Mo_row_II : Cond.code M_Mo_row_II.1 M_Mo_row_II.2.1 M_Mo_row_II.2.2.1 M_Mo_row_II.2.2.2 ∈ um_AW := um_in 1095 (by rfl) rfl
set_option maxRecDepth 100000 in
theorem wc_Mo_push : Cond.code M_Mo_push.1 M_Mo_push.2.1 M_Mo_push.2.2.1 M_Mo_push.2.2.2 ∈ um_AW := um_in 1107 (by rfl) rfl
set_option maxRecDepth 100000 in
theorem wc_Mo_pop : Cond.code M_Mo_pop.1 M_Mo_pop.2.1 M_Mo_pop.2.2.1 M_Mo_pop.2.2.2 ∈ um_AW := um_in 1111 (by rfl) rfl
set_option maxRecDepth 100000 in
theorem wc_Mo_throwing : Cond.code M_Mo_throwing.1 M_Mo_throwing.2.1 M_Mo_throwing.2.2.1 M_Mo_throwing.2.2.2 ∈ um_AW := um_in 1115 (by rfl) rfl
set_option maxRecDepth 100000 in
theorem wc_Mo_calls : Cond.code M_Mo_calls.1 M_Mo_calls.2.1 M_Mo_calls.2.2.1 M_Mo_calls.2.2.2 ∈ um_AW := um_in 1119 (by rfl) rfl
set_option maxRecDepth 100000 in
theorem wc_Mo_returns : Cond.code M_Mo_returns.1 M_Mo_returns.2.1 M_Mo_returns.2.2.1 M_Mo_returns.2.2.2 ∈ um_AW := um_in 1123 (by rfl) rfl
set_option maxRecDepth 100000 in
theorem wc_Mo_worked : Cond.code M_Mo_worked.1 M_Mo_worked.2.1 M_Mo_worked.2.2.1 M_Mo_worked.2.2.2 ∈ um_AW := um_in 1130 (by rfl) rfl
set_option maxRecDepth 100000 in
theorem wc_Mo_works : Cond.code M_Mo_works.1 M_Mo_works.2.1 M_Mo_works.2.2.1 M_Mo_works.2.2.2 ∈ um_AW := um_in 1127 (by rfl) rfl
set_option maxRecDepth 100000 in
theorem wc_Mo_step : Cond.code M_Mo_step.1 M_Mo_step.2.1 M_Mo_step.2.2.1 M_Mo_step.2.2.2 ∈ um_AW := um_in 1103 (by rfl) rfl
set_option maxRecDepth 100000 in
theorem wc_Mo_run : Cond.code M_Mo_run.1 M_Mo_run.2.1 M_Mo_run.2.2.1 M_Mo_run.2.2.2 ∈ um_AW := um_in 1099 (by rfl) rfl
set_option maxRecDepth 100000 in
theorem wc_Mo_latest : Cond.code M_Mo_latest.1 M_Mo_latest.2.1 M_Mo_latest.2.2.1 M_Mo_latest.2.2.2 ∈ um_AW := um_in 1134 (by rfl) rfl
set_option maxRecDepth 100000 in
theorem wc_Mo_out : Cond.code M_Mo_out.1 M_Mo_out.2.1 M_Mo_out.2.2.1 M_Mo_out.2.2.2 ∈ um_AW := um_in 1138 (by rfl) rfl
set_option maxRecDepth 100000 in
theorem wc_Mo_variable : Cond.code M_Mo_variable.1 M_Mo_variable.2.1 M_Mo_variable.2.2.1 M_Mo_variable.2.2.2 ∈ um_AW := um_in 1142 (by rfl) rfl
set_option maxRecDepth 100000 in
theorem wc_Mo_thrown : Cond.code M_Mo_thrown.1 M_Mo_thrown.2.1 M_Mo_thrown.2.2.1 M_Mo_thrown.2.2.2 ∈ um_AW := um_in 938 (by rfl) rfl
set_option maxRecDepth 100000 in
theorem wf_Co_24 : Cond.fieldLink R_Co 24 (F_Co 4).1 (F_Co 4).2.1 (F_Co 4).2.2.1 ∈ um_AW := um_in 141 (by decide +kernel) rfl
theorem f_Co_24 : um_Fd um_cl um_AW R_Co 24 2 4 := ⟨R_Co, F_Co, 9, cl_Co, by decide, Or.inl wf_Co_24⟩
set_option maxRecDepth 100000 in
theorem wf_Co_27 : Cond.fieldLink R_Co 27 (F_Co 5).1 (F_Co 5).2.1 (F_Co 5).2.2.1 ∈ um_AW := um_in 145 (by decide +kernel) rfl
theorem f_Co_27 : um_Fd um_cl um_AW R_Co 27 2 5 := ⟨R_Co, F_Co, 9, cl_Co, by decide, Or.inl wf_Co_27⟩
theorem fw_Co_27 : um_Fw um_cl um_AW R_Co 27 2 5 .int := ⟨R_Co, F_Co, 9, cl_Co, by decide, Or.inl wf_Co_27, rfl, by decide +kernel⟩
set_option maxRecDepth 100000 in
theorem wf_Co_31 : Cond.fieldLink R_Co 31 (F_Co 6).1 (F_Co 6).2.1 (F_Co 6).2.2.1 ∈ um_AW := um_in 148 (by decide +kernel) rfl
theorem f_Co_31 : um_Fd um_cl um_AW R_Co 31 2 6 := ⟨R_Co, F_Co, 9, cl_Co, by decide, Or.inl wf_Co_31⟩
theorem fw_Co_31 : um_Fw um_cl um_AW R_Co 31 2 6 .int := ⟨R_Co, F_Co, 9, cl_Co, by decide, Or.inl wf_Co_31, rfl, by decide +kernel⟩
set_option maxRecDepth 100000 in
theorem wf_Co_34 : Cond.fieldLink R_Co 34 (F_Co 7).1 (F_Co 7).2.1 (F_Co 7).2.2.1 ∈ um_AW := um_in 151 (by decide +kernel) rfl
theorem f_Co_34 : um_Fd um_cl um_AW R_Co 34 2 7 := ⟨R_Co, F_Co, 9, cl_Co, by decide, Or.inl wf_Co_34⟩
theorem fw_Co_34 : um_Fw um_cl um_AW R_Co 34 2 7 .int := ⟨R_Co, F_Co, 9, cl_Co, by decide, Or.inl wf_Co_34, rfl, by decide +kernel⟩
set_option maxRecDepth 100000 in
theorem wf_Co_37 : Cond.fieldLink R_Co 37 (F_Co 8).1 (F_Co 8).2.1 (F_Co 8).2.2.1 ∈ um_AW := um_in 154 (by decide +kernel) rfl
theorem f_Co_37 : um_Fd um_cl um_AW R_Co 37 2 8 := ⟨R_Co, F_Co, 9, cl_Co, by decide, Or.inl wf_Co_37⟩
theorem fw_Co_37 : um_Fw um_cl um_AW R_Co 37 2 8 .int := ⟨R_Co, F_Co, 9, cl_Co, by decide, Or.inl wf_Co_37, rfl, by decide +kernel⟩
set_option maxRecDepth 100000 in
theorem wf_Ha_11 : Cond.fieldLink R_Ha 11 (F_Ha 0).1 (F_Ha 0).2.1 (F_Ha 0).2.2.1 ∈ um_AW := um_in 259 (by decide +kernel) rfl
theorem f_Ha_11 : um_Fd um_cl um_AW R_Ha 11 7 0 := ⟨R_Ha, F_Ha, 4, cl_Ha, by decide, Or.inl wf_Ha_11⟩
set_option maxRecDepth 100000 in
theorem wf_Ha_15 : Cond.fieldLink R_Ha 15 (F_Ha 1).1 (F_Ha 1).2.1 (F_Ha 1).2.2.1 ∈ um_AW := um_in 261 (by decide +kernel) rfl
theorem f_Ha_15 : um_Fd um_cl um_AW R_Ha 15 7 1 := ⟨R_Ha, F_Ha, 4, cl_Ha, by decide, Or.inl wf_Ha_15⟩
set_option maxRecDepth 100000 in
theorem wf_Ha_18 : Cond.fieldLink R_Ha 18 (F_Ha 2).1 (F_Ha 2).2.1 (F_Ha 2).2.2.1 ∈ um_AW := um_in 263 (by decide +kernel) rfl
theorem f_Ha_18 : um_Fd um_cl um_AW R_Ha 18 7 2 := ⟨R_Ha, F_Ha, 4, cl_Ha, by decide, Or.inl wf_Ha_18⟩
set_option maxRecDepth 100000 in
theorem wf_Ha_21 : Cond.fieldLink R_Ha 21 (F_Ha 3).1 (F_Ha 3).2.1 (F_Ha 3).2.2.1 ∈ um_AW := um_in 265 (by decide +kernel) rfl
theorem f_Ha_21 : um_Fd um_cl um_AW R_Ha 21 7 3 := ⟨R_Ha, F_Ha, 4, cl_Ha, by decide, Or.inl wf_Ha_21⟩
theorem fw_Ha_21 : um_Fw um_cl um_AW R_Ha 21 7 3 .int := ⟨R_Ha, F_Ha, 4, cl_Ha, by decide, Or.inl wf_Ha_21, rfl, by decide +kernel⟩
set_option maxRecDepth 100000 in
theorem wl_Ha_25 : Cond.methodLink R_Ha 25 M_Ha_comesBefore.1 ∈ um_AW := um_in 529 (by decide +kernel) rfl
set_option maxRecDepth 100000 in
theorem ws_Ha_comesBefore : Cond.static M_Ha_comesBefore.1 ∈ um_AW := um_in 530 (by decide +kernel) rfl
theorem g_Ha_25 : um_Is um_AW R_Ha 25 M_Ha_comesBefore 3 := ⟨⟨um_gd, wc_Ha_comesBefore, wi_Ha, ⟨by decide, by decide, by decide +kernel⟩, Or.inl wl_Ha_25⟩, ws_Ha_comesBefore⟩
set_option maxRecDepth 100000 in
theorem wf_La_12 : Cond.fieldLink R_La 12 (F_La 2).1 (F_La 2).2.1 (F_La 2).2.2.1 ∈ um_AW := um_in 278 (by decide +kernel) rfl
theorem f_La_12 : um_Fd um_cl um_AW R_La 12 3 2 := ⟨R_La, F_La, 9, cl_La, by decide, Or.inl wf_La_12⟩
set_option maxRecDepth 100000 in
theorem wf_La_21 : Cond.fieldLink R_La 21 (F_La 3).1 (F_La 3).2.1 (F_La 3).2.2.1 ∈ um_AW := um_in 279 (by decide +kernel) rfl
theorem f_La_21 : um_Fd um_cl um_AW R_La 21 3 3 := ⟨R_La, F_La, 9, cl_La, by decide, Or.inl wf_La_21⟩
set_option maxRecDepth 100000 in
theorem wf_La_28 : Cond.fieldLink R_La 28 (F_La 4).1 (F_La 4).2.1 (F_La 4).2.2.1 ∈ um_AW := um_in 280 (by decide +kernel) rfl
theorem f_La_28 : um_Fd um_cl um_AW R_La 28 3 4 := ⟨R_La, F_La, 9, cl_La, by decide, Or.inl wf_La_28⟩
set_option maxRecDepth 100000 in
theorem wf_La_32 : Cond.fieldLink R_La 32 (F_La 5).1 (F_La 5).2.1 (F_La 5).2.2.1 ∈ um_AW := um_in 281 (by decide +kernel) rfl
theorem f_La_32 : um_Fd um_cl um_AW R_La 32 3 5 := ⟨R_La, F_La, 9, cl_La, by decide, Or.inl wf_La_32⟩
set_option maxRecDepth 100000 in
theorem wf_La_36 : Cond.fieldLink R_La 36 (F_La 0).1 (F_La 0).2.1 (F_La 0).2.2.1 ∈ um_AW := um_in 276 (by decide +kernel) rfl
theorem f_La_36 : um_Fd um_cl um_AW R_La 36 3 0 := ⟨R_La, F_La, 9, cl_La, by decide, Or.inl wf_La_36⟩
set_option maxRecDepth 100000 in
theorem wf_La_40 : Cond.fieldLink R_La 40 (F_La 1).1 (F_La 1).2.1 (F_La 1).2.2.1 ∈ um_AW := um_in 277 (by decide +kernel) rfl
theorem f_La_40 : um_Fd um_cl um_AW R_La 40 3 1 := ⟨R_La, F_La, 9, cl_La, by decide, Or.inl wf_La_40⟩
set_option maxRecDepth 100000 in
theorem wl_La_44 : Cond.methodLink R_La 44 M_Co_clear.1 ∈ um_AW := um_in 405 (by decide +kernel) rfl
set_option maxRecDepth 100000 in
theorem wn_Co_clear : Cond.instanceMethod M_Co_clear.1 ∈ um_AW := um_in 406 (by decide +kernel) rfl
set_option maxRecDepth 100000 in
theorem wv_Co_clear : Cond.selects R_Co M_Co_clear.1 M_Co_clear.1 ∈ um_AW := um_in 407 (by decide +kernel) rfl
theorem g_La_44 : um_Iv um_cl um_AW R_La 44 2 M_Co_clear 0 := ⟨⟨um_gd, wc_Co_clear, wi_Co, ⟨by decide, by decide, by decide +kernel⟩, Or.inl wl_La_44⟩, (R_Co, F_Co, 9), rfl, wn_Co_clear, wv_Co_clear⟩
set_option maxRecDepth 100000 in
theorem wl_La_49 : Cond.methodLink R_La 49 M_Sc_clear.1 ∈ um_AW := um_in 409 (by decide +kernel) rfl
set_option maxRecDepth 100000 in
theorem wn_Sc_clear : Cond.instanceMethod M_Sc_clear.1 ∈ um_AW := um_in 410 (by decide +kernel) rfl
set_option maxRecDepth 100000 in
theorem wv_Sc_clear : Cond.selects R_Sc M_Sc_clear.1 M_Sc_clear.1 ∈ um_AW := um_in 411 (by decide +kernel) rfl
theorem g_La_49 : um_Iv um_cl um_AW R_La 49 5 M_Sc_clear 0 := ⟨⟨um_gd, wc_Sc_clear, wi_Sc, ⟨by decide, by decide, by decide +kernel⟩, Or.inl wl_La_49⟩, (R_Sc, F_Sc, 10), rfl, wn_Sc_clear, wv_Sc_clear⟩
set_option maxRecDepth 100000 in
theorem wf_La_50 : Cond.fieldLink R_La 50 (F_Wo 4).1 (F_Wo 4).2.1 (F_Wo 4).2.2.1 ∈ um_AW := um_in 241 (by decide +kernel) rfl
theorem f_La_50 : um_Fd um_cl um_AW R_La 50 6 4 := ⟨R_Wo, F_Wo, 5, cl_Wo, by decide, Or.inl wf_La_50⟩
theorem fw_La_50 : um_Fw um_cl um_AW R_La 50 6 4 .int := ⟨R_Wo, F_Wo, 5, cl_Wo, by decide, Or.inl wf_La_50, rfl, by decide +kernel⟩
set_option maxRecDepth 100000 in
theorem wf_La_54 : Cond.fieldLink R_La 54 (F_Ha 3).1 (F_Ha 3).2.1 (F_Ha 3).2.2.1 ∈ um_AW := um_in 266 (by decide +kernel) rfl
theorem f_La_54 : um_Fd um_cl um_AW R_La 54 7 3 := ⟨R_Ha, F_Ha, 4, cl_Ha, by decide, Or.inl wf_La_54⟩
theorem fw_La_54 : um_Fw um_cl um_AW R_La 54 7 3 .int := ⟨R_Ha, F_Ha, 4, cl_Ha, by decide, Or.inl wf_La_54, rfl, by decide +kernel⟩
set_option maxRecDepth 100000 in
theorem wf_La_57 : Cond.fieldLink R_La 57 (F_La 7).1 (F_La 7).2.1 (F_La 7).2.2.1 ∈ um_AW := um_in 283 (by decide +kernel) rfl
theorem f_La_57 : um_Fd um_cl um_AW R_La 57 3 7 := ⟨R_La, F_La, 9, cl_La, by decide, Or.inl wf_La_57⟩
theorem fw_La_57 : um_Fw um_cl um_AW R_La 57 3 7 .boolean := ⟨R_La, F_La, 9, cl_La, by decide, Or.inl wf_La_57, rfl, by decide +kernel⟩
set_option maxRecDepth 100000 in
theorem wf_La_61 : Cond.fieldLink R_La 61 (F_La 8).1 (F_La 8).2.1 (F_La 8).2.2.1 ∈ um_AW := um_in 284 (by decide +kernel) rfl
theorem f_La_61 : um_Fd um_cl um_AW R_La 61 3 8 := ⟨R_La, F_La, 9, cl_La, by decide, Or.inl wf_La_61⟩
theorem fw_La_61 : um_Fw um_cl um_AW R_La 61 3 8 .int := ⟨R_La, F_La, 9, cl_La, by decide, Or.inl wf_La_61, rfl, by decide +kernel⟩
set_option maxRecDepth 100000 in
theorem wl_La_64 : Cond.methodLink R_La 64 M_La_layFunction.1 ∈ um_AW := um_in 413 (by decide +kernel) rfl
set_option maxRecDepth 100000 in
theorem wn_La_layFunction : Cond.instanceMethod M_La_layFunction.1 ∈ um_AW := um_in 415 (by decide +kernel) rfl
set_option maxRecDepth 100000 in
theorem wv_La_layFunction : Cond.selects R_La M_La_layFunction.1 M_La_layFunction.1 ∈ um_AW := um_in 1 (by decide +kernel) rfl
theorem g_La_64 : um_Iv um_cl um_AW R_La 64 3 M_La_layFunction 1 := ⟨⟨um_gd, wc_La_layFunction, wi_La, ⟨by decide, by decide, by decide +kernel⟩, Or.inl wl_La_64⟩, (R_La, F_La, 9), rfl, wn_La_layFunction, wv_La_layFunction⟩
set_option maxRecDepth 100000 in
theorem wl_La_68 : Cond.methodLink R_La 68 M_La_addRows.1 ∈ um_AW := um_in 547 (by decide +kernel) rfl
set_option maxRecDepth 100000 in
theorem wn_La_addRows : Cond.instanceMethod M_La_addRows.1 ∈ um_AW := um_in 549 (by decide +kernel) rfl
set_option maxRecDepth 100000 in
theorem wv_La_addRows : Cond.selects R_La M_La_addRows.1 M_La_addRows.1 ∈ um_AW := um_in 21 (by decide +kernel) rfl
theorem g_La_68 : um_Iv um_cl um_AW R_La 68 3 M_La_addRows 1 := ⟨⟨um_gd, wc_La_addRows, wi_La, ⟨by decide, by decide, by decide +kernel⟩, Or.inl wl_La_68⟩, (R_La, F_La, 9), rfl, wn_La_addRows, wv_La_addRows⟩
set_option maxRecDepth 100000 in
theorem wl_La_71 : Cond.methodLink R_La 71 M_La_settleGoals.1 ∈ um_AW := um_in 570 (by decide +kernel) rfl
set_option maxRecDepth 100000 in
theorem wn_La_settleGoals : Cond.instanceMethod M_La_settleGoals.1 ∈ um_AW := um_in 572 (by decide +kernel) rfl
set_option maxRecDepth 100000 in
theorem wv_La_settleGoals : Cond.selects R_La M_La_settleGoals.1 M_La_settleGoals.1 ∈ um_AW := um_in 24 (by decide +kernel) rfl
theorem g_La_71 : um_Iv um_cl um_AW R_La 71 3 M_La_settleGoals 0 := ⟨⟨um_gd, wc_La_settleGoals, wi_La, ⟨by decide, by decide, by decide +kernel⟩, Or.inl wl_La_71⟩, (R_La, F_La, 9), rfl, wn_La_settleGoals, wv_La_settleGoals⟩
set_option maxRecDepth 100000 in
theorem wf_La_74 : Cond.fieldLink R_La 74 (F_Co 5).1 (F_Co 5).2.1 (F_Co 5).2.2.1 ∈ um_AW := um_in 146 (by decide +kernel) rfl
theorem f_La_74 : um_Fd um_cl um_AW R_La 74 2 5 := ⟨R_Co, F_Co, 9, cl_Co, by decide, Or.inl wf_La_74⟩
theorem fw_La_74 : um_Fw um_cl um_AW R_La 74 2 5 .int := ⟨R_Co, F_Co, 9, cl_Co, by decide, Or.inl wf_La_74, rfl, by decide +kernel⟩
set_option maxRecDepth 100000 in
theorem wf_La_75 : Cond.fieldLink R_La 75 (F_Co 3).1 (F_Co 3).2.1 (F_Co 3).2.2.1 ∈ um_AW := um_in 138 (by decide +kernel) rfl
theorem f_La_75 : um_Fd um_cl um_AW R_La 75 2 3 := ⟨R_Co, F_Co, 9, cl_Co, by decide, Or.inl wf_La_75⟩
set_option maxRecDepth 100000 in
theorem wf_La_78 : Cond.fieldLink R_La 78 (F_La 6).1 (F_La 6).2.1 (F_La 6).2.2.1 ∈ um_AW := um_in 282 (by decide +kernel) rfl
theorem f_La_78 : um_Fd um_cl um_AW R_La 78 3 6 := ⟨R_La, F_La, 9, cl_La, by decide, Or.inl wf_La_78⟩
theorem fw_La_78 : um_Fw um_cl um_AW R_La 78 3 6 .int := ⟨R_La, F_La, 9, cl_La, by decide, Or.inl wf_La_78, rfl, by decide +kernel⟩
set_option maxRecDepth 100000 in
theorem wf_La_81 : Cond.fieldLink R_La 81 (F_Tr 2).1 (F_Tr 2).2.1 (F_Tr 2).2.2.1 ∈ um_AW := um_in 109 (by decide +kernel) rfl
theorem f_La_81 : um_Fd um_cl um_AW R_La 81 1 2 := ⟨R_Tr, F_Tr, 4, cl_Tr, by decide, Or.inl wf_La_81⟩
set_option maxRecDepth 100000 in
theorem wl_La_86 : Cond.methodLink R_La 86 M_La_begin.1 ∈ um_AW := um_in 417 (by decide +kernel) rfl
set_option maxRecDepth 100000 in
theorem wn_La_begin : Cond.instanceMethod M_La_begin.1 ∈ um_AW := um_in 419 (by decide +kernel) rfl
set_option maxRecDepth 100000 in
theorem wv_La_begin : Cond.selects R_La M_La_begin.1 M_La_begin.1 ∈ um_AW := um_in 2 (by decide +kernel) rfl
theorem g_La_86 : um_Iv um_cl um_AW R_La 86 3 M_La_begin 2 := ⟨⟨um_gd, wc_La_begin, wi_La, ⟨by decide, by decide, by decide +kernel⟩, Or.inl wl_La_86⟩, (R_La, F_La, 9), rfl, wn_La_begin, wv_La_begin⟩
set_option maxRecDepth 100000 in
theorem wl_La_90 : Cond.methodLink R_La 90 M_La_takeTurns.1 ∈ um_AW := um_in 425 (by decide +kernel) rfl
set_option maxRecDepth 100000 in
theorem wn_La_takeTurns : Cond.instanceMethod M_La_takeTurns.1 ∈ um_AW := um_in 427 (by decide +kernel) rfl
set_option maxRecDepth 100000 in
theorem wv_La_takeTurns : Cond.selects R_La M_La_takeTurns.1 M_La_takeTurns.1 ∈ um_AW := um_in 3 (by decide +kernel) rfl
theorem g_La_90 : um_Iv um_cl um_AW R_La 90 3 M_La_takeTurns 0 := ⟨⟨um_gd, wc_La_takeTurns, wi_La, ⟨by decide, by decide, by decide +kernel⟩, Or.inl wl_La_90⟩, (R_La, F_La, 9), rfl, wn_La_takeTurns, wv_La_takeTurns⟩
set_option maxRecDepth 100000 in
theorem wl_La_95 : Cond.methodLink R_La 95 M_La_emit.1 ∈ um_AW := um_in 439 (by decide +kernel) rfl
set_option maxRecDepth 100000 in
theorem wn_La_emit : Cond.instanceMethod M_La_emit.1 ∈ um_AW := um_in 441 (by decide +kernel) rfl
set_option maxRecDepth 100000 in
theorem wv_La_emit : Cond.selects R_La M_La_emit.1 M_La_emit.1 ∈ um_AW := um_in 5 (by decide +kernel) rfl
theorem g_La_95 : um_Iv um_cl um_AW R_La 95 3 M_La_emit 3 := ⟨⟨um_gd, wc_La_emit, wi_La, ⟨by decide, by decide, by decide +kernel⟩, Or.inl wl_La_95⟩, (R_La, F_La, 9), rfl, wn_La_emit, wv_La_emit⟩
set_option maxRecDepth 100000 in
theorem wf_La_99 : Cond.fieldLink R_La 99 (F_Sc 1).1 (F_Sc 1).2.1 (F_Sc 1).2.2.1 ∈ um_AW := um_in 191 (by decide +kernel) rfl
theorem f_La_99 : um_Fd um_cl um_AW R_La 99 5 1 := ⟨R_Sc, F_Sc, 10, cl_Sc, by decide, Or.inl wf_La_99⟩
set_option maxRecDepth 100000 in
theorem wl_La_102 : Cond.methodLink R_La 102 M_Sc_within.1 ∈ um_AW := um_in 466 (by decide +kernel) rfl
set_option maxRecDepth 100000 in
theorem ws_Sc_within : Cond.static M_Sc_within.1 ∈ um_AW := um_in 467 (by decide +kernel) rfl
theorem g_La_102 : um_Is um_AW R_La 102 M_Sc_within 2 := ⟨⟨um_gd, wc_Sc_within, wi_Sc, ⟨by decide, by decide, by decide +kernel⟩, Or.inl wl_La_102⟩, ws_Sc_within⟩
set_option maxRecDepth 100000 in
theorem wl_La_106 : Cond.methodLink R_La 106 M_Wo_push.1 ∈ um_AW := um_in 421 (by decide +kernel) rfl
set_option maxRecDepth 100000 in
theorem wn_Wo_push : Cond.instanceMethod M_Wo_push.1 ∈ um_AW := um_in 422 (by decide +kernel) rfl
set_option maxRecDepth 100000 in
theorem wv_Wo_push : Cond.selects R_Wo M_Wo_push.1 M_Wo_push.1 ∈ um_AW := um_in 423 (by decide +kernel) rfl
theorem g_La_106 : um_Iv um_cl um_AW R_La 106 6 M_Wo_push 3 := ⟨⟨um_gd, wc_Wo_push, wi_Wo, ⟨by decide, by decide, by decide +kernel⟩, Or.inl wl_La_106⟩, (R_Wo, F_Wo, 5), rfl, wn_Wo_push, wv_Wo_push⟩
set_option maxRecDepth 100000 in
theorem k_La_109 : Cond.constant R_La 109 1000000 ∈ um_AW := um_in 429 (by decide +kernel) rfl
set_option maxRecDepth 100000 in
theorem wf_La_110 : Cond.fieldLink R_La 110 (F_Wo 0).1 (F_Wo 0).2.1 (F_Wo 0).2.2.1 ∈ um_AW := um_in 233 (by decide +kernel) rfl
theorem f_La_110 : um_Fd um_cl um_AW R_La 110 6 0 := ⟨R_Wo, F_Wo, 5, cl_Wo, by decide, Or.inl wf_La_110⟩
set_option maxRecDepth 100000 in
theorem wf_La_113 : Cond.fieldLink R_La 113 (F_Wo 2).1 (F_Wo 2).2.1 (F_Wo 2).2.2.1 ∈ um_AW := um_in 237 (by decide +kernel) rfl
theorem f_La_113 : um_Fd um_cl um_AW R_La 113 6 2 := ⟨R_Wo, F_Wo, 5, cl_Wo, by decide, Or.inl wf_La_113⟩
set_option maxRecDepth 100000 in
theorem wl_La_116 : Cond.methodLink R_La 116 M_Tr_kindOf.1 ∈ um_AW := um_in 430 (by decide +kernel) rfl
set_option maxRecDepth 100000 in
theorem wn_Tr_kindOf : Cond.instanceMethod M_Tr_kindOf.1 ∈ um_AW := um_in 376 (by decide +kernel) rfl
set_option maxRecDepth 100000 in
theorem wv_Tr_kindOf : Cond.selects R_Tr M_Tr_kindOf.1 M_Tr_kindOf.1 ∈ um_AW := um_in 377 (by decide +kernel) rfl
theorem g_La_116 : um_Iv um_cl um_AW R_La 116 1 M_Tr_kindOf 1 := ⟨⟨um_gd, wc_Tr_kindOf, wi_Tr, ⟨by decide, by decide, by decide +kernel⟩, Or.inl wl_La_116⟩, (R_Tr, F_Tr, 4), rfl, wn_Tr_kindOf, wv_Tr_kindOf⟩
set_option maxRecDepth 100000 in
theorem wl_La_120 : Cond.methodLink R_La 120 M_La_turnIf.1 ∈ um_AW := um_in 431 (by decide +kernel) rfl
set_option maxRecDepth 100000 in
theorem wn_La_turnIf : Cond.instanceMethod M_La_turnIf.1 ∈ um_AW := um_in 433 (by decide +kernel) rfl
set_option maxRecDepth 100000 in
theorem wv_La_turnIf : Cond.selects R_La M_La_turnIf.1 M_La_turnIf.1 ∈ um_AW := um_in 4 (by decide +kernel) rfl
theorem g_La_120 : um_Iv um_cl um_AW R_La 120 3 M_La_turnIf 3 := ⟨⟨um_gd, wc_La_turnIf, wi_La, ⟨by decide, by decide, by decide +kernel⟩, Or.inl wl_La_120⟩, (R_La, F_La, 9), rfl, wn_La_turnIf, wv_La_turnIf⟩
set_option maxRecDepth 100000 in
theorem wl_La_123 : Cond.methodLink R_La 123 M_La_turnWhile.1 ∈ um_AW := um_in 451 (by decide +kernel) rfl
set_option maxRecDepth 100000 in
theorem wn_La_turnWhile : Cond.instanceMethod M_La_turnWhile.1 ∈ um_AW := um_in 453 (by decide +kernel) rfl
set_option maxRecDepth 100000 in
theorem wv_La_turnWhile : Cond.selects R_La M_La_turnWhile.1 M_La_turnWhile.1 ∈ um_AW := um_in 7 (by decide +kernel) rfl
theorem g_La_123 : um_Iv um_cl um_AW R_La 123 3 M_La_turnWhile 3 := ⟨⟨um_gd, wc_La_turnWhile, wi_La, ⟨by decide, by decide, by decide +kernel⟩, Or.inl wl_La_123⟩, (R_La, F_La, 9), rfl, wn_La_turnWhile, wv_La_turnWhile⟩
set_option maxRecDepth 100000 in
theorem wl_La_126 : Cond.methodLink R_La 126 M_La_turnReturn.1 ∈ um_AW := um_in 477 (by decide +kernel) rfl
set_option maxRecDepth 100000 in
theorem wn_La_turnReturn : Cond.instanceMethod M_La_turnReturn.1 ∈ um_AW := um_in 479 (by decide +kernel) rfl
set_option maxRecDepth 100000 in
theorem wv_La_turnReturn : Cond.selects R_La M_La_turnReturn.1 M_La_turnReturn.1 ∈ um_AW := um_in 10 (by decide +kernel) rfl
theorem g_La_126 : um_Iv um_cl um_AW R_La 126 3 M_La_turnReturn 1 := ⟨⟨um_gd, wc_La_turnReturn, wi_La, ⟨by decide, by decide, by decide +kernel⟩, Or.inl wl_La_126⟩, (R_La, F_La, 9), rfl, wn_La_turnReturn, wv_La_turnReturn⟩
set_option maxRecDepth 100000 in
theorem wl_La_129 : Cond.methodLink R_La 129 M_La_turnBreak.1 ∈ um_AW := um_in 492 (by decide +kernel) rfl
set_option maxRecDepth 100000 in
theorem wn_La_turnBreak : Cond.instanceMethod M_La_turnBreak.1 ∈ um_AW := um_in 494 (by decide +kernel) rfl
set_option maxRecDepth 100000 in
theorem wv_La_turnBreak : Cond.selects R_La M_La_turnBreak.1 M_La_turnBreak.1 ∈ um_AW := um_in 12 (by decide +kernel) rfl
theorem g_La_129 : um_Iv um_cl um_AW R_La 129 3 M_La_turnBreak 1 := ⟨⟨um_gd, wc_La_turnBreak, wi_La, ⟨by decide, by decide, by decide +kernel⟩, Or.inl wl_La_129⟩, (R_La, F_La, 9), rfl, wn_La_turnBreak, wv_La_turnBreak⟩
set_option maxRecDepth 100000 in
theorem wl_La_132 : Cond.methodLink R_La 132 M_La_turnTry.1 ∈ um_AW := um_in 496 (by decide +kernel) rfl
set_option maxRecDepth 100000 in
theorem wn_La_turnTry : Cond.instanceMethod M_La_turnTry.1 ∈ um_AW := um_in 498 (by decide +kernel) rfl
set_option maxRecDepth 100000 in
theorem wv_La_turnTry : Cond.selects R_La M_La_turnTry.1 M_La_turnTry.1 ∈ um_AW := um_in 13 (by decide +kernel) rfl
theorem g_La_132 : um_Iv um_cl um_AW R_La 132 3 M_La_turnTry 3 := ⟨⟨um_gd, wc_La_turnTry, wi_La, ⟨by decide, by decide, by decide +kernel⟩, Or.inl wl_La_132⟩, (R_La, F_La, 9), rfl, wn_La_turnTry, wv_La_turnTry⟩
set_option maxRecDepth 100000 in
theorem wl_La_135 : Cond.methodLink R_La 135 M_La_turnApart.1 ∈ um_AW := um_in 512 (by decide +kernel) rfl
set_option maxRecDepth 100000 in
theorem wn_La_turnApart : Cond.instanceMethod M_La_turnApart.1 ∈ um_AW := um_in 514 (by decide +kernel) rfl
set_option maxRecDepth 100000 in
theorem wv_La_turnApart : Cond.selects R_La M_La_turnApart.1 M_La_turnApart.1 ∈ um_AW := um_in 16 (by decide +kernel) rfl
theorem g_La_135 : um_Iv um_cl um_AW R_La 135 3 M_La_turnApart 2 := ⟨⟨um_gd, wc_La_turnApart, wi_La, ⟨by decide, by decide, by decide +kernel⟩, Or.inl wl_La_135⟩, (R_La, F_La, 9), rfl, wn_La_turnApart, wv_La_turnApart⟩
set_option maxRecDepth 100000 in
theorem wl_La_138 : Cond.methodLink R_La 138 M_La_turnPlain.1 ∈ um_AW := um_in 539 (by decide +kernel) rfl
set_option maxRecDepth 100000 in
theorem wn_La_turnPlain : Cond.instanceMethod M_La_turnPlain.1 ∈ um_AW := um_in 541 (by decide +kernel) rfl
set_option maxRecDepth 100000 in
theorem wv_La_turnPlain : Cond.selects R_La M_La_turnPlain.1 M_La_turnPlain.1 ∈ um_AW := um_in 19 (by decide +kernel) rfl
theorem g_La_138 : um_Iv um_cl um_AW R_La 138 3 M_La_turnPlain 3 := ⟨⟨um_gd, wc_La_turnPlain, wi_La, ⟨by decide, by decide, by decide +kernel⟩, Or.inl wl_La_138⟩, (R_La, F_La, 9), rfl, wn_La_turnPlain, wv_La_turnPlain⟩
set_option maxRecDepth 100000 in
theorem wl_La_141 : Cond.methodLink R_La 141 M_Tr_part.1 ∈ um_AW := um_in 435 (by decide +kernel) rfl
set_option maxRecDepth 100000 in
theorem wn_Tr_part : Cond.instanceMethod M_Tr_part.1 ∈ um_AW := um_in 436 (by decide +kernel) rfl
set_option maxRecDepth 100000 in
theorem wv_Tr_part : Cond.selects R_Tr M_Tr_part.1 M_Tr_part.1 ∈ um_AW := um_in 437 (by decide +kernel) rfl
theorem g_La_141 : um_Iv um_cl um_AW R_La 141 1 M_Tr_part 2 := ⟨⟨um_gd, wc_Tr_part, wi_Tr, ⟨by decide, by decide, by decide +kernel⟩, Or.inl wl_La_141⟩, (R_Tr, F_Tr, 4), rfl, wn_Tr_part, wv_Tr_part⟩
set_option maxRecDepth 100000 in
theorem wl_La_144 : Cond.methodLink R_La 144 M_La_finish.1 ∈ um_AW := um_in 473 (by decide +kernel) rfl
set_option maxRecDepth 100000 in
theorem wn_La_finish : Cond.instanceMethod M_La_finish.1 ∈ um_AW := um_in 475 (by decide +kernel) rfl
set_option maxRecDepth 100000 in
theorem wv_La_finish : Cond.selects R_La M_La_finish.1 M_La_finish.1 ∈ um_AW := um_in 9 (by decide +kernel) rfl
theorem g_La_144 : um_Iv um_cl um_AW R_La 144 3 M_La_finish 3 := ⟨⟨um_gd, wc_La_finish, wi_La, ⟨by decide, by decide, by decide +kernel⟩, Or.inl wl_La_144⟩, (R_La, F_La, 9), rfl, wn_La_finish, wv_La_finish⟩
set_option maxRecDepth 100000 in
theorem wl_La_147 : Cond.methodLink R_La 147 M_Wo_pop.1 ∈ um_AW := um_in 447 (by decide +kernel) rfl
set_option maxRecDepth 100000 in
theorem wn_Wo_pop : Cond.instanceMethod M_Wo_pop.1 ∈ um_AW := um_in 448 (by decide +kernel) rfl
set_option maxRecDepth 100000 in
theorem wv_Wo_pop : Cond.selects R_Wo M_Wo_pop.1 M_Wo_pop.1 ∈ um_AW := um_in 449 (by decide +kernel) rfl
theorem g_La_147 : um_Iv um_cl um_AW R_La 147 6 M_Wo_pop 0 := ⟨⟨um_gd, wc_Wo_pop, wi_Wo, ⟨by decide, by decide, by decide +kernel⟩, Or.inl wl_La_147⟩, (R_Wo, F_Wo, 5), rfl, wn_Wo_pop, wv_Wo_pop⟩
set_option maxRecDepth 100000 in
theorem wl_La_150 : Cond.methodLink R_La 150 M_La_partsThen.1 ∈ um_AW := um_in 543 (by decide +kernel) rfl
set_option maxRecDepth 100000 in
theorem wn_La_partsThen : Cond.instanceMethod M_La_partsThen.1 ∈ um_AW := um_in 545 (by decide +kernel) rfl
set_option maxRecDepth 100000 in
theorem wv_La_partsThen : Cond.selects R_La M_La_partsThen.1 M_La_partsThen.1 ∈ um_AW := um_in 20 (by decide +kernel) rfl
theorem g_La_150 : um_Iv um_cl um_AW R_La 150 3 M_La_partsThen 6 := ⟨⟨um_gd, wc_La_partsThen, wi_La, ⟨by decide, by decide, by decide +kernel⟩, Or.inl wl_La_150⟩, (R_La, F_La, 9), rfl, wn_La_partsThen, wv_La_partsThen⟩
set_option maxRecDepth 100000 in
theorem wf_La_154 : Cond.fieldLink R_La 154 (F_Wo 1).1 (F_Wo 1).2.1 (F_Wo 1).2.2.1 ∈ um_AW := um_in 235 (by decide +kernel) rfl
theorem f_La_154 : um_Fd um_cl um_AW R_La 154 6 1 := ⟨R_Wo, F_Wo, 5, cl_Wo, by decide, Or.inl wf_La_154⟩
set_option maxRecDepth 100000 in
theorem wf_La_157 : Cond.fieldLink R_La 157 (F_Wo 3).1 (F_Wo 3).2.1 (F_Wo 3).2.2.1 ∈ um_AW := um_in 239 (by decide +kernel) rfl
theorem f_La_157 : um_Fd um_cl um_AW R_La 157 6 3 := ⟨R_Wo, F_Wo, 5, cl_Wo, by decide, Or.inl wf_La_157⟩
set_option maxRecDepth 100000 in
theorem wl_La_160 : Cond.methodLink R_La 160 M_La_setGoal.1 ∈ um_AW := um_in 443 (by decide +kernel) rfl
set_option maxRecDepth 100000 in
theorem wn_La_setGoal : Cond.instanceMethod M_La_setGoal.1 ∈ um_AW := um_in 445 (by decide +kernel) rfl
set_option maxRecDepth 100000 in
theorem wv_La_setGoal : Cond.selects R_La M_La_setGoal.1 M_La_setGoal.1 ∈ um_AW := um_in 6 (by decide +kernel) rfl
theorem g_La_160 : um_Iv um_cl um_AW R_La 160 3 M_La_setGoal 2 := ⟨⟨um_gd, wc_La_setGoal, wi_La, ⟨by decide, by decide, by decide +kernel⟩, Or.inl wl_La_160⟩, (R_La, F_La, 9), rfl, wn_La_setGoal, wv_La_setGoal⟩
set_option maxRecDepth 100000 in
theorem wl_La_163 : Cond.methodLink R_La 163 M_Sc_openLoop.1 ∈ um_AW := um_in 455 (by decide +kernel) rfl
set_option maxRecDepth 100000 in
theorem wn_Sc_openLoop : Cond.instanceMethod M_Sc_openLoop.1 ∈ um_AW := um_in 456 (by decide +kernel) rfl
set_option maxRecDepth 100000 in
theorem wv_Sc_openLoop : Cond.selects R_Sc M_Sc_openLoop.1 M_Sc_openLoop.1 ∈ um_AW := um_in 457 (by decide +kernel) rfl
theorem g_La_163 : um_Iv um_cl um_AW R_La 163 5 M_Sc_openLoop 1 := ⟨⟨um_gd, wc_Sc_openLoop, wi_Sc, ⟨by decide, by decide, by decide +kernel⟩, Or.inl wl_La_163⟩, (R_Sc, F_Sc, 10), rfl, wn_Sc_openLoop, wv_Sc_openLoop⟩
set_option maxRecDepth 100000 in
theorem wl_La_166 : Cond.methodLink R_La 166 M_Sc_scopeOf.1 ∈ um_AW := um_in 469 (by decide +kernel) rfl
set_option maxRecDepth 100000 in
theorem ws_Sc_scopeOf : Cond.static M_Sc_scopeOf.1 ∈ um_AW := um_in 464 (by decide +kernel) rfl
theorem g_La_166 : um_Is um_AW R_La 166 M_Sc_scopeOf 1 := ⟨⟨um_gd, wc_Sc_scopeOf, wi_Sc, ⟨by decide, by decide, by decide +kernel⟩, Or.inl wl_La_166⟩, ws_Sc_scopeOf⟩
set_option maxRecDepth 100000 in
theorem wl_La_169 : Cond.methodLink R_La 169 M_La_behind.1 ∈ um_AW := um_in 470 (by decide +kernel) rfl
set_option maxRecDepth 100000 in
theorem ws_La_behind : Cond.static M_La_behind.1 ∈ um_AW := um_in 471 (by decide +kernel) rfl
theorem g_La_169 : um_Is um_AW R_La 169 M_La_behind 1 := ⟨⟨um_gd, wc_La_behind, wi_La, ⟨by decide, by decide, by decide +kernel⟩, Or.inl wl_La_169⟩, ws_La_behind⟩
set_option maxRecDepth 100000 in
theorem wf_La_172 : Cond.fieldLink R_La 172 (F_Sc 6).1 (F_Sc 6).2.1 (F_Sc 6).2.2.1 ∈ um_AW := um_in 201 (by decide +kernel) rfl
theorem f_La_172 : um_Fd um_cl um_AW R_La 172 5 6 := ⟨R_Sc, F_Sc, 10, cl_Sc, by decide, Or.inl wf_La_172⟩
set_option maxRecDepth 100000 in
theorem wl_La_175 : Cond.methodLink R_La 175 M_Sc_finallyAround.1 ∈ um_AW := um_in 481 (by decide +kernel) rfl
set_option maxRecDepth 100000 in
theorem wn_Sc_finallyAround : Cond.instanceMethod M_Sc_finallyAround.1 ∈ um_AW := um_in 482 (by decide +kernel) rfl
set_option maxRecDepth 100000 in
theorem wv_Sc_finallyAround : Cond.selects R_Sc M_Sc_finallyAround.1 M_Sc_finallyAround.1 ∈ um_AW := um_in 483 (by decide +kernel) rfl
theorem g_La_175 : um_Iv um_cl um_AW R_La 175 5 M_Sc_finallyAround 2 := ⟨⟨um_gd, wc_Sc_finallyAround, wi_Sc, ⟨by decide, by decide, by decide +kernel⟩, Or.inl wl_La_175⟩, (R_Sc, F_Sc, 10), rfl, wn_Sc_finallyAround, wv_Sc_finallyAround⟩
set_option maxRecDepth 100000 in
theorem wl_La_178 : Cond.methodLink R_La 178 M_La_leave.1 ∈ um_AW := um_in 488 (by decide +kernel) rfl
set_option maxRecDepth 100000 in
theorem wn_La_leave : Cond.instanceMethod M_La_leave.1 ∈ um_AW := um_in 490 (by decide +kernel) rfl
set_option maxRecDepth 100000 in
theorem wv_La_leave : Cond.selects R_La M_La_leave.1 M_La_leave.1 ∈ um_AW := um_in 11 (by decide +kernel) rfl
theorem g_La_178 : um_Iv um_cl um_AW R_La 178 3 M_La_leave 2 := ⟨⟨um_gd, wc_La_leave, wi_La, ⟨by decide, by decide, by decide +kernel⟩, Or.inl wl_La_178⟩, (R_La, F_La, 9), rfl, wn_La_leave, wv_La_leave⟩
set_option maxRecDepth 100000 in
theorem wf_La_181 : Cond.fieldLink R_La 181 (F_Sc 3).1 (F_Sc 3).2.1 (F_Sc 3).2.2.1 ∈ um_AW := um_in 195 (by decide +kernel) rfl
theorem f_La_181 : um_Fd um_cl um_AW R_La 181 5 3 := ⟨R_Sc, F_Sc, 10, cl_Sc, by decide, Or.inl wf_La_181⟩
set_option maxRecDepth 100000 in
theorem wf_La_184 : Cond.fieldLink R_La 184 (F_Sc 0).1 (F_Sc 0).2.1 (F_Sc 0).2.2.1 ∈ um_AW := um_in 189 (by decide +kernel) rfl
theorem f_La_184 : um_Fd um_cl um_AW R_La 184 5 0 := ⟨R_Sc, F_Sc, 10, cl_Sc, by decide, Or.inl wf_La_184⟩
set_option maxRecDepth 100000 in
theorem wf_La_187 : Cond.fieldLink R_La 187 (F_Sc 2).1 (F_Sc 2).2.1 (F_Sc 2).2.2.1 ∈ um_AW := um_in 193 (by decide +kernel) rfl
theorem f_La_187 : um_Fd um_cl um_AW R_La 187 5 2 := ⟨R_Sc, F_Sc, 10, cl_Sc, by decide, Or.inl wf_La_187⟩
set_option maxRecDepth 100000 in
theorem wl_La_190 : Cond.methodLink R_La 190 M_Sc_openTry.1 ∈ um_AW := um_in 500 (by decide +kernel) rfl
set_option maxRecDepth 100000 in
theorem wn_Sc_openTry : Cond.instanceMethod M_Sc_openTry.1 ∈ um_AW := um_in 501 (by decide +kernel) rfl
set_option maxRecDepth 100000 in
theorem wv_Sc_openTry : Cond.selects R_Sc M_Sc_openTry.1 M_Sc_openTry.1 ∈ um_AW := um_in 502 (by decide +kernel) rfl
theorem g_La_190 : um_Iv um_cl um_AW R_La 190 5 M_Sc_openTry 3 := ⟨⟨um_gd, wc_Sc_openTry, wi_Sc, ⟨by decide, by decide, by decide +kernel⟩, Or.inl wl_La_190⟩, (R_Sc, F_Sc, 10), rfl, wn_Sc_openTry, wv_Sc_openTry⟩
set_option maxRecDepth 100000 in
theorem wl_La_194 : Cond.methodLink R_La 194 M_La_beginFinally.1 ∈ um_AW := um_in 504 (by decide +kernel) rfl
set_option maxRecDepth 100000 in
theorem wn_La_beginFinally : Cond.instanceMethod M_La_beginFinally.1 ∈ um_AW := um_in 506 (by decide +kernel) rfl
set_option maxRecDepth 100000 in
theorem wv_La_beginFinally : Cond.selects R_La M_La_beginFinally.1 M_La_beginFinally.1 ∈ um_AW := um_in 14 (by decide +kernel) rfl
theorem g_La_194 : um_Iv um_cl um_AW R_La 194 3 M_La_beginFinally 1 := ⟨⟨um_gd, wc_La_beginFinally, wi_La, ⟨by decide, by decide, by decide +kernel⟩, Or.inl wl_La_194⟩, (R_La, F_La, 9), rfl, wn_La_beginFinally, wv_La_beginFinally⟩
set_option maxRecDepth 100000 in
theorem wl_La_197 : Cond.methodLink R_La 197 M_La_setDone.1 ∈ um_AW := um_in 508 (by decide +kernel) rfl
set_option maxRecDepth 100000 in
theorem wn_La_setDone : Cond.instanceMethod M_La_setDone.1 ∈ um_AW := um_in 510 (by decide +kernel) rfl
set_option maxRecDepth 100000 in
theorem wv_La_setDone : Cond.selects R_La M_La_setDone.1 M_La_setDone.1 ∈ um_AW := um_in 15 (by decide +kernel) rfl
theorem g_La_197 : um_Iv um_cl um_AW R_La 197 3 M_La_setDone 1 := ⟨⟨um_gd, wc_La_setDone, wi_La, ⟨by decide, by decide, by decide +kernel⟩, Or.inl wl_La_197⟩, (R_La, F_La, 9), rfl, wn_La_setDone, wv_La_setDone⟩
set_option maxRecDepth 100000 in
theorem wl_La_200 : Cond.methodLink R_La 200 M_La_beginCatch.1 ∈ um_AW := um_in 516 (by decide +kernel) rfl
set_option maxRecDepth 100000 in
theorem wn_La_beginCatch : Cond.instanceMethod M_La_beginCatch.1 ∈ um_AW := um_in 518 (by decide +kernel) rfl
set_option maxRecDepth 100000 in
theorem wv_La_beginCatch : Cond.selects R_La M_La_beginCatch.1 M_La_beginCatch.1 ∈ um_AW := um_in 17 (by decide +kernel) rfl
theorem g_La_200 : um_Iv um_cl um_AW R_La 200 3 M_La_beginCatch 2 := ⟨⟨um_gd, wc_La_beginCatch, wi_La, ⟨by decide, by decide, by decide +kernel⟩, Or.inl wl_La_200⟩, (R_La, F_La, 9), rfl, wn_La_beginCatch, wv_La_beginCatch⟩
set_option maxRecDepth 100000 in
theorem wl_La_203 : Cond.methodLink R_La 203 M_La_beginAny.1 ∈ um_AW := um_in 532 (by decide +kernel) rfl
set_option maxRecDepth 100000 in
theorem wn_La_beginAny : Cond.instanceMethod M_La_beginAny.1 ∈ um_AW := um_in 534 (by decide +kernel) rfl
set_option maxRecDepth 100000 in
theorem wv_La_beginAny : Cond.selects R_La M_La_beginAny.1 M_La_beginAny.1 ∈ um_AW := um_in 18 (by decide +kernel) rfl
theorem g_La_203 : um_Iv um_cl um_AW R_La 203 3 M_La_beginAny 1 := ⟨⟨um_gd, wc_La_beginAny, wi_La, ⟨by decide, by decide, by decide +kernel⟩, Or.inl wl_La_203⟩, (R_La, F_La, 9), rfl, wn_La_beginAny, wv_La_beginAny⟩
set_option maxRecDepth 100000 in
theorem wf_La_206 : Cond.fieldLink R_La 206 (F_Sc 5).1 (F_Sc 5).2.1 (F_Sc 5).2.2.1 ∈ um_AW := um_in 199 (by decide +kernel) rfl
theorem f_La_206 : um_Fd um_cl um_AW R_La 206 5 5 := ⟨R_Sc, F_Sc, 10, cl_Sc, by decide, Or.inl wf_La_206⟩
set_option maxRecDepth 100000 in
theorem wl_La_209 : Cond.methodLink R_La 209 M_Tr_catchAfter.1 ∈ um_AW := um_in 520 (by decide +kernel) rfl
set_option maxRecDepth 100000 in
theorem wn_Tr_catchAfter : Cond.instanceMethod M_Tr_catchAfter.1 ∈ um_AW := um_in 521 (by decide +kernel) rfl
set_option maxRecDepth 100000 in
theorem wv_Tr_catchAfter : Cond.selects R_Tr M_Tr_catchAfter.1 M_Tr_catchAfter.1 ∈ um_AW := um_in 522 (by decide +kernel) rfl
theorem g_La_209 : um_Iv um_cl um_AW R_La 209 1 M_Tr_catchAfter 2 := ⟨⟨um_gd, wc_Tr_catchAfter, wi_Tr, ⟨by decide, by decide, by decide +kernel⟩, Or.inl wl_La_209⟩, (R_Tr, F_Tr, 4), rfl, wn_Tr_catchAfter, wv_Tr_catchAfter⟩
set_option maxRecDepth 100000 in
theorem wf_La_212 : Cond.fieldLink R_La 212 (F_Sc 4).1 (F_Sc 4).2.1 (F_Sc 4).2.2.1 ∈ um_AW := um_in 197 (by decide +kernel) rfl
theorem f_La_212 : um_Fd um_cl um_AW R_La 212 5 4 := ⟨R_Sc, F_Sc, 10, cl_Sc, by decide, Or.inl wf_La_212⟩
set_option maxRecDepth 100000 in
theorem wl_La_215 : Cond.methodLink R_La 215 M_Ha_add.1 ∈ um_AW := um_in 525 (by decide +kernel) rfl
set_option maxRecDepth 100000 in
theorem wn_Ha_add : Cond.instanceMethod M_Ha_add.1 ∈ um_AW := um_in 526 (by decide +kernel) rfl
set_option maxRecDepth 100000 in
theorem wv_Ha_add : Cond.selects R_Ha M_Ha_add.1 M_Ha_add.1 ∈ um_AW := um_in 527 (by decide +kernel) rfl
theorem g_La_215 : um_Iv um_cl um_AW R_La 215 7 M_Ha_add 4 := ⟨⟨um_gd, wc_Ha_add, wi_Ha, ⟨by decide, by decide, by decide +kernel⟩, Or.inl wl_La_215⟩, (R_Ha, F_Ha, 4), rfl, wn_Ha_add, wv_Ha_add⟩
set_option maxRecDepth 100000 in
theorem wf_La_219 : Cond.fieldLink R_La 219 (F_Co 8).1 (F_Co 8).2.1 (F_Co 8).2.2.1 ∈ um_AW := um_in 156 (by decide +kernel) rfl
theorem f_La_219 : um_Fd um_cl um_AW R_La 219 2 8 := ⟨R_Co, F_Co, 9, cl_Co, by decide, Or.inl wf_La_219⟩
theorem fw_La_219 : um_Fw um_cl um_AW R_La 219 2 8 .int := ⟨R_Co, F_Co, 9, cl_Co, by decide, Or.inl wf_La_219, rfl, by decide +kernel⟩
set_option maxRecDepth 100000 in
theorem wm_La_222 : Cond.methodLink R_La 222 Lib.Math.max.name ∈ um_AW := um_in 536 (by decide +kernel) rfl
set_option maxRecDepth 100000 in
theorem wm_static : Cond.static Lib.Math.max.name ∈ um_AW := um_in 537 (by decide +kernel) rfl
set_option maxRecDepth 100000 in
theorem wm_init : Cond.initialized "java/lang/Math" ∈ um_AW := um_in 83 (by decide +kernel) rfl
set_option maxRecDepth 100000 in
theorem wm_code : Cond.code Lib.Math.max.name Lib.Math.max.code 2 (some .int) ∈ um_AW := um_in 538 (by decide +kernel) rfl
theorem mx_La_222 : Cond.methodLink R_La 222 Lib.Math.max.name ∈ um_AW ∧ Cond.static Lib.Math.max.name ∈ um_AW ∧ Cond.initialized "java/lang/Math" ∈ um_AW ∧ Cond.code Lib.Math.max.name Lib.Math.max.code 2 (some .int) ∈ um_AW := ⟨wm_La_222, wm_static, wm_init, wm_code⟩
set_option maxRecDepth 100000 in
theorem wf_La_227 : Cond.fieldLink R_La 227 (F_Co 7).1 (F_Co 7).2.1 (F_Co 7).2.2.1 ∈ um_AW := um_in 153 (by decide +kernel) rfl
theorem f_La_227 : um_Fd um_cl um_AW R_La 227 2 7 := ⟨R_Co, F_Co, 9, cl_Co, by decide, Or.inl wf_La_227⟩
theorem fw_La_227 : um_Fw um_cl um_AW R_La 227 2 7 .int := ⟨R_Co, F_Co, 9, cl_Co, by decide, Or.inl wf_La_227, rfl, by decide +kernel⟩
set_option maxRecDepth 100000 in
theorem wf_La_230 : Cond.fieldLink R_La 230 (F_Co 0).1 (F_Co 0).2.1 (F_Co 0).2.2.1 ∈ um_AW := um_in 130 (by decide +kernel) rfl
theorem f_La_230 : um_Fd um_cl um_AW R_La 230 2 0 := ⟨R_Co, F_Co, 9, cl_Co, by decide, Or.inl wf_La_230⟩
set_option maxRecDepth 100000 in
theorem wf_La_233 : Cond.fieldLink R_La 233 (F_Co 1).1 (F_Co 1).2.1 (F_Co 1).2.2.1 ∈ um_AW := um_in 134 (by decide +kernel) rfl
theorem f_La_233 : um_Fd um_cl um_AW R_La 233 2 1 := ⟨R_Co, F_Co, 9, cl_Co, by decide, Or.inl wf_La_233⟩
set_option maxRecDepth 100000 in
theorem wf_La_236 : Cond.fieldLink R_La 236 (F_Co 2).1 (F_Co 2).2.1 (F_Co 2).2.2.1 ∈ um_AW := um_in 136 (by decide +kernel) rfl
theorem f_La_236 : um_Fd um_cl um_AW R_La 236 2 2 := ⟨R_Co, F_Co, 9, cl_Co, by decide, Or.inl wf_La_236⟩
set_option maxRecDepth 100000 in
theorem wf_La_237 : Cond.fieldLink R_La 237 (F_Ha 0).1 (F_Ha 0).2.1 (F_Ha 0).2.2.1 ∈ um_AW := um_in 260 (by decide +kernel) rfl
theorem f_La_237 : um_Fd um_cl um_AW R_La 237 7 0 := ⟨R_Ha, F_Ha, 4, cl_Ha, by decide, Or.inl wf_La_237⟩
set_option maxRecDepth 100000 in
theorem wl_La_239 : Cond.methodLink R_La 239 M_Sc_lookAt.1 ∈ um_AW := um_in 551 (by decide +kernel) rfl
set_option maxRecDepth 100000 in
theorem wn_Sc_lookAt : Cond.instanceMethod M_Sc_lookAt.1 ∈ um_AW := um_in 552 (by decide +kernel) rfl
set_option maxRecDepth 100000 in
theorem wv_Sc_lookAt : Cond.selects R_Sc M_Sc_lookAt.1 M_Sc_lookAt.1 ∈ um_AW := um_in 553 (by decide +kernel) rfl
theorem g_La_239 : um_Iv um_cl um_AW R_La 239 5 M_Sc_lookAt 1 := ⟨⟨um_gd, wc_Sc_lookAt, wi_Sc, ⟨by decide, by decide, by decide +kernel⟩, Or.inl wl_La_239⟩, (R_Sc, F_Sc, 10), rfl, wn_Sc_lookAt, wv_Sc_lookAt⟩
set_option maxRecDepth 100000 in
theorem wl_La_242 : Cond.methodLink R_La 242 M_La_takesFrom.1 ∈ um_AW := um_in 559 (by decide +kernel) rfl
set_option maxRecDepth 100000 in
theorem wn_La_takesFrom : Cond.instanceMethod M_La_takesFrom.1 ∈ um_AW := um_in 561 (by decide +kernel) rfl
set_option maxRecDepth 100000 in
theorem wv_La_takesFrom : Cond.selects R_La M_La_takesFrom.1 M_La_takesFrom.1 ∈ um_AW := um_in 22 (by decide +kernel) rfl
theorem g_La_242 : um_Iv um_cl um_AW R_La 242 3 M_La_takesFrom 2 := ⟨⟨um_gd, wc_La_takesFrom, wi_La, ⟨by decide, by decide, by decide +kernel⟩, Or.inl wl_La_242⟩, (R_La, F_La, 9), rfl, wn_La_takesFrom, wv_La_takesFrom⟩
set_option maxRecDepth 100000 in
theorem wl_La_246 : Cond.methodLink R_La 246 M_La_addRow.1 ∈ um_AW := um_in 564 (by decide +kernel) rfl
set_option maxRecDepth 100000 in
theorem wn_La_addRow : Cond.instanceMethod M_La_addRow.1 ∈ um_AW := um_in 566 (by decide +kernel) rfl
set_option maxRecDepth 100000 in
theorem wv_La_addRow : Cond.selects R_La M_La_addRow.1 M_La_addRow.1 ∈ um_AW := um_in 23 (by decide +kernel) rfl
theorem g_La_246 : um_Iv um_cl um_AW R_La 246 3 M_La_addRow 3 := ⟨⟨um_gd, wc_La_addRow, wi_La, ⟨by decide, by decide, by decide +kernel⟩, Or.inl wl_La_246⟩, (R_La, F_La, 9), rfl, wn_La_addRow, wv_La_addRow⟩
set_option maxRecDepth 100000 in
theorem wl_La_249 : Cond.methodLink R_La 249 M_Sc_partLookedAt.1 ∈ um_AW := um_in 563 (by decide +kernel) rfl
set_option maxRecDepth 100000 in
theorem wn_Sc_partLookedAt : Cond.instanceMethod M_Sc_partLookedAt.1 ∈ um_AW := um_in 556 (by decide +kernel) rfl
set_option maxRecDepth 100000 in
theorem wv_Sc_partLookedAt : Cond.selects R_Sc M_Sc_partLookedAt.1 M_Sc_partLookedAt.1 ∈ um_AW := um_in 557 (by decide +kernel) rfl
theorem g_La_249 : um_Iv um_cl um_AW R_La 249 5 M_Sc_partLookedAt 1 := ⟨⟨um_gd, wc_Sc_partLookedAt, wi_Sc, ⟨by decide, by decide, by decide +kernel⟩, Or.inl wl_La_249⟩, (R_Sc, F_Sc, 10), rfl, wn_Sc_partLookedAt, wv_Sc_partLookedAt⟩
set_option maxRecDepth 100000 in
theorem wf_La_252 : Cond.fieldLink R_La 252 (F_Ha 1).1 (F_Ha 1).2.1 (F_Ha 1).2.2.1 ∈ um_AW := um_in 262 (by decide +kernel) rfl
theorem f_La_252 : um_Fd um_cl um_AW R_La 252 7 1 := ⟨R_Ha, F_Ha, 4, cl_Ha, by decide, Or.inl wf_La_252⟩
set_option maxRecDepth 100000 in
theorem wf_La_255 : Cond.fieldLink R_La 255 (F_Co 6).1 (F_Co 6).2.1 (F_Co 6).2.2.1 ∈ um_AW := um_in 150 (by decide +kernel) rfl
theorem f_La_255 : um_Fd um_cl um_AW R_La 255 2 6 := ⟨R_Co, F_Co, 9, cl_Co, by decide, Or.inl wf_La_255⟩
theorem fw_La_255 : um_Fw um_cl um_AW R_La 255 2 6 .int := ⟨R_Co, F_Co, 9, cl_Co, by decide, Or.inl wf_La_255, rfl, by decide +kernel⟩
set_option maxRecDepth 100000 in
theorem wf_La_258 : Cond.fieldLink R_La 258 (F_Co 4).1 (F_Co 4).2.1 (F_Co 4).2.2.1 ∈ um_AW := um_in 144 (by decide +kernel) rfl
theorem f_La_258 : um_Fd um_cl um_AW R_La 258 2 4 := ⟨R_Co, F_Co, 9, cl_Co, by decide, Or.inl wf_La_258⟩
set_option maxRecDepth 100000 in
theorem wf_La_261 : Cond.fieldLink R_La 261 (F_Ha 2).1 (F_Ha 2).2.1 (F_Ha 2).2.2.1 ∈ um_AW := um_in 264 (by decide +kernel) rfl
theorem f_La_261 : um_Fd um_cl um_AW R_La 261 7 2 := ⟨R_Ha, F_Ha, 4, cl_Ha, by decide, Or.inl wf_La_261⟩
set_option maxRecDepth 100000 in
theorem k_La_264 : Cond.constant R_La 264 (-2147483648) ∈ um_AW := um_in 568 (by decide +kernel) rfl
set_option maxRecDepth 100000 in
theorem k_La_265 : Cond.constant R_La 265 2147483647 ∈ um_AW := um_in 569 (by decide +kernel) rfl
set_option maxRecDepth 100000 in
theorem wf_Ma_9 : Cond.fieldLink R_Ma 9 (F_Ma 1).1 (F_Ma 1).2.1 (F_Ma 1).2.2.1 ∈ um_AW := um_in 311 (by decide +kernel) rfl
theorem f_Ma_9 : um_Fd um_cl um_AW R_Ma 9 4 1 := ⟨R_Ma, F_Ma, 11, cl_Ma, by decide, Or.inl wf_Ma_9⟩
set_option maxRecDepth 100000 in
theorem wf_Ma_15 : Cond.fieldLink R_Ma 15 (F_Ma 2).1 (F_Ma 2).2.1 (F_Ma 2).2.2.1 ∈ um_AW := um_in 313 (by decide +kernel) rfl
theorem f_Ma_15 : um_Fd um_cl um_AW R_Ma 15 4 2 := ⟨R_Ma, F_Ma, 11, cl_Ma, by decide, Or.inl wf_Ma_15⟩
set_option maxRecDepth 100000 in
theorem wf_Ma_18 : Cond.fieldLink R_Ma 18 (F_Ma 3).1 (F_Ma 3).2.1 (F_Ma 3).2.2.1 ∈ um_AW := um_in 315 (by decide +kernel) rfl
theorem f_Ma_18 : um_Fd um_cl um_AW R_Ma 18 4 3 := ⟨R_Ma, F_Ma, 11, cl_Ma, by decide, Or.inl wf_Ma_18⟩
set_option maxRecDepth 100000 in
theorem wf_Ma_21 : Cond.fieldLink R_Ma 21 (F_Ma 5).1 (F_Ma 5).2.1 (F_Ma 5).2.2.1 ∈ um_AW := um_in 319 (by decide +kernel) rfl
theorem f_Ma_21 : um_Fd um_cl um_AW R_Ma 21 4 5 := ⟨R_Ma, F_Ma, 11, cl_Ma, by decide, Or.inl wf_Ma_21⟩
set_option maxRecDepth 100000 in
theorem wf_Ma_24 : Cond.fieldLink R_Ma 24 (F_Ma 7).1 (F_Ma 7).2.1 (F_Ma 7).2.2.1 ∈ um_AW := um_in 321 (by decide +kernel) rfl
theorem f_Ma_24 : um_Fd um_cl um_AW R_Ma 24 4 7 := ⟨R_Ma, F_Ma, 11, cl_Ma, by decide, Or.inl wf_Ma_24⟩
set_option maxRecDepth 100000 in
theorem wf_Ma_27 : Cond.fieldLink R_Ma 27 (F_Ma 8).1 (F_Ma 8).2.1 (F_Ma 8).2.2.1 ∈ um_AW := um_in 322 (by decide +kernel) rfl
theorem f_Ma_27 : um_Fd um_cl um_AW R_Ma 27 4 8 := ⟨R_Ma, F_Ma, 11, cl_Ma, by decide, Or.inl wf_Ma_27⟩
set_option maxRecDepth 100000 in
theorem wf_Ma_30 : Cond.fieldLink R_Ma 30 (F_Ma 0).1 (F_Ma 0).2.1 (F_Ma 0).2.2.1 ∈ um_AW := um_in 310 (by decide +kernel) rfl
theorem f_Ma_30 : um_Fd um_cl um_AW R_Ma 30 4 0 := ⟨R_Ma, F_Ma, 11, cl_Ma, by decide, Or.inl wf_Ma_30⟩
set_option maxRecDepth 100000 in
theorem wf_Ma_34 : Cond.fieldLink R_Ma 34 (F_Ma 4).1 (F_Ma 4).2.1 (F_Ma 4).2.2.1 ∈ um_AW := um_in 317 (by decide +kernel) rfl
theorem f_Ma_34 : um_Fd um_cl um_AW R_Ma 34 4 4 := ⟨R_Ma, F_Ma, 11, cl_Ma, by decide, Or.inl wf_Ma_34⟩
theorem fw_Ma_34 : um_Fw um_cl um_AW R_Ma 34 4 4 .boolean := ⟨R_Ma, F_Ma, 11, cl_Ma, by decide, Or.inl wf_Ma_34, rfl, by decide +kernel⟩
set_option maxRecDepth 100000 in
theorem wl_Ma_38 : Cond.methodLink R_Ma 38 M_Ar_fill_AII.1 ∈ um_AW := um_in 595 (by decide +kernel) rfl
set_option maxRecDepth 100000 in
theorem ws_Ar_fill_AII : Cond.static M_Ar_fill_AII.1 ∈ um_AW := um_in 104 (by decide +kernel) rfl
theorem g_Ma_38 : um_Is um_AW R_Ma 38 M_Ar_fill_AII 2 := ⟨⟨um_gd, wc_Ar_fill_AII, wi_Ar, ⟨by decide, by decide, by decide +kernel⟩, Or.inl wl_Ma_38⟩, ws_Ar_fill_AII⟩
set_option maxRecDepth 100000 in
theorem wf_Ma_44 : Cond.fieldLink R_Ma 44 (F_Ma 6).1 (F_Ma 6).2.1 (F_Ma 6).2.2.1 ∈ um_AW := um_in 320 (by decide +kernel) rfl
theorem f_Ma_44 : um_Fd um_cl um_AW R_Ma 44 4 6 := ⟨R_Ma, F_Ma, 11, cl_Ma, by decide, Or.inl wf_Ma_44⟩
theorem fw_Ma_44 : um_Fw um_cl um_AW R_Ma 44 4 6 .int := ⟨R_Ma, F_Ma, 11, cl_Ma, by decide, Or.inl wf_Ma_44, rfl, by decide +kernel⟩
set_option maxRecDepth 100000 in
theorem wf_Ma_48 : Cond.fieldLink R_Ma 48 (F_Ma 9).1 (F_Ma 9).2.1 (F_Ma 9).2.2.1 ∈ um_AW := um_in 323 (by decide +kernel) rfl
theorem f_Ma_48 : um_Fd um_cl um_AW R_Ma 48 4 9 := ⟨R_Ma, F_Ma, 11, cl_Ma, by decide, Or.inl wf_Ma_48⟩
theorem fw_Ma_48 : um_Fw um_cl um_AW R_Ma 48 4 9 .int := ⟨R_Ma, F_Ma, 11, cl_Ma, by decide, Or.inl wf_Ma_48, rfl, by decide +kernel⟩
set_option maxRecDepth 100000 in
theorem wf_Ma_51 : Cond.fieldLink R_Ma 51 (F_Ma 10).1 (F_Ma 10).2.1 (F_Ma 10).2.2.1 ∈ um_AW := um_in 324 (by decide +kernel) rfl
theorem f_Ma_51 : um_Fd um_cl um_AW R_Ma 51 4 10 := ⟨R_Ma, F_Ma, 11, cl_Ma, by decide, Or.inl wf_Ma_51⟩
theorem fw_Ma_51 : um_Fw um_cl um_AW R_Ma 51 4 10 .int := ⟨R_Ma, F_Ma, 11, cl_Ma, by decide, Or.inl wf_Ma_51, rfl, by decide +kernel⟩
set_option maxRecDepth 100000 in
theorem wl_Ma_54 : Cond.methodLink R_Ma 54 M_Ma_doStep.1 ∈ um_AW := um_in 596 (by decide +kernel) rfl
set_option maxRecDepth 100000 in
theorem wn_Ma_doStep : Cond.instanceMethod M_Ma_doStep.1 ∈ um_AW := um_in 598 (by decide +kernel) rfl
set_option maxRecDepth 100000 in
theorem wv_Ma_doStep : Cond.selects R_Ma M_Ma_doStep.1 M_Ma_doStep.1 ∈ um_AW := um_in 25 (by decide +kernel) rfl
theorem g_Ma_54 : um_Iv um_cl um_AW R_Ma 54 4 M_Ma_doStep 0 := ⟨⟨um_gd, wc_Ma_doStep, wi_Ma, ⟨by decide, by decide, by decide +kernel⟩, Or.inl wl_Ma_54⟩, (R_Ma, F_Ma, 11), rfl, wn_Ma_doStep, wv_Ma_doStep⟩
set_option maxRecDepth 100000 in
theorem wf_Ma_57 : Cond.fieldLink R_Ma 57 (F_Co 0).1 (F_Co 0).2.1 (F_Co 0).2.2.1 ∈ um_AW := um_in 128 (by decide +kernel) rfl
theorem f_Ma_57 : um_Fd um_cl um_AW R_Ma 57 2 0 := ⟨R_Co, F_Co, 9, cl_Co, by decide, Or.inl wf_Ma_57⟩
set_option maxRecDepth 100000 in
theorem wf_Ma_62 : Cond.fieldLink R_Ma 62 (F_Co 1).1 (F_Co 1).2.1 (F_Co 1).2.2.1 ∈ um_AW := um_in 132 (by decide +kernel) rfl
theorem f_Ma_62 : um_Fd um_cl um_AW R_Ma 62 2 1 := ⟨R_Co, F_Co, 9, cl_Co, by decide, Or.inl wf_Ma_62⟩
set_option maxRecDepth 100000 in
theorem wl_Ma_65 : Cond.methodLink R_Ma 65 M_Ma_pull.1 ∈ um_AW := um_in 600 (by decide +kernel) rfl
set_option maxRecDepth 100000 in
theorem wn_Ma_pull : Cond.instanceMethod M_Ma_pull.1 ∈ um_AW := um_in 602 (by decide +kernel) rfl
set_option maxRecDepth 100000 in
theorem wv_Ma_pull : Cond.selects R_Ma M_Ma_pull.1 M_Ma_pull.1 ∈ um_AW := um_in 26 (by decide +kernel) rfl
theorem g_Ma_65 : um_Iv um_cl um_AW R_Ma 65 4 M_Ma_pull 0 := ⟨⟨um_gd, wc_Ma_pull, wi_Ma, ⟨by decide, by decide, by decide +kernel⟩, Or.inl wl_Ma_65⟩, (R_Ma, F_Ma, 11), rfl, wn_Ma_pull, wv_Ma_pull⟩
set_option maxRecDepth 100000 in
theorem wl_Ma_69 : Cond.methodLink R_Ma 69 M_Ma_raise.1 ∈ um_AW := um_in 604 (by decide +kernel) rfl
set_option maxRecDepth 100000 in
theorem wn_Ma_raise : Cond.instanceMethod M_Ma_raise.1 ∈ um_AW := um_in 606 (by decide +kernel) rfl
set_option maxRecDepth 100000 in
theorem wv_Ma_raise : Cond.selects R_Ma M_Ma_raise.1 M_Ma_raise.1 ∈ um_AW := um_in 27 (by decide +kernel) rfl
theorem g_Ma_69 : um_Iv um_cl um_AW R_Ma 69 4 M_Ma_raise 1 := ⟨⟨um_gd, wc_Ma_raise, wi_Ma, ⟨by decide, by decide, by decide +kernel⟩, Or.inl wl_Ma_69⟩, (R_Ma, F_Ma, 11), rfl, wn_Ma_raise, wv_Ma_raise⟩
set_option maxRecDepth 100000 in
theorem wl_Ma_73 : Cond.methodLink R_Ma 73 M_Ma_enter.1 ∈ um_AW := um_in 616 (by decide +kernel) rfl
set_option maxRecDepth 100000 in
theorem wn_Ma_enter : Cond.instanceMethod M_Ma_enter.1 ∈ um_AW := um_in 618 (by decide +kernel) rfl
set_option maxRecDepth 100000 in
theorem wv_Ma_enter : Cond.selects R_Ma M_Ma_enter.1 M_Ma_enter.1 ∈ um_AW := um_in 29 (by decide +kernel) rfl
theorem g_Ma_73 : um_Iv um_cl um_AW R_Ma 73 4 M_Ma_enter 1 := ⟨⟨um_gd, wc_Ma_enter, wi_Ma, ⟨by decide, by decide, by decide +kernel⟩, Or.inl wl_Ma_73⟩, (R_Ma, F_Ma, 11), rfl, wn_Ma_enter, wv_Ma_enter⟩
set_option maxRecDepth 100000 in
theorem wl_Ma_76 : Cond.methodLink R_Ma 76 M_Ma_goBack.1 ∈ um_AW := um_in 621 (by decide +kernel) rfl
set_option maxRecDepth 100000 in
theorem wn_Ma_goBack : Cond.instanceMethod M_Ma_goBack.1 ∈ um_AW := um_in 623 (by decide +kernel) rfl
set_option maxRecDepth 100000 in
theorem wv_Ma_goBack : Cond.selects R_Ma M_Ma_goBack.1 M_Ma_goBack.1 ∈ um_AW := um_in 30 (by decide +kernel) rfl
theorem g_Ma_76 : um_Iv um_cl um_AW R_Ma 76 4 M_Ma_goBack 0 := ⟨⟨um_gd, wc_Ma_goBack, wi_Ma, ⟨by decide, by decide, by decide +kernel⟩, Or.inl wl_Ma_76⟩, (R_Ma, F_Ma, 11), rfl, wn_Ma_goBack, wv_Ma_goBack⟩
set_option maxRecDepth 100000 in
theorem wl_Ma_79 : Cond.methodLink R_Ma 79 M_Ma_placeOf.1 ∈ um_AW := um_in 625 (by decide +kernel) rfl
set_option maxRecDepth 100000 in
theorem wn_Ma_placeOf : Cond.instanceMethod M_Ma_placeOf.1 ∈ um_AW := um_in 627 (by decide +kernel) rfl
set_option maxRecDepth 100000 in
theorem wv_Ma_placeOf : Cond.selects R_Ma M_Ma_placeOf.1 M_Ma_placeOf.1 ∈ um_AW := um_in 31 (by decide +kernel) rfl
theorem g_Ma_79 : um_Iv um_cl um_AW R_Ma 79 4 M_Ma_placeOf 1 := ⟨⟨um_gd, wc_Ma_placeOf, wi_Ma, ⟨by decide, by decide, by decide +kernel⟩, Or.inl wl_Ma_79⟩, (R_Ma, F_Ma, 11), rfl, wn_Ma_placeOf, wv_Ma_placeOf⟩
set_option maxRecDepth 100000 in
theorem wl_Ma_83 : Cond.methodLink R_Ma 83 M_Ma_doStraight.1 ∈ um_AW := um_in 629 (by decide +kernel) rfl
set_option maxRecDepth 100000 in
theorem wn_Ma_doStraight : Cond.instanceMethod M_Ma_doStraight.1 ∈ um_AW := um_in 631 (by decide +kernel) rfl
set_option maxRecDepth 100000 in
theorem wv_Ma_doStraight : Cond.selects R_Ma M_Ma_doStraight.1 M_Ma_doStraight.1 ∈ um_AW := um_in 32 (by decide +kernel) rfl
theorem g_Ma_83 : um_Iv um_cl um_AW R_Ma 83 4 M_Ma_doStraight 2 := ⟨⟨um_gd, wc_Ma_doStraight, wi_Ma, ⟨by decide, by decide, by decide +kernel⟩, Or.inl wl_Ma_83⟩, (R_Ma, F_Ma, 11), rfl, wn_Ma_doStraight, wv_Ma_doStraight⟩
set_option maxRecDepth 100000 in
theorem wl_Ma_87 : Cond.methodLink R_Ma 87 M_Ma_push.1 ∈ um_AW := um_in 612 (by decide +kernel) rfl
set_option maxRecDepth 100000 in
theorem wn_Ma_push : Cond.instanceMethod M_Ma_push.1 ∈ um_AW := um_in 614 (by decide +kernel) rfl
set_option maxRecDepth 100000 in
theorem wv_Ma_push : Cond.selects R_Ma M_Ma_push.1 M_Ma_push.1 ∈ um_AW := um_in 28 (by decide +kernel) rfl
theorem g_Ma_87 : um_Iv um_cl um_AW R_Ma 87 4 M_Ma_push 1 := ⟨⟨um_gd, wc_Ma_push, wi_Ma, ⟨by decide, by decide, by decide +kernel⟩, Or.inl wl_Ma_87⟩, (R_Ma, F_Ma, 11), rfl, wn_Ma_push, wv_Ma_push⟩
set_option maxRecDepth 100000 in
theorem wl_Ma_90 : Cond.methodLink R_Ma 90 M_Ma_putOut.1 ∈ um_AW := um_in 633 (by decide +kernel) rfl
set_option maxRecDepth 100000 in
theorem wn_Ma_putOut : Cond.instanceMethod M_Ma_putOut.1 ∈ um_AW := um_in 635 (by decide +kernel) rfl
set_option maxRecDepth 100000 in
theorem wv_Ma_putOut : Cond.selects R_Ma M_Ma_putOut.1 M_Ma_putOut.1 ∈ um_AW := um_in 33 (by decide +kernel) rfl
theorem g_Ma_90 : um_Iv um_cl um_AW R_Ma 90 4 M_Ma_putOut 1 := ⟨⟨um_gd, wc_Ma_putOut, wi_Ma, ⟨by decide, by decide, by decide +kernel⟩, Or.inl wl_Ma_90⟩, (R_Ma, F_Ma, 11), rfl, wn_Ma_putOut, wv_Ma_putOut⟩
set_option maxRecDepth 100000 in
theorem wl_Ma_95 : Cond.methodLink R_Ma 95 M_Ma_combine.1 ∈ um_AW := um_in 637 (by decide +kernel) rfl
set_option maxRecDepth 100000 in
theorem ws_Ma_combine : Cond.static M_Ma_combine.1 ∈ um_AW := um_in 638 (by decide +kernel) rfl
theorem g_Ma_95 : um_Is um_AW R_Ma 95 M_Ma_combine 3 := ⟨⟨um_gd, wc_Ma_combine, wi_Ma, ⟨by decide, by decide, by decide +kernel⟩, Or.inl wl_Ma_95⟩, ws_Ma_combine⟩
set_option maxRecDepth 100000 in
theorem wm_Ma_99 : Cond.methodLink R_Ma 99 Lib.Math.max.name ∈ um_AW := um_in 620 (by decide +kernel) rfl
theorem mx_Ma_99 : Cond.methodLink R_Ma 99 Lib.Math.max.name ∈ um_AW ∧ Cond.static Lib.Math.max.name ∈ um_AW ∧ Cond.initialized "java/lang/Math" ∈ um_AW ∧ Cond.code Lib.Math.max.name Lib.Math.max.code 2 (some .int) ∈ um_AW := ⟨wm_Ma_99, wm_static, wm_init, wm_code⟩
set_option maxRecDepth 100000 in
theorem wf_Ma_105 : Cond.fieldLink R_Ma 105 (F_Co 3).1 (F_Co 3).2.1 (F_Co 3).2.2.1 ∈ um_AW := um_in 139 (by decide +kernel) rfl
theorem f_Ma_105 : um_Fd um_cl um_AW R_Ma 105 2 3 := ⟨R_Co, F_Co, 9, cl_Co, by decide, Or.inl wf_Ma_105⟩
set_option maxRecDepth 100000 in
theorem wl_Ma_108 : Cond.methodLink R_Ma 108 M_Co_rowFor.1 ∈ um_AW := um_in 608 (by decide +kernel) rfl
set_option maxRecDepth 100000 in
theorem wn_Co_rowFor : Cond.instanceMethod M_Co_rowFor.1 ∈ um_AW := um_in 609 (by decide +kernel) rfl
set_option maxRecDepth 100000 in
theorem wv_Co_rowFor : Cond.selects R_Co M_Co_rowFor.1 M_Co_rowFor.1 ∈ um_AW := um_in 610 (by decide +kernel) rfl
theorem g_Ma_108 : um_Iv um_cl um_AW R_Ma 108 2 M_Co_rowFor 2 := ⟨⟨um_gd, wc_Co_rowFor, wi_Co, ⟨by decide, by decide, by decide +kernel⟩, Or.inl wl_Ma_108⟩, (R_Co, F_Co, 9), rfl, wn_Co_rowFor, wv_Co_rowFor⟩
set_option maxRecDepth 100000 in
theorem wf_Ma_111 : Cond.fieldLink R_Ma 111 (F_Co 4).1 (F_Co 4).2.1 (F_Co 4).2.2.1 ∈ um_AW := um_in 142 (by decide +kernel) rfl
theorem f_Ma_111 : um_Fd um_cl um_AW R_Ma 111 2 4 := ⟨R_Co, F_Co, 9, cl_Co, by decide, Or.inl wf_Ma_111⟩
set_option maxRecDepth 100000 in
theorem wf_Mo_7 : Cond.fieldLink R_Mo 7 (F_Mo 2).1 (F_Mo 2).2.1 (F_Mo 2).2.2.1 ∈ um_AW := um_in 762 (by decide +kernel) rfl
theorem f_Mo_7 : um_Fd um_cl um_AW R_Mo 7 8 2 := ⟨R_Mo, F_Mo, 58, cl_Mo, by decide, Or.inl wf_Mo_7⟩
set_option maxRecDepth 100000 in
theorem wf_Mo_13 : Cond.fieldLink R_Mo 13 (F_Mo 3).1 (F_Mo 3).2.1 (F_Mo 3).2.2.1 ∈ um_AW := um_in 763 (by decide +kernel) rfl
theorem f_Mo_13 : um_Fd um_cl um_AW R_Mo 13 8 3 := ⟨R_Mo, F_Mo, 58, cl_Mo, by decide, Or.inl wf_Mo_13⟩
set_option maxRecDepth 100000 in
theorem wf_Mo_16 : Cond.fieldLink R_Mo 16 (F_Mo 4).1 (F_Mo 4).2.1 (F_Mo 4).2.2.1 ∈ um_AW := um_in 764 (by decide +kernel) rfl
theorem f_Mo_16 : um_Fd um_cl um_AW R_Mo 16 8 4 := ⟨R_Mo, F_Mo, 58, cl_Mo, by decide, Or.inl wf_Mo_16⟩
set_option maxRecDepth 100000 in
theorem wf_Mo_19 : Cond.fieldLink R_Mo 19 (F_Mo 5).1 (F_Mo 5).2.1 (F_Mo 5).2.2.1 ∈ um_AW := um_in 765 (by decide +kernel) rfl
theorem f_Mo_19 : um_Fd um_cl um_AW R_Mo 19 8 5 := ⟨R_Mo, F_Mo, 58, cl_Mo, by decide, Or.inl wf_Mo_19⟩
set_option maxRecDepth 100000 in
theorem wf_Mo_22 : Cond.fieldLink R_Mo 22 (F_Mo 6).1 (F_Mo 6).2.1 (F_Mo 6).2.2.1 ∈ um_AW := um_in 766 (by decide +kernel) rfl
theorem f_Mo_22 : um_Fd um_cl um_AW R_Mo 22 8 6 := ⟨R_Mo, F_Mo, 58, cl_Mo, by decide, Or.inl wf_Mo_22⟩
set_option maxRecDepth 100000 in
theorem wf_Mo_25 : Cond.fieldLink R_Mo 25 (F_Mo 7).1 (F_Mo 7).2.1 (F_Mo 7).2.2.1 ∈ um_AW := um_in 767 (by decide +kernel) rfl
theorem f_Mo_25 : um_Fd um_cl um_AW R_Mo 25 8 7 := ⟨R_Mo, F_Mo, 58, cl_Mo, by decide, Or.inl wf_Mo_25⟩
set_option maxRecDepth 100000 in
theorem wf_Mo_28 : Cond.fieldLink R_Mo 28 (F_Mo 8).1 (F_Mo 8).2.1 (F_Mo 8).2.2.1 ∈ um_AW := um_in 768 (by decide +kernel) rfl
theorem f_Mo_28 : um_Fd um_cl um_AW R_Mo 28 8 8 := ⟨R_Mo, F_Mo, 58, cl_Mo, by decide, Or.inl wf_Mo_28⟩
set_option maxRecDepth 100000 in
theorem wf_Mo_31 : Cond.fieldLink R_Mo 31 (F_Mo 11).1 (F_Mo 11).2.1 (F_Mo 11).2.2.1 ∈ um_AW := um_in 771 (by decide +kernel) rfl
theorem f_Mo_31 : um_Fd um_cl um_AW R_Mo 31 8 11 := ⟨R_Mo, F_Mo, 58, cl_Mo, by decide, Or.inl wf_Mo_31⟩
set_option maxRecDepth 100000 in
theorem wf_Mo_34 : Cond.fieldLink R_Mo 34 (F_Mo 12).1 (F_Mo 12).2.1 (F_Mo 12).2.2.1 ∈ um_AW := um_in 772 (by decide +kernel) rfl
theorem f_Mo_34 : um_Fd um_cl um_AW R_Mo 34 8 12 := ⟨R_Mo, F_Mo, 58, cl_Mo, by decide, Or.inl wf_Mo_34⟩
set_option maxRecDepth 100000 in
theorem wf_Mo_37 : Cond.fieldLink R_Mo 37 (F_Mo 13).1 (F_Mo 13).2.1 (F_Mo 13).2.2.1 ∈ um_AW := um_in 773 (by decide +kernel) rfl
theorem f_Mo_37 : um_Fd um_cl um_AW R_Mo 37 8 13 := ⟨R_Mo, F_Mo, 58, cl_Mo, by decide, Or.inl wf_Mo_37⟩
set_option maxRecDepth 100000 in
theorem wf_Mo_40 : Cond.fieldLink R_Mo 40 (F_Mo 15).1 (F_Mo 15).2.1 (F_Mo 15).2.2.1 ∈ um_AW := um_in 775 (by decide +kernel) rfl
theorem f_Mo_40 : um_Fd um_cl um_AW R_Mo 40 8 15 := ⟨R_Mo, F_Mo, 58, cl_Mo, by decide, Or.inl wf_Mo_40⟩
set_option maxRecDepth 100000 in
theorem wf_Mo_43 : Cond.fieldLink R_Mo 43 (F_Mo 16).1 (F_Mo 16).2.1 (F_Mo 16).2.2.1 ∈ um_AW := um_in 776 (by decide +kernel) rfl
theorem f_Mo_43 : um_Fd um_cl um_AW R_Mo 43 8 16 := ⟨R_Mo, F_Mo, 58, cl_Mo, by decide, Or.inl wf_Mo_43⟩
set_option maxRecDepth 100000 in
theorem wf_Mo_46 : Cond.fieldLink R_Mo 46 (F_Mo 17).1 (F_Mo 17).2.1 (F_Mo 17).2.2.1 ∈ um_AW := um_in 777 (by decide +kernel) rfl
theorem f_Mo_46 : um_Fd um_cl um_AW R_Mo 46 8 17 := ⟨R_Mo, F_Mo, 58, cl_Mo, by decide, Or.inl wf_Mo_46⟩
set_option maxRecDepth 100000 in
theorem wf_Mo_49 : Cond.fieldLink R_Mo 49 (F_Mo 18).1 (F_Mo 18).2.1 (F_Mo 18).2.2.1 ∈ um_AW := um_in 778 (by decide +kernel) rfl
theorem f_Mo_49 : um_Fd um_cl um_AW R_Mo 49 8 18 := ⟨R_Mo, F_Mo, 58, cl_Mo, by decide, Or.inl wf_Mo_49⟩
set_option maxRecDepth 100000 in
theorem wf_Mo_52 : Cond.fieldLink R_Mo 52 (F_Mo 19).1 (F_Mo 19).2.1 (F_Mo 19).2.2.1 ∈ um_AW := um_in 779 (by decide +kernel) rfl
theorem f_Mo_52 : um_Fd um_cl um_AW R_Mo 52 8 19 := ⟨R_Mo, F_Mo, 58, cl_Mo, by decide, Or.inl wf_Mo_52⟩
set_option maxRecDepth 100000 in
theorem wf_Mo_55 : Cond.fieldLink R_Mo 55 (F_Mo 22).1 (F_Mo 22).2.1 (F_Mo 22).2.2.1 ∈ um_AW := um_in 782 (by decide +kernel) rfl
theorem f_Mo_55 : um_Fd um_cl um_AW R_Mo 55 8 22 := ⟨R_Mo, F_Mo, 58, cl_Mo, by decide, Or.inl wf_Mo_55⟩
set_option maxRecDepth 100000 in
theorem wf_Mo_58 : Cond.fieldLink R_Mo 58 (F_Mo 24).1 (F_Mo 24).2.1 (F_Mo 24).2.2.1 ∈ um_AW := um_in 784 (by decide +kernel) rfl
theorem f_Mo_58 : um_Fd um_cl um_AW R_Mo 58 8 24 := ⟨R_Mo, F_Mo, 58, cl_Mo, by decide, Or.inl wf_Mo_58⟩
set_option maxRecDepth 100000 in
theorem wf_Mo_61 : Cond.fieldLink R_Mo 61 (F_Mo 25).1 (F_Mo 25).2.1 (F_Mo 25).2.2.1 ∈ um_AW := um_in 785 (by decide +kernel) rfl
theorem f_Mo_61 : um_Fd um_cl um_AW R_Mo 61 8 25 := ⟨R_Mo, F_Mo, 58, cl_Mo, by decide, Or.inl wf_Mo_61⟩
set_option maxRecDepth 100000 in
theorem wf_Mo_64 : Cond.fieldLink R_Mo 64 (F_Mo 26).1 (F_Mo 26).2.1 (F_Mo 26).2.2.1 ∈ um_AW := um_in 786 (by decide +kernel) rfl
theorem f_Mo_64 : um_Fd um_cl um_AW R_Mo 64 8 26 := ⟨R_Mo, F_Mo, 58, cl_Mo, by decide, Or.inl wf_Mo_64⟩
set_option maxRecDepth 100000 in
theorem wf_Mo_67 : Cond.fieldLink R_Mo 67 (F_Mo 27).1 (F_Mo 27).2.1 (F_Mo 27).2.2.1 ∈ um_AW := um_in 787 (by decide +kernel) rfl
theorem f_Mo_67 : um_Fd um_cl um_AW R_Mo 67 8 27 := ⟨R_Mo, F_Mo, 58, cl_Mo, by decide, Or.inl wf_Mo_67⟩
set_option maxRecDepth 100000 in
theorem wf_Mo_70 : Cond.fieldLink R_Mo 70 (F_Mo 28).1 (F_Mo 28).2.1 (F_Mo 28).2.2.1 ∈ um_AW := um_in 788 (by decide +kernel) rfl
theorem f_Mo_70 : um_Fd um_cl um_AW R_Mo 70 8 28 := ⟨R_Mo, F_Mo, 58, cl_Mo, by decide, Or.inl wf_Mo_70⟩
set_option maxRecDepth 100000 in
theorem wf_Mo_73 : Cond.fieldLink R_Mo 73 (F_Mo 29).1 (F_Mo 29).2.1 (F_Mo 29).2.2.1 ∈ um_AW := um_in 789 (by decide +kernel) rfl
theorem f_Mo_73 : um_Fd um_cl um_AW R_Mo 73 8 29 := ⟨R_Mo, F_Mo, 58, cl_Mo, by decide, Or.inl wf_Mo_73⟩
set_option maxRecDepth 100000 in
theorem wf_Mo_76 : Cond.fieldLink R_Mo 76 (F_Mo 31).1 (F_Mo 31).2.1 (F_Mo 31).2.2.1 ∈ um_AW := um_in 791 (by decide +kernel) rfl
theorem f_Mo_76 : um_Fd um_cl um_AW R_Mo 76 8 31 := ⟨R_Mo, F_Mo, 58, cl_Mo, by decide, Or.inl wf_Mo_76⟩
set_option maxRecDepth 100000 in
theorem wf_Mo_79 : Cond.fieldLink R_Mo 79 (F_Mo 33).1 (F_Mo 33).2.1 (F_Mo 33).2.2.1 ∈ um_AW := um_in 793 (by decide +kernel) rfl
theorem f_Mo_79 : um_Fd um_cl um_AW R_Mo 79 8 33 := ⟨R_Mo, F_Mo, 58, cl_Mo, by decide, Or.inl wf_Mo_79⟩
set_option maxRecDepth 100000 in
theorem wf_Mo_82 : Cond.fieldLink R_Mo 82 (F_Mo 38).1 (F_Mo 38).2.1 (F_Mo 38).2.2.1 ∈ um_AW := um_in 798 (by decide +kernel) rfl
theorem f_Mo_82 : um_Fd um_cl um_AW R_Mo 82 8 38 := ⟨R_Mo, F_Mo, 58, cl_Mo, by decide, Or.inl wf_Mo_82⟩
set_option maxRecDepth 100000 in
theorem wf_Mo_85 : Cond.fieldLink R_Mo 85 (F_Mo 39).1 (F_Mo 39).2.1 (F_Mo 39).2.2.1 ∈ um_AW := um_in 799 (by decide +kernel) rfl
theorem f_Mo_85 : um_Fd um_cl um_AW R_Mo 85 8 39 := ⟨R_Mo, F_Mo, 58, cl_Mo, by decide, Or.inl wf_Mo_85⟩
set_option maxRecDepth 100000 in
theorem wf_Mo_88 : Cond.fieldLink R_Mo 88 (F_Mo 40).1 (F_Mo 40).2.1 (F_Mo 40).2.2.1 ∈ um_AW := um_in 800 (by decide +kernel) rfl
theorem f_Mo_88 : um_Fd um_cl um_AW R_Mo 88 8 40 := ⟨R_Mo, F_Mo, 58, cl_Mo, by decide, Or.inl wf_Mo_88⟩
set_option maxRecDepth 100000 in
theorem wf_Mo_91 : Cond.fieldLink R_Mo 91 (F_Mo 41).1 (F_Mo 41).2.1 (F_Mo 41).2.2.1 ∈ um_AW := um_in 801 (by decide +kernel) rfl
theorem f_Mo_91 : um_Fd um_cl um_AW R_Mo 91 8 41 := ⟨R_Mo, F_Mo, 58, cl_Mo, by decide, Or.inl wf_Mo_91⟩
set_option maxRecDepth 100000 in
theorem wf_Mo_94 : Cond.fieldLink R_Mo 94 (F_Mo 42).1 (F_Mo 42).2.1 (F_Mo 42).2.2.1 ∈ um_AW := um_in 802 (by decide +kernel) rfl
theorem f_Mo_94 : um_Fd um_cl um_AW R_Mo 94 8 42 := ⟨R_Mo, F_Mo, 58, cl_Mo, by decide, Or.inl wf_Mo_94⟩
set_option maxRecDepth 100000 in
theorem wf_Mo_97 : Cond.fieldLink R_Mo 97 (F_Mo 43).1 (F_Mo 43).2.1 (F_Mo 43).2.2.1 ∈ um_AW := um_in 803 (by decide +kernel) rfl
theorem f_Mo_97 : um_Fd um_cl um_AW R_Mo 97 8 43 := ⟨R_Mo, F_Mo, 58, cl_Mo, by decide, Or.inl wf_Mo_97⟩
set_option maxRecDepth 100000 in
theorem wf_Mo_100 : Cond.fieldLink R_Mo 100 (F_Mo 44).1 (F_Mo 44).2.1 (F_Mo 44).2.2.1 ∈ um_AW := um_in 804 (by decide +kernel) rfl
theorem f_Mo_100 : um_Fd um_cl um_AW R_Mo 100 8 44 := ⟨R_Mo, F_Mo, 58, cl_Mo, by decide, Or.inl wf_Mo_100⟩
set_option maxRecDepth 100000 in
theorem wf_Mo_103 : Cond.fieldLink R_Mo 103 (F_Mo 45).1 (F_Mo 45).2.1 (F_Mo 45).2.2.1 ∈ um_AW := um_in 805 (by decide +kernel) rfl
theorem f_Mo_103 : um_Fd um_cl um_AW R_Mo 103 8 45 := ⟨R_Mo, F_Mo, 58, cl_Mo, by decide, Or.inl wf_Mo_103⟩
set_option maxRecDepth 100000 in
theorem wf_Mo_106 : Cond.fieldLink R_Mo 106 (F_Mo 46).1 (F_Mo 46).2.1 (F_Mo 46).2.2.1 ∈ um_AW := um_in 806 (by decide +kernel) rfl
theorem f_Mo_106 : um_Fd um_cl um_AW R_Mo 106 8 46 := ⟨R_Mo, F_Mo, 58, cl_Mo, by decide, Or.inl wf_Mo_106⟩
theorem fw_Mo_106 : um_Fw um_cl um_AW R_Mo 106 8 46 .int := ⟨R_Mo, F_Mo, 58, cl_Mo, by decide, Or.inl wf_Mo_106, rfl, by decide +kernel⟩
set_option maxRecDepth 100000 in
theorem wf_Mo_110 : Cond.fieldLink R_Mo 110 (F_Mo 50).1 (F_Mo 50).2.1 (F_Mo 50).2.2.1 ∈ um_AW := um_in 810 (by decide +kernel) rfl
theorem f_Mo_110 : um_Fd um_cl um_AW R_Mo 110 8 50 := ⟨R_Mo, F_Mo, 58, cl_Mo, by decide, Or.inl wf_Mo_110⟩
set_option maxRecDepth 100000 in
theorem wf_Mo_113 : Cond.fieldLink R_Mo 113 (F_Mo 54).1 (F_Mo 54).2.1 (F_Mo 54).2.2.1 ∈ um_AW := um_in 814 (by decide +kernel) rfl
theorem f_Mo_113 : um_Fd um_cl um_AW R_Mo 113 8 54 := ⟨R_Mo, F_Mo, 58, cl_Mo, by decide, Or.inl wf_Mo_113⟩
set_option maxRecDepth 100000 in
theorem wf_Mo_116 : Cond.fieldLink R_Mo 116 (F_Mo 55).1 (F_Mo 55).2.1 (F_Mo 55).2.2.1 ∈ um_AW := um_in 815 (by decide +kernel) rfl
theorem f_Mo_116 : um_Fd um_cl um_AW R_Mo 116 8 55 := ⟨R_Mo, F_Mo, 58, cl_Mo, by decide, Or.inl wf_Mo_116⟩
set_option maxRecDepth 100000 in
theorem wf_Mo_119 : Cond.fieldLink R_Mo 119 (F_Mo 56).1 (F_Mo 56).2.1 (F_Mo 56).2.2.1 ∈ um_AW := um_in 816 (by decide +kernel) rfl
theorem f_Mo_119 : um_Fd um_cl um_AW R_Mo 119 8 56 := ⟨R_Mo, F_Mo, 58, cl_Mo, by decide, Or.inl wf_Mo_119⟩
set_option maxRecDepth 100000 in
theorem wf_Mo_122 : Cond.fieldLink R_Mo 122 (F_Mo 57).1 (F_Mo 57).2.1 (F_Mo 57).2.2.1 ∈ um_AW := um_in 817 (by decide +kernel) rfl
theorem f_Mo_122 : um_Fd um_cl um_AW R_Mo 122 8 57 := ⟨R_Mo, F_Mo, 58, cl_Mo, by decide, Or.inl wf_Mo_122⟩
set_option maxRecDepth 100000 in
theorem wf_Mo_125 : Cond.fieldLink R_Mo 125 (F_Mo 0).1 (F_Mo 0).2.1 (F_Mo 0).2.2.1 ∈ um_AW := um_in 760 (by decide +kernel) rfl
theorem f_Mo_125 : um_Fd um_cl um_AW R_Mo 125 8 0 := ⟨R_Mo, F_Mo, 58, cl_Mo, by decide, Or.inl wf_Mo_125⟩
theorem fw_Mo_125 : um_Fw um_cl um_AW R_Mo 125 8 0 .int := ⟨R_Mo, F_Mo, 58, cl_Mo, by decide, Or.inl wf_Mo_125, rfl, by decide +kernel⟩
set_option maxRecDepth 100000 in
theorem wf_Mo_128 : Cond.fieldLink R_Mo 128 (F_Mo 1).1 (F_Mo 1).2.1 (F_Mo 1).2.2.1 ∈ um_AW := um_in 761 (by decide +kernel) rfl
theorem f_Mo_128 : um_Fd um_cl um_AW R_Mo 128 8 1 := ⟨R_Mo, F_Mo, 58, cl_Mo, by decide, Or.inl wf_Mo_128⟩
theorem fw_Mo_128 : um_Fw um_cl um_AW R_Mo 128 8 1 .int := ⟨R_Mo, F_Mo, 58, cl_Mo, by decide, Or.inl wf_Mo_128, rfl, by decide +kernel⟩
set_option maxRecDepth 100000 in
theorem wl_Mo_131 : Cond.methodLink R_Mo 131 M_Mo_isThere.1 ∈ um_AW := um_in 954 (by decide +kernel) rfl
set_option maxRecDepth 100000 in
theorem wn_Mo_isThere : Cond.instanceMethod M_Mo_isThere.1 ∈ um_AW := um_in 956 (by decide +kernel) rfl
set_option maxRecDepth 100000 in
theorem wv_Mo_isThere : Cond.selects R_Mo M_Mo_isThere.1 M_Mo_isThere.1 ∈ um_AW := um_in 37 (by decide +kernel) rfl
theorem g_Mo_131 : um_Iv um_cl um_AW R_Mo 131 8 M_Mo_isThere 3 := ⟨⟨um_gd, wc_Mo_isThere, wi_Mo, ⟨by decide, by decide, by decide +kernel⟩, Or.inl wl_Mo_131⟩, (R_Mo, F_Mo, 58), rfl, wn_Mo_isThere, wv_Mo_isThere⟩
set_option maxRecDepth 100000 in
theorem wl_Mo_135 : Cond.methodLink R_Mo 135 M_Mo_isVariable.1 ∈ um_AW := um_in 947 (by decide +kernel) rfl
set_option maxRecDepth 100000 in
theorem ws_Mo_isVariable : Cond.static M_Mo_isVariable.1 ∈ um_AW := um_in 948 (by decide +kernel) rfl
theorem g_Mo_135 : um_Is um_AW R_Mo 135 M_Mo_isVariable 1 := ⟨⟨um_gd, wc_Mo_isVariable, wi_Mo, ⟨by decide, by decide, by decide +kernel⟩, Or.inl wl_Mo_135⟩, ws_Mo_isVariable⟩
set_option maxRecDepth 100000 in
theorem wl_Mo_139 : Cond.methodLink R_Mo 139 M_Mo_isExpression.1 ∈ um_AW := um_in 950 (by decide +kernel) rfl
set_option maxRecDepth 100000 in
theorem wn_Mo_isExpression : Cond.instanceMethod M_Mo_isExpression.1 ∈ um_AW := um_in 952 (by decide +kernel) rfl
set_option maxRecDepth 100000 in
theorem wv_Mo_isExpression : Cond.selects R_Mo M_Mo_isExpression.1 M_Mo_isExpression.1 ∈ um_AW := um_in 36 (by decide +kernel) rfl
theorem g_Mo_139 : um_Iv um_cl um_AW R_Mo 139 8 M_Mo_isExpression 1 := ⟨⟨um_gd, wc_Mo_isExpression, wi_Mo, ⟨by decide, by decide, by decide +kernel⟩, Or.inl wl_Mo_139⟩, (R_Mo, F_Mo, 58), rfl, wn_Mo_isExpression, wv_Mo_isExpression⟩
set_option maxRecDepth 100000 in
theorem wl_Mo_142 : Cond.methodLink R_Mo 142 M_Mo_isStatement.1 ∈ um_AW := um_in 958 (by decide +kernel) rfl
set_option maxRecDepth 100000 in
theorem wn_Mo_isStatement : Cond.instanceMethod M_Mo_isStatement.1 ∈ um_AW := um_in 960 (by decide +kernel) rfl
set_option maxRecDepth 100000 in
theorem wv_Mo_isStatement : Cond.selects R_Mo M_Mo_isStatement.1 M_Mo_isStatement.1 ∈ um_AW := um_in 38 (by decide +kernel) rfl
theorem g_Mo_142 : um_Iv um_cl um_AW R_Mo 142 8 M_Mo_isStatement 1 := ⟨⟨um_gd, wc_Mo_isStatement, wi_Mo, ⟨by decide, by decide, by decide +kernel⟩, Or.inl wl_Mo_142⟩, (R_Mo, F_Mo, 58), rfl, wn_Mo_isStatement, wv_Mo_isStatement⟩
set_option maxRecDepth 100000 in
theorem wl_Mo_145 : Cond.methodLink R_Mo 145 M_Mo_isCatch.1 ∈ um_AW := um_in 962 (by decide +kernel) rfl
set_option maxRecDepth 100000 in
theorem wn_Mo_isCatch : Cond.instanceMethod M_Mo_isCatch.1 ∈ um_AW := um_in 964 (by decide +kernel) rfl
set_option maxRecDepth 100000 in
theorem wv_Mo_isCatch : Cond.selects R_Mo M_Mo_isCatch.1 M_Mo_isCatch.1 ∈ um_AW := um_in 39 (by decide +kernel) rfl
theorem g_Mo_145 : um_Iv um_cl um_AW R_Mo 145 8 M_Mo_isCatch 1 := ⟨⟨um_gd, wc_Mo_isCatch, wi_Mo, ⟨by decide, by decide, by decide +kernel⟩, Or.inl wl_Mo_145⟩, (R_Mo, F_Mo, 58), rfl, wn_Mo_isCatch, wv_Mo_isCatch⟩
set_option maxRecDepth 100000 in
theorem wl_Mo_148 : Cond.methodLink R_Mo 148 M_Mo_can.1 ∈ um_AW := um_in 943 (by decide +kernel) rfl
set_option maxRecDepth 100000 in
theorem wn_Mo_can : Cond.instanceMethod M_Mo_can.1 ∈ um_AW := um_in 945 (by decide +kernel) rfl
set_option maxRecDepth 100000 in
theorem wv_Mo_can : Cond.selects R_Mo M_Mo_can.1 M_Mo_can.1 ∈ um_AW := um_in 35 (by decide +kernel) rfl
theorem g_Mo_148 : um_Iv um_cl um_AW R_Mo 148 8 M_Mo_can 5 := ⟨⟨um_gd, wc_Mo_can, wi_Mo, ⟨by decide, by decide, by decide +kernel⟩, Or.inl wl_Mo_148⟩, (R_Mo, F_Mo, 58), rfl, wn_Mo_can, wv_Mo_can⟩
set_option maxRecDepth 100000 in
theorem wl_Mo_152 : Cond.methodLink R_Mo 152 M_Mo_adds.1 ∈ um_AW := um_in 966 (by decide +kernel) rfl
set_option maxRecDepth 100000 in
theorem wn_Mo_adds : Cond.instanceMethod M_Mo_adds.1 ∈ um_AW := um_in 968 (by decide +kernel) rfl
set_option maxRecDepth 100000 in
theorem wv_Mo_adds : Cond.selects R_Mo M_Mo_adds.1 M_Mo_adds.1 ∈ um_AW := um_in 40 (by decide +kernel) rfl
theorem g_Mo_152 : um_Iv um_cl um_AW R_Mo 152 8 M_Mo_adds 5 := ⟨⟨um_gd, wc_Mo_adds, wi_Mo, ⟨by decide, by decide, by decide +kernel⟩, Or.inl wl_Mo_152⟩, (R_Mo, F_Mo, 58), rfl, wn_Mo_adds, wv_Mo_adds⟩
set_option maxRecDepth 100000 in
theorem wf_Mo_156 : Cond.fieldLink R_Mo 156 (F_Mo 34).1 (F_Mo 34).2.1 (F_Mo 34).2.2.1 ∈ um_AW := um_in 794 (by decide +kernel) rfl
theorem f_Mo_156 : um_Fd um_cl um_AW R_Mo 156 8 34 := ⟨R_Mo, F_Mo, 58, cl_Mo, by decide, Or.inl wf_Mo_156⟩
theorem fw_Mo_156 : um_Fw um_cl um_AW R_Mo 156 8 34 .boolean := ⟨R_Mo, F_Mo, 58, cl_Mo, by decide, Or.inl wf_Mo_156, rfl, by decide +kernel⟩
set_option maxRecDepth 100000 in
theorem wl_Mo_160 : Cond.methodLink R_Mo 160 M_Mo_catches.1 ∈ um_AW := um_in 1010 (by decide +kernel) rfl
set_option maxRecDepth 100000 in
theorem wn_Mo_catches : Cond.instanceMethod M_Mo_catches.1 ∈ um_AW := um_in 1012 (by decide +kernel) rfl
set_option maxRecDepth 100000 in
theorem wv_Mo_catches : Cond.selects R_Mo M_Mo_catches.1 M_Mo_catches.1 ∈ um_AW := um_in 48 (by decide +kernel) rfl
theorem g_Mo_160 : um_Iv um_cl um_AW R_Mo 160 8 M_Mo_catches 1 := ⟨⟨um_gd, wc_Mo_catches, wi_Mo, ⟨by decide, by decide, by decide +kernel⟩, Or.inl wl_Mo_160⟩, (R_Mo, F_Mo, 58), rfl, wn_Mo_catches, wv_Mo_catches⟩
set_option maxRecDepth 100000 in
theorem wf_Mo_164 : Cond.fieldLink R_Mo 164 (F_Mo 10).1 (F_Mo 10).2.1 (F_Mo 10).2.2.1 ∈ um_AW := um_in 770 (by decide +kernel) rfl
theorem f_Mo_164 : um_Fd um_cl um_AW R_Mo 164 8 10 := ⟨R_Mo, F_Mo, 58, cl_Mo, by decide, Or.inl wf_Mo_164⟩
theorem fw_Mo_164 : um_Fw um_cl um_AW R_Mo 164 8 10 .int := ⟨R_Mo, F_Mo, 58, cl_Mo, by decide, Or.inl wf_Mo_164, rfl, by decide +kernel⟩
set_option maxRecDepth 100000 in
theorem wf_Mo_167 : Cond.fieldLink R_Mo 167 (F_Mo 35).1 (F_Mo 35).2.1 (F_Mo 35).2.2.1 ∈ um_AW := um_in 795 (by decide +kernel) rfl
theorem f_Mo_167 : um_Fd um_cl um_AW R_Mo 167 8 35 := ⟨R_Mo, F_Mo, 58, cl_Mo, by decide, Or.inl wf_Mo_167⟩
theorem fw_Mo_167 : um_Fw um_cl um_AW R_Mo 167 8 35 .boolean := ⟨R_Mo, F_Mo, 58, cl_Mo, by decide, Or.inl wf_Mo_167, rfl, by decide +kernel⟩
set_option maxRecDepth 100000 in
theorem wf_Mo_170 : Cond.fieldLink R_Mo 170 (F_Mo 20).1 (F_Mo 20).2.1 (F_Mo 20).2.2.1 ∈ um_AW := um_in 780 (by decide +kernel) rfl
theorem f_Mo_170 : um_Fd um_cl um_AW R_Mo 170 8 20 := ⟨R_Mo, F_Mo, 58, cl_Mo, by decide, Or.inl wf_Mo_170⟩
theorem fw_Mo_170 : um_Fw um_cl um_AW R_Mo 170 8 20 .int := ⟨R_Mo, F_Mo, 58, cl_Mo, by decide, Or.inl wf_Mo_170, rfl, by decide +kernel⟩
set_option maxRecDepth 100000 in
theorem wf_Mo_173 : Cond.fieldLink R_Mo 173 (F_Mo 37).1 (F_Mo 37).2.1 (F_Mo 37).2.2.1 ∈ um_AW := um_in 797 (by decide +kernel) rfl
theorem f_Mo_173 : um_Fd um_cl um_AW R_Mo 173 8 37 := ⟨R_Mo, F_Mo, 58, cl_Mo, by decide, Or.inl wf_Mo_173⟩
theorem fw_Mo_173 : um_Fw um_cl um_AW R_Mo 173 8 37 .int := ⟨R_Mo, F_Mo, 58, cl_Mo, by decide, Or.inl wf_Mo_173, rfl, by decide +kernel⟩
set_option maxRecDepth 100000 in
theorem wl_Mo_176 : Cond.methodLink R_Mo 176 M_Mo_begin.1 ∈ um_AW := um_in 986 (by decide +kernel) rfl
set_option maxRecDepth 100000 in
theorem wn_Mo_begin : Cond.instanceMethod M_Mo_begin.1 ∈ um_AW := um_in 988 (by decide +kernel) rfl
set_option maxRecDepth 100000 in
theorem wv_Mo_begin : Cond.selects R_Mo M_Mo_begin.1 M_Mo_begin.1 ∈ um_AW := um_in 42 (by decide +kernel) rfl
theorem g_Mo_176 : um_Iv um_cl um_AW R_Mo 176 8 M_Mo_begin 4 := ⟨⟨um_gd, wc_Mo_begin, wi_Mo, ⟨by decide, by decide, by decide +kernel⟩, Or.inl wl_Mo_176⟩, (R_Mo, F_Mo, 58), rfl, wn_Mo_begin, wv_Mo_begin⟩
set_option maxRecDepth 100000 in
theorem wf_Mo_180 : Cond.fieldLink R_Mo 180 (F_Mo 23).1 (F_Mo 23).2.1 (F_Mo 23).2.2.1 ∈ um_AW := um_in 783 (by decide +kernel) rfl
theorem f_Mo_180 : um_Fd um_cl um_AW R_Mo 180 8 23 := ⟨R_Mo, F_Mo, 58, cl_Mo, by decide, Or.inl wf_Mo_180⟩
theorem fw_Mo_180 : um_Fw um_cl um_AW R_Mo 180 8 23 .int := ⟨R_Mo, F_Mo, 58, cl_Mo, by decide, Or.inl wf_Mo_180, rfl, by decide +kernel⟩
set_option maxRecDepth 100000 in
theorem wl_Mo_183 : Cond.methodLink R_Mo 183 M_Mo_expression.1 ∈ um_AW := um_in 994 (by decide +kernel) rfl
set_option maxRecDepth 100000 in
theorem wn_Mo_expression : Cond.instanceMethod M_Mo_expression.1 ∈ um_AW := um_in 996 (by decide +kernel) rfl
set_option maxRecDepth 100000 in
theorem wv_Mo_expression : Cond.selects R_Mo M_Mo_expression.1 M_Mo_expression.1 ∈ um_AW := um_in 44 (by decide +kernel) rfl
theorem g_Mo_183 : um_Iv um_cl um_AW R_Mo 183 8 M_Mo_expression 2 := ⟨⟨um_gd, wc_Mo_expression, wi_Mo, ⟨by decide, by decide, by decide +kernel⟩, Or.inl wl_Mo_183⟩, (R_Mo, F_Mo, 58), rfl, wn_Mo_expression, wv_Mo_expression⟩
set_option maxRecDepth 100000 in
theorem wl_Mo_187 : Cond.methodLink R_Mo 187 M_Mo_apart.1 ∈ um_AW := um_in 1006 (by decide +kernel) rfl
set_option maxRecDepth 100000 in
theorem wn_Mo_apart : Cond.instanceMethod M_Mo_apart.1 ∈ um_AW := um_in 1008 (by decide +kernel) rfl
set_option maxRecDepth 100000 in
theorem wv_Mo_apart : Cond.selects R_Mo M_Mo_apart.1 M_Mo_apart.1 ∈ um_AW := um_in 47 (by decide +kernel) rfl
theorem g_Mo_187 : um_Iv um_cl um_AW R_Mo 187 8 M_Mo_apart 1 := ⟨⟨um_gd, wc_Mo_apart, wi_Mo, ⟨by decide, by decide, by decide +kernel⟩, Or.inl wl_Mo_187⟩, (R_Mo, F_Mo, 58), rfl, wn_Mo_apart, wv_Mo_apart⟩
set_option maxRecDepth 100000 in
theorem wl_Mo_191 : Cond.methodLink R_Mo 191 M_Mo_tries.1 ∈ um_AW := um_in 1026 (by decide +kernel) rfl
set_option maxRecDepth 100000 in
theorem wn_Mo_tries : Cond.instanceMethod M_Mo_tries.1 ∈ um_AW := um_in 1028 (by decide +kernel) rfl
set_option maxRecDepth 100000 in
theorem wv_Mo_tries : Cond.selects R_Mo M_Mo_tries.1 M_Mo_tries.1 ∈ um_AW := um_in 52 (by decide +kernel) rfl
theorem g_Mo_191 : um_Iv um_cl um_AW R_Mo 191 8 M_Mo_tries 1 := ⟨⟨um_gd, wc_Mo_tries, wi_Mo, ⟨by decide, by decide, by decide +kernel⟩, Or.inl wl_Mo_191⟩, (R_Mo, F_Mo, 58), rfl, wn_Mo_tries, wv_Mo_tries⟩
set_option maxRecDepth 100000 in
theorem wl_Mo_194 : Cond.methodLink R_Mo 194 M_Mo_leaves.1 ∈ um_AW := um_in 1038 (by decide +kernel) rfl
set_option maxRecDepth 100000 in
theorem wn_Mo_leaves : Cond.instanceMethod M_Mo_leaves.1 ∈ um_AW := um_in 1040 (by decide +kernel) rfl
set_option maxRecDepth 100000 in
theorem wv_Mo_leaves : Cond.selects R_Mo M_Mo_leaves.1 M_Mo_leaves.1 ∈ um_AW := um_in 55 (by decide +kernel) rfl
theorem g_Mo_194 : um_Iv um_cl um_AW R_Mo 194 8 M_Mo_leaves 2 := ⟨⟨um_gd, wc_Mo_leaves, wi_Mo, ⟨by decide, by decide, by decide +kernel⟩, Or.inl wl_Mo_194⟩, (R_Mo, F_Mo, 58), rfl, wn_Mo_leaves, wv_Mo_leaves⟩
set_option maxRecDepth 100000 in
theorem wl_Mo_197 : Cond.methodLink R_Mo 197 M_Mo_statement.1 ∈ um_AW := um_in 1046 (by decide +kernel) rfl
set_option maxRecDepth 100000 in
theorem wn_Mo_statement : Cond.instanceMethod M_Mo_statement.1 ∈ um_AW := um_in 1048 (by decide +kernel) rfl
set_option maxRecDepth 100000 in
theorem wv_Mo_statement : Cond.selects R_Mo M_Mo_statement.1 M_Mo_statement.1 ∈ um_AW := um_in 57 (by decide +kernel) rfl
theorem g_Mo_197 : um_Iv um_cl um_AW R_Mo 197 8 M_Mo_statement 2 := ⟨⟨um_gd, wc_Mo_statement, wi_Mo, ⟨by decide, by decide, by decide +kernel⟩, Or.inl wl_Mo_197⟩, (R_Mo, F_Mo, 58), rfl, wn_Mo_statement, wv_Mo_statement⟩
set_option maxRecDepth 100000 in
theorem wl_Mo_200 : Cond.methodLink R_Mo 200 M_Mo_put.1 ∈ um_AW := um_in 998 (by decide +kernel) rfl
set_option maxRecDepth 100000 in
theorem wn_Mo_put : Cond.instanceMethod M_Mo_put.1 ∈ um_AW := um_in 1000 (by decide +kernel) rfl
set_option maxRecDepth 100000 in
theorem wv_Mo_put : Cond.selects R_Mo M_Mo_put.1 M_Mo_put.1 ∈ um_AW := um_in 45 (by decide +kernel) rfl
theorem g_Mo_200 : um_Iv um_cl um_AW R_Mo 200 8 M_Mo_put 3 := ⟨⟨um_gd, wc_Mo_put, wi_Mo, ⟨by decide, by decide, by decide +kernel⟩, Or.inl wl_Mo_200⟩, (R_Mo, F_Mo, 58), rfl, wn_Mo_put, wv_Mo_put⟩
set_option maxRecDepth 100000 in
theorem wl_Mo_204 : Cond.methodLink R_Mo 204 M_Mo_part.1 ∈ um_AW := um_in 1002 (by decide +kernel) rfl
set_option maxRecDepth 100000 in
theorem wn_Mo_part : Cond.instanceMethod M_Mo_part.1 ∈ um_AW := um_in 1004 (by decide +kernel) rfl
set_option maxRecDepth 100000 in
theorem wv_Mo_part : Cond.selects R_Mo M_Mo_part.1 M_Mo_part.1 ∈ um_AW := um_in 46 (by decide +kernel) rfl
theorem g_Mo_204 : um_Iv um_cl um_AW R_Mo 204 8 M_Mo_part 2 := ⟨⟨um_gd, wc_Mo_part, wi_Mo, ⟨by decide, by decide, by decide +kernel⟩, Or.inl wl_Mo_204⟩, (R_Mo, F_Mo, 58), rfl, wn_Mo_part, wv_Mo_part⟩
set_option maxRecDepth 100000 in
theorem wl_Mo_207 : Cond.methodLink R_Mo 207 M_Mo_decides.1 ∈ um_AW := um_in 1050 (by decide +kernel) rfl
set_option maxRecDepth 100000 in
theorem wn_Mo_decides : Cond.instanceMethod M_Mo_decides.1 ∈ um_AW := um_in 1052 (by decide +kernel) rfl
set_option maxRecDepth 100000 in
theorem wv_Mo_decides : Cond.selects R_Mo M_Mo_decides.1 M_Mo_decides.1 ∈ um_AW := um_in 58 (by decide +kernel) rfl
theorem g_Mo_207 : um_Iv um_cl um_AW R_Mo 207 8 M_Mo_decides 2 := ⟨⟨um_gd, wc_Mo_decides, wi_Mo, ⟨by decide, by decide, by decide +kernel⟩, Or.inl wl_Mo_207⟩, (R_Mo, F_Mo, 58), rfl, wn_Mo_decides, wv_Mo_decides⟩
set_option maxRecDepth 100000 in
theorem wl_Mo_210 : Cond.methodLink R_Mo 210 M_Mo_repeats.1 ∈ um_AW := um_in 1054 (by decide +kernel) rfl
set_option maxRecDepth 100000 in
theorem wn_Mo_repeats : Cond.instanceMethod M_Mo_repeats.1 ∈ um_AW := um_in 1056 (by decide +kernel) rfl
set_option maxRecDepth 100000 in
theorem wv_Mo_repeats : Cond.selects R_Mo M_Mo_repeats.1 M_Mo_repeats.1 ∈ um_AW := um_in 59 (by decide +kernel) rfl
theorem g_Mo_210 : um_Iv um_cl um_AW R_Mo 210 8 M_Mo_repeats 2 := ⟨⟨um_gd, wc_Mo_repeats, wi_Mo, ⟨by decide, by decide, by decide +kernel⟩, Or.inl wl_Mo_210⟩, (R_Mo, F_Mo, 58), rfl, wn_Mo_repeats, wv_Mo_repeats⟩
set_option maxRecDepth 100000 in
theorem wl_Mo_213 : Cond.methodLink R_Mo 213 M_Mo_item.1 ∈ um_AW := um_in 1030 (by decide +kernel) rfl
set_option maxRecDepth 100000 in
theorem wn_Mo_item : Cond.instanceMethod M_Mo_item.1 ∈ um_AW := um_in 1032 (by decide +kernel) rfl
set_option maxRecDepth 100000 in
theorem wv_Mo_item : Cond.selects R_Mo M_Mo_item.1 M_Mo_item.1 ∈ um_AW := um_in 53 (by decide +kernel) rfl
theorem g_Mo_213 : um_Iv um_cl um_AW R_Mo 213 8 M_Mo_item 1 := ⟨⟨um_gd, wc_Mo_item, wi_Mo, ⟨by decide, by decide, by decide +kernel⟩, Or.inl wl_Mo_213⟩, (R_Mo, F_Mo, 58), rfl, wn_Mo_item, wv_Mo_item⟩
set_option maxRecDepth 100000 in
theorem wl_Mo_216 : Cond.methodLink R_Mo 216 M_Mo_ends.1 ∈ um_AW := um_in 1034 (by decide +kernel) rfl
set_option maxRecDepth 100000 in
theorem wn_Mo_ends : Cond.instanceMethod M_Mo_ends.1 ∈ um_AW := um_in 1036 (by decide +kernel) rfl
set_option maxRecDepth 100000 in
theorem wv_Mo_ends : Cond.selects R_Mo M_Mo_ends.1 M_Mo_ends.1 ∈ um_AW := um_in 54 (by decide +kernel) rfl
theorem g_Mo_216 : um_Iv um_cl um_AW R_Mo 216 8 M_Mo_ends 1 := ⟨⟨um_gd, wc_Mo_ends, wi_Mo, ⟨by decide, by decide, by decide +kernel⟩, Or.inl wl_Mo_216⟩, (R_Mo, F_Mo, 58), rfl, wn_Mo_ends, wv_Mo_ends⟩
set_option maxRecDepth 100000 in
theorem wl_Mo_219 : Cond.methodLink R_Mo 219 M_Mo_loop.1 ∈ um_AW := um_in 1042 (by decide +kernel) rfl
set_option maxRecDepth 100000 in
theorem wn_Mo_loop : Cond.instanceMethod M_Mo_loop.1 ∈ um_AW := um_in 1044 (by decide +kernel) rfl
set_option maxRecDepth 100000 in
theorem wv_Mo_loop : Cond.selects R_Mo M_Mo_loop.1 M_Mo_loop.1 ∈ um_AW := um_in 56 (by decide +kernel) rfl
theorem g_Mo_219 : um_Iv um_cl um_AW R_Mo 219 8 M_Mo_loop 1 := ⟨⟨um_gd, wc_Mo_loop, wi_Mo, ⟨by decide, by decide, by decide +kernel⟩, Or.inl wl_Mo_219⟩, (R_Mo, F_Mo, 58), rfl, wn_Mo_loop, wv_Mo_loop⟩
set_option maxRecDepth 100000 in
theorem wf_Mo_222 : Cond.fieldLink R_Mo 222 (F_Mo 36).1 (F_Mo 36).2.1 (F_Mo 36).2.2.1 ∈ um_AW := um_in 796 (by decide +kernel) rfl
theorem f_Mo_222 : um_Fd um_cl um_AW R_Mo 222 8 36 := ⟨R_Mo, F_Mo, 58, cl_Mo, by decide, Or.inl wf_Mo_222⟩
theorem fw_Mo_222 : um_Fw um_cl um_AW R_Mo 222 8 36 .boolean := ⟨R_Mo, F_Mo, 58, cl_Mo, by decide, Or.inl wf_Mo_222, rfl, by decide +kernel⟩
set_option maxRecDepth 100000 in
theorem wl_Mo_225 : Cond.methodLink R_Mo 225 M_Mo_hasFinally.1 ∈ um_AW := um_in 1018 (by decide +kernel) rfl
set_option maxRecDepth 100000 in
theorem wn_Mo_hasFinally : Cond.instanceMethod M_Mo_hasFinally.1 ∈ um_AW := um_in 1020 (by decide +kernel) rfl
set_option maxRecDepth 100000 in
theorem wv_Mo_hasFinally : Cond.selects R_Mo M_Mo_hasFinally.1 M_Mo_hasFinally.1 ∈ um_AW := um_in 50 (by decide +kernel) rfl
theorem g_Mo_225 : um_Iv um_cl um_AW R_Mo 225 8 M_Mo_hasFinally 1 := ⟨⟨um_gd, wc_Mo_hasFinally, wi_Mo, ⟨by decide, by decide, by decide +kernel⟩, Or.inl wl_Mo_225⟩, (R_Mo, F_Mo, 58), rfl, wn_Mo_hasFinally, wv_Mo_hasFinally⟩
set_option maxRecDepth 100000 in
theorem wl_Mo_228 : Cond.methodLink R_Mo 228 M_Mo_last.1 ∈ um_AW := um_in 1022 (by decide +kernel) rfl
set_option maxRecDepth 100000 in
theorem wn_Mo_last : Cond.instanceMethod M_Mo_last.1 ∈ um_AW := um_in 1024 (by decide +kernel) rfl
set_option maxRecDepth 100000 in
theorem wv_Mo_last : Cond.selects R_Mo M_Mo_last.1 M_Mo_last.1 ∈ um_AW := um_in 51 (by decide +kernel) rfl
theorem g_Mo_228 : um_Iv um_cl um_AW R_Mo 228 8 M_Mo_last 1 := ⟨⟨um_gd, wc_Mo_last, wi_Mo, ⟨by decide, by decide, by decide +kernel⟩, Or.inl wl_Mo_228⟩, (R_Mo, F_Mo, 58), rfl, wn_Mo_last, wv_Mo_last⟩
set_option maxRecDepth 100000 in
theorem wf_Mo_231 : Cond.fieldLink R_Mo 231 (F_Mo 32).1 (F_Mo 32).2.1 (F_Mo 32).2.2.1 ∈ um_AW := um_in 792 (by decide +kernel) rfl
theorem f_Mo_231 : um_Fd um_cl um_AW R_Mo 231 8 32 := ⟨R_Mo, F_Mo, 58, cl_Mo, by decide, Or.inl wf_Mo_231⟩
theorem fw_Mo_231 : um_Fw um_cl um_AW R_Mo 231 8 32 .int := ⟨R_Mo, F_Mo, 58, cl_Mo, by decide, Or.inl wf_Mo_231, rfl, by decide +kernel⟩
set_option maxRecDepth 100000 in
theorem wl_Mo_234 : Cond.methodLink R_Mo 234 M_Mo_catchAt.1 ∈ um_AW := um_in 1014 (by decide +kernel) rfl
set_option maxRecDepth 100000 in
theorem wn_Mo_catchAt : Cond.instanceMethod M_Mo_catchAt.1 ∈ um_AW := um_in 1016 (by decide +kernel) rfl
set_option maxRecDepth 100000 in
theorem wv_Mo_catchAt : Cond.selects R_Mo M_Mo_catchAt.1 M_Mo_catchAt.1 ∈ um_AW := um_in 49 (by decide +kernel) rfl
theorem g_Mo_234 : um_Iv um_cl um_AW R_Mo 234 8 M_Mo_catchAt 2 := ⟨⟨um_gd, wc_Mo_catchAt, wi_Mo, ⟨by decide, by decide, by decide +kernel⟩, Or.inl wl_Mo_234⟩, (R_Mo, F_Mo, 58), rfl, wn_Mo_catchAt, wv_Mo_catchAt⟩
set_option maxRecDepth 100000 in
theorem wf_Mo_238 : Cond.fieldLink R_Mo 238 (F_Mo 30).1 (F_Mo 30).2.1 (F_Mo 30).2.2.1 ∈ um_AW := um_in 790 (by decide +kernel) rfl
theorem f_Mo_238 : um_Fd um_cl um_AW R_Mo 238 8 30 := ⟨R_Mo, F_Mo, 58, cl_Mo, by decide, Or.inl wf_Mo_238⟩
theorem fw_Mo_238 : um_Fw um_cl um_AW R_Mo 238 8 30 .int := ⟨R_Mo, F_Mo, 58, cl_Mo, by decide, Or.inl wf_Mo_238, rfl, by decide +kernel⟩
set_option maxRecDepth 100000 in
theorem wf_Mo_241 : Cond.fieldLink R_Mo 241 (F_Mo 21).1 (F_Mo 21).2.1 (F_Mo 21).2.2.1 ∈ um_AW := um_in 781 (by decide +kernel) rfl
theorem f_Mo_241 : um_Fd um_cl um_AW R_Mo 241 8 21 := ⟨R_Mo, F_Mo, 58, cl_Mo, by decide, Or.inl wf_Mo_241⟩
theorem fw_Mo_241 : um_Fw um_cl um_AW R_Mo 241 8 21 .int := ⟨R_Mo, F_Mo, 58, cl_Mo, by decide, Or.inl wf_Mo_241, rfl, by decide +kernel⟩
set_option maxRecDepth 100000 in
theorem wf_Mo_244 : Cond.fieldLink R_Mo 244 (F_Mo 14).1 (F_Mo 14).2.1 (F_Mo 14).2.2.1 ∈ um_AW := um_in 774 (by decide +kernel) rfl
theorem f_Mo_244 : um_Fd um_cl um_AW R_Mo 244 8 14 := ⟨R_Mo, F_Mo, 58, cl_Mo, by decide, Or.inl wf_Mo_244⟩
theorem fw_Mo_244 : um_Fw um_cl um_AW R_Mo 244 8 14 .int := ⟨R_Mo, F_Mo, 58, cl_Mo, by decide, Or.inl wf_Mo_244, rfl, by decide +kernel⟩
set_option maxRecDepth 100000 in
theorem wl_Mo_247 : Cond.methodLink R_Mo 247 M_Mo_isAround.1 ∈ um_AW := um_in 1070 (by decide +kernel) rfl
set_option maxRecDepth 100000 in
theorem wn_Mo_isAround : Cond.instanceMethod M_Mo_isAround.1 ∈ um_AW := um_in 1072 (by decide +kernel) rfl
set_option maxRecDepth 100000 in
theorem wv_Mo_isAround : Cond.selects R_Mo M_Mo_isAround.1 M_Mo_isAround.1 ∈ um_AW := um_in 63 (by decide +kernel) rfl
theorem g_Mo_247 : um_Iv um_cl um_AW R_Mo 247 8 M_Mo_isAround 2 := ⟨⟨um_gd, wc_Mo_isAround, wi_Mo, ⟨by decide, by decide, by decide +kernel⟩, Or.inl wl_Mo_247⟩, (R_Mo, F_Mo, 58), rfl, wn_Mo_isAround, wv_Mo_isAround⟩
set_option maxRecDepth 100000 in
theorem wl_Mo_250 : Cond.methodLink R_Mo 250 M_Mo_row_IIIII.1 ∈ um_AW := um_in 1074 (by decide +kernel) rfl
set_option maxRecDepth 100000 in
theorem wn_Mo_row_IIIII : Cond.instanceMethod M_Mo_row_IIIII.1 ∈ um_AW := um_in 1076 (by decide +kernel) rfl
set_option maxRecDepth 100000 in
theorem wv_Mo_row_IIIII : Cond.selects R_Mo M_Mo_row_IIIII.1 M_Mo_row_IIIII.1 ∈ um_AW := um_in 64 (by decide +kernel) rfl
theorem g_Mo_250 : um_Iv um_cl um_AW R_Mo 250 8 M_Mo_row_IIIII 5 := ⟨⟨um_gd, wc_Mo_row_IIIII, wi_Mo, ⟨by decide, by decide, by decide +kernel⟩, Or.inl wl_Mo_250⟩, (R_Mo, F_Mo, 58), rfl, wn_Mo_row_IIIII, wv_Mo_row_IIIII⟩
set_option maxRecDepth 100000 in
theorem wl_Mo_254 : Cond.methodLink R_Mo 254 M_Mo_stretches.1 ∈ um_AW := um_in 1066 (by decide +kernel) rfl
set_option maxRecDepth 100000 in
theorem wn_Mo_stretches : Cond.instanceMethod M_Mo_stretches.1 ∈ um_AW := um_in 1068 (by decide +kernel) rfl
set_option maxRecDepth 100000 in
theorem wv_Mo_stretches : Cond.selects R_Mo M_Mo_stretches.1 M_Mo_stretches.1 ∈ um_AW := um_in 62 (by decide +kernel) rfl
theorem g_Mo_254 : um_Iv um_cl um_AW R_Mo 254 8 M_Mo_stretches 5 := ⟨⟨um_gd, wc_Mo_stretches, wi_Mo, ⟨by decide, by decide, by decide +kernel⟩, Or.inl wl_Mo_254⟩, (R_Mo, F_Mo, 58), rfl, wn_Mo_stretches, wv_Mo_stretches⟩
set_option maxRecDepth 100000 in
theorem k_Mo_258 : Cond.constant R_Mo 258 (-2147483648) ∈ um_AW := um_in 1078 (by decide +kernel) rfl
set_option maxRecDepth 100000 in
theorem k_Mo_259 : Cond.constant R_Mo 259 2147483647 ∈ um_AW := um_in 1079 (by decide +kernel) rfl
set_option maxRecDepth 100000 in
theorem wl_Mo_260 : Cond.methodLink R_Mo 260 M_Mo_goesOn.1 ∈ um_AW := um_in 990 (by decide +kernel) rfl
set_option maxRecDepth 100000 in
theorem wn_Mo_goesOn : Cond.instanceMethod M_Mo_goesOn.1 ∈ um_AW := um_in 992 (by decide +kernel) rfl
set_option maxRecDepth 100000 in
theorem wv_Mo_goesOn : Cond.selects R_Mo M_Mo_goesOn.1 M_Mo_goesOn.1 ∈ um_AW := um_in 43 (by decide +kernel) rfl
theorem g_Mo_260 : um_Iv um_cl um_AW R_Mo 260 8 M_Mo_goesOn 0 := ⟨⟨um_gd, wc_Mo_goesOn, wi_Mo, ⟨by decide, by decide, by decide +kernel⟩, Or.inl wl_Mo_260⟩, (R_Mo, F_Mo, 58), rfl, wn_Mo_goesOn, wv_Mo_goesOn⟩
set_option maxRecDepth 100000 in
theorem wl_Mo_263 : Cond.methodLink R_Mo 263 M_Mo_separates.1 ∈ um_AW := um_in 1058 (by decide +kernel) rfl
set_option maxRecDepth 100000 in
theorem wn_Mo_separates : Cond.instanceMethod M_Mo_separates.1 ∈ um_AW := um_in 1060 (by decide +kernel) rfl
set_option maxRecDepth 100000 in
theorem wv_Mo_separates : Cond.selects R_Mo M_Mo_separates.1 M_Mo_separates.1 ∈ um_AW := um_in 60 (by decide +kernel) rfl
theorem g_Mo_263 : um_Iv um_cl um_AW R_Mo 263 8 M_Mo_separates 1 := ⟨⟨um_gd, wc_Mo_separates, wi_Mo, ⟨by decide, by decide, by decide +kernel⟩, Or.inl wl_Mo_263⟩, (R_Mo, F_Mo, 58), rfl, wn_Mo_separates, wv_Mo_separates⟩
set_option maxRecDepth 100000 in
theorem wf_Mo_266 : Cond.fieldLink R_Mo 266 (F_Mo 9).1 (F_Mo 9).2.1 (F_Mo 9).2.2.1 ∈ um_AW := um_in 769 (by decide +kernel) rfl
theorem f_Mo_266 : um_Fd um_cl um_AW R_Mo 266 8 9 := ⟨R_Mo, F_Mo, 58, cl_Mo, by decide, Or.inl wf_Mo_266⟩
theorem fw_Mo_266 : um_Fw um_cl um_AW R_Mo 266 8 9 .boolean := ⟨R_Mo, F_Mo, 58, cl_Mo, by decide, Or.inl wf_Mo_266, rfl, by decide +kernel⟩
set_option maxRecDepth 100000 in
theorem wl_Mo_269 : Cond.methodLink R_Mo 269 M_Mo_laysAll.1 ∈ um_AW := um_in 982 (by decide +kernel) rfl
set_option maxRecDepth 100000 in
theorem wn_Mo_laysAll : Cond.instanceMethod M_Mo_laysAll.1 ∈ um_AW := um_in 984 (by decide +kernel) rfl
set_option maxRecDepth 100000 in
theorem wv_Mo_laysAll : Cond.selects R_Mo M_Mo_laysAll.1 M_Mo_laysAll.1 ∈ um_AW := um_in 41 (by decide +kernel) rfl
theorem g_Mo_269 : um_Iv um_cl um_AW R_Mo 269 8 M_Mo_laysAll 0 := ⟨⟨um_gd, wc_Mo_laysAll, wi_Mo, ⟨by decide, by decide, by decide +kernel⟩, Or.inl wl_Mo_269⟩, (R_Mo, F_Mo, 58), rfl, wn_Mo_laysAll, wv_Mo_laysAll⟩
set_option maxRecDepth 100000 in
theorem wl_Mo_272 : Cond.methodLink R_Mo 272 M_Mo_table.1 ∈ um_AW := um_in 1062 (by decide +kernel) rfl
set_option maxRecDepth 100000 in
theorem wn_Mo_table : Cond.instanceMethod M_Mo_table.1 ∈ um_AW := um_in 1064 (by decide +kernel) rfl
set_option maxRecDepth 100000 in
theorem wv_Mo_table : Cond.selects R_Mo M_Mo_table.1 M_Mo_table.1 ∈ um_AW := um_in 61 (by decide +kernel) rfl
theorem g_Mo_272 : um_Iv um_cl um_AW R_Mo 272 8 M_Mo_table 1 := ⟨⟨um_gd, wc_Mo_table, wi_Mo, ⟨by decide, by decide, by decide +kernel⟩, Or.inl wl_Mo_272⟩, (R_Mo, F_Mo, 58), rfl, wn_Mo_table, wv_Mo_table⟩
set_option maxRecDepth 100000 in
theorem wf_Mo_275 : Cond.fieldLink R_Mo 275 (F_Mo 53).1 (F_Mo 53).2.1 (F_Mo 53).2.2.1 ∈ um_AW := um_in 813 (by decide +kernel) rfl
theorem f_Mo_275 : um_Fd um_cl um_AW R_Mo 275 8 53 := ⟨R_Mo, F_Mo, 58, cl_Mo, by decide, Or.inl wf_Mo_275⟩
theorem fw_Mo_275 : um_Fw um_cl um_AW R_Mo 275 8 53 .int := ⟨R_Mo, F_Mo, 58, cl_Mo, by decide, Or.inl wf_Mo_275, rfl, by decide +kernel⟩
set_option maxRecDepth 100000 in
theorem wf_Mo_278 : Cond.fieldLink R_Mo 278 (F_Mo 51).1 (F_Mo 51).2.1 (F_Mo 51).2.2.1 ∈ um_AW := um_in 811 (by decide +kernel) rfl
theorem f_Mo_278 : um_Fd um_cl um_AW R_Mo 278 8 51 := ⟨R_Mo, F_Mo, 58, cl_Mo, by decide, Or.inl wf_Mo_278⟩
theorem fw_Mo_278 : um_Fw um_cl um_AW R_Mo 278 8 51 .int := ⟨R_Mo, F_Mo, 58, cl_Mo, by decide, Or.inl wf_Mo_278, rfl, by decide +kernel⟩
set_option maxRecDepth 100000 in
theorem wl_Mo_281 : Cond.methodLink R_Mo 281 M_Mo_push.1 ∈ um_AW := um_in 1104 (by decide +kernel) rfl
set_option maxRecDepth 100000 in
theorem wn_Mo_push : Cond.instanceMethod M_Mo_push.1 ∈ um_AW := um_in 1106 (by decide +kernel) rfl
set_option maxRecDepth 100000 in
theorem wv_Mo_push : Cond.selects R_Mo M_Mo_push.1 M_Mo_push.1 ∈ um_AW := um_in 66 (by decide +kernel) rfl
theorem g_Mo_281 : um_Iv um_cl um_AW R_Mo 281 8 M_Mo_push 1 := ⟨⟨um_gd, wc_Mo_push, wi_Mo, ⟨by decide, by decide, by decide +kernel⟩, Or.inl wl_Mo_281⟩, (R_Mo, F_Mo, 58), rfl, wn_Mo_push, wv_Mo_push⟩
set_option maxRecDepth 100000 in
theorem wf_Mo_284 : Cond.fieldLink R_Mo 284 (F_Mo 47).1 (F_Mo 47).2.1 (F_Mo 47).2.2.1 ∈ um_AW := um_in 807 (by decide +kernel) rfl
theorem f_Mo_284 : um_Fd um_cl um_AW R_Mo 284 8 47 := ⟨R_Mo, F_Mo, 58, cl_Mo, by decide, Or.inl wf_Mo_284⟩
theorem fw_Mo_284 : um_Fw um_cl um_AW R_Mo 284 8 47 .int := ⟨R_Mo, F_Mo, 58, cl_Mo, by decide, Or.inl wf_Mo_284, rfl, by decide +kernel⟩
set_option maxRecDepth 100000 in
theorem wl_Mo_287 : Cond.methodLink R_Mo 287 M_Mo_pop.1 ∈ um_AW := um_in 1108 (by decide +kernel) rfl
set_option maxRecDepth 100000 in
theorem wn_Mo_pop : Cond.instanceMethod M_Mo_pop.1 ∈ um_AW := um_in 1110 (by decide +kernel) rfl
set_option maxRecDepth 100000 in
theorem wv_Mo_pop : Cond.selects R_Mo M_Mo_pop.1 M_Mo_pop.1 ∈ um_AW := um_in 67 (by decide +kernel) rfl
theorem g_Mo_287 : um_Iv um_cl um_AW R_Mo 287 8 M_Mo_pop 0 := ⟨⟨um_gd, wc_Mo_pop, wi_Mo, ⟨by decide, by decide, by decide +kernel⟩, Or.inl wl_Mo_287⟩, (R_Mo, F_Mo, 58), rfl, wn_Mo_pop, wv_Mo_pop⟩
set_option maxRecDepth 100000 in
theorem wl_Mo_291 : Cond.methodLink R_Mo 291 M_Mo_throwing.1 ∈ um_AW := um_in 1112 (by decide +kernel) rfl
set_option maxRecDepth 100000 in
theorem wn_Mo_throwing : Cond.instanceMethod M_Mo_throwing.1 ∈ um_AW := um_in 1114 (by decide +kernel) rfl
set_option maxRecDepth 100000 in
theorem wv_Mo_throwing : Cond.selects R_Mo M_Mo_throwing.1 M_Mo_throwing.1 ∈ um_AW := um_in 68 (by decide +kernel) rfl
theorem g_Mo_291 : um_Iv um_cl um_AW R_Mo 291 8 M_Mo_throwing 1 := ⟨⟨um_gd, wc_Mo_throwing, wi_Mo, ⟨by decide, by decide, by decide +kernel⟩, Or.inl wl_Mo_291⟩, (R_Mo, F_Mo, 58), rfl, wn_Mo_throwing, wv_Mo_throwing⟩
set_option maxRecDepth 100000 in
theorem wl_Mo_294 : Cond.methodLink R_Mo 294 M_Mo_worked.1 ∈ um_AW := um_in 1128 (by decide +kernel) rfl
set_option maxRecDepth 100000 in
theorem ws_Mo_worked : Cond.static M_Mo_worked.1 ∈ um_AW := um_in 1129 (by decide +kernel) rfl
theorem g_Mo_294 : um_Is um_AW R_Mo 294 M_Mo_worked 3 := ⟨⟨um_gd, wc_Mo_worked, wi_Mo, ⟨by decide, by decide, by decide +kernel⟩, Or.inl wl_Mo_294⟩, ws_Mo_worked⟩
set_option maxRecDepth 100000 in
theorem wf_Mo_298 : Cond.fieldLink R_Mo 298 (F_Mo 52).1 (F_Mo 52).2.1 (F_Mo 52).2.2.1 ∈ um_AW := um_in 812 (by decide +kernel) rfl
theorem f_Mo_298 : um_Fd um_cl um_AW R_Mo 298 8 52 := ⟨R_Mo, F_Mo, 58, cl_Mo, by decide, Or.inl wf_Mo_298⟩
theorem fw_Mo_298 : um_Fw um_cl um_AW R_Mo 298 8 52 .int := ⟨R_Mo, F_Mo, 58, cl_Mo, by decide, Or.inl wf_Mo_298, rfl, by decide +kernel⟩
set_option maxRecDepth 100000 in
theorem wf_Mo_301 : Cond.fieldLink R_Mo 301 (F_Mo 49).1 (F_Mo 49).2.1 (F_Mo 49).2.2.1 ∈ um_AW := um_in 809 (by decide +kernel) rfl
theorem f_Mo_301 : um_Fd um_cl um_AW R_Mo 301 8 49 := ⟨R_Mo, F_Mo, 58, cl_Mo, by decide, Or.inl wf_Mo_301⟩
theorem fw_Mo_301 : um_Fw um_cl um_AW R_Mo 301 8 49 .int := ⟨R_Mo, F_Mo, 58, cl_Mo, by decide, Or.inl wf_Mo_301, rfl, by decide +kernel⟩
set_option maxRecDepth 100000 in
theorem wl_Mo_304 : Cond.methodLink R_Mo 304 M_Mo_calls.1 ∈ um_AW := um_in 1116 (by decide +kernel) rfl
set_option maxRecDepth 100000 in
theorem wn_Mo_calls : Cond.instanceMethod M_Mo_calls.1 ∈ um_AW := um_in 1118 (by decide +kernel) rfl
set_option maxRecDepth 100000 in
theorem wv_Mo_calls : Cond.selects R_Mo M_Mo_calls.1 M_Mo_calls.1 ∈ um_AW := um_in 69 (by decide +kernel) rfl
theorem g_Mo_304 : um_Iv um_cl um_AW R_Mo 304 8 M_Mo_calls 1 := ⟨⟨um_gd, wc_Mo_calls, wi_Mo, ⟨by decide, by decide, by decide +kernel⟩, Or.inl wl_Mo_304⟩, (R_Mo, F_Mo, 58), rfl, wn_Mo_calls, wv_Mo_calls⟩
set_option maxRecDepth 100000 in
theorem wl_Mo_307 : Cond.methodLink R_Mo 307 M_Mo_returns.1 ∈ um_AW := um_in 1120 (by decide +kernel) rfl
set_option maxRecDepth 100000 in
theorem wn_Mo_returns : Cond.instanceMethod M_Mo_returns.1 ∈ um_AW := um_in 1122 (by decide +kernel) rfl
set_option maxRecDepth 100000 in
theorem wv_Mo_returns : Cond.selects R_Mo M_Mo_returns.1 M_Mo_returns.1 ∈ um_AW := um_in 70 (by decide +kernel) rfl
theorem g_Mo_307 : um_Iv um_cl um_AW R_Mo 307 8 M_Mo_returns 0 := ⟨⟨um_gd, wc_Mo_returns, wi_Mo, ⟨by decide, by decide, by decide +kernel⟩, Or.inl wl_Mo_307⟩, (R_Mo, F_Mo, 58), rfl, wn_Mo_returns, wv_Mo_returns⟩
set_option maxRecDepth 100000 in
theorem wl_Mo_310 : Cond.methodLink R_Mo 310 M_Mo_works.1 ∈ um_AW := um_in 1124 (by decide +kernel) rfl
set_option maxRecDepth 100000 in
theorem wn_Mo_works : Cond.instanceMethod M_Mo_works.1 ∈ um_AW := um_in 1126 (by decide +kernel) rfl
set_option maxRecDepth 100000 in
theorem wv_Mo_works : Cond.selects R_Mo M_Mo_works.1 M_Mo_works.1 ∈ um_AW := um_in 71 (by decide +kernel) rfl
theorem g_Mo_310 : um_Iv um_cl um_AW R_Mo 310 8 M_Mo_works 1 := ⟨⟨um_gd, wc_Mo_works, wi_Mo, ⟨by decide, by decide, by decide +kernel⟩, Or.inl wl_Mo_310⟩, (R_Mo, F_Mo, 58), rfl, wn_Mo_works, wv_Mo_works⟩
set_option maxRecDepth 100000 in
theorem wf_Mo_313 : Cond.fieldLink R_Mo 313 (F_Mo 48).1 (F_Mo 48).2.1 (F_Mo 48).2.2.1 ∈ um_AW := um_in 808 (by decide +kernel) rfl
theorem f_Mo_313 : um_Fd um_cl um_AW R_Mo 313 8 48 := ⟨R_Mo, F_Mo, 58, cl_Mo, by decide, Or.inl wf_Mo_313⟩
theorem fw_Mo_313 : um_Fw um_cl um_AW R_Mo 313 8 48 .int := ⟨R_Mo, F_Mo, 58, cl_Mo, by decide, Or.inl wf_Mo_313, rfl, by decide +kernel⟩
set_option maxRecDepth 100000 in
theorem wl_Mo_316 : Cond.methodLink R_Mo 316 M_Mo_step.1 ∈ um_AW := um_in 1100 (by decide +kernel) rfl
set_option maxRecDepth 100000 in
theorem wn_Mo_step : Cond.instanceMethod M_Mo_step.1 ∈ um_AW := um_in 1102 (by decide +kernel) rfl
set_option maxRecDepth 100000 in
theorem wv_Mo_step : Cond.selects R_Mo M_Mo_step.1 M_Mo_step.1 ∈ um_AW := um_in 65 (by decide +kernel) rfl
theorem g_Mo_316 : um_Iv um_cl um_AW R_Mo 316 8 M_Mo_step 0 := ⟨⟨um_gd, wc_Mo_step, wi_Mo, ⟨by decide, by decide, by decide +kernel⟩, Or.inl wl_Mo_316⟩, (R_Mo, F_Mo, 58), rfl, wn_Mo_step, wv_Mo_step⟩
set_option maxRecDepth 100000 in
theorem wf_Sc_11 : Cond.fieldLink R_Sc 11 (F_Sc 0).1 (F_Sc 0).2.1 (F_Sc 0).2.2.1 ∈ um_AW := um_in 188 (by decide +kernel) rfl
theorem f_Sc_11 : um_Fd um_cl um_AW R_Sc 11 5 0 := ⟨R_Sc, F_Sc, 10, cl_Sc, by decide, Or.inl wf_Sc_11⟩
set_option maxRecDepth 100000 in
theorem wf_Sc_15 : Cond.fieldLink R_Sc 15 (F_Sc 1).1 (F_Sc 1).2.1 (F_Sc 1).2.2.1 ∈ um_AW := um_in 190 (by decide +kernel) rfl
theorem f_Sc_15 : um_Fd um_cl um_AW R_Sc 15 5 1 := ⟨R_Sc, F_Sc, 10, cl_Sc, by decide, Or.inl wf_Sc_15⟩
set_option maxRecDepth 100000 in
theorem wf_Sc_18 : Cond.fieldLink R_Sc 18 (F_Sc 2).1 (F_Sc 2).2.1 (F_Sc 2).2.2.1 ∈ um_AW := um_in 192 (by decide +kernel) rfl
theorem f_Sc_18 : um_Fd um_cl um_AW R_Sc 18 5 2 := ⟨R_Sc, F_Sc, 10, cl_Sc, by decide, Or.inl wf_Sc_18⟩
set_option maxRecDepth 100000 in
theorem wf_Sc_21 : Cond.fieldLink R_Sc 21 (F_Sc 3).1 (F_Sc 3).2.1 (F_Sc 3).2.2.1 ∈ um_AW := um_in 194 (by decide +kernel) rfl
theorem f_Sc_21 : um_Fd um_cl um_AW R_Sc 21 5 3 := ⟨R_Sc, F_Sc, 10, cl_Sc, by decide, Or.inl wf_Sc_21⟩
set_option maxRecDepth 100000 in
theorem wf_Sc_24 : Cond.fieldLink R_Sc 24 (F_Sc 4).1 (F_Sc 4).2.1 (F_Sc 4).2.2.1 ∈ um_AW := um_in 196 (by decide +kernel) rfl
theorem f_Sc_24 : um_Fd um_cl um_AW R_Sc 24 5 4 := ⟨R_Sc, F_Sc, 10, cl_Sc, by decide, Or.inl wf_Sc_24⟩
set_option maxRecDepth 100000 in
theorem wf_Sc_27 : Cond.fieldLink R_Sc 27 (F_Sc 5).1 (F_Sc 5).2.1 (F_Sc 5).2.2.1 ∈ um_AW := um_in 198 (by decide +kernel) rfl
theorem f_Sc_27 : um_Fd um_cl um_AW R_Sc 27 5 5 := ⟨R_Sc, F_Sc, 10, cl_Sc, by decide, Or.inl wf_Sc_27⟩
set_option maxRecDepth 100000 in
theorem wf_Sc_33 : Cond.fieldLink R_Sc 33 (F_Sc 7).1 (F_Sc 7).2.1 (F_Sc 7).2.2.1 ∈ um_AW := um_in 202 (by decide +kernel) rfl
theorem f_Sc_33 : um_Fd um_cl um_AW R_Sc 33 5 7 := ⟨R_Sc, F_Sc, 10, cl_Sc, by decide, Or.inl wf_Sc_33⟩
set_option maxRecDepth 100000 in
theorem wf_Sc_36 : Cond.fieldLink R_Sc 36 (F_Sc 8).1 (F_Sc 8).2.1 (F_Sc 8).2.2.1 ∈ um_AW := um_in 203 (by decide +kernel) rfl
theorem f_Sc_36 : um_Fd um_cl um_AW R_Sc 36 5 8 := ⟨R_Sc, F_Sc, 10, cl_Sc, by decide, Or.inl wf_Sc_36⟩
theorem fw_Sc_36 : um_Fw um_cl um_AW R_Sc 36 5 8 .int := ⟨R_Sc, F_Sc, 10, cl_Sc, by decide, Or.inl wf_Sc_36, rfl, by decide +kernel⟩
set_option maxRecDepth 100000 in
theorem wf_Sc_40 : Cond.fieldLink R_Sc 40 (F_Sc 9).1 (F_Sc 9).2.1 (F_Sc 9).2.2.1 ∈ um_AW := um_in 204 (by decide +kernel) rfl
theorem f_Sc_40 : um_Fd um_cl um_AW R_Sc 40 5 9 := ⟨R_Sc, F_Sc, 10, cl_Sc, by decide, Or.inl wf_Sc_40⟩
theorem fw_Sc_40 : um_Fw um_cl um_AW R_Sc 40 5 9 .int := ⟨R_Sc, F_Sc, 10, cl_Sc, by decide, Or.inl wf_Sc_40, rfl, by decide +kernel⟩
set_option maxRecDepth 100000 in
theorem wl_Sc_43 : Cond.methodLink R_Sc 43 M_Sc_open.1 ∈ um_AW := um_in 459 (by decide +kernel) rfl
set_option maxRecDepth 100000 in
theorem wn_Sc_open : Cond.instanceMethod M_Sc_open.1 ∈ um_AW := um_in 461 (by decide +kernel) rfl
set_option maxRecDepth 100000 in
theorem wv_Sc_open : Cond.selects R_Sc M_Sc_open.1 M_Sc_open.1 ∈ um_AW := um_in 8 (by decide +kernel) rfl
theorem g_Sc_43 : um_Iv um_cl um_AW R_Sc 43 5 M_Sc_open 1 := ⟨⟨um_gd, wc_Sc_open, wi_Sc, ⟨by decide, by decide, by decide +kernel⟩, Or.inl wl_Sc_43⟩, (R_Sc, F_Sc, 10), rfl, wn_Sc_open, wv_Sc_open⟩
set_option maxRecDepth 100000 in
theorem wl_Sc_47 : Cond.methodLink R_Sc 47 M_Sc_scopeOf.1 ∈ um_AW := um_in 463 (by decide +kernel) rfl
theorem g_Sc_47 : um_Is um_AW R_Sc 47 M_Sc_scopeOf 1 := ⟨⟨um_gd, wc_Sc_scopeOf, wi_Sc, ⟨by decide, by decide, by decide +kernel⟩, Or.inl wl_Sc_47⟩, ws_Sc_scopeOf⟩
set_option maxRecDepth 100000 in
theorem wl_Sc_50 : Cond.methodLink R_Sc 50 M_Sc_partOf.1 ∈ um_AW := um_in 485 (by decide +kernel) rfl
set_option maxRecDepth 100000 in
theorem ws_Sc_partOf : Cond.static M_Sc_partOf.1 ∈ um_AW := um_in 486 (by decide +kernel) rfl
theorem g_Sc_50 : um_Is um_AW R_Sc 50 M_Sc_partOf 1 := ⟨⟨um_gd, wc_Sc_partOf, wi_Sc, ⟨by decide, by decide, by decide +kernel⟩, Or.inl wl_Sc_50⟩, ws_Sc_partOf⟩
set_option maxRecDepth 100000 in
theorem wl_Sc_53 : Cond.methodLink R_Sc 53 M_Sc_partLookedAt.1 ∈ um_AW := um_in 555 (by decide +kernel) rfl
theorem g_Sc_53 : um_Iv um_cl um_AW R_Sc 53 5 M_Sc_partLookedAt 1 := ⟨⟨um_gd, wc_Sc_partLookedAt, wi_Sc, ⟨by decide, by decide, by decide +kernel⟩, Or.inl wl_Sc_53⟩, (R_Sc, F_Sc, 10), rfl, wn_Sc_partLookedAt, wv_Sc_partLookedAt⟩
set_option maxRecDepth 100000 in
theorem wf_Tr_9 : Cond.fieldLink R_Tr 9 (F_Tr 0).1 (F_Tr 0).2.1 (F_Tr 0).2.2.1 ∈ um_AW := um_in 106 (by decide +kernel) rfl
theorem f_Tr_9 : um_Fd um_cl um_AW R_Tr 9 1 0 := ⟨R_Tr, F_Tr, 4, cl_Tr, by decide, Or.inl wf_Tr_9⟩
set_option maxRecDepth 100000 in
theorem wf_Tr_15 : Cond.fieldLink R_Tr 15 (F_Tr 1).1 (F_Tr 1).2.1 (F_Tr 1).2.2.1 ∈ um_AW := um_in 107 (by decide +kernel) rfl
theorem f_Tr_15 : um_Fd um_cl um_AW R_Tr 15 1 1 := ⟨R_Tr, F_Tr, 4, cl_Tr, by decide, Or.inl wf_Tr_15⟩
set_option maxRecDepth 100000 in
theorem wf_Tr_18 : Cond.fieldLink R_Tr 18 (F_Tr 2).1 (F_Tr 2).2.1 (F_Tr 2).2.2.1 ∈ um_AW := um_in 108 (by decide +kernel) rfl
theorem f_Tr_18 : um_Fd um_cl um_AW R_Tr 18 1 2 := ⟨R_Tr, F_Tr, 4, cl_Tr, by decide, Or.inl wf_Tr_18⟩
set_option maxRecDepth 100000 in
theorem wf_Tr_29 : Cond.fieldLink R_Tr 29 (F_Tr 3).1 (F_Tr 3).2.1 (F_Tr 3).2.2.1 ∈ um_AW := um_in 110 (by decide +kernel) rfl
theorem f_Tr_29 : um_Fd um_cl um_AW R_Tr 29 1 3 := ⟨R_Tr, F_Tr, 4, cl_Tr, by decide, Or.inl wf_Tr_29⟩
theorem fw_Tr_29 : um_Fw um_cl um_AW R_Tr 29 1 3 .int := ⟨R_Tr, F_Tr, 4, cl_Tr, by decide, Or.inl wf_Tr_29, rfl, by decide +kernel⟩
set_option maxRecDepth 100000 in
theorem s_Tr_33 : Cond.fieldLink R_Tr 33 "UnwindMill$Tree" "SORTS" "[I" ∈ um_AW := um_in 369 (by decide +kernel) rfl
set_option maxRecDepth 100000 in
theorem wl_Tr_36 : Cond.methodLink R_Tr 36 M_Tr_fits.1 ∈ um_AW := um_in 371 (by decide +kernel) rfl
set_option maxRecDepth 100000 in
theorem wn_Tr_fits : Cond.instanceMethod M_Tr_fits.1 ∈ um_AW := um_in 373 (by decide +kernel) rfl
set_option maxRecDepth 100000 in
theorem wv_Tr_fits : Cond.selects R_Tr M_Tr_fits.1 M_Tr_fits.1 ∈ um_AW := um_in 0 (by decide +kernel) rfl
theorem g_Tr_36 : um_Iv um_cl um_AW R_Tr 36 1 M_Tr_fits 2 := ⟨⟨um_gd, wc_Tr_fits, wi_Tr, ⟨by decide, by decide, by decide +kernel⟩, Or.inl wl_Tr_36⟩, (R_Tr, F_Tr, 4), rfl, wn_Tr_fits, wv_Tr_fits⟩
set_option maxRecDepth 100000 in
theorem ws_UM_isFunction : Cond.static M_UM_isFunction.1 ∈ um_AW := um_in 383 (by decide +kernel) rfl
theorem g_Tr_40 : um_Is um_AW R_Tr 40 M_UM_isFunction 1 := ⟨⟨um_gd, wc_UM_isFunction, wi_UM, ⟨by decide, by decide, by decide +kernel⟩, Or.inr ⟨"UnwindMill", by decide +kernel⟩⟩, ws_UM_isFunction⟩
set_option maxRecDepth 100000 in
theorem wl_Tr_44 : Cond.methodLink R_Tr 44 M_Tr_part.1 ∈ um_AW := um_in 524 (by decide +kernel) rfl
theorem g_Tr_44 : um_Iv um_cl um_AW R_Tr 44 1 M_Tr_part 2 := ⟨⟨um_gd, wc_Tr_part, wi_Tr, ⟨by decide, by decide, by decide +kernel⟩, Or.inl wl_Tr_44⟩, (R_Tr, F_Tr, 4), rfl, wn_Tr_part, wv_Tr_part⟩
set_option maxRecDepth 100000 in
theorem wl_Tr_48 : Cond.methodLink R_Tr 48 M_Tr_kindOf.1 ∈ um_AW := um_in 375 (by decide +kernel) rfl
theorem g_Tr_48 : um_Iv um_cl um_AW R_Tr 48 1 M_Tr_kindOf 1 := ⟨⟨um_gd, wc_Tr_kindOf, wi_Tr, ⟨by decide, by decide, by decide +kernel⟩, Or.inl wl_Tr_48⟩, (R_Tr, F_Tr, 4), rfl, wn_Tr_kindOf, wv_Tr_kindOf⟩
set_option maxRecDepth 100000 in
theorem ws_UM_isVariable : Cond.static M_UM_isVariable.1 ∈ um_AW := um_in 380 (by decide +kernel) rfl
theorem g_Tr_52 : um_Is um_AW R_Tr 52 M_UM_isVariable 1 := ⟨⟨um_gd, wc_UM_isVariable, wi_UM, ⟨by decide, by decide, by decide +kernel⟩, Or.inr ⟨"UnwindMill", by decide +kernel⟩⟩, ws_UM_isVariable⟩
set_option maxRecDepth 100000 in
theorem wf_UM_10 : Cond.fieldLink R_UM 10 (F_UM 0).1 (F_UM 0).2.1 (F_UM 0).2.2.1 ∈ um_AW := um_in 348 (by decide +kernel) rfl
theorem f_UM_10 : um_Fd um_cl um_AW R_UM 10 0 0 := ⟨R_UM, F_UM, 4, cl_UM, by decide, Or.inl wf_UM_10⟩
set_option maxRecDepth 100000 in
theorem wf_UM_19 : Cond.fieldLink R_UM 19 (F_UM 1).1 (F_UM 1).2.1 (F_UM 1).2.2.1 ∈ um_AW := um_in 349 (by decide +kernel) rfl
theorem f_UM_19 : um_Fd um_cl um_AW R_UM 19 0 1 := ⟨R_UM, F_UM, 4, cl_UM, by decide, Or.inl wf_UM_19⟩
set_option maxRecDepth 100000 in
theorem wf_UM_28 : Cond.fieldLink R_UM 28 (F_UM 2).1 (F_UM 2).2.1 (F_UM 2).2.2.1 ∈ um_AW := um_in 350 (by decide +kernel) rfl
theorem f_UM_28 : um_Fd um_cl um_AW R_UM 28 0 2 := ⟨R_UM, F_UM, 4, cl_UM, by decide, Or.inl wf_UM_28⟩
set_option maxRecDepth 100000 in
theorem wf_UM_37 : Cond.fieldLink R_UM 37 (F_UM 3).1 (F_UM 3).2.1 (F_UM 3).2.2.1 ∈ um_AW := um_in 351 (by decide +kernel) rfl
theorem f_UM_37 : um_Fd um_cl um_AW R_UM 37 0 3 := ⟨R_UM, F_UM, 4, cl_UM, by decide, Or.inl wf_UM_37⟩
set_option maxRecDepth 100000 in
theorem wl_UM_41 : Cond.methodLink R_UM 41 M_Tr_add.1 ∈ um_AW := um_in 365 (by decide +kernel) rfl
set_option maxRecDepth 100000 in
theorem wn_Tr_add : Cond.instanceMethod M_Tr_add.1 ∈ um_AW := um_in 366 (by decide +kernel) rfl
set_option maxRecDepth 100000 in
theorem wv_Tr_add : Cond.selects R_Tr M_Tr_add.1 M_Tr_add.1 ∈ um_AW := um_in 367 (by decide +kernel) rfl
theorem g_UM_41 : um_Iv um_cl um_AW R_UM 41 1 M_Tr_add 6 := ⟨⟨um_gd, wc_Tr_add, wi_Tr, ⟨by decide, by decide, by decide +kernel⟩, Or.inl wl_UM_41⟩, (R_Tr, F_Tr, 4), rfl, wn_Tr_add, wv_Tr_add⟩
set_option maxRecDepth 100000 in
theorem wl_UM_47 : Cond.methodLink R_UM 47 M_Tr_setBody.1 ∈ um_AW := um_in 393 (by decide +kernel) rfl
set_option maxRecDepth 100000 in
theorem wn_Tr_setBody : Cond.instanceMethod M_Tr_setBody.1 ∈ um_AW := um_in 394 (by decide +kernel) rfl
set_option maxRecDepth 100000 in
theorem wv_Tr_setBody : Cond.selects R_Tr M_Tr_setBody.1 M_Tr_setBody.1 ∈ um_AW := um_in 395 (by decide +kernel) rfl
theorem g_UM_47 : um_Iv um_cl um_AW R_UM 47 1 M_Tr_setBody 2 := ⟨⟨um_gd, wc_Tr_setBody, wi_Tr, ⟨by decide, by decide, by decide +kernel⟩, Or.inl wl_UM_47⟩, (R_Tr, F_Tr, 4), rfl, wn_Tr_setBody, wv_Tr_setBody⟩
set_option maxRecDepth 100000 in
theorem wl_UM_51 : Cond.methodLink R_UM 51 M_La_layDown.1 ∈ um_AW := um_in 401 (by decide +kernel) rfl
set_option maxRecDepth 100000 in
theorem wn_La_layDown : Cond.instanceMethod M_La_layDown.1 ∈ um_AW := um_in 402 (by decide +kernel) rfl
set_option maxRecDepth 100000 in
theorem wv_La_layDown : Cond.selects R_La M_La_layDown.1 M_La_layDown.1 ∈ um_AW := um_in 403 (by decide +kernel) rfl
theorem g_UM_51 : um_Iv um_cl um_AW R_UM 51 3 M_La_layDown 1 := ⟨⟨um_gd, wc_La_layDown, wi_La, ⟨by decide, by decide, by decide +kernel⟩, Or.inl wl_UM_51⟩, (R_La, F_La, 9), rfl, wn_La_layDown, wv_La_layDown⟩
set_option maxRecDepth 100000 in
theorem wl_UM_55 : Cond.methodLink R_UM 55 M_Co_stands.1 ∈ um_AW := um_in 578 (by decide +kernel) rfl
set_option maxRecDepth 100000 in
theorem wn_Co_stands : Cond.instanceMethod M_Co_stands.1 ∈ um_AW := um_in 579 (by decide +kernel) rfl
set_option maxRecDepth 100000 in
theorem wv_Co_stands : Cond.selects R_Co M_Co_stands.1 M_Co_stands.1 ∈ um_AW := um_in 580 (by decide +kernel) rfl
theorem g_UM_55 : um_Iv um_cl um_AW R_UM 55 2 M_Co_stands 0 := ⟨⟨um_gd, wc_Co_stands, wi_Co, ⟨by decide, by decide, by decide +kernel⟩, Or.inl wl_UM_55⟩, (R_Co, F_Co, 9), rfl, wn_Co_stands, wv_Co_stands⟩
set_option maxRecDepth 100000 in
theorem wf_UM_59 : Cond.fieldLink R_UM 59 (F_Co 5).1 (F_Co 5).2.1 (F_Co 5).2.2.1 ∈ um_AW := um_in 147 (by decide +kernel) rfl
theorem f_UM_59 : um_Fd um_cl um_AW R_UM 59 2 5 := ⟨R_Co, F_Co, 9, cl_Co, by decide, Or.inl wf_UM_59⟩
set_option maxRecDepth 100000 in
theorem wf_UM_63 : Cond.fieldLink R_UM 63 (F_Co 6).1 (F_Co 6).2.1 (F_Co 6).2.2.1 ∈ um_AW := um_in 149 (by decide +kernel) rfl
theorem f_UM_63 : um_Fd um_cl um_AW R_UM 63 2 6 := ⟨R_Co, F_Co, 9, cl_Co, by decide, Or.inl wf_UM_63⟩
set_option maxRecDepth 100000 in
theorem wf_UM_66 : Cond.fieldLink R_UM 66 (F_Co 7).1 (F_Co 7).2.1 (F_Co 7).2.2.1 ∈ um_AW := um_in 152 (by decide +kernel) rfl
theorem f_UM_66 : um_Fd um_cl um_AW R_UM 66 2 7 := ⟨R_Co, F_Co, 9, cl_Co, by decide, Or.inl wf_UM_66⟩
set_option maxRecDepth 100000 in
theorem wf_UM_69 : Cond.fieldLink R_UM 69 (F_Co 8).1 (F_Co 8).2.1 (F_Co 8).2.2.1 ∈ um_AW := um_in 155 (by decide +kernel) rfl
theorem f_UM_69 : um_Fd um_cl um_AW R_UM 69 2 8 := ⟨R_Co, F_Co, 9, cl_Co, by decide, Or.inl wf_UM_69⟩
set_option maxRecDepth 100000 in
theorem wl_UM_91 : Cond.methodLink R_UM 91 M_UM_isFunction.1 ∈ um_AW := um_in 586 (by decide +kernel) rfl
theorem g_UM_91 : um_Is um_AW R_UM 91 M_UM_isFunction 1 := ⟨⟨um_gd, wc_UM_isFunction, wi_UM, ⟨by decide, by decide, by decide +kernel⟩, Or.inl wl_UM_91⟩, ws_UM_isFunction⟩
set_option maxRecDepth 100000 in
theorem wf_UM_95 : Cond.fieldLink R_UM 95 (F_Co 3).1 (F_Co 3).2.1 (F_Co 3).2.2.1 ∈ um_AW := um_in 140 (by decide +kernel) rfl
theorem f_UM_95 : um_Fd um_cl um_AW R_UM 95 2 3 := ⟨R_Co, F_Co, 9, cl_Co, by decide, Or.inl wf_UM_95⟩
set_option maxRecDepth 100000 in
theorem wl_UM_105 : Cond.methodLink R_UM 105 M_Ma_start.1 ∈ um_AW := um_in 591 (by decide +kernel) rfl
set_option maxRecDepth 100000 in
theorem wn_Ma_start : Cond.instanceMethod M_Ma_start.1 ∈ um_AW := um_in 592 (by decide +kernel) rfl
set_option maxRecDepth 100000 in
theorem wv_Ma_start : Cond.selects R_Ma M_Ma_start.1 M_Ma_start.1 ∈ um_AW := um_in 593 (by decide +kernel) rfl
theorem g_UM_105 : um_Iv um_cl um_AW R_UM 105 4 M_Ma_start 1 := ⟨⟨um_gd, wc_Ma_start, wi_Ma, ⟨by decide, by decide, by decide +kernel⟩, Or.inl wl_UM_105⟩, (R_Ma, F_Ma, 11), rfl, wn_Ma_start, wv_Ma_start⟩
set_option maxRecDepth 100000 in
theorem wf_UM_109 : Cond.fieldLink R_UM 109 (F_Ma 4).1 (F_Ma 4).2.1 (F_Ma 4).2.2.1 ∈ um_AW := um_in 318 (by decide +kernel) rfl
theorem f_UM_109 : um_Fd um_cl um_AW R_UM 109 4 4 := ⟨R_Ma, F_Ma, 11, cl_Ma, by decide, Or.inl wf_UM_109⟩
set_option maxRecDepth 100000 in
theorem wf_UM_113 : Cond.fieldLink R_UM 113 (F_Ma 3).1 (F_Ma 3).2.1 (F_Ma 3).2.2.1 ∈ um_AW := um_in 316 (by decide +kernel) rfl
theorem f_UM_113 : um_Fd um_cl um_AW R_UM 113 4 3 := ⟨R_Ma, F_Ma, 11, cl_Ma, by decide, Or.inl wf_UM_113⟩
set_option maxRecDepth 100000 in
theorem wf_UM_116 : Cond.fieldLink R_UM 116 (F_Ma 2).1 (F_Ma 2).2.1 (F_Ma 2).2.2.1 ∈ um_AW := um_in 314 (by decide +kernel) rfl
theorem f_UM_116 : um_Fd um_cl um_AW R_UM 116 4 2 := ⟨R_Ma, F_Ma, 11, cl_Ma, by decide, Or.inl wf_UM_116⟩
set_option maxRecDepth 100000 in
theorem wl_UM_119 : Cond.methodLink R_UM 119 M_UM_isVariable.1 ∈ um_AW := um_in 652 (by decide +kernel) rfl
theorem g_UM_119 : um_Is um_AW R_UM 119 M_UM_isVariable 1 := ⟨⟨um_gd, wc_UM_isVariable, wi_UM, ⟨by decide, by decide, by decide +kernel⟩, Or.inl wl_UM_119⟩, ws_UM_isVariable⟩
set_option maxRecDepth 100000 in
theorem wf_UM_122 : Cond.fieldLink R_UM 122 (F_Ma 1).1 (F_Ma 1).2.1 (F_Ma 1).2.2.1 ∈ um_AW := um_in 312 (by decide +kernel) rfl
theorem f_UM_122 : um_Fd um_cl um_AW R_UM 122 4 1 := ⟨R_Ma, F_Ma, 11, cl_Ma, by decide, Or.inl wf_UM_122⟩
set_option maxRecDepth 100000 in
theorem wf_Wo_11 : Cond.fieldLink R_Wo 11 (F_Wo 0).1 (F_Wo 0).2.1 (F_Wo 0).2.2.1 ∈ um_AW := um_in 232 (by decide +kernel) rfl
theorem f_Wo_11 : um_Fd um_cl um_AW R_Wo 11 6 0 := ⟨R_Wo, F_Wo, 5, cl_Wo, by decide, Or.inl wf_Wo_11⟩
set_option maxRecDepth 100000 in
theorem wf_Wo_15 : Cond.fieldLink R_Wo 15 (F_Wo 1).1 (F_Wo 1).2.1 (F_Wo 1).2.2.1 ∈ um_AW := um_in 234 (by decide +kernel) rfl
theorem f_Wo_15 : um_Fd um_cl um_AW R_Wo 15 6 1 := ⟨R_Wo, F_Wo, 5, cl_Wo, by decide, Or.inl wf_Wo_15⟩
set_option maxRecDepth 100000 in
theorem wf_Wo_18 : Cond.fieldLink R_Wo 18 (F_Wo 2).1 (F_Wo 2).2.1 (F_Wo 2).2.2.1 ∈ um_AW := um_in 236 (by decide +kernel) rfl
theorem f_Wo_18 : um_Fd um_cl um_AW R_Wo 18 6 2 := ⟨R_Wo, F_Wo, 5, cl_Wo, by decide, Or.inl wf_Wo_18⟩
set_option maxRecDepth 100000 in
theorem wf_Wo_21 : Cond.fieldLink R_Wo 21 (F_Wo 3).1 (F_Wo 3).2.1 (F_Wo 3).2.2.1 ∈ um_AW := um_in 238 (by decide +kernel) rfl
theorem f_Wo_21 : um_Fd um_cl um_AW R_Wo 21 6 3 := ⟨R_Wo, F_Wo, 5, cl_Wo, by decide, Or.inl wf_Wo_21⟩
set_option maxRecDepth 100000 in
theorem wf_Wo_24 : Cond.fieldLink R_Wo 24 (F_Wo 4).1 (F_Wo 4).2.1 (F_Wo 4).2.2.1 ∈ um_AW := um_in 240 (by decide +kernel) rfl
theorem f_Wo_24 : um_Fd um_cl um_AW R_Wo 24 6 4 := ⟨R_Wo, F_Wo, 5, cl_Wo, by decide, Or.inl wf_Wo_24⟩
theorem fw_Wo_24 : um_Fw um_cl um_AW R_Wo 24 6 4 .int := ⟨R_Wo, F_Wo, 5, cl_Wo, by decide, Or.inl wf_Wo_24, rfl, by decide +kernel⟩
end
section
theorem d_Ar_fill_AII_0 : decode b_Ar_fill_AII 0 = .ok (.iconst 0, 1) := by decide +kernel
theorem d_Ar_fill_AII_1 : decode b_Ar_fill_AII 1 = .ok (.istore_n 2, 1) := by decide +kernel
theorem d_Ar_fill_AII_2 : decode b_Ar_fill_AII 2 = .ok (.aload_n 0, 1) := by decide +kernel
theorem d_Ar_fill_AII_3 : decode b_Ar_fill_AII 3 = .ok (.arraylength, 1) := by decide +kernel
theorem d_Ar_fill_AII_4 : decode b_Ar_fill_AII 4 = .ok (.istore_n 3, 1) := by decide +kernel
theorem d_Ar_fill_AII_5 : decode b_Ar_fill_AII 5 = .ok (.iload_n 2, 1) := by decide +kernel
theorem d_Ar_fill_AII_6 : decode b_Ar_fill_AII 6 = .ok (.iload_n 3, 1) := by decide +kernel
theorem d_Ar_fill_AII_7 : decode b_Ar_fill_AII 7 = .ok (.if_icmp .ge 13, 3) := by decide +kernel
theorem d_Ar_fill_AII_10 : decode b_Ar_fill_AII 10 = .ok (.aload_n 0, 1) := by decide +kernel
theorem d_Ar_fill_AII_11 : decode b_Ar_fill_AII 11 = .ok (.iload_n 2, 1) := by decide +kernel
theorem d_Ar_fill_AII_12 : decode b_Ar_fill_AII 12 = .ok (.iload_n 1, 1) := by decide +kernel
theorem d_Ar_fill_AII_13 : decode b_Ar_fill_AII 13 = .ok (.iastore, 1) := by decide +kernel
theorem d_Ar_fill_AII_14 : decode b_Ar_fill_AII 14 = .ok (.iinc 2 1, 3) := by decide +kernel
theorem d_Ar_fill_AII_17 : decode b_Ar_fill_AII 17 = .ok (.goto (-12), 3) := by decide +kernel
theorem d_Ar_fill_AII_20 : decode b_Ar_fill_AII 20 = .ok (.return_, 1) := by decide +kernel
theorem d_Tr_kindOf_0 : decode b_Tr_kindOf 0 = .ok (.iload_n 1, 1) := by decide +kernel
theorem d_Tr_kindOf_1 : decode b_Tr_kindOf 1 = .ok (.ifCond .lt 20, 3) := by decide +kernel
theorem d_Tr_kindOf_4 : decode b_Tr_kindOf 4 = .ok (.iload_n 1, 1) := by decide +kernel
theorem d_Tr_kindOf_5 : decode b_Tr_kindOf 5 = .ok (.aload_n 0, 1) := by decide +kernel
theorem d_Tr_kindOf_6 : decode b_Tr_kindOf 6 = .ok (.getfield 29, 3) := by decide +kernel
theorem d_Tr_kindOf_9 : decode b_Tr_kindOf 9 = .ok (.if_icmp .ge 12, 3) := by decide +kernel
theorem d_Tr_kindOf_12 : decode b_Tr_kindOf 12 = .ok (.aload_n 0, 1) := by decide +kernel
theorem d_Tr_kindOf_13 : decode b_Tr_kindOf 13 = .ok (.getfield 9, 3) := by decide +kernel
theorem d_Tr_kindOf_16 : decode b_Tr_kindOf 16 = .ok (.iload_n 1, 1) := by decide +kernel
theorem d_Tr_kindOf_17 : decode b_Tr_kindOf 17 = .ok (.iaload, 1) := by decide +kernel
theorem d_Tr_kindOf_18 : decode b_Tr_kindOf 18 = .ok (.goto 4, 3) := by decide +kernel
theorem d_Tr_kindOf_21 : decode b_Tr_kindOf 21 = .ok (.iconst (-1), 1) := by decide +kernel
theorem d_Tr_kindOf_22 : decode b_Tr_kindOf 22 = .ok (.ireturn, 1) := by decide +kernel
theorem d_UM_isVariable_0 : decode b_UM_isVariable 0 = .ok (.iload_n 0, 1) := by decide +kernel
theorem d_UM_isVariable_1 : decode b_UM_isVariable 1 = .ok (.ifCond .lt 13, 3) := by decide +kernel
theorem d_UM_isVariable_4 : decode b_UM_isVariable 4 = .ok (.iload_n 0, 1) := by decide +kernel
theorem d_UM_isVariable_5 : decode b_UM_isVariable 5 = .ok (.bipush 8, 2) := by decide +kernel
theorem d_UM_isVariable_7 : decode b_UM_isVariable 7 = .ok (.if_icmp .ge 7, 3) := by decide +kernel
theorem d_UM_isVariable_10 : decode b_UM_isVariable 10 = .ok (.iconst 1, 1) := by decide +kernel
theorem d_UM_isVariable_11 : decode b_UM_isVariable 11 = .ok (.goto 4, 3) := by decide +kernel
theorem d_UM_isVariable_14 : decode b_UM_isVariable 14 = .ok (.iconst 0, 1) := by decide +kernel
theorem d_UM_isVariable_15 : decode b_UM_isVariable 15 = .ok (.ireturn, 1) := by decide +kernel
theorem d_UM_isFunction_0 : decode b_UM_isFunction 0 = .ok (.iload_n 0, 1) := by decide +kernel
theorem d_UM_isFunction_1 : decode b_UM_isFunction 1 = .ok (.ifCond .lt 13, 3) := by decide +kernel
theorem d_UM_isFunction_4 : decode b_UM_isFunction 4 = .ok (.iload_n 0, 1) := by decide +kernel
theorem d_UM_isFunction_5 : decode b_UM_isFunction 5 = .ok (.bipush 6, 2) := by decide +kernel
theorem d_UM_isFunction_7 : decode b_UM_isFunction 7 = .ok (.if_icmp .ge 7, 3) := by decide +kernel
theorem d_UM_isFunction_10 : decode b_UM_isFunction 10 = .ok (.iconst 1, 1) := by decide +kernel
theorem d_UM_isFunction_11 : decode b_UM_isFunction 11 = .ok (.goto 4, 3) := by decide +kernel
theorem d_UM_isFunction_14 : decode b_UM_isFunction 14 = .ok (.iconst 0, 1) := by decide +kernel
theorem d_UM_isFunction_15 : decode b_UM_isFunction 15 = .ok (.ireturn, 1) := by decide +kernel
theorem d_Tr_fits_0 : decode b_Tr_fits 0 = .ok (.aload_n 0, 1) := by decide +kernel
theorem d_Tr_fits_1 : decode b_Tr_fits 1 = .ok (.iload_n 2, 1) := by decide +kernel
theorem d_Tr_fits_2 : decode b_Tr_fits 2 = .ok (.invokevirtual 48, 3) := by decide +kernel
theorem d_Tr_fits_5 : decode b_Tr_fits 5 = .ok (.istore_n 3, 1) := by decide +kernel
theorem d_Tr_fits_6 : decode b_Tr_fits 6 = .ok (.iload_n 1, 1) := by decide +kernel
theorem d_Tr_fits_7 : decode b_Tr_fits 7 = .ok (.tableswitch 137 1 7 #[41, 46, 51, 67, 85, 97, 120], 41) := by decide +kernel
theorem d_Tr_fits_48 : decode b_Tr_fits 48 = .ok (.iload_n 2, 1) := by decide +kernel
theorem d_Tr_fits_49 : decode b_Tr_fits 49 = .ok (.invokestatic 52, 3) := by decide +kernel
theorem d_Tr_fits_52 : decode b_Tr_fits 52 = .ok (.ireturn, 1) := by decide +kernel
theorem d_Tr_fits_53 : decode b_Tr_fits 53 = .ok (.iload_n 2, 1) := by decide +kernel
theorem d_Tr_fits_54 : decode b_Tr_fits 54 = .ok (.invokestatic 40, 3) := by decide +kernel
theorem d_Tr_fits_57 : decode b_Tr_fits 57 = .ok (.ireturn, 1) := by decide +kernel
theorem d_Tr_fits_58 : decode b_Tr_fits 58 = .ok (.iload_n 3, 1) := by decide +kernel
theorem d_Tr_fits_59 : decode b_Tr_fits 59 = .ok (.ifCond .lt 13, 3) := by decide +kernel
theorem d_Tr_fits_62 : decode b_Tr_fits 62 = .ok (.iload_n 3, 1) := by decide +kernel
theorem d_Tr_fits_63 : decode b_Tr_fits 63 = .ok (.bipush 7, 2) := by decide +kernel
theorem d_Tr_fits_65 : decode b_Tr_fits 65 = .ok (.if_icmp .gt 7, 3) := by decide +kernel
theorem d_Tr_fits_68 : decode b_Tr_fits 68 = .ok (.iconst 1, 1) := by decide +kernel
theorem d_Tr_fits_69 : decode b_Tr_fits 69 = .ok (.goto 4, 3) := by decide +kernel
theorem d_Tr_fits_72 : decode b_Tr_fits 72 = .ok (.iconst 0, 1) := by decide +kernel
theorem d_Tr_fits_73 : decode b_Tr_fits 73 = .ok (.ireturn, 1) := by decide +kernel
theorem d_Tr_fits_74 : decode b_Tr_fits 74 = .ok (.iload_n 3, 1) := by decide +kernel
theorem d_Tr_fits_75 : decode b_Tr_fits 75 = .ok (.bipush 8, 2) := by decide +kernel
theorem d_Tr_fits_77 : decode b_Tr_fits 77 = .ok (.if_icmp .lt 13, 3) := by decide +kernel
theorem d_Tr_fits_80 : decode b_Tr_fits 80 = .ok (.iload_n 3, 1) := by decide +kernel
theorem d_Tr_fits_81 : decode b_Tr_fits 81 = .ok (.bipush 18, 2) := by decide +kernel
theorem d_Tr_fits_83 : decode b_Tr_fits 83 = .ok (.if_icmp .gt 7, 3) := by decide +kernel
theorem d_Tr_fits_86 : decode b_Tr_fits 86 = .ok (.iconst 1, 1) := by decide +kernel
theorem d_Tr_fits_87 : decode b_Tr_fits 87 = .ok (.goto 4, 3) := by decide +kernel
theorem d_Tr_fits_90 : decode b_Tr_fits 90 = .ok (.iconst 0, 1) := by decide +kernel
theorem d_Tr_fits_91 : decode b_Tr_fits 91 = .ok (.ireturn, 1) := by decide +kernel
theorem d_Tr_fits_92 : decode b_Tr_fits 92 = .ok (.iload_n 3, 1) := by decide +kernel
theorem d_Tr_fits_93 : decode b_Tr_fits 93 = .ok (.bipush 19, 2) := by decide +kernel
theorem d_Tr_fits_95 : decode b_Tr_fits 95 = .ok (.if_icmp .lt 7, 3) := by decide +kernel
theorem d_Tr_fits_98 : decode b_Tr_fits 98 = .ok (.iconst 1, 1) := by decide +kernel
theorem d_Tr_fits_99 : decode b_Tr_fits 99 = .ok (.goto 4, 3) := by decide +kernel
theorem d_Tr_fits_102 : decode b_Tr_fits 102 = .ok (.iconst 0, 1) := by decide +kernel
theorem d_Tr_fits_103 : decode b_Tr_fits 103 = .ok (.ireturn, 1) := by decide +kernel
theorem d_Tr_fits_104 : decode b_Tr_fits 104 = .ok (.iload_n 2, 1) := by decide +kernel
theorem d_Tr_fits_105 : decode b_Tr_fits 105 = .ok (.iconst (-1), 1) := by decide +kernel
theorem d_Tr_fits_106 : decode b_Tr_fits 106 = .ok (.if_icmp .eq 15, 3) := by decide +kernel
theorem d_Tr_fits_109 : decode b_Tr_fits 109 = .ok (.iload_n 3, 1) := by decide +kernel
theorem d_Tr_fits_110 : decode b_Tr_fits 110 = .ok (.bipush 8, 2) := by decide +kernel
theorem d_Tr_fits_112 : decode b_Tr_fits 112 = .ok (.if_icmp .lt 13, 3) := by decide +kernel
theorem d_Tr_fits_115 : decode b_Tr_fits 115 = .ok (.iload_n 3, 1) := by decide +kernel
theorem d_Tr_fits_116 : decode b_Tr_fits 116 = .ok (.bipush 18, 2) := by decide +kernel
theorem d_Tr_fits_118 : decode b_Tr_fits 118 = .ok (.if_icmp .gt 7, 3) := by decide +kernel
theorem d_Tr_fits_121 : decode b_Tr_fits 121 = .ok (.iconst 1, 1) := by decide +kernel
theorem d_Tr_fits_122 : decode b_Tr_fits 122 = .ok (.goto 4, 3) := by decide +kernel
theorem d_Tr_fits_125 : decode b_Tr_fits 125 = .ok (.iconst 0, 1) := by decide +kernel
theorem d_Tr_fits_126 : decode b_Tr_fits 126 = .ok (.ireturn, 1) := by decide +kernel
theorem d_Tr_fits_127 : decode b_Tr_fits 127 = .ok (.iload_n 2, 1) := by decide +kernel
theorem d_Tr_fits_128 : decode b_Tr_fits 128 = .ok (.iconst (-1), 1) := by decide +kernel
theorem d_Tr_fits_129 : decode b_Tr_fits 129 = .ok (.if_icmp .eq 9, 3) := by decide +kernel
theorem d_Tr_fits_132 : decode b_Tr_fits 132 = .ok (.iload_n 3, 1) := by decide +kernel
theorem d_Tr_fits_133 : decode b_Tr_fits 133 = .ok (.bipush 19, 2) := by decide +kernel
theorem d_Tr_fits_135 : decode b_Tr_fits 135 = .ok (.if_icmp .lt 7, 3) := by decide +kernel
theorem d_Tr_fits_138 : decode b_Tr_fits 138 = .ok (.iconst 1, 1) := by decide +kernel
theorem d_Tr_fits_139 : decode b_Tr_fits 139 = .ok (.goto 4, 3) := by decide +kernel
theorem d_Tr_fits_142 : decode b_Tr_fits 142 = .ok (.iconst 0, 1) := by decide +kernel
theorem d_Tr_fits_143 : decode b_Tr_fits 143 = .ok (.ireturn, 1) := by decide +kernel
theorem d_Tr_fits_144 : decode b_Tr_fits 144 = .ok (.iconst 1, 1) := by decide +kernel
theorem d_Tr_fits_145 : decode b_Tr_fits 145 = .ok (.ireturn, 1) := by decide +kernel
theorem d_Tr_add_0 : decode b_Tr_add 0 = .ok (.iload_n 1, 1) := by decide +kernel
theorem d_Tr_add_1 : decode b_Tr_add 1 = .ok (.ifCond .lt 19, 3) := by decide +kernel
theorem d_Tr_add_4 : decode b_Tr_add 4 = .ok (.iload_n 1, 1) := by decide +kernel
theorem d_Tr_add_5 : decode b_Tr_add 5 = .ok (.bipush 20, 2) := by decide +kernel
theorem d_Tr_add_7 : decode b_Tr_add 7 = .ok (.if_icmp .gt 13, 3) := by decide +kernel
theorem d_Tr_add_10 : decode b_Tr_add 10 = .ok (.aload_n 0, 1) := by decide +kernel
theorem d_Tr_add_11 : decode b_Tr_add 11 = .ok (.getfield 29, 3) := by decide +kernel
theorem d_Tr_add_14 : decode b_Tr_add 14 = .ok (.sipush 150, 3) := by decide +kernel
theorem d_Tr_add_17 : decode b_Tr_add 17 = .ok (.if_icmp .lt 5, 3) := by decide +kernel
theorem d_Tr_add_20 : decode b_Tr_add 20 = .ok (.iconst (-1), 1) := by decide +kernel
theorem d_Tr_add_21 : decode b_Tr_add 21 = .ok (.ireturn, 1) := by decide +kernel
theorem d_Tr_add_22 : decode b_Tr_add 22 = .ok (.iload_n 1, 1) := by decide +kernel
theorem d_Tr_add_23 : decode b_Tr_add 23 = .ok (.iconst 5, 1) := by decide +kernel
theorem d_Tr_add_24 : decode b_Tr_add 24 = .ok (.imul, 1) := by decide +kernel
theorem d_Tr_add_25 : decode b_Tr_add 25 = .ok (.istore 7, 2) := by decide +kernel
theorem d_Tr_add_27 : decode b_Tr_add 27 = .ok (.aload_n 0, 1) := by decide +kernel
theorem d_Tr_add_28 : decode b_Tr_add 28 = .ok (.getstatic 33, 3) := by decide +kernel
theorem d_Tr_add_31 : decode b_Tr_add 31 = .ok (.iload 7, 2) := by decide +kernel
theorem d_Tr_add_33 : decode b_Tr_add 33 = .ok (.iaload, 1) := by decide +kernel
theorem d_Tr_add_34 : decode b_Tr_add 34 = .ok (.iload_n 2, 1) := by decide +kernel
theorem d_Tr_add_35 : decode b_Tr_add 35 = .ok (.invokevirtual 36, 3) := by decide +kernel
theorem d_Tr_add_38 : decode b_Tr_add 38 = .ok (.ifCond .eq 74, 3) := by decide +kernel
theorem d_Tr_add_41 : decode b_Tr_add 41 = .ok (.aload_n 0, 1) := by decide +kernel
theorem d_Tr_add_42 : decode b_Tr_add 42 = .ok (.getstatic 33, 3) := by decide +kernel
theorem d_Tr_add_45 : decode b_Tr_add 45 = .ok (.iload 7, 2) := by decide +kernel
theorem d_Tr_add_47 : decode b_Tr_add 47 = .ok (.iconst 1, 1) := by decide +kernel
theorem d_Tr_add_48 : decode b_Tr_add 48 = .ok (.iadd, 1) := by decide +kernel
theorem d_Tr_add_49 : decode b_Tr_add 49 = .ok (.iaload, 1) := by decide +kernel
theorem d_Tr_add_50 : decode b_Tr_add 50 = .ok (.iload_n 3, 1) := by decide +kernel
theorem d_Tr_add_51 : decode b_Tr_add 51 = .ok (.invokevirtual 36, 3) := by decide +kernel
theorem d_Tr_add_54 : decode b_Tr_add 54 = .ok (.ifCond .eq 58, 3) := by decide +kernel
theorem d_Tr_add_57 : decode b_Tr_add 57 = .ok (.aload_n 0, 1) := by decide +kernel
theorem d_Tr_add_58 : decode b_Tr_add 58 = .ok (.getstatic 33, 3) := by decide +kernel
theorem d_Tr_add_61 : decode b_Tr_add 61 = .ok (.iload 7, 2) := by decide +kernel
theorem d_Tr_add_63 : decode b_Tr_add 63 = .ok (.iconst 2, 1) := by decide +kernel
theorem d_Tr_add_64 : decode b_Tr_add 64 = .ok (.iadd, 1) := by decide +kernel
theorem d_Tr_add_65 : decode b_Tr_add 65 = .ok (.iaload, 1) := by decide +kernel
theorem d_Tr_add_66 : decode b_Tr_add 66 = .ok (.iload 4, 2) := by decide +kernel
theorem d_Tr_add_68 : decode b_Tr_add 68 = .ok (.invokevirtual 36, 3) := by decide +kernel
theorem d_Tr_add_71 : decode b_Tr_add 71 = .ok (.ifCond .eq 41, 3) := by decide +kernel
theorem d_Tr_add_74 : decode b_Tr_add 74 = .ok (.aload_n 0, 1) := by decide +kernel
theorem d_Tr_add_75 : decode b_Tr_add 75 = .ok (.getstatic 33, 3) := by decide +kernel
theorem d_Tr_add_78 : decode b_Tr_add 78 = .ok (.iload 7, 2) := by decide +kernel
theorem d_Tr_add_80 : decode b_Tr_add 80 = .ok (.iconst 3, 1) := by decide +kernel
theorem d_Tr_add_81 : decode b_Tr_add 81 = .ok (.iadd, 1) := by decide +kernel
theorem d_Tr_add_82 : decode b_Tr_add 82 = .ok (.iaload, 1) := by decide +kernel
theorem d_Tr_add_83 : decode b_Tr_add 83 = .ok (.iload 5, 2) := by decide +kernel
theorem d_Tr_add_85 : decode b_Tr_add 85 = .ok (.invokevirtual 36, 3) := by decide +kernel
theorem d_Tr_add_88 : decode b_Tr_add 88 = .ok (.ifCond .eq 24, 3) := by decide +kernel
theorem d_Tr_add_91 : decode b_Tr_add 91 = .ok (.aload_n 0, 1) := by decide +kernel
theorem d_Tr_add_92 : decode b_Tr_add 92 = .ok (.getstatic 33, 3) := by decide +kernel
theorem d_Tr_add_95 : decode b_Tr_add 95 = .ok (.iload 7, 2) := by decide +kernel
theorem d_Tr_add_97 : decode b_Tr_add 97 = .ok (.iconst 4, 1) := by decide +kernel
theorem d_Tr_add_98 : decode b_Tr_add 98 = .ok (.iadd, 1) := by decide +kernel
theorem d_Tr_add_99 : decode b_Tr_add 99 = .ok (.iaload, 1) := by decide +kernel
theorem d_Tr_add_100 : decode b_Tr_add 100 = .ok (.iload 6, 2) := by decide +kernel
theorem d_Tr_add_102 : decode b_Tr_add 102 = .ok (.invokevirtual 36, 3) := by decide +kernel
theorem d_Tr_add_105 : decode b_Tr_add 105 = .ok (.ifCond .eq 7, 3) := by decide +kernel
theorem d_Tr_add_108 : decode b_Tr_add 108 = .ok (.iconst 1, 1) := by decide +kernel
theorem d_Tr_add_109 : decode b_Tr_add 109 = .ok (.goto 4, 3) := by decide +kernel
theorem d_Tr_add_112 : decode b_Tr_add 112 = .ok (.iconst 0, 1) := by decide +kernel
theorem d_Tr_add_113 : decode b_Tr_add 113 = .ok (.istore 8, 2) := by decide +kernel
theorem d_Tr_add_115 : decode b_Tr_add 115 = .ok (.iload 8, 2) := by decide +kernel
theorem d_Tr_add_117 : decode b_Tr_add 117 = .ok (.ifCond .ne 5, 3) := by decide +kernel
theorem d_Tr_add_120 : decode b_Tr_add 120 = .ok (.iconst (-1), 1) := by decide +kernel
theorem d_Tr_add_121 : decode b_Tr_add 121 = .ok (.ireturn, 1) := by decide +kernel
theorem d_Tr_add_122 : decode b_Tr_add 122 = .ok (.aload_n 0, 1) := by decide +kernel
theorem d_Tr_add_123 : decode b_Tr_add 123 = .ok (.getfield 29, 3) := by decide +kernel
theorem d_Tr_add_126 : decode b_Tr_add 126 = .ok (.iconst 5, 1) := by decide +kernel
theorem d_Tr_add_127 : decode b_Tr_add 127 = .ok (.imul, 1) := by decide +kernel
theorem d_Tr_add_128 : decode b_Tr_add 128 = .ok (.istore 9, 2) := by decide +kernel
theorem d_Tr_add_130 : decode b_Tr_add 130 = .ok (.aload_n 0, 1) := by decide +kernel
theorem d_Tr_add_131 : decode b_Tr_add 131 = .ok (.getfield 9, 3) := by decide +kernel
theorem d_Tr_add_134 : decode b_Tr_add 134 = .ok (.aload_n 0, 1) := by decide +kernel
theorem d_Tr_add_135 : decode b_Tr_add 135 = .ok (.getfield 29, 3) := by decide +kernel
theorem d_Tr_add_138 : decode b_Tr_add 138 = .ok (.iload_n 1, 1) := by decide +kernel
theorem d_Tr_add_139 : decode b_Tr_add 139 = .ok (.iastore, 1) := by decide +kernel
theorem d_Tr_add_140 : decode b_Tr_add 140 = .ok (.aload_n 0, 1) := by decide +kernel
theorem d_Tr_add_141 : decode b_Tr_add 141 = .ok (.getfield 15, 3) := by decide +kernel
theorem d_Tr_add_144 : decode b_Tr_add 144 = .ok (.iload 9, 2) := by decide +kernel
theorem d_Tr_add_146 : decode b_Tr_add 146 = .ok (.iload_n 2, 1) := by decide +kernel
theorem d_Tr_add_147 : decode b_Tr_add 147 = .ok (.iastore, 1) := by decide +kernel
theorem d_Tr_add_148 : decode b_Tr_add 148 = .ok (.aload_n 0, 1) := by decide +kernel
theorem d_Tr_add_149 : decode b_Tr_add 149 = .ok (.getfield 15, 3) := by decide +kernel
theorem d_Tr_add_152 : decode b_Tr_add 152 = .ok (.iload 9, 2) := by decide +kernel
theorem d_Tr_add_154 : decode b_Tr_add 154 = .ok (.iconst 1, 1) := by decide +kernel
theorem d_Tr_add_155 : decode b_Tr_add 155 = .ok (.iadd, 1) := by decide +kernel
theorem d_Tr_add_156 : decode b_Tr_add 156 = .ok (.iload_n 3, 1) := by decide +kernel
theorem d_Tr_add_157 : decode b_Tr_add 157 = .ok (.iastore, 1) := by decide +kernel
theorem d_Tr_add_158 : decode b_Tr_add 158 = .ok (.aload_n 0, 1) := by decide +kernel
theorem d_Tr_add_159 : decode b_Tr_add 159 = .ok (.getfield 15, 3) := by decide +kernel
theorem d_Tr_add_162 : decode b_Tr_add 162 = .ok (.iload 9, 2) := by decide +kernel
theorem d_Tr_add_164 : decode b_Tr_add 164 = .ok (.iconst 2, 1) := by decide +kernel
theorem d_Tr_add_165 : decode b_Tr_add 165 = .ok (.iadd, 1) := by decide +kernel
theorem d_Tr_add_166 : decode b_Tr_add 166 = .ok (.iload 4, 2) := by decide +kernel
theorem d_Tr_add_168 : decode b_Tr_add 168 = .ok (.iastore, 1) := by decide +kernel
theorem d_Tr_add_169 : decode b_Tr_add 169 = .ok (.aload_n 0, 1) := by decide +kernel
theorem d_Tr_add_170 : decode b_Tr_add 170 = .ok (.getfield 15, 3) := by decide +kernel
theorem d_Tr_add_173 : decode b_Tr_add 173 = .ok (.iload 9, 2) := by decide +kernel
theorem d_Tr_add_175 : decode b_Tr_add 175 = .ok (.iconst 3, 1) := by decide +kernel
theorem d_Tr_add_176 : decode b_Tr_add 176 = .ok (.iadd, 1) := by decide +kernel
theorem d_Tr_add_177 : decode b_Tr_add 177 = .ok (.iload 5, 2) := by decide +kernel
theorem d_Tr_add_179 : decode b_Tr_add 179 = .ok (.iastore, 1) := by decide +kernel
theorem d_Tr_add_180 : decode b_Tr_add 180 = .ok (.aload_n 0, 1) := by decide +kernel
theorem d_Tr_add_181 : decode b_Tr_add 181 = .ok (.getfield 15, 3) := by decide +kernel
theorem d_Tr_add_184 : decode b_Tr_add 184 = .ok (.iload 9, 2) := by decide +kernel
theorem d_Tr_add_186 : decode b_Tr_add 186 = .ok (.iconst 4, 1) := by decide +kernel
theorem d_Tr_add_187 : decode b_Tr_add 187 = .ok (.iadd, 1) := by decide +kernel
theorem d_Tr_add_188 : decode b_Tr_add 188 = .ok (.iload 6, 2) := by decide +kernel
theorem d_Tr_add_190 : decode b_Tr_add 190 = .ok (.iastore, 1) := by decide +kernel
theorem d_Tr_add_191 : decode b_Tr_add 191 = .ok (.aload_n 0, 1) := by decide +kernel
theorem d_Tr_add_192 : decode b_Tr_add 192 = .ok (.dup, 1) := by decide +kernel
theorem d_Tr_add_193 : decode b_Tr_add 193 = .ok (.getfield 29, 3) := by decide +kernel
theorem d_Tr_add_196 : decode b_Tr_add 196 = .ok (.iconst 1, 1) := by decide +kernel
theorem d_Tr_add_197 : decode b_Tr_add 197 = .ok (.iadd, 1) := by decide +kernel
theorem d_Tr_add_198 : decode b_Tr_add 198 = .ok (.putfield 29, 3) := by decide +kernel
theorem d_Tr_add_201 : decode b_Tr_add 201 = .ok (.aload_n 0, 1) := by decide +kernel
theorem d_Tr_add_202 : decode b_Tr_add 202 = .ok (.getfield 29, 3) := by decide +kernel
theorem d_Tr_add_205 : decode b_Tr_add 205 = .ok (.iconst 1, 1) := by decide +kernel
theorem d_Tr_add_206 : decode b_Tr_add 206 = .ok (.isub, 1) := by decide +kernel
theorem d_Tr_add_207 : decode b_Tr_add 207 = .ok (.ireturn, 1) := by decide +kernel
theorem d_UM_node_0 : decode b_UM_node 0 = .ok (.aload_n 0, 1) := by decide +kernel
theorem d_UM_node_1 : decode b_UM_node 1 = .ok (.getfield 10, 3) := by decide +kernel
theorem d_UM_node_4 : decode b_UM_node 4 = .ok (.iload_n 1, 1) := by decide +kernel
theorem d_UM_node_5 : decode b_UM_node 5 = .ok (.iload_n 2, 1) := by decide +kernel
theorem d_UM_node_6 : decode b_UM_node 6 = .ok (.iload_n 3, 1) := by decide +kernel
theorem d_UM_node_7 : decode b_UM_node 7 = .ok (.iload 4, 2) := by decide +kernel
theorem d_UM_node_9 : decode b_UM_node 9 = .ok (.iload 5, 2) := by decide +kernel
theorem d_UM_node_11 : decode b_UM_node 11 = .ok (.iconst (-1), 1) := by decide +kernel
theorem d_UM_node_12 : decode b_UM_node 12 = .ok (.invokevirtual 41, 3) := by decide +kernel
theorem d_UM_node_15 : decode b_UM_node 15 = .ok (.ireturn, 1) := by decide +kernel
theorem d_UM_catchBehind_0 : decode b_UM_catchBehind 0 = .ok (.aload_n 0, 1) := by decide +kernel
theorem d_UM_catchBehind_1 : decode b_UM_catchBehind 1 = .ok (.getfield 10, 3) := by decide +kernel
theorem d_UM_catchBehind_4 : decode b_UM_catchBehind 4 = .ok (.bipush 20, 2) := by decide +kernel
theorem d_UM_catchBehind_6 : decode b_UM_catchBehind 6 = .ok (.iload_n 1, 1) := by decide +kernel
theorem d_UM_catchBehind_7 : decode b_UM_catchBehind 7 = .ok (.iload_n 2, 1) := by decide +kernel
theorem d_UM_catchBehind_8 : decode b_UM_catchBehind 8 = .ok (.iload_n 3, 1) := by decide +kernel
theorem d_UM_catchBehind_9 : decode b_UM_catchBehind 9 = .ok (.iload 4, 2) := by decide +kernel
theorem d_UM_catchBehind_11 : decode b_UM_catchBehind 11 = .ok (.iload 5, 2) := by decide +kernel
theorem d_UM_catchBehind_13 : decode b_UM_catchBehind 13 = .ok (.invokevirtual 41, 3) := by decide +kernel
theorem d_UM_catchBehind_16 : decode b_UM_catchBehind 16 = .ok (.ireturn, 1) := by decide +kernel
theorem d_Tr_setBody_0 : decode b_Tr_setBody 0 = .ok (.iload_n 1, 1) := by decide +kernel
theorem d_Tr_setBody_1 : decode b_Tr_setBody 1 = .ok (.invokestatic 40, 3) := by decide +kernel
theorem d_Tr_setBody_4 : decode b_Tr_setBody 4 = .ok (.ifCond .eq 13, 3) := by decide +kernel
theorem d_Tr_setBody_7 : decode b_Tr_setBody 7 = .ok (.aload_n 0, 1) := by decide +kernel
theorem d_Tr_setBody_8 : decode b_Tr_setBody 8 = .ok (.bipush 6, 2) := by decide +kernel
theorem d_Tr_setBody_10 : decode b_Tr_setBody 10 = .ok (.iload_n 2, 1) := by decide +kernel
theorem d_Tr_setBody_11 : decode b_Tr_setBody 11 = .ok (.invokevirtual 36, 3) := by decide +kernel
theorem d_Tr_setBody_14 : decode b_Tr_setBody 14 = .ok (.ifCond .ne 5, 3) := by decide +kernel
theorem d_Tr_setBody_17 : decode b_Tr_setBody 17 = .ok (.iconst 0, 1) := by decide +kernel
theorem d_Tr_setBody_18 : decode b_Tr_setBody 18 = .ok (.ireturn, 1) := by decide +kernel
theorem d_Tr_setBody_19 : decode b_Tr_setBody 19 = .ok (.aload_n 0, 1) := by decide +kernel
theorem d_Tr_setBody_20 : decode b_Tr_setBody 20 = .ok (.getfield 18, 3) := by decide +kernel
theorem d_Tr_setBody_23 : decode b_Tr_setBody 23 = .ok (.iload_n 1, 1) := by decide +kernel
theorem d_Tr_setBody_24 : decode b_Tr_setBody 24 = .ok (.iload_n 2, 1) := by decide +kernel
theorem d_Tr_setBody_25 : decode b_Tr_setBody 25 = .ok (.iastore, 1) := by decide +kernel
theorem d_Tr_setBody_26 : decode b_Tr_setBody 26 = .ok (.iconst 1, 1) := by decide +kernel
theorem d_Tr_setBody_27 : decode b_Tr_setBody 27 = .ok (.ireturn, 1) := by decide +kernel
theorem d_UM_body_0 : decode b_UM_body 0 = .ok (.aload_n 0, 1) := by decide +kernel
theorem d_UM_body_1 : decode b_UM_body 1 = .ok (.getfield 10, 3) := by decide +kernel
theorem d_UM_body_4 : decode b_UM_body 4 = .ok (.iload_n 1, 1) := by decide +kernel
theorem d_UM_body_5 : decode b_UM_body 5 = .ok (.iload_n 2, 1) := by decide +kernel
theorem d_UM_body_6 : decode b_UM_body 6 = .ok (.invokevirtual 47, 3) := by decide +kernel
theorem d_UM_body_9 : decode b_UM_body 9 = .ok (.ireturn, 1) := by decide +kernel
theorem d_La_settleGoals_0 : decode b_La_settleGoals 0 = .ok (.iconst 0, 1) := by decide +kernel
theorem d_La_settleGoals_1 : decode b_La_settleGoals 1 = .ok (.istore_n 1, 1) := by decide +kernel
theorem d_La_settleGoals_2 : decode b_La_settleGoals 2 = .ok (.iload_n 1, 1) := by decide +kernel
theorem d_La_settleGoals_3 : decode b_La_settleGoals 3 = .ok (.aload_n 0, 1) := by decide +kernel
theorem d_La_settleGoals_4 : decode b_La_settleGoals 4 = .ok (.getfield 40, 3) := by decide +kernel
theorem d_La_settleGoals_7 : decode b_La_settleGoals 7 = .ok (.getfield 74, 3) := by decide +kernel
theorem d_La_settleGoals_10 : decode b_La_settleGoals 10 = .ok (.if_icmp .ge 86, 3) := by decide +kernel
theorem d_La_settleGoals_13 : decode b_La_settleGoals 13 = .ok (.aload_n 0, 1) := by decide +kernel
theorem d_La_settleGoals_14 : decode b_La_settleGoals 14 = .ok (.getfield 40, 3) := by decide +kernel
theorem d_La_settleGoals_17 : decode b_La_settleGoals 17 = .ok (.getfield 230, 3) := by decide +kernel
theorem d_La_settleGoals_20 : decode b_La_settleGoals 20 = .ok (.iload_n 1, 1) := by decide +kernel
theorem d_La_settleGoals_21 : decode b_La_settleGoals 21 = .ok (.iaload, 1) := by decide +kernel
theorem d_La_settleGoals_22 : decode b_La_settleGoals 22 = .ok (.bipush 10, 2) := by decide +kernel
theorem d_La_settleGoals_24 : decode b_La_settleGoals 24 = .ok (.if_icmp .eq 17, 3) := by decide +kernel
theorem d_La_settleGoals_27 : decode b_La_settleGoals 27 = .ok (.aload_n 0, 1) := by decide +kernel
theorem d_La_settleGoals_28 : decode b_La_settleGoals 28 = .ok (.getfield 40, 3) := by decide +kernel
theorem d_La_settleGoals_31 : decode b_La_settleGoals 31 = .ok (.getfield 230, 3) := by decide +kernel
theorem d_La_settleGoals_34 : decode b_La_settleGoals 34 = .ok (.iload_n 1, 1) := by decide +kernel
theorem d_La_settleGoals_35 : decode b_La_settleGoals 35 = .ok (.iaload, 1) := by decide +kernel
theorem d_La_settleGoals_36 : decode b_La_settleGoals 36 = .ok (.bipush 11, 2) := by decide +kernel
theorem d_La_settleGoals_38 : decode b_La_settleGoals 38 = .ok (.if_icmp .ne 7, 3) := by decide +kernel
theorem d_La_settleGoals_41 : decode b_La_settleGoals 41 = .ok (.iconst 1, 1) := by decide +kernel
theorem d_La_settleGoals_42 : decode b_La_settleGoals 42 = .ok (.goto 4, 3) := by decide +kernel
theorem d_La_settleGoals_45 : decode b_La_settleGoals 45 = .ok (.iconst 0, 1) := by decide +kernel
theorem d_La_settleGoals_46 : decode b_La_settleGoals 46 = .ok (.istore_n 2, 1) := by decide +kernel
theorem d_La_settleGoals_47 : decode b_La_settleGoals 47 = .ok (.iload_n 2, 1) := by decide +kernel
theorem d_La_settleGoals_48 : decode b_La_settleGoals 48 = .ok (.ifCond .eq 42, 3) := by decide +kernel
theorem d_La_settleGoals_51 : decode b_La_settleGoals 51 = .ok (.aload_n 0, 1) := by decide +kernel
theorem d_La_settleGoals_52 : decode b_La_settleGoals 52 = .ok (.getfield 40, 3) := by decide +kernel
theorem d_La_settleGoals_55 : decode b_La_settleGoals 55 = .ok (.getfield 233, 3) := by decide +kernel
theorem d_La_settleGoals_58 : decode b_La_settleGoals 58 = .ok (.iload_n 1, 1) := by decide +kernel
theorem d_La_settleGoals_59 : decode b_La_settleGoals 59 = .ok (.iaload, 1) := by decide +kernel
theorem d_La_settleGoals_60 : decode b_La_settleGoals 60 = .ok (.ifCond .ge 30, 3) := by decide +kernel
theorem d_La_settleGoals_63 : decode b_La_settleGoals 63 = .ok (.aload_n 0, 1) := by decide +kernel
theorem d_La_settleGoals_64 : decode b_La_settleGoals 64 = .ok (.getfield 40, 3) := by decide +kernel
theorem d_La_settleGoals_67 : decode b_La_settleGoals 67 = .ok (.getfield 233, 3) := by decide +kernel
theorem d_La_settleGoals_70 : decode b_La_settleGoals 70 = .ok (.iload_n 1, 1) := by decide +kernel
theorem d_La_settleGoals_71 : decode b_La_settleGoals 71 = .ok (.aload_n 0, 1) := by decide +kernel
theorem d_La_settleGoals_72 : decode b_La_settleGoals 72 = .ok (.getfield 12, 3) := by decide +kernel
theorem d_La_settleGoals_75 : decode b_La_settleGoals 75 = .ok (.getfield 172, 3) := by decide +kernel
theorem d_La_settleGoals_78 : decode b_La_settleGoals 78 = .ok (.aload_n 0, 1) := by decide +kernel
theorem d_La_settleGoals_79 : decode b_La_settleGoals 79 = .ok (.getfield 40, 3) := by decide +kernel
theorem d_La_settleGoals_82 : decode b_La_settleGoals 82 = .ok (.getfield 233, 3) := by decide +kernel
theorem d_La_settleGoals_85 : decode b_La_settleGoals 85 = .ok (.iload_n 1, 1) := by decide +kernel
theorem d_La_settleGoals_86 : decode b_La_settleGoals 86 = .ok (.iaload, 1) := by decide +kernel
theorem d_La_settleGoals_87 : decode b_La_settleGoals 87 = .ok (.ineg, 1) := by decide +kernel
theorem d_La_settleGoals_88 : decode b_La_settleGoals 88 = .ok (.iaload, 1) := by decide +kernel
theorem d_La_settleGoals_89 : decode b_La_settleGoals 89 = .ok (.iastore, 1) := by decide +kernel
theorem d_La_settleGoals_90 : decode b_La_settleGoals 90 = .ok (.iinc 1 1, 3) := by decide +kernel
theorem d_La_settleGoals_93 : decode b_La_settleGoals 93 = .ok (.goto (-91), 3) := by decide +kernel
theorem d_La_settleGoals_96 : decode b_La_settleGoals 96 = .ok (.return_, 1) := by decide +kernel
theorem d_Co_clear_0 : decode b_Co_clear 0 = .ok (.aload_n 0, 1) := by decide +kernel
theorem d_Co_clear_1 : decode b_Co_clear 1 = .ok (.iconst 0, 1) := by decide +kernel
theorem d_Co_clear_2 : decode b_Co_clear 2 = .ok (.putfield 27, 3) := by decide +kernel
theorem d_Co_clear_5 : decode b_Co_clear 5 = .ok (.aload_n 0, 1) := by decide +kernel
theorem d_Co_clear_6 : decode b_Co_clear 6 = .ok (.iconst 0, 1) := by decide +kernel
theorem d_Co_clear_7 : decode b_Co_clear 7 = .ok (.putfield 31, 3) := by decide +kernel
theorem d_Co_clear_10 : decode b_Co_clear 10 = .ok (.aload_n 0, 1) := by decide +kernel
theorem d_Co_clear_11 : decode b_Co_clear 11 = .ok (.iconst 0, 1) := by decide +kernel
theorem d_Co_clear_12 : decode b_Co_clear 12 = .ok (.putfield 34, 3) := by decide +kernel
theorem d_Co_clear_15 : decode b_Co_clear 15 = .ok (.aload_n 0, 1) := by decide +kernel
theorem d_Co_clear_16 : decode b_Co_clear 16 = .ok (.iconst (-1), 1) := by decide +kernel
theorem d_Co_clear_17 : decode b_Co_clear 17 = .ok (.putfield 37, 3) := by decide +kernel
theorem d_Co_clear_20 : decode b_Co_clear 20 = .ok (.return_, 1) := by decide +kernel
theorem d_Tr_part_0 : decode b_Tr_part 0 = .ok (.iload_n 1, 1) := by decide +kernel
theorem d_Tr_part_1 : decode b_Tr_part 1 = .ok (.ifCond .lt 24, 3) := by decide +kernel
theorem d_Tr_part_4 : decode b_Tr_part 4 = .ok (.iload_n 1, 1) := by decide +kernel
theorem d_Tr_part_5 : decode b_Tr_part 5 = .ok (.aload_n 0, 1) := by decide +kernel
theorem d_Tr_part_6 : decode b_Tr_part 6 = .ok (.getfield 29, 3) := by decide +kernel
theorem d_Tr_part_9 : decode b_Tr_part 9 = .ok (.if_icmp .ge 16, 3) := by decide +kernel
theorem d_Tr_part_12 : decode b_Tr_part 12 = .ok (.aload_n 0, 1) := by decide +kernel
theorem d_Tr_part_13 : decode b_Tr_part 13 = .ok (.getfield 15, 3) := by decide +kernel
theorem d_Tr_part_16 : decode b_Tr_part 16 = .ok (.iload_n 1, 1) := by decide +kernel
theorem d_Tr_part_17 : decode b_Tr_part 17 = .ok (.iconst 5, 1) := by decide +kernel
theorem d_Tr_part_18 : decode b_Tr_part 18 = .ok (.imul, 1) := by decide +kernel
theorem d_Tr_part_19 : decode b_Tr_part 19 = .ok (.iload_n 2, 1) := by decide +kernel
theorem d_Tr_part_20 : decode b_Tr_part 20 = .ok (.iadd, 1) := by decide +kernel
theorem d_Tr_part_21 : decode b_Tr_part 21 = .ok (.iaload, 1) := by decide +kernel
theorem d_Tr_part_22 : decode b_Tr_part 22 = .ok (.goto 4, 3) := by decide +kernel
theorem d_Tr_part_25 : decode b_Tr_part 25 = .ok (.iconst (-1), 1) := by decide +kernel
theorem d_Tr_part_26 : decode b_Tr_part 26 = .ok (.ireturn, 1) := by decide +kernel
theorem d_La_addRow_0 : decode b_La_addRow 0 = .ok (.aload_n 0, 1) := by decide +kernel
theorem d_La_addRow_1 : decode b_La_addRow 1 = .ok (.getfield 40, 3) := by decide +kernel
theorem d_La_addRow_4 : decode b_La_addRow 4 = .ok (.getfield 255, 3) := by decide +kernel
theorem d_La_addRow_7 : decode b_La_addRow 7 = .ok (.sipush 300, 3) := by decide +kernel
theorem d_La_addRow_10 : decode b_La_addRow 10 = .ok (.if_icmp .lt 10, 3) := by decide +kernel
theorem d_La_addRow_13 : decode b_La_addRow 13 = .ok (.aload_n 0, 1) := by decide +kernel
theorem d_La_addRow_14 : decode b_La_addRow 14 = .ok (.bipush (-2), 2) := by decide +kernel
theorem d_La_addRow_16 : decode b_La_addRow 16 = .ok (.putfield 61, 3) := by decide +kernel
theorem d_La_addRow_19 : decode b_La_addRow 19 = .ok (.return_, 1) := by decide +kernel
theorem d_La_addRow_20 : decode b_La_addRow 20 = .ok (.aload_n 0, 1) := by decide +kernel
theorem d_La_addRow_21 : decode b_La_addRow 21 = .ok (.getfield 28, 3) := by decide +kernel
theorem d_La_addRow_24 : decode b_La_addRow 24 = .ok (.getfield 252, 3) := by decide +kernel
theorem d_La_addRow_27 : decode b_La_addRow 27 = .ok (.iload_n 1, 1) := by decide +kernel
theorem d_La_addRow_28 : decode b_La_addRow 28 = .ok (.iaload, 1) := by decide +kernel
theorem d_La_addRow_29 : decode b_La_addRow 29 = .ok (.istore 4, 2) := by decide +kernel
theorem d_La_addRow_31 : decode b_La_addRow 31 = .ok (.aload_n 0, 1) := by decide +kernel
theorem d_La_addRow_32 : decode b_La_addRow 32 = .ok (.getfield 40, 3) := by decide +kernel
theorem d_La_addRow_35 : decode b_La_addRow 35 = .ok (.getfield 255, 3) := by decide +kernel
theorem d_La_addRow_38 : decode b_La_addRow 38 = .ok (.iconst 5, 1) := by decide +kernel
theorem d_La_addRow_39 : decode b_La_addRow 39 = .ok (.imul, 1) := by decide +kernel
theorem d_La_addRow_40 : decode b_La_addRow 40 = .ok (.istore 5, 2) := by decide +kernel
theorem d_La_addRow_42 : decode b_La_addRow 42 = .ok (.aload_n 0, 1) := by decide +kernel
theorem d_La_addRow_43 : decode b_La_addRow 43 = .ok (.getfield 40, 3) := by decide +kernel
theorem d_La_addRow_46 : decode b_La_addRow 46 = .ok (.getfield 258, 3) := by decide +kernel
theorem d_La_addRow_49 : decode b_La_addRow 49 = .ok (.iload 5, 2) := by decide +kernel
theorem d_La_addRow_51 : decode b_La_addRow 51 = .ok (.iload_n 2, 1) := by decide +kernel
theorem d_La_addRow_52 : decode b_La_addRow 52 = .ok (.iastore, 1) := by decide +kernel
theorem d_La_addRow_53 : decode b_La_addRow 53 = .ok (.aload_n 0, 1) := by decide +kernel
theorem d_La_addRow_54 : decode b_La_addRow 54 = .ok (.getfield 40, 3) := by decide +kernel
theorem d_La_addRow_57 : decode b_La_addRow 57 = .ok (.getfield 258, 3) := by decide +kernel
theorem d_La_addRow_60 : decode b_La_addRow 60 = .ok (.iload 5, 2) := by decide +kernel
theorem d_La_addRow_62 : decode b_La_addRow 62 = .ok (.iconst 1, 1) := by decide +kernel
theorem d_La_addRow_63 : decode b_La_addRow 63 = .ok (.iadd, 1) := by decide +kernel
theorem d_La_addRow_64 : decode b_La_addRow 64 = .ok (.iload_n 3, 1) := by decide +kernel
theorem d_La_addRow_65 : decode b_La_addRow 65 = .ok (.iastore, 1) := by decide +kernel
theorem d_La_addRow_66 : decode b_La_addRow 66 = .ok (.aload_n 0, 1) := by decide +kernel
theorem d_La_addRow_67 : decode b_La_addRow 67 = .ok (.getfield 40, 3) := by decide +kernel
theorem d_La_addRow_70 : decode b_La_addRow 70 = .ok (.getfield 258, 3) := by decide +kernel
theorem d_La_addRow_73 : decode b_La_addRow 73 = .ok (.iload 5, 2) := by decide +kernel
theorem d_La_addRow_75 : decode b_La_addRow 75 = .ok (.iconst 2, 1) := by decide +kernel
theorem d_La_addRow_76 : decode b_La_addRow 76 = .ok (.iadd, 1) := by decide +kernel
theorem d_La_addRow_77 : decode b_La_addRow 77 = .ok (.aload_n 0, 1) := by decide +kernel
theorem d_La_addRow_78 : decode b_La_addRow 78 = .ok (.getfield 28, 3) := by decide +kernel
theorem d_La_addRow_81 : decode b_La_addRow 81 = .ok (.getfield 261, 3) := by decide +kernel
theorem d_La_addRow_84 : decode b_La_addRow 84 = .ok (.iload_n 1, 1) := by decide +kernel
theorem d_La_addRow_85 : decode b_La_addRow 85 = .ok (.iaload, 1) := by decide +kernel
theorem d_La_addRow_86 : decode b_La_addRow 86 = .ok (.iastore, 1) := by decide +kernel
theorem d_La_addRow_87 : decode b_La_addRow 87 = .ok (.aload_n 0, 1) := by decide +kernel
theorem d_La_addRow_88 : decode b_La_addRow 88 = .ok (.getfield 40, 3) := by decide +kernel
theorem d_La_addRow_91 : decode b_La_addRow 91 = .ok (.getfield 258, 3) := by decide +kernel
theorem d_La_addRow_94 : decode b_La_addRow 94 = .ok (.iload 5, 2) := by decide +kernel
theorem d_La_addRow_96 : decode b_La_addRow 96 = .ok (.iconst 3, 1) := by decide +kernel
theorem d_La_addRow_97 : decode b_La_addRow 97 = .ok (.iadd, 1) := by decide +kernel
theorem d_La_addRow_98 : decode b_La_addRow 98 = .ok (.iload 4, 2) := by decide +kernel
theorem d_La_addRow_100 : decode b_La_addRow 100 = .ok (.iconst (-1), 1) := by decide +kernel
theorem d_La_addRow_101 : decode b_La_addRow 101 = .ok (.if_icmp .ne 9, 3) := by decide +kernel
theorem d_La_addRow_104 : decode b_La_addRow 104 = .ok (.ldc_w 264, 3) := by decide +kernel
theorem d_La_addRow_107 : decode b_La_addRow 107 = .ok (.goto 13, 3) := by decide +kernel
theorem d_La_addRow_110 : decode b_La_addRow 110 = .ok (.aload_n 0, 1) := by decide +kernel
theorem d_La_addRow_111 : decode b_La_addRow 111 = .ok (.getfield 36, 3) := by decide +kernel
theorem d_La_addRow_114 : decode b_La_addRow 114 = .ok (.iload 4, 2) := by decide +kernel
theorem d_La_addRow_116 : decode b_La_addRow 116 = .ok (.iconst 0, 1) := by decide +kernel
theorem d_La_addRow_117 : decode b_La_addRow 117 = .ok (.invokevirtual 141, 3) := by decide +kernel
theorem d_La_addRow_120 : decode b_La_addRow 120 = .ok (.iastore, 1) := by decide +kernel
theorem d_La_addRow_121 : decode b_La_addRow 121 = .ok (.aload_n 0, 1) := by decide +kernel
theorem d_La_addRow_122 : decode b_La_addRow 122 = .ok (.getfield 40, 3) := by decide +kernel
theorem d_La_addRow_125 : decode b_La_addRow 125 = .ok (.getfield 258, 3) := by decide +kernel
theorem d_La_addRow_128 : decode b_La_addRow 128 = .ok (.iload 5, 2) := by decide +kernel
theorem d_La_addRow_130 : decode b_La_addRow 130 = .ok (.iconst 4, 1) := by decide +kernel
theorem d_La_addRow_131 : decode b_La_addRow 131 = .ok (.iadd, 1) := by decide +kernel
theorem d_La_addRow_132 : decode b_La_addRow 132 = .ok (.iload 4, 2) := by decide +kernel
theorem d_La_addRow_134 : decode b_La_addRow 134 = .ok (.iconst (-1), 1) := by decide +kernel
theorem d_La_addRow_135 : decode b_La_addRow 135 = .ok (.if_icmp .ne 9, 3) := by decide +kernel
theorem d_La_addRow_138 : decode b_La_addRow 138 = .ok (.ldc_w 265, 3) := by decide +kernel
theorem d_La_addRow_141 : decode b_La_addRow 141 = .ok (.goto 13, 3) := by decide +kernel
theorem d_La_addRow_144 : decode b_La_addRow 144 = .ok (.aload_n 0, 1) := by decide +kernel
theorem d_La_addRow_145 : decode b_La_addRow 145 = .ok (.getfield 36, 3) := by decide +kernel
theorem d_La_addRow_148 : decode b_La_addRow 148 = .ok (.iload 4, 2) := by decide +kernel
theorem d_La_addRow_150 : decode b_La_addRow 150 = .ok (.iconst 1, 1) := by decide +kernel
theorem d_La_addRow_151 : decode b_La_addRow 151 = .ok (.invokevirtual 141, 3) := by decide +kernel
theorem d_La_addRow_154 : decode b_La_addRow 154 = .ok (.iastore, 1) := by decide +kernel
theorem d_La_addRow_155 : decode b_La_addRow 155 = .ok (.aload_n 0, 1) := by decide +kernel
theorem d_La_addRow_156 : decode b_La_addRow 156 = .ok (.getfield 40, 3) := by decide +kernel
theorem d_La_addRow_159 : decode b_La_addRow 159 = .ok (.dup, 1) := by decide +kernel
theorem d_La_addRow_160 : decode b_La_addRow 160 = .ok (.getfield 255, 3) := by decide +kernel
theorem d_La_addRow_163 : decode b_La_addRow 163 = .ok (.iconst 1, 1) := by decide +kernel
theorem d_La_addRow_164 : decode b_La_addRow 164 = .ok (.iadd, 1) := by decide +kernel
theorem d_La_addRow_165 : decode b_La_addRow 165 = .ok (.putfield 255, 3) := by decide +kernel
theorem d_La_addRow_168 : decode b_La_addRow 168 = .ok (.return_, 1) := by decide +kernel
theorem d_Sc_scopeOf_0 : decode b_Sc_scopeOf 0 = .ok (.iload_n 0, 1) := by decide +kernel
theorem d_Sc_scopeOf_1 : decode b_Sc_scopeOf 1 = .ok (.iconst 2, 1) := by decide +kernel
theorem d_Sc_scopeOf_2 : decode b_Sc_scopeOf 2 = .ok (.ishr, 1) := by decide +kernel
theorem d_Sc_scopeOf_3 : decode b_Sc_scopeOf 3 = .ok (.ireturn, 1) := by decide +kernel
end
section
theorem d_Sc_partOf_0 : decode b_Sc_partOf 0 = .ok (.iload_n 0, 1) := by decide +kernel
theorem d_Sc_partOf_1 : decode b_Sc_partOf 1 = .ok (.iconst 3, 1) := by decide +kernel
theorem d_Sc_partOf_2 : decode b_Sc_partOf 2 = .ok (.iand, 1) := by decide +kernel
theorem d_Sc_partOf_3 : decode b_Sc_partOf 3 = .ok (.ireturn, 1) := by decide +kernel
theorem d_Sc_partLookedAt_0 : decode b_Sc_partLookedAt 0 = .ok (.iload_n 1, 1) := by decide +kernel
theorem d_Sc_partLookedAt_1 : decode b_Sc_partLookedAt 1 = .ok (.invokestatic 47, 3) := by decide +kernel
theorem d_Sc_partLookedAt_4 : decode b_Sc_partLookedAt 4 = .ok (.istore_n 2, 1) := by decide +kernel
theorem d_Sc_partLookedAt_5 : decode b_Sc_partLookedAt 5 = .ok (.iload_n 2, 1) := by decide +kernel
theorem d_Sc_partLookedAt_6 : decode b_Sc_partLookedAt 6 = .ok (.aload_n 0, 1) := by decide +kernel
theorem d_Sc_partLookedAt_7 : decode b_Sc_partLookedAt 7 = .ok (.getfield 36, 3) := by decide +kernel
theorem d_Sc_partLookedAt_10 : decode b_Sc_partLookedAt 10 = .ok (.if_icmp .ge 5, 3) := by decide +kernel
theorem d_Sc_partLookedAt_13 : decode b_Sc_partLookedAt 13 = .ok (.iconst (-1), 1) := by decide +kernel
theorem d_Sc_partLookedAt_14 : decode b_Sc_partLookedAt 14 = .ok (.ireturn, 1) := by decide +kernel
theorem d_Sc_partLookedAt_15 : decode b_Sc_partLookedAt 15 = .ok (.iload_n 2, 1) := by decide +kernel
theorem d_Sc_partLookedAt_16 : decode b_Sc_partLookedAt 16 = .ok (.aload_n 0, 1) := by decide +kernel
theorem d_Sc_partLookedAt_17 : decode b_Sc_partLookedAt 17 = .ok (.getfield 36, 3) := by decide +kernel
theorem d_Sc_partLookedAt_20 : decode b_Sc_partLookedAt 20 = .ok (.if_icmp .ne 10, 3) := by decide +kernel
theorem d_Sc_partLookedAt_23 : decode b_Sc_partLookedAt 23 = .ok (.iload_n 1, 1) := by decide +kernel
theorem d_Sc_partLookedAt_24 : decode b_Sc_partLookedAt 24 = .ok (.invokestatic 50, 3) := by decide +kernel
theorem d_Sc_partLookedAt_27 : decode b_Sc_partLookedAt 27 = .ok (.goto 9, 3) := by decide +kernel
theorem d_Sc_partLookedAt_30 : decode b_Sc_partLookedAt 30 = .ok (.aload_n 0, 1) := by decide +kernel
theorem d_Sc_partLookedAt_31 : decode b_Sc_partLookedAt 31 = .ok (.getfield 33, 3) := by decide +kernel
theorem d_Sc_partLookedAt_34 : decode b_Sc_partLookedAt 34 = .ok (.iload_n 2, 1) := by decide +kernel
theorem d_Sc_partLookedAt_35 : decode b_Sc_partLookedAt 35 = .ok (.iaload, 1) := by decide +kernel
theorem d_Sc_partLookedAt_36 : decode b_Sc_partLookedAt 36 = .ok (.ireturn, 1) := by decide +kernel
theorem d_La_takesFrom_0 : decode b_La_takesFrom 0 = .ok (.aload_n 0, 1) := by decide +kernel
theorem d_La_takesFrom_1 : decode b_La_takesFrom 1 = .ok (.getfield 12, 3) := by decide +kernel
theorem d_La_takesFrom_4 : decode b_La_takesFrom 4 = .ok (.aload_n 0, 1) := by decide +kernel
theorem d_La_takesFrom_5 : decode b_La_takesFrom 5 = .ok (.getfield 40, 3) := by decide +kernel
theorem d_La_takesFrom_8 : decode b_La_takesFrom 8 = .ok (.getfield 236, 3) := by decide +kernel
theorem d_La_takesFrom_11 : decode b_La_takesFrom 11 = .ok (.iload_n 2, 1) := by decide +kernel
theorem d_La_takesFrom_12 : decode b_La_takesFrom 12 = .ok (.iaload, 1) := by decide +kernel
theorem d_La_takesFrom_13 : decode b_La_takesFrom 13 = .ok (.invokevirtual 249, 3) := by decide +kernel
theorem d_La_takesFrom_16 : decode b_La_takesFrom 16 = .ok (.istore_n 3, 1) := by decide +kernel
theorem d_La_takesFrom_17 : decode b_La_takesFrom 17 = .ok (.iload_n 3, 1) := by decide +kernel
theorem d_La_takesFrom_18 : decode b_La_takesFrom 18 = .ok (.ifCond .eq 21, 3) := by decide +kernel
theorem d_La_takesFrom_21 : decode b_La_takesFrom 21 = .ok (.iload_n 3, 1) := by decide +kernel
theorem d_La_takesFrom_22 : decode b_La_takesFrom 22 = .ok (.iconst 1, 1) := by decide +kernel
theorem d_La_takesFrom_23 : decode b_La_takesFrom 23 = .ok (.if_icmp .ne 20, 3) := by decide +kernel
theorem d_La_takesFrom_26 : decode b_La_takesFrom 26 = .ok (.aload_n 0, 1) := by decide +kernel
theorem d_La_takesFrom_27 : decode b_La_takesFrom 27 = .ok (.getfield 28, 3) := by decide +kernel
theorem d_La_takesFrom_30 : decode b_La_takesFrom 30 = .ok (.getfield 252, 3) := by decide +kernel
theorem d_La_takesFrom_33 : decode b_La_takesFrom 33 = .ok (.iload_n 1, 1) := by decide +kernel
theorem d_La_takesFrom_34 : decode b_La_takesFrom 34 = .ok (.iaload, 1) := by decide +kernel
theorem d_La_takesFrom_35 : decode b_La_takesFrom 35 = .ok (.iconst (-1), 1) := by decide +kernel
theorem d_La_takesFrom_36 : decode b_La_takesFrom 36 = .ok (.if_icmp .ne 7, 3) := by decide +kernel
theorem d_La_takesFrom_39 : decode b_La_takesFrom 39 = .ok (.iconst 1, 1) := by decide +kernel
theorem d_La_takesFrom_40 : decode b_La_takesFrom 40 = .ok (.goto 4, 3) := by decide +kernel
theorem d_La_takesFrom_43 : decode b_La_takesFrom 43 = .ok (.iconst 0, 1) := by decide +kernel
theorem d_La_takesFrom_44 : decode b_La_takesFrom 44 = .ok (.ireturn, 1) := by decide +kernel
theorem d_Sc_lookAt_0 : decode b_Sc_lookAt 0 = .ok (.iload_n 1, 1) := by decide +kernel
theorem d_Sc_lookAt_1 : decode b_Sc_lookAt 1 = .ok (.aload_n 0, 1) := by decide +kernel
theorem d_Sc_lookAt_2 : decode b_Sc_lookAt 2 = .ok (.getfield 36, 3) := by decide +kernel
theorem d_Sc_lookAt_5 : decode b_Sc_lookAt 5 = .ok (.if_icmp .ne 4, 3) := by decide +kernel
theorem d_Sc_lookAt_8 : decode b_Sc_lookAt 8 = .ok (.return_, 1) := by decide +kernel
theorem d_Sc_lookAt_9 : decode b_Sc_lookAt 9 = .ok (.aload_n 0, 1) := by decide +kernel
theorem d_Sc_lookAt_10 : decode b_Sc_lookAt 10 = .ok (.iload_n 1, 1) := by decide +kernel
theorem d_Sc_lookAt_11 : decode b_Sc_lookAt 11 = .ok (.putfield 36, 3) := by decide +kernel
theorem d_Sc_lookAt_14 : decode b_Sc_lookAt 14 = .ok (.iload_n 1, 1) := by decide +kernel
theorem d_Sc_lookAt_15 : decode b_Sc_lookAt 15 = .ok (.iconst 1, 1) := by decide +kernel
theorem d_Sc_lookAt_16 : decode b_Sc_lookAt 16 = .ok (.iadd, 1) := by decide +kernel
theorem d_Sc_lookAt_17 : decode b_Sc_lookAt 17 = .ok (.istore_n 2, 1) := by decide +kernel
theorem d_Sc_lookAt_18 : decode b_Sc_lookAt 18 = .ok (.iload_n 2, 1) := by decide +kernel
theorem d_Sc_lookAt_19 : decode b_Sc_lookAt 19 = .ok (.aload_n 0, 1) := by decide +kernel
theorem d_Sc_lookAt_20 : decode b_Sc_lookAt 20 = .ok (.getfield 40, 3) := by decide +kernel
theorem d_Sc_lookAt_23 : decode b_Sc_lookAt 23 = .ok (.if_icmp .ge 25, 3) := by decide +kernel
theorem d_Sc_lookAt_26 : decode b_Sc_lookAt 26 = .ok (.aload_n 0, 1) := by decide +kernel
theorem d_Sc_lookAt_27 : decode b_Sc_lookAt 27 = .ok (.getfield 33, 3) := by decide +kernel
theorem d_Sc_lookAt_30 : decode b_Sc_lookAt 30 = .ok (.iload_n 2, 1) := by decide +kernel
theorem d_Sc_lookAt_31 : decode b_Sc_lookAt 31 = .ok (.aload_n 0, 1) := by decide +kernel
theorem d_Sc_lookAt_32 : decode b_Sc_lookAt 32 = .ok (.aload_n 0, 1) := by decide +kernel
theorem d_Sc_lookAt_33 : decode b_Sc_lookAt 33 = .ok (.getfield 11, 3) := by decide +kernel
theorem d_Sc_lookAt_36 : decode b_Sc_lookAt 36 = .ok (.iload_n 2, 1) := by decide +kernel
theorem d_Sc_lookAt_37 : decode b_Sc_lookAt 37 = .ok (.iaload, 1) := by decide +kernel
theorem d_Sc_lookAt_38 : decode b_Sc_lookAt 38 = .ok (.invokevirtual 53, 3) := by decide +kernel
theorem d_Sc_lookAt_41 : decode b_Sc_lookAt 41 = .ok (.iastore, 1) := by decide +kernel
theorem d_Sc_lookAt_42 : decode b_Sc_lookAt 42 = .ok (.iinc 2 1, 3) := by decide +kernel
theorem d_Sc_lookAt_45 : decode b_Sc_lookAt 45 = .ok (.goto (-27), 3) := by decide +kernel
theorem d_Sc_lookAt_48 : decode b_Sc_lookAt 48 = .ok (.return_, 1) := by decide +kernel
theorem d_La_addRows_0 : decode b_La_addRows 0 = .ok (.aload_n 0, 1) := by decide +kernel
theorem d_La_addRows_1 : decode b_La_addRows 1 = .ok (.getfield 12, 3) := by decide +kernel
theorem d_La_addRows_4 : decode b_La_addRows 4 = .ok (.aload_n 0, 1) := by decide +kernel
theorem d_La_addRows_5 : decode b_La_addRows 5 = .ok (.getfield 28, 3) := by decide +kernel
theorem d_La_addRows_8 : decode b_La_addRows 8 = .ok (.getfield 237, 3) := by decide +kernel
theorem d_La_addRows_11 : decode b_La_addRows 11 = .ok (.iload_n 1, 1) := by decide +kernel
theorem d_La_addRows_12 : decode b_La_addRows 12 = .ok (.iaload, 1) := by decide +kernel
theorem d_La_addRows_13 : decode b_La_addRows 13 = .ok (.invokevirtual 239, 3) := by decide +kernel
theorem d_La_addRows_16 : decode b_La_addRows 16 = .ok (.iconst (-1), 1) := by decide +kernel
theorem d_La_addRows_17 : decode b_La_addRows 17 = .ok (.istore_n 2, 1) := by decide +kernel
theorem d_La_addRows_18 : decode b_La_addRows 18 = .ok (.iconst 0, 1) := by decide +kernel
theorem d_La_addRows_19 : decode b_La_addRows 19 = .ok (.istore_n 3, 1) := by decide +kernel
theorem d_La_addRows_20 : decode b_La_addRows 20 = .ok (.iload_n 3, 1) := by decide +kernel
theorem d_La_addRows_21 : decode b_La_addRows 21 = .ok (.aload_n 0, 1) := by decide +kernel
theorem d_La_addRows_22 : decode b_La_addRows 22 = .ok (.getfield 40, 3) := by decide +kernel
theorem d_La_addRows_25 : decode b_La_addRows 25 = .ok (.getfield 74, 3) := by decide +kernel
theorem d_La_addRows_28 : decode b_La_addRows 28 = .ok (.if_icmp .gt 70, 3) := by decide +kernel
theorem d_La_addRows_31 : decode b_La_addRows 31 = .ok (.iload_n 3, 1) := by decide +kernel
theorem d_La_addRows_32 : decode b_La_addRows 32 = .ok (.aload_n 0, 1) := by decide +kernel
theorem d_La_addRows_33 : decode b_La_addRows 33 = .ok (.getfield 40, 3) := by decide +kernel
theorem d_La_addRows_36 : decode b_La_addRows 36 = .ok (.getfield 74, 3) := by decide +kernel
theorem d_La_addRows_39 : decode b_La_addRows 39 = .ok (.if_icmp .ge 16, 3) := by decide +kernel
theorem d_La_addRows_42 : decode b_La_addRows 42 = .ok (.aload_n 0, 1) := by decide +kernel
theorem d_La_addRows_43 : decode b_La_addRows 43 = .ok (.iload_n 1, 1) := by decide +kernel
theorem d_La_addRows_44 : decode b_La_addRows 44 = .ok (.iload_n 3, 1) := by decide +kernel
theorem d_La_addRows_45 : decode b_La_addRows 45 = .ok (.invokevirtual 242, 3) := by decide +kernel
theorem d_La_addRows_48 : decode b_La_addRows 48 = .ok (.ifCond .eq 7, 3) := by decide +kernel
theorem d_La_addRows_51 : decode b_La_addRows 51 = .ok (.iconst 1, 1) := by decide +kernel
theorem d_La_addRows_52 : decode b_La_addRows 52 = .ok (.goto 4, 3) := by decide +kernel
theorem d_La_addRows_55 : decode b_La_addRows 55 = .ok (.iconst 0, 1) := by decide +kernel
theorem d_La_addRows_56 : decode b_La_addRows 56 = .ok (.istore 4, 2) := by decide +kernel
theorem d_La_addRows_58 : decode b_La_addRows 58 = .ok (.iload 4, 2) := by decide +kernel
theorem d_La_addRows_60 : decode b_La_addRows 60 = .ok (.ifCond .eq 13, 3) := by decide +kernel
theorem d_La_addRows_63 : decode b_La_addRows 63 = .ok (.iload_n 2, 1) := by decide +kernel
theorem d_La_addRows_64 : decode b_La_addRows 64 = .ok (.iconst (-1), 1) := by decide +kernel
theorem d_La_addRows_65 : decode b_La_addRows 65 = .ok (.if_icmp .ne 8, 3) := by decide +kernel
theorem d_La_addRows_68 : decode b_La_addRows 68 = .ok (.iload_n 3, 1) := by decide +kernel
theorem d_La_addRows_69 : decode b_La_addRows 69 = .ok (.istore_n 2, 1) := by decide +kernel
theorem d_La_addRows_70 : decode b_La_addRows 70 = .ok (.goto 22, 3) := by decide +kernel
theorem d_La_addRows_73 : decode b_La_addRows 73 = .ok (.iload 4, 2) := by decide +kernel
theorem d_La_addRows_75 : decode b_La_addRows 75 = .ok (.ifCond .ne 17, 3) := by decide +kernel
theorem d_La_addRows_78 : decode b_La_addRows 78 = .ok (.iload_n 2, 1) := by decide +kernel
theorem d_La_addRows_79 : decode b_La_addRows 79 = .ok (.iconst (-1), 1) := by decide +kernel
theorem d_La_addRows_80 : decode b_La_addRows 80 = .ok (.if_icmp .eq 12, 3) := by decide +kernel
theorem d_La_addRows_83 : decode b_La_addRows 83 = .ok (.aload_n 0, 1) := by decide +kernel
theorem d_La_addRows_84 : decode b_La_addRows 84 = .ok (.iload_n 1, 1) := by decide +kernel
theorem d_La_addRows_85 : decode b_La_addRows 85 = .ok (.iload_n 2, 1) := by decide +kernel
theorem d_La_addRows_86 : decode b_La_addRows 86 = .ok (.iload_n 3, 1) := by decide +kernel
theorem d_La_addRows_87 : decode b_La_addRows 87 = .ok (.invokevirtual 246, 3) := by decide +kernel
theorem d_La_addRows_90 : decode b_La_addRows 90 = .ok (.iconst (-1), 1) := by decide +kernel
theorem d_La_addRows_91 : decode b_La_addRows 91 = .ok (.istore_n 2, 1) := by decide +kernel
theorem d_La_addRows_92 : decode b_La_addRows 92 = .ok (.iinc 3 1, 3) := by decide +kernel
theorem d_La_addRows_95 : decode b_La_addRows 95 = .ok (.goto (-75), 3) := by decide +kernel
theorem d_La_addRows_98 : decode b_La_addRows 98 = .ok (.return_, 1) := by decide +kernel
theorem d_Sc_within_0 : decode b_Sc_within 0 = .ok (.iload_n 0, 1) := by decide +kernel
theorem d_Sc_within_1 : decode b_Sc_within 1 = .ok (.iconst 2, 1) := by decide +kernel
theorem d_Sc_within_2 : decode b_Sc_within 2 = .ok (.ishl, 1) := by decide +kernel
theorem d_Sc_within_3 : decode b_Sc_within 3 = .ok (.iload_n 1, 1) := by decide +kernel
theorem d_Sc_within_4 : decode b_Sc_within 4 = .ok (.ior, 1) := by decide +kernel
theorem d_Sc_within_5 : decode b_Sc_within 5 = .ok (.ireturn, 1) := by decide +kernel
theorem d_Wo_push_0 : decode b_Wo_push 0 = .ok (.aload_n 0, 1) := by decide +kernel
theorem d_Wo_push_1 : decode b_Wo_push 1 = .ok (.getfield 24, 3) := by decide +kernel
theorem d_Wo_push_4 : decode b_Wo_push 4 = .ok (.sipush 2001, 3) := by decide +kernel
theorem d_Wo_push_7 : decode b_Wo_push 7 = .ok (.if_icmp .ge 53, 3) := by decide +kernel
theorem d_Wo_push_10 : decode b_Wo_push 10 = .ok (.aload_n 0, 1) := by decide +kernel
theorem d_Wo_push_11 : decode b_Wo_push 11 = .ok (.getfield 11, 3) := by decide +kernel
theorem d_Wo_push_14 : decode b_Wo_push 14 = .ok (.aload_n 0, 1) := by decide +kernel
theorem d_Wo_push_15 : decode b_Wo_push 15 = .ok (.getfield 24, 3) := by decide +kernel
theorem d_Wo_push_18 : decode b_Wo_push 18 = .ok (.iload_n 1, 1) := by decide +kernel
theorem d_Wo_push_19 : decode b_Wo_push 19 = .ok (.iastore, 1) := by decide +kernel
theorem d_Wo_push_20 : decode b_Wo_push 20 = .ok (.aload_n 0, 1) := by decide +kernel
theorem d_Wo_push_21 : decode b_Wo_push 21 = .ok (.getfield 15, 3) := by decide +kernel
theorem d_Wo_push_24 : decode b_Wo_push 24 = .ok (.aload_n 0, 1) := by decide +kernel
theorem d_Wo_push_25 : decode b_Wo_push 25 = .ok (.getfield 24, 3) := by decide +kernel
theorem d_Wo_push_28 : decode b_Wo_push 28 = .ok (.iload_n 2, 1) := by decide +kernel
theorem d_Wo_push_29 : decode b_Wo_push 29 = .ok (.iastore, 1) := by decide +kernel
theorem d_Wo_push_30 : decode b_Wo_push 30 = .ok (.aload_n 0, 1) := by decide +kernel
theorem d_Wo_push_31 : decode b_Wo_push 31 = .ok (.getfield 18, 3) := by decide +kernel
theorem d_Wo_push_34 : decode b_Wo_push 34 = .ok (.aload_n 0, 1) := by decide +kernel
theorem d_Wo_push_35 : decode b_Wo_push 35 = .ok (.getfield 24, 3) := by decide +kernel
theorem d_Wo_push_38 : decode b_Wo_push 38 = .ok (.iload_n 3, 1) := by decide +kernel
theorem d_Wo_push_39 : decode b_Wo_push 39 = .ok (.iastore, 1) := by decide +kernel
theorem d_Wo_push_40 : decode b_Wo_push 40 = .ok (.aload_n 0, 1) := by decide +kernel
theorem d_Wo_push_41 : decode b_Wo_push 41 = .ok (.getfield 21, 3) := by decide +kernel
theorem d_Wo_push_44 : decode b_Wo_push 44 = .ok (.aload_n 0, 1) := by decide +kernel
theorem d_Wo_push_45 : decode b_Wo_push 45 = .ok (.getfield 24, 3) := by decide +kernel
theorem d_Wo_push_48 : decode b_Wo_push 48 = .ok (.iconst (-1), 1) := by decide +kernel
theorem d_Wo_push_49 : decode b_Wo_push 49 = .ok (.iastore, 1) := by decide +kernel
theorem d_Wo_push_50 : decode b_Wo_push 50 = .ok (.aload_n 0, 1) := by decide +kernel
theorem d_Wo_push_51 : decode b_Wo_push 51 = .ok (.dup, 1) := by decide +kernel
theorem d_Wo_push_52 : decode b_Wo_push 52 = .ok (.getfield 24, 3) := by decide +kernel
theorem d_Wo_push_55 : decode b_Wo_push 55 = .ok (.iconst 1, 1) := by decide +kernel
theorem d_Wo_push_56 : decode b_Wo_push 56 = .ok (.iadd, 1) := by decide +kernel
theorem d_Wo_push_57 : decode b_Wo_push 57 = .ok (.putfield 24, 3) := by decide +kernel
theorem d_Wo_push_60 : decode b_Wo_push 60 = .ok (.return_, 1) := by decide +kernel
theorem d_La_begin_0 : decode b_La_begin 0 = .ok (.aload_n 0, 1) := by decide +kernel
theorem d_La_begin_1 : decode b_La_begin 1 = .ok (.getfield 40, 3) := by decide +kernel
theorem d_La_begin_4 : decode b_La_begin 4 = .ok (.getfield 227, 3) := by decide +kernel
theorem d_La_begin_7 : decode b_La_begin 7 = .ok (.sipush 2000, 3) := by decide +kernel
theorem d_La_begin_10 : decode b_La_begin 10 = .ok (.if_icmp .lt 10, 3) := by decide +kernel
theorem d_La_begin_13 : decode b_La_begin 13 = .ok (.aload_n 0, 1) := by decide +kernel
theorem d_La_begin_14 : decode b_La_begin 14 = .ok (.bipush (-2), 2) := by decide +kernel
theorem d_La_begin_16 : decode b_La_begin 16 = .ok (.putfield 61, 3) := by decide +kernel
theorem d_La_begin_19 : decode b_La_begin 19 = .ok (.return_, 1) := by decide +kernel
theorem d_La_begin_20 : decode b_La_begin 20 = .ok (.aload_n 0, 1) := by decide +kernel
theorem d_La_begin_21 : decode b_La_begin 21 = .ok (.getfield 40, 3) := by decide +kernel
theorem d_La_begin_24 : decode b_La_begin 24 = .ok (.dup, 1) := by decide +kernel
theorem d_La_begin_25 : decode b_La_begin 25 = .ok (.getfield 227, 3) := by decide +kernel
theorem d_La_begin_28 : decode b_La_begin 28 = .ok (.iconst 1, 1) := by decide +kernel
theorem d_La_begin_29 : decode b_La_begin 29 = .ok (.iadd, 1) := by decide +kernel
theorem d_La_begin_30 : decode b_La_begin 30 = .ok (.putfield 227, 3) := by decide +kernel
theorem d_La_begin_33 : decode b_La_begin 33 = .ok (.aload_n 0, 1) := by decide +kernel
theorem d_La_begin_34 : decode b_La_begin 34 = .ok (.getfield 21, 3) := by decide +kernel
theorem d_La_begin_37 : decode b_La_begin 37 = .ok (.iload_n 1, 1) := by decide +kernel
theorem d_La_begin_38 : decode b_La_begin 38 = .ok (.iload_n 2, 1) := by decide +kernel
theorem d_La_begin_39 : decode b_La_begin 39 = .ok (.iconst 0, 1) := by decide +kernel
theorem d_La_begin_40 : decode b_La_begin 40 = .ok (.invokevirtual 106, 3) := by decide +kernel
theorem d_La_begin_43 : decode b_La_begin 43 = .ok (.return_, 1) := by decide +kernel
theorem d_La_emit_0 : decode b_La_emit 0 = .ok (.aload_n 0, 1) := by decide +kernel
theorem d_La_emit_1 : decode b_La_emit 1 = .ok (.getfield 61, 3) := by decide +kernel
theorem d_La_emit_4 : decode b_La_emit 4 = .ok (.ifCond .eq 4, 3) := by decide +kernel
theorem d_La_emit_7 : decode b_La_emit 7 = .ok (.return_, 1) := by decide +kernel
theorem d_La_emit_8 : decode b_La_emit 8 = .ok (.aload_n 0, 1) := by decide +kernel
theorem d_La_emit_9 : decode b_La_emit 9 = .ok (.getfield 40, 3) := by decide +kernel
theorem d_La_emit_12 : decode b_La_emit 12 = .ok (.getfield 74, 3) := by decide +kernel
theorem d_La_emit_15 : decode b_La_emit 15 = .ok (.sipush 1000, 3) := by decide +kernel
theorem d_La_emit_18 : decode b_La_emit 18 = .ok (.if_icmp .lt 10, 3) := by decide +kernel
theorem d_La_emit_21 : decode b_La_emit 21 = .ok (.aload_n 0, 1) := by decide +kernel
theorem d_La_emit_22 : decode b_La_emit 22 = .ok (.bipush (-2), 2) := by decide +kernel
theorem d_La_emit_24 : decode b_La_emit 24 = .ok (.putfield 61, 3) := by decide +kernel
theorem d_La_emit_27 : decode b_La_emit 27 = .ok (.return_, 1) := by decide +kernel
theorem d_La_emit_28 : decode b_La_emit 28 = .ok (.aload_n 0, 1) := by decide +kernel
theorem d_La_emit_29 : decode b_La_emit 29 = .ok (.getfield 40, 3) := by decide +kernel
theorem d_La_emit_32 : decode b_La_emit 32 = .ok (.getfield 230, 3) := by decide +kernel
theorem d_La_emit_35 : decode b_La_emit 35 = .ok (.aload_n 0, 1) := by decide +kernel
theorem d_La_emit_36 : decode b_La_emit 36 = .ok (.getfield 40, 3) := by decide +kernel
theorem d_La_emit_39 : decode b_La_emit 39 = .ok (.getfield 74, 3) := by decide +kernel
theorem d_La_emit_42 : decode b_La_emit 42 = .ok (.iload_n 1, 1) := by decide +kernel
theorem d_La_emit_43 : decode b_La_emit 43 = .ok (.iastore, 1) := by decide +kernel
theorem d_La_emit_44 : decode b_La_emit 44 = .ok (.aload_n 0, 1) := by decide +kernel
theorem d_La_emit_45 : decode b_La_emit 45 = .ok (.getfield 40, 3) := by decide +kernel
theorem d_La_emit_48 : decode b_La_emit 48 = .ok (.getfield 233, 3) := by decide +kernel
theorem d_La_emit_51 : decode b_La_emit 51 = .ok (.aload_n 0, 1) := by decide +kernel
theorem d_La_emit_52 : decode b_La_emit 52 = .ok (.getfield 40, 3) := by decide +kernel
theorem d_La_emit_55 : decode b_La_emit 55 = .ok (.getfield 74, 3) := by decide +kernel
theorem d_La_emit_58 : decode b_La_emit 58 = .ok (.iload_n 2, 1) := by decide +kernel
theorem d_La_emit_59 : decode b_La_emit 59 = .ok (.iastore, 1) := by decide +kernel
theorem d_La_emit_60 : decode b_La_emit 60 = .ok (.aload_n 0, 1) := by decide +kernel
theorem d_La_emit_61 : decode b_La_emit 61 = .ok (.getfield 40, 3) := by decide +kernel
theorem d_La_emit_64 : decode b_La_emit 64 = .ok (.getfield 236, 3) := by decide +kernel
theorem d_La_emit_67 : decode b_La_emit 67 = .ok (.aload_n 0, 1) := by decide +kernel
theorem d_La_emit_68 : decode b_La_emit 68 = .ok (.getfield 40, 3) := by decide +kernel
theorem d_La_emit_71 : decode b_La_emit 71 = .ok (.getfield 74, 3) := by decide +kernel
theorem d_La_emit_74 : decode b_La_emit 74 = .ok (.iload_n 3, 1) := by decide +kernel
theorem d_La_emit_75 : decode b_La_emit 75 = .ok (.iastore, 1) := by decide +kernel
theorem d_La_emit_76 : decode b_La_emit 76 = .ok (.aload_n 0, 1) := by decide +kernel
theorem d_La_emit_77 : decode b_La_emit 77 = .ok (.getfield 40, 3) := by decide +kernel
theorem d_La_emit_80 : decode b_La_emit 80 = .ok (.dup, 1) := by decide +kernel
theorem d_La_emit_81 : decode b_La_emit 81 = .ok (.getfield 74, 3) := by decide +kernel
theorem d_La_emit_84 : decode b_La_emit 84 = .ok (.iconst 1, 1) := by decide +kernel
theorem d_La_emit_85 : decode b_La_emit 85 = .ok (.iadd, 1) := by decide +kernel
theorem d_La_emit_86 : decode b_La_emit 86 = .ok (.putfield 74, 3) := by decide +kernel
theorem d_La_emit_89 : decode b_La_emit 89 = .ok (.return_, 1) := by decide +kernel
theorem d_La_setGoal_0 : decode b_La_setGoal 0 = .ok (.iload_n 1, 1) := by decide +kernel
theorem d_La_setGoal_1 : decode b_La_setGoal 1 = .ok (.ifCond .lt 24, 3) := by decide +kernel
theorem d_La_setGoal_4 : decode b_La_setGoal 4 = .ok (.iload_n 1, 1) := by decide +kernel
theorem d_La_setGoal_5 : decode b_La_setGoal 5 = .ok (.aload_n 0, 1) := by decide +kernel
theorem d_La_setGoal_6 : decode b_La_setGoal 6 = .ok (.getfield 40, 3) := by decide +kernel
theorem d_La_setGoal_9 : decode b_La_setGoal 9 = .ok (.getfield 74, 3) := by decide +kernel
theorem d_La_setGoal_12 : decode b_La_setGoal 12 = .ok (.if_icmp .ge 13, 3) := by decide +kernel
theorem d_La_setGoal_15 : decode b_La_setGoal 15 = .ok (.aload_n 0, 1) := by decide +kernel
theorem d_La_setGoal_16 : decode b_La_setGoal 16 = .ok (.getfield 40, 3) := by decide +kernel
theorem d_La_setGoal_19 : decode b_La_setGoal 19 = .ok (.getfield 233, 3) := by decide +kernel
theorem d_La_setGoal_22 : decode b_La_setGoal 22 = .ok (.iload_n 1, 1) := by decide +kernel
theorem d_La_setGoal_23 : decode b_La_setGoal 23 = .ok (.iload_n 2, 1) := by decide +kernel
theorem d_La_setGoal_24 : decode b_La_setGoal 24 = .ok (.iastore, 1) := by decide +kernel
theorem d_La_setGoal_25 : decode b_La_setGoal 25 = .ok (.return_, 1) := by decide +kernel
theorem d_Wo_pop_0 : decode b_Wo_pop 0 = .ok (.aload_n 0, 1) := by decide +kernel
theorem d_Wo_pop_1 : decode b_Wo_pop 1 = .ok (.getfield 24, 3) := by decide +kernel
theorem d_Wo_pop_4 : decode b_Wo_pop 4 = .ok (.ifCond .le 13, 3) := by decide +kernel
theorem d_Wo_pop_7 : decode b_Wo_pop 7 = .ok (.aload_n 0, 1) := by decide +kernel
theorem d_Wo_pop_8 : decode b_Wo_pop 8 = .ok (.dup, 1) := by decide +kernel
theorem d_Wo_pop_9 : decode b_Wo_pop 9 = .ok (.getfield 24, 3) := by decide +kernel
theorem d_Wo_pop_12 : decode b_Wo_pop 12 = .ok (.iconst 1, 1) := by decide +kernel
theorem d_Wo_pop_13 : decode b_Wo_pop 13 = .ok (.isub, 1) := by decide +kernel
theorem d_Wo_pop_14 : decode b_Wo_pop 14 = .ok (.putfield 24, 3) := by decide +kernel
theorem d_Wo_pop_17 : decode b_Wo_pop 17 = .ok (.return_, 1) := by decide +kernel
theorem d_La_turnIf_0 : decode b_La_turnIf 0 = .ok (.aload_n 0, 1) := by decide +kernel
theorem d_La_turnIf_1 : decode b_La_turnIf 1 = .ok (.getfield 21, 3) := by decide +kernel
theorem d_La_turnIf_4 : decode b_La_turnIf 4 = .ok (.getfield 154, 3) := by decide +kernel
theorem d_La_turnIf_7 : decode b_La_turnIf 7 = .ok (.iload_n 1, 1) := by decide +kernel
theorem d_La_turnIf_8 : decode b_La_turnIf 8 = .ok (.iaload, 1) := by decide +kernel
theorem d_La_turnIf_9 : decode b_La_turnIf 9 = .ok (.istore 4, 2) := by decide +kernel
theorem d_La_turnIf_11 : decode b_La_turnIf 11 = .ok (.aload_n 0, 1) := by decide +kernel
theorem d_La_turnIf_12 : decode b_La_turnIf 12 = .ok (.getfield 40, 3) := by decide +kernel
theorem d_La_turnIf_15 : decode b_La_turnIf 15 = .ok (.getfield 74, 3) := by decide +kernel
theorem d_La_turnIf_18 : decode b_La_turnIf 18 = .ok (.istore 5, 2) := by decide +kernel
theorem d_La_turnIf_20 : decode b_La_turnIf 20 = .ok (.iload_n 3, 1) := by decide +kernel
theorem d_La_turnIf_21 : decode b_La_turnIf 21 = .ok (.tableswitch 141 0 2 #[27, 45, 83], 27) := by decide +kernel
theorem d_La_turnIf_48 : decode b_La_turnIf 48 = .ok (.aload_n 0, 1) := by decide +kernel
theorem d_La_turnIf_49 : decode b_La_turnIf 49 = .ok (.aload_n 0, 1) := by decide +kernel
theorem d_La_turnIf_50 : decode b_La_turnIf 50 = .ok (.getfield 36, 3) := by decide +kernel
theorem d_La_turnIf_53 : decode b_La_turnIf 53 = .ok (.iload_n 2, 1) := by decide +kernel
theorem d_La_turnIf_54 : decode b_La_turnIf 54 = .ok (.iconst 0, 1) := by decide +kernel
theorem d_La_turnIf_55 : decode b_La_turnIf 55 = .ok (.invokevirtual 141, 3) := by decide +kernel
theorem d_La_turnIf_58 : decode b_La_turnIf 58 = .ok (.iload 4, 2) := by decide +kernel
theorem d_La_turnIf_60 : decode b_La_turnIf 60 = .ok (.invokevirtual 86, 3) := by decide +kernel
theorem d_La_turnIf_63 : decode b_La_turnIf 63 = .ok (.goto 121, 3) := by decide +kernel
theorem d_La_turnIf_66 : decode b_La_turnIf 66 = .ok (.aload_n 0, 1) := by decide +kernel
theorem d_La_turnIf_67 : decode b_La_turnIf 67 = .ok (.getfield 21, 3) := by decide +kernel
theorem d_La_turnIf_70 : decode b_La_turnIf 70 = .ok (.getfield 157, 3) := by decide +kernel
theorem d_La_turnIf_73 : decode b_La_turnIf 73 = .ok (.iload_n 1, 1) := by decide +kernel
theorem d_La_turnIf_74 : decode b_La_turnIf 74 = .ok (.iload 5, 2) := by decide +kernel
theorem d_La_turnIf_76 : decode b_La_turnIf 76 = .ok (.iastore, 1) := by decide +kernel
theorem d_La_turnIf_77 : decode b_La_turnIf 77 = .ok (.aload_n 0, 1) := by decide +kernel
theorem d_La_turnIf_78 : decode b_La_turnIf 78 = .ok (.bipush 10, 2) := by decide +kernel
theorem d_La_turnIf_80 : decode b_La_turnIf 80 = .ok (.iconst 0, 1) := by decide +kernel
theorem d_La_turnIf_81 : decode b_La_turnIf 81 = .ok (.iload 4, 2) := by decide +kernel
theorem d_La_turnIf_83 : decode b_La_turnIf 83 = .ok (.invokevirtual 95, 3) := by decide +kernel
theorem d_La_turnIf_86 : decode b_La_turnIf 86 = .ok (.aload_n 0, 1) := by decide +kernel
theorem d_La_turnIf_87 : decode b_La_turnIf 87 = .ok (.aload_n 0, 1) := by decide +kernel
theorem d_La_turnIf_88 : decode b_La_turnIf 88 = .ok (.getfield 36, 3) := by decide +kernel
theorem d_La_turnIf_91 : decode b_La_turnIf 91 = .ok (.iload_n 2, 1) := by decide +kernel
theorem d_La_turnIf_92 : decode b_La_turnIf 92 = .ok (.iconst 1, 1) := by decide +kernel
theorem d_La_turnIf_93 : decode b_La_turnIf 93 = .ok (.invokevirtual 141, 3) := by decide +kernel
theorem d_La_turnIf_96 : decode b_La_turnIf 96 = .ok (.iload 4, 2) := by decide +kernel
theorem d_La_turnIf_98 : decode b_La_turnIf 98 = .ok (.invokevirtual 86, 3) := by decide +kernel
theorem d_La_turnIf_101 : decode b_La_turnIf 101 = .ok (.goto 83, 3) := by decide +kernel
theorem d_La_turnIf_104 : decode b_La_turnIf 104 = .ok (.aload_n 0, 1) := by decide +kernel
theorem d_La_turnIf_105 : decode b_La_turnIf 105 = .ok (.bipush 11, 2) := by decide +kernel
theorem d_La_turnIf_107 : decode b_La_turnIf 107 = .ok (.iconst 0, 1) := by decide +kernel
theorem d_La_turnIf_108 : decode b_La_turnIf 108 = .ok (.iload 4, 2) := by decide +kernel
theorem d_La_turnIf_110 : decode b_La_turnIf 110 = .ok (.invokevirtual 95, 3) := by decide +kernel
theorem d_La_turnIf_113 : decode b_La_turnIf 113 = .ok (.aload_n 0, 1) := by decide +kernel
theorem d_La_turnIf_114 : decode b_La_turnIf 114 = .ok (.aload_n 0, 1) := by decide +kernel
theorem d_La_turnIf_115 : decode b_La_turnIf 115 = .ok (.getfield 21, 3) := by decide +kernel
theorem d_La_turnIf_118 : decode b_La_turnIf 118 = .ok (.getfield 157, 3) := by decide +kernel
theorem d_La_turnIf_121 : decode b_La_turnIf 121 = .ok (.iload_n 1, 1) := by decide +kernel
theorem d_La_turnIf_122 : decode b_La_turnIf 122 = .ok (.iaload, 1) := by decide +kernel
theorem d_La_turnIf_123 : decode b_La_turnIf 123 = .ok (.aload_n 0, 1) := by decide +kernel
theorem d_La_turnIf_124 : decode b_La_turnIf 124 = .ok (.getfield 40, 3) := by decide +kernel
theorem d_La_turnIf_127 : decode b_La_turnIf 127 = .ok (.getfield 74, 3) := by decide +kernel
theorem d_La_turnIf_130 : decode b_La_turnIf 130 = .ok (.invokevirtual 160, 3) := by decide +kernel
theorem d_La_turnIf_133 : decode b_La_turnIf 133 = .ok (.aload_n 0, 1) := by decide +kernel
theorem d_La_turnIf_134 : decode b_La_turnIf 134 = .ok (.getfield 21, 3) := by decide +kernel
theorem d_La_turnIf_137 : decode b_La_turnIf 137 = .ok (.getfield 157, 3) := by decide +kernel
theorem d_La_turnIf_140 : decode b_La_turnIf 140 = .ok (.iload_n 1, 1) := by decide +kernel
theorem d_La_turnIf_141 : decode b_La_turnIf 141 = .ok (.iload 5, 2) := by decide +kernel
theorem d_La_turnIf_143 : decode b_La_turnIf 143 = .ok (.iastore, 1) := by decide +kernel
theorem d_La_turnIf_144 : decode b_La_turnIf 144 = .ok (.aload_n 0, 1) := by decide +kernel
theorem d_La_turnIf_145 : decode b_La_turnIf 145 = .ok (.aload_n 0, 1) := by decide +kernel
theorem d_La_turnIf_146 : decode b_La_turnIf 146 = .ok (.getfield 36, 3) := by decide +kernel
theorem d_La_turnIf_149 : decode b_La_turnIf 149 = .ok (.iload_n 2, 1) := by decide +kernel
theorem d_La_turnIf_150 : decode b_La_turnIf 150 = .ok (.iconst 2, 1) := by decide +kernel
theorem d_La_turnIf_151 : decode b_La_turnIf 151 = .ok (.invokevirtual 141, 3) := by decide +kernel
theorem d_La_turnIf_154 : decode b_La_turnIf 154 = .ok (.iload 4, 2) := by decide +kernel
theorem d_La_turnIf_156 : decode b_La_turnIf 156 = .ok (.invokevirtual 86, 3) := by decide +kernel
theorem d_La_turnIf_159 : decode b_La_turnIf 159 = .ok (.goto 25, 3) := by decide +kernel
theorem d_La_turnIf_162 : decode b_La_turnIf 162 = .ok (.aload_n 0, 1) := by decide +kernel
theorem d_La_turnIf_163 : decode b_La_turnIf 163 = .ok (.aload_n 0, 1) := by decide +kernel
theorem d_La_turnIf_164 : decode b_La_turnIf 164 = .ok (.getfield 21, 3) := by decide +kernel
theorem d_La_turnIf_167 : decode b_La_turnIf 167 = .ok (.getfield 157, 3) := by decide +kernel
theorem d_La_turnIf_170 : decode b_La_turnIf 170 = .ok (.iload_n 1, 1) := by decide +kernel
theorem d_La_turnIf_171 : decode b_La_turnIf 171 = .ok (.iaload, 1) := by decide +kernel
theorem d_La_turnIf_172 : decode b_La_turnIf 172 = .ok (.iload 5, 2) := by decide +kernel
theorem d_La_turnIf_174 : decode b_La_turnIf 174 = .ok (.invokevirtual 160, 3) := by decide +kernel
theorem d_La_turnIf_177 : decode b_La_turnIf 177 = .ok (.aload_n 0, 1) := by decide +kernel
theorem d_La_turnIf_178 : decode b_La_turnIf 178 = .ok (.getfield 21, 3) := by decide +kernel
theorem d_La_turnIf_181 : decode b_La_turnIf 181 = .ok (.invokevirtual 147, 3) := by decide +kernel
theorem d_La_turnIf_184 : decode b_La_turnIf 184 = .ok (.return_, 1) := by decide +kernel
theorem d_La_finish_0 : decode b_La_finish 0 = .ok (.aload_n 0, 1) := by decide +kernel
theorem d_La_finish_1 : decode b_La_finish 1 = .ok (.iload_n 2, 1) := by decide +kernel
theorem d_La_finish_2 : decode b_La_finish 2 = .ok (.iload_n 3, 1) := by decide +kernel
theorem d_La_finish_3 : decode b_La_finish 3 = .ok (.aload_n 0, 1) := by decide +kernel
theorem d_La_finish_4 : decode b_La_finish 4 = .ok (.getfield 21, 3) := by decide +kernel
theorem d_La_finish_7 : decode b_La_finish 7 = .ok (.getfield 154, 3) := by decide +kernel
theorem d_La_finish_10 : decode b_La_finish 10 = .ok (.iload_n 1, 1) := by decide +kernel
theorem d_La_finish_11 : decode b_La_finish 11 = .ok (.iaload, 1) := by decide +kernel
theorem d_La_finish_12 : decode b_La_finish 12 = .ok (.invokevirtual 95, 3) := by decide +kernel
theorem d_La_finish_15 : decode b_La_finish 15 = .ok (.aload_n 0, 1) := by decide +kernel
theorem d_La_finish_16 : decode b_La_finish 16 = .ok (.getfield 21, 3) := by decide +kernel
theorem d_La_finish_19 : decode b_La_finish 19 = .ok (.invokevirtual 147, 3) := by decide +kernel
theorem d_La_finish_22 : decode b_La_finish 22 = .ok (.return_, 1) := by decide +kernel
theorem d_La_behind_0 : decode b_La_behind 0 = .ok (.iload_n 0, 1) := by decide +kernel
theorem d_La_behind_1 : decode b_La_behind 1 = .ok (.ineg, 1) := by decide +kernel
theorem d_La_behind_2 : decode b_La_behind 2 = .ok (.ireturn, 1) := by decide +kernel
theorem d_Sc_open_0 : decode b_Sc_open 0 = .ok (.aload_n 0, 1) := by decide +kernel
theorem d_Sc_open_1 : decode b_Sc_open 1 = .ok (.getfield 40, 3) := by decide +kernel
theorem d_Sc_open_4 : decode b_Sc_open 4 = .ok (.sipush 2001, 3) := by decide +kernel
theorem d_Sc_open_7 : decode b_Sc_open 7 = .ok (.if_icmp .ge 13, 3) := by decide +kernel
theorem d_Sc_open_10 : decode b_Sc_open 10 = .ok (.aload_n 0, 1) := by decide +kernel
theorem d_Sc_open_11 : decode b_Sc_open 11 = .ok (.dup, 1) := by decide +kernel
theorem d_Sc_open_12 : decode b_Sc_open 12 = .ok (.getfield 40, 3) := by decide +kernel
theorem d_Sc_open_15 : decode b_Sc_open 15 = .ok (.iconst 1, 1) := by decide +kernel
theorem d_Sc_open_16 : decode b_Sc_open 16 = .ok (.iadd, 1) := by decide +kernel
theorem d_Sc_open_17 : decode b_Sc_open 17 = .ok (.putfield 40, 3) := by decide +kernel
theorem d_Sc_open_20 : decode b_Sc_open 20 = .ok (.aload_n 0, 1) := by decide +kernel
theorem d_Sc_open_21 : decode b_Sc_open 21 = .ok (.getfield 40, 3) := by decide +kernel
theorem d_Sc_open_24 : decode b_Sc_open 24 = .ok (.iconst 1, 1) := by decide +kernel
theorem d_Sc_open_25 : decode b_Sc_open 25 = .ok (.isub, 1) := by decide +kernel
theorem d_Sc_open_26 : decode b_Sc_open 26 = .ok (.istore_n 2, 1) := by decide +kernel
theorem d_Sc_open_27 : decode b_Sc_open 27 = .ok (.iload_n 1, 1) := by decide +kernel
theorem d_Sc_open_28 : decode b_Sc_open 28 = .ok (.invokestatic 47, 3) := by decide +kernel
theorem d_Sc_open_31 : decode b_Sc_open 31 = .ok (.istore_n 3, 1) := by decide +kernel
theorem d_Sc_open_32 : decode b_Sc_open 32 = .ok (.aload_n 0, 1) := by decide +kernel
theorem d_Sc_open_33 : decode b_Sc_open 33 = .ok (.getfield 11, 3) := by decide +kernel
theorem d_Sc_open_36 : decode b_Sc_open 36 = .ok (.iload_n 2, 1) := by decide +kernel
theorem d_Sc_open_37 : decode b_Sc_open 37 = .ok (.iload_n 1, 1) := by decide +kernel
theorem d_Sc_open_38 : decode b_Sc_open 38 = .ok (.iastore, 1) := by decide +kernel
theorem d_Sc_open_39 : decode b_Sc_open 39 = .ok (.aload_n 0, 1) := by decide +kernel
theorem d_Sc_open_40 : decode b_Sc_open 40 = .ok (.getfield 24, 3) := by decide +kernel
theorem d_Sc_open_43 : decode b_Sc_open 43 = .ok (.iload_n 2, 1) := by decide +kernel
theorem d_Sc_open_44 : decode b_Sc_open 44 = .ok (.aload_n 0, 1) := by decide +kernel
theorem d_Sc_open_45 : decode b_Sc_open 45 = .ok (.getfield 24, 3) := by decide +kernel
theorem d_Sc_open_48 : decode b_Sc_open 48 = .ok (.iload_n 3, 1) := by decide +kernel
theorem d_Sc_open_49 : decode b_Sc_open 49 = .ok (.iaload, 1) := by decide +kernel
theorem d_Sc_open_50 : decode b_Sc_open 50 = .ok (.aload_n 0, 1) := by decide +kernel
theorem d_Sc_open_51 : decode b_Sc_open 51 = .ok (.getfield 15, 3) := by decide +kernel
theorem d_Sc_open_54 : decode b_Sc_open 54 = .ok (.iload_n 3, 1) := by decide +kernel
theorem d_Sc_open_55 : decode b_Sc_open 55 = .ok (.iaload, 1) := by decide +kernel
theorem d_Sc_open_56 : decode b_Sc_open 56 = .ok (.iconst (-1), 1) := by decide +kernel
theorem d_Sc_open_57 : decode b_Sc_open 57 = .ok (.if_icmp .ne 7, 3) := by decide +kernel
theorem d_Sc_open_60 : decode b_Sc_open 60 = .ok (.iconst 0, 1) := by decide +kernel
theorem d_Sc_open_61 : decode b_Sc_open 61 = .ok (.goto 4, 3) := by decide +kernel
theorem d_Sc_open_64 : decode b_Sc_open 64 = .ok (.iconst 1, 1) := by decide +kernel
theorem d_Sc_open_65 : decode b_Sc_open 65 = .ok (.iadd, 1) := by decide +kernel
theorem d_Sc_open_66 : decode b_Sc_open 66 = .ok (.iastore, 1) := by decide +kernel
theorem d_Sc_open_67 : decode b_Sc_open 67 = .ok (.aload_n 0, 1) := by decide +kernel
theorem d_Sc_open_68 : decode b_Sc_open 68 = .ok (.getfield 27, 3) := by decide +kernel
theorem d_Sc_open_71 : decode b_Sc_open 71 = .ok (.iload_n 2, 1) := by decide +kernel
theorem d_Sc_open_72 : decode b_Sc_open 72 = .ok (.aload_n 0, 1) := by decide +kernel
theorem d_Sc_open_73 : decode b_Sc_open 73 = .ok (.getfield 27, 3) := by decide +kernel
theorem d_Sc_open_76 : decode b_Sc_open 76 = .ok (.iload_n 3, 1) := by decide +kernel
theorem d_Sc_open_77 : decode b_Sc_open 77 = .ok (.iaload, 1) := by decide +kernel
theorem d_Sc_open_78 : decode b_Sc_open 78 = .ok (.aload_n 0, 1) := by decide +kernel
theorem d_Sc_open_79 : decode b_Sc_open 79 = .ok (.getfield 18, 3) := by decide +kernel
theorem d_Sc_open_82 : decode b_Sc_open 82 = .ok (.iload_n 3, 1) := by decide +kernel
theorem d_Sc_open_83 : decode b_Sc_open 83 = .ok (.iaload, 1) := by decide +kernel
theorem d_Sc_open_84 : decode b_Sc_open 84 = .ok (.iconst (-1), 1) := by decide +kernel
theorem d_Sc_open_85 : decode b_Sc_open 85 = .ok (.if_icmp .ne 7, 3) := by decide +kernel
theorem d_Sc_open_88 : decode b_Sc_open 88 = .ok (.iconst 0, 1) := by decide +kernel
theorem d_Sc_open_89 : decode b_Sc_open 89 = .ok (.goto 4, 3) := by decide +kernel
theorem d_Sc_open_92 : decode b_Sc_open 92 = .ok (.iconst 1, 1) := by decide +kernel
theorem d_Sc_open_93 : decode b_Sc_open 93 = .ok (.iadd, 1) := by decide +kernel
theorem d_Sc_open_94 : decode b_Sc_open 94 = .ok (.iastore, 1) := by decide +kernel
theorem d_Sc_open_95 : decode b_Sc_open 95 = .ok (.iload_n 2, 1) := by decide +kernel
theorem d_Sc_open_96 : decode b_Sc_open 96 = .ok (.ireturn, 1) := by decide +kernel
theorem d_Sc_openLoop_0 : decode b_Sc_openLoop 0 = .ok (.aload_n 0, 1) := by decide +kernel
theorem d_Sc_openLoop_1 : decode b_Sc_openLoop 1 = .ok (.iload_n 1, 1) := by decide +kernel
theorem d_Sc_openLoop_2 : decode b_Sc_openLoop 2 = .ok (.invokevirtual 43, 3) := by decide +kernel
theorem d_Sc_openLoop_5 : decode b_Sc_openLoop 5 = .ok (.istore_n 2, 1) := by decide +kernel
theorem d_Sc_openLoop_6 : decode b_Sc_openLoop 6 = .ok (.aload_n 0, 1) := by decide +kernel
theorem d_Sc_openLoop_7 : decode b_Sc_openLoop 7 = .ok (.getfield 15, 3) := by decide +kernel
theorem d_Sc_openLoop_10 : decode b_Sc_openLoop 10 = .ok (.iload_n 2, 1) := by decide +kernel
theorem d_Sc_openLoop_11 : decode b_Sc_openLoop 11 = .ok (.iconst (-1), 1) := by decide +kernel
theorem d_Sc_openLoop_12 : decode b_Sc_openLoop 12 = .ok (.iastore, 1) := by decide +kernel
theorem d_Sc_openLoop_13 : decode b_Sc_openLoop 13 = .ok (.aload_n 0, 1) := by decide +kernel
theorem d_Sc_openLoop_14 : decode b_Sc_openLoop 14 = .ok (.getfield 18, 3) := by decide +kernel
theorem d_Sc_openLoop_17 : decode b_Sc_openLoop 17 = .ok (.iload_n 2, 1) := by decide +kernel
theorem d_Sc_openLoop_18 : decode b_Sc_openLoop 18 = .ok (.iconst (-1), 1) := by decide +kernel
theorem d_Sc_openLoop_19 : decode b_Sc_openLoop 19 = .ok (.iastore, 1) := by decide +kernel
theorem d_Sc_openLoop_20 : decode b_Sc_openLoop 20 = .ok (.aload_n 0, 1) := by decide +kernel
theorem d_Sc_openLoop_21 : decode b_Sc_openLoop 21 = .ok (.getfield 21, 3) := by decide +kernel
theorem d_Sc_openLoop_24 : decode b_Sc_openLoop 24 = .ok (.iload_n 2, 1) := by decide +kernel
theorem d_Sc_openLoop_25 : decode b_Sc_openLoop 25 = .ok (.iload_n 2, 1) := by decide +kernel
theorem d_Sc_openLoop_26 : decode b_Sc_openLoop 26 = .ok (.iastore, 1) := by decide +kernel
theorem d_Sc_openLoop_27 : decode b_Sc_openLoop 27 = .ok (.iload_n 2, 1) := by decide +kernel
theorem d_Sc_openLoop_28 : decode b_Sc_openLoop 28 = .ok (.ireturn, 1) := by decide +kernel
end
section
theorem d_La_turnWhile_0 : decode b_La_turnWhile 0 = .ok (.iload_n 3, 1) := by decide +kernel
theorem d_La_turnWhile_1 : decode b_La_turnWhile 1 = .ok (.ifCond .ne 71, 3) := by decide +kernel
theorem d_La_turnWhile_4 : decode b_La_turnWhile 4 = .ok (.aload_n 0, 1) := by decide +kernel
theorem d_La_turnWhile_5 : decode b_La_turnWhile 5 = .ok (.getfield 21, 3) := by decide +kernel
theorem d_La_turnWhile_8 : decode b_La_turnWhile 8 = .ok (.getfield 154, 3) := by decide +kernel
theorem d_La_turnWhile_11 : decode b_La_turnWhile 11 = .ok (.iload_n 1, 1) := by decide +kernel
theorem d_La_turnWhile_12 : decode b_La_turnWhile 12 = .ok (.aload_n 0, 1) := by decide +kernel
theorem d_La_turnWhile_13 : decode b_La_turnWhile 13 = .ok (.getfield 12, 3) := by decide +kernel
theorem d_La_turnWhile_16 : decode b_La_turnWhile 16 = .ok (.aload_n 0, 1) := by decide +kernel
theorem d_La_turnWhile_17 : decode b_La_turnWhile 17 = .ok (.getfield 21, 3) := by decide +kernel
theorem d_La_turnWhile_20 : decode b_La_turnWhile 20 = .ok (.getfield 154, 3) := by decide +kernel
theorem d_La_turnWhile_23 : decode b_La_turnWhile 23 = .ok (.iload_n 1, 1) := by decide +kernel
theorem d_La_turnWhile_24 : decode b_La_turnWhile 24 = .ok (.iaload, 1) := by decide +kernel
theorem d_La_turnWhile_25 : decode b_La_turnWhile 25 = .ok (.invokevirtual 163, 3) := by decide +kernel
theorem d_La_turnWhile_28 : decode b_La_turnWhile 28 = .ok (.iconst 0, 1) := by decide +kernel
theorem d_La_turnWhile_29 : decode b_La_turnWhile 29 = .ok (.invokestatic 102, 3) := by decide +kernel
theorem d_La_turnWhile_32 : decode b_La_turnWhile 32 = .ok (.iastore, 1) := by decide +kernel
theorem d_La_turnWhile_33 : decode b_La_turnWhile 33 = .ok (.aload_n 0, 1) := by decide +kernel
theorem d_La_turnWhile_34 : decode b_La_turnWhile 34 = .ok (.getfield 21, 3) := by decide +kernel
theorem d_La_turnWhile_37 : decode b_La_turnWhile 37 = .ok (.getfield 157, 3) := by decide +kernel
theorem d_La_turnWhile_40 : decode b_La_turnWhile 40 = .ok (.iload_n 1, 1) := by decide +kernel
theorem d_La_turnWhile_41 : decode b_La_turnWhile 41 = .ok (.aload_n 0, 1) := by decide +kernel
theorem d_La_turnWhile_42 : decode b_La_turnWhile 42 = .ok (.getfield 40, 3) := by decide +kernel
theorem d_La_turnWhile_45 : decode b_La_turnWhile 45 = .ok (.getfield 74, 3) := by decide +kernel
theorem d_La_turnWhile_48 : decode b_La_turnWhile 48 = .ok (.iastore, 1) := by decide +kernel
theorem d_La_turnWhile_49 : decode b_La_turnWhile 49 = .ok (.aload_n 0, 1) := by decide +kernel
theorem d_La_turnWhile_50 : decode b_La_turnWhile 50 = .ok (.aload_n 0, 1) := by decide +kernel
theorem d_La_turnWhile_51 : decode b_La_turnWhile 51 = .ok (.getfield 36, 3) := by decide +kernel
theorem d_La_turnWhile_54 : decode b_La_turnWhile 54 = .ok (.iload_n 2, 1) := by decide +kernel
theorem d_La_turnWhile_55 : decode b_La_turnWhile 55 = .ok (.iconst 0, 1) := by decide +kernel
theorem d_La_turnWhile_56 : decode b_La_turnWhile 56 = .ok (.invokevirtual 141, 3) := by decide +kernel
theorem d_La_turnWhile_59 : decode b_La_turnWhile 59 = .ok (.aload_n 0, 1) := by decide +kernel
theorem d_La_turnWhile_60 : decode b_La_turnWhile 60 = .ok (.getfield 21, 3) := by decide +kernel
theorem d_La_turnWhile_63 : decode b_La_turnWhile 63 = .ok (.getfield 154, 3) := by decide +kernel
theorem d_La_turnWhile_66 : decode b_La_turnWhile 66 = .ok (.iload_n 1, 1) := by decide +kernel
theorem d_La_turnWhile_67 : decode b_La_turnWhile 67 = .ok (.iaload, 1) := by decide +kernel
theorem d_La_turnWhile_68 : decode b_La_turnWhile 68 = .ok (.invokevirtual 86, 3) := by decide +kernel
theorem d_La_turnWhile_71 : decode b_La_turnWhile 71 = .ok (.return_, 1) := by decide +kernel
theorem d_La_turnWhile_72 : decode b_La_turnWhile 72 = .ok (.aload_n 0, 1) := by decide +kernel
theorem d_La_turnWhile_73 : decode b_La_turnWhile 73 = .ok (.getfield 21, 3) := by decide +kernel
theorem d_La_turnWhile_76 : decode b_La_turnWhile 76 = .ok (.getfield 154, 3) := by decide +kernel
theorem d_La_turnWhile_79 : decode b_La_turnWhile 79 = .ok (.iload_n 1, 1) := by decide +kernel
theorem d_La_turnWhile_80 : decode b_La_turnWhile 80 = .ok (.iaload, 1) := by decide +kernel
theorem d_La_turnWhile_81 : decode b_La_turnWhile 81 = .ok (.istore 4, 2) := by decide +kernel
theorem d_La_turnWhile_83 : decode b_La_turnWhile 83 = .ok (.iload 4, 2) := by decide +kernel
theorem d_La_turnWhile_85 : decode b_La_turnWhile 85 = .ok (.invokestatic 166, 3) := by decide +kernel
theorem d_La_turnWhile_88 : decode b_La_turnWhile 88 = .ok (.istore 5, 2) := by decide +kernel
theorem d_La_turnWhile_90 : decode b_La_turnWhile 90 = .ok (.iload_n 3, 1) := by decide +kernel
theorem d_La_turnWhile_91 : decode b_La_turnWhile 91 = .ok (.iconst 1, 1) := by decide +kernel
theorem d_La_turnWhile_92 : decode b_La_turnWhile 92 = .ok (.if_icmp .ne 34, 3) := by decide +kernel
theorem d_La_turnWhile_95 : decode b_La_turnWhile 95 = .ok (.aload_n 0, 1) := by decide +kernel
theorem d_La_turnWhile_96 : decode b_La_turnWhile 96 = .ok (.bipush 10, 2) := by decide +kernel
theorem d_La_turnWhile_98 : decode b_La_turnWhile 98 = .ok (.iload 5, 2) := by decide +kernel
theorem d_La_turnWhile_100 : decode b_La_turnWhile 100 = .ok (.invokestatic 169, 3) := by decide +kernel
theorem d_La_turnWhile_103 : decode b_La_turnWhile 103 = .ok (.iload 4, 2) := by decide +kernel
theorem d_La_turnWhile_105 : decode b_La_turnWhile 105 = .ok (.invokevirtual 95, 3) := by decide +kernel
theorem d_La_turnWhile_108 : decode b_La_turnWhile 108 = .ok (.aload_n 0, 1) := by decide +kernel
theorem d_La_turnWhile_109 : decode b_La_turnWhile 109 = .ok (.aload_n 0, 1) := by decide +kernel
theorem d_La_turnWhile_110 : decode b_La_turnWhile 110 = .ok (.getfield 36, 3) := by decide +kernel
theorem d_La_turnWhile_113 : decode b_La_turnWhile 113 = .ok (.iload_n 2, 1) := by decide +kernel
theorem d_La_turnWhile_114 : decode b_La_turnWhile 114 = .ok (.iconst 1, 1) := by decide +kernel
theorem d_La_turnWhile_115 : decode b_La_turnWhile 115 = .ok (.invokevirtual 141, 3) := by decide +kernel
theorem d_La_turnWhile_118 : decode b_La_turnWhile 118 = .ok (.iload 4, 2) := by decide +kernel
theorem d_La_turnWhile_120 : decode b_La_turnWhile 120 = .ok (.invokevirtual 86, 3) := by decide +kernel
theorem d_La_turnWhile_123 : decode b_La_turnWhile 123 = .ok (.goto 36, 3) := by decide +kernel
theorem d_La_turnWhile_126 : decode b_La_turnWhile 126 = .ok (.aload_n 0, 1) := by decide +kernel
theorem d_La_turnWhile_127 : decode b_La_turnWhile 127 = .ok (.iload_n 1, 1) := by decide +kernel
theorem d_La_turnWhile_128 : decode b_La_turnWhile 128 = .ok (.bipush 11, 2) := by decide +kernel
theorem d_La_turnWhile_130 : decode b_La_turnWhile 130 = .ok (.aload_n 0, 1) := by decide +kernel
theorem d_La_turnWhile_131 : decode b_La_turnWhile 131 = .ok (.getfield 21, 3) := by decide +kernel
theorem d_La_turnWhile_134 : decode b_La_turnWhile 134 = .ok (.getfield 157, 3) := by decide +kernel
theorem d_La_turnWhile_137 : decode b_La_turnWhile 137 = .ok (.iload_n 1, 1) := by decide +kernel
theorem d_La_turnWhile_138 : decode b_La_turnWhile 138 = .ok (.iaload, 1) := by decide +kernel
theorem d_La_turnWhile_139 : decode b_La_turnWhile 139 = .ok (.invokevirtual 144, 3) := by decide +kernel
theorem d_La_turnWhile_142 : decode b_La_turnWhile 142 = .ok (.aload_n 0, 1) := by decide +kernel
theorem d_La_turnWhile_143 : decode b_La_turnWhile 143 = .ok (.getfield 12, 3) := by decide +kernel
theorem d_La_turnWhile_146 : decode b_La_turnWhile 146 = .ok (.getfield 172, 3) := by decide +kernel
theorem d_La_turnWhile_149 : decode b_La_turnWhile 149 = .ok (.iload 5, 2) := by decide +kernel
theorem d_La_turnWhile_151 : decode b_La_turnWhile 151 = .ok (.aload_n 0, 1) := by decide +kernel
theorem d_La_turnWhile_152 : decode b_La_turnWhile 152 = .ok (.getfield 40, 3) := by decide +kernel
theorem d_La_turnWhile_155 : decode b_La_turnWhile 155 = .ok (.getfield 74, 3) := by decide +kernel
theorem d_La_turnWhile_158 : decode b_La_turnWhile 158 = .ok (.iastore, 1) := by decide +kernel
theorem d_La_turnWhile_159 : decode b_La_turnWhile 159 = .ok (.return_, 1) := by decide +kernel
theorem d_Sc_finallyAround_0 : decode b_Sc_finallyAround 0 = .ok (.iload_n 1, 1) := by decide +kernel
theorem d_Sc_finallyAround_1 : decode b_Sc_finallyAround 1 = .ok (.istore_n 3, 1) := by decide +kernel
theorem d_Sc_finallyAround_2 : decode b_Sc_finallyAround 2 = .ok (.aload_n 0, 1) := by decide +kernel
theorem d_Sc_finallyAround_3 : decode b_Sc_finallyAround 3 = .ok (.getfield 40, 3) := by decide +kernel
theorem d_Sc_finallyAround_6 : decode b_Sc_finallyAround 6 = .ok (.istore 4, 2) := by decide +kernel
theorem d_Sc_finallyAround_8 : decode b_Sc_finallyAround 8 = .ok (.iload 4, 2) := by decide +kernel
theorem d_Sc_finallyAround_10 : decode b_Sc_finallyAround 10 = .ok (.ifCond .le 53, 3) := by decide +kernel
theorem d_Sc_finallyAround_13 : decode b_Sc_finallyAround 13 = .ok (.iload_n 3, 1) := by decide +kernel
theorem d_Sc_finallyAround_14 : decode b_Sc_finallyAround 14 = .ok (.invokestatic 47, 3) := by decide +kernel
theorem d_Sc_finallyAround_17 : decode b_Sc_finallyAround 17 = .ok (.iload_n 2, 1) := by decide +kernel
theorem d_Sc_finallyAround_18 : decode b_Sc_finallyAround 18 = .ok (.if_icmp .le 45, 3) := by decide +kernel
theorem d_Sc_finallyAround_21 : decode b_Sc_finallyAround 21 = .ok (.aload_n 0, 1) := by decide +kernel
theorem d_Sc_finallyAround_22 : decode b_Sc_finallyAround 22 = .ok (.getfield 18, 3) := by decide +kernel
theorem d_Sc_finallyAround_25 : decode b_Sc_finallyAround 25 = .ok (.iload_n 3, 1) := by decide +kernel
theorem d_Sc_finallyAround_26 : decode b_Sc_finallyAround 26 = .ok (.invokestatic 47, 3) := by decide +kernel
theorem d_Sc_finallyAround_29 : decode b_Sc_finallyAround 29 = .ok (.iaload, 1) := by decide +kernel
theorem d_Sc_finallyAround_30 : decode b_Sc_finallyAround 30 = .ok (.iconst (-1), 1) := by decide +kernel
theorem d_Sc_finallyAround_31 : decode b_Sc_finallyAround 31 = .ok (.if_icmp .eq 16, 3) := by decide +kernel
theorem d_Sc_finallyAround_34 : decode b_Sc_finallyAround 34 = .ok (.iload_n 3, 1) := by decide +kernel
theorem d_Sc_finallyAround_35 : decode b_Sc_finallyAround 35 = .ok (.invokestatic 50, 3) := by decide +kernel
theorem d_Sc_finallyAround_38 : decode b_Sc_finallyAround 38 = .ok (.iconst 2, 1) := by decide +kernel
theorem d_Sc_finallyAround_39 : decode b_Sc_finallyAround 39 = .ok (.if_icmp .eq 8, 3) := by decide +kernel
theorem d_Sc_finallyAround_42 : decode b_Sc_finallyAround 42 = .ok (.iload_n 3, 1) := by decide +kernel
theorem d_Sc_finallyAround_43 : decode b_Sc_finallyAround 43 = .ok (.invokestatic 47, 3) := by decide +kernel
theorem d_Sc_finallyAround_46 : decode b_Sc_finallyAround 46 = .ok (.ireturn, 1) := by decide +kernel
theorem d_Sc_finallyAround_47 : decode b_Sc_finallyAround 47 = .ok (.aload_n 0, 1) := by decide +kernel
theorem d_Sc_finallyAround_48 : decode b_Sc_finallyAround 48 = .ok (.getfield 11, 3) := by decide +kernel
theorem d_Sc_finallyAround_51 : decode b_Sc_finallyAround 51 = .ok (.iload_n 3, 1) := by decide +kernel
theorem d_Sc_finallyAround_52 : decode b_Sc_finallyAround 52 = .ok (.invokestatic 47, 3) := by decide +kernel
theorem d_Sc_finallyAround_55 : decode b_Sc_finallyAround 55 = .ok (.iaload, 1) := by decide +kernel
theorem d_Sc_finallyAround_56 : decode b_Sc_finallyAround 56 = .ok (.istore_n 3, 1) := by decide +kernel
theorem d_Sc_finallyAround_57 : decode b_Sc_finallyAround 57 = .ok (.iinc 4 (-1), 3) := by decide +kernel
theorem d_Sc_finallyAround_60 : decode b_Sc_finallyAround 60 = .ok (.goto (-52), 3) := by decide +kernel
theorem d_Sc_finallyAround_63 : decode b_Sc_finallyAround 63 = .ok (.iconst (-1), 1) := by decide +kernel
theorem d_Sc_finallyAround_64 : decode b_Sc_finallyAround 64 = .ok (.ireturn, 1) := by decide +kernel
theorem d_La_leave_0 : decode b_La_leave 0 = .ok (.aload_n 0, 1) := by decide +kernel
theorem d_La_leave_1 : decode b_La_leave 1 = .ok (.getfield 21, 3) := by decide +kernel
theorem d_La_leave_4 : decode b_La_leave 4 = .ok (.getfield 154, 3) := by decide +kernel
theorem d_La_leave_7 : decode b_La_leave 7 = .ok (.iload_n 1, 1) := by decide +kernel
theorem d_La_leave_8 : decode b_La_leave 8 = .ok (.aload_n 0, 1) := by decide +kernel
theorem d_La_leave_9 : decode b_La_leave 9 = .ok (.getfield 12, 3) := by decide +kernel
theorem d_La_leave_12 : decode b_La_leave 12 = .ok (.getfield 184, 3) := by decide +kernel
theorem d_La_leave_15 : decode b_La_leave 15 = .ok (.iload_n 2, 1) := by decide +kernel
theorem d_La_leave_16 : decode b_La_leave 16 = .ok (.iaload, 1) := by decide +kernel
theorem d_La_leave_17 : decode b_La_leave 17 = .ok (.iastore, 1) := by decide +kernel
theorem d_La_leave_18 : decode b_La_leave 18 = .ok (.aload_n 0, 1) := by decide +kernel
theorem d_La_leave_19 : decode b_La_leave 19 = .ok (.aload_n 0, 1) := by decide +kernel
theorem d_La_leave_20 : decode b_La_leave 20 = .ok (.getfield 12, 3) := by decide +kernel
theorem d_La_leave_23 : decode b_La_leave 23 = .ok (.getfield 187, 3) := by decide +kernel
theorem d_La_leave_26 : decode b_La_leave 26 = .ok (.iload_n 2, 1) := by decide +kernel
theorem d_La_leave_27 : decode b_La_leave 27 = .ok (.iaload, 1) := by decide +kernel
theorem d_La_leave_28 : decode b_La_leave 28 = .ok (.iload_n 2, 1) := by decide +kernel
theorem d_La_leave_29 : decode b_La_leave 29 = .ok (.iconst 2, 1) := by decide +kernel
theorem d_La_leave_30 : decode b_La_leave 30 = .ok (.invokestatic 102, 3) := by decide +kernel
theorem d_La_leave_33 : decode b_La_leave 33 = .ok (.invokevirtual 86, 3) := by decide +kernel
theorem d_La_leave_36 : decode b_La_leave 36 = .ok (.return_, 1) := by decide +kernel
theorem d_La_turnReturn_0 : decode b_La_turnReturn 0 = .ok (.aload_n 0, 1) := by decide +kernel
theorem d_La_turnReturn_1 : decode b_La_turnReturn 1 = .ok (.getfield 12, 3) := by decide +kernel
theorem d_La_turnReturn_4 : decode b_La_turnReturn 4 = .ok (.aload_n 0, 1) := by decide +kernel
theorem d_La_turnReturn_5 : decode b_La_turnReturn 5 = .ok (.getfield 21, 3) := by decide +kernel
theorem d_La_turnReturn_8 : decode b_La_turnReturn 8 = .ok (.getfield 154, 3) := by decide +kernel
theorem d_La_turnReturn_11 : decode b_La_turnReturn 11 = .ok (.iload_n 1, 1) := by decide +kernel
theorem d_La_turnReturn_12 : decode b_La_turnReturn 12 = .ok (.iaload, 1) := by decide +kernel
theorem d_La_turnReturn_13 : decode b_La_turnReturn 13 = .ok (.iconst 0, 1) := by decide +kernel
theorem d_La_turnReturn_14 : decode b_La_turnReturn 14 = .ok (.invokevirtual 175, 3) := by decide +kernel
theorem d_La_turnReturn_17 : decode b_La_turnReturn 17 = .ok (.istore_n 2, 1) := by decide +kernel
theorem d_La_turnReturn_18 : decode b_La_turnReturn 18 = .ok (.iload_n 2, 1) := by decide +kernel
theorem d_La_turnReturn_19 : decode b_La_turnReturn 19 = .ok (.iconst (-1), 1) := by decide +kernel
theorem d_La_turnReturn_20 : decode b_La_turnReturn 20 = .ok (.if_icmp .ne 14, 3) := by decide +kernel
theorem d_La_turnReturn_23 : decode b_La_turnReturn 23 = .ok (.aload_n 0, 1) := by decide +kernel
theorem d_La_turnReturn_24 : decode b_La_turnReturn 24 = .ok (.iload_n 1, 1) := by decide +kernel
theorem d_La_turnReturn_25 : decode b_La_turnReturn 25 = .ok (.bipush 14, 2) := by decide +kernel
theorem d_La_turnReturn_27 : decode b_La_turnReturn 27 = .ok (.iconst 0, 1) := by decide +kernel
theorem d_La_turnReturn_28 : decode b_La_turnReturn 28 = .ok (.invokevirtual 144, 3) := by decide +kernel
theorem d_La_turnReturn_31 : decode b_La_turnReturn 31 = .ok (.goto 9, 3) := by decide +kernel
theorem d_La_turnReturn_34 : decode b_La_turnReturn 34 = .ok (.aload_n 0, 1) := by decide +kernel
theorem d_La_turnReturn_35 : decode b_La_turnReturn 35 = .ok (.iload_n 1, 1) := by decide +kernel
theorem d_La_turnReturn_36 : decode b_La_turnReturn 36 = .ok (.iload_n 2, 1) := by decide +kernel
theorem d_La_turnReturn_37 : decode b_La_turnReturn 37 = .ok (.invokevirtual 178, 3) := by decide +kernel
theorem d_La_turnReturn_40 : decode b_La_turnReturn 40 = .ok (.return_, 1) := by decide +kernel
theorem d_La_turnBreak_0 : decode b_La_turnBreak 0 = .ok (.aload_n 0, 1) := by decide +kernel
theorem d_La_turnBreak_1 : decode b_La_turnBreak 1 = .ok (.getfield 21, 3) := by decide +kernel
theorem d_La_turnBreak_4 : decode b_La_turnBreak 4 = .ok (.getfield 154, 3) := by decide +kernel
theorem d_La_turnBreak_7 : decode b_La_turnBreak 7 = .ok (.iload_n 1, 1) := by decide +kernel
theorem d_La_turnBreak_8 : decode b_La_turnBreak 8 = .ok (.iaload, 1) := by decide +kernel
theorem d_La_turnBreak_9 : decode b_La_turnBreak 9 = .ok (.istore_n 2, 1) := by decide +kernel
theorem d_La_turnBreak_10 : decode b_La_turnBreak 10 = .ok (.aload_n 0, 1) := by decide +kernel
theorem d_La_turnBreak_11 : decode b_La_turnBreak 11 = .ok (.getfield 12, 3) := by decide +kernel
theorem d_La_turnBreak_14 : decode b_La_turnBreak 14 = .ok (.getfield 181, 3) := by decide +kernel
theorem d_La_turnBreak_17 : decode b_La_turnBreak 17 = .ok (.iload_n 2, 1) := by decide +kernel
theorem d_La_turnBreak_18 : decode b_La_turnBreak 18 = .ok (.invokestatic 166, 3) := by decide +kernel
theorem d_La_turnBreak_21 : decode b_La_turnBreak 21 = .ok (.iaload, 1) := by decide +kernel
theorem d_La_turnBreak_22 : decode b_La_turnBreak 22 = .ok (.istore_n 3, 1) := by decide +kernel
theorem d_La_turnBreak_23 : decode b_La_turnBreak 23 = .ok (.iload_n 3, 1) := by decide +kernel
theorem d_La_turnBreak_24 : decode b_La_turnBreak 24 = .ok (.ifCond .ne 10, 3) := by decide +kernel
theorem d_La_turnBreak_27 : decode b_La_turnBreak 27 = .ok (.aload_n 0, 1) := by decide +kernel
theorem d_La_turnBreak_28 : decode b_La_turnBreak 28 = .ok (.bipush (-3), 2) := by decide +kernel
theorem d_La_turnBreak_30 : decode b_La_turnBreak 30 = .ok (.putfield 61, 3) := by decide +kernel
theorem d_La_turnBreak_33 : decode b_La_turnBreak 33 = .ok (.return_, 1) := by decide +kernel
theorem d_La_turnBreak_34 : decode b_La_turnBreak 34 = .ok (.aload_n 0, 1) := by decide +kernel
theorem d_La_turnBreak_35 : decode b_La_turnBreak 35 = .ok (.getfield 12, 3) := by decide +kernel
theorem d_La_turnBreak_38 : decode b_La_turnBreak 38 = .ok (.iload_n 2, 1) := by decide +kernel
theorem d_La_turnBreak_39 : decode b_La_turnBreak 39 = .ok (.iload_n 3, 1) := by decide +kernel
theorem d_La_turnBreak_40 : decode b_La_turnBreak 40 = .ok (.invokevirtual 175, 3) := by decide +kernel
theorem d_La_turnBreak_43 : decode b_La_turnBreak 43 = .ok (.istore 4, 2) := by decide +kernel
theorem d_La_turnBreak_45 : decode b_La_turnBreak 45 = .ok (.iload 4, 2) := by decide +kernel
theorem d_La_turnBreak_47 : decode b_La_turnBreak 47 = .ok (.iconst (-1), 1) := by decide +kernel
theorem d_La_turnBreak_48 : decode b_La_turnBreak 48 = .ok (.if_icmp .ne 17, 3) := by decide +kernel
theorem d_La_turnBreak_51 : decode b_La_turnBreak 51 = .ok (.aload_n 0, 1) := by decide +kernel
theorem d_La_turnBreak_52 : decode b_La_turnBreak 52 = .ok (.iload_n 1, 1) := by decide +kernel
theorem d_La_turnBreak_53 : decode b_La_turnBreak 53 = .ok (.bipush 11, 2) := by decide +kernel
theorem d_La_turnBreak_55 : decode b_La_turnBreak 55 = .ok (.iload_n 3, 1) := by decide +kernel
theorem d_La_turnBreak_56 : decode b_La_turnBreak 56 = .ok (.invokestatic 169, 3) := by decide +kernel
theorem d_La_turnBreak_59 : decode b_La_turnBreak 59 = .ok (.invokevirtual 144, 3) := by decide +kernel
theorem d_La_turnBreak_62 : decode b_La_turnBreak 62 = .ok (.goto 10, 3) := by decide +kernel
theorem d_La_turnBreak_65 : decode b_La_turnBreak 65 = .ok (.aload_n 0, 1) := by decide +kernel
theorem d_La_turnBreak_66 : decode b_La_turnBreak 66 = .ok (.iload_n 1, 1) := by decide +kernel
theorem d_La_turnBreak_67 : decode b_La_turnBreak 67 = .ok (.iload 4, 2) := by decide +kernel
theorem d_La_turnBreak_69 : decode b_La_turnBreak 69 = .ok (.invokevirtual 178, 3) := by decide +kernel
theorem d_La_turnBreak_72 : decode b_La_turnBreak 72 = .ok (.return_, 1) := by decide +kernel
theorem d_Ha_comesBefore_0 : decode b_Ha_comesBefore 0 = .ok (.aload_n 2, 1) := by decide +kernel
theorem d_Ha_comesBefore_1 : decode b_Ha_comesBefore 1 = .ok (.iload_n 0, 1) := by decide +kernel
theorem d_Ha_comesBefore_2 : decode b_Ha_comesBefore 2 = .ok (.iaload, 1) := by decide +kernel
theorem d_Ha_comesBefore_3 : decode b_Ha_comesBefore 3 = .ok (.aload_n 2, 1) := by decide +kernel
theorem d_Ha_comesBefore_4 : decode b_Ha_comesBefore 4 = .ok (.iload_n 1, 1) := by decide +kernel
theorem d_Ha_comesBefore_5 : decode b_Ha_comesBefore 5 = .ok (.iaload, 1) := by decide +kernel
theorem d_Ha_comesBefore_6 : decode b_Ha_comesBefore 6 = .ok (.if_icmp .gt 17, 3) := by decide +kernel
theorem d_Ha_comesBefore_9 : decode b_Ha_comesBefore 9 = .ok (.aload_n 2, 1) := by decide +kernel
theorem d_Ha_comesBefore_10 : decode b_Ha_comesBefore 10 = .ok (.iload_n 0, 1) := by decide +kernel
theorem d_Ha_comesBefore_11 : decode b_Ha_comesBefore 11 = .ok (.iaload, 1) := by decide +kernel
theorem d_Ha_comesBefore_12 : decode b_Ha_comesBefore 12 = .ok (.aload_n 2, 1) := by decide +kernel
theorem d_Ha_comesBefore_13 : decode b_Ha_comesBefore 13 = .ok (.iload_n 1, 1) := by decide +kernel
theorem d_Ha_comesBefore_14 : decode b_Ha_comesBefore 14 = .ok (.iaload, 1) := by decide +kernel
theorem d_Ha_comesBefore_15 : decode b_Ha_comesBefore 15 = .ok (.if_icmp .ne 12, 3) := by decide +kernel
theorem d_Ha_comesBefore_18 : decode b_Ha_comesBefore 18 = .ok (.iload_n 0, 1) := by decide +kernel
theorem d_Ha_comesBefore_19 : decode b_Ha_comesBefore 19 = .ok (.iload_n 1, 1) := by decide +kernel
theorem d_Ha_comesBefore_20 : decode b_Ha_comesBefore 20 = .ok (.if_icmp .ge 7, 3) := by decide +kernel
theorem d_Ha_comesBefore_23 : decode b_Ha_comesBefore 23 = .ok (.iconst 1, 1) := by decide +kernel
theorem d_Ha_comesBefore_24 : decode b_Ha_comesBefore 24 = .ok (.goto 4, 3) := by decide +kernel
theorem d_Ha_comesBefore_27 : decode b_Ha_comesBefore 27 = .ok (.iconst 0, 1) := by decide +kernel
theorem d_Ha_comesBefore_28 : decode b_Ha_comesBefore 28 = .ok (.ireturn, 1) := by decide +kernel
theorem d_Ha_add_0 : decode b_Ha_add 0 = .ok (.aload_n 0, 1) := by decide +kernel
theorem d_Ha_add_1 : decode b_Ha_add 1 = .ok (.getfield 21, 3) := by decide +kernel
theorem d_Ha_add_4 : decode b_Ha_add 4 = .ok (.sipush 501, 3) := by decide +kernel
theorem d_Ha_add_7 : decode b_Ha_add 7 = .ok (.if_icmp .lt 4, 3) := by decide +kernel
theorem d_Ha_add_10 : decode b_Ha_add 10 = .ok (.return_, 1) := by decide +kernel
theorem d_Ha_add_11 : decode b_Ha_add 11 = .ok (.aload_n 0, 1) := by decide +kernel
theorem d_Ha_add_12 : decode b_Ha_add 12 = .ok (.getfield 21, 3) := by decide +kernel
theorem d_Ha_add_15 : decode b_Ha_add 15 = .ok (.istore 5, 2) := by decide +kernel
theorem d_Ha_add_17 : decode b_Ha_add 17 = .ok (.iload 5, 2) := by decide +kernel
theorem d_Ha_add_19 : decode b_Ha_add 19 = .ok (.ifCond .le 75, 3) := by decide +kernel
theorem d_Ha_add_22 : decode b_Ha_add 22 = .ok (.iload_n 1, 1) := by decide +kernel
theorem d_Ha_add_23 : decode b_Ha_add 23 = .ok (.aload_n 0, 1) := by decide +kernel
theorem d_Ha_add_24 : decode b_Ha_add 24 = .ok (.getfield 11, 3) := by decide +kernel
theorem d_Ha_add_27 : decode b_Ha_add 27 = .ok (.iload 5, 2) := by decide +kernel
theorem d_Ha_add_29 : decode b_Ha_add 29 = .ok (.iconst 1, 1) := by decide +kernel
theorem d_Ha_add_30 : decode b_Ha_add 30 = .ok (.isub, 1) := by decide +kernel
theorem d_Ha_add_31 : decode b_Ha_add 31 = .ok (.iaload, 1) := by decide +kernel
theorem d_Ha_add_32 : decode b_Ha_add 32 = .ok (.aload 4, 2) := by decide +kernel
theorem d_Ha_add_34 : decode b_Ha_add 34 = .ok (.invokestatic 25, 3) := by decide +kernel
theorem d_Ha_add_37 : decode b_Ha_add 37 = .ok (.ifCond .eq 57, 3) := by decide +kernel
theorem d_Ha_add_40 : decode b_Ha_add 40 = .ok (.aload_n 0, 1) := by decide +kernel
theorem d_Ha_add_41 : decode b_Ha_add 41 = .ok (.getfield 11, 3) := by decide +kernel
theorem d_Ha_add_44 : decode b_Ha_add 44 = .ok (.iload 5, 2) := by decide +kernel
theorem d_Ha_add_46 : decode b_Ha_add 46 = .ok (.aload_n 0, 1) := by decide +kernel
theorem d_Ha_add_47 : decode b_Ha_add 47 = .ok (.getfield 11, 3) := by decide +kernel
theorem d_Ha_add_50 : decode b_Ha_add 50 = .ok (.iload 5, 2) := by decide +kernel
theorem d_Ha_add_52 : decode b_Ha_add 52 = .ok (.iconst 1, 1) := by decide +kernel
theorem d_Ha_add_53 : decode b_Ha_add 53 = .ok (.isub, 1) := by decide +kernel
theorem d_Ha_add_54 : decode b_Ha_add 54 = .ok (.iaload, 1) := by decide +kernel
theorem d_Ha_add_55 : decode b_Ha_add 55 = .ok (.iastore, 1) := by decide +kernel
theorem d_Ha_add_56 : decode b_Ha_add 56 = .ok (.aload_n 0, 1) := by decide +kernel
theorem d_Ha_add_57 : decode b_Ha_add 57 = .ok (.getfield 15, 3) := by decide +kernel
theorem d_Ha_add_60 : decode b_Ha_add 60 = .ok (.iload 5, 2) := by decide +kernel
theorem d_Ha_add_62 : decode b_Ha_add 62 = .ok (.aload_n 0, 1) := by decide +kernel
theorem d_Ha_add_63 : decode b_Ha_add 63 = .ok (.getfield 15, 3) := by decide +kernel
theorem d_Ha_add_66 : decode b_Ha_add 66 = .ok (.iload 5, 2) := by decide +kernel
theorem d_Ha_add_68 : decode b_Ha_add 68 = .ok (.iconst 1, 1) := by decide +kernel
theorem d_Ha_add_69 : decode b_Ha_add 69 = .ok (.isub, 1) := by decide +kernel
theorem d_Ha_add_70 : decode b_Ha_add 70 = .ok (.iaload, 1) := by decide +kernel
theorem d_Ha_add_71 : decode b_Ha_add 71 = .ok (.iastore, 1) := by decide +kernel
theorem d_Ha_add_72 : decode b_Ha_add 72 = .ok (.aload_n 0, 1) := by decide +kernel
theorem d_Ha_add_73 : decode b_Ha_add 73 = .ok (.getfield 18, 3) := by decide +kernel
theorem d_Ha_add_76 : decode b_Ha_add 76 = .ok (.iload 5, 2) := by decide +kernel
theorem d_Ha_add_78 : decode b_Ha_add 78 = .ok (.aload_n 0, 1) := by decide +kernel
theorem d_Ha_add_79 : decode b_Ha_add 79 = .ok (.getfield 18, 3) := by decide +kernel
theorem d_Ha_add_82 : decode b_Ha_add 82 = .ok (.iload 5, 2) := by decide +kernel
theorem d_Ha_add_84 : decode b_Ha_add 84 = .ok (.iconst 1, 1) := by decide +kernel
theorem d_Ha_add_85 : decode b_Ha_add 85 = .ok (.isub, 1) := by decide +kernel
theorem d_Ha_add_86 : decode b_Ha_add 86 = .ok (.iaload, 1) := by decide +kernel
theorem d_Ha_add_87 : decode b_Ha_add 87 = .ok (.iastore, 1) := by decide +kernel
theorem d_Ha_add_88 : decode b_Ha_add 88 = .ok (.iinc 5 (-1), 3) := by decide +kernel
theorem d_Ha_add_91 : decode b_Ha_add 91 = .ok (.goto (-74), 3) := by decide +kernel
theorem d_Ha_add_94 : decode b_Ha_add 94 = .ok (.aload_n 0, 1) := by decide +kernel
theorem d_Ha_add_95 : decode b_Ha_add 95 = .ok (.getfield 11, 3) := by decide +kernel
theorem d_Ha_add_98 : decode b_Ha_add 98 = .ok (.iload 5, 2) := by decide +kernel
theorem d_Ha_add_100 : decode b_Ha_add 100 = .ok (.iload_n 1, 1) := by decide +kernel
theorem d_Ha_add_101 : decode b_Ha_add 101 = .ok (.iastore, 1) := by decide +kernel
theorem d_Ha_add_102 : decode b_Ha_add 102 = .ok (.aload_n 0, 1) := by decide +kernel
theorem d_Ha_add_103 : decode b_Ha_add 103 = .ok (.getfield 15, 3) := by decide +kernel
theorem d_Ha_add_106 : decode b_Ha_add 106 = .ok (.iload 5, 2) := by decide +kernel
theorem d_Ha_add_108 : decode b_Ha_add 108 = .ok (.iload_n 2, 1) := by decide +kernel
theorem d_Ha_add_109 : decode b_Ha_add 109 = .ok (.iastore, 1) := by decide +kernel
theorem d_Ha_add_110 : decode b_Ha_add 110 = .ok (.aload_n 0, 1) := by decide +kernel
theorem d_Ha_add_111 : decode b_Ha_add 111 = .ok (.getfield 18, 3) := by decide +kernel
theorem d_Ha_add_114 : decode b_Ha_add 114 = .ok (.iload 5, 2) := by decide +kernel
theorem d_Ha_add_116 : decode b_Ha_add 116 = .ok (.iload_n 3, 1) := by decide +kernel
theorem d_Ha_add_117 : decode b_Ha_add 117 = .ok (.iastore, 1) := by decide +kernel
theorem d_Ha_add_118 : decode b_Ha_add 118 = .ok (.aload_n 0, 1) := by decide +kernel
theorem d_Ha_add_119 : decode b_Ha_add 119 = .ok (.dup, 1) := by decide +kernel
theorem d_Ha_add_120 : decode b_Ha_add 120 = .ok (.getfield 21, 3) := by decide +kernel
theorem d_Ha_add_123 : decode b_Ha_add 123 = .ok (.iconst 1, 1) := by decide +kernel
theorem d_Ha_add_124 : decode b_Ha_add 124 = .ok (.iadd, 1) := by decide +kernel
theorem d_Ha_add_125 : decode b_Ha_add 125 = .ok (.putfield 21, 3) := by decide +kernel
theorem d_Ha_add_128 : decode b_Ha_add 128 = .ok (.return_, 1) := by decide +kernel
theorem d_Tr_catchAfter_0 : decode b_Tr_catchAfter 0 = .ok (.iconst (-1), 1) := by decide +kernel
theorem d_Tr_catchAfter_1 : decode b_Tr_catchAfter 1 = .ok (.istore_n 3, 1) := by decide +kernel
theorem d_Tr_catchAfter_2 : decode b_Tr_catchAfter 2 = .ok (.aload_n 0, 1) := by decide +kernel
theorem d_Tr_catchAfter_3 : decode b_Tr_catchAfter 3 = .ok (.iload_n 1, 1) := by decide +kernel
theorem d_Tr_catchAfter_4 : decode b_Tr_catchAfter 4 = .ok (.iconst 1, 1) := by decide +kernel
theorem d_Tr_catchAfter_5 : decode b_Tr_catchAfter 5 = .ok (.invokevirtual 44, 3) := by decide +kernel
theorem d_Tr_catchAfter_8 : decode b_Tr_catchAfter 8 = .ok (.istore 4, 2) := by decide +kernel
theorem d_Tr_catchAfter_10 : decode b_Tr_catchAfter 10 = .ok (.aload_n 0, 1) := by decide +kernel
theorem d_Tr_catchAfter_11 : decode b_Tr_catchAfter 11 = .ok (.getfield 29, 3) := by decide +kernel
theorem d_Tr_catchAfter_14 : decode b_Tr_catchAfter 14 = .ok (.istore 5, 2) := by decide +kernel
theorem d_Tr_catchAfter_16 : decode b_Tr_catchAfter 16 = .ok (.iload 5, 2) := by decide +kernel
theorem d_Tr_catchAfter_18 : decode b_Tr_catchAfter 18 = .ok (.ifCond .le 33, 3) := by decide +kernel
theorem d_Tr_catchAfter_21 : decode b_Tr_catchAfter 21 = .ok (.iload 4, 2) := by decide +kernel
theorem d_Tr_catchAfter_23 : decode b_Tr_catchAfter 23 = .ok (.iconst (-1), 1) := by decide +kernel
theorem d_Tr_catchAfter_24 : decode b_Tr_catchAfter 24 = .ok (.if_icmp .eq 27, 3) := by decide +kernel
theorem d_Tr_catchAfter_27 : decode b_Tr_catchAfter 27 = .ok (.iload 4, 2) := by decide +kernel
theorem d_Tr_catchAfter_29 : decode b_Tr_catchAfter 29 = .ok (.iload_n 2, 1) := by decide +kernel
theorem d_Tr_catchAfter_30 : decode b_Tr_catchAfter 30 = .ok (.if_icmp .eq 21, 3) := by decide +kernel
theorem d_Tr_catchAfter_33 : decode b_Tr_catchAfter 33 = .ok (.iload 4, 2) := by decide +kernel
theorem d_Tr_catchAfter_35 : decode b_Tr_catchAfter 35 = .ok (.istore_n 3, 1) := by decide +kernel
theorem d_Tr_catchAfter_36 : decode b_Tr_catchAfter 36 = .ok (.aload_n 0, 1) := by decide +kernel
theorem d_Tr_catchAfter_37 : decode b_Tr_catchAfter 37 = .ok (.iload 4, 2) := by decide +kernel
theorem d_Tr_catchAfter_39 : decode b_Tr_catchAfter 39 = .ok (.iconst 4, 1) := by decide +kernel
theorem d_Tr_catchAfter_40 : decode b_Tr_catchAfter 40 = .ok (.invokevirtual 44, 3) := by decide +kernel
theorem d_Tr_catchAfter_43 : decode b_Tr_catchAfter 43 = .ok (.istore 4, 2) := by decide +kernel
theorem d_Tr_catchAfter_45 : decode b_Tr_catchAfter 45 = .ok (.iinc 5 (-1), 3) := by decide +kernel
theorem d_Tr_catchAfter_48 : decode b_Tr_catchAfter 48 = .ok (.goto (-32), 3) := by decide +kernel
theorem d_Tr_catchAfter_51 : decode b_Tr_catchAfter 51 = .ok (.iload_n 3, 1) := by decide +kernel
theorem d_Tr_catchAfter_52 : decode b_Tr_catchAfter 52 = .ok (.ireturn, 1) := by decide +kernel
theorem d_La_beginCatch_0 : decode b_La_beginCatch 0 = .ok (.aload_n 0, 1) := by decide +kernel
theorem d_La_beginCatch_1 : decode b_La_beginCatch 1 = .ok (.getfield 57, 3) := by decide +kernel
theorem d_La_beginCatch_4 : decode b_La_beginCatch 4 = .ok (.ifCond .eq 7, 3) := by decide +kernel
theorem d_La_beginCatch_7 : decode b_La_beginCatch 7 = .ok (.iconst (-1), 1) := by decide +kernel
theorem d_La_beginCatch_8 : decode b_La_beginCatch 8 = .ok (.goto 28, 3) := by decide +kernel
theorem d_La_beginCatch_11 : decode b_La_beginCatch 11 = .ok (.aload_n 0, 1) := by decide +kernel
theorem d_La_beginCatch_12 : decode b_La_beginCatch 12 = .ok (.getfield 36, 3) := by decide +kernel
theorem d_La_beginCatch_15 : decode b_La_beginCatch 15 = .ok (.aload_n 0, 1) := by decide +kernel
theorem d_La_beginCatch_16 : decode b_La_beginCatch 16 = .ok (.getfield 12, 3) := by decide +kernel
theorem d_La_beginCatch_19 : decode b_La_beginCatch 19 = .ok (.getfield 99, 3) := by decide +kernel
theorem d_La_beginCatch_22 : decode b_La_beginCatch 22 = .ok (.iload_n 2, 1) := by decide +kernel
theorem d_La_beginCatch_23 : decode b_La_beginCatch 23 = .ok (.iaload, 1) := by decide +kernel
theorem d_La_beginCatch_24 : decode b_La_beginCatch 24 = .ok (.aload_n 0, 1) := by decide +kernel
theorem d_La_beginCatch_25 : decode b_La_beginCatch 25 = .ok (.getfield 21, 3) := by decide +kernel
theorem d_La_beginCatch_28 : decode b_La_beginCatch 28 = .ok (.getfield 157, 3) := by decide +kernel
theorem d_La_beginCatch_31 : decode b_La_beginCatch 31 = .ok (.iload_n 1, 1) := by decide +kernel
theorem d_La_beginCatch_32 : decode b_La_beginCatch 32 = .ok (.iaload, 1) := by decide +kernel
theorem d_La_beginCatch_33 : decode b_La_beginCatch 33 = .ok (.invokevirtual 209, 3) := by decide +kernel
theorem d_La_beginCatch_36 : decode b_La_beginCatch 36 = .ok (.istore_n 3, 1) := by decide +kernel
theorem d_La_beginCatch_37 : decode b_La_beginCatch 37 = .ok (.iload_n 3, 1) := by decide +kernel
theorem d_La_beginCatch_38 : decode b_La_beginCatch 38 = .ok (.iconst (-1), 1) := by decide +kernel
theorem d_La_beginCatch_39 : decode b_La_beginCatch 39 = .ok (.if_icmp .ne 15, 3) := by decide +kernel
theorem d_La_beginCatch_42 : decode b_La_beginCatch 42 = .ok (.aload_n 0, 1) := by decide +kernel
theorem d_La_beginCatch_43 : decode b_La_beginCatch 43 = .ok (.getfield 21, 3) := by decide +kernel
theorem d_La_beginCatch_46 : decode b_La_beginCatch 46 = .ok (.getfield 113, 3) := by decide +kernel
theorem d_La_beginCatch_49 : decode b_La_beginCatch 49 = .ok (.iload_n 1, 1) := by decide +kernel
theorem d_La_beginCatch_50 : decode b_La_beginCatch 50 = .ok (.bipush 6, 2) := by decide +kernel
theorem d_La_beginCatch_52 : decode b_La_beginCatch 52 = .ok (.iastore, 1) := by decide +kernel
theorem d_La_beginCatch_53 : decode b_La_beginCatch 53 = .ok (.return_, 1) := by decide +kernel
theorem d_La_beginCatch_54 : decode b_La_beginCatch 54 = .ok (.aload_n 0, 1) := by decide +kernel
theorem d_La_beginCatch_55 : decode b_La_beginCatch 55 = .ok (.getfield 21, 3) := by decide +kernel
theorem d_La_beginCatch_58 : decode b_La_beginCatch 58 = .ok (.getfield 157, 3) := by decide +kernel
theorem d_La_beginCatch_61 : decode b_La_beginCatch 61 = .ok (.iload_n 1, 1) := by decide +kernel
theorem d_La_beginCatch_62 : decode b_La_beginCatch 62 = .ok (.iload_n 3, 1) := by decide +kernel
theorem d_La_beginCatch_63 : decode b_La_beginCatch 63 = .ok (.iastore, 1) := by decide +kernel
theorem d_La_beginCatch_64 : decode b_La_beginCatch 64 = .ok (.aload_n 0, 1) := by decide +kernel
theorem d_La_beginCatch_65 : decode b_La_beginCatch 65 = .ok (.getfield 28, 3) := by decide +kernel
theorem d_La_beginCatch_68 : decode b_La_beginCatch 68 = .ok (.iload_n 2, 1) := by decide +kernel
theorem d_La_beginCatch_69 : decode b_La_beginCatch 69 = .ok (.iload_n 3, 1) := by decide +kernel
theorem d_La_beginCatch_70 : decode b_La_beginCatch 70 = .ok (.aload_n 0, 1) := by decide +kernel
theorem d_La_beginCatch_71 : decode b_La_beginCatch 71 = .ok (.getfield 40, 3) := by decide +kernel
theorem d_La_beginCatch_74 : decode b_La_beginCatch 74 = .ok (.getfield 74, 3) := by decide +kernel
theorem d_La_beginCatch_77 : decode b_La_beginCatch 77 = .ok (.aload_n 0, 1) := by decide +kernel
theorem d_La_beginCatch_78 : decode b_La_beginCatch 78 = .ok (.getfield 12, 3) := by decide +kernel
theorem d_La_beginCatch_81 : decode b_La_beginCatch 81 = .ok (.getfield 212, 3) := by decide +kernel
theorem d_La_beginCatch_84 : decode b_La_beginCatch 84 = .ok (.invokevirtual 215, 3) := by decide +kernel
theorem d_La_beginCatch_87 : decode b_La_beginCatch 87 = .ok (.aload_n 0, 1) := by decide +kernel
theorem d_La_beginCatch_88 : decode b_La_beginCatch 88 = .ok (.bipush 8, 2) := by decide +kernel
theorem d_La_beginCatch_90 : decode b_La_beginCatch 90 = .ok (.aload_n 0, 1) := by decide +kernel
theorem d_La_beginCatch_91 : decode b_La_beginCatch 91 = .ok (.getfield 36, 3) := by decide +kernel
theorem d_La_beginCatch_94 : decode b_La_beginCatch 94 = .ok (.iload_n 3, 1) := by decide +kernel
theorem d_La_beginCatch_95 : decode b_La_beginCatch 95 = .ok (.iconst 2, 1) := by decide +kernel
theorem d_La_beginCatch_96 : decode b_La_beginCatch 96 = .ok (.invokevirtual 141, 3) := by decide +kernel
theorem d_La_beginCatch_99 : decode b_La_beginCatch 99 = .ok (.aload_n 0, 1) := by decide +kernel
theorem d_La_beginCatch_100 : decode b_La_beginCatch 100 = .ok (.getfield 21, 3) := by decide +kernel
theorem d_La_beginCatch_103 : decode b_La_beginCatch 103 = .ok (.getfield 154, 3) := by decide +kernel
theorem d_La_beginCatch_106 : decode b_La_beginCatch 106 = .ok (.iload_n 1, 1) := by decide +kernel
theorem d_La_beginCatch_107 : decode b_La_beginCatch 107 = .ok (.iaload, 1) := by decide +kernel
theorem d_La_beginCatch_108 : decode b_La_beginCatch 108 = .ok (.invokevirtual 95, 3) := by decide +kernel
theorem d_La_beginCatch_111 : decode b_La_beginCatch 111 = .ok (.aload_n 0, 1) := by decide +kernel
theorem d_La_beginCatch_112 : decode b_La_beginCatch 112 = .ok (.aload_n 0, 1) := by decide +kernel
theorem d_La_beginCatch_113 : decode b_La_beginCatch 113 = .ok (.getfield 36, 3) := by decide +kernel
theorem d_La_beginCatch_116 : decode b_La_beginCatch 116 = .ok (.iload_n 3, 1) := by decide +kernel
theorem d_La_beginCatch_117 : decode b_La_beginCatch 117 = .ok (.iconst 3, 1) := by decide +kernel
theorem d_La_beginCatch_118 : decode b_La_beginCatch 118 = .ok (.invokevirtual 141, 3) := by decide +kernel
theorem d_La_beginCatch_121 : decode b_La_beginCatch 121 = .ok (.aload_n 0, 1) := by decide +kernel
theorem d_La_beginCatch_122 : decode b_La_beginCatch 122 = .ok (.getfield 21, 3) := by decide +kernel
theorem d_La_beginCatch_125 : decode b_La_beginCatch 125 = .ok (.getfield 154, 3) := by decide +kernel
theorem d_La_beginCatch_128 : decode b_La_beginCatch 128 = .ok (.iload_n 1, 1) := by decide +kernel
theorem d_La_beginCatch_129 : decode b_La_beginCatch 129 = .ok (.iaload, 1) := by decide +kernel
theorem d_La_beginCatch_130 : decode b_La_beginCatch 130 = .ok (.invokevirtual 86, 3) := by decide +kernel
theorem d_La_beginCatch_133 : decode b_La_beginCatch 133 = .ok (.return_, 1) := by decide +kernel
theorem d_La_beginFinally_0 : decode b_La_beginFinally 0 = .ok (.aload_n 0, 1) := by decide +kernel
theorem d_La_beginFinally_1 : decode b_La_beginFinally 1 = .ok (.getfield 12, 3) := by decide +kernel
theorem d_La_beginFinally_4 : decode b_La_beginFinally 4 = .ok (.getfield 187, 3) := by decide +kernel
theorem d_La_beginFinally_7 : decode b_La_beginFinally 7 = .ok (.iload_n 1, 1) := by decide +kernel
theorem d_La_beginFinally_8 : decode b_La_beginFinally 8 = .ok (.iaload, 1) := by decide +kernel
theorem d_La_beginFinally_9 : decode b_La_beginFinally 9 = .ok (.iconst (-1), 1) := by decide +kernel
theorem d_La_beginFinally_10 : decode b_La_beginFinally 10 = .ok (.if_icmp .eq 21, 3) := by decide +kernel
theorem d_La_beginFinally_13 : decode b_La_beginFinally 13 = .ok (.aload_n 0, 1) := by decide +kernel
theorem d_La_beginFinally_14 : decode b_La_beginFinally 14 = .ok (.aload_n 0, 1) := by decide +kernel
theorem d_La_beginFinally_15 : decode b_La_beginFinally 15 = .ok (.getfield 12, 3) := by decide +kernel
theorem d_La_beginFinally_18 : decode b_La_beginFinally 18 = .ok (.getfield 187, 3) := by decide +kernel
theorem d_La_beginFinally_21 : decode b_La_beginFinally 21 = .ok (.iload_n 1, 1) := by decide +kernel
theorem d_La_beginFinally_22 : decode b_La_beginFinally 22 = .ok (.iaload, 1) := by decide +kernel
theorem d_La_beginFinally_23 : decode b_La_beginFinally 23 = .ok (.iload_n 1, 1) := by decide +kernel
theorem d_La_beginFinally_24 : decode b_La_beginFinally 24 = .ok (.iconst 2, 1) := by decide +kernel
theorem d_La_beginFinally_25 : decode b_La_beginFinally 25 = .ok (.invokestatic 102, 3) := by decide +kernel
theorem d_La_beginFinally_28 : decode b_La_beginFinally 28 = .ok (.invokevirtual 86, 3) := by decide +kernel
theorem d_La_beginFinally_31 : decode b_La_beginFinally 31 = .ok (.return_, 1) := by decide +kernel
end
section
theorem d_La_beginAny_0 : decode b_La_beginAny 0 = .ok (.aload_n 0, 1) := by decide +kernel
theorem d_La_beginAny_1 : decode b_La_beginAny 1 = .ok (.getfield 12, 3) := by decide +kernel
theorem d_La_beginAny_4 : decode b_La_beginAny 4 = .ok (.getfield 187, 3) := by decide +kernel
theorem d_La_beginAny_7 : decode b_La_beginAny 7 = .ok (.iload_n 1, 1) := by decide +kernel
theorem d_La_beginAny_8 : decode b_La_beginAny 8 = .ok (.iaload, 1) := by decide +kernel
theorem d_La_beginAny_9 : decode b_La_beginAny 9 = .ok (.iconst (-1), 1) := by decide +kernel
theorem d_La_beginAny_10 : decode b_La_beginAny 10 = .ok (.if_icmp .ne 11, 3) := by decide +kernel
theorem d_La_beginAny_13 : decode b_La_beginAny 13 = .ok (.aload_n 0, 1) := by decide +kernel
theorem d_La_beginAny_14 : decode b_La_beginAny 14 = .ok (.getfield 21, 3) := by decide +kernel
theorem d_La_beginAny_17 : decode b_La_beginAny 17 = .ok (.invokevirtual 147, 3) := by decide +kernel
theorem d_La_beginAny_20 : decode b_La_beginAny 20 = .ok (.return_, 1) := by decide +kernel
theorem d_La_beginAny_21 : decode b_La_beginAny 21 = .ok (.aload_n 0, 1) := by decide +kernel
theorem d_La_beginAny_22 : decode b_La_beginAny 22 = .ok (.getfield 12, 3) := by decide +kernel
theorem d_La_beginAny_25 : decode b_La_beginAny 25 = .ok (.getfield 206, 3) := by decide +kernel
theorem d_La_beginAny_28 : decode b_La_beginAny 28 = .ok (.iload_n 1, 1) := by decide +kernel
theorem d_La_beginAny_29 : decode b_La_beginAny 29 = .ok (.iaload, 1) := by decide +kernel
theorem d_La_beginAny_30 : decode b_La_beginAny 30 = .ok (.istore_n 2, 1) := by decide +kernel
theorem d_La_beginAny_31 : decode b_La_beginAny 31 = .ok (.aload_n 0, 1) := by decide +kernel
theorem d_La_beginAny_32 : decode b_La_beginAny 32 = .ok (.getfield 28, 3) := by decide +kernel
theorem d_La_beginAny_35 : decode b_La_beginAny 35 = .ok (.iload_n 1, 1) := by decide +kernel
theorem d_La_beginAny_36 : decode b_La_beginAny 36 = .ok (.iconst (-1), 1) := by decide +kernel
theorem d_La_beginAny_37 : decode b_La_beginAny 37 = .ok (.aload_n 0, 1) := by decide +kernel
theorem d_La_beginAny_38 : decode b_La_beginAny 38 = .ok (.getfield 40, 3) := by decide +kernel
theorem d_La_beginAny_41 : decode b_La_beginAny 41 = .ok (.getfield 74, 3) := by decide +kernel
theorem d_La_beginAny_44 : decode b_La_beginAny 44 = .ok (.aload_n 0, 1) := by decide +kernel
theorem d_La_beginAny_45 : decode b_La_beginAny 45 = .ok (.getfield 12, 3) := by decide +kernel
theorem d_La_beginAny_48 : decode b_La_beginAny 48 = .ok (.getfield 212, 3) := by decide +kernel
theorem d_La_beginAny_51 : decode b_La_beginAny 51 = .ok (.invokevirtual 215, 3) := by decide +kernel
theorem d_La_beginAny_54 : decode b_La_beginAny 54 = .ok (.aload_n 0, 1) := by decide +kernel
theorem d_La_beginAny_55 : decode b_La_beginAny 55 = .ok (.bipush 15, 2) := by decide +kernel
theorem d_La_beginAny_57 : decode b_La_beginAny 57 = .ok (.iload_n 2, 1) := by decide +kernel
theorem d_La_beginAny_58 : decode b_La_beginAny 58 = .ok (.aload_n 0, 1) := by decide +kernel
theorem d_La_beginAny_59 : decode b_La_beginAny 59 = .ok (.getfield 12, 3) := by decide +kernel
theorem d_La_beginAny_62 : decode b_La_beginAny 62 = .ok (.getfield 184, 3) := by decide +kernel
theorem d_La_beginAny_65 : decode b_La_beginAny 65 = .ok (.iload_n 1, 1) := by decide +kernel
theorem d_La_beginAny_66 : decode b_La_beginAny 66 = .ok (.iaload, 1) := by decide +kernel
theorem d_La_beginAny_67 : decode b_La_beginAny 67 = .ok (.invokevirtual 95, 3) := by decide +kernel
theorem d_La_beginAny_70 : decode b_La_beginAny 70 = .ok (.aload_n 0, 1) := by decide +kernel
theorem d_La_beginAny_71 : decode b_La_beginAny 71 = .ok (.getfield 40, 3) := by decide +kernel
theorem d_La_beginAny_74 : decode b_La_beginAny 74 = .ok (.aload_n 0, 1) := by decide +kernel
theorem d_La_beginAny_75 : decode b_La_beginAny 75 = .ok (.getfield 40, 3) := by decide +kernel
theorem d_La_beginAny_78 : decode b_La_beginAny 78 = .ok (.getfield 219, 3) := by decide +kernel
theorem d_La_beginAny_81 : decode b_La_beginAny 81 = .ok (.iload_n 2, 1) := by decide +kernel
theorem d_La_beginAny_82 : decode b_La_beginAny 82 = .ok (.invokestatic 222, 3) := by decide +kernel
theorem d_La_beginAny_85 : decode b_La_beginAny 85 = .ok (.putfield 219, 3) := by decide +kernel
theorem d_La_beginAny_88 : decode b_La_beginAny 88 = .ok (.aload_n 0, 1) := by decide +kernel
theorem d_La_beginAny_89 : decode b_La_beginAny 89 = .ok (.aload_n 0, 1) := by decide +kernel
theorem d_La_beginAny_90 : decode b_La_beginAny 90 = .ok (.getfield 12, 3) := by decide +kernel
theorem d_La_beginAny_93 : decode b_La_beginAny 93 = .ok (.getfield 187, 3) := by decide +kernel
theorem d_La_beginAny_96 : decode b_La_beginAny 96 = .ok (.iload_n 1, 1) := by decide +kernel
theorem d_La_beginAny_97 : decode b_La_beginAny 97 = .ok (.iaload, 1) := by decide +kernel
theorem d_La_beginAny_98 : decode b_La_beginAny 98 = .ok (.iload_n 1, 1) := by decide +kernel
theorem d_La_beginAny_99 : decode b_La_beginAny 99 = .ok (.iconst 2, 1) := by decide +kernel
theorem d_La_beginAny_100 : decode b_La_beginAny 100 = .ok (.invokestatic 102, 3) := by decide +kernel
theorem d_La_beginAny_103 : decode b_La_beginAny 103 = .ok (.invokevirtual 86, 3) := by decide +kernel
theorem d_La_beginAny_106 : decode b_La_beginAny 106 = .ok (.return_, 1) := by decide +kernel
theorem d_La_turnApart_0 : decode b_La_turnApart 0 = .ok (.aload_n 0, 1) := by decide +kernel
theorem d_La_turnApart_1 : decode b_La_turnApart 1 = .ok (.getfield 21, 3) := by decide +kernel
theorem d_La_turnApart_4 : decode b_La_turnApart 4 = .ok (.getfield 154, 3) := by decide +kernel
theorem d_La_turnApart_7 : decode b_La_turnApart 7 = .ok (.iload_n 1, 1) := by decide +kernel
theorem d_La_turnApart_8 : decode b_La_turnApart 8 = .ok (.iaload, 1) := by decide +kernel
theorem d_La_turnApart_9 : decode b_La_turnApart 9 = .ok (.invokestatic 166, 3) := by decide +kernel
theorem d_La_turnApart_12 : decode b_La_turnApart 12 = .ok (.istore_n 3, 1) := by decide +kernel
theorem d_La_turnApart_13 : decode b_La_turnApart 13 = .ok (.iload_n 2, 1) := by decide +kernel
theorem d_La_turnApart_14 : decode b_La_turnApart 14 = .ok (.tableswitch 92 3 6 #[30, 39, 47, 84], 30) := by decide +kernel
theorem d_La_turnApart_44 : decode b_La_turnApart 44 = .ok (.aload_n 0, 1) := by decide +kernel
theorem d_La_turnApart_45 : decode b_La_turnApart 45 = .ok (.iload_n 1, 1) := by decide +kernel
theorem d_La_turnApart_46 : decode b_La_turnApart 46 = .ok (.iload_n 3, 1) := by decide +kernel
theorem d_La_turnApart_47 : decode b_La_turnApart 47 = .ok (.invokevirtual 200, 3) := by decide +kernel
theorem d_La_turnApart_50 : decode b_La_turnApart 50 = .ok (.goto 87, 3) := by decide +kernel
theorem d_La_turnApart_53 : decode b_La_turnApart 53 = .ok (.aload_n 0, 1) := by decide +kernel
theorem d_La_turnApart_54 : decode b_La_turnApart 54 = .ok (.iload_n 3, 1) := by decide +kernel
theorem d_La_turnApart_55 : decode b_La_turnApart 55 = .ok (.invokevirtual 194, 3) := by decide +kernel
theorem d_La_turnApart_58 : decode b_La_turnApart 58 = .ok (.goto 79, 3) := by decide +kernel
theorem d_La_turnApart_61 : decode b_La_turnApart 61 = .ok (.aload_n 0, 1) := by decide +kernel
theorem d_La_turnApart_62 : decode b_La_turnApart 62 = .ok (.bipush 11, 2) := by decide +kernel
theorem d_La_turnApart_64 : decode b_La_turnApart 64 = .ok (.aload_n 0, 1) := by decide +kernel
theorem d_La_turnApart_65 : decode b_La_turnApart 65 = .ok (.getfield 12, 3) := by decide +kernel
theorem d_La_turnApart_68 : decode b_La_turnApart 68 = .ok (.getfield 172, 3) := by decide +kernel
theorem d_La_turnApart_71 : decode b_La_turnApart 71 = .ok (.iload_n 3, 1) := by decide +kernel
theorem d_La_turnApart_72 : decode b_La_turnApart 72 = .ok (.iaload, 1) := by decide +kernel
theorem d_La_turnApart_73 : decode b_La_turnApart 73 = .ok (.aload_n 0, 1) := by decide +kernel
theorem d_La_turnApart_74 : decode b_La_turnApart 74 = .ok (.getfield 12, 3) := by decide +kernel
theorem d_La_turnApart_77 : decode b_La_turnApart 77 = .ok (.getfield 184, 3) := by decide +kernel
theorem d_La_turnApart_80 : decode b_La_turnApart 80 = .ok (.iload_n 3, 1) := by decide +kernel
theorem d_La_turnApart_81 : decode b_La_turnApart 81 = .ok (.iaload, 1) := by decide +kernel
theorem d_La_turnApart_82 : decode b_La_turnApart 82 = .ok (.invokevirtual 95, 3) := by decide +kernel
theorem d_La_turnApart_85 : decode b_La_turnApart 85 = .ok (.aload_n 0, 1) := by decide +kernel
theorem d_La_turnApart_86 : decode b_La_turnApart 86 = .ok (.getfield 21, 3) := by decide +kernel
theorem d_La_turnApart_89 : decode b_La_turnApart 89 = .ok (.getfield 113, 3) := by decide +kernel
theorem d_La_turnApart_92 : decode b_La_turnApart 92 = .ok (.iload_n 1, 1) := by decide +kernel
theorem d_La_turnApart_93 : decode b_La_turnApart 93 = .ok (.iconst 3, 1) := by decide +kernel
theorem d_La_turnApart_94 : decode b_La_turnApart 94 = .ok (.iastore, 1) := by decide +kernel
theorem d_La_turnApart_95 : decode b_La_turnApart 95 = .ok (.goto 42, 3) := by decide +kernel
theorem d_La_turnApart_98 : decode b_La_turnApart 98 = .ok (.aload_n 0, 1) := by decide +kernel
theorem d_La_turnApart_99 : decode b_La_turnApart 99 = .ok (.iload_n 3, 1) := by decide +kernel
theorem d_La_turnApart_100 : decode b_La_turnApart 100 = .ok (.invokevirtual 203, 3) := by decide +kernel
theorem d_La_turnApart_103 : decode b_La_turnApart 103 = .ok (.goto 34, 3) := by decide +kernel
theorem d_La_turnApart_106 : decode b_La_turnApart 106 = .ok (.aload_n 0, 1) := by decide +kernel
theorem d_La_turnApart_107 : decode b_La_turnApart 107 = .ok (.bipush 16, 2) := by decide +kernel
theorem d_La_turnApart_109 : decode b_La_turnApart 109 = .ok (.aload_n 0, 1) := by decide +kernel
theorem d_La_turnApart_110 : decode b_La_turnApart 110 = .ok (.getfield 12, 3) := by decide +kernel
theorem d_La_turnApart_113 : decode b_La_turnApart 113 = .ok (.getfield 206, 3) := by decide +kernel
theorem d_La_turnApart_116 : decode b_La_turnApart 116 = .ok (.iload_n 3, 1) := by decide +kernel
theorem d_La_turnApart_117 : decode b_La_turnApart 117 = .ok (.iaload, 1) := by decide +kernel
theorem d_La_turnApart_118 : decode b_La_turnApart 118 = .ok (.aload_n 0, 1) := by decide +kernel
theorem d_La_turnApart_119 : decode b_La_turnApart 119 = .ok (.getfield 12, 3) := by decide +kernel
theorem d_La_turnApart_122 : decode b_La_turnApart 122 = .ok (.getfield 184, 3) := by decide +kernel
theorem d_La_turnApart_125 : decode b_La_turnApart 125 = .ok (.iload_n 3, 1) := by decide +kernel
theorem d_La_turnApart_126 : decode b_La_turnApart 126 = .ok (.iaload, 1) := by decide +kernel
theorem d_La_turnApart_127 : decode b_La_turnApart 127 = .ok (.invokevirtual 95, 3) := by decide +kernel
theorem d_La_turnApart_130 : decode b_La_turnApart 130 = .ok (.aload_n 0, 1) := by decide +kernel
theorem d_La_turnApart_131 : decode b_La_turnApart 131 = .ok (.getfield 21, 3) := by decide +kernel
theorem d_La_turnApart_134 : decode b_La_turnApart 134 = .ok (.invokevirtual 147, 3) := by decide +kernel
theorem d_La_turnApart_137 : decode b_La_turnApart 137 = .ok (.return_, 1) := by decide +kernel
theorem d_La_setDone_0 : decode b_La_setDone 0 = .ok (.aload_n 0, 1) := by decide +kernel
theorem d_La_setDone_1 : decode b_La_setDone 1 = .ok (.getfield 78, 3) := by decide +kernel
theorem d_La_setDone_4 : decode b_La_setDone 4 = .ok (.sipush 2000, 3) := by decide +kernel
theorem d_La_setDone_7 : decode b_La_setDone 7 = .ok (.if_icmp .ge 23, 3) := by decide +kernel
theorem d_La_setDone_10 : decode b_La_setDone 10 = .ok (.aload_n 0, 1) := by decide +kernel
theorem d_La_setDone_11 : decode b_La_setDone 11 = .ok (.getfield 32, 3) := by decide +kernel
theorem d_La_setDone_14 : decode b_La_setDone 14 = .ok (.aload_n 0, 1) := by decide +kernel
theorem d_La_setDone_15 : decode b_La_setDone 15 = .ok (.getfield 78, 3) := by decide +kernel
theorem d_La_setDone_18 : decode b_La_setDone 18 = .ok (.iload_n 1, 1) := by decide +kernel
theorem d_La_setDone_19 : decode b_La_setDone 19 = .ok (.iastore, 1) := by decide +kernel
theorem d_La_setDone_20 : decode b_La_setDone 20 = .ok (.aload_n 0, 1) := by decide +kernel
theorem d_La_setDone_21 : decode b_La_setDone 21 = .ok (.dup, 1) := by decide +kernel
theorem d_La_setDone_22 : decode b_La_setDone 22 = .ok (.getfield 78, 3) := by decide +kernel
theorem d_La_setDone_25 : decode b_La_setDone 25 = .ok (.iconst 1, 1) := by decide +kernel
theorem d_La_setDone_26 : decode b_La_setDone 26 = .ok (.iadd, 1) := by decide +kernel
theorem d_La_setDone_27 : decode b_La_setDone 27 = .ok (.putfield 78, 3) := by decide +kernel
theorem d_La_setDone_30 : decode b_La_setDone 30 = .ok (.return_, 1) := by decide +kernel
theorem d_Sc_openTry_0 : decode b_Sc_openTry 0 = .ok (.aload_n 0, 1) := by decide +kernel
theorem d_Sc_openTry_1 : decode b_Sc_openTry 1 = .ok (.iload_n 1, 1) := by decide +kernel
theorem d_Sc_openTry_2 : decode b_Sc_openTry 2 = .ok (.invokevirtual 43, 3) := by decide +kernel
theorem d_Sc_openTry_5 : decode b_Sc_openTry 5 = .ok (.istore 4, 2) := by decide +kernel
theorem d_Sc_openTry_7 : decode b_Sc_openTry 7 = .ok (.aload_n 0, 1) := by decide +kernel
theorem d_Sc_openTry_8 : decode b_Sc_openTry 8 = .ok (.getfield 15, 3) := by decide +kernel
theorem d_Sc_openTry_11 : decode b_Sc_openTry 11 = .ok (.iload 4, 2) := by decide +kernel
theorem d_Sc_openTry_13 : decode b_Sc_openTry 13 = .ok (.iload_n 2, 1) := by decide +kernel
theorem d_Sc_openTry_14 : decode b_Sc_openTry 14 = .ok (.iastore, 1) := by decide +kernel
theorem d_Sc_openTry_15 : decode b_Sc_openTry 15 = .ok (.aload_n 0, 1) := by decide +kernel
theorem d_Sc_openTry_16 : decode b_Sc_openTry 16 = .ok (.getfield 18, 3) := by decide +kernel
theorem d_Sc_openTry_19 : decode b_Sc_openTry 19 = .ok (.iload 4, 2) := by decide +kernel
theorem d_Sc_openTry_21 : decode b_Sc_openTry 21 = .ok (.iload_n 3, 1) := by decide +kernel
theorem d_Sc_openTry_22 : decode b_Sc_openTry 22 = .ok (.iastore, 1) := by decide +kernel
theorem d_Sc_openTry_23 : decode b_Sc_openTry 23 = .ok (.aload_n 0, 1) := by decide +kernel
theorem d_Sc_openTry_24 : decode b_Sc_openTry 24 = .ok (.getfield 21, 3) := by decide +kernel
theorem d_Sc_openTry_27 : decode b_Sc_openTry 27 = .ok (.iload 4, 2) := by decide +kernel
theorem d_Sc_openTry_29 : decode b_Sc_openTry 29 = .ok (.aload_n 0, 1) := by decide +kernel
theorem d_Sc_openTry_30 : decode b_Sc_openTry 30 = .ok (.getfield 21, 3) := by decide +kernel
theorem d_Sc_openTry_33 : decode b_Sc_openTry 33 = .ok (.iload_n 1, 1) := by decide +kernel
theorem d_Sc_openTry_34 : decode b_Sc_openTry 34 = .ok (.invokestatic 47, 3) := by decide +kernel
theorem d_Sc_openTry_37 : decode b_Sc_openTry 37 = .ok (.iaload, 1) := by decide +kernel
theorem d_Sc_openTry_38 : decode b_Sc_openTry 38 = .ok (.iastore, 1) := by decide +kernel
theorem d_Sc_openTry_39 : decode b_Sc_openTry 39 = .ok (.iload 4, 2) := by decide +kernel
theorem d_Sc_openTry_41 : decode b_Sc_openTry 41 = .ok (.ireturn, 1) := by decide +kernel
theorem d_La_turnTry_0 : decode b_La_turnTry 0 = .ok (.iload_n 3, 1) := by decide +kernel
theorem d_La_turnTry_1 : decode b_La_turnTry 1 = .ok (.ifCond .ne 69, 3) := by decide +kernel
theorem d_La_turnTry_4 : decode b_La_turnTry 4 = .ok (.aload_n 0, 1) := by decide +kernel
theorem d_La_turnTry_5 : decode b_La_turnTry 5 = .ok (.getfield 12, 3) := by decide +kernel
theorem d_La_turnTry_8 : decode b_La_turnTry 8 = .ok (.aload_n 0, 1) := by decide +kernel
theorem d_La_turnTry_9 : decode b_La_turnTry 9 = .ok (.getfield 21, 3) := by decide +kernel
theorem d_La_turnTry_12 : decode b_La_turnTry 12 = .ok (.getfield 154, 3) := by decide +kernel
theorem d_La_turnTry_15 : decode b_La_turnTry 15 = .ok (.iload_n 1, 1) := by decide +kernel
theorem d_La_turnTry_16 : decode b_La_turnTry 16 = .ok (.iaload, 1) := by decide +kernel
theorem d_La_turnTry_17 : decode b_La_turnTry 17 = .ok (.iload_n 2, 1) := by decide +kernel
theorem d_La_turnTry_18 : decode b_La_turnTry 18 = .ok (.aload_n 0, 1) := by decide +kernel
theorem d_La_turnTry_19 : decode b_La_turnTry 19 = .ok (.getfield 36, 3) := by decide +kernel
theorem d_La_turnTry_22 : decode b_La_turnTry 22 = .ok (.iload_n 2, 1) := by decide +kernel
theorem d_La_turnTry_23 : decode b_La_turnTry 23 = .ok (.iconst 2, 1) := by decide +kernel
theorem d_La_turnTry_24 : decode b_La_turnTry 24 = .ok (.invokevirtual 141, 3) := by decide +kernel
theorem d_La_turnTry_27 : decode b_La_turnTry 27 = .ok (.invokevirtual 190, 3) := by decide +kernel
theorem d_La_turnTry_30 : decode b_La_turnTry 30 = .ok (.istore 4, 2) := by decide +kernel
theorem d_La_turnTry_32 : decode b_La_turnTry 32 = .ok (.aload_n 0, 1) := by decide +kernel
theorem d_La_turnTry_33 : decode b_La_turnTry 33 = .ok (.getfield 21, 3) := by decide +kernel
theorem d_La_turnTry_36 : decode b_La_turnTry 36 = .ok (.getfield 154, 3) := by decide +kernel
theorem d_La_turnTry_39 : decode b_La_turnTry 39 = .ok (.iload_n 1, 1) := by decide +kernel
theorem d_La_turnTry_40 : decode b_La_turnTry 40 = .ok (.iload 4, 2) := by decide +kernel
theorem d_La_turnTry_42 : decode b_La_turnTry 42 = .ok (.iconst 0, 1) := by decide +kernel
theorem d_La_turnTry_43 : decode b_La_turnTry 43 = .ok (.invokestatic 102, 3) := by decide +kernel
theorem d_La_turnTry_46 : decode b_La_turnTry 46 = .ok (.iastore, 1) := by decide +kernel
theorem d_La_turnTry_47 : decode b_La_turnTry 47 = .ok (.aload_n 0, 1) := by decide +kernel
theorem d_La_turnTry_48 : decode b_La_turnTry 48 = .ok (.aload_n 0, 1) := by decide +kernel
theorem d_La_turnTry_49 : decode b_La_turnTry 49 = .ok (.getfield 36, 3) := by decide +kernel
theorem d_La_turnTry_52 : decode b_La_turnTry 52 = .ok (.iload_n 2, 1) := by decide +kernel
theorem d_La_turnTry_53 : decode b_La_turnTry 53 = .ok (.iconst 0, 1) := by decide +kernel
theorem d_La_turnTry_54 : decode b_La_turnTry 54 = .ok (.invokevirtual 141, 3) := by decide +kernel
theorem d_La_turnTry_57 : decode b_La_turnTry 57 = .ok (.aload_n 0, 1) := by decide +kernel
theorem d_La_turnTry_58 : decode b_La_turnTry 58 = .ok (.getfield 21, 3) := by decide +kernel
theorem d_La_turnTry_61 : decode b_La_turnTry 61 = .ok (.getfield 154, 3) := by decide +kernel
theorem d_La_turnTry_64 : decode b_La_turnTry 64 = .ok (.iload_n 1, 1) := by decide +kernel
theorem d_La_turnTry_65 : decode b_La_turnTry 65 = .ok (.iaload, 1) := by decide +kernel
theorem d_La_turnTry_66 : decode b_La_turnTry 66 = .ok (.invokevirtual 86, 3) := by decide +kernel
theorem d_La_turnTry_69 : decode b_La_turnTry 69 = .ok (.return_, 1) := by decide +kernel
theorem d_La_turnTry_70 : decode b_La_turnTry 70 = .ok (.aload_n 0, 1) := by decide +kernel
theorem d_La_turnTry_71 : decode b_La_turnTry 71 = .ok (.getfield 21, 3) := by decide +kernel
theorem d_La_turnTry_74 : decode b_La_turnTry 74 = .ok (.getfield 154, 3) := by decide +kernel
theorem d_La_turnTry_77 : decode b_La_turnTry 77 = .ok (.iload_n 1, 1) := by decide +kernel
theorem d_La_turnTry_78 : decode b_La_turnTry 78 = .ok (.iaload, 1) := by decide +kernel
theorem d_La_turnTry_79 : decode b_La_turnTry 79 = .ok (.invokestatic 166, 3) := by decide +kernel
theorem d_La_turnTry_82 : decode b_La_turnTry 82 = .ok (.istore 4, 2) := by decide +kernel
theorem d_La_turnTry_84 : decode b_La_turnTry 84 = .ok (.iload_n 3, 1) := by decide +kernel
theorem d_La_turnTry_85 : decode b_La_turnTry 85 = .ok (.iconst 1, 1) := by decide +kernel
theorem d_La_turnTry_86 : decode b_La_turnTry 86 = .ok (.if_icmp .ne 12, 3) := by decide +kernel
theorem d_La_turnTry_89 : decode b_La_turnTry 89 = .ok (.aload_n 0, 1) := by decide +kernel
theorem d_La_turnTry_90 : decode b_La_turnTry 90 = .ok (.iload 4, 2) := by decide +kernel
theorem d_La_turnTry_92 : decode b_La_turnTry 92 = .ok (.invokevirtual 194, 3) := by decide +kernel
theorem d_La_turnTry_95 : decode b_La_turnTry 95 = .ok (.goto 33, 3) := by decide +kernel
theorem d_La_turnTry_98 : decode b_La_turnTry 98 = .ok (.aload_n 0, 1) := by decide +kernel
theorem d_La_turnTry_99 : decode b_La_turnTry 99 = .ok (.getfield 12, 3) := by decide +kernel
theorem d_La_turnTry_102 : decode b_La_turnTry 102 = .ok (.getfield 172, 3) := by decide +kernel
theorem d_La_turnTry_105 : decode b_La_turnTry 105 = .ok (.iload 4, 2) := by decide +kernel
theorem d_La_turnTry_107 : decode b_La_turnTry 107 = .ok (.aload_n 0, 1) := by decide +kernel
theorem d_La_turnTry_108 : decode b_La_turnTry 108 = .ok (.getfield 40, 3) := by decide +kernel
theorem d_La_turnTry_111 : decode b_La_turnTry 111 = .ok (.getfield 74, 3) := by decide +kernel
theorem d_La_turnTry_114 : decode b_La_turnTry 114 = .ok (.iastore, 1) := by decide +kernel
theorem d_La_turnTry_115 : decode b_La_turnTry 115 = .ok (.aload_n 0, 1) := by decide +kernel
theorem d_La_turnTry_116 : decode b_La_turnTry 116 = .ok (.iload 4, 2) := by decide +kernel
theorem d_La_turnTry_118 : decode b_La_turnTry 118 = .ok (.invokevirtual 197, 3) := by decide +kernel
theorem d_La_turnTry_121 : decode b_La_turnTry 121 = .ok (.aload_n 0, 1) := by decide +kernel
theorem d_La_turnTry_122 : decode b_La_turnTry 122 = .ok (.getfield 21, 3) := by decide +kernel
theorem d_La_turnTry_125 : decode b_La_turnTry 125 = .ok (.invokevirtual 147, 3) := by decide +kernel
theorem d_La_turnTry_128 : decode b_La_turnTry 128 = .ok (.return_, 1) := by decide +kernel
theorem d_La_partsThen_0 : decode b_La_partsThen 0 = .ok (.iload_n 2, 1) := by decide +kernel
theorem d_La_partsThen_1 : decode b_La_partsThen 1 = .ok (.ifCond .ne 20, 3) := by decide +kernel
theorem d_La_partsThen_4 : decode b_La_partsThen 4 = .ok (.aload_n 0, 1) := by decide +kernel
theorem d_La_partsThen_5 : decode b_La_partsThen 5 = .ok (.iload_n 3, 1) := by decide +kernel
theorem d_La_partsThen_6 : decode b_La_partsThen 6 = .ok (.aload_n 0, 1) := by decide +kernel
theorem d_La_partsThen_7 : decode b_La_partsThen 7 = .ok (.getfield 21, 3) := by decide +kernel
theorem d_La_partsThen_10 : decode b_La_partsThen 10 = .ok (.getfield 154, 3) := by decide +kernel
theorem d_La_partsThen_13 : decode b_La_partsThen 13 = .ok (.iload_n 1, 1) := by decide +kernel
theorem d_La_partsThen_14 : decode b_La_partsThen 14 = .ok (.iaload, 1) := by decide +kernel
theorem d_La_partsThen_15 : decode b_La_partsThen 15 = .ok (.invokevirtual 86, 3) := by decide +kernel
theorem d_La_partsThen_18 : decode b_La_partsThen 18 = .ok (.goto 57, 3) := by decide +kernel
theorem d_La_partsThen_21 : decode b_La_partsThen 21 = .ok (.iload_n 2, 1) := by decide +kernel
theorem d_La_partsThen_22 : decode b_La_partsThen 22 = .ok (.iconst 1, 1) := by decide +kernel
theorem d_La_partsThen_23 : decode b_La_partsThen 23 = .ok (.if_icmp .ne 27, 3) := by decide +kernel
theorem d_La_partsThen_26 : decode b_La_partsThen 26 = .ok (.iload 4, 2) := by decide +kernel
theorem d_La_partsThen_28 : decode b_La_partsThen 28 = .ok (.iconst (-1), 1) := by decide +kernel
theorem d_La_partsThen_29 : decode b_La_partsThen 29 = .ok (.if_icmp .eq 21, 3) := by decide +kernel
theorem d_La_partsThen_32 : decode b_La_partsThen 32 = .ok (.aload_n 0, 1) := by decide +kernel
theorem d_La_partsThen_33 : decode b_La_partsThen 33 = .ok (.iload 4, 2) := by decide +kernel
theorem d_La_partsThen_35 : decode b_La_partsThen 35 = .ok (.aload_n 0, 1) := by decide +kernel
theorem d_La_partsThen_36 : decode b_La_partsThen 36 = .ok (.getfield 21, 3) := by decide +kernel
theorem d_La_partsThen_39 : decode b_La_partsThen 39 = .ok (.getfield 154, 3) := by decide +kernel
theorem d_La_partsThen_42 : decode b_La_partsThen 42 = .ok (.iload_n 1, 1) := by decide +kernel
theorem d_La_partsThen_43 : decode b_La_partsThen 43 = .ok (.iaload, 1) := by decide +kernel
theorem d_La_partsThen_44 : decode b_La_partsThen 44 = .ok (.invokevirtual 86, 3) := by decide +kernel
theorem d_La_partsThen_47 : decode b_La_partsThen 47 = .ok (.goto 28, 3) := by decide +kernel
theorem d_La_partsThen_50 : decode b_La_partsThen 50 = .ok (.iload 5, 2) := by decide +kernel
theorem d_La_partsThen_52 : decode b_La_partsThen 52 = .ok (.iconst (-1), 1) := by decide +kernel
theorem d_La_partsThen_53 : decode b_La_partsThen 53 = .ok (.if_icmp .ne 13, 3) := by decide +kernel
theorem d_La_partsThen_56 : decode b_La_partsThen 56 = .ok (.aload_n 0, 1) := by decide +kernel
theorem d_La_partsThen_57 : decode b_La_partsThen 57 = .ok (.getfield 21, 3) := by decide +kernel
theorem d_La_partsThen_60 : decode b_La_partsThen 60 = .ok (.invokevirtual 147, 3) := by decide +kernel
theorem d_La_partsThen_63 : decode b_La_partsThen 63 = .ok (.goto 12, 3) := by decide +kernel
theorem d_La_partsThen_66 : decode b_La_partsThen 66 = .ok (.aload_n 0, 1) := by decide +kernel
theorem d_La_partsThen_67 : decode b_La_partsThen 67 = .ok (.iload_n 1, 1) := by decide +kernel
theorem d_La_partsThen_68 : decode b_La_partsThen 68 = .ok (.iload 5, 2) := by decide +kernel
theorem d_La_partsThen_70 : decode b_La_partsThen 70 = .ok (.iload 6, 2) := by decide +kernel
theorem d_La_partsThen_72 : decode b_La_partsThen 72 = .ok (.invokevirtual 144, 3) := by decide +kernel
theorem d_La_partsThen_75 : decode b_La_partsThen 75 = .ok (.return_, 1) := by decide +kernel
theorem d_La_turnPlain_0 : decode b_La_turnPlain 0 = .ok (.aload_n 0, 1) := by decide +kernel
theorem d_La_turnPlain_1 : decode b_La_turnPlain 1 = .ok (.getfield 36, 3) := by decide +kernel
theorem d_La_turnPlain_4 : decode b_La_turnPlain 4 = .ok (.iload_n 2, 1) := by decide +kernel
theorem d_La_turnPlain_5 : decode b_La_turnPlain 5 = .ok (.invokevirtual 116, 3) := by decide +kernel
theorem d_La_turnPlain_8 : decode b_La_turnPlain 8 = .ok (.istore 4, 2) := by decide +kernel
theorem d_La_turnPlain_10 : decode b_La_turnPlain 10 = .ok (.aload_n 0, 1) := by decide +kernel
theorem d_La_turnPlain_11 : decode b_La_turnPlain 11 = .ok (.getfield 36, 3) := by decide +kernel
theorem d_La_turnPlain_14 : decode b_La_turnPlain 14 = .ok (.iload_n 2, 1) := by decide +kernel
theorem d_La_turnPlain_15 : decode b_La_turnPlain 15 = .ok (.iconst 0, 1) := by decide +kernel
theorem d_La_turnPlain_16 : decode b_La_turnPlain 16 = .ok (.invokevirtual 141, 3) := by decide +kernel
theorem d_La_turnPlain_19 : decode b_La_turnPlain 19 = .ok (.istore 5, 2) := by decide +kernel
theorem d_La_turnPlain_21 : decode b_La_turnPlain 21 = .ok (.iload 4, 2) := by decide +kernel
theorem d_La_turnPlain_23 : decode b_La_turnPlain 23 = .ok (.tableswitch 186 0 15 #[77, 77, 186, 186, 186, 186, 186, 186, 89, 99, 122, 137, 186, 186, 159, 174], 77) := by decide +kernel
theorem d_La_turnPlain_100 : decode b_La_turnPlain 100 = .ok (.aload_n 0, 1) := by decide +kernel
theorem d_La_turnPlain_101 : decode b_La_turnPlain 101 = .ok (.iload_n 1, 1) := by decide +kernel
theorem d_La_turnPlain_102 : decode b_La_turnPlain 102 = .ok (.iload 4, 2) := by decide +kernel
theorem d_La_turnPlain_104 : decode b_La_turnPlain 104 = .ok (.iload 5, 2) := by decide +kernel
theorem d_La_turnPlain_106 : decode b_La_turnPlain 106 = .ok (.invokevirtual 144, 3) := by decide +kernel
theorem d_La_turnPlain_109 : decode b_La_turnPlain 109 = .ok (.goto 120, 3) := by decide +kernel
theorem d_La_turnPlain_112 : decode b_La_turnPlain 112 = .ok (.aload_n 0, 1) := by decide +kernel
theorem d_La_turnPlain_113 : decode b_La_turnPlain 113 = .ok (.getfield 21, 3) := by decide +kernel
theorem d_La_turnPlain_116 : decode b_La_turnPlain 116 = .ok (.invokevirtual 147, 3) := by decide +kernel
theorem d_La_turnPlain_119 : decode b_La_turnPlain 119 = .ok (.goto 110, 3) := by decide +kernel
theorem d_La_turnPlain_122 : decode b_La_turnPlain 122 = .ok (.aload_n 0, 1) := by decide +kernel
theorem d_La_turnPlain_123 : decode b_La_turnPlain 123 = .ok (.iload_n 1, 1) := by decide +kernel
theorem d_La_turnPlain_124 : decode b_La_turnPlain 124 = .ok (.iload_n 3, 1) := by decide +kernel
theorem d_La_turnPlain_125 : decode b_La_turnPlain 125 = .ok (.aload_n 0, 1) := by decide +kernel
theorem d_La_turnPlain_126 : decode b_La_turnPlain 126 = .ok (.getfield 36, 3) := by decide +kernel
theorem d_La_turnPlain_129 : decode b_La_turnPlain 129 = .ok (.iload_n 2, 1) := by decide +kernel
theorem d_La_turnPlain_130 : decode b_La_turnPlain 130 = .ok (.iconst 1, 1) := by decide +kernel
theorem d_La_turnPlain_131 : decode b_La_turnPlain 131 = .ok (.invokevirtual 141, 3) := by decide +kernel
theorem d_La_turnPlain_134 : decode b_La_turnPlain 134 = .ok (.iconst (-1), 1) := by decide +kernel
theorem d_La_turnPlain_135 : decode b_La_turnPlain 135 = .ok (.bipush 8, 2) := by decide +kernel
theorem d_La_turnPlain_137 : decode b_La_turnPlain 137 = .ok (.iload 5, 2) := by decide +kernel
theorem d_La_turnPlain_139 : decode b_La_turnPlain 139 = .ok (.invokevirtual 150, 3) := by decide +kernel
theorem d_La_turnPlain_142 : decode b_La_turnPlain 142 = .ok (.goto 87, 3) := by decide +kernel
theorem d_La_turnPlain_145 : decode b_La_turnPlain 145 = .ok (.aload_n 0, 1) := by decide +kernel
theorem d_La_turnPlain_146 : decode b_La_turnPlain 146 = .ok (.iload_n 1, 1) := by decide +kernel
theorem d_La_turnPlain_147 : decode b_La_turnPlain 147 = .ok (.iload_n 3, 1) := by decide +kernel
theorem d_La_turnPlain_148 : decode b_La_turnPlain 148 = .ok (.iload 5, 2) := by decide +kernel
theorem d_La_turnPlain_150 : decode b_La_turnPlain 150 = .ok (.iconst (-1), 1) := by decide +kernel
theorem d_La_turnPlain_151 : decode b_La_turnPlain 151 = .ok (.bipush 9, 2) := by decide +kernel
theorem d_La_turnPlain_153 : decode b_La_turnPlain 153 = .ok (.iconst 0, 1) := by decide +kernel
theorem d_La_turnPlain_154 : decode b_La_turnPlain 154 = .ok (.invokevirtual 150, 3) := by decide +kernel
theorem d_La_turnPlain_157 : decode b_La_turnPlain 157 = .ok (.goto 72, 3) := by decide +kernel
theorem d_La_turnPlain_160 : decode b_La_turnPlain 160 = .ok (.aload_n 0, 1) := by decide +kernel
theorem d_La_turnPlain_161 : decode b_La_turnPlain 161 = .ok (.iload_n 1, 1) := by decide +kernel
theorem d_La_turnPlain_162 : decode b_La_turnPlain 162 = .ok (.iload_n 3, 1) := by decide +kernel
theorem d_La_turnPlain_163 : decode b_La_turnPlain 163 = .ok (.iload 5, 2) := by decide +kernel
theorem d_La_turnPlain_165 : decode b_La_turnPlain 165 = .ok (.aload_n 0, 1) := by decide +kernel
theorem d_La_turnPlain_166 : decode b_La_turnPlain 166 = .ok (.getfield 36, 3) := by decide +kernel
theorem d_La_turnPlain_169 : decode b_La_turnPlain 169 = .ok (.iload_n 2, 1) := by decide +kernel
theorem d_La_turnPlain_170 : decode b_La_turnPlain 170 = .ok (.iconst 1, 1) := by decide +kernel
theorem d_La_turnPlain_171 : decode b_La_turnPlain 171 = .ok (.invokevirtual 141, 3) := by decide +kernel
theorem d_La_turnPlain_174 : decode b_La_turnPlain 174 = .ok (.iconst (-1), 1) := by decide +kernel
theorem d_La_turnPlain_175 : decode b_La_turnPlain 175 = .ok (.iconst 0, 1) := by decide +kernel
theorem d_La_turnPlain_176 : decode b_La_turnPlain 176 = .ok (.invokevirtual 150, 3) := by decide +kernel
theorem d_La_turnPlain_179 : decode b_La_turnPlain 179 = .ok (.goto 50, 3) := by decide +kernel
theorem d_La_turnPlain_182 : decode b_La_turnPlain 182 = .ok (.aload_n 0, 1) := by decide +kernel
theorem d_La_turnPlain_183 : decode b_La_turnPlain 183 = .ok (.iload_n 1, 1) := by decide +kernel
theorem d_La_turnPlain_184 : decode b_La_turnPlain 184 = .ok (.iload_n 3, 1) := by decide +kernel
theorem d_La_turnPlain_185 : decode b_La_turnPlain 185 = .ok (.iload 5, 2) := by decide +kernel
theorem d_La_turnPlain_187 : decode b_La_turnPlain 187 = .ok (.iconst (-1), 1) := by decide +kernel
theorem d_La_turnPlain_188 : decode b_La_turnPlain 188 = .ok (.bipush 12, 2) := by decide +kernel
theorem d_La_turnPlain_190 : decode b_La_turnPlain 190 = .ok (.iconst 0, 1) := by decide +kernel
theorem d_La_turnPlain_191 : decode b_La_turnPlain 191 = .ok (.invokevirtual 150, 3) := by decide +kernel
theorem d_La_turnPlain_194 : decode b_La_turnPlain 194 = .ok (.goto 35, 3) := by decide +kernel
theorem d_La_turnPlain_197 : decode b_La_turnPlain 197 = .ok (.aload_n 0, 1) := by decide +kernel
theorem d_La_turnPlain_198 : decode b_La_turnPlain 198 = .ok (.iload_n 1, 1) := by decide +kernel
theorem d_La_turnPlain_199 : decode b_La_turnPlain 199 = .ok (.bipush 13, 2) := by decide +kernel
theorem d_La_turnPlain_201 : decode b_La_turnPlain 201 = .ok (.iload 5, 2) := by decide +kernel
theorem d_La_turnPlain_203 : decode b_La_turnPlain 203 = .ok (.invokevirtual 144, 3) := by decide +kernel
theorem d_La_turnPlain_206 : decode b_La_turnPlain 206 = .ok (.goto 23, 3) := by decide +kernel
theorem d_La_turnPlain_209 : decode b_La_turnPlain 209 = .ok (.aload_n 0, 1) := by decide +kernel
theorem d_La_turnPlain_210 : decode b_La_turnPlain 210 = .ok (.iload_n 1, 1) := by decide +kernel
theorem d_La_turnPlain_211 : decode b_La_turnPlain 211 = .ok (.iload_n 3, 1) := by decide +kernel
theorem d_La_turnPlain_212 : decode b_La_turnPlain 212 = .ok (.iload 5, 2) := by decide +kernel
theorem d_La_turnPlain_214 : decode b_La_turnPlain 214 = .ok (.aload_n 0, 1) := by decide +kernel
theorem d_La_turnPlain_215 : decode b_La_turnPlain 215 = .ok (.getfield 36, 3) := by decide +kernel
theorem d_La_turnPlain_218 : decode b_La_turnPlain 218 = .ok (.iload_n 2, 1) := by decide +kernel
theorem d_La_turnPlain_219 : decode b_La_turnPlain 219 = .ok (.iconst 1, 1) := by decide +kernel
theorem d_La_turnPlain_220 : decode b_La_turnPlain 220 = .ok (.invokevirtual 141, 3) := by decide +kernel
theorem d_La_turnPlain_223 : decode b_La_turnPlain 223 = .ok (.iload 4, 2) := by decide +kernel
theorem d_La_turnPlain_225 : decode b_La_turnPlain 225 = .ok (.iconst 0, 1) := by decide +kernel
theorem d_La_turnPlain_226 : decode b_La_turnPlain 226 = .ok (.invokevirtual 150, 3) := by decide +kernel
theorem d_La_turnPlain_229 : decode b_La_turnPlain 229 = .ok (.return_, 1) := by decide +kernel
theorem d_La_takeTurns_0 : decode b_La_takeTurns 0 = .ok (.iconst 0, 1) := by decide +kernel
theorem d_La_takeTurns_1 : decode b_La_takeTurns 1 = .ok (.istore_n 1, 1) := by decide +kernel
theorem d_La_takeTurns_2 : decode b_La_takeTurns 2 = .ok (.iload_n 1, 1) := by decide +kernel
theorem d_La_takeTurns_3 : decode b_La_takeTurns 3 = .ok (.ldc 109, 2) := by decide +kernel
theorem d_La_takeTurns_5 : decode b_La_takeTurns 5 = .ok (.if_icmp .ge 194, 3) := by decide +kernel
theorem d_La_takeTurns_8 : decode b_La_takeTurns 8 = .ok (.aload_n 0, 1) := by decide +kernel
theorem d_La_takeTurns_9 : decode b_La_takeTurns 9 = .ok (.getfield 21, 3) := by decide +kernel
theorem d_La_takeTurns_12 : decode b_La_takeTurns 12 = .ok (.getfield 50, 3) := by decide +kernel
theorem d_La_takeTurns_15 : decode b_La_takeTurns 15 = .ok (.ifCond .le 184, 3) := by decide +kernel
theorem d_La_takeTurns_18 : decode b_La_takeTurns 18 = .ok (.aload_n 0, 1) := by decide +kernel
theorem d_La_takeTurns_19 : decode b_La_takeTurns 19 = .ok (.getfield 61, 3) := by decide +kernel
theorem d_La_takeTurns_22 : decode b_La_takeTurns 22 = .ok (.ifCond .ne 177, 3) := by decide +kernel
theorem d_La_takeTurns_25 : decode b_La_takeTurns 25 = .ok (.aload_n 0, 1) := by decide +kernel
theorem d_La_takeTurns_26 : decode b_La_takeTurns 26 = .ok (.getfield 21, 3) := by decide +kernel
theorem d_La_takeTurns_29 : decode b_La_takeTurns 29 = .ok (.getfield 50, 3) := by decide +kernel
theorem d_La_takeTurns_32 : decode b_La_takeTurns 32 = .ok (.iconst 1, 1) := by decide +kernel
theorem d_La_takeTurns_33 : decode b_La_takeTurns 33 = .ok (.isub, 1) := by decide +kernel
theorem d_La_takeTurns_34 : decode b_La_takeTurns 34 = .ok (.istore_n 2, 1) := by decide +kernel
theorem d_La_takeTurns_35 : decode b_La_takeTurns 35 = .ok (.aload_n 0, 1) := by decide +kernel
theorem d_La_takeTurns_36 : decode b_La_takeTurns 36 = .ok (.getfield 21, 3) := by decide +kernel
theorem d_La_takeTurns_39 : decode b_La_takeTurns 39 = .ok (.getfield 110, 3) := by decide +kernel
theorem d_La_takeTurns_42 : decode b_La_takeTurns 42 = .ok (.iload_n 2, 1) := by decide +kernel
theorem d_La_takeTurns_43 : decode b_La_takeTurns 43 = .ok (.iaload, 1) := by decide +kernel
theorem d_La_takeTurns_44 : decode b_La_takeTurns 44 = .ok (.istore_n 3, 1) := by decide +kernel
theorem d_La_takeTurns_45 : decode b_La_takeTurns 45 = .ok (.aload_n 0, 1) := by decide +kernel
theorem d_La_takeTurns_46 : decode b_La_takeTurns 46 = .ok (.getfield 21, 3) := by decide +kernel
theorem d_La_takeTurns_49 : decode b_La_takeTurns 49 = .ok (.getfield 113, 3) := by decide +kernel
theorem d_La_takeTurns_52 : decode b_La_takeTurns 52 = .ok (.iload_n 2, 1) := by decide +kernel
theorem d_La_takeTurns_53 : decode b_La_takeTurns 53 = .ok (.iaload, 1) := by decide +kernel
theorem d_La_takeTurns_54 : decode b_La_takeTurns 54 = .ok (.istore 4, 2) := by decide +kernel
theorem d_La_takeTurns_56 : decode b_La_takeTurns 56 = .ok (.aload_n 0, 1) := by decide +kernel
theorem d_La_takeTurns_57 : decode b_La_takeTurns 57 = .ok (.getfield 21, 3) := by decide +kernel
theorem d_La_takeTurns_60 : decode b_La_takeTurns 60 = .ok (.getfield 113, 3) := by decide +kernel
theorem d_La_takeTurns_63 : decode b_La_takeTurns 63 = .ok (.iload_n 2, 1) := by decide +kernel
theorem d_La_takeTurns_64 : decode b_La_takeTurns 64 = .ok (.iload 4, 2) := by decide +kernel
theorem d_La_takeTurns_66 : decode b_La_takeTurns 66 = .ok (.iconst 1, 1) := by decide +kernel
theorem d_La_takeTurns_67 : decode b_La_takeTurns 67 = .ok (.iadd, 1) := by decide +kernel
theorem d_La_takeTurns_68 : decode b_La_takeTurns 68 = .ok (.iastore, 1) := by decide +kernel
theorem d_La_takeTurns_69 : decode b_La_takeTurns 69 = .ok (.aload_n 0, 1) := by decide +kernel
theorem d_La_takeTurns_70 : decode b_La_takeTurns 70 = .ok (.getfield 36, 3) := by decide +kernel
theorem d_La_takeTurns_73 : decode b_La_takeTurns 73 = .ok (.iload_n 3, 1) := by decide +kernel
theorem d_La_takeTurns_74 : decode b_La_takeTurns 74 = .ok (.invokevirtual 116, 3) := by decide +kernel
theorem d_La_takeTurns_77 : decode b_La_takeTurns 77 = .ok (.tableswitch 108 12 18 #[43, 54, 108, 108, 65, 73, 81], 43) := by decide +kernel
theorem d_La_takeTurns_120 : decode b_La_takeTurns 120 = .ok (.aload_n 0, 1) := by decide +kernel
theorem d_La_takeTurns_121 : decode b_La_takeTurns 121 = .ok (.iload_n 2, 1) := by decide +kernel
theorem d_La_takeTurns_122 : decode b_La_takeTurns 122 = .ok (.iload_n 3, 1) := by decide +kernel
theorem d_La_takeTurns_123 : decode b_La_takeTurns 123 = .ok (.iload 4, 2) := by decide +kernel
theorem d_La_takeTurns_125 : decode b_La_takeTurns 125 = .ok (.invokevirtual 120, 3) := by decide +kernel
theorem d_La_takeTurns_128 : decode b_La_takeTurns 128 = .ok (.goto 65, 3) := by decide +kernel
theorem d_La_takeTurns_131 : decode b_La_takeTurns 131 = .ok (.aload_n 0, 1) := by decide +kernel
theorem d_La_takeTurns_132 : decode b_La_takeTurns 132 = .ok (.iload_n 2, 1) := by decide +kernel
theorem d_La_takeTurns_133 : decode b_La_takeTurns 133 = .ok (.iload_n 3, 1) := by decide +kernel
theorem d_La_takeTurns_134 : decode b_La_takeTurns 134 = .ok (.iload 4, 2) := by decide +kernel
theorem d_La_takeTurns_136 : decode b_La_takeTurns 136 = .ok (.invokevirtual 123, 3) := by decide +kernel
theorem d_La_takeTurns_139 : decode b_La_takeTurns 139 = .ok (.goto 54, 3) := by decide +kernel
theorem d_La_takeTurns_142 : decode b_La_takeTurns 142 = .ok (.aload_n 0, 1) := by decide +kernel
theorem d_La_takeTurns_143 : decode b_La_takeTurns 143 = .ok (.iload_n 2, 1) := by decide +kernel
theorem d_La_takeTurns_144 : decode b_La_takeTurns 144 = .ok (.invokevirtual 126, 3) := by decide +kernel
theorem d_La_takeTurns_147 : decode b_La_takeTurns 147 = .ok (.goto 46, 3) := by decide +kernel
theorem d_La_takeTurns_150 : decode b_La_takeTurns 150 = .ok (.aload_n 0, 1) := by decide +kernel
theorem d_La_takeTurns_151 : decode b_La_takeTurns 151 = .ok (.iload_n 2, 1) := by decide +kernel
theorem d_La_takeTurns_152 : decode b_La_takeTurns 152 = .ok (.invokevirtual 129, 3) := by decide +kernel
theorem d_La_takeTurns_155 : decode b_La_takeTurns 155 = .ok (.goto 38, 3) := by decide +kernel
theorem d_La_takeTurns_158 : decode b_La_takeTurns 158 = .ok (.iload 4, 2) := by decide +kernel
theorem d_La_takeTurns_160 : decode b_La_takeTurns 160 = .ok (.iconst 3, 1) := by decide +kernel
theorem d_La_takeTurns_161 : decode b_La_takeTurns 161 = .ok (.if_icmp .ge 14, 3) := by decide +kernel
theorem d_La_takeTurns_164 : decode b_La_takeTurns 164 = .ok (.aload_n 0, 1) := by decide +kernel
theorem d_La_takeTurns_165 : decode b_La_takeTurns 165 = .ok (.iload_n 2, 1) := by decide +kernel
theorem d_La_takeTurns_166 : decode b_La_takeTurns 166 = .ok (.iload_n 3, 1) := by decide +kernel
theorem d_La_takeTurns_167 : decode b_La_takeTurns 167 = .ok (.iload 4, 2) := by decide +kernel
theorem d_La_takeTurns_169 : decode b_La_takeTurns 169 = .ok (.invokevirtual 132, 3) := by decide +kernel
theorem d_La_takeTurns_172 : decode b_La_takeTurns 172 = .ok (.goto 21, 3) := by decide +kernel
theorem d_La_takeTurns_175 : decode b_La_takeTurns 175 = .ok (.aload_n 0, 1) := by decide +kernel
theorem d_La_takeTurns_176 : decode b_La_takeTurns 176 = .ok (.iload_n 2, 1) := by decide +kernel
theorem d_La_takeTurns_177 : decode b_La_takeTurns 177 = .ok (.iload 4, 2) := by decide +kernel
theorem d_La_takeTurns_179 : decode b_La_takeTurns 179 = .ok (.invokevirtual 135, 3) := by decide +kernel
theorem d_La_takeTurns_182 : decode b_La_takeTurns 182 = .ok (.goto 11, 3) := by decide +kernel
theorem d_La_takeTurns_185 : decode b_La_takeTurns 185 = .ok (.aload_n 0, 1) := by decide +kernel
theorem d_La_takeTurns_186 : decode b_La_takeTurns 186 = .ok (.iload_n 2, 1) := by decide +kernel
theorem d_La_takeTurns_187 : decode b_La_takeTurns 187 = .ok (.iload_n 3, 1) := by decide +kernel
theorem d_La_takeTurns_188 : decode b_La_takeTurns 188 = .ok (.iload 4, 2) := by decide +kernel
theorem d_La_takeTurns_190 : decode b_La_takeTurns 190 = .ok (.invokevirtual 138, 3) := by decide +kernel
theorem d_La_takeTurns_193 : decode b_La_takeTurns 193 = .ok (.iinc 1 1, 3) := by decide +kernel
theorem d_La_takeTurns_196 : decode b_La_takeTurns 196 = .ok (.goto (-194), 3) := by decide +kernel
theorem d_La_takeTurns_199 : decode b_La_takeTurns 199 = .ok (.return_, 1) := by decide +kernel
end
section
theorem d_La_layFunction_0 : decode b_La_layFunction 0 = .ok (.aload_n 0, 1) := by decide +kernel
theorem d_La_layFunction_1 : decode b_La_layFunction 1 = .ok (.getfield 40, 3) := by decide +kernel
theorem d_La_layFunction_4 : decode b_La_layFunction 4 = .ok (.getfield 75, 3) := by decide +kernel
theorem d_La_layFunction_7 : decode b_La_layFunction 7 = .ok (.iload_n 1, 1) := by decide +kernel
theorem d_La_layFunction_8 : decode b_La_layFunction 8 = .ok (.aload_n 0, 1) := by decide +kernel
theorem d_La_layFunction_9 : decode b_La_layFunction 9 = .ok (.getfield 40, 3) := by decide +kernel
theorem d_La_layFunction_12 : decode b_La_layFunction 12 = .ok (.getfield 74, 3) := by decide +kernel
theorem d_La_layFunction_15 : decode b_La_layFunction 15 = .ok (.iastore, 1) := by decide +kernel
theorem d_La_layFunction_16 : decode b_La_layFunction 16 = .ok (.aload_n 0, 1) := by decide +kernel
theorem d_La_layFunction_17 : decode b_La_layFunction 17 = .ok (.iconst 0, 1) := by decide +kernel
theorem d_La_layFunction_18 : decode b_La_layFunction 18 = .ok (.putfield 78, 3) := by decide +kernel
theorem d_La_layFunction_21 : decode b_La_layFunction 21 = .ok (.aload_n 0, 1) := by decide +kernel
theorem d_La_layFunction_22 : decode b_La_layFunction 22 = .ok (.getfield 36, 3) := by decide +kernel
theorem d_La_layFunction_25 : decode b_La_layFunction 25 = .ok (.getfield 81, 3) := by decide +kernel
theorem d_La_layFunction_28 : decode b_La_layFunction 28 = .ok (.iload_n 1, 1) := by decide +kernel
theorem d_La_layFunction_29 : decode b_La_layFunction 29 = .ok (.iaload, 1) := by decide +kernel
theorem d_La_layFunction_30 : decode b_La_layFunction 30 = .ok (.istore_n 2, 1) := by decide +kernel
theorem d_La_layFunction_31 : decode b_La_layFunction 31 = .ok (.iload_n 2, 1) := by decide +kernel
theorem d_La_layFunction_32 : decode b_La_layFunction 32 = .ok (.iconst (-1), 1) := by decide +kernel
theorem d_La_layFunction_33 : decode b_La_layFunction 33 = .ok (.if_icmp .eq 13, 3) := by decide +kernel
theorem d_La_layFunction_36 : decode b_La_layFunction 36 = .ok (.aload_n 0, 1) := by decide +kernel
theorem d_La_layFunction_37 : decode b_La_layFunction 37 = .ok (.iload_n 2, 1) := by decide +kernel
theorem d_La_layFunction_38 : decode b_La_layFunction 38 = .ok (.iconst 0, 1) := by decide +kernel
theorem d_La_layFunction_39 : decode b_La_layFunction 39 = .ok (.invokevirtual 86, 3) := by decide +kernel
theorem d_La_layFunction_42 : decode b_La_layFunction 42 = .ok (.aload_n 0, 1) := by decide +kernel
theorem d_La_layFunction_43 : decode b_La_layFunction 43 = .ok (.invokevirtual 90, 3) := by decide +kernel
theorem d_La_layFunction_46 : decode b_La_layFunction 46 = .ok (.aload_n 0, 1) := by decide +kernel
theorem d_La_layFunction_47 : decode b_La_layFunction 47 = .ok (.bipush 14, 2) := by decide +kernel
theorem d_La_layFunction_49 : decode b_La_layFunction 49 = .ok (.iconst 0, 1) := by decide +kernel
theorem d_La_layFunction_50 : decode b_La_layFunction 50 = .ok (.iconst 0, 1) := by decide +kernel
theorem d_La_layFunction_51 : decode b_La_layFunction 51 = .ok (.invokevirtual 95, 3) := by decide +kernel
theorem d_La_layFunction_54 : decode b_La_layFunction 54 = .ok (.iconst 0, 1) := by decide +kernel
theorem d_La_layFunction_55 : decode b_La_layFunction 55 = .ok (.istore_n 3, 1) := by decide +kernel
theorem d_La_layFunction_56 : decode b_La_layFunction 56 = .ok (.iload_n 3, 1) := by decide +kernel
theorem d_La_layFunction_57 : decode b_La_layFunction 57 = .ok (.sipush 2000, 3) := by decide +kernel
theorem d_La_layFunction_60 : decode b_La_layFunction 60 = .ok (.if_icmp .ge 60, 3) := by decide +kernel
theorem d_La_layFunction_63 : decode b_La_layFunction 63 = .ok (.iload_n 3, 1) := by decide +kernel
theorem d_La_layFunction_64 : decode b_La_layFunction 64 = .ok (.aload_n 0, 1) := by decide +kernel
theorem d_La_layFunction_65 : decode b_La_layFunction 65 = .ok (.getfield 78, 3) := by decide +kernel
theorem d_La_layFunction_68 : decode b_La_layFunction 68 = .ok (.if_icmp .ge 52, 3) := by decide +kernel
theorem d_La_layFunction_71 : decode b_La_layFunction 71 = .ok (.aload_n 0, 1) := by decide +kernel
theorem d_La_layFunction_72 : decode b_La_layFunction 72 = .ok (.getfield 61, 3) := by decide +kernel
theorem d_La_layFunction_75 : decode b_La_layFunction 75 = .ok (.ifCond .ne 45, 3) := by decide +kernel
theorem d_La_layFunction_78 : decode b_La_layFunction 78 = .ok (.aload_n 0, 1) := by decide +kernel
theorem d_La_layFunction_79 : decode b_La_layFunction 79 = .ok (.getfield 32, 3) := by decide +kernel
theorem d_La_layFunction_82 : decode b_La_layFunction 82 = .ok (.iload_n 3, 1) := by decide +kernel
theorem d_La_layFunction_83 : decode b_La_layFunction 83 = .ok (.iaload, 1) := by decide +kernel
theorem d_La_layFunction_84 : decode b_La_layFunction 84 = .ok (.istore 4, 2) := by decide +kernel
theorem d_La_layFunction_86 : decode b_La_layFunction 86 = .ok (.aload_n 0, 1) := by decide +kernel
theorem d_La_layFunction_87 : decode b_La_layFunction 87 = .ok (.getfield 21, 3) := by decide +kernel
theorem d_La_layFunction_90 : decode b_La_layFunction 90 = .ok (.aload_n 0, 1) := by decide +kernel
theorem d_La_layFunction_91 : decode b_La_layFunction 91 = .ok (.getfield 12, 3) := by decide +kernel
theorem d_La_layFunction_94 : decode b_La_layFunction 94 = .ok (.getfield 99, 3) := by decide +kernel
theorem d_La_layFunction_97 : decode b_La_layFunction 97 = .ok (.iload 4, 2) := by decide +kernel
theorem d_La_layFunction_99 : decode b_La_layFunction 99 = .ok (.iaload, 1) := by decide +kernel
theorem d_La_layFunction_100 : decode b_La_layFunction 100 = .ok (.iload 4, 2) := by decide +kernel
theorem d_La_layFunction_102 : decode b_La_layFunction 102 = .ok (.iconst 1, 1) := by decide +kernel
theorem d_La_layFunction_103 : decode b_La_layFunction 103 = .ok (.invokestatic 102, 3) := by decide +kernel
theorem d_La_layFunction_106 : decode b_La_layFunction 106 = .ok (.iconst 3, 1) := by decide +kernel
theorem d_La_layFunction_107 : decode b_La_layFunction 107 = .ok (.invokevirtual 106, 3) := by decide +kernel
theorem d_La_layFunction_110 : decode b_La_layFunction 110 = .ok (.aload_n 0, 1) := by decide +kernel
theorem d_La_layFunction_111 : decode b_La_layFunction 111 = .ok (.invokevirtual 90, 3) := by decide +kernel
theorem d_La_layFunction_114 : decode b_La_layFunction 114 = .ok (.iinc 3 1, 3) := by decide +kernel
theorem d_La_layFunction_117 : decode b_La_layFunction 117 = .ok (.goto (-61), 3) := by decide +kernel
theorem d_La_layFunction_120 : decode b_La_layFunction 120 = .ok (.return_, 1) := by decide +kernel
theorem d_Sc_clear_0 : decode b_Sc_clear 0 = .ok (.aload_n 0, 1) := by decide +kernel
theorem d_Sc_clear_1 : decode b_Sc_clear 1 = .ok (.getfield 15, 3) := by decide +kernel
theorem d_Sc_clear_4 : decode b_Sc_clear 4 = .ok (.iconst 0, 1) := by decide +kernel
theorem d_Sc_clear_5 : decode b_Sc_clear 5 = .ok (.iconst (-1), 1) := by decide +kernel
theorem d_Sc_clear_6 : decode b_Sc_clear 6 = .ok (.iastore, 1) := by decide +kernel
theorem d_Sc_clear_7 : decode b_Sc_clear 7 = .ok (.aload_n 0, 1) := by decide +kernel
theorem d_Sc_clear_8 : decode b_Sc_clear 8 = .ok (.getfield 18, 3) := by decide +kernel
theorem d_Sc_clear_11 : decode b_Sc_clear 11 = .ok (.iconst 0, 1) := by decide +kernel
theorem d_Sc_clear_12 : decode b_Sc_clear 12 = .ok (.iconst (-1), 1) := by decide +kernel
theorem d_Sc_clear_13 : decode b_Sc_clear 13 = .ok (.iastore, 1) := by decide +kernel
theorem d_Sc_clear_14 : decode b_Sc_clear 14 = .ok (.aload_n 0, 1) := by decide +kernel
theorem d_Sc_clear_15 : decode b_Sc_clear 15 = .ok (.iconst 0, 1) := by decide +kernel
theorem d_Sc_clear_16 : decode b_Sc_clear 16 = .ok (.putfield 36, 3) := by decide +kernel
theorem d_Sc_clear_19 : decode b_Sc_clear 19 = .ok (.aload_n 0, 1) := by decide +kernel
theorem d_Sc_clear_20 : decode b_Sc_clear 20 = .ok (.iconst 1, 1) := by decide +kernel
theorem d_Sc_clear_21 : decode b_Sc_clear 21 = .ok (.putfield 40, 3) := by decide +kernel
theorem d_Sc_clear_24 : decode b_Sc_clear 24 = .ok (.return_, 1) := by decide +kernel
theorem d_La_layDown_0 : decode b_La_layDown 0 = .ok (.aload_n 0, 1) := by decide +kernel
theorem d_La_layDown_1 : decode b_La_layDown 1 = .ok (.getfield 40, 3) := by decide +kernel
theorem d_La_layDown_4 : decode b_La_layDown 4 = .ok (.invokevirtual 44, 3) := by decide +kernel
theorem d_La_layDown_7 : decode b_La_layDown 7 = .ok (.aload_n 0, 1) := by decide +kernel
theorem d_La_layDown_8 : decode b_La_layDown 8 = .ok (.getfield 12, 3) := by decide +kernel
theorem d_La_layDown_11 : decode b_La_layDown 11 = .ok (.invokevirtual 49, 3) := by decide +kernel
theorem d_La_layDown_14 : decode b_La_layDown 14 = .ok (.aload_n 0, 1) := by decide +kernel
theorem d_La_layDown_15 : decode b_La_layDown 15 = .ok (.getfield 21, 3) := by decide +kernel
theorem d_La_layDown_18 : decode b_La_layDown 18 = .ok (.iconst 0, 1) := by decide +kernel
theorem d_La_layDown_19 : decode b_La_layDown 19 = .ok (.putfield 50, 3) := by decide +kernel
theorem d_La_layDown_22 : decode b_La_layDown 22 = .ok (.aload_n 0, 1) := by decide +kernel
theorem d_La_layDown_23 : decode b_La_layDown 23 = .ok (.getfield 28, 3) := by decide +kernel
theorem d_La_layDown_26 : decode b_La_layDown 26 = .ok (.iconst 0, 1) := by decide +kernel
theorem d_La_layDown_27 : decode b_La_layDown 27 = .ok (.putfield 54, 3) := by decide +kernel
theorem d_La_layDown_30 : decode b_La_layDown 30 = .ok (.aload_n 0, 1) := by decide +kernel
theorem d_La_layDown_31 : decode b_La_layDown 31 = .ok (.iload_n 1, 1) := by decide +kernel
theorem d_La_layDown_32 : decode b_La_layDown 32 = .ok (.putfield 57, 3) := by decide +kernel
theorem d_La_layDown_35 : decode b_La_layDown 35 = .ok (.aload_n 0, 1) := by decide +kernel
theorem d_La_layDown_36 : decode b_La_layDown 36 = .ok (.iconst 0, 1) := by decide +kernel
theorem d_La_layDown_37 : decode b_La_layDown 37 = .ok (.putfield 61, 3) := by decide +kernel
theorem d_La_layDown_40 : decode b_La_layDown 40 = .ok (.iconst 0, 1) := by decide +kernel
theorem d_La_layDown_41 : decode b_La_layDown 41 = .ok (.istore_n 2, 1) := by decide +kernel
theorem d_La_layDown_42 : decode b_La_layDown 42 = .ok (.iload_n 2, 1) := by decide +kernel
theorem d_La_layDown_43 : decode b_La_layDown 43 = .ok (.bipush 6, 2) := by decide +kernel
theorem d_La_layDown_45 : decode b_La_layDown 45 = .ok (.if_icmp .ge 21, 3) := by decide +kernel
theorem d_La_layDown_48 : decode b_La_layDown 48 = .ok (.aload_n 0, 1) := by decide +kernel
theorem d_La_layDown_49 : decode b_La_layDown 49 = .ok (.getfield 61, 3) := by decide +kernel
theorem d_La_layDown_52 : decode b_La_layDown 52 = .ok (.ifCond .ne 14, 3) := by decide +kernel
theorem d_La_layDown_55 : decode b_La_layDown 55 = .ok (.aload_n 0, 1) := by decide +kernel
theorem d_La_layDown_56 : decode b_La_layDown 56 = .ok (.iload_n 2, 1) := by decide +kernel
theorem d_La_layDown_57 : decode b_La_layDown 57 = .ok (.invokevirtual 64, 3) := by decide +kernel
theorem d_La_layDown_60 : decode b_La_layDown 60 = .ok (.iinc 2 1, 3) := by decide +kernel
theorem d_La_layDown_63 : decode b_La_layDown 63 = .ok (.goto (-21), 3) := by decide +kernel
theorem d_La_layDown_66 : decode b_La_layDown 66 = .ok (.iconst 0, 1) := by decide +kernel
theorem d_La_layDown_67 : decode b_La_layDown 67 = .ok (.istore_n 2, 1) := by decide +kernel
theorem d_La_layDown_68 : decode b_La_layDown 68 = .ok (.iload_n 2, 1) := by decide +kernel
theorem d_La_layDown_69 : decode b_La_layDown 69 = .ok (.aload_n 0, 1) := by decide +kernel
theorem d_La_layDown_70 : decode b_La_layDown 70 = .ok (.getfield 28, 3) := by decide +kernel
theorem d_La_layDown_73 : decode b_La_layDown 73 = .ok (.getfield 54, 3) := by decide +kernel
theorem d_La_layDown_76 : decode b_La_layDown 76 = .ok (.if_icmp .ge 21, 3) := by decide +kernel
theorem d_La_layDown_79 : decode b_La_layDown 79 = .ok (.aload_n 0, 1) := by decide +kernel
theorem d_La_layDown_80 : decode b_La_layDown 80 = .ok (.getfield 61, 3) := by decide +kernel
theorem d_La_layDown_83 : decode b_La_layDown 83 = .ok (.ifCond .ne 14, 3) := by decide +kernel
theorem d_La_layDown_86 : decode b_La_layDown 86 = .ok (.aload_n 0, 1) := by decide +kernel
theorem d_La_layDown_87 : decode b_La_layDown 87 = .ok (.iload_n 2, 1) := by decide +kernel
theorem d_La_layDown_88 : decode b_La_layDown 88 = .ok (.invokevirtual 68, 3) := by decide +kernel
theorem d_La_layDown_91 : decode b_La_layDown 91 = .ok (.iinc 2 1, 3) := by decide +kernel
theorem d_La_layDown_94 : decode b_La_layDown 94 = .ok (.goto (-26), 3) := by decide +kernel
theorem d_La_layDown_97 : decode b_La_layDown 97 = .ok (.aload_n 0, 1) := by decide +kernel
theorem d_La_layDown_98 : decode b_La_layDown 98 = .ok (.getfield 61, 3) := by decide +kernel
theorem d_La_layDown_101 : decode b_La_layDown 101 = .ok (.ifCond .eq 15, 3) := by decide +kernel
theorem d_La_layDown_104 : decode b_La_layDown 104 = .ok (.aload_n 0, 1) := by decide +kernel
theorem d_La_layDown_105 : decode b_La_layDown 105 = .ok (.getfield 40, 3) := by decide +kernel
theorem d_La_layDown_108 : decode b_La_layDown 108 = .ok (.invokevirtual 44, 3) := by decide +kernel
theorem d_La_layDown_111 : decode b_La_layDown 111 = .ok (.aload_n 0, 1) := by decide +kernel
theorem d_La_layDown_112 : decode b_La_layDown 112 = .ok (.getfield 61, 3) := by decide +kernel
theorem d_La_layDown_115 : decode b_La_layDown 115 = .ok (.ireturn, 1) := by decide +kernel
theorem d_La_layDown_116 : decode b_La_layDown 116 = .ok (.aload_n 0, 1) := by decide +kernel
theorem d_La_layDown_117 : decode b_La_layDown 117 = .ok (.invokevirtual 71, 3) := by decide +kernel
theorem d_La_layDown_120 : decode b_La_layDown 120 = .ok (.aload_n 0, 1) := by decide +kernel
theorem d_La_layDown_121 : decode b_La_layDown 121 = .ok (.getfield 40, 3) := by decide +kernel
theorem d_La_layDown_124 : decode b_La_layDown 124 = .ok (.getfield 74, 3) := by decide +kernel
theorem d_La_layDown_127 : decode b_La_layDown 127 = .ok (.ireturn, 1) := by decide +kernel
theorem d_UM_lay_0 : decode b_UM_lay 0 = .ok (.aload_n 0, 1) := by decide +kernel
theorem d_UM_lay_1 : decode b_UM_lay 1 = .ok (.getfield 28, 3) := by decide +kernel
theorem d_UM_lay_4 : decode b_UM_lay 4 = .ok (.iload_n 1, 1) := by decide +kernel
theorem d_UM_lay_5 : decode b_UM_lay 5 = .ok (.invokevirtual 51, 3) := by decide +kernel
theorem d_UM_lay_8 : decode b_UM_lay 8 = .ok (.ireturn, 1) := by decide +kernel
theorem d_Co_stands_0 : decode b_Co_stands 0 = .ok (.aload_n 0, 1) := by decide +kernel
theorem d_Co_stands_1 : decode b_Co_stands 1 = .ok (.getfield 27, 3) := by decide +kernel
theorem d_Co_stands_4 : decode b_Co_stands 4 = .ok (.ifCond .le 7, 3) := by decide +kernel
theorem d_Co_stands_7 : decode b_Co_stands 7 = .ok (.iconst 1, 1) := by decide +kernel
theorem d_Co_stands_8 : decode b_Co_stands 8 = .ok (.goto 4, 3) := by decide +kernel
theorem d_Co_stands_11 : decode b_Co_stands 11 = .ok (.iconst 0, 1) := by decide +kernel
theorem d_Co_stands_12 : decode b_Co_stands 12 = .ok (.ireturn, 1) := by decide +kernel
theorem d_UM_laid_0 : decode b_UM_laid 0 = .ok (.aload_n 0, 1) := by decide +kernel
theorem d_UM_laid_1 : decode b_UM_laid 1 = .ok (.getfield 19, 3) := by decide +kernel
theorem d_UM_laid_4 : decode b_UM_laid 4 = .ok (.invokevirtual 55, 3) := by decide +kernel
theorem d_UM_laid_7 : decode b_UM_laid 7 = .ok (.ifCond .ne 5, 3) := by decide +kernel
theorem d_UM_laid_10 : decode b_UM_laid 10 = .ok (.iconst (-1), 1) := by decide +kernel
theorem d_UM_laid_11 : decode b_UM_laid 11 = .ok (.ireturn, 1) := by decide +kernel
theorem d_UM_laid_12 : decode b_UM_laid 12 = .ok (.iload_n 1, 1) := by decide +kernel
theorem d_UM_laid_13 : decode b_UM_laid 13 = .ok (.tableswitch 63 0 3 #[31, 39, 47, 55], 31) := by decide +kernel
theorem d_UM_laid_44 : decode b_UM_laid 44 = .ok (.aload_n 0, 1) := by decide +kernel
theorem d_UM_laid_45 : decode b_UM_laid 45 = .ok (.getfield 19, 3) := by decide +kernel
theorem d_UM_laid_48 : decode b_UM_laid 48 = .ok (.getfield 59, 3) := by decide +kernel
theorem d_UM_laid_51 : decode b_UM_laid 51 = .ok (.ireturn, 1) := by decide +kernel
theorem d_UM_laid_52 : decode b_UM_laid 52 = .ok (.aload_n 0, 1) := by decide +kernel
theorem d_UM_laid_53 : decode b_UM_laid 53 = .ok (.getfield 19, 3) := by decide +kernel
theorem d_UM_laid_56 : decode b_UM_laid 56 = .ok (.getfield 63, 3) := by decide +kernel
theorem d_UM_laid_59 : decode b_UM_laid 59 = .ok (.ireturn, 1) := by decide +kernel
theorem d_UM_laid_60 : decode b_UM_laid 60 = .ok (.aload_n 0, 1) := by decide +kernel
theorem d_UM_laid_61 : decode b_UM_laid 61 = .ok (.getfield 19, 3) := by decide +kernel
theorem d_UM_laid_64 : decode b_UM_laid 64 = .ok (.getfield 66, 3) := by decide +kernel
theorem d_UM_laid_67 : decode b_UM_laid 67 = .ok (.ireturn, 1) := by decide +kernel
theorem d_UM_laid_68 : decode b_UM_laid 68 = .ok (.aload_n 0, 1) := by decide +kernel
theorem d_UM_laid_69 : decode b_UM_laid 69 = .ok (.getfield 19, 3) := by decide +kernel
theorem d_UM_laid_72 : decode b_UM_laid 72 = .ok (.getfield 69, 3) := by decide +kernel
theorem d_UM_laid_75 : decode b_UM_laid 75 = .ok (.ireturn, 1) := by decide +kernel
theorem d_UM_laid_76 : decode b_UM_laid 76 = .ok (.iconst (-1), 1) := by decide +kernel
theorem d_UM_laid_77 : decode b_UM_laid 77 = .ok (.ireturn, 1) := by decide +kernel
theorem d_UM_entry_0 : decode b_UM_entry 0 = .ok (.aload_n 0, 1) := by decide +kernel
theorem d_UM_entry_1 : decode b_UM_entry 1 = .ok (.getfield 19, 3) := by decide +kernel
theorem d_UM_entry_4 : decode b_UM_entry 4 = .ok (.invokevirtual 55, 3) := by decide +kernel
theorem d_UM_entry_7 : decode b_UM_entry 7 = .ok (.ifCond .eq 22, 3) := by decide +kernel
theorem d_UM_entry_10 : decode b_UM_entry 10 = .ok (.iload_n 1, 1) := by decide +kernel
theorem d_UM_entry_11 : decode b_UM_entry 11 = .ok (.invokestatic 91, 3) := by decide +kernel
theorem d_UM_entry_14 : decode b_UM_entry 14 = .ok (.ifCond .eq 15, 3) := by decide +kernel
theorem d_UM_entry_17 : decode b_UM_entry 17 = .ok (.aload_n 0, 1) := by decide +kernel
theorem d_UM_entry_18 : decode b_UM_entry 18 = .ok (.getfield 19, 3) := by decide +kernel
theorem d_UM_entry_21 : decode b_UM_entry 21 = .ok (.getfield 95, 3) := by decide +kernel
theorem d_UM_entry_24 : decode b_UM_entry 24 = .ok (.iload_n 1, 1) := by decide +kernel
theorem d_UM_entry_25 : decode b_UM_entry 25 = .ok (.iaload, 1) := by decide +kernel
theorem d_UM_entry_26 : decode b_UM_entry 26 = .ok (.goto 4, 3) := by decide +kernel
theorem d_UM_entry_29 : decode b_UM_entry 29 = .ok (.iconst (-1), 1) := by decide +kernel
theorem d_UM_entry_30 : decode b_UM_entry 30 = .ok (.ireturn, 1) := by decide +kernel
theorem d_Ma_pull_0 : decode b_Ma_pull 0 = .ok (.aload_n 0, 1) := by decide +kernel
theorem d_Ma_pull_1 : decode b_Ma_pull 1 = .ok (.getfield 44, 3) := by decide +kernel
theorem d_Ma_pull_4 : decode b_Ma_pull 4 = .ok (.ifCond .ne 5, 3) := by decide +kernel
theorem d_Ma_pull_7 : decode b_Ma_pull 7 = .ok (.iconst 0, 1) := by decide +kernel
theorem d_Ma_pull_8 : decode b_Ma_pull 8 = .ok (.ireturn, 1) := by decide +kernel
theorem d_Ma_pull_9 : decode b_Ma_pull 9 = .ok (.aload_n 0, 1) := by decide +kernel
theorem d_Ma_pull_10 : decode b_Ma_pull 10 = .ok (.dup, 1) := by decide +kernel
theorem d_Ma_pull_11 : decode b_Ma_pull 11 = .ok (.getfield 44, 3) := by decide +kernel
theorem d_Ma_pull_14 : decode b_Ma_pull 14 = .ok (.iconst 1, 1) := by decide +kernel
theorem d_Ma_pull_15 : decode b_Ma_pull 15 = .ok (.isub, 1) := by decide +kernel
theorem d_Ma_pull_16 : decode b_Ma_pull 16 = .ok (.putfield 44, 3) := by decide +kernel
theorem d_Ma_pull_19 : decode b_Ma_pull 19 = .ok (.aload_n 0, 1) := by decide +kernel
theorem d_Ma_pull_20 : decode b_Ma_pull 20 = .ok (.getfield 21, 3) := by decide +kernel
theorem d_Ma_pull_23 : decode b_Ma_pull 23 = .ok (.aload_n 0, 1) := by decide +kernel
theorem d_Ma_pull_24 : decode b_Ma_pull 24 = .ok (.getfield 44, 3) := by decide +kernel
theorem d_Ma_pull_27 : decode b_Ma_pull 27 = .ok (.iaload, 1) := by decide +kernel
theorem d_Ma_pull_28 : decode b_Ma_pull 28 = .ok (.ireturn, 1) := by decide +kernel
theorem d_Co_rowFor_0 : decode b_Co_rowFor 0 = .ok (.iconst 0, 1) := by decide +kernel
theorem d_Co_rowFor_1 : decode b_Co_rowFor 1 = .ok (.istore_n 3, 1) := by decide +kernel
theorem d_Co_rowFor_2 : decode b_Co_rowFor 2 = .ok (.iload_n 3, 1) := by decide +kernel
theorem d_Co_rowFor_3 : decode b_Co_rowFor 3 = .ok (.aload_n 0, 1) := by decide +kernel
theorem d_Co_rowFor_4 : decode b_Co_rowFor 4 = .ok (.getfield 31, 3) := by decide +kernel
theorem d_Co_rowFor_7 : decode b_Co_rowFor 7 = .ok (.if_icmp .ge 78, 3) := by decide +kernel
theorem d_Co_rowFor_10 : decode b_Co_rowFor 10 = .ok (.iload_n 3, 1) := by decide +kernel
theorem d_Co_rowFor_11 : decode b_Co_rowFor 11 = .ok (.iconst 5, 1) := by decide +kernel
theorem d_Co_rowFor_12 : decode b_Co_rowFor 12 = .ok (.imul, 1) := by decide +kernel
theorem d_Co_rowFor_13 : decode b_Co_rowFor 13 = .ok (.istore 4, 2) := by decide +kernel
theorem d_Co_rowFor_15 : decode b_Co_rowFor 15 = .ok (.aload_n 0, 1) := by decide +kernel
theorem d_Co_rowFor_16 : decode b_Co_rowFor 16 = .ok (.getfield 24, 3) := by decide +kernel
theorem d_Co_rowFor_19 : decode b_Co_rowFor 19 = .ok (.iload 4, 2) := by decide +kernel
theorem d_Co_rowFor_21 : decode b_Co_rowFor 21 = .ok (.iaload, 1) := by decide +kernel
theorem d_Co_rowFor_22 : decode b_Co_rowFor 22 = .ok (.iload_n 1, 1) := by decide +kernel
theorem d_Co_rowFor_23 : decode b_Co_rowFor 23 = .ok (.if_icmp .gt 20, 3) := by decide +kernel
theorem d_Co_rowFor_26 : decode b_Co_rowFor 26 = .ok (.iload_n 1, 1) := by decide +kernel
theorem d_Co_rowFor_27 : decode b_Co_rowFor 27 = .ok (.aload_n 0, 1) := by decide +kernel
theorem d_Co_rowFor_28 : decode b_Co_rowFor 28 = .ok (.getfield 24, 3) := by decide +kernel
theorem d_Co_rowFor_31 : decode b_Co_rowFor 31 = .ok (.iload 4, 2) := by decide +kernel
theorem d_Co_rowFor_33 : decode b_Co_rowFor 33 = .ok (.iconst 1, 1) := by decide +kernel
theorem d_Co_rowFor_34 : decode b_Co_rowFor 34 = .ok (.iadd, 1) := by decide +kernel
theorem d_Co_rowFor_35 : decode b_Co_rowFor 35 = .ok (.iaload, 1) := by decide +kernel
theorem d_Co_rowFor_36 : decode b_Co_rowFor 36 = .ok (.if_icmp .ge 7, 3) := by decide +kernel
theorem d_Co_rowFor_39 : decode b_Co_rowFor 39 = .ok (.iconst 1, 1) := by decide +kernel
theorem d_Co_rowFor_40 : decode b_Co_rowFor 40 = .ok (.goto 4, 3) := by decide +kernel
theorem d_Co_rowFor_43 : decode b_Co_rowFor 43 = .ok (.iconst 0, 1) := by decide +kernel
theorem d_Co_rowFor_44 : decode b_Co_rowFor 44 = .ok (.istore 5, 2) := by decide +kernel
theorem d_Co_rowFor_46 : decode b_Co_rowFor 46 = .ok (.iload 5, 2) := by decide +kernel
theorem d_Co_rowFor_48 : decode b_Co_rowFor 48 = .ok (.ifCond .eq 31, 3) := by decide +kernel
theorem d_Co_rowFor_51 : decode b_Co_rowFor 51 = .ok (.aload_n 0, 1) := by decide +kernel
theorem d_Co_rowFor_52 : decode b_Co_rowFor 52 = .ok (.getfield 24, 3) := by decide +kernel
theorem d_Co_rowFor_55 : decode b_Co_rowFor 55 = .ok (.iload 4, 2) := by decide +kernel
theorem d_Co_rowFor_57 : decode b_Co_rowFor 57 = .ok (.iconst 3, 1) := by decide +kernel
theorem d_Co_rowFor_58 : decode b_Co_rowFor 58 = .ok (.iadd, 1) := by decide +kernel
theorem d_Co_rowFor_59 : decode b_Co_rowFor 59 = .ok (.iaload, 1) := by decide +kernel
theorem d_Co_rowFor_60 : decode b_Co_rowFor 60 = .ok (.iload_n 2, 1) := by decide +kernel
theorem d_Co_rowFor_61 : decode b_Co_rowFor 61 = .ok (.if_icmp .gt 18, 3) := by decide +kernel
theorem d_Co_rowFor_64 : decode b_Co_rowFor 64 = .ok (.iload_n 2, 1) := by decide +kernel
theorem d_Co_rowFor_65 : decode b_Co_rowFor 65 = .ok (.aload_n 0, 1) := by decide +kernel
theorem d_Co_rowFor_66 : decode b_Co_rowFor 66 = .ok (.getfield 24, 3) := by decide +kernel
theorem d_Co_rowFor_69 : decode b_Co_rowFor 69 = .ok (.iload 4, 2) := by decide +kernel
theorem d_Co_rowFor_71 : decode b_Co_rowFor 71 = .ok (.iconst 4, 1) := by decide +kernel
theorem d_Co_rowFor_72 : decode b_Co_rowFor 72 = .ok (.iadd, 1) := by decide +kernel
theorem d_Co_rowFor_73 : decode b_Co_rowFor 73 = .ok (.iaload, 1) := by decide +kernel
theorem d_Co_rowFor_74 : decode b_Co_rowFor 74 = .ok (.if_icmp .gt 5, 3) := by decide +kernel
theorem d_Co_rowFor_77 : decode b_Co_rowFor 77 = .ok (.iload_n 3, 1) := by decide +kernel
theorem d_Co_rowFor_78 : decode b_Co_rowFor 78 = .ok (.ireturn, 1) := by decide +kernel
theorem d_Co_rowFor_79 : decode b_Co_rowFor 79 = .ok (.iinc 3 1, 3) := by decide +kernel
theorem d_Co_rowFor_82 : decode b_Co_rowFor 82 = .ok (.goto (-80), 3) := by decide +kernel
theorem d_Co_rowFor_85 : decode b_Co_rowFor 85 = .ok (.iconst (-1), 1) := by decide +kernel
theorem d_Co_rowFor_86 : decode b_Co_rowFor 86 = .ok (.ireturn, 1) := by decide +kernel
theorem d_Ma_push_0 : decode b_Ma_push 0 = .ok (.aload_n 0, 1) := by decide +kernel
theorem d_Ma_push_1 : decode b_Ma_push 1 = .ok (.getfield 44, 3) := by decide +kernel
theorem d_Ma_push_4 : decode b_Ma_push 4 = .ok (.sipush 150, 3) := by decide +kernel
theorem d_Ma_push_7 : decode b_Ma_push 7 = .ok (.if_icmp .ge 23, 3) := by decide +kernel
theorem d_Ma_push_10 : decode b_Ma_push 10 = .ok (.aload_n 0, 1) := by decide +kernel
theorem d_Ma_push_11 : decode b_Ma_push 11 = .ok (.getfield 21, 3) := by decide +kernel
theorem d_Ma_push_14 : decode b_Ma_push 14 = .ok (.aload_n 0, 1) := by decide +kernel
theorem d_Ma_push_15 : decode b_Ma_push 15 = .ok (.getfield 44, 3) := by decide +kernel
theorem d_Ma_push_18 : decode b_Ma_push 18 = .ok (.iload_n 1, 1) := by decide +kernel
theorem d_Ma_push_19 : decode b_Ma_push 19 = .ok (.iastore, 1) := by decide +kernel
theorem d_Ma_push_20 : decode b_Ma_push 20 = .ok (.aload_n 0, 1) := by decide +kernel
theorem d_Ma_push_21 : decode b_Ma_push 21 = .ok (.dup, 1) := by decide +kernel
theorem d_Ma_push_22 : decode b_Ma_push 22 = .ok (.getfield 44, 3) := by decide +kernel
theorem d_Ma_push_25 : decode b_Ma_push 25 = .ok (.iconst 1, 1) := by decide +kernel
theorem d_Ma_push_26 : decode b_Ma_push 26 = .ok (.iadd, 1) := by decide +kernel
theorem d_Ma_push_27 : decode b_Ma_push 27 = .ok (.putfield 44, 3) := by decide +kernel
theorem d_Ma_push_30 : decode b_Ma_push 30 = .ok (.return_, 1) := by decide +kernel
theorem d_Ma_raise_0 : decode b_Ma_raise 0 = .ok (.aload_n 0, 1) := by decide +kernel
theorem d_Ma_raise_1 : decode b_Ma_raise 1 = .ok (.getfield 18, 3) := by decide +kernel
theorem d_Ma_raise_4 : decode b_Ma_raise 4 = .ok (.iconst 4, 1) := by decide +kernel
theorem d_Ma_raise_5 : decode b_Ma_raise 5 = .ok (.dup2, 1) := by decide +kernel
theorem d_Ma_raise_6 : decode b_Ma_raise 6 = .ok (.iaload, 1) := by decide +kernel
theorem d_Ma_raise_7 : decode b_Ma_raise 7 = .ok (.iconst 1, 1) := by decide +kernel
theorem d_Ma_raise_8 : decode b_Ma_raise 8 = .ok (.iadd, 1) := by decide +kernel
theorem d_Ma_raise_9 : decode b_Ma_raise 9 = .ok (.iastore, 1) := by decide +kernel
theorem d_Ma_raise_10 : decode b_Ma_raise 10 = .ok (.aload_n 0, 1) := by decide +kernel
theorem d_Ma_raise_11 : decode b_Ma_raise 11 = .ok (.iconst 0, 1) := by decide +kernel
theorem d_Ma_raise_12 : decode b_Ma_raise 12 = .ok (.putfield 44, 3) := by decide +kernel
theorem d_Ma_raise_15 : decode b_Ma_raise 15 = .ok (.aload_n 0, 1) := by decide +kernel
theorem d_Ma_raise_16 : decode b_Ma_raise 16 = .ok (.getfield 48, 3) := by decide +kernel
theorem d_Ma_raise_19 : decode b_Ma_raise 19 = .ok (.ifCond .le 80, 3) := by decide +kernel
theorem d_Ma_raise_22 : decode b_Ma_raise 22 = .ok (.aload_n 0, 1) := by decide +kernel
theorem d_Ma_raise_23 : decode b_Ma_raise 23 = .ok (.getfield 30, 3) := by decide +kernel
theorem d_Ma_raise_26 : decode b_Ma_raise 26 = .ok (.aload_n 0, 1) := by decide +kernel
theorem d_Ma_raise_27 : decode b_Ma_raise 27 = .ok (.getfield 51, 3) := by decide +kernel
theorem d_Ma_raise_30 : decode b_Ma_raise 30 = .ok (.iload_n 1, 1) := by decide +kernel
theorem d_Ma_raise_31 : decode b_Ma_raise 31 = .ok (.invokevirtual 108, 3) := by decide +kernel
theorem d_Ma_raise_34 : decode b_Ma_raise 34 = .ok (.istore_n 2, 1) := by decide +kernel
theorem d_Ma_raise_35 : decode b_Ma_raise 35 = .ok (.iload_n 2, 1) := by decide +kernel
theorem d_Ma_raise_36 : decode b_Ma_raise 36 = .ok (.iconst (-1), 1) := by decide +kernel
theorem d_Ma_raise_37 : decode b_Ma_raise 37 = .ok (.if_icmp .eq 26, 3) := by decide +kernel
theorem d_Ma_raise_40 : decode b_Ma_raise 40 = .ok (.aload_n 0, 1) := by decide +kernel
theorem d_Ma_raise_41 : decode b_Ma_raise 41 = .ok (.iload_n 1, 1) := by decide +kernel
theorem d_Ma_raise_42 : decode b_Ma_raise 42 = .ok (.invokevirtual 87, 3) := by decide +kernel
theorem d_Ma_raise_45 : decode b_Ma_raise 45 = .ok (.aload_n 0, 1) := by decide +kernel
theorem d_Ma_raise_46 : decode b_Ma_raise 46 = .ok (.aload_n 0, 1) := by decide +kernel
theorem d_Ma_raise_47 : decode b_Ma_raise 47 = .ok (.getfield 30, 3) := by decide +kernel
theorem d_Ma_raise_50 : decode b_Ma_raise 50 = .ok (.getfield 111, 3) := by decide +kernel
theorem d_Ma_raise_53 : decode b_Ma_raise 53 = .ok (.iload_n 2, 1) := by decide +kernel
theorem d_Ma_raise_54 : decode b_Ma_raise 54 = .ok (.iconst 5, 1) := by decide +kernel
theorem d_Ma_raise_55 : decode b_Ma_raise 55 = .ok (.imul, 1) := by decide +kernel
theorem d_Ma_raise_56 : decode b_Ma_raise 56 = .ok (.iconst 2, 1) := by decide +kernel
theorem d_Ma_raise_57 : decode b_Ma_raise 57 = .ok (.iadd, 1) := by decide +kernel
theorem d_Ma_raise_58 : decode b_Ma_raise 58 = .ok (.iaload, 1) := by decide +kernel
theorem d_Ma_raise_59 : decode b_Ma_raise 59 = .ok (.putfield 51, 3) := by decide +kernel
theorem d_Ma_raise_62 : decode b_Ma_raise 62 = .ok (.return_, 1) := by decide +kernel
theorem d_Ma_raise_63 : decode b_Ma_raise 63 = .ok (.aload_n 0, 1) := by decide +kernel
theorem d_Ma_raise_64 : decode b_Ma_raise 64 = .ok (.getfield 48, 3) := by decide +kernel
theorem d_Ma_raise_67 : decode b_Ma_raise 67 = .ok (.iconst 1, 1) := by decide +kernel
theorem d_Ma_raise_68 : decode b_Ma_raise 68 = .ok (.if_icmp .le 18, 3) := by decide +kernel
theorem d_Ma_raise_71 : decode b_Ma_raise 71 = .ok (.aload_n 0, 1) := by decide +kernel
theorem d_Ma_raise_72 : decode b_Ma_raise 72 = .ok (.aload_n 0, 1) := by decide +kernel
theorem d_Ma_raise_73 : decode b_Ma_raise 73 = .ok (.getfield 24, 3) := by decide +kernel
theorem d_Ma_raise_76 : decode b_Ma_raise 76 = .ok (.aload_n 0, 1) := by decide +kernel
theorem d_Ma_raise_77 : decode b_Ma_raise 77 = .ok (.getfield 48, 3) := by decide +kernel
theorem d_Ma_raise_80 : decode b_Ma_raise 80 = .ok (.iconst 2, 1) := by decide +kernel
theorem d_Ma_raise_81 : decode b_Ma_raise 81 = .ok (.isub, 1) := by decide +kernel
theorem d_Ma_raise_82 : decode b_Ma_raise 82 = .ok (.iaload, 1) := by decide +kernel
theorem d_Ma_raise_83 : decode b_Ma_raise 83 = .ok (.putfield 51, 3) := by decide +kernel
theorem d_Ma_raise_86 : decode b_Ma_raise 86 = .ok (.aload_n 0, 1) := by decide +kernel
theorem d_Ma_raise_87 : decode b_Ma_raise 87 = .ok (.dup, 1) := by decide +kernel
theorem d_Ma_raise_88 : decode b_Ma_raise 88 = .ok (.getfield 48, 3) := by decide +kernel
theorem d_Ma_raise_91 : decode b_Ma_raise 91 = .ok (.iconst 1, 1) := by decide +kernel
theorem d_Ma_raise_92 : decode b_Ma_raise 92 = .ok (.isub, 1) := by decide +kernel
theorem d_Ma_raise_93 : decode b_Ma_raise 93 = .ok (.putfield 48, 3) := by decide +kernel
theorem d_Ma_raise_96 : decode b_Ma_raise 96 = .ok (.goto (-81), 3) := by decide +kernel
theorem d_Ma_raise_99 : decode b_Ma_raise 99 = .ok (.aload_n 0, 1) := by decide +kernel
theorem d_Ma_raise_100 : decode b_Ma_raise 100 = .ok (.getfield 18, 3) := by decide +kernel
theorem d_Ma_raise_103 : decode b_Ma_raise 103 = .ok (.iconst 0, 1) := by decide +kernel
theorem d_Ma_raise_104 : decode b_Ma_raise 104 = .ok (.iconst 2, 1) := by decide +kernel
theorem d_Ma_raise_105 : decode b_Ma_raise 105 = .ok (.iastore, 1) := by decide +kernel
theorem d_Ma_raise_106 : decode b_Ma_raise 106 = .ok (.aload_n 0, 1) := by decide +kernel
theorem d_Ma_raise_107 : decode b_Ma_raise 107 = .ok (.getfield 18, 3) := by decide +kernel
theorem d_Ma_raise_110 : decode b_Ma_raise 110 = .ok (.iconst 1, 1) := by decide +kernel
theorem d_Ma_raise_111 : decode b_Ma_raise 111 = .ok (.iload_n 1, 1) := by decide +kernel
theorem d_Ma_raise_112 : decode b_Ma_raise 112 = .ok (.iastore, 1) := by decide +kernel
theorem d_Ma_raise_113 : decode b_Ma_raise 113 = .ok (.return_, 1) := by decide +kernel
theorem d_Ma_enter_0 : decode b_Ma_enter 0 = .ok (.aload_n 0, 1) := by decide +kernel
theorem d_Ma_enter_1 : decode b_Ma_enter 1 = .ok (.getfield 48, 3) := by decide +kernel
theorem d_Ma_enter_4 : decode b_Ma_enter 4 = .ok (.bipush 12, 2) := by decide +kernel
theorem d_Ma_enter_6 : decode b_Ma_enter 6 = .ok (.if_icmp .lt 9, 3) := by decide +kernel
theorem d_Ma_enter_9 : decode b_Ma_enter 9 = .ok (.aload_n 0, 1) := by decide +kernel
theorem d_Ma_enter_10 : decode b_Ma_enter 10 = .ok (.iconst 3, 1) := by decide +kernel
theorem d_Ma_enter_11 : decode b_Ma_enter 11 = .ok (.invokevirtual 69, 3) := by decide +kernel
theorem d_Ma_enter_14 : decode b_Ma_enter 14 = .ok (.return_, 1) := by decide +kernel
theorem d_Ma_enter_15 : decode b_Ma_enter 15 = .ok (.aload_n 0, 1) := by decide +kernel
theorem d_Ma_enter_16 : decode b_Ma_enter 16 = .ok (.getfield 24, 3) := by decide +kernel
theorem d_Ma_enter_19 : decode b_Ma_enter 19 = .ok (.aload_n 0, 1) := by decide +kernel
theorem d_Ma_enter_20 : decode b_Ma_enter 20 = .ok (.getfield 48, 3) := by decide +kernel
theorem d_Ma_enter_23 : decode b_Ma_enter 23 = .ok (.iconst 1, 1) := by decide +kernel
theorem d_Ma_enter_24 : decode b_Ma_enter 24 = .ok (.isub, 1) := by decide +kernel
theorem d_Ma_enter_25 : decode b_Ma_enter 25 = .ok (.aload_n 0, 1) := by decide +kernel
theorem d_Ma_enter_26 : decode b_Ma_enter 26 = .ok (.getfield 51, 3) := by decide +kernel
theorem d_Ma_enter_29 : decode b_Ma_enter 29 = .ok (.iastore, 1) := by decide +kernel
theorem d_Ma_enter_30 : decode b_Ma_enter 30 = .ok (.aload_n 0, 1) := by decide +kernel
theorem d_Ma_enter_31 : decode b_Ma_enter 31 = .ok (.dup, 1) := by decide +kernel
theorem d_Ma_enter_32 : decode b_Ma_enter 32 = .ok (.getfield 48, 3) := by decide +kernel
theorem d_Ma_enter_35 : decode b_Ma_enter 35 = .ok (.iconst 1, 1) := by decide +kernel
theorem d_Ma_enter_36 : decode b_Ma_enter 36 = .ok (.iadd, 1) := by decide +kernel
theorem d_Ma_enter_37 : decode b_Ma_enter 37 = .ok (.putfield 48, 3) := by decide +kernel
theorem d_Ma_enter_40 : decode b_Ma_enter 40 = .ok (.aload_n 0, 1) := by decide +kernel
theorem d_Ma_enter_41 : decode b_Ma_enter 41 = .ok (.getfield 18, 3) := by decide +kernel
theorem d_Ma_enter_44 : decode b_Ma_enter 44 = .ok (.iconst 5, 1) := by decide +kernel
theorem d_Ma_enter_45 : decode b_Ma_enter 45 = .ok (.aload_n 0, 1) := by decide +kernel
theorem d_Ma_enter_46 : decode b_Ma_enter 46 = .ok (.getfield 18, 3) := by decide +kernel
theorem d_Ma_enter_49 : decode b_Ma_enter 49 = .ok (.iconst 5, 1) := by decide +kernel
theorem d_Ma_enter_50 : decode b_Ma_enter 50 = .ok (.iaload, 1) := by decide +kernel
theorem d_Ma_enter_51 : decode b_Ma_enter 51 = .ok (.aload_n 0, 1) := by decide +kernel
theorem d_Ma_enter_52 : decode b_Ma_enter 52 = .ok (.getfield 48, 3) := by decide +kernel
theorem d_Ma_enter_55 : decode b_Ma_enter 55 = .ok (.invokestatic 99, 3) := by decide +kernel
theorem d_Ma_enter_58 : decode b_Ma_enter 58 = .ok (.iastore, 1) := by decide +kernel
theorem d_Ma_enter_59 : decode b_Ma_enter 59 = .ok (.aload_n 0, 1) := by decide +kernel
theorem d_Ma_enter_60 : decode b_Ma_enter 60 = .ok (.aload_n 0, 1) := by decide +kernel
theorem d_Ma_enter_61 : decode b_Ma_enter 61 = .ok (.getfield 30, 3) := by decide +kernel
theorem d_Ma_enter_64 : decode b_Ma_enter 64 = .ok (.getfield 105, 3) := by decide +kernel
theorem d_Ma_enter_67 : decode b_Ma_enter 67 = .ok (.iload_n 1, 1) := by decide +kernel
theorem d_Ma_enter_68 : decode b_Ma_enter 68 = .ok (.iaload, 1) := by decide +kernel
theorem d_Ma_enter_69 : decode b_Ma_enter 69 = .ok (.putfield 51, 3) := by decide +kernel
theorem d_Ma_enter_72 : decode b_Ma_enter 72 = .ok (.return_, 1) := by decide +kernel
theorem d_Ma_goBack_0 : decode b_Ma_goBack 0 = .ok (.aload_n 0, 1) := by decide +kernel
theorem d_Ma_goBack_1 : decode b_Ma_goBack 1 = .ok (.dup, 1) := by decide +kernel
theorem d_Ma_goBack_2 : decode b_Ma_goBack 2 = .ok (.getfield 48, 3) := by decide +kernel
theorem d_Ma_goBack_5 : decode b_Ma_goBack 5 = .ok (.iconst 1, 1) := by decide +kernel
theorem d_Ma_goBack_6 : decode b_Ma_goBack 6 = .ok (.isub, 1) := by decide +kernel
theorem d_Ma_goBack_7 : decode b_Ma_goBack 7 = .ok (.putfield 48, 3) := by decide +kernel
theorem d_Ma_goBack_10 : decode b_Ma_goBack 10 = .ok (.aload_n 0, 1) := by decide +kernel
theorem d_Ma_goBack_11 : decode b_Ma_goBack 11 = .ok (.getfield 48, 3) := by decide +kernel
theorem d_Ma_goBack_14 : decode b_Ma_goBack 14 = .ok (.ifCond .ne 13, 3) := by decide +kernel
theorem d_Ma_goBack_17 : decode b_Ma_goBack 17 = .ok (.aload_n 0, 1) := by decide +kernel
theorem d_Ma_goBack_18 : decode b_Ma_goBack 18 = .ok (.getfield 18, 3) := by decide +kernel
theorem d_Ma_goBack_21 : decode b_Ma_goBack 21 = .ok (.iconst 0, 1) := by decide +kernel
theorem d_Ma_goBack_22 : decode b_Ma_goBack 22 = .ok (.iconst 1, 1) := by decide +kernel
theorem d_Ma_goBack_23 : decode b_Ma_goBack 23 = .ok (.iastore, 1) := by decide +kernel
theorem d_Ma_goBack_24 : decode b_Ma_goBack 24 = .ok (.goto 20, 3) := by decide +kernel
theorem d_Ma_goBack_27 : decode b_Ma_goBack 27 = .ok (.aload_n 0, 1) := by decide +kernel
theorem d_Ma_goBack_28 : decode b_Ma_goBack 28 = .ok (.aload_n 0, 1) := by decide +kernel
theorem d_Ma_goBack_29 : decode b_Ma_goBack 29 = .ok (.getfield 24, 3) := by decide +kernel
theorem d_Ma_goBack_32 : decode b_Ma_goBack 32 = .ok (.aload_n 0, 1) := by decide +kernel
theorem d_Ma_goBack_33 : decode b_Ma_goBack 33 = .ok (.getfield 48, 3) := by decide +kernel
theorem d_Ma_goBack_36 : decode b_Ma_goBack 36 = .ok (.iconst 1, 1) := by decide +kernel
theorem d_Ma_goBack_37 : decode b_Ma_goBack 37 = .ok (.isub, 1) := by decide +kernel
theorem d_Ma_goBack_38 : decode b_Ma_goBack 38 = .ok (.iaload, 1) := by decide +kernel
theorem d_Ma_goBack_39 : decode b_Ma_goBack 39 = .ok (.iconst 1, 1) := by decide +kernel
theorem d_Ma_goBack_40 : decode b_Ma_goBack 40 = .ok (.iadd, 1) := by decide +kernel
theorem d_Ma_goBack_41 : decode b_Ma_goBack 41 = .ok (.putfield 51, 3) := by decide +kernel
theorem d_Ma_goBack_44 : decode b_Ma_goBack 44 = .ok (.return_, 1) := by decide +kernel
theorem d_Ma_placeOf_0 : decode b_Ma_placeOf 0 = .ok (.aload_n 0, 1) := by decide +kernel
theorem d_Ma_placeOf_1 : decode b_Ma_placeOf 1 = .ok (.getfield 48, 3) := by decide +kernel
theorem d_Ma_placeOf_4 : decode b_Ma_placeOf 4 = .ok (.iconst 1, 1) := by decide +kernel
theorem d_Ma_placeOf_5 : decode b_Ma_placeOf 5 = .ok (.isub, 1) := by decide +kernel
theorem d_Ma_placeOf_6 : decode b_Ma_placeOf 6 = .ok (.sipush 150, 3) := by decide +kernel
theorem d_Ma_placeOf_9 : decode b_Ma_placeOf 9 = .ok (.imul, 1) := by decide +kernel
theorem d_Ma_placeOf_10 : decode b_Ma_placeOf 10 = .ok (.iload_n 1, 1) := by decide +kernel
theorem d_Ma_placeOf_11 : decode b_Ma_placeOf 11 = .ok (.iadd, 1) := by decide +kernel
theorem d_Ma_placeOf_12 : decode b_Ma_placeOf 12 = .ok (.ireturn, 1) := by decide +kernel
end
section
theorem d_Ma_combine_0 : decode b_Ma_combine 0 = .ok (.iload_n 0, 1) := by decide +kernel
theorem d_Ma_combine_1 : decode b_Ma_combine 1 = .ok (.tableswitch 70 2 6 #[35, 39, 43, 47, 59], 35) := by decide +kernel
theorem d_Ma_combine_36 : decode b_Ma_combine 36 = .ok (.iload_n 1, 1) := by decide +kernel
theorem d_Ma_combine_37 : decode b_Ma_combine 37 = .ok (.iload_n 2, 1) := by decide +kernel
theorem d_Ma_combine_38 : decode b_Ma_combine 38 = .ok (.iadd, 1) := by decide +kernel
theorem d_Ma_combine_39 : decode b_Ma_combine 39 = .ok (.ireturn, 1) := by decide +kernel
theorem d_Ma_combine_40 : decode b_Ma_combine 40 = .ok (.iload_n 1, 1) := by decide +kernel
theorem d_Ma_combine_41 : decode b_Ma_combine 41 = .ok (.iload_n 2, 1) := by decide +kernel
theorem d_Ma_combine_42 : decode b_Ma_combine 42 = .ok (.isub, 1) := by decide +kernel
theorem d_Ma_combine_43 : decode b_Ma_combine 43 = .ok (.ireturn, 1) := by decide +kernel
theorem d_Ma_combine_44 : decode b_Ma_combine 44 = .ok (.iload_n 1, 1) := by decide +kernel
theorem d_Ma_combine_45 : decode b_Ma_combine 45 = .ok (.iload_n 2, 1) := by decide +kernel
theorem d_Ma_combine_46 : decode b_Ma_combine 46 = .ok (.imul, 1) := by decide +kernel
theorem d_Ma_combine_47 : decode b_Ma_combine 47 = .ok (.ireturn, 1) := by decide +kernel
theorem d_Ma_combine_48 : decode b_Ma_combine 48 = .ok (.iload_n 2, 1) := by decide +kernel
theorem d_Ma_combine_49 : decode b_Ma_combine 49 = .ok (.ifCond .ne 7, 3) := by decide +kernel
theorem d_Ma_combine_52 : decode b_Ma_combine 52 = .ok (.iconst 0, 1) := by decide +kernel
theorem d_Ma_combine_53 : decode b_Ma_combine 53 = .ok (.goto 6, 3) := by decide +kernel
theorem d_Ma_combine_56 : decode b_Ma_combine 56 = .ok (.iload_n 1, 1) := by decide +kernel
theorem d_Ma_combine_57 : decode b_Ma_combine 57 = .ok (.iload_n 2, 1) := by decide +kernel
theorem d_Ma_combine_58 : decode b_Ma_combine 58 = .ok (.idiv, 1) := by decide +kernel
theorem d_Ma_combine_59 : decode b_Ma_combine 59 = .ok (.ireturn, 1) := by decide +kernel
theorem d_Ma_combine_60 : decode b_Ma_combine 60 = .ok (.iload_n 1, 1) := by decide +kernel
theorem d_Ma_combine_61 : decode b_Ma_combine 61 = .ok (.iload_n 2, 1) := by decide +kernel
theorem d_Ma_combine_62 : decode b_Ma_combine 62 = .ok (.if_icmp .ge 7, 3) := by decide +kernel
theorem d_Ma_combine_65 : decode b_Ma_combine 65 = .ok (.iconst 1, 1) := by decide +kernel
theorem d_Ma_combine_66 : decode b_Ma_combine 66 = .ok (.goto 4, 3) := by decide +kernel
theorem d_Ma_combine_69 : decode b_Ma_combine 69 = .ok (.iconst 0, 1) := by decide +kernel
theorem d_Ma_combine_70 : decode b_Ma_combine 70 = .ok (.ireturn, 1) := by decide +kernel
theorem d_Ma_combine_71 : decode b_Ma_combine 71 = .ok (.iload_n 1, 1) := by decide +kernel
theorem d_Ma_combine_72 : decode b_Ma_combine 72 = .ok (.iload_n 2, 1) := by decide +kernel
theorem d_Ma_combine_73 : decode b_Ma_combine 73 = .ok (.if_icmp .ne 7, 3) := by decide +kernel
theorem d_Ma_combine_76 : decode b_Ma_combine 76 = .ok (.iconst 1, 1) := by decide +kernel
theorem d_Ma_combine_77 : decode b_Ma_combine 77 = .ok (.goto 4, 3) := by decide +kernel
theorem d_Ma_combine_80 : decode b_Ma_combine 80 = .ok (.iconst 0, 1) := by decide +kernel
theorem d_Ma_combine_81 : decode b_Ma_combine 81 = .ok (.ireturn, 1) := by decide +kernel
theorem d_Ma_putOut_0 : decode b_Ma_putOut 0 = .ok (.aload_n 0, 1) := by decide +kernel
theorem d_Ma_putOut_1 : decode b_Ma_putOut 1 = .ok (.getfield 18, 3) := by decide +kernel
theorem d_Ma_putOut_4 : decode b_Ma_putOut 4 = .ok (.iconst 3, 1) := by decide +kernel
theorem d_Ma_putOut_5 : decode b_Ma_putOut 5 = .ok (.iaload, 1) := by decide +kernel
theorem d_Ma_putOut_6 : decode b_Ma_putOut 6 = .ok (.bipush 64, 2) := by decide +kernel
theorem d_Ma_putOut_8 : decode b_Ma_putOut 8 = .ok (.if_icmp .ge 25, 3) := by decide +kernel
theorem d_Ma_putOut_11 : decode b_Ma_putOut 11 = .ok (.aload_n 0, 1) := by decide +kernel
theorem d_Ma_putOut_12 : decode b_Ma_putOut 12 = .ok (.getfield 15, 3) := by decide +kernel
theorem d_Ma_putOut_15 : decode b_Ma_putOut 15 = .ok (.aload_n 0, 1) := by decide +kernel
theorem d_Ma_putOut_16 : decode b_Ma_putOut 16 = .ok (.getfield 18, 3) := by decide +kernel
theorem d_Ma_putOut_19 : decode b_Ma_putOut 19 = .ok (.iconst 3, 1) := by decide +kernel
theorem d_Ma_putOut_20 : decode b_Ma_putOut 20 = .ok (.iaload, 1) := by decide +kernel
theorem d_Ma_putOut_21 : decode b_Ma_putOut 21 = .ok (.iload_n 1, 1) := by decide +kernel
theorem d_Ma_putOut_22 : decode b_Ma_putOut 22 = .ok (.iastore, 1) := by decide +kernel
theorem d_Ma_putOut_23 : decode b_Ma_putOut 23 = .ok (.aload_n 0, 1) := by decide +kernel
theorem d_Ma_putOut_24 : decode b_Ma_putOut 24 = .ok (.getfield 18, 3) := by decide +kernel
theorem d_Ma_putOut_27 : decode b_Ma_putOut 27 = .ok (.iconst 3, 1) := by decide +kernel
theorem d_Ma_putOut_28 : decode b_Ma_putOut 28 = .ok (.dup2, 1) := by decide +kernel
theorem d_Ma_putOut_29 : decode b_Ma_putOut 29 = .ok (.iaload, 1) := by decide +kernel
theorem d_Ma_putOut_30 : decode b_Ma_putOut 30 = .ok (.iconst 1, 1) := by decide +kernel
theorem d_Ma_putOut_31 : decode b_Ma_putOut 31 = .ok (.iadd, 1) := by decide +kernel
theorem d_Ma_putOut_32 : decode b_Ma_putOut 32 = .ok (.iastore, 1) := by decide +kernel
theorem d_Ma_putOut_33 : decode b_Ma_putOut 33 = .ok (.return_, 1) := by decide +kernel
theorem d_Ma_doStraight_0 : decode b_Ma_doStraight 0 = .ok (.iload_n 1, 1) := by decide +kernel
theorem d_Ma_doStraight_1 : decode b_Ma_doStraight 1 = .ok (.lookupswitch 113 #[(0, 51), (1, 59), (8, 72), (9, 85), (15, 96)], 51) := by decide +kernel
theorem d_Ma_doStraight_52 : decode b_Ma_doStraight 52 = .ok (.aload_n 0, 1) := by decide +kernel
theorem d_Ma_doStraight_53 : decode b_Ma_doStraight 53 = .ok (.iload_n 2, 1) := by decide +kernel
theorem d_Ma_doStraight_54 : decode b_Ma_doStraight 54 = .ok (.invokevirtual 87, 3) := by decide +kernel
theorem d_Ma_doStraight_57 : decode b_Ma_doStraight 57 = .ok (.goto 94, 3) := by decide +kernel
theorem d_Ma_doStraight_60 : decode b_Ma_doStraight 60 = .ok (.aload_n 0, 1) := by decide +kernel
theorem d_Ma_doStraight_61 : decode b_Ma_doStraight 61 = .ok (.aload_n 0, 1) := by decide +kernel
theorem d_Ma_doStraight_62 : decode b_Ma_doStraight 62 = .ok (.getfield 9, 3) := by decide +kernel
theorem d_Ma_doStraight_65 : decode b_Ma_doStraight 65 = .ok (.iload_n 2, 1) := by decide +kernel
theorem d_Ma_doStraight_66 : decode b_Ma_doStraight 66 = .ok (.iaload, 1) := by decide +kernel
theorem d_Ma_doStraight_67 : decode b_Ma_doStraight 67 = .ok (.invokevirtual 87, 3) := by decide +kernel
theorem d_Ma_doStraight_70 : decode b_Ma_doStraight 70 = .ok (.goto 81, 3) := by decide +kernel
theorem d_Ma_doStraight_73 : decode b_Ma_doStraight 73 = .ok (.aload_n 0, 1) := by decide +kernel
theorem d_Ma_doStraight_74 : decode b_Ma_doStraight 74 = .ok (.getfield 9, 3) := by decide +kernel
theorem d_Ma_doStraight_77 : decode b_Ma_doStraight 77 = .ok (.iload_n 2, 1) := by decide +kernel
theorem d_Ma_doStraight_78 : decode b_Ma_doStraight 78 = .ok (.aload_n 0, 1) := by decide +kernel
theorem d_Ma_doStraight_79 : decode b_Ma_doStraight 79 = .ok (.invokevirtual 65, 3) := by decide +kernel
theorem d_Ma_doStraight_82 : decode b_Ma_doStraight 82 = .ok (.iastore, 1) := by decide +kernel
theorem d_Ma_doStraight_83 : decode b_Ma_doStraight 83 = .ok (.goto 68, 3) := by decide +kernel
theorem d_Ma_doStraight_86 : decode b_Ma_doStraight 86 = .ok (.aload_n 0, 1) := by decide +kernel
theorem d_Ma_doStraight_87 : decode b_Ma_doStraight 87 = .ok (.aload_n 0, 1) := by decide +kernel
theorem d_Ma_doStraight_88 : decode b_Ma_doStraight 88 = .ok (.invokevirtual 65, 3) := by decide +kernel
theorem d_Ma_doStraight_91 : decode b_Ma_doStraight 91 = .ok (.invokevirtual 90, 3) := by decide +kernel
theorem d_Ma_doStraight_94 : decode b_Ma_doStraight 94 = .ok (.goto 57, 3) := by decide +kernel
theorem d_Ma_doStraight_97 : decode b_Ma_doStraight 97 = .ok (.aload_n 0, 1) := by decide +kernel
theorem d_Ma_doStraight_98 : decode b_Ma_doStraight 98 = .ok (.getfield 27, 3) := by decide +kernel
theorem d_Ma_doStraight_101 : decode b_Ma_doStraight 101 = .ok (.aload_n 0, 1) := by decide +kernel
theorem d_Ma_doStraight_102 : decode b_Ma_doStraight 102 = .ok (.iload_n 2, 1) := by decide +kernel
theorem d_Ma_doStraight_103 : decode b_Ma_doStraight 103 = .ok (.invokevirtual 79, 3) := by decide +kernel
theorem d_Ma_doStraight_106 : decode b_Ma_doStraight 106 = .ok (.aload_n 0, 1) := by decide +kernel
theorem d_Ma_doStraight_107 : decode b_Ma_doStraight 107 = .ok (.invokevirtual 65, 3) := by decide +kernel
theorem d_Ma_doStraight_110 : decode b_Ma_doStraight 110 = .ok (.iastore, 1) := by decide +kernel
theorem d_Ma_doStraight_111 : decode b_Ma_doStraight 111 = .ok (.goto 40, 3) := by decide +kernel
theorem d_Ma_doStraight_114 : decode b_Ma_doStraight 114 = .ok (.aload_n 0, 1) := by decide +kernel
theorem d_Ma_doStraight_115 : decode b_Ma_doStraight 115 = .ok (.invokevirtual 65, 3) := by decide +kernel
theorem d_Ma_doStraight_118 : decode b_Ma_doStraight 118 = .ok (.istore_n 3, 1) := by decide +kernel
theorem d_Ma_doStraight_119 : decode b_Ma_doStraight 119 = .ok (.aload_n 0, 1) := by decide +kernel
theorem d_Ma_doStraight_120 : decode b_Ma_doStraight 120 = .ok (.invokevirtual 65, 3) := by decide +kernel
theorem d_Ma_doStraight_123 : decode b_Ma_doStraight 123 = .ok (.istore 4, 2) := by decide +kernel
theorem d_Ma_doStraight_125 : decode b_Ma_doStraight 125 = .ok (.iload_n 1, 1) := by decide +kernel
theorem d_Ma_doStraight_126 : decode b_Ma_doStraight 126 = .ok (.iconst 5, 1) := by decide +kernel
theorem d_Ma_doStraight_127 : decode b_Ma_doStraight 127 = .ok (.if_icmp .ne 13, 3) := by decide +kernel
theorem d_Ma_doStraight_130 : decode b_Ma_doStraight 130 = .ok (.iload_n 3, 1) := by decide +kernel
theorem d_Ma_doStraight_131 : decode b_Ma_doStraight 131 = .ok (.ifCond .ne 9, 3) := by decide +kernel
theorem d_Ma_doStraight_134 : decode b_Ma_doStraight 134 = .ok (.aload_n 0, 1) := by decide +kernel
theorem d_Ma_doStraight_135 : decode b_Ma_doStraight 135 = .ok (.iconst 1, 1) := by decide +kernel
theorem d_Ma_doStraight_136 : decode b_Ma_doStraight 136 = .ok (.invokevirtual 69, 3) := by decide +kernel
theorem d_Ma_doStraight_139 : decode b_Ma_doStraight 139 = .ok (.return_, 1) := by decide +kernel
theorem d_Ma_doStraight_140 : decode b_Ma_doStraight 140 = .ok (.aload_n 0, 1) := by decide +kernel
theorem d_Ma_doStraight_141 : decode b_Ma_doStraight 141 = .ok (.iload_n 1, 1) := by decide +kernel
theorem d_Ma_doStraight_142 : decode b_Ma_doStraight 142 = .ok (.iload 4, 2) := by decide +kernel
theorem d_Ma_doStraight_144 : decode b_Ma_doStraight 144 = .ok (.iload_n 3, 1) := by decide +kernel
theorem d_Ma_doStraight_145 : decode b_Ma_doStraight 145 = .ok (.invokestatic 95, 3) := by decide +kernel
theorem d_Ma_doStraight_148 : decode b_Ma_doStraight 148 = .ok (.invokevirtual 87, 3) := by decide +kernel
theorem d_Ma_doStraight_151 : decode b_Ma_doStraight 151 = .ok (.aload_n 0, 1) := by decide +kernel
theorem d_Ma_doStraight_152 : decode b_Ma_doStraight 152 = .ok (.dup, 1) := by decide +kernel
theorem d_Ma_doStraight_153 : decode b_Ma_doStraight 153 = .ok (.getfield 51, 3) := by decide +kernel
theorem d_Ma_doStraight_156 : decode b_Ma_doStraight 156 = .ok (.iconst 1, 1) := by decide +kernel
theorem d_Ma_doStraight_157 : decode b_Ma_doStraight 157 = .ok (.iadd, 1) := by decide +kernel
theorem d_Ma_doStraight_158 : decode b_Ma_doStraight 158 = .ok (.putfield 51, 3) := by decide +kernel
theorem d_Ma_doStraight_161 : decode b_Ma_doStraight 161 = .ok (.return_, 1) := by decide +kernel
theorem d_Ma_doStep_0 : decode b_Ma_doStep 0 = .ok (.aload_n 0, 1) := by decide +kernel
theorem d_Ma_doStep_1 : decode b_Ma_doStep 1 = .ok (.getfield 30, 3) := by decide +kernel
theorem d_Ma_doStep_4 : decode b_Ma_doStep 4 = .ok (.getfield 57, 3) := by decide +kernel
theorem d_Ma_doStep_7 : decode b_Ma_doStep 7 = .ok (.aload_n 0, 1) := by decide +kernel
theorem d_Ma_doStep_8 : decode b_Ma_doStep 8 = .ok (.getfield 51, 3) := by decide +kernel
theorem d_Ma_doStep_11 : decode b_Ma_doStep 11 = .ok (.iaload, 1) := by decide +kernel
theorem d_Ma_doStep_12 : decode b_Ma_doStep 12 = .ok (.istore_n 1, 1) := by decide +kernel
theorem d_Ma_doStep_13 : decode b_Ma_doStep 13 = .ok (.aload_n 0, 1) := by decide +kernel
theorem d_Ma_doStep_14 : decode b_Ma_doStep 14 = .ok (.getfield 30, 3) := by decide +kernel
theorem d_Ma_doStep_17 : decode b_Ma_doStep 17 = .ok (.getfield 62, 3) := by decide +kernel
theorem d_Ma_doStep_20 : decode b_Ma_doStep 20 = .ok (.aload_n 0, 1) := by decide +kernel
theorem d_Ma_doStep_21 : decode b_Ma_doStep 21 = .ok (.getfield 51, 3) := by decide +kernel
theorem d_Ma_doStep_24 : decode b_Ma_doStep 24 = .ok (.iaload, 1) := by decide +kernel
theorem d_Ma_doStep_25 : decode b_Ma_doStep 25 = .ok (.istore_n 2, 1) := by decide +kernel
theorem d_Ma_doStep_26 : decode b_Ma_doStep 26 = .ok (.iload_n 1, 1) := by decide +kernel
theorem d_Ma_doStep_27 : decode b_Ma_doStep 27 = .ok (.tableswitch 126 10 16 #[49, 41, 73, 94, 102, 126, 109], 41) := by decide +kernel
theorem d_Ma_doStep_68 : decode b_Ma_doStep 68 = .ok (.aload_n 0, 1) := by decide +kernel
theorem d_Ma_doStep_69 : decode b_Ma_doStep 69 = .ok (.iload_n 2, 1) := by decide +kernel
theorem d_Ma_doStep_70 : decode b_Ma_doStep 70 = .ok (.putfield 51, 3) := by decide +kernel
theorem d_Ma_doStep_73 : decode b_Ma_doStep 73 = .ok (.goto 86, 3) := by decide +kernel
theorem d_Ma_doStep_76 : decode b_Ma_doStep 76 = .ok (.aload_n 0, 1) := by decide +kernel
theorem d_Ma_doStep_77 : decode b_Ma_doStep 77 = .ok (.aload_n 0, 1) := by decide +kernel
theorem d_Ma_doStep_78 : decode b_Ma_doStep 78 = .ok (.invokevirtual 65, 3) := by decide +kernel
theorem d_Ma_doStep_81 : decode b_Ma_doStep 81 = .ok (.ifCond .ne 7, 3) := by decide +kernel
theorem d_Ma_doStep_84 : decode b_Ma_doStep 84 = .ok (.iload_n 2, 1) := by decide +kernel
theorem d_Ma_doStep_85 : decode b_Ma_doStep 85 = .ok (.goto 9, 3) := by decide +kernel
theorem d_Ma_doStep_88 : decode b_Ma_doStep 88 = .ok (.aload_n 0, 1) := by decide +kernel
theorem d_Ma_doStep_89 : decode b_Ma_doStep 89 = .ok (.getfield 51, 3) := by decide +kernel
theorem d_Ma_doStep_92 : decode b_Ma_doStep 92 = .ok (.iconst 1, 1) := by decide +kernel
theorem d_Ma_doStep_93 : decode b_Ma_doStep 93 = .ok (.iadd, 1) := by decide +kernel
theorem d_Ma_doStep_94 : decode b_Ma_doStep 94 = .ok (.putfield 51, 3) := by decide +kernel
theorem d_Ma_doStep_97 : decode b_Ma_doStep 97 = .ok (.goto 62, 3) := by decide +kernel
theorem d_Ma_doStep_100 : decode b_Ma_doStep 100 = .ok (.aload_n 0, 1) := by decide +kernel
theorem d_Ma_doStep_101 : decode b_Ma_doStep 101 = .ok (.invokevirtual 65, 3) := by decide +kernel
theorem d_Ma_doStep_104 : decode b_Ma_doStep 104 = .ok (.istore_n 3, 1) := by decide +kernel
theorem d_Ma_doStep_105 : decode b_Ma_doStep 105 = .ok (.aload_n 0, 1) := by decide +kernel
theorem d_Ma_doStep_106 : decode b_Ma_doStep 106 = .ok (.iload_n 3, 1) := by decide +kernel
theorem d_Ma_doStep_107 : decode b_Ma_doStep 107 = .ok (.ifCond .ne 7, 3) := by decide +kernel
theorem d_Ma_doStep_110 : decode b_Ma_doStep 110 = .ok (.iconst 2, 1) := by decide +kernel
theorem d_Ma_doStep_111 : decode b_Ma_doStep 111 = .ok (.goto 4, 3) := by decide +kernel
theorem d_Ma_doStep_114 : decode b_Ma_doStep 114 = .ok (.iload_n 3, 1) := by decide +kernel
theorem d_Ma_doStep_115 : decode b_Ma_doStep 115 = .ok (.invokevirtual 69, 3) := by decide +kernel
theorem d_Ma_doStep_118 : decode b_Ma_doStep 118 = .ok (.goto 41, 3) := by decide +kernel
theorem d_Ma_doStep_121 : decode b_Ma_doStep 121 = .ok (.aload_n 0, 1) := by decide +kernel
theorem d_Ma_doStep_122 : decode b_Ma_doStep 122 = .ok (.iload_n 2, 1) := by decide +kernel
theorem d_Ma_doStep_123 : decode b_Ma_doStep 123 = .ok (.invokevirtual 73, 3) := by decide +kernel
theorem d_Ma_doStep_126 : decode b_Ma_doStep 126 = .ok (.goto 33, 3) := by decide +kernel
theorem d_Ma_doStep_129 : decode b_Ma_doStep 129 = .ok (.aload_n 0, 1) := by decide +kernel
theorem d_Ma_doStep_130 : decode b_Ma_doStep 130 = .ok (.invokevirtual 76, 3) := by decide +kernel
theorem d_Ma_doStep_133 : decode b_Ma_doStep 133 = .ok (.goto 26, 3) := by decide +kernel
theorem d_Ma_doStep_136 : decode b_Ma_doStep 136 = .ok (.aload_n 0, 1) := by decide +kernel
theorem d_Ma_doStep_137 : decode b_Ma_doStep 137 = .ok (.aload_n 0, 1) := by decide +kernel
theorem d_Ma_doStep_138 : decode b_Ma_doStep 138 = .ok (.getfield 27, 3) := by decide +kernel
theorem d_Ma_doStep_141 : decode b_Ma_doStep 141 = .ok (.aload_n 0, 1) := by decide +kernel
theorem d_Ma_doStep_142 : decode b_Ma_doStep 142 = .ok (.iload_n 2, 1) := by decide +kernel
theorem d_Ma_doStep_143 : decode b_Ma_doStep 143 = .ok (.invokevirtual 79, 3) := by decide +kernel
theorem d_Ma_doStep_146 : decode b_Ma_doStep 146 = .ok (.iaload, 1) := by decide +kernel
theorem d_Ma_doStep_147 : decode b_Ma_doStep 147 = .ok (.invokevirtual 69, 3) := by decide +kernel
theorem d_Ma_doStep_150 : decode b_Ma_doStep 150 = .ok (.goto 9, 3) := by decide +kernel
theorem d_Ma_doStep_153 : decode b_Ma_doStep 153 = .ok (.aload_n 0, 1) := by decide +kernel
theorem d_Ma_doStep_154 : decode b_Ma_doStep 154 = .ok (.iload_n 1, 1) := by decide +kernel
theorem d_Ma_doStep_155 : decode b_Ma_doStep 155 = .ok (.iload_n 2, 1) := by decide +kernel
theorem d_Ma_doStep_156 : decode b_Ma_doStep 156 = .ok (.invokevirtual 83, 3) := by decide +kernel
theorem d_Ma_doStep_159 : decode b_Ma_doStep 159 = .ok (.return_, 1) := by decide +kernel
theorem d_Ma_start_0 : decode b_Ma_start 0 = .ok (.aload_n 0, 1) := by decide +kernel
theorem d_Ma_start_1 : decode b_Ma_start 1 = .ok (.iconst 1, 1) := by decide +kernel
theorem d_Ma_start_2 : decode b_Ma_start 2 = .ok (.putfield 34, 3) := by decide +kernel
theorem d_Ma_start_5 : decode b_Ma_start 5 = .ok (.aload_n 0, 1) := by decide +kernel
theorem d_Ma_start_6 : decode b_Ma_start 6 = .ok (.getfield 9, 3) := by decide +kernel
theorem d_Ma_start_9 : decode b_Ma_start 9 = .ok (.iconst 0, 1) := by decide +kernel
theorem d_Ma_start_10 : decode b_Ma_start 10 = .ok (.invokestatic 38, 3) := by decide +kernel
theorem d_Ma_start_13 : decode b_Ma_start 13 = .ok (.aload_n 0, 1) := by decide +kernel
theorem d_Ma_start_14 : decode b_Ma_start 14 = .ok (.getfield 18, 3) := by decide +kernel
theorem d_Ma_start_17 : decode b_Ma_start 17 = .ok (.iconst 0, 1) := by decide +kernel
theorem d_Ma_start_18 : decode b_Ma_start 18 = .ok (.invokestatic 38, 3) := by decide +kernel
theorem d_Ma_start_21 : decode b_Ma_start 21 = .ok (.aload_n 0, 1) := by decide +kernel
theorem d_Ma_start_22 : decode b_Ma_start 22 = .ok (.iconst 0, 1) := by decide +kernel
theorem d_Ma_start_23 : decode b_Ma_start 23 = .ok (.putfield 44, 3) := by decide +kernel
theorem d_Ma_start_26 : decode b_Ma_start 26 = .ok (.aload_n 0, 1) := by decide +kernel
theorem d_Ma_start_27 : decode b_Ma_start 27 = .ok (.iconst 1, 1) := by decide +kernel
theorem d_Ma_start_28 : decode b_Ma_start 28 = .ok (.putfield 48, 3) := by decide +kernel
theorem d_Ma_start_31 : decode b_Ma_start 31 = .ok (.aload_n 0, 1) := by decide +kernel
theorem d_Ma_start_32 : decode b_Ma_start 32 = .ok (.iload_n 1, 1) := by decide +kernel
theorem d_Ma_start_33 : decode b_Ma_start 33 = .ok (.putfield 51, 3) := by decide +kernel
theorem d_Ma_start_36 : decode b_Ma_start 36 = .ok (.aload_n 0, 1) := by decide +kernel
theorem d_Ma_start_37 : decode b_Ma_start 37 = .ok (.getfield 18, 3) := by decide +kernel
theorem d_Ma_start_40 : decode b_Ma_start 40 = .ok (.iconst 5, 1) := by decide +kernel
theorem d_Ma_start_41 : decode b_Ma_start 41 = .ok (.iconst 1, 1) := by decide +kernel
theorem d_Ma_start_42 : decode b_Ma_start 42 = .ok (.iastore, 1) := by decide +kernel
theorem d_Ma_start_43 : decode b_Ma_start 43 = .ok (.iconst 0, 1) := by decide +kernel
theorem d_Ma_start_44 : decode b_Ma_start 44 = .ok (.istore_n 2, 1) := by decide +kernel
theorem d_Ma_start_45 : decode b_Ma_start 45 = .ok (.iload_n 2, 1) := by decide +kernel
theorem d_Ma_start_46 : decode b_Ma_start 46 = .ok (.sipush 3000, 3) := by decide +kernel
theorem d_Ma_start_49 : decode b_Ma_start 49 = .ok (.if_icmp .ge 32, 3) := by decide +kernel
theorem d_Ma_start_52 : decode b_Ma_start 52 = .ok (.aload_n 0, 1) := by decide +kernel
theorem d_Ma_start_53 : decode b_Ma_start 53 = .ok (.getfield 18, 3) := by decide +kernel
theorem d_Ma_start_56 : decode b_Ma_start 56 = .ok (.iconst 0, 1) := by decide +kernel
theorem d_Ma_start_57 : decode b_Ma_start 57 = .ok (.iaload, 1) := by decide +kernel
theorem d_Ma_start_58 : decode b_Ma_start 58 = .ok (.ifCond .ne 23, 3) := by decide +kernel
theorem d_Ma_start_61 : decode b_Ma_start 61 = .ok (.aload_n 0, 1) := by decide +kernel
theorem d_Ma_start_62 : decode b_Ma_start 62 = .ok (.getfield 18, 3) := by decide +kernel
theorem d_Ma_start_65 : decode b_Ma_start 65 = .ok (.iconst 2, 1) := by decide +kernel
theorem d_Ma_start_66 : decode b_Ma_start 66 = .ok (.dup2, 1) := by decide +kernel
theorem d_Ma_start_67 : decode b_Ma_start 67 = .ok (.iaload, 1) := by decide +kernel
theorem d_Ma_start_68 : decode b_Ma_start 68 = .ok (.iconst 1, 1) := by decide +kernel
theorem d_Ma_start_69 : decode b_Ma_start 69 = .ok (.iadd, 1) := by decide +kernel
theorem d_Ma_start_70 : decode b_Ma_start 70 = .ok (.iastore, 1) := by decide +kernel
theorem d_Ma_start_71 : decode b_Ma_start 71 = .ok (.aload_n 0, 1) := by decide +kernel
theorem d_Ma_start_72 : decode b_Ma_start 72 = .ok (.invokevirtual 54, 3) := by decide +kernel
theorem d_Ma_start_75 : decode b_Ma_start 75 = .ok (.iinc 2 1, 3) := by decide +kernel
theorem d_Ma_start_78 : decode b_Ma_start 78 = .ok (.goto (-33), 3) := by decide +kernel
theorem d_Ma_start_81 : decode b_Ma_start 81 = .ok (.aload_n 0, 1) := by decide +kernel
theorem d_Ma_start_82 : decode b_Ma_start 82 = .ok (.getfield 18, 3) := by decide +kernel
theorem d_Ma_start_85 : decode b_Ma_start 85 = .ok (.iconst 0, 1) := by decide +kernel
theorem d_Ma_start_86 : decode b_Ma_start 86 = .ok (.iaload, 1) := by decide +kernel
theorem d_Ma_start_87 : decode b_Ma_start 87 = .ok (.ifCond .ne 10, 3) := by decide +kernel
theorem d_Ma_start_90 : decode b_Ma_start 90 = .ok (.aload_n 0, 1) := by decide +kernel
theorem d_Ma_start_91 : decode b_Ma_start 91 = .ok (.getfield 18, 3) := by decide +kernel
theorem d_Ma_start_94 : decode b_Ma_start 94 = .ok (.iconst 0, 1) := by decide +kernel
theorem d_Ma_start_95 : decode b_Ma_start 95 = .ok (.iconst 3, 1) := by decide +kernel
theorem d_Ma_start_96 : decode b_Ma_start 96 = .ok (.iastore, 1) := by decide +kernel
theorem d_Ma_start_97 : decode b_Ma_start 97 = .ok (.aload_n 0, 1) := by decide +kernel
theorem d_Ma_start_98 : decode b_Ma_start 98 = .ok (.getfield 18, 3) := by decide +kernel
theorem d_Ma_start_101 : decode b_Ma_start 101 = .ok (.iconst 0, 1) := by decide +kernel
theorem d_Ma_start_102 : decode b_Ma_start 102 = .ok (.iaload, 1) := by decide +kernel
theorem d_Ma_start_103 : decode b_Ma_start 103 = .ok (.ireturn, 1) := by decide +kernel
theorem d_UM_run_0 : decode b_UM_run 0 = .ok (.aload_n 0, 1) := by decide +kernel
theorem d_UM_run_1 : decode b_UM_run 1 = .ok (.getfield 19, 3) := by decide +kernel
theorem d_UM_run_4 : decode b_UM_run 4 = .ok (.invokevirtual 55, 3) := by decide +kernel
theorem d_UM_run_7 : decode b_UM_run 7 = .ok (.ifCond .eq 29, 3) := by decide +kernel
theorem d_UM_run_10 : decode b_UM_run 10 = .ok (.iload_n 1, 1) := by decide +kernel
theorem d_UM_run_11 : decode b_UM_run 11 = .ok (.invokestatic 91, 3) := by decide +kernel
theorem d_UM_run_14 : decode b_UM_run 14 = .ok (.ifCond .eq 22, 3) := by decide +kernel
theorem d_UM_run_17 : decode b_UM_run 17 = .ok (.aload_n 0, 1) := by decide +kernel
theorem d_UM_run_18 : decode b_UM_run 18 = .ok (.getfield 37, 3) := by decide +kernel
theorem d_UM_run_21 : decode b_UM_run 21 = .ok (.aload_n 0, 1) := by decide +kernel
theorem d_UM_run_22 : decode b_UM_run 22 = .ok (.getfield 19, 3) := by decide +kernel
theorem d_UM_run_25 : decode b_UM_run 25 = .ok (.getfield 95, 3) := by decide +kernel
theorem d_UM_run_28 : decode b_UM_run 28 = .ok (.iload_n 1, 1) := by decide +kernel
theorem d_UM_run_29 : decode b_UM_run 29 = .ok (.iaload, 1) := by decide +kernel
theorem d_UM_run_30 : decode b_UM_run 30 = .ok (.invokevirtual 105, 3) := by decide +kernel
theorem d_UM_run_33 : decode b_UM_run 33 = .ok (.goto 4, 3) := by decide +kernel
theorem d_UM_run_36 : decode b_UM_run 36 = .ok (.iconst (-1), 1) := by decide +kernel
theorem d_UM_run_37 : decode b_UM_run 37 = .ok (.ireturn, 1) := by decide +kernel
theorem d_UM_latest_0 : decode b_UM_latest 0 = .ok (.aload_n 0, 1) := by decide +kernel
theorem d_UM_latest_1 : decode b_UM_latest 1 = .ok (.getfield 37, 3) := by decide +kernel
theorem d_UM_latest_4 : decode b_UM_latest 4 = .ok (.getfield 109, 3) := by decide +kernel
theorem d_UM_latest_7 : decode b_UM_latest 7 = .ok (.ifCond .eq 25, 3) := by decide +kernel
theorem d_UM_latest_10 : decode b_UM_latest 10 = .ok (.iload_n 1, 1) := by decide +kernel
theorem d_UM_latest_11 : decode b_UM_latest 11 = .ok (.ifCond .lt 21, 3) := by decide +kernel
theorem d_UM_latest_14 : decode b_UM_latest 14 = .ok (.iload_n 1, 1) := by decide +kernel
theorem d_UM_latest_15 : decode b_UM_latest 15 = .ok (.bipush 6, 2) := by decide +kernel
theorem d_UM_latest_17 : decode b_UM_latest 17 = .ok (.if_icmp .ge 15, 3) := by decide +kernel
theorem d_UM_latest_20 : decode b_UM_latest 20 = .ok (.aload_n 0, 1) := by decide +kernel
theorem d_UM_latest_21 : decode b_UM_latest 21 = .ok (.getfield 37, 3) := by decide +kernel
theorem d_UM_latest_24 : decode b_UM_latest 24 = .ok (.getfield 113, 3) := by decide +kernel
theorem d_UM_latest_27 : decode b_UM_latest 27 = .ok (.iload_n 1, 1) := by decide +kernel
theorem d_UM_latest_28 : decode b_UM_latest 28 = .ok (.iaload, 1) := by decide +kernel
theorem d_UM_latest_29 : decode b_UM_latest 29 = .ok (.goto 4, 3) := by decide +kernel
theorem d_UM_latest_32 : decode b_UM_latest 32 = .ok (.iconst (-1), 1) := by decide +kernel
theorem d_UM_latest_33 : decode b_UM_latest 33 = .ok (.ireturn, 1) := by decide +kernel
theorem d_UM_out_0 : decode b_UM_out 0 = .ok (.iload_n 1, 1) := by decide +kernel
theorem d_UM_out_1 : decode b_UM_out 1 = .ok (.ifCond .lt 28, 3) := by decide +kernel
theorem d_UM_out_4 : decode b_UM_out 4 = .ok (.iload_n 1, 1) := by decide +kernel
theorem d_UM_out_5 : decode b_UM_out 5 = .ok (.aload_n 0, 1) := by decide +kernel
theorem d_UM_out_6 : decode b_UM_out 6 = .ok (.getfield 37, 3) := by decide +kernel
theorem d_UM_out_9 : decode b_UM_out 9 = .ok (.getfield 113, 3) := by decide +kernel
theorem d_UM_out_12 : decode b_UM_out 12 = .ok (.iconst 3, 1) := by decide +kernel
theorem d_UM_out_13 : decode b_UM_out 13 = .ok (.iaload, 1) := by decide +kernel
theorem d_UM_out_14 : decode b_UM_out 14 = .ok (.if_icmp .ge 15, 3) := by decide +kernel
theorem d_UM_out_17 : decode b_UM_out 17 = .ok (.aload_n 0, 1) := by decide +kernel
theorem d_UM_out_18 : decode b_UM_out 18 = .ok (.getfield 37, 3) := by decide +kernel
theorem d_UM_out_21 : decode b_UM_out 21 = .ok (.getfield 116, 3) := by decide +kernel
theorem d_UM_out_24 : decode b_UM_out 24 = .ok (.iload_n 1, 1) := by decide +kernel
theorem d_UM_out_25 : decode b_UM_out 25 = .ok (.iaload, 1) := by decide +kernel
theorem d_UM_out_26 : decode b_UM_out 26 = .ok (.goto 4, 3) := by decide +kernel
theorem d_UM_out_29 : decode b_UM_out 29 = .ok (.iconst 0, 1) := by decide +kernel
theorem d_UM_out_30 : decode b_UM_out 30 = .ok (.ireturn, 1) := by decide +kernel
theorem d_UM_variable_0 : decode b_UM_variable 0 = .ok (.iload_n 1, 1) := by decide +kernel
theorem d_UM_variable_1 : decode b_UM_variable 1 = .ok (.invokestatic 119, 3) := by decide +kernel
theorem d_UM_variable_4 : decode b_UM_variable 4 = .ok (.ifCond .eq 15, 3) := by decide +kernel
theorem d_UM_variable_7 : decode b_UM_variable 7 = .ok (.aload_n 0, 1) := by decide +kernel
theorem d_UM_variable_8 : decode b_UM_variable 8 = .ok (.getfield 37, 3) := by decide +kernel
theorem d_UM_variable_11 : decode b_UM_variable 11 = .ok (.getfield 122, 3) := by decide +kernel
theorem d_UM_variable_14 : decode b_UM_variable 14 = .ok (.iload_n 1, 1) := by decide +kernel
theorem d_UM_variable_15 : decode b_UM_variable 15 = .ok (.iaload, 1) := by decide +kernel
theorem d_UM_variable_16 : decode b_UM_variable 16 = .ok (.goto 4, 3) := by decide +kernel
theorem d_UM_variable_19 : decode b_UM_variable 19 = .ok (.iconst 0, 1) := by decide +kernel
theorem d_UM_variable_20 : decode b_UM_variable 20 = .ok (.ireturn, 1) := by decide +kernel
theorem d_Mo_isThere_0 : decode b_Mo_isThere 0 = .ok (.iload_n 1, 1) := by decide +kernel
theorem d_Mo_isThere_1 : decode b_Mo_isThere 1 = .ok (.ifCond .lt 35, 3) := by decide +kernel
theorem d_Mo_isThere_4 : decode b_Mo_isThere 4 = .ok (.iload_n 1, 1) := by decide +kernel
theorem d_Mo_isThere_5 : decode b_Mo_isThere 5 = .ok (.aload_n 0, 1) := by decide +kernel
theorem d_Mo_isThere_6 : decode b_Mo_isThere 6 = .ok (.getfield 128, 3) := by decide +kernel
theorem d_Mo_isThere_9 : decode b_Mo_isThere 9 = .ok (.if_icmp .ge 27, 3) := by decide +kernel
theorem d_Mo_isThere_12 : decode b_Mo_isThere 12 = .ok (.aload_n 0, 1) := by decide +kernel
theorem d_Mo_isThere_13 : decode b_Mo_isThere 13 = .ok (.getfield 7, 3) := by decide +kernel
theorem d_Mo_isThere_16 : decode b_Mo_isThere 16 = .ok (.iload_n 1, 1) := by decide +kernel
theorem d_Mo_isThere_17 : decode b_Mo_isThere 17 = .ok (.iaload, 1) := by decide +kernel
theorem d_Mo_isThere_18 : decode b_Mo_isThere 18 = .ok (.iload_n 2, 1) := by decide +kernel
theorem d_Mo_isThere_19 : decode b_Mo_isThere 19 = .ok (.if_icmp .lt 17, 3) := by decide +kernel
theorem d_Mo_isThere_22 : decode b_Mo_isThere 22 = .ok (.aload_n 0, 1) := by decide +kernel
theorem d_Mo_isThere_23 : decode b_Mo_isThere 23 = .ok (.getfield 7, 3) := by decide +kernel
theorem d_Mo_isThere_26 : decode b_Mo_isThere 26 = .ok (.iload_n 1, 1) := by decide +kernel
theorem d_Mo_isThere_27 : decode b_Mo_isThere 27 = .ok (.iaload, 1) := by decide +kernel
theorem d_Mo_isThere_28 : decode b_Mo_isThere 28 = .ok (.iload_n 3, 1) := by decide +kernel
theorem d_Mo_isThere_29 : decode b_Mo_isThere 29 = .ok (.if_icmp .gt 7, 3) := by decide +kernel
theorem d_Mo_isThere_32 : decode b_Mo_isThere 32 = .ok (.iconst 1, 1) := by decide +kernel
theorem d_Mo_isThere_33 : decode b_Mo_isThere 33 = .ok (.goto 4, 3) := by decide +kernel
theorem d_Mo_isThere_36 : decode b_Mo_isThere 36 = .ok (.iconst 0, 1) := by decide +kernel
theorem d_Mo_isThere_37 : decode b_Mo_isThere 37 = .ok (.ireturn, 1) := by decide +kernel
theorem d_Mo_isStatement_0 : decode b_Mo_isStatement 0 = .ok (.aload_n 0, 1) := by decide +kernel
theorem d_Mo_isStatement_1 : decode b_Mo_isStatement 1 = .ok (.iload_n 1, 1) := by decide +kernel
theorem d_Mo_isStatement_2 : decode b_Mo_isStatement 2 = .ok (.bipush 8, 2) := by decide +kernel
theorem d_Mo_isStatement_4 : decode b_Mo_isStatement 4 = .ok (.bipush 18, 2) := by decide +kernel
theorem d_Mo_isStatement_6 : decode b_Mo_isStatement 6 = .ok (.invokevirtual 131, 3) := by decide +kernel
theorem d_Mo_isStatement_9 : decode b_Mo_isStatement 9 = .ok (.ireturn, 1) := by decide +kernel
theorem d_Mo_isVariable_0 : decode b_Mo_isVariable 0 = .ok (.iload_n 0, 1) := by decide +kernel
theorem d_Mo_isVariable_1 : decode b_Mo_isVariable 1 = .ok (.ifCond .lt 13, 3) := by decide +kernel
theorem d_Mo_isVariable_4 : decode b_Mo_isVariable 4 = .ok (.iload_n 0, 1) := by decide +kernel
theorem d_Mo_isVariable_5 : decode b_Mo_isVariable 5 = .ok (.bipush 8, 2) := by decide +kernel
theorem d_Mo_isVariable_7 : decode b_Mo_isVariable 7 = .ok (.if_icmp .ge 7, 3) := by decide +kernel
theorem d_Mo_isVariable_10 : decode b_Mo_isVariable 10 = .ok (.iconst 1, 1) := by decide +kernel
theorem d_Mo_isVariable_11 : decode b_Mo_isVariable 11 = .ok (.goto 4, 3) := by decide +kernel
theorem d_Mo_isVariable_14 : decode b_Mo_isVariable 14 = .ok (.iconst 0, 1) := by decide +kernel
theorem d_Mo_isVariable_15 : decode b_Mo_isVariable 15 = .ok (.ireturn, 1) := by decide +kernel
theorem d_Mo_isExpression_0 : decode b_Mo_isExpression 0 = .ok (.aload_n 0, 1) := by decide +kernel
theorem d_Mo_isExpression_1 : decode b_Mo_isExpression 1 = .ok (.iload_n 1, 1) := by decide +kernel
theorem d_Mo_isExpression_2 : decode b_Mo_isExpression 2 = .ok (.iconst 0, 1) := by decide +kernel
theorem d_Mo_isExpression_3 : decode b_Mo_isExpression 3 = .ok (.bipush 7, 2) := by decide +kernel
theorem d_Mo_isExpression_5 : decode b_Mo_isExpression 5 = .ok (.invokevirtual 131, 3) := by decide +kernel
theorem d_Mo_isExpression_8 : decode b_Mo_isExpression 8 = .ok (.ireturn, 1) := by decide +kernel
theorem d_Mo_isCatch_0 : decode b_Mo_isCatch 0 = .ok (.aload_n 0, 1) := by decide +kernel
theorem d_Mo_isCatch_1 : decode b_Mo_isCatch 1 = .ok (.iload_n 1, 1) := by decide +kernel
theorem d_Mo_isCatch_2 : decode b_Mo_isCatch 2 = .ok (.bipush 19, 2) := by decide +kernel
theorem d_Mo_isCatch_4 : decode b_Mo_isCatch 4 = .ok (.bipush 20, 2) := by decide +kernel
theorem d_Mo_isCatch_6 : decode b_Mo_isCatch 6 = .ok (.invokevirtual 131, 3) := by decide +kernel
theorem d_Mo_isCatch_9 : decode b_Mo_isCatch 9 = .ok (.ireturn, 1) := by decide +kernel
end
section
theorem d_Mo_can_0 : decode b_Mo_can 0 = .ok (.iload_n 1, 1) := by decide +kernel
theorem d_Mo_can_1 : decode b_Mo_can 1 = .ok (.tableswitch 307 0 19 #[95, 97, 102, 102, 102, 102, 102, 102, 95, 124, 145, 151, 173, 204, 145, 226, 95, 95, 242, 284], 95) := by decide +kernel
theorem d_Mo_can_96 : decode b_Mo_can 96 = .ok (.iconst 1, 1) := by decide +kernel
theorem d_Mo_can_97 : decode b_Mo_can 97 = .ok (.ireturn, 1) := by decide +kernel
theorem d_Mo_can_98 : decode b_Mo_can 98 = .ok (.iload_n 2, 1) := by decide +kernel
theorem d_Mo_can_99 : decode b_Mo_can 99 = .ok (.invokestatic 135, 3) := by decide +kernel
theorem d_Mo_can_102 : decode b_Mo_can 102 = .ok (.ireturn, 1) := by decide +kernel
theorem d_Mo_can_103 : decode b_Mo_can 103 = .ok (.aload_n 0, 1) := by decide +kernel
theorem d_Mo_can_104 : decode b_Mo_can 104 = .ok (.iload_n 2, 1) := by decide +kernel
theorem d_Mo_can_105 : decode b_Mo_can 105 = .ok (.invokevirtual 139, 3) := by decide +kernel
theorem d_Mo_can_108 : decode b_Mo_can 108 = .ok (.ifCond .eq 15, 3) := by decide +kernel
theorem d_Mo_can_111 : decode b_Mo_can 111 = .ok (.aload_n 0, 1) := by decide +kernel
theorem d_Mo_can_112 : decode b_Mo_can 112 = .ok (.iload_n 3, 1) := by decide +kernel
theorem d_Mo_can_113 : decode b_Mo_can 113 = .ok (.invokevirtual 139, 3) := by decide +kernel
theorem d_Mo_can_116 : decode b_Mo_can 116 = .ok (.ifCond .eq 7, 3) := by decide +kernel
theorem d_Mo_can_119 : decode b_Mo_can 119 = .ok (.iconst 1, 1) := by decide +kernel
theorem d_Mo_can_120 : decode b_Mo_can 120 = .ok (.goto 4, 3) := by decide +kernel
theorem d_Mo_can_123 : decode b_Mo_can 123 = .ok (.iconst 0, 1) := by decide +kernel
theorem d_Mo_can_124 : decode b_Mo_can 124 = .ok (.ireturn, 1) := by decide +kernel
theorem d_Mo_can_125 : decode b_Mo_can 125 = .ok (.iload_n 2, 1) := by decide +kernel
theorem d_Mo_can_126 : decode b_Mo_can 126 = .ok (.invokestatic 135, 3) := by decide +kernel
theorem d_Mo_can_129 : decode b_Mo_can 129 = .ok (.ifCond .eq 15, 3) := by decide +kernel
theorem d_Mo_can_132 : decode b_Mo_can 132 = .ok (.aload_n 0, 1) := by decide +kernel
theorem d_Mo_can_133 : decode b_Mo_can 133 = .ok (.iload_n 3, 1) := by decide +kernel
theorem d_Mo_can_134 : decode b_Mo_can 134 = .ok (.invokevirtual 139, 3) := by decide +kernel
theorem d_Mo_can_137 : decode b_Mo_can 137 = .ok (.ifCond .eq 7, 3) := by decide +kernel
theorem d_Mo_can_140 : decode b_Mo_can 140 = .ok (.iconst 1, 1) := by decide +kernel
theorem d_Mo_can_141 : decode b_Mo_can 141 = .ok (.goto 4, 3) := by decide +kernel
theorem d_Mo_can_144 : decode b_Mo_can 144 = .ok (.iconst 0, 1) := by decide +kernel
theorem d_Mo_can_145 : decode b_Mo_can 145 = .ok (.ireturn, 1) := by decide +kernel
theorem d_Mo_can_146 : decode b_Mo_can 146 = .ok (.aload_n 0, 1) := by decide +kernel
theorem d_Mo_can_147 : decode b_Mo_can 147 = .ok (.iload_n 2, 1) := by decide +kernel
theorem d_Mo_can_148 : decode b_Mo_can 148 = .ok (.invokevirtual 139, 3) := by decide +kernel
theorem d_Mo_can_151 : decode b_Mo_can 151 = .ok (.ireturn, 1) := by decide +kernel
theorem d_Mo_can_152 : decode b_Mo_can 152 = .ok (.aload_n 0, 1) := by decide +kernel
theorem d_Mo_can_153 : decode b_Mo_can 153 = .ok (.iload_n 2, 1) := by decide +kernel
theorem d_Mo_can_154 : decode b_Mo_can 154 = .ok (.invokevirtual 142, 3) := by decide +kernel
theorem d_Mo_can_157 : decode b_Mo_can 157 = .ok (.ifCond .eq 15, 3) := by decide +kernel
theorem d_Mo_can_160 : decode b_Mo_can 160 = .ok (.aload_n 0, 1) := by decide +kernel
theorem d_Mo_can_161 : decode b_Mo_can 161 = .ok (.iload_n 3, 1) := by decide +kernel
theorem d_Mo_can_162 : decode b_Mo_can 162 = .ok (.invokevirtual 142, 3) := by decide +kernel
theorem d_Mo_can_165 : decode b_Mo_can 165 = .ok (.ifCond .eq 7, 3) := by decide +kernel
theorem d_Mo_can_168 : decode b_Mo_can 168 = .ok (.iconst 1, 1) := by decide +kernel
theorem d_Mo_can_169 : decode b_Mo_can 169 = .ok (.goto 4, 3) := by decide +kernel
theorem d_Mo_can_172 : decode b_Mo_can 172 = .ok (.iconst 0, 1) := by decide +kernel
theorem d_Mo_can_173 : decode b_Mo_can 173 = .ok (.ireturn, 1) := by decide +kernel
theorem d_Mo_can_174 : decode b_Mo_can 174 = .ok (.aload_n 0, 1) := by decide +kernel
theorem d_Mo_can_175 : decode b_Mo_can 175 = .ok (.iload_n 2, 1) := by decide +kernel
theorem d_Mo_can_176 : decode b_Mo_can 176 = .ok (.invokevirtual 139, 3) := by decide +kernel
theorem d_Mo_can_179 : decode b_Mo_can 179 = .ok (.ifCond .eq 24, 3) := by decide +kernel
theorem d_Mo_can_182 : decode b_Mo_can 182 = .ok (.aload_n 0, 1) := by decide +kernel
theorem d_Mo_can_183 : decode b_Mo_can 183 = .ok (.iload_n 3, 1) := by decide +kernel
theorem d_Mo_can_184 : decode b_Mo_can 184 = .ok (.invokevirtual 142, 3) := by decide +kernel
theorem d_Mo_can_187 : decode b_Mo_can 187 = .ok (.ifCond .eq 16, 3) := by decide +kernel
theorem d_Mo_can_190 : decode b_Mo_can 190 = .ok (.aload_n 0, 1) := by decide +kernel
theorem d_Mo_can_191 : decode b_Mo_can 191 = .ok (.iload 4, 2) := by decide +kernel
theorem d_Mo_can_193 : decode b_Mo_can 193 = .ok (.invokevirtual 142, 3) := by decide +kernel
theorem d_Mo_can_196 : decode b_Mo_can 196 = .ok (.ifCond .eq 7, 3) := by decide +kernel
theorem d_Mo_can_199 : decode b_Mo_can 199 = .ok (.iconst 1, 1) := by decide +kernel
theorem d_Mo_can_200 : decode b_Mo_can 200 = .ok (.goto 4, 3) := by decide +kernel
theorem d_Mo_can_203 : decode b_Mo_can 203 = .ok (.iconst 0, 1) := by decide +kernel
theorem d_Mo_can_204 : decode b_Mo_can 204 = .ok (.ireturn, 1) := by decide +kernel
theorem d_Mo_can_205 : decode b_Mo_can 205 = .ok (.aload_n 0, 1) := by decide +kernel
theorem d_Mo_can_206 : decode b_Mo_can 206 = .ok (.iload_n 2, 1) := by decide +kernel
theorem d_Mo_can_207 : decode b_Mo_can 207 = .ok (.invokevirtual 139, 3) := by decide +kernel
theorem d_Mo_can_210 : decode b_Mo_can 210 = .ok (.ifCond .eq 15, 3) := by decide +kernel
theorem d_Mo_can_213 : decode b_Mo_can 213 = .ok (.aload_n 0, 1) := by decide +kernel
theorem d_Mo_can_214 : decode b_Mo_can 214 = .ok (.iload_n 3, 1) := by decide +kernel
theorem d_Mo_can_215 : decode b_Mo_can 215 = .ok (.invokevirtual 142, 3) := by decide +kernel
theorem d_Mo_can_218 : decode b_Mo_can 218 = .ok (.ifCond .eq 7, 3) := by decide +kernel
theorem d_Mo_can_221 : decode b_Mo_can 221 = .ok (.iconst 1, 1) := by decide +kernel
theorem d_Mo_can_222 : decode b_Mo_can 222 = .ok (.goto 4, 3) := by decide +kernel
theorem d_Mo_can_225 : decode b_Mo_can 225 = .ok (.iconst 0, 1) := by decide +kernel
theorem d_Mo_can_226 : decode b_Mo_can 226 = .ok (.ireturn, 1) := by decide +kernel
theorem d_Mo_can_227 : decode b_Mo_can 227 = .ok (.iload_n 2, 1) := by decide +kernel
theorem d_Mo_can_228 : decode b_Mo_can 228 = .ok (.ifCond .lt 13, 3) := by decide +kernel
theorem d_Mo_can_231 : decode b_Mo_can 231 = .ok (.iload_n 2, 1) := by decide +kernel
theorem d_Mo_can_232 : decode b_Mo_can 232 = .ok (.bipush 6, 2) := by decide +kernel
theorem d_Mo_can_234 : decode b_Mo_can 234 = .ok (.if_icmp .ge 7, 3) := by decide +kernel
theorem d_Mo_can_237 : decode b_Mo_can 237 = .ok (.iconst 1, 1) := by decide +kernel
theorem d_Mo_can_238 : decode b_Mo_can 238 = .ok (.goto 4, 3) := by decide +kernel
theorem d_Mo_can_241 : decode b_Mo_can 241 = .ok (.iconst 0, 1) := by decide +kernel
theorem d_Mo_can_242 : decode b_Mo_can 242 = .ok (.ireturn, 1) := by decide +kernel
theorem d_Mo_can_243 : decode b_Mo_can 243 = .ok (.aload_n 0, 1) := by decide +kernel
theorem d_Mo_can_244 : decode b_Mo_can 244 = .ok (.iload_n 2, 1) := by decide +kernel
theorem d_Mo_can_245 : decode b_Mo_can 245 = .ok (.invokevirtual 142, 3) := by decide +kernel
theorem d_Mo_can_248 : decode b_Mo_can 248 = .ok (.ifCond .eq 35, 3) := by decide +kernel
theorem d_Mo_can_251 : decode b_Mo_can 251 = .ok (.iload_n 3, 1) := by decide +kernel
theorem d_Mo_can_252 : decode b_Mo_can 252 = .ok (.iconst (-1), 1) := by decide +kernel
theorem d_Mo_can_253 : decode b_Mo_can 253 = .ok (.if_icmp .eq 11, 3) := by decide +kernel
theorem d_Mo_can_256 : decode b_Mo_can 256 = .ok (.aload_n 0, 1) := by decide +kernel
theorem d_Mo_can_257 : decode b_Mo_can 257 = .ok (.iload_n 3, 1) := by decide +kernel
theorem d_Mo_can_258 : decode b_Mo_can 258 = .ok (.invokevirtual 145, 3) := by decide +kernel
theorem d_Mo_can_261 : decode b_Mo_can 261 = .ok (.ifCond .eq 22, 3) := by decide +kernel
theorem d_Mo_can_264 : decode b_Mo_can 264 = .ok (.iload 4, 2) := by decide +kernel
theorem d_Mo_can_266 : decode b_Mo_can 266 = .ok (.iconst (-1), 1) := by decide +kernel
theorem d_Mo_can_267 : decode b_Mo_can 267 = .ok (.if_icmp .eq 12, 3) := by decide +kernel
theorem d_Mo_can_270 : decode b_Mo_can 270 = .ok (.aload_n 0, 1) := by decide +kernel
theorem d_Mo_can_271 : decode b_Mo_can 271 = .ok (.iload 4, 2) := by decide +kernel
theorem d_Mo_can_273 : decode b_Mo_can 273 = .ok (.invokevirtual 142, 3) := by decide +kernel
theorem d_Mo_can_276 : decode b_Mo_can 276 = .ok (.ifCond .eq 7, 3) := by decide +kernel
theorem d_Mo_can_279 : decode b_Mo_can 279 = .ok (.iconst 1, 1) := by decide +kernel
theorem d_Mo_can_280 : decode b_Mo_can 280 = .ok (.goto 4, 3) := by decide +kernel
theorem d_Mo_can_283 : decode b_Mo_can 283 = .ok (.iconst 0, 1) := by decide +kernel
theorem d_Mo_can_284 : decode b_Mo_can 284 = .ok (.ireturn, 1) := by decide +kernel
theorem d_Mo_can_285 : decode b_Mo_can 285 = .ok (.iload 4, 2) := by decide +kernel
theorem d_Mo_can_287 : decode b_Mo_can 287 = .ok (.invokestatic 135, 3) := by decide +kernel
theorem d_Mo_can_290 : decode b_Mo_can 290 = .ok (.ifCond .eq 16, 3) := by decide +kernel
theorem d_Mo_can_293 : decode b_Mo_can 293 = .ok (.aload_n 0, 1) := by decide +kernel
theorem d_Mo_can_294 : decode b_Mo_can 294 = .ok (.iload 5, 2) := by decide +kernel
theorem d_Mo_can_296 : decode b_Mo_can 296 = .ok (.invokevirtual 142, 3) := by decide +kernel
theorem d_Mo_can_299 : decode b_Mo_can 299 = .ok (.ifCond .eq 7, 3) := by decide +kernel
theorem d_Mo_can_302 : decode b_Mo_can 302 = .ok (.iconst 1, 1) := by decide +kernel
theorem d_Mo_can_303 : decode b_Mo_can 303 = .ok (.goto 4, 3) := by decide +kernel
theorem d_Mo_can_306 : decode b_Mo_can 306 = .ok (.iconst 0, 1) := by decide +kernel
theorem d_Mo_can_307 : decode b_Mo_can 307 = .ok (.ireturn, 1) := by decide +kernel
theorem d_Mo_can_308 : decode b_Mo_can 308 = .ok (.iconst 0, 1) := by decide +kernel
theorem d_Mo_can_309 : decode b_Mo_can 309 = .ok (.ireturn, 1) := by decide +kernel
theorem d_Mo_adds_0 : decode b_Mo_adds 0 = .ok (.aload_n 0, 1) := by decide +kernel
theorem d_Mo_adds_1 : decode b_Mo_adds 1 = .ok (.getfield 7, 3) := by decide +kernel
theorem d_Mo_adds_4 : decode b_Mo_adds 4 = .ok (.aload_n 0, 1) := by decide +kernel
theorem d_Mo_adds_5 : decode b_Mo_adds 5 = .ok (.getfield 128, 3) := by decide +kernel
theorem d_Mo_adds_8 : decode b_Mo_adds 8 = .ok (.iload_n 1, 1) := by decide +kernel
theorem d_Mo_adds_9 : decode b_Mo_adds 9 = .ok (.iastore, 1) := by decide +kernel
theorem d_Mo_adds_10 : decode b_Mo_adds 10 = .ok (.aload_n 0, 1) := by decide +kernel
theorem d_Mo_adds_11 : decode b_Mo_adds 11 = .ok (.getfield 13, 3) := by decide +kernel
theorem d_Mo_adds_14 : decode b_Mo_adds 14 = .ok (.aload_n 0, 1) := by decide +kernel
theorem d_Mo_adds_15 : decode b_Mo_adds 15 = .ok (.getfield 128, 3) := by decide +kernel
theorem d_Mo_adds_18 : decode b_Mo_adds 18 = .ok (.iload_n 2, 1) := by decide +kernel
theorem d_Mo_adds_19 : decode b_Mo_adds 19 = .ok (.iastore, 1) := by decide +kernel
theorem d_Mo_adds_20 : decode b_Mo_adds 20 = .ok (.aload_n 0, 1) := by decide +kernel
theorem d_Mo_adds_21 : decode b_Mo_adds 21 = .ok (.getfield 16, 3) := by decide +kernel
theorem d_Mo_adds_24 : decode b_Mo_adds 24 = .ok (.aload_n 0, 1) := by decide +kernel
theorem d_Mo_adds_25 : decode b_Mo_adds 25 = .ok (.getfield 128, 3) := by decide +kernel
theorem d_Mo_adds_28 : decode b_Mo_adds 28 = .ok (.iload_n 3, 1) := by decide +kernel
theorem d_Mo_adds_29 : decode b_Mo_adds 29 = .ok (.iastore, 1) := by decide +kernel
theorem d_Mo_adds_30 : decode b_Mo_adds 30 = .ok (.aload_n 0, 1) := by decide +kernel
theorem d_Mo_adds_31 : decode b_Mo_adds 31 = .ok (.getfield 19, 3) := by decide +kernel
theorem d_Mo_adds_34 : decode b_Mo_adds 34 = .ok (.aload_n 0, 1) := by decide +kernel
theorem d_Mo_adds_35 : decode b_Mo_adds 35 = .ok (.getfield 128, 3) := by decide +kernel
theorem d_Mo_adds_38 : decode b_Mo_adds 38 = .ok (.iload 4, 2) := by decide +kernel
theorem d_Mo_adds_40 : decode b_Mo_adds 40 = .ok (.iastore, 1) := by decide +kernel
theorem d_Mo_adds_41 : decode b_Mo_adds 41 = .ok (.aload_n 0, 1) := by decide +kernel
theorem d_Mo_adds_42 : decode b_Mo_adds 42 = .ok (.getfield 22, 3) := by decide +kernel
theorem d_Mo_adds_45 : decode b_Mo_adds 45 = .ok (.aload_n 0, 1) := by decide +kernel
theorem d_Mo_adds_46 : decode b_Mo_adds 46 = .ok (.getfield 128, 3) := by decide +kernel
theorem d_Mo_adds_49 : decode b_Mo_adds 49 = .ok (.iload 5, 2) := by decide +kernel
theorem d_Mo_adds_51 : decode b_Mo_adds 51 = .ok (.iastore, 1) := by decide +kernel
theorem d_Mo_adds_52 : decode b_Mo_adds 52 = .ok (.aload_n 0, 1) := by decide +kernel
theorem d_Mo_adds_53 : decode b_Mo_adds 53 = .ok (.dup, 1) := by decide +kernel
theorem d_Mo_adds_54 : decode b_Mo_adds 54 = .ok (.getfield 128, 3) := by decide +kernel
theorem d_Mo_adds_57 : decode b_Mo_adds 57 = .ok (.iconst 1, 1) := by decide +kernel
theorem d_Mo_adds_58 : decode b_Mo_adds 58 = .ok (.iadd, 1) := by decide +kernel
theorem d_Mo_adds_59 : decode b_Mo_adds 59 = .ok (.putfield 128, 3) := by decide +kernel
theorem d_Mo_adds_62 : decode b_Mo_adds 62 = .ok (.aload_n 0, 1) := by decide +kernel
theorem d_Mo_adds_63 : decode b_Mo_adds 63 = .ok (.getfield 128, 3) := by decide +kernel
theorem d_Mo_adds_66 : decode b_Mo_adds 66 = .ok (.iconst 1, 1) := by decide +kernel
theorem d_Mo_adds_67 : decode b_Mo_adds 67 = .ok (.isub, 1) := by decide +kernel
theorem d_Mo_adds_68 : decode b_Mo_adds 68 = .ok (.ireturn, 1) := by decide +kernel
theorem d_Mo_node_0 : decode b_Mo_node 0 = .ok (.aload_n 0, 1) := by decide +kernel
theorem d_Mo_node_1 : decode b_Mo_node 1 = .ok (.iconst 0, 1) := by decide +kernel
theorem d_Mo_node_2 : decode b_Mo_node 2 = .ok (.putfield 125, 3) := by decide +kernel
theorem d_Mo_node_5 : decode b_Mo_node 5 = .ok (.aload_n 0, 1) := by decide +kernel
theorem d_Mo_node_6 : decode b_Mo_node 6 = .ok (.getfield 128, 3) := by decide +kernel
theorem d_Mo_node_9 : decode b_Mo_node 9 = .ok (.sipush 150, 3) := by decide +kernel
theorem d_Mo_node_12 : decode b_Mo_node 12 = .ok (.if_icmp .eq 17, 3) := by decide +kernel
theorem d_Mo_node_15 : decode b_Mo_node 15 = .ok (.aload_n 0, 1) := by decide +kernel
theorem d_Mo_node_16 : decode b_Mo_node 16 = .ok (.iload_n 1, 1) := by decide +kernel
theorem d_Mo_node_17 : decode b_Mo_node 17 = .ok (.iload_n 2, 1) := by decide +kernel
theorem d_Mo_node_18 : decode b_Mo_node 18 = .ok (.iload_n 3, 1) := by decide +kernel
theorem d_Mo_node_19 : decode b_Mo_node 19 = .ok (.iload 4, 2) := by decide +kernel
theorem d_Mo_node_21 : decode b_Mo_node 21 = .ok (.iload 5, 2) := by decide +kernel
theorem d_Mo_node_23 : decode b_Mo_node 23 = .ok (.invokevirtual 148, 3) := by decide +kernel
theorem d_Mo_node_26 : decode b_Mo_node 26 = .ok (.ifCond .ne 7, 3) := by decide +kernel
theorem d_Mo_node_29 : decode b_Mo_node 29 = .ok (.iconst (-1), 1) := by decide +kernel
theorem d_Mo_node_30 : decode b_Mo_node 30 = .ok (.goto 14, 3) := by decide +kernel
theorem d_Mo_node_33 : decode b_Mo_node 33 = .ok (.aload_n 0, 1) := by decide +kernel
theorem d_Mo_node_34 : decode b_Mo_node 34 = .ok (.iload_n 1, 1) := by decide +kernel
theorem d_Mo_node_35 : decode b_Mo_node 35 = .ok (.iload_n 2, 1) := by decide +kernel
theorem d_Mo_node_36 : decode b_Mo_node 36 = .ok (.iload_n 3, 1) := by decide +kernel
theorem d_Mo_node_37 : decode b_Mo_node 37 = .ok (.iload 4, 2) := by decide +kernel
theorem d_Mo_node_39 : decode b_Mo_node 39 = .ok (.iload 5, 2) := by decide +kernel
theorem d_Mo_node_41 : decode b_Mo_node 41 = .ok (.invokevirtual 152, 3) := by decide +kernel
theorem d_Mo_node_44 : decode b_Mo_node 44 = .ok (.ireturn, 1) := by decide +kernel
theorem d_Mo_catchBehind_0 : decode b_Mo_catchBehind 0 = .ok (.aload_n 0, 1) := by decide +kernel
theorem d_Mo_catchBehind_1 : decode b_Mo_catchBehind 1 = .ok (.iconst 0, 1) := by decide +kernel
theorem d_Mo_catchBehind_2 : decode b_Mo_catchBehind 2 = .ok (.putfield 125, 3) := by decide +kernel
theorem d_Mo_catchBehind_5 : decode b_Mo_catchBehind 5 = .ok (.aload_n 0, 1) := by decide +kernel
theorem d_Mo_catchBehind_6 : decode b_Mo_catchBehind 6 = .ok (.getfield 128, 3) := by decide +kernel
theorem d_Mo_catchBehind_9 : decode b_Mo_catchBehind 9 = .ok (.sipush 150, 3) := by decide +kernel
theorem d_Mo_catchBehind_12 : decode b_Mo_catchBehind 12 = .ok (.if_icmp .eq 26, 3) := by decide +kernel
theorem d_Mo_catchBehind_15 : decode b_Mo_catchBehind 15 = .ok (.aload_n 0, 1) := by decide +kernel
theorem d_Mo_catchBehind_16 : decode b_Mo_catchBehind 16 = .ok (.bipush 19, 2) := by decide +kernel
theorem d_Mo_catchBehind_18 : decode b_Mo_catchBehind 18 = .ok (.iload_n 1, 1) := by decide +kernel
theorem d_Mo_catchBehind_19 : decode b_Mo_catchBehind 19 = .ok (.iload_n 2, 1) := by decide +kernel
theorem d_Mo_catchBehind_20 : decode b_Mo_catchBehind 20 = .ok (.iload_n 3, 1) := by decide +kernel
theorem d_Mo_catchBehind_21 : decode b_Mo_catchBehind 21 = .ok (.iload 4, 2) := by decide +kernel
theorem d_Mo_catchBehind_23 : decode b_Mo_catchBehind 23 = .ok (.invokevirtual 148, 3) := by decide +kernel
theorem d_Mo_catchBehind_26 : decode b_Mo_catchBehind 26 = .ok (.ifCond .eq 12, 3) := by decide +kernel
theorem d_Mo_catchBehind_29 : decode b_Mo_catchBehind 29 = .ok (.aload_n 0, 1) := by decide +kernel
theorem d_Mo_catchBehind_30 : decode b_Mo_catchBehind 30 = .ok (.iload 5, 2) := by decide +kernel
theorem d_Mo_catchBehind_32 : decode b_Mo_catchBehind 32 = .ok (.invokevirtual 145, 3) := by decide +kernel
theorem d_Mo_catchBehind_35 : decode b_Mo_catchBehind 35 = .ok (.ifCond .ne 5, 3) := by decide +kernel
theorem d_Mo_catchBehind_38 : decode b_Mo_catchBehind 38 = .ok (.iconst (-1), 1) := by decide +kernel
theorem d_Mo_catchBehind_39 : decode b_Mo_catchBehind 39 = .ok (.ireturn, 1) := by decide +kernel
theorem d_Mo_catchBehind_40 : decode b_Mo_catchBehind 40 = .ok (.aload_n 0, 1) := by decide +kernel
theorem d_Mo_catchBehind_41 : decode b_Mo_catchBehind 41 = .ok (.getfield 25, 3) := by decide +kernel
theorem d_Mo_catchBehind_44 : decode b_Mo_catchBehind 44 = .ok (.aload_n 0, 1) := by decide +kernel
theorem d_Mo_catchBehind_45 : decode b_Mo_catchBehind 45 = .ok (.getfield 128, 3) := by decide +kernel
theorem d_Mo_catchBehind_48 : decode b_Mo_catchBehind 48 = .ok (.iload 5, 2) := by decide +kernel
theorem d_Mo_catchBehind_50 : decode b_Mo_catchBehind 50 = .ok (.iastore, 1) := by decide +kernel
theorem d_Mo_catchBehind_51 : decode b_Mo_catchBehind 51 = .ok (.aload_n 0, 1) := by decide +kernel
theorem d_Mo_catchBehind_52 : decode b_Mo_catchBehind 52 = .ok (.bipush 20, 2) := by decide +kernel
theorem d_Mo_catchBehind_54 : decode b_Mo_catchBehind 54 = .ok (.iload_n 1, 1) := by decide +kernel
theorem d_Mo_catchBehind_55 : decode b_Mo_catchBehind 55 = .ok (.iload_n 2, 1) := by decide +kernel
theorem d_Mo_catchBehind_56 : decode b_Mo_catchBehind 56 = .ok (.iload_n 3, 1) := by decide +kernel
theorem d_Mo_catchBehind_57 : decode b_Mo_catchBehind 57 = .ok (.iload 4, 2) := by decide +kernel
theorem d_Mo_catchBehind_59 : decode b_Mo_catchBehind 59 = .ok (.invokevirtual 152, 3) := by decide +kernel
theorem d_Mo_catchBehind_62 : decode b_Mo_catchBehind 62 = .ok (.ireturn, 1) := by decide +kernel
theorem d_Mo_body_0 : decode b_Mo_body 0 = .ok (.aload_n 0, 1) := by decide +kernel
theorem d_Mo_body_1 : decode b_Mo_body 1 = .ok (.iconst 0, 1) := by decide +kernel
theorem d_Mo_body_2 : decode b_Mo_body 2 = .ok (.putfield 125, 3) := by decide +kernel
theorem d_Mo_body_5 : decode b_Mo_body 5 = .ok (.iload_n 1, 1) := by decide +kernel
theorem d_Mo_body_6 : decode b_Mo_body 6 = .ok (.ifCond .lt 21, 3) := by decide +kernel
theorem d_Mo_body_9 : decode b_Mo_body 9 = .ok (.iload_n 1, 1) := by decide +kernel
theorem d_Mo_body_10 : decode b_Mo_body 10 = .ok (.iconst 5, 1) := by decide +kernel
theorem d_Mo_body_11 : decode b_Mo_body 11 = .ok (.if_icmp .gt 16, 3) := by decide +kernel
theorem d_Mo_body_14 : decode b_Mo_body 14 = .ok (.iload_n 2, 1) := by decide +kernel
theorem d_Mo_body_15 : decode b_Mo_body 15 = .ok (.iconst (-1), 1) := by decide +kernel
theorem d_Mo_body_16 : decode b_Mo_body 16 = .ok (.if_icmp .eq 13, 3) := by decide +kernel
theorem d_Mo_body_19 : decode b_Mo_body 19 = .ok (.aload_n 0, 1) := by decide +kernel
theorem d_Mo_body_20 : decode b_Mo_body 20 = .ok (.iload_n 2, 1) := by decide +kernel
theorem d_Mo_body_21 : decode b_Mo_body 21 = .ok (.invokevirtual 142, 3) := by decide +kernel
theorem d_Mo_body_24 : decode b_Mo_body 24 = .ok (.ifCond .ne 5, 3) := by decide +kernel
theorem d_Mo_body_27 : decode b_Mo_body 27 = .ok (.iconst 0, 1) := by decide +kernel
theorem d_Mo_body_28 : decode b_Mo_body 28 = .ok (.ireturn, 1) := by decide +kernel
theorem d_Mo_body_29 : decode b_Mo_body 29 = .ok (.aload_n 0, 1) := by decide +kernel
theorem d_Mo_body_30 : decode b_Mo_body 30 = .ok (.getfield 28, 3) := by decide +kernel
theorem d_Mo_body_33 : decode b_Mo_body 33 = .ok (.iload_n 1, 1) := by decide +kernel
theorem d_Mo_body_34 : decode b_Mo_body 34 = .ok (.iload_n 2, 1) := by decide +kernel
theorem d_Mo_body_35 : decode b_Mo_body 35 = .ok (.iastore, 1) := by decide +kernel
theorem d_Mo_body_36 : decode b_Mo_body 36 = .ok (.iconst 1, 1) := by decide +kernel
theorem d_Mo_body_37 : decode b_Mo_body 37 = .ok (.ireturn, 1) := by decide +kernel
theorem d_Mo_hasFinally_0 : decode b_Mo_hasFinally 0 = .ok (.aload_n 0, 1) := by decide +kernel
theorem d_Mo_hasFinally_1 : decode b_Mo_hasFinally 1 = .ok (.getfield 7, 3) := by decide +kernel
theorem d_Mo_hasFinally_4 : decode b_Mo_hasFinally 4 = .ok (.aload_n 0, 1) := by decide +kernel
theorem d_Mo_hasFinally_5 : decode b_Mo_hasFinally 5 = .ok (.getfield 58, 3) := by decide +kernel
theorem d_Mo_hasFinally_8 : decode b_Mo_hasFinally 8 = .ok (.iload_n 1, 1) := by decide +kernel
theorem d_Mo_hasFinally_9 : decode b_Mo_hasFinally 9 = .ok (.iaload, 1) := by decide +kernel
theorem d_Mo_hasFinally_10 : decode b_Mo_hasFinally 10 = .ok (.iaload, 1) := by decide +kernel
theorem d_Mo_hasFinally_11 : decode b_Mo_hasFinally 11 = .ok (.bipush 18, 2) := by decide +kernel
theorem d_Mo_hasFinally_13 : decode b_Mo_hasFinally 13 = .ok (.if_icmp .ne 22, 3) := by decide +kernel
theorem d_Mo_hasFinally_16 : decode b_Mo_hasFinally 16 = .ok (.aload_n 0, 1) := by decide +kernel
theorem d_Mo_hasFinally_17 : decode b_Mo_hasFinally 17 = .ok (.getfield 19, 3) := by decide +kernel
theorem d_Mo_hasFinally_20 : decode b_Mo_hasFinally 20 = .ok (.aload_n 0, 1) := by decide +kernel
theorem d_Mo_hasFinally_21 : decode b_Mo_hasFinally 21 = .ok (.getfield 58, 3) := by decide +kernel
theorem d_Mo_hasFinally_24 : decode b_Mo_hasFinally 24 = .ok (.iload_n 1, 1) := by decide +kernel
theorem d_Mo_hasFinally_25 : decode b_Mo_hasFinally 25 = .ok (.iaload, 1) := by decide +kernel
theorem d_Mo_hasFinally_26 : decode b_Mo_hasFinally 26 = .ok (.iaload, 1) := by decide +kernel
theorem d_Mo_hasFinally_27 : decode b_Mo_hasFinally 27 = .ok (.iconst (-1), 1) := by decide +kernel
theorem d_Mo_hasFinally_28 : decode b_Mo_hasFinally 28 = .ok (.if_icmp .eq 7, 3) := by decide +kernel
theorem d_Mo_hasFinally_31 : decode b_Mo_hasFinally 31 = .ok (.iconst 1, 1) := by decide +kernel
theorem d_Mo_hasFinally_32 : decode b_Mo_hasFinally 32 = .ok (.goto 4, 3) := by decide +kernel
theorem d_Mo_hasFinally_35 : decode b_Mo_hasFinally 35 = .ok (.iconst 0, 1) := by decide +kernel
theorem d_Mo_hasFinally_36 : decode b_Mo_hasFinally 36 = .ok (.ireturn, 1) := by decide +kernel
theorem d_Mo_row_IIIII_0 : decode b_Mo_row_IIIII 0 = .ok (.aload_n 0, 1) := by decide +kernel
theorem d_Mo_row_IIIII_1 : decode b_Mo_row_IIIII 1 = .ok (.getfield 244, 3) := by decide +kernel
theorem d_Mo_row_IIIII_4 : decode b_Mo_row_IIIII 4 = .ok (.sipush 300, 3) := by decide +kernel
theorem d_Mo_row_IIIII_7 : decode b_Mo_row_IIIII 7 = .ok (.if_icmp .ne 9, 3) := by decide +kernel
theorem d_Mo_row_IIIII_10 : decode b_Mo_row_IIIII 10 = .ok (.aload_n 0, 1) := by decide +kernel
theorem d_Mo_row_IIIII_11 : decode b_Mo_row_IIIII 11 = .ok (.iconst 1, 1) := by decide +kernel
theorem d_Mo_row_IIIII_12 : decode b_Mo_row_IIIII 12 = .ok (.putfield 167, 3) := by decide +kernel
theorem d_Mo_row_IIIII_15 : decode b_Mo_row_IIIII 15 = .ok (.return_, 1) := by decide +kernel
theorem d_Mo_row_IIIII_16 : decode b_Mo_row_IIIII 16 = .ok (.aload_n 0, 1) := by decide +kernel
theorem d_Mo_row_IIIII_17 : decode b_Mo_row_IIIII 17 = .ok (.getfield 40, 3) := by decide +kernel
theorem d_Mo_row_IIIII_20 : decode b_Mo_row_IIIII 20 = .ok (.aload_n 0, 1) := by decide +kernel
theorem d_Mo_row_IIIII_21 : decode b_Mo_row_IIIII 21 = .ok (.getfield 244, 3) := by decide +kernel
theorem d_Mo_row_IIIII_24 : decode b_Mo_row_IIIII 24 = .ok (.iload_n 1, 1) := by decide +kernel
theorem d_Mo_row_IIIII_25 : decode b_Mo_row_IIIII 25 = .ok (.iastore, 1) := by decide +kernel
theorem d_Mo_row_IIIII_26 : decode b_Mo_row_IIIII 26 = .ok (.aload_n 0, 1) := by decide +kernel
theorem d_Mo_row_IIIII_27 : decode b_Mo_row_IIIII 27 = .ok (.getfield 43, 3) := by decide +kernel
theorem d_Mo_row_IIIII_30 : decode b_Mo_row_IIIII 30 = .ok (.aload_n 0, 1) := by decide +kernel
theorem d_Mo_row_IIIII_31 : decode b_Mo_row_IIIII 31 = .ok (.getfield 244, 3) := by decide +kernel
theorem d_Mo_row_IIIII_34 : decode b_Mo_row_IIIII 34 = .ok (.iload_n 2, 1) := by decide +kernel
theorem d_Mo_row_IIIII_35 : decode b_Mo_row_IIIII 35 = .ok (.iastore, 1) := by decide +kernel
theorem d_Mo_row_IIIII_36 : decode b_Mo_row_IIIII 36 = .ok (.aload_n 0, 1) := by decide +kernel
theorem d_Mo_row_IIIII_37 : decode b_Mo_row_IIIII 37 = .ok (.getfield 46, 3) := by decide +kernel
theorem d_Mo_row_IIIII_40 : decode b_Mo_row_IIIII 40 = .ok (.aload_n 0, 1) := by decide +kernel
theorem d_Mo_row_IIIII_41 : decode b_Mo_row_IIIII 41 = .ok (.getfield 244, 3) := by decide +kernel
theorem d_Mo_row_IIIII_44 : decode b_Mo_row_IIIII 44 = .ok (.iload_n 3, 1) := by decide +kernel
theorem d_Mo_row_IIIII_45 : decode b_Mo_row_IIIII 45 = .ok (.iastore, 1) := by decide +kernel
theorem d_Mo_row_IIIII_46 : decode b_Mo_row_IIIII 46 = .ok (.aload_n 0, 1) := by decide +kernel
theorem d_Mo_row_IIIII_47 : decode b_Mo_row_IIIII 47 = .ok (.getfield 49, 3) := by decide +kernel
theorem d_Mo_row_IIIII_50 : decode b_Mo_row_IIIII 50 = .ok (.aload_n 0, 1) := by decide +kernel
theorem d_Mo_row_IIIII_51 : decode b_Mo_row_IIIII 51 = .ok (.getfield 244, 3) := by decide +kernel
theorem d_Mo_row_IIIII_54 : decode b_Mo_row_IIIII 54 = .ok (.iload 4, 2) := by decide +kernel
theorem d_Mo_row_IIIII_56 : decode b_Mo_row_IIIII 56 = .ok (.iastore, 1) := by decide +kernel
theorem d_Mo_row_IIIII_57 : decode b_Mo_row_IIIII 57 = .ok (.aload_n 0, 1) := by decide +kernel
theorem d_Mo_row_IIIII_58 : decode b_Mo_row_IIIII 58 = .ok (.getfield 52, 3) := by decide +kernel
theorem d_Mo_row_IIIII_61 : decode b_Mo_row_IIIII 61 = .ok (.aload_n 0, 1) := by decide +kernel
theorem d_Mo_row_IIIII_62 : decode b_Mo_row_IIIII 62 = .ok (.getfield 244, 3) := by decide +kernel
theorem d_Mo_row_IIIII_65 : decode b_Mo_row_IIIII 65 = .ok (.iload 5, 2) := by decide +kernel
theorem d_Mo_row_IIIII_67 : decode b_Mo_row_IIIII 67 = .ok (.iastore, 1) := by decide +kernel
theorem d_Mo_row_IIIII_68 : decode b_Mo_row_IIIII 68 = .ok (.aload_n 0, 1) := by decide +kernel
theorem d_Mo_row_IIIII_69 : decode b_Mo_row_IIIII 69 = .ok (.dup, 1) := by decide +kernel
theorem d_Mo_row_IIIII_70 : decode b_Mo_row_IIIII 70 = .ok (.getfield 244, 3) := by decide +kernel
theorem d_Mo_row_IIIII_73 : decode b_Mo_row_IIIII 73 = .ok (.iconst 1, 1) := by decide +kernel
theorem d_Mo_row_IIIII_74 : decode b_Mo_row_IIIII 74 = .ok (.iadd, 1) := by decide +kernel
theorem d_Mo_row_IIIII_75 : decode b_Mo_row_IIIII 75 = .ok (.putfield 244, 3) := by decide +kernel
theorem d_Mo_row_IIIII_78 : decode b_Mo_row_IIIII 78 = .ok (.return_, 1) := by decide +kernel
theorem d_Mo_isAround_0 : decode b_Mo_isAround 0 = .ok (.aload_n 0, 1) := by decide +kernel
theorem d_Mo_isAround_1 : decode b_Mo_isAround 1 = .ok (.getfield 37, 3) := by decide +kernel
theorem d_Mo_isAround_4 : decode b_Mo_isAround 4 = .ok (.iload_n 2, 1) := by decide +kernel
theorem d_Mo_isAround_5 : decode b_Mo_isAround 5 = .ok (.iaload, 1) := by decide +kernel
theorem d_Mo_isAround_6 : decode b_Mo_isAround 6 = .ok (.istore_n 3, 1) := by decide +kernel
theorem d_Mo_isAround_7 : decode b_Mo_isAround 7 = .ok (.iload_n 3, 1) := by decide +kernel
theorem d_Mo_isAround_8 : decode b_Mo_isAround 8 = .ok (.iconst (-1), 1) := by decide +kernel
theorem d_Mo_isAround_9 : decode b_Mo_isAround 9 = .ok (.if_icmp .eq 28, 3) := by decide +kernel
theorem d_Mo_isAround_12 : decode b_Mo_isAround 12 = .ok (.iload_n 3, 1) := by decide +kernel
theorem d_Mo_isAround_13 : decode b_Mo_isAround 13 = .ok (.iconst 2, 1) := by decide +kernel
theorem d_Mo_isAround_14 : decode b_Mo_isAround 14 = .ok (.idiv, 1) := by decide +kernel
theorem d_Mo_isAround_15 : decode b_Mo_isAround 15 = .ok (.iload_n 1, 1) := by decide +kernel
theorem d_Mo_isAround_16 : decode b_Mo_isAround 16 = .ok (.if_icmp .ne 9, 3) := by decide +kernel
theorem d_Mo_isAround_19 : decode b_Mo_isAround 19 = .ok (.iconst 1, 1) := by decide +kernel
theorem d_Mo_isAround_20 : decode b_Mo_isAround 20 = .ok (.iload_n 3, 1) := by decide +kernel
theorem d_Mo_isAround_21 : decode b_Mo_isAround 21 = .ok (.iconst 2, 1) := by decide +kernel
theorem d_Mo_isAround_22 : decode b_Mo_isAround 22 = .ok (.irem, 1) := by decide +kernel
theorem d_Mo_isAround_23 : decode b_Mo_isAround 23 = .ok (.iadd, 1) := by decide +kernel
theorem d_Mo_isAround_24 : decode b_Mo_isAround 24 = .ok (.ireturn, 1) := by decide +kernel
theorem d_Mo_isAround_25 : decode b_Mo_isAround 25 = .ok (.aload_n 0, 1) := by decide +kernel
theorem d_Mo_isAround_26 : decode b_Mo_isAround 26 = .ok (.getfield 61, 3) := by decide +kernel
theorem d_Mo_isAround_29 : decode b_Mo_isAround 29 = .ok (.iload_n 3, 1) := by decide +kernel
theorem d_Mo_isAround_30 : decode b_Mo_isAround 30 = .ok (.iconst 2, 1) := by decide +kernel
theorem d_Mo_isAround_31 : decode b_Mo_isAround 31 = .ok (.idiv, 1) := by decide +kernel
theorem d_Mo_isAround_32 : decode b_Mo_isAround 32 = .ok (.iaload, 1) := by decide +kernel
theorem d_Mo_isAround_33 : decode b_Mo_isAround 33 = .ok (.istore_n 3, 1) := by decide +kernel
theorem d_Mo_isAround_34 : decode b_Mo_isAround 34 = .ok (.goto (-27), 3) := by decide +kernel
theorem d_Mo_isAround_37 : decode b_Mo_isAround 37 = .ok (.iconst 0, 1) := by decide +kernel
theorem d_Mo_isAround_38 : decode b_Mo_isAround 38 = .ok (.ireturn, 1) := by decide +kernel
theorem d_Mo_stretches_0 : decode b_Mo_stretches 0 = .ok (.iconst (-1), 1) := by decide +kernel
theorem d_Mo_stretches_1 : decode b_Mo_stretches 1 = .ok (.istore 6, 2) := by decide +kernel
theorem d_Mo_stretches_3 : decode b_Mo_stretches 3 = .ok (.iconst 0, 1) := by decide +kernel
theorem d_Mo_stretches_4 : decode b_Mo_stretches 4 = .ok (.istore 7, 2) := by decide +kernel
theorem d_Mo_stretches_6 : decode b_Mo_stretches 6 = .ok (.iload 7, 2) := by decide +kernel
theorem d_Mo_stretches_8 : decode b_Mo_stretches 8 = .ok (.aload_n 0, 1) := by decide +kernel
theorem d_Mo_stretches_9 : decode b_Mo_stretches 9 = .ok (.getfield 164, 3) := by decide +kernel
theorem d_Mo_stretches_12 : decode b_Mo_stretches 12 = .ok (.if_icmp .gt 103, 3) := by decide +kernel
theorem d_Mo_stretches_15 : decode b_Mo_stretches 15 = .ok (.aload_n 0, 1) := by decide +kernel
theorem d_Mo_stretches_16 : decode b_Mo_stretches 16 = .ok (.getfield 167, 3) := by decide +kernel
theorem d_Mo_stretches_19 : decode b_Mo_stretches 19 = .ok (.ifCond .ne 96, 3) := by decide +kernel
theorem d_Mo_stretches_22 : decode b_Mo_stretches 22 = .ok (.iload 7, 2) := by decide +kernel
theorem d_Mo_stretches_24 : decode b_Mo_stretches 24 = .ok (.aload_n 0, 1) := by decide +kernel
theorem d_Mo_stretches_25 : decode b_Mo_stretches 25 = .ok (.getfield 164, 3) := by decide +kernel
theorem d_Mo_stretches_28 : decode b_Mo_stretches 28 = .ok (.if_icmp .ge 13, 3) := by decide +kernel
theorem d_Mo_stretches_31 : decode b_Mo_stretches 31 = .ok (.aload_n 0, 1) := by decide +kernel
theorem d_Mo_stretches_32 : decode b_Mo_stretches 32 = .ok (.iload_n 1, 1) := by decide +kernel
theorem d_Mo_stretches_33 : decode b_Mo_stretches 33 = .ok (.iload 7, 2) := by decide +kernel
theorem d_Mo_stretches_35 : decode b_Mo_stretches 35 = .ok (.invokevirtual 247, 3) := by decide +kernel
theorem d_Mo_stretches_38 : decode b_Mo_stretches 38 = .ok (.goto 4, 3) := by decide +kernel
theorem d_Mo_stretches_41 : decode b_Mo_stretches 41 = .ok (.iconst 0, 1) := by decide +kernel
theorem d_Mo_stretches_42 : decode b_Mo_stretches 42 = .ok (.istore 8, 2) := by decide +kernel
theorem d_Mo_stretches_44 : decode b_Mo_stretches 44 = .ok (.iload 8, 2) := by decide +kernel
theorem d_Mo_stretches_46 : decode b_Mo_stretches 46 = .ok (.iconst 1, 1) := by decide +kernel
theorem d_Mo_stretches_47 : decode b_Mo_stretches 47 = .ok (.if_icmp .eq 13, 3) := by decide +kernel
theorem d_Mo_stretches_50 : decode b_Mo_stretches 50 = .ok (.iload 8, 2) := by decide +kernel
theorem d_Mo_stretches_52 : decode b_Mo_stretches 52 = .ok (.iconst 2, 1) := by decide +kernel
theorem d_Mo_stretches_53 : decode b_Mo_stretches 53 = .ok (.if_icmp .ne 11, 3) := by decide +kernel
theorem d_Mo_stretches_56 : decode b_Mo_stretches 56 = .ok (.iload_n 2, 1) := by decide +kernel
theorem d_Mo_stretches_57 : decode b_Mo_stretches 57 = .ok (.ifCond .ne 7, 3) := by decide +kernel
theorem d_Mo_stretches_60 : decode b_Mo_stretches 60 = .ok (.iconst 1, 1) := by decide +kernel
theorem d_Mo_stretches_61 : decode b_Mo_stretches 61 = .ok (.goto 4, 3) := by decide +kernel
theorem d_Mo_stretches_64 : decode b_Mo_stretches 64 = .ok (.iconst 0, 1) := by decide +kernel
theorem d_Mo_stretches_65 : decode b_Mo_stretches 65 = .ok (.istore 9, 2) := by decide +kernel
theorem d_Mo_stretches_67 : decode b_Mo_stretches 67 = .ok (.iload 9, 2) := by decide +kernel
theorem d_Mo_stretches_69 : decode b_Mo_stretches 69 = .ok (.ifCond .eq 13, 3) := by decide +kernel
theorem d_Mo_stretches_72 : decode b_Mo_stretches 72 = .ok (.iload 6, 2) := by decide +kernel
theorem d_Mo_stretches_74 : decode b_Mo_stretches 74 = .ok (.iconst (-1), 1) := by decide +kernel
theorem d_Mo_stretches_75 : decode b_Mo_stretches 75 = .ok (.if_icmp .ne 7, 3) := by decide +kernel
theorem d_Mo_stretches_78 : decode b_Mo_stretches 78 = .ok (.iload 7, 2) := by decide +kernel
theorem d_Mo_stretches_80 : decode b_Mo_stretches 80 = .ok (.istore 6, 2) := by decide +kernel
theorem d_Mo_stretches_82 : decode b_Mo_stretches 82 = .ok (.iload 9, 2) := by decide +kernel
theorem d_Mo_stretches_84 : decode b_Mo_stretches 84 = .ok (.ifCond .ne 25, 3) := by decide +kernel
theorem d_Mo_stretches_87 : decode b_Mo_stretches 87 = .ok (.iload 6, 2) := by decide +kernel
theorem d_Mo_stretches_89 : decode b_Mo_stretches 89 = .ok (.iconst (-1), 1) := by decide +kernel
theorem d_Mo_stretches_90 : decode b_Mo_stretches 90 = .ok (.if_icmp .eq 19, 3) := by decide +kernel
theorem d_Mo_stretches_93 : decode b_Mo_stretches 93 = .ok (.aload_n 0, 1) := by decide +kernel
theorem d_Mo_stretches_94 : decode b_Mo_stretches 94 = .ok (.iload 6, 2) := by decide +kernel
theorem d_Mo_stretches_96 : decode b_Mo_stretches 96 = .ok (.iload 7, 2) := by decide +kernel
theorem d_Mo_stretches_98 : decode b_Mo_stretches 98 = .ok (.iload_n 3, 1) := by decide +kernel
theorem d_Mo_stretches_99 : decode b_Mo_stretches 99 = .ok (.iload 4, 2) := by decide +kernel
theorem d_Mo_stretches_101 : decode b_Mo_stretches 101 = .ok (.iload 5, 2) := by decide +kernel
theorem d_Mo_stretches_103 : decode b_Mo_stretches 103 = .ok (.invokevirtual 250, 3) := by decide +kernel
theorem d_Mo_stretches_106 : decode b_Mo_stretches 106 = .ok (.iconst (-1), 1) := by decide +kernel
theorem d_Mo_stretches_107 : decode b_Mo_stretches 107 = .ok (.istore 6, 2) := by decide +kernel
theorem d_Mo_stretches_109 : decode b_Mo_stretches 109 = .ok (.iinc 7 1, 3) := by decide +kernel
theorem d_Mo_stretches_112 : decode b_Mo_stretches 112 = .ok (.goto (-106), 3) := by decide +kernel
theorem d_Mo_stretches_115 : decode b_Mo_stretches 115 = .ok (.return_, 1) := by decide +kernel
theorem d_Mo_catches_0 : decode b_Mo_catches 0 = .ok (.iconst 0, 1) := by decide +kernel
theorem d_Mo_catches_1 : decode b_Mo_catches 1 = .ok (.istore_n 2, 1) := by decide +kernel
theorem d_Mo_catches_2 : decode b_Mo_catches 2 = .ok (.aload_n 0, 1) := by decide +kernel
theorem d_Mo_catches_3 : decode b_Mo_catches 3 = .ok (.getfield 156, 3) := by decide +kernel
theorem d_Mo_catches_6 : decode b_Mo_catches 6 = .ok (.ifCond .eq 7, 3) := by decide +kernel
theorem d_Mo_catches_9 : decode b_Mo_catches 9 = .ok (.iconst (-1), 1) := by decide +kernel
theorem d_Mo_catches_10 : decode b_Mo_catches 10 = .ok (.goto 9, 3) := by decide +kernel
theorem d_Mo_catches_13 : decode b_Mo_catches 13 = .ok (.aload_n 0, 1) := by decide +kernel
theorem d_Mo_catches_14 : decode b_Mo_catches 14 = .ok (.getfield 16, 3) := by decide +kernel
theorem d_Mo_catches_17 : decode b_Mo_catches 17 = .ok (.iload_n 1, 1) := by decide +kernel
theorem d_Mo_catches_18 : decode b_Mo_catches 18 = .ok (.iaload, 1) := by decide +kernel
theorem d_Mo_catches_19 : decode b_Mo_catches 19 = .ok (.istore_n 3, 1) := by decide +kernel
theorem d_Mo_catches_20 : decode b_Mo_catches 20 = .ok (.iload_n 3, 1) := by decide +kernel
theorem d_Mo_catches_21 : decode b_Mo_catches 21 = .ok (.iconst (-1), 1) := by decide +kernel
theorem d_Mo_catches_22 : decode b_Mo_catches 22 = .ok (.if_icmp .eq 31, 3) := by decide +kernel
theorem d_Mo_catches_25 : decode b_Mo_catches 25 = .ok (.iinc 2 1, 3) := by decide +kernel
theorem d_Mo_catches_28 : decode b_Mo_catches 28 = .ok (.aload_n 0, 1) := by decide +kernel
theorem d_Mo_catches_29 : decode b_Mo_catches 29 = .ok (.getfield 7, 3) := by decide +kernel
theorem d_Mo_catches_32 : decode b_Mo_catches 32 = .ok (.iload_n 3, 1) := by decide +kernel
theorem d_Mo_catches_33 : decode b_Mo_catches 33 = .ok (.iaload, 1) := by decide +kernel
theorem d_Mo_catches_34 : decode b_Mo_catches 34 = .ok (.bipush 20, 2) := by decide +kernel
theorem d_Mo_catches_36 : decode b_Mo_catches 36 = .ok (.if_icmp .ne 12, 3) := by decide +kernel
theorem d_Mo_catches_39 : decode b_Mo_catches 39 = .ok (.aload_n 0, 1) := by decide +kernel
theorem d_Mo_catches_40 : decode b_Mo_catches 40 = .ok (.getfield 25, 3) := by decide +kernel
theorem d_Mo_catches_43 : decode b_Mo_catches 43 = .ok (.iload_n 3, 1) := by decide +kernel
theorem d_Mo_catches_44 : decode b_Mo_catches 44 = .ok (.iaload, 1) := by decide +kernel
theorem d_Mo_catches_45 : decode b_Mo_catches 45 = .ok (.goto 4, 3) := by decide +kernel
theorem d_Mo_catches_48 : decode b_Mo_catches 48 = .ok (.iconst (-1), 1) := by decide +kernel
theorem d_Mo_catches_49 : decode b_Mo_catches 49 = .ok (.istore_n 3, 1) := by decide +kernel
theorem d_Mo_catches_50 : decode b_Mo_catches 50 = .ok (.goto (-30), 3) := by decide +kernel
theorem d_Mo_catches_53 : decode b_Mo_catches 53 = .ok (.iload_n 2, 1) := by decide +kernel
theorem d_Mo_catches_54 : decode b_Mo_catches 54 = .ok (.ireturn, 1) := by decide +kernel
end
section
theorem d_Mo_catchAt_0 : decode b_Mo_catchAt 0 = .ok (.aload_n 0, 1) := by decide +kernel
theorem d_Mo_catchAt_1 : decode b_Mo_catchAt 1 = .ok (.getfield 16, 3) := by decide +kernel
theorem d_Mo_catchAt_4 : decode b_Mo_catchAt 4 = .ok (.iload_n 1, 1) := by decide +kernel
theorem d_Mo_catchAt_5 : decode b_Mo_catchAt 5 = .ok (.iaload, 1) := by decide +kernel
theorem d_Mo_catchAt_6 : decode b_Mo_catchAt 6 = .ok (.istore_n 3, 1) := by decide +kernel
theorem d_Mo_catchAt_7 : decode b_Mo_catchAt 7 = .ok (.aload_n 0, 1) := by decide +kernel
theorem d_Mo_catchAt_8 : decode b_Mo_catchAt 8 = .ok (.iload_n 1, 1) := by decide +kernel
theorem d_Mo_catchAt_9 : decode b_Mo_catchAt 9 = .ok (.invokevirtual 160, 3) := by decide +kernel
theorem d_Mo_catchAt_12 : decode b_Mo_catchAt 12 = .ok (.iconst 1, 1) := by decide +kernel
theorem d_Mo_catchAt_13 : decode b_Mo_catchAt 13 = .ok (.isub, 1) := by decide +kernel
theorem d_Mo_catchAt_14 : decode b_Mo_catchAt 14 = .ok (.istore 4, 2) := by decide +kernel
theorem d_Mo_catchAt_16 : decode b_Mo_catchAt 16 = .ok (.iload 4, 2) := by decide +kernel
theorem d_Mo_catchAt_18 : decode b_Mo_catchAt 18 = .ok (.iload_n 2, 1) := by decide +kernel
theorem d_Mo_catchAt_19 : decode b_Mo_catchAt 19 = .ok (.if_icmp .le 16, 3) := by decide +kernel
theorem d_Mo_catchAt_22 : decode b_Mo_catchAt 22 = .ok (.aload_n 0, 1) := by decide +kernel
theorem d_Mo_catchAt_23 : decode b_Mo_catchAt 23 = .ok (.getfield 25, 3) := by decide +kernel
theorem d_Mo_catchAt_26 : decode b_Mo_catchAt 26 = .ok (.iload_n 3, 1) := by decide +kernel
theorem d_Mo_catchAt_27 : decode b_Mo_catchAt 27 = .ok (.iaload, 1) := by decide +kernel
theorem d_Mo_catchAt_28 : decode b_Mo_catchAt 28 = .ok (.istore_n 3, 1) := by decide +kernel
theorem d_Mo_catchAt_29 : decode b_Mo_catchAt 29 = .ok (.iinc 4 (-1), 3) := by decide +kernel
theorem d_Mo_catchAt_32 : decode b_Mo_catchAt 32 = .ok (.goto (-16), 3) := by decide +kernel
theorem d_Mo_catchAt_35 : decode b_Mo_catchAt 35 = .ok (.iload_n 3, 1) := by decide +kernel
theorem d_Mo_catchAt_36 : decode b_Mo_catchAt 36 = .ok (.ireturn, 1) := by decide +kernel
theorem d_Mo_table_0 : decode b_Mo_table 0 = .ok (.aload_n 0, 1) := by decide +kernel
theorem d_Mo_table_1 : decode b_Mo_table 1 = .ok (.getfield 58, 3) := by decide +kernel
theorem d_Mo_table_4 : decode b_Mo_table 4 = .ok (.iload_n 1, 1) := by decide +kernel
theorem d_Mo_table_5 : decode b_Mo_table 5 = .ok (.iaload, 1) := by decide +kernel
theorem d_Mo_table_6 : decode b_Mo_table 6 = .ok (.istore_n 2, 1) := by decide +kernel
theorem d_Mo_table_7 : decode b_Mo_table 7 = .ok (.aload_n 0, 1) := by decide +kernel
theorem d_Mo_table_8 : decode b_Mo_table 8 = .ok (.iload_n 2, 1) := by decide +kernel
theorem d_Mo_table_9 : decode b_Mo_table 9 = .ok (.invokevirtual 160, 3) := by decide +kernel
theorem d_Mo_table_12 : decode b_Mo_table 12 = .ok (.istore_n 3, 1) := by decide +kernel
theorem d_Mo_table_13 : decode b_Mo_table 13 = .ok (.iconst 0, 1) := by decide +kernel
theorem d_Mo_table_14 : decode b_Mo_table 14 = .ok (.istore 4, 2) := by decide +kernel
theorem d_Mo_table_16 : decode b_Mo_table 16 = .ok (.iload 4, 2) := by decide +kernel
theorem d_Mo_table_18 : decode b_Mo_table 18 = .ok (.iload_n 3, 1) := by decide +kernel
theorem d_Mo_table_19 : decode b_Mo_table 19 = .ok (.if_icmp .ge 60, 3) := by decide +kernel
theorem d_Mo_table_22 : decode b_Mo_table 22 = .ok (.aload_n 0, 1) := by decide +kernel
theorem d_Mo_table_23 : decode b_Mo_table 23 = .ok (.getfield 167, 3) := by decide +kernel
theorem d_Mo_table_26 : decode b_Mo_table 26 = .ok (.ifCond .ne 53, 3) := by decide +kernel
theorem d_Mo_table_29 : decode b_Mo_table 29 = .ok (.aload_n 0, 1) := by decide +kernel
theorem d_Mo_table_30 : decode b_Mo_table 30 = .ok (.iload_n 1, 1) := by decide +kernel
theorem d_Mo_table_31 : decode b_Mo_table 31 = .ok (.iconst 1, 1) := by decide +kernel
theorem d_Mo_table_32 : decode b_Mo_table 32 = .ok (.aload_n 0, 1) := by decide +kernel
theorem d_Mo_table_33 : decode b_Mo_table 33 = .ok (.getfield 76, 3) := by decide +kernel
theorem d_Mo_table_36 : decode b_Mo_table 36 = .ok (.aload_n 0, 1) := by decide +kernel
theorem d_Mo_table_37 : decode b_Mo_table 37 = .ok (.getfield 73, 3) := by decide +kernel
theorem d_Mo_table_40 : decode b_Mo_table 40 = .ok (.iload_n 1, 1) := by decide +kernel
theorem d_Mo_table_41 : decode b_Mo_table 41 = .ok (.iaload, 1) := by decide +kernel
theorem d_Mo_table_42 : decode b_Mo_table 42 = .ok (.iload 4, 2) := by decide +kernel
theorem d_Mo_table_44 : decode b_Mo_table 44 = .ok (.iadd, 1) := by decide +kernel
theorem d_Mo_table_45 : decode b_Mo_table 45 = .ok (.iaload, 1) := by decide +kernel
theorem d_Mo_table_46 : decode b_Mo_table 46 = .ok (.aload_n 0, 1) := by decide +kernel
theorem d_Mo_table_47 : decode b_Mo_table 47 = .ok (.getfield 13, 3) := by decide +kernel
theorem d_Mo_table_50 : decode b_Mo_table 50 = .ok (.aload_n 0, 1) := by decide +kernel
theorem d_Mo_table_51 : decode b_Mo_table 51 = .ok (.iload_n 2, 1) := by decide +kernel
theorem d_Mo_table_52 : decode b_Mo_table 52 = .ok (.iload 4, 2) := by decide +kernel
theorem d_Mo_table_54 : decode b_Mo_table 54 = .ok (.invokevirtual 234, 3) := by decide +kernel
theorem d_Mo_table_57 : decode b_Mo_table 57 = .ok (.iaload, 1) := by decide +kernel
theorem d_Mo_table_58 : decode b_Mo_table 58 = .ok (.aload_n 0, 1) := by decide +kernel
theorem d_Mo_table_59 : decode b_Mo_table 59 = .ok (.getfield 16, 3) := by decide +kernel
theorem d_Mo_table_62 : decode b_Mo_table 62 = .ok (.aload_n 0, 1) := by decide +kernel
theorem d_Mo_table_63 : decode b_Mo_table 63 = .ok (.iload_n 2, 1) := by decide +kernel
theorem d_Mo_table_64 : decode b_Mo_table 64 = .ok (.iload 4, 2) := by decide +kernel
theorem d_Mo_table_66 : decode b_Mo_table 66 = .ok (.invokevirtual 234, 3) := by decide +kernel
theorem d_Mo_table_69 : decode b_Mo_table 69 = .ok (.iaload, 1) := by decide +kernel
theorem d_Mo_table_70 : decode b_Mo_table 70 = .ok (.invokevirtual 254, 3) := by decide +kernel
theorem d_Mo_table_73 : decode b_Mo_table 73 = .ok (.iinc 4 1, 3) := by decide +kernel
theorem d_Mo_table_76 : decode b_Mo_table 76 = .ok (.goto (-60), 3) := by decide +kernel
theorem d_Mo_table_79 : decode b_Mo_table 79 = .ok (.aload_n 0, 1) := by decide +kernel
theorem d_Mo_table_80 : decode b_Mo_table 80 = .ok (.iload_n 1, 1) := by decide +kernel
theorem d_Mo_table_81 : decode b_Mo_table 81 = .ok (.invokevirtual 225, 3) := by decide +kernel
theorem d_Mo_table_84 : decode b_Mo_table 84 = .ok (.ifCond .eq 28, 3) := by decide +kernel
theorem d_Mo_table_87 : decode b_Mo_table 87 = .ok (.aload_n 0, 1) := by decide +kernel
theorem d_Mo_table_88 : decode b_Mo_table 88 = .ok (.iload_n 1, 1) := by decide +kernel
theorem d_Mo_table_89 : decode b_Mo_table 89 = .ok (.iconst 0, 1) := by decide +kernel
theorem d_Mo_table_90 : decode b_Mo_table 90 = .ok (.aload_n 0, 1) := by decide +kernel
theorem d_Mo_table_91 : decode b_Mo_table 91 = .ok (.getfield 76, 3) := by decide +kernel
theorem d_Mo_table_94 : decode b_Mo_table 94 = .ok (.aload_n 0, 1) := by decide +kernel
theorem d_Mo_table_95 : decode b_Mo_table 95 = .ok (.getfield 73, 3) := by decide +kernel
theorem d_Mo_table_98 : decode b_Mo_table 98 = .ok (.iload_n 1, 1) := by decide +kernel
theorem d_Mo_table_99 : decode b_Mo_table 99 = .ok (.iaload, 1) := by decide +kernel
theorem d_Mo_table_100 : decode b_Mo_table 100 = .ok (.iload_n 3, 1) := by decide +kernel
theorem d_Mo_table_101 : decode b_Mo_table 101 = .ok (.iadd, 1) := by decide +kernel
theorem d_Mo_table_102 : decode b_Mo_table 102 = .ok (.iaload, 1) := by decide +kernel
theorem d_Mo_table_103 : decode b_Mo_table 103 = .ok (.ldc_w 258, 3) := by decide +kernel
theorem d_Mo_table_106 : decode b_Mo_table 106 = .ok (.ldc_w 259, 3) := by decide +kernel
theorem d_Mo_table_109 : decode b_Mo_table 109 = .ok (.invokevirtual 254, 3) := by decide +kernel
theorem d_Mo_table_112 : decode b_Mo_table 112 = .ok (.return_, 1) := by decide +kernel
theorem d_Mo_separates_0 : decode b_Mo_separates 0 = .ok (.aload_n 0, 1) := by decide +kernel
theorem d_Mo_separates_1 : decode b_Mo_separates 1 = .ok (.getfield 73, 3) := by decide +kernel
theorem d_Mo_separates_4 : decode b_Mo_separates 4 = .ok (.iload_n 1, 1) := by decide +kernel
theorem d_Mo_separates_5 : decode b_Mo_separates 5 = .ok (.aload_n 0, 1) := by decide +kernel
theorem d_Mo_separates_6 : decode b_Mo_separates 6 = .ok (.getfield 238, 3) := by decide +kernel
theorem d_Mo_separates_9 : decode b_Mo_separates 9 = .ok (.iastore, 1) := by decide +kernel
theorem d_Mo_separates_10 : decode b_Mo_separates 10 = .ok (.aload_n 0, 1) := by decide +kernel
theorem d_Mo_separates_11 : decode b_Mo_separates 11 = .ok (.getfield 82, 3) := by decide +kernel
theorem d_Mo_separates_14 : decode b_Mo_separates 14 = .ok (.aload_n 0, 1) := by decide +kernel
theorem d_Mo_separates_15 : decode b_Mo_separates 15 = .ok (.getfield 173, 3) := by decide +kernel
theorem d_Mo_separates_18 : decode b_Mo_separates 18 = .ok (.aload_n 0, 1) := by decide +kernel
theorem d_Mo_separates_19 : decode b_Mo_separates 19 = .ok (.getfield 58, 3) := by decide +kernel
theorem d_Mo_separates_22 : decode b_Mo_separates 22 = .ok (.iload_n 1, 1) := by decide +kernel
theorem d_Mo_separates_23 : decode b_Mo_separates 23 = .ok (.iaload, 1) := by decide +kernel
theorem d_Mo_separates_24 : decode b_Mo_separates 24 = .ok (.iastore, 1) := by decide +kernel
theorem d_Mo_separates_25 : decode b_Mo_separates 25 = .ok (.aload_n 0, 1) := by decide +kernel
theorem d_Mo_separates_26 : decode b_Mo_separates 26 = .ok (.getfield 85, 3) := by decide +kernel
theorem d_Mo_separates_29 : decode b_Mo_separates 29 = .ok (.aload_n 0, 1) := by decide +kernel
theorem d_Mo_separates_30 : decode b_Mo_separates 30 = .ok (.getfield 173, 3) := by decide +kernel
theorem d_Mo_separates_33 : decode b_Mo_separates 33 = .ok (.aload_n 0, 1) := by decide +kernel
theorem d_Mo_separates_34 : decode b_Mo_separates 34 = .ok (.getfield 61, 3) := by decide +kernel
theorem d_Mo_separates_37 : decode b_Mo_separates 37 = .ok (.iload_n 1, 1) := by decide +kernel
theorem d_Mo_separates_38 : decode b_Mo_separates 38 = .ok (.iaload, 1) := by decide +kernel
theorem d_Mo_separates_39 : decode b_Mo_separates 39 = .ok (.iastore, 1) := by decide +kernel
theorem d_Mo_separates_40 : decode b_Mo_separates 40 = .ok (.aload_n 0, 1) := by decide +kernel
theorem d_Mo_separates_41 : decode b_Mo_separates 41 = .ok (.getfield 94, 3) := by decide +kernel
theorem d_Mo_separates_44 : decode b_Mo_separates 44 = .ok (.aload_n 0, 1) := by decide +kernel
theorem d_Mo_separates_45 : decode b_Mo_separates 45 = .ok (.getfield 173, 3) := by decide +kernel
theorem d_Mo_separates_48 : decode b_Mo_separates 48 = .ok (.bipush 100, 2) := by decide +kernel
theorem d_Mo_separates_50 : decode b_Mo_separates 50 = .ok (.iastore, 1) := by decide +kernel
theorem d_Mo_separates_51 : decode b_Mo_separates 51 = .ok (.aload_n 0, 1) := by decide +kernel
theorem d_Mo_separates_52 : decode b_Mo_separates 52 = .ok (.getfield 97, 3) := by decide +kernel
theorem d_Mo_separates_55 : decode b_Mo_separates 55 = .ok (.aload_n 0, 1) := by decide +kernel
theorem d_Mo_separates_56 : decode b_Mo_separates 56 = .ok (.getfield 173, 3) := by decide +kernel
theorem d_Mo_separates_59 : decode b_Mo_separates 59 = .ok (.iload_n 1, 1) := by decide +kernel
theorem d_Mo_separates_60 : decode b_Mo_separates 60 = .ok (.iastore, 1) := by decide +kernel
theorem d_Mo_separates_61 : decode b_Mo_separates 61 = .ok (.aload_n 0, 1) := by decide +kernel
theorem d_Mo_separates_62 : decode b_Mo_separates 62 = .ok (.getfield 100, 3) := by decide +kernel
theorem d_Mo_separates_65 : decode b_Mo_separates 65 = .ok (.aload_n 0, 1) := by decide +kernel
theorem d_Mo_separates_66 : decode b_Mo_separates 66 = .ok (.getfield 173, 3) := by decide +kernel
theorem d_Mo_separates_69 : decode b_Mo_separates 69 = .ok (.iconst 0, 1) := by decide +kernel
theorem d_Mo_separates_70 : decode b_Mo_separates 70 = .ok (.iastore, 1) := by decide +kernel
theorem d_Mo_separates_71 : decode b_Mo_separates 71 = .ok (.aload_n 0, 1) := by decide +kernel
theorem d_Mo_separates_72 : decode b_Mo_separates 72 = .ok (.dup, 1) := by decide +kernel
theorem d_Mo_separates_73 : decode b_Mo_separates 73 = .ok (.getfield 173, 3) := by decide +kernel
theorem d_Mo_separates_76 : decode b_Mo_separates 76 = .ok (.iconst 1, 1) := by decide +kernel
theorem d_Mo_separates_77 : decode b_Mo_separates 77 = .ok (.iadd, 1) := by decide +kernel
theorem d_Mo_separates_78 : decode b_Mo_separates 78 = .ok (.putfield 173, 3) := by decide +kernel
theorem d_Mo_separates_81 : decode b_Mo_separates 81 = .ok (.return_, 1) := by decide +kernel
theorem d_Mo_put_0 : decode b_Mo_put 0 = .ok (.aload_n 0, 1) := by decide +kernel
theorem d_Mo_put_1 : decode b_Mo_put 1 = .ok (.getfield 164, 3) := by decide +kernel
theorem d_Mo_put_4 : decode b_Mo_put 4 = .ok (.sipush 1000, 3) := by decide +kernel
theorem d_Mo_put_7 : decode b_Mo_put 7 = .ok (.if_icmp .eq 10, 3) := by decide +kernel
theorem d_Mo_put_10 : decode b_Mo_put 10 = .ok (.aload_n 0, 1) := by decide +kernel
theorem d_Mo_put_11 : decode b_Mo_put 11 = .ok (.getfield 167, 3) := by decide +kernel
theorem d_Mo_put_14 : decode b_Mo_put 14 = .ok (.ifCond .eq 9, 3) := by decide +kernel
theorem d_Mo_put_17 : decode b_Mo_put 17 = .ok (.aload_n 0, 1) := by decide +kernel
theorem d_Mo_put_18 : decode b_Mo_put 18 = .ok (.iconst 1, 1) := by decide +kernel
theorem d_Mo_put_19 : decode b_Mo_put 19 = .ok (.putfield 167, 3) := by decide +kernel
theorem d_Mo_put_22 : decode b_Mo_put 22 = .ok (.return_, 1) := by decide +kernel
theorem d_Mo_put_23 : decode b_Mo_put 23 = .ok (.aload_n 0, 1) := by decide +kernel
theorem d_Mo_put_24 : decode b_Mo_put 24 = .ok (.getfield 31, 3) := by decide +kernel
theorem d_Mo_put_27 : decode b_Mo_put 27 = .ok (.aload_n 0, 1) := by decide +kernel
theorem d_Mo_put_28 : decode b_Mo_put 28 = .ok (.getfield 164, 3) := by decide +kernel
theorem d_Mo_put_31 : decode b_Mo_put 31 = .ok (.iload_n 1, 1) := by decide +kernel
theorem d_Mo_put_32 : decode b_Mo_put 32 = .ok (.iastore, 1) := by decide +kernel
theorem d_Mo_put_33 : decode b_Mo_put 33 = .ok (.aload_n 0, 1) := by decide +kernel
theorem d_Mo_put_34 : decode b_Mo_put 34 = .ok (.getfield 34, 3) := by decide +kernel
theorem d_Mo_put_37 : decode b_Mo_put 37 = .ok (.aload_n 0, 1) := by decide +kernel
theorem d_Mo_put_38 : decode b_Mo_put 38 = .ok (.getfield 164, 3) := by decide +kernel
theorem d_Mo_put_41 : decode b_Mo_put 41 = .ok (.iload_n 2, 1) := by decide +kernel
theorem d_Mo_put_42 : decode b_Mo_put 42 = .ok (.iastore, 1) := by decide +kernel
theorem d_Mo_put_43 : decode b_Mo_put 43 = .ok (.aload_n 0, 1) := by decide +kernel
theorem d_Mo_put_44 : decode b_Mo_put 44 = .ok (.getfield 37, 3) := by decide +kernel
theorem d_Mo_put_47 : decode b_Mo_put 47 = .ok (.aload_n 0, 1) := by decide +kernel
theorem d_Mo_put_48 : decode b_Mo_put 48 = .ok (.getfield 164, 3) := by decide +kernel
theorem d_Mo_put_51 : decode b_Mo_put 51 = .ok (.iload_n 3, 1) := by decide +kernel
theorem d_Mo_put_52 : decode b_Mo_put 52 = .ok (.iastore, 1) := by decide +kernel
theorem d_Mo_put_53 : decode b_Mo_put 53 = .ok (.aload_n 0, 1) := by decide +kernel
theorem d_Mo_put_54 : decode b_Mo_put 54 = .ok (.dup, 1) := by decide +kernel
theorem d_Mo_put_55 : decode b_Mo_put 55 = .ok (.getfield 164, 3) := by decide +kernel
theorem d_Mo_put_58 : decode b_Mo_put 58 = .ok (.iconst 1, 1) := by decide +kernel
theorem d_Mo_put_59 : decode b_Mo_put 59 = .ok (.iadd, 1) := by decide +kernel
theorem d_Mo_put_60 : decode b_Mo_put 60 = .ok (.putfield 164, 3) := by decide +kernel
theorem d_Mo_put_63 : decode b_Mo_put 63 = .ok (.return_, 1) := by decide +kernel
theorem d_Mo_begin_0 : decode b_Mo_begin 0 = .ok (.aload_n 0, 1) := by decide +kernel
theorem d_Mo_begin_1 : decode b_Mo_begin 1 = .ok (.getfield 170, 3) := by decide +kernel
theorem d_Mo_begin_4 : decode b_Mo_begin 4 = .ok (.sipush 2000, 3) := by decide +kernel
theorem d_Mo_begin_7 : decode b_Mo_begin 7 = .ok (.if_icmp .eq 10, 3) := by decide +kernel
theorem d_Mo_begin_10 : decode b_Mo_begin 10 = .ok (.aload_n 0, 1) := by decide +kernel
theorem d_Mo_begin_11 : decode b_Mo_begin 11 = .ok (.getfield 167, 3) := by decide +kernel
theorem d_Mo_begin_14 : decode b_Mo_begin 14 = .ok (.ifCond .eq 9, 3) := by decide +kernel
theorem d_Mo_begin_17 : decode b_Mo_begin 17 = .ok (.aload_n 0, 1) := by decide +kernel
theorem d_Mo_begin_18 : decode b_Mo_begin 18 = .ok (.iconst 1, 1) := by decide +kernel
theorem d_Mo_begin_19 : decode b_Mo_begin 19 = .ok (.putfield 167, 3) := by decide +kernel
theorem d_Mo_begin_22 : decode b_Mo_begin 22 = .ok (.return_, 1) := by decide +kernel
theorem d_Mo_begin_23 : decode b_Mo_begin 23 = .ok (.aload_n 0, 1) := by decide +kernel
theorem d_Mo_begin_24 : decode b_Mo_begin 24 = .ok (.dup, 1) := by decide +kernel
theorem d_Mo_begin_25 : decode b_Mo_begin 25 = .ok (.getfield 170, 3) := by decide +kernel
theorem d_Mo_begin_28 : decode b_Mo_begin 28 = .ok (.iconst 1, 1) := by decide +kernel
theorem d_Mo_begin_29 : decode b_Mo_begin 29 = .ok (.iadd, 1) := by decide +kernel
theorem d_Mo_begin_30 : decode b_Mo_begin 30 = .ok (.putfield 170, 3) := by decide +kernel
theorem d_Mo_begin_33 : decode b_Mo_begin 33 = .ok (.aload_n 0, 1) := by decide +kernel
theorem d_Mo_begin_34 : decode b_Mo_begin 34 = .ok (.getfield 82, 3) := by decide +kernel
theorem d_Mo_begin_37 : decode b_Mo_begin 37 = .ok (.aload_n 0, 1) := by decide +kernel
theorem d_Mo_begin_38 : decode b_Mo_begin 38 = .ok (.getfield 173, 3) := by decide +kernel
theorem d_Mo_begin_41 : decode b_Mo_begin 41 = .ok (.iload_n 1, 1) := by decide +kernel
theorem d_Mo_begin_42 : decode b_Mo_begin 42 = .ok (.iastore, 1) := by decide +kernel
theorem d_Mo_begin_43 : decode b_Mo_begin 43 = .ok (.aload_n 0, 1) := by decide +kernel
theorem d_Mo_begin_44 : decode b_Mo_begin 44 = .ok (.getfield 85, 3) := by decide +kernel
theorem d_Mo_begin_47 : decode b_Mo_begin 47 = .ok (.aload_n 0, 1) := by decide +kernel
theorem d_Mo_begin_48 : decode b_Mo_begin 48 = .ok (.getfield 173, 3) := by decide +kernel
theorem d_Mo_begin_51 : decode b_Mo_begin 51 = .ok (.iload_n 2, 1) := by decide +kernel
theorem d_Mo_begin_52 : decode b_Mo_begin 52 = .ok (.iastore, 1) := by decide +kernel
theorem d_Mo_begin_53 : decode b_Mo_begin 53 = .ok (.aload_n 0, 1) := by decide +kernel
theorem d_Mo_begin_54 : decode b_Mo_begin 54 = .ok (.getfield 88, 3) := by decide +kernel
theorem d_Mo_begin_57 : decode b_Mo_begin 57 = .ok (.aload_n 0, 1) := by decide +kernel
theorem d_Mo_begin_58 : decode b_Mo_begin 58 = .ok (.getfield 173, 3) := by decide +kernel
theorem d_Mo_begin_61 : decode b_Mo_begin 61 = .ok (.iload_n 3, 1) := by decide +kernel
theorem d_Mo_begin_62 : decode b_Mo_begin 62 = .ok (.iastore, 1) := by decide +kernel
theorem d_Mo_begin_63 : decode b_Mo_begin 63 = .ok (.aload_n 0, 1) := by decide +kernel
theorem d_Mo_begin_64 : decode b_Mo_begin 64 = .ok (.getfield 91, 3) := by decide +kernel
theorem d_Mo_begin_67 : decode b_Mo_begin 67 = .ok (.aload_n 0, 1) := by decide +kernel
theorem d_Mo_begin_68 : decode b_Mo_begin 68 = .ok (.getfield 173, 3) := by decide +kernel
theorem d_Mo_begin_71 : decode b_Mo_begin 71 = .ok (.iload 4, 2) := by decide +kernel
theorem d_Mo_begin_73 : decode b_Mo_begin 73 = .ok (.iastore, 1) := by decide +kernel
theorem d_Mo_begin_74 : decode b_Mo_begin 74 = .ok (.aload_n 0, 1) := by decide +kernel
theorem d_Mo_begin_75 : decode b_Mo_begin 75 = .ok (.getfield 94, 3) := by decide +kernel
theorem d_Mo_begin_78 : decode b_Mo_begin 78 = .ok (.aload_n 0, 1) := by decide +kernel
theorem d_Mo_begin_79 : decode b_Mo_begin 79 = .ok (.getfield 173, 3) := by decide +kernel
theorem d_Mo_begin_82 : decode b_Mo_begin 82 = .ok (.iconst 0, 1) := by decide +kernel
theorem d_Mo_begin_83 : decode b_Mo_begin 83 = .ok (.iastore, 1) := by decide +kernel
theorem d_Mo_begin_84 : decode b_Mo_begin 84 = .ok (.aload_n 0, 1) := by decide +kernel
theorem d_Mo_begin_85 : decode b_Mo_begin 85 = .ok (.getfield 97, 3) := by decide +kernel
theorem d_Mo_begin_88 : decode b_Mo_begin 88 = .ok (.aload_n 0, 1) := by decide +kernel
theorem d_Mo_begin_89 : decode b_Mo_begin 89 = .ok (.getfield 173, 3) := by decide +kernel
theorem d_Mo_begin_92 : decode b_Mo_begin 92 = .ok (.iconst 0, 1) := by decide +kernel
theorem d_Mo_begin_93 : decode b_Mo_begin 93 = .ok (.iastore, 1) := by decide +kernel
theorem d_Mo_begin_94 : decode b_Mo_begin 94 = .ok (.aload_n 0, 1) := by decide +kernel
theorem d_Mo_begin_95 : decode b_Mo_begin 95 = .ok (.getfield 100, 3) := by decide +kernel
theorem d_Mo_begin_98 : decode b_Mo_begin 98 = .ok (.aload_n 0, 1) := by decide +kernel
theorem d_Mo_begin_99 : decode b_Mo_begin 99 = .ok (.getfield 173, 3) := by decide +kernel
theorem d_Mo_begin_102 : decode b_Mo_begin 102 = .ok (.iconst 0, 1) := by decide +kernel
theorem d_Mo_begin_103 : decode b_Mo_begin 103 = .ok (.iastore, 1) := by decide +kernel
theorem d_Mo_begin_104 : decode b_Mo_begin 104 = .ok (.aload_n 0, 1) := by decide +kernel
theorem d_Mo_begin_105 : decode b_Mo_begin 105 = .ok (.dup, 1) := by decide +kernel
theorem d_Mo_begin_106 : decode b_Mo_begin 106 = .ok (.getfield 173, 3) := by decide +kernel
theorem d_Mo_begin_109 : decode b_Mo_begin 109 = .ok (.iconst 1, 1) := by decide +kernel
theorem d_Mo_begin_110 : decode b_Mo_begin 110 = .ok (.iadd, 1) := by decide +kernel
theorem d_Mo_begin_111 : decode b_Mo_begin 111 = .ok (.putfield 173, 3) := by decide +kernel
theorem d_Mo_begin_114 : decode b_Mo_begin 114 = .ok (.return_, 1) := by decide +kernel
theorem d_Mo_last_0 : decode b_Mo_last 0 = .ok (.aload_n 0, 1) := by decide +kernel
theorem d_Mo_last_1 : decode b_Mo_last 1 = .ok (.aload_n 0, 1) := by decide +kernel
theorem d_Mo_last_2 : decode b_Mo_last 2 = .ok (.getfield 19, 3) := by decide +kernel
theorem d_Mo_last_5 : decode b_Mo_last 5 = .ok (.aload_n 0, 1) := by decide +kernel
theorem d_Mo_last_6 : decode b_Mo_last 6 = .ok (.getfield 58, 3) := by decide +kernel
theorem d_Mo_last_9 : decode b_Mo_last 9 = .ok (.iload_n 1, 1) := by decide +kernel
theorem d_Mo_last_10 : decode b_Mo_last 10 = .ok (.iaload, 1) := by decide +kernel
theorem d_Mo_last_11 : decode b_Mo_last 11 = .ok (.iaload, 1) := by decide +kernel
theorem d_Mo_last_12 : decode b_Mo_last 12 = .ok (.aload_n 0, 1) := by decide +kernel
theorem d_Mo_last_13 : decode b_Mo_last 13 = .ok (.getfield 61, 3) := by decide +kernel
theorem d_Mo_last_16 : decode b_Mo_last 16 = .ok (.iload_n 1, 1) := by decide +kernel
theorem d_Mo_last_17 : decode b_Mo_last 17 = .ok (.iaload, 1) := by decide +kernel
theorem d_Mo_last_18 : decode b_Mo_last 18 = .ok (.aload_n 0, 1) := by decide +kernel
theorem d_Mo_last_19 : decode b_Mo_last 19 = .ok (.getfield 64, 3) := by decide +kernel
theorem d_Mo_last_22 : decode b_Mo_last 22 = .ok (.iload_n 1, 1) := by decide +kernel
theorem d_Mo_last_23 : decode b_Mo_last 23 = .ok (.iaload, 1) := by decide +kernel
theorem d_Mo_last_24 : decode b_Mo_last 24 = .ok (.iconst 1, 1) := by decide +kernel
theorem d_Mo_last_25 : decode b_Mo_last 25 = .ok (.iadd, 1) := by decide +kernel
theorem d_Mo_last_26 : decode b_Mo_last 26 = .ok (.aload_n 0, 1) := by decide +kernel
theorem d_Mo_last_27 : decode b_Mo_last 27 = .ok (.getfield 67, 3) := by decide +kernel
theorem d_Mo_last_30 : decode b_Mo_last 30 = .ok (.iload_n 1, 1) := by decide +kernel
theorem d_Mo_last_31 : decode b_Mo_last 31 = .ok (.iaload, 1) := by decide +kernel
theorem d_Mo_last_32 : decode b_Mo_last 32 = .ok (.iconst 1, 1) := by decide +kernel
theorem d_Mo_last_33 : decode b_Mo_last 33 = .ok (.iadd, 1) := by decide +kernel
theorem d_Mo_last_34 : decode b_Mo_last 34 = .ok (.invokevirtual 176, 3) := by decide +kernel
theorem d_Mo_last_37 : decode b_Mo_last 37 = .ok (.return_, 1) := by decide +kernel
theorem d_Mo_loop_0 : decode b_Mo_loop 0 = .ok (.iload_n 1, 1) := by decide +kernel
theorem d_Mo_loop_1 : decode b_Mo_loop 1 = .ok (.istore_n 2, 1) := by decide +kernel
theorem d_Mo_loop_2 : decode b_Mo_loop 2 = .ok (.iload_n 2, 1) := by decide +kernel
theorem d_Mo_loop_3 : decode b_Mo_loop 3 = .ok (.iconst (-1), 1) := by decide +kernel
theorem d_Mo_loop_4 : decode b_Mo_loop 4 = .ok (.if_icmp .eq 33, 3) := by decide +kernel
theorem d_Mo_loop_7 : decode b_Mo_loop 7 = .ok (.aload_n 0, 1) := by decide +kernel
theorem d_Mo_loop_8 : decode b_Mo_loop 8 = .ok (.getfield 7, 3) := by decide +kernel
theorem d_Mo_loop_11 : decode b_Mo_loop 11 = .ok (.aload_n 0, 1) := by decide +kernel
theorem d_Mo_loop_12 : decode b_Mo_loop 12 = .ok (.getfield 58, 3) := by decide +kernel
theorem d_Mo_loop_15 : decode b_Mo_loop 15 = .ok (.iload_n 2, 1) := by decide +kernel
theorem d_Mo_loop_16 : decode b_Mo_loop 16 = .ok (.iconst 2, 1) := by decide +kernel
theorem d_Mo_loop_17 : decode b_Mo_loop 17 = .ok (.idiv, 1) := by decide +kernel
theorem d_Mo_loop_18 : decode b_Mo_loop 18 = .ok (.iaload, 1) := by decide +kernel
theorem d_Mo_loop_19 : decode b_Mo_loop 19 = .ok (.iaload, 1) := by decide +kernel
theorem d_Mo_loop_20 : decode b_Mo_loop 20 = .ok (.bipush 13, 2) := by decide +kernel
theorem d_Mo_loop_22 : decode b_Mo_loop 22 = .ok (.if_icmp .eq 15, 3) := by decide +kernel
theorem d_Mo_loop_25 : decode b_Mo_loop 25 = .ok (.aload_n 0, 1) := by decide +kernel
theorem d_Mo_loop_26 : decode b_Mo_loop 26 = .ok (.getfield 61, 3) := by decide +kernel
theorem d_Mo_loop_29 : decode b_Mo_loop 29 = .ok (.iload_n 2, 1) := by decide +kernel
theorem d_Mo_loop_30 : decode b_Mo_loop 30 = .ok (.iconst 2, 1) := by decide +kernel
theorem d_Mo_loop_31 : decode b_Mo_loop 31 = .ok (.idiv, 1) := by decide +kernel
theorem d_Mo_loop_32 : decode b_Mo_loop 32 = .ok (.iaload, 1) := by decide +kernel
theorem d_Mo_loop_33 : decode b_Mo_loop 33 = .ok (.istore_n 2, 1) := by decide +kernel
theorem d_Mo_loop_34 : decode b_Mo_loop 34 = .ok (.goto (-32), 3) := by decide +kernel
theorem d_Mo_loop_37 : decode b_Mo_loop 37 = .ok (.iload_n 2, 1) := by decide +kernel
theorem d_Mo_loop_38 : decode b_Mo_loop 38 = .ok (.iconst (-1), 1) := by decide +kernel
theorem d_Mo_loop_39 : decode b_Mo_loop 39 = .ok (.if_icmp .ne 7, 3) := by decide +kernel
theorem d_Mo_loop_42 : decode b_Mo_loop 42 = .ok (.iconst (-1), 1) := by decide +kernel
theorem d_Mo_loop_43 : decode b_Mo_loop 43 = .ok (.goto 6, 3) := by decide +kernel
theorem d_Mo_loop_46 : decode b_Mo_loop 46 = .ok (.iload_n 2, 1) := by decide +kernel
theorem d_Mo_loop_47 : decode b_Mo_loop 47 = .ok (.iconst 2, 1) := by decide +kernel
theorem d_Mo_loop_48 : decode b_Mo_loop 48 = .ok (.idiv, 1) := by decide +kernel
theorem d_Mo_loop_49 : decode b_Mo_loop 49 = .ok (.ireturn, 1) := by decide +kernel
theorem d_Mo_leaves_0 : decode b_Mo_leaves 0 = .ok (.aload_n 0, 1) := by decide +kernel
theorem d_Mo_leaves_1 : decode b_Mo_leaves 1 = .ok (.getfield 94, 3) := by decide +kernel
theorem d_Mo_leaves_4 : decode b_Mo_leaves 4 = .ok (.iload_n 1, 1) := by decide +kernel
theorem d_Mo_leaves_5 : decode b_Mo_leaves 5 = .ok (.iaload, 1) := by decide +kernel
theorem d_Mo_leaves_6 : decode b_Mo_leaves 6 = .ok (.iconst 1, 1) := by decide +kernel
theorem d_Mo_leaves_7 : decode b_Mo_leaves 7 = .ok (.if_icmp .ne 15, 3) := by decide +kernel
theorem d_Mo_leaves_10 : decode b_Mo_leaves 10 = .ok (.aload_n 0, 1) := by decide +kernel
theorem d_Mo_leaves_11 : decode b_Mo_leaves 11 = .ok (.getfield 100, 3) := by decide +kernel
theorem d_Mo_leaves_14 : decode b_Mo_leaves 14 = .ok (.iload_n 1, 1) := by decide +kernel
theorem d_Mo_leaves_15 : decode b_Mo_leaves 15 = .ok (.aload_n 0, 1) := by decide +kernel
theorem d_Mo_leaves_16 : decode b_Mo_leaves 16 = .ok (.getfield 85, 3) := by decide +kernel
theorem d_Mo_leaves_19 : decode b_Mo_leaves 19 = .ok (.iload_n 1, 1) := by decide +kernel
theorem d_Mo_leaves_20 : decode b_Mo_leaves 20 = .ok (.iaload, 1) := by decide +kernel
theorem d_Mo_leaves_21 : decode b_Mo_leaves 21 = .ok (.iastore, 1) := by decide +kernel
theorem d_Mo_leaves_22 : decode b_Mo_leaves 22 = .ok (.aload_n 0, 1) := by decide +kernel
theorem d_Mo_leaves_23 : decode b_Mo_leaves 23 = .ok (.aload_n 0, 1) := by decide +kernel
theorem d_Mo_leaves_24 : decode b_Mo_leaves 24 = .ok (.getfield 85, 3) := by decide +kernel
theorem d_Mo_leaves_27 : decode b_Mo_leaves 27 = .ok (.iload_n 1, 1) := by decide +kernel
theorem d_Mo_leaves_28 : decode b_Mo_leaves 28 = .ok (.iaload, 1) := by decide +kernel
theorem d_Mo_leaves_29 : decode b_Mo_leaves 29 = .ok (.invokevirtual 219, 3) := by decide +kernel
theorem d_Mo_leaves_32 : decode b_Mo_leaves 32 = .ok (.istore_n 3, 1) := by decide +kernel
theorem d_Mo_leaves_33 : decode b_Mo_leaves 33 = .ok (.iload_n 2, 1) := by decide +kernel
theorem d_Mo_leaves_34 : decode b_Mo_leaves 34 = .ok (.bipush 17, 2) := by decide +kernel
theorem d_Mo_leaves_36 : decode b_Mo_leaves 36 = .ok (.if_icmp .ne 14, 3) := by decide +kernel
theorem d_Mo_leaves_39 : decode b_Mo_leaves 39 = .ok (.iload_n 3, 1) := by decide +kernel
theorem d_Mo_leaves_40 : decode b_Mo_leaves 40 = .ok (.iconst (-1), 1) := by decide +kernel
theorem d_Mo_leaves_41 : decode b_Mo_leaves 41 = .ok (.if_icmp .ne 9, 3) := by decide +kernel
theorem d_Mo_leaves_44 : decode b_Mo_leaves 44 = .ok (.aload_n 0, 1) := by decide +kernel
theorem d_Mo_leaves_45 : decode b_Mo_leaves 45 = .ok (.iconst 1, 1) := by decide +kernel
theorem d_Mo_leaves_46 : decode b_Mo_leaves 46 = .ok (.putfield 222, 3) := by decide +kernel
theorem d_Mo_leaves_49 : decode b_Mo_leaves 49 = .ok (.return_, 1) := by decide +kernel
theorem d_Mo_leaves_50 : decode b_Mo_leaves 50 = .ok (.aload_n 0, 1) := by decide +kernel
theorem d_Mo_leaves_51 : decode b_Mo_leaves 51 = .ok (.getfield 100, 3) := by decide +kernel
theorem d_Mo_leaves_54 : decode b_Mo_leaves 54 = .ok (.iload_n 1, 1) := by decide +kernel
theorem d_Mo_leaves_55 : decode b_Mo_leaves 55 = .ok (.iaload, 1) := by decide +kernel
theorem d_Mo_leaves_56 : decode b_Mo_leaves 56 = .ok (.istore 4, 2) := by decide +kernel
theorem d_Mo_leaves_58 : decode b_Mo_leaves 58 = .ok (.iload 4, 2) := by decide +kernel
theorem d_Mo_leaves_60 : decode b_Mo_leaves 60 = .ok (.iconst (-1), 1) := by decide +kernel
theorem d_Mo_leaves_61 : decode b_Mo_leaves 61 = .ok (.if_icmp .eq 42, 3) := by decide +kernel
theorem d_Mo_leaves_64 : decode b_Mo_leaves 64 = .ok (.iload_n 2, 1) := by decide +kernel
theorem d_Mo_leaves_65 : decode b_Mo_leaves 65 = .ok (.bipush 17, 2) := by decide +kernel
theorem d_Mo_leaves_67 : decode b_Mo_leaves 67 = .ok (.if_icmp .ne 11, 3) := by decide +kernel
theorem d_Mo_leaves_70 : decode b_Mo_leaves 70 = .ok (.iload 4, 2) := by decide +kernel
theorem d_Mo_leaves_72 : decode b_Mo_leaves 72 = .ok (.iconst 2, 1) := by decide +kernel
theorem d_Mo_leaves_73 : decode b_Mo_leaves 73 = .ok (.idiv, 1) := by decide +kernel
theorem d_Mo_leaves_74 : decode b_Mo_leaves 74 = .ok (.iload_n 3, 1) := by decide +kernel
theorem d_Mo_leaves_75 : decode b_Mo_leaves 75 = .ok (.if_icmp .eq 28, 3) := by decide +kernel
theorem d_Mo_leaves_78 : decode b_Mo_leaves 78 = .ok (.aload_n 0, 1) := by decide +kernel
theorem d_Mo_leaves_79 : decode b_Mo_leaves 79 = .ok (.iload 4, 2) := by decide +kernel
theorem d_Mo_leaves_81 : decode b_Mo_leaves 81 = .ok (.iconst 2, 1) := by decide +kernel
theorem d_Mo_leaves_82 : decode b_Mo_leaves 82 = .ok (.idiv, 1) := by decide +kernel
theorem d_Mo_leaves_83 : decode b_Mo_leaves 83 = .ok (.invokevirtual 225, 3) := by decide +kernel
theorem d_Mo_leaves_86 : decode b_Mo_leaves 86 = .ok (.ifCond .ne 17, 3) := by decide +kernel
theorem d_Mo_leaves_89 : decode b_Mo_leaves 89 = .ok (.aload_n 0, 1) := by decide +kernel
theorem d_Mo_leaves_90 : decode b_Mo_leaves 90 = .ok (.getfield 61, 3) := by decide +kernel
theorem d_Mo_leaves_93 : decode b_Mo_leaves 93 = .ok (.iload 4, 2) := by decide +kernel
theorem d_Mo_leaves_95 : decode b_Mo_leaves 95 = .ok (.iconst 2, 1) := by decide +kernel
theorem d_Mo_leaves_96 : decode b_Mo_leaves 96 = .ok (.idiv, 1) := by decide +kernel
theorem d_Mo_leaves_97 : decode b_Mo_leaves 97 = .ok (.iaload, 1) := by decide +kernel
theorem d_Mo_leaves_98 : decode b_Mo_leaves 98 = .ok (.istore 4, 2) := by decide +kernel
theorem d_Mo_leaves_100 : decode b_Mo_leaves 100 = .ok (.goto (-42), 3) := by decide +kernel
theorem d_Mo_leaves_103 : decode b_Mo_leaves 103 = .ok (.iload 4, 2) := by decide +kernel
theorem d_Mo_leaves_105 : decode b_Mo_leaves 105 = .ok (.iconst (-1), 1) := by decide +kernel
theorem d_Mo_leaves_106 : decode b_Mo_leaves 106 = .ok (.if_icmp .eq 48, 3) := by decide +kernel
theorem d_Mo_leaves_109 : decode b_Mo_leaves 109 = .ok (.aload_n 0, 1) := by decide +kernel
theorem d_Mo_leaves_110 : decode b_Mo_leaves 110 = .ok (.getfield 7, 3) := by decide +kernel
theorem d_Mo_leaves_113 : decode b_Mo_leaves 113 = .ok (.aload_n 0, 1) := by decide +kernel
theorem d_Mo_leaves_114 : decode b_Mo_leaves 114 = .ok (.getfield 58, 3) := by decide +kernel
theorem d_Mo_leaves_117 : decode b_Mo_leaves 117 = .ok (.iload 4, 2) := by decide +kernel
theorem d_Mo_leaves_119 : decode b_Mo_leaves 119 = .ok (.iconst 2, 1) := by decide +kernel
theorem d_Mo_leaves_120 : decode b_Mo_leaves 120 = .ok (.idiv, 1) := by decide +kernel
theorem d_Mo_leaves_121 : decode b_Mo_leaves 121 = .ok (.iaload, 1) := by decide +kernel
theorem d_Mo_leaves_122 : decode b_Mo_leaves 122 = .ok (.iaload, 1) := by decide +kernel
theorem d_Mo_leaves_123 : decode b_Mo_leaves 123 = .ok (.bipush 18, 2) := by decide +kernel
theorem d_Mo_leaves_125 : decode b_Mo_leaves 125 = .ok (.if_icmp .ne 29, 3) := by decide +kernel
theorem d_Mo_leaves_128 : decode b_Mo_leaves 128 = .ok (.aload_n 0, 1) := by decide +kernel
theorem d_Mo_leaves_129 : decode b_Mo_leaves 129 = .ok (.getfield 100, 3) := by decide +kernel
theorem d_Mo_leaves_132 : decode b_Mo_leaves 132 = .ok (.iload_n 1, 1) := by decide +kernel
theorem d_Mo_leaves_133 : decode b_Mo_leaves 133 = .ok (.aload_n 0, 1) := by decide +kernel
theorem d_Mo_leaves_134 : decode b_Mo_leaves 134 = .ok (.getfield 61, 3) := by decide +kernel
theorem d_Mo_leaves_137 : decode b_Mo_leaves 137 = .ok (.iload 4, 2) := by decide +kernel
theorem d_Mo_leaves_139 : decode b_Mo_leaves 139 = .ok (.iconst 2, 1) := by decide +kernel
theorem d_Mo_leaves_140 : decode b_Mo_leaves 140 = .ok (.idiv, 1) := by decide +kernel
theorem d_Mo_leaves_141 : decode b_Mo_leaves 141 = .ok (.iaload, 1) := by decide +kernel
theorem d_Mo_leaves_142 : decode b_Mo_leaves 142 = .ok (.iastore, 1) := by decide +kernel
theorem d_Mo_leaves_143 : decode b_Mo_leaves 143 = .ok (.aload_n 0, 1) := by decide +kernel
theorem d_Mo_leaves_144 : decode b_Mo_leaves 144 = .ok (.iload 4, 2) := by decide +kernel
theorem d_Mo_leaves_146 : decode b_Mo_leaves 146 = .ok (.iconst 2, 1) := by decide +kernel
theorem d_Mo_leaves_147 : decode b_Mo_leaves 147 = .ok (.idiv, 1) := by decide +kernel
theorem d_Mo_leaves_148 : decode b_Mo_leaves 148 = .ok (.invokevirtual 228, 3) := by decide +kernel
theorem d_Mo_leaves_151 : decode b_Mo_leaves 151 = .ok (.goto 72, 3) := by decide +kernel
theorem d_Mo_leaves_154 : decode b_Mo_leaves 154 = .ok (.iload_n 2, 1) := by decide +kernel
theorem d_Mo_leaves_155 : decode b_Mo_leaves 155 = .ok (.bipush 16, 2) := by decide +kernel
theorem d_Mo_leaves_157 : decode b_Mo_leaves 157 = .ok (.if_icmp .ne 7, 3) := by decide +kernel
theorem d_Mo_leaves_160 : decode b_Mo_leaves 160 = .ok (.iconst 0, 1) := by decide +kernel
theorem d_Mo_leaves_161 : decode b_Mo_leaves 161 = .ok (.goto 25, 3) := by decide +kernel
theorem d_Mo_leaves_164 : decode b_Mo_leaves 164 = .ok (.aload_n 0, 1) := by decide +kernel
theorem d_Mo_leaves_165 : decode b_Mo_leaves 165 = .ok (.getfield 70, 3) := by decide +kernel
theorem d_Mo_leaves_168 : decode b_Mo_leaves 168 = .ok (.iload_n 3, 1) := by decide +kernel
theorem d_Mo_leaves_169 : decode b_Mo_leaves 169 = .ok (.iaload, 1) := by decide +kernel
theorem d_Mo_leaves_170 : decode b_Mo_leaves 170 = .ok (.iconst (-1), 1) := by decide +kernel
theorem d_Mo_leaves_171 : decode b_Mo_leaves 171 = .ok (.if_icmp .ne 9, 3) := by decide +kernel
theorem d_Mo_leaves_174 : decode b_Mo_leaves 174 = .ok (.iconst (-1), 1) := by decide +kernel
theorem d_Mo_leaves_175 : decode b_Mo_leaves 175 = .ok (.iload_n 3, 1) := by decide +kernel
theorem d_Mo_leaves_176 : decode b_Mo_leaves 176 = .ok (.isub, 1) := by decide +kernel
theorem d_Mo_leaves_177 : decode b_Mo_leaves 177 = .ok (.goto 9, 3) := by decide +kernel
theorem d_Mo_leaves_180 : decode b_Mo_leaves 180 = .ok (.aload_n 0, 1) := by decide +kernel
theorem d_Mo_leaves_181 : decode b_Mo_leaves 181 = .ok (.getfield 70, 3) := by decide +kernel
theorem d_Mo_leaves_184 : decode b_Mo_leaves 184 = .ok (.iload_n 3, 1) := by decide +kernel
theorem d_Mo_leaves_185 : decode b_Mo_leaves 185 = .ok (.iaload, 1) := by decide +kernel
theorem d_Mo_leaves_186 : decode b_Mo_leaves 186 = .ok (.istore 5, 2) := by decide +kernel
theorem d_Mo_leaves_188 : decode b_Mo_leaves 188 = .ok (.aload_n 0, 1) := by decide +kernel
theorem d_Mo_leaves_189 : decode b_Mo_leaves 189 = .ok (.iload_n 2, 1) := by decide +kernel
theorem d_Mo_leaves_190 : decode b_Mo_leaves 190 = .ok (.bipush 16, 2) := by decide +kernel
theorem d_Mo_leaves_192 : decode b_Mo_leaves 192 = .ok (.if_icmp .ne 8, 3) := by decide +kernel
theorem d_Mo_leaves_195 : decode b_Mo_leaves 195 = .ok (.bipush 14, 2) := by decide +kernel
theorem d_Mo_leaves_197 : decode b_Mo_leaves 197 = .ok (.goto 5, 3) := by decide +kernel
theorem d_Mo_leaves_200 : decode b_Mo_leaves 200 = .ok (.bipush 11, 2) := by decide +kernel
theorem d_Mo_leaves_202 : decode b_Mo_leaves 202 = .ok (.iload 5, 2) := by decide +kernel
theorem d_Mo_leaves_204 : decode b_Mo_leaves 204 = .ok (.aload_n 0, 1) := by decide +kernel
theorem d_Mo_leaves_205 : decode b_Mo_leaves 205 = .ok (.getfield 100, 3) := by decide +kernel
theorem d_Mo_leaves_208 : decode b_Mo_leaves 208 = .ok (.iload_n 1, 1) := by decide +kernel
theorem d_Mo_leaves_209 : decode b_Mo_leaves 209 = .ok (.iaload, 1) := by decide +kernel
theorem d_Mo_leaves_210 : decode b_Mo_leaves 210 = .ok (.invokevirtual 200, 3) := by decide +kernel
theorem d_Mo_leaves_213 : decode b_Mo_leaves 213 = .ok (.aload_n 0, 1) := by decide +kernel
theorem d_Mo_leaves_214 : decode b_Mo_leaves 214 = .ok (.dup, 1) := by decide +kernel
theorem d_Mo_leaves_215 : decode b_Mo_leaves 215 = .ok (.getfield 173, 3) := by decide +kernel
theorem d_Mo_leaves_218 : decode b_Mo_leaves 218 = .ok (.iconst 1, 1) := by decide +kernel
theorem d_Mo_leaves_219 : decode b_Mo_leaves 219 = .ok (.isub, 1) := by decide +kernel
theorem d_Mo_leaves_220 : decode b_Mo_leaves 220 = .ok (.putfield 173, 3) := by decide +kernel
theorem d_Mo_leaves_223 : decode b_Mo_leaves 223 = .ok (.return_, 1) := by decide +kernel
theorem d_Mo_part_0 : decode b_Mo_part 0 = .ok (.aload_n 0, 1) := by decide +kernel
theorem d_Mo_part_1 : decode b_Mo_part 1 = .ok (.iload_n 2, 1) := by decide +kernel
theorem d_Mo_part_2 : decode b_Mo_part 2 = .ok (.aload_n 0, 1) := by decide +kernel
theorem d_Mo_part_3 : decode b_Mo_part 3 = .ok (.getfield 85, 3) := by decide +kernel
theorem d_Mo_part_6 : decode b_Mo_part 6 = .ok (.iload_n 1, 1) := by decide +kernel
theorem d_Mo_part_7 : decode b_Mo_part 7 = .ok (.iaload, 1) := by decide +kernel
theorem d_Mo_part_8 : decode b_Mo_part 8 = .ok (.aload_n 0, 1) := by decide +kernel
theorem d_Mo_part_9 : decode b_Mo_part 9 = .ok (.getfield 88, 3) := by decide +kernel
theorem d_Mo_part_12 : decode b_Mo_part 12 = .ok (.iload_n 1, 1) := by decide +kernel
theorem d_Mo_part_13 : decode b_Mo_part 13 = .ok (.iaload, 1) := by decide +kernel
theorem d_Mo_part_14 : decode b_Mo_part 14 = .ok (.aload_n 0, 1) := by decide +kernel
theorem d_Mo_part_15 : decode b_Mo_part 15 = .ok (.getfield 91, 3) := by decide +kernel
theorem d_Mo_part_18 : decode b_Mo_part 18 = .ok (.iload_n 1, 1) := by decide +kernel
theorem d_Mo_part_19 : decode b_Mo_part 19 = .ok (.iaload, 1) := by decide +kernel
theorem d_Mo_part_20 : decode b_Mo_part 20 = .ok (.invokevirtual 176, 3) := by decide +kernel
theorem d_Mo_part_23 : decode b_Mo_part 23 = .ok (.return_, 1) := by decide +kernel
end
section
theorem d_Mo_decides_0 : decode b_Mo_decides 0 = .ok (.aload_n 0, 1) := by decide +kernel
theorem d_Mo_decides_1 : decode b_Mo_decides 1 = .ok (.getfield 94, 3) := by decide +kernel
theorem d_Mo_decides_4 : decode b_Mo_decides 4 = .ok (.iload_n 1, 1) := by decide +kernel
theorem d_Mo_decides_5 : decode b_Mo_decides 5 = .ok (.iaload, 1) := by decide +kernel
theorem d_Mo_decides_6 : decode b_Mo_decides 6 = .ok (.tableswitch 136 1 3 #[26, 40, 77], 26) := by decide +kernel
theorem d_Mo_decides_32 : decode b_Mo_decides 32 = .ok (.aload_n 0, 1) := by decide +kernel
theorem d_Mo_decides_33 : decode b_Mo_decides 33 = .ok (.iload_n 1, 1) := by decide +kernel
theorem d_Mo_decides_34 : decode b_Mo_decides 34 = .ok (.aload_n 0, 1) := by decide +kernel
theorem d_Mo_decides_35 : decode b_Mo_decides 35 = .ok (.getfield 13, 3) := by decide +kernel
theorem d_Mo_decides_38 : decode b_Mo_decides 38 = .ok (.iload_n 2, 1) := by decide +kernel
theorem d_Mo_decides_39 : decode b_Mo_decides 39 = .ok (.iaload, 1) := by decide +kernel
theorem d_Mo_decides_40 : decode b_Mo_decides 40 = .ok (.invokevirtual 204, 3) := by decide +kernel
theorem d_Mo_decides_43 : decode b_Mo_decides 43 = .ok (.goto 124, 3) := by decide +kernel
theorem d_Mo_decides_46 : decode b_Mo_decides 46 = .ok (.aload_n 0, 1) := by decide +kernel
theorem d_Mo_decides_47 : decode b_Mo_decides 47 = .ok (.getfield 97, 3) := by decide +kernel
theorem d_Mo_decides_50 : decode b_Mo_decides 50 = .ok (.iload_n 1, 1) := by decide +kernel
theorem d_Mo_decides_51 : decode b_Mo_decides 51 = .ok (.aload_n 0, 1) := by decide +kernel
theorem d_Mo_decides_52 : decode b_Mo_decides 52 = .ok (.getfield 164, 3) := by decide +kernel
theorem d_Mo_decides_55 : decode b_Mo_decides 55 = .ok (.iastore, 1) := by decide +kernel
theorem d_Mo_decides_56 : decode b_Mo_decides 56 = .ok (.aload_n 0, 1) := by decide +kernel
theorem d_Mo_decides_57 : decode b_Mo_decides 57 = .ok (.bipush 10, 2) := by decide +kernel
theorem d_Mo_decides_59 : decode b_Mo_decides 59 = .ok (.iconst 0, 1) := by decide +kernel
theorem d_Mo_decides_60 : decode b_Mo_decides 60 = .ok (.aload_n 0, 1) := by decide +kernel
theorem d_Mo_decides_61 : decode b_Mo_decides 61 = .ok (.getfield 85, 3) := by decide +kernel
theorem d_Mo_decides_64 : decode b_Mo_decides 64 = .ok (.iload_n 1, 1) := by decide +kernel
theorem d_Mo_decides_65 : decode b_Mo_decides 65 = .ok (.iaload, 1) := by decide +kernel
theorem d_Mo_decides_66 : decode b_Mo_decides 66 = .ok (.invokevirtual 200, 3) := by decide +kernel
theorem d_Mo_decides_69 : decode b_Mo_decides 69 = .ok (.aload_n 0, 1) := by decide +kernel
theorem d_Mo_decides_70 : decode b_Mo_decides 70 = .ok (.iload_n 1, 1) := by decide +kernel
theorem d_Mo_decides_71 : decode b_Mo_decides 71 = .ok (.aload_n 0, 1) := by decide +kernel
theorem d_Mo_decides_72 : decode b_Mo_decides 72 = .ok (.getfield 16, 3) := by decide +kernel
theorem d_Mo_decides_75 : decode b_Mo_decides 75 = .ok (.iload_n 2, 1) := by decide +kernel
theorem d_Mo_decides_76 : decode b_Mo_decides 76 = .ok (.iaload, 1) := by decide +kernel
theorem d_Mo_decides_77 : decode b_Mo_decides 77 = .ok (.invokevirtual 204, 3) := by decide +kernel
theorem d_Mo_decides_80 : decode b_Mo_decides 80 = .ok (.goto 87, 3) := by decide +kernel
theorem d_Mo_decides_83 : decode b_Mo_decides 83 = .ok (.aload_n 0, 1) := by decide +kernel
theorem d_Mo_decides_84 : decode b_Mo_decides 84 = .ok (.getfield 100, 3) := by decide +kernel
theorem d_Mo_decides_87 : decode b_Mo_decides 87 = .ok (.iload_n 1, 1) := by decide +kernel
theorem d_Mo_decides_88 : decode b_Mo_decides 88 = .ok (.aload_n 0, 1) := by decide +kernel
theorem d_Mo_decides_89 : decode b_Mo_decides 89 = .ok (.getfield 164, 3) := by decide +kernel
theorem d_Mo_decides_92 : decode b_Mo_decides 92 = .ok (.iastore, 1) := by decide +kernel
theorem d_Mo_decides_93 : decode b_Mo_decides 93 = .ok (.aload_n 0, 1) := by decide +kernel
theorem d_Mo_decides_94 : decode b_Mo_decides 94 = .ok (.bipush 11, 2) := by decide +kernel
theorem d_Mo_decides_96 : decode b_Mo_decides 96 = .ok (.iconst 0, 1) := by decide +kernel
theorem d_Mo_decides_97 : decode b_Mo_decides 97 = .ok (.aload_n 0, 1) := by decide +kernel
theorem d_Mo_decides_98 : decode b_Mo_decides 98 = .ok (.getfield 85, 3) := by decide +kernel
theorem d_Mo_decides_101 : decode b_Mo_decides 101 = .ok (.iload_n 1, 1) := by decide +kernel
theorem d_Mo_decides_102 : decode b_Mo_decides 102 = .ok (.iaload, 1) := by decide +kernel
theorem d_Mo_decides_103 : decode b_Mo_decides 103 = .ok (.invokevirtual 200, 3) := by decide +kernel
theorem d_Mo_decides_106 : decode b_Mo_decides 106 = .ok (.aload_n 0, 1) := by decide +kernel
theorem d_Mo_decides_107 : decode b_Mo_decides 107 = .ok (.getfield 167, 3) := by decide +kernel
theorem d_Mo_decides_110 : decode b_Mo_decides 110 = .ok (.ifCond .ne 18, 3) := by decide +kernel
theorem d_Mo_decides_113 : decode b_Mo_decides 113 = .ok (.aload_n 0, 1) := by decide +kernel
theorem d_Mo_decides_114 : decode b_Mo_decides 114 = .ok (.getfield 34, 3) := by decide +kernel
theorem d_Mo_decides_117 : decode b_Mo_decides 117 = .ok (.aload_n 0, 1) := by decide +kernel
theorem d_Mo_decides_118 : decode b_Mo_decides 118 = .ok (.getfield 97, 3) := by decide +kernel
theorem d_Mo_decides_121 : decode b_Mo_decides 121 = .ok (.iload_n 1, 1) := by decide +kernel
theorem d_Mo_decides_122 : decode b_Mo_decides 122 = .ok (.iaload, 1) := by decide +kernel
theorem d_Mo_decides_123 : decode b_Mo_decides 123 = .ok (.aload_n 0, 1) := by decide +kernel
theorem d_Mo_decides_124 : decode b_Mo_decides 124 = .ok (.getfield 164, 3) := by decide +kernel
theorem d_Mo_decides_127 : decode b_Mo_decides 127 = .ok (.iastore, 1) := by decide +kernel
theorem d_Mo_decides_128 : decode b_Mo_decides 128 = .ok (.aload_n 0, 1) := by decide +kernel
theorem d_Mo_decides_129 : decode b_Mo_decides 129 = .ok (.iload_n 1, 1) := by decide +kernel
theorem d_Mo_decides_130 : decode b_Mo_decides 130 = .ok (.aload_n 0, 1) := by decide +kernel
theorem d_Mo_decides_131 : decode b_Mo_decides 131 = .ok (.getfield 19, 3) := by decide +kernel
theorem d_Mo_decides_134 : decode b_Mo_decides 134 = .ok (.iload_n 2, 1) := by decide +kernel
theorem d_Mo_decides_135 : decode b_Mo_decides 135 = .ok (.iaload, 1) := by decide +kernel
theorem d_Mo_decides_136 : decode b_Mo_decides 136 = .ok (.invokevirtual 204, 3) := by decide +kernel
theorem d_Mo_decides_139 : decode b_Mo_decides 139 = .ok (.goto 28, 3) := by decide +kernel
theorem d_Mo_decides_142 : decode b_Mo_decides 142 = .ok (.aload_n 0, 1) := by decide +kernel
theorem d_Mo_decides_143 : decode b_Mo_decides 143 = .ok (.getfield 34, 3) := by decide +kernel
theorem d_Mo_decides_146 : decode b_Mo_decides 146 = .ok (.aload_n 0, 1) := by decide +kernel
theorem d_Mo_decides_147 : decode b_Mo_decides 147 = .ok (.getfield 100, 3) := by decide +kernel
theorem d_Mo_decides_150 : decode b_Mo_decides 150 = .ok (.iload_n 1, 1) := by decide +kernel
theorem d_Mo_decides_151 : decode b_Mo_decides 151 = .ok (.iaload, 1) := by decide +kernel
theorem d_Mo_decides_152 : decode b_Mo_decides 152 = .ok (.aload_n 0, 1) := by decide +kernel
theorem d_Mo_decides_153 : decode b_Mo_decides 153 = .ok (.getfield 164, 3) := by decide +kernel
theorem d_Mo_decides_156 : decode b_Mo_decides 156 = .ok (.iastore, 1) := by decide +kernel
theorem d_Mo_decides_157 : decode b_Mo_decides 157 = .ok (.aload_n 0, 1) := by decide +kernel
theorem d_Mo_decides_158 : decode b_Mo_decides 158 = .ok (.dup, 1) := by decide +kernel
theorem d_Mo_decides_159 : decode b_Mo_decides 159 = .ok (.getfield 173, 3) := by decide +kernel
theorem d_Mo_decides_162 : decode b_Mo_decides 162 = .ok (.iconst 1, 1) := by decide +kernel
theorem d_Mo_decides_163 : decode b_Mo_decides 163 = .ok (.isub, 1) := by decide +kernel
theorem d_Mo_decides_164 : decode b_Mo_decides 164 = .ok (.putfield 173, 3) := by decide +kernel
theorem d_Mo_decides_167 : decode b_Mo_decides 167 = .ok (.return_, 1) := by decide +kernel
theorem d_Mo_item_0 : decode b_Mo_item 0 = .ok (.aload_n 0, 1) := by decide +kernel
theorem d_Mo_item_1 : decode b_Mo_item 1 = .ok (.getfield 58, 3) := by decide +kernel
theorem d_Mo_item_4 : decode b_Mo_item 4 = .ok (.aload_n 0, 1) := by decide +kernel
theorem d_Mo_item_5 : decode b_Mo_item 5 = .ok (.getfield 180, 3) := by decide +kernel
theorem d_Mo_item_8 : decode b_Mo_item 8 = .ok (.aload_n 0, 1) := by decide +kernel
theorem d_Mo_item_9 : decode b_Mo_item 9 = .ok (.getfield 82, 3) := by decide +kernel
theorem d_Mo_item_12 : decode b_Mo_item 12 = .ok (.iload_n 1, 1) := by decide +kernel
theorem d_Mo_item_13 : decode b_Mo_item 13 = .ok (.iaload, 1) := by decide +kernel
theorem d_Mo_item_14 : decode b_Mo_item 14 = .ok (.iastore, 1) := by decide +kernel
theorem d_Mo_item_15 : decode b_Mo_item 15 = .ok (.aload_n 0, 1) := by decide +kernel
theorem d_Mo_item_16 : decode b_Mo_item 16 = .ok (.getfield 61, 3) := by decide +kernel
theorem d_Mo_item_19 : decode b_Mo_item 19 = .ok (.aload_n 0, 1) := by decide +kernel
theorem d_Mo_item_20 : decode b_Mo_item 20 = .ok (.getfield 180, 3) := by decide +kernel
theorem d_Mo_item_23 : decode b_Mo_item 23 = .ok (.aload_n 0, 1) := by decide +kernel
theorem d_Mo_item_24 : decode b_Mo_item 24 = .ok (.getfield 85, 3) := by decide +kernel
theorem d_Mo_item_27 : decode b_Mo_item 27 = .ok (.iload_n 1, 1) := by decide +kernel
theorem d_Mo_item_28 : decode b_Mo_item 28 = .ok (.iaload, 1) := by decide +kernel
theorem d_Mo_item_29 : decode b_Mo_item 29 = .ok (.iastore, 1) := by decide +kernel
theorem d_Mo_item_30 : decode b_Mo_item 30 = .ok (.aload_n 0, 1) := by decide +kernel
theorem d_Mo_item_31 : decode b_Mo_item 31 = .ok (.getfield 64, 3) := by decide +kernel
theorem d_Mo_item_34 : decode b_Mo_item 34 = .ok (.aload_n 0, 1) := by decide +kernel
theorem d_Mo_item_35 : decode b_Mo_item 35 = .ok (.getfield 180, 3) := by decide +kernel
theorem d_Mo_item_38 : decode b_Mo_item 38 = .ok (.aload_n 0, 1) := by decide +kernel
theorem d_Mo_item_39 : decode b_Mo_item 39 = .ok (.getfield 88, 3) := by decide +kernel
theorem d_Mo_item_42 : decode b_Mo_item 42 = .ok (.iload_n 1, 1) := by decide +kernel
theorem d_Mo_item_43 : decode b_Mo_item 43 = .ok (.iaload, 1) := by decide +kernel
theorem d_Mo_item_44 : decode b_Mo_item 44 = .ok (.iastore, 1) := by decide +kernel
theorem d_Mo_item_45 : decode b_Mo_item 45 = .ok (.aload_n 0, 1) := by decide +kernel
theorem d_Mo_item_46 : decode b_Mo_item 46 = .ok (.getfield 67, 3) := by decide +kernel
theorem d_Mo_item_49 : decode b_Mo_item 49 = .ok (.aload_n 0, 1) := by decide +kernel
theorem d_Mo_item_50 : decode b_Mo_item 50 = .ok (.getfield 180, 3) := by decide +kernel
theorem d_Mo_item_53 : decode b_Mo_item 53 = .ok (.aload_n 0, 1) := by decide +kernel
theorem d_Mo_item_54 : decode b_Mo_item 54 = .ok (.getfield 91, 3) := by decide +kernel
theorem d_Mo_item_57 : decode b_Mo_item 57 = .ok (.iload_n 1, 1) := by decide +kernel
theorem d_Mo_item_58 : decode b_Mo_item 58 = .ok (.iaload, 1) := by decide +kernel
theorem d_Mo_item_59 : decode b_Mo_item 59 = .ok (.iastore, 1) := by decide +kernel
theorem d_Mo_item_60 : decode b_Mo_item 60 = .ok (.aload_n 0, 1) := by decide +kernel
theorem d_Mo_item_61 : decode b_Mo_item 61 = .ok (.getfield 70, 3) := by decide +kernel
theorem d_Mo_item_64 : decode b_Mo_item 64 = .ok (.aload_n 0, 1) := by decide +kernel
theorem d_Mo_item_65 : decode b_Mo_item 65 = .ok (.getfield 180, 3) := by decide +kernel
theorem d_Mo_item_68 : decode b_Mo_item 68 = .ok (.iconst (-1), 1) := by decide +kernel
theorem d_Mo_item_69 : decode b_Mo_item 69 = .ok (.iastore, 1) := by decide +kernel
theorem d_Mo_item_70 : decode b_Mo_item 70 = .ok (.aload_n 0, 1) := by decide +kernel
theorem d_Mo_item_71 : decode b_Mo_item 71 = .ok (.getfield 97, 3) := by decide +kernel
theorem d_Mo_item_74 : decode b_Mo_item 74 = .ok (.iload_n 1, 1) := by decide +kernel
theorem d_Mo_item_75 : decode b_Mo_item 75 = .ok (.aload_n 0, 1) := by decide +kernel
theorem d_Mo_item_76 : decode b_Mo_item 76 = .ok (.getfield 180, 3) := by decide +kernel
theorem d_Mo_item_79 : decode b_Mo_item 79 = .ok (.iastore, 1) := by decide +kernel
theorem d_Mo_item_80 : decode b_Mo_item 80 = .ok (.aload_n 0, 1) := by decide +kernel
theorem d_Mo_item_81 : decode b_Mo_item 81 = .ok (.dup, 1) := by decide +kernel
theorem d_Mo_item_82 : decode b_Mo_item 82 = .ok (.getfield 180, 3) := by decide +kernel
theorem d_Mo_item_85 : decode b_Mo_item 85 = .ok (.iconst 1, 1) := by decide +kernel
theorem d_Mo_item_86 : decode b_Mo_item 86 = .ok (.iadd, 1) := by decide +kernel
theorem d_Mo_item_87 : decode b_Mo_item 87 = .ok (.putfield 180, 3) := by decide +kernel
theorem d_Mo_item_90 : decode b_Mo_item 90 = .ok (.return_, 1) := by decide +kernel
theorem d_Mo_ends_0 : decode b_Mo_ends 0 = .ok (.aload_n 0, 1) := by decide +kernel
theorem d_Mo_ends_1 : decode b_Mo_ends 1 = .ok (.getfield 70, 3) := by decide +kernel
theorem d_Mo_ends_4 : decode b_Mo_ends 4 = .ok (.iload_n 1, 1) := by decide +kernel
theorem d_Mo_ends_5 : decode b_Mo_ends 5 = .ok (.aload_n 0, 1) := by decide +kernel
theorem d_Mo_ends_6 : decode b_Mo_ends 6 = .ok (.getfield 164, 3) := by decide +kernel
theorem d_Mo_ends_9 : decode b_Mo_ends 9 = .ok (.iastore, 1) := by decide +kernel
theorem d_Mo_ends_10 : decode b_Mo_ends 10 = .ok (.iconst 0, 1) := by decide +kernel
theorem d_Mo_ends_11 : decode b_Mo_ends 11 = .ok (.istore_n 2, 1) := by decide +kernel
theorem d_Mo_ends_12 : decode b_Mo_ends 12 = .ok (.iload_n 2, 1) := by decide +kernel
theorem d_Mo_ends_13 : decode b_Mo_ends 13 = .ok (.aload_n 0, 1) := by decide +kernel
theorem d_Mo_ends_14 : decode b_Mo_ends 14 = .ok (.getfield 164, 3) := by decide +kernel
theorem d_Mo_ends_17 : decode b_Mo_ends 17 = .ok (.if_icmp .ge 62, 3) := by decide +kernel
theorem d_Mo_ends_20 : decode b_Mo_ends 20 = .ok (.aload_n 0, 1) := by decide +kernel
theorem d_Mo_ends_21 : decode b_Mo_ends 21 = .ok (.getfield 34, 3) := by decide +kernel
theorem d_Mo_ends_24 : decode b_Mo_ends 24 = .ok (.iload_n 2, 1) := by decide +kernel
theorem d_Mo_ends_25 : decode b_Mo_ends 25 = .ok (.aload_n 0, 1) := by decide +kernel
theorem d_Mo_ends_26 : decode b_Mo_ends 26 = .ok (.getfield 31, 3) := by decide +kernel
theorem d_Mo_ends_29 : decode b_Mo_ends 29 = .ok (.iload_n 2, 1) := by decide +kernel
theorem d_Mo_ends_30 : decode b_Mo_ends 30 = .ok (.iaload, 1) := by decide +kernel
theorem d_Mo_ends_31 : decode b_Mo_ends 31 = .ok (.bipush 10, 2) := by decide +kernel
theorem d_Mo_ends_33 : decode b_Mo_ends 33 = .ok (.if_icmp .eq 14, 3) := by decide +kernel
theorem d_Mo_ends_36 : decode b_Mo_ends 36 = .ok (.aload_n 0, 1) := by decide +kernel
theorem d_Mo_ends_37 : decode b_Mo_ends 37 = .ok (.getfield 31, 3) := by decide +kernel
theorem d_Mo_ends_40 : decode b_Mo_ends 40 = .ok (.iload_n 2, 1) := by decide +kernel
theorem d_Mo_ends_41 : decode b_Mo_ends 41 = .ok (.iaload, 1) := by decide +kernel
theorem d_Mo_ends_42 : decode b_Mo_ends 42 = .ok (.bipush 11, 2) := by decide +kernel
theorem d_Mo_ends_44 : decode b_Mo_ends 44 = .ok (.if_icmp .ne 22, 3) := by decide +kernel
theorem d_Mo_ends_47 : decode b_Mo_ends 47 = .ok (.aload_n 0, 1) := by decide +kernel
theorem d_Mo_ends_48 : decode b_Mo_ends 48 = .ok (.getfield 34, 3) := by decide +kernel
theorem d_Mo_ends_51 : decode b_Mo_ends 51 = .ok (.iload_n 2, 1) := by decide +kernel
theorem d_Mo_ends_52 : decode b_Mo_ends 52 = .ok (.iaload, 1) := by decide +kernel
theorem d_Mo_ends_53 : decode b_Mo_ends 53 = .ok (.iconst (-1), 1) := by decide +kernel
theorem d_Mo_ends_54 : decode b_Mo_ends 54 = .ok (.iload_n 1, 1) := by decide +kernel
theorem d_Mo_ends_55 : decode b_Mo_ends 55 = .ok (.isub, 1) := by decide +kernel
theorem d_Mo_ends_56 : decode b_Mo_ends 56 = .ok (.if_icmp .ne 10, 3) := by decide +kernel
theorem d_Mo_ends_59 : decode b_Mo_ends 59 = .ok (.aload_n 0, 1) := by decide +kernel
theorem d_Mo_ends_60 : decode b_Mo_ends 60 = .ok (.getfield 164, 3) := by decide +kernel
theorem d_Mo_ends_63 : decode b_Mo_ends 63 = .ok (.goto 9, 3) := by decide +kernel
theorem d_Mo_ends_66 : decode b_Mo_ends 66 = .ok (.aload_n 0, 1) := by decide +kernel
theorem d_Mo_ends_67 : decode b_Mo_ends 67 = .ok (.getfield 34, 3) := by decide +kernel
theorem d_Mo_ends_70 : decode b_Mo_ends 70 = .ok (.iload_n 2, 1) := by decide +kernel
theorem d_Mo_ends_71 : decode b_Mo_ends 71 = .ok (.iaload, 1) := by decide +kernel
theorem d_Mo_ends_72 : decode b_Mo_ends 72 = .ok (.iastore, 1) := by decide +kernel
theorem d_Mo_ends_73 : decode b_Mo_ends 73 = .ok (.iinc 2 1, 3) := by decide +kernel
theorem d_Mo_ends_76 : decode b_Mo_ends 76 = .ok (.goto (-64), 3) := by decide +kernel
theorem d_Mo_ends_79 : decode b_Mo_ends 79 = .ok (.return_, 1) := by decide +kernel
theorem d_Mo_repeats_0 : decode b_Mo_repeats 0 = .ok (.aload_n 0, 1) := by decide +kernel
theorem d_Mo_repeats_1 : decode b_Mo_repeats 1 = .ok (.getfield 94, 3) := by decide +kernel
theorem d_Mo_repeats_4 : decode b_Mo_repeats 4 = .ok (.iload_n 1, 1) := by decide +kernel
theorem d_Mo_repeats_5 : decode b_Mo_repeats 5 = .ok (.iaload, 1) := by decide +kernel
theorem d_Mo_repeats_6 : decode b_Mo_repeats 6 = .ok (.lookupswitch 108 #[(1, 26), (2, 55)], 26) := by decide +kernel
theorem d_Mo_repeats_32 : decode b_Mo_repeats 32 = .ok (.aload_n 0, 1) := by decide +kernel
theorem d_Mo_repeats_33 : decode b_Mo_repeats 33 = .ok (.iload_n 1, 1) := by decide +kernel
theorem d_Mo_repeats_34 : decode b_Mo_repeats 34 = .ok (.invokevirtual 213, 3) := by decide +kernel
theorem d_Mo_repeats_37 : decode b_Mo_repeats 37 = .ok (.aload_n 0, 1) := by decide +kernel
theorem d_Mo_repeats_38 : decode b_Mo_repeats 38 = .ok (.getfield 100, 3) := by decide +kernel
theorem d_Mo_repeats_41 : decode b_Mo_repeats 41 = .ok (.iload_n 1, 1) := by decide +kernel
theorem d_Mo_repeats_42 : decode b_Mo_repeats 42 = .ok (.aload_n 0, 1) := by decide +kernel
theorem d_Mo_repeats_43 : decode b_Mo_repeats 43 = .ok (.getfield 164, 3) := by decide +kernel
theorem d_Mo_repeats_46 : decode b_Mo_repeats 46 = .ok (.iastore, 1) := by decide +kernel
theorem d_Mo_repeats_47 : decode b_Mo_repeats 47 = .ok (.aload_n 0, 1) := by decide +kernel
theorem d_Mo_repeats_48 : decode b_Mo_repeats 48 = .ok (.iload_n 1, 1) := by decide +kernel
theorem d_Mo_repeats_49 : decode b_Mo_repeats 49 = .ok (.aload_n 0, 1) := by decide +kernel
theorem d_Mo_repeats_50 : decode b_Mo_repeats 50 = .ok (.getfield 13, 3) := by decide +kernel
theorem d_Mo_repeats_53 : decode b_Mo_repeats 53 = .ok (.iload_n 2, 1) := by decide +kernel
theorem d_Mo_repeats_54 : decode b_Mo_repeats 54 = .ok (.iaload, 1) := by decide +kernel
theorem d_Mo_repeats_55 : decode b_Mo_repeats 55 = .ok (.invokevirtual 204, 3) := by decide +kernel
theorem d_Mo_repeats_58 : decode b_Mo_repeats 58 = .ok (.goto 94, 3) := by decide +kernel
theorem d_Mo_repeats_61 : decode b_Mo_repeats 61 = .ok (.aload_n 0, 1) := by decide +kernel
theorem d_Mo_repeats_62 : decode b_Mo_repeats 62 = .ok (.bipush 10, 2) := by decide +kernel
theorem d_Mo_repeats_64 : decode b_Mo_repeats 64 = .ok (.iconst (-1), 1) := by decide +kernel
theorem d_Mo_repeats_65 : decode b_Mo_repeats 65 = .ok (.aload_n 0, 1) := by decide +kernel
theorem d_Mo_repeats_66 : decode b_Mo_repeats 66 = .ok (.getfield 97, 3) := by decide +kernel
theorem d_Mo_repeats_69 : decode b_Mo_repeats 69 = .ok (.iload_n 1, 1) := by decide +kernel
theorem d_Mo_repeats_70 : decode b_Mo_repeats 70 = .ok (.iaload, 1) := by decide +kernel
theorem d_Mo_repeats_71 : decode b_Mo_repeats 71 = .ok (.isub, 1) := by decide +kernel
theorem d_Mo_repeats_72 : decode b_Mo_repeats 72 = .ok (.aload_n 0, 1) := by decide +kernel
theorem d_Mo_repeats_73 : decode b_Mo_repeats 73 = .ok (.getfield 85, 3) := by decide +kernel
theorem d_Mo_repeats_76 : decode b_Mo_repeats 76 = .ok (.iload_n 1, 1) := by decide +kernel
theorem d_Mo_repeats_77 : decode b_Mo_repeats 77 = .ok (.iaload, 1) := by decide +kernel
theorem d_Mo_repeats_78 : decode b_Mo_repeats 78 = .ok (.invokevirtual 200, 3) := by decide +kernel
theorem d_Mo_repeats_81 : decode b_Mo_repeats 81 = .ok (.aload_n 0, 1) := by decide +kernel
theorem d_Mo_repeats_82 : decode b_Mo_repeats 82 = .ok (.aload_n 0, 1) := by decide +kernel
theorem d_Mo_repeats_83 : decode b_Mo_repeats 83 = .ok (.getfield 16, 3) := by decide +kernel
theorem d_Mo_repeats_86 : decode b_Mo_repeats 86 = .ok (.iload_n 2, 1) := by decide +kernel
theorem d_Mo_repeats_87 : decode b_Mo_repeats 87 = .ok (.iaload, 1) := by decide +kernel
theorem d_Mo_repeats_88 : decode b_Mo_repeats 88 = .ok (.iconst 2, 1) := by decide +kernel
theorem d_Mo_repeats_89 : decode b_Mo_repeats 89 = .ok (.aload_n 0, 1) := by decide +kernel
theorem d_Mo_repeats_90 : decode b_Mo_repeats 90 = .ok (.getfield 97, 3) := by decide +kernel
theorem d_Mo_repeats_93 : decode b_Mo_repeats 93 = .ok (.iload_n 1, 1) := by decide +kernel
theorem d_Mo_repeats_94 : decode b_Mo_repeats 94 = .ok (.iaload, 1) := by decide +kernel
theorem d_Mo_repeats_95 : decode b_Mo_repeats 95 = .ok (.imul, 1) := by decide +kernel
theorem d_Mo_repeats_96 : decode b_Mo_repeats 96 = .ok (.aload_n 0, 1) := by decide +kernel
theorem d_Mo_repeats_97 : decode b_Mo_repeats 97 = .ok (.getfield 88, 3) := by decide +kernel
theorem d_Mo_repeats_100 : decode b_Mo_repeats 100 = .ok (.iload_n 1, 1) := by decide +kernel
theorem d_Mo_repeats_101 : decode b_Mo_repeats 101 = .ok (.iaload, 1) := by decide +kernel
theorem d_Mo_repeats_102 : decode b_Mo_repeats 102 = .ok (.aload_n 0, 1) := by decide +kernel
theorem d_Mo_repeats_103 : decode b_Mo_repeats 103 = .ok (.getfield 91, 3) := by decide +kernel
theorem d_Mo_repeats_106 : decode b_Mo_repeats 106 = .ok (.iload_n 1, 1) := by decide +kernel
theorem d_Mo_repeats_107 : decode b_Mo_repeats 107 = .ok (.iaload, 1) := by decide +kernel
theorem d_Mo_repeats_108 : decode b_Mo_repeats 108 = .ok (.invokevirtual 176, 3) := by decide +kernel
theorem d_Mo_repeats_111 : decode b_Mo_repeats 111 = .ok (.goto 41, 3) := by decide +kernel
theorem d_Mo_repeats_114 : decode b_Mo_repeats 114 = .ok (.aload_n 0, 1) := by decide +kernel
theorem d_Mo_repeats_115 : decode b_Mo_repeats 115 = .ok (.bipush 11, 2) := by decide +kernel
theorem d_Mo_repeats_117 : decode b_Mo_repeats 117 = .ok (.aload_n 0, 1) := by decide +kernel
theorem d_Mo_repeats_118 : decode b_Mo_repeats 118 = .ok (.getfield 100, 3) := by decide +kernel
theorem d_Mo_repeats_121 : decode b_Mo_repeats 121 = .ok (.iload_n 1, 1) := by decide +kernel
theorem d_Mo_repeats_122 : decode b_Mo_repeats 122 = .ok (.iaload, 1) := by decide +kernel
theorem d_Mo_repeats_123 : decode b_Mo_repeats 123 = .ok (.aload_n 0, 1) := by decide +kernel
theorem d_Mo_repeats_124 : decode b_Mo_repeats 124 = .ok (.getfield 85, 3) := by decide +kernel
theorem d_Mo_repeats_127 : decode b_Mo_repeats 127 = .ok (.iload_n 1, 1) := by decide +kernel
theorem d_Mo_repeats_128 : decode b_Mo_repeats 128 = .ok (.iaload, 1) := by decide +kernel
theorem d_Mo_repeats_129 : decode b_Mo_repeats 129 = .ok (.invokevirtual 200, 3) := by decide +kernel
theorem d_Mo_repeats_132 : decode b_Mo_repeats 132 = .ok (.aload_n 0, 1) := by decide +kernel
theorem d_Mo_repeats_133 : decode b_Mo_repeats 133 = .ok (.aload_n 0, 1) := by decide +kernel
theorem d_Mo_repeats_134 : decode b_Mo_repeats 134 = .ok (.getfield 97, 3) := by decide +kernel
theorem d_Mo_repeats_137 : decode b_Mo_repeats 137 = .ok (.iload_n 1, 1) := by decide +kernel
theorem d_Mo_repeats_138 : decode b_Mo_repeats 138 = .ok (.iaload, 1) := by decide +kernel
theorem d_Mo_repeats_139 : decode b_Mo_repeats 139 = .ok (.invokevirtual 216, 3) := by decide +kernel
theorem d_Mo_repeats_142 : decode b_Mo_repeats 142 = .ok (.aload_n 0, 1) := by decide +kernel
theorem d_Mo_repeats_143 : decode b_Mo_repeats 143 = .ok (.dup, 1) := by decide +kernel
theorem d_Mo_repeats_144 : decode b_Mo_repeats 144 = .ok (.getfield 173, 3) := by decide +kernel
theorem d_Mo_repeats_147 : decode b_Mo_repeats 147 = .ok (.iconst 1, 1) := by decide +kernel
theorem d_Mo_repeats_148 : decode b_Mo_repeats 148 = .ok (.isub, 1) := by decide +kernel
theorem d_Mo_repeats_149 : decode b_Mo_repeats 149 = .ok (.putfield 173, 3) := by decide +kernel
theorem d_Mo_repeats_152 : decode b_Mo_repeats 152 = .ok (.return_, 1) := by decide +kernel
theorem d_Mo_statement_0 : decode b_Mo_statement 0 = .ok (.aload_n 0, 1) := by decide +kernel
theorem d_Mo_statement_1 : decode b_Mo_statement 1 = .ok (.getfield 82, 3) := by decide +kernel
theorem d_Mo_statement_4 : decode b_Mo_statement 4 = .ok (.iload_n 1, 1) := by decide +kernel
theorem d_Mo_statement_5 : decode b_Mo_statement 5 = .ok (.iaload, 1) := by decide +kernel
theorem d_Mo_statement_6 : decode b_Mo_statement 6 = .ok (.istore_n 3, 1) := by decide +kernel
theorem d_Mo_statement_7 : decode b_Mo_statement 7 = .ok (.iload_n 2, 1) := by decide +kernel
theorem d_Mo_statement_8 : decode b_Mo_statement 8 = .ok (.tableswitch 251 9 15 #[44, 44, 146, 202, 211, 44, 220], 44) := by decide +kernel
theorem d_Mo_statement_52 : decode b_Mo_statement 52 = .ok (.aload_n 0, 1) := by decide +kernel
theorem d_Mo_statement_53 : decode b_Mo_statement 53 = .ok (.getfield 94, 3) := by decide +kernel
theorem d_Mo_statement_56 : decode b_Mo_statement 56 = .ok (.iload_n 1, 1) := by decide +kernel
theorem d_Mo_statement_57 : decode b_Mo_statement 57 = .ok (.iaload, 1) := by decide +kernel
theorem d_Mo_statement_58 : decode b_Mo_statement 58 = .ok (.iconst 1, 1) := by decide +kernel
theorem d_Mo_statement_59 : decode b_Mo_statement 59 = .ok (.if_icmp .ne 32, 3) := by decide +kernel
theorem d_Mo_statement_62 : decode b_Mo_statement 62 = .ok (.aload_n 0, 1) := by decide +kernel
theorem d_Mo_statement_63 : decode b_Mo_statement 63 = .ok (.iload_n 1, 1) := by decide +kernel
theorem d_Mo_statement_64 : decode b_Mo_statement 64 = .ok (.iload_n 2, 1) := by decide +kernel
theorem d_Mo_statement_65 : decode b_Mo_statement 65 = .ok (.bipush 9, 2) := by decide +kernel
theorem d_Mo_statement_67 : decode b_Mo_statement 67 = .ok (.if_icmp .ne 12, 3) := by decide +kernel
theorem d_Mo_statement_70 : decode b_Mo_statement 70 = .ok (.aload_n 0, 1) := by decide +kernel
theorem d_Mo_statement_71 : decode b_Mo_statement 71 = .ok (.getfield 16, 3) := by decide +kernel
theorem d_Mo_statement_74 : decode b_Mo_statement 74 = .ok (.iload_n 3, 1) := by decide +kernel
theorem d_Mo_statement_75 : decode b_Mo_statement 75 = .ok (.iaload, 1) := by decide +kernel
theorem d_Mo_statement_76 : decode b_Mo_statement 76 = .ok (.goto 9, 3) := by decide +kernel
theorem d_Mo_statement_79 : decode b_Mo_statement 79 = .ok (.aload_n 0, 1) := by decide +kernel
theorem d_Mo_statement_80 : decode b_Mo_statement 80 = .ok (.getfield 13, 3) := by decide +kernel
theorem d_Mo_statement_83 : decode b_Mo_statement 83 = .ok (.iload_n 3, 1) := by decide +kernel
theorem d_Mo_statement_84 : decode b_Mo_statement 84 = .ok (.iaload, 1) := by decide +kernel
theorem d_Mo_statement_85 : decode b_Mo_statement 85 = .ok (.invokevirtual 204, 3) := by decide +kernel
theorem d_Mo_statement_88 : decode b_Mo_statement 88 = .ok (.goto 181, 3) := by decide +kernel
theorem d_Mo_statement_91 : decode b_Mo_statement 91 = .ok (.aload_n 0, 1) := by decide +kernel
theorem d_Mo_statement_92 : decode b_Mo_statement 92 = .ok (.iload_n 2, 1) := by decide +kernel
theorem d_Mo_statement_93 : decode b_Mo_statement 93 = .ok (.bipush 9, 2) := by decide +kernel
theorem d_Mo_statement_95 : decode b_Mo_statement 95 = .ok (.if_icmp .ne 8, 3) := by decide +kernel
theorem d_Mo_statement_98 : decode b_Mo_statement 98 = .ok (.bipush 8, 2) := by decide +kernel
theorem d_Mo_statement_100 : decode b_Mo_statement 100 = .ok (.goto 16, 3) := by decide +kernel
theorem d_Mo_statement_103 : decode b_Mo_statement 103 = .ok (.iload_n 2, 1) := by decide +kernel
theorem d_Mo_statement_104 : decode b_Mo_statement 104 = .ok (.bipush 10, 2) := by decide +kernel
theorem d_Mo_statement_106 : decode b_Mo_statement 106 = .ok (.if_icmp .ne 8, 3) := by decide +kernel
theorem d_Mo_statement_109 : decode b_Mo_statement 109 = .ok (.bipush 9, 2) := by decide +kernel
theorem d_Mo_statement_111 : decode b_Mo_statement 111 = .ok (.goto 5, 3) := by decide +kernel
theorem d_Mo_statement_114 : decode b_Mo_statement 114 = .ok (.bipush 12, 2) := by decide +kernel
theorem d_Mo_statement_116 : decode b_Mo_statement 116 = .ok (.iload_n 2, 1) := by decide +kernel
theorem d_Mo_statement_117 : decode b_Mo_statement 117 = .ok (.bipush 9, 2) := by decide +kernel
theorem d_Mo_statement_119 : decode b_Mo_statement 119 = .ok (.if_icmp .ne 12, 3) := by decide +kernel
theorem d_Mo_statement_122 : decode b_Mo_statement 122 = .ok (.aload_n 0, 1) := by decide +kernel
theorem d_Mo_statement_123 : decode b_Mo_statement 123 = .ok (.getfield 13, 3) := by decide +kernel
theorem d_Mo_statement_126 : decode b_Mo_statement 126 = .ok (.iload_n 3, 1) := by decide +kernel
theorem d_Mo_statement_127 : decode b_Mo_statement 127 = .ok (.iaload, 1) := by decide +kernel
theorem d_Mo_statement_128 : decode b_Mo_statement 128 = .ok (.goto 4, 3) := by decide +kernel
theorem d_Mo_statement_131 : decode b_Mo_statement 131 = .ok (.iconst 0, 1) := by decide +kernel
theorem d_Mo_statement_132 : decode b_Mo_statement 132 = .ok (.aload_n 0, 1) := by decide +kernel
theorem d_Mo_statement_133 : decode b_Mo_statement 133 = .ok (.getfield 85, 3) := by decide +kernel
theorem d_Mo_statement_136 : decode b_Mo_statement 136 = .ok (.iload_n 1, 1) := by decide +kernel
theorem d_Mo_statement_137 : decode b_Mo_statement 137 = .ok (.iaload, 1) := by decide +kernel
theorem d_Mo_statement_138 : decode b_Mo_statement 138 = .ok (.invokevirtual 200, 3) := by decide +kernel
theorem d_Mo_statement_141 : decode b_Mo_statement 141 = .ok (.aload_n 0, 1) := by decide +kernel
theorem d_Mo_statement_142 : decode b_Mo_statement 142 = .ok (.dup, 1) := by decide +kernel
theorem d_Mo_statement_143 : decode b_Mo_statement 143 = .ok (.getfield 173, 3) := by decide +kernel
theorem d_Mo_statement_146 : decode b_Mo_statement 146 = .ok (.iconst 1, 1) := by decide +kernel
theorem d_Mo_statement_147 : decode b_Mo_statement 147 = .ok (.isub, 1) := by decide +kernel
theorem d_Mo_statement_148 : decode b_Mo_statement 148 = .ok (.putfield 173, 3) := by decide +kernel
theorem d_Mo_statement_151 : decode b_Mo_statement 151 = .ok (.goto 118, 3) := by decide +kernel
theorem d_Mo_statement_154 : decode b_Mo_statement 154 = .ok (.aload_n 0, 1) := by decide +kernel
theorem d_Mo_statement_155 : decode b_Mo_statement 155 = .ok (.getfield 94, 3) := by decide +kernel
theorem d_Mo_statement_158 : decode b_Mo_statement 158 = .ok (.iload_n 1, 1) := by decide +kernel
theorem d_Mo_statement_159 : decode b_Mo_statement 159 = .ok (.iaload, 1) := by decide +kernel
theorem d_Mo_statement_160 : decode b_Mo_statement 160 = .ok (.iconst 3, 1) := by decide +kernel
theorem d_Mo_statement_161 : decode b_Mo_statement 161 = .ok (.if_icmp .ge 36, 3) := by decide +kernel
theorem d_Mo_statement_164 : decode b_Mo_statement 164 = .ok (.aload_n 0, 1) := by decide +kernel
theorem d_Mo_statement_165 : decode b_Mo_statement 165 = .ok (.iload_n 1, 1) := by decide +kernel
theorem d_Mo_statement_166 : decode b_Mo_statement 166 = .ok (.aload_n 0, 1) := by decide +kernel
theorem d_Mo_statement_167 : decode b_Mo_statement 167 = .ok (.getfield 94, 3) := by decide +kernel
theorem d_Mo_statement_170 : decode b_Mo_statement 170 = .ok (.iload_n 1, 1) := by decide +kernel
theorem d_Mo_statement_171 : decode b_Mo_statement 171 = .ok (.iaload, 1) := by decide +kernel
theorem d_Mo_statement_172 : decode b_Mo_statement 172 = .ok (.iconst 1, 1) := by decide +kernel
theorem d_Mo_statement_173 : decode b_Mo_statement 173 = .ok (.if_icmp .ne 12, 3) := by decide +kernel
theorem d_Mo_statement_176 : decode b_Mo_statement 176 = .ok (.aload_n 0, 1) := by decide +kernel
theorem d_Mo_statement_177 : decode b_Mo_statement 177 = .ok (.getfield 13, 3) := by decide +kernel
theorem d_Mo_statement_180 : decode b_Mo_statement 180 = .ok (.iload_n 3, 1) := by decide +kernel
theorem d_Mo_statement_181 : decode b_Mo_statement 181 = .ok (.iaload, 1) := by decide +kernel
theorem d_Mo_statement_182 : decode b_Mo_statement 182 = .ok (.goto 9, 3) := by decide +kernel
theorem d_Mo_statement_185 : decode b_Mo_statement 185 = .ok (.aload_n 0, 1) := by decide +kernel
theorem d_Mo_statement_186 : decode b_Mo_statement 186 = .ok (.getfield 16, 3) := by decide +kernel
theorem d_Mo_statement_189 : decode b_Mo_statement 189 = .ok (.iload_n 3, 1) := by decide +kernel
theorem d_Mo_statement_190 : decode b_Mo_statement 190 = .ok (.iaload, 1) := by decide +kernel
theorem d_Mo_statement_191 : decode b_Mo_statement 191 = .ok (.invokevirtual 204, 3) := by decide +kernel
theorem d_Mo_statement_194 : decode b_Mo_statement 194 = .ok (.goto 75, 3) := by decide +kernel
theorem d_Mo_statement_197 : decode b_Mo_statement 197 = .ok (.aload_n 0, 1) := by decide +kernel
theorem d_Mo_statement_198 : decode b_Mo_statement 198 = .ok (.dup, 1) := by decide +kernel
theorem d_Mo_statement_199 : decode b_Mo_statement 199 = .ok (.getfield 173, 3) := by decide +kernel
theorem d_Mo_statement_202 : decode b_Mo_statement 202 = .ok (.iconst 1, 1) := by decide +kernel
theorem d_Mo_statement_203 : decode b_Mo_statement 203 = .ok (.isub, 1) := by decide +kernel
theorem d_Mo_statement_204 : decode b_Mo_statement 204 = .ok (.putfield 173, 3) := by decide +kernel
theorem d_Mo_statement_207 : decode b_Mo_statement 207 = .ok (.goto 62, 3) := by decide +kernel
theorem d_Mo_statement_210 : decode b_Mo_statement 210 = .ok (.aload_n 0, 1) := by decide +kernel
theorem d_Mo_statement_211 : decode b_Mo_statement 211 = .ok (.iload_n 1, 1) := by decide +kernel
theorem d_Mo_statement_212 : decode b_Mo_statement 212 = .ok (.iload_n 3, 1) := by decide +kernel
theorem d_Mo_statement_213 : decode b_Mo_statement 213 = .ok (.invokevirtual 207, 3) := by decide +kernel
theorem d_Mo_statement_216 : decode b_Mo_statement 216 = .ok (.goto 53, 3) := by decide +kernel
theorem d_Mo_statement_219 : decode b_Mo_statement 219 = .ok (.aload_n 0, 1) := by decide +kernel
theorem d_Mo_statement_220 : decode b_Mo_statement 220 = .ok (.iload_n 1, 1) := by decide +kernel
theorem d_Mo_statement_221 : decode b_Mo_statement 221 = .ok (.iload_n 3, 1) := by decide +kernel
theorem d_Mo_statement_222 : decode b_Mo_statement 222 = .ok (.invokevirtual 210, 3) := by decide +kernel
theorem d_Mo_statement_225 : decode b_Mo_statement 225 = .ok (.goto 44, 3) := by decide +kernel
theorem d_Mo_statement_228 : decode b_Mo_statement 228 = .ok (.aload_n 0, 1) := by decide +kernel
theorem d_Mo_statement_229 : decode b_Mo_statement 229 = .ok (.bipush 13, 2) := by decide +kernel
theorem d_Mo_statement_231 : decode b_Mo_statement 231 = .ok (.aload_n 0, 1) := by decide +kernel
theorem d_Mo_statement_232 : decode b_Mo_statement 232 = .ok (.getfield 13, 3) := by decide +kernel
theorem d_Mo_statement_235 : decode b_Mo_statement 235 = .ok (.iload_n 3, 1) := by decide +kernel
theorem d_Mo_statement_236 : decode b_Mo_statement 236 = .ok (.iaload, 1) := by decide +kernel
theorem d_Mo_statement_237 : decode b_Mo_statement 237 = .ok (.aload_n 0, 1) := by decide +kernel
theorem d_Mo_statement_238 : decode b_Mo_statement 238 = .ok (.getfield 85, 3) := by decide +kernel
theorem d_Mo_statement_241 : decode b_Mo_statement 241 = .ok (.iload_n 1, 1) := by decide +kernel
theorem d_Mo_statement_242 : decode b_Mo_statement 242 = .ok (.iaload, 1) := by decide +kernel
theorem d_Mo_statement_243 : decode b_Mo_statement 243 = .ok (.invokevirtual 200, 3) := by decide +kernel
theorem d_Mo_statement_246 : decode b_Mo_statement 246 = .ok (.aload_n 0, 1) := by decide +kernel
theorem d_Mo_statement_247 : decode b_Mo_statement 247 = .ok (.dup, 1) := by decide +kernel
theorem d_Mo_statement_248 : decode b_Mo_statement 248 = .ok (.getfield 173, 3) := by decide +kernel
theorem d_Mo_statement_251 : decode b_Mo_statement 251 = .ok (.iconst 1, 1) := by decide +kernel
theorem d_Mo_statement_252 : decode b_Mo_statement 252 = .ok (.isub, 1) := by decide +kernel
theorem d_Mo_statement_253 : decode b_Mo_statement 253 = .ok (.putfield 173, 3) := by decide +kernel
theorem d_Mo_statement_256 : decode b_Mo_statement 256 = .ok (.goto 13, 3) := by decide +kernel
theorem d_Mo_statement_259 : decode b_Mo_statement 259 = .ok (.aload_n 0, 1) := by decide +kernel
theorem d_Mo_statement_260 : decode b_Mo_statement 260 = .ok (.dup, 1) := by decide +kernel
theorem d_Mo_statement_261 : decode b_Mo_statement 261 = .ok (.getfield 173, 3) := by decide +kernel
theorem d_Mo_statement_264 : decode b_Mo_statement 264 = .ok (.iconst 1, 1) := by decide +kernel
theorem d_Mo_statement_265 : decode b_Mo_statement 265 = .ok (.isub, 1) := by decide +kernel
theorem d_Mo_statement_266 : decode b_Mo_statement 266 = .ok (.putfield 173, 3) := by decide +kernel
theorem d_Mo_statement_269 : decode b_Mo_statement 269 = .ok (.return_, 1) := by decide +kernel
end
section
theorem d_Mo_tries_0 : decode b_Mo_tries 0 = .ok (.aload_n 0, 1) := by decide +kernel
theorem d_Mo_tries_1 : decode b_Mo_tries 1 = .ok (.getfield 82, 3) := by decide +kernel
theorem d_Mo_tries_4 : decode b_Mo_tries 4 = .ok (.iload_n 1, 1) := by decide +kernel
theorem d_Mo_tries_5 : decode b_Mo_tries 5 = .ok (.iaload, 1) := by decide +kernel
theorem d_Mo_tries_6 : decode b_Mo_tries 6 = .ok (.istore_n 2, 1) := by decide +kernel
theorem d_Mo_tries_7 : decode b_Mo_tries 7 = .ok (.aload_n 0, 1) := by decide +kernel
theorem d_Mo_tries_8 : decode b_Mo_tries 8 = .ok (.getfield 94, 3) := by decide +kernel
theorem d_Mo_tries_11 : decode b_Mo_tries 11 = .ok (.iload_n 1, 1) := by decide +kernel
theorem d_Mo_tries_12 : decode b_Mo_tries 12 = .ok (.iaload, 1) := by decide +kernel
theorem d_Mo_tries_13 : decode b_Mo_tries 13 = .ok (.lookupswitch 112 #[(1, 27), (2, 86)], 27) := by decide +kernel
theorem d_Mo_tries_40 : decode b_Mo_tries 40 = .ok (.aload_n 0, 1) := by decide +kernel
theorem d_Mo_tries_41 : decode b_Mo_tries 41 = .ok (.iload_n 1, 1) := by decide +kernel
theorem d_Mo_tries_42 : decode b_Mo_tries 42 = .ok (.invokevirtual 213, 3) := by decide +kernel
theorem d_Mo_tries_45 : decode b_Mo_tries 45 = .ok (.aload_n 0, 1) := by decide +kernel
theorem d_Mo_tries_46 : decode b_Mo_tries 46 = .ok (.aload_n 0, 1) := by decide +kernel
theorem d_Mo_tries_47 : decode b_Mo_tries 47 = .ok (.getfield 13, 3) := by decide +kernel
theorem d_Mo_tries_50 : decode b_Mo_tries 50 = .ok (.iload_n 2, 1) := by decide +kernel
theorem d_Mo_tries_51 : decode b_Mo_tries 51 = .ok (.iaload, 1) := by decide +kernel
theorem d_Mo_tries_52 : decode b_Mo_tries 52 = .ok (.iconst 2, 1) := by decide +kernel
theorem d_Mo_tries_53 : decode b_Mo_tries 53 = .ok (.aload_n 0, 1) := by decide +kernel
theorem d_Mo_tries_54 : decode b_Mo_tries 54 = .ok (.getfield 97, 3) := by decide +kernel
theorem d_Mo_tries_57 : decode b_Mo_tries 57 = .ok (.iload_n 1, 1) := by decide +kernel
theorem d_Mo_tries_58 : decode b_Mo_tries 58 = .ok (.iaload, 1) := by decide +kernel
theorem d_Mo_tries_59 : decode b_Mo_tries 59 = .ok (.imul, 1) := by decide +kernel
theorem d_Mo_tries_60 : decode b_Mo_tries 60 = .ok (.aload_n 0, 1) := by decide +kernel
theorem d_Mo_tries_61 : decode b_Mo_tries 61 = .ok (.getfield 88, 3) := by decide +kernel
theorem d_Mo_tries_64 : decode b_Mo_tries 64 = .ok (.iload_n 1, 1) := by decide +kernel
theorem d_Mo_tries_65 : decode b_Mo_tries 65 = .ok (.iaload, 1) := by decide +kernel
theorem d_Mo_tries_66 : decode b_Mo_tries 66 = .ok (.iconst 1, 1) := by decide +kernel
theorem d_Mo_tries_67 : decode b_Mo_tries 67 = .ok (.iadd, 1) := by decide +kernel
theorem d_Mo_tries_68 : decode b_Mo_tries 68 = .ok (.aload_n 0, 1) := by decide +kernel
theorem d_Mo_tries_69 : decode b_Mo_tries 69 = .ok (.getfield 91, 3) := by decide +kernel
theorem d_Mo_tries_72 : decode b_Mo_tries 72 = .ok (.iload_n 1, 1) := by decide +kernel
theorem d_Mo_tries_73 : decode b_Mo_tries 73 = .ok (.iaload, 1) := by decide +kernel
theorem d_Mo_tries_74 : decode b_Mo_tries 74 = .ok (.aload_n 0, 1) := by decide +kernel
theorem d_Mo_tries_75 : decode b_Mo_tries 75 = .ok (.aload_n 0, 1) := by decide +kernel
theorem d_Mo_tries_76 : decode b_Mo_tries 76 = .ok (.getfield 97, 3) := by decide +kernel
theorem d_Mo_tries_79 : decode b_Mo_tries 79 = .ok (.iload_n 1, 1) := by decide +kernel
theorem d_Mo_tries_80 : decode b_Mo_tries 80 = .ok (.iaload, 1) := by decide +kernel
theorem d_Mo_tries_81 : decode b_Mo_tries 81 = .ok (.invokevirtual 225, 3) := by decide +kernel
theorem d_Mo_tries_84 : decode b_Mo_tries 84 = .ok (.ifCond .eq 7, 3) := by decide +kernel
theorem d_Mo_tries_87 : decode b_Mo_tries 87 = .ok (.iconst 1, 1) := by decide +kernel
theorem d_Mo_tries_88 : decode b_Mo_tries 88 = .ok (.goto 4, 3) := by decide +kernel
theorem d_Mo_tries_91 : decode b_Mo_tries 91 = .ok (.iconst 0, 1) := by decide +kernel
theorem d_Mo_tries_92 : decode b_Mo_tries 92 = .ok (.iadd, 1) := by decide +kernel
theorem d_Mo_tries_93 : decode b_Mo_tries 93 = .ok (.invokevirtual 176, 3) := by decide +kernel
theorem d_Mo_tries_96 : decode b_Mo_tries 96 = .ok (.goto 95, 3) := by decide +kernel
theorem d_Mo_tries_99 : decode b_Mo_tries 99 = .ok (.aload_n 0, 1) := by decide +kernel
theorem d_Mo_tries_100 : decode b_Mo_tries 100 = .ok (.aload_n 0, 1) := by decide +kernel
theorem d_Mo_tries_101 : decode b_Mo_tries 101 = .ok (.getfield 97, 3) := by decide +kernel
theorem d_Mo_tries_104 : decode b_Mo_tries 104 = .ok (.iload_n 1, 1) := by decide +kernel
theorem d_Mo_tries_105 : decode b_Mo_tries 105 = .ok (.iaload, 1) := by decide +kernel
theorem d_Mo_tries_106 : decode b_Mo_tries 106 = .ok (.invokevirtual 225, 3) := by decide +kernel
theorem d_Mo_tries_109 : decode b_Mo_tries 109 = .ok (.ifCond .eq 82, 3) := by decide +kernel
theorem d_Mo_tries_112 : decode b_Mo_tries 112 = .ok (.aload_n 0, 1) := by decide +kernel
theorem d_Mo_tries_113 : decode b_Mo_tries 113 = .ok (.aload_n 0, 1) := by decide +kernel
theorem d_Mo_tries_114 : decode b_Mo_tries 114 = .ok (.getfield 97, 3) := by decide +kernel
theorem d_Mo_tries_117 : decode b_Mo_tries 117 = .ok (.iload_n 1, 1) := by decide +kernel
theorem d_Mo_tries_118 : decode b_Mo_tries 118 = .ok (.iaload, 1) := by decide +kernel
theorem d_Mo_tries_119 : decode b_Mo_tries 119 = .ok (.invokevirtual 228, 3) := by decide +kernel
theorem d_Mo_tries_122 : decode b_Mo_tries 122 = .ok (.goto 69, 3) := by decide +kernel
theorem d_Mo_tries_125 : decode b_Mo_tries 125 = .ok (.aload_n 0, 1) := by decide +kernel
theorem d_Mo_tries_126 : decode b_Mo_tries 126 = .ok (.aload_n 0, 1) := by decide +kernel
theorem d_Mo_tries_127 : decode b_Mo_tries 127 = .ok (.getfield 97, 3) := by decide +kernel
theorem d_Mo_tries_130 : decode b_Mo_tries 130 = .ok (.iload_n 1, 1) := by decide +kernel
theorem d_Mo_tries_131 : decode b_Mo_tries 131 = .ok (.iaload, 1) := by decide +kernel
theorem d_Mo_tries_132 : decode b_Mo_tries 132 = .ok (.invokevirtual 216, 3) := by decide +kernel
theorem d_Mo_tries_135 : decode b_Mo_tries 135 = .ok (.aload_n 0, 1) := by decide +kernel
theorem d_Mo_tries_136 : decode b_Mo_tries 136 = .ok (.iload_n 2, 1) := by decide +kernel
theorem d_Mo_tries_137 : decode b_Mo_tries 137 = .ok (.invokevirtual 160, 3) := by decide +kernel
theorem d_Mo_tries_140 : decode b_Mo_tries 140 = .ok (.ifCond .gt 16, 3) := by decide +kernel
theorem d_Mo_tries_143 : decode b_Mo_tries 143 = .ok (.aload_n 0, 1) := by decide +kernel
theorem d_Mo_tries_144 : decode b_Mo_tries 144 = .ok (.aload_n 0, 1) := by decide +kernel
theorem d_Mo_tries_145 : decode b_Mo_tries 145 = .ok (.getfield 97, 3) := by decide +kernel
theorem d_Mo_tries_148 : decode b_Mo_tries 148 = .ok (.iload_n 1, 1) := by decide +kernel
theorem d_Mo_tries_149 : decode b_Mo_tries 149 = .ok (.iaload, 1) := by decide +kernel
theorem d_Mo_tries_150 : decode b_Mo_tries 150 = .ok (.invokevirtual 225, 3) := by decide +kernel
theorem d_Mo_tries_153 : decode b_Mo_tries 153 = .ok (.ifCond .eq 28, 3) := by decide +kernel
theorem d_Mo_tries_156 : decode b_Mo_tries 156 = .ok (.aload_n 0, 1) := by decide +kernel
theorem d_Mo_tries_157 : decode b_Mo_tries 157 = .ok (.getfield 79, 3) := by decide +kernel
theorem d_Mo_tries_160 : decode b_Mo_tries 160 = .ok (.aload_n 0, 1) := by decide +kernel
theorem d_Mo_tries_161 : decode b_Mo_tries 161 = .ok (.getfield 231, 3) := by decide +kernel
theorem d_Mo_tries_164 : decode b_Mo_tries 164 = .ok (.aload_n 0, 1) := by decide +kernel
theorem d_Mo_tries_165 : decode b_Mo_tries 165 = .ok (.getfield 97, 3) := by decide +kernel
theorem d_Mo_tries_168 : decode b_Mo_tries 168 = .ok (.iload_n 1, 1) := by decide +kernel
theorem d_Mo_tries_169 : decode b_Mo_tries 169 = .ok (.iaload, 1) := by decide +kernel
theorem d_Mo_tries_170 : decode b_Mo_tries 170 = .ok (.iastore, 1) := by decide +kernel
theorem d_Mo_tries_171 : decode b_Mo_tries 171 = .ok (.aload_n 0, 1) := by decide +kernel
theorem d_Mo_tries_172 : decode b_Mo_tries 172 = .ok (.dup, 1) := by decide +kernel
theorem d_Mo_tries_173 : decode b_Mo_tries 173 = .ok (.getfield 231, 3) := by decide +kernel
theorem d_Mo_tries_176 : decode b_Mo_tries 176 = .ok (.iconst 1, 1) := by decide +kernel
theorem d_Mo_tries_177 : decode b_Mo_tries 177 = .ok (.iadd, 1) := by decide +kernel
theorem d_Mo_tries_178 : decode b_Mo_tries 178 = .ok (.putfield 231, 3) := by decide +kernel
theorem d_Mo_tries_181 : decode b_Mo_tries 181 = .ok (.aload_n 0, 1) := by decide +kernel
theorem d_Mo_tries_182 : decode b_Mo_tries 182 = .ok (.dup, 1) := by decide +kernel
theorem d_Mo_tries_183 : decode b_Mo_tries 183 = .ok (.getfield 173, 3) := by decide +kernel
theorem d_Mo_tries_186 : decode b_Mo_tries 186 = .ok (.iconst 1, 1) := by decide +kernel
theorem d_Mo_tries_187 : decode b_Mo_tries 187 = .ok (.isub, 1) := by decide +kernel
theorem d_Mo_tries_188 : decode b_Mo_tries 188 = .ok (.putfield 173, 3) := by decide +kernel
theorem d_Mo_tries_191 : decode b_Mo_tries 191 = .ok (.return_, 1) := by decide +kernel
theorem d_Mo_apart_0 : decode b_Mo_apart 0 = .ok (.aload_n 0, 1) := by decide +kernel
theorem d_Mo_apart_1 : decode b_Mo_apart 1 = .ok (.getfield 97, 3) := by decide +kernel
theorem d_Mo_apart_4 : decode b_Mo_apart 4 = .ok (.iload_n 1, 1) := by decide +kernel
theorem d_Mo_apart_5 : decode b_Mo_apart 5 = .ok (.iaload, 1) := by decide +kernel
theorem d_Mo_apart_6 : decode b_Mo_apart 6 = .ok (.istore_n 2, 1) := by decide +kernel
theorem d_Mo_apart_7 : decode b_Mo_apart 7 = .ok (.aload_n 0, 1) := by decide +kernel
theorem d_Mo_apart_8 : decode b_Mo_apart 8 = .ok (.getfield 82, 3) := by decide +kernel
theorem d_Mo_apart_11 : decode b_Mo_apart 11 = .ok (.iload_n 1, 1) := by decide +kernel
theorem d_Mo_apart_12 : decode b_Mo_apart 12 = .ok (.iaload, 1) := by decide +kernel
theorem d_Mo_apart_13 : decode b_Mo_apart 13 = .ok (.istore_n 3, 1) := by decide +kernel
theorem d_Mo_apart_14 : decode b_Mo_apart 14 = .ok (.aload_n 0, 1) := by decide +kernel
theorem d_Mo_apart_15 : decode b_Mo_apart 15 = .ok (.getfield 94, 3) := by decide +kernel
theorem d_Mo_apart_18 : decode b_Mo_apart 18 = .ok (.iload_n 1, 1) := by decide +kernel
theorem d_Mo_apart_19 : decode b_Mo_apart 19 = .ok (.iaload, 1) := by decide +kernel
theorem d_Mo_apart_20 : decode b_Mo_apart 20 = .ok (.bipush 101, 2) := by decide +kernel
theorem d_Mo_apart_22 : decode b_Mo_apart 22 = .ok (.if_icmp .ne 118, 3) := by decide +kernel
theorem d_Mo_apart_25 : decode b_Mo_apart 25 = .ok (.aload_n 0, 1) := by decide +kernel
theorem d_Mo_apart_26 : decode b_Mo_apart 26 = .ok (.getfield 100, 3) := by decide +kernel
theorem d_Mo_apart_29 : decode b_Mo_apart 29 = .ok (.iload_n 1, 1) := by decide +kernel
theorem d_Mo_apart_30 : decode b_Mo_apart 30 = .ok (.iaload, 1) := by decide +kernel
theorem d_Mo_apart_31 : decode b_Mo_apart 31 = .ok (.aload_n 0, 1) := by decide +kernel
theorem d_Mo_apart_32 : decode b_Mo_apart 32 = .ok (.iload_n 3, 1) := by decide +kernel
theorem d_Mo_apart_33 : decode b_Mo_apart 33 = .ok (.invokevirtual 160, 3) := by decide +kernel
theorem d_Mo_apart_36 : decode b_Mo_apart 36 = .ok (.if_icmp .ge 104, 3) := by decide +kernel
theorem d_Mo_apart_39 : decode b_Mo_apart 39 = .ok (.aload_n 0, 1) := by decide +kernel
theorem d_Mo_apart_40 : decode b_Mo_apart 40 = .ok (.iload_n 3, 1) := by decide +kernel
theorem d_Mo_apart_41 : decode b_Mo_apart 41 = .ok (.aload_n 0, 1) := by decide +kernel
theorem d_Mo_apart_42 : decode b_Mo_apart 42 = .ok (.getfield 100, 3) := by decide +kernel
theorem d_Mo_apart_45 : decode b_Mo_apart 45 = .ok (.iload_n 1, 1) := by decide +kernel
theorem d_Mo_apart_46 : decode b_Mo_apart 46 = .ok (.iaload, 1) := by decide +kernel
theorem d_Mo_apart_47 : decode b_Mo_apart 47 = .ok (.invokevirtual 234, 3) := by decide +kernel
theorem d_Mo_apart_50 : decode b_Mo_apart 50 = .ok (.istore 4, 2) := by decide +kernel
theorem d_Mo_apart_52 : decode b_Mo_apart 52 = .ok (.aload_n 0, 1) := by decide +kernel
theorem d_Mo_apart_53 : decode b_Mo_apart 53 = .ok (.getfield 76, 3) := by decide +kernel
theorem d_Mo_apart_56 : decode b_Mo_apart 56 = .ok (.aload_n 0, 1) := by decide +kernel
theorem d_Mo_apart_57 : decode b_Mo_apart 57 = .ok (.getfield 238, 3) := by decide +kernel
theorem d_Mo_apart_60 : decode b_Mo_apart 60 = .ok (.aload_n 0, 1) := by decide +kernel
theorem d_Mo_apart_61 : decode b_Mo_apart 61 = .ok (.getfield 164, 3) := by decide +kernel
theorem d_Mo_apart_64 : decode b_Mo_apart 64 = .ok (.iastore, 1) := by decide +kernel
theorem d_Mo_apart_65 : decode b_Mo_apart 65 = .ok (.aload_n 0, 1) := by decide +kernel
theorem d_Mo_apart_66 : decode b_Mo_apart 66 = .ok (.dup, 1) := by decide +kernel
theorem d_Mo_apart_67 : decode b_Mo_apart 67 = .ok (.getfield 238, 3) := by decide +kernel
theorem d_Mo_apart_70 : decode b_Mo_apart 70 = .ok (.iconst 1, 1) := by decide +kernel
theorem d_Mo_apart_71 : decode b_Mo_apart 71 = .ok (.iadd, 1) := by decide +kernel
theorem d_Mo_apart_72 : decode b_Mo_apart 72 = .ok (.putfield 238, 3) := by decide +kernel
theorem d_Mo_apart_75 : decode b_Mo_apart 75 = .ok (.aload_n 0, 1) := by decide +kernel
theorem d_Mo_apart_76 : decode b_Mo_apart 76 = .ok (.bipush 8, 2) := by decide +kernel
theorem d_Mo_apart_78 : decode b_Mo_apart 78 = .ok (.aload_n 0, 1) := by decide +kernel
theorem d_Mo_apart_79 : decode b_Mo_apart 79 = .ok (.getfield 19, 3) := by decide +kernel
theorem d_Mo_apart_82 : decode b_Mo_apart 82 = .ok (.iload 4, 2) := by decide +kernel
theorem d_Mo_apart_84 : decode b_Mo_apart 84 = .ok (.iaload, 1) := by decide +kernel
theorem d_Mo_apart_85 : decode b_Mo_apart 85 = .ok (.iconst 2, 1) := by decide +kernel
theorem d_Mo_apart_86 : decode b_Mo_apart 86 = .ok (.iload_n 2, 1) := by decide +kernel
theorem d_Mo_apart_87 : decode b_Mo_apart 87 = .ok (.imul, 1) := by decide +kernel
theorem d_Mo_apart_88 : decode b_Mo_apart 88 = .ok (.iconst 1, 1) := by decide +kernel
theorem d_Mo_apart_89 : decode b_Mo_apart 89 = .ok (.iadd, 1) := by decide +kernel
theorem d_Mo_apart_90 : decode b_Mo_apart 90 = .ok (.invokevirtual 200, 3) := by decide +kernel
theorem d_Mo_apart_93 : decode b_Mo_apart 93 = .ok (.aload_n 0, 1) := by decide +kernel
theorem d_Mo_apart_94 : decode b_Mo_apart 94 = .ok (.aload_n 0, 1) := by decide +kernel
theorem d_Mo_apart_95 : decode b_Mo_apart 95 = .ok (.getfield 22, 3) := by decide +kernel
theorem d_Mo_apart_98 : decode b_Mo_apart 98 = .ok (.iload 4, 2) := by decide +kernel
theorem d_Mo_apart_100 : decode b_Mo_apart 100 = .ok (.iaload, 1) := by decide +kernel
theorem d_Mo_apart_101 : decode b_Mo_apart 101 = .ok (.iconst 2, 1) := by decide +kernel
theorem d_Mo_apart_102 : decode b_Mo_apart 102 = .ok (.iload_n 2, 1) := by decide +kernel
theorem d_Mo_apart_103 : decode b_Mo_apart 103 = .ok (.imul, 1) := by decide +kernel
theorem d_Mo_apart_104 : decode b_Mo_apart 104 = .ok (.iconst 1, 1) := by decide +kernel
theorem d_Mo_apart_105 : decode b_Mo_apart 105 = .ok (.iadd, 1) := by decide +kernel
theorem d_Mo_apart_106 : decode b_Mo_apart 106 = .ok (.aload_n 0, 1) := by decide +kernel
theorem d_Mo_apart_107 : decode b_Mo_apart 107 = .ok (.getfield 64, 3) := by decide +kernel
theorem d_Mo_apart_110 : decode b_Mo_apart 110 = .ok (.iload_n 2, 1) := by decide +kernel
theorem d_Mo_apart_111 : decode b_Mo_apart 111 = .ok (.iaload, 1) := by decide +kernel
theorem d_Mo_apart_112 : decode b_Mo_apart 112 = .ok (.iconst 1, 1) := by decide +kernel
theorem d_Mo_apart_113 : decode b_Mo_apart 113 = .ok (.iadd, 1) := by decide +kernel
theorem d_Mo_apart_114 : decode b_Mo_apart 114 = .ok (.aload_n 0, 1) := by decide +kernel
theorem d_Mo_apart_115 : decode b_Mo_apart 115 = .ok (.getfield 67, 3) := by decide +kernel
theorem d_Mo_apart_118 : decode b_Mo_apart 118 = .ok (.iload_n 2, 1) := by decide +kernel
theorem d_Mo_apart_119 : decode b_Mo_apart 119 = .ok (.iaload, 1) := by decide +kernel
theorem d_Mo_apart_120 : decode b_Mo_apart 120 = .ok (.aload_n 0, 1) := by decide +kernel
theorem d_Mo_apart_121 : decode b_Mo_apart 121 = .ok (.iload_n 2, 1) := by decide +kernel
theorem d_Mo_apart_122 : decode b_Mo_apart 122 = .ok (.invokevirtual 225, 3) := by decide +kernel
theorem d_Mo_apart_125 : decode b_Mo_apart 125 = .ok (.ifCond .eq 7, 3) := by decide +kernel
theorem d_Mo_apart_128 : decode b_Mo_apart 128 = .ok (.iconst 1, 1) := by decide +kernel
theorem d_Mo_apart_129 : decode b_Mo_apart 129 = .ok (.goto 4, 3) := by decide +kernel
theorem d_Mo_apart_132 : decode b_Mo_apart 132 = .ok (.iconst 0, 1) := by decide +kernel
theorem d_Mo_apart_133 : decode b_Mo_apart 133 = .ok (.iadd, 1) := by decide +kernel
theorem d_Mo_apart_134 : decode b_Mo_apart 134 = .ok (.invokevirtual 176, 3) := by decide +kernel
theorem d_Mo_apart_137 : decode b_Mo_apart 137 = .ok (.goto 239, 3) := by decide +kernel
theorem d_Mo_apart_140 : decode b_Mo_apart 140 = .ok (.aload_n 0, 1) := by decide +kernel
theorem d_Mo_apart_141 : decode b_Mo_apart 141 = .ok (.getfield 94, 3) := by decide +kernel
theorem d_Mo_apart_144 : decode b_Mo_apart 144 = .ok (.iload_n 1, 1) := by decide +kernel
theorem d_Mo_apart_145 : decode b_Mo_apart 145 = .ok (.iaload, 1) := by decide +kernel
theorem d_Mo_apart_146 : decode b_Mo_apart 146 = .ok (.bipush 101, 2) := by decide +kernel
theorem d_Mo_apart_148 : decode b_Mo_apart 148 = .ok (.if_icmp .ne 99, 3) := by decide +kernel
theorem d_Mo_apart_151 : decode b_Mo_apart 151 = .ok (.aload_n 0, 1) := by decide +kernel
theorem d_Mo_apart_152 : decode b_Mo_apart 152 = .ok (.iload_n 2, 1) := by decide +kernel
theorem d_Mo_apart_153 : decode b_Mo_apart 153 = .ok (.invokevirtual 225, 3) := by decide +kernel
theorem d_Mo_apart_156 : decode b_Mo_apart 156 = .ok (.ifCond .eq 91, 3) := by decide +kernel
theorem d_Mo_apart_159 : decode b_Mo_apart 159 = .ok (.aload_n 0, 1) := by decide +kernel
theorem d_Mo_apart_160 : decode b_Mo_apart 160 = .ok (.getfield 94, 3) := by decide +kernel
theorem d_Mo_apart_163 : decode b_Mo_apart 163 = .ok (.iload_n 1, 1) := by decide +kernel
theorem d_Mo_apart_164 : decode b_Mo_apart 164 = .ok (.sipush 201, 3) := by decide +kernel
theorem d_Mo_apart_167 : decode b_Mo_apart 167 = .ok (.iastore, 1) := by decide +kernel
theorem d_Mo_apart_168 : decode b_Mo_apart 168 = .ok (.aload_n 0, 1) := by decide +kernel
theorem d_Mo_apart_169 : decode b_Mo_apart 169 = .ok (.getfield 76, 3) := by decide +kernel
theorem d_Mo_apart_172 : decode b_Mo_apart 172 = .ok (.aload_n 0, 1) := by decide +kernel
theorem d_Mo_apart_173 : decode b_Mo_apart 173 = .ok (.getfield 238, 3) := by decide +kernel
theorem d_Mo_apart_176 : decode b_Mo_apart 176 = .ok (.aload_n 0, 1) := by decide +kernel
theorem d_Mo_apart_177 : decode b_Mo_apart 177 = .ok (.getfield 164, 3) := by decide +kernel
theorem d_Mo_apart_180 : decode b_Mo_apart 180 = .ok (.iastore, 1) := by decide +kernel
theorem d_Mo_apart_181 : decode b_Mo_apart 181 = .ok (.aload_n 0, 1) := by decide +kernel
theorem d_Mo_apart_182 : decode b_Mo_apart 182 = .ok (.dup, 1) := by decide +kernel
theorem d_Mo_apart_183 : decode b_Mo_apart 183 = .ok (.getfield 238, 3) := by decide +kernel
theorem d_Mo_apart_186 : decode b_Mo_apart 186 = .ok (.iconst 1, 1) := by decide +kernel
theorem d_Mo_apart_187 : decode b_Mo_apart 187 = .ok (.iadd, 1) := by decide +kernel
theorem d_Mo_apart_188 : decode b_Mo_apart 188 = .ok (.putfield 238, 3) := by decide +kernel
theorem d_Mo_apart_191 : decode b_Mo_apart 191 = .ok (.aload_n 0, 1) := by decide +kernel
theorem d_Mo_apart_192 : decode b_Mo_apart 192 = .ok (.aload_n 0, 1) := by decide +kernel
theorem d_Mo_apart_193 : decode b_Mo_apart 193 = .ok (.getfield 67, 3) := by decide +kernel
theorem d_Mo_apart_196 : decode b_Mo_apart 196 = .ok (.iload_n 2, 1) := by decide +kernel
theorem d_Mo_apart_197 : decode b_Mo_apart 197 = .ok (.iaload, 1) := by decide +kernel
theorem d_Mo_apart_198 : decode b_Mo_apart 198 = .ok (.aload_n 0, 1) := by decide +kernel
theorem d_Mo_apart_199 : decode b_Mo_apart 199 = .ok (.getfield 241, 3) := by decide +kernel
theorem d_Mo_apart_202 : decode b_Mo_apart 202 = .ok (.if_icmp .le 12, 3) := by decide +kernel
theorem d_Mo_apart_205 : decode b_Mo_apart 205 = .ok (.aload_n 0, 1) := by decide +kernel
theorem d_Mo_apart_206 : decode b_Mo_apart 206 = .ok (.getfield 67, 3) := by decide +kernel
theorem d_Mo_apart_209 : decode b_Mo_apart 209 = .ok (.iload_n 2, 1) := by decide +kernel
theorem d_Mo_apart_210 : decode b_Mo_apart 210 = .ok (.iaload, 1) := by decide +kernel
theorem d_Mo_apart_211 : decode b_Mo_apart 211 = .ok (.goto 7, 3) := by decide +kernel
theorem d_Mo_apart_214 : decode b_Mo_apart 214 = .ok (.aload_n 0, 1) := by decide +kernel
theorem d_Mo_apart_215 : decode b_Mo_apart 215 = .ok (.getfield 241, 3) := by decide +kernel
theorem d_Mo_apart_218 : decode b_Mo_apart 218 = .ok (.putfield 241, 3) := by decide +kernel
theorem d_Mo_apart_221 : decode b_Mo_apart 221 = .ok (.aload_n 0, 1) := by decide +kernel
theorem d_Mo_apart_222 : decode b_Mo_apart 222 = .ok (.bipush 15, 2) := by decide +kernel
theorem d_Mo_apart_224 : decode b_Mo_apart 224 = .ok (.aload_n 0, 1) := by decide +kernel
theorem d_Mo_apart_225 : decode b_Mo_apart 225 = .ok (.getfield 67, 3) := by decide +kernel
theorem d_Mo_apart_228 : decode b_Mo_apart 228 = .ok (.iload_n 2, 1) := by decide +kernel
theorem d_Mo_apart_229 : decode b_Mo_apart 229 = .ok (.iaload, 1) := by decide +kernel
theorem d_Mo_apart_230 : decode b_Mo_apart 230 = .ok (.aload_n 0, 1) := by decide +kernel
theorem d_Mo_apart_231 : decode b_Mo_apart 231 = .ok (.getfield 61, 3) := by decide +kernel
theorem d_Mo_apart_234 : decode b_Mo_apart 234 = .ok (.iload_n 2, 1) := by decide +kernel
theorem d_Mo_apart_235 : decode b_Mo_apart 235 = .ok (.iaload, 1) := by decide +kernel
theorem d_Mo_apart_236 : decode b_Mo_apart 236 = .ok (.invokevirtual 200, 3) := by decide +kernel
theorem d_Mo_apart_239 : decode b_Mo_apart 239 = .ok (.aload_n 0, 1) := by decide +kernel
theorem d_Mo_apart_240 : decode b_Mo_apart 240 = .ok (.iload_n 2, 1) := by decide +kernel
theorem d_Mo_apart_241 : decode b_Mo_apart 241 = .ok (.invokevirtual 228, 3) := by decide +kernel
theorem d_Mo_apart_244 : decode b_Mo_apart 244 = .ok (.goto 132, 3) := by decide +kernel
theorem d_Mo_apart_247 : decode b_Mo_apart 247 = .ok (.aload_n 0, 1) := by decide +kernel
theorem d_Mo_apart_248 : decode b_Mo_apart 248 = .ok (.getfield 94, 3) := by decide +kernel
theorem d_Mo_apart_251 : decode b_Mo_apart 251 = .ok (.iload_n 1, 1) := by decide +kernel
theorem d_Mo_apart_252 : decode b_Mo_apart 252 = .ok (.iaload, 1) := by decide +kernel
theorem d_Mo_apart_253 : decode b_Mo_apart 253 = .ok (.bipush 101, 2) := by decide +kernel
theorem d_Mo_apart_255 : decode b_Mo_apart 255 = .ok (.if_icmp .ne 16, 3) := by decide +kernel
theorem d_Mo_apart_258 : decode b_Mo_apart 258 = .ok (.aload_n 0, 1) := by decide +kernel
theorem d_Mo_apart_259 : decode b_Mo_apart 259 = .ok (.dup, 1) := by decide +kernel
theorem d_Mo_apart_260 : decode b_Mo_apart 260 = .ok (.getfield 173, 3) := by decide +kernel
theorem d_Mo_apart_263 : decode b_Mo_apart 263 = .ok (.iconst 1, 1) := by decide +kernel
theorem d_Mo_apart_264 : decode b_Mo_apart 264 = .ok (.isub, 1) := by decide +kernel
theorem d_Mo_apart_265 : decode b_Mo_apart 265 = .ok (.putfield 173, 3) := by decide +kernel
theorem d_Mo_apart_268 : decode b_Mo_apart 268 = .ok (.goto 108, 3) := by decide +kernel
theorem d_Mo_apart_271 : decode b_Mo_apart 271 = .ok (.aload_n 0, 1) := by decide +kernel
theorem d_Mo_apart_272 : decode b_Mo_apart 272 = .ok (.getfield 94, 3) := by decide +kernel
theorem d_Mo_apart_275 : decode b_Mo_apart 275 = .ok (.iload_n 1, 1) := by decide +kernel
theorem d_Mo_apart_276 : decode b_Mo_apart 276 = .ok (.iaload, 1) := by decide +kernel
theorem d_Mo_apart_277 : decode b_Mo_apart 277 = .ok (.bipush 102, 2) := by decide +kernel
theorem d_Mo_apart_279 : decode b_Mo_apart 279 = .ok (.if_icmp .ne 19, 3) := by decide +kernel
theorem d_Mo_apart_282 : decode b_Mo_apart 282 = .ok (.aload_n 0, 1) := by decide +kernel
theorem d_Mo_apart_283 : decode b_Mo_apart 283 = .ok (.iload_n 2, 1) := by decide +kernel
theorem d_Mo_apart_284 : decode b_Mo_apart 284 = .ok (.invokevirtual 225, 3) := by decide +kernel
theorem d_Mo_apart_287 : decode b_Mo_apart 287 = .ok (.ifCond .eq 89, 3) := by decide +kernel
theorem d_Mo_apart_290 : decode b_Mo_apart 290 = .ok (.aload_n 0, 1) := by decide +kernel
theorem d_Mo_apart_291 : decode b_Mo_apart 291 = .ok (.iload_n 2, 1) := by decide +kernel
theorem d_Mo_apart_292 : decode b_Mo_apart 292 = .ok (.invokevirtual 228, 3) := by decide +kernel
theorem d_Mo_apart_295 : decode b_Mo_apart 295 = .ok (.goto 81, 3) := by decide +kernel
theorem d_Mo_apart_298 : decode b_Mo_apart 298 = .ok (.aload_n 0, 1) := by decide +kernel
theorem d_Mo_apart_299 : decode b_Mo_apart 299 = .ok (.getfield 94, 3) := by decide +kernel
theorem d_Mo_apart_302 : decode b_Mo_apart 302 = .ok (.iload_n 1, 1) := by decide +kernel
theorem d_Mo_apart_303 : decode b_Mo_apart 303 = .ok (.iaload, 1) := by decide +kernel
theorem d_Mo_apart_304 : decode b_Mo_apart 304 = .ok (.bipush 103, 2) := by decide +kernel
theorem d_Mo_apart_306 : decode b_Mo_apart 306 = .ok (.if_icmp .ne 42, 3) := by decide +kernel
theorem d_Mo_apart_309 : decode b_Mo_apart 309 = .ok (.aload_n 0, 1) := by decide +kernel
theorem d_Mo_apart_310 : decode b_Mo_apart 310 = .ok (.bipush 11, 2) := by decide +kernel
theorem d_Mo_apart_312 : decode b_Mo_apart 312 = .ok (.aload_n 0, 1) := by decide +kernel
theorem d_Mo_apart_313 : decode b_Mo_apart 313 = .ok (.getfield 70, 3) := by decide +kernel
theorem d_Mo_apart_316 : decode b_Mo_apart 316 = .ok (.iload_n 2, 1) := by decide +kernel
theorem d_Mo_apart_317 : decode b_Mo_apart 317 = .ok (.iaload, 1) := by decide +kernel
theorem d_Mo_apart_318 : decode b_Mo_apart 318 = .ok (.aload_n 0, 1) := by decide +kernel
theorem d_Mo_apart_319 : decode b_Mo_apart 319 = .ok (.getfield 61, 3) := by decide +kernel
theorem d_Mo_apart_322 : decode b_Mo_apart 322 = .ok (.iload_n 2, 1) := by decide +kernel
theorem d_Mo_apart_323 : decode b_Mo_apart 323 = .ok (.iaload, 1) := by decide +kernel
theorem d_Mo_apart_324 : decode b_Mo_apart 324 = .ok (.invokevirtual 200, 3) := by decide +kernel
theorem d_Mo_apart_327 : decode b_Mo_apart 327 = .ok (.aload_n 0, 1) := by decide +kernel
theorem d_Mo_apart_328 : decode b_Mo_apart 328 = .ok (.getfield 100, 3) := by decide +kernel
theorem d_Mo_apart_331 : decode b_Mo_apart 331 = .ok (.iload_n 1, 1) := by decide +kernel
theorem d_Mo_apart_332 : decode b_Mo_apart 332 = .ok (.dup2, 1) := by decide +kernel
theorem d_Mo_apart_333 : decode b_Mo_apart 333 = .ok (.iaload, 1) := by decide +kernel
theorem d_Mo_apart_334 : decode b_Mo_apart 334 = .ok (.iconst 1, 1) := by decide +kernel
theorem d_Mo_apart_335 : decode b_Mo_apart 335 = .ok (.iadd, 1) := by decide +kernel
theorem d_Mo_apart_336 : decode b_Mo_apart 336 = .ok (.iastore, 1) := by decide +kernel
theorem d_Mo_apart_337 : decode b_Mo_apart 337 = .ok (.aload_n 0, 1) := by decide +kernel
theorem d_Mo_apart_338 : decode b_Mo_apart 338 = .ok (.getfield 94, 3) := by decide +kernel
theorem d_Mo_apart_341 : decode b_Mo_apart 341 = .ok (.iload_n 1, 1) := by decide +kernel
theorem d_Mo_apart_342 : decode b_Mo_apart 342 = .ok (.bipush 100, 2) := by decide +kernel
theorem d_Mo_apart_344 : decode b_Mo_apart 344 = .ok (.iastore, 1) := by decide +kernel
theorem d_Mo_apart_345 : decode b_Mo_apart 345 = .ok (.goto 31, 3) := by decide +kernel
theorem d_Mo_apart_348 : decode b_Mo_apart 348 = .ok (.aload_n 0, 1) := by decide +kernel
theorem d_Mo_apart_349 : decode b_Mo_apart 349 = .ok (.bipush 16, 2) := by decide +kernel
theorem d_Mo_apart_351 : decode b_Mo_apart 351 = .ok (.aload_n 0, 1) := by decide +kernel
theorem d_Mo_apart_352 : decode b_Mo_apart 352 = .ok (.getfield 67, 3) := by decide +kernel
theorem d_Mo_apart_355 : decode b_Mo_apart 355 = .ok (.iload_n 2, 1) := by decide +kernel
theorem d_Mo_apart_356 : decode b_Mo_apart 356 = .ok (.iaload, 1) := by decide +kernel
theorem d_Mo_apart_357 : decode b_Mo_apart 357 = .ok (.aload_n 0, 1) := by decide +kernel
theorem d_Mo_apart_358 : decode b_Mo_apart 358 = .ok (.getfield 61, 3) := by decide +kernel
theorem d_Mo_apart_361 : decode b_Mo_apart 361 = .ok (.iload_n 2, 1) := by decide +kernel
theorem d_Mo_apart_362 : decode b_Mo_apart 362 = .ok (.iaload, 1) := by decide +kernel
theorem d_Mo_apart_363 : decode b_Mo_apart 363 = .ok (.invokevirtual 200, 3) := by decide +kernel
theorem d_Mo_apart_366 : decode b_Mo_apart 366 = .ok (.aload_n 0, 1) := by decide +kernel
theorem d_Mo_apart_367 : decode b_Mo_apart 367 = .ok (.dup, 1) := by decide +kernel
theorem d_Mo_apart_368 : decode b_Mo_apart 368 = .ok (.getfield 173, 3) := by decide +kernel
theorem d_Mo_apart_371 : decode b_Mo_apart 371 = .ok (.iconst 1, 1) := by decide +kernel
theorem d_Mo_apart_372 : decode b_Mo_apart 372 = .ok (.isub, 1) := by decide +kernel
theorem d_Mo_apart_373 : decode b_Mo_apart 373 = .ok (.putfield 173, 3) := by decide +kernel
theorem d_Mo_apart_376 : decode b_Mo_apart 376 = .ok (.return_, 1) := by decide +kernel
theorem d_Mo_expression_0 : decode b_Mo_expression 0 = .ok (.aload_n 0, 1) := by decide +kernel
theorem d_Mo_expression_1 : decode b_Mo_expression 1 = .ok (.getfield 82, 3) := by decide +kernel
theorem d_Mo_expression_4 : decode b_Mo_expression 4 = .ok (.iload_n 1, 1) := by decide +kernel
theorem d_Mo_expression_5 : decode b_Mo_expression 5 = .ok (.iaload, 1) := by decide +kernel
theorem d_Mo_expression_6 : decode b_Mo_expression 6 = .ok (.istore_n 3, 1) := by decide +kernel
theorem d_Mo_expression_7 : decode b_Mo_expression 7 = .ok (.iload_n 2, 1) := by decide +kernel
theorem d_Mo_expression_8 : decode b_Mo_expression 8 = .ok (.iconst 2, 1) := by decide +kernel
theorem d_Mo_expression_9 : decode b_Mo_expression 9 = .ok (.if_icmp .ge 33, 3) := by decide +kernel
theorem d_Mo_expression_12 : decode b_Mo_expression 12 = .ok (.aload_n 0, 1) := by decide +kernel
theorem d_Mo_expression_13 : decode b_Mo_expression 13 = .ok (.iload_n 2, 1) := by decide +kernel
theorem d_Mo_expression_14 : decode b_Mo_expression 14 = .ok (.aload_n 0, 1) := by decide +kernel
theorem d_Mo_expression_15 : decode b_Mo_expression 15 = .ok (.getfield 13, 3) := by decide +kernel
theorem d_Mo_expression_18 : decode b_Mo_expression 18 = .ok (.iload_n 3, 1) := by decide +kernel
theorem d_Mo_expression_19 : decode b_Mo_expression 19 = .ok (.iaload, 1) := by decide +kernel
theorem d_Mo_expression_20 : decode b_Mo_expression 20 = .ok (.aload_n 0, 1) := by decide +kernel
theorem d_Mo_expression_21 : decode b_Mo_expression 21 = .ok (.getfield 85, 3) := by decide +kernel
theorem d_Mo_expression_24 : decode b_Mo_expression 24 = .ok (.iload_n 1, 1) := by decide +kernel
theorem d_Mo_expression_25 : decode b_Mo_expression 25 = .ok (.iaload, 1) := by decide +kernel
theorem d_Mo_expression_26 : decode b_Mo_expression 26 = .ok (.invokevirtual 200, 3) := by decide +kernel
theorem d_Mo_expression_29 : decode b_Mo_expression 29 = .ok (.aload_n 0, 1) := by decide +kernel
theorem d_Mo_expression_30 : decode b_Mo_expression 30 = .ok (.dup, 1) := by decide +kernel
theorem d_Mo_expression_31 : decode b_Mo_expression 31 = .ok (.getfield 173, 3) := by decide +kernel
theorem d_Mo_expression_34 : decode b_Mo_expression 34 = .ok (.iconst 1, 1) := by decide +kernel
theorem d_Mo_expression_35 : decode b_Mo_expression 35 = .ok (.isub, 1) := by decide +kernel
theorem d_Mo_expression_36 : decode b_Mo_expression 36 = .ok (.putfield 173, 3) := by decide +kernel
theorem d_Mo_expression_39 : decode b_Mo_expression 39 = .ok (.goto 68, 3) := by decide +kernel
theorem d_Mo_expression_42 : decode b_Mo_expression 42 = .ok (.aload_n 0, 1) := by decide +kernel
theorem d_Mo_expression_43 : decode b_Mo_expression 43 = .ok (.getfield 94, 3) := by decide +kernel
theorem d_Mo_expression_46 : decode b_Mo_expression 46 = .ok (.iload_n 1, 1) := by decide +kernel
theorem d_Mo_expression_47 : decode b_Mo_expression 47 = .ok (.iaload, 1) := by decide +kernel
theorem d_Mo_expression_48 : decode b_Mo_expression 48 = .ok (.iconst 3, 1) := by decide +kernel
theorem d_Mo_expression_49 : decode b_Mo_expression 49 = .ok (.if_icmp .ge 36, 3) := by decide +kernel
theorem d_Mo_expression_52 : decode b_Mo_expression 52 = .ok (.aload_n 0, 1) := by decide +kernel
theorem d_Mo_expression_53 : decode b_Mo_expression 53 = .ok (.iload_n 1, 1) := by decide +kernel
theorem d_Mo_expression_54 : decode b_Mo_expression 54 = .ok (.aload_n 0, 1) := by decide +kernel
theorem d_Mo_expression_55 : decode b_Mo_expression 55 = .ok (.getfield 94, 3) := by decide +kernel
theorem d_Mo_expression_58 : decode b_Mo_expression 58 = .ok (.iload_n 1, 1) := by decide +kernel
theorem d_Mo_expression_59 : decode b_Mo_expression 59 = .ok (.iaload, 1) := by decide +kernel
theorem d_Mo_expression_60 : decode b_Mo_expression 60 = .ok (.iconst 1, 1) := by decide +kernel
theorem d_Mo_expression_61 : decode b_Mo_expression 61 = .ok (.if_icmp .ne 12, 3) := by decide +kernel
theorem d_Mo_expression_64 : decode b_Mo_expression 64 = .ok (.aload_n 0, 1) := by decide +kernel
theorem d_Mo_expression_65 : decode b_Mo_expression 65 = .ok (.getfield 13, 3) := by decide +kernel
theorem d_Mo_expression_68 : decode b_Mo_expression 68 = .ok (.iload_n 3, 1) := by decide +kernel
theorem d_Mo_expression_69 : decode b_Mo_expression 69 = .ok (.iaload, 1) := by decide +kernel
theorem d_Mo_expression_70 : decode b_Mo_expression 70 = .ok (.goto 9, 3) := by decide +kernel
theorem d_Mo_expression_73 : decode b_Mo_expression 73 = .ok (.aload_n 0, 1) := by decide +kernel
theorem d_Mo_expression_74 : decode b_Mo_expression 74 = .ok (.getfield 16, 3) := by decide +kernel
theorem d_Mo_expression_77 : decode b_Mo_expression 77 = .ok (.iload_n 3, 1) := by decide +kernel
theorem d_Mo_expression_78 : decode b_Mo_expression 78 = .ok (.iaload, 1) := by decide +kernel
theorem d_Mo_expression_79 : decode b_Mo_expression 79 = .ok (.invokevirtual 204, 3) := by decide +kernel
theorem d_Mo_expression_82 : decode b_Mo_expression 82 = .ok (.goto 25, 3) := by decide +kernel
theorem d_Mo_expression_85 : decode b_Mo_expression 85 = .ok (.aload_n 0, 1) := by decide +kernel
theorem d_Mo_expression_86 : decode b_Mo_expression 86 = .ok (.iload_n 2, 1) := by decide +kernel
theorem d_Mo_expression_87 : decode b_Mo_expression 87 = .ok (.iconst 0, 1) := by decide +kernel
theorem d_Mo_expression_88 : decode b_Mo_expression 88 = .ok (.aload_n 0, 1) := by decide +kernel
theorem d_Mo_expression_89 : decode b_Mo_expression 89 = .ok (.getfield 85, 3) := by decide +kernel
theorem d_Mo_expression_92 : decode b_Mo_expression 92 = .ok (.iload_n 1, 1) := by decide +kernel
theorem d_Mo_expression_93 : decode b_Mo_expression 93 = .ok (.iaload, 1) := by decide +kernel
theorem d_Mo_expression_94 : decode b_Mo_expression 94 = .ok (.invokevirtual 200, 3) := by decide +kernel
theorem d_Mo_expression_97 : decode b_Mo_expression 97 = .ok (.aload_n 0, 1) := by decide +kernel
theorem d_Mo_expression_98 : decode b_Mo_expression 98 = .ok (.dup, 1) := by decide +kernel
theorem d_Mo_expression_99 : decode b_Mo_expression 99 = .ok (.getfield 173, 3) := by decide +kernel
theorem d_Mo_expression_102 : decode b_Mo_expression 102 = .ok (.iconst 1, 1) := by decide +kernel
theorem d_Mo_expression_103 : decode b_Mo_expression 103 = .ok (.isub, 1) := by decide +kernel
theorem d_Mo_expression_104 : decode b_Mo_expression 104 = .ok (.putfield 173, 3) := by decide +kernel
theorem d_Mo_expression_107 : decode b_Mo_expression 107 = .ok (.return_, 1) := by decide +kernel
end
section
theorem d_Mo_goesOn_0 : decode b_Mo_goesOn 0 = .ok (.aload_n 0, 1) := by decide +kernel
theorem d_Mo_goesOn_1 : decode b_Mo_goesOn 1 = .ok (.getfield 173, 3) := by decide +kernel
theorem d_Mo_goesOn_4 : decode b_Mo_goesOn 4 = .ok (.iconst 1, 1) := by decide +kernel
theorem d_Mo_goesOn_5 : decode b_Mo_goesOn 5 = .ok (.isub, 1) := by decide +kernel
theorem d_Mo_goesOn_6 : decode b_Mo_goesOn 6 = .ok (.istore_n 1, 1) := by decide +kernel
theorem d_Mo_goesOn_7 : decode b_Mo_goesOn 7 = .ok (.aload_n 0, 1) := by decide +kernel
theorem d_Mo_goesOn_8 : decode b_Mo_goesOn 8 = .ok (.getfield 7, 3) := by decide +kernel
theorem d_Mo_goesOn_11 : decode b_Mo_goesOn 11 = .ok (.aload_n 0, 1) := by decide +kernel
theorem d_Mo_goesOn_12 : decode b_Mo_goesOn 12 = .ok (.getfield 82, 3) := by decide +kernel
theorem d_Mo_goesOn_15 : decode b_Mo_goesOn 15 = .ok (.iload_n 1, 1) := by decide +kernel
theorem d_Mo_goesOn_16 : decode b_Mo_goesOn 16 = .ok (.iaload, 1) := by decide +kernel
theorem d_Mo_goesOn_17 : decode b_Mo_goesOn 17 = .ok (.iaload, 1) := by decide +kernel
theorem d_Mo_goesOn_18 : decode b_Mo_goesOn 18 = .ok (.istore_n 2, 1) := by decide +kernel
theorem d_Mo_goesOn_19 : decode b_Mo_goesOn 19 = .ok (.aload_n 0, 1) := by decide +kernel
theorem d_Mo_goesOn_20 : decode b_Mo_goesOn 20 = .ok (.getfield 94, 3) := by decide +kernel
theorem d_Mo_goesOn_23 : decode b_Mo_goesOn 23 = .ok (.iload_n 1, 1) := by decide +kernel
theorem d_Mo_goesOn_24 : decode b_Mo_goesOn 24 = .ok (.dup2, 1) := by decide +kernel
theorem d_Mo_goesOn_25 : decode b_Mo_goesOn 25 = .ok (.iaload, 1) := by decide +kernel
theorem d_Mo_goesOn_26 : decode b_Mo_goesOn 26 = .ok (.iconst 1, 1) := by decide +kernel
theorem d_Mo_goesOn_27 : decode b_Mo_goesOn 27 = .ok (.iadd, 1) := by decide +kernel
theorem d_Mo_goesOn_28 : decode b_Mo_goesOn 28 = .ok (.iastore, 1) := by decide +kernel
theorem d_Mo_goesOn_29 : decode b_Mo_goesOn 29 = .ok (.iload_n 2, 1) := by decide +kernel
theorem d_Mo_goesOn_30 : decode b_Mo_goesOn 30 = .ok (.bipush 8, 2) := by decide +kernel
theorem d_Mo_goesOn_32 : decode b_Mo_goesOn 32 = .ok (.if_icmp .ge 12, 3) := by decide +kernel
theorem d_Mo_goesOn_35 : decode b_Mo_goesOn 35 = .ok (.aload_n 0, 1) := by decide +kernel
theorem d_Mo_goesOn_36 : decode b_Mo_goesOn 36 = .ok (.iload_n 1, 1) := by decide +kernel
theorem d_Mo_goesOn_37 : decode b_Mo_goesOn 37 = .ok (.iload_n 2, 1) := by decide +kernel
theorem d_Mo_goesOn_38 : decode b_Mo_goesOn 38 = .ok (.invokevirtual 183, 3) := by decide +kernel
theorem d_Mo_goesOn_41 : decode b_Mo_goesOn 41 = .ok (.goto 69, 3) := by decide +kernel
theorem d_Mo_goesOn_44 : decode b_Mo_goesOn 44 = .ok (.iload_n 2, 1) := by decide +kernel
theorem d_Mo_goesOn_45 : decode b_Mo_goesOn 45 = .ok (.bipush 18, 2) := by decide +kernel
theorem d_Mo_goesOn_47 : decode b_Mo_goesOn 47 = .ok (.if_icmp .ne 22, 3) := by decide +kernel
theorem d_Mo_goesOn_50 : decode b_Mo_goesOn 50 = .ok (.aload_n 0, 1) := by decide +kernel
theorem d_Mo_goesOn_51 : decode b_Mo_goesOn 51 = .ok (.getfield 94, 3) := by decide +kernel
theorem d_Mo_goesOn_54 : decode b_Mo_goesOn 54 = .ok (.iload_n 1, 1) := by decide +kernel
theorem d_Mo_goesOn_55 : decode b_Mo_goesOn 55 = .ok (.iaload, 1) := by decide +kernel
theorem d_Mo_goesOn_56 : decode b_Mo_goesOn 56 = .ok (.bipush 100, 2) := by decide +kernel
theorem d_Mo_goesOn_58 : decode b_Mo_goesOn 58 = .ok (.if_icmp .le 11, 3) := by decide +kernel
theorem d_Mo_goesOn_61 : decode b_Mo_goesOn 61 = .ok (.aload_n 0, 1) := by decide +kernel
theorem d_Mo_goesOn_62 : decode b_Mo_goesOn 62 = .ok (.iload_n 1, 1) := by decide +kernel
theorem d_Mo_goesOn_63 : decode b_Mo_goesOn 63 = .ok (.invokevirtual 187, 3) := by decide +kernel
theorem d_Mo_goesOn_66 : decode b_Mo_goesOn 66 = .ok (.goto 44, 3) := by decide +kernel
theorem d_Mo_goesOn_69 : decode b_Mo_goesOn 69 = .ok (.iload_n 2, 1) := by decide +kernel
theorem d_Mo_goesOn_70 : decode b_Mo_goesOn 70 = .ok (.bipush 18, 2) := by decide +kernel
theorem d_Mo_goesOn_72 : decode b_Mo_goesOn 72 = .ok (.if_icmp .ne 11, 3) := by decide +kernel
theorem d_Mo_goesOn_75 : decode b_Mo_goesOn 75 = .ok (.aload_n 0, 1) := by decide +kernel
theorem d_Mo_goesOn_76 : decode b_Mo_goesOn 76 = .ok (.iload_n 1, 1) := by decide +kernel
theorem d_Mo_goesOn_77 : decode b_Mo_goesOn 77 = .ok (.invokevirtual 191, 3) := by decide +kernel
theorem d_Mo_goesOn_80 : decode b_Mo_goesOn 80 = .ok (.goto 30, 3) := by decide +kernel
theorem d_Mo_goesOn_83 : decode b_Mo_goesOn 83 = .ok (.iload_n 2, 1) := by decide +kernel
theorem d_Mo_goesOn_84 : decode b_Mo_goesOn 84 = .ok (.bipush 16, 2) := by decide +kernel
theorem d_Mo_goesOn_86 : decode b_Mo_goesOn 86 = .ok (.if_icmp .eq 9, 3) := by decide +kernel
theorem d_Mo_goesOn_89 : decode b_Mo_goesOn 89 = .ok (.iload_n 2, 1) := by decide +kernel
theorem d_Mo_goesOn_90 : decode b_Mo_goesOn 90 = .ok (.bipush 17, 2) := by decide +kernel
theorem d_Mo_goesOn_92 : decode b_Mo_goesOn 92 = .ok (.if_icmp .ne 12, 3) := by decide +kernel
theorem d_Mo_goesOn_95 : decode b_Mo_goesOn 95 = .ok (.aload_n 0, 1) := by decide +kernel
theorem d_Mo_goesOn_96 : decode b_Mo_goesOn 96 = .ok (.iload_n 1, 1) := by decide +kernel
theorem d_Mo_goesOn_97 : decode b_Mo_goesOn 97 = .ok (.iload_n 2, 1) := by decide +kernel
theorem d_Mo_goesOn_98 : decode b_Mo_goesOn 98 = .ok (.invokevirtual 194, 3) := by decide +kernel
theorem d_Mo_goesOn_101 : decode b_Mo_goesOn 101 = .ok (.goto 9, 3) := by decide +kernel
theorem d_Mo_goesOn_104 : decode b_Mo_goesOn 104 = .ok (.aload_n 0, 1) := by decide +kernel
theorem d_Mo_goesOn_105 : decode b_Mo_goesOn 105 = .ok (.iload_n 1, 1) := by decide +kernel
theorem d_Mo_goesOn_106 : decode b_Mo_goesOn 106 = .ok (.iload_n 2, 1) := by decide +kernel
theorem d_Mo_goesOn_107 : decode b_Mo_goesOn 107 = .ok (.invokevirtual 197, 3) := by decide +kernel
theorem d_Mo_goesOn_110 : decode b_Mo_goesOn 110 = .ok (.return_, 1) := by decide +kernel
theorem d_Mo_laysAll_0 : decode b_Mo_laysAll 0 = .ok (.iconst 0, 1) := by decide +kernel
theorem d_Mo_laysAll_1 : decode b_Mo_laysAll 1 = .ok (.istore_n 1, 1) := by decide +kernel
theorem d_Mo_laysAll_2 : decode b_Mo_laysAll 2 = .ok (.iload_n 1, 1) := by decide +kernel
theorem d_Mo_laysAll_3 : decode b_Mo_laysAll 3 = .ok (.bipush 6, 2) := by decide +kernel
theorem d_Mo_laysAll_5 : decode b_Mo_laysAll 5 = .ok (.if_icmp .ge 148, 3) := by decide +kernel
theorem d_Mo_laysAll_8 : decode b_Mo_laysAll 8 = .ok (.aload_n 0, 1) := by decide +kernel
theorem d_Mo_laysAll_9 : decode b_Mo_laysAll 9 = .ok (.getfield 167, 3) := by decide +kernel
theorem d_Mo_laysAll_12 : decode b_Mo_laysAll 12 = .ok (.ifCond .ne 141, 3) := by decide +kernel
theorem d_Mo_laysAll_15 : decode b_Mo_laysAll 15 = .ok (.aload_n 0, 1) := by decide +kernel
theorem d_Mo_laysAll_16 : decode b_Mo_laysAll 16 = .ok (.getfield 222, 3) := by decide +kernel
theorem d_Mo_laysAll_19 : decode b_Mo_laysAll 19 = .ok (.ifCond .ne 134, 3) := by decide +kernel
theorem d_Mo_laysAll_22 : decode b_Mo_laysAll 22 = .ok (.aload_n 0, 1) := by decide +kernel
theorem d_Mo_laysAll_23 : decode b_Mo_laysAll 23 = .ok (.getfield 55, 3) := by decide +kernel
theorem d_Mo_laysAll_26 : decode b_Mo_laysAll 26 = .ok (.iload_n 1, 1) := by decide +kernel
theorem d_Mo_laysAll_27 : decode b_Mo_laysAll 27 = .ok (.aload_n 0, 1) := by decide +kernel
theorem d_Mo_laysAll_28 : decode b_Mo_laysAll 28 = .ok (.getfield 164, 3) := by decide +kernel
theorem d_Mo_laysAll_31 : decode b_Mo_laysAll 31 = .ok (.iastore, 1) := by decide +kernel
theorem d_Mo_laysAll_32 : decode b_Mo_laysAll 32 = .ok (.aload_n 0, 1) := by decide +kernel
theorem d_Mo_laysAll_33 : decode b_Mo_laysAll 33 = .ok (.iconst 0, 1) := by decide +kernel
theorem d_Mo_laysAll_34 : decode b_Mo_laysAll 34 = .ok (.putfield 173, 3) := by decide +kernel
theorem d_Mo_laysAll_37 : decode b_Mo_laysAll 37 = .ok (.aload_n 0, 1) := by decide +kernel
theorem d_Mo_laysAll_38 : decode b_Mo_laysAll 38 = .ok (.getfield 231, 3) := by decide +kernel
theorem d_Mo_laysAll_41 : decode b_Mo_laysAll 41 = .ok (.istore_n 2, 1) := by decide +kernel
theorem d_Mo_laysAll_42 : decode b_Mo_laysAll 42 = .ok (.aload_n 0, 1) := by decide +kernel
theorem d_Mo_laysAll_43 : decode b_Mo_laysAll 43 = .ok (.getfield 28, 3) := by decide +kernel
theorem d_Mo_laysAll_46 : decode b_Mo_laysAll 46 = .ok (.iload_n 1, 1) := by decide +kernel
theorem d_Mo_laysAll_47 : decode b_Mo_laysAll 47 = .ok (.iaload, 1) := by decide +kernel
theorem d_Mo_laysAll_48 : decode b_Mo_laysAll 48 = .ok (.iconst (-1), 1) := by decide +kernel
theorem d_Mo_laysAll_49 : decode b_Mo_laysAll 49 = .ok (.if_icmp .eq 16, 3) := by decide +kernel
theorem d_Mo_laysAll_52 : decode b_Mo_laysAll 52 = .ok (.aload_n 0, 1) := by decide +kernel
theorem d_Mo_laysAll_53 : decode b_Mo_laysAll 53 = .ok (.aload_n 0, 1) := by decide +kernel
theorem d_Mo_laysAll_54 : decode b_Mo_laysAll 54 = .ok (.getfield 28, 3) := by decide +kernel
theorem d_Mo_laysAll_57 : decode b_Mo_laysAll 57 = .ok (.iload_n 1, 1) := by decide +kernel
theorem d_Mo_laysAll_58 : decode b_Mo_laysAll 58 = .ok (.iaload, 1) := by decide +kernel
theorem d_Mo_laysAll_59 : decode b_Mo_laysAll 59 = .ok (.iconst (-1), 1) := by decide +kernel
theorem d_Mo_laysAll_60 : decode b_Mo_laysAll 60 = .ok (.iconst 0, 1) := by decide +kernel
theorem d_Mo_laysAll_61 : decode b_Mo_laysAll 61 = .ok (.iconst 0, 1) := by decide +kernel
theorem d_Mo_laysAll_62 : decode b_Mo_laysAll 62 = .ok (.invokevirtual 176, 3) := by decide +kernel
theorem d_Mo_laysAll_65 : decode b_Mo_laysAll 65 = .ok (.iconst 0, 1) := by decide +kernel
theorem d_Mo_laysAll_66 : decode b_Mo_laysAll 66 = .ok (.istore_n 3, 1) := by decide +kernel
theorem d_Mo_laysAll_67 : decode b_Mo_laysAll 67 = .ok (.aload_n 0, 1) := by decide +kernel
theorem d_Mo_laysAll_68 : decode b_Mo_laysAll 68 = .ok (.getfield 167, 3) := by decide +kernel
theorem d_Mo_laysAll_71 : decode b_Mo_laysAll 71 = .ok (.ifCond .ne 76, 3) := by decide +kernel
theorem d_Mo_laysAll_74 : decode b_Mo_laysAll 74 = .ok (.aload_n 0, 1) := by decide +kernel
theorem d_Mo_laysAll_75 : decode b_Mo_laysAll 75 = .ok (.getfield 222, 3) := by decide +kernel
theorem d_Mo_laysAll_78 : decode b_Mo_laysAll 78 = .ok (.ifCond .ne 69, 3) := by decide +kernel
theorem d_Mo_laysAll_81 : decode b_Mo_laysAll 81 = .ok (.aload_n 0, 1) := by decide +kernel
theorem d_Mo_laysAll_82 : decode b_Mo_laysAll 82 = .ok (.getfield 173, 3) := by decide +kernel
theorem d_Mo_laysAll_85 : decode b_Mo_laysAll 85 = .ok (.ifCond .gt 15, 3) := by decide +kernel
theorem d_Mo_laysAll_88 : decode b_Mo_laysAll 88 = .ok (.iload_n 3, 1) := by decide +kernel
theorem d_Mo_laysAll_89 : decode b_Mo_laysAll 89 = .ok (.ifCond .eq 11, 3) := by decide +kernel
theorem d_Mo_laysAll_92 : decode b_Mo_laysAll 92 = .ok (.iload_n 2, 1) := by decide +kernel
theorem d_Mo_laysAll_93 : decode b_Mo_laysAll 93 = .ok (.aload_n 0, 1) := by decide +kernel
theorem d_Mo_laysAll_94 : decode b_Mo_laysAll 94 = .ok (.getfield 231, 3) := by decide +kernel
theorem d_Mo_laysAll_97 : decode b_Mo_laysAll 97 = .ok (.if_icmp .ge 50, 3) := by decide +kernel
theorem d_Mo_laysAll_100 : decode b_Mo_laysAll 100 = .ok (.aload_n 0, 1) := by decide +kernel
theorem d_Mo_laysAll_101 : decode b_Mo_laysAll 101 = .ok (.getfield 173, 3) := by decide +kernel
theorem d_Mo_laysAll_104 : decode b_Mo_laysAll 104 = .ok (.ifCond .le 10, 3) := by decide +kernel
theorem d_Mo_laysAll_107 : decode b_Mo_laysAll 107 = .ok (.aload_n 0, 1) := by decide +kernel
theorem d_Mo_laysAll_108 : decode b_Mo_laysAll 108 = .ok (.invokevirtual 260, 3) := by decide +kernel
theorem d_Mo_laysAll_111 : decode b_Mo_laysAll 111 = .ok (.goto (-44), 3) := by decide +kernel
theorem d_Mo_laysAll_114 : decode b_Mo_laysAll 114 = .ok (.iload_n 3, 1) := by decide +kernel
theorem d_Mo_laysAll_115 : decode b_Mo_laysAll 115 = .ok (.ifCond .ne 16, 3) := by decide +kernel
theorem d_Mo_laysAll_118 : decode b_Mo_laysAll 118 = .ok (.aload_n 0, 1) := by decide +kernel
theorem d_Mo_laysAll_119 : decode b_Mo_laysAll 119 = .ok (.bipush 14, 2) := by decide +kernel
theorem d_Mo_laysAll_121 : decode b_Mo_laysAll 121 = .ok (.iconst 0, 1) := by decide +kernel
theorem d_Mo_laysAll_122 : decode b_Mo_laysAll 122 = .ok (.iconst (-1), 1) := by decide +kernel
theorem d_Mo_laysAll_123 : decode b_Mo_laysAll 123 = .ok (.invokevirtual 200, 3) := by decide +kernel
theorem d_Mo_laysAll_126 : decode b_Mo_laysAll 126 = .ok (.iconst 1, 1) := by decide +kernel
theorem d_Mo_laysAll_127 : decode b_Mo_laysAll 127 = .ok (.istore_n 3, 1) := by decide +kernel
theorem d_Mo_laysAll_128 : decode b_Mo_laysAll 128 = .ok (.goto (-61), 3) := by decide +kernel
theorem d_Mo_laysAll_131 : decode b_Mo_laysAll 131 = .ok (.aload_n 0, 1) := by decide +kernel
theorem d_Mo_laysAll_132 : decode b_Mo_laysAll 132 = .ok (.aload_n 0, 1) := by decide +kernel
theorem d_Mo_laysAll_133 : decode b_Mo_laysAll 133 = .ok (.getfield 79, 3) := by decide +kernel
theorem d_Mo_laysAll_136 : decode b_Mo_laysAll 136 = .ok (.iload_n 2, 1) := by decide +kernel
theorem d_Mo_laysAll_137 : decode b_Mo_laysAll 137 = .ok (.iaload, 1) := by decide +kernel
theorem d_Mo_laysAll_138 : decode b_Mo_laysAll 138 = .ok (.invokevirtual 263, 3) := by decide +kernel
theorem d_Mo_laysAll_141 : decode b_Mo_laysAll 141 = .ok (.iinc 2 1, 3) := by decide +kernel
theorem d_Mo_laysAll_144 : decode b_Mo_laysAll 144 = .ok (.goto (-77), 3) := by decide +kernel
theorem d_Mo_laysAll_147 : decode b_Mo_laysAll 147 = .ok (.iinc 1 1, 3) := by decide +kernel
theorem d_Mo_laysAll_150 : decode b_Mo_laysAll 150 = .ok (.goto (-148), 3) := by decide +kernel
theorem d_Mo_laysAll_153 : decode b_Mo_laysAll 153 = .ok (.return_, 1) := by decide +kernel
theorem d_Mo_lay_0 : decode b_Mo_lay 0 = .ok (.aload_n 0, 1) := by decide +kernel
theorem d_Mo_lay_1 : decode b_Mo_lay 1 = .ok (.iconst 0, 1) := by decide +kernel
theorem d_Mo_lay_2 : decode b_Mo_lay 2 = .ok (.putfield 125, 3) := by decide +kernel
theorem d_Mo_lay_5 : decode b_Mo_lay 5 = .ok (.aload_n 0, 1) := by decide +kernel
theorem d_Mo_lay_6 : decode b_Mo_lay 6 = .ok (.iload_n 1, 1) := by decide +kernel
theorem d_Mo_lay_7 : decode b_Mo_lay 7 = .ok (.putfield 156, 3) := by decide +kernel
theorem d_Mo_lay_10 : decode b_Mo_lay 10 = .ok (.aload_n 0, 1) := by decide +kernel
theorem d_Mo_lay_11 : decode b_Mo_lay 11 = .ok (.iconst 0, 1) := by decide +kernel
theorem d_Mo_lay_12 : decode b_Mo_lay 12 = .ok (.putfield 266, 3) := by decide +kernel
theorem d_Mo_lay_15 : decode b_Mo_lay 15 = .ok (.aload_n 0, 1) := by decide +kernel
theorem d_Mo_lay_16 : decode b_Mo_lay 16 = .ok (.iconst 0, 1) := by decide +kernel
theorem d_Mo_lay_17 : decode b_Mo_lay 17 = .ok (.putfield 167, 3) := by decide +kernel
theorem d_Mo_lay_20 : decode b_Mo_lay 20 = .ok (.aload_n 0, 1) := by decide +kernel
theorem d_Mo_lay_21 : decode b_Mo_lay 21 = .ok (.iconst 0, 1) := by decide +kernel
theorem d_Mo_lay_22 : decode b_Mo_lay 22 = .ok (.putfield 222, 3) := by decide +kernel
theorem d_Mo_lay_25 : decode b_Mo_lay 25 = .ok (.aload_n 0, 1) := by decide +kernel
theorem d_Mo_lay_26 : decode b_Mo_lay 26 = .ok (.iconst 0, 1) := by decide +kernel
theorem d_Mo_lay_27 : decode b_Mo_lay 27 = .ok (.putfield 164, 3) := by decide +kernel
theorem d_Mo_lay_30 : decode b_Mo_lay 30 = .ok (.aload_n 0, 1) := by decide +kernel
theorem d_Mo_lay_31 : decode b_Mo_lay 31 = .ok (.iconst 0, 1) := by decide +kernel
theorem d_Mo_lay_32 : decode b_Mo_lay 32 = .ok (.putfield 244, 3) := by decide +kernel
theorem d_Mo_lay_35 : decode b_Mo_lay 35 = .ok (.aload_n 0, 1) := by decide +kernel
theorem d_Mo_lay_36 : decode b_Mo_lay 36 = .ok (.iconst 0, 1) := by decide +kernel
theorem d_Mo_lay_37 : decode b_Mo_lay 37 = .ok (.putfield 170, 3) := by decide +kernel
theorem d_Mo_lay_40 : decode b_Mo_lay 40 = .ok (.aload_n 0, 1) := by decide +kernel
theorem d_Mo_lay_41 : decode b_Mo_lay 41 = .ok (.iconst (-1), 1) := by decide +kernel
theorem d_Mo_lay_42 : decode b_Mo_lay 42 = .ok (.putfield 241, 3) := by decide +kernel
theorem d_Mo_lay_45 : decode b_Mo_lay 45 = .ok (.aload_n 0, 1) := by decide +kernel
theorem d_Mo_lay_46 : decode b_Mo_lay 46 = .ok (.iconst 0, 1) := by decide +kernel
theorem d_Mo_lay_47 : decode b_Mo_lay 47 = .ok (.putfield 180, 3) := by decide +kernel
theorem d_Mo_lay_50 : decode b_Mo_lay 50 = .ok (.aload_n 0, 1) := by decide +kernel
theorem d_Mo_lay_51 : decode b_Mo_lay 51 = .ok (.iconst 0, 1) := by decide +kernel
theorem d_Mo_lay_52 : decode b_Mo_lay 52 = .ok (.putfield 238, 3) := by decide +kernel
theorem d_Mo_lay_55 : decode b_Mo_lay 55 = .ok (.aload_n 0, 1) := by decide +kernel
theorem d_Mo_lay_56 : decode b_Mo_lay 56 = .ok (.iconst 0, 1) := by decide +kernel
theorem d_Mo_lay_57 : decode b_Mo_lay 57 = .ok (.putfield 231, 3) := by decide +kernel
theorem d_Mo_lay_60 : decode b_Mo_lay 60 = .ok (.aload_n 0, 1) := by decide +kernel
theorem d_Mo_lay_61 : decode b_Mo_lay 61 = .ok (.invokevirtual 269, 3) := by decide +kernel
theorem d_Mo_lay_64 : decode b_Mo_lay 64 = .ok (.sipush 150, 3) := by decide +kernel
theorem d_Mo_lay_67 : decode b_Mo_lay 67 = .ok (.istore_n 2, 1) := by decide +kernel
theorem d_Mo_lay_68 : decode b_Mo_lay 68 = .ok (.iload_n 2, 1) := by decide +kernel
theorem d_Mo_lay_69 : decode b_Mo_lay 69 = .ok (.ifCond .lt 70, 3) := by decide +kernel
theorem d_Mo_lay_72 : decode b_Mo_lay 72 = .ok (.aload_n 0, 1) := by decide +kernel
theorem d_Mo_lay_73 : decode b_Mo_lay 73 = .ok (.getfield 167, 3) := by decide +kernel
theorem d_Mo_lay_76 : decode b_Mo_lay 76 = .ok (.ifCond .ne 63, 3) := by decide +kernel
theorem d_Mo_lay_79 : decode b_Mo_lay 79 = .ok (.aload_n 0, 1) := by decide +kernel
theorem d_Mo_lay_80 : decode b_Mo_lay 80 = .ok (.getfield 222, 3) := by decide +kernel
theorem d_Mo_lay_83 : decode b_Mo_lay 83 = .ok (.ifCond .ne 56, 3) := by decide +kernel
theorem d_Mo_lay_86 : decode b_Mo_lay 86 = .ok (.iconst 0, 1) := by decide +kernel
theorem d_Mo_lay_87 : decode b_Mo_lay 87 = .ok (.istore_n 3, 1) := by decide +kernel
theorem d_Mo_lay_88 : decode b_Mo_lay 88 = .ok (.iload_n 3, 1) := by decide +kernel
theorem d_Mo_lay_89 : decode b_Mo_lay 89 = .ok (.aload_n 0, 1) := by decide +kernel
theorem d_Mo_lay_90 : decode b_Mo_lay 90 = .ok (.getfield 180, 3) := by decide +kernel
theorem d_Mo_lay_93 : decode b_Mo_lay 93 = .ok (.if_icmp .ge 40, 3) := by decide +kernel
theorem d_Mo_lay_96 : decode b_Mo_lay 96 = .ok (.aload_n 0, 1) := by decide +kernel
theorem d_Mo_lay_97 : decode b_Mo_lay 97 = .ok (.getfield 7, 3) := by decide +kernel
theorem d_Mo_lay_100 : decode b_Mo_lay 100 = .ok (.aload_n 0, 1) := by decide +kernel
theorem d_Mo_lay_101 : decode b_Mo_lay 101 = .ok (.getfield 58, 3) := by decide +kernel
theorem d_Mo_lay_104 : decode b_Mo_lay 104 = .ok (.iload_n 3, 1) := by decide +kernel
theorem d_Mo_lay_105 : decode b_Mo_lay 105 = .ok (.iaload, 1) := by decide +kernel
theorem d_Mo_lay_106 : decode b_Mo_lay 106 = .ok (.iaload, 1) := by decide +kernel
theorem d_Mo_lay_107 : decode b_Mo_lay 107 = .ok (.bipush 18, 2) := by decide +kernel
theorem d_Mo_lay_109 : decode b_Mo_lay 109 = .ok (.if_icmp .ne 18, 3) := by decide +kernel
theorem d_Mo_lay_112 : decode b_Mo_lay 112 = .ok (.aload_n 0, 1) := by decide +kernel
theorem d_Mo_lay_113 : decode b_Mo_lay 113 = .ok (.getfield 64, 3) := by decide +kernel
theorem d_Mo_lay_116 : decode b_Mo_lay 116 = .ok (.iload_n 3, 1) := by decide +kernel
theorem d_Mo_lay_117 : decode b_Mo_lay 117 = .ok (.iaload, 1) := by decide +kernel
theorem d_Mo_lay_118 : decode b_Mo_lay 118 = .ok (.iload_n 2, 1) := by decide +kernel
theorem d_Mo_lay_119 : decode b_Mo_lay 119 = .ok (.if_icmp .ne 8, 3) := by decide +kernel
theorem d_Mo_lay_122 : decode b_Mo_lay 122 = .ok (.aload_n 0, 1) := by decide +kernel
theorem d_Mo_lay_123 : decode b_Mo_lay 123 = .ok (.iload_n 3, 1) := by decide +kernel
theorem d_Mo_lay_124 : decode b_Mo_lay 124 = .ok (.invokevirtual 272, 3) := by decide +kernel
theorem d_Mo_lay_127 : decode b_Mo_lay 127 = .ok (.iinc 3 1, 3) := by decide +kernel
theorem d_Mo_lay_130 : decode b_Mo_lay 130 = .ok (.goto (-42), 3) := by decide +kernel
theorem d_Mo_lay_133 : decode b_Mo_lay 133 = .ok (.iinc 2 (-1), 3) := by decide +kernel
theorem d_Mo_lay_136 : decode b_Mo_lay 136 = .ok (.goto (-68), 3) := by decide +kernel
theorem d_Mo_lay_139 : decode b_Mo_lay 139 = .ok (.aload_n 0, 1) := by decide +kernel
theorem d_Mo_lay_140 : decode b_Mo_lay 140 = .ok (.aload_n 0, 1) := by decide +kernel
theorem d_Mo_lay_141 : decode b_Mo_lay 141 = .ok (.getfield 167, 3) := by decide +kernel
theorem d_Mo_lay_144 : decode b_Mo_lay 144 = .ok (.ifCond .ne 14, 3) := by decide +kernel
theorem d_Mo_lay_147 : decode b_Mo_lay 147 = .ok (.aload_n 0, 1) := by decide +kernel
theorem d_Mo_lay_148 : decode b_Mo_lay 148 = .ok (.getfield 222, 3) := by decide +kernel
theorem d_Mo_lay_151 : decode b_Mo_lay 151 = .ok (.ifCond .ne 7, 3) := by decide +kernel
theorem d_Mo_lay_154 : decode b_Mo_lay 154 = .ok (.iconst 1, 1) := by decide +kernel
theorem d_Mo_lay_155 : decode b_Mo_lay 155 = .ok (.goto 4, 3) := by decide +kernel
theorem d_Mo_lay_158 : decode b_Mo_lay 158 = .ok (.iconst 0, 1) := by decide +kernel
theorem d_Mo_lay_159 : decode b_Mo_lay 159 = .ok (.putfield 266, 3) := by decide +kernel
theorem d_Mo_lay_162 : decode b_Mo_lay 162 = .ok (.aload_n 0, 1) := by decide +kernel
theorem d_Mo_lay_163 : decode b_Mo_lay 163 = .ok (.getfield 222, 3) := by decide +kernel
theorem d_Mo_lay_166 : decode b_Mo_lay 166 = .ok (.ifCond .eq 8, 3) := by decide +kernel
theorem d_Mo_lay_169 : decode b_Mo_lay 169 = .ok (.bipush (-3), 2) := by decide +kernel
theorem d_Mo_lay_171 : decode b_Mo_lay 171 = .ok (.goto 19, 3) := by decide +kernel
theorem d_Mo_lay_174 : decode b_Mo_lay 174 = .ok (.aload_n 0, 1) := by decide +kernel
theorem d_Mo_lay_175 : decode b_Mo_lay 175 = .ok (.getfield 167, 3) := by decide +kernel
theorem d_Mo_lay_178 : decode b_Mo_lay 178 = .ok (.ifCond .eq 8, 3) := by decide +kernel
theorem d_Mo_lay_181 : decode b_Mo_lay 181 = .ok (.bipush (-2), 2) := by decide +kernel
theorem d_Mo_lay_183 : decode b_Mo_lay 183 = .ok (.goto 7, 3) := by decide +kernel
theorem d_Mo_lay_186 : decode b_Mo_lay 186 = .ok (.aload_n 0, 1) := by decide +kernel
theorem d_Mo_lay_187 : decode b_Mo_lay 187 = .ok (.getfield 164, 3) := by decide +kernel
theorem d_Mo_lay_190 : decode b_Mo_lay 190 = .ok (.ireturn, 1) := by decide +kernel
theorem d_Mo_laid_0 : decode b_Mo_laid 0 = .ok (.aload_n 0, 1) := by decide +kernel
theorem d_Mo_laid_1 : decode b_Mo_laid 1 = .ok (.iconst 0, 1) := by decide +kernel
theorem d_Mo_laid_2 : decode b_Mo_laid 2 = .ok (.putfield 125, 3) := by decide +kernel
theorem d_Mo_laid_5 : decode b_Mo_laid 5 = .ok (.aload_n 0, 1) := by decide +kernel
theorem d_Mo_laid_6 : decode b_Mo_laid 6 = .ok (.getfield 266, 3) := by decide +kernel
theorem d_Mo_laid_9 : decode b_Mo_laid 9 = .ok (.ifCond .ne 5, 3) := by decide +kernel
theorem d_Mo_laid_12 : decode b_Mo_laid 12 = .ok (.iconst (-1), 1) := by decide +kernel
theorem d_Mo_laid_13 : decode b_Mo_laid 13 = .ok (.ireturn, 1) := by decide +kernel
theorem d_Mo_laid_14 : decode b_Mo_laid 14 = .ok (.iload_n 1, 1) := by decide +kernel
theorem d_Mo_laid_15 : decode b_Mo_laid 15 = .ok (.tableswitch 49 0 3 #[29, 34, 39, 44], 29) := by decide +kernel
theorem d_Mo_laid_44 : decode b_Mo_laid 44 = .ok (.aload_n 0, 1) := by decide +kernel
theorem d_Mo_laid_45 : decode b_Mo_laid 45 = .ok (.getfield 164, 3) := by decide +kernel
theorem d_Mo_laid_48 : decode b_Mo_laid 48 = .ok (.ireturn, 1) := by decide +kernel
theorem d_Mo_laid_49 : decode b_Mo_laid 49 = .ok (.aload_n 0, 1) := by decide +kernel
theorem d_Mo_laid_50 : decode b_Mo_laid 50 = .ok (.getfield 244, 3) := by decide +kernel
theorem d_Mo_laid_53 : decode b_Mo_laid 53 = .ok (.ireturn, 1) := by decide +kernel
theorem d_Mo_laid_54 : decode b_Mo_laid 54 = .ok (.aload_n 0, 1) := by decide +kernel
theorem d_Mo_laid_55 : decode b_Mo_laid 55 = .ok (.getfield 170, 3) := by decide +kernel
theorem d_Mo_laid_58 : decode b_Mo_laid 58 = .ok (.ireturn, 1) := by decide +kernel
theorem d_Mo_laid_59 : decode b_Mo_laid 59 = .ok (.aload_n 0, 1) := by decide +kernel
theorem d_Mo_laid_60 : decode b_Mo_laid 60 = .ok (.getfield 241, 3) := by decide +kernel
theorem d_Mo_laid_63 : decode b_Mo_laid 63 = .ok (.ireturn, 1) := by decide +kernel
theorem d_Mo_laid_64 : decode b_Mo_laid 64 = .ok (.iconst (-1), 1) := by decide +kernel
theorem d_Mo_laid_65 : decode b_Mo_laid 65 = .ok (.ireturn, 1) := by decide +kernel
theorem d_Mo_instruction_0 : decode b_Mo_instruction 0 = .ok (.aload_n 0, 1) := by decide +kernel
theorem d_Mo_instruction_1 : decode b_Mo_instruction 1 = .ok (.aload_n 0, 1) := by decide +kernel
theorem d_Mo_instruction_2 : decode b_Mo_instruction 2 = .ok (.getfield 266, 3) := by decide +kernel
theorem d_Mo_instruction_5 : decode b_Mo_instruction 5 = .ok (.ifCond .eq 15, 3) := by decide +kernel
theorem d_Mo_instruction_8 : decode b_Mo_instruction 8 = .ok (.iload_n 1, 1) := by decide +kernel
theorem d_Mo_instruction_9 : decode b_Mo_instruction 9 = .ok (.ifCond .lt 11, 3) := by decide +kernel
theorem d_Mo_instruction_12 : decode b_Mo_instruction 12 = .ok (.iload_n 1, 1) := by decide +kernel
theorem d_Mo_instruction_13 : decode b_Mo_instruction 13 = .ok (.aload_n 0, 1) := by decide +kernel
theorem d_Mo_instruction_14 : decode b_Mo_instruction 14 = .ok (.getfield 164, 3) := by decide +kernel
theorem d_Mo_instruction_17 : decode b_Mo_instruction 17 = .ok (.if_icmp .lt 7, 3) := by decide +kernel
theorem d_Mo_instruction_20 : decode b_Mo_instruction 20 = .ok (.iconst 1, 1) := by decide +kernel
theorem d_Mo_instruction_21 : decode b_Mo_instruction 21 = .ok (.goto 17, 3) := by decide +kernel
theorem d_Mo_instruction_24 : decode b_Mo_instruction 24 = .ok (.iload_n 2, 1) := by decide +kernel
theorem d_Mo_instruction_25 : decode b_Mo_instruction 25 = .ok (.ifCond .lt 8, 3) := by decide +kernel
theorem d_Mo_instruction_28 : decode b_Mo_instruction 28 = .ok (.iload_n 2, 1) := by decide +kernel
theorem d_Mo_instruction_29 : decode b_Mo_instruction 29 = .ok (.iconst 1, 1) := by decide +kernel
theorem d_Mo_instruction_30 : decode b_Mo_instruction 30 = .ok (.if_icmp .le 7, 3) := by decide +kernel
theorem d_Mo_instruction_33 : decode b_Mo_instruction 33 = .ok (.iconst 2, 1) := by decide +kernel
theorem d_Mo_instruction_34 : decode b_Mo_instruction 34 = .ok (.goto 4, 3) := by decide +kernel
theorem d_Mo_instruction_37 : decode b_Mo_instruction 37 = .ok (.iconst 0, 1) := by decide +kernel
theorem d_Mo_instruction_38 : decode b_Mo_instruction 38 = .ok (.putfield 125, 3) := by decide +kernel
theorem d_Mo_instruction_41 : decode b_Mo_instruction 41 = .ok (.aload_n 0, 1) := by decide +kernel
theorem d_Mo_instruction_42 : decode b_Mo_instruction 42 = .ok (.getfield 125, 3) := by decide +kernel
theorem d_Mo_instruction_45 : decode b_Mo_instruction 45 = .ok (.ifCond .eq 7, 3) := by decide +kernel
theorem d_Mo_instruction_48 : decode b_Mo_instruction 48 = .ok (.iconst 0, 1) := by decide +kernel
theorem d_Mo_instruction_49 : decode b_Mo_instruction 49 = .ok (.goto 22, 3) := by decide +kernel
theorem d_Mo_instruction_52 : decode b_Mo_instruction 52 = .ok (.iload_n 2, 1) := by decide +kernel
theorem d_Mo_instruction_53 : decode b_Mo_instruction 53 = .ok (.ifCond .ne 12, 3) := by decide +kernel
theorem d_Mo_instruction_56 : decode b_Mo_instruction 56 = .ok (.aload_n 0, 1) := by decide +kernel
theorem d_Mo_instruction_57 : decode b_Mo_instruction 57 = .ok (.getfield 31, 3) := by decide +kernel
theorem d_Mo_instruction_60 : decode b_Mo_instruction 60 = .ok (.iload_n 1, 1) := by decide +kernel
theorem d_Mo_instruction_61 : decode b_Mo_instruction 61 = .ok (.iaload, 1) := by decide +kernel
theorem d_Mo_instruction_62 : decode b_Mo_instruction 62 = .ok (.goto 9, 3) := by decide +kernel
theorem d_Mo_instruction_65 : decode b_Mo_instruction 65 = .ok (.aload_n 0, 1) := by decide +kernel
theorem d_Mo_instruction_66 : decode b_Mo_instruction 66 = .ok (.getfield 34, 3) := by decide +kernel
theorem d_Mo_instruction_69 : decode b_Mo_instruction 69 = .ok (.iload_n 1, 1) := by decide +kernel
theorem d_Mo_instruction_70 : decode b_Mo_instruction 70 = .ok (.iaload, 1) := by decide +kernel
theorem d_Mo_instruction_71 : decode b_Mo_instruction 71 = .ok (.ireturn, 1) := by decide +kernel
theorem d_Mo_entry_0 : decode b_Mo_entry 0 = .ok (.aload_n 0, 1) := by decide +kernel
theorem d_Mo_entry_1 : decode b_Mo_entry 1 = .ok (.iconst 0, 1) := by decide +kernel
theorem d_Mo_entry_2 : decode b_Mo_entry 2 = .ok (.putfield 125, 3) := by decide +kernel
theorem d_Mo_entry_5 : decode b_Mo_entry 5 = .ok (.aload_n 0, 1) := by decide +kernel
theorem d_Mo_entry_6 : decode b_Mo_entry 6 = .ok (.getfield 266, 3) := by decide +kernel
theorem d_Mo_entry_9 : decode b_Mo_entry 9 = .ok (.ifCond .eq 22, 3) := by decide +kernel
theorem d_Mo_entry_12 : decode b_Mo_entry 12 = .ok (.iload_n 1, 1) := by decide +kernel
theorem d_Mo_entry_13 : decode b_Mo_entry 13 = .ok (.ifCond .lt 18, 3) := by decide +kernel
theorem d_Mo_entry_16 : decode b_Mo_entry 16 = .ok (.iload_n 1, 1) := by decide +kernel
theorem d_Mo_entry_17 : decode b_Mo_entry 17 = .ok (.bipush 6, 2) := by decide +kernel
theorem d_Mo_entry_19 : decode b_Mo_entry 19 = .ok (.if_icmp .ge 12, 3) := by decide +kernel
theorem d_Mo_entry_22 : decode b_Mo_entry 22 = .ok (.aload_n 0, 1) := by decide +kernel
theorem d_Mo_entry_23 : decode b_Mo_entry 23 = .ok (.getfield 55, 3) := by decide +kernel
theorem d_Mo_entry_26 : decode b_Mo_entry 26 = .ok (.iload_n 1, 1) := by decide +kernel
theorem d_Mo_entry_27 : decode b_Mo_entry 27 = .ok (.iaload, 1) := by decide +kernel
theorem d_Mo_entry_28 : decode b_Mo_entry 28 = .ok (.goto 4, 3) := by decide +kernel
theorem d_Mo_entry_31 : decode b_Mo_entry 31 = .ok (.iconst (-1), 1) := by decide +kernel
theorem d_Mo_entry_32 : decode b_Mo_entry 32 = .ok (.ireturn, 1) := by decide +kernel
theorem d_Mo_row_II_0 : decode b_Mo_row_II 0 = .ok (.aload_n 0, 1) := by decide +kernel
theorem d_Mo_row_II_1 : decode b_Mo_row_II 1 = .ok (.aload_n 0, 1) := by decide +kernel
theorem d_Mo_row_II_2 : decode b_Mo_row_II 2 = .ok (.getfield 266, 3) := by decide +kernel
theorem d_Mo_row_II_5 : decode b_Mo_row_II 5 = .ok (.ifCond .eq 15, 3) := by decide +kernel
theorem d_Mo_row_II_8 : decode b_Mo_row_II 8 = .ok (.iload_n 1, 1) := by decide +kernel
theorem d_Mo_row_II_9 : decode b_Mo_row_II 9 = .ok (.ifCond .lt 11, 3) := by decide +kernel
theorem d_Mo_row_II_12 : decode b_Mo_row_II 12 = .ok (.iload_n 1, 1) := by decide +kernel
theorem d_Mo_row_II_13 : decode b_Mo_row_II 13 = .ok (.aload_n 0, 1) := by decide +kernel
theorem d_Mo_row_II_14 : decode b_Mo_row_II 14 = .ok (.getfield 244, 3) := by decide +kernel
theorem d_Mo_row_II_17 : decode b_Mo_row_II 17 = .ok (.if_icmp .lt 7, 3) := by decide +kernel
theorem d_Mo_row_II_20 : decode b_Mo_row_II 20 = .ok (.iconst 1, 1) := by decide +kernel
theorem d_Mo_row_II_21 : decode b_Mo_row_II 21 = .ok (.goto 17, 3) := by decide +kernel
theorem d_Mo_row_II_24 : decode b_Mo_row_II 24 = .ok (.iload_n 2, 1) := by decide +kernel
theorem d_Mo_row_II_25 : decode b_Mo_row_II 25 = .ok (.ifCond .lt 8, 3) := by decide +kernel
theorem d_Mo_row_II_28 : decode b_Mo_row_II 28 = .ok (.iload_n 2, 1) := by decide +kernel
theorem d_Mo_row_II_29 : decode b_Mo_row_II 29 = .ok (.iconst 4, 1) := by decide +kernel
theorem d_Mo_row_II_30 : decode b_Mo_row_II 30 = .ok (.if_icmp .le 7, 3) := by decide +kernel
theorem d_Mo_row_II_33 : decode b_Mo_row_II 33 = .ok (.iconst 2, 1) := by decide +kernel
theorem d_Mo_row_II_34 : decode b_Mo_row_II 34 = .ok (.goto 4, 3) := by decide +kernel
theorem d_Mo_row_II_37 : decode b_Mo_row_II 37 = .ok (.iconst 0, 1) := by decide +kernel
theorem d_Mo_row_II_38 : decode b_Mo_row_II 38 = .ok (.putfield 125, 3) := by decide +kernel
theorem d_Mo_row_II_41 : decode b_Mo_row_II 41 = .ok (.aload_n 0, 1) := by decide +kernel
theorem d_Mo_row_II_42 : decode b_Mo_row_II 42 = .ok (.getfield 125, 3) := by decide +kernel
theorem d_Mo_row_II_45 : decode b_Mo_row_II 45 = .ok (.ifCond .eq 5, 3) := by decide +kernel
theorem d_Mo_row_II_48 : decode b_Mo_row_II 48 = .ok (.iconst 0, 1) := by decide +kernel
theorem d_Mo_row_II_49 : decode b_Mo_row_II 49 = .ok (.ireturn, 1) := by decide +kernel
theorem d_Mo_row_II_50 : decode b_Mo_row_II 50 = .ok (.iload_n 2, 1) := by decide +kernel
theorem d_Mo_row_II_51 : decode b_Mo_row_II 51 = .ok (.ifCond .ne 12, 3) := by decide +kernel
theorem d_Mo_row_II_54 : decode b_Mo_row_II 54 = .ok (.aload_n 0, 1) := by decide +kernel
theorem d_Mo_row_II_55 : decode b_Mo_row_II 55 = .ok (.getfield 40, 3) := by decide +kernel
theorem d_Mo_row_II_58 : decode b_Mo_row_II 58 = .ok (.iload_n 1, 1) := by decide +kernel
theorem d_Mo_row_II_59 : decode b_Mo_row_II 59 = .ok (.iaload, 1) := by decide +kernel
theorem d_Mo_row_II_60 : decode b_Mo_row_II 60 = .ok (.goto 51, 3) := by decide +kernel
theorem d_Mo_row_II_63 : decode b_Mo_row_II 63 = .ok (.iload_n 2, 1) := by decide +kernel
theorem d_Mo_row_II_64 : decode b_Mo_row_II 64 = .ok (.iconst 1, 1) := by decide +kernel
theorem d_Mo_row_II_65 : decode b_Mo_row_II 65 = .ok (.if_icmp .ne 12, 3) := by decide +kernel
theorem d_Mo_row_II_68 : decode b_Mo_row_II 68 = .ok (.aload_n 0, 1) := by decide +kernel
theorem d_Mo_row_II_69 : decode b_Mo_row_II 69 = .ok (.getfield 43, 3) := by decide +kernel
theorem d_Mo_row_II_72 : decode b_Mo_row_II 72 = .ok (.iload_n 1, 1) := by decide +kernel
theorem d_Mo_row_II_73 : decode b_Mo_row_II 73 = .ok (.iaload, 1) := by decide +kernel
theorem d_Mo_row_II_74 : decode b_Mo_row_II 74 = .ok (.goto 37, 3) := by decide +kernel
theorem d_Mo_row_II_77 : decode b_Mo_row_II 77 = .ok (.iload_n 2, 1) := by decide +kernel
theorem d_Mo_row_II_78 : decode b_Mo_row_II 78 = .ok (.iconst 2, 1) := by decide +kernel
theorem d_Mo_row_II_79 : decode b_Mo_row_II 79 = .ok (.if_icmp .ne 12, 3) := by decide +kernel
theorem d_Mo_row_II_82 : decode b_Mo_row_II 82 = .ok (.aload_n 0, 1) := by decide +kernel
theorem d_Mo_row_II_83 : decode b_Mo_row_II 83 = .ok (.getfield 46, 3) := by decide +kernel
theorem d_Mo_row_II_86 : decode b_Mo_row_II 86 = .ok (.iload_n 1, 1) := by decide +kernel
theorem d_Mo_row_II_87 : decode b_Mo_row_II 87 = .ok (.iaload, 1) := by decide +kernel
theorem d_Mo_row_II_88 : decode b_Mo_row_II 88 = .ok (.goto 23, 3) := by decide +kernel
theorem d_Mo_row_II_91 : decode b_Mo_row_II 91 = .ok (.iload_n 2, 1) := by decide +kernel
theorem d_Mo_row_II_92 : decode b_Mo_row_II 92 = .ok (.iconst 3, 1) := by decide +kernel
theorem d_Mo_row_II_93 : decode b_Mo_row_II 93 = .ok (.if_icmp .ne 12, 3) := by decide +kernel
theorem d_Mo_row_II_96 : decode b_Mo_row_II 96 = .ok (.aload_n 0, 1) := by decide +kernel
theorem d_Mo_row_II_97 : decode b_Mo_row_II 97 = .ok (.getfield 49, 3) := by decide +kernel
theorem d_Mo_row_II_100 : decode b_Mo_row_II 100 = .ok (.iload_n 1, 1) := by decide +kernel
theorem d_Mo_row_II_101 : decode b_Mo_row_II 101 = .ok (.iaload, 1) := by decide +kernel
theorem d_Mo_row_II_102 : decode b_Mo_row_II 102 = .ok (.goto 9, 3) := by decide +kernel
theorem d_Mo_row_II_105 : decode b_Mo_row_II 105 = .ok (.aload_n 0, 1) := by decide +kernel
theorem d_Mo_row_II_106 : decode b_Mo_row_II 106 = .ok (.getfield 52, 3) := by decide +kernel
theorem d_Mo_row_II_109 : decode b_Mo_row_II 109 = .ok (.iload_n 1, 1) := by decide +kernel
theorem d_Mo_row_II_110 : decode b_Mo_row_II 110 = .ok (.iaload, 1) := by decide +kernel
theorem d_Mo_row_II_111 : decode b_Mo_row_II 111 = .ok (.ireturn, 1) := by decide +kernel
theorem d_Mo_push_0 : decode b_Mo_push 0 = .ok (.aload_n 0, 1) := by decide +kernel
theorem d_Mo_push_1 : decode b_Mo_push 1 = .ok (.getfield 119, 3) := by decide +kernel
theorem d_Mo_push_4 : decode b_Mo_push 4 = .ok (.sipush 200, 3) := by decide +kernel
theorem d_Mo_push_7 : decode b_Mo_push 7 = .ok (.aload_n 0, 1) := by decide +kernel
theorem d_Mo_push_8 : decode b_Mo_push 8 = .ok (.getfield 275, 3) := by decide +kernel
theorem d_Mo_push_11 : decode b_Mo_push 11 = .ok (.iconst 1, 1) := by decide +kernel
theorem d_Mo_push_12 : decode b_Mo_push 12 = .ok (.isub, 1) := by decide +kernel
theorem d_Mo_push_13 : decode b_Mo_push 13 = .ok (.imul, 1) := by decide +kernel
theorem d_Mo_push_14 : decode b_Mo_push 14 = .ok (.aload_n 0, 1) := by decide +kernel
theorem d_Mo_push_15 : decode b_Mo_push 15 = .ok (.getfield 116, 3) := by decide +kernel
theorem d_Mo_push_18 : decode b_Mo_push 18 = .ok (.aload_n 0, 1) := by decide +kernel
theorem d_Mo_push_19 : decode b_Mo_push 19 = .ok (.getfield 275, 3) := by decide +kernel
theorem d_Mo_push_22 : decode b_Mo_push 22 = .ok (.iconst 1, 1) := by decide +kernel
theorem d_Mo_push_23 : decode b_Mo_push 23 = .ok (.isub, 1) := by decide +kernel
theorem d_Mo_push_24 : decode b_Mo_push 24 = .ok (.iaload, 1) := by decide +kernel
theorem d_Mo_push_25 : decode b_Mo_push 25 = .ok (.iadd, 1) := by decide +kernel
theorem d_Mo_push_26 : decode b_Mo_push 26 = .ok (.iload_n 1, 1) := by decide +kernel
theorem d_Mo_push_27 : decode b_Mo_push 27 = .ok (.iastore, 1) := by decide +kernel
theorem d_Mo_push_28 : decode b_Mo_push 28 = .ok (.aload_n 0, 1) := by decide +kernel
theorem d_Mo_push_29 : decode b_Mo_push 29 = .ok (.getfield 116, 3) := by decide +kernel
theorem d_Mo_push_32 : decode b_Mo_push 32 = .ok (.aload_n 0, 1) := by decide +kernel
theorem d_Mo_push_33 : decode b_Mo_push 33 = .ok (.getfield 275, 3) := by decide +kernel
theorem d_Mo_push_36 : decode b_Mo_push 36 = .ok (.iconst 1, 1) := by decide +kernel
theorem d_Mo_push_37 : decode b_Mo_push 37 = .ok (.isub, 1) := by decide +kernel
theorem d_Mo_push_38 : decode b_Mo_push 38 = .ok (.dup2, 1) := by decide +kernel
theorem d_Mo_push_39 : decode b_Mo_push 39 = .ok (.iaload, 1) := by decide +kernel
theorem d_Mo_push_40 : decode b_Mo_push 40 = .ok (.iconst 1, 1) := by decide +kernel
theorem d_Mo_push_41 : decode b_Mo_push 41 = .ok (.iadd, 1) := by decide +kernel
theorem d_Mo_push_42 : decode b_Mo_push 42 = .ok (.iastore, 1) := by decide +kernel
theorem d_Mo_push_43 : decode b_Mo_push 43 = .ok (.return_, 1) := by decide +kernel
theorem d_Mo_pop_0 : decode b_Mo_pop 0 = .ok (.aload_n 0, 1) := by decide +kernel
theorem d_Mo_pop_1 : decode b_Mo_pop 1 = .ok (.getfield 116, 3) := by decide +kernel
theorem d_Mo_pop_4 : decode b_Mo_pop 4 = .ok (.aload_n 0, 1) := by decide +kernel
theorem d_Mo_pop_5 : decode b_Mo_pop 5 = .ok (.getfield 275, 3) := by decide +kernel
theorem d_Mo_pop_8 : decode b_Mo_pop 8 = .ok (.iconst 1, 1) := by decide +kernel
theorem d_Mo_pop_9 : decode b_Mo_pop 9 = .ok (.isub, 1) := by decide +kernel
theorem d_Mo_pop_10 : decode b_Mo_pop 10 = .ok (.dup2, 1) := by decide +kernel
theorem d_Mo_pop_11 : decode b_Mo_pop 11 = .ok (.iaload, 1) := by decide +kernel
theorem d_Mo_pop_12 : decode b_Mo_pop 12 = .ok (.iconst 1, 1) := by decide +kernel
theorem d_Mo_pop_13 : decode b_Mo_pop 13 = .ok (.isub, 1) := by decide +kernel
theorem d_Mo_pop_14 : decode b_Mo_pop 14 = .ok (.iastore, 1) := by decide +kernel
theorem d_Mo_pop_15 : decode b_Mo_pop 15 = .ok (.aload_n 0, 1) := by decide +kernel
theorem d_Mo_pop_16 : decode b_Mo_pop 16 = .ok (.getfield 119, 3) := by decide +kernel
theorem d_Mo_pop_19 : decode b_Mo_pop 19 = .ok (.sipush 200, 3) := by decide +kernel
theorem d_Mo_pop_22 : decode b_Mo_pop 22 = .ok (.aload_n 0, 1) := by decide +kernel
theorem d_Mo_pop_23 : decode b_Mo_pop 23 = .ok (.getfield 275, 3) := by decide +kernel
theorem d_Mo_pop_26 : decode b_Mo_pop 26 = .ok (.iconst 1, 1) := by decide +kernel
theorem d_Mo_pop_27 : decode b_Mo_pop 27 = .ok (.isub, 1) := by decide +kernel
theorem d_Mo_pop_28 : decode b_Mo_pop 28 = .ok (.imul, 1) := by decide +kernel
theorem d_Mo_pop_29 : decode b_Mo_pop 29 = .ok (.aload_n 0, 1) := by decide +kernel
theorem d_Mo_pop_30 : decode b_Mo_pop 30 = .ok (.getfield 116, 3) := by decide +kernel
theorem d_Mo_pop_33 : decode b_Mo_pop 33 = .ok (.aload_n 0, 1) := by decide +kernel
theorem d_Mo_pop_34 : decode b_Mo_pop 34 = .ok (.getfield 275, 3) := by decide +kernel
theorem d_Mo_pop_37 : decode b_Mo_pop 37 = .ok (.iconst 1, 1) := by decide +kernel
theorem d_Mo_pop_38 : decode b_Mo_pop 38 = .ok (.isub, 1) := by decide +kernel
theorem d_Mo_pop_39 : decode b_Mo_pop 39 = .ok (.iaload, 1) := by decide +kernel
theorem d_Mo_pop_40 : decode b_Mo_pop 40 = .ok (.iadd, 1) := by decide +kernel
theorem d_Mo_pop_41 : decode b_Mo_pop 41 = .ok (.iaload, 1) := by decide +kernel
theorem d_Mo_pop_42 : decode b_Mo_pop 42 = .ok (.ireturn, 1) := by decide +kernel
end
section
theorem d_Mo_throwing_0 : decode b_Mo_throwing 0 = .ok (.aload_n 0, 1) := by decide +kernel
theorem d_Mo_throwing_1 : decode b_Mo_throwing 1 = .ok (.dup, 1) := by decide +kernel
theorem d_Mo_throwing_2 : decode b_Mo_throwing 2 = .ok (.getfield 278, 3) := by decide +kernel
theorem d_Mo_throwing_5 : decode b_Mo_throwing 5 = .ok (.iconst 1, 1) := by decide +kernel
theorem d_Mo_throwing_6 : decode b_Mo_throwing 6 = .ok (.iadd, 1) := by decide +kernel
theorem d_Mo_throwing_7 : decode b_Mo_throwing 7 = .ok (.putfield 278, 3) := by decide +kernel
theorem d_Mo_throwing_10 : decode b_Mo_throwing 10 = .ok (.aload_n 0, 1) := by decide +kernel
theorem d_Mo_throwing_11 : decode b_Mo_throwing 11 = .ok (.getfield 275, 3) := by decide +kernel
theorem d_Mo_throwing_14 : decode b_Mo_throwing 14 = .ok (.ifCond .le 119, 3) := by decide +kernel
theorem d_Mo_throwing_17 : decode b_Mo_throwing 17 = .ok (.aload_n 0, 1) := by decide +kernel
theorem d_Mo_throwing_18 : decode b_Mo_throwing 18 = .ok (.getfield 113, 3) := by decide +kernel
theorem d_Mo_throwing_21 : decode b_Mo_throwing 21 = .ok (.aload_n 0, 1) := by decide +kernel
theorem d_Mo_throwing_22 : decode b_Mo_throwing 22 = .ok (.getfield 275, 3) := by decide +kernel
theorem d_Mo_throwing_25 : decode b_Mo_throwing 25 = .ok (.iconst 1, 1) := by decide +kernel
theorem d_Mo_throwing_26 : decode b_Mo_throwing 26 = .ok (.isub, 1) := by decide +kernel
theorem d_Mo_throwing_27 : decode b_Mo_throwing 27 = .ok (.iaload, 1) := by decide +kernel
theorem d_Mo_throwing_28 : decode b_Mo_throwing 28 = .ok (.istore_n 2, 1) := by decide +kernel
theorem d_Mo_throwing_29 : decode b_Mo_throwing 29 = .ok (.iconst 0, 1) := by decide +kernel
theorem d_Mo_throwing_30 : decode b_Mo_throwing 30 = .ok (.istore_n 3, 1) := by decide +kernel
theorem d_Mo_throwing_31 : decode b_Mo_throwing 31 = .ok (.iload_n 3, 1) := by decide +kernel
theorem d_Mo_throwing_32 : decode b_Mo_throwing 32 = .ok (.aload_n 0, 1) := by decide +kernel
theorem d_Mo_throwing_33 : decode b_Mo_throwing 33 = .ok (.getfield 244, 3) := by decide +kernel
theorem d_Mo_throwing_36 : decode b_Mo_throwing 36 = .ok (.if_icmp .ge 84, 3) := by decide +kernel
theorem d_Mo_throwing_39 : decode b_Mo_throwing 39 = .ok (.iload_n 2, 1) := by decide +kernel
theorem d_Mo_throwing_40 : decode b_Mo_throwing 40 = .ok (.aload_n 0, 1) := by decide +kernel
theorem d_Mo_throwing_41 : decode b_Mo_throwing 41 = .ok (.getfield 40, 3) := by decide +kernel
theorem d_Mo_throwing_44 : decode b_Mo_throwing 44 = .ok (.iload_n 3, 1) := by decide +kernel
theorem d_Mo_throwing_45 : decode b_Mo_throwing 45 = .ok (.iaload, 1) := by decide +kernel
theorem d_Mo_throwing_46 : decode b_Mo_throwing 46 = .ok (.if_icmp .lt 68, 3) := by decide +kernel
theorem d_Mo_throwing_49 : decode b_Mo_throwing 49 = .ok (.iload_n 2, 1) := by decide +kernel
theorem d_Mo_throwing_50 : decode b_Mo_throwing 50 = .ok (.aload_n 0, 1) := by decide +kernel
theorem d_Mo_throwing_51 : decode b_Mo_throwing 51 = .ok (.getfield 43, 3) := by decide +kernel
theorem d_Mo_throwing_54 : decode b_Mo_throwing 54 = .ok (.iload_n 3, 1) := by decide +kernel
theorem d_Mo_throwing_55 : decode b_Mo_throwing 55 = .ok (.iaload, 1) := by decide +kernel
theorem d_Mo_throwing_56 : decode b_Mo_throwing 56 = .ok (.if_icmp .ge 58, 3) := by decide +kernel
theorem d_Mo_throwing_59 : decode b_Mo_throwing 59 = .ok (.iload_n 1, 1) := by decide +kernel
theorem d_Mo_throwing_60 : decode b_Mo_throwing 60 = .ok (.aload_n 0, 1) := by decide +kernel
theorem d_Mo_throwing_61 : decode b_Mo_throwing 61 = .ok (.getfield 49, 3) := by decide +kernel
theorem d_Mo_throwing_64 : decode b_Mo_throwing 64 = .ok (.iload_n 3, 1) := by decide +kernel
theorem d_Mo_throwing_65 : decode b_Mo_throwing 65 = .ok (.iaload, 1) := by decide +kernel
theorem d_Mo_throwing_66 : decode b_Mo_throwing 66 = .ok (.if_icmp .lt 48, 3) := by decide +kernel
theorem d_Mo_throwing_69 : decode b_Mo_throwing 69 = .ok (.iload_n 1, 1) := by decide +kernel
theorem d_Mo_throwing_70 : decode b_Mo_throwing 70 = .ok (.aload_n 0, 1) := by decide +kernel
theorem d_Mo_throwing_71 : decode b_Mo_throwing 71 = .ok (.getfield 52, 3) := by decide +kernel
theorem d_Mo_throwing_74 : decode b_Mo_throwing 74 = .ok (.iload_n 3, 1) := by decide +kernel
theorem d_Mo_throwing_75 : decode b_Mo_throwing 75 = .ok (.iaload, 1) := by decide +kernel
theorem d_Mo_throwing_76 : decode b_Mo_throwing 76 = .ok (.if_icmp .gt 38, 3) := by decide +kernel
theorem d_Mo_throwing_79 : decode b_Mo_throwing 79 = .ok (.aload_n 0, 1) := by decide +kernel
theorem d_Mo_throwing_80 : decode b_Mo_throwing 80 = .ok (.getfield 116, 3) := by decide +kernel
theorem d_Mo_throwing_83 : decode b_Mo_throwing 83 = .ok (.aload_n 0, 1) := by decide +kernel
theorem d_Mo_throwing_84 : decode b_Mo_throwing 84 = .ok (.getfield 275, 3) := by decide +kernel
theorem d_Mo_throwing_87 : decode b_Mo_throwing 87 = .ok (.iconst 1, 1) := by decide +kernel
theorem d_Mo_throwing_88 : decode b_Mo_throwing 88 = .ok (.isub, 1) := by decide +kernel
theorem d_Mo_throwing_89 : decode b_Mo_throwing 89 = .ok (.iconst 0, 1) := by decide +kernel
theorem d_Mo_throwing_90 : decode b_Mo_throwing 90 = .ok (.iastore, 1) := by decide +kernel
theorem d_Mo_throwing_91 : decode b_Mo_throwing 91 = .ok (.aload_n 0, 1) := by decide +kernel
theorem d_Mo_throwing_92 : decode b_Mo_throwing 92 = .ok (.iload_n 1, 1) := by decide +kernel
theorem d_Mo_throwing_93 : decode b_Mo_throwing 93 = .ok (.invokevirtual 281, 3) := by decide +kernel
theorem d_Mo_throwing_96 : decode b_Mo_throwing 96 = .ok (.aload_n 0, 1) := by decide +kernel
theorem d_Mo_throwing_97 : decode b_Mo_throwing 97 = .ok (.getfield 113, 3) := by decide +kernel
theorem d_Mo_throwing_100 : decode b_Mo_throwing 100 = .ok (.aload_n 0, 1) := by decide +kernel
theorem d_Mo_throwing_101 : decode b_Mo_throwing 101 = .ok (.getfield 275, 3) := by decide +kernel
theorem d_Mo_throwing_104 : decode b_Mo_throwing 104 = .ok (.iconst 1, 1) := by decide +kernel
theorem d_Mo_throwing_105 : decode b_Mo_throwing 105 = .ok (.isub, 1) := by decide +kernel
theorem d_Mo_throwing_106 : decode b_Mo_throwing 106 = .ok (.aload_n 0, 1) := by decide +kernel
theorem d_Mo_throwing_107 : decode b_Mo_throwing 107 = .ok (.getfield 46, 3) := by decide +kernel
theorem d_Mo_throwing_110 : decode b_Mo_throwing 110 = .ok (.iload_n 3, 1) := by decide +kernel
theorem d_Mo_throwing_111 : decode b_Mo_throwing 111 = .ok (.iaload, 1) := by decide +kernel
theorem d_Mo_throwing_112 : decode b_Mo_throwing 112 = .ok (.iastore, 1) := by decide +kernel
theorem d_Mo_throwing_113 : decode b_Mo_throwing 113 = .ok (.return_, 1) := by decide +kernel
theorem d_Mo_throwing_114 : decode b_Mo_throwing 114 = .ok (.iinc 3 1, 3) := by decide +kernel
theorem d_Mo_throwing_117 : decode b_Mo_throwing 117 = .ok (.goto (-86), 3) := by decide +kernel
theorem d_Mo_throwing_120 : decode b_Mo_throwing 120 = .ok (.aload_n 0, 1) := by decide +kernel
theorem d_Mo_throwing_121 : decode b_Mo_throwing 121 = .ok (.dup, 1) := by decide +kernel
theorem d_Mo_throwing_122 : decode b_Mo_throwing 122 = .ok (.getfield 275, 3) := by decide +kernel
theorem d_Mo_throwing_125 : decode b_Mo_throwing 125 = .ok (.iconst 1, 1) := by decide +kernel
theorem d_Mo_throwing_126 : decode b_Mo_throwing 126 = .ok (.isub, 1) := by decide +kernel
theorem d_Mo_throwing_127 : decode b_Mo_throwing 127 = .ok (.putfield 275, 3) := by decide +kernel
theorem d_Mo_throwing_130 : decode b_Mo_throwing 130 = .ok (.goto (-120), 3) := by decide +kernel
theorem d_Mo_throwing_133 : decode b_Mo_throwing 133 = .ok (.aload_n 0, 1) := by decide +kernel
theorem d_Mo_throwing_134 : decode b_Mo_throwing 134 = .ok (.iconst 2, 1) := by decide +kernel
theorem d_Mo_throwing_135 : decode b_Mo_throwing 135 = .ok (.putfield 106, 3) := by decide +kernel
theorem d_Mo_throwing_138 : decode b_Mo_throwing 138 = .ok (.aload_n 0, 1) := by decide +kernel
theorem d_Mo_throwing_139 : decode b_Mo_throwing 139 = .ok (.iload_n 1, 1) := by decide +kernel
theorem d_Mo_throwing_140 : decode b_Mo_throwing 140 = .ok (.putfield 284, 3) := by decide +kernel
theorem d_Mo_throwing_143 : decode b_Mo_throwing 143 = .ok (.return_, 1) := by decide +kernel
theorem d_Mo_calls_0 : decode b_Mo_calls 0 = .ok (.aload_n 0, 1) := by decide +kernel
theorem d_Mo_calls_1 : decode b_Mo_calls 1 = .ok (.getfield 275, 3) := by decide +kernel
theorem d_Mo_calls_4 : decode b_Mo_calls 4 = .ok (.bipush 12, 2) := by decide +kernel
theorem d_Mo_calls_6 : decode b_Mo_calls 6 = .ok (.if_icmp .ne 9, 3) := by decide +kernel
theorem d_Mo_calls_9 : decode b_Mo_calls 9 = .ok (.aload_n 0, 1) := by decide +kernel
theorem d_Mo_calls_10 : decode b_Mo_calls 10 = .ok (.iconst 3, 1) := by decide +kernel
theorem d_Mo_calls_11 : decode b_Mo_calls 11 = .ok (.invokevirtual 291, 3) := by decide +kernel
theorem d_Mo_calls_14 : decode b_Mo_calls 14 = .ok (.return_, 1) := by decide +kernel
theorem d_Mo_calls_15 : decode b_Mo_calls 15 = .ok (.aload_n 0, 1) := by decide +kernel
theorem d_Mo_calls_16 : decode b_Mo_calls 16 = .ok (.getfield 113, 3) := by decide +kernel
theorem d_Mo_calls_19 : decode b_Mo_calls 19 = .ok (.aload_n 0, 1) := by decide +kernel
theorem d_Mo_calls_20 : decode b_Mo_calls 20 = .ok (.getfield 275, 3) := by decide +kernel
theorem d_Mo_calls_23 : decode b_Mo_calls 23 = .ok (.aload_n 0, 1) := by decide +kernel
theorem d_Mo_calls_24 : decode b_Mo_calls 24 = .ok (.getfield 55, 3) := by decide +kernel
theorem d_Mo_calls_27 : decode b_Mo_calls 27 = .ok (.iload_n 1, 1) := by decide +kernel
theorem d_Mo_calls_28 : decode b_Mo_calls 28 = .ok (.iaload, 1) := by decide +kernel
theorem d_Mo_calls_29 : decode b_Mo_calls 29 = .ok (.iastore, 1) := by decide +kernel
theorem d_Mo_calls_30 : decode b_Mo_calls 30 = .ok (.aload_n 0, 1) := by decide +kernel
theorem d_Mo_calls_31 : decode b_Mo_calls 31 = .ok (.getfield 116, 3) := by decide +kernel
theorem d_Mo_calls_34 : decode b_Mo_calls 34 = .ok (.aload_n 0, 1) := by decide +kernel
theorem d_Mo_calls_35 : decode b_Mo_calls 35 = .ok (.getfield 275, 3) := by decide +kernel
theorem d_Mo_calls_38 : decode b_Mo_calls 38 = .ok (.iconst 0, 1) := by decide +kernel
theorem d_Mo_calls_39 : decode b_Mo_calls 39 = .ok (.iastore, 1) := by decide +kernel
theorem d_Mo_calls_40 : decode b_Mo_calls 40 = .ok (.aload_n 0, 1) := by decide +kernel
theorem d_Mo_calls_41 : decode b_Mo_calls 41 = .ok (.dup, 1) := by decide +kernel
theorem d_Mo_calls_42 : decode b_Mo_calls 42 = .ok (.getfield 275, 3) := by decide +kernel
theorem d_Mo_calls_45 : decode b_Mo_calls 45 = .ok (.iconst 1, 1) := by decide +kernel
theorem d_Mo_calls_46 : decode b_Mo_calls 46 = .ok (.iadd, 1) := by decide +kernel
theorem d_Mo_calls_47 : decode b_Mo_calls 47 = .ok (.putfield 275, 3) := by decide +kernel
theorem d_Mo_calls_50 : decode b_Mo_calls 50 = .ok (.aload_n 0, 1) := by decide +kernel
theorem d_Mo_calls_51 : decode b_Mo_calls 51 = .ok (.aload_n 0, 1) := by decide +kernel
theorem d_Mo_calls_52 : decode b_Mo_calls 52 = .ok (.getfield 275, 3) := by decide +kernel
theorem d_Mo_calls_55 : decode b_Mo_calls 55 = .ok (.aload_n 0, 1) := by decide +kernel
theorem d_Mo_calls_56 : decode b_Mo_calls 56 = .ok (.getfield 298, 3) := by decide +kernel
theorem d_Mo_calls_59 : decode b_Mo_calls 59 = .ok (.if_icmp .le 10, 3) := by decide +kernel
theorem d_Mo_calls_62 : decode b_Mo_calls 62 = .ok (.aload_n 0, 1) := by decide +kernel
theorem d_Mo_calls_63 : decode b_Mo_calls 63 = .ok (.getfield 275, 3) := by decide +kernel
theorem d_Mo_calls_66 : decode b_Mo_calls 66 = .ok (.goto 7, 3) := by decide +kernel
theorem d_Mo_calls_69 : decode b_Mo_calls 69 = .ok (.aload_n 0, 1) := by decide +kernel
theorem d_Mo_calls_70 : decode b_Mo_calls 70 = .ok (.getfield 298, 3) := by decide +kernel
theorem d_Mo_calls_73 : decode b_Mo_calls 73 = .ok (.putfield 298, 3) := by decide +kernel
theorem d_Mo_calls_76 : decode b_Mo_calls 76 = .ok (.return_, 1) := by decide +kernel
theorem d_Mo_returns_0 : decode b_Mo_returns 0 = .ok (.aload_n 0, 1) := by decide +kernel
theorem d_Mo_returns_1 : decode b_Mo_returns 1 = .ok (.dup, 1) := by decide +kernel
theorem d_Mo_returns_2 : decode b_Mo_returns 2 = .ok (.getfield 275, 3) := by decide +kernel
theorem d_Mo_returns_5 : decode b_Mo_returns 5 = .ok (.iconst 1, 1) := by decide +kernel
theorem d_Mo_returns_6 : decode b_Mo_returns 6 = .ok (.isub, 1) := by decide +kernel
theorem d_Mo_returns_7 : decode b_Mo_returns 7 = .ok (.putfield 275, 3) := by decide +kernel
theorem d_Mo_returns_10 : decode b_Mo_returns 10 = .ok (.aload_n 0, 1) := by decide +kernel
theorem d_Mo_returns_11 : decode b_Mo_returns 11 = .ok (.getfield 275, 3) := by decide +kernel
theorem d_Mo_returns_14 : decode b_Mo_returns 14 = .ok (.ifCond .ne 11, 3) := by decide +kernel
theorem d_Mo_returns_17 : decode b_Mo_returns 17 = .ok (.aload_n 0, 1) := by decide +kernel
theorem d_Mo_returns_18 : decode b_Mo_returns 18 = .ok (.iconst 1, 1) := by decide +kernel
theorem d_Mo_returns_19 : decode b_Mo_returns 19 = .ok (.putfield 106, 3) := by decide +kernel
theorem d_Mo_returns_22 : decode b_Mo_returns 22 = .ok (.goto 18, 3) := by decide +kernel
theorem d_Mo_returns_25 : decode b_Mo_returns 25 = .ok (.aload_n 0, 1) := by decide +kernel
theorem d_Mo_returns_26 : decode b_Mo_returns 26 = .ok (.getfield 113, 3) := by decide +kernel
theorem d_Mo_returns_29 : decode b_Mo_returns 29 = .ok (.aload_n 0, 1) := by decide +kernel
theorem d_Mo_returns_30 : decode b_Mo_returns 30 = .ok (.getfield 275, 3) := by decide +kernel
theorem d_Mo_returns_33 : decode b_Mo_returns 33 = .ok (.iconst 1, 1) := by decide +kernel
theorem d_Mo_returns_34 : decode b_Mo_returns 34 = .ok (.isub, 1) := by decide +kernel
theorem d_Mo_returns_35 : decode b_Mo_returns 35 = .ok (.dup2, 1) := by decide +kernel
theorem d_Mo_returns_36 : decode b_Mo_returns 36 = .ok (.iaload, 1) := by decide +kernel
theorem d_Mo_returns_37 : decode b_Mo_returns 37 = .ok (.iconst 1, 1) := by decide +kernel
theorem d_Mo_returns_38 : decode b_Mo_returns 38 = .ok (.iadd, 1) := by decide +kernel
theorem d_Mo_returns_39 : decode b_Mo_returns 39 = .ok (.iastore, 1) := by decide +kernel
theorem d_Mo_returns_40 : decode b_Mo_returns 40 = .ok (.return_, 1) := by decide +kernel
theorem d_Mo_worked_0 : decode b_Mo_worked 0 = .ok (.iload_n 0, 1) := by decide +kernel
theorem d_Mo_worked_1 : decode b_Mo_worked 1 = .ok (.tableswitch 72 2 6 #[35, 39, 43, 47, 61], 35) := by decide +kernel
theorem d_Mo_worked_36 : decode b_Mo_worked 36 = .ok (.iload_n 1, 1) := by decide +kernel
theorem d_Mo_worked_37 : decode b_Mo_worked 37 = .ok (.iload_n 2, 1) := by decide +kernel
theorem d_Mo_worked_38 : decode b_Mo_worked 38 = .ok (.iadd, 1) := by decide +kernel
theorem d_Mo_worked_39 : decode b_Mo_worked 39 = .ok (.ireturn, 1) := by decide +kernel
theorem d_Mo_worked_40 : decode b_Mo_worked 40 = .ok (.iload_n 1, 1) := by decide +kernel
theorem d_Mo_worked_41 : decode b_Mo_worked 41 = .ok (.iload_n 2, 1) := by decide +kernel
theorem d_Mo_worked_42 : decode b_Mo_worked 42 = .ok (.isub, 1) := by decide +kernel
theorem d_Mo_worked_43 : decode b_Mo_worked 43 = .ok (.ireturn, 1) := by decide +kernel
theorem d_Mo_worked_44 : decode b_Mo_worked 44 = .ok (.iload_n 1, 1) := by decide +kernel
theorem d_Mo_worked_45 : decode b_Mo_worked 45 = .ok (.iload_n 2, 1) := by decide +kernel
theorem d_Mo_worked_46 : decode b_Mo_worked 46 = .ok (.imul, 1) := by decide +kernel
theorem d_Mo_worked_47 : decode b_Mo_worked 47 = .ok (.ireturn, 1) := by decide +kernel
theorem d_Mo_worked_48 : decode b_Mo_worked 48 = .ok (.iload_n 2, 1) := by decide +kernel
theorem d_Mo_worked_49 : decode b_Mo_worked 49 = .ok (.iconst (-1), 1) := by decide +kernel
theorem d_Mo_worked_50 : decode b_Mo_worked 50 = .ok (.if_icmp .ne 8, 3) := by decide +kernel
theorem d_Mo_worked_53 : decode b_Mo_worked 53 = .ok (.iload_n 1, 1) := by decide +kernel
theorem d_Mo_worked_54 : decode b_Mo_worked 54 = .ok (.ineg, 1) := by decide +kernel
theorem d_Mo_worked_55 : decode b_Mo_worked 55 = .ok (.goto 6, 3) := by decide +kernel
theorem d_Mo_worked_58 : decode b_Mo_worked 58 = .ok (.iload_n 1, 1) := by decide +kernel
theorem d_Mo_worked_59 : decode b_Mo_worked 59 = .ok (.iload_n 2, 1) := by decide +kernel
theorem d_Mo_worked_60 : decode b_Mo_worked 60 = .ok (.idiv, 1) := by decide +kernel
theorem d_Mo_worked_61 : decode b_Mo_worked 61 = .ok (.ireturn, 1) := by decide +kernel
theorem d_Mo_worked_62 : decode b_Mo_worked 62 = .ok (.iload_n 1, 1) := by decide +kernel
theorem d_Mo_worked_63 : decode b_Mo_worked 63 = .ok (.iload_n 2, 1) := by decide +kernel
theorem d_Mo_worked_64 : decode b_Mo_worked 64 = .ok (.if_icmp .ge 7, 3) := by decide +kernel
theorem d_Mo_worked_67 : decode b_Mo_worked 67 = .ok (.iconst 1, 1) := by decide +kernel
theorem d_Mo_worked_68 : decode b_Mo_worked 68 = .ok (.goto 4, 3) := by decide +kernel
theorem d_Mo_worked_71 : decode b_Mo_worked 71 = .ok (.iconst 0, 1) := by decide +kernel
theorem d_Mo_worked_72 : decode b_Mo_worked 72 = .ok (.ireturn, 1) := by decide +kernel
theorem d_Mo_worked_73 : decode b_Mo_worked 73 = .ok (.iload_n 1, 1) := by decide +kernel
theorem d_Mo_worked_74 : decode b_Mo_worked 74 = .ok (.iload_n 2, 1) := by decide +kernel
theorem d_Mo_worked_75 : decode b_Mo_worked 75 = .ok (.if_icmp .ne 7, 3) := by decide +kernel
theorem d_Mo_worked_78 : decode b_Mo_worked 78 = .ok (.iconst 1, 1) := by decide +kernel
theorem d_Mo_worked_79 : decode b_Mo_worked 79 = .ok (.goto 4, 3) := by decide +kernel
theorem d_Mo_worked_82 : decode b_Mo_worked 82 = .ok (.iconst 0, 1) := by decide +kernel
theorem d_Mo_worked_83 : decode b_Mo_worked 83 = .ok (.ireturn, 1) := by decide +kernel
theorem d_Mo_works_0 : decode b_Mo_works 0 = .ok (.aload_n 0, 1) := by decide +kernel
theorem d_Mo_works_1 : decode b_Mo_works 1 = .ok (.invokevirtual 287, 3) := by decide +kernel
theorem d_Mo_works_4 : decode b_Mo_works 4 = .ok (.istore_n 2, 1) := by decide +kernel
theorem d_Mo_works_5 : decode b_Mo_works 5 = .ok (.aload_n 0, 1) := by decide +kernel
theorem d_Mo_works_6 : decode b_Mo_works 6 = .ok (.invokevirtual 287, 3) := by decide +kernel
theorem d_Mo_works_9 : decode b_Mo_works 9 = .ok (.istore_n 3, 1) := by decide +kernel
theorem d_Mo_works_10 : decode b_Mo_works 10 = .ok (.iload_n 1, 1) := by decide +kernel
theorem d_Mo_works_11 : decode b_Mo_works 11 = .ok (.iconst 5, 1) := by decide +kernel
theorem d_Mo_works_12 : decode b_Mo_works 12 = .ok (.if_icmp .ne 15, 3) := by decide +kernel
theorem d_Mo_works_15 : decode b_Mo_works 15 = .ok (.iload_n 2, 1) := by decide +kernel
theorem d_Mo_works_16 : decode b_Mo_works 16 = .ok (.ifCond .ne 11, 3) := by decide +kernel
theorem d_Mo_works_19 : decode b_Mo_works 19 = .ok (.aload_n 0, 1) := by decide +kernel
theorem d_Mo_works_20 : decode b_Mo_works 20 = .ok (.iconst 1, 1) := by decide +kernel
theorem d_Mo_works_21 : decode b_Mo_works 21 = .ok (.invokevirtual 291, 3) := by decide +kernel
theorem d_Mo_works_24 : decode b_Mo_works 24 = .ok (.goto 28, 3) := by decide +kernel
theorem d_Mo_works_27 : decode b_Mo_works 27 = .ok (.aload_n 0, 1) := by decide +kernel
theorem d_Mo_works_28 : decode b_Mo_works 28 = .ok (.iload_n 1, 1) := by decide +kernel
theorem d_Mo_works_29 : decode b_Mo_works 29 = .ok (.iload_n 3, 1) := by decide +kernel
theorem d_Mo_works_30 : decode b_Mo_works 30 = .ok (.iload_n 2, 1) := by decide +kernel
theorem d_Mo_works_31 : decode b_Mo_works 31 = .ok (.invokestatic 294, 3) := by decide +kernel
theorem d_Mo_works_34 : decode b_Mo_works 34 = .ok (.invokevirtual 281, 3) := by decide +kernel
theorem d_Mo_works_37 : decode b_Mo_works 37 = .ok (.aload_n 0, 1) := by decide +kernel
theorem d_Mo_works_38 : decode b_Mo_works 38 = .ok (.getfield 113, 3) := by decide +kernel
theorem d_Mo_works_41 : decode b_Mo_works 41 = .ok (.aload_n 0, 1) := by decide +kernel
theorem d_Mo_works_42 : decode b_Mo_works 42 = .ok (.getfield 275, 3) := by decide +kernel
theorem d_Mo_works_45 : decode b_Mo_works 45 = .ok (.iconst 1, 1) := by decide +kernel
theorem d_Mo_works_46 : decode b_Mo_works 46 = .ok (.isub, 1) := by decide +kernel
theorem d_Mo_works_47 : decode b_Mo_works 47 = .ok (.dup2, 1) := by decide +kernel
theorem d_Mo_works_48 : decode b_Mo_works 48 = .ok (.iaload, 1) := by decide +kernel
theorem d_Mo_works_49 : decode b_Mo_works 49 = .ok (.iconst 1, 1) := by decide +kernel
theorem d_Mo_works_50 : decode b_Mo_works 50 = .ok (.iadd, 1) := by decide +kernel
theorem d_Mo_works_51 : decode b_Mo_works 51 = .ok (.iastore, 1) := by decide +kernel
theorem d_Mo_works_52 : decode b_Mo_works 52 = .ok (.return_, 1) := by decide +kernel
theorem d_Mo_step_0 : decode b_Mo_step 0 = .ok (.aload_n 0, 1) := by decide +kernel
theorem d_Mo_step_1 : decode b_Mo_step 1 = .ok (.getfield 113, 3) := by decide +kernel
theorem d_Mo_step_4 : decode b_Mo_step 4 = .ok (.aload_n 0, 1) := by decide +kernel
theorem d_Mo_step_5 : decode b_Mo_step 5 = .ok (.getfield 275, 3) := by decide +kernel
theorem d_Mo_step_8 : decode b_Mo_step 8 = .ok (.iconst 1, 1) := by decide +kernel
theorem d_Mo_step_9 : decode b_Mo_step 9 = .ok (.isub, 1) := by decide +kernel
theorem d_Mo_step_10 : decode b_Mo_step 10 = .ok (.iaload, 1) := by decide +kernel
theorem d_Mo_step_11 : decode b_Mo_step 11 = .ok (.istore_n 1, 1) := by decide +kernel
theorem d_Mo_step_12 : decode b_Mo_step 12 = .ok (.aload_n 0, 1) := by decide +kernel
theorem d_Mo_step_13 : decode b_Mo_step 13 = .ok (.getfield 34, 3) := by decide +kernel
theorem d_Mo_step_16 : decode b_Mo_step 16 = .ok (.iload_n 1, 1) := by decide +kernel
theorem d_Mo_step_17 : decode b_Mo_step 17 = .ok (.iaload, 1) := by decide +kernel
theorem d_Mo_step_18 : decode b_Mo_step 18 = .ok (.istore_n 2, 1) := by decide +kernel
theorem d_Mo_step_19 : decode b_Mo_step 19 = .ok (.aload_n 0, 1) := by decide +kernel
theorem d_Mo_step_20 : decode b_Mo_step 20 = .ok (.getfield 31, 3) := by decide +kernel
theorem d_Mo_step_23 : decode b_Mo_step 23 = .ok (.iload_n 1, 1) := by decide +kernel
theorem d_Mo_step_24 : decode b_Mo_step 24 = .ok (.iaload, 1) := by decide +kernel
theorem d_Mo_step_25 : decode b_Mo_step 25 = .ok (.tableswitch 346 0 16 #[83, 83, 346, 346, 346, 346, 346, 346, 124, 152, 204, 232, 247, 268, 276, 283, 322], 83) := by decide +kernel
theorem d_Mo_step_108 : decode b_Mo_step 108 = .ok (.aload_n 0, 1) := by decide +kernel
theorem d_Mo_step_109 : decode b_Mo_step 109 = .ok (.aload_n 0, 1) := by decide +kernel
theorem d_Mo_step_110 : decode b_Mo_step 110 = .ok (.getfield 31, 3) := by decide +kernel
theorem d_Mo_step_113 : decode b_Mo_step 113 = .ok (.iload_n 1, 1) := by decide +kernel
theorem d_Mo_step_114 : decode b_Mo_step 114 = .ok (.iaload, 1) := by decide +kernel
theorem d_Mo_step_115 : decode b_Mo_step 115 = .ok (.ifCond .ne 7, 3) := by decide +kernel
theorem d_Mo_step_118 : decode b_Mo_step 118 = .ok (.iload_n 2, 1) := by decide +kernel
theorem d_Mo_step_119 : decode b_Mo_step 119 = .ok (.goto 9, 3) := by decide +kernel
theorem d_Mo_step_122 : decode b_Mo_step 122 = .ok (.aload_n 0, 1) := by decide +kernel
theorem d_Mo_step_123 : decode b_Mo_step 123 = .ok (.getfield 103, 3) := by decide +kernel
theorem d_Mo_step_126 : decode b_Mo_step 126 = .ok (.iload_n 2, 1) := by decide +kernel
theorem d_Mo_step_127 : decode b_Mo_step 127 = .ok (.iaload, 1) := by decide +kernel
theorem d_Mo_step_128 : decode b_Mo_step 128 = .ok (.invokevirtual 281, 3) := by decide +kernel
theorem d_Mo_step_131 : decode b_Mo_step 131 = .ok (.aload_n 0, 1) := by decide +kernel
theorem d_Mo_step_132 : decode b_Mo_step 132 = .ok (.getfield 113, 3) := by decide +kernel
theorem d_Mo_step_135 : decode b_Mo_step 135 = .ok (.aload_n 0, 1) := by decide +kernel
theorem d_Mo_step_136 : decode b_Mo_step 136 = .ok (.getfield 275, 3) := by decide +kernel
theorem d_Mo_step_139 : decode b_Mo_step 139 = .ok (.iconst 1, 1) := by decide +kernel
theorem d_Mo_step_140 : decode b_Mo_step 140 = .ok (.isub, 1) := by decide +kernel
theorem d_Mo_step_141 : decode b_Mo_step 141 = .ok (.dup2, 1) := by decide +kernel
theorem d_Mo_step_142 : decode b_Mo_step 142 = .ok (.iaload, 1) := by decide +kernel
theorem d_Mo_step_143 : decode b_Mo_step 143 = .ok (.iconst 1, 1) := by decide +kernel
theorem d_Mo_step_144 : decode b_Mo_step 144 = .ok (.iadd, 1) := by decide +kernel
theorem d_Mo_step_145 : decode b_Mo_step 145 = .ok (.iastore, 1) := by decide +kernel
theorem d_Mo_step_146 : decode b_Mo_step 146 = .ok (.goto 235, 3) := by decide +kernel
theorem d_Mo_step_149 : decode b_Mo_step 149 = .ok (.aload_n 0, 1) := by decide +kernel
theorem d_Mo_step_150 : decode b_Mo_step 150 = .ok (.getfield 103, 3) := by decide +kernel
theorem d_Mo_step_153 : decode b_Mo_step 153 = .ok (.iload_n 2, 1) := by decide +kernel
theorem d_Mo_step_154 : decode b_Mo_step 154 = .ok (.aload_n 0, 1) := by decide +kernel
theorem d_Mo_step_155 : decode b_Mo_step 155 = .ok (.invokevirtual 287, 3) := by decide +kernel
theorem d_Mo_step_158 : decode b_Mo_step 158 = .ok (.iastore, 1) := by decide +kernel
theorem d_Mo_step_159 : decode b_Mo_step 159 = .ok (.aload_n 0, 1) := by decide +kernel
theorem d_Mo_step_160 : decode b_Mo_step 160 = .ok (.getfield 113, 3) := by decide +kernel
theorem d_Mo_step_163 : decode b_Mo_step 163 = .ok (.aload_n 0, 1) := by decide +kernel
theorem d_Mo_step_164 : decode b_Mo_step 164 = .ok (.getfield 275, 3) := by decide +kernel
theorem d_Mo_step_167 : decode b_Mo_step 167 = .ok (.iconst 1, 1) := by decide +kernel
theorem d_Mo_step_168 : decode b_Mo_step 168 = .ok (.isub, 1) := by decide +kernel
theorem d_Mo_step_169 : decode b_Mo_step 169 = .ok (.dup2, 1) := by decide +kernel
theorem d_Mo_step_170 : decode b_Mo_step 170 = .ok (.iaload, 1) := by decide +kernel
theorem d_Mo_step_171 : decode b_Mo_step 171 = .ok (.iconst 1, 1) := by decide +kernel
theorem d_Mo_step_172 : decode b_Mo_step 172 = .ok (.iadd, 1) := by decide +kernel
theorem d_Mo_step_173 : decode b_Mo_step 173 = .ok (.iastore, 1) := by decide +kernel
theorem d_Mo_step_174 : decode b_Mo_step 174 = .ok (.goto 207, 3) := by decide +kernel
theorem d_Mo_step_177 : decode b_Mo_step 177 = .ok (.aload_n 0, 1) := by decide +kernel
theorem d_Mo_step_178 : decode b_Mo_step 178 = .ok (.invokevirtual 287, 3) := by decide +kernel
theorem d_Mo_step_181 : decode b_Mo_step 181 = .ok (.istore_n 3, 1) := by decide +kernel
theorem d_Mo_step_182 : decode b_Mo_step 182 = .ok (.aload_n 0, 1) := by decide +kernel
theorem d_Mo_step_183 : decode b_Mo_step 183 = .ok (.getfield 301, 3) := by decide +kernel
theorem d_Mo_step_186 : decode b_Mo_step 186 = .ok (.bipush 64, 2) := by decide +kernel
theorem d_Mo_step_188 : decode b_Mo_step 188 = .ok (.if_icmp .ge 23, 3) := by decide +kernel
theorem d_Mo_step_191 : decode b_Mo_step 191 = .ok (.aload_n 0, 1) := by decide +kernel
theorem d_Mo_step_192 : decode b_Mo_step 192 = .ok (.getfield 110, 3) := by decide +kernel
theorem d_Mo_step_195 : decode b_Mo_step 195 = .ok (.aload_n 0, 1) := by decide +kernel
theorem d_Mo_step_196 : decode b_Mo_step 196 = .ok (.getfield 301, 3) := by decide +kernel
theorem d_Mo_step_199 : decode b_Mo_step 199 = .ok (.iload_n 3, 1) := by decide +kernel
theorem d_Mo_step_200 : decode b_Mo_step 200 = .ok (.iastore, 1) := by decide +kernel
theorem d_Mo_step_201 : decode b_Mo_step 201 = .ok (.aload_n 0, 1) := by decide +kernel
theorem d_Mo_step_202 : decode b_Mo_step 202 = .ok (.dup, 1) := by decide +kernel
theorem d_Mo_step_203 : decode b_Mo_step 203 = .ok (.getfield 301, 3) := by decide +kernel
theorem d_Mo_step_206 : decode b_Mo_step 206 = .ok (.iconst 1, 1) := by decide +kernel
theorem d_Mo_step_207 : decode b_Mo_step 207 = .ok (.iadd, 1) := by decide +kernel
theorem d_Mo_step_208 : decode b_Mo_step 208 = .ok (.putfield 301, 3) := by decide +kernel
theorem d_Mo_step_211 : decode b_Mo_step 211 = .ok (.aload_n 0, 1) := by decide +kernel
theorem d_Mo_step_212 : decode b_Mo_step 212 = .ok (.getfield 113, 3) := by decide +kernel
theorem d_Mo_step_215 : decode b_Mo_step 215 = .ok (.aload_n 0, 1) := by decide +kernel
theorem d_Mo_step_216 : decode b_Mo_step 216 = .ok (.getfield 275, 3) := by decide +kernel
theorem d_Mo_step_219 : decode b_Mo_step 219 = .ok (.iconst 1, 1) := by decide +kernel
theorem d_Mo_step_220 : decode b_Mo_step 220 = .ok (.isub, 1) := by decide +kernel
theorem d_Mo_step_221 : decode b_Mo_step 221 = .ok (.dup2, 1) := by decide +kernel
theorem d_Mo_step_222 : decode b_Mo_step 222 = .ok (.iaload, 1) := by decide +kernel
theorem d_Mo_step_223 : decode b_Mo_step 223 = .ok (.iconst 1, 1) := by decide +kernel
theorem d_Mo_step_224 : decode b_Mo_step 224 = .ok (.iadd, 1) := by decide +kernel
theorem d_Mo_step_225 : decode b_Mo_step 225 = .ok (.iastore, 1) := by decide +kernel
theorem d_Mo_step_226 : decode b_Mo_step 226 = .ok (.goto 155, 3) := by decide +kernel
theorem d_Mo_step_229 : decode b_Mo_step 229 = .ok (.aload_n 0, 1) := by decide +kernel
theorem d_Mo_step_230 : decode b_Mo_step 230 = .ok (.getfield 113, 3) := by decide +kernel
theorem d_Mo_step_233 : decode b_Mo_step 233 = .ok (.aload_n 0, 1) := by decide +kernel
theorem d_Mo_step_234 : decode b_Mo_step 234 = .ok (.getfield 275, 3) := by decide +kernel
theorem d_Mo_step_237 : decode b_Mo_step 237 = .ok (.iconst 1, 1) := by decide +kernel
theorem d_Mo_step_238 : decode b_Mo_step 238 = .ok (.isub, 1) := by decide +kernel
theorem d_Mo_step_239 : decode b_Mo_step 239 = .ok (.aload_n 0, 1) := by decide +kernel
theorem d_Mo_step_240 : decode b_Mo_step 240 = .ok (.invokevirtual 287, 3) := by decide +kernel
theorem d_Mo_step_243 : decode b_Mo_step 243 = .ok (.ifCond .ne 7, 3) := by decide +kernel
theorem d_Mo_step_246 : decode b_Mo_step 246 = .ok (.iload_n 2, 1) := by decide +kernel
theorem d_Mo_step_247 : decode b_Mo_step 247 = .ok (.goto 6, 3) := by decide +kernel
theorem d_Mo_step_250 : decode b_Mo_step 250 = .ok (.iload_n 1, 1) := by decide +kernel
theorem d_Mo_step_251 : decode b_Mo_step 251 = .ok (.iconst 1, 1) := by decide +kernel
theorem d_Mo_step_252 : decode b_Mo_step 252 = .ok (.iadd, 1) := by decide +kernel
theorem d_Mo_step_253 : decode b_Mo_step 253 = .ok (.iastore, 1) := by decide +kernel
theorem d_Mo_step_254 : decode b_Mo_step 254 = .ok (.goto 127, 3) := by decide +kernel
theorem d_Mo_step_257 : decode b_Mo_step 257 = .ok (.aload_n 0, 1) := by decide +kernel
theorem d_Mo_step_258 : decode b_Mo_step 258 = .ok (.getfield 113, 3) := by decide +kernel
theorem d_Mo_step_261 : decode b_Mo_step 261 = .ok (.aload_n 0, 1) := by decide +kernel
theorem d_Mo_step_262 : decode b_Mo_step 262 = .ok (.getfield 275, 3) := by decide +kernel
theorem d_Mo_step_265 : decode b_Mo_step 265 = .ok (.iconst 1, 1) := by decide +kernel
theorem d_Mo_step_266 : decode b_Mo_step 266 = .ok (.isub, 1) := by decide +kernel
theorem d_Mo_step_267 : decode b_Mo_step 267 = .ok (.iload_n 2, 1) := by decide +kernel
theorem d_Mo_step_268 : decode b_Mo_step 268 = .ok (.iastore, 1) := by decide +kernel
theorem d_Mo_step_269 : decode b_Mo_step 269 = .ok (.goto 112, 3) := by decide +kernel
theorem d_Mo_step_272 : decode b_Mo_step 272 = .ok (.aload_n 0, 1) := by decide +kernel
theorem d_Mo_step_273 : decode b_Mo_step 273 = .ok (.invokevirtual 287, 3) := by decide +kernel
theorem d_Mo_step_276 : decode b_Mo_step 276 = .ok (.istore_n 3, 1) := by decide +kernel
theorem d_Mo_step_277 : decode b_Mo_step 277 = .ok (.aload_n 0, 1) := by decide +kernel
theorem d_Mo_step_278 : decode b_Mo_step 278 = .ok (.iload_n 3, 1) := by decide +kernel
theorem d_Mo_step_279 : decode b_Mo_step 279 = .ok (.ifCond .ne 7, 3) := by decide +kernel
theorem d_Mo_step_282 : decode b_Mo_step 282 = .ok (.iconst 2, 1) := by decide +kernel
theorem d_Mo_step_283 : decode b_Mo_step 283 = .ok (.goto 4, 3) := by decide +kernel
theorem d_Mo_step_286 : decode b_Mo_step 286 = .ok (.iload_n 3, 1) := by decide +kernel
theorem d_Mo_step_287 : decode b_Mo_step 287 = .ok (.invokevirtual 291, 3) := by decide +kernel
theorem d_Mo_step_290 : decode b_Mo_step 290 = .ok (.goto 91, 3) := by decide +kernel
theorem d_Mo_step_293 : decode b_Mo_step 293 = .ok (.aload_n 0, 1) := by decide +kernel
theorem d_Mo_step_294 : decode b_Mo_step 294 = .ok (.iload_n 2, 1) := by decide +kernel
theorem d_Mo_step_295 : decode b_Mo_step 295 = .ok (.invokevirtual 304, 3) := by decide +kernel
theorem d_Mo_step_298 : decode b_Mo_step 298 = .ok (.goto 83, 3) := by decide +kernel
theorem d_Mo_step_301 : decode b_Mo_step 301 = .ok (.aload_n 0, 1) := by decide +kernel
theorem d_Mo_step_302 : decode b_Mo_step 302 = .ok (.invokevirtual 307, 3) := by decide +kernel
theorem d_Mo_step_305 : decode b_Mo_step 305 = .ok (.goto 76, 3) := by decide +kernel
theorem d_Mo_step_308 : decode b_Mo_step 308 = .ok (.aload_n 0, 1) := by decide +kernel
theorem d_Mo_step_309 : decode b_Mo_step 309 = .ok (.getfield 122, 3) := by decide +kernel
theorem d_Mo_step_312 : decode b_Mo_step 312 = .ok (.sipush 200, 3) := by decide +kernel
theorem d_Mo_step_315 : decode b_Mo_step 315 = .ok (.aload_n 0, 1) := by decide +kernel
theorem d_Mo_step_316 : decode b_Mo_step 316 = .ok (.getfield 275, 3) := by decide +kernel
theorem d_Mo_step_319 : decode b_Mo_step 319 = .ok (.iconst 1, 1) := by decide +kernel
theorem d_Mo_step_320 : decode b_Mo_step 320 = .ok (.isub, 1) := by decide +kernel
theorem d_Mo_step_321 : decode b_Mo_step 321 = .ok (.imul, 1) := by decide +kernel
theorem d_Mo_step_322 : decode b_Mo_step 322 = .ok (.iload_n 2, 1) := by decide +kernel
theorem d_Mo_step_323 : decode b_Mo_step 323 = .ok (.iadd, 1) := by decide +kernel
theorem d_Mo_step_324 : decode b_Mo_step 324 = .ok (.aload_n 0, 1) := by decide +kernel
theorem d_Mo_step_325 : decode b_Mo_step 325 = .ok (.invokevirtual 287, 3) := by decide +kernel
theorem d_Mo_step_328 : decode b_Mo_step 328 = .ok (.iastore, 1) := by decide +kernel
theorem d_Mo_step_329 : decode b_Mo_step 329 = .ok (.aload_n 0, 1) := by decide +kernel
theorem d_Mo_step_330 : decode b_Mo_step 330 = .ok (.getfield 113, 3) := by decide +kernel
theorem d_Mo_step_333 : decode b_Mo_step 333 = .ok (.aload_n 0, 1) := by decide +kernel
theorem d_Mo_step_334 : decode b_Mo_step 334 = .ok (.getfield 275, 3) := by decide +kernel
theorem d_Mo_step_337 : decode b_Mo_step 337 = .ok (.iconst 1, 1) := by decide +kernel
theorem d_Mo_step_338 : decode b_Mo_step 338 = .ok (.isub, 1) := by decide +kernel
theorem d_Mo_step_339 : decode b_Mo_step 339 = .ok (.dup2, 1) := by decide +kernel
theorem d_Mo_step_340 : decode b_Mo_step 340 = .ok (.iaload, 1) := by decide +kernel
theorem d_Mo_step_341 : decode b_Mo_step 341 = .ok (.iconst 1, 1) := by decide +kernel
theorem d_Mo_step_342 : decode b_Mo_step 342 = .ok (.iadd, 1) := by decide +kernel
theorem d_Mo_step_343 : decode b_Mo_step 343 = .ok (.iastore, 1) := by decide +kernel
theorem d_Mo_step_344 : decode b_Mo_step 344 = .ok (.goto 37, 3) := by decide +kernel
theorem d_Mo_step_347 : decode b_Mo_step 347 = .ok (.aload_n 0, 1) := by decide +kernel
theorem d_Mo_step_348 : decode b_Mo_step 348 = .ok (.aload_n 0, 1) := by decide +kernel
theorem d_Mo_step_349 : decode b_Mo_step 349 = .ok (.getfield 122, 3) := by decide +kernel
theorem d_Mo_step_352 : decode b_Mo_step 352 = .ok (.sipush 200, 3) := by decide +kernel
theorem d_Mo_step_355 : decode b_Mo_step 355 = .ok (.aload_n 0, 1) := by decide +kernel
theorem d_Mo_step_356 : decode b_Mo_step 356 = .ok (.getfield 275, 3) := by decide +kernel
theorem d_Mo_step_359 : decode b_Mo_step 359 = .ok (.iconst 1, 1) := by decide +kernel
theorem d_Mo_step_360 : decode b_Mo_step 360 = .ok (.isub, 1) := by decide +kernel
theorem d_Mo_step_361 : decode b_Mo_step 361 = .ok (.imul, 1) := by decide +kernel
theorem d_Mo_step_362 : decode b_Mo_step 362 = .ok (.iload_n 2, 1) := by decide +kernel
theorem d_Mo_step_363 : decode b_Mo_step 363 = .ok (.iadd, 1) := by decide +kernel
theorem d_Mo_step_364 : decode b_Mo_step 364 = .ok (.iaload, 1) := by decide +kernel
theorem d_Mo_step_365 : decode b_Mo_step 365 = .ok (.invokevirtual 291, 3) := by decide +kernel
theorem d_Mo_step_368 : decode b_Mo_step 368 = .ok (.goto 13, 3) := by decide +kernel
theorem d_Mo_step_371 : decode b_Mo_step 371 = .ok (.aload_n 0, 1) := by decide +kernel
theorem d_Mo_step_372 : decode b_Mo_step 372 = .ok (.aload_n 0, 1) := by decide +kernel
theorem d_Mo_step_373 : decode b_Mo_step 373 = .ok (.getfield 31, 3) := by decide +kernel
theorem d_Mo_step_376 : decode b_Mo_step 376 = .ok (.iload_n 1, 1) := by decide +kernel
theorem d_Mo_step_377 : decode b_Mo_step 377 = .ok (.iaload, 1) := by decide +kernel
theorem d_Mo_step_378 : decode b_Mo_step 378 = .ok (.invokevirtual 310, 3) := by decide +kernel
theorem d_Mo_step_381 : decode b_Mo_step 381 = .ok (.return_, 1) := by decide +kernel
end
section
theorem d_Mo_run_0 : decode b_Mo_run 0 = .ok (.aload_n 0, 1) := by decide +kernel
theorem d_Mo_run_1 : decode b_Mo_run 1 = .ok (.iconst 0, 1) := by decide +kernel
theorem d_Mo_run_2 : decode b_Mo_run 2 = .ok (.putfield 125, 3) := by decide +kernel
theorem d_Mo_run_5 : decode b_Mo_run 5 = .ok (.aload_n 0, 1) := by decide +kernel
theorem d_Mo_run_6 : decode b_Mo_run 6 = .ok (.getfield 266, 3) := by decide +kernel
theorem d_Mo_run_9 : decode b_Mo_run 9 = .ok (.ifCond .eq 12, 3) := by decide +kernel
theorem d_Mo_run_12 : decode b_Mo_run 12 = .ok (.iload_n 1, 1) := by decide +kernel
theorem d_Mo_run_13 : decode b_Mo_run 13 = .ok (.ifCond .lt 8, 3) := by decide +kernel
theorem d_Mo_run_16 : decode b_Mo_run 16 = .ok (.iload_n 1, 1) := by decide +kernel
theorem d_Mo_run_17 : decode b_Mo_run 17 = .ok (.iconst 5, 1) := by decide +kernel
theorem d_Mo_run_18 : decode b_Mo_run 18 = .ok (.if_icmp .le 5, 3) := by decide +kernel
theorem d_Mo_run_21 : decode b_Mo_run 21 = .ok (.iconst (-1), 1) := by decide +kernel
theorem d_Mo_run_22 : decode b_Mo_run 22 = .ok (.ireturn, 1) := by decide +kernel
theorem d_Mo_run_23 : decode b_Mo_run 23 = .ok (.iconst 0, 1) := by decide +kernel
theorem d_Mo_run_24 : decode b_Mo_run 24 = .ok (.istore_n 2, 1) := by decide +kernel
theorem d_Mo_run_25 : decode b_Mo_run 25 = .ok (.iload_n 2, 1) := by decide +kernel
theorem d_Mo_run_26 : decode b_Mo_run 26 = .ok (.bipush 8, 2) := by decide +kernel
theorem d_Mo_run_28 : decode b_Mo_run 28 = .ok (.if_icmp .ge 16, 3) := by decide +kernel
theorem d_Mo_run_31 : decode b_Mo_run 31 = .ok (.aload_n 0, 1) := by decide +kernel
theorem d_Mo_run_32 : decode b_Mo_run 32 = .ok (.getfield 103, 3) := by decide +kernel
theorem d_Mo_run_35 : decode b_Mo_run 35 = .ok (.iload_n 2, 1) := by decide +kernel
theorem d_Mo_run_36 : decode b_Mo_run 36 = .ok (.iconst 0, 1) := by decide +kernel
theorem d_Mo_run_37 : decode b_Mo_run 37 = .ok (.iastore, 1) := by decide +kernel
theorem d_Mo_run_38 : decode b_Mo_run 38 = .ok (.iinc 2 1, 3) := by decide +kernel
theorem d_Mo_run_41 : decode b_Mo_run 41 = .ok (.goto (-16), 3) := by decide +kernel
theorem d_Mo_run_44 : decode b_Mo_run 44 = .ok (.aload_n 0, 1) := by decide +kernel
theorem d_Mo_run_45 : decode b_Mo_run 45 = .ok (.iconst 0, 1) := by decide +kernel
theorem d_Mo_run_46 : decode b_Mo_run 46 = .ok (.putfield 106, 3) := by decide +kernel
theorem d_Mo_run_49 : decode b_Mo_run 49 = .ok (.aload_n 0, 1) := by decide +kernel
theorem d_Mo_run_50 : decode b_Mo_run 50 = .ok (.iconst 0, 1) := by decide +kernel
theorem d_Mo_run_51 : decode b_Mo_run 51 = .ok (.putfield 284, 3) := by decide +kernel
theorem d_Mo_run_54 : decode b_Mo_run 54 = .ok (.aload_n 0, 1) := by decide +kernel
theorem d_Mo_run_55 : decode b_Mo_run 55 = .ok (.iconst 0, 1) := by decide +kernel
theorem d_Mo_run_56 : decode b_Mo_run 56 = .ok (.putfield 313, 3) := by decide +kernel
theorem d_Mo_run_59 : decode b_Mo_run 59 = .ok (.aload_n 0, 1) := by decide +kernel
theorem d_Mo_run_60 : decode b_Mo_run 60 = .ok (.iconst 0, 1) := by decide +kernel
theorem d_Mo_run_61 : decode b_Mo_run 61 = .ok (.putfield 301, 3) := by decide +kernel
theorem d_Mo_run_64 : decode b_Mo_run 64 = .ok (.aload_n 0, 1) := by decide +kernel
theorem d_Mo_run_65 : decode b_Mo_run 65 = .ok (.iconst 0, 1) := by decide +kernel
theorem d_Mo_run_66 : decode b_Mo_run 66 = .ok (.putfield 278, 3) := by decide +kernel
theorem d_Mo_run_69 : decode b_Mo_run 69 = .ok (.aload_n 0, 1) := by decide +kernel
theorem d_Mo_run_70 : decode b_Mo_run 70 = .ok (.iconst 1, 1) := by decide +kernel
theorem d_Mo_run_71 : decode b_Mo_run 71 = .ok (.putfield 275, 3) := by decide +kernel
theorem d_Mo_run_74 : decode b_Mo_run 74 = .ok (.aload_n 0, 1) := by decide +kernel
theorem d_Mo_run_75 : decode b_Mo_run 75 = .ok (.iconst 1, 1) := by decide +kernel
theorem d_Mo_run_76 : decode b_Mo_run 76 = .ok (.putfield 298, 3) := by decide +kernel
theorem d_Mo_run_79 : decode b_Mo_run 79 = .ok (.aload_n 0, 1) := by decide +kernel
theorem d_Mo_run_80 : decode b_Mo_run 80 = .ok (.getfield 113, 3) := by decide +kernel
theorem d_Mo_run_83 : decode b_Mo_run 83 = .ok (.iconst 0, 1) := by decide +kernel
theorem d_Mo_run_84 : decode b_Mo_run 84 = .ok (.aload_n 0, 1) := by decide +kernel
theorem d_Mo_run_85 : decode b_Mo_run 85 = .ok (.getfield 55, 3) := by decide +kernel
theorem d_Mo_run_88 : decode b_Mo_run 88 = .ok (.iload_n 1, 1) := by decide +kernel
theorem d_Mo_run_89 : decode b_Mo_run 89 = .ok (.iaload, 1) := by decide +kernel
theorem d_Mo_run_90 : decode b_Mo_run 90 = .ok (.iastore, 1) := by decide +kernel
theorem d_Mo_run_91 : decode b_Mo_run 91 = .ok (.aload_n 0, 1) := by decide +kernel
theorem d_Mo_run_92 : decode b_Mo_run 92 = .ok (.getfield 116, 3) := by decide +kernel
theorem d_Mo_run_95 : decode b_Mo_run 95 = .ok (.iconst 0, 1) := by decide +kernel
theorem d_Mo_run_96 : decode b_Mo_run 96 = .ok (.iconst 0, 1) := by decide +kernel
theorem d_Mo_run_97 : decode b_Mo_run 97 = .ok (.iastore, 1) := by decide +kernel
theorem d_Mo_run_98 : decode b_Mo_run 98 = .ok (.aload_n 0, 1) := by decide +kernel
theorem d_Mo_run_99 : decode b_Mo_run 99 = .ok (.getfield 106, 3) := by decide +kernel
theorem d_Mo_run_102 : decode b_Mo_run 102 = .ok (.ifCond .ne 38, 3) := by decide +kernel
theorem d_Mo_run_105 : decode b_Mo_run 105 = .ok (.aload_n 0, 1) := by decide +kernel
theorem d_Mo_run_106 : decode b_Mo_run 106 = .ok (.getfield 313, 3) := by decide +kernel
theorem d_Mo_run_109 : decode b_Mo_run 109 = .ok (.sipush 3000, 3) := by decide +kernel
theorem d_Mo_run_112 : decode b_Mo_run 112 = .ok (.if_icmp .ne 11, 3) := by decide +kernel
theorem d_Mo_run_115 : decode b_Mo_run 115 = .ok (.aload_n 0, 1) := by decide +kernel
theorem d_Mo_run_116 : decode b_Mo_run 116 = .ok (.iconst 3, 1) := by decide +kernel
theorem d_Mo_run_117 : decode b_Mo_run 117 = .ok (.putfield 106, 3) := by decide +kernel
theorem d_Mo_run_120 : decode b_Mo_run 120 = .ok (.goto (-22), 3) := by decide +kernel
theorem d_Mo_run_123 : decode b_Mo_run 123 = .ok (.aload_n 0, 1) := by decide +kernel
theorem d_Mo_run_124 : decode b_Mo_run 124 = .ok (.dup, 1) := by decide +kernel
theorem d_Mo_run_125 : decode b_Mo_run 125 = .ok (.getfield 313, 3) := by decide +kernel
theorem d_Mo_run_128 : decode b_Mo_run 128 = .ok (.iconst 1, 1) := by decide +kernel
theorem d_Mo_run_129 : decode b_Mo_run 129 = .ok (.iadd, 1) := by decide +kernel
theorem d_Mo_run_130 : decode b_Mo_run 130 = .ok (.putfield 313, 3) := by decide +kernel
theorem d_Mo_run_133 : decode b_Mo_run 133 = .ok (.aload_n 0, 1) := by decide +kernel
theorem d_Mo_run_134 : decode b_Mo_run 134 = .ok (.invokevirtual 316, 3) := by decide +kernel
theorem d_Mo_run_137 : decode b_Mo_run 137 = .ok (.goto (-39), 3) := by decide +kernel
theorem d_Mo_run_140 : decode b_Mo_run 140 = .ok (.aload_n 0, 1) := by decide +kernel
theorem d_Mo_run_141 : decode b_Mo_run 141 = .ok (.getfield 106, 3) := by decide +kernel
theorem d_Mo_run_144 : decode b_Mo_run 144 = .ok (.ireturn, 1) := by decide +kernel
theorem d_Mo_latest_0 : decode b_Mo_latest 0 = .ok (.aload_n 0, 1) := by decide +kernel
theorem d_Mo_latest_1 : decode b_Mo_latest 1 = .ok (.iconst 0, 1) := by decide +kernel
theorem d_Mo_latest_2 : decode b_Mo_latest 2 = .ok (.putfield 125, 3) := by decide +kernel
theorem d_Mo_latest_5 : decode b_Mo_latest 5 = .ok (.aload_n 0, 1) := by decide +kernel
theorem d_Mo_latest_6 : decode b_Mo_latest 6 = .ok (.getfield 106, 3) := by decide +kernel
theorem d_Mo_latest_9 : decode b_Mo_latest 9 = .ok (.iconst (-1), 1) := by decide +kernel
theorem d_Mo_latest_10 : decode b_Mo_latest 10 = .ok (.if_icmp .ne 5, 3) := by decide +kernel
theorem d_Mo_latest_13 : decode b_Mo_latest 13 = .ok (.iconst (-1), 1) := by decide +kernel
theorem d_Mo_latest_14 : decode b_Mo_latest 14 = .ok (.ireturn, 1) := by decide +kernel
theorem d_Mo_latest_15 : decode b_Mo_latest 15 = .ok (.iload_n 1, 1) := by decide +kernel
theorem d_Mo_latest_16 : decode b_Mo_latest 16 = .ok (.tableswitch 70 0 5 #[40, 45, 50, 55, 60, 65], 40) := by decide +kernel
theorem d_Mo_latest_56 : decode b_Mo_latest 56 = .ok (.aload_n 0, 1) := by decide +kernel
theorem d_Mo_latest_57 : decode b_Mo_latest 57 = .ok (.getfield 106, 3) := by decide +kernel
theorem d_Mo_latest_60 : decode b_Mo_latest 60 = .ok (.ireturn, 1) := by decide +kernel
theorem d_Mo_latest_61 : decode b_Mo_latest 61 = .ok (.aload_n 0, 1) := by decide +kernel
theorem d_Mo_latest_62 : decode b_Mo_latest 62 = .ok (.getfield 284, 3) := by decide +kernel
theorem d_Mo_latest_65 : decode b_Mo_latest 65 = .ok (.ireturn, 1) := by decide +kernel
theorem d_Mo_latest_66 : decode b_Mo_latest 66 = .ok (.aload_n 0, 1) := by decide +kernel
theorem d_Mo_latest_67 : decode b_Mo_latest 67 = .ok (.getfield 313, 3) := by decide +kernel
theorem d_Mo_latest_70 : decode b_Mo_latest 70 = .ok (.ireturn, 1) := by decide +kernel
theorem d_Mo_latest_71 : decode b_Mo_latest 71 = .ok (.aload_n 0, 1) := by decide +kernel
theorem d_Mo_latest_72 : decode b_Mo_latest 72 = .ok (.getfield 301, 3) := by decide +kernel
theorem d_Mo_latest_75 : decode b_Mo_latest 75 = .ok (.ireturn, 1) := by decide +kernel
theorem d_Mo_latest_76 : decode b_Mo_latest 76 = .ok (.aload_n 0, 1) := by decide +kernel
theorem d_Mo_latest_77 : decode b_Mo_latest 77 = .ok (.getfield 278, 3) := by decide +kernel
theorem d_Mo_latest_80 : decode b_Mo_latest 80 = .ok (.ireturn, 1) := by decide +kernel
theorem d_Mo_latest_81 : decode b_Mo_latest 81 = .ok (.aload_n 0, 1) := by decide +kernel
theorem d_Mo_latest_82 : decode b_Mo_latest 82 = .ok (.getfield 298, 3) := by decide +kernel
theorem d_Mo_latest_85 : decode b_Mo_latest 85 = .ok (.ireturn, 1) := by decide +kernel
theorem d_Mo_latest_86 : decode b_Mo_latest 86 = .ok (.iconst (-1), 1) := by decide +kernel
theorem d_Mo_latest_87 : decode b_Mo_latest 87 = .ok (.ireturn, 1) := by decide +kernel
theorem d_Mo_out_0 : decode b_Mo_out 0 = .ok (.aload_n 0, 1) := by decide +kernel
theorem d_Mo_out_1 : decode b_Mo_out 1 = .ok (.iconst 0, 1) := by decide +kernel
theorem d_Mo_out_2 : decode b_Mo_out 2 = .ok (.putfield 125, 3) := by decide +kernel
theorem d_Mo_out_5 : decode b_Mo_out 5 = .ok (.iload_n 1, 1) := by decide +kernel
theorem d_Mo_out_6 : decode b_Mo_out 6 = .ok (.ifCond .lt 20, 3) := by decide +kernel
theorem d_Mo_out_9 : decode b_Mo_out 9 = .ok (.iload_n 1, 1) := by decide +kernel
theorem d_Mo_out_10 : decode b_Mo_out 10 = .ok (.aload_n 0, 1) := by decide +kernel
theorem d_Mo_out_11 : decode b_Mo_out 11 = .ok (.getfield 301, 3) := by decide +kernel
theorem d_Mo_out_14 : decode b_Mo_out 14 = .ok (.if_icmp .ge 12, 3) := by decide +kernel
theorem d_Mo_out_17 : decode b_Mo_out 17 = .ok (.aload_n 0, 1) := by decide +kernel
theorem d_Mo_out_18 : decode b_Mo_out 18 = .ok (.getfield 110, 3) := by decide +kernel
theorem d_Mo_out_21 : decode b_Mo_out 21 = .ok (.iload_n 1, 1) := by decide +kernel
theorem d_Mo_out_22 : decode b_Mo_out 22 = .ok (.iaload, 1) := by decide +kernel
theorem d_Mo_out_23 : decode b_Mo_out 23 = .ok (.goto 4, 3) := by decide +kernel
theorem d_Mo_out_26 : decode b_Mo_out 26 = .ok (.iconst 0, 1) := by decide +kernel
theorem d_Mo_out_27 : decode b_Mo_out 27 = .ok (.ireturn, 1) := by decide +kernel
theorem d_Mo_variable_0 : decode b_Mo_variable 0 = .ok (.aload_n 0, 1) := by decide +kernel
theorem d_Mo_variable_1 : decode b_Mo_variable 1 = .ok (.iconst 0, 1) := by decide +kernel
theorem d_Mo_variable_2 : decode b_Mo_variable 2 = .ok (.putfield 125, 3) := by decide +kernel
theorem d_Mo_variable_5 : decode b_Mo_variable 5 = .ok (.iload_n 1, 1) := by decide +kernel
theorem d_Mo_variable_6 : decode b_Mo_variable 6 = .ok (.invokestatic 135, 3) := by decide +kernel
theorem d_Mo_variable_9 : decode b_Mo_variable 9 = .ok (.ifCond .eq 12, 3) := by decide +kernel
theorem d_Mo_variable_12 : decode b_Mo_variable 12 = .ok (.aload_n 0, 1) := by decide +kernel
theorem d_Mo_variable_13 : decode b_Mo_variable 13 = .ok (.getfield 103, 3) := by decide +kernel
theorem d_Mo_variable_16 : decode b_Mo_variable 16 = .ok (.iload_n 1, 1) := by decide +kernel
theorem d_Mo_variable_17 : decode b_Mo_variable 17 = .ok (.iaload, 1) := by decide +kernel
theorem d_Mo_variable_18 : decode b_Mo_variable 18 = .ok (.goto 4, 3) := by decide +kernel
theorem d_Mo_variable_21 : decode b_Mo_variable 21 = .ok (.iconst 0, 1) := by decide +kernel
theorem d_Mo_variable_22 : decode b_Mo_variable 22 = .ok (.ireturn, 1) := by decide +kernel
theorem d_Mo_thrown_0 : decode b_Mo_thrown 0 = .ok (.aload_n 0, 1) := by decide +kernel
theorem d_Mo_thrown_1 : decode b_Mo_thrown 1 = .ok (.getfield 125, 3) := by decide +kernel
theorem d_Mo_thrown_4 : decode b_Mo_thrown 4 = .ok (.ireturn, 1) := by decide +kernel
end
section
def wp_Ar_fill_AII_10_5 (Q : um_S → Prop) : Nat → Int32 → Int32 → Int32 → um_S → Prop
  | 0, _, _, _, _ => False
  | n + 1, v1, v2, v3, σ =>
    (v3 ≤ v2 → Q σ) ∧ (¬ v3 ≤ v2 → vp_in v2 6 ∧ ∀ σ1 : um_S, σ1 = um_up σ 10 v2.toNatClampNeg v1 → wp_Ar_fill_AII_10_5 Q n v1 (v2 + 1) v3 σ1)
def wp_Ar_fill_AII_10 (a1 : Int32) (σ : um_S) (Q : um_S → Prop) : Prop :=
  wp_Ar_fill_AII_10_5 Q 100000 a1 0 6 σ
set_option maxHeartbeats 4000000 in
set_option maxRecDepth 100000 in
theorem b_Ar_fill_AII_10_5 {Q : um_S → Prop} (n : Nat) : ∀ (v1 : Int32) (v2 : Int32) (v3 : Int32) (σ : um_S), wp_Ar_fill_AII_10_5 Q n v1 v2 v3 σ → um_Ev um_cl um_AW um_L um_SX M_Ar_fill_AII 0 0 5 [some (.ref 10), some (.int v1), some (.int v2), some (.int v3)] [] σ (um_Qv Q) := by
  induction n with
  | zero =>
    intro v1 v2 v3 σ h
    exact h.elim
  | succ n ih =>
    intro v1 v2 v3 σ h
    unfold wp_Ar_fill_AII_10_5 at h
    refine um_iload_n (pc2 := 6) d_Ar_fill_AII_5 rfl rfl ?_
    refine um_iload_n (pc2 := 7) d_Ar_fill_AII_6 rfl rfl ?_
    refine um_icmp_ge (pc2 := 10) (tgt := 20) d_Ar_fill_AII_7 rfl rfl (fun z => ?_) (fun z => ?_)
    · replace h := h.1 z
      exact um_vret d_Ar_fill_AII_20 rfl ⟨rfl, h⟩
    · replace h := h.2 z
      refine um_aload_n (pc2 := 11) d_Ar_fill_AII_10 rfl rfl ?_
      refine um_iload_n (pc2 := 12) d_Ar_fill_AII_11 rfl rfl ?_
      refine um_iload_n (pc2 := 13) d_Ar_fill_AII_12 rfl rfl ?_
      refine um_iast (pc2 := 14) d_Ar_fill_AII_13 rfl rfl h.1 rfl (um_gen (fun σ1 eσ1 => ?_))
      replace h := h.2 σ1 eσ1
      refine um_iinc (pc2 := 17) (v := (v2 + 1)) (ls2 := [some (.ref 10), some (.int v1), some (.int (v2 + 1)), some (.int v3)]) d_Ar_fill_AII_14 rfl rfl rfl (Nat.le_of_ble_eq_true rfl) rfl ?_
      refine um_goto (tgt := 5) d_Ar_fill_AII_17 rfl ?_
      refine um_forget [true, true, true, true] rfl ?_
      exact ih _ _ _ _ h
set_option maxHeartbeats 4000000 in
set_option maxRecDepth 100000 in
theorem c_Ar_fill_AII_10 {a1 : Int32} {σ : um_S} {Q : um_S → Prop} (h : wp_Ar_fill_AII_10 a1 σ Q) : um_Con um_cl um_AW um_L um_SX 0 0 M_Ar_fill_AII [.ref 10, .int a1] σ (um_Qv Q) := by
  refine um_con (by decide) (Nat.le_of_ble_eq_true rfl) (fun v hv => by simp only [List.mem_cons, List.not_mem_nil, or_false] at hv; rcases hv with rfl | rfl <;> rfl) ?_
  show um_Ev um_cl um_AW um_L um_SX M_Ar_fill_AII 0 0 0 [some (.ref 10), some (.int a1), none, none] [] σ (um_Qv Q)
  unfold wp_Ar_fill_AII_10 at h
  refine um_iconst (pc2 := 1) (v := 0) d_Ar_fill_AII_0 rfl (by decide) ?_
  refine um_istore_n (pc2 := 2) (ls2 := [some (.ref 10), some (.int a1), some (.int 0), none]) d_Ar_fill_AII_1 rfl (Nat.le_of_ble_eq_true rfl) rfl ?_
  refine um_aload_n (pc2 := 3) d_Ar_fill_AII_2 rfl rfl ?_
  refine um_alen (pc2 := 4) d_Ar_fill_AII_3 rfl rfl ?_
  refine um_istore_n (pc2 := 5) (ls2 := [some (.ref 10), some (.int a1), some (.int 0), some (.int 6)]) d_Ar_fill_AII_4 rfl (Nat.le_of_ble_eq_true rfl) rfl ?_
  refine um_forget [true, true, true, true] rfl ?_
  exact b_Ar_fill_AII_10_5 _ _ _ _ _ h
def wp_Tr_kindOf (a1 : Int32) (σ : um_S) (Q : Int32 → um_S → Prop) : Prop :=
  (a1 < 0 → Q (-1) σ) ∧ (¬ a1 < 0 → ((σ 1 3) ≤ a1 → Q (-1) σ) ∧ (¬ (σ 1 3) ≤ a1 → vp_in a1 150 ∧ Q (σ 8 a1.toNatClampNeg) σ))
set_option maxHeartbeats 4000000 in
set_option maxRecDepth 100000 in
theorem c_Tr_kindOf {a1 : Int32} {σ : um_S} {Q : Int32 → um_S → Prop} (h : wp_Tr_kindOf a1 σ Q) : um_Con um_cl um_AW um_L um_SX 0 0 M_Tr_kindOf [.ref 1, .int a1] σ (um_Qi Q) := by
  refine um_con (by decide) (Nat.le_of_ble_eq_true rfl) (fun v hv => by simp only [List.mem_cons, List.not_mem_nil, or_false] at hv; rcases hv with rfl | rfl <;> rfl) ?_
  show um_Ev um_cl um_AW um_L um_SX M_Tr_kindOf 0 0 0 [some (.ref 1), some (.int a1)] [] σ (um_Qi Q)
  unfold wp_Tr_kindOf at h
  refine um_iload_n (pc2 := 1) d_Tr_kindOf_0 rfl rfl ?_
  refine um_if_lt (pc2 := 4) (tgt := 21) d_Tr_kindOf_1 rfl rfl (fun z => ?_) (fun z => ?_)
  · replace h := h.1 z
    refine um_iconst (pc2 := 22) (v := (-1)) d_Tr_kindOf_21 rfl (by decide) ?_
    exact um_iret d_Tr_kindOf_22 rfl ⟨_, rfl, h⟩
  · replace h := h.2 z
    refine um_iload_n (pc2 := 5) d_Tr_kindOf_4 rfl rfl ?_
    refine um_aload_n (pc2 := 6) d_Tr_kindOf_5 rfl rfl ?_
    refine um_getI (pc2 := 9) d_Tr_kindOf_6 rfl f_Tr_29 rfl rfl ?_
    refine um_icmp_ge (pc2 := 12) (tgt := 21) d_Tr_kindOf_9 rfl rfl (fun z => ?_) (fun z => ?_)
    · replace h := h.1 z
      refine um_iconst (pc2 := 22) (v := (-1)) d_Tr_kindOf_21 rfl (by decide) ?_
      exact um_iret d_Tr_kindOf_22 rfl ⟨_, rfl, h⟩
    · replace h := h.2 z
      refine um_aload_n (pc2 := 13) d_Tr_kindOf_12 rfl rfl ?_
      refine um_getR (pc2 := 16) d_Tr_kindOf_13 rfl f_Tr_9 rfl rfl ?_
      refine um_iload_n (pc2 := 17) d_Tr_kindOf_16 rfl rfl ?_
      refine um_iald (pc2 := 18) d_Tr_kindOf_17 rfl rfl h.1 rfl ?_
      replace h := h.2
      refine um_goto (tgt := 22) d_Tr_kindOf_18 rfl ?_
      exact um_iret d_Tr_kindOf_22 rfl ⟨_, rfl, h⟩
def wp_UM_isVariable (a0 : Int32) (σ : um_S) (Q : Bool → um_S → Prop) : Prop :=
  (a0 < 0 → Q false σ) ∧ (¬ a0 < 0 → (8 ≤ a0 → Q false σ) ∧ (¬ 8 ≤ a0 → Q true σ))
set_option maxHeartbeats 4000000 in
set_option maxRecDepth 100000 in
theorem c_UM_isVariable {a0 : Int32} {σ : um_S} {Q : Bool → um_S → Prop} (h : wp_UM_isVariable a0 σ Q) : um_Con um_cl um_AW um_L um_SX 0 0 M_UM_isVariable [.int a0] σ (um_Qz Q) := by
  refine um_con (by decide) (Nat.le_of_ble_eq_true rfl) (fun v hv => by simp only [List.mem_cons, List.not_mem_nil, or_false] at hv; rcases hv with rfl <;> rfl) ?_
  show um_Ev um_cl um_AW um_L um_SX M_UM_isVariable 0 0 0 [some (.int a0)] [] σ (um_Qz Q)
  unfold wp_UM_isVariable at h
  refine um_iload_n (pc2 := 1) d_UM_isVariable_0 rfl rfl ?_
  refine um_if_lt (pc2 := 4) (tgt := 14) d_UM_isVariable_1 rfl rfl (fun z => ?_) (fun z => ?_)
  · replace h := h.1 z
    refine um_iconst (pc2 := 15) (v := 0) d_UM_isVariable_14 rfl (by decide) ?_
    exact um_zret d_UM_isVariable_15 rfl (by decide) ⟨false, rfl, h⟩
  · replace h := h.2 z
    refine um_iload_n (pc2 := 5) d_UM_isVariable_4 rfl rfl ?_
    refine um_bipush (pc2 := 7) (v := 8) d_UM_isVariable_5 rfl (by decide) ?_
    refine um_icmp_ge (pc2 := 10) (tgt := 14) d_UM_isVariable_7 rfl rfl (fun z => ?_) (fun z => ?_)
    · replace h := h.1 z
      refine um_iconst (pc2 := 15) (v := 0) d_UM_isVariable_14 rfl (by decide) ?_
      exact um_zret d_UM_isVariable_15 rfl (by decide) ⟨false, rfl, h⟩
    · replace h := h.2 z
      refine um_iconst (pc2 := 11) (v := 1) d_UM_isVariable_10 rfl (by decide) ?_
      refine um_goto (tgt := 15) d_UM_isVariable_11 rfl ?_
      exact um_zret d_UM_isVariable_15 rfl (by decide) ⟨true, rfl, h⟩
def wp_UM_isFunction (a0 : Int32) (σ : um_S) (Q : Bool → um_S → Prop) : Prop :=
  (a0 < 0 → Q false σ) ∧ (¬ a0 < 0 → (6 ≤ a0 → Q false σ) ∧ (¬ 6 ≤ a0 → Q true σ))
set_option maxHeartbeats 4000000 in
set_option maxRecDepth 100000 in
theorem c_UM_isFunction {a0 : Int32} {σ : um_S} {Q : Bool → um_S → Prop} (h : wp_UM_isFunction a0 σ Q) : um_Con um_cl um_AW um_L um_SX 0 0 M_UM_isFunction [.int a0] σ (um_Qz Q) := by
  refine um_con (by decide) (Nat.le_of_ble_eq_true rfl) (fun v hv => by simp only [List.mem_cons, List.not_mem_nil, or_false] at hv; rcases hv with rfl <;> rfl) ?_
  show um_Ev um_cl um_AW um_L um_SX M_UM_isFunction 0 0 0 [some (.int a0)] [] σ (um_Qz Q)
  unfold wp_UM_isFunction at h
  refine um_iload_n (pc2 := 1) d_UM_isFunction_0 rfl rfl ?_
  refine um_if_lt (pc2 := 4) (tgt := 14) d_UM_isFunction_1 rfl rfl (fun z => ?_) (fun z => ?_)
  · replace h := h.1 z
    refine um_iconst (pc2 := 15) (v := 0) d_UM_isFunction_14 rfl (by decide) ?_
    exact um_zret d_UM_isFunction_15 rfl (by decide) ⟨false, rfl, h⟩
  · replace h := h.2 z
    refine um_iload_n (pc2 := 5) d_UM_isFunction_4 rfl rfl ?_
    refine um_bipush (pc2 := 7) (v := 6) d_UM_isFunction_5 rfl (by decide) ?_
    refine um_icmp_ge (pc2 := 10) (tgt := 14) d_UM_isFunction_7 rfl rfl (fun z => ?_) (fun z => ?_)
    · replace h := h.1 z
      refine um_iconst (pc2 := 15) (v := 0) d_UM_isFunction_14 rfl (by decide) ?_
      exact um_zret d_UM_isFunction_15 rfl (by decide) ⟨false, rfl, h⟩
    · replace h := h.2 z
      refine um_iconst (pc2 := 11) (v := 1) d_UM_isFunction_10 rfl (by decide) ?_
      refine um_goto (tgt := 15) d_UM_isFunction_11 rfl ?_
      exact um_zret d_UM_isFunction_15 rfl (by decide) ⟨true, rfl, h⟩
def wp_Tr_fits (a1 : Int32) (a2 : Int32) (σ : um_S) (Q : Bool → um_S → Prop) : Prop :=
  wp_Tr_kindOf a2 σ (fun x2 σ1 => (a1 = 1 → wp_UM_isVariable a2 σ1 (fun t4 σ3 => Q t4 σ3)) ∧ (¬ a1 = 1 → (a1 = 2 → wp_UM_isFunction a2 σ1 (fun t6 σ5 => Q t6 σ5)) ∧ (¬ a1 = 2 → (a1 = 3 → (x2 < 0 → Q false σ1) ∧ (¬ x2 < 0 → (7 < x2 → Q false σ1) ∧ (¬ 7 < x2 → Q true σ1))) ∧ (¬ a1 = 3 → (a1 = 4 → (x2 < 8 → Q false σ1) ∧ (¬ x2 < 8 → (18 < x2 → Q false σ1) ∧ (¬ 18 < x2 → Q true σ1))) ∧ (¬ a1 = 4 → (a1 = 5 → (x2 < 19 → Q false σ1) ∧ (¬ x2 < 19 → Q true σ1)) ∧ (¬ a1 = 5 → (a1 = 6 → (a2 = (-1) → Q true σ1) ∧ (¬ a2 = (-1) → (x2 < 8 → Q false σ1) ∧ (¬ x2 < 8 → (18 < x2 → Q false σ1) ∧ (¬ 18 < x2 → Q true σ1)))) ∧ (¬ a1 = 6 → (a1 = 7 → (a2 = (-1) → Q true σ1) ∧ (¬ a2 = (-1) → (x2 < 19 → Q false σ1) ∧ (¬ x2 < 19 → Q true σ1))) ∧ (¬ a1 = 7 → Q true σ1))))))))
set_option maxHeartbeats 4000000 in
set_option maxRecDepth 100000 in
theorem c_Tr_fits {a1 : Int32} {a2 : Int32} {σ : um_S} {Q : Bool → um_S → Prop} (h : wp_Tr_fits a1 a2 σ Q) : um_Con um_cl um_AW um_L um_SX 1 21 M_Tr_fits [.ref 1, .int a1, .int a2] σ (um_Qz Q) := by
  refine um_con (by decide) (Nat.le_of_ble_eq_true rfl) (fun v hv => by simp only [List.mem_cons, List.not_mem_nil, or_false] at hv; rcases hv with rfl | rfl | rfl <;> rfl) ?_
  show um_Ev um_cl um_AW um_L um_SX M_Tr_fits 1 21 0 [some (.ref 1), some (.int a1), some (.int a2), none] [] σ (um_Qz Q)
  unfold wp_Tr_fits at h
  refine um_aload_n (pc2 := 1) d_Tr_fits_0 rfl rfl ?_
  refine um_iload_n (pc2 := 2) d_Tr_fits_1 rfl rfl ?_
  refine um_callV1i (pc2 := 5) d_Tr_fits_2 rfl g_Tr_48 rfl (Nat.le_of_ble_eq_true rfl) (Nat.le_of_ble_eq_true rfl) (Nat.le_of_ble_eq_true rfl) (c_Tr_kindOf h) (fun x2 σ1 h => ?_)
  refine um_istore_n (pc2 := 6) (ls2 := [some (.ref 1), some (.int a1), some (.int a2), some (.int x2)]) d_Tr_fits_5 rfl (Nat.le_of_ble_eq_true rfl) rfl ?_
  refine um_iload_n (pc2 := 7) d_Tr_fits_6 rfl rfl ?_
  by_cases z1 : a1 = 1
  · replace h := h.1 z1
    refine um_tableAt (tgt := 48) d_Tr_fits_7 z1 (kk := 1) (by decide) (by decide) (by decide) rfl rfl ?_
    refine um_iload_n (pc2 := 49) d_Tr_fits_48 rfl rfl ?_
    refine um_callS1z (pc2 := 52) d_Tr_fits_49 rfl g_Tr_52 (Nat.le_of_ble_eq_true rfl) (Nat.le_of_ble_eq_true rfl) (Nat.le_of_ble_eq_true rfl) (c_UM_isVariable h) (fun t4 σ3 h => ?_)
    exact um_zret d_Tr_fits_52 rfl (um_b01 t4) ⟨t4, rfl, h⟩
  replace h := h.2 z1
  by_cases z2 : a1 = 2
  · replace h := h.1 z2
    refine um_tableAt (tgt := 53) d_Tr_fits_7 z2 (kk := 2) (by decide) (by decide) (by decide) rfl rfl ?_
    refine um_iload_n (pc2 := 54) d_Tr_fits_53 rfl rfl ?_
    refine um_callS1z (pc2 := 57) d_Tr_fits_54 rfl g_Tr_40 (Nat.le_of_ble_eq_true rfl) (Nat.le_of_ble_eq_true rfl) (Nat.le_of_ble_eq_true rfl) (c_UM_isFunction h) (fun t6 σ5 h => ?_)
    exact um_zret d_Tr_fits_57 rfl (um_b01 t6) ⟨t6, rfl, h⟩
  replace h := h.2 z2
  by_cases z3 : a1 = 3
  · replace h := h.1 z3
    refine um_tableAt (tgt := 58) d_Tr_fits_7 z3 (kk := 3) (by decide) (by decide) (by decide) rfl rfl ?_
    refine um_iload_n (pc2 := 59) d_Tr_fits_58 rfl rfl ?_
    refine um_if_lt (pc2 := 62) (tgt := 72) d_Tr_fits_59 rfl rfl (fun z => ?_) (fun z => ?_)
    · replace h := h.1 z
      refine um_iconst (pc2 := 73) (v := 0) d_Tr_fits_72 rfl (by decide) ?_
      exact um_zret d_Tr_fits_73 rfl (by decide) ⟨false, rfl, h⟩
    · replace h := h.2 z
      refine um_iload_n (pc2 := 63) d_Tr_fits_62 rfl rfl ?_
      refine um_bipush (pc2 := 65) (v := 7) d_Tr_fits_63 rfl (by decide) ?_
      refine um_icmp_gt (pc2 := 68) (tgt := 72) d_Tr_fits_65 rfl rfl (fun z => ?_) (fun z => ?_)
      · replace h := h.1 z
        refine um_iconst (pc2 := 73) (v := 0) d_Tr_fits_72 rfl (by decide) ?_
        exact um_zret d_Tr_fits_73 rfl (by decide) ⟨false, rfl, h⟩
      · replace h := h.2 z
        refine um_iconst (pc2 := 69) (v := 1) d_Tr_fits_68 rfl (by decide) ?_
        refine um_goto (tgt := 73) d_Tr_fits_69 rfl ?_
        exact um_zret d_Tr_fits_73 rfl (by decide) ⟨true, rfl, h⟩
  replace h := h.2 z3
  by_cases z4 : a1 = 4
  · replace h := h.1 z4
    refine um_tableAt (tgt := 74) d_Tr_fits_7 z4 (kk := 4) (by decide) (by decide) (by decide) rfl rfl ?_
    refine um_iload_n (pc2 := 75) d_Tr_fits_74 rfl rfl ?_
    refine um_bipush (pc2 := 77) (v := 8) d_Tr_fits_75 rfl (by decide) ?_
    refine um_icmp_lt (pc2 := 80) (tgt := 90) d_Tr_fits_77 rfl rfl (fun z => ?_) (fun z => ?_)
    · replace h := h.1 z
      refine um_iconst (pc2 := 91) (v := 0) d_Tr_fits_90 rfl (by decide) ?_
      exact um_zret d_Tr_fits_91 rfl (by decide) ⟨false, rfl, h⟩
    · replace h := h.2 z
      refine um_iload_n (pc2 := 81) d_Tr_fits_80 rfl rfl ?_
      refine um_bipush (pc2 := 83) (v := 18) d_Tr_fits_81 rfl (by decide) ?_
      refine um_icmp_gt (pc2 := 86) (tgt := 90) d_Tr_fits_83 rfl rfl (fun z => ?_) (fun z => ?_)
      · replace h := h.1 z
        refine um_iconst (pc2 := 91) (v := 0) d_Tr_fits_90 rfl (by decide) ?_
        exact um_zret d_Tr_fits_91 rfl (by decide) ⟨false, rfl, h⟩
      · replace h := h.2 z
        refine um_iconst (pc2 := 87) (v := 1) d_Tr_fits_86 rfl (by decide) ?_
        refine um_goto (tgt := 91) d_Tr_fits_87 rfl ?_
        exact um_zret d_Tr_fits_91 rfl (by decide) ⟨true, rfl, h⟩
  replace h := h.2 z4
  by_cases z5 : a1 = 5
  · replace h := h.1 z5
    refine um_tableAt (tgt := 92) d_Tr_fits_7 z5 (kk := 5) (by decide) (by decide) (by decide) rfl rfl ?_
    refine um_iload_n (pc2 := 93) d_Tr_fits_92 rfl rfl ?_
    refine um_bipush (pc2 := 95) (v := 19) d_Tr_fits_93 rfl (by decide) ?_
    refine um_icmp_lt (pc2 := 98) (tgt := 102) d_Tr_fits_95 rfl rfl (fun z => ?_) (fun z => ?_)
    · replace h := h.1 z
      refine um_iconst (pc2 := 103) (v := 0) d_Tr_fits_102 rfl (by decide) ?_
      exact um_zret d_Tr_fits_103 rfl (by decide) ⟨false, rfl, h⟩
    · replace h := h.2 z
      refine um_iconst (pc2 := 99) (v := 1) d_Tr_fits_98 rfl (by decide) ?_
      refine um_goto (tgt := 103) d_Tr_fits_99 rfl ?_
      exact um_zret d_Tr_fits_103 rfl (by decide) ⟨true, rfl, h⟩
  replace h := h.2 z5
  by_cases z6 : a1 = 6
  · replace h := h.1 z6
    refine um_tableAt (tgt := 104) d_Tr_fits_7 z6 (kk := 6) (by decide) (by decide) (by decide) rfl rfl ?_
    refine um_iload_n (pc2 := 105) d_Tr_fits_104 rfl rfl ?_
    refine um_iconst (pc2 := 106) (v := (-1)) d_Tr_fits_105 rfl (by decide) ?_
    refine um_icmp_eq (pc2 := 109) (tgt := 121) d_Tr_fits_106 rfl rfl (fun z => ?_) (fun z => ?_)
    · replace h := h.1 z
      refine um_iconst (pc2 := 122) (v := 1) d_Tr_fits_121 rfl (by decide) ?_
      refine um_goto (tgt := 126) d_Tr_fits_122 rfl ?_
      exact um_zret d_Tr_fits_126 rfl (by decide) ⟨true, rfl, h⟩
    · replace h := h.2 z
      refine um_iload_n (pc2 := 110) d_Tr_fits_109 rfl rfl ?_
      refine um_bipush (pc2 := 112) (v := 8) d_Tr_fits_110 rfl (by decide) ?_
      refine um_icmp_lt (pc2 := 115) (tgt := 125) d_Tr_fits_112 rfl rfl (fun z => ?_) (fun z => ?_)
      · replace h := h.1 z
        refine um_iconst (pc2 := 126) (v := 0) d_Tr_fits_125 rfl (by decide) ?_
        exact um_zret d_Tr_fits_126 rfl (by decide) ⟨false, rfl, h⟩
      · replace h := h.2 z
        refine um_iload_n (pc2 := 116) d_Tr_fits_115 rfl rfl ?_
        refine um_bipush (pc2 := 118) (v := 18) d_Tr_fits_116 rfl (by decide) ?_
        refine um_icmp_gt (pc2 := 121) (tgt := 125) d_Tr_fits_118 rfl rfl (fun z => ?_) (fun z => ?_)
        · replace h := h.1 z
          refine um_iconst (pc2 := 126) (v := 0) d_Tr_fits_125 rfl (by decide) ?_
          exact um_zret d_Tr_fits_126 rfl (by decide) ⟨false, rfl, h⟩
        · replace h := h.2 z
          refine um_iconst (pc2 := 122) (v := 1) d_Tr_fits_121 rfl (by decide) ?_
          refine um_goto (tgt := 126) d_Tr_fits_122 rfl ?_
          exact um_zret d_Tr_fits_126 rfl (by decide) ⟨true, rfl, h⟩
  replace h := h.2 z6
  by_cases z7 : a1 = 7
  · replace h := h.1 z7
    refine um_tableAt (tgt := 127) d_Tr_fits_7 z7 (kk := 7) (by decide) (by decide) (by decide) rfl rfl ?_
    refine um_iload_n (pc2 := 128) d_Tr_fits_127 rfl rfl ?_
    refine um_iconst (pc2 := 129) (v := (-1)) d_Tr_fits_128 rfl (by decide) ?_
    refine um_icmp_eq (pc2 := 132) (tgt := 138) d_Tr_fits_129 rfl rfl (fun z => ?_) (fun z => ?_)
    · replace h := h.1 z
      refine um_iconst (pc2 := 139) (v := 1) d_Tr_fits_138 rfl (by decide) ?_
      refine um_goto (tgt := 143) d_Tr_fits_139 rfl ?_
      exact um_zret d_Tr_fits_143 rfl (by decide) ⟨true, rfl, h⟩
    · replace h := h.2 z
      refine um_iload_n (pc2 := 133) d_Tr_fits_132 rfl rfl ?_
      refine um_bipush (pc2 := 135) (v := 19) d_Tr_fits_133 rfl (by decide) ?_
      refine um_icmp_lt (pc2 := 138) (tgt := 142) d_Tr_fits_135 rfl rfl (fun z => ?_) (fun z => ?_)
      · replace h := h.1 z
        refine um_iconst (pc2 := 143) (v := 0) d_Tr_fits_142 rfl (by decide) ?_
        exact um_zret d_Tr_fits_143 rfl (by decide) ⟨false, rfl, h⟩
      · replace h := h.2 z
        refine um_iconst (pc2 := 139) (v := 1) d_Tr_fits_138 rfl (by decide) ?_
        refine um_goto (tgt := 143) d_Tr_fits_139 rfl ?_
        exact um_zret d_Tr_fits_143 rfl (by decide) ⟨true, rfl, h⟩
  replace h := h.2 z7
  have hE : um_Ev um_cl um_AW um_L um_SX M_Tr_fits 1 21 144 [some (.ref 1), some (.int a1), some (.int a2), some (.int x2)] [] σ1 (um_Qz Q) := by
    refine um_iconst (pc2 := 145) (v := 1) d_Tr_fits_144 rfl (by decide) ?_
    exact um_zret d_Tr_fits_145 rfl (by decide) ⟨true, rfl, h⟩
  exact um_tableOut (tgt := 144) d_Tr_fits_7 (by have := um_toInt_ne (kk := 1) z1 (by decide); have := um_toInt_ne (kk := 2) z2 (by decide); have := um_toInt_ne (kk := 3) z3 (by decide); have := um_toInt_ne (kk := 4) z4 (by decide); have := um_toInt_ne (kk := 5) z5 (by decide); have := um_toInt_ne (kk := 6) z6 (by decide); have := um_toInt_ne (kk := 7) z7 (by decide); omega) rfl hE
def wp_Tr_add_115 (Q : Int32 → um_S → Prop) (v1 : Int32) (v2 : Int32) (v3 : Int32) (v4 : Int32) (v5 : Int32) (v6 : Int32) (v8 : Int32) (σ : um_S) : Prop :=
  (¬ v8 = 0 → ∀ x1 : Int32, x1 = ((σ 1 3) * 5) → vp_in (σ 1 3) 150 ∧ ∀ σ2 : um_S, σ2 = um_up σ 8 (σ 1 3).toNatClampNeg v1 → vp_in x1 750 ∧ ∀ σ3 : um_S, σ3 = um_up σ2 9 x1.toNatClampNeg v2 → vp_in (x1 + 1) 750 ∧ ∀ σ4 : um_S, σ4 = um_up σ3 9 (x1 + 1).toNatClampNeg v3 → vp_in (x1 + 2) 750 ∧ ∀ σ5 : um_S, σ5 = um_up σ4 9 (x1 + 2).toNatClampNeg v4 → vp_in (x1 + 3) 750 ∧ ∀ σ6 : um_S, σ6 = um_up σ5 9 (x1 + 3).toNatClampNeg v5 → vp_in (x1 + 4) 750 ∧ ∀ σ7 : um_S, σ7 = um_up σ6 9 (x1 + 4).toNatClampNeg v6 → ∀ σ8 : um_S, σ8 = um_up σ7 1 3 ((σ7 1 3) + 1) → Q ((σ8 1 3) - 1) σ8) ∧ (v8 = 0 → Q (-1) σ)
def wp_Tr_add_112 (Q : Int32 → um_S → Prop) (v1 : Int32) (v2 : Int32) (v3 : Int32) (v4 : Int32) (v5 : Int32) (v6 : Int32) (σ : um_S) : Prop :=
  wp_Tr_add_115 Q v1 v2 v3 v4 v5 v6 0 σ
def wp_Tr_add (a1 : Int32) (a2 : Int32) (a3 : Int32) (a4 : Int32) (a5 : Int32) (a6 : Int32) (σ : um_S) (Q : Int32 → um_S → Prop) : Prop :=
  (a1 < 0 → Q (-1) σ) ∧ (¬ a1 < 0 → (20 < a1 → Q (-1) σ) ∧ (¬ 20 < a1 → ((σ 1 3) < 150 → ∀ x1 : Int32, x1 = (a1 * 5) → vp_in x1 105 ∧ wp_Tr_fits (um_SORTS x1.toNatClampNeg) a2 σ (fun t3 σ2 => (t3 = false → wp_Tr_add_112 Q a1 a2 a3 a4 a5 a6 σ2) ∧ (t3 = true → vp_in (x1 + 1) 105 ∧ wp_Tr_fits (um_SORTS (x1 + 1).toNatClampNeg) a3 σ2 (fun t5 σ4 => (t5 = false → wp_Tr_add_112 Q a1 a2 a3 a4 a5 a6 σ4) ∧ (t5 = true → vp_in (x1 + 2) 105 ∧ wp_Tr_fits (um_SORTS (x1 + 2).toNatClampNeg) a4 σ4 (fun t7 σ6 => (t7 = false → wp_Tr_add_112 Q a1 a2 a3 a4 a5 a6 σ6) ∧ (t7 = true → vp_in (x1 + 3) 105 ∧ wp_Tr_fits (um_SORTS (x1 + 3).toNatClampNeg) a5 σ6 (fun t9 σ8 => (t9 = false → wp_Tr_add_112 Q a1 a2 a3 a4 a5 a6 σ8) ∧ (t9 = true → vp_in (x1 + 4) 105 ∧ wp_Tr_fits (um_SORTS (x1 + 4).toNatClampNeg) a6 σ8 (fun t11 σ10 => (t11 = false → wp_Tr_add_112 Q a1 a2 a3 a4 a5 a6 σ10) ∧ (t11 = true → wp_Tr_add_115 Q a1 a2 a3 a4 a5 a6 1 σ10))))))))))) ∧ (¬ (σ 1 3) < 150 → Q (-1) σ)))
set_option maxHeartbeats 4000000 in
set_option maxRecDepth 100000 in
theorem b_Tr_add_115 {Q : Int32 → um_S → Prop} {v1 : Int32} {v2 : Int32} {v3 : Int32} {v4 : Int32} {v5 : Int32} {v6 : Int32} {v8 : Int32} {σ : um_S} (h : wp_Tr_add_115 Q v1 v2 v3 v4 v5 v6 v8 σ) : um_Ev um_cl um_AW um_L um_SX M_Tr_add 2 44 115 [some (.ref 1), some (.int v1), some (.int v2), some (.int v3), some (.int v4), some (.int v5), some (.int v6), none, some (.int v8), none] [] σ (um_Qi Q) := by
  unfold wp_Tr_add_115 at h
  refine um_iload (pc2 := 117) d_Tr_add_115 rfl rfl ?_
  refine um_if_ne (pc2 := 120) (tgt := 122) d_Tr_add_117 rfl rfl (fun z => ?_) (fun z => ?_)
  · replace h := h.1 z
    refine um_aload_n (pc2 := 123) d_Tr_add_122 rfl rfl ?_
    refine um_getI (pc2 := 126) d_Tr_add_123 rfl f_Tr_29 rfl rfl ?_
    refine um_iconst (pc2 := 127) (v := 5) d_Tr_add_126 rfl (by decide) ?_
    refine um_imul (pc2 := 128) d_Tr_add_127 rfl ?_
    refine um_top (fun x1 ex1 => ?_)
    replace h := h x1 ex1
    refine um_istore (pc2 := 130) (ls2 := [some (.ref 1), some (.int v1), some (.int v2), some (.int v3), some (.int v4), some (.int v5), some (.int v6), none, some (.int v8), some (.int x1)]) d_Tr_add_128 rfl (Nat.le_of_ble_eq_true rfl) rfl ?_
    refine um_aload_n (pc2 := 131) d_Tr_add_130 rfl rfl ?_
    refine um_getR (pc2 := 134) d_Tr_add_131 rfl f_Tr_9 rfl rfl ?_
    refine um_aload_n (pc2 := 135) d_Tr_add_134 rfl rfl ?_
    refine um_getI (pc2 := 138) d_Tr_add_135 rfl f_Tr_29 rfl rfl ?_
    refine um_iload_n (pc2 := 139) d_Tr_add_138 rfl rfl ?_
    refine um_iast (pc2 := 140) d_Tr_add_139 rfl rfl h.1 rfl (um_gen (fun σ2 eσ2 => ?_))
    replace h := h.2 σ2 eσ2
    refine um_aload_n (pc2 := 141) d_Tr_add_140 rfl rfl ?_
    refine um_getR (pc2 := 144) d_Tr_add_141 rfl f_Tr_15 rfl rfl ?_
    refine um_iload (pc2 := 146) d_Tr_add_144 rfl rfl ?_
    refine um_iload_n (pc2 := 147) d_Tr_add_146 rfl rfl ?_
    refine um_iast (pc2 := 148) d_Tr_add_147 rfl rfl h.1 rfl (um_gen (fun σ3 eσ3 => ?_))
    replace h := h.2 σ3 eσ3
    refine um_aload_n (pc2 := 149) d_Tr_add_148 rfl rfl ?_
    refine um_getR (pc2 := 152) d_Tr_add_149 rfl f_Tr_15 rfl rfl ?_
    refine um_iload (pc2 := 154) d_Tr_add_152 rfl rfl ?_
    refine um_iconst (pc2 := 155) (v := 1) d_Tr_add_154 rfl (by decide) ?_
    refine um_iadd (pc2 := 156) d_Tr_add_155 rfl ?_
    refine um_iload_n (pc2 := 157) d_Tr_add_156 rfl rfl ?_
    refine um_iast (pc2 := 158) d_Tr_add_157 rfl rfl h.1 rfl (um_gen (fun σ4 eσ4 => ?_))
    replace h := h.2 σ4 eσ4
    refine um_aload_n (pc2 := 159) d_Tr_add_158 rfl rfl ?_
    refine um_getR (pc2 := 162) d_Tr_add_159 rfl f_Tr_15 rfl rfl ?_
    refine um_iload (pc2 := 164) d_Tr_add_162 rfl rfl ?_
    refine um_iconst (pc2 := 165) (v := 2) d_Tr_add_164 rfl (by decide) ?_
    refine um_iadd (pc2 := 166) d_Tr_add_165 rfl ?_
    refine um_iload (pc2 := 168) d_Tr_add_166 rfl rfl ?_
    refine um_iast (pc2 := 169) d_Tr_add_168 rfl rfl h.1 rfl (um_gen (fun σ5 eσ5 => ?_))
    replace h := h.2 σ5 eσ5
    refine um_aload_n (pc2 := 170) d_Tr_add_169 rfl rfl ?_
    refine um_getR (pc2 := 173) d_Tr_add_170 rfl f_Tr_15 rfl rfl ?_
    refine um_iload (pc2 := 175) d_Tr_add_173 rfl rfl ?_
    refine um_iconst (pc2 := 176) (v := 3) d_Tr_add_175 rfl (by decide) ?_
    refine um_iadd (pc2 := 177) d_Tr_add_176 rfl ?_
    refine um_iload (pc2 := 179) d_Tr_add_177 rfl rfl ?_
    refine um_iast (pc2 := 180) d_Tr_add_179 rfl rfl h.1 rfl (um_gen (fun σ6 eσ6 => ?_))
    replace h := h.2 σ6 eσ6
    refine um_aload_n (pc2 := 181) d_Tr_add_180 rfl rfl ?_
    refine um_getR (pc2 := 184) d_Tr_add_181 rfl f_Tr_15 rfl rfl ?_
    refine um_iload (pc2 := 186) d_Tr_add_184 rfl rfl ?_
    refine um_iconst (pc2 := 187) (v := 4) d_Tr_add_186 rfl (by decide) ?_
    refine um_iadd (pc2 := 188) d_Tr_add_187 rfl ?_
    refine um_iload (pc2 := 190) d_Tr_add_188 rfl rfl ?_
    refine um_iast (pc2 := 191) d_Tr_add_190 rfl rfl h.1 rfl (um_gen (fun σ7 eσ7 => ?_))
    replace h := h.2 σ7 eσ7
    refine um_aload_n (pc2 := 192) d_Tr_add_191 rfl rfl ?_
    refine um_dup (pc2 := 193) d_Tr_add_192 rfl rfl ?_
    refine um_getI (pc2 := 196) d_Tr_add_193 rfl f_Tr_29 rfl rfl ?_
    refine um_iconst (pc2 := 197) (v := 1) d_Tr_add_196 rfl (by decide) ?_
    refine um_iadd (pc2 := 198) d_Tr_add_197 rfl ?_
    refine um_putI (pc2 := 201) d_Tr_add_198 rfl fw_Tr_29 rfl rfl (um_gen (fun σ8 eσ8 => ?_))
    replace h := h σ8 eσ8
    refine um_aload_n (pc2 := 202) d_Tr_add_201 rfl rfl ?_
    refine um_getI (pc2 := 205) d_Tr_add_202 rfl f_Tr_29 rfl rfl ?_
    refine um_iconst (pc2 := 206) (v := 1) d_Tr_add_205 rfl (by decide) ?_
    refine um_isub (pc2 := 207) d_Tr_add_206 rfl ?_
    exact um_iret d_Tr_add_207 rfl ⟨_, rfl, h⟩
  · replace h := h.2 z
    refine um_iconst (pc2 := 121) (v := (-1)) d_Tr_add_120 rfl (by decide) ?_
    exact um_iret d_Tr_add_121 rfl ⟨_, rfl, h⟩
set_option maxHeartbeats 4000000 in
set_option maxRecDepth 100000 in
theorem b_Tr_add_112 {Q : Int32 → um_S → Prop} {v1 : Int32} {v2 : Int32} {v3 : Int32} {v4 : Int32} {v5 : Int32} {v6 : Int32} {σ : um_S} (h : wp_Tr_add_112 Q v1 v2 v3 v4 v5 v6 σ) : um_Ev um_cl um_AW um_L um_SX M_Tr_add 2 44 112 [some (.ref 1), some (.int v1), some (.int v2), some (.int v3), some (.int v4), some (.int v5), some (.int v6), none, none, none] [] σ (um_Qi Q) := by
  unfold wp_Tr_add_112 at h
  refine um_iconst (pc2 := 113) (v := 0) d_Tr_add_112 rfl (by decide) ?_
  refine um_istore (pc2 := 115) (ls2 := [some (.ref 1), some (.int v1), some (.int v2), some (.int v3), some (.int v4), some (.int v5), some (.int v6), none, some (.int 0), none]) d_Tr_add_113 rfl (Nat.le_of_ble_eq_true rfl) rfl ?_
  refine um_forget [true, true, true, true, true, true, true, false, true, false] rfl ?_
  exact b_Tr_add_115 h
set_option maxHeartbeats 4000000 in
set_option maxRecDepth 100000 in
theorem c_Tr_add {a1 : Int32} {a2 : Int32} {a3 : Int32} {a4 : Int32} {a5 : Int32} {a6 : Int32} {σ : um_S} {Q : Int32 → um_S → Prop} (h : wp_Tr_add a1 a2 a3 a4 a5 a6 σ Q) : um_Con um_cl um_AW um_L um_SX 2 44 M_Tr_add [.ref 1, .int a1, .int a2, .int a3, .int a4, .int a5, .int a6] σ (um_Qi Q) := by
  refine um_con (by decide) (Nat.le_of_ble_eq_true rfl) (fun v hv => by simp only [List.mem_cons, List.not_mem_nil, or_false] at hv; rcases hv with rfl | rfl | rfl | rfl | rfl | rfl | rfl <;> rfl) ?_
  show um_Ev um_cl um_AW um_L um_SX M_Tr_add 2 44 0 [some (.ref 1), some (.int a1), some (.int a2), some (.int a3), some (.int a4), some (.int a5), some (.int a6), none, none, none] [] σ (um_Qi Q)
  unfold wp_Tr_add at h
  refine um_iload_n (pc2 := 1) d_Tr_add_0 rfl rfl ?_
  refine um_if_lt (pc2 := 4) (tgt := 20) d_Tr_add_1 rfl rfl (fun z => ?_) (fun z => ?_)
  · replace h := h.1 z
    refine um_iconst (pc2 := 21) (v := (-1)) d_Tr_add_20 rfl (by decide) ?_
    exact um_iret d_Tr_add_21 rfl ⟨_, rfl, h⟩
  · replace h := h.2 z
    refine um_iload_n (pc2 := 5) d_Tr_add_4 rfl rfl ?_
    refine um_bipush (pc2 := 7) (v := 20) d_Tr_add_5 rfl (by decide) ?_
    refine um_icmp_gt (pc2 := 10) (tgt := 20) d_Tr_add_7 rfl rfl (fun z => ?_) (fun z => ?_)
    · replace h := h.1 z
      refine um_iconst (pc2 := 21) (v := (-1)) d_Tr_add_20 rfl (by decide) ?_
      exact um_iret d_Tr_add_21 rfl ⟨_, rfl, h⟩
    · replace h := h.2 z
      refine um_aload_n (pc2 := 11) d_Tr_add_10 rfl rfl ?_
      refine um_getI (pc2 := 14) d_Tr_add_11 rfl f_Tr_29 rfl rfl ?_
      refine um_sipush (pc2 := 17) (v := 150) d_Tr_add_14 rfl (by decide) ?_
      refine um_icmp_lt (pc2 := 20) (tgt := 22) d_Tr_add_17 rfl rfl (fun z => ?_) (fun z => ?_)
      · replace h := h.1 z
        refine um_iload_n (pc2 := 23) d_Tr_add_22 rfl rfl ?_
        refine um_iconst (pc2 := 24) (v := 5) d_Tr_add_23 rfl (by decide) ?_
        refine um_imul (pc2 := 25) d_Tr_add_24 rfl ?_
        refine um_top (fun x1 ex1 => ?_)
        replace h := h x1 ex1
        refine um_istore (pc2 := 27) (ls2 := [some (.ref 1), some (.int a1), some (.int a2), some (.int a3), some (.int a4), some (.int a5), some (.int a6), some (.int x1), none, none]) d_Tr_add_25 rfl (Nat.le_of_ble_eq_true rfl) rfl ?_
        refine um_aload_n (pc2 := 28) d_Tr_add_27 rfl rfl ?_
        refine um_gets (pc2 := 31) (i := 0) d_Tr_add_28 rfl rfl s_Tr_33 ?_
        refine um_iload (pc2 := 33) d_Tr_add_31 rfl rfl ?_
        refine um_sald (pc2 := 34) (i := 0) d_Tr_add_33 rfl rfl h.1 ?_
        replace h := h.2
        refine um_iload_n (pc2 := 35) d_Tr_add_34 rfl rfl ?_
        refine um_callV2z (pc2 := 38) d_Tr_add_35 rfl g_Tr_36 rfl (Nat.le_of_ble_eq_true rfl) (Nat.le_of_ble_eq_true rfl) (Nat.le_of_ble_eq_true rfl) (c_Tr_fits h) (fun t3 σ2 h => ?_)
        refine um_if_eq (pc2 := 41) (tgt := 112) d_Tr_add_38 rfl rfl (fun z => ?_) (fun z => ?_)
        · replace h := h.1 (um_b0 z)
          refine um_forget [true, true, true, true, true, true, true, false, false, false] rfl ?_
          exact b_Tr_add_112 h
        · replace h := h.2 (um_b1 z)
          refine um_aload_n (pc2 := 42) d_Tr_add_41 rfl rfl ?_
          refine um_gets (pc2 := 45) (i := 0) d_Tr_add_42 rfl rfl s_Tr_33 ?_
          refine um_iload (pc2 := 47) d_Tr_add_45 rfl rfl ?_
          refine um_iconst (pc2 := 48) (v := 1) d_Tr_add_47 rfl (by decide) ?_
          refine um_iadd (pc2 := 49) d_Tr_add_48 rfl ?_
          refine um_sald (pc2 := 50) (i := 0) d_Tr_add_49 rfl rfl h.1 ?_
          replace h := h.2
          refine um_iload_n (pc2 := 51) d_Tr_add_50 rfl rfl ?_
          refine um_callV2z (pc2 := 54) d_Tr_add_51 rfl g_Tr_36 rfl (Nat.le_of_ble_eq_true rfl) (Nat.le_of_ble_eq_true rfl) (Nat.le_of_ble_eq_true rfl) (c_Tr_fits h) (fun t5 σ4 h => ?_)
          refine um_if_eq (pc2 := 57) (tgt := 112) d_Tr_add_54 rfl rfl (fun z => ?_) (fun z => ?_)
          · replace h := h.1 (um_b0 z)
            refine um_forget [true, true, true, true, true, true, true, false, false, false] rfl ?_
            exact b_Tr_add_112 h
          · replace h := h.2 (um_b1 z)
            refine um_aload_n (pc2 := 58) d_Tr_add_57 rfl rfl ?_
            refine um_gets (pc2 := 61) (i := 0) d_Tr_add_58 rfl rfl s_Tr_33 ?_
            refine um_iload (pc2 := 63) d_Tr_add_61 rfl rfl ?_
            refine um_iconst (pc2 := 64) (v := 2) d_Tr_add_63 rfl (by decide) ?_
            refine um_iadd (pc2 := 65) d_Tr_add_64 rfl ?_
            refine um_sald (pc2 := 66) (i := 0) d_Tr_add_65 rfl rfl h.1 ?_
            replace h := h.2
            refine um_iload (pc2 := 68) d_Tr_add_66 rfl rfl ?_
            refine um_callV2z (pc2 := 71) d_Tr_add_68 rfl g_Tr_36 rfl (Nat.le_of_ble_eq_true rfl) (Nat.le_of_ble_eq_true rfl) (Nat.le_of_ble_eq_true rfl) (c_Tr_fits h) (fun t7 σ6 h => ?_)
            refine um_if_eq (pc2 := 74) (tgt := 112) d_Tr_add_71 rfl rfl (fun z => ?_) (fun z => ?_)
            · replace h := h.1 (um_b0 z)
              refine um_forget [true, true, true, true, true, true, true, false, false, false] rfl ?_
              exact b_Tr_add_112 h
            · replace h := h.2 (um_b1 z)
              refine um_aload_n (pc2 := 75) d_Tr_add_74 rfl rfl ?_
              refine um_gets (pc2 := 78) (i := 0) d_Tr_add_75 rfl rfl s_Tr_33 ?_
              refine um_iload (pc2 := 80) d_Tr_add_78 rfl rfl ?_
              refine um_iconst (pc2 := 81) (v := 3) d_Tr_add_80 rfl (by decide) ?_
              refine um_iadd (pc2 := 82) d_Tr_add_81 rfl ?_
              refine um_sald (pc2 := 83) (i := 0) d_Tr_add_82 rfl rfl h.1 ?_
              replace h := h.2
              refine um_iload (pc2 := 85) d_Tr_add_83 rfl rfl ?_
              refine um_callV2z (pc2 := 88) d_Tr_add_85 rfl g_Tr_36 rfl (Nat.le_of_ble_eq_true rfl) (Nat.le_of_ble_eq_true rfl) (Nat.le_of_ble_eq_true rfl) (c_Tr_fits h) (fun t9 σ8 h => ?_)
              refine um_if_eq (pc2 := 91) (tgt := 112) d_Tr_add_88 rfl rfl (fun z => ?_) (fun z => ?_)
              · replace h := h.1 (um_b0 z)
                refine um_forget [true, true, true, true, true, true, true, false, false, false] rfl ?_
                exact b_Tr_add_112 h
              · replace h := h.2 (um_b1 z)
                refine um_aload_n (pc2 := 92) d_Tr_add_91 rfl rfl ?_
                refine um_gets (pc2 := 95) (i := 0) d_Tr_add_92 rfl rfl s_Tr_33 ?_
                refine um_iload (pc2 := 97) d_Tr_add_95 rfl rfl ?_
                refine um_iconst (pc2 := 98) (v := 4) d_Tr_add_97 rfl (by decide) ?_
                refine um_iadd (pc2 := 99) d_Tr_add_98 rfl ?_
                refine um_sald (pc2 := 100) (i := 0) d_Tr_add_99 rfl rfl h.1 ?_
                replace h := h.2
                refine um_iload (pc2 := 102) d_Tr_add_100 rfl rfl ?_
                refine um_callV2z (pc2 := 105) d_Tr_add_102 rfl g_Tr_36 rfl (Nat.le_of_ble_eq_true rfl) (Nat.le_of_ble_eq_true rfl) (Nat.le_of_ble_eq_true rfl) (c_Tr_fits h) (fun t11 σ10 h => ?_)
                refine um_if_eq (pc2 := 108) (tgt := 112) d_Tr_add_105 rfl rfl (fun z => ?_) (fun z => ?_)
                · replace h := h.1 (um_b0 z)
                  refine um_forget [true, true, true, true, true, true, true, false, false, false] rfl ?_
                  exact b_Tr_add_112 h
                · replace h := h.2 (um_b1 z)
                  refine um_iconst (pc2 := 109) (v := 1) d_Tr_add_108 rfl (by decide) ?_
                  refine um_goto (tgt := 113) d_Tr_add_109 rfl ?_
                  refine um_istore (pc2 := 115) (ls2 := [some (.ref 1), some (.int a1), some (.int a2), some (.int a3), some (.int a4), some (.int a5), some (.int a6), some (.int x1), some (.int 1), none]) d_Tr_add_113 rfl (Nat.le_of_ble_eq_true rfl) rfl ?_
                  refine um_forget [true, true, true, true, true, true, true, false, true, false] rfl ?_
                  exact b_Tr_add_115 h
      · replace h := h.2 z
        refine um_iconst (pc2 := 21) (v := (-1)) d_Tr_add_20 rfl (by decide) ?_
        exact um_iret d_Tr_add_21 rfl ⟨_, rfl, h⟩
def wp_UM_node (a1 : Int32) (a2 : Int32) (a3 : Int32) (a4 : Int32) (a5 : Int32) (σ : um_S) (Q : Int32 → um_S → Prop) : Prop :=
  wp_Tr_add a1 a2 a3 a4 a5 (-1) σ (fun x2 σ1 => Q x2 σ1)
set_option maxHeartbeats 4000000 in
set_option maxRecDepth 100000 in
theorem c_UM_node {a1 : Int32} {a2 : Int32} {a3 : Int32} {a4 : Int32} {a5 : Int32} {σ : um_S} {Q : Int32 → um_S → Prop} (h : wp_UM_node a1 a2 a3 a4 a5 σ Q) : um_Con um_cl um_AW um_L um_SX 3 73 M_UM_node [.ref 0, .int a1, .int a2, .int a3, .int a4, .int a5] σ (um_Qi Q) := by
  refine um_con (by decide) (Nat.le_of_ble_eq_true rfl) (fun v hv => by simp only [List.mem_cons, List.not_mem_nil, or_false] at hv; rcases hv with rfl | rfl | rfl | rfl | rfl | rfl <;> rfl) ?_
  show um_Ev um_cl um_AW um_L um_SX M_UM_node 3 73 0 [some (.ref 0), some (.int a1), some (.int a2), some (.int a3), some (.int a4), some (.int a5)] [] σ (um_Qi Q)
  unfold wp_UM_node at h
  refine um_aload_n (pc2 := 1) d_UM_node_0 rfl rfl ?_
  refine um_getR (pc2 := 4) d_UM_node_1 rfl f_UM_10 rfl rfl ?_
  refine um_iload_n (pc2 := 5) d_UM_node_4 rfl rfl ?_
  refine um_iload_n (pc2 := 6) d_UM_node_5 rfl rfl ?_
  refine um_iload_n (pc2 := 7) d_UM_node_6 rfl rfl ?_
  refine um_iload (pc2 := 9) d_UM_node_7 rfl rfl ?_
  refine um_iload (pc2 := 11) d_UM_node_9 rfl rfl ?_
  refine um_iconst (pc2 := 12) (v := (-1)) d_UM_node_11 rfl (by decide) ?_
  refine um_callV6i (pc2 := 15) d_UM_node_12 rfl g_UM_41 rfl (Nat.le_of_ble_eq_true rfl) (Nat.le_of_ble_eq_true rfl) (Nat.le_of_ble_eq_true rfl) (c_Tr_add h) (fun x2 σ1 h => ?_)
  exact um_iret d_UM_node_15 rfl ⟨_, rfl, h⟩
def wp_UM_catchBehind (a1 : Int32) (a2 : Int32) (a3 : Int32) (a4 : Int32) (a5 : Int32) (σ : um_S) (Q : Int32 → um_S → Prop) : Prop :=
  wp_Tr_add 20 a1 a2 a3 a4 a5 σ (fun x2 σ1 => Q x2 σ1)
set_option maxHeartbeats 4000000 in
set_option maxRecDepth 100000 in
theorem c_UM_catchBehind {a1 : Int32} {a2 : Int32} {a3 : Int32} {a4 : Int32} {a5 : Int32} {σ : um_S} {Q : Int32 → um_S → Prop} (h : wp_UM_catchBehind a1 a2 a3 a4 a5 σ Q) : um_Con um_cl um_AW um_L um_SX 3 73 M_UM_catchBehind [.ref 0, .int a1, .int a2, .int a3, .int a4, .int a5] σ (um_Qi Q) := by
  refine um_con (by decide) (Nat.le_of_ble_eq_true rfl) (fun v hv => by simp only [List.mem_cons, List.not_mem_nil, or_false] at hv; rcases hv with rfl | rfl | rfl | rfl | rfl | rfl <;> rfl) ?_
  show um_Ev um_cl um_AW um_L um_SX M_UM_catchBehind 3 73 0 [some (.ref 0), some (.int a1), some (.int a2), some (.int a3), some (.int a4), some (.int a5)] [] σ (um_Qi Q)
  unfold wp_UM_catchBehind at h
  refine um_aload_n (pc2 := 1) d_UM_catchBehind_0 rfl rfl ?_
  refine um_getR (pc2 := 4) d_UM_catchBehind_1 rfl f_UM_10 rfl rfl ?_
  refine um_bipush (pc2 := 6) (v := 20) d_UM_catchBehind_4 rfl (by decide) ?_
  refine um_iload_n (pc2 := 7) d_UM_catchBehind_6 rfl rfl ?_
  refine um_iload_n (pc2 := 8) d_UM_catchBehind_7 rfl rfl ?_
  refine um_iload_n (pc2 := 9) d_UM_catchBehind_8 rfl rfl ?_
  refine um_iload (pc2 := 11) d_UM_catchBehind_9 rfl rfl ?_
  refine um_iload (pc2 := 13) d_UM_catchBehind_11 rfl rfl ?_
  refine um_callV6i (pc2 := 16) d_UM_catchBehind_13 rfl g_UM_41 rfl (Nat.le_of_ble_eq_true rfl) (Nat.le_of_ble_eq_true rfl) (Nat.le_of_ble_eq_true rfl) (c_Tr_add h) (fun x2 σ1 h => ?_)
  exact um_iret d_UM_catchBehind_16 rfl ⟨_, rfl, h⟩
def wp_Tr_setBody (a1 : Int32) (a2 : Int32) (σ : um_S) (Q : Bool → um_S → Prop) : Prop :=
  wp_UM_isFunction a1 σ (fun t2 σ1 => (t2 = false → Q false σ1) ∧ (t2 = true → wp_Tr_fits 6 a2 σ1 (fun t4 σ3 => (t4 = true → vp_in a1 6 ∧ ∀ σ5 : um_S, σ5 = um_up σ3 10 a1.toNatClampNeg a2 → Q true σ5) ∧ (t4 = false → Q false σ3))))
set_option maxHeartbeats 4000000 in
set_option maxRecDepth 100000 in
theorem c_Tr_setBody {a1 : Int32} {a2 : Int32} {σ : um_S} {Q : Bool → um_S → Prop} (h : wp_Tr_setBody a1 a2 σ Q) : um_Con um_cl um_AW um_L um_SX 2 44 M_Tr_setBody [.ref 1, .int a1, .int a2] σ (um_Qz Q) := by
  refine um_con (by decide) (Nat.le_of_ble_eq_true rfl) (fun v hv => by simp only [List.mem_cons, List.not_mem_nil, or_false] at hv; rcases hv with rfl | rfl | rfl <;> rfl) ?_
  show um_Ev um_cl um_AW um_L um_SX M_Tr_setBody 2 44 0 [some (.ref 1), some (.int a1), some (.int a2)] [] σ (um_Qz Q)
  unfold wp_Tr_setBody at h
  refine um_iload_n (pc2 := 1) d_Tr_setBody_0 rfl rfl ?_
  refine um_callS1z (pc2 := 4) d_Tr_setBody_1 rfl g_Tr_40 (Nat.le_of_ble_eq_true rfl) (Nat.le_of_ble_eq_true rfl) (Nat.le_of_ble_eq_true rfl) (c_UM_isFunction h) (fun t2 σ1 h => ?_)
  refine um_if_eq (pc2 := 7) (tgt := 17) d_Tr_setBody_4 rfl rfl (fun z => ?_) (fun z => ?_)
  · replace h := h.1 (um_b0 z)
    refine um_iconst (pc2 := 18) (v := 0) d_Tr_setBody_17 rfl (by decide) ?_
    exact um_zret d_Tr_setBody_18 rfl (by decide) ⟨false, rfl, h⟩
  · replace h := h.2 (um_b1 z)
    refine um_aload_n (pc2 := 8) d_Tr_setBody_7 rfl rfl ?_
    refine um_bipush (pc2 := 10) (v := 6) d_Tr_setBody_8 rfl (by decide) ?_
    refine um_iload_n (pc2 := 11) d_Tr_setBody_10 rfl rfl ?_
    refine um_callV2z (pc2 := 14) d_Tr_setBody_11 rfl g_Tr_36 rfl (Nat.le_of_ble_eq_true rfl) (Nat.le_of_ble_eq_true rfl) (Nat.le_of_ble_eq_true rfl) (c_Tr_fits h) (fun t4 σ3 h => ?_)
    refine um_if_ne (pc2 := 17) (tgt := 19) d_Tr_setBody_14 rfl rfl (fun z => ?_) (fun z => ?_)
    · replace h := h.1 (um_b1 z)
      refine um_aload_n (pc2 := 20) d_Tr_setBody_19 rfl rfl ?_
      refine um_getR (pc2 := 23) d_Tr_setBody_20 rfl f_Tr_18 rfl rfl ?_
      refine um_iload_n (pc2 := 24) d_Tr_setBody_23 rfl rfl ?_
      refine um_iload_n (pc2 := 25) d_Tr_setBody_24 rfl rfl ?_
      refine um_iast (pc2 := 26) d_Tr_setBody_25 rfl rfl h.1 rfl (um_gen (fun σ5 eσ5 => ?_))
      replace h := h.2 σ5 eσ5
      refine um_iconst (pc2 := 27) (v := 1) d_Tr_setBody_26 rfl (by decide) ?_
      exact um_zret d_Tr_setBody_27 rfl (by decide) ⟨true, rfl, h⟩
    · replace h := h.2 (um_b0 z)
      refine um_iconst (pc2 := 18) (v := 0) d_Tr_setBody_17 rfl (by decide) ?_
      exact um_zret d_Tr_setBody_18 rfl (by decide) ⟨false, rfl, h⟩
def wp_UM_body (a1 : Int32) (a2 : Int32) (σ : um_S) (Q : Bool → um_S → Prop) : Prop :=
  wp_Tr_setBody a1 a2 σ (fun t2 σ1 => Q t2 σ1)
set_option maxHeartbeats 4000000 in
set_option maxRecDepth 100000 in
theorem c_UM_body {a1 : Int32} {a2 : Int32} {σ : um_S} {Q : Bool → um_S → Prop} (h : wp_UM_body a1 a2 σ Q) : um_Con um_cl um_AW um_L um_SX 3 66 M_UM_body [.ref 0, .int a1, .int a2] σ (um_Qz Q) := by
  refine um_con (by decide) (Nat.le_of_ble_eq_true rfl) (fun v hv => by simp only [List.mem_cons, List.not_mem_nil, or_false] at hv; rcases hv with rfl | rfl | rfl <;> rfl) ?_
  show um_Ev um_cl um_AW um_L um_SX M_UM_body 3 66 0 [some (.ref 0), some (.int a1), some (.int a2)] [] σ (um_Qz Q)
  unfold wp_UM_body at h
  refine um_aload_n (pc2 := 1) d_UM_body_0 rfl rfl ?_
  refine um_getR (pc2 := 4) d_UM_body_1 rfl f_UM_10 rfl rfl ?_
  refine um_iload_n (pc2 := 5) d_UM_body_4 rfl rfl ?_
  refine um_iload_n (pc2 := 6) d_UM_body_5 rfl rfl ?_
  refine um_callV2z (pc2 := 9) d_UM_body_6 rfl g_UM_47 rfl (Nat.le_of_ble_eq_true rfl) (Nat.le_of_ble_eq_true rfl) (Nat.le_of_ble_eq_true rfl) (c_Tr_setBody h) (fun t2 σ1 h => ?_)
  exact um_zret d_UM_body_9 rfl (um_b01 t2) ⟨t2, rfl, h⟩
def wp_La_settleGoals_47 (Q : um_S → Prop) (K2 : Int32 → um_S → Prop) (v1 : Int32) (v2 : Int32) (σ : um_S) : Prop :=
  (v2 = 0 → K2 (v1 + 1) σ) ∧ (¬ v2 = 0 → vp_in v1 1000 ∧ (0 ≤ (σ 12 v1.toNatClampNeg) → K2 (v1 + 1) σ) ∧ (¬ 0 ≤ (σ 12 v1.toNatClampNeg) → vp_in v1 1000 ∧ vp_in (-(σ 12 v1.toNatClampNeg)) 2001 ∧ vp_in v1 1000 ∧ ∀ σ1 : um_S, σ1 = um_up σ 12 v1.toNatClampNeg (σ 29 (-(σ 12 v1.toNatClampNeg)).toNatClampNeg) → K2 (v1 + 1) σ1))
def wp_La_settleGoals_41 (Q : um_S → Prop) (K2 : Int32 → um_S → Prop) (v1 : Int32) (σ : um_S) : Prop :=
  wp_La_settleGoals_47 Q K2 v1 1 σ
def wp_La_settleGoals_2 (Q : um_S → Prop) : Nat → Int32 → um_S → Prop
  | 0, _, _ => False
  | n + 1, v1, σ =>
    ((σ 2 5) ≤ v1 → Q σ) ∧ (¬ (σ 2 5) ≤ v1 → vp_in v1 1000 ∧ ((σ 11 v1.toNatClampNeg) = 10 → wp_La_settleGoals_41 Q (fun v1 σ => wp_La_settleGoals_2 Q n v1 σ) v1 σ) ∧ (¬ (σ 11 v1.toNatClampNeg) = 10 → vp_in v1 1000 ∧ (¬ (σ 11 v1.toNatClampNeg) = 11 → wp_La_settleGoals_47 Q (fun v1 σ => wp_La_settleGoals_2 Q n v1 σ) v1 0 σ) ∧ ((σ 11 v1.toNatClampNeg) = 11 → wp_La_settleGoals_41 Q (fun v1 σ => wp_La_settleGoals_2 Q n v1 σ) v1 σ)))
def wp_La_settleGoals (σ : um_S) (Q : um_S → Prop) : Prop :=
  wp_La_settleGoals_2 Q 100000 0 σ
set_option maxHeartbeats 4000000 in
set_option maxRecDepth 100000 in
theorem b_La_settleGoals_47 {Q : um_S → Prop} {K2 : Int32 → um_S → Prop} {v1 : Int32} {v2 : Int32} {σ : um_S} (hK2 : ∀ (v1 : Int32) (σ : um_S), K2 v1 σ → um_Ev um_cl um_AW um_L um_SX M_La_settleGoals 0 0 2 [some (.ref 3), some (.int v1), none] [] σ (um_Qv Q)) (h : wp_La_settleGoals_47 Q K2 v1 v2 σ) : um_Ev um_cl um_AW um_L um_SX M_La_settleGoals 0 0 47 [some (.ref 3), some (.int v1), some (.int v2)] [] σ (um_Qv Q) := by
  unfold wp_La_settleGoals_47 at h
  refine um_iload_n (pc2 := 48) d_La_settleGoals_47 rfl rfl ?_
  refine um_if_eq (pc2 := 51) (tgt := 90) d_La_settleGoals_48 rfl rfl (fun z => ?_) (fun z => ?_)
  · replace h := h.1 z
    refine um_iinc (pc2 := 93) (v := (v1 + 1)) (ls2 := [some (.ref 3), some (.int (v1 + 1)), some (.int v2)]) d_La_settleGoals_90 rfl rfl rfl (Nat.le_of_ble_eq_true rfl) rfl ?_
    refine um_goto (tgt := 2) d_La_settleGoals_93 rfl ?_
    refine um_forget [true, true, false] rfl ?_
    exact hK2 _ _ h
  · replace h := h.2 z
    refine um_aload_n (pc2 := 52) d_La_settleGoals_51 rfl rfl ?_
    refine um_getR (pc2 := 55) d_La_settleGoals_52 rfl f_La_40 rfl rfl ?_
    refine um_getR (pc2 := 58) d_La_settleGoals_55 rfl f_La_233 rfl rfl ?_
    refine um_iload_n (pc2 := 59) d_La_settleGoals_58 rfl rfl ?_
    refine um_iald (pc2 := 60) d_La_settleGoals_59 rfl rfl h.1 rfl ?_
    replace h := h.2
    refine um_if_ge (pc2 := 63) (tgt := 90) d_La_settleGoals_60 rfl rfl (fun z => ?_) (fun z => ?_)
    · replace h := h.1 z
      refine um_iinc (pc2 := 93) (v := (v1 + 1)) (ls2 := [some (.ref 3), some (.int (v1 + 1)), some (.int v2)]) d_La_settleGoals_90 rfl rfl rfl (Nat.le_of_ble_eq_true rfl) rfl ?_
      refine um_goto (tgt := 2) d_La_settleGoals_93 rfl ?_
      refine um_forget [true, true, false] rfl ?_
      exact hK2 _ _ h
    · replace h := h.2 z
      refine um_aload_n (pc2 := 64) d_La_settleGoals_63 rfl rfl ?_
      refine um_getR (pc2 := 67) d_La_settleGoals_64 rfl f_La_40 rfl rfl ?_
      refine um_getR (pc2 := 70) d_La_settleGoals_67 rfl f_La_233 rfl rfl ?_
      refine um_iload_n (pc2 := 71) d_La_settleGoals_70 rfl rfl ?_
      refine um_aload_n (pc2 := 72) d_La_settleGoals_71 rfl rfl ?_
      refine um_getR (pc2 := 75) d_La_settleGoals_72 rfl f_La_12 rfl rfl ?_
      refine um_getR (pc2 := 78) d_La_settleGoals_75 rfl f_La_172 rfl rfl ?_
      refine um_aload_n (pc2 := 79) d_La_settleGoals_78 rfl rfl ?_
      refine um_getR (pc2 := 82) d_La_settleGoals_79 rfl f_La_40 rfl rfl ?_
      refine um_getR (pc2 := 85) d_La_settleGoals_82 rfl f_La_233 rfl rfl ?_
      refine um_iload_n (pc2 := 86) d_La_settleGoals_85 rfl rfl ?_
      refine um_iald (pc2 := 87) d_La_settleGoals_86 rfl rfl h.1 rfl ?_
      replace h := h.2
      refine um_ineg (pc2 := 88) d_La_settleGoals_87 rfl ?_
      refine um_iald (pc2 := 89) d_La_settleGoals_88 rfl rfl h.1 rfl ?_
      replace h := h.2
      refine um_iast (pc2 := 90) d_La_settleGoals_89 rfl rfl h.1 rfl (um_gen (fun σ1 eσ1 => ?_))
      replace h := h.2 σ1 eσ1
      refine um_iinc (pc2 := 93) (v := (v1 + 1)) (ls2 := [some (.ref 3), some (.int (v1 + 1)), some (.int v2)]) d_La_settleGoals_90 rfl rfl rfl (Nat.le_of_ble_eq_true rfl) rfl ?_
      refine um_goto (tgt := 2) d_La_settleGoals_93 rfl ?_
      refine um_forget [true, true, false] rfl ?_
      exact hK2 _ _ h
set_option maxHeartbeats 4000000 in
set_option maxRecDepth 100000 in
theorem b_La_settleGoals_41 {Q : um_S → Prop} {K2 : Int32 → um_S → Prop} {v1 : Int32} {σ : um_S} (hK2 : ∀ (v1 : Int32) (σ : um_S), K2 v1 σ → um_Ev um_cl um_AW um_L um_SX M_La_settleGoals 0 0 2 [some (.ref 3), some (.int v1), none] [] σ (um_Qv Q)) (h : wp_La_settleGoals_41 Q K2 v1 σ) : um_Ev um_cl um_AW um_L um_SX M_La_settleGoals 0 0 41 [some (.ref 3), some (.int v1), none] [] σ (um_Qv Q) := by
  unfold wp_La_settleGoals_41 at h
  refine um_iconst (pc2 := 42) (v := 1) d_La_settleGoals_41 rfl (by decide) ?_
  refine um_goto (tgt := 46) d_La_settleGoals_42 rfl ?_
  refine um_istore_n (pc2 := 47) (ls2 := [some (.ref 3), some (.int v1), some (.int 1)]) d_La_settleGoals_46 rfl (Nat.le_of_ble_eq_true rfl) rfl ?_
  refine um_forget [true, true, true] rfl ?_
  exact b_La_settleGoals_47 hK2 h
set_option maxHeartbeats 4000000 in
set_option maxRecDepth 100000 in
theorem b_La_settleGoals_2 {Q : um_S → Prop} (n : Nat) : ∀ (v1 : Int32) (σ : um_S), wp_La_settleGoals_2 Q n v1 σ → um_Ev um_cl um_AW um_L um_SX M_La_settleGoals 0 0 2 [some (.ref 3), some (.int v1), none] [] σ (um_Qv Q) := by
  induction n with
  | zero =>
    intro v1 σ h
    exact h.elim
  | succ n ih =>
    intro v1 σ h
    unfold wp_La_settleGoals_2 at h
    refine um_iload_n (pc2 := 3) d_La_settleGoals_2 rfl rfl ?_
    refine um_aload_n (pc2 := 4) d_La_settleGoals_3 rfl rfl ?_
    refine um_getR (pc2 := 7) d_La_settleGoals_4 rfl f_La_40 rfl rfl ?_
    refine um_getI (pc2 := 10) d_La_settleGoals_7 rfl f_La_74 rfl rfl ?_
    refine um_icmp_ge (pc2 := 13) (tgt := 96) d_La_settleGoals_10 rfl rfl (fun z => ?_) (fun z => ?_)
    · replace h := h.1 z
      exact um_vret d_La_settleGoals_96 rfl ⟨rfl, h⟩
    · replace h := h.2 z
      refine um_aload_n (pc2 := 14) d_La_settleGoals_13 rfl rfl ?_
      refine um_getR (pc2 := 17) d_La_settleGoals_14 rfl f_La_40 rfl rfl ?_
      refine um_getR (pc2 := 20) d_La_settleGoals_17 rfl f_La_230 rfl rfl ?_
      refine um_iload_n (pc2 := 21) d_La_settleGoals_20 rfl rfl ?_
      refine um_iald (pc2 := 22) d_La_settleGoals_21 rfl rfl h.1 rfl ?_
      replace h := h.2
      refine um_bipush (pc2 := 24) (v := 10) d_La_settleGoals_22 rfl (by decide) ?_
      refine um_icmp_eq (pc2 := 27) (tgt := 41) d_La_settleGoals_24 rfl rfl (fun z => ?_) (fun z => ?_)
      · replace h := h.1 z
        refine um_forget [true, true, false] rfl ?_
        exact b_La_settleGoals_41 (fun _ _ z => ih _ _ z) h
      · replace h := h.2 z
        refine um_aload_n (pc2 := 28) d_La_settleGoals_27 rfl rfl ?_
        refine um_getR (pc2 := 31) d_La_settleGoals_28 rfl f_La_40 rfl rfl ?_
        refine um_getR (pc2 := 34) d_La_settleGoals_31 rfl f_La_230 rfl rfl ?_
        refine um_iload_n (pc2 := 35) d_La_settleGoals_34 rfl rfl ?_
        refine um_iald (pc2 := 36) d_La_settleGoals_35 rfl rfl h.1 rfl ?_
        replace h := h.2
        refine um_bipush (pc2 := 38) (v := 11) d_La_settleGoals_36 rfl (by decide) ?_
        refine um_icmp_ne (pc2 := 41) (tgt := 45) d_La_settleGoals_38 rfl rfl (fun z => ?_) (fun z => ?_)
        · replace h := h.1 z
          refine um_iconst (pc2 := 46) (v := 0) d_La_settleGoals_45 rfl (by decide) ?_
          refine um_istore_n (pc2 := 47) (ls2 := [some (.ref 3), some (.int v1), some (.int 0)]) d_La_settleGoals_46 rfl (Nat.le_of_ble_eq_true rfl) rfl ?_
          refine um_forget [true, true, true] rfl ?_
          exact b_La_settleGoals_47 (fun _ _ z => ih _ _ z) h
        · replace h := h.2 z
          refine um_forget [true, true, false] rfl ?_
          exact b_La_settleGoals_41 (fun _ _ z => ih _ _ z) h
set_option maxHeartbeats 4000000 in
set_option maxRecDepth 100000 in
theorem c_La_settleGoals {σ : um_S} {Q : um_S → Prop} (h : wp_La_settleGoals σ Q) : um_Con um_cl um_AW um_L um_SX 0 0 M_La_settleGoals [.ref 3] σ (um_Qv Q) := by
  refine um_con (by decide) (Nat.le_of_ble_eq_true rfl) (fun v hv => by simp only [List.mem_cons, List.not_mem_nil, or_false] at hv; rcases hv with rfl <;> rfl) ?_
  show um_Ev um_cl um_AW um_L um_SX M_La_settleGoals 0 0 0 [some (.ref 3), none, none] [] σ (um_Qv Q)
  unfold wp_La_settleGoals at h
  refine um_iconst (pc2 := 1) (v := 0) d_La_settleGoals_0 rfl (by decide) ?_
  refine um_istore_n (pc2 := 2) (ls2 := [some (.ref 3), some (.int 0), none]) d_La_settleGoals_1 rfl (Nat.le_of_ble_eq_true rfl) rfl ?_
  refine um_forget [true, true, false] rfl ?_
  exact b_La_settleGoals_2 _ _ _ h
def wp_Co_clear (σ : um_S) (Q : um_S → Prop) : Prop :=
  ∀ σ1 : um_S, σ1 = um_up σ 2 5 0 → ∀ σ2 : um_S, σ2 = um_up σ1 2 6 0 → ∀ σ3 : um_S, σ3 = um_up σ2 2 7 0 → ∀ σ4 : um_S, σ4 = um_up σ3 2 8 (-1) → Q σ4
set_option maxHeartbeats 4000000 in
set_option maxRecDepth 100000 in
theorem c_Co_clear {σ : um_S} {Q : um_S → Prop} (h : wp_Co_clear σ Q) : um_Con um_cl um_AW um_L um_SX 0 0 M_Co_clear [.ref 2] σ (um_Qv Q) := by
  refine um_con (by decide) (Nat.le_of_ble_eq_true rfl) (fun v hv => by simp only [List.mem_cons, List.not_mem_nil, or_false] at hv; rcases hv with rfl <;> rfl) ?_
  show um_Ev um_cl um_AW um_L um_SX M_Co_clear 0 0 0 [some (.ref 2)] [] σ (um_Qv Q)
  unfold wp_Co_clear at h
  refine um_aload_n (pc2 := 1) d_Co_clear_0 rfl rfl ?_
  refine um_iconst (pc2 := 2) (v := 0) d_Co_clear_1 rfl (by decide) ?_
  refine um_putI (pc2 := 5) d_Co_clear_2 rfl fw_Co_27 rfl rfl (um_gen (fun σ1 eσ1 => ?_))
  replace h := h σ1 eσ1
  refine um_aload_n (pc2 := 6) d_Co_clear_5 rfl rfl ?_
  refine um_iconst (pc2 := 7) (v := 0) d_Co_clear_6 rfl (by decide) ?_
  refine um_putI (pc2 := 10) d_Co_clear_7 rfl fw_Co_31 rfl rfl (um_gen (fun σ2 eσ2 => ?_))
  replace h := h σ2 eσ2
  refine um_aload_n (pc2 := 11) d_Co_clear_10 rfl rfl ?_
  refine um_iconst (pc2 := 12) (v := 0) d_Co_clear_11 rfl (by decide) ?_
  refine um_putI (pc2 := 15) d_Co_clear_12 rfl fw_Co_34 rfl rfl (um_gen (fun σ3 eσ3 => ?_))
  replace h := h σ3 eσ3
  refine um_aload_n (pc2 := 16) d_Co_clear_15 rfl rfl ?_
  refine um_iconst (pc2 := 17) (v := (-1)) d_Co_clear_16 rfl (by decide) ?_
  refine um_putI (pc2 := 20) d_Co_clear_17 rfl fw_Co_37 rfl rfl (um_gen (fun σ4 eσ4 => ?_))
  replace h := h σ4 eσ4
  exact um_vret d_Co_clear_20 rfl ⟨rfl, h⟩
def wp_Tr_part (a1 : Int32) (a2 : Int32) (σ : um_S) (Q : Int32 → um_S → Prop) : Prop :=
  (a1 < 0 → Q (-1) σ) ∧ (¬ a1 < 0 → ((σ 1 3) ≤ a1 → Q (-1) σ) ∧ (¬ (σ 1 3) ≤ a1 → vp_in ((a1 * 5) + a2) 750 ∧ Q (σ 9 ((a1 * 5) + a2).toNatClampNeg) σ))
set_option maxHeartbeats 4000000 in
set_option maxRecDepth 100000 in
theorem c_Tr_part {a1 : Int32} {a2 : Int32} {σ : um_S} {Q : Int32 → um_S → Prop} (h : wp_Tr_part a1 a2 σ Q) : um_Con um_cl um_AW um_L um_SX 0 0 M_Tr_part [.ref 1, .int a1, .int a2] σ (um_Qi Q) := by
  refine um_con (by decide) (Nat.le_of_ble_eq_true rfl) (fun v hv => by simp only [List.mem_cons, List.not_mem_nil, or_false] at hv; rcases hv with rfl | rfl | rfl <;> rfl) ?_
  show um_Ev um_cl um_AW um_L um_SX M_Tr_part 0 0 0 [some (.ref 1), some (.int a1), some (.int a2)] [] σ (um_Qi Q)
  unfold wp_Tr_part at h
  refine um_iload_n (pc2 := 1) d_Tr_part_0 rfl rfl ?_
  refine um_if_lt (pc2 := 4) (tgt := 25) d_Tr_part_1 rfl rfl (fun z => ?_) (fun z => ?_)
  · replace h := h.1 z
    refine um_iconst (pc2 := 26) (v := (-1)) d_Tr_part_25 rfl (by decide) ?_
    exact um_iret d_Tr_part_26 rfl ⟨_, rfl, h⟩
  · replace h := h.2 z
    refine um_iload_n (pc2 := 5) d_Tr_part_4 rfl rfl ?_
    refine um_aload_n (pc2 := 6) d_Tr_part_5 rfl rfl ?_
    refine um_getI (pc2 := 9) d_Tr_part_6 rfl f_Tr_29 rfl rfl ?_
    refine um_icmp_ge (pc2 := 12) (tgt := 25) d_Tr_part_9 rfl rfl (fun z => ?_) (fun z => ?_)
    · replace h := h.1 z
      refine um_iconst (pc2 := 26) (v := (-1)) d_Tr_part_25 rfl (by decide) ?_
      exact um_iret d_Tr_part_26 rfl ⟨_, rfl, h⟩
    · replace h := h.2 z
      refine um_aload_n (pc2 := 13) d_Tr_part_12 rfl rfl ?_
      refine um_getR (pc2 := 16) d_Tr_part_13 rfl f_Tr_15 rfl rfl ?_
      refine um_iload_n (pc2 := 17) d_Tr_part_16 rfl rfl ?_
      refine um_iconst (pc2 := 18) (v := 5) d_Tr_part_17 rfl (by decide) ?_
      refine um_imul (pc2 := 19) d_Tr_part_18 rfl ?_
      refine um_iload_n (pc2 := 20) d_Tr_part_19 rfl rfl ?_
      refine um_iadd (pc2 := 21) d_Tr_part_20 rfl ?_
      refine um_iald (pc2 := 22) d_Tr_part_21 rfl rfl h.1 rfl ?_
      replace h := h.2
      refine um_goto (tgt := 26) d_Tr_part_22 rfl ?_
      exact um_iret d_Tr_part_26 rfl ⟨_, rfl, h⟩
end
