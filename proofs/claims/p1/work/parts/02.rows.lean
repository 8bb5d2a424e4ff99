/-! um_Ev, um_Con and a row for each instruction -/
abbrev um_M : Type := MethodName × ByteArray × Nat × Option FieldType
abbrev um_X : Type := String × String × Nat × (Nat → Int32)
def um_wd (AW : List Cond) (M : um_M) : List Cond := Cond.code M.1 M.2.1 M.2.2.1 M.2.2.2 :: AW
/-- the nest mates' private methods that are called -/
def um_NW : List (String × Nat × MethodName × String) := [("UnwindMill$Tree", 52, ⟨"UnwindMill", "isVariable", "(I)Z"⟩, "UnwindMill"), ("UnwindMill$Tree", 40, ⟨"UnwindMill", "isFunction", "(I)Z"⟩, "UnwindMill")]
/-- the static int arrays that are read: reference 1000 + i; and the nest mates' links -/
def um_st (SX : List um_X) (ad : Nat → Nat) (A : Nat → Prop) (U : State) (H : Heap) : Prop :=
  (∀ (i : Nat) (C n : String) (N : Nat) (f : Nat → Int32), SX[i]? = some (C, n, N, f) → va_Z C n "[I" (.ref (ad (1000 + i))) A U H ∧ va_T .int (ad (1000 + i)) N (fun j => .int (f j)) A U H) ∧
  ∀ q ∈ um_NW, va_Nw (.methodLinkNest q.1 q.2.1 q.2.2.1 q.2.2.2) U
def um_ctx (cl : List vw_C) (AW : List Cond) (SX : List um_X) (M : um_M) (D : va_G) (ad : Nat → Nat) (cA : ClassId) (A : Nat → Prop) (p : Program) (s : State) (m : MethodId) (args : Array Value) (meth : Method) (c : Code) : Prop :=
  p.tables.exec = Jvm.exec ∧ c.code = M.2.1 ∧ c.maxLocals = M.2.2.1 ∧ meth.sig.returnType = M.2.2.2 ∧ meth.locks = false ∧ (∀ w ∈ um_wd AW M, w.before args s = true) ∧ s.vm.findClass M.1.cls = some m.cls ∧ va_K D cl [(cA, .int)] s ∧ (∀ q : Nat, s.heap.size ≤ q → A q) ∧ um_st SX ad A s s.heap
def um_B (cl : List vw_C) (D : va_G) (ad : Nat → Nat) (cA : ClassId) (L : List um_E) (A : Nat → Prop) (u : um_S) (t : State) : Prop := va_P D cl (um_ws ad cA L u) t.heap ∧ va_K D cl [(cA, .int)] t ∧ va_D A (um_ws ad cA L u)
def um_Q (Q : Option Int32 → um_S → Prop) (B : um_S → State → Prop) (A : Nat → Prop) : Array Value → State → Outcome → State → Prop := fun _ st oc t =>
  (∃ (r : Option Int32) (u : um_S), oc = .returned (r.map Value.int) ∧ Q r u ∧ B u t) ∧ va_F A st t
def um_Ev (cl : List vw_C) (AW : List Cond) (L : List um_E) (SX : List um_X) (M : um_M) (f lo pc : Nat) (ls : List (Option Value)) (st : List Value) (σ : um_S) (Q : Option Int32 → um_S → Prop) : Prop :=
  ∀ (p : Program) (l : Launch) (e : Env) (s : State) (m : MethodId) (args : Array Value) (below : List Frame) (meth : Method) (c : Code) (D : va_G) (ad : Nat → Nat) (cA : ClassId) (A : Nat → Prop) (H : Heap) (locs : List Loc) (lsr : Array Slot),
    um_ctx cl AW SX M D ad cA A p s m args meth c → va_P D cl (um_ws ad cA L σ) H → va_D A (um_ws ad cA L σ) → va_S A s.heap H locs → um_ls ad lsr M.2.2.1 ls →
    W p l e { frames := f, cells := 0, slots := 0, locals := lo } s m args below meth c H locs 0 0 (MQ below (um_Q Q (um_B cl D ad cA L A) A) args s 0 0 A) (F0 m pc lsr (st.map (um_v ad)))
def um_Con (cl : List vw_C) (AW : List Cond) (L : List um_E) (SX : List um_X) (f lo : Nat) (M : um_M) (As : List Value) (σ : um_S) (Q : Option Int32 → um_S → Prop) : Prop :=
  ∀ (l : Launch) (D : va_G) (ad : Nat → Nat) (cA : ClassId) (sz : Nat), Met l M.1 (um_wd AW M) { frames := f, cells := 0, slots := 0, locals := lo }
    (va_Pc (As.map (um_v ad)) (fun U => U.heap.size = sz ∧ va_P D cl (um_ws ad cA L σ) U.heap ∧ va_K D cl [(cA, .int)] U ∧ va_D (fun _ => True) (um_ws ad cA L σ) ∧ um_st SX ad (va_A (um_ws ad cA L σ) sz) U U.heap))
    (um_Q Q (um_B cl D ad cA L (va_A (um_ws ad cA L σ) sz)) (va_A (um_ws ad cA L σ) sz)) 0 0 (va_A (um_ws ad cA L σ) sz)
section UmRows
variable {cl : List vw_C} {AW : List Cond} {L : List um_E} {SX : List um_X} {M : um_M} {f lo pc : Nat} {ls : List (Option Value)} {st : List Value} {σ : um_S} {Q : Option Int32 → um_S → Prop}
/-- a contract out of a walk -/
theorem um_con {As : List Value} (hy : plainName M.1.cls = true) (hlen : As.length ≤ M.2.2.1) (hcat : ∀ v ∈ As, v.category = 1)
    (h : um_Ev cl AW L SX M f lo 0 (As.map some ++ List.replicate (M.2.2.1 - As.length) none) [] σ Q) : um_Con cl AW L SX f lo M As σ Q := by
  intro l D ad cA sz
  refine Met.ofW (cc := M.2.1) (maxL := M.2.2.1) (ret := M.2.2.2) hy rfl ?_
  intro p e s m args below meth c s₁ B hml hv
  obtain ⟨rfl, hsz, hP, hK, hD0, hX⟩ := hv
  subst hsz
  have hD := hD0.self (sz := s.heap.size)
  have hc' : ∀ w ∈ As.map (um_v ad), w.category = 1 := by
    intro w hw
    obtain ⟨v, hv, rfl⟩ := List.mem_map.mp hw
    exact um_v_cat.trans (hcat v hv)
  have hl := lv_entry (As.map (um_v ad)) (n := M.2.2.1) (by rw [um_sl_len _ hc', List.length_map]; exact hlen)
  rw [lg_entry_eq]
  refine h p l e s m _ below meth c D ad cA (va_A (um_ws ad cA L σ) s.heap.size) s.heap [] _
    ⟨B.exec, B.bytes, hml, B.returns, B.notSynchronized, atoms_spec (ws := um_wd AW M) B.pre, findClass_of_methodNamed B.named, hK, fun q hq => Or.inr hq, hX⟩ hP hD va_S.rf ⟨hl.1, hl.2.1, ?_, ?_⟩
  · rw [List.length_append, List.length_map, List.length_replicate]
    omega
  · intro i v hi
    by_cases hlt : i < As.length
    · rw [List.getElem?_append_left (by rw [List.length_map]; exact hlt), List.getElem?_map] at hi
      have hv : As[i]? = some v := by
        cases h0 : As[i]? with
        | none => rw [h0] at hi; cases hi
        | some w => rw [h0] at hi; simp only [Option.map_some, Option.some.injEq] at hi; rw [hi]
      refine ⟨?_, hcat v (List.mem_of_getElem? hv)⟩
      have h1 := um_args_mem (As.map (um_v ad)) 0 i (um_v ad v) hc' (by rw [List.getElem?_map, hv]; rfl)
      have h2 := hl.2.2 _ h1
      simpa using h2
    · rw [List.getElem?_append_right (by rw [List.length_map]; omega), List.getElem?_replicate] at hi
      split at hi <;> cases hi
/-- a walk that says less -/
theorem um_Ev_mono {Q' : Option Int32 → um_S → Prop} (hQ : ∀ r u, Q' r u → Q r u) (h : um_Ev cl AW L SX M f lo pc ls st σ Q') : um_Ev cl AW L SX M f lo pc ls st σ Q := by
  intro p l e s m args below meth c D ad cA A H locs lsr hc hP hD hS hl
  intro T hT X
  obtain ⟨t, h1, o, h2, h3, ⟨⟨r, u, h4, h5, h6⟩, h7⟩, h8⟩ := h p l e s m args below meth c D ad cA A H locs lsr hc hP hD hS hl T hT X
  exact ⟨t, h1, o, h2, h3, ⟨⟨r, u, h4, hQ r u h5, h6⟩, h7⟩, h8⟩

theorem um_iconst {pc2 : Nat} {n : Int} {v : Int32} (hd : decode M.2.1 pc = .ok (.iconst n, 1)) (hp : pc + 1 = pc2) (hv : Int32.ofInt n = v) (h : um_Ev cl AW L SX M f lo pc2 ls (.int v :: st) σ Q) : um_Ev cl AW L SX M f lo pc ls st σ Q := by
  subst hp
  intro p l e s m args below meth c D ad cA A H locs lsr hc hP hD hS hl
  exact lv_iconst hc.1 hc.2.1 hd hv (h p l e s m args below meth c D ad cA A H locs lsr hc hP hD hS hl)
theorem um_bipush {pc2 : Nat} {n : Int} {v : Int32} (hd : decode M.2.1 pc = .ok (.bipush n, 2)) (hp : pc + 2 = pc2) (hv : (Int8.ofInt n).toInt32 = v) (h : um_Ev cl AW L SX M f lo pc2 ls (.int v :: st) σ Q) : um_Ev cl AW L SX M f lo pc ls st σ Q := by
  subst hp
  intro p l e s m args below meth c D ad cA A H locs lsr hc hP hD hS hl
  exact lv_bipush hc.1 hc.2.1 hd hv (h p l e s m args below meth c D ad cA A H locs lsr hc hP hD hS hl)
theorem um_sipush {pc2 : Nat} {n : Int} {v : Int32} (hd : decode M.2.1 pc = .ok (.sipush n, 3)) (hp : pc + 3 = pc2) (hv : (Int16.ofInt n).toInt32 = v) (h : um_Ev cl AW L SX M f lo pc2 ls (.int v :: st) σ Q) : um_Ev cl AW L SX M f lo pc ls st σ Q := by
  subst hp
  intro p l e s m args below meth c D ad cA A H locs lsr hc hP hD hS hl
  exact lv_sipush hc.1 hc.2.1 hd hv (h p l e s m args below meth c D ad cA A H locs lsr hc hP hD hS hl)
theorem um_iadd {pc2 : Nat} {x y : Int32} (hd : decode M.2.1 pc = .ok (.iadd, 1)) (hp : pc + 1 = pc2) (h : um_Ev cl AW L SX M f lo pc2 ls (.int (x + y) :: st) σ Q) : um_Ev cl AW L SX M f lo pc ls (.int y :: .int x :: st) σ Q := by
  subst hp
  intro p l e s m args below meth c D ad cA A H locs lsr hc hP hD hS hl
  exact lv_iadd hc.1 hc.2.1 hd (h p l e s m args below meth c D ad cA A H locs lsr hc hP hD hS hl)
theorem um_isub {pc2 : Nat} {x y : Int32} (hd : decode M.2.1 pc = .ok (.isub, 1)) (hp : pc + 1 = pc2) (h : um_Ev cl AW L SX M f lo pc2 ls (.int (x - y) :: st) σ Q) : um_Ev cl AW L SX M f lo pc ls (.int y :: .int x :: st) σ Q := by
  subst hp
  intro p l e s m args below meth c D ad cA A H locs lsr hc hP hD hS hl
  exact lv_isub hc.1 hc.2.1 hd (h p l e s m args below meth c D ad cA A H locs lsr hc hP hD hS hl)
theorem um_imul {pc2 : Nat} {x y : Int32} (hd : decode M.2.1 pc = .ok (.imul, 1)) (hp : pc + 1 = pc2) (h : um_Ev cl AW L SX M f lo pc2 ls (.int (x * y) :: st) σ Q) : um_Ev cl AW L SX M f lo pc ls (.int y :: .int x :: st) σ Q := by
  subst hp
  intro p l e s m args below meth c D ad cA A H locs lsr hc hP hD hS hl
  exact lv_imul hc.1 hc.2.1 hd (h p l e s m args below meth c D ad cA A H locs lsr hc hP hD hS hl)
theorem um_iand {pc2 : Nat} {x y : Int32} (hd : decode M.2.1 pc = .ok (.iand, 1)) (hp : pc + 1 = pc2) (h : um_Ev cl AW L SX M f lo pc2 ls (.int (x &&& y) :: st) σ Q) : um_Ev cl AW L SX M f lo pc ls (.int y :: .int x :: st) σ Q := by
  subst hp
  intro p l e s m args below meth c D ad cA A H locs lsr hc hP hD hS hl
  exact lv_iand hc.1 hc.2.1 hd (h p l e s m args below meth c D ad cA A H locs lsr hc hP hD hS hl)
theorem um_ior {pc2 : Nat} {x y : Int32} (hd : decode M.2.1 pc = .ok (.ior, 1)) (hp : pc + 1 = pc2) (h : um_Ev cl AW L SX M f lo pc2 ls (.int (x ||| y) :: st) σ Q) : um_Ev cl AW L SX M f lo pc ls (.int y :: .int x :: st) σ Q := by
  subst hp
  intro p l e s m args below meth c D ad cA A H locs lsr hc hP hD hS hl
  exact lv_ior hc.1 hc.2.1 hd (h p l e s m args below meth c D ad cA A H locs lsr hc hP hD hS hl)
theorem um_ishl {pc2 : Nat} {x y : Int32} (hd : decode M.2.1 pc = .ok (.ishl, 1)) (hp : pc + 1 = pc2) (h : um_Ev cl AW L SX M f lo pc2 ls (.int (x <<< (y &&& 31)) :: st) σ Q) : um_Ev cl AW L SX M f lo pc ls (.int y :: .int x :: st) σ Q := by
  subst hp
  intro p l e s m args below meth c D ad cA A H locs lsr hc hP hD hS hl
  exact lv_ishl hc.1 hc.2.1 hd (h p l e s m args below meth c D ad cA A H locs lsr hc hP hD hS hl)
theorem um_ishr {pc2 : Nat} {x y : Int32} (hd : decode M.2.1 pc = .ok (.ishr, 1)) (hp : pc + 1 = pc2) (h : um_Ev cl AW L SX M f lo pc2 ls (.int (x >>> (y &&& 31)) :: st) σ Q) : um_Ev cl AW L SX M f lo pc ls (.int y :: .int x :: st) σ Q := by
  subst hp
  intro p l e s m args below meth c D ad cA A H locs lsr hc hP hD hS hl
  exact lv_ishr hc.1 hc.2.1 hd (h p l e s m args below meth c D ad cA A H locs lsr hc hP hD hS hl)
theorem um_idiv {pc2 : Nat} {x y : Int32} (hd : decode M.2.1 pc = .ok (.idiv, 1)) (hp : pc + 1 = pc2) (hy : ¬ y = 0) (h : um_Ev cl AW L SX M f lo pc2 ls (.int (x / y) :: st) σ Q) : um_Ev cl AW L SX M f lo pc ls (.int y :: .int x :: st) σ Q := by
  subst hp
  intro p l e s m args below meth c D ad cA A H locs lsr hc hP hD hS hl
  exact lv_idiv hc.1 hc.2.1 hd hy (h p l e s m args below meth c D ad cA A H locs lsr hc hP hD hS hl)
theorem um_irem {pc2 : Nat} {x y : Int32} (hd : decode M.2.1 pc = .ok (.irem, 1)) (hp : pc + 1 = pc2) (hy : ¬ y = 0) (h : um_Ev cl AW L SX M f lo pc2 ls (.int (x - x / y * y) :: st) σ Q) : um_Ev cl AW L SX M f lo pc ls (.int y :: .int x :: st) σ Q := by
  subst hp
  intro p l e s m args below meth c D ad cA A H locs lsr hc hP hD hS hl
  exact lv_irem hc.1 hc.2.1 hd hy (h p l e s m args below meth c D ad cA A H locs lsr hc hP hD hS hl)
theorem um_ineg {pc2 : Nat} {x : Int32} (hd : decode M.2.1 pc = .ok (.ineg, 1)) (hp : pc + 1 = pc2) (h : um_Ev cl AW L SX M f lo pc2 ls (.int (-x) :: st) σ Q) : um_Ev cl AW L SX M f lo pc ls (.int x :: st) σ Q := by
  subst hp
  intro p l e s m args below meth c D ad cA A H locs lsr hc hP hD hS hl
  exact lv_ineg hc.1 hc.2.1 hd (h p l e s m args below meth c D ad cA A H locs lsr hc hP hD hS hl)
theorem um_iload_n {pc2 : Nat} {k : Fin 4} {x : Int32} (hd : decode M.2.1 pc = .ok (.iload_n k, 1)) (hp : pc + 1 = pc2) (hv : ls[(k : Nat)]? = some (some (.int x))) (h : um_Ev cl AW L SX M f lo pc2 ls (.int x :: st) σ Q) : um_Ev cl AW L SX M f lo pc ls st σ Q := by
  subst hp
  intro p l e s m args below meth c D ad cA A H locs lsr hc hP hD hS hl
  exact lv_iload_n hc.1 hc.2.1 hd rfl (hl.2.2.2 _ _ hv).1 (h p l e s m args below meth c D ad cA A H locs lsr hc hP hD hS hl)
theorem um_iload {pc2 : Nat} {i : Nat} {x : Int32} (hd : decode M.2.1 pc = .ok (.iload i, 2)) (hp : pc + 2 = pc2) (hv : ls[i]? = some (some (.int x))) (h : um_Ev cl AW L SX M f lo pc2 ls (.int x :: st) σ Q) : um_Ev cl AW L SX M f lo pc ls st σ Q := by
  subst hp
  intro p l e s m args below meth c D ad cA A H locs lsr hc hP hD hS hl
  exact lv_iload hc.1 hc.2.1 hd (hl.2.2.2 _ _ hv).1 (h p l e s m args below meth c D ad cA A H locs lsr hc hP hD hS hl)
theorem um_aload_n {pc2 : Nat} {k : Fin 4} {x : Nat} (hd : decode M.2.1 pc = .ok (.aload_n k, 1)) (hp : pc + 1 = pc2) (hv : ls[(k : Nat)]? = some (some (.ref x))) (h : um_Ev cl AW L SX M f lo pc2 ls (.ref x :: st) σ Q) : um_Ev cl AW L SX M f lo pc ls st σ Q := by
  subst hp
  intro p l e s m args below meth c D ad cA A H locs lsr hc hP hD hS hl
  exact lv_aload_n hc.1 hc.2.1 hd rfl (hl.2.2.2 _ _ hv).1 (h p l e s m args below meth c D ad cA A H locs lsr hc hP hD hS hl)
theorem um_aload {pc2 : Nat} {i : Nat} {x : Nat} (hd : decode M.2.1 pc = .ok (.aload i, 2)) (hp : pc + 2 = pc2) (hv : ls[i]? = some (some (.ref x))) (h : um_Ev cl AW L SX M f lo pc2 ls (.ref x :: st) σ Q) : um_Ev cl AW L SX M f lo pc ls st σ Q := by
  subst hp
  intro p l e s m args below meth c D ad cA A H locs lsr hc hP hD hS hl
  exact lv_aload hc.1 hc.2.1 hd (hl.2.2.2 _ _ hv).1 (h p l e s m args below meth c D ad cA A H locs lsr hc hP hD hS hl)
theorem um_istore_n {pc2 : Nat} {ls2 : List (Option Value)} {k : Fin 4} {x : Int32} (hd : decode M.2.1 pc = .ok (.istore_n k, 1)) (hp : pc + 1 = pc2) (hn : (k : Nat) < M.2.2.1) (hs : ls.set k (some (.int x)) = ls2) (h : um_Ev cl AW L SX M f lo pc2 ls2 st σ Q) : um_Ev cl AW L SX M f lo pc ls (.int x :: st) σ Q := by
  subst hp
  subst hs
  intro p l e s m args below meth c D ad cA A H locs lsr hc hP hD hS hl
  exact lv_istore_n hc.1 hc.2.1 hd rfl (um_ls_has hl) hn rfl (fun ls' h' => h p l e s m args below meth c D ad cA A H locs ls' hc hP hD hS (um_ls_set hl rfl (fun _ z => z) h'))
theorem um_istore {pc2 : Nat} {ls2 : List (Option Value)} {i : Nat} {x : Int32} (hd : decode M.2.1 pc = .ok (.istore i, 2)) (hp : pc + 2 = pc2) (hn : i < M.2.2.1) (hs : ls.set i (some (.int x)) = ls2) (h : um_Ev cl AW L SX M f lo pc2 ls2 st σ Q) : um_Ev cl AW L SX M f lo pc ls (.int x :: st) σ Q := by
  subst hp
  subst hs
  intro p l e s m args below meth c D ad cA A H locs lsr hc hP hD hS hl
  exact lv_istore hc.1 hc.2.1 hd (um_ls_has hl) hn rfl (fun ls' h' => h p l e s m args below meth c D ad cA A H locs ls' hc hP hD hS (um_ls_set hl rfl (fun _ z => z) h'))
theorem um_iinc {pc2 : Nat} {ls2 : List (Option Value)} {i : Nat} {n : Int} {x v : Int32} (hd : decode M.2.1 pc = .ok (.iinc i n, 3)) (hp : pc + 3 = pc2) (hx : ls[i]? = some (some (.int x))) (hv : x + Int32.ofInt n = v) (hn : i < M.2.2.1) (hs : ls.set i (some (.int v)) = ls2) (h : um_Ev cl AW L SX M f lo pc2 ls2 st σ Q) : um_Ev cl AW L SX M f lo pc ls st σ Q := by
  subst hp
  subst hs
  intro p l e s m args below meth c D ad cA A H locs lsr hc hP hD hS hl
  have h2 := um_ls_has hl
  have h3 : lv_has lsr M.2.2.1 ((i, .int x) :: um_lv ad 0 ls) := ⟨h2.1, h2.2.1, fun q hq => by
    rcases List.mem_cons.mp hq with hq | hq
    · subst hq
      exact (hl.2.2.2 i _ hx).1
    · exact h2.2.2 q hq⟩
  exact lv_iinc (k := 0) hc.1 hc.2.1 hd h3 rfl hv hn rfl (fun ls' h' => h p l e s m args below meth c D ad cA A H locs ls' hc hP hD hS (um_ls_set hl rfl (fun _ z => List.mem_cons_of_mem _ z) h'))
theorem um_dup {pc2 : Nat} {v : Value} (hd : decode M.2.1 pc = .ok (.dup, 1)) (hp : pc + 1 = pc2) (hv : v.category = 1) (h : um_Ev cl AW L SX M f lo pc2 ls (v :: v :: st) σ Q) : um_Ev cl AW L SX M f lo pc ls (v :: st) σ Q := by
  subst hp
  intro p l e s m args below meth c D ad cA A H locs lsr hc hP hD hS hl
  exact lv_dup hc.1 hc.2.1 hd (um_v_cat.trans hv) (h p l e s m args below meth c D ad cA A H locs lsr hc hP hD hS hl)
theorem um_dup2 {pc2 : Nat} {v w : Value} (hd : decode M.2.1 pc = .ok (.dup2, 1)) (hp : pc + 1 = pc2) (hv : v.category = 1) (hw : w.category = 1) (h : um_Ev cl AW L SX M f lo pc2 ls (v :: w :: v :: w :: st) σ Q) : um_Ev cl AW L SX M f lo pc ls (v :: w :: st) σ Q := by
  subst hp
  intro p l e s m args below meth c D ad cA A H locs lsr hc hP hD hS hl
  exact lv_dup2_11 hc.1 hc.2.1 hd (um_v_cat.trans hv) (um_v_cat.trans hw) (h p l e s m args below meth c D ad cA A H locs lsr hc hP hD hS hl)
theorem um_pop {pc2 : Nat} {v : Value} (hd : decode M.2.1 pc = .ok (.pop, 1)) (hp : pc + 1 = pc2) (hv : v.category = 1) (h : um_Ev cl AW L SX M f lo pc2 ls st σ Q) : um_Ev cl AW L SX M f lo pc ls (v :: st) σ Q := by
  subst hp
  intro p l e s m args below meth c D ad cA A H locs lsr hc hP hD hS hl
  exact lv_pop hc.1 hc.2.1 hd (um_v_cat.trans hv) (h p l e s m args below meth c D ad cA A H locs lsr hc hP hD hS hl)
theorem um_if_eq {pc2 : Nat} {x : Int32} {off : Int} {tgt : Nat} (hd : decode M.2.1 pc = .ok (.ifCond .eq off, 3)) (hp : pc + 3 = pc2) (ht : (pc : Int) + off = (tgt : Int)) (kt : x = 0 → um_Ev cl AW L SX M f lo tgt ls st σ Q) (kf : ¬ x = 0 → um_Ev cl AW L SX M f lo pc2 ls st σ Q) : um_Ev cl AW L SX M f lo pc ls (.int x :: st) σ Q := by
  subst hp
  intro p l e s m args below meth c D ad cA A H locs lsr hc hP hD hS hl
  exact lv_if_eq hc.1 hc.2.1 hd ht (fun z => kt z p l e s m args below meth c D ad cA A H locs lsr hc hP hD hS hl) (fun z => kf z p l e s m args below meth c D ad cA A H locs lsr hc hP hD hS hl)
theorem um_if_ne {pc2 : Nat} {x : Int32} {off : Int} {tgt : Nat} (hd : decode M.2.1 pc = .ok (.ifCond .ne off, 3)) (hp : pc + 3 = pc2) (ht : (pc : Int) + off = (tgt : Int)) (kt : ¬ x = 0 → um_Ev cl AW L SX M f lo tgt ls st σ Q) (kf : x = 0 → um_Ev cl AW L SX M f lo pc2 ls st σ Q) : um_Ev cl AW L SX M f lo pc ls (.int x :: st) σ Q := by
  subst hp
  intro p l e s m args below meth c D ad cA A H locs lsr hc hP hD hS hl
  exact lv_if_ne hc.1 hc.2.1 hd ht (fun z => kt z p l e s m args below meth c D ad cA A H locs lsr hc hP hD hS hl) (fun z => kf z p l e s m args below meth c D ad cA A H locs lsr hc hP hD hS hl)
theorem um_if_lt {pc2 : Nat} {x : Int32} {off : Int} {tgt : Nat} (hd : decode M.2.1 pc = .ok (.ifCond .lt off, 3)) (hp : pc + 3 = pc2) (ht : (pc : Int) + off = (tgt : Int)) (kt : x < 0 → um_Ev cl AW L SX M f lo tgt ls st σ Q) (kf : ¬ x < 0 → um_Ev cl AW L SX M f lo pc2 ls st σ Q) : um_Ev cl AW L SX M f lo pc ls (.int x :: st) σ Q := by
  subst hp
  intro p l e s m args below meth c D ad cA A H locs lsr hc hP hD hS hl
  exact lv_if_lt hc.1 hc.2.1 hd ht (fun z => kt z p l e s m args below meth c D ad cA A H locs lsr hc hP hD hS hl) (fun z => kf z p l e s m args below meth c D ad cA A H locs lsr hc hP hD hS hl)
theorem um_if_ge {pc2 : Nat} {x : Int32} {off : Int} {tgt : Nat} (hd : decode M.2.1 pc = .ok (.ifCond .ge off, 3)) (hp : pc + 3 = pc2) (ht : (pc : Int) + off = (tgt : Int)) (kt : 0 ≤ x → um_Ev cl AW L SX M f lo tgt ls st σ Q) (kf : ¬ 0 ≤ x → um_Ev cl AW L SX M f lo pc2 ls st σ Q) : um_Ev cl AW L SX M f lo pc ls (.int x :: st) σ Q := by
  subst hp
  intro p l e s m args below meth c D ad cA A H locs lsr hc hP hD hS hl
  exact lv_if_ge hc.1 hc.2.1 hd ht (fun z => kt z p l e s m args below meth c D ad cA A H locs lsr hc hP hD hS hl) (fun z => kf z p l e s m args below meth c D ad cA A H locs lsr hc hP hD hS hl)
theorem um_if_gt {pc2 : Nat} {x : Int32} {off : Int} {tgt : Nat} (hd : decode M.2.1 pc = .ok (.ifCond .gt off, 3)) (hp : pc + 3 = pc2) (ht : (pc : Int) + off = (tgt : Int)) (kt : 0 < x → um_Ev cl AW L SX M f lo tgt ls st σ Q) (kf : ¬ 0 < x → um_Ev cl AW L SX M f lo pc2 ls st σ Q) : um_Ev cl AW L SX M f lo pc ls (.int x :: st) σ Q := by
  subst hp
  intro p l e s m args below meth c D ad cA A H locs lsr hc hP hD hS hl
  exact lv_if_gt hc.1 hc.2.1 hd ht (fun z => kt z p l e s m args below meth c D ad cA A H locs lsr hc hP hD hS hl) (fun z => kf z p l e s m args below meth c D ad cA A H locs lsr hc hP hD hS hl)
theorem um_if_le {pc2 : Nat} {x : Int32} {off : Int} {tgt : Nat} (hd : decode M.2.1 pc = .ok (.ifCond .le off, 3)) (hp : pc + 3 = pc2) (ht : (pc : Int) + off = (tgt : Int)) (kt : x ≤ 0 → um_Ev cl AW L SX M f lo tgt ls st σ Q) (kf : ¬ x ≤ 0 → um_Ev cl AW L SX M f lo pc2 ls st σ Q) : um_Ev cl AW L SX M f lo pc ls (.int x :: st) σ Q := by
  subst hp
  intro p l e s m args below meth c D ad cA A H locs lsr hc hP hD hS hl
  exact lv_if_le hc.1 hc.2.1 hd ht (fun z => kt z p l e s m args below meth c D ad cA A H locs lsr hc hP hD hS hl) (fun z => kf z p l e s m args below meth c D ad cA A H locs lsr hc hP hD hS hl)
theorem um_icmp_eq {pc2 : Nat} {x y : Int32} {off : Int} {tgt : Nat} (hd : decode M.2.1 pc = .ok (.if_icmp .eq off, 3)) (hp : pc + 3 = pc2) (ht : (pc : Int) + off = (tgt : Int)) (kt : x = y → um_Ev cl AW L SX M f lo tgt ls st σ Q) (kf : ¬ x = y → um_Ev cl AW L SX M f lo pc2 ls st σ Q) : um_Ev cl AW L SX M f lo pc ls (.int y :: .int x :: st) σ Q := by
  subst hp
  intro p l e s m args below meth c D ad cA A H locs lsr hc hP hD hS hl
  exact lv_icmp_eq hc.1 hc.2.1 hd ht (fun z => kt z p l e s m args below meth c D ad cA A H locs lsr hc hP hD hS hl) (fun z => kf z p l e s m args below meth c D ad cA A H locs lsr hc hP hD hS hl)
theorem um_icmp_ne {pc2 : Nat} {x y : Int32} {off : Int} {tgt : Nat} (hd : decode M.2.1 pc = .ok (.if_icmp .ne off, 3)) (hp : pc + 3 = pc2) (ht : (pc : Int) + off = (tgt : Int)) (kt : ¬ x = y → um_Ev cl AW L SX M f lo tgt ls st σ Q) (kf : x = y → um_Ev cl AW L SX M f lo pc2 ls st σ Q) : um_Ev cl AW L SX M f lo pc ls (.int y :: .int x :: st) σ Q := by
  subst hp
  intro p l e s m args below meth c D ad cA A H locs lsr hc hP hD hS hl
  exact lv_icmp_ne hc.1 hc.2.1 hd ht (fun z => kt z p l e s m args below meth c D ad cA A H locs lsr hc hP hD hS hl) (fun z => kf z p l e s m args below meth c D ad cA A H locs lsr hc hP hD hS hl)
theorem um_icmp_lt {pc2 : Nat} {x y : Int32} {off : Int} {tgt : Nat} (hd : decode M.2.1 pc = .ok (.if_icmp .lt off, 3)) (hp : pc + 3 = pc2) (ht : (pc : Int) + off = (tgt : Int)) (kt : x < y → um_Ev cl AW L SX M f lo tgt ls st σ Q) (kf : ¬ x < y → um_Ev cl AW L SX M f lo pc2 ls st σ Q) : um_Ev cl AW L SX M f lo pc ls (.int y :: .int x :: st) σ Q := by
  subst hp
  intro p l e s m args below meth c D ad cA A H locs lsr hc hP hD hS hl
  exact lv_icmp_lt hc.1 hc.2.1 hd ht (fun z => kt z p l e s m args below meth c D ad cA A H locs lsr hc hP hD hS hl) (fun z => kf z p l e s m args below meth c D ad cA A H locs lsr hc hP hD hS hl)
theorem um_icmp_ge {pc2 : Nat} {x y : Int32} {off : Int} {tgt : Nat} (hd : decode M.2.1 pc = .ok (.if_icmp .ge off, 3)) (hp : pc + 3 = pc2) (ht : (pc : Int) + off = (tgt : Int)) (kt : y ≤ x → um_Ev cl AW L SX M f lo tgt ls st σ Q) (kf : ¬ y ≤ x → um_Ev cl AW L SX M f lo pc2 ls st σ Q) : um_Ev cl AW L SX M f lo pc ls (.int y :: .int x :: st) σ Q := by
  subst hp
  intro p l e s m args below meth c D ad cA A H locs lsr hc hP hD hS hl
  exact lv_icmp_ge hc.1 hc.2.1 hd ht (fun z => kt z p l e s m args below meth c D ad cA A H locs lsr hc hP hD hS hl) (fun z => kf z p l e s m args below meth c D ad cA A H locs lsr hc hP hD hS hl)
theorem um_icmp_gt {pc2 : Nat} {x y : Int32} {off : Int} {tgt : Nat} (hd : decode M.2.1 pc = .ok (.if_icmp .gt off, 3)) (hp : pc + 3 = pc2) (ht : (pc : Int) + off = (tgt : Int)) (kt : y < x → um_Ev cl AW L SX M f lo tgt ls st σ Q) (kf : ¬ y < x → um_Ev cl AW L SX M f lo pc2 ls st σ Q) : um_Ev cl AW L SX M f lo pc ls (.int y :: .int x :: st) σ Q := by
  subst hp
  intro p l e s m args below meth c D ad cA A H locs lsr hc hP hD hS hl
  exact lv_icmp_gt hc.1 hc.2.1 hd ht (fun z => kt z p l e s m args below meth c D ad cA A H locs lsr hc hP hD hS hl) (fun z => kf z p l e s m args below meth c D ad cA A H locs lsr hc hP hD hS hl)
theorem um_icmp_le {pc2 : Nat} {x y : Int32} {off : Int} {tgt : Nat} (hd : decode M.2.1 pc = .ok (.if_icmp .le off, 3)) (hp : pc + 3 = pc2) (ht : (pc : Int) + off = (tgt : Int)) (kt : x ≤ y → um_Ev cl AW L SX M f lo tgt ls st σ Q) (kf : ¬ x ≤ y → um_Ev cl AW L SX M f lo pc2 ls st σ Q) : um_Ev cl AW L SX M f lo pc ls (.int y :: .int x :: st) σ Q := by
  subst hp
  intro p l e s m args below meth c D ad cA A H locs lsr hc hP hD hS hl
  exact lv_icmp_le hc.1 hc.2.1 hd ht (fun z => kt z p l e s m args below meth c D ad cA A H locs lsr hc hP hD hS hl) (fun z => kf z p l e s m args below meth c D ad cA A H locs lsr hc hP hD hS hl)
theorem um_goto {off : Int} {tgt : Nat} (hd : decode M.2.1 pc = .ok (.goto off, 3)) (ht : (pc : Int) + off = (tgt : Int)) (h : um_Ev cl AW L SX M f lo tgt ls st σ Q) : um_Ev cl AW L SX M f lo pc ls st σ Q := by
  intro p l e s m args below meth c D ad cA A H locs lsr hc hP hD hS hl
  exact lv_goto hc.1 hc.2.1 hd ht (h p l e s m args below meth c D ad cA A H locs lsr hc hP hD hS hl)
theorem um_tableOut {dflt lw hi : Int} {offs : Array Int} {len : Nat} {x : Int32} {tgt : Nat} (hd : decode M.2.1 pc = .ok (.tableswitch dflt lw hi offs, len)) (hx : x.toInt < lw ∨ hi < x.toInt) (ht : (pc : Int) + dflt = (tgt : Int)) (h : um_Ev cl AW L SX M f lo tgt ls st σ Q) : um_Ev cl AW L SX M f lo pc ls (.int x :: st) σ Q := by
  intro p l e s m args below meth c D ad cA A H locs lsr hc hP hD hS hl
  exact lv_tableOut hc.1 hc.2.1 hd hx ht (h p l e s m args below meth c D ad cA A H locs lsr hc hP hD hS hl)
theorem um_tableIn {dflt lw hi : Int} {offs : Array Int} {len : Nat} {x : Int32} {off : Int} {tgt : Nat} (hd : decode M.2.1 pc = .ok (.tableswitch dflt lw hi offs, len)) (h1 : ¬ x.toInt < lw) (h2 : ¬ hi < x.toInt) (ho : offs[(x.toInt - lw).toNat]? = some off) (ht : (pc : Int) + off = (tgt : Int)) (h : um_Ev cl AW L SX M f lo tgt ls st σ Q) : um_Ev cl AW L SX M f lo pc ls (.int x :: st) σ Q := by
  intro p l e s m args below meth c D ad cA A H locs lsr hc hP hD hS hl
  exact lv_tableIn hc.1 hc.2.1 hd h1 h2 ho ht (h p l e s m args below meth c D ad cA A H locs lsr hc hP hD hS hl)
theorem um_lookup {dflt : Int} {ps : Array (Int × Int)} {len : Nat} {x : Int32} {off : Int} {tgt : Nat} (hd : decode M.2.1 pc = .ok (.lookupswitch dflt ps, len)) (hp : (ps.toList.zip (ps.toList.drop 1)).all (fun (a, next) => a.1 < next.1) = true) (ho : Op.lookupswitch.offset ps.toList dflt x.toInt = off) (ht : (pc : Int) + off = (tgt : Int)) (h : um_Ev cl AW L SX M f lo tgt ls st σ Q) : um_Ev cl AW L SX M f lo pc ls (.int x :: st) σ Q := by
  intro p l e s m args below meth c D ad cA A H locs lsr hc hP hD hS hl
  exact lv_lookup hc.1 hc.2.1 hd hp ho ht (h p l e s m args below meth c D ad cA A H locs lsr hc hP hD hS hl)
theorem um_ldc {pc2 : Nat} {idx : Nat} {v : Int32} (hd : decode M.2.1 pc = .ok (.ldc idx, 2)) (hp : pc + 2 = pc2) (hw : Cond.constant M.1.cls idx v ∈ AW) (h : um_Ev cl AW L SX M f lo pc2 ls (.int v :: st) σ Q) : um_Ev cl AW L SX M f lo pc ls st σ Q := by
  subst hp
  intro p l e s m args below meth c D ad cA A H locs lsr hc hP hD hS hl
  exact lv_ldc hc.1 hc.2.1 hc.2.2.2.2.2.2.1 (hc.2.2.2.2.2.1 _ (List.mem_cons_of_mem _ hw)) hd (h p l e s m args below meth c D ad cA A H locs lsr hc hP hD hS hl)
theorem um_ldcw {pc2 : Nat} {idx : Nat} {v : Int32} (hd : decode M.2.1 pc = .ok (.ldc_w idx, 3)) (hp : pc + 3 = pc2) (hw : Cond.constant M.1.cls idx v ∈ AW) (h : um_Ev cl AW L SX M f lo pc2 ls (.int v :: st) σ Q) : um_Ev cl AW L SX M f lo pc ls st σ Q := by
  subst hp
  intro p l e s m args below meth c D ad cA A H locs lsr hc hP hD hS hl
  exact lv_ldcw hc.1 hc.2.1 hc.2.2.2.2.2.2.1 (hc.2.2.2.2.2.1 _ (List.mem_cons_of_mem _ hw)) hd (h p l e s m args below meth c D ad cA A H locs lsr hc hP hD hS hl)
end UmRows
/-- a class of the world: its place, its fields' table -/
def um_Cl (cl : List vw_C) (AW : List Cond) (ci : Nat) (C : String) (T : u_T) (N : Nat) : Prop :=
  cl[ci]? = some (C, T, N) ∧ (∀ w ∈ u_ws C T N, w ∈ AW) ∧ (∃ ty0 : Nat → FieldType, ∀ k, k < N → parseFieldDescriptor (T k).2.2.1 = some (ty0 k)) ∧ (∀ a, a < N → ∀ b, b < N → a ≠ b → (T a).2.1 ≠ (T b).2.1)
def um_Lk (AW : List Cond) (own : String) (idx : Nat) (C n d : String) : Prop := Cond.fieldLink own idx C n d ∈ AW ∨ ∃ host : String, Cond.fieldLinkNest own idx C n d host ∈ AW
/-- a place of the pool that names field k of class ci -/
def um_Fd (cl : List vw_C) (AW : List Cond) (own : String) (idx ci k : Nat) : Prop := ∃ (C : String) (T : u_T) (N : Nat), um_Cl cl AW ci C T N ∧ k < N ∧ um_Lk AW own idx (T k).1 (T k).2.1 (T k).2.2.1
def um_Fw (cl : List vw_C) (AW : List Cond) (own : String) (idx ci k : Nat) (ty : FieldType) : Prop := ∃ (C : String) (T : u_T) (N : Nat), um_Cl cl AW ci C T N ∧ k < N ∧ um_Lk AW own idx (T k).1 (T k).2.1 (T k).2.2.1 ∧ (T k).2.2.2 = false ∧ parseFieldDescriptor (T k).2.2.1 = some ty
section UmCells
variable {cl : List vw_C} {AW : List Cond} {L : List um_E} {SX : List um_X} {M : um_M} {f lo pc : Nat} {ls : List (Option Value)} {st : List Value} {σ : um_S} {Q : Option Int32 → um_S → Prop}
theorem um_getI {pc2 : Nat} {q k ci idx : Nat} {fs : List (Option Nat)} (hd : decode M.2.1 pc = .ok (.getfield idx, 3)) (hp : pc + 3 = pc2) (hF : um_Fd cl AW M.1.cls idx ci k) (hL : L[q]? = some (.inl (ci, fs))) (hk : fs[k]? = some none) (h : um_Ev cl AW L SX M f lo pc2 ls (.int (σ q k) :: st) σ Q) : um_Ev cl AW L SX M f lo pc ls (.ref q :: st) σ Q := by
  subst hp
  intro p l e s m args below meth c D ad cA A H locs lsr hc hP hD hS hl
  obtain ⟨C, T, N, ⟨hcl, hin, -, -⟩, hk2, hlk⟩ := hF
  have hts := hc.2.2.2.2.2.1
  have hin' : ∀ w ∈ u_ws C T N, w ∈ um_wd AW M := fun w hw => List.mem_cons_of_mem _ (hin w hw)
  have he : (um_ws ad cA L σ)[q]? = some (ad q, .inr (ci, fs.mapIdx (um_fv ad σ q))) := by rw [um_ws_at, hL]; rfl
  have hv : (fs.mapIdx (um_fv ad σ q))[k]? = some (.int (σ q k)) := by rw [List.getElem?_mapIdx, hk]; rfl
  rcases hlk with hlk | ⟨host, hlk⟩
  · exact va_get hc.1 hc.2.1 hts hin' hc.2.2.2.2.2.2.1 hc.2.2.2.2.2.2.2.1 hP q he hcl k hk2 (hts _ (List.mem_cons_of_mem _ hlk)) (fun _ z => z) hv hd (h p l e s m args below meth c D ad cA A H locs lsr hc hP hD hS hl)
  · exact va_getN hc.1 hc.2.1 hts hin' hc.2.2.2.2.2.2.1 hc.2.2.2.2.2.2.2.1 hP q he hcl k hk2 (hts _ (List.mem_cons_of_mem _ hlk)) (fun _ z => z) hv hd (h p l e s m args below meth c D ad cA A H locs lsr hc hP hD hS hl)
theorem um_getR {pc2 : Nat} {q k ci idx j : Nat} {fs : List (Option Nat)} (hd : decode M.2.1 pc = .ok (.getfield idx, 3)) (hp : pc + 3 = pc2) (hF : um_Fd cl AW M.1.cls idx ci k) (hL : L[q]? = some (.inl (ci, fs))) (hk : fs[k]? = some (some j)) (h : um_Ev cl AW L SX M f lo pc2 ls (.ref j :: st) σ Q) : um_Ev cl AW L SX M f lo pc ls (.ref q :: st) σ Q := by
  subst hp
  intro p l e s m args below meth c D ad cA A H locs lsr hc hP hD hS hl
  obtain ⟨C, T, N, ⟨hcl, hin, -, -⟩, hk2, hlk⟩ := hF
  have hts := hc.2.2.2.2.2.1
  have hin' : ∀ w ∈ u_ws C T N, w ∈ um_wd AW M := fun w hw => List.mem_cons_of_mem _ (hin w hw)
  have he : (um_ws ad cA L σ)[q]? = some (ad q, .inr (ci, fs.mapIdx (um_fv ad σ q))) := by rw [um_ws_at, hL]; rfl
  have hv : (fs.mapIdx (um_fv ad σ q))[k]? = some (.ref (ad j)) := by rw [List.getElem?_mapIdx, hk]; rfl
  rcases hlk with hlk | ⟨host, hlk⟩
  · exact va_get hc.1 hc.2.1 hts hin' hc.2.2.2.2.2.2.1 hc.2.2.2.2.2.2.2.1 hP q he hcl k hk2 (hts _ (List.mem_cons_of_mem _ hlk)) (fun _ z => z) hv hd (h p l e s m args below meth c D ad cA A H locs lsr hc hP hD hS hl)
  · exact va_getN hc.1 hc.2.1 hts hin' hc.2.2.2.2.2.2.1 hc.2.2.2.2.2.2.2.1 hP q he hcl k hk2 (hts _ (List.mem_cons_of_mem _ hlk)) (fun _ z => z) hv hd (h p l e s m args below meth c D ad cA A H locs lsr hc hP hD hS hl)
theorem um_putI {pc2 : Nat} {q k ci idx : Nat} {fs : List (Option Nat)} {v : Int32} (hd : decode M.2.1 pc = .ok (.putfield idx, 3)) (hp : pc + 3 = pc2) (hF : um_Fw cl AW M.1.cls idx ci k .int) (hL : L[q]? = some (.inl (ci, fs))) (hk : fs[k]? = some none) (h : um_Ev cl AW L SX M f lo pc2 ls st (um_up σ q k v) Q) : um_Ev cl AW L SX M f lo pc ls (.int v :: .ref q :: st) σ Q := by
  subst hp
  intro p l e s m args below meth c D ad cA A H locs lsr hc hP hD hS hl
  obtain ⟨C, T, N, ⟨hcl, hin, ⟨ty0, hty⟩, hnm⟩, hk2, hlk, hfin, hpd⟩ := hF
  have hts := hc.2.2.2.2.2.1
  have hin' : ∀ w ∈ u_ws C T N, w ∈ um_wd AW M := fun w hw => List.mem_cons_of_mem _ (hin w hw)
  have he : (um_ws ad cA L σ)[q]? = some (ad q, .inr (ci, fs.mapIdx (um_fv ad σ q))) := by rw [um_ws_at, hL]; rfl
  have hlen : k < (fs.mapIdx (um_fv ad σ q)).length := by rw [List.length_mapIdx]; exact (List.getElem?_eq_some_iff.mp hk).1
  have hset := um_ws_setF (ad := ad) (cA := cA) (σ := σ) (v := v) hL hk
  have kk : ∀ (H1 : Heap) (locs1 : List Loc), va_P D cl ((um_ws ad cA L σ).set q (ad q, .inr (ci, (fs.mapIdx (um_fv ad σ q)).set k (.int v)))) H1 → va_D A ((um_ws ad cA L σ).set q (ad q, .inr (ci, (fs.mapIdx (um_fv ad σ q)).set k (.int v)))) → va_S A s.heap H1 locs1 → _ := fun H1 locs1 hP1 hD1 hS1 => h p l e s m args below meth c D ad cA A H1 locs1 lsr hc (hset ▸ hP1) (hset ▸ hD1) hS1 hl
  rcases hlk with hlk | ⟨host, hlk⟩
  · exact va_put hc.1 hc.2.1 hts hin' ty0 hty hnm hc.2.2.2.2.2.2.1 hc.2.2.2.2.2.2.2.1 hP hD hS q he hcl k hk2 (hts _ (List.mem_cons_of_mem _ hlk)) (fun _ z => z) hfin hpd rfl rfl hlen hd kk
  · exact va_putN hc.1 hc.2.1 hts hin' ty0 hty hnm hc.2.2.2.2.2.2.1 hc.2.2.2.2.2.2.2.1 hP hD hS q he hcl k hk2 (hts _ (List.mem_cons_of_mem _ hlk)) (fun _ z => z) hfin hpd rfl rfl hlen hd kk
theorem um_putZ {pc2 : Nat} {q k ci idx : Nat} {fs : List (Option Nat)} {v : Int32} (hd : decode M.2.1 pc = .ok (.putfield idx, 3)) (hp : pc + 3 = pc2) (hF : um_Fw cl AW M.1.cls idx ci k .boolean) (hL : L[q]? = some (.inl (ci, fs))) (hk : fs[k]? = some none) (hz : v = 0 ∨ v = 1) (h : um_Ev cl AW L SX M f lo pc2 ls st (um_up σ q k v) Q) : um_Ev cl AW L SX M f lo pc ls (.int v :: .ref q :: st) σ Q := by
  subst hp
  intro p l e s m args below meth c D ad cA A H locs lsr hc hP hD hS hl
  have hn1 : narrow .boolean (.int v) = .int v := by rcases hz with rfl | rfl <;> rfl
  have hn2 : fits .boolean (.int v) = true := by rcases hz with rfl | rfl <;> rfl
  obtain ⟨C, T, N, ⟨hcl, hin, ⟨ty0, hty⟩, hnm⟩, hk2, hlk, hfin, hpd⟩ := hF
  have hts := hc.2.2.2.2.2.1
  have hin' : ∀ w ∈ u_ws C T N, w ∈ um_wd AW M := fun w hw => List.mem_cons_of_mem _ (hin w hw)
  have he : (um_ws ad cA L σ)[q]? = some (ad q, .inr (ci, fs.mapIdx (um_fv ad σ q))) := by rw [um_ws_at, hL]; rfl
  have hlen : k < (fs.mapIdx (um_fv ad σ q)).length := by rw [List.length_mapIdx]; exact (List.getElem?_eq_some_iff.mp hk).1
  have hset := um_ws_setF (ad := ad) (cA := cA) (σ := σ) (v := v) hL hk
  have kk : ∀ (H1 : Heap) (locs1 : List Loc), va_P D cl ((um_ws ad cA L σ).set q (ad q, .inr (ci, (fs.mapIdx (um_fv ad σ q)).set k (.int v)))) H1 → va_D A ((um_ws ad cA L σ).set q (ad q, .inr (ci, (fs.mapIdx (um_fv ad σ q)).set k (.int v)))) → va_S A s.heap H1 locs1 → _ := fun H1 locs1 hP1 hD1 hS1 => h p l e s m args below meth c D ad cA A H1 locs1 lsr hc (hset ▸ hP1) (hset ▸ hD1) hS1 hl
  rcases hlk with hlk | ⟨host, hlk⟩
  · exact va_put hc.1 hc.2.1 hts hin' ty0 hty hnm hc.2.2.2.2.2.2.1 hc.2.2.2.2.2.2.2.1 hP hD hS q he hcl k hk2 (hts _ (List.mem_cons_of_mem _ hlk)) (fun _ z => z) hfin hpd hn1 hn2 hlen hd kk
  · exact va_putN hc.1 hc.2.1 hts hin' ty0 hty hnm hc.2.2.2.2.2.2.1 hc.2.2.2.2.2.2.2.1 hP hD hS q he hcl k hk2 (hts _ (List.mem_cons_of_mem _ hlk)) (fun _ z => z) hfin hpd hn1 hn2 hlen hd kk
theorem um_iald {pc2 : Nat} {q n k : Nat} {j : Int32} (hd : decode M.2.1 pc = .ok (.iaload, 1)) (hp : pc + 1 = pc2) (hL : L[q]? = some (.inr n)) (hin : vp_in j n) (hk : j.toNatClampNeg = k) (h : um_Ev cl AW L SX M f lo pc2 ls (.int (σ q k) :: st) σ Q) : um_Ev cl AW L SX M f lo pc ls (.int j :: .ref q :: st) σ Q := by
  subst hp
  subst hk
  intro p l e s m args below meth c D ad cA A H locs lsr hc hP hD hS hl
  have he : (um_ws ad cA L σ)[q]? = some (ad q, .inl (cA, n, .inl (σ q))) := by rw [um_ws_at, hL]; rfl
  exact va_iald hc.1 hc.2.1 hc.2.2.2.2.2.2.2.1 hP q 0 he rfl hin hd (h p l e s m args below meth c D ad cA A H locs lsr hc hP hD hS hl)
theorem um_iast {pc2 : Nat} {q n k : Nat} {j x : Int32} (hd : decode M.2.1 pc = .ok (.iastore, 1)) (hp : pc + 1 = pc2) (hL : L[q]? = some (.inr n)) (hin : vp_in j n) (hk : j.toNatClampNeg = k) (h : um_Ev cl AW L SX M f lo pc2 ls st (um_up σ q k x) Q) : um_Ev cl AW L SX M f lo pc ls (.int x :: .int j :: .ref q :: st) σ Q := by
  subst hp
  subst hk
  intro p l e s m args below meth c D ad cA A H locs lsr hc hP hD hS hl
  have he : (um_ws ad cA L σ)[q]? = some (ad q, .inl (cA, n, .inl (σ q))) := by rw [um_ws_at, hL]; rfl
  have hset := um_ws_setA (ad := ad) (cA := cA) (σ := σ) (k := j.toNatClampNeg) (v := x) hL
  exact va_iast hc.1 hc.2.1 hc.2.2.2.2.2.2.2.1 hP hD hS q 0 he rfl hin hd (fun H1 locs1 hP1 hD1 hS1 => h p l e s m args below meth c D ad cA A H1 locs1 lsr hc (hset ▸ hP1) (hset ▸ hD1) hS1 hl)
theorem um_alen {pc2 : Nat} {q n : Nat} (hd : decode M.2.1 pc = .ok (.arraylength, 1)) (hp : pc + 1 = pc2) (hL : L[q]? = some (.inr n)) (h : um_Ev cl AW L SX M f lo pc2 ls (.int (Int32.ofNat n) :: st) σ Q) : um_Ev cl AW L SX M f lo pc ls (.ref q :: st) σ Q := by
  subst hp
  intro p l e s m args below meth c D ad cA A H locs lsr hc hP hD hS hl
  have he : (um_ws ad cA L σ)[q]? = some (ad q, .inl (cA, n, .inl (σ q))) := by rw [um_ws_at, hL]; rfl
  exact va_alen hc.1 hc.2.1 hc.2.2.2.2.2.2.2.1 hP q 0 he rfl rfl hd (h p l e s m args below meth c D ad cA A H locs lsr hc hP hD hS hl)
theorem um_gets {pc2 : Nat} {i idx N : Nat} {C n : String} {fn : Nat → Int32} (hd : decode M.2.1 pc = .ok (.getstatic idx, 3)) (hp : pc + 3 = pc2) (hX : SX[i]? = some (C, n, N, fn)) (hw : Cond.fieldLink M.1.cls idx C n "[I" ∈ AW) (h : um_Ev cl AW L SX M f lo pc2 ls (.ref (1000 + i) :: st) σ Q) : um_Ev cl AW L SX M f lo pc ls st σ Q := by
  subst hp
  intro p l e s m args below meth c D ad cA A H locs lsr hc hP hD hS hl
  exact va_gets hc.1 hc.2.1 (hc.2.2.2.2.2.2.2.2.2.1 i C n N fn hX).1 hS hc.2.2.2.2.2.2.1 (hc.2.2.2.2.2.1 _ (List.mem_cons_of_mem _ hw)) (fun _ z => z) hd (h p l e s m args below meth c D ad cA A H locs lsr hc hP hD hS hl)
theorem um_sald {pc2 : Nat} {i N : Nat} {C n : String} {fn : Nat → Int32} {j : Int32} (hd : decode M.2.1 pc = .ok (.iaload, 1)) (hp : pc + 1 = pc2) (hX : SX[i]? = some (C, n, N, fn)) (hin : vp_in j N) (h : um_Ev cl AW L SX M f lo pc2 ls (.int (fn j.toNatClampNeg) :: st) σ Q) : um_Ev cl AW L SX M f lo pc ls (.int j :: .ref (1000 + i) :: st) σ Q := by
  subst hp
  intro p l e s m args below meth c D ad cA A H locs lsr hc hP hD hS hl
  exact va_ti hc.1 hc.2.1 (hc.2.2.2.2.2.2.2.2.2.1 i C n N fn hX).2 hS hin rfl hd (h p l e s m args below meth c D ad cA A H locs lsr hc hP hD hS hl)
theorem um_iret {v : Int32} (hd : decode M.2.1 pc = .ok (.ireturn, 1)) (hr : M.2.2.2 = some .int) (h : Q (some v) σ) : um_Ev cl AW L SX M f lo pc ls [.int v] σ Q := by
  intro p l e s m args below meth c D ad cA A H locs lsr hc hP hD hS hl
  exact W.iret (v := v) hc.1 hc.2.1 (hc.2.2.2.1.trans hr) (fun t ht hW => ⟨⟨some v, σ, rfl, h, by rw [ht]; exact hP, va_K.moved hW.alike hc.2.2.2.2.2.2.2.1, hD⟩, hS.F ht⟩) hS.2.2 hd hc.2.2.2.2.1
theorem um_zret {v : Int32} (hd : decode M.2.1 pc = .ok (.ireturn, 1)) (hr : M.2.2.2 = some .boolean) (hz : v = 0 ∨ v = 1) (h : Q (some v) σ) : um_Ev cl AW L SX M f lo pc ls [.int v] σ Q := by
  intro p l e s m args below meth c D ad cA A H locs lsr hc hP hD hS hl
  have hn1 : narrow .boolean (.int v) = .int v := by rcases hz with rfl | rfl <;> rfl
  exact W.zret (v := v) hc.1 hc.2.1 (hc.2.2.2.1.trans hr) hn1 (fun t ht hW => ⟨⟨some v, σ, rfl, h, by rw [ht]; exact hP, va_K.moved hW.alike hc.2.2.2.2.2.2.2.1, hD⟩, hS.F ht⟩) hS.2.2 hd hc.2.2.2.2.1
theorem um_vret (hd : decode M.2.1 pc = .ok (.return_, 1)) (hr : M.2.2.2 = none) (h : Q none σ) : um_Ev cl AW L SX M f lo pc ls [] σ Q := by
  intro p l e s m args below meth c D ad cA A H locs lsr hc hP hD hS hl
  exact W.vret hc.1 hc.2.1 (hc.2.2.2.1.trans hr) (fun t ht hW => ⟨⟨none, σ, rfl, h, by rw [ht]; exact hP, va_K.moved hW.alike hc.2.2.2.2.2.2.2.1, hD⟩, hS.F ht⟩) hS.2.2 hd hc.2.2.2.2.1
end UmCells
