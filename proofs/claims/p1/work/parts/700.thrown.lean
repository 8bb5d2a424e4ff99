/-! calls that may throw, walked in place -/
section Thrown
variable {p : Program} {l : Launch} {e : Env} {R : Room} {s : State} {m : MethodId} {args : Array Value} {below : List Frame} {meth : Method} {c : Code} {H : Heap} {locs : List Loc} {cells slots : Nat} {Q : State → Prop} {cc : ByteArray}
/-- the end of a walk in place -/
def th_E (below : List Frame) (s : State) (k n : Nat) (free : Nat → Prop) (Qo : Outcome → Heap → Prop) : State → Prop := fun t =>
  ∃ (o : Outcome) (L : List Loc), Ended t below o ∧ s.WarmedH t.vm ∧ s.sameButNew ({ t with vm := s.vm } : State) L k n ∧ (∀ q ∈ L, free q.base) ∧ Qo o t.heap
theorem th_top (T : State) (g : JFrame) : (T.setTop g).heap = T.heap := by simp [State.setFrames, State.setTop, State.modifyTopJava]
theorem th_push (T : State) (f : Frame) : (T.pushFrame f).heap = T.heap := by simp [State.pushFrame, State.setFrames]
theorem th_in {T : State} (X : Stand p l e R s m args below meth c T locs cells slots) {pc : Nat} {ls : Array Slot} {rest : List Value} (hsz : ls.size = c.maxLocals) {ig : Instr} {len : Nat} (hdg : decode c.code pc = .ok (ig, len)) {mk : MethodId} {methk : Method} {ck : Code} (a : Array Value) {R' : Room} (hmk : T.vm.method? mk = some methk) (hck : methk.code = some ck) (hlk : methk.locks = false) (hpk : T.plainMethod mk)
    (hfr : R'.frames + 1 ≤ R.frames) (hlo : (rest.map fun v => v.category).sum + (ck.maxLocals + 11) + R'.locals ≤ R.locals) (hc1 : cells + R'.cells ≤ R.cells) (hc2 : slots + R'.slots ≤ R.slots) {free : Nat → Prop} {Qo : Outcome → Heap → Prop} {k n : Nat}
    (body : ∀ (s' : State) (below' : List Frame), s'.heap = T.heap → s'.vm = T.vm → W p l e R' s' mk a below' methk ck T.heap [] 0 0 (th_E below' s' k n free Qo) (entryFrame mk a ck.maxLocals)) :
    ∃ (o : Outcome) (T' : State) (L : List Loc), Stand p l e R s m args below meth c T' (locs ++ L) (cells + k) (slots + n) ∧ (∀ q ∈ L, free q.base) ∧ Qo o T'.heap ∧
      ((∃ v, o = .returned v ∧ Steps p.tables e below (doInvoke e (T.setTop (F0 m pc ls rest)) [] mk a).1 (T'.setTop (F0 m (pc + len) ls (v.toList ++ rest)))) ∨
       (∃ x, o = .threw x ∧ Steps p.tables e below (doInvoke e (T.setTop (F0 m pc ls rest)) [] mk a).1 ((T'.setTop (F0 m pc ls rest)).pushFrame (.throwing x)))) := by
  obtain ⟨Y, hin⟩ := X.into (g := F0 m pc ls rest) rfl hsz hdg a (R' := R') hmk hck hlk hpk hfr (by show 2 * 0 + (rest.map fun v => v.category).sum + (ck.maxLocals + 11) + R'.locals ≤ R.locals; omega) hc1 hc2
  have hh : ((T.setTop (F0 m pc ls rest)).pushFrame (.java (entryFrame mk a ck.maxLocals))).heap = T.heap := by rw [th_push, th_top]
  have hs1 : (T.calling (F0 m pc ls rest) mk a).heap = T.heap := by simp [State.calling, State.pushFrame, State.setFrames, State.setTop, State.modifyTopJava]
  have hs2 : (T.calling (F0 m pc ls rest) mk a).vm = T.vm := by simp [State.calling, State.pushFrame, State.setFrames, State.setTop, State.modifyTopJava]
  obtain ⟨t, st, o, L, hend, hW, hsame, hfree, hq⟩ := body _ _ hs1 hs2 _ hh Y
  cases o with
  | returned v =>
    obtain ⟨T', X', hW', -, ht⟩ := X.outOf (g := F0 m pc ls rest) rfl hdg hend hW hsame
    have hheap : t.heap = T'.heap := by rw [ht, th_top]
    refine ⟨_, T', L, X', hfree, by rw [← hheap]; exact hq, Or.inl ⟨v, rfl, ?_⟩⟩
    rw [hin [], ← ht]
    exact Steps.weaken (mid := [.java _]) st
  | threw x =>
    obtain ⟨T', X', hW', -, ht⟩ := X.outOfThrown (g := F0 m pc ls rest) rfl hend hW hsame
    have hheap : t.heap = T'.heap := by rw [ht, th_push, th_top]
    refine ⟨_, T', L, X', hfree, by rw [← hheap]; exact hq, Or.inr ⟨x, rfl, ?_⟩⟩
    rw [hin [], ← ht]
    exact Steps.weaken (mid := [.java _]) st
/-- invokevirtual of a method that may throw -/
theorem th_callV (hexec : p.tables.exec = Jvm.exec) (hb : c.code = cc) {own C : String} {index : Nat} {y : MethodName} {bytes : ByteArray} {maxL : Nat} {ret : Option FieldType} (hown : s.vm.findClass own = some m.cls) (hlink : (Cond.methodLink own index y).before args s = true) (hinst : (Cond.instanceMethod y).before args s = true) (hsel : (Cond.selects C y y).before args s = true) (hcode : (Cond.code y bytes maxL ret).before args s = true) (hy : y.cls ≠ "java/lang/invoke/MethodHandle" ∧ y.cls ≠ "java/lang/invoke/VarHandle") (hpn : plainName y.cls = true)
    {b : Addr} {cellB : Cell} (hcell : H[b]? = some cellB) (hobj : cellB.vm.isStatics = false) (hcls : s.vm.findClass C = some cellB.cls)
    {pc : Nat} {ls : Array Slot} (hsz : ls.size = c.maxLocals) {argsL rest : List Value} (hlen : ∀ sig, parseMethodDescriptor y.desc = some sig → argsL.length = sig.parameters.length) (hdg : decode cc pc = .ok (.invokevirtual index, 3))
    {R' : Room} (hfr : R'.frames + 1 ≤ R.frames) (hlo : (rest.map fun v => v.category).sum + (maxL + 11) + R'.locals ≤ R.locals) (hc1 : cells + R'.cells ≤ R.cells) (hc2 : slots + R'.slots ≤ R.slots) {free : Nat → Prop} {Qo : Outcome → Heap → Prop} {k n : Nat}
    (body : ∀ (s' : State) (mk : MethodId) (methk : Method) (ck : Code) (below' : List Frame), s'.heap = H → s.WarmedH s'.vm → s.methodNamed? y = some mk → methk.sig.returnType = ret → methk.locks = false → ck.code = bytes → ck.maxLocals = maxL → ck.exceptionTable.toList = [] →
      W p l e R' s' mk (Value.ref b :: argsL).toArray below' methk ck H [] 0 0 (th_E below' s' k n free Qo) (entryFrame mk (Value.ref b :: argsL).toArray maxL))
    (kr : ∀ (v : Option Value) (H1 : Heap) (L : List Loc), Qo (.returned v) H1 → (∀ q ∈ L, free q.base) → W p l e R s m args below meth c H1 (locs ++ L) (cells + k) (slots + n) Q (F0 m (pc + 3) ls (v.toList ++ rest)))
    (kt : ∀ (x : Addr) (T' : State) (L : List Loc), Qo (.threw x) T'.heap → (∀ q ∈ L, free q.base) → Stand p l e R s m args below meth c T' (locs ++ L) (cells + k) (slots + n) → ∃ t, Steps p.tables e below ((T'.setTop (F0 m pc ls rest)).pushFrame (.throwing x)) t ∧ Q t) :
    W p l e R s m args below meth c H locs cells slots Q (F0 m pc ls (argsL.reverse ++ .ref b :: rest)) := by
  intro T hT X
  obtain ⟨mk, methM, hnamed, hmethM, hstM, habM⟩ := Cond.instanceMethod_spec hinst
  obtain ⟨methM', cM, hmethM', hcM, hbM, hlM, hrM, hlkM, htM, hsigM⟩ := Cond.code_spec hnamed hcode
  cases hmethM.symm.trans hmethM'
  obtain ⟨c2, r2, m2, q1, q2, q3, q4, kP, hkP, hkPi⟩ := Cond.selects_spec hsel
  cases hcls.symm.trans q1
  cases (State.methodFound?_of_named hnamed hy).symm.trans q2
  cases hnamed.symm.trans q3
  have hselP : selectMethod e.platform s.vm cellB.cls mk = .method mk := by rw [Launch.admits_selectMethod X.admits]; exact q4
  obtain ⟨vm₁, X₁, hstep₁⟩ := X.invokevirtual hexec hown hlink hnamed hmethM hstM hkP hkPi hy (a := b) (cell := cellB) (by rw [hT]; exact hcell)
    (fun z h => by rw [h] at hobj; cases hobj) hselP hmethM habM hkP hkPi (g := F0 m pc ls (argsL.reverse ++ .ref b :: rest)) rfl (argsL := argsL) (rest := rest) (hlen _ hsigM) rfl (by rw [hb]; exact hdg)
  have hpk : (T.setVm vm₁).plainMethod mk := by
    obtain ⟨kY, hkY, hnY⟩ := className_of_methodNamed hnamed
    exact State.WarmedH.plainAt X₁.warmed (fun k hk => by cases hkY.symm.trans hk; rw [hnY]; exact hpn)
  have hmk : (T.setVm vm₁).vm.method? mk = some methM := by rw [X₁.warmed.alike.method?]; exact hmethM
  have htab : cM.exceptionTable.toList = [] := by
    have h1 := htM
    simp only [Array.isEmpty_iff] at h1
    rw [h1]
  obtain ⟨o, T', L, X', hfree, hq, hend⟩ := th_in (locs := locs) (free := free) (Qo := Qo) (k := k) (n := n) X₁ (pc := pc) (ls := ls) (rest := rest) hsz (by rw [hb]; exact hdg) (Value.ref b :: argsL).toArray (R' := R') hmk hcM hlkM hpk hfr (by rw [hlM]; exact hlo) hc1 hc2
    (fun s' below' e1 e2 => by
      have e3 : (T.setVm vm₁).heap = H := hT
      have h := body s' mk methM cM below' (e1.trans e3) (by rw [e2]; exact X₁.warmed) hnamed hrM hlkM hbM hlM htab
      rw [hlM, e3]
      exact h)
  rcases hend with ⟨v, rfl, st⟩ | ⟨x, rfl, st⟩
  · obtain ⟨t, a1, b1⟩ := kr v T'.heap L hq hfree T' rfl X'
    exact ⟨t, hstep₁ _ fun acts => by rw [doInvoke_state]; exact st.trans a1, b1⟩
  · obtain ⟨t, a1, b1⟩ := kt x T' L hq hfree X'
    exact ⟨t, hstep₁ _ fun acts => by rw [doInvoke_state]; exact st.trans a1, b1⟩
/-- invokestatic of a method with handlers, that returns -/
theorem th_callS (hexec : p.tables.exec = Jvm.exec) (hb : c.code = cc) {own : String} {index : Nat} {y : MethodName} {bytes : ByteArray} {maxL : Nat} {ret : Option FieldType} {hs : List (Nat × Nat × Nat × Nat)} (hown : s.vm.findClass own = some m.cls) (hlink : (Cond.methodLink own index y).before args s = true) (hstat : (Cond.static y).before args s = true) (hini : (Cond.initialized y.cls).before args s = true) (hcode : (Cond.codeWith y bytes maxL ret hs).before args s = true) (hy : y.cls ≠ "java/lang/invoke/MethodHandle" ∧ y.cls ≠ "java/lang/invoke/VarHandle") (hpn : plainName y.cls = true)
    {pc : Nat} {ls : Array Slot} (hsz : ls.size = c.maxLocals) {argsL rest : List Value} (hlen : ∀ sig, parseMethodDescriptor y.desc = some sig → argsL.length = sig.parameters.length) (hdg : decode cc pc = .ok (.invokestatic index, 3))
    {R' : Room} (hfr : R'.frames + 1 ≤ R.frames) (hlo : (rest.map fun v => v.category).sum + (maxL + 11) + R'.locals ≤ R.locals) (hc1 : cells + R'.cells ≤ R.cells) (hc2 : slots + R'.slots ≤ R.slots) {free : Nat → Prop} {Qo : Outcome → Heap → Prop} {k n : Nat}
    (body : ∀ (s' : State) (mk : MethodId) (methk : Method) (ck : Code) (below' : List Frame), s'.heap = H → s.WarmedH s'.vm → s.methodNamed? y = some mk → methk.sig.returnType = ret → methk.locks = false → ck.code = bytes → ck.maxLocals = maxL → ck.exceptionTable.toList = tableOf hs →
      W p l e R' s' mk argsL.toArray below' methk ck H [] 0 0 (th_E below' s' k n free Qo) (entryFrame mk argsL.toArray maxL))
    (kr : ∀ (v : Option Value) (H1 : Heap) (L : List Loc), Qo (.returned v) H1 → (∀ q ∈ L, free q.base) → W p l e R s m args below meth c H1 (locs ++ L) (cells + k) (slots + n) Q (F0 m (pc + 3) ls (v.toList ++ rest)))
    (kt : ∀ (x : Addr) (H1 : Heap), ¬ Qo (.threw x) H1) :
    W p l e R s m args below meth c H locs cells slots Q (F0 m pc ls (argsL.reverse ++ rest)) := by
  intro T hT X
  obtain ⟨mk, methM, cM, hnamed, hmethM, hcM, hbM, hlM, htM, hrM, hlkM, hsigM⟩ := Cond.codeWith_spec hcode
  have hstatic : methM.isStatic = true := Cond.static_spec hnamed hmethM hstat
  obtain ⟨kP, hkP, hnP⟩ := className_of_methodNamed hnamed
  have hinitP : kP.init = .initialized := Cond.initialized_spec (findClass_of_methodNamed hnamed) hkP hini
  obtain ⟨vm₁, X₁, hstep₁⟩ := X.invokestatic hexec hown hlink hnamed hmethM hstatic hkP hinitP hy (g := F0 m pc ls (argsL.reverse ++ rest)) rfl (argsL := argsL) (rest := rest) (hlen _ hsigM) rfl (by rw [hb]; exact hdg)
  have hpk : (T.setVm vm₁).plainMethod mk := State.WarmedH.plainAt X₁.warmed (fun k hk => by cases hkP.symm.trans hk; rw [hnP]; exact hpn)
  have hmk : (T.setVm vm₁).vm.method? mk = some methM := by rw [X₁.warmed.alike.method?]; exact hmethM
  have htab : cM.exceptionTable.toList = tableOf hs := by rw [← htM, table_eq]
  obtain ⟨o, T', L, X', hfree, hq, hend⟩ := th_in (locs := locs) (free := free) (Qo := Qo) (k := k) (n := n) X₁ (pc := pc) (ls := ls) (rest := rest) hsz (by rw [hb]; exact hdg) argsL.toArray (R' := R') hmk hcM hlkM hpk hfr (by rw [hlM]; exact hlo) hc1 hc2
    (fun s' below' e1 e2 => by
      have e3 : (T.setVm vm₁).heap = H := hT
      have h := body s' mk methM cM below' (e1.trans e3) (by rw [e2]; exact X₁.warmed) hnamed hrM hlkM hbM hlM htab
      rw [hlM, e3]
      exact h)
  rcases hend with ⟨v, rfl, st⟩ | ⟨x, rfl, st⟩
  · obtain ⟨t, a1, b1⟩ := kr v T'.heap L hq hfree T' rfl X'
    exact ⟨t, hstep₁ _ fun acts => by rw [doInvoke_state]; exact st.trans a1, b1⟩
  · exact absurd hq (kt x T'.heap)
theorem th_iret {free : Nat → Prop} {Qo : Outcome → Heap → Prop} {v : Int32} (hexec : p.tables.exec = Jvm.exec) (hb : c.code = cc) (hr : meth.sig.returnType = some .int) (hlocks : meth.locks = false) (hq : Qo (.returned (some (.int v))) H) (hf : ∀ q ∈ locs, free q.base)
    {pc : Nat} {ls : Array Slot} (hdg : decode cc pc = .ok (.ireturn, 1)) : W p l e R s m args below meth c H locs cells slots (th_E below s cells slots free Qo) (F0 m pc ls [.int v]) := by
  intro T hT X
  obtain ⟨fs, hret, hrun, hended, hW, hframe⟩ := X.leave (v := some (.int v)) (fun h => by rw [hr] at h; cases h)
  have hmeth' : T.vm.method? m = some meth := X.method'
  refine ⟨T.setFrames fs, ?_, .returned (some (.int v)), locs, hended, hW, hframe, hf, ?_⟩
  · jvm_step X.here [X.here.top, hexec, hb, hdg, hmeth', hr, narrow]
    (try refine ⟨rfl, ?_⟩); (try refine ⟨rfl, ?_⟩)
    first | (intro acts; rw [hret _ acts rfl rfl rfl]) | rw [hret _ _ rfl rfl rfl]
    exact Steps.refl _
  · have e : (T.setFrames fs).heap = H := hT
    rw [e]
    exact hq
/-- an object that was thrown -/
def th_exc (cX : ClassId) (H H1 : Heap) (x : Nat) : Prop := (H.size ≤ H1.size ∧ ∀ q, q < H.size → H1[q]? = H[q]?) ∧ H.size ≤ x ∧ ∃ ce : Cell, H1[x]? = some ce ∧ ce.cls = cX ∧ ce.vm = .none
theorem th_old {t : State} {k n : Nat} (h : s.sameButNew t [] k n) : s.heap.size ≤ t.heap.size ∧ ∀ q, q < s.heap.size → t.heap[q]? = s.heap[q]? := by
  refine ⟨h.2.1, fun q hq => ?_⟩
  have h0 : s.heap[q]? = some s.heap[q] := Array.getElem?_eq_getElem hq
  obtain ⟨c', h1, h2, h3, h4⟩ := h.2.2.2.2.2 q _ h0
  have h5 : c'.slots = s.heap[q].slots := by
    apply Array.ext_getElem?
    intro i
    exact h4 i (by simp)
  rw [h1, h0, h2, h5]
/-- new X; dup; ldc; X's constructor; athrow -/
theorem th_throw {own X tx : String} {names : List String} {pc ic it ix q : Nat} {ls : Array Slot} {free : Nat → Prop} {Qo : Outcome → Heap → Prop} {cX : ClassId} (hexec : p.tables.exec = Jvm.exec) (hb : c.code = cc) (hfl : l.flags = pinnedFlags ++ [noTraceFlag]) (hown : s.vm.findClass own = some m.cls) (hX : Bundle.fit X = true) (hnames : ∀ n ∈ names, Bundle.fit n = true) (hat : ∀ a ∈ Bundle.ownAtoms own ic X names, a.before args s = true)
    (hcl : (Cond.classLink own ix X).before args s = true) (hini : (Cond.initialized X).before args s = true) (hcX : s.vm.findClass X = some cX) (hZ : vk_R own it tx q s) (htab : c.exceptionTable.toList = []) (hlk : meth.locks = false) (hsz : ls.size = c.maxLocals)
    (hRf : names.length + 3 < R.frames) (hRl : 1 + (13 * (names.length + 1) + 42) ≤ R.locals) (hRc : 1 ≤ R.cells) (hRs : 6 ≤ R.slots) (d0 : decode cc pc = .ok (.new ix, 3)) (d3 : decode cc (pc + 3) = .ok (.dup, 1)) (d4 : decode cc (pc + 4) = .ok (.ldc it, 2)) (d6 : decode cc (pc + 6) = .ok (.invokespecial ic, 3)) (d9 : decode cc (pc + 9) = .ok (.athrow, 1))
    (hQ : ∀ (x : Nat) (H1 : Heap), th_exc cX s.heap H1 x → Qo (.threw x) H1) :
    W p l e R s m args below meth c s.heap [] 0 0 (th_E below s 1 6 free Qo) (F0 m pc ls []) := by
  have hins : (Cond.instantiable X 6).before args s = true := hat _ (by simp [Bundle.ownAtoms])
  refine W.newc (g := F0 m pc ls []) hexec hb hown hcl hins hini rfl d0 (by omega) (by omega) (fun cC kC h1 h2 h3 h4 => ?_)
  cases hcX.symm.trans h1
  refine lv_dup hexec hb d3 rfl ?_
  refine va_ldcS hexec hb hown hZ d4 ?_
  intro T hT Y
  obtain ⟨U, st, hrun, hend, hW, hsame, ce, hce, hO⟩ := Y.ctorThrowS hexec (Launch.traces_off hfl Y.admits) hown hX hnames hat (fun x hx => by cases hx) hcX h2 (a := s.heap.size) (by rw [hT]; simp) (Nat.le_refl _) (msg := .ref q) rfl (g := F0 m (pc + 6) ls [.ref q, .ref s.heap.size, .ref s.heap.size]) rfl hsz rfl rfl (rest := []) rfl (by rw [hb]; exact d6) (by rw [hb]; exact d9) (fun x hx => by rw [htab] at hx; cases hx) hRf (by show 2 * 0 + 1 + (13 * (names.length + 1) + 42) ≤ R.locals; omega) hlk
  have hk := th_old hsame
  have hcls : ce.cls = cX := by
    have := hO.cls
    rw [hcX] at this
    exact (Option.some.inj this).symm
  exact ⟨U, st, .threw _, [], hend, hW, hsame, (fun z hz => by cases hz), hQ _ _ ⟨hk, Nat.le_refl _, ce, hce, hcls, hO.vm⟩⟩
theorem th_isRef {C n d : String} {a' : Array Value} {U : State} (hvm : s.vm.Alike U.vm) (hH : ∀ q, q < s.heap.size → U.heap[q]? = s.heap[q]?) (h : (Cond.isRef (.static C n d)).before args s = true) : (Cond.isRef (.static C n d)).before a' U = true := by
  have key : (Term.static C n d).eval a' U none [] U = (Term.static C n d).eval args s none [] s := by
    cases hf : s.fieldFound? C n d with
    | none =>
      exfalso
      simp [Cond.before, Cond.holds, Cond.value, Term.eval, State.fieldNamed?, hf] at h
    | some x =>
      obtain ⟨cf, kf, fi, f⟩ := x
      obtain ⟨k', hi', he⟩ := State.fieldFound?_setVm hvm hf
      have hi2 : U.fieldFound? C n d = some (cf, k', fi, f) := hi'
      cases hs : f.isStatic with
      | false =>
        exfalso
        simp [Cond.before, Cond.holds, Cond.value, Term.eval, State.fieldNamed?, hf, hs] at h
      | true =>
        have hst : k'.statics = kf.statics := by rw [he]
        cases ha : kf.statics with
        | none =>
          exfalso
          simp [Cond.before, Cond.holds, Cond.value, Term.eval, State.fieldNamed?, hf, hs, ha] at h
        | some a =>
          by_cases hlt : a < s.heap.size
          · simp [Term.eval, State.fieldNamed?, hf, hi2, hs, hst, ha, hH a hlt]
          · exfalso
            have : s.heap[a]? = none := Array.getElem?_eq_none (Nat.not_lt.mp hlt)
            simp [Cond.before, Cond.holds, Cond.value, Term.eval, State.fieldNamed?, hf, hs, ha, this] at h
  simp only [Cond.before, Cond.holds, Cond.value] at h ⊢
  rw [key]
  exact h
theorem th_laysS {C n d : String} {a' : Array Value} {U : State} (hvm : s.vm.Alike U.vm) (hH : ∀ q, q < s.heap.size → U.heap[q]? = s.heap[q]?) (h : (Cond.laysStatic C n d).before args s = true) : (Cond.laysStatic C n d).before a' U = true := by
  obtain ⟨c, k, i, f, a, cell, hc, hi, hst, ha, hcell, hs, hcls, hlt, hty⟩ := Cond.laysStatic_spec h
  obtain ⟨k', hi', hek⟩ := State.fieldFound?_setVm hvm hi
  have hi2 : U.fieldFound? C n d = some (c, k', i, f) := hi'
  exact Cond.laysStatic_of (s := U) (by rw [hvm.findClass]; exact hc) hi2 hst (by rw [hek]; exact ha) (by rw [hH a (Array.getElem?_eq_some_iff.mp hcell).1]; exact hcell) hs hcls hlt (by rw [hek]; exact hty)
/-- a word that moves with the tables, and with what the heap held -/
def th_mv : Cond → Bool
  | .laysStatic .. => true
  | .isRef (.static ..) => true
  | w => w.onTables && w.keepsFace
theorem th_mvT {w : Cond} {a' : Array Value} {U : State} (hW : s.WarmedH U.vm) (h : (w.onTables && w.keepsFace) = true) (hw : w.before args s = true) : w.before a' U = true := by
  simp only [Bool.and_eq_true] at h
  have h1 : w.before args (s.setVm U.vm) = true := Cond.before_shiftedFace (State.Shifted.of_warmed hW) w h.2 hw
  rw [Cond.onTables_vm (A' := a') (U' := U) U.vm w h.1, State.setVm_self] at h1
  exact h1
theorem th_move {w : Cond} {a' : Array Value} {U : State} (hW : s.WarmedH U.vm) (hH : ∀ q, q < s.heap.size → U.heap[q]? = s.heap[q]?) (h : th_mv w = true) (hw : w.before args s = true) : w.before a' U = true := by
  cases w with
  | laysStatic O f d => exact th_laysS hW.alike hH hw
  | isRef t =>
    cases t with
    | static O f d => exact th_isRef hW.alike hH hw
    | _ => exact th_mvT hW h hw
  | _ => exact th_mvT hW h hw
end Thrown
