/-! an object is thrown over a frame with two handlers; their classes may not have been looked up yet -/
section Catch
variable {e : Env} {s : State} {f : JFrame} {a : Addr}
/-- one handler whose class is linked: it takes the object, or the search goes on; the tables hold its class then -/
theorem th_row {Q : Handler → Pre} {E : CtlPost} {d : Bool} {acts : List Action} {x : ExceptionTableEntry} {t : List ExceptionTableEntry} {c : ClassId} {cell : Cell} (hx : covers x f.pc = true) (h0 : x.catchType ≠ 0) (hl : s.vm.ClassLinks e.platform f.method.cls x.catchType c) (hcell : s.heap[a]? = some cell) (hobj : cell.vm.isStatics = false) (hk : ∃ k, s.vm.classes[cell.cls]? = some k) (hc : ∃ k, s.vm.classes[c]? = some k) :
    wp (findHandler.go f a (x :: t)) Q E e d acts s ↔ if s.vm.assignable cell.cls c = true then Q (.found x.handlerPc) d acts (s.setVm (s.vm.noted f.method.cls x.catchType (.cls c))) else wp (findHandler.go f a t) Q E e d acts (s.setVm (s.vm.noted f.method.cls x.catchType (.cls c))) := by
  have hal : s.vm.Alike (s.vm.noted f.method.cls x.catchType (.cls c)) := (Vm.Alike.refl s.vm).noted _ _ _
  have hne : ∀ k, cell.vm ≠ .statics k := VmData.ne_statics_of hobj
  obtain ⟨g1, g2⟩ := (resolveClass_links e.toSetting hl).op (op := VmOp.resolveClass f.method.cls x.catchType) rfl
  obtain ⟨k1, hk1⟩ := hk
  obtain ⟨k2, hk2⟩ := hc
  obtain ⟨k3, hk3, -⟩ := hal.2.2 _ _ hk1
  obtain ⟨k4, hk4, -⟩ := hal.2.2 _ _ hk2
  have hx' := hx
  simp only [covers] at hx'
  by_cases hf : s.vm.assignable cell.cls c = true
  · rw [if_pos hf]
    have hf' : (s.vm.noted f.method.cls x.catchType (.cls c)).assignable cell.cls c = true := by rw [hal.assignable]; exact hf
    simp [findHandler.go, hx', h0, g1, g2, hcell, hne, hk3, hk4, hf', VmOp.dirties, VmOp.acts]
  · rw [if_neg hf]
    have hf' : (s.vm.noted f.method.cls x.catchType (.cls c)).assignable cell.cls c = false := by rw [hal.assignable]; exact Bool.eq_false_iff.mpr hf
    simp [findHandler.go, hx', h0, g1, g2, hcell, hne, hk3, hk4, hf', VmOp.dirties, VmOp.acts]
theorem th_fvf (u : State) (v : Vm) (F G : List Frame) : ((u.setFrames F).setVm v).setFrames G = (u.setVm v).setFrames G := by
  rw [show (u.setFrames F).setVm v = (u.setVm v).setFrames F from rfl, State.setFrames_setFrames]
theorem th_caught {tb : Tables} {target : State} {g : JFrame} {c : Code} {below : List Frame} (h : At s g.method c below) {pc : Nat} {v : Vm}
    (hf : ∀ (Q : Handler → Pre) (E : CtlPost) (d : Bool) (acts : List Action), wp (findHandler g a) Q E e d acts ((s.setTop g).pushFrame (.throwing a)) ↔ Q (.found pc) d acts (((s.setTop g).pushFrame (.throwing a)).setVm v))
    (hrest : Steps tb e below ((s.setVm v).setTop { g with pc := pc, stack := [.ref a] }) target) : Steps tb e below ((s.setTop g).pushFrame (.throwing a)) target := by
  obtain ⟨hgo, hw⟩ := h.throwing a
  refine Steps.head hgo hw ?_
  have key : ∀ r : List Frame, (stepThrowing e ((s.setTop g).pushFrame (.throwing a)) a (.java g :: r)).1 = (((s.setTop g).pushFrame (.throwing a)).setVm v).setFrames (.java { g with pc := pc, stack := [.ref a] } :: r) := by
    intro r
    simp only [stepThrowing, searchFrame, vmDo]
    generalize hr : Sem.go _ e false [] _ = res
    obtain ⟨as, rfl, ha⟩ := Sem.eq_ok_of hr (a := Handler.found pc) (s' := ((s.setTop g).pushFrame (.throwing a)).setVm v) (acts' := []) (by simp [hf _ _ _ _])
    rfl
  rw [stepThread_throwing (frames_entered h.top _), key]
  obtain ⟨g0, hg⟩ := Option.isSome_iff_exists.mp h.top
  obtain ⟨r, hr⟩ := State.topJava?_eq_some.mp hg
  have hr2 : (s.setVm v).frames = .java g0 :: r := hr
  rw [State.setTop_of_frames _ hr2] at hrest
  rw [hr, List.tail_cons, State.pushFrame, th_fvf, State.setTop_of_frames _ hr, th_fvf]
  exact hrest
end Catch
section CatchAt
variable {p : Program} {l : Launch} {e : Env} {R : Room} {s : State} {m : MethodId} {args : Array Value} {below : List Frame} {meth : Method} {c : Code} {T : State} {locs : List Loc} {cells slots : Nat}
/-- a linked class: at the walk's point, and the tables with it are as good -/
theorem th_link (X : Stand p l e R s m args below meth c T locs cells slots) {own nm : String} {i : Nat} {c1 : ClassId} (hown : s.vm.findClass own = some m.cls) (hl : (Cond.classLink own i nm).before args s = true) (hn : s.vm.findClass nm = some c1) {v : Vm} (hW : s.WarmedH v) :
    v.ClassLinks e.platform m.cls i c1 ∧ s.WarmedH (v.noted m.cls i (.cls c1)) ∧ ∃ k, s.vm.classes[c1]? = some k := by
  have hpl : e.platform.magicAccessors = ({} : Platform).magicAccessors := by rw [X.admits.platform]
  obtain ⟨c', hc', hcl⟩ := Cond.classLink_spec hown hl e.platform hpl
  cases hn.symm.trans hc'
  obtain ⟨dk, _, _, kt, hd, _, _, _, _, hkt, _, hopen⟩ := hcl.here
  exact ⟨hW.classLinks hcl, hW.noted hd hopen (State.rightAt_cls hcl), kt, hkt⟩
theorem th_at {v : Vm} {i : Nat} (hW : s.WarmedH v) (h : ∃ k, s.vm.classes[i]? = some k) : ∃ k, v.classes[i]? = some k := by
  obtain ⟨k, hk⟩ := h
  obtain ⟨k', hk', -⟩ := hW.alike.2.2 _ _ hk
  exact ⟨k', hk'⟩
/-- the first handler takes it -/
theorem th_catch1 (X : Stand p l e R s m args below meth c T locs cells slots) {g : JFrame} (hg : g.method = m) {x1 x2 : ExceptionTableEntry} (htab : c.exceptionTable.toList = [x1, x2]) (hc1 : covers x1 g.pc = true) (h01 : x1.catchType ≠ 0)
    {own n1 : String} {c1 : ClassId} (hown : s.vm.findClass own = some m.cls) (hl1 : (Cond.classLink own x1.catchType n1).before args s = true) (hn1 : s.vm.findClass n1 = some c1)
    {a : Addr} {cell : Cell} (hcell : T.heap[a]? = some cell) (hobj : cell.vm.isStatics = false) (hfit : s.vm.assignable cell.cls c1 = true) :
    ∃ v, Stand p l e R s m args below meth c (T.setVm v) locs cells slots ∧ ∀ target, Steps p.tables e below ((T.setVm v).setTop { g with pc := x1.handlerPc, stack := [.ref a] }) target → Steps p.tables e below ((T.setTop g).pushFrame (.throwing a)) target := by
  subst hg
  have hW := X.warmed
  obtain ⟨q1, q2, q3⟩ := th_link X hown hl1 hn1 hW
  refine ⟨_, X.noted q2, fun target hrest => th_caught X.here (fun Q E d acts => ?_) hrest⟩
  have hA : T.vm.assignable cell.cls c1 = true := by rw [hW.alike.assignable]; exact hfit
  rw [W.findHandler_eq (s := ((T.setTop g).pushFrame (.throwing a))) (f := g) (a := a) (meth := meth) (code := c) X.method' X.code, htab, th_row (s := ((T.setTop g).pushFrame (.throwing a))) (c := c1) (cell := cell) hc1 h01 q1 hcell hobj (th_at hW (Vm.classAt_of_assignable hfit q3)) (th_at hW q3), if_pos (show ((T.setTop g).pushFrame (.throwing a)).vm.assignable cell.cls c1 = true from hA)]
  exact Iff.rfl
/-- the first passes it on, the second takes it -/
theorem th_catch2 (X : Stand p l e R s m args below meth c T locs cells slots) {g : JFrame} (hg : g.method = m) {x1 x2 : ExceptionTableEntry} (htab : c.exceptionTable.toList = [x1, x2]) (hc1 : covers x1 g.pc = true) (h01 : x1.catchType ≠ 0) (hc2 : covers x2 g.pc = true) (h02 : x2.catchType ≠ 0)
    {own n1 n2 : String} {c1 c2 : ClassId} (hown : s.vm.findClass own = some m.cls) (hl1 : (Cond.classLink own x1.catchType n1).before args s = true) (hn1 : s.vm.findClass n1 = some c1) (hl2 : (Cond.classLink own x2.catchType n2).before args s = true) (hn2 : s.vm.findClass n2 = some c2)
    {a : Addr} {cell : Cell} (hcell : T.heap[a]? = some cell) (hobj : cell.vm.isStatics = false) (hno : s.vm.assignable cell.cls c1 = false) (hfit : s.vm.assignable cell.cls c2 = true) :
    ∃ v, Stand p l e R s m args below meth c (T.setVm v) locs cells slots ∧ ∀ target, Steps p.tables e below ((T.setVm v).setTop { g with pc := x2.handlerPc, stack := [.ref a] }) target → Steps p.tables e below ((T.setTop g).pushFrame (.throwing a)) target := by
  subst hg
  have hW := X.warmed
  obtain ⟨q1, q2, q3⟩ := th_link X hown hl1 hn1 hW
  obtain ⟨r1, r2, r3⟩ := th_link X hown hl2 hn2 q2
  have hk := Vm.classAt_of_assignable hfit r3
  refine ⟨_, X.noted r2, fun target hrest => th_caught X.here (fun Q E d acts => ?_) hrest⟩
  have hA : ¬ T.vm.assignable cell.cls c1 = true := by rw [hW.alike.assignable, hno]; decide
  have hB : (T.vm.noted g.method.cls x1.catchType (.cls c1)).assignable cell.cls c2 = true := by rw [q2.alike.assignable]; exact hfit
  rw [W.findHandler_eq (s := ((T.setTop g).pushFrame (.throwing a))) (f := g) (a := a) (meth := meth) (code := c) X.method' X.code, htab, th_row (s := ((T.setTop g).pushFrame (.throwing a))) (c := c1) (cell := cell) hc1 h01 q1 hcell hobj (th_at hW hk) (th_at hW q3), if_neg (show ¬ ((T.setTop g).pushFrame (.throwing a)).vm.assignable cell.cls c1 = true from hA),
    th_row (s := ((T.setTop g).pushFrame (.throwing a)).setVm (((T.setTop g).pushFrame (.throwing a)).vm.noted g.method.cls x1.catchType (.cls c1))) (c := c2) (cell := cell) hc2 h02 r1 hcell hobj (th_at q2 hk) (th_at q2 r3), if_pos (show (((T.setTop g).pushFrame (.throwing a)).setVm (((T.setTop g).pushFrame (.throwing a)).vm.noted g.method.cls x1.catchType (.cls c1))).vm.assignable cell.cls c2 = true from hB)]
  exact Iff.rfl
end CatchAt
