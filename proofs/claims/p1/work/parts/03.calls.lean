/-! calls -/
section UmGo
variable {p : Program} {l : Launch} {e : Env} {R : Room} {s : State} {m : MethodId} {args : Array Value} {below : List Frame} {meth : Method} {c : Code} {H : Heap} {locs : List Loc} {cells slots : Nat} {Qw : State → Prop}
/-- behind a call of an int's or of nothing's answer -/
theorem um_go {Q1 : Option Int32 → um_S → Prop} {B : um_S → State → Prop} {pc : Nat} {ls : Array Slot} {st0 rest : List Value} {a : Array Value} {A0 A1 : Nat → Prop} {H0 : Heap} {free : Addr → Prop}
    (hr : va_Run p l e R s m args below meth c H locs cells slots 0 0 (F0 m pc ls st0) rest (um_Q Q1 B A1 a) free) (hS : va_S A0 H0 H locs) (hA : ∀ q, q < H.size → A1 q → A0 q) (hf : ∀ q, free q → A0 q)
    (kk : ∀ (r : Option Int32) (u : um_S) (t : State) (H1 : Heap) (locs1 : List Loc), t.heap = H1 → s.vm.Alike t.vm → Q1 r u → B u t → va_S A0 H0 H1 locs1 → W p l e R s m args below meth c H1 locs1 cells slots Qw (F0 m (pc + 3) ls ((r.map Value.int).toList ++ rest))) :
    W p l e R s m args below meth c H locs cells slots Qw (F0 m pc ls st0) := by
  intro T hT X
  obtain ⟨v, st₀, t, T', L, h0, X', hL, e1, e2, ⟨⟨r, u, hv, hp, hb⟩, hz, hk⟩, st⟩ := hr T hT X
  cases hv
  rw [h0] at hz hk
  have hS' : va_S A0 H0 T'.heap (locs ++ L) := by
    refine ⟨Nat.le_trans hS.1 (by rw [e1]; exact hz), fun q h1 h2 => ?_, fun q hq => ?_⟩
    · have h3 : q < H.size := Nat.lt_of_lt_of_le h1 hS.1
      rw [e1, hk q h3 (fun z => h2 (hA q h3 z))]
      exact hS.2.1 q h1 h2
    · rcases List.mem_append.mp hq with h | h
      · exact hS.2.2 q h
      · exact hf _ (hL q h)
  obtain ⟨t2, a1, b1⟩ := kk r u t T'.heap (locs ++ L) e1.symm (by rw [← e2]; exact X'.warmed.alike) hp hb hS' T' rfl X'
  exact ⟨t2, st t2 a1, b1⟩
end UmGo
def um_good (AW : List Cond) : Prop := ∀ w ∈ AW, (w.onTables && w.keeps) = true ∨ ∃ ty, w = .arrayClass ty
/-- what a call needs of the words -/
def um_Cw (AW : List Cond) (own : String) (idx : Nat) (M2 : um_M) (n : Nat) : Prop :=
  um_good AW ∧ Cond.code M2.1 M2.2.1 M2.2.2.1 M2.2.2.2 ∈ AW ∧ Cond.initialized M2.1.cls ∈ AW ∧ (M2.1.cls ≠ "java/lang/invoke/MethodHandle" ∧ M2.1.cls ≠ "java/lang/invoke/VarHandle" ∧ (parseMethodDescriptor M2.1.desc).map (fun d => d.parameters.length) = some n) ∧
  (Cond.methodLink own idx M2.1 ∈ AW ∨ ∃ host : String, (own, idx, M2.1, host) ∈ um_NW)
def um_Iv (cl : List vw_C) (AW : List Cond) (own : String) (idx ci : Nat) (M2 : um_M) (n : Nat) : Prop :=
  um_Cw AW own idx M2 n ∧ ∃ q : vw_C, cl[ci]? = some q ∧ Cond.instanceMethod M2.1 ∈ AW ∧ Cond.selects q.1 M2.1 M2.1 ∈ AW
def um_Is (AW : List Cond) (own : String) (idx : Nat) (M2 : um_M) (n : Nat) : Prop := um_Cw AW own idx M2 n ∧ Cond.static M2.1 ∈ AW
section UmCalls
variable {cl : List vw_C} {AW : List Cond} {L : List um_E} {SX : List um_X} {M M2 : um_M} {f lo f2 lo2 pc pc2 idx n q ci : Nat} {ls : List (Option Value)} {st : List Value} {σ : um_S} {Q Q1 : Option Int32 → um_S → Prop} {fs : List (Option Nat)} {As : List Value}
theorem um_goodIn (hg : um_good AW) (hcode : Cond.code M2.1 M2.2.1 M2.2.2.1 M2.2.2.2 ∈ AW) : GoodIn (um_wd AW M) (um_wd AW M2) := by
  intro w hw
  rcases List.mem_cons.mp hw with h | h
  · subst h
    exact ⟨List.mem_cons_of_mem _ hcode, hg _ hcode⟩
  · exact ⟨List.mem_cons_of_mem _ h, hg _ h⟩
def um_Pc (cl : List vw_C) (L : List um_E) (SX : List um_X) (D : va_G) (ad : Nat → Nat) (cA : ClassId) (sz : Nat) (As : List Value) (σ : um_S) : Array Value → State → Prop :=
  va_Pc (As.map (um_v ad)) (fun U => U.heap.size = sz ∧ va_P D cl (um_ws ad cA L σ) U.heap ∧ va_K D cl [(cA, .int)] U ∧ va_D (fun _ => True) (um_ws ad cA L σ) ∧ um_st SX ad (va_A (um_ws ad cA L σ) sz) U U.heap)
theorem um_blind {D : va_G} {ad : Nat → Nat} {cA : ClassId} {sz : Nat} : FrameBlind (um_Pc cl L SX D ad cA sz As σ) := by
  intro a U g mk hq
  obtain ⟨q0, q1, qP, qK, qD, qX⟩ := hq
  exact ⟨q0, q1, qP, va_K.moved (u := U) (U := U.calling g mk a) (Vm.Alike.refl U.vm) qK, qD, fun i C n N fn hi =>
    ⟨va_Z.moved (u := U) (U := U.calling g mk a) (Vm.Alike.refl U.vm) (qX.1 i C n N fn hi).1, va_T.moved (u := U) (U := U.calling g mk a) (Vm.Alike.refl U.vm) (qX.1 i C n N fn hi).2⟩,
    fun q hq => va_Nw.same (u := U) (U := U.calling g mk a) rfl rfl (qX.2 q hq)⟩
section Inner
variable {p : Program} {s : State} {m : MethodId} {args : Array Value} {meth : Method} {c : Code} {D : va_G} {ad : Nat → Nat} {cA : ClassId} {A : Nat → Prop} {H : Heap} {locs : List Loc}
theorem um_A0 (hc : um_ctx cl AW SX M D ad cA A p s m args meth c) (hD : va_D A (um_ws ad cA L σ)) (hS : va_S A s.heap H locs) : ∀ q', va_A (um_ws ad cA L σ) H.size q' → A q' := by
  intro q' h
  rcases h with ⟨k, e, h⟩ | h
  · exact hD.2 k _ h
  · exact hc.2.2.2.2.2.2.2.2.1 q' (Nat.le_trans hS.1 h)
theorem um_pre (hc : um_ctx cl AW SX M D ad cA A p s m args meth c) (hP : va_P D cl (um_ws ad cA L σ) H) (hD : va_D A (um_ws ad cA L σ)) (hS : va_S A s.heap H locs) :
    ∀ U : State, U.heap = H → s.WarmedH U.vm → um_Pc cl L SX D ad cA H.size As σ (As.map (um_v ad)).toArray U := by
  intro U hU hW
  have hA := um_A0 hc hD hS
  refine ⟨rfl, by rw [hU], by rw [hU]; exact hP, va_K.moved hW.alike hc.2.2.2.2.2.2.2.1, hD.weaken (fun _ _ _ _ => trivial), fun i C n N fn hi => ?_, fun q hq => va_Nw.warmM hW (hc.2.2.2.2.2.2.2.2.2.2 q hq)⟩
  obtain ⟨h1, h2⟩ := hc.2.2.2.2.2.2.2.2.2.1 i C n N fn hi
  rw [hU]
  exact ⟨((h1.kept hS.2.1).narrow hA).moved hW.alike, ((h2.kept hS.2.1).narrow hA).moved hW.alike⟩
end Inner
theorem um_callV (hd : decode M.2.1 pc = .ok (.invokevirtual idx, 3)) (hp : pc + 3 = pc2) (hI : um_Iv cl AW M.1.cls idx ci M2 n) (hL : L[q]? = some (.inl (ci, fs))) (hn : As.length = n) (hf : f2 + 1 ≤ f) (hlo : 8 + (M2.2.2.1 + 11) + lo2 ≤ lo) (hst : (st.map fun v => v.category).sum ≤ 8)
    (hcon : um_Con cl AW L SX f2 lo2 M2 (.ref q :: As) σ Q1) (h : ∀ r u, Q1 r u → um_Ev cl AW L SX M f lo pc2 ls ((r.map Value.int).toList ++ st) u Q) : um_Ev cl AW L SX M f lo pc ls (As.reverse ++ .ref q :: st) σ Q := by
  subst hp
  intro p l e s m args below meth c D ad cA A H locs lsr hc hP hD hS hl
  obtain ⟨⟨hg, hcode, hini, hpar, hlk⟩, qc, hcl, hinst, hsel⟩ := hI
  have hts := hc.2.2.2.2.2.1
  have hok : ∀ w ∈ AW, w.before args s = true := fun w hw => hts w (List.mem_cons_of_mem _ hw)
  have hA0 := um_A0 hc hD hS
  have he : (um_ws ad cA L σ)[q]? = some (ad q, .inr (ci, fs.mapIdx (um_fv ad σ q))) := by rw [um_ws_at, hL]; rfl
  have hpre := um_pre (As := .ref q :: As) hc hP hD hS
  have hstk : (As.reverse ++ .ref q :: st).map (um_v ad) = (As.map (um_v ad)).reverse ++ .ref (ad q) :: st.map (um_v ad) := by
    rw [List.map_append, List.map_reverse]
    rfl
  rw [hstk]
  have hroom : ((st.map (um_v ad)).map fun v => v.category).sum ≤ 8 := by rw [um_v_sum]; exact hst
  have hlen : (As.map (um_v ad)).length = n := by rw [List.length_map]; exact hn
  have hM := hcon l D ad cA H.size
  have hrun : va_Run p l e { frames := f, cells := 0, slots := 0, locals := lo } s m args below meth c H locs 0 0 0 0 (F0 m pc lsr ((As.map (um_v ad)).reverse ++ .ref (ad q) :: st.map (um_v ad))) (st.map (um_v ad))
      (um_Q Q1 (um_B cl D ad cA L (va_A (um_ws ad cA L σ) H.size)) (va_A (um_ws ad cA L σ) H.size) (Value.ref (ad q) :: As.map (um_v ad)).toArray) (va_A (um_ws ad cA L σ) H.size) := by
    rcases hlk with hlk | ⟨host, hlk⟩
    · exact va_runV (Pc := um_Pc cl L SX D ad cA H.size (.ref q :: As) σ) ⟨hc.1, hc.2.1, hc.2.2.1, hc.2.2.2.2.2.2.1, hts⟩ hM ⟨callB_of n hts (um_goodIn hg hcode) rfl rfl rfl (hok _ hini) (hok _ hlk) hpar ⟨hf, hlo⟩, hok _ hinst, hok _ hsel⟩
        ⟨um_blind, va_recv hc.2.2.2.2.2.2.2.1 hP hcl he, hpre⟩ rfl hlen hl.1 rfl (lv_room hroom) hd ⟨Nat.le_refl _, Nat.le_refl _⟩
    · exact va_runVN (Pc := um_Pc cl L SX D ad cA H.size (.ref q :: As) σ) ⟨hc.1, hc.2.1, hc.2.2.1, hc.2.2.2.2.2.2.1, hts⟩ hM ⟨va_cnB n hts (um_goodIn hg hcode) rfl rfl rfl (hc.2.2.2.2.2.2.2.2.2.2 _ hlk) (hok _ hini) hpar ⟨hf, hlo⟩, hok _ hinst, hok _ hsel⟩
        ⟨um_blind, va_recv hc.2.2.2.2.2.2.2.1 hP hcl he, hpre⟩ rfl hlen hl.1 rfl (lv_room hroom) hd ⟨Nat.le_refl _, Nat.le_refl _⟩
  refine um_go hrun hS (fun q' _ hq' => hA0 q' hq') hA0 (fun r u t H1 locs1 ht hvm hq hB hS1 => ?_)
  have e2 : ((r.map Value.int).toList ++ st).map (um_v ad) = (r.map Value.int).toList ++ st.map (um_v ad) := by cases r <;> rfl
  rw [← e2]
  exact h r u hq p l e s m args below meth c D ad cA A H1 locs1 lsr hc (by rw [← ht]; exact hB.1) (hB.2.2.weaken (fun _ _ _ z => hA0 _ z)) hS1 hl
theorem um_callS (hd : decode M.2.1 pc = .ok (.invokestatic idx, 3)) (hp : pc + 3 = pc2) (hI : um_Is AW M.1.cls idx M2 n) (hn : As.length = n) (hf : f2 + 1 ≤ f) (hlo : 8 + (M2.2.2.1 + 11) + lo2 ≤ lo) (hst : (st.map fun v => v.category).sum ≤ 8)
    (hcon : um_Con cl AW L SX f2 lo2 M2 As σ Q1) (h : ∀ r u, Q1 r u → um_Ev cl AW L SX M f lo pc2 ls ((r.map Value.int).toList ++ st) u Q) : um_Ev cl AW L SX M f lo pc ls (As.reverse ++ st) σ Q := by
  subst hp
  intro p l e s m args below meth c D ad cA A H locs lsr hc hP hD hS hl
  obtain ⟨⟨hg, hcode, hini, hpar, hlk⟩, hstat⟩ := hI
  have hts := hc.2.2.2.2.2.1
  have hok : ∀ w ∈ AW, w.before args s = true := fun w hw => hts w (List.mem_cons_of_mem _ hw)
  have hA0 := um_A0 hc hD hS
  have hpre := um_pre (As := As) hc hP hD hS
  have hstk : (As.reverse ++ st).map (um_v ad) = (As.map (um_v ad)).reverse ++ st.map (um_v ad) := by
    rw [List.map_append, List.map_reverse]
  rw [hstk]
  have hroom : ((st.map (um_v ad)).map fun v => v.category).sum ≤ 8 := by rw [um_v_sum]; exact hst
  have hlen : (As.map (um_v ad)).length = n := by rw [List.length_map]; exact hn
  have hM := hcon l D ad cA H.size
  have hrun : va_Run p l e { frames := f, cells := 0, slots := 0, locals := lo } s m args below meth c H locs 0 0 0 0 (F0 m pc lsr ((As.map (um_v ad)).reverse ++ st.map (um_v ad))) (st.map (um_v ad))
      (um_Q Q1 (um_B cl D ad cA L (va_A (um_ws ad cA L σ) H.size)) (va_A (um_ws ad cA L σ) H.size) (As.map (um_v ad)).toArray) (va_A (um_ws ad cA L σ) H.size) := by
    rcases hlk with hlk | ⟨host, hlk⟩
    · exact va_runS (Pc := um_Pc cl L SX D ad cA H.size As σ) ⟨hc.1, hc.2.1, hc.2.2.1, hc.2.2.2.2.2.2.1, hts⟩ hM ⟨callB_of n hts (um_goodIn hg hcode) rfl rfl rfl (hok _ hini) (hok _ hlk) hpar ⟨hf, hlo⟩, hok _ hstat⟩
        ⟨um_blind, hpre⟩ rfl hlen hl.1 rfl (lv_room hroom) hd ⟨Nat.le_refl _, Nat.le_refl _⟩
    · exact va_runSN (Pc := um_Pc cl L SX D ad cA H.size As σ) ⟨hc.1, hc.2.1, hc.2.2.1, hc.2.2.2.2.2.2.1, hts⟩ hM ⟨va_cnB n hts (um_goodIn hg hcode) rfl rfl rfl (hc.2.2.2.2.2.2.2.2.2.2 _ hlk) (hok _ hini) hpar ⟨hf, hlo⟩, hok _ hstat, trivial⟩
        ⟨um_blind, hpre⟩ rfl hlen hl.1 rfl (lv_room hroom) hd ⟨Nat.le_refl _, Nat.le_refl _⟩
  refine um_go hrun hS (fun q' _ hq' => hA0 q' hq') hA0 (fun r u t H1 locs1 ht hvm hq hB hS1 => ?_)
  have e2 : ((r.map Value.int).toList ++ st).map (um_v ad) = (r.map Value.int).toList ++ st.map (um_v ad) := by cases r <;> rfl
  rw [← e2]
  exact h r u hq p l e s m args below meth c D ad cA A H1 locs1 lsr hc (by rw [← ht]; exact hB.1) (hB.2.2.weaken (fun _ _ _ z => hA0 _ z)) hS1 hl
theorem um_callV0 (hd : decode M.2.1 pc = .ok (.invokevirtual idx, 3)) (hp : pc + 3 = pc2) (hI : um_Iv cl AW M.1.cls idx ci M2 0) (hL : L[q]? = some (.inl (ci, fs))) (hf : f2 + 1 ≤ f) (hlo : 8 + (M2.2.2.1 + 11) + lo2 ≤ lo) (hst : (st.map fun v => v.category).sum ≤ 8) (hcon : um_Con cl AW L SX f2 lo2 M2 [.ref q] σ Q1) (h : ∀ r u, Q1 r u → um_Ev cl AW L SX M f lo pc2 ls ((r.map Value.int).toList ++ st) u Q) : um_Ev cl AW L SX M f lo pc ls (.ref q :: st) σ Q := um_callV (As := []) hd hp hI hL rfl hf hlo hst hcon h
theorem um_callV1 {a : Value} (hd : decode M.2.1 pc = .ok (.invokevirtual idx, 3)) (hp : pc + 3 = pc2) (hI : um_Iv cl AW M.1.cls idx ci M2 1) (hL : L[q]? = some (.inl (ci, fs))) (hf : f2 + 1 ≤ f) (hlo : 8 + (M2.2.2.1 + 11) + lo2 ≤ lo) (hst : (st.map fun v => v.category).sum ≤ 8) (hcon : um_Con cl AW L SX f2 lo2 M2 [.ref q, a] σ Q1) (h : ∀ r u, Q1 r u → um_Ev cl AW L SX M f lo pc2 ls ((r.map Value.int).toList ++ st) u Q) : um_Ev cl AW L SX M f lo pc ls (a :: .ref q :: st) σ Q := um_callV (As := [a]) hd hp hI hL rfl hf hlo hst hcon h
theorem um_callS1 {a : Value} (hd : decode M.2.1 pc = .ok (.invokestatic idx, 3)) (hp : pc + 3 = pc2) (hI : um_Is AW M.1.cls idx M2 1) (hf : f2 + 1 ≤ f) (hlo : 8 + (M2.2.2.1 + 11) + lo2 ≤ lo) (hst : (st.map fun v => v.category).sum ≤ 8) (hcon : um_Con cl AW L SX f2 lo2 M2 [a] σ Q1) (h : ∀ r u, Q1 r u → um_Ev cl AW L SX M f lo pc2 ls ((r.map Value.int).toList ++ st) u Q) : um_Ev cl AW L SX M f lo pc ls (a :: st) σ Q := um_callS (As := [a]) hd hp hI rfl hf hlo hst hcon h
theorem um_callV2 {a b : Value} (hd : decode M.2.1 pc = .ok (.invokevirtual idx, 3)) (hp : pc + 3 = pc2) (hI : um_Iv cl AW M.1.cls idx ci M2 2) (hL : L[q]? = some (.inl (ci, fs))) (hf : f2 + 1 ≤ f) (hlo : 8 + (M2.2.2.1 + 11) + lo2 ≤ lo) (hst : (st.map fun v => v.category).sum ≤ 8) (hcon : um_Con cl AW L SX f2 lo2 M2 [.ref q, a, b] σ Q1) (h : ∀ r u, Q1 r u → um_Ev cl AW L SX M f lo pc2 ls ((r.map Value.int).toList ++ st) u Q) : um_Ev cl AW L SX M f lo pc ls (b :: a :: .ref q :: st) σ Q := um_callV (As := [a, b]) hd hp hI hL rfl hf hlo hst hcon h
theorem um_callS2 {a b : Value} (hd : decode M.2.1 pc = .ok (.invokestatic idx, 3)) (hp : pc + 3 = pc2) (hI : um_Is AW M.1.cls idx M2 2) (hf : f2 + 1 ≤ f) (hlo : 8 + (M2.2.2.1 + 11) + lo2 ≤ lo) (hst : (st.map fun v => v.category).sum ≤ 8) (hcon : um_Con cl AW L SX f2 lo2 M2 [a, b] σ Q1) (h : ∀ r u, Q1 r u → um_Ev cl AW L SX M f lo pc2 ls ((r.map Value.int).toList ++ st) u Q) : um_Ev cl AW L SX M f lo pc ls (b :: a :: st) σ Q := um_callS (As := [a, b]) hd hp hI rfl hf hlo hst hcon h
theorem um_callV3 {a b c : Value} (hd : decode M.2.1 pc = .ok (.invokevirtual idx, 3)) (hp : pc + 3 = pc2) (hI : um_Iv cl AW M.1.cls idx ci M2 3) (hL : L[q]? = some (.inl (ci, fs))) (hf : f2 + 1 ≤ f) (hlo : 8 + (M2.2.2.1 + 11) + lo2 ≤ lo) (hst : (st.map fun v => v.category).sum ≤ 8) (hcon : um_Con cl AW L SX f2 lo2 M2 [.ref q, a, b, c] σ Q1) (h : ∀ r u, Q1 r u → um_Ev cl AW L SX M f lo pc2 ls ((r.map Value.int).toList ++ st) u Q) : um_Ev cl AW L SX M f lo pc ls (c :: b :: a :: .ref q :: st) σ Q := um_callV (As := [a, b, c]) hd hp hI hL rfl hf hlo hst hcon h
theorem um_callS3 {a b c : Value} (hd : decode M.2.1 pc = .ok (.invokestatic idx, 3)) (hp : pc + 3 = pc2) (hI : um_Is AW M.1.cls idx M2 3) (hf : f2 + 1 ≤ f) (hlo : 8 + (M2.2.2.1 + 11) + lo2 ≤ lo) (hst : (st.map fun v => v.category).sum ≤ 8) (hcon : um_Con cl AW L SX f2 lo2 M2 [a, b, c] σ Q1) (h : ∀ r u, Q1 r u → um_Ev cl AW L SX M f lo pc2 ls ((r.map Value.int).toList ++ st) u Q) : um_Ev cl AW L SX M f lo pc ls (c :: b :: a :: st) σ Q := um_callS (As := [a, b, c]) hd hp hI rfl hf hlo hst hcon h
theorem um_callV4 {a b c d : Value} (hd : decode M.2.1 pc = .ok (.invokevirtual idx, 3)) (hp : pc + 3 = pc2) (hI : um_Iv cl AW M.1.cls idx ci M2 4) (hL : L[q]? = some (.inl (ci, fs))) (hf : f2 + 1 ≤ f) (hlo : 8 + (M2.2.2.1 + 11) + lo2 ≤ lo) (hst : (st.map fun v => v.category).sum ≤ 8) (hcon : um_Con cl AW L SX f2 lo2 M2 [.ref q, a, b, c, d] σ Q1) (h : ∀ r u, Q1 r u → um_Ev cl AW L SX M f lo pc2 ls ((r.map Value.int).toList ++ st) u Q) : um_Ev cl AW L SX M f lo pc ls (d :: c :: b :: a :: .ref q :: st) σ Q := um_callV (As := [a, b, c, d]) hd hp hI hL rfl hf hlo hst hcon h
theorem um_callS4 {a b c d : Value} (hd : decode M.2.1 pc = .ok (.invokestatic idx, 3)) (hp : pc + 3 = pc2) (hI : um_Is AW M.1.cls idx M2 4) (hf : f2 + 1 ≤ f) (hlo : 8 + (M2.2.2.1 + 11) + lo2 ≤ lo) (hst : (st.map fun v => v.category).sum ≤ 8) (hcon : um_Con cl AW L SX f2 lo2 M2 [a, b, c, d] σ Q1) (h : ∀ r u, Q1 r u → um_Ev cl AW L SX M f lo pc2 ls ((r.map Value.int).toList ++ st) u Q) : um_Ev cl AW L SX M f lo pc ls (d :: c :: b :: a :: st) σ Q := um_callS (As := [a, b, c, d]) hd hp hI rfl hf hlo hst hcon h
theorem um_callV5 {a b c d e : Value} (hd : decode M.2.1 pc = .ok (.invokevirtual idx, 3)) (hp : pc + 3 = pc2) (hI : um_Iv cl AW M.1.cls idx ci M2 5) (hL : L[q]? = some (.inl (ci, fs))) (hf : f2 + 1 ≤ f) (hlo : 8 + (M2.2.2.1 + 11) + lo2 ≤ lo) (hst : (st.map fun v => v.category).sum ≤ 8) (hcon : um_Con cl AW L SX f2 lo2 M2 [.ref q, a, b, c, d, e] σ Q1) (h : ∀ r u, Q1 r u → um_Ev cl AW L SX M f lo pc2 ls ((r.map Value.int).toList ++ st) u Q) : um_Ev cl AW L SX M f lo pc ls (e :: d :: c :: b :: a :: .ref q :: st) σ Q := um_callV (As := [a, b, c, d, e]) hd hp hI hL rfl hf hlo hst hcon h
theorem um_callS5 {a b c d e : Value} (hd : decode M.2.1 pc = .ok (.invokestatic idx, 3)) (hp : pc + 3 = pc2) (hI : um_Is AW M.1.cls idx M2 5) (hf : f2 + 1 ≤ f) (hlo : 8 + (M2.2.2.1 + 11) + lo2 ≤ lo) (hst : (st.map fun v => v.category).sum ≤ 8) (hcon : um_Con cl AW L SX f2 lo2 M2 [a, b, c, d, e] σ Q1) (h : ∀ r u, Q1 r u → um_Ev cl AW L SX M f lo pc2 ls ((r.map Value.int).toList ++ st) u Q) : um_Ev cl AW L SX M f lo pc ls (e :: d :: c :: b :: a :: st) σ Q := um_callS (As := [a, b, c, d, e]) hd hp hI rfl hf hlo hst hcon h
theorem um_callV6 {a b c d e g : Value} (hd : decode M.2.1 pc = .ok (.invokevirtual idx, 3)) (hp : pc + 3 = pc2) (hI : um_Iv cl AW M.1.cls idx ci M2 6) (hL : L[q]? = some (.inl (ci, fs))) (hf : f2 + 1 ≤ f) (hlo : 8 + (M2.2.2.1 + 11) + lo2 ≤ lo) (hst : (st.map fun v => v.category).sum ≤ 8) (hcon : um_Con cl AW L SX f2 lo2 M2 [.ref q, a, b, c, d, e, g] σ Q1) (h : ∀ r u, Q1 r u → um_Ev cl AW L SX M f lo pc2 ls ((r.map Value.int).toList ++ st) u Q) : um_Ev cl AW L SX M f lo pc ls (g :: e :: d :: c :: b :: a :: .ref q :: st) σ Q := um_callV (As := [a, b, c, d, e, g]) hd hp hI hL rfl hf hlo hst hcon h
theorem um_callS6 {a b c d e g : Value} (hd : decode M.2.1 pc = .ok (.invokestatic idx, 3)) (hp : pc + 3 = pc2) (hI : um_Is AW M.1.cls idx M2 6) (hf : f2 + 1 ≤ f) (hlo : 8 + (M2.2.2.1 + 11) + lo2 ≤ lo) (hst : (st.map fun v => v.category).sum ≤ 8) (hcon : um_Con cl AW L SX f2 lo2 M2 [a, b, c, d, e, g] σ Q1) (h : ∀ r u, Q1 r u → um_Ev cl AW L SX M f lo pc2 ls ((r.map Value.int).toList ++ st) u Q) : um_Ev cl AW L SX M f lo pc ls (g :: e :: d :: c :: b :: a :: st) σ Q := um_callS (As := [a, b, c, d, e, g]) hd hp hI rfl hf hlo hst hcon h
theorem um_mmax {x y : Int32} (hd : decode M.2.1 pc = .ok (.invokestatic idx, 3)) (hp : pc + 3 = pc2) (hw : Cond.methodLink M.1.cls idx Lib.Math.max.name ∈ AW ∧ Cond.static Lib.Math.max.name ∈ AW ∧ Cond.initialized "java/lang/Math" ∈ AW ∧ Cond.code Lib.Math.max.name Lib.Math.max.code 2 (some .int) ∈ AW)
    (hf : 1 ≤ f) (hlo : (st.map fun v => v.category).sum + 13 ≤ lo) (h : um_Ev cl AW L SX M f lo pc2 ls (.int (if x < y then y else x) :: st) σ Q) : um_Ev cl AW L SX M f lo pc ls (.int y :: .int x :: st) σ Q := by
  subst hp
  intro p l e s m args below meth c D ad cA A H locs lsr hc hP hD hS hl
  have hok : ∀ w ∈ AW, w.before args s = true := fun w hw => hc.2.2.2.2.2.1 w (List.mem_cons_of_mem _ hw)
  exact va_mmax hc.1 hc.2.1 (hc.2.2.1.trans hl.1.symm) hc.2.2.2.2.2.2.1 (hok _ hw.1) (hok _ hw.2.1) (hok _ hw.2.2.1) (hok _ hw.2.2.2) hf (by rw [um_v_sum]; exact hlo) (Nat.le_refl _) (Nat.le_refl _) hd
    (h p l e s m args below meth c D ad cA A H locs lsr hc hP hD hS hl)
end UmCalls

section UmMore
variable {cl : List vw_C} {AW : List Cond} {L : List um_E} {SX : List um_X} {M : um_M} {f lo pc : Nat} {ls : List (Option Value)} {st : List Value} {σ : um_S} {Q : Option Int32 → um_S → Prop}
/-- a name for the state, a name for the number on top -/
theorem um_gen (h : ∀ τ : um_S, τ = σ → um_Ev cl AW L SX M f lo pc ls st τ Q) : um_Ev cl AW L SX M f lo pc ls st σ Q := h σ rfl
theorem um_top {x : Int32} (h : ∀ y : Int32, y = x → um_Ev cl AW L SX M f lo pc ls (.int y :: st) σ Q) : um_Ev cl AW L SX M f lo pc ls (.int x :: st) σ Q := h x rfl
/-- locals that are of no use any more -/
def um_mask : List Bool → List (Option Value) → List (Option Value)
  | b :: bs, v :: vs => (if b then v else none) :: um_mask bs vs
  | _, _ => []
theorem um_mask_at : ∀ (bs : List Bool) (ls : List (Option Value)) (i : Nat) (v : Value), (um_mask bs ls)[i]? = some (some v) → ls[i]? = some (some v)
  | [], _, _, _, h => by simp [um_mask] at h
  | _ :: _, [], _, _, h => by simp [um_mask] at h
  | b :: bs, w :: vs, 0, v, h => by
    cases b with
    | false => simp [um_mask] at h
    | true => simpa [um_mask] using h
  | b :: bs, w :: vs, i + 1, v, h => by
    rw [um_mask, List.getElem?_cons_succ] at h
    rw [List.getElem?_cons_succ]
    exact um_mask_at bs vs i v h
theorem um_forget (bs : List Bool) (hlen : (um_mask bs ls).length = ls.length) (h : um_Ev cl AW L SX M f lo pc (um_mask bs ls) st σ Q) : um_Ev cl AW L SX M f lo pc ls st σ Q := by
  intro p l e s m args below meth c D ad cA A H locs lsr hc hP hD hS hl
  exact h p l e s m args below meth c D ad cA A H locs lsr hc hP hD hS ⟨hl.1, hl.2.1, hlen.trans hl.2.2.1, fun i v hi => hl.2.2.2 i v (um_mask_at bs ls i v hi)⟩
/-- a table's place by the number's value -/
theorem um_tableAt {dflt lw hi kk off : Int} {offs : Array Int} {len tgt : Nat} {x k : Int32} (hd : decode M.2.1 pc = .ok (.tableswitch dflt lw hi offs, len)) (hx : x = k) (hk : k.toInt = kk) (h1 : ¬ kk < lw) (h2 : ¬ hi < kk) (ho : offs[(kk - lw).toNat]? = some off) (ht : (pc : Int) + off = (tgt : Int)) (h : um_Ev cl AW L SX M f lo tgt ls st σ Q) :
    um_Ev cl AW L SX M f lo pc ls (.int x :: st) σ Q := by
  subst hx
  exact um_tableIn hd (by rw [hk]; exact h1) (by rw [hk]; exact h2) (by rw [hk]; exact ho) ht h
end UmMore
def um_Qi (Q : Int32 → um_S → Prop) : Option Int32 → um_S → Prop := fun r u => ∃ x : Int32, r = some x ∧ Q x u
def um_Qv (Q : um_S → Prop) : Option Int32 → um_S → Prop := fun r u => r = none ∧ Q u
theorem um_toInt_ne {x k : Int32} {kk : Int} (h : ¬ x = k) (hk : k.toInt = kk) : x.toInt ≠ kk := fun z => h (Int32.toInt_inj.mp (z.trans hk.symm))
def um_Qz (Q : Bool → um_S → Prop) : Option Int32 → um_S → Prop := fun r u => ∃ b : Bool, r = some (if b then 1 else 0) ∧ Q b u
theorem um_b0 {b : Bool} (h : (if b then (1 : Int32) else 0) = 0) : b = false := by
  cases b with
  | false => rfl
  | true => exact absurd h (by decide)
theorem um_b1 {b : Bool} (h : ¬ (if b then (1 : Int32) else 0) = 0) : b = true := by
  cases b with
  | false => exact absurd rfl h
  | true => rfl
theorem um_b01 (b : Bool) : (if b then (1 : Int32) else 0) = 0 ∨ (if b then (1 : Int32) else 0) = 1 := by
  cases b with
  | false => exact Or.inl rfl
  | true => exact Or.inr rfl
section UmCallK
variable {cl : List vw_C} {AW : List Cond} {L : List um_E} {SX : List um_X} {M M2 : um_M} {f lo f2 lo2 pc pc2 idx q ci : Nat} {ls : List (Option Value)} {st : List Value} {σ : um_S} {Q : Option Int32 → um_S → Prop} {Qi : Int32 → um_S → Prop} {Qv : um_S → Prop} {Qz : Bool → um_S → Prop} {fs : List (Option Nat)}
theorem um_callV0i (hd : decode M.2.1 pc = .ok (.invokevirtual idx, 3)) (hp : pc + 3 = pc2) (hI : um_Iv cl AW M.1.cls idx ci M2 0) (hL : L[q]? = some (.inl (ci, fs))) (hf : f2 + 1 ≤ f) (hlo : 8 + (M2.2.2.1 + 11) + lo2 ≤ lo) (hst : (st.map fun v => v.category).sum ≤ 8) (hcon : um_Con cl AW L SX f2 lo2 M2 [.ref q] σ (um_Qi Qi)) (h : ∀ x u, Qi x u → um_Ev cl AW L SX M f lo pc2 ls (.int x :: st) u Q) : um_Ev cl AW L SX M f lo pc ls (.ref q :: st) σ Q := um_callV0 hd hp hI hL hf hlo hst hcon (fun r u z => by obtain ⟨x, rfl, z⟩ := z; exact h x u z)
theorem um_callV0v (hd : decode M.2.1 pc = .ok (.invokevirtual idx, 3)) (hp : pc + 3 = pc2) (hI : um_Iv cl AW M.1.cls idx ci M2 0) (hL : L[q]? = some (.inl (ci, fs))) (hf : f2 + 1 ≤ f) (hlo : 8 + (M2.2.2.1 + 11) + lo2 ≤ lo) (hst : (st.map fun v => v.category).sum ≤ 8) (hcon : um_Con cl AW L SX f2 lo2 M2 [.ref q] σ (um_Qv Qv)) (h : ∀ u, Qv u → um_Ev cl AW L SX M f lo pc2 ls st u Q) : um_Ev cl AW L SX M f lo pc ls (.ref q :: st) σ Q := um_callV0 hd hp hI hL hf hlo hst hcon (fun r u z => by obtain ⟨rfl, z⟩ := z; exact h u z)
theorem um_callV0z (hd : decode M.2.1 pc = .ok (.invokevirtual idx, 3)) (hp : pc + 3 = pc2) (hI : um_Iv cl AW M.1.cls idx ci M2 0) (hL : L[q]? = some (.inl (ci, fs))) (hf : f2 + 1 ≤ f) (hlo : 8 + (M2.2.2.1 + 11) + lo2 ≤ lo) (hst : (st.map fun v => v.category).sum ≤ 8) (hcon : um_Con cl AW L SX f2 lo2 M2 [.ref q] σ (um_Qz Qz)) (h : ∀ b u, Qz b u → um_Ev cl AW L SX M f lo pc2 ls (.int (if b then 1 else 0) :: st) u Q) : um_Ev cl AW L SX M f lo pc ls (.ref q :: st) σ Q := um_callV0 hd hp hI hL hf hlo hst hcon (fun r u z => by obtain ⟨b, rfl, z⟩ := z; exact h b u z)
theorem um_callV1i {a : Value} (hd : decode M.2.1 pc = .ok (.invokevirtual idx, 3)) (hp : pc + 3 = pc2) (hI : um_Iv cl AW M.1.cls idx ci M2 1) (hL : L[q]? = some (.inl (ci, fs))) (hf : f2 + 1 ≤ f) (hlo : 8 + (M2.2.2.1 + 11) + lo2 ≤ lo) (hst : (st.map fun v => v.category).sum ≤ 8) (hcon : um_Con cl AW L SX f2 lo2 M2 [.ref q, a] σ (um_Qi Qi)) (h : ∀ x u, Qi x u → um_Ev cl AW L SX M f lo pc2 ls (.int x :: st) u Q) : um_Ev cl AW L SX M f lo pc ls (a :: .ref q :: st) σ Q := um_callV1 hd hp hI hL hf hlo hst hcon (fun r u z => by obtain ⟨x, rfl, z⟩ := z; exact h x u z)
theorem um_callV1v {a : Value} (hd : decode M.2.1 pc = .ok (.invokevirtual idx, 3)) (hp : pc + 3 = pc2) (hI : um_Iv cl AW M.1.cls idx ci M2 1) (hL : L[q]? = some (.inl (ci, fs))) (hf : f2 + 1 ≤ f) (hlo : 8 + (M2.2.2.1 + 11) + lo2 ≤ lo) (hst : (st.map fun v => v.category).sum ≤ 8) (hcon : um_Con cl AW L SX f2 lo2 M2 [.ref q, a] σ (um_Qv Qv)) (h : ∀ u, Qv u → um_Ev cl AW L SX M f lo pc2 ls st u Q) : um_Ev cl AW L SX M f lo pc ls (a :: .ref q :: st) σ Q := um_callV1 hd hp hI hL hf hlo hst hcon (fun r u z => by obtain ⟨rfl, z⟩ := z; exact h u z)
theorem um_callV1z {a : Value} (hd : decode M.2.1 pc = .ok (.invokevirtual idx, 3)) (hp : pc + 3 = pc2) (hI : um_Iv cl AW M.1.cls idx ci M2 1) (hL : L[q]? = some (.inl (ci, fs))) (hf : f2 + 1 ≤ f) (hlo : 8 + (M2.2.2.1 + 11) + lo2 ≤ lo) (hst : (st.map fun v => v.category).sum ≤ 8) (hcon : um_Con cl AW L SX f2 lo2 M2 [.ref q, a] σ (um_Qz Qz)) (h : ∀ b u, Qz b u → um_Ev cl AW L SX M f lo pc2 ls (.int (if b then 1 else 0) :: st) u Q) : um_Ev cl AW L SX M f lo pc ls (a :: .ref q :: st) σ Q := um_callV1 hd hp hI hL hf hlo hst hcon (fun r u z => by obtain ⟨b, rfl, z⟩ := z; exact h b u z)
theorem um_callS1i {a : Value} (hd : decode M.2.1 pc = .ok (.invokestatic idx, 3)) (hp : pc + 3 = pc2) (hI : um_Is AW M.1.cls idx M2 1) (hf : f2 + 1 ≤ f) (hlo : 8 + (M2.2.2.1 + 11) + lo2 ≤ lo) (hst : (st.map fun v => v.category).sum ≤ 8) (hcon : um_Con cl AW L SX f2 lo2 M2 [a] σ (um_Qi Qi)) (h : ∀ x u, Qi x u → um_Ev cl AW L SX M f lo pc2 ls (.int x :: st) u Q) : um_Ev cl AW L SX M f lo pc ls (a :: st) σ Q := um_callS1 hd hp hI hf hlo hst hcon (fun r u z => by obtain ⟨x, rfl, z⟩ := z; exact h x u z)
theorem um_callS1v {a : Value} (hd : decode M.2.1 pc = .ok (.invokestatic idx, 3)) (hp : pc + 3 = pc2) (hI : um_Is AW M.1.cls idx M2 1) (hf : f2 + 1 ≤ f) (hlo : 8 + (M2.2.2.1 + 11) + lo2 ≤ lo) (hst : (st.map fun v => v.category).sum ≤ 8) (hcon : um_Con cl AW L SX f2 lo2 M2 [a] σ (um_Qv Qv)) (h : ∀ u, Qv u → um_Ev cl AW L SX M f lo pc2 ls st u Q) : um_Ev cl AW L SX M f lo pc ls (a :: st) σ Q := um_callS1 hd hp hI hf hlo hst hcon (fun r u z => by obtain ⟨rfl, z⟩ := z; exact h u z)
theorem um_callS1z {a : Value} (hd : decode M.2.1 pc = .ok (.invokestatic idx, 3)) (hp : pc + 3 = pc2) (hI : um_Is AW M.1.cls idx M2 1) (hf : f2 + 1 ≤ f) (hlo : 8 + (M2.2.2.1 + 11) + lo2 ≤ lo) (hst : (st.map fun v => v.category).sum ≤ 8) (hcon : um_Con cl AW L SX f2 lo2 M2 [a] σ (um_Qz Qz)) (h : ∀ b u, Qz b u → um_Ev cl AW L SX M f lo pc2 ls (.int (if b then 1 else 0) :: st) u Q) : um_Ev cl AW L SX M f lo pc ls (a :: st) σ Q := um_callS1 hd hp hI hf hlo hst hcon (fun r u z => by obtain ⟨b, rfl, z⟩ := z; exact h b u z)
theorem um_callV2i {a b : Value} (hd : decode M.2.1 pc = .ok (.invokevirtual idx, 3)) (hp : pc + 3 = pc2) (hI : um_Iv cl AW M.1.cls idx ci M2 2) (hL : L[q]? = some (.inl (ci, fs))) (hf : f2 + 1 ≤ f) (hlo : 8 + (M2.2.2.1 + 11) + lo2 ≤ lo) (hst : (st.map fun v => v.category).sum ≤ 8) (hcon : um_Con cl AW L SX f2 lo2 M2 [.ref q, a, b] σ (um_Qi Qi)) (h : ∀ x u, Qi x u → um_Ev cl AW L SX M f lo pc2 ls (.int x :: st) u Q) : um_Ev cl AW L SX M f lo pc ls (b :: a :: .ref q :: st) σ Q := um_callV2 hd hp hI hL hf hlo hst hcon (fun r u z => by obtain ⟨x, rfl, z⟩ := z; exact h x u z)
theorem um_callV2v {a b : Value} (hd : decode M.2.1 pc = .ok (.invokevirtual idx, 3)) (hp : pc + 3 = pc2) (hI : um_Iv cl AW M.1.cls idx ci M2 2) (hL : L[q]? = some (.inl (ci, fs))) (hf : f2 + 1 ≤ f) (hlo : 8 + (M2.2.2.1 + 11) + lo2 ≤ lo) (hst : (st.map fun v => v.category).sum ≤ 8) (hcon : um_Con cl AW L SX f2 lo2 M2 [.ref q, a, b] σ (um_Qv Qv)) (h : ∀ u, Qv u → um_Ev cl AW L SX M f lo pc2 ls st u Q) : um_Ev cl AW L SX M f lo pc ls (b :: a :: .ref q :: st) σ Q := um_callV2 hd hp hI hL hf hlo hst hcon (fun r u z => by obtain ⟨rfl, z⟩ := z; exact h u z)
theorem um_callV2z {a b : Value} (hd : decode M.2.1 pc = .ok (.invokevirtual idx, 3)) (hp : pc + 3 = pc2) (hI : um_Iv cl AW M.1.cls idx ci M2 2) (hL : L[q]? = some (.inl (ci, fs))) (hf : f2 + 1 ≤ f) (hlo : 8 + (M2.2.2.1 + 11) + lo2 ≤ lo) (hst : (st.map fun v => v.category).sum ≤ 8) (hcon : um_Con cl AW L SX f2 lo2 M2 [.ref q, a, b] σ (um_Qz Qz)) (h : ∀ y u, Qz y u → um_Ev cl AW L SX M f lo pc2 ls (.int (if y then 1 else 0) :: st) u Q) : um_Ev cl AW L SX M f lo pc ls (b :: a :: .ref q :: st) σ Q := um_callV2 hd hp hI hL hf hlo hst hcon (fun r u z => by obtain ⟨b, rfl, z⟩ := z; exact h b u z)
theorem um_callS2i {a b : Value} (hd : decode M.2.1 pc = .ok (.invokestatic idx, 3)) (hp : pc + 3 = pc2) (hI : um_Is AW M.1.cls idx M2 2) (hf : f2 + 1 ≤ f) (hlo : 8 + (M2.2.2.1 + 11) + lo2 ≤ lo) (hst : (st.map fun v => v.category).sum ≤ 8) (hcon : um_Con cl AW L SX f2 lo2 M2 [a, b] σ (um_Qi Qi)) (h : ∀ x u, Qi x u → um_Ev cl AW L SX M f lo pc2 ls (.int x :: st) u Q) : um_Ev cl AW L SX M f lo pc ls (b :: a :: st) σ Q := um_callS2 hd hp hI hf hlo hst hcon (fun r u z => by obtain ⟨x, rfl, z⟩ := z; exact h x u z)
theorem um_callS2v {a b : Value} (hd : decode M.2.1 pc = .ok (.invokestatic idx, 3)) (hp : pc + 3 = pc2) (hI : um_Is AW M.1.cls idx M2 2) (hf : f2 + 1 ≤ f) (hlo : 8 + (M2.2.2.1 + 11) + lo2 ≤ lo) (hst : (st.map fun v => v.category).sum ≤ 8) (hcon : um_Con cl AW L SX f2 lo2 M2 [a, b] σ (um_Qv Qv)) (h : ∀ u, Qv u → um_Ev cl AW L SX M f lo pc2 ls st u Q) : um_Ev cl AW L SX M f lo pc ls (b :: a :: st) σ Q := um_callS2 hd hp hI hf hlo hst hcon (fun r u z => by obtain ⟨rfl, z⟩ := z; exact h u z)
theorem um_callS2z {a b : Value} (hd : decode M.2.1 pc = .ok (.invokestatic idx, 3)) (hp : pc + 3 = pc2) (hI : um_Is AW M.1.cls idx M2 2) (hf : f2 + 1 ≤ f) (hlo : 8 + (M2.2.2.1 + 11) + lo2 ≤ lo) (hst : (st.map fun v => v.category).sum ≤ 8) (hcon : um_Con cl AW L SX f2 lo2 M2 [a, b] σ (um_Qz Qz)) (h : ∀ y u, Qz y u → um_Ev cl AW L SX M f lo pc2 ls (.int (if y then 1 else 0) :: st) u Q) : um_Ev cl AW L SX M f lo pc ls (b :: a :: st) σ Q := um_callS2 hd hp hI hf hlo hst hcon (fun r u z => by obtain ⟨b, rfl, z⟩ := z; exact h b u z)
theorem um_callV3i {a b c : Value} (hd : decode M.2.1 pc = .ok (.invokevirtual idx, 3)) (hp : pc + 3 = pc2) (hI : um_Iv cl AW M.1.cls idx ci M2 3) (hL : L[q]? = some (.inl (ci, fs))) (hf : f2 + 1 ≤ f) (hlo : 8 + (M2.2.2.1 + 11) + lo2 ≤ lo) (hst : (st.map fun v => v.category).sum ≤ 8) (hcon : um_Con cl AW L SX f2 lo2 M2 [.ref q, a, b, c] σ (um_Qi Qi)) (h : ∀ x u, Qi x u → um_Ev cl AW L SX M f lo pc2 ls (.int x :: st) u Q) : um_Ev cl AW L SX M f lo pc ls (c :: b :: a :: .ref q :: st) σ Q := um_callV3 hd hp hI hL hf hlo hst hcon (fun r u z => by obtain ⟨x, rfl, z⟩ := z; exact h x u z)
theorem um_callV3v {a b c : Value} (hd : decode M.2.1 pc = .ok (.invokevirtual idx, 3)) (hp : pc + 3 = pc2) (hI : um_Iv cl AW M.1.cls idx ci M2 3) (hL : L[q]? = some (.inl (ci, fs))) (hf : f2 + 1 ≤ f) (hlo : 8 + (M2.2.2.1 + 11) + lo2 ≤ lo) (hst : (st.map fun v => v.category).sum ≤ 8) (hcon : um_Con cl AW L SX f2 lo2 M2 [.ref q, a, b, c] σ (um_Qv Qv)) (h : ∀ u, Qv u → um_Ev cl AW L SX M f lo pc2 ls st u Q) : um_Ev cl AW L SX M f lo pc ls (c :: b :: a :: .ref q :: st) σ Q := um_callV3 hd hp hI hL hf hlo hst hcon (fun r u z => by obtain ⟨rfl, z⟩ := z; exact h u z)
theorem um_callV3z {a b c : Value} (hd : decode M.2.1 pc = .ok (.invokevirtual idx, 3)) (hp : pc + 3 = pc2) (hI : um_Iv cl AW M.1.cls idx ci M2 3) (hL : L[q]? = some (.inl (ci, fs))) (hf : f2 + 1 ≤ f) (hlo : 8 + (M2.2.2.1 + 11) + lo2 ≤ lo) (hst : (st.map fun v => v.category).sum ≤ 8) (hcon : um_Con cl AW L SX f2 lo2 M2 [.ref q, a, b, c] σ (um_Qz Qz)) (h : ∀ y u, Qz y u → um_Ev cl AW L SX M f lo pc2 ls (.int (if y then 1 else 0) :: st) u Q) : um_Ev cl AW L SX M f lo pc ls (c :: b :: a :: .ref q :: st) σ Q := um_callV3 hd hp hI hL hf hlo hst hcon (fun r u z => by obtain ⟨b, rfl, z⟩ := z; exact h b u z)
theorem um_callS3i {a b c : Value} (hd : decode M.2.1 pc = .ok (.invokestatic idx, 3)) (hp : pc + 3 = pc2) (hI : um_Is AW M.1.cls idx M2 3) (hf : f2 + 1 ≤ f) (hlo : 8 + (M2.2.2.1 + 11) + lo2 ≤ lo) (hst : (st.map fun v => v.category).sum ≤ 8) (hcon : um_Con cl AW L SX f2 lo2 M2 [a, b, c] σ (um_Qi Qi)) (h : ∀ x u, Qi x u → um_Ev cl AW L SX M f lo pc2 ls (.int x :: st) u Q) : um_Ev cl AW L SX M f lo pc ls (c :: b :: a :: st) σ Q := um_callS3 hd hp hI hf hlo hst hcon (fun r u z => by obtain ⟨x, rfl, z⟩ := z; exact h x u z)
theorem um_callS3v {a b c : Value} (hd : decode M.2.1 pc = .ok (.invokestatic idx, 3)) (hp : pc + 3 = pc2) (hI : um_Is AW M.1.cls idx M2 3) (hf : f2 + 1 ≤ f) (hlo : 8 + (M2.2.2.1 + 11) + lo2 ≤ lo) (hst : (st.map fun v => v.category).sum ≤ 8) (hcon : um_Con cl AW L SX f2 lo2 M2 [a, b, c] σ (um_Qv Qv)) (h : ∀ u, Qv u → um_Ev cl AW L SX M f lo pc2 ls st u Q) : um_Ev cl AW L SX M f lo pc ls (c :: b :: a :: st) σ Q := um_callS3 hd hp hI hf hlo hst hcon (fun r u z => by obtain ⟨rfl, z⟩ := z; exact h u z)
theorem um_callS3z {a b c : Value} (hd : decode M.2.1 pc = .ok (.invokestatic idx, 3)) (hp : pc + 3 = pc2) (hI : um_Is AW M.1.cls idx M2 3) (hf : f2 + 1 ≤ f) (hlo : 8 + (M2.2.2.1 + 11) + lo2 ≤ lo) (hst : (st.map fun v => v.category).sum ≤ 8) (hcon : um_Con cl AW L SX f2 lo2 M2 [a, b, c] σ (um_Qz Qz)) (h : ∀ y u, Qz y u → um_Ev cl AW L SX M f lo pc2 ls (.int (if y then 1 else 0) :: st) u Q) : um_Ev cl AW L SX M f lo pc ls (c :: b :: a :: st) σ Q := um_callS3 hd hp hI hf hlo hst hcon (fun r u z => by obtain ⟨b, rfl, z⟩ := z; exact h b u z)
theorem um_callV4i {a b c d : Value} (hd : decode M.2.1 pc = .ok (.invokevirtual idx, 3)) (hp : pc + 3 = pc2) (hI : um_Iv cl AW M.1.cls idx ci M2 4) (hL : L[q]? = some (.inl (ci, fs))) (hf : f2 + 1 ≤ f) (hlo : 8 + (M2.2.2.1 + 11) + lo2 ≤ lo) (hst : (st.map fun v => v.category).sum ≤ 8) (hcon : um_Con cl AW L SX f2 lo2 M2 [.ref q, a, b, c, d] σ (um_Qi Qi)) (h : ∀ x u, Qi x u → um_Ev cl AW L SX M f lo pc2 ls (.int x :: st) u Q) : um_Ev cl AW L SX M f lo pc ls (d :: c :: b :: a :: .ref q :: st) σ Q := um_callV4 hd hp hI hL hf hlo hst hcon (fun r u z => by obtain ⟨x, rfl, z⟩ := z; exact h x u z)
theorem um_callV4v {a b c d : Value} (hd : decode M.2.1 pc = .ok (.invokevirtual idx, 3)) (hp : pc + 3 = pc2) (hI : um_Iv cl AW M.1.cls idx ci M2 4) (hL : L[q]? = some (.inl (ci, fs))) (hf : f2 + 1 ≤ f) (hlo : 8 + (M2.2.2.1 + 11) + lo2 ≤ lo) (hst : (st.map fun v => v.category).sum ≤ 8) (hcon : um_Con cl AW L SX f2 lo2 M2 [.ref q, a, b, c, d] σ (um_Qv Qv)) (h : ∀ u, Qv u → um_Ev cl AW L SX M f lo pc2 ls st u Q) : um_Ev cl AW L SX M f lo pc ls (d :: c :: b :: a :: .ref q :: st) σ Q := um_callV4 hd hp hI hL hf hlo hst hcon (fun r u z => by obtain ⟨rfl, z⟩ := z; exact h u z)
theorem um_callV4z {a b c d : Value} (hd : decode M.2.1 pc = .ok (.invokevirtual idx, 3)) (hp : pc + 3 = pc2) (hI : um_Iv cl AW M.1.cls idx ci M2 4) (hL : L[q]? = some (.inl (ci, fs))) (hf : f2 + 1 ≤ f) (hlo : 8 + (M2.2.2.1 + 11) + lo2 ≤ lo) (hst : (st.map fun v => v.category).sum ≤ 8) (hcon : um_Con cl AW L SX f2 lo2 M2 [.ref q, a, b, c, d] σ (um_Qz Qz)) (h : ∀ y u, Qz y u → um_Ev cl AW L SX M f lo pc2 ls (.int (if y then 1 else 0) :: st) u Q) : um_Ev cl AW L SX M f lo pc ls (d :: c :: b :: a :: .ref q :: st) σ Q := um_callV4 hd hp hI hL hf hlo hst hcon (fun r u z => by obtain ⟨b, rfl, z⟩ := z; exact h b u z)
theorem um_callS4i {a b c d : Value} (hd : decode M.2.1 pc = .ok (.invokestatic idx, 3)) (hp : pc + 3 = pc2) (hI : um_Is AW M.1.cls idx M2 4) (hf : f2 + 1 ≤ f) (hlo : 8 + (M2.2.2.1 + 11) + lo2 ≤ lo) (hst : (st.map fun v => v.category).sum ≤ 8) (hcon : um_Con cl AW L SX f2 lo2 M2 [a, b, c, d] σ (um_Qi Qi)) (h : ∀ x u, Qi x u → um_Ev cl AW L SX M f lo pc2 ls (.int x :: st) u Q) : um_Ev cl AW L SX M f lo pc ls (d :: c :: b :: a :: st) σ Q := um_callS4 hd hp hI hf hlo hst hcon (fun r u z => by obtain ⟨x, rfl, z⟩ := z; exact h x u z)
theorem um_callS4v {a b c d : Value} (hd : decode M.2.1 pc = .ok (.invokestatic idx, 3)) (hp : pc + 3 = pc2) (hI : um_Is AW M.1.cls idx M2 4) (hf : f2 + 1 ≤ f) (hlo : 8 + (M2.2.2.1 + 11) + lo2 ≤ lo) (hst : (st.map fun v => v.category).sum ≤ 8) (hcon : um_Con cl AW L SX f2 lo2 M2 [a, b, c, d] σ (um_Qv Qv)) (h : ∀ u, Qv u → um_Ev cl AW L SX M f lo pc2 ls st u Q) : um_Ev cl AW L SX M f lo pc ls (d :: c :: b :: a :: st) σ Q := um_callS4 hd hp hI hf hlo hst hcon (fun r u z => by obtain ⟨rfl, z⟩ := z; exact h u z)
theorem um_callS4z {a b c d : Value} (hd : decode M.2.1 pc = .ok (.invokestatic idx, 3)) (hp : pc + 3 = pc2) (hI : um_Is AW M.1.cls idx M2 4) (hf : f2 + 1 ≤ f) (hlo : 8 + (M2.2.2.1 + 11) + lo2 ≤ lo) (hst : (st.map fun v => v.category).sum ≤ 8) (hcon : um_Con cl AW L SX f2 lo2 M2 [a, b, c, d] σ (um_Qz Qz)) (h : ∀ y u, Qz y u → um_Ev cl AW L SX M f lo pc2 ls (.int (if y then 1 else 0) :: st) u Q) : um_Ev cl AW L SX M f lo pc ls (d :: c :: b :: a :: st) σ Q := um_callS4 hd hp hI hf hlo hst hcon (fun r u z => by obtain ⟨b, rfl, z⟩ := z; exact h b u z)
theorem um_callV5i {a b c d e : Value} (hd : decode M.2.1 pc = .ok (.invokevirtual idx, 3)) (hp : pc + 3 = pc2) (hI : um_Iv cl AW M.1.cls idx ci M2 5) (hL : L[q]? = some (.inl (ci, fs))) (hf : f2 + 1 ≤ f) (hlo : 8 + (M2.2.2.1 + 11) + lo2 ≤ lo) (hst : (st.map fun v => v.category).sum ≤ 8) (hcon : um_Con cl AW L SX f2 lo2 M2 [.ref q, a, b, c, d, e] σ (um_Qi Qi)) (h : ∀ x u, Qi x u → um_Ev cl AW L SX M f lo pc2 ls (.int x :: st) u Q) : um_Ev cl AW L SX M f lo pc ls (e :: d :: c :: b :: a :: .ref q :: st) σ Q := um_callV5 hd hp hI hL hf hlo hst hcon (fun r u z => by obtain ⟨x, rfl, z⟩ := z; exact h x u z)
theorem um_callV5v {a b c d e : Value} (hd : decode M.2.1 pc = .ok (.invokevirtual idx, 3)) (hp : pc + 3 = pc2) (hI : um_Iv cl AW M.1.cls idx ci M2 5) (hL : L[q]? = some (.inl (ci, fs))) (hf : f2 + 1 ≤ f) (hlo : 8 + (M2.2.2.1 + 11) + lo2 ≤ lo) (hst : (st.map fun v => v.category).sum ≤ 8) (hcon : um_Con cl AW L SX f2 lo2 M2 [.ref q, a, b, c, d, e] σ (um_Qv Qv)) (h : ∀ u, Qv u → um_Ev cl AW L SX M f lo pc2 ls st u Q) : um_Ev cl AW L SX M f lo pc ls (e :: d :: c :: b :: a :: .ref q :: st) σ Q := um_callV5 hd hp hI hL hf hlo hst hcon (fun r u z => by obtain ⟨rfl, z⟩ := z; exact h u z)
theorem um_callV5z {a b c d e : Value} (hd : decode M.2.1 pc = .ok (.invokevirtual idx, 3)) (hp : pc + 3 = pc2) (hI : um_Iv cl AW M.1.cls idx ci M2 5) (hL : L[q]? = some (.inl (ci, fs))) (hf : f2 + 1 ≤ f) (hlo : 8 + (M2.2.2.1 + 11) + lo2 ≤ lo) (hst : (st.map fun v => v.category).sum ≤ 8) (hcon : um_Con cl AW L SX f2 lo2 M2 [.ref q, a, b, c, d, e] σ (um_Qz Qz)) (h : ∀ y u, Qz y u → um_Ev cl AW L SX M f lo pc2 ls (.int (if y then 1 else 0) :: st) u Q) : um_Ev cl AW L SX M f lo pc ls (e :: d :: c :: b :: a :: .ref q :: st) σ Q := um_callV5 hd hp hI hL hf hlo hst hcon (fun r u z => by obtain ⟨b, rfl, z⟩ := z; exact h b u z)
theorem um_callS5i {a b c d e : Value} (hd : decode M.2.1 pc = .ok (.invokestatic idx, 3)) (hp : pc + 3 = pc2) (hI : um_Is AW M.1.cls idx M2 5) (hf : f2 + 1 ≤ f) (hlo : 8 + (M2.2.2.1 + 11) + lo2 ≤ lo) (hst : (st.map fun v => v.category).sum ≤ 8) (hcon : um_Con cl AW L SX f2 lo2 M2 [a, b, c, d, e] σ (um_Qi Qi)) (h : ∀ x u, Qi x u → um_Ev cl AW L SX M f lo pc2 ls (.int x :: st) u Q) : um_Ev cl AW L SX M f lo pc ls (e :: d :: c :: b :: a :: st) σ Q := um_callS5 hd hp hI hf hlo hst hcon (fun r u z => by obtain ⟨x, rfl, z⟩ := z; exact h x u z)
theorem um_callS5v {a b c d e : Value} (hd : decode M.2.1 pc = .ok (.invokestatic idx, 3)) (hp : pc + 3 = pc2) (hI : um_Is AW M.1.cls idx M2 5) (hf : f2 + 1 ≤ f) (hlo : 8 + (M2.2.2.1 + 11) + lo2 ≤ lo) (hst : (st.map fun v => v.category).sum ≤ 8) (hcon : um_Con cl AW L SX f2 lo2 M2 [a, b, c, d, e] σ (um_Qv Qv)) (h : ∀ u, Qv u → um_Ev cl AW L SX M f lo pc2 ls st u Q) : um_Ev cl AW L SX M f lo pc ls (e :: d :: c :: b :: a :: st) σ Q := um_callS5 hd hp hI hf hlo hst hcon (fun r u z => by obtain ⟨rfl, z⟩ := z; exact h u z)
theorem um_callS5z {a b c d e : Value} (hd : decode M.2.1 pc = .ok (.invokestatic idx, 3)) (hp : pc + 3 = pc2) (hI : um_Is AW M.1.cls idx M2 5) (hf : f2 + 1 ≤ f) (hlo : 8 + (M2.2.2.1 + 11) + lo2 ≤ lo) (hst : (st.map fun v => v.category).sum ≤ 8) (hcon : um_Con cl AW L SX f2 lo2 M2 [a, b, c, d, e] σ (um_Qz Qz)) (h : ∀ y u, Qz y u → um_Ev cl AW L SX M f lo pc2 ls (.int (if y then 1 else 0) :: st) u Q) : um_Ev cl AW L SX M f lo pc ls (e :: d :: c :: b :: a :: st) σ Q := um_callS5 hd hp hI hf hlo hst hcon (fun r u z => by obtain ⟨b, rfl, z⟩ := z; exact h b u z)
theorem um_callV6i {a b c d e g : Value} (hd : decode M.2.1 pc = .ok (.invokevirtual idx, 3)) (hp : pc + 3 = pc2) (hI : um_Iv cl AW M.1.cls idx ci M2 6) (hL : L[q]? = some (.inl (ci, fs))) (hf : f2 + 1 ≤ f) (hlo : 8 + (M2.2.2.1 + 11) + lo2 ≤ lo) (hst : (st.map fun v => v.category).sum ≤ 8) (hcon : um_Con cl AW L SX f2 lo2 M2 [.ref q, a, b, c, d, e, g] σ (um_Qi Qi)) (h : ∀ x u, Qi x u → um_Ev cl AW L SX M f lo pc2 ls (.int x :: st) u Q) : um_Ev cl AW L SX M f lo pc ls (g :: e :: d :: c :: b :: a :: .ref q :: st) σ Q := um_callV6 hd hp hI hL hf hlo hst hcon (fun r u z => by obtain ⟨x, rfl, z⟩ := z; exact h x u z)
theorem um_callV6v {a b c d e g : Value} (hd : decode M.2.1 pc = .ok (.invokevirtual idx, 3)) (hp : pc + 3 = pc2) (hI : um_Iv cl AW M.1.cls idx ci M2 6) (hL : L[q]? = some (.inl (ci, fs))) (hf : f2 + 1 ≤ f) (hlo : 8 + (M2.2.2.1 + 11) + lo2 ≤ lo) (hst : (st.map fun v => v.category).sum ≤ 8) (hcon : um_Con cl AW L SX f2 lo2 M2 [.ref q, a, b, c, d, e, g] σ (um_Qv Qv)) (h : ∀ u, Qv u → um_Ev cl AW L SX M f lo pc2 ls st u Q) : um_Ev cl AW L SX M f lo pc ls (g :: e :: d :: c :: b :: a :: .ref q :: st) σ Q := um_callV6 hd hp hI hL hf hlo hst hcon (fun r u z => by obtain ⟨rfl, z⟩ := z; exact h u z)
theorem um_callV6z {a b c d e g : Value} (hd : decode M.2.1 pc = .ok (.invokevirtual idx, 3)) (hp : pc + 3 = pc2) (hI : um_Iv cl AW M.1.cls idx ci M2 6) (hL : L[q]? = some (.inl (ci, fs))) (hf : f2 + 1 ≤ f) (hlo : 8 + (M2.2.2.1 + 11) + lo2 ≤ lo) (hst : (st.map fun v => v.category).sum ≤ 8) (hcon : um_Con cl AW L SX f2 lo2 M2 [.ref q, a, b, c, d, e, g] σ (um_Qz Qz)) (h : ∀ y u, Qz y u → um_Ev cl AW L SX M f lo pc2 ls (.int (if y then 1 else 0) :: st) u Q) : um_Ev cl AW L SX M f lo pc ls (g :: e :: d :: c :: b :: a :: .ref q :: st) σ Q := um_callV6 hd hp hI hL hf hlo hst hcon (fun r u z => by obtain ⟨b, rfl, z⟩ := z; exact h b u z)
theorem um_callS6i {a b c d e g : Value} (hd : decode M.2.1 pc = .ok (.invokestatic idx, 3)) (hp : pc + 3 = pc2) (hI : um_Is AW M.1.cls idx M2 6) (hf : f2 + 1 ≤ f) (hlo : 8 + (M2.2.2.1 + 11) + lo2 ≤ lo) (hst : (st.map fun v => v.category).sum ≤ 8) (hcon : um_Con cl AW L SX f2 lo2 M2 [a, b, c, d, e, g] σ (um_Qi Qi)) (h : ∀ x u, Qi x u → um_Ev cl AW L SX M f lo pc2 ls (.int x :: st) u Q) : um_Ev cl AW L SX M f lo pc ls (g :: e :: d :: c :: b :: a :: st) σ Q := um_callS6 hd hp hI hf hlo hst hcon (fun r u z => by obtain ⟨x, rfl, z⟩ := z; exact h x u z)
theorem um_callS6v {a b c d e g : Value} (hd : decode M.2.1 pc = .ok (.invokestatic idx, 3)) (hp : pc + 3 = pc2) (hI : um_Is AW M.1.cls idx M2 6) (hf : f2 + 1 ≤ f) (hlo : 8 + (M2.2.2.1 + 11) + lo2 ≤ lo) (hst : (st.map fun v => v.category).sum ≤ 8) (hcon : um_Con cl AW L SX f2 lo2 M2 [a, b, c, d, e, g] σ (um_Qv Qv)) (h : ∀ u, Qv u → um_Ev cl AW L SX M f lo pc2 ls st u Q) : um_Ev cl AW L SX M f lo pc ls (g :: e :: d :: c :: b :: a :: st) σ Q := um_callS6 hd hp hI hf hlo hst hcon (fun r u z => by obtain ⟨rfl, z⟩ := z; exact h u z)
theorem um_callS6z {a b c d e g : Value} (hd : decode M.2.1 pc = .ok (.invokestatic idx, 3)) (hp : pc + 3 = pc2) (hI : um_Is AW M.1.cls idx M2 6) (hf : f2 + 1 ≤ f) (hlo : 8 + (M2.2.2.1 + 11) + lo2 ≤ lo) (hst : (st.map fun v => v.category).sum ≤ 8) (hcon : um_Con cl AW L SX f2 lo2 M2 [a, b, c, d, e, g] σ (um_Qz Qz)) (h : ∀ y u, Qz y u → um_Ev cl AW L SX M f lo pc2 ls (.int (if y then 1 else 0) :: st) u Q) : um_Ev cl AW L SX M f lo pc ls (g :: e :: d :: c :: b :: a :: st) σ Q := um_callS6 hd hp hI hf hlo hst hcon (fun r u z => by obtain ⟨b, rfl, z⟩ := z; exact h b u z)
end UmCallK
