/-! the law: a face call beside the law's own cell -/
section JoinA
variable {D : va_G} {cl : List vw_C} {A0 : Nat → Prop} {w1 w2 w1' : va_W} {H H1 : Heap}
theorem lw_left (hP : va_P D cl (w1 ++ w2) H) : va_P D cl w1 H := fun k q hk => hP k q (by rw [List.getElem?_append_left (List.getElem?_eq_some_iff.mp hk).1]; exact hk)
theorem lw_right (hP : va_P D cl (w1 ++ w2) H) : va_P D cl w2 H := fun k q hk => hP (w1.length + k) q (by rw [List.getElem?_append_right (by omega), Nat.add_sub_cancel_left]; exact hk)
theorem lw_leftD (hD : va_D A0 (w1 ++ w2)) : va_D A0 w1 := by
  have e : ∀ (k : Nat) (q : Nat × va_E), w1[k]? = some q → (w1 ++ w2)[k]? = some q := fun k q hk => by rw [List.getElem?_append_left (List.getElem?_eq_some_iff.mp hk).1]; exact hk
  exact ⟨fun i j x y hi hj h => hD.1 i j x y (e i x hi) (e j y hj) h, fun k q hk => hD.2 k q (e k q hk)⟩
theorem lw_rightD (hD : va_D A0 (w1 ++ w2)) : va_D A0 w2 := by
  have e : ∀ (k : Nat) (q : Nat × va_E), w2[k]? = some q → (w1 ++ w2)[w1.length + k]? = some q := fun k q hk => by rw [List.getElem?_append_right (by omega), Nat.add_sub_cancel_left]; exact hk
  exact ⟨fun i j x y hi hj h => by have := hD.1 _ _ x y (e i x hi) (e j y hj) h; omega, fun k q hk => hD.2 _ q (e k q hk)⟩
theorem lw_join (hP : va_P D cl (w1 ++ w2) H) (hD : va_D A0 (w1 ++ w2)) (hk : ∀ q : Nat, q < H.size → ¬ va_A w1 H.size q → H1[q]? = H[q]?) (hF : ∀ q, va_A w1 H.size q → A0 q) (hP1 : va_P D cl w1' H1) (hD1 : va_D (va_A w1 H.size) w1') : va_P D cl (w1' ++ w2) H1 ∧ va_D A0 (w1' ++ w2) := by
  have apart : ∀ (k : Nat) (q : Nat × va_E), w2[k]? = some q → q.1 < H.size ∧ ¬ va_A w1 H.size q.1 := by
    intro k q hq
    have hl := (lw_right hP k q hq).lt
    refine ⟨hl, fun h => ?_⟩
    rcases h with ⟨k2, e, h⟩ | h
    · have h1 : (w1 ++ w2)[k2]? = some (q.1, e) := by rw [List.getElem?_append_left (List.getElem?_eq_some_iff.mp h).1]; exact h
      have h2 : (w1 ++ w2)[w1.length + k]? = some q := by rw [List.getElem?_append_right (by omega), Nat.add_sub_cancel_left]; exact hq
      have := hD.1 k2 (w1.length + k) (q.1, e) q h1 h2 rfl
      have := (List.getElem?_eq_some_iff.mp h).1
      omega
    · omega
  refine ⟨va_P.app hP1 (fun k q hq => (lw_right hP k q hq).kept (hk q.1 (apart k q hq).1 (apart k q hq).2)), va_D.app (hD1.weaken (fun k q _ h => hF q.1 h)) (lw_rightD hD) (fun i j x y hx hy hxy => ?_)⟩
  exact (apart j y hy).2 (by rw [← hxy]; exact hD1.2 i x hx)
end JoinA
theorem lw_sub : ∀ w ∈ um_AW, w ∈ lw_tbl := fun w hw => (List.mem_filter.mp hw).1
section LawCall
variable {p : Program} {l : Launch} {e : Env} {s : State} {m : MethodId} {args : Array Value} {below : List Frame} {meth : Method} {c : Code} {H : Heap} {locs : List Loc} {cells slots : Nat} {Qw : State → Prop} {D : va_G} {ad : Nat → Nat} {cA : ClassId} {tys : List (ClassId × FieldType)} {w2 : va_W} {σ : um_S}
theorem lw_call {M2 : um_M} {q ci n idx f2 lo2 pc : Nat} {ls : Array Slot} {As rest : List Value} {Q1 : Option Int32 → um_S → Prop} {fs : List (Option Nat)} (hx : p.tables.exec = Jvm.exec) (hb : c.code = code) (hml : c.maxLocals = 7) (hown : s.vm.findClass R_Lw = some m.cls) (hts : ∀ w ∈ lw_tbl, w.before args s = true)
    (hK : va_K D um_cl ((cA, .int) :: tys) s) (hst : um_st um_SX ad (fun x => s.heap.size ≤ x) s s.heap) (hP : va_P D um_cl (um_ws ad cA um_L σ ++ w2) H) (hD : va_D (fun x => s.heap.size ≤ x) (um_ws ad cA um_L σ ++ w2)) (hS : va_S (fun x => s.heap.size ≤ x) s.heap H locs)
    (hI : um_Iv um_cl um_AW R_Lw idx ci M2 n) (hL : um_L[q]? = some (.inl (ci, fs))) (hn : As.length = n) (hf : f2 + 1 ≤ 10) (hlo : 8 + (M2.2.2.1 + 11) + lo2 ≤ 378) (hrm : (rest.map fun v => v.category).sum ≤ 8) (hls : ls.size = 7) (hc1 : cells ≤ 83) (hc2 : slots ≤ 75452)
    (hdg : decode code pc = .ok (.invokevirtual idx, 3)) (hcon : um_Con um_cl um_AW um_L um_SX f2 lo2 M2 (.ref q :: As) σ Q1)
    (kk : ∀ (r : Option Int32) (u : um_S) (H1 : Heap) (locs1 : List Loc), Q1 r u → va_P D um_cl (um_ws ad cA um_L u ++ w2) H1 → va_D (fun x => s.heap.size ≤ x) (um_ws ad cA um_L u ++ w2) → va_S (fun x => s.heap.size ≤ x) s.heap H1 locs1 → W p l e room_1 s m args below meth c H1 locs1 cells slots Qw (F0 m (pc + 3) ls ((r.map Value.int).toList ++ rest))) :
    W p l e room_1 s m args below meth c H locs cells slots Qw (F0 m pc ls ((As.map (um_v ad)).reverse ++ .ref (ad q) :: rest)) := by
  obtain ⟨⟨hg, hcode, hini, hpar, hlk⟩, qc, hcl, hinst, hsel⟩ := hI
  have hok : ∀ w ∈ um_AW, w.before args s = true := fun w hw => hts w (lw_sub w hw)
  have hG : GoodIn lw_tbl (um_wd um_AW M2) := by
    intro w hw
    rcases List.mem_cons.mp hw with h | h
    · subst h
      exact ⟨lw_sub _ hcode, hg _ hcode⟩
    · exact ⟨lw_sub _ h, hg _ h⟩
  have hPw := lw_left hP
  have hDw := lw_leftD hD
  have hK1 : va_K D um_cl [(cA, .int)] s := hK.sub [0] rfl
  have hA0 : ∀ x, va_A (um_ws ad cA um_L σ) H.size x → s.heap.size ≤ x := by
    intro x h
    rcases h with ⟨k, e, h⟩ | h
    · exact hDw.2 k _ h
    · exact Nat.le_trans hS.1 h
  have he : (um_ws ad cA um_L σ)[q]? = some (ad q, .inr (ci, fs.mapIdx (um_fv ad σ q))) := by rw [um_ws_at, hL]; rfl
  have hpre : ∀ U : State, U.heap = H → s.WarmedH U.vm → um_Pc um_cl um_L um_SX D ad cA H.size (.ref q :: As) σ ((Value.ref q :: As).map (um_v ad)).toArray U := by
    intro U hU hW
    refine ⟨rfl, by rw [hU], by rw [hU]; exact hPw, va_K.moved hW.alike hK1, hDw.weaken (fun _ _ _ _ => trivial), fun i C n N fn hi => ?_, fun x hx => va_Nw.warmM hW (hst.2 x hx)⟩
    obtain ⟨h1, h2⟩ := hst.1 i C n N fn hi
    rw [hU]
    exact ⟨((h1.kept hS.2.1).narrow hA0).moved hW.alike, ((h2.kept hS.2.1).narrow hA0).moved hW.alike⟩
  have hM := hcon l D ad cA H.size
  have hlen : (As.map (um_v ad)).length = n := by rw [List.length_map]; exact hn
  have hrun : va_Run p l e room_1 s m args below meth c H locs cells slots 0 0 (F0 m pc ls ((As.map (um_v ad)).reverse ++ .ref (ad q) :: rest)) rest
      (um_Q Q1 (um_B um_cl D ad cA um_L (va_A (um_ws ad cA um_L σ) H.size)) (va_A (um_ws ad cA um_L σ) H.size) (Value.ref (ad q) :: As.map (um_v ad)).toArray) (va_A (um_ws ad cA um_L σ) H.size) := by
    rcases hlk with hlk | ⟨host, hlk⟩
    · exact va_runV (Pc := um_Pc um_cl um_L um_SX D ad cA H.size (.ref q :: As) σ) ⟨hx, hb, hml, hown, hts⟩ hM ⟨callB_of n hts hG rfl rfl rfl (hok _ hini) (hok _ hlk) hpar ⟨hf, hlo⟩, hok _ hinst, hok _ hsel⟩
        ⟨um_blind, va_recv hK1 hPw hcl he, hpre⟩ rfl hlen hls rfl (lv_room hrm) hdg ⟨hc1, hc2⟩
    · exact va_runVN (Pc := um_Pc um_cl um_L um_SX D ad cA H.size (.ref q :: As) σ) ⟨hx, hb, hml, hown, hts⟩ hM ⟨va_cnB n hts hG rfl rfl rfl (hst.2 _ hlk) (hok _ hini) hpar ⟨hf, hlo⟩, hok _ hinst, hok _ hsel⟩
        ⟨um_blind, va_recv hK1 hPw hcl he, hpre⟩ rfl hlen hls rfl (lv_room hrm) hdg ⟨hc1, hc2⟩
  intro T hT X
  obtain ⟨v, st₀, t, T', L, h0, X', hLL, e1, e2, ⟨⟨r, u, hv, hq, hB⟩, hz, hk⟩, st⟩ := hrun T hT X
  cases hv
  rw [h0] at hz hk
  have hS' : va_S (fun x => s.heap.size ≤ x) s.heap T'.heap (locs ++ L) := by
    refine ⟨Nat.le_trans hS.1 (by rw [e1]; exact hz), fun x h1 h2 => ?_, fun x hx => ?_⟩
    · have h3 : x < H.size := Nat.lt_of_lt_of_le h1 hS.1
      rw [e1, hk x h3 (fun z => h2 (hA0 x z))]
      exact hS.2.1 x h1 h2
    · rcases List.mem_append.mp hx with h | h
      · exact hS.2.2 x h
      · exact hA0 _ (hLL x h)
  obtain ⟨hP2, hD2⟩ := lw_join (H1 := T'.heap) hP hD (fun x h1 h2 => by rw [e1]; exact hk x h1 h2) hA0 (by rw [e1]; exact hB.1) hB.2.2
  obtain ⟨t2, a1, b1⟩ := kk r u T'.heap (locs ++ L) hq hP2 hD2 hS' T' rfl X'
  exact ⟨t2, st t2 a1, b1⟩
end LawCall
