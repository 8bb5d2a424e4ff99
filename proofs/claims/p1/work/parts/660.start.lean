set_option maxRecDepth 100000 in
theorem wcl_Lw_8 : Cond.classLink R_Lw 8 R_UM ∈ um_AW := um_in 89 (by decide +kernel) rfl
set_option maxRecDepth 100000 in
theorem wcl_Lw_21 : Cond.classLink R_Lw 21 R_Mo ∈ um_AW := um_in 754 (by decide +kernel) rfl
set_option maxRecDepth 100000 in
theorem wli_Lw_20 : Cond.methodLink R_Lw 20 M_UM_init.1 ∈ um_AW := um_in 91 (by decide +kernel) rfl
set_option maxRecDepth 100000 in
theorem wli_Lw_23 : Cond.methodLink R_Lw 23 M_Mo_init.1 ∈ um_AW := um_in 756 (by decide +kernel) rfl
set_option maxRecDepth 100000 in
theorem wo_arrL : Cond.arrayClass .long ∈ um_AW := um_in 1143 (by decide +kernel) rfl
theorem lw_good {M2 : um_M} (hcode : Cond.code M2.1 M2.2.1 M2.2.2.1 M2.2.2.2 ∈ um_AW) : GoodIn lw_tbl (um_wd um_AW M2) := by
  intro w hw
  rcases List.mem_cons.mp hw with h | h
  · subst h
    exact ⟨lw_sub _ hcode, um_gd _ hcode⟩
  · exact ⟨lw_sub _ h, um_gd _ h⟩
/-! the law's start: two objects, one long array, then the loop -/
/-- the state of new objects -/
def um_s0 : um_S := fun q => if q = 10 then um_fill (fun _ _ => 0) 0 6 (-1) 0 else if q = 45 then (upd (upd (upd (upd (upd (upd (fun _ => 0) 0 ((-1))) 1 ((-1))) 2 ((-1))) 3 ((-1))) 4 ((-1))) 5 ((-1))) else if q = 38 then upd (fun _ => 0) 46 (-1) else fun _ => 0
theorem um_J_same (a : um_S) : um_J a a = a := by
  funext q
  simp [um_J]
theorem um_s0_b {f : Nat} (hf : f < 6) : um_s0 10 f = -1 ∧ um_s0 45 f = -1 := by
  rcases (show f = 0 ∨ f = 1 ∨ f = 2 ∨ f = 3 ∨ f = 4 ∨ f = 5 by omega) with rfl | rfl | rfl | rfl | rfl | rfl <;> exact ⟨rfl, rfl⟩
theorem um_G0 : um_G um_s0 um_s0 := by
  refine ⟨⟨0, ⟨by omega, rfl, rfl, rfl⟩, rfl, rfl, fun k hk => by omega, fun f hf => ⟨(um_s0_b hf).1.trans (um_s0_b hf).2.symm, Or.inl (um_s0_b hf).2⟩⟩, Or.inl ⟨rfl, rfl, rfl⟩, Or.inl ⟨rfl, rfl, rfl, rfl, fun v hv => rfl, fun j a hj ha => rfl⟩⟩
def lw_ad (a1 a2 : Nat → Nat) (t : Nat) : Nat → Nat := fun j => if j = 1000 then t else ([(a1 0), (a1 1), (a1 5), (a1 11), (a1 31), (a1 12), (a1 21), (a1 26), (a1 2), (a1 3), (a1 4), (a1 6), (a1 7), (a1 8), (a1 9), (a1 10), (a1 30), (a1 32), (a1 33), (a1 34), (a1 35), (a1 36), (a1 37), (a1 13), (a1 14), (a1 15), (a1 16), (a1 17), (a1 18), (a1 19), (a1 20), (a1 22), (a1 23), (a1 24), (a1 25), (a1 27), (a1 28), (a1 29)] ++ [(a2 0), (a2 1), (a2 2), (a2 3), (a2 4), (a2 5), (a2 6), (a2 7), (a2 8), (a2 9), (a2 10), (a2 11), (a2 12), (a2 13), (a2 14), (a2 15), (a2 16), (a2 17), (a2 18), (a2 19), (a2 20), (a2 21), (a2 22), (a2 23), (a2 24), (a2 25), (a2 26), (a2 27), (a2 28), (a2 29), (a2 30), (a2 31), (a2 32), (a2 33), (a2 34), (a2 35), (a2 36), (a2 37)] : List Nat).getD j 0
def lw_wu (a1 : Nat → Nat) (cA : ClassId) : va_W := [((a1 0), .inr (0, [.ref (a1 1), .ref (a1 5), .ref (a1 11), .ref (a1 31)])), ((a1 1), .inr (1, [.ref (a1 2), .ref (a1 3), .ref (a1 4), .int 0])), ((a1 2), .inl (cA, 150, .inl (fun _ => 0))), ((a1 3), .inl (cA, 750, .inl (fun _ => 0))), ((a1 4), .inl (cA, 6, .inl (um_fill (fun _ _ => 0) 0 6 (-1) 0))), ((a1 5), .inr (2, [.ref (a1 6), .ref (a1 7), .ref (a1 8), .ref (a1 9), .ref (a1 10), .int 0, .int 0, .int 0, .int 0])), ((a1 6), .inl (cA, 1000, .inl (fun _ => 0))), ((a1 7), .inl (cA, 1000, .inl (fun _ => 0))), ((a1 8), .inl (cA, 1000, .inl (fun _ => 0))), ((a1 9), .inl (cA, 6, .inl (fun _ => 0))), ((a1 10), .inl (cA, 1500, .inl (fun _ => 0))), ((a1 11), .inr (3, [.ref (a1 1), .ref (a1 5), .ref (a1 12), .ref (a1 21), .ref (a1 26), .ref (a1 30), .int 0, .int 0, .int 0])), ((a1 12), .inr (5, [.ref (a1 13), .ref (a1 14), .ref (a1 15), .ref (a1 16), .ref (a1 17), .ref (a1 18), .ref (a1 19), .ref (a1 20), .int 0, .int 0])), ((a1 13), .inl (cA, 2001, .inl (fun _ => 0))), ((a1 14), .inl (cA, 2001, .inl (fun _ => 0))), ((a1 15), .inl (cA, 2001, .inl (fun _ => 0))), ((a1 16), .inl (cA, 2001, .inl (fun _ => 0))), ((a1 17), .inl (cA, 2001, .inl (fun _ => 0))), ((a1 18), .inl (cA, 2001, .inl (fun _ => 0))), ((a1 19), .inl (cA, 2001, .inl (fun _ => 0))), ((a1 20), .inl (cA, 2001, .inl (fun _ => 0))), ((a1 21), .inr (6, [.ref (a1 22), .ref (a1 23), .ref (a1 24), .ref (a1 25), .int 0])), ((a1 22), .inl (cA, 2001, .inl (fun _ => 0))), ((a1 23), .inl (cA, 2001, .inl (fun _ => 0))), ((a1 24), .inl (cA, 2001, .inl (fun _ => 0))), ((a1 25), .inl (cA, 2001, .inl (fun _ => 0))), ((a1 26), .inr (7, [.ref (a1 27), .ref (a1 28), .ref (a1 29), .int 0])), ((a1 27), .inl (cA, 501, .inl (fun _ => 0))), ((a1 28), .inl (cA, 501, .inl (fun _ => 0))), ((a1 29), .inl (cA, 501, .inl (fun _ => 0))), ((a1 30), .inl (cA, 2000, .inl (fun _ => 0))), ((a1 31), .inr (4, [.ref (a1 5), .ref (a1 32), .ref (a1 33), .ref (a1 34), .int 0, .ref (a1 35), .int 0, .ref (a1 36), .ref (a1 37), .int 0, .int 0])), ((a1 32), .inl (cA, 8, .inl (fun _ => 0))), ((a1 33), .inl (cA, 64, .inl (fun _ => 0))), ((a1 34), .inl (cA, 6, .inl (fun _ => 0))), ((a1 35), .inl (cA, 150, .inl (fun _ => 0))), ((a1 36), .inl (cA, 12, .inl (fun _ => 0))), ((a1 37), .inl (cA, 1800, .inl (fun _ => 0)))]
def lw_wm (a2 : Nat → Nat) (cA : ClassId) : va_W := [((a2 0), .inr (8, [.int 0, .int 0, .ref (a2 1), .ref (a2 2), .ref (a2 3), .ref (a2 4), .ref (a2 5), .ref (a2 6), .ref (a2 7), .int 0, .int 0, .ref (a2 8), .ref (a2 9), .ref (a2 10), .int 0, .ref (a2 11), .ref (a2 12), .ref (a2 13), .ref (a2 14), .ref (a2 15), .int 0, .int 0, .ref (a2 16), .int 0, .ref (a2 17), .ref (a2 18), .ref (a2 19), .ref (a2 20), .ref (a2 21), .ref (a2 22), .int 0, .ref (a2 23), .int 0, .ref (a2 24), .int 0, .int 0, .int 0, .int 0, .ref (a2 25), .ref (a2 26), .ref (a2 27), .ref (a2 28), .ref (a2 29), .ref (a2 30), .ref (a2 31), .ref (a2 32), .int (-1), .int 0, .int 0, .int 0, .ref (a2 33), .int 0, .int 0, .int 0, .ref (a2 34), .ref (a2 35), .ref (a2 36), .ref (a2 37)])), ((a2 1), .inl (cA, 150, .inl (fun _ => 0))), ((a2 2), .inl (cA, 150, .inl (fun _ => 0))), ((a2 3), .inl (cA, 150, .inl (fun _ => 0))), ((a2 4), .inl (cA, 150, .inl (fun _ => 0))), ((a2 5), .inl (cA, 150, .inl (fun _ => 0))), ((a2 6), .inl (cA, 150, .inl (fun _ => 0))), ((a2 7), .inl (cA, 6, .inl (upd (upd (upd (upd (upd (upd (fun _ => 0) 0 ((-1))) 1 ((-1))) 2 ((-1))) 3 ((-1))) 4 ((-1))) 5 ((-1))))), ((a2 8), .inl (cA, 1000, .inl (fun _ => 0))), ((a2 9), .inl (cA, 1000, .inl (fun _ => 0))), ((a2 10), .inl (cA, 1000, .inl (fun _ => 0))), ((a2 11), .inl (cA, 300, .inl (fun _ => 0))), ((a2 12), .inl (cA, 300, .inl (fun _ => 0))), ((a2 13), .inl (cA, 300, .inl (fun _ => 0))), ((a2 14), .inl (cA, 300, .inl (fun _ => 0))), ((a2 15), .inl (cA, 300, .inl (fun _ => 0))), ((a2 16), .inl (cA, 6, .inl (fun _ => 0))), ((a2 17), .inl (cA, 2001, .inl (fun _ => 0))), ((a2 18), .inl (cA, 2001, .inl (fun _ => 0))), ((a2 19), .inl (cA, 2001, .inl (fun _ => 0))), ((a2 20), .inl (cA, 2001, .inl (fun _ => 0))), ((a2 21), .inl (cA, 2001, .inl (fun _ => 0))), ((a2 22), .inl (cA, 2001, .inl (fun _ => 0))), ((a2 23), .inl (cA, 2001, .inl (fun _ => 0))), ((a2 24), .inl (cA, 2001, .inl (fun _ => 0))), ((a2 25), .inl (cA, 2002, .inl (fun _ => 0))), ((a2 26), .inl (cA, 2002, .inl (fun _ => 0))), ((a2 27), .inl (cA, 2002, .inl (fun _ => 0))), ((a2 28), .inl (cA, 2002, .inl (fun _ => 0))), ((a2 29), .inl (cA, 2002, .inl (fun _ => 0))), ((a2 30), .inl (cA, 2002, .inl (fun _ => 0))), ((a2 31), .inl (cA, 2002, .inl (fun _ => 0))), ((a2 32), .inl (cA, 8, .inl (fun _ => 0))), ((a2 33), .inl (cA, 64, .inl (fun _ => 0))), ((a2 34), .inl (cA, 12, .inl (fun _ => 0))), ((a2 35), .inl (cA, 12, .inl (fun _ => 0))), ((a2 36), .inl (cA, 2400, .inl (fun _ => 0))), ((a2 37), .inl (cA, 2400, .inl (fun _ => 0)))]
def lw_wall (a1 a2 : Nat → Nat) (cA : ClassId) : va_W := lw_wu a1 cA ++ lw_wm a2 cA
def lw_pl : List Nat := [0, 1, 5, 11, 31, 12, 21, 26, 2, 3, 4, 6, 7, 8, 9, 10, 30, 32, 33, 34, 35, 36, 37, 13, 14, 15, 16, 17, 18, 19, 20, 22, 23, 24, 25, 27, 28, 29] ++ [38, 39, 40, 41, 42, 43, 44, 45, 46, 47, 48, 49, 50, 51, 52, 53, 54, 55, 56, 57, 58, 59, 60, 61, 62, 63, 64, 65, 66, 67, 68, 69, 70, 71, 72, 73, 74, 75, 76]
theorem lw_ins {ws wr : va_W} {k i : Nat} {q : Nat × va_E} (h1 : ws[k]? = some q) (h2 : wr[i]? = some q) : ws[k]? = wr[i]? := h1.trans h2.symm
def lw_F38 : List (Option Nat) := [none, none, some 39, some 40, some 41, some 42, some 43, some 44, some 45, none, none, some 46, some 47, some 48, none, some 49, some 50, some 51, some 52, some 53, none, none, some 54, none, some 55, some 56, some 57, some 58, some 59, some 60, none, some 61, none, some 62, none, none, none, none, some 63, some 64, some 65, some 66, some 67, some 68, some 69, some 70, none, none, none, none, some 71, none, none, none, some 72, some 73, some 74, some 75]
def lw_V38 (a2 : Nat → Nat) : List Value := [.int 0, .int 0, .ref (a2 1), .ref (a2 2), .ref (a2 3), .ref (a2 4), .ref (a2 5), .ref (a2 6), .ref (a2 7), .int 0, .int 0, .ref (a2 8), .ref (a2 9), .ref (a2 10), .int 0, .ref (a2 11), .ref (a2 12), .ref (a2 13), .ref (a2 14), .ref (a2 15), .int 0, .int 0, .ref (a2 16), .int 0, .ref (a2 17), .ref (a2 18), .ref (a2 19), .ref (a2 20), .ref (a2 21), .ref (a2 22), .int 0, .ref (a2 23), .int 0, .ref (a2 24), .int 0, .int 0, .int 0, .int 0, .ref (a2 25), .ref (a2 26), .ref (a2 27), .ref (a2 28), .ref (a2 29), .ref (a2 30), .ref (a2 31), .ref (a2 32), .int (-1), .int 0, .int 0, .int 0, .ref (a2 33), .int 0, .int 0, .int 0, .ref (a2 34), .ref (a2 35), .ref (a2 36), .ref (a2 37)]
theorem lw_f38 (a1 a2 : Nat → Nat) (t : Nat) : lw_F38.mapIdx (um_fv (lw_ad a1 a2 t) um_s0 38) = lw_V38 a2 := by
  apply List.ext_getElem?
  intro k
  rw [List.getElem?_mapIdx]
  match k with
  | 0 => rfl
  | 1 => rfl
  | 2 => rfl
  | 3 => rfl
  | 4 => rfl
  | 5 => rfl
  | 6 => rfl
  | 7 => rfl
  | 8 => rfl
  | 9 => rfl
  | 10 => rfl
  | 11 => rfl
  | 12 => rfl
  | 13 => rfl
  | 14 => rfl
  | 15 => rfl
  | 16 => rfl
  | 17 => rfl
  | 18 => rfl
  | 19 => rfl
  | 20 => rfl
  | 21 => rfl
  | 22 => rfl
  | 23 => rfl
  | 24 => rfl
  | 25 => rfl
  | 26 => rfl
  | 27 => rfl
  | 28 => rfl
  | 29 => rfl
  | 30 => rfl
  | 31 => rfl
  | 32 => rfl
  | 33 => rfl
  | 34 => rfl
  | 35 => rfl
  | 36 => rfl
  | 37 => rfl
  | 38 => rfl
  | 39 => rfl
  | 40 => rfl
  | 41 => rfl
  | 42 => rfl
  | 43 => rfl
  | 44 => rfl
  | 45 => rfl
  | 46 => rfl
  | 47 => rfl
  | 48 => rfl
  | 49 => rfl
  | 50 => rfl
  | 51 => rfl
  | 52 => rfl
  | 53 => rfl
  | 54 => rfl
  | 55 => rfl
  | 56 => rfl
  | 57 => rfl
  | n + 58 => rfl
theorem lw_e38 (a1 a2 : Nat → Nat) (t : Nat) (cA : ClassId) : (um_L[38]?).map (um_cell (lw_ad a1 a2 t) cA um_s0 38) = (lw_wm a2 cA)[0]? := by
  show some (a2 0, Sum.inr (8, lw_F38.mapIdx (um_fv (lw_ad a1 a2 t) um_s0 38))) = some (a2 0, Sum.inr (8, lw_V38 a2))
  rw [lw_f38]
theorem lw_e0 (a1 a2 : Nat → Nat) (t : Nat) (cA : ClassId) : (um_L[0]?).map (um_cell (lw_ad a1 a2 t) cA um_s0 0) = (lw_wu a1 cA)[0]? := rfl
theorem lw_e1 (a1 a2 : Nat → Nat) (t : Nat) (cA : ClassId) : (um_L[1]?).map (um_cell (lw_ad a1 a2 t) cA um_s0 1) = (lw_wu a1 cA)[1]? := rfl
theorem lw_e2 (a1 a2 : Nat → Nat) (t : Nat) (cA : ClassId) : (um_L[2]?).map (um_cell (lw_ad a1 a2 t) cA um_s0 2) = (lw_wu a1 cA)[5]? := rfl
theorem lw_e3 (a1 a2 : Nat → Nat) (t : Nat) (cA : ClassId) : (um_L[3]?).map (um_cell (lw_ad a1 a2 t) cA um_s0 3) = (lw_wu a1 cA)[11]? := rfl
theorem lw_e4 (a1 a2 : Nat → Nat) (t : Nat) (cA : ClassId) : (um_L[4]?).map (um_cell (lw_ad a1 a2 t) cA um_s0 4) = (lw_wu a1 cA)[31]? := rfl
theorem lw_e5 (a1 a2 : Nat → Nat) (t : Nat) (cA : ClassId) : (um_L[5]?).map (um_cell (lw_ad a1 a2 t) cA um_s0 5) = (lw_wu a1 cA)[12]? := rfl
theorem lw_e6 (a1 a2 : Nat → Nat) (t : Nat) (cA : ClassId) : (um_L[6]?).map (um_cell (lw_ad a1 a2 t) cA um_s0 6) = (lw_wu a1 cA)[21]? := rfl
theorem lw_e7 (a1 a2 : Nat → Nat) (t : Nat) (cA : ClassId) : (um_L[7]?).map (um_cell (lw_ad a1 a2 t) cA um_s0 7) = (lw_wu a1 cA)[26]? := rfl
theorem lw_e8 (a1 a2 : Nat → Nat) (t : Nat) (cA : ClassId) : (um_L[8]?).map (um_cell (lw_ad a1 a2 t) cA um_s0 8) = (lw_wu a1 cA)[2]? := rfl
theorem lw_e9 (a1 a2 : Nat → Nat) (t : Nat) (cA : ClassId) : (um_L[9]?).map (um_cell (lw_ad a1 a2 t) cA um_s0 9) = (lw_wu a1 cA)[3]? := rfl
theorem lw_e10 (a1 a2 : Nat → Nat) (t : Nat) (cA : ClassId) : (um_L[10]?).map (um_cell (lw_ad a1 a2 t) cA um_s0 10) = (lw_wu a1 cA)[4]? := rfl
theorem lw_e11 (a1 a2 : Nat → Nat) (t : Nat) (cA : ClassId) : (um_L[11]?).map (um_cell (lw_ad a1 a2 t) cA um_s0 11) = (lw_wu a1 cA)[6]? := rfl
theorem lw_e12 (a1 a2 : Nat → Nat) (t : Nat) (cA : ClassId) : (um_L[12]?).map (um_cell (lw_ad a1 a2 t) cA um_s0 12) = (lw_wu a1 cA)[7]? := rfl
theorem lw_e13 (a1 a2 : Nat → Nat) (t : Nat) (cA : ClassId) : (um_L[13]?).map (um_cell (lw_ad a1 a2 t) cA um_s0 13) = (lw_wu a1 cA)[8]? := rfl
theorem lw_e14 (a1 a2 : Nat → Nat) (t : Nat) (cA : ClassId) : (um_L[14]?).map (um_cell (lw_ad a1 a2 t) cA um_s0 14) = (lw_wu a1 cA)[9]? := rfl
theorem lw_e15 (a1 a2 : Nat → Nat) (t : Nat) (cA : ClassId) : (um_L[15]?).map (um_cell (lw_ad a1 a2 t) cA um_s0 15) = (lw_wu a1 cA)[10]? := rfl
theorem lw_e16 (a1 a2 : Nat → Nat) (t : Nat) (cA : ClassId) : (um_L[16]?).map (um_cell (lw_ad a1 a2 t) cA um_s0 16) = (lw_wu a1 cA)[30]? := rfl
theorem lw_e17 (a1 a2 : Nat → Nat) (t : Nat) (cA : ClassId) : (um_L[17]?).map (um_cell (lw_ad a1 a2 t) cA um_s0 17) = (lw_wu a1 cA)[32]? := rfl
theorem lw_e18 (a1 a2 : Nat → Nat) (t : Nat) (cA : ClassId) : (um_L[18]?).map (um_cell (lw_ad a1 a2 t) cA um_s0 18) = (lw_wu a1 cA)[33]? := rfl
theorem lw_e19 (a1 a2 : Nat → Nat) (t : Nat) (cA : ClassId) : (um_L[19]?).map (um_cell (lw_ad a1 a2 t) cA um_s0 19) = (lw_wu a1 cA)[34]? := rfl
theorem lw_e20 (a1 a2 : Nat → Nat) (t : Nat) (cA : ClassId) : (um_L[20]?).map (um_cell (lw_ad a1 a2 t) cA um_s0 20) = (lw_wu a1 cA)[35]? := rfl
theorem lw_e21 (a1 a2 : Nat → Nat) (t : Nat) (cA : ClassId) : (um_L[21]?).map (um_cell (lw_ad a1 a2 t) cA um_s0 21) = (lw_wu a1 cA)[36]? := rfl
theorem lw_e22 (a1 a2 : Nat → Nat) (t : Nat) (cA : ClassId) : (um_L[22]?).map (um_cell (lw_ad a1 a2 t) cA um_s0 22) = (lw_wu a1 cA)[37]? := rfl
theorem lw_e23 (a1 a2 : Nat → Nat) (t : Nat) (cA : ClassId) : (um_L[23]?).map (um_cell (lw_ad a1 a2 t) cA um_s0 23) = (lw_wu a1 cA)[13]? := rfl
theorem lw_e24 (a1 a2 : Nat → Nat) (t : Nat) (cA : ClassId) : (um_L[24]?).map (um_cell (lw_ad a1 a2 t) cA um_s0 24) = (lw_wu a1 cA)[14]? := rfl
theorem lw_e25 (a1 a2 : Nat → Nat) (t : Nat) (cA : ClassId) : (um_L[25]?).map (um_cell (lw_ad a1 a2 t) cA um_s0 25) = (lw_wu a1 cA)[15]? := rfl
theorem lw_e26 (a1 a2 : Nat → Nat) (t : Nat) (cA : ClassId) : (um_L[26]?).map (um_cell (lw_ad a1 a2 t) cA um_s0 26) = (lw_wu a1 cA)[16]? := rfl
theorem lw_e27 (a1 a2 : Nat → Nat) (t : Nat) (cA : ClassId) : (um_L[27]?).map (um_cell (lw_ad a1 a2 t) cA um_s0 27) = (lw_wu a1 cA)[17]? := rfl
theorem lw_e28 (a1 a2 : Nat → Nat) (t : Nat) (cA : ClassId) : (um_L[28]?).map (um_cell (lw_ad a1 a2 t) cA um_s0 28) = (lw_wu a1 cA)[18]? := rfl
theorem lw_e29 (a1 a2 : Nat → Nat) (t : Nat) (cA : ClassId) : (um_L[29]?).map (um_cell (lw_ad a1 a2 t) cA um_s0 29) = (lw_wu a1 cA)[19]? := rfl
theorem lw_e30 (a1 a2 : Nat → Nat) (t : Nat) (cA : ClassId) : (um_L[30]?).map (um_cell (lw_ad a1 a2 t) cA um_s0 30) = (lw_wu a1 cA)[20]? := rfl
theorem lw_e31 (a1 a2 : Nat → Nat) (t : Nat) (cA : ClassId) : (um_L[31]?).map (um_cell (lw_ad a1 a2 t) cA um_s0 31) = (lw_wu a1 cA)[22]? := rfl
theorem lw_e32 (a1 a2 : Nat → Nat) (t : Nat) (cA : ClassId) : (um_L[32]?).map (um_cell (lw_ad a1 a2 t) cA um_s0 32) = (lw_wu a1 cA)[23]? := rfl
theorem lw_e33 (a1 a2 : Nat → Nat) (t : Nat) (cA : ClassId) : (um_L[33]?).map (um_cell (lw_ad a1 a2 t) cA um_s0 33) = (lw_wu a1 cA)[24]? := rfl
theorem lw_e34 (a1 a2 : Nat → Nat) (t : Nat) (cA : ClassId) : (um_L[34]?).map (um_cell (lw_ad a1 a2 t) cA um_s0 34) = (lw_wu a1 cA)[25]? := rfl
theorem lw_e35 (a1 a2 : Nat → Nat) (t : Nat) (cA : ClassId) : (um_L[35]?).map (um_cell (lw_ad a1 a2 t) cA um_s0 35) = (lw_wu a1 cA)[27]? := rfl
theorem lw_e36 (a1 a2 : Nat → Nat) (t : Nat) (cA : ClassId) : (um_L[36]?).map (um_cell (lw_ad a1 a2 t) cA um_s0 36) = (lw_wu a1 cA)[28]? := rfl
theorem lw_e37 (a1 a2 : Nat → Nat) (t : Nat) (cA : ClassId) : (um_L[37]?).map (um_cell (lw_ad a1 a2 t) cA um_s0 37) = (lw_wu a1 cA)[29]? := rfl
theorem lw_e39 (a1 a2 : Nat → Nat) (t : Nat) (cA : ClassId) : (um_L[39]?).map (um_cell (lw_ad a1 a2 t) cA um_s0 39) = (lw_wm a2 cA)[1]? := rfl
theorem lw_e40 (a1 a2 : Nat → Nat) (t : Nat) (cA : ClassId) : (um_L[40]?).map (um_cell (lw_ad a1 a2 t) cA um_s0 40) = (lw_wm a2 cA)[2]? := rfl
theorem lw_e41 (a1 a2 : Nat → Nat) (t : Nat) (cA : ClassId) : (um_L[41]?).map (um_cell (lw_ad a1 a2 t) cA um_s0 41) = (lw_wm a2 cA)[3]? := rfl
theorem lw_e42 (a1 a2 : Nat → Nat) (t : Nat) (cA : ClassId) : (um_L[42]?).map (um_cell (lw_ad a1 a2 t) cA um_s0 42) = (lw_wm a2 cA)[4]? := rfl
theorem lw_e43 (a1 a2 : Nat → Nat) (t : Nat) (cA : ClassId) : (um_L[43]?).map (um_cell (lw_ad a1 a2 t) cA um_s0 43) = (lw_wm a2 cA)[5]? := rfl
theorem lw_e44 (a1 a2 : Nat → Nat) (t : Nat) (cA : ClassId) : (um_L[44]?).map (um_cell (lw_ad a1 a2 t) cA um_s0 44) = (lw_wm a2 cA)[6]? := rfl
theorem lw_e45 (a1 a2 : Nat → Nat) (t : Nat) (cA : ClassId) : (um_L[45]?).map (um_cell (lw_ad a1 a2 t) cA um_s0 45) = (lw_wm a2 cA)[7]? := rfl
theorem lw_e46 (a1 a2 : Nat → Nat) (t : Nat) (cA : ClassId) : (um_L[46]?).map (um_cell (lw_ad a1 a2 t) cA um_s0 46) = (lw_wm a2 cA)[8]? := rfl
theorem lw_e47 (a1 a2 : Nat → Nat) (t : Nat) (cA : ClassId) : (um_L[47]?).map (um_cell (lw_ad a1 a2 t) cA um_s0 47) = (lw_wm a2 cA)[9]? := rfl
theorem lw_e48 (a1 a2 : Nat → Nat) (t : Nat) (cA : ClassId) : (um_L[48]?).map (um_cell (lw_ad a1 a2 t) cA um_s0 48) = (lw_wm a2 cA)[10]? := rfl
theorem lw_e49 (a1 a2 : Nat → Nat) (t : Nat) (cA : ClassId) : (um_L[49]?).map (um_cell (lw_ad a1 a2 t) cA um_s0 49) = (lw_wm a2 cA)[11]? := rfl
theorem lw_e50 (a1 a2 : Nat → Nat) (t : Nat) (cA : ClassId) : (um_L[50]?).map (um_cell (lw_ad a1 a2 t) cA um_s0 50) = (lw_wm a2 cA)[12]? := rfl
theorem lw_e51 (a1 a2 : Nat → Nat) (t : Nat) (cA : ClassId) : (um_L[51]?).map (um_cell (lw_ad a1 a2 t) cA um_s0 51) = (lw_wm a2 cA)[13]? := rfl
theorem lw_e52 (a1 a2 : Nat → Nat) (t : Nat) (cA : ClassId) : (um_L[52]?).map (um_cell (lw_ad a1 a2 t) cA um_s0 52) = (lw_wm a2 cA)[14]? := rfl
theorem lw_e53 (a1 a2 : Nat → Nat) (t : Nat) (cA : ClassId) : (um_L[53]?).map (um_cell (lw_ad a1 a2 t) cA um_s0 53) = (lw_wm a2 cA)[15]? := rfl
theorem lw_e54 (a1 a2 : Nat → Nat) (t : Nat) (cA : ClassId) : (um_L[54]?).map (um_cell (lw_ad a1 a2 t) cA um_s0 54) = (lw_wm a2 cA)[16]? := rfl
theorem lw_e55 (a1 a2 : Nat → Nat) (t : Nat) (cA : ClassId) : (um_L[55]?).map (um_cell (lw_ad a1 a2 t) cA um_s0 55) = (lw_wm a2 cA)[17]? := rfl
theorem lw_e56 (a1 a2 : Nat → Nat) (t : Nat) (cA : ClassId) : (um_L[56]?).map (um_cell (lw_ad a1 a2 t) cA um_s0 56) = (lw_wm a2 cA)[18]? := rfl
theorem lw_e57 (a1 a2 : Nat → Nat) (t : Nat) (cA : ClassId) : (um_L[57]?).map (um_cell (lw_ad a1 a2 t) cA um_s0 57) = (lw_wm a2 cA)[19]? := rfl
theorem lw_e58 (a1 a2 : Nat → Nat) (t : Nat) (cA : ClassId) : (um_L[58]?).map (um_cell (lw_ad a1 a2 t) cA um_s0 58) = (lw_wm a2 cA)[20]? := rfl
theorem lw_e59 (a1 a2 : Nat → Nat) (t : Nat) (cA : ClassId) : (um_L[59]?).map (um_cell (lw_ad a1 a2 t) cA um_s0 59) = (lw_wm a2 cA)[21]? := rfl
theorem lw_e60 (a1 a2 : Nat → Nat) (t : Nat) (cA : ClassId) : (um_L[60]?).map (um_cell (lw_ad a1 a2 t) cA um_s0 60) = (lw_wm a2 cA)[22]? := rfl
theorem lw_e61 (a1 a2 : Nat → Nat) (t : Nat) (cA : ClassId) : (um_L[61]?).map (um_cell (lw_ad a1 a2 t) cA um_s0 61) = (lw_wm a2 cA)[23]? := rfl
theorem lw_e62 (a1 a2 : Nat → Nat) (t : Nat) (cA : ClassId) : (um_L[62]?).map (um_cell (lw_ad a1 a2 t) cA um_s0 62) = (lw_wm a2 cA)[24]? := rfl
theorem lw_e63 (a1 a2 : Nat → Nat) (t : Nat) (cA : ClassId) : (um_L[63]?).map (um_cell (lw_ad a1 a2 t) cA um_s0 63) = (lw_wm a2 cA)[25]? := rfl
theorem lw_e64 (a1 a2 : Nat → Nat) (t : Nat) (cA : ClassId) : (um_L[64]?).map (um_cell (lw_ad a1 a2 t) cA um_s0 64) = (lw_wm a2 cA)[26]? := rfl
theorem lw_e65 (a1 a2 : Nat → Nat) (t : Nat) (cA : ClassId) : (um_L[65]?).map (um_cell (lw_ad a1 a2 t) cA um_s0 65) = (lw_wm a2 cA)[27]? := rfl
theorem lw_e66 (a1 a2 : Nat → Nat) (t : Nat) (cA : ClassId) : (um_L[66]?).map (um_cell (lw_ad a1 a2 t) cA um_s0 66) = (lw_wm a2 cA)[28]? := rfl
theorem lw_e67 (a1 a2 : Nat → Nat) (t : Nat) (cA : ClassId) : (um_L[67]?).map (um_cell (lw_ad a1 a2 t) cA um_s0 67) = (lw_wm a2 cA)[29]? := rfl
theorem lw_e68 (a1 a2 : Nat → Nat) (t : Nat) (cA : ClassId) : (um_L[68]?).map (um_cell (lw_ad a1 a2 t) cA um_s0 68) = (lw_wm a2 cA)[30]? := rfl
theorem lw_e69 (a1 a2 : Nat → Nat) (t : Nat) (cA : ClassId) : (um_L[69]?).map (um_cell (lw_ad a1 a2 t) cA um_s0 69) = (lw_wm a2 cA)[31]? := rfl
theorem lw_e70 (a1 a2 : Nat → Nat) (t : Nat) (cA : ClassId) : (um_L[70]?).map (um_cell (lw_ad a1 a2 t) cA um_s0 70) = (lw_wm a2 cA)[32]? := rfl
theorem lw_e71 (a1 a2 : Nat → Nat) (t : Nat) (cA : ClassId) : (um_L[71]?).map (um_cell (lw_ad a1 a2 t) cA um_s0 71) = (lw_wm a2 cA)[33]? := rfl
theorem lw_e72 (a1 a2 : Nat → Nat) (t : Nat) (cA : ClassId) : (um_L[72]?).map (um_cell (lw_ad a1 a2 t) cA um_s0 72) = (lw_wm a2 cA)[34]? := rfl
theorem lw_e73 (a1 a2 : Nat → Nat) (t : Nat) (cA : ClassId) : (um_L[73]?).map (um_cell (lw_ad a1 a2 t) cA um_s0 73) = (lw_wm a2 cA)[35]? := rfl
theorem lw_e74 (a1 a2 : Nat → Nat) (t : Nat) (cA : ClassId) : (um_L[74]?).map (um_cell (lw_ad a1 a2 t) cA um_s0 74) = (lw_wm a2 cA)[36]? := rfl
theorem lw_e75 (a1 a2 : Nat → Nat) (t : Nat) (cA : ClassId) : (um_L[75]?).map (um_cell (lw_ad a1 a2 t) cA um_s0 75) = (lw_wm a2 cA)[37]? := rfl
theorem lw_wul (a1 : Nat → Nat) (cA : ClassId) : (lw_wu a1 cA).length = 38 := rfl
theorem lw_wml (a2 : Nat → Nat) (cA : ClassId) : (lw_wm a2 cA).length = 38 := rfl
theorem lw_umLl : um_L.length = 76 := rfl
theorem lw_in1 {a1 a2 : Nat → Nat} {cA : ClassId} {x : Nat × va_E} {i : Nat} (h : i < 38) : (lw_wall a1 a2 cA ++ [x])[i]? = (lw_wu a1 cA)[i]? := by
  rw [lw_wall, List.append_assoc, List.getElem?_append_left (by rw [lw_wul]; exact h)]
theorem lw_in2 {a1 a2 : Nat → Nat} {cA : ClassId} {x : Nat × va_E} {i : Nat} (h : i < 38) : (lw_wall a1 a2 cA ++ [x])[38 + i]? = (lw_wm a2 cA)[i]? := by
  rw [lw_wall, List.append_assoc, List.getElem?_append_right (by rw [lw_wul]; omega), lw_wul, List.getElem?_append_left (by rw [lw_wml]; omega)]
  congr 1
  omega
theorem lw_in3 {a1 a2 : Nat → Nat} {cA : ClassId} {x : Nat × va_E} : (lw_wall a1 a2 cA ++ [x])[76]? = some x := by
  rw [List.getElem?_append_right (by rw [lw_wall, List.length_append, lw_wul, lw_wml]; omega), lw_wall, List.length_append, lw_wul, lw_wml]
  rfl
theorem lw_in4 {ad : Nat → Nat} {cA : ClassId} {x : Nat × va_E} {s : um_S} {k : Nat} (h : k < 76) : (um_ws ad cA um_L s ++ [x])[k]? = (um_L[k]?).map (um_cell ad cA s k) := by
  rw [List.getElem?_append_left (by rw [um_ws, List.length_mapIdx, lw_umLl]; exact h), um_ws_at]
theorem lw_in5 {ad : Nat → Nat} {cA : ClassId} {x : Nat × va_E} {s : um_S} : (um_ws ad cA um_L s ++ [x])[76]? = some x := by
  rw [List.getElem?_append_right (by rw [um_ws, List.length_mapIdx, lw_umLl]; omega), um_ws, List.length_mapIdx, lw_umLl]
  rfl
set_option maxRecDepth 100000 in
theorem lw_places (a1 a2 : Nat → Nat) (t : Nat) (cA : ClassId) (x : Nat × va_E) : ∀ k, k < 77 → ∃ i, lw_pl[k]? = some i ∧ (um_ws (lw_ad a1 a2 t) cA um_L um_s0 ++ [x])[k]? = (lw_wall a1 a2 cA ++ [x])[i]? := by
  intro k hk
  match k, hk with
  | 0, _ => exact ⟨0, rfl, ((lw_in4 (by decide)).trans (lw_e0 a1 a2 t cA)).trans (lw_in1 (i := 0) (by decide)).symm⟩
  | 1, _ => exact ⟨1, rfl, ((lw_in4 (by decide)).trans (lw_e1 a1 a2 t cA)).trans (lw_in1 (i := 1) (by decide)).symm⟩
  | 2, _ => exact ⟨5, rfl, ((lw_in4 (by decide)).trans (lw_e2 a1 a2 t cA)).trans (lw_in1 (i := 5) (by decide)).symm⟩
  | 3, _ => exact ⟨11, rfl, ((lw_in4 (by decide)).trans (lw_e3 a1 a2 t cA)).trans (lw_in1 (i := 11) (by decide)).symm⟩
  | 4, _ => exact ⟨31, rfl, ((lw_in4 (by decide)).trans (lw_e4 a1 a2 t cA)).trans (lw_in1 (i := 31) (by decide)).symm⟩
  | 5, _ => exact ⟨12, rfl, ((lw_in4 (by decide)).trans (lw_e5 a1 a2 t cA)).trans (lw_in1 (i := 12) (by decide)).symm⟩
  | 6, _ => exact ⟨21, rfl, ((lw_in4 (by decide)).trans (lw_e6 a1 a2 t cA)).trans (lw_in1 (i := 21) (by decide)).symm⟩
  | 7, _ => exact ⟨26, rfl, ((lw_in4 (by decide)).trans (lw_e7 a1 a2 t cA)).trans (lw_in1 (i := 26) (by decide)).symm⟩
  | 8, _ => exact ⟨2, rfl, ((lw_in4 (by decide)).trans (lw_e8 a1 a2 t cA)).trans (lw_in1 (i := 2) (by decide)).symm⟩
  | 9, _ => exact ⟨3, rfl, ((lw_in4 (by decide)).trans (lw_e9 a1 a2 t cA)).trans (lw_in1 (i := 3) (by decide)).symm⟩
  | 10, _ => exact ⟨4, rfl, ((lw_in4 (by decide)).trans (lw_e10 a1 a2 t cA)).trans (lw_in1 (i := 4) (by decide)).symm⟩
  | 11, _ => exact ⟨6, rfl, ((lw_in4 (by decide)).trans (lw_e11 a1 a2 t cA)).trans (lw_in1 (i := 6) (by decide)).symm⟩
  | 12, _ => exact ⟨7, rfl, ((lw_in4 (by decide)).trans (lw_e12 a1 a2 t cA)).trans (lw_in1 (i := 7) (by decide)).symm⟩
  | 13, _ => exact ⟨8, rfl, ((lw_in4 (by decide)).trans (lw_e13 a1 a2 t cA)).trans (lw_in1 (i := 8) (by decide)).symm⟩
  | 14, _ => exact ⟨9, rfl, ((lw_in4 (by decide)).trans (lw_e14 a1 a2 t cA)).trans (lw_in1 (i := 9) (by decide)).symm⟩
  | 15, _ => exact ⟨10, rfl, ((lw_in4 (by decide)).trans (lw_e15 a1 a2 t cA)).trans (lw_in1 (i := 10) (by decide)).symm⟩
  | 16, _ => exact ⟨30, rfl, ((lw_in4 (by decide)).trans (lw_e16 a1 a2 t cA)).trans (lw_in1 (i := 30) (by decide)).symm⟩
  | 17, _ => exact ⟨32, rfl, ((lw_in4 (by decide)).trans (lw_e17 a1 a2 t cA)).trans (lw_in1 (i := 32) (by decide)).symm⟩
  | 18, _ => exact ⟨33, rfl, ((lw_in4 (by decide)).trans (lw_e18 a1 a2 t cA)).trans (lw_in1 (i := 33) (by decide)).symm⟩
  | 19, _ => exact ⟨34, rfl, ((lw_in4 (by decide)).trans (lw_e19 a1 a2 t cA)).trans (lw_in1 (i := 34) (by decide)).symm⟩
  | 20, _ => exact ⟨35, rfl, ((lw_in4 (by decide)).trans (lw_e20 a1 a2 t cA)).trans (lw_in1 (i := 35) (by decide)).symm⟩
  | 21, _ => exact ⟨36, rfl, ((lw_in4 (by decide)).trans (lw_e21 a1 a2 t cA)).trans (lw_in1 (i := 36) (by decide)).symm⟩
  | 22, _ => exact ⟨37, rfl, ((lw_in4 (by decide)).trans (lw_e22 a1 a2 t cA)).trans (lw_in1 (i := 37) (by decide)).symm⟩
  | 23, _ => exact ⟨13, rfl, ((lw_in4 (by decide)).trans (lw_e23 a1 a2 t cA)).trans (lw_in1 (i := 13) (by decide)).symm⟩
  | 24, _ => exact ⟨14, rfl, ((lw_in4 (by decide)).trans (lw_e24 a1 a2 t cA)).trans (lw_in1 (i := 14) (by decide)).symm⟩
  | 25, _ => exact ⟨15, rfl, ((lw_in4 (by decide)).trans (lw_e25 a1 a2 t cA)).trans (lw_in1 (i := 15) (by decide)).symm⟩
  | 26, _ => exact ⟨16, rfl, ((lw_in4 (by decide)).trans (lw_e26 a1 a2 t cA)).trans (lw_in1 (i := 16) (by decide)).symm⟩
  | 27, _ => exact ⟨17, rfl, ((lw_in4 (by decide)).trans (lw_e27 a1 a2 t cA)).trans (lw_in1 (i := 17) (by decide)).symm⟩
  | 28, _ => exact ⟨18, rfl, ((lw_in4 (by decide)).trans (lw_e28 a1 a2 t cA)).trans (lw_in1 (i := 18) (by decide)).symm⟩
  | 29, _ => exact ⟨19, rfl, ((lw_in4 (by decide)).trans (lw_e29 a1 a2 t cA)).trans (lw_in1 (i := 19) (by decide)).symm⟩
  | 30, _ => exact ⟨20, rfl, ((lw_in4 (by decide)).trans (lw_e30 a1 a2 t cA)).trans (lw_in1 (i := 20) (by decide)).symm⟩
  | 31, _ => exact ⟨22, rfl, ((lw_in4 (by decide)).trans (lw_e31 a1 a2 t cA)).trans (lw_in1 (i := 22) (by decide)).symm⟩
  | 32, _ => exact ⟨23, rfl, ((lw_in4 (by decide)).trans (lw_e32 a1 a2 t cA)).trans (lw_in1 (i := 23) (by decide)).symm⟩
  | 33, _ => exact ⟨24, rfl, ((lw_in4 (by decide)).trans (lw_e33 a1 a2 t cA)).trans (lw_in1 (i := 24) (by decide)).symm⟩
  | 34, _ => exact ⟨25, rfl, ((lw_in4 (by decide)).trans (lw_e34 a1 a2 t cA)).trans (lw_in1 (i := 25) (by decide)).symm⟩
  | 35, _ => exact ⟨27, rfl, ((lw_in4 (by decide)).trans (lw_e35 a1 a2 t cA)).trans (lw_in1 (i := 27) (by decide)).symm⟩
  | 36, _ => exact ⟨28, rfl, ((lw_in4 (by decide)).trans (lw_e36 a1 a2 t cA)).trans (lw_in1 (i := 28) (by decide)).symm⟩
  | 37, _ => exact ⟨29, rfl, ((lw_in4 (by decide)).trans (lw_e37 a1 a2 t cA)).trans (lw_in1 (i := 29) (by decide)).symm⟩
  | 38, _ => exact ⟨38, rfl, ((lw_in4 (by decide)).trans (lw_e38 a1 a2 t cA)).trans (lw_in2 (i := 0) (by decide)).symm⟩
  | 39, _ => exact ⟨39, rfl, ((lw_in4 (by decide)).trans (lw_e39 a1 a2 t cA)).trans (lw_in2 (i := 1) (by decide)).symm⟩
  | 40, _ => exact ⟨40, rfl, ((lw_in4 (by decide)).trans (lw_e40 a1 a2 t cA)).trans (lw_in2 (i := 2) (by decide)).symm⟩
  | 41, _ => exact ⟨41, rfl, ((lw_in4 (by decide)).trans (lw_e41 a1 a2 t cA)).trans (lw_in2 (i := 3) (by decide)).symm⟩
  | 42, _ => exact ⟨42, rfl, ((lw_in4 (by decide)).trans (lw_e42 a1 a2 t cA)).trans (lw_in2 (i := 4) (by decide)).symm⟩
  | 43, _ => exact ⟨43, rfl, ((lw_in4 (by decide)).trans (lw_e43 a1 a2 t cA)).trans (lw_in2 (i := 5) (by decide)).symm⟩
  | 44, _ => exact ⟨44, rfl, ((lw_in4 (by decide)).trans (lw_e44 a1 a2 t cA)).trans (lw_in2 (i := 6) (by decide)).symm⟩
  | 45, _ => exact ⟨45, rfl, ((lw_in4 (by decide)).trans (lw_e45 a1 a2 t cA)).trans (lw_in2 (i := 7) (by decide)).symm⟩
  | 46, _ => exact ⟨46, rfl, ((lw_in4 (by decide)).trans (lw_e46 a1 a2 t cA)).trans (lw_in2 (i := 8) (by decide)).symm⟩
  | 47, _ => exact ⟨47, rfl, ((lw_in4 (by decide)).trans (lw_e47 a1 a2 t cA)).trans (lw_in2 (i := 9) (by decide)).symm⟩
  | 48, _ => exact ⟨48, rfl, ((lw_in4 (by decide)).trans (lw_e48 a1 a2 t cA)).trans (lw_in2 (i := 10) (by decide)).symm⟩
  | 49, _ => exact ⟨49, rfl, ((lw_in4 (by decide)).trans (lw_e49 a1 a2 t cA)).trans (lw_in2 (i := 11) (by decide)).symm⟩
  | 50, _ => exact ⟨50, rfl, ((lw_in4 (by decide)).trans (lw_e50 a1 a2 t cA)).trans (lw_in2 (i := 12) (by decide)).symm⟩
  | 51, _ => exact ⟨51, rfl, ((lw_in4 (by decide)).trans (lw_e51 a1 a2 t cA)).trans (lw_in2 (i := 13) (by decide)).symm⟩
  | 52, _ => exact ⟨52, rfl, ((lw_in4 (by decide)).trans (lw_e52 a1 a2 t cA)).trans (lw_in2 (i := 14) (by decide)).symm⟩
  | 53, _ => exact ⟨53, rfl, ((lw_in4 (by decide)).trans (lw_e53 a1 a2 t cA)).trans (lw_in2 (i := 15) (by decide)).symm⟩
  | 54, _ => exact ⟨54, rfl, ((lw_in4 (by decide)).trans (lw_e54 a1 a2 t cA)).trans (lw_in2 (i := 16) (by decide)).symm⟩
  | 55, _ => exact ⟨55, rfl, ((lw_in4 (by decide)).trans (lw_e55 a1 a2 t cA)).trans (lw_in2 (i := 17) (by decide)).symm⟩
  | 56, _ => exact ⟨56, rfl, ((lw_in4 (by decide)).trans (lw_e56 a1 a2 t cA)).trans (lw_in2 (i := 18) (by decide)).symm⟩
  | 57, _ => exact ⟨57, rfl, ((lw_in4 (by decide)).trans (lw_e57 a1 a2 t cA)).trans (lw_in2 (i := 19) (by decide)).symm⟩
  | 58, _ => exact ⟨58, rfl, ((lw_in4 (by decide)).trans (lw_e58 a1 a2 t cA)).trans (lw_in2 (i := 20) (by decide)).symm⟩
  | 59, _ => exact ⟨59, rfl, ((lw_in4 (by decide)).trans (lw_e59 a1 a2 t cA)).trans (lw_in2 (i := 21) (by decide)).symm⟩
  | 60, _ => exact ⟨60, rfl, ((lw_in4 (by decide)).trans (lw_e60 a1 a2 t cA)).trans (lw_in2 (i := 22) (by decide)).symm⟩
  | 61, _ => exact ⟨61, rfl, ((lw_in4 (by decide)).trans (lw_e61 a1 a2 t cA)).trans (lw_in2 (i := 23) (by decide)).symm⟩
  | 62, _ => exact ⟨62, rfl, ((lw_in4 (by decide)).trans (lw_e62 a1 a2 t cA)).trans (lw_in2 (i := 24) (by decide)).symm⟩
  | 63, _ => exact ⟨63, rfl, ((lw_in4 (by decide)).trans (lw_e63 a1 a2 t cA)).trans (lw_in2 (i := 25) (by decide)).symm⟩
  | 64, _ => exact ⟨64, rfl, ((lw_in4 (by decide)).trans (lw_e64 a1 a2 t cA)).trans (lw_in2 (i := 26) (by decide)).symm⟩
  | 65, _ => exact ⟨65, rfl, ((lw_in4 (by decide)).trans (lw_e65 a1 a2 t cA)).trans (lw_in2 (i := 27) (by decide)).symm⟩
  | 66, _ => exact ⟨66, rfl, ((lw_in4 (by decide)).trans (lw_e66 a1 a2 t cA)).trans (lw_in2 (i := 28) (by decide)).symm⟩
  | 67, _ => exact ⟨67, rfl, ((lw_in4 (by decide)).trans (lw_e67 a1 a2 t cA)).trans (lw_in2 (i := 29) (by decide)).symm⟩
  | 68, _ => exact ⟨68, rfl, ((lw_in4 (by decide)).trans (lw_e68 a1 a2 t cA)).trans (lw_in2 (i := 30) (by decide)).symm⟩
  | 69, _ => exact ⟨69, rfl, ((lw_in4 (by decide)).trans (lw_e69 a1 a2 t cA)).trans (lw_in2 (i := 31) (by decide)).symm⟩
  | 70, _ => exact ⟨70, rfl, ((lw_in4 (by decide)).trans (lw_e70 a1 a2 t cA)).trans (lw_in2 (i := 32) (by decide)).symm⟩
  | 71, _ => exact ⟨71, rfl, ((lw_in4 (by decide)).trans (lw_e71 a1 a2 t cA)).trans (lw_in2 (i := 33) (by decide)).symm⟩
  | 72, _ => exact ⟨72, rfl, ((lw_in4 (by decide)).trans (lw_e72 a1 a2 t cA)).trans (lw_in2 (i := 34) (by decide)).symm⟩
  | 73, _ => exact ⟨73, rfl, ((lw_in4 (by decide)).trans (lw_e73 a1 a2 t cA)).trans (lw_in2 (i := 35) (by decide)).symm⟩
  | 74, _ => exact ⟨74, rfl, ((lw_in4 (by decide)).trans (lw_e74 a1 a2 t cA)).trans (lw_in2 (i := 36) (by decide)).symm⟩
  | 75, _ => exact ⟨75, rfl, ((lw_in4 (by decide)).trans (lw_e75 a1 a2 t cA)).trans (lw_in2 (i := 37) (by decide)).symm⟩
  | 76, _ => exact ⟨76, rfl, lw_in5.trans lw_in3.symm⟩
  | n + 77, h => exact absurd h (by omega)
theorem lw_len {ad : Nat → Nat} {cA : ClassId} {x : Nat × va_E} {s : um_S} : (um_ws ad cA um_L s ++ [x]).length = 77 := by
  rw [List.length_append, um_ws, List.length_mapIdx, lw_umLl]
  rfl
theorem lw_permP {D : va_G} {a1 a2 : Nat → Nat} {t : Nat} {cA : ClassId} {x : Nat × va_E} {H : Heap} (h : va_P D um_cl (lw_wall a1 a2 cA ++ [x]) H) : va_P D um_cl (um_ws (lw_ad a1 a2 t) cA um_L um_s0 ++ [x]) H := by
  intro k q hk
  have hlt : k < 77 := by
    have := (List.getElem?_eq_some_iff.mp hk).1
    rwa [lw_len] at this
  obtain ⟨i, -, hi⟩ := lw_places a1 a2 t cA x k hlt
  exact h i q (hi.symm.trans hk)
theorem lw_permD {A : Nat → Prop} {a1 a2 : Nat → Nat} {t : Nat} {cA : ClassId} {x : Nat × va_E} (h : va_D A (lw_wall a1 a2 cA ++ [x])) : va_D A (um_ws (lw_ad a1 a2 t) cA um_L um_s0 ++ [x]) := by
  have key : ∀ (k : Nat) (q : Nat × va_E), (um_ws (lw_ad a1 a2 t) cA um_L um_s0 ++ [x])[k]? = some q → ∃ i, lw_pl[k]? = some i ∧ (lw_wall a1 a2 cA ++ [x])[i]? = some q := by
    intro k q hk
    have hlt : k < 77 := by
      have := (List.getElem?_eq_some_iff.mp hk).1
      rwa [lw_len] at this
    obtain ⟨i, hp, hi⟩ := lw_places a1 a2 t cA x k hlt
    exact ⟨i, hp, hi.symm.trans hk⟩
  refine ⟨fun i j y z hi hj he => ?_, fun k q hk => ?_⟩
  · obtain ⟨i1, h1, h2⟩ := key i y hi
    obtain ⟨j1, h3, h4⟩ := key j z hj
    have := h.1 i1 j1 y z h2 h4 he
    subst this
    exact va_nd_inj lw_pl (by decide +kernel) i j i1 h1 h3
  · obtain ⟨i1, h1, h2⟩ := key k q hk
    exact h.2 i1 q h2
set_option maxHeartbeats 8000000 in
set_option maxRecDepth 100000 in
theorem lw_start {p : Program} {e : Env} {s : State} {m : MethodId} {below : List Frame} {meth : Method} {c : Code} (l : Launch) {b L : Nat} {xs : Nat → Int32} (hL : L ≤ 6) (C0 : lw_At p s m meth c b L xs)
    (hlay : ∀ (j : Nat) (u v : um_S), 6 * j + 6 ≤ L → (j = 0 → u = um_s0 ∧ v = um_s0) → um_G u v → ∀ e : Bool, um_alike Int32 (wp_UM_lay e) (wp_Mo_lay e) u v)
    (h5 : ∀ (D : va_G) (ad : Nat → Nat) (cA cL : ClassId) (qo : Nat), va_K D um_cl [(cA, .int), (cL, .long)] s → um_st um_SX ad (fun x => s.heap.size ≤ x) s s.heap → ca_nw s → lw_open 353 p l e s m #[Value.ref b] below meth c (lw_Z below #[Value.ref b] s) D ad cA cL b L qo)
    (h7 : ∀ (D : va_G) (ad : Nat → Nat) (cA cL : ClassId) (qo : Nat), va_K D um_cl [(cA, .int), (cL, .long)] s → um_st um_SX ad (fun x => s.heap.size ≤ x) s s.heap → ca_nw s → lw_open 446 p l e s m #[Value.ref b] below meth c (lw_Z below #[Value.ref b] s) D ad cA cL b L qo) :
    W p l e room_1 s m #[Value.ref b] below meth c s.heap [] 0 0 (lw_Z below #[Value.ref b] s) (entryFrame m ([Value.ref b] : List Value).toArray 7) := by
  obtain ⟨hx, hb, hr, hml, hown, hts, hX, hbl, hlocks, hgv⟩ := C0
  have hown : s.vm.findClass R_Lw = some m.cls := hown
  have hok : ∀ w ∈ um_AW, w.before #[Value.ref b] s = true := fun w hw => hts w (lw_sub w hw)
  obtain ⟨D, cA, hK⟩ := lw_known hts
  have hNw := lw_nw hts
  obtain ⟨tS, hZ, hT⟩ := lw_stat hts hgv
  have hA : ∀ q : Nat, s.heap.size ≤ q → (fun x => s.heap.size ≤ x) q := fun q h => h
  have hS : va_S (fun x => s.heap.size ≤ x) s.heap s.heap [] := va_S.rf
  have hP : va_P D um_cl [] s.heap := fun k q hk => by simp at hk
  have hD : va_D (fun x => s.heap.size ≤ x) [] := ⟨fun i j x y hi => by simp at hi, fun k q hk => by simp at hk⟩
  have hl := lv_entry ([.ref b]) (n := 7) (Nat.le_of_ble_eq_true rfl)
  rw [lg_entry_eq]
  generalize (lg_sl ([.ref b]) ++ List.replicate (7 - (lg_sl ([.ref b])).length) Slot.unset).toArray = ls at hl ⊢
  have hl : lv_has ls 7 [(0, .ref b)] := hl
  have hGU : GoodIn lw_tbl (um_wd um_AW M_UM_init) := lw_good wc_UM_init
  have hGM : GoodIn lw_tbl (um_wd um_AW M_Mo_init) := lw_good wc_Mo_init
  refine va_new (ci := 0) (fs := [.null, .null, .null, .null]) (C := R_UM) (T := F_UM) (N := 4) hx hb hts (lw_u (n := 0) cl_UM) t_UM t_UM_ok hown (hok _ wcl_Lw_8) (hok _ wt_UM) (hok _ wii_UM) hK hP hD hS hA rfl (fun j hj => by revert j; decide +kernel) (Nat.le_of_ble_eq_true rfl) (Nat.le_of_ble_eq_true rfl) d_law_0 (fun q0 H hP hD hS => ?_)
  have hP : va_P D um_cl [(q0, .inr (0, [.null, .null, .null, .null]))] H := hP
  have hD : va_D (fun x => s.heap.size ≤ x) [(q0, .inr (0, [.null, .null, .null, .null]))] := hD
  refine W.widen (k := 1) (n := 4) (Nat.le_of_ble_eq_true rfl) (Nat.le_of_ble_eq_true rfl) ?_
  refine lv_dup hx hb d_law_3 rfl ?_
  have hPc := hP.sub (ws' := [(q0, .inr (0, [.null, .null, .null, .null]))]) [0] rfl
  have hDc := hD.sub (ws' := [(q0, .inr (0, [.null, .null, .null, .null]))]) [0] (by decide) rfl
  have hFc := va_free (wc := [(q0, .inr (0, [.null, .null, .null, .null]))]) hD hS hA [0] rfl
  refine va_callv (va_runI (As := []) (rest := [.ref q0]) ⟨hx, hb, hml, hown, hts⟩ (k_UM l D cA q0 H.size) ⟨callB_of 0 hts hGU rfl rfl rfl (hok _ wii_UM) (hok _ wli_Lw_20) ⟨by decide, by decide, by decide +kernel⟩ ⟨(Nat.le_of_ble_eq_true rfl), (Nat.le_of_ble_eq_true rfl)⟩, rfl, hok _ wn_UM_init⟩ ⟨ca_blind, fun U hU hW => ⟨rfl, by rw [hU], by rw [hU]; exact hPc, va_K.moved hW.alike hK, hDc.weaken (fun _ _ _ _ => trivial), ca_nw.warm hW hNw⟩⟩ rfl rfl hl.1 rfl (lv_room (Nat.le_of_ble_eq_true rfl)) d_law_4 ⟨(Nat.le_of_ble_eq_true rfl), (Nat.le_of_ble_eq_true rfl)⟩) hS (fun q _ h => hFc q h) hFc (fun a1 t H1 locs ht hvm hw hB hz1 hk1 hS => ?_)
  obtain ⟨hP1, hK1, hD1⟩ := hB
  rw [ht] at hP1
  obtain ⟨hPn, hDn⟩ := va_join (wr := []) (w1 := [((a1 0), .inr (0, [.ref (a1 1), .ref (a1 5), .ref (a1 11), .ref (a1 31)])), ((a1 1), .inr (1, [.ref (a1 2), .ref (a1 3), .ref (a1 4), .int 0])), ((a1 2), .inl (cA, 150, .inl (fun _ => 0))), ((a1 3), .inl (cA, 750, .inl (fun _ => 0))), ((a1 4), .inl (cA, 6, .inl (um_fill (fun _ _ => 0) 0 6 (-1) 0))), ((a1 5), .inr (2, [.ref (a1 6), .ref (a1 7), .ref (a1 8), .ref (a1 9), .ref (a1 10), .int 0, .int 0, .int 0, .int 0])), ((a1 6), .inl (cA, 1000, .inl (fun _ => 0))), ((a1 7), .inl (cA, 1000, .inl (fun _ => 0))), ((a1 8), .inl (cA, 1000, .inl (fun _ => 0))), ((a1 9), .inl (cA, 6, .inl (fun _ => 0))), ((a1 10), .inl (cA, 1500, .inl (fun _ => 0))), ((a1 11), .inr (3, [.ref (a1 1), .ref (a1 5), .ref (a1 12), .ref (a1 21), .ref (a1 26), .ref (a1 30), .int 0, .int 0, .int 0])), ((a1 12), .inr (5, [.ref (a1 13), .ref (a1 14), .ref (a1 15), .ref (a1 16), .ref (a1 17), .ref (a1 18), .ref (a1 19), .ref (a1 20), .int 0, .int 0])), ((a1 13), .inl (cA, 2001, .inl (fun _ => 0))), ((a1 14), .inl (cA, 2001, .inl (fun _ => 0))), ((a1 15), .inl (cA, 2001, .inl (fun _ => 0))), ((a1 16), .inl (cA, 2001, .inl (fun _ => 0))), ((a1 17), .inl (cA, 2001, .inl (fun _ => 0))), ((a1 18), .inl (cA, 2001, .inl (fun _ => 0))), ((a1 19), .inl (cA, 2001, .inl (fun _ => 0))), ((a1 20), .inl (cA, 2001, .inl (fun _ => 0))), ((a1 21), .inr (6, [.ref (a1 22), .ref (a1 23), .ref (a1 24), .ref (a1 25), .int 0])), ((a1 22), .inl (cA, 2001, .inl (fun _ => 0))), ((a1 23), .inl (cA, 2001, .inl (fun _ => 0))), ((a1 24), .inl (cA, 2001, .inl (fun _ => 0))), ((a1 25), .inl (cA, 2001, .inl (fun _ => 0))), ((a1 26), .inr (7, [.ref (a1 27), .ref (a1 28), .ref (a1 29), .int 0])), ((a1 27), .inl (cA, 501, .inl (fun _ => 0))), ((a1 28), .inl (cA, 501, .inl (fun _ => 0))), ((a1 29), .inl (cA, 501, .inl (fun _ => 0))), ((a1 30), .inl (cA, 2000, .inl (fun _ => 0))), ((a1 31), .inr (4, [.ref (a1 5), .ref (a1 32), .ref (a1 33), .ref (a1 34), .int 0, .ref (a1 35), .int 0, .ref (a1 36), .ref (a1 37), .int 0, .int 0])), ((a1 32), .inl (cA, 8, .inl (fun _ => 0))), ((a1 33), .inl (cA, 64, .inl (fun _ => 0))), ((a1 34), .inl (cA, 6, .inl (fun _ => 0))), ((a1 35), .inl (cA, 150, .inl (fun _ => 0))), ((a1 36), .inl (cA, 12, .inl (fun _ => 0))), ((a1 37), .inl (cA, 1800, .inl (fun _ => 0)))]) hP hD [0] [] rfl rfl (by decide +kernel) (by decide +kernel) hk1 hFc hP1 hD1
  clear hP hD hPc hDc hFc hP1 hD1 hk1
  generalize H1 = H at hPn hS ⊢
  have hw : a1 0 = q0 := hw
  clear hz1 hvm ht
  rw [← hw]
  clear hw
  have hP : va_P D um_cl [((a1 0), .inr (0, [.ref (a1 1), .ref (a1 5), .ref (a1 11), .ref (a1 31)])), ((a1 1), .inr (1, [.ref (a1 2), .ref (a1 3), .ref (a1 4), .int 0])), ((a1 2), .inl (cA, 150, .inl (fun _ => 0))), ((a1 3), .inl (cA, 750, .inl (fun _ => 0))), ((a1 4), .inl (cA, 6, .inl (um_fill (fun _ _ => 0) 0 6 (-1) 0))), ((a1 5), .inr (2, [.ref (a1 6), .ref (a1 7), .ref (a1 8), .ref (a1 9), .ref (a1 10), .int 0, .int 0, .int 0, .int 0])), ((a1 6), .inl (cA, 1000, .inl (fun _ => 0))), ((a1 7), .inl (cA, 1000, .inl (fun _ => 0))), ((a1 8), .inl (cA, 1000, .inl (fun _ => 0))), ((a1 9), .inl (cA, 6, .inl (fun _ => 0))), ((a1 10), .inl (cA, 1500, .inl (fun _ => 0))), ((a1 11), .inr (3, [.ref (a1 1), .ref (a1 5), .ref (a1 12), .ref (a1 21), .ref (a1 26), .ref (a1 30), .int 0, .int 0, .int 0])), ((a1 12), .inr (5, [.ref (a1 13), .ref (a1 14), .ref (a1 15), .ref (a1 16), .ref (a1 17), .ref (a1 18), .ref (a1 19), .ref (a1 20), .int 0, .int 0])), ((a1 13), .inl (cA, 2001, .inl (fun _ => 0))), ((a1 14), .inl (cA, 2001, .inl (fun _ => 0))), ((a1 15), .inl (cA, 2001, .inl (fun _ => 0))), ((a1 16), .inl (cA, 2001, .inl (fun _ => 0))), ((a1 17), .inl (cA, 2001, .inl (fun _ => 0))), ((a1 18), .inl (cA, 2001, .inl (fun _ => 0))), ((a1 19), .inl (cA, 2001, .inl (fun _ => 0))), ((a1 20), .inl (cA, 2001, .inl (fun _ => 0))), ((a1 21), .inr (6, [.ref (a1 22), .ref (a1 23), .ref (a1 24), .ref (a1 25), .int 0])), ((a1 22), .inl (cA, 2001, .inl (fun _ => 0))), ((a1 23), .inl (cA, 2001, .inl (fun _ => 0))), ((a1 24), .inl (cA, 2001, .inl (fun _ => 0))), ((a1 25), .inl (cA, 2001, .inl (fun _ => 0))), ((a1 26), .inr (7, [.ref (a1 27), .ref (a1 28), .ref (a1 29), .int 0])), ((a1 27), .inl (cA, 501, .inl (fun _ => 0))), ((a1 28), .inl (cA, 501, .inl (fun _ => 0))), ((a1 29), .inl (cA, 501, .inl (fun _ => 0))), ((a1 30), .inl (cA, 2000, .inl (fun _ => 0))), ((a1 31), .inr (4, [.ref (a1 5), .ref (a1 32), .ref (a1 33), .ref (a1 34), .int 0, .ref (a1 35), .int 0, .ref (a1 36), .ref (a1 37), .int 0, .int 0])), ((a1 32), .inl (cA, 8, .inl (fun _ => 0))), ((a1 33), .inl (cA, 64, .inl (fun _ => 0))), ((a1 34), .inl (cA, 6, .inl (fun _ => 0))), ((a1 35), .inl (cA, 150, .inl (fun _ => 0))), ((a1 36), .inl (cA, 12, .inl (fun _ => 0))), ((a1 37), .inl (cA, 1800, .inl (fun _ => 0)))] H := hPn
  have hD : va_D (fun x => s.heap.size ≤ x) [((a1 0), .inr (0, [.ref (a1 1), .ref (a1 5), .ref (a1 11), .ref (a1 31)])), ((a1 1), .inr (1, [.ref (a1 2), .ref (a1 3), .ref (a1 4), .int 0])), ((a1 2), .inl (cA, 150, .inl (fun _ => 0))), ((a1 3), .inl (cA, 750, .inl (fun _ => 0))), ((a1 4), .inl (cA, 6, .inl (um_fill (fun _ _ => 0) 0 6 (-1) 0))), ((a1 5), .inr (2, [.ref (a1 6), .ref (a1 7), .ref (a1 8), .ref (a1 9), .ref (a1 10), .int 0, .int 0, .int 0, .int 0])), ((a1 6), .inl (cA, 1000, .inl (fun _ => 0))), ((a1 7), .inl (cA, 1000, .inl (fun _ => 0))), ((a1 8), .inl (cA, 1000, .inl (fun _ => 0))), ((a1 9), .inl (cA, 6, .inl (fun _ => 0))), ((a1 10), .inl (cA, 1500, .inl (fun _ => 0))), ((a1 11), .inr (3, [.ref (a1 1), .ref (a1 5), .ref (a1 12), .ref (a1 21), .ref (a1 26), .ref (a1 30), .int 0, .int 0, .int 0])), ((a1 12), .inr (5, [.ref (a1 13), .ref (a1 14), .ref (a1 15), .ref (a1 16), .ref (a1 17), .ref (a1 18), .ref (a1 19), .ref (a1 20), .int 0, .int 0])), ((a1 13), .inl (cA, 2001, .inl (fun _ => 0))), ((a1 14), .inl (cA, 2001, .inl (fun _ => 0))), ((a1 15), .inl (cA, 2001, .inl (fun _ => 0))), ((a1 16), .inl (cA, 2001, .inl (fun _ => 0))), ((a1 17), .inl (cA, 2001, .inl (fun _ => 0))), ((a1 18), .inl (cA, 2001, .inl (fun _ => 0))), ((a1 19), .inl (cA, 2001, .inl (fun _ => 0))), ((a1 20), .inl (cA, 2001, .inl (fun _ => 0))), ((a1 21), .inr (6, [.ref (a1 22), .ref (a1 23), .ref (a1 24), .ref (a1 25), .int 0])), ((a1 22), .inl (cA, 2001, .inl (fun _ => 0))), ((a1 23), .inl (cA, 2001, .inl (fun _ => 0))), ((a1 24), .inl (cA, 2001, .inl (fun _ => 0))), ((a1 25), .inl (cA, 2001, .inl (fun _ => 0))), ((a1 26), .inr (7, [.ref (a1 27), .ref (a1 28), .ref (a1 29), .int 0])), ((a1 27), .inl (cA, 501, .inl (fun _ => 0))), ((a1 28), .inl (cA, 501, .inl (fun _ => 0))), ((a1 29), .inl (cA, 501, .inl (fun _ => 0))), ((a1 30), .inl (cA, 2000, .inl (fun _ => 0))), ((a1 31), .inr (4, [.ref (a1 5), .ref (a1 32), .ref (a1 33), .ref (a1 34), .int 0, .ref (a1 35), .int 0, .ref (a1 36), .ref (a1 37), .int 0, .int 0])), ((a1 32), .inl (cA, 8, .inl (fun _ => 0))), ((a1 33), .inl (cA, 64, .inl (fun _ => 0))), ((a1 34), .inl (cA, 6, .inl (fun _ => 0))), ((a1 35), .inl (cA, 150, .inl (fun _ => 0))), ((a1 36), .inl (cA, 12, .inl (fun _ => 0))), ((a1 37), .inl (cA, 1800, .inl (fun _ => 0)))] := hDn
  clear hPn hDn
  refine W.widen (k := 38) (n := 35023) (Nat.le_of_ble_eq_true rfl) (Nat.le_of_ble_eq_true rfl) ?_
  refine lv_astore_n (lv' := [(1, .ref (a1 0)), (0, .ref b)]) hx hb d_law_7 rfl hl (Nat.le_of_ble_eq_true rfl) rfl (fun ls hl => ?_)
  refine va_new (ci := 8) (fs := [.int 0, .int 0, .null, .null, .null, .null, .null, .null, .null, .int 0, .int 0, .null, .null, .null, .int 0, .null, .null, .null, .null, .null, .int 0, .int 0, .null, .int 0, .null, .null, .null, .null, .null, .null, .int 0, .null, .int 0, .null, .int 0, .int 0, .int 0, .int 0, .null, .null, .null, .null, .null, .null, .null, .null, .int 0, .int 0, .int 0, .int 0, .null, .int 0, .int 0, .int 0, .null, .null, .null, .null]) (C := R_Mo) (T := F_Mo) (N := 58) hx hb hts (lw_u (n := 0) cl_Mo) t_Mo t_Mo_ok hown (hok _ wcl_Lw_21) (hok _ wt_Mo) (hok _ wii_Mo) hK hP hD hS hA rfl (fun j hj => by revert j; decide +kernel) (Nat.le_of_ble_eq_true rfl) (Nat.le_of_ble_eq_true rfl) d_law_8 (fun q8 H hP hD hS => ?_)
  have hP : va_P D um_cl [((a1 0), .inr (0, [.ref (a1 1), .ref (a1 5), .ref (a1 11), .ref (a1 31)])), ((a1 1), .inr (1, [.ref (a1 2), .ref (a1 3), .ref (a1 4), .int 0])), ((a1 2), .inl (cA, 150, .inl (fun _ => 0))), ((a1 3), .inl (cA, 750, .inl (fun _ => 0))), ((a1 4), .inl (cA, 6, .inl (um_fill (fun _ _ => 0) 0 6 (-1) 0))), ((a1 5), .inr (2, [.ref (a1 6), .ref (a1 7), .ref (a1 8), .ref (a1 9), .ref (a1 10), .int 0, .int 0, .int 0, .int 0])), ((a1 6), .inl (cA, 1000, .inl (fun _ => 0))), ((a1 7), .inl (cA, 1000, .inl (fun _ => 0))), ((a1 8), .inl (cA, 1000, .inl (fun _ => 0))), ((a1 9), .inl (cA, 6, .inl (fun _ => 0))), ((a1 10), .inl (cA, 1500, .inl (fun _ => 0))), ((a1 11), .inr (3, [.ref (a1 1), .ref (a1 5), .ref (a1 12), .ref (a1 21), .ref (a1 26), .ref (a1 30), .int 0, .int 0, .int 0])), ((a1 12), .inr (5, [.ref (a1 13), .ref (a1 14), .ref (a1 15), .ref (a1 16), .ref (a1 17), .ref (a1 18), .ref (a1 19), .ref (a1 20), .int 0, .int 0])), ((a1 13), .inl (cA, 2001, .inl (fun _ => 0))), ((a1 14), .inl (cA, 2001, .inl (fun _ => 0))), ((a1 15), .inl (cA, 2001, .inl (fun _ => 0))), ((a1 16), .inl (cA, 2001, .inl (fun _ => 0))), ((a1 17), .inl (cA, 2001, .inl (fun _ => 0))), ((a1 18), .inl (cA, 2001, .inl (fun _ => 0))), ((a1 19), .inl (cA, 2001, .inl (fun _ => 0))), ((a1 20), .inl (cA, 2001, .inl (fun _ => 0))), ((a1 21), .inr (6, [.ref (a1 22), .ref (a1 23), .ref (a1 24), .ref (a1 25), .int 0])), ((a1 22), .inl (cA, 2001, .inl (fun _ => 0))), ((a1 23), .inl (cA, 2001, .inl (fun _ => 0))), ((a1 24), .inl (cA, 2001, .inl (fun _ => 0))), ((a1 25), .inl (cA, 2001, .inl (fun _ => 0))), ((a1 26), .inr (7, [.ref (a1 27), .ref (a1 28), .ref (a1 29), .int 0])), ((a1 27), .inl (cA, 501, .inl (fun _ => 0))), ((a1 28), .inl (cA, 501, .inl (fun _ => 0))), ((a1 29), .inl (cA, 501, .inl (fun _ => 0))), ((a1 30), .inl (cA, 2000, .inl (fun _ => 0))), ((a1 31), .inr (4, [.ref (a1 5), .ref (a1 32), .ref (a1 33), .ref (a1 34), .int 0, .ref (a1 35), .int 0, .ref (a1 36), .ref (a1 37), .int 0, .int 0])), ((a1 32), .inl (cA, 8, .inl (fun _ => 0))), ((a1 33), .inl (cA, 64, .inl (fun _ => 0))), ((a1 34), .inl (cA, 6, .inl (fun _ => 0))), ((a1 35), .inl (cA, 150, .inl (fun _ => 0))), ((a1 36), .inl (cA, 12, .inl (fun _ => 0))), ((a1 37), .inl (cA, 1800, .inl (fun _ => 0))), (q8, .inr (8, [.int 0, .int 0, .null, .null, .null, .null, .null, .null, .null, .int 0, .int 0, .null, .null, .null, .int 0, .null, .null, .null, .null, .null, .int 0, .int 0, .null, .int 0, .null, .null, .null, .null, .null, .null, .int 0, .null, .int 0, .null, .int 0, .int 0, .int 0, .int 0, .null, .null, .null, .null, .null, .null, .null, .null, .int 0, .int 0, .int 0, .int 0, .null, .int 0, .int 0, .int 0, .null, .null, .null, .null]))] H := hP
  have hD : va_D (fun x => s.heap.size ≤ x) [((a1 0), .inr (0, [.ref (a1 1), .ref (a1 5), .ref (a1 11), .ref (a1 31)])), ((a1 1), .inr (1, [.ref (a1 2), .ref (a1 3), .ref (a1 4), .int 0])), ((a1 2), .inl (cA, 150, .inl (fun _ => 0))), ((a1 3), .inl (cA, 750, .inl (fun _ => 0))), ((a1 4), .inl (cA, 6, .inl (um_fill (fun _ _ => 0) 0 6 (-1) 0))), ((a1 5), .inr (2, [.ref (a1 6), .ref (a1 7), .ref (a1 8), .ref (a1 9), .ref (a1 10), .int 0, .int 0, .int 0, .int 0])), ((a1 6), .inl (cA, 1000, .inl (fun _ => 0))), ((a1 7), .inl (cA, 1000, .inl (fun _ => 0))), ((a1 8), .inl (cA, 1000, .inl (fun _ => 0))), ((a1 9), .inl (cA, 6, .inl (fun _ => 0))), ((a1 10), .inl (cA, 1500, .inl (fun _ => 0))), ((a1 11), .inr (3, [.ref (a1 1), .ref (a1 5), .ref (a1 12), .ref (a1 21), .ref (a1 26), .ref (a1 30), .int 0, .int 0, .int 0])), ((a1 12), .inr (5, [.ref (a1 13), .ref (a1 14), .ref (a1 15), .ref (a1 16), .ref (a1 17), .ref (a1 18), .ref (a1 19), .ref (a1 20), .int 0, .int 0])), ((a1 13), .inl (cA, 2001, .inl (fun _ => 0))), ((a1 14), .inl (cA, 2001, .inl (fun _ => 0))), ((a1 15), .inl (cA, 2001, .inl (fun _ => 0))), ((a1 16), .inl (cA, 2001, .inl (fun _ => 0))), ((a1 17), .inl (cA, 2001, .inl (fun _ => 0))), ((a1 18), .inl (cA, 2001, .inl (fun _ => 0))), ((a1 19), .inl (cA, 2001, .inl (fun _ => 0))), ((a1 20), .inl (cA, 2001, .inl (fun _ => 0))), ((a1 21), .inr (6, [.ref (a1 22), .ref (a1 23), .ref (a1 24), .ref (a1 25), .int 0])), ((a1 22), .inl (cA, 2001, .inl (fun _ => 0))), ((a1 23), .inl (cA, 2001, .inl (fun _ => 0))), ((a1 24), .inl (cA, 2001, .inl (fun _ => 0))), ((a1 25), .inl (cA, 2001, .inl (fun _ => 0))), ((a1 26), .inr (7, [.ref (a1 27), .ref (a1 28), .ref (a1 29), .int 0])), ((a1 27), .inl (cA, 501, .inl (fun _ => 0))), ((a1 28), .inl (cA, 501, .inl (fun _ => 0))), ((a1 29), .inl (cA, 501, .inl (fun _ => 0))), ((a1 30), .inl (cA, 2000, .inl (fun _ => 0))), ((a1 31), .inr (4, [.ref (a1 5), .ref (a1 32), .ref (a1 33), .ref (a1 34), .int 0, .ref (a1 35), .int 0, .ref (a1 36), .ref (a1 37), .int 0, .int 0])), ((a1 32), .inl (cA, 8, .inl (fun _ => 0))), ((a1 33), .inl (cA, 64, .inl (fun _ => 0))), ((a1 34), .inl (cA, 6, .inl (fun _ => 0))), ((a1 35), .inl (cA, 150, .inl (fun _ => 0))), ((a1 36), .inl (cA, 12, .inl (fun _ => 0))), ((a1 37), .inl (cA, 1800, .inl (fun _ => 0))), (q8, .inr (8, [.int 0, .int 0, .null, .null, .null, .null, .null, .null, .null, .int 0, .int 0, .null, .null, .null, .int 0, .null, .null, .null, .null, .null, .int 0, .int 0, .null, .int 0, .null, .null, .null, .null, .null, .null, .int 0, .null, .int 0, .null, .int 0, .int 0, .int 0, .int 0, .null, .null, .null, .null, .null, .null, .null, .null, .int 0, .int 0, .int 0, .int 0, .null, .int 0, .int 0, .int 0, .null, .null, .null, .null]))] := hD
  refine W.widen (k := 39) (n := 35081) (Nat.le_of_ble_eq_true rfl) (Nat.le_of_ble_eq_true rfl) ?_
  refine lv_dup hx hb d_law_11 rfl ?_
  have hPc := hP.sub (ws' := [(q8, .inr (8, [.int 0, .int 0, .null, .null, .null, .null, .null, .null, .null, .int 0, .int 0, .null, .null, .null, .int 0, .null, .null, .null, .null, .null, .int 0, .int 0, .null, .int 0, .null, .null, .null, .null, .null, .null, .int 0, .null, .int 0, .null, .int 0, .int 0, .int 0, .int 0, .null, .null, .null, .null, .null, .null, .null, .null, .int 0, .int 0, .int 0, .int 0, .null, .int 0, .int 0, .int 0, .null, .null, .null, .null]))]) [38] rfl
  have hDc := hD.sub (ws' := [(q8, .inr (8, [.int 0, .int 0, .null, .null, .null, .null, .null, .null, .null, .int 0, .int 0, .null, .null, .null, .int 0, .null, .null, .null, .null, .null, .int 0, .int 0, .null, .int 0, .null, .null, .null, .null, .null, .null, .int 0, .null, .int 0, .null, .int 0, .int 0, .int 0, .int 0, .null, .null, .null, .null, .null, .null, .null, .null, .int 0, .int 0, .int 0, .int 0, .null, .int 0, .int 0, .int 0, .null, .null, .null, .null]))]) [38] (by decide) rfl
  have hFc := va_free (wc := [(q8, .inr (8, [.int 0, .int 0, .null, .null, .null, .null, .null, .null, .null, .int 0, .int 0, .null, .null, .null, .int 0, .null, .null, .null, .null, .null, .int 0, .int 0, .null, .int 0, .null, .null, .null, .null, .null, .null, .int 0, .null, .int 0, .null, .int 0, .int 0, .int 0, .int 0, .null, .null, .null, .null, .null, .null, .null, .null, .int 0, .int 0, .int 0, .int 0, .null, .int 0, .int 0, .int 0, .null, .null, .null, .null]))]) hD hS hA [38] rfl
  refine va_callv (va_runI (As := []) (rest := [.ref q8]) ⟨hx, hb, hml, hown, hts⟩ (k_Mo l D cA q8 H.size) ⟨callB_of 0 hts hGM rfl rfl rfl (hok _ wii_Mo) (hok _ wli_Lw_23) ⟨by decide, by decide, by decide +kernel⟩ ⟨(Nat.le_of_ble_eq_true rfl), (Nat.le_of_ble_eq_true rfl)⟩, rfl, hok _ wn_Mo_init⟩ ⟨ca_blind, fun U hU hW => ⟨rfl, by rw [hU], by rw [hU]; exact hPc, va_K.moved hW.alike hK, hDc.weaken (fun _ _ _ _ => trivial), ca_nw.warm hW hNw⟩⟩ rfl rfl hl.1 rfl (lv_room (Nat.le_of_ble_eq_true rfl)) d_law_12 ⟨(Nat.le_of_ble_eq_true rfl), (Nat.le_of_ble_eq_true rfl)⟩) hS (fun q _ h => hFc q h) hFc (fun a2 t H1 locs ht hvm hw hB hz1 hk1 hS => ?_)
  obtain ⟨hP1, hK1, hD1⟩ := hB
  rw [ht] at hP1
  obtain ⟨hPn, hDn⟩ := va_join (wr := [((a1 0), .inr (0, [.ref (a1 1), .ref (a1 5), .ref (a1 11), .ref (a1 31)])), ((a1 1), .inr (1, [.ref (a1 2), .ref (a1 3), .ref (a1 4), .int 0])), ((a1 2), .inl (cA, 150, .inl (fun _ => 0))), ((a1 3), .inl (cA, 750, .inl (fun _ => 0))), ((a1 4), .inl (cA, 6, .inl (um_fill (fun _ _ => 0) 0 6 (-1) 0))), ((a1 5), .inr (2, [.ref (a1 6), .ref (a1 7), .ref (a1 8), .ref (a1 9), .ref (a1 10), .int 0, .int 0, .int 0, .int 0])), ((a1 6), .inl (cA, 1000, .inl (fun _ => 0))), ((a1 7), .inl (cA, 1000, .inl (fun _ => 0))), ((a1 8), .inl (cA, 1000, .inl (fun _ => 0))), ((a1 9), .inl (cA, 6, .inl (fun _ => 0))), ((a1 10), .inl (cA, 1500, .inl (fun _ => 0))), ((a1 11), .inr (3, [.ref (a1 1), .ref (a1 5), .ref (a1 12), .ref (a1 21), .ref (a1 26), .ref (a1 30), .int 0, .int 0, .int 0])), ((a1 12), .inr (5, [.ref (a1 13), .ref (a1 14), .ref (a1 15), .ref (a1 16), .ref (a1 17), .ref (a1 18), .ref (a1 19), .ref (a1 20), .int 0, .int 0])), ((a1 13), .inl (cA, 2001, .inl (fun _ => 0))), ((a1 14), .inl (cA, 2001, .inl (fun _ => 0))), ((a1 15), .inl (cA, 2001, .inl (fun _ => 0))), ((a1 16), .inl (cA, 2001, .inl (fun _ => 0))), ((a1 17), .inl (cA, 2001, .inl (fun _ => 0))), ((a1 18), .inl (cA, 2001, .inl (fun _ => 0))), ((a1 19), .inl (cA, 2001, .inl (fun _ => 0))), ((a1 20), .inl (cA, 2001, .inl (fun _ => 0))), ((a1 21), .inr (6, [.ref (a1 22), .ref (a1 23), .ref (a1 24), .ref (a1 25), .int 0])), ((a1 22), .inl (cA, 2001, .inl (fun _ => 0))), ((a1 23), .inl (cA, 2001, .inl (fun _ => 0))), ((a1 24), .inl (cA, 2001, .inl (fun _ => 0))), ((a1 25), .inl (cA, 2001, .inl (fun _ => 0))), ((a1 26), .inr (7, [.ref (a1 27), .ref (a1 28), .ref (a1 29), .int 0])), ((a1 27), .inl (cA, 501, .inl (fun _ => 0))), ((a1 28), .inl (cA, 501, .inl (fun _ => 0))), ((a1 29), .inl (cA, 501, .inl (fun _ => 0))), ((a1 30), .inl (cA, 2000, .inl (fun _ => 0))), ((a1 31), .inr (4, [.ref (a1 5), .ref (a1 32), .ref (a1 33), .ref (a1 34), .int 0, .ref (a1 35), .int 0, .ref (a1 36), .ref (a1 37), .int 0, .int 0])), ((a1 32), .inl (cA, 8, .inl (fun _ => 0))), ((a1 33), .inl (cA, 64, .inl (fun _ => 0))), ((a1 34), .inl (cA, 6, .inl (fun _ => 0))), ((a1 35), .inl (cA, 150, .inl (fun _ => 0))), ((a1 36), .inl (cA, 12, .inl (fun _ => 0))), ((a1 37), .inl (cA, 1800, .inl (fun _ => 0)))]) (w1 := [((a2 0), .inr (8, [.int 0, .int 0, .ref (a2 1), .ref (a2 2), .ref (a2 3), .ref (a2 4), .ref (a2 5), .ref (a2 6), .ref (a2 7), .int 0, .int 0, .ref (a2 8), .ref (a2 9), .ref (a2 10), .int 0, .ref (a2 11), .ref (a2 12), .ref (a2 13), .ref (a2 14), .ref (a2 15), .int 0, .int 0, .ref (a2 16), .int 0, .ref (a2 17), .ref (a2 18), .ref (a2 19), .ref (a2 20), .ref (a2 21), .ref (a2 22), .int 0, .ref (a2 23), .int 0, .ref (a2 24), .int 0, .int 0, .int 0, .int 0, .ref (a2 25), .ref (a2 26), .ref (a2 27), .ref (a2 28), .ref (a2 29), .ref (a2 30), .ref (a2 31), .ref (a2 32), .int (-1), .int 0, .int 0, .int 0, .ref (a2 33), .int 0, .int 0, .int 0, .ref (a2 34), .ref (a2 35), .ref (a2 36), .ref (a2 37)])), ((a2 1), .inl (cA, 150, .inl (fun _ => 0))), ((a2 2), .inl (cA, 150, .inl (fun _ => 0))), ((a2 3), .inl (cA, 150, .inl (fun _ => 0))), ((a2 4), .inl (cA, 150, .inl (fun _ => 0))), ((a2 5), .inl (cA, 150, .inl (fun _ => 0))), ((a2 6), .inl (cA, 150, .inl (fun _ => 0))), ((a2 7), .inl (cA, 6, .inl (upd (upd (upd (upd (upd (upd (fun _ => 0) 0 ((-1))) 1 ((-1))) 2 ((-1))) 3 ((-1))) 4 ((-1))) 5 ((-1))))), ((a2 8), .inl (cA, 1000, .inl (fun _ => 0))), ((a2 9), .inl (cA, 1000, .inl (fun _ => 0))), ((a2 10), .inl (cA, 1000, .inl (fun _ => 0))), ((a2 11), .inl (cA, 300, .inl (fun _ => 0))), ((a2 12), .inl (cA, 300, .inl (fun _ => 0))), ((a2 13), .inl (cA, 300, .inl (fun _ => 0))), ((a2 14), .inl (cA, 300, .inl (fun _ => 0))), ((a2 15), .inl (cA, 300, .inl (fun _ => 0))), ((a2 16), .inl (cA, 6, .inl (fun _ => 0))), ((a2 17), .inl (cA, 2001, .inl (fun _ => 0))), ((a2 18), .inl (cA, 2001, .inl (fun _ => 0))), ((a2 19), .inl (cA, 2001, .inl (fun _ => 0))), ((a2 20), .inl (cA, 2001, .inl (fun _ => 0))), ((a2 21), .inl (cA, 2001, .inl (fun _ => 0))), ((a2 22), .inl (cA, 2001, .inl (fun _ => 0))), ((a2 23), .inl (cA, 2001, .inl (fun _ => 0))), ((a2 24), .inl (cA, 2001, .inl (fun _ => 0))), ((a2 25), .inl (cA, 2002, .inl (fun _ => 0))), ((a2 26), .inl (cA, 2002, .inl (fun _ => 0))), ((a2 27), .inl (cA, 2002, .inl (fun _ => 0))), ((a2 28), .inl (cA, 2002, .inl (fun _ => 0))), ((a2 29), .inl (cA, 2002, .inl (fun _ => 0))), ((a2 30), .inl (cA, 2002, .inl (fun _ => 0))), ((a2 31), .inl (cA, 2002, .inl (fun _ => 0))), ((a2 32), .inl (cA, 8, .inl (fun _ => 0))), ((a2 33), .inl (cA, 64, .inl (fun _ => 0))), ((a2 34), .inl (cA, 12, .inl (fun _ => 0))), ((a2 35), .inl (cA, 12, .inl (fun _ => 0))), ((a2 36), .inl (cA, 2400, .inl (fun _ => 0))), ((a2 37), .inl (cA, 2400, .inl (fun _ => 0)))]) hP hD [38] [0, 1, 2, 3, 4, 5, 6, 7, 8, 9, 10, 11, 12, 13, 14, 15, 16, 17, 18, 19, 20, 21, 22, 23, 24, 25, 26, 27, 28, 29, 30, 31, 32, 33, 34, 35, 36, 37] rfl rfl (by decide +kernel) (by decide +kernel) hk1 hFc hP1 hD1
  clear hP hD hPc hDc hFc hP1 hD1 hk1
  generalize H1 = H at hPn hS ⊢
  have hw : a2 0 = q8 := hw
  clear hz1 hvm ht
  rw [← hw]
  clear hw
  have hP : va_P D um_cl ([((a1 0), .inr (0, [.ref (a1 1), .ref (a1 5), .ref (a1 11), .ref (a1 31)])), ((a1 1), .inr (1, [.ref (a1 2), .ref (a1 3), .ref (a1 4), .int 0])), ((a1 2), .inl (cA, 150, .inl (fun _ => 0))), ((a1 3), .inl (cA, 750, .inl (fun _ => 0))), ((a1 4), .inl (cA, 6, .inl (um_fill (fun _ _ => 0) 0 6 (-1) 0))), ((a1 5), .inr (2, [.ref (a1 6), .ref (a1 7), .ref (a1 8), .ref (a1 9), .ref (a1 10), .int 0, .int 0, .int 0, .int 0])), ((a1 6), .inl (cA, 1000, .inl (fun _ => 0))), ((a1 7), .inl (cA, 1000, .inl (fun _ => 0))), ((a1 8), .inl (cA, 1000, .inl (fun _ => 0))), ((a1 9), .inl (cA, 6, .inl (fun _ => 0))), ((a1 10), .inl (cA, 1500, .inl (fun _ => 0))), ((a1 11), .inr (3, [.ref (a1 1), .ref (a1 5), .ref (a1 12), .ref (a1 21), .ref (a1 26), .ref (a1 30), .int 0, .int 0, .int 0])), ((a1 12), .inr (5, [.ref (a1 13), .ref (a1 14), .ref (a1 15), .ref (a1 16), .ref (a1 17), .ref (a1 18), .ref (a1 19), .ref (a1 20), .int 0, .int 0])), ((a1 13), .inl (cA, 2001, .inl (fun _ => 0))), ((a1 14), .inl (cA, 2001, .inl (fun _ => 0))), ((a1 15), .inl (cA, 2001, .inl (fun _ => 0))), ((a1 16), .inl (cA, 2001, .inl (fun _ => 0))), ((a1 17), .inl (cA, 2001, .inl (fun _ => 0))), ((a1 18), .inl (cA, 2001, .inl (fun _ => 0))), ((a1 19), .inl (cA, 2001, .inl (fun _ => 0))), ((a1 20), .inl (cA, 2001, .inl (fun _ => 0))), ((a1 21), .inr (6, [.ref (a1 22), .ref (a1 23), .ref (a1 24), .ref (a1 25), .int 0])), ((a1 22), .inl (cA, 2001, .inl (fun _ => 0))), ((a1 23), .inl (cA, 2001, .inl (fun _ => 0))), ((a1 24), .inl (cA, 2001, .inl (fun _ => 0))), ((a1 25), .inl (cA, 2001, .inl (fun _ => 0))), ((a1 26), .inr (7, [.ref (a1 27), .ref (a1 28), .ref (a1 29), .int 0])), ((a1 27), .inl (cA, 501, .inl (fun _ => 0))), ((a1 28), .inl (cA, 501, .inl (fun _ => 0))), ((a1 29), .inl (cA, 501, .inl (fun _ => 0))), ((a1 30), .inl (cA, 2000, .inl (fun _ => 0))), ((a1 31), .inr (4, [.ref (a1 5), .ref (a1 32), .ref (a1 33), .ref (a1 34), .int 0, .ref (a1 35), .int 0, .ref (a1 36), .ref (a1 37), .int 0, .int 0])), ((a1 32), .inl (cA, 8, .inl (fun _ => 0))), ((a1 33), .inl (cA, 64, .inl (fun _ => 0))), ((a1 34), .inl (cA, 6, .inl (fun _ => 0))), ((a1 35), .inl (cA, 150, .inl (fun _ => 0))), ((a1 36), .inl (cA, 12, .inl (fun _ => 0))), ((a1 37), .inl (cA, 1800, .inl (fun _ => 0)))] ++ [((a2 0), .inr (8, [.int 0, .int 0, .ref (a2 1), .ref (a2 2), .ref (a2 3), .ref (a2 4), .ref (a2 5), .ref (a2 6), .ref (a2 7), .int 0, .int 0, .ref (a2 8), .ref (a2 9), .ref (a2 10), .int 0, .ref (a2 11), .ref (a2 12), .ref (a2 13), .ref (a2 14), .ref (a2 15), .int 0, .int 0, .ref (a2 16), .int 0, .ref (a2 17), .ref (a2 18), .ref (a2 19), .ref (a2 20), .ref (a2 21), .ref (a2 22), .int 0, .ref (a2 23), .int 0, .ref (a2 24), .int 0, .int 0, .int 0, .int 0, .ref (a2 25), .ref (a2 26), .ref (a2 27), .ref (a2 28), .ref (a2 29), .ref (a2 30), .ref (a2 31), .ref (a2 32), .int (-1), .int 0, .int 0, .int 0, .ref (a2 33), .int 0, .int 0, .int 0, .ref (a2 34), .ref (a2 35), .ref (a2 36), .ref (a2 37)])), ((a2 1), .inl (cA, 150, .inl (fun _ => 0))), ((a2 2), .inl (cA, 150, .inl (fun _ => 0))), ((a2 3), .inl (cA, 150, .inl (fun _ => 0))), ((a2 4), .inl (cA, 150, .inl (fun _ => 0))), ((a2 5), .inl (cA, 150, .inl (fun _ => 0))), ((a2 6), .inl (cA, 150, .inl (fun _ => 0))), ((a2 7), .inl (cA, 6, .inl (upd (upd (upd (upd (upd (upd (fun _ => 0) 0 ((-1))) 1 ((-1))) 2 ((-1))) 3 ((-1))) 4 ((-1))) 5 ((-1))))), ((a2 8), .inl (cA, 1000, .inl (fun _ => 0))), ((a2 9), .inl (cA, 1000, .inl (fun _ => 0))), ((a2 10), .inl (cA, 1000, .inl (fun _ => 0))), ((a2 11), .inl (cA, 300, .inl (fun _ => 0))), ((a2 12), .inl (cA, 300, .inl (fun _ => 0))), ((a2 13), .inl (cA, 300, .inl (fun _ => 0))), ((a2 14), .inl (cA, 300, .inl (fun _ => 0))), ((a2 15), .inl (cA, 300, .inl (fun _ => 0))), ((a2 16), .inl (cA, 6, .inl (fun _ => 0))), ((a2 17), .inl (cA, 2001, .inl (fun _ => 0))), ((a2 18), .inl (cA, 2001, .inl (fun _ => 0))), ((a2 19), .inl (cA, 2001, .inl (fun _ => 0))), ((a2 20), .inl (cA, 2001, .inl (fun _ => 0))), ((a2 21), .inl (cA, 2001, .inl (fun _ => 0))), ((a2 22), .inl (cA, 2001, .inl (fun _ => 0))), ((a2 23), .inl (cA, 2001, .inl (fun _ => 0))), ((a2 24), .inl (cA, 2001, .inl (fun _ => 0))), ((a2 25), .inl (cA, 2002, .inl (fun _ => 0))), ((a2 26), .inl (cA, 2002, .inl (fun _ => 0))), ((a2 27), .inl (cA, 2002, .inl (fun _ => 0))), ((a2 28), .inl (cA, 2002, .inl (fun _ => 0))), ((a2 29), .inl (cA, 2002, .inl (fun _ => 0))), ((a2 30), .inl (cA, 2002, .inl (fun _ => 0))), ((a2 31), .inl (cA, 2002, .inl (fun _ => 0))), ((a2 32), .inl (cA, 8, .inl (fun _ => 0))), ((a2 33), .inl (cA, 64, .inl (fun _ => 0))), ((a2 34), .inl (cA, 12, .inl (fun _ => 0))), ((a2 35), .inl (cA, 12, .inl (fun _ => 0))), ((a2 36), .inl (cA, 2400, .inl (fun _ => 0))), ((a2 37), .inl (cA, 2400, .inl (fun _ => 0)))]) H := hPn
  have hD : va_D (fun x => s.heap.size ≤ x) ([((a1 0), .inr (0, [.ref (a1 1), .ref (a1 5), .ref (a1 11), .ref (a1 31)])), ((a1 1), .inr (1, [.ref (a1 2), .ref (a1 3), .ref (a1 4), .int 0])), ((a1 2), .inl (cA, 150, .inl (fun _ => 0))), ((a1 3), .inl (cA, 750, .inl (fun _ => 0))), ((a1 4), .inl (cA, 6, .inl (um_fill (fun _ _ => 0) 0 6 (-1) 0))), ((a1 5), .inr (2, [.ref (a1 6), .ref (a1 7), .ref (a1 8), .ref (a1 9), .ref (a1 10), .int 0, .int 0, .int 0, .int 0])), ((a1 6), .inl (cA, 1000, .inl (fun _ => 0))), ((a1 7), .inl (cA, 1000, .inl (fun _ => 0))), ((a1 8), .inl (cA, 1000, .inl (fun _ => 0))), ((a1 9), .inl (cA, 6, .inl (fun _ => 0))), ((a1 10), .inl (cA, 1500, .inl (fun _ => 0))), ((a1 11), .inr (3, [.ref (a1 1), .ref (a1 5), .ref (a1 12), .ref (a1 21), .ref (a1 26), .ref (a1 30), .int 0, .int 0, .int 0])), ((a1 12), .inr (5, [.ref (a1 13), .ref (a1 14), .ref (a1 15), .ref (a1 16), .ref (a1 17), .ref (a1 18), .ref (a1 19), .ref (a1 20), .int 0, .int 0])), ((a1 13), .inl (cA, 2001, .inl (fun _ => 0))), ((a1 14), .inl (cA, 2001, .inl (fun _ => 0))), ((a1 15), .inl (cA, 2001, .inl (fun _ => 0))), ((a1 16), .inl (cA, 2001, .inl (fun _ => 0))), ((a1 17), .inl (cA, 2001, .inl (fun _ => 0))), ((a1 18), .inl (cA, 2001, .inl (fun _ => 0))), ((a1 19), .inl (cA, 2001, .inl (fun _ => 0))), ((a1 20), .inl (cA, 2001, .inl (fun _ => 0))), ((a1 21), .inr (6, [.ref (a1 22), .ref (a1 23), .ref (a1 24), .ref (a1 25), .int 0])), ((a1 22), .inl (cA, 2001, .inl (fun _ => 0))), ((a1 23), .inl (cA, 2001, .inl (fun _ => 0))), ((a1 24), .inl (cA, 2001, .inl (fun _ => 0))), ((a1 25), .inl (cA, 2001, .inl (fun _ => 0))), ((a1 26), .inr (7, [.ref (a1 27), .ref (a1 28), .ref (a1 29), .int 0])), ((a1 27), .inl (cA, 501, .inl (fun _ => 0))), ((a1 28), .inl (cA, 501, .inl (fun _ => 0))), ((a1 29), .inl (cA, 501, .inl (fun _ => 0))), ((a1 30), .inl (cA, 2000, .inl (fun _ => 0))), ((a1 31), .inr (4, [.ref (a1 5), .ref (a1 32), .ref (a1 33), .ref (a1 34), .int 0, .ref (a1 35), .int 0, .ref (a1 36), .ref (a1 37), .int 0, .int 0])), ((a1 32), .inl (cA, 8, .inl (fun _ => 0))), ((a1 33), .inl (cA, 64, .inl (fun _ => 0))), ((a1 34), .inl (cA, 6, .inl (fun _ => 0))), ((a1 35), .inl (cA, 150, .inl (fun _ => 0))), ((a1 36), .inl (cA, 12, .inl (fun _ => 0))), ((a1 37), .inl (cA, 1800, .inl (fun _ => 0)))] ++ [((a2 0), .inr (8, [.int 0, .int 0, .ref (a2 1), .ref (a2 2), .ref (a2 3), .ref (a2 4), .ref (a2 5), .ref (a2 6), .ref (a2 7), .int 0, .int 0, .ref (a2 8), .ref (a2 9), .ref (a2 10), .int 0, .ref (a2 11), .ref (a2 12), .ref (a2 13), .ref (a2 14), .ref (a2 15), .int 0, .int 0, .ref (a2 16), .int 0, .ref (a2 17), .ref (a2 18), .ref (a2 19), .ref (a2 20), .ref (a2 21), .ref (a2 22), .int 0, .ref (a2 23), .int 0, .ref (a2 24), .int 0, .int 0, .int 0, .int 0, .ref (a2 25), .ref (a2 26), .ref (a2 27), .ref (a2 28), .ref (a2 29), .ref (a2 30), .ref (a2 31), .ref (a2 32), .int (-1), .int 0, .int 0, .int 0, .ref (a2 33), .int 0, .int 0, .int 0, .ref (a2 34), .ref (a2 35), .ref (a2 36), .ref (a2 37)])), ((a2 1), .inl (cA, 150, .inl (fun _ => 0))), ((a2 2), .inl (cA, 150, .inl (fun _ => 0))), ((a2 3), .inl (cA, 150, .inl (fun _ => 0))), ((a2 4), .inl (cA, 150, .inl (fun _ => 0))), ((a2 5), .inl (cA, 150, .inl (fun _ => 0))), ((a2 6), .inl (cA, 150, .inl (fun _ => 0))), ((a2 7), .inl (cA, 6, .inl (upd (upd (upd (upd (upd (upd (fun _ => 0) 0 ((-1))) 1 ((-1))) 2 ((-1))) 3 ((-1))) 4 ((-1))) 5 ((-1))))), ((a2 8), .inl (cA, 1000, .inl (fun _ => 0))), ((a2 9), .inl (cA, 1000, .inl (fun _ => 0))), ((a2 10), .inl (cA, 1000, .inl (fun _ => 0))), ((a2 11), .inl (cA, 300, .inl (fun _ => 0))), ((a2 12), .inl (cA, 300, .inl (fun _ => 0))), ((a2 13), .inl (cA, 300, .inl (fun _ => 0))), ((a2 14), .inl (cA, 300, .inl (fun _ => 0))), ((a2 15), .inl (cA, 300, .inl (fun _ => 0))), ((a2 16), .inl (cA, 6, .inl (fun _ => 0))), ((a2 17), .inl (cA, 2001, .inl (fun _ => 0))), ((a2 18), .inl (cA, 2001, .inl (fun _ => 0))), ((a2 19), .inl (cA, 2001, .inl (fun _ => 0))), ((a2 20), .inl (cA, 2001, .inl (fun _ => 0))), ((a2 21), .inl (cA, 2001, .inl (fun _ => 0))), ((a2 22), .inl (cA, 2001, .inl (fun _ => 0))), ((a2 23), .inl (cA, 2001, .inl (fun _ => 0))), ((a2 24), .inl (cA, 2001, .inl (fun _ => 0))), ((a2 25), .inl (cA, 2002, .inl (fun _ => 0))), ((a2 26), .inl (cA, 2002, .inl (fun _ => 0))), ((a2 27), .inl (cA, 2002, .inl (fun _ => 0))), ((a2 28), .inl (cA, 2002, .inl (fun _ => 0))), ((a2 29), .inl (cA, 2002, .inl (fun _ => 0))), ((a2 30), .inl (cA, 2002, .inl (fun _ => 0))), ((a2 31), .inl (cA, 2002, .inl (fun _ => 0))), ((a2 32), .inl (cA, 8, .inl (fun _ => 0))), ((a2 33), .inl (cA, 64, .inl (fun _ => 0))), ((a2 34), .inl (cA, 12, .inl (fun _ => 0))), ((a2 35), .inl (cA, 12, .inl (fun _ => 0))), ((a2 36), .inl (cA, 2400, .inl (fun _ => 0))), ((a2 37), .inl (cA, 2400, .inl (fun _ => 0)))]) := hDn
  clear hPn hDn
  refine W.widen (k := 76) (n := 75411) (Nat.le_of_ble_eq_true rfl) (Nat.le_of_ble_eq_true rfl) ?_
  refine lv_astore_n (lv' := [(2, .ref (a2 0)), (1, .ref (a1 0)), (0, .ref b)]) hx hb d_law_15 rfl hl (Nat.le_of_ble_eq_true rfl) rfl (fun ls hl => ?_)
  refine lv_iconst (v := 1) hx hb d_law_16 (by decide) ?_
  refine va_newa (atype := .long) (ty := .long) (a0 := (1, .inr (.inl (fun _ => 0)))) (N' := 1) hx hb (hok _ wo_arrL) rfl hK hP hD hS hA (fun _ => rfl) (by decide) (by decide) (by decide) (Nat.le_of_ble_eq_true rfl) (Nat.le_of_ble_eq_true rfl) d_law_17 (fun qo cL H hK hP hD hS => ?_)
  refine W.widen (k := 79) (n := 75420) (Nat.le_of_ble_eq_true rfl) (Nat.le_of_ble_eq_true rfl) ?_
  refine lv_astore_n (lv' := [(3, .ref qo), (2, .ref (a2 0)), (1, .ref (a1 0)), (0, .ref b)]) hx hb d_law_19 rfl hl (Nat.le_of_ble_eq_true rfl) rfl (fun ls hl => ?_)
  refine lv_iconst (v := 0) hx hb d_law_20 (by decide) ?_
  refine lv_istore (lv' := [(4, .int 0), (3, .ref qo), (2, .ref (a2 0)), (1, .ref (a1 0)), (0, .ref b)]) hx hb d_law_21 hl (Nat.le_of_ble_eq_true rfl) rfl (fun ls hl => ?_)
  have hl : lv_has ls 7 [(0, .ref b), (1, .ref (lw_ad a1 a2 tS 0)), (2, .ref (lw_ad a1 a2 tS 38)), (3, .ref qo), (4, .int (nI (6 * 0)))] := lv_sub hl [4, 3, 2, 1, 0] rfl
  have hP : va_P D um_cl (lw_wall a1 a2 cA ++ [(qo, .inl (cL, 1, .inr (.inl (fun _ => 0))))]) H := hP
  have hD : va_D (fun x => s.heap.size ≤ x) (lw_wall a1 a2 cA ++ [(qo, .inl (cL, 1, .inr (.inl (fun _ => 0))))]) := hD
  have hP2 := lw_permP (t := tS) hP
  have hD2 := lw_permD (t := tS) hD
  rw [← um_J_same um_s0] at hP2 hD2
  have hst : um_st um_SX (lw_ad a1 a2 tS) (fun x => s.heap.size ≤ x) s s.heap := by
    refine ⟨fun i C n N f hi => ?_, fun q hq => hNw q (List.mem_append_left _ hq)⟩
    have hi0 : i < 1 := (List.getElem?_eq_some_iff.mp hi).1
    have hi0 : i = 0 := by omega
    subst hi0
    cases hi
    exact ⟨hZ, hT⟩
  exact lw_loop (tys := [(cL, .long)]) (cL := cL) hx hb hr hlocks hml hown hts hK hst hX hbl hL hlay (h5 D _ cA cL qo hK hst hNw) (h7 D _ cA cL qo hK hst hNw) 6 0 ls um_s0 um_s0 H locs (fun _ => 0) (by omega) (by omega) hl (fun _ => ⟨rfl, rfl⟩) um_G0 hP2 hD2 hS
