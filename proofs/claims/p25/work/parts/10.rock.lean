/-! X3_isWithin -/
def f_X3_isWithin (p0 : Int32) (p1 : Int32) (p2 : Int32) : Int32 :=
  if p0 < p1 then (0 : Int32) else (if p2 < p0 then (0 : Int32) else (1 : Int32))

abbrev RM_X3_isWithin : Room := { frames := 0, cells := 0, slots := 0, locals := 0 }
set_option maxRecDepth 100000 in
set_option maxHeartbeats 4000000 in
theorem c_X3_isWithin (l : Launch) (D : va_G) (q : Nat → ClassId) (sz : Nat) (p0 : Int32) (p1 : Int32) (p2 : Int32) : Met l yX3_isWithin (Cond.code yX3_isWithin cX3_isWithin 3 (some .boolean) :: ALL) RM_X3_isWithin (PC D q [.int p0, .int p1, .int p2] ([]) sz) (va_Qi (fun (rv : Int32) (_ : Unit) => f_X3_isWithin p0 p1 p2 = rv ∧ bz rv) (fun _ _ => True) (fun _ => False)) 0 0 (fun _ => False) := by
  refine en_zR (by decide +kernel) (Nat.le_of_ble_eq_true rfl) ?_
  intro p e s m args below meth c Q A H locs ls fx hD0 hP hS hl hret
  have hx := fx.1
  have hb := fx.2.1
  have hl : lv_has ls 3 [(0, .int p0), (1, .int p1), (2, .int p2)] := hl
  have hD : va_D _ ([] : va_W) := hD0
  have ht : f_X3_isWithin p0 p1 p2 = f_X3_isWithin p0 p1 p2 := rfl
  refine lv_iload_n hx hb dX3_isWithin_0 rfl (lv_at hl 0 rfl) ?_
  refine lv_iload_n hx hb dX3_isWithin_1 rfl (lv_at hl 1 rfl) ?_
  refine lv_icmp_lt (tgt := 14) hx hb dX3_isWithin_2 (by decide) (fun c1 => ?_) (fun c1 => ?_)
  · refine lv_iconst (v := 0) hx hb dX3_isWithin_14 (by decide) ?_
    exact hret (0 : Int32) _ _ _ _ dX3_isWithin_15 bz0 (ht.trans (by simp only [f_X3_isWithin, if_pos c1])) hS
  · refine lv_iload_n hx hb dX3_isWithin_5 rfl (lv_at hl 0 rfl) ?_
    refine lv_iload_n hx hb dX3_isWithin_6 rfl (lv_at hl 2 rfl) ?_
    refine lv_icmp_gt (tgt := 14) hx hb dX3_isWithin_7 (by decide) (fun c2 => ?_) (fun c2 => ?_)
    · refine lv_iconst (v := 0) hx hb dX3_isWithin_14 (by decide) ?_
      exact hret (0 : Int32) _ _ _ _ dX3_isWithin_15 bz0 (ht.trans (by simp only [f_X3_isWithin, if_neg c1, if_pos c2])) hS
    · refine lv_iconst (v := 1) hx hb dX3_isWithin_10 (by decide) ?_
      refine lv_goto (tgt := 15) hx hb dX3_isWithin_11 (by decide) ?_
      exact hret (1 : Int32) _ _ _ _ dX3_isWithin_15 bz1 (ht.trans (by simp only [f_X3_isWithin, if_neg c1, if_neg c2])) hS

/-! X3_read -/
def f_X3_read (na : Nat) (f : (Nat → Int32)) (p0 : Int32) : Int32 :=
  if p0 < 0 then (0 : Int32) else (if (Int32.ofNat na) ≤ p0 then (0 : Int32) else (f p0.toNatClampNeg))

abbrev RM_X3_read : Room := { frames := 0, cells := 0, slots := 0, locals := 0 }
set_option maxRecDepth 100000 in
set_option maxHeartbeats 4000000 in
theorem c_X3_read (l : Launch) (D : va_G) (q : Nat → ClassId) (sz : Nat) (a : Nat) (na : Nat) (hn : na < 2147483648) (f : (Nat → Int32)) (p0 : Int32) : Met l yX3_read (Cond.code yX3_read cX3_read 2 (some .int) :: ALL) RM_X3_read (PC D q [.ref a, .int p0] (cArr a na q f) sz) (va_Qi (fun (rv : Int32) (_ : Unit) => f_X3_read na f p0 = rv) (fun _ _ => True) (fun _ => False)) 0 0 (fun _ => False) := by
  refine en_iR (by decide +kernel) (Nat.le_of_ble_eq_true rfl) ?_
  intro p e s m args below meth c Q A H locs ls fx hD0 hP hS hl hret
  have hx := fx.1
  have hb := fx.2.1
  have hl : lv_has ls 2 [(0, .ref a), (1, .int p0)] := hl
  have hD : ∀ (f9 : (Nat → Int32)), va_D _ (cArr a na q f9) := fun _ => D_same ((fst_Arr _ _ _ _).trans (fst_Arr _ _ _ _).symm) hD0
  have ht : f_X3_read na f p0 = f_X3_read na f p0 := rfl
  refine lv_iload_n hx hb dX3_read_0 rfl (lv_at hl 1 rfl) ?_
  refine lv_if_lt (tgt := 16) hx hb dX3_read_1 (by decide) (fun c1 => ?_) (fun c1 => ?_)
  · refine lv_iconst (v := 0) hx hb dX3_read_16 (by decide) ?_
    exact hret (0 : Int32) _ _ _ _ dX3_read_17 (ht.trans (by simp only [f_X3_read, if_pos c1])) hS
  · refine lv_iload_n hx hb dX3_read_4 rfl (lv_at hl 1 rfl) ?_
    refine lv_aload_n hx hb dX3_read_5 rfl (lv_at hl 0 rfl) ?_
    refine va_alen hx hb fx.2.2.2.2.2.1 hP 0 0 rfl (ty := .int) rfl (v := Int32.ofNat na) rfl dX3_read_6 ?_
    refine lv_icmp_ge (tgt := 16) hx hb dX3_read_7 (by decide) (fun c2 => ?_) (fun c2 => ?_)
    · refine lv_iconst (v := 0) hx hb dX3_read_16 (by decide) ?_
      exact hret (0 : Int32) _ _ _ _ dX3_read_17 (ht.trans (by simp only [f_X3_read, if_neg c1, if_pos c2])) hS
    · refine lv_aload_n hx hb dX3_read_10 rfl (lv_at hl 0 rfl) ?_
      refine lv_iload_n hx hb dX3_read_11 rfl (lv_at hl 1 rfl) ?_
      refine va_iald hx hb fx.2.2.2.2.2.1 hP 0 0 (f := f) rfl rfl (arr_in hn c1 c2) dX3_read_12 ?_
      refine lv_goto (tgt := 17) hx hb dX3_read_13 (by decide) ?_
      exact hret (f p0.toNatClampNeg) _ _ _ _ dX3_read_17 (ht.trans (by simp only [f_X3_read, if_neg c1, if_neg c2])) hS

/-! X3_write -/
def f_X3_write (na : Nat) (f : (Nat → Int32)) (p0 : Int32) (p1 : Int32) : (Nat → Int32) :=
  if p0 < 0 then f else (if (Int32.ofNat na) ≤ p0 then f else (upd f p0.toNatClampNeg p1))

abbrev RM_X3_write : Room := { frames := 0, cells := 0, slots := 0, locals := 0 }
set_option maxRecDepth 100000 in
set_option maxHeartbeats 4000000 in
theorem c_X3_write (l : Launch) (D : va_G) (q : Nat → ClassId) (sz : Nat) (a : Nat) (na : Nat) (hn : na < 2147483648) (f : (Nat → Int32)) (p0 : Int32) (p1 : Int32) : Met l yX3_write (Cond.code yX3_write cX3_write 3 none :: ALL) RM_X3_write (PC D q [.ref a, .int p0, .int p1] (cArr a na q f) sz) (va_Qv (fun (u : (Nat → Int32)) => f_X3_write na f p0 p1 = u) (fun u t9 => va_P D vwCl (cArr a na q u) t9.heap) (va_A (cArr a na q f) sz)) 0 0 (va_A (cArr a na q f) sz) := by
  refine en_vW (by decide +kernel) (Nat.le_of_ble_eq_true rfl) ?_
  intro p e s m args below meth c Q A H locs ls fx hD0 hA hP hS hl hret
  have hx := fx.1
  have hb := fx.2.1
  have hl : lv_has ls 3 [(0, .ref a), (1, .int p0), (2, .int p1)] := hl
  have hD : ∀ (f9 : (Nat → Int32)), va_D _ (cArr a na q f9) := fun _ => D_same ((fst_Arr _ _ _ _).trans (fst_Arr _ _ _ _).symm) hD0
  have ht : f_X3_write na f p0 p1 = f_X3_write na f p0 p1 := rfl
  refine lv_iload_n hx hb dX3_write_0 rfl (lv_at hl 1 rfl) ?_
  refine lv_if_lt (tgt := 14) hx hb dX3_write_1 (by decide) (fun c1 => ?_) (fun c1 => ?_)
  · exact hret f _ _ _ _ dX3_write_14 (ht.trans (by simp only [f_X3_write, if_pos c1])) hP hS
  · refine lv_iload_n hx hb dX3_write_4 rfl (lv_at hl 1 rfl) ?_
    refine lv_aload_n hx hb dX3_write_5 rfl (lv_at hl 0 rfl) ?_
    refine va_alen hx hb fx.2.2.2.2.2.1 hP 0 0 rfl (ty := .int) rfl (v := Int32.ofNat na) rfl dX3_write_6 ?_
    refine lv_icmp_ge (tgt := 14) hx hb dX3_write_7 (by decide) (fun c2 => ?_) (fun c2 => ?_)
    · exact hret f _ _ _ _ dX3_write_14 (ht.trans (by simp only [f_X3_write, if_neg c1, if_pos c2])) hP hS
    · refine lv_aload_n hx hb dX3_write_10 rfl (lv_at hl 0 rfl) ?_
      refine lv_iload_n hx hb dX3_write_11 rfl (lv_at hl 1 rfl) ?_
      refine lv_iload_n hx hb dX3_write_12 rfl (lv_at hl 2 rfl) ?_
      refine va_iast hx hb fx.2.2.2.2.2.1 hP (hD _) hS 0 0 (f := f) rfl rfl (arr_in hn c1 c2) dX3_write_13 (fun H locs hP _ hS => ?_)
      have hP : va_P D vwCl (cArr a na q (upd f p0.toNatClampNeg p1)) H := hP
      exact hret (upd f p0.toNatClampNeg p1) _ _ _ _ dX3_write_14 (ht.trans (by simp only [f_X3_write, if_neg c1, if_neg c2])) hP hS

/-! X0_layerOf -/
def f_X0_layerOf (p0 : Int32) : Int32 :=
  if 0 < p0 then ((p0 - (1 : Int32)) / (100 : Int32)) else (0 : Int32)

abbrev RM_X0_layerOf : Room := { frames := 0, cells := 0, slots := 0, locals := 0 }
set_option maxRecDepth 100000 in
set_option maxHeartbeats 4000000 in
theorem c_X0_layerOf (l : Launch) (D : va_G) (q : Nat → ClassId) (sz : Nat) (p0 : Int32) : Met l yX0_layerOf (Cond.code yX0_layerOf cX0_layerOf 1 (some .int) :: ALL) RM_X0_layerOf (PC D q [.int p0] ([]) sz) (va_Qi (fun (rv : Int32) (_ : Unit) => f_X0_layerOf p0 = rv) (fun _ _ => True) (fun _ => False)) 0 0 (fun _ => False) := by
  refine en_iR (by decide +kernel) (Nat.le_of_ble_eq_true rfl) ?_
  intro p e s m args below meth c Q A H locs ls fx hD0 hP hS hl hret
  have hx := fx.1
  have hb := fx.2.1
  have hl : lv_has ls 1 [(0, .int p0)] := hl
  have hD : va_D _ ([] : va_W) := hD0
  have ht : f_X0_layerOf p0 = f_X0_layerOf p0 := rfl
  refine lv_iload_n hx hb dX0_layerOf_0 rfl (lv_at hl 0 rfl) ?_
  refine lv_if_gt (tgt := 8) hx hb dX0_layerOf_1 (by decide) (fun c1 => ?_) (fun c1 => ?_)
  · refine lv_iload_n hx hb dX0_layerOf_8 rfl (lv_at hl 0 rfl) ?_
    refine lv_iconst (v := 1) hx hb dX0_layerOf_9 (by decide) ?_
    refine lv_isub hx hb dX0_layerOf_10 ?_
    refine lv_bipush (v := 100) hx hb dX0_layerOf_11 (by decide) ?_
    refine lv_idiv hx hb dX0_layerOf_13 (by decide) ?_
    exact hret ((p0 - (1 : Int32)) / (100 : Int32)) _ _ _ _ dX0_layerOf_14 (ht.trans (by simp only [f_X0_layerOf, if_pos c1])) hS
  · refine lv_iconst (v := 0) hx hb dX0_layerOf_4 (by decide) ?_
    refine lv_goto (tgt := 14) hx hb dX0_layerOf_5 (by decide) ?_
    exact hret (0 : Int32) _ _ _ _ dX0_layerOf_14 (ht.trans (by simp only [f_X0_layerOf, if_neg c1])) hS

/-! X0_poreAt -/
def f_X0_poreAt (r : RS) (p0 : Int32) : Int32 :=
  ((f_X3_read 50 (R_pores r) (f_X0_layerOf p0)) * p0) / (10 : Int32)

abbrev RM_X0_poreAt : Room := { frames := 1, cells := 0, slots := 0, locals := 21 }
set_option maxRecDepth 100000 in
set_option maxHeartbeats 4000000 in
theorem c_X0_poreAt (l : Launch) (D : va_G) (q : Nat → ClassId) (sz : Nat) (kr : Nat → Nat) (r : RS) (p0 : Int32) : Met l yX0_poreAt (Cond.code yX0_poreAt cX0_poreAt 2 (some .int) :: ALL) RM_X0_poreAt (PC D q [.ref (kr 0), .int p0] (cRock kr q r) sz) (va_Qi (fun (rv : Int32) (_ : Unit) => f_X0_poreAt r p0 = rv) (fun _ _ => True) (fun _ => False)) 0 0 (fun _ => False) := by
  refine en_iR (by decide +kernel) (Nat.le_of_ble_eq_true rfl) ?_
  intro p e s m args below meth c Q A H locs ls fx hD0 hP hS hl hret
  have hx := fx.1
  have hb := fx.2.1
  have hl : lv_has ls 2 [(0, .ref (kr 0)), (1, .int p0)] := hl
  have hD : ∀ (r9 : RS), va_D _ (cRock kr q r9) := fun _ => D_same ((fst_Rock _ _ _).trans (fst_Rock _ _ _).symm) hD0
  have ht : f_X0_poreAt r p0 = f_X0_poreAt r p0 := rfl
  refine lv_aload_n hx hb dX0_poreAt_0 rfl (lv_at hl 0 rfl) ?_
  refine gf_X0_9 fx hP 0 rfl dX0_poreAt_1 ?_
  refine lv_iload_n hx hb dX0_poreAt_4 rfl (lv_at hl 1 rfl) ?_
  refine kR_i (runS fx (As := [.int p0]) (rest := [.ref (kr 1)]) (c_X0_layerOf l D q H.size p0) lk_X0_37 ⟨Nat.le_of_ble_eq_true rfl, Nat.le_of_ble_eq_true rfl⟩ ⟨rfl, rfl⟩ hP (hD _) [] rfl rfl rfl hl.1 rfl (Nat.le_of_ble_eq_true rfl) dX0_poreAt_5 ⟨Nat.zero_le _, Nat.zero_le _⟩) hP hS (fun r1 _ H locs hr2 hP hS => ?_)
  subst hr2
  refine kR_i (runSN fx (As := [.ref (kr 1), .int (f_X0_layerOf p0)]) (rest := []) (c_X3_read l D q H.size (kr 1) 50 (Nat.le_of_ble_eq_true rfl) (R_pores r) (f_X0_layerOf p0)) lk_X0_41 ⟨Nat.le_of_ble_eq_true rfl, Nat.le_of_ble_eq_true rfl⟩ ⟨rfl, rfl⟩ hP (hD _) [1] rfl rfl rfl hl.1 rfl (Nat.le_of_ble_eq_true rfl) dX0_poreAt_8 ⟨Nat.zero_le _, Nat.zero_le _⟩) hP hS (fun r3 _ H locs hr4 hP hS => ?_)
  subst hr4
  refine lv_iload_n hx hb dX0_poreAt_11 rfl (lv_at hl 1 rfl) ?_
  refine lv_imul hx hb dX0_poreAt_12 ?_
  refine lv_bipush (v := 10) hx hb dX0_poreAt_13 (by decide) ?_
  refine lv_idiv hx hb dX0_poreAt_15 (by decide) ?_
  exact hret (((f_X3_read 50 (R_pores r) (f_X0_layerOf p0)) * p0) / (10 : Int32)) _ _ _ _ dX0_poreAt_16 (ht.trans (by simp only [f_X0_poreAt])) hS

/-! X0_breakAt -/
def f_X0_breakAt (r : RS) (p0 : Int32) : Int32 :=
  ((f_X3_read 50 (R_breaks r) (f_X0_layerOf p0)) * p0) / (10 : Int32)

abbrev RM_X0_breakAt : Room := { frames := 1, cells := 0, slots := 0, locals := 21 }
set_option maxRecDepth 100000 in
set_option maxHeartbeats 4000000 in
theorem c_X0_breakAt (l : Launch) (D : va_G) (q : Nat → ClassId) (sz : Nat) (kr : Nat → Nat) (r : RS) (p0 : Int32) : Met l yX0_breakAt (Cond.code yX0_breakAt cX0_breakAt 2 (some .int) :: ALL) RM_X0_breakAt (PC D q [.ref (kr 0), .int p0] (cRock kr q r) sz) (va_Qi (fun (rv : Int32) (_ : Unit) => f_X0_breakAt r p0 = rv) (fun _ _ => True) (fun _ => False)) 0 0 (fun _ => False) := by
  refine en_iR (by decide +kernel) (Nat.le_of_ble_eq_true rfl) ?_
  intro p e s m args below meth c Q A H locs ls fx hD0 hP hS hl hret
  have hx := fx.1
  have hb := fx.2.1
  have hl : lv_has ls 2 [(0, .ref (kr 0)), (1, .int p0)] := hl
  have hD : ∀ (r9 : RS), va_D _ (cRock kr q r9) := fun _ => D_same ((fst_Rock _ _ _).trans (fst_Rock _ _ _).symm) hD0
  have ht : f_X0_breakAt r p0 = f_X0_breakAt r p0 := rfl
  refine lv_aload_n hx hb dX0_breakAt_0 rfl (lv_at hl 0 rfl) ?_
  refine gf_X0_15 fx hP 0 rfl dX0_breakAt_1 ?_
  refine lv_iload_n hx hb dX0_breakAt_4 rfl (lv_at hl 1 rfl) ?_
  refine kR_i (runS fx (As := [.int p0]) (rest := [.ref (kr 2)]) (c_X0_layerOf l D q H.size p0) lk_X0_37 ⟨Nat.le_of_ble_eq_true rfl, Nat.le_of_ble_eq_true rfl⟩ ⟨rfl, rfl⟩ hP (hD _) [] rfl rfl rfl hl.1 rfl (Nat.le_of_ble_eq_true rfl) dX0_breakAt_5 ⟨Nat.zero_le _, Nat.zero_le _⟩) hP hS (fun r1 _ H locs hr2 hP hS => ?_)
  subst hr2
  refine kR_i (runSN fx (As := [.ref (kr 2), .int (f_X0_layerOf p0)]) (rest := []) (c_X3_read l D q H.size (kr 2) 50 (Nat.le_of_ble_eq_true rfl) (R_breaks r) (f_X0_layerOf p0)) lk_X0_41 ⟨Nat.le_of_ble_eq_true rfl, Nat.le_of_ble_eq_true rfl⟩ ⟨rfl, rfl⟩ hP (hD _) [2] rfl rfl rfl hl.1 rfl (Nat.le_of_ble_eq_true rfl) dX0_breakAt_8 ⟨Nat.zero_le _, Nat.zero_le _⟩) hP hS (fun r3 _ H locs hr4 hP hS => ?_)
  subst hr4
  refine lv_iload_n hx hb dX0_breakAt_11 rfl (lv_at hl 1 rfl) ?_
  refine lv_imul hx hb dX0_breakAt_12 ?_
  refine lv_bipush (v := 10) hx hb dX0_breakAt_13 (by decide) ?_
  refine lv_idiv hx hb dX0_breakAt_15 (by decide) ?_
  exact hret (((f_X3_read 50 (R_breaks r) (f_X0_layerOf p0)) * p0) / (10 : Int32)) _ _ _ _ dX0_breakAt_16 (ht.trans (by simp only [f_X0_breakAt])) hS

/-! X0_rateAt -/
def f_X0_rateAt (r : RS) (p0 : Int32) : Int32 :=
  f_X3_read 50 (R_rates r) (f_X0_layerOf p0)

abbrev RM_X0_rateAt : Room := { frames := 1, cells := 0, slots := 0, locals := 21 }
set_option maxRecDepth 100000 in
set_option maxHeartbeats 4000000 in
theorem c_X0_rateAt (l : Launch) (D : va_G) (q : Nat → ClassId) (sz : Nat) (kr : Nat → Nat) (r : RS) (p0 : Int32) : Met l yX0_rateAt (Cond.code yX0_rateAt cX0_rateAt 2 (some .int) :: ALL) RM_X0_rateAt (PC D q [.ref (kr 0), .int p0] (cRock kr q r) sz) (va_Qi (fun (rv : Int32) (_ : Unit) => f_X0_rateAt r p0 = rv) (fun _ _ => True) (fun _ => False)) 0 0 (fun _ => False) := by
  refine en_iR (by decide +kernel) (Nat.le_of_ble_eq_true rfl) ?_
  intro p e s m args below meth c Q A H locs ls fx hD0 hP hS hl hret
  have hx := fx.1
  have hb := fx.2.1
  have hl : lv_has ls 2 [(0, .ref (kr 0)), (1, .int p0)] := hl
  have hD : ∀ (r9 : RS), va_D _ (cRock kr q r9) := fun _ => D_same ((fst_Rock _ _ _).trans (fst_Rock _ _ _).symm) hD0
  have ht : f_X0_rateAt r p0 = f_X0_rateAt r p0 := rfl
  refine lv_aload_n hx hb dX0_rateAt_0 rfl (lv_at hl 0 rfl) ?_
  refine gf_X0_18 fx hP 0 rfl dX0_rateAt_1 ?_
  refine lv_iload_n hx hb dX0_rateAt_4 rfl (lv_at hl 1 rfl) ?_
  refine kR_i (runS fx (As := [.int p0]) (rest := [.ref (kr 3)]) (c_X0_layerOf l D q H.size p0) lk_X0_37 ⟨Nat.le_of_ble_eq_true rfl, Nat.le_of_ble_eq_true rfl⟩ ⟨rfl, rfl⟩ hP (hD _) [] rfl rfl rfl hl.1 rfl (Nat.le_of_ble_eq_true rfl) dX0_rateAt_5 ⟨Nat.zero_le _, Nat.zero_le _⟩) hP hS (fun r1 _ H locs hr2 hP hS => ?_)
  subst hr2
  refine kR_i (runSN fx (As := [.ref (kr 3), .int (f_X0_layerOf p0)]) (rest := []) (c_X3_read l D q H.size (kr 3) 50 (Nat.le_of_ble_eq_true rfl) (R_rates r) (f_X0_layerOf p0)) lk_X0_41 ⟨Nat.le_of_ble_eq_true rfl, Nat.le_of_ble_eq_true rfl⟩ ⟨rfl, rfl⟩ hP (hD _) [3] rfl rfl rfl hl.1 rfl (Nat.le_of_ble_eq_true rfl) dX0_rateAt_8 ⟨Nat.zero_le _, Nat.zero_le _⟩) hP hS (fun r3 _ H locs hr4 hP hS => ?_)
  subst hr4
  exact hret (f_X3_read 50 (R_rates r) (f_X0_layerOf p0)) _ _ _ _ dX0_rateAt_11 (ht.trans (by simp only [f_X0_rateAt])) hS

/-! X0_bearsGasAt -/
def f_X0_bearsGasAt (r : RS) (p0 : Int32) : Int32 :=
  if (f_X3_read 50 (R_gases r) (f_X0_layerOf p0)) = (1 : Int32) then (1 : Int32) else (0 : Int32)

abbrev RM_X0_bearsGasAt : Room := { frames := 1, cells := 0, slots := 0, locals := 21 }
set_option maxRecDepth 100000 in
set_option maxHeartbeats 4000000 in
theorem c_X0_bearsGasAt (l : Launch) (D : va_G) (q : Nat → ClassId) (sz : Nat) (kr : Nat → Nat) (r : RS) (p0 : Int32) : Met l yX0_bearsGasAt (Cond.code yX0_bearsGasAt cX0_bearsGasAt 2 (some .boolean) :: ALL) RM_X0_bearsGasAt (PC D q [.ref (kr 0), .int p0] (cRock kr q r) sz) (va_Qi (fun (rv : Int32) (_ : Unit) => f_X0_bearsGasAt r p0 = rv ∧ bz rv) (fun _ _ => True) (fun _ => False)) 0 0 (fun _ => False) := by
  refine en_zR (by decide +kernel) (Nat.le_of_ble_eq_true rfl) ?_
  intro p e s m args below meth c Q A H locs ls fx hD0 hP hS hl hret
  have hx := fx.1
  have hb := fx.2.1
  have hl : lv_has ls 2 [(0, .ref (kr 0)), (1, .int p0)] := hl
  have hD : ∀ (r9 : RS), va_D _ (cRock kr q r9) := fun _ => D_same ((fst_Rock _ _ _).trans (fst_Rock _ _ _).symm) hD0
  have ht : f_X0_bearsGasAt r p0 = f_X0_bearsGasAt r p0 := rfl
  refine lv_aload_n hx hb dX0_bearsGasAt_0 rfl (lv_at hl 0 rfl) ?_
  refine gf_X0_21 fx hP 0 rfl dX0_bearsGasAt_1 ?_
  refine lv_iload_n hx hb dX0_bearsGasAt_4 rfl (lv_at hl 1 rfl) ?_
  refine kR_i (runS fx (As := [.int p0]) (rest := [.ref (kr 4)]) (c_X0_layerOf l D q H.size p0) lk_X0_37 ⟨Nat.le_of_ble_eq_true rfl, Nat.le_of_ble_eq_true rfl⟩ ⟨rfl, rfl⟩ hP (hD _) [] rfl rfl rfl hl.1 rfl (Nat.le_of_ble_eq_true rfl) dX0_bearsGasAt_5 ⟨Nat.zero_le _, Nat.zero_le _⟩) hP hS (fun r1 _ H locs hr2 hP hS => ?_)
  subst hr2
  refine kR_i (runSN fx (As := [.ref (kr 4), .int (f_X0_layerOf p0)]) (rest := []) (c_X3_read l D q H.size (kr 4) 50 (Nat.le_of_ble_eq_true rfl) (R_gases r) (f_X0_layerOf p0)) lk_X0_41 ⟨Nat.le_of_ble_eq_true rfl, Nat.le_of_ble_eq_true rfl⟩ ⟨rfl, rfl⟩ hP (hD _) [4] rfl rfl rfl hl.1 rfl (Nat.le_of_ble_eq_true rfl) dX0_bearsGasAt_8 ⟨Nat.zero_le _, Nat.zero_le _⟩) hP hS (fun r3 _ H locs hr4 hP hS => ?_)
  subst hr4
  refine lv_iconst (v := 1) hx hb dX0_bearsGasAt_11 (by decide) ?_
  refine lv_icmp_ne (tgt := 19) hx hb dX0_bearsGasAt_12 (by decide) (fun c5 => ?_) (fun c5 => ?_)
  · refine lv_iconst (v := 0) hx hb dX0_bearsGasAt_19 (by decide) ?_
    exact hret (0 : Int32) _ _ _ _ dX0_bearsGasAt_20 bz0 (ht.trans (by simp only [f_X0_bearsGasAt, if_neg c5])) hS
  · refine lv_iconst (v := 1) hx hb dX0_bearsGasAt_15 (by decide) ?_
    refine lv_goto (tgt := 20) hx hb dX0_bearsGasAt_16 (by decide) ?_
    exact hret (1 : Int32) _ _ _ _ dX0_bearsGasAt_20 bz1 (ht.trans (by simp only [f_X0_bearsGasAt, if_pos c5])) hS

/-! X0_tellLayer -/
def f_X0_tellLayer (r : RS) (p0 : Int32) (p1 : Int32) (p2 : Int32) (p3 : Int32) (p4 : Int32) : RS :=
  R_set_gases (R_set_rates (R_set_breaks (R_set_pores r (f_X3_write 50 (R_pores r) p0 p1)) (f_X3_write 50 (R_breaks r) p0 p2)) (f_X3_write 50 (R_rates r) p0 p3)) (f_X3_write 50 (R_gases r) p0 (if p4 = 0 then (0 : Int32) else (1 : Int32)))

abbrev RM_X0_tellLayer : Room := { frames := 1, cells := 0, slots := 0, locals := 22 }
set_option maxRecDepth 100000 in
set_option maxHeartbeats 4000000 in
theorem c_X0_tellLayer (l : Launch) (D : va_G) (q : Nat → ClassId) (sz : Nat) (kr : Nat → Nat) (r : RS) (p0 : Int32) (p1 : Int32) (p2 : Int32) (p3 : Int32) (p4 : Int32) : Met l yX0_tellLayer (Cond.code yX0_tellLayer cX0_tellLayer 6 none :: ALL) RM_X0_tellLayer (PC D q [.ref (kr 0), .int p0, .int p1, .int p2, .int p3, .int p4] (cRock kr q r) sz) (va_Qv (fun (u : RS) => f_X0_tellLayer r p0 p1 p2 p3 p4 = u) (fun u t9 => va_P D vwCl (cRock kr q u) t9.heap) (va_A (cRock kr q r) sz)) 0 0 (va_A (cRock kr q r) sz) := by
  refine en_vW (by decide +kernel) (Nat.le_of_ble_eq_true rfl) ?_
  intro p e s m args below meth c Q A H locs ls fx hD0 hA hP hS hl hret
  have hx := fx.1
  have hb := fx.2.1
  have hl : lv_has ls 6 [(0, .ref (kr 0)), (1, .int p0), (2, .int p1), (3, .int p2), (4, .int p3), (5, .int p4)] := hl
  have hD : ∀ (r9 : RS), va_D _ (cRock kr q r9) := fun _ => D_same ((fst_Rock _ _ _).trans (fst_Rock _ _ _).symm) hD0
  have ht : f_X0_tellLayer r p0 p1 p2 p3 p4 = f_X0_tellLayer r p0 p1 p2 p3 p4 := rfl
  refine lv_aload_n hx hb dX0_tellLayer_0 rfl (lv_at hl 0 rfl) ?_
  refine gf_X0_9 fx hP 0 rfl dX0_tellLayer_1 ?_
  refine lv_iload_n hx hb dX0_tellLayer_4 rfl (lv_at hl 1 rfl) ?_
  refine lv_iload_n hx hb dX0_tellLayer_5 rfl (lv_at hl 2 rfl) ?_
  refine kW_v (runSN fx (As := [.ref (kr 1), .int p0, .int p1]) (rest := []) (c_X3_write l D q H.size (kr 1) 50 (Nat.le_of_ble_eq_true rfl) (R_pores r) p0 p1) lk_X0_33 ⟨Nat.le_of_ble_eq_true rfl, Nat.le_of_ble_eq_true rfl⟩ ⟨rfl, rfl⟩ hP (hD _) [1] rfl rfl rfl hl.1 rfl (Nat.le_of_ble_eq_true rfl) dX0_tellLayer_6 ⟨Nat.zero_le _, Nat.zero_le _⟩) hP (hD _) hS hA [1] rfl (fun _ => rfl) (fun u1 H locs hw2 hP hS => ?_)
  have hP : va_P D vwCl (cRock kr q (R_set_pores r u1)) H := hP
  refine lv_aload_n hx hb dX0_tellLayer_9 rfl (lv_at hl 0 rfl) ?_
  refine gf_X0_15 fx hP 0 rfl dX0_tellLayer_10 ?_
  refine lv_iload_n hx hb dX0_tellLayer_13 rfl (lv_at hl 1 rfl) ?_
  refine lv_iload_n hx hb dX0_tellLayer_14 rfl (lv_at hl 3 rfl) ?_
  refine kW_v (runSN fx (As := [.ref (kr 2), .int p0, .int p2]) (rest := []) (c_X3_write l D q H.size (kr 2) 50 (Nat.le_of_ble_eq_true rfl) (R_breaks r) p0 p2) lk_X0_33 ⟨Nat.le_of_ble_eq_true rfl, Nat.le_of_ble_eq_true rfl⟩ ⟨rfl, rfl⟩ hP (hD _) [2] rfl rfl rfl hl.1 rfl (Nat.le_of_ble_eq_true rfl) dX0_tellLayer_15 ⟨Nat.zero_le _, Nat.zero_le _⟩) hP (hD _) hS hA [2] rfl (fun _ => rfl) (fun u3 H locs hw4 hP hS => ?_)
  have hP : va_P D vwCl (cRock kr q (R_set_breaks (R_set_pores r u1) u3)) H := hP
  refine lv_aload_n hx hb dX0_tellLayer_18 rfl (lv_at hl 0 rfl) ?_
  refine gf_X0_18 fx hP 0 rfl dX0_tellLayer_19 ?_
  refine lv_iload_n hx hb dX0_tellLayer_22 rfl (lv_at hl 1 rfl) ?_
  refine lv_iload hx hb dX0_tellLayer_23 (lv_at hl 4 rfl) ?_
  refine kW_v (runSN fx (As := [.ref (kr 3), .int p0, .int p3]) (rest := []) (c_X3_write l D q H.size (kr 3) 50 (Nat.le_of_ble_eq_true rfl) (R_rates r) p0 p3) lk_X0_33 ⟨Nat.le_of_ble_eq_true rfl, Nat.le_of_ble_eq_true rfl⟩ ⟨rfl, rfl⟩ hP (hD _) [3] rfl rfl rfl hl.1 rfl (Nat.le_of_ble_eq_true rfl) dX0_tellLayer_25 ⟨Nat.zero_le _, Nat.zero_le _⟩) hP (hD _) hS hA [3] rfl (fun _ => rfl) (fun u5 H locs hw6 hP hS => ?_)
  have hP : va_P D vwCl (cRock kr q (R_set_rates (R_set_breaks (R_set_pores r u1) u3) u5)) H := hP
  refine lv_aload_n hx hb dX0_tellLayer_28 rfl (lv_at hl 0 rfl) ?_
  refine gf_X0_21 fx hP 0 rfl dX0_tellLayer_29 ?_
  refine lv_iload_n hx hb dX0_tellLayer_32 rfl (lv_at hl 1 rfl) ?_
  refine lv_iload hx hb dX0_tellLayer_33 (lv_at hl 5 rfl) ?_
  suffices K : ∀ (v8 : Int32), ∀ (H : Heap) (locs : List Loc) (ls : Array Slot), v8 = (if p4 = 0 then (0 : Int32) else (1 : Int32)) → va_P D vwCl (cRock kr q (R_set_rates (R_set_breaks (R_set_pores r u1) u3) u5)) H → va_S A s.heap H locs → lv_has ls 6 [(0, .ref (kr 0))] → W p l e RM_X0_tellLayer s m args below meth c H locs 0 0 Q (F0 m 43 ls [.int v8, .int p0, .ref (kr 4)]) by
    refine lv_if_eq (tgt := 42) hx hb dX0_tellLayer_35 (by decide) (fun c7 => ?_) (fun c7 => ?_)
    · refine lv_iconst (v := 0) hx hb dX0_tellLayer_42 (by decide) ?_
      exact K (0 : Int32) H locs ls (by simp only [if_pos c7, hw2, hw4, hw6]) hP hS (lv_sub hl [0] rfl)
    · refine lv_iconst (v := 1) hx hb dX0_tellLayer_38 (by decide) ?_
      refine lv_goto (tgt := 43) hx hb dX0_tellLayer_39 (by decide) ?_
      exact K (1 : Int32) H locs ls (by simp only [if_neg c7, hw2, hw4, hw6]) hP hS (lv_sub hl [0] rfl)
  intro v8 H locs ls hvv8 hP hS hl
  subst hvv8
  refine kW_v (runSN fx (As := [.ref (kr 4), .int p0, .int (if p4 = 0 then (0 : Int32) else (1 : Int32))]) (rest := []) (c_X3_write l D q H.size (kr 4) 50 (Nat.le_of_ble_eq_true rfl) (R_gases r) p0 (if p4 = 0 then (0 : Int32) else (1 : Int32))) lk_X0_33 ⟨Nat.le_of_ble_eq_true rfl, Nat.le_of_ble_eq_true rfl⟩ ⟨rfl, rfl⟩ hP (hD _) [4] rfl rfl rfl hl.1 rfl (Nat.le_of_ble_eq_true rfl) dX0_tellLayer_43 ⟨Nat.zero_le _, Nat.zero_le _⟩) hP (hD _) hS hA [4] rfl (fun _ => rfl) (fun u9 H locs hw10 hP hS => ?_)
  have hP : va_P D vwCl (cRock kr q (R_set_gases (R_set_rates (R_set_breaks (R_set_pores r u1) u3) u5) u9)) H := hP
  exact hret (R_set_gases (R_set_rates (R_set_breaks (R_set_pores r u1) u3) u5) u9) _ _ _ _ dX0_tellLayer_46 (ht.trans (by simp only [f_X0_tellLayer, hw2, hw4, hw6, hw10])) hP hS

/-! X0_greatestPore -/
def f_X0_greatestPore_L14 (r : RS) (p1 : Int32) : Nat → Int32 → Int32 → Int32
  | 0, _, i11 => i11
  | n + 1, i10, i11 => if p1 < i10 then i11 else (f_X0_greatestPore_L14 r p1 n (i10 + (1 : Int32)) (imax i11 (f_X3_read 50 (R_pores r) i10)))

def ok_X0_greatestPore_L14 (r : RS) (p1 : Int32) : Nat → Int32 → Int32 → Prop
  | 0, _, _ => False
  | n + 1, i10, i11 => (p1 < i10 → True) ∧ (¬ p1 < i10 → (ok_X0_greatestPore_L14 r p1 n (i10 + (1 : Int32)) (imax i11 (f_X3_read 50 (R_pores r) i10))))

def f_X0_greatestPore (N : Nat) (r : RS) (p0 : Int32) (p1 : Int32) : Int32 :=
  f_X0_greatestPore_L14 r p1 N (p0 + (1 : Int32)) (f_X3_read 50 (R_pores r) p0)

def ok_X0_greatestPore (N : Nat) (r : RS) (p0 : Int32) (p1 : Int32) : Prop :=
  (ok_X0_greatestPore_L14 r p1 N (p0 + (1 : Int32)) (f_X3_read 50 (R_pores r) p0)) ∧ True

abbrev RM_X0_greatestPore : Room := { frames := 1, cells := 0, slots := 0, locals := 24 }
set_option maxRecDepth 100000 in
set_option maxHeartbeats 4000000 in
theorem c_X0_greatestPore (l : Launch) (D : va_G) (q : Nat → ClassId) (sz : Nat) (kr : Nat → Nat) (r : RS) (p0 : Int32) (p1 : Int32) (N : Nat) (hok : ok_X0_greatestPore N r p0 p1) : Met l yX0_greatestPore (Cond.code yX0_greatestPore cX0_greatestPore 5 (some .int) :: ALL) RM_X0_greatestPore (PC D q [.ref (kr 0), .int p0, .int p1] (cRock kr q r) sz) (va_Qi (fun (rv : Int32) (_ : Unit) => f_X0_greatestPore N r p0 p1 = rv) (fun _ _ => True) (fun _ => False)) 0 0 (fun _ => False) := by
  refine en_iR (by decide +kernel) (Nat.le_of_ble_eq_true rfl) ?_
  intro p e s m args below meth c Q A H locs ls fx hD0 hP hS hl hret
  have hx := fx.1
  have hb := fx.2.1
  have hl : lv_has ls 5 [(0, .ref (kr 0)), (1, .int p0), (2, .int p1)] := hl
  have hD : ∀ (r9 : RS), va_D _ (cRock kr q r9) := fun _ => D_same ((fst_Rock _ _ _).trans (fst_Rock _ _ _).symm) hD0
  have ht : f_X0_greatestPore N r p0 p1 = f_X0_greatestPore N r p0 p1 := rfl
  simp only [ok_X0_greatestPore] at hok
  refine lv_aload_n hx hb dX0_greatestPore_0 rfl (lv_at hl 0 rfl) ?_
  refine gf_X0_9 fx hP 0 rfl dX0_greatestPore_1 ?_
  refine lv_iload_n hx hb dX0_greatestPore_4 rfl (lv_at hl 1 rfl) ?_
  refine kR_i (runSN fx (As := [.ref (kr 1), .int p0]) (rest := []) (c_X3_read l D q H.size (kr 1) 50 (Nat.le_of_ble_eq_true rfl) (R_pores r) p0) lk_X0_41 ⟨Nat.le_of_ble_eq_true rfl, Nat.le_of_ble_eq_true rfl⟩ ⟨rfl, rfl⟩ hP (hD _) [1] rfl rfl rfl hl.1 rfl (Nat.le_of_ble_eq_true rfl) dX0_greatestPore_5 ⟨Nat.zero_le _, Nat.zero_le _⟩) hP hS (fun r1 _ H locs hr2 hP hS => ?_)
  subst hr2
  refine lv_istore_n (lv' := [(3, .int (f_X3_read 50 (R_pores r) p0)), (0, .ref (kr 0)), (1, .int p0), (2, .int p1)]) hx hb dX0_greatestPore_8 rfl hl (by decide) rfl (fun ls hl => ?_)
  refine lv_iload_n hx hb dX0_greatestPore_9 rfl (lv_at hl 2 rfl) ?_
  refine lv_iconst (v := 1) hx hb dX0_greatestPore_10 (by decide) ?_
  refine lv_iadd hx hb dX0_greatestPore_11 ?_
  refine lv_istore (lv' := [(4, .int (p0 + (1 : Int32))), (3, .int (f_X3_read 50 (R_pores r) p0)), (0, .ref (kr 0)), (1, .int p0), (2, .int p1)]) hx hb dX0_greatestPore_12 hl (by decide) rfl (fun ls hl => ?_)
  obtain ⟨hokL, hok⟩ := hok
  obtain ⟨z14, hz14⟩ : ∃ z, f_X0_greatestPore_L14 r p1 N (p0 + (1 : Int32)) (f_X3_read 50 (R_pores r) p0) = z := ⟨_, rfl⟩
  suffices KJ14 : ∀ (H : Heap) (locs : List Loc) (ls : Array Slot), va_P D vwCl (cRock kr q r) H → va_S A s.heap H locs → lv_has ls 5 [(0, .ref (kr 0)), (3, .int z14)] → W p l e RM_X0_greatestPore s m args below meth c H locs 0 0 Q (F0 m 40 ls []) by
    have LP14 : ∀ (n : Nat) (i10 : Int32) (i11 : Int32) (H : Heap) (locs : List Loc) (ls : Array Slot), ok_X0_greatestPore_L14 r p1 n i10 i11 → f_X0_greatestPore_L14 r p1 n i10 i11 = z14 → va_P D vwCl (cRock kr q r) H → va_S A s.heap H locs → lv_has ls 5 [(0, .ref (kr 0)), (2, .int p1), (3, .int i11), (4, .int i10)] → W p l e RM_X0_greatestPore s m args below meth c H locs 0 0 Q (F0 m 14 ls []) := by
      intro n
      induction n with
      | zero =>
        intro i10 i11 H locs ls hok
        exact (hok : False).elim
      | succ n ih14 =>
        intro i10 i11 H locs ls hok ht hP hS hl
        simp only [ok_X0_greatestPore_L14] at hok
        refine lv_iload hx hb dX0_greatestPore_14 (lv_at hl 3 rfl) ?_
        refine lv_iload_n hx hb dX0_greatestPore_16 rfl (lv_at hl 1 rfl) ?_
        refine lv_icmp_gt (tgt := 40) hx hb dX0_greatestPore_17 (by decide) (fun c12 => ?_) (fun c12 => ?_)
        · have hok := hok.1 c12
          have hv9 := ht.symm.trans (show _ = i11 by simp only [f_X0_greatestPore_L14, if_pos c12])
          subst hv9
          exact KJ14 H locs ls hP hS (lv_sub hl [0, 2] rfl)
        · have hok := hok.2 c12
          refine lv_iload_n hx hb dX0_greatestPore_20 rfl (lv_at hl 2 rfl) ?_
          refine lv_aload_n hx hb dX0_greatestPore_21 rfl (lv_at hl 0 rfl) ?_
          refine gf_X0_9 fx hP 0 rfl dX0_greatestPore_22 ?_
          refine lv_iload hx hb dX0_greatestPore_25 (lv_at hl 3 rfl) ?_
          refine kR_i (runSN fx (As := [.ref (kr 1), .int i10]) (rest := [.int i11]) (c_X3_read l D q H.size (kr 1) 50 (Nat.le_of_ble_eq_true rfl) (R_pores r) i10) lk_X0_41 ⟨Nat.le_of_ble_eq_true rfl, Nat.le_of_ble_eq_true rfl⟩ ⟨rfl, rfl⟩ hP (hD _) [1] rfl rfl rfl hl.1 rfl (Nat.le_of_ble_eq_true rfl) dX0_greatestPore_27 ⟨Nat.zero_le _, Nat.zero_le _⟩) hP hS (fun r13 _ H locs hr14 hP hS => ?_)
          subst hr14
          refine kimax fx mm_13 hl.1 (Nat.le_of_ble_eq_true rfl) (Nat.le_of_ble_eq_true rfl) (Nat.zero_le _) (Nat.zero_le _) dX0_greatestPore_30 ?_
          refine lv_istore_n (lv' := [(3, .int (imax i11 (f_X3_read 50 (R_pores r) i10))), (0, .ref (kr 0)), (2, .int p1), (4, .int i10)]) hx hb dX0_greatestPore_33 rfl hl (by decide) rfl (fun ls hl => ?_)
          refine lv_iinc (v := i10 + (1 : Int32)) (lv' := [(4, .int (i10 + (1 : Int32))), (3, .int (imax i11 (f_X3_read 50 (R_pores r) i10))), (0, .ref (kr 0)), (2, .int p1)]) hx hb dX0_greatestPore_34 hl (k := 3) rfl rfl (by decide) rfl (fun ls hl => ?_)
          refine lv_goto (tgt := 14) hx hb dX0_greatestPore_37 (by decide) ?_
          exact ih14 (i10 + (1 : Int32)) (imax i11 (f_X3_read 50 (R_pores r) i10)) H locs ls hok ((show f_X0_greatestPore_L14 r p1 (n + 1) i10 i11 = _ by simp only [f_X0_greatestPore_L14, if_neg c12]).symm.trans ht) hP hS (lv_sub hl [2, 3, 1, 0] rfl)
    exact LP14 N (p0 + (1 : Int32)) (f_X3_read 50 (R_pores r) p0) H locs ls hokL hz14 hP hS (lv_sub hl [2, 4, 1, 0] rfl)
  intro H locs ls hP hS hl
  subst hz14
  refine lv_iload_n hx hb dX0_greatestPore_40 rfl (lv_at hl 1 rfl) ?_
  exact hret (f_X0_greatestPore_L14 r p1 N (p0 + (1 : Int32)) (f_X3_read 50 (R_pores r) p0)) _ _ _ _ dX0_greatestPore_41 (ht.trans (by simp only [f_X0_greatestPore])) hS

/-! X0_leastBreak -/
def f_X0_leastBreak_L14 (r : RS) (p1 : Int32) : Nat → Int32 → Int32 → Int32
  | 0, _, i11 => i11
  | n + 1, i10, i11 => if p1 < i10 then i11 else (f_X0_leastBreak_L14 r p1 n (i10 + (1 : Int32)) (imin i11 (f_X3_read 50 (R_breaks r) i10)))

def ok_X0_leastBreak_L14 (r : RS) (p1 : Int32) : Nat → Int32 → Int32 → Prop
  | 0, _, _ => False
  | n + 1, i10, i11 => (p1 < i10 → True) ∧ (¬ p1 < i10 → (ok_X0_leastBreak_L14 r p1 n (i10 + (1 : Int32)) (imin i11 (f_X3_read 50 (R_breaks r) i10))))

def f_X0_leastBreak (N : Nat) (r : RS) (p0 : Int32) (p1 : Int32) : Int32 :=
  f_X0_leastBreak_L14 r p1 N (p0 + (1 : Int32)) (f_X3_read 50 (R_breaks r) p0)

def ok_X0_leastBreak (N : Nat) (r : RS) (p0 : Int32) (p1 : Int32) : Prop :=
  (ok_X0_leastBreak_L14 r p1 N (p0 + (1 : Int32)) (f_X3_read 50 (R_breaks r) p0)) ∧ True

abbrev RM_X0_leastBreak : Room := { frames := 1, cells := 0, slots := 0, locals := 24 }
set_option maxRecDepth 100000 in
set_option maxHeartbeats 4000000 in
theorem c_X0_leastBreak (l : Launch) (D : va_G) (q : Nat → ClassId) (sz : Nat) (kr : Nat → Nat) (r : RS) (p0 : Int32) (p1 : Int32) (N : Nat) (hok : ok_X0_leastBreak N r p0 p1) : Met l yX0_leastBreak (Cond.code yX0_leastBreak cX0_leastBreak 5 (some .int) :: ALL) RM_X0_leastBreak (PC D q [.ref (kr 0), .int p0, .int p1] (cRock kr q r) sz) (va_Qi (fun (rv : Int32) (_ : Unit) => f_X0_leastBreak N r p0 p1 = rv) (fun _ _ => True) (fun _ => False)) 0 0 (fun _ => False) := by
  refine en_iR (by decide +kernel) (Nat.le_of_ble_eq_true rfl) ?_
  intro p e s m args below meth c Q A H locs ls fx hD0 hP hS hl hret
  have hx := fx.1
  have hb := fx.2.1
  have hl : lv_has ls 5 [(0, .ref (kr 0)), (1, .int p0), (2, .int p1)] := hl
  have hD : ∀ (r9 : RS), va_D _ (cRock kr q r9) := fun _ => D_same ((fst_Rock _ _ _).trans (fst_Rock _ _ _).symm) hD0
  have ht : f_X0_leastBreak N r p0 p1 = f_X0_leastBreak N r p0 p1 := rfl
  simp only [ok_X0_leastBreak] at hok
  refine lv_aload_n hx hb dX0_leastBreak_0 rfl (lv_at hl 0 rfl) ?_
  refine gf_X0_15 fx hP 0 rfl dX0_leastBreak_1 ?_
  refine lv_iload_n hx hb dX0_leastBreak_4 rfl (lv_at hl 1 rfl) ?_
  refine kR_i (runSN fx (As := [.ref (kr 2), .int p0]) (rest := []) (c_X3_read l D q H.size (kr 2) 50 (Nat.le_of_ble_eq_true rfl) (R_breaks r) p0) lk_X0_41 ⟨Nat.le_of_ble_eq_true rfl, Nat.le_of_ble_eq_true rfl⟩ ⟨rfl, rfl⟩ hP (hD _) [2] rfl rfl rfl hl.1 rfl (Nat.le_of_ble_eq_true rfl) dX0_leastBreak_5 ⟨Nat.zero_le _, Nat.zero_le _⟩) hP hS (fun r1 _ H locs hr2 hP hS => ?_)
  subst hr2
  refine lv_istore_n (lv' := [(3, .int (f_X3_read 50 (R_breaks r) p0)), (0, .ref (kr 0)), (1, .int p0), (2, .int p1)]) hx hb dX0_leastBreak_8 rfl hl (by decide) rfl (fun ls hl => ?_)
  refine lv_iload_n hx hb dX0_leastBreak_9 rfl (lv_at hl 2 rfl) ?_
  refine lv_iconst (v := 1) hx hb dX0_leastBreak_10 (by decide) ?_
  refine lv_iadd hx hb dX0_leastBreak_11 ?_
  refine lv_istore (lv' := [(4, .int (p0 + (1 : Int32))), (3, .int (f_X3_read 50 (R_breaks r) p0)), (0, .ref (kr 0)), (1, .int p0), (2, .int p1)]) hx hb dX0_leastBreak_12 hl (by decide) rfl (fun ls hl => ?_)
  obtain ⟨hokL, hok⟩ := hok
  obtain ⟨z14, hz14⟩ : ∃ z, f_X0_leastBreak_L14 r p1 N (p0 + (1 : Int32)) (f_X3_read 50 (R_breaks r) p0) = z := ⟨_, rfl⟩
  suffices KJ14 : ∀ (H : Heap) (locs : List Loc) (ls : Array Slot), va_P D vwCl (cRock kr q r) H → va_S A s.heap H locs → lv_has ls 5 [(0, .ref (kr 0)), (3, .int z14)] → W p l e RM_X0_leastBreak s m args below meth c H locs 0 0 Q (F0 m 40 ls []) by
    have LP14 : ∀ (n : Nat) (i10 : Int32) (i11 : Int32) (H : Heap) (locs : List Loc) (ls : Array Slot), ok_X0_leastBreak_L14 r p1 n i10 i11 → f_X0_leastBreak_L14 r p1 n i10 i11 = z14 → va_P D vwCl (cRock kr q r) H → va_S A s.heap H locs → lv_has ls 5 [(0, .ref (kr 0)), (2, .int p1), (3, .int i11), (4, .int i10)] → W p l e RM_X0_leastBreak s m args below meth c H locs 0 0 Q (F0 m 14 ls []) := by
      intro n
      induction n with
      | zero =>
        intro i10 i11 H locs ls hok
        exact (hok : False).elim
      | succ n ih14 =>
        intro i10 i11 H locs ls hok ht hP hS hl
        simp only [ok_X0_leastBreak_L14] at hok
        refine lv_iload hx hb dX0_leastBreak_14 (lv_at hl 3 rfl) ?_
        refine lv_iload_n hx hb dX0_leastBreak_16 rfl (lv_at hl 1 rfl) ?_
        refine lv_icmp_gt (tgt := 40) hx hb dX0_leastBreak_17 (by decide) (fun c12 => ?_) (fun c12 => ?_)
        · have hok := hok.1 c12
          have hv9 := ht.symm.trans (show _ = i11 by simp only [f_X0_leastBreak_L14, if_pos c12])
          subst hv9
          exact KJ14 H locs ls hP hS (lv_sub hl [0, 2] rfl)
        · have hok := hok.2 c12
          refine lv_iload_n hx hb dX0_leastBreak_20 rfl (lv_at hl 2 rfl) ?_
          refine lv_aload_n hx hb dX0_leastBreak_21 rfl (lv_at hl 0 rfl) ?_
          refine gf_X0_15 fx hP 0 rfl dX0_leastBreak_22 ?_
          refine lv_iload hx hb dX0_leastBreak_25 (lv_at hl 3 rfl) ?_
          refine kR_i (runSN fx (As := [.ref (kr 2), .int i10]) (rest := [.int i11]) (c_X3_read l D q H.size (kr 2) 50 (Nat.le_of_ble_eq_true rfl) (R_breaks r) i10) lk_X0_41 ⟨Nat.le_of_ble_eq_true rfl, Nat.le_of_ble_eq_true rfl⟩ ⟨rfl, rfl⟩ hP (hD _) [2] rfl rfl rfl hl.1 rfl (Nat.le_of_ble_eq_true rfl) dX0_leastBreak_27 ⟨Nat.zero_le _, Nat.zero_le _⟩) hP hS (fun r13 _ H locs hr14 hP hS => ?_)
          subst hr14
          refine kimin fx mm_14 hl.1 (Nat.le_of_ble_eq_true rfl) (Nat.le_of_ble_eq_true rfl) (Nat.zero_le _) (Nat.zero_le _) dX0_leastBreak_30 ?_
          refine lv_istore_n (lv' := [(3, .int (imin i11 (f_X3_read 50 (R_breaks r) i10))), (0, .ref (kr 0)), (2, .int p1), (4, .int i10)]) hx hb dX0_leastBreak_33 rfl hl (by decide) rfl (fun ls hl => ?_)
          refine lv_iinc (v := i10 + (1 : Int32)) (lv' := [(4, .int (i10 + (1 : Int32))), (3, .int (imin i11 (f_X3_read 50 (R_breaks r) i10))), (0, .ref (kr 0)), (2, .int p1)]) hx hb dX0_leastBreak_34 hl (k := 3) rfl rfl (by decide) rfl (fun ls hl => ?_)
          refine lv_goto (tgt := 14) hx hb dX0_leastBreak_37 (by decide) ?_
          exact ih14 (i10 + (1 : Int32)) (imin i11 (f_X3_read 50 (R_breaks r) i10)) H locs ls hok ((show f_X0_leastBreak_L14 r p1 (n + 1) i10 i11 = _ by simp only [f_X0_leastBreak_L14, if_neg c12]).symm.trans ht) hP hS (lv_sub hl [2, 3, 1, 0] rfl)
    exact LP14 N (p0 + (1 : Int32)) (f_X3_read 50 (R_breaks r) p0) H locs ls hokL hz14 hP hS (lv_sub hl [2, 4, 1, 0] rfl)
  intro H locs ls hP hS hl
  subst hz14
  refine lv_iload_n hx hb dX0_leastBreak_40 rfl (lv_at hl 1 rfl) ?_
  exact hret (f_X0_leastBreak_L14 r p1 N (p0 + (1 : Int32)) (f_X3_read 50 (R_breaks r) p0)) _ _ _ _ dX0_leastBreak_41 (ht.trans (by simp only [f_X0_leastBreak])) hS

/-! X0_piecesFromAbove -/
def f_X0_piecesFromAbove_L12 (r : RS) (p0 : Int32) : Nat → Int32 → Int32 → Int32 → Int32 → Int32
  | 0, i14, i15, i16, i17 => 0
  | n + 1, i14, i15, i16, i17 => if p0 < i14 then i17 else (if (f_X3_read 50 (R_pores r) i14) ≤ (f_X3_read 50 (R_breaks r) i14) then (if (imax i16 (f_X3_read 50 (R_pores r) i14)) ≤ (imin i15 (f_X3_read 50 (R_breaks r) i14)) then (f_X0_piecesFromAbove_L12 r p0 n (i14 + (1 : Int32)) (imin i15 (f_X3_read 50 (R_breaks r) i14)) (imax i16 (f_X3_read 50 (R_pores r) i14)) i17) else (f_X0_piecesFromAbove_L12 r p0 n (i14 + (1 : Int32)) (f_X3_read 50 (R_breaks r) i14) (f_X3_read 50 (R_pores r) i14) (i17 + (1 : Int32)))) else (-1 : Int32))

def ok_X0_piecesFromAbove_L12 (r : RS) (p0 : Int32) : Nat → Int32 → Int32 → Int32 → Int32 → Prop
  | 0, _, _, _, _ => False
  | n + 1, i14, i15, i16, i17 => (p0 < i14 → True) ∧ (¬ p0 < i14 → (((f_X3_read 50 (R_pores r) i14) ≤ (f_X3_read 50 (R_breaks r) i14) → (((imax i16 (f_X3_read 50 (R_pores r) i14)) ≤ (imin i15 (f_X3_read 50 (R_breaks r) i14)) → (ok_X0_piecesFromAbove_L12 r p0 n (i14 + (1 : Int32)) (imin i15 (f_X3_read 50 (R_breaks r) i14)) (imax i16 (f_X3_read 50 (R_pores r) i14)) i17)) ∧ (¬ (imax i16 (f_X3_read 50 (R_pores r) i14)) ≤ (imin i15 (f_X3_read 50 (R_breaks r) i14)) → (ok_X0_piecesFromAbove_L12 r p0 n (i14 + (1 : Int32)) (f_X3_read 50 (R_breaks r) i14) (f_X3_read 50 (R_pores r) i14) (i17 + (1 : Int32)))))) ∧ (¬ (f_X3_read 50 (R_pores r) i14) ≤ (f_X3_read 50 (R_breaks r) i14) → True)))

def f_X0_piecesFromAbove (N : Nat) (r : RS) (p0 : Int32) : Int32 :=
  f_X0_piecesFromAbove_L12 r p0 N (0 : Int32) (300 : Int32) (0 : Int32) (1 : Int32)

def ok_X0_piecesFromAbove (N : Nat) (r : RS) (p0 : Int32) : Prop :=
  ok_X0_piecesFromAbove_L12 r p0 N (0 : Int32) (300 : Int32) (0 : Int32) (1 : Int32)

abbrev RM_X0_piecesFromAbove : Room := { frames := 1, cells := 0, slots := 0, locals := 24 }
set_option maxRecDepth 100000 in
set_option maxHeartbeats 4000000 in
theorem c_X0_piecesFromAbove (l : Launch) (D : va_G) (q : Nat → ClassId) (sz : Nat) (kr : Nat → Nat) (r : RS) (p0 : Int32) (N : Nat) (hok : ok_X0_piecesFromAbove N r p0) : Met l yX0_piecesFromAbove (Cond.code yX0_piecesFromAbove cX0_piecesFromAbove 8 (some .int) :: ALL) RM_X0_piecesFromAbove (PC D q [.ref (kr 0), .int p0] (cRock kr q r) sz) (va_Qi (fun (rv : Int32) (_ : Unit) => f_X0_piecesFromAbove N r p0 = rv) (fun _ _ => True) (fun _ => False)) 0 0 (fun _ => False) := by
  refine en_iR (by decide +kernel) (Nat.le_of_ble_eq_true rfl) ?_
  intro p e s m args below meth c Q A H locs ls fx hD0 hP hS hl hret
  have hx := fx.1
  have hb := fx.2.1
  have hl : lv_has ls 8 [(0, .ref (kr 0)), (1, .int p0)] := hl
  have hD : ∀ (r9 : RS), va_D _ (cRock kr q r9) := fun _ => D_same ((fst_Rock _ _ _).trans (fst_Rock _ _ _).symm) hD0
  have ht : f_X0_piecesFromAbove N r p0 = f_X0_piecesFromAbove N r p0 := rfl
  simp only [ok_X0_piecesFromAbove] at hok
  refine lv_iconst (v := 1) hx hb dX0_piecesFromAbove_0 (by decide) ?_
  refine lv_istore_n (lv' := [(2, .int (1 : Int32)), (0, .ref (kr 0)), (1, .int p0)]) hx hb dX0_piecesFromAbove_1 rfl hl (by decide) rfl (fun ls hl => ?_)
  refine lv_iconst (v := 0) hx hb dX0_piecesFromAbove_2 (by decide) ?_
  refine lv_istore_n (lv' := [(3, .int (0 : Int32)), (2, .int (1 : Int32)), (0, .ref (kr 0)), (1, .int p0)]) hx hb dX0_piecesFromAbove_3 rfl hl (by decide) rfl (fun ls hl => ?_)
  refine lv_sipush (v := 300) hx hb dX0_piecesFromAbove_4 (by decide) ?_
  refine lv_istore (lv' := [(4, .int (300 : Int32)), (3, .int (0 : Int32)), (2, .int (1 : Int32)), (0, .ref (kr 0)), (1, .int p0)]) hx hb dX0_piecesFromAbove_7 hl (by decide) rfl (fun ls hl => ?_)
  refine lv_iconst (v := 0) hx hb dX0_piecesFromAbove_9 (by decide) ?_
  refine lv_istore (lv' := [(5, .int (0 : Int32)), (4, .int (300 : Int32)), (3, .int (0 : Int32)), (2, .int (1 : Int32)), (0, .ref (kr 0)), (1, .int p0)]) hx hb dX0_piecesFromAbove_10 hl (by decide) rfl (fun ls hl => ?_)
  have LP12 : ∀ (n : Nat) (i14 : Int32) (i15 : Int32) (i16 : Int32) (i17 : Int32) (H : Heap) (locs : List Loc) (ls : Array Slot), ok_X0_piecesFromAbove_L12 r p0 n i14 i15 i16 i17 → f_X0_piecesFromAbove N r p0 = f_X0_piecesFromAbove_L12 r p0 n i14 i15 i16 i17 → va_P D vwCl (cRock kr q r) H → va_S A s.heap H locs → lv_has ls 8 [(0, .ref (kr 0)), (1, .int p0), (2, .int i17), (3, .int i16), (4, .int i15), (5, .int i14)] → W p l e RM_X0_piecesFromAbove s m args below meth c H locs 0 0 Q (F0 m 12 ls []) := by
    intro n
    induction n with
    | zero =>
      intro i14 i15 i16 i17 H locs ls hok
      exact (hok : False).elim
    | succ n ih12 =>
      intro i14 i15 i16 i17 H locs ls hok ht hP hS hl
      simp only [ok_X0_piecesFromAbove_L12] at hok
      refine lv_iload hx hb dX0_piecesFromAbove_12 (lv_at hl 5 rfl) ?_
      refine lv_iload_n hx hb dX0_piecesFromAbove_14 rfl (lv_at hl 1 rfl) ?_
      refine lv_icmp_gt (tgt := 87) hx hb dX0_piecesFromAbove_15 (by decide) (fun c18 => ?_) (fun c18 => ?_)
      · have hok := hok.1 c18
        refine lv_iload_n hx hb dX0_piecesFromAbove_87 rfl (lv_at hl 2 rfl) ?_
        exact hret i17 _ _ _ _ dX0_piecesFromAbove_88 (ht.trans (by simp only [f_X0_piecesFromAbove_L12, if_pos c18])) hS
      · have hok := hok.2 c18
        refine lv_aload_n hx hb dX0_piecesFromAbove_18 rfl (lv_at hl 0 rfl) ?_
        refine gf_X0_9 fx hP 0 rfl dX0_piecesFromAbove_19 ?_
        refine lv_iload hx hb dX0_piecesFromAbove_22 (lv_at hl 5 rfl) ?_
        refine kR_i (runSN fx (As := [.ref (kr 1), .int i14]) (rest := []) (c_X3_read l D q H.size (kr 1) 50 (Nat.le_of_ble_eq_true rfl) (R_pores r) i14) lk_X0_41 ⟨Nat.le_of_ble_eq_true rfl, Nat.le_of_ble_eq_true rfl⟩ ⟨rfl, rfl⟩ hP (hD _) [1] rfl rfl rfl hl.1 rfl (Nat.le_of_ble_eq_true rfl) dX0_piecesFromAbove_24 ⟨Nat.zero_le _, Nat.zero_le _⟩) hP hS (fun r19 _ H locs hr20 hP hS => ?_)
        subst hr20
        refine lv_istore (lv' := [(6, .int (f_X3_read 50 (R_pores r) i14)), (0, .ref (kr 0)), (1, .int p0), (2, .int i17), (3, .int i16), (4, .int i15), (5, .int i14)]) hx hb dX0_piecesFromAbove_27 hl (by decide) rfl (fun ls hl => ?_)
        refine lv_aload_n hx hb dX0_piecesFromAbove_29 rfl (lv_at hl 1 rfl) ?_
        refine gf_X0_15 fx hP 0 rfl dX0_piecesFromAbove_30 ?_
        refine lv_iload hx hb dX0_piecesFromAbove_33 (lv_at hl 6 rfl) ?_
        refine kR_i (runSN fx (As := [.ref (kr 2), .int i14]) (rest := []) (c_X3_read l D q H.size (kr 2) 50 (Nat.le_of_ble_eq_true rfl) (R_breaks r) i14) lk_X0_41 ⟨Nat.le_of_ble_eq_true rfl, Nat.le_of_ble_eq_true rfl⟩ ⟨rfl, rfl⟩ hP (hD _) [2] rfl rfl rfl hl.1 rfl (Nat.le_of_ble_eq_true rfl) dX0_piecesFromAbove_35 ⟨Nat.zero_le _, Nat.zero_le _⟩) hP hS (fun r21 _ H locs hr22 hP hS => ?_)
        subst hr22
        refine lv_istore (lv' := [(7, .int (f_X3_read 50 (R_breaks r) i14)), (6, .int (f_X3_read 50 (R_pores r) i14)), (0, .ref (kr 0)), (1, .int p0), (2, .int i17), (3, .int i16), (4, .int i15), (5, .int i14)]) hx hb dX0_piecesFromAbove_38 hl (by decide) rfl (fun ls hl => ?_)
        refine lv_iload hx hb dX0_piecesFromAbove_40 (lv_at hl 1 rfl) ?_
        refine lv_iload hx hb dX0_piecesFromAbove_42 (lv_at hl 0 rfl) ?_
        refine lv_icmp_le (tgt := 49) hx hb dX0_piecesFromAbove_44 (by decide) (fun c23 => ?_) (fun c23 => ?_)
        · have hok := hok.1 c23
          refine lv_iload_n hx hb dX0_piecesFromAbove_49 rfl (lv_at hl 5 rfl) ?_
          refine lv_iload hx hb dX0_piecesFromAbove_50 (lv_at hl 1 rfl) ?_
          refine kimax fx mm_13 hl.1 (Nat.le_of_ble_eq_true rfl) (Nat.le_of_ble_eq_true rfl) (Nat.zero_le _) (Nat.zero_le _) dX0_piecesFromAbove_52 ?_
          refine lv_istore_n (lv' := [(3, .int (imax i16 (f_X3_read 50 (R_pores r) i14))), (7, .int (f_X3_read 50 (R_breaks r) i14)), (6, .int (f_X3_read 50 (R_pores r) i14)), (0, .ref (kr 0)), (1, .int p0), (2, .int i17), (4, .int i15), (5, .int i14)]) hx hb dX0_piecesFromAbove_55 rfl hl (by decide) rfl (fun ls hl => ?_)
          refine lv_iload hx hb dX0_piecesFromAbove_56 (lv_at hl 6 rfl) ?_
          refine lv_iload hx hb dX0_piecesFromAbove_58 (lv_at hl 1 rfl) ?_
          refine kimin fx mm_14 hl.1 (Nat.le_of_ble_eq_true rfl) (Nat.le_of_ble_eq_true rfl) (Nat.zero_le _) (Nat.zero_le _) dX0_piecesFromAbove_60 ?_
          refine lv_istore (lv' := [(4, .int (imin i15 (f_X3_read 50 (R_breaks r) i14))), (3, .int (imax i16 (f_X3_read 50 (R_pores r) i14))), (7, .int (f_X3_read 50 (R_breaks r) i14)), (6, .int (f_X3_read 50 (R_pores r) i14)), (0, .ref (kr 0)), (1, .int p0), (2, .int i17), (5, .int i14)]) hx hb dX0_piecesFromAbove_63 hl (by decide) rfl (fun ls hl => ?_)
          refine lv_iload_n hx hb dX0_piecesFromAbove_65 rfl (lv_at hl 1 rfl) ?_
          refine lv_iload hx hb dX0_piecesFromAbove_66 (lv_at hl 0 rfl) ?_
          refine lv_icmp_le (tgt := 81) hx hb dX0_piecesFromAbove_68 (by decide) (fun c24 => ?_) (fun c24 => ?_)
          · have hok := hok.1 c24
            refine lv_iinc (v := i14 + (1 : Int32)) (lv' := [(5, .int (i14 + (1 : Int32))), (4, .int (imin i15 (f_X3_read 50 (R_breaks r) i14))), (3, .int (imax i16 (f_X3_read 50 (R_pores r) i14))), (7, .int (f_X3_read 50 (R_breaks r) i14)), (6, .int (f_X3_read 50 (R_pores r) i14)), (0, .ref (kr 0)), (1, .int p0), (2, .int i17)]) hx hb dX0_piecesFromAbove_81 hl (k := 7) rfl rfl (by decide) rfl (fun ls hl => ?_)
            refine lv_goto (tgt := 12) hx hb dX0_piecesFromAbove_84 (by decide) ?_
            exact ih12 (i14 + (1 : Int32)) (imin i15 (f_X3_read 50 (R_breaks r) i14)) (imax i16 (f_X3_read 50 (R_pores r) i14)) i17 H locs ls hok (ht.trans (by simp only [f_X0_piecesFromAbove_L12, if_neg c18, if_pos c23, if_pos c24])) hP hS (lv_sub hl [5, 6, 7, 2, 1, 0] rfl)
          · have hok := hok.2 c24
            refine lv_iinc (v := i17 + (1 : Int32)) (lv' := [(2, .int (i17 + (1 : Int32))), (4, .int (imin i15 (f_X3_read 50 (R_breaks r) i14))), (3, .int (imax i16 (f_X3_read 50 (R_pores r) i14))), (7, .int (f_X3_read 50 (R_breaks r) i14)), (6, .int (f_X3_read 50 (R_pores r) i14)), (0, .ref (kr 0)), (1, .int p0), (5, .int i14)]) hx hb dX0_piecesFromAbove_71 hl (k := 6) rfl rfl (by decide) rfl (fun ls hl => ?_)
            refine lv_iload hx hb dX0_piecesFromAbove_74 (lv_at hl 4 rfl) ?_
            refine lv_istore_n (lv' := [(3, .int (f_X3_read 50 (R_pores r) i14)), (2, .int (i17 + (1 : Int32))), (4, .int (imin i15 (f_X3_read 50 (R_breaks r) i14))), (7, .int (f_X3_read 50 (R_breaks r) i14)), (6, .int (f_X3_read 50 (R_pores r) i14)), (0, .ref (kr 0)), (1, .int p0), (5, .int i14)]) hx hb dX0_piecesFromAbove_76 rfl hl (by decide) rfl (fun ls hl => ?_)
            refine lv_iload hx hb dX0_piecesFromAbove_77 (lv_at hl 3 rfl) ?_
            refine lv_istore (lv' := [(4, .int (f_X3_read 50 (R_breaks r) i14)), (3, .int (f_X3_read 50 (R_pores r) i14)), (2, .int (i17 + (1 : Int32))), (7, .int (f_X3_read 50 (R_breaks r) i14)), (6, .int (f_X3_read 50 (R_pores r) i14)), (0, .ref (kr 0)), (1, .int p0), (5, .int i14)]) hx hb dX0_piecesFromAbove_79 hl (by decide) rfl (fun ls hl => ?_)
            refine lv_iinc (v := i14 + (1 : Int32)) (lv' := [(5, .int (i14 + (1 : Int32))), (4, .int (f_X3_read 50 (R_breaks r) i14)), (3, .int (f_X3_read 50 (R_pores r) i14)), (2, .int (i17 + (1 : Int32))), (7, .int (f_X3_read 50 (R_breaks r) i14)), (6, .int (f_X3_read 50 (R_pores r) i14)), (0, .ref (kr 0)), (1, .int p0)]) hx hb dX0_piecesFromAbove_81 hl (k := 7) rfl rfl (by decide) rfl (fun ls hl => ?_)
            refine lv_goto (tgt := 12) hx hb dX0_piecesFromAbove_84 (by decide) ?_
            exact ih12 (i14 + (1 : Int32)) (f_X3_read 50 (R_breaks r) i14) (f_X3_read 50 (R_pores r) i14) (i17 + (1 : Int32)) H locs ls hok (ht.trans (by simp only [f_X0_piecesFromAbove_L12, if_neg c18, if_pos c23, if_neg c24])) hP hS (lv_sub hl [6, 7, 3, 2, 1, 0] rfl)
        · have hok := hok.2 c23
          refine lv_iconst (v := -1) hx hb dX0_piecesFromAbove_47 (by decide) ?_
          exact hret (-1 : Int32) _ _ _ _ dX0_piecesFromAbove_48 (ht.trans (by simp only [f_X0_piecesFromAbove_L12, if_neg c18, if_neg c23])) hS
  exact LP12 N (0 : Int32) (300 : Int32) (0 : Int32) (1 : Int32) H locs ls hok (ht.trans (by simp only [f_X0_piecesFromAbove])) hP hS (lv_sub hl [4, 5, 3, 2, 1, 0] rfl)

/-! X0_leastPiecesTo -/
def f_X0_leastPiecesTo_L12 (r : RS) : Nat → Int32 → Int32 → Int32 → Int32 → Int32
  | 0, _, _, _, i26 => i26
  | n + 1, i23, i24, i25, i26 => if i23 < 0 then i26 else (if (if (imin i24 (f_X3_read 50 (R_breaks r) i23)) < (imax i25 (f_X3_read 50 (R_pores r) i23)) then (0 : Int32) else (if (if i23 = 0 then (0 : Int32) else f_X3_read 50 (R_pieces r) (i23 - (1 : Int32))) = (-1 : Int32) then (0 : Int32) else (1 : Int32))) = 0 then (f_X0_leastPiecesTo_L12 r n (i23 + (-1 : Int32)) (imin i24 (f_X3_read 50 (R_breaks r) i23)) (imax i25 (f_X3_read 50 (R_pores r) i23)) i26) else (if i26 = (-1 : Int32) then (f_X0_leastPiecesTo_L12 r n (i23 + (-1 : Int32)) (imin i24 (f_X3_read 50 (R_breaks r) i23)) (imax i25 (f_X3_read 50 (R_pores r) i23)) ((if i23 = 0 then (0 : Int32) else f_X3_read 50 (R_pieces r) (i23 - (1 : Int32))) + (1 : Int32))) else (if i26 ≤ ((if i23 = 0 then (0 : Int32) else f_X3_read 50 (R_pieces r) (i23 - (1 : Int32))) + (1 : Int32)) then (f_X0_leastPiecesTo_L12 r n (i23 + (-1 : Int32)) (imin i24 (f_X3_read 50 (R_breaks r) i23)) (imax i25 (f_X3_read 50 (R_pores r) i23)) i26) else (f_X0_leastPiecesTo_L12 r n (i23 + (-1 : Int32)) (imin i24 (f_X3_read 50 (R_breaks r) i23)) (imax i25 (f_X3_read 50 (R_pores r) i23)) ((if i23 = 0 then (0 : Int32) else f_X3_read 50 (R_pieces r) (i23 - (1 : Int32))) + (1 : Int32))))))

def ok_X0_leastPiecesTo_L12 (r : RS) : Nat → Int32 → Int32 → Int32 → Int32 → Prop
  | 0, _, _, _, _ => False
  | n + 1, i23, i24, i25, i26 => (i23 < 0 → True) ∧ (¬ i23 < 0 → (((if (imin i24 (f_X3_read 50 (R_breaks r) i23)) < (imax i25 (f_X3_read 50 (R_pores r) i23)) then (0 : Int32) else (if (if i23 = 0 then (0 : Int32) else f_X3_read 50 (R_pieces r) (i23 - (1 : Int32))) = (-1 : Int32) then (0 : Int32) else (1 : Int32))) = 0 → (ok_X0_leastPiecesTo_L12 r n (i23 + (-1 : Int32)) (imin i24 (f_X3_read 50 (R_breaks r) i23)) (imax i25 (f_X3_read 50 (R_pores r) i23)) i26)) ∧ (¬ (if (imin i24 (f_X3_read 50 (R_breaks r) i23)) < (imax i25 (f_X3_read 50 (R_pores r) i23)) then (0 : Int32) else (if (if i23 = 0 then (0 : Int32) else f_X3_read 50 (R_pieces r) (i23 - (1 : Int32))) = (-1 : Int32) then (0 : Int32) else (1 : Int32))) = 0 → ((i26 = (-1 : Int32) → (ok_X0_leastPiecesTo_L12 r n (i23 + (-1 : Int32)) (imin i24 (f_X3_read 50 (R_breaks r) i23)) (imax i25 (f_X3_read 50 (R_pores r) i23)) ((if i23 = 0 then (0 : Int32) else f_X3_read 50 (R_pieces r) (i23 - (1 : Int32))) + (1 : Int32)))) ∧ (¬ i26 = (-1 : Int32) → ((i26 ≤ ((if i23 = 0 then (0 : Int32) else f_X3_read 50 (R_pieces r) (i23 - (1 : Int32))) + (1 : Int32)) → (ok_X0_leastPiecesTo_L12 r n (i23 + (-1 : Int32)) (imin i24 (f_X3_read 50 (R_breaks r) i23)) (imax i25 (f_X3_read 50 (R_pores r) i23)) i26)) ∧ (¬ i26 ≤ ((if i23 = 0 then (0 : Int32) else f_X3_read 50 (R_pieces r) (i23 - (1 : Int32))) + (1 : Int32)) → (ok_X0_leastPiecesTo_L12 r n (i23 + (-1 : Int32)) (imin i24 (f_X3_read 50 (R_breaks r) i23)) (imax i25 (f_X3_read 50 (R_pores r) i23)) ((if i23 = 0 then (0 : Int32) else f_X3_read 50 (R_pieces r) (i23 - (1 : Int32))) + (1 : Int32))))))))))

def f_X0_leastPiecesTo (N : Nat) (r : RS) (p0 : Int32) : Int32 :=
  f_X0_leastPiecesTo_L12 r N p0 (300 : Int32) (0 : Int32) (-1 : Int32)

def ok_X0_leastPiecesTo (N : Nat) (r : RS) (p0 : Int32) : Prop :=
  (ok_X0_leastPiecesTo_L12 r N p0 (300 : Int32) (0 : Int32) (-1 : Int32)) ∧ True

abbrev RM_X0_leastPiecesTo : Room := { frames := 1, cells := 0, slots := 0, locals := 24 }
set_option maxRecDepth 100000 in
set_option maxHeartbeats 4000000 in
theorem c_X0_leastPiecesTo (l : Launch) (D : va_G) (q : Nat → ClassId) (sz : Nat) (kr : Nat → Nat) (r : RS) (p0 : Int32) (N : Nat) (hok : ok_X0_leastPiecesTo N r p0) : Met l yX0_leastPiecesTo (Cond.code yX0_leastPiecesTo cX0_leastPiecesTo 8 (some .int) :: ALL) RM_X0_leastPiecesTo (PC D q [.ref (kr 0), .int p0] (cRock kr q r) sz) (va_Qi (fun (rv : Int32) (_ : Unit) => f_X0_leastPiecesTo N r p0 = rv) (fun _ _ => True) (fun _ => False)) 0 0 (fun _ => False) := by
  refine en_iR (by decide +kernel) (Nat.le_of_ble_eq_true rfl) ?_
  intro p e s m args below meth c Q A H locs ls fx hD0 hP hS hl hret
  have hx := fx.1
  have hb := fx.2.1
  have hl : lv_has ls 8 [(0, .ref (kr 0)), (1, .int p0)] := hl
  have hD : ∀ (r9 : RS), va_D _ (cRock kr q r9) := fun _ => D_same ((fst_Rock _ _ _).trans (fst_Rock _ _ _).symm) hD0
  have ht : f_X0_leastPiecesTo N r p0 = f_X0_leastPiecesTo N r p0 := rfl
  simp only [ok_X0_leastPiecesTo] at hok
  refine lv_iconst (v := -1) hx hb dX0_leastPiecesTo_0 (by decide) ?_
  refine lv_istore_n (lv' := [(2, .int (-1 : Int32)), (0, .ref (kr 0)), (1, .int p0)]) hx hb dX0_leastPiecesTo_1 rfl hl (by decide) rfl (fun ls hl => ?_)
  refine lv_iconst (v := 0) hx hb dX0_leastPiecesTo_2 (by decide) ?_
  refine lv_istore_n (lv' := [(3, .int (0 : Int32)), (2, .int (-1 : Int32)), (0, .ref (kr 0)), (1, .int p0)]) hx hb dX0_leastPiecesTo_3 rfl hl (by decide) rfl (fun ls hl => ?_)
  refine lv_sipush (v := 300) hx hb dX0_leastPiecesTo_4 (by decide) ?_
  refine lv_istore (lv' := [(4, .int (300 : Int32)), (3, .int (0 : Int32)), (2, .int (-1 : Int32)), (0, .ref (kr 0)), (1, .int p0)]) hx hb dX0_leastPiecesTo_7 hl (by decide) rfl (fun ls hl => ?_)
  refine lv_iload_n hx hb dX0_leastPiecesTo_9 rfl (lv_at hl 4 rfl) ?_
  refine lv_istore (lv' := [(5, .int p0), (4, .int (300 : Int32)), (3, .int (0 : Int32)), (2, .int (-1 : Int32)), (0, .ref (kr 0)), (1, .int p0)]) hx hb dX0_leastPiecesTo_10 hl (by decide) rfl (fun ls hl => ?_)
  obtain ⟨hokL, hok⟩ := hok
  obtain ⟨z12, hz12⟩ : ∃ z, f_X0_leastPiecesTo_L12 r N p0 (300 : Int32) (0 : Int32) (-1 : Int32) = z := ⟨_, rfl⟩
  suffices KJ12 : ∀ (H : Heap) (locs : List Loc) (ls : Array Slot), va_P D vwCl (cRock kr q r) H → va_S A s.heap H locs → lv_has ls 8 [(0, .ref (kr 0)), (2, .int z12)] → W p l e RM_X0_leastPiecesTo s m args below meth c H locs 0 0 Q (F0 m 117 ls []) by
    have LP12 : ∀ (n : Nat) (i23 : Int32) (i24 : Int32) (i25 : Int32) (i26 : Int32) (H : Heap) (locs : List Loc) (ls : Array Slot), ok_X0_leastPiecesTo_L12 r n i23 i24 i25 i26 → f_X0_leastPiecesTo_L12 r n i23 i24 i25 i26 = z12 → va_P D vwCl (cRock kr q r) H → va_S A s.heap H locs → lv_has ls 8 [(0, .ref (kr 0)), (2, .int i26), (3, .int i25), (4, .int i24), (5, .int i23)] → W p l e RM_X0_leastPiecesTo s m args below meth c H locs 0 0 Q (F0 m 12 ls []) := by
      intro n
      induction n with
      | zero =>
        intro i23 i24 i25 i26 H locs ls hok
        exact (hok : False).elim
      | succ n ih12 =>
        intro i23 i24 i25 i26 H locs ls hok ht hP hS hl
        simp only [ok_X0_leastPiecesTo_L12] at hok
        refine lv_iload hx hb dX0_leastPiecesTo_12 (lv_at hl 4 rfl) ?_
        refine lv_if_lt (tgt := 117) hx hb dX0_leastPiecesTo_14 (by decide) (fun c27 => ?_) (fun c27 => ?_)
        · have hok := hok.1 c27
          have hv9 := ht.symm.trans (show _ = i26 by simp only [f_X0_leastPiecesTo_L12, if_pos c27])
          subst hv9
          exact KJ12 H locs ls hP hS (lv_sub hl [0, 1] rfl)
        · have hok := hok.2 c27
          refine lv_iload_n hx hb dX0_leastPiecesTo_17 rfl (lv_at hl 2 rfl) ?_
          refine lv_aload_n hx hb dX0_leastPiecesTo_18 rfl (lv_at hl 0 rfl) ?_
          refine gf_X0_9 fx hP 0 rfl dX0_leastPiecesTo_19 ?_
          refine lv_iload hx hb dX0_leastPiecesTo_22 (lv_at hl 4 rfl) ?_
          refine kR_i (runSN fx (As := [.ref (kr 1), .int i23]) (rest := [.int i25]) (c_X3_read l D q H.size (kr 1) 50 (Nat.le_of_ble_eq_true rfl) (R_pores r) i23) lk_X0_41 ⟨Nat.le_of_ble_eq_true rfl, Nat.le_of_ble_eq_true rfl⟩ ⟨rfl, rfl⟩ hP (hD _) [1] rfl rfl rfl hl.1 rfl (Nat.le_of_ble_eq_true rfl) dX0_leastPiecesTo_24 ⟨Nat.zero_le _, Nat.zero_le _⟩) hP hS (fun r28 _ H locs hr29 hP hS => ?_)
          subst hr29
          refine kimax fx mm_13 hl.1 (Nat.le_of_ble_eq_true rfl) (Nat.le_of_ble_eq_true rfl) (Nat.zero_le _) (Nat.zero_le _) dX0_leastPiecesTo_27 ?_
          refine lv_istore_n (lv' := [(3, .int (imax i25 (f_X3_read 50 (R_pores r) i23))), (0, .ref (kr 0)), (2, .int i26), (4, .int i24), (5, .int i23)]) hx hb dX0_leastPiecesTo_30 rfl hl (by decide) rfl (fun ls hl => ?_)
          refine lv_iload hx hb dX0_leastPiecesTo_31 (lv_at hl 3 rfl) ?_
          refine lv_aload_n hx hb dX0_leastPiecesTo_33 rfl (lv_at hl 1 rfl) ?_
          refine gf_X0_15 fx hP 0 rfl dX0_leastPiecesTo_34 ?_
          refine lv_iload hx hb dX0_leastPiecesTo_37 (lv_at hl 4 rfl) ?_
          refine kR_i (runSN fx (As := [.ref (kr 2), .int i23]) (rest := [.int i24]) (c_X3_read l D q H.size (kr 2) 50 (Nat.le_of_ble_eq_true rfl) (R_breaks r) i23) lk_X0_41 ⟨Nat.le_of_ble_eq_true rfl, Nat.le_of_ble_eq_true rfl⟩ ⟨rfl, rfl⟩ hP (hD _) [2] rfl rfl rfl hl.1 rfl (Nat.le_of_ble_eq_true rfl) dX0_leastPiecesTo_39 ⟨Nat.zero_le _, Nat.zero_le _⟩) hP hS (fun r30 _ H locs hr31 hP hS => ?_)
          subst hr31
          refine kimin fx mm_14 hl.1 (Nat.le_of_ble_eq_true rfl) (Nat.le_of_ble_eq_true rfl) (Nat.zero_le _) (Nat.zero_le _) dX0_leastPiecesTo_42 ?_
          refine lv_istore (lv' := [(4, .int (imin i24 (f_X3_read 50 (R_breaks r) i23))), (3, .int (imax i25 (f_X3_read 50 (R_pores r) i23))), (0, .ref (kr 0)), (2, .int i26), (5, .int i23)]) hx hb dX0_leastPiecesTo_45 hl (by decide) rfl (fun ls hl => ?_)
          refine lv_iload hx hb dX0_leastPiecesTo_47 (lv_at hl 4 rfl) ?_
          suffices K : ∀ (v35 : Int32), ∀ (H : Heap) (locs : List Loc) (ls : Array Slot), v35 = (if i23 = 0 then (0 : Int32) else f_X3_read 50 (R_pieces r) (i23 - (1 : Int32))) → va_P D vwCl (cRock kr q r) H → va_S A s.heap H locs → lv_has ls 8 [(0, .ref (kr 0)), (2, .int i26), (3, .int (imax i25 (f_X3_read 50 (R_pores r) i23))), (4, .int (imin i24 (f_X3_read 50 (R_breaks r) i23))), (5, .int i23)] → W p l e RM_X0_leastPiecesTo s m args below meth c H locs 0 0 Q (F0 m 67 ls [.int v35]) by
            refine lv_if_ne (tgt := 56) hx hb dX0_leastPiecesTo_49 (by decide) (fun c32 => ?_) (fun c32 => ?_)
            · refine lv_aload_n hx hb dX0_leastPiecesTo_56 rfl (lv_at hl 2 rfl) ?_
              refine gf_X0_24 fx hP 0 rfl dX0_leastPiecesTo_57 ?_
              refine lv_iload hx hb dX0_leastPiecesTo_60 (lv_at hl 4 rfl) ?_
              refine lv_iconst (v := 1) hx hb dX0_leastPiecesTo_62 (by decide) ?_
              refine lv_isub hx hb dX0_leastPiecesTo_63 ?_
              refine kR_i (runSN fx (As := [.ref (kr 5), .int (i23 - (1 : Int32))]) (rest := []) (c_X3_read l D q H.size (kr 5) 50 (Nat.le_of_ble_eq_true rfl) (R_pieces r) (i23 - (1 : Int32))) lk_X0_41 ⟨Nat.le_of_ble_eq_true rfl, Nat.le_of_ble_eq_true rfl⟩ ⟨rfl, rfl⟩ hP (hD _) [5] rfl rfl rfl hl.1 rfl (Nat.le_of_ble_eq_true rfl) dX0_leastPiecesTo_64 ⟨Nat.zero_le _, Nat.zero_le _⟩) hP hS (fun r33 _ H locs hr34 hP hS => ?_)
              subst hr34
              exact K (f_X3_read 50 (R_pieces r) (i23 - (1 : Int32))) H locs ls (by simp only [if_neg c32]) hP hS (lv_sub hl [2, 3, 1, 0, 4] rfl)
            · refine lv_iconst (v := 0) hx hb dX0_leastPiecesTo_52 (by decide) ?_
              refine lv_goto (tgt := 67) hx hb dX0_leastPiecesTo_53 (by decide) ?_
              exact K (0 : Int32) H locs ls (by simp only [if_pos c32]) hP hS (lv_sub hl [2, 3, 1, 0, 4] rfl)
          intro v35 H locs ls hvv35 hP hS hl
          subst hvv35
          refine lv_istore (lv' := [(6, .int (if i23 = 0 then (0 : Int32) else f_X3_read 50 (R_pieces r) (i23 - (1 : Int32)))), (0, .ref (kr 0)), (2, .int i26), (3, .int (imax i25 (f_X3_read 50 (R_pores r) i23))), (4, .int (imin i24 (f_X3_read 50 (R_breaks r) i23))), (5, .int i23)]) hx hb dX0_leastPiecesTo_67 hl (by decide) rfl (fun ls hl => ?_)
          refine lv_iload_n hx hb dX0_leastPiecesTo_69 rfl (lv_at hl 3 rfl) ?_
          refine lv_iload hx hb dX0_leastPiecesTo_70 (lv_at hl 4 rfl) ?_
          suffices K : ∀ (v38 : Int32), ∀ (H : Heap) (locs : List Loc) (ls : Array Slot), v38 = (if (imin i24 (f_X3_read 50 (R_breaks r) i23)) < (imax i25 (f_X3_read 50 (R_pores r) i23)) then (0 : Int32) else (if (if i23 = 0 then (0 : Int32) else f_X3_read 50 (R_pieces r) (i23 - (1 : Int32))) = (-1 : Int32) then (0 : Int32) else (1 : Int32))) → va_P D vwCl (cRock kr q r) H → va_S A s.heap H locs → lv_has ls 8 [(0, .ref (kr 0)), (2, .int i26), (3, .int (imax i25 (f_X3_read 50 (R_pores r) i23))), (4, .int (imin i24 (f_X3_read 50 (R_breaks r) i23))), (5, .int i23), (6, .int (if i23 = 0 then (0 : Int32) else f_X3_read 50 (R_pieces r) (i23 - (1 : Int32))))] → W p l e RM_X0_leastPiecesTo s m args below meth c H locs 0 0 Q (F0 m 86 ls [.int v38]) by
            refine lv_icmp_gt (tgt := 85) hx hb dX0_leastPiecesTo_72 (by decide) (fun c36 => ?_) (fun c36 => ?_)
            · refine lv_iconst (v := 0) hx hb dX0_leastPiecesTo_85 (by decide) ?_
              exact K (0 : Int32) H locs ls (by simp only [if_pos c36]) hP hS (lv_sub hl [1, 2, 3, 4, 5, 0] rfl)
            · refine lv_iload hx hb dX0_leastPiecesTo_75 (lv_at hl 0 rfl) ?_
              refine lv_iconst (v := -1) hx hb dX0_leastPiecesTo_77 (by decide) ?_
              refine lv_icmp_eq (tgt := 85) hx hb dX0_leastPiecesTo_78 (by decide) (fun c37 => ?_) (fun c37 => ?_)
              · refine lv_iconst (v := 0) hx hb dX0_leastPiecesTo_85 (by decide) ?_
                exact K (0 : Int32) H locs ls (by simp only [if_neg c36, if_pos c37]) hP hS (lv_sub hl [1, 2, 3, 4, 5, 0] rfl)
              · refine lv_iconst (v := 1) hx hb dX0_leastPiecesTo_81 (by decide) ?_
                refine lv_goto (tgt := 86) hx hb dX0_leastPiecesTo_82 (by decide) ?_
                exact K (1 : Int32) H locs ls (by simp only [if_neg c36, if_neg c37]) hP hS (lv_sub hl [1, 2, 3, 4, 5, 0] rfl)
          intro v38 H locs ls hvv38 hP hS hl
          subst hvv38
          refine lv_istore (lv' := [(7, .int (if (imin i24 (f_X3_read 50 (R_breaks r) i23)) < (imax i25 (f_X3_read 50 (R_pores r) i23)) then (0 : Int32) else (if (if i23 = 0 then (0 : Int32) else f_X3_read 50 (R_pieces r) (i23 - (1 : Int32))) = (-1 : Int32) then (0 : Int32) else (1 : Int32)))), (0, .ref (kr 0)), (2, .int i26), (3, .int (imax i25 (f_X3_read 50 (R_pores r) i23))), (4, .int (imin i24 (f_X3_read 50 (R_breaks r) i23))), (5, .int i23), (6, .int (if i23 = 0 then (0 : Int32) else f_X3_read 50 (R_pieces r) (i23 - (1 : Int32))))]) hx hb dX0_leastPiecesTo_86 hl (by decide) rfl (fun ls hl => ?_)
          refine lv_iload hx hb dX0_leastPiecesTo_88 (lv_at hl 0 rfl) ?_
          refine lv_if_eq (tgt := 111) hx hb dX0_leastPiecesTo_90 (by decide) (fun c39 => ?_) (fun c39 => ?_)
          · have hok := hok.1 c39
            refine lv_iinc (v := i23 + (-1 : Int32)) (lv' := [(5, .int (i23 + (-1 : Int32))), (7, .int (if (imin i24 (f_X3_read 50 (R_breaks r) i23)) < (imax i25 (f_X3_read 50 (R_pores r) i23)) then (0 : Int32) else (if (if i23 = 0 then (0 : Int32) else f_X3_read 50 (R_pieces r) (i23 - (1 : Int32))) = (-1 : Int32) then (0 : Int32) else (1 : Int32)))), (0, .ref (kr 0)), (2, .int i26), (3, .int (imax i25 (f_X3_read 50 (R_pores r) i23))), (4, .int (imin i24 (f_X3_read 50 (R_breaks r) i23))), (6, .int (if i23 = 0 then (0 : Int32) else f_X3_read 50 (R_pieces r) (i23 - (1 : Int32))))]) hx hb dX0_leastPiecesTo_111 hl (k := 5) rfl rfl (by decide) rfl (fun ls hl => ?_)
            refine lv_goto (tgt := 12) hx hb dX0_leastPiecesTo_114 (by decide) ?_
            exact ih12 (i23 + (-1 : Int32)) (imin i24 (f_X3_read 50 (R_breaks r) i23)) (imax i25 (f_X3_read 50 (R_pores r) i23)) i26 H locs ls hok ((show f_X0_leastPiecesTo_L12 r (n + 1) i23 i24 i25 i26 = _ by simp only [f_X0_leastPiecesTo_L12, if_neg c27, if_pos c39]).symm.trans ht) hP hS (lv_sub hl [2, 3, 4, 5, 0] rfl)
          · have hok := hok.2 c39
            refine lv_iload_n hx hb dX0_leastPiecesTo_93 rfl (lv_at hl 2 rfl) ?_
            refine lv_iconst (v := -1) hx hb dX0_leastPiecesTo_94 (by decide) ?_
            refine lv_icmp_eq (tgt := 106) hx hb dX0_leastPiecesTo_95 (by decide) (fun c42 => ?_) (fun c42 => ?_)
            · have hok := hok.1 c42
              refine lv_iload hx hb dX0_leastPiecesTo_106 (lv_at hl 6 rfl) ?_
              refine lv_iconst (v := 1) hx hb dX0_leastPiecesTo_108 (by decide) ?_
              refine lv_iadd hx hb dX0_leastPiecesTo_109 ?_
              refine lv_istore_n (lv' := [(2, .int ((if i23 = 0 then (0 : Int32) else f_X3_read 50 (R_pieces r) (i23 - (1 : Int32))) + (1 : Int32))), (7, .int (if (imin i24 (f_X3_read 50 (R_breaks r) i23)) < (imax i25 (f_X3_read 50 (R_pores r) i23)) then (0 : Int32) else (if (if i23 = 0 then (0 : Int32) else f_X3_read 50 (R_pieces r) (i23 - (1 : Int32))) = (-1 : Int32) then (0 : Int32) else (1 : Int32)))), (0, .ref (kr 0)), (3, .int (imax i25 (f_X3_read 50 (R_pores r) i23))), (4, .int (imin i24 (f_X3_read 50 (R_breaks r) i23))), (5, .int i23), (6, .int (if i23 = 0 then (0 : Int32) else f_X3_read 50 (R_pieces r) (i23 - (1 : Int32))))]) hx hb dX0_leastPiecesTo_110 rfl hl (by decide) rfl (fun ls hl => ?_)
              refine lv_iinc (v := i23 + (-1 : Int32)) (lv' := [(5, .int (i23 + (-1 : Int32))), (2, .int ((if i23 = 0 then (0 : Int32) else f_X3_read 50 (R_pieces r) (i23 - (1 : Int32))) + (1 : Int32))), (7, .int (if (imin i24 (f_X3_read 50 (R_breaks r) i23)) < (imax i25 (f_X3_read 50 (R_pores r) i23)) then (0 : Int32) else (if (if i23 = 0 then (0 : Int32) else f_X3_read 50 (R_pieces r) (i23 - (1 : Int32))) = (-1 : Int32) then (0 : Int32) else (1 : Int32)))), (0, .ref (kr 0)), (3, .int (imax i25 (f_X3_read 50 (R_pores r) i23))), (4, .int (imin i24 (f_X3_read 50 (R_breaks r) i23))), (6, .int (if i23 = 0 then (0 : Int32) else f_X3_read 50 (R_pieces r) (i23 - (1 : Int32))))]) hx hb dX0_leastPiecesTo_111 hl (k := 5) rfl rfl (by decide) rfl (fun ls hl => ?_)
              refine lv_goto (tgt := 12) hx hb dX0_leastPiecesTo_114 (by decide) ?_
              exact ih12 (i23 + (-1 : Int32)) (imin i24 (f_X3_read 50 (R_breaks r) i23)) (imax i25 (f_X3_read 50 (R_pores r) i23)) ((if i23 = 0 then (0 : Int32) else f_X3_read 50 (R_pieces r) (i23 - (1 : Int32))) + (1 : Int32)) H locs ls hok ((show f_X0_leastPiecesTo_L12 r (n + 1) i23 i24 i25 i26 = _ by simp only [f_X0_leastPiecesTo_L12, if_neg c27, if_neg c39, if_pos c42]).symm.trans ht) hP hS (lv_sub hl [3, 1, 4, 5, 0] rfl)
            · have hok := hok.2 c42
              refine lv_iload hx hb dX0_leastPiecesTo_98 (lv_at hl 6 rfl) ?_
              refine lv_iconst (v := 1) hx hb dX0_leastPiecesTo_100 (by decide) ?_
              refine lv_iadd hx hb dX0_leastPiecesTo_101 ?_
              refine lv_iload_n hx hb dX0_leastPiecesTo_102 rfl (lv_at hl 2 rfl) ?_
              refine lv_icmp_ge (tgt := 111) hx hb dX0_leastPiecesTo_103 (by decide) (fun c43 => ?_) (fun c43 => ?_)
              · have hok := hok.1 c43
                refine lv_iinc (v := i23 + (-1 : Int32)) (lv' := [(5, .int (i23 + (-1 : Int32))), (7, .int (if (imin i24 (f_X3_read 50 (R_breaks r) i23)) < (imax i25 (f_X3_read 50 (R_pores r) i23)) then (0 : Int32) else (if (if i23 = 0 then (0 : Int32) else f_X3_read 50 (R_pieces r) (i23 - (1 : Int32))) = (-1 : Int32) then (0 : Int32) else (1 : Int32)))), (0, .ref (kr 0)), (2, .int i26), (3, .int (imax i25 (f_X3_read 50 (R_pores r) i23))), (4, .int (imin i24 (f_X3_read 50 (R_breaks r) i23))), (6, .int (if i23 = 0 then (0 : Int32) else f_X3_read 50 (R_pieces r) (i23 - (1 : Int32))))]) hx hb dX0_leastPiecesTo_111 hl (k := 5) rfl rfl (by decide) rfl (fun ls hl => ?_)
                refine lv_goto (tgt := 12) hx hb dX0_leastPiecesTo_114 (by decide) ?_
                exact ih12 (i23 + (-1 : Int32)) (imin i24 (f_X3_read 50 (R_breaks r) i23)) (imax i25 (f_X3_read 50 (R_pores r) i23)) i26 H locs ls hok ((show f_X0_leastPiecesTo_L12 r (n + 1) i23 i24 i25 i26 = _ by simp only [f_X0_leastPiecesTo_L12, if_neg c27, if_neg c39, if_neg c42, if_pos c43]).symm.trans ht) hP hS (lv_sub hl [2, 3, 4, 5, 0] rfl)
              · have hok := hok.2 c43
                refine lv_iload hx hb dX0_leastPiecesTo_106 (lv_at hl 6 rfl) ?_
                refine lv_iconst (v := 1) hx hb dX0_leastPiecesTo_108 (by decide) ?_
                refine lv_iadd hx hb dX0_leastPiecesTo_109 ?_
                refine lv_istore_n (lv' := [(2, .int ((if i23 = 0 then (0 : Int32) else f_X3_read 50 (R_pieces r) (i23 - (1 : Int32))) + (1 : Int32))), (7, .int (if (imin i24 (f_X3_read 50 (R_breaks r) i23)) < (imax i25 (f_X3_read 50 (R_pores r) i23)) then (0 : Int32) else (if (if i23 = 0 then (0 : Int32) else f_X3_read 50 (R_pieces r) (i23 - (1 : Int32))) = (-1 : Int32) then (0 : Int32) else (1 : Int32)))), (0, .ref (kr 0)), (3, .int (imax i25 (f_X3_read 50 (R_pores r) i23))), (4, .int (imin i24 (f_X3_read 50 (R_breaks r) i23))), (5, .int i23), (6, .int (if i23 = 0 then (0 : Int32) else f_X3_read 50 (R_pieces r) (i23 - (1 : Int32))))]) hx hb dX0_leastPiecesTo_110 rfl hl (by decide) rfl (fun ls hl => ?_)
                refine lv_iinc (v := i23 + (-1 : Int32)) (lv' := [(5, .int (i23 + (-1 : Int32))), (2, .int ((if i23 = 0 then (0 : Int32) else f_X3_read 50 (R_pieces r) (i23 - (1 : Int32))) + (1 : Int32))), (7, .int (if (imin i24 (f_X3_read 50 (R_breaks r) i23)) < (imax i25 (f_X3_read 50 (R_pores r) i23)) then (0 : Int32) else (if (if i23 = 0 then (0 : Int32) else f_X3_read 50 (R_pieces r) (i23 - (1 : Int32))) = (-1 : Int32) then (0 : Int32) else (1 : Int32)))), (0, .ref (kr 0)), (3, .int (imax i25 (f_X3_read 50 (R_pores r) i23))), (4, .int (imin i24 (f_X3_read 50 (R_breaks r) i23))), (6, .int (if i23 = 0 then (0 : Int32) else f_X3_read 50 (R_pieces r) (i23 - (1 : Int32))))]) hx hb dX0_leastPiecesTo_111 hl (k := 5) rfl rfl (by decide) rfl (fun ls hl => ?_)
                refine lv_goto (tgt := 12) hx hb dX0_leastPiecesTo_114 (by decide) ?_
                exact ih12 (i23 + (-1 : Int32)) (imin i24 (f_X3_read 50 (R_breaks r) i23)) (imax i25 (f_X3_read 50 (R_pores r) i23)) ((if i23 = 0 then (0 : Int32) else f_X3_read 50 (R_pieces r) (i23 - (1 : Int32))) + (1 : Int32)) H locs ls hok ((show f_X0_leastPiecesTo_L12 r (n + 1) i23 i24 i25 i26 = _ by simp only [f_X0_leastPiecesTo_L12, if_neg c27, if_neg c39, if_neg c42, if_neg c43]).symm.trans ht) hP hS (lv_sub hl [3, 1, 4, 5, 0] rfl)
    exact LP12 N p0 (300 : Int32) (0 : Int32) (-1 : Int32) H locs ls hokL hz12 hP hS (lv_sub hl [4, 3, 2, 1, 0] rfl)
  intro H locs ls hP hS hl
  subst hz12
  refine lv_iload_n hx hb dX0_leastPiecesTo_117 rfl (lv_at hl 1 rfl) ?_
  exact hret (f_X0_leastPiecesTo_L12 r N p0 (300 : Int32) (0 : Int32) (-1 : Int32)) _ _ _ _ dX0_leastPiecesTo_118 (ht.trans (by simp only [f_X0_leastPiecesTo])) hS

/-! X0_piecesFromAll -/
def f_X0_piecesFromAll_L2 (N : Nat) (p0 : Int32) : Nat → Int32 → RS → RS
  | 0, _, r11 => r11
  | n + 1, i10, r11 => if p0 < i10 then r11 else (f_X0_piecesFromAll_L2 N p0 n (i10 + (1 : Int32)) (R_set_pieces r11 (f_X3_write 50 (R_pieces r11) i10 (f_X0_leastPiecesTo N r11 i10))))

def ok_X0_piecesFromAll_L2 (N : Nat) (p0 : Int32) : Nat → Int32 → RS → Prop
  | 0, _, _ => False
  | n + 1, i10, r11 => (p0 < i10 → True) ∧ (¬ p0 < i10 → ((ok_X0_leastPiecesTo N r11 i10) ∧ (ok_X0_piecesFromAll_L2 N p0 n (i10 + (1 : Int32)) (R_set_pieces r11 (f_X3_write 50 (R_pieces r11) i10 (f_X0_leastPiecesTo N r11 i10))))))

def f_X0_piecesFromAll (N : Nat) (r : RS) (p0 : Int32) : Int32 × RS :=
  (f_X3_read 50 (R_pieces (f_X0_piecesFromAll_L2 N p0 N (0 : Int32) r)) p0, (f_X0_piecesFromAll_L2 N p0 N (0 : Int32) r))

def ok_X0_piecesFromAll (N : Nat) (r : RS) (p0 : Int32) : Prop :=
  (ok_X0_piecesFromAll_L2 N p0 N (0 : Int32) r) ∧ True

abbrev RM_X0_piecesFromAll : Room := { frames := 2, cells := 0, slots := 0, locals := 51 }
set_option maxRecDepth 100000 in
set_option maxHeartbeats 4000000 in
theorem c_X0_piecesFromAll (l : Launch) (D : va_G) (q : Nat → ClassId) (sz : Nat) (kr : Nat → Nat) (r : RS) (p0 : Int32) (N : Nat) (hok : ok_X0_piecesFromAll N r p0) : Met l yX0_piecesFromAll (Cond.code yX0_piecesFromAll cX0_piecesFromAll 3 (some .int) :: ALL) RM_X0_piecesFromAll (PC D q [.ref (kr 0), .int p0] (cRock kr q r) sz) (va_Qi (fun (rv : Int32) (u : RS) => f_X0_piecesFromAll N r p0 = (rv, u)) (fun u t9 => va_P D vwCl (cRock kr q u) t9.heap) (va_A (cRock kr q r) sz)) 0 0 (va_A (cRock kr q r) sz) := by
  refine en_iW (by decide +kernel) (Nat.le_of_ble_eq_true rfl) ?_
  intro p e s m args below meth c Q A H locs ls fx hD0 hA hP hS hl hret
  have hx := fx.1
  have hb := fx.2.1
  have hl : lv_has ls 3 [(0, .ref (kr 0)), (1, .int p0)] := hl
  have hD : ∀ (r9 : RS), va_D _ (cRock kr q r9) := fun _ => D_same ((fst_Rock _ _ _).trans (fst_Rock _ _ _).symm) hD0
  have ht : f_X0_piecesFromAll N r p0 = f_X0_piecesFromAll N r p0 := rfl
  simp only [ok_X0_piecesFromAll] at hok
  refine lv_iconst (v := 0) hx hb dX0_piecesFromAll_0 (by decide) ?_
  refine lv_istore_n (lv' := [(2, .int (0 : Int32)), (0, .ref (kr 0)), (1, .int p0)]) hx hb dX0_piecesFromAll_1 rfl hl (by decide) rfl (fun ls hl => ?_)
  obtain ⟨hokL, hok⟩ := hok
  obtain ⟨z2, hz2⟩ : ∃ z, f_X0_piecesFromAll_L2 N p0 N (0 : Int32) r = z := ⟨_, rfl⟩
  suffices KJ2 : ∀ (H : Heap) (locs : List Loc) (ls : Array Slot), va_P D vwCl (cRock kr q z2) H → va_S A s.heap H locs → lv_has ls 3 [(0, .ref (kr 0)), (1, .int p0)] → W p l e RM_X0_piecesFromAll s m args below meth c H locs 0 0 Q (F0 m 26 ls []) by
    have LP2 : ∀ (n : Nat) (i10 : Int32) (r11 : RS) (H : Heap) (locs : List Loc) (ls : Array Slot), ok_X0_piecesFromAll_L2 N p0 n i10 r11 → f_X0_piecesFromAll_L2 N p0 n i10 r11 = z2 → va_P D vwCl (cRock kr q r11) H → va_S A s.heap H locs → lv_has ls 3 [(0, .ref (kr 0)), (1, .int p0), (2, .int i10)] → W p l e RM_X0_piecesFromAll s m args below meth c H locs 0 0 Q (F0 m 2 ls []) := by
      intro n
      induction n with
      | zero =>
        intro i10 r11 H locs ls hok
        exact (hok : False).elim
      | succ n ih2 =>
        intro i10 r11 H locs ls hok ht hP hS hl
        simp only [ok_X0_piecesFromAll_L2] at hok
        refine lv_iload_n hx hb dX0_piecesFromAll_2 rfl (lv_at hl 2 rfl) ?_
        refine lv_iload_n hx hb dX0_piecesFromAll_3 rfl (lv_at hl 1 rfl) ?_
        refine lv_icmp_gt (tgt := 26) hx hb dX0_piecesFromAll_4 (by decide) (fun c12 => ?_) (fun c12 => ?_)
        · have hok := hok.1 c12
          have hv9 := ht.symm.trans (show _ = r11 by simp only [f_X0_piecesFromAll_L2, if_pos c12])
          subst hv9
          exact KJ2 H locs ls hP hS (lv_sub hl [0, 1] rfl)
        · have hok := hok.2 c12
          refine lv_aload_n hx hb dX0_piecesFromAll_7 rfl (lv_at hl 0 rfl) ?_
          refine gf_X0_24 fx hP 0 rfl dX0_piecesFromAll_8 ?_
          refine lv_iload_n hx hb dX0_piecesFromAll_11 rfl (lv_at hl 2 rfl) ?_
          refine lv_aload_n hx hb dX0_piecesFromAll_12 rfl (lv_at hl 0 rfl) ?_
          refine lv_iload_n hx hb dX0_piecesFromAll_13 rfl (lv_at hl 2 rfl) ?_
          obtain ⟨hk13, hok⟩ := hok
          refine kR_i (runV fx (As := [.int i10]) (rest := [.int i10, .ref (kr 5)]) (c_X0_leastPiecesTo l D q H.size kr r11 i10 N hk13) lk_X0_54 ⟨Nat.le_of_ble_eq_true rfl, Nat.le_of_ble_eq_true rfl⟩ ⟨rfl, rfl⟩ hP (hD _) [0, 1, 2, 3, 4, 5] rfl rfl (ci := 0) rfl rfl rfl hl.1 rfl (Nat.le_of_ble_eq_true rfl) dX0_piecesFromAll_14 ⟨Nat.zero_le _, Nat.zero_le _⟩) hP hS (fun r14 _ H locs hr15 hP hS => ?_)
          subst hr15
          refine kW_v (runSN fx (As := [.ref (kr 5), .int i10, .int (f_X0_leastPiecesTo N r11 i10)]) (rest := []) (c_X3_write l D q H.size (kr 5) 50 (Nat.le_of_ble_eq_true rfl) (R_pieces r11) i10 (f_X0_leastPiecesTo N r11 i10)) lk_X0_33 ⟨Nat.le_of_ble_eq_true rfl, Nat.le_of_ble_eq_true rfl⟩ ⟨rfl, rfl⟩ hP (hD _) [5] rfl rfl rfl hl.1 rfl (Nat.le_of_ble_eq_true rfl) dX0_piecesFromAll_17 ⟨Nat.zero_le _, Nat.zero_le _⟩) hP (hD _) hS hA [5] rfl (fun _ => rfl) (fun u16 H locs hw17 hP hS => ?_)
          have hP : va_P D vwCl (cRock kr q (R_set_pieces r11 u16)) H := hP
          try simp only [hw17] at hok
          refine lv_iinc (v := i10 + (1 : Int32)) (lv' := [(2, .int (i10 + (1 : Int32))), (0, .ref (kr 0)), (1, .int p0)]) hx hb dX0_piecesFromAll_20 hl (k := 2) rfl rfl (by decide) rfl (fun ls hl => ?_)
          refine lv_goto (tgt := 2) hx hb dX0_piecesFromAll_23 (by decide) ?_
          exact ih2 (i10 + (1 : Int32)) (R_set_pieces r11 u16) H locs ls hok ((show f_X0_piecesFromAll_L2 N p0 (n + 1) i10 r11 = _ by simp only [f_X0_piecesFromAll_L2, if_neg c12, hw17]).symm.trans ht) hP hS (lv_sub hl [1, 2, 0] rfl)
    exact LP2 N (0 : Int32) r H locs ls hokL hz2 hP hS (lv_sub hl [1, 2, 0] rfl)
  intro H locs ls hP hS hl
  subst hz2
  refine lv_aload_n hx hb dX0_piecesFromAll_26 rfl (lv_at hl 0 rfl) ?_
  refine gf_X0_24 fx hP 0 rfl dX0_piecesFromAll_27 ?_
  refine lv_iload_n hx hb dX0_piecesFromAll_30 rfl (lv_at hl 1 rfl) ?_
  refine kR_i (runSN fx (As := [.ref (kr 5), .int p0]) (rest := []) (c_X3_read l D q H.size (kr 5) 50 (Nat.le_of_ble_eq_true rfl) (R_pieces (f_X0_piecesFromAll_L2 N p0 N (0 : Int32) r)) p0) lk_X0_41 ⟨Nat.le_of_ble_eq_true rfl, Nat.le_of_ble_eq_true rfl⟩ ⟨rfl, rfl⟩ hP (hD _) [5] rfl rfl rfl hl.1 rfl (Nat.le_of_ble_eq_true rfl) dX0_piecesFromAll_31 ⟨Nat.zero_le _, Nat.zero_le _⟩) hP hS (fun r18 _ H locs hr19 hP hS => ?_)
  subst hr19
  exact hret (f_X3_read 50 (R_pieces (f_X0_piecesFromAll_L2 N p0 N (0 : Int32) r)) p0) (f_X0_piecesFromAll_L2 N p0 N (0 : Int32) r) _ _ _ _ dX0_piecesFromAll_34 (ht.trans (by simp only [f_X0_piecesFromAll])) hP hS

