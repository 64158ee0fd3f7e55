/-! X4_thrown -/
def f_X4_thrown (g : MS) : Int32 :=
  M_thrown g

abbrev RM_X4_thrown : Room := { frames := 0, cells := 0, slots := 0, locals := 0 }
set_option maxRecDepth 100000 in
set_option maxHeartbeats 4000000 in
theorem c_X4_thrown (l : Launch) (D : va_G) (q : Nat → ClassId) (sz : Nat) (km : Nat → Nat) (g : MS) : Met l yX4_thrown (Cond.code yX4_thrown cX4_thrown 1 (some .int) :: ALL) RM_X4_thrown (PC D q [.ref (km 0)] (cModel km q g) sz) (va_Qi (fun (rv : Int32) (_ : Unit) => f_X4_thrown g = rv) (fun _ _ => True) (fun _ => False)) 0 0 (fun _ => False) := by
  refine en_iR (by decide +kernel) (Nat.le_of_ble_eq_true rfl) ?_
  intro p e s m args below meth c Q A H locs ls fx hD0 hP hS hl hret
  have hx := fx.1
  have hb := fx.2.1
  have hl : lv_has ls 1 [(0, .ref (km 0))] := hl
  have hD : ∀ (g9 : MS), va_D _ (cModel km q g9) := fun _ => D_same ((fst_Model _ _ _).trans (fst_Model _ _ _).symm) hD0
  have ht : f_X4_thrown g = f_X4_thrown g := rfl
  refine lv_aload_n hx hb dX4_thrown_0 rfl (lv_at hl 0 rfl) ?_
  refine gf_X4_52 fx hP 0 rfl (v := M_thrown g) rfl dX4_thrown_1 ?_
  exact hret (M_thrown g) _ _ _ _ dX4_thrown_4 (ht.trans (by simp only [f_X4_thrown])) hS

/-! X4_goesWell -/
def f_X4_goesWell (g : MS) (p0 : Int32) : Int32 × MS :=
  if p0 = 0 then ((1 : Int32), M_set_thrown g p0) else ((0 : Int32), M_set_thrown g p0)

abbrev RM_X4_goesWell : Room := { frames := 0, cells := 0, slots := 0, locals := 0 }
set_option maxRecDepth 100000 in
set_option maxHeartbeats 4000000 in
theorem c_X4_goesWell (l : Launch) (D : va_G) (q : Nat → ClassId) (sz : Nat) (km : Nat → Nat) (g : MS) (p0 : Int32) : Met l yX4_goesWell (Cond.code yX4_goesWell cX4_goesWell 2 (some .boolean) :: ALL) RM_X4_goesWell (PC D q [.ref (km 0), .int p0] (cModel km q g) sz) (va_Qi (fun (rv : Int32) (u : MS) => f_X4_goesWell g p0 = (rv, u) ∧ bz rv) (fun u t9 => va_P D vwCl (cModel km q u) t9.heap) (va_A (cModel km q g) sz)) 0 0 (va_A (cModel km q g) sz) := by
  refine en_zW (by decide +kernel) (Nat.le_of_ble_eq_true rfl) ?_
  intro p e s m args below meth c Q A H locs ls fx hD0 hA hP hS hl hret
  have hx := fx.1
  have hb := fx.2.1
  have hl : lv_has ls 2 [(0, .ref (km 0)), (1, .int p0)] := hl
  have hD : ∀ (g9 : MS), va_D _ (cModel km q g9) := fun _ => D_same ((fst_Model _ _ _).trans (fst_Model _ _ _).symm) hD0
  have ht : f_X4_goesWell g p0 = f_X4_goesWell g p0 := rfl
  refine lv_aload_n hx hb dX4_goesWell_0 rfl (lv_at hl 0 rfl) ?_
  refine lv_iload_n hx hb dX4_goesWell_1 rfl (lv_at hl 1 rfl) ?_
  refine pf_X4_52_M fx hP (hD _) hS dX4_goesWell_2 (fun H locs hP hS => ?_)
  refine lv_iload_n hx hb dX4_goesWell_5 rfl (lv_at hl 1 rfl) ?_
  refine lv_if_ne (tgt := 13) hx hb dX4_goesWell_6 (by decide) (fun c1 => ?_) (fun c1 => ?_)
  · refine lv_iconst (v := 0) hx hb dX4_goesWell_13 (by decide) ?_
    exact hret (0 : Int32) (M_set_thrown g p0) _ _ _ _ dX4_goesWell_14 bz0 (ht.trans (by simp only [f_X4_goesWell, if_neg c1])) hP hS
  · refine lv_iconst (v := 1) hx hb dX4_goesWell_9 (by decide) ?_
    refine lv_goto (tgt := 14) hx hb dX4_goesWell_10 (by decide) ?_
    exact hret (1 : Int32) (M_set_thrown g p0) _ _ _ _ dX4_goesWell_14 bz1 (ht.trans (by simp only [f_X4_goesWell, if_pos c1])) hP hS

/-! X4_in -/
def f_X4_in (p0 : Int32) (p1 : Int32) (p2 : Int32) : Int32 :=
  if p0 < p1 then (0 : Int32) else (if p2 < p0 then (0 : Int32) else (1 : Int32))

abbrev RM_X4_in : Room := { frames := 0, cells := 0, slots := 0, locals := 0 }
set_option maxRecDepth 100000 in
set_option maxHeartbeats 4000000 in
theorem c_X4_in (l : Launch) (D : va_G) (q : Nat → ClassId) (sz : Nat) (p0 : Int32) (p1 : Int32) (p2 : Int32) : Met l yX4_in (Cond.code yX4_in cX4_in 3 (some .boolean) :: ALL) RM_X4_in (PC D q [.int p0, .int p1, .int p2] ([]) sz) (va_Qi (fun (rv : Int32) (_ : Unit) => f_X4_in p0 p1 p2 = rv ∧ bz rv) (fun _ _ => True) (fun _ => False)) 0 0 (fun _ => False) := by
  refine en_zR (by decide +kernel) (Nat.le_of_ble_eq_true rfl) ?_
  intro p e s m args below meth c Q A H locs ls fx hD0 hP hS hl hret
  have hx := fx.1
  have hb := fx.2.1
  have hl : lv_has ls 3 [(0, .int p0), (1, .int p1), (2, .int p2)] := hl
  have hD : va_D _ ([] : va_W) := hD0
  have ht : f_X4_in p0 p1 p2 = f_X4_in p0 p1 p2 := rfl
  refine lv_iload_n hx hb dX4_in_0 rfl (lv_at hl 0 rfl) ?_
  refine lv_iload_n hx hb dX4_in_1 rfl (lv_at hl 1 rfl) ?_
  refine lv_icmp_lt (tgt := 14) hx hb dX4_in_2 (by decide) (fun c1 => ?_) (fun c1 => ?_)
  · refine lv_iconst (v := 0) hx hb dX4_in_14 (by decide) ?_
    exact hret (0 : Int32) _ _ _ _ dX4_in_15 bz0 (ht.trans (by simp only [f_X4_in, if_pos c1])) hS
  · refine lv_iload_n hx hb dX4_in_5 rfl (lv_at hl 0 rfl) ?_
    refine lv_iload_n hx hb dX4_in_6 rfl (lv_at hl 2 rfl) ?_
    refine lv_icmp_gt (tgt := 14) hx hb dX4_in_7 (by decide) (fun c2 => ?_) (fun c2 => ?_)
    · refine lv_iconst (v := 0) hx hb dX4_in_14 (by decide) ?_
      exact hret (0 : Int32) _ _ _ _ dX4_in_15 bz0 (ht.trans (by simp only [f_X4_in, if_neg c1, if_pos c2])) hS
    · refine lv_iconst (v := 1) hx hb dX4_in_10 (by decide) ?_
      refine lv_goto (tgt := 15) hx hb dX4_in_11 (by decide) ?_
      exact hret (1 : Int32) _ _ _ _ dX4_in_15 bz1 (ht.trans (by simp only [f_X4_in, if_neg c1, if_neg c2])) hS

/-! X4_layerAt -/
def f_X4_layerAt (p0 : Int32) : Int32 :=
  if p0 = 0 then (0 : Int32) else ((p0 - (1 : Int32)) / (100 : Int32))

abbrev RM_X4_layerAt : Room := { frames := 0, cells := 0, slots := 0, locals := 0 }
set_option maxRecDepth 100000 in
set_option maxHeartbeats 4000000 in
theorem c_X4_layerAt (l : Launch) (D : va_G) (q : Nat → ClassId) (sz : Nat) (p0 : Int32) : Met l yX4_layerAt (Cond.code yX4_layerAt cX4_layerAt 1 (some .int) :: ALL) RM_X4_layerAt (PC D q [.int p0] ([]) sz) (va_Qi (fun (rv : Int32) (_ : Unit) => f_X4_layerAt p0 = rv) (fun _ _ => True) (fun _ => False)) 0 0 (fun _ => False) := by
  refine en_iR (by decide +kernel) (Nat.le_of_ble_eq_true rfl) ?_
  intro p e s m args below meth c Q A H locs ls fx hD0 hP hS hl hret
  have hx := fx.1
  have hb := fx.2.1
  have hl : lv_has ls 1 [(0, .int p0)] := hl
  have hD : va_D _ ([] : va_W) := hD0
  have ht : f_X4_layerAt p0 = f_X4_layerAt p0 := rfl
  refine lv_iload_n hx hb dX4_layerAt_0 rfl (lv_at hl 0 rfl) ?_
  refine lv_if_ne (tgt := 8) hx hb dX4_layerAt_1 (by decide) (fun c1 => ?_) (fun c1 => ?_)
  · refine lv_iload_n hx hb dX4_layerAt_8 rfl (lv_at hl 0 rfl) ?_
    refine lv_iconst (v := 1) hx hb dX4_layerAt_9 (by decide) ?_
    refine lv_isub hx hb dX4_layerAt_10 ?_
    refine lv_bipush (v := 100) hx hb dX4_layerAt_11 (by decide) ?_
    refine lv_idiv hx hb dX4_layerAt_13 (by decide) ?_
    exact hret ((p0 - (1 : Int32)) / (100 : Int32)) _ _ _ _ dX4_layerAt_14 (ht.trans (by simp only [f_X4_layerAt, if_neg c1])) hS
  · refine lv_iconst (v := 0) hx hb dX4_layerAt_4 (by decide) ?_
    refine lv_goto (tgt := 14) hx hb dX4_layerAt_5 (by decide) ?_
    exact hret (0 : Int32) _ _ _ _ dX4_layerAt_14 (ht.trans (by simp only [f_X4_layerAt, if_pos c1])) hS

/-! X4_poreAt -/
def f_X4_poreAt (g : MS) (p0 : Int32) : Int32 :=
  (((M_pore g) (f_X4_layerAt p0).toNatClampNeg) * p0) / (10 : Int32)

def ok_X4_poreAt (p0 : Int32) : Prop :=
  (vp_in (f_X4_layerAt p0) 50) ∧ True

abbrev RM_X4_poreAt : Room := { frames := 1, cells := 0, slots := 0, locals := 20 }
set_option maxRecDepth 100000 in
set_option maxHeartbeats 4000000 in
theorem c_X4_poreAt (l : Launch) (D : va_G) (q : Nat → ClassId) (sz : Nat) (km : Nat → Nat) (g : MS) (p0 : Int32) (hok : ok_X4_poreAt p0) : Met l yX4_poreAt (Cond.code yX4_poreAt cX4_poreAt 2 (some .int) :: ALL) RM_X4_poreAt (PC D q [.ref (km 0), .int p0] (cModel km q g) sz) (va_Qi (fun (rv : Int32) (_ : Unit) => f_X4_poreAt g p0 = rv) (fun _ _ => True) (fun _ => False)) 0 0 (fun _ => False) := by
  refine en_iR (by decide +kernel) (Nat.le_of_ble_eq_true rfl) ?_
  intro p e s m args below meth c Q A H locs ls fx hD0 hP hS hl hret
  have hx := fx.1
  have hb := fx.2.1
  have hl : lv_has ls 2 [(0, .ref (km 0)), (1, .int p0)] := hl
  have hD : ∀ (g9 : MS), va_D _ (cModel km q g9) := fun _ => D_same ((fst_Model _ _ _).trans (fst_Model _ _ _).symm) hD0
  have ht : f_X4_poreAt g p0 = f_X4_poreAt g p0 := rfl
  simp only [ok_X4_poreAt] at hok
  refine lv_aload_n hx hb dX4_poreAt_0 rfl (lv_at hl 0 rfl) ?_
  refine gf_X4_7 fx hP 0 rfl dX4_poreAt_1 ?_
  refine lv_iload_n hx hb dX4_poreAt_4 rfl (lv_at hl 1 rfl) ?_
  refine kR_i (runS fx (As := [.int p0]) (rest := [.ref (km 1)]) (c_X4_layerAt l D q H.size p0) lk_X4_55 ⟨Nat.le_of_ble_eq_true rfl, Nat.le_of_ble_eq_true rfl⟩ ⟨rfl, rfl⟩ hP (hD _) [] rfl rfl rfl hl.1 rfl (Nat.le_of_ble_eq_true rfl) dX4_poreAt_5 ⟨Nat.zero_le _, Nat.zero_le _⟩) hP hS (fun r1 _ H locs hr2 hP hS => ?_)
  subst hr2
  obtain ⟨hi3, hok⟩ := hok
  refine al_pore fx hP (f := M_pore g) rfl hi3 dX4_poreAt_8 ?_
  refine lv_iload_n hx hb dX4_poreAt_9 rfl (lv_at hl 1 rfl) ?_
  refine lv_imul hx hb dX4_poreAt_10 ?_
  refine lv_bipush (v := 10) hx hb dX4_poreAt_11 (by decide) ?_
  refine lv_idiv hx hb dX4_poreAt_13 (by decide) ?_
  exact hret ((((M_pore g) (f_X4_layerAt p0).toNatClampNeg) * p0) / (10 : Int32)) _ _ _ _ dX4_poreAt_14 (ht.trans (by simp only [f_X4_poreAt])) hS

/-! X4_breakAt -/
def f_X4_breakAt (g : MS) (p0 : Int32) : Int32 :=
  (((M_breaks g) (f_X4_layerAt p0).toNatClampNeg) * p0) / (10 : Int32)

def ok_X4_breakAt (p0 : Int32) : Prop :=
  (vp_in (f_X4_layerAt p0) 50) ∧ True

abbrev RM_X4_breakAt : Room := { frames := 1, cells := 0, slots := 0, locals := 20 }
set_option maxRecDepth 100000 in
set_option maxHeartbeats 4000000 in
theorem c_X4_breakAt (l : Launch) (D : va_G) (q : Nat → ClassId) (sz : Nat) (km : Nat → Nat) (g : MS) (p0 : Int32) (hok : ok_X4_breakAt p0) : Met l yX4_breakAt (Cond.code yX4_breakAt cX4_breakAt 2 (some .int) :: ALL) RM_X4_breakAt (PC D q [.ref (km 0), .int p0] (cModel km q g) sz) (va_Qi (fun (rv : Int32) (_ : Unit) => f_X4_breakAt g p0 = rv) (fun _ _ => True) (fun _ => False)) 0 0 (fun _ => False) := by
  refine en_iR (by decide +kernel) (Nat.le_of_ble_eq_true rfl) ?_
  intro p e s m args below meth c Q A H locs ls fx hD0 hP hS hl hret
  have hx := fx.1
  have hb := fx.2.1
  have hl : lv_has ls 2 [(0, .ref (km 0)), (1, .int p0)] := hl
  have hD : ∀ (g9 : MS), va_D _ (cModel km q g9) := fun _ => D_same ((fst_Model _ _ _).trans (fst_Model _ _ _).symm) hD0
  have ht : f_X4_breakAt g p0 = f_X4_breakAt g p0 := rfl
  simp only [ok_X4_breakAt] at hok
  refine lv_aload_n hx hb dX4_breakAt_0 rfl (lv_at hl 0 rfl) ?_
  refine gf_X4_13 fx hP 0 rfl dX4_breakAt_1 ?_
  refine lv_iload_n hx hb dX4_breakAt_4 rfl (lv_at hl 1 rfl) ?_
  refine kR_i (runS fx (As := [.int p0]) (rest := [.ref (km 2)]) (c_X4_layerAt l D q H.size p0) lk_X4_55 ⟨Nat.le_of_ble_eq_true rfl, Nat.le_of_ble_eq_true rfl⟩ ⟨rfl, rfl⟩ hP (hD _) [] rfl rfl rfl hl.1 rfl (Nat.le_of_ble_eq_true rfl) dX4_breakAt_5 ⟨Nat.zero_le _, Nat.zero_le _⟩) hP hS (fun r1 _ H locs hr2 hP hS => ?_)
  subst hr2
  obtain ⟨hi3, hok⟩ := hok
  refine al_breaks fx hP (f := M_breaks g) rfl hi3 dX4_breakAt_8 ?_
  refine lv_iload_n hx hb dX4_breakAt_9 rfl (lv_at hl 1 rfl) ?_
  refine lv_imul hx hb dX4_breakAt_10 ?_
  refine lv_bipush (v := 10) hx hb dX4_breakAt_11 (by decide) ?_
  refine lv_idiv hx hb dX4_breakAt_13 (by decide) ?_
  exact hret ((((M_breaks g) (f_X4_layerAt p0).toNatClampNeg) * p0) / (10 : Int32)) _ _ _ _ dX4_breakAt_14 (ht.trans (by simp only [f_X4_breakAt])) hS

/-! X4_layer -/
def f_X4_layer_b85 (g : MS) (p0 : Int32) (p1 : Int32) (p2 : Int32) (p3 : Int32) (p4 : Int32) (j34 : Int32) : MS :=
  if (f_X4_goesWell g j34).1 = 0 then ((f_X4_goesWell g j34).2) else (M_set_bearsGas (M_set_rate (M_set_breaks (M_set_pore ((f_X4_goesWell g j34).2) (upd (M_pore ((f_X4_goesWell g j34).2)) p0.toNatClampNeg p1)) (upd (M_breaks ((f_X4_goesWell g j34).2)) p0.toNatClampNeg p2)) (upd (M_rate ((f_X4_goesWell g j34).2)) p0.toNatClampNeg p3)) (upd (M_bearsGas ((f_X4_goesWell g j34).2)) p0.toNatClampNeg (vp_nar .boolean p4)))

def ok_X4_layer_b85 (g : MS) (p0 : Int32) (p1 : Int32) (p2 : Int32) (p3 : Int32) (p4 : Int32) (j34 : Int32) : Prop :=
  ((f_X4_goesWell g j34).1 = 0 → True) ∧ (¬ (f_X4_goesWell g j34).1 = 0 → ((vp_in p0 50) ∧ ((vp_in p0 50) ∧ ((vp_in p0 50) ∧ ((vp_in p0 50) ∧ True)))))

def f_X4_layer_b48 (g : MS) (p0 : Int32) (p1 : Int32) (p2 : Int32) (p3 : Int32) (p4 : Int32) (j26 : Int32) : MS :=
  if (f_X4_in p0 (0 : Int32) (49 : Int32)) = 0 then (f_X4_layer_b85 g p0 p1 p2 p3 p4 (1 : Int32)) else (if j26 = 0 then (f_X4_layer_b85 g p0 p1 p2 p3 p4 (2 : Int32)) else (if (M_depth g) ≤ ((100 : Int32) * p0) then (f_X4_layer_b85 g p0 p1 p2 p3 p4 (0 : Int32)) else (f_X4_layer_b85 g p0 p1 p2 p3 p4 (3 : Int32))))

def ok_X4_layer_b48 (g : MS) (p0 : Int32) (p1 : Int32) (p2 : Int32) (p3 : Int32) (p4 : Int32) (j26 : Int32) : Prop :=
  ((f_X4_in p0 (0 : Int32) (49 : Int32)) = 0 → (ok_X4_layer_b85 g p0 p1 p2 p3 p4 (1 : Int32))) ∧ (¬ (f_X4_in p0 (0 : Int32) (49 : Int32)) = 0 → ((j26 = 0 → (ok_X4_layer_b85 g p0 p1 p2 p3 p4 (2 : Int32))) ∧ (¬ j26 = 0 → (((M_depth g) ≤ ((100 : Int32) * p0) → (ok_X4_layer_b85 g p0 p1 p2 p3 p4 (0 : Int32))) ∧ (¬ (M_depth g) ≤ ((100 : Int32) * p0) → (ok_X4_layer_b85 g p0 p1 p2 p3 p4 (3 : Int32)))))))

def f_X4_layer_b47 (g : MS) (p0 : Int32) (p1 : Int32) (p2 : Int32) (p3 : Int32) (p4 : Int32) : MS :=
  f_X4_layer_b48 g p0 p1 p2 p3 p4 (0 : Int32)

def ok_X4_layer_b47 (g : MS) (p0 : Int32) (p1 : Int32) (p2 : Int32) (p3 : Int32) (p4 : Int32) : Prop :=
  ok_X4_layer_b48 g p0 p1 p2 p3 p4 (0 : Int32)

def f_X4_layer (g : MS) (p0 : Int32) (p1 : Int32) (p2 : Int32) (p3 : Int32) (p4 : Int32) : MS :=
  if (f_X4_in p1 (0 : Int32) (300 : Int32)) = 0 then (f_X4_layer_b47 g p0 p1 p2 p3 p4) else (if (f_X4_in p2 (0 : Int32) (300 : Int32)) = 0 then (f_X4_layer_b47 g p0 p1 p2 p3 p4) else (if (f_X4_in p3 (0 : Int32) (1000 : Int32)) = 0 then (f_X4_layer_b47 g p0 p1 p2 p3 p4) else (f_X4_layer_b48 g p0 p1 p2 p3 p4 (1 : Int32))))

def ok_X4_layer (g : MS) (p0 : Int32) (p1 : Int32) (p2 : Int32) (p3 : Int32) (p4 : Int32) : Prop :=
  ((f_X4_in p1 (0 : Int32) (300 : Int32)) = 0 → (ok_X4_layer_b47 g p0 p1 p2 p3 p4)) ∧ (¬ (f_X4_in p1 (0 : Int32) (300 : Int32)) = 0 → (((f_X4_in p2 (0 : Int32) (300 : Int32)) = 0 → (ok_X4_layer_b47 g p0 p1 p2 p3 p4)) ∧ (¬ (f_X4_in p2 (0 : Int32) (300 : Int32)) = 0 → (((f_X4_in p3 (0 : Int32) (1000 : Int32)) = 0 → (ok_X4_layer_b47 g p0 p1 p2 p3 p4)) ∧ (¬ (f_X4_in p3 (0 : Int32) (1000 : Int32)) = 0 → (ok_X4_layer_b48 g p0 p1 p2 p3 p4 (1 : Int32)))))))

abbrev RM_X4_layer : Room := { frames := 1, cells := 0, slots := 0, locals := 22 }
set_option maxRecDepth 100000 in
set_option maxHeartbeats 4000000 in
theorem c_X4_layer (l : Launch) (D : va_G) (q : Nat → ClassId) (sz : Nat) (km : Nat → Nat) (g : MS) (p0 : Int32) (p1 : Int32) (p2 : Int32) (p3 : Int32) (p4 : Int32) (hok : ok_X4_layer g p0 p1 p2 p3 p4) : Met l yX4_layer (Cond.code yX4_layer cX4_layer 8 none :: ALL) RM_X4_layer (PC D q [.ref (km 0), .int p0, .int p1, .int p2, .int p3, .int p4] (cModel km q g) sz) (va_Qv (fun (u : MS) => f_X4_layer g p0 p1 p2 p3 p4 = u) (fun u t9 => va_P D vwCl (cModel km q u) t9.heap) (va_A (cModel km q g) sz)) 0 0 (va_A (cModel km q g) sz) := by
  refine en_vW (by decide +kernel) (Nat.le_of_ble_eq_true rfl) ?_
  intro p e s m args below meth c Q A H locs ls fx hD0 hA hP hS hl hret
  have hx := fx.1
  have hb := fx.2.1
  have hl : lv_has ls 8 [(0, .ref (km 0)), (1, .int p0), (2, .int p1), (3, .int p2), (4, .int p3), (5, .int p4)] := hl
  have hD : ∀ (g9 : MS), va_D _ (cModel km q g9) := fun _ => D_same ((fst_Model _ _ _).trans (fst_Model _ _ _).symm) hD0
  have ht : f_X4_layer g p0 p1 p2 p3 p4 = f_X4_layer g p0 p1 p2 p3 p4 := rfl
  simp only [ok_X4_layer] at hok
  refine lv_iload_n hx hb dX4_layer_0 rfl (lv_at hl 1 rfl) ?_
  refine lv_iconst (v := 0) hx hb dX4_layer_1 (by decide) ?_
  refine lv_bipush (v := 49) hx hb dX4_layer_2 (by decide) ?_
  refine kR_i (runS fx (As := [.int p0, .int (0 : Int32), .int (49 : Int32)]) (rest := []) (c_X4_in l D q H.size p0 (0 : Int32) (49 : Int32)) lk_X4_59 ⟨Nat.le_of_ble_eq_true rfl, Nat.le_of_ble_eq_true rfl⟩ ⟨rfl, rfl⟩ hP (hD _) [] rfl rfl rfl hl.1 rfl (Nat.le_of_ble_eq_true rfl) dX4_layer_4 ⟨Nat.zero_le _, Nat.zero_le _⟩) hP hS (fun r1 _ H locs hr2 hP hS => ?_)
  obtain ⟨rfl, hz3⟩ := hr2
  refine lv_istore (lv' := [(6, .int (f_X4_in p0 (0 : Int32) (49 : Int32))), (0, .ref (km 0)), (1, .int p0), (2, .int p1), (3, .int p2), (4, .int p3), (5, .int p4)]) hx hb dX4_layer_7 hl (by decide) rfl (fun ls hl => ?_)
  refine lv_iload_n hx hb dX4_layer_9 rfl (lv_at hl 3 rfl) ?_
  refine lv_iconst (v := 0) hx hb dX4_layer_10 (by decide) ?_
  refine lv_sipush (v := 300) hx hb dX4_layer_11 (by decide) ?_
  refine kR_i (runS fx (As := [.int p1, .int (0 : Int32), .int (300 : Int32)]) (rest := []) (c_X4_in l D q H.size p1 (0 : Int32) (300 : Int32)) lk_X4_59 ⟨Nat.le_of_ble_eq_true rfl, Nat.le_of_ble_eq_true rfl⟩ ⟨rfl, rfl⟩ hP (hD _) [] rfl rfl rfl hl.1 rfl (Nat.le_of_ble_eq_true rfl) dX4_layer_14 ⟨Nat.zero_le _, Nat.zero_le _⟩) hP hS (fun r4 _ H locs hr5 hP hS => ?_)
  obtain ⟨rfl, hz6⟩ := hr5
  have K48 : ∀ (j26 : Int32) (H : Heap) (locs : List Loc) (ls : Array Slot), ok_X4_layer_b48 g p0 p1 p2 p3 p4 j26 → f_X4_layer g p0 p1 p2 p3 p4 = f_X4_layer_b48 g p0 p1 p2 p3 p4 j26 → va_P D vwCl (cModel km q g) H → va_S A s.heap H locs → lv_has ls 8 [(0, .ref (km 0)), (1, .int p0), (2, .int p1), (3, .int p2), (4, .int p3), (5, .int p4), (6, .int (f_X4_in p0 (0 : Int32) (49 : Int32)))] → W p l e RM_X4_layer s m args below meth c H locs 0 0 Q (F0 m 48 ls [.int j26]) := by
    intro j26 H locs ls hok ht hP hS hl
    simp only [ok_X4_layer_b48] at hok
    refine lv_istore (lv' := [(7, .int j26), (0, .ref (km 0)), (1, .int p0), (2, .int p1), (3, .int p2), (4, .int p3), (5, .int p4), (6, .int (f_X4_in p0 (0 : Int32) (49 : Int32)))]) hx hb dX4_layer_48 hl (by decide) rfl (fun ls hl => ?_)
    refine lv_aload_n hx hb dX4_layer_50 rfl (lv_at hl 1 rfl) ?_
    refine lv_iload hx hb dX4_layer_51 (lv_at hl 7 rfl) ?_
    have K85 : ∀ (j34 : Int32) (H : Heap) (locs : List Loc) (ls : Array Slot), ok_X4_layer_b85 g p0 p1 p2 p3 p4 j34 → f_X4_layer g p0 p1 p2 p3 p4 = f_X4_layer_b85 g p0 p1 p2 p3 p4 j34 → va_P D vwCl (cModel km q g) H → va_S A s.heap H locs → lv_has ls 8 [(0, .ref (km 0)), (1, .int p0), (2, .int p1), (3, .int p2), (4, .int p3), (5, .int p4)] → W p l e RM_X4_layer s m args below meth c H locs 0 0 Q (F0 m 85 ls [.int j34, .ref (km 0)]) := by
      intro j34 H locs ls hok ht hP hS hl
      simp only [ok_X4_layer_b85] at hok
      refine kM_i (runM fx (As := [.int j34]) (rest := []) (c_X4_goesWell l D q H.size km g j34) lk_X4_66 ⟨Nat.le_of_ble_eq_true rfl, Nat.le_of_ble_eq_true rfl⟩ ⟨rfl, rfl⟩ hP (hD _) rfl hl.1 rfl (Nat.le_of_ble_eq_true rfl) dX4_layer_85 ⟨Nat.zero_le _, Nat.zero_le _⟩) hP (hD _) hS hA (fun r37 u35 H locs hw36 hP hS => ?_)
      obtain ⟨hw36, hz38⟩ := hw36
      try simp only [hw36] at hok
      refine lv_if_eq (tgt := 121) hx hb dX4_layer_88 (by decide) (fun c39 => ?_) (fun c39 => ?_)
      · have hok := hok.1 c39
        exact hret u35 _ _ _ _ dX4_layer_121 (ht.trans (by first | (simp only [f_X4_layer_b85, if_pos c39, hw36]; done) | (simp only [f_X4_layer_b85, hw36]; simp only [if_pos c39]))) hP hS
      · have hok := hok.2 c39
        refine lv_aload_n hx hb dX4_layer_91 rfl (lv_at hl 0 rfl) ?_
        refine gf_X4_7 fx hP 0 rfl dX4_layer_92 ?_
        refine lv_iload_n hx hb dX4_layer_95 rfl (lv_at hl 1 rfl) ?_
        refine lv_iload_n hx hb dX4_layer_96 rfl (lv_at hl 2 rfl) ?_
        obtain ⟨hi40, hok⟩ := hok
        refine as_pore fx hP (hD _) hS (f := M_pore u35) rfl hi40 dX4_layer_97 (fun H locs hP hS => ?_)
        refine lv_aload_n hx hb dX4_layer_98 rfl (lv_at hl 0 rfl) ?_
        refine gf_X4_13 fx hP 0 rfl dX4_layer_99 ?_
        refine lv_iload_n hx hb dX4_layer_102 rfl (lv_at hl 1 rfl) ?_
        refine lv_iload_n hx hb dX4_layer_103 rfl (lv_at hl 3 rfl) ?_
        obtain ⟨hi41, hok⟩ := hok
        refine as_breaks fx hP (hD _) hS (f := M_breaks u35) (M_breaks_set_pore _ _) hi41 dX4_layer_104 (fun H locs hP hS => ?_)
        refine lv_aload_n hx hb dX4_layer_105 rfl (lv_at hl 0 rfl) ?_
        refine gf_X4_16 fx hP 0 rfl dX4_layer_106 ?_
        refine lv_iload_n hx hb dX4_layer_109 rfl (lv_at hl 1 rfl) ?_
        refine lv_iload hx hb dX4_layer_110 (lv_at hl 4 rfl) ?_
        obtain ⟨hi42, hok⟩ := hok
        refine as_rate fx hP (hD _) hS (f := M_rate u35) ((M_rate_set_breaks _ _).trans (M_rate_set_pore _ _)) hi42 dX4_layer_112 (fun H locs hP hS => ?_)
        refine lv_aload_n hx hb dX4_layer_113 rfl (lv_at hl 0 rfl) ?_
        refine gf_X4_19 fx hP 0 rfl dX4_layer_114 ?_
        refine lv_iload_n hx hb dX4_layer_117 rfl (lv_at hl 1 rfl) ?_
        refine lv_iload hx hb dX4_layer_118 (lv_at hl 5 rfl) ?_
        obtain ⟨hi43, hok⟩ := hok
        refine as_bearsGas fx hP (hD _) hS (f := M_bearsGas u35) ((M_bearsGas_set_rate _ _).trans ((M_bearsGas_set_breaks _ _).trans (M_bearsGas_set_pore _ _))) hi43 dX4_layer_120 (fun H locs hP hS => ?_)
        exact hret (M_set_bearsGas (M_set_rate (M_set_breaks (M_set_pore u35 (upd (M_pore u35) p0.toNatClampNeg p1)) (upd (M_breaks u35) p0.toNatClampNeg p2)) (upd (M_rate u35) p0.toNatClampNeg p3)) (upd (M_bearsGas u35) p0.toNatClampNeg (vp_nar .boolean p4))) _ _ _ _ dX4_layer_121 (ht.trans (by first | (simp only [f_X4_layer_b85, if_neg c39, hw36]; done) | (simp only [f_X4_layer_b85, hw36]; simp only [if_neg c39]))) hP hS
    refine lv_if_ne (tgt := 60) hx hb dX4_layer_53 (by decide) (fun c31 => ?_) (fun c31 => ?_)
    · have hok := hok.2 c31
      refine lv_iload hx hb dX4_layer_60 (lv_at hl 0 rfl) ?_
      refine lv_if_ne (tgt := 69) hx hb dX4_layer_62 (by decide) (fun c32 => ?_) (fun c32 => ?_)
      · have hok := hok.2 c32
        refine lv_aload_n hx hb dX4_layer_69 rfl (lv_at hl 1 rfl) ?_
        refine gf_X4_63 fx hP 0 rfl (v := M_depth g) rfl dX4_layer_70 ?_
        refine lv_bipush (v := 100) hx hb dX4_layer_73 (by decide) ?_
        refine lv_iload_n hx hb dX4_layer_75 rfl (lv_at hl 2 rfl) ?_
        refine lv_imul hx hb dX4_layer_76 ?_
        refine lv_icmp_le (tgt := 84) hx hb dX4_layer_77 (by decide) (fun c33 => ?_) (fun c33 => ?_)
        · have hok := hok.1 c33
          refine lv_iconst (v := 0) hx hb dX4_layer_84 (by decide) ?_
          exact K85 (0 : Int32) H locs ls hok (ht.trans (by simp only [f_X4_layer_b48, if_neg c31, if_neg c32, if_pos c33])) hP hS (lv_sub hl [1, 2, 3, 4, 5, 6] rfl)
        · have hok := hok.2 c33
          refine lv_iconst (v := 3) hx hb dX4_layer_80 (by decide) ?_
          refine lv_goto (tgt := 85) hx hb dX4_layer_81 (by decide) ?_
          exact K85 (3 : Int32) H locs ls hok (ht.trans (by simp only [f_X4_layer_b48, if_neg c31, if_neg c32, if_neg c33])) hP hS (lv_sub hl [1, 2, 3, 4, 5, 6] rfl)
      · have hok := hok.1 c32
        refine lv_iconst (v := 2) hx hb dX4_layer_65 (by decide) ?_
        refine lv_goto (tgt := 85) hx hb dX4_layer_66 (by decide) ?_
        exact K85 (2 : Int32) H locs ls hok (ht.trans (by simp only [f_X4_layer_b48, if_neg c31, if_pos c32])) hP hS (lv_sub hl [1, 2, 3, 4, 5, 6] rfl)
    · have hok := hok.1 c31
      refine lv_iconst (v := 1) hx hb dX4_layer_56 (by decide) ?_
      refine lv_goto (tgt := 85) hx hb dX4_layer_57 (by decide) ?_
      exact K85 (1 : Int32) H locs ls hok (ht.trans (by simp only [f_X4_layer_b48, if_pos c31])) hP hS (lv_sub hl [1, 2, 3, 4, 5, 6] rfl)
  have K47 : ∀ (H : Heap) (locs : List Loc) (ls : Array Slot), ok_X4_layer_b47 g p0 p1 p2 p3 p4 → f_X4_layer g p0 p1 p2 p3 p4 = f_X4_layer_b47 g p0 p1 p2 p3 p4 → va_P D vwCl (cModel km q g) H → va_S A s.heap H locs → lv_has ls 8 [(0, .ref (km 0)), (1, .int p0), (2, .int p1), (3, .int p2), (4, .int p3), (5, .int p4), (6, .int (f_X4_in p0 (0 : Int32) (49 : Int32)))] → W p l e RM_X4_layer s m args below meth c H locs 0 0 Q (F0 m 47 ls []) := by
    intro H locs ls hok ht hP hS hl
    simp only [ok_X4_layer_b47] at hok
    refine lv_iconst (v := 0) hx hb dX4_layer_47 (by decide) ?_
    exact K48 (0 : Int32) H locs ls hok (ht.trans (by simp only [f_X4_layer_b47])) hP hS (lv_sub hl [0, 1, 2, 3, 4, 5, 6] rfl)
  refine lv_if_eq (tgt := 47) hx hb dX4_layer_17 (by decide) (fun c17 => ?_) (fun c17 => ?_)
  · have hok := hok.1 c17
    exact K47 H locs ls hok (ht.trans (by simp only [f_X4_layer, if_pos c17])) hP hS (lv_sub hl [1, 2, 3, 4, 5, 6, 0] rfl)
  · have hok := hok.2 c17
    refine lv_iload_n hx hb dX4_layer_20 rfl (lv_at hl 4 rfl) ?_
    refine lv_iconst (v := 0) hx hb dX4_layer_21 (by decide) ?_
    refine lv_sipush (v := 300) hx hb dX4_layer_22 (by decide) ?_
    refine kR_i (runS fx (As := [.int p2, .int (0 : Int32), .int (300 : Int32)]) (rest := []) (c_X4_in l D q H.size p2 (0 : Int32) (300 : Int32)) lk_X4_59 ⟨Nat.le_of_ble_eq_true rfl, Nat.le_of_ble_eq_true rfl⟩ ⟨rfl, rfl⟩ hP (hD _) [] rfl rfl rfl hl.1 rfl (Nat.le_of_ble_eq_true rfl) dX4_layer_25 ⟨Nat.zero_le _, Nat.zero_le _⟩) hP hS (fun r18 _ H locs hr19 hP hS => ?_)
    obtain ⟨rfl, hz20⟩ := hr19
    refine lv_if_eq (tgt := 47) hx hb dX4_layer_28 (by decide) (fun c21 => ?_) (fun c21 => ?_)
    · have hok := hok.1 c21
      exact K47 H locs ls hok (ht.trans (by simp only [f_X4_layer, if_neg c17, if_pos c21])) hP hS (lv_sub hl [1, 2, 3, 4, 5, 6, 0] rfl)
    · have hok := hok.2 c21
      refine lv_iload hx hb dX4_layer_31 (lv_at hl 5 rfl) ?_
      refine lv_iconst (v := 0) hx hb dX4_layer_33 (by decide) ?_
      refine lv_sipush (v := 1000) hx hb dX4_layer_34 (by decide) ?_
      refine kR_i (runS fx (As := [.int p3, .int (0 : Int32), .int (1000 : Int32)]) (rest := []) (c_X4_in l D q H.size p3 (0 : Int32) (1000 : Int32)) lk_X4_59 ⟨Nat.le_of_ble_eq_true rfl, Nat.le_of_ble_eq_true rfl⟩ ⟨rfl, rfl⟩ hP (hD _) [] rfl rfl rfl hl.1 rfl (Nat.le_of_ble_eq_true rfl) dX4_layer_37 ⟨Nat.zero_le _, Nat.zero_le _⟩) hP hS (fun r22 _ H locs hr23 hP hS => ?_)
      obtain ⟨rfl, hz24⟩ := hr23
      refine lv_if_eq (tgt := 47) hx hb dX4_layer_40 (by decide) (fun c25 => ?_) (fun c25 => ?_)
      · have hok := hok.1 c25
        exact K47 H locs ls hok (ht.trans (by simp only [f_X4_layer, if_neg c17, if_neg c21, if_pos c25])) hP hS (lv_sub hl [1, 2, 3, 4, 5, 6, 0] rfl)
      · have hok := hok.2 c25
        refine lv_iconst (v := 1) hx hb dX4_layer_43 (by decide) ?_
        refine lv_goto (tgt := 48) hx hb dX4_layer_44 (by decide) ?_
        exact K48 (1 : Int32) H locs ls hok (ht.trans (by simp only [f_X4_layer, if_neg c17, if_neg c21, if_neg c25])) hP hS (lv_sub hl [1, 2, 3, 4, 5, 6, 0] rfl)

/-! X4_mud -/
def f_X4_mud (g : MS) (p0 : Int32) : Int32 × MS :=
  if (f_X4_goesWell g (if (f_X4_in p0 (0 : Int32) (300 : Int32)) = 0 then (1 : Int32) else (if (M_isClosed g) = 0 then (0 : Int32) else (2 : Int32)))).1 = 0 then ((0 : Int32), ((f_X4_goesWell g (if (f_X4_in p0 (0 : Int32) (300 : Int32)) = 0 then (1 : Int32) else (if (M_isClosed g) = 0 then (0 : Int32) else (2 : Int32)))).2)) else (M_weight ((f_X4_goesWell g (if (f_X4_in p0 (0 : Int32) (300 : Int32)) = 0 then (1 : Int32) else (if (M_isClosed g) = 0 then (0 : Int32) else (2 : Int32)))).2), M_set_pumped (M_set_weight ((f_X4_goesWell g (if (f_X4_in p0 (0 : Int32) (300 : Int32)) = 0 then (1 : Int32) else (if (M_isClosed g) = 0 then (0 : Int32) else (2 : Int32)))).2) p0) (0 : Int32))

abbrev RM_X4_mud : Room := { frames := 1, cells := 0, slots := 0, locals := 22 }
set_option maxRecDepth 100000 in
set_option maxHeartbeats 4000000 in
theorem c_X4_mud (l : Launch) (D : va_G) (q : Nat → ClassId) (sz : Nat) (km : Nat → Nat) (g : MS) (p0 : Int32) : Met l yX4_mud (Cond.code yX4_mud cX4_mud 4 (some .int) :: ALL) RM_X4_mud (PC D q [.ref (km 0), .int p0] (cModel km q g) sz) (va_Qi (fun (rv : Int32) (u : MS) => f_X4_mud g p0 = (rv, u)) (fun u t9 => va_P D vwCl (cModel km q u) t9.heap) (va_A (cModel km q g) sz)) 0 0 (va_A (cModel km q g) sz) := by
  refine en_iW (by decide +kernel) (Nat.le_of_ble_eq_true rfl) ?_
  intro p e s m args below meth c Q A H locs ls fx hD0 hA hP hS hl hret
  have hx := fx.1
  have hb := fx.2.1
  have hl : lv_has ls 4 [(0, .ref (km 0)), (1, .int p0)] := hl
  have hD : ∀ (g9 : MS), va_D _ (cModel km q g9) := fun _ => D_same ((fst_Model _ _ _).trans (fst_Model _ _ _).symm) hD0
  have ht : f_X4_mud g p0 = f_X4_mud g p0 := rfl
  refine lv_iload_n hx hb dX4_mud_0 rfl (lv_at hl 1 rfl) ?_
  refine lv_iconst (v := 0) hx hb dX4_mud_1 (by decide) ?_
  refine lv_sipush (v := 300) hx hb dX4_mud_2 (by decide) ?_
  refine kR_i (runS fx (As := [.int p0, .int (0 : Int32), .int (300 : Int32)]) (rest := []) (c_X4_in l D q H.size p0 (0 : Int32) (300 : Int32)) lk_X4_59 ⟨Nat.le_of_ble_eq_true rfl, Nat.le_of_ble_eq_true rfl⟩ ⟨rfl, rfl⟩ hP (hD _) [] rfl rfl rfl hl.1 rfl (Nat.le_of_ble_eq_true rfl) dX4_mud_5 ⟨Nat.zero_le _, Nat.zero_le _⟩) hP hS (fun r1 _ H locs hr2 hP hS => ?_)
  obtain ⟨rfl, hz3⟩ := hr2
  refine lv_istore_n (lv' := [(2, .int (f_X4_in p0 (0 : Int32) (300 : Int32))), (0, .ref (km 0)), (1, .int p0)]) hx hb dX4_mud_8 rfl hl (by decide) rfl (fun ls hl => ?_)
  refine lv_aload_n hx hb dX4_mud_9 rfl (lv_at hl 1 rfl) ?_
  refine lv_iload_n hx hb dX4_mud_10 rfl (lv_at hl 0 rfl) ?_
  suffices K : ∀ (v6 : Int32), ∀ (H : Heap) (locs : List Loc) (ls : Array Slot), v6 = (if (f_X4_in p0 (0 : Int32) (300 : Int32)) = 0 then (1 : Int32) else (if (M_isClosed g) = 0 then (0 : Int32) else (2 : Int32))) → va_P D vwCl (cModel km q g) H → va_S A s.heap H locs → lv_has ls 4 [(0, .ref (km 0)), (1, .int p0)] → W p l e RM_X4_mud s m args below meth c H locs 0 0 Q (F0 m 30 ls [.int v6, .ref (km 0)]) by
    refine lv_if_ne (tgt := 18) hx hb dX4_mud_11 (by decide) (fun c4 => ?_) (fun c4 => ?_)
    · refine lv_aload_n hx hb dX4_mud_18 rfl (lv_at hl 1 rfl) ?_
      refine gf_X4_70 fx hP 0 rfl (v := M_isClosed g) rfl dX4_mud_19 ?_
      refine lv_if_eq (tgt := 29) hx hb dX4_mud_22 (by decide) (fun c5 => ?_) (fun c5 => ?_)
      · refine lv_iconst (v := 0) hx hb dX4_mud_29 (by decide) ?_
        exact K (0 : Int32) H locs ls (by simp only [if_neg c4, if_pos c5]) hP hS (lv_sub hl [1, 2] rfl)
      · refine lv_iconst (v := 2) hx hb dX4_mud_25 (by decide) ?_
        refine lv_goto (tgt := 30) hx hb dX4_mud_26 (by decide) ?_
        exact K (2 : Int32) H locs ls (by simp only [if_neg c4, if_neg c5]) hP hS (lv_sub hl [1, 2] rfl)
    · refine lv_iconst (v := 1) hx hb dX4_mud_14 (by decide) ?_
      refine lv_goto (tgt := 30) hx hb dX4_mud_15 (by decide) ?_
      exact K (1 : Int32) H locs ls (by simp only [if_pos c4]) hP hS (lv_sub hl [1, 2] rfl)
  intro v6 H locs ls hvv6 hP hS hl
  subst hvv6
  refine kM_i (runM fx (As := [.int (if (f_X4_in p0 (0 : Int32) (300 : Int32)) = 0 then (1 : Int32) else (if (M_isClosed g) = 0 then (0 : Int32) else (2 : Int32)))]) (rest := []) (c_X4_goesWell l D q H.size km g (if (f_X4_in p0 (0 : Int32) (300 : Int32)) = 0 then (1 : Int32) else (if (M_isClosed g) = 0 then (0 : Int32) else (2 : Int32)))) lk_X4_66 ⟨Nat.le_of_ble_eq_true rfl, Nat.le_of_ble_eq_true rfl⟩ ⟨rfl, rfl⟩ hP (hD _) rfl hl.1 rfl (Nat.le_of_ble_eq_true rfl) dX4_mud_30 ⟨Nat.zero_le _, Nat.zero_le _⟩) hP (hD _) hS hA (fun r9 u7 H locs hw8 hP hS => ?_)
  obtain ⟨hw8, hz10⟩ := hw8
  refine lv_if_ne (tgt := 38) hx hb dX4_mud_33 (by decide) (fun c11 => ?_) (fun c11 => ?_)
  · refine lv_aload_n hx hb dX4_mud_38 rfl (lv_at hl 0 rfl) ?_
    refine gf_X4_23 fx hP 0 rfl (v := M_weight u7) rfl dX4_mud_39 ?_
    refine lv_istore_n (lv' := [(3, .int (M_weight u7)), (0, .ref (km 0)), (1, .int p0)]) hx hb dX4_mud_42 rfl hl (by decide) rfl (fun ls hl => ?_)
    refine lv_aload_n hx hb dX4_mud_43 rfl (lv_at hl 1 rfl) ?_
    refine lv_iload_n hx hb dX4_mud_44 rfl (lv_at hl 2 rfl) ?_
    refine pf_X4_23_M fx hP (hD _) hS dX4_mud_45 (fun H locs hP hS => ?_)
    refine lv_aload_n hx hb dX4_mud_48 rfl (lv_at hl 1 rfl) ?_
    refine lv_iconst (v := 0) hx hb dX4_mud_49 (by decide) ?_
    refine pf_X4_74_M fx hP (hD _) hS dX4_mud_50 (fun H locs hP hS => ?_)
    refine lv_iload_n hx hb dX4_mud_53 rfl (lv_at hl 0 rfl) ?_
    exact hret (M_weight u7) (M_set_pumped (M_set_weight u7 p0) (0 : Int32)) _ _ _ _ dX4_mud_54 (ht.trans (by first | (simp only [f_X4_mud, if_neg c11, hw8]; done) | (simp only [f_X4_mud, hw8]; simp only [if_neg c11]))) hP hS
  · refine lv_iconst (v := 0) hx hb dX4_mud_36 (by decide) ?_
    exact hret (0 : Int32) u7 _ _ _ _ dX4_mud_37 (ht.trans (by first | (simp only [f_X4_mud, if_pos c11, hw8]; done) | (simp only [f_X4_mud, hw8]; simp only [if_pos c11]))) hP hS

/-! X4_column -/
def f_X4_column (g : MS) : Int32 :=
  (((M_weight g) * (((M_depth g) - (M_gas g)) - (M_liquid g))) + ((100 : Int32) * (M_liquid g))) / (10 : Int32)

abbrev RM_X4_column : Room := { frames := 0, cells := 0, slots := 0, locals := 0 }
set_option maxRecDepth 100000 in
set_option maxHeartbeats 4000000 in
theorem c_X4_column (l : Launch) (D : va_G) (q : Nat → ClassId) (sz : Nat) (km : Nat → Nat) (g : MS) : Met l yX4_column (Cond.code yX4_column cX4_column 1 (some .int) :: ALL) RM_X4_column (PC D q [.ref (km 0)] (cModel km q g) sz) (va_Qi (fun (rv : Int32) (_ : Unit) => f_X4_column g = rv) (fun _ _ => True) (fun _ => False)) 0 0 (fun _ => False) := by
  refine en_iR (by decide +kernel) (Nat.le_of_ble_eq_true rfl) ?_
  intro p e s m args below meth c Q A H locs ls fx hD0 hP hS hl hret
  have hx := fx.1
  have hb := fx.2.1
  have hl : lv_has ls 1 [(0, .ref (km 0))] := hl
  have hD : ∀ (g9 : MS), va_D _ (cModel km q g9) := fun _ => D_same ((fst_Model _ _ _).trans (fst_Model _ _ _).symm) hD0
  have ht : f_X4_column g = f_X4_column g := rfl
  refine lv_aload_n hx hb dX4_column_0 rfl (lv_at hl 0 rfl) ?_
  refine gf_X4_23 fx hP 0 rfl (v := M_weight g) rfl dX4_column_1 ?_
  refine lv_aload_n hx hb dX4_column_4 rfl (lv_at hl 0 rfl) ?_
  refine gf_X4_63 fx hP 0 rfl (v := M_depth g) rfl dX4_column_5 ?_
  refine lv_aload_n hx hb dX4_column_8 rfl (lv_at hl 0 rfl) ?_
  refine gf_X4_77 fx hP 0 rfl (v := M_gas g) rfl dX4_column_9 ?_
  refine lv_isub hx hb dX4_column_12 ?_
  refine lv_aload_n hx hb dX4_column_13 rfl (lv_at hl 0 rfl) ?_
  refine gf_X4_80 fx hP 0 rfl (v := M_liquid g) rfl dX4_column_14 ?_
  refine lv_isub hx hb dX4_column_17 ?_
  refine lv_imul hx hb dX4_column_18 ?_
  refine lv_bipush (v := 100) hx hb dX4_column_19 (by decide) ?_
  refine lv_aload_n hx hb dX4_column_21 rfl (lv_at hl 0 rfl) ?_
  refine gf_X4_80 fx hP 0 rfl (v := M_liquid g) rfl dX4_column_22 ?_
  refine lv_imul hx hb dX4_column_25 ?_
  refine lv_iadd hx hb dX4_column_26 ?_
  refine lv_bipush (v := 10) hx hb dX4_column_27 (by decide) ?_
  refine lv_idiv hx hb dX4_column_29 (by decide) ?_
  exact hret ((((M_weight g) * (((M_depth g) - (M_gas g)) - (M_liquid g))) + ((100 : Int32) * (M_liquid g))) / (10 : Int32)) _ _ _ _ dX4_column_30 (ht.trans (by simp only [f_X4_column])) hS

/-! X4_bottom -/
def f_X4_bottom (g : MS) : Int32 :=
  (f_X4_column g) + (M_choke g)

abbrev RM_X4_bottom : Room := { frames := 1, cells := 0, slots := 0, locals := 20 }
set_option maxRecDepth 100000 in
set_option maxHeartbeats 4000000 in
theorem c_X4_bottom (l : Launch) (D : va_G) (q : Nat → ClassId) (sz : Nat) (km : Nat → Nat) (g : MS) : Met l yX4_bottom (Cond.code yX4_bottom cX4_bottom 1 (some .int) :: ALL) RM_X4_bottom (PC D q [.ref (km 0)] (cModel km q g) sz) (va_Qi (fun (rv : Int32) (_ : Unit) => f_X4_bottom g = rv) (fun _ _ => True) (fun _ => False)) 0 0 (fun _ => False) := by
  refine en_iR (by decide +kernel) (Nat.le_of_ble_eq_true rfl) ?_
  intro p e s m args below meth c Q A H locs ls fx hD0 hP hS hl hret
  have hx := fx.1
  have hb := fx.2.1
  have hl : lv_has ls 1 [(0, .ref (km 0))] := hl
  have hD : ∀ (g9 : MS), va_D _ (cModel km q g9) := fun _ => D_same ((fst_Model _ _ _).trans (fst_Model _ _ _).symm) hD0
  have ht : f_X4_bottom g = f_X4_bottom g := rfl
  refine lv_aload_n hx hb dX4_bottom_0 rfl (lv_at hl 0 rfl) ?_
  refine kR_i (runM fx (As := []) (rest := []) (c_X4_column l D q H.size km g) lk_X4_83 ⟨Nat.le_of_ble_eq_true rfl, Nat.le_of_ble_eq_true rfl⟩ ⟨rfl, rfl⟩ hP (hD _) rfl hl.1 rfl (Nat.le_of_ble_eq_true rfl) dX4_bottom_1 ⟨Nat.zero_le _, Nat.zero_le _⟩) hP hS (fun r1 _ H locs hr2 hP hS => ?_)
  subst hr2
  refine lv_aload_n hx hb dX4_bottom_4 rfl (lv_at hl 0 rfl) ?_
  refine gf_X4_87 fx hP 0 rfl (v := M_choke g) rfl dX4_bottom_5 ?_
  refine lv_iadd hx hb dX4_bottom_8 ?_
  exact hret ((f_X4_column g) + (M_choke g)) _ _ _ _ dX4_bottom_9 (ht.trans (by simp only [f_X4_bottom])) hS

/-! X4_gasPressure -/
def f_X4_gasPressure (g : MS) : Int32 :=
  if (1 : Int32) ≤ ((((M_weight g) * (M_place g)) / (10 : Int32)) + (M_choke g)) then ((((M_weight g) * (M_place g)) / (10 : Int32)) + (M_choke g)) else (1 : Int32)

abbrev RM_X4_gasPressure : Room := { frames := 0, cells := 0, slots := 0, locals := 0 }
set_option maxRecDepth 100000 in
set_option maxHeartbeats 4000000 in
theorem c_X4_gasPressure (l : Launch) (D : va_G) (q : Nat → ClassId) (sz : Nat) (km : Nat → Nat) (g : MS) : Met l yX4_gasPressure (Cond.code yX4_gasPressure cX4_gasPressure 2 (some .int) :: ALL) RM_X4_gasPressure (PC D q [.ref (km 0)] (cModel km q g) sz) (va_Qi (fun (rv : Int32) (_ : Unit) => f_X4_gasPressure g = rv) (fun _ _ => True) (fun _ => False)) 0 0 (fun _ => False) := by
  refine en_iR (by decide +kernel) (Nat.le_of_ble_eq_true rfl) ?_
  intro p e s m args below meth c Q A H locs ls fx hD0 hP hS hl hret
  have hx := fx.1
  have hb := fx.2.1
  have hl : lv_has ls 2 [(0, .ref (km 0))] := hl
  have hD : ∀ (g9 : MS), va_D _ (cModel km q g9) := fun _ => D_same ((fst_Model _ _ _).trans (fst_Model _ _ _).symm) hD0
  have ht : f_X4_gasPressure g = f_X4_gasPressure g := rfl
  refine lv_aload_n hx hb dX4_gasPressure_0 rfl (lv_at hl 0 rfl) ?_
  refine gf_X4_23 fx hP 0 rfl (v := M_weight g) rfl dX4_gasPressure_1 ?_
  refine lv_aload_n hx hb dX4_gasPressure_4 rfl (lv_at hl 0 rfl) ?_
  refine gf_X4_90 fx hP 0 rfl (v := M_place g) rfl dX4_gasPressure_5 ?_
  refine lv_imul hx hb dX4_gasPressure_8 ?_
  refine lv_bipush (v := 10) hx hb dX4_gasPressure_9 (by decide) ?_
  refine lv_idiv hx hb dX4_gasPressure_11 (by decide) ?_
  refine lv_aload_n hx hb dX4_gasPressure_12 rfl (lv_at hl 0 rfl) ?_
  refine gf_X4_87 fx hP 0 rfl (v := M_choke g) rfl dX4_gasPressure_13 ?_
  refine lv_iadd hx hb dX4_gasPressure_16 ?_
  refine lv_istore_n (lv' := [(1, .int ((((M_weight g) * (M_place g)) / (10 : Int32)) + (M_choke g))), (0, .ref (km 0))]) hx hb dX4_gasPressure_17 rfl hl (by decide) rfl (fun ls hl => ?_)
  refine lv_iload_n hx hb dX4_gasPressure_18 rfl (lv_at hl 0 rfl) ?_
  refine lv_iconst (v := 1) hx hb dX4_gasPressure_19 (by decide) ?_
  refine lv_icmp_ge (tgt := 27) hx hb dX4_gasPressure_20 (by decide) (fun c1 => ?_) (fun c1 => ?_)
  · refine lv_iload_n hx hb dX4_gasPressure_27 rfl (lv_at hl 0 rfl) ?_
    exact hret ((((M_weight g) * (M_place g)) / (10 : Int32)) + (M_choke g)) _ _ _ _ dX4_gasPressure_28 (ht.trans (by simp only [f_X4_gasPressure, if_pos c1])) hS
  · refine lv_iconst (v := 1) hx hb dX4_gasPressure_23 (by decide) ?_
    refine lv_goto (tgt := 28) hx hb dX4_gasPressure_24 (by decide) ?_
    exact hret (1 : Int32) _ _ _ _ dX4_gasPressure_28 (ht.trans (by simp only [f_X4_gasPressure, if_neg c1])) hS

