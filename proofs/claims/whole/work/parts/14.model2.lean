/-! X4_foot -/
def f_X4_foot_b61 (g : MS) (j8 : Int32) : Int32 :=
  (M_choke g) + (((M_weight g) * j8) / (10 : Int32))

def f_X4_foot_b57 (g : MS) : Int32 :=
  f_X4_foot_b61 g (M_shoe g)

def f_X4_foot (g : MS) : Int32 :=
  if (lg_cmp (M_charge g) (0 : Int64)) ≤ 0 then (f_X4_foot_b57 g) else (if (M_shoe g) ≤ (M_place g) then (f_X4_foot_b57 g) else (f_X4_foot_b61 g (if (M_shoe g) ≤ (M_gas g) then (0 : Int32) else (M_shoe g) - (M_gas g))))

abbrev RM_X4_foot : Room := { frames := 0, cells := 0, slots := 0, locals := 0 }
set_option maxRecDepth 100000 in
set_option maxHeartbeats 4000000 in
theorem c_X4_foot (l : Launch) (D : va_G) (q : Nat → ClassId) (sz : Nat) (km : Nat → Nat) (g : MS) : Met l yX4_foot (Cond.code yX4_foot cX4_foot 2 (some .int) :: ALL) RM_X4_foot (PC D q [.ref (km 0)] (cModel km q g) sz) (va_Qi (fun (rv : Int32) (_ : Unit) => f_X4_foot g = rv) (fun _ _ => True) (fun _ => False)) 0 0 (fun _ => False) := by
  refine en_iR (by decide +kernel) (Nat.le_of_ble_eq_true rfl) ?_
  intro p e s m args below meth c Q A H locs ls fx hD0 hP hS hl hret
  have hx := fx.1
  have hb := fx.2.1
  have hl : lv_has ls 2 [(0, .ref (km 0))] := hl
  have hD : ∀ (g9 : MS), va_D _ (cModel km q g9) := fun _ => D_same ((fst_Model _ _ _).trans (fst_Model _ _ _).symm) hD0
  have ht : f_X4_foot g = f_X4_foot g := rfl
  refine lv_aload_n hx hb dX4_foot_0 rfl (lv_at hl 0 rfl) ?_
  refine gf_X4_93 fx hP 0 rfl (v := M_shoe g) rfl dX4_foot_1 ?_
  refine lv_aload_n hx hb dX4_foot_4 rfl (lv_at hl 0 rfl) ?_
  refine gf_X4_77 fx hP 0 rfl (v := M_gas g) rfl dX4_foot_5 ?_
  suffices K : ∀ (v2 : Int32), ∀ (H : Heap) (locs : List Loc) (ls : Array Slot), v2 = (if (M_shoe g) ≤ (M_gas g) then (0 : Int32) else (M_shoe g) - (M_gas g)) → va_P D vwCl (cModel km q g) H → va_S A s.heap H locs → lv_has ls 2 [(0, .ref (km 0))] → W p l e RM_X4_foot s m args below meth c H locs 0 0 Q (F0 m 24 ls [.int v2]) by
    refine lv_icmp_le (tgt := 23) hx hb dX4_foot_8 (by decide) (fun c1 => ?_) (fun c1 => ?_)
    · refine lv_iconst (v := 0) hx hb dX4_foot_23 (by decide) ?_
      exact K (0 : Int32) H locs ls (by simp only [if_pos c1]) hP hS (lv_sub hl [0] rfl)
    · refine lv_aload_n hx hb dX4_foot_11 rfl (lv_at hl 0 rfl) ?_
      refine gf_X4_93 fx hP 0 rfl (v := M_shoe g) rfl dX4_foot_12 ?_
      refine lv_aload_n hx hb dX4_foot_15 rfl (lv_at hl 0 rfl) ?_
      refine gf_X4_77 fx hP 0 rfl (v := M_gas g) rfl dX4_foot_16 ?_
      refine lv_isub hx hb dX4_foot_19 ?_
      refine lv_goto (tgt := 24) hx hb dX4_foot_20 (by decide) ?_
      exact K ((M_shoe g) - (M_gas g)) H locs ls (by simp only [if_neg c1]) hP hS (lv_sub hl [0] rfl)
  intro v2 H locs ls hvv2 hP hS hl
  subst hvv2
  refine lv_istore_n (lv' := [(1, .int (if (M_shoe g) ≤ (M_gas g) then (0 : Int32) else (M_shoe g) - (M_gas g))), (0, .ref (km 0))]) hx hb dX4_foot_24 rfl hl (by decide) rfl (fun ls hl => ?_)
  refine lv_aload_n hx hb dX4_foot_25 rfl (lv_at hl 1 rfl) ?_
  refine gf_X4_87 fx hP 0 rfl (v := M_choke g) rfl dX4_foot_26 ?_
  refine lv_aload_n hx hb dX4_foot_29 rfl (lv_at hl 1 rfl) ?_
  refine gf_X4_23 fx hP 0 rfl (v := M_weight g) rfl dX4_foot_30 ?_
  refine lv_aload_n hx hb dX4_foot_33 rfl (lv_at hl 1 rfl) ?_
  refine gf_X4_96 fx hP 0 rfl (v := M_charge g) rfl dX4_foot_34 ?_
  refine lv_lconst (v := 0) hx hb dX4_foot_37 (by decide) ?_
  refine W.lcmp hx hb dX4_foot_38 ?_
  have K61 : ∀ (j8 : Int32) (H : Heap) (locs : List Loc) (ls : Array Slot), f_X4_foot g = f_X4_foot_b61 g j8 → va_P D vwCl (cModel km q g) H → va_S A s.heap H locs → lv_has ls 2 [(0, .ref (km 0))] → W p l e RM_X4_foot s m args below meth c H locs 0 0 Q (F0 m 61 ls [.int j8, .int (M_weight g), .int (M_choke g)]) := by
    intro j8 H locs ls ht hP hS hl
    refine lv_imul hx hb dX4_foot_61 ?_
    refine lv_bipush (v := 10) hx hb dX4_foot_62 (by decide) ?_
    refine lv_idiv hx hb dX4_foot_64 (by decide) ?_
    refine lv_iadd hx hb dX4_foot_65 ?_
    exact hret ((M_choke g) + (((M_weight g) * j8) / (10 : Int32))) _ _ _ _ dX4_foot_66 (ht.trans (by simp only [f_X4_foot_b61])) hS
  have K57 : ∀ (H : Heap) (locs : List Loc) (ls : Array Slot), f_X4_foot g = f_X4_foot_b57 g → va_P D vwCl (cModel km q g) H → va_S A s.heap H locs → lv_has ls 2 [(0, .ref (km 0))] → W p l e RM_X4_foot s m args below meth c H locs 0 0 Q (F0 m 57 ls [.int (M_weight g), .int (M_choke g)]) := by
    intro H locs ls ht hP hS hl
    refine lv_aload_n hx hb dX4_foot_57 rfl (lv_at hl 0 rfl) ?_
    refine gf_X4_93 fx hP 0 rfl (v := M_shoe g) rfl dX4_foot_58 ?_
    exact K61 (M_shoe g) H locs ls (ht.trans (by simp only [f_X4_foot_b57])) hP hS (lv_sub hl [0] rfl)
  refine lv_if_le (tgt := 57) hx hb dX4_foot_39 (by decide) (fun c6 => ?_) (fun c6 => ?_)
  · exact K57 H locs ls (ht.trans (by simp only [f_X4_foot, if_pos c6])) hP hS (lv_sub hl [1] rfl)
  · refine lv_aload_n hx hb dX4_foot_42 rfl (lv_at hl 1 rfl) ?_
    refine gf_X4_90 fx hP 0 rfl (v := M_place g) rfl dX4_foot_43 ?_
    refine lv_aload_n hx hb dX4_foot_46 rfl (lv_at hl 1 rfl) ?_
    refine gf_X4_93 fx hP 0 rfl (v := M_shoe g) rfl dX4_foot_47 ?_
    refine lv_icmp_ge (tgt := 57) hx hb dX4_foot_50 (by decide) (fun c7 => ?_) (fun c7 => ?_)
    · exact K57 H locs ls (ht.trans (by simp only [f_X4_foot, if_neg c6, if_pos c7])) hP hS (lv_sub hl [1] rfl)
    · refine lv_iload_n hx hb dX4_foot_53 rfl (lv_at hl 0 rfl) ?_
      refine lv_goto (tgt := 61) hx hb dX4_foot_54 (by decide) ?_
      exact K61 (if (M_shoe g) ≤ (M_gas g) then (0 : Int32) else (M_shoe g) - (M_gas g)) H locs ls (ht.trans (by simp only [f_X4_foot, if_neg c6, if_neg c7])) hP hS (lv_sub hl [1] rfl)

/-! X4_measure -/
def f_X4_measure (g : MS) : MS :=
  if 0 ≤ (lg_cmp ((M_charge g) / ((f_X4_gasPressure g).toInt64)) (((M_depth g) - (M_liquid g)).toInt64)) then (M_set_gas g ((((M_depth g) - (M_liquid g)).toInt64).toInt32)) else (M_set_gas g (((M_charge g) / ((f_X4_gasPressure g).toInt64)).toInt32))

def ok_X4_measure (g : MS) : Prop :=
  (¬ ((f_X4_gasPressure g).toInt64) = 0) ∧ True

abbrev RM_X4_measure : Room := { frames := 1, cells := 0, slots := 0, locals := 21 }
set_option maxRecDepth 100000 in
set_option maxHeartbeats 4000000 in
theorem c_X4_measure (l : Launch) (D : va_G) (q : Nat → ClassId) (sz : Nat) (km : Nat → Nat) (g : MS) (hok : ok_X4_measure g) : Met l yX4_measure (Cond.code yX4_measure cX4_measure 5 none :: ALL) RM_X4_measure (PC D q [.ref (km 0)] (cModel km q g) sz) (va_Qv (fun (u : MS) => f_X4_measure g = u) (fun u t9 => va_P D vwCl (cModel km q u) t9.heap) (va_A (cModel km q g) sz)) 0 0 (va_A (cModel km q g) sz) := by
  refine en_vW (by decide +kernel) (Nat.le_of_ble_eq_true rfl) ?_
  intro p e s m args below meth c Q A H locs ls fx hD0 hA hP hS hl hret
  have hx := fx.1
  have hb := fx.2.1
  have hl : lv_has ls 5 [(0, .ref (km 0))] := hl
  have hD : ∀ (g9 : MS), va_D _ (cModel km q g9) := fun _ => D_same ((fst_Model _ _ _).trans (fst_Model _ _ _).symm) hD0
  have ht : f_X4_measure g = f_X4_measure g := rfl
  simp only [ok_X4_measure] at hok
  refine lv_aload_n hx hb dX4_measure_0 rfl (lv_at hl 0 rfl) ?_
  refine gf_X4_96 fx hP 0 rfl (v := M_charge g) rfl dX4_measure_1 ?_
  refine lv_aload_n hx hb dX4_measure_4 rfl (lv_at hl 0 rfl) ?_
  refine kR_i (runM fx (As := []) (rest := [.long (M_charge g)]) (c_X4_gasPressure l D q H.size km g) lk_X4_100 ⟨Nat.le_of_ble_eq_true rfl, Nat.le_of_ble_eq_true rfl⟩ ⟨rfl, rfl⟩ hP (hD _) rfl hl.1 rfl (Nat.le_of_ble_eq_true rfl) dX4_measure_5 ⟨Nat.zero_le _, Nat.zero_le _⟩) hP hS (fun r1 _ H locs hr2 hP hS => ?_)
  subst hr2
  refine lv_i2l (v := (f_X4_gasPressure g).toInt64) hx hb dX4_measure_8 rfl ?_
  obtain ⟨hn3, hok⟩ := hok
  refine lv_ldiv hx hb dX4_measure_9 hn3 ?_
  refine lv_lstore_n (lv' := [(1, .long ((M_charge g) / ((f_X4_gasPressure g).toInt64))), (0, .ref (km 0))]) hx hb dX4_measure_10 rfl hl (by decide) rfl (fun ls hl => ?_)
  refine lv_aload_n hx hb dX4_measure_11 rfl (lv_at hl 1 rfl) ?_
  refine gf_X4_63 fx hP 0 rfl (v := M_depth g) rfl dX4_measure_12 ?_
  refine lv_aload_n hx hb dX4_measure_15 rfl (lv_at hl 1 rfl) ?_
  refine gf_X4_80 fx hP 0 rfl (v := M_liquid g) rfl dX4_measure_16 ?_
  refine lv_isub hx hb dX4_measure_19 ?_
  refine lv_i2l (v := ((M_depth g) - (M_liquid g)).toInt64) hx hb dX4_measure_20 rfl ?_
  refine lv_lstore_n (lv' := [(3, .long (((M_depth g) - (M_liquid g)).toInt64)), (1, .long ((M_charge g) / ((f_X4_gasPressure g).toInt64))), (0, .ref (km 0))]) hx hb dX4_measure_21 rfl hl (by decide) rfl (fun ls hl => ?_)
  refine lv_aload_n hx hb dX4_measure_22 rfl (lv_at hl 2 rfl) ?_
  refine lv_lload_n hx hb dX4_measure_23 rfl (lv_at hl 1 rfl) ?_
  refine lv_lload_n hx hb dX4_measure_24 rfl (lv_at hl 0 rfl) ?_
  refine W.lcmp hx hb dX4_measure_25 ?_
  refine lv_if_ge (tgt := 33) hx hb dX4_measure_26 (by decide) (fun c4 => ?_) (fun c4 => ?_)
  · refine lv_lload_n hx hb dX4_measure_33 rfl (lv_at hl 0 rfl) ?_
    refine lv_l2i (v := (((M_depth g) - (M_liquid g)).toInt64).toInt32) hx hb dX4_measure_34 rfl ?_
    refine pf_X4_77_M fx hP (hD _) hS dX4_measure_35 (fun H locs hP hS => ?_)
    exact hret (M_set_gas g ((((M_depth g) - (M_liquid g)).toInt64).toInt32)) _ _ _ _ dX4_measure_38 (ht.trans (by simp only [f_X4_measure, if_pos c4])) hP hS
  · refine lv_lload_n hx hb dX4_measure_29 rfl (lv_at hl 1 rfl) ?_
    refine lv_goto (tgt := 34) hx hb dX4_measure_30 (by decide) ?_
    refine lv_l2i (v := ((M_charge g) / ((f_X4_gasPressure g).toInt64)).toInt32) hx hb dX4_measure_34 rfl ?_
    refine pf_X4_77_M fx hP (hD _) hS dX4_measure_35 (fun H locs hP hS => ?_)
    exact hret (M_set_gas g (((M_charge g) / ((f_X4_gasPressure g).toInt64)).toInt32)) _ _ _ _ dX4_measure_38 (ht.trans (by simp only [f_X4_measure, if_neg c4])) hP hS

/-! X4_rise -/
def f_X4_rise_b95 (g : MS) (p0 : Int32) (j7 : Int32) : MS :=
  (f_X4_measure (M_set_place (M_set_place g ((M_place g) - (if p0 = 0 then (if (M_isClosed g) = 0 then (8 : Int32) else (2 : Int32)) else (20 : Int32)))) j7))

def ok_X4_rise_b95 (g : MS) (p0 : Int32) (j7 : Int32) : Prop :=
  (ok_X4_measure (M_set_place (M_set_place g ((M_place g) - (if p0 = 0 then (if (M_isClosed g) = 0 then (8 : Int32) else (2 : Int32)) else (20 : Int32)))) j7)) ∧ True

def f_X4_rise_b68 (g : MS) (p0 : Int32) (j7 : Int32) : MS :=
  M_set_gas (M_set_charge (M_set_vented (M_set_place (M_set_place g ((M_place g) - (if p0 = 0 then (if (M_isClosed g) = 0 then (8 : Int32) else (2 : Int32)) else (20 : Int32)))) j7) ((M_vented g) + ((M_gas g).toInt64))) (0 : Int64)) (0 : Int32)

def f_X4_rise_b47 (g : MS) (p0 : Int32) (j7 : Int32) : MS :=
  if j7 = 0 then (if p0 = 0 then (if (M_isClosed g) = 0 then (f_X4_rise_b68 g p0 j7) else (f_X4_rise_b95 g p0 j7)) else (f_X4_rise_b68 g p0 j7)) else (f_X4_rise_b95 g p0 j7)

def ok_X4_rise_b47 (g : MS) (p0 : Int32) (j7 : Int32) : Prop :=
  (j7 = 0 → ((p0 = 0 → (((M_isClosed g) = 0 → True) ∧ (¬ (M_isClosed g) = 0 → (ok_X4_rise_b95 g p0 j7)))) ∧ (¬ p0 = 0 → True))) ∧ (¬ j7 = 0 → (ok_X4_rise_b95 g p0 j7))

def f_X4_rise (g : MS) (p0 : Int32) : MS :=
  if 0 ≤ ((M_place g) - (if p0 = 0 then (if (M_isClosed g) = 0 then (8 : Int32) else (2 : Int32)) else (20 : Int32))) then (f_X4_rise_b47 g p0 ((M_place g) - (if p0 = 0 then (if (M_isClosed g) = 0 then (8 : Int32) else (2 : Int32)) else (20 : Int32)))) else (f_X4_rise_b47 g p0 (0 : Int32))

def ok_X4_rise (g : MS) (p0 : Int32) : Prop :=
  (0 ≤ ((M_place g) - (if p0 = 0 then (if (M_isClosed g) = 0 then (8 : Int32) else (2 : Int32)) else (20 : Int32))) → (ok_X4_rise_b47 g p0 ((M_place g) - (if p0 = 0 then (if (M_isClosed g) = 0 then (8 : Int32) else (2 : Int32)) else (20 : Int32))))) ∧ (¬ 0 ≤ ((M_place g) - (if p0 = 0 then (if (M_isClosed g) = 0 then (8 : Int32) else (2 : Int32)) else (20 : Int32))) → (ok_X4_rise_b47 g p0 (0 : Int32)))

abbrev RM_X4_rise : Room := { frames := 2, cells := 0, slots := 0, locals := 45 }
set_option maxRecDepth 100000 in
set_option maxHeartbeats 4000000 in
theorem c_X4_rise (l : Launch) (D : va_G) (q : Nat → ClassId) (sz : Nat) (km : Nat → Nat) (g : MS) (p0 : Int32) (hok : ok_X4_rise g p0) : Met l yX4_rise (Cond.code yX4_rise cX4_rise 2 none :: ALL) RM_X4_rise (PC D q [.ref (km 0), .int p0] (cModel km q g) sz) (va_Qv (fun (u : MS) => f_X4_rise g p0 = u) (fun u t9 => va_P D vwCl (cModel km q u) t9.heap) (va_A (cModel km q g) sz)) 0 0 (va_A (cModel km q g) sz) := by
  refine en_vW (by decide +kernel) (Nat.le_of_ble_eq_true rfl) ?_
  intro p e s m args below meth c Q A H locs ls fx hD0 hA hP hS hl hret
  have hx := fx.1
  have hb := fx.2.1
  have hl : lv_has ls 2 [(0, .ref (km 0)), (1, .int p0)] := hl
  have hD : ∀ (g9 : MS), va_D _ (cModel km q g9) := fun _ => D_same ((fst_Model _ _ _).trans (fst_Model _ _ _).symm) hD0
  have ht : f_X4_rise g p0 = f_X4_rise g p0 := rfl
  simp only [ok_X4_rise] at hok
  refine lv_aload_n hx hb dX4_rise_0 rfl (lv_at hl 0 rfl) ?_
  refine lv_dup hx hb dX4_rise_1 rfl ?_
  refine gf_X4_90 fx hP 0 rfl (v := M_place g) rfl dX4_rise_2 ?_
  refine lv_iload_n hx hb dX4_rise_5 rfl (lv_at hl 1 rfl) ?_
  suffices K : ∀ (v3 : Int32), ∀ (H : Heap) (locs : List Loc) (ls : Array Slot), v3 = (if p0 = 0 then (if (M_isClosed g) = 0 then (8 : Int32) else (2 : Int32)) else (20 : Int32)) → va_P D vwCl (cModel km q g) H → va_S A s.heap H locs → lv_has ls 2 [(0, .ref (km 0)), (1, .int p0)] → W p l e RM_X4_rise s m args below meth c H locs 0 0 Q (F0 m 27 ls [.int v3, .int (M_place g), .ref (km 0)]) by
    refine lv_if_eq (tgt := 14) hx hb dX4_rise_6 (by decide) (fun c1 => ?_) (fun c1 => ?_)
    · refine lv_aload_n hx hb dX4_rise_14 rfl (lv_at hl 0 rfl) ?_
      refine gf_X4_70 fx hP 0 rfl (v := M_isClosed g) rfl dX4_rise_15 ?_
      refine lv_if_eq (tgt := 25) hx hb dX4_rise_18 (by decide) (fun c2 => ?_) (fun c2 => ?_)
      · refine lv_bipush (v := 8) hx hb dX4_rise_25 (by decide) ?_
        exact K (8 : Int32) H locs ls (by simp only [if_pos c1, if_pos c2]) hP hS (lv_sub hl [0, 1] rfl)
      · refine lv_iconst (v := 2) hx hb dX4_rise_21 (by decide) ?_
        refine lv_goto (tgt := 27) hx hb dX4_rise_22 (by decide) ?_
        exact K (2 : Int32) H locs ls (by simp only [if_pos c1, if_neg c2]) hP hS (lv_sub hl [0, 1] rfl)
    · refine lv_bipush (v := 20) hx hb dX4_rise_9 (by decide) ?_
      refine lv_goto (tgt := 27) hx hb dX4_rise_11 (by decide) ?_
      exact K (20 : Int32) H locs ls (by simp only [if_neg c1]) hP hS (lv_sub hl [0, 1] rfl)
  intro v3 H locs ls hvv3 hP hS hl
  subst hvv3
  refine lv_isub hx hb dX4_rise_27 ?_
  refine pf_X4_90_M fx hP (hD _) hS dX4_rise_28 (fun H locs hP hS => ?_)
  refine lv_aload_n hx hb dX4_rise_31 rfl (lv_at hl 0 rfl) ?_
  refine lv_aload_n hx hb dX4_rise_32 rfl (lv_at hl 0 rfl) ?_
  refine gf_X4_90 fx hP 0 rfl (v := (M_place g) - (if p0 = 0 then (if (M_isClosed g) = 0 then (8 : Int32) else (2 : Int32)) else (20 : Int32))) (M_place_set_place _ _) dX4_rise_33 ?_
  have K47 : ∀ (j7 : Int32) (H : Heap) (locs : List Loc) (ls : Array Slot), ok_X4_rise_b47 g p0 j7 → f_X4_rise g p0 = f_X4_rise_b47 g p0 j7 → va_P D vwCl (cModel km q (M_set_place g ((M_place g) - (if p0 = 0 then (if (M_isClosed g) = 0 then (8 : Int32) else (2 : Int32)) else (20 : Int32))))) H → va_S A s.heap H locs → lv_has ls 2 [(0, .ref (km 0)), (1, .int p0)] → W p l e RM_X4_rise s m args below meth c H locs 0 0 Q (F0 m 47 ls [.int j7, .ref (km 0)]) := by
    intro j7 H locs ls hok ht hP hS hl
    simp only [ok_X4_rise_b47] at hok
    refine pf_X4_90_M fx hP (hD _) hS dX4_rise_47 (fun H locs hP hS => ?_)
    refine lv_aload_n hx hb dX4_rise_50 rfl (lv_at hl 0 rfl) ?_
    refine gf_X4_90 fx hP 0 rfl (v := j7) (M_place_set_place _ _) dX4_rise_51 ?_
    have K95 : ∀ (H : Heap) (locs : List Loc) (ls : Array Slot), ok_X4_rise_b95 g p0 j7 → f_X4_rise g p0 = f_X4_rise_b95 g p0 j7 → va_P D vwCl (cModel km q (M_set_place (M_set_place g ((M_place g) - (if p0 = 0 then (if (M_isClosed g) = 0 then (8 : Int32) else (2 : Int32)) else (20 : Int32)))) j7)) H → va_S A s.heap H locs → lv_has ls 2 [(0, .ref (km 0))] → W p l e RM_X4_rise s m args below meth c H locs 0 0 Q (F0 m 95 ls []) := by
      intro H locs ls hok ht hP hS hl
      simp only [ok_X4_rise_b95] at hok
      refine lv_aload_n hx hb dX4_rise_95 rfl (lv_at hl 0 rfl) ?_
      obtain ⟨hk18, hok⟩ := hok
      refine kM_v (runM fx (As := []) (rest := []) (c_X4_measure l D q H.size km (M_set_place (M_set_place g ((M_place g) - (if p0 = 0 then (if (M_isClosed g) = 0 then (8 : Int32) else (2 : Int32)) else (20 : Int32)))) j7) hk18) lk_X4_106 ⟨Nat.le_of_ble_eq_true rfl, Nat.le_of_ble_eq_true rfl⟩ ⟨rfl, rfl⟩ hP (hD _) rfl hl.1 rfl (Nat.le_of_ble_eq_true rfl) dX4_rise_96 ⟨Nat.zero_le _, Nat.zero_le _⟩) hP (hD _) hS hA (fun u19 H locs hw20 hP hS => ?_)
      try simp only [hw20] at hok
      exact hret u19 _ _ _ _ dX4_rise_99 (ht.trans (by simp only [f_X4_rise_b95, hw20])) hP hS
    refine lv_if_ne (tgt := 95) hx hb dX4_rise_54 (by decide) (fun c13 => ?_) (fun c13 => ?_)
    · have hok := hok.2 c13
      exact K95 H locs ls hok (ht.trans (by simp only [f_X4_rise_b47, if_neg c13])) hP hS (lv_sub hl [0] rfl)
    · have hok := hok.1 c13
      refine lv_iload_n hx hb dX4_rise_57 rfl (lv_at hl 1 rfl) ?_
      have K68 : ∀ (H : Heap) (locs : List Loc) (ls : Array Slot), f_X4_rise g p0 = f_X4_rise_b68 g p0 j7 → va_P D vwCl (cModel km q (M_set_place (M_set_place g ((M_place g) - (if p0 = 0 then (if (M_isClosed g) = 0 then (8 : Int32) else (2 : Int32)) else (20 : Int32)))) j7)) H → va_S A s.heap H locs → lv_has ls 2 [(0, .ref (km 0))] → W p l e RM_X4_rise s m args below meth c H locs 0 0 Q (F0 m 68 ls []) := by
        intro H locs ls ht hP hS hl
        refine lv_aload_n hx hb dX4_rise_68 rfl (lv_at hl 0 rfl) ?_
        refine lv_dup hx hb dX4_rise_69 rfl ?_
        refine gf_X4_103 fx hP 0 rfl (v := M_vented g) ((M_vented_set_place _ _).trans (M_vented_set_place _ _)) dX4_rise_70 ?_
        refine lv_aload_n hx hb dX4_rise_73 rfl (lv_at hl 0 rfl) ?_
        refine gf_X4_77 fx hP 0 rfl (v := M_gas g) ((M_gas_set_place _ _).trans (M_gas_set_place _ _)) dX4_rise_74 ?_
        refine lv_i2l (v := (M_gas g).toInt64) hx hb dX4_rise_77 rfl ?_
        refine lv_ladd hx hb dX4_rise_78 ?_
        refine pf_X4_103_M fx hP (hD _) hS dX4_rise_79 (fun H locs hP hS => ?_)
        refine lv_aload_n hx hb dX4_rise_82 rfl (lv_at hl 0 rfl) ?_
        refine lv_lconst (v := 0) hx hb dX4_rise_83 (by decide) ?_
        refine pf_X4_96_M fx hP (hD _) hS dX4_rise_84 (fun H locs hP hS => ?_)
        refine lv_aload_n hx hb dX4_rise_87 rfl (lv_at hl 0 rfl) ?_
        refine lv_iconst (v := 0) hx hb dX4_rise_88 (by decide) ?_
        refine pf_X4_77_M fx hP (hD _) hS dX4_rise_89 (fun H locs hP hS => ?_)
        refine lv_goto (tgt := 99) hx hb dX4_rise_92 (by decide) ?_
        exact hret (M_set_gas (M_set_charge (M_set_vented (M_set_place (M_set_place g ((M_place g) - (if p0 = 0 then (if (M_isClosed g) = 0 then (8 : Int32) else (2 : Int32)) else (20 : Int32)))) j7) ((M_vented g) + ((M_gas g).toInt64))) (0 : Int64)) (0 : Int32)) _ _ _ _ dX4_rise_99 (ht.trans (by simp only [f_X4_rise_b68])) hP hS
      refine lv_if_ne (tgt := 68) hx hb dX4_rise_58 (by decide) (fun c16 => ?_) (fun c16 => ?_)
      · have hok := hok.2 c16
        exact K68 H locs ls (ht.trans (by simp only [f_X4_rise_b47, if_pos c13, if_neg c16])) hP hS (lv_sub hl [0] rfl)
      · have hok := hok.1 c16
        refine lv_aload_n hx hb dX4_rise_61 rfl (lv_at hl 0 rfl) ?_
        refine gf_X4_70 fx hP 0 rfl (v := M_isClosed g) ((M_isClosed_set_place _ _).trans (M_isClosed_set_place _ _)) dX4_rise_62 ?_
        refine lv_if_ne (tgt := 95) hx hb dX4_rise_65 (by decide) (fun c17 => ?_) (fun c17 => ?_)
        · have hok := hok.2 c17
          exact K95 H locs ls hok (ht.trans (by simp only [f_X4_rise_b47, if_pos c13, if_pos c16, if_neg c17])) hP hS (lv_sub hl [0] rfl)
        · have hok := hok.1 c17
          exact K68 H locs ls (ht.trans (by simp only [f_X4_rise_b47, if_pos c13, if_pos c16, if_pos c17])) hP hS (lv_sub hl [0] rfl)
  refine lv_if_ge (tgt := 43) hx hb dX4_rise_36 (by decide) (fun c6 => ?_) (fun c6 => ?_)
  · have hok := hok.1 c6
    refine lv_aload_n hx hb dX4_rise_43 rfl (lv_at hl 0 rfl) ?_
    refine gf_X4_90 fx hP 0 rfl (v := (M_place g) - (if p0 = 0 then (if (M_isClosed g) = 0 then (8 : Int32) else (2 : Int32)) else (20 : Int32))) (M_place_set_place _ _) dX4_rise_44 ?_
    exact K47 ((M_place g) - (if p0 = 0 then (if (M_isClosed g) = 0 then (8 : Int32) else (2 : Int32)) else (20 : Int32))) H locs ls hok (ht.trans (by simp only [f_X4_rise, if_pos c6])) hP hS (lv_sub hl [0, 1] rfl)
  · have hok := hok.2 c6
    refine lv_iconst (v := 0) hx hb dX4_rise_39 (by decide) ?_
    refine lv_goto (tgt := 47) hx hb dX4_rise_40 (by decide) ?_
    exact K47 (0 : Int32) H locs ls hok (ht.trans (by simp only [f_X4_rise, if_neg c6])) hP hS (lv_sub hl [0, 1] rfl)

/-! X4_shut -/
def f_X4_shut (g : MS) : MS :=
  if (if ((f_X4_poreAt g (M_depth g)) - (f_X4_column g)) ≤ 0 then (0 : Int32) else (f_X4_poreAt g (M_depth g)) - (f_X4_column g)) ≤ (M_valve g) then (M_set_choke g (if ((f_X4_poreAt g (M_depth g)) - (f_X4_column g)) ≤ 0 then (0 : Int32) else (f_X4_poreAt g (M_depth g)) - (f_X4_column g))) else (M_set_brokenAfter (M_set_choke (M_set_isClosed (M_set_choke g (if ((f_X4_poreAt g (M_depth g)) - (f_X4_column g)) ≤ 0 then (0 : Int32) else (f_X4_poreAt g (M_depth g)) - (f_X4_column g))) (0 : Int32)) (0 : Int32)) (M_tests g))

def ok_X4_shut (g : MS) : Prop :=
  (ok_X4_poreAt (M_depth g)) ∧ True

abbrev RM_X4_shut : Room := { frames := 2, cells := 0, slots := 0, locals := 41 }
set_option maxRecDepth 100000 in
set_option maxHeartbeats 4000000 in
theorem c_X4_shut (l : Launch) (D : va_G) (q : Nat → ClassId) (sz : Nat) (km : Nat → Nat) (g : MS) (hok : ok_X4_shut g) : Met l yX4_shut (Cond.code yX4_shut cX4_shut 2 none :: ALL) RM_X4_shut (PC D q [.ref (km 0)] (cModel km q g) sz) (va_Qv (fun (u : MS) => f_X4_shut g = u) (fun u t9 => va_P D vwCl (cModel km q u) t9.heap) (va_A (cModel km q g) sz)) 0 0 (va_A (cModel km q g) sz) := by
  refine en_vW (by decide +kernel) (Nat.le_of_ble_eq_true rfl) ?_
  intro p e s m args below meth c Q A H locs ls fx hD0 hA hP hS hl hret
  have hx := fx.1
  have hb := fx.2.1
  have hl : lv_has ls 2 [(0, .ref (km 0))] := hl
  have hD : ∀ (g9 : MS), va_D _ (cModel km q g9) := fun _ => D_same ((fst_Model _ _ _).trans (fst_Model _ _ _).symm) hD0
  have ht : f_X4_shut g = f_X4_shut g := rfl
  simp only [ok_X4_shut] at hok
  refine lv_aload_n hx hb dX4_shut_0 rfl (lv_at hl 0 rfl) ?_
  refine lv_aload_n hx hb dX4_shut_1 rfl (lv_at hl 0 rfl) ?_
  refine gf_X4_63 fx hP 0 rfl (v := M_depth g) rfl dX4_shut_2 ?_
  obtain ⟨hk1, hok⟩ := hok
  refine kR_i (runM fx (As := [.int (M_depth g)]) (rest := []) (c_X4_poreAt l D q H.size km g (M_depth g) hk1) lk_X4_109 ⟨Nat.le_of_ble_eq_true rfl, Nat.le_of_ble_eq_true rfl⟩ ⟨rfl, rfl⟩ hP (hD _) rfl hl.1 rfl (Nat.le_of_ble_eq_true rfl) dX4_shut_5 ⟨Nat.zero_le _, Nat.zero_le _⟩) hP hS (fun r2 _ H locs hr3 hP hS => ?_)
  subst hr3
  refine lv_aload_n hx hb dX4_shut_8 rfl (lv_at hl 0 rfl) ?_
  refine kR_i (runM fx (As := []) (rest := [.int (f_X4_poreAt g (M_depth g))]) (c_X4_column l D q H.size km g) lk_X4_83 ⟨Nat.le_of_ble_eq_true rfl, Nat.le_of_ble_eq_true rfl⟩ ⟨rfl, rfl⟩ hP (hD _) rfl hl.1 rfl (Nat.le_of_ble_eq_true rfl) dX4_shut_9 ⟨Nat.zero_le _, Nat.zero_le _⟩) hP hS (fun r4 _ H locs hr5 hP hS => ?_)
  subst hr5
  refine lv_isub hx hb dX4_shut_12 ?_
  refine lv_istore_n (lv' := [(1, .int ((f_X4_poreAt g (M_depth g)) - (f_X4_column g))), (0, .ref (km 0))]) hx hb dX4_shut_13 rfl hl (by decide) rfl (fun ls hl => ?_)
  refine lv_aload_n hx hb dX4_shut_14 rfl (lv_at hl 1 rfl) ?_
  refine lv_iload_n hx hb dX4_shut_15 rfl (lv_at hl 0 rfl) ?_
  suffices K : ∀ (v7 : Int32), ∀ (H : Heap) (locs : List Loc) (ls : Array Slot), v7 = (if ((f_X4_poreAt g (M_depth g)) - (f_X4_column g)) ≤ 0 then (0 : Int32) else (f_X4_poreAt g (M_depth g)) - (f_X4_column g)) → va_P D vwCl (cModel km q g) H → va_S A s.heap H locs → lv_has ls 2 [(0, .ref (km 0))] → W p l e RM_X4_shut s m args below meth c H locs 0 0 Q (F0 m 24 ls [.int v7, .ref (km 0)]) by
    refine lv_if_le (tgt := 23) hx hb dX4_shut_16 (by decide) (fun c6 => ?_) (fun c6 => ?_)
    · refine lv_iconst (v := 0) hx hb dX4_shut_23 (by decide) ?_
      exact K (0 : Int32) H locs ls (by simp only [if_pos c6]) hP hS (lv_sub hl [1] rfl)
    · refine lv_iload_n hx hb dX4_shut_19 rfl (lv_at hl 0 rfl) ?_
      refine lv_goto (tgt := 24) hx hb dX4_shut_20 (by decide) ?_
      exact K ((f_X4_poreAt g (M_depth g)) - (f_X4_column g)) H locs ls (by simp only [if_neg c6]) hP hS (lv_sub hl [1] rfl)
  intro v7 H locs ls hvv7 hP hS hl
  subst hvv7
  refine pf_X4_87_M fx hP (hD _) hS dX4_shut_24 (fun H locs hP hS => ?_)
  refine lv_aload_n hx hb dX4_shut_27 rfl (lv_at hl 0 rfl) ?_
  refine gf_X4_87 fx hP 0 rfl (v := if ((f_X4_poreAt g (M_depth g)) - (f_X4_column g)) ≤ 0 then (0 : Int32) else (f_X4_poreAt g (M_depth g)) - (f_X4_column g)) (M_choke_set_choke _ _) dX4_shut_28 ?_
  refine lv_aload_n hx hb dX4_shut_31 rfl (lv_at hl 0 rfl) ?_
  refine gf_X4_30 fx hP 0 rfl (v := M_valve g) (M_valve_set_choke _ _) dX4_shut_32 ?_
  refine lv_icmp_le (tgt := 56) hx hb dX4_shut_35 (by decide) (fun c8 => ?_) (fun c8 => ?_)
  · exact hret (M_set_choke g (if ((f_X4_poreAt g (M_depth g)) - (f_X4_column g)) ≤ 0 then (0 : Int32) else (f_X4_poreAt g (M_depth g)) - (f_X4_column g))) _ _ _ _ dX4_shut_56 (ht.trans (by simp only [f_X4_shut, if_pos c8])) hP hS
  · refine lv_aload_n hx hb dX4_shut_38 rfl (lv_at hl 0 rfl) ?_
    refine lv_iconst (v := 0) hx hb dX4_shut_39 (by decide) ?_
    refine pf_X4_70_M fx hP (hD _) hS (hz := bz0) dX4_shut_40 (fun H locs hP hS => ?_)
    refine lv_aload_n hx hb dX4_shut_43 rfl (lv_at hl 0 rfl) ?_
    refine lv_iconst (v := 0) hx hb dX4_shut_44 (by decide) ?_
    refine pf_X4_87_M fx hP (hD _) hS dX4_shut_45 (fun H locs hP hS => ?_)
    refine lv_aload_n hx hb dX4_shut_48 rfl (lv_at hl 0 rfl) ?_
    refine lv_aload_n hx hb dX4_shut_49 rfl (lv_at hl 0 rfl) ?_
    refine gf_X4_112 fx hP 0 rfl (v := M_tests g) ((M_tests_set_choke _ _).trans ((M_tests_set_isClosed _ _).trans (M_tests_set_choke _ _))) dX4_shut_50 ?_
    refine pf_X4_115_M fx hP (hD _) hS dX4_shut_53 (fun H locs hP hS => ?_)
    exact hret (M_set_brokenAfter (M_set_choke (M_set_isClosed (M_set_choke g (if ((f_X4_poreAt g (M_depth g)) - (f_X4_column g)) ≤ 0 then (0 : Int32) else (f_X4_poreAt g (M_depth g)) - (f_X4_column g))) (0 : Int32)) (0 : Int32)) (M_tests g)) _ _ _ _ dX4_shut_56 (ht.trans (by simp only [f_X4_shut, if_neg c8])) hP hS

/-! X4_flow -/
def f_X4_flow_b158 (g : MS) (j12 : Int64) (j26 : Int32) : MS :=
  (f_X4_measure (M_set_charge (M_set_place (M_set_flowed g (1 : Int32)) (if (lg_cmp (M_charge g) (0 : Int64)) ≤ 0 then M_depth g else M_place g)) ((M_charge g) + (j12 * j26.toInt64))))

def ok_X4_flow_b158 (g : MS) (j12 : Int64) (j26 : Int32) : Prop :=
  (ok_X4_measure (M_set_charge (M_set_place (M_set_flowed g (1 : Int32)) (if (lg_cmp (M_charge g) (0 : Int64)) ≤ 0 then M_depth g else M_place g)) ((M_charge g) + (j12 * j26.toInt64)))) ∧ True

def f_X4_flow_b54 (g : MS) (j12 : Int64) : MS :=
  if ((M_bearsGas g) (f_X4_layerAt (M_depth g)).toNatClampNeg) = 0 then (if (lg_cmp (((M_liquid g).toInt64) + j12) (((M_depth g) - (M_gas g)).toInt64)) ≤ 0 then (M_set_liquid (M_set_flowed g (1 : Int32)) ((M_liquid g) + j12.toInt32)) else (M_set_liquid (M_set_flowed g (1 : Int32)) ((M_depth g) - (M_gas g)))) else (if (f_X4_bottom (M_set_place (M_set_flowed g (1 : Int32)) (if (lg_cmp (M_charge g) (0 : Int64)) ≤ 0 then M_depth g else M_place g))) ≤ 0 then (f_X4_flow_b158 g j12 (1 : Int32)) else (f_X4_flow_b158 g j12 (f_X4_bottom (M_set_place (M_set_flowed g (1 : Int32)) (if (lg_cmp (M_charge g) (0 : Int64)) ≤ 0 then M_depth g else M_place g)))))

def ok_X4_flow_b54 (g : MS) (j12 : Int64) : Prop :=
  (vp_in (f_X4_layerAt (M_depth g)) 50) ∧ ((((M_bearsGas g) (f_X4_layerAt (M_depth g)).toNatClampNeg) = 0 → True) ∧ (¬ ((M_bearsGas g) (f_X4_layerAt (M_depth g)).toNatClampNeg) = 0 → (((f_X4_bottom (M_set_place (M_set_flowed g (1 : Int32)) (if (lg_cmp (M_charge g) (0 : Int64)) ≤ 0 then M_depth g else M_place g))) ≤ 0 → (ok_X4_flow_b158 g j12 (1 : Int32))) ∧ (¬ (f_X4_bottom (M_set_place (M_set_flowed g (1 : Int32)) (if (lg_cmp (M_charge g) (0 : Int64)) ≤ 0 then M_depth g else M_place g))) ≤ 0 → (ok_X4_flow_b158 g j12 (f_X4_bottom (M_set_place (M_set_flowed g (1 : Int32)) (if (lg_cmp (M_charge g) (0 : Int64)) ≤ 0 then M_depth g else M_place g))))))))

def f_X4_flow (g : MS) : MS :=
  if (lg_cmp ((1 : Int64) + (((((f_X4_poreAt g (M_depth g)) - (f_X4_bottom g)).toInt64) * (((M_rate g) (f_X4_layerAt (M_depth g)).toNatClampNeg).toInt64)) / (10000 : Int64))) (40 : Int64)) ≤ 0 then (f_X4_flow_b54 g ((1 : Int64) + (((((f_X4_poreAt g (M_depth g)) - (f_X4_bottom g)).toInt64) * (((M_rate g) (f_X4_layerAt (M_depth g)).toNatClampNeg).toInt64)) / (10000 : Int64)))) else (f_X4_flow_b54 g (40 : Int64))

def ok_X4_flow (g : MS) : Prop :=
  (ok_X4_poreAt (M_depth g)) ∧ ((vp_in (f_X4_layerAt (M_depth g)) 50) ∧ (((lg_cmp ((1 : Int64) + (((((f_X4_poreAt g (M_depth g)) - (f_X4_bottom g)).toInt64) * (((M_rate g) (f_X4_layerAt (M_depth g)).toNatClampNeg).toInt64)) / (10000 : Int64))) (40 : Int64)) ≤ 0 → (ok_X4_flow_b54 g ((1 : Int64) + (((((f_X4_poreAt g (M_depth g)) - (f_X4_bottom g)).toInt64) * (((M_rate g) (f_X4_layerAt (M_depth g)).toNatClampNeg).toInt64)) / (10000 : Int64))))) ∧ (¬ (lg_cmp ((1 : Int64) + (((((f_X4_poreAt g (M_depth g)) - (f_X4_bottom g)).toInt64) * (((M_rate g) (f_X4_layerAt (M_depth g)).toNatClampNeg).toInt64)) / (10000 : Int64))) (40 : Int64)) ≤ 0 → (ok_X4_flow_b54 g (40 : Int64)))))

abbrev RM_X4_flow : Room := { frames := 2, cells := 0, slots := 0, locals := 45 }
set_option maxRecDepth 100000 in
set_option maxHeartbeats 4000000 in
theorem c_X4_flow (l : Launch) (D : va_G) (q : Nat → ClassId) (sz : Nat) (km : Nat → Nat) (g : MS) (hok : ok_X4_flow g) : Met l yX4_flow (Cond.code yX4_flow cX4_flow 6 none :: ALL) RM_X4_flow (PC D q [.ref (km 0)] (cModel km q g) sz) (va_Qv (fun (u : MS) => f_X4_flow g = u) (fun u t9 => va_P D vwCl (cModel km q u) t9.heap) (va_A (cModel km q g) sz)) 0 0 (va_A (cModel km q g) sz) := by
  refine en_vW (by decide +kernel) (Nat.le_of_ble_eq_true rfl) ?_
  intro p e s m args below meth c Q A H locs ls fx hD0 hA hP hS hl hret
  have hx := fx.1
  have hb := fx.2.1
  have hl : lv_has ls 6 [(0, .ref (km 0))] := hl
  have hD : ∀ (g9 : MS), va_D _ (cModel km q g9) := fun _ => D_same ((fst_Model _ _ _).trans (fst_Model _ _ _).symm) hD0
  have ht : f_X4_flow g = f_X4_flow g := rfl
  simp only [ok_X4_flow] at hok
  refine lv_aload_n hx hb dX4_flow_0 rfl (lv_at hl 0 rfl) ?_
  refine lv_aload_n hx hb dX4_flow_1 rfl (lv_at hl 0 rfl) ?_
  refine gf_X4_63 fx hP 0 rfl (v := M_depth g) rfl dX4_flow_2 ?_
  obtain ⟨hk1, hok⟩ := hok
  refine kR_i (runM fx (As := [.int (M_depth g)]) (rest := []) (c_X4_poreAt l D q H.size km g (M_depth g) hk1) lk_X4_109 ⟨Nat.le_of_ble_eq_true rfl, Nat.le_of_ble_eq_true rfl⟩ ⟨rfl, rfl⟩ hP (hD _) rfl hl.1 rfl (Nat.le_of_ble_eq_true rfl) dX4_flow_5 ⟨Nat.zero_le _, Nat.zero_le _⟩) hP hS (fun r2 _ H locs hr3 hP hS => ?_)
  subst hr3
  refine lv_aload_n hx hb dX4_flow_8 rfl (lv_at hl 0 rfl) ?_
  refine kR_i (runM fx (As := []) (rest := [.int (f_X4_poreAt g (M_depth g))]) (c_X4_bottom l D q H.size km g) lk_X4_118 ⟨Nat.le_of_ble_eq_true rfl, Nat.le_of_ble_eq_true rfl⟩ ⟨rfl, rfl⟩ hP (hD _) rfl hl.1 rfl (Nat.le_of_ble_eq_true rfl) dX4_flow_9 ⟨Nat.zero_le _, Nat.zero_le _⟩) hP hS (fun r4 _ H locs hr5 hP hS => ?_)
  subst hr5
  refine lv_isub hx hb dX4_flow_12 ?_
  refine lv_istore_n (lv' := [(1, .int ((f_X4_poreAt g (M_depth g)) - (f_X4_bottom g))), (0, .ref (km 0))]) hx hb dX4_flow_13 rfl hl (by decide) rfl (fun ls hl => ?_)
  refine lv_aload_n hx hb dX4_flow_14 rfl (lv_at hl 1 rfl) ?_
  refine gf_X4_63 fx hP 0 rfl (v := M_depth g) rfl dX4_flow_15 ?_
  refine kR_i (runS fx (As := [.int (M_depth g)]) (rest := []) (c_X4_layerAt l D q H.size (M_depth g)) lk_X4_55 ⟨Nat.le_of_ble_eq_true rfl, Nat.le_of_ble_eq_true rfl⟩ ⟨rfl, rfl⟩ hP (hD _) [] rfl rfl rfl hl.1 rfl (Nat.le_of_ble_eq_true rfl) dX4_flow_18 ⟨Nat.zero_le _, Nat.zero_le _⟩) hP hS (fun r6 _ H locs hr7 hP hS => ?_)
  subst hr7
  refine lv_istore_n (lv' := [(2, .int (f_X4_layerAt (M_depth g))), (1, .int ((f_X4_poreAt g (M_depth g)) - (f_X4_bottom g))), (0, .ref (km 0))]) hx hb dX4_flow_21 rfl hl (by decide) rfl (fun ls hl => ?_)
  refine lv_lconst (v := 1) hx hb dX4_flow_22 (by decide) ?_
  refine lv_iload_n hx hb dX4_flow_23 rfl (lv_at hl 1 rfl) ?_
  refine lv_i2l (v := ((f_X4_poreAt g (M_depth g)) - (f_X4_bottom g)).toInt64) hx hb dX4_flow_24 rfl ?_
  refine lv_aload_n hx hb dX4_flow_25 rfl (lv_at hl 2 rfl) ?_
  refine gf_X4_16 fx hP 0 rfl dX4_flow_26 ?_
  refine lv_iload_n hx hb dX4_flow_29 rfl (lv_at hl 0 rfl) ?_
  obtain ⟨hi8, hok⟩ := hok
  refine al_rate fx hP (f := M_rate g) rfl hi8 dX4_flow_30 ?_
  refine lv_i2l (v := ((M_rate g) (f_X4_layerAt (M_depth g)).toNatClampNeg).toInt64) hx hb dX4_flow_31 rfl ?_
  refine lv_lmul hx hb dX4_flow_32 ?_
  refine lv_ldc2 hx hb fx.2.2.2.1 (fx.2.2.2.2.1 _ mm_316) dX4_flow_33 ?_
  refine lv_ldiv hx hb dX4_flow_36 (by decide) ?_
  refine lv_ladd hx hb dX4_flow_37 ?_
  refine lv_lstore_n (lv' := [(3, .long ((1 : Int64) + (((((f_X4_poreAt g (M_depth g)) - (f_X4_bottom g)).toInt64) * (((M_rate g) (f_X4_layerAt (M_depth g)).toNatClampNeg).toInt64)) / (10000 : Int64)))), (2, .int (f_X4_layerAt (M_depth g))), (1, .int ((f_X4_poreAt g (M_depth g)) - (f_X4_bottom g))), (0, .ref (km 0))]) hx hb dX4_flow_38 rfl hl (by decide) rfl (fun ls hl => ?_)
  refine lv_lload_n hx hb dX4_flow_39 rfl (lv_at hl 0 rfl) ?_
  refine lv_ldc2 hx hb fx.2.2.2.1 (fx.2.2.2.2.1 _ mm_317) dX4_flow_40 ?_
  refine W.lcmp hx hb dX4_flow_43 ?_
  have K54 : ∀ (j12 : Int64) (H : Heap) (locs : List Loc) (ls : Array Slot), ok_X4_flow_b54 g j12 → f_X4_flow g = f_X4_flow_b54 g j12 → va_P D vwCl (cModel km q g) H → va_S A s.heap H locs → lv_has ls 6 [(0, .ref (km 0)), (2, .int (f_X4_layerAt (M_depth g)))] → W p l e RM_X4_flow s m args below meth c H locs 0 0 Q (F0 m 54 ls [.long j12]) := by
    intro j12 H locs ls hok ht hP hS hl
    simp only [ok_X4_flow_b54] at hok
    refine lv_lstore_n (lv' := [(3, .long j12), (0, .ref (km 0)), (2, .int (f_X4_layerAt (M_depth g)))]) hx hb dX4_flow_54 rfl hl (by decide) rfl (fun ls hl => ?_)
    refine lv_aload_n hx hb dX4_flow_55 rfl (lv_at hl 1 rfl) ?_
    refine lv_iconst (v := 1) hx hb dX4_flow_56 (by decide) ?_
    refine pf_X4_125_M fx hP (hD _) hS (hz := bz1) dX4_flow_57 (fun H locs hP hS => ?_)
    refine lv_aload_n hx hb dX4_flow_60 rfl (lv_at hl 1 rfl) ?_
    refine gf_X4_19 fx hP 0 rfl dX4_flow_61 ?_
    refine lv_iload_n hx hb dX4_flow_64 rfl (lv_at hl 2 rfl) ?_
    obtain ⟨hi13, hok⟩ := hok
    refine al_bearsGas fx hP (f := M_bearsGas g) (M_bearsGas_set_flowed _ _) hi13 dX4_flow_65 ?_
    refine lv_if_ne (tgt := 113) hx hb dX4_flow_66 (by decide) (fun c14 => ?_) (fun c14 => ?_)
    · have hok := hok.2 c14
      refine lv_aload_n hx hb dX4_flow_113 rfl (lv_at hl 1 rfl) ?_
      refine lv_aload_n hx hb dX4_flow_114 rfl (lv_at hl 1 rfl) ?_
      refine gf_X4_96 fx hP 0 rfl (v := M_charge g) (M_charge_set_flowed _ _) dX4_flow_115 ?_
      refine lv_lconst (v := 0) hx hb dX4_flow_118 (by decide) ?_
      refine W.lcmp hx hb dX4_flow_119 ?_
      suffices K : ∀ (v16 : Int32), ∀ (H : Heap) (locs : List Loc) (ls : Array Slot), v16 = (if (lg_cmp (M_charge g) (0 : Int64)) ≤ 0 then M_depth g else M_place g) → va_P D vwCl (cModel km q (M_set_flowed g (1 : Int32))) H → va_S A s.heap H locs → lv_has ls 6 [(0, .ref (km 0)), (3, .long j12)] → W p l e RM_X4_flow s m args below meth c H locs 0 0 Q (F0 m 134 ls [.int v16, .ref (km 0)]) by
        refine lv_if_le (tgt := 130) hx hb dX4_flow_120 (by decide) (fun c15 => ?_) (fun c15 => ?_)
        · refine lv_aload_n hx hb dX4_flow_130 rfl (lv_at hl 1 rfl) ?_
          refine gf_X4_63 fx hP 0 rfl (v := M_depth g) (M_depth_set_flowed _ _) dX4_flow_131 ?_
          exact K (M_depth g) H locs ls (by simp only [if_pos c15]) hP hS (lv_sub hl [1, 0] rfl)
        · refine lv_aload_n hx hb dX4_flow_123 rfl (lv_at hl 1 rfl) ?_
          refine gf_X4_90 fx hP 0 rfl (v := M_place g) (M_place_set_flowed _ _) dX4_flow_124 ?_
          refine lv_goto (tgt := 134) hx hb dX4_flow_127 (by decide) ?_
          exact K (M_place g) H locs ls (by simp only [if_neg c15]) hP hS (lv_sub hl [1, 0] rfl)
      intro v16 H locs ls hvv16 hP hS hl
      subst hvv16
      refine pf_X4_90_M fx hP (hD _) hS dX4_flow_134 (fun H locs hP hS => ?_)
      refine lv_aload_n hx hb dX4_flow_137 rfl (lv_at hl 0 rfl) ?_
      refine lv_dup hx hb dX4_flow_138 rfl ?_
      refine gf_X4_96 fx hP 0 rfl (v := M_charge g) ((M_charge_set_place _ _).trans (M_charge_set_flowed _ _)) dX4_flow_139 ?_
      refine lv_lload_n hx hb dX4_flow_142 rfl (lv_at hl 1 rfl) ?_
      refine lv_aload_n hx hb dX4_flow_143 rfl (lv_at hl 0 rfl) ?_
      refine kR_i (runM fx (As := []) (rest := [.long j12, .long (M_charge g), .ref (km 0)]) (c_X4_bottom l D q H.size km (M_set_place (M_set_flowed g (1 : Int32)) (if (lg_cmp (M_charge g) (0 : Int64)) ≤ 0 then M_depth g else M_place g))) lk_X4_118 ⟨Nat.le_of_ble_eq_true rfl, Nat.le_of_ble_eq_true rfl⟩ ⟨rfl, rfl⟩ hP (hD _) rfl hl.1 rfl (Nat.le_of_ble_eq_true rfl) dX4_flow_144 ⟨Nat.zero_le _, Nat.zero_le _⟩) hP hS (fun r17 _ H locs hr18 hP hS => ?_)
      subst hr18
      have K158 : ∀ (j26 : Int32) (H : Heap) (locs : List Loc) (ls : Array Slot), ok_X4_flow_b158 g j12 j26 → f_X4_flow g = f_X4_flow_b158 g j12 j26 → va_P D vwCl (cModel km q (M_set_place (M_set_flowed g (1 : Int32)) (if (lg_cmp (M_charge g) (0 : Int64)) ≤ 0 then M_depth g else M_place g))) H → va_S A s.heap H locs → lv_has ls 6 [(0, .ref (km 0))] → W p l e RM_X4_flow s m args below meth c H locs 0 0 Q (F0 m 158 ls [.int j26, .long j12, .long (M_charge g), .ref (km 0)]) := by
        intro j26 H locs ls hok ht hP hS hl
        simp only [ok_X4_flow_b158] at hok
        refine lv_i2l (v := j26.toInt64) hx hb dX4_flow_158 rfl ?_
        refine lv_lmul hx hb dX4_flow_159 ?_
        refine lv_ladd hx hb dX4_flow_160 ?_
        refine pf_X4_96_M fx hP (hD _) hS dX4_flow_161 (fun H locs hP hS => ?_)
        refine lv_aload_n hx hb dX4_flow_164 rfl (lv_at hl 0 rfl) ?_
        obtain ⟨hk27, hok⟩ := hok
        refine kM_v (runM fx (As := []) (rest := []) (c_X4_measure l D q H.size km (M_set_charge (M_set_place (M_set_flowed g (1 : Int32)) (if (lg_cmp (M_charge g) (0 : Int64)) ≤ 0 then M_depth g else M_place g)) ((M_charge g) + (j12 * j26.toInt64))) hk27) lk_X4_106 ⟨Nat.le_of_ble_eq_true rfl, Nat.le_of_ble_eq_true rfl⟩ ⟨rfl, rfl⟩ hP (hD _) rfl hl.1 rfl (Nat.le_of_ble_eq_true rfl) dX4_flow_165 ⟨Nat.zero_le _, Nat.zero_le _⟩) hP (hD _) hS hA (fun u28 H locs hw29 hP hS => ?_)
        try simp only [hw29] at hok
        exact hret u28 _ _ _ _ dX4_flow_168 (ht.trans (by simp only [f_X4_flow_b158, hw29])) hP hS
      refine lv_if_le (tgt := 157) hx hb dX4_flow_147 (by decide) (fun c23 => ?_) (fun c23 => ?_)
      · have hok := hok.1 c23
        refine lv_iconst (v := 1) hx hb dX4_flow_157 (by decide) ?_
        exact K158 (1 : Int32) H locs ls hok (ht.trans (by simp only [f_X4_flow_b54, if_neg c14, if_pos c23])) hP hS (lv_sub hl [0] rfl)
      · have hok := hok.2 c23
        refine lv_aload_n hx hb dX4_flow_150 rfl (lv_at hl 0 rfl) ?_
        refine kR_i (runM fx (As := []) (rest := [.long j12, .long (M_charge g), .ref (km 0)]) (c_X4_bottom l D q H.size km (M_set_place (M_set_flowed g (1 : Int32)) (if (lg_cmp (M_charge g) (0 : Int64)) ≤ 0 then M_depth g else M_place g))) lk_X4_118 ⟨Nat.le_of_ble_eq_true rfl, Nat.le_of_ble_eq_true rfl⟩ ⟨rfl, rfl⟩ hP (hD _) rfl hl.1 rfl (Nat.le_of_ble_eq_true rfl) dX4_flow_151 ⟨Nat.zero_le _, Nat.zero_le _⟩) hP hS (fun r24 _ H locs hr25 hP hS => ?_)
        subst hr25
        refine lv_goto (tgt := 158) hx hb dX4_flow_154 (by decide) ?_
        exact K158 (f_X4_bottom (M_set_place (M_set_flowed g (1 : Int32)) (if (lg_cmp (M_charge g) (0 : Int64)) ≤ 0 then M_depth g else M_place g))) H locs ls hok (ht.trans (by simp only [f_X4_flow_b54, if_neg c14, if_neg c23])) hP hS (lv_sub hl [0] rfl)
    · have hok := hok.1 c14
      refine lv_aload_n hx hb dX4_flow_69 rfl (lv_at hl 1 rfl) ?_
      refine gf_X4_63 fx hP 0 rfl (v := M_depth g) (M_depth_set_flowed _ _) dX4_flow_70 ?_
      refine lv_aload_n hx hb dX4_flow_73 rfl (lv_at hl 1 rfl) ?_
      refine gf_X4_77 fx hP 0 rfl (v := M_gas g) (M_gas_set_flowed _ _) dX4_flow_74 ?_
      refine lv_isub hx hb dX4_flow_77 ?_
      refine lv_istore (lv' := [(5, .int ((M_depth g) - (M_gas g))), (3, .long j12), (0, .ref (km 0)), (2, .int (f_X4_layerAt (M_depth g)))]) hx hb dX4_flow_78 hl (by decide) rfl (fun ls hl => ?_)
      refine lv_aload_n hx hb dX4_flow_80 rfl (lv_at hl 2 rfl) ?_
      refine lv_aload_n hx hb dX4_flow_81 rfl (lv_at hl 2 rfl) ?_
      refine gf_X4_80 fx hP 0 rfl (v := M_liquid g) (M_liquid_set_flowed _ _) dX4_flow_82 ?_
      refine lv_i2l (v := (M_liquid g).toInt64) hx hb dX4_flow_85 rfl ?_
      refine lv_lload_n hx hb dX4_flow_86 rfl (lv_at hl 1 rfl) ?_
      refine lv_ladd hx hb dX4_flow_87 ?_
      refine lv_iload hx hb dX4_flow_88 (lv_at hl 0 rfl) ?_
      refine lv_i2l (v := ((M_depth g) - (M_gas g)).toInt64) hx hb dX4_flow_90 rfl ?_
      refine W.lcmp hx hb dX4_flow_91 ?_
      refine lv_if_le (tgt := 100) hx hb dX4_flow_92 (by decide) (fun c30 => ?_) (fun c30 => ?_)
      · refine lv_aload_n hx hb dX4_flow_100 rfl (lv_at hl 2 rfl) ?_
        refine gf_X4_80 fx hP 0 rfl (v := M_liquid g) (M_liquid_set_flowed _ _) dX4_flow_101 ?_
        refine lv_lload_n hx hb dX4_flow_104 rfl (lv_at hl 1 rfl) ?_
        refine lv_l2i (v := j12.toInt32) hx hb dX4_flow_105 rfl ?_
        refine lv_iadd hx hb dX4_flow_106 ?_
        refine pf_X4_80_M fx hP (hD _) hS dX4_flow_107 (fun H locs hP hS => ?_)
        refine lv_goto (tgt := 168) hx hb dX4_flow_110 (by decide) ?_
        exact hret (M_set_liquid (M_set_flowed g (1 : Int32)) ((M_liquid g) + j12.toInt32)) _ _ _ _ dX4_flow_168 (ht.trans (by simp only [f_X4_flow_b54, if_pos c14, if_pos c30])) hP hS
      · refine lv_iload hx hb dX4_flow_95 (lv_at hl 0 rfl) ?_
        refine lv_goto (tgt := 107) hx hb dX4_flow_97 (by decide) ?_
        refine pf_X4_80_M fx hP (hD _) hS dX4_flow_107 (fun H locs hP hS => ?_)
        refine lv_goto (tgt := 168) hx hb dX4_flow_110 (by decide) ?_
        exact hret (M_set_liquid (M_set_flowed g (1 : Int32)) ((M_depth g) - (M_gas g))) _ _ _ _ dX4_flow_168 (ht.trans (by simp only [f_X4_flow_b54, if_pos c14, if_neg c30])) hP hS
  refine lv_if_le (tgt := 53) hx hb dX4_flow_44 (by decide) (fun c11 => ?_) (fun c11 => ?_)
  · have hok := hok.1 c11
    refine lv_lload_n hx hb dX4_flow_53 rfl (lv_at hl 0 rfl) ?_
    exact K54 ((1 : Int64) + (((((f_X4_poreAt g (M_depth g)) - (f_X4_bottom g)).toInt64) * (((M_rate g) (f_X4_layerAt (M_depth g)).toNatClampNeg).toInt64)) / (10000 : Int64))) H locs ls hok (ht.trans (by simp only [f_X4_flow, if_pos c11])) hP hS (lv_sub hl [3, 1] rfl)
  · have hok := hok.2 c11
    refine lv_ldc2 hx hb fx.2.2.2.1 (fx.2.2.2.2.1 _ mm_317) dX4_flow_47 ?_
    refine lv_goto (tgt := 54) hx hb dX4_flow_50 (by decide) ?_
    exact K54 (40 : Int64) H locs ls hok (ht.trans (by simp only [f_X4_flow, if_neg c11])) hP hS (lv_sub hl [3, 1] rfl)

/-! X4_passOne -/
def f_X4_passOne_b66 (g39 : MS) : MS :=
  if (M_shoe g39) ≤ 0 then (M_set_lost g39 ((M_lost g39) + (0 : Int64))) else (if (f_X4_foot g39) ≤ (f_X4_breakAt g39 (M_shoe g39)) then (M_set_lost g39 ((M_lost g39) + (0 : Int64))) else (M_set_lost g39 ((M_lost g39) + (5 : Int64))))

def ok_X4_passOne_b66 (g39 : MS) : Prop :=
  ((M_shoe g39) ≤ 0 → True) ∧ (¬ (M_shoe g39) ≤ 0 → ((ok_X4_breakAt (M_shoe g39)) ∧ True))

def f_X4_passOne_b40 (g18 : MS) : MS :=
  if (M_isClosed g18) = 0 then (if (f_X4_poreAt g18 (M_depth g18)) ≤ (f_X4_bottom g18) then (f_X4_passOne_b66 g18) else (f_X4_passOne_b66 (f_X4_flow g18))) else (f_X4_passOne_b66 g18)

def ok_X4_passOne_b40 (g18 : MS) : Prop :=
  ((M_isClosed g18) = 0 → ((ok_X4_poreAt (M_depth g18)) ∧ (((f_X4_poreAt g18 (M_depth g18)) ≤ (f_X4_bottom g18) → (ok_X4_passOne_b66 g18)) ∧ (¬ (f_X4_poreAt g18 (M_depth g18)) ≤ (f_X4_bottom g18) → ((ok_X4_flow g18) ∧ (ok_X4_passOne_b66 (f_X4_flow g18))))))) ∧ (¬ (M_isClosed g18) = 0 → (ok_X4_passOne_b66 g18))

def f_X4_passOne_b29 (g9 : MS) : MS :=
  if (M_isClosed g9) = 0 then (f_X4_passOne_b40 g9) else (f_X4_passOne_b40 (f_X4_shut g9))

def ok_X4_passOne_b29 (g9 : MS) : Prop :=
  ((M_isClosed g9) = 0 → (ok_X4_passOne_b40 g9)) ∧ (¬ (M_isClosed g9) = 0 → ((ok_X4_shut g9) ∧ (ok_X4_passOne_b40 (f_X4_shut g9))))

def f_X4_passOne (g : MS) (p0 : Int32) : MS :=
  if (lg_cmp (M_charge g) (0 : Int64)) ≤ 0 then (f_X4_passOne_b29 (M_set_flowed (M_set_minutes g ((M_minutes g) + (1 : Int32))) (0 : Int32))) else (f_X4_passOne_b29 (f_X4_rise (M_set_flowed (M_set_minutes g ((M_minutes g) + (1 : Int32))) (0 : Int32)) p0))

def ok_X4_passOne (g : MS) (p0 : Int32) : Prop :=
  ((lg_cmp (M_charge g) (0 : Int64)) ≤ 0 → (ok_X4_passOne_b29 (M_set_flowed (M_set_minutes g ((M_minutes g) + (1 : Int32))) (0 : Int32)))) ∧ (¬ (lg_cmp (M_charge g) (0 : Int64)) ≤ 0 → ((ok_X4_rise (M_set_flowed (M_set_minutes g ((M_minutes g) + (1 : Int32))) (0 : Int32)) p0) ∧ (ok_X4_passOne_b29 (f_X4_rise (M_set_flowed (M_set_minutes g ((M_minutes g) + (1 : Int32))) (0 : Int32)) p0))))

abbrev RM_X4_passOne : Room := { frames := 3, cells := 0, slots := 0, locals := 70 }
set_option maxRecDepth 100000 in
set_option maxHeartbeats 4000000 in
theorem c_X4_passOne (l : Launch) (D : va_G) (q : Nat → ClassId) (sz : Nat) (km : Nat → Nat) (g : MS) (p0 : Int32) (hok : ok_X4_passOne g p0) : Met l yX4_passOne (Cond.code yX4_passOne cX4_passOne 2 none :: ALL) RM_X4_passOne (PC D q [.ref (km 0), .int p0] (cModel km q g) sz) (va_Qv (fun (u : MS) => f_X4_passOne g p0 = u) (fun u t9 => va_P D vwCl (cModel km q u) t9.heap) (va_A (cModel km q g) sz)) 0 0 (va_A (cModel km q g) sz) := by
  refine en_vW (by decide +kernel) (Nat.le_of_ble_eq_true rfl) ?_
  intro p e s m args below meth c Q A H locs ls fx hD0 hA hP hS hl hret
  have hx := fx.1
  have hb := fx.2.1
  have hl : lv_has ls 2 [(0, .ref (km 0)), (1, .int p0)] := hl
  have hD : ∀ (g9 : MS), va_D _ (cModel km q g9) := fun _ => D_same ((fst_Model _ _ _).trans (fst_Model _ _ _).symm) hD0
  have ht : f_X4_passOne g p0 = f_X4_passOne g p0 := rfl
  simp only [ok_X4_passOne] at hok
  refine lv_aload_n hx hb dX4_passOne_0 rfl (lv_at hl 0 rfl) ?_
  refine lv_dup hx hb dX4_passOne_1 rfl ?_
  refine gf_X4_128 fx hP 0 rfl (v := M_minutes g) rfl dX4_passOne_2 ?_
  refine lv_iconst (v := 1) hx hb dX4_passOne_5 (by decide) ?_
  refine lv_iadd hx hb dX4_passOne_6 ?_
  refine pf_X4_128_M fx hP (hD _) hS dX4_passOne_7 (fun H locs hP hS => ?_)
  refine lv_aload_n hx hb dX4_passOne_10 rfl (lv_at hl 0 rfl) ?_
  refine lv_iconst (v := 0) hx hb dX4_passOne_11 (by decide) ?_
  refine pf_X4_125_M fx hP (hD _) hS (hz := bz0) dX4_passOne_12 (fun H locs hP hS => ?_)
  refine lv_aload_n hx hb dX4_passOne_15 rfl (lv_at hl 0 rfl) ?_
  refine gf_X4_96 fx hP 0 rfl (v := M_charge g) ((M_charge_set_flowed _ _).trans (M_charge_set_minutes _ _)) dX4_passOne_16 ?_
  refine lv_lconst (v := 0) hx hb dX4_passOne_19 (by decide) ?_
  refine W.lcmp hx hb dX4_passOne_20 ?_
  have K29 : ∀ (g9 : MS) (H : Heap) (locs : List Loc) (ls : Array Slot), ok_X4_passOne_b29 g9 → f_X4_passOne g p0 = f_X4_passOne_b29 g9 → va_P D vwCl (cModel km q g9) H → va_S A s.heap H locs → lv_has ls 2 [(0, .ref (km 0))] → W p l e RM_X4_passOne s m args below meth c H locs 0 0 Q (F0 m 29 ls []) := by
    intro g9 H locs ls hok ht hP hS hl
    simp only [ok_X4_passOne_b29] at hok
    refine lv_aload_n hx hb dX4_passOne_29 rfl (lv_at hl 0 rfl) ?_
    refine gf_X4_70 fx hP 0 rfl (v := M_isClosed g9) rfl dX4_passOne_30 ?_
    have K40 : ∀ (g18 : MS) (H : Heap) (locs : List Loc) (ls : Array Slot), ok_X4_passOne_b40 g18 → f_X4_passOne g p0 = f_X4_passOne_b40 g18 → va_P D vwCl (cModel km q g18) H → va_S A s.heap H locs → lv_has ls 2 [(0, .ref (km 0))] → W p l e RM_X4_passOne s m args below meth c H locs 0 0 Q (F0 m 40 ls []) := by
      intro g18 H locs ls hok ht hP hS hl
      simp only [ok_X4_passOne_b40] at hok
      refine lv_aload_n hx hb dX4_passOne_40 rfl (lv_at hl 0 rfl) ?_
      refine gf_X4_70 fx hP 0 rfl (v := M_isClosed g18) rfl dX4_passOne_41 ?_
      have K66 : ∀ (g39 : MS) (H : Heap) (locs : List Loc) (ls : Array Slot), ok_X4_passOne_b66 g39 → f_X4_passOne g p0 = f_X4_passOne_b66 g39 → va_P D vwCl (cModel km q g39) H → va_S A s.heap H locs → lv_has ls 2 [(0, .ref (km 0))] → W p l e RM_X4_passOne s m args below meth c H locs 0 0 Q (F0 m 66 ls []) := by
        intro g39 H locs ls hok ht hP hS hl
        simp only [ok_X4_passOne_b66] at hok
        refine lv_aload_n hx hb dX4_passOne_66 rfl (lv_at hl 0 rfl) ?_
        refine lv_dup hx hb dX4_passOne_67 rfl ?_
        refine gf_X4_141 fx hP 0 rfl (v := M_lost g39) rfl dX4_passOne_68 ?_
        refine lv_aload_n hx hb dX4_passOne_71 rfl (lv_at hl 0 rfl) ?_
        refine gf_X4_93 fx hP 0 rfl (v := M_shoe g39) rfl dX4_passOne_72 ?_
        refine lv_if_le (tgt := 99) hx hb dX4_passOne_75 (by decide) (fun c40 => ?_) (fun c40 => ?_)
        · have hok := hok.1 c40
          refine lv_lconst (v := 0) hx hb dX4_passOne_99 (by decide) ?_
          refine lv_ladd hx hb dX4_passOne_100 ?_
          refine pf_X4_141_M fx hP (hD _) hS dX4_passOne_101 (fun H locs hP hS => ?_)
          exact hret (M_set_lost g39 ((M_lost g39) + (0 : Int64))) _ _ _ _ dX4_passOne_104 (ht.trans (by simp only [f_X4_passOne_b66, if_pos c40])) hP hS
        · have hok := hok.2 c40
          refine lv_aload_n hx hb dX4_passOne_78 rfl (lv_at hl 0 rfl) ?_
          refine kR_i (runM fx (As := []) (rest := [.long (M_lost g39), .ref (km 0)]) (c_X4_foot l D q H.size km g39) lk_X4_144 ⟨Nat.le_of_ble_eq_true rfl, Nat.le_of_ble_eq_true rfl⟩ ⟨rfl, rfl⟩ hP (hD _) rfl hl.1 rfl (Nat.le_of_ble_eq_true rfl) dX4_passOne_79 ⟨Nat.zero_le _, Nat.zero_le _⟩) hP hS (fun r41 _ H locs hr42 hP hS => ?_)
          subst hr42
          refine lv_aload_n hx hb dX4_passOne_82 rfl (lv_at hl 0 rfl) ?_
          refine lv_aload_n hx hb dX4_passOne_83 rfl (lv_at hl 0 rfl) ?_
          refine gf_X4_93 fx hP 0 rfl (v := M_shoe g39) rfl dX4_passOne_84 ?_
          obtain ⟨hk43, hok⟩ := hok
          refine kR_i (runM fx (As := [.int (M_shoe g39)]) (rest := [.int (f_X4_foot g39), .long (M_lost g39), .ref (km 0)]) (c_X4_breakAt l D q H.size km g39 (M_shoe g39) hk43) lk_X4_147 ⟨Nat.le_of_ble_eq_true rfl, Nat.le_of_ble_eq_true rfl⟩ ⟨rfl, rfl⟩ hP (hD _) rfl hl.1 rfl (Nat.le_of_ble_eq_true rfl) dX4_passOne_87 ⟨Nat.zero_le _, Nat.zero_le _⟩) hP hS (fun r44 _ H locs hr45 hP hS => ?_)
          subst hr45
          refine lv_icmp_le (tgt := 99) hx hb dX4_passOne_90 (by decide) (fun c46 => ?_) (fun c46 => ?_)
          · refine lv_lconst (v := 0) hx hb dX4_passOne_99 (by decide) ?_
            refine lv_ladd hx hb dX4_passOne_100 ?_
            refine pf_X4_141_M fx hP (hD _) hS dX4_passOne_101 (fun H locs hP hS => ?_)
            exact hret (M_set_lost g39 ((M_lost g39) + (0 : Int64))) _ _ _ _ dX4_passOne_104 (ht.trans (by simp only [f_X4_passOne_b66, if_neg c40, if_pos c46])) hP hS
          · refine lv_ldc2 hx hb fx.2.2.2.1 (fx.2.2.2.2.1 _ mm_341) dX4_passOne_93 ?_
            refine lv_goto (tgt := 100) hx hb dX4_passOne_96 (by decide) ?_
            refine lv_ladd hx hb dX4_passOne_100 ?_
            refine pf_X4_141_M fx hP (hD _) hS dX4_passOne_101 (fun H locs hP hS => ?_)
            exact hret (M_set_lost g39 ((M_lost g39) + (5 : Int64))) _ _ _ _ dX4_passOne_104 (ht.trans (by simp only [f_X4_passOne_b66, if_neg c40, if_neg c46])) hP hS
      refine lv_if_ne (tgt := 66) hx hb dX4_passOne_44 (by decide) (fun c29 => ?_) (fun c29 => ?_)
      · have hok := hok.2 c29
        exact K66 g18 H locs ls hok (ht.trans (by simp only [f_X4_passOne_b40, if_neg c29])) hP hS (lv_sub hl [0] rfl)
      · have hok := hok.1 c29
        refine lv_aload_n hx hb dX4_passOne_47 rfl (lv_at hl 0 rfl) ?_
        refine lv_aload_n hx hb dX4_passOne_48 rfl (lv_at hl 0 rfl) ?_
        refine gf_X4_63 fx hP 0 rfl (v := M_depth g18) rfl dX4_passOne_49 ?_
        obtain ⟨hk30, hok⟩ := hok
        refine kR_i (runM fx (As := [.int (M_depth g18)]) (rest := []) (c_X4_poreAt l D q H.size km g18 (M_depth g18) hk30) lk_X4_109 ⟨Nat.le_of_ble_eq_true rfl, Nat.le_of_ble_eq_true rfl⟩ ⟨rfl, rfl⟩ hP (hD _) rfl hl.1 rfl (Nat.le_of_ble_eq_true rfl) dX4_passOne_52 ⟨Nat.zero_le _, Nat.zero_le _⟩) hP hS (fun r31 _ H locs hr32 hP hS => ?_)
        subst hr32
        refine lv_aload_n hx hb dX4_passOne_55 rfl (lv_at hl 0 rfl) ?_
        refine kR_i (runM fx (As := []) (rest := [.int (f_X4_poreAt g18 (M_depth g18))]) (c_X4_bottom l D q H.size km g18) lk_X4_118 ⟨Nat.le_of_ble_eq_true rfl, Nat.le_of_ble_eq_true rfl⟩ ⟨rfl, rfl⟩ hP (hD _) rfl hl.1 rfl (Nat.le_of_ble_eq_true rfl) dX4_passOne_56 ⟨Nat.zero_le _, Nat.zero_le _⟩) hP hS (fun r33 _ H locs hr34 hP hS => ?_)
        subst hr34
        refine lv_icmp_le (tgt := 66) hx hb dX4_passOne_59 (by decide) (fun c35 => ?_) (fun c35 => ?_)
        · have hok := hok.1 c35
          exact K66 g18 H locs ls hok (ht.trans (by simp only [f_X4_passOne_b40, if_pos c29, if_pos c35])) hP hS (lv_sub hl [0] rfl)
        · have hok := hok.2 c35
          refine lv_aload_n hx hb dX4_passOne_62 rfl (lv_at hl 0 rfl) ?_
          obtain ⟨hk36, hok⟩ := hok
          refine kM_v (runM fx (As := []) (rest := []) (c_X4_flow l D q H.size km g18 hk36) lk_X4_138 ⟨Nat.le_of_ble_eq_true rfl, Nat.le_of_ble_eq_true rfl⟩ ⟨rfl, rfl⟩ hP (hD _) rfl hl.1 rfl (Nat.le_of_ble_eq_true rfl) dX4_passOne_63 ⟨Nat.zero_le _, Nat.zero_le _⟩) hP (hD _) hS hA (fun u37 H locs hw38 hP hS => ?_)
          try simp only [hw38] at hok
          exact K66 u37 H locs ls hok (ht.trans (by first | (simp only [f_X4_passOne_b40, if_pos c29, if_neg c35, hw38]; done) | (simp only [f_X4_passOne_b40, hw38]; simp only [if_pos c29, if_neg c35]))) hP hS (lv_sub hl [0] rfl)
    refine lv_if_eq (tgt := 40) hx hb dX4_passOne_33 (by decide) (fun c14 => ?_) (fun c14 => ?_)
    · have hok := hok.1 c14
      exact K40 g9 H locs ls hok (ht.trans (by simp only [f_X4_passOne_b29, if_pos c14])) hP hS (lv_sub hl [0] rfl)
    · have hok := hok.2 c14
      refine lv_aload_n hx hb dX4_passOne_36 rfl (lv_at hl 0 rfl) ?_
      obtain ⟨hk15, hok⟩ := hok
      refine kM_v (runM fx (As := []) (rest := []) (c_X4_shut l D q H.size km g9 hk15) lk_X4_135 ⟨Nat.le_of_ble_eq_true rfl, Nat.le_of_ble_eq_true rfl⟩ ⟨rfl, rfl⟩ hP (hD _) rfl hl.1 rfl (Nat.le_of_ble_eq_true rfl) dX4_passOne_37 ⟨Nat.zero_le _, Nat.zero_le _⟩) hP (hD _) hS hA (fun u16 H locs hw17 hP hS => ?_)
      try simp only [hw17] at hok
      exact K40 u16 H locs ls hok (ht.trans (by first | (simp only [f_X4_passOne_b29, if_neg c14, hw17]; done) | (simp only [f_X4_passOne_b29, hw17]; simp only [if_neg c14]))) hP hS (lv_sub hl [0] rfl)
  refine lv_if_le (tgt := 29) hx hb dX4_passOne_21 (by decide) (fun c5 => ?_) (fun c5 => ?_)
  · have hok := hok.1 c5
    exact K29 (M_set_flowed (M_set_minutes g ((M_minutes g) + (1 : Int32))) (0 : Int32)) H locs ls hok (ht.trans (by simp only [f_X4_passOne, if_pos c5])) hP hS (lv_sub hl [0] rfl)
  · have hok := hok.2 c5
    refine lv_aload_n hx hb dX4_passOne_24 rfl (lv_at hl 0 rfl) ?_
    refine lv_iload_n hx hb dX4_passOne_25 rfl (lv_at hl 1 rfl) ?_
    obtain ⟨hk6, hok⟩ := hok
    refine kM_v (runM fx (As := [.int p0]) (rest := []) (c_X4_rise l D q H.size km (M_set_flowed (M_set_minutes g ((M_minutes g) + (1 : Int32))) (0 : Int32)) p0 hk6) lk_X4_131 ⟨Nat.le_of_ble_eq_true rfl, Nat.le_of_ble_eq_true rfl⟩ ⟨rfl, rfl⟩ hP (hD _) rfl hl.1 rfl (Nat.le_of_ble_eq_true rfl) dX4_passOne_26 ⟨Nat.zero_le _, Nat.zero_le _⟩) hP (hD _) hS hA (fun u7 H locs hw8 hP hS => ?_)
    try simp only [hw8] at hok
    exact K29 u7 H locs ls hok (ht.trans (by first | (simp only [f_X4_passOne, if_neg c5, hw8]; done) | (simp only [f_X4_passOne, hw8]; simp only [if_neg c5]))) hP hS (lv_sub hl [0] rfl)

