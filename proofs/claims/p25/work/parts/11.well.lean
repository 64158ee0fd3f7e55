/-! X1_keep -/
def f_X1_keep_b80 (t13 : TS) : TS :=
  T_set_count t13 ((T_count t13) + (1 : Int32))

def f_X1_keep (t : TS) (p0 : Int32) (p1 : Int32) (p2 : Int32) (p3 : Int32) : TS :=
  if p0 = 0 then (f_X1_keep_b80 (T_set_latestOfValve (T_set_minutes (T_set_passes (T_set_pressures (T_set_whats t (f_X3_write 60 (T_whats t) (T_count t) p0)) (f_X3_write 60 (T_pressures t) (T_count t) p1)) (f_X3_write 60 (T_passes t) (T_count t) (if p2 = 0 then (0 : Int32) else (1 : Int32)))) (f_X3_write 60 (T_minutes t) (T_count t) p3)) (T_count t))) else (f_X1_keep_b80 (T_set_latestOfCement (T_set_minutes (T_set_passes (T_set_pressures (T_set_whats t (f_X3_write 60 (T_whats t) (T_count t) p0)) (f_X3_write 60 (T_pressures t) (T_count t) p1)) (f_X3_write 60 (T_passes t) (T_count t) (if p2 = 0 then (0 : Int32) else (1 : Int32)))) (f_X3_write 60 (T_minutes t) (T_count t) p3)) (T_count t)))

abbrev RM_X1_keep : Room := { frames := 1, cells := 0, slots := 0, locals := 22 }
set_option maxRecDepth 100000 in
set_option maxHeartbeats 4000000 in
theorem c_X1_keep (l : Launch) (D : va_G) (q : Nat → ClassId) (sz : Nat) (kt : Nat → Nat) (t : TS) (p0 : Int32) (p1 : Int32) (p2 : Int32) (p3 : Int32) : Met l yX1_keep (Cond.code yX1_keep cX1_keep 5 none :: ALL) RM_X1_keep (PC D q [.ref (kt 0), .int p0, .int p1, .int p2, .int p3] (cTests kt q t) sz) (va_Qv (fun (u : TS) => f_X1_keep t p0 p1 p2 p3 = u) (fun u t9 => va_P D vwCl (cTests kt q u) t9.heap) (va_A (cTests kt q t) sz)) 0 0 (va_A (cTests kt q t) sz) := by
  refine en_vW (by decide +kernel) (Nat.le_of_ble_eq_true rfl) ?_
  intro p e s m args below meth c Q A H locs ls fx hD0 hA hP hS hl hret
  have hx := fx.1
  have hb := fx.2.1
  have hl : lv_has ls 5 [(0, .ref (kt 0)), (1, .int p0), (2, .int p1), (3, .int p2), (4, .int p3)] := hl
  have hD : ∀ (t9 : TS), va_D _ (cTests kt q t9) := fun _ => D_same ((fst_Tests _ _ _).trans (fst_Tests _ _ _).symm) hD0
  have ht : f_X1_keep t p0 p1 p2 p3 = f_X1_keep t p0 p1 p2 p3 := rfl
  refine lv_aload_n hx hb dX1_keep_0 rfl (lv_at hl 0 rfl) ?_
  refine gf_X1_9 fx hP 0 rfl dX1_keep_1 ?_
  refine lv_aload_n hx hb dX1_keep_4 rfl (lv_at hl 0 rfl) ?_
  refine gf_X1_31 fx hP 0 rfl (v := T_count t) rfl dX1_keep_5 ?_
  refine lv_iload_n hx hb dX1_keep_8 rfl (lv_at hl 1 rfl) ?_
  refine kW_v (runSN fx (As := [.ref (kt 1), .int (T_count t), .int p0]) (rest := []) (c_X3_write l D q H.size (kt 1) 60 (Nat.le_of_ble_eq_true rfl) (T_whats t) (T_count t) p0) lk_X1_34 ⟨Nat.le_of_ble_eq_true rfl, Nat.le_of_ble_eq_true rfl⟩ ⟨rfl, rfl⟩ hP (hD _) [1] rfl rfl rfl hl.1 rfl (Nat.le_of_ble_eq_true rfl) dX1_keep_9 ⟨Nat.zero_le _, Nat.zero_le _⟩) hP (hD _) hS hA [1] rfl (fun _ => rfl) (fun u1 H locs hw2 hP hS => ?_)
  have hP : va_P D vwCl (cTests kt q (T_set_whats t u1)) H := hP
  refine lv_aload_n hx hb dX1_keep_12 rfl (lv_at hl 0 rfl) ?_
  refine gf_X1_15 fx hP 0 rfl dX1_keep_13 ?_
  refine lv_aload_n hx hb dX1_keep_16 rfl (lv_at hl 0 rfl) ?_
  refine gf_X1_31 fx hP 0 rfl (v := T_count t) (T_count_set_whats _ _) dX1_keep_17 ?_
  refine lv_iload_n hx hb dX1_keep_20 rfl (lv_at hl 2 rfl) ?_
  refine kW_v (runSN fx (As := [.ref (kt 2), .int (T_count t), .int p1]) (rest := []) (c_X3_write l D q H.size (kt 2) 60 (Nat.le_of_ble_eq_true rfl) (T_pressures t) (T_count t) p1) lk_X1_34 ⟨Nat.le_of_ble_eq_true rfl, Nat.le_of_ble_eq_true rfl⟩ ⟨rfl, rfl⟩ hP (hD _) [2] rfl rfl rfl hl.1 rfl (Nat.le_of_ble_eq_true rfl) dX1_keep_21 ⟨Nat.zero_le _, Nat.zero_le _⟩) hP (hD _) hS hA [2] rfl (fun _ => rfl) (fun u3 H locs hw4 hP hS => ?_)
  have hP : va_P D vwCl (cTests kt q (T_set_pressures (T_set_whats t u1) u3)) H := hP
  refine lv_aload_n hx hb dX1_keep_24 rfl (lv_at hl 0 rfl) ?_
  refine gf_X1_18 fx hP 0 rfl dX1_keep_25 ?_
  refine lv_aload_n hx hb dX1_keep_28 rfl (lv_at hl 0 rfl) ?_
  refine gf_X1_31 fx hP 0 rfl (v := T_count t) ((T_count_set_pressures _ _).trans (T_count_set_whats _ _)) dX1_keep_29 ?_
  refine lv_iload_n hx hb dX1_keep_32 rfl (lv_at hl 3 rfl) ?_
  suffices K : ∀ (v6 : Int32), ∀ (H : Heap) (locs : List Loc) (ls : Array Slot), v6 = (if p2 = 0 then (0 : Int32) else (1 : Int32)) → va_P D vwCl (cTests kt q (T_set_pressures (T_set_whats t u1) u3)) H → va_S A s.heap H locs → lv_has ls 5 [(0, .ref (kt 0)), (1, .int p0), (4, .int p3)] → W p l e RM_X1_keep s m args below meth c H locs 0 0 Q (F0 m 41 ls [.int v6, .int (T_count t), .ref (kt 3)]) by
    refine lv_if_eq (tgt := 40) hx hb dX1_keep_33 (by decide) (fun c5 => ?_) (fun c5 => ?_)
    · refine lv_iconst (v := 0) hx hb dX1_keep_40 (by decide) ?_
      exact K (0 : Int32) H locs ls (by simp only [if_pos c5, hw2, hw4]) hP hS (lv_sub hl [0, 1, 4] rfl)
    · refine lv_iconst (v := 1) hx hb dX1_keep_36 (by decide) ?_
      refine lv_goto (tgt := 41) hx hb dX1_keep_37 (by decide) ?_
      exact K (1 : Int32) H locs ls (by simp only [if_neg c5, hw2, hw4]) hP hS (lv_sub hl [0, 1, 4] rfl)
  intro v6 H locs ls hvv6 hP hS hl
  subst hvv6
  refine kW_v (runSN fx (As := [.ref (kt 3), .int (T_count t), .int (if p2 = 0 then (0 : Int32) else (1 : Int32))]) (rest := []) (c_X3_write l D q H.size (kt 3) 60 (Nat.le_of_ble_eq_true rfl) (T_passes t) (T_count t) (if p2 = 0 then (0 : Int32) else (1 : Int32))) lk_X1_34 ⟨Nat.le_of_ble_eq_true rfl, Nat.le_of_ble_eq_true rfl⟩ ⟨rfl, rfl⟩ hP (hD _) [3] rfl rfl rfl hl.1 rfl (Nat.le_of_ble_eq_true rfl) dX1_keep_41 ⟨Nat.zero_le _, Nat.zero_le _⟩) hP (hD _) hS hA [3] rfl (fun _ => rfl) (fun u7 H locs hw8 hP hS => ?_)
  have hP : va_P D vwCl (cTests kt q (T_set_passes (T_set_pressures (T_set_whats t u1) u3) u7)) H := hP
  refine lv_aload_n hx hb dX1_keep_44 rfl (lv_at hl 0 rfl) ?_
  refine gf_X1_21 fx hP 0 rfl dX1_keep_45 ?_
  refine lv_aload_n hx hb dX1_keep_48 rfl (lv_at hl 0 rfl) ?_
  refine gf_X1_31 fx hP 0 rfl (v := T_count t) ((T_count_set_passes _ _).trans ((T_count_set_pressures _ _).trans (T_count_set_whats _ _))) dX1_keep_49 ?_
  refine lv_iload hx hb dX1_keep_52 (lv_at hl 2 rfl) ?_
  refine kW_v (runSN fx (As := [.ref (kt 4), .int (T_count t), .int p3]) (rest := []) (c_X3_write l D q H.size (kt 4) 60 (Nat.le_of_ble_eq_true rfl) (T_minutes t) (T_count t) p3) lk_X1_34 ⟨Nat.le_of_ble_eq_true rfl, Nat.le_of_ble_eq_true rfl⟩ ⟨rfl, rfl⟩ hP (hD _) [4] rfl rfl rfl hl.1 rfl (Nat.le_of_ble_eq_true rfl) dX1_keep_54 ⟨Nat.zero_le _, Nat.zero_le _⟩) hP (hD _) hS hA [4] rfl (fun _ => rfl) (fun u9 H locs hw10 hP hS => ?_)
  have hP : va_P D vwCl (cTests kt q (T_set_minutes (T_set_passes (T_set_pressures (T_set_whats t u1) u3) u7) u9)) H := hP
  refine lv_iload_n hx hb dX1_keep_57 rfl (lv_at hl 1 rfl) ?_
  have K80 : ∀ (t13 : TS) (H : Heap) (locs : List Loc) (ls : Array Slot), f_X1_keep t p0 p1 p2 p3 = f_X1_keep_b80 t13 → va_P D vwCl (cTests kt q t13) H → va_S A s.heap H locs → lv_has ls 5 [(0, .ref (kt 0))] → W p l e RM_X1_keep s m args below meth c H locs 0 0 Q (F0 m 80 ls []) := by
    intro t13 H locs ls ht hP hS hl
    refine lv_aload_n hx hb dX1_keep_80 rfl (lv_at hl 0 rfl) ?_
    refine lv_dup hx hb dX1_keep_81 rfl ?_
    refine gf_X1_31 fx hP 0 rfl (v := T_count t13) rfl dX1_keep_82 ?_
    refine lv_iconst (v := 1) hx hb dX1_keep_85 (by decide) ?_
    refine lv_iadd hx hb dX1_keep_86 ?_
    refine pf_X1_31 fx hP (hD _) hS 0 rfl dX1_keep_87 (fun H locs hP hS => ?_)
    have hP : va_P D vwCl (cTests kt q (T_set_count t13 ((T_count t13) + (1 : Int32)))) H := hP
    exact hret (T_set_count t13 ((T_count t13) + (1 : Int32))) _ _ _ _ dX1_keep_90 (ht.trans (by simp only [f_X1_keep_b80, hw2, hw4, hw8, hw10])) hP hS
  refine lv_if_ne (tgt := 72) hx hb dX1_keep_58 (by decide) (fun c12 => ?_) (fun c12 => ?_)
  · refine lv_aload_n hx hb dX1_keep_72 rfl (lv_at hl 0 rfl) ?_
    refine lv_aload_n hx hb dX1_keep_73 rfl (lv_at hl 0 rfl) ?_
    refine gf_X1_31 fx hP 0 rfl (v := T_count t) ((T_count_set_minutes _ _).trans ((T_count_set_passes _ _).trans ((T_count_set_pressures _ _).trans (T_count_set_whats _ _)))) dX1_keep_74 ?_
    refine pf_X1_28 fx hP (hD _) hS 0 rfl dX1_keep_77 (fun H locs hP hS => ?_)
    have hP : va_P D vwCl (cTests kt q (T_set_latestOfCement (T_set_minutes (T_set_passes (T_set_pressures (T_set_whats t u1) u3) u7) u9) (T_count t))) H := hP
    exact K80 (T_set_latestOfCement (T_set_minutes (T_set_passes (T_set_pressures (T_set_whats t u1) u3) u7) u9) (T_count t)) H locs ls (ht.trans (by first | (simp only [f_X1_keep, if_neg c12, hw2, hw4, hw8, hw10]; done) | (simp only [f_X1_keep, hw2, hw4, hw8, hw10]; simp only [if_neg c12]))) hP hS (lv_sub hl [0] rfl)
  · refine lv_aload_n hx hb dX1_keep_61 rfl (lv_at hl 0 rfl) ?_
    refine lv_aload_n hx hb dX1_keep_62 rfl (lv_at hl 0 rfl) ?_
    refine gf_X1_31 fx hP 0 rfl (v := T_count t) ((T_count_set_minutes _ _).trans ((T_count_set_passes _ _).trans ((T_count_set_pressures _ _).trans (T_count_set_whats _ _)))) dX1_keep_63 ?_
    refine pf_X1_24 fx hP (hD _) hS 0 rfl dX1_keep_66 (fun H locs hP hS => ?_)
    have hP : va_P D vwCl (cTests kt q (T_set_latestOfValve (T_set_minutes (T_set_passes (T_set_pressures (T_set_whats t u1) u3) u7) u9) (T_count t))) H := hP
    refine lv_goto (tgt := 80) hx hb dX1_keep_69 (by decide) ?_
    exact K80 (T_set_latestOfValve (T_set_minutes (T_set_passes (T_set_pressures (T_set_whats t u1) u3) u7) u9) (T_count t)) H locs ls (ht.trans (by first | (simp only [f_X1_keep, if_pos c12, hw2, hw4, hw8, hw10]; done) | (simp only [f_X1_keep, hw2, hw4, hw8, hw10]; simp only [if_pos c12]))) hP hS (lv_sub hl [0] rfl)

/-! X1_isPassed -/
def f_X1_isPassed (t : TS) (p0 : Int32) : Int32 :=
  if p0 = (-1 : Int32) then (0 : Int32) else (if (f_X3_read 60 (T_passes t) p0) = (1 : Int32) then (1 : Int32) else (0 : Int32))

abbrev RM_X1_isPassed : Room := { frames := 1, cells := 0, slots := 0, locals := 21 }
set_option maxRecDepth 100000 in
set_option maxHeartbeats 4000000 in
theorem c_X1_isPassed (l : Launch) (D : va_G) (q : Nat → ClassId) (sz : Nat) (kt : Nat → Nat) (t : TS) (p0 : Int32) : Met l yX1_isPassed (Cond.code yX1_isPassed cX1_isPassed 2 (some .boolean) :: ALL) RM_X1_isPassed (PC D q [.ref (kt 0), .int p0] (cTests kt q t) sz) (va_Qi (fun (rv : Int32) (_ : Unit) => f_X1_isPassed t p0 = rv ∧ bz rv) (fun _ _ => True) (fun _ => False)) 0 0 (fun _ => False) := by
  refine en_zR (by decide +kernel) (Nat.le_of_ble_eq_true rfl) ?_
  intro p e s m args below meth c Q A H locs ls fx hD0 hP hS hl hret
  have hx := fx.1
  have hb := fx.2.1
  have hl : lv_has ls 2 [(0, .ref (kt 0)), (1, .int p0)] := hl
  have hD : ∀ (t9 : TS), va_D _ (cTests kt q t9) := fun _ => D_same ((fst_Tests _ _ _).trans (fst_Tests _ _ _).symm) hD0
  have ht : f_X1_isPassed t p0 = f_X1_isPassed t p0 := rfl
  refine lv_iload_n hx hb dX1_isPassed_0 rfl (lv_at hl 1 rfl) ?_
  refine lv_iconst (v := -1) hx hb dX1_isPassed_1 (by decide) ?_
  refine lv_icmp_eq (tgt := 21) hx hb dX1_isPassed_2 (by decide) (fun c1 => ?_) (fun c1 => ?_)
  · refine lv_iconst (v := 0) hx hb dX1_isPassed_21 (by decide) ?_
    exact hret (0 : Int32) _ _ _ _ dX1_isPassed_22 bz0 (ht.trans (by simp only [f_X1_isPassed, if_pos c1])) hS
  · refine lv_aload_n hx hb dX1_isPassed_5 rfl (lv_at hl 0 rfl) ?_
    refine gf_X1_18 fx hP 0 rfl dX1_isPassed_6 ?_
    refine lv_iload_n hx hb dX1_isPassed_9 rfl (lv_at hl 1 rfl) ?_
    refine kR_i (runSN fx (As := [.ref (kt 3), .int p0]) (rest := []) (c_X3_read l D q H.size (kt 3) 60 (Nat.le_of_ble_eq_true rfl) (T_passes t) p0) lk_X1_38 ⟨Nat.le_of_ble_eq_true rfl, Nat.le_of_ble_eq_true rfl⟩ ⟨rfl, rfl⟩ hP (hD _) [3] rfl rfl rfl hl.1 rfl (Nat.le_of_ble_eq_true rfl) dX1_isPassed_10 ⟨Nat.zero_le _, Nat.zero_le _⟩) hP hS (fun r2 _ H locs hr3 hP hS => ?_)
    subst hr3
    refine lv_iconst (v := 1) hx hb dX1_isPassed_13 (by decide) ?_
    refine lv_icmp_ne (tgt := 21) hx hb dX1_isPassed_14 (by decide) (fun c4 => ?_) (fun c4 => ?_)
    · refine lv_iconst (v := 0) hx hb dX1_isPassed_21 (by decide) ?_
      exact hret (0 : Int32) _ _ _ _ dX1_isPassed_22 bz0 (ht.trans (by simp only [f_X1_isPassed, if_neg c1, if_neg c4])) hS
    · refine lv_iconst (v := 1) hx hb dX1_isPassed_17 (by decide) ?_
      refine lv_goto (tgt := 22) hx hb dX1_isPassed_18 (by decide) ?_
      exact hret (1 : Int32) _ _ _ _ dX1_isPassed_22 bz1 (ht.trans (by simp only [f_X1_isPassed, if_neg c1, if_pos c4])) hS

/-! X2_hasGas -/
def f_X2_hasGas (w : WS) : Int32 :=
  if (lg_cmp (W_charge w) (0 : Int64)) ≤ 0 then (0 : Int32) else (1 : Int32)

abbrev RM_X2_hasGas : Room := { frames := 0, cells := 0, slots := 0, locals := 0 }
set_option maxRecDepth 100000 in
set_option maxHeartbeats 4000000 in
theorem c_X2_hasGas (l : Launch) (D : va_G) (q : Nat → ClassId) (sz : Nat) (h : Nat) (kr : Nat → Nat) (w : WS) (r : RS) : Met l yX2_hasGas (Cond.code yX2_hasGas cX2_hasGas 1 (some .boolean) :: ALL) RM_X2_hasGas (PC D q [.ref h] (cWell h kr q w r) sz) (va_Qi (fun (rv : Int32) (_ : Unit) => f_X2_hasGas w = rv ∧ bz rv) (fun _ _ => True) (fun _ => False)) 0 0 (fun _ => False) := by
  refine en_zR (by decide +kernel) (Nat.le_of_ble_eq_true rfl) ?_
  intro p e s m args below meth c Q A H locs ls fx hD0 hP hS hl hret
  have hx := fx.1
  have hb := fx.2.1
  have hl : lv_has ls 1 [(0, .ref h)] := hl
  have hD : ∀ (w9 : WS) (r9 : RS), va_D _ (cWell h kr q w9 r9) := fun _ _ => D_same ((fst_Well _ _ _ _ _).trans (fst_Well _ _ _ _ _).symm) hD0
  have ht : f_X2_hasGas w = f_X2_hasGas w := rfl
  refine lv_aload_n hx hb dX2_hasGas_0 rfl (lv_at hl 0 rfl) ?_
  refine gf_X2_36 fx hP 0 rfl (v := W_charge w) rfl dX2_hasGas_1 ?_
  refine lv_lconst (v := 0) hx hb dX2_hasGas_4 (by decide) ?_
  refine W.lcmp hx hb dX2_hasGas_5 ?_
  refine lv_if_le (tgt := 13) hx hb dX2_hasGas_6 (by decide) (fun c1 => ?_) (fun c1 => ?_)
  · refine lv_iconst (v := 0) hx hb dX2_hasGas_13 (by decide) ?_
    exact hret (0 : Int32) _ _ _ _ dX2_hasGas_14 bz0 (ht.trans (by simp only [f_X2_hasGas, if_pos c1])) hS
  · refine lv_iconst (v := 1) hx hb dX2_hasGas_9 (by decide) ?_
    refine lv_goto (tgt := 14) hx hb dX2_hasGas_10 (by decide) ?_
    exact hret (1 : Int32) _ _ _ _ dX2_hasGas_14 bz1 (ht.trans (by simp only [f_X2_hasGas, if_neg c1])) hS

/-! X2_hasInflow -/
def f_X2_hasInflow (w : WS) : Int32 :=
  if (f_X2_hasGas w) = 0 then (if (W_liquid w) ≤ 0 then (0 : Int32) else (1 : Int32)) else (1 : Int32)

abbrev RM_X2_hasInflow : Room := { frames := 1, cells := 0, slots := 0, locals := 20 }
set_option maxRecDepth 100000 in
set_option maxHeartbeats 4000000 in
theorem c_X2_hasInflow (l : Launch) (D : va_G) (q : Nat → ClassId) (sz : Nat) (h : Nat) (kr : Nat → Nat) (w : WS) (r : RS) : Met l yX2_hasInflow (Cond.code yX2_hasInflow cX2_hasInflow 1 (some .boolean) :: ALL) RM_X2_hasInflow (PC D q [.ref h] (cWell h kr q w r) sz) (va_Qi (fun (rv : Int32) (_ : Unit) => f_X2_hasInflow w = rv ∧ bz rv) (fun _ _ => True) (fun _ => False)) 0 0 (fun _ => False) := by
  refine en_zR (by decide +kernel) (Nat.le_of_ble_eq_true rfl) ?_
  intro p e s m args below meth c Q A H locs ls fx hD0 hP hS hl hret
  have hx := fx.1
  have hb := fx.2.1
  have hl : lv_has ls 1 [(0, .ref h)] := hl
  have hD : ∀ (w9 : WS) (r9 : RS), va_D _ (cWell h kr q w9 r9) := fun _ _ => D_same ((fst_Well _ _ _ _ _).trans (fst_Well _ _ _ _ _).symm) hD0
  have ht : f_X2_hasInflow w = f_X2_hasInflow w := rfl
  refine lv_aload_n hx hb dX2_hasInflow_0 rfl (lv_at hl 0 rfl) ?_
  refine kR_i (runV fx (As := []) (rest := []) (c_X2_hasGas l D q H.size h kr w r) lk_X2_58 ⟨Nat.le_of_ble_eq_true rfl, Nat.le_of_ble_eq_true rfl⟩ ⟨rfl, rfl⟩ hP (hD _ _) [0, 1, 2, 3, 4, 5, 6] rfl rfl (ci := 2) rfl rfl rfl hl.1 rfl (Nat.le_of_ble_eq_true rfl) dX2_hasInflow_1 ⟨Nat.zero_le _, Nat.zero_le _⟩) hP hS (fun r1 _ H locs hr2 hP hS => ?_)
  obtain ⟨rfl, hz3⟩ := hr2
  refine lv_if_ne (tgt := 14) hx hb dX2_hasInflow_4 (by decide) (fun c4 => ?_) (fun c4 => ?_)
  · refine lv_iconst (v := 1) hx hb dX2_hasInflow_14 (by decide) ?_
    refine lv_goto (tgt := 19) hx hb dX2_hasInflow_15 (by decide) ?_
    exact hret (1 : Int32) _ _ _ _ dX2_hasInflow_19 bz1 (ht.trans (by simp only [f_X2_hasInflow, if_neg c4])) hS
  · refine lv_aload_n hx hb dX2_hasInflow_7 rfl (lv_at hl 0 rfl) ?_
    refine gf_X2_46 fx hP 0 rfl (v := W_liquid w) rfl dX2_hasInflow_8 ?_
    refine lv_if_le (tgt := 18) hx hb dX2_hasInflow_11 (by decide) (fun c5 => ?_) (fun c5 => ?_)
    · refine lv_iconst (v := 0) hx hb dX2_hasInflow_18 (by decide) ?_
      exact hret (0 : Int32) _ _ _ _ dX2_hasInflow_19 bz0 (ht.trans (by simp only [f_X2_hasInflow, if_pos c4, if_pos c5])) hS
    · refine lv_iconst (v := 1) hx hb dX2_hasInflow_14 (by decide) ?_
      refine lv_goto (tgt := 19) hx hb dX2_hasInflow_15 (by decide) ?_
      exact hret (1 : Int32) _ _ _ _ dX2_hasInflow_19 bz1 (ht.trans (by simp only [f_X2_hasInflow, if_pos c4, if_neg c5])) hS

/-! X2_column -/
def f_X2_column (w : WS) : Int32 :=
  (((W_weight w) * (imax (0 : Int32) (((W_depth w) - (W_gas w)) - (W_liquid w)))) + ((100 : Int32) * (W_liquid w))) / (10 : Int32)

abbrev RM_X2_column : Room := { frames := 1, cells := 0, slots := 0, locals := 24 }
set_option maxRecDepth 100000 in
set_option maxHeartbeats 4000000 in
theorem c_X2_column (l : Launch) (D : va_G) (q : Nat → ClassId) (sz : Nat) (h : Nat) (kr : Nat → Nat) (w : WS) (r : RS) : Met l yX2_column (Cond.code yX2_column cX2_column 1 (some .int) :: ALL) RM_X2_column (PC D q [.ref h] (cWell h kr q w r) sz) (va_Qi (fun (rv : Int32) (_ : Unit) => f_X2_column w = rv) (fun _ _ => True) (fun _ => False)) 0 0 (fun _ => False) := by
  refine en_iR (by decide +kernel) (Nat.le_of_ble_eq_true rfl) ?_
  intro p e s m args below meth c Q A H locs ls fx hD0 hP hS hl hret
  have hx := fx.1
  have hb := fx.2.1
  have hl : lv_has ls 1 [(0, .ref h)] := hl
  have hD : ∀ (w9 : WS) (r9 : RS), va_D _ (cWell h kr q w9 r9) := fun _ _ => D_same ((fst_Well _ _ _ _ _).trans (fst_Well _ _ _ _ _).symm) hD0
  have ht : f_X2_column w = f_X2_column w := rfl
  refine lv_aload_n hx hb dX2_column_0 rfl (lv_at hl 0 rfl) ?_
  refine gf_X2_13 fx hP 0 rfl (v := W_weight w) rfl dX2_column_1 ?_
  refine lv_iconst (v := 0) hx hb dX2_column_4 (by decide) ?_
  refine lv_aload_n hx hb dX2_column_5 rfl (lv_at hl 0 rfl) ?_
  refine gf_X2_20 fx hP 0 rfl (v := W_depth w) rfl dX2_column_6 ?_
  refine lv_aload_n hx hb dX2_column_9 rfl (lv_at hl 0 rfl) ?_
  refine gf_X2_43 fx hP 0 rfl (v := W_gas w) rfl dX2_column_10 ?_
  refine lv_isub hx hb dX2_column_13 ?_
  refine lv_aload_n hx hb dX2_column_14 rfl (lv_at hl 0 rfl) ?_
  refine gf_X2_46 fx hP 0 rfl (v := W_liquid w) rfl dX2_column_15 ?_
  refine lv_isub hx hb dX2_column_18 ?_
  refine kimax fx mm_37 hl.1 (Nat.le_of_ble_eq_true rfl) (Nat.le_of_ble_eq_true rfl) (Nat.zero_le _) (Nat.zero_le _) dX2_column_19 ?_
  refine lv_imul hx hb dX2_column_22 ?_
  refine lv_bipush (v := 100) hx hb dX2_column_23 (by decide) ?_
  refine lv_aload_n hx hb dX2_column_25 rfl (lv_at hl 0 rfl) ?_
  refine gf_X2_46 fx hP 0 rfl (v := W_liquid w) rfl dX2_column_26 ?_
  refine lv_imul hx hb dX2_column_29 ?_
  refine lv_iadd hx hb dX2_column_30 ?_
  refine lv_bipush (v := 10) hx hb dX2_column_31 (by decide) ?_
  refine lv_idiv hx hb dX2_column_33 (by decide) ?_
  exact hret ((((W_weight w) * (imax (0 : Int32) (((W_depth w) - (W_gas w)) - (W_liquid w)))) + ((100 : Int32) * (W_liquid w))) / (10 : Int32)) _ _ _ _ dX2_column_34 (ht.trans (by simp only [f_X2_column])) hS

/-! X2_bottom -/
def f_X2_bottom (w : WS) : Int32 :=
  (f_X2_column w) + (W_choke w)

abbrev RM_X2_bottom : Room := { frames := 2, cells := 0, slots := 0, locals := 44 }
set_option maxRecDepth 100000 in
set_option maxHeartbeats 4000000 in
theorem c_X2_bottom (l : Launch) (D : va_G) (q : Nat → ClassId) (sz : Nat) (h : Nat) (kr : Nat → Nat) (w : WS) (r : RS) : Met l yX2_bottom (Cond.code yX2_bottom cX2_bottom 1 (some .int) :: ALL) RM_X2_bottom (PC D q [.ref h] (cWell h kr q w r) sz) (va_Qi (fun (rv : Int32) (_ : Unit) => f_X2_bottom w = rv) (fun _ _ => True) (fun _ => False)) 0 0 (fun _ => False) := by
  refine en_iR (by decide +kernel) (Nat.le_of_ble_eq_true rfl) ?_
  intro p e s m args below meth c Q A H locs ls fx hD0 hP hS hl hret
  have hx := fx.1
  have hb := fx.2.1
  have hl : lv_has ls 1 [(0, .ref h)] := hl
  have hD : ∀ (w9 : WS) (r9 : RS), va_D _ (cWell h kr q w9 r9) := fun _ _ => D_same ((fst_Well _ _ _ _ _).trans (fst_Well _ _ _ _ _).symm) hD0
  have ht : f_X2_bottom w = f_X2_bottom w := rfl
  refine lv_aload_n hx hb dX2_bottom_0 rfl (lv_at hl 0 rfl) ?_
  refine kR_i (runV fx (As := []) (rest := []) (c_X2_column l D q H.size h kr w r) lk_X2_68 ⟨Nat.le_of_ble_eq_true rfl, Nat.le_of_ble_eq_true rfl⟩ ⟨rfl, rfl⟩ hP (hD _ _) [0, 1, 2, 3, 4, 5, 6] rfl rfl (ci := 2) rfl rfl rfl hl.1 rfl (Nat.le_of_ble_eq_true rfl) dX2_bottom_1 ⟨Nat.zero_le _, Nat.zero_le _⟩) hP hS (fun r1 _ H locs hr2 hP hS => ?_)
  subst hr2
  refine lv_aload_n hx hb dX2_bottom_4 rfl (lv_at hl 0 rfl) ?_
  refine gf_X2_30 fx hP 0 rfl (v := W_choke w) rfl dX2_bottom_5 ?_
  refine lv_iadd hx hb dX2_bottom_8 ?_
  exact hret ((f_X2_column w) + (W_choke w)) _ _ _ _ dX2_bottom_9 (ht.trans (by simp only [f_X2_bottom])) hS

/-! X2_gasPressure -/
def f_X2_gasPressure (w : WS) : Int32 :=
  imax (1 : Int32) ((((W_weight w) * (W_place w)) / (10 : Int32)) + (W_choke w))

abbrev RM_X2_gasPressure : Room := { frames := 1, cells := 0, slots := 0, locals := 24 }
set_option maxRecDepth 100000 in
set_option maxHeartbeats 4000000 in
theorem c_X2_gasPressure (l : Launch) (D : va_G) (q : Nat → ClassId) (sz : Nat) (h : Nat) (kr : Nat → Nat) (w : WS) (r : RS) : Met l yX2_gasPressure (Cond.code yX2_gasPressure cX2_gasPressure 1 (some .int) :: ALL) RM_X2_gasPressure (PC D q [.ref h] (cWell h kr q w r) sz) (va_Qi (fun (rv : Int32) (_ : Unit) => f_X2_gasPressure w = rv) (fun _ _ => True) (fun _ => False)) 0 0 (fun _ => False) := by
  refine en_iR (by decide +kernel) (Nat.le_of_ble_eq_true rfl) ?_
  intro p e s m args below meth c Q A H locs ls fx hD0 hP hS hl hret
  have hx := fx.1
  have hb := fx.2.1
  have hl : lv_has ls 1 [(0, .ref h)] := hl
  have hD : ∀ (w9 : WS) (r9 : RS), va_D _ (cWell h kr q w9 r9) := fun _ _ => D_same ((fst_Well _ _ _ _ _).trans (fst_Well _ _ _ _ _).symm) hD0
  have ht : f_X2_gasPressure w = f_X2_gasPressure w := rfl
  refine lv_iconst (v := 1) hx hb dX2_gasPressure_0 (by decide) ?_
  refine lv_aload_n hx hb dX2_gasPressure_1 rfl (lv_at hl 0 rfl) ?_
  refine gf_X2_13 fx hP 0 rfl (v := W_weight w) rfl dX2_gasPressure_2 ?_
  refine lv_aload_n hx hb dX2_gasPressure_5 rfl (lv_at hl 0 rfl) ?_
  refine gf_X2_40 fx hP 0 rfl (v := W_place w) rfl dX2_gasPressure_6 ?_
  refine lv_imul hx hb dX2_gasPressure_9 ?_
  refine lv_bipush (v := 10) hx hb dX2_gasPressure_10 (by decide) ?_
  refine lv_idiv hx hb dX2_gasPressure_12 (by decide) ?_
  refine lv_aload_n hx hb dX2_gasPressure_13 rfl (lv_at hl 0 rfl) ?_
  refine gf_X2_30 fx hP 0 rfl (v := W_choke w) rfl dX2_gasPressure_14 ?_
  refine lv_iadd hx hb dX2_gasPressure_17 ?_
  refine kimax fx mm_37 hl.1 (Nat.le_of_ble_eq_true rfl) (Nat.le_of_ble_eq_true rfl) (Nat.zero_le _) (Nat.zero_le _) dX2_gasPressure_18 ?_
  exact hret (imax (1 : Int32) ((((W_weight w) * (W_place w)) / (10 : Int32)) + (W_choke w))) _ _ _ _ dX2_gasPressure_21 (ht.trans (by simp only [f_X2_gasPressure])) hS

/-! X2_foot -/
def f_X2_foot_b48 (w : WS) (j10 : Int32) : Int32 :=
  (W_choke w) + (((W_weight w) * j10) / (10 : Int32))

def f_X2_foot (w : WS) : Int32 :=
  if (if (f_X2_hasGas w) = 0 then (0 : Int32) else (if (W_shoe w) ≤ (W_place w) then (0 : Int32) else (1 : Int32))) = 0 then (f_X2_foot_b48 w (W_shoe w)) else (f_X2_foot_b48 w (imax (0 : Int32) ((W_shoe w) - (W_gas w))))

abbrev RM_X2_foot : Room := { frames := 1, cells := 0, slots := 0, locals := 24 }
set_option maxRecDepth 100000 in
set_option maxHeartbeats 4000000 in
theorem c_X2_foot (l : Launch) (D : va_G) (q : Nat → ClassId) (sz : Nat) (h : Nat) (kr : Nat → Nat) (w : WS) (r : RS) : Met l yX2_foot (Cond.code yX2_foot cX2_foot 3 (some .int) :: ALL) RM_X2_foot (PC D q [.ref h] (cWell h kr q w r) sz) (va_Qi (fun (rv : Int32) (_ : Unit) => f_X2_foot w = rv) (fun _ _ => True) (fun _ => False)) 0 0 (fun _ => False) := by
  refine en_iR (by decide +kernel) (Nat.le_of_ble_eq_true rfl) ?_
  intro p e s m args below meth c Q A H locs ls fx hD0 hP hS hl hret
  have hx := fx.1
  have hb := fx.2.1
  have hl : lv_has ls 3 [(0, .ref h)] := hl
  have hD : ∀ (w9 : WS) (r9 : RS), va_D _ (cWell h kr q w9 r9) := fun _ _ => D_same ((fst_Well _ _ _ _ _).trans (fst_Well _ _ _ _ _).symm) hD0
  have ht : f_X2_foot w = f_X2_foot w := rfl
  refine lv_aload_n hx hb dX2_foot_0 rfl (lv_at hl 0 rfl) ?_
  refine kR_i (runV fx (As := []) (rest := []) (c_X2_hasGas l D q H.size h kr w r) lk_X2_58 ⟨Nat.le_of_ble_eq_true rfl, Nat.le_of_ble_eq_true rfl⟩ ⟨rfl, rfl⟩ hP (hD _ _) [0, 1, 2, 3, 4, 5, 6] rfl rfl (ci := 2) rfl rfl rfl hl.1 rfl (Nat.le_of_ble_eq_true rfl) dX2_foot_1 ⟨Nat.zero_le _, Nat.zero_le _⟩) hP hS (fun r1 _ H locs hr2 hP hS => ?_)
  obtain ⟨rfl, hz3⟩ := hr2
  suffices K : ∀ (v6 : Int32), ∀ (H : Heap) (locs : List Loc) (ls : Array Slot), v6 = (if (f_X2_hasGas w) = 0 then (0 : Int32) else (if (W_shoe w) ≤ (W_place w) then (0 : Int32) else (1 : Int32))) → va_P D vwCl (cWell h kr q w r) H → va_S A s.heap H locs → lv_has ls 3 [(0, .ref h)] → W p l e RM_X2_foot s m args below meth c H locs 0 0 Q (F0 m 23 ls [.int v6]) by
    refine lv_if_eq (tgt := 22) hx hb dX2_foot_4 (by decide) (fun c4 => ?_) (fun c4 => ?_)
    · refine lv_iconst (v := 0) hx hb dX2_foot_22 (by decide) ?_
      exact K (0 : Int32) H locs ls (by simp only [if_pos c4]) hP hS (lv_sub hl [0] rfl)
    · refine lv_aload_n hx hb dX2_foot_7 rfl (lv_at hl 0 rfl) ?_
      refine gf_X2_40 fx hP 0 rfl (v := W_place w) rfl dX2_foot_8 ?_
      refine lv_aload_n hx hb dX2_foot_11 rfl (lv_at hl 0 rfl) ?_
      refine gf_X2_23 fx hP 0 rfl (v := W_shoe w) rfl dX2_foot_12 ?_
      refine lv_icmp_ge (tgt := 22) hx hb dX2_foot_15 (by decide) (fun c5 => ?_) (fun c5 => ?_)
      · refine lv_iconst (v := 0) hx hb dX2_foot_22 (by decide) ?_
        exact K (0 : Int32) H locs ls (by simp only [if_neg c4, if_pos c5]) hP hS (lv_sub hl [0] rfl)
      · refine lv_iconst (v := 1) hx hb dX2_foot_18 (by decide) ?_
        refine lv_goto (tgt := 23) hx hb dX2_foot_19 (by decide) ?_
        exact K (1 : Int32) H locs ls (by simp only [if_neg c4, if_neg c5]) hP hS (lv_sub hl [0] rfl)
  intro v6 H locs ls hvv6 hP hS hl
  subst hvv6
  refine lv_istore_n (lv' := [(1, .int (if (f_X2_hasGas w) = 0 then (0 : Int32) else (if (W_shoe w) ≤ (W_place w) then (0 : Int32) else (1 : Int32)))), (0, .ref h)]) hx hb dX2_foot_23 rfl hl (by decide) rfl (fun ls hl => ?_)
  refine lv_iload_n hx hb dX2_foot_24 rfl (lv_at hl 0 rfl) ?_
  have K48 : ∀ (j10 : Int32) (H : Heap) (locs : List Loc) (ls : Array Slot), f_X2_foot w = f_X2_foot_b48 w j10 → va_P D vwCl (cWell h kr q w r) H → va_S A s.heap H locs → lv_has ls 3 [(0, .ref h)] → W p l e RM_X2_foot s m args below meth c H locs 0 0 Q (F0 m 48 ls [.int j10]) := by
    intro j10 H locs ls ht hP hS hl
    refine lv_istore_n (lv' := [(2, .int j10), (0, .ref h)]) hx hb dX2_foot_48 rfl hl (by decide) rfl (fun ls hl => ?_)
    refine lv_aload_n hx hb dX2_foot_49 rfl (lv_at hl 1 rfl) ?_
    refine gf_X2_30 fx hP 0 rfl (v := W_choke w) rfl dX2_foot_50 ?_
    refine lv_aload_n hx hb dX2_foot_53 rfl (lv_at hl 1 rfl) ?_
    refine gf_X2_13 fx hP 0 rfl (v := W_weight w) rfl dX2_foot_54 ?_
    refine lv_iload_n hx hb dX2_foot_57 rfl (lv_at hl 0 rfl) ?_
    refine lv_imul hx hb dX2_foot_58 ?_
    refine lv_bipush (v := 10) hx hb dX2_foot_59 (by decide) ?_
    refine lv_idiv hx hb dX2_foot_61 (by decide) ?_
    refine lv_iadd hx hb dX2_foot_62 ?_
    exact hret ((W_choke w) + (((W_weight w) * j10) / (10 : Int32))) _ _ _ _ dX2_foot_63 (ht.trans (by simp only [f_X2_foot_b48])) hS
  refine lv_if_eq (tgt := 44) hx hb dX2_foot_25 (by decide) (fun c9 => ?_) (fun c9 => ?_)
  · refine lv_aload_n hx hb dX2_foot_44 rfl (lv_at hl 1 rfl) ?_
    refine gf_X2_23 fx hP 0 rfl (v := W_shoe w) rfl dX2_foot_45 ?_
    exact K48 (W_shoe w) H locs ls (ht.trans (by simp only [f_X2_foot, if_pos c9])) hP hS (lv_sub hl [1] rfl)
  · refine lv_iconst (v := 0) hx hb dX2_foot_28 (by decide) ?_
    refine lv_aload_n hx hb dX2_foot_29 rfl (lv_at hl 1 rfl) ?_
    refine gf_X2_23 fx hP 0 rfl (v := W_shoe w) rfl dX2_foot_30 ?_
    refine lv_aload_n hx hb dX2_foot_33 rfl (lv_at hl 1 rfl) ?_
    refine gf_X2_43 fx hP 0 rfl (v := W_gas w) rfl dX2_foot_34 ?_
    refine lv_isub hx hb dX2_foot_37 ?_
    refine kimax fx mm_37 hl.1 (Nat.le_of_ble_eq_true rfl) (Nat.le_of_ble_eq_true rfl) (Nat.zero_le _) (Nat.zero_le _) dX2_foot_38 ?_
    refine lv_goto (tgt := 48) hx hb dX2_foot_41 (by decide) ?_
    exact K48 (imax (0 : Int32) ((W_shoe w) - (W_gas w))) H locs ls (ht.trans (by simp only [f_X2_foot, if_neg c9])) hP hS (lv_sub hl [1] rfl)

/-! X2_measureGas -/
def f_X2_measureGas (w : WS) : WS :=
  if (f_X2_hasGas w) = 0 then w else (if (f_X2_gasPressure w) ≤ 0 then w else (W_set_gas w ((lmin ((W_charge w) / ((f_X2_gasPressure w).toInt64)) (((W_depth w) - (W_liquid w)).toInt64)).toInt32)))

abbrev RM_X2_measureGas : Room := { frames := 2, cells := 0, slots := 0, locals := 44 }
set_option maxRecDepth 100000 in
set_option maxHeartbeats 4000000 in
theorem c_X2_measureGas (l : Launch) (D : va_G) (q : Nat → ClassId) (sz : Nat) (h : Nat) (kr : Nat → Nat) (w : WS) (r : RS) : Met l yX2_measureGas (Cond.code yX2_measureGas cX2_measureGas 2 none :: ALL) RM_X2_measureGas (PC D q [.ref h] (cWell h kr q w r) sz) (va_Qv (fun (u : WS) => f_X2_measureGas w = u) (fun u t9 => va_P D vwCl (cWell h kr q u r) t9.heap) (va_A (cWell h kr q w r) sz)) 0 0 (va_A (cWell h kr q w r) sz) := by
  refine en_vW (by decide +kernel) (Nat.le_of_ble_eq_true rfl) ?_
  intro p e s m args below meth c Q A H locs ls fx hD0 hA hP hS hl hret
  have hx := fx.1
  have hb := fx.2.1
  have hl : lv_has ls 2 [(0, .ref h)] := hl
  have hD : ∀ (w9 : WS) (r9 : RS), va_D _ (cWell h kr q w9 r9) := fun _ _ => D_same ((fst_Well _ _ _ _ _).trans (fst_Well _ _ _ _ _).symm) hD0
  have ht : f_X2_measureGas w = f_X2_measureGas w := rfl
  refine lv_aload_n hx hb dX2_measureGas_0 rfl (lv_at hl 0 rfl) ?_
  refine kR_i (runV fx (As := []) (rest := []) (c_X2_gasPressure l D q H.size h kr w r) lk_X2_95 ⟨Nat.le_of_ble_eq_true rfl, Nat.le_of_ble_eq_true rfl⟩ ⟨rfl, rfl⟩ hP (hD _ _) [0, 1, 2, 3, 4, 5, 6] rfl rfl (ci := 2) rfl rfl rfl hl.1 rfl (Nat.le_of_ble_eq_true rfl) dX2_measureGas_1 ⟨Nat.zero_le _, Nat.zero_le _⟩) hP hS (fun r1 _ H locs hr2 hP hS => ?_)
  subst hr2
  refine lv_istore_n (lv' := [(1, .int (f_X2_gasPressure w)), (0, .ref h)]) hx hb dX2_measureGas_4 rfl hl (by decide) rfl (fun ls hl => ?_)
  refine lv_aload_n hx hb dX2_measureGas_5 rfl (lv_at hl 1 rfl) ?_
  refine kR_i (runV fx (As := []) (rest := []) (c_X2_hasGas l D q H.size h kr w r) lk_X2_58 ⟨Nat.le_of_ble_eq_true rfl, Nat.le_of_ble_eq_true rfl⟩ ⟨rfl, rfl⟩ hP (hD _ _) [0, 1, 2, 3, 4, 5, 6] rfl rfl (ci := 2) rfl rfl rfl hl.1 rfl (Nat.le_of_ble_eq_true rfl) dX2_measureGas_6 ⟨Nat.zero_le _, Nat.zero_le _⟩) hP hS (fun r3 _ H locs hr4 hP hS => ?_)
  obtain ⟨rfl, hz5⟩ := hr4
  refine lv_if_eq (tgt := 41) hx hb dX2_measureGas_9 (by decide) (fun c6 => ?_) (fun c6 => ?_)
  · exact hret w _ _ _ _ dX2_measureGas_41 (ht.trans (by simp only [f_X2_measureGas, if_pos c6])) hP hS
  · refine lv_iload_n hx hb dX2_measureGas_12 rfl (lv_at hl 0 rfl) ?_
    refine lv_if_le (tgt := 41) hx hb dX2_measureGas_13 (by decide) (fun c7 => ?_) (fun c7 => ?_)
    · exact hret w _ _ _ _ dX2_measureGas_41 (ht.trans (by simp only [f_X2_measureGas, if_neg c6, if_pos c7])) hP hS
    · refine lv_aload_n hx hb dX2_measureGas_16 rfl (lv_at hl 1 rfl) ?_
      refine lv_aload_n hx hb dX2_measureGas_17 rfl (lv_at hl 1 rfl) ?_
      refine gf_X2_36 fx hP 0 rfl (v := W_charge w) rfl dX2_measureGas_18 ?_
      refine lv_iload_n hx hb dX2_measureGas_21 rfl (lv_at hl 0 rfl) ?_
      refine lv_i2l (v := (f_X2_gasPressure w).toInt64) hx hb dX2_measureGas_22 rfl ?_
      refine lv_ldiv hx hb dX2_measureGas_23 (i2l_ne c7) ?_
      refine lv_aload_n hx hb dX2_measureGas_24 rfl (lv_at hl 1 rfl) ?_
      refine gf_X2_20 fx hP 0 rfl (v := W_depth w) rfl dX2_measureGas_25 ?_
      refine lv_aload_n hx hb dX2_measureGas_28 rfl (lv_at hl 1 rfl) ?_
      refine gf_X2_46 fx hP 0 rfl (v := W_liquid w) rfl dX2_measureGas_29 ?_
      refine lv_isub hx hb dX2_measureGas_32 ?_
      refine lv_i2l (v := ((W_depth w) - (W_liquid w)).toInt64) hx hb dX2_measureGas_33 rfl ?_
      refine klmin fx mm_49 hl.1 (Nat.le_of_ble_eq_true rfl) (Nat.le_of_ble_eq_true rfl) (Nat.zero_le _) (Nat.zero_le _) dX2_measureGas_34 ?_
      refine lv_l2i (v := (lmin ((W_charge w) / ((f_X2_gasPressure w).toInt64)) (((W_depth w) - (W_liquid w)).toInt64)).toInt32) hx hb dX2_measureGas_37 rfl ?_
      refine pf_X2_43 fx hP (hD _ _) hS 0 rfl dX2_measureGas_38 (fun H locs hP hS => ?_)
      have hP : va_P D vwCl (cWell h kr q (W_set_gas w ((lmin ((W_charge w) / ((f_X2_gasPressure w).toInt64)) (((W_depth w) - (W_liquid w)).toInt64)).toInt32)) r) H := hP
      exact hret (W_set_gas w ((lmin ((W_charge w) / ((f_X2_gasPressure w).toInt64)) (((W_depth w) - (W_liquid w)).toInt64)).toInt32)) _ _ _ _ dX2_measureGas_41 (ht.trans (by simp only [f_X2_measureGas, if_neg c6, if_neg c7])) hP hS

/-! X2_raiseGas -/
def f_X2_raiseGas (w : WS) (p0 : Int32) : WS :=
  if (f_X2_hasGas w) = 0 then w else (W_set_place w (imax (0 : Int32) ((W_place w) - (if p0 = 0 then (if (W_isClosed w) = 0 then (8 : Int32) else (2 : Int32)) else (20 : Int32)))))

abbrev RM_X2_raiseGas : Room := { frames := 1, cells := 0, slots := 0, locals := 24 }
set_option maxRecDepth 100000 in
set_option maxHeartbeats 4000000 in
theorem c_X2_raiseGas (l : Launch) (D : va_G) (q : Nat → ClassId) (sz : Nat) (h : Nat) (kr : Nat → Nat) (w : WS) (r : RS) (p0 : Int32) : Met l yX2_raiseGas (Cond.code yX2_raiseGas cX2_raiseGas 3 none :: ALL) RM_X2_raiseGas (PC D q [.ref h, .int p0] (cWell h kr q w r) sz) (va_Qv (fun (u : WS) => f_X2_raiseGas w p0 = u) (fun u t9 => va_P D vwCl (cWell h kr q u r) t9.heap) (va_A (cWell h kr q w r) sz)) 0 0 (va_A (cWell h kr q w r) sz) := by
  refine en_vW (by decide +kernel) (Nat.le_of_ble_eq_true rfl) ?_
  intro p e s m args below meth c Q A H locs ls fx hD0 hA hP hS hl hret
  have hx := fx.1
  have hb := fx.2.1
  have hl : lv_has ls 3 [(0, .ref h), (1, .int p0)] := hl
  have hD : ∀ (w9 : WS) (r9 : RS), va_D _ (cWell h kr q w9 r9) := fun _ _ => D_same ((fst_Well _ _ _ _ _).trans (fst_Well _ _ _ _ _).symm) hD0
  have ht : f_X2_raiseGas w p0 = f_X2_raiseGas w p0 := rfl
  refine lv_aload_n hx hb dX2_raiseGas_0 rfl (lv_at hl 0 rfl) ?_
  refine kR_i (runV fx (As := []) (rest := []) (c_X2_hasGas l D q H.size h kr w r) lk_X2_58 ⟨Nat.le_of_ble_eq_true rfl, Nat.le_of_ble_eq_true rfl⟩ ⟨rfl, rfl⟩ hP (hD _ _) [0, 1, 2, 3, 4, 5, 6] rfl rfl (ci := 2) rfl rfl rfl hl.1 rfl (Nat.le_of_ble_eq_true rfl) dX2_raiseGas_1 ⟨Nat.zero_le _, Nat.zero_le _⟩) hP hS (fun r1 _ H locs hr2 hP hS => ?_)
  obtain ⟨rfl, hz3⟩ := hr2
  refine lv_if_eq (tgt := 44) hx hb dX2_raiseGas_4 (by decide) (fun c4 => ?_) (fun c4 => ?_)
  · exact hret w _ _ _ _ dX2_raiseGas_44 (ht.trans (by simp only [f_X2_raiseGas, if_pos c4])) hP hS
  · refine lv_iload_n hx hb dX2_raiseGas_7 rfl (lv_at hl 1 rfl) ?_
    suffices K : ∀ (v7 : Int32), ∀ (H : Heap) (locs : List Loc) (ls : Array Slot), v7 = (if p0 = 0 then (if (W_isClosed w) = 0 then (8 : Int32) else (2 : Int32)) else (20 : Int32)) → va_P D vwCl (cWell h kr q w r) H → va_S A s.heap H locs → lv_has ls 3 [(0, .ref h)] → W p l e RM_X2_raiseGas s m args below meth c H locs 0 0 Q (F0 m 29 ls [.int v7]) by
      refine lv_if_eq (tgt := 16) hx hb dX2_raiseGas_8 (by decide) (fun c5 => ?_) (fun c5 => ?_)
      · refine lv_aload_n hx hb dX2_raiseGas_16 rfl (lv_at hl 0 rfl) ?_
        refine gf_X2_26 fx hP 0 rfl (v := W_isClosed w) rfl dX2_raiseGas_17 ?_
        refine lv_if_eq (tgt := 27) hx hb dX2_raiseGas_20 (by decide) (fun c6 => ?_) (fun c6 => ?_)
        · refine lv_bipush (v := 8) hx hb dX2_raiseGas_27 (by decide) ?_
          exact K (8 : Int32) H locs ls (by simp only [if_pos c5, if_pos c6]) hP hS (lv_sub hl [0] rfl)
        · refine lv_iconst (v := 2) hx hb dX2_raiseGas_23 (by decide) ?_
          refine lv_goto (tgt := 29) hx hb dX2_raiseGas_24 (by decide) ?_
          exact K (2 : Int32) H locs ls (by simp only [if_pos c5, if_neg c6]) hP hS (lv_sub hl [0] rfl)
      · refine lv_bipush (v := 20) hx hb dX2_raiseGas_11 (by decide) ?_
        refine lv_goto (tgt := 29) hx hb dX2_raiseGas_13 (by decide) ?_
        exact K (20 : Int32) H locs ls (by simp only [if_neg c5]) hP hS (lv_sub hl [0] rfl)
    intro v7 H locs ls hvv7 hP hS hl
    subst hvv7
    refine lv_istore_n (lv' := [(2, .int (if p0 = 0 then (if (W_isClosed w) = 0 then (8 : Int32) else (2 : Int32)) else (20 : Int32))), (0, .ref h)]) hx hb dX2_raiseGas_29 rfl hl (by decide) rfl (fun ls hl => ?_)
    refine lv_aload_n hx hb dX2_raiseGas_30 rfl (lv_at hl 1 rfl) ?_
    refine lv_iconst (v := 0) hx hb dX2_raiseGas_31 (by decide) ?_
    refine lv_aload_n hx hb dX2_raiseGas_32 rfl (lv_at hl 1 rfl) ?_
    refine gf_X2_40 fx hP 0 rfl (v := W_place w) rfl dX2_raiseGas_33 ?_
    refine lv_iload_n hx hb dX2_raiseGas_36 rfl (lv_at hl 0 rfl) ?_
    refine lv_isub hx hb dX2_raiseGas_37 ?_
    refine kimax fx mm_37 hl.1 (Nat.le_of_ble_eq_true rfl) (Nat.le_of_ble_eq_true rfl) (Nat.zero_le _) (Nat.zero_le _) dX2_raiseGas_38 ?_
    refine pf_X2_40 fx hP (hD _ _) hS 0 rfl dX2_raiseGas_41 (fun H locs hP hS => ?_)
    have hP : va_P D vwCl (cWell h kr q (W_set_place w (imax (0 : Int32) ((W_place w) - (if p0 = 0 then (if (W_isClosed w) = 0 then (8 : Int32) else (2 : Int32)) else (20 : Int32))))) r) H := hP
    exact hret (W_set_place w (imax (0 : Int32) ((W_place w) - (if p0 = 0 then (if (W_isClosed w) = 0 then (8 : Int32) else (2 : Int32)) else (20 : Int32))))) _ _ _ _ dX2_raiseGas_44 (ht.trans (by simp only [f_X2_raiseGas, if_neg c4])) hP hS

/-! X2_ventGas -/
def f_X2_ventGas_b25 (w : WS) : WS :=
  W_set_gas (W_set_charge (W_set_vented w ((W_vented w) + ((W_gas w).toInt64))) (0 : Int64)) (0 : Int32)

def f_X2_ventGas (w : WS) (p0 : Int32) : WS :=
  if (f_X2_hasGas w) = 0 then w else (if (W_place w) = 0 then (if p0 = 0 then (if (W_isClosed w) = 0 then (f_X2_ventGas_b25 w) else w) else (f_X2_ventGas_b25 w)) else w)

abbrev RM_X2_ventGas : Room := { frames := 1, cells := 0, slots := 0, locals := 20 }
set_option maxRecDepth 100000 in
set_option maxHeartbeats 4000000 in
theorem c_X2_ventGas (l : Launch) (D : va_G) (q : Nat → ClassId) (sz : Nat) (h : Nat) (kr : Nat → Nat) (w : WS) (r : RS) (p0 : Int32) : Met l yX2_ventGas (Cond.code yX2_ventGas cX2_ventGas 2 none :: ALL) RM_X2_ventGas (PC D q [.ref h, .int p0] (cWell h kr q w r) sz) (va_Qv (fun (u : WS) => f_X2_ventGas w p0 = u) (fun u t9 => va_P D vwCl (cWell h kr q u r) t9.heap) (va_A (cWell h kr q w r) sz)) 0 0 (va_A (cWell h kr q w r) sz) := by
  refine en_vW (by decide +kernel) (Nat.le_of_ble_eq_true rfl) ?_
  intro p e s m args below meth c Q A H locs ls fx hD0 hA hP hS hl hret
  have hx := fx.1
  have hb := fx.2.1
  have hl : lv_has ls 2 [(0, .ref h), (1, .int p0)] := hl
  have hD : ∀ (w9 : WS) (r9 : RS), va_D _ (cWell h kr q w9 r9) := fun _ _ => D_same ((fst_Well _ _ _ _ _).trans (fst_Well _ _ _ _ _).symm) hD0
  have ht : f_X2_ventGas w p0 = f_X2_ventGas w p0 := rfl
  refine lv_aload_n hx hb dX2_ventGas_0 rfl (lv_at hl 0 rfl) ?_
  refine kR_i (runV fx (As := []) (rest := []) (c_X2_hasGas l D q H.size h kr w r) lk_X2_58 ⟨Nat.le_of_ble_eq_true rfl, Nat.le_of_ble_eq_true rfl⟩ ⟨rfl, rfl⟩ hP (hD _ _) [0, 1, 2, 3, 4, 5, 6] rfl rfl (ci := 2) rfl rfl rfl hl.1 rfl (Nat.le_of_ble_eq_true rfl) dX2_ventGas_1 ⟨Nat.zero_le _, Nat.zero_le _⟩) hP hS (fun r1 _ H locs hr2 hP hS => ?_)
  obtain ⟨rfl, hz3⟩ := hr2
  refine lv_if_eq (tgt := 49) hx hb dX2_ventGas_4 (by decide) (fun c4 => ?_) (fun c4 => ?_)
  · exact hret w _ _ _ _ dX2_ventGas_49 (ht.trans (by simp only [f_X2_ventGas, if_pos c4])) hP hS
  · refine lv_aload_n hx hb dX2_ventGas_7 rfl (lv_at hl 0 rfl) ?_
    refine gf_X2_40 fx hP 0 rfl (v := W_place w) rfl dX2_ventGas_8 ?_
    refine lv_if_ne (tgt := 49) hx hb dX2_ventGas_11 (by decide) (fun c5 => ?_) (fun c5 => ?_)
    · exact hret w _ _ _ _ dX2_ventGas_49 (ht.trans (by simp only [f_X2_ventGas, if_neg c4, if_neg c5])) hP hS
    · refine lv_iload_n hx hb dX2_ventGas_14 rfl (lv_at hl 1 rfl) ?_
      have K25 : ∀ (H : Heap) (locs : List Loc) (ls : Array Slot), f_X2_ventGas w p0 = f_X2_ventGas_b25 w → va_P D vwCl (cWell h kr q w r) H → va_S A s.heap H locs → lv_has ls 2 [(0, .ref h)] → W p l e RM_X2_ventGas s m args below meth c H locs 0 0 Q (F0 m 25 ls []) := by
        intro H locs ls ht hP hS hl
        refine lv_aload_n hx hb dX2_ventGas_25 rfl (lv_at hl 0 rfl) ?_
        refine lv_dup hx hb dX2_ventGas_26 rfl ?_
        refine gf_X2_49 fx hP 0 rfl (v := W_vented w) rfl dX2_ventGas_27 ?_
        refine lv_aload_n hx hb dX2_ventGas_30 rfl (lv_at hl 0 rfl) ?_
        refine gf_X2_43 fx hP 0 rfl (v := W_gas w) rfl dX2_ventGas_31 ?_
        refine lv_i2l (v := (W_gas w).toInt64) hx hb dX2_ventGas_34 rfl ?_
        refine lv_ladd hx hb dX2_ventGas_35 ?_
        refine pf_X2_49 fx hP (hD _ _) hS 0 rfl dX2_ventGas_36 (fun H locs hP hS => ?_)
        have hP : va_P D vwCl (cWell h kr q (W_set_vented w ((W_vented w) + ((W_gas w).toInt64))) r) H := hP
        refine lv_aload_n hx hb dX2_ventGas_39 rfl (lv_at hl 0 rfl) ?_
        refine lv_lconst (v := 0) hx hb dX2_ventGas_40 (by decide) ?_
        refine pf_X2_36 fx hP (hD _ _) hS 0 rfl dX2_ventGas_41 (fun H locs hP hS => ?_)
        have hP : va_P D vwCl (cWell h kr q (W_set_charge (W_set_vented w ((W_vented w) + ((W_gas w).toInt64))) (0 : Int64)) r) H := hP
        refine lv_aload_n hx hb dX2_ventGas_44 rfl (lv_at hl 0 rfl) ?_
        refine lv_iconst (v := 0) hx hb dX2_ventGas_45 (by decide) ?_
        refine pf_X2_43 fx hP (hD _ _) hS 0 rfl dX2_ventGas_46 (fun H locs hP hS => ?_)
        have hP : va_P D vwCl (cWell h kr q (W_set_gas (W_set_charge (W_set_vented w ((W_vented w) + ((W_gas w).toInt64))) (0 : Int64)) (0 : Int32)) r) H := hP
        exact hret (W_set_gas (W_set_charge (W_set_vented w ((W_vented w) + ((W_gas w).toInt64))) (0 : Int64)) (0 : Int32)) _ _ _ _ dX2_ventGas_49 (ht.trans (by simp only [f_X2_ventGas_b25])) hP hS
      refine lv_if_ne (tgt := 25) hx hb dX2_ventGas_15 (by decide) (fun c8 => ?_) (fun c8 => ?_)
      · exact K25 H locs ls (ht.trans (by simp only [f_X2_ventGas, if_neg c4, if_pos c5, if_neg c8])) hP hS (lv_sub hl [0] rfl)
      · refine lv_aload_n hx hb dX2_ventGas_18 rfl (lv_at hl 0 rfl) ?_
        refine gf_X2_26 fx hP 0 rfl (v := W_isClosed w) rfl dX2_ventGas_19 ?_
        refine lv_if_ne (tgt := 49) hx hb dX2_ventGas_22 (by decide) (fun c9 => ?_) (fun c9 => ?_)
        · exact hret w _ _ _ _ dX2_ventGas_49 (ht.trans (by simp only [f_X2_ventGas, if_neg c4, if_pos c5, if_pos c8, if_neg c9])) hP hS
        · exact K25 H locs ls (ht.trans (by simp only [f_X2_ventGas, if_neg c4, if_pos c5, if_pos c8, if_pos c9])) hP hS (lv_sub hl [0] rfl)

/-! X2_setChoke -/
def f_X2_setChoke (w : WS) (r : RS) : WS :=
  if (W_isClosed w) = 0 then w else (if (imax (0 : Int32) ((f_X0_poreAt r (W_depth w)) - (f_X2_column w))) ≤ (W_valveStrength w) then (W_set_choke w (imax (0 : Int32) ((f_X0_poreAt r (W_depth w)) - (f_X2_column w)))) else (W_set_hasBrokenSinceTest (W_set_choke (W_set_isClosed (W_set_choke w (imax (0 : Int32) ((f_X0_poreAt r (W_depth w)) - (f_X2_column w)))) (0 : Int32)) (0 : Int32)) (1 : Int32)))

abbrev RM_X2_setChoke : Room := { frames := 2, cells := 0, slots := 0, locals := 44 }
set_option maxRecDepth 100000 in
set_option maxHeartbeats 4000000 in
theorem c_X2_setChoke (l : Launch) (D : va_G) (q : Nat → ClassId) (sz : Nat) (h : Nat) (kr : Nat → Nat) (w : WS) (r : RS) : Met l yX2_setChoke (Cond.code yX2_setChoke cX2_setChoke 1 none :: ALL) RM_X2_setChoke (PC D q [.ref h] (cWell h kr q w r) sz) (va_Qv (fun (u : WS) => f_X2_setChoke w r = u) (fun u t9 => va_P D vwCl (cWell h kr q u r) t9.heap) (va_A (cWell h kr q w r) sz)) 0 0 (va_A (cWell h kr q w r) sz) := by
  refine en_vW (by decide +kernel) (Nat.le_of_ble_eq_true rfl) ?_
  intro p e s m args below meth c Q A H locs ls fx hD0 hA hP hS hl hret
  have hx := fx.1
  have hb := fx.2.1
  have hl : lv_has ls 1 [(0, .ref h)] := hl
  have hD : ∀ (w9 : WS) (r9 : RS), va_D _ (cWell h kr q w9 r9) := fun _ _ => D_same ((fst_Well _ _ _ _ _).trans (fst_Well _ _ _ _ _).symm) hD0
  have ht : f_X2_setChoke w r = f_X2_setChoke w r := rfl
  refine lv_aload_n hx hb dX2_setChoke_0 rfl (lv_at hl 0 rfl) ?_
  refine gf_X2_26 fx hP 0 rfl (v := W_isClosed w) rfl dX2_setChoke_1 ?_
  refine lv_if_ne (tgt := 8) hx hb dX2_setChoke_4 (by decide) (fun c1 => ?_) (fun c1 => ?_)
  · refine lv_aload_n hx hb dX2_setChoke_8 rfl (lv_at hl 0 rfl) ?_
    refine lv_iconst (v := 0) hx hb dX2_setChoke_9 (by decide) ?_
    refine lv_aload_n hx hb dX2_setChoke_10 rfl (lv_at hl 0 rfl) ?_
    refine gf_X2_7 fx hP 0 rfl dX2_setChoke_11 ?_
    refine lv_aload_n hx hb dX2_setChoke_14 rfl (lv_at hl 0 rfl) ?_
    refine gf_X2_20 fx hP 0 rfl (v := W_depth w) rfl dX2_setChoke_15 ?_
    refine kR_i (runVN fx (As := [.int (W_depth w)]) (rest := [.int (0 : Int32), .ref h]) (c_X0_poreAt l D q H.size kr r (W_depth w)) lk_X2_102 ⟨Nat.le_of_ble_eq_true rfl, Nat.le_of_ble_eq_true rfl⟩ ⟨rfl, rfl⟩ hP (hD _ _) [1, 2, 3, 4, 5, 6] rfl rfl (ci := 0) rfl rfl rfl hl.1 rfl (Nat.le_of_ble_eq_true rfl) dX2_setChoke_18 ⟨Nat.zero_le _, Nat.zero_le _⟩) hP hS (fun r2 _ H locs hr3 hP hS => ?_)
    subst hr3
    refine lv_aload_n hx hb dX2_setChoke_21 rfl (lv_at hl 0 rfl) ?_
    refine kR_i (runV fx (As := []) (rest := [.int (f_X0_poreAt r (W_depth w)), .int (0 : Int32), .ref h]) (c_X2_column l D q H.size h kr w r) lk_X2_68 ⟨Nat.le_of_ble_eq_true rfl, Nat.le_of_ble_eq_true rfl⟩ ⟨rfl, rfl⟩ hP (hD _ _) [0, 1, 2, 3, 4, 5, 6] rfl rfl (ci := 2) rfl rfl rfl hl.1 rfl (Nat.le_of_ble_eq_true rfl) dX2_setChoke_22 ⟨Nat.zero_le _, Nat.zero_le _⟩) hP hS (fun r4 _ H locs hr5 hP hS => ?_)
    subst hr5
    refine lv_isub hx hb dX2_setChoke_25 ?_
    refine kimax fx mm_37 hl.1 (Nat.le_of_ble_eq_true rfl) (Nat.le_of_ble_eq_true rfl) (Nat.zero_le _) (Nat.zero_le _) dX2_setChoke_26 ?_
    refine pf_X2_30 fx hP (hD _ _) hS 0 rfl dX2_setChoke_29 (fun H locs hP hS => ?_)
    have hP : va_P D vwCl (cWell h kr q (W_set_choke w (imax (0 : Int32) ((f_X0_poreAt r (W_depth w)) - (f_X2_column w)))) r) H := hP
    refine lv_aload_n hx hb dX2_setChoke_32 rfl (lv_at hl 0 rfl) ?_
    refine gf_X2_30 fx hP 0 rfl (v := imax (0 : Int32) ((f_X0_poreAt r (W_depth w)) - (f_X2_column w))) (W_choke_set_choke _ _) dX2_setChoke_33 ?_
    refine lv_aload_n hx hb dX2_setChoke_36 rfl (lv_at hl 0 rfl) ?_
    refine gf_X2_17 fx hP 0 rfl (v := W_valveStrength w) (W_valveStrength_set_choke _ _) dX2_setChoke_37 ?_
    refine lv_icmp_le (tgt := 58) hx hb dX2_setChoke_40 (by decide) (fun c6 => ?_) (fun c6 => ?_)
    · exact hret (W_set_choke w (imax (0 : Int32) ((f_X0_poreAt r (W_depth w)) - (f_X2_column w)))) _ _ _ _ dX2_setChoke_58 (ht.trans (by simp only [f_X2_setChoke, if_neg c1, if_pos c6])) hP hS
    · refine lv_aload_n hx hb dX2_setChoke_43 rfl (lv_at hl 0 rfl) ?_
      refine lv_iconst (v := 0) hx hb dX2_setChoke_44 (by decide) ?_
      refine pf_X2_26 fx hP (hD _ _) hS 0 rfl (hz := bz0) dX2_setChoke_45 (fun H locs hP hS => ?_)
      have hP : va_P D vwCl (cWell h kr q (W_set_isClosed (W_set_choke w (imax (0 : Int32) ((f_X0_poreAt r (W_depth w)) - (f_X2_column w)))) (0 : Int32)) r) H := hP
      refine lv_aload_n hx hb dX2_setChoke_48 rfl (lv_at hl 0 rfl) ?_
      refine lv_iconst (v := 0) hx hb dX2_setChoke_49 (by decide) ?_
      refine pf_X2_30 fx hP (hD _ _) hS 0 rfl dX2_setChoke_50 (fun H locs hP hS => ?_)
      have hP : va_P D vwCl (cWell h kr q (W_set_choke (W_set_isClosed (W_set_choke w (imax (0 : Int32) ((f_X0_poreAt r (W_depth w)) - (f_X2_column w)))) (0 : Int32)) (0 : Int32)) r) H := hP
      refine lv_aload_n hx hb dX2_setChoke_53 rfl (lv_at hl 0 rfl) ?_
      refine lv_iconst (v := 1) hx hb dX2_setChoke_54 (by decide) ?_
      refine pf_X2_33 fx hP (hD _ _) hS 0 rfl (hz := bz1) dX2_setChoke_55 (fun H locs hP hS => ?_)
      have hP : va_P D vwCl (cWell h kr q (W_set_hasBrokenSinceTest (W_set_choke (W_set_isClosed (W_set_choke w (imax (0 : Int32) ((f_X0_poreAt r (W_depth w)) - (f_X2_column w)))) (0 : Int32)) (0 : Int32)) (1 : Int32)) r) H := hP
      exact hret (W_set_hasBrokenSinceTest (W_set_choke (W_set_isClosed (W_set_choke w (imax (0 : Int32) ((f_X0_poreAt r (W_depth w)) - (f_X2_column w)))) (0 : Int32)) (0 : Int32)) (1 : Int32)) _ _ _ _ dX2_setChoke_58 (ht.trans (by simp only [f_X2_setChoke, if_neg c1, if_neg c6])) hP hS
  · exact hret w _ _ _ _ dX2_setChoke_7 (ht.trans (by simp only [f_X2_setChoke, if_pos c1])) hP hS

/-! X2_flowIn -/
def f_X2_flowIn_b113 (w : WS) (r : RS) (w18 : WS) : Int32 × WS :=
  ((1 : Int32), (f_X2_measureGas (W_set_charge w18 ((W_charge w18) + (((imin (40 : Int32) ((1 : Int32) + ((((f_X0_poreAt r (W_depth w)) - (f_X2_bottom w)) * (f_X0_rateAt r (W_depth w))) / (10000 : Int32)))).toInt64) * ((imax (1 : Int32) (f_X2_bottom w18)).toInt64))))))

def f_X2_flowIn (w : WS) (r : RS) : Int32 × WS :=
  if (W_isClosed w) = 0 then (if 0 < ((f_X0_poreAt r (W_depth w)) - (f_X2_bottom w)) then (if (f_X0_bearsGasAt r (W_depth w)) = 0 then ((1 : Int32), W_set_liquid w ((W_liquid w) + (imin (imin (40 : Int32) ((1 : Int32) + ((((f_X0_poreAt r (W_depth w)) - (f_X2_bottom w)) * (f_X0_rateAt r (W_depth w))) / (10000 : Int32)))) (((W_depth w) - (W_gas w)) - (W_liquid w))))) else (if (f_X2_hasGas w) = 0 then (f_X2_flowIn_b113 w r (W_set_place w (W_depth w))) else (f_X2_flowIn_b113 w r w))) else ((0 : Int32), w)) else ((0 : Int32), w)

abbrev RM_X2_flowIn : Room := { frames := 3, cells := 0, slots := 0, locals := 65 }
set_option maxRecDepth 100000 in
set_option maxHeartbeats 4000000 in
theorem c_X2_flowIn (l : Launch) (D : va_G) (q : Nat → ClassId) (sz : Nat) (h : Nat) (kr : Nat → Nat) (w : WS) (r : RS) : Met l yX2_flowIn (Cond.code yX2_flowIn cX2_flowIn 3 (some .boolean) :: ALL) RM_X2_flowIn (PC D q [.ref h] (cWell h kr q w r) sz) (va_Qi (fun (rv : Int32) (u : WS) => f_X2_flowIn w r = (rv, u) ∧ bz rv) (fun u t9 => va_P D vwCl (cWell h kr q u r) t9.heap) (va_A (cWell h kr q w r) sz)) 0 0 (va_A (cWell h kr q w r) sz) := by
  refine en_zW (by decide +kernel) (Nat.le_of_ble_eq_true rfl) ?_
  intro p e s m args below meth c Q A H locs ls fx hD0 hA hP hS hl hret
  have hx := fx.1
  have hb := fx.2.1
  have hl : lv_has ls 3 [(0, .ref h)] := hl
  have hD : ∀ (w9 : WS) (r9 : RS), va_D _ (cWell h kr q w9 r9) := fun _ _ => D_same ((fst_Well _ _ _ _ _).trans (fst_Well _ _ _ _ _).symm) hD0
  have ht : f_X2_flowIn w r = f_X2_flowIn w r := rfl
  refine lv_aload_n hx hb dX2_flowIn_0 rfl (lv_at hl 0 rfl) ?_
  refine gf_X2_7 fx hP 0 rfl dX2_flowIn_1 ?_
  refine lv_aload_n hx hb dX2_flowIn_4 rfl (lv_at hl 0 rfl) ?_
  refine gf_X2_20 fx hP 0 rfl (v := W_depth w) rfl dX2_flowIn_5 ?_
  refine kR_i (runVN fx (As := [.int (W_depth w)]) (rest := []) (c_X0_poreAt l D q H.size kr r (W_depth w)) lk_X2_102 ⟨Nat.le_of_ble_eq_true rfl, Nat.le_of_ble_eq_true rfl⟩ ⟨rfl, rfl⟩ hP (hD _ _) [1, 2, 3, 4, 5, 6] rfl rfl (ci := 0) rfl rfl rfl hl.1 rfl (Nat.le_of_ble_eq_true rfl) dX2_flowIn_8 ⟨Nat.zero_le _, Nat.zero_le _⟩) hP hS (fun r1 _ H locs hr2 hP hS => ?_)
  subst hr2
  refine lv_aload_n hx hb dX2_flowIn_11 rfl (lv_at hl 0 rfl) ?_
  refine kR_i (runV fx (As := []) (rest := [.int (f_X0_poreAt r (W_depth w))]) (c_X2_bottom l D q H.size h kr w r) lk_X2_108 ⟨Nat.le_of_ble_eq_true rfl, Nat.le_of_ble_eq_true rfl⟩ ⟨rfl, rfl⟩ hP (hD _ _) [0, 1, 2, 3, 4, 5, 6] rfl rfl (ci := 2) rfl rfl rfl hl.1 rfl (Nat.le_of_ble_eq_true rfl) dX2_flowIn_12 ⟨Nat.zero_le _, Nat.zero_le _⟩) hP hS (fun r3 _ H locs hr4 hP hS => ?_)
  subst hr4
  refine lv_isub hx hb dX2_flowIn_15 ?_
  refine lv_istore_n (lv' := [(1, .int ((f_X0_poreAt r (W_depth w)) - (f_X2_bottom w))), (0, .ref h)]) hx hb dX2_flowIn_16 rfl hl (by decide) rfl (fun ls hl => ?_)
  refine lv_aload_n hx hb dX2_flowIn_17 rfl (lv_at hl 1 rfl) ?_
  refine gf_X2_26 fx hP 0 rfl (v := W_isClosed w) rfl dX2_flowIn_18 ?_
  refine lv_if_ne (tgt := 28) hx hb dX2_flowIn_21 (by decide) (fun c5 => ?_) (fun c5 => ?_)
  · refine lv_iconst (v := 0) hx hb dX2_flowIn_28 (by decide) ?_
    exact hret (0 : Int32) w _ _ _ _ dX2_flowIn_29 bz0 (ht.trans (by simp only [f_X2_flowIn, if_neg c5])) hP hS
  · refine lv_iload_n hx hb dX2_flowIn_24 rfl (lv_at hl 0 rfl) ?_
    refine lv_if_gt (tgt := 30) hx hb dX2_flowIn_25 (by decide) (fun c6 => ?_) (fun c6 => ?_)
    · refine lv_bipush (v := 40) hx hb dX2_flowIn_30 (by decide) ?_
      refine lv_iconst (v := 1) hx hb dX2_flowIn_32 (by decide) ?_
      refine lv_iload_n hx hb dX2_flowIn_33 rfl (lv_at hl 0 rfl) ?_
      refine lv_aload_n hx hb dX2_flowIn_34 rfl (lv_at hl 1 rfl) ?_
      refine gf_X2_7 fx hP 0 rfl dX2_flowIn_35 ?_
      refine lv_aload_n hx hb dX2_flowIn_38 rfl (lv_at hl 1 rfl) ?_
      refine gf_X2_20 fx hP 0 rfl (v := W_depth w) rfl dX2_flowIn_39 ?_
      refine kR_i (runVN fx (As := [.int (W_depth w)]) (rest := [.int ((f_X0_poreAt r (W_depth w)) - (f_X2_bottom w)), .int (1 : Int32), .int (40 : Int32)]) (c_X0_rateAt l D q H.size kr r (W_depth w)) lk_X2_111 ⟨Nat.le_of_ble_eq_true rfl, Nat.le_of_ble_eq_true rfl⟩ ⟨rfl, rfl⟩ hP (hD _ _) [1, 2, 3, 4, 5, 6] rfl rfl (ci := 0) rfl rfl rfl hl.1 rfl (Nat.le_of_ble_eq_true rfl) dX2_flowIn_42 ⟨Nat.zero_le _, Nat.zero_le _⟩) hP hS (fun r7 _ H locs hr8 hP hS => ?_)
      subst hr8
      refine lv_imul hx hb dX2_flowIn_45 ?_
      refine lv_sipush (v := 10000) hx hb dX2_flowIn_46 (by decide) ?_
      refine lv_idiv hx hb dX2_flowIn_49 (by decide) ?_
      refine lv_iadd hx hb dX2_flowIn_50 ?_
      refine kimin fx mm_65 hl.1 (Nat.le_of_ble_eq_true rfl) (Nat.le_of_ble_eq_true rfl) (Nat.zero_le _) (Nat.zero_le _) dX2_flowIn_51 ?_
      refine lv_istore_n (lv' := [(2, .int (imin (40 : Int32) ((1 : Int32) + ((((f_X0_poreAt r (W_depth w)) - (f_X2_bottom w)) * (f_X0_rateAt r (W_depth w))) / (10000 : Int32))))), (1, .int ((f_X0_poreAt r (W_depth w)) - (f_X2_bottom w))), (0, .ref h)]) hx hb dX2_flowIn_54 rfl hl (by decide) rfl (fun ls hl => ?_)
      refine lv_aload_n hx hb dX2_flowIn_55 rfl (lv_at hl 2 rfl) ?_
      refine gf_X2_7 fx hP 0 rfl dX2_flowIn_56 ?_
      refine lv_aload_n hx hb dX2_flowIn_59 rfl (lv_at hl 2 rfl) ?_
      refine gf_X2_20 fx hP 0 rfl (v := W_depth w) rfl dX2_flowIn_60 ?_
      refine kR_i (runVN fx (As := [.int (W_depth w)]) (rest := []) (c_X0_bearsGasAt l D q H.size kr r (W_depth w)) lk_X2_116 ⟨Nat.le_of_ble_eq_true rfl, Nat.le_of_ble_eq_true rfl⟩ ⟨rfl, rfl⟩ hP (hD _ _) [1, 2, 3, 4, 5, 6] rfl rfl (ci := 0) rfl rfl rfl hl.1 rfl (Nat.le_of_ble_eq_true rfl) dX2_flowIn_63 ⟨Nat.zero_le _, Nat.zero_le _⟩) hP hS (fun r9 _ H locs hr10 hP hS => ?_)
      obtain ⟨rfl, hz11⟩ := hr10
      refine lv_if_ne (tgt := 98) hx hb dX2_flowIn_66 (by decide) (fun c12 => ?_) (fun c12 => ?_)
      · refine lv_aload_n hx hb dX2_flowIn_98 rfl (lv_at hl 2 rfl) ?_
        refine kR_i (runV fx (As := []) (rest := []) (c_X2_hasGas l D q H.size h kr w r) lk_X2_58 ⟨Nat.le_of_ble_eq_true rfl, Nat.le_of_ble_eq_true rfl⟩ ⟨rfl, rfl⟩ hP (hD _ _) [0, 1, 2, 3, 4, 5, 6] rfl rfl (ci := 2) rfl rfl rfl hl.1 rfl (Nat.le_of_ble_eq_true rfl) dX2_flowIn_99 ⟨Nat.zero_le _, Nat.zero_le _⟩) hP hS (fun r13 _ H locs hr14 hP hS => ?_)
        obtain ⟨rfl, hz15⟩ := hr14
        have K113 : ∀ (w18 : WS) (H : Heap) (locs : List Loc) (ls : Array Slot), f_X2_flowIn w r = f_X2_flowIn_b113 w r w18 → va_P D vwCl (cWell h kr q w18 r) H → va_S A s.heap H locs → lv_has ls 3 [(0, .ref h), (2, .int (imin (40 : Int32) ((1 : Int32) + ((((f_X0_poreAt r (W_depth w)) - (f_X2_bottom w)) * (f_X0_rateAt r (W_depth w))) / (10000 : Int32)))))] → W p l e RM_X2_flowIn s m args below meth c H locs 0 0 Q (F0 m 113 ls []) := by
          intro w18 H locs ls ht hP hS hl
          refine lv_aload_n hx hb dX2_flowIn_113 rfl (lv_at hl 0 rfl) ?_
          refine lv_dup hx hb dX2_flowIn_114 rfl ?_
          refine gf_X2_36 fx hP 0 rfl (v := W_charge w18) rfl dX2_flowIn_115 ?_
          refine lv_iload_n hx hb dX2_flowIn_118 rfl (lv_at hl 1 rfl) ?_
          refine lv_i2l (v := (imin (40 : Int32) ((1 : Int32) + ((((f_X0_poreAt r (W_depth w)) - (f_X2_bottom w)) * (f_X0_rateAt r (W_depth w))) / (10000 : Int32)))).toInt64) hx hb dX2_flowIn_119 rfl ?_
          refine lv_iconst (v := 1) hx hb dX2_flowIn_120 (by decide) ?_
          refine lv_aload_n hx hb dX2_flowIn_121 rfl (lv_at hl 0 rfl) ?_
          refine kR_i (runV fx (As := []) (rest := [.int (1 : Int32), .long ((imin (40 : Int32) ((1 : Int32) + ((((f_X0_poreAt r (W_depth w)) - (f_X2_bottom w)) * (f_X0_rateAt r (W_depth w))) / (10000 : Int32)))).toInt64), .long (W_charge w18), .ref h]) (c_X2_bottom l D q H.size h kr w18 r) lk_X2_108 ⟨Nat.le_of_ble_eq_true rfl, Nat.le_of_ble_eq_true rfl⟩ ⟨rfl, rfl⟩ hP (hD _ _) [0, 1, 2, 3, 4, 5, 6] rfl rfl (ci := 2) rfl rfl rfl hl.1 rfl (Nat.le_of_ble_eq_true rfl) dX2_flowIn_122 ⟨Nat.zero_le _, Nat.zero_le _⟩) hP hS (fun r19 _ H locs hr20 hP hS => ?_)
          subst hr20
          refine kimax fx mm_37 hl.1 (Nat.le_of_ble_eq_true rfl) (Nat.le_of_ble_eq_true rfl) (Nat.zero_le _) (Nat.zero_le _) dX2_flowIn_125 ?_
          refine lv_i2l (v := (imax (1 : Int32) (f_X2_bottom w18)).toInt64) hx hb dX2_flowIn_128 rfl ?_
          refine lv_lmul hx hb dX2_flowIn_129 ?_
          refine lv_ladd hx hb dX2_flowIn_130 ?_
          refine pf_X2_36 fx hP (hD _ _) hS 0 rfl dX2_flowIn_131 (fun H locs hP hS => ?_)
          have hP : va_P D vwCl (cWell h kr q (W_set_charge w18 ((W_charge w18) + (((imin (40 : Int32) ((1 : Int32) + ((((f_X0_poreAt r (W_depth w)) - (f_X2_bottom w)) * (f_X0_rateAt r (W_depth w))) / (10000 : Int32)))).toInt64) * ((imax (1 : Int32) (f_X2_bottom w18)).toInt64)))) r) H := hP
          refine lv_aload_n hx hb dX2_flowIn_134 rfl (lv_at hl 0 rfl) ?_
          refine kW_v (runV fx (As := []) (rest := []) (c_X2_measureGas l D q H.size h kr (W_set_charge w18 ((W_charge w18) + (((imin (40 : Int32) ((1 : Int32) + ((((f_X0_poreAt r (W_depth w)) - (f_X2_bottom w)) * (f_X0_rateAt r (W_depth w))) / (10000 : Int32)))).toInt64) * ((imax (1 : Int32) (f_X2_bottom w18)).toInt64)))) r) lk_X2_83 ⟨Nat.le_of_ble_eq_true rfl, Nat.le_of_ble_eq_true rfl⟩ ⟨rfl, rfl⟩ hP (hD _ _) [0, 1, 2, 3, 4, 5, 6] rfl rfl (ci := 2) rfl rfl rfl hl.1 rfl (Nat.le_of_ble_eq_true rfl) dX2_flowIn_135 ⟨Nat.zero_le _, Nat.zero_le _⟩) hP (hD _ _) hS hA [0, 1, 2, 3, 4, 5, 6] rfl (fun _ => rfl) (fun u21 H locs hw22 hP hS => ?_)
          have hP : va_P D vwCl (cWell h kr q u21 r) H := hP
          refine lv_iconst (v := 1) hx hb dX2_flowIn_138 (by decide) ?_
          exact hret (1 : Int32) u21 _ _ _ _ dX2_flowIn_139 bz1 (ht.trans (by simp only [f_X2_flowIn_b113, hw22])) hP hS
        refine lv_if_ne (tgt := 113) hx hb dX2_flowIn_102 (by decide) (fun c17 => ?_) (fun c17 => ?_)
        · exact K113 w H locs ls (ht.trans (by simp only [f_X2_flowIn, if_pos c5, if_pos c6, if_neg c12, if_neg c17])) hP hS (lv_sub hl [2, 0] rfl)
        · refine lv_aload_n hx hb dX2_flowIn_105 rfl (lv_at hl 2 rfl) ?_
          refine lv_aload_n hx hb dX2_flowIn_106 rfl (lv_at hl 2 rfl) ?_
          refine gf_X2_20 fx hP 0 rfl (v := W_depth w) rfl dX2_flowIn_107 ?_
          refine pf_X2_40 fx hP (hD _ _) hS 0 rfl dX2_flowIn_110 (fun H locs hP hS => ?_)
          have hP : va_P D vwCl (cWell h kr q (W_set_place w (W_depth w)) r) H := hP
          exact K113 (W_set_place w (W_depth w)) H locs ls (ht.trans (by simp only [f_X2_flowIn, if_pos c5, if_pos c6, if_neg c12, if_pos c17])) hP hS (lv_sub hl [2, 0] rfl)
      · refine lv_aload_n hx hb dX2_flowIn_69 rfl (lv_at hl 2 rfl) ?_
        refine lv_dup hx hb dX2_flowIn_70 rfl ?_
        refine gf_X2_46 fx hP 0 rfl (v := W_liquid w) rfl dX2_flowIn_71 ?_
        refine lv_iload_n hx hb dX2_flowIn_74 rfl (lv_at hl 0 rfl) ?_
        refine lv_aload_n hx hb dX2_flowIn_75 rfl (lv_at hl 2 rfl) ?_
        refine gf_X2_20 fx hP 0 rfl (v := W_depth w) rfl dX2_flowIn_76 ?_
        refine lv_aload_n hx hb dX2_flowIn_79 rfl (lv_at hl 2 rfl) ?_
        refine gf_X2_43 fx hP 0 rfl (v := W_gas w) rfl dX2_flowIn_80 ?_
        refine lv_isub hx hb dX2_flowIn_83 ?_
        refine lv_aload_n hx hb dX2_flowIn_84 rfl (lv_at hl 2 rfl) ?_
        refine gf_X2_46 fx hP 0 rfl (v := W_liquid w) rfl dX2_flowIn_85 ?_
        refine lv_isub hx hb dX2_flowIn_88 ?_
        refine kimin fx mm_65 hl.1 (Nat.le_of_ble_eq_true rfl) (Nat.le_of_ble_eq_true rfl) (Nat.zero_le _) (Nat.zero_le _) dX2_flowIn_89 ?_
        refine lv_iadd hx hb dX2_flowIn_92 ?_
        refine pf_X2_46 fx hP (hD _ _) hS 0 rfl dX2_flowIn_93 (fun H locs hP hS => ?_)
        have hP : va_P D vwCl (cWell h kr q (W_set_liquid w ((W_liquid w) + (imin (imin (40 : Int32) ((1 : Int32) + ((((f_X0_poreAt r (W_depth w)) - (f_X2_bottom w)) * (f_X0_rateAt r (W_depth w))) / (10000 : Int32)))) (((W_depth w) - (W_gas w)) - (W_liquid w))))) r) H := hP
        refine lv_iconst (v := 1) hx hb dX2_flowIn_96 (by decide) ?_
        exact hret (1 : Int32) (W_set_liquid w ((W_liquid w) + (imin (imin (40 : Int32) ((1 : Int32) + ((((f_X0_poreAt r (W_depth w)) - (f_X2_bottom w)) * (f_X0_rateAt r (W_depth w))) / (10000 : Int32)))) (((W_depth w) - (W_gas w)) - (W_liquid w))))) _ _ _ _ dX2_flowIn_97 bz1 (ht.trans (by simp only [f_X2_flowIn, if_pos c5, if_pos c6, if_pos c12])) hP hS
    · refine lv_iconst (v := 0) hx hb dX2_flowIn_28 (by decide) ?_
      exact hret (0 : Int32) w _ _ _ _ dX2_flowIn_29 bz0 (ht.trans (by simp only [f_X2_flowIn, if_pos c5, if_neg c6])) hP hS

/-! X2_loseAtShoe -/
def f_X2_loseAtShoe (w : WS) (r : RS) : WS :=
  if (W_shoe w) ≤ 0 then w else (if (f_X2_foot w) ≤ (f_X0_breakAt r (W_shoe w)) then w else (W_set_lost w ((W_lost w) + (5 : Int32))))

abbrev RM_X2_loseAtShoe : Room := { frames := 2, cells := 0, slots := 0, locals := 46 }
set_option maxRecDepth 100000 in
set_option maxHeartbeats 4000000 in
theorem c_X2_loseAtShoe (l : Launch) (D : va_G) (q : Nat → ClassId) (sz : Nat) (h : Nat) (kr : Nat → Nat) (w : WS) (r : RS) : Met l yX2_loseAtShoe (Cond.code yX2_loseAtShoe cX2_loseAtShoe 1 none :: ALL) RM_X2_loseAtShoe (PC D q [.ref h] (cWell h kr q w r) sz) (va_Qv (fun (u : WS) => f_X2_loseAtShoe w r = u) (fun u t9 => va_P D vwCl (cWell h kr q u r) t9.heap) (va_A (cWell h kr q w r) sz)) 0 0 (va_A (cWell h kr q w r) sz) := by
  refine en_vW (by decide +kernel) (Nat.le_of_ble_eq_true rfl) ?_
  intro p e s m args below meth c Q A H locs ls fx hD0 hA hP hS hl hret
  have hx := fx.1
  have hb := fx.2.1
  have hl : lv_has ls 1 [(0, .ref h)] := hl
  have hD : ∀ (w9 : WS) (r9 : RS), va_D _ (cWell h kr q w9 r9) := fun _ _ => D_same ((fst_Well _ _ _ _ _).trans (fst_Well _ _ _ _ _).symm) hD0
  have ht : f_X2_loseAtShoe w r = f_X2_loseAtShoe w r := rfl
  refine lv_aload_n hx hb dX2_loseAtShoe_0 rfl (lv_at hl 0 rfl) ?_
  refine gf_X2_23 fx hP 0 rfl (v := W_shoe w) rfl dX2_loseAtShoe_1 ?_
  refine lv_if_le (tgt := 35) hx hb dX2_loseAtShoe_4 (by decide) (fun c1 => ?_) (fun c1 => ?_)
  · exact hret w _ _ _ _ dX2_loseAtShoe_35 (ht.trans (by simp only [f_X2_loseAtShoe, if_pos c1])) hP hS
  · refine lv_aload_n hx hb dX2_loseAtShoe_7 rfl (lv_at hl 0 rfl) ?_
    refine kR_i (runV fx (As := []) (rest := []) (c_X2_foot l D q H.size h kr w r) lk_X2_120 ⟨Nat.le_of_ble_eq_true rfl, Nat.le_of_ble_eq_true rfl⟩ ⟨rfl, rfl⟩ hP (hD _ _) [0, 1, 2, 3, 4, 5, 6] rfl rfl (ci := 2) rfl rfl rfl hl.1 rfl (Nat.le_of_ble_eq_true rfl) dX2_loseAtShoe_8 ⟨Nat.zero_le _, Nat.zero_le _⟩) hP hS (fun r2 _ H locs hr3 hP hS => ?_)
    subst hr3
    refine lv_aload_n hx hb dX2_loseAtShoe_11 rfl (lv_at hl 0 rfl) ?_
    refine gf_X2_7 fx hP 0 rfl dX2_loseAtShoe_12 ?_
    refine lv_aload_n hx hb dX2_loseAtShoe_15 rfl (lv_at hl 0 rfl) ?_
    refine gf_X2_23 fx hP 0 rfl (v := W_shoe w) rfl dX2_loseAtShoe_16 ?_
    refine kR_i (runVN fx (As := [.int (W_shoe w)]) (rest := [.int (f_X2_foot w)]) (c_X0_breakAt l D q H.size kr r (W_shoe w)) lk_X2_123 ⟨Nat.le_of_ble_eq_true rfl, Nat.le_of_ble_eq_true rfl⟩ ⟨rfl, rfl⟩ hP (hD _ _) [1, 2, 3, 4, 5, 6] rfl rfl (ci := 0) rfl rfl rfl hl.1 rfl (Nat.le_of_ble_eq_true rfl) dX2_loseAtShoe_19 ⟨Nat.zero_le _, Nat.zero_le _⟩) hP hS (fun r4 _ H locs hr5 hP hS => ?_)
    subst hr5
    refine lv_icmp_le (tgt := 35) hx hb dX2_loseAtShoe_22 (by decide) (fun c6 => ?_) (fun c6 => ?_)
    · exact hret w _ _ _ _ dX2_loseAtShoe_35 (ht.trans (by simp only [f_X2_loseAtShoe, if_neg c1, if_pos c6])) hP hS
    · refine lv_aload_n hx hb dX2_loseAtShoe_25 rfl (lv_at hl 0 rfl) ?_
      refine lv_dup hx hb dX2_loseAtShoe_26 rfl ?_
      refine gf_X2_52 fx hP 0 rfl (v := W_lost w) rfl dX2_loseAtShoe_27 ?_
      refine lv_iconst (v := 5) hx hb dX2_loseAtShoe_30 (by decide) ?_
      refine lv_iadd hx hb dX2_loseAtShoe_31 ?_
      refine pf_X2_52 fx hP (hD _ _) hS 0 rfl dX2_loseAtShoe_32 (fun H locs hP hS => ?_)
      have hP : va_P D vwCl (cWell h kr q (W_set_lost w ((W_lost w) + (5 : Int32))) r) H := hP
      exact hret (W_set_lost w ((W_lost w) + (5 : Int32))) _ _ _ _ dX2_loseAtShoe_35 (ht.trans (by simp only [f_X2_loseAtShoe, if_neg c1, if_neg c6])) hP hS

/-! X2_letMinuteGo -/
def f_X2_letMinuteGo (w : WS) (r : RS) (p0 : Int32) : Int32 × WS :=
  ((f_X2_flowIn (f_X2_setChoke (f_X2_measureGas (f_X2_ventGas (f_X2_raiseGas (W_set_minutes w ((W_minutes w) + (1 : Int32))) p0) p0)) r) r).1, (f_X2_loseAtShoe ((f_X2_flowIn (f_X2_setChoke (f_X2_measureGas (f_X2_ventGas (f_X2_raiseGas (W_set_minutes w ((W_minutes w) + (1 : Int32))) p0) p0)) r) r).2) r))

abbrev RM_X2_letMinuteGo : Room := { frames := 4, cells := 0, slots := 0, locals := 87 }
set_option maxRecDepth 100000 in
set_option maxHeartbeats 4000000 in
theorem c_X2_letMinuteGo (l : Launch) (D : va_G) (q : Nat → ClassId) (sz : Nat) (h : Nat) (kr : Nat → Nat) (w : WS) (r : RS) (p0 : Int32) : Met l yX2_letMinuteGo (Cond.code yX2_letMinuteGo cX2_letMinuteGo 3 (some .boolean) :: ALL) RM_X2_letMinuteGo (PC D q [.ref h, .int p0] (cWell h kr q w r) sz) (va_Qi (fun (rv : Int32) (u : WS) => f_X2_letMinuteGo w r p0 = (rv, u) ∧ bz rv) (fun u t9 => va_P D vwCl (cWell h kr q u r) t9.heap) (va_A (cWell h kr q w r) sz)) 0 0 (va_A (cWell h kr q w r) sz) := by
  refine en_zW (by decide +kernel) (Nat.le_of_ble_eq_true rfl) ?_
  intro p e s m args below meth c Q A H locs ls fx hD0 hA hP hS hl hret
  have hx := fx.1
  have hb := fx.2.1
  have hl : lv_has ls 3 [(0, .ref h), (1, .int p0)] := hl
  have hD : ∀ (w9 : WS) (r9 : RS), va_D _ (cWell h kr q w9 r9) := fun _ _ => D_same ((fst_Well _ _ _ _ _).trans (fst_Well _ _ _ _ _).symm) hD0
  have ht : f_X2_letMinuteGo w r p0 = f_X2_letMinuteGo w r p0 := rfl
  refine lv_aload_n hx hb dX2_letMinuteGo_0 rfl (lv_at hl 0 rfl) ?_
  refine lv_dup hx hb dX2_letMinuteGo_1 rfl ?_
  refine gf_X2_55 fx hP 0 rfl (v := W_minutes w) rfl dX2_letMinuteGo_2 ?_
  refine lv_iconst (v := 1) hx hb dX2_letMinuteGo_5 (by decide) ?_
  refine lv_iadd hx hb dX2_letMinuteGo_6 ?_
  refine pf_X2_55 fx hP (hD _ _) hS 0 rfl dX2_letMinuteGo_7 (fun H locs hP hS => ?_)
  have hP : va_P D vwCl (cWell h kr q (W_set_minutes w ((W_minutes w) + (1 : Int32))) r) H := hP
  refine lv_aload_n hx hb dX2_letMinuteGo_10 rfl (lv_at hl 0 rfl) ?_
  refine lv_iload_n hx hb dX2_letMinuteGo_11 rfl (lv_at hl 1 rfl) ?_
  refine kW_v (runV fx (As := [.int p0]) (rest := []) (c_X2_raiseGas l D q H.size h kr (W_set_minutes w ((W_minutes w) + (1 : Int32))) r p0) lk_X2_76 ⟨Nat.le_of_ble_eq_true rfl, Nat.le_of_ble_eq_true rfl⟩ ⟨rfl, rfl⟩ hP (hD _ _) [0, 1, 2, 3, 4, 5, 6] rfl rfl (ci := 2) rfl rfl rfl hl.1 rfl (Nat.le_of_ble_eq_true rfl) dX2_letMinuteGo_12 ⟨Nat.zero_le _, Nat.zero_le _⟩) hP (hD _ _) hS hA [0, 1, 2, 3, 4, 5, 6] rfl (fun _ => rfl) (fun u1 H locs hw2 hP hS => ?_)
  have hP : va_P D vwCl (cWell h kr q u1 r) H := hP
  refine lv_aload_n hx hb dX2_letMinuteGo_15 rfl (lv_at hl 0 rfl) ?_
  refine lv_iload_n hx hb dX2_letMinuteGo_16 rfl (lv_at hl 1 rfl) ?_
  refine kW_v (runV fx (As := [.int p0]) (rest := []) (c_X2_ventGas l D q H.size h kr u1 r p0) lk_X2_80 ⟨Nat.le_of_ble_eq_true rfl, Nat.le_of_ble_eq_true rfl⟩ ⟨rfl, rfl⟩ hP (hD _ _) [0, 1, 2, 3, 4, 5, 6] rfl rfl (ci := 2) rfl rfl rfl hl.1 rfl (Nat.le_of_ble_eq_true rfl) dX2_letMinuteGo_17 ⟨Nat.zero_le _, Nat.zero_le _⟩) hP (hD _ _) hS hA [0, 1, 2, 3, 4, 5, 6] rfl (fun _ => rfl) (fun u3 H locs hw4 hP hS => ?_)
  have hP : va_P D vwCl (cWell h kr q u3 r) H := hP
  refine lv_aload_n hx hb dX2_letMinuteGo_20 rfl (lv_at hl 0 rfl) ?_
  refine kW_v (runV fx (As := []) (rest := []) (c_X2_measureGas l D q H.size h kr u3 r) lk_X2_83 ⟨Nat.le_of_ble_eq_true rfl, Nat.le_of_ble_eq_true rfl⟩ ⟨rfl, rfl⟩ hP (hD _ _) [0, 1, 2, 3, 4, 5, 6] rfl rfl (ci := 2) rfl rfl rfl hl.1 rfl (Nat.le_of_ble_eq_true rfl) dX2_letMinuteGo_21 ⟨Nat.zero_le _, Nat.zero_le _⟩) hP (hD _ _) hS hA [0, 1, 2, 3, 4, 5, 6] rfl (fun _ => rfl) (fun u5 H locs hw6 hP hS => ?_)
  have hP : va_P D vwCl (cWell h kr q u5 r) H := hP
  refine lv_aload_n hx hb dX2_letMinuteGo_24 rfl (lv_at hl 0 rfl) ?_
  refine kW_v (runV fx (As := []) (rest := []) (c_X2_setChoke l D q H.size h kr u5 r) lk_X2_86 ⟨Nat.le_of_ble_eq_true rfl, Nat.le_of_ble_eq_true rfl⟩ ⟨rfl, rfl⟩ hP (hD _ _) [0, 1, 2, 3, 4, 5, 6] rfl rfl (ci := 2) rfl rfl rfl hl.1 rfl (Nat.le_of_ble_eq_true rfl) dX2_letMinuteGo_25 ⟨Nat.zero_le _, Nat.zero_le _⟩) hP (hD _ _) hS hA [0, 1, 2, 3, 4, 5, 6] rfl (fun _ => rfl) (fun u7 H locs hw8 hP hS => ?_)
  have hP : va_P D vwCl (cWell h kr q u7 r) H := hP
  refine lv_aload_n hx hb dX2_letMinuteGo_28 rfl (lv_at hl 0 rfl) ?_
  refine kW_i (runV fx (As := []) (rest := []) (c_X2_flowIn l D q H.size h kr u7 r) lk_X2_89 ⟨Nat.le_of_ble_eq_true rfl, Nat.le_of_ble_eq_true rfl⟩ ⟨rfl, rfl⟩ hP (hD _ _) [0, 1, 2, 3, 4, 5, 6] rfl rfl (ci := 2) rfl rfl rfl hl.1 rfl (Nat.le_of_ble_eq_true rfl) dX2_letMinuteGo_29 ⟨Nat.zero_le _, Nat.zero_le _⟩) hP (hD _ _) hS hA [0, 1, 2, 3, 4, 5, 6] rfl (fun _ => rfl) (fun r11 u9 H locs hw10 hP hS => ?_)
  obtain ⟨hw10, hz12⟩ := hw10
  have hP : va_P D vwCl (cWell h kr q u9 r) H := hP
  refine lv_istore_n (lv' := [(2, .int r11), (0, .ref h), (1, .int p0)]) hx hb dX2_letMinuteGo_32 rfl hl (by decide) rfl (fun ls hl => ?_)
  refine lv_aload_n hx hb dX2_letMinuteGo_33 rfl (lv_at hl 1 rfl) ?_
  refine kW_v (runV fx (As := []) (rest := []) (c_X2_loseAtShoe l D q H.size h kr u9 r) lk_X2_92 ⟨Nat.le_of_ble_eq_true rfl, Nat.le_of_ble_eq_true rfl⟩ ⟨rfl, rfl⟩ hP (hD _ _) [0, 1, 2, 3, 4, 5, 6] rfl rfl (ci := 2) rfl rfl rfl hl.1 rfl (Nat.le_of_ble_eq_true rfl) dX2_letMinuteGo_34 ⟨Nat.zero_le _, Nat.zero_le _⟩) hP (hD _ _) hS hA [0, 1, 2, 3, 4, 5, 6] rfl (fun _ => rfl) (fun u13 H locs hw14 hP hS => ?_)
  have hP : va_P D vwCl (cWell h kr q u13 r) H := hP
  refine lv_iload_n hx hb dX2_letMinuteGo_37 rfl (lv_at hl 0 rfl) ?_
  exact hret r11 u13 _ _ _ _ dX2_letMinuteGo_38 hz12 (ht.trans (by simp only [f_X2_letMinuteGo, hw2, hw4, hw6, hw8, hw10, hw14])) hP hS

/-! X2_letMinutesGo -/
def f_X2_letMinutesGo_L2 (r : RS) (p0 : Int32) : Nat → Int32 → WS → WS
  | 0, _, w11 => w11
  | n + 1, i10, w11 => if p0 ≤ i10 then w11 else (f_X2_letMinutesGo_L2 r p0 n (i10 + (1 : Int32)) ((f_X2_letMinuteGo w11 r (0 : Int32)).2))

def ok_X2_letMinutesGo_L2 (r : RS) (p0 : Int32) : Nat → Int32 → WS → Prop
  | 0, _, _ => False
  | n + 1, i10, w11 => (p0 ≤ i10 → True) ∧ (¬ p0 ≤ i10 → (ok_X2_letMinutesGo_L2 r p0 n (i10 + (1 : Int32)) ((f_X2_letMinuteGo w11 r (0 : Int32)).2)))

def f_X2_letMinutesGo (N : Nat) (w : WS) (r : RS) (p0 : Int32) : Int32 × WS :=
  ((W_gas (f_X2_letMinutesGo_L2 r p0 N (0 : Int32) w)) + (W_liquid (f_X2_letMinutesGo_L2 r p0 N (0 : Int32) w)), (f_X2_letMinutesGo_L2 r p0 N (0 : Int32) w))

def ok_X2_letMinutesGo (N : Nat) (w : WS) (r : RS) (p0 : Int32) : Prop :=
  (ok_X2_letMinutesGo_L2 r p0 N (0 : Int32) w) ∧ True

abbrev RM_X2_letMinutesGo : Room := { frames := 5, cells := 0, slots := 0, locals := 109 }
set_option maxRecDepth 100000 in
set_option maxHeartbeats 4000000 in
theorem c_X2_letMinutesGo (l : Launch) (D : va_G) (q : Nat → ClassId) (sz : Nat) (h : Nat) (kr : Nat → Nat) (w : WS) (r : RS) (p0 : Int32) (N : Nat) (hok : ok_X2_letMinutesGo N w r p0) : Met l yX2_letMinutesGo (Cond.code yX2_letMinutesGo cX2_letMinutesGo 3 (some .int) :: ALL) RM_X2_letMinutesGo (PC D q [.ref h, .int p0] (cWell h kr q w r) sz) (va_Qi (fun (rv : Int32) (u : WS) => f_X2_letMinutesGo N w r p0 = (rv, u)) (fun u t9 => va_P D vwCl (cWell h kr q u r) t9.heap) (va_A (cWell h kr q w r) sz)) 0 0 (va_A (cWell h kr q w r) sz) := by
  refine en_iW (by decide +kernel) (Nat.le_of_ble_eq_true rfl) ?_
  intro p e s m args below meth c Q A H locs ls fx hD0 hA hP hS hl hret
  have hx := fx.1
  have hb := fx.2.1
  have hl : lv_has ls 3 [(0, .ref h), (1, .int p0)] := hl
  have hD : ∀ (w9 : WS) (r9 : RS), va_D _ (cWell h kr q w9 r9) := fun _ _ => D_same ((fst_Well _ _ _ _ _).trans (fst_Well _ _ _ _ _).symm) hD0
  have ht : f_X2_letMinutesGo N w r p0 = f_X2_letMinutesGo N w r p0 := rfl
  simp only [ok_X2_letMinutesGo] at hok
  refine lv_iconst (v := 0) hx hb dX2_letMinutesGo_0 (by decide) ?_
  refine lv_istore_n (lv' := [(2, .int (0 : Int32)), (0, .ref h), (1, .int p0)]) hx hb dX2_letMinutesGo_1 rfl hl (by decide) rfl (fun ls hl => ?_)
  obtain ⟨hokL, hok⟩ := hok
  obtain ⟨z2, hz2⟩ : ∃ z, f_X2_letMinutesGo_L2 r p0 N (0 : Int32) w = z := ⟨_, rfl⟩
  suffices KJ2 : ∀ (H : Heap) (locs : List Loc) (ls : Array Slot), va_P D vwCl (cWell h kr q z2 r) H → va_S A s.heap H locs → lv_has ls 3 [(0, .ref h)] → W p l e RM_X2_letMinutesGo s m args below meth c H locs 0 0 Q (F0 m 19 ls []) by
    have LP2 : ∀ (n : Nat) (i10 : Int32) (w11 : WS) (H : Heap) (locs : List Loc) (ls : Array Slot), ok_X2_letMinutesGo_L2 r p0 n i10 w11 → f_X2_letMinutesGo_L2 r p0 n i10 w11 = z2 → va_P D vwCl (cWell h kr q w11 r) H → va_S A s.heap H locs → lv_has ls 3 [(0, .ref h), (1, .int p0), (2, .int i10)] → W p l e RM_X2_letMinutesGo s m args below meth c H locs 0 0 Q (F0 m 2 ls []) := by
      intro n
      induction n with
      | zero =>
        intro i10 w11 H locs ls hok
        exact (hok : False).elim
      | succ n ih2 =>
        intro i10 w11 H locs ls hok ht hP hS hl
        simp only [ok_X2_letMinutesGo_L2] at hok
        refine lv_iload_n hx hb dX2_letMinutesGo_2 rfl (lv_at hl 2 rfl) ?_
        refine lv_iload_n hx hb dX2_letMinutesGo_3 rfl (lv_at hl 1 rfl) ?_
        refine lv_icmp_ge (tgt := 19) hx hb dX2_letMinutesGo_4 (by decide) (fun c12 => ?_) (fun c12 => ?_)
        · have hok := hok.1 c12
          have hv9 := ht.symm.trans (show _ = w11 by simp only [f_X2_letMinutesGo_L2, if_pos c12])
          subst hv9
          exact KJ2 H locs ls hP hS (lv_sub hl [0] rfl)
        · have hok := hok.2 c12
          refine lv_aload_n hx hb dX2_letMinutesGo_7 rfl (lv_at hl 0 rfl) ?_
          refine lv_iconst (v := 0) hx hb dX2_letMinutesGo_8 (by decide) ?_
          refine kW_i (runV fx (As := [.int (0 : Int32)]) (rest := []) (c_X2_letMinuteGo l D q H.size h kr w11 r (0 : Int32)) lk_X2_72 ⟨Nat.le_of_ble_eq_true rfl, Nat.le_of_ble_eq_true rfl⟩ ⟨rfl, rfl⟩ hP (hD _ _) [0, 1, 2, 3, 4, 5, 6] rfl rfl (ci := 2) rfl rfl rfl hl.1 rfl (Nat.le_of_ble_eq_true rfl) dX2_letMinutesGo_9 ⟨Nat.zero_le _, Nat.zero_le _⟩) hP (hD _ _) hS hA [0, 1, 2, 3, 4, 5, 6] rfl (fun _ => rfl) (fun r15 u13 H locs hw14 hP hS => ?_)
          obtain ⟨hw14, hz16⟩ := hw14
          have hP : va_P D vwCl (cWell h kr q u13 r) H := hP
          try simp only [hw14] at hok
          refine lv_pop hx hb dX2_letMinutesGo_12 rfl ?_
          refine lv_iinc (v := i10 + (1 : Int32)) (lv' := [(2, .int (i10 + (1 : Int32))), (0, .ref h), (1, .int p0)]) hx hb dX2_letMinutesGo_13 hl (k := 2) rfl rfl (by decide) rfl (fun ls hl => ?_)
          refine lv_goto (tgt := 2) hx hb dX2_letMinutesGo_16 (by decide) ?_
          exact ih2 (i10 + (1 : Int32)) u13 H locs ls hok ((show f_X2_letMinutesGo_L2 r p0 (n + 1) i10 w11 = _ by simp only [f_X2_letMinutesGo_L2, if_neg c12, hw14]).symm.trans ht) hP hS (lv_sub hl [1, 2, 0] rfl)
    exact LP2 N (0 : Int32) w H locs ls hokL hz2 hP hS (lv_sub hl [1, 2, 0] rfl)
  intro H locs ls hP hS hl
  subst hz2
  refine lv_aload_n hx hb dX2_letMinutesGo_19 rfl (lv_at hl 0 rfl) ?_
  refine gf_X2_43 fx hP 0 rfl (v := W_gas (f_X2_letMinutesGo_L2 r p0 N (0 : Int32) w)) rfl dX2_letMinutesGo_20 ?_
  refine lv_aload_n hx hb dX2_letMinutesGo_23 rfl (lv_at hl 0 rfl) ?_
  refine gf_X2_46 fx hP 0 rfl (v := W_liquid (f_X2_letMinutesGo_L2 r p0 N (0 : Int32) w)) rfl dX2_letMinutesGo_24 ?_
  refine lv_iadd hx hb dX2_letMinutesGo_27 ?_
  exact hret ((W_gas (f_X2_letMinutesGo_L2 r p0 N (0 : Int32) w)) + (W_liquid (f_X2_letMinutesGo_L2 r p0 N (0 : Int32) w))) (f_X2_letMinutesGo_L2 r p0 N (0 : Int32) w) _ _ _ _ dX2_letMinutesGo_28 (ht.trans (by simp only [f_X2_letMinutesGo])) hP hS

/-! X2_become -/
def f_X2_become (w : WS) (w2 : WS) : WS :=
  W_set_minutes (W_set_lost (W_set_vented (W_set_liquid (W_set_gas (W_set_place (W_set_charge (W_set_hasBrokenSinceTest (W_set_valveStrength (W_set_choke (W_set_isClosed (W_set_weight (W_set_shoe (W_set_depth w (W_depth w2)) (W_shoe w2)) (W_weight w2)) (W_isClosed w2)) (W_choke w2)) (W_valveStrength w2)) (W_hasBrokenSinceTest w2)) (W_charge w2)) (W_place w2)) (W_gas w2)) (W_liquid w2)) (W_vented w2)) (W_lost w2)) (W_minutes w2)

def ok_X2_become (w2 : WS) : Prop :=
  (bz (W_isClosed w2)) ∧ ((bz (W_hasBrokenSinceTest w2)) ∧ True)

abbrev RM_X2_become : Room := { frames := 0, cells := 0, slots := 0, locals := 0 }
set_option maxRecDepth 100000 in
set_option maxHeartbeats 4000000 in
theorem c_X2_become (l : Launch) (D : va_G) (q : Nat → ClassId) (sz : Nat) (h : Nat) (h2 : Nat) (kr : Nat → Nat) (w : WS) (w2 : WS) (hok : ok_X2_become w2) : Met l yX2_become (Cond.code yX2_become cX2_become 2 none :: ALL) RM_X2_become (PC D q [.ref h, .ref h2] (cTwo h h2 kr q w w2) sz) (va_Qv (fun (u : WS) => f_X2_become w w2 = u) (fun u t9 => va_P D vwCl (cTwo h h2 kr q u w2) t9.heap) (va_A (cTwo h h2 kr q w w2) sz)) 0 0 (va_A (cTwo h h2 kr q w w2) sz) := by
  refine en_vW (by decide +kernel) (Nat.le_of_ble_eq_true rfl) ?_
  intro p e s m args below meth c Q A H locs ls fx hD0 hA hP hS hl hret
  have hx := fx.1
  have hb := fx.2.1
  have hl : lv_has ls 2 [(0, .ref h), (1, .ref h2)] := hl
  have hD : ∀ (w9 : WS) (w29 : WS), va_D _ (cTwo h h2 kr q w9 w29) := fun _ _ => D_same ((fst_Two _ _ _ _ _ _).trans (fst_Two _ _ _ _ _ _).symm) hD0
  have ht : f_X2_become w w2 = f_X2_become w w2 := rfl
  simp only [ok_X2_become] at hok
  refine lv_aload_n hx hb dX2_become_0 rfl (lv_at hl 0 rfl) ?_
  refine lv_aload_n hx hb dX2_become_1 rfl (lv_at hl 1 rfl) ?_
  refine gf_X2_20 fx hP 1 rfl (v := W_depth w2) rfl dX2_become_2 ?_
  refine pf_X2_20 fx hP (hD _ _) hS 0 rfl dX2_become_5 (fun H locs hP hS => ?_)
  have hP : va_P D vwCl (cTwo h h2 kr q (W_set_depth w (W_depth w2)) w2) H := hP
  refine lv_aload_n hx hb dX2_become_8 rfl (lv_at hl 0 rfl) ?_
  refine lv_aload_n hx hb dX2_become_9 rfl (lv_at hl 1 rfl) ?_
  refine gf_X2_23 fx hP 1 rfl (v := W_shoe w2) rfl dX2_become_10 ?_
  refine pf_X2_23 fx hP (hD _ _) hS 0 rfl dX2_become_13 (fun H locs hP hS => ?_)
  have hP : va_P D vwCl (cTwo h h2 kr q (W_set_shoe (W_set_depth w (W_depth w2)) (W_shoe w2)) w2) H := hP
  refine lv_aload_n hx hb dX2_become_16 rfl (lv_at hl 0 rfl) ?_
  refine lv_aload_n hx hb dX2_become_17 rfl (lv_at hl 1 rfl) ?_
  refine gf_X2_13 fx hP 1 rfl (v := W_weight w2) rfl dX2_become_18 ?_
  refine pf_X2_13 fx hP (hD _ _) hS 0 rfl dX2_become_21 (fun H locs hP hS => ?_)
  have hP : va_P D vwCl (cTwo h h2 kr q (W_set_weight (W_set_shoe (W_set_depth w (W_depth w2)) (W_shoe w2)) (W_weight w2)) w2) H := hP
  refine lv_aload_n hx hb dX2_become_24 rfl (lv_at hl 0 rfl) ?_
  refine lv_aload_n hx hb dX2_become_25 rfl (lv_at hl 1 rfl) ?_
  refine gf_X2_26 fx hP 1 rfl (v := W_isClosed w2) rfl dX2_become_26 ?_
  obtain ⟨hz1, hok⟩ := hok
  refine pf_X2_26 fx hP (hD _ _) hS 0 rfl (hz := hz1) dX2_become_29 (fun H locs hP hS => ?_)
  have hP : va_P D vwCl (cTwo h h2 kr q (W_set_isClosed (W_set_weight (W_set_shoe (W_set_depth w (W_depth w2)) (W_shoe w2)) (W_weight w2)) (W_isClosed w2)) w2) H := hP
  refine lv_aload_n hx hb dX2_become_32 rfl (lv_at hl 0 rfl) ?_
  refine lv_aload_n hx hb dX2_become_33 rfl (lv_at hl 1 rfl) ?_
  refine gf_X2_30 fx hP 1 rfl (v := W_choke w2) rfl dX2_become_34 ?_
  refine pf_X2_30 fx hP (hD _ _) hS 0 rfl dX2_become_37 (fun H locs hP hS => ?_)
  have hP : va_P D vwCl (cTwo h h2 kr q (W_set_choke (W_set_isClosed (W_set_weight (W_set_shoe (W_set_depth w (W_depth w2)) (W_shoe w2)) (W_weight w2)) (W_isClosed w2)) (W_choke w2)) w2) H := hP
  refine lv_aload_n hx hb dX2_become_40 rfl (lv_at hl 0 rfl) ?_
  refine lv_aload_n hx hb dX2_become_41 rfl (lv_at hl 1 rfl) ?_
  refine gf_X2_17 fx hP 1 rfl (v := W_valveStrength w2) rfl dX2_become_42 ?_
  refine pf_X2_17 fx hP (hD _ _) hS 0 rfl dX2_become_45 (fun H locs hP hS => ?_)
  have hP : va_P D vwCl (cTwo h h2 kr q (W_set_valveStrength (W_set_choke (W_set_isClosed (W_set_weight (W_set_shoe (W_set_depth w (W_depth w2)) (W_shoe w2)) (W_weight w2)) (W_isClosed w2)) (W_choke w2)) (W_valveStrength w2)) w2) H := hP
  refine lv_aload_n hx hb dX2_become_48 rfl (lv_at hl 0 rfl) ?_
  refine lv_aload_n hx hb dX2_become_49 rfl (lv_at hl 1 rfl) ?_
  refine gf_X2_33 fx hP 1 rfl (v := W_hasBrokenSinceTest w2) rfl dX2_become_50 ?_
  obtain ⟨hz2, hok⟩ := hok
  refine pf_X2_33 fx hP (hD _ _) hS 0 rfl (hz := hz2) dX2_become_53 (fun H locs hP hS => ?_)
  have hP : va_P D vwCl (cTwo h h2 kr q (W_set_hasBrokenSinceTest (W_set_valveStrength (W_set_choke (W_set_isClosed (W_set_weight (W_set_shoe (W_set_depth w (W_depth w2)) (W_shoe w2)) (W_weight w2)) (W_isClosed w2)) (W_choke w2)) (W_valveStrength w2)) (W_hasBrokenSinceTest w2)) w2) H := hP
  refine lv_aload_n hx hb dX2_become_56 rfl (lv_at hl 0 rfl) ?_
  refine lv_aload_n hx hb dX2_become_57 rfl (lv_at hl 1 rfl) ?_
  refine gf_X2_36 fx hP 1 rfl (v := W_charge w2) rfl dX2_become_58 ?_
  refine pf_X2_36 fx hP (hD _ _) hS 0 rfl dX2_become_61 (fun H locs hP hS => ?_)
  have hP : va_P D vwCl (cTwo h h2 kr q (W_set_charge (W_set_hasBrokenSinceTest (W_set_valveStrength (W_set_choke (W_set_isClosed (W_set_weight (W_set_shoe (W_set_depth w (W_depth w2)) (W_shoe w2)) (W_weight w2)) (W_isClosed w2)) (W_choke w2)) (W_valveStrength w2)) (W_hasBrokenSinceTest w2)) (W_charge w2)) w2) H := hP
  refine lv_aload_n hx hb dX2_become_64 rfl (lv_at hl 0 rfl) ?_
  refine lv_aload_n hx hb dX2_become_65 rfl (lv_at hl 1 rfl) ?_
  refine gf_X2_40 fx hP 1 rfl (v := W_place w2) rfl dX2_become_66 ?_
  refine pf_X2_40 fx hP (hD _ _) hS 0 rfl dX2_become_69 (fun H locs hP hS => ?_)
  have hP : va_P D vwCl (cTwo h h2 kr q (W_set_place (W_set_charge (W_set_hasBrokenSinceTest (W_set_valveStrength (W_set_choke (W_set_isClosed (W_set_weight (W_set_shoe (W_set_depth w (W_depth w2)) (W_shoe w2)) (W_weight w2)) (W_isClosed w2)) (W_choke w2)) (W_valveStrength w2)) (W_hasBrokenSinceTest w2)) (W_charge w2)) (W_place w2)) w2) H := hP
  refine lv_aload_n hx hb dX2_become_72 rfl (lv_at hl 0 rfl) ?_
  refine lv_aload_n hx hb dX2_become_73 rfl (lv_at hl 1 rfl) ?_
  refine gf_X2_43 fx hP 1 rfl (v := W_gas w2) rfl dX2_become_74 ?_
  refine pf_X2_43 fx hP (hD _ _) hS 0 rfl dX2_become_77 (fun H locs hP hS => ?_)
  have hP : va_P D vwCl (cTwo h h2 kr q (W_set_gas (W_set_place (W_set_charge (W_set_hasBrokenSinceTest (W_set_valveStrength (W_set_choke (W_set_isClosed (W_set_weight (W_set_shoe (W_set_depth w (W_depth w2)) (W_shoe w2)) (W_weight w2)) (W_isClosed w2)) (W_choke w2)) (W_valveStrength w2)) (W_hasBrokenSinceTest w2)) (W_charge w2)) (W_place w2)) (W_gas w2)) w2) H := hP
  refine lv_aload_n hx hb dX2_become_80 rfl (lv_at hl 0 rfl) ?_
  refine lv_aload_n hx hb dX2_become_81 rfl (lv_at hl 1 rfl) ?_
  refine gf_X2_46 fx hP 1 rfl (v := W_liquid w2) rfl dX2_become_82 ?_
  refine pf_X2_46 fx hP (hD _ _) hS 0 rfl dX2_become_85 (fun H locs hP hS => ?_)
  have hP : va_P D vwCl (cTwo h h2 kr q (W_set_liquid (W_set_gas (W_set_place (W_set_charge (W_set_hasBrokenSinceTest (W_set_valveStrength (W_set_choke (W_set_isClosed (W_set_weight (W_set_shoe (W_set_depth w (W_depth w2)) (W_shoe w2)) (W_weight w2)) (W_isClosed w2)) (W_choke w2)) (W_valveStrength w2)) (W_hasBrokenSinceTest w2)) (W_charge w2)) (W_place w2)) (W_gas w2)) (W_liquid w2)) w2) H := hP
  refine lv_aload_n hx hb dX2_become_88 rfl (lv_at hl 0 rfl) ?_
  refine lv_aload_n hx hb dX2_become_89 rfl (lv_at hl 1 rfl) ?_
  refine gf_X2_49 fx hP 1 rfl (v := W_vented w2) rfl dX2_become_90 ?_
  refine pf_X2_49 fx hP (hD _ _) hS 0 rfl dX2_become_93 (fun H locs hP hS => ?_)
  have hP : va_P D vwCl (cTwo h h2 kr q (W_set_vented (W_set_liquid (W_set_gas (W_set_place (W_set_charge (W_set_hasBrokenSinceTest (W_set_valveStrength (W_set_choke (W_set_isClosed (W_set_weight (W_set_shoe (W_set_depth w (W_depth w2)) (W_shoe w2)) (W_weight w2)) (W_isClosed w2)) (W_choke w2)) (W_valveStrength w2)) (W_hasBrokenSinceTest w2)) (W_charge w2)) (W_place w2)) (W_gas w2)) (W_liquid w2)) (W_vented w2)) w2) H := hP
  refine lv_aload_n hx hb dX2_become_96 rfl (lv_at hl 0 rfl) ?_
  refine lv_aload_n hx hb dX2_become_97 rfl (lv_at hl 1 rfl) ?_
  refine gf_X2_52 fx hP 1 rfl (v := W_lost w2) rfl dX2_become_98 ?_
  refine pf_X2_52 fx hP (hD _ _) hS 0 rfl dX2_become_101 (fun H locs hP hS => ?_)
  have hP : va_P D vwCl (cTwo h h2 kr q (W_set_lost (W_set_vented (W_set_liquid (W_set_gas (W_set_place (W_set_charge (W_set_hasBrokenSinceTest (W_set_valveStrength (W_set_choke (W_set_isClosed (W_set_weight (W_set_shoe (W_set_depth w (W_depth w2)) (W_shoe w2)) (W_weight w2)) (W_isClosed w2)) (W_choke w2)) (W_valveStrength w2)) (W_hasBrokenSinceTest w2)) (W_charge w2)) (W_place w2)) (W_gas w2)) (W_liquid w2)) (W_vented w2)) (W_lost w2)) w2) H := hP
  refine lv_aload_n hx hb dX2_become_104 rfl (lv_at hl 0 rfl) ?_
  refine lv_aload_n hx hb dX2_become_105 rfl (lv_at hl 1 rfl) ?_
  refine gf_X2_55 fx hP 1 rfl (v := W_minutes w2) rfl dX2_become_106 ?_
  refine pf_X2_55 fx hP (hD _ _) hS 0 rfl dX2_become_109 (fun H locs hP hS => ?_)
  have hP : va_P D vwCl (cTwo h h2 kr q (W_set_minutes (W_set_lost (W_set_vented (W_set_liquid (W_set_gas (W_set_place (W_set_charge (W_set_hasBrokenSinceTest (W_set_valveStrength (W_set_choke (W_set_isClosed (W_set_weight (W_set_shoe (W_set_depth w (W_depth w2)) (W_shoe w2)) (W_weight w2)) (W_isClosed w2)) (W_choke w2)) (W_valveStrength w2)) (W_hasBrokenSinceTest w2)) (W_charge w2)) (W_place w2)) (W_gas w2)) (W_liquid w2)) (W_vented w2)) (W_lost w2)) (W_minutes w2)) w2) H := hP
  exact hret (W_set_minutes (W_set_lost (W_set_vented (W_set_liquid (W_set_gas (W_set_place (W_set_charge (W_set_hasBrokenSinceTest (W_set_valveStrength (W_set_choke (W_set_isClosed (W_set_weight (W_set_shoe (W_set_depth w (W_depth w2)) (W_shoe w2)) (W_weight w2)) (W_isClosed w2)) (W_choke w2)) (W_valveStrength w2)) (W_hasBrokenSinceTest w2)) (W_charge w2)) (W_place w2)) (W_gas w2)) (W_liquid w2)) (W_vented w2)) (W_lost w2)) (W_minutes w2)) _ _ _ _ dX2_become_112 (ht.trans (by simp only [f_X2_become])) hP hS

