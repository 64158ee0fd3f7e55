/-! X3_layer -/
def f_X3_layer_b54 (r : RS) : Nat × RS :=
  (2, r)

def f_X3_layer (w : WS) (r : RS) (p0 : Int32) (p1 : Int32) (p2 : Int32) (p3 : Int32) (p4 : Int32) : Nat × RS :=
  if (f_X3_isWithin p0 (0 : Int32) (49 : Int32)) = 0 then (1, r) else (if (f_X3_isWithin p1 (0 : Int32) (300 : Int32)) = 0 then (f_X3_layer_b54 r) else (if (f_X3_isWithin p2 (0 : Int32) (300 : Int32)) = 0 then (f_X3_layer_b54 r) else (if (f_X3_isWithin p3 (0 : Int32) (1000 : Int32)) = 0 then (f_X3_layer_b54 r) else (if (W_depth w) ≤ (p0 * (100 : Int32)) then (0, (f_X0_tellLayer r p0 p1 p2 p3 p4)) else (3, r)))))

abbrev RM_X3_layer : Room := { frames := 6, cells := 1, slots := 6, locals := 90 }
set_option maxRecDepth 100000 in
set_option maxHeartbeats 4000000 in
theorem c_X3_layer (l : Launch) (D : va_G) (q : Nat → ClassId) (sz : Nat) (h : Nat) (aw : Nat) (av : Nat) (kr : Nat → Nat) (kt : Nat → Nat) (x : XS) (w : WS) (v : WS) (r : RS) (t : TS) (p0 : Int32) (p1 : Int32) (p2 : Int32) (p3 : Int32) (p4 : Int32) (hstk : l.stackTraces = false) : vx_Met l yX3_layer (Cond.code yX3_layer cX3_layer 6 none :: ALL) RM_X3_layer (PX D q [.ref h, .int p0, .int p1, .int p2, .int p3, .int p4] (cKick h aw av kr kt q x w v r t) sz) (va_Qv (fun (u : RS) => f_X3_layer w r p0 p1 p2 p3 p4 = (0, u)) (fun u t9 => va_P D vwCl (cKick h aw av kr kt q x w v u t) t9.heap) (va_A (cKick h aw av kr kt q x w v r t) sz)) (XCk D (cKick h aw av kr kt q x w v r t) sz (fun k => (f_X3_layer w r p0 p1 p2 p3 p4).1 = k ∧ (k = 1 ∨ k = 2 ∨ k = 3))) 1 6 (va_A (cKick h aw av kr kt q x w v r t) sz) := by
  refine en_xv hstk rfl (by decide +kernel) (Nat.le_of_ble_eq_true rfl) ⟨Nat.le_of_ble_eq_true rfl, Nat.le_of_ble_eq_true rfl, rfl, rfl⟩ ?_
  intro p e s m args below meth c Q A H locs ls fx hD0 hA hP hS hl hret hthr
  have hx := fx.1
  have hb := fx.2.1
  have hl : lv_has ls 6 [(0, .ref h), (1, .int p0), (2, .int p1), (3, .int p2), (4, .int p3), (5, .int p4)] := hl
  have hD : ∀ (x9 : XS) (w9 : WS) (v9 : WS) (r9 : RS) (t9 : TS), va_D _ (cKick h aw av kr kt q x9 w9 v9 r9 t9) := fun _ _ _ _ _ => D_same ((fst_Kick _ _ _ _ _ _ _ _ _ _ _).trans (fst_Kick _ _ _ _ _ _ _ _ _ _ _).symm) hD0
  have ht : f_X3_layer w r p0 p1 p2 p3 p4 = f_X3_layer w r p0 p1 p2 p3 p4 := rfl
  refine lv_iload_n hx hb dX3_layer_0 rfl (lv_at hl 1 rfl) ?_
  refine lv_iconst (v := 0) hx hb dX3_layer_1 (by decide) ?_
  refine lv_bipush (v := 49) hx hb dX3_layer_2 (by decide) ?_
  refine kR_i (runS fx (As := [.int p0, .int (0 : Int32), .int (49 : Int32)]) (rest := []) (c_X3_isWithin l D q H.size p0 (0 : Int32) (49 : Int32)) lk_X3_39 ⟨Nat.le_of_ble_eq_true rfl, Nat.le_of_ble_eq_true rfl⟩ ⟨rfl, rfl⟩ hP (hD _ _ _ _ _) [] rfl rfl rfl hl.1 rfl (Nat.le_of_ble_eq_true rfl) dX3_layer_4 ⟨Nat.zero_le _, Nat.zero_le _⟩) hP hS (fun r1 _ H locs hr2 hP hS => ?_)
  obtain ⟨rfl, hz3⟩ := hr2
  refine lv_if_ne (tgt := 20) hx hb dX3_layer_7 (by decide) (fun c4 => ?_) (fun c4 => ?_)
  · refine lv_iload_n hx hb dX3_layer_20 rfl (lv_at hl 2 rfl) ?_
    refine lv_iconst (v := 0) hx hb dX3_layer_21 (by decide) ?_
    refine lv_sipush (v := 300) hx hb dX3_layer_22 (by decide) ?_
    refine kR_i (runS fx (As := [.int p1, .int (0 : Int32), .int (300 : Int32)]) (rest := []) (c_X3_isWithin l D q H.size p1 (0 : Int32) (300 : Int32)) lk_X3_39 ⟨Nat.le_of_ble_eq_true rfl, Nat.le_of_ble_eq_true rfl⟩ ⟨rfl, rfl⟩ hP (hD _ _ _ _ _) [] rfl rfl rfl hl.1 rfl (Nat.le_of_ble_eq_true rfl) dX3_layer_25 ⟨Nat.zero_le _, Nat.zero_le _⟩) hP hS (fun r5 _ H locs hr6 hP hS => ?_)
    obtain ⟨rfl, hz7⟩ := hr6
    have K54 : ∀ (H : Heap) (locs : List Loc) (ls : Array Slot), f_X3_layer w r p0 p1 p2 p3 p4 = f_X3_layer_b54 r → va_P D vwCl (cKick h aw av kr kt q x w v r t) H → va_S A s.heap H locs → lv_has ls 6 [(0, .ref h)] → W p l e RM_X3_layer s m args below meth c H locs 0 0 Q (F0 m 54 ls []) := by
      intro H locs ls ht hP hS hl
      exact hthr 2 52 "pore, breaks or rate is out of range" 54 H locs ls [] (Or.inr (Or.inl rfl)) hl.1 (Nat.le_of_ble_eq_true rfl) (List.mem_of_getElem? (i := 1) rfl) ⟨dX3_layer_54, dX3_layer_57, Or.inl ⟨dX3_layer_58, dX3_layer_60, dX3_layer_63⟩⟩ ⟨congrArg Prod.fst (show f_X3_layer w r p0 p1 p2 p3 p4 = (2, r) from ht.trans (by simp only [f_X3_layer_b54])), by decide⟩ hP hS
    refine lv_if_eq (tgt := 54) hx hb dX3_layer_28 (by decide) (fun c20 => ?_) (fun c20 => ?_)
    · exact K54 H locs ls (ht.trans (by simp only [f_X3_layer, if_neg c4, if_pos c20])) hP hS (lv_sub hl [0] rfl)
    · refine lv_iload_n hx hb dX3_layer_31 rfl (lv_at hl 3 rfl) ?_
      refine lv_iconst (v := 0) hx hb dX3_layer_32 (by decide) ?_
      refine lv_sipush (v := 300) hx hb dX3_layer_33 (by decide) ?_
      refine kR_i (runS fx (As := [.int p2, .int (0 : Int32), .int (300 : Int32)]) (rest := []) (c_X3_isWithin l D q H.size p2 (0 : Int32) (300 : Int32)) lk_X3_39 ⟨Nat.le_of_ble_eq_true rfl, Nat.le_of_ble_eq_true rfl⟩ ⟨rfl, rfl⟩ hP (hD _ _ _ _ _) [] rfl rfl rfl hl.1 rfl (Nat.le_of_ble_eq_true rfl) dX3_layer_36 ⟨Nat.zero_le _, Nat.zero_le _⟩) hP hS (fun r21 _ H locs hr22 hP hS => ?_)
      obtain ⟨rfl, hz23⟩ := hr22
      refine lv_if_eq (tgt := 54) hx hb dX3_layer_39 (by decide) (fun c24 => ?_) (fun c24 => ?_)
      · exact K54 H locs ls (ht.trans (by simp only [f_X3_layer, if_neg c4, if_neg c20, if_pos c24])) hP hS (lv_sub hl [0] rfl)
      · refine lv_iload hx hb dX3_layer_42 (lv_at hl 4 rfl) ?_
        refine lv_iconst (v := 0) hx hb dX3_layer_44 (by decide) ?_
        refine lv_sipush (v := 1000) hx hb dX3_layer_45 (by decide) ?_
        refine kR_i (runS fx (As := [.int p3, .int (0 : Int32), .int (1000 : Int32)]) (rest := []) (c_X3_isWithin l D q H.size p3 (0 : Int32) (1000 : Int32)) lk_X3_39 ⟨Nat.le_of_ble_eq_true rfl, Nat.le_of_ble_eq_true rfl⟩ ⟨rfl, rfl⟩ hP (hD _ _ _ _ _) [] rfl rfl rfl hl.1 rfl (Nat.le_of_ble_eq_true rfl) dX3_layer_48 ⟨Nat.zero_le _, Nat.zero_le _⟩) hP hS (fun r25 _ H locs hr26 hP hS => ?_)
        obtain ⟨rfl, hz27⟩ := hr26
        refine lv_if_ne (tgt := 64) hx hb dX3_layer_51 (by decide) (fun c28 => ?_) (fun c28 => ?_)
        · refine lv_aload_n hx hb dX3_layer_64 rfl (lv_at hl 0 rfl) ?_
          refine gf_X3_21 fx hP 0 rfl dX3_layer_65 ?_
          refine gf_X3_55 fx hP 1 rfl (v := W_depth w) rfl dX3_layer_68 ?_
          refine lv_iload_n hx hb dX3_layer_71 rfl (lv_at hl 1 rfl) ?_
          refine lv_bipush (v := 100) hx hb dX3_layer_72 (by decide) ?_
          refine lv_imul hx hb dX3_layer_74 ?_
          refine lv_icmp_le (tgt := 88) hx hb dX3_layer_75 (by decide) (fun c29 => ?_) (fun c29 => ?_)
          · refine lv_aload_n hx hb dX3_layer_88 rfl (lv_at hl 0 rfl) ?_
            refine gf_X3_10 fx hP 0 rfl dX3_layer_89 ?_
            refine lv_iload_n hx hb dX3_layer_92 rfl (lv_at hl 1 rfl) ?_
            refine lv_iload_n hx hb dX3_layer_93 rfl (lv_at hl 2 rfl) ?_
            refine lv_iload_n hx hb dX3_layer_94 rfl (lv_at hl 3 rfl) ?_
            refine lv_iload hx hb dX3_layer_95 (lv_at hl 4 rfl) ?_
            refine lv_iload hx hb dX3_layer_97 (lv_at hl 5 rfl) ?_
            refine kW_v (runVN fx (As := [.int p0, .int p1, .int p2, .int p3, .int p4]) (rest := []) (c_X0_tellLayer l D q H.size kr r p0 p1 p2 p3 p4) lk_X3_63 ⟨Nat.le_of_ble_eq_true rfl, Nat.le_of_ble_eq_true rfl⟩ ⟨rfl, rfl⟩ hP (hD _ _ _ _ _) [3, 4, 5, 6, 7, 8] rfl rfl (ci := 0) rfl rfl rfl hl.1 rfl (Nat.le_of_ble_eq_true rfl) dX3_layer_99 ⟨Nat.zero_le _, Nat.zero_le _⟩) hP (hD _ _ _ _ _) hS hA [3, 4, 5, 6, 7, 8] rfl (fun _ => rfl) (fun u30 H locs hw31 hP hS => ?_)
            have hP : va_P D vwCl (cKick h aw av kr kt q x w v u30 t) H := hP
            exact hret u30 _ _ _ _ dX3_layer_102 (ht.trans (by first | (simp only [f_X3_layer, if_neg c4, if_neg c20, if_neg c24, if_neg c28, if_pos c29, hw31]; done) | (simp only [f_X3_layer, hw31]; simp only [if_neg c4, if_neg c20, if_neg c24, if_neg c28, if_pos c29]))) hP hS
          · exact hthr 3 60 "the layer is drilled into" 78 H locs ls [] (Or.inr (Or.inr rfl)) hl.1 (Nat.le_of_ble_eq_true rfl) (List.mem_of_getElem? (i := 2) rfl) ⟨dX3_layer_78, dX3_layer_81, Or.inl ⟨dX3_layer_82, dX3_layer_84, dX3_layer_87⟩⟩ ⟨congrArg Prod.fst (show f_X3_layer w r p0 p1 p2 p3 p4 = (3, r) from ht.trans (by simp only [f_X3_layer, if_neg c4, if_neg c20, if_neg c24, if_neg c28, if_neg c29])), by decide⟩ hP hS
        · exact K54 H locs ls (ht.trans (by simp only [f_X3_layer, if_neg c4, if_neg c20, if_neg c24, if_pos c28])) hP hS (lv_sub hl [0] rfl)
  · exact hthr 1 45 "there is no such layer" 10 H locs ls [] (Or.inl rfl) hl.1 (Nat.le_of_ble_eq_true rfl) (List.mem_of_getElem? (i := 0) rfl) ⟨dX3_layer_10, dX3_layer_13, Or.inl ⟨dX3_layer_14, dX3_layer_16, dX3_layer_19⟩⟩ ⟨congrArg Prod.fst (show f_X3_layer w r p0 p1 p2 p3 p4 = (1, r) from ht.trans (by simp only [f_X3_layer, if_pos c4])), by decide⟩ hP hS

/-! X3_mud -/
def f_X3_mud (x : XS) (w : WS) (p0 : Int32) : Nat × Int32 × XS × WS :=
  if (f_X3_isWithin p0 (0 : Int32) (300 : Int32)) = 0 then (2, 0, x, w) else (if (W_isClosed w) = 0 then (0, W_weight w, X_set_pumped x (0 : Int32), W_set_weight w p0) else (3, 0, x, w))

abbrev RM_X3_mud : Room := { frames := 6, cells := 1, slots := 6, locals := 90 }
set_option maxRecDepth 100000 in
set_option maxHeartbeats 4000000 in
theorem c_X3_mud (l : Launch) (D : va_G) (q : Nat → ClassId) (sz : Nat) (h : Nat) (aw : Nat) (av : Nat) (kr : Nat → Nat) (kt : Nat → Nat) (x : XS) (w : WS) (v : WS) (r : RS) (t : TS) (p0 : Int32) (hstk : l.stackTraces = false) : vx_Met l yX3_mud (Cond.code yX3_mud cX3_mud 3 (some .int) :: ALL) RM_X3_mud (PX D q [.ref h, .int p0] (cKick h aw av kr kt q x w v r t) sz) (va_Qi (fun (rv : Int32) (u : XS × WS) => f_X3_mud x w p0 = (0, rv, u)) (fun u t9 => va_P D vwCl (cKick h aw av kr kt q u.1 u.2 v r t) t9.heap) (va_A (cKick h aw av kr kt q x w v r t) sz)) (XCk D (cKick h aw av kr kt q x w v r t) sz (fun k => (f_X3_mud x w p0).1 = k ∧ (k = 2 ∨ k = 3))) 1 6 (va_A (cKick h aw av kr kt q x w v r t) sz) := by
  refine en_xi hstk rfl (by decide +kernel) (Nat.le_of_ble_eq_true rfl) ⟨Nat.le_of_ble_eq_true rfl, Nat.le_of_ble_eq_true rfl, rfl, rfl⟩ ?_
  intro p e s m args below meth c Q A H locs ls fx hD0 hA hP hS hl hret hthr
  have hx := fx.1
  have hb := fx.2.1
  have hl : lv_has ls 3 [(0, .ref h), (1, .int p0)] := hl
  have hD : ∀ (x9 : XS) (w9 : WS) (v9 : WS) (r9 : RS) (t9 : TS), va_D _ (cKick h aw av kr kt q x9 w9 v9 r9 t9) := fun _ _ _ _ _ => D_same ((fst_Kick _ _ _ _ _ _ _ _ _ _ _).trans (fst_Kick _ _ _ _ _ _ _ _ _ _ _).symm) hD0
  have ht : f_X3_mud x w p0 = f_X3_mud x w p0 := rfl
  refine lv_iload_n hx hb dX3_mud_0 rfl (lv_at hl 1 rfl) ?_
  refine lv_iconst (v := 0) hx hb dX3_mud_1 (by decide) ?_
  refine lv_sipush (v := 300) hx hb dX3_mud_2 (by decide) ?_
  refine kR_i (runS fx (As := [.int p0, .int (0 : Int32), .int (300 : Int32)]) (rest := []) (c_X3_isWithin l D q H.size p0 (0 : Int32) (300 : Int32)) lk_X3_39 ⟨Nat.le_of_ble_eq_true rfl, Nat.le_of_ble_eq_true rfl⟩ ⟨rfl, rfl⟩ hP (hD _ _ _ _ _) [] rfl rfl rfl hl.1 rfl (Nat.le_of_ble_eq_true rfl) dX3_mud_5 ⟨Nat.zero_le _, Nat.zero_le _⟩) hP hS (fun r1 _ H locs hr2 hP hS => ?_)
  obtain ⟨rfl, hz3⟩ := hr2
  refine lv_if_ne (tgt := 21) hx hb dX3_mud_8 (by decide) (fun c4 => ?_) (fun c4 => ?_)
  · refine lv_aload_n hx hb dX3_mud_21 rfl (lv_at hl 0 rfl) ?_
    refine gf_X3_21 fx hP 0 rfl dX3_mud_22 ?_
    refine gf_X3_69 fx hP 1 rfl (v := W_isClosed w) rfl dX3_mud_25 ?_
    refine lv_if_eq (tgt := 41) hx hb dX3_mud_28 (by decide) (fun c5 => ?_) (fun c5 => ?_)
    · refine lv_aload_n hx hb dX3_mud_41 rfl (lv_at hl 0 rfl) ?_
      refine gf_X3_21 fx hP 0 rfl dX3_mud_42 ?_
      refine gf_X3_75 fx hP 1 rfl (v := W_weight w) rfl dX3_mud_45 ?_
      refine lv_istore_n (lv' := [(2, .int (W_weight w)), (0, .ref h), (1, .int p0)]) hx hb dX3_mud_48 rfl hl (by decide) rfl (fun ls hl => ?_)
      refine lv_aload_n hx hb dX3_mud_49 rfl (lv_at hl 1 rfl) ?_
      refine gf_X3_21 fx hP 0 rfl dX3_mud_50 ?_
      refine lv_iload_n hx hb dX3_mud_53 rfl (lv_at hl 2 rfl) ?_
      refine pf_X3_75 fx hP (hD _ _ _ _ _) hS 1 rfl dX3_mud_54 (fun H locs hP hS => ?_)
      have hP : va_P D vwCl (cKick h aw av kr kt q x (W_set_weight w p0) v r t) H := hP
      refine lv_aload_n hx hb dX3_mud_57 rfl (lv_at hl 1 rfl) ?_
      refine lv_iconst (v := 0) hx hb dX3_mud_58 (by decide) ?_
      refine pf_X3_78 fx hP (hD _ _ _ _ _) hS 0 rfl dX3_mud_59 (fun H locs hP hS => ?_)
      have hP : va_P D vwCl (cKick h aw av kr kt q (X_set_pumped x (0 : Int32)) (W_set_weight w p0) v r t) H := hP
      refine lv_iload_n hx hb dX3_mud_62 rfl (lv_at hl 0 rfl) ?_
      exact hret (W_weight w) (X_set_pumped x (0 : Int32), W_set_weight w p0) _ _ _ _ dX3_mud_63 (ht.trans (by simp only [f_X3_mud, if_neg c4, if_pos c5])) hP hS
    · exact hthr 3 73 "the well is closed" 31 H locs ls [] (Or.inr (Or.inr rfl)) hl.1 (Nat.le_of_ble_eq_true rfl) (List.mem_of_getElem? (i := 4) rfl) ⟨dX3_mud_31, dX3_mud_34, Or.inl ⟨dX3_mud_35, dX3_mud_37, dX3_mud_40⟩⟩ ⟨congrArg Prod.fst (show f_X3_mud x w p0 = (3, 0, x, w) from ht.trans (by simp only [f_X3_mud, if_neg c4, if_neg c5])), by decide⟩ hP hS
  · exact hthr 2 67 "weight is out of range" 11 H locs ls [] (Or.inr (Or.inl rfl)) hl.1 (Nat.le_of_ble_eq_true rfl) (List.mem_of_getElem? (i := 3) rfl) ⟨dX3_mud_11, dX3_mud_14, Or.inl ⟨dX3_mud_15, dX3_mud_17, dX3_mud_20⟩⟩ ⟨congrArg Prod.fst (show f_X3_mud x w p0 = (2, 0, x, w) from ht.trans (by simp only [f_X3_mud, if_pos c4])), by decide⟩ hP hS

/-! X3_drill -/
def f_X3_drill_b51 (w : WS) : Nat × Int32 × WS :=
  (3, 0, w)

def f_X3_drill_L63 (r : RS) (p0 : Int32) : Nat → Int32 → WS → Nat × Int32 × WS
  | 0, i53, w54 => (0, 0, w54)
  | n + 1, i53, w54 => if p0 < i53 then (0, p0, w54) else (if (f_X2_letMinuteGo (W_set_depth w54 ((W_depth w54) + (1 : Int32))) r (0 : Int32)).1 = 0 then (f_X3_drill_L63 r p0 n (i53 + (1 : Int32)) ((f_X2_letMinuteGo (W_set_depth w54 ((W_depth w54) + (1 : Int32))) r (0 : Int32)).2)) else (0, i53, ((f_X2_letMinuteGo (W_set_depth w54 ((W_depth w54) + (1 : Int32))) r (0 : Int32)).2)))

def ok_X3_drill_L63 (r : RS) (p0 : Int32) : Nat → Int32 → WS → Prop
  | 0, _, _ => False
  | n + 1, i53, w54 => (p0 < i53 → True) ∧ (¬ p0 < i53 → (((f_X2_letMinuteGo (W_set_depth w54 ((W_depth w54) + (1 : Int32))) r (0 : Int32)).1 = 0 → (ok_X3_drill_L63 r p0 n (i53 + (1 : Int32)) ((f_X2_letMinuteGo (W_set_depth w54 ((W_depth w54) + (1 : Int32))) r (0 : Int32)).2))) ∧ (¬ (f_X2_letMinuteGo (W_set_depth w54 ((W_depth w54) + (1 : Int32))) r (0 : Int32)).1 = 0 → True)))

def f_X3_drill (N : Nat) (x : XS) (w : WS) (r : RS) (t : TS) (p0 : Int32) : Nat × Int32 × WS :=
  if (f_X3_isWithin p0 (1 : Int32) (500 : Int32)) = 0 then (2, 0, w) else (if (f_X3_bars x w r t) = 0 then (if (5000 : Int32) < ((W_depth w) + p0) then (f_X3_drill_b51 w) else (if (f_X3_hasMinutes w p0) = 0 then (f_X3_drill_b51 w) else (f_X3_drill_L63 r p0 N (1 : Int32) w))) else (f_X3_drill_b51 w))

def ok_X3_drill (N : Nat) (x : XS) (w : WS) (r : RS) (t : TS) (p0 : Int32) : Prop :=
  ((f_X3_isWithin p0 (1 : Int32) (500 : Int32)) = 0 → True) ∧ (¬ (f_X3_isWithin p0 (1 : Int32) (500 : Int32)) = 0 → (((f_X3_bars x w r t) = 0 → (((5000 : Int32) < ((W_depth w) + p0) → True) ∧ (¬ (5000 : Int32) < ((W_depth w) + p0) → (((f_X3_hasMinutes w p0) = 0 → True) ∧ (¬ (f_X3_hasMinutes w p0) = 0 → (ok_X3_drill_L63 r p0 N (1 : Int32) w)))))) ∧ (¬ (f_X3_bars x w r t) = 0 → True)))

abbrev RM_X3_drill : Room := { frames := 6, cells := 1, slots := 6, locals := 124 }
set_option maxRecDepth 100000 in
set_option maxHeartbeats 4000000 in
theorem c_X3_drill (l : Launch) (D : va_G) (q : Nat → ClassId) (sz : Nat) (h : Nat) (aw : Nat) (av : Nat) (kr : Nat → Nat) (kt : Nat → Nat) (x : XS) (w : WS) (v : WS) (r : RS) (t : TS) (p0 : Int32) (N : Nat) (hok : ok_X3_drill N x w r t p0) (hstk : l.stackTraces = false) : vx_Met l yX3_drill (Cond.code yX3_drill cX3_drill 3 (some .int) :: ALL) RM_X3_drill (PX D q [.ref h, .int p0] (cKick h aw av kr kt q x w v r t) sz) (va_Qi (fun (rv : Int32) (u : WS) => f_X3_drill N x w r t p0 = (0, rv, u)) (fun u t9 => va_P D vwCl (cKick h aw av kr kt q x u v r t) t9.heap) (va_A (cKick h aw av kr kt q x w v r t) sz)) (XCk D (cKick h aw av kr kt q x w v r t) sz (fun k => (f_X3_drill N x w r t p0).1 = k ∧ (k = 2 ∨ k = 3))) 1 6 (va_A (cKick h aw av kr kt q x w v r t) sz) := by
  refine en_xi hstk rfl (by decide +kernel) (Nat.le_of_ble_eq_true rfl) ⟨Nat.le_of_ble_eq_true rfl, Nat.le_of_ble_eq_true rfl, rfl, rfl⟩ ?_
  intro p e s m args below meth c Q A H locs ls fx hD0 hA hP hS hl hret hthr
  have hx := fx.1
  have hb := fx.2.1
  have hl : lv_has ls 3 [(0, .ref h), (1, .int p0)] := hl
  have hD : ∀ (x9 : XS) (w9 : WS) (v9 : WS) (r9 : RS) (t9 : TS), va_D _ (cKick h aw av kr kt q x9 w9 v9 r9 t9) := fun _ _ _ _ _ => D_same ((fst_Kick _ _ _ _ _ _ _ _ _ _ _).trans (fst_Kick _ _ _ _ _ _ _ _ _ _ _).symm) hD0
  have ht : f_X3_drill N x w r t p0 = f_X3_drill N x w r t p0 := rfl
  simp only [ok_X3_drill] at hok
  refine lv_iload_n hx hb dX3_drill_0 rfl (lv_at hl 1 rfl) ?_
  refine lv_iconst (v := 1) hx hb dX3_drill_1 (by decide) ?_
  refine lv_sipush (v := 500) hx hb dX3_drill_2 (by decide) ?_
  refine kR_i (runS fx (As := [.int p0, .int (1 : Int32), .int (500 : Int32)]) (rest := []) (c_X3_isWithin l D q H.size p0 (1 : Int32) (500 : Int32)) lk_X3_39 ⟨Nat.le_of_ble_eq_true rfl, Nat.le_of_ble_eq_true rfl⟩ ⟨rfl, rfl⟩ hP (hD _ _ _ _ _) [] rfl rfl rfl hl.1 rfl (Nat.le_of_ble_eq_true rfl) dX3_drill_5 ⟨Nat.zero_le _, Nat.zero_le _⟩) hP hS (fun r1 _ H locs hr2 hP hS => ?_)
  obtain ⟨rfl, hz3⟩ := hr2
  refine lv_if_ne (tgt := 21) hx hb dX3_drill_8 (by decide) (fun c4 => ?_) (fun c4 => ?_)
  · have hok := hok.2 c4
    refine lv_aload_n hx hb dX3_drill_21 rfl (lv_at hl 0 rfl) ?_
    refine kR_i (runV fx (As := []) (rest := []) (c_X3_bars l D q H.size h aw av kr kt x w v r t) lk_X3_83 ⟨Nat.le_of_ble_eq_true rfl, Nat.le_of_ble_eq_true rfl⟩ ⟨rfl, rfl⟩ hP (hD _ _ _ _ _) [0, 1, 2, 3, 4, 5, 6, 7, 8, 9, 10, 11, 12, 13] rfl rfl (ci := 3) rfl rfl rfl hl.1 rfl (Nat.le_of_ble_eq_true rfl) dX3_drill_22 ⟨Nat.zero_le _, Nat.zero_le _⟩) hP hS (fun r5 _ H locs hr6 hP hS => ?_)
    subst hr6
    have K51 : ∀ (H : Heap) (locs : List Loc) (ls : Array Slot), f_X3_drill N x w r t p0 = f_X3_drill_b51 w → va_P D vwCl (cKick h aw av kr kt q x w v r t) H → va_S A s.heap H locs → lv_has ls 3 [(0, .ref h)] → W p l e RM_X3_drill s m args below meth c H locs 0 0 Q (F0 m 51 ls []) := by
      intro H locs ls ht hP hS hl
      exact hthr 3 91 "drilling is barred, or would go too deep or too long" 51 H locs ls [] (Or.inr (Or.inr rfl)) hl.1 (Nat.le_of_ble_eq_true rfl) (List.mem_of_getElem? (i := 6) rfl) ⟨dX3_drill_51, dX3_drill_54, Or.inl ⟨dX3_drill_55, dX3_drill_57, dX3_drill_60⟩⟩ ⟨congrArg Prod.fst (show f_X3_drill N x w r t p0 = (3, 0, w) from ht.trans (by simp only [f_X3_drill_b51])), by decide⟩ hP hS
    refine lv_if_ne (tgt := 51) hx hb dX3_drill_25 (by decide) (fun c34 => ?_) (fun c34 => ?_)
    · have hok := hok.2 c34
      exact K51 H locs ls (ht.trans (by simp only [f_X3_drill, if_neg c4, if_neg c34])) hP hS (lv_sub hl [0] rfl)
    · have hok := hok.1 c34
      refine lv_aload_n hx hb dX3_drill_28 rfl (lv_at hl 0 rfl) ?_
      refine gf_X3_21 fx hP 0 rfl dX3_drill_29 ?_
      refine gf_X3_55 fx hP 1 rfl (v := W_depth w) rfl dX3_drill_32 ?_
      refine lv_iload_n hx hb dX3_drill_35 rfl (lv_at hl 1 rfl) ?_
      refine lv_iadd hx hb dX3_drill_36 ?_
      refine lv_sipush (v := 5000) hx hb dX3_drill_37 (by decide) ?_
      refine lv_icmp_gt (tgt := 51) hx hb dX3_drill_40 (by decide) (fun c35 => ?_) (fun c35 => ?_)
      · have hok := hok.1 c35
        exact K51 H locs ls (ht.trans (by simp only [f_X3_drill, if_neg c4, if_pos c34, if_pos c35])) hP hS (lv_sub hl [0] rfl)
      · have hok := hok.2 c35
        refine lv_aload_n hx hb dX3_drill_43 rfl (lv_at hl 0 rfl) ?_
        refine lv_iload_n hx hb dX3_drill_44 rfl (lv_at hl 1 rfl) ?_
        refine kR_i (runV fx (As := [.int p0]) (rest := []) (c_X3_hasMinutes l D q H.size h aw av kr kt x w v r t p0) lk_X3_87 ⟨Nat.le_of_ble_eq_true rfl, Nat.le_of_ble_eq_true rfl⟩ ⟨rfl, rfl⟩ hP (hD _ _ _ _ _) [0, 1, 2, 3, 4, 5, 6, 7, 8, 9, 10, 11, 12, 13] rfl rfl (ci := 3) rfl rfl rfl hl.1 rfl (Nat.le_of_ble_eq_true rfl) dX3_drill_45 ⟨Nat.zero_le _, Nat.zero_le _⟩) hP hS (fun r36 _ H locs hr37 hP hS => ?_)
        obtain ⟨rfl, hz38⟩ := hr37
        refine lv_if_ne (tgt := 61) hx hb dX3_drill_48 (by decide) (fun c39 => ?_) (fun c39 => ?_)
        · have hok := hok.2 c39
          refine lv_iconst (v := 1) hx hb dX3_drill_61 (by decide) ?_
          refine lv_istore_n (lv' := [(2, .int (1 : Int32)), (0, .ref h), (1, .int p0)]) hx hb dX3_drill_62 rfl hl (by decide) rfl (fun ls hl => ?_)
          have LP63 : ∀ (n : Nat) (i53 : Int32) (w54 : WS) (H : Heap) (locs : List Loc) (ls : Array Slot), ok_X3_drill_L63 r p0 n i53 w54 → f_X3_drill N x w r t p0 = f_X3_drill_L63 r p0 n i53 w54 → va_P D vwCl (cKick h aw av kr kt q x w54 v r t) H → va_S A s.heap H locs → lv_has ls 3 [(0, .ref h), (1, .int p0), (2, .int i53)] → W p l e RM_X3_drill s m args below meth c H locs 0 0 Q (F0 m 63 ls []) := by
            intro n
            induction n with
            | zero =>
              intro i53 w54 H locs ls hok
              exact (hok : False).elim
            | succ n ih63 =>
              intro i53 w54 H locs ls hok ht hP hS hl
              simp only [ok_X3_drill_L63] at hok
              refine lv_iload_n hx hb dX3_drill_63 rfl (lv_at hl 2 rfl) ?_
              refine lv_iload_n hx hb dX3_drill_64 rfl (lv_at hl 1 rfl) ?_
              refine lv_icmp_gt (tgt := 100) hx hb dX3_drill_65 (by decide) (fun c55 => ?_) (fun c55 => ?_)
              · have hok := hok.1 c55
                refine lv_iload_n hx hb dX3_drill_100 rfl (lv_at hl 1 rfl) ?_
                exact hret p0 w54 _ _ _ _ dX3_drill_101 (ht.trans (by simp only [f_X3_drill_L63, if_pos c55])) hP hS
              · have hok := hok.2 c55
                refine lv_aload_n hx hb dX3_drill_68 rfl (lv_at hl 0 rfl) ?_
                refine gf_X3_21 fx hP 0 rfl dX3_drill_69 ?_
                refine lv_dup hx hb dX3_drill_72 rfl ?_
                refine gf_X3_55 fx hP 1 rfl (v := W_depth w54) rfl dX3_drill_73 ?_
                refine lv_iconst (v := 1) hx hb dX3_drill_76 (by decide) ?_
                refine lv_iadd hx hb dX3_drill_77 ?_
                refine pf_X3_55 fx hP (hD _ _ _ _ _) hS 1 rfl dX3_drill_78 (fun H locs hP hS => ?_)
                have hP : va_P D vwCl (cKick h aw av kr kt q x (W_set_depth w54 ((W_depth w54) + (1 : Int32))) v r t) H := hP
                refine lv_aload_n hx hb dX3_drill_81 rfl (lv_at hl 0 rfl) ?_
                refine gf_X3_21 fx hP 0 rfl dX3_drill_82 ?_
                refine lv_iconst (v := 0) hx hb dX3_drill_85 (by decide) ?_
                refine kW_i (runVN fx (As := [.int (0 : Int32)]) (rest := []) (c_X2_letMinuteGo l D q H.size aw kr (W_set_depth w54 ((W_depth w54) + (1 : Int32))) r (0 : Int32)) lk_X3_93 ⟨Nat.le_of_ble_eq_true rfl, Nat.le_of_ble_eq_true rfl⟩ ⟨rfl, rfl⟩ hP (hD _ _ _ _ _) [1, 3, 4, 5, 6, 7, 8] rfl rfl (ci := 2) rfl rfl rfl hl.1 rfl (Nat.le_of_ble_eq_true rfl) dX3_drill_86 ⟨Nat.zero_le _, Nat.zero_le _⟩) hP (hD _ _ _ _ _) hS hA [1, 3, 4, 5, 6, 7, 8] rfl (fun _ => rfl) (fun r58 u56 H locs hw57 hP hS => ?_)
                obtain ⟨hw57, hz59⟩ := hw57
                have hP : va_P D vwCl (cKick h aw av kr kt q x u56 v r t) H := hP
                try simp only [hw57] at hok
                refine lv_if_eq (tgt := 94) hx hb dX3_drill_89 (by decide) (fun c60 => ?_) (fun c60 => ?_)
                · have hok := hok.1 c60
                  refine lv_iinc (v := i53 + (1 : Int32)) (lv' := [(2, .int (i53 + (1 : Int32))), (0, .ref h), (1, .int p0)]) hx hb dX3_drill_94 hl (k := 2) rfl rfl (by decide) rfl (fun ls hl => ?_)
                  refine lv_goto (tgt := 63) hx hb dX3_drill_97 (by decide) ?_
                  exact ih63 (i53 + (1 : Int32)) u56 H locs ls hok (ht.trans (by first | (simp only [f_X3_drill_L63, if_neg c55, if_pos c60, hw57]; done) | (simp only [f_X3_drill_L63, hw57]; simp only [if_neg c55, if_pos c60]))) hP hS (lv_sub hl [1, 2, 0] rfl)
                · have hok := hok.2 c60
                  refine lv_iload_n hx hb dX3_drill_92 rfl (lv_at hl 2 rfl) ?_
                  exact hret i53 u56 _ _ _ _ dX3_drill_93 (ht.trans (by first | (simp only [f_X3_drill_L63, if_neg c55, if_neg c60, hw57]; done) | (simp only [f_X3_drill_L63, hw57]; simp only [if_neg c55, if_neg c60]))) hP hS
          exact LP63 N (1 : Int32) w H locs ls hok (ht.trans (by simp only [f_X3_drill, if_neg c4, if_pos c34, if_neg c35, if_neg c39])) hP hS (lv_sub hl [1, 2, 0] rfl)
        · have hok := hok.1 c39
          exact K51 H locs ls (ht.trans (by simp only [f_X3_drill, if_neg c4, if_pos c34, if_neg c35, if_pos c39])) hP hS (lv_sub hl [0] rfl)
  · have hok := hok.1 c4
    exact hthr 2 81 "metres is out of range" 11 H locs ls [] (Or.inr (Or.inl rfl)) hl.1 (Nat.le_of_ble_eq_true rfl) (List.mem_of_getElem? (i := 5) rfl) ⟨dX3_drill_11, dX3_drill_14, Or.inl ⟨dX3_drill_15, dX3_drill_17, dX3_drill_20⟩⟩ ⟨congrArg Prod.fst (show f_X3_drill N x w r t p0 = (2, 0, w) from ht.trans (by simp only [f_X3_drill, if_pos c4])), by decide⟩ hP hS

/-! X3_pass -/
def f_X3_pass (N : Nat) (w : WS) (r : RS) (p0 : Int32) : Nat × Int32 × WS :=
  if (f_X3_isWithin p0 (1 : Int32) (2000 : Int32)) = 0 then (2, 0, w) else (if (f_X3_hasMinutes w p0) = 0 then (3, 0, w) else (0, (f_X2_letMinutesGo N w r p0).1, ((f_X2_letMinutesGo N w r p0).2)))

def ok_X3_pass (N : Nat) (w : WS) (r : RS) (p0 : Int32) : Prop :=
  ((f_X3_isWithin p0 (1 : Int32) (2000 : Int32)) = 0 → True) ∧ (¬ (f_X3_isWithin p0 (1 : Int32) (2000 : Int32)) = 0 → (((f_X3_hasMinutes w p0) = 0 → True) ∧ (¬ (f_X3_hasMinutes w p0) = 0 → ((ok_X2_letMinutesGo N w r p0) ∧ True))))

abbrev RM_X3_pass : Room := { frames := 6, cells := 1, slots := 6, locals := 131 }
set_option maxRecDepth 100000 in
set_option maxHeartbeats 4000000 in
theorem c_X3_pass (l : Launch) (D : va_G) (q : Nat → ClassId) (sz : Nat) (h : Nat) (aw : Nat) (av : Nat) (kr : Nat → Nat) (kt : Nat → Nat) (x : XS) (w : WS) (v : WS) (r : RS) (t : TS) (p0 : Int32) (N : Nat) (hok : ok_X3_pass N w r p0) (hstk : l.stackTraces = false) : vx_Met l yX3_pass (Cond.code yX3_pass cX3_pass 2 (some .int) :: ALL) RM_X3_pass (PX D q [.ref h, .int p0] (cKick h aw av kr kt q x w v r t) sz) (va_Qi (fun (rv : Int32) (u : WS) => f_X3_pass N w r p0 = (0, rv, u)) (fun u t9 => va_P D vwCl (cKick h aw av kr kt q x u v r t) t9.heap) (va_A (cKick h aw av kr kt q x w v r t) sz)) (XCk D (cKick h aw av kr kt q x w v r t) sz (fun k => (f_X3_pass N w r p0).1 = k ∧ (k = 2 ∨ k = 3))) 1 6 (va_A (cKick h aw av kr kt q x w v r t) sz) := by
  refine en_xi hstk rfl (by decide +kernel) (Nat.le_of_ble_eq_true rfl) ⟨Nat.le_of_ble_eq_true rfl, Nat.le_of_ble_eq_true rfl, rfl, rfl⟩ ?_
  intro p e s m args below meth c Q A H locs ls fx hD0 hA hP hS hl hret hthr
  have hx := fx.1
  have hb := fx.2.1
  have hl : lv_has ls 2 [(0, .ref h), (1, .int p0)] := hl
  have hD : ∀ (x9 : XS) (w9 : WS) (v9 : WS) (r9 : RS) (t9 : TS), va_D _ (cKick h aw av kr kt q x9 w9 v9 r9 t9) := fun _ _ _ _ _ => D_same ((fst_Kick _ _ _ _ _ _ _ _ _ _ _).trans (fst_Kick _ _ _ _ _ _ _ _ _ _ _).symm) hD0
  have ht : f_X3_pass N w r p0 = f_X3_pass N w r p0 := rfl
  simp only [ok_X3_pass] at hok
  refine lv_iload_n hx hb dX3_pass_0 rfl (lv_at hl 1 rfl) ?_
  refine lv_iconst (v := 1) hx hb dX3_pass_1 (by decide) ?_
  refine lv_sipush (v := 2000) hx hb dX3_pass_2 (by decide) ?_
  refine kR_i (runS fx (As := [.int p0, .int (1 : Int32), .int (2000 : Int32)]) (rest := []) (c_X3_isWithin l D q H.size p0 (1 : Int32) (2000 : Int32)) lk_X3_39 ⟨Nat.le_of_ble_eq_true rfl, Nat.le_of_ble_eq_true rfl⟩ ⟨rfl, rfl⟩ hP (hD _ _ _ _ _) [] rfl rfl rfl hl.1 rfl (Nat.le_of_ble_eq_true rfl) dX3_pass_5 ⟨Nat.zero_le _, Nat.zero_le _⟩) hP hS (fun r1 _ H locs hr2 hP hS => ?_)
  obtain ⟨rfl, hz3⟩ := hr2
  refine lv_if_ne (tgt := 21) hx hb dX3_pass_8 (by decide) (fun c4 => ?_) (fun c4 => ?_)
  · have hok := hok.2 c4
    refine lv_aload_n hx hb dX3_pass_21 rfl (lv_at hl 0 rfl) ?_
    refine lv_iload_n hx hb dX3_pass_22 rfl (lv_at hl 1 rfl) ?_
    refine kR_i (runV fx (As := [.int p0]) (rest := []) (c_X3_hasMinutes l D q H.size h aw av kr kt x w v r t p0) lk_X3_87 ⟨Nat.le_of_ble_eq_true rfl, Nat.le_of_ble_eq_true rfl⟩ ⟨rfl, rfl⟩ hP (hD _ _ _ _ _) [0, 1, 2, 3, 4, 5, 6, 7, 8, 9, 10, 11, 12, 13] rfl rfl (ci := 3) rfl rfl rfl hl.1 rfl (Nat.le_of_ble_eq_true rfl) dX3_pass_23 ⟨Nat.zero_le _, Nat.zero_le _⟩) hP hS (fun r5 _ H locs hr6 hP hS => ?_)
    obtain ⟨rfl, hz7⟩ := hr6
    refine lv_if_ne (tgt := 39) hx hb dX3_pass_26 (by decide) (fun c8 => ?_) (fun c8 => ?_)
    · have hok := hok.2 c8
      refine lv_aload_n hx hb dX3_pass_39 rfl (lv_at hl 0 rfl) ?_
      refine gf_X3_21 fx hP 0 rfl dX3_pass_40 ?_
      refine lv_iload_n hx hb dX3_pass_43 rfl (lv_at hl 1 rfl) ?_
      obtain ⟨hk9, hok⟩ := hok
      refine kW_i (runVN fx (As := [.int p0]) (rest := []) (c_X2_letMinutesGo l D q H.size aw kr w r p0 N hk9) lk_X3_101 ⟨Nat.le_of_ble_eq_true rfl, Nat.le_of_ble_eq_true rfl⟩ ⟨rfl, rfl⟩ hP (hD _ _ _ _ _) [1, 3, 4, 5, 6, 7, 8] rfl rfl (ci := 2) rfl rfl rfl hl.1 rfl (Nat.le_of_ble_eq_true rfl) dX3_pass_44 ⟨Nat.zero_le _, Nat.zero_le _⟩) hP (hD _ _ _ _ _) hS hA [1, 3, 4, 5, 6, 7, 8] rfl (fun _ => rfl) (fun r12 u10 H locs hw11 hP hS => ?_)
      have hP : va_P D vwCl (cKick h aw av kr kt q x u10 v r t) H := hP
      try simp only [hw11] at hok
      exact hret r12 u10 _ _ _ _ dX3_pass_47 (ht.trans (by first | (simp only [f_X3_pass, if_neg c4, if_neg c8, hw11]; done) | (simp only [f_X3_pass, hw11]; simp only [if_neg c4, if_neg c8]))) hP hS
    · have hok := hok.1 c8
      exact hthr 3 99 "the minutes would be too many" 29 H locs ls [] (Or.inr (Or.inr rfl)) hl.1 (Nat.le_of_ble_eq_true rfl) (List.mem_of_getElem? (i := 8) rfl) ⟨dX3_pass_29, dX3_pass_32, Or.inl ⟨dX3_pass_33, dX3_pass_35, dX3_pass_38⟩⟩ ⟨congrArg Prod.fst (show f_X3_pass N w r p0 = (3, 0, w) from ht.trans (by simp only [f_X3_pass, if_neg c4, if_pos c8])), by decide⟩ hP hS
  · have hok := hok.1 c4
    exact hthr 2 97 "minutes is out of range" 11 H locs ls [] (Or.inr (Or.inl rfl)) hl.1 (Nat.le_of_ble_eq_true rfl) (List.mem_of_getElem? (i := 7) rfl) ⟨dX3_pass_11, dX3_pass_14, Or.inl ⟨dX3_pass_15, dX3_pass_17, dX3_pass_20⟩⟩ ⟨congrArg Prod.fst (show f_X3_pass N w r p0 = (2, 0, w) from ht.trans (by simp only [f_X3_pass, if_pos c4])), by decide⟩ hP hS

/-! X3_close -/
def f_X3_close (w : WS) : Nat × WS :=
  if (W_isClosed w) = 0 then (0, W_set_isClosed w (1 : Int32)) else (3, w)

abbrev RM_X3_close : Room := { frames := 6, cells := 1, slots := 6, locals := 90 }
set_option maxRecDepth 100000 in
set_option maxHeartbeats 4000000 in
theorem c_X3_close (l : Launch) (D : va_G) (q : Nat → ClassId) (sz : Nat) (h : Nat) (aw : Nat) (av : Nat) (kr : Nat → Nat) (kt : Nat → Nat) (x : XS) (w : WS) (v : WS) (r : RS) (t : TS) (hstk : l.stackTraces = false) : vx_Met l yX3_close (Cond.code yX3_close cX3_close 1 none :: ALL) RM_X3_close (PX D q [.ref h] (cKick h aw av kr kt q x w v r t) sz) (va_Qv (fun (u : WS) => f_X3_close w = (0, u)) (fun u t9 => va_P D vwCl (cKick h aw av kr kt q x u v r t) t9.heap) (va_A (cKick h aw av kr kt q x w v r t) sz)) (XCk D (cKick h aw av kr kt q x w v r t) sz (fun k => (f_X3_close w).1 = k ∧ (k = 3))) 1 6 (va_A (cKick h aw av kr kt q x w v r t) sz) := by
  refine en_xv hstk rfl (by decide +kernel) (Nat.le_of_ble_eq_true rfl) ⟨Nat.le_of_ble_eq_true rfl, Nat.le_of_ble_eq_true rfl, rfl, rfl⟩ ?_
  intro p e s m args below meth c Q A H locs ls fx hD0 hA hP hS hl hret hthr
  have hx := fx.1
  have hb := fx.2.1
  have hl : lv_has ls 1 [(0, .ref h)] := hl
  have hD : ∀ (x9 : XS) (w9 : WS) (v9 : WS) (r9 : RS) (t9 : TS), va_D _ (cKick h aw av kr kt q x9 w9 v9 r9 t9) := fun _ _ _ _ _ => D_same ((fst_Kick _ _ _ _ _ _ _ _ _ _ _).trans (fst_Kick _ _ _ _ _ _ _ _ _ _ _).symm) hD0
  have ht : f_X3_close w = f_X3_close w := rfl
  refine lv_aload_n hx hb dX3_close_0 rfl (lv_at hl 0 rfl) ?_
  refine gf_X3_21 fx hP 0 rfl dX3_close_1 ?_
  refine gf_X3_69 fx hP 1 rfl (v := W_isClosed w) rfl dX3_close_4 ?_
  refine lv_if_eq (tgt := 20) hx hb dX3_close_7 (by decide) (fun c1 => ?_) (fun c1 => ?_)
  · refine lv_aload_n hx hb dX3_close_20 rfl (lv_at hl 0 rfl) ?_
    refine gf_X3_21 fx hP 0 rfl dX3_close_21 ?_
    refine lv_iconst (v := 1) hx hb dX3_close_24 (by decide) ?_
    refine pf_X3_69 fx hP (hD _ _ _ _ _) hS 1 rfl (hz := bz1) dX3_close_25 (fun H locs hP hS => ?_)
    have hP : va_P D vwCl (cKick h aw av kr kt q x (W_set_isClosed w (1 : Int32)) v r t) H := hP
    exact hret (W_set_isClosed w (1 : Int32)) _ _ _ _ dX3_close_28 (ht.trans (by simp only [f_X3_close, if_pos c1])) hP hS
  · exact hthr 3 73 "the well is closed" 10 H locs ls [] (Or.inr (Or.inr rfl)) hl.1 (Nat.le_of_ble_eq_true rfl) (List.mem_of_getElem? (i := 4) rfl) ⟨dX3_close_10, dX3_close_13, Or.inl ⟨dX3_close_14, dX3_close_16, dX3_close_19⟩⟩ ⟨congrArg Prod.fst (show f_X3_close w = (3, w) from ht.trans (by simp only [f_X3_close, if_neg c1])), by decide⟩ hP hS

/-! X3_open -/
def f_X3_open (w : WS) : Nat × Int32 × WS :=
  if (W_isClosed w) = 0 then (3, 0, w) else (0, W_choke w, W_set_choke (W_set_isClosed w (0 : Int32)) (0 : Int32))

abbrev RM_X3_open : Room := { frames := 6, cells := 1, slots := 6, locals := 90 }
set_option maxRecDepth 100000 in
set_option maxHeartbeats 4000000 in
theorem c_X3_open (l : Launch) (D : va_G) (q : Nat → ClassId) (sz : Nat) (h : Nat) (aw : Nat) (av : Nat) (kr : Nat → Nat) (kt : Nat → Nat) (x : XS) (w : WS) (v : WS) (r : RS) (t : TS) (hstk : l.stackTraces = false) : vx_Met l yX3_open (Cond.code yX3_open cX3_open 2 (some .int) :: ALL) RM_X3_open (PX D q [.ref h] (cKick h aw av kr kt q x w v r t) sz) (va_Qi (fun (rv : Int32) (u : WS) => f_X3_open w = (0, rv, u)) (fun u t9 => va_P D vwCl (cKick h aw av kr kt q x u v r t) t9.heap) (va_A (cKick h aw av kr kt q x w v r t) sz)) (XCk D (cKick h aw av kr kt q x w v r t) sz (fun k => (f_X3_open w).1 = k ∧ (k = 3))) 1 6 (va_A (cKick h aw av kr kt q x w v r t) sz) := by
  refine en_xi hstk rfl (by decide +kernel) (Nat.le_of_ble_eq_true rfl) ⟨Nat.le_of_ble_eq_true rfl, Nat.le_of_ble_eq_true rfl, rfl, rfl⟩ ?_
  intro p e s m args below meth c Q A H locs ls fx hD0 hA hP hS hl hret hthr
  have hx := fx.1
  have hb := fx.2.1
  have hl : lv_has ls 2 [(0, .ref h)] := hl
  have hD : ∀ (x9 : XS) (w9 : WS) (v9 : WS) (r9 : RS) (t9 : TS), va_D _ (cKick h aw av kr kt q x9 w9 v9 r9 t9) := fun _ _ _ _ _ => D_same ((fst_Kick _ _ _ _ _ _ _ _ _ _ _).trans (fst_Kick _ _ _ _ _ _ _ _ _ _ _).symm) hD0
  have ht : f_X3_open w = f_X3_open w := rfl
  refine lv_aload_n hx hb dX3_open_0 rfl (lv_at hl 0 rfl) ?_
  refine gf_X3_21 fx hP 0 rfl dX3_open_1 ?_
  refine gf_X3_69 fx hP 1 rfl (v := W_isClosed w) rfl dX3_open_4 ?_
  refine lv_if_ne (tgt := 20) hx hb dX3_open_7 (by decide) (fun c1 => ?_) (fun c1 => ?_)
  · refine lv_aload_n hx hb dX3_open_20 rfl (lv_at hl 0 rfl) ?_
    refine gf_X3_21 fx hP 0 rfl dX3_open_21 ?_
    refine gf_X3_107 fx hP 1 rfl (v := W_choke w) rfl dX3_open_24 ?_
    refine lv_istore_n (lv' := [(1, .int (W_choke w)), (0, .ref h)]) hx hb dX3_open_27 rfl hl (by decide) rfl (fun ls hl => ?_)
    refine lv_aload_n hx hb dX3_open_28 rfl (lv_at hl 1 rfl) ?_
    refine gf_X3_21 fx hP 0 rfl dX3_open_29 ?_
    refine lv_iconst (v := 0) hx hb dX3_open_32 (by decide) ?_
    refine pf_X3_69 fx hP (hD _ _ _ _ _) hS 1 rfl (hz := bz0) dX3_open_33 (fun H locs hP hS => ?_)
    have hP : va_P D vwCl (cKick h aw av kr kt q x (W_set_isClosed w (0 : Int32)) v r t) H := hP
    refine lv_aload_n hx hb dX3_open_36 rfl (lv_at hl 1 rfl) ?_
    refine gf_X3_21 fx hP 0 rfl dX3_open_37 ?_
    refine lv_iconst (v := 0) hx hb dX3_open_40 (by decide) ?_
    refine pf_X3_107 fx hP (hD _ _ _ _ _) hS 1 rfl dX3_open_41 (fun H locs hP hS => ?_)
    have hP : va_P D vwCl (cKick h aw av kr kt q x (W_set_choke (W_set_isClosed w (0 : Int32)) (0 : Int32)) v r t) H := hP
    refine lv_iload_n hx hb dX3_open_44 rfl (lv_at hl 0 rfl) ?_
    exact hret (W_choke w) (W_set_choke (W_set_isClosed w (0 : Int32)) (0 : Int32)) _ _ _ _ dX3_open_45 (ht.trans (by simp only [f_X3_open, if_neg c1])) hP hS
  · exact hthr 3 105 "the well is open" 10 H locs ls [] (Or.inr (Or.inr rfl)) hl.1 (Nat.le_of_ble_eq_true rfl) (List.mem_of_getElem? (i := 9) rfl) ⟨dX3_open_10, dX3_open_13, Or.inl ⟨dX3_open_14, dX3_open_16, dX3_open_19⟩⟩ ⟨congrArg Prod.fst (show f_X3_open w = (3, 0, w) from ht.trans (by simp only [f_X3_open, if_pos c1])), by decide⟩ hP hS

/-! X3_pump -/
def f_X3_pump_b22 (x : XS) (w : WS) : Nat × Int32 × XS × WS :=
  (2, 0, x, w)

def f_X3_pump_b60 (x : XS) (w : WS) : Nat × Int32 × XS × WS :=
  (3, 0, x, w)

def f_X3_pump_L90 (r : RS) (p0 : Int32) (p1 : Int32) : Nat → Int32 → XS → WS → Nat × Int32 × XS × WS
  | 0, i225, x226, w227 => (0, 0, x226, w227)
  | n + 1, i225, x226, w227 => if p0 < i225 then (0, p0, x226, w227) else (if (W_isClosed ((f_X2_letMinuteGo w227 r (1 : Int32)).2)) = 0 then (0, i225, x226, ((f_X2_letMinuteGo w227 r (1 : Int32)).2)) else (f_X3_pump_L90 r p0 p1 n (i225 + (1 : Int32)) (f_X3_pumpOn x226 ((f_X2_letMinuteGo w227 r (1 : Int32)).2) p1).1 (f_X3_pumpOn x226 ((f_X2_letMinuteGo w227 r (1 : Int32)).2) p1).2))

def ok_X3_pump_L90 (r : RS) (p0 : Int32) (p1 : Int32) : Nat → Int32 → XS → WS → Prop
  | 0, _, _, _ => False
  | n + 1, i225, x226, w227 => (p0 < i225 → True) ∧ (¬ p0 < i225 → (((W_isClosed ((f_X2_letMinuteGo w227 r (1 : Int32)).2)) = 0 → True) ∧ (¬ (W_isClosed ((f_X2_letMinuteGo w227 r (1 : Int32)).2)) = 0 → (ok_X3_pump_L90 r p0 p1 n (i225 + (1 : Int32)) (f_X3_pumpOn x226 ((f_X2_letMinuteGo w227 r (1 : Int32)).2) p1).1 (f_X3_pumpOn x226 ((f_X2_letMinuteGo w227 r (1 : Int32)).2) p1).2))))

def f_X3_pump_b83 (N : Nat) (w : WS) (r : RS) (p0 : Int32) (p1 : Int32) (x208 : XS) : Nat × Int32 × XS × WS :=
  f_X3_pump_L90 r p0 p1 N (1 : Int32) (X_set_latestPumpedWeight x208 p1) w

def ok_X3_pump_b83 (N : Nat) (w : WS) (r : RS) (p0 : Int32) (p1 : Int32) (x208 : XS) : Prop :=
  ok_X3_pump_L90 r p0 p1 N (1 : Int32) (X_set_latestPumpedWeight x208 p1) w

def f_X3_pump (N : Nat) (x : XS) (w : WS) (r : RS) (p0 : Int32) (p1 : Int32) : Nat × Int32 × XS × WS :=
  if (f_X3_isWithin p0 (1 : Int32) (500 : Int32)) = 0 then (f_X3_pump_b22 x w) else (if (f_X3_isWithin p1 (0 : Int32) (300 : Int32)) = 0 then (f_X3_pump_b22 x w) else (if (W_isClosed w) = 0 then (f_X3_pump_b60 x w) else (if (W_depth w) = 0 then (f_X3_pump_b60 x w) else (if (f_X3_hasMinutes w p0) = 0 then (f_X3_pump_b60 x w) else (if p1 = (X_latestPumpedWeight x) then (f_X3_pump_b83 N w r p0 p1 x) else (f_X3_pump_b83 N w r p0 p1 (X_set_pumped x (0 : Int32))))))))

def ok_X3_pump (N : Nat) (x : XS) (w : WS) (r : RS) (p0 : Int32) (p1 : Int32) : Prop :=
  ((f_X3_isWithin p0 (1 : Int32) (500 : Int32)) = 0 → True) ∧ (¬ (f_X3_isWithin p0 (1 : Int32) (500 : Int32)) = 0 → (((f_X3_isWithin p1 (0 : Int32) (300 : Int32)) = 0 → True) ∧ (¬ (f_X3_isWithin p1 (0 : Int32) (300 : Int32)) = 0 → (((W_isClosed w) = 0 → True) ∧ (¬ (W_isClosed w) = 0 → (((W_depth w) = 0 → True) ∧ (¬ (W_depth w) = 0 → (((f_X3_hasMinutes w p0) = 0 → True) ∧ (¬ (f_X3_hasMinutes w p0) = 0 → ((p1 = (X_latestPumpedWeight x) → (ok_X3_pump_b83 N w r p0 p1 x)) ∧ (¬ p1 = (X_latestPumpedWeight x) → (ok_X3_pump_b83 N w r p0 p1 (X_set_pumped x (0 : Int32))))))))))))))

abbrev RM_X3_pump : Room := { frames := 6, cells := 1, slots := 6, locals := 109 }
set_option maxRecDepth 100000 in
set_option maxHeartbeats 4000000 in
theorem c_X3_pump (l : Launch) (D : va_G) (q : Nat → ClassId) (sz : Nat) (h : Nat) (aw : Nat) (av : Nat) (kr : Nat → Nat) (kt : Nat → Nat) (x : XS) (w : WS) (v : WS) (r : RS) (t : TS) (p0 : Int32) (p1 : Int32) (N : Nat) (hok : ok_X3_pump N x w r p0 p1) (hstk : l.stackTraces = false) : vx_Met l yX3_pump (Cond.code yX3_pump cX3_pump 4 (some .int) :: ALL) RM_X3_pump (PX D q [.ref h, .int p0, .int p1] (cKick h aw av kr kt q x w v r t) sz) (va_Qi (fun (rv : Int32) (u : XS × WS) => f_X3_pump N x w r p0 p1 = (0, rv, u)) (fun u t9 => va_P D vwCl (cKick h aw av kr kt q u.1 u.2 v r t) t9.heap) (va_A (cKick h aw av kr kt q x w v r t) sz)) (XCk D (cKick h aw av kr kt q x w v r t) sz (fun k => (f_X3_pump N x w r p0 p1).1 = k ∧ (k = 2 ∨ k = 3))) 1 6 (va_A (cKick h aw av kr kt q x w v r t) sz) := by
  refine en_xi hstk rfl (by decide +kernel) (Nat.le_of_ble_eq_true rfl) ⟨Nat.le_of_ble_eq_true rfl, Nat.le_of_ble_eq_true rfl, rfl, rfl⟩ ?_
  intro p e s m args below meth c Q A H locs ls fx hD0 hA hP hS hl hret hthr
  have hx := fx.1
  have hb := fx.2.1
  have hl : lv_has ls 4 [(0, .ref h), (1, .int p0), (2, .int p1)] := hl
  have hD : ∀ (x9 : XS) (w9 : WS) (v9 : WS) (r9 : RS) (t9 : TS), va_D _ (cKick h aw av kr kt q x9 w9 v9 r9 t9) := fun _ _ _ _ _ => D_same ((fst_Kick _ _ _ _ _ _ _ _ _ _ _).trans (fst_Kick _ _ _ _ _ _ _ _ _ _ _).symm) hD0
  have ht : f_X3_pump N x w r p0 p1 = f_X3_pump N x w r p0 p1 := rfl
  simp only [ok_X3_pump] at hok
  refine lv_iload_n hx hb dX3_pump_0 rfl (lv_at hl 1 rfl) ?_
  refine lv_iconst (v := 1) hx hb dX3_pump_1 (by decide) ?_
  refine lv_sipush (v := 500) hx hb dX3_pump_2 (by decide) ?_
  refine kR_i (runS fx (As := [.int p0, .int (1 : Int32), .int (500 : Int32)]) (rest := []) (c_X3_isWithin l D q H.size p0 (1 : Int32) (500 : Int32)) lk_X3_39 ⟨Nat.le_of_ble_eq_true rfl, Nat.le_of_ble_eq_true rfl⟩ ⟨rfl, rfl⟩ hP (hD _ _ _ _ _) [] rfl rfl rfl hl.1 rfl (Nat.le_of_ble_eq_true rfl) dX3_pump_5 ⟨Nat.zero_le _, Nat.zero_le _⟩) hP hS (fun r1 _ H locs hr2 hP hS => ?_)
  obtain ⟨rfl, hz3⟩ := hr2
  have K22 : ∀ (H : Heap) (locs : List Loc) (ls : Array Slot), f_X3_pump N x w r p0 p1 = f_X3_pump_b22 x w → va_P D vwCl (cKick h aw av kr kt q x w v r t) H → va_S A s.heap H locs → lv_has ls 4 [(0, .ref h)] → W p l e RM_X3_pump s m args below meth c H locs 0 0 Q (F0 m 22 ls []) := by
    intro H locs ls ht hP hS hl
    exact hthr 2 110 "minutes or weight is out of range" 22 H locs ls [] (Or.inr (Or.inl rfl)) hl.1 (Nat.le_of_ble_eq_true rfl) (List.mem_of_getElem? (i := 10) rfl) ⟨dX3_pump_22, dX3_pump_25, Or.inl ⟨dX3_pump_26, dX3_pump_28, dX3_pump_31⟩⟩ ⟨congrArg Prod.fst (show f_X3_pump N x w r p0 p1 = (2, 0, x, w) from ht.trans (by simp only [f_X3_pump_b22])), by decide⟩ hP hS
  refine lv_if_eq (tgt := 22) hx hb dX3_pump_8 (by decide) (fun c133 => ?_) (fun c133 => ?_)
  · have hok := hok.1 c133
    exact K22 H locs ls (ht.trans (by simp only [f_X3_pump, if_pos c133])) hP hS (lv_sub hl [0] rfl)
  · have hok := hok.2 c133
    refine lv_iload_n hx hb dX3_pump_11 rfl (lv_at hl 2 rfl) ?_
    refine lv_iconst (v := 0) hx hb dX3_pump_12 (by decide) ?_
    refine lv_sipush (v := 300) hx hb dX3_pump_13 (by decide) ?_
    refine kR_i (runS fx (As := [.int p1, .int (0 : Int32), .int (300 : Int32)]) (rest := []) (c_X3_isWithin l D q H.size p1 (0 : Int32) (300 : Int32)) lk_X3_39 ⟨Nat.le_of_ble_eq_true rfl, Nat.le_of_ble_eq_true rfl⟩ ⟨rfl, rfl⟩ hP (hD _ _ _ _ _) [] rfl rfl rfl hl.1 rfl (Nat.le_of_ble_eq_true rfl) dX3_pump_16 ⟨Nat.zero_le _, Nat.zero_le _⟩) hP hS (fun r134 _ H locs hr135 hP hS => ?_)
    obtain ⟨rfl, hz136⟩ := hr135
    refine lv_if_ne (tgt := 32) hx hb dX3_pump_19 (by decide) (fun c137 => ?_) (fun c137 => ?_)
    · have hok := hok.2 c137
      refine lv_aload_n hx hb dX3_pump_32 rfl (lv_at hl 0 rfl) ?_
      refine gf_X3_21 fx hP 0 rfl dX3_pump_33 ?_
      refine gf_X3_69 fx hP 1 rfl (v := W_isClosed w) rfl dX3_pump_36 ?_
      have K60 : ∀ (H : Heap) (locs : List Loc) (ls : Array Slot), f_X3_pump N x w r p0 p1 = f_X3_pump_b60 x w → va_P D vwCl (cKick h aw av kr kt q x w v r t) H → va_S A s.heap H locs → lv_has ls 4 [(0, .ref h)] → W p l e RM_X3_pump s m args below meth c H locs 0 0 Q (F0 m 60 ls []) := by
        intro H locs ls ht hP hS hl
        exact hthr 3 112 "the well is open or has no depth, or the minutes would be too many" 60 H locs ls [] (Or.inr (Or.inr rfl)) hl.1 (Nat.le_of_ble_eq_true rfl) (List.mem_of_getElem? (i := 11) rfl) ⟨dX3_pump_60, dX3_pump_63, Or.inl ⟨dX3_pump_64, dX3_pump_66, dX3_pump_69⟩⟩ ⟨congrArg Prod.fst (show f_X3_pump N x w r p0 p1 = (3, 0, x, w) from ht.trans (by simp only [f_X3_pump_b60])), by decide⟩ hP hS
      refine lv_if_eq (tgt := 60) hx hb dX3_pump_39 (by decide) (fun c200 => ?_) (fun c200 => ?_)
      · have hok := hok.1 c200
        exact K60 H locs ls (ht.trans (by simp only [f_X3_pump, if_neg c133, if_neg c137, if_pos c200])) hP hS (lv_sub hl [0] rfl)
      · have hok := hok.2 c200
        refine lv_aload_n hx hb dX3_pump_42 rfl (lv_at hl 0 rfl) ?_
        refine gf_X3_21 fx hP 0 rfl dX3_pump_43 ?_
        refine gf_X3_55 fx hP 1 rfl (v := W_depth w) rfl dX3_pump_46 ?_
        refine lv_if_eq (tgt := 60) hx hb dX3_pump_49 (by decide) (fun c201 => ?_) (fun c201 => ?_)
        · have hok := hok.1 c201
          exact K60 H locs ls (ht.trans (by simp only [f_X3_pump, if_neg c133, if_neg c137, if_neg c200, if_pos c201])) hP hS (lv_sub hl [0] rfl)
        · have hok := hok.2 c201
          refine lv_aload_n hx hb dX3_pump_52 rfl (lv_at hl 0 rfl) ?_
          refine lv_iload_n hx hb dX3_pump_53 rfl (lv_at hl 1 rfl) ?_
          refine kR_i (runV fx (As := [.int p0]) (rest := []) (c_X3_hasMinutes l D q H.size h aw av kr kt x w v r t p0) lk_X3_87 ⟨Nat.le_of_ble_eq_true rfl, Nat.le_of_ble_eq_true rfl⟩ ⟨rfl, rfl⟩ hP (hD _ _ _ _ _) [0, 1, 2, 3, 4, 5, 6, 7, 8, 9, 10, 11, 12, 13] rfl rfl (ci := 3) rfl rfl rfl hl.1 rfl (Nat.le_of_ble_eq_true rfl) dX3_pump_54 ⟨Nat.zero_le _, Nat.zero_le _⟩) hP hS (fun r202 _ H locs hr203 hP hS => ?_)
          obtain ⟨rfl, hz204⟩ := hr203
          refine lv_if_ne (tgt := 70) hx hb dX3_pump_57 (by decide) (fun c205 => ?_) (fun c205 => ?_)
          · have hok := hok.2 c205
            refine lv_iload_n hx hb dX3_pump_70 rfl (lv_at hl 2 rfl) ?_
            refine lv_aload_n hx hb dX3_pump_71 rfl (lv_at hl 0 rfl) ?_
            refine gf_X3_35 fx hP 0 rfl (v := X_latestPumpedWeight x) rfl dX3_pump_72 ?_
            have K83 : ∀ (x208 : XS) (H : Heap) (locs : List Loc) (ls : Array Slot), ok_X3_pump_b83 N w r p0 p1 x208 → f_X3_pump N x w r p0 p1 = f_X3_pump_b83 N w r p0 p1 x208 → va_P D vwCl (cKick h aw av kr kt q x208 w v r t) H → va_S A s.heap H locs → lv_has ls 4 [(0, .ref h), (1, .int p0), (2, .int p1)] → W p l e RM_X3_pump s m args below meth c H locs 0 0 Q (F0 m 83 ls []) := by
              intro x208 H locs ls hok ht hP hS hl
              simp only [ok_X3_pump_b83] at hok
              refine lv_aload_n hx hb dX3_pump_83 rfl (lv_at hl 0 rfl) ?_
              refine lv_iload_n hx hb dX3_pump_84 rfl (lv_at hl 2 rfl) ?_
              refine pf_X3_35 fx hP (hD _ _ _ _ _) hS 0 rfl dX3_pump_85 (fun H locs hP hS => ?_)
              have hP : va_P D vwCl (cKick h aw av kr kt q (X_set_latestPumpedWeight x208 p1) w v r t) H := hP
              refine lv_iconst (v := 1) hx hb dX3_pump_88 (by decide) ?_
              refine lv_istore_n (lv' := [(3, .int (1 : Int32)), (0, .ref h), (1, .int p0), (2, .int p1)]) hx hb dX3_pump_89 rfl hl (by decide) rfl (fun ls hl => ?_)
              have LP90 : ∀ (n : Nat) (i225 : Int32) (x226 : XS) (w227 : WS) (H : Heap) (locs : List Loc) (ls : Array Slot), ok_X3_pump_L90 r p0 p1 n i225 x226 w227 → f_X3_pump N x w r p0 p1 = f_X3_pump_L90 r p0 p1 n i225 x226 w227 → va_P D vwCl (cKick h aw av kr kt q x226 w227 v r t) H → va_S A s.heap H locs → lv_has ls 4 [(0, .ref h), (1, .int p0), (2, .int p1), (3, .int i225)] → W p l e RM_X3_pump s m args below meth c H locs 0 0 Q (F0 m 90 ls []) := by
                intro n
                induction n with
                | zero =>
                  intro i225 x226 w227 H locs ls hok
                  exact (hok : False).elim
                | succ n ih90 =>
                  intro i225 x226 w227 H locs ls hok ht hP hS hl
                  simp only [ok_X3_pump_L90] at hok
                  refine lv_iload_n hx hb dX3_pump_90 rfl (lv_at hl 3 rfl) ?_
                  refine lv_iload_n hx hb dX3_pump_91 rfl (lv_at hl 1 rfl) ?_
                  refine lv_icmp_gt (tgt := 127) hx hb dX3_pump_92 (by decide) (fun c228 => ?_) (fun c228 => ?_)
                  · have hok := hok.1 c228
                    refine lv_iload_n hx hb dX3_pump_127 rfl (lv_at hl 1 rfl) ?_
                    exact hret p0 (x226, w227) _ _ _ _ dX3_pump_128 (ht.trans (by simp only [f_X3_pump_L90, if_pos c228])) hP hS
                  · have hok := hok.2 c228
                    refine lv_aload_n hx hb dX3_pump_95 rfl (lv_at hl 0 rfl) ?_
                    refine gf_X3_21 fx hP 0 rfl dX3_pump_96 ?_
                    refine lv_iconst (v := 1) hx hb dX3_pump_99 (by decide) ?_
                    refine kW_i (runVN fx (As := [.int (1 : Int32)]) (rest := []) (c_X2_letMinuteGo l D q H.size aw kr w227 r (1 : Int32)) lk_X3_93 ⟨Nat.le_of_ble_eq_true rfl, Nat.le_of_ble_eq_true rfl⟩ ⟨rfl, rfl⟩ hP (hD _ _ _ _ _) [1, 3, 4, 5, 6, 7, 8] rfl rfl (ci := 2) rfl rfl rfl hl.1 rfl (Nat.le_of_ble_eq_true rfl) dX3_pump_100 ⟨Nat.zero_le _, Nat.zero_le _⟩) hP (hD _ _ _ _ _) hS hA [1, 3, 4, 5, 6, 7, 8] rfl (fun _ => rfl) (fun r231 u229 H locs hw230 hP hS => ?_)
                    obtain ⟨hw230, hz232⟩ := hw230
                    have hP : va_P D vwCl (cKick h aw av kr kt q x226 u229 v r t) H := hP
                    try simp only [hw230] at hok
                    refine lv_pop hx hb dX3_pump_103 rfl ?_
                    refine lv_aload_n hx hb dX3_pump_104 rfl (lv_at hl 0 rfl) ?_
                    refine gf_X3_21 fx hP 0 rfl dX3_pump_105 ?_
                    refine gf_X3_69 fx hP 1 rfl (v := W_isClosed u229) rfl dX3_pump_108 ?_
                    refine lv_if_ne (tgt := 116) hx hb dX3_pump_111 (by decide) (fun c233 => ?_) (fun c233 => ?_)
                    · have hok := hok.2 c233
                      refine lv_aload_n hx hb dX3_pump_116 rfl (lv_at hl 0 rfl) ?_
                      refine lv_iload_n hx hb dX3_pump_117 rfl (lv_at hl 2 rfl) ?_
                      refine kW_v (runV fx (As := [.int p1]) (rest := []) (c_X3_pumpOn l D q H.size h aw av kr kt x226 u229 v r t p1) lk_X3_114 ⟨Nat.le_of_ble_eq_true rfl, Nat.le_of_ble_eq_true rfl⟩ ⟨rfl, rfl⟩ hP (hD _ _ _ _ _) [0, 1, 2, 3, 4, 5, 6, 7, 8, 9, 10, 11, 12, 13] rfl rfl (ci := 3) rfl rfl rfl hl.1 rfl (Nat.le_of_ble_eq_true rfl) dX3_pump_118 ⟨Nat.zero_le _, Nat.zero_le _⟩) hP (hD _ _ _ _ _) hS hA [0, 1, 2, 3, 4, 5, 6, 7, 8, 9, 10, 11, 12, 13] rfl (fun _ => rfl) (fun u234 H locs hw235 hP hS => ?_)
                      have hP : va_P D vwCl (cKick h aw av kr kt q u234.1 u234.2 v r t) H := hP
                      try simp only [hw235] at hok
                      refine lv_iinc (v := i225 + (1 : Int32)) (lv' := [(3, .int (i225 + (1 : Int32))), (0, .ref h), (1, .int p0), (2, .int p1)]) hx hb dX3_pump_121 hl (k := 3) rfl rfl (by decide) rfl (fun ls hl => ?_)
                      refine lv_goto (tgt := 90) hx hb dX3_pump_124 (by decide) ?_
                      exact ih90 (i225 + (1 : Int32)) u234.1 u234.2 H locs ls hok (ht.trans (by first | (simp only [f_X3_pump_L90, if_neg c228, if_neg c233, hw230, hw235]; done) | (simp only [f_X3_pump_L90, hw230, hw235]; simp only [if_neg c228, if_neg c233]))) hP hS (lv_sub hl [1, 2, 3, 0] rfl)
                    · have hok := hok.1 c233
                      refine lv_iload_n hx hb dX3_pump_114 rfl (lv_at hl 3 rfl) ?_
                      exact hret i225 (x226, u229) _ _ _ _ dX3_pump_115 (ht.trans (by first | (simp only [f_X3_pump_L90, if_neg c228, if_pos c233, hw230]; done) | (simp only [f_X3_pump_L90, hw230]; simp only [if_neg c228, if_pos c233]))) hP hS
              exact LP90 N (1 : Int32) (X_set_latestPumpedWeight x208 p1) w H locs ls hok (ht.trans (by simp only [f_X3_pump_b83])) hP hS (lv_sub hl [1, 2, 3, 0] rfl)
            refine lv_icmp_eq (tgt := 83) hx hb dX3_pump_75 (by decide) (fun c207 => ?_) (fun c207 => ?_)
            · have hok := hok.1 c207
              exact K83 x H locs ls hok (ht.trans (by simp only [f_X3_pump, if_neg c133, if_neg c137, if_neg c200, if_neg c201, if_neg c205, if_pos c207])) hP hS (lv_sub hl [0, 1, 2] rfl)
            · have hok := hok.2 c207
              refine lv_aload_n hx hb dX3_pump_78 rfl (lv_at hl 0 rfl) ?_
              refine lv_iconst (v := 0) hx hb dX3_pump_79 (by decide) ?_
              refine pf_X3_78 fx hP (hD _ _ _ _ _) hS 0 rfl dX3_pump_80 (fun H locs hP hS => ?_)
              have hP : va_P D vwCl (cKick h aw av kr kt q (X_set_pumped x (0 : Int32)) w v r t) H := hP
              exact K83 (X_set_pumped x (0 : Int32)) H locs ls hok (ht.trans (by simp only [f_X3_pump, if_neg c133, if_neg c137, if_neg c200, if_neg c201, if_neg c205, if_neg c207])) hP hS (lv_sub hl [0, 1, 2] rfl)
          · have hok := hok.1 c205
            exact K60 H locs ls (ht.trans (by simp only [f_X3_pump, if_neg c133, if_neg c137, if_neg c200, if_neg c201, if_pos c205])) hP hS (lv_sub hl [0] rfl)
    · have hok := hok.1 c137
      exact K22 H locs ls (ht.trans (by simp only [f_X3_pump, if_neg c133, if_pos c137])) hP hS (lv_sub hl [0] rfl)

/-! X3_casing -/
def f_X3_casing_b51 (x : XS) (w : WS) (t : TS) : Nat × Int32 × XS × WS × TS :=
  (3, 0, x, w, t)

def f_X3_casing (x : XS) (w : WS) (t : TS) (p0 : Int32) : Nat × Int32 × XS × WS × TS :=
  if (f_X3_isWithin p0 (0 : Int32) (1000 : Int32)) = 0 then (2, 0, x, w, t) else (if ((W_depth w) - (W_shoe w)) ≤ 0 then (f_X3_casing_b51 x w t) else (if (f_X2_hasInflow w) = 0 then (0, ((1000 : Int32) * p0) / ((W_depth w) - (W_shoe w)), X_set_cement x (((1000 : Int32) * p0) / ((W_depth w) - (W_shoe w))), W_set_shoe w (W_depth w), T_set_latestOfCement t (-1 : Int32)) else (f_X3_casing_b51 x w t)))

abbrev RM_X3_casing : Room := { frames := 6, cells := 1, slots := 6, locals := 90 }
set_option maxRecDepth 100000 in
set_option maxHeartbeats 4000000 in
theorem c_X3_casing (l : Launch) (D : va_G) (q : Nat → ClassId) (sz : Nat) (h : Nat) (aw : Nat) (av : Nat) (kr : Nat → Nat) (kt : Nat → Nat) (x : XS) (w : WS) (v : WS) (r : RS) (t : TS) (p0 : Int32) (hstk : l.stackTraces = false) : vx_Met l yX3_casing (Cond.code yX3_casing cX3_casing 3 (some .int) :: ALL) RM_X3_casing (PX D q [.ref h, .int p0] (cKick h aw av kr kt q x w v r t) sz) (va_Qi (fun (rv : Int32) (u : XS × WS × TS) => f_X3_casing x w t p0 = (0, rv, u)) (fun u t9 => va_P D vwCl (cKick h aw av kr kt q u.1 u.2.1 v r u.2.2) t9.heap) (va_A (cKick h aw av kr kt q x w v r t) sz)) (XCk D (cKick h aw av kr kt q x w v r t) sz (fun k => (f_X3_casing x w t p0).1 = k ∧ (k = 2 ∨ k = 3))) 1 6 (va_A (cKick h aw av kr kt q x w v r t) sz) := by
  refine en_xi hstk rfl (by decide +kernel) (Nat.le_of_ble_eq_true rfl) ⟨Nat.le_of_ble_eq_true rfl, Nat.le_of_ble_eq_true rfl, rfl, rfl⟩ ?_
  intro p e s m args below meth c Q A H locs ls fx hD0 hA hP hS hl hret hthr
  have hx := fx.1
  have hb := fx.2.1
  have hl : lv_has ls 3 [(0, .ref h), (1, .int p0)] := hl
  have hD : ∀ (x9 : XS) (w9 : WS) (v9 : WS) (r9 : RS) (t9 : TS), va_D _ (cKick h aw av kr kt q x9 w9 v9 r9 t9) := fun _ _ _ _ _ => D_same ((fst_Kick _ _ _ _ _ _ _ _ _ _ _).trans (fst_Kick _ _ _ _ _ _ _ _ _ _ _).symm) hD0
  have ht : f_X3_casing x w t p0 = f_X3_casing x w t p0 := rfl
  refine lv_iload_n hx hb dX3_casing_0 rfl (lv_at hl 1 rfl) ?_
  refine lv_iconst (v := 0) hx hb dX3_casing_1 (by decide) ?_
  refine lv_sipush (v := 1000) hx hb dX3_casing_2 (by decide) ?_
  refine kR_i (runS fx (As := [.int p0, .int (0 : Int32), .int (1000 : Int32)]) (rest := []) (c_X3_isWithin l D q H.size p0 (0 : Int32) (1000 : Int32)) lk_X3_39 ⟨Nat.le_of_ble_eq_true rfl, Nat.le_of_ble_eq_true rfl⟩ ⟨rfl, rfl⟩ hP (hD _ _ _ _ _) [] rfl rfl rfl hl.1 rfl (Nat.le_of_ble_eq_true rfl) dX3_casing_5 ⟨Nat.zero_le _, Nat.zero_le _⟩) hP hS (fun r1 _ H locs hr2 hP hS => ?_)
  obtain ⟨rfl, hz3⟩ := hr2
  refine lv_if_ne (tgt := 21) hx hb dX3_casing_8 (by decide) (fun c4 => ?_) (fun c4 => ?_)
  · refine lv_aload_n hx hb dX3_casing_21 rfl (lv_at hl 0 rfl) ?_
    refine gf_X3_21 fx hP 0 rfl dX3_casing_22 ?_
    refine gf_X3_55 fx hP 1 rfl (v := W_depth w) rfl dX3_casing_25 ?_
    refine lv_aload_n hx hb dX3_casing_28 rfl (lv_at hl 0 rfl) ?_
    refine gf_X3_21 fx hP 0 rfl dX3_casing_29 ?_
    refine gf_X3_123 fx hP 1 rfl (v := W_shoe w) rfl dX3_casing_32 ?_
    refine lv_isub hx hb dX3_casing_35 ?_
    refine lv_istore_n (lv' := [(2, .int ((W_depth w) - (W_shoe w))), (0, .ref h), (1, .int p0)]) hx hb dX3_casing_36 rfl hl (by decide) rfl (fun ls hl => ?_)
    refine lv_iload_n hx hb dX3_casing_37 rfl (lv_at hl 0 rfl) ?_
    have K51 : ∀ (H : Heap) (locs : List Loc) (ls : Array Slot), f_X3_casing x w t p0 = f_X3_casing_b51 x w t → va_P D vwCl (cKick h aw av kr kt q x w v r t) H → va_S A s.heap H locs → lv_has ls 3 [(0, .ref h)] → W p l e RM_X3_casing s m args below meth c H locs 0 0 Q (F0 m 51 ls []) := by
      intro H locs ls ht hP hS hl
      exact hthr 3 130 "the depth is the shoe, or there is gas or liquid" 51 H locs ls [] (Or.inr (Or.inr rfl)) hl.1 (Nat.le_of_ble_eq_true rfl) (List.mem_of_getElem? (i := 13) rfl) ⟨dX3_casing_51, dX3_casing_54, Or.inl ⟨dX3_casing_55, dX3_casing_57, dX3_casing_60⟩⟩ ⟨congrArg Prod.fst (show f_X3_casing x w t p0 = (3, 0, x, w, t) from ht.trans (by simp only [f_X3_casing_b51])), by decide⟩ hP hS
    refine lv_if_le (tgt := 51) hx hb dX3_casing_38 (by decide) (fun c10 => ?_) (fun c10 => ?_)
    · exact K51 H locs ls (ht.trans (by simp only [f_X3_casing, if_neg c4, if_pos c10])) hP hS (lv_sub hl [1] rfl)
    · refine lv_aload_n hx hb dX3_casing_41 rfl (lv_at hl 1 rfl) ?_
      refine gf_X3_21 fx hP 0 rfl dX3_casing_42 ?_
      refine kR_i (runVN fx (As := []) (rest := []) (c_X2_hasInflow l D q H.size aw kr w r) lk_X3_126 ⟨Nat.le_of_ble_eq_true rfl, Nat.le_of_ble_eq_true rfl⟩ ⟨rfl, rfl⟩ hP (hD _ _ _ _ _) [1, 3, 4, 5, 6, 7, 8] rfl rfl (ci := 2) rfl rfl rfl hl.1 rfl (Nat.le_of_ble_eq_true rfl) dX3_casing_45 ⟨Nat.zero_le _, Nat.zero_le _⟩) hP hS (fun r11 _ H locs hr12 hP hS => ?_)
      obtain ⟨rfl, hz13⟩ := hr12
      refine lv_if_eq (tgt := 61) hx hb dX3_casing_48 (by decide) (fun c14 => ?_) (fun c14 => ?_)
      · refine lv_aload_n hx hb dX3_casing_61 rfl (lv_at hl 1 rfl) ?_
        refine lv_sipush (v := 1000) hx hb dX3_casing_62 (by decide) ?_
        refine lv_iload_n hx hb dX3_casing_65 rfl (lv_at hl 2 rfl) ?_
        refine lv_imul hx hb dX3_casing_66 ?_
        refine lv_iload_n hx hb dX3_casing_67 rfl (lv_at hl 0 rfl) ?_
        refine lv_idiv hx hb dX3_casing_68 (fun h9 => c10 (by rw [h9]; decide)) ?_
        refine pf_X3_132 fx hP (hD _ _ _ _ _) hS 0 rfl dX3_casing_69 (fun H locs hP hS => ?_)
        have hP : va_P D vwCl (cKick h aw av kr kt q (X_set_cement x (((1000 : Int32) * p0) / ((W_depth w) - (W_shoe w)))) w v r t) H := hP
        refine lv_aload_n hx hb dX3_casing_72 rfl (lv_at hl 1 rfl) ?_
        refine gf_X3_21 fx hP 0 rfl dX3_casing_73 ?_
        refine lv_aload_n hx hb dX3_casing_76 rfl (lv_at hl 1 rfl) ?_
        refine gf_X3_21 fx hP 0 rfl dX3_casing_77 ?_
        refine gf_X3_55 fx hP 1 rfl (v := W_depth w) rfl dX3_casing_80 ?_
        refine pf_X3_123 fx hP (hD _ _ _ _ _) hS 1 rfl dX3_casing_83 (fun H locs hP hS => ?_)
        have hP : va_P D vwCl (cKick h aw av kr kt q (X_set_cement x (((1000 : Int32) * p0) / ((W_depth w) - (W_shoe w)))) (W_set_shoe w (W_depth w)) v r t) H := hP
        refine lv_aload_n hx hb dX3_casing_86 rfl (lv_at hl 1 rfl) ?_
        refine gf_X3_31 fx hP 0 rfl dX3_casing_87 ?_
        refine lv_iconst (v := -1) hx hb dX3_casing_90 (by decide) ?_
        refine pf_X3_135 fx hP (hD _ _ _ _ _) hS 9 rfl dX3_casing_91 (fun H locs hP hS => ?_)
        have hP : va_P D vwCl (cKick h aw av kr kt q (X_set_cement x (((1000 : Int32) * p0) / ((W_depth w) - (W_shoe w)))) (W_set_shoe w (W_depth w)) v r (T_set_latestOfCement t (-1 : Int32))) H := hP
        refine lv_aload_n hx hb dX3_casing_94 rfl (lv_at hl 1 rfl) ?_
        refine gf_X3_132 fx hP 0 rfl (v := ((1000 : Int32) * p0) / ((W_depth w) - (W_shoe w))) (X_cement_set_cement _ _) dX3_casing_95 ?_
        exact hret (((1000 : Int32) * p0) / ((W_depth w) - (W_shoe w))) (X_set_cement x (((1000 : Int32) * p0) / ((W_depth w) - (W_shoe w))), W_set_shoe w (W_depth w), T_set_latestOfCement t (-1 : Int32)) _ _ _ _ dX3_casing_98 (ht.trans (by simp only [f_X3_casing, if_neg c4, if_neg c10, if_pos c14])) hP hS
      · exact K51 H locs ls (ht.trans (by simp only [f_X3_casing, if_neg c4, if_neg c10, if_neg c14])) hP hS (lv_sub hl [1] rfl)
  · exact hthr 2 121 "barrels is out of range" 11 H locs ls [] (Or.inr (Or.inl rfl)) hl.1 (Nat.le_of_ble_eq_true rfl) (List.mem_of_getElem? (i := 12) rfl) ⟨dX3_casing_11, dX3_casing_14, Or.inl ⟨dX3_casing_15, dX3_casing_17, dX3_casing_20⟩⟩ ⟨congrArg Prod.fst (show f_X3_casing x w t p0 = (2, 0, x, w, t) from ht.trans (by simp only [f_X3_casing, if_pos c4])), by decide⟩ hP hS

/-! X3_strength -/
def f_X3_strength (w : WS) (p0 : Int32) : Nat × Int32 × WS :=
  if (f_X3_isWithin p0 (0 : Int32) (100000 : Int32)) = 0 then (2, 0, w) else (0, W_valveStrength w, W_set_valveStrength w p0)

abbrev RM_X3_strength : Room := { frames := 6, cells := 1, slots := 6, locals := 90 }
set_option maxRecDepth 100000 in
set_option maxHeartbeats 4000000 in
theorem c_X3_strength (l : Launch) (D : va_G) (q : Nat → ClassId) (sz : Nat) (h : Nat) (aw : Nat) (av : Nat) (kr : Nat → Nat) (kt : Nat → Nat) (x : XS) (w : WS) (v : WS) (r : RS) (t : TS) (p0 : Int32) (hstk : l.stackTraces = false) : vx_Met l yX3_strength (Cond.code yX3_strength cX3_strength 3 (some .int) :: ALL) RM_X3_strength (PX D q [.ref h, .int p0] (cKick h aw av kr kt q x w v r t) sz) (va_Qi (fun (rv : Int32) (u : WS) => f_X3_strength w p0 = (0, rv, u)) (fun u t9 => va_P D vwCl (cKick h aw av kr kt q x u v r t) t9.heap) (va_A (cKick h aw av kr kt q x w v r t) sz)) (XCk D (cKick h aw av kr kt q x w v r t) sz (fun k => (f_X3_strength w p0).1 = k ∧ (k = 2))) 1 6 (va_A (cKick h aw av kr kt q x w v r t) sz) := by
  refine en_xi hstk rfl (by decide +kernel) (Nat.le_of_ble_eq_true rfl) ⟨Nat.le_of_ble_eq_true rfl, Nat.le_of_ble_eq_true rfl, rfl, rfl⟩ ?_
  intro p e s m args below meth c Q A H locs ls fx hD0 hA hP hS hl hret hthr
  have hx := fx.1
  have hb := fx.2.1
  have hl : lv_has ls 3 [(0, .ref h), (1, .int p0)] := hl
  have hD : ∀ (x9 : XS) (w9 : WS) (v9 : WS) (r9 : RS) (t9 : TS), va_D _ (cKick h aw av kr kt q x9 w9 v9 r9 t9) := fun _ _ _ _ _ => D_same ((fst_Kick _ _ _ _ _ _ _ _ _ _ _).trans (fst_Kick _ _ _ _ _ _ _ _ _ _ _).symm) hD0
  have ht : f_X3_strength w p0 = f_X3_strength w p0 := rfl
  refine lv_iload_n hx hb dX3_strength_0 rfl (lv_at hl 1 rfl) ?_
  refine lv_iconst (v := 0) hx hb dX3_strength_1 (by decide) ?_
  refine lv_ldc hx hb fx.2.2.2.1 (fx.2.2.2.2.1 _ mm_107) dX3_strength_2 ?_
  refine kR_i (runS fx (As := [.int p0, .int (0 : Int32), .int (100000 : Int32)]) (rest := []) (c_X3_isWithin l D q H.size p0 (0 : Int32) (100000 : Int32)) lk_X3_39 ⟨Nat.le_of_ble_eq_true rfl, Nat.le_of_ble_eq_true rfl⟩ ⟨rfl, rfl⟩ hP (hD _ _ _ _ _) [] rfl rfl rfl hl.1 rfl (Nat.le_of_ble_eq_true rfl) dX3_strength_4 ⟨Nat.zero_le _, Nat.zero_le _⟩) hP hS (fun r1 _ H locs hr2 hP hS => ?_)
  obtain ⟨rfl, hz3⟩ := hr2
  refine lv_if_ne (tgt := 20) hx hb dX3_strength_7 (by decide) (fun c4 => ?_) (fun c4 => ?_)
  · refine lv_aload_n hx hb dX3_strength_20 rfl (lv_at hl 0 rfl) ?_
    refine gf_X3_21 fx hP 0 rfl dX3_strength_21 ?_
    refine gf_X3_141 fx hP 1 rfl (v := W_valveStrength w) rfl dX3_strength_24 ?_
    refine lv_istore_n (lv' := [(2, .int (W_valveStrength w)), (0, .ref h), (1, .int p0)]) hx hb dX3_strength_27 rfl hl (by decide) rfl (fun ls hl => ?_)
    refine lv_aload_n hx hb dX3_strength_28 rfl (lv_at hl 1 rfl) ?_
    refine gf_X3_21 fx hP 0 rfl dX3_strength_29 ?_
    refine lv_iload_n hx hb dX3_strength_32 rfl (lv_at hl 2 rfl) ?_
    refine pf_X3_141 fx hP (hD _ _ _ _ _) hS 1 rfl dX3_strength_33 (fun H locs hP hS => ?_)
    have hP : va_P D vwCl (cKick h aw av kr kt q x (W_set_valveStrength w p0) v r t) H := hP
    refine lv_iload_n hx hb dX3_strength_36 rfl (lv_at hl 0 rfl) ?_
    exact hret (W_valveStrength w) (W_set_valveStrength w p0) _ _ _ _ dX3_strength_37 (ht.trans (by simp only [f_X3_strength, if_neg c4])) hP hS
  · exact hthr 2 139 "strength is out of range" 10 H locs ls [] (Or.inr (Or.inl rfl)) hl.1 (Nat.le_of_ble_eq_true rfl) (List.mem_of_getElem? (i := 14) rfl) ⟨dX3_strength_10, dX3_strength_13, Or.inl ⟨dX3_strength_14, dX3_strength_16, dX3_strength_19⟩⟩ ⟨congrArg Prod.fst (show f_X3_strength w p0 = (2, 0, w) from ht.trans (by simp only [f_X3_strength, if_pos c4])), by decide⟩ hP hS

