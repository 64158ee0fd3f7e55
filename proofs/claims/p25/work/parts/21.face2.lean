/-! X3_test -/
def f_X3_test_b21 (w : WS) (t : TS) : Nat × Int32 × WS × TS :=
  (2, 0, w, t)

def f_X3_test_b68 (w : WS) (t : TS) : Nat × Int32 × WS × TS :=
  (3, 0, w, t)

def f_X3_test_b78 (x : XS) (w : WS) (t : TS) (p0 : Int32) (p1 : Int32) : Nat × Int32 × WS × TS :=
  if p0 = 0 then (0, if (if p0 = 0 then W_valveStrength w else X_cement x) < p1 then (0 : Int32) else (1 : Int32), W_set_hasBrokenSinceTest w (0 : Int32), (f_X1_keep t p0 p1 (if (if p0 = 0 then W_valveStrength w else X_cement x) < p1 then (0 : Int32) else (1 : Int32)) (W_minutes w))) else (0, if (if p0 = 0 then W_valveStrength w else X_cement x) < p1 then (0 : Int32) else (1 : Int32), w, (f_X1_keep t p0 p1 (if (if p0 = 0 then W_valveStrength w else X_cement x) < p1 then (0 : Int32) else (1 : Int32)) (W_minutes w)))

def f_X3_test (x : XS) (w : WS) (t : TS) (p0 : Int32) (p1 : Int32) : Nat × Int32 × WS × TS :=
  if (f_X3_isWithin p0 (0 : Int32) (1 : Int32)) = 0 then (f_X3_test_b21 w t) else (if (f_X3_isWithin p1 (1000 : Int32) (100000 : Int32)) = 0 then (f_X3_test_b21 w t) else (if (W_isClosed w) = 0 then (if (60 : Int32) ≤ (T_count t) then (f_X3_test_b68 w t) else (if p0 = (1 : Int32) then (if (W_shoe w) = 0 then (f_X3_test_b68 w t) else (f_X3_test_b78 x w t p0 p1)) else (f_X3_test_b78 x w t p0 p1))) else (f_X3_test_b68 w t)))

abbrev RM_X3_test : Room := { frames := 6, cells := 1, slots := 6, locals := 90 }
set_option maxRecDepth 100000 in
set_option maxHeartbeats 4000000 in
theorem c_X3_test (l : Launch) (D : va_G) (q : Nat → ClassId) (sz : Nat) (h : Nat) (aw : Nat) (av : Nat) (kr : Nat → Nat) (kt : Nat → Nat) (x : XS) (w : WS) (v : WS) (r : RS) (t : TS) (p0 : Int32) (p1 : Int32) (hstk : l.stackTraces = false) : vx_Met l yX3_test (Cond.code yX3_test cX3_test 4 (some .boolean) :: ALL) RM_X3_test (PX D q [.ref h, .int p0, .int p1] (cKick h aw av kr kt q x w v r t) sz) (va_Qi (fun (rv : Int32) (u : WS × TS) => (f_X3_test x w t p0 p1 = (0, rv, u)) ∧ bz rv) (fun u t9 => va_P D vwCl (cKick h aw av kr kt q x u.1 v r u.2) t9.heap) (va_A (cKick h aw av kr kt q x w v r t) sz)) (XCk D (cKick h aw av kr kt q x w v r t) sz (fun k => (f_X3_test x w t p0 p1).1 = k ∧ (k = 2 ∨ k = 3))) 1 6 (va_A (cKick h aw av kr kt q x w v r t) sz) := by
  refine en_xz (post := fun (rv : Int32) (u : WS × TS) => f_X3_test x w t p0 p1 = (0, rv, u)) hstk rfl (by decide +kernel) (Nat.le_of_ble_eq_true rfl) ⟨Nat.le_of_ble_eq_true rfl, Nat.le_of_ble_eq_true rfl, rfl, rfl⟩ ?_
  intro p e s m args below meth c Q A H locs ls fx hD0 hA hP hS hl hret hthr
  have hx := fx.1
  have hb := fx.2.1
  have hl : lv_has ls 4 [(0, .ref h), (1, .int p0), (2, .int p1)] := hl
  have hD : ∀ (x9 : XS) (w9 : WS) (v9 : WS) (r9 : RS) (t9 : TS), va_D _ (cKick h aw av kr kt q x9 w9 v9 r9 t9) := fun _ _ _ _ _ => D_same ((fst_Kick _ _ _ _ _ _ _ _ _ _ _).trans (fst_Kick _ _ _ _ _ _ _ _ _ _ _).symm) hD0
  have ht : f_X3_test x w t p0 p1 = f_X3_test x w t p0 p1 := rfl
  refine lv_iload_n hx hb dX3_test_0 rfl (lv_at hl 1 rfl) ?_
  refine lv_iconst (v := 0) hx hb dX3_test_1 (by decide) ?_
  refine lv_iconst (v := 1) hx hb dX3_test_2 (by decide) ?_
  refine kR_i (runS fx (As := [.int p0, .int (0 : Int32), .int (1 : Int32)]) (rest := []) (c_X3_isWithin l D q H.size p0 (0 : Int32) (1 : Int32)) lk_X3_39 ⟨Nat.le_of_ble_eq_true rfl, Nat.le_of_ble_eq_true rfl⟩ ⟨rfl, rfl⟩ hP (hD _ _ _ _ _) [] rfl rfl rfl hl.1 rfl (Nat.le_of_ble_eq_true rfl) dX3_test_3 ⟨Nat.zero_le _, Nat.zero_le _⟩) hP hS (fun r1 _ H locs hr2 hP hS => ?_)
  obtain ⟨rfl, hz3⟩ := hr2
  have K21 : ∀ (H : Heap) (locs : List Loc) (ls : Array Slot), f_X3_test x w t p0 p1 = f_X3_test_b21 w t → va_P D vwCl (cKick h aw av kr kt q x w v r t) H → va_S A s.heap H locs → lv_has ls 4 [(0, .ref h)] → W p l e RM_X3_test s m args below meth c H locs 0 0 Q (F0 m 21 ls []) := by
    intro H locs ls ht hP hS hl
    exact hthr 2 144 "what or pressure is out of range" 21 H locs ls [] (Or.inr (Or.inl rfl)) hl.1 (Nat.le_of_ble_eq_true rfl) (List.mem_of_getElem? (i := 15) rfl) ⟨dX3_test_21, dX3_test_24, Or.inl ⟨dX3_test_25, dX3_test_27, dX3_test_30⟩⟩ ⟨congrArg Prod.fst (show f_X3_test x w t p0 p1 = (2, 0, w, t) from ht.trans (by simp only [f_X3_test_b21])), by decide⟩ hP hS
  refine lv_if_eq (tgt := 21) hx hb dX3_test_6 (by decide) (fun c49 => ?_) (fun c49 => ?_)
  · exact K21 H locs ls (ht.trans (by simp only [f_X3_test, if_pos c49])) hP hS (lv_sub hl [0] rfl)
  · refine lv_iload_n hx hb dX3_test_9 rfl (lv_at hl 2 rfl) ?_
    refine lv_sipush (v := 1000) hx hb dX3_test_10 (by decide) ?_
    refine lv_ldc hx hb fx.2.2.2.1 (fx.2.2.2.2.1 _ mm_107) dX3_test_13 ?_
    refine kR_i (runS fx (As := [.int p1, .int (1000 : Int32), .int (100000 : Int32)]) (rest := []) (c_X3_isWithin l D q H.size p1 (1000 : Int32) (100000 : Int32)) lk_X3_39 ⟨Nat.le_of_ble_eq_true rfl, Nat.le_of_ble_eq_true rfl⟩ ⟨rfl, rfl⟩ hP (hD _ _ _ _ _) [] rfl rfl rfl hl.1 rfl (Nat.le_of_ble_eq_true rfl) dX3_test_15 ⟨Nat.zero_le _, Nat.zero_le _⟩) hP hS (fun r50 _ H locs hr51 hP hS => ?_)
    obtain ⟨rfl, hz52⟩ := hr51
    refine lv_if_ne (tgt := 31) hx hb dX3_test_18 (by decide) (fun c53 => ?_) (fun c53 => ?_)
    · refine lv_aload_n hx hb dX3_test_31 rfl (lv_at hl 0 rfl) ?_
      refine gf_X3_21 fx hP 0 rfl dX3_test_32 ?_
      refine gf_X3_69 fx hP 1 rfl (v := W_isClosed w) rfl dX3_test_35 ?_
      have K68 : ∀ (H : Heap) (locs : List Loc) (ls : Array Slot), f_X3_test x w t p0 p1 = f_X3_test_b68 w t → va_P D vwCl (cKick h aw av kr kt q x w v r t) H → va_S A s.heap H locs → lv_has ls 4 [(0, .ref h)] → W p l e RM_X3_test s m args below meth c H locs 0 0 Q (F0 m 68 ls []) := by
        intro H locs ls ht hP hS hl
        exact hthr 3 149 "the well is closed, there were 60 tests, or there is no casing" 68 H locs ls [] (Or.inr (Or.inr rfl)) hl.1 (Nat.le_of_ble_eq_true rfl) (List.mem_of_getElem? (i := 16) rfl) ⟨dX3_test_68, dX3_test_71, Or.inl ⟨dX3_test_72, dX3_test_74, dX3_test_77⟩⟩ ⟨congrArg Prod.fst (show f_X3_test x w t p0 p1 = (3, 0, w, t) from ht.trans (by simp only [f_X3_test_b68])), by decide⟩ hP hS
      refine lv_if_ne (tgt := 68) hx hb dX3_test_38 (by decide) (fun c74 => ?_) (fun c74 => ?_)
      · exact K68 H locs ls (ht.trans (by simp only [f_X3_test, if_neg c49, if_neg c53, if_neg c74])) hP hS (lv_sub hl [0] rfl)
      · refine lv_aload_n hx hb dX3_test_41 rfl (lv_at hl 0 rfl) ?_
        refine gf_X3_31 fx hP 0 rfl dX3_test_42 ?_
        refine gf_X3_146 fx hP 9 rfl (v := T_count t) rfl dX3_test_45 ?_
        refine lv_bipush (v := 60) hx hb dX3_test_48 (by decide) ?_
        refine lv_icmp_ge (tgt := 68) hx hb dX3_test_50 (by decide) (fun c75 => ?_) (fun c75 => ?_)
        · exact K68 H locs ls (ht.trans (by simp only [f_X3_test, if_neg c49, if_neg c53, if_pos c74, if_pos c75])) hP hS (lv_sub hl [0] rfl)
        · refine lv_iload_n hx hb dX3_test_53 rfl (lv_at hl 1 rfl) ?_
          refine lv_iconst (v := 1) hx hb dX3_test_54 (by decide) ?_
          have K78 : ∀ (H : Heap) (locs : List Loc) (ls : Array Slot), f_X3_test x w t p0 p1 = f_X3_test_b78 x w t p0 p1 → va_P D vwCl (cKick h aw av kr kt q x w v r t) H → va_S A s.heap H locs → lv_has ls 4 [(0, .ref h), (1, .int p0), (2, .int p1)] → W p l e RM_X3_test s m args below meth c H locs 0 0 Q (F0 m 78 ls []) := by
            intro H locs ls ht hP hS hl
            refine lv_iload_n hx hb dX3_test_78 rfl (lv_at hl 2 rfl) ?_
            refine lv_iload_n hx hb dX3_test_79 rfl (lv_at hl 1 rfl) ?_
            suffices K : ∀ (v81 : Int32), ∀ (H : Heap) (locs : List Loc) (ls : Array Slot), v81 = (if p0 = 0 then W_valveStrength w else X_cement x) → va_P D vwCl (cKick h aw av kr kt q x w v r t) H → va_S A s.heap H locs → lv_has ls 4 [(0, .ref h), (1, .int p0), (2, .int p1)] → W p l e RM_X3_test s m args below meth c H locs 0 0 Q (F0 m 97 ls [.int v81, .int p1]) by
              refine lv_if_ne (tgt := 93) hx hb dX3_test_80 (by decide) (fun c80 => ?_) (fun c80 => ?_)
              · refine lv_aload_n hx hb dX3_test_93 rfl (lv_at hl 0 rfl) ?_
                refine gf_X3_132 fx hP 0 rfl (v := X_cement x) rfl dX3_test_94 ?_
                exact K (X_cement x) H locs ls (by simp only [if_neg c80]) hP hS (lv_sub hl [0, 1, 2] rfl)
              · refine lv_aload_n hx hb dX3_test_83 rfl (lv_at hl 0 rfl) ?_
                refine gf_X3_21 fx hP 0 rfl dX3_test_84 ?_
                refine gf_X3_141 fx hP 1 rfl (v := W_valveStrength w) rfl dX3_test_87 ?_
                refine lv_goto (tgt := 97) hx hb dX3_test_90 (by decide) ?_
                exact K (W_valveStrength w) H locs ls (by simp only [if_pos c80]) hP hS (lv_sub hl [0, 1, 2] rfl)
            intro v81 H locs ls hvv81 hP hS hl
            subst hvv81
            suffices K : ∀ (v83 : Int32), ∀ (H : Heap) (locs : List Loc) (ls : Array Slot), v83 = (if (if p0 = 0 then W_valveStrength w else X_cement x) < p1 then (0 : Int32) else (1 : Int32)) → va_P D vwCl (cKick h aw av kr kt q x w v r t) H → va_S A s.heap H locs → lv_has ls 4 [(0, .ref h), (1, .int p0), (2, .int p1)] → W p l e RM_X3_test s m args below meth c H locs 0 0 Q (F0 m 105 ls [.int v83]) by
              refine lv_icmp_gt (tgt := 104) hx hb dX3_test_97 (by decide) (fun c82 => ?_) (fun c82 => ?_)
              · refine lv_iconst (v := 0) hx hb dX3_test_104 (by decide) ?_
                exact K (0 : Int32) H locs ls (by simp only [if_pos c82]) hP hS (lv_sub hl [0, 1, 2] rfl)
              · refine lv_iconst (v := 1) hx hb dX3_test_100 (by decide) ?_
                refine lv_goto (tgt := 105) hx hb dX3_test_101 (by decide) ?_
                exact K (1 : Int32) H locs ls (by simp only [if_neg c82]) hP hS (lv_sub hl [0, 1, 2] rfl)
            intro v83 H locs ls hvv83 hP hS hl
            subst hvv83
            refine lv_istore_n (lv' := [(3, .int (if (if p0 = 0 then W_valveStrength w else X_cement x) < p1 then (0 : Int32) else (1 : Int32))), (0, .ref h), (1, .int p0), (2, .int p1)]) hx hb dX3_test_105 rfl hl (by decide) rfl (fun ls hl => ?_)
            refine lv_aload_n hx hb dX3_test_106 rfl (lv_at hl 1 rfl) ?_
            refine gf_X3_31 fx hP 0 rfl dX3_test_107 ?_
            refine lv_iload_n hx hb dX3_test_110 rfl (lv_at hl 2 rfl) ?_
            refine lv_iload_n hx hb dX3_test_111 rfl (lv_at hl 3 rfl) ?_
            refine lv_iload_n hx hb dX3_test_112 rfl (lv_at hl 0 rfl) ?_
            refine lv_aload_n hx hb dX3_test_113 rfl (lv_at hl 1 rfl) ?_
            refine gf_X3_21 fx hP 0 rfl dX3_test_114 ?_
            refine gf_X3_151 fx hP 1 rfl (v := W_minutes w) rfl dX3_test_117 ?_
            refine kW_v (runVN fx (As := [.int p0, .int p1, .int (if (if p0 = 0 then W_valveStrength w else X_cement x) < p1 then (0 : Int32) else (1 : Int32)), .int (W_minutes w)]) (rest := []) (c_X1_keep l D q H.size kt t p0 p1 (if (if p0 = 0 then W_valveStrength w else X_cement x) < p1 then (0 : Int32) else (1 : Int32)) (W_minutes w)) lk_X3_154 ⟨Nat.le_of_ble_eq_true rfl, Nat.le_of_ble_eq_true rfl⟩ ⟨rfl, rfl⟩ hP (hD _ _ _ _ _) [9, 10, 11, 12, 13] rfl rfl (ci := 1) rfl rfl rfl hl.1 rfl (Nat.le_of_ble_eq_true rfl) dX3_test_120 ⟨Nat.zero_le _, Nat.zero_le _⟩) hP (hD _ _ _ _ _) hS hA [9, 10, 11, 12, 13] rfl (fun _ => rfl) (fun u84 H locs hw85 hP hS => ?_)
            have hP : va_P D vwCl (cKick h aw av kr kt q x w v r u84) H := hP
            refine lv_iload_n hx hb dX3_test_123 rfl (lv_at hl 2 rfl) ?_
            refine lv_if_ne (tgt := 135) hx hb dX3_test_124 (by decide) (fun c86 => ?_) (fun c86 => ?_)
            · refine lv_iload_n hx hb dX3_test_135 rfl (lv_at hl 0 rfl) ?_
              exact hret (if (if p0 = 0 then W_valveStrength w else X_cement x) < p1 then (0 : Int32) else (1 : Int32)) (w, u84) _ _ _ _ dX3_test_136 (bz_ite bz0 bz1) (ht.trans (by first | (simp only [f_X3_test_b78, if_neg c86, hw85]; done) | (simp only [f_X3_test_b78, hw85]; simp only [if_neg c86]))) hP hS
            · refine lv_aload_n hx hb dX3_test_127 rfl (lv_at hl 1 rfl) ?_
              refine gf_X3_21 fx hP 0 rfl dX3_test_128 ?_
              refine lv_iconst (v := 0) hx hb dX3_test_131 (by decide) ?_
              refine pf_X3_158 fx hP (hD _ _ _ _ _) hS 1 rfl (hz := bz0) dX3_test_132 (fun H locs hP hS => ?_)
              have hP : va_P D vwCl (cKick h aw av kr kt q x (W_set_hasBrokenSinceTest w (0 : Int32)) v r u84) H := hP
              refine lv_iload_n hx hb dX3_test_135 rfl (lv_at hl 0 rfl) ?_
              exact hret (if (if p0 = 0 then W_valveStrength w else X_cement x) < p1 then (0 : Int32) else (1 : Int32)) (W_set_hasBrokenSinceTest w (0 : Int32), u84) _ _ _ _ dX3_test_136 (bz_ite bz0 bz1) (ht.trans (by first | (simp only [f_X3_test_b78, if_pos c86, hw85]; done) | (simp only [f_X3_test_b78, hw85]; simp only [if_pos c86]))) hP hS
          refine lv_icmp_ne (tgt := 78) hx hb dX3_test_55 (by decide) (fun c78 => ?_) (fun c78 => ?_)
          · exact K78 H locs ls (ht.trans (by simp only [f_X3_test, if_neg c49, if_neg c53, if_pos c74, if_neg c75, if_neg c78])) hP hS (lv_sub hl [0, 1, 2] rfl)
          · refine lv_aload_n hx hb dX3_test_58 rfl (lv_at hl 0 rfl) ?_
            refine gf_X3_21 fx hP 0 rfl dX3_test_59 ?_
            refine gf_X3_123 fx hP 1 rfl (v := W_shoe w) rfl dX3_test_62 ?_
            refine lv_if_ne (tgt := 78) hx hb dX3_test_65 (by decide) (fun c79 => ?_) (fun c79 => ?_)
            · exact K78 H locs ls (ht.trans (by simp only [f_X3_test, if_neg c49, if_neg c53, if_pos c74, if_neg c75, if_pos c78, if_neg c79])) hP hS (lv_sub hl [0, 1, 2] rfl)
            · exact K68 H locs ls (ht.trans (by simp only [f_X3_test, if_neg c49, if_neg c53, if_pos c74, if_neg c75, if_pos c78, if_pos c79])) hP hS (lv_sub hl [0] rfl)
    · exact K21 H locs ls (ht.trans (by simp only [f_X3_test, if_neg c49, if_pos c53])) hP hS (lv_sub hl [0] rfl)

/-! X3_stop -/
def f_X3_stop (x : XS) (p0 : Int32) (p1 : Int32) : Nat × Int32 × XS :=
  if (f_X3_isWithin p0 (0 : Int32) (5 : Int32)) = 0 then (1, 0, x) else (0, f_J6_bitCount_0f7a4 (if p1 = 0 then (X_stops x) &&& (((1 : Int32) <<< (p0 &&& 31)) ^^^ (-1 : Int32)) else (X_stops x) ||| ((1 : Int32) <<< (p0 &&& 31))), X_set_stops x (if p1 = 0 then (X_stops x) &&& (((1 : Int32) <<< (p0 &&& 31)) ^^^ (-1 : Int32)) else (X_stops x) ||| ((1 : Int32) <<< (p0 &&& 31))))

abbrev RM_X3_stop : Room := { frames := 6, cells := 1, slots := 6, locals := 90 }
set_option maxRecDepth 100000 in
set_option maxHeartbeats 4000000 in
theorem c_X3_stop (l : Launch) (D : va_G) (q : Nat → ClassId) (sz : Nat) (h : Nat) (aw : Nat) (av : Nat) (kr : Nat → Nat) (kt : Nat → Nat) (x : XS) (w : WS) (v : WS) (r : RS) (t : TS) (p0 : Int32) (p1 : Int32) (hstk : l.stackTraces = false) : vx_Met l yX3_stop (Cond.code yX3_stop cX3_stop 4 (some .int) :: ALL) RM_X3_stop (PX D q [.ref h, .int p0, .int p1] (cKick h aw av kr kt q x w v r t) sz) (va_Qi (fun (rv : Int32) (u : XS) => f_X3_stop x p0 p1 = (0, rv, u)) (fun u t9 => va_P D vwCl (cKick h aw av kr kt q u w v r t) t9.heap) (va_A (cKick h aw av kr kt q x w v r t) sz)) (XCk D (cKick h aw av kr kt q x w v r t) sz (fun k => (f_X3_stop x p0 p1).1 = k ∧ (k = 1))) 1 6 (va_A (cKick h aw av kr kt q x w v r t) sz) := by
  refine en_xi hstk rfl (by decide +kernel) (Nat.le_of_ble_eq_true rfl) ⟨Nat.le_of_ble_eq_true rfl, Nat.le_of_ble_eq_true rfl, rfl, rfl⟩ ?_
  intro p e s m args below meth c Q A H locs ls fx hD0 hA hP hS hl hret hthr
  have hx := fx.1
  have hb := fx.2.1
  have hl : lv_has ls 4 [(0, .ref h), (1, .int p0), (2, .int p1)] := hl
  have hD : ∀ (x9 : XS) (w9 : WS) (v9 : WS) (r9 : RS) (t9 : TS), va_D _ (cKick h aw av kr kt q x9 w9 v9 r9 t9) := fun _ _ _ _ _ => D_same ((fst_Kick _ _ _ _ _ _ _ _ _ _ _).trans (fst_Kick _ _ _ _ _ _ _ _ _ _ _).symm) hD0
  have ht : f_X3_stop x p0 p1 = f_X3_stop x p0 p1 := rfl
  refine lv_iload_n hx hb dX3_stop_0 rfl (lv_at hl 1 rfl) ?_
  refine lv_iconst (v := 0) hx hb dX3_stop_1 (by decide) ?_
  refine lv_iconst (v := 5) hx hb dX3_stop_2 (by decide) ?_
  refine kR_i (runS fx (As := [.int p0, .int (0 : Int32), .int (5 : Int32)]) (rest := []) (c_X3_isWithin l D q H.size p0 (0 : Int32) (5 : Int32)) lk_X3_39 ⟨Nat.le_of_ble_eq_true rfl, Nat.le_of_ble_eq_true rfl⟩ ⟨rfl, rfl⟩ hP (hD _ _ _ _ _) [] rfl rfl rfl hl.1 rfl (Nat.le_of_ble_eq_true rfl) dX3_stop_3 ⟨Nat.zero_le _, Nat.zero_le _⟩) hP hS (fun r1 _ H locs hr2 hP hS => ?_)
  obtain ⟨rfl, hz3⟩ := hr2
  refine lv_if_ne (tgt := 19) hx hb dX3_stop_6 (by decide) (fun c4 => ?_) (fun c4 => ?_)
  · refine lv_iconst (v := 1) hx hb dX3_stop_19 (by decide) ?_
    refine lv_iload_n hx hb dX3_stop_20 rfl (lv_at hl 1 rfl) ?_
    refine lv_ishl hx hb dX3_stop_21 ?_
    refine lv_istore_n (lv' := [(3, .int ((1 : Int32) <<< (p0 &&& 31))), (0, .ref h), (1, .int p0), (2, .int p1)]) hx hb dX3_stop_22 rfl hl (by decide) rfl (fun ls hl => ?_)
    refine lv_aload_n hx hb dX3_stop_23 rfl (lv_at hl 1 rfl) ?_
    refine lv_iload_n hx hb dX3_stop_24 rfl (lv_at hl 3 rfl) ?_
    suffices K : ∀ (v6 : Int32), ∀ (H : Heap) (locs : List Loc) (ls : Array Slot), v6 = (if p1 = 0 then (X_stops x) &&& (((1 : Int32) <<< (p0 &&& 31)) ^^^ (-1 : Int32)) else (X_stops x) ||| ((1 : Int32) <<< (p0 &&& 31))) → va_P D vwCl (cKick h aw av kr kt q x w v r t) H → va_S A s.heap H locs → lv_has ls 4 [(0, .ref h)] → W p l e RM_X3_stop s m args below meth c H locs 0 0 Q (F0 m 45 ls [.int v6, .ref h]) by
      refine lv_if_eq (tgt := 37) hx hb dX3_stop_25 (by decide) (fun c5 => ?_) (fun c5 => ?_)
      · refine lv_aload_n hx hb dX3_stop_37 rfl (lv_at hl 1 rfl) ?_
        refine gf_X3_163 fx hP 0 rfl (v := X_stops x) rfl dX3_stop_38 ?_
        refine lv_iload_n hx hb dX3_stop_41 rfl (lv_at hl 0 rfl) ?_
        refine lv_iconst (v := -1) hx hb dX3_stop_42 (by decide) ?_
        refine lv_ixor hx hb dX3_stop_43 ?_
        refine lv_iand hx hb dX3_stop_44 ?_
        exact K ((X_stops x) &&& (((1 : Int32) <<< (p0 &&& 31)) ^^^ (-1 : Int32))) H locs ls (by simp only [if_pos c5]) hP hS (lv_sub hl [1] rfl)
      · refine lv_aload_n hx hb dX3_stop_28 rfl (lv_at hl 1 rfl) ?_
        refine gf_X3_163 fx hP 0 rfl (v := X_stops x) rfl dX3_stop_29 ?_
        refine lv_iload_n hx hb dX3_stop_32 rfl (lv_at hl 0 rfl) ?_
        refine lv_ior hx hb dX3_stop_33 ?_
        refine lv_goto (tgt := 45) hx hb dX3_stop_34 (by decide) ?_
        exact K ((X_stops x) ||| ((1 : Int32) <<< (p0 &&& 31))) H locs ls (by simp only [if_neg c5]) hP hS (lv_sub hl [1] rfl)
    intro v6 H locs ls hvv6 hP hS hl
    subst hvv6
    refine pf_X3_163 fx hP (hD _ _ _ _ _) hS 0 rfl dX3_stop_45 (fun H locs hP hS => ?_)
    have hP : va_P D vwCl (cKick h aw av kr kt q (X_set_stops x (if p1 = 0 then (X_stops x) &&& (((1 : Int32) <<< (p0 &&& 31)) ^^^ (-1 : Int32)) else (X_stops x) ||| ((1 : Int32) <<< (p0 &&& 31)))) w v r t) H := hP
    refine lv_aload_n hx hb dX3_stop_48 rfl (lv_at hl 0 rfl) ?_
    refine gf_X3_163 fx hP 0 rfl (v := if p1 = 0 then (X_stops x) &&& (((1 : Int32) <<< (p0 &&& 31)) ^^^ (-1 : Int32)) else (X_stops x) ||| ((1 : Int32) <<< (p0 &&& 31))) (X_stops_set_stops _ _) dX3_stop_49 ?_
    refine kR_i (runS fx (As := [.int (if p1 = 0 then (X_stops x) &&& (((1 : Int32) <<< (p0 &&& 31)) ^^^ (-1 : Int32)) else (X_stops x) ||| ((1 : Int32) <<< (p0 &&& 31)))]) (rest := []) (c_J6_bitCount_0f7a4 l D q H.size (if p1 = 0 then (X_stops x) &&& (((1 : Int32) <<< (p0 &&& 31)) ^^^ (-1 : Int32)) else (X_stops x) ||| ((1 : Int32) <<< (p0 &&& 31)))) lk_X3_166 ⟨Nat.le_of_ble_eq_true rfl, Nat.le_of_ble_eq_true rfl⟩ ⟨rfl, rfl⟩ hP (hD _ _ _ _ _) [] rfl rfl rfl hl.1 rfl (Nat.le_of_ble_eq_true rfl) dX3_stop_52 ⟨Nat.zero_le _, Nat.zero_le _⟩) hP hS (fun r7 _ H locs hr8 hP hS => ?_)
    subst hr8
    exact hret (f_J6_bitCount_0f7a4 (if p1 = 0 then (X_stops x) &&& (((1 : Int32) <<< (p0 &&& 31)) ^^^ (-1 : Int32)) else (X_stops x) ||| ((1 : Int32) <<< (p0 &&& 31)))) (X_set_stops x (if p1 = 0 then (X_stops x) &&& (((1 : Int32) <<< (p0 &&& 31)) ^^^ (-1 : Int32)) else (X_stops x) ||| ((1 : Int32) <<< (p0 &&& 31)))) _ _ _ _ dX3_stop_55 (ht.trans (by simp only [f_X3_stop, if_neg c4])) hP hS
  · exact hthr 1 161 "there is no such person" 9 H locs ls [] (Or.inl rfl) hl.1 (Nat.le_of_ble_eq_true rfl) (List.mem_of_getElem? (i := 17) rfl) ⟨dX3_stop_9, dX3_stop_12, Or.inl ⟨dX3_stop_13, dX3_stop_15, dX3_stop_18⟩⟩ ⟨congrArg Prod.fst (show f_X3_stop x p0 p1 = (1, 0, x) from ht.trans (by simp only [f_X3_stop, if_pos c4])), by decide⟩ hP hS

/-! X3_pressure -/
def f_X3_pressure (w : WS) (r : RS) (p0 : Int32) : Nat × Int32 :=
  if p0 = (0 : Int32) then (0, f_X2_bottom w) else if p0 = (1 : Int32) then (0, f_X0_poreAt r (W_depth w)) else if p0 = (2 : Int32) then (0, f_X2_foot w) else if p0 = (3 : Int32) then (0, f_X0_breakAt r (W_shoe w)) else if p0 = (4 : Int32) then (0, W_choke w) else if p0 = (5 : Int32) then (if (f_X2_hasGas w) = 0 then (0, (0 : Int32)) else (0, f_X2_gasPressure w)) else (2, 0)

abbrev RM_X3_pressure : Room := { frames := 6, cells := 1, slots := 6, locals := 90 }
set_option maxRecDepth 100000 in
set_option maxHeartbeats 4000000 in
theorem c_X3_pressure (l : Launch) (D : va_G) (q : Nat → ClassId) (sz : Nat) (h : Nat) (aw : Nat) (av : Nat) (kr : Nat → Nat) (kt : Nat → Nat) (x : XS) (w : WS) (v : WS) (r : RS) (t : TS) (p0 : Int32) (hstk : l.stackTraces = false) : vx_Met l yX3_pressure (Cond.code yX3_pressure cX3_pressure 2 (some .int) :: ALL) RM_X3_pressure (PX D q [.ref h, .int p0] (cKick h aw av kr kt q x w v r t) sz) (va_Qi (fun (rv : Int32) (_ : Unit) => f_X3_pressure w r p0 = (0, rv)) (fun (_ : Unit) t9 => va_P D vwCl (cKick h aw av kr kt q x w v r t) t9.heap) (va_A (cKick h aw av kr kt q x w v r t) sz)) (XCk D (cKick h aw av kr kt q x w v r t) sz (fun k => (f_X3_pressure w r p0).1 = k ∧ (k = 2))) 1 6 (va_A (cKick h aw av kr kt q x w v r t) sz) := by
  refine en_xi hstk rfl (by decide +kernel) (Nat.le_of_ble_eq_true rfl) ⟨Nat.le_of_ble_eq_true rfl, Nat.le_of_ble_eq_true rfl, rfl, rfl⟩ ?_
  intro p e s m args below meth c Q A H locs ls fx hD0 hA hP hS hl hret hthr
  have hx := fx.1
  have hb := fx.2.1
  have hl : lv_has ls 2 [(0, .ref h), (1, .int p0)] := hl
  have hD : ∀ (x9 : XS) (w9 : WS) (v9 : WS) (r9 : RS) (t9 : TS), va_D _ (cKick h aw av kr kt q x9 w9 v9 r9 t9) := fun _ _ _ _ _ => D_same ((fst_Kick _ _ _ _ _ _ _ _ _ _ _).trans (fst_Kick _ _ _ _ _ _ _ _ _ _ _).symm) hD0
  have ht : f_X3_pressure w r p0 = f_X3_pressure w r p0 := rfl
  refine lv_iload_n hx hb dX3_pressure_0 rfl (lv_at hl 1 rfl) ?_
  by_cases c1 : p0 = (0 : Int32)
  · refine lv_tableIn (off := 39) (tgt := 40) hx hb dX3_pressure_1 (by rw [c1]; decide) (by rw [c1]; decide) (by rw [c1]; decide) (by decide) ?_
    refine lv_aload_n hx hb dX3_pressure_40 rfl (lv_at hl 0 rfl) ?_
    refine gf_X3_21 fx hP 0 rfl dX3_pressure_41 ?_
    refine kR_i (runVN fx (As := []) (rest := []) (c_X2_bottom l D q H.size aw kr w r) lk_X3_171 ⟨Nat.le_of_ble_eq_true rfl, Nat.le_of_ble_eq_true rfl⟩ ⟨rfl, rfl⟩ hP (hD _ _ _ _ _) [1, 3, 4, 5, 6, 7, 8] rfl rfl (ci := 2) rfl rfl rfl hl.1 rfl (Nat.le_of_ble_eq_true rfl) dX3_pressure_44 ⟨Nat.zero_le _, Nat.zero_le _⟩) hP hS (fun r2 _ H locs hr3 hP hS => ?_)
    subst hr3
    exact hret (f_X2_bottom w) () _ _ _ _ dX3_pressure_47 (ht.trans (by simp only [f_X3_pressure, if_pos c1])) hP hS
  by_cases c4 : p0 = (1 : Int32)
  · refine lv_tableIn (off := 47) (tgt := 48) hx hb dX3_pressure_1 (by rw [c4]; decide) (by rw [c4]; decide) (by rw [c4]; decide) (by decide) ?_
    refine lv_aload_n hx hb dX3_pressure_48 rfl (lv_at hl 0 rfl) ?_
    refine gf_X3_10 fx hP 0 rfl dX3_pressure_49 ?_
    refine lv_aload_n hx hb dX3_pressure_52 rfl (lv_at hl 0 rfl) ?_
    refine gf_X3_21 fx hP 0 rfl dX3_pressure_53 ?_
    refine gf_X3_55 fx hP 1 rfl (v := W_depth w) rfl dX3_pressure_56 ?_
    refine kR_i (runVN fx (As := [.int (W_depth w)]) (rest := []) (c_X0_poreAt l D q H.size kr r (W_depth w)) lk_X3_174 ⟨Nat.le_of_ble_eq_true rfl, Nat.le_of_ble_eq_true rfl⟩ ⟨rfl, rfl⟩ hP (hD _ _ _ _ _) [3, 4, 5, 6, 7, 8] rfl rfl (ci := 0) rfl rfl rfl hl.1 rfl (Nat.le_of_ble_eq_true rfl) dX3_pressure_59 ⟨Nat.zero_le _, Nat.zero_le _⟩) hP hS (fun r5 _ H locs hr6 hP hS => ?_)
    subst hr6
    exact hret (f_X0_poreAt r (W_depth w)) () _ _ _ _ dX3_pressure_62 (ht.trans (by simp only [f_X3_pressure, if_neg c1, if_pos c4])) hP hS
  by_cases c7 : p0 = (2 : Int32)
  · refine lv_tableIn (off := 62) (tgt := 63) hx hb dX3_pressure_1 (by rw [c7]; decide) (by rw [c7]; decide) (by rw [c7]; decide) (by decide) ?_
    refine lv_aload_n hx hb dX3_pressure_63 rfl (lv_at hl 0 rfl) ?_
    refine gf_X3_21 fx hP 0 rfl dX3_pressure_64 ?_
    refine kR_i (runVN fx (As := []) (rest := []) (c_X2_foot l D q H.size aw kr w r) lk_X3_177 ⟨Nat.le_of_ble_eq_true rfl, Nat.le_of_ble_eq_true rfl⟩ ⟨rfl, rfl⟩ hP (hD _ _ _ _ _) [1, 3, 4, 5, 6, 7, 8] rfl rfl (ci := 2) rfl rfl rfl hl.1 rfl (Nat.le_of_ble_eq_true rfl) dX3_pressure_67 ⟨Nat.zero_le _, Nat.zero_le _⟩) hP hS (fun r8 _ H locs hr9 hP hS => ?_)
    subst hr9
    exact hret (f_X2_foot w) () _ _ _ _ dX3_pressure_70 (ht.trans (by simp only [f_X3_pressure, if_neg c1, if_neg c4, if_pos c7])) hP hS
  by_cases c10 : p0 = (3 : Int32)
  · refine lv_tableIn (off := 70) (tgt := 71) hx hb dX3_pressure_1 (by rw [c10]; decide) (by rw [c10]; decide) (by rw [c10]; decide) (by decide) ?_
    refine lv_aload_n hx hb dX3_pressure_71 rfl (lv_at hl 0 rfl) ?_
    refine gf_X3_10 fx hP 0 rfl dX3_pressure_72 ?_
    refine lv_aload_n hx hb dX3_pressure_75 rfl (lv_at hl 0 rfl) ?_
    refine gf_X3_21 fx hP 0 rfl dX3_pressure_76 ?_
    refine gf_X3_123 fx hP 1 rfl (v := W_shoe w) rfl dX3_pressure_79 ?_
    refine kR_i (runVN fx (As := [.int (W_shoe w)]) (rest := []) (c_X0_breakAt l D q H.size kr r (W_shoe w)) lk_X3_180 ⟨Nat.le_of_ble_eq_true rfl, Nat.le_of_ble_eq_true rfl⟩ ⟨rfl, rfl⟩ hP (hD _ _ _ _ _) [3, 4, 5, 6, 7, 8] rfl rfl (ci := 0) rfl rfl rfl hl.1 rfl (Nat.le_of_ble_eq_true rfl) dX3_pressure_82 ⟨Nat.zero_le _, Nat.zero_le _⟩) hP hS (fun r11 _ H locs hr12 hP hS => ?_)
    subst hr12
    exact hret (f_X0_breakAt r (W_shoe w)) () _ _ _ _ dX3_pressure_85 (ht.trans (by simp only [f_X3_pressure, if_neg c1, if_neg c4, if_neg c7, if_pos c10])) hP hS
  by_cases c13 : p0 = (4 : Int32)
  · refine lv_tableIn (off := 85) (tgt := 86) hx hb dX3_pressure_1 (by rw [c13]; decide) (by rw [c13]; decide) (by rw [c13]; decide) (by decide) ?_
    refine lv_aload_n hx hb dX3_pressure_86 rfl (lv_at hl 0 rfl) ?_
    refine gf_X3_21 fx hP 0 rfl dX3_pressure_87 ?_
    refine gf_X3_107 fx hP 1 rfl (v := W_choke w) rfl dX3_pressure_90 ?_
    exact hret (W_choke w) () _ _ _ _ dX3_pressure_93 (ht.trans (by simp only [f_X3_pressure, if_neg c1, if_neg c4, if_neg c7, if_neg c10, if_pos c13])) hP hS
  by_cases c14 : p0 = (5 : Int32)
  · refine lv_tableIn (off := 93) (tgt := 94) hx hb dX3_pressure_1 (by rw [c14]; decide) (by rw [c14]; decide) (by rw [c14]; decide) (by decide) ?_
    refine lv_aload_n hx hb dX3_pressure_94 rfl (lv_at hl 0 rfl) ?_
    refine gf_X3_21 fx hP 0 rfl dX3_pressure_95 ?_
    refine kR_i (runVN fx (As := []) (rest := []) (c_X2_hasGas l D q H.size aw kr w r) lk_X3_183 ⟨Nat.le_of_ble_eq_true rfl, Nat.le_of_ble_eq_true rfl⟩ ⟨rfl, rfl⟩ hP (hD _ _ _ _ _) [1, 3, 4, 5, 6, 7, 8] rfl rfl (ci := 2) rfl rfl rfl hl.1 rfl (Nat.le_of_ble_eq_true rfl) dX3_pressure_98 ⟨Nat.zero_le _, Nat.zero_le _⟩) hP hS (fun r15 _ H locs hr16 hP hS => ?_)
    obtain ⟨rfl, hz17⟩ := hr16
    refine lv_if_eq (tgt := 114) hx hb dX3_pressure_101 (by decide) (fun c18 => ?_) (fun c18 => ?_)
    · refine lv_iconst (v := 0) hx hb dX3_pressure_114 (by decide) ?_
      exact hret (0 : Int32) () _ _ _ _ dX3_pressure_115 (ht.trans (by simp only [f_X3_pressure, if_neg c1, if_neg c4, if_neg c7, if_neg c10, if_neg c13, if_pos c14, if_pos c18])) hP hS
    · refine lv_aload_n hx hb dX3_pressure_104 rfl (lv_at hl 0 rfl) ?_
      refine gf_X3_21 fx hP 0 rfl dX3_pressure_105 ?_
      refine kR_i (runVN fx (As := []) (rest := []) (c_X2_gasPressure l D q H.size aw kr w r) lk_X3_186 ⟨Nat.le_of_ble_eq_true rfl, Nat.le_of_ble_eq_true rfl⟩ ⟨rfl, rfl⟩ hP (hD _ _ _ _ _) [1, 3, 4, 5, 6, 7, 8] rfl rfl (ci := 2) rfl rfl rfl hl.1 rfl (Nat.le_of_ble_eq_true rfl) dX3_pressure_108 ⟨Nat.zero_le _, Nat.zero_le _⟩) hP hS (fun r19 _ H locs hr20 hP hS => ?_)
      subst hr20
      refine lv_goto (tgt := 115) hx hb dX3_pressure_111 (by decide) ?_
      exact hret (f_X2_gasPressure w) () _ _ _ _ dX3_pressure_115 (ht.trans (by simp only [f_X3_pressure, if_neg c1, if_neg c4, if_neg c7, if_neg c10, if_neg c13, if_pos c14, if_neg c18])) hP hS
  refine lv_tableOut (tgt := 116) hx hb dX3_pressure_1 (by have e0 : p0.toInt ≠ 0 := fun h9 => c1 (Int32.toInt_inj.mp h9); have e1 : p0.toInt ≠ 1 := fun h9 => c4 (Int32.toInt_inj.mp h9); have e2 : p0.toInt ≠ 2 := fun h9 => c7 (Int32.toInt_inj.mp h9); have e3 : p0.toInt ≠ 3 := fun h9 => c10 (Int32.toInt_inj.mp h9); have e4 : p0.toInt ≠ 4 := fun h9 => c13 (Int32.toInt_inj.mp h9); have e5 : p0.toInt ≠ 5 := fun h9 => c14 (Int32.toInt_inj.mp h9); omega) (by decide) ?_
  exact hthr 2 189 "what is out of range" 116 H locs ls [] (Or.inr (Or.inl rfl)) hl.1 (Nat.le_of_ble_eq_true rfl) (List.mem_of_getElem? (i := 18) rfl) ⟨dX3_pressure_116, dX3_pressure_119, Or.inl ⟨dX3_pressure_120, dX3_pressure_122, dX3_pressure_125⟩⟩ ⟨congrArg Prod.fst (show f_X3_pressure w r p0 = (2, 0) from ht.trans (by simp only [f_X3_pressure, if_neg c1, if_neg c4, if_neg c7, if_neg c10, if_neg c13, if_neg c14])), by decide⟩ hP hS

/-! X3_of -/
def f_X3_of (x : XS) (w : WS) (p0 : Int32) : Nat × Int64 :=
  if p0 = (0 : Int32) then (0, (W_depth w).toInt64) else if p0 = (1 : Int32) then (0, (W_shoe w).toInt64) else if p0 = (2 : Int32) then (0, (W_weight w).toInt64) else if p0 = (3 : Int32) then (if (W_isClosed w) = 0 then (0, (0 : Int64)) else (0, (1 : Int64))) else if p0 = (4 : Int32) then (0, (W_minutes w).toInt64) else if p0 = (5 : Int32) then (0, (W_gas w).toInt64) else if p0 = (6 : Int32) then (if (f_X2_hasGas w) = 0 then (0, (-1 : Int64)) else (0, (W_place w).toInt64)) else if p0 = (7 : Int32) then (0, (W_liquid w).toInt64) else if p0 = (8 : Int32) then (0, W_vented w) else if p0 = (9 : Int32) then (0, (W_lost w).toInt64) else if p0 = (10 : Int32) then (0, (X_pumped x).toInt64) else if p0 = (11 : Int32) then (0, (X_cement x).toInt64) else (2, 0)

abbrev RM_X3_of : Room := { frames := 6, cells := 1, slots := 6, locals := 90 }
set_option maxRecDepth 100000 in
set_option maxHeartbeats 4000000 in
theorem c_X3_of (l : Launch) (D : va_G) (q : Nat → ClassId) (sz : Nat) (h : Nat) (aw : Nat) (av : Nat) (kr : Nat → Nat) (kt : Nat → Nat) (x : XS) (w : WS) (v : WS) (r : RS) (t : TS) (p0 : Int32) (hstk : l.stackTraces = false) : vx_Met l yX3_of (Cond.code yX3_of cX3_of 2 (some .long) :: ALL) RM_X3_of (PX D q [.ref h, .int p0] (cKick h aw av kr kt q x w v r t) sz) (va_Ql (fun (rv : Int64) (_ : Unit) => f_X3_of x w p0 = (0, rv)) (fun (_ : Unit) t9 => va_P D vwCl (cKick h aw av kr kt q x w v r t) t9.heap) (va_A (cKick h aw av kr kt q x w v r t) sz)) (XCk D (cKick h aw av kr kt q x w v r t) sz (fun k => (f_X3_of x w p0).1 = k ∧ (k = 2))) 1 6 (va_A (cKick h aw av kr kt q x w v r t) sz) := by
  refine en_xl hstk rfl (by decide +kernel) (Nat.le_of_ble_eq_true rfl) ⟨Nat.le_of_ble_eq_true rfl, Nat.le_of_ble_eq_true rfl, rfl, rfl⟩ ?_
  intro p e s m args below meth c Q A H locs ls fx hD0 hA hP hS hl hret hthr
  have hx := fx.1
  have hb := fx.2.1
  have hl : lv_has ls 2 [(0, .ref h), (1, .int p0)] := hl
  have hD : ∀ (x9 : XS) (w9 : WS) (v9 : WS) (r9 : RS) (t9 : TS), va_D _ (cKick h aw av kr kt q x9 w9 v9 r9 t9) := fun _ _ _ _ _ => D_same ((fst_Kick _ _ _ _ _ _ _ _ _ _ _).trans (fst_Kick _ _ _ _ _ _ _ _ _ _ _).symm) hD0
  have ht : f_X3_of x w p0 = f_X3_of x w p0 := rfl
  refine lv_iload_n hx hb dX3_of_0 rfl (lv_at hl 1 rfl) ?_
  by_cases c1 : p0 = (0 : Int32)
  · refine lv_tableIn (off := 63) (tgt := 64) hx hb dX3_of_1 (by rw [c1]; decide) (by rw [c1]; decide) (by rw [c1]; decide) (by decide) ?_
    refine lv_aload_n hx hb dX3_of_64 rfl (lv_at hl 0 rfl) ?_
    refine gf_X3_21 fx hP 0 rfl dX3_of_65 ?_
    refine gf_X3_55 fx hP 1 rfl (v := W_depth w) rfl dX3_of_68 ?_
    refine lv_i2l (v := (W_depth w).toInt64) hx hb dX3_of_71 rfl ?_
    exact hret ((W_depth w).toInt64) () _ _ _ _ dX3_of_72 (ht.trans (by simp only [f_X3_of, if_pos c1])) hP hS
  by_cases c2 : p0 = (1 : Int32)
  · refine lv_tableIn (off := 72) (tgt := 73) hx hb dX3_of_1 (by rw [c2]; decide) (by rw [c2]; decide) (by rw [c2]; decide) (by decide) ?_
    refine lv_aload_n hx hb dX3_of_73 rfl (lv_at hl 0 rfl) ?_
    refine gf_X3_21 fx hP 0 rfl dX3_of_74 ?_
    refine gf_X3_123 fx hP 1 rfl (v := W_shoe w) rfl dX3_of_77 ?_
    refine lv_i2l (v := (W_shoe w).toInt64) hx hb dX3_of_80 rfl ?_
    exact hret ((W_shoe w).toInt64) () _ _ _ _ dX3_of_81 (ht.trans (by simp only [f_X3_of, if_neg c1, if_pos c2])) hP hS
  by_cases c3 : p0 = (2 : Int32)
  · refine lv_tableIn (off := 81) (tgt := 82) hx hb dX3_of_1 (by rw [c3]; decide) (by rw [c3]; decide) (by rw [c3]; decide) (by decide) ?_
    refine lv_aload_n hx hb dX3_of_82 rfl (lv_at hl 0 rfl) ?_
    refine gf_X3_21 fx hP 0 rfl dX3_of_83 ?_
    refine gf_X3_75 fx hP 1 rfl (v := W_weight w) rfl dX3_of_86 ?_
    refine lv_i2l (v := (W_weight w).toInt64) hx hb dX3_of_89 rfl ?_
    exact hret ((W_weight w).toInt64) () _ _ _ _ dX3_of_90 (ht.trans (by simp only [f_X3_of, if_neg c1, if_neg c2, if_pos c3])) hP hS
  by_cases c4 : p0 = (3 : Int32)
  · refine lv_tableIn (off := 90) (tgt := 91) hx hb dX3_of_1 (by rw [c4]; decide) (by rw [c4]; decide) (by rw [c4]; decide) (by decide) ?_
    refine lv_aload_n hx hb dX3_of_91 rfl (lv_at hl 0 rfl) ?_
    refine gf_X3_21 fx hP 0 rfl dX3_of_92 ?_
    refine gf_X3_69 fx hP 1 rfl (v := W_isClosed w) rfl dX3_of_95 ?_
    refine lv_if_eq (tgt := 105) hx hb dX3_of_98 (by decide) (fun c5 => ?_) (fun c5 => ?_)
    · refine lv_lconst (v := 0) hx hb dX3_of_105 (by decide) ?_
      exact hret (0 : Int64) () _ _ _ _ dX3_of_106 (ht.trans (by simp only [f_X3_of, if_neg c1, if_neg c2, if_neg c3, if_pos c4, if_pos c5])) hP hS
    · refine lv_lconst (v := 1) hx hb dX3_of_101 (by decide) ?_
      refine lv_goto (tgt := 106) hx hb dX3_of_102 (by decide) ?_
      exact hret (1 : Int64) () _ _ _ _ dX3_of_106 (ht.trans (by simp only [f_X3_of, if_neg c1, if_neg c2, if_neg c3, if_pos c4, if_neg c5])) hP hS
  by_cases c6 : p0 = (4 : Int32)
  · refine lv_tableIn (off := 106) (tgt := 107) hx hb dX3_of_1 (by rw [c6]; decide) (by rw [c6]; decide) (by rw [c6]; decide) (by decide) ?_
    refine lv_aload_n hx hb dX3_of_107 rfl (lv_at hl 0 rfl) ?_
    refine gf_X3_21 fx hP 0 rfl dX3_of_108 ?_
    refine gf_X3_151 fx hP 1 rfl (v := W_minutes w) rfl dX3_of_111 ?_
    refine lv_i2l (v := (W_minutes w).toInt64) hx hb dX3_of_114 rfl ?_
    exact hret ((W_minutes w).toInt64) () _ _ _ _ dX3_of_115 (ht.trans (by simp only [f_X3_of, if_neg c1, if_neg c2, if_neg c3, if_neg c4, if_pos c6])) hP hS
  by_cases c7 : p0 = (5 : Int32)
  · refine lv_tableIn (off := 115) (tgt := 116) hx hb dX3_of_1 (by rw [c7]; decide) (by rw [c7]; decide) (by rw [c7]; decide) (by decide) ?_
    refine lv_aload_n hx hb dX3_of_116 rfl (lv_at hl 0 rfl) ?_
    refine gf_X3_21 fx hP 0 rfl dX3_of_117 ?_
    refine gf_X3_191 fx hP 1 rfl (v := W_gas w) rfl dX3_of_120 ?_
    refine lv_i2l (v := (W_gas w).toInt64) hx hb dX3_of_123 rfl ?_
    exact hret ((W_gas w).toInt64) () _ _ _ _ dX3_of_124 (ht.trans (by simp only [f_X3_of, if_neg c1, if_neg c2, if_neg c3, if_neg c4, if_neg c6, if_pos c7])) hP hS
  by_cases c8 : p0 = (6 : Int32)
  · refine lv_tableIn (off := 124) (tgt := 125) hx hb dX3_of_1 (by rw [c8]; decide) (by rw [c8]; decide) (by rw [c8]; decide) (by decide) ?_
    refine lv_aload_n hx hb dX3_of_125 rfl (lv_at hl 0 rfl) ?_
    refine gf_X3_21 fx hP 0 rfl dX3_of_126 ?_
    refine kR_i (runVN fx (As := []) (rest := []) (c_X2_hasGas l D q H.size aw kr w r) lk_X3_183 ⟨Nat.le_of_ble_eq_true rfl, Nat.le_of_ble_eq_true rfl⟩ ⟨rfl, rfl⟩ hP (hD _ _ _ _ _) [1, 3, 4, 5, 6, 7, 8] rfl rfl (ci := 2) rfl rfl rfl hl.1 rfl (Nat.le_of_ble_eq_true rfl) dX3_of_129 ⟨Nat.zero_le _, Nat.zero_le _⟩) hP hS (fun r9 _ H locs hr10 hP hS => ?_)
    obtain ⟨rfl, hz11⟩ := hr10
    refine lv_if_eq (tgt := 146) hx hb dX3_of_132 (by decide) (fun c12 => ?_) (fun c12 => ?_)
    · refine lv_ldc2 hx hb fx.2.2.2.1 (fx.2.2.2.2.1 _ mm_169) dX3_of_146 ?_
      exact hret (-1 : Int64) () _ _ _ _ dX3_of_149 (ht.trans (by simp only [f_X3_of, if_neg c1, if_neg c2, if_neg c3, if_neg c4, if_neg c6, if_neg c7, if_pos c8, if_pos c12])) hP hS
    · refine lv_aload_n hx hb dX3_of_135 rfl (lv_at hl 0 rfl) ?_
      refine gf_X3_21 fx hP 0 rfl dX3_of_136 ?_
      refine gf_X3_194 fx hP 1 rfl (v := W_place w) rfl dX3_of_139 ?_
      refine lv_i2l (v := (W_place w).toInt64) hx hb dX3_of_142 rfl ?_
      refine lv_goto (tgt := 149) hx hb dX3_of_143 (by decide) ?_
      exact hret ((W_place w).toInt64) () _ _ _ _ dX3_of_149 (ht.trans (by simp only [f_X3_of, if_neg c1, if_neg c2, if_neg c3, if_neg c4, if_neg c6, if_neg c7, if_pos c8, if_neg c12])) hP hS
  by_cases c13 : p0 = (7 : Int32)
  · refine lv_tableIn (off := 149) (tgt := 150) hx hb dX3_of_1 (by rw [c13]; decide) (by rw [c13]; decide) (by rw [c13]; decide) (by decide) ?_
    refine lv_aload_n hx hb dX3_of_150 rfl (lv_at hl 0 rfl) ?_
    refine gf_X3_21 fx hP 0 rfl dX3_of_151 ?_
    refine gf_X3_118 fx hP 1 rfl (v := W_liquid w) rfl dX3_of_154 ?_
    refine lv_i2l (v := (W_liquid w).toInt64) hx hb dX3_of_157 rfl ?_
    exact hret ((W_liquid w).toInt64) () _ _ _ _ dX3_of_158 (ht.trans (by simp only [f_X3_of, if_neg c1, if_neg c2, if_neg c3, if_neg c4, if_neg c6, if_neg c7, if_neg c8, if_pos c13])) hP hS
  by_cases c14 : p0 = (8 : Int32)
  · refine lv_tableIn (off := 158) (tgt := 159) hx hb dX3_of_1 (by rw [c14]; decide) (by rw [c14]; decide) (by rw [c14]; decide) (by decide) ?_
    refine lv_aload_n hx hb dX3_of_159 rfl (lv_at hl 0 rfl) ?_
    refine gf_X3_21 fx hP 0 rfl dX3_of_160 ?_
    refine gf_X3_199 fx hP 1 rfl (v := W_vented w) rfl dX3_of_163 ?_
    exact hret (W_vented w) () _ _ _ _ dX3_of_166 (ht.trans (by simp only [f_X3_of, if_neg c1, if_neg c2, if_neg c3, if_neg c4, if_neg c6, if_neg c7, if_neg c8, if_neg c13, if_pos c14])) hP hS
  by_cases c15 : p0 = (9 : Int32)
  · refine lv_tableIn (off := 166) (tgt := 167) hx hb dX3_of_1 (by rw [c15]; decide) (by rw [c15]; decide) (by rw [c15]; decide) (by decide) ?_
    refine lv_aload_n hx hb dX3_of_167 rfl (lv_at hl 0 rfl) ?_
    refine gf_X3_21 fx hP 0 rfl dX3_of_168 ?_
    refine gf_X3_203 fx hP 1 rfl (v := W_lost w) rfl dX3_of_171 ?_
    refine lv_i2l (v := (W_lost w).toInt64) hx hb dX3_of_174 rfl ?_
    exact hret ((W_lost w).toInt64) () _ _ _ _ dX3_of_175 (ht.trans (by simp only [f_X3_of, if_neg c1, if_neg c2, if_neg c3, if_neg c4, if_neg c6, if_neg c7, if_neg c8, if_neg c13, if_neg c14, if_pos c15])) hP hS
  by_cases c16 : p0 = (10 : Int32)
  · refine lv_tableIn (off := 175) (tgt := 176) hx hb dX3_of_1 (by rw [c16]; decide) (by rw [c16]; decide) (by rw [c16]; decide) (by decide) ?_
    refine lv_aload_n hx hb dX3_of_176 rfl (lv_at hl 0 rfl) ?_
    refine gf_X3_78 fx hP 0 rfl (v := X_pumped x) rfl dX3_of_177 ?_
    refine lv_i2l (v := (X_pumped x).toInt64) hx hb dX3_of_180 rfl ?_
    exact hret ((X_pumped x).toInt64) () _ _ _ _ dX3_of_181 (ht.trans (by simp only [f_X3_of, if_neg c1, if_neg c2, if_neg c3, if_neg c4, if_neg c6, if_neg c7, if_neg c8, if_neg c13, if_neg c14, if_neg c15, if_pos c16])) hP hS
  by_cases c17 : p0 = (11 : Int32)
  · refine lv_tableIn (off := 181) (tgt := 182) hx hb dX3_of_1 (by rw [c17]; decide) (by rw [c17]; decide) (by rw [c17]; decide) (by decide) ?_
    refine lv_aload_n hx hb dX3_of_182 rfl (lv_at hl 0 rfl) ?_
    refine gf_X3_132 fx hP 0 rfl (v := X_cement x) rfl dX3_of_183 ?_
    refine lv_i2l (v := (X_cement x).toInt64) hx hb dX3_of_186 rfl ?_
    exact hret ((X_cement x).toInt64) () _ _ _ _ dX3_of_187 (ht.trans (by simp only [f_X3_of, if_neg c1, if_neg c2, if_neg c3, if_neg c4, if_neg c6, if_neg c7, if_neg c8, if_neg c13, if_neg c14, if_neg c15, if_neg c16, if_pos c17])) hP hS
  refine lv_tableOut (tgt := 188) hx hb dX3_of_1 (by have e0 : p0.toInt ≠ 0 := fun h9 => c1 (Int32.toInt_inj.mp h9); have e1 : p0.toInt ≠ 1 := fun h9 => c2 (Int32.toInt_inj.mp h9); have e2 : p0.toInt ≠ 2 := fun h9 => c3 (Int32.toInt_inj.mp h9); have e3 : p0.toInt ≠ 3 := fun h9 => c4 (Int32.toInt_inj.mp h9); have e4 : p0.toInt ≠ 4 := fun h9 => c6 (Int32.toInt_inj.mp h9); have e5 : p0.toInt ≠ 5 := fun h9 => c7 (Int32.toInt_inj.mp h9); have e6 : p0.toInt ≠ 6 := fun h9 => c8 (Int32.toInt_inj.mp h9); have e7 : p0.toInt ≠ 7 := fun h9 => c13 (Int32.toInt_inj.mp h9); have e8 : p0.toInt ≠ 8 := fun h9 => c14 (Int32.toInt_inj.mp h9); have e9 : p0.toInt ≠ 9 := fun h9 => c15 (Int32.toInt_inj.mp h9); have e10 : p0.toInt ≠ 10 := fun h9 => c16 (Int32.toInt_inj.mp h9); have e11 : p0.toInt ≠ 11 := fun h9 => c17 (Int32.toInt_inj.mp h9); omega) (by decide) ?_
  exact hthr 2 189 "what is out of range" 188 H locs ls [] (Or.inr (Or.inl rfl)) hl.1 (Nat.le_of_ble_eq_true rfl) (List.mem_of_getElem? (i := 18) rfl) ⟨dX3_of_188, dX3_of_191, Or.inl ⟨dX3_of_192, dX3_of_194, dX3_of_197⟩⟩ ⟨congrArg Prod.fst (show f_X3_of x w p0 = (2, 0) from ht.trans (by simp only [f_X3_of, if_neg c1, if_neg c2, if_neg c3, if_neg c4, if_neg c6, if_neg c7, if_neg c8, if_neg c13, if_neg c14, if_neg c15, if_neg c16, if_neg c17])), by decide⟩ hP hS

/-! X3_ofTest -/
def f_X3_ofTest (t : TS) (p0 : Int32) (p1 : Int32) : Nat × Int32 :=
  if (f_X3_isWithin p0 (0 : Int32) ((T_count t) - (1 : Int32))) = 0 then (1, 0) else (if p1 = (0 : Int32) then (0, f_X3_read 60 (T_whats t) p0) else if p1 = (1 : Int32) then (0, f_X3_read 60 (T_pressures t) p0) else if p1 = (2 : Int32) then (0, f_X3_read 60 (T_passes t) p0) else if p1 = (3 : Int32) then (0, f_X3_read 60 (T_minutes t) p0) else (2, 0))

abbrev RM_X3_ofTest : Room := { frames := 6, cells := 1, slots := 6, locals := 90 }
set_option maxRecDepth 100000 in
set_option maxHeartbeats 4000000 in
theorem c_X3_ofTest (l : Launch) (D : va_G) (q : Nat → ClassId) (sz : Nat) (h : Nat) (aw : Nat) (av : Nat) (kr : Nat → Nat) (kt : Nat → Nat) (x : XS) (w : WS) (v : WS) (r : RS) (t : TS) (p0 : Int32) (p1 : Int32) (hstk : l.stackTraces = false) : vx_Met l yX3_ofTest (Cond.code yX3_ofTest cX3_ofTest 3 (some .int) :: ALL) RM_X3_ofTest (PX D q [.ref h, .int p0, .int p1] (cKick h aw av kr kt q x w v r t) sz) (va_Qi (fun (rv : Int32) (_ : Unit) => f_X3_ofTest t p0 p1 = (0, rv)) (fun (_ : Unit) t9 => va_P D vwCl (cKick h aw av kr kt q x w v r t) t9.heap) (va_A (cKick h aw av kr kt q x w v r t) sz)) (XCk D (cKick h aw av kr kt q x w v r t) sz (fun k => (f_X3_ofTest t p0 p1).1 = k ∧ (k = 1 ∨ k = 2))) 1 6 (va_A (cKick h aw av kr kt q x w v r t) sz) := by
  refine en_xi hstk rfl (by decide +kernel) (Nat.le_of_ble_eq_true rfl) ⟨Nat.le_of_ble_eq_true rfl, Nat.le_of_ble_eq_true rfl, rfl, rfl⟩ ?_
  intro p e s m args below meth c Q A H locs ls fx hD0 hA hP hS hl hret hthr
  have hx := fx.1
  have hb := fx.2.1
  have hl : lv_has ls 3 [(0, .ref h), (1, .int p0), (2, .int p1)] := hl
  have hD : ∀ (x9 : XS) (w9 : WS) (v9 : WS) (r9 : RS) (t9 : TS), va_D _ (cKick h aw av kr kt q x9 w9 v9 r9 t9) := fun _ _ _ _ _ => D_same ((fst_Kick _ _ _ _ _ _ _ _ _ _ _).trans (fst_Kick _ _ _ _ _ _ _ _ _ _ _).symm) hD0
  have ht : f_X3_ofTest t p0 p1 = f_X3_ofTest t p0 p1 := rfl
  refine lv_iload_n hx hb dX3_ofTest_0 rfl (lv_at hl 1 rfl) ?_
  refine lv_iconst (v := 0) hx hb dX3_ofTest_1 (by decide) ?_
  refine lv_aload_n hx hb dX3_ofTest_2 rfl (lv_at hl 0 rfl) ?_
  refine gf_X3_31 fx hP 0 rfl dX3_ofTest_3 ?_
  refine gf_X3_146 fx hP 9 rfl (v := T_count t) rfl dX3_ofTest_6 ?_
  refine lv_iconst (v := 1) hx hb dX3_ofTest_9 (by decide) ?_
  refine lv_isub hx hb dX3_ofTest_10 ?_
  refine kR_i (runS fx (As := [.int p0, .int (0 : Int32), .int ((T_count t) - (1 : Int32))]) (rest := []) (c_X3_isWithin l D q H.size p0 (0 : Int32) ((T_count t) - (1 : Int32))) lk_X3_39 ⟨Nat.le_of_ble_eq_true rfl, Nat.le_of_ble_eq_true rfl⟩ ⟨rfl, rfl⟩ hP (hD _ _ _ _ _) [] rfl rfl rfl hl.1 rfl (Nat.le_of_ble_eq_true rfl) dX3_ofTest_11 ⟨Nat.zero_le _, Nat.zero_le _⟩) hP hS (fun r1 _ H locs hr2 hP hS => ?_)
  obtain ⟨rfl, hz3⟩ := hr2
  refine lv_if_ne (tgt := 27) hx hb dX3_ofTest_14 (by decide) (fun c4 => ?_) (fun c4 => ?_)
  · refine lv_iload_n hx hb dX3_ofTest_27 rfl (lv_at hl 2 rfl) ?_
    by_cases c5 : p1 = (0 : Int32)
    · refine lv_tableIn (off := 32) (tgt := 60) hx hb dX3_ofTest_28 (by rw [c5]; decide) (by rw [c5]; decide) (by rw [c5]; decide) (by decide) ?_
      refine lv_aload_n hx hb dX3_ofTest_60 rfl (lv_at hl 0 rfl) ?_
      refine gf_X3_31 fx hP 0 rfl dX3_ofTest_61 ?_
      refine gf_X3_220 fx hP 9 rfl dX3_ofTest_64 ?_
      refine lv_iload_n hx hb dX3_ofTest_67 rfl (lv_at hl 1 rfl) ?_
      refine kR_i (runS fx (As := [.ref (kt 1), .int p0]) (rest := []) (c_X3_read l D q H.size (kt 1) 60 (Nat.le_of_ble_eq_true rfl) (T_whats t) p0) lk_X3_224 ⟨Nat.le_of_ble_eq_true rfl, Nat.le_of_ble_eq_true rfl⟩ ⟨rfl, rfl⟩ hP (hD _ _ _ _ _) [10] rfl rfl rfl hl.1 rfl (Nat.le_of_ble_eq_true rfl) dX3_ofTest_68 ⟨Nat.zero_le _, Nat.zero_le _⟩) hP hS (fun r6 _ H locs hr7 hP hS => ?_)
      subst hr7
      exact hret (f_X3_read 60 (T_whats t) p0) () _ _ _ _ dX3_ofTest_71 (ht.trans (by simp only [f_X3_ofTest, if_neg c4, if_pos c5])) hP hS
    by_cases c8 : p1 = (1 : Int32)
    · refine lv_tableIn (off := 44) (tgt := 72) hx hb dX3_ofTest_28 (by rw [c8]; decide) (by rw [c8]; decide) (by rw [c8]; decide) (by decide) ?_
      refine lv_aload_n hx hb dX3_ofTest_72 rfl (lv_at hl 0 rfl) ?_
      refine gf_X3_31 fx hP 0 rfl dX3_ofTest_73 ?_
      refine gf_X3_228 fx hP 9 rfl dX3_ofTest_76 ?_
      refine lv_iload_n hx hb dX3_ofTest_79 rfl (lv_at hl 1 rfl) ?_
      refine kR_i (runS fx (As := [.ref (kt 2), .int p0]) (rest := []) (c_X3_read l D q H.size (kt 2) 60 (Nat.le_of_ble_eq_true rfl) (T_pressures t) p0) lk_X3_224 ⟨Nat.le_of_ble_eq_true rfl, Nat.le_of_ble_eq_true rfl⟩ ⟨rfl, rfl⟩ hP (hD _ _ _ _ _) [11] rfl rfl rfl hl.1 rfl (Nat.le_of_ble_eq_true rfl) dX3_ofTest_80 ⟨Nat.zero_le _, Nat.zero_le _⟩) hP hS (fun r9 _ H locs hr10 hP hS => ?_)
      subst hr10
      exact hret (f_X3_read 60 (T_pressures t) p0) () _ _ _ _ dX3_ofTest_83 (ht.trans (by simp only [f_X3_ofTest, if_neg c4, if_neg c5, if_pos c8])) hP hS
    by_cases c11 : p1 = (2 : Int32)
    · refine lv_tableIn (off := 56) (tgt := 84) hx hb dX3_ofTest_28 (by rw [c11]; decide) (by rw [c11]; decide) (by rw [c11]; decide) (by decide) ?_
      refine lv_aload_n hx hb dX3_ofTest_84 rfl (lv_at hl 0 rfl) ?_
      refine gf_X3_31 fx hP 0 rfl dX3_ofTest_85 ?_
      refine gf_X3_231 fx hP 9 rfl dX3_ofTest_88 ?_
      refine lv_iload_n hx hb dX3_ofTest_91 rfl (lv_at hl 1 rfl) ?_
      refine kR_i (runS fx (As := [.ref (kt 3), .int p0]) (rest := []) (c_X3_read l D q H.size (kt 3) 60 (Nat.le_of_ble_eq_true rfl) (T_passes t) p0) lk_X3_224 ⟨Nat.le_of_ble_eq_true rfl, Nat.le_of_ble_eq_true rfl⟩ ⟨rfl, rfl⟩ hP (hD _ _ _ _ _) [12] rfl rfl rfl hl.1 rfl (Nat.le_of_ble_eq_true rfl) dX3_ofTest_92 ⟨Nat.zero_le _, Nat.zero_le _⟩) hP hS (fun r12 _ H locs hr13 hP hS => ?_)
      subst hr13
      exact hret (f_X3_read 60 (T_passes t) p0) () _ _ _ _ dX3_ofTest_95 (ht.trans (by simp only [f_X3_ofTest, if_neg c4, if_neg c5, if_neg c8, if_pos c11])) hP hS
    by_cases c14 : p1 = (3 : Int32)
    · refine lv_tableIn (off := 68) (tgt := 96) hx hb dX3_ofTest_28 (by rw [c14]; decide) (by rw [c14]; decide) (by rw [c14]; decide) (by decide) ?_
      refine lv_aload_n hx hb dX3_ofTest_96 rfl (lv_at hl 0 rfl) ?_
      refine gf_X3_31 fx hP 0 rfl dX3_ofTest_97 ?_
      refine gf_X3_234 fx hP 9 rfl dX3_ofTest_100 ?_
      refine lv_iload_n hx hb dX3_ofTest_103 rfl (lv_at hl 1 rfl) ?_
      refine kR_i (runS fx (As := [.ref (kt 4), .int p0]) (rest := []) (c_X3_read l D q H.size (kt 4) 60 (Nat.le_of_ble_eq_true rfl) (T_minutes t) p0) lk_X3_224 ⟨Nat.le_of_ble_eq_true rfl, Nat.le_of_ble_eq_true rfl⟩ ⟨rfl, rfl⟩ hP (hD _ _ _ _ _) [13] rfl rfl rfl hl.1 rfl (Nat.le_of_ble_eq_true rfl) dX3_ofTest_104 ⟨Nat.zero_le _, Nat.zero_le _⟩) hP hS (fun r15 _ H locs hr16 hP hS => ?_)
      subst hr16
      exact hret (f_X3_read 60 (T_minutes t) p0) () _ _ _ _ dX3_ofTest_107 (ht.trans (by simp only [f_X3_ofTest, if_neg c4, if_neg c5, if_neg c8, if_neg c11, if_pos c14])) hP hS
    refine lv_tableOut (tgt := 108) hx hb dX3_ofTest_28 (by have e0 : p1.toInt ≠ 0 := fun h9 => c5 (Int32.toInt_inj.mp h9); have e1 : p1.toInt ≠ 1 := fun h9 => c8 (Int32.toInt_inj.mp h9); have e2 : p1.toInt ≠ 2 := fun h9 => c11 (Int32.toInt_inj.mp h9); have e3 : p1.toInt ≠ 3 := fun h9 => c14 (Int32.toInt_inj.mp h9); omega) (by decide) ?_
    exact hthr 2 189 "what is out of range" 108 H locs ls [] (Or.inr (Or.inl rfl)) hl.1 (Nat.le_of_ble_eq_true rfl) (List.mem_of_getElem? (i := 18) rfl) ⟨dX3_ofTest_108, dX3_ofTest_111, Or.inl ⟨dX3_ofTest_112, dX3_ofTest_114, dX3_ofTest_117⟩⟩ ⟨congrArg Prod.fst (show f_X3_ofTest t p0 p1 = (2, 0) from ht.trans (by simp only [f_X3_ofTest, if_neg c4, if_neg c5, if_neg c8, if_neg c11, if_neg c14])), by decide⟩ hP hS
  · exact hthr 1 218 "there is no such test" 17 H locs ls [] (Or.inl rfl) hl.1 (Nat.le_of_ble_eq_true rfl) (List.mem_of_getElem? (i := 19) rfl) ⟨dX3_ofTest_17, dX3_ofTest_20, Or.inl ⟨dX3_ofTest_21, dX3_ofTest_23, dX3_ofTest_26⟩⟩ ⟨congrArg Prod.fst (show f_X3_ofTest t p0 p1 = (1, 0) from ht.trans (by simp only [f_X3_ofTest, if_pos c4])), by decide⟩ hP hS

/-! X3_killWeight -/
def f_X3_killWeight (w : WS) (r : RS) : Nat × Int32 :=
  if 0 < (W_depth w) then (0, ((((10 : Int32) * (f_X0_poreAt r (W_depth w))) + (W_depth w)) - (1 : Int32)) / (W_depth w)) else (3, 0)

abbrev RM_X3_killWeight : Room := { frames := 6, cells := 1, slots := 6, locals := 90 }
set_option maxRecDepth 100000 in
set_option maxHeartbeats 4000000 in
theorem c_X3_killWeight (l : Launch) (D : va_G) (q : Nat → ClassId) (sz : Nat) (h : Nat) (aw : Nat) (av : Nat) (kr : Nat → Nat) (kt : Nat → Nat) (x : XS) (w : WS) (v : WS) (r : RS) (t : TS) (hstk : l.stackTraces = false) : vx_Met l yX3_killWeight (Cond.code yX3_killWeight cX3_killWeight 2 (some .int) :: ALL) RM_X3_killWeight (PX D q [.ref h] (cKick h aw av kr kt q x w v r t) sz) (va_Qi (fun (rv : Int32) (_ : Unit) => f_X3_killWeight w r = (0, rv)) (fun (_ : Unit) t9 => va_P D vwCl (cKick h aw av kr kt q x w v r t) t9.heap) (va_A (cKick h aw av kr kt q x w v r t) sz)) (XCk D (cKick h aw av kr kt q x w v r t) sz (fun k => (f_X3_killWeight w r).1 = k ∧ (k = 3))) 1 6 (va_A (cKick h aw av kr kt q x w v r t) sz) := by
  refine en_xi hstk rfl (by decide +kernel) (Nat.le_of_ble_eq_true rfl) ⟨Nat.le_of_ble_eq_true rfl, Nat.le_of_ble_eq_true rfl, rfl, rfl⟩ ?_
  intro p e s m args below meth c Q A H locs ls fx hD0 hA hP hS hl hret hthr
  have hx := fx.1
  have hb := fx.2.1
  have hl : lv_has ls 2 [(0, .ref h)] := hl
  have hD : ∀ (x9 : XS) (w9 : WS) (v9 : WS) (r9 : RS) (t9 : TS), va_D _ (cKick h aw av kr kt q x9 w9 v9 r9 t9) := fun _ _ _ _ _ => D_same ((fst_Kick _ _ _ _ _ _ _ _ _ _ _).trans (fst_Kick _ _ _ _ _ _ _ _ _ _ _).symm) hD0
  have ht : f_X3_killWeight w r = f_X3_killWeight w r := rfl
  refine lv_aload_n hx hb dX3_killWeight_0 rfl (lv_at hl 0 rfl) ?_
  refine gf_X3_21 fx hP 0 rfl dX3_killWeight_1 ?_
  refine gf_X3_55 fx hP 1 rfl (v := W_depth w) rfl dX3_killWeight_4 ?_
  refine lv_istore_n (lv' := [(1, .int (W_depth w)), (0, .ref h)]) hx hb dX3_killWeight_7 rfl hl (by decide) rfl (fun ls hl => ?_)
  refine lv_iload_n hx hb dX3_killWeight_8 rfl (lv_at hl 0 rfl) ?_
  refine lv_if_gt (tgt := 22) hx hb dX3_killWeight_9 (by decide) (fun c1 => ?_) (fun c1 => ?_)
  · refine lv_bipush (v := 10) hx hb dX3_killWeight_22 (by decide) ?_
    refine lv_aload_n hx hb dX3_killWeight_24 rfl (lv_at hl 1 rfl) ?_
    refine gf_X3_10 fx hP 0 rfl dX3_killWeight_25 ?_
    refine lv_iload_n hx hb dX3_killWeight_28 rfl (lv_at hl 0 rfl) ?_
    refine kR_i (runVN fx (As := [.int (W_depth w)]) (rest := [.int (10 : Int32)]) (c_X0_poreAt l D q H.size kr r (W_depth w)) lk_X3_174 ⟨Nat.le_of_ble_eq_true rfl, Nat.le_of_ble_eq_true rfl⟩ ⟨rfl, rfl⟩ hP (hD _ _ _ _ _) [3, 4, 5, 6, 7, 8] rfl rfl (ci := 0) rfl rfl rfl hl.1 rfl (Nat.le_of_ble_eq_true rfl) dX3_killWeight_29 ⟨Nat.zero_le _, Nat.zero_le _⟩) hP hS (fun r2 _ H locs hr3 hP hS => ?_)
    subst hr3
    refine lv_imul hx hb dX3_killWeight_32 ?_
    refine lv_iload_n hx hb dX3_killWeight_33 rfl (lv_at hl 0 rfl) ?_
    refine lv_iadd hx hb dX3_killWeight_34 ?_
    refine lv_iconst (v := 1) hx hb dX3_killWeight_35 (by decide) ?_
    refine lv_isub hx hb dX3_killWeight_36 ?_
    refine lv_iload_n hx hb dX3_killWeight_37 rfl (lv_at hl 0 rfl) ?_
    refine lv_idiv hx hb dX3_killWeight_38 (fun h9 => absurd c1 (by rw [h9]; decide)) ?_
    exact hret (((((10 : Int32) * (f_X0_poreAt r (W_depth w))) + (W_depth w)) - (1 : Int32)) / (W_depth w)) () _ _ _ _ dX3_killWeight_39 (ht.trans (by simp only [f_X3_killWeight, if_pos c1])) hP hS
  · exact hthr 3 236 "the depth is 0" 12 H locs ls [] (Or.inr (Or.inr rfl)) hl.1 (Nat.le_of_ble_eq_true rfl) (List.mem_of_getElem? (i := 20) rfl) ⟨dX3_killWeight_12, dX3_killWeight_15, Or.inl ⟨dX3_killWeight_16, dX3_killWeight_18, dX3_killWeight_21⟩⟩ ⟨congrArg Prod.fst (show f_X3_killWeight w r = (3, 0) from ht.trans (by simp only [f_X3_killWeight, if_neg c1])), by decide⟩ hP hS

/-! X3_window -/
def f_X3_window_b24 : Nat × Int32 :=
  (2, 0)

def f_X3_window (N : Nat) (r : RS) (p0 : Int32) (p1 : Int32) (p2 : Int32) : Nat × Int32 :=
  if (f_X3_isWithin p0 (0 : Int32) (4999 : Int32)) = 0 then f_X3_window_b24 else (if (f_X3_isWithin p1 (p0 + (1 : Int32)) (5000 : Int32)) = 0 then f_X3_window_b24 else (if p2 = 0 then (0, f_X0_greatestPore N r (f_X0_layerOf (p0 + (1 : Int32))) (f_X0_layerOf p1)) else (0, f_X0_leastBreak N r (f_X0_layerOf (p0 + (1 : Int32))) (f_X0_layerOf p1))))

def ok_X3_window (N : Nat) (r : RS) (p0 : Int32) (p1 : Int32) (p2 : Int32) : Prop :=
  ((f_X3_isWithin p0 (0 : Int32) (4999 : Int32)) = 0 → True) ∧ (¬ (f_X3_isWithin p0 (0 : Int32) (4999 : Int32)) = 0 → (((f_X3_isWithin p1 (p0 + (1 : Int32)) (5000 : Int32)) = 0 → True) ∧ (¬ (f_X3_isWithin p1 (p0 + (1 : Int32)) (5000 : Int32)) = 0 → ((p2 = 0 → ((ok_X0_greatestPore N r (f_X0_layerOf (p0 + (1 : Int32))) (f_X0_layerOf p1)) ∧ True)) ∧ (¬ p2 = 0 → ((ok_X0_leastBreak N r (f_X0_layerOf (p0 + (1 : Int32))) (f_X0_layerOf p1)) ∧ True))))))

abbrev RM_X3_window : Room := { frames := 6, cells := 1, slots := 6, locals := 90 }
set_option maxRecDepth 100000 in
set_option maxHeartbeats 4000000 in
theorem c_X3_window (l : Launch) (D : va_G) (q : Nat → ClassId) (sz : Nat) (h : Nat) (aw : Nat) (av : Nat) (kr : Nat → Nat) (kt : Nat → Nat) (x : XS) (w : WS) (v : WS) (r : RS) (t : TS) (p0 : Int32) (p1 : Int32) (p2 : Int32) (N : Nat) (hok : ok_X3_window N r p0 p1 p2) (hstk : l.stackTraces = false) : vx_Met l yX3_window (Cond.code yX3_window cX3_window 6 (some .int) :: ALL) RM_X3_window (PX D q [.ref h, .int p0, .int p1, .int p2] (cKick h aw av kr kt q x w v r t) sz) (va_Qi (fun (rv : Int32) (_ : Unit) => f_X3_window N r p0 p1 p2 = (0, rv)) (fun (_ : Unit) t9 => va_P D vwCl (cKick h aw av kr kt q x w v r t) t9.heap) (va_A (cKick h aw av kr kt q x w v r t) sz)) (XCk D (cKick h aw av kr kt q x w v r t) sz (fun k => (f_X3_window N r p0 p1 p2).1 = k ∧ (k = 2))) 1 6 (va_A (cKick h aw av kr kt q x w v r t) sz) := by
  refine en_xi hstk rfl (by decide +kernel) (Nat.le_of_ble_eq_true rfl) ⟨Nat.le_of_ble_eq_true rfl, Nat.le_of_ble_eq_true rfl, rfl, rfl⟩ ?_
  intro p e s m args below meth c Q A H locs ls fx hD0 hA hP hS hl hret hthr
  have hx := fx.1
  have hb := fx.2.1
  have hl : lv_has ls 6 [(0, .ref h), (1, .int p0), (2, .int p1), (3, .int p2)] := hl
  have hD : ∀ (x9 : XS) (w9 : WS) (v9 : WS) (r9 : RS) (t9 : TS), va_D _ (cKick h aw av kr kt q x9 w9 v9 r9 t9) := fun _ _ _ _ _ => D_same ((fst_Kick _ _ _ _ _ _ _ _ _ _ _).trans (fst_Kick _ _ _ _ _ _ _ _ _ _ _).symm) hD0
  have ht : f_X3_window N r p0 p1 p2 = f_X3_window N r p0 p1 p2 := rfl
  simp only [ok_X3_window] at hok
  refine lv_iload_n hx hb dX3_window_0 rfl (lv_at hl 1 rfl) ?_
  refine lv_iconst (v := 0) hx hb dX3_window_1 (by decide) ?_
  refine lv_sipush (v := 4999) hx hb dX3_window_2 (by decide) ?_
  refine kR_i (runS fx (As := [.int p0, .int (0 : Int32), .int (4999 : Int32)]) (rest := []) (c_X3_isWithin l D q H.size p0 (0 : Int32) (4999 : Int32)) lk_X3_39 ⟨Nat.le_of_ble_eq_true rfl, Nat.le_of_ble_eq_true rfl⟩ ⟨rfl, rfl⟩ hP (hD _ _ _ _ _) [] rfl rfl rfl hl.1 rfl (Nat.le_of_ble_eq_true rfl) dX3_window_5 ⟨Nat.zero_le _, Nat.zero_le _⟩) hP hS (fun r1 _ H locs hr2 hP hS => ?_)
  obtain ⟨rfl, hz3⟩ := hr2
  have K24 : ∀ (H : Heap) (locs : List Loc) (ls : Array Slot), f_X3_window N r p0 p1 p2 = f_X3_window_b24 → va_P D vwCl (cKick h aw av kr kt q x w v r t) H → va_S A s.heap H locs → lv_has ls 6 [(0, .ref h)] → W p l e RM_X3_window s m args below meth c H locs 0 0 Q (F0 m 24 ls []) := by
    intro H locs ls ht hP hS hl
    exact hthr 2 238 "from or to is out of range" 24 H locs ls [] (Or.inr (Or.inl rfl)) hl.1 (Nat.le_of_ble_eq_true rfl) (List.mem_of_getElem? (i := 21) rfl) ⟨dX3_window_24, dX3_window_27, Or.inl ⟨dX3_window_28, dX3_window_30, dX3_window_33⟩⟩ ⟨congrArg Prod.fst (show f_X3_window N r p0 p1 p2 = (2, 0) from ht.trans (by simp only [f_X3_window_b24])), by decide⟩ hP hS
  refine lv_if_eq (tgt := 24) hx hb dX3_window_8 (by decide) (fun c20 => ?_) (fun c20 => ?_)
  · have hok := hok.1 c20
    exact K24 H locs ls (ht.trans (by simp only [f_X3_window, if_pos c20])) hP hS (lv_sub hl [0] rfl)
  · have hok := hok.2 c20
    refine lv_iload_n hx hb dX3_window_11 rfl (lv_at hl 2 rfl) ?_
    refine lv_iload_n hx hb dX3_window_12 rfl (lv_at hl 1 rfl) ?_
    refine lv_iconst (v := 1) hx hb dX3_window_13 (by decide) ?_
    refine lv_iadd hx hb dX3_window_14 ?_
    refine lv_sipush (v := 5000) hx hb dX3_window_15 (by decide) ?_
    refine kR_i (runS fx (As := [.int p1, .int (p0 + (1 : Int32)), .int (5000 : Int32)]) (rest := []) (c_X3_isWithin l D q H.size p1 (p0 + (1 : Int32)) (5000 : Int32)) lk_X3_39 ⟨Nat.le_of_ble_eq_true rfl, Nat.le_of_ble_eq_true rfl⟩ ⟨rfl, rfl⟩ hP (hD _ _ _ _ _) [] rfl rfl rfl hl.1 rfl (Nat.le_of_ble_eq_true rfl) dX3_window_18 ⟨Nat.zero_le _, Nat.zero_le _⟩) hP hS (fun r21 _ H locs hr22 hP hS => ?_)
    obtain ⟨rfl, hz23⟩ := hr22
    refine lv_if_ne (tgt := 34) hx hb dX3_window_21 (by decide) (fun c24 => ?_) (fun c24 => ?_)
    · have hok := hok.2 c24
      refine lv_iload_n hx hb dX3_window_34 rfl (lv_at hl 1 rfl) ?_
      refine lv_iconst (v := 1) hx hb dX3_window_35 (by decide) ?_
      refine lv_iadd hx hb dX3_window_36 ?_
      refine kR_i (runSN fx (As := [.int (p0 + (1 : Int32))]) (rest := []) (c_X0_layerOf l D q H.size (p0 + (1 : Int32))) lk_X3_240 ⟨Nat.le_of_ble_eq_true rfl, Nat.le_of_ble_eq_true rfl⟩ ⟨rfl, rfl⟩ hP (hD _ _ _ _ _) [] rfl rfl rfl hl.1 rfl (Nat.le_of_ble_eq_true rfl) dX3_window_37 ⟨Nat.zero_le _, Nat.zero_le _⟩) hP hS (fun r25 _ H locs hr26 hP hS => ?_)
      subst hr26
      refine lv_istore (lv' := [(4, .int (f_X0_layerOf (p0 + (1 : Int32)))), (0, .ref h), (1, .int p0), (2, .int p1), (3, .int p2)]) hx hb dX3_window_40 hl (by decide) rfl (fun ls hl => ?_)
      refine lv_iload_n hx hb dX3_window_42 rfl (lv_at hl 3 rfl) ?_
      refine kR_i (runSN fx (As := [.int p1]) (rest := []) (c_X0_layerOf l D q H.size p1) lk_X3_240 ⟨Nat.le_of_ble_eq_true rfl, Nat.le_of_ble_eq_true rfl⟩ ⟨rfl, rfl⟩ hP (hD _ _ _ _ _) [] rfl rfl rfl hl.1 rfl (Nat.le_of_ble_eq_true rfl) dX3_window_43 ⟨Nat.zero_le _, Nat.zero_le _⟩) hP hS (fun r27 _ H locs hr28 hP hS => ?_)
      subst hr28
      refine lv_istore (lv' := [(5, .int (f_X0_layerOf p1)), (4, .int (f_X0_layerOf (p0 + (1 : Int32)))), (0, .ref h), (1, .int p0), (2, .int p1), (3, .int p2)]) hx hb dX3_window_46 hl (by decide) rfl (fun ls hl => ?_)
      refine lv_iload_n hx hb dX3_window_48 rfl (lv_at hl 5 rfl) ?_
      refine lv_if_eq (tgt := 66) hx hb dX3_window_49 (by decide) (fun c29 => ?_) (fun c29 => ?_)
      · have hok := hok.1 c29
        refine lv_aload_n hx hb dX3_window_66 rfl (lv_at hl 2 rfl) ?_
        refine gf_X3_10 fx hP 0 rfl dX3_window_67 ?_
        refine lv_iload hx hb dX3_window_70 (lv_at hl 1 rfl) ?_
        refine lv_iload hx hb dX3_window_72 (lv_at hl 0 rfl) ?_
        obtain ⟨hk30, hok⟩ := hok
        refine kR_i (runVN fx (As := [.int (f_X0_layerOf (p0 + (1 : Int32))), .int (f_X0_layerOf p1)]) (rest := []) (c_X0_greatestPore l D q H.size kr r (f_X0_layerOf (p0 + (1 : Int32))) (f_X0_layerOf p1) N hk30) lk_X3_247 ⟨Nat.le_of_ble_eq_true rfl, Nat.le_of_ble_eq_true rfl⟩ ⟨rfl, rfl⟩ hP (hD _ _ _ _ _) [3, 4, 5, 6, 7, 8] rfl rfl (ci := 0) rfl rfl rfl hl.1 rfl (Nat.le_of_ble_eq_true rfl) dX3_window_74 ⟨Nat.zero_le _, Nat.zero_le _⟩) hP hS (fun r31 _ H locs hr32 hP hS => ?_)
        subst hr32
        exact hret (f_X0_greatestPore N r (f_X0_layerOf (p0 + (1 : Int32))) (f_X0_layerOf p1)) () _ _ _ _ dX3_window_77 (ht.trans (by simp only [f_X3_window, if_neg c20, if_neg c24, if_pos c29])) hP hS
      · have hok := hok.2 c29
        refine lv_aload_n hx hb dX3_window_52 rfl (lv_at hl 2 rfl) ?_
        refine gf_X3_10 fx hP 0 rfl dX3_window_53 ?_
        refine lv_iload hx hb dX3_window_56 (lv_at hl 1 rfl) ?_
        refine lv_iload hx hb dX3_window_58 (lv_at hl 0 rfl) ?_
        obtain ⟨hk33, hok⟩ := hok
        refine kR_i (runVN fx (As := [.int (f_X0_layerOf (p0 + (1 : Int32))), .int (f_X0_layerOf p1)]) (rest := []) (c_X0_leastBreak l D q H.size kr r (f_X0_layerOf (p0 + (1 : Int32))) (f_X0_layerOf p1) N hk33) lk_X3_243 ⟨Nat.le_of_ble_eq_true rfl, Nat.le_of_ble_eq_true rfl⟩ ⟨rfl, rfl⟩ hP (hD _ _ _ _ _) [3, 4, 5, 6, 7, 8] rfl rfl (ci := 0) rfl rfl rfl hl.1 rfl (Nat.le_of_ble_eq_true rfl) dX3_window_60 ⟨Nat.zero_le _, Nat.zero_le _⟩) hP hS (fun r34 _ H locs hr35 hP hS => ?_)
        subst hr35
        refine lv_goto (tgt := 77) hx hb dX3_window_63 (by decide) ?_
        exact hret (f_X0_leastBreak N r (f_X0_layerOf (p0 + (1 : Int32))) (f_X0_layerOf p1)) () _ _ _ _ dX3_window_77 (ht.trans (by simp only [f_X3_window, if_neg c20, if_neg c24, if_neg c29])) hP hS
    · have hok := hok.1 c24
      exact K24 H locs ls (ht.trans (by simp only [f_X3_window, if_neg c20, if_pos c24])) hP hS (lv_sub hl [0] rfl)

/-! X3_casings -/
def f_X3_casings (N : Nat) (r : RS) (p0 : Int32) : Nat × Int32 :=
  if (f_X3_isWithin p0 (1 : Int32) (5000 : Int32)) = 0 then (2, 0) else (0, f_X0_piecesFromAbove N r (f_X0_layerOf p0))

def ok_X3_casings (N : Nat) (r : RS) (p0 : Int32) : Prop :=
  ((f_X3_isWithin p0 (1 : Int32) (5000 : Int32)) = 0 → True) ∧ (¬ (f_X3_isWithin p0 (1 : Int32) (5000 : Int32)) = 0 → ((ok_X0_piecesFromAbove N r (f_X0_layerOf p0)) ∧ True))

abbrev RM_X3_casings : Room := { frames := 6, cells := 1, slots := 6, locals := 90 }
set_option maxRecDepth 100000 in
set_option maxHeartbeats 4000000 in
theorem c_X3_casings (l : Launch) (D : va_G) (q : Nat → ClassId) (sz : Nat) (h : Nat) (aw : Nat) (av : Nat) (kr : Nat → Nat) (kt : Nat → Nat) (x : XS) (w : WS) (v : WS) (r : RS) (t : TS) (p0 : Int32) (N : Nat) (hok : ok_X3_casings N r p0) (hstk : l.stackTraces = false) : vx_Met l yX3_casings (Cond.code yX3_casings cX3_casings 2 (some .int) :: ALL) RM_X3_casings (PX D q [.ref h, .int p0] (cKick h aw av kr kt q x w v r t) sz) (va_Qi (fun (rv : Int32) (_ : Unit) => f_X3_casings N r p0 = (0, rv)) (fun (_ : Unit) t9 => va_P D vwCl (cKick h aw av kr kt q x w v r t) t9.heap) (va_A (cKick h aw av kr kt q x w v r t) sz)) (XCk D (cKick h aw av kr kt q x w v r t) sz (fun k => (f_X3_casings N r p0).1 = k ∧ (k = 2))) 1 6 (va_A (cKick h aw av kr kt q x w v r t) sz) := by
  refine en_xi hstk rfl (by decide +kernel) (Nat.le_of_ble_eq_true rfl) ⟨Nat.le_of_ble_eq_true rfl, Nat.le_of_ble_eq_true rfl, rfl, rfl⟩ ?_
  intro p e s m args below meth c Q A H locs ls fx hD0 hA hP hS hl hret hthr
  have hx := fx.1
  have hb := fx.2.1
  have hl : lv_has ls 2 [(0, .ref h), (1, .int p0)] := hl
  have hD : ∀ (x9 : XS) (w9 : WS) (v9 : WS) (r9 : RS) (t9 : TS), va_D _ (cKick h aw av kr kt q x9 w9 v9 r9 t9) := fun _ _ _ _ _ => D_same ((fst_Kick _ _ _ _ _ _ _ _ _ _ _).trans (fst_Kick _ _ _ _ _ _ _ _ _ _ _).symm) hD0
  have ht : f_X3_casings N r p0 = f_X3_casings N r p0 := rfl
  simp only [ok_X3_casings] at hok
  refine lv_iload_n hx hb dX3_casings_0 rfl (lv_at hl 1 rfl) ?_
  refine lv_iconst (v := 1) hx hb dX3_casings_1 (by decide) ?_
  refine lv_sipush (v := 5000) hx hb dX3_casings_2 (by decide) ?_
  refine kR_i (runS fx (As := [.int p0, .int (1 : Int32), .int (5000 : Int32)]) (rest := []) (c_X3_isWithin l D q H.size p0 (1 : Int32) (5000 : Int32)) lk_X3_39 ⟨Nat.le_of_ble_eq_true rfl, Nat.le_of_ble_eq_true rfl⟩ ⟨rfl, rfl⟩ hP (hD _ _ _ _ _) [] rfl rfl rfl hl.1 rfl (Nat.le_of_ble_eq_true rfl) dX3_casings_5 ⟨Nat.zero_le _, Nat.zero_le _⟩) hP hS (fun r1 _ H locs hr2 hP hS => ?_)
  obtain ⟨rfl, hz3⟩ := hr2
  refine lv_if_ne (tgt := 21) hx hb dX3_casings_8 (by decide) (fun c4 => ?_) (fun c4 => ?_)
  · have hok := hok.2 c4
    refine lv_aload_n hx hb dX3_casings_21 rfl (lv_at hl 0 rfl) ?_
    refine gf_X3_10 fx hP 0 rfl dX3_casings_22 ?_
    refine lv_iload_n hx hb dX3_casings_25 rfl (lv_at hl 1 rfl) ?_
    refine kR_i (runSN fx (As := [.int p0]) (rest := [.ref (kr 0)]) (c_X0_layerOf l D q H.size p0) lk_X3_240 ⟨Nat.le_of_ble_eq_true rfl, Nat.le_of_ble_eq_true rfl⟩ ⟨rfl, rfl⟩ hP (hD _ _ _ _ _) [] rfl rfl rfl hl.1 rfl (Nat.le_of_ble_eq_true rfl) dX3_casings_26 ⟨Nat.zero_le _, Nat.zero_le _⟩) hP hS (fun r5 _ H locs hr6 hP hS => ?_)
    subst hr6
    obtain ⟨hk7, hok⟩ := hok
    refine kR_i (runVN fx (As := [.int (f_X0_layerOf p0)]) (rest := []) (c_X0_piecesFromAbove l D q H.size kr r (f_X0_layerOf p0) N hk7) lk_X3_252 ⟨Nat.le_of_ble_eq_true rfl, Nat.le_of_ble_eq_true rfl⟩ ⟨rfl, rfl⟩ hP (hD _ _ _ _ _) [3, 4, 5, 6, 7, 8] rfl rfl (ci := 0) rfl rfl rfl hl.1 rfl (Nat.le_of_ble_eq_true rfl) dX3_casings_29 ⟨Nat.zero_le _, Nat.zero_le _⟩) hP hS (fun r8 _ H locs hr9 hP hS => ?_)
    subst hr9
    exact hret (f_X0_piecesFromAbove N r (f_X0_layerOf p0)) () _ _ _ _ dX3_casings_32 (ht.trans (by simp only [f_X3_casings, if_neg c4])) hP hS
  · have hok := hok.1 c4
    exact hthr 2 250 "to is out of range" 11 H locs ls [] (Or.inr (Or.inl rfl)) hl.1 (Nat.le_of_ble_eq_true rfl) (List.mem_of_getElem? (i := 22) rfl) ⟨dX3_casings_11, dX3_casings_14, Or.inl ⟨dX3_casings_15, dX3_casings_17, dX3_casings_20⟩⟩ ⟨congrArg Prod.fst (show f_X3_casings N r p0 = (2, 0) from ht.trans (by simp only [f_X3_casings, if_pos c4])), by decide⟩ hP hS

/-! X3_casingsAnew -/
def f_X3_casingsAnew (N : Nat) (r : RS) (p0 : Int32) : Nat × Int32 × RS :=
  if (f_X3_isWithin p0 (1 : Int32) (5000 : Int32)) = 0 then (2, 0, r) else (0, (f_X0_piecesFromAll N r (f_X0_layerOf p0)).1, ((f_X0_piecesFromAll N r (f_X0_layerOf p0)).2))

def ok_X3_casingsAnew (N : Nat) (r : RS) (p0 : Int32) : Prop :=
  ((f_X3_isWithin p0 (1 : Int32) (5000 : Int32)) = 0 → True) ∧ (¬ (f_X3_isWithin p0 (1 : Int32) (5000 : Int32)) = 0 → ((ok_X0_piecesFromAll N r (f_X0_layerOf p0)) ∧ True))

abbrev RM_X3_casingsAnew : Room := { frames := 6, cells := 1, slots := 6, locals := 90 }
set_option maxRecDepth 100000 in
set_option maxHeartbeats 4000000 in
theorem c_X3_casingsAnew (l : Launch) (D : va_G) (q : Nat → ClassId) (sz : Nat) (h : Nat) (aw : Nat) (av : Nat) (kr : Nat → Nat) (kt : Nat → Nat) (x : XS) (w : WS) (v : WS) (r : RS) (t : TS) (p0 : Int32) (N : Nat) (hok : ok_X3_casingsAnew N r p0) (hstk : l.stackTraces = false) : vx_Met l yX3_casingsAnew (Cond.code yX3_casingsAnew cX3_casingsAnew 2 (some .int) :: ALL) RM_X3_casingsAnew (PX D q [.ref h, .int p0] (cKick h aw av kr kt q x w v r t) sz) (va_Qi (fun (rv : Int32) (u : RS) => f_X3_casingsAnew N r p0 = (0, rv, u)) (fun u t9 => va_P D vwCl (cKick h aw av kr kt q x w v u t) t9.heap) (va_A (cKick h aw av kr kt q x w v r t) sz)) (XCk D (cKick h aw av kr kt q x w v r t) sz (fun k => (f_X3_casingsAnew N r p0).1 = k ∧ (k = 2))) 1 6 (va_A (cKick h aw av kr kt q x w v r t) sz) := by
  refine en_xi hstk rfl (by decide +kernel) (Nat.le_of_ble_eq_true rfl) ⟨Nat.le_of_ble_eq_true rfl, Nat.le_of_ble_eq_true rfl, rfl, rfl⟩ ?_
  intro p e s m args below meth c Q A H locs ls fx hD0 hA hP hS hl hret hthr
  have hx := fx.1
  have hb := fx.2.1
  have hl : lv_has ls 2 [(0, .ref h), (1, .int p0)] := hl
  have hD : ∀ (x9 : XS) (w9 : WS) (v9 : WS) (r9 : RS) (t9 : TS), va_D _ (cKick h aw av kr kt q x9 w9 v9 r9 t9) := fun _ _ _ _ _ => D_same ((fst_Kick _ _ _ _ _ _ _ _ _ _ _).trans (fst_Kick _ _ _ _ _ _ _ _ _ _ _).symm) hD0
  have ht : f_X3_casingsAnew N r p0 = f_X3_casingsAnew N r p0 := rfl
  simp only [ok_X3_casingsAnew] at hok
  refine lv_iload_n hx hb dX3_casingsAnew_0 rfl (lv_at hl 1 rfl) ?_
  refine lv_iconst (v := 1) hx hb dX3_casingsAnew_1 (by decide) ?_
  refine lv_sipush (v := 5000) hx hb dX3_casingsAnew_2 (by decide) ?_
  refine kR_i (runS fx (As := [.int p0, .int (1 : Int32), .int (5000 : Int32)]) (rest := []) (c_X3_isWithin l D q H.size p0 (1 : Int32) (5000 : Int32)) lk_X3_39 ⟨Nat.le_of_ble_eq_true rfl, Nat.le_of_ble_eq_true rfl⟩ ⟨rfl, rfl⟩ hP (hD _ _ _ _ _) [] rfl rfl rfl hl.1 rfl (Nat.le_of_ble_eq_true rfl) dX3_casingsAnew_5 ⟨Nat.zero_le _, Nat.zero_le _⟩) hP hS (fun r1 _ H locs hr2 hP hS => ?_)
  obtain ⟨rfl, hz3⟩ := hr2
  refine lv_if_ne (tgt := 21) hx hb dX3_casingsAnew_8 (by decide) (fun c4 => ?_) (fun c4 => ?_)
  · have hok := hok.2 c4
    refine lv_aload_n hx hb dX3_casingsAnew_21 rfl (lv_at hl 0 rfl) ?_
    refine gf_X3_10 fx hP 0 rfl dX3_casingsAnew_22 ?_
    refine lv_iload_n hx hb dX3_casingsAnew_25 rfl (lv_at hl 1 rfl) ?_
    refine kR_i (runSN fx (As := [.int p0]) (rest := [.ref (kr 0)]) (c_X0_layerOf l D q H.size p0) lk_X3_240 ⟨Nat.le_of_ble_eq_true rfl, Nat.le_of_ble_eq_true rfl⟩ ⟨rfl, rfl⟩ hP (hD _ _ _ _ _) [] rfl rfl rfl hl.1 rfl (Nat.le_of_ble_eq_true rfl) dX3_casingsAnew_26 ⟨Nat.zero_le _, Nat.zero_le _⟩) hP hS (fun r5 _ H locs hr6 hP hS => ?_)
    subst hr6
    obtain ⟨hk7, hok⟩ := hok
    refine kW_i (runVN fx (As := [.int (f_X0_layerOf p0)]) (rest := []) (c_X0_piecesFromAll l D q H.size kr r (f_X0_layerOf p0) N hk7) lk_X3_255 ⟨Nat.le_of_ble_eq_true rfl, Nat.le_of_ble_eq_true rfl⟩ ⟨rfl, rfl⟩ hP (hD _ _ _ _ _) [3, 4, 5, 6, 7, 8] rfl rfl (ci := 0) rfl rfl rfl hl.1 rfl (Nat.le_of_ble_eq_true rfl) dX3_casingsAnew_29 ⟨Nat.zero_le _, Nat.zero_le _⟩) hP (hD _ _ _ _ _) hS hA [3, 4, 5, 6, 7, 8] rfl (fun _ => rfl) (fun r10 u8 H locs hw9 hP hS => ?_)
    have hP : va_P D vwCl (cKick h aw av kr kt q x w v u8 t) H := hP
    try simp only [hw9] at hok
    exact hret r10 u8 _ _ _ _ dX3_casingsAnew_32 (ht.trans (by first | (simp only [f_X3_casingsAnew, if_neg c4, hw9]; done) | (simp only [f_X3_casingsAnew, hw9]; simp only [if_neg c4]))) hP hS
  · have hok := hok.1 c4
    exact hthr 2 250 "to is out of range" 11 H locs ls [] (Or.inr (Or.inl rfl)) hl.1 (Nat.le_of_ble_eq_true rfl) (List.mem_of_getElem? (i := 22) rfl) ⟨dX3_casingsAnew_11, dX3_casingsAnew_14, Or.inl ⟨dX3_casingsAnew_15, dX3_casingsAnew_17, dX3_casingsAnew_20⟩⟩ ⟨congrArg Prod.fst (show f_X3_casingsAnew N r p0 = (2, 0, r) from ht.trans (by simp only [f_X3_casingsAnew, if_pos c4])), by decide⟩ hP hS

/-! X3_equivalent -/
def f_X3_equivalent (w : WS) : Nat × UInt32 :=
  if 0 < (W_shoe w) then (0, FP.fdiv (FP.i2f ((10 : Int32) * (f_X2_foot w))) (FP.i2f (W_shoe w))) else (3, 0)

def ok_X3_equivalent (w : WS) : Prop :=
  (0 < (W_shoe w) → ((vf_n32 (FP.fdiv (FP.i2f ((10 : Int32) * (f_X2_foot w))) (FP.i2f (W_shoe w)))) ∧ True)) ∧ (¬ 0 < (W_shoe w) → True)

abbrev RM_X3_equivalent : Room := { frames := 6, cells := 1, slots := 6, locals := 90 }
set_option maxRecDepth 100000 in
set_option maxHeartbeats 4000000 in
theorem c_X3_equivalent (l : Launch) (D : va_G) (q : Nat → ClassId) (sz : Nat) (h : Nat) (aw : Nat) (av : Nat) (kr : Nat → Nat) (kt : Nat → Nat) (x : XS) (w : WS) (v : WS) (r : RS) (t : TS) (hok : ok_X3_equivalent w) (hstk : l.stackTraces = false) : vx_Met l yX3_equivalent (Cond.code yX3_equivalent cX3_equivalent 2 (some .float) :: ALL) RM_X3_equivalent (PX D q [.ref h] (cKick h aw av kr kt q x w v r t) sz) (va_Qf (fun (rv : UInt32) (_ : Unit) => f_X3_equivalent w = (0, rv)) (fun (_ : Unit) t9 => va_P D vwCl (cKick h aw av kr kt q x w v r t) t9.heap) (va_A (cKick h aw av kr kt q x w v r t) sz)) (XCk D (cKick h aw av kr kt q x w v r t) sz (fun k => (f_X3_equivalent w).1 = k ∧ (k = 3))) 1 6 (va_A (cKick h aw av kr kt q x w v r t) sz) := by
  refine en_xf hstk rfl (by decide +kernel) (Nat.le_of_ble_eq_true rfl) ⟨Nat.le_of_ble_eq_true rfl, Nat.le_of_ble_eq_true rfl, rfl, rfl⟩ ?_
  intro p e s m args below meth c Q A H locs ls fx hD0 hA hP hS hl hret hthr
  have hx := fx.1
  have hb := fx.2.1
  have hl : lv_has ls 2 [(0, .ref h)] := hl
  have hD : ∀ (x9 : XS) (w9 : WS) (v9 : WS) (r9 : RS) (t9 : TS), va_D _ (cKick h aw av kr kt q x9 w9 v9 r9 t9) := fun _ _ _ _ _ => D_same ((fst_Kick _ _ _ _ _ _ _ _ _ _ _).trans (fst_Kick _ _ _ _ _ _ _ _ _ _ _).symm) hD0
  have ht : f_X3_equivalent w = f_X3_equivalent w := rfl
  simp only [ok_X3_equivalent] at hok
  refine lv_aload_n hx hb dX3_equivalent_0 rfl (lv_at hl 0 rfl) ?_
  refine gf_X3_21 fx hP 0 rfl dX3_equivalent_1 ?_
  refine gf_X3_123 fx hP 1 rfl (v := W_shoe w) rfl dX3_equivalent_4 ?_
  refine lv_istore_n (lv' := [(1, .int (W_shoe w)), (0, .ref h)]) hx hb dX3_equivalent_7 rfl hl (by decide) rfl (fun ls hl => ?_)
  refine lv_iload_n hx hb dX3_equivalent_8 rfl (lv_at hl 0 rfl) ?_
  refine lv_if_gt (tgt := 23) hx hb dX3_equivalent_9 (by decide) (fun c1 => ?_) (fun c1 => ?_)
  · have hok := hok.1 c1
    refine lv_bipush (v := 10) hx hb dX3_equivalent_23 (by decide) ?_
    refine lv_aload_n hx hb dX3_equivalent_25 rfl (lv_at hl 1 rfl) ?_
    refine gf_X3_21 fx hP 0 rfl dX3_equivalent_26 ?_
    refine kR_i (runVN fx (As := []) (rest := [.int (10 : Int32)]) (c_X2_foot l D q H.size aw kr w r) lk_X3_177 ⟨Nat.le_of_ble_eq_true rfl, Nat.le_of_ble_eq_true rfl⟩ ⟨rfl, rfl⟩ hP (hD _ _ _ _ _) [1, 3, 4, 5, 6, 7, 8] rfl rfl (ci := 2) rfl rfl rfl hl.1 rfl (Nat.le_of_ble_eq_true rfl) dX3_equivalent_29 ⟨Nat.zero_le _, Nat.zero_le _⟩) hP hS (fun r2 _ H locs hr3 hP hS => ?_)
    subst hr3
    refine lv_imul hx hb dX3_equivalent_32 ?_
    refine lv_i2f hx hb dX3_equivalent_33 ?_
    refine lv_iload_n hx hb dX3_equivalent_34 rfl (lv_at hl 0 rfl) ?_
    refine lv_i2f hx hb dX3_equivalent_35 ?_
    obtain ⟨hf4, hok⟩ := hok
    refine lv_fdiv hx hb dX3_equivalent_36 hf4 ?_
    exact hret (FP.fdiv (FP.i2f ((10 : Int32) * (f_X2_foot w))) (FP.i2f (W_shoe w))) () _ _ _ _ dX3_equivalent_37 (ht.trans (by simp only [f_X3_equivalent, if_pos c1])) hP hS
  · have hok := hok.2 c1
    exact hthr 3 258 "the shoe is 0" 12 H locs ls [] (Or.inr (Or.inr rfl)) hl.1 (Nat.le_of_ble_eq_true rfl) (List.mem_of_getElem? (i := 23) rfl) ⟨dX3_equivalent_12, dX3_equivalent_15, Or.inr ⟨dX3_equivalent_16, dX3_equivalent_19, dX3_equivalent_22⟩⟩ ⟨congrArg Prod.fst (show f_X3_equivalent w = (3, 0) from ht.trans (by simp only [f_X3_equivalent, if_neg c1])), by decide⟩ hP hS

/-! X3_ahead -/
def f_X3_ahead (N : Nat) (w : WS) (v : WS) (r : RS) (p0 : Int32) : Nat × Int32 × WS :=
  if (f_X3_isWithin p0 (1 : Int32) (2000 : Int32)) = 0 then (2, 0, v) else (0, (f_X2_letMinutesGo N (f_X2_become v w) r p0).1, ((f_X2_letMinutesGo N (f_X2_become v w) r p0).2))

def ok_X3_ahead (N : Nat) (w : WS) (v : WS) (r : RS) (p0 : Int32) : Prop :=
  ((f_X3_isWithin p0 (1 : Int32) (2000 : Int32)) = 0 → True) ∧ (¬ (f_X3_isWithin p0 (1 : Int32) (2000 : Int32)) = 0 → ((ok_X2_become w) ∧ ((ok_X2_letMinutesGo N (f_X2_become v w) r p0) ∧ True)))

abbrev RM_X3_ahead : Room := { frames := 6, cells := 1, slots := 6, locals := 131 }
set_option maxRecDepth 100000 in
set_option maxHeartbeats 4000000 in
theorem c_X3_ahead (l : Launch) (D : va_G) (q : Nat → ClassId) (sz : Nat) (h : Nat) (aw : Nat) (av : Nat) (kr : Nat → Nat) (kt : Nat → Nat) (x : XS) (w : WS) (v : WS) (r : RS) (t : TS) (p0 : Int32) (N : Nat) (hok : ok_X3_ahead N w v r p0) (hstk : l.stackTraces = false) : vx_Met l yX3_ahead (Cond.code yX3_ahead cX3_ahead 2 (some .int) :: ALL) RM_X3_ahead (PX D q [.ref h, .int p0] (cKick h aw av kr kt q x w v r t) sz) (va_Qi (fun (rv : Int32) (u : WS) => f_X3_ahead N w v r p0 = (0, rv, u)) (fun u t9 => va_P D vwCl (cKick h aw av kr kt q x w u r t) t9.heap) (va_A (cKick h aw av kr kt q x w v r t) sz)) (XCk D (cKick h aw av kr kt q x w v r t) sz (fun k => (f_X3_ahead N w v r p0).1 = k ∧ (k = 2))) 1 6 (va_A (cKick h aw av kr kt q x w v r t) sz) := by
  refine en_xi hstk rfl (by decide +kernel) (Nat.le_of_ble_eq_true rfl) ⟨Nat.le_of_ble_eq_true rfl, Nat.le_of_ble_eq_true rfl, rfl, rfl⟩ ?_
  intro p e s m args below meth c Q A H locs ls fx hD0 hA hP hS hl hret hthr
  have hx := fx.1
  have hb := fx.2.1
  have hl : lv_has ls 2 [(0, .ref h), (1, .int p0)] := hl
  have hD : ∀ (x9 : XS) (w9 : WS) (v9 : WS) (r9 : RS) (t9 : TS), va_D _ (cKick h aw av kr kt q x9 w9 v9 r9 t9) := fun _ _ _ _ _ => D_same ((fst_Kick _ _ _ _ _ _ _ _ _ _ _).trans (fst_Kick _ _ _ _ _ _ _ _ _ _ _).symm) hD0
  have ht : f_X3_ahead N w v r p0 = f_X3_ahead N w v r p0 := rfl
  simp only [ok_X3_ahead] at hok
  refine lv_iload_n hx hb dX3_ahead_0 rfl (lv_at hl 1 rfl) ?_
  refine lv_iconst (v := 1) hx hb dX3_ahead_1 (by decide) ?_
  refine lv_sipush (v := 2000) hx hb dX3_ahead_2 (by decide) ?_
  refine kR_i (runS fx (As := [.int p0, .int (1 : Int32), .int (2000 : Int32)]) (rest := []) (c_X3_isWithin l D q H.size p0 (1 : Int32) (2000 : Int32)) lk_X3_39 ⟨Nat.le_of_ble_eq_true rfl, Nat.le_of_ble_eq_true rfl⟩ ⟨rfl, rfl⟩ hP (hD _ _ _ _ _) [] rfl rfl rfl hl.1 rfl (Nat.le_of_ble_eq_true rfl) dX3_ahead_5 ⟨Nat.zero_le _, Nat.zero_le _⟩) hP hS (fun r1 _ H locs hr2 hP hS => ?_)
  obtain ⟨rfl, hz3⟩ := hr2
  refine lv_if_ne (tgt := 21) hx hb dX3_ahead_8 (by decide) (fun c4 => ?_) (fun c4 => ?_)
  · have hok := hok.2 c4
    refine lv_aload_n hx hb dX3_ahead_21 rfl (lv_at hl 0 rfl) ?_
    refine gf_X3_25 fx hP 0 rfl dX3_ahead_22 ?_
    refine lv_aload_n hx hb dX3_ahead_25 rfl (lv_at hl 0 rfl) ?_
    refine gf_X3_21 fx hP 0 rfl dX3_ahead_26 ?_
    obtain ⟨hk5, hok⟩ := hok
    refine kW_v (runVN fx (As := [.ref aw]) (rest := []) (c_X2_become l D q H.size av aw kr v w hk5) lk_X3_260 ⟨Nat.le_of_ble_eq_true rfl, Nat.le_of_ble_eq_true rfl⟩ ⟨rfl, rfl⟩ hP (hD _ _ _ _ _) [2, 1] rfl rfl (ci := 2) rfl rfl rfl hl.1 rfl (Nat.le_of_ble_eq_true rfl) dX3_ahead_29 ⟨Nat.zero_le _, Nat.zero_le _⟩) hP (hD _ _ _ _ _) hS hA [2, 1] rfl (fun _ => rfl) (fun u6 H locs hw7 hP hS => ?_)
    have hP : va_P D vwCl (cKick h aw av kr kt q x w u6 r t) H := hP
    try simp only [hw7] at hok
    refine lv_aload_n hx hb dX3_ahead_32 rfl (lv_at hl 0 rfl) ?_
    refine gf_X3_25 fx hP 0 rfl dX3_ahead_33 ?_
    refine lv_iload_n hx hb dX3_ahead_36 rfl (lv_at hl 1 rfl) ?_
    obtain ⟨hk8, hok⟩ := hok
    refine kW_i (runVN fx (As := [.int p0]) (rest := []) (c_X2_letMinutesGo l D q H.size av kr u6 r p0 N hk8) lk_X3_101 ⟨Nat.le_of_ble_eq_true rfl, Nat.le_of_ble_eq_true rfl⟩ ⟨rfl, rfl⟩ hP (hD _ _ _ _ _) [2, 3, 4, 5, 6, 7, 8] rfl rfl (ci := 2) rfl rfl rfl hl.1 rfl (Nat.le_of_ble_eq_true rfl) dX3_ahead_37 ⟨Nat.zero_le _, Nat.zero_le _⟩) hP (hD _ _ _ _ _) hS hA [2, 3, 4, 5, 6, 7, 8] rfl (fun _ => rfl) (fun r11 u9 H locs hw10 hP hS => ?_)
    have hP : va_P D vwCl (cKick h aw av kr kt q x w u9 r t) H := hP
    try simp only [hw10] at hok
    exact hret r11 u9 _ _ _ _ dX3_ahead_40 (ht.trans (by first | (simp only [f_X3_ahead, if_neg c4, hw7, hw10]; done) | (simp only [f_X3_ahead, hw7, hw10]; simp only [if_neg c4]))) hP hS
  · have hok := hok.1 c4
    exact hthr 2 97 "minutes is out of range" 11 H locs ls [] (Or.inr (Or.inl rfl)) hl.1 (Nat.le_of_ble_eq_true rfl) (List.mem_of_getElem? (i := 7) rfl) ⟨dX3_ahead_11, dX3_ahead_14, Or.inl ⟨dX3_ahead_15, dX3_ahead_17, dX3_ahead_20⟩⟩ ⟨congrArg Prod.fst (show f_X3_ahead N w v r p0 = (2, 0, v) from ht.trans (by simp only [f_X3_ahead, if_pos c4])), by decide⟩ hP hS

