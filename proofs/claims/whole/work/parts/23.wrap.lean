/-! L_layer -/
def f_L_layer (w : WS) (r : RS) (p0 : Int32) (p1 : Int32) (p2 : Int32) (p3 : Int32) (p4 : Int32) : Int32 × RS :=
  if (f_X3_layer w r p0 p1 p2 p3 p4).1 = 0 then ((0 : Int32), ((f_X3_layer w r p0 p1 p2 p3 p4).2)) else (if (f_X3_layer w r p0 p1 p2 p3 p4).1 = 1 then ((1 : Int32), r) else (if (f_X3_layer w r p0 p1 p2 p3 p4).1 = 2 then ((2 : Int32), r) else ((3 : Int32), r)))

abbrev RM_L_layer : Room := { frames := 7, cells := 1, slots := 6, locals := 115 }
set_option maxRecDepth 100000 in
set_option maxHeartbeats 4000000 in
theorem c_L_layer (l : Launch) (D : va_G) (q : Nat → ClassId) (sz : Nat) (h : Nat) (aw : Nat) (av : Nat) (kr : Nat → Nat) (kt : Nat → Nat) (x : XS) (w : WS) (v : WS) (r : RS) (t : TS) (p0 : Int32) (p1 : Int32) (p2 : Int32) (p3 : Int32) (p4 : Int32) (hstk : l.stackTraces = false) : Met l yL_layer (Cond.codeWith yL_layer cL_layer 7 (some .int) [(0, 11, 14, 13), (0, 11, 18, 15), (0, 11, 22, 17)] :: ALL) RM_L_layer (PX D q [.ref h, .int p0, .int p1, .int p2, .int p3, .int p4] (cKick h aw av kr kt q x w v r t) sz) (va_Qi (fun (rv : Int32) (u : RS) => f_L_layer w r p0 p1 p2 p3 p4 = (rv, u)) (fun u t9 => va_P D vwCl (cKick h aw av kr kt q x w v u t) t9.heap) (va_A (cKick h aw av kr kt q x w v r t) sz)) 1 6 (va_A (cKick h aw av kr kt q x w v r t) sz) := by
  refine en_w rfl (by decide +kernel) (Nat.le_of_ble_eq_true rfl) ?_
  intro p e s m args below meth c Q A H locs ls fx hSX hSZ htab hD0 hA hP hS hl hret
  have hx := fx.1
  have hb := fx.2.1
  have hl : lv_has ls 7 [(0, .ref h), (1, .int p0), (2, .int p1), (3, .int p2), (4, .int p3), (5, .int p4)] := hl
  have hD : ∀ (x9 : XS) (w9 : WS) (v9 : WS) (r9 : RS) (t9 : TS), va_D _ (cKick h aw av kr kt q x9 w9 v9 r9 t9) := fun _ _ _ _ _ => D_same ((fst_Kick _ _ _ _ _ _ _ _ _ _ _).trans (fst_Kick _ _ _ _ _ _ _ _ _ _ _).symm) hD0
  have ht : f_L_layer w r p0 p1 p2 p3 p4 = f_L_layer w r p0 p1 p2 p3 p4 := rfl
  refine lv_aload_n hx hb dL_layer_0 rfl (lv_at hl 0 rfl) ?_
  refine lv_iload_n hx hb dL_layer_1 rfl (lv_at hl 1 rfl) ?_
  refine lv_iload_n hx hb dL_layer_2 rfl (lv_at hl 2 rfl) ?_
  refine lv_iload_n hx hb dL_layer_3 rfl (lv_at hl 3 rfl) ?_
  refine lv_iload hx hb dL_layer_4 (lv_at hl 4 rfl) ?_
  refine lv_iload hx hb dL_layer_6 (lv_at hl 5 rfl) ?_
  refine kX_v (xrun fx hSX hSZ (As := [.int p0, .int p1, .int p2, .int p3, .int p4]) (rest := []) (c_X3_layer l D q H.size h aw av kr kt x w v r t p0 p1 p2 p3 p4 hstk) lk_L_7 ⟨Nat.le_of_ble_eq_true rfl, Nat.le_of_ble_eq_true rfl⟩ ⟨rfl, rfl⟩ hP (hD _ _ _ _ _) hS hA [0, 1, 2, 3, 4, 5, 6, 7, 8, 9, 10, 11, 12, 13] rfl rfl (ci := 3) rfl rfl rfl hl.1 rfl (Nat.le_of_ble_eq_true rfl) dL_layer_8 ⟨Nat.le_of_ble_eq_true rfl, Nat.le_of_ble_eq_true rfl⟩) hP (hD _ _ _ _ _) hS hA [0, 1, 2, 3, 4, 5, 6, 7, 8, 9, 10, 11, 12, 13] rfl (fun _ => rfl) (fun k ce q9 H locs hp hP hS hce hcv hcl => ?_) (fun u1 H locs hw2 hP hS => ?_)
  · have hP : va_P D vwCl (cKick h aw av kr kt q x w v r t) H := hP
    obtain ⟨hk4, hor⟩ := hp
    rcases hor with rfl | rfl | rfl
    · have n3 : ¬ (f_X3_layer w r p0 p1 p2 p3 p4).1 = 0 := by rw [hk4]; decide
      refine catchK (k := 1) fx hSX htab [] [(0, 11, 18, 15), (0, 11, 22, 17)] rfl (fun z hz => by simp at hz) (Or.inl rfl) rfl ⟨by decide, by decide⟩ hce hcv hcl ?_
      refine lv_astore (lv' := [(6, .ref q9), (0, .ref h), (1, .int p0), (2, .int p1), (3, .int p2), (4, .int p3), (5, .int p4)]) hx hb dL_layer_14 hl (by decide) rfl (fun ls hl => ?_)
      refine lv_iconst (v := 1) hx hb dL_layer_16 (by decide) ?_
      exact hret (1 : Int32) r _ _ _ _ dL_layer_17 (ht.trans (by simp only [f_L_layer, if_neg n3, if_pos hk4])) hP hS
    · have n3 : ¬ (f_X3_layer w r p0 p1 p2 p3 p4).1 = 0 := by rw [hk4]; decide
      have n3_1 : ¬ (f_X3_layer w r p0 p1 p2 p3 p4).1 = 1 := by rw [hk4]; decide
      refine catchK (k := 2) fx hSX htab [(0, 11, 14, 13)] [(0, 11, 22, 17)] rfl (fun z hz => by simp only [List.mem_cons, List.not_mem_nil, or_false] at hz; rcases hz with rfl; exact ⟨1, rfl, by decide, by decide⟩) (Or.inr (Or.inl rfl)) rfl ⟨by decide, by decide⟩ hce hcv hcl ?_
      refine lv_astore (lv' := [(6, .ref q9), (0, .ref h), (1, .int p0), (2, .int p1), (3, .int p2), (4, .int p3), (5, .int p4)]) hx hb dL_layer_18 hl (by decide) rfl (fun ls hl => ?_)
      refine lv_iconst (v := 2) hx hb dL_layer_20 (by decide) ?_
      exact hret (2 : Int32) r _ _ _ _ dL_layer_21 (ht.trans (by simp only [f_L_layer, if_neg n3, if_neg n3_1, if_pos hk4])) hP hS
    · have n3 : ¬ (f_X3_layer w r p0 p1 p2 p3 p4).1 = 0 := by rw [hk4]; decide
      have n3_1 : ¬ (f_X3_layer w r p0 p1 p2 p3 p4).1 = 1 := by rw [hk4]; decide
      have n3_2 : ¬ (f_X3_layer w r p0 p1 p2 p3 p4).1 = 2 := by rw [hk4]; decide
      refine catchK (k := 3) fx hSX htab [(0, 11, 14, 13), (0, 11, 18, 15)] [] rfl (fun z hz => by simp only [List.mem_cons, List.not_mem_nil, or_false] at hz; rcases hz with rfl | rfl; exact ⟨1, rfl, by decide, by decide⟩; exact ⟨2, rfl, by decide, by decide⟩) (Or.inr (Or.inr rfl)) rfl ⟨by decide, by decide⟩ hce hcv hcl ?_
      refine lv_astore (lv' := [(6, .ref q9), (0, .ref h), (1, .int p0), (2, .int p1), (3, .int p2), (4, .int p3), (5, .int p4)]) hx hb dL_layer_22 hl (by decide) rfl (fun ls hl => ?_)
      refine lv_iconst (v := 3) hx hb dL_layer_24 (by decide) ?_
      exact hret (3 : Int32) r _ _ _ _ dL_layer_25 (ht.trans (by simp only [f_L_layer, if_neg n3, if_neg n3_1, if_neg n3_2])) hP hS
  · have hP : va_P D vwCl (cKick h aw av kr kt q x w v u1 t) H := hP
    refine lv_goto (tgt := 26) hx hb dL_layer_11 (by decide) ?_
    refine lv_iconst (v := 0) hx hb dL_layer_26 (by decide) ?_
    exact hret (0 : Int32) u1 _ _ _ _ dL_layer_27 (ht.trans (by first | (simp only [f_L_layer, eq_self, if_true, hw2]; done) | (simp only [f_L_layer, hw2]; simp only [eq_self, if_true]))) hP hS

/-! L_mud -/
def f_L_mud (x : XS) (w : WS) (fo : (Nat → Int64)) (p0 : Int32) : Int32 × XS × WS × (Nat → Int64) :=
  if (f_X3_mud x w p0).1 = 0 then ((0 : Int32), ((f_X3_mud x w p0).2.2).1, ((f_X3_mud x w p0).2.2).2, vp_updL fo (0 : Int32).toNatClampNeg (f_X3_mud x w p0).2.1.toInt64) else (if (f_X3_mud x w p0).1 = 2 then ((1 : Int32), x, w, fo) else ((2 : Int32), x, w, fo))

abbrev RM_L_mud : Room := { frames := 7, cells := 1, slots := 6, locals := 112 }
set_option maxRecDepth 100000 in
set_option maxHeartbeats 4000000 in
theorem c_L_mud (l : Launch) (D : va_G) (q : Nat → ClassId) (sz : Nat) (h : Nat) (aw : Nat) (av : Nat) (kr : Nat → Nat) (kt : Nat → Nat) (ao : Nat) (x : XS) (w : WS) (v : WS) (r : RS) (t : TS) (fo : (Nat → Int64)) (p0 : Int32) (hstk : l.stackTraces = false) : Met l yL_mud (Cond.codeWith yL_mud cL_mud 4 (some .int) [(0, 9, 12, 15), (0, 9, 15, 17)] :: ALL) RM_L_mud (PX D q [.ref h, .int p0, .ref ao] (cWrap h aw av kr kt ao q x w v r t fo) sz) (va_Qi (fun (rv : Int32) (u : XS × WS × (Nat → Int64)) => f_L_mud x w fo p0 = (rv, u)) (fun u t9 => va_P D vwCl (cWrap h aw av kr kt ao q u.1 u.2.1 v r t u.2.2) t9.heap) (va_A (cWrap h aw av kr kt ao q x w v r t fo) sz)) 1 6 (va_A (cWrap h aw av kr kt ao q x w v r t fo) sz) := by
  refine en_w rfl (by decide +kernel) (Nat.le_of_ble_eq_true rfl) ?_
  intro p e s m args below meth c Q A H locs ls fx hSX hSZ htab hD0 hA hP hS hl hret
  have hx := fx.1
  have hb := fx.2.1
  have hl : lv_has ls 4 [(0, .ref h), (1, .int p0), (2, .ref ao)] := hl
  have hD : ∀ (x9 : XS) (w9 : WS) (v9 : WS) (r9 : RS) (t9 : TS) (fo9 : (Nat → Int64)), va_D _ (cWrap h aw av kr kt ao q x9 w9 v9 r9 t9 fo9) := fun _ _ _ _ _ _ => D_same ((fst_Wrap _ _ _ _ _ _ _ _ _ _ _ _ _).trans (fst_Wrap _ _ _ _ _ _ _ _ _ _ _ _ _).symm) hD0
  have ht : f_L_mud x w fo p0 = f_L_mud x w fo p0 := rfl
  refine lv_aload_n hx hb dL_mud_0 rfl (lv_at hl 2 rfl) ?_
  refine lv_iconst (v := 0) hx hb dL_mud_1 (by decide) ?_
  refine lv_aload_n hx hb dL_mud_2 rfl (lv_at hl 0 rfl) ?_
  refine lv_iload_n hx hb dL_mud_3 rfl (lv_at hl 1 rfl) ?_
  refine kX_i (xrun fx hSX hSZ (As := [.int p0]) (rest := [.int (0 : Int32), .ref ao]) (c_X3_mud l D q H.size h aw av kr kt x w v r t p0 hstk) lk_L_19 ⟨Nat.le_of_ble_eq_true rfl, Nat.le_of_ble_eq_true rfl⟩ ⟨rfl, rfl⟩ hP (hD _ _ _ _ _ _) hS hA [0, 1, 2, 3, 4, 5, 6, 7, 8, 9, 10, 11, 12, 13] rfl rfl (ci := 3) rfl rfl rfl hl.1 rfl (Nat.le_of_ble_eq_true rfl) dL_mud_4 ⟨Nat.le_of_ble_eq_true rfl, Nat.le_of_ble_eq_true rfl⟩) hP (hD _ _ _ _ _ _) hS hA [0, 1, 2, 3, 4, 5, 6, 7, 8, 9, 10, 11, 12, 13] rfl (fun _ => rfl) (fun k ce q9 H locs hp hP hS hce hcv hcl => ?_) (fun r1 u2 H locs hw3 hP hS => ?_)
  · have hP : va_P D vwCl (cWrap h aw av kr kt ao q x w v r t fo) H := hP
    obtain ⟨hk5, hor⟩ := hp
    rcases hor with rfl | rfl
    · have n4 : ¬ (f_X3_mud x w p0).1 = 0 := by rw [hk5]; decide
      refine catchK (k := 2) fx hSX htab [] [(0, 9, 15, 17)] rfl (fun z hz => by simp at hz) (Or.inr (Or.inl rfl)) rfl ⟨by decide, by decide⟩ hce hcv hcl ?_
      refine lv_astore_n (lv' := [(3, .ref q9), (0, .ref h), (1, .int p0), (2, .ref ao)]) hx hb dL_mud_12 rfl hl (by decide) rfl (fun ls hl => ?_)
      refine lv_iconst (v := 1) hx hb dL_mud_13 (by decide) ?_
      exact hret (1 : Int32) (x, w, fo) _ _ _ _ dL_mud_14 (ht.trans (by simp only [f_L_mud, if_neg n4, if_pos hk5])) hP hS
    · have n4 : ¬ (f_X3_mud x w p0).1 = 0 := by rw [hk5]; decide
      have n4_2 : ¬ (f_X3_mud x w p0).1 = 2 := by rw [hk5]; decide
      refine catchK (k := 3) fx hSX htab [(0, 9, 12, 15)] [] rfl (fun z hz => by simp only [List.mem_cons, List.not_mem_nil, or_false] at hz; rcases hz with rfl; exact ⟨2, rfl, by decide, by decide⟩) (Or.inr (Or.inr rfl)) rfl ⟨by decide, by decide⟩ hce hcv hcl ?_
      refine lv_astore_n (lv' := [(3, .ref q9), (0, .ref h), (1, .int p0), (2, .ref ao)]) hx hb dL_mud_15 rfl hl (by decide) rfl (fun ls hl => ?_)
      refine lv_iconst (v := 2) hx hb dL_mud_16 (by decide) ?_
      exact hret (2 : Int32) (x, w, fo) _ _ _ _ dL_mud_17 (ht.trans (by simp only [f_L_mud, if_neg n4, if_neg n4_2])) hP hS
  · have hP : va_P D vwCl (cWrap h aw av kr kt ao q u2.1 u2.2 v r t fo) H := hP
    refine lv_i2l (v := r1.toInt64) hx hb dL_mud_7 rfl ?_
    refine va_last hx hb fx.2.2.2.2.2.1 hP (hD _ _ _ _ _ _) hS 14 2 (f := fo) rfl rfl (by unfold vp_in; decide) dL_mud_8 (fun H locs hP _ hS => ?_)
    have hP : va_P D vwCl (cWrap h aw av kr kt ao q u2.1 u2.2 v r t (vp_updL fo (0 : Int32).toNatClampNeg r1.toInt64)) H := hP
    refine lv_goto (tgt := 18) hx hb dL_mud_9 (by decide) ?_
    refine lv_iconst (v := 0) hx hb dL_mud_18 (by decide) ?_
    exact hret (0 : Int32) (u2.1, u2.2, vp_updL fo (0 : Int32).toNatClampNeg r1.toInt64) _ _ _ _ dL_mud_19 (ht.trans (by first | (simp only [f_L_mud, eq_self, if_true, hw3]; done) | (simp only [f_L_mud, hw3]; simp only [eq_self, if_true]))) hP hS

/-! L_drill -/
def f_L_drill (N : Nat) (x : XS) (w : WS) (r : RS) (t : TS) (fo : (Nat → Int64)) (p0 : Int32) : Int32 × WS × (Nat → Int64) :=
  if (f_X3_drill N x w r t p0).1 = 0 then ((0 : Int32), ((f_X3_drill N x w r t p0).2.2), vp_updL fo (0 : Int32).toNatClampNeg (f_X3_drill N x w r t p0).2.1.toInt64) else (if (f_X3_drill N x w r t p0).1 = 2 then ((1 : Int32), w, fo) else ((2 : Int32), w, fo))

def ok_L_drill (N : Nat) (x : XS) (w : WS) (r : RS) (t : TS) (p0 : Int32) : Prop :=
  (ok_X3_drill N x w r t p0) ∧ True

abbrev RM_L_drill : Room := { frames := 7, cells := 1, slots := 6, locals := 146 }
set_option maxRecDepth 100000 in
set_option maxHeartbeats 4000000 in
theorem c_L_drill (l : Launch) (D : va_G) (q : Nat → ClassId) (sz : Nat) (h : Nat) (aw : Nat) (av : Nat) (kr : Nat → Nat) (kt : Nat → Nat) (ao : Nat) (x : XS) (w : WS) (v : WS) (r : RS) (t : TS) (fo : (Nat → Int64)) (p0 : Int32) (N : Nat) (hok : ok_L_drill N x w r t p0) (hstk : l.stackTraces = false) : Met l yL_drill (Cond.codeWith yL_drill cL_drill 4 (some .int) [(0, 9, 12, 15), (0, 9, 15, 17)] :: ALL) RM_L_drill (PX D q [.ref h, .int p0, .ref ao] (cWrap h aw av kr kt ao q x w v r t fo) sz) (va_Qi (fun (rv : Int32) (u : WS × (Nat → Int64)) => f_L_drill N x w r t fo p0 = (rv, u)) (fun u t9 => va_P D vwCl (cWrap h aw av kr kt ao q x u.1 v r t u.2) t9.heap) (va_A (cWrap h aw av kr kt ao q x w v r t fo) sz)) 1 6 (va_A (cWrap h aw av kr kt ao q x w v r t fo) sz) := by
  refine en_w rfl (by decide +kernel) (Nat.le_of_ble_eq_true rfl) ?_
  intro p e s m args below meth c Q A H locs ls fx hSX hSZ htab hD0 hA hP hS hl hret
  have hx := fx.1
  have hb := fx.2.1
  have hl : lv_has ls 4 [(0, .ref h), (1, .int p0), (2, .ref ao)] := hl
  have hD : ∀ (x9 : XS) (w9 : WS) (v9 : WS) (r9 : RS) (t9 : TS) (fo9 : (Nat → Int64)), va_D _ (cWrap h aw av kr kt ao q x9 w9 v9 r9 t9 fo9) := fun _ _ _ _ _ _ => D_same ((fst_Wrap _ _ _ _ _ _ _ _ _ _ _ _ _).trans (fst_Wrap _ _ _ _ _ _ _ _ _ _ _ _ _).symm) hD0
  have ht : f_L_drill N x w r t fo p0 = f_L_drill N x w r t fo p0 := rfl
  simp only [ok_L_drill] at hok
  refine lv_aload_n hx hb dL_drill_0 rfl (lv_at hl 2 rfl) ?_
  refine lv_iconst (v := 0) hx hb dL_drill_1 (by decide) ?_
  refine lv_aload_n hx hb dL_drill_2 rfl (lv_at hl 0 rfl) ?_
  refine lv_iload_n hx hb dL_drill_3 rfl (lv_at hl 1 rfl) ?_
  obtain ⟨hk1, hok⟩ := hok
  refine kX_i (xrun fx hSX hSZ (As := [.int p0]) (rest := [.int (0 : Int32), .ref ao]) (c_X3_drill l D q H.size h aw av kr kt x w v r t p0 N hk1 hstk) lk_L_23 ⟨Nat.le_of_ble_eq_true rfl, Nat.le_of_ble_eq_true rfl⟩ ⟨rfl, rfl⟩ hP (hD _ _ _ _ _ _) hS hA [0, 1, 2, 3, 4, 5, 6, 7, 8, 9, 10, 11, 12, 13] rfl rfl (ci := 3) rfl rfl rfl hl.1 rfl (Nat.le_of_ble_eq_true rfl) dL_drill_4 ⟨Nat.le_of_ble_eq_true rfl, Nat.le_of_ble_eq_true rfl⟩) hP (hD _ _ _ _ _ _) hS hA [0, 1, 2, 3, 4, 5, 6, 7, 8, 9, 10, 11, 12, 13] rfl (fun _ => rfl) (fun k ce q9 H locs hp hP hS hce hcv hcl => ?_) (fun r2 u3 H locs hw4 hP hS => ?_)
  · have hP : va_P D vwCl (cWrap h aw av kr kt ao q x w v r t fo) H := hP
    obtain ⟨hk6, hor⟩ := hp
    rcases hor with rfl | rfl
    · have n5 : ¬ (f_X3_drill N x w r t p0).1 = 0 := by rw [hk6]; decide
      refine catchK (k := 2) fx hSX htab [] [(0, 9, 15, 17)] rfl (fun z hz => by simp at hz) (Or.inr (Or.inl rfl)) rfl ⟨by decide, by decide⟩ hce hcv hcl ?_
      refine lv_astore_n (lv' := [(3, .ref q9), (0, .ref h), (1, .int p0), (2, .ref ao)]) hx hb dL_drill_12 rfl hl (by decide) rfl (fun ls hl => ?_)
      refine lv_iconst (v := 1) hx hb dL_drill_13 (by decide) ?_
      exact hret (1 : Int32) (w, fo) _ _ _ _ dL_drill_14 (ht.trans (by simp only [f_L_drill, if_neg n5, if_pos hk6])) hP hS
    · have n5 : ¬ (f_X3_drill N x w r t p0).1 = 0 := by rw [hk6]; decide
      have n5_2 : ¬ (f_X3_drill N x w r t p0).1 = 2 := by rw [hk6]; decide
      refine catchK (k := 3) fx hSX htab [(0, 9, 12, 15)] [] rfl (fun z hz => by simp only [List.mem_cons, List.not_mem_nil, or_false] at hz; rcases hz with rfl; exact ⟨2, rfl, by decide, by decide⟩) (Or.inr (Or.inr rfl)) rfl ⟨by decide, by decide⟩ hce hcv hcl ?_
      refine lv_astore_n (lv' := [(3, .ref q9), (0, .ref h), (1, .int p0), (2, .ref ao)]) hx hb dL_drill_15 rfl hl (by decide) rfl (fun ls hl => ?_)
      refine lv_iconst (v := 2) hx hb dL_drill_16 (by decide) ?_
      exact hret (2 : Int32) (w, fo) _ _ _ _ dL_drill_17 (ht.trans (by simp only [f_L_drill, if_neg n5, if_neg n5_2])) hP hS
  · have hP : va_P D vwCl (cWrap h aw av kr kt ao q x u3 v r t fo) H := hP
    refine lv_i2l (v := r2.toInt64) hx hb dL_drill_7 rfl ?_
    refine va_last hx hb fx.2.2.2.2.2.1 hP (hD _ _ _ _ _ _) hS 14 2 (f := fo) rfl rfl (by unfold vp_in; decide) dL_drill_8 (fun H locs hP _ hS => ?_)
    have hP : va_P D vwCl (cWrap h aw av kr kt ao q x u3 v r t (vp_updL fo (0 : Int32).toNatClampNeg r2.toInt64)) H := hP
    refine lv_goto (tgt := 18) hx hb dL_drill_9 (by decide) ?_
    refine lv_iconst (v := 0) hx hb dL_drill_18 (by decide) ?_
    exact hret (0 : Int32) (u3, vp_updL fo (0 : Int32).toNatClampNeg r2.toInt64) _ _ _ _ dL_drill_19 (ht.trans (by first | (simp only [f_L_drill, eq_self, if_true, hw4]; done) | (simp only [f_L_drill, hw4]; simp only [eq_self, if_true]))) hP hS

/-! L_pass -/
def f_L_pass (N : Nat) (w : WS) (r : RS) (fo : (Nat → Int64)) (p0 : Int32) : Int32 × WS × (Nat → Int64) :=
  if (f_X3_pass N w r p0).1 = 0 then ((0 : Int32), ((f_X3_pass N w r p0).2.2), vp_updL fo (0 : Int32).toNatClampNeg (f_X3_pass N w r p0).2.1.toInt64) else (if (f_X3_pass N w r p0).1 = 2 then ((1 : Int32), w, fo) else ((2 : Int32), w, fo))

def ok_L_pass (N : Nat) (w : WS) (r : RS) (p0 : Int32) : Prop :=
  (ok_X3_pass N w r p0) ∧ True

abbrev RM_L_pass : Room := { frames := 7, cells := 1, slots := 6, locals := 152 }
set_option maxRecDepth 100000 in
set_option maxHeartbeats 4000000 in
theorem c_L_pass (l : Launch) (D : va_G) (q : Nat → ClassId) (sz : Nat) (h : Nat) (aw : Nat) (av : Nat) (kr : Nat → Nat) (kt : Nat → Nat) (ao : Nat) (x : XS) (w : WS) (v : WS) (r : RS) (t : TS) (fo : (Nat → Int64)) (p0 : Int32) (N : Nat) (hok : ok_L_pass N w r p0) (hstk : l.stackTraces = false) : Met l yL_pass (Cond.codeWith yL_pass cL_pass 4 (some .int) [(0, 9, 12, 15), (0, 9, 15, 17)] :: ALL) RM_L_pass (PX D q [.ref h, .int p0, .ref ao] (cWrap h aw av kr kt ao q x w v r t fo) sz) (va_Qi (fun (rv : Int32) (u : WS × (Nat → Int64)) => f_L_pass N w r fo p0 = (rv, u)) (fun u t9 => va_P D vwCl (cWrap h aw av kr kt ao q x u.1 v r t u.2) t9.heap) (va_A (cWrap h aw av kr kt ao q x w v r t fo) sz)) 1 6 (va_A (cWrap h aw av kr kt ao q x w v r t fo) sz) := by
  refine en_w rfl (by decide +kernel) (Nat.le_of_ble_eq_true rfl) ?_
  intro p e s m args below meth c Q A H locs ls fx hSX hSZ htab hD0 hA hP hS hl hret
  have hx := fx.1
  have hb := fx.2.1
  have hl : lv_has ls 4 [(0, .ref h), (1, .int p0), (2, .ref ao)] := hl
  have hD : ∀ (x9 : XS) (w9 : WS) (v9 : WS) (r9 : RS) (t9 : TS) (fo9 : (Nat → Int64)), va_D _ (cWrap h aw av kr kt ao q x9 w9 v9 r9 t9 fo9) := fun _ _ _ _ _ _ => D_same ((fst_Wrap _ _ _ _ _ _ _ _ _ _ _ _ _).trans (fst_Wrap _ _ _ _ _ _ _ _ _ _ _ _ _).symm) hD0
  have ht : f_L_pass N w r fo p0 = f_L_pass N w r fo p0 := rfl
  simp only [ok_L_pass] at hok
  refine lv_aload_n hx hb dL_pass_0 rfl (lv_at hl 2 rfl) ?_
  refine lv_iconst (v := 0) hx hb dL_pass_1 (by decide) ?_
  refine lv_aload_n hx hb dL_pass_2 rfl (lv_at hl 0 rfl) ?_
  refine lv_iload_n hx hb dL_pass_3 rfl (lv_at hl 1 rfl) ?_
  obtain ⟨hk1, hok⟩ := hok
  refine kX_i (xrun fx hSX hSZ (As := [.int p0]) (rest := [.int (0 : Int32), .ref ao]) (c_X3_pass l D q H.size h aw av kr kt x w v r t p0 N hk1 hstk) lk_L_26 ⟨Nat.le_of_ble_eq_true rfl, Nat.le_of_ble_eq_true rfl⟩ ⟨rfl, rfl⟩ hP (hD _ _ _ _ _ _) hS hA [0, 1, 2, 3, 4, 5, 6, 7, 8, 9, 10, 11, 12, 13] rfl rfl (ci := 3) rfl rfl rfl hl.1 rfl (Nat.le_of_ble_eq_true rfl) dL_pass_4 ⟨Nat.le_of_ble_eq_true rfl, Nat.le_of_ble_eq_true rfl⟩) hP (hD _ _ _ _ _ _) hS hA [0, 1, 2, 3, 4, 5, 6, 7, 8, 9, 10, 11, 12, 13] rfl (fun _ => rfl) (fun k ce q9 H locs hp hP hS hce hcv hcl => ?_) (fun r2 u3 H locs hw4 hP hS => ?_)
  · have hP : va_P D vwCl (cWrap h aw av kr kt ao q x w v r t fo) H := hP
    obtain ⟨hk6, hor⟩ := hp
    rcases hor with rfl | rfl
    · have n5 : ¬ (f_X3_pass N w r p0).1 = 0 := by rw [hk6]; decide
      refine catchK (k := 2) fx hSX htab [] [(0, 9, 15, 17)] rfl (fun z hz => by simp at hz) (Or.inr (Or.inl rfl)) rfl ⟨by decide, by decide⟩ hce hcv hcl ?_
      refine lv_astore_n (lv' := [(3, .ref q9), (0, .ref h), (1, .int p0), (2, .ref ao)]) hx hb dL_pass_12 rfl hl (by decide) rfl (fun ls hl => ?_)
      refine lv_iconst (v := 1) hx hb dL_pass_13 (by decide) ?_
      exact hret (1 : Int32) (w, fo) _ _ _ _ dL_pass_14 (ht.trans (by simp only [f_L_pass, if_neg n5, if_pos hk6])) hP hS
    · have n5 : ¬ (f_X3_pass N w r p0).1 = 0 := by rw [hk6]; decide
      have n5_2 : ¬ (f_X3_pass N w r p0).1 = 2 := by rw [hk6]; decide
      refine catchK (k := 3) fx hSX htab [(0, 9, 12, 15)] [] rfl (fun z hz => by simp only [List.mem_cons, List.not_mem_nil, or_false] at hz; rcases hz with rfl; exact ⟨2, rfl, by decide, by decide⟩) (Or.inr (Or.inr rfl)) rfl ⟨by decide, by decide⟩ hce hcv hcl ?_
      refine lv_astore_n (lv' := [(3, .ref q9), (0, .ref h), (1, .int p0), (2, .ref ao)]) hx hb dL_pass_15 rfl hl (by decide) rfl (fun ls hl => ?_)
      refine lv_iconst (v := 2) hx hb dL_pass_16 (by decide) ?_
      exact hret (2 : Int32) (w, fo) _ _ _ _ dL_pass_17 (ht.trans (by simp only [f_L_pass, if_neg n5, if_neg n5_2])) hP hS
  · have hP : va_P D vwCl (cWrap h aw av kr kt ao q x u3 v r t fo) H := hP
    refine lv_i2l (v := r2.toInt64) hx hb dL_pass_7 rfl ?_
    refine va_last hx hb fx.2.2.2.2.2.1 hP (hD _ _ _ _ _ _) hS 14 2 (f := fo) rfl rfl (by unfold vp_in; decide) dL_pass_8 (fun H locs hP _ hS => ?_)
    have hP : va_P D vwCl (cWrap h aw av kr kt ao q x u3 v r t (vp_updL fo (0 : Int32).toNatClampNeg r2.toInt64)) H := hP
    refine lv_goto (tgt := 18) hx hb dL_pass_9 (by decide) ?_
    refine lv_iconst (v := 0) hx hb dL_pass_18 (by decide) ?_
    exact hret (0 : Int32) (u3, vp_updL fo (0 : Int32).toNatClampNeg r2.toInt64) _ _ _ _ dL_pass_19 (ht.trans (by first | (simp only [f_L_pass, eq_self, if_true, hw4]; done) | (simp only [f_L_pass, hw4]; simp only [eq_self, if_true]))) hP hS

/-! L_close -/
def f_L_close (w : WS) : Int32 × WS :=
  if (f_X3_close w).1 = 0 then ((0 : Int32), ((f_X3_close w).2)) else ((1 : Int32), w)

abbrev RM_L_close : Room := { frames := 7, cells := 1, slots := 6, locals := 110 }
set_option maxRecDepth 100000 in
set_option maxHeartbeats 4000000 in
theorem c_L_close (l : Launch) (D : va_G) (q : Nat → ClassId) (sz : Nat) (h : Nat) (aw : Nat) (av : Nat) (kr : Nat → Nat) (kt : Nat → Nat) (x : XS) (w : WS) (v : WS) (r : RS) (t : TS) (hstk : l.stackTraces = false) : Met l yL_close (Cond.codeWith yL_close cL_close 2 (some .int) [(0, 4, 7, 17)] :: ALL) RM_L_close (PX D q [.ref h] (cKick h aw av kr kt q x w v r t) sz) (va_Qi (fun (rv : Int32) (u : WS) => f_L_close w = (rv, u)) (fun u t9 => va_P D vwCl (cKick h aw av kr kt q x u v r t) t9.heap) (va_A (cKick h aw av kr kt q x w v r t) sz)) 1 6 (va_A (cKick h aw av kr kt q x w v r t) sz) := by
  refine en_w rfl (by decide +kernel) (Nat.le_of_ble_eq_true rfl) ?_
  intro p e s m args below meth c Q A H locs ls fx hSX hSZ htab hD0 hA hP hS hl hret
  have hx := fx.1
  have hb := fx.2.1
  have hl : lv_has ls 2 [(0, .ref h)] := hl
  have hD : ∀ (x9 : XS) (w9 : WS) (v9 : WS) (r9 : RS) (t9 : TS), va_D _ (cKick h aw av kr kt q x9 w9 v9 r9 t9) := fun _ _ _ _ _ => D_same ((fst_Kick _ _ _ _ _ _ _ _ _ _ _).trans (fst_Kick _ _ _ _ _ _ _ _ _ _ _).symm) hD0
  have ht : f_L_close w = f_L_close w := rfl
  refine lv_aload_n hx hb dL_close_0 rfl (lv_at hl 0 rfl) ?_
  refine kX_v (xrun fx hSX hSZ (As := []) (rest := []) (c_X3_close l D q H.size h aw av kr kt x w v r t hstk) lk_L_29 ⟨Nat.le_of_ble_eq_true rfl, Nat.le_of_ble_eq_true rfl⟩ ⟨rfl, rfl⟩ hP (hD _ _ _ _ _) hS hA [0, 1, 2, 3, 4, 5, 6, 7, 8, 9, 10, 11, 12, 13] rfl rfl (ci := 3) rfl rfl rfl hl.1 rfl (Nat.le_of_ble_eq_true rfl) dL_close_1 ⟨Nat.le_of_ble_eq_true rfl, Nat.le_of_ble_eq_true rfl⟩) hP (hD _ _ _ _ _) hS hA [0, 1, 2, 3, 4, 5, 6, 7, 8, 9, 10, 11, 12, 13] rfl (fun _ => rfl) (fun k ce q9 H locs hp hP hS hce hcv hcl => ?_) (fun u1 H locs hw2 hP hS => ?_)
  · have hP : va_P D vwCl (cKick h aw av kr kt q x w v r t) H := hP
    obtain ⟨hk4, hor⟩ := hp
    subst hor
    have n3 : ¬ (f_X3_close w).1 = 0 := by rw [hk4]; decide
    refine catchK (k := 3) fx hSX htab [] [] rfl (fun z hz => by simp at hz) (Or.inr (Or.inr rfl)) rfl ⟨by decide, by decide⟩ hce hcv hcl ?_
    refine lv_astore_n (lv' := [(1, .ref q9), (0, .ref h)]) hx hb dL_close_7 rfl hl (by decide) rfl (fun ls hl => ?_)
    refine lv_iconst (v := 1) hx hb dL_close_8 (by decide) ?_
    exact hret (1 : Int32) w _ _ _ _ dL_close_9 (ht.trans (by simp only [f_L_close, if_neg n3])) hP hS
  · have hP : va_P D vwCl (cKick h aw av kr kt q x u1 v r t) H := hP
    refine lv_goto (tgt := 10) hx hb dL_close_4 (by decide) ?_
    refine lv_iconst (v := 0) hx hb dL_close_10 (by decide) ?_
    exact hret (0 : Int32) u1 _ _ _ _ dL_close_11 (ht.trans (by first | (simp only [f_L_close, eq_self, if_true, hw2]; done) | (simp only [f_L_close, hw2]; simp only [eq_self, if_true]))) hP hS

/-! L_open -/
def f_L_open (w : WS) (fo : (Nat → Int64)) : Int32 × WS × (Nat → Int64) :=
  if (f_X3_open w).1 = 0 then ((0 : Int32), ((f_X3_open w).2.2), vp_updL fo (0 : Int32).toNatClampNeg (f_X3_open w).2.1.toInt64) else ((1 : Int32), w, fo)

abbrev RM_L_open : Room := { frames := 7, cells := 1, slots := 6, locals := 111 }
set_option maxRecDepth 100000 in
set_option maxHeartbeats 4000000 in
theorem c_L_open (l : Launch) (D : va_G) (q : Nat → ClassId) (sz : Nat) (h : Nat) (aw : Nat) (av : Nat) (kr : Nat → Nat) (kt : Nat → Nat) (ao : Nat) (x : XS) (w : WS) (v : WS) (r : RS) (t : TS) (fo : (Nat → Int64)) (hstk : l.stackTraces = false) : Met l yL_open (Cond.codeWith yL_open cL_open 3 (some .int) [(0, 8, 11, 17)] :: ALL) RM_L_open (PX D q [.ref h, .ref ao] (cWrap h aw av kr kt ao q x w v r t fo) sz) (va_Qi (fun (rv : Int32) (u : WS × (Nat → Int64)) => f_L_open w fo = (rv, u)) (fun u t9 => va_P D vwCl (cWrap h aw av kr kt ao q x u.1 v r t u.2) t9.heap) (va_A (cWrap h aw av kr kt ao q x w v r t fo) sz)) 1 6 (va_A (cWrap h aw av kr kt ao q x w v r t fo) sz) := by
  refine en_w rfl (by decide +kernel) (Nat.le_of_ble_eq_true rfl) ?_
  intro p e s m args below meth c Q A H locs ls fx hSX hSZ htab hD0 hA hP hS hl hret
  have hx := fx.1
  have hb := fx.2.1
  have hl : lv_has ls 3 [(0, .ref h), (1, .ref ao)] := hl
  have hD : ∀ (x9 : XS) (w9 : WS) (v9 : WS) (r9 : RS) (t9 : TS) (fo9 : (Nat → Int64)), va_D _ (cWrap h aw av kr kt ao q x9 w9 v9 r9 t9 fo9) := fun _ _ _ _ _ _ => D_same ((fst_Wrap _ _ _ _ _ _ _ _ _ _ _ _ _).trans (fst_Wrap _ _ _ _ _ _ _ _ _ _ _ _ _).symm) hD0
  have ht : f_L_open w fo = f_L_open w fo := rfl
  refine lv_aload_n hx hb dL_open_0 rfl (lv_at hl 1 rfl) ?_
  refine lv_iconst (v := 0) hx hb dL_open_1 (by decide) ?_
  refine lv_aload_n hx hb dL_open_2 rfl (lv_at hl 0 rfl) ?_
  refine kX_i (xrun fx hSX hSZ (As := []) (rest := [.int (0 : Int32), .ref ao]) (c_X3_open l D q H.size h aw av kr kt x w v r t hstk) lk_L_32 ⟨Nat.le_of_ble_eq_true rfl, Nat.le_of_ble_eq_true rfl⟩ ⟨rfl, rfl⟩ hP (hD _ _ _ _ _ _) hS hA [0, 1, 2, 3, 4, 5, 6, 7, 8, 9, 10, 11, 12, 13] rfl rfl (ci := 3) rfl rfl rfl hl.1 rfl (Nat.le_of_ble_eq_true rfl) dL_open_3 ⟨Nat.le_of_ble_eq_true rfl, Nat.le_of_ble_eq_true rfl⟩) hP (hD _ _ _ _ _ _) hS hA [0, 1, 2, 3, 4, 5, 6, 7, 8, 9, 10, 11, 12, 13] rfl (fun _ => rfl) (fun k ce q9 H locs hp hP hS hce hcv hcl => ?_) (fun r1 u2 H locs hw3 hP hS => ?_)
  · have hP : va_P D vwCl (cWrap h aw av kr kt ao q x w v r t fo) H := hP
    obtain ⟨hk5, hor⟩ := hp
    subst hor
    have n4 : ¬ (f_X3_open w).1 = 0 := by rw [hk5]; decide
    refine catchK (k := 3) fx hSX htab [] [] rfl (fun z hz => by simp at hz) (Or.inr (Or.inr rfl)) rfl ⟨by decide, by decide⟩ hce hcv hcl ?_
    refine lv_astore_n (lv' := [(2, .ref q9), (0, .ref h), (1, .ref ao)]) hx hb dL_open_11 rfl hl (by decide) rfl (fun ls hl => ?_)
    refine lv_iconst (v := 1) hx hb dL_open_12 (by decide) ?_
    exact hret (1 : Int32) (w, fo) _ _ _ _ dL_open_13 (ht.trans (by simp only [f_L_open, if_neg n4])) hP hS
  · have hP : va_P D vwCl (cWrap h aw av kr kt ao q x u2 v r t fo) H := hP
    refine lv_i2l (v := r1.toInt64) hx hb dL_open_6 rfl ?_
    refine va_last hx hb fx.2.2.2.2.2.1 hP (hD _ _ _ _ _ _) hS 14 2 (f := fo) rfl rfl (by unfold vp_in; decide) dL_open_7 (fun H locs hP _ hS => ?_)
    have hP : va_P D vwCl (cWrap h aw av kr kt ao q x u2 v r t (vp_updL fo (0 : Int32).toNatClampNeg r1.toInt64)) H := hP
    refine lv_goto (tgt := 14) hx hb dL_open_8 (by decide) ?_
    refine lv_iconst (v := 0) hx hb dL_open_14 (by decide) ?_
    exact hret (0 : Int32) (u2, vp_updL fo (0 : Int32).toNatClampNeg r1.toInt64) _ _ _ _ dL_open_15 (ht.trans (by first | (simp only [f_L_open, eq_self, if_true, hw3]; done) | (simp only [f_L_open, hw3]; simp only [eq_self, if_true]))) hP hS

/-! L_pump -/
def f_L_pump (N : Nat) (x : XS) (w : WS) (r : RS) (fo : (Nat → Int64)) (p0 : Int32) (p1 : Int32) : Int32 × XS × WS × (Nat → Int64) :=
  if (f_X3_pump N x w r p0 p1).1 = 0 then ((0 : Int32), ((f_X3_pump N x w r p0 p1).2.2).1, ((f_X3_pump N x w r p0 p1).2.2).2, vp_updL fo (0 : Int32).toNatClampNeg (f_X3_pump N x w r p0 p1).2.1.toInt64) else (if (f_X3_pump N x w r p0 p1).1 = 2 then ((1 : Int32), x, w, fo) else ((2 : Int32), x, w, fo))

def ok_L_pump (N : Nat) (x : XS) (w : WS) (r : RS) (p0 : Int32) (p1 : Int32) : Prop :=
  (ok_X3_pump N x w r p0 p1) ∧ True

abbrev RM_L_pump : Room := { frames := 7, cells := 1, slots := 6, locals := 132 }
set_option maxRecDepth 100000 in
set_option maxHeartbeats 4000000 in
theorem c_L_pump (l : Launch) (D : va_G) (q : Nat → ClassId) (sz : Nat) (h : Nat) (aw : Nat) (av : Nat) (kr : Nat → Nat) (kt : Nat → Nat) (ao : Nat) (x : XS) (w : WS) (v : WS) (r : RS) (t : TS) (fo : (Nat → Int64)) (p0 : Int32) (p1 : Int32) (N : Nat) (hok : ok_L_pump N x w r p0 p1) (hstk : l.stackTraces = false) : Met l yL_pump (Cond.codeWith yL_pump cL_pump 5 (some .int) [(0, 10, 13, 15), (0, 10, 17, 17)] :: ALL) RM_L_pump (PX D q [.ref h, .int p0, .int p1, .ref ao] (cWrap h aw av kr kt ao q x w v r t fo) sz) (va_Qi (fun (rv : Int32) (u : XS × WS × (Nat → Int64)) => f_L_pump N x w r fo p0 p1 = (rv, u)) (fun u t9 => va_P D vwCl (cWrap h aw av kr kt ao q u.1 u.2.1 v r t u.2.2) t9.heap) (va_A (cWrap h aw av kr kt ao q x w v r t fo) sz)) 1 6 (va_A (cWrap h aw av kr kt ao q x w v r t fo) sz) := by
  refine en_w rfl (by decide +kernel) (Nat.le_of_ble_eq_true rfl) ?_
  intro p e s m args below meth c Q A H locs ls fx hSX hSZ htab hD0 hA hP hS hl hret
  have hx := fx.1
  have hb := fx.2.1
  have hl : lv_has ls 5 [(0, .ref h), (1, .int p0), (2, .int p1), (3, .ref ao)] := hl
  have hD : ∀ (x9 : XS) (w9 : WS) (v9 : WS) (r9 : RS) (t9 : TS) (fo9 : (Nat → Int64)), va_D _ (cWrap h aw av kr kt ao q x9 w9 v9 r9 t9 fo9) := fun _ _ _ _ _ _ => D_same ((fst_Wrap _ _ _ _ _ _ _ _ _ _ _ _ _).trans (fst_Wrap _ _ _ _ _ _ _ _ _ _ _ _ _).symm) hD0
  have ht : f_L_pump N x w r fo p0 p1 = f_L_pump N x w r fo p0 p1 := rfl
  simp only [ok_L_pump] at hok
  refine lv_aload_n hx hb dL_pump_0 rfl (lv_at hl 3 rfl) ?_
  refine lv_iconst (v := 0) hx hb dL_pump_1 (by decide) ?_
  refine lv_aload_n hx hb dL_pump_2 rfl (lv_at hl 0 rfl) ?_
  refine lv_iload_n hx hb dL_pump_3 rfl (lv_at hl 1 rfl) ?_
  refine lv_iload_n hx hb dL_pump_4 rfl (lv_at hl 2 rfl) ?_
  obtain ⟨hk1, hok⟩ := hok
  refine kX_i (xrun fx hSX hSZ (As := [.int p0, .int p1]) (rest := [.int (0 : Int32), .ref ao]) (c_X3_pump l D q H.size h aw av kr kt x w v r t p0 p1 N hk1 hstk) lk_L_36 ⟨Nat.le_of_ble_eq_true rfl, Nat.le_of_ble_eq_true rfl⟩ ⟨rfl, rfl⟩ hP (hD _ _ _ _ _ _) hS hA [0, 1, 2, 3, 4, 5, 6, 7, 8, 9, 10, 11, 12, 13] rfl rfl (ci := 3) rfl rfl rfl hl.1 rfl (Nat.le_of_ble_eq_true rfl) dL_pump_5 ⟨Nat.le_of_ble_eq_true rfl, Nat.le_of_ble_eq_true rfl⟩) hP (hD _ _ _ _ _ _) hS hA [0, 1, 2, 3, 4, 5, 6, 7, 8, 9, 10, 11, 12, 13] rfl (fun _ => rfl) (fun k ce q9 H locs hp hP hS hce hcv hcl => ?_) (fun r2 u3 H locs hw4 hP hS => ?_)
  · have hP : va_P D vwCl (cWrap h aw av kr kt ao q x w v r t fo) H := hP
    obtain ⟨hk6, hor⟩ := hp
    rcases hor with rfl | rfl
    · have n5 : ¬ (f_X3_pump N x w r p0 p1).1 = 0 := by rw [hk6]; decide
      refine catchK (k := 2) fx hSX htab [] [(0, 10, 17, 17)] rfl (fun z hz => by simp at hz) (Or.inr (Or.inl rfl)) rfl ⟨by decide, by decide⟩ hce hcv hcl ?_
      refine lv_astore (lv' := [(4, .ref q9), (0, .ref h), (1, .int p0), (2, .int p1), (3, .ref ao)]) hx hb dL_pump_13 hl (by decide) rfl (fun ls hl => ?_)
      refine lv_iconst (v := 1) hx hb dL_pump_15 (by decide) ?_
      exact hret (1 : Int32) (x, w, fo) _ _ _ _ dL_pump_16 (ht.trans (by simp only [f_L_pump, if_neg n5, if_pos hk6])) hP hS
    · have n5 : ¬ (f_X3_pump N x w r p0 p1).1 = 0 := by rw [hk6]; decide
      have n5_2 : ¬ (f_X3_pump N x w r p0 p1).1 = 2 := by rw [hk6]; decide
      refine catchK (k := 3) fx hSX htab [(0, 10, 13, 15)] [] rfl (fun z hz => by simp only [List.mem_cons, List.not_mem_nil, or_false] at hz; rcases hz with rfl; exact ⟨2, rfl, by decide, by decide⟩) (Or.inr (Or.inr rfl)) rfl ⟨by decide, by decide⟩ hce hcv hcl ?_
      refine lv_astore (lv' := [(4, .ref q9), (0, .ref h), (1, .int p0), (2, .int p1), (3, .ref ao)]) hx hb dL_pump_17 hl (by decide) rfl (fun ls hl => ?_)
      refine lv_iconst (v := 2) hx hb dL_pump_19 (by decide) ?_
      exact hret (2 : Int32) (x, w, fo) _ _ _ _ dL_pump_20 (ht.trans (by simp only [f_L_pump, if_neg n5, if_neg n5_2])) hP hS
  · have hP : va_P D vwCl (cWrap h aw av kr kt ao q u3.1 u3.2 v r t fo) H := hP
    refine lv_i2l (v := r2.toInt64) hx hb dL_pump_8 rfl ?_
    refine va_last hx hb fx.2.2.2.2.2.1 hP (hD _ _ _ _ _ _) hS 14 2 (f := fo) rfl rfl (by unfold vp_in; decide) dL_pump_9 (fun H locs hP _ hS => ?_)
    have hP : va_P D vwCl (cWrap h aw av kr kt ao q u3.1 u3.2 v r t (vp_updL fo (0 : Int32).toNatClampNeg r2.toInt64)) H := hP
    refine lv_goto (tgt := 21) hx hb dL_pump_10 (by decide) ?_
    refine lv_iconst (v := 0) hx hb dL_pump_21 (by decide) ?_
    exact hret (0 : Int32) (u3.1, u3.2, vp_updL fo (0 : Int32).toNatClampNeg r2.toInt64) _ _ _ _ dL_pump_22 (ht.trans (by first | (simp only [f_L_pump, eq_self, if_true, hw4]; done) | (simp only [f_L_pump, hw4]; simp only [eq_self, if_true]))) hP hS

/-! L_casing -/
def f_L_casing (x : XS) (w : WS) (t : TS) (fo : (Nat → Int64)) (p0 : Int32) : Int32 × XS × WS × TS × (Nat → Int64) :=
  if (f_X3_casing x w t p0).1 = 0 then ((0 : Int32), ((f_X3_casing x w t p0).2.2).1, ((f_X3_casing x w t p0).2.2).2.1, ((f_X3_casing x w t p0).2.2).2.2, vp_updL fo (0 : Int32).toNatClampNeg (f_X3_casing x w t p0).2.1.toInt64) else (if (f_X3_casing x w t p0).1 = 2 then ((1 : Int32), x, w, t, fo) else ((2 : Int32), x, w, t, fo))

abbrev RM_L_casing : Room := { frames := 7, cells := 1, slots := 6, locals := 112 }
set_option maxRecDepth 100000 in
set_option maxHeartbeats 4000000 in
theorem c_L_casing (l : Launch) (D : va_G) (q : Nat → ClassId) (sz : Nat) (h : Nat) (aw : Nat) (av : Nat) (kr : Nat → Nat) (kt : Nat → Nat) (ao : Nat) (x : XS) (w : WS) (v : WS) (r : RS) (t : TS) (fo : (Nat → Int64)) (p0 : Int32) (hstk : l.stackTraces = false) : Met l yL_casing (Cond.codeWith yL_casing cL_casing 4 (some .int) [(0, 9, 12, 15), (0, 9, 15, 17)] :: ALL) RM_L_casing (PX D q [.ref h, .int p0, .ref ao] (cWrap h aw av kr kt ao q x w v r t fo) sz) (va_Qi (fun (rv : Int32) (u : XS × WS × TS × (Nat → Int64)) => f_L_casing x w t fo p0 = (rv, u)) (fun u t9 => va_P D vwCl (cWrap h aw av kr kt ao q u.1 u.2.1 v r u.2.2.1 u.2.2.2) t9.heap) (va_A (cWrap h aw av kr kt ao q x w v r t fo) sz)) 1 6 (va_A (cWrap h aw av kr kt ao q x w v r t fo) sz) := by
  refine en_w rfl (by decide +kernel) (Nat.le_of_ble_eq_true rfl) ?_
  intro p e s m args below meth c Q A H locs ls fx hSX hSZ htab hD0 hA hP hS hl hret
  have hx := fx.1
  have hb := fx.2.1
  have hl : lv_has ls 4 [(0, .ref h), (1, .int p0), (2, .ref ao)] := hl
  have hD : ∀ (x9 : XS) (w9 : WS) (v9 : WS) (r9 : RS) (t9 : TS) (fo9 : (Nat → Int64)), va_D _ (cWrap h aw av kr kt ao q x9 w9 v9 r9 t9 fo9) := fun _ _ _ _ _ _ => D_same ((fst_Wrap _ _ _ _ _ _ _ _ _ _ _ _ _).trans (fst_Wrap _ _ _ _ _ _ _ _ _ _ _ _ _).symm) hD0
  have ht : f_L_casing x w t fo p0 = f_L_casing x w t fo p0 := rfl
  refine lv_aload_n hx hb dL_casing_0 rfl (lv_at hl 2 rfl) ?_
  refine lv_iconst (v := 0) hx hb dL_casing_1 (by decide) ?_
  refine lv_aload_n hx hb dL_casing_2 rfl (lv_at hl 0 rfl) ?_
  refine lv_iload_n hx hb dL_casing_3 rfl (lv_at hl 1 rfl) ?_
  refine kX_i (xrun fx hSX hSZ (As := [.int p0]) (rest := [.int (0 : Int32), .ref ao]) (c_X3_casing l D q H.size h aw av kr kt x w v r t p0 hstk) lk_L_40 ⟨Nat.le_of_ble_eq_true rfl, Nat.le_of_ble_eq_true rfl⟩ ⟨rfl, rfl⟩ hP (hD _ _ _ _ _ _) hS hA [0, 1, 2, 3, 4, 5, 6, 7, 8, 9, 10, 11, 12, 13] rfl rfl (ci := 3) rfl rfl rfl hl.1 rfl (Nat.le_of_ble_eq_true rfl) dL_casing_4 ⟨Nat.le_of_ble_eq_true rfl, Nat.le_of_ble_eq_true rfl⟩) hP (hD _ _ _ _ _ _) hS hA [0, 1, 2, 3, 4, 5, 6, 7, 8, 9, 10, 11, 12, 13] rfl (fun _ => rfl) (fun k ce q9 H locs hp hP hS hce hcv hcl => ?_) (fun r1 u2 H locs hw3 hP hS => ?_)
  · have hP : va_P D vwCl (cWrap h aw av kr kt ao q x w v r t fo) H := hP
    obtain ⟨hk5, hor⟩ := hp
    rcases hor with rfl | rfl
    · have n4 : ¬ (f_X3_casing x w t p0).1 = 0 := by rw [hk5]; decide
      refine catchK (k := 2) fx hSX htab [] [(0, 9, 15, 17)] rfl (fun z hz => by simp at hz) (Or.inr (Or.inl rfl)) rfl ⟨by decide, by decide⟩ hce hcv hcl ?_
      refine lv_astore_n (lv' := [(3, .ref q9), (0, .ref h), (1, .int p0), (2, .ref ao)]) hx hb dL_casing_12 rfl hl (by decide) rfl (fun ls hl => ?_)
      refine lv_iconst (v := 1) hx hb dL_casing_13 (by decide) ?_
      exact hret (1 : Int32) (x, w, t, fo) _ _ _ _ dL_casing_14 (ht.trans (by simp only [f_L_casing, if_neg n4, if_pos hk5])) hP hS
    · have n4 : ¬ (f_X3_casing x w t p0).1 = 0 := by rw [hk5]; decide
      have n4_2 : ¬ (f_X3_casing x w t p0).1 = 2 := by rw [hk5]; decide
      refine catchK (k := 3) fx hSX htab [(0, 9, 12, 15)] [] rfl (fun z hz => by simp only [List.mem_cons, List.not_mem_nil, or_false] at hz; rcases hz with rfl; exact ⟨2, rfl, by decide, by decide⟩) (Or.inr (Or.inr rfl)) rfl ⟨by decide, by decide⟩ hce hcv hcl ?_
      refine lv_astore_n (lv' := [(3, .ref q9), (0, .ref h), (1, .int p0), (2, .ref ao)]) hx hb dL_casing_15 rfl hl (by decide) rfl (fun ls hl => ?_)
      refine lv_iconst (v := 2) hx hb dL_casing_16 (by decide) ?_
      exact hret (2 : Int32) (x, w, t, fo) _ _ _ _ dL_casing_17 (ht.trans (by simp only [f_L_casing, if_neg n4, if_neg n4_2])) hP hS
  · have hP : va_P D vwCl (cWrap h aw av kr kt ao q u2.1 u2.2.1 v r u2.2.2 fo) H := hP
    refine lv_i2l (v := r1.toInt64) hx hb dL_casing_7 rfl ?_
    refine va_last hx hb fx.2.2.2.2.2.1 hP (hD _ _ _ _ _ _) hS 14 2 (f := fo) rfl rfl (by unfold vp_in; decide) dL_casing_8 (fun H locs hP _ hS => ?_)
    have hP : va_P D vwCl (cWrap h aw av kr kt ao q u2.1 u2.2.1 v r u2.2.2 (vp_updL fo (0 : Int32).toNatClampNeg r1.toInt64)) H := hP
    refine lv_goto (tgt := 18) hx hb dL_casing_9 (by decide) ?_
    refine lv_iconst (v := 0) hx hb dL_casing_18 (by decide) ?_
    exact hret (0 : Int32) (u2.1, u2.2.1, u2.2.2, vp_updL fo (0 : Int32).toNatClampNeg r1.toInt64) _ _ _ _ dL_casing_19 (ht.trans (by first | (simp only [f_L_casing, eq_self, if_true, hw3]; done) | (simp only [f_L_casing, hw3]; simp only [eq_self, if_true]))) hP hS

/-! L_strength -/
def f_L_strength (w : WS) (fo : (Nat → Int64)) (p0 : Int32) : Int32 × WS × (Nat → Int64) :=
  if (f_X3_strength w p0).1 = 0 then ((0 : Int32), ((f_X3_strength w p0).2.2), vp_updL fo (0 : Int32).toNatClampNeg (f_X3_strength w p0).2.1.toInt64) else ((1 : Int32), w, fo)

abbrev RM_L_strength : Room := { frames := 7, cells := 1, slots := 6, locals := 112 }
set_option maxRecDepth 100000 in
set_option maxHeartbeats 4000000 in
theorem c_L_strength (l : Launch) (D : va_G) (q : Nat → ClassId) (sz : Nat) (h : Nat) (aw : Nat) (av : Nat) (kr : Nat → Nat) (kt : Nat → Nat) (ao : Nat) (x : XS) (w : WS) (v : WS) (r : RS) (t : TS) (fo : (Nat → Int64)) (p0 : Int32) (hstk : l.stackTraces = false) : Met l yL_strength (Cond.codeWith yL_strength cL_strength 4 (some .int) [(0, 9, 12, 15)] :: ALL) RM_L_strength (PX D q [.ref h, .int p0, .ref ao] (cWrap h aw av kr kt ao q x w v r t fo) sz) (va_Qi (fun (rv : Int32) (u : WS × (Nat → Int64)) => f_L_strength w fo p0 = (rv, u)) (fun u t9 => va_P D vwCl (cWrap h aw av kr kt ao q x u.1 v r t u.2) t9.heap) (va_A (cWrap h aw av kr kt ao q x w v r t fo) sz)) 1 6 (va_A (cWrap h aw av kr kt ao q x w v r t fo) sz) := by
  refine en_w rfl (by decide +kernel) (Nat.le_of_ble_eq_true rfl) ?_
  intro p e s m args below meth c Q A H locs ls fx hSX hSZ htab hD0 hA hP hS hl hret
  have hx := fx.1
  have hb := fx.2.1
  have hl : lv_has ls 4 [(0, .ref h), (1, .int p0), (2, .ref ao)] := hl
  have hD : ∀ (x9 : XS) (w9 : WS) (v9 : WS) (r9 : RS) (t9 : TS) (fo9 : (Nat → Int64)), va_D _ (cWrap h aw av kr kt ao q x9 w9 v9 r9 t9 fo9) := fun _ _ _ _ _ _ => D_same ((fst_Wrap _ _ _ _ _ _ _ _ _ _ _ _ _).trans (fst_Wrap _ _ _ _ _ _ _ _ _ _ _ _ _).symm) hD0
  have ht : f_L_strength w fo p0 = f_L_strength w fo p0 := rfl
  refine lv_aload_n hx hb dL_strength_0 rfl (lv_at hl 2 rfl) ?_
  refine lv_iconst (v := 0) hx hb dL_strength_1 (by decide) ?_
  refine lv_aload_n hx hb dL_strength_2 rfl (lv_at hl 0 rfl) ?_
  refine lv_iload_n hx hb dL_strength_3 rfl (lv_at hl 1 rfl) ?_
  refine kX_i (xrun fx hSX hSZ (As := [.int p0]) (rest := [.int (0 : Int32), .ref ao]) (c_X3_strength l D q H.size h aw av kr kt x w v r t p0 hstk) lk_L_43 ⟨Nat.le_of_ble_eq_true rfl, Nat.le_of_ble_eq_true rfl⟩ ⟨rfl, rfl⟩ hP (hD _ _ _ _ _ _) hS hA [0, 1, 2, 3, 4, 5, 6, 7, 8, 9, 10, 11, 12, 13] rfl rfl (ci := 3) rfl rfl rfl hl.1 rfl (Nat.le_of_ble_eq_true rfl) dL_strength_4 ⟨Nat.le_of_ble_eq_true rfl, Nat.le_of_ble_eq_true rfl⟩) hP (hD _ _ _ _ _ _) hS hA [0, 1, 2, 3, 4, 5, 6, 7, 8, 9, 10, 11, 12, 13] rfl (fun _ => rfl) (fun k ce q9 H locs hp hP hS hce hcv hcl => ?_) (fun r1 u2 H locs hw3 hP hS => ?_)
  · have hP : va_P D vwCl (cWrap h aw av kr kt ao q x w v r t fo) H := hP
    obtain ⟨hk5, hor⟩ := hp
    subst hor
    have n4 : ¬ (f_X3_strength w p0).1 = 0 := by rw [hk5]; decide
    refine catchK (k := 2) fx hSX htab [] [] rfl (fun z hz => by simp at hz) (Or.inr (Or.inl rfl)) rfl ⟨by decide, by decide⟩ hce hcv hcl ?_
    refine lv_astore_n (lv' := [(3, .ref q9), (0, .ref h), (1, .int p0), (2, .ref ao)]) hx hb dL_strength_12 rfl hl (by decide) rfl (fun ls hl => ?_)
    refine lv_iconst (v := 1) hx hb dL_strength_13 (by decide) ?_
    exact hret (1 : Int32) (w, fo) _ _ _ _ dL_strength_14 (ht.trans (by simp only [f_L_strength, if_neg n4])) hP hS
  · have hP : va_P D vwCl (cWrap h aw av kr kt ao q x u2 v r t fo) H := hP
    refine lv_i2l (v := r1.toInt64) hx hb dL_strength_7 rfl ?_
    refine va_last hx hb fx.2.2.2.2.2.1 hP (hD _ _ _ _ _ _) hS 14 2 (f := fo) rfl rfl (by unfold vp_in; decide) dL_strength_8 (fun H locs hP _ hS => ?_)
    have hP : va_P D vwCl (cWrap h aw av kr kt ao q x u2 v r t (vp_updL fo (0 : Int32).toNatClampNeg r1.toInt64)) H := hP
    refine lv_goto (tgt := 15) hx hb dL_strength_9 (by decide) ?_
    refine lv_iconst (v := 0) hx hb dL_strength_15 (by decide) ?_
    exact hret (0 : Int32) (u2, vp_updL fo (0 : Int32).toNatClampNeg r1.toInt64) _ _ _ _ dL_strength_16 (ht.trans (by first | (simp only [f_L_strength, eq_self, if_true, hw3]; done) | (simp only [f_L_strength, hw3]; simp only [eq_self, if_true]))) hP hS

/-! L_test -/
def f_L_test (x : XS) (w : WS) (t : TS) (fo : (Nat → Int64)) (p0 : Int32) (p1 : Int32) : Int32 × WS × TS × (Nat → Int64) :=
  if (f_X3_test x w t p0 p1).1 = 0 then (if (f_X3_test x w t p0 p1).2.1 = 0 then ((0 : Int32), ((f_X3_test x w t p0 p1).2.2).1, ((f_X3_test x w t p0 p1).2.2).2, vp_updL fo (0 : Int32).toNatClampNeg (0 : Int64)) else ((0 : Int32), ((f_X3_test x w t p0 p1).2.2).1, ((f_X3_test x w t p0 p1).2.2).2, vp_updL fo (0 : Int32).toNatClampNeg (1 : Int64))) else (if (f_X3_test x w t p0 p1).1 = 2 then ((1 : Int32), w, t, fo) else ((2 : Int32), w, t, fo))

abbrev RM_L_test : Room := { frames := 7, cells := 1, slots := 6, locals := 113 }
set_option maxRecDepth 100000 in
set_option maxHeartbeats 4000000 in
theorem c_L_test (l : Launch) (D : va_G) (q : Nat → ClassId) (sz : Nat) (h : Nat) (aw : Nat) (av : Nat) (kr : Nat → Nat) (kt : Nat → Nat) (ao : Nat) (x : XS) (w : WS) (v : WS) (r : RS) (t : TS) (fo : (Nat → Int64)) (p0 : Int32) (p1 : Int32) (hstk : l.stackTraces = false) : Met l yL_test (Cond.codeWith yL_test cL_test 5 (some .int) [(0, 17, 20, 15), (0, 17, 24, 17)] :: ALL) RM_L_test (PX D q [.ref h, .int p0, .int p1, .ref ao] (cWrap h aw av kr kt ao q x w v r t fo) sz) (va_Qi (fun (rv : Int32) (u : WS × TS × (Nat → Int64)) => f_L_test x w t fo p0 p1 = (rv, u)) (fun u t9 => va_P D vwCl (cWrap h aw av kr kt ao q x u.1 v r u.2.1 u.2.2) t9.heap) (va_A (cWrap h aw av kr kt ao q x w v r t fo) sz)) 1 6 (va_A (cWrap h aw av kr kt ao q x w v r t fo) sz) := by
  refine en_w rfl (by decide +kernel) (Nat.le_of_ble_eq_true rfl) ?_
  intro p e s m args below meth c Q A H locs ls fx hSX hSZ htab hD0 hA hP hS hl hret
  have hx := fx.1
  have hb := fx.2.1
  have hl : lv_has ls 5 [(0, .ref h), (1, .int p0), (2, .int p1), (3, .ref ao)] := hl
  have hD : ∀ (x9 : XS) (w9 : WS) (v9 : WS) (r9 : RS) (t9 : TS) (fo9 : (Nat → Int64)), va_D _ (cWrap h aw av kr kt ao q x9 w9 v9 r9 t9 fo9) := fun _ _ _ _ _ _ => D_same ((fst_Wrap _ _ _ _ _ _ _ _ _ _ _ _ _).trans (fst_Wrap _ _ _ _ _ _ _ _ _ _ _ _ _).symm) hD0
  have ht : f_L_test x w t fo p0 p1 = f_L_test x w t fo p0 p1 := rfl
  refine lv_aload_n hx hb dL_test_0 rfl (lv_at hl 3 rfl) ?_
  refine lv_iconst (v := 0) hx hb dL_test_1 (by decide) ?_
  refine lv_aload_n hx hb dL_test_2 rfl (lv_at hl 0 rfl) ?_
  refine lv_iload_n hx hb dL_test_3 rfl (lv_at hl 1 rfl) ?_
  refine lv_iload_n hx hb dL_test_4 rfl (lv_at hl 2 rfl) ?_
  refine kX_i (xrun fx hSX hSZ (As := [.int p0, .int p1]) (rest := [.int (0 : Int32), .ref ao]) (c_X3_test l D q H.size h aw av kr kt x w v r t p0 p1 hstk) lk_L_46 ⟨Nat.le_of_ble_eq_true rfl, Nat.le_of_ble_eq_true rfl⟩ ⟨rfl, rfl⟩ hP (hD _ _ _ _ _ _) hS hA [0, 1, 2, 3, 4, 5, 6, 7, 8, 9, 10, 11, 12, 13] rfl rfl (ci := 3) rfl rfl rfl hl.1 rfl (Nat.le_of_ble_eq_true rfl) dL_test_5 ⟨Nat.le_of_ble_eq_true rfl, Nat.le_of_ble_eq_true rfl⟩) hP (hD _ _ _ _ _ _) hS hA [0, 1, 2, 3, 4, 5, 6, 7, 8, 9, 10, 11, 12, 13] rfl (fun _ => rfl) (fun k ce q9 H locs hp hP hS hce hcv hcl => ?_) (fun r1 u2 H locs hw3 hP hS => ?_)
  · have hP : va_P D vwCl (cWrap h aw av kr kt ao q x w v r t fo) H := hP
    obtain ⟨hk7, hor⟩ := hp
    rcases hor with rfl | rfl
    · have n6 : ¬ (f_X3_test x w t p0 p1).1 = 0 := by rw [hk7]; decide
      refine catchK (k := 2) fx hSX htab [] [(0, 17, 24, 17)] rfl (fun z hz => by simp at hz) (Or.inr (Or.inl rfl)) rfl ⟨by decide, by decide⟩ hce hcv hcl ?_
      refine lv_astore (lv' := [(4, .ref q9), (0, .ref h), (1, .int p0), (2, .int p1), (3, .ref ao)]) hx hb dL_test_20 hl (by decide) rfl (fun ls hl => ?_)
      refine lv_iconst (v := 1) hx hb dL_test_22 (by decide) ?_
      exact hret (1 : Int32) (w, t, fo) _ _ _ _ dL_test_23 (ht.trans (by simp only [f_L_test, if_neg n6, if_pos hk7])) hP hS
    · have n6 : ¬ (f_X3_test x w t p0 p1).1 = 0 := by rw [hk7]; decide
      have n6_2 : ¬ (f_X3_test x w t p0 p1).1 = 2 := by rw [hk7]; decide
      refine catchK (k := 3) fx hSX htab [(0, 17, 20, 15)] [] rfl (fun z hz => by simp only [List.mem_cons, List.not_mem_nil, or_false] at hz; rcases hz with rfl; exact ⟨2, rfl, by decide, by decide⟩) (Or.inr (Or.inr rfl)) rfl ⟨by decide, by decide⟩ hce hcv hcl ?_
      refine lv_astore (lv' := [(4, .ref q9), (0, .ref h), (1, .int p0), (2, .int p1), (3, .ref ao)]) hx hb dL_test_24 hl (by decide) rfl (fun ls hl => ?_)
      refine lv_iconst (v := 2) hx hb dL_test_26 (by decide) ?_
      exact hret (2 : Int32) (w, t, fo) _ _ _ _ dL_test_27 (ht.trans (by simp only [f_L_test, if_neg n6, if_neg n6_2])) hP hS
  · have hP : va_P D vwCl (cWrap h aw av kr kt ao q x u2.1 v r u2.2 fo) H := hP
    obtain ⟨hw3, hz4⟩ := hw3
    refine lv_if_eq (tgt := 15) hx hb dL_test_8 (by decide) (fun c5 => ?_) (fun c5 => ?_)
    · refine lv_lconst (v := 0) hx hb dL_test_15 (by decide) ?_
      refine va_last hx hb fx.2.2.2.2.2.1 hP (hD _ _ _ _ _ _) hS 14 2 (f := fo) rfl rfl (by unfold vp_in; decide) dL_test_16 (fun H locs hP _ hS => ?_)
      have hP : va_P D vwCl (cWrap h aw av kr kt ao q x u2.1 v r u2.2 (vp_updL fo (0 : Int32).toNatClampNeg (0 : Int64))) H := hP
      refine lv_goto (tgt := 28) hx hb dL_test_17 (by decide) ?_
      refine lv_iconst (v := 0) hx hb dL_test_28 (by decide) ?_
      exact hret (0 : Int32) (u2.1, u2.2, vp_updL fo (0 : Int32).toNatClampNeg (0 : Int64)) _ _ _ _ dL_test_29 (ht.trans (by first | (simp only [f_L_test, eq_self, if_true, if_pos c5, hw3]; done) | (simp only [f_L_test, hw3]; simp only [eq_self, if_true, if_pos c5]))) hP hS
    · refine lv_lconst (v := 1) hx hb dL_test_11 (by decide) ?_
      refine lv_goto (tgt := 16) hx hb dL_test_12 (by decide) ?_
      refine va_last hx hb fx.2.2.2.2.2.1 hP (hD _ _ _ _ _ _) hS 14 2 (f := fo) rfl rfl (by unfold vp_in; decide) dL_test_16 (fun H locs hP _ hS => ?_)
      have hP : va_P D vwCl (cWrap h aw av kr kt ao q x u2.1 v r u2.2 (vp_updL fo (0 : Int32).toNatClampNeg (1 : Int64))) H := hP
      refine lv_goto (tgt := 28) hx hb dL_test_17 (by decide) ?_
      refine lv_iconst (v := 0) hx hb dL_test_28 (by decide) ?_
      exact hret (0 : Int32) (u2.1, u2.2, vp_updL fo (0 : Int32).toNatClampNeg (1 : Int64)) _ _ _ _ dL_test_29 (ht.trans (by first | (simp only [f_L_test, eq_self, if_true, if_neg c5, hw3]; done) | (simp only [f_L_test, hw3]; simp only [eq_self, if_true, if_neg c5]))) hP hS

/-! L_stop -/
def f_L_stop (x : XS) (fo : (Nat → Int64)) (p0 : Int32) (p1 : Int32) : Int32 × XS × (Nat → Int64) :=
  if (f_X3_stop x p0 p1).1 = 0 then ((0 : Int32), ((f_X3_stop x p0 p1).2.2), vp_updL fo (0 : Int32).toNatClampNeg (f_X3_stop x p0 p1).2.1.toInt64) else ((1 : Int32), x, fo)

abbrev RM_L_stop : Room := { frames := 7, cells := 1, slots := 6, locals := 113 }
set_option maxRecDepth 100000 in
set_option maxHeartbeats 4000000 in
theorem c_L_stop (l : Launch) (D : va_G) (q : Nat → ClassId) (sz : Nat) (h : Nat) (aw : Nat) (av : Nat) (kr : Nat → Nat) (kt : Nat → Nat) (ao : Nat) (x : XS) (w : WS) (v : WS) (r : RS) (t : TS) (fo : (Nat → Int64)) (p0 : Int32) (p1 : Int32) (hstk : l.stackTraces = false) : Met l yL_stop (Cond.codeWith yL_stop cL_stop 5 (some .int) [(0, 10, 13, 13)] :: ALL) RM_L_stop (PX D q [.ref h, .int p0, .int p1, .ref ao] (cWrap h aw av kr kt ao q x w v r t fo) sz) (va_Qi (fun (rv : Int32) (u : XS × (Nat → Int64)) => f_L_stop x fo p0 p1 = (rv, u)) (fun u t9 => va_P D vwCl (cWrap h aw av kr kt ao q u.1 w v r t u.2) t9.heap) (va_A (cWrap h aw av kr kt ao q x w v r t fo) sz)) 1 6 (va_A (cWrap h aw av kr kt ao q x w v r t fo) sz) := by
  refine en_w rfl (by decide +kernel) (Nat.le_of_ble_eq_true rfl) ?_
  intro p e s m args below meth c Q A H locs ls fx hSX hSZ htab hD0 hA hP hS hl hret
  have hx := fx.1
  have hb := fx.2.1
  have hl : lv_has ls 5 [(0, .ref h), (1, .int p0), (2, .int p1), (3, .ref ao)] := hl
  have hD : ∀ (x9 : XS) (w9 : WS) (v9 : WS) (r9 : RS) (t9 : TS) (fo9 : (Nat → Int64)), va_D _ (cWrap h aw av kr kt ao q x9 w9 v9 r9 t9 fo9) := fun _ _ _ _ _ _ => D_same ((fst_Wrap _ _ _ _ _ _ _ _ _ _ _ _ _).trans (fst_Wrap _ _ _ _ _ _ _ _ _ _ _ _ _).symm) hD0
  have ht : f_L_stop x fo p0 p1 = f_L_stop x fo p0 p1 := rfl
  refine lv_aload_n hx hb dL_stop_0 rfl (lv_at hl 3 rfl) ?_
  refine lv_iconst (v := 0) hx hb dL_stop_1 (by decide) ?_
  refine lv_aload_n hx hb dL_stop_2 rfl (lv_at hl 0 rfl) ?_
  refine lv_iload_n hx hb dL_stop_3 rfl (lv_at hl 1 rfl) ?_
  refine lv_iload_n hx hb dL_stop_4 rfl (lv_at hl 2 rfl) ?_
  refine kX_i (xrun fx hSX hSZ (As := [.int p0, .int p1]) (rest := [.int (0 : Int32), .ref ao]) (c_X3_stop l D q H.size h aw av kr kt x w v r t p0 p1 hstk) lk_L_50 ⟨Nat.le_of_ble_eq_true rfl, Nat.le_of_ble_eq_true rfl⟩ ⟨rfl, rfl⟩ hP (hD _ _ _ _ _ _) hS hA [0, 1, 2, 3, 4, 5, 6, 7, 8, 9, 10, 11, 12, 13] rfl rfl (ci := 3) rfl rfl rfl hl.1 rfl (Nat.le_of_ble_eq_true rfl) dL_stop_5 ⟨Nat.le_of_ble_eq_true rfl, Nat.le_of_ble_eq_true rfl⟩) hP (hD _ _ _ _ _ _) hS hA [0, 1, 2, 3, 4, 5, 6, 7, 8, 9, 10, 11, 12, 13] rfl (fun _ => rfl) (fun k ce q9 H locs hp hP hS hce hcv hcl => ?_) (fun r1 u2 H locs hw3 hP hS => ?_)
  · have hP : va_P D vwCl (cWrap h aw av kr kt ao q x w v r t fo) H := hP
    obtain ⟨hk5, hor⟩ := hp
    subst hor
    have n4 : ¬ (f_X3_stop x p0 p1).1 = 0 := by rw [hk5]; decide
    refine catchK (k := 1) fx hSX htab [] [] rfl (fun z hz => by simp at hz) (Or.inl rfl) rfl ⟨by decide, by decide⟩ hce hcv hcl ?_
    refine lv_astore (lv' := [(4, .ref q9), (0, .ref h), (1, .int p0), (2, .int p1), (3, .ref ao)]) hx hb dL_stop_13 hl (by decide) rfl (fun ls hl => ?_)
    refine lv_iconst (v := 1) hx hb dL_stop_15 (by decide) ?_
    exact hret (1 : Int32) (x, fo) _ _ _ _ dL_stop_16 (ht.trans (by simp only [f_L_stop, if_neg n4])) hP hS
  · have hP : va_P D vwCl (cWrap h aw av kr kt ao q u2 w v r t fo) H := hP
    refine lv_i2l (v := r1.toInt64) hx hb dL_stop_8 rfl ?_
    refine va_last hx hb fx.2.2.2.2.2.1 hP (hD _ _ _ _ _ _) hS 14 2 (f := fo) rfl rfl (by unfold vp_in; decide) dL_stop_9 (fun H locs hP _ hS => ?_)
    have hP : va_P D vwCl (cWrap h aw av kr kt ao q u2 w v r t (vp_updL fo (0 : Int32).toNatClampNeg r1.toInt64)) H := hP
    refine lv_goto (tgt := 17) hx hb dL_stop_10 (by decide) ?_
    refine lv_iconst (v := 0) hx hb dL_stop_17 (by decide) ?_
    exact hret (0 : Int32) (u2, vp_updL fo (0 : Int32).toNatClampNeg r1.toInt64) _ _ _ _ dL_stop_18 (ht.trans (by first | (simp only [f_L_stop, eq_self, if_true, hw3]; done) | (simp only [f_L_stop, hw3]; simp only [eq_self, if_true]))) hP hS

/-! L_pressure -/
def f_L_pressure (w : WS) (r : RS) (fo : (Nat → Int64)) (p0 : Int32) : Int32 × (Nat → Int64) :=
  if (f_X3_pressure w r p0).1 = 0 then ((0 : Int32), vp_updL fo (0 : Int32).toNatClampNeg (f_X3_pressure w r p0).2.toInt64) else ((1 : Int32), fo)

abbrev RM_L_pressure : Room := { frames := 7, cells := 1, slots := 6, locals := 111 }
set_option maxRecDepth 100000 in
set_option maxHeartbeats 4000000 in
theorem c_L_pressure (l : Launch) (D : va_G) (q : Nat → ClassId) (sz : Nat) (h : Nat) (aw : Nat) (av : Nat) (kr : Nat → Nat) (kt : Nat → Nat) (ao : Nat) (x : XS) (w : WS) (v : WS) (r : RS) (t : TS) (fo : (Nat → Int64)) (p0 : Int32) (hstk : l.stackTraces = false) : Met l yL_pressure (Cond.codeWith yL_pressure cL_pressure 4 (some .int) [(0, 9, 12, 15)] :: ALL) RM_L_pressure (PX D q [.ref h, .int p0, .ref ao] (cWrap h aw av kr kt ao q x w v r t fo) sz) (va_Qi (fun (rv : Int32) (u : (Nat → Int64)) => f_L_pressure w r fo p0 = (rv, u)) (fun u t9 => va_P D vwCl (cWrap h aw av kr kt ao q x w v r t u) t9.heap) (va_A (cWrap h aw av kr kt ao q x w v r t fo) sz)) 1 6 (va_A (cWrap h aw av kr kt ao q x w v r t fo) sz) := by
  refine en_w rfl (by decide +kernel) (Nat.le_of_ble_eq_true rfl) ?_
  intro p e s m args below meth c Q A H locs ls fx hSX hSZ htab hD0 hA hP hS hl hret
  have hx := fx.1
  have hb := fx.2.1
  have hl : lv_has ls 4 [(0, .ref h), (1, .int p0), (2, .ref ao)] := hl
  have hD : ∀ (x9 : XS) (w9 : WS) (v9 : WS) (r9 : RS) (t9 : TS) (fo9 : (Nat → Int64)), va_D _ (cWrap h aw av kr kt ao q x9 w9 v9 r9 t9 fo9) := fun _ _ _ _ _ _ => D_same ((fst_Wrap _ _ _ _ _ _ _ _ _ _ _ _ _).trans (fst_Wrap _ _ _ _ _ _ _ _ _ _ _ _ _).symm) hD0
  have ht : f_L_pressure w r fo p0 = f_L_pressure w r fo p0 := rfl
  refine lv_aload_n hx hb dL_pressure_0 rfl (lv_at hl 2 rfl) ?_
  refine lv_iconst (v := 0) hx hb dL_pressure_1 (by decide) ?_
  refine lv_aload_n hx hb dL_pressure_2 rfl (lv_at hl 0 rfl) ?_
  refine lv_iload_n hx hb dL_pressure_3 rfl (lv_at hl 1 rfl) ?_
  refine kX_i (xrun fx hSX hSZ (As := [.int p0]) (rest := [.int (0 : Int32), .ref ao]) (c_X3_pressure l D q H.size h aw av kr kt x w v r t p0 hstk) lk_L_54 ⟨Nat.le_of_ble_eq_true rfl, Nat.le_of_ble_eq_true rfl⟩ ⟨rfl, rfl⟩ hP (hD _ _ _ _ _ _) hS hA [0, 1, 2, 3, 4, 5, 6, 7, 8, 9, 10, 11, 12, 13] rfl rfl (ci := 3) rfl rfl rfl hl.1 rfl (Nat.le_of_ble_eq_true rfl) dL_pressure_4 ⟨Nat.le_of_ble_eq_true rfl, Nat.le_of_ble_eq_true rfl⟩) hP (hD _ _ _ _ _ _) hS hA [0, 1, 2, 3, 4, 5, 6, 7, 8, 9, 10, 11, 12, 13] rfl (fun _ => rfl) (fun k ce q9 H locs hp hP hS hce hcv hcl => ?_) (fun r1 _ H locs hw3 hP hS => ?_)
  · have hP : va_P D vwCl (cWrap h aw av kr kt ao q x w v r t fo) H := hP
    obtain ⟨hk5, hor⟩ := hp
    subst hor
    have n4 : ¬ (f_X3_pressure w r p0).1 = 0 := by rw [hk5]; decide
    refine catchK (k := 2) fx hSX htab [] [] rfl (fun z hz => by simp at hz) (Or.inr (Or.inl rfl)) rfl ⟨by decide, by decide⟩ hce hcv hcl ?_
    refine lv_astore_n (lv' := [(3, .ref q9), (0, .ref h), (1, .int p0), (2, .ref ao)]) hx hb dL_pressure_12 rfl hl (by decide) rfl (fun ls hl => ?_)
    refine lv_iconst (v := 1) hx hb dL_pressure_13 (by decide) ?_
    exact hret (1 : Int32) fo _ _ _ _ dL_pressure_14 (ht.trans (by simp only [f_L_pressure, if_neg n4])) hP hS
  · have hP : va_P D vwCl (cWrap h aw av kr kt ao q x w v r t fo) H := hP
    refine lv_i2l (v := r1.toInt64) hx hb dL_pressure_7 rfl ?_
    refine va_last hx hb fx.2.2.2.2.2.1 hP (hD _ _ _ _ _ _) hS 14 2 (f := fo) rfl rfl (by unfold vp_in; decide) dL_pressure_8 (fun H locs hP _ hS => ?_)
    have hP : va_P D vwCl (cWrap h aw av kr kt ao q x w v r t (vp_updL fo (0 : Int32).toNatClampNeg r1.toInt64)) H := hP
    refine lv_goto (tgt := 15) hx hb dL_pressure_9 (by decide) ?_
    refine lv_iconst (v := 0) hx hb dL_pressure_15 (by decide) ?_
    exact hret (0 : Int32) (vp_updL fo (0 : Int32).toNatClampNeg r1.toInt64) _ _ _ _ dL_pressure_16 (ht.trans (by first | (simp only [f_L_pressure, eq_self, if_true, hw3]; done) | (simp only [f_L_pressure, hw3]; simp only [eq_self, if_true]))) hP hS

/-! L_of -/
def f_L_of (x : XS) (w : WS) (fo : (Nat → Int64)) (p0 : Int32) : Int32 × (Nat → Int64) :=
  if (f_X3_of x w p0).1 = 0 then ((0 : Int32), vp_updL fo (0 : Int32).toNatClampNeg (f_X3_of x w p0).2) else ((1 : Int32), fo)

abbrev RM_L_of : Room := { frames := 7, cells := 1, slots := 6, locals := 111 }
set_option maxRecDepth 100000 in
set_option maxHeartbeats 4000000 in
theorem c_L_of (l : Launch) (D : va_G) (q : Nat → ClassId) (sz : Nat) (h : Nat) (aw : Nat) (av : Nat) (kr : Nat → Nat) (kt : Nat → Nat) (ao : Nat) (x : XS) (w : WS) (v : WS) (r : RS) (t : TS) (fo : (Nat → Int64)) (p0 : Int32) (hstk : l.stackTraces = false) : Met l yL_of (Cond.codeWith yL_of cL_of 4 (some .int) [(0, 8, 11, 15)] :: ALL) RM_L_of (PX D q [.ref h, .int p0, .ref ao] (cWrap h aw av kr kt ao q x w v r t fo) sz) (va_Qi (fun (rv : Int32) (u : (Nat → Int64)) => f_L_of x w fo p0 = (rv, u)) (fun u t9 => va_P D vwCl (cWrap h aw av kr kt ao q x w v r t u) t9.heap) (va_A (cWrap h aw av kr kt ao q x w v r t fo) sz)) 1 6 (va_A (cWrap h aw av kr kt ao q x w v r t fo) sz) := by
  refine en_w rfl (by decide +kernel) (Nat.le_of_ble_eq_true rfl) ?_
  intro p e s m args below meth c Q A H locs ls fx hSX hSZ htab hD0 hA hP hS hl hret
  have hx := fx.1
  have hb := fx.2.1
  have hl : lv_has ls 4 [(0, .ref h), (1, .int p0), (2, .ref ao)] := hl
  have hD : ∀ (x9 : XS) (w9 : WS) (v9 : WS) (r9 : RS) (t9 : TS) (fo9 : (Nat → Int64)), va_D _ (cWrap h aw av kr kt ao q x9 w9 v9 r9 t9 fo9) := fun _ _ _ _ _ _ => D_same ((fst_Wrap _ _ _ _ _ _ _ _ _ _ _ _ _).trans (fst_Wrap _ _ _ _ _ _ _ _ _ _ _ _ _).symm) hD0
  have ht : f_L_of x w fo p0 = f_L_of x w fo p0 := rfl
  refine lv_aload_n hx hb dL_of_0 rfl (lv_at hl 2 rfl) ?_
  refine lv_iconst (v := 0) hx hb dL_of_1 (by decide) ?_
  refine lv_aload_n hx hb dL_of_2 rfl (lv_at hl 0 rfl) ?_
  refine lv_iload_n hx hb dL_of_3 rfl (lv_at hl 1 rfl) ?_
  refine kX_l (xrun fx hSX hSZ (As := [.int p0]) (rest := [.int (0 : Int32), .ref ao]) (c_X3_of l D q H.size h aw av kr kt x w v r t p0 hstk) lk_L_57 ⟨Nat.le_of_ble_eq_true rfl, Nat.le_of_ble_eq_true rfl⟩ ⟨rfl, rfl⟩ hP (hD _ _ _ _ _ _) hS hA [0, 1, 2, 3, 4, 5, 6, 7, 8, 9, 10, 11, 12, 13] rfl rfl (ci := 3) rfl rfl rfl hl.1 rfl (Nat.le_of_ble_eq_true rfl) dL_of_4 ⟨Nat.le_of_ble_eq_true rfl, Nat.le_of_ble_eq_true rfl⟩) hP (hD _ _ _ _ _ _) hS hA [0, 1, 2, 3, 4, 5, 6, 7, 8, 9, 10, 11, 12, 13] rfl (fun _ => rfl) (fun k ce q9 H locs hp hP hS hce hcv hcl => ?_) (fun r1 _ H locs hw3 hP hS => ?_)
  · have hP : va_P D vwCl (cWrap h aw av kr kt ao q x w v r t fo) H := hP
    obtain ⟨hk5, hor⟩ := hp
    subst hor
    have n4 : ¬ (f_X3_of x w p0).1 = 0 := by rw [hk5]; decide
    refine catchK (k := 2) fx hSX htab [] [] rfl (fun z hz => by simp at hz) (Or.inr (Or.inl rfl)) rfl ⟨by decide, by decide⟩ hce hcv hcl ?_
    refine lv_astore_n (lv' := [(3, .ref q9), (0, .ref h), (1, .int p0), (2, .ref ao)]) hx hb dL_of_11 rfl hl (by decide) rfl (fun ls hl => ?_)
    refine lv_iconst (v := 1) hx hb dL_of_12 (by decide) ?_
    exact hret (1 : Int32) fo _ _ _ _ dL_of_13 (ht.trans (by simp only [f_L_of, if_neg n4])) hP hS
  · have hP : va_P D vwCl (cWrap h aw av kr kt ao q x w v r t fo) H := hP
    refine va_last hx hb fx.2.2.2.2.2.1 hP (hD _ _ _ _ _ _) hS 14 2 (f := fo) rfl rfl (by unfold vp_in; decide) dL_of_7 (fun H locs hP _ hS => ?_)
    have hP : va_P D vwCl (cWrap h aw av kr kt ao q x w v r t (vp_updL fo (0 : Int32).toNatClampNeg r1)) H := hP
    refine lv_goto (tgt := 14) hx hb dL_of_8 (by decide) ?_
    refine lv_iconst (v := 0) hx hb dL_of_14 (by decide) ?_
    exact hret (0 : Int32) (vp_updL fo (0 : Int32).toNatClampNeg r1) _ _ _ _ dL_of_15 (ht.trans (by first | (simp only [f_L_of, eq_self, if_true, hw3]; done) | (simp only [f_L_of, hw3]; simp only [eq_self, if_true]))) hP hS

/-! L_ofTest -/
def f_L_ofTest (t : TS) (fo : (Nat → Int64)) (p0 : Int32) (p1 : Int32) : Int32 × (Nat → Int64) :=
  if (f_X3_ofTest t p0 p1).1 = 0 then ((0 : Int32), vp_updL fo (0 : Int32).toNatClampNeg (f_X3_ofTest t p0 p1).2.toInt64) else (if (f_X3_ofTest t p0 p1).1 = 1 then ((1 : Int32), fo) else ((2 : Int32), fo))

abbrev RM_L_ofTest : Room := { frames := 7, cells := 1, slots := 6, locals := 112 }
set_option maxRecDepth 100000 in
set_option maxHeartbeats 4000000 in
theorem c_L_ofTest (l : Launch) (D : va_G) (q : Nat → ClassId) (sz : Nat) (h : Nat) (aw : Nat) (av : Nat) (kr : Nat → Nat) (kt : Nat → Nat) (ao : Nat) (x : XS) (w : WS) (v : WS) (r : RS) (t : TS) (fo : (Nat → Int64)) (p0 : Int32) (p1 : Int32) (hstk : l.stackTraces = false) : Met l yL_ofTest (Cond.codeWith yL_ofTest cL_ofTest 5 (some .int) [(0, 10, 13, 13), (0, 10, 17, 15)] :: ALL) RM_L_ofTest (PX D q [.ref h, .int p0, .int p1, .ref ao] (cWrap h aw av kr kt ao q x w v r t fo) sz) (va_Qi (fun (rv : Int32) (u : (Nat → Int64)) => f_L_ofTest t fo p0 p1 = (rv, u)) (fun u t9 => va_P D vwCl (cWrap h aw av kr kt ao q x w v r t u) t9.heap) (va_A (cWrap h aw av kr kt ao q x w v r t fo) sz)) 1 6 (va_A (cWrap h aw av kr kt ao q x w v r t fo) sz) := by
  refine en_w rfl (by decide +kernel) (Nat.le_of_ble_eq_true rfl) ?_
  intro p e s m args below meth c Q A H locs ls fx hSX hSZ htab hD0 hA hP hS hl hret
  have hx := fx.1
  have hb := fx.2.1
  have hl : lv_has ls 5 [(0, .ref h), (1, .int p0), (2, .int p1), (3, .ref ao)] := hl
  have hD : ∀ (x9 : XS) (w9 : WS) (v9 : WS) (r9 : RS) (t9 : TS) (fo9 : (Nat → Int64)), va_D _ (cWrap h aw av kr kt ao q x9 w9 v9 r9 t9 fo9) := fun _ _ _ _ _ _ => D_same ((fst_Wrap _ _ _ _ _ _ _ _ _ _ _ _ _).trans (fst_Wrap _ _ _ _ _ _ _ _ _ _ _ _ _).symm) hD0
  have ht : f_L_ofTest t fo p0 p1 = f_L_ofTest t fo p0 p1 := rfl
  refine lv_aload_n hx hb dL_ofTest_0 rfl (lv_at hl 3 rfl) ?_
  refine lv_iconst (v := 0) hx hb dL_ofTest_1 (by decide) ?_
  refine lv_aload_n hx hb dL_ofTest_2 rfl (lv_at hl 0 rfl) ?_
  refine lv_iload_n hx hb dL_ofTest_3 rfl (lv_at hl 1 rfl) ?_
  refine lv_iload_n hx hb dL_ofTest_4 rfl (lv_at hl 2 rfl) ?_
  refine kX_i (xrun fx hSX hSZ (As := [.int p0, .int p1]) (rest := [.int (0 : Int32), .ref ao]) (c_X3_ofTest l D q H.size h aw av kr kt x w v r t p0 p1 hstk) lk_L_61 ⟨Nat.le_of_ble_eq_true rfl, Nat.le_of_ble_eq_true rfl⟩ ⟨rfl, rfl⟩ hP (hD _ _ _ _ _ _) hS hA [0, 1, 2, 3, 4, 5, 6, 7, 8, 9, 10, 11, 12, 13] rfl rfl (ci := 3) rfl rfl rfl hl.1 rfl (Nat.le_of_ble_eq_true rfl) dL_ofTest_5 ⟨Nat.le_of_ble_eq_true rfl, Nat.le_of_ble_eq_true rfl⟩) hP (hD _ _ _ _ _ _) hS hA [0, 1, 2, 3, 4, 5, 6, 7, 8, 9, 10, 11, 12, 13] rfl (fun _ => rfl) (fun k ce q9 H locs hp hP hS hce hcv hcl => ?_) (fun r1 _ H locs hw3 hP hS => ?_)
  · have hP : va_P D vwCl (cWrap h aw av kr kt ao q x w v r t fo) H := hP
    obtain ⟨hk5, hor⟩ := hp
    rcases hor with rfl | rfl
    · have n4 : ¬ (f_X3_ofTest t p0 p1).1 = 0 := by rw [hk5]; decide
      refine catchK (k := 1) fx hSX htab [] [(0, 10, 17, 15)] rfl (fun z hz => by simp at hz) (Or.inl rfl) rfl ⟨by decide, by decide⟩ hce hcv hcl ?_
      refine lv_astore (lv' := [(4, .ref q9), (0, .ref h), (1, .int p0), (2, .int p1), (3, .ref ao)]) hx hb dL_ofTest_13 hl (by decide) rfl (fun ls hl => ?_)
      refine lv_iconst (v := 1) hx hb dL_ofTest_15 (by decide) ?_
      exact hret (1 : Int32) fo _ _ _ _ dL_ofTest_16 (ht.trans (by simp only [f_L_ofTest, if_neg n4, if_pos hk5])) hP hS
    · have n4 : ¬ (f_X3_ofTest t p0 p1).1 = 0 := by rw [hk5]; decide
      have n4_1 : ¬ (f_X3_ofTest t p0 p1).1 = 1 := by rw [hk5]; decide
      refine catchK (k := 2) fx hSX htab [(0, 10, 13, 13)] [] rfl (fun z hz => by simp only [List.mem_cons, List.not_mem_nil, or_false] at hz; rcases hz with rfl; exact ⟨1, rfl, by decide, by decide⟩) (Or.inr (Or.inl rfl)) rfl ⟨by decide, by decide⟩ hce hcv hcl ?_
      refine lv_astore (lv' := [(4, .ref q9), (0, .ref h), (1, .int p0), (2, .int p1), (3, .ref ao)]) hx hb dL_ofTest_17 hl (by decide) rfl (fun ls hl => ?_)
      refine lv_iconst (v := 2) hx hb dL_ofTest_19 (by decide) ?_
      exact hret (2 : Int32) fo _ _ _ _ dL_ofTest_20 (ht.trans (by simp only [f_L_ofTest, if_neg n4, if_neg n4_1])) hP hS
  · have hP : va_P D vwCl (cWrap h aw av kr kt ao q x w v r t fo) H := hP
    refine lv_i2l (v := r1.toInt64) hx hb dL_ofTest_8 rfl ?_
    refine va_last hx hb fx.2.2.2.2.2.1 hP (hD _ _ _ _ _ _) hS 14 2 (f := fo) rfl rfl (by unfold vp_in; decide) dL_ofTest_9 (fun H locs hP _ hS => ?_)
    have hP : va_P D vwCl (cWrap h aw av kr kt ao q x w v r t (vp_updL fo (0 : Int32).toNatClampNeg r1.toInt64)) H := hP
    refine lv_goto (tgt := 21) hx hb dL_ofTest_10 (by decide) ?_
    refine lv_iconst (v := 0) hx hb dL_ofTest_21 (by decide) ?_
    exact hret (0 : Int32) (vp_updL fo (0 : Int32).toNatClampNeg r1.toInt64) _ _ _ _ dL_ofTest_22 (ht.trans (by first | (simp only [f_L_ofTest, eq_self, if_true, hw3]; done) | (simp only [f_L_ofTest, hw3]; simp only [eq_self, if_true]))) hP hS

/-! L_killWeight -/
def f_L_killWeight (w : WS) (r : RS) (fo : (Nat → Int64)) : Int32 × (Nat → Int64) :=
  if (f_X3_killWeight w r).1 = 0 then ((0 : Int32), vp_updL fo (0 : Int32).toNatClampNeg (f_X3_killWeight w r).2.toInt64) else ((1 : Int32), fo)

abbrev RM_L_killWeight : Room := { frames := 7, cells := 1, slots := 6, locals := 111 }
set_option maxRecDepth 100000 in
set_option maxHeartbeats 4000000 in
theorem c_L_killWeight (l : Launch) (D : va_G) (q : Nat → ClassId) (sz : Nat) (h : Nat) (aw : Nat) (av : Nat) (kr : Nat → Nat) (kt : Nat → Nat) (ao : Nat) (x : XS) (w : WS) (v : WS) (r : RS) (t : TS) (fo : (Nat → Int64)) (hstk : l.stackTraces = false) : Met l yL_killWeight (Cond.codeWith yL_killWeight cL_killWeight 3 (some .int) [(0, 8, 11, 17)] :: ALL) RM_L_killWeight (PX D q [.ref h, .ref ao] (cWrap h aw av kr kt ao q x w v r t fo) sz) (va_Qi (fun (rv : Int32) (u : (Nat → Int64)) => f_L_killWeight w r fo = (rv, u)) (fun u t9 => va_P D vwCl (cWrap h aw av kr kt ao q x w v r t u) t9.heap) (va_A (cWrap h aw av kr kt ao q x w v r t fo) sz)) 1 6 (va_A (cWrap h aw av kr kt ao q x w v r t fo) sz) := by
  refine en_w rfl (by decide +kernel) (Nat.le_of_ble_eq_true rfl) ?_
  intro p e s m args below meth c Q A H locs ls fx hSX hSZ htab hD0 hA hP hS hl hret
  have hx := fx.1
  have hb := fx.2.1
  have hl : lv_has ls 3 [(0, .ref h), (1, .ref ao)] := hl
  have hD : ∀ (x9 : XS) (w9 : WS) (v9 : WS) (r9 : RS) (t9 : TS) (fo9 : (Nat → Int64)), va_D _ (cWrap h aw av kr kt ao q x9 w9 v9 r9 t9 fo9) := fun _ _ _ _ _ _ => D_same ((fst_Wrap _ _ _ _ _ _ _ _ _ _ _ _ _).trans (fst_Wrap _ _ _ _ _ _ _ _ _ _ _ _ _).symm) hD0
  have ht : f_L_killWeight w r fo = f_L_killWeight w r fo := rfl
  refine lv_aload_n hx hb dL_killWeight_0 rfl (lv_at hl 1 rfl) ?_
  refine lv_iconst (v := 0) hx hb dL_killWeight_1 (by decide) ?_
  refine lv_aload_n hx hb dL_killWeight_2 rfl (lv_at hl 0 rfl) ?_
  refine kX_i (xrun fx hSX hSZ (As := []) (rest := [.int (0 : Int32), .ref ao]) (c_X3_killWeight l D q H.size h aw av kr kt x w v r t hstk) lk_L_64 ⟨Nat.le_of_ble_eq_true rfl, Nat.le_of_ble_eq_true rfl⟩ ⟨rfl, rfl⟩ hP (hD _ _ _ _ _ _) hS hA [0, 1, 2, 3, 4, 5, 6, 7, 8, 9, 10, 11, 12, 13] rfl rfl (ci := 3) rfl rfl rfl hl.1 rfl (Nat.le_of_ble_eq_true rfl) dL_killWeight_3 ⟨Nat.le_of_ble_eq_true rfl, Nat.le_of_ble_eq_true rfl⟩) hP (hD _ _ _ _ _ _) hS hA [0, 1, 2, 3, 4, 5, 6, 7, 8, 9, 10, 11, 12, 13] rfl (fun _ => rfl) (fun k ce q9 H locs hp hP hS hce hcv hcl => ?_) (fun r1 _ H locs hw3 hP hS => ?_)
  · have hP : va_P D vwCl (cWrap h aw av kr kt ao q x w v r t fo) H := hP
    obtain ⟨hk5, hor⟩ := hp
    subst hor
    have n4 : ¬ (f_X3_killWeight w r).1 = 0 := by rw [hk5]; decide
    refine catchK (k := 3) fx hSX htab [] [] rfl (fun z hz => by simp at hz) (Or.inr (Or.inr rfl)) rfl ⟨by decide, by decide⟩ hce hcv hcl ?_
    refine lv_astore_n (lv' := [(2, .ref q9), (0, .ref h), (1, .ref ao)]) hx hb dL_killWeight_11 rfl hl (by decide) rfl (fun ls hl => ?_)
    refine lv_iconst (v := 1) hx hb dL_killWeight_12 (by decide) ?_
    exact hret (1 : Int32) fo _ _ _ _ dL_killWeight_13 (ht.trans (by simp only [f_L_killWeight, if_neg n4])) hP hS
  · have hP : va_P D vwCl (cWrap h aw av kr kt ao q x w v r t fo) H := hP
    refine lv_i2l (v := r1.toInt64) hx hb dL_killWeight_6 rfl ?_
    refine va_last hx hb fx.2.2.2.2.2.1 hP (hD _ _ _ _ _ _) hS 14 2 (f := fo) rfl rfl (by unfold vp_in; decide) dL_killWeight_7 (fun H locs hP _ hS => ?_)
    have hP : va_P D vwCl (cWrap h aw av kr kt ao q x w v r t (vp_updL fo (0 : Int32).toNatClampNeg r1.toInt64)) H := hP
    refine lv_goto (tgt := 14) hx hb dL_killWeight_8 (by decide) ?_
    refine lv_iconst (v := 0) hx hb dL_killWeight_14 (by decide) ?_
    exact hret (0 : Int32) (vp_updL fo (0 : Int32).toNatClampNeg r1.toInt64) _ _ _ _ dL_killWeight_15 (ht.trans (by first | (simp only [f_L_killWeight, eq_self, if_true, hw3]; done) | (simp only [f_L_killWeight, hw3]; simp only [eq_self, if_true]))) hP hS

/-! L_window -/
def f_L_window (N : Nat) (r : RS) (fo : (Nat → Int64)) (p0 : Int32) (p1 : Int32) (p2 : Int32) : Int32 × (Nat → Int64) :=
  if (f_X3_window N r p0 p1 p2).1 = 0 then ((0 : Int32), vp_updL fo (0 : Int32).toNatClampNeg (f_X3_window N r p0 p1 p2).2.toInt64) else ((1 : Int32), fo)

def ok_L_window (N : Nat) (r : RS) (p0 : Int32) (p1 : Int32) (p2 : Int32) : Prop :=
  (ok_X3_window N r p0 p1 p2) ∧ True

abbrev RM_L_window : Room := { frames := 7, cells := 1, slots := 6, locals := 115 }
set_option maxRecDepth 100000 in
set_option maxHeartbeats 4000000 in
theorem c_L_window (l : Launch) (D : va_G) (q : Nat → ClassId) (sz : Nat) (h : Nat) (aw : Nat) (av : Nat) (kr : Nat → Nat) (kt : Nat → Nat) (ao : Nat) (x : XS) (w : WS) (v : WS) (r : RS) (t : TS) (fo : (Nat → Int64)) (p0 : Int32) (p1 : Int32) (p2 : Int32) (N : Nat) (hok : ok_L_window N r p0 p1 p2) (hstk : l.stackTraces = false) : Met l yL_window (Cond.codeWith yL_window cL_window 6 (some .int) [(0, 12, 15, 15)] :: ALL) RM_L_window (PX D q [.ref h, .int p0, .int p1, .int p2, .ref ao] (cWrap h aw av kr kt ao q x w v r t fo) sz) (va_Qi (fun (rv : Int32) (u : (Nat → Int64)) => f_L_window N r fo p0 p1 p2 = (rv, u)) (fun u t9 => va_P D vwCl (cWrap h aw av kr kt ao q x w v r t u) t9.heap) (va_A (cWrap h aw av kr kt ao q x w v r t fo) sz)) 1 6 (va_A (cWrap h aw av kr kt ao q x w v r t fo) sz) := by
  refine en_w rfl (by decide +kernel) (Nat.le_of_ble_eq_true rfl) ?_
  intro p e s m args below meth c Q A H locs ls fx hSX hSZ htab hD0 hA hP hS hl hret
  have hx := fx.1
  have hb := fx.2.1
  have hl : lv_has ls 6 [(0, .ref h), (1, .int p0), (2, .int p1), (3, .int p2), (4, .ref ao)] := hl
  have hD : ∀ (x9 : XS) (w9 : WS) (v9 : WS) (r9 : RS) (t9 : TS) (fo9 : (Nat → Int64)), va_D _ (cWrap h aw av kr kt ao q x9 w9 v9 r9 t9 fo9) := fun _ _ _ _ _ _ => D_same ((fst_Wrap _ _ _ _ _ _ _ _ _ _ _ _ _).trans (fst_Wrap _ _ _ _ _ _ _ _ _ _ _ _ _).symm) hD0
  have ht : f_L_window N r fo p0 p1 p2 = f_L_window N r fo p0 p1 p2 := rfl
  simp only [ok_L_window] at hok
  refine lv_aload hx hb dL_window_0 (lv_at hl 4 rfl) ?_
  refine lv_iconst (v := 0) hx hb dL_window_2 (by decide) ?_
  refine lv_aload_n hx hb dL_window_3 rfl (lv_at hl 0 rfl) ?_
  refine lv_iload_n hx hb dL_window_4 rfl (lv_at hl 1 rfl) ?_
  refine lv_iload_n hx hb dL_window_5 rfl (lv_at hl 2 rfl) ?_
  refine lv_iload_n hx hb dL_window_6 rfl (lv_at hl 3 rfl) ?_
  obtain ⟨hk1, hok⟩ := hok
  refine kX_i (xrun fx hSX hSZ (As := [.int p0, .int p1, .int p2]) (rest := [.int (0 : Int32), .ref ao]) (c_X3_window l D q H.size h aw av kr kt x w v r t p0 p1 p2 N hk1 hstk) lk_L_67 ⟨Nat.le_of_ble_eq_true rfl, Nat.le_of_ble_eq_true rfl⟩ ⟨rfl, rfl⟩ hP (hD _ _ _ _ _ _) hS hA [0, 1, 2, 3, 4, 5, 6, 7, 8, 9, 10, 11, 12, 13] rfl rfl (ci := 3) rfl rfl rfl hl.1 rfl (Nat.le_of_ble_eq_true rfl) dL_window_7 ⟨Nat.le_of_ble_eq_true rfl, Nat.le_of_ble_eq_true rfl⟩) hP (hD _ _ _ _ _ _) hS hA [0, 1, 2, 3, 4, 5, 6, 7, 8, 9, 10, 11, 12, 13] rfl (fun _ => rfl) (fun k ce q9 H locs hp hP hS hce hcv hcl => ?_) (fun r2 _ H locs hw4 hP hS => ?_)
  · have hP : va_P D vwCl (cWrap h aw av kr kt ao q x w v r t fo) H := hP
    obtain ⟨hk6, hor⟩ := hp
    subst hor
    have n5 : ¬ (f_X3_window N r p0 p1 p2).1 = 0 := by rw [hk6]; decide
    refine catchK (k := 2) fx hSX htab [] [] rfl (fun z hz => by simp at hz) (Or.inr (Or.inl rfl)) rfl ⟨by decide, by decide⟩ hce hcv hcl ?_
    refine lv_astore (lv' := [(5, .ref q9), (0, .ref h), (1, .int p0), (2, .int p1), (3, .int p2), (4, .ref ao)]) hx hb dL_window_15 hl (by decide) rfl (fun ls hl => ?_)
    refine lv_iconst (v := 1) hx hb dL_window_17 (by decide) ?_
    exact hret (1 : Int32) fo _ _ _ _ dL_window_18 (ht.trans (by simp only [f_L_window, if_neg n5])) hP hS
  · have hP : va_P D vwCl (cWrap h aw av kr kt ao q x w v r t fo) H := hP
    refine lv_i2l (v := r2.toInt64) hx hb dL_window_10 rfl ?_
    refine va_last hx hb fx.2.2.2.2.2.1 hP (hD _ _ _ _ _ _) hS 14 2 (f := fo) rfl rfl (by unfold vp_in; decide) dL_window_11 (fun H locs hP _ hS => ?_)
    have hP : va_P D vwCl (cWrap h aw av kr kt ao q x w v r t (vp_updL fo (0 : Int32).toNatClampNeg r2.toInt64)) H := hP
    refine lv_goto (tgt := 19) hx hb dL_window_12 (by decide) ?_
    refine lv_iconst (v := 0) hx hb dL_window_19 (by decide) ?_
    exact hret (0 : Int32) (vp_updL fo (0 : Int32).toNatClampNeg r2.toInt64) _ _ _ _ dL_window_20 (ht.trans (by first | (simp only [f_L_window, eq_self, if_true, hw4]; done) | (simp only [f_L_window, hw4]; simp only [eq_self, if_true]))) hP hS

/-! L_casings -/
def f_L_casings (N : Nat) (r : RS) (fo : (Nat → Int64)) (p0 : Int32) : Int32 × (Nat → Int64) :=
  if (f_X3_casings N r p0).1 = 0 then ((0 : Int32), vp_updL fo (0 : Int32).toNatClampNeg (f_X3_casings N r p0).2.toInt64) else ((1 : Int32), fo)

def ok_L_casings (N : Nat) (r : RS) (p0 : Int32) : Prop :=
  (ok_X3_casings N r p0) ∧ True

abbrev RM_L_casings : Room := { frames := 7, cells := 1, slots := 6, locals := 111 }
set_option maxRecDepth 100000 in
set_option maxHeartbeats 4000000 in
theorem c_L_casings (l : Launch) (D : va_G) (q : Nat → ClassId) (sz : Nat) (h : Nat) (aw : Nat) (av : Nat) (kr : Nat → Nat) (kt : Nat → Nat) (ao : Nat) (x : XS) (w : WS) (v : WS) (r : RS) (t : TS) (fo : (Nat → Int64)) (p0 : Int32) (N : Nat) (hok : ok_L_casings N r p0) (hstk : l.stackTraces = false) : Met l yL_casings (Cond.codeWith yL_casings cL_casings 4 (some .int) [(0, 9, 12, 15)] :: ALL) RM_L_casings (PX D q [.ref h, .int p0, .ref ao] (cWrap h aw av kr kt ao q x w v r t fo) sz) (va_Qi (fun (rv : Int32) (u : (Nat → Int64)) => f_L_casings N r fo p0 = (rv, u)) (fun u t9 => va_P D vwCl (cWrap h aw av kr kt ao q x w v r t u) t9.heap) (va_A (cWrap h aw av kr kt ao q x w v r t fo) sz)) 1 6 (va_A (cWrap h aw av kr kt ao q x w v r t fo) sz) := by
  refine en_w rfl (by decide +kernel) (Nat.le_of_ble_eq_true rfl) ?_
  intro p e s m args below meth c Q A H locs ls fx hSX hSZ htab hD0 hA hP hS hl hret
  have hx := fx.1
  have hb := fx.2.1
  have hl : lv_has ls 4 [(0, .ref h), (1, .int p0), (2, .ref ao)] := hl
  have hD : ∀ (x9 : XS) (w9 : WS) (v9 : WS) (r9 : RS) (t9 : TS) (fo9 : (Nat → Int64)), va_D _ (cWrap h aw av kr kt ao q x9 w9 v9 r9 t9 fo9) := fun _ _ _ _ _ _ => D_same ((fst_Wrap _ _ _ _ _ _ _ _ _ _ _ _ _).trans (fst_Wrap _ _ _ _ _ _ _ _ _ _ _ _ _).symm) hD0
  have ht : f_L_casings N r fo p0 = f_L_casings N r fo p0 := rfl
  simp only [ok_L_casings] at hok
  refine lv_aload_n hx hb dL_casings_0 rfl (lv_at hl 2 rfl) ?_
  refine lv_iconst (v := 0) hx hb dL_casings_1 (by decide) ?_
  refine lv_aload_n hx hb dL_casings_2 rfl (lv_at hl 0 rfl) ?_
  refine lv_iload_n hx hb dL_casings_3 rfl (lv_at hl 1 rfl) ?_
  obtain ⟨hk1, hok⟩ := hok
  refine kX_i (xrun fx hSX hSZ (As := [.int p0]) (rest := [.int (0 : Int32), .ref ao]) (c_X3_casings l D q H.size h aw av kr kt x w v r t p0 N hk1 hstk) lk_L_71 ⟨Nat.le_of_ble_eq_true rfl, Nat.le_of_ble_eq_true rfl⟩ ⟨rfl, rfl⟩ hP (hD _ _ _ _ _ _) hS hA [0, 1, 2, 3, 4, 5, 6, 7, 8, 9, 10, 11, 12, 13] rfl rfl (ci := 3) rfl rfl rfl hl.1 rfl (Nat.le_of_ble_eq_true rfl) dL_casings_4 ⟨Nat.le_of_ble_eq_true rfl, Nat.le_of_ble_eq_true rfl⟩) hP (hD _ _ _ _ _ _) hS hA [0, 1, 2, 3, 4, 5, 6, 7, 8, 9, 10, 11, 12, 13] rfl (fun _ => rfl) (fun k ce q9 H locs hp hP hS hce hcv hcl => ?_) (fun r2 _ H locs hw4 hP hS => ?_)
  · have hP : va_P D vwCl (cWrap h aw av kr kt ao q x w v r t fo) H := hP
    obtain ⟨hk6, hor⟩ := hp
    subst hor
    have n5 : ¬ (f_X3_casings N r p0).1 = 0 := by rw [hk6]; decide
    refine catchK (k := 2) fx hSX htab [] [] rfl (fun z hz => by simp at hz) (Or.inr (Or.inl rfl)) rfl ⟨by decide, by decide⟩ hce hcv hcl ?_
    refine lv_astore_n (lv' := [(3, .ref q9), (0, .ref h), (1, .int p0), (2, .ref ao)]) hx hb dL_casings_12 rfl hl (by decide) rfl (fun ls hl => ?_)
    refine lv_iconst (v := 1) hx hb dL_casings_13 (by decide) ?_
    exact hret (1 : Int32) fo _ _ _ _ dL_casings_14 (ht.trans (by simp only [f_L_casings, if_neg n5])) hP hS
  · have hP : va_P D vwCl (cWrap h aw av kr kt ao q x w v r t fo) H := hP
    refine lv_i2l (v := r2.toInt64) hx hb dL_casings_7 rfl ?_
    refine va_last hx hb fx.2.2.2.2.2.1 hP (hD _ _ _ _ _ _) hS 14 2 (f := fo) rfl rfl (by unfold vp_in; decide) dL_casings_8 (fun H locs hP _ hS => ?_)
    have hP : va_P D vwCl (cWrap h aw av kr kt ao q x w v r t (vp_updL fo (0 : Int32).toNatClampNeg r2.toInt64)) H := hP
    refine lv_goto (tgt := 15) hx hb dL_casings_9 (by decide) ?_
    refine lv_iconst (v := 0) hx hb dL_casings_15 (by decide) ?_
    exact hret (0 : Int32) (vp_updL fo (0 : Int32).toNatClampNeg r2.toInt64) _ _ _ _ dL_casings_16 (ht.trans (by first | (simp only [f_L_casings, eq_self, if_true, hw4]; done) | (simp only [f_L_casings, hw4]; simp only [eq_self, if_true]))) hP hS

/-! L_casingsAnew -/
def f_L_casingsAnew (N : Nat) (r : RS) (fo : (Nat → Int64)) (p0 : Int32) : Int32 × RS × (Nat → Int64) :=
  if (f_X3_casingsAnew N r p0).1 = 0 then ((0 : Int32), ((f_X3_casingsAnew N r p0).2.2), vp_updL fo (0 : Int32).toNatClampNeg (f_X3_casingsAnew N r p0).2.1.toInt64) else ((1 : Int32), r, fo)

def ok_L_casingsAnew (N : Nat) (r : RS) (p0 : Int32) : Prop :=
  (ok_X3_casingsAnew N r p0) ∧ True

abbrev RM_L_casingsAnew : Room := { frames := 7, cells := 1, slots := 6, locals := 111 }
set_option maxRecDepth 100000 in
set_option maxHeartbeats 4000000 in
theorem c_L_casingsAnew (l : Launch) (D : va_G) (q : Nat → ClassId) (sz : Nat) (h : Nat) (aw : Nat) (av : Nat) (kr : Nat → Nat) (kt : Nat → Nat) (ao : Nat) (x : XS) (w : WS) (v : WS) (r : RS) (t : TS) (fo : (Nat → Int64)) (p0 : Int32) (N : Nat) (hok : ok_L_casingsAnew N r p0) (hstk : l.stackTraces = false) : Met l yL_casingsAnew (Cond.codeWith yL_casingsAnew cL_casingsAnew 4 (some .int) [(0, 9, 12, 15)] :: ALL) RM_L_casingsAnew (PX D q [.ref h, .int p0, .ref ao] (cWrap h aw av kr kt ao q x w v r t fo) sz) (va_Qi (fun (rv : Int32) (u : RS × (Nat → Int64)) => f_L_casingsAnew N r fo p0 = (rv, u)) (fun u t9 => va_P D vwCl (cWrap h aw av kr kt ao q x w v u.1 t u.2) t9.heap) (va_A (cWrap h aw av kr kt ao q x w v r t fo) sz)) 1 6 (va_A (cWrap h aw av kr kt ao q x w v r t fo) sz) := by
  refine en_w rfl (by decide +kernel) (Nat.le_of_ble_eq_true rfl) ?_
  intro p e s m args below meth c Q A H locs ls fx hSX hSZ htab hD0 hA hP hS hl hret
  have hx := fx.1
  have hb := fx.2.1
  have hl : lv_has ls 4 [(0, .ref h), (1, .int p0), (2, .ref ao)] := hl
  have hD : ∀ (x9 : XS) (w9 : WS) (v9 : WS) (r9 : RS) (t9 : TS) (fo9 : (Nat → Int64)), va_D _ (cWrap h aw av kr kt ao q x9 w9 v9 r9 t9 fo9) := fun _ _ _ _ _ _ => D_same ((fst_Wrap _ _ _ _ _ _ _ _ _ _ _ _ _).trans (fst_Wrap _ _ _ _ _ _ _ _ _ _ _ _ _).symm) hD0
  have ht : f_L_casingsAnew N r fo p0 = f_L_casingsAnew N r fo p0 := rfl
  simp only [ok_L_casingsAnew] at hok
  refine lv_aload_n hx hb dL_casingsAnew_0 rfl (lv_at hl 2 rfl) ?_
  refine lv_iconst (v := 0) hx hb dL_casingsAnew_1 (by decide) ?_
  refine lv_aload_n hx hb dL_casingsAnew_2 rfl (lv_at hl 0 rfl) ?_
  refine lv_iload_n hx hb dL_casingsAnew_3 rfl (lv_at hl 1 rfl) ?_
  obtain ⟨hk1, hok⟩ := hok
  refine kX_i (xrun fx hSX hSZ (As := [.int p0]) (rest := [.int (0 : Int32), .ref ao]) (c_X3_casingsAnew l D q H.size h aw av kr kt x w v r t p0 N hk1 hstk) lk_L_74 ⟨Nat.le_of_ble_eq_true rfl, Nat.le_of_ble_eq_true rfl⟩ ⟨rfl, rfl⟩ hP (hD _ _ _ _ _ _) hS hA [0, 1, 2, 3, 4, 5, 6, 7, 8, 9, 10, 11, 12, 13] rfl rfl (ci := 3) rfl rfl rfl hl.1 rfl (Nat.le_of_ble_eq_true rfl) dL_casingsAnew_4 ⟨Nat.le_of_ble_eq_true rfl, Nat.le_of_ble_eq_true rfl⟩) hP (hD _ _ _ _ _ _) hS hA [0, 1, 2, 3, 4, 5, 6, 7, 8, 9, 10, 11, 12, 13] rfl (fun _ => rfl) (fun k ce q9 H locs hp hP hS hce hcv hcl => ?_) (fun r2 u3 H locs hw4 hP hS => ?_)
  · have hP : va_P D vwCl (cWrap h aw av kr kt ao q x w v r t fo) H := hP
    obtain ⟨hk6, hor⟩ := hp
    subst hor
    have n5 : ¬ (f_X3_casingsAnew N r p0).1 = 0 := by rw [hk6]; decide
    refine catchK (k := 2) fx hSX htab [] [] rfl (fun z hz => by simp at hz) (Or.inr (Or.inl rfl)) rfl ⟨by decide, by decide⟩ hce hcv hcl ?_
    refine lv_astore_n (lv' := [(3, .ref q9), (0, .ref h), (1, .int p0), (2, .ref ao)]) hx hb dL_casingsAnew_12 rfl hl (by decide) rfl (fun ls hl => ?_)
    refine lv_iconst (v := 1) hx hb dL_casingsAnew_13 (by decide) ?_
    exact hret (1 : Int32) (r, fo) _ _ _ _ dL_casingsAnew_14 (ht.trans (by simp only [f_L_casingsAnew, if_neg n5])) hP hS
  · have hP : va_P D vwCl (cWrap h aw av kr kt ao q x w v u3 t fo) H := hP
    refine lv_i2l (v := r2.toInt64) hx hb dL_casingsAnew_7 rfl ?_
    refine va_last hx hb fx.2.2.2.2.2.1 hP (hD _ _ _ _ _ _) hS 14 2 (f := fo) rfl rfl (by unfold vp_in; decide) dL_casingsAnew_8 (fun H locs hP _ hS => ?_)
    have hP : va_P D vwCl (cWrap h aw av kr kt ao q x w v u3 t (vp_updL fo (0 : Int32).toNatClampNeg r2.toInt64)) H := hP
    refine lv_goto (tgt := 15) hx hb dL_casingsAnew_9 (by decide) ?_
    refine lv_iconst (v := 0) hx hb dL_casingsAnew_15 (by decide) ?_
    exact hret (0 : Int32) (u3, vp_updL fo (0 : Int32).toNatClampNeg r2.toInt64) _ _ _ _ dL_casingsAnew_16 (ht.trans (by first | (simp only [f_L_casingsAnew, eq_self, if_true, hw4]; done) | (simp only [f_L_casingsAnew, hw4]; simp only [eq_self, if_true]))) hP hS

/-! L_equivalent -/
def f_L_equivalent (w : WS) (fd : (Nat → UInt64)) : Int32 × (Nat → UInt64) :=
  if (f_X3_equivalent w).1 = 0 then ((0 : Int32), vf_upd fd (0 : Int32).toNatClampNeg (FP.f2d (f_X3_equivalent w).2)) else ((1 : Int32), fd)

def ok_L_equivalent (w : WS) : Prop :=
  (ok_X3_equivalent w) ∧ ((f_X3_equivalent w).1 = 0 → ((vf_n64 (FP.f2d (f_X3_equivalent w).2)) ∧ True))

abbrev RM_L_equivalent : Room := { frames := 7, cells := 1, slots := 6, locals := 111 }
set_option maxRecDepth 100000 in
set_option maxHeartbeats 4000000 in
theorem c_L_equivalent (l : Launch) (D : va_G) (q : Nat → ClassId) (sz : Nat) (h : Nat) (aw : Nat) (av : Nat) (kr : Nat → Nat) (kt : Nat → Nat) (ao : Nat) (x : XS) (w : WS) (v : WS) (r : RS) (t : TS) (fd : (Nat → UInt64)) (hok : ok_L_equivalent w) (hstk : l.stackTraces = false) : Met l yL_equivalent (Cond.codeWith yL_equivalent cL_equivalent 3 (some .int) [(0, 8, 11, 17)] :: ALL) RM_L_equivalent (PX D q [.ref h, .ref ao] (cWrapD h aw av kr kt ao q x w v r t fd) sz) (va_Qi (fun (rv : Int32) (u : (Nat → UInt64)) => f_L_equivalent w fd = (rv, u)) (fun u t9 => va_P D vwCl (cWrapD h aw av kr kt ao q x w v r t u) t9.heap) (va_A (cWrapD h aw av kr kt ao q x w v r t fd) sz)) 1 6 (va_A (cWrapD h aw av kr kt ao q x w v r t fd) sz) := by
  refine en_w rfl (by decide +kernel) (Nat.le_of_ble_eq_true rfl) ?_
  intro p e s m args below meth c Q A H locs ls fx hSX hSZ htab hD0 hA hP hS hl hret
  have hx := fx.1
  have hb := fx.2.1
  have hl : lv_has ls 3 [(0, .ref h), (1, .ref ao)] := hl
  have hD : ∀ (x9 : XS) (w9 : WS) (v9 : WS) (r9 : RS) (t9 : TS) (fd9 : (Nat → UInt64)), va_D _ (cWrapD h aw av kr kt ao q x9 w9 v9 r9 t9 fd9) := fun _ _ _ _ _ _ => D_same ((fst_WrapD _ _ _ _ _ _ _ _ _ _ _ _ _).trans (fst_WrapD _ _ _ _ _ _ _ _ _ _ _ _ _).symm) hD0
  have ht : f_L_equivalent w fd = f_L_equivalent w fd := rfl
  simp only [ok_L_equivalent] at hok
  refine lv_aload_n hx hb dL_equivalent_0 rfl (lv_at hl 1 rfl) ?_
  refine lv_iconst (v := 0) hx hb dL_equivalent_1 (by decide) ?_
  refine lv_aload_n hx hb dL_equivalent_2 rfl (lv_at hl 0 rfl) ?_
  obtain ⟨hk1, hok⟩ := hok
  refine kX_f (xrun fx hSX hSZ (As := []) (rest := [.int (0 : Int32), .ref ao]) (c_X3_equivalent l D q H.size h aw av kr kt x w v r t hk1 hstk) lk_L_77 ⟨Nat.le_of_ble_eq_true rfl, Nat.le_of_ble_eq_true rfl⟩ ⟨rfl, rfl⟩ hP (hD _ _ _ _ _ _) hS hA [0, 1, 2, 3, 4, 5, 6, 7, 8, 9, 10, 11, 12, 13] rfl rfl (ci := 3) rfl rfl rfl hl.1 rfl (Nat.le_of_ble_eq_true rfl) dL_equivalent_3 ⟨Nat.le_of_ble_eq_true rfl, Nat.le_of_ble_eq_true rfl⟩) hP (hD _ _ _ _ _ _) hS hA [0, 1, 2, 3, 4, 5, 6, 7, 8, 9, 10, 11, 12, 13] rfl (fun _ => rfl) (fun k ce q9 H locs hp hP hS hce hcv hcl => ?_) (fun r2 _ H locs hw4 hP hS => ?_)
  · have hP : va_P D vwCl (cWrapD h aw av kr kt ao q x w v r t fd) H := hP
    obtain ⟨hk7, hor⟩ := hp
    subst hor
    have n6 : ¬ (f_X3_equivalent w).1 = 0 := by rw [hk7]; decide
    refine catchK (k := 3) fx hSX htab [] [] rfl (fun z hz => by simp at hz) (Or.inr (Or.inr rfl)) rfl ⟨by decide, by decide⟩ hce hcv hcl ?_
    refine lv_astore_n (lv' := [(2, .ref q9), (0, .ref h), (1, .ref ao)]) hx hb dL_equivalent_11 rfl hl (by decide) rfl (fun ls hl => ?_)
    refine lv_iconst (v := 1) hx hb dL_equivalent_12 (by decide) ?_
    exact hret (1 : Int32) fd _ _ _ _ dL_equivalent_13 (ht.trans (by simp only [f_L_equivalent, if_neg n6])) hP hS
  · have hP : va_P D vwCl (cWrapD h aw av kr kt ao q x w v r t fd) H := hP
    have hok := hok (by rw [hw4])
    try simp only [hw4] at hok
    obtain ⟨hf5, hok⟩ := hok
    refine lv_f2d hx hb dL_equivalent_6 hf5 ?_
    refine va_dast hx hb fx.2.2.2.2.2.1 hP (hD _ _ _ _ _ _) hS 14 3 (f := fd) rfl rfl (by unfold vp_in; decide) dL_equivalent_7 (fun H locs hP _ hS => ?_)
    have hP : va_P D vwCl (cWrapD h aw av kr kt ao q x w v r t (vf_upd fd (0 : Int32).toNatClampNeg (FP.f2d r2))) H := hP
    refine lv_goto (tgt := 14) hx hb dL_equivalent_8 (by decide) ?_
    refine lv_iconst (v := 0) hx hb dL_equivalent_14 (by decide) ?_
    exact hret (0 : Int32) (vf_upd fd (0 : Int32).toNatClampNeg (FP.f2d r2)) _ _ _ _ dL_equivalent_15 (ht.trans (by first | (simp only [f_L_equivalent, eq_self, if_true, hw4]; done) | (simp only [f_L_equivalent, hw4]; simp only [eq_self, if_true]))) hP hS

/-! L_ahead -/
def f_L_ahead (N : Nat) (w : WS) (v : WS) (r : RS) (fo : (Nat → Int64)) (p0 : Int32) : Int32 × WS × (Nat → Int64) :=
  if (f_X3_ahead N w v r p0).1 = 0 then ((0 : Int32), ((f_X3_ahead N w v r p0).2.2), vp_updL fo (0 : Int32).toNatClampNeg (f_X3_ahead N w v r p0).2.1.toInt64) else ((1 : Int32), v, fo)

def ok_L_ahead (N : Nat) (w : WS) (v : WS) (r : RS) (p0 : Int32) : Prop :=
  (ok_X3_ahead N w v r p0) ∧ True

abbrev RM_L_ahead : Room := { frames := 7, cells := 1, slots := 6, locals := 152 }
set_option maxRecDepth 100000 in
set_option maxHeartbeats 4000000 in
theorem c_L_ahead (l : Launch) (D : va_G) (q : Nat → ClassId) (sz : Nat) (h : Nat) (aw : Nat) (av : Nat) (kr : Nat → Nat) (kt : Nat → Nat) (ao : Nat) (x : XS) (w : WS) (v : WS) (r : RS) (t : TS) (fo : (Nat → Int64)) (p0 : Int32) (N : Nat) (hok : ok_L_ahead N w v r p0) (hstk : l.stackTraces = false) : Met l yL_ahead (Cond.codeWith yL_ahead cL_ahead 4 (some .int) [(0, 9, 12, 15)] :: ALL) RM_L_ahead (PX D q [.ref h, .int p0, .ref ao] (cWrap h aw av kr kt ao q x w v r t fo) sz) (va_Qi (fun (rv : Int32) (u : WS × (Nat → Int64)) => f_L_ahead N w v r fo p0 = (rv, u)) (fun u t9 => va_P D vwCl (cWrap h aw av kr kt ao q x w u.1 r t u.2) t9.heap) (va_A (cWrap h aw av kr kt ao q x w v r t fo) sz)) 1 6 (va_A (cWrap h aw av kr kt ao q x w v r t fo) sz) := by
  refine en_w rfl (by decide +kernel) (Nat.le_of_ble_eq_true rfl) ?_
  intro p e s m args below meth c Q A H locs ls fx hSX hSZ htab hD0 hA hP hS hl hret
  have hx := fx.1
  have hb := fx.2.1
  have hl : lv_has ls 4 [(0, .ref h), (1, .int p0), (2, .ref ao)] := hl
  have hD : ∀ (x9 : XS) (w9 : WS) (v9 : WS) (r9 : RS) (t9 : TS) (fo9 : (Nat → Int64)), va_D _ (cWrap h aw av kr kt ao q x9 w9 v9 r9 t9 fo9) := fun _ _ _ _ _ _ => D_same ((fst_Wrap _ _ _ _ _ _ _ _ _ _ _ _ _).trans (fst_Wrap _ _ _ _ _ _ _ _ _ _ _ _ _).symm) hD0
  have ht : f_L_ahead N w v r fo p0 = f_L_ahead N w v r fo p0 := rfl
  simp only [ok_L_ahead] at hok
  refine lv_aload_n hx hb dL_ahead_0 rfl (lv_at hl 2 rfl) ?_
  refine lv_iconst (v := 0) hx hb dL_ahead_1 (by decide) ?_
  refine lv_aload_n hx hb dL_ahead_2 rfl (lv_at hl 0 rfl) ?_
  refine lv_iload_n hx hb dL_ahead_3 rfl (lv_at hl 1 rfl) ?_
  obtain ⟨hk1, hok⟩ := hok
  refine kX_i (xrun fx hSX hSZ (As := [.int p0]) (rest := [.int (0 : Int32), .ref ao]) (c_X3_ahead l D q H.size h aw av kr kt x w v r t p0 N hk1 hstk) lk_L_81 ⟨Nat.le_of_ble_eq_true rfl, Nat.le_of_ble_eq_true rfl⟩ ⟨rfl, rfl⟩ hP (hD _ _ _ _ _ _) hS hA [0, 1, 2, 3, 4, 5, 6, 7, 8, 9, 10, 11, 12, 13] rfl rfl (ci := 3) rfl rfl rfl hl.1 rfl (Nat.le_of_ble_eq_true rfl) dL_ahead_4 ⟨Nat.le_of_ble_eq_true rfl, Nat.le_of_ble_eq_true rfl⟩) hP (hD _ _ _ _ _ _) hS hA [0, 1, 2, 3, 4, 5, 6, 7, 8, 9, 10, 11, 12, 13] rfl (fun _ => rfl) (fun k ce q9 H locs hp hP hS hce hcv hcl => ?_) (fun r2 u3 H locs hw4 hP hS => ?_)
  · have hP : va_P D vwCl (cWrap h aw av kr kt ao q x w v r t fo) H := hP
    obtain ⟨hk6, hor⟩ := hp
    subst hor
    have n5 : ¬ (f_X3_ahead N w v r p0).1 = 0 := by rw [hk6]; decide
    refine catchK (k := 2) fx hSX htab [] [] rfl (fun z hz => by simp at hz) (Or.inr (Or.inl rfl)) rfl ⟨by decide, by decide⟩ hce hcv hcl ?_
    refine lv_astore_n (lv' := [(3, .ref q9), (0, .ref h), (1, .int p0), (2, .ref ao)]) hx hb dL_ahead_12 rfl hl (by decide) rfl (fun ls hl => ?_)
    refine lv_iconst (v := 1) hx hb dL_ahead_13 (by decide) ?_
    exact hret (1 : Int32) (v, fo) _ _ _ _ dL_ahead_14 (ht.trans (by simp only [f_L_ahead, if_neg n5])) hP hS
  · have hP : va_P D vwCl (cWrap h aw av kr kt ao q x w u3 r t fo) H := hP
    refine lv_i2l (v := r2.toInt64) hx hb dL_ahead_7 rfl ?_
    refine va_last hx hb fx.2.2.2.2.2.1 hP (hD _ _ _ _ _ _) hS 14 2 (f := fo) rfl rfl (by unfold vp_in; decide) dL_ahead_8 (fun H locs hP _ hS => ?_)
    have hP : va_P D vwCl (cWrap h aw av kr kt ao q x w u3 r t (vp_updL fo (0 : Int32).toNatClampNeg r2.toInt64)) H := hP
    refine lv_goto (tgt := 15) hx hb dL_ahead_9 (by decide) ?_
    refine lv_iconst (v := 0) hx hb dL_ahead_15 (by decide) ?_
    exact hret (0 : Int32) (u3, vp_updL fo (0 : Int32).toNatClampNeg r2.toInt64) _ _ _ _ dL_ahead_16 (ht.trans (by first | (simp only [f_L_ahead, eq_self, if_true, hw4]; done) | (simp only [f_L_ahead, hw4]; simp only [eq_self, if_true]))) hP hS

