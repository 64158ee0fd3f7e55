def f_L_law_b876 (x : XS) (w : WS) (v : WS) (r : RS) (t : TS) (g : MS) (fo : (Nat → Int64)) (fd : (Nat → UInt64)) (F : XS → WS → WS → RS → TS → MS → (Nat → Int64) → (Nat → UInt64) → Int32) (p1 : Int32) : Int32 :=
  F x w v r t ((f_X4_pressure g p1).2) ((f_L_pressure w r fo p1).2) fd

def f_law_11 (F : XS → WS → WS → RS → TS → MS → (Nat → Int64) → (Nat → UInt64) → Int32) (x : XS) (w : WS) (v : WS) (r : RS) (t : TS) (g : MS) (fo : (Nat → Int64)) (fd : (Nat → UInt64)) (p1 : Int32) : Int32 :=
  if (f_X4_thrown ((f_X4_pressure g p1).2)) = (f_L_pressure w r fo p1).1 then (if (f_L_pressure w r fo p1).1 = 0 then (if (lg_cmp (((f_L_pressure w r fo p1).2) (0 : Int32).toNatClampNeg) (f_X4_pressure g p1).1.toInt64) = 0 then (f_L_law_b876 x w v r t g fo fd F p1) else (0 : Int32)) else (f_L_law_b876 x w v r t g fo fd F p1)) else (0 : Int32)

def ok_law_11 (g : MS) (p1 : Int32) : Prop :=
  (ok_X4_pressure g p1) ∧ True

set_option maxRecDepth 100000 in
set_option maxHeartbeats 8000000 in
theorem c_law_11 {p : Program} {l : Launch} {e : Env} {s : State} {m : MethodId} {args : Array Value} {below : List Frame} {meth : Method} {c : Code} {H : Heap} {locs : List Loc} {cs ss : Nat} {Q : State → Prop} {D : va_G} {q : Nat → ClassId} {A : Nat → Prop} {b L : Nat} {xs : Nat → Int32} {ls : Array Slot} (h aw av ao ad : Nat) (kr kt km : Nat → Nat) (x : XS) (w : WS) (v : WS) (r : RS) (t : TS) (g : MS) (fo : (Nat → Int64)) (fd : (Nat → UInt64)) (p1 p2 p3 p4 p5 i : Int32) (N : Nat) (F : XS → WS → WS → RS → TS → MS → (Nat → Int64) → (Nat → UInt64) → Int32) (hstk : l.stackTraces = false) (fx : FX p s m args c RL code 9 D q) (hSX : SX s) (hSZ0 : SZ A s s.heap) (hX : va_X b L xs s s.heap) (hbl : b < s.heap.size) (hbA : ¬ A b) (hA : ∀ a, s.heap.size ≤ a → A a) (hD : ∀ (x : XS) (w : WS) (v : WS) (r : RS) (t : TS) (g : MS) (fo : (Nat → Int64)) (fd : (Nat → UInt64)), va_D A (cLaw h aw av kr kt km ao ad q x w v r t g fo fd)) (hv1 : vp_in (i + (1 : Int32)) L) (hp1 : xs (i + (1 : Int32)).toNatClampNeg = p1) (hv2 : vp_in (i + (2 : Int32)) L) (hp2 : xs (i + (2 : Int32)).toNatClampNeg = p2) (hv3 : vp_in (i + (3 : Int32)) L) (hp3 : xs (i + (3 : Int32)).toNatClampNeg = p3) (hv4 : vp_in (i + (4 : Int32)) L) (hp4 : xs (i + (4 : Int32)).toNatClampNeg = p4) (hv5 : vp_in (i + (5 : Int32)) L) (hp5 : xs (i + (5 : Int32)).toNatClampNeg = p5) (hcs : cs + 1 ≤ room_1.cells ∧ ss + 6 ≤ room_1.slots) (hok : ok_law_11 g p1) (hT : f_law_11 F x w v r t g fo fd p1 = 1)
    (hrec : ∀ (x : XS) (w : WS) (v : WS) (r : RS) (t : TS) (g : MS) (fo : (Nat → Int64)) (fd : (Nat → UInt64)) (H : Heap) (locs : List Loc) (ls : Array Slot), F x w v r t g fo fd = 1 → va_P D vwCl (cLaw h aw av kr kt km ao ad q x w v r t g fo fd) H → va_S A s.heap H locs → lv_has ls 9 [(0, .ref b), (1, .ref h), (2, .ref (km 0)), (3, .ref ao), (4, .ref ad), (5, .int i)] → W p l e room_1 s m args below meth c H locs (cs + 1) (ss + 6) Q (F0 m 1402 ls []))
    (hP : va_P D vwCl (cLaw h aw av kr kt km ao ad q x w v r t g fo fd) H) (hS : va_S A s.heap H locs) (hl : lv_has ls 9 [(0, .ref b), (1, .ref h), (2, .ref (km 0)), (3, .ref ao), (4, .ref ad), (5, .int i)]) : W p l e room_1 s m args below meth c H locs cs ss Q (F0 m 823 ls []) := by
  have hx := fx.1
  have hb := fx.2.1
  have ht : f_law_11 F x w v r t g fo fd p1 = f_law_11 F x w v r t g fo fd p1 := rfl
  simp only [ok_law_11] at hok
  refine lv_aload_n hx hb dL_law_823 rfl (lv_at hl 1 rfl) ?_
  refine lv_aload_n hx hb dL_law_824 rfl (lv_at hl 0 rfl) ?_
  refine lv_iload hx hb dL_law_825 (lv_at hl 5 rfl) ?_
  refine lv_iconst (v := 1) hx hb dL_law_827 (by decide) ?_
  refine lv_iadd hx hb dL_law_828 ?_
  refine sld hx hb hX hbl hbA hS hv1 hp1 dL_law_829 ?_
  refine lv_aload_n hx hb dL_law_830 rfl (lv_at hl 3 rfl) ?_
  refine kW1_i (wrun fx hSX (SZ.kept hSZ0 hS.2.1) (As := [.ref h, .int p1, .ref ao]) (rest := []) (c_L_pressure l D q H.size h aw av kr kt ao x w v r t fo p1 hstk) lk_L_132 ⟨Nat.le_of_ble_eq_true rfl, Nat.le_of_ble_eq_true rfl⟩ ⟨rfl, rfl⟩ hP (hD _ _ _ _ _ _ _ _) hS hA [0, 1, 2, 3, 4, 5, 6, 7, 8, 9, 10, 11, 12, 13, 25] rfl rfl rfl hl.1 rfl (Nat.le_of_ble_eq_true rfl) dL_law_831 hcs) hP (hD _ _ _ _ _ _ _ _) hS hA [0, 1, 2, 3, 4, 5, 6, 7, 8, 9, 10, 11, 12, 13, 25] rfl (fun _ => rfl) (fun r3 u1 H locs hw2 hP hS => ?_)
  have hP : va_P D vwCl (cLaw h aw av kr kt km ao ad q x w v r t g u1 fd) H := hP
  try simp only [hw2] at hok
  refine lv_istore (lv' := [(6, .int r3), (0, .ref b), (1, .ref h), (2, .ref (km 0)), (3, .ref ao), (4, .ref ad), (5, .int i)]) hx hb dL_law_834 hl (by decide) rfl (fun ls hl => ?_)
  refine lv_aload_n hx hb dL_law_836 rfl (lv_at hl 3 rfl) ?_
  refine lv_aload_n hx hb dL_law_837 rfl (lv_at hl 1 rfl) ?_
  refine lv_iload hx hb dL_law_838 (lv_at hl 6 rfl) ?_
  refine lv_iconst (v := 1) hx hb dL_law_840 (by decide) ?_
  refine lv_iadd hx hb dL_law_841 ?_
  refine sld hx hb hX hbl hbA hS hv1 hp1 dL_law_842 ?_
  obtain ⟨hk4, hok⟩ := hok
  refine kW_i (runV fx (As := [.int p1]) (rest := []) (c_X4_pressure l D q H.size km g p1 hk4) lk_L_134 ⟨Nat.le_of_ble_eq_true rfl, Nat.le_of_ble_eq_true rfl⟩ ⟨rfl, rfl⟩ hP (hD _ _ _ _ _ _ _ _) [14, 15, 16, 17, 18, 19, 20, 21, 22, 23, 24] rfl rfl (ci := 4) rfl rfl rfl hl.1 rfl (Nat.le_of_ble_eq_true rfl) dL_law_843 ⟨by have := hcs.1; omega, by have := hcs.2; omega⟩) hP (hD _ _ _ _ _ _ _ _) hS hA [14, 15, 16, 17, 18, 19, 20, 21, 22, 23, 24] rfl (fun _ => rfl) (fun r7 u5 H locs hw6 hP hS => ?_)
  have hP : va_P D vwCl (cLaw h aw av kr kt km ao ad q x w v r t u5 u1 fd) H := hP
  try simp only [hw6] at hok
  refine lv_istore (lv' := [(7, .int r7), (6, .int r3), (0, .ref b), (1, .ref h), (2, .ref (km 0)), (3, .ref ao), (4, .ref ad), (5, .int i)]) hx hb dL_law_846 hl (by decide) rfl (fun ls hl => ?_)
  refine lv_aload_n hx hb dL_law_848 rfl (lv_at hl 4 rfl) ?_
  refine kR_i (runV fx (As := []) (rest := []) (c_X4_thrown l D q H.size km u5) lk_L_94 ⟨Nat.le_of_ble_eq_true rfl, Nat.le_of_ble_eq_true rfl⟩ ⟨rfl, rfl⟩ hP (hD _ _ _ _ _ _ _ _) [14, 15, 16, 17, 18, 19, 20, 21, 22, 23, 24] rfl rfl (ci := 4) rfl rfl rfl hl.1 rfl (Nat.le_of_ble_eq_true rfl) dL_law_849 ⟨by have := hcs.1; omega, by have := hcs.2; omega⟩) hP hS (fun r8 _ H locs hr9 hP hS => ?_)
  subst hr9
  refine lv_iload hx hb dL_law_852 (lv_at hl 1 rfl) ?_
  refine lv_icmp_eq (tgt := 859) hx hb dL_law_854 (by decide) (fun c10 => ?_) (fun c10 => ?_)
  · refine lv_iload hx hb dL_law_859 (lv_at hl 1 rfl) ?_
    have K876 : ∀ (H : Heap) (locs : List Loc) (ls : Array Slot), f_law_11 F x w v r t g fo fd p1 = f_L_law_b876 x w v r t g fo fd F p1 → va_P D vwCl (cLaw h aw av kr kt km ao ad q x w v r t u5 u1 fd) H → va_S A s.heap H locs → lv_has ls 9 [(0, .ref b), (1, .ref h), (2, .ref (km 0)), (3, .ref ao), (4, .ref ad), (5, .int i)] → W p l e room_1 s m args below meth c H locs (cs + 1) (ss + 6) Q (F0 m 876 ls []) := by
      intro H locs ls ht hP hS hl
      refine lv_goto (tgt := 1402) hx hb dL_law_876 (by decide) ?_
      exact hrec x w v r t u5 u1 fd H locs ls ((show f_law_11 F x w v r t g fo fd p1 = F x w v r t u5 u1 fd from ht.trans (by simp only [f_L_law_b876, hw2, hw6])).symm.trans hT) hP hS (lv_sub hl [0, 1, 2, 3, 4, 5] rfl)
    refine lv_if_ne (tgt := 876) hx hb dL_law_861 (by decide) (fun c13 => ?_) (fun c13 => ?_)
    · exact K876 H locs ls (ht.trans (by first | (simp only [f_law_11, if_pos c10, if_neg c13, hw2, hw6]; done) | (simp only [f_law_11, hw2, hw6]; simp only [if_pos c10, if_neg c13]))) hP hS (lv_sub hl [2, 3, 4, 5, 6, 7] rfl)
    · refine lv_aload_n hx hb dL_law_864 rfl (lv_at hl 5 rfl) ?_
      refine lv_iconst (v := 0) hx hb dL_law_865 (by decide) ?_
      refine va_lald hx hb fx.2.2.2.2.2.1 hP 25 2 (f := u1) rfl rfl (by unfold vp_in; decide) dL_law_866 ?_
      refine lv_iload hx hb dL_law_867 (lv_at hl 0 rfl) ?_
      refine lv_i2l (v := r7.toInt64) hx hb dL_law_869 rfl ?_
      refine W.lcmp hx hb dL_law_870 ?_
      refine lv_if_eq (tgt := 876) hx hb dL_law_871 (by decide) (fun c14 => ?_) (fun c14 => ?_)
      · exact K876 H locs ls (ht.trans (by first | (simp only [f_law_11, if_pos c10, if_pos c13, if_pos c14, hw2, hw6]; done) | (simp only [f_law_11, hw2, hw6]; simp only [if_pos c10, if_pos c13, if_pos c14]))) hP hS (lv_sub hl [2, 3, 4, 5, 6, 7] rfl)
      · refine lv_iconst (v := 0) hx hb dL_law_874 (by decide) ?_
        exact absurd ((show f_law_11 F x w v r t g fo fd p1 = (0 : Int32) from ht.trans (by first | (simp only [f_law_11, if_pos c10, if_pos c13, if_neg c14, hw2, hw6]; done) | (simp only [f_law_11, hw2, hw6]; simp only [if_pos c10, if_pos c13, if_neg c14]))).symm.trans hT) (by decide)
  · refine lv_iconst (v := 0) hx hb dL_law_857 (by decide) ?_
    exact absurd ((show f_law_11 F x w v r t g fo fd p1 = (0 : Int32) from ht.trans (by first | (simp only [f_law_11, if_neg c10, hw2, hw6]; done) | (simp only [f_law_11, hw2, hw6]; simp only [if_neg c10]))).symm.trans hT) (by decide)

def f_L_law_b931 (x : XS) (w : WS) (v : WS) (r : RS) (t : TS) (g : MS) (fo : (Nat → Int64)) (fd : (Nat → UInt64)) (F : XS → WS → WS → RS → TS → MS → (Nat → Int64) → (Nat → UInt64) → Int32) (p1 : Int32) : Int32 :=
  F x w v r t ((f_X4_of g p1).2) ((f_L_of x w fo p1).2) fd

def f_law_12 (F : XS → WS → WS → RS → TS → MS → (Nat → Int64) → (Nat → UInt64) → Int32) (x : XS) (w : WS) (v : WS) (r : RS) (t : TS) (g : MS) (fo : (Nat → Int64)) (fd : (Nat → UInt64)) (p1 : Int32) : Int32 :=
  if (f_X4_thrown ((f_X4_of g p1).2)) = (f_L_of x w fo p1).1 then (if (f_L_of x w fo p1).1 = 0 then (if (lg_cmp (((f_L_of x w fo p1).2) (0 : Int32).toNatClampNeg) (f_X4_of g p1).1) = 0 then (f_L_law_b931 x w v r t g fo fd F p1) else (0 : Int32)) else (f_L_law_b931 x w v r t g fo fd F p1)) else (0 : Int32)

set_option maxRecDepth 100000 in
set_option maxHeartbeats 8000000 in
theorem c_law_12 {p : Program} {l : Launch} {e : Env} {s : State} {m : MethodId} {args : Array Value} {below : List Frame} {meth : Method} {c : Code} {H : Heap} {locs : List Loc} {cs ss : Nat} {Q : State → Prop} {D : va_G} {q : Nat → ClassId} {A : Nat → Prop} {b L : Nat} {xs : Nat → Int32} {ls : Array Slot} (h aw av ao ad : Nat) (kr kt km : Nat → Nat) (x : XS) (w : WS) (v : WS) (r : RS) (t : TS) (g : MS) (fo : (Nat → Int64)) (fd : (Nat → UInt64)) (p1 p2 p3 p4 p5 i : Int32) (N : Nat) (F : XS → WS → WS → RS → TS → MS → (Nat → Int64) → (Nat → UInt64) → Int32) (hstk : l.stackTraces = false) (fx : FX p s m args c RL code 9 D q) (hSX : SX s) (hSZ0 : SZ A s s.heap) (hX : va_X b L xs s s.heap) (hbl : b < s.heap.size) (hbA : ¬ A b) (hA : ∀ a, s.heap.size ≤ a → A a) (hD : ∀ (x : XS) (w : WS) (v : WS) (r : RS) (t : TS) (g : MS) (fo : (Nat → Int64)) (fd : (Nat → UInt64)), va_D A (cLaw h aw av kr kt km ao ad q x w v r t g fo fd)) (hv1 : vp_in (i + (1 : Int32)) L) (hp1 : xs (i + (1 : Int32)).toNatClampNeg = p1) (hv2 : vp_in (i + (2 : Int32)) L) (hp2 : xs (i + (2 : Int32)).toNatClampNeg = p2) (hv3 : vp_in (i + (3 : Int32)) L) (hp3 : xs (i + (3 : Int32)).toNatClampNeg = p3) (hv4 : vp_in (i + (4 : Int32)) L) (hp4 : xs (i + (4 : Int32)).toNatClampNeg = p4) (hv5 : vp_in (i + (5 : Int32)) L) (hp5 : xs (i + (5 : Int32)).toNatClampNeg = p5) (hcs : cs + 1 ≤ room_1.cells ∧ ss + 6 ≤ room_1.slots) (hT : f_law_12 F x w v r t g fo fd p1 = 1)
    (hrec : ∀ (x : XS) (w : WS) (v : WS) (r : RS) (t : TS) (g : MS) (fo : (Nat → Int64)) (fd : (Nat → UInt64)) (H : Heap) (locs : List Loc) (ls : Array Slot), F x w v r t g fo fd = 1 → va_P D vwCl (cLaw h aw av kr kt km ao ad q x w v r t g fo fd) H → va_S A s.heap H locs → lv_has ls 9 [(0, .ref b), (1, .ref h), (2, .ref (km 0)), (3, .ref ao), (4, .ref ad), (5, .int i)] → W p l e room_1 s m args below meth c H locs (cs + 1) (ss + 6) Q (F0 m 1402 ls []))
    (hP : va_P D vwCl (cLaw h aw av kr kt km ao ad q x w v r t g fo fd) H) (hS : va_S A s.heap H locs) (hl : lv_has ls 9 [(0, .ref b), (1, .ref h), (2, .ref (km 0)), (3, .ref ao), (4, .ref ad), (5, .int i)]) : W p l e room_1 s m args below meth c H locs cs ss Q (F0 m 879 ls []) := by
  have hx := fx.1
  have hb := fx.2.1
  have ht : f_law_12 F x w v r t g fo fd p1 = f_law_12 F x w v r t g fo fd p1 := rfl
  refine lv_aload_n hx hb dL_law_879 rfl (lv_at hl 1 rfl) ?_
  refine lv_aload_n hx hb dL_law_880 rfl (lv_at hl 0 rfl) ?_
  refine lv_iload hx hb dL_law_881 (lv_at hl 5 rfl) ?_
  refine lv_iconst (v := 1) hx hb dL_law_883 (by decide) ?_
  refine lv_iadd hx hb dL_law_884 ?_
  refine sld hx hb hX hbl hbA hS hv1 hp1 dL_law_885 ?_
  refine lv_aload_n hx hb dL_law_886 rfl (lv_at hl 3 rfl) ?_
  refine kW1_i (wrun fx hSX (SZ.kept hSZ0 hS.2.1) (As := [.ref h, .int p1, .ref ao]) (rest := []) (c_L_of l D q H.size h aw av kr kt ao x w v r t fo p1 hstk) lk_L_135 ⟨Nat.le_of_ble_eq_true rfl, Nat.le_of_ble_eq_true rfl⟩ ⟨rfl, rfl⟩ hP (hD _ _ _ _ _ _ _ _) hS hA [0, 1, 2, 3, 4, 5, 6, 7, 8, 9, 10, 11, 12, 13, 25] rfl rfl rfl hl.1 rfl (Nat.le_of_ble_eq_true rfl) dL_law_887 hcs) hP (hD _ _ _ _ _ _ _ _) hS hA [0, 1, 2, 3, 4, 5, 6, 7, 8, 9, 10, 11, 12, 13, 25] rfl (fun _ => rfl) (fun r3 u1 H locs hw2 hP hS => ?_)
  have hP : va_P D vwCl (cLaw h aw av kr kt km ao ad q x w v r t g u1 fd) H := hP
  refine lv_istore (lv' := [(6, .int r3), (0, .ref b), (1, .ref h), (2, .ref (km 0)), (3, .ref ao), (4, .ref ad), (5, .int i)]) hx hb dL_law_890 hl (by decide) rfl (fun ls hl => ?_)
  refine lv_aload_n hx hb dL_law_892 rfl (lv_at hl 3 rfl) ?_
  refine lv_aload_n hx hb dL_law_893 rfl (lv_at hl 1 rfl) ?_
  refine lv_iload hx hb dL_law_894 (lv_at hl 6 rfl) ?_
  refine lv_iconst (v := 1) hx hb dL_law_896 (by decide) ?_
  refine lv_iadd hx hb dL_law_897 ?_
  refine sld hx hb hX hbl hbA hS hv1 hp1 dL_law_898 ?_
  refine kW_l (runV fx (As := [.int p1]) (rest := []) (c_X4_of l D q H.size km g p1) lk_L_137 ⟨Nat.le_of_ble_eq_true rfl, Nat.le_of_ble_eq_true rfl⟩ ⟨rfl, rfl⟩ hP (hD _ _ _ _ _ _ _ _) [14, 15, 16, 17, 18, 19, 20, 21, 22, 23, 24] rfl rfl (ci := 4) rfl rfl rfl hl.1 rfl (Nat.le_of_ble_eq_true rfl) dL_law_899 ⟨by have := hcs.1; omega, by have := hcs.2; omega⟩) hP (hD _ _ _ _ _ _ _ _) hS hA [14, 15, 16, 17, 18, 19, 20, 21, 22, 23, 24] rfl (fun _ => rfl) (fun r6 u4 H locs hw5 hP hS => ?_)
  have hP : va_P D vwCl (cLaw h aw av kr kt km ao ad q x w v r t u4 u1 fd) H := hP
  refine lv_lstore (lv' := [(7, .long r6), (6, .int r3), (0, .ref b), (1, .ref h), (2, .ref (km 0)), (3, .ref ao), (4, .ref ad), (5, .int i)]) hx hb dL_law_902 hl (by decide) rfl (fun ls hl => ?_)
  refine lv_aload_n hx hb dL_law_904 rfl (lv_at hl 4 rfl) ?_
  refine kR_i (runV fx (As := []) (rest := []) (c_X4_thrown l D q H.size km u4) lk_L_94 ⟨Nat.le_of_ble_eq_true rfl, Nat.le_of_ble_eq_true rfl⟩ ⟨rfl, rfl⟩ hP (hD _ _ _ _ _ _ _ _) [14, 15, 16, 17, 18, 19, 20, 21, 22, 23, 24] rfl rfl (ci := 4) rfl rfl rfl hl.1 rfl (Nat.le_of_ble_eq_true rfl) dL_law_905 ⟨by have := hcs.1; omega, by have := hcs.2; omega⟩) hP hS (fun r7 _ H locs hr8 hP hS => ?_)
  subst hr8
  refine lv_iload hx hb dL_law_908 (lv_at hl 1 rfl) ?_
  refine lv_icmp_eq (tgt := 915) hx hb dL_law_910 (by decide) (fun c9 => ?_) (fun c9 => ?_)
  · refine lv_iload hx hb dL_law_915 (lv_at hl 1 rfl) ?_
    have K931 : ∀ (H : Heap) (locs : List Loc) (ls : Array Slot), f_law_12 F x w v r t g fo fd p1 = f_L_law_b931 x w v r t g fo fd F p1 → va_P D vwCl (cLaw h aw av kr kt km ao ad q x w v r t u4 u1 fd) H → va_S A s.heap H locs → lv_has ls 9 [(0, .ref b), (1, .ref h), (2, .ref (km 0)), (3, .ref ao), (4, .ref ad), (5, .int i)] → W p l e room_1 s m args below meth c H locs (cs + 1) (ss + 6) Q (F0 m 931 ls []) := by
      intro H locs ls ht hP hS hl
      refine lv_goto (tgt := 1402) hx hb dL_law_931 (by decide) ?_
      exact hrec x w v r t u4 u1 fd H locs ls ((show f_law_12 F x w v r t g fo fd p1 = F x w v r t u4 u1 fd from ht.trans (by simp only [f_L_law_b931, hw2, hw5])).symm.trans hT) hP hS (lv_sub hl [0, 1, 2, 3, 4, 5] rfl)
    refine lv_if_ne (tgt := 931) hx hb dL_law_917 (by decide) (fun c12 => ?_) (fun c12 => ?_)
    · exact K931 H locs ls (ht.trans (by first | (simp only [f_law_12, if_pos c9, if_neg c12, hw2, hw5]; done) | (simp only [f_law_12, hw2, hw5]; simp only [if_pos c9, if_neg c12]))) hP hS (lv_sub hl [2, 3, 4, 5, 6, 7] rfl)
    · refine lv_aload_n hx hb dL_law_920 rfl (lv_at hl 5 rfl) ?_
      refine lv_iconst (v := 0) hx hb dL_law_921 (by decide) ?_
      refine va_lald hx hb fx.2.2.2.2.2.1 hP 25 2 (f := u1) rfl rfl (by unfold vp_in; decide) dL_law_922 ?_
      refine lv_lload hx hb dL_law_923 (lv_at hl 0 rfl) ?_
      refine W.lcmp hx hb dL_law_925 ?_
      refine lv_if_eq (tgt := 931) hx hb dL_law_926 (by decide) (fun c13 => ?_) (fun c13 => ?_)
      · exact K931 H locs ls (ht.trans (by first | (simp only [f_law_12, if_pos c9, if_pos c12, if_pos c13, hw2, hw5]; done) | (simp only [f_law_12, hw2, hw5]; simp only [if_pos c9, if_pos c12, if_pos c13]))) hP hS (lv_sub hl [2, 3, 4, 5, 6, 7] rfl)
      · refine lv_iconst (v := 0) hx hb dL_law_929 (by decide) ?_
        exact absurd ((show f_law_12 F x w v r t g fo fd p1 = (0 : Int32) from ht.trans (by first | (simp only [f_law_12, if_pos c9, if_pos c12, if_neg c13, hw2, hw5]; done) | (simp only [f_law_12, hw2, hw5]; simp only [if_pos c9, if_pos c12, if_neg c13]))).symm.trans hT) (by decide)
  · refine lv_iconst (v := 0) hx hb dL_law_913 (by decide) ?_
    exact absurd ((show f_law_12 F x w v r t g fo fd p1 = (0 : Int32) from ht.trans (by first | (simp only [f_law_12, if_neg c9, hw2, hw5]; done) | (simp only [f_law_12, hw2, hw5]; simp only [if_neg c9]))).symm.trans hT) (by decide)

def f_law_13 (N : Nat) (F : XS → WS → WS → RS → TS → MS → (Nat → Int64) → (Nat → UInt64) → Int32) (x : XS) (w : WS) (v : WS) (r : RS) (t : TS) (g : MS) (fo : (Nat → Int64)) (fd : (Nat → UInt64)) : Int32 :=
  if (f_X3_barriers w r t) = (f_X4_barriers N g).1 then (F x w v r t ((f_X4_barriers N g).2) fo fd) else (0 : Int32)

def ok_law_13 (N : Nat) (g : MS) : Prop :=
  (ok_X4_barriers N g) ∧ True

set_option maxRecDepth 100000 in
set_option maxHeartbeats 8000000 in
theorem c_law_13 {p : Program} {l : Launch} {e : Env} {s : State} {m : MethodId} {args : Array Value} {below : List Frame} {meth : Method} {c : Code} {H : Heap} {locs : List Loc} {cs ss : Nat} {Q : State → Prop} {D : va_G} {q : Nat → ClassId} {A : Nat → Prop} {b L : Nat} {xs : Nat → Int32} {ls : Array Slot} (h aw av ao ad : Nat) (kr kt km : Nat → Nat) (x : XS) (w : WS) (v : WS) (r : RS) (t : TS) (g : MS) (fo : (Nat → Int64)) (fd : (Nat → UInt64)) (p1 p2 p3 p4 p5 i : Int32) (N : Nat) (F : XS → WS → WS → RS → TS → MS → (Nat → Int64) → (Nat → UInt64) → Int32) (hstk : l.stackTraces = false) (fx : FX p s m args c RL code 9 D q) (hSX : SX s) (hSZ0 : SZ A s s.heap) (hX : va_X b L xs s s.heap) (hbl : b < s.heap.size) (hbA : ¬ A b) (hA : ∀ a, s.heap.size ≤ a → A a) (hD : ∀ (x : XS) (w : WS) (v : WS) (r : RS) (t : TS) (g : MS) (fo : (Nat → Int64)) (fd : (Nat → UInt64)), va_D A (cLaw h aw av kr kt km ao ad q x w v r t g fo fd)) (hv1 : vp_in (i + (1 : Int32)) L) (hp1 : xs (i + (1 : Int32)).toNatClampNeg = p1) (hv2 : vp_in (i + (2 : Int32)) L) (hp2 : xs (i + (2 : Int32)).toNatClampNeg = p2) (hv3 : vp_in (i + (3 : Int32)) L) (hp3 : xs (i + (3 : Int32)).toNatClampNeg = p3) (hv4 : vp_in (i + (4 : Int32)) L) (hp4 : xs (i + (4 : Int32)).toNatClampNeg = p4) (hv5 : vp_in (i + (5 : Int32)) L) (hp5 : xs (i + (5 : Int32)).toNatClampNeg = p5) (hcs : cs + 1 ≤ room_1.cells ∧ ss + 6 ≤ room_1.slots) (hok : ok_law_13 N g) (hT : f_law_13 N F x w v r t g fo fd = 1)
    (hrec : ∀ (x : XS) (w : WS) (v : WS) (r : RS) (t : TS) (g : MS) (fo : (Nat → Int64)) (fd : (Nat → UInt64)) (H : Heap) (locs : List Loc) (ls : Array Slot), F x w v r t g fo fd = 1 → va_P D vwCl (cLaw h aw av kr kt km ao ad q x w v r t g fo fd) H → va_S A s.heap H locs → lv_has ls 9 [(0, .ref b), (1, .ref h), (2, .ref (km 0)), (3, .ref ao), (4, .ref ad), (5, .int i)] → W p l e room_1 s m args below meth c H locs (cs + 1) (ss + 6) Q (F0 m 1402 ls []))
    (hP : va_P D vwCl (cLaw h aw av kr kt km ao ad q x w v r t g fo fd) H) (hS : va_S A s.heap H locs) (hl : lv_has ls 9 [(0, .ref b), (1, .ref h), (2, .ref (km 0)), (3, .ref ao), (4, .ref ad), (5, .int i)]) : W p l e room_1 s m args below meth c H locs cs ss Q (F0 m 934 ls []) := by
  have hx := fx.1
  have hb := fx.2.1
  have ht : f_law_13 N F x w v r t g fo fd = f_law_13 N F x w v r t g fo fd := rfl
  simp only [ok_law_13] at hok
  refine lv_aload_n hx hb dL_law_934 rfl (lv_at hl 1 rfl) ?_
  refine kR_i (runV fx (As := []) (rest := []) (c_X3_barriers l D q H.size h aw av kr kt x w v r t) lk_L_138 ⟨Nat.le_of_ble_eq_true rfl, Nat.le_of_ble_eq_true rfl⟩ ⟨rfl, rfl⟩ hP (hD _ _ _ _ _ _ _ _) [0, 1, 2, 3, 4, 5, 6, 7, 8, 9, 10, 11, 12, 13] rfl rfl (ci := 3) rfl rfl rfl hl.1 rfl (Nat.le_of_ble_eq_true rfl) dL_law_935 ⟨by have := hcs.1; omega, by have := hcs.2; omega⟩) hP hS (fun r1 _ H locs hr2 hP hS => ?_)
  subst hr2
  refine lv_aload_n hx hb dL_law_938 rfl (lv_at hl 2 rfl) ?_
  obtain ⟨hk3, hok⟩ := hok
  refine kW_i (runV fx (As := []) (rest := [.int (f_X3_barriers w r t)]) (c_X4_barriers l D q H.size km g N hk3) lk_L_141 ⟨Nat.le_of_ble_eq_true rfl, Nat.le_of_ble_eq_true rfl⟩ ⟨rfl, rfl⟩ hP (hD _ _ _ _ _ _ _ _) [14, 15, 16, 17, 18, 19, 20, 21, 22, 23, 24] rfl rfl (ci := 4) rfl rfl rfl hl.1 rfl (Nat.le_of_ble_eq_true rfl) dL_law_939 ⟨by have := hcs.1; omega, by have := hcs.2; omega⟩) hP (hD _ _ _ _ _ _ _ _) hS hA [14, 15, 16, 17, 18, 19, 20, 21, 22, 23, 24] rfl (fun _ => rfl) (fun r6 u4 H locs hw5 hP hS => ?_)
  have hP : va_P D vwCl (cLaw h aw av kr kt km ao ad q x w v r t u4 fo fd) H := hP
  try simp only [hw5] at hok
  refine lv_icmp_eq (tgt := 1402) hx hb dL_law_942 (by decide) (fun c7 => ?_) (fun c7 => ?_)
  · refine W.widen (k := cs + 1) (n := ss + 6) (Nat.le_add_right _ _) (Nat.le_add_right _ _) ?_
    exact hrec x w v r t u4 fo fd H locs ls ((show f_law_13 N F x w v r t g fo fd = F x w v r t u4 fo fd from ht.trans (by first | (simp only [f_law_13, if_pos c7, hw5]; done) | (simp only [f_law_13, hw5]; simp only [if_pos c7]))).symm.trans hT) hP hS (lv_sub hl [0, 1, 2, 3, 4, 5] rfl)
  · refine lv_iconst (v := 0) hx hb dL_law_945 (by decide) ?_
    exact absurd ((show f_law_13 N F x w v r t g fo fd = (0 : Int32) from ht.trans (by first | (simp only [f_law_13, if_neg c7, hw5]; done) | (simp only [f_law_13, hw5]; simp only [if_neg c7]))).symm.trans hT) (by decide)

def f_law_14 (N : Nat) (F : XS → WS → WS → RS → TS → MS → (Nat → Int64) → (Nat → UInt64) → Int32) (x : XS) (w : WS) (v : WS) (r : RS) (t : TS) (g : MS) (fo : (Nat → Int64)) (fd : (Nat → UInt64)) : Int32 :=
  if (f_X3_bars x w r t) = (f_X4_bars N g).1 then (F x w v r t ((f_X4_bars N g).2) fo fd) else (0 : Int32)

def ok_law_14 (N : Nat) (g : MS) : Prop :=
  (ok_X4_bars N g) ∧ True

set_option maxRecDepth 100000 in
set_option maxHeartbeats 8000000 in
theorem c_law_14 {p : Program} {l : Launch} {e : Env} {s : State} {m : MethodId} {args : Array Value} {below : List Frame} {meth : Method} {c : Code} {H : Heap} {locs : List Loc} {cs ss : Nat} {Q : State → Prop} {D : va_G} {q : Nat → ClassId} {A : Nat → Prop} {b L : Nat} {xs : Nat → Int32} {ls : Array Slot} (h aw av ao ad : Nat) (kr kt km : Nat → Nat) (x : XS) (w : WS) (v : WS) (r : RS) (t : TS) (g : MS) (fo : (Nat → Int64)) (fd : (Nat → UInt64)) (p1 p2 p3 p4 p5 i : Int32) (N : Nat) (F : XS → WS → WS → RS → TS → MS → (Nat → Int64) → (Nat → UInt64) → Int32) (hstk : l.stackTraces = false) (fx : FX p s m args c RL code 9 D q) (hSX : SX s) (hSZ0 : SZ A s s.heap) (hX : va_X b L xs s s.heap) (hbl : b < s.heap.size) (hbA : ¬ A b) (hA : ∀ a, s.heap.size ≤ a → A a) (hD : ∀ (x : XS) (w : WS) (v : WS) (r : RS) (t : TS) (g : MS) (fo : (Nat → Int64)) (fd : (Nat → UInt64)), va_D A (cLaw h aw av kr kt km ao ad q x w v r t g fo fd)) (hv1 : vp_in (i + (1 : Int32)) L) (hp1 : xs (i + (1 : Int32)).toNatClampNeg = p1) (hv2 : vp_in (i + (2 : Int32)) L) (hp2 : xs (i + (2 : Int32)).toNatClampNeg = p2) (hv3 : vp_in (i + (3 : Int32)) L) (hp3 : xs (i + (3 : Int32)).toNatClampNeg = p3) (hv4 : vp_in (i + (4 : Int32)) L) (hp4 : xs (i + (4 : Int32)).toNatClampNeg = p4) (hv5 : vp_in (i + (5 : Int32)) L) (hp5 : xs (i + (5 : Int32)).toNatClampNeg = p5) (hcs : cs + 1 ≤ room_1.cells ∧ ss + 6 ≤ room_1.slots) (hok : ok_law_14 N g) (hT : f_law_14 N F x w v r t g fo fd = 1)
    (hrec : ∀ (x : XS) (w : WS) (v : WS) (r : RS) (t : TS) (g : MS) (fo : (Nat → Int64)) (fd : (Nat → UInt64)) (H : Heap) (locs : List Loc) (ls : Array Slot), F x w v r t g fo fd = 1 → va_P D vwCl (cLaw h aw av kr kt km ao ad q x w v r t g fo fd) H → va_S A s.heap H locs → lv_has ls 9 [(0, .ref b), (1, .ref h), (2, .ref (km 0)), (3, .ref ao), (4, .ref ad), (5, .int i)] → W p l e room_1 s m args below meth c H locs (cs + 1) (ss + 6) Q (F0 m 1402 ls []))
    (hP : va_P D vwCl (cLaw h aw av kr kt km ao ad q x w v r t g fo fd) H) (hS : va_S A s.heap H locs) (hl : lv_has ls 9 [(0, .ref b), (1, .ref h), (2, .ref (km 0)), (3, .ref ao), (4, .ref ad), (5, .int i)]) : W p l e room_1 s m args below meth c H locs cs ss Q (F0 m 947 ls []) := by
  have hx := fx.1
  have hb := fx.2.1
  have ht : f_law_14 N F x w v r t g fo fd = f_law_14 N F x w v r t g fo fd := rfl
  simp only [ok_law_14] at hok
  refine lv_aload_n hx hb dL_law_947 rfl (lv_at hl 1 rfl) ?_
  refine kR_i (runV fx (As := []) (rest := []) (c_X3_bars l D q H.size h aw av kr kt x w v r t) lk_L_142 ⟨Nat.le_of_ble_eq_true rfl, Nat.le_of_ble_eq_true rfl⟩ ⟨rfl, rfl⟩ hP (hD _ _ _ _ _ _ _ _) [0, 1, 2, 3, 4, 5, 6, 7, 8, 9, 10, 11, 12, 13] rfl rfl (ci := 3) rfl rfl rfl hl.1 rfl (Nat.le_of_ble_eq_true rfl) dL_law_948 ⟨by have := hcs.1; omega, by have := hcs.2; omega⟩) hP hS (fun r1 _ H locs hr2 hP hS => ?_)
  subst hr2
  refine lv_aload_n hx hb dL_law_951 rfl (lv_at hl 2 rfl) ?_
  obtain ⟨hk3, hok⟩ := hok
  refine kW_i (runV fx (As := []) (rest := [.int (f_X3_bars x w r t)]) (c_X4_bars l D q H.size km g N hk3) lk_L_145 ⟨Nat.le_of_ble_eq_true rfl, Nat.le_of_ble_eq_true rfl⟩ ⟨rfl, rfl⟩ hP (hD _ _ _ _ _ _ _ _) [14, 15, 16, 17, 18, 19, 20, 21, 22, 23, 24] rfl rfl (ci := 4) rfl rfl rfl hl.1 rfl (Nat.le_of_ble_eq_true rfl) dL_law_952 ⟨by have := hcs.1; omega, by have := hcs.2; omega⟩) hP (hD _ _ _ _ _ _ _ _) hS hA [14, 15, 16, 17, 18, 19, 20, 21, 22, 23, 24] rfl (fun _ => rfl) (fun r6 u4 H locs hw5 hP hS => ?_)
  have hP : va_P D vwCl (cLaw h aw av kr kt km ao ad q x w v r t u4 fo fd) H := hP
  try simp only [hw5] at hok
  refine lv_icmp_eq (tgt := 1402) hx hb dL_law_955 (by decide) (fun c7 => ?_) (fun c7 => ?_)
  · refine W.widen (k := cs + 1) (n := ss + 6) (Nat.le_add_right _ _) (Nat.le_add_right _ _) ?_
    exact hrec x w v r t u4 fo fd H locs ls ((show f_law_14 N F x w v r t g fo fd = F x w v r t u4 fo fd from ht.trans (by first | (simp only [f_law_14, if_pos c7, hw5]; done) | (simp only [f_law_14, hw5]; simp only [if_pos c7]))).symm.trans hT) hP hS (lv_sub hl [0, 1, 2, 3, 4, 5] rfl)
  · refine lv_iconst (v := 0) hx hb dL_law_958 (by decide) ?_
    exact absurd ((show f_law_14 N F x w v r t g fo fd = (0 : Int32) from ht.trans (by first | (simp only [f_law_14, if_neg c7, hw5]; done) | (simp only [f_law_14, hw5]; simp only [if_neg c7]))).symm.trans hT) (by decide)

def f_L_law_b1025 (x : XS) (w : WS) (v : WS) (r : RS) (t : TS) (g : MS) (fo : (Nat → Int64)) (fd : (Nat → UInt64)) (F : XS → WS → WS → RS → TS → MS → (Nat → Int64) → (Nat → UInt64) → Int32) (p1 : Int32) (p2 : Int32) : Int32 :=
  F x w v r t ((f_X4_ofTest g p1 p2).2) ((f_L_ofTest t fo p1 p2).2) fd

def f_law_15 (F : XS → WS → WS → RS → TS → MS → (Nat → Int64) → (Nat → UInt64) → Int32) (x : XS) (w : WS) (v : WS) (r : RS) (t : TS) (g : MS) (fo : (Nat → Int64)) (fd : (Nat → UInt64)) (p1 : Int32) (p2 : Int32) : Int32 :=
  if (f_X4_thrown ((f_X4_ofTest g p1 p2).2)) = (f_L_ofTest t fo p1 p2).1 then (if (f_L_ofTest t fo p1 p2).1 = 0 then (if (lg_cmp (((f_L_ofTest t fo p1 p2).2) (0 : Int32).toNatClampNeg) (f_X4_ofTest g p1 p2).1.toInt64) = 0 then (f_L_law_b1025 x w v r t g fo fd F p1 p2) else (0 : Int32)) else (f_L_law_b1025 x w v r t g fo fd F p1 p2)) else (0 : Int32)

def ok_law_15 (g : MS) (p1 : Int32) (p2 : Int32) : Prop :=
  (ok_X4_ofTest g p1 p2) ∧ True

set_option maxRecDepth 100000 in
set_option maxHeartbeats 8000000 in
theorem c_law_15 {p : Program} {l : Launch} {e : Env} {s : State} {m : MethodId} {args : Array Value} {below : List Frame} {meth : Method} {c : Code} {H : Heap} {locs : List Loc} {cs ss : Nat} {Q : State → Prop} {D : va_G} {q : Nat → ClassId} {A : Nat → Prop} {b L : Nat} {xs : Nat → Int32} {ls : Array Slot} (h aw av ao ad : Nat) (kr kt km : Nat → Nat) (x : XS) (w : WS) (v : WS) (r : RS) (t : TS) (g : MS) (fo : (Nat → Int64)) (fd : (Nat → UInt64)) (p1 p2 p3 p4 p5 i : Int32) (N : Nat) (F : XS → WS → WS → RS → TS → MS → (Nat → Int64) → (Nat → UInt64) → Int32) (hstk : l.stackTraces = false) (fx : FX p s m args c RL code 9 D q) (hSX : SX s) (hSZ0 : SZ A s s.heap) (hX : va_X b L xs s s.heap) (hbl : b < s.heap.size) (hbA : ¬ A b) (hA : ∀ a, s.heap.size ≤ a → A a) (hD : ∀ (x : XS) (w : WS) (v : WS) (r : RS) (t : TS) (g : MS) (fo : (Nat → Int64)) (fd : (Nat → UInt64)), va_D A (cLaw h aw av kr kt km ao ad q x w v r t g fo fd)) (hv1 : vp_in (i + (1 : Int32)) L) (hp1 : xs (i + (1 : Int32)).toNatClampNeg = p1) (hv2 : vp_in (i + (2 : Int32)) L) (hp2 : xs (i + (2 : Int32)).toNatClampNeg = p2) (hv3 : vp_in (i + (3 : Int32)) L) (hp3 : xs (i + (3 : Int32)).toNatClampNeg = p3) (hv4 : vp_in (i + (4 : Int32)) L) (hp4 : xs (i + (4 : Int32)).toNatClampNeg = p4) (hv5 : vp_in (i + (5 : Int32)) L) (hp5 : xs (i + (5 : Int32)).toNatClampNeg = p5) (hcs : cs + 1 ≤ room_1.cells ∧ ss + 6 ≤ room_1.slots) (hok : ok_law_15 g p1 p2) (hT : f_law_15 F x w v r t g fo fd p1 p2 = 1)
    (hrec : ∀ (x : XS) (w : WS) (v : WS) (r : RS) (t : TS) (g : MS) (fo : (Nat → Int64)) (fd : (Nat → UInt64)) (H : Heap) (locs : List Loc) (ls : Array Slot), F x w v r t g fo fd = 1 → va_P D vwCl (cLaw h aw av kr kt km ao ad q x w v r t g fo fd) H → va_S A s.heap H locs → lv_has ls 9 [(0, .ref b), (1, .ref h), (2, .ref (km 0)), (3, .ref ao), (4, .ref ad), (5, .int i)] → W p l e room_1 s m args below meth c H locs (cs + 1) (ss + 6) Q (F0 m 1402 ls []))
    (hP : va_P D vwCl (cLaw h aw av kr kt km ao ad q x w v r t g fo fd) H) (hS : va_S A s.heap H locs) (hl : lv_has ls 9 [(0, .ref b), (1, .ref h), (2, .ref (km 0)), (3, .ref ao), (4, .ref ad), (5, .int i)]) : W p l e room_1 s m args below meth c H locs cs ss Q (F0 m 960 ls []) := by
  have hx := fx.1
  have hb := fx.2.1
  have ht : f_law_15 F x w v r t g fo fd p1 p2 = f_law_15 F x w v r t g fo fd p1 p2 := rfl
  simp only [ok_law_15] at hok
  refine lv_aload_n hx hb dL_law_960 rfl (lv_at hl 1 rfl) ?_
  refine lv_aload_n hx hb dL_law_961 rfl (lv_at hl 0 rfl) ?_
  refine lv_iload hx hb dL_law_962 (lv_at hl 5 rfl) ?_
  refine lv_iconst (v := 1) hx hb dL_law_964 (by decide) ?_
  refine lv_iadd hx hb dL_law_965 ?_
  refine sld hx hb hX hbl hbA hS hv1 hp1 dL_law_966 ?_
  refine lv_aload_n hx hb dL_law_967 rfl (lv_at hl 0 rfl) ?_
  refine lv_iload hx hb dL_law_968 (lv_at hl 5 rfl) ?_
  refine lv_iconst (v := 2) hx hb dL_law_970 (by decide) ?_
  refine lv_iadd hx hb dL_law_971 ?_
  refine sld hx hb hX hbl hbA hS hv2 hp2 dL_law_972 ?_
  refine lv_aload_n hx hb dL_law_973 rfl (lv_at hl 3 rfl) ?_
  refine kW1_i (wrun fx hSX (SZ.kept hSZ0 hS.2.1) (As := [.ref h, .int p1, .int p2, .ref ao]) (rest := []) (c_L_ofTest l D q H.size h aw av kr kt ao x w v r t fo p1 p2 hstk) lk_L_146 ⟨Nat.le_of_ble_eq_true rfl, Nat.le_of_ble_eq_true rfl⟩ ⟨rfl, rfl⟩ hP (hD _ _ _ _ _ _ _ _) hS hA [0, 1, 2, 3, 4, 5, 6, 7, 8, 9, 10, 11, 12, 13, 25] rfl rfl rfl hl.1 rfl (Nat.le_of_ble_eq_true rfl) dL_law_974 hcs) hP (hD _ _ _ _ _ _ _ _) hS hA [0, 1, 2, 3, 4, 5, 6, 7, 8, 9, 10, 11, 12, 13, 25] rfl (fun _ => rfl) (fun r3 u1 H locs hw2 hP hS => ?_)
  have hP : va_P D vwCl (cLaw h aw av kr kt km ao ad q x w v r t g u1 fd) H := hP
  try simp only [hw2] at hok
  refine lv_istore (lv' := [(6, .int r3), (0, .ref b), (1, .ref h), (2, .ref (km 0)), (3, .ref ao), (4, .ref ad), (5, .int i)]) hx hb dL_law_977 hl (by decide) rfl (fun ls hl => ?_)
  refine lv_aload_n hx hb dL_law_979 rfl (lv_at hl 3 rfl) ?_
  refine lv_aload_n hx hb dL_law_980 rfl (lv_at hl 1 rfl) ?_
  refine lv_iload hx hb dL_law_981 (lv_at hl 6 rfl) ?_
  refine lv_iconst (v := 1) hx hb dL_law_983 (by decide) ?_
  refine lv_iadd hx hb dL_law_984 ?_
  refine sld hx hb hX hbl hbA hS hv1 hp1 dL_law_985 ?_
  refine lv_aload_n hx hb dL_law_986 rfl (lv_at hl 1 rfl) ?_
  refine lv_iload hx hb dL_law_987 (lv_at hl 6 rfl) ?_
  refine lv_iconst (v := 2) hx hb dL_law_989 (by decide) ?_
  refine lv_iadd hx hb dL_law_990 ?_
  refine sld hx hb hX hbl hbA hS hv2 hp2 dL_law_991 ?_
  obtain ⟨hk4, hok⟩ := hok
  refine kW_i (runV fx (As := [.int p1, .int p2]) (rest := []) (c_X4_ofTest l D q H.size km g p1 p2 hk4) lk_L_148 ⟨Nat.le_of_ble_eq_true rfl, Nat.le_of_ble_eq_true rfl⟩ ⟨rfl, rfl⟩ hP (hD _ _ _ _ _ _ _ _) [14, 15, 16, 17, 18, 19, 20, 21, 22, 23, 24] rfl rfl (ci := 4) rfl rfl rfl hl.1 rfl (Nat.le_of_ble_eq_true rfl) dL_law_992 ⟨by have := hcs.1; omega, by have := hcs.2; omega⟩) hP (hD _ _ _ _ _ _ _ _) hS hA [14, 15, 16, 17, 18, 19, 20, 21, 22, 23, 24] rfl (fun _ => rfl) (fun r7 u5 H locs hw6 hP hS => ?_)
  have hP : va_P D vwCl (cLaw h aw av kr kt km ao ad q x w v r t u5 u1 fd) H := hP
  try simp only [hw6] at hok
  refine lv_istore (lv' := [(7, .int r7), (6, .int r3), (0, .ref b), (1, .ref h), (2, .ref (km 0)), (3, .ref ao), (4, .ref ad), (5, .int i)]) hx hb dL_law_995 hl (by decide) rfl (fun ls hl => ?_)
  refine lv_aload_n hx hb dL_law_997 rfl (lv_at hl 4 rfl) ?_
  refine kR_i (runV fx (As := []) (rest := []) (c_X4_thrown l D q H.size km u5) lk_L_94 ⟨Nat.le_of_ble_eq_true rfl, Nat.le_of_ble_eq_true rfl⟩ ⟨rfl, rfl⟩ hP (hD _ _ _ _ _ _ _ _) [14, 15, 16, 17, 18, 19, 20, 21, 22, 23, 24] rfl rfl (ci := 4) rfl rfl rfl hl.1 rfl (Nat.le_of_ble_eq_true rfl) dL_law_998 ⟨by have := hcs.1; omega, by have := hcs.2; omega⟩) hP hS (fun r8 _ H locs hr9 hP hS => ?_)
  subst hr9
  refine lv_iload hx hb dL_law_1001 (lv_at hl 1 rfl) ?_
  refine lv_icmp_eq (tgt := 1008) hx hb dL_law_1003 (by decide) (fun c10 => ?_) (fun c10 => ?_)
  · refine lv_iload hx hb dL_law_1008 (lv_at hl 1 rfl) ?_
    have K1025 : ∀ (H : Heap) (locs : List Loc) (ls : Array Slot), f_law_15 F x w v r t g fo fd p1 p2 = f_L_law_b1025 x w v r t g fo fd F p1 p2 → va_P D vwCl (cLaw h aw av kr kt km ao ad q x w v r t u5 u1 fd) H → va_S A s.heap H locs → lv_has ls 9 [(0, .ref b), (1, .ref h), (2, .ref (km 0)), (3, .ref ao), (4, .ref ad), (5, .int i)] → W p l e room_1 s m args below meth c H locs (cs + 1) (ss + 6) Q (F0 m 1025 ls []) := by
      intro H locs ls ht hP hS hl
      refine lv_goto (tgt := 1402) hx hb dL_law_1025 (by decide) ?_
      exact hrec x w v r t u5 u1 fd H locs ls ((show f_law_15 F x w v r t g fo fd p1 p2 = F x w v r t u5 u1 fd from ht.trans (by simp only [f_L_law_b1025, hw2, hw6])).symm.trans hT) hP hS (lv_sub hl [0, 1, 2, 3, 4, 5] rfl)
    refine lv_if_ne (tgt := 1025) hx hb dL_law_1010 (by decide) (fun c13 => ?_) (fun c13 => ?_)
    · exact K1025 H locs ls (ht.trans (by first | (simp only [f_law_15, if_pos c10, if_neg c13, hw2, hw6]; done) | (simp only [f_law_15, hw2, hw6]; simp only [if_pos c10, if_neg c13]))) hP hS (lv_sub hl [2, 3, 4, 5, 6, 7] rfl)
    · refine lv_aload_n hx hb dL_law_1013 rfl (lv_at hl 5 rfl) ?_
      refine lv_iconst (v := 0) hx hb dL_law_1014 (by decide) ?_
      refine va_lald hx hb fx.2.2.2.2.2.1 hP 25 2 (f := u1) rfl rfl (by unfold vp_in; decide) dL_law_1015 ?_
      refine lv_iload hx hb dL_law_1016 (lv_at hl 0 rfl) ?_
      refine lv_i2l (v := r7.toInt64) hx hb dL_law_1018 rfl ?_
      refine W.lcmp hx hb dL_law_1019 ?_
      refine lv_if_eq (tgt := 1025) hx hb dL_law_1020 (by decide) (fun c14 => ?_) (fun c14 => ?_)
      · exact K1025 H locs ls (ht.trans (by first | (simp only [f_law_15, if_pos c10, if_pos c13, if_pos c14, hw2, hw6]; done) | (simp only [f_law_15, hw2, hw6]; simp only [if_pos c10, if_pos c13, if_pos c14]))) hP hS (lv_sub hl [2, 3, 4, 5, 6, 7] rfl)
      · refine lv_iconst (v := 0) hx hb dL_law_1023 (by decide) ?_
        exact absurd ((show f_law_15 F x w v r t g fo fd p1 p2 = (0 : Int32) from ht.trans (by first | (simp only [f_law_15, if_pos c10, if_pos c13, if_neg c14, hw2, hw6]; done) | (simp only [f_law_15, hw2, hw6]; simp only [if_pos c10, if_pos c13, if_neg c14]))).symm.trans hT) (by decide)
  · refine lv_iconst (v := 0) hx hb dL_law_1006 (by decide) ?_
    exact absurd ((show f_law_15 F x w v r t g fo fd p1 p2 = (0 : Int32) from ht.trans (by first | (simp only [f_law_15, if_neg c10, hw2, hw6]; done) | (simp only [f_law_15, hw2, hw6]; simp only [if_neg c10]))).symm.trans hT) (by decide)

def f_L_law_b1069 (N : Nat) (x : XS) (w : WS) (v : WS) (r : RS) (t : TS) (g : MS) (fo : (Nat → Int64)) (fd : (Nat → UInt64)) (F : XS → WS → WS → RS → TS → MS → (Nat → Int64) → (Nat → UInt64) → Int32) : Int32 :=
  F x w v r t ((f_X4_killWeight N g).2) ((f_L_killWeight w r fo).2) fd

def f_law_16 (N : Nat) (F : XS → WS → WS → RS → TS → MS → (Nat → Int64) → (Nat → UInt64) → Int32) (x : XS) (w : WS) (v : WS) (r : RS) (t : TS) (g : MS) (fo : (Nat → Int64)) (fd : (Nat → UInt64)) : Int32 :=
  if (f_X4_thrown ((f_X4_killWeight N g).2)) = (f_L_killWeight w r fo).1 then (if (f_L_killWeight w r fo).1 = 0 then (if (lg_cmp (((f_L_killWeight w r fo).2) (0 : Int32).toNatClampNeg) (f_X4_killWeight N g).1.toInt64) = 0 then (f_L_law_b1069 N x w v r t g fo fd F) else (0 : Int32)) else (f_L_law_b1069 N x w v r t g fo fd F)) else (0 : Int32)

def ok_law_16 (N : Nat) (g : MS) : Prop :=
  (ok_X4_killWeight N g) ∧ True

set_option maxRecDepth 100000 in
set_option maxHeartbeats 8000000 in
theorem c_law_16 {p : Program} {l : Launch} {e : Env} {s : State} {m : MethodId} {args : Array Value} {below : List Frame} {meth : Method} {c : Code} {H : Heap} {locs : List Loc} {cs ss : Nat} {Q : State → Prop} {D : va_G} {q : Nat → ClassId} {A : Nat → Prop} {b L : Nat} {xs : Nat → Int32} {ls : Array Slot} (h aw av ao ad : Nat) (kr kt km : Nat → Nat) (x : XS) (w : WS) (v : WS) (r : RS) (t : TS) (g : MS) (fo : (Nat → Int64)) (fd : (Nat → UInt64)) (p1 p2 p3 p4 p5 i : Int32) (N : Nat) (F : XS → WS → WS → RS → TS → MS → (Nat → Int64) → (Nat → UInt64) → Int32) (hstk : l.stackTraces = false) (fx : FX p s m args c RL code 9 D q) (hSX : SX s) (hSZ0 : SZ A s s.heap) (hX : va_X b L xs s s.heap) (hbl : b < s.heap.size) (hbA : ¬ A b) (hA : ∀ a, s.heap.size ≤ a → A a) (hD : ∀ (x : XS) (w : WS) (v : WS) (r : RS) (t : TS) (g : MS) (fo : (Nat → Int64)) (fd : (Nat → UInt64)), va_D A (cLaw h aw av kr kt km ao ad q x w v r t g fo fd)) (hv1 : vp_in (i + (1 : Int32)) L) (hp1 : xs (i + (1 : Int32)).toNatClampNeg = p1) (hv2 : vp_in (i + (2 : Int32)) L) (hp2 : xs (i + (2 : Int32)).toNatClampNeg = p2) (hv3 : vp_in (i + (3 : Int32)) L) (hp3 : xs (i + (3 : Int32)).toNatClampNeg = p3) (hv4 : vp_in (i + (4 : Int32)) L) (hp4 : xs (i + (4 : Int32)).toNatClampNeg = p4) (hv5 : vp_in (i + (5 : Int32)) L) (hp5 : xs (i + (5 : Int32)).toNatClampNeg = p5) (hcs : cs + 1 ≤ room_1.cells ∧ ss + 6 ≤ room_1.slots) (hok : ok_law_16 N g) (hT : f_law_16 N F x w v r t g fo fd = 1)
    (hrec : ∀ (x : XS) (w : WS) (v : WS) (r : RS) (t : TS) (g : MS) (fo : (Nat → Int64)) (fd : (Nat → UInt64)) (H : Heap) (locs : List Loc) (ls : Array Slot), F x w v r t g fo fd = 1 → va_P D vwCl (cLaw h aw av kr kt km ao ad q x w v r t g fo fd) H → va_S A s.heap H locs → lv_has ls 9 [(0, .ref b), (1, .ref h), (2, .ref (km 0)), (3, .ref ao), (4, .ref ad), (5, .int i)] → W p l e room_1 s m args below meth c H locs (cs + 1) (ss + 6) Q (F0 m 1402 ls []))
    (hP : va_P D vwCl (cLaw h aw av kr kt km ao ad q x w v r t g fo fd) H) (hS : va_S A s.heap H locs) (hl : lv_has ls 9 [(0, .ref b), (1, .ref h), (2, .ref (km 0)), (3, .ref ao), (4, .ref ad), (5, .int i)]) : W p l e room_1 s m args below meth c H locs cs ss Q (F0 m 1028 ls []) := by
  have hx := fx.1
  have hb := fx.2.1
  have ht : f_law_16 N F x w v r t g fo fd = f_law_16 N F x w v r t g fo fd := rfl
  simp only [ok_law_16] at hok
  refine lv_aload_n hx hb dL_law_1028 rfl (lv_at hl 1 rfl) ?_
  refine lv_aload_n hx hb dL_law_1029 rfl (lv_at hl 3 rfl) ?_
  refine kW1_i (wrun fx hSX (SZ.kept hSZ0 hS.2.1) (As := [.ref h, .ref ao]) (rest := []) (c_L_killWeight l D q H.size h aw av kr kt ao x w v r t fo hstk) lk_L_149 ⟨Nat.le_of_ble_eq_true rfl, Nat.le_of_ble_eq_true rfl⟩ ⟨rfl, rfl⟩ hP (hD _ _ _ _ _ _ _ _) hS hA [0, 1, 2, 3, 4, 5, 6, 7, 8, 9, 10, 11, 12, 13, 25] rfl rfl rfl hl.1 rfl (Nat.le_of_ble_eq_true rfl) dL_law_1030 hcs) hP (hD _ _ _ _ _ _ _ _) hS hA [0, 1, 2, 3, 4, 5, 6, 7, 8, 9, 10, 11, 12, 13, 25] rfl (fun _ => rfl) (fun r3 u1 H locs hw2 hP hS => ?_)
  have hP : va_P D vwCl (cLaw h aw av kr kt km ao ad q x w v r t g u1 fd) H := hP
  try simp only [hw2] at hok
  refine lv_istore (lv' := [(6, .int r3), (0, .ref b), (1, .ref h), (2, .ref (km 0)), (3, .ref ao), (4, .ref ad), (5, .int i)]) hx hb dL_law_1033 hl (by decide) rfl (fun ls hl => ?_)
  refine lv_aload_n hx hb dL_law_1035 rfl (lv_at hl 3 rfl) ?_
  obtain ⟨hk4, hok⟩ := hok
  refine kW_i (runV fx (As := []) (rest := []) (c_X4_killWeight l D q H.size km g N hk4) lk_L_151 ⟨Nat.le_of_ble_eq_true rfl, Nat.le_of_ble_eq_true rfl⟩ ⟨rfl, rfl⟩ hP (hD _ _ _ _ _ _ _ _) [14, 15, 16, 17, 18, 19, 20, 21, 22, 23, 24] rfl rfl (ci := 4) rfl rfl rfl hl.1 rfl (Nat.le_of_ble_eq_true rfl) dL_law_1036 ⟨by have := hcs.1; omega, by have := hcs.2; omega⟩) hP (hD _ _ _ _ _ _ _ _) hS hA [14, 15, 16, 17, 18, 19, 20, 21, 22, 23, 24] rfl (fun _ => rfl) (fun r7 u5 H locs hw6 hP hS => ?_)
  have hP : va_P D vwCl (cLaw h aw av kr kt km ao ad q x w v r t u5 u1 fd) H := hP
  try simp only [hw6] at hok
  refine lv_istore (lv' := [(7, .int r7), (6, .int r3), (0, .ref b), (1, .ref h), (2, .ref (km 0)), (3, .ref ao), (4, .ref ad), (5, .int i)]) hx hb dL_law_1039 hl (by decide) rfl (fun ls hl => ?_)
  refine lv_aload_n hx hb dL_law_1041 rfl (lv_at hl 4 rfl) ?_
  refine kR_i (runV fx (As := []) (rest := []) (c_X4_thrown l D q H.size km u5) lk_L_94 ⟨Nat.le_of_ble_eq_true rfl, Nat.le_of_ble_eq_true rfl⟩ ⟨rfl, rfl⟩ hP (hD _ _ _ _ _ _ _ _) [14, 15, 16, 17, 18, 19, 20, 21, 22, 23, 24] rfl rfl (ci := 4) rfl rfl rfl hl.1 rfl (Nat.le_of_ble_eq_true rfl) dL_law_1042 ⟨by have := hcs.1; omega, by have := hcs.2; omega⟩) hP hS (fun r8 _ H locs hr9 hP hS => ?_)
  subst hr9
  refine lv_iload hx hb dL_law_1045 (lv_at hl 1 rfl) ?_
  refine lv_icmp_eq (tgt := 1052) hx hb dL_law_1047 (by decide) (fun c10 => ?_) (fun c10 => ?_)
  · refine lv_iload hx hb dL_law_1052 (lv_at hl 1 rfl) ?_
    have K1069 : ∀ (H : Heap) (locs : List Loc) (ls : Array Slot), f_law_16 N F x w v r t g fo fd = f_L_law_b1069 N x w v r t g fo fd F → va_P D vwCl (cLaw h aw av kr kt km ao ad q x w v r t u5 u1 fd) H → va_S A s.heap H locs → lv_has ls 9 [(0, .ref b), (1, .ref h), (2, .ref (km 0)), (3, .ref ao), (4, .ref ad), (5, .int i)] → W p l e room_1 s m args below meth c H locs (cs + 1) (ss + 6) Q (F0 m 1069 ls []) := by
      intro H locs ls ht hP hS hl
      refine lv_goto (tgt := 1402) hx hb dL_law_1069 (by decide) ?_
      exact hrec x w v r t u5 u1 fd H locs ls ((show f_law_16 N F x w v r t g fo fd = F x w v r t u5 u1 fd from ht.trans (by simp only [f_L_law_b1069, hw2, hw6])).symm.trans hT) hP hS (lv_sub hl [0, 1, 2, 3, 4, 5] rfl)
    refine lv_if_ne (tgt := 1069) hx hb dL_law_1054 (by decide) (fun c13 => ?_) (fun c13 => ?_)
    · exact K1069 H locs ls (ht.trans (by first | (simp only [f_law_16, if_pos c10, if_neg c13, hw2, hw6]; done) | (simp only [f_law_16, hw2, hw6]; simp only [if_pos c10, if_neg c13]))) hP hS (lv_sub hl [2, 3, 4, 5, 6, 7] rfl)
    · refine lv_aload_n hx hb dL_law_1057 rfl (lv_at hl 5 rfl) ?_
      refine lv_iconst (v := 0) hx hb dL_law_1058 (by decide) ?_
      refine va_lald hx hb fx.2.2.2.2.2.1 hP 25 2 (f := u1) rfl rfl (by unfold vp_in; decide) dL_law_1059 ?_
      refine lv_iload hx hb dL_law_1060 (lv_at hl 0 rfl) ?_
      refine lv_i2l (v := r7.toInt64) hx hb dL_law_1062 rfl ?_
      refine W.lcmp hx hb dL_law_1063 ?_
      refine lv_if_eq (tgt := 1069) hx hb dL_law_1064 (by decide) (fun c14 => ?_) (fun c14 => ?_)
      · exact K1069 H locs ls (ht.trans (by first | (simp only [f_law_16, if_pos c10, if_pos c13, if_pos c14, hw2, hw6]; done) | (simp only [f_law_16, hw2, hw6]; simp only [if_pos c10, if_pos c13, if_pos c14]))) hP hS (lv_sub hl [2, 3, 4, 5, 6, 7] rfl)
      · refine lv_iconst (v := 0) hx hb dL_law_1067 (by decide) ?_
        exact absurd ((show f_law_16 N F x w v r t g fo fd = (0 : Int32) from ht.trans (by first | (simp only [f_law_16, if_pos c10, if_pos c13, if_neg c14, hw2, hw6]; done) | (simp only [f_law_16, hw2, hw6]; simp only [if_pos c10, if_pos c13, if_neg c14]))).symm.trans hT) (by decide)
  · refine lv_iconst (v := 0) hx hb dL_law_1050 (by decide) ?_
    exact absurd ((show f_law_16 N F x w v r t g fo fd = (0 : Int32) from ht.trans (by first | (simp only [f_law_16, if_neg c10, hw2, hw6]; done) | (simp only [f_law_16, hw2, hw6]; simp only [if_neg c10]))).symm.trans hT) (by decide)

def f_L_law_b1165 (N : Nat) (x : XS) (w : WS) (v : WS) (r : RS) (t : TS) (g : MS) (fo : (Nat → Int64)) (fd : (Nat → UInt64)) (F : XS → WS → WS → RS → TS → MS → (Nat → Int64) → (Nat → UInt64) → Int32) (p1 : Int32) (p2 : Int32) (p3 : Int32) : Int32 :=
  F x w v r t ((f_X4_window N g p1 p2 (if p3 = 0 then (0 : Int32) else (1 : Int32))).2) ((f_L_window N r fo p1 p2 (if p3 = 0 then (0 : Int32) else (1 : Int32))).2) fd

def f_law_17 (N : Nat) (F : XS → WS → WS → RS → TS → MS → (Nat → Int64) → (Nat → UInt64) → Int32) (x : XS) (w : WS) (v : WS) (r : RS) (t : TS) (g : MS) (fo : (Nat → Int64)) (fd : (Nat → UInt64)) (p1 : Int32) (p2 : Int32) (p3 : Int32) : Int32 :=
  if (f_X4_thrown ((f_X4_window N g p1 p2 (if p3 = 0 then (0 : Int32) else (1 : Int32))).2)) = (f_L_window N r fo p1 p2 (if p3 = 0 then (0 : Int32) else (1 : Int32))).1 then (if (f_L_window N r fo p1 p2 (if p3 = 0 then (0 : Int32) else (1 : Int32))).1 = 0 then (if (lg_cmp (((f_L_window N r fo p1 p2 (if p3 = 0 then (0 : Int32) else (1 : Int32))).2) (0 : Int32).toNatClampNeg) (f_X4_window N g p1 p2 (if p3 = 0 then (0 : Int32) else (1 : Int32))).1.toInt64) = 0 then (f_L_law_b1165 N x w v r t g fo fd F p1 p2 p3) else (0 : Int32)) else (f_L_law_b1165 N x w v r t g fo fd F p1 p2 p3)) else (0 : Int32)

def ok_law_17 (N : Nat) (r : RS) (g : MS) (p1 : Int32) (p2 : Int32) (p3 : Int32) : Prop :=
  (ok_L_window N r p1 p2 (if p3 = 0 then (0 : Int32) else (1 : Int32))) ∧ ((ok_X4_window N g p1 p2 (if p3 = 0 then (0 : Int32) else (1 : Int32))) ∧ True)

set_option maxRecDepth 100000 in
set_option maxHeartbeats 8000000 in
theorem c_law_17 {p : Program} {l : Launch} {e : Env} {s : State} {m : MethodId} {args : Array Value} {below : List Frame} {meth : Method} {c : Code} {H : Heap} {locs : List Loc} {cs ss : Nat} {Q : State → Prop} {D : va_G} {q : Nat → ClassId} {A : Nat → Prop} {b L : Nat} {xs : Nat → Int32} {ls : Array Slot} (h aw av ao ad : Nat) (kr kt km : Nat → Nat) (x : XS) (w : WS) (v : WS) (r : RS) (t : TS) (g : MS) (fo : (Nat → Int64)) (fd : (Nat → UInt64)) (p1 p2 p3 p4 p5 i : Int32) (N : Nat) (F : XS → WS → WS → RS → TS → MS → (Nat → Int64) → (Nat → UInt64) → Int32) (hstk : l.stackTraces = false) (fx : FX p s m args c RL code 9 D q) (hSX : SX s) (hSZ0 : SZ A s s.heap) (hX : va_X b L xs s s.heap) (hbl : b < s.heap.size) (hbA : ¬ A b) (hA : ∀ a, s.heap.size ≤ a → A a) (hD : ∀ (x : XS) (w : WS) (v : WS) (r : RS) (t : TS) (g : MS) (fo : (Nat → Int64)) (fd : (Nat → UInt64)), va_D A (cLaw h aw av kr kt km ao ad q x w v r t g fo fd)) (hv1 : vp_in (i + (1 : Int32)) L) (hp1 : xs (i + (1 : Int32)).toNatClampNeg = p1) (hv2 : vp_in (i + (2 : Int32)) L) (hp2 : xs (i + (2 : Int32)).toNatClampNeg = p2) (hv3 : vp_in (i + (3 : Int32)) L) (hp3 : xs (i + (3 : Int32)).toNatClampNeg = p3) (hv4 : vp_in (i + (4 : Int32)) L) (hp4 : xs (i + (4 : Int32)).toNatClampNeg = p4) (hv5 : vp_in (i + (5 : Int32)) L) (hp5 : xs (i + (5 : Int32)).toNatClampNeg = p5) (hcs : cs + 1 ≤ room_1.cells ∧ ss + 6 ≤ room_1.slots) (hok : ok_law_17 N r g p1 p2 p3) (hT : f_law_17 N F x w v r t g fo fd p1 p2 p3 = 1)
    (hrec : ∀ (x : XS) (w : WS) (v : WS) (r : RS) (t : TS) (g : MS) (fo : (Nat → Int64)) (fd : (Nat → UInt64)) (H : Heap) (locs : List Loc) (ls : Array Slot), F x w v r t g fo fd = 1 → va_P D vwCl (cLaw h aw av kr kt km ao ad q x w v r t g fo fd) H → va_S A s.heap H locs → lv_has ls 9 [(0, .ref b), (1, .ref h), (2, .ref (km 0)), (3, .ref ao), (4, .ref ad), (5, .int i)] → W p l e room_1 s m args below meth c H locs (cs + 1) (ss + 6) Q (F0 m 1402 ls []))
    (hP : va_P D vwCl (cLaw h aw av kr kt km ao ad q x w v r t g fo fd) H) (hS : va_S A s.heap H locs) (hl : lv_has ls 9 [(0, .ref b), (1, .ref h), (2, .ref (km 0)), (3, .ref ao), (4, .ref ad), (5, .int i)]) : W p l e room_1 s m args below meth c H locs cs ss Q (F0 m 1072 ls []) := by
  have hx := fx.1
  have hb := fx.2.1
  have ht : f_law_17 N F x w v r t g fo fd p1 p2 p3 = f_law_17 N F x w v r t g fo fd p1 p2 p3 := rfl
  simp only [ok_law_17] at hok
  refine lv_aload_n hx hb dL_law_1072 rfl (lv_at hl 1 rfl) ?_
  refine lv_aload_n hx hb dL_law_1073 rfl (lv_at hl 0 rfl) ?_
  refine lv_iload hx hb dL_law_1074 (lv_at hl 5 rfl) ?_
  refine lv_iconst (v := 1) hx hb dL_law_1076 (by decide) ?_
  refine lv_iadd hx hb dL_law_1077 ?_
  refine sld hx hb hX hbl hbA hS hv1 hp1 dL_law_1078 ?_
  refine lv_aload_n hx hb dL_law_1079 rfl (lv_at hl 0 rfl) ?_
  refine lv_iload hx hb dL_law_1080 (lv_at hl 5 rfl) ?_
  refine lv_iconst (v := 2) hx hb dL_law_1082 (by decide) ?_
  refine lv_iadd hx hb dL_law_1083 ?_
  refine sld hx hb hX hbl hbA hS hv2 hp2 dL_law_1084 ?_
  refine lv_aload_n hx hb dL_law_1085 rfl (lv_at hl 0 rfl) ?_
  refine lv_iload hx hb dL_law_1086 (lv_at hl 5 rfl) ?_
  refine lv_iconst (v := 3) hx hb dL_law_1088 (by decide) ?_
  refine lv_iadd hx hb dL_law_1089 ?_
  refine sld hx hb hX hbl hbA hS hv3 hp3 dL_law_1090 ?_
  suffices K : ∀ (v2 : Int32), ∀ (H : Heap) (locs : List Loc) (ls : Array Slot), v2 = (if p3 = 0 then (0 : Int32) else (1 : Int32)) → va_P D vwCl (cLaw h aw av kr kt km ao ad q x w v r t g fo fd) H → va_S A s.heap H locs → lv_has ls 9 [(0, .ref b), (1, .ref h), (2, .ref (km 0)), (3, .ref ao), (4, .ref ad), (5, .int i)] → W p l e room_1 s m args below meth c H locs cs ss Q (F0 m 1099 ls [.int v2, .int p2, .int p1, .ref h]) by
    refine lv_if_eq (tgt := 1098) hx hb dL_law_1091 (by decide) (fun c1 => ?_) (fun c1 => ?_)
    · refine lv_iconst (v := 0) hx hb dL_law_1098 (by decide) ?_
      exact K (0 : Int32) H locs ls (by simp only [if_pos c1]) hP hS (lv_sub hl [0, 1, 2, 3, 4, 5] rfl)
    · refine lv_iconst (v := 1) hx hb dL_law_1094 (by decide) ?_
      refine lv_goto (tgt := 1099) hx hb dL_law_1095 (by decide) ?_
      exact K (1 : Int32) H locs ls (by simp only [if_neg c1]) hP hS (lv_sub hl [0, 1, 2, 3, 4, 5] rfl)
  intro v2 H locs ls hvv2 hP hS hl
  subst hvv2
  refine lv_aload_n hx hb dL_law_1099 rfl (lv_at hl 3 rfl) ?_
  obtain ⟨hk3, hok⟩ := hok
  refine kW1_i (wrun fx hSX (SZ.kept hSZ0 hS.2.1) (As := [.ref h, .int p1, .int p2, .int (if p3 = 0 then (0 : Int32) else (1 : Int32)), .ref ao]) (rest := []) (c_L_window l D q H.size h aw av kr kt ao x w v r t fo p1 p2 (if p3 = 0 then (0 : Int32) else (1 : Int32)) N hk3 hstk) lk_L_152 ⟨Nat.le_of_ble_eq_true rfl, Nat.le_of_ble_eq_true rfl⟩ ⟨rfl, rfl⟩ hP (hD _ _ _ _ _ _ _ _) hS hA [0, 1, 2, 3, 4, 5, 6, 7, 8, 9, 10, 11, 12, 13, 25] rfl rfl rfl hl.1 rfl (Nat.le_of_ble_eq_true rfl) dL_law_1100 hcs) hP (hD _ _ _ _ _ _ _ _) hS hA [0, 1, 2, 3, 4, 5, 6, 7, 8, 9, 10, 11, 12, 13, 25] rfl (fun _ => rfl) (fun r6 u4 H locs hw5 hP hS => ?_)
  have hP : va_P D vwCl (cLaw h aw av kr kt km ao ad q x w v r t g u4 fd) H := hP
  try simp only [hw5] at hok
  refine lv_istore (lv' := [(6, .int r6), (0, .ref b), (1, .ref h), (2, .ref (km 0)), (3, .ref ao), (4, .ref ad), (5, .int i)]) hx hb dL_law_1103 hl (by decide) rfl (fun ls hl => ?_)
  refine lv_aload_n hx hb dL_law_1105 rfl (lv_at hl 3 rfl) ?_
  refine lv_aload_n hx hb dL_law_1106 rfl (lv_at hl 1 rfl) ?_
  refine lv_iload hx hb dL_law_1107 (lv_at hl 6 rfl) ?_
  refine lv_iconst (v := 1) hx hb dL_law_1109 (by decide) ?_
  refine lv_iadd hx hb dL_law_1110 ?_
  refine sld hx hb hX hbl hbA hS hv1 hp1 dL_law_1111 ?_
  refine lv_aload_n hx hb dL_law_1112 rfl (lv_at hl 1 rfl) ?_
  refine lv_iload hx hb dL_law_1113 (lv_at hl 6 rfl) ?_
  refine lv_iconst (v := 2) hx hb dL_law_1115 (by decide) ?_
  refine lv_iadd hx hb dL_law_1116 ?_
  refine sld hx hb hX hbl hbA hS hv2 hp2 dL_law_1117 ?_
  refine lv_aload_n hx hb dL_law_1118 rfl (lv_at hl 1 rfl) ?_
  refine lv_iload hx hb dL_law_1119 (lv_at hl 6 rfl) ?_
  refine lv_iconst (v := 3) hx hb dL_law_1121 (by decide) ?_
  refine lv_iadd hx hb dL_law_1122 ?_
  refine sld hx hb hX hbl hbA hS hv3 hp3 dL_law_1123 ?_
  suffices K : ∀ (v8 : Int32), ∀ (H : Heap) (locs : List Loc) (ls : Array Slot), v8 = (if p3 = 0 then (0 : Int32) else (1 : Int32)) → va_P D vwCl (cLaw h aw av kr kt km ao ad q x w v r t g u4 fd) H → va_S A s.heap H locs → lv_has ls 9 [(0, .ref b), (1, .ref h), (2, .ref (km 0)), (3, .ref ao), (4, .ref ad), (5, .int i), (6, .int r6)] → W p l e room_1 s m args below meth c H locs (cs + 1) (ss + 6) Q (F0 m 1132 ls [.int v8, .int p2, .int p1, .ref (km 0)]) by
    refine lv_if_eq (tgt := 1131) hx hb dL_law_1124 (by decide) (fun c7 => ?_) (fun c7 => ?_)
    · refine lv_iconst (v := 0) hx hb dL_law_1131 (by decide) ?_
      exact K (0 : Int32) H locs ls (by simp only [if_pos c7, hw5]) hP hS (lv_sub hl [1, 2, 3, 4, 5, 6, 0] rfl)
    · refine lv_iconst (v := 1) hx hb dL_law_1127 (by decide) ?_
      refine lv_goto (tgt := 1132) hx hb dL_law_1128 (by decide) ?_
      exact K (1 : Int32) H locs ls (by simp only [if_neg c7, hw5]) hP hS (lv_sub hl [1, 2, 3, 4, 5, 6, 0] rfl)
  intro v8 H locs ls hvv8 hP hS hl
  subst hvv8
  obtain ⟨hk9, hok⟩ := hok
  refine kW_i (runV fx (As := [.int p1, .int p2, .int (if p3 = 0 then (0 : Int32) else (1 : Int32))]) (rest := []) (c_X4_window l D q H.size km g p1 p2 (if p3 = 0 then (0 : Int32) else (1 : Int32)) N hk9) lk_L_155 ⟨Nat.le_of_ble_eq_true rfl, Nat.le_of_ble_eq_true rfl⟩ ⟨rfl, rfl⟩ hP (hD _ _ _ _ _ _ _ _) [14, 15, 16, 17, 18, 19, 20, 21, 22, 23, 24] rfl rfl (ci := 4) rfl rfl rfl hl.1 rfl (Nat.le_of_ble_eq_true rfl) dL_law_1132 ⟨by have := hcs.1; omega, by have := hcs.2; omega⟩) hP (hD _ _ _ _ _ _ _ _) hS hA [14, 15, 16, 17, 18, 19, 20, 21, 22, 23, 24] rfl (fun _ => rfl) (fun r12 u10 H locs hw11 hP hS => ?_)
  have hP : va_P D vwCl (cLaw h aw av kr kt km ao ad q x w v r t u10 u4 fd) H := hP
  try simp only [hw11] at hok
  refine lv_istore (lv' := [(7, .int r12), (0, .ref b), (1, .ref h), (2, .ref (km 0)), (3, .ref ao), (4, .ref ad), (5, .int i), (6, .int r6)]) hx hb dL_law_1135 hl (by decide) rfl (fun ls hl => ?_)
  refine lv_aload_n hx hb dL_law_1137 rfl (lv_at hl 3 rfl) ?_
  refine kR_i (runV fx (As := []) (rest := []) (c_X4_thrown l D q H.size km u10) lk_L_94 ⟨Nat.le_of_ble_eq_true rfl, Nat.le_of_ble_eq_true rfl⟩ ⟨rfl, rfl⟩ hP (hD _ _ _ _ _ _ _ _) [14, 15, 16, 17, 18, 19, 20, 21, 22, 23, 24] rfl rfl (ci := 4) rfl rfl rfl hl.1 rfl (Nat.le_of_ble_eq_true rfl) dL_law_1138 ⟨by have := hcs.1; omega, by have := hcs.2; omega⟩) hP hS (fun r13 _ H locs hr14 hP hS => ?_)
  subst hr14
  refine lv_iload hx hb dL_law_1141 (lv_at hl 7 rfl) ?_
  refine lv_icmp_eq (tgt := 1148) hx hb dL_law_1143 (by decide) (fun c15 => ?_) (fun c15 => ?_)
  · refine lv_iload hx hb dL_law_1148 (lv_at hl 7 rfl) ?_
    have K1165 : ∀ (H : Heap) (locs : List Loc) (ls : Array Slot), f_law_17 N F x w v r t g fo fd p1 p2 p3 = f_L_law_b1165 N x w v r t g fo fd F p1 p2 p3 → va_P D vwCl (cLaw h aw av kr kt km ao ad q x w v r t u10 u4 fd) H → va_S A s.heap H locs → lv_has ls 9 [(0, .ref b), (1, .ref h), (2, .ref (km 0)), (3, .ref ao), (4, .ref ad), (5, .int i)] → W p l e room_1 s m args below meth c H locs (cs + 1) (ss + 6) Q (F0 m 1165 ls []) := by
      intro H locs ls ht hP hS hl
      refine lv_goto (tgt := 1402) hx hb dL_law_1165 (by decide) ?_
      exact hrec x w v r t u10 u4 fd H locs ls ((show f_law_17 N F x w v r t g fo fd p1 p2 p3 = F x w v r t u10 u4 fd from ht.trans (by simp only [f_L_law_b1165, hw5, hw11])).symm.trans hT) hP hS (lv_sub hl [0, 1, 2, 3, 4, 5] rfl)
    refine lv_if_ne (tgt := 1165) hx hb dL_law_1150 (by decide) (fun c18 => ?_) (fun c18 => ?_)
    · exact K1165 H locs ls (ht.trans (by first | (simp only [f_law_17, if_pos c15, if_neg c18, hw5, hw11]; done) | (simp only [f_law_17, hw5, hw11]; simp only [if_pos c15, if_neg c18]))) hP hS (lv_sub hl [1, 2, 3, 4, 5, 6] rfl)
    · refine lv_aload_n hx hb dL_law_1153 rfl (lv_at hl 4 rfl) ?_
      refine lv_iconst (v := 0) hx hb dL_law_1154 (by decide) ?_
      refine va_lald hx hb fx.2.2.2.2.2.1 hP 25 2 (f := u4) rfl rfl (by unfold vp_in; decide) dL_law_1155 ?_
      refine lv_iload hx hb dL_law_1156 (lv_at hl 0 rfl) ?_
      refine lv_i2l (v := r12.toInt64) hx hb dL_law_1158 rfl ?_
      refine W.lcmp hx hb dL_law_1159 ?_
      refine lv_if_eq (tgt := 1165) hx hb dL_law_1160 (by decide) (fun c19 => ?_) (fun c19 => ?_)
      · exact K1165 H locs ls (ht.trans (by first | (simp only [f_law_17, if_pos c15, if_pos c18, if_pos c19, hw5, hw11]; done) | (simp only [f_law_17, hw5, hw11]; simp only [if_pos c15, if_pos c18, if_pos c19]))) hP hS (lv_sub hl [1, 2, 3, 4, 5, 6] rfl)
      · refine lv_iconst (v := 0) hx hb dL_law_1163 (by decide) ?_
        exact absurd ((show f_law_17 N F x w v r t g fo fd p1 p2 p3 = (0 : Int32) from ht.trans (by first | (simp only [f_law_17, if_pos c15, if_pos c18, if_neg c19, hw5, hw11]; done) | (simp only [f_law_17, hw5, hw11]; simp only [if_pos c15, if_pos c18, if_neg c19]))).symm.trans hT) (by decide)
  · refine lv_iconst (v := 0) hx hb dL_law_1146 (by decide) ?_
    exact absurd ((show f_law_17 N F x w v r t g fo fd p1 p2 p3 = (0 : Int32) from ht.trans (by first | (simp only [f_law_17, if_neg c15, hw5, hw11]; done) | (simp only [f_law_17, hw5, hw11]; simp only [if_neg c15]))).symm.trans hT) (by decide)

def f_L_law_b1221 (N : Nat) (x : XS) (w : WS) (v : WS) (r : RS) (t : TS) (g : MS) (fo : (Nat → Int64)) (fd : (Nat → UInt64)) (F : XS → WS → WS → RS → TS → MS → (Nat → Int64) → (Nat → UInt64) → Int32) (p1 : Int32) : Int32 :=
  F x w v r t ((f_X4_casings N g p1).2) ((f_L_casings N r fo p1).2) fd

def f_law_18 (N : Nat) (F : XS → WS → WS → RS → TS → MS → (Nat → Int64) → (Nat → UInt64) → Int32) (x : XS) (w : WS) (v : WS) (r : RS) (t : TS) (g : MS) (fo : (Nat → Int64)) (fd : (Nat → UInt64)) (p1 : Int32) : Int32 :=
  if (f_X4_thrown ((f_X4_casings N g p1).2)) = (f_L_casings N r fo p1).1 then (if (f_L_casings N r fo p1).1 = 0 then (if (lg_cmp (((f_L_casings N r fo p1).2) (0 : Int32).toNatClampNeg) (f_X4_casings N g p1).1.toInt64) = 0 then (f_L_law_b1221 N x w v r t g fo fd F p1) else (0 : Int32)) else (f_L_law_b1221 N x w v r t g fo fd F p1)) else (0 : Int32)

def ok_law_18 (N : Nat) (r : RS) (g : MS) (p1 : Int32) : Prop :=
  (ok_L_casings N r p1) ∧ ((ok_X4_casings N g p1) ∧ True)

set_option maxRecDepth 100000 in
set_option maxHeartbeats 8000000 in
theorem c_law_18 {p : Program} {l : Launch} {e : Env} {s : State} {m : MethodId} {args : Array Value} {below : List Frame} {meth : Method} {c : Code} {H : Heap} {locs : List Loc} {cs ss : Nat} {Q : State → Prop} {D : va_G} {q : Nat → ClassId} {A : Nat → Prop} {b L : Nat} {xs : Nat → Int32} {ls : Array Slot} (h aw av ao ad : Nat) (kr kt km : Nat → Nat) (x : XS) (w : WS) (v : WS) (r : RS) (t : TS) (g : MS) (fo : (Nat → Int64)) (fd : (Nat → UInt64)) (p1 p2 p3 p4 p5 i : Int32) (N : Nat) (F : XS → WS → WS → RS → TS → MS → (Nat → Int64) → (Nat → UInt64) → Int32) (hstk : l.stackTraces = false) (fx : FX p s m args c RL code 9 D q) (hSX : SX s) (hSZ0 : SZ A s s.heap) (hX : va_X b L xs s s.heap) (hbl : b < s.heap.size) (hbA : ¬ A b) (hA : ∀ a, s.heap.size ≤ a → A a) (hD : ∀ (x : XS) (w : WS) (v : WS) (r : RS) (t : TS) (g : MS) (fo : (Nat → Int64)) (fd : (Nat → UInt64)), va_D A (cLaw h aw av kr kt km ao ad q x w v r t g fo fd)) (hv1 : vp_in (i + (1 : Int32)) L) (hp1 : xs (i + (1 : Int32)).toNatClampNeg = p1) (hv2 : vp_in (i + (2 : Int32)) L) (hp2 : xs (i + (2 : Int32)).toNatClampNeg = p2) (hv3 : vp_in (i + (3 : Int32)) L) (hp3 : xs (i + (3 : Int32)).toNatClampNeg = p3) (hv4 : vp_in (i + (4 : Int32)) L) (hp4 : xs (i + (4 : Int32)).toNatClampNeg = p4) (hv5 : vp_in (i + (5 : Int32)) L) (hp5 : xs (i + (5 : Int32)).toNatClampNeg = p5) (hcs : cs + 1 ≤ room_1.cells ∧ ss + 6 ≤ room_1.slots) (hok : ok_law_18 N r g p1) (hT : f_law_18 N F x w v r t g fo fd p1 = 1)
    (hrec : ∀ (x : XS) (w : WS) (v : WS) (r : RS) (t : TS) (g : MS) (fo : (Nat → Int64)) (fd : (Nat → UInt64)) (H : Heap) (locs : List Loc) (ls : Array Slot), F x w v r t g fo fd = 1 → va_P D vwCl (cLaw h aw av kr kt km ao ad q x w v r t g fo fd) H → va_S A s.heap H locs → lv_has ls 9 [(0, .ref b), (1, .ref h), (2, .ref (km 0)), (3, .ref ao), (4, .ref ad), (5, .int i)] → W p l e room_1 s m args below meth c H locs (cs + 1) (ss + 6) Q (F0 m 1402 ls []))
    (hP : va_P D vwCl (cLaw h aw av kr kt km ao ad q x w v r t g fo fd) H) (hS : va_S A s.heap H locs) (hl : lv_has ls 9 [(0, .ref b), (1, .ref h), (2, .ref (km 0)), (3, .ref ao), (4, .ref ad), (5, .int i)]) : W p l e room_1 s m args below meth c H locs cs ss Q (F0 m 1168 ls []) := by
  have hx := fx.1
  have hb := fx.2.1
  have ht : f_law_18 N F x w v r t g fo fd p1 = f_law_18 N F x w v r t g fo fd p1 := rfl
  simp only [ok_law_18] at hok
  refine lv_aload_n hx hb dL_law_1168 rfl (lv_at hl 1 rfl) ?_
  refine lv_aload_n hx hb dL_law_1169 rfl (lv_at hl 0 rfl) ?_
  refine lv_iload hx hb dL_law_1170 (lv_at hl 5 rfl) ?_
  refine lv_iconst (v := 1) hx hb dL_law_1172 (by decide) ?_
  refine lv_iadd hx hb dL_law_1173 ?_
  refine sld hx hb hX hbl hbA hS hv1 hp1 dL_law_1174 ?_
  refine lv_aload_n hx hb dL_law_1175 rfl (lv_at hl 3 rfl) ?_
  obtain ⟨hk1, hok⟩ := hok
  refine kW1_i (wrun fx hSX (SZ.kept hSZ0 hS.2.1) (As := [.ref h, .int p1, .ref ao]) (rest := []) (c_L_casings l D q H.size h aw av kr kt ao x w v r t fo p1 N hk1 hstk) lk_L_156 ⟨Nat.le_of_ble_eq_true rfl, Nat.le_of_ble_eq_true rfl⟩ ⟨rfl, rfl⟩ hP (hD _ _ _ _ _ _ _ _) hS hA [0, 1, 2, 3, 4, 5, 6, 7, 8, 9, 10, 11, 12, 13, 25] rfl rfl rfl hl.1 rfl (Nat.le_of_ble_eq_true rfl) dL_law_1176 hcs) hP (hD _ _ _ _ _ _ _ _) hS hA [0, 1, 2, 3, 4, 5, 6, 7, 8, 9, 10, 11, 12, 13, 25] rfl (fun _ => rfl) (fun r4 u2 H locs hw3 hP hS => ?_)
  have hP : va_P D vwCl (cLaw h aw av kr kt km ao ad q x w v r t g u2 fd) H := hP
  try simp only [hw3] at hok
  refine lv_istore (lv' := [(6, .int r4), (0, .ref b), (1, .ref h), (2, .ref (km 0)), (3, .ref ao), (4, .ref ad), (5, .int i)]) hx hb dL_law_1179 hl (by decide) rfl (fun ls hl => ?_)
  refine lv_aload_n hx hb dL_law_1181 rfl (lv_at hl 3 rfl) ?_
  refine lv_aload_n hx hb dL_law_1182 rfl (lv_at hl 1 rfl) ?_
  refine lv_iload hx hb dL_law_1183 (lv_at hl 6 rfl) ?_
  refine lv_iconst (v := 1) hx hb dL_law_1185 (by decide) ?_
  refine lv_iadd hx hb dL_law_1186 ?_
  refine sld hx hb hX hbl hbA hS hv1 hp1 dL_law_1187 ?_
  obtain ⟨hk5, hok⟩ := hok
  refine kW_i (runV fx (As := [.int p1]) (rest := []) (c_X4_casings l D q H.size km g p1 N hk5) lk_L_158 ⟨Nat.le_of_ble_eq_true rfl, Nat.le_of_ble_eq_true rfl⟩ ⟨rfl, rfl⟩ hP (hD _ _ _ _ _ _ _ _) [14, 15, 16, 17, 18, 19, 20, 21, 22, 23, 24] rfl rfl (ci := 4) rfl rfl rfl hl.1 rfl (Nat.le_of_ble_eq_true rfl) dL_law_1188 ⟨by have := hcs.1; omega, by have := hcs.2; omega⟩) hP (hD _ _ _ _ _ _ _ _) hS hA [14, 15, 16, 17, 18, 19, 20, 21, 22, 23, 24] rfl (fun _ => rfl) (fun r8 u6 H locs hw7 hP hS => ?_)
  have hP : va_P D vwCl (cLaw h aw av kr kt km ao ad q x w v r t u6 u2 fd) H := hP
  try simp only [hw7] at hok
  refine lv_istore (lv' := [(7, .int r8), (6, .int r4), (0, .ref b), (1, .ref h), (2, .ref (km 0)), (3, .ref ao), (4, .ref ad), (5, .int i)]) hx hb dL_law_1191 hl (by decide) rfl (fun ls hl => ?_)
  refine lv_aload_n hx hb dL_law_1193 rfl (lv_at hl 4 rfl) ?_
  refine kR_i (runV fx (As := []) (rest := []) (c_X4_thrown l D q H.size km u6) lk_L_94 ⟨Nat.le_of_ble_eq_true rfl, Nat.le_of_ble_eq_true rfl⟩ ⟨rfl, rfl⟩ hP (hD _ _ _ _ _ _ _ _) [14, 15, 16, 17, 18, 19, 20, 21, 22, 23, 24] rfl rfl (ci := 4) rfl rfl rfl hl.1 rfl (Nat.le_of_ble_eq_true rfl) dL_law_1194 ⟨by have := hcs.1; omega, by have := hcs.2; omega⟩) hP hS (fun r9 _ H locs hr10 hP hS => ?_)
  subst hr10
  refine lv_iload hx hb dL_law_1197 (lv_at hl 1 rfl) ?_
  refine lv_icmp_eq (tgt := 1204) hx hb dL_law_1199 (by decide) (fun c11 => ?_) (fun c11 => ?_)
  · refine lv_iload hx hb dL_law_1204 (lv_at hl 1 rfl) ?_
    have K1221 : ∀ (H : Heap) (locs : List Loc) (ls : Array Slot), f_law_18 N F x w v r t g fo fd p1 = f_L_law_b1221 N x w v r t g fo fd F p1 → va_P D vwCl (cLaw h aw av kr kt km ao ad q x w v r t u6 u2 fd) H → va_S A s.heap H locs → lv_has ls 9 [(0, .ref b), (1, .ref h), (2, .ref (km 0)), (3, .ref ao), (4, .ref ad), (5, .int i)] → W p l e room_1 s m args below meth c H locs (cs + 1) (ss + 6) Q (F0 m 1221 ls []) := by
      intro H locs ls ht hP hS hl
      refine lv_goto (tgt := 1402) hx hb dL_law_1221 (by decide) ?_
      exact hrec x w v r t u6 u2 fd H locs ls ((show f_law_18 N F x w v r t g fo fd p1 = F x w v r t u6 u2 fd from ht.trans (by simp only [f_L_law_b1221, hw3, hw7])).symm.trans hT) hP hS (lv_sub hl [0, 1, 2, 3, 4, 5] rfl)
    refine lv_if_ne (tgt := 1221) hx hb dL_law_1206 (by decide) (fun c14 => ?_) (fun c14 => ?_)
    · exact K1221 H locs ls (ht.trans (by first | (simp only [f_law_18, if_pos c11, if_neg c14, hw3, hw7]; done) | (simp only [f_law_18, hw3, hw7]; simp only [if_pos c11, if_neg c14]))) hP hS (lv_sub hl [2, 3, 4, 5, 6, 7] rfl)
    · refine lv_aload_n hx hb dL_law_1209 rfl (lv_at hl 5 rfl) ?_
      refine lv_iconst (v := 0) hx hb dL_law_1210 (by decide) ?_
      refine va_lald hx hb fx.2.2.2.2.2.1 hP 25 2 (f := u2) rfl rfl (by unfold vp_in; decide) dL_law_1211 ?_
      refine lv_iload hx hb dL_law_1212 (lv_at hl 0 rfl) ?_
      refine lv_i2l (v := r8.toInt64) hx hb dL_law_1214 rfl ?_
      refine W.lcmp hx hb dL_law_1215 ?_
      refine lv_if_eq (tgt := 1221) hx hb dL_law_1216 (by decide) (fun c15 => ?_) (fun c15 => ?_)
      · exact K1221 H locs ls (ht.trans (by first | (simp only [f_law_18, if_pos c11, if_pos c14, if_pos c15, hw3, hw7]; done) | (simp only [f_law_18, hw3, hw7]; simp only [if_pos c11, if_pos c14, if_pos c15]))) hP hS (lv_sub hl [2, 3, 4, 5, 6, 7] rfl)
      · refine lv_iconst (v := 0) hx hb dL_law_1219 (by decide) ?_
        exact absurd ((show f_law_18 N F x w v r t g fo fd p1 = (0 : Int32) from ht.trans (by first | (simp only [f_law_18, if_pos c11, if_pos c14, if_neg c15, hw3, hw7]; done) | (simp only [f_law_18, hw3, hw7]; simp only [if_pos c11, if_pos c14, if_neg c15]))).symm.trans hT) (by decide)
  · refine lv_iconst (v := 0) hx hb dL_law_1202 (by decide) ?_
    exact absurd ((show f_law_18 N F x w v r t g fo fd p1 = (0 : Int32) from ht.trans (by first | (simp only [f_law_18, if_neg c11, hw3, hw7]; done) | (simp only [f_law_18, hw3, hw7]; simp only [if_neg c11]))).symm.trans hT) (by decide)

def f_L_law_b1277 (N : Nat) (x : XS) (w : WS) (v : WS) (r : RS) (t : TS) (g : MS) (fo : (Nat → Int64)) (fd : (Nat → UInt64)) (F : XS → WS → WS → RS → TS → MS → (Nat → Int64) → (Nat → UInt64) → Int32) (p1 : Int32) : Int32 :=
  F x w v ((f_L_casingsAnew N r fo p1).2).1 t ((f_X4_casingsAnew N g p1).2) ((f_L_casingsAnew N r fo p1).2).2 fd

def f_law_19 (N : Nat) (F : XS → WS → WS → RS → TS → MS → (Nat → Int64) → (Nat → UInt64) → Int32) (x : XS) (w : WS) (v : WS) (r : RS) (t : TS) (g : MS) (fo : (Nat → Int64)) (fd : (Nat → UInt64)) (p1 : Int32) : Int32 :=
  if (f_X4_thrown ((f_X4_casingsAnew N g p1).2)) = (f_L_casingsAnew N r fo p1).1 then (if (f_L_casingsAnew N r fo p1).1 = 0 then (if (lg_cmp (((f_L_casingsAnew N r fo p1).2).2 (0 : Int32).toNatClampNeg) (f_X4_casingsAnew N g p1).1.toInt64) = 0 then (f_L_law_b1277 N x w v r t g fo fd F p1) else (0 : Int32)) else (f_L_law_b1277 N x w v r t g fo fd F p1)) else (0 : Int32)

def ok_law_19 (N : Nat) (r : RS) (g : MS) (p1 : Int32) : Prop :=
  (ok_L_casingsAnew N r p1) ∧ ((ok_X4_casingsAnew N g p1) ∧ True)

set_option maxRecDepth 100000 in
set_option maxHeartbeats 8000000 in
theorem c_law_19 {p : Program} {l : Launch} {e : Env} {s : State} {m : MethodId} {args : Array Value} {below : List Frame} {meth : Method} {c : Code} {H : Heap} {locs : List Loc} {cs ss : Nat} {Q : State → Prop} {D : va_G} {q : Nat → ClassId} {A : Nat → Prop} {b L : Nat} {xs : Nat → Int32} {ls : Array Slot} (h aw av ao ad : Nat) (kr kt km : Nat → Nat) (x : XS) (w : WS) (v : WS) (r : RS) (t : TS) (g : MS) (fo : (Nat → Int64)) (fd : (Nat → UInt64)) (p1 p2 p3 p4 p5 i : Int32) (N : Nat) (F : XS → WS → WS → RS → TS → MS → (Nat → Int64) → (Nat → UInt64) → Int32) (hstk : l.stackTraces = false) (fx : FX p s m args c RL code 9 D q) (hSX : SX s) (hSZ0 : SZ A s s.heap) (hX : va_X b L xs s s.heap) (hbl : b < s.heap.size) (hbA : ¬ A b) (hA : ∀ a, s.heap.size ≤ a → A a) (hD : ∀ (x : XS) (w : WS) (v : WS) (r : RS) (t : TS) (g : MS) (fo : (Nat → Int64)) (fd : (Nat → UInt64)), va_D A (cLaw h aw av kr kt km ao ad q x w v r t g fo fd)) (hv1 : vp_in (i + (1 : Int32)) L) (hp1 : xs (i + (1 : Int32)).toNatClampNeg = p1) (hv2 : vp_in (i + (2 : Int32)) L) (hp2 : xs (i + (2 : Int32)).toNatClampNeg = p2) (hv3 : vp_in (i + (3 : Int32)) L) (hp3 : xs (i + (3 : Int32)).toNatClampNeg = p3) (hv4 : vp_in (i + (4 : Int32)) L) (hp4 : xs (i + (4 : Int32)).toNatClampNeg = p4) (hv5 : vp_in (i + (5 : Int32)) L) (hp5 : xs (i + (5 : Int32)).toNatClampNeg = p5) (hcs : cs + 1 ≤ room_1.cells ∧ ss + 6 ≤ room_1.slots) (hok : ok_law_19 N r g p1) (hT : f_law_19 N F x w v r t g fo fd p1 = 1)
    (hrec : ∀ (x : XS) (w : WS) (v : WS) (r : RS) (t : TS) (g : MS) (fo : (Nat → Int64)) (fd : (Nat → UInt64)) (H : Heap) (locs : List Loc) (ls : Array Slot), F x w v r t g fo fd = 1 → va_P D vwCl (cLaw h aw av kr kt km ao ad q x w v r t g fo fd) H → va_S A s.heap H locs → lv_has ls 9 [(0, .ref b), (1, .ref h), (2, .ref (km 0)), (3, .ref ao), (4, .ref ad), (5, .int i)] → W p l e room_1 s m args below meth c H locs (cs + 1) (ss + 6) Q (F0 m 1402 ls []))
    (hP : va_P D vwCl (cLaw h aw av kr kt km ao ad q x w v r t g fo fd) H) (hS : va_S A s.heap H locs) (hl : lv_has ls 9 [(0, .ref b), (1, .ref h), (2, .ref (km 0)), (3, .ref ao), (4, .ref ad), (5, .int i)]) : W p l e room_1 s m args below meth c H locs cs ss Q (F0 m 1224 ls []) := by
  have hx := fx.1
  have hb := fx.2.1
  have ht : f_law_19 N F x w v r t g fo fd p1 = f_law_19 N F x w v r t g fo fd p1 := rfl
  simp only [ok_law_19] at hok
  refine lv_aload_n hx hb dL_law_1224 rfl (lv_at hl 1 rfl) ?_
  refine lv_aload_n hx hb dL_law_1225 rfl (lv_at hl 0 rfl) ?_
  refine lv_iload hx hb dL_law_1226 (lv_at hl 5 rfl) ?_
  refine lv_iconst (v := 1) hx hb dL_law_1228 (by decide) ?_
  refine lv_iadd hx hb dL_law_1229 ?_
  refine sld hx hb hX hbl hbA hS hv1 hp1 dL_law_1230 ?_
  refine lv_aload_n hx hb dL_law_1231 rfl (lv_at hl 3 rfl) ?_
  obtain ⟨hk1, hok⟩ := hok
  refine kW1_i (wrun fx hSX (SZ.kept hSZ0 hS.2.1) (As := [.ref h, .int p1, .ref ao]) (rest := []) (c_L_casingsAnew l D q H.size h aw av kr kt ao x w v r t fo p1 N hk1 hstk) lk_L_159 ⟨Nat.le_of_ble_eq_true rfl, Nat.le_of_ble_eq_true rfl⟩ ⟨rfl, rfl⟩ hP (hD _ _ _ _ _ _ _ _) hS hA [0, 1, 2, 3, 4, 5, 6, 7, 8, 9, 10, 11, 12, 13, 25] rfl rfl rfl hl.1 rfl (Nat.le_of_ble_eq_true rfl) dL_law_1232 hcs) hP (hD _ _ _ _ _ _ _ _) hS hA [0, 1, 2, 3, 4, 5, 6, 7, 8, 9, 10, 11, 12, 13, 25] rfl (fun _ => rfl) (fun r4 u2 H locs hw3 hP hS => ?_)
  have hP : va_P D vwCl (cLaw h aw av kr kt km ao ad q x w v u2.1 t g u2.2 fd) H := hP
  try simp only [hw3] at hok
  refine lv_istore (lv' := [(6, .int r4), (0, .ref b), (1, .ref h), (2, .ref (km 0)), (3, .ref ao), (4, .ref ad), (5, .int i)]) hx hb dL_law_1235 hl (by decide) rfl (fun ls hl => ?_)
  refine lv_aload_n hx hb dL_law_1237 rfl (lv_at hl 3 rfl) ?_
  refine lv_aload_n hx hb dL_law_1238 rfl (lv_at hl 1 rfl) ?_
  refine lv_iload hx hb dL_law_1239 (lv_at hl 6 rfl) ?_
  refine lv_iconst (v := 1) hx hb dL_law_1241 (by decide) ?_
  refine lv_iadd hx hb dL_law_1242 ?_
  refine sld hx hb hX hbl hbA hS hv1 hp1 dL_law_1243 ?_
  obtain ⟨hk5, hok⟩ := hok
  refine kW_i (runV fx (As := [.int p1]) (rest := []) (c_X4_casingsAnew l D q H.size km g p1 N hk5) lk_L_161 ⟨Nat.le_of_ble_eq_true rfl, Nat.le_of_ble_eq_true rfl⟩ ⟨rfl, rfl⟩ hP (hD _ _ _ _ _ _ _ _) [14, 15, 16, 17, 18, 19, 20, 21, 22, 23, 24] rfl rfl (ci := 4) rfl rfl rfl hl.1 rfl (Nat.le_of_ble_eq_true rfl) dL_law_1244 ⟨by have := hcs.1; omega, by have := hcs.2; omega⟩) hP (hD _ _ _ _ _ _ _ _) hS hA [14, 15, 16, 17, 18, 19, 20, 21, 22, 23, 24] rfl (fun _ => rfl) (fun r8 u6 H locs hw7 hP hS => ?_)
  have hP : va_P D vwCl (cLaw h aw av kr kt km ao ad q x w v u2.1 t u6 u2.2 fd) H := hP
  try simp only [hw7] at hok
  refine lv_istore (lv' := [(7, .int r8), (6, .int r4), (0, .ref b), (1, .ref h), (2, .ref (km 0)), (3, .ref ao), (4, .ref ad), (5, .int i)]) hx hb dL_law_1247 hl (by decide) rfl (fun ls hl => ?_)
  refine lv_aload_n hx hb dL_law_1249 rfl (lv_at hl 4 rfl) ?_
  refine kR_i (runV fx (As := []) (rest := []) (c_X4_thrown l D q H.size km u6) lk_L_94 ⟨Nat.le_of_ble_eq_true rfl, Nat.le_of_ble_eq_true rfl⟩ ⟨rfl, rfl⟩ hP (hD _ _ _ _ _ _ _ _) [14, 15, 16, 17, 18, 19, 20, 21, 22, 23, 24] rfl rfl (ci := 4) rfl rfl rfl hl.1 rfl (Nat.le_of_ble_eq_true rfl) dL_law_1250 ⟨by have := hcs.1; omega, by have := hcs.2; omega⟩) hP hS (fun r9 _ H locs hr10 hP hS => ?_)
  subst hr10
  refine lv_iload hx hb dL_law_1253 (lv_at hl 1 rfl) ?_
  refine lv_icmp_eq (tgt := 1260) hx hb dL_law_1255 (by decide) (fun c11 => ?_) (fun c11 => ?_)
  · refine lv_iload hx hb dL_law_1260 (lv_at hl 1 rfl) ?_
    have K1277 : ∀ (H : Heap) (locs : List Loc) (ls : Array Slot), f_law_19 N F x w v r t g fo fd p1 = f_L_law_b1277 N x w v r t g fo fd F p1 → va_P D vwCl (cLaw h aw av kr kt km ao ad q x w v u2.1 t u6 u2.2 fd) H → va_S A s.heap H locs → lv_has ls 9 [(0, .ref b), (1, .ref h), (2, .ref (km 0)), (3, .ref ao), (4, .ref ad), (5, .int i)] → W p l e room_1 s m args below meth c H locs (cs + 1) (ss + 6) Q (F0 m 1277 ls []) := by
      intro H locs ls ht hP hS hl
      refine lv_goto (tgt := 1402) hx hb dL_law_1277 (by decide) ?_
      exact hrec x w v u2.1 t u6 u2.2 fd H locs ls ((show f_law_19 N F x w v r t g fo fd p1 = F x w v u2.1 t u6 u2.2 fd from ht.trans (by simp only [f_L_law_b1277, hw3, hw7])).symm.trans hT) hP hS (lv_sub hl [0, 1, 2, 3, 4, 5] rfl)
    refine lv_if_ne (tgt := 1277) hx hb dL_law_1262 (by decide) (fun c14 => ?_) (fun c14 => ?_)
    · exact K1277 H locs ls (ht.trans (by first | (simp only [f_law_19, if_pos c11, if_neg c14, hw3, hw7]; done) | (simp only [f_law_19, hw3, hw7]; simp only [if_pos c11, if_neg c14]))) hP hS (lv_sub hl [2, 3, 4, 5, 6, 7] rfl)
    · refine lv_aload_n hx hb dL_law_1265 rfl (lv_at hl 5 rfl) ?_
      refine lv_iconst (v := 0) hx hb dL_law_1266 (by decide) ?_
      refine va_lald hx hb fx.2.2.2.2.2.1 hP 25 2 (f := u2.2) rfl rfl (by unfold vp_in; decide) dL_law_1267 ?_
      refine lv_iload hx hb dL_law_1268 (lv_at hl 0 rfl) ?_
      refine lv_i2l (v := r8.toInt64) hx hb dL_law_1270 rfl ?_
      refine W.lcmp hx hb dL_law_1271 ?_
      refine lv_if_eq (tgt := 1277) hx hb dL_law_1272 (by decide) (fun c15 => ?_) (fun c15 => ?_)
      · exact K1277 H locs ls (ht.trans (by first | (simp only [f_law_19, if_pos c11, if_pos c14, if_pos c15, hw3, hw7]; done) | (simp only [f_law_19, hw3, hw7]; simp only [if_pos c11, if_pos c14, if_pos c15]))) hP hS (lv_sub hl [2, 3, 4, 5, 6, 7] rfl)
      · refine lv_iconst (v := 0) hx hb dL_law_1275 (by decide) ?_
        exact absurd ((show f_law_19 N F x w v r t g fo fd p1 = (0 : Int32) from ht.trans (by first | (simp only [f_law_19, if_pos c11, if_pos c14, if_neg c15, hw3, hw7]; done) | (simp only [f_law_19, hw3, hw7]; simp only [if_pos c11, if_pos c14, if_neg c15]))).symm.trans hT) (by decide)
  · refine lv_iconst (v := 0) hx hb dL_law_1258 (by decide) ?_
    exact absurd ((show f_law_19 N F x w v r t g fo fd p1 = (0 : Int32) from ht.trans (by first | (simp only [f_law_19, if_neg c11, hw3, hw7]; done) | (simp only [f_law_19, hw3, hw7]; simp only [if_neg c11]))).symm.trans hT) (by decide)

def f_L_law_b1343 (x : XS) (w : WS) (v : WS) (r : RS) (t : TS) (g : MS) (fo : (Nat → Int64)) (fd : (Nat → UInt64)) (F : XS → WS → WS → RS → TS → MS → (Nat → Int64) → (Nat → UInt64) → Int32) : Int32 :=
  F x w v r t ((f_X4_equivalent g).2) fo ((f_L_equivalent w fd).2)

def f_law_20 (F : XS → WS → WS → RS → TS → MS → (Nat → Int64) → (Nat → UInt64) → Int32) (x : XS) (w : WS) (v : WS) (r : RS) (t : TS) (g : MS) (fo : (Nat → Int64)) (fd : (Nat → UInt64)) : Int32 :=
  if (f_X4_thrown ((f_X4_equivalent g).2)) = (f_L_equivalent w fd).1 then (if (f_L_equivalent w fd).1 = 0 then (if (Op.cmpValue (FP.dcmp (((f_L_equivalent w fd).2) (0 : Int32).toNatClampNeg) (FP.f2d (f_X4_equivalent g).1)) CmpOp.l) = 0 then (f_L_law_b1343 x w v r t g fo fd F) else (if (Op.cmpValue (FP.dcmp (((f_L_equivalent w fd).2) (0 : Int32).toNatClampNeg) (((f_L_equivalent w fd).2) (0 : Int32).toNatClampNeg)) CmpOp.l) = 0 then (0 : Int32) else (if (Op.cmpValue (FP.fcmp (f_X4_equivalent g).1 (f_X4_equivalent g).1) CmpOp.l) = 0 then (0 : Int32) else (f_L_law_b1343 x w v r t g fo fd F)))) else (f_L_law_b1343 x w v r t g fo fd F)) else (0 : Int32)

def ok_law_20 (w : WS) (g : MS) (fd : (Nat → UInt64)) : Prop :=
  (ok_L_equivalent w) ∧ ((ok_X4_equivalent g) ∧ (((f_X4_thrown ((f_X4_equivalent g).2)) = (f_L_equivalent w fd).1 → (((f_L_equivalent w fd).1 = 0 → ((vf_n64 (FP.f2d (f_X4_equivalent g).1)) ∧ True)) ∧ (¬ (f_L_equivalent w fd).1 = 0 → True))) ∧ (¬ (f_X4_thrown ((f_X4_equivalent g).2)) = (f_L_equivalent w fd).1 → True)))

set_option maxRecDepth 100000 in
set_option maxHeartbeats 8000000 in
theorem c_law_20 {p : Program} {l : Launch} {e : Env} {s : State} {m : MethodId} {args : Array Value} {below : List Frame} {meth : Method} {c : Code} {H : Heap} {locs : List Loc} {cs ss : Nat} {Q : State → Prop} {D : va_G} {q : Nat → ClassId} {A : Nat → Prop} {b L : Nat} {xs : Nat → Int32} {ls : Array Slot} (h aw av ao ad : Nat) (kr kt km : Nat → Nat) (x : XS) (w : WS) (v : WS) (r : RS) (t : TS) (g : MS) (fo : (Nat → Int64)) (fd : (Nat → UInt64)) (p1 p2 p3 p4 p5 i : Int32) (N : Nat) (F : XS → WS → WS → RS → TS → MS → (Nat → Int64) → (Nat → UInt64) → Int32) (hstk : l.stackTraces = false) (fx : FX p s m args c RL code 9 D q) (hSX : SX s) (hSZ0 : SZ A s s.heap) (hX : va_X b L xs s s.heap) (hbl : b < s.heap.size) (hbA : ¬ A b) (hA : ∀ a, s.heap.size ≤ a → A a) (hD : ∀ (x : XS) (w : WS) (v : WS) (r : RS) (t : TS) (g : MS) (fo : (Nat → Int64)) (fd : (Nat → UInt64)), va_D A (cLaw h aw av kr kt km ao ad q x w v r t g fo fd)) (hv1 : vp_in (i + (1 : Int32)) L) (hp1 : xs (i + (1 : Int32)).toNatClampNeg = p1) (hv2 : vp_in (i + (2 : Int32)) L) (hp2 : xs (i + (2 : Int32)).toNatClampNeg = p2) (hv3 : vp_in (i + (3 : Int32)) L) (hp3 : xs (i + (3 : Int32)).toNatClampNeg = p3) (hv4 : vp_in (i + (4 : Int32)) L) (hp4 : xs (i + (4 : Int32)).toNatClampNeg = p4) (hv5 : vp_in (i + (5 : Int32)) L) (hp5 : xs (i + (5 : Int32)).toNatClampNeg = p5) (hcs : cs + 1 ≤ room_1.cells ∧ ss + 6 ≤ room_1.slots) (hok : ok_law_20 w g fd) (hT : f_law_20 F x w v r t g fo fd = 1)
    (hrec : ∀ (x : XS) (w : WS) (v : WS) (r : RS) (t : TS) (g : MS) (fo : (Nat → Int64)) (fd : (Nat → UInt64)) (H : Heap) (locs : List Loc) (ls : Array Slot), F x w v r t g fo fd = 1 → va_P D vwCl (cLaw h aw av kr kt km ao ad q x w v r t g fo fd) H → va_S A s.heap H locs → lv_has ls 9 [(0, .ref b), (1, .ref h), (2, .ref (km 0)), (3, .ref ao), (4, .ref ad), (5, .int i)] → W p l e room_1 s m args below meth c H locs (cs + 1) (ss + 6) Q (F0 m 1402 ls []))
    (hP : va_P D vwCl (cLaw h aw av kr kt km ao ad q x w v r t g fo fd) H) (hS : va_S A s.heap H locs) (hl : lv_has ls 9 [(0, .ref b), (1, .ref h), (2, .ref (km 0)), (3, .ref ao), (4, .ref ad), (5, .int i)]) : W p l e room_1 s m args below meth c H locs cs ss Q (F0 m 1280 ls []) := by
  have hx := fx.1
  have hb := fx.2.1
  have ht : f_law_20 F x w v r t g fo fd = f_law_20 F x w v r t g fo fd := rfl
  simp only [ok_law_20] at hok
  refine lv_aload_n hx hb dL_law_1280 rfl (lv_at hl 1 rfl) ?_
  refine lv_aload hx hb dL_law_1281 (lv_at hl 4 rfl) ?_
  obtain ⟨hk1, hok⟩ := hok
  refine kW1_i (wrun fx hSX (SZ.kept hSZ0 hS.2.1) (As := [.ref h, .ref ad]) (rest := []) (c_L_equivalent l D q H.size h aw av kr kt ad x w v r t fd hk1 hstk) lk_L_162 ⟨Nat.le_of_ble_eq_true rfl, Nat.le_of_ble_eq_true rfl⟩ ⟨rfl, rfl⟩ hP (hD _ _ _ _ _ _ _ _) hS hA [0, 1, 2, 3, 4, 5, 6, 7, 8, 9, 10, 11, 12, 13, 26] rfl rfl rfl hl.1 rfl (Nat.le_of_ble_eq_true rfl) dL_law_1283 hcs) hP (hD _ _ _ _ _ _ _ _) hS hA [0, 1, 2, 3, 4, 5, 6, 7, 8, 9, 10, 11, 12, 13, 26] rfl (fun _ => rfl) (fun r4 u2 H locs hw3 hP hS => ?_)
  have hP : va_P D vwCl (cLaw h aw av kr kt km ao ad q x w v r t g fo u2) H := hP
  try simp only [hw3] at hok
  refine lv_istore (lv' := [(6, .int r4), (0, .ref b), (1, .ref h), (2, .ref (km 0)), (3, .ref ao), (4, .ref ad), (5, .int i)]) hx hb dL_law_1286 hl (by decide) rfl (fun ls hl => ?_)
  refine lv_aload_n hx hb dL_law_1288 rfl (lv_at hl 3 rfl) ?_
  obtain ⟨hk5, hok⟩ := hok
  refine kW_f (runV fx (As := []) (rest := []) (c_X4_equivalent l D q H.size km g hk5) lk_L_165 ⟨Nat.le_of_ble_eq_true rfl, Nat.le_of_ble_eq_true rfl⟩ ⟨rfl, rfl⟩ hP (hD _ _ _ _ _ _ _ _) [14, 15, 16, 17, 18, 19, 20, 21, 22, 23, 24] rfl rfl (ci := 4) rfl rfl rfl hl.1 rfl (Nat.le_of_ble_eq_true rfl) dL_law_1289 ⟨by have := hcs.1; omega, by have := hcs.2; omega⟩) hP (hD _ _ _ _ _ _ _ _) hS hA [14, 15, 16, 17, 18, 19, 20, 21, 22, 23, 24] rfl (fun _ => rfl) (fun r8 u6 H locs hw7 hP hS => ?_)
  have hP : va_P D vwCl (cLaw h aw av kr kt km ao ad q x w v r t u6 fo u2) H := hP
  try simp only [hw7] at hok
  refine lv_fstore (lv' := [(7, .float r8), (6, .int r4), (0, .ref b), (1, .ref h), (2, .ref (km 0)), (3, .ref ao), (4, .ref ad), (5, .int i)]) hx hb dL_law_1292 hl (by decide) rfl (fun ls hl => ?_)
  refine lv_aload_n hx hb dL_law_1294 rfl (lv_at hl 4 rfl) ?_
  refine kR_i (runV fx (As := []) (rest := []) (c_X4_thrown l D q H.size km u6) lk_L_94 ⟨Nat.le_of_ble_eq_true rfl, Nat.le_of_ble_eq_true rfl⟩ ⟨rfl, rfl⟩ hP (hD _ _ _ _ _ _ _ _) [14, 15, 16, 17, 18, 19, 20, 21, 22, 23, 24] rfl rfl (ci := 4) rfl rfl rfl hl.1 rfl (Nat.le_of_ble_eq_true rfl) dL_law_1295 ⟨by have := hcs.1; omega, by have := hcs.2; omega⟩) hP hS (fun r9 _ H locs hr10 hP hS => ?_)
  subst hr10
  refine lv_iload hx hb dL_law_1298 (lv_at hl 1 rfl) ?_
  refine lv_icmp_eq (tgt := 1305) hx hb dL_law_1300 (by decide) (fun c11 => ?_) (fun c11 => ?_)
  · have hok := hok.1 c11
    refine lv_iload hx hb dL_law_1305 (lv_at hl 1 rfl) ?_
    have K1343 : ∀ (H : Heap) (locs : List Loc) (ls : Array Slot), f_law_20 F x w v r t g fo fd = f_L_law_b1343 x w v r t g fo fd F → va_P D vwCl (cLaw h aw av kr kt km ao ad q x w v r t u6 fo u2) H → va_S A s.heap H locs → lv_has ls 9 [(0, .ref b), (1, .ref h), (2, .ref (km 0)), (3, .ref ao), (4, .ref ad), (5, .int i)] → W p l e room_1 s m args below meth c H locs (cs + 1) (ss + 6) Q (F0 m 1343 ls []) := by
      intro H locs ls ht hP hS hl
      refine lv_goto (tgt := 1402) hx hb dL_law_1343 (by decide) ?_
      exact hrec x w v r t u6 fo u2 H locs ls ((show f_law_20 F x w v r t g fo fd = F x w v r t u6 fo u2 from ht.trans (by simp only [f_L_law_b1343, hw3, hw7])).symm.trans hT) hP hS (lv_sub hl [0, 1, 2, 3, 4, 5] rfl)
    refine lv_if_ne (tgt := 1343) hx hb dL_law_1307 (by decide) (fun c17 => ?_) (fun c17 => ?_)
    · have hok := hok.2 c17
      exact K1343 H locs ls (ht.trans (by first | (simp only [f_law_20, if_pos c11, if_neg c17, hw3, hw7]; done) | (simp only [f_law_20, hw3, hw7]; simp only [if_pos c11, if_neg c17]))) hP hS (lv_sub hl [2, 3, 4, 5, 6, 7] rfl)
    · have hok := hok.1 c17
      refine lv_aload hx hb dL_law_1310 (lv_at hl 6 rfl) ?_
      refine lv_iconst (v := 0) hx hb dL_law_1312 (by decide) ?_
      refine va_dald hx hb fx.2.2.2.2.2.1 hP 26 3 (f := u2) rfl rfl (by unfold vp_in; decide) dL_law_1313 ?_
      refine lv_fload hx hb dL_law_1314 (lv_at hl 0 rfl) ?_
      obtain ⟨hf18, hok⟩ := hok
      refine lv_f2d hx hb dL_law_1316 hf18 ?_
      refine lv_dcmp hx hb dL_law_1317 ?_
      refine lv_if_eq (tgt := 1343) hx hb dL_law_1318 (by decide) (fun c19 => ?_) (fun c19 => ?_)
      · exact K1343 H locs ls (ht.trans (by first | (simp only [f_law_20, if_pos c11, if_pos c17, if_pos c19, hw3, hw7]; done) | (simp only [f_law_20, hw3, hw7]; simp only [if_pos c11, if_pos c17, if_pos c19]))) hP hS (lv_sub hl [2, 3, 4, 5, 6, 7] rfl)
      · refine lv_aload hx hb dL_law_1321 (lv_at hl 6 rfl) ?_
        refine lv_iconst (v := 0) hx hb dL_law_1323 (by decide) ?_
        refine va_dald hx hb fx.2.2.2.2.2.1 hP 26 3 (f := u2) rfl rfl (by unfold vp_in; decide) dL_law_1324 ?_
        refine lv_aload hx hb dL_law_1325 (lv_at hl 6 rfl) ?_
        refine lv_iconst (v := 0) hx hb dL_law_1327 (by decide) ?_
        refine va_dald hx hb fx.2.2.2.2.2.1 hP 26 3 (f := u2) rfl rfl (by unfold vp_in; decide) dL_law_1328 ?_
        refine lv_dcmp hx hb dL_law_1329 ?_
        refine lv_if_eq (tgt := 1341) hx hb dL_law_1330 (by decide) (fun c20 => ?_) (fun c20 => ?_)
        · refine lv_iconst (v := 0) hx hb dL_law_1341 (by decide) ?_
          exact absurd ((show f_law_20 F x w v r t g fo fd = (0 : Int32) from ht.trans (by first | (simp only [f_law_20, if_pos c11, if_pos c17, if_neg c19, if_pos c20, hw3, hw7]; done) | (simp only [f_law_20, hw3, hw7]; simp only [if_pos c11, if_pos c17, if_neg c19, if_pos c20]))).symm.trans hT) (by decide)
        · refine lv_fload hx hb dL_law_1333 (lv_at hl 0 rfl) ?_
          refine lv_fload hx hb dL_law_1335 (lv_at hl 0 rfl) ?_
          refine lv_fcmp hx hb dL_law_1337 ?_
          refine lv_if_ne (tgt := 1343) hx hb dL_law_1338 (by decide) (fun c21 => ?_) (fun c21 => ?_)
          · exact K1343 H locs ls (ht.trans (by first | (simp only [f_law_20, if_pos c11, if_pos c17, if_neg c19, if_neg c20, if_neg c21, hw3, hw7]; done) | (simp only [f_law_20, hw3, hw7]; simp only [if_pos c11, if_pos c17, if_neg c19, if_neg c20, if_neg c21]))) hP hS (lv_sub hl [2, 3, 4, 5, 6, 7] rfl)
          · refine lv_iconst (v := 0) hx hb dL_law_1341 (by decide) ?_
            exact absurd ((show f_law_20 F x w v r t g fo fd = (0 : Int32) from ht.trans (by first | (simp only [f_law_20, if_pos c11, if_pos c17, if_neg c19, if_neg c20, if_pos c21, hw3, hw7]; done) | (simp only [f_law_20, hw3, hw7]; simp only [if_pos c11, if_pos c17, if_neg c19, if_neg c20, if_pos c21]))).symm.trans hT) (by decide)
  · have hok := hok.2 c11
    refine lv_iconst (v := 0) hx hb dL_law_1303 (by decide) ?_
    exact absurd ((show f_law_20 F x w v r t g fo fd = (0 : Int32) from ht.trans (by first | (simp only [f_law_20, if_neg c11, hw3, hw7]; done) | (simp only [f_law_20, hw3, hw7]; simp only [if_neg c11]))).symm.trans hT) (by decide)

def f_L_law_b1399 (N : Nat) (x : XS) (w : WS) (v : WS) (r : RS) (t : TS) (g : MS) (fo : (Nat → Int64)) (fd : (Nat → UInt64)) (F : XS → WS → WS → RS → TS → MS → (Nat → Int64) → (Nat → UInt64) → Int32) (p1 : Int32) : Int32 :=
  F x w ((f_L_ahead N w v r fo p1).2).1 r t ((f_X4_ahead N g p1).2) ((f_L_ahead N w v r fo p1).2).2 fd

def f_law_21 (N : Nat) (F : XS → WS → WS → RS → TS → MS → (Nat → Int64) → (Nat → UInt64) → Int32) (x : XS) (w : WS) (v : WS) (r : RS) (t : TS) (g : MS) (fo : (Nat → Int64)) (fd : (Nat → UInt64)) (p1 : Int32) : Int32 :=
  if (f_X4_thrown ((f_X4_ahead N g p1).2)) = (f_L_ahead N w v r fo p1).1 then (if (f_L_ahead N w v r fo p1).1 = 0 then (if (lg_cmp (((f_L_ahead N w v r fo p1).2).2 (0 : Int32).toNatClampNeg) (f_X4_ahead N g p1).1.toInt64) = 0 then (f_L_law_b1399 N x w v r t g fo fd F p1) else (0 : Int32)) else (f_L_law_b1399 N x w v r t g fo fd F p1)) else (0 : Int32)

def ok_law_21 (N : Nat) (w : WS) (v : WS) (r : RS) (g : MS) (p1 : Int32) : Prop :=
  (ok_L_ahead N w v r p1) ∧ ((ok_X4_ahead N g p1) ∧ True)

set_option maxRecDepth 100000 in
set_option maxHeartbeats 8000000 in
theorem c_law_21 {p : Program} {l : Launch} {e : Env} {s : State} {m : MethodId} {args : Array Value} {below : List Frame} {meth : Method} {c : Code} {H : Heap} {locs : List Loc} {cs ss : Nat} {Q : State → Prop} {D : va_G} {q : Nat → ClassId} {A : Nat → Prop} {b L : Nat} {xs : Nat → Int32} {ls : Array Slot} (h aw av ao ad : Nat) (kr kt km : Nat → Nat) (x : XS) (w : WS) (v : WS) (r : RS) (t : TS) (g : MS) (fo : (Nat → Int64)) (fd : (Nat → UInt64)) (p1 p2 p3 p4 p5 i : Int32) (N : Nat) (F : XS → WS → WS → RS → TS → MS → (Nat → Int64) → (Nat → UInt64) → Int32) (hstk : l.stackTraces = false) (fx : FX p s m args c RL code 9 D q) (hSX : SX s) (hSZ0 : SZ A s s.heap) (hX : va_X b L xs s s.heap) (hbl : b < s.heap.size) (hbA : ¬ A b) (hA : ∀ a, s.heap.size ≤ a → A a) (hD : ∀ (x : XS) (w : WS) (v : WS) (r : RS) (t : TS) (g : MS) (fo : (Nat → Int64)) (fd : (Nat → UInt64)), va_D A (cLaw h aw av kr kt km ao ad q x w v r t g fo fd)) (hv1 : vp_in (i + (1 : Int32)) L) (hp1 : xs (i + (1 : Int32)).toNatClampNeg = p1) (hv2 : vp_in (i + (2 : Int32)) L) (hp2 : xs (i + (2 : Int32)).toNatClampNeg = p2) (hv3 : vp_in (i + (3 : Int32)) L) (hp3 : xs (i + (3 : Int32)).toNatClampNeg = p3) (hv4 : vp_in (i + (4 : Int32)) L) (hp4 : xs (i + (4 : Int32)).toNatClampNeg = p4) (hv5 : vp_in (i + (5 : Int32)) L) (hp5 : xs (i + (5 : Int32)).toNatClampNeg = p5) (hcs : cs + 1 ≤ room_1.cells ∧ ss + 6 ≤ room_1.slots) (hok : ok_law_21 N w v r g p1) (hT : f_law_21 N F x w v r t g fo fd p1 = 1)
    (hrec : ∀ (x : XS) (w : WS) (v : WS) (r : RS) (t : TS) (g : MS) (fo : (Nat → Int64)) (fd : (Nat → UInt64)) (H : Heap) (locs : List Loc) (ls : Array Slot), F x w v r t g fo fd = 1 → va_P D vwCl (cLaw h aw av kr kt km ao ad q x w v r t g fo fd) H → va_S A s.heap H locs → lv_has ls 9 [(0, .ref b), (1, .ref h), (2, .ref (km 0)), (3, .ref ao), (4, .ref ad), (5, .int i)] → W p l e room_1 s m args below meth c H locs (cs + 1) (ss + 6) Q (F0 m 1402 ls []))
    (hP : va_P D vwCl (cLaw h aw av kr kt km ao ad q x w v r t g fo fd) H) (hS : va_S A s.heap H locs) (hl : lv_has ls 9 [(0, .ref b), (1, .ref h), (2, .ref (km 0)), (3, .ref ao), (4, .ref ad), (5, .int i)]) : W p l e room_1 s m args below meth c H locs cs ss Q (F0 m 1346 ls []) := by
  have hx := fx.1
  have hb := fx.2.1
  have ht : f_law_21 N F x w v r t g fo fd p1 = f_law_21 N F x w v r t g fo fd p1 := rfl
  simp only [ok_law_21] at hok
  refine lv_aload_n hx hb dL_law_1346 rfl (lv_at hl 1 rfl) ?_
  refine lv_aload_n hx hb dL_law_1347 rfl (lv_at hl 0 rfl) ?_
  refine lv_iload hx hb dL_law_1348 (lv_at hl 5 rfl) ?_
  refine lv_iconst (v := 1) hx hb dL_law_1350 (by decide) ?_
  refine lv_iadd hx hb dL_law_1351 ?_
  refine sld hx hb hX hbl hbA hS hv1 hp1 dL_law_1352 ?_
  refine lv_aload_n hx hb dL_law_1353 rfl (lv_at hl 3 rfl) ?_
  obtain ⟨hk1, hok⟩ := hok
  refine kW1_i (wrun fx hSX (SZ.kept hSZ0 hS.2.1) (As := [.ref h, .int p1, .ref ao]) (rest := []) (c_L_ahead l D q H.size h aw av kr kt ao x w v r t fo p1 N hk1 hstk) lk_L_166 ⟨Nat.le_of_ble_eq_true rfl, Nat.le_of_ble_eq_true rfl⟩ ⟨rfl, rfl⟩ hP (hD _ _ _ _ _ _ _ _) hS hA [0, 1, 2, 3, 4, 5, 6, 7, 8, 9, 10, 11, 12, 13, 25] rfl rfl rfl hl.1 rfl (Nat.le_of_ble_eq_true rfl) dL_law_1354 hcs) hP (hD _ _ _ _ _ _ _ _) hS hA [0, 1, 2, 3, 4, 5, 6, 7, 8, 9, 10, 11, 12, 13, 25] rfl (fun _ => rfl) (fun r4 u2 H locs hw3 hP hS => ?_)
  have hP : va_P D vwCl (cLaw h aw av kr kt km ao ad q x w u2.1 r t g u2.2 fd) H := hP
  try simp only [hw3] at hok
  refine lv_istore (lv' := [(6, .int r4), (0, .ref b), (1, .ref h), (2, .ref (km 0)), (3, .ref ao), (4, .ref ad), (5, .int i)]) hx hb dL_law_1357 hl (by decide) rfl (fun ls hl => ?_)
  refine lv_aload_n hx hb dL_law_1359 rfl (lv_at hl 3 rfl) ?_
  refine lv_aload_n hx hb dL_law_1360 rfl (lv_at hl 1 rfl) ?_
  refine lv_iload hx hb dL_law_1361 (lv_at hl 6 rfl) ?_
  refine lv_iconst (v := 1) hx hb dL_law_1363 (by decide) ?_
  refine lv_iadd hx hb dL_law_1364 ?_
  refine sld hx hb hX hbl hbA hS hv1 hp1 dL_law_1365 ?_
  obtain ⟨hk5, hok⟩ := hok
  refine kW_i (runV fx (As := [.int p1]) (rest := []) (c_X4_ahead l D q H.size km g p1 N hk5) lk_L_168 ⟨Nat.le_of_ble_eq_true rfl, Nat.le_of_ble_eq_true rfl⟩ ⟨rfl, rfl⟩ hP (hD _ _ _ _ _ _ _ _) [14, 15, 16, 17, 18, 19, 20, 21, 22, 23, 24] rfl rfl (ci := 4) rfl rfl rfl hl.1 rfl (Nat.le_of_ble_eq_true rfl) dL_law_1366 ⟨by have := hcs.1; omega, by have := hcs.2; omega⟩) hP (hD _ _ _ _ _ _ _ _) hS hA [14, 15, 16, 17, 18, 19, 20, 21, 22, 23, 24] rfl (fun _ => rfl) (fun r8 u6 H locs hw7 hP hS => ?_)
  have hP : va_P D vwCl (cLaw h aw av kr kt km ao ad q x w u2.1 r t u6 u2.2 fd) H := hP
  try simp only [hw7] at hok
  refine lv_istore (lv' := [(7, .int r8), (6, .int r4), (0, .ref b), (1, .ref h), (2, .ref (km 0)), (3, .ref ao), (4, .ref ad), (5, .int i)]) hx hb dL_law_1369 hl (by decide) rfl (fun ls hl => ?_)
  refine lv_aload_n hx hb dL_law_1371 rfl (lv_at hl 4 rfl) ?_
  refine kR_i (runV fx (As := []) (rest := []) (c_X4_thrown l D q H.size km u6) lk_L_94 ⟨Nat.le_of_ble_eq_true rfl, Nat.le_of_ble_eq_true rfl⟩ ⟨rfl, rfl⟩ hP (hD _ _ _ _ _ _ _ _) [14, 15, 16, 17, 18, 19, 20, 21, 22, 23, 24] rfl rfl (ci := 4) rfl rfl rfl hl.1 rfl (Nat.le_of_ble_eq_true rfl) dL_law_1372 ⟨by have := hcs.1; omega, by have := hcs.2; omega⟩) hP hS (fun r9 _ H locs hr10 hP hS => ?_)
  subst hr10
  refine lv_iload hx hb dL_law_1375 (lv_at hl 1 rfl) ?_
  refine lv_icmp_eq (tgt := 1382) hx hb dL_law_1377 (by decide) (fun c11 => ?_) (fun c11 => ?_)
  · refine lv_iload hx hb dL_law_1382 (lv_at hl 1 rfl) ?_
    have K1399 : ∀ (H : Heap) (locs : List Loc) (ls : Array Slot), f_law_21 N F x w v r t g fo fd p1 = f_L_law_b1399 N x w v r t g fo fd F p1 → va_P D vwCl (cLaw h aw av kr kt km ao ad q x w u2.1 r t u6 u2.2 fd) H → va_S A s.heap H locs → lv_has ls 9 [(0, .ref b), (1, .ref h), (2, .ref (km 0)), (3, .ref ao), (4, .ref ad), (5, .int i)] → W p l e room_1 s m args below meth c H locs (cs + 1) (ss + 6) Q (F0 m 1399 ls []) := by
      intro H locs ls ht hP hS hl
      refine lv_goto (tgt := 1402) hx hb dL_law_1399 (by decide) ?_
      exact hrec x w u2.1 r t u6 u2.2 fd H locs ls ((show f_law_21 N F x w v r t g fo fd p1 = F x w u2.1 r t u6 u2.2 fd from ht.trans (by simp only [f_L_law_b1399, hw3, hw7])).symm.trans hT) hP hS (lv_sub hl [0, 1, 2, 3, 4, 5] rfl)
    refine lv_if_ne (tgt := 1399) hx hb dL_law_1384 (by decide) (fun c14 => ?_) (fun c14 => ?_)
    · exact K1399 H locs ls (ht.trans (by first | (simp only [f_law_21, if_pos c11, if_neg c14, hw3, hw7]; done) | (simp only [f_law_21, hw3, hw7]; simp only [if_pos c11, if_neg c14]))) hP hS (lv_sub hl [2, 3, 4, 5, 6, 7] rfl)
    · refine lv_aload_n hx hb dL_law_1387 rfl (lv_at hl 5 rfl) ?_
      refine lv_iconst (v := 0) hx hb dL_law_1388 (by decide) ?_
      refine va_lald hx hb fx.2.2.2.2.2.1 hP 25 2 (f := u2.2) rfl rfl (by unfold vp_in; decide) dL_law_1389 ?_
      refine lv_iload hx hb dL_law_1390 (lv_at hl 0 rfl) ?_
      refine lv_i2l (v := r8.toInt64) hx hb dL_law_1392 rfl ?_
      refine W.lcmp hx hb dL_law_1393 ?_
      refine lv_if_eq (tgt := 1399) hx hb dL_law_1394 (by decide) (fun c15 => ?_) (fun c15 => ?_)
      · exact K1399 H locs ls (ht.trans (by first | (simp only [f_law_21, if_pos c11, if_pos c14, if_pos c15, hw3, hw7]; done) | (simp only [f_law_21, hw3, hw7]; simp only [if_pos c11, if_pos c14, if_pos c15]))) hP hS (lv_sub hl [2, 3, 4, 5, 6, 7] rfl)
      · refine lv_iconst (v := 0) hx hb dL_law_1397 (by decide) ?_
        exact absurd ((show f_law_21 N F x w v r t g fo fd p1 = (0 : Int32) from ht.trans (by first | (simp only [f_law_21, if_pos c11, if_pos c14, if_neg c15, hw3, hw7]; done) | (simp only [f_law_21, hw3, hw7]; simp only [if_pos c11, if_pos c14, if_neg c15]))).symm.trans hT) (by decide)
  · refine lv_iconst (v := 0) hx hb dL_law_1380 (by decide) ?_
    exact absurd ((show f_law_21 N F x w v r t g fo fd p1 = (0 : Int32) from ht.trans (by first | (simp only [f_law_21, if_neg c11, hw3, hw7]; done) | (simp only [f_law_21, hw3, hw7]; simp only [if_neg c11]))).symm.trans hT) (by decide)
