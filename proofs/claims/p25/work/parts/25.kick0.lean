theorem mn_94 : Cond.methodLink RX3 1 objectInit ∈ ALL := ALL_i (List.mem_append_right _ (List.mem_append_left _ (List.mem_of_getElem? (i := 19) (by decide +kernel)))) (by decide +kernel)
theorem mn_95 : Cond.classLink RX3 7 RX0 ∈ ALL := ALL_i (List.mem_append_right _ (List.mem_append_left _ (List.mem_of_getElem? (i := 22) (by decide +kernel)))) (by decide +kernel)
theorem mn_96 : Cond.instantiable RX0 5 ∈ ALL := ALL_i (List.mem_append_right _ (List.mem_append_left _ (List.mem_of_getElem? (i := 23) (by decide +kernel)))) (by decide +kernel)
theorem mn_97 : Cond.instanceMethod yX0_init ∈ ALL := ALL_i (List.mem_append_right _ (List.mem_append_left _ (List.mem_of_getElem? (i := 25) (by decide +kernel)))) (by decide +kernel)
theorem mn_98 : Cond.code yX0_init cX0_init 1 none ∈ ALL := ALL_i (List.mem_append_right _ (List.mem_append_left _ (List.mem_of_getElem? (i := 26) (by decide +kernel)))) (by decide +kernel)
theorem mn_99 : Cond.classLink RX3 16 RX2 ∈ ALL := ALL_i (List.mem_append_right _ (List.mem_append_left _ (List.mem_of_getElem? (i := 48) (by decide +kernel)))) (by decide +kernel)
theorem mn_100 : Cond.instantiable RX2 15 ∈ ALL := ALL_i (List.mem_append_right _ (List.mem_append_left _ (List.mem_of_getElem? (i := 49) (by decide +kernel)))) (by decide +kernel)
theorem mn_101 : Cond.instanceMethod yX2_init ∈ ALL := ALL_i (List.mem_append_right _ (List.mem_append_left _ (List.mem_of_getElem? (i := 51) (by decide +kernel)))) (by decide +kernel)
theorem mn_102 : Cond.code yX2_init cX2_init 2 none ∈ ALL := ALL_i (List.mem_append_right _ (List.mem_append_left _ (List.mem_of_getElem? (i := 52) (by decide +kernel)))) (by decide +kernel)
theorem mn_103 : Cond.classLink RX3 28 RX1 ∈ ALL := ALL_i (List.mem_append_right _ (List.mem_append_left _ (List.mem_of_getElem? (i := 113) (by decide +kernel)))) (by decide +kernel)
theorem mn_104 : Cond.instantiable RX1 7 ∈ ALL := ALL_i (List.mem_append_right _ (List.mem_append_left _ (List.mem_of_getElem? (i := 114) (by decide +kernel)))) (by decide +kernel)
theorem mn_105 : Cond.instanceMethod yX1_init ∈ ALL := ALL_i (List.mem_append_right _ (List.mem_append_left _ (List.mem_of_getElem? (i := 116) (by decide +kernel)))) (by decide +kernel)
theorem mn_106 : Cond.code yX1_init cX1_init 1 none ∈ ALL := ALL_i (List.mem_append_right _ (List.mem_append_left _ (List.mem_of_getElem? (i := 117) (by decide +kernel)))) (by decide +kernel)
theorem lk_X3_9 : LKIN RX3 9 yX0_init cX0_init 1 0 := ⟨nw_0, rfl, mn_97, ⟨mm_3, mn_98, by decide +kernel, by decide +kernel, by decide +kernel⟩⟩
theorem lk_X3_18 : LKIN RX3 18 yX2_init cX2_init 2 1 := ⟨nw_1, rfl, mn_101, ⟨mm_31, mn_102, by decide +kernel, by decide +kernel, by decide +kernel⟩⟩
theorem lk_X3_30 : LKIN RX3 30 yX1_init cX1_init 1 0 := ⟨nw_15, rfl, mn_105, ⟨mm_115, mn_106, by decide +kernel, by decide +kernel, by decide +kernel⟩⟩
def kick0 : XS := (0, 0, -1, 0)
def Bh_X3_init (D : va_G) (q : Nat → ClassId) (sz : Nat) (h : Nat) (N : Nat) (H9 : Heap) : Prop := (fun H9 => ∃ (aw av : Nat) (kr kt : Nat → Nat), va_P D vwCl (cKick h aw av kr kt q kick0 well0 well0 (rock0 N) tests0) H9 ∧ va_D (va_A ([(h, .inr (3, [.null, .null, .null, .null, .int 0, .int 0, .int 0, .int 0]))]) sz) (cKick h aw av kr kt q kick0 well0 well0 (rock0 N) tests0)) H9
abbrev RM_X3_init : Room := { frames := 3, cells := 13, slots := 532, locals := 80 }
set_option maxRecDepth 100000 in
set_option maxHeartbeats 8000000 in
theorem c_X3_init (l : Launch) (D : va_G) (q : Nat → ClassId) (sz : Nat) (h : Nat) (N : Nat) (hok : ∀ (f : Nat → Int32) (y : Int32), ok_J7_fill_53178 N 50 f y) : Met l yX3_init (Cond.code yX3_init cX3_init 1 none :: ALL) RM_X3_init (PC D q [.ref h] ([(h, .inr (3, [.null, .null, .null, .null, .int 0, .int 0, .int 0, .int 0]))]) sz) (va_Qv (fun _ : Unit => True) (fun _ t9 => (Bh_X3_init D q sz h N) t9.heap) (va_A ([(h, .inr (3, [.null, .null, .null, .null, .int 0, .int 0, .int 0, .int 0]))]) sz)) 13 532 (va_A ([(h, .inr (3, [.null, .null, .null, .null, .int 0, .int 0, .int 0, .int 0]))]) sz) := by
  refine en_c (Bh := Bh_X3_init D q sz h N) (by decide +kernel) (Nat.le_of_ble_eq_true rfl) ?_
  intro p e s m args below meth c Q A H locs ls fx hin hD hA hP hS hl hret
  have hx := fx.1
  have hb := fx.2.1
  have hl : lv_has ls 1 [(0, .ref h)] := hl
  refine lv_aload_n hx hb dX3_init_0 rfl (lv_at hl 0 rfl) ?_
  refine W.objInit hx hb fx.2.2.2.1 (fx.2.2.2.2.1 _ mn_94) (fx.2.2.2.2.1 _ mn_86) (fx.2.2.2.2.1 _ mn_87) rfl (by rw [fx.2.2.1]; exact hl.1) rfl dX3_init_1 (Nat.le_of_ble_eq_true rfl) (Nat.le_of_ble_eq_true rfl) ?_
  refine W.eq (g2 := F0 m 4 ls []) rfl ?_
  refine lv_aload_n hx hb dX3_init_4 rfl (lv_at hl 0 rfl) ?_
  refine va_new (ci := 0) (fs := [.null, .null, .null, .null, .null]) (C := RX0) (T := TX0) (N := 5) hx hb fx.2.2.2.2.1 inlX0 tyX0 tyX0_ok fx.2.2.2.1 (fx.2.2.2.2.1 _ mn_95) (fx.2.2.2.2.1 _ mn_96) (fx.2.2.2.2.1 _ mm_3) fx.2.2.2.2.2.1 hP hD hS hA rfl (fun j hj => by rcases (show j = 0 ∨ j = 1 ∨ j = 2 ∨ j = 3 ∨ j = 4 by omega) with rfl | rfl | rfl | rfl | rfl <;> rfl) (Nat.le_of_ble_eq_true rfl) (Nat.le_of_ble_eq_true rfl) dX3_init_5 (fun a1 H hP hD hS => ?_)
  have hP : va_P D vwCl ([(h, .inr (3, [.null, .null, .null, .null, .int 0, .int 0, .int 0, .int 0])), (a1, .inr (0, [.null, .null, .null, .null, .null]))]) H := hP
  have hD : va_D A ([(h, .inr (3, [.null, .null, .null, .null, .int 0, .int 0, .int 0, .int 0])), (a1, .inr (0, [.null, .null, .null, .null, .null]))]) := hD
  refine W.widen (k := 1) (n := 5) (Nat.le_of_ble_eq_true rfl) (Nat.le_of_ble_eq_true rfl) ?_
  refine lv_dup hx hb dX3_init_8 rfl ?_
  have hF := va_free (wc := [(a1, .inr (0, [.null, .null, .null, .null, .null]))]) hD hS hA [1] rfl
  have hr9 := runIN (p := p) (l := l) (e := e) (R := RM_X3_init) (below := below) (meth := meth) (locs := locs) (cells := 1) (slots := 5) (ls := ls) (wc := [(a1, .inr (0, [.null, .null, .null, .null, .null]))]) (As := []) (rest := [.ref a1, .ref h]) fx (c_X0_init l D q H.size a1 N hok) lk_X3_9 ⟨Nat.le_of_ble_eq_true rfl, Nat.le_of_ble_eq_true rfl⟩ ⟨rfl, rfl⟩ hP hD [1] rfl rfl rfl hl.1 rfl (Nat.le_of_ble_eq_true rfl) dX3_init_9 ⟨Nat.le_of_ble_eq_true rfl, Nat.le_of_ble_eq_true rfl⟩
  refine kC (wc := [(a1, .inr (0, [.null, .null, .null, .null, .null]))]) hr9 hD hS hA [1] rfl (fun H1 locs hB hk hS => ?_)
  obtain ⟨k2, rfl, hP1, hD1⟩ := hB
  obtain ⟨hP, hD⟩ := va_join (wr := [(h, .inr (3, [.null, .null, .null, .null, .int 0, .int 0, .int 0, .int 0]))]) (w1 := cRock k2 q (rock0 N)) hP hD [1] [0] rfl rfl (by decide) (by decide) hk hF hP1 hD1
  generalize H1 = H at hP hS ⊢
  have hP : va_P D vwCl ([(h, .inr (3, [.null, .null, .null, .null, .int 0, .int 0, .int 0, .int 0]))] ++ (cRock k2 q (rock0 N))) H := hP
  have hD : va_D A ([(h, .inr (3, [.null, .null, .null, .null, .int 0, .int 0, .int 0, .int 0]))] ++ (cRock k2 q (rock0 N))) := hD
  refine W.widen (k := 6) (n := 255) (Nat.le_of_ble_eq_true rfl) (Nat.le_of_ble_eq_true rfl) ?_
  refine va_putF (D := D) (ci := 3) (v := .ref (k2 0)) (ty := .object "Kickroom$Rock") (C := RX3) (T := TX3) (N := 8) hx hb fx.2.2.2.2.1 inlX3 tyX3 tyX3_ok nmX3 fx.2.2.2.1 fx.2.2.2.2.2.1 hP hD hS 0 rfl rfl 0 (by decide) (fx.2.2.2.2.1 _ mm_111) (fun _ h9 => h9) rfl hin rfl (by decide +kernel) rfl rfl (Nat.le_of_ble_eq_true rfl) dX3_init_12 (fun H locs hP hD hS => ?_)
  have hP : va_P D vwCl ([(h, .inr (3, [.ref (k2 0), .null, .null, .null, .int 0, .int 0, .int 0, .int 0]))] ++ (cRock k2 q (rock0 N))) H := hP
  have hD : va_D A ([(h, .inr (3, [.ref (k2 0), .null, .null, .null, .int 0, .int 0, .int 0, .int 0]))] ++ (cRock k2 q (rock0 N))) := hD
  refine lv_aload_n hx hb dX3_init_15 rfl (lv_at hl 0 rfl) ?_
  refine va_new (ci := 2) (fs := [.null, .int 0, .int 0, .int 0, .int 0, .int 0, .int 0, .int 0, .long 0, .int 0, .int 0, .int 0, .long 0, .int 0, .int 0]) (C := RX2) (T := TX2) (N := 15) hx hb fx.2.2.2.2.1 inlX2 tyX2 tyX2_ok fx.2.2.2.1 (fx.2.2.2.2.1 _ mn_99) (fx.2.2.2.2.1 _ mn_100) (fx.2.2.2.2.1 _ mm_31) fx.2.2.2.2.2.1 hP hD hS hA rfl (fun j hj => by rcases (show j = 0 ∨ j = 1 ∨ j = 2 ∨ j = 3 ∨ j = 4 ∨ j = 5 ∨ j = 6 ∨ j = 7 ∨ j = 8 ∨ j = 9 ∨ j = 10 ∨ j = 11 ∨ j = 12 ∨ j = 13 ∨ j = 14 by omega) with rfl | rfl | rfl | rfl | rfl | rfl | rfl | rfl | rfl | rfl | rfl | rfl | rfl | rfl | rfl <;> rfl) (Nat.le_of_ble_eq_true rfl) (Nat.le_of_ble_eq_true rfl) dX3_init_16 (fun a3 H hP hD hS => ?_)
  have hP : va_P D vwCl ([(h, .inr (3, [.ref (k2 0), .null, .null, .null, .int 0, .int 0, .int 0, .int 0]))] ++ (cRock k2 q (rock0 N) ++ ([(a3, .inr (2, [.null, .int 0, .int 0, .int 0, .int 0, .int 0, .int 0, .int 0, .long 0, .int 0, .int 0, .int 0, .long 0, .int 0, .int 0]))]))) H := hP
  have hD : va_D A ([(h, .inr (3, [.ref (k2 0), .null, .null, .null, .int 0, .int 0, .int 0, .int 0]))] ++ (cRock k2 q (rock0 N) ++ ([(a3, .inr (2, [.null, .int 0, .int 0, .int 0, .int 0, .int 0, .int 0, .int 0, .long 0, .int 0, .int 0, .int 0, .long 0, .int 0, .int 0]))]))) := hD
  refine W.widen (k := 7) (n := 270) (Nat.le_of_ble_eq_true rfl) (Nat.le_of_ble_eq_true rfl) ?_
  refine lv_dup hx hb dX3_init_19 rfl ?_
  refine lv_aload_n hx hb dX3_init_20 rfl (lv_at hl 0 rfl) ?_
  refine va_get (D := D) (ci := 3) (v := .ref (k2 0)) (C := RX3) (T := TX3) (N := 8) hx hb fx.2.2.2.2.1 inlX3 fx.2.2.2.1 fx.2.2.2.2.2.1 hP 0 rfl rfl 0 (by decide) (fx.2.2.2.2.1 _ mm_111) (fun _ h9 => h9) rfl dX3_init_21 ?_
  have hF := va_free (wc := [(a3, .inr (2, [.null, .int 0, .int 0, .int 0, .int 0, .int 0, .int 0, .int 0, .long 0, .int 0, .int 0, .int 0, .long 0, .int 0, .int 0]))]) hD hS hA [7] rfl
  have hr9 := runIN (p := p) (l := l) (e := e) (R := RM_X3_init) (below := below) (meth := meth) (locs := locs) (cells := 7) (slots := 270) (ls := ls) (wc := [(a3, .inr (2, [.null, .int 0, .int 0, .int 0, .int 0, .int 0, .int 0, .int 0, .long 0, .int 0, .int 0, .int 0, .long 0, .int 0, .int 0]))]) (As := [.ref (k2 0)]) (rest := [.ref a3, .ref h]) fx (c_X2_init l D q H.size a3 (k2 0)) lk_X3_18 ⟨Nat.le_of_ble_eq_true rfl, Nat.le_of_ble_eq_true rfl⟩ ⟨rfl, rfl⟩ hP hD [7] rfl rfl rfl hl.1 rfl (Nat.le_of_ble_eq_true rfl) dX3_init_24 ⟨Nat.le_of_ble_eq_true rfl, Nat.le_of_ble_eq_true rfl⟩
  refine kC (wc := [(a3, .inr (2, [.null, .int 0, .int 0, .int 0, .int 0, .int 0, .int 0, .int 0, .long 0, .int 0, .int 0, .int 0, .long 0, .int 0, .int 0]))]) hr9 hD hS hA [7] rfl (fun H1 locs hB hk hS => ?_)
  obtain ⟨hP1, hD1⟩ := hB
  obtain ⟨hP, hD⟩ := va_join (wr := [(h, .inr (3, [.ref (k2 0), .null, .null, .null, .int 0, .int 0, .int 0, .int 0]))] ++ (cRock k2 q (rock0 N))) (w1 := [oW a3 (k2 0) well0]) hP hD [7] [0, 1, 2, 3, 4, 5, 6] rfl rfl (by decide) (by decide) hk hF hP1 hD1
  generalize H1 = H at hP hS ⊢
  have hP : va_P D vwCl ([(h, .inr (3, [.ref (k2 0), .null, .null, .null, .int 0, .int 0, .int 0, .int 0]))] ++ (cRock k2 q (rock0 N) ++ ([oW a3 (k2 0) well0]))) H := hP
  have hD : va_D A ([(h, .inr (3, [.ref (k2 0), .null, .null, .null, .int 0, .int 0, .int 0, .int 0]))] ++ (cRock k2 q (rock0 N) ++ ([oW a3 (k2 0) well0]))) := hD
  refine W.widen (k := 7) (n := 270) (Nat.le_of_ble_eq_true rfl) (Nat.le_of_ble_eq_true rfl) ?_
  refine va_putF (D := D) (ci := 3) (v := .ref a3) (ty := .object "Kickroom$Well") (C := RX3) (T := TX3) (N := 8) hx hb fx.2.2.2.2.1 inlX3 tyX3 tyX3_ok nmX3 fx.2.2.2.1 fx.2.2.2.2.2.1 hP hD hS 0 rfl rfl 1 (by decide) (fx.2.2.2.2.1 _ mm_106) (fun _ h9 => h9) rfl hin rfl (by decide +kernel) rfl rfl (Nat.le_of_ble_eq_true rfl) dX3_init_27 (fun H locs hP hD hS => ?_)
  have hP : va_P D vwCl ([(h, .inr (3, [.ref (k2 0), .ref a3, .null, .null, .int 0, .int 0, .int 0, .int 0]))] ++ (cRock k2 q (rock0 N) ++ ([oW a3 (k2 0) well0]))) H := hP
  have hD : va_D A ([(h, .inr (3, [.ref (k2 0), .ref a3, .null, .null, .int 0, .int 0, .int 0, .int 0]))] ++ (cRock k2 q (rock0 N) ++ ([oW a3 (k2 0) well0]))) := hD
  refine lv_aload_n hx hb dX3_init_30 rfl (lv_at hl 0 rfl) ?_
  refine va_new (ci := 2) (fs := [.null, .int 0, .int 0, .int 0, .int 0, .int 0, .int 0, .int 0, .long 0, .int 0, .int 0, .int 0, .long 0, .int 0, .int 0]) (C := RX2) (T := TX2) (N := 15) hx hb fx.2.2.2.2.1 inlX2 tyX2 tyX2_ok fx.2.2.2.1 (fx.2.2.2.2.1 _ mn_99) (fx.2.2.2.2.1 _ mn_100) (fx.2.2.2.2.1 _ mm_31) fx.2.2.2.2.2.1 hP hD hS hA rfl (fun j hj => by rcases (show j = 0 ∨ j = 1 ∨ j = 2 ∨ j = 3 ∨ j = 4 ∨ j = 5 ∨ j = 6 ∨ j = 7 ∨ j = 8 ∨ j = 9 ∨ j = 10 ∨ j = 11 ∨ j = 12 ∨ j = 13 ∨ j = 14 by omega) with rfl | rfl | rfl | rfl | rfl | rfl | rfl | rfl | rfl | rfl | rfl | rfl | rfl | rfl | rfl <;> rfl) (Nat.le_of_ble_eq_true rfl) (Nat.le_of_ble_eq_true rfl) dX3_init_31 (fun a5 H hP hD hS => ?_)
  have hP : va_P D vwCl ([(h, .inr (3, [.ref (k2 0), .ref a3, .null, .null, .int 0, .int 0, .int 0, .int 0]))] ++ (cRock k2 q (rock0 N) ++ ([oW a3 (k2 0) well0, (a5, .inr (2, [.null, .int 0, .int 0, .int 0, .int 0, .int 0, .int 0, .int 0, .long 0, .int 0, .int 0, .int 0, .long 0, .int 0, .int 0]))]))) H := hP
  have hD : va_D A ([(h, .inr (3, [.ref (k2 0), .ref a3, .null, .null, .int 0, .int 0, .int 0, .int 0]))] ++ (cRock k2 q (rock0 N) ++ ([oW a3 (k2 0) well0, (a5, .inr (2, [.null, .int 0, .int 0, .int 0, .int 0, .int 0, .int 0, .int 0, .long 0, .int 0, .int 0, .int 0, .long 0, .int 0, .int 0]))]))) := hD
  refine W.widen (k := 8) (n := 285) (Nat.le_of_ble_eq_true rfl) (Nat.le_of_ble_eq_true rfl) ?_
  refine lv_dup hx hb dX3_init_34 rfl ?_
  refine lv_aload_n hx hb dX3_init_35 rfl (lv_at hl 0 rfl) ?_
  refine va_get (D := D) (ci := 3) (v := .ref (k2 0)) (C := RX3) (T := TX3) (N := 8) hx hb fx.2.2.2.2.1 inlX3 fx.2.2.2.1 fx.2.2.2.2.2.1 hP 0 rfl rfl 0 (by decide) (fx.2.2.2.2.1 _ mm_111) (fun _ h9 => h9) rfl dX3_init_36 ?_
  have hF := va_free (wc := [(a5, .inr (2, [.null, .int 0, .int 0, .int 0, .int 0, .int 0, .int 0, .int 0, .long 0, .int 0, .int 0, .int 0, .long 0, .int 0, .int 0]))]) hD hS hA [8] rfl
  have hr9 := runIN (p := p) (l := l) (e := e) (R := RM_X3_init) (below := below) (meth := meth) (locs := locs) (cells := 8) (slots := 285) (ls := ls) (wc := [(a5, .inr (2, [.null, .int 0, .int 0, .int 0, .int 0, .int 0, .int 0, .int 0, .long 0, .int 0, .int 0, .int 0, .long 0, .int 0, .int 0]))]) (As := [.ref (k2 0)]) (rest := [.ref a5, .ref h]) fx (c_X2_init l D q H.size a5 (k2 0)) lk_X3_18 ⟨Nat.le_of_ble_eq_true rfl, Nat.le_of_ble_eq_true rfl⟩ ⟨rfl, rfl⟩ hP hD [8] rfl rfl rfl hl.1 rfl (Nat.le_of_ble_eq_true rfl) dX3_init_39 ⟨Nat.le_of_ble_eq_true rfl, Nat.le_of_ble_eq_true rfl⟩
  refine kC (wc := [(a5, .inr (2, [.null, .int 0, .int 0, .int 0, .int 0, .int 0, .int 0, .int 0, .long 0, .int 0, .int 0, .int 0, .long 0, .int 0, .int 0]))]) hr9 hD hS hA [8] rfl (fun H1 locs hB hk hS => ?_)
  obtain ⟨hP1, hD1⟩ := hB
  obtain ⟨hP, hD⟩ := va_join (wr := [(h, .inr (3, [.ref (k2 0), .ref a3, .null, .null, .int 0, .int 0, .int 0, .int 0]))] ++ (cRock k2 q (rock0 N) ++ ([oW a3 (k2 0) well0]))) (w1 := [oW a5 (k2 0) well0]) hP hD [8] [0, 1, 2, 3, 4, 5, 6, 7] rfl rfl (by decide) (by decide) hk hF hP1 hD1
  generalize H1 = H at hP hS ⊢
  have hP : va_P D vwCl ([(h, .inr (3, [.ref (k2 0), .ref a3, .null, .null, .int 0, .int 0, .int 0, .int 0]))] ++ (cRock k2 q (rock0 N) ++ ([oW a3 (k2 0) well0, oW a5 (k2 0) well0]))) H := hP
  have hD : va_D A ([(h, .inr (3, [.ref (k2 0), .ref a3, .null, .null, .int 0, .int 0, .int 0, .int 0]))] ++ (cRock k2 q (rock0 N) ++ ([oW a3 (k2 0) well0, oW a5 (k2 0) well0]))) := hD
  refine W.widen (k := 8) (n := 285) (Nat.le_of_ble_eq_true rfl) (Nat.le_of_ble_eq_true rfl) ?_
  refine va_putF (D := D) (ci := 3) (v := .ref a5) (ty := .object "Kickroom$Well") (C := RX3) (T := TX3) (N := 8) hx hb fx.2.2.2.2.1 inlX3 tyX3 tyX3_ok nmX3 fx.2.2.2.1 fx.2.2.2.2.2.1 hP hD hS 0 rfl rfl 2 (by decide) (fx.2.2.2.2.1 _ mm_182) (fun _ h9 => h9) rfl hin rfl (by decide +kernel) rfl rfl (Nat.le_of_ble_eq_true rfl) dX3_init_42 (fun H locs hP hD hS => ?_)
  have hP : va_P D vwCl ([(h, .inr (3, [.ref (k2 0), .ref a3, .ref a5, .null, .int 0, .int 0, .int 0, .int 0]))] ++ (cRock k2 q (rock0 N) ++ ([oW a3 (k2 0) well0, oW a5 (k2 0) well0]))) H := hP
  have hD : va_D A ([(h, .inr (3, [.ref (k2 0), .ref a3, .ref a5, .null, .int 0, .int 0, .int 0, .int 0]))] ++ (cRock k2 q (rock0 N) ++ ([oW a3 (k2 0) well0, oW a5 (k2 0) well0]))) := hD
  refine lv_aload_n hx hb dX3_init_45 rfl (lv_at hl 0 rfl) ?_
  refine va_new (ci := 1) (fs := [.null, .null, .null, .null, .int 0, .int 0, .int 0]) (C := RX1) (T := TX1) (N := 7) hx hb fx.2.2.2.2.1 inlX1 tyX1 tyX1_ok fx.2.2.2.1 (fx.2.2.2.2.1 _ mn_103) (fx.2.2.2.2.1 _ mn_104) (fx.2.2.2.2.1 _ mm_115) fx.2.2.2.2.2.1 hP hD hS hA rfl (fun j hj => by rcases (show j = 0 ∨ j = 1 ∨ j = 2 ∨ j = 3 ∨ j = 4 ∨ j = 5 ∨ j = 6 by omega) with rfl | rfl | rfl | rfl | rfl | rfl | rfl <;> rfl) (Nat.le_of_ble_eq_true rfl) (Nat.le_of_ble_eq_true rfl) dX3_init_46 (fun a7 H hP hD hS => ?_)
  have hP : va_P D vwCl ([(h, .inr (3, [.ref (k2 0), .ref a3, .ref a5, .null, .int 0, .int 0, .int 0, .int 0]))] ++ (cRock k2 q (rock0 N) ++ ([oW a3 (k2 0) well0, oW a5 (k2 0) well0, (a7, .inr (1, [.null, .null, .null, .null, .int 0, .int 0, .int 0]))]))) H := hP
  have hD : va_D A ([(h, .inr (3, [.ref (k2 0), .ref a3, .ref a5, .null, .int 0, .int 0, .int 0, .int 0]))] ++ (cRock k2 q (rock0 N) ++ ([oW a3 (k2 0) well0, oW a5 (k2 0) well0, (a7, .inr (1, [.null, .null, .null, .null, .int 0, .int 0, .int 0]))]))) := hD
  refine W.widen (k := 9) (n := 292) (Nat.le_of_ble_eq_true rfl) (Nat.le_of_ble_eq_true rfl) ?_
  refine lv_dup hx hb dX3_init_49 rfl ?_
  have hF := va_free (wc := [(a7, .inr (1, [.null, .null, .null, .null, .int 0, .int 0, .int 0]))]) hD hS hA [9] rfl
  have hr9 := runIN (p := p) (l := l) (e := e) (R := RM_X3_init) (below := below) (meth := meth) (locs := locs) (cells := 9) (slots := 292) (ls := ls) (wc := [(a7, .inr (1, [.null, .null, .null, .null, .int 0, .int 0, .int 0]))]) (As := []) (rest := [.ref a7, .ref h]) fx (c_X1_init l D q H.size a7) lk_X3_30 ⟨Nat.le_of_ble_eq_true rfl, Nat.le_of_ble_eq_true rfl⟩ ⟨rfl, rfl⟩ hP hD [9] rfl rfl rfl hl.1 rfl (Nat.le_of_ble_eq_true rfl) dX3_init_50 ⟨Nat.le_of_ble_eq_true rfl, Nat.le_of_ble_eq_true rfl⟩
  refine kC (wc := [(a7, .inr (1, [.null, .null, .null, .null, .int 0, .int 0, .int 0]))]) hr9 hD hS hA [9] rfl (fun H1 locs hB hk hS => ?_)
  obtain ⟨k8, rfl, hP1, hD1⟩ := hB
  obtain ⟨hP, hD⟩ := va_join (wr := [(h, .inr (3, [.ref (k2 0), .ref a3, .ref a5, .null, .int 0, .int 0, .int 0, .int 0]))] ++ (cRock k2 q (rock0 N) ++ ([oW a3 (k2 0) well0, oW a5 (k2 0) well0]))) (w1 := cTests k8 q tests0) hP hD [9] [0, 1, 2, 3, 4, 5, 6, 7, 8] rfl rfl (by decide) (by decide) hk hF hP1 hD1
  generalize H1 = H at hP hS ⊢
  have hP : va_P D vwCl ([(h, .inr (3, [.ref (k2 0), .ref a3, .ref a5, .null, .int 0, .int 0, .int 0, .int 0]))] ++ (cRock k2 q (rock0 N) ++ ([oW a3 (k2 0) well0, oW a5 (k2 0) well0] ++ (cTests k8 q tests0)))) H := hP
  have hD : va_D A ([(h, .inr (3, [.ref (k2 0), .ref a3, .ref a5, .null, .int 0, .int 0, .int 0, .int 0]))] ++ (cRock k2 q (rock0 N) ++ ([oW a3 (k2 0) well0, oW a5 (k2 0) well0] ++ (cTests k8 q tests0)))) := hD
  refine W.widen (k := 13) (n := 532) (Nat.le_of_ble_eq_true rfl) (Nat.le_of_ble_eq_true rfl) ?_
  refine va_putF (D := D) (ci := 3) (v := .ref (k8 0)) (ty := .object "Kickroom$Tests") (C := RX3) (T := TX3) (N := 8) hx hb fx.2.2.2.2.1 inlX3 tyX3 tyX3_ok nmX3 fx.2.2.2.1 fx.2.2.2.2.2.1 hP hD hS 0 rfl rfl 3 (by decide) (fx.2.2.2.2.1 _ mm_112) (fun _ h9 => h9) rfl hin rfl (by decide +kernel) rfl rfl (Nat.le_of_ble_eq_true rfl) dX3_init_53 (fun H locs hP hD hS => ?_)
  have hP : va_P D vwCl ([(h, .inr (3, [.ref (k2 0), .ref a3, .ref a5, .ref (k8 0), .int 0, .int 0, .int 0, .int 0]))] ++ (cRock k2 q (rock0 N) ++ ([oW a3 (k2 0) well0, oW a5 (k2 0) well0] ++ (cTests k8 q tests0)))) H := hP
  have hD : va_D A ([(h, .inr (3, [.ref (k2 0), .ref a3, .ref a5, .ref (k8 0), .int 0, .int 0, .int 0, .int 0]))] ++ (cRock k2 q (rock0 N) ++ ([oW a3 (k2 0) well0, oW a5 (k2 0) well0] ++ (cTests k8 q tests0)))) := hD
  refine lv_aload_n hx hb dX3_init_56 rfl (lv_at hl 0 rfl) ?_
  refine lv_iconst (v := -1) hx hb dX3_init_57 (by decide) ?_
  refine va_put (D := D) (ci := 3) (v := .int (-1 : Int32)) (ty := .int) (C := RX3) (T := TX3) (N := 8) hx hb fx.2.2.2.2.1 inlX3 tyX3 tyX3_ok nmX3 fx.2.2.2.1 fx.2.2.2.2.2.1 hP hD hS 0 rfl rfl 6 (by decide) (fx.2.2.2.2.1 _ mm_160) (fun _ h9 => h9) rfl (by decide +kernel) rfl rfl (Nat.le_of_ble_eq_true rfl) dX3_init_58 (fun H locs hP hD hS => ?_)
  have hP : va_P D vwCl ([(h, .inr (3, [.ref (k2 0), .ref a3, .ref a5, .ref (k8 0), .int 0, .int 0, .int (-1 : Int32), .int 0]))] ++ (cRock k2 q (rock0 N) ++ ([oW a3 (k2 0) well0, oW a5 (k2 0) well0] ++ (cTests k8 q tests0)))) H := hP
  have hD : va_D A ([(h, .inr (3, [.ref (k2 0), .ref a3, .ref a5, .ref (k8 0), .int 0, .int 0, .int (-1 : Int32), .int 0]))] ++ (cRock k2 q (rock0 N) ++ ([oW a3 (k2 0) well0, oW a5 (k2 0) well0] ++ (cTests k8 q tests0)))) := hD
  have hP9 := hP.sub (ws' := cKick h a3 a5 k2 k8 q kick0 well0 well0 (rock0 N) tests0) [0, 7, 8, 1, 2, 3, 4, 5, 6, 9, 10, 11, 12, 13] rfl
  have hD9 := hD.sub (ws' := cKick h a3 a5 k2 k8 q kick0 well0 well0 (rock0 N) tests0) [0, 7, 8, 1, 2, 3, 4, 5, 6, 9, 10, 11, 12, 13] (by decide) rfl
  exact hret 61 H locs ls dX3_init_61 (fun hAe => ⟨a3, a5, k2, k8, hP9, hAe ▸ hD9⟩) hS
