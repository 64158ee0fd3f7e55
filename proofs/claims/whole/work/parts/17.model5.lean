/-! X4_casing -/
def f_X4_casing_b41 (g : MS) (p0 : Int32) (j11 : Int32) : Int32 × MS :=
  if (f_X4_goesWell g (if (f_X4_in p0 (0 : Int32) (1000 : Int32)) = 0 then (1 : Int32) else (if j11 = 0 then (2 : Int32) else (0 : Int32)))).1 = 0 then ((0 : Int32), ((f_X4_goesWell g (if (f_X4_in p0 (0 : Int32) (1000 : Int32)) = 0 then (1 : Int32) else (if j11 = 0 then (2 : Int32) else (0 : Int32)))).2)) else (((1000 : Int32) * p0) / ((M_depth ((f_X4_goesWell g (if (f_X4_in p0 (0 : Int32) (1000 : Int32)) = 0 then (1 : Int32) else (if j11 = 0 then (2 : Int32) else (0 : Int32)))).2)) - (M_shoe ((f_X4_goesWell g (if (f_X4_in p0 (0 : Int32) (1000 : Int32)) = 0 then (1 : Int32) else (if j11 = 0 then (2 : Int32) else (0 : Int32)))).2))), M_set_casedAfter (M_set_shoe (M_set_cement ((f_X4_goesWell g (if (f_X4_in p0 (0 : Int32) (1000 : Int32)) = 0 then (1 : Int32) else (if j11 = 0 then (2 : Int32) else (0 : Int32)))).2) (((1000 : Int32) * p0) / ((M_depth ((f_X4_goesWell g (if (f_X4_in p0 (0 : Int32) (1000 : Int32)) = 0 then (1 : Int32) else (if j11 = 0 then (2 : Int32) else (0 : Int32)))).2)) - (M_shoe ((f_X4_goesWell g (if (f_X4_in p0 (0 : Int32) (1000 : Int32)) = 0 then (1 : Int32) else (if j11 = 0 then (2 : Int32) else (0 : Int32)))).2))))) (M_depth ((f_X4_goesWell g (if (f_X4_in p0 (0 : Int32) (1000 : Int32)) = 0 then (1 : Int32) else (if j11 = 0 then (2 : Int32) else (0 : Int32)))).2))) (M_tests ((f_X4_goesWell g (if (f_X4_in p0 (0 : Int32) (1000 : Int32)) = 0 then (1 : Int32) else (if j11 = 0 then (2 : Int32) else (0 : Int32)))).2)))

def ok_X4_casing_b41 (g : MS) (p0 : Int32) (j11 : Int32) : Prop :=
  ((f_X4_goesWell g (if (f_X4_in p0 (0 : Int32) (1000 : Int32)) = 0 then (1 : Int32) else (if j11 = 0 then (2 : Int32) else (0 : Int32)))).1 = 0 → True) ∧ (¬ (f_X4_goesWell g (if (f_X4_in p0 (0 : Int32) (1000 : Int32)) = 0 then (1 : Int32) else (if j11 = 0 then (2 : Int32) else (0 : Int32)))).1 = 0 → ((¬ ((M_depth ((f_X4_goesWell g (if (f_X4_in p0 (0 : Int32) (1000 : Int32)) = 0 then (1 : Int32) else (if j11 = 0 then (2 : Int32) else (0 : Int32)))).2)) - (M_shoe ((f_X4_goesWell g (if (f_X4_in p0 (0 : Int32) (1000 : Int32)) = 0 then (1 : Int32) else (if j11 = 0 then (2 : Int32) else (0 : Int32)))).2))) = 0) ∧ True))

def f_X4_casing_b40 (g : MS) (p0 : Int32) : Int32 × MS :=
  f_X4_casing_b41 g p0 (0 : Int32)

def ok_X4_casing_b40 (g : MS) (p0 : Int32) : Prop :=
  ok_X4_casing_b41 g p0 (0 : Int32)

def f_X4_casing (g : MS) (p0 : Int32) : Int32 × MS :=
  if (M_depth g) = (M_shoe g) then (f_X4_casing_b40 g p0) else (if (lg_cmp (M_charge g) (0 : Int64)) = 0 then (if (M_liquid g) = 0 then (f_X4_casing_b41 g p0 (1 : Int32)) else (f_X4_casing_b40 g p0)) else (f_X4_casing_b40 g p0))

def ok_X4_casing (g : MS) (p0 : Int32) : Prop :=
  ((M_depth g) = (M_shoe g) → (ok_X4_casing_b40 g p0)) ∧ (¬ (M_depth g) = (M_shoe g) → (((lg_cmp (M_charge g) (0 : Int64)) = 0 → (((M_liquid g) = 0 → (ok_X4_casing_b41 g p0 (1 : Int32))) ∧ (¬ (M_liquid g) = 0 → (ok_X4_casing_b40 g p0)))) ∧ (¬ (lg_cmp (M_charge g) (0 : Int64)) = 0 → (ok_X4_casing_b40 g p0))))

abbrev RM_X4_casing : Room := { frames := 1, cells := 0, slots := 0, locals := 22 }
set_option maxRecDepth 100000 in
set_option maxHeartbeats 4000000 in
theorem c_X4_casing (l : Launch) (D : va_G) (q : Nat → ClassId) (sz : Nat) (km : Nat → Nat) (g : MS) (p0 : Int32) (hok : ok_X4_casing g p0) : Met l yX4_casing (Cond.code yX4_casing cX4_casing 4 (some .int) :: ALL) RM_X4_casing (PC D q [.ref (km 0), .int p0] (cModel km q g) sz) (va_Qi (fun (rv : Int32) (u : MS) => f_X4_casing g p0 = (rv, u)) (fun u t9 => va_P D vwCl (cModel km q u) t9.heap) (va_A (cModel km q g) sz)) 0 0 (va_A (cModel km q g) sz) := by
  refine en_iW (by decide +kernel) (Nat.le_of_ble_eq_true rfl) ?_
  intro p e s m args below meth c Q A H locs ls fx hD0 hA hP hS hl hret
  have hx := fx.1
  have hb := fx.2.1
  have hl : lv_has ls 4 [(0, .ref (km 0)), (1, .int p0)] := hl
  have hD : ∀ (g9 : MS), va_D _ (cModel km q g9) := fun _ => D_same ((fst_Model _ _ _).trans (fst_Model _ _ _).symm) hD0
  have ht : f_X4_casing g p0 = f_X4_casing g p0 := rfl
  simp only [ok_X4_casing] at hok
  refine lv_iload_n hx hb dX4_casing_0 rfl (lv_at hl 1 rfl) ?_
  refine lv_iconst (v := 0) hx hb dX4_casing_1 (by decide) ?_
  refine lv_sipush (v := 1000) hx hb dX4_casing_2 (by decide) ?_
  refine kR_i (runS fx (As := [.int p0, .int (0 : Int32), .int (1000 : Int32)]) (rest := []) (c_X4_in l D q H.size p0 (0 : Int32) (1000 : Int32)) lk_X4_59 ⟨Nat.le_of_ble_eq_true rfl, Nat.le_of_ble_eq_true rfl⟩ ⟨rfl, rfl⟩ hP (hD _) [] rfl rfl rfl hl.1 rfl (Nat.le_of_ble_eq_true rfl) dX4_casing_5 ⟨Nat.zero_le _, Nat.zero_le _⟩) hP hS (fun r1 _ H locs hr2 hP hS => ?_)
  obtain ⟨rfl, hz3⟩ := hr2
  refine lv_istore_n (lv' := [(2, .int (f_X4_in p0 (0 : Int32) (1000 : Int32))), (0, .ref (km 0)), (1, .int p0)]) hx hb dX4_casing_8 rfl hl (by decide) rfl (fun ls hl => ?_)
  refine lv_aload_n hx hb dX4_casing_9 rfl (lv_at hl 1 rfl) ?_
  refine gf_X4_63 fx hP 0 rfl (v := M_depth g) rfl dX4_casing_10 ?_
  refine lv_aload_n hx hb dX4_casing_13 rfl (lv_at hl 1 rfl) ?_
  refine gf_X4_93 fx hP 0 rfl (v := M_shoe g) rfl dX4_casing_14 ?_
  have K41 : ∀ (j11 : Int32) (H : Heap) (locs : List Loc) (ls : Array Slot), ok_X4_casing_b41 g p0 j11 → f_X4_casing g p0 = f_X4_casing_b41 g p0 j11 → va_P D vwCl (cModel km q g) H → va_S A s.heap H locs → lv_has ls 4 [(0, .ref (km 0)), (1, .int p0), (2, .int (f_X4_in p0 (0 : Int32) (1000 : Int32)))] → W p l e RM_X4_casing s m args below meth c H locs 0 0 Q (F0 m 41 ls [.int j11]) := by
    intro j11 H locs ls hok ht hP hS hl
    simp only [ok_X4_casing_b41] at hok
    refine lv_istore_n (lv' := [(3, .int j11), (0, .ref (km 0)), (1, .int p0), (2, .int (f_X4_in p0 (0 : Int32) (1000 : Int32)))]) hx hb dX4_casing_41 rfl hl (by decide) rfl (fun ls hl => ?_)
    refine lv_aload_n hx hb dX4_casing_42 rfl (lv_at hl 1 rfl) ?_
    refine lv_iload_n hx hb dX4_casing_43 rfl (lv_at hl 3 rfl) ?_
    suffices K : ∀ (v14 : Int32), ∀ (H : Heap) (locs : List Loc) (ls : Array Slot), v14 = (if (f_X4_in p0 (0 : Int32) (1000 : Int32)) = 0 then (1 : Int32) else (if j11 = 0 then (2 : Int32) else (0 : Int32))) → va_P D vwCl (cModel km q g) H → va_S A s.heap H locs → lv_has ls 4 [(0, .ref (km 0)), (1, .int p0)] → W p l e RM_X4_casing s m args below meth c H locs 0 0 Q (F0 m 60 ls [.int v14, .ref (km 0)]) by
      refine lv_if_ne (tgt := 51) hx hb dX4_casing_44 (by decide) (fun c12 => ?_) (fun c12 => ?_)
      · refine lv_iload_n hx hb dX4_casing_51 rfl (lv_at hl 0 rfl) ?_
        refine lv_if_eq (tgt := 59) hx hb dX4_casing_52 (by decide) (fun c13 => ?_) (fun c13 => ?_)
        · refine lv_iconst (v := 2) hx hb dX4_casing_59 (by decide) ?_
          exact K (2 : Int32) H locs ls (by simp only [if_neg c12, if_pos c13]) hP hS (lv_sub hl [1, 2] rfl)
        · refine lv_iconst (v := 0) hx hb dX4_casing_55 (by decide) ?_
          refine lv_goto (tgt := 60) hx hb dX4_casing_56 (by decide) ?_
          exact K (0 : Int32) H locs ls (by simp only [if_neg c12, if_neg c13]) hP hS (lv_sub hl [1, 2] rfl)
      · refine lv_iconst (v := 1) hx hb dX4_casing_47 (by decide) ?_
        refine lv_goto (tgt := 60) hx hb dX4_casing_48 (by decide) ?_
        exact K (1 : Int32) H locs ls (by simp only [if_pos c12]) hP hS (lv_sub hl [1, 2] rfl)
    intro v14 H locs ls hvv14 hP hS hl
    subst hvv14
    refine kM_i (runM fx (As := [.int (if (f_X4_in p0 (0 : Int32) (1000 : Int32)) = 0 then (1 : Int32) else (if j11 = 0 then (2 : Int32) else (0 : Int32)))]) (rest := []) (c_X4_goesWell l D q H.size km g (if (f_X4_in p0 (0 : Int32) (1000 : Int32)) = 0 then (1 : Int32) else (if j11 = 0 then (2 : Int32) else (0 : Int32)))) lk_X4_66 ⟨Nat.le_of_ble_eq_true rfl, Nat.le_of_ble_eq_true rfl⟩ ⟨rfl, rfl⟩ hP (hD _) rfl hl.1 rfl (Nat.le_of_ble_eq_true rfl) dX4_casing_60 ⟨Nat.zero_le _, Nat.zero_le _⟩) hP (hD _) hS hA (fun r17 u15 H locs hw16 hP hS => ?_)
    obtain ⟨hw16, hz18⟩ := hw16
    try simp only [hw16] at hok
    refine lv_if_ne (tgt := 68) hx hb dX4_casing_63 (by decide) (fun c19 => ?_) (fun c19 => ?_)
    · have hok := hok.2 c19
      refine lv_aload_n hx hb dX4_casing_68 rfl (lv_at hl 0 rfl) ?_
      refine lv_sipush (v := 1000) hx hb dX4_casing_69 (by decide) ?_
      refine lv_iload_n hx hb dX4_casing_72 rfl (lv_at hl 1 rfl) ?_
      refine lv_imul hx hb dX4_casing_73 ?_
      refine lv_aload_n hx hb dX4_casing_74 rfl (lv_at hl 0 rfl) ?_
      refine gf_X4_63 fx hP 0 rfl (v := M_depth u15) rfl dX4_casing_75 ?_
      refine lv_aload_n hx hb dX4_casing_78 rfl (lv_at hl 0 rfl) ?_
      refine gf_X4_93 fx hP 0 rfl (v := M_shoe u15) rfl dX4_casing_79 ?_
      refine lv_isub hx hb dX4_casing_82 ?_
      obtain ⟨hn20, hok⟩ := hok
      refine lv_idiv hx hb dX4_casing_83 hn20 ?_
      refine pf_X4_159_M fx hP (hD _) hS dX4_casing_84 (fun H locs hP hS => ?_)
      refine lv_aload_n hx hb dX4_casing_87 rfl (lv_at hl 0 rfl) ?_
      refine lv_aload_n hx hb dX4_casing_88 rfl (lv_at hl 0 rfl) ?_
      refine gf_X4_63 fx hP 0 rfl (v := M_depth u15) (M_depth_set_cement _ _) dX4_casing_89 ?_
      refine pf_X4_93_M fx hP (hD _) hS dX4_casing_92 (fun H locs hP hS => ?_)
      refine lv_aload_n hx hb dX4_casing_95 rfl (lv_at hl 0 rfl) ?_
      refine lv_aload_n hx hb dX4_casing_96 rfl (lv_at hl 0 rfl) ?_
      refine gf_X4_112 fx hP 0 rfl (v := M_tests u15) ((M_tests_set_shoe _ _).trans (M_tests_set_cement _ _)) dX4_casing_97 ?_
      refine pf_X4_162_M fx hP (hD _) hS dX4_casing_100 (fun H locs hP hS => ?_)
      refine lv_aload_n hx hb dX4_casing_103 rfl (lv_at hl 0 rfl) ?_
      refine gf_X4_159 fx hP 0 rfl (v := ((1000 : Int32) * p0) / ((M_depth u15) - (M_shoe u15))) ((M_cement_set_casedAfter _ _).trans ((M_cement_set_shoe _ _).trans (M_cement_set_cement _ _))) dX4_casing_104 ?_
      exact hret (((1000 : Int32) * p0) / ((M_depth u15) - (M_shoe u15))) (M_set_casedAfter (M_set_shoe (M_set_cement u15 (((1000 : Int32) * p0) / ((M_depth u15) - (M_shoe u15)))) (M_depth u15)) (M_tests u15)) _ _ _ _ dX4_casing_107 (ht.trans (by first | (simp only [f_X4_casing_b41, if_neg c19, hw16]; done) | (simp only [f_X4_casing_b41, hw16]; simp only [if_neg c19]))) hP hS
    · have hok := hok.1 c19
      refine lv_iconst (v := 0) hx hb dX4_casing_66 (by decide) ?_
      exact hret (0 : Int32) u15 _ _ _ _ dX4_casing_67 (ht.trans (by first | (simp only [f_X4_casing_b41, if_pos c19, hw16]; done) | (simp only [f_X4_casing_b41, hw16]; simp only [if_pos c19]))) hP hS
  have K40 : ∀ (H : Heap) (locs : List Loc) (ls : Array Slot), ok_X4_casing_b40 g p0 → f_X4_casing g p0 = f_X4_casing_b40 g p0 → va_P D vwCl (cModel km q g) H → va_S A s.heap H locs → lv_has ls 4 [(0, .ref (km 0)), (1, .int p0), (2, .int (f_X4_in p0 (0 : Int32) (1000 : Int32)))] → W p l e RM_X4_casing s m args below meth c H locs 0 0 Q (F0 m 40 ls []) := by
    intro H locs ls hok ht hP hS hl
    simp only [ok_X4_casing_b40] at hok
    refine lv_iconst (v := 0) hx hb dX4_casing_40 (by decide) ?_
    exact K41 (0 : Int32) H locs ls hok (ht.trans (by simp only [f_X4_casing_b40])) hP hS (lv_sub hl [0, 1, 2] rfl)
  refine lv_icmp_eq (tgt := 40) hx hb dX4_casing_17 (by decide) (fun c8 => ?_) (fun c8 => ?_)
  · have hok := hok.1 c8
    exact K40 H locs ls hok (ht.trans (by simp only [f_X4_casing, if_pos c8])) hP hS (lv_sub hl [1, 2, 0] rfl)
  · have hok := hok.2 c8
    refine lv_aload_n hx hb dX4_casing_20 rfl (lv_at hl 1 rfl) ?_
    refine gf_X4_96 fx hP 0 rfl (v := M_charge g) rfl dX4_casing_21 ?_
    refine lv_lconst (v := 0) hx hb dX4_casing_24 (by decide) ?_
    refine W.lcmp hx hb dX4_casing_25 ?_
    refine lv_if_ne (tgt := 40) hx hb dX4_casing_26 (by decide) (fun c9 => ?_) (fun c9 => ?_)
    · have hok := hok.2 c9
      exact K40 H locs ls hok (ht.trans (by simp only [f_X4_casing, if_neg c8, if_neg c9])) hP hS (lv_sub hl [1, 2, 0] rfl)
    · have hok := hok.1 c9
      refine lv_aload_n hx hb dX4_casing_29 rfl (lv_at hl 1 rfl) ?_
      refine gf_X4_80 fx hP 0 rfl (v := M_liquid g) rfl dX4_casing_30 ?_
      refine lv_if_ne (tgt := 40) hx hb dX4_casing_33 (by decide) (fun c10 => ?_) (fun c10 => ?_)
      · have hok := hok.2 c10
        exact K40 H locs ls hok (ht.trans (by simp only [f_X4_casing, if_neg c8, if_pos c9, if_neg c10])) hP hS (lv_sub hl [1, 2, 0] rfl)
      · have hok := hok.1 c10
        refine lv_iconst (v := 1) hx hb dX4_casing_36 (by decide) ?_
        refine lv_goto (tgt := 41) hx hb dX4_casing_37 (by decide) ?_
        exact K41 (1 : Int32) H locs ls hok (ht.trans (by simp only [f_X4_casing, if_neg c8, if_pos c9, if_pos c10])) hP hS (lv_sub hl [1, 2, 0] rfl)

/-! X4_strength -/
def f_X4_strength (g : MS) (p0 : Int32) : Int32 × MS :=
  if (f_X4_goesWell g (if (f_X4_in p0 (0 : Int32) (100000 : Int32)) = 0 then (1 : Int32) else (0 : Int32))).1 = 0 then ((0 : Int32), ((f_X4_goesWell g (if (f_X4_in p0 (0 : Int32) (100000 : Int32)) = 0 then (1 : Int32) else (0 : Int32))).2)) else (M_valve ((f_X4_goesWell g (if (f_X4_in p0 (0 : Int32) (100000 : Int32)) = 0 then (1 : Int32) else (0 : Int32))).2), M_set_valve ((f_X4_goesWell g (if (f_X4_in p0 (0 : Int32) (100000 : Int32)) = 0 then (1 : Int32) else (0 : Int32))).2) p0)

abbrev RM_X4_strength : Room := { frames := 1, cells := 0, slots := 0, locals := 22 }
set_option maxRecDepth 100000 in
set_option maxHeartbeats 4000000 in
theorem c_X4_strength (l : Launch) (D : va_G) (q : Nat → ClassId) (sz : Nat) (km : Nat → Nat) (g : MS) (p0 : Int32) : Met l yX4_strength (Cond.code yX4_strength cX4_strength 3 (some .int) :: ALL) RM_X4_strength (PC D q [.ref (km 0), .int p0] (cModel km q g) sz) (va_Qi (fun (rv : Int32) (u : MS) => f_X4_strength g p0 = (rv, u)) (fun u t9 => va_P D vwCl (cModel km q u) t9.heap) (va_A (cModel km q g) sz)) 0 0 (va_A (cModel km q g) sz) := by
  refine en_iW (by decide +kernel) (Nat.le_of_ble_eq_true rfl) ?_
  intro p e s m args below meth c Q A H locs ls fx hD0 hA hP hS hl hret
  have hx := fx.1
  have hb := fx.2.1
  have hl : lv_has ls 3 [(0, .ref (km 0)), (1, .int p0)] := hl
  have hD : ∀ (g9 : MS), va_D _ (cModel km q g9) := fun _ => D_same ((fst_Model _ _ _).trans (fst_Model _ _ _).symm) hD0
  have ht : f_X4_strength g p0 = f_X4_strength g p0 := rfl
  refine lv_aload_n hx hb dX4_strength_0 rfl (lv_at hl 0 rfl) ?_
  refine lv_iload_n hx hb dX4_strength_1 rfl (lv_at hl 1 rfl) ?_
  refine lv_iconst (v := 0) hx hb dX4_strength_2 (by decide) ?_
  refine lv_ldc hx hb fx.2.2.2.1 (fx.2.2.2.2.1 _ mm_359) dX4_strength_3 ?_
  refine kR_i (runS fx (As := [.int p0, .int (0 : Int32), .int (100000 : Int32)]) (rest := [.ref (km 0)]) (c_X4_in l D q H.size p0 (0 : Int32) (100000 : Int32)) lk_X4_59 ⟨Nat.le_of_ble_eq_true rfl, Nat.le_of_ble_eq_true rfl⟩ ⟨rfl, rfl⟩ hP (hD _) [] rfl rfl rfl hl.1 rfl (Nat.le_of_ble_eq_true rfl) dX4_strength_5 ⟨Nat.zero_le _, Nat.zero_le _⟩) hP hS (fun r1 _ H locs hr2 hP hS => ?_)
  obtain ⟨rfl, hz3⟩ := hr2
  suffices K : ∀ (v5 : Int32), ∀ (H : Heap) (locs : List Loc) (ls : Array Slot), v5 = (if (f_X4_in p0 (0 : Int32) (100000 : Int32)) = 0 then (1 : Int32) else (0 : Int32)) → va_P D vwCl (cModel km q g) H → va_S A s.heap H locs → lv_has ls 3 [(0, .ref (km 0)), (1, .int p0)] → W p l e RM_X4_strength s m args below meth c H locs 0 0 Q (F0 m 16 ls [.int v5, .ref (km 0)]) by
    refine lv_if_eq (tgt := 15) hx hb dX4_strength_8 (by decide) (fun c4 => ?_) (fun c4 => ?_)
    · refine lv_iconst (v := 1) hx hb dX4_strength_15 (by decide) ?_
      exact K (1 : Int32) H locs ls (by simp only [if_pos c4]) hP hS (lv_sub hl [0, 1] rfl)
    · refine lv_iconst (v := 0) hx hb dX4_strength_11 (by decide) ?_
      refine lv_goto (tgt := 16) hx hb dX4_strength_12 (by decide) ?_
      exact K (0 : Int32) H locs ls (by simp only [if_neg c4]) hP hS (lv_sub hl [0, 1] rfl)
  intro v5 H locs ls hvv5 hP hS hl
  subst hvv5
  refine kM_i (runM fx (As := [.int (if (f_X4_in p0 (0 : Int32) (100000 : Int32)) = 0 then (1 : Int32) else (0 : Int32))]) (rest := []) (c_X4_goesWell l D q H.size km g (if (f_X4_in p0 (0 : Int32) (100000 : Int32)) = 0 then (1 : Int32) else (0 : Int32))) lk_X4_66 ⟨Nat.le_of_ble_eq_true rfl, Nat.le_of_ble_eq_true rfl⟩ ⟨rfl, rfl⟩ hP (hD _) rfl hl.1 rfl (Nat.le_of_ble_eq_true rfl) dX4_strength_16 ⟨Nat.zero_le _, Nat.zero_le _⟩) hP (hD _) hS hA (fun r8 u6 H locs hw7 hP hS => ?_)
  obtain ⟨hw7, hz9⟩ := hw7
  refine lv_if_ne (tgt := 24) hx hb dX4_strength_19 (by decide) (fun c10 => ?_) (fun c10 => ?_)
  · refine lv_aload_n hx hb dX4_strength_24 rfl (lv_at hl 0 rfl) ?_
    refine gf_X4_30 fx hP 0 rfl (v := M_valve u6) rfl dX4_strength_25 ?_
    refine lv_istore_n (lv' := [(2, .int (M_valve u6)), (0, .ref (km 0)), (1, .int p0)]) hx hb dX4_strength_28 rfl hl (by decide) rfl (fun ls hl => ?_)
    refine lv_aload_n hx hb dX4_strength_29 rfl (lv_at hl 1 rfl) ?_
    refine lv_iload_n hx hb dX4_strength_30 rfl (lv_at hl 2 rfl) ?_
    refine pf_X4_30_M fx hP (hD _) hS dX4_strength_31 (fun H locs hP hS => ?_)
    refine lv_iload_n hx hb dX4_strength_34 rfl (lv_at hl 0 rfl) ?_
    exact hret (M_valve u6) (M_set_valve u6 p0) _ _ _ _ dX4_strength_35 (ht.trans (by first | (simp only [f_X4_strength, if_neg c10, hw7]; done) | (simp only [f_X4_strength, hw7]; simp only [if_neg c10]))) hP hS
  · refine lv_iconst (v := 0) hx hb dX4_strength_22 (by decide) ?_
    exact hret (0 : Int32) u6 _ _ _ _ dX4_strength_23 (ht.trans (by first | (simp only [f_X4_strength, if_pos c10, hw7]; done) | (simp only [f_X4_strength, hw7]; simp only [if_pos c10]))) hP hS

/-! X4_test -/
def f_X4_test_b59 (g : MS) (p0 : Int32) (p1 : Int32) (j15 : Int32) (j29 : Int32) : Int32 × MS :=
  if (f_X4_goesWell g (if j15 = 0 then (1 : Int32) else (if j29 = 0 then (2 : Int32) else (0 : Int32)))).1 = 0 then ((0 : Int32), ((f_X4_goesWell g (if j15 = 0 then (1 : Int32) else (if j29 = 0 then (2 : Int32) else (0 : Int32)))).2)) else ((upd (M_isPassed ((f_X4_goesWell g (if j15 = 0 then (1 : Int32) else (if j29 = 0 then (2 : Int32) else (0 : Int32)))).2)) (M_tests ((f_X4_goesWell g (if j15 = 0 then (1 : Int32) else (if j29 = 0 then (2 : Int32) else (0 : Int32)))).2)).toNatClampNeg (vp_nar .boolean (if (if p0 = 0 then M_valve ((f_X4_goesWell g (if j15 = 0 then (1 : Int32) else (if j29 = 0 then (2 : Int32) else (0 : Int32)))).2) else M_cement ((f_X4_goesWell g (if j15 = 0 then (1 : Int32) else (if j29 = 0 then (2 : Int32) else (0 : Int32)))).2)) < p1 then (0 : Int32) else (1 : Int32)))) (((M_tests ((f_X4_goesWell g (if j15 = 0 then (1 : Int32) else (if j29 = 0 then (2 : Int32) else (0 : Int32)))).2)) + (1 : Int32)) - (1 : Int32)).toNatClampNeg, M_set_tests (M_set_testedAt (M_set_isPassed (M_set_by (M_set_tested ((f_X4_goesWell g (if j15 = 0 then (1 : Int32) else (if j29 = 0 then (2 : Int32) else (0 : Int32)))).2) (upd (M_tested ((f_X4_goesWell g (if j15 = 0 then (1 : Int32) else (if j29 = 0 then (2 : Int32) else (0 : Int32)))).2)) (M_tests ((f_X4_goesWell g (if j15 = 0 then (1 : Int32) else (if j29 = 0 then (2 : Int32) else (0 : Int32)))).2)).toNatClampNeg p0)) (upd (M_by ((f_X4_goesWell g (if j15 = 0 then (1 : Int32) else (if j29 = 0 then (2 : Int32) else (0 : Int32)))).2)) (M_tests ((f_X4_goesWell g (if j15 = 0 then (1 : Int32) else (if j29 = 0 then (2 : Int32) else (0 : Int32)))).2)).toNatClampNeg p1)) (upd (M_isPassed ((f_X4_goesWell g (if j15 = 0 then (1 : Int32) else (if j29 = 0 then (2 : Int32) else (0 : Int32)))).2)) (M_tests ((f_X4_goesWell g (if j15 = 0 then (1 : Int32) else (if j29 = 0 then (2 : Int32) else (0 : Int32)))).2)).toNatClampNeg (vp_nar .boolean (if (if p0 = 0 then M_valve ((f_X4_goesWell g (if j15 = 0 then (1 : Int32) else (if j29 = 0 then (2 : Int32) else (0 : Int32)))).2) else M_cement ((f_X4_goesWell g (if j15 = 0 then (1 : Int32) else (if j29 = 0 then (2 : Int32) else (0 : Int32)))).2)) < p1 then (0 : Int32) else (1 : Int32))))) (upd (M_testedAt ((f_X4_goesWell g (if j15 = 0 then (1 : Int32) else (if j29 = 0 then (2 : Int32) else (0 : Int32)))).2)) (M_tests ((f_X4_goesWell g (if j15 = 0 then (1 : Int32) else (if j29 = 0 then (2 : Int32) else (0 : Int32)))).2)).toNatClampNeg (M_minutes ((f_X4_goesWell g (if j15 = 0 then (1 : Int32) else (if j29 = 0 then (2 : Int32) else (0 : Int32)))).2)))) ((M_tests ((f_X4_goesWell g (if j15 = 0 then (1 : Int32) else (if j29 = 0 then (2 : Int32) else (0 : Int32)))).2)) + (1 : Int32)))

def ok_X4_test_b59 (g : MS) (p0 : Int32) (p1 : Int32) (j15 : Int32) (j29 : Int32) : Prop :=
  ((f_X4_goesWell g (if j15 = 0 then (1 : Int32) else (if j29 = 0 then (2 : Int32) else (0 : Int32)))).1 = 0 → True) ∧ (¬ (f_X4_goesWell g (if j15 = 0 then (1 : Int32) else (if j29 = 0 then (2 : Int32) else (0 : Int32)))).1 = 0 → ((vp_in (M_tests ((f_X4_goesWell g (if j15 = 0 then (1 : Int32) else (if j29 = 0 then (2 : Int32) else (0 : Int32)))).2)) 60) ∧ ((vp_in (M_tests ((f_X4_goesWell g (if j15 = 0 then (1 : Int32) else (if j29 = 0 then (2 : Int32) else (0 : Int32)))).2)) 60) ∧ ((vp_in (M_tests ((f_X4_goesWell g (if j15 = 0 then (1 : Int32) else (if j29 = 0 then (2 : Int32) else (0 : Int32)))).2)) 60) ∧ ((vp_in (M_tests ((f_X4_goesWell g (if j15 = 0 then (1 : Int32) else (if j29 = 0 then (2 : Int32) else (0 : Int32)))).2)) 60) ∧ ((vp_in (((M_tests ((f_X4_goesWell g (if j15 = 0 then (1 : Int32) else (if j29 = 0 then (2 : Int32) else (0 : Int32)))).2)) + (1 : Int32)) - (1 : Int32)) 60) ∧ ((bz ((upd (M_isPassed ((f_X4_goesWell g (if j15 = 0 then (1 : Int32) else (if j29 = 0 then (2 : Int32) else (0 : Int32)))).2)) (M_tests ((f_X4_goesWell g (if j15 = 0 then (1 : Int32) else (if j29 = 0 then (2 : Int32) else (0 : Int32)))).2)).toNatClampNeg (vp_nar .boolean (if (if p0 = 0 then M_valve ((f_X4_goesWell g (if j15 = 0 then (1 : Int32) else (if j29 = 0 then (2 : Int32) else (0 : Int32)))).2) else M_cement ((f_X4_goesWell g (if j15 = 0 then (1 : Int32) else (if j29 = 0 then (2 : Int32) else (0 : Int32)))).2)) < p1 then (0 : Int32) else (1 : Int32)))) (((M_tests ((f_X4_goesWell g (if j15 = 0 then (1 : Int32) else (if j29 = 0 then (2 : Int32) else (0 : Int32)))).2)) + (1 : Int32)) - (1 : Int32)).toNatClampNeg)) ∧ True)))))))

def f_X4_test_b58 (g : MS) (p0 : Int32) (p1 : Int32) (j15 : Int32) : Int32 × MS :=
  f_X4_test_b59 g p0 p1 j15 (0 : Int32)

def ok_X4_test_b58 (g : MS) (p0 : Int32) (p1 : Int32) (j15 : Int32) : Prop :=
  ok_X4_test_b59 g p0 p1 j15 (0 : Int32)

def f_X4_test_b54 (g : MS) (p0 : Int32) (p1 : Int32) (j15 : Int32) : Int32 × MS :=
  f_X4_test_b59 g p0 p1 j15 (1 : Int32)

def ok_X4_test_b54 (g : MS) (p0 : Int32) (p1 : Int32) (j15 : Int32) : Prop :=
  ok_X4_test_b59 g p0 p1 j15 (1 : Int32)

def f_X4_test_b26 (g : MS) (p0 : Int32) (p1 : Int32) (j15 : Int32) : Int32 × MS :=
  if (M_isClosed g) = 0 then (if (60 : Int32) ≤ (M_tests g) then (f_X4_test_b58 g p0 p1 j15) else (if p0 = 0 then (f_X4_test_b54 g p0 p1 j15) else (if (M_shoe g) ≤ 0 then (f_X4_test_b58 g p0 p1 j15) else (f_X4_test_b54 g p0 p1 j15)))) else (f_X4_test_b58 g p0 p1 j15)

def ok_X4_test_b26 (g : MS) (p0 : Int32) (p1 : Int32) (j15 : Int32) : Prop :=
  ((M_isClosed g) = 0 → (((60 : Int32) ≤ (M_tests g) → (ok_X4_test_b58 g p0 p1 j15)) ∧ (¬ (60 : Int32) ≤ (M_tests g) → ((p0 = 0 → (ok_X4_test_b54 g p0 p1 j15)) ∧ (¬ p0 = 0 → (((M_shoe g) ≤ 0 → (ok_X4_test_b58 g p0 p1 j15)) ∧ (¬ (M_shoe g) ≤ 0 → (ok_X4_test_b54 g p0 p1 j15)))))))) ∧ (¬ (M_isClosed g) = 0 → (ok_X4_test_b58 g p0 p1 j15))

def f_X4_test_b25 (g : MS) (p0 : Int32) (p1 : Int32) : Int32 × MS :=
  f_X4_test_b26 g p0 p1 (0 : Int32)

def ok_X4_test_b25 (g : MS) (p0 : Int32) (p1 : Int32) : Prop :=
  ok_X4_test_b26 g p0 p1 (0 : Int32)

def f_X4_test (g : MS) (p0 : Int32) (p1 : Int32) : Int32 × MS :=
  if (f_X4_in p0 (0 : Int32) (1 : Int32)) = 0 then (f_X4_test_b25 g p0 p1) else (if (f_X4_in p1 (1000 : Int32) (100000 : Int32)) = 0 then (f_X4_test_b25 g p0 p1) else (f_X4_test_b26 g p0 p1 (1 : Int32)))

def ok_X4_test (g : MS) (p0 : Int32) (p1 : Int32) : Prop :=
  ((f_X4_in p0 (0 : Int32) (1 : Int32)) = 0 → (ok_X4_test_b25 g p0 p1)) ∧ (¬ (f_X4_in p0 (0 : Int32) (1 : Int32)) = 0 → (((f_X4_in p1 (1000 : Int32) (100000 : Int32)) = 0 → (ok_X4_test_b25 g p0 p1)) ∧ (¬ (f_X4_in p1 (1000 : Int32) (100000 : Int32)) = 0 → (ok_X4_test_b26 g p0 p1 (1 : Int32)))))

abbrev RM_X4_test : Room := { frames := 1, cells := 0, slots := 0, locals := 22 }
set_option maxRecDepth 100000 in
set_option maxHeartbeats 4000000 in
theorem c_X4_test (l : Launch) (D : va_G) (q : Nat → ClassId) (sz : Nat) (km : Nat → Nat) (g : MS) (p0 : Int32) (p1 : Int32) (hok : ok_X4_test g p0 p1) : Met l yX4_test (Cond.code yX4_test cX4_test 5 (some .boolean) :: ALL) RM_X4_test (PC D q [.ref (km 0), .int p0, .int p1] (cModel km q g) sz) (va_Qi (fun (rv : Int32) (u : MS) => f_X4_test g p0 p1 = (rv, u) ∧ bz rv) (fun u t9 => va_P D vwCl (cModel km q u) t9.heap) (va_A (cModel km q g) sz)) 0 0 (va_A (cModel km q g) sz) := by
  refine en_zW (by decide +kernel) (Nat.le_of_ble_eq_true rfl) ?_
  intro p e s m args below meth c Q A H locs ls fx hD0 hA hP hS hl hret
  have hx := fx.1
  have hb := fx.2.1
  have hl : lv_has ls 5 [(0, .ref (km 0)), (1, .int p0), (2, .int p1)] := hl
  have hD : ∀ (g9 : MS), va_D _ (cModel km q g9) := fun _ => D_same ((fst_Model _ _ _).trans (fst_Model _ _ _).symm) hD0
  have ht : f_X4_test g p0 p1 = f_X4_test g p0 p1 := rfl
  simp only [ok_X4_test] at hok
  refine lv_iload_n hx hb dX4_test_0 rfl (lv_at hl 1 rfl) ?_
  refine lv_iconst (v := 0) hx hb dX4_test_1 (by decide) ?_
  refine lv_iconst (v := 1) hx hb dX4_test_2 (by decide) ?_
  refine kR_i (runS fx (As := [.int p0, .int (0 : Int32), .int (1 : Int32)]) (rest := []) (c_X4_in l D q H.size p0 (0 : Int32) (1 : Int32)) lk_X4_59 ⟨Nat.le_of_ble_eq_true rfl, Nat.le_of_ble_eq_true rfl⟩ ⟨rfl, rfl⟩ hP (hD _) [] rfl rfl rfl hl.1 rfl (Nat.le_of_ble_eq_true rfl) dX4_test_3 ⟨Nat.zero_le _, Nat.zero_le _⟩) hP hS (fun r1 _ H locs hr2 hP hS => ?_)
  obtain ⟨rfl, hz3⟩ := hr2
  have K26 : ∀ (j15 : Int32) (H : Heap) (locs : List Loc) (ls : Array Slot), ok_X4_test_b26 g p0 p1 j15 → f_X4_test g p0 p1 = f_X4_test_b26 g p0 p1 j15 → va_P D vwCl (cModel km q g) H → va_S A s.heap H locs → lv_has ls 5 [(0, .ref (km 0)), (1, .int p0), (2, .int p1)] → W p l e RM_X4_test s m args below meth c H locs 0 0 Q (F0 m 26 ls [.int j15]) := by
    intro j15 H locs ls hok ht hP hS hl
    simp only [ok_X4_test_b26] at hok
    refine lv_istore_n (lv' := [(3, .int j15), (0, .ref (km 0)), (1, .int p0), (2, .int p1)]) hx hb dX4_test_26 rfl hl (by decide) rfl (fun ls hl => ?_)
    refine lv_aload_n hx hb dX4_test_27 rfl (lv_at hl 1 rfl) ?_
    refine gf_X4_70 fx hP 0 rfl (v := M_isClosed g) rfl dX4_test_28 ?_
    have K59 : ∀ (j29 : Int32) (H : Heap) (locs : List Loc) (ls : Array Slot), ok_X4_test_b59 g p0 p1 j15 j29 → f_X4_test g p0 p1 = f_X4_test_b59 g p0 p1 j15 j29 → va_P D vwCl (cModel km q g) H → va_S A s.heap H locs → lv_has ls 5 [(0, .ref (km 0)), (1, .int p0), (2, .int p1), (3, .int j15)] → W p l e RM_X4_test s m args below meth c H locs 0 0 Q (F0 m 59 ls [.int j29]) := by
      intro j29 H locs ls hok ht hP hS hl
      simp only [ok_X4_test_b59] at hok
      refine lv_istore (lv' := [(4, .int j29), (0, .ref (km 0)), (1, .int p0), (2, .int p1), (3, .int j15)]) hx hb dX4_test_59 hl (by decide) rfl (fun ls hl => ?_)
      refine lv_aload_n hx hb dX4_test_61 rfl (lv_at hl 1 rfl) ?_
      refine lv_iload_n hx hb dX4_test_62 rfl (lv_at hl 4 rfl) ?_
      suffices K : ∀ (v32 : Int32), ∀ (H : Heap) (locs : List Loc) (ls : Array Slot), v32 = (if j15 = 0 then (1 : Int32) else (if j29 = 0 then (2 : Int32) else (0 : Int32))) → va_P D vwCl (cModel km q g) H → va_S A s.heap H locs → lv_has ls 5 [(0, .ref (km 0)), (1, .int p0), (2, .int p1)] → W p l e RM_X4_test s m args below meth c H locs 0 0 Q (F0 m 80 ls [.int v32, .ref (km 0)]) by
        refine lv_if_ne (tgt := 70) hx hb dX4_test_63 (by decide) (fun c30 => ?_) (fun c30 => ?_)
        · refine lv_iload hx hb dX4_test_70 (lv_at hl 0 rfl) ?_
          refine lv_if_eq (tgt := 79) hx hb dX4_test_72 (by decide) (fun c31 => ?_) (fun c31 => ?_)
          · refine lv_iconst (v := 2) hx hb dX4_test_79 (by decide) ?_
            exact K (2 : Int32) H locs ls (by simp only [if_neg c30, if_pos c31]) hP hS (lv_sub hl [1, 2, 3] rfl)
          · refine lv_iconst (v := 0) hx hb dX4_test_75 (by decide) ?_
            refine lv_goto (tgt := 80) hx hb dX4_test_76 (by decide) ?_
            exact K (0 : Int32) H locs ls (by simp only [if_neg c30, if_neg c31]) hP hS (lv_sub hl [1, 2, 3] rfl)
        · refine lv_iconst (v := 1) hx hb dX4_test_66 (by decide) ?_
          refine lv_goto (tgt := 80) hx hb dX4_test_67 (by decide) ?_
          exact K (1 : Int32) H locs ls (by simp only [if_pos c30]) hP hS (lv_sub hl [1, 2, 3] rfl)
      intro v32 H locs ls hvv32 hP hS hl
      subst hvv32
      refine kM_i (runM fx (As := [.int (if j15 = 0 then (1 : Int32) else (if j29 = 0 then (2 : Int32) else (0 : Int32)))]) (rest := []) (c_X4_goesWell l D q H.size km g (if j15 = 0 then (1 : Int32) else (if j29 = 0 then (2 : Int32) else (0 : Int32)))) lk_X4_66 ⟨Nat.le_of_ble_eq_true rfl, Nat.le_of_ble_eq_true rfl⟩ ⟨rfl, rfl⟩ hP (hD _) rfl hl.1 rfl (Nat.le_of_ble_eq_true rfl) dX4_test_80 ⟨Nat.zero_le _, Nat.zero_le _⟩) hP (hD _) hS hA (fun r35 u33 H locs hw34 hP hS => ?_)
      obtain ⟨hw34, hz36⟩ := hw34
      try simp only [hw34] at hok
      refine lv_if_ne (tgt := 88) hx hb dX4_test_83 (by decide) (fun c37 => ?_) (fun c37 => ?_)
      · have hok := hok.2 c37
        refine lv_aload_n hx hb dX4_test_88 rfl (lv_at hl 0 rfl) ?_
        refine gf_X4_37 fx hP 0 rfl dX4_test_89 ?_
        refine lv_aload_n hx hb dX4_test_92 rfl (lv_at hl 0 rfl) ?_
        refine gf_X4_112 fx hP 0 rfl (v := M_tests u33) rfl dX4_test_93 ?_
        refine lv_iload_n hx hb dX4_test_96 rfl (lv_at hl 1 rfl) ?_
        obtain ⟨hi38, hok⟩ := hok
        refine as_tested fx hP (hD _) hS (f := M_tested u33) rfl hi38 dX4_test_97 (fun H locs hP hS => ?_)
        refine lv_aload_n hx hb dX4_test_98 rfl (lv_at hl 0 rfl) ?_
        refine gf_X4_40 fx hP 0 rfl dX4_test_99 ?_
        refine lv_aload_n hx hb dX4_test_102 rfl (lv_at hl 0 rfl) ?_
        refine gf_X4_112 fx hP 0 rfl (v := M_tests u33) (M_tests_set_tested _ _) dX4_test_103 ?_
        refine lv_iload_n hx hb dX4_test_106 rfl (lv_at hl 2 rfl) ?_
        obtain ⟨hi39, hok⟩ := hok
        refine as_by fx hP (hD _) hS (f := M_by u33) (M_by_set_tested _ _) hi39 dX4_test_107 (fun H locs hP hS => ?_)
        refine lv_aload_n hx hb dX4_test_108 rfl (lv_at hl 0 rfl) ?_
        refine gf_X4_43 fx hP 0 rfl dX4_test_109 ?_
        refine lv_aload_n hx hb dX4_test_112 rfl (lv_at hl 0 rfl) ?_
        refine gf_X4_112 fx hP 0 rfl (v := M_tests u33) ((M_tests_set_by _ _).trans (M_tests_set_tested _ _)) dX4_test_113 ?_
        refine lv_iload_n hx hb dX4_test_116 rfl (lv_at hl 2 rfl) ?_
        refine lv_iload_n hx hb dX4_test_117 rfl (lv_at hl 1 rfl) ?_
        suffices K : ∀ (v41 : Int32), ∀ (H : Heap) (locs : List Loc) (ls : Array Slot), v41 = (if p0 = 0 then M_valve u33 else M_cement u33) → va_P D vwCl (cModel km q (M_set_by (M_set_tested u33 (upd (M_tested u33) (M_tests u33).toNatClampNeg p0)) (upd (M_by u33) (M_tests u33).toNatClampNeg p1))) H → va_S A s.heap H locs → lv_has ls 5 [(0, .ref (km 0))] → W p l e RM_X4_test s m args below meth c H locs 0 0 Q (F0 m 132 ls [.int v41, .int p1, .int (M_tests u33), .ref (km 8)]) by
          refine lv_if_ne (tgt := 128) hx hb dX4_test_118 (by decide) (fun c40 => ?_) (fun c40 => ?_)
          · refine lv_aload_n hx hb dX4_test_128 rfl (lv_at hl 0 rfl) ?_
            refine gf_X4_159 fx hP 0 rfl (v := M_cement u33) ((M_cement_set_by _ _).trans (M_cement_set_tested _ _)) dX4_test_129 ?_
            exact K (M_cement u33) H locs ls (by simp only [if_neg c40, hw34]) hP hS (lv_sub hl [0] rfl)
          · refine lv_aload_n hx hb dX4_test_121 rfl (lv_at hl 0 rfl) ?_
            refine gf_X4_30 fx hP 0 rfl (v := M_valve u33) ((M_valve_set_by _ _).trans (M_valve_set_tested _ _)) dX4_test_122 ?_
            refine lv_goto (tgt := 132) hx hb dX4_test_125 (by decide) ?_
            exact K (M_valve u33) H locs ls (by simp only [if_pos c40, hw34]) hP hS (lv_sub hl [0] rfl)
        intro v41 H locs ls hvv41 hP hS hl
        subst hvv41
        suffices K : ∀ (v43 : Int32), ∀ (H : Heap) (locs : List Loc) (ls : Array Slot), v43 = (if (if p0 = 0 then M_valve u33 else M_cement u33) < p1 then (0 : Int32) else (1 : Int32)) → va_P D vwCl (cModel km q (M_set_by (M_set_tested u33 (upd (M_tested u33) (M_tests u33).toNatClampNeg p0)) (upd (M_by u33) (M_tests u33).toNatClampNeg p1))) H → va_S A s.heap H locs → lv_has ls 5 [(0, .ref (km 0))] → W p l e RM_X4_test s m args below meth c H locs 0 0 Q (F0 m 140 ls [.int v43, .int (M_tests u33), .ref (km 8)]) by
          refine lv_icmp_gt (tgt := 139) hx hb dX4_test_132 (by decide) (fun c42 => ?_) (fun c42 => ?_)
          · refine lv_iconst (v := 0) hx hb dX4_test_139 (by decide) ?_
            exact K (0 : Int32) H locs ls (by simp only [if_pos c42, hw34]) hP hS (lv_sub hl [0] rfl)
          · refine lv_iconst (v := 1) hx hb dX4_test_135 (by decide) ?_
            refine lv_goto (tgt := 140) hx hb dX4_test_136 (by decide) ?_
            exact K (1 : Int32) H locs ls (by simp only [if_neg c42, hw34]) hP hS (lv_sub hl [0] rfl)
        intro v43 H locs ls hvv43 hP hS hl
        subst hvv43
        obtain ⟨hi44, hok⟩ := hok
        refine as_isPassed fx hP (hD _) hS (f := M_isPassed u33) ((M_isPassed_set_by _ _).trans (M_isPassed_set_tested _ _)) hi44 dX4_test_140 (fun H locs hP hS => ?_)
        refine lv_aload_n hx hb dX4_test_141 rfl (lv_at hl 0 rfl) ?_
        refine gf_X4_46 fx hP 0 rfl dX4_test_142 ?_
        refine lv_aload_n hx hb dX4_test_145 rfl (lv_at hl 0 rfl) ?_
        refine gf_X4_112 fx hP 0 rfl (v := M_tests u33) ((M_tests_set_isPassed _ _).trans ((M_tests_set_by _ _).trans (M_tests_set_tested _ _))) dX4_test_146 ?_
        refine lv_aload_n hx hb dX4_test_149 rfl (lv_at hl 0 rfl) ?_
        refine gf_X4_128 fx hP 0 rfl (v := M_minutes u33) ((M_minutes_set_isPassed _ _).trans ((M_minutes_set_by _ _).trans (M_minutes_set_tested _ _))) dX4_test_150 ?_
        obtain ⟨hi45, hok⟩ := hok
        refine as_testedAt fx hP (hD _) hS (f := M_testedAt u33) ((M_testedAt_set_isPassed _ _).trans ((M_testedAt_set_by _ _).trans (M_testedAt_set_tested _ _))) hi45 dX4_test_153 (fun H locs hP hS => ?_)
        refine lv_aload_n hx hb dX4_test_154 rfl (lv_at hl 0 rfl) ?_
        refine lv_dup hx hb dX4_test_155 rfl ?_
        refine gf_X4_112 fx hP 0 rfl (v := M_tests u33) ((M_tests_set_testedAt _ _).trans ((M_tests_set_isPassed _ _).trans ((M_tests_set_by _ _).trans (M_tests_set_tested _ _)))) dX4_test_156 ?_
        refine lv_iconst (v := 1) hx hb dX4_test_159 (by decide) ?_
        refine lv_iadd hx hb dX4_test_160 ?_
        refine pf_X4_112_M fx hP (hD _) hS dX4_test_161 (fun H locs hP hS => ?_)
        refine lv_aload_n hx hb dX4_test_164 rfl (lv_at hl 0 rfl) ?_
        refine gf_X4_43 fx hP 0 rfl dX4_test_165 ?_
        refine lv_aload_n hx hb dX4_test_168 rfl (lv_at hl 0 rfl) ?_
        refine gf_X4_112 fx hP 0 rfl (v := (M_tests u33) + (1 : Int32)) (M_tests_set_tests _ _) dX4_test_169 ?_
        refine lv_iconst (v := 1) hx hb dX4_test_172 (by decide) ?_
        refine lv_isub hx hb dX4_test_173 ?_
        obtain ⟨hi46, hok⟩ := hok
        refine al_isPassed fx hP (f := upd (M_isPassed u33) (M_tests u33).toNatClampNeg (vp_nar .boolean (if (if p0 = 0 then M_valve u33 else M_cement u33) < p1 then (0 : Int32) else (1 : Int32)))) ((M_isPassed_set_tests _ _).trans ((M_isPassed_set_testedAt _ _).trans (M_isPassed_set_isPassed _ _))) hi46 dX4_test_174 ?_
        obtain ⟨hz47, hok⟩ := hok
        exact hret ((upd (M_isPassed u33) (M_tests u33).toNatClampNeg (vp_nar .boolean (if (if p0 = 0 then M_valve u33 else M_cement u33) < p1 then (0 : Int32) else (1 : Int32)))) (((M_tests u33) + (1 : Int32)) - (1 : Int32)).toNatClampNeg) (M_set_tests (M_set_testedAt (M_set_isPassed (M_set_by (M_set_tested u33 (upd (M_tested u33) (M_tests u33).toNatClampNeg p0)) (upd (M_by u33) (M_tests u33).toNatClampNeg p1)) (upd (M_isPassed u33) (M_tests u33).toNatClampNeg (vp_nar .boolean (if (if p0 = 0 then M_valve u33 else M_cement u33) < p1 then (0 : Int32) else (1 : Int32))))) (upd (M_testedAt u33) (M_tests u33).toNatClampNeg (M_minutes u33))) ((M_tests u33) + (1 : Int32))) _ _ _ _ dX4_test_175 hz47 (ht.trans (by first | (simp only [f_X4_test_b59, if_neg c37, hw34]; done) | (simp only [f_X4_test_b59, hw34]; simp only [if_neg c37]))) hP hS
      · have hok := hok.1 c37
        refine lv_iconst (v := 0) hx hb dX4_test_86 (by decide) ?_
        exact hret (0 : Int32) u33 _ _ _ _ dX4_test_87 bz0 (ht.trans (by first | (simp only [f_X4_test_b59, if_pos c37, hw34]; done) | (simp only [f_X4_test_b59, hw34]; simp only [if_pos c37]))) hP hS
    have K58 : ∀ (H : Heap) (locs : List Loc) (ls : Array Slot), ok_X4_test_b58 g p0 p1 j15 → f_X4_test g p0 p1 = f_X4_test_b58 g p0 p1 j15 → va_P D vwCl (cModel km q g) H → va_S A s.heap H locs → lv_has ls 5 [(0, .ref (km 0)), (1, .int p0), (2, .int p1), (3, .int j15)] → W p l e RM_X4_test s m args below meth c H locs 0 0 Q (F0 m 58 ls []) := by
      intro H locs ls hok ht hP hS hl
      simp only [ok_X4_test_b58] at hok
      refine lv_iconst (v := 0) hx hb dX4_test_58 (by decide) ?_
      exact K59 (0 : Int32) H locs ls hok (ht.trans (by simp only [f_X4_test_b58])) hP hS (lv_sub hl [0, 1, 2, 3] rfl)
    refine lv_if_ne (tgt := 58) hx hb dX4_test_31 (by decide) (fun c23 => ?_) (fun c23 => ?_)
    · have hok := hok.2 c23
      exact K58 H locs ls hok (ht.trans (by simp only [f_X4_test_b26, if_neg c23])) hP hS (lv_sub hl [1, 2, 3, 0] rfl)
    · have hok := hok.1 c23
      refine lv_aload_n hx hb dX4_test_34 rfl (lv_at hl 1 rfl) ?_
      refine gf_X4_112 fx hP 0 rfl (v := M_tests g) rfl dX4_test_35 ?_
      refine lv_bipush (v := 60) hx hb dX4_test_38 (by decide) ?_
      refine lv_icmp_ge (tgt := 58) hx hb dX4_test_40 (by decide) (fun c24 => ?_) (fun c24 => ?_)
      · have hok := hok.1 c24
        exact K58 H locs ls hok (ht.trans (by simp only [f_X4_test_b26, if_pos c23, if_pos c24])) hP hS (lv_sub hl [1, 2, 3, 0] rfl)
      · have hok := hok.2 c24
        refine lv_iload_n hx hb dX4_test_43 rfl (lv_at hl 2 rfl) ?_
        have K54 : ∀ (H : Heap) (locs : List Loc) (ls : Array Slot), ok_X4_test_b54 g p0 p1 j15 → f_X4_test g p0 p1 = f_X4_test_b54 g p0 p1 j15 → va_P D vwCl (cModel km q g) H → va_S A s.heap H locs → lv_has ls 5 [(0, .ref (km 0)), (1, .int p0), (2, .int p1), (3, .int j15)] → W p l e RM_X4_test s m args below meth c H locs 0 0 Q (F0 m 54 ls []) := by
          intro H locs ls hok ht hP hS hl
          simp only [ok_X4_test_b54] at hok
          refine lv_iconst (v := 1) hx hb dX4_test_54 (by decide) ?_
          refine lv_goto (tgt := 59) hx hb dX4_test_55 (by decide) ?_
          exact K59 (1 : Int32) H locs ls hok (ht.trans (by simp only [f_X4_test_b54])) hP hS (lv_sub hl [0, 1, 2, 3] rfl)
        refine lv_if_eq (tgt := 54) hx hb dX4_test_44 (by decide) (fun c27 => ?_) (fun c27 => ?_)
        · have hok := hok.1 c27
          exact K54 H locs ls hok (ht.trans (by simp only [f_X4_test_b26, if_pos c23, if_neg c24, if_pos c27])) hP hS (lv_sub hl [1, 2, 3, 0] rfl)
        · have hok := hok.2 c27
          refine lv_aload_n hx hb dX4_test_47 rfl (lv_at hl 1 rfl) ?_
          refine gf_X4_93 fx hP 0 rfl (v := M_shoe g) rfl dX4_test_48 ?_
          refine lv_if_le (tgt := 58) hx hb dX4_test_51 (by decide) (fun c28 => ?_) (fun c28 => ?_)
          · have hok := hok.1 c28
            exact K58 H locs ls hok (ht.trans (by simp only [f_X4_test_b26, if_pos c23, if_neg c24, if_neg c27, if_pos c28])) hP hS (lv_sub hl [1, 2, 3, 0] rfl)
          · have hok := hok.2 c28
            exact K54 H locs ls hok (ht.trans (by simp only [f_X4_test_b26, if_pos c23, if_neg c24, if_neg c27, if_neg c28])) hP hS (lv_sub hl [1, 2, 3, 0] rfl)
  have K25 : ∀ (H : Heap) (locs : List Loc) (ls : Array Slot), ok_X4_test_b25 g p0 p1 → f_X4_test g p0 p1 = f_X4_test_b25 g p0 p1 → va_P D vwCl (cModel km q g) H → va_S A s.heap H locs → lv_has ls 5 [(0, .ref (km 0)), (1, .int p0), (2, .int p1)] → W p l e RM_X4_test s m args below meth c H locs 0 0 Q (F0 m 25 ls []) := by
    intro H locs ls hok ht hP hS hl
    simp only [ok_X4_test_b25] at hok
    refine lv_iconst (v := 0) hx hb dX4_test_25 (by decide) ?_
    exact K26 (0 : Int32) H locs ls hok (ht.trans (by simp only [f_X4_test_b25])) hP hS (lv_sub hl [0, 1, 2] rfl)
  refine lv_if_eq (tgt := 25) hx hb dX4_test_6 (by decide) (fun c10 => ?_) (fun c10 => ?_)
  · have hok := hok.1 c10
    exact K25 H locs ls hok (ht.trans (by simp only [f_X4_test, if_pos c10])) hP hS (lv_sub hl [0, 1, 2] rfl)
  · have hok := hok.2 c10
    refine lv_iload_n hx hb dX4_test_9 rfl (lv_at hl 2 rfl) ?_
    refine lv_sipush (v := 1000) hx hb dX4_test_10 (by decide) ?_
    refine lv_ldc hx hb fx.2.2.2.1 (fx.2.2.2.2.1 _ mm_359) dX4_test_13 ?_
    refine kR_i (runS fx (As := [.int p1, .int (1000 : Int32), .int (100000 : Int32)]) (rest := []) (c_X4_in l D q H.size p1 (1000 : Int32) (100000 : Int32)) lk_X4_59 ⟨Nat.le_of_ble_eq_true rfl, Nat.le_of_ble_eq_true rfl⟩ ⟨rfl, rfl⟩ hP (hD _) [] rfl rfl rfl hl.1 rfl (Nat.le_of_ble_eq_true rfl) dX4_test_15 ⟨Nat.zero_le _, Nat.zero_le _⟩) hP hS (fun r11 _ H locs hr12 hP hS => ?_)
    obtain ⟨rfl, hz13⟩ := hr12
    refine lv_if_eq (tgt := 25) hx hb dX4_test_18 (by decide) (fun c14 => ?_) (fun c14 => ?_)
    · have hok := hok.1 c14
      exact K25 H locs ls hok (ht.trans (by simp only [f_X4_test, if_neg c10, if_pos c14])) hP hS (lv_sub hl [0, 1, 2] rfl)
    · have hok := hok.2 c14
      refine lv_iconst (v := 1) hx hb dX4_test_21 (by decide) ?_
      refine lv_goto (tgt := 26) hx hb dX4_test_22 (by decide) ?_
      exact K26 (1 : Int32) H locs ls hok (ht.trans (by simp only [f_X4_test, if_neg c10, if_neg c14])) hP hS (lv_sub hl [0, 1, 2] rfl)

/-! X4_stop -/
def f_X4_stop_L35 (g : MS) (p0 : Int32) (p1 : Int32) : Nat → Int32 → Int32 → Int32
  | 0, _, i19 => i19
  | n + 1, i18, i19 => if (6 : Int32) ≤ i18 then i19 else (if ((upd (M_stops ((f_X4_goesWell g (if (f_X4_in p0 (0 : Int32) (5 : Int32)) = 0 then (1 : Int32) else (0 : Int32))).2)) p0.toNatClampNeg (vp_nar .boolean p1)) i18.toNatClampNeg) = 0 then (f_X4_stop_L35 g p0 p1 n (i18 + (1 : Int32)) (i19 + (0 : Int32))) else (f_X4_stop_L35 g p0 p1 n (i18 + (1 : Int32)) (i19 + (1 : Int32))))

def ok_X4_stop_L35 (g : MS) (p0 : Int32) (p1 : Int32) : Nat → Int32 → Int32 → Prop
  | 0, _, _ => False
  | n + 1, i18, i19 => ((6 : Int32) ≤ i18 → True) ∧ (¬ (6 : Int32) ≤ i18 → ((vp_in i18 6) ∧ ((((upd (M_stops ((f_X4_goesWell g (if (f_X4_in p0 (0 : Int32) (5 : Int32)) = 0 then (1 : Int32) else (0 : Int32))).2)) p0.toNatClampNeg (vp_nar .boolean p1)) i18.toNatClampNeg) = 0 → (ok_X4_stop_L35 g p0 p1 n (i18 + (1 : Int32)) (i19 + (0 : Int32)))) ∧ (¬ ((upd (M_stops ((f_X4_goesWell g (if (f_X4_in p0 (0 : Int32) (5 : Int32)) = 0 then (1 : Int32) else (0 : Int32))).2)) p0.toNatClampNeg (vp_nar .boolean p1)) i18.toNatClampNeg) = 0 → (ok_X4_stop_L35 g p0 p1 n (i18 + (1 : Int32)) (i19 + (1 : Int32)))))))

def f_X4_stop (N : Nat) (g : MS) (p0 : Int32) (p1 : Int32) : Int32 × MS :=
  if (f_X4_goesWell g (if (f_X4_in p0 (0 : Int32) (5 : Int32)) = 0 then (1 : Int32) else (0 : Int32))).1 = 0 then ((0 : Int32), ((f_X4_goesWell g (if (f_X4_in p0 (0 : Int32) (5 : Int32)) = 0 then (1 : Int32) else (0 : Int32))).2)) else (f_X4_stop_L35 g p0 p1 N (0 : Int32) (0 : Int32), M_set_stops ((f_X4_goesWell g (if (f_X4_in p0 (0 : Int32) (5 : Int32)) = 0 then (1 : Int32) else (0 : Int32))).2) (upd (M_stops ((f_X4_goesWell g (if (f_X4_in p0 (0 : Int32) (5 : Int32)) = 0 then (1 : Int32) else (0 : Int32))).2)) p0.toNatClampNeg (vp_nar .boolean p1)))

def ok_X4_stop (N : Nat) (g : MS) (p0 : Int32) (p1 : Int32) : Prop :=
  ((f_X4_goesWell g (if (f_X4_in p0 (0 : Int32) (5 : Int32)) = 0 then (1 : Int32) else (0 : Int32))).1 = 0 → True) ∧ (¬ (f_X4_goesWell g (if (f_X4_in p0 (0 : Int32) (5 : Int32)) = 0 then (1 : Int32) else (0 : Int32))).1 = 0 → ((vp_in p0 6) ∧ ((ok_X4_stop_L35 g p0 p1 N (0 : Int32) (0 : Int32)) ∧ True)))

abbrev RM_X4_stop : Room := { frames := 1, cells := 0, slots := 0, locals := 22 }
set_option maxRecDepth 100000 in
set_option maxHeartbeats 4000000 in
theorem c_X4_stop (l : Launch) (D : va_G) (q : Nat → ClassId) (sz : Nat) (km : Nat → Nat) (g : MS) (p0 : Int32) (p1 : Int32) (N : Nat) (hok : ok_X4_stop N g p0 p1) : Met l yX4_stop (Cond.code yX4_stop cX4_stop 5 (some .int) :: ALL) RM_X4_stop (PC D q [.ref (km 0), .int p0, .int p1] (cModel km q g) sz) (va_Qi (fun (rv : Int32) (u : MS) => f_X4_stop N g p0 p1 = (rv, u)) (fun u t9 => va_P D vwCl (cModel km q u) t9.heap) (va_A (cModel km q g) sz)) 0 0 (va_A (cModel km q g) sz) := by
  refine en_iW (by decide +kernel) (Nat.le_of_ble_eq_true rfl) ?_
  intro p e s m args below meth c Q A H locs ls fx hD0 hA hP hS hl hret
  have hx := fx.1
  have hb := fx.2.1
  have hl : lv_has ls 5 [(0, .ref (km 0)), (1, .int p0), (2, .int p1)] := hl
  have hD : ∀ (g9 : MS), va_D _ (cModel km q g9) := fun _ => D_same ((fst_Model _ _ _).trans (fst_Model _ _ _).symm) hD0
  have ht : f_X4_stop N g p0 p1 = f_X4_stop N g p0 p1 := rfl
  simp only [ok_X4_stop] at hok
  refine lv_aload_n hx hb dX4_stop_0 rfl (lv_at hl 0 rfl) ?_
  refine lv_iload_n hx hb dX4_stop_1 rfl (lv_at hl 1 rfl) ?_
  refine lv_iconst (v := 0) hx hb dX4_stop_2 (by decide) ?_
  refine lv_iconst (v := 5) hx hb dX4_stop_3 (by decide) ?_
  refine kR_i (runS fx (As := [.int p0, .int (0 : Int32), .int (5 : Int32)]) (rest := [.ref (km 0)]) (c_X4_in l D q H.size p0 (0 : Int32) (5 : Int32)) lk_X4_59 ⟨Nat.le_of_ble_eq_true rfl, Nat.le_of_ble_eq_true rfl⟩ ⟨rfl, rfl⟩ hP (hD _) [] rfl rfl rfl hl.1 rfl (Nat.le_of_ble_eq_true rfl) dX4_stop_4 ⟨Nat.zero_le _, Nat.zero_le _⟩) hP hS (fun r1 _ H locs hr2 hP hS => ?_)
  obtain ⟨rfl, hz3⟩ := hr2
  suffices K : ∀ (v5 : Int32), ∀ (H : Heap) (locs : List Loc) (ls : Array Slot), v5 = (if (f_X4_in p0 (0 : Int32) (5 : Int32)) = 0 then (1 : Int32) else (0 : Int32)) → va_P D vwCl (cModel km q g) H → va_S A s.heap H locs → lv_has ls 5 [(0, .ref (km 0)), (1, .int p0), (2, .int p1)] → W p l e RM_X4_stop s m args below meth c H locs 0 0 Q (F0 m 15 ls [.int v5, .ref (km 0)]) by
    refine lv_if_eq (tgt := 14) hx hb dX4_stop_7 (by decide) (fun c4 => ?_) (fun c4 => ?_)
    · refine lv_iconst (v := 1) hx hb dX4_stop_14 (by decide) ?_
      exact K (1 : Int32) H locs ls (by simp only [if_pos c4]) hP hS (lv_sub hl [0, 1, 2] rfl)
    · refine lv_iconst (v := 0) hx hb dX4_stop_10 (by decide) ?_
      refine lv_goto (tgt := 15) hx hb dX4_stop_11 (by decide) ?_
      exact K (0 : Int32) H locs ls (by simp only [if_neg c4]) hP hS (lv_sub hl [0, 1, 2] rfl)
  intro v5 H locs ls hvv5 hP hS hl
  subst hvv5
  refine kM_i (runM fx (As := [.int (if (f_X4_in p0 (0 : Int32) (5 : Int32)) = 0 then (1 : Int32) else (0 : Int32))]) (rest := []) (c_X4_goesWell l D q H.size km g (if (f_X4_in p0 (0 : Int32) (5 : Int32)) = 0 then (1 : Int32) else (0 : Int32))) lk_X4_66 ⟨Nat.le_of_ble_eq_true rfl, Nat.le_of_ble_eq_true rfl⟩ ⟨rfl, rfl⟩ hP (hD _) rfl hl.1 rfl (Nat.le_of_ble_eq_true rfl) dX4_stop_15 ⟨Nat.zero_le _, Nat.zero_le _⟩) hP (hD _) hS hA (fun r8 u6 H locs hw7 hP hS => ?_)
  obtain ⟨hw7, hz9⟩ := hw7
  try simp only [hw7] at hok
  refine lv_if_ne (tgt := 23) hx hb dX4_stop_18 (by decide) (fun c10 => ?_) (fun c10 => ?_)
  · have hok := hok.2 c10
    refine lv_aload_n hx hb dX4_stop_23 rfl (lv_at hl 0 rfl) ?_
    refine gf_X4_49 fx hP 0 rfl dX4_stop_24 ?_
    refine lv_iload_n hx hb dX4_stop_27 rfl (lv_at hl 1 rfl) ?_
    refine lv_iload_n hx hb dX4_stop_28 rfl (lv_at hl 2 rfl) ?_
    obtain ⟨hi11, hok⟩ := hok
    refine as_stops fx hP (hD _) hS (f := M_stops u6) rfl hi11 dX4_stop_29 (fun H locs hP hS => ?_)
    refine lv_iconst (v := 0) hx hb dX4_stop_30 (by decide) ?_
    refine lv_istore_n (lv' := [(3, .int (0 : Int32)), (0, .ref (km 0)), (1, .int p0), (2, .int p1)]) hx hb dX4_stop_31 rfl hl (by decide) rfl (fun ls hl => ?_)
    refine lv_iconst (v := 0) hx hb dX4_stop_32 (by decide) ?_
    refine lv_istore (lv' := [(4, .int (0 : Int32)), (3, .int (0 : Int32)), (0, .ref (km 0)), (1, .int p0), (2, .int p1)]) hx hb dX4_stop_33 hl (by decide) rfl (fun ls hl => ?_)
    obtain ⟨hokL, hok⟩ := hok
    obtain ⟨z35, hz35⟩ : ∃ z, f_X4_stop_L35 g p0 p1 N (0 : Int32) (0 : Int32) = z := ⟨_, rfl⟩
    suffices KJ35 : ∀ (H : Heap) (locs : List Loc) (ls : Array Slot), va_P D vwCl (cModel km q (M_set_stops u6 (upd (M_stops u6) p0.toNatClampNeg (vp_nar .boolean p1)))) H → va_S A s.heap H locs → lv_has ls 5 [(0, .ref (km 0)), (3, .int z35)] → W p l e RM_X4_stop s m args below meth c H locs 0 0 Q (F0 m 66 ls []) by
      have LP35 : ∀ (n : Nat) (i18 : Int32) (i19 : Int32) (H : Heap) (locs : List Loc) (ls : Array Slot), ok_X4_stop_L35 g p0 p1 n i18 i19 → f_X4_stop_L35 g p0 p1 n i18 i19 = z35 → va_P D vwCl (cModel km q (M_set_stops u6 (upd (M_stops u6) p0.toNatClampNeg (vp_nar .boolean p1)))) H → va_S A s.heap H locs → lv_has ls 5 [(0, .ref (km 0)), (3, .int i19), (4, .int i18)] → W p l e RM_X4_stop s m args below meth c H locs 0 0 Q (F0 m 35 ls []) := by
        intro n
        induction n with
        | zero =>
          intro i18 i19 H locs ls hok
          exact (hok : False).elim
        | succ n ih35 =>
          intro i18 i19 H locs ls hok ht hP hS hl
          simp only [ok_X4_stop_L35] at hok
          try simp only [hw7] at hok
          refine lv_iload hx hb dX4_stop_35 (lv_at hl 2 rfl) ?_
          refine lv_bipush (v := 6) hx hb dX4_stop_37 (by decide) ?_
          refine lv_icmp_ge (tgt := 66) hx hb dX4_stop_39 (by decide) (fun c20 => ?_) (fun c20 => ?_)
          · have hok := hok.1 c20
            have hv9 := ht.symm.trans (show _ = i19 by simp only [f_X4_stop_L35, if_pos c20, hw7])
            subst hv9
            exact KJ35 H locs ls hP hS (lv_sub hl [0, 1] rfl)
          · have hok := hok.2 c20
            refine lv_iload_n hx hb dX4_stop_42 rfl (lv_at hl 1 rfl) ?_
            refine lv_aload_n hx hb dX4_stop_43 rfl (lv_at hl 0 rfl) ?_
            refine gf_X4_49 fx hP 0 rfl dX4_stop_44 ?_
            refine lv_iload hx hb dX4_stop_47 (lv_at hl 2 rfl) ?_
            obtain ⟨hi21, hok⟩ := hok
            refine al_stops fx hP (f := upd (M_stops u6) p0.toNatClampNeg (vp_nar .boolean p1)) (M_stops_set_stops _ _) hi21 dX4_stop_49 ?_
            refine lv_if_eq (tgt := 57) hx hb dX4_stop_50 (by decide) (fun c22 => ?_) (fun c22 => ?_)
            · have hok := hok.1 c22
              refine lv_iconst (v := 0) hx hb dX4_stop_57 (by decide) ?_
              refine lv_iadd hx hb dX4_stop_58 ?_
              refine lv_istore_n (lv' := [(3, .int (i19 + (0 : Int32))), (0, .ref (km 0)), (4, .int i18)]) hx hb dX4_stop_59 rfl hl (by decide) rfl (fun ls hl => ?_)
              refine lv_iinc (v := i18 + (1 : Int32)) (lv' := [(4, .int (i18 + (1 : Int32))), (3, .int (i19 + (0 : Int32))), (0, .ref (km 0))]) hx hb dX4_stop_60 hl (k := 2) rfl rfl (by decide) rfl (fun ls hl => ?_)
              refine lv_goto (tgt := 35) hx hb dX4_stop_63 (by decide) ?_
              exact ih35 (i18 + (1 : Int32)) (i19 + (0 : Int32)) H locs ls hok ((show f_X4_stop_L35 g p0 p1 (n + 1) i18 i19 = _ by simp only [f_X4_stop_L35, if_neg c20, if_pos c22, hw7]).symm.trans ht) hP hS (lv_sub hl [2, 1, 0] rfl)
            · have hok := hok.2 c22
              refine lv_iconst (v := 1) hx hb dX4_stop_53 (by decide) ?_
              refine lv_goto (tgt := 58) hx hb dX4_stop_54 (by decide) ?_
              refine lv_iadd hx hb dX4_stop_58 ?_
              refine lv_istore_n (lv' := [(3, .int (i19 + (1 : Int32))), (0, .ref (km 0)), (4, .int i18)]) hx hb dX4_stop_59 rfl hl (by decide) rfl (fun ls hl => ?_)
              refine lv_iinc (v := i18 + (1 : Int32)) (lv' := [(4, .int (i18 + (1 : Int32))), (3, .int (i19 + (1 : Int32))), (0, .ref (km 0))]) hx hb dX4_stop_60 hl (k := 2) rfl rfl (by decide) rfl (fun ls hl => ?_)
              refine lv_goto (tgt := 35) hx hb dX4_stop_63 (by decide) ?_
              exact ih35 (i18 + (1 : Int32)) (i19 + (1 : Int32)) H locs ls hok ((show f_X4_stop_L35 g p0 p1 (n + 1) i18 i19 = _ by simp only [f_X4_stop_L35, if_neg c20, if_neg c22, hw7]).symm.trans ht) hP hS (lv_sub hl [2, 1, 0] rfl)
      exact LP35 N (0 : Int32) (0 : Int32) H locs ls hokL hz35 hP hS (lv_sub hl [2, 1, 0] rfl)
    intro H locs ls hP hS hl
    subst hz35
    refine lv_iload_n hx hb dX4_stop_66 rfl (lv_at hl 1 rfl) ?_
    exact hret (f_X4_stop_L35 g p0 p1 N (0 : Int32) (0 : Int32)) (M_set_stops u6 (upd (M_stops u6) p0.toNatClampNeg (vp_nar .boolean p1))) _ _ _ _ dX4_stop_67 (ht.trans (by first | (simp only [f_X4_stop, if_neg c10, hw7]; done) | (simp only [f_X4_stop, hw7]; simp only [if_neg c10]))) hP hS
  · have hok := hok.1 c10
    refine lv_iconst (v := 0) hx hb dX4_stop_21 (by decide) ?_
    exact hret (0 : Int32) u6 _ _ _ _ dX4_stop_22 (ht.trans (by first | (simp only [f_X4_stop, if_pos c10, hw7]; done) | (simp only [f_X4_stop, hw7]; simp only [if_pos c10]))) hP hS

/-! X4_pressure -/
def f_X4_pressure (g : MS) (p0 : Int32) : Int32 × MS :=
  if (f_X4_goesWell g (if (f_X4_in p0 (0 : Int32) (5 : Int32)) = 0 then (1 : Int32) else (0 : Int32))).1 = 0 then ((0 : Int32), ((f_X4_goesWell g (if (f_X4_in p0 (0 : Int32) (5 : Int32)) = 0 then (1 : Int32) else (0 : Int32))).2)) else (if p0 = (0 : Int32) then (f_X4_bottom ((f_X4_goesWell g (if (f_X4_in p0 (0 : Int32) (5 : Int32)) = 0 then (1 : Int32) else (0 : Int32))).2), ((f_X4_goesWell g (if (f_X4_in p0 (0 : Int32) (5 : Int32)) = 0 then (1 : Int32) else (0 : Int32))).2)) else if p0 = (1 : Int32) then (f_X4_poreAt ((f_X4_goesWell g (if (f_X4_in p0 (0 : Int32) (5 : Int32)) = 0 then (1 : Int32) else (0 : Int32))).2) (M_depth ((f_X4_goesWell g (if (f_X4_in p0 (0 : Int32) (5 : Int32)) = 0 then (1 : Int32) else (0 : Int32))).2)), ((f_X4_goesWell g (if (f_X4_in p0 (0 : Int32) (5 : Int32)) = 0 then (1 : Int32) else (0 : Int32))).2)) else if p0 = (2 : Int32) then (f_X4_foot ((f_X4_goesWell g (if (f_X4_in p0 (0 : Int32) (5 : Int32)) = 0 then (1 : Int32) else (0 : Int32))).2), ((f_X4_goesWell g (if (f_X4_in p0 (0 : Int32) (5 : Int32)) = 0 then (1 : Int32) else (0 : Int32))).2)) else if p0 = (3 : Int32) then (f_X4_breakAt ((f_X4_goesWell g (if (f_X4_in p0 (0 : Int32) (5 : Int32)) = 0 then (1 : Int32) else (0 : Int32))).2) (M_shoe ((f_X4_goesWell g (if (f_X4_in p0 (0 : Int32) (5 : Int32)) = 0 then (1 : Int32) else (0 : Int32))).2)), ((f_X4_goesWell g (if (f_X4_in p0 (0 : Int32) (5 : Int32)) = 0 then (1 : Int32) else (0 : Int32))).2)) else if p0 = (4 : Int32) then (M_choke ((f_X4_goesWell g (if (f_X4_in p0 (0 : Int32) (5 : Int32)) = 0 then (1 : Int32) else (0 : Int32))).2), ((f_X4_goesWell g (if (f_X4_in p0 (0 : Int32) (5 : Int32)) = 0 then (1 : Int32) else (0 : Int32))).2)) else if (lg_cmp (M_charge ((f_X4_goesWell g (if (f_X4_in p0 (0 : Int32) (5 : Int32)) = 0 then (1 : Int32) else (0 : Int32))).2)) (0 : Int64)) ≤ 0 then ((0 : Int32), ((f_X4_goesWell g (if (f_X4_in p0 (0 : Int32) (5 : Int32)) = 0 then (1 : Int32) else (0 : Int32))).2)) else (f_X4_gasPressure ((f_X4_goesWell g (if (f_X4_in p0 (0 : Int32) (5 : Int32)) = 0 then (1 : Int32) else (0 : Int32))).2), ((f_X4_goesWell g (if (f_X4_in p0 (0 : Int32) (5 : Int32)) = 0 then (1 : Int32) else (0 : Int32))).2)))

def ok_X4_pressure (g : MS) (p0 : Int32) : Prop :=
  ((f_X4_goesWell g (if (f_X4_in p0 (0 : Int32) (5 : Int32)) = 0 then (1 : Int32) else (0 : Int32))).1 = 0 → True) ∧ (¬ (f_X4_goesWell g (if (f_X4_in p0 (0 : Int32) (5 : Int32)) = 0 then (1 : Int32) else (0 : Int32))).1 = 0 → ((p0 = (0 : Int32) → True) ∧ (¬ p0 = (0 : Int32) → ((p0 = (1 : Int32) → ((ok_X4_poreAt (M_depth ((f_X4_goesWell g (if (f_X4_in p0 (0 : Int32) (5 : Int32)) = 0 then (1 : Int32) else (0 : Int32))).2))) ∧ True)) ∧ (¬ p0 = (1 : Int32) → ((p0 = (2 : Int32) → True) ∧ (¬ p0 = (2 : Int32) → ((p0 = (3 : Int32) → ((ok_X4_breakAt (M_shoe ((f_X4_goesWell g (if (f_X4_in p0 (0 : Int32) (5 : Int32)) = 0 then (1 : Int32) else (0 : Int32))).2))) ∧ True)) ∧ (¬ p0 = (3 : Int32) → ((p0 = (4 : Int32) → True) ∧ (¬ p0 = (4 : Int32) → True)))))))))))

abbrev RM_X4_pressure : Room := { frames := 2, cells := 0, slots := 0, locals := 41 }
set_option maxRecDepth 100000 in
set_option maxHeartbeats 4000000 in
theorem c_X4_pressure (l : Launch) (D : va_G) (q : Nat → ClassId) (sz : Nat) (km : Nat → Nat) (g : MS) (p0 : Int32) (hok : ok_X4_pressure g p0) : Met l yX4_pressure (Cond.code yX4_pressure cX4_pressure 2 (some .int) :: ALL) RM_X4_pressure (PC D q [.ref (km 0), .int p0] (cModel km q g) sz) (va_Qi (fun (rv : Int32) (u : MS) => f_X4_pressure g p0 = (rv, u)) (fun u t9 => va_P D vwCl (cModel km q u) t9.heap) (va_A (cModel km q g) sz)) 0 0 (va_A (cModel km q g) sz) := by
  refine en_iW (by decide +kernel) (Nat.le_of_ble_eq_true rfl) ?_
  intro p e s m args below meth c Q A H locs ls fx hD0 hA hP hS hl hret
  have hx := fx.1
  have hb := fx.2.1
  have hl : lv_has ls 2 [(0, .ref (km 0)), (1, .int p0)] := hl
  have hD : ∀ (g9 : MS), va_D _ (cModel km q g9) := fun _ => D_same ((fst_Model _ _ _).trans (fst_Model _ _ _).symm) hD0
  have ht : f_X4_pressure g p0 = f_X4_pressure g p0 := rfl
  simp only [ok_X4_pressure] at hok
  refine lv_aload_n hx hb dX4_pressure_0 rfl (lv_at hl 0 rfl) ?_
  refine lv_iload_n hx hb dX4_pressure_1 rfl (lv_at hl 1 rfl) ?_
  refine lv_iconst (v := 0) hx hb dX4_pressure_2 (by decide) ?_
  refine lv_iconst (v := 5) hx hb dX4_pressure_3 (by decide) ?_
  refine kR_i (runS fx (As := [.int p0, .int (0 : Int32), .int (5 : Int32)]) (rest := [.ref (km 0)]) (c_X4_in l D q H.size p0 (0 : Int32) (5 : Int32)) lk_X4_59 ⟨Nat.le_of_ble_eq_true rfl, Nat.le_of_ble_eq_true rfl⟩ ⟨rfl, rfl⟩ hP (hD _) [] rfl rfl rfl hl.1 rfl (Nat.le_of_ble_eq_true rfl) dX4_pressure_4 ⟨Nat.zero_le _, Nat.zero_le _⟩) hP hS (fun r1 _ H locs hr2 hP hS => ?_)
  obtain ⟨rfl, hz3⟩ := hr2
  suffices K : ∀ (v5 : Int32), ∀ (H : Heap) (locs : List Loc) (ls : Array Slot), v5 = (if (f_X4_in p0 (0 : Int32) (5 : Int32)) = 0 then (1 : Int32) else (0 : Int32)) → va_P D vwCl (cModel km q g) H → va_S A s.heap H locs → lv_has ls 2 [(0, .ref (km 0)), (1, .int p0)] → W p l e RM_X4_pressure s m args below meth c H locs 0 0 Q (F0 m 15 ls [.int v5, .ref (km 0)]) by
    refine lv_if_eq (tgt := 14) hx hb dX4_pressure_7 (by decide) (fun c4 => ?_) (fun c4 => ?_)
    · refine lv_iconst (v := 1) hx hb dX4_pressure_14 (by decide) ?_
      exact K (1 : Int32) H locs ls (by simp only [if_pos c4]) hP hS (lv_sub hl [0, 1] rfl)
    · refine lv_iconst (v := 0) hx hb dX4_pressure_10 (by decide) ?_
      refine lv_goto (tgt := 15) hx hb dX4_pressure_11 (by decide) ?_
      exact K (0 : Int32) H locs ls (by simp only [if_neg c4]) hP hS (lv_sub hl [0, 1] rfl)
  intro v5 H locs ls hvv5 hP hS hl
  subst hvv5
  refine kM_i (runM fx (As := [.int (if (f_X4_in p0 (0 : Int32) (5 : Int32)) = 0 then (1 : Int32) else (0 : Int32))]) (rest := []) (c_X4_goesWell l D q H.size km g (if (f_X4_in p0 (0 : Int32) (5 : Int32)) = 0 then (1 : Int32) else (0 : Int32))) lk_X4_66 ⟨Nat.le_of_ble_eq_true rfl, Nat.le_of_ble_eq_true rfl⟩ ⟨rfl, rfl⟩ hP (hD _) rfl hl.1 rfl (Nat.le_of_ble_eq_true rfl) dX4_pressure_15 ⟨Nat.zero_le _, Nat.zero_le _⟩) hP (hD _) hS hA (fun r8 u6 H locs hw7 hP hS => ?_)
  obtain ⟨hw7, hz9⟩ := hw7
  try simp only [hw7] at hok
  refine lv_if_ne (tgt := 23) hx hb dX4_pressure_18 (by decide) (fun c10 => ?_) (fun c10 => ?_)
  · have hok := hok.2 c10
    refine lv_iload_n hx hb dX4_pressure_23 rfl (lv_at hl 1 rfl) ?_
    by_cases c11 : p0 = (0 : Int32)
    · refine lv_tableIn (off := 36) (tgt := 60) hx hb dX4_pressure_24 (by rw [c11]; decide) (by rw [c11]; decide) (by rw [c11]; decide) (by decide) ?_
      have hok := hok.1 c11
      refine lv_aload_n hx hb dX4_pressure_60 rfl (lv_at hl 0 rfl) ?_
      refine kR_i (runM fx (As := []) (rest := []) (c_X4_bottom l D q H.size km u6) lk_X4_118 ⟨Nat.le_of_ble_eq_true rfl, Nat.le_of_ble_eq_true rfl⟩ ⟨rfl, rfl⟩ hP (hD _) rfl hl.1 rfl (Nat.le_of_ble_eq_true rfl) dX4_pressure_61 ⟨Nat.zero_le _, Nat.zero_le _⟩) hP hS (fun r12 _ H locs hr13 hP hS => ?_)
      subst hr13
      exact hret (f_X4_bottom u6) u6 _ _ _ _ dX4_pressure_64 (ht.trans (by first | (simp only [f_X4_pressure, if_neg c10, if_pos c11, hw7]; done) | (simp only [f_X4_pressure, hw7]; simp only [if_neg c10, if_pos c11]))) hP hS
    have hok := hok.2 c11
    by_cases c14 : p0 = (1 : Int32)
    · refine lv_tableIn (off := 41) (tgt := 65) hx hb dX4_pressure_24 (by rw [c14]; decide) (by rw [c14]; decide) (by rw [c14]; decide) (by decide) ?_
      have hok := hok.1 c14
      refine lv_aload_n hx hb dX4_pressure_65 rfl (lv_at hl 0 rfl) ?_
      refine lv_aload_n hx hb dX4_pressure_66 rfl (lv_at hl 0 rfl) ?_
      refine gf_X4_63 fx hP 0 rfl (v := M_depth u6) rfl dX4_pressure_67 ?_
      obtain ⟨hk15, hok⟩ := hok
      refine kR_i (runM fx (As := [.int (M_depth u6)]) (rest := []) (c_X4_poreAt l D q H.size km u6 (M_depth u6) hk15) lk_X4_109 ⟨Nat.le_of_ble_eq_true rfl, Nat.le_of_ble_eq_true rfl⟩ ⟨rfl, rfl⟩ hP (hD _) rfl hl.1 rfl (Nat.le_of_ble_eq_true rfl) dX4_pressure_70 ⟨Nat.zero_le _, Nat.zero_le _⟩) hP hS (fun r16 _ H locs hr17 hP hS => ?_)
      subst hr17
      exact hret (f_X4_poreAt u6 (M_depth u6)) u6 _ _ _ _ dX4_pressure_73 (ht.trans (by first | (simp only [f_X4_pressure, if_neg c10, if_neg c11, if_pos c14, hw7]; done) | (simp only [f_X4_pressure, hw7]; simp only [if_neg c10, if_neg c11, if_pos c14]))) hP hS
    have hok := hok.2 c14
    by_cases c18 : p0 = (2 : Int32)
    · refine lv_tableIn (off := 50) (tgt := 74) hx hb dX4_pressure_24 (by rw [c18]; decide) (by rw [c18]; decide) (by rw [c18]; decide) (by decide) ?_
      have hok := hok.1 c18
      refine lv_aload_n hx hb dX4_pressure_74 rfl (lv_at hl 0 rfl) ?_
      refine kR_i (runM fx (As := []) (rest := []) (c_X4_foot l D q H.size km u6) lk_X4_144 ⟨Nat.le_of_ble_eq_true rfl, Nat.le_of_ble_eq_true rfl⟩ ⟨rfl, rfl⟩ hP (hD _) rfl hl.1 rfl (Nat.le_of_ble_eq_true rfl) dX4_pressure_75 ⟨Nat.zero_le _, Nat.zero_le _⟩) hP hS (fun r19 _ H locs hr20 hP hS => ?_)
      subst hr20
      exact hret (f_X4_foot u6) u6 _ _ _ _ dX4_pressure_78 (ht.trans (by first | (simp only [f_X4_pressure, if_neg c10, if_neg c11, if_neg c14, if_pos c18, hw7]; done) | (simp only [f_X4_pressure, hw7]; simp only [if_neg c10, if_neg c11, if_neg c14, if_pos c18]))) hP hS
    have hok := hok.2 c18
    by_cases c21 : p0 = (3 : Int32)
    · refine lv_tableIn (off := 55) (tgt := 79) hx hb dX4_pressure_24 (by rw [c21]; decide) (by rw [c21]; decide) (by rw [c21]; decide) (by decide) ?_
      have hok := hok.1 c21
      refine lv_aload_n hx hb dX4_pressure_79 rfl (lv_at hl 0 rfl) ?_
      refine lv_aload_n hx hb dX4_pressure_80 rfl (lv_at hl 0 rfl) ?_
      refine gf_X4_93 fx hP 0 rfl (v := M_shoe u6) rfl dX4_pressure_81 ?_
      obtain ⟨hk22, hok⟩ := hok
      refine kR_i (runM fx (As := [.int (M_shoe u6)]) (rest := []) (c_X4_breakAt l D q H.size km u6 (M_shoe u6) hk22) lk_X4_147 ⟨Nat.le_of_ble_eq_true rfl, Nat.le_of_ble_eq_true rfl⟩ ⟨rfl, rfl⟩ hP (hD _) rfl hl.1 rfl (Nat.le_of_ble_eq_true rfl) dX4_pressure_84 ⟨Nat.zero_le _, Nat.zero_le _⟩) hP hS (fun r23 _ H locs hr24 hP hS => ?_)
      subst hr24
      exact hret (f_X4_breakAt u6 (M_shoe u6)) u6 _ _ _ _ dX4_pressure_87 (ht.trans (by first | (simp only [f_X4_pressure, if_neg c10, if_neg c11, if_neg c14, if_neg c18, if_pos c21, hw7]; done) | (simp only [f_X4_pressure, hw7]; simp only [if_neg c10, if_neg c11, if_neg c14, if_neg c18, if_pos c21]))) hP hS
    have hok := hok.2 c21
    by_cases c25 : p0 = (4 : Int32)
    · refine lv_tableIn (off := 64) (tgt := 88) hx hb dX4_pressure_24 (by rw [c25]; decide) (by rw [c25]; decide) (by rw [c25]; decide) (by decide) ?_
      have hok := hok.1 c25
      refine lv_aload_n hx hb dX4_pressure_88 rfl (lv_at hl 0 rfl) ?_
      refine gf_X4_87 fx hP 0 rfl (v := M_choke u6) rfl dX4_pressure_89 ?_
      exact hret (M_choke u6) u6 _ _ _ _ dX4_pressure_92 (ht.trans (by first | (simp only [f_X4_pressure, if_neg c10, if_neg c11, if_neg c14, if_neg c18, if_neg c21, if_pos c25, hw7]; done) | (simp only [f_X4_pressure, hw7]; simp only [if_neg c10, if_neg c11, if_neg c14, if_neg c18, if_neg c21, if_pos c25]))) hP hS
    have hok := hok.2 c25
    refine lv_tableOut (tgt := 93) hx hb dX4_pressure_24 (by have e0 : p0.toInt ≠ 0 := fun h9 => c11 (Int32.toInt_inj.mp h9); have e1 : p0.toInt ≠ 1 := fun h9 => c14 (Int32.toInt_inj.mp h9); have e2 : p0.toInt ≠ 2 := fun h9 => c18 (Int32.toInt_inj.mp h9); have e3 : p0.toInt ≠ 3 := fun h9 => c21 (Int32.toInt_inj.mp h9); have e4 : p0.toInt ≠ 4 := fun h9 => c25 (Int32.toInt_inj.mp h9); omega) (by decide) ?_
    refine lv_aload_n hx hb dX4_pressure_93 rfl (lv_at hl 0 rfl) ?_
    refine gf_X4_96 fx hP 0 rfl (v := M_charge u6) rfl dX4_pressure_94 ?_
    refine lv_lconst (v := 0) hx hb dX4_pressure_97 (by decide) ?_
    refine W.lcmp hx hb dX4_pressure_98 ?_
    refine lv_if_le (tgt := 109) hx hb dX4_pressure_99 (by decide) (fun c26 => ?_) (fun c26 => ?_)
    · refine lv_iconst (v := 0) hx hb dX4_pressure_109 (by decide) ?_
      exact hret (0 : Int32) u6 _ _ _ _ dX4_pressure_110 (ht.trans (by first | (simp only [f_X4_pressure, if_neg c10, if_neg c11, if_neg c14, if_neg c18, if_neg c21, if_neg c25, if_pos c26, hw7]; done) | (simp only [f_X4_pressure, hw7]; simp only [if_neg c10, if_neg c11, if_neg c14, if_neg c18, if_neg c21, if_neg c25, if_pos c26]))) hP hS
    · refine lv_aload_n hx hb dX4_pressure_102 rfl (lv_at hl 0 rfl) ?_
      refine kR_i (runM fx (As := []) (rest := []) (c_X4_gasPressure l D q H.size km u6) lk_X4_100 ⟨Nat.le_of_ble_eq_true rfl, Nat.le_of_ble_eq_true rfl⟩ ⟨rfl, rfl⟩ hP (hD _) rfl hl.1 rfl (Nat.le_of_ble_eq_true rfl) dX4_pressure_103 ⟨Nat.zero_le _, Nat.zero_le _⟩) hP hS (fun r27 _ H locs hr28 hP hS => ?_)
      subst hr28
      refine lv_goto (tgt := 110) hx hb dX4_pressure_106 (by decide) ?_
      exact hret (f_X4_gasPressure u6) u6 _ _ _ _ dX4_pressure_110 (ht.trans (by first | (simp only [f_X4_pressure, if_neg c10, if_neg c11, if_neg c14, if_neg c18, if_neg c21, if_neg c25, if_neg c26, hw7]; done) | (simp only [f_X4_pressure, hw7]; simp only [if_neg c10, if_neg c11, if_neg c14, if_neg c18, if_neg c21, if_neg c25, if_neg c26]))) hP hS
  · have hok := hok.1 c10
    refine lv_iconst (v := 0) hx hb dX4_pressure_21 (by decide) ?_
    exact hret (0 : Int32) u6 _ _ _ _ dX4_pressure_22 (ht.trans (by first | (simp only [f_X4_pressure, if_pos c10, hw7]; done) | (simp only [f_X4_pressure, hw7]; simp only [if_pos c10]))) hP hS

/-! X4_of -/
def f_X4_of (g : MS) (p0 : Int32) : Int64 × MS :=
  if (f_X4_goesWell g (if (f_X4_in p0 (0 : Int32) (11 : Int32)) = 0 then (1 : Int32) else (0 : Int32))).1 = 0 then ((0 : Int64), ((f_X4_goesWell g (if (f_X4_in p0 (0 : Int32) (11 : Int32)) = 0 then (1 : Int32) else (0 : Int32))).2)) else (if p0 = (0 : Int32) then ((M_depth ((f_X4_goesWell g (if (f_X4_in p0 (0 : Int32) (11 : Int32)) = 0 then (1 : Int32) else (0 : Int32))).2)).toInt64, ((f_X4_goesWell g (if (f_X4_in p0 (0 : Int32) (11 : Int32)) = 0 then (1 : Int32) else (0 : Int32))).2)) else if p0 = (1 : Int32) then ((M_shoe ((f_X4_goesWell g (if (f_X4_in p0 (0 : Int32) (11 : Int32)) = 0 then (1 : Int32) else (0 : Int32))).2)).toInt64, ((f_X4_goesWell g (if (f_X4_in p0 (0 : Int32) (11 : Int32)) = 0 then (1 : Int32) else (0 : Int32))).2)) else if p0 = (2 : Int32) then ((M_weight ((f_X4_goesWell g (if (f_X4_in p0 (0 : Int32) (11 : Int32)) = 0 then (1 : Int32) else (0 : Int32))).2)).toInt64, ((f_X4_goesWell g (if (f_X4_in p0 (0 : Int32) (11 : Int32)) = 0 then (1 : Int32) else (0 : Int32))).2)) else if p0 = (3 : Int32) then (if (M_isClosed ((f_X4_goesWell g (if (f_X4_in p0 (0 : Int32) (11 : Int32)) = 0 then (1 : Int32) else (0 : Int32))).2)) = 0 then ((0 : Int64), ((f_X4_goesWell g (if (f_X4_in p0 (0 : Int32) (11 : Int32)) = 0 then (1 : Int32) else (0 : Int32))).2)) else ((1 : Int64), ((f_X4_goesWell g (if (f_X4_in p0 (0 : Int32) (11 : Int32)) = 0 then (1 : Int32) else (0 : Int32))).2))) else if p0 = (4 : Int32) then ((M_minutes ((f_X4_goesWell g (if (f_X4_in p0 (0 : Int32) (11 : Int32)) = 0 then (1 : Int32) else (0 : Int32))).2)).toInt64, ((f_X4_goesWell g (if (f_X4_in p0 (0 : Int32) (11 : Int32)) = 0 then (1 : Int32) else (0 : Int32))).2)) else if p0 = (5 : Int32) then ((M_gas ((f_X4_goesWell g (if (f_X4_in p0 (0 : Int32) (11 : Int32)) = 0 then (1 : Int32) else (0 : Int32))).2)).toInt64, ((f_X4_goesWell g (if (f_X4_in p0 (0 : Int32) (11 : Int32)) = 0 then (1 : Int32) else (0 : Int32))).2)) else if p0 = (6 : Int32) then (if (lg_cmp (M_charge ((f_X4_goesWell g (if (f_X4_in p0 (0 : Int32) (11 : Int32)) = 0 then (1 : Int32) else (0 : Int32))).2)) (0 : Int64)) ≤ 0 then ((-1 : Int64), ((f_X4_goesWell g (if (f_X4_in p0 (0 : Int32) (11 : Int32)) = 0 then (1 : Int32) else (0 : Int32))).2)) else ((M_place ((f_X4_goesWell g (if (f_X4_in p0 (0 : Int32) (11 : Int32)) = 0 then (1 : Int32) else (0 : Int32))).2)).toInt64, ((f_X4_goesWell g (if (f_X4_in p0 (0 : Int32) (11 : Int32)) = 0 then (1 : Int32) else (0 : Int32))).2))) else if p0 = (7 : Int32) then ((M_liquid ((f_X4_goesWell g (if (f_X4_in p0 (0 : Int32) (11 : Int32)) = 0 then (1 : Int32) else (0 : Int32))).2)).toInt64, ((f_X4_goesWell g (if (f_X4_in p0 (0 : Int32) (11 : Int32)) = 0 then (1 : Int32) else (0 : Int32))).2)) else if p0 = (8 : Int32) then (M_vented ((f_X4_goesWell g (if (f_X4_in p0 (0 : Int32) (11 : Int32)) = 0 then (1 : Int32) else (0 : Int32))).2), ((f_X4_goesWell g (if (f_X4_in p0 (0 : Int32) (11 : Int32)) = 0 then (1 : Int32) else (0 : Int32))).2)) else if p0 = (9 : Int32) then (M_lost ((f_X4_goesWell g (if (f_X4_in p0 (0 : Int32) (11 : Int32)) = 0 then (1 : Int32) else (0 : Int32))).2), ((f_X4_goesWell g (if (f_X4_in p0 (0 : Int32) (11 : Int32)) = 0 then (1 : Int32) else (0 : Int32))).2)) else if p0 = (10 : Int32) then ((M_pumped ((f_X4_goesWell g (if (f_X4_in p0 (0 : Int32) (11 : Int32)) = 0 then (1 : Int32) else (0 : Int32))).2)).toInt64, ((f_X4_goesWell g (if (f_X4_in p0 (0 : Int32) (11 : Int32)) = 0 then (1 : Int32) else (0 : Int32))).2)) else ((M_cement ((f_X4_goesWell g (if (f_X4_in p0 (0 : Int32) (11 : Int32)) = 0 then (1 : Int32) else (0 : Int32))).2)).toInt64, ((f_X4_goesWell g (if (f_X4_in p0 (0 : Int32) (11 : Int32)) = 0 then (1 : Int32) else (0 : Int32))).2)))

abbrev RM_X4_of : Room := { frames := 1, cells := 0, slots := 0, locals := 22 }
set_option maxRecDepth 100000 in
set_option maxHeartbeats 4000000 in
theorem c_X4_of (l : Launch) (D : va_G) (q : Nat → ClassId) (sz : Nat) (km : Nat → Nat) (g : MS) (p0 : Int32) : Met l yX4_of (Cond.code yX4_of cX4_of 2 (some .long) :: ALL) RM_X4_of (PC D q [.ref (km 0), .int p0] (cModel km q g) sz) (va_Ql (fun (rv : Int64) (u : MS) => f_X4_of g p0 = (rv, u)) (fun u t9 => va_P D vwCl (cModel km q u) t9.heap) (va_A (cModel km q g) sz)) 0 0 (va_A (cModel km q g) sz) := by
  refine en_lW (by decide +kernel) (Nat.le_of_ble_eq_true rfl) ?_
  intro p e s m args below meth c Q A H locs ls fx hD0 hA hP hS hl hret
  have hx := fx.1
  have hb := fx.2.1
  have hl : lv_has ls 2 [(0, .ref (km 0)), (1, .int p0)] := hl
  have hD : ∀ (g9 : MS), va_D _ (cModel km q g9) := fun _ => D_same ((fst_Model _ _ _).trans (fst_Model _ _ _).symm) hD0
  have ht : f_X4_of g p0 = f_X4_of g p0 := rfl
  refine lv_aload_n hx hb dX4_of_0 rfl (lv_at hl 0 rfl) ?_
  refine lv_iload_n hx hb dX4_of_1 rfl (lv_at hl 1 rfl) ?_
  refine lv_iconst (v := 0) hx hb dX4_of_2 (by decide) ?_
  refine lv_bipush (v := 11) hx hb dX4_of_3 (by decide) ?_
  refine kR_i (runS fx (As := [.int p0, .int (0 : Int32), .int (11 : Int32)]) (rest := [.ref (km 0)]) (c_X4_in l D q H.size p0 (0 : Int32) (11 : Int32)) lk_X4_59 ⟨Nat.le_of_ble_eq_true rfl, Nat.le_of_ble_eq_true rfl⟩ ⟨rfl, rfl⟩ hP (hD _) [] rfl rfl rfl hl.1 rfl (Nat.le_of_ble_eq_true rfl) dX4_of_5 ⟨Nat.zero_le _, Nat.zero_le _⟩) hP hS (fun r1 _ H locs hr2 hP hS => ?_)
  obtain ⟨rfl, hz3⟩ := hr2
  suffices K : ∀ (v5 : Int32), ∀ (H : Heap) (locs : List Loc) (ls : Array Slot), v5 = (if (f_X4_in p0 (0 : Int32) (11 : Int32)) = 0 then (1 : Int32) else (0 : Int32)) → va_P D vwCl (cModel km q g) H → va_S A s.heap H locs → lv_has ls 2 [(0, .ref (km 0)), (1, .int p0)] → W p l e RM_X4_of s m args below meth c H locs 0 0 Q (F0 m 16 ls [.int v5, .ref (km 0)]) by
    refine lv_if_eq (tgt := 15) hx hb dX4_of_8 (by decide) (fun c4 => ?_) (fun c4 => ?_)
    · refine lv_iconst (v := 1) hx hb dX4_of_15 (by decide) ?_
      exact K (1 : Int32) H locs ls (by simp only [if_pos c4]) hP hS (lv_sub hl [0, 1] rfl)
    · refine lv_iconst (v := 0) hx hb dX4_of_11 (by decide) ?_
      refine lv_goto (tgt := 16) hx hb dX4_of_12 (by decide) ?_
      exact K (0 : Int32) H locs ls (by simp only [if_neg c4]) hP hS (lv_sub hl [0, 1] rfl)
  intro v5 H locs ls hvv5 hP hS hl
  subst hvv5
  refine kM_i (runM fx (As := [.int (if (f_X4_in p0 (0 : Int32) (11 : Int32)) = 0 then (1 : Int32) else (0 : Int32))]) (rest := []) (c_X4_goesWell l D q H.size km g (if (f_X4_in p0 (0 : Int32) (11 : Int32)) = 0 then (1 : Int32) else (0 : Int32))) lk_X4_66 ⟨Nat.le_of_ble_eq_true rfl, Nat.le_of_ble_eq_true rfl⟩ ⟨rfl, rfl⟩ hP (hD _) rfl hl.1 rfl (Nat.le_of_ble_eq_true rfl) dX4_of_16 ⟨Nat.zero_le _, Nat.zero_le _⟩) hP (hD _) hS hA (fun r8 u6 H locs hw7 hP hS => ?_)
  obtain ⟨hw7, hz9⟩ := hw7
  refine lv_if_ne (tgt := 24) hx hb dX4_of_19 (by decide) (fun c10 => ?_) (fun c10 => ?_)
  · refine lv_iload_n hx hb dX4_of_24 rfl (lv_at hl 1 rfl) ?_
    by_cases c11 : p0 = (0 : Int32)
    · refine lv_tableIn (off := 59) (tgt := 84) hx hb dX4_of_25 (by rw [c11]; decide) (by rw [c11]; decide) (by rw [c11]; decide) (by decide) ?_
      refine lv_aload_n hx hb dX4_of_84 rfl (lv_at hl 0 rfl) ?_
      refine gf_X4_63 fx hP 0 rfl (v := M_depth u6) rfl dX4_of_85 ?_
      refine lv_i2l (v := (M_depth u6).toInt64) hx hb dX4_of_88 rfl ?_
      exact hret ((M_depth u6).toInt64) u6 _ _ _ _ dX4_of_89 (ht.trans (by first | (simp only [f_X4_of, if_neg c10, if_pos c11, hw7]; done) | (simp only [f_X4_of, hw7]; simp only [if_neg c10, if_pos c11]))) hP hS
    by_cases c12 : p0 = (1 : Int32)
    · refine lv_tableIn (off := 65) (tgt := 90) hx hb dX4_of_25 (by rw [c12]; decide) (by rw [c12]; decide) (by rw [c12]; decide) (by decide) ?_
      refine lv_aload_n hx hb dX4_of_90 rfl (lv_at hl 0 rfl) ?_
      refine gf_X4_93 fx hP 0 rfl (v := M_shoe u6) rfl dX4_of_91 ?_
      refine lv_i2l (v := (M_shoe u6).toInt64) hx hb dX4_of_94 rfl ?_
      exact hret ((M_shoe u6).toInt64) u6 _ _ _ _ dX4_of_95 (ht.trans (by first | (simp only [f_X4_of, if_neg c10, if_neg c11, if_pos c12, hw7]; done) | (simp only [f_X4_of, hw7]; simp only [if_neg c10, if_neg c11, if_pos c12]))) hP hS
    by_cases c13 : p0 = (2 : Int32)
    · refine lv_tableIn (off := 71) (tgt := 96) hx hb dX4_of_25 (by rw [c13]; decide) (by rw [c13]; decide) (by rw [c13]; decide) (by decide) ?_
      refine lv_aload_n hx hb dX4_of_96 rfl (lv_at hl 0 rfl) ?_
      refine gf_X4_23 fx hP 0 rfl (v := M_weight u6) rfl dX4_of_97 ?_
      refine lv_i2l (v := (M_weight u6).toInt64) hx hb dX4_of_100 rfl ?_
      exact hret ((M_weight u6).toInt64) u6 _ _ _ _ dX4_of_101 (ht.trans (by first | (simp only [f_X4_of, if_neg c10, if_neg c11, if_neg c12, if_pos c13, hw7]; done) | (simp only [f_X4_of, hw7]; simp only [if_neg c10, if_neg c11, if_neg c12, if_pos c13]))) hP hS
    by_cases c14 : p0 = (3 : Int32)
    · refine lv_tableIn (off := 77) (tgt := 102) hx hb dX4_of_25 (by rw [c14]; decide) (by rw [c14]; decide) (by rw [c14]; decide) (by decide) ?_
      refine lv_aload_n hx hb dX4_of_102 rfl (lv_at hl 0 rfl) ?_
      refine gf_X4_70 fx hP 0 rfl (v := M_isClosed u6) rfl dX4_of_103 ?_
      refine lv_if_eq (tgt := 113) hx hb dX4_of_106 (by decide) (fun c15 => ?_) (fun c15 => ?_)
      · refine lv_lconst (v := 0) hx hb dX4_of_113 (by decide) ?_
        exact hret (0 : Int64) u6 _ _ _ _ dX4_of_114 (ht.trans (by first | (simp only [f_X4_of, if_neg c10, if_neg c11, if_neg c12, if_neg c13, if_pos c14, if_pos c15, hw7]; done) | (simp only [f_X4_of, hw7]; simp only [if_neg c10, if_neg c11, if_neg c12, if_neg c13, if_pos c14, if_pos c15]))) hP hS
      · refine lv_lconst (v := 1) hx hb dX4_of_109 (by decide) ?_
        refine lv_goto (tgt := 114) hx hb dX4_of_110 (by decide) ?_
        exact hret (1 : Int64) u6 _ _ _ _ dX4_of_114 (ht.trans (by first | (simp only [f_X4_of, if_neg c10, if_neg c11, if_neg c12, if_neg c13, if_pos c14, if_neg c15, hw7]; done) | (simp only [f_X4_of, hw7]; simp only [if_neg c10, if_neg c11, if_neg c12, if_neg c13, if_pos c14, if_neg c15]))) hP hS
    by_cases c16 : p0 = (4 : Int32)
    · refine lv_tableIn (off := 90) (tgt := 115) hx hb dX4_of_25 (by rw [c16]; decide) (by rw [c16]; decide) (by rw [c16]; decide) (by decide) ?_
      refine lv_aload_n hx hb dX4_of_115 rfl (lv_at hl 0 rfl) ?_
      refine gf_X4_128 fx hP 0 rfl (v := M_minutes u6) rfl dX4_of_116 ?_
      refine lv_i2l (v := (M_minutes u6).toInt64) hx hb dX4_of_119 rfl ?_
      exact hret ((M_minutes u6).toInt64) u6 _ _ _ _ dX4_of_120 (ht.trans (by first | (simp only [f_X4_of, if_neg c10, if_neg c11, if_neg c12, if_neg c13, if_neg c14, if_pos c16, hw7]; done) | (simp only [f_X4_of, hw7]; simp only [if_neg c10, if_neg c11, if_neg c12, if_neg c13, if_neg c14, if_pos c16]))) hP hS
    by_cases c17 : p0 = (5 : Int32)
    · refine lv_tableIn (off := 96) (tgt := 121) hx hb dX4_of_25 (by rw [c17]; decide) (by rw [c17]; decide) (by rw [c17]; decide) (by decide) ?_
      refine lv_aload_n hx hb dX4_of_121 rfl (lv_at hl 0 rfl) ?_
      refine gf_X4_77 fx hP 0 rfl (v := M_gas u6) rfl dX4_of_122 ?_
      refine lv_i2l (v := (M_gas u6).toInt64) hx hb dX4_of_125 rfl ?_
      exact hret ((M_gas u6).toInt64) u6 _ _ _ _ dX4_of_126 (ht.trans (by first | (simp only [f_X4_of, if_neg c10, if_neg c11, if_neg c12, if_neg c13, if_neg c14, if_neg c16, if_pos c17, hw7]; done) | (simp only [f_X4_of, hw7]; simp only [if_neg c10, if_neg c11, if_neg c12, if_neg c13, if_neg c14, if_neg c16, if_pos c17]))) hP hS
    by_cases c18 : p0 = (6 : Int32)
    · refine lv_tableIn (off := 102) (tgt := 127) hx hb dX4_of_25 (by rw [c18]; decide) (by rw [c18]; decide) (by rw [c18]; decide) (by decide) ?_
      refine lv_aload_n hx hb dX4_of_127 rfl (lv_at hl 0 rfl) ?_
      refine gf_X4_96 fx hP 0 rfl (v := M_charge u6) rfl dX4_of_128 ?_
      refine lv_lconst (v := 0) hx hb dX4_of_131 (by decide) ?_
      refine W.lcmp hx hb dX4_of_132 ?_
      refine lv_if_le (tgt := 144) hx hb dX4_of_133 (by decide) (fun c19 => ?_) (fun c19 => ?_)
      · refine lv_ldc2 hx hb fx.2.2.2.1 (fx.2.2.2.2.1 _ mm_367) dX4_of_144 ?_
        exact hret (-1 : Int64) u6 _ _ _ _ dX4_of_147 (ht.trans (by first | (simp only [f_X4_of, if_neg c10, if_neg c11, if_neg c12, if_neg c13, if_neg c14, if_neg c16, if_neg c17, if_pos c18, if_pos c19, hw7]; done) | (simp only [f_X4_of, hw7]; simp only [if_neg c10, if_neg c11, if_neg c12, if_neg c13, if_neg c14, if_neg c16, if_neg c17, if_pos c18, if_pos c19]))) hP hS
      · refine lv_aload_n hx hb dX4_of_136 rfl (lv_at hl 0 rfl) ?_
        refine gf_X4_90 fx hP 0 rfl (v := M_place u6) rfl dX4_of_137 ?_
        refine lv_i2l (v := (M_place u6).toInt64) hx hb dX4_of_140 rfl ?_
        refine lv_goto (tgt := 147) hx hb dX4_of_141 (by decide) ?_
        exact hret ((M_place u6).toInt64) u6 _ _ _ _ dX4_of_147 (ht.trans (by first | (simp only [f_X4_of, if_neg c10, if_neg c11, if_neg c12, if_neg c13, if_neg c14, if_neg c16, if_neg c17, if_pos c18, if_neg c19, hw7]; done) | (simp only [f_X4_of, hw7]; simp only [if_neg c10, if_neg c11, if_neg c12, if_neg c13, if_neg c14, if_neg c16, if_neg c17, if_pos c18, if_neg c19]))) hP hS
    by_cases c20 : p0 = (7 : Int32)
    · refine lv_tableIn (off := 123) (tgt := 148) hx hb dX4_of_25 (by rw [c20]; decide) (by rw [c20]; decide) (by rw [c20]; decide) (by decide) ?_
      refine lv_aload_n hx hb dX4_of_148 rfl (lv_at hl 0 rfl) ?_
      refine gf_X4_80 fx hP 0 rfl (v := M_liquid u6) rfl dX4_of_149 ?_
      refine lv_i2l (v := (M_liquid u6).toInt64) hx hb dX4_of_152 rfl ?_
      exact hret ((M_liquid u6).toInt64) u6 _ _ _ _ dX4_of_153 (ht.trans (by first | (simp only [f_X4_of, if_neg c10, if_neg c11, if_neg c12, if_neg c13, if_neg c14, if_neg c16, if_neg c17, if_neg c18, if_pos c20, hw7]; done) | (simp only [f_X4_of, hw7]; simp only [if_neg c10, if_neg c11, if_neg c12, if_neg c13, if_neg c14, if_neg c16, if_neg c17, if_neg c18, if_pos c20]))) hP hS
    by_cases c21 : p0 = (8 : Int32)
    · refine lv_tableIn (off := 129) (tgt := 154) hx hb dX4_of_25 (by rw [c21]; decide) (by rw [c21]; decide) (by rw [c21]; decide) (by decide) ?_
      refine lv_aload_n hx hb dX4_of_154 rfl (lv_at hl 0 rfl) ?_
      refine gf_X4_103 fx hP 0 rfl (v := M_vented u6) rfl dX4_of_155 ?_
      exact hret (M_vented u6) u6 _ _ _ _ dX4_of_158 (ht.trans (by first | (simp only [f_X4_of, if_neg c10, if_neg c11, if_neg c12, if_neg c13, if_neg c14, if_neg c16, if_neg c17, if_neg c18, if_neg c20, if_pos c21, hw7]; done) | (simp only [f_X4_of, hw7]; simp only [if_neg c10, if_neg c11, if_neg c12, if_neg c13, if_neg c14, if_neg c16, if_neg c17, if_neg c18, if_neg c20, if_pos c21]))) hP hS
    by_cases c22 : p0 = (9 : Int32)
    · refine lv_tableIn (off := 134) (tgt := 159) hx hb dX4_of_25 (by rw [c22]; decide) (by rw [c22]; decide) (by rw [c22]; decide) (by decide) ?_
      refine lv_aload_n hx hb dX4_of_159 rfl (lv_at hl 0 rfl) ?_
      refine gf_X4_141 fx hP 0 rfl (v := M_lost u6) rfl dX4_of_160 ?_
      exact hret (M_lost u6) u6 _ _ _ _ dX4_of_163 (ht.trans (by first | (simp only [f_X4_of, if_neg c10, if_neg c11, if_neg c12, if_neg c13, if_neg c14, if_neg c16, if_neg c17, if_neg c18, if_neg c20, if_neg c21, if_pos c22, hw7]; done) | (simp only [f_X4_of, hw7]; simp only [if_neg c10, if_neg c11, if_neg c12, if_neg c13, if_neg c14, if_neg c16, if_neg c17, if_neg c18, if_neg c20, if_neg c21, if_pos c22]))) hP hS
    by_cases c23 : p0 = (10 : Int32)
    · refine lv_tableIn (off := 139) (tgt := 164) hx hb dX4_of_25 (by rw [c23]; decide) (by rw [c23]; decide) (by rw [c23]; decide) (by decide) ?_
      refine lv_aload_n hx hb dX4_of_164 rfl (lv_at hl 0 rfl) ?_
      refine gf_X4_74 fx hP 0 rfl (v := M_pumped u6) rfl dX4_of_165 ?_
      refine lv_i2l (v := (M_pumped u6).toInt64) hx hb dX4_of_168 rfl ?_
      exact hret ((M_pumped u6).toInt64) u6 _ _ _ _ dX4_of_169 (ht.trans (by first | (simp only [f_X4_of, if_neg c10, if_neg c11, if_neg c12, if_neg c13, if_neg c14, if_neg c16, if_neg c17, if_neg c18, if_neg c20, if_neg c21, if_neg c22, if_pos c23, hw7]; done) | (simp only [f_X4_of, hw7]; simp only [if_neg c10, if_neg c11, if_neg c12, if_neg c13, if_neg c14, if_neg c16, if_neg c17, if_neg c18, if_neg c20, if_neg c21, if_neg c22, if_pos c23]))) hP hS
    refine lv_tableOut (tgt := 170) hx hb dX4_of_25 (by have e0 : p0.toInt ≠ 0 := fun h9 => c11 (Int32.toInt_inj.mp h9); have e1 : p0.toInt ≠ 1 := fun h9 => c12 (Int32.toInt_inj.mp h9); have e2 : p0.toInt ≠ 2 := fun h9 => c13 (Int32.toInt_inj.mp h9); have e3 : p0.toInt ≠ 3 := fun h9 => c14 (Int32.toInt_inj.mp h9); have e4 : p0.toInt ≠ 4 := fun h9 => c16 (Int32.toInt_inj.mp h9); have e5 : p0.toInt ≠ 5 := fun h9 => c17 (Int32.toInt_inj.mp h9); have e6 : p0.toInt ≠ 6 := fun h9 => c18 (Int32.toInt_inj.mp h9); have e7 : p0.toInt ≠ 7 := fun h9 => c20 (Int32.toInt_inj.mp h9); have e8 : p0.toInt ≠ 8 := fun h9 => c21 (Int32.toInt_inj.mp h9); have e9 : p0.toInt ≠ 9 := fun h9 => c22 (Int32.toInt_inj.mp h9); have e10 : p0.toInt ≠ 10 := fun h9 => c23 (Int32.toInt_inj.mp h9); omega) (by decide) ?_
    refine lv_aload_n hx hb dX4_of_170 rfl (lv_at hl 0 rfl) ?_
    refine gf_X4_159 fx hP 0 rfl (v := M_cement u6) rfl dX4_of_171 ?_
    refine lv_i2l (v := (M_cement u6).toInt64) hx hb dX4_of_174 rfl ?_
    exact hret ((M_cement u6).toInt64) u6 _ _ _ _ dX4_of_175 (ht.trans (by first | (simp only [f_X4_of, if_neg c10, if_neg c11, if_neg c12, if_neg c13, if_neg c14, if_neg c16, if_neg c17, if_neg c18, if_neg c20, if_neg c21, if_neg c22, if_neg c23, hw7]; done) | (simp only [f_X4_of, hw7]; simp only [if_neg c10, if_neg c11, if_neg c12, if_neg c13, if_neg c14, if_neg c16, if_neg c17, if_neg c18, if_neg c20, if_neg c21, if_neg c22, if_neg c23]))) hP hS
  · refine lv_lconst (v := 0) hx hb dX4_of_22 (by decide) ?_
    exact hret (0 : Int64) u6 _ _ _ _ dX4_of_23 (ht.trans (by first | (simp only [f_X4_of, if_pos c10, hw7]; done) | (simp only [f_X4_of, hw7]; simp only [if_pos c10]))) hP hS

/-! X4_ofTest -/
def f_X4_ofTest_b35 (g : MS) (p0 : Int32) (p1 : Int32) (j15 : Int32) : Int32 × MS :=
  if (f_X4_goesWell g j15).1 = 0 then ((0 : Int32), ((f_X4_goesWell g j15).2)) else (if p1 = 0 then ((M_tested ((f_X4_goesWell g j15).2)) p0.toNatClampNeg, ((f_X4_goesWell g j15).2)) else (if p1 = (1 : Int32) then ((M_by ((f_X4_goesWell g j15).2)) p0.toNatClampNeg, ((f_X4_goesWell g j15).2)) else (if p1 = (2 : Int32) then (if ((M_isPassed ((f_X4_goesWell g j15).2)) p0.toNatClampNeg) = 0 then ((0 : Int32), ((f_X4_goesWell g j15).2)) else ((1 : Int32), ((f_X4_goesWell g j15).2))) else ((M_testedAt ((f_X4_goesWell g j15).2)) p0.toNatClampNeg, ((f_X4_goesWell g j15).2)))))

def ok_X4_ofTest_b35 (g : MS) (p0 : Int32) (p1 : Int32) (j15 : Int32) : Prop :=
  ((f_X4_goesWell g j15).1 = 0 → True) ∧ (¬ (f_X4_goesWell g j15).1 = 0 → ((p1 = 0 → ((vp_in p0 60) ∧ True)) ∧ (¬ p1 = 0 → ((p1 = (1 : Int32) → ((vp_in p0 60) ∧ True)) ∧ (¬ p1 = (1 : Int32) → ((p1 = (2 : Int32) → ((vp_in p0 60) ∧ True)) ∧ (¬ p1 = (2 : Int32) → ((vp_in p0 60) ∧ True))))))))

def f_X4_ofTest (g : MS) (p0 : Int32) (p1 : Int32) : Int32 × MS :=
  if (f_X4_in p0 (0 : Int32) ((M_tests g) - (1 : Int32))) = 0 then (f_X4_ofTest_b35 g p0 p1 (1 : Int32)) else (if (f_X4_in p1 (0 : Int32) (3 : Int32)) = 0 then (f_X4_ofTest_b35 g p0 p1 (2 : Int32)) else (f_X4_ofTest_b35 g p0 p1 (0 : Int32)))

def ok_X4_ofTest (g : MS) (p0 : Int32) (p1 : Int32) : Prop :=
  ((f_X4_in p0 (0 : Int32) ((M_tests g) - (1 : Int32))) = 0 → (ok_X4_ofTest_b35 g p0 p1 (1 : Int32))) ∧ (¬ (f_X4_in p0 (0 : Int32) ((M_tests g) - (1 : Int32))) = 0 → (((f_X4_in p1 (0 : Int32) (3 : Int32)) = 0 → (ok_X4_ofTest_b35 g p0 p1 (2 : Int32))) ∧ (¬ (f_X4_in p1 (0 : Int32) (3 : Int32)) = 0 → (ok_X4_ofTest_b35 g p0 p1 (0 : Int32)))))

abbrev RM_X4_ofTest : Room := { frames := 1, cells := 0, slots := 0, locals := 22 }
set_option maxRecDepth 100000 in
set_option maxHeartbeats 4000000 in
theorem c_X4_ofTest (l : Launch) (D : va_G) (q : Nat → ClassId) (sz : Nat) (km : Nat → Nat) (g : MS) (p0 : Int32) (p1 : Int32) (hok : ok_X4_ofTest g p0 p1) : Met l yX4_ofTest (Cond.code yX4_ofTest cX4_ofTest 4 (some .int) :: ALL) RM_X4_ofTest (PC D q [.ref (km 0), .int p0, .int p1] (cModel km q g) sz) (va_Qi (fun (rv : Int32) (u : MS) => f_X4_ofTest g p0 p1 = (rv, u)) (fun u t9 => va_P D vwCl (cModel km q u) t9.heap) (va_A (cModel km q g) sz)) 0 0 (va_A (cModel km q g) sz) := by
  refine en_iW (by decide +kernel) (Nat.le_of_ble_eq_true rfl) ?_
  intro p e s m args below meth c Q A H locs ls fx hD0 hA hP hS hl hret
  have hx := fx.1
  have hb := fx.2.1
  have hl : lv_has ls 4 [(0, .ref (km 0)), (1, .int p0), (2, .int p1)] := hl
  have hD : ∀ (g9 : MS), va_D _ (cModel km q g9) := fun _ => D_same ((fst_Model _ _ _).trans (fst_Model _ _ _).symm) hD0
  have ht : f_X4_ofTest g p0 p1 = f_X4_ofTest g p0 p1 := rfl
  simp only [ok_X4_ofTest] at hok
  refine lv_iload_n hx hb dX4_ofTest_0 rfl (lv_at hl 1 rfl) ?_
  refine lv_iconst (v := 0) hx hb dX4_ofTest_1 (by decide) ?_
  refine lv_aload_n hx hb dX4_ofTest_2 rfl (lv_at hl 0 rfl) ?_
  refine gf_X4_112 fx hP 0 rfl (v := M_tests g) rfl dX4_ofTest_3 ?_
  refine lv_iconst (v := 1) hx hb dX4_ofTest_6 (by decide) ?_
  refine lv_isub hx hb dX4_ofTest_7 ?_
  refine kR_i (runS fx (As := [.int p0, .int (0 : Int32), .int ((M_tests g) - (1 : Int32))]) (rest := []) (c_X4_in l D q H.size p0 (0 : Int32) ((M_tests g) - (1 : Int32))) lk_X4_59 ⟨Nat.le_of_ble_eq_true rfl, Nat.le_of_ble_eq_true rfl⟩ ⟨rfl, rfl⟩ hP (hD _) [] rfl rfl rfl hl.1 rfl (Nat.le_of_ble_eq_true rfl) dX4_ofTest_8 ⟨Nat.zero_le _, Nat.zero_le _⟩) hP hS (fun r1 _ H locs hr2 hP hS => ?_)
  obtain ⟨rfl, hz3⟩ := hr2
  refine lv_istore_n (lv' := [(3, .int (f_X4_in p0 (0 : Int32) ((M_tests g) - (1 : Int32)))), (0, .ref (km 0)), (1, .int p0), (2, .int p1)]) hx hb dX4_ofTest_11 rfl hl (by decide) rfl (fun ls hl => ?_)
  refine lv_aload_n hx hb dX4_ofTest_12 rfl (lv_at hl 1 rfl) ?_
  refine lv_iload_n hx hb dX4_ofTest_13 rfl (lv_at hl 0 rfl) ?_
  have K35 : ∀ (j15 : Int32) (H : Heap) (locs : List Loc) (ls : Array Slot), ok_X4_ofTest_b35 g p0 p1 j15 → f_X4_ofTest g p0 p1 = f_X4_ofTest_b35 g p0 p1 j15 → va_P D vwCl (cModel km q g) H → va_S A s.heap H locs → lv_has ls 4 [(0, .ref (km 0)), (1, .int p0), (2, .int p1)] → W p l e RM_X4_ofTest s m args below meth c H locs 0 0 Q (F0 m 35 ls [.int j15, .ref (km 0)]) := by
    intro j15 H locs ls hok ht hP hS hl
    simp only [ok_X4_ofTest_b35] at hok
    refine kM_i (runM fx (As := [.int j15]) (rest := []) (c_X4_goesWell l D q H.size km g j15) lk_X4_66 ⟨Nat.le_of_ble_eq_true rfl, Nat.le_of_ble_eq_true rfl⟩ ⟨rfl, rfl⟩ hP (hD _) rfl hl.1 rfl (Nat.le_of_ble_eq_true rfl) dX4_ofTest_35 ⟨Nat.zero_le _, Nat.zero_le _⟩) hP (hD _) hS hA (fun r18 u16 H locs hw17 hP hS => ?_)
    obtain ⟨hw17, hz19⟩ := hw17
    try simp only [hw17] at hok
    refine lv_if_ne (tgt := 43) hx hb dX4_ofTest_38 (by decide) (fun c20 => ?_) (fun c20 => ?_)
    · have hok := hok.2 c20
      refine lv_iload_n hx hb dX4_ofTest_43 rfl (lv_at hl 2 rfl) ?_
      refine lv_if_ne (tgt := 56) hx hb dX4_ofTest_44 (by decide) (fun c21 => ?_) (fun c21 => ?_)
      · have hok := hok.2 c21
        refine lv_iload_n hx hb dX4_ofTest_56 rfl (lv_at hl 2 rfl) ?_
        refine lv_iconst (v := 1) hx hb dX4_ofTest_57 (by decide) ?_
        refine lv_icmp_ne (tgt := 70) hx hb dX4_ofTest_58 (by decide) (fun c22 => ?_) (fun c22 => ?_)
        · have hok := hok.2 c22
          refine lv_iload_n hx hb dX4_ofTest_70 rfl (lv_at hl 2 rfl) ?_
          refine lv_iconst (v := 2) hx hb dX4_ofTest_71 (by decide) ?_
          refine lv_icmp_ne (tgt := 92) hx hb dX4_ofTest_72 (by decide) (fun c23 => ?_) (fun c23 => ?_)
          · have hok := hok.2 c23
            refine lv_aload_n hx hb dX4_ofTest_92 rfl (lv_at hl 0 rfl) ?_
            refine gf_X4_46 fx hP 0 rfl dX4_ofTest_93 ?_
            refine lv_iload_n hx hb dX4_ofTest_96 rfl (lv_at hl 1 rfl) ?_
            obtain ⟨hi24, hok⟩ := hok
            refine al_testedAt fx hP (f := M_testedAt u16) rfl hi24 dX4_ofTest_97 ?_
            exact hret ((M_testedAt u16) p0.toNatClampNeg) u16 _ _ _ _ dX4_ofTest_98 (ht.trans (by first | (simp only [f_X4_ofTest_b35, if_neg c20, if_neg c21, if_neg c22, if_neg c23, hw17]; done) | (simp only [f_X4_ofTest_b35, hw17]; simp only [if_neg c20, if_neg c21, if_neg c22, if_neg c23]))) hP hS
          · have hok := hok.1 c23
            refine lv_aload_n hx hb dX4_ofTest_75 rfl (lv_at hl 0 rfl) ?_
            refine gf_X4_43 fx hP 0 rfl dX4_ofTest_76 ?_
            refine lv_iload_n hx hb dX4_ofTest_79 rfl (lv_at hl 1 rfl) ?_
            obtain ⟨hi25, hok⟩ := hok
            refine al_isPassed fx hP (f := M_isPassed u16) rfl hi25 dX4_ofTest_80 ?_
            refine lv_if_eq (tgt := 88) hx hb dX4_ofTest_81 (by decide) (fun c26 => ?_) (fun c26 => ?_)
            · refine lv_iconst (v := 0) hx hb dX4_ofTest_88 (by decide) ?_
              refine lv_goto (tgt := 98) hx hb dX4_ofTest_89 (by decide) ?_
              exact hret (0 : Int32) u16 _ _ _ _ dX4_ofTest_98 (ht.trans (by first | (simp only [f_X4_ofTest_b35, if_neg c20, if_neg c21, if_neg c22, if_pos c23, if_pos c26, hw17]; done) | (simp only [f_X4_ofTest_b35, hw17]; simp only [if_neg c20, if_neg c21, if_neg c22, if_pos c23, if_pos c26]))) hP hS
            · refine lv_iconst (v := 1) hx hb dX4_ofTest_84 (by decide) ?_
              refine lv_goto (tgt := 98) hx hb dX4_ofTest_85 (by decide) ?_
              exact hret (1 : Int32) u16 _ _ _ _ dX4_ofTest_98 (ht.trans (by first | (simp only [f_X4_ofTest_b35, if_neg c20, if_neg c21, if_neg c22, if_pos c23, if_neg c26, hw17]; done) | (simp only [f_X4_ofTest_b35, hw17]; simp only [if_neg c20, if_neg c21, if_neg c22, if_pos c23, if_neg c26]))) hP hS
        · have hok := hok.1 c22
          refine lv_aload_n hx hb dX4_ofTest_61 rfl (lv_at hl 0 rfl) ?_
          refine gf_X4_40 fx hP 0 rfl dX4_ofTest_62 ?_
          refine lv_iload_n hx hb dX4_ofTest_65 rfl (lv_at hl 1 rfl) ?_
          obtain ⟨hi27, hok⟩ := hok
          refine al_by fx hP (f := M_by u16) rfl hi27 dX4_ofTest_66 ?_
          refine lv_goto (tgt := 98) hx hb dX4_ofTest_67 (by decide) ?_
          exact hret ((M_by u16) p0.toNatClampNeg) u16 _ _ _ _ dX4_ofTest_98 (ht.trans (by first | (simp only [f_X4_ofTest_b35, if_neg c20, if_neg c21, if_pos c22, hw17]; done) | (simp only [f_X4_ofTest_b35, hw17]; simp only [if_neg c20, if_neg c21, if_pos c22]))) hP hS
      · have hok := hok.1 c21
        refine lv_aload_n hx hb dX4_ofTest_47 rfl (lv_at hl 0 rfl) ?_
        refine gf_X4_37 fx hP 0 rfl dX4_ofTest_48 ?_
        refine lv_iload_n hx hb dX4_ofTest_51 rfl (lv_at hl 1 rfl) ?_
        obtain ⟨hi28, hok⟩ := hok
        refine al_tested fx hP (f := M_tested u16) rfl hi28 dX4_ofTest_52 ?_
        refine lv_goto (tgt := 98) hx hb dX4_ofTest_53 (by decide) ?_
        exact hret ((M_tested u16) p0.toNatClampNeg) u16 _ _ _ _ dX4_ofTest_98 (ht.trans (by first | (simp only [f_X4_ofTest_b35, if_neg c20, if_pos c21, hw17]; done) | (simp only [f_X4_ofTest_b35, hw17]; simp only [if_neg c20, if_pos c21]))) hP hS
    · have hok := hok.1 c20
      refine lv_iconst (v := 0) hx hb dX4_ofTest_41 (by decide) ?_
      exact hret (0 : Int32) u16 _ _ _ _ dX4_ofTest_42 (ht.trans (by first | (simp only [f_X4_ofTest_b35, if_pos c20, hw17]; done) | (simp only [f_X4_ofTest_b35, hw17]; simp only [if_pos c20]))) hP hS
  refine lv_if_ne (tgt := 21) hx hb dX4_ofTest_14 (by decide) (fun c10 => ?_) (fun c10 => ?_)
  · have hok := hok.2 c10
    refine lv_iload_n hx hb dX4_ofTest_21 rfl (lv_at hl 3 rfl) ?_
    refine lv_iconst (v := 0) hx hb dX4_ofTest_22 (by decide) ?_
    refine lv_iconst (v := 3) hx hb dX4_ofTest_23 (by decide) ?_
    refine kR_i (runS fx (As := [.int p1, .int (0 : Int32), .int (3 : Int32)]) (rest := [.ref (km 0)]) (c_X4_in l D q H.size p1 (0 : Int32) (3 : Int32)) lk_X4_59 ⟨Nat.le_of_ble_eq_true rfl, Nat.le_of_ble_eq_true rfl⟩ ⟨rfl, rfl⟩ hP (hD _) [] rfl rfl rfl hl.1 rfl (Nat.le_of_ble_eq_true rfl) dX4_ofTest_24 ⟨Nat.zero_le _, Nat.zero_le _⟩) hP hS (fun r11 _ H locs hr12 hP hS => ?_)
    obtain ⟨rfl, hz13⟩ := hr12
    refine lv_if_eq (tgt := 34) hx hb dX4_ofTest_27 (by decide) (fun c14 => ?_) (fun c14 => ?_)
    · have hok := hok.1 c14
      refine lv_iconst (v := 2) hx hb dX4_ofTest_34 (by decide) ?_
      exact K35 (2 : Int32) H locs ls hok (ht.trans (by simp only [f_X4_ofTest, if_neg c10, if_pos c14])) hP hS (lv_sub hl [1, 2, 3] rfl)
    · have hok := hok.2 c14
      refine lv_iconst (v := 0) hx hb dX4_ofTest_30 (by decide) ?_
      refine lv_goto (tgt := 35) hx hb dX4_ofTest_31 (by decide) ?_
      exact K35 (0 : Int32) H locs ls hok (ht.trans (by simp only [f_X4_ofTest, if_neg c10, if_neg c14])) hP hS (lv_sub hl [1, 2, 3] rfl)
  · have hok := hok.1 c10
    refine lv_iconst (v := 1) hx hb dX4_ofTest_17 (by decide) ?_
    refine lv_goto (tgt := 35) hx hb dX4_ofTest_18 (by decide) ?_
    exact K35 (1 : Int32) H locs ls hok (ht.trans (by simp only [f_X4_ofTest, if_pos c10])) hP hS (lv_sub hl [1, 2, 3] rfl)

