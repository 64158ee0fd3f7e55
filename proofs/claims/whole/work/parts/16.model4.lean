/-! X4_drill -/
def f_X4_drill_L78 (p0 : Int32) : Nat → Int32 → MS → Int32 × MS
  | 0, i33, g34 => (0, g34)
  | n + 1, i33, g34 => if p0 < i33 then (p0, g34) else (if (M_flowed (f_X4_passOne (M_set_depth g34 ((M_depth g34) + (1 : Int32))) (0 : Int32))) = 0 then (f_X4_drill_L78 p0 n (i33 + (1 : Int32)) (f_X4_passOne (M_set_depth g34 ((M_depth g34) + (1 : Int32))) (0 : Int32))) else (i33, (f_X4_passOne (M_set_depth g34 ((M_depth g34) + (1 : Int32))) (0 : Int32))))

def ok_X4_drill_L78 (p0 : Int32) : Nat → Int32 → MS → Prop
  | 0, _, _ => False
  | n + 1, i33, g34 => (p0 < i33 → True) ∧ (¬ p0 < i33 → ((ok_X4_passOne (M_set_depth g34 ((M_depth g34) + (1 : Int32))) (0 : Int32)) ∧ (((M_flowed (f_X4_passOne (M_set_depth g34 ((M_depth g34) + (1 : Int32))) (0 : Int32))) = 0 → (ok_X4_drill_L78 p0 n (i33 + (1 : Int32)) (f_X4_passOne (M_set_depth g34 ((M_depth g34) + (1 : Int32))) (0 : Int32)))) ∧ (¬ (M_flowed (f_X4_passOne (M_set_depth g34 ((M_depth g34) + (1 : Int32))) (0 : Int32))) = 0 → True))))

def f_X4_drill_b48 (N : Nat) (g : MS) (p0 : Int32) (j16 : Int32) : Int32 × MS :=
  if (f_X4_goesWell g (if (f_X4_in p0 (1 : Int32) (500 : Int32)) = 0 then (1 : Int32) else (if j16 = 0 then (2 : Int32) else (0 : Int32)))).1 = 0 then ((0 : Int32), ((f_X4_goesWell g (if (f_X4_in p0 (1 : Int32) (500 : Int32)) = 0 then (1 : Int32) else (if j16 = 0 then (2 : Int32) else (0 : Int32)))).2)) else (f_X4_drill_L78 p0 N (1 : Int32) ((f_X4_goesWell g (if (f_X4_in p0 (1 : Int32) (500 : Int32)) = 0 then (1 : Int32) else (if j16 = 0 then (2 : Int32) else (0 : Int32)))).2))

def ok_X4_drill_b48 (N : Nat) (g : MS) (p0 : Int32) (j16 : Int32) : Prop :=
  ((f_X4_goesWell g (if (f_X4_in p0 (1 : Int32) (500 : Int32)) = 0 then (1 : Int32) else (if j16 = 0 then (2 : Int32) else (0 : Int32)))).1 = 0 → True) ∧ (¬ (f_X4_goesWell g (if (f_X4_in p0 (1 : Int32) (500 : Int32)) = 0 then (1 : Int32) else (if j16 = 0 then (2 : Int32) else (0 : Int32)))).1 = 0 → (ok_X4_drill_L78 p0 N (1 : Int32) ((f_X4_goesWell g (if (f_X4_in p0 (1 : Int32) (500 : Int32)) = 0 then (1 : Int32) else (if j16 = 0 then (2 : Int32) else (0 : Int32)))).2)))

def f_X4_drill_b47 (N : Nat) (g : MS) (p0 : Int32) : Int32 × MS :=
  f_X4_drill_b48 N g p0 (0 : Int32)

def ok_X4_drill_b47 (N : Nat) (g : MS) (p0 : Int32) : Prop :=
  ok_X4_drill_b48 N g p0 (0 : Int32)

def f_X4_drill (N : Nat) (g : MS) (p0 : Int32) : Int32 × MS :=
  if (f_X4_barsNow N g) = 0 then (if (f_X4_in p0 (1 : Int32) (500 : Int32)) = 0 then (f_X4_drill_b47 N g p0) else (if (5000 : Int32) < ((M_depth g) + p0) then (f_X4_drill_b47 N g p0) else (if (100000 : Int32) < ((M_minutes g) + p0) then (f_X4_drill_b47 N g p0) else (f_X4_drill_b48 N g p0 (1 : Int32))))) else (f_X4_drill_b47 N g p0)

def ok_X4_drill (N : Nat) (g : MS) (p0 : Int32) : Prop :=
  (ok_X4_barsNow N g) ∧ (((f_X4_barsNow N g) = 0 → (((f_X4_in p0 (1 : Int32) (500 : Int32)) = 0 → (ok_X4_drill_b47 N g p0)) ∧ (¬ (f_X4_in p0 (1 : Int32) (500 : Int32)) = 0 → (((5000 : Int32) < ((M_depth g) + p0) → (ok_X4_drill_b47 N g p0)) ∧ (¬ (5000 : Int32) < ((M_depth g) + p0) → (((100000 : Int32) < ((M_minutes g) + p0) → (ok_X4_drill_b47 N g p0)) ∧ (¬ (100000 : Int32) < ((M_minutes g) + p0) → (ok_X4_drill_b48 N g p0 (1 : Int32))))))))) ∧ (¬ (f_X4_barsNow N g) = 0 → (ok_X4_drill_b47 N g p0)))

abbrev RM_X4_drill : Room := { frames := 4, cells := 0, slots := 0, locals := 91 }
set_option maxRecDepth 100000 in
set_option maxHeartbeats 4000000 in
theorem c_X4_drill (l : Launch) (D : va_G) (q : Nat → ClassId) (sz : Nat) (km : Nat → Nat) (g : MS) (p0 : Int32) (N : Nat) (hok : ok_X4_drill N g p0) : Met l yX4_drill (Cond.code yX4_drill cX4_drill 5 (some .int) :: ALL) RM_X4_drill (PC D q [.ref (km 0), .int p0] (cModel km q g) sz) (va_Qi (fun (rv : Int32) (u : MS) => f_X4_drill N g p0 = (rv, u)) (fun u t9 => va_P D vwCl (cModel km q u) t9.heap) (va_A (cModel km q g) sz)) 0 0 (va_A (cModel km q g) sz) := by
  refine en_iW (by decide +kernel) (Nat.le_of_ble_eq_true rfl) ?_
  intro p e s m args below meth c Q A H locs ls fx hD0 hA hP hS hl hret
  have hx := fx.1
  have hb := fx.2.1
  have hl : lv_has ls 5 [(0, .ref (km 0)), (1, .int p0)] := hl
  have hD : ∀ (g9 : MS), va_D _ (cModel km q g9) := fun _ => D_same ((fst_Model _ _ _).trans (fst_Model _ _ _).symm) hD0
  have ht : f_X4_drill N g p0 = f_X4_drill N g p0 := rfl
  simp only [ok_X4_drill] at hok
  refine lv_iload_n hx hb dX4_drill_0 rfl (lv_at hl 1 rfl) ?_
  refine lv_iconst (v := 1) hx hb dX4_drill_1 (by decide) ?_
  refine lv_sipush (v := 500) hx hb dX4_drill_2 (by decide) ?_
  refine kR_i (runS fx (As := [.int p0, .int (1 : Int32), .int (500 : Int32)]) (rest := []) (c_X4_in l D q H.size p0 (1 : Int32) (500 : Int32)) lk_X4_59 ⟨Nat.le_of_ble_eq_true rfl, Nat.le_of_ble_eq_true rfl⟩ ⟨rfl, rfl⟩ hP (hD _) [] rfl rfl rfl hl.1 rfl (Nat.le_of_ble_eq_true rfl) dX4_drill_5 ⟨Nat.zero_le _, Nat.zero_le _⟩) hP hS (fun r1 _ H locs hr2 hP hS => ?_)
  obtain ⟨rfl, hz3⟩ := hr2
  refine lv_istore_n (lv' := [(2, .int (f_X4_in p0 (1 : Int32) (500 : Int32))), (0, .ref (km 0)), (1, .int p0)]) hx hb dX4_drill_8 rfl hl (by decide) rfl (fun ls hl => ?_)
  refine lv_aload_n hx hb dX4_drill_9 rfl (lv_at hl 1 rfl) ?_
  obtain ⟨hk4, hok⟩ := hok
  refine kR_i (runM fx (As := []) (rest := []) (c_X4_barsNow l D q H.size km g N hk4) lk_X4_152 ⟨Nat.le_of_ble_eq_true rfl, Nat.le_of_ble_eq_true rfl⟩ ⟨rfl, rfl⟩ hP (hD _) rfl hl.1 rfl (Nat.le_of_ble_eq_true rfl) dX4_drill_10 ⟨Nat.zero_le _, Nat.zero_le _⟩) hP hS (fun r5 _ H locs hr6 hP hS => ?_)
  subst hr6
  have K48 : ∀ (j16 : Int32) (H : Heap) (locs : List Loc) (ls : Array Slot), ok_X4_drill_b48 N g p0 j16 → f_X4_drill N g p0 = f_X4_drill_b48 N g p0 j16 → va_P D vwCl (cModel km q g) H → va_S A s.heap H locs → lv_has ls 5 [(0, .ref (km 0)), (1, .int p0), (2, .int (f_X4_in p0 (1 : Int32) (500 : Int32)))] → W p l e RM_X4_drill s m args below meth c H locs 0 0 Q (F0 m 48 ls [.int j16]) := by
    intro j16 H locs ls hok ht hP hS hl
    simp only [ok_X4_drill_b48] at hok
    refine lv_istore_n (lv' := [(3, .int j16), (0, .ref (km 0)), (1, .int p0), (2, .int (f_X4_in p0 (1 : Int32) (500 : Int32)))]) hx hb dX4_drill_48 rfl hl (by decide) rfl (fun ls hl => ?_)
    refine lv_aload_n hx hb dX4_drill_49 rfl (lv_at hl 1 rfl) ?_
    refine lv_iload_n hx hb dX4_drill_50 rfl (lv_at hl 3 rfl) ?_
    suffices K : ∀ (v19 : Int32), ∀ (H : Heap) (locs : List Loc) (ls : Array Slot), v19 = (if (f_X4_in p0 (1 : Int32) (500 : Int32)) = 0 then (1 : Int32) else (if j16 = 0 then (2 : Int32) else (0 : Int32))) → va_P D vwCl (cModel km q g) H → va_S A s.heap H locs → lv_has ls 5 [(0, .ref (km 0)), (1, .int p0)] → W p l e RM_X4_drill s m args below meth c H locs 0 0 Q (F0 m 67 ls [.int v19, .ref (km 0)]) by
      refine lv_if_ne (tgt := 58) hx hb dX4_drill_51 (by decide) (fun c17 => ?_) (fun c17 => ?_)
      · refine lv_iload_n hx hb dX4_drill_58 rfl (lv_at hl 0 rfl) ?_
        refine lv_if_eq (tgt := 66) hx hb dX4_drill_59 (by decide) (fun c18 => ?_) (fun c18 => ?_)
        · refine lv_iconst (v := 2) hx hb dX4_drill_66 (by decide) ?_
          exact K (2 : Int32) H locs ls (by simp only [if_neg c17, if_pos c18]) hP hS (lv_sub hl [1, 2] rfl)
        · refine lv_iconst (v := 0) hx hb dX4_drill_62 (by decide) ?_
          refine lv_goto (tgt := 67) hx hb dX4_drill_63 (by decide) ?_
          exact K (0 : Int32) H locs ls (by simp only [if_neg c17, if_neg c18]) hP hS (lv_sub hl [1, 2] rfl)
      · refine lv_iconst (v := 1) hx hb dX4_drill_54 (by decide) ?_
        refine lv_goto (tgt := 67) hx hb dX4_drill_55 (by decide) ?_
        exact K (1 : Int32) H locs ls (by simp only [if_pos c17]) hP hS (lv_sub hl [1, 2] rfl)
    intro v19 H locs ls hvv19 hP hS hl
    subst hvv19
    refine kM_i (runM fx (As := [.int (if (f_X4_in p0 (1 : Int32) (500 : Int32)) = 0 then (1 : Int32) else (if j16 = 0 then (2 : Int32) else (0 : Int32)))]) (rest := []) (c_X4_goesWell l D q H.size km g (if (f_X4_in p0 (1 : Int32) (500 : Int32)) = 0 then (1 : Int32) else (if j16 = 0 then (2 : Int32) else (0 : Int32)))) lk_X4_66 ⟨Nat.le_of_ble_eq_true rfl, Nat.le_of_ble_eq_true rfl⟩ ⟨rfl, rfl⟩ hP (hD _) rfl hl.1 rfl (Nat.le_of_ble_eq_true rfl) dX4_drill_67 ⟨Nat.zero_le _, Nat.zero_le _⟩) hP (hD _) hS hA (fun r22 u20 H locs hw21 hP hS => ?_)
    obtain ⟨hw21, hz23⟩ := hw21
    try simp only [hw21] at hok
    refine lv_if_ne (tgt := 75) hx hb dX4_drill_70 (by decide) (fun c24 => ?_) (fun c24 => ?_)
    · have hok := hok.2 c24
      refine lv_iconst (v := 1) hx hb dX4_drill_75 (by decide) ?_
      refine lv_istore (lv' := [(4, .int (1 : Int32)), (0, .ref (km 0)), (1, .int p0)]) hx hb dX4_drill_76 hl (by decide) rfl (fun ls hl => ?_)
      have LP78 : ∀ (n : Nat) (i33 : Int32) (g34 : MS) (H : Heap) (locs : List Loc) (ls : Array Slot), ok_X4_drill_L78 p0 n i33 g34 → f_X4_drill N g p0 = f_X4_drill_L78 p0 n i33 g34 → va_P D vwCl (cModel km q g34) H → va_S A s.heap H locs → lv_has ls 5 [(0, .ref (km 0)), (1, .int p0), (4, .int i33)] → W p l e RM_X4_drill s m args below meth c H locs 0 0 Q (F0 m 78 ls []) := by
        intro n
        induction n with
        | zero =>
          intro i33 g34 H locs ls hok
          exact (hok : False).elim
        | succ n ih78 =>
          intro i33 g34 H locs ls hok ht hP hS hl
          simp only [ok_X4_drill_L78] at hok
          try simp only [hw21] at hok
          refine lv_iload hx hb dX4_drill_78 (lv_at hl 2 rfl) ?_
          refine lv_iload_n hx hb dX4_drill_80 rfl (lv_at hl 1 rfl) ?_
          refine lv_icmp_gt (tgt := 115) hx hb dX4_drill_81 (by decide) (fun c35 => ?_) (fun c35 => ?_)
          · have hok := hok.1 c35
            refine lv_iload_n hx hb dX4_drill_115 rfl (lv_at hl 1 rfl) ?_
            exact hret p0 g34 _ _ _ _ dX4_drill_116 (ht.trans (by first | (simp only [f_X4_drill_L78, if_pos c35, hw21]; done) | (simp only [f_X4_drill_L78, hw21]; simp only [if_pos c35]))) hP hS
          · have hok := hok.2 c35
            refine lv_aload_n hx hb dX4_drill_84 rfl (lv_at hl 0 rfl) ?_
            refine lv_dup hx hb dX4_drill_85 rfl ?_
            refine gf_X4_63 fx hP 0 rfl (v := M_depth g34) rfl dX4_drill_86 ?_
            refine lv_iconst (v := 1) hx hb dX4_drill_89 (by decide) ?_
            refine lv_iadd hx hb dX4_drill_90 ?_
            refine pf_X4_63_M fx hP (hD _) hS dX4_drill_91 (fun H locs hP hS => ?_)
            refine lv_aload_n hx hb dX4_drill_94 rfl (lv_at hl 0 rfl) ?_
            refine lv_iconst (v := 0) hx hb dX4_drill_95 (by decide) ?_
            obtain ⟨hk36, hok⟩ := hok
            refine kM_v (runM fx (As := [.int (0 : Int32)]) (rest := []) (c_X4_passOne l D q H.size km (M_set_depth g34 ((M_depth g34) + (1 : Int32))) (0 : Int32) hk36) lk_X4_156 ⟨Nat.le_of_ble_eq_true rfl, Nat.le_of_ble_eq_true rfl⟩ ⟨rfl, rfl⟩ hP (hD _) rfl hl.1 rfl (Nat.le_of_ble_eq_true rfl) dX4_drill_96 ⟨Nat.zero_le _, Nat.zero_le _⟩) hP (hD _) hS hA (fun u37 H locs hw38 hP hS => ?_)
            try simp only [hw38] at hok
            refine lv_aload_n hx hb dX4_drill_99 rfl (lv_at hl 0 rfl) ?_
            refine gf_X4_125 fx hP 0 rfl (v := M_flowed u37) rfl dX4_drill_100 ?_
            refine lv_if_eq (tgt := 109) hx hb dX4_drill_103 (by decide) (fun c39 => ?_) (fun c39 => ?_)
            · have hok := hok.1 c39
              refine lv_iinc (v := i33 + (1 : Int32)) (lv' := [(4, .int (i33 + (1 : Int32))), (0, .ref (km 0)), (1, .int p0)]) hx hb dX4_drill_109 hl (k := 2) rfl rfl (by decide) rfl (fun ls hl => ?_)
              refine lv_goto (tgt := 78) hx hb dX4_drill_112 (by decide) ?_
              exact ih78 (i33 + (1 : Int32)) u37 H locs ls hok (ht.trans (by first | (simp only [f_X4_drill_L78, if_neg c35, if_pos c39, hw21, hw38]; done) | (simp only [f_X4_drill_L78, hw21, hw38]; simp only [if_neg c35, if_pos c39]))) hP hS (lv_sub hl [1, 2, 0] rfl)
            · have hok := hok.2 c39
              refine lv_iload hx hb dX4_drill_106 (lv_at hl 2 rfl) ?_
              exact hret i33 u37 _ _ _ _ dX4_drill_108 (ht.trans (by first | (simp only [f_X4_drill_L78, if_neg c35, if_neg c39, hw21, hw38]; done) | (simp only [f_X4_drill_L78, hw21, hw38]; simp only [if_neg c35, if_neg c39]))) hP hS
      exact LP78 N (1 : Int32) u20 H locs ls hok (ht.trans (by first | (simp only [f_X4_drill_b48, if_neg c24, hw21]; done) | (simp only [f_X4_drill_b48, hw21]; simp only [if_neg c24]))) hP hS (lv_sub hl [1, 2, 0] rfl)
    · have hok := hok.1 c24
      refine lv_iconst (v := 0) hx hb dX4_drill_73 (by decide) ?_
      exact hret (0 : Int32) u20 _ _ _ _ dX4_drill_74 (ht.trans (by first | (simp only [f_X4_drill_b48, if_pos c24, hw21]; done) | (simp only [f_X4_drill_b48, hw21]; simp only [if_pos c24]))) hP hS
  have K47 : ∀ (H : Heap) (locs : List Loc) (ls : Array Slot), ok_X4_drill_b47 N g p0 → f_X4_drill N g p0 = f_X4_drill_b47 N g p0 → va_P D vwCl (cModel km q g) H → va_S A s.heap H locs → lv_has ls 5 [(0, .ref (km 0)), (1, .int p0), (2, .int (f_X4_in p0 (1 : Int32) (500 : Int32)))] → W p l e RM_X4_drill s m args below meth c H locs 0 0 Q (F0 m 47 ls []) := by
    intro H locs ls hok ht hP hS hl
    simp only [ok_X4_drill_b47] at hok
    refine lv_iconst (v := 0) hx hb dX4_drill_47 (by decide) ?_
    exact K48 (0 : Int32) H locs ls hok (ht.trans (by simp only [f_X4_drill_b47])) hP hS (lv_sub hl [0, 1, 2] rfl)
  refine lv_if_ne (tgt := 47) hx hb dX4_drill_13 (by decide) (fun c12 => ?_) (fun c12 => ?_)
  · have hok := hok.2 c12
    exact K47 H locs ls hok (ht.trans (by simp only [f_X4_drill, if_neg c12])) hP hS (lv_sub hl [1, 2, 0] rfl)
  · have hok := hok.1 c12
    refine lv_iload_n hx hb dX4_drill_16 rfl (lv_at hl 0 rfl) ?_
    refine lv_if_eq (tgt := 47) hx hb dX4_drill_17 (by decide) (fun c13 => ?_) (fun c13 => ?_)
    · have hok := hok.1 c13
      exact K47 H locs ls hok (ht.trans (by simp only [f_X4_drill, if_pos c12, if_pos c13])) hP hS (lv_sub hl [1, 2, 0] rfl)
    · have hok := hok.2 c13
      refine lv_aload_n hx hb dX4_drill_20 rfl (lv_at hl 1 rfl) ?_
      refine gf_X4_63 fx hP 0 rfl (v := M_depth g) rfl dX4_drill_21 ?_
      refine lv_iload_n hx hb dX4_drill_24 rfl (lv_at hl 2 rfl) ?_
      refine lv_iadd hx hb dX4_drill_25 ?_
      refine lv_sipush (v := 5000) hx hb dX4_drill_26 (by decide) ?_
      refine lv_icmp_gt (tgt := 47) hx hb dX4_drill_29 (by decide) (fun c14 => ?_) (fun c14 => ?_)
      · have hok := hok.1 c14
        exact K47 H locs ls hok (ht.trans (by simp only [f_X4_drill, if_pos c12, if_neg c13, if_pos c14])) hP hS (lv_sub hl [1, 2, 0] rfl)
      · have hok := hok.2 c14
        refine lv_aload_n hx hb dX4_drill_32 rfl (lv_at hl 1 rfl) ?_
        refine gf_X4_128 fx hP 0 rfl (v := M_minutes g) rfl dX4_drill_33 ?_
        refine lv_iload_n hx hb dX4_drill_36 rfl (lv_at hl 2 rfl) ?_
        refine lv_iadd hx hb dX4_drill_37 ?_
        refine lv_ldc hx hb fx.2.2.2.1 (fx.2.2.2.2.1 _ mm_359) dX4_drill_38 ?_
        refine lv_icmp_gt (tgt := 47) hx hb dX4_drill_40 (by decide) (fun c15 => ?_) (fun c15 => ?_)
        · have hok := hok.1 c15
          exact K47 H locs ls hok (ht.trans (by simp only [f_X4_drill, if_pos c12, if_neg c13, if_neg c14, if_pos c15])) hP hS (lv_sub hl [1, 2, 0] rfl)
        · have hok := hok.2 c15
          refine lv_iconst (v := 1) hx hb dX4_drill_43 (by decide) ?_
          refine lv_goto (tgt := 48) hx hb dX4_drill_44 (by decide) ?_
          exact K48 (1 : Int32) H locs ls hok (ht.trans (by simp only [f_X4_drill, if_pos c12, if_neg c13, if_neg c14, if_neg c15])) hP hS (lv_sub hl [1, 2, 0] rfl)

/-! X4_pass -/
def f_X4_pass_L44 (p0 : Int32) : Nat → Int32 → MS → MS
  | 0, _, g20 => g20
  | n + 1, i19, g20 => if p0 ≤ i19 then g20 else (f_X4_pass_L44 p0 n (i19 + (1 : Int32)) (f_X4_passOne g20 (0 : Int32)))

def ok_X4_pass_L44 (p0 : Int32) : Nat → Int32 → MS → Prop
  | 0, _, _ => False
  | n + 1, i19, g20 => (p0 ≤ i19 → True) ∧ (¬ p0 ≤ i19 → ((ok_X4_passOne g20 (0 : Int32)) ∧ (ok_X4_pass_L44 p0 n (i19 + (1 : Int32)) (f_X4_passOne g20 (0 : Int32)))))

def f_X4_pass (N : Nat) (g : MS) (p0 : Int32) : Int32 × MS :=
  if (f_X4_goesWell g (if (f_X4_in p0 (1 : Int32) (2000 : Int32)) = 0 then (1 : Int32) else (if ((M_minutes g) + p0) ≤ (100000 : Int32) then (0 : Int32) else (2 : Int32)))).1 = 0 then ((0 : Int32), ((f_X4_goesWell g (if (f_X4_in p0 (1 : Int32) (2000 : Int32)) = 0 then (1 : Int32) else (if ((M_minutes g) + p0) ≤ (100000 : Int32) then (0 : Int32) else (2 : Int32)))).2)) else ((M_gas (f_X4_pass_L44 p0 N (0 : Int32) ((f_X4_goesWell g (if (f_X4_in p0 (1 : Int32) (2000 : Int32)) = 0 then (1 : Int32) else (if ((M_minutes g) + p0) ≤ (100000 : Int32) then (0 : Int32) else (2 : Int32)))).2))) + (M_liquid (f_X4_pass_L44 p0 N (0 : Int32) ((f_X4_goesWell g (if (f_X4_in p0 (1 : Int32) (2000 : Int32)) = 0 then (1 : Int32) else (if ((M_minutes g) + p0) ≤ (100000 : Int32) then (0 : Int32) else (2 : Int32)))).2))), (f_X4_pass_L44 p0 N (0 : Int32) ((f_X4_goesWell g (if (f_X4_in p0 (1 : Int32) (2000 : Int32)) = 0 then (1 : Int32) else (if ((M_minutes g) + p0) ≤ (100000 : Int32) then (0 : Int32) else (2 : Int32)))).2)))

def ok_X4_pass (N : Nat) (g : MS) (p0 : Int32) : Prop :=
  ((f_X4_goesWell g (if (f_X4_in p0 (1 : Int32) (2000 : Int32)) = 0 then (1 : Int32) else (if ((M_minutes g) + p0) ≤ (100000 : Int32) then (0 : Int32) else (2 : Int32)))).1 = 0 → True) ∧ (¬ (f_X4_goesWell g (if (f_X4_in p0 (1 : Int32) (2000 : Int32)) = 0 then (1 : Int32) else (if ((M_minutes g) + p0) ≤ (100000 : Int32) then (0 : Int32) else (2 : Int32)))).1 = 0 → ((ok_X4_pass_L44 p0 N (0 : Int32) ((f_X4_goesWell g (if (f_X4_in p0 (1 : Int32) (2000 : Int32)) = 0 then (1 : Int32) else (if ((M_minutes g) + p0) ≤ (100000 : Int32) then (0 : Int32) else (2 : Int32)))).2)) ∧ True))

abbrev RM_X4_pass : Room := { frames := 4, cells := 0, slots := 0, locals := 91 }
set_option maxRecDepth 100000 in
set_option maxHeartbeats 4000000 in
theorem c_X4_pass (l : Launch) (D : va_G) (q : Nat → ClassId) (sz : Nat) (km : Nat → Nat) (g : MS) (p0 : Int32) (N : Nat) (hok : ok_X4_pass N g p0) : Met l yX4_pass (Cond.code yX4_pass cX4_pass 4 (some .int) :: ALL) RM_X4_pass (PC D q [.ref (km 0), .int p0] (cModel km q g) sz) (va_Qi (fun (rv : Int32) (u : MS) => f_X4_pass N g p0 = (rv, u)) (fun u t9 => va_P D vwCl (cModel km q u) t9.heap) (va_A (cModel km q g) sz)) 0 0 (va_A (cModel km q g) sz) := by
  refine en_iW (by decide +kernel) (Nat.le_of_ble_eq_true rfl) ?_
  intro p e s m args below meth c Q A H locs ls fx hD0 hA hP hS hl hret
  have hx := fx.1
  have hb := fx.2.1
  have hl : lv_has ls 4 [(0, .ref (km 0)), (1, .int p0)] := hl
  have hD : ∀ (g9 : MS), va_D _ (cModel km q g9) := fun _ => D_same ((fst_Model _ _ _).trans (fst_Model _ _ _).symm) hD0
  have ht : f_X4_pass N g p0 = f_X4_pass N g p0 := rfl
  simp only [ok_X4_pass] at hok
  refine lv_iload_n hx hb dX4_pass_0 rfl (lv_at hl 1 rfl) ?_
  refine lv_iconst (v := 1) hx hb dX4_pass_1 (by decide) ?_
  refine lv_sipush (v := 2000) hx hb dX4_pass_2 (by decide) ?_
  refine kR_i (runS fx (As := [.int p0, .int (1 : Int32), .int (2000 : Int32)]) (rest := []) (c_X4_in l D q H.size p0 (1 : Int32) (2000 : Int32)) lk_X4_59 ⟨Nat.le_of_ble_eq_true rfl, Nat.le_of_ble_eq_true rfl⟩ ⟨rfl, rfl⟩ hP (hD _) [] rfl rfl rfl hl.1 rfl (Nat.le_of_ble_eq_true rfl) dX4_pass_5 ⟨Nat.zero_le _, Nat.zero_le _⟩) hP hS (fun r1 _ H locs hr2 hP hS => ?_)
  obtain ⟨rfl, hz3⟩ := hr2
  refine lv_istore_n (lv' := [(2, .int (f_X4_in p0 (1 : Int32) (2000 : Int32))), (0, .ref (km 0)), (1, .int p0)]) hx hb dX4_pass_8 rfl hl (by decide) rfl (fun ls hl => ?_)
  refine lv_aload_n hx hb dX4_pass_9 rfl (lv_at hl 1 rfl) ?_
  refine lv_iload_n hx hb dX4_pass_10 rfl (lv_at hl 0 rfl) ?_
  suffices K : ∀ (v6 : Int32), ∀ (H : Heap) (locs : List Loc) (ls : Array Slot), v6 = (if (f_X4_in p0 (1 : Int32) (2000 : Int32)) = 0 then (1 : Int32) else (if ((M_minutes g) + p0) ≤ (100000 : Int32) then (0 : Int32) else (2 : Int32))) → va_P D vwCl (cModel km q g) H → va_S A s.heap H locs → lv_has ls 4 [(0, .ref (km 0)), (1, .int p0)] → W p l e RM_X4_pass s m args below meth c H locs 0 0 Q (F0 m 34 ls [.int v6, .ref (km 0)]) by
    refine lv_if_ne (tgt := 18) hx hb dX4_pass_11 (by decide) (fun c4 => ?_) (fun c4 => ?_)
    · refine lv_aload_n hx hb dX4_pass_18 rfl (lv_at hl 1 rfl) ?_
      refine gf_X4_128 fx hP 0 rfl (v := M_minutes g) rfl dX4_pass_19 ?_
      refine lv_iload_n hx hb dX4_pass_22 rfl (lv_at hl 2 rfl) ?_
      refine lv_iadd hx hb dX4_pass_23 ?_
      refine lv_ldc hx hb fx.2.2.2.1 (fx.2.2.2.2.1 _ mm_359) dX4_pass_24 ?_
      refine lv_icmp_le (tgt := 33) hx hb dX4_pass_26 (by decide) (fun c5 => ?_) (fun c5 => ?_)
      · refine lv_iconst (v := 0) hx hb dX4_pass_33 (by decide) ?_
        exact K (0 : Int32) H locs ls (by simp only [if_neg c4, if_pos c5]) hP hS (lv_sub hl [1, 2] rfl)
      · refine lv_iconst (v := 2) hx hb dX4_pass_29 (by decide) ?_
        refine lv_goto (tgt := 34) hx hb dX4_pass_30 (by decide) ?_
        exact K (2 : Int32) H locs ls (by simp only [if_neg c4, if_neg c5]) hP hS (lv_sub hl [1, 2] rfl)
    · refine lv_iconst (v := 1) hx hb dX4_pass_14 (by decide) ?_
      refine lv_goto (tgt := 34) hx hb dX4_pass_15 (by decide) ?_
      exact K (1 : Int32) H locs ls (by simp only [if_pos c4]) hP hS (lv_sub hl [1, 2] rfl)
  intro v6 H locs ls hvv6 hP hS hl
  subst hvv6
  refine kM_i (runM fx (As := [.int (if (f_X4_in p0 (1 : Int32) (2000 : Int32)) = 0 then (1 : Int32) else (if ((M_minutes g) + p0) ≤ (100000 : Int32) then (0 : Int32) else (2 : Int32)))]) (rest := []) (c_X4_goesWell l D q H.size km g (if (f_X4_in p0 (1 : Int32) (2000 : Int32)) = 0 then (1 : Int32) else (if ((M_minutes g) + p0) ≤ (100000 : Int32) then (0 : Int32) else (2 : Int32)))) lk_X4_66 ⟨Nat.le_of_ble_eq_true rfl, Nat.le_of_ble_eq_true rfl⟩ ⟨rfl, rfl⟩ hP (hD _) rfl hl.1 rfl (Nat.le_of_ble_eq_true rfl) dX4_pass_34 ⟨Nat.zero_le _, Nat.zero_le _⟩) hP (hD _) hS hA (fun r9 u7 H locs hw8 hP hS => ?_)
  obtain ⟨hw8, hz10⟩ := hw8
  try simp only [hw8] at hok
  refine lv_if_ne (tgt := 42) hx hb dX4_pass_37 (by decide) (fun c11 => ?_) (fun c11 => ?_)
  · have hok := hok.2 c11
    refine lv_iconst (v := 0) hx hb dX4_pass_42 (by decide) ?_
    refine lv_istore_n (lv' := [(3, .int (0 : Int32)), (0, .ref (km 0)), (1, .int p0)]) hx hb dX4_pass_43 rfl hl (by decide) rfl (fun ls hl => ?_)
    obtain ⟨hokL, hok⟩ := hok
    obtain ⟨z44, hz44⟩ : ∃ z, f_X4_pass_L44 p0 N (0 : Int32) u7 = z := ⟨_, rfl⟩
    suffices KJ44 : ∀ (H : Heap) (locs : List Loc) (ls : Array Slot), va_P D vwCl (cModel km q z44) H → va_S A s.heap H locs → lv_has ls 4 [(0, .ref (km 0))] → W p l e RM_X4_pass s m args below meth c H locs 0 0 Q (F0 m 60 ls []) by
      have LP44 : ∀ (n : Nat) (i19 : Int32) (g20 : MS) (H : Heap) (locs : List Loc) (ls : Array Slot), ok_X4_pass_L44 p0 n i19 g20 → f_X4_pass_L44 p0 n i19 g20 = z44 → va_P D vwCl (cModel km q g20) H → va_S A s.heap H locs → lv_has ls 4 [(0, .ref (km 0)), (1, .int p0), (3, .int i19)] → W p l e RM_X4_pass s m args below meth c H locs 0 0 Q (F0 m 44 ls []) := by
        intro n
        induction n with
        | zero =>
          intro i19 g20 H locs ls hok
          exact (hok : False).elim
        | succ n ih44 =>
          intro i19 g20 H locs ls hok ht hP hS hl
          simp only [ok_X4_pass_L44] at hok
          try simp only [hw8] at hok
          refine lv_iload_n hx hb dX4_pass_44 rfl (lv_at hl 2 rfl) ?_
          refine lv_iload_n hx hb dX4_pass_45 rfl (lv_at hl 1 rfl) ?_
          refine lv_icmp_ge (tgt := 60) hx hb dX4_pass_46 (by decide) (fun c21 => ?_) (fun c21 => ?_)
          · have hok := hok.1 c21
            have hv9 := ht.symm.trans (show _ = g20 by simp only [f_X4_pass_L44, if_pos c21, hw8])
            subst hv9
            exact KJ44 H locs ls hP hS (lv_sub hl [0] rfl)
          · have hok := hok.2 c21
            refine lv_aload_n hx hb dX4_pass_49 rfl (lv_at hl 0 rfl) ?_
            refine lv_iconst (v := 0) hx hb dX4_pass_50 (by decide) ?_
            obtain ⟨hk22, hok⟩ := hok
            refine kM_v (runM fx (As := [.int (0 : Int32)]) (rest := []) (c_X4_passOne l D q H.size km g20 (0 : Int32) hk22) lk_X4_156 ⟨Nat.le_of_ble_eq_true rfl, Nat.le_of_ble_eq_true rfl⟩ ⟨rfl, rfl⟩ hP (hD _) rfl hl.1 rfl (Nat.le_of_ble_eq_true rfl) dX4_pass_51 ⟨Nat.zero_le _, Nat.zero_le _⟩) hP (hD _) hS hA (fun u23 H locs hw24 hP hS => ?_)
            try simp only [hw24] at hok
            refine lv_iinc (v := i19 + (1 : Int32)) (lv' := [(3, .int (i19 + (1 : Int32))), (0, .ref (km 0)), (1, .int p0)]) hx hb dX4_pass_54 hl (k := 2) rfl rfl (by decide) rfl (fun ls hl => ?_)
            refine lv_goto (tgt := 44) hx hb dX4_pass_57 (by decide) ?_
            exact ih44 (i19 + (1 : Int32)) u23 H locs ls hok ((show f_X4_pass_L44 p0 (n + 1) i19 g20 = _ by simp only [f_X4_pass_L44, if_neg c21, hw8, hw24]).symm.trans ht) hP hS (lv_sub hl [1, 2, 0] rfl)
      exact LP44 N (0 : Int32) u7 H locs ls hokL hz44 hP hS (lv_sub hl [1, 2, 0] rfl)
    intro H locs ls hP hS hl
    subst hz44
    refine lv_aload_n hx hb dX4_pass_60 rfl (lv_at hl 0 rfl) ?_
    refine gf_X4_77 fx hP 0 rfl (v := M_gas (f_X4_pass_L44 p0 N (0 : Int32) u7)) rfl dX4_pass_61 ?_
    refine lv_aload_n hx hb dX4_pass_64 rfl (lv_at hl 0 rfl) ?_
    refine gf_X4_80 fx hP 0 rfl (v := M_liquid (f_X4_pass_L44 p0 N (0 : Int32) u7)) rfl dX4_pass_65 ?_
    refine lv_iadd hx hb dX4_pass_68 ?_
    exact hret ((M_gas (f_X4_pass_L44 p0 N (0 : Int32) u7)) + (M_liquid (f_X4_pass_L44 p0 N (0 : Int32) u7))) (f_X4_pass_L44 p0 N (0 : Int32) u7) _ _ _ _ dX4_pass_69 (ht.trans (by first | (simp only [f_X4_pass, if_neg c11, hw8]; done) | (simp only [f_X4_pass, hw8]; simp only [if_neg c11]))) hP hS
  · have hok := hok.1 c11
    refine lv_iconst (v := 0) hx hb dX4_pass_40 (by decide) ?_
    exact hret (0 : Int32) u7 _ _ _ _ dX4_pass_41 (ht.trans (by first | (simp only [f_X4_pass, if_pos c11, hw8]; done) | (simp only [f_X4_pass, hw8]; simp only [if_pos c11]))) hP hS

/-! X4_close -/
def f_X4_close (g : MS) : MS :=
  if (f_X4_goesWell g (if (M_isClosed g) = 0 then (0 : Int32) else (1 : Int32))).1 = 0 then ((f_X4_goesWell g (if (M_isClosed g) = 0 then (0 : Int32) else (1 : Int32))).2) else (M_set_choke (M_set_isClosed ((f_X4_goesWell g (if (M_isClosed g) = 0 then (0 : Int32) else (1 : Int32))).2) (1 : Int32)) (0 : Int32))

abbrev RM_X4_close : Room := { frames := 1, cells := 0, slots := 0, locals := 21 }
set_option maxRecDepth 100000 in
set_option maxHeartbeats 4000000 in
theorem c_X4_close (l : Launch) (D : va_G) (q : Nat → ClassId) (sz : Nat) (km : Nat → Nat) (g : MS) : Met l yX4_close (Cond.code yX4_close cX4_close 1 none :: ALL) RM_X4_close (PC D q [.ref (km 0)] (cModel km q g) sz) (va_Qv (fun (u : MS) => f_X4_close g = u) (fun u t9 => va_P D vwCl (cModel km q u) t9.heap) (va_A (cModel km q g) sz)) 0 0 (va_A (cModel km q g) sz) := by
  refine en_vW (by decide +kernel) (Nat.le_of_ble_eq_true rfl) ?_
  intro p e s m args below meth c Q A H locs ls fx hD0 hA hP hS hl hret
  have hx := fx.1
  have hb := fx.2.1
  have hl : lv_has ls 1 [(0, .ref (km 0))] := hl
  have hD : ∀ (g9 : MS), va_D _ (cModel km q g9) := fun _ => D_same ((fst_Model _ _ _).trans (fst_Model _ _ _).symm) hD0
  have ht : f_X4_close g = f_X4_close g := rfl
  refine lv_aload_n hx hb dX4_close_0 rfl (lv_at hl 0 rfl) ?_
  refine lv_aload_n hx hb dX4_close_1 rfl (lv_at hl 0 rfl) ?_
  refine gf_X4_70 fx hP 0 rfl (v := M_isClosed g) rfl dX4_close_2 ?_
  suffices K : ∀ (v2 : Int32), ∀ (H : Heap) (locs : List Loc) (ls : Array Slot), v2 = (if (M_isClosed g) = 0 then (0 : Int32) else (1 : Int32)) → va_P D vwCl (cModel km q g) H → va_S A s.heap H locs → lv_has ls 1 [(0, .ref (km 0))] → W p l e RM_X4_close s m args below meth c H locs 0 0 Q (F0 m 13 ls [.int v2, .ref (km 0)]) by
    refine lv_if_eq (tgt := 12) hx hb dX4_close_5 (by decide) (fun c1 => ?_) (fun c1 => ?_)
    · refine lv_iconst (v := 0) hx hb dX4_close_12 (by decide) ?_
      exact K (0 : Int32) H locs ls (by simp only [if_pos c1]) hP hS (lv_sub hl [0] rfl)
    · refine lv_iconst (v := 1) hx hb dX4_close_8 (by decide) ?_
      refine lv_goto (tgt := 13) hx hb dX4_close_9 (by decide) ?_
      exact K (1 : Int32) H locs ls (by simp only [if_neg c1]) hP hS (lv_sub hl [0] rfl)
  intro v2 H locs ls hvv2 hP hS hl
  subst hvv2
  refine kM_i (runM fx (As := [.int (if (M_isClosed g) = 0 then (0 : Int32) else (1 : Int32))]) (rest := []) (c_X4_goesWell l D q H.size km g (if (M_isClosed g) = 0 then (0 : Int32) else (1 : Int32))) lk_X4_66 ⟨Nat.le_of_ble_eq_true rfl, Nat.le_of_ble_eq_true rfl⟩ ⟨rfl, rfl⟩ hP (hD _) rfl hl.1 rfl (Nat.le_of_ble_eq_true rfl) dX4_close_13 ⟨Nat.zero_le _, Nat.zero_le _⟩) hP (hD _) hS hA (fun r5 u3 H locs hw4 hP hS => ?_)
  obtain ⟨hw4, hz6⟩ := hw4
  refine lv_if_eq (tgt := 29) hx hb dX4_close_16 (by decide) (fun c7 => ?_) (fun c7 => ?_)
  · exact hret u3 _ _ _ _ dX4_close_29 (ht.trans (by first | (simp only [f_X4_close, if_pos c7, hw4]; done) | (simp only [f_X4_close, hw4]; simp only [if_pos c7]))) hP hS
  · refine lv_aload_n hx hb dX4_close_19 rfl (lv_at hl 0 rfl) ?_
    refine lv_iconst (v := 1) hx hb dX4_close_20 (by decide) ?_
    refine pf_X4_70_M fx hP (hD _) hS (hz := bz1) dX4_close_21 (fun H locs hP hS => ?_)
    refine lv_aload_n hx hb dX4_close_24 rfl (lv_at hl 0 rfl) ?_
    refine lv_iconst (v := 0) hx hb dX4_close_25 (by decide) ?_
    refine pf_X4_87_M fx hP (hD _) hS dX4_close_26 (fun H locs hP hS => ?_)
    exact hret (M_set_choke (M_set_isClosed u3 (1 : Int32)) (0 : Int32)) _ _ _ _ dX4_close_29 (ht.trans (by first | (simp only [f_X4_close, if_neg c7, hw4]; done) | (simp only [f_X4_close, hw4]; simp only [if_neg c7]))) hP hS

/-! X4_open -/
def f_X4_open (g : MS) : Int32 × MS :=
  if (f_X4_goesWell g (if (M_isClosed g) = 0 then (1 : Int32) else (0 : Int32))).1 = 0 then ((0 : Int32), ((f_X4_goesWell g (if (M_isClosed g) = 0 then (1 : Int32) else (0 : Int32))).2)) else (M_choke ((f_X4_goesWell g (if (M_isClosed g) = 0 then (1 : Int32) else (0 : Int32))).2), M_set_choke (M_set_isClosed ((f_X4_goesWell g (if (M_isClosed g) = 0 then (1 : Int32) else (0 : Int32))).2) (0 : Int32)) (0 : Int32))

abbrev RM_X4_open : Room := { frames := 1, cells := 0, slots := 0, locals := 21 }
set_option maxRecDepth 100000 in
set_option maxHeartbeats 4000000 in
theorem c_X4_open (l : Launch) (D : va_G) (q : Nat → ClassId) (sz : Nat) (km : Nat → Nat) (g : MS) : Met l yX4_open (Cond.code yX4_open cX4_open 2 (some .int) :: ALL) RM_X4_open (PC D q [.ref (km 0)] (cModel km q g) sz) (va_Qi (fun (rv : Int32) (u : MS) => f_X4_open g = (rv, u)) (fun u t9 => va_P D vwCl (cModel km q u) t9.heap) (va_A (cModel km q g) sz)) 0 0 (va_A (cModel km q g) sz) := by
  refine en_iW (by decide +kernel) (Nat.le_of_ble_eq_true rfl) ?_
  intro p e s m args below meth c Q A H locs ls fx hD0 hA hP hS hl hret
  have hx := fx.1
  have hb := fx.2.1
  have hl : lv_has ls 2 [(0, .ref (km 0))] := hl
  have hD : ∀ (g9 : MS), va_D _ (cModel km q g9) := fun _ => D_same ((fst_Model _ _ _).trans (fst_Model _ _ _).symm) hD0
  have ht : f_X4_open g = f_X4_open g := rfl
  refine lv_aload_n hx hb dX4_open_0 rfl (lv_at hl 0 rfl) ?_
  refine lv_aload_n hx hb dX4_open_1 rfl (lv_at hl 0 rfl) ?_
  refine gf_X4_70 fx hP 0 rfl (v := M_isClosed g) rfl dX4_open_2 ?_
  suffices K : ∀ (v2 : Int32), ∀ (H : Heap) (locs : List Loc) (ls : Array Slot), v2 = (if (M_isClosed g) = 0 then (1 : Int32) else (0 : Int32)) → va_P D vwCl (cModel km q g) H → va_S A s.heap H locs → lv_has ls 2 [(0, .ref (km 0))] → W p l e RM_X4_open s m args below meth c H locs 0 0 Q (F0 m 13 ls [.int v2, .ref (km 0)]) by
    refine lv_if_eq (tgt := 12) hx hb dX4_open_5 (by decide) (fun c1 => ?_) (fun c1 => ?_)
    · refine lv_iconst (v := 1) hx hb dX4_open_12 (by decide) ?_
      exact K (1 : Int32) H locs ls (by simp only [if_pos c1]) hP hS (lv_sub hl [0] rfl)
    · refine lv_iconst (v := 0) hx hb dX4_open_8 (by decide) ?_
      refine lv_goto (tgt := 13) hx hb dX4_open_9 (by decide) ?_
      exact K (0 : Int32) H locs ls (by simp only [if_neg c1]) hP hS (lv_sub hl [0] rfl)
  intro v2 H locs ls hvv2 hP hS hl
  subst hvv2
  refine kM_i (runM fx (As := [.int (if (M_isClosed g) = 0 then (1 : Int32) else (0 : Int32))]) (rest := []) (c_X4_goesWell l D q H.size km g (if (M_isClosed g) = 0 then (1 : Int32) else (0 : Int32))) lk_X4_66 ⟨Nat.le_of_ble_eq_true rfl, Nat.le_of_ble_eq_true rfl⟩ ⟨rfl, rfl⟩ hP (hD _) rfl hl.1 rfl (Nat.le_of_ble_eq_true rfl) dX4_open_13 ⟨Nat.zero_le _, Nat.zero_le _⟩) hP (hD _) hS hA (fun r5 u3 H locs hw4 hP hS => ?_)
  obtain ⟨hw4, hz6⟩ := hw4
  refine lv_if_ne (tgt := 21) hx hb dX4_open_16 (by decide) (fun c7 => ?_) (fun c7 => ?_)
  · refine lv_aload_n hx hb dX4_open_21 rfl (lv_at hl 0 rfl) ?_
    refine gf_X4_87 fx hP 0 rfl (v := M_choke u3) rfl dX4_open_22 ?_
    refine lv_istore_n (lv' := [(1, .int (M_choke u3)), (0, .ref (km 0))]) hx hb dX4_open_25 rfl hl (by decide) rfl (fun ls hl => ?_)
    refine lv_aload_n hx hb dX4_open_26 rfl (lv_at hl 1 rfl) ?_
    refine lv_iconst (v := 0) hx hb dX4_open_27 (by decide) ?_
    refine pf_X4_70_M fx hP (hD _) hS (hz := bz0) dX4_open_28 (fun H locs hP hS => ?_)
    refine lv_aload_n hx hb dX4_open_31 rfl (lv_at hl 1 rfl) ?_
    refine lv_iconst (v := 0) hx hb dX4_open_32 (by decide) ?_
    refine pf_X4_87_M fx hP (hD _) hS dX4_open_33 (fun H locs hP hS => ?_)
    refine lv_iload_n hx hb dX4_open_36 rfl (lv_at hl 0 rfl) ?_
    exact hret (M_choke u3) (M_set_choke (M_set_isClosed u3 (0 : Int32)) (0 : Int32)) _ _ _ _ dX4_open_37 (ht.trans (by first | (simp only [f_X4_open, if_neg c7, hw4]; done) | (simp only [f_X4_open, hw4]; simp only [if_neg c7]))) hP hS
  · refine lv_iconst (v := 0) hx hb dX4_open_19 (by decide) ?_
    exact hret (0 : Int32) u3 _ _ _ _ dX4_open_20 (ht.trans (by first | (simp only [f_X4_open, if_pos c7, hw4]; done) | (simp only [f_X4_open, hw4]; simp only [if_pos c7]))) hP hS

/-! X4_pump -/
def f_X4_pump_L115 (p0 : Int32) (p1 : Int32) : Nat → Int32 → MS → Int32 × MS
  | 0, i41, g42 => (0, g42)
  | n + 1, i41, g42 => if p0 < i41 then (p0, g42) else (if (M_isClosed (f_X4_passOne g42 (1 : Int32))) = 0 then (i41, (f_X4_passOne g42 (1 : Int32))) else (if ((M_pumped (f_X4_passOne g42 (1 : Int32))) + (20 : Int32)) < (M_depth (f_X4_passOne g42 (1 : Int32))) then (f_X4_pump_L115 p0 p1 n (i41 + (1 : Int32)) (M_set_pumped (f_X4_passOne g42 (1 : Int32)) ((M_pumped (f_X4_passOne g42 (1 : Int32))) + (20 : Int32)))) else (f_X4_pump_L115 p0 p1 n (i41 + (1 : Int32)) (M_set_pumped (M_set_liquid (M_set_weight (M_set_pumped (f_X4_passOne g42 (1 : Int32)) ((M_pumped (f_X4_passOne g42 (1 : Int32))) + (20 : Int32))) p1) (0 : Int32)) (0 : Int32)))))

def ok_X4_pump_L115 (p0 : Int32) (p1 : Int32) : Nat → Int32 → MS → Prop
  | 0, _, _ => False
  | n + 1, i41, g42 => (p0 < i41 → True) ∧ (¬ p0 < i41 → ((ok_X4_passOne g42 (1 : Int32)) ∧ (((M_isClosed (f_X4_passOne g42 (1 : Int32))) = 0 → True) ∧ (¬ (M_isClosed (f_X4_passOne g42 (1 : Int32))) = 0 → ((((M_pumped (f_X4_passOne g42 (1 : Int32))) + (20 : Int32)) < (M_depth (f_X4_passOne g42 (1 : Int32))) → (ok_X4_pump_L115 p0 p1 n (i41 + (1 : Int32)) (M_set_pumped (f_X4_passOne g42 (1 : Int32)) ((M_pumped (f_X4_passOne g42 (1 : Int32))) + (20 : Int32))))) ∧ (¬ ((M_pumped (f_X4_passOne g42 (1 : Int32))) + (20 : Int32)) < (M_depth (f_X4_passOne g42 (1 : Int32))) → (ok_X4_pump_L115 p0 p1 n (i41 + (1 : Int32)) (M_set_pumped (M_set_liquid (M_set_weight (M_set_pumped (f_X4_passOne g42 (1 : Int32)) ((M_pumped (f_X4_passOne g42 (1 : Int32))) + (20 : Int32))) p1) (0 : Int32)) (0 : Int32)))))))))

def f_X4_pump_b79 (N : Nat) (g : MS) (p0 : Int32) (p1 : Int32) (j23 : Int32) : Int32 × MS :=
  if (f_X4_goesWell g j23).1 = 0 then ((0 : Int32), ((f_X4_goesWell g j23).2)) else (f_X4_pump_L115 p0 p1 N (1 : Int32) (M_set_pumpedWeight (M_set_pumped ((f_X4_goesWell g j23).2) (if p1 = (M_pumpedWeight ((f_X4_goesWell g j23).2)) then M_pumped ((f_X4_goesWell g j23).2) else (0 : Int32))) p1))

def ok_X4_pump_b79 (N : Nat) (g : MS) (p0 : Int32) (p1 : Int32) (j23 : Int32) : Prop :=
  ((f_X4_goesWell g j23).1 = 0 → True) ∧ (¬ (f_X4_goesWell g j23).1 = 0 → (ok_X4_pump_L115 p0 p1 N (1 : Int32) (M_set_pumpedWeight (M_set_pumped ((f_X4_goesWell g j23).2) (if p1 = (M_pumpedWeight ((f_X4_goesWell g j23).2)) then M_pumped ((f_X4_goesWell g j23).2) else (0 : Int32))) p1)))

def f_X4_pump_b58 (N : Nat) (g : MS) (p0 : Int32) (p1 : Int32) (j17 : Int32) : Int32 × MS :=
  if (if (f_X4_in p0 (1 : Int32) (500 : Int32)) = 0 then (0 : Int32) else (if (f_X4_in p1 (0 : Int32) (300 : Int32)) = 0 then (0 : Int32) else (1 : Int32))) = 0 then (f_X4_pump_b79 N g p0 p1 (1 : Int32)) else (if j17 = 0 then (f_X4_pump_b79 N g p0 p1 (2 : Int32)) else (f_X4_pump_b79 N g p0 p1 (0 : Int32)))

def ok_X4_pump_b58 (N : Nat) (g : MS) (p0 : Int32) (p1 : Int32) (j17 : Int32) : Prop :=
  ((if (f_X4_in p0 (1 : Int32) (500 : Int32)) = 0 then (0 : Int32) else (if (f_X4_in p1 (0 : Int32) (300 : Int32)) = 0 then (0 : Int32) else (1 : Int32))) = 0 → (ok_X4_pump_b79 N g p0 p1 (1 : Int32))) ∧ (¬ (if (f_X4_in p0 (1 : Int32) (500 : Int32)) = 0 then (0 : Int32) else (if (f_X4_in p1 (0 : Int32) (300 : Int32)) = 0 then (0 : Int32) else (1 : Int32))) = 0 → ((j17 = 0 → (ok_X4_pump_b79 N g p0 p1 (2 : Int32))) ∧ (¬ j17 = 0 → (ok_X4_pump_b79 N g p0 p1 (0 : Int32)))))

def f_X4_pump_b57 (N : Nat) (g : MS) (p0 : Int32) (p1 : Int32) : Int32 × MS :=
  f_X4_pump_b58 N g p0 p1 (0 : Int32)

def ok_X4_pump_b57 (N : Nat) (g : MS) (p0 : Int32) (p1 : Int32) : Prop :=
  ok_X4_pump_b58 N g p0 p1 (0 : Int32)

def f_X4_pump (N : Nat) (g : MS) (p0 : Int32) (p1 : Int32) : Int32 × MS :=
  if (M_isClosed g) = 0 then (f_X4_pump_b57 N g p0 p1) else (if (M_depth g) ≤ 0 then (f_X4_pump_b57 N g p0 p1) else (if (100000 : Int32) < ((M_minutes g) + p0) then (f_X4_pump_b57 N g p0 p1) else (f_X4_pump_b58 N g p0 p1 (1 : Int32))))

def ok_X4_pump (N : Nat) (g : MS) (p0 : Int32) (p1 : Int32) : Prop :=
  ((M_isClosed g) = 0 → (ok_X4_pump_b57 N g p0 p1)) ∧ (¬ (M_isClosed g) = 0 → (((M_depth g) ≤ 0 → (ok_X4_pump_b57 N g p0 p1)) ∧ (¬ (M_depth g) ≤ 0 → (((100000 : Int32) < ((M_minutes g) + p0) → (ok_X4_pump_b57 N g p0 p1)) ∧ (¬ (100000 : Int32) < ((M_minutes g) + p0) → (ok_X4_pump_b58 N g p0 p1 (1 : Int32)))))))

abbrev RM_X4_pump : Room := { frames := 4, cells := 0, slots := 0, locals := 91 }
set_option maxRecDepth 100000 in
set_option maxHeartbeats 4000000 in
theorem c_X4_pump (l : Launch) (D : va_G) (q : Nat → ClassId) (sz : Nat) (km : Nat → Nat) (g : MS) (p0 : Int32) (p1 : Int32) (N : Nat) (hok : ok_X4_pump N g p0 p1) : Met l yX4_pump (Cond.code yX4_pump cX4_pump 6 (some .int) :: ALL) RM_X4_pump (PC D q [.ref (km 0), .int p0, .int p1] (cModel km q g) sz) (va_Qi (fun (rv : Int32) (u : MS) => f_X4_pump N g p0 p1 = (rv, u)) (fun u t9 => va_P D vwCl (cModel km q u) t9.heap) (va_A (cModel km q g) sz)) 0 0 (va_A (cModel km q g) sz) := by
  refine en_iW (by decide +kernel) (Nat.le_of_ble_eq_true rfl) ?_
  intro p e s m args below meth c Q A H locs ls fx hD0 hA hP hS hl hret
  have hx := fx.1
  have hb := fx.2.1
  have hl : lv_has ls 6 [(0, .ref (km 0)), (1, .int p0), (2, .int p1)] := hl
  have hD : ∀ (g9 : MS), va_D _ (cModel km q g9) := fun _ => D_same ((fst_Model _ _ _).trans (fst_Model _ _ _).symm) hD0
  have ht : f_X4_pump N g p0 p1 = f_X4_pump N g p0 p1 := rfl
  simp only [ok_X4_pump] at hok
  refine lv_iload_n hx hb dX4_pump_0 rfl (lv_at hl 1 rfl) ?_
  refine lv_iconst (v := 1) hx hb dX4_pump_1 (by decide) ?_
  refine lv_sipush (v := 500) hx hb dX4_pump_2 (by decide) ?_
  refine kR_i (runS fx (As := [.int p0, .int (1 : Int32), .int (500 : Int32)]) (rest := []) (c_X4_in l D q H.size p0 (1 : Int32) (500 : Int32)) lk_X4_59 ⟨Nat.le_of_ble_eq_true rfl, Nat.le_of_ble_eq_true rfl⟩ ⟨rfl, rfl⟩ hP (hD _) [] rfl rfl rfl hl.1 rfl (Nat.le_of_ble_eq_true rfl) dX4_pump_5 ⟨Nat.zero_le _, Nat.zero_le _⟩) hP hS (fun r1 _ H locs hr2 hP hS => ?_)
  obtain ⟨rfl, hz3⟩ := hr2
  suffices K : ∀ (v9 : Int32), ∀ (H : Heap) (locs : List Loc) (ls : Array Slot), v9 = (if (f_X4_in p0 (1 : Int32) (500 : Int32)) = 0 then (0 : Int32) else (if (f_X4_in p1 (0 : Int32) (300 : Int32)) = 0 then (0 : Int32) else (1 : Int32))) → va_P D vwCl (cModel km q g) H → va_S A s.heap H locs → lv_has ls 6 [(0, .ref (km 0)), (1, .int p0), (2, .int p1)] → W p l e RM_X4_pump s m args below meth c H locs 0 0 Q (F0 m 27 ls [.int v9]) by
    refine lv_if_eq (tgt := 26) hx hb dX4_pump_8 (by decide) (fun c4 => ?_) (fun c4 => ?_)
    · refine lv_iconst (v := 0) hx hb dX4_pump_26 (by decide) ?_
      exact K (0 : Int32) H locs ls (by simp only [if_pos c4]) hP hS (lv_sub hl [0, 1, 2] rfl)
    · refine lv_iload_n hx hb dX4_pump_11 rfl (lv_at hl 2 rfl) ?_
      refine lv_iconst (v := 0) hx hb dX4_pump_12 (by decide) ?_
      refine lv_sipush (v := 300) hx hb dX4_pump_13 (by decide) ?_
      refine kR_i (runS fx (As := [.int p1, .int (0 : Int32), .int (300 : Int32)]) (rest := []) (c_X4_in l D q H.size p1 (0 : Int32) (300 : Int32)) lk_X4_59 ⟨Nat.le_of_ble_eq_true rfl, Nat.le_of_ble_eq_true rfl⟩ ⟨rfl, rfl⟩ hP (hD _) [] rfl rfl rfl hl.1 rfl (Nat.le_of_ble_eq_true rfl) dX4_pump_16 ⟨Nat.zero_le _, Nat.zero_le _⟩) hP hS (fun r5 _ H locs hr6 hP hS => ?_)
      obtain ⟨rfl, hz7⟩ := hr6
      refine lv_if_eq (tgt := 26) hx hb dX4_pump_19 (by decide) (fun c8 => ?_) (fun c8 => ?_)
      · refine lv_iconst (v := 0) hx hb dX4_pump_26 (by decide) ?_
        exact K (0 : Int32) H locs ls (by simp only [if_neg c4, if_pos c8]) hP hS (lv_sub hl [0, 1, 2] rfl)
      · refine lv_iconst (v := 1) hx hb dX4_pump_22 (by decide) ?_
        refine lv_goto (tgt := 27) hx hb dX4_pump_23 (by decide) ?_
        exact K (1 : Int32) H locs ls (by simp only [if_neg c4, if_neg c8]) hP hS (lv_sub hl [0, 1, 2] rfl)
  intro v9 H locs ls hvv9 hP hS hl
  subst hvv9
  refine lv_istore_n (lv' := [(3, .int (if (f_X4_in p0 (1 : Int32) (500 : Int32)) = 0 then (0 : Int32) else (if (f_X4_in p1 (0 : Int32) (300 : Int32)) = 0 then (0 : Int32) else (1 : Int32)))), (0, .ref (km 0)), (1, .int p0), (2, .int p1)]) hx hb dX4_pump_27 rfl hl (by decide) rfl (fun ls hl => ?_)
  refine lv_aload_n hx hb dX4_pump_28 rfl (lv_at hl 1 rfl) ?_
  refine gf_X4_70 fx hP 0 rfl (v := M_isClosed g) rfl dX4_pump_29 ?_
  have K58 : ∀ (j17 : Int32) (H : Heap) (locs : List Loc) (ls : Array Slot), ok_X4_pump_b58 N g p0 p1 j17 → f_X4_pump N g p0 p1 = f_X4_pump_b58 N g p0 p1 j17 → va_P D vwCl (cModel km q g) H → va_S A s.heap H locs → lv_has ls 6 [(0, .ref (km 0)), (1, .int p0), (2, .int p1), (3, .int (if (f_X4_in p0 (1 : Int32) (500 : Int32)) = 0 then (0 : Int32) else (if (f_X4_in p1 (0 : Int32) (300 : Int32)) = 0 then (0 : Int32) else (1 : Int32))))] → W p l e RM_X4_pump s m args below meth c H locs 0 0 Q (F0 m 58 ls [.int j17]) := by
    intro j17 H locs ls hok ht hP hS hl
    simp only [ok_X4_pump_b58] at hok
    refine lv_istore (lv' := [(4, .int j17), (0, .ref (km 0)), (1, .int p0), (2, .int p1), (3, .int (if (f_X4_in p0 (1 : Int32) (500 : Int32)) = 0 then (0 : Int32) else (if (f_X4_in p1 (0 : Int32) (300 : Int32)) = 0 then (0 : Int32) else (1 : Int32))))]) hx hb dX4_pump_58 hl (by decide) rfl (fun ls hl => ?_)
    refine lv_aload_n hx hb dX4_pump_60 rfl (lv_at hl 1 rfl) ?_
    refine lv_iload_n hx hb dX4_pump_61 rfl (lv_at hl 4 rfl) ?_
    have K79 : ∀ (j23 : Int32) (H : Heap) (locs : List Loc) (ls : Array Slot), ok_X4_pump_b79 N g p0 p1 j23 → f_X4_pump N g p0 p1 = f_X4_pump_b79 N g p0 p1 j23 → va_P D vwCl (cModel km q g) H → va_S A s.heap H locs → lv_has ls 6 [(0, .ref (km 0)), (1, .int p0), (2, .int p1)] → W p l e RM_X4_pump s m args below meth c H locs 0 0 Q (F0 m 79 ls [.int j23, .ref (km 0)]) := by
      intro j23 H locs ls hok ht hP hS hl
      simp only [ok_X4_pump_b79] at hok
      refine kM_i (runM fx (As := [.int j23]) (rest := []) (c_X4_goesWell l D q H.size km g j23) lk_X4_66 ⟨Nat.le_of_ble_eq_true rfl, Nat.le_of_ble_eq_true rfl⟩ ⟨rfl, rfl⟩ hP (hD _) rfl hl.1 rfl (Nat.le_of_ble_eq_true rfl) dX4_pump_79 ⟨Nat.zero_le _, Nat.zero_le _⟩) hP (hD _) hS hA (fun r26 u24 H locs hw25 hP hS => ?_)
      obtain ⟨hw25, hz27⟩ := hw25
      try simp only [hw25] at hok
      refine lv_if_ne (tgt := 87) hx hb dX4_pump_82 (by decide) (fun c28 => ?_) (fun c28 => ?_)
      · have hok := hok.2 c28
        refine lv_aload_n hx hb dX4_pump_87 rfl (lv_at hl 0 rfl) ?_
        refine lv_iload_n hx hb dX4_pump_88 rfl (lv_at hl 2 rfl) ?_
        refine lv_aload_n hx hb dX4_pump_89 rfl (lv_at hl 0 rfl) ?_
        refine gf_X4_27 fx hP 0 rfl (v := M_pumpedWeight u24) rfl dX4_pump_90 ?_
        suffices K : ∀ (v30 : Int32), ∀ (H : Heap) (locs : List Loc) (ls : Array Slot), v30 = (if p1 = (M_pumpedWeight u24) then M_pumped u24 else (0 : Int32)) → va_P D vwCl (cModel km q u24) H → va_S A s.heap H locs → lv_has ls 6 [(0, .ref (km 0)), (1, .int p0), (2, .int p1)] → W p l e RM_X4_pump s m args below meth c H locs 0 0 Q (F0 m 104 ls [.int v30, .ref (km 0)]) by
          refine lv_icmp_ne (tgt := 103) hx hb dX4_pump_93 (by decide) (fun c29 => ?_) (fun c29 => ?_)
          · refine lv_iconst (v := 0) hx hb dX4_pump_103 (by decide) ?_
            exact K (0 : Int32) H locs ls (by simp only [if_neg c29, hw25]) hP hS (lv_sub hl [0, 1, 2] rfl)
          · refine lv_aload_n hx hb dX4_pump_96 rfl (lv_at hl 0 rfl) ?_
            refine gf_X4_74 fx hP 0 rfl (v := M_pumped u24) rfl dX4_pump_97 ?_
            refine lv_goto (tgt := 104) hx hb dX4_pump_100 (by decide) ?_
            exact K (M_pumped u24) H locs ls (by simp only [if_pos c29, hw25]) hP hS (lv_sub hl [0, 1, 2] rfl)
        intro v30 H locs ls hvv30 hP hS hl
        subst hvv30
        refine pf_X4_74_M fx hP (hD _) hS dX4_pump_104 (fun H locs hP hS => ?_)
        refine lv_aload_n hx hb dX4_pump_107 rfl (lv_at hl 0 rfl) ?_
        refine lv_iload_n hx hb dX4_pump_108 rfl (lv_at hl 2 rfl) ?_
        refine pf_X4_27_M fx hP (hD _) hS dX4_pump_109 (fun H locs hP hS => ?_)
        refine lv_iconst (v := 1) hx hb dX4_pump_112 (by decide) ?_
        refine lv_istore (lv' := [(5, .int (1 : Int32)), (0, .ref (km 0)), (1, .int p0), (2, .int p1)]) hx hb dX4_pump_113 hl (by decide) rfl (fun ls hl => ?_)
        have LP115 : ∀ (n : Nat) (i41 : Int32) (g42 : MS) (H : Heap) (locs : List Loc) (ls : Array Slot), ok_X4_pump_L115 p0 p1 n i41 g42 → f_X4_pump N g p0 p1 = f_X4_pump_L115 p0 p1 n i41 g42 → va_P D vwCl (cModel km q g42) H → va_S A s.heap H locs → lv_has ls 6 [(0, .ref (km 0)), (1, .int p0), (2, .int p1), (5, .int i41)] → W p l e RM_X4_pump s m args below meth c H locs 0 0 Q (F0 m 115 ls []) := by
          intro n
          induction n with
          | zero =>
            intro i41 g42 H locs ls hok
            exact (hok : False).elim
          | succ n ih115 =>
            intro i41 g42 H locs ls hok ht hP hS hl
            simp only [ok_X4_pump_L115] at hok
            try simp only [hw25] at hok
            refine lv_iload hx hb dX4_pump_115 (lv_at hl 3 rfl) ?_
            refine lv_iload_n hx hb dX4_pump_117 rfl (lv_at hl 1 rfl) ?_
            refine lv_icmp_gt (tgt := 179) hx hb dX4_pump_118 (by decide) (fun c43 => ?_) (fun c43 => ?_)
            · have hok := hok.1 c43
              refine lv_iload_n hx hb dX4_pump_179 rfl (lv_at hl 1 rfl) ?_
              exact hret p0 g42 _ _ _ _ dX4_pump_180 (ht.trans (by first | (simp only [f_X4_pump_L115, if_pos c43, hw25]; done) | (simp only [f_X4_pump_L115, hw25]; simp only [if_pos c43]))) hP hS
            · have hok := hok.2 c43
              refine lv_aload_n hx hb dX4_pump_121 rfl (lv_at hl 0 rfl) ?_
              refine lv_iconst (v := 1) hx hb dX4_pump_122 (by decide) ?_
              obtain ⟨hk44, hok⟩ := hok
              refine kM_v (runM fx (As := [.int (1 : Int32)]) (rest := []) (c_X4_passOne l D q H.size km g42 (1 : Int32) hk44) lk_X4_156 ⟨Nat.le_of_ble_eq_true rfl, Nat.le_of_ble_eq_true rfl⟩ ⟨rfl, rfl⟩ hP (hD _) rfl hl.1 rfl (Nat.le_of_ble_eq_true rfl) dX4_pump_123 ⟨Nat.zero_le _, Nat.zero_le _⟩) hP (hD _) hS hA (fun u45 H locs hw46 hP hS => ?_)
              try simp only [hw46] at hok
              refine lv_aload_n hx hb dX4_pump_126 rfl (lv_at hl 0 rfl) ?_
              refine gf_X4_70 fx hP 0 rfl (v := M_isClosed u45) rfl dX4_pump_127 ?_
              refine lv_if_ne (tgt := 136) hx hb dX4_pump_130 (by decide) (fun c47 => ?_) (fun c47 => ?_)
              · have hok := hok.2 c47
                refine lv_aload_n hx hb dX4_pump_136 rfl (lv_at hl 0 rfl) ?_
                refine lv_dup hx hb dX4_pump_137 rfl ?_
                refine gf_X4_74 fx hP 0 rfl (v := M_pumped u45) rfl dX4_pump_138 ?_
                refine lv_bipush (v := 20) hx hb dX4_pump_141 (by decide) ?_
                refine lv_iadd hx hb dX4_pump_143 ?_
                refine pf_X4_74_M fx hP (hD _) hS dX4_pump_144 (fun H locs hP hS => ?_)
                refine lv_aload_n hx hb dX4_pump_147 rfl (lv_at hl 0 rfl) ?_
                refine gf_X4_74 fx hP 0 rfl (v := (M_pumped u45) + (20 : Int32)) (M_pumped_set_pumped _ _) dX4_pump_148 ?_
                refine lv_aload_n hx hb dX4_pump_151 rfl (lv_at hl 0 rfl) ?_
                refine gf_X4_63 fx hP 0 rfl (v := M_depth u45) (M_depth_set_pumped _ _) dX4_pump_152 ?_
                refine lv_icmp_lt (tgt := 173) hx hb dX4_pump_155 (by decide) (fun c48 => ?_) (fun c48 => ?_)
                · have hok := hok.1 c48
                  refine lv_iinc (v := i41 + (1 : Int32)) (lv' := [(5, .int (i41 + (1 : Int32))), (0, .ref (km 0)), (1, .int p0), (2, .int p1)]) hx hb dX4_pump_173 hl (k := 3) rfl rfl (by decide) rfl (fun ls hl => ?_)
                  refine lv_goto (tgt := 115) hx hb dX4_pump_176 (by decide) ?_
                  exact ih115 (i41 + (1 : Int32)) (M_set_pumped u45 ((M_pumped u45) + (20 : Int32))) H locs ls hok (ht.trans (by first | (simp only [f_X4_pump_L115, if_neg c43, if_neg c47, if_pos c48, hw25, hw46]; done) | (simp only [f_X4_pump_L115, hw25, hw46]; simp only [if_neg c43, if_neg c47, if_pos c48]))) hP hS (lv_sub hl [1, 2, 3, 0] rfl)
                · have hok := hok.2 c48
                  refine lv_aload_n hx hb dX4_pump_158 rfl (lv_at hl 0 rfl) ?_
                  refine lv_iload_n hx hb dX4_pump_159 rfl (lv_at hl 2 rfl) ?_
                  refine pf_X4_23_M fx hP (hD _) hS dX4_pump_160 (fun H locs hP hS => ?_)
                  refine lv_aload_n hx hb dX4_pump_163 rfl (lv_at hl 0 rfl) ?_
                  refine lv_iconst (v := 0) hx hb dX4_pump_164 (by decide) ?_
                  refine pf_X4_80_M fx hP (hD _) hS dX4_pump_165 (fun H locs hP hS => ?_)
                  refine lv_aload_n hx hb dX4_pump_168 rfl (lv_at hl 0 rfl) ?_
                  refine lv_iconst (v := 0) hx hb dX4_pump_169 (by decide) ?_
                  refine pf_X4_74_M fx hP (hD _) hS dX4_pump_170 (fun H locs hP hS => ?_)
                  refine lv_iinc (v := i41 + (1 : Int32)) (lv' := [(5, .int (i41 + (1 : Int32))), (0, .ref (km 0)), (1, .int p0), (2, .int p1)]) hx hb dX4_pump_173 hl (k := 3) rfl rfl (by decide) rfl (fun ls hl => ?_)
                  refine lv_goto (tgt := 115) hx hb dX4_pump_176 (by decide) ?_
                  exact ih115 (i41 + (1 : Int32)) (M_set_pumped (M_set_liquid (M_set_weight (M_set_pumped u45 ((M_pumped u45) + (20 : Int32))) p1) (0 : Int32)) (0 : Int32)) H locs ls hok (ht.trans (by first | (simp only [f_X4_pump_L115, if_neg c43, if_neg c47, if_neg c48, hw25, hw46]; done) | (simp only [f_X4_pump_L115, hw25, hw46]; simp only [if_neg c43, if_neg c47, if_neg c48]))) hP hS (lv_sub hl [1, 2, 3, 0] rfl)
              · have hok := hok.1 c47
                refine lv_iload hx hb dX4_pump_133 (lv_at hl 3 rfl) ?_
                exact hret i41 u45 _ _ _ _ dX4_pump_135 (ht.trans (by first | (simp only [f_X4_pump_L115, if_neg c43, if_pos c47, hw25, hw46]; done) | (simp only [f_X4_pump_L115, hw25, hw46]; simp only [if_neg c43, if_pos c47]))) hP hS
        exact LP115 N (1 : Int32) (M_set_pumpedWeight (M_set_pumped u24 (if p1 = (M_pumpedWeight u24) then M_pumped u24 else (0 : Int32))) p1) H locs ls hok (ht.trans (by first | (simp only [f_X4_pump_b79, if_neg c28, hw25]; done) | (simp only [f_X4_pump_b79, hw25]; simp only [if_neg c28]))) hP hS (lv_sub hl [1, 2, 3, 0] rfl)
      · have hok := hok.1 c28
        refine lv_iconst (v := 0) hx hb dX4_pump_85 (by decide) ?_
        exact hret (0 : Int32) u24 _ _ _ _ dX4_pump_86 (ht.trans (by first | (simp only [f_X4_pump_b79, if_pos c28, hw25]; done) | (simp only [f_X4_pump_b79, hw25]; simp only [if_pos c28]))) hP hS
    refine lv_if_ne (tgt := 69) hx hb dX4_pump_62 (by decide) (fun c21 => ?_) (fun c21 => ?_)
    · have hok := hok.2 c21
      refine lv_iload hx hb dX4_pump_69 (lv_at hl 0 rfl) ?_
      refine lv_if_eq (tgt := 78) hx hb dX4_pump_71 (by decide) (fun c22 => ?_) (fun c22 => ?_)
      · have hok := hok.1 c22
        refine lv_iconst (v := 2) hx hb dX4_pump_78 (by decide) ?_
        exact K79 (2 : Int32) H locs ls hok (ht.trans (by simp only [f_X4_pump_b58, if_neg c21, if_pos c22])) hP hS (lv_sub hl [1, 2, 3] rfl)
      · have hok := hok.2 c22
        refine lv_iconst (v := 0) hx hb dX4_pump_74 (by decide) ?_
        refine lv_goto (tgt := 79) hx hb dX4_pump_75 (by decide) ?_
        exact K79 (0 : Int32) H locs ls hok (ht.trans (by simp only [f_X4_pump_b58, if_neg c21, if_neg c22])) hP hS (lv_sub hl [1, 2, 3] rfl)
    · have hok := hok.1 c21
      refine lv_iconst (v := 1) hx hb dX4_pump_65 (by decide) ?_
      refine lv_goto (tgt := 79) hx hb dX4_pump_66 (by decide) ?_
      exact K79 (1 : Int32) H locs ls hok (ht.trans (by simp only [f_X4_pump_b58, if_pos c21])) hP hS (lv_sub hl [1, 2, 3] rfl)
  have K57 : ∀ (H : Heap) (locs : List Loc) (ls : Array Slot), ok_X4_pump_b57 N g p0 p1 → f_X4_pump N g p0 p1 = f_X4_pump_b57 N g p0 p1 → va_P D vwCl (cModel km q g) H → va_S A s.heap H locs → lv_has ls 6 [(0, .ref (km 0)), (1, .int p0), (2, .int p1), (3, .int (if (f_X4_in p0 (1 : Int32) (500 : Int32)) = 0 then (0 : Int32) else (if (f_X4_in p1 (0 : Int32) (300 : Int32)) = 0 then (0 : Int32) else (1 : Int32))))] → W p l e RM_X4_pump s m args below meth c H locs 0 0 Q (F0 m 57 ls []) := by
    intro H locs ls hok ht hP hS hl
    simp only [ok_X4_pump_b57] at hok
    refine lv_iconst (v := 0) hx hb dX4_pump_57 (by decide) ?_
    exact K58 (0 : Int32) H locs ls hok (ht.trans (by simp only [f_X4_pump_b57])) hP hS (lv_sub hl [0, 1, 2, 3] rfl)
  refine lv_if_eq (tgt := 57) hx hb dX4_pump_32 (by decide) (fun c14 => ?_) (fun c14 => ?_)
  · have hok := hok.1 c14
    exact K57 H locs ls hok (ht.trans (by simp only [f_X4_pump, if_pos c14])) hP hS (lv_sub hl [1, 2, 3, 0] rfl)
  · have hok := hok.2 c14
    refine lv_aload_n hx hb dX4_pump_35 rfl (lv_at hl 1 rfl) ?_
    refine gf_X4_63 fx hP 0 rfl (v := M_depth g) rfl dX4_pump_36 ?_
    refine lv_if_le (tgt := 57) hx hb dX4_pump_39 (by decide) (fun c15 => ?_) (fun c15 => ?_)
    · have hok := hok.1 c15
      exact K57 H locs ls hok (ht.trans (by simp only [f_X4_pump, if_neg c14, if_pos c15])) hP hS (lv_sub hl [1, 2, 3, 0] rfl)
    · have hok := hok.2 c15
      refine lv_aload_n hx hb dX4_pump_42 rfl (lv_at hl 1 rfl) ?_
      refine gf_X4_128 fx hP 0 rfl (v := M_minutes g) rfl dX4_pump_43 ?_
      refine lv_iload_n hx hb dX4_pump_46 rfl (lv_at hl 2 rfl) ?_
      refine lv_iadd hx hb dX4_pump_47 ?_
      refine lv_ldc hx hb fx.2.2.2.1 (fx.2.2.2.2.1 _ mm_359) dX4_pump_48 ?_
      refine lv_icmp_gt (tgt := 57) hx hb dX4_pump_50 (by decide) (fun c16 => ?_) (fun c16 => ?_)
      · have hok := hok.1 c16
        exact K57 H locs ls hok (ht.trans (by simp only [f_X4_pump, if_neg c14, if_neg c15, if_pos c16])) hP hS (lv_sub hl [1, 2, 3, 0] rfl)
      · have hok := hok.2 c16
        refine lv_iconst (v := 1) hx hb dX4_pump_53 (by decide) ?_
        refine lv_goto (tgt := 58) hx hb dX4_pump_54 (by decide) ?_
        exact K58 (1 : Int32) H locs ls hok (ht.trans (by simp only [f_X4_pump, if_neg c14, if_neg c15, if_neg c16])) hP hS (lv_sub hl [1, 2, 3, 0] rfl)

