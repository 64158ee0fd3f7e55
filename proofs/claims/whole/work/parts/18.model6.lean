/-! X4_killWeight -/
def f_X4_killWeight_L23 (g : MS) : Nat → Int32 → Int32
  | 0, i14 => i14
  | n + 1, i14 => if (f_X4_poreAt ((f_X4_goesWell g (if (M_depth g) ≤ 0 then (1 : Int32) else (0 : Int32))).2) (M_depth ((f_X4_goesWell g (if (M_depth g) ≤ 0 then (1 : Int32) else (0 : Int32))).2))) ≤ ((i14 * (M_depth ((f_X4_goesWell g (if (M_depth g) ≤ 0 then (1 : Int32) else (0 : Int32))).2))) / (10 : Int32)) then i14 else (f_X4_killWeight_L23 g n (i14 + (1 : Int32)))

def ok_X4_killWeight_L23 (g : MS) : Nat → Int32 → Prop
  | 0, _ => False
  | n + 1, i14 => (ok_X4_poreAt (M_depth ((f_X4_goesWell g (if (M_depth g) ≤ 0 then (1 : Int32) else (0 : Int32))).2))) ∧ (((f_X4_poreAt ((f_X4_goesWell g (if (M_depth g) ≤ 0 then (1 : Int32) else (0 : Int32))).2) (M_depth ((f_X4_goesWell g (if (M_depth g) ≤ 0 then (1 : Int32) else (0 : Int32))).2))) ≤ ((i14 * (M_depth ((f_X4_goesWell g (if (M_depth g) ≤ 0 then (1 : Int32) else (0 : Int32))).2))) / (10 : Int32)) → True) ∧ (¬ (f_X4_poreAt ((f_X4_goesWell g (if (M_depth g) ≤ 0 then (1 : Int32) else (0 : Int32))).2) (M_depth ((f_X4_goesWell g (if (M_depth g) ≤ 0 then (1 : Int32) else (0 : Int32))).2))) ≤ ((i14 * (M_depth ((f_X4_goesWell g (if (M_depth g) ≤ 0 then (1 : Int32) else (0 : Int32))).2))) / (10 : Int32)) → (ok_X4_killWeight_L23 g n (i14 + (1 : Int32)))))

def f_X4_killWeight (N : Nat) (g : MS) : Int32 × MS :=
  if (f_X4_goesWell g (if (M_depth g) ≤ 0 then (1 : Int32) else (0 : Int32))).1 = 0 then ((0 : Int32), ((f_X4_goesWell g (if (M_depth g) ≤ 0 then (1 : Int32) else (0 : Int32))).2)) else (f_X4_killWeight_L23 g N (0 : Int32), ((f_X4_goesWell g (if (M_depth g) ≤ 0 then (1 : Int32) else (0 : Int32))).2))

def ok_X4_killWeight (N : Nat) (g : MS) : Prop :=
  ((f_X4_goesWell g (if (M_depth g) ≤ 0 then (1 : Int32) else (0 : Int32))).1 = 0 → True) ∧ (¬ (f_X4_goesWell g (if (M_depth g) ≤ 0 then (1 : Int32) else (0 : Int32))).1 = 0 → ((ok_X4_killWeight_L23 g N (0 : Int32)) ∧ True))

abbrev RM_X4_killWeight : Room := { frames := 2, cells := 0, slots := 0, locals := 41 }
set_option maxRecDepth 100000 in
set_option maxHeartbeats 4000000 in
theorem c_X4_killWeight (l : Launch) (D : va_G) (q : Nat → ClassId) (sz : Nat) (km : Nat → Nat) (g : MS) (N : Nat) (hok : ok_X4_killWeight N g) : Met l yX4_killWeight (Cond.code yX4_killWeight cX4_killWeight 2 (some .int) :: ALL) RM_X4_killWeight (PC D q [.ref (km 0)] (cModel km q g) sz) (va_Qi (fun (rv : Int32) (u : MS) => f_X4_killWeight N g = (rv, u)) (fun u t9 => va_P D vwCl (cModel km q u) t9.heap) (va_A (cModel km q g) sz)) 0 0 (va_A (cModel km q g) sz) := by
  refine en_iW (by decide +kernel) (Nat.le_of_ble_eq_true rfl) ?_
  intro p e s m args below meth c Q A H locs ls fx hD0 hA hP hS hl hret
  have hx := fx.1
  have hb := fx.2.1
  have hl : lv_has ls 2 [(0, .ref (km 0))] := hl
  have hD : ∀ (g9 : MS), va_D _ (cModel km q g9) := fun _ => D_same ((fst_Model _ _ _).trans (fst_Model _ _ _).symm) hD0
  have ht : f_X4_killWeight N g = f_X4_killWeight N g := rfl
  simp only [ok_X4_killWeight] at hok
  refine lv_aload_n hx hb dX4_killWeight_0 rfl (lv_at hl 0 rfl) ?_
  refine lv_aload_n hx hb dX4_killWeight_1 rfl (lv_at hl 0 rfl) ?_
  refine gf_X4_63 fx hP 0 rfl (v := M_depth g) rfl dX4_killWeight_2 ?_
  suffices K : ∀ (v2 : Int32), ∀ (H : Heap) (locs : List Loc) (ls : Array Slot), v2 = (if (M_depth g) ≤ 0 then (1 : Int32) else (0 : Int32)) → va_P D vwCl (cModel km q g) H → va_S A s.heap H locs → lv_has ls 2 [(0, .ref (km 0))] → W p l e RM_X4_killWeight s m args below meth c H locs 0 0 Q (F0 m 13 ls [.int v2, .ref (km 0)]) by
    refine lv_if_le (tgt := 12) hx hb dX4_killWeight_5 (by decide) (fun c1 => ?_) (fun c1 => ?_)
    · refine lv_iconst (v := 1) hx hb dX4_killWeight_12 (by decide) ?_
      exact K (1 : Int32) H locs ls (by simp only [if_pos c1]) hP hS (lv_sub hl [0] rfl)
    · refine lv_iconst (v := 0) hx hb dX4_killWeight_8 (by decide) ?_
      refine lv_goto (tgt := 13) hx hb dX4_killWeight_9 (by decide) ?_
      exact K (0 : Int32) H locs ls (by simp only [if_neg c1]) hP hS (lv_sub hl [0] rfl)
  intro v2 H locs ls hvv2 hP hS hl
  subst hvv2
  refine kM_i (runM fx (As := [.int (if (M_depth g) ≤ 0 then (1 : Int32) else (0 : Int32))]) (rest := []) (c_X4_goesWell l D q H.size km g (if (M_depth g) ≤ 0 then (1 : Int32) else (0 : Int32))) lk_X4_66 ⟨Nat.le_of_ble_eq_true rfl, Nat.le_of_ble_eq_true rfl⟩ ⟨rfl, rfl⟩ hP (hD _) rfl hl.1 rfl (Nat.le_of_ble_eq_true rfl) dX4_killWeight_13 ⟨Nat.zero_le _, Nat.zero_le _⟩) hP (hD _) hS hA (fun r5 u3 H locs hw4 hP hS => ?_)
  obtain ⟨hw4, hz6⟩ := hw4
  try simp only [hw4] at hok
  refine lv_if_ne (tgt := 21) hx hb dX4_killWeight_16 (by decide) (fun c7 => ?_) (fun c7 => ?_)
  · have hok := hok.2 c7
    refine lv_iconst (v := 0) hx hb dX4_killWeight_21 (by decide) ?_
    refine lv_istore_n (lv' := [(1, .int (0 : Int32)), (0, .ref (km 0))]) hx hb dX4_killWeight_22 rfl hl (by decide) rfl (fun ls hl => ?_)
    obtain ⟨hokL, hok⟩ := hok
    obtain ⟨z23, hz23⟩ : ∃ z, f_X4_killWeight_L23 g N (0 : Int32) = z := ⟨_, rfl⟩
    suffices KJ23 : ∀ (H : Heap) (locs : List Loc) (ls : Array Slot), va_P D vwCl (cModel km q u3) H → va_S A s.heap H locs → lv_has ls 2 [(0, .ref (km 0)), (1, .int z23)] → W p l e RM_X4_killWeight s m args below meth c H locs 0 0 Q (F0 m 49 ls []) by
      have LP23 : ∀ (n : Nat) (i14 : Int32) (H : Heap) (locs : List Loc) (ls : Array Slot), ok_X4_killWeight_L23 g n i14 → f_X4_killWeight_L23 g n i14 = z23 → va_P D vwCl (cModel km q u3) H → va_S A s.heap H locs → lv_has ls 2 [(0, .ref (km 0)), (1, .int i14)] → W p l e RM_X4_killWeight s m args below meth c H locs 0 0 Q (F0 m 23 ls []) := by
        intro n
        induction n with
        | zero =>
          intro i14 H locs ls hok
          exact (hok : False).elim
        | succ n ih23 =>
          intro i14 H locs ls hok ht hP hS hl
          simp only [ok_X4_killWeight_L23] at hok
          try simp only [hw4] at hok
          refine lv_iload_n hx hb dX4_killWeight_23 rfl (lv_at hl 1 rfl) ?_
          refine lv_aload_n hx hb dX4_killWeight_24 rfl (lv_at hl 0 rfl) ?_
          refine gf_X4_63 fx hP 0 rfl (v := M_depth u3) rfl dX4_killWeight_25 ?_
          refine lv_imul hx hb dX4_killWeight_28 ?_
          refine lv_bipush (v := 10) hx hb dX4_killWeight_29 (by decide) ?_
          refine lv_idiv hx hb dX4_killWeight_31 (by decide) ?_
          refine lv_aload_n hx hb dX4_killWeight_32 rfl (lv_at hl 0 rfl) ?_
          refine lv_aload_n hx hb dX4_killWeight_33 rfl (lv_at hl 0 rfl) ?_
          refine gf_X4_63 fx hP 0 rfl (v := M_depth u3) rfl dX4_killWeight_34 ?_
          obtain ⟨hk15, hok⟩ := hok
          refine kR_i (runM fx (As := [.int (M_depth u3)]) (rest := [.int ((i14 * (M_depth u3)) / (10 : Int32))]) (c_X4_poreAt l D q H.size km u3 (M_depth u3) hk15) lk_X4_109 ⟨Nat.le_of_ble_eq_true rfl, Nat.le_of_ble_eq_true rfl⟩ ⟨rfl, rfl⟩ hP (hD _) rfl hl.1 rfl (Nat.le_of_ble_eq_true rfl) dX4_killWeight_37 ⟨Nat.zero_le _, Nat.zero_le _⟩) hP hS (fun r16 _ H locs hr17 hP hS => ?_)
          subst hr17
          refine lv_icmp_ge (tgt := 49) hx hb dX4_killWeight_40 (by decide) (fun c18 => ?_) (fun c18 => ?_)
          · have hok := hok.1 c18
            have hv9 := ht.symm.trans (show _ = i14 by simp only [f_X4_killWeight_L23, if_pos c18, hw4])
            subst hv9
            exact KJ23 H locs ls hP hS (lv_sub hl [0, 1] rfl)
          · have hok := hok.2 c18
            refine lv_iinc (v := i14 + (1 : Int32)) (lv' := [(1, .int (i14 + (1 : Int32))), (0, .ref (km 0))]) hx hb dX4_killWeight_43 hl (k := 1) rfl rfl (by decide) rfl (fun ls hl => ?_)
            refine lv_goto (tgt := 23) hx hb dX4_killWeight_46 (by decide) ?_
            exact ih23 (i14 + (1 : Int32)) H locs ls hok ((show f_X4_killWeight_L23 g (n + 1) i14 = _ by simp only [f_X4_killWeight_L23, if_neg c18, hw4]).symm.trans ht) hP hS (lv_sub hl [1, 0] rfl)
      exact LP23 N (0 : Int32) H locs ls hokL hz23 hP hS (lv_sub hl [1, 0] rfl)
    intro H locs ls hP hS hl
    subst hz23
    refine lv_iload_n hx hb dX4_killWeight_49 rfl (lv_at hl 1 rfl) ?_
    exact hret (f_X4_killWeight_L23 g N (0 : Int32)) u3 _ _ _ _ dX4_killWeight_50 (ht.trans (by first | (simp only [f_X4_killWeight, if_neg c7, hw4]; done) | (simp only [f_X4_killWeight, hw4]; simp only [if_neg c7]))) hP hS
  · have hok := hok.1 c7
    refine lv_iconst (v := 0) hx hb dX4_killWeight_19 (by decide) ?_
    exact hret (0 : Int32) u3 _ _ _ _ dX4_killWeight_20 (ht.trans (by first | (simp only [f_X4_killWeight, if_pos c7, hw4]; done) | (simp only [f_X4_killWeight, hw4]; simp only [if_pos c7]))) hP hS

/-! X4_bound -/
def f_X4_bound_L24 (g : MS) (p1 : Int32) (p2 : Int32) : Nat → Int32 → Int32 → Int32
  | 0, _, i17 => i17
  | n + 1, i16, i17 => if p1 < i16 then i17 else (if p2 = 0 then (if ((M_pore g) i16.toNatClampNeg) ≤ i17 then (f_X4_bound_L24 g p1 p2 n (i16 + (1 : Int32)) i17) else (f_X4_bound_L24 g p1 p2 n (i16 + (1 : Int32)) ((M_pore g) i16.toNatClampNeg))) else (if i17 ≤ ((M_breaks g) i16.toNatClampNeg) then (f_X4_bound_L24 g p1 p2 n (i16 + (1 : Int32)) i17) else (f_X4_bound_L24 g p1 p2 n (i16 + (1 : Int32)) ((M_breaks g) i16.toNatClampNeg))))

def ok_X4_bound_L24 (g : MS) (p1 : Int32) (p2 : Int32) : Nat → Int32 → Int32 → Prop
  | 0, _, _ => False
  | n + 1, i16, i17 => (p1 < i16 → True) ∧ (¬ p1 < i16 → ((p2 = 0 → ((vp_in i16 50) ∧ ((((M_pore g) i16.toNatClampNeg) ≤ i17 → (ok_X4_bound_L24 g p1 p2 n (i16 + (1 : Int32)) i17)) ∧ (¬ ((M_pore g) i16.toNatClampNeg) ≤ i17 → ((vp_in i16 50) ∧ (ok_X4_bound_L24 g p1 p2 n (i16 + (1 : Int32)) ((M_pore g) i16.toNatClampNeg))))))) ∧ (¬ p2 = 0 → ((vp_in i16 50) ∧ ((i17 ≤ ((M_breaks g) i16.toNatClampNeg) → (ok_X4_bound_L24 g p1 p2 n (i16 + (1 : Int32)) i17)) ∧ (¬ i17 ≤ ((M_breaks g) i16.toNatClampNeg) → ((vp_in i16 50) ∧ (ok_X4_bound_L24 g p1 p2 n (i16 + (1 : Int32)) ((M_breaks g) i16.toNatClampNeg)))))))))

def f_X4_bound (N : Nat) (g : MS) (p0 : Int32) (p1 : Int32) (p2 : Int32) : Int32 :=
  if p2 = 0 then (f_X4_bound_L24 g p1 p2 N p0 ((M_pore g) p0.toNatClampNeg)) else (f_X4_bound_L24 g p1 p2 N p0 ((M_breaks g) p0.toNatClampNeg))

def ok_X4_bound (N : Nat) (g : MS) (p0 : Int32) (p1 : Int32) (p2 : Int32) : Prop :=
  (p2 = 0 → ((vp_in p0 50) ∧ ((ok_X4_bound_L24 g p1 p2 N p0 ((M_pore g) p0.toNatClampNeg)) ∧ True))) ∧ (¬ p2 = 0 → ((vp_in p0 50) ∧ ((ok_X4_bound_L24 g p1 p2 N p0 ((M_breaks g) p0.toNatClampNeg)) ∧ True)))

abbrev RM_X4_bound : Room := { frames := 0, cells := 0, slots := 0, locals := 0 }
set_option maxRecDepth 100000 in
set_option maxHeartbeats 4000000 in
theorem c_X4_bound (l : Launch) (D : va_G) (q : Nat → ClassId) (sz : Nat) (km : Nat → Nat) (g : MS) (p0 : Int32) (p1 : Int32) (p2 : Int32) (N : Nat) (hok : ok_X4_bound N g p0 p1 p2) : Met l yX4_bound (Cond.code yX4_bound cX4_bound 6 (some .int) :: ALL) RM_X4_bound (PC D q [.ref (km 0), .int p0, .int p1, .int p2] (cModel km q g) sz) (va_Qi (fun (rv : Int32) (_ : Unit) => f_X4_bound N g p0 p1 p2 = rv) (fun _ _ => True) (fun _ => False)) 0 0 (fun _ => False) := by
  refine en_iR (by decide +kernel) (Nat.le_of_ble_eq_true rfl) ?_
  intro p e s m args below meth c Q A H locs ls fx hD0 hP hS hl hret
  have hx := fx.1
  have hb := fx.2.1
  have hl : lv_has ls 6 [(0, .ref (km 0)), (1, .int p0), (2, .int p1), (3, .int p2)] := hl
  have hD : ∀ (g9 : MS), va_D _ (cModel km q g9) := fun _ => D_same ((fst_Model _ _ _).trans (fst_Model _ _ _).symm) hD0
  have ht : f_X4_bound N g p0 p1 p2 = f_X4_bound N g p0 p1 p2 := rfl
  simp only [ok_X4_bound] at hok
  refine lv_iload_n hx hb dX4_bound_0 rfl (lv_at hl 3 rfl) ?_
  refine lv_if_eq (tgt := 13) hx hb dX4_bound_1 (by decide) (fun c1 => ?_) (fun c1 => ?_)
  · have hok := hok.1 c1
    refine lv_aload_n hx hb dX4_bound_13 rfl (lv_at hl 0 rfl) ?_
    refine gf_X4_7 fx hP 0 rfl dX4_bound_14 ?_
    refine lv_iload_n hx hb dX4_bound_17 rfl (lv_at hl 1 rfl) ?_
    obtain ⟨hi2, hok⟩ := hok
    refine al_pore fx hP (f := M_pore g) rfl hi2 dX4_bound_18 ?_
    refine lv_istore (lv' := [(4, .int ((M_pore g) p0.toNatClampNeg)), (0, .ref (km 0)), (1, .int p0), (2, .int p1), (3, .int p2)]) hx hb dX4_bound_19 hl (by decide) rfl (fun ls hl => ?_)
    refine lv_iload_n hx hb dX4_bound_21 rfl (lv_at hl 2 rfl) ?_
    refine lv_istore (lv' := [(5, .int p0), (4, .int ((M_pore g) p0.toNatClampNeg)), (0, .ref (km 0)), (1, .int p0), (2, .int p1), (3, .int p2)]) hx hb dX4_bound_22 hl (by decide) rfl (fun ls hl => ?_)
    obtain ⟨hokL, hok⟩ := hok
    obtain ⟨z24, hz24⟩ : ∃ z, f_X4_bound_L24 g p1 p2 N p0 ((M_pore g) p0.toNatClampNeg) = z := ⟨_, rfl⟩
    suffices KJ24 : ∀ (H : Heap) (locs : List Loc) (ls : Array Slot), va_P D vwCl (cModel km q g) H → va_S A s.heap H locs → lv_has ls 6 [(0, .ref (km 0)), (4, .int z24)] → W p l e RM_X4_bound s m args below meth c H locs 0 0 Q (F0 m 93 ls []) by
      have LP24 : ∀ (n : Nat) (i16 : Int32) (i17 : Int32) (H : Heap) (locs : List Loc) (ls : Array Slot), ok_X4_bound_L24 g p1 p2 n i16 i17 → f_X4_bound_L24 g p1 p2 n i16 i17 = z24 → va_P D vwCl (cModel km q g) H → va_S A s.heap H locs → lv_has ls 6 [(0, .ref (km 0)), (2, .int p1), (3, .int p2), (4, .int i17), (5, .int i16)] → W p l e RM_X4_bound s m args below meth c H locs 0 0 Q (F0 m 24 ls []) := by
        intro n
        induction n with
        | zero =>
          intro i16 i17 H locs ls hok
          exact (hok : False).elim
        | succ n ih24 =>
          intro i16 i17 H locs ls hok ht hP hS hl
          simp only [ok_X4_bound_L24] at hok
          refine lv_iload hx hb dX4_bound_24 (lv_at hl 4 rfl) ?_
          refine lv_iload_n hx hb dX4_bound_26 rfl (lv_at hl 1 rfl) ?_
          refine lv_icmp_gt (tgt := 93) hx hb dX4_bound_27 (by decide) (fun c18 => ?_) (fun c18 => ?_)
          · have hok := hok.1 c18
            have hv9 := ht.symm.trans (show _ = i17 by simp only [f_X4_bound_L24, if_pos c18])
            subst hv9
            exact KJ24 H locs ls hP hS (lv_sub hl [0, 3] rfl)
          · have hok := hok.2 c18
            refine lv_iload_n hx hb dX4_bound_30 rfl (lv_at hl 2 rfl) ?_
            refine lv_if_eq (tgt := 61) hx hb dX4_bound_31 (by decide) (fun c19 => ?_) (fun c19 => ?_)
            · have hok := hok.1 c19
              refine lv_aload_n hx hb dX4_bound_61 rfl (lv_at hl 0 rfl) ?_
              refine gf_X4_7 fx hP 0 rfl dX4_bound_62 ?_
              refine lv_iload hx hb dX4_bound_65 (lv_at hl 4 rfl) ?_
              obtain ⟨hi20, hok⟩ := hok
              refine al_pore fx hP (f := M_pore g) rfl hi20 dX4_bound_67 ?_
              refine lv_iload hx hb dX4_bound_68 (lv_at hl 3 rfl) ?_
              refine lv_icmp_le (tgt := 83) hx hb dX4_bound_70 (by decide) (fun c21 => ?_) (fun c21 => ?_)
              · have hok := hok.1 c21
                refine lv_iload hx hb dX4_bound_83 (lv_at hl 3 rfl) ?_
                refine lv_istore (lv' := [(4, .int i17), (0, .ref (km 0)), (2, .int p1), (3, .int p2), (5, .int i16)]) hx hb dX4_bound_85 hl (by decide) rfl (fun ls hl => ?_)
                refine lv_iinc (v := i16 + (1 : Int32)) (lv' := [(5, .int (i16 + (1 : Int32))), (4, .int i17), (0, .ref (km 0)), (2, .int p1), (3, .int p2)]) hx hb dX4_bound_87 hl (k := 4) rfl rfl (by decide) rfl (fun ls hl => ?_)
                refine lv_goto (tgt := 24) hx hb dX4_bound_90 (by decide) ?_
                exact ih24 (i16 + (1 : Int32)) i17 H locs ls hok ((show f_X4_bound_L24 g p1 p2 (n + 1) i16 i17 = _ by simp only [f_X4_bound_L24, if_neg c18, if_pos c19, if_pos c21]).symm.trans ht) hP hS (lv_sub hl [2, 3, 4, 1, 0] rfl)
              · have hok := hok.2 c21
                refine lv_aload_n hx hb dX4_bound_73 rfl (lv_at hl 0 rfl) ?_
                refine gf_X4_7 fx hP 0 rfl dX4_bound_74 ?_
                refine lv_iload hx hb dX4_bound_77 (lv_at hl 4 rfl) ?_
                obtain ⟨hi22, hok⟩ := hok
                refine al_pore fx hP (f := M_pore g) rfl hi22 dX4_bound_79 ?_
                refine lv_goto (tgt := 85) hx hb dX4_bound_80 (by decide) ?_
                refine lv_istore (lv' := [(4, .int ((M_pore g) i16.toNatClampNeg)), (0, .ref (km 0)), (2, .int p1), (3, .int p2), (5, .int i16)]) hx hb dX4_bound_85 hl (by decide) rfl (fun ls hl => ?_)
                refine lv_iinc (v := i16 + (1 : Int32)) (lv' := [(5, .int (i16 + (1 : Int32))), (4, .int ((M_pore g) i16.toNatClampNeg)), (0, .ref (km 0)), (2, .int p1), (3, .int p2)]) hx hb dX4_bound_87 hl (k := 4) rfl rfl (by decide) rfl (fun ls hl => ?_)
                refine lv_goto (tgt := 24) hx hb dX4_bound_90 (by decide) ?_
                exact ih24 (i16 + (1 : Int32)) ((M_pore g) i16.toNatClampNeg) H locs ls hok ((show f_X4_bound_L24 g p1 p2 (n + 1) i16 i17 = _ by simp only [f_X4_bound_L24, if_neg c18, if_pos c19, if_neg c21]).symm.trans ht) hP hS (lv_sub hl [2, 3, 4, 1, 0] rfl)
            · have hok := hok.2 c19
              refine lv_aload_n hx hb dX4_bound_34 rfl (lv_at hl 0 rfl) ?_
              refine gf_X4_13 fx hP 0 rfl dX4_bound_35 ?_
              refine lv_iload hx hb dX4_bound_38 (lv_at hl 4 rfl) ?_
              obtain ⟨hi23, hok⟩ := hok
              refine al_breaks fx hP (f := M_breaks g) rfl hi23 dX4_bound_40 ?_
              refine lv_iload hx hb dX4_bound_41 (lv_at hl 3 rfl) ?_
              refine lv_icmp_ge (tgt := 56) hx hb dX4_bound_43 (by decide) (fun c24 => ?_) (fun c24 => ?_)
              · have hok := hok.1 c24
                refine lv_iload hx hb dX4_bound_56 (lv_at hl 3 rfl) ?_
                refine lv_goto (tgt := 85) hx hb dX4_bound_58 (by decide) ?_
                refine lv_istore (lv' := [(4, .int i17), (0, .ref (km 0)), (2, .int p1), (3, .int p2), (5, .int i16)]) hx hb dX4_bound_85 hl (by decide) rfl (fun ls hl => ?_)
                refine lv_iinc (v := i16 + (1 : Int32)) (lv' := [(5, .int (i16 + (1 : Int32))), (4, .int i17), (0, .ref (km 0)), (2, .int p1), (3, .int p2)]) hx hb dX4_bound_87 hl (k := 4) rfl rfl (by decide) rfl (fun ls hl => ?_)
                refine lv_goto (tgt := 24) hx hb dX4_bound_90 (by decide) ?_
                exact ih24 (i16 + (1 : Int32)) i17 H locs ls hok ((show f_X4_bound_L24 g p1 p2 (n + 1) i16 i17 = _ by simp only [f_X4_bound_L24, if_neg c18, if_neg c19, if_pos c24]).symm.trans ht) hP hS (lv_sub hl [2, 3, 4, 1, 0] rfl)
              · have hok := hok.2 c24
                refine lv_aload_n hx hb dX4_bound_46 rfl (lv_at hl 0 rfl) ?_
                refine gf_X4_13 fx hP 0 rfl dX4_bound_47 ?_
                refine lv_iload hx hb dX4_bound_50 (lv_at hl 4 rfl) ?_
                obtain ⟨hi25, hok⟩ := hok
                refine al_breaks fx hP (f := M_breaks g) rfl hi25 dX4_bound_52 ?_
                refine lv_goto (tgt := 85) hx hb dX4_bound_53 (by decide) ?_
                refine lv_istore (lv' := [(4, .int ((M_breaks g) i16.toNatClampNeg)), (0, .ref (km 0)), (2, .int p1), (3, .int p2), (5, .int i16)]) hx hb dX4_bound_85 hl (by decide) rfl (fun ls hl => ?_)
                refine lv_iinc (v := i16 + (1 : Int32)) (lv' := [(5, .int (i16 + (1 : Int32))), (4, .int ((M_breaks g) i16.toNatClampNeg)), (0, .ref (km 0)), (2, .int p1), (3, .int p2)]) hx hb dX4_bound_87 hl (k := 4) rfl rfl (by decide) rfl (fun ls hl => ?_)
                refine lv_goto (tgt := 24) hx hb dX4_bound_90 (by decide) ?_
                exact ih24 (i16 + (1 : Int32)) ((M_breaks g) i16.toNatClampNeg) H locs ls hok ((show f_X4_bound_L24 g p1 p2 (n + 1) i16 i17 = _ by simp only [f_X4_bound_L24, if_neg c18, if_neg c19, if_neg c24]).symm.trans ht) hP hS (lv_sub hl [2, 3, 4, 1, 0] rfl)
      exact LP24 N p0 ((M_pore g) p0.toNatClampNeg) H locs ls hokL hz24 hP hS (lv_sub hl [2, 4, 5, 1, 0] rfl)
    intro H locs ls hP hS hl
    subst hz24
    refine lv_iload hx hb dX4_bound_93 (lv_at hl 1 rfl) ?_
    exact hret (f_X4_bound_L24 g p1 p2 N p0 ((M_pore g) p0.toNatClampNeg)) _ _ _ _ dX4_bound_95 (ht.trans (by simp only [f_X4_bound, if_pos c1])) hS
  · have hok := hok.2 c1
    refine lv_aload_n hx hb dX4_bound_4 rfl (lv_at hl 0 rfl) ?_
    refine gf_X4_13 fx hP 0 rfl dX4_bound_5 ?_
    refine lv_iload_n hx hb dX4_bound_8 rfl (lv_at hl 1 rfl) ?_
    obtain ⟨hi26, hok⟩ := hok
    refine al_breaks fx hP (f := M_breaks g) rfl hi26 dX4_bound_9 ?_
    refine lv_goto (tgt := 19) hx hb dX4_bound_10 (by decide) ?_
    refine lv_istore (lv' := [(4, .int ((M_breaks g) p0.toNatClampNeg)), (0, .ref (km 0)), (1, .int p0), (2, .int p1), (3, .int p2)]) hx hb dX4_bound_19 hl (by decide) rfl (fun ls hl => ?_)
    refine lv_iload_n hx hb dX4_bound_21 rfl (lv_at hl 2 rfl) ?_
    refine lv_istore (lv' := [(5, .int p0), (4, .int ((M_breaks g) p0.toNatClampNeg)), (0, .ref (km 0)), (1, .int p0), (2, .int p1), (3, .int p2)]) hx hb dX4_bound_22 hl (by decide) rfl (fun ls hl => ?_)
    obtain ⟨hokL, hok⟩ := hok
    obtain ⟨z24, hz24⟩ : ∃ z, f_X4_bound_L24 g p1 p2 N p0 ((M_breaks g) p0.toNatClampNeg) = z := ⟨_, rfl⟩
    suffices KJ24 : ∀ (H : Heap) (locs : List Loc) (ls : Array Slot), va_P D vwCl (cModel km q g) H → va_S A s.heap H locs → lv_has ls 6 [(0, .ref (km 0)), (4, .int z24)] → W p l e RM_X4_bound s m args below meth c H locs 0 0 Q (F0 m 93 ls []) by
      have LP24 : ∀ (n : Nat) (i40 : Int32) (i41 : Int32) (H : Heap) (locs : List Loc) (ls : Array Slot), ok_X4_bound_L24 g p1 p2 n i40 i41 → f_X4_bound_L24 g p1 p2 n i40 i41 = z24 → va_P D vwCl (cModel km q g) H → va_S A s.heap H locs → lv_has ls 6 [(0, .ref (km 0)), (2, .int p1), (3, .int p2), (4, .int i41), (5, .int i40)] → W p l e RM_X4_bound s m args below meth c H locs 0 0 Q (F0 m 24 ls []) := by
        intro n
        induction n with
        | zero =>
          intro i40 i41 H locs ls hok
          exact (hok : False).elim
        | succ n ih24 =>
          intro i40 i41 H locs ls hok ht hP hS hl
          simp only [ok_X4_bound_L24] at hok
          refine lv_iload hx hb dX4_bound_24 (lv_at hl 4 rfl) ?_
          refine lv_iload_n hx hb dX4_bound_26 rfl (lv_at hl 1 rfl) ?_
          refine lv_icmp_gt (tgt := 93) hx hb dX4_bound_27 (by decide) (fun c42 => ?_) (fun c42 => ?_)
          · have hok := hok.1 c42
            have hv9 := ht.symm.trans (show _ = i41 by simp only [f_X4_bound_L24, if_pos c42])
            subst hv9
            exact KJ24 H locs ls hP hS (lv_sub hl [0, 3] rfl)
          · have hok := hok.2 c42
            refine lv_iload_n hx hb dX4_bound_30 rfl (lv_at hl 2 rfl) ?_
            refine lv_if_eq (tgt := 61) hx hb dX4_bound_31 (by decide) (fun c43 => ?_) (fun c43 => ?_)
            · have hok := hok.1 c43
              refine lv_aload_n hx hb dX4_bound_61 rfl (lv_at hl 0 rfl) ?_
              refine gf_X4_7 fx hP 0 rfl dX4_bound_62 ?_
              refine lv_iload hx hb dX4_bound_65 (lv_at hl 4 rfl) ?_
              obtain ⟨hi44, hok⟩ := hok
              refine al_pore fx hP (f := M_pore g) rfl hi44 dX4_bound_67 ?_
              refine lv_iload hx hb dX4_bound_68 (lv_at hl 3 rfl) ?_
              refine lv_icmp_le (tgt := 83) hx hb dX4_bound_70 (by decide) (fun c45 => ?_) (fun c45 => ?_)
              · have hok := hok.1 c45
                refine lv_iload hx hb dX4_bound_83 (lv_at hl 3 rfl) ?_
                refine lv_istore (lv' := [(4, .int i41), (0, .ref (km 0)), (2, .int p1), (3, .int p2), (5, .int i40)]) hx hb dX4_bound_85 hl (by decide) rfl (fun ls hl => ?_)
                refine lv_iinc (v := i40 + (1 : Int32)) (lv' := [(5, .int (i40 + (1 : Int32))), (4, .int i41), (0, .ref (km 0)), (2, .int p1), (3, .int p2)]) hx hb dX4_bound_87 hl (k := 4) rfl rfl (by decide) rfl (fun ls hl => ?_)
                refine lv_goto (tgt := 24) hx hb dX4_bound_90 (by decide) ?_
                exact ih24 (i40 + (1 : Int32)) i41 H locs ls hok ((show f_X4_bound_L24 g p1 p2 (n + 1) i40 i41 = _ by simp only [f_X4_bound_L24, if_neg c42, if_pos c43, if_pos c45]).symm.trans ht) hP hS (lv_sub hl [2, 3, 4, 1, 0] rfl)
              · have hok := hok.2 c45
                refine lv_aload_n hx hb dX4_bound_73 rfl (lv_at hl 0 rfl) ?_
                refine gf_X4_7 fx hP 0 rfl dX4_bound_74 ?_
                refine lv_iload hx hb dX4_bound_77 (lv_at hl 4 rfl) ?_
                obtain ⟨hi46, hok⟩ := hok
                refine al_pore fx hP (f := M_pore g) rfl hi46 dX4_bound_79 ?_
                refine lv_goto (tgt := 85) hx hb dX4_bound_80 (by decide) ?_
                refine lv_istore (lv' := [(4, .int ((M_pore g) i40.toNatClampNeg)), (0, .ref (km 0)), (2, .int p1), (3, .int p2), (5, .int i40)]) hx hb dX4_bound_85 hl (by decide) rfl (fun ls hl => ?_)
                refine lv_iinc (v := i40 + (1 : Int32)) (lv' := [(5, .int (i40 + (1 : Int32))), (4, .int ((M_pore g) i40.toNatClampNeg)), (0, .ref (km 0)), (2, .int p1), (3, .int p2)]) hx hb dX4_bound_87 hl (k := 4) rfl rfl (by decide) rfl (fun ls hl => ?_)
                refine lv_goto (tgt := 24) hx hb dX4_bound_90 (by decide) ?_
                exact ih24 (i40 + (1 : Int32)) ((M_pore g) i40.toNatClampNeg) H locs ls hok ((show f_X4_bound_L24 g p1 p2 (n + 1) i40 i41 = _ by simp only [f_X4_bound_L24, if_neg c42, if_pos c43, if_neg c45]).symm.trans ht) hP hS (lv_sub hl [2, 3, 4, 1, 0] rfl)
            · have hok := hok.2 c43
              refine lv_aload_n hx hb dX4_bound_34 rfl (lv_at hl 0 rfl) ?_
              refine gf_X4_13 fx hP 0 rfl dX4_bound_35 ?_
              refine lv_iload hx hb dX4_bound_38 (lv_at hl 4 rfl) ?_
              obtain ⟨hi47, hok⟩ := hok
              refine al_breaks fx hP (f := M_breaks g) rfl hi47 dX4_bound_40 ?_
              refine lv_iload hx hb dX4_bound_41 (lv_at hl 3 rfl) ?_
              refine lv_icmp_ge (tgt := 56) hx hb dX4_bound_43 (by decide) (fun c48 => ?_) (fun c48 => ?_)
              · have hok := hok.1 c48
                refine lv_iload hx hb dX4_bound_56 (lv_at hl 3 rfl) ?_
                refine lv_goto (tgt := 85) hx hb dX4_bound_58 (by decide) ?_
                refine lv_istore (lv' := [(4, .int i41), (0, .ref (km 0)), (2, .int p1), (3, .int p2), (5, .int i40)]) hx hb dX4_bound_85 hl (by decide) rfl (fun ls hl => ?_)
                refine lv_iinc (v := i40 + (1 : Int32)) (lv' := [(5, .int (i40 + (1 : Int32))), (4, .int i41), (0, .ref (km 0)), (2, .int p1), (3, .int p2)]) hx hb dX4_bound_87 hl (k := 4) rfl rfl (by decide) rfl (fun ls hl => ?_)
                refine lv_goto (tgt := 24) hx hb dX4_bound_90 (by decide) ?_
                exact ih24 (i40 + (1 : Int32)) i41 H locs ls hok ((show f_X4_bound_L24 g p1 p2 (n + 1) i40 i41 = _ by simp only [f_X4_bound_L24, if_neg c42, if_neg c43, if_pos c48]).symm.trans ht) hP hS (lv_sub hl [2, 3, 4, 1, 0] rfl)
              · have hok := hok.2 c48
                refine lv_aload_n hx hb dX4_bound_46 rfl (lv_at hl 0 rfl) ?_
                refine gf_X4_13 fx hP 0 rfl dX4_bound_47 ?_
                refine lv_iload hx hb dX4_bound_50 (lv_at hl 4 rfl) ?_
                obtain ⟨hi49, hok⟩ := hok
                refine al_breaks fx hP (f := M_breaks g) rfl hi49 dX4_bound_52 ?_
                refine lv_goto (tgt := 85) hx hb dX4_bound_53 (by decide) ?_
                refine lv_istore (lv' := [(4, .int ((M_breaks g) i40.toNatClampNeg)), (0, .ref (km 0)), (2, .int p1), (3, .int p2), (5, .int i40)]) hx hb dX4_bound_85 hl (by decide) rfl (fun ls hl => ?_)
                refine lv_iinc (v := i40 + (1 : Int32)) (lv' := [(5, .int (i40 + (1 : Int32))), (4, .int ((M_breaks g) i40.toNatClampNeg)), (0, .ref (km 0)), (2, .int p1), (3, .int p2)]) hx hb dX4_bound_87 hl (k := 4) rfl rfl (by decide) rfl (fun ls hl => ?_)
                refine lv_goto (tgt := 24) hx hb dX4_bound_90 (by decide) ?_
                exact ih24 (i40 + (1 : Int32)) ((M_breaks g) i40.toNatClampNeg) H locs ls hok ((show f_X4_bound_L24 g p1 p2 (n + 1) i40 i41 = _ by simp only [f_X4_bound_L24, if_neg c42, if_neg c43, if_neg c48]).symm.trans ht) hP hS (lv_sub hl [2, 3, 4, 1, 0] rfl)
      exact LP24 N p0 ((M_breaks g) p0.toNatClampNeg) H locs ls hokL hz24 hP hS (lv_sub hl [2, 4, 5, 1, 0] rfl)
    intro H locs ls hP hS hl
    subst hz24
    refine lv_iload hx hb dX4_bound_93 (lv_at hl 1 rfl) ?_
    exact hret (f_X4_bound_L24 g p1 p2 N p0 ((M_breaks g) p0.toNatClampNeg)) _ _ _ _ dX4_bound_95 (ht.trans (by simp only [f_X4_bound, if_neg c1])) hS

/-! X4_window -/
def f_X4_window_b28 (N : Nat) (g : MS) (p0 : Int32) (p1 : Int32) (p2 : Int32) (j11 : Int32) : Int32 × MS :=
  if (f_X4_goesWell g (if j11 = 0 then (1 : Int32) else (0 : Int32))).1 = 0 then ((0 : Int32), ((f_X4_goesWell g (if j11 = 0 then (1 : Int32) else (0 : Int32))).2)) else (f_X4_bound N ((f_X4_goesWell g (if j11 = 0 then (1 : Int32) else (0 : Int32))).2) (p0 / (100 : Int32)) (f_X4_layerAt p1) p2, ((f_X4_goesWell g (if j11 = 0 then (1 : Int32) else (0 : Int32))).2))

def ok_X4_window_b28 (N : Nat) (g : MS) (p0 : Int32) (p1 : Int32) (p2 : Int32) (j11 : Int32) : Prop :=
  ((f_X4_goesWell g (if j11 = 0 then (1 : Int32) else (0 : Int32))).1 = 0 → True) ∧ (¬ (f_X4_goesWell g (if j11 = 0 then (1 : Int32) else (0 : Int32))).1 = 0 → ((ok_X4_bound N ((f_X4_goesWell g (if j11 = 0 then (1 : Int32) else (0 : Int32))).2) (p0 / (100 : Int32)) (f_X4_layerAt p1) p2) ∧ True))

def f_X4_window_b27 (N : Nat) (g : MS) (p0 : Int32) (p1 : Int32) (p2 : Int32) : Int32 × MS :=
  f_X4_window_b28 N g p0 p1 p2 (0 : Int32)

def ok_X4_window_b27 (N : Nat) (g : MS) (p0 : Int32) (p1 : Int32) (p2 : Int32) : Prop :=
  ok_X4_window_b28 N g p0 p1 p2 (0 : Int32)

def f_X4_window (N : Nat) (g : MS) (p0 : Int32) (p1 : Int32) (p2 : Int32) : Int32 × MS :=
  if (f_X4_in p0 (0 : Int32) (4999 : Int32)) = 0 then (f_X4_window_b27 N g p0 p1 p2) else (if p1 ≤ p0 then (f_X4_window_b27 N g p0 p1 p2) else (if (5000 : Int32) < p1 then (f_X4_window_b27 N g p0 p1 p2) else (f_X4_window_b28 N g p0 p1 p2 (1 : Int32))))

def ok_X4_window (N : Nat) (g : MS) (p0 : Int32) (p1 : Int32) (p2 : Int32) : Prop :=
  ((f_X4_in p0 (0 : Int32) (4999 : Int32)) = 0 → (ok_X4_window_b27 N g p0 p1 p2)) ∧ (¬ (f_X4_in p0 (0 : Int32) (4999 : Int32)) = 0 → ((p1 ≤ p0 → (ok_X4_window_b27 N g p0 p1 p2)) ∧ (¬ p1 ≤ p0 → (((5000 : Int32) < p1 → (ok_X4_window_b27 N g p0 p1 p2)) ∧ (¬ (5000 : Int32) < p1 → (ok_X4_window_b28 N g p0 p1 p2 (1 : Int32)))))))

abbrev RM_X4_window : Room := { frames := 1, cells := 0, slots := 0, locals := 25 }
set_option maxRecDepth 100000 in
set_option maxHeartbeats 4000000 in
theorem c_X4_window (l : Launch) (D : va_G) (q : Nat → ClassId) (sz : Nat) (km : Nat → Nat) (g : MS) (p0 : Int32) (p1 : Int32) (p2 : Int32) (N : Nat) (hok : ok_X4_window N g p0 p1 p2) : Met l yX4_window (Cond.code yX4_window cX4_window 5 (some .int) :: ALL) RM_X4_window (PC D q [.ref (km 0), .int p0, .int p1, .int p2] (cModel km q g) sz) (va_Qi (fun (rv : Int32) (u : MS) => f_X4_window N g p0 p1 p2 = (rv, u)) (fun u t9 => va_P D vwCl (cModel km q u) t9.heap) (va_A (cModel km q g) sz)) 0 0 (va_A (cModel km q g) sz) := by
  refine en_iW (by decide +kernel) (Nat.le_of_ble_eq_true rfl) ?_
  intro p e s m args below meth c Q A H locs ls fx hD0 hA hP hS hl hret
  have hx := fx.1
  have hb := fx.2.1
  have hl : lv_has ls 5 [(0, .ref (km 0)), (1, .int p0), (2, .int p1), (3, .int p2)] := hl
  have hD : ∀ (g9 : MS), va_D _ (cModel km q g9) := fun _ => D_same ((fst_Model _ _ _).trans (fst_Model _ _ _).symm) hD0
  have ht : f_X4_window N g p0 p1 p2 = f_X4_window N g p0 p1 p2 := rfl
  simp only [ok_X4_window] at hok
  refine lv_iload_n hx hb dX4_window_0 rfl (lv_at hl 1 rfl) ?_
  refine lv_iconst (v := 0) hx hb dX4_window_1 (by decide) ?_
  refine lv_sipush (v := 4999) hx hb dX4_window_2 (by decide) ?_
  refine kR_i (runS fx (As := [.int p0, .int (0 : Int32), .int (4999 : Int32)]) (rest := []) (c_X4_in l D q H.size p0 (0 : Int32) (4999 : Int32)) lk_X4_59 ⟨Nat.le_of_ble_eq_true rfl, Nat.le_of_ble_eq_true rfl⟩ ⟨rfl, rfl⟩ hP (hD _) [] rfl rfl rfl hl.1 rfl (Nat.le_of_ble_eq_true rfl) dX4_window_5 ⟨Nat.zero_le _, Nat.zero_le _⟩) hP hS (fun r1 _ H locs hr2 hP hS => ?_)
  obtain ⟨rfl, hz3⟩ := hr2
  have K28 : ∀ (j11 : Int32) (H : Heap) (locs : List Loc) (ls : Array Slot), ok_X4_window_b28 N g p0 p1 p2 j11 → f_X4_window N g p0 p1 p2 = f_X4_window_b28 N g p0 p1 p2 j11 → va_P D vwCl (cModel km q g) H → va_S A s.heap H locs → lv_has ls 5 [(0, .ref (km 0)), (1, .int p0), (2, .int p1), (3, .int p2)] → W p l e RM_X4_window s m args below meth c H locs 0 0 Q (F0 m 28 ls [.int j11]) := by
    intro j11 H locs ls hok ht hP hS hl
    simp only [ok_X4_window_b28] at hok
    refine lv_istore (lv' := [(4, .int j11), (0, .ref (km 0)), (1, .int p0), (2, .int p1), (3, .int p2)]) hx hb dX4_window_28 hl (by decide) rfl (fun ls hl => ?_)
    refine lv_aload_n hx hb dX4_window_30 rfl (lv_at hl 1 rfl) ?_
    refine lv_iload hx hb dX4_window_31 (lv_at hl 0 rfl) ?_
    suffices K : ∀ (v13 : Int32), ∀ (H : Heap) (locs : List Loc) (ls : Array Slot), v13 = (if j11 = 0 then (1 : Int32) else (0 : Int32)) → va_P D vwCl (cModel km q g) H → va_S A s.heap H locs → lv_has ls 5 [(0, .ref (km 0)), (1, .int p0), (2, .int p1), (3, .int p2)] → W p l e RM_X4_window s m args below meth c H locs 0 0 Q (F0 m 41 ls [.int v13, .ref (km 0)]) by
      refine lv_if_eq (tgt := 40) hx hb dX4_window_33 (by decide) (fun c12 => ?_) (fun c12 => ?_)
      · refine lv_iconst (v := 1) hx hb dX4_window_40 (by decide) ?_
        exact K (1 : Int32) H locs ls (by simp only [if_pos c12]) hP hS (lv_sub hl [1, 2, 3, 4] rfl)
      · refine lv_iconst (v := 0) hx hb dX4_window_36 (by decide) ?_
        refine lv_goto (tgt := 41) hx hb dX4_window_37 (by decide) ?_
        exact K (0 : Int32) H locs ls (by simp only [if_neg c12]) hP hS (lv_sub hl [1, 2, 3, 4] rfl)
    intro v13 H locs ls hvv13 hP hS hl
    subst hvv13
    refine kM_i (runM fx (As := [.int (if j11 = 0 then (1 : Int32) else (0 : Int32))]) (rest := []) (c_X4_goesWell l D q H.size km g (if j11 = 0 then (1 : Int32) else (0 : Int32))) lk_X4_66 ⟨Nat.le_of_ble_eq_true rfl, Nat.le_of_ble_eq_true rfl⟩ ⟨rfl, rfl⟩ hP (hD _) rfl hl.1 rfl (Nat.le_of_ble_eq_true rfl) dX4_window_41 ⟨Nat.zero_le _, Nat.zero_le _⟩) hP (hD _) hS hA (fun r16 u14 H locs hw15 hP hS => ?_)
    obtain ⟨hw15, hz17⟩ := hw15
    try simp only [hw15] at hok
    refine lv_if_eq (tgt := 63) hx hb dX4_window_44 (by decide) (fun c18 => ?_) (fun c18 => ?_)
    · have hok := hok.1 c18
      refine lv_iconst (v := 0) hx hb dX4_window_63 (by decide) ?_
      exact hret (0 : Int32) u14 _ _ _ _ dX4_window_64 (ht.trans (by first | (simp only [f_X4_window_b28, if_pos c18, hw15]; done) | (simp only [f_X4_window_b28, hw15]; simp only [if_pos c18]))) hP hS
    · have hok := hok.2 c18
      refine lv_aload_n hx hb dX4_window_47 rfl (lv_at hl 0 rfl) ?_
      refine lv_iload_n hx hb dX4_window_48 rfl (lv_at hl 1 rfl) ?_
      refine lv_bipush (v := 100) hx hb dX4_window_49 (by decide) ?_
      refine lv_idiv hx hb dX4_window_51 (by decide) ?_
      refine lv_iload_n hx hb dX4_window_52 rfl (lv_at hl 2 rfl) ?_
      refine kR_i (runS fx (As := [.int p1]) (rest := [.int (p0 / (100 : Int32)), .ref (km 0)]) (c_X4_layerAt l D q H.size p1) lk_X4_55 ⟨Nat.le_of_ble_eq_true rfl, Nat.le_of_ble_eq_true rfl⟩ ⟨rfl, rfl⟩ hP (hD _) [] rfl rfl rfl hl.1 rfl (Nat.le_of_ble_eq_true rfl) dX4_window_53 ⟨Nat.zero_le _, Nat.zero_le _⟩) hP hS (fun r19 _ H locs hr20 hP hS => ?_)
      subst hr20
      refine lv_iload_n hx hb dX4_window_56 rfl (lv_at hl 3 rfl) ?_
      obtain ⟨hk21, hok⟩ := hok
      refine kR_i (runM fx (As := [.int (p0 / (100 : Int32)), .int (f_X4_layerAt p1), .int p2]) (rest := []) (c_X4_bound l D q H.size km u14 (p0 / (100 : Int32)) (f_X4_layerAt p1) p2 N hk21) lk_X4_174 ⟨Nat.le_of_ble_eq_true rfl, Nat.le_of_ble_eq_true rfl⟩ ⟨rfl, rfl⟩ hP (hD _) rfl hl.1 rfl (Nat.le_of_ble_eq_true rfl) dX4_window_57 ⟨Nat.zero_le _, Nat.zero_le _⟩) hP hS (fun r22 _ H locs hr23 hP hS => ?_)
      subst hr23
      refine lv_goto (tgt := 64) hx hb dX4_window_60 (by decide) ?_
      exact hret (f_X4_bound N u14 (p0 / (100 : Int32)) (f_X4_layerAt p1) p2) u14 _ _ _ _ dX4_window_64 (ht.trans (by first | (simp only [f_X4_window_b28, if_neg c18, hw15]; done) | (simp only [f_X4_window_b28, hw15]; simp only [if_neg c18]))) hP hS
  have K27 : ∀ (H : Heap) (locs : List Loc) (ls : Array Slot), ok_X4_window_b27 N g p0 p1 p2 → f_X4_window N g p0 p1 p2 = f_X4_window_b27 N g p0 p1 p2 → va_P D vwCl (cModel km q g) H → va_S A s.heap H locs → lv_has ls 5 [(0, .ref (km 0)), (1, .int p0), (2, .int p1), (3, .int p2)] → W p l e RM_X4_window s m args below meth c H locs 0 0 Q (F0 m 27 ls []) := by
    intro H locs ls hok ht hP hS hl
    simp only [ok_X4_window_b27] at hok
    refine lv_iconst (v := 0) hx hb dX4_window_27 (by decide) ?_
    exact K28 (0 : Int32) H locs ls hok (ht.trans (by simp only [f_X4_window_b27])) hP hS (lv_sub hl [0, 1, 2, 3] rfl)
  refine lv_if_eq (tgt := 27) hx hb dX4_window_8 (by decide) (fun c8 => ?_) (fun c8 => ?_)
  · have hok := hok.1 c8
    exact K27 H locs ls hok (ht.trans (by simp only [f_X4_window, if_pos c8])) hP hS (lv_sub hl [0, 1, 2, 3] rfl)
  · have hok := hok.2 c8
    refine lv_iload_n hx hb dX4_window_11 rfl (lv_at hl 2 rfl) ?_
    refine lv_iload_n hx hb dX4_window_12 rfl (lv_at hl 1 rfl) ?_
    refine lv_icmp_le (tgt := 27) hx hb dX4_window_13 (by decide) (fun c9 => ?_) (fun c9 => ?_)
    · have hok := hok.1 c9
      exact K27 H locs ls hok (ht.trans (by simp only [f_X4_window, if_neg c8, if_pos c9])) hP hS (lv_sub hl [0, 1, 2, 3] rfl)
    · have hok := hok.2 c9
      refine lv_iload_n hx hb dX4_window_16 rfl (lv_at hl 2 rfl) ?_
      refine lv_sipush (v := 5000) hx hb dX4_window_17 (by decide) ?_
      refine lv_icmp_gt (tgt := 27) hx hb dX4_window_20 (by decide) (fun c10 => ?_) (fun c10 => ?_)
      · have hok := hok.1 c10
        exact K27 H locs ls hok (ht.trans (by simp only [f_X4_window, if_neg c8, if_neg c9, if_pos c10])) hP hS (lv_sub hl [0, 1, 2, 3] rfl)
      · have hok := hok.2 c10
        refine lv_iconst (v := 1) hx hb dX4_window_23 (by decide) ?_
        refine lv_goto (tgt := 28) hx hb dX4_window_24 (by decide) ?_
        exact K28 (1 : Int32) H locs ls hok (ht.trans (by simp only [f_X4_window, if_neg c8, if_neg c9, if_neg c10])) hP hS (lv_sub hl [0, 1, 2, 3] rfl)

/-! X4_casingsOf -/
def f_X4_casingsOf_L40 (N : Nat) (g : MS) (p0 : Int32) (i45 : Int32) : Nat → Int32 → Int32
  | 0, i65 => i65
  | n + 1, i65 => if (f_X4_layerAt p0) < i65 then i65 else (if (f_X4_bound N ((f_X4_goesWell g (if (f_X4_in p0 (1 : Int32) (5000 : Int32)) = 0 then (1 : Int32) else (0 : Int32))).2) i45 i65 (1 : Int32)) < (f_X4_bound N ((f_X4_goesWell g (if (f_X4_in p0 (1 : Int32) (5000 : Int32)) = 0 then (1 : Int32) else (0 : Int32))).2) i45 i65 (0 : Int32)) then i65 else (f_X4_casingsOf_L40 N g p0 i45 n (i65 + (1 : Int32))))

def ok_X4_casingsOf_L40 (N : Nat) (g : MS) (p0 : Int32) (i45 : Int32) : Nat → Int32 → Prop
  | 0, _ => False
  | n + 1, i65 => ((f_X4_layerAt p0) < i65 → True) ∧ (¬ (f_X4_layerAt p0) < i65 → ((ok_X4_bound N ((f_X4_goesWell g (if (f_X4_in p0 (1 : Int32) (5000 : Int32)) = 0 then (1 : Int32) else (0 : Int32))).2) i45 i65 (0 : Int32)) ∧ ((ok_X4_bound N ((f_X4_goesWell g (if (f_X4_in p0 (1 : Int32) (5000 : Int32)) = 0 then (1 : Int32) else (0 : Int32))).2) i45 i65 (1 : Int32)) ∧ (((f_X4_bound N ((f_X4_goesWell g (if (f_X4_in p0 (1 : Int32) (5000 : Int32)) = 0 then (1 : Int32) else (0 : Int32))).2) i45 i65 (1 : Int32)) < (f_X4_bound N ((f_X4_goesWell g (if (f_X4_in p0 (1 : Int32) (5000 : Int32)) = 0 then (1 : Int32) else (0 : Int32))).2) i45 i65 (0 : Int32)) → True) ∧ (¬ (f_X4_bound N ((f_X4_goesWell g (if (f_X4_in p0 (1 : Int32) (5000 : Int32)) = 0 then (1 : Int32) else (0 : Int32))).2) i45 i65 (1 : Int32)) < (f_X4_bound N ((f_X4_goesWell g (if (f_X4_in p0 (1 : Int32) (5000 : Int32)) = 0 then (1 : Int32) else (0 : Int32))).2) i45 i65 (0 : Int32)) → (ok_X4_casingsOf_L40 N g p0 i45 n (i65 + (1 : Int32))))))))

def f_X4_casingsOf_L29 (N : Nat) (g : MS) (p0 : Int32) : Nat → Int32 → Int32 → Int32 × MS
  | 0, i45, i46 => (0, g)
  | n + 1, i45, i46 => if (f_X4_layerAt p0) < i45 then (i46, ((f_X4_goesWell g (if (f_X4_in p0 (1 : Int32) (5000 : Int32)) = 0 then (1 : Int32) else (0 : Int32))).2)) else (if (f_X4_casingsOf_L40 N g p0 i45 N i45) = i45 then ((-1 : Int32), ((f_X4_goesWell g (if (f_X4_in p0 (1 : Int32) (5000 : Int32)) = 0 then (1 : Int32) else (0 : Int32))).2)) else (f_X4_casingsOf_L29 N g p0 n (f_X4_casingsOf_L40 N g p0 i45 N i45) (i46 + (1 : Int32))))

def ok_X4_casingsOf_L29 (N : Nat) (g : MS) (p0 : Int32) : Nat → Int32 → Int32 → Prop
  | 0, _, _ => False
  | n + 1, i45, i46 => ((f_X4_layerAt p0) < i45 → True) ∧ (¬ (f_X4_layerAt p0) < i45 → ((ok_X4_casingsOf_L40 N g p0 i45 N i45) ∧ (((f_X4_casingsOf_L40 N g p0 i45 N i45) = i45 → True) ∧ (¬ (f_X4_casingsOf_L40 N g p0 i45 N i45) = i45 → (ok_X4_casingsOf_L29 N g p0 n (f_X4_casingsOf_L40 N g p0 i45 N i45) (i46 + (1 : Int32)))))))

def f_X4_casingsOf (N : Nat) (g : MS) (p0 : Int32) : Int32 × MS :=
  if (f_X4_goesWell g (if (f_X4_in p0 (1 : Int32) (5000 : Int32)) = 0 then (1 : Int32) else (0 : Int32))).1 = 0 then ((0 : Int32), ((f_X4_goesWell g (if (f_X4_in p0 (1 : Int32) (5000 : Int32)) = 0 then (1 : Int32) else (0 : Int32))).2)) else (f_X4_casingsOf_L29 N g p0 N (0 : Int32) (0 : Int32))

def ok_X4_casingsOf (N : Nat) (g : MS) (p0 : Int32) : Prop :=
  ((f_X4_goesWell g (if (f_X4_in p0 (1 : Int32) (5000 : Int32)) = 0 then (1 : Int32) else (0 : Int32))).1 = 0 → True) ∧ (¬ (f_X4_goesWell g (if (f_X4_in p0 (1 : Int32) (5000 : Int32)) = 0 then (1 : Int32) else (0 : Int32))).1 = 0 → (ok_X4_casingsOf_L29 N g p0 N (0 : Int32) (0 : Int32)))

abbrev RM_X4_casingsOf : Room := { frames := 1, cells := 0, slots := 0, locals := 25 }
set_option maxRecDepth 100000 in
set_option maxHeartbeats 4000000 in
theorem c_X4_casingsOf (l : Launch) (D : va_G) (q : Nat → ClassId) (sz : Nat) (km : Nat → Nat) (g : MS) (p0 : Int32) (N : Nat) (hok : ok_X4_casingsOf N g p0) : Met l yX4_casingsOf (Cond.code yX4_casingsOf cX4_casingsOf 5 (some .int) :: ALL) RM_X4_casingsOf (PC D q [.ref (km 0), .int p0] (cModel km q g) sz) (va_Qi (fun (rv : Int32) (u : MS) => f_X4_casingsOf N g p0 = (rv, u)) (fun u t9 => va_P D vwCl (cModel km q u) t9.heap) (va_A (cModel km q g) sz)) 0 0 (va_A (cModel km q g) sz) := by
  refine en_iW (by decide +kernel) (Nat.le_of_ble_eq_true rfl) ?_
  intro p e s m args below meth c Q A H locs ls fx hD0 hA hP hS hl hret
  have hx := fx.1
  have hb := fx.2.1
  have hl : lv_has ls 5 [(0, .ref (km 0)), (1, .int p0)] := hl
  have hD : ∀ (g9 : MS), va_D _ (cModel km q g9) := fun _ => D_same ((fst_Model _ _ _).trans (fst_Model _ _ _).symm) hD0
  have ht : f_X4_casingsOf N g p0 = f_X4_casingsOf N g p0 := rfl
  simp only [ok_X4_casingsOf] at hok
  refine lv_aload_n hx hb dX4_casingsOf_0 rfl (lv_at hl 0 rfl) ?_
  refine lv_iload_n hx hb dX4_casingsOf_1 rfl (lv_at hl 1 rfl) ?_
  refine lv_iconst (v := 1) hx hb dX4_casingsOf_2 (by decide) ?_
  refine lv_sipush (v := 5000) hx hb dX4_casingsOf_3 (by decide) ?_
  refine kR_i (runS fx (As := [.int p0, .int (1 : Int32), .int (5000 : Int32)]) (rest := [.ref (km 0)]) (c_X4_in l D q H.size p0 (1 : Int32) (5000 : Int32)) lk_X4_59 ⟨Nat.le_of_ble_eq_true rfl, Nat.le_of_ble_eq_true rfl⟩ ⟨rfl, rfl⟩ hP (hD _) [] rfl rfl rfl hl.1 rfl (Nat.le_of_ble_eq_true rfl) dX4_casingsOf_6 ⟨Nat.zero_le _, Nat.zero_le _⟩) hP hS (fun r1 _ H locs hr2 hP hS => ?_)
  obtain ⟨rfl, hz3⟩ := hr2
  suffices K : ∀ (v5 : Int32), ∀ (H : Heap) (locs : List Loc) (ls : Array Slot), v5 = (if (f_X4_in p0 (1 : Int32) (5000 : Int32)) = 0 then (1 : Int32) else (0 : Int32)) → va_P D vwCl (cModel km q g) H → va_S A s.heap H locs → lv_has ls 5 [(0, .ref (km 0)), (1, .int p0)] → W p l e RM_X4_casingsOf s m args below meth c H locs 0 0 Q (F0 m 17 ls [.int v5, .ref (km 0)]) by
    refine lv_if_eq (tgt := 16) hx hb dX4_casingsOf_9 (by decide) (fun c4 => ?_) (fun c4 => ?_)
    · refine lv_iconst (v := 1) hx hb dX4_casingsOf_16 (by decide) ?_
      exact K (1 : Int32) H locs ls (by simp only [if_pos c4]) hP hS (lv_sub hl [0, 1] rfl)
    · refine lv_iconst (v := 0) hx hb dX4_casingsOf_12 (by decide) ?_
      refine lv_goto (tgt := 17) hx hb dX4_casingsOf_13 (by decide) ?_
      exact K (0 : Int32) H locs ls (by simp only [if_neg c4]) hP hS (lv_sub hl [0, 1] rfl)
  intro v5 H locs ls hvv5 hP hS hl
  subst hvv5
  refine kM_i (runM fx (As := [.int (if (f_X4_in p0 (1 : Int32) (5000 : Int32)) = 0 then (1 : Int32) else (0 : Int32))]) (rest := []) (c_X4_goesWell l D q H.size km g (if (f_X4_in p0 (1 : Int32) (5000 : Int32)) = 0 then (1 : Int32) else (0 : Int32))) lk_X4_66 ⟨Nat.le_of_ble_eq_true rfl, Nat.le_of_ble_eq_true rfl⟩ ⟨rfl, rfl⟩ hP (hD _) rfl hl.1 rfl (Nat.le_of_ble_eq_true rfl) dX4_casingsOf_17 ⟨Nat.zero_le _, Nat.zero_le _⟩) hP (hD _) hS hA (fun r8 u6 H locs hw7 hP hS => ?_)
  obtain ⟨hw7, hz9⟩ := hw7
  try simp only [hw7] at hok
  refine lv_if_ne (tgt := 25) hx hb dX4_casingsOf_20 (by decide) (fun c10 => ?_) (fun c10 => ?_)
  · have hok := hok.2 c10
    refine lv_iconst (v := 0) hx hb dX4_casingsOf_25 (by decide) ?_
    refine lv_istore_n (lv' := [(2, .int (0 : Int32)), (0, .ref (km 0)), (1, .int p0)]) hx hb dX4_casingsOf_26 rfl hl (by decide) rfl (fun ls hl => ?_)
    refine lv_iconst (v := 0) hx hb dX4_casingsOf_27 (by decide) ?_
    refine lv_istore_n (lv' := [(3, .int (0 : Int32)), (2, .int (0 : Int32)), (0, .ref (km 0)), (1, .int p0)]) hx hb dX4_casingsOf_28 rfl hl (by decide) rfl (fun ls hl => ?_)
    have LP29 : ∀ (n : Nat) (i45 : Int32) (i46 : Int32) (H : Heap) (locs : List Loc) (ls : Array Slot), ok_X4_casingsOf_L29 N g p0 n i45 i46 → f_X4_casingsOf N g p0 = f_X4_casingsOf_L29 N g p0 n i45 i46 → va_P D vwCl (cModel km q u6) H → va_S A s.heap H locs → lv_has ls 5 [(0, .ref (km 0)), (1, .int p0), (2, .int i46), (3, .int i45)] → W p l e RM_X4_casingsOf s m args below meth c H locs 0 0 Q (F0 m 29 ls []) := by
      intro n
      induction n with
      | zero =>
        intro i45 i46 H locs ls hok
        exact (hok : False).elim
      | succ n ih29 =>
        intro i45 i46 H locs ls hok ht hP hS hl
        simp only [ok_X4_casingsOf_L29] at hok
        try simp only [hw7] at hok
        refine lv_iload_n hx hb dX4_casingsOf_29 rfl (lv_at hl 3 rfl) ?_
        refine lv_iload_n hx hb dX4_casingsOf_30 rfl (lv_at hl 1 rfl) ?_
        refine kR_i (runS fx (As := [.int p0]) (rest := [.int i45]) (c_X4_layerAt l D q H.size p0) lk_X4_55 ⟨Nat.le_of_ble_eq_true rfl, Nat.le_of_ble_eq_true rfl⟩ ⟨rfl, rfl⟩ hP (hD _) [] rfl rfl rfl hl.1 rfl (Nat.le_of_ble_eq_true rfl) dX4_casingsOf_31 ⟨Nat.zero_le _, Nat.zero_le _⟩) hP hS (fun r47 _ H locs hr48 hP hS => ?_)
        subst hr48
        refine lv_icmp_gt (tgt := 91) hx hb dX4_casingsOf_34 (by decide) (fun c49 => ?_) (fun c49 => ?_)
        · have hok := hok.1 c49
          refine lv_iload_n hx hb dX4_casingsOf_91 rfl (lv_at hl 2 rfl) ?_
          exact hret i46 u6 _ _ _ _ dX4_casingsOf_92 (ht.trans (by first | (simp only [f_X4_casingsOf_L29, if_pos c49, hw7]; done) | (simp only [f_X4_casingsOf_L29, hw7]; simp only [if_pos c49]))) hP hS
        · have hok := hok.2 c49
          refine lv_iload_n hx hb dX4_casingsOf_37 rfl (lv_at hl 3 rfl) ?_
          refine lv_istore (lv' := [(4, .int i45), (0, .ref (km 0)), (1, .int p0), (2, .int i46), (3, .int i45)]) hx hb dX4_casingsOf_38 hl (by decide) rfl (fun ls hl => ?_)
          obtain ⟨hokL, hok⟩ := hok
          obtain ⟨z40, hz40⟩ : ∃ z, f_X4_casingsOf_L40 N g p0 i45 N i45 = z := ⟨_, rfl⟩
          suffices KJ40 : ∀ (H : Heap) (locs : List Loc) (ls : Array Slot), va_P D vwCl (cModel km q u6) H → va_S A s.heap H locs → lv_has ls 5 [(0, .ref (km 0)), (1, .int p0), (2, .int i46), (3, .int i45), (4, .int z40)] → W p l e RM_X4_casingsOf s m args below meth c H locs 0 0 Q (F0 m 74 ls []) by
            have LP40 : ∀ (n : Nat) (i65 : Int32) (H : Heap) (locs : List Loc) (ls : Array Slot), ok_X4_casingsOf_L40 N g p0 i45 n i65 → f_X4_casingsOf_L40 N g p0 i45 n i65 = z40 → va_P D vwCl (cModel km q u6) H → va_S A s.heap H locs → lv_has ls 5 [(0, .ref (km 0)), (1, .int p0), (2, .int i46), (3, .int i45), (4, .int i65)] → W p l e RM_X4_casingsOf s m args below meth c H locs 0 0 Q (F0 m 40 ls []) := by
              intro n
              induction n with
              | zero =>
                intro i65 H locs ls hok
                exact (hok : False).elim
              | succ n ih40 =>
                intro i65 H locs ls hok ht hP hS hl
                simp only [ok_X4_casingsOf_L40] at hok
                try simp only [hw7] at hok
                refine lv_iload hx hb dX4_casingsOf_40 (lv_at hl 4 rfl) ?_
                refine lv_iload_n hx hb dX4_casingsOf_42 rfl (lv_at hl 1 rfl) ?_
                refine kR_i (runS fx (As := [.int p0]) (rest := [.int i65]) (c_X4_layerAt l D q H.size p0) lk_X4_55 ⟨Nat.le_of_ble_eq_true rfl, Nat.le_of_ble_eq_true rfl⟩ ⟨rfl, rfl⟩ hP (hD _) [] rfl rfl rfl hl.1 rfl (Nat.le_of_ble_eq_true rfl) dX4_casingsOf_43 ⟨Nat.zero_le _, Nat.zero_le _⟩) hP hS (fun r66 _ H locs hr67 hP hS => ?_)
                subst hr67
                refine lv_icmp_gt (tgt := 74) hx hb dX4_casingsOf_46 (by decide) (fun c68 => ?_) (fun c68 => ?_)
                · have hok := hok.1 c68
                  have hv9 := ht.symm.trans (show _ = i65 by simp only [f_X4_casingsOf_L40, if_pos c68, hw7])
                  subst hv9
                  exact KJ40 H locs ls hP hS (lv_sub hl [0, 1, 2, 3, 4] rfl)
                · have hok := hok.2 c68
                  refine lv_aload_n hx hb dX4_casingsOf_49 rfl (lv_at hl 0 rfl) ?_
                  refine lv_iload_n hx hb dX4_casingsOf_50 rfl (lv_at hl 3 rfl) ?_
                  refine lv_iload hx hb dX4_casingsOf_51 (lv_at hl 4 rfl) ?_
                  refine lv_iconst (v := 0) hx hb dX4_casingsOf_53 (by decide) ?_
                  obtain ⟨hk69, hok⟩ := hok
                  refine kR_i (runM fx (As := [.int i45, .int i65, .int (0 : Int32)]) (rest := []) (c_X4_bound l D q H.size km u6 i45 i65 (0 : Int32) N hk69) lk_X4_174 ⟨Nat.le_of_ble_eq_true rfl, Nat.le_of_ble_eq_true rfl⟩ ⟨rfl, rfl⟩ hP (hD _) rfl hl.1 rfl (Nat.le_of_ble_eq_true rfl) dX4_casingsOf_54 ⟨Nat.zero_le _, Nat.zero_le _⟩) hP hS (fun r70 _ H locs hr71 hP hS => ?_)
                  subst hr71
                  refine lv_aload_n hx hb dX4_casingsOf_57 rfl (lv_at hl 0 rfl) ?_
                  refine lv_iload_n hx hb dX4_casingsOf_58 rfl (lv_at hl 3 rfl) ?_
                  refine lv_iload hx hb dX4_casingsOf_59 (lv_at hl 4 rfl) ?_
                  refine lv_iconst (v := 1) hx hb dX4_casingsOf_61 (by decide) ?_
                  obtain ⟨hk72, hok⟩ := hok
                  refine kR_i (runM fx (As := [.int i45, .int i65, .int (1 : Int32)]) (rest := [.int (f_X4_bound N u6 i45 i65 (0 : Int32))]) (c_X4_bound l D q H.size km u6 i45 i65 (1 : Int32) N hk72) lk_X4_174 ⟨Nat.le_of_ble_eq_true rfl, Nat.le_of_ble_eq_true rfl⟩ ⟨rfl, rfl⟩ hP (hD _) rfl hl.1 rfl (Nat.le_of_ble_eq_true rfl) dX4_casingsOf_62 ⟨Nat.zero_le _, Nat.zero_le _⟩) hP hS (fun r73 _ H locs hr74 hP hS => ?_)
                  subst hr74
                  refine lv_icmp_gt (tgt := 74) hx hb dX4_casingsOf_65 (by decide) (fun c75 => ?_) (fun c75 => ?_)
                  · have hok := hok.1 c75
                    have hv9 := ht.symm.trans (show _ = i65 by simp only [f_X4_casingsOf_L40, if_neg c68, if_pos c75, hw7])
                    subst hv9
                    exact KJ40 H locs ls hP hS (lv_sub hl [0, 1, 2, 3, 4] rfl)
                  · have hok := hok.2 c75
                    refine lv_iinc (v := i65 + (1 : Int32)) (lv' := [(4, .int (i65 + (1 : Int32))), (0, .ref (km 0)), (1, .int p0), (2, .int i46), (3, .int i45)]) hx hb dX4_casingsOf_68 hl (k := 4) rfl rfl (by decide) rfl (fun ls hl => ?_)
                    refine lv_goto (tgt := 40) hx hb dX4_casingsOf_71 (by decide) ?_
                    exact ih40 (i65 + (1 : Int32)) H locs ls hok ((show f_X4_casingsOf_L40 N g p0 i45 (n + 1) i65 = _ by simp only [f_X4_casingsOf_L40, if_neg c68, if_neg c75, hw7]).symm.trans ht) hP hS (lv_sub hl [1, 2, 3, 4, 0] rfl)
            exact LP40 N i45 H locs ls hokL hz40 hP hS (lv_sub hl [1, 2, 3, 4, 0] rfl)
          intro H locs ls hP hS hl
          subst hz40
          refine lv_iload hx hb dX4_casingsOf_74 (lv_at hl 4 rfl) ?_
          refine lv_iload_n hx hb dX4_casingsOf_76 rfl (lv_at hl 3 rfl) ?_
          refine lv_icmp_ne (tgt := 82) hx hb dX4_casingsOf_77 (by decide) (fun c76 => ?_) (fun c76 => ?_)
          · have hok := hok.2 c76
            refine lv_iload hx hb dX4_casingsOf_82 (lv_at hl 4 rfl) ?_
            refine lv_istore_n (lv' := [(3, .int (f_X4_casingsOf_L40 N g p0 i45 N i45)), (0, .ref (km 0)), (1, .int p0), (2, .int i46), (4, .int (f_X4_casingsOf_L40 N g p0 i45 N i45))]) hx hb dX4_casingsOf_84 rfl hl (by decide) rfl (fun ls hl => ?_)
            refine lv_iinc (v := i46 + (1 : Int32)) (lv' := [(2, .int (i46 + (1 : Int32))), (3, .int (f_X4_casingsOf_L40 N g p0 i45 N i45)), (0, .ref (km 0)), (1, .int p0), (4, .int (f_X4_casingsOf_L40 N g p0 i45 N i45))]) hx hb dX4_casingsOf_85 hl (k := 3) rfl rfl (by decide) rfl (fun ls hl => ?_)
            refine lv_goto (tgt := 29) hx hb dX4_casingsOf_88 (by decide) ?_
            exact ih29 (f_X4_casingsOf_L40 N g p0 i45 N i45) (i46 + (1 : Int32)) H locs ls hok (ht.trans (by first | (simp only [f_X4_casingsOf_L29, if_neg c49, if_neg c76, hw7]; done) | (simp only [f_X4_casingsOf_L29, hw7]; simp only [if_neg c49, if_neg c76]))) hP hS (lv_sub hl [2, 3, 0, 1] rfl)
          · have hok := hok.1 c76
            refine lv_iconst (v := -1) hx hb dX4_casingsOf_80 (by decide) ?_
            exact hret (-1 : Int32) u6 _ _ _ _ dX4_casingsOf_81 (ht.trans (by first | (simp only [f_X4_casingsOf_L29, if_neg c49, if_pos c76, hw7]; done) | (simp only [f_X4_casingsOf_L29, hw7]; simp only [if_neg c49, if_pos c76]))) hP hS
    exact LP29 N (0 : Int32) (0 : Int32) H locs ls hok (ht.trans (by first | (simp only [f_X4_casingsOf, if_neg c10, hw7]; done) | (simp only [f_X4_casingsOf, hw7]; simp only [if_neg c10]))) hP hS (lv_sub hl [2, 3, 1, 0] rfl)
  · have hok := hok.1 c10
    refine lv_iconst (v := 0) hx hb dX4_casingsOf_23 (by decide) ?_
    exact hret (0 : Int32) u6 _ _ _ _ dX4_casingsOf_24 (ht.trans (by first | (simp only [f_X4_casingsOf, if_pos c10, hw7]; done) | (simp only [f_X4_casingsOf, hw7]; simp only [if_pos c10]))) hP hS

/-! X4_casings -/
def f_X4_casings (N : Nat) (g : MS) (p0 : Int32) : Int32 × MS :=
  ((f_X4_casingsOf N g p0).1, ((f_X4_casingsOf N g p0).2))

def ok_X4_casings (N : Nat) (g : MS) (p0 : Int32) : Prop :=
  (ok_X4_casingsOf N g p0) ∧ True

abbrev RM_X4_casings : Room := { frames := 2, cells := 0, slots := 0, locals := 49 }
set_option maxRecDepth 100000 in
set_option maxHeartbeats 4000000 in
theorem c_X4_casings (l : Launch) (D : va_G) (q : Nat → ClassId) (sz : Nat) (km : Nat → Nat) (g : MS) (p0 : Int32) (N : Nat) (hok : ok_X4_casings N g p0) : Met l yX4_casings (Cond.code yX4_casings cX4_casings 2 (some .int) :: ALL) RM_X4_casings (PC D q [.ref (km 0), .int p0] (cModel km q g) sz) (va_Qi (fun (rv : Int32) (u : MS) => f_X4_casings N g p0 = (rv, u)) (fun u t9 => va_P D vwCl (cModel km q u) t9.heap) (va_A (cModel km q g) sz)) 0 0 (va_A (cModel km q g) sz) := by
  refine en_iW (by decide +kernel) (Nat.le_of_ble_eq_true rfl) ?_
  intro p e s m args below meth c Q A H locs ls fx hD0 hA hP hS hl hret
  have hx := fx.1
  have hb := fx.2.1
  have hl : lv_has ls 2 [(0, .ref (km 0)), (1, .int p0)] := hl
  have hD : ∀ (g9 : MS), va_D _ (cModel km q g9) := fun _ => D_same ((fst_Model _ _ _).trans (fst_Model _ _ _).symm) hD0
  have ht : f_X4_casings N g p0 = f_X4_casings N g p0 := rfl
  simp only [ok_X4_casings] at hok
  refine lv_aload_n hx hb dX4_casings_0 rfl (lv_at hl 0 rfl) ?_
  refine lv_iload_n hx hb dX4_casings_1 rfl (lv_at hl 1 rfl) ?_
  obtain ⟨hk1, hok⟩ := hok
  refine kM_i (runM fx (As := [.int p0]) (rest := []) (c_X4_casingsOf l D q H.size km g p0 N hk1) lk_X4_178 ⟨Nat.le_of_ble_eq_true rfl, Nat.le_of_ble_eq_true rfl⟩ ⟨rfl, rfl⟩ hP (hD _) rfl hl.1 rfl (Nat.le_of_ble_eq_true rfl) dX4_casings_2 ⟨Nat.zero_le _, Nat.zero_le _⟩) hP (hD _) hS hA (fun r4 u2 H locs hw3 hP hS => ?_)
  try simp only [hw3] at hok
  exact hret r4 u2 _ _ _ _ dX4_casings_5 (ht.trans (by simp only [f_X4_casings, hw3])) hP hS

/-! X4_casingsAnew -/
def f_X4_casingsAnew (N : Nat) (g : MS) (p0 : Int32) : Int32 × MS :=
  ((f_X4_casingsOf N g p0).1, ((f_X4_casingsOf N g p0).2))

def ok_X4_casingsAnew (N : Nat) (g : MS) (p0 : Int32) : Prop :=
  (ok_X4_casingsOf N g p0) ∧ True

abbrev RM_X4_casingsAnew : Room := { frames := 2, cells := 0, slots := 0, locals := 49 }
set_option maxRecDepth 100000 in
set_option maxHeartbeats 4000000 in
theorem c_X4_casingsAnew (l : Launch) (D : va_G) (q : Nat → ClassId) (sz : Nat) (km : Nat → Nat) (g : MS) (p0 : Int32) (N : Nat) (hok : ok_X4_casingsAnew N g p0) : Met l yX4_casingsAnew (Cond.code yX4_casingsAnew cX4_casingsAnew 2 (some .int) :: ALL) RM_X4_casingsAnew (PC D q [.ref (km 0), .int p0] (cModel km q g) sz) (va_Qi (fun (rv : Int32) (u : MS) => f_X4_casingsAnew N g p0 = (rv, u)) (fun u t9 => va_P D vwCl (cModel km q u) t9.heap) (va_A (cModel km q g) sz)) 0 0 (va_A (cModel km q g) sz) := by
  refine en_iW (by decide +kernel) (Nat.le_of_ble_eq_true rfl) ?_
  intro p e s m args below meth c Q A H locs ls fx hD0 hA hP hS hl hret
  have hx := fx.1
  have hb := fx.2.1
  have hl : lv_has ls 2 [(0, .ref (km 0)), (1, .int p0)] := hl
  have hD : ∀ (g9 : MS), va_D _ (cModel km q g9) := fun _ => D_same ((fst_Model _ _ _).trans (fst_Model _ _ _).symm) hD0
  have ht : f_X4_casingsAnew N g p0 = f_X4_casingsAnew N g p0 := rfl
  simp only [ok_X4_casingsAnew] at hok
  refine lv_aload_n hx hb dX4_casingsAnew_0 rfl (lv_at hl 0 rfl) ?_
  refine lv_iload_n hx hb dX4_casingsAnew_1 rfl (lv_at hl 1 rfl) ?_
  obtain ⟨hk1, hok⟩ := hok
  refine kM_i (runM fx (As := [.int p0]) (rest := []) (c_X4_casingsOf l D q H.size km g p0 N hk1) lk_X4_178 ⟨Nat.le_of_ble_eq_true rfl, Nat.le_of_ble_eq_true rfl⟩ ⟨rfl, rfl⟩ hP (hD _) rfl hl.1 rfl (Nat.le_of_ble_eq_true rfl) dX4_casingsAnew_2 ⟨Nat.zero_le _, Nat.zero_le _⟩) hP (hD _) hS hA (fun r4 u2 H locs hw3 hP hS => ?_)
  try simp only [hw3] at hok
  exact hret r4 u2 _ _ _ _ dX4_casingsAnew_5 (ht.trans (by simp only [f_X4_casingsAnew, hw3])) hP hS

/-! X4_equivalent -/
def f_X4_equivalent (g : MS) : UInt32 × MS :=
  if (f_X4_goesWell g (if (M_shoe g) ≤ 0 then (1 : Int32) else (0 : Int32))).1 = 0 then (FP.fconst0, ((f_X4_goesWell g (if (M_shoe g) ≤ 0 then (1 : Int32) else (0 : Int32))).2)) else (FP.fdiv (FP.i2f ((10 : Int32) * (f_X4_foot ((f_X4_goesWell g (if (M_shoe g) ≤ 0 then (1 : Int32) else (0 : Int32))).2)))) (FP.i2f (M_shoe ((f_X4_goesWell g (if (M_shoe g) ≤ 0 then (1 : Int32) else (0 : Int32))).2))), ((f_X4_goesWell g (if (M_shoe g) ≤ 0 then (1 : Int32) else (0 : Int32))).2))

def ok_X4_equivalent (g : MS) : Prop :=
  ((f_X4_goesWell g (if (M_shoe g) ≤ 0 then (1 : Int32) else (0 : Int32))).1 = 0 → True) ∧ (¬ (f_X4_goesWell g (if (M_shoe g) ≤ 0 then (1 : Int32) else (0 : Int32))).1 = 0 → ((vf_n32 (FP.fdiv (FP.i2f ((10 : Int32) * (f_X4_foot ((f_X4_goesWell g (if (M_shoe g) ≤ 0 then (1 : Int32) else (0 : Int32))).2)))) (FP.i2f (M_shoe ((f_X4_goesWell g (if (M_shoe g) ≤ 0 then (1 : Int32) else (0 : Int32))).2))))) ∧ True))

abbrev RM_X4_equivalent : Room := { frames := 1, cells := 0, slots := 0, locals := 21 }
set_option maxRecDepth 100000 in
set_option maxHeartbeats 4000000 in
theorem c_X4_equivalent (l : Launch) (D : va_G) (q : Nat → ClassId) (sz : Nat) (km : Nat → Nat) (g : MS) (hok : ok_X4_equivalent g) : Met l yX4_equivalent (Cond.code yX4_equivalent cX4_equivalent 1 (some .float) :: ALL) RM_X4_equivalent (PC D q [.ref (km 0)] (cModel km q g) sz) (va_Qf (fun (rv : UInt32) (u : MS) => f_X4_equivalent g = (rv, u)) (fun u t9 => va_P D vwCl (cModel km q u) t9.heap) (va_A (cModel km q g) sz)) 0 0 (va_A (cModel km q g) sz) := by
  refine en_fW (by decide +kernel) (Nat.le_of_ble_eq_true rfl) ?_
  intro p e s m args below meth c Q A H locs ls fx hD0 hA hP hS hl hret
  have hx := fx.1
  have hb := fx.2.1
  have hl : lv_has ls 1 [(0, .ref (km 0))] := hl
  have hD : ∀ (g9 : MS), va_D _ (cModel km q g9) := fun _ => D_same ((fst_Model _ _ _).trans (fst_Model _ _ _).symm) hD0
  have ht : f_X4_equivalent g = f_X4_equivalent g := rfl
  simp only [ok_X4_equivalent] at hok
  refine lv_aload_n hx hb dX4_equivalent_0 rfl (lv_at hl 0 rfl) ?_
  refine lv_aload_n hx hb dX4_equivalent_1 rfl (lv_at hl 0 rfl) ?_
  refine gf_X4_93 fx hP 0 rfl (v := M_shoe g) rfl dX4_equivalent_2 ?_
  suffices K : ∀ (v2 : Int32), ∀ (H : Heap) (locs : List Loc) (ls : Array Slot), v2 = (if (M_shoe g) ≤ 0 then (1 : Int32) else (0 : Int32)) → va_P D vwCl (cModel km q g) H → va_S A s.heap H locs → lv_has ls 1 [(0, .ref (km 0))] → W p l e RM_X4_equivalent s m args below meth c H locs 0 0 Q (F0 m 13 ls [.int v2, .ref (km 0)]) by
    refine lv_if_le (tgt := 12) hx hb dX4_equivalent_5 (by decide) (fun c1 => ?_) (fun c1 => ?_)
    · refine lv_iconst (v := 1) hx hb dX4_equivalent_12 (by decide) ?_
      exact K (1 : Int32) H locs ls (by simp only [if_pos c1]) hP hS (lv_sub hl [0] rfl)
    · refine lv_iconst (v := 0) hx hb dX4_equivalent_8 (by decide) ?_
      refine lv_goto (tgt := 13) hx hb dX4_equivalent_9 (by decide) ?_
      exact K (0 : Int32) H locs ls (by simp only [if_neg c1]) hP hS (lv_sub hl [0] rfl)
  intro v2 H locs ls hvv2 hP hS hl
  subst hvv2
  refine kM_i (runM fx (As := [.int (if (M_shoe g) ≤ 0 then (1 : Int32) else (0 : Int32))]) (rest := []) (c_X4_goesWell l D q H.size km g (if (M_shoe g) ≤ 0 then (1 : Int32) else (0 : Int32))) lk_X4_66 ⟨Nat.le_of_ble_eq_true rfl, Nat.le_of_ble_eq_true rfl⟩ ⟨rfl, rfl⟩ hP (hD _) rfl hl.1 rfl (Nat.le_of_ble_eq_true rfl) dX4_equivalent_13 ⟨Nat.zero_le _, Nat.zero_le _⟩) hP (hD _) hS hA (fun r5 u3 H locs hw4 hP hS => ?_)
  obtain ⟨hw4, hz6⟩ := hw4
  try simp only [hw4] at hok
  refine lv_if_eq (tgt := 36) hx hb dX4_equivalent_16 (by decide) (fun c7 => ?_) (fun c7 => ?_)
  · have hok := hok.1 c7
    refine lv_fconst0 hx hb dX4_equivalent_36 ?_
    exact hret FP.fconst0 u3 _ _ _ _ dX4_equivalent_37 (ht.trans (by first | (simp only [f_X4_equivalent, if_pos c7, hw4]; done) | (simp only [f_X4_equivalent, hw4]; simp only [if_pos c7]))) hP hS
  · have hok := hok.2 c7
    refine lv_bipush (v := 10) hx hb dX4_equivalent_19 (by decide) ?_
    refine lv_aload_n hx hb dX4_equivalent_21 rfl (lv_at hl 0 rfl) ?_
    refine kR_i (runM fx (As := []) (rest := [.int (10 : Int32)]) (c_X4_foot l D q H.size km u3) lk_X4_144 ⟨Nat.le_of_ble_eq_true rfl, Nat.le_of_ble_eq_true rfl⟩ ⟨rfl, rfl⟩ hP (hD _) rfl hl.1 rfl (Nat.le_of_ble_eq_true rfl) dX4_equivalent_22 ⟨Nat.zero_le _, Nat.zero_le _⟩) hP hS (fun r8 _ H locs hr9 hP hS => ?_)
    subst hr9
    refine lv_imul hx hb dX4_equivalent_25 ?_
    refine lv_i2f hx hb dX4_equivalent_26 ?_
    refine lv_aload_n hx hb dX4_equivalent_27 rfl (lv_at hl 0 rfl) ?_
    refine gf_X4_93 fx hP 0 rfl (v := M_shoe u3) rfl dX4_equivalent_28 ?_
    refine lv_i2f hx hb dX4_equivalent_31 ?_
    obtain ⟨hf10, hok⟩ := hok
    refine lv_fdiv hx hb dX4_equivalent_32 hf10 ?_
    refine lv_goto (tgt := 37) hx hb dX4_equivalent_33 (by decide) ?_
    exact hret (FP.fdiv (FP.i2f ((10 : Int32) * (f_X4_foot u3))) (FP.i2f (M_shoe u3))) u3 _ _ _ _ dX4_equivalent_37 (ht.trans (by first | (simp only [f_X4_equivalent, if_neg c7, hw4]; done) | (simp only [f_X4_equivalent, hw4]; simp only [if_neg c7]))) hP hS

/-! X4_keep -/
def f_X4_keep (g : MS) : MS :=
  M_set_kept (M_set_kept (M_set_kept (M_set_kept (M_set_kept (M_set_kept (M_set_kept (M_set_kept (M_set_kept (M_set_kept (M_set_kept g (vp_updL (M_kept g) (0 : Int32).toNatClampNeg ((M_depth g).toInt64))) (vp_updL (vp_updL (M_kept g) (0 : Int32).toNatClampNeg ((M_depth g).toInt64)) (1 : Int32).toNatClampNeg (if (M_isClosed g) = 0 then (0 : Int64) else (1 : Int64)))) (vp_updL (vp_updL (vp_updL (M_kept g) (0 : Int32).toNatClampNeg ((M_depth g).toInt64)) (1 : Int32).toNatClampNeg (if (M_isClosed g) = 0 then (0 : Int64) else (1 : Int64))) (2 : Int32).toNatClampNeg ((M_choke g).toInt64))) (vp_updL (vp_updL (vp_updL (vp_updL (M_kept g) (0 : Int32).toNatClampNeg ((M_depth g).toInt64)) (1 : Int32).toNatClampNeg (if (M_isClosed g) = 0 then (0 : Int64) else (1 : Int64))) (2 : Int32).toNatClampNeg ((M_choke g).toInt64)) (3 : Int32).toNatClampNeg (M_charge g))) (vp_updL (vp_updL (vp_updL (vp_updL (vp_updL (M_kept g) (0 : Int32).toNatClampNeg ((M_depth g).toInt64)) (1 : Int32).toNatClampNeg (if (M_isClosed g) = 0 then (0 : Int64) else (1 : Int64))) (2 : Int32).toNatClampNeg ((M_choke g).toInt64)) (3 : Int32).toNatClampNeg (M_charge g)) (4 : Int32).toNatClampNeg ((M_place g).toInt64))) (vp_updL (vp_updL (vp_updL (vp_updL (vp_updL (vp_updL (M_kept g) (0 : Int32).toNatClampNeg ((M_depth g).toInt64)) (1 : Int32).toNatClampNeg (if (M_isClosed g) = 0 then (0 : Int64) else (1 : Int64))) (2 : Int32).toNatClampNeg ((M_choke g).toInt64)) (3 : Int32).toNatClampNeg (M_charge g)) (4 : Int32).toNatClampNeg ((M_place g).toInt64)) (5 : Int32).toNatClampNeg ((M_gas g).toInt64))) (vp_updL (vp_updL (vp_updL (vp_updL (vp_updL (vp_updL (vp_updL (M_kept g) (0 : Int32).toNatClampNeg ((M_depth g).toInt64)) (1 : Int32).toNatClampNeg (if (M_isClosed g) = 0 then (0 : Int64) else (1 : Int64))) (2 : Int32).toNatClampNeg ((M_choke g).toInt64)) (3 : Int32).toNatClampNeg (M_charge g)) (4 : Int32).toNatClampNeg ((M_place g).toInt64)) (5 : Int32).toNatClampNeg ((M_gas g).toInt64)) (6 : Int32).toNatClampNeg ((M_liquid g).toInt64))) (vp_updL (vp_updL (vp_updL (vp_updL (vp_updL (vp_updL (vp_updL (vp_updL (M_kept g) (0 : Int32).toNatClampNeg ((M_depth g).toInt64)) (1 : Int32).toNatClampNeg (if (M_isClosed g) = 0 then (0 : Int64) else (1 : Int64))) (2 : Int32).toNatClampNeg ((M_choke g).toInt64)) (3 : Int32).toNatClampNeg (M_charge g)) (4 : Int32).toNatClampNeg ((M_place g).toInt64)) (5 : Int32).toNatClampNeg ((M_gas g).toInt64)) (6 : Int32).toNatClampNeg ((M_liquid g).toInt64)) (7 : Int32).toNatClampNeg ((M_minutes g).toInt64))) (vp_updL (vp_updL (vp_updL (vp_updL (vp_updL (vp_updL (vp_updL (vp_updL (vp_updL (M_kept g) (0 : Int32).toNatClampNeg ((M_depth g).toInt64)) (1 : Int32).toNatClampNeg (if (M_isClosed g) = 0 then (0 : Int64) else (1 : Int64))) (2 : Int32).toNatClampNeg ((M_choke g).toInt64)) (3 : Int32).toNatClampNeg (M_charge g)) (4 : Int32).toNatClampNeg ((M_place g).toInt64)) (5 : Int32).toNatClampNeg ((M_gas g).toInt64)) (6 : Int32).toNatClampNeg ((M_liquid g).toInt64)) (7 : Int32).toNatClampNeg ((M_minutes g).toInt64)) (8 : Int32).toNatClampNeg (M_vented g))) (vp_updL (vp_updL (vp_updL (vp_updL (vp_updL (vp_updL (vp_updL (vp_updL (vp_updL (vp_updL (M_kept g) (0 : Int32).toNatClampNeg ((M_depth g).toInt64)) (1 : Int32).toNatClampNeg (if (M_isClosed g) = 0 then (0 : Int64) else (1 : Int64))) (2 : Int32).toNatClampNeg ((M_choke g).toInt64)) (3 : Int32).toNatClampNeg (M_charge g)) (4 : Int32).toNatClampNeg ((M_place g).toInt64)) (5 : Int32).toNatClampNeg ((M_gas g).toInt64)) (6 : Int32).toNatClampNeg ((M_liquid g).toInt64)) (7 : Int32).toNatClampNeg ((M_minutes g).toInt64)) (8 : Int32).toNatClampNeg (M_vented g)) (9 : Int32).toNatClampNeg (M_lost g))) (vp_updL (vp_updL (vp_updL (vp_updL (vp_updL (vp_updL (vp_updL (vp_updL (vp_updL (vp_updL (vp_updL (M_kept g) (0 : Int32).toNatClampNeg ((M_depth g).toInt64)) (1 : Int32).toNatClampNeg (if (M_isClosed g) = 0 then (0 : Int64) else (1 : Int64))) (2 : Int32).toNatClampNeg ((M_choke g).toInt64)) (3 : Int32).toNatClampNeg (M_charge g)) (4 : Int32).toNatClampNeg ((M_place g).toInt64)) (5 : Int32).toNatClampNeg ((M_gas g).toInt64)) (6 : Int32).toNatClampNeg ((M_liquid g).toInt64)) (7 : Int32).toNatClampNeg ((M_minutes g).toInt64)) (8 : Int32).toNatClampNeg (M_vented g)) (9 : Int32).toNatClampNeg (M_lost g)) (10 : Int32).toNatClampNeg ((M_brokenAfter g).toInt64))

abbrev RM_X4_keep : Room := { frames := 0, cells := 0, slots := 0, locals := 0 }
set_option maxRecDepth 100000 in
set_option maxHeartbeats 4000000 in
theorem c_X4_keep (l : Launch) (D : va_G) (q : Nat → ClassId) (sz : Nat) (km : Nat → Nat) (g : MS) : Met l yX4_keep (Cond.code yX4_keep cX4_keep 1 none :: ALL) RM_X4_keep (PC D q [.ref (km 0)] (cModel km q g) sz) (va_Qv (fun (u : MS) => f_X4_keep g = u) (fun u t9 => va_P D vwCl (cModel km q u) t9.heap) (va_A (cModel km q g) sz)) 0 0 (va_A (cModel km q g) sz) := by
  refine en_vW (by decide +kernel) (Nat.le_of_ble_eq_true rfl) ?_
  intro p e s m args below meth c Q A H locs ls fx hD0 hA hP hS hl hret
  have hx := fx.1
  have hb := fx.2.1
  have hl : lv_has ls 1 [(0, .ref (km 0))] := hl
  have hD : ∀ (g9 : MS), va_D _ (cModel km q g9) := fun _ => D_same ((fst_Model _ _ _).trans (fst_Model _ _ _).symm) hD0
  have ht : f_X4_keep g = f_X4_keep g := rfl
  refine lv_aload_n hx hb dX4_keep_0 rfl (lv_at hl 0 rfl) ?_
  refine gf_X4_33 fx hP 0 rfl dX4_keep_1 ?_
  refine lv_iconst (v := 0) hx hb dX4_keep_4 (by decide) ?_
  refine lv_aload_n hx hb dX4_keep_5 rfl (lv_at hl 0 rfl) ?_
  refine gf_X4_63 fx hP 0 rfl (v := M_depth g) rfl dX4_keep_6 ?_
  refine lv_i2l (v := (M_depth g).toInt64) hx hb dX4_keep_9 rfl ?_
  refine as_kept fx hP (hD _) hS (f := M_kept g) rfl (by unfold vp_in; decide) dX4_keep_10 (fun H locs hP hS => ?_)
  refine lv_aload_n hx hb dX4_keep_11 rfl (lv_at hl 0 rfl) ?_
  refine gf_X4_33 fx hP 0 rfl dX4_keep_12 ?_
  refine lv_iconst (v := 1) hx hb dX4_keep_15 (by decide) ?_
  refine lv_aload_n hx hb dX4_keep_16 rfl (lv_at hl 0 rfl) ?_
  refine gf_X4_70 fx hP 0 rfl (v := M_isClosed g) (M_isClosed_set_kept _ _) dX4_keep_17 ?_
  suffices K : ∀ (v2 : Int64), ∀ (H : Heap) (locs : List Loc) (ls : Array Slot), v2 = (if (M_isClosed g) = 0 then (0 : Int64) else (1 : Int64)) → va_P D vwCl (cModel km q (M_set_kept g (vp_updL (M_kept g) (0 : Int32).toNatClampNeg ((M_depth g).toInt64)))) H → va_S A s.heap H locs → lv_has ls 1 [(0, .ref (km 0))] → W p l e RM_X4_keep s m args below meth c H locs 0 0 Q (F0 m 28 ls [.long v2, .int (1 : Int32), .ref (km 5)]) by
    refine lv_if_eq (tgt := 27) hx hb dX4_keep_20 (by decide) (fun c1 => ?_) (fun c1 => ?_)
    · refine lv_lconst (v := 0) hx hb dX4_keep_27 (by decide) ?_
      exact K (0 : Int64) H locs ls (by simp only [if_pos c1]) hP hS (lv_sub hl [0] rfl)
    · refine lv_lconst (v := 1) hx hb dX4_keep_23 (by decide) ?_
      refine lv_goto (tgt := 28) hx hb dX4_keep_24 (by decide) ?_
      exact K (1 : Int64) H locs ls (by simp only [if_neg c1]) hP hS (lv_sub hl [0] rfl)
  intro v2 H locs ls hvv2 hP hS hl
  subst hvv2
  refine as_kept fx hP (hD _) hS (f := vp_updL (M_kept g) (0 : Int32).toNatClampNeg ((M_depth g).toInt64)) (M_kept_set_kept _ _) (by unfold vp_in; decide) dX4_keep_28 (fun H locs hP hS => ?_)
  refine lv_aload_n hx hb dX4_keep_29 rfl (lv_at hl 0 rfl) ?_
  refine gf_X4_33 fx hP 0 rfl dX4_keep_30 ?_
  refine lv_iconst (v := 2) hx hb dX4_keep_33 (by decide) ?_
  refine lv_aload_n hx hb dX4_keep_34 rfl (lv_at hl 0 rfl) ?_
  refine gf_X4_87 fx hP 0 rfl (v := M_choke g) ((M_choke_set_kept _ _).trans (M_choke_set_kept _ _)) dX4_keep_35 ?_
  refine lv_i2l (v := (M_choke g).toInt64) hx hb dX4_keep_38 rfl ?_
  refine as_kept fx hP (hD _) hS (f := vp_updL (vp_updL (M_kept g) (0 : Int32).toNatClampNeg ((M_depth g).toInt64)) (1 : Int32).toNatClampNeg (if (M_isClosed g) = 0 then (0 : Int64) else (1 : Int64))) (M_kept_set_kept _ _) (by unfold vp_in; decide) dX4_keep_39 (fun H locs hP hS => ?_)
  refine lv_aload_n hx hb dX4_keep_40 rfl (lv_at hl 0 rfl) ?_
  refine gf_X4_33 fx hP 0 rfl dX4_keep_41 ?_
  refine lv_iconst (v := 3) hx hb dX4_keep_44 (by decide) ?_
  refine lv_aload_n hx hb dX4_keep_45 rfl (lv_at hl 0 rfl) ?_
  refine gf_X4_96 fx hP 0 rfl (v := M_charge g) ((M_charge_set_kept _ _).trans ((M_charge_set_kept _ _).trans (M_charge_set_kept _ _))) dX4_keep_46 ?_
  refine as_kept fx hP (hD _) hS (f := vp_updL (vp_updL (vp_updL (M_kept g) (0 : Int32).toNatClampNeg ((M_depth g).toInt64)) (1 : Int32).toNatClampNeg (if (M_isClosed g) = 0 then (0 : Int64) else (1 : Int64))) (2 : Int32).toNatClampNeg ((M_choke g).toInt64)) (M_kept_set_kept _ _) (by unfold vp_in; decide) dX4_keep_49 (fun H locs hP hS => ?_)
  refine lv_aload_n hx hb dX4_keep_50 rfl (lv_at hl 0 rfl) ?_
  refine gf_X4_33 fx hP 0 rfl dX4_keep_51 ?_
  refine lv_iconst (v := 4) hx hb dX4_keep_54 (by decide) ?_
  refine lv_aload_n hx hb dX4_keep_55 rfl (lv_at hl 0 rfl) ?_
  refine gf_X4_90 fx hP 0 rfl (v := M_place g) ((M_place_set_kept _ _).trans ((M_place_set_kept _ _).trans ((M_place_set_kept _ _).trans (M_place_set_kept _ _)))) dX4_keep_56 ?_
  refine lv_i2l (v := (M_place g).toInt64) hx hb dX4_keep_59 rfl ?_
  refine as_kept fx hP (hD _) hS (f := vp_updL (vp_updL (vp_updL (vp_updL (M_kept g) (0 : Int32).toNatClampNeg ((M_depth g).toInt64)) (1 : Int32).toNatClampNeg (if (M_isClosed g) = 0 then (0 : Int64) else (1 : Int64))) (2 : Int32).toNatClampNeg ((M_choke g).toInt64)) (3 : Int32).toNatClampNeg (M_charge g)) (M_kept_set_kept _ _) (by unfold vp_in; decide) dX4_keep_60 (fun H locs hP hS => ?_)
  refine lv_aload_n hx hb dX4_keep_61 rfl (lv_at hl 0 rfl) ?_
  refine gf_X4_33 fx hP 0 rfl dX4_keep_62 ?_
  refine lv_iconst (v := 5) hx hb dX4_keep_65 (by decide) ?_
  refine lv_aload_n hx hb dX4_keep_66 rfl (lv_at hl 0 rfl) ?_
  refine gf_X4_77 fx hP 0 rfl (v := M_gas g) ((M_gas_set_kept _ _).trans ((M_gas_set_kept _ _).trans ((M_gas_set_kept _ _).trans ((M_gas_set_kept _ _).trans (M_gas_set_kept _ _))))) dX4_keep_67 ?_
  refine lv_i2l (v := (M_gas g).toInt64) hx hb dX4_keep_70 rfl ?_
  refine as_kept fx hP (hD _) hS (f := vp_updL (vp_updL (vp_updL (vp_updL (vp_updL (M_kept g) (0 : Int32).toNatClampNeg ((M_depth g).toInt64)) (1 : Int32).toNatClampNeg (if (M_isClosed g) = 0 then (0 : Int64) else (1 : Int64))) (2 : Int32).toNatClampNeg ((M_choke g).toInt64)) (3 : Int32).toNatClampNeg (M_charge g)) (4 : Int32).toNatClampNeg ((M_place g).toInt64)) (M_kept_set_kept _ _) (by unfold vp_in; decide) dX4_keep_71 (fun H locs hP hS => ?_)
  refine lv_aload_n hx hb dX4_keep_72 rfl (lv_at hl 0 rfl) ?_
  refine gf_X4_33 fx hP 0 rfl dX4_keep_73 ?_
  refine lv_bipush (v := 6) hx hb dX4_keep_76 (by decide) ?_
  refine lv_aload_n hx hb dX4_keep_78 rfl (lv_at hl 0 rfl) ?_
  refine gf_X4_80 fx hP 0 rfl (v := M_liquid g) ((M_liquid_set_kept _ _).trans ((M_liquid_set_kept _ _).trans ((M_liquid_set_kept _ _).trans ((M_liquid_set_kept _ _).trans ((M_liquid_set_kept _ _).trans (M_liquid_set_kept _ _)))))) dX4_keep_79 ?_
  refine lv_i2l (v := (M_liquid g).toInt64) hx hb dX4_keep_82 rfl ?_
  refine as_kept fx hP (hD _) hS (f := vp_updL (vp_updL (vp_updL (vp_updL (vp_updL (vp_updL (M_kept g) (0 : Int32).toNatClampNeg ((M_depth g).toInt64)) (1 : Int32).toNatClampNeg (if (M_isClosed g) = 0 then (0 : Int64) else (1 : Int64))) (2 : Int32).toNatClampNeg ((M_choke g).toInt64)) (3 : Int32).toNatClampNeg (M_charge g)) (4 : Int32).toNatClampNeg ((M_place g).toInt64)) (5 : Int32).toNatClampNeg ((M_gas g).toInt64)) (M_kept_set_kept _ _) (by unfold vp_in; decide) dX4_keep_83 (fun H locs hP hS => ?_)
  refine lv_aload_n hx hb dX4_keep_84 rfl (lv_at hl 0 rfl) ?_
  refine gf_X4_33 fx hP 0 rfl dX4_keep_85 ?_
  refine lv_bipush (v := 7) hx hb dX4_keep_88 (by decide) ?_
  refine lv_aload_n hx hb dX4_keep_90 rfl (lv_at hl 0 rfl) ?_
  refine gf_X4_128 fx hP 0 rfl (v := M_minutes g) ((M_minutes_set_kept _ _).trans ((M_minutes_set_kept _ _).trans ((M_minutes_set_kept _ _).trans ((M_minutes_set_kept _ _).trans ((M_minutes_set_kept _ _).trans ((M_minutes_set_kept _ _).trans (M_minutes_set_kept _ _))))))) dX4_keep_91 ?_
  refine lv_i2l (v := (M_minutes g).toInt64) hx hb dX4_keep_94 rfl ?_
  refine as_kept fx hP (hD _) hS (f := vp_updL (vp_updL (vp_updL (vp_updL (vp_updL (vp_updL (vp_updL (M_kept g) (0 : Int32).toNatClampNeg ((M_depth g).toInt64)) (1 : Int32).toNatClampNeg (if (M_isClosed g) = 0 then (0 : Int64) else (1 : Int64))) (2 : Int32).toNatClampNeg ((M_choke g).toInt64)) (3 : Int32).toNatClampNeg (M_charge g)) (4 : Int32).toNatClampNeg ((M_place g).toInt64)) (5 : Int32).toNatClampNeg ((M_gas g).toInt64)) (6 : Int32).toNatClampNeg ((M_liquid g).toInt64)) (M_kept_set_kept _ _) (by unfold vp_in; decide) dX4_keep_95 (fun H locs hP hS => ?_)
  refine lv_aload_n hx hb dX4_keep_96 rfl (lv_at hl 0 rfl) ?_
  refine gf_X4_33 fx hP 0 rfl dX4_keep_97 ?_
  refine lv_bipush (v := 8) hx hb dX4_keep_100 (by decide) ?_
  refine lv_aload_n hx hb dX4_keep_102 rfl (lv_at hl 0 rfl) ?_
  refine gf_X4_103 fx hP 0 rfl (v := M_vented g) ((M_vented_set_kept _ _).trans ((M_vented_set_kept _ _).trans ((M_vented_set_kept _ _).trans ((M_vented_set_kept _ _).trans ((M_vented_set_kept _ _).trans ((M_vented_set_kept _ _).trans ((M_vented_set_kept _ _).trans (M_vented_set_kept _ _)))))))) dX4_keep_103 ?_
  refine as_kept fx hP (hD _) hS (f := vp_updL (vp_updL (vp_updL (vp_updL (vp_updL (vp_updL (vp_updL (vp_updL (M_kept g) (0 : Int32).toNatClampNeg ((M_depth g).toInt64)) (1 : Int32).toNatClampNeg (if (M_isClosed g) = 0 then (0 : Int64) else (1 : Int64))) (2 : Int32).toNatClampNeg ((M_choke g).toInt64)) (3 : Int32).toNatClampNeg (M_charge g)) (4 : Int32).toNatClampNeg ((M_place g).toInt64)) (5 : Int32).toNatClampNeg ((M_gas g).toInt64)) (6 : Int32).toNatClampNeg ((M_liquid g).toInt64)) (7 : Int32).toNatClampNeg ((M_minutes g).toInt64)) (M_kept_set_kept _ _) (by unfold vp_in; decide) dX4_keep_106 (fun H locs hP hS => ?_)
  refine lv_aload_n hx hb dX4_keep_107 rfl (lv_at hl 0 rfl) ?_
  refine gf_X4_33 fx hP 0 rfl dX4_keep_108 ?_
  refine lv_bipush (v := 9) hx hb dX4_keep_111 (by decide) ?_
  refine lv_aload_n hx hb dX4_keep_113 rfl (lv_at hl 0 rfl) ?_
  refine gf_X4_141 fx hP 0 rfl (v := M_lost g) ((M_lost_set_kept _ _).trans ((M_lost_set_kept _ _).trans ((M_lost_set_kept _ _).trans ((M_lost_set_kept _ _).trans ((M_lost_set_kept _ _).trans ((M_lost_set_kept _ _).trans ((M_lost_set_kept _ _).trans ((M_lost_set_kept _ _).trans (M_lost_set_kept _ _))))))))) dX4_keep_114 ?_
  refine as_kept fx hP (hD _) hS (f := vp_updL (vp_updL (vp_updL (vp_updL (vp_updL (vp_updL (vp_updL (vp_updL (vp_updL (M_kept g) (0 : Int32).toNatClampNeg ((M_depth g).toInt64)) (1 : Int32).toNatClampNeg (if (M_isClosed g) = 0 then (0 : Int64) else (1 : Int64))) (2 : Int32).toNatClampNeg ((M_choke g).toInt64)) (3 : Int32).toNatClampNeg (M_charge g)) (4 : Int32).toNatClampNeg ((M_place g).toInt64)) (5 : Int32).toNatClampNeg ((M_gas g).toInt64)) (6 : Int32).toNatClampNeg ((M_liquid g).toInt64)) (7 : Int32).toNatClampNeg ((M_minutes g).toInt64)) (8 : Int32).toNatClampNeg (M_vented g)) (M_kept_set_kept _ _) (by unfold vp_in; decide) dX4_keep_117 (fun H locs hP hS => ?_)
  refine lv_aload_n hx hb dX4_keep_118 rfl (lv_at hl 0 rfl) ?_
  refine gf_X4_33 fx hP 0 rfl dX4_keep_119 ?_
  refine lv_bipush (v := 10) hx hb dX4_keep_122 (by decide) ?_
  refine lv_aload_n hx hb dX4_keep_124 rfl (lv_at hl 0 rfl) ?_
  refine gf_X4_115 fx hP 0 rfl (v := M_brokenAfter g) ((M_brokenAfter_set_kept _ _).trans ((M_brokenAfter_set_kept _ _).trans ((M_brokenAfter_set_kept _ _).trans ((M_brokenAfter_set_kept _ _).trans ((M_brokenAfter_set_kept _ _).trans ((M_brokenAfter_set_kept _ _).trans ((M_brokenAfter_set_kept _ _).trans ((M_brokenAfter_set_kept _ _).trans ((M_brokenAfter_set_kept _ _).trans (M_brokenAfter_set_kept _ _)))))))))) dX4_keep_125 ?_
  refine lv_i2l (v := (M_brokenAfter g).toInt64) hx hb dX4_keep_128 rfl ?_
  refine as_kept fx hP (hD _) hS (f := vp_updL (vp_updL (vp_updL (vp_updL (vp_updL (vp_updL (vp_updL (vp_updL (vp_updL (vp_updL (M_kept g) (0 : Int32).toNatClampNeg ((M_depth g).toInt64)) (1 : Int32).toNatClampNeg (if (M_isClosed g) = 0 then (0 : Int64) else (1 : Int64))) (2 : Int32).toNatClampNeg ((M_choke g).toInt64)) (3 : Int32).toNatClampNeg (M_charge g)) (4 : Int32).toNatClampNeg ((M_place g).toInt64)) (5 : Int32).toNatClampNeg ((M_gas g).toInt64)) (6 : Int32).toNatClampNeg ((M_liquid g).toInt64)) (7 : Int32).toNatClampNeg ((M_minutes g).toInt64)) (8 : Int32).toNatClampNeg (M_vented g)) (9 : Int32).toNatClampNeg (M_lost g)) (M_kept_set_kept _ _) (by unfold vp_in; decide) dX4_keep_129 (fun H locs hP hS => ?_)
  exact hret (M_set_kept (M_set_kept (M_set_kept (M_set_kept (M_set_kept (M_set_kept (M_set_kept (M_set_kept (M_set_kept (M_set_kept (M_set_kept g (vp_updL (M_kept g) (0 : Int32).toNatClampNeg ((M_depth g).toInt64))) (vp_updL (vp_updL (M_kept g) (0 : Int32).toNatClampNeg ((M_depth g).toInt64)) (1 : Int32).toNatClampNeg (if (M_isClosed g) = 0 then (0 : Int64) else (1 : Int64)))) (vp_updL (vp_updL (vp_updL (M_kept g) (0 : Int32).toNatClampNeg ((M_depth g).toInt64)) (1 : Int32).toNatClampNeg (if (M_isClosed g) = 0 then (0 : Int64) else (1 : Int64))) (2 : Int32).toNatClampNeg ((M_choke g).toInt64))) (vp_updL (vp_updL (vp_updL (vp_updL (M_kept g) (0 : Int32).toNatClampNeg ((M_depth g).toInt64)) (1 : Int32).toNatClampNeg (if (M_isClosed g) = 0 then (0 : Int64) else (1 : Int64))) (2 : Int32).toNatClampNeg ((M_choke g).toInt64)) (3 : Int32).toNatClampNeg (M_charge g))) (vp_updL (vp_updL (vp_updL (vp_updL (vp_updL (M_kept g) (0 : Int32).toNatClampNeg ((M_depth g).toInt64)) (1 : Int32).toNatClampNeg (if (M_isClosed g) = 0 then (0 : Int64) else (1 : Int64))) (2 : Int32).toNatClampNeg ((M_choke g).toInt64)) (3 : Int32).toNatClampNeg (M_charge g)) (4 : Int32).toNatClampNeg ((M_place g).toInt64))) (vp_updL (vp_updL (vp_updL (vp_updL (vp_updL (vp_updL (M_kept g) (0 : Int32).toNatClampNeg ((M_depth g).toInt64)) (1 : Int32).toNatClampNeg (if (M_isClosed g) = 0 then (0 : Int64) else (1 : Int64))) (2 : Int32).toNatClampNeg ((M_choke g).toInt64)) (3 : Int32).toNatClampNeg (M_charge g)) (4 : Int32).toNatClampNeg ((M_place g).toInt64)) (5 : Int32).toNatClampNeg ((M_gas g).toInt64))) (vp_updL (vp_updL (vp_updL (vp_updL (vp_updL (vp_updL (vp_updL (M_kept g) (0 : Int32).toNatClampNeg ((M_depth g).toInt64)) (1 : Int32).toNatClampNeg (if (M_isClosed g) = 0 then (0 : Int64) else (1 : Int64))) (2 : Int32).toNatClampNeg ((M_choke g).toInt64)) (3 : Int32).toNatClampNeg (M_charge g)) (4 : Int32).toNatClampNeg ((M_place g).toInt64)) (5 : Int32).toNatClampNeg ((M_gas g).toInt64)) (6 : Int32).toNatClampNeg ((M_liquid g).toInt64))) (vp_updL (vp_updL (vp_updL (vp_updL (vp_updL (vp_updL (vp_updL (vp_updL (M_kept g) (0 : Int32).toNatClampNeg ((M_depth g).toInt64)) (1 : Int32).toNatClampNeg (if (M_isClosed g) = 0 then (0 : Int64) else (1 : Int64))) (2 : Int32).toNatClampNeg ((M_choke g).toInt64)) (3 : Int32).toNatClampNeg (M_charge g)) (4 : Int32).toNatClampNeg ((M_place g).toInt64)) (5 : Int32).toNatClampNeg ((M_gas g).toInt64)) (6 : Int32).toNatClampNeg ((M_liquid g).toInt64)) (7 : Int32).toNatClampNeg ((M_minutes g).toInt64))) (vp_updL (vp_updL (vp_updL (vp_updL (vp_updL (vp_updL (vp_updL (vp_updL (vp_updL (M_kept g) (0 : Int32).toNatClampNeg ((M_depth g).toInt64)) (1 : Int32).toNatClampNeg (if (M_isClosed g) = 0 then (0 : Int64) else (1 : Int64))) (2 : Int32).toNatClampNeg ((M_choke g).toInt64)) (3 : Int32).toNatClampNeg (M_charge g)) (4 : Int32).toNatClampNeg ((M_place g).toInt64)) (5 : Int32).toNatClampNeg ((M_gas g).toInt64)) (6 : Int32).toNatClampNeg ((M_liquid g).toInt64)) (7 : Int32).toNatClampNeg ((M_minutes g).toInt64)) (8 : Int32).toNatClampNeg (M_vented g))) (vp_updL (vp_updL (vp_updL (vp_updL (vp_updL (vp_updL (vp_updL (vp_updL (vp_updL (vp_updL (M_kept g) (0 : Int32).toNatClampNeg ((M_depth g).toInt64)) (1 : Int32).toNatClampNeg (if (M_isClosed g) = 0 then (0 : Int64) else (1 : Int64))) (2 : Int32).toNatClampNeg ((M_choke g).toInt64)) (3 : Int32).toNatClampNeg (M_charge g)) (4 : Int32).toNatClampNeg ((M_place g).toInt64)) (5 : Int32).toNatClampNeg ((M_gas g).toInt64)) (6 : Int32).toNatClampNeg ((M_liquid g).toInt64)) (7 : Int32).toNatClampNeg ((M_minutes g).toInt64)) (8 : Int32).toNatClampNeg (M_vented g)) (9 : Int32).toNatClampNeg (M_lost g))) (vp_updL (vp_updL (vp_updL (vp_updL (vp_updL (vp_updL (vp_updL (vp_updL (vp_updL (vp_updL (vp_updL (M_kept g) (0 : Int32).toNatClampNeg ((M_depth g).toInt64)) (1 : Int32).toNatClampNeg (if (M_isClosed g) = 0 then (0 : Int64) else (1 : Int64))) (2 : Int32).toNatClampNeg ((M_choke g).toInt64)) (3 : Int32).toNatClampNeg (M_charge g)) (4 : Int32).toNatClampNeg ((M_place g).toInt64)) (5 : Int32).toNatClampNeg ((M_gas g).toInt64)) (6 : Int32).toNatClampNeg ((M_liquid g).toInt64)) (7 : Int32).toNatClampNeg ((M_minutes g).toInt64)) (8 : Int32).toNatClampNeg (M_vented g)) (9 : Int32).toNatClampNeg (M_lost g)) (10 : Int32).toNatClampNeg ((M_brokenAfter g).toInt64))) _ _ _ _ dX4_keep_130 (ht.trans (by simp only [f_X4_keep])) hP hS

/-! X4_comeBack -/
def f_X4_comeBack (g : MS) : MS :=
  M_set_brokenAfter (M_set_lost (M_set_vented (M_set_minutes (M_set_liquid (M_set_gas (M_set_place (M_set_charge (M_set_choke (M_set_isClosed (M_set_depth g (((M_kept g) (0 : Int32).toNatClampNeg).toInt32)) (if (lg_cmp ((M_kept g) (1 : Int32).toNatClampNeg) (1 : Int64)) = 0 then (1 : Int32) else (0 : Int32))) (((M_kept g) (2 : Int32).toNatClampNeg).toInt32)) ((M_kept g) (3 : Int32).toNatClampNeg)) (((M_kept g) (4 : Int32).toNatClampNeg).toInt32)) (((M_kept g) (5 : Int32).toNatClampNeg).toInt32)) (((M_kept g) (6 : Int32).toNatClampNeg).toInt32)) (((M_kept g) (7 : Int32).toNatClampNeg).toInt32)) ((M_kept g) (8 : Int32).toNatClampNeg)) ((M_kept g) (9 : Int32).toNatClampNeg)) (((M_kept g) (10 : Int32).toNatClampNeg).toInt32)

abbrev RM_X4_comeBack : Room := { frames := 0, cells := 0, slots := 0, locals := 0 }
set_option maxRecDepth 100000 in
set_option maxHeartbeats 4000000 in
theorem c_X4_comeBack (l : Launch) (D : va_G) (q : Nat → ClassId) (sz : Nat) (km : Nat → Nat) (g : MS) : Met l yX4_comeBack (Cond.code yX4_comeBack cX4_comeBack 1 none :: ALL) RM_X4_comeBack (PC D q [.ref (km 0)] (cModel km q g) sz) (va_Qv (fun (u : MS) => f_X4_comeBack g = u) (fun u t9 => va_P D vwCl (cModel km q u) t9.heap) (va_A (cModel km q g) sz)) 0 0 (va_A (cModel km q g) sz) := by
  refine en_vW (by decide +kernel) (Nat.le_of_ble_eq_true rfl) ?_
  intro p e s m args below meth c Q A H locs ls fx hD0 hA hP hS hl hret
  have hx := fx.1
  have hb := fx.2.1
  have hl : lv_has ls 1 [(0, .ref (km 0))] := hl
  have hD : ∀ (g9 : MS), va_D _ (cModel km q g9) := fun _ => D_same ((fst_Model _ _ _).trans (fst_Model _ _ _).symm) hD0
  have ht : f_X4_comeBack g = f_X4_comeBack g := rfl
  refine lv_aload_n hx hb dX4_comeBack_0 rfl (lv_at hl 0 rfl) ?_
  refine lv_aload_n hx hb dX4_comeBack_1 rfl (lv_at hl 0 rfl) ?_
  refine gf_X4_33 fx hP 0 rfl dX4_comeBack_2 ?_
  refine lv_iconst (v := 0) hx hb dX4_comeBack_5 (by decide) ?_
  refine al_kept fx hP (f := M_kept g) rfl (by unfold vp_in; decide) dX4_comeBack_6 ?_
  refine lv_l2i (v := ((M_kept g) (0 : Int32).toNatClampNeg).toInt32) hx hb dX4_comeBack_7 rfl ?_
  refine pf_X4_63_M fx hP (hD _) hS dX4_comeBack_8 (fun H locs hP hS => ?_)
  refine lv_aload_n hx hb dX4_comeBack_11 rfl (lv_at hl 0 rfl) ?_
  refine lv_aload_n hx hb dX4_comeBack_12 rfl (lv_at hl 0 rfl) ?_
  refine gf_X4_33 fx hP 0 rfl dX4_comeBack_13 ?_
  refine lv_iconst (v := 1) hx hb dX4_comeBack_16 (by decide) ?_
  refine al_kept fx hP (f := M_kept g) (M_kept_set_depth _ _) (by unfold vp_in; decide) dX4_comeBack_17 ?_
  refine lv_lconst (v := 1) hx hb dX4_comeBack_18 (by decide) ?_
  refine W.lcmp hx hb dX4_comeBack_19 ?_
  suffices K : ∀ (v2 : Int32), ∀ (H : Heap) (locs : List Loc) (ls : Array Slot), v2 = (if (lg_cmp ((M_kept g) (1 : Int32).toNatClampNeg) (1 : Int64)) = 0 then (1 : Int32) else (0 : Int32)) → va_P D vwCl (cModel km q (M_set_depth g (((M_kept g) (0 : Int32).toNatClampNeg).toInt32))) H → va_S A s.heap H locs → lv_has ls 1 [(0, .ref (km 0))] → W p l e RM_X4_comeBack s m args below meth c H locs 0 0 Q (F0 m 28 ls [.int v2, .ref (km 0)]) by
    refine lv_if_ne (tgt := 27) hx hb dX4_comeBack_20 (by decide) (fun c1 => ?_) (fun c1 => ?_)
    · refine lv_iconst (v := 0) hx hb dX4_comeBack_27 (by decide) ?_
      exact K (0 : Int32) H locs ls (by simp only [if_neg c1]) hP hS (lv_sub hl [0] rfl)
    · refine lv_iconst (v := 1) hx hb dX4_comeBack_23 (by decide) ?_
      refine lv_goto (tgt := 28) hx hb dX4_comeBack_24 (by decide) ?_
      exact K (1 : Int32) H locs ls (by simp only [if_pos c1]) hP hS (lv_sub hl [0] rfl)
  intro v2 H locs ls hvv2 hP hS hl
  subst hvv2
  refine pf_X4_70_M fx hP (hD _) hS (hz := (bz_ite bz1 bz0)) dX4_comeBack_28 (fun H locs hP hS => ?_)
  refine lv_aload_n hx hb dX4_comeBack_31 rfl (lv_at hl 0 rfl) ?_
  refine lv_aload_n hx hb dX4_comeBack_32 rfl (lv_at hl 0 rfl) ?_
  refine gf_X4_33 fx hP 0 rfl dX4_comeBack_33 ?_
  refine lv_iconst (v := 2) hx hb dX4_comeBack_36 (by decide) ?_
  refine al_kept fx hP (f := M_kept g) ((M_kept_set_isClosed _ _).trans (M_kept_set_depth _ _)) (by unfold vp_in; decide) dX4_comeBack_37 ?_
  refine lv_l2i (v := ((M_kept g) (2 : Int32).toNatClampNeg).toInt32) hx hb dX4_comeBack_38 rfl ?_
  refine pf_X4_87_M fx hP (hD _) hS dX4_comeBack_39 (fun H locs hP hS => ?_)
  refine lv_aload_n hx hb dX4_comeBack_42 rfl (lv_at hl 0 rfl) ?_
  refine lv_aload_n hx hb dX4_comeBack_43 rfl (lv_at hl 0 rfl) ?_
  refine gf_X4_33 fx hP 0 rfl dX4_comeBack_44 ?_
  refine lv_iconst (v := 3) hx hb dX4_comeBack_47 (by decide) ?_
  refine al_kept fx hP (f := M_kept g) ((M_kept_set_choke _ _).trans ((M_kept_set_isClosed _ _).trans (M_kept_set_depth _ _))) (by unfold vp_in; decide) dX4_comeBack_48 ?_
  refine pf_X4_96_M fx hP (hD _) hS dX4_comeBack_49 (fun H locs hP hS => ?_)
  refine lv_aload_n hx hb dX4_comeBack_52 rfl (lv_at hl 0 rfl) ?_
  refine lv_aload_n hx hb dX4_comeBack_53 rfl (lv_at hl 0 rfl) ?_
  refine gf_X4_33 fx hP 0 rfl dX4_comeBack_54 ?_
  refine lv_iconst (v := 4) hx hb dX4_comeBack_57 (by decide) ?_
  refine al_kept fx hP (f := M_kept g) ((M_kept_set_charge _ _).trans ((M_kept_set_choke _ _).trans ((M_kept_set_isClosed _ _).trans (M_kept_set_depth _ _)))) (by unfold vp_in; decide) dX4_comeBack_58 ?_
  refine lv_l2i (v := ((M_kept g) (4 : Int32).toNatClampNeg).toInt32) hx hb dX4_comeBack_59 rfl ?_
  refine pf_X4_90_M fx hP (hD _) hS dX4_comeBack_60 (fun H locs hP hS => ?_)
  refine lv_aload_n hx hb dX4_comeBack_63 rfl (lv_at hl 0 rfl) ?_
  refine lv_aload_n hx hb dX4_comeBack_64 rfl (lv_at hl 0 rfl) ?_
  refine gf_X4_33 fx hP 0 rfl dX4_comeBack_65 ?_
  refine lv_iconst (v := 5) hx hb dX4_comeBack_68 (by decide) ?_
  refine al_kept fx hP (f := M_kept g) ((M_kept_set_place _ _).trans ((M_kept_set_charge _ _).trans ((M_kept_set_choke _ _).trans ((M_kept_set_isClosed _ _).trans (M_kept_set_depth _ _))))) (by unfold vp_in; decide) dX4_comeBack_69 ?_
  refine lv_l2i (v := ((M_kept g) (5 : Int32).toNatClampNeg).toInt32) hx hb dX4_comeBack_70 rfl ?_
  refine pf_X4_77_M fx hP (hD _) hS dX4_comeBack_71 (fun H locs hP hS => ?_)
  refine lv_aload_n hx hb dX4_comeBack_74 rfl (lv_at hl 0 rfl) ?_
  refine lv_aload_n hx hb dX4_comeBack_75 rfl (lv_at hl 0 rfl) ?_
  refine gf_X4_33 fx hP 0 rfl dX4_comeBack_76 ?_
  refine lv_bipush (v := 6) hx hb dX4_comeBack_79 (by decide) ?_
  refine al_kept fx hP (f := M_kept g) ((M_kept_set_gas _ _).trans ((M_kept_set_place _ _).trans ((M_kept_set_charge _ _).trans ((M_kept_set_choke _ _).trans ((M_kept_set_isClosed _ _).trans (M_kept_set_depth _ _)))))) (by unfold vp_in; decide) dX4_comeBack_81 ?_
  refine lv_l2i (v := ((M_kept g) (6 : Int32).toNatClampNeg).toInt32) hx hb dX4_comeBack_82 rfl ?_
  refine pf_X4_80_M fx hP (hD _) hS dX4_comeBack_83 (fun H locs hP hS => ?_)
  refine lv_aload_n hx hb dX4_comeBack_86 rfl (lv_at hl 0 rfl) ?_
  refine lv_aload_n hx hb dX4_comeBack_87 rfl (lv_at hl 0 rfl) ?_
  refine gf_X4_33 fx hP 0 rfl dX4_comeBack_88 ?_
  refine lv_bipush (v := 7) hx hb dX4_comeBack_91 (by decide) ?_
  refine al_kept fx hP (f := M_kept g) ((M_kept_set_liquid _ _).trans ((M_kept_set_gas _ _).trans ((M_kept_set_place _ _).trans ((M_kept_set_charge _ _).trans ((M_kept_set_choke _ _).trans ((M_kept_set_isClosed _ _).trans (M_kept_set_depth _ _))))))) (by unfold vp_in; decide) dX4_comeBack_93 ?_
  refine lv_l2i (v := ((M_kept g) (7 : Int32).toNatClampNeg).toInt32) hx hb dX4_comeBack_94 rfl ?_
  refine pf_X4_128_M fx hP (hD _) hS dX4_comeBack_95 (fun H locs hP hS => ?_)
  refine lv_aload_n hx hb dX4_comeBack_98 rfl (lv_at hl 0 rfl) ?_
  refine lv_aload_n hx hb dX4_comeBack_99 rfl (lv_at hl 0 rfl) ?_
  refine gf_X4_33 fx hP 0 rfl dX4_comeBack_100 ?_
  refine lv_bipush (v := 8) hx hb dX4_comeBack_103 (by decide) ?_
  refine al_kept fx hP (f := M_kept g) ((M_kept_set_minutes _ _).trans ((M_kept_set_liquid _ _).trans ((M_kept_set_gas _ _).trans ((M_kept_set_place _ _).trans ((M_kept_set_charge _ _).trans ((M_kept_set_choke _ _).trans ((M_kept_set_isClosed _ _).trans (M_kept_set_depth _ _)))))))) (by unfold vp_in; decide) dX4_comeBack_105 ?_
  refine pf_X4_103_M fx hP (hD _) hS dX4_comeBack_106 (fun H locs hP hS => ?_)
  refine lv_aload_n hx hb dX4_comeBack_109 rfl (lv_at hl 0 rfl) ?_
  refine lv_aload_n hx hb dX4_comeBack_110 rfl (lv_at hl 0 rfl) ?_
  refine gf_X4_33 fx hP 0 rfl dX4_comeBack_111 ?_
  refine lv_bipush (v := 9) hx hb dX4_comeBack_114 (by decide) ?_
  refine al_kept fx hP (f := M_kept g) ((M_kept_set_vented _ _).trans ((M_kept_set_minutes _ _).trans ((M_kept_set_liquid _ _).trans ((M_kept_set_gas _ _).trans ((M_kept_set_place _ _).trans ((M_kept_set_charge _ _).trans ((M_kept_set_choke _ _).trans ((M_kept_set_isClosed _ _).trans (M_kept_set_depth _ _))))))))) (by unfold vp_in; decide) dX4_comeBack_116 ?_
  refine pf_X4_141_M fx hP (hD _) hS dX4_comeBack_117 (fun H locs hP hS => ?_)
  refine lv_aload_n hx hb dX4_comeBack_120 rfl (lv_at hl 0 rfl) ?_
  refine lv_aload_n hx hb dX4_comeBack_121 rfl (lv_at hl 0 rfl) ?_
  refine gf_X4_33 fx hP 0 rfl dX4_comeBack_122 ?_
  refine lv_bipush (v := 10) hx hb dX4_comeBack_125 (by decide) ?_
  refine al_kept fx hP (f := M_kept g) ((M_kept_set_lost _ _).trans ((M_kept_set_vented _ _).trans ((M_kept_set_minutes _ _).trans ((M_kept_set_liquid _ _).trans ((M_kept_set_gas _ _).trans ((M_kept_set_place _ _).trans ((M_kept_set_charge _ _).trans ((M_kept_set_choke _ _).trans ((M_kept_set_isClosed _ _).trans (M_kept_set_depth _ _)))))))))) (by unfold vp_in; decide) dX4_comeBack_127 ?_
  refine lv_l2i (v := ((M_kept g) (10 : Int32).toNatClampNeg).toInt32) hx hb dX4_comeBack_128 rfl ?_
  refine pf_X4_115_M fx hP (hD _) hS dX4_comeBack_129 (fun H locs hP hS => ?_)
  exact hret (M_set_brokenAfter (M_set_lost (M_set_vented (M_set_minutes (M_set_liquid (M_set_gas (M_set_place (M_set_charge (M_set_choke (M_set_isClosed (M_set_depth g (((M_kept g) (0 : Int32).toNatClampNeg).toInt32)) (if (lg_cmp ((M_kept g) (1 : Int32).toNatClampNeg) (1 : Int64)) = 0 then (1 : Int32) else (0 : Int32))) (((M_kept g) (2 : Int32).toNatClampNeg).toInt32)) ((M_kept g) (3 : Int32).toNatClampNeg)) (((M_kept g) (4 : Int32).toNatClampNeg).toInt32)) (((M_kept g) (5 : Int32).toNatClampNeg).toInt32)) (((M_kept g) (6 : Int32).toNatClampNeg).toInt32)) (((M_kept g) (7 : Int32).toNatClampNeg).toInt32)) ((M_kept g) (8 : Int32).toNatClampNeg)) ((M_kept g) (9 : Int32).toNatClampNeg)) (((M_kept g) (10 : Int32).toNatClampNeg).toInt32)) _ _ _ _ dX4_comeBack_132 (ht.trans (by simp only [f_X4_comeBack])) hP hS

/-! X4_ahead -/
def f_X4_ahead_L31 (p0 : Int32) : Nat → Int32 → MS → MS
  | 0, _, g21 => g21
  | n + 1, i20, g21 => if p0 ≤ i20 then g21 else (f_X4_ahead_L31 p0 n (i20 + (1 : Int32)) (f_X4_passOne g21 (0 : Int32)))

def ok_X4_ahead_L31 (p0 : Int32) : Nat → Int32 → MS → Prop
  | 0, _, _ => False
  | n + 1, i20, g21 => (p0 ≤ i20 → True) ∧ (¬ p0 ≤ i20 → ((ok_X4_passOne g21 (0 : Int32)) ∧ (ok_X4_ahead_L31 p0 n (i20 + (1 : Int32)) (f_X4_passOne g21 (0 : Int32)))))

def f_X4_ahead (N : Nat) (g : MS) (p0 : Int32) : Int32 × MS :=
  if (f_X4_goesWell g (if (f_X4_in p0 (1 : Int32) (2000 : Int32)) = 0 then (1 : Int32) else (0 : Int32))).1 = 0 then ((0 : Int32), ((f_X4_goesWell g (if (f_X4_in p0 (1 : Int32) (2000 : Int32)) = 0 then (1 : Int32) else (0 : Int32))).2)) else ((M_gas (f_X4_ahead_L31 p0 N (0 : Int32) (f_X4_keep ((f_X4_goesWell g (if (f_X4_in p0 (1 : Int32) (2000 : Int32)) = 0 then (1 : Int32) else (0 : Int32))).2)))) + (M_liquid (f_X4_ahead_L31 p0 N (0 : Int32) (f_X4_keep ((f_X4_goesWell g (if (f_X4_in p0 (1 : Int32) (2000 : Int32)) = 0 then (1 : Int32) else (0 : Int32))).2)))), (f_X4_comeBack (f_X4_ahead_L31 p0 N (0 : Int32) (f_X4_keep ((f_X4_goesWell g (if (f_X4_in p0 (1 : Int32) (2000 : Int32)) = 0 then (1 : Int32) else (0 : Int32))).2)))))

def ok_X4_ahead (N : Nat) (g : MS) (p0 : Int32) : Prop :=
  ((f_X4_goesWell g (if (f_X4_in p0 (1 : Int32) (2000 : Int32)) = 0 then (1 : Int32) else (0 : Int32))).1 = 0 → True) ∧ (¬ (f_X4_goesWell g (if (f_X4_in p0 (1 : Int32) (2000 : Int32)) = 0 then (1 : Int32) else (0 : Int32))).1 = 0 → ((ok_X4_ahead_L31 p0 N (0 : Int32) (f_X4_keep ((f_X4_goesWell g (if (f_X4_in p0 (1 : Int32) (2000 : Int32)) = 0 then (1 : Int32) else (0 : Int32))).2))) ∧ True))

abbrev RM_X4_ahead : Room := { frames := 4, cells := 0, slots := 0, locals := 91 }
set_option maxRecDepth 100000 in
set_option maxHeartbeats 4000000 in
theorem c_X4_ahead (l : Launch) (D : va_G) (q : Nat → ClassId) (sz : Nat) (km : Nat → Nat) (g : MS) (p0 : Int32) (N : Nat) (hok : ok_X4_ahead N g p0) : Met l yX4_ahead (Cond.code yX4_ahead cX4_ahead 3 (some .int) :: ALL) RM_X4_ahead (PC D q [.ref (km 0), .int p0] (cModel km q g) sz) (va_Qi (fun (rv : Int32) (u : MS) => f_X4_ahead N g p0 = (rv, u)) (fun u t9 => va_P D vwCl (cModel km q u) t9.heap) (va_A (cModel km q g) sz)) 0 0 (va_A (cModel km q g) sz) := by
  refine en_iW (by decide +kernel) (Nat.le_of_ble_eq_true rfl) ?_
  intro p e s m args below meth c Q A H locs ls fx hD0 hA hP hS hl hret
  have hx := fx.1
  have hb := fx.2.1
  have hl : lv_has ls 3 [(0, .ref (km 0)), (1, .int p0)] := hl
  have hD : ∀ (g9 : MS), va_D _ (cModel km q g9) := fun _ => D_same ((fst_Model _ _ _).trans (fst_Model _ _ _).symm) hD0
  have ht : f_X4_ahead N g p0 = f_X4_ahead N g p0 := rfl
  simp only [ok_X4_ahead] at hok
  refine lv_aload_n hx hb dX4_ahead_0 rfl (lv_at hl 0 rfl) ?_
  refine lv_iload_n hx hb dX4_ahead_1 rfl (lv_at hl 1 rfl) ?_
  refine lv_iconst (v := 1) hx hb dX4_ahead_2 (by decide) ?_
  refine lv_sipush (v := 2000) hx hb dX4_ahead_3 (by decide) ?_
  refine kR_i (runS fx (As := [.int p0, .int (1 : Int32), .int (2000 : Int32)]) (rest := [.ref (km 0)]) (c_X4_in l D q H.size p0 (1 : Int32) (2000 : Int32)) lk_X4_59 ⟨Nat.le_of_ble_eq_true rfl, Nat.le_of_ble_eq_true rfl⟩ ⟨rfl, rfl⟩ hP (hD _) [] rfl rfl rfl hl.1 rfl (Nat.le_of_ble_eq_true rfl) dX4_ahead_6 ⟨Nat.zero_le _, Nat.zero_le _⟩) hP hS (fun r1 _ H locs hr2 hP hS => ?_)
  obtain ⟨rfl, hz3⟩ := hr2
  suffices K : ∀ (v5 : Int32), ∀ (H : Heap) (locs : List Loc) (ls : Array Slot), v5 = (if (f_X4_in p0 (1 : Int32) (2000 : Int32)) = 0 then (1 : Int32) else (0 : Int32)) → va_P D vwCl (cModel km q g) H → va_S A s.heap H locs → lv_has ls 3 [(0, .ref (km 0)), (1, .int p0)] → W p l e RM_X4_ahead s m args below meth c H locs 0 0 Q (F0 m 17 ls [.int v5, .ref (km 0)]) by
    refine lv_if_eq (tgt := 16) hx hb dX4_ahead_9 (by decide) (fun c4 => ?_) (fun c4 => ?_)
    · refine lv_iconst (v := 1) hx hb dX4_ahead_16 (by decide) ?_
      exact K (1 : Int32) H locs ls (by simp only [if_pos c4]) hP hS (lv_sub hl [0, 1] rfl)
    · refine lv_iconst (v := 0) hx hb dX4_ahead_12 (by decide) ?_
      refine lv_goto (tgt := 17) hx hb dX4_ahead_13 (by decide) ?_
      exact K (0 : Int32) H locs ls (by simp only [if_neg c4]) hP hS (lv_sub hl [0, 1] rfl)
  intro v5 H locs ls hvv5 hP hS hl
  subst hvv5
  refine kM_i (runM fx (As := [.int (if (f_X4_in p0 (1 : Int32) (2000 : Int32)) = 0 then (1 : Int32) else (0 : Int32))]) (rest := []) (c_X4_goesWell l D q H.size km g (if (f_X4_in p0 (1 : Int32) (2000 : Int32)) = 0 then (1 : Int32) else (0 : Int32))) lk_X4_66 ⟨Nat.le_of_ble_eq_true rfl, Nat.le_of_ble_eq_true rfl⟩ ⟨rfl, rfl⟩ hP (hD _) rfl hl.1 rfl (Nat.le_of_ble_eq_true rfl) dX4_ahead_17 ⟨Nat.zero_le _, Nat.zero_le _⟩) hP (hD _) hS hA (fun r8 u6 H locs hw7 hP hS => ?_)
  obtain ⟨hw7, hz9⟩ := hw7
  try simp only [hw7] at hok
  refine lv_if_ne (tgt := 25) hx hb dX4_ahead_20 (by decide) (fun c10 => ?_) (fun c10 => ?_)
  · have hok := hok.2 c10
    refine lv_aload_n hx hb dX4_ahead_25 rfl (lv_at hl 0 rfl) ?_
    refine kM_v (runM fx (As := []) (rest := []) (c_X4_keep l D q H.size km u6) lk_X4_181 ⟨Nat.le_of_ble_eq_true rfl, Nat.le_of_ble_eq_true rfl⟩ ⟨rfl, rfl⟩ hP (hD _) rfl hl.1 rfl (Nat.le_of_ble_eq_true rfl) dX4_ahead_26 ⟨Nat.zero_le _, Nat.zero_le _⟩) hP (hD _) hS hA (fun u11 H locs hw12 hP hS => ?_)
    try simp only [hw12] at hok
    refine lv_iconst (v := 0) hx hb dX4_ahead_29 (by decide) ?_
    refine lv_istore_n (lv' := [(2, .int (0 : Int32)), (0, .ref (km 0)), (1, .int p0)]) hx hb dX4_ahead_30 rfl hl (by decide) rfl (fun ls hl => ?_)
    obtain ⟨hokL, hok⟩ := hok
    obtain ⟨z31, hz31⟩ : ∃ z, f_X4_ahead_L31 p0 N (0 : Int32) u11 = z := ⟨_, rfl⟩
    suffices KJ31 : ∀ (H : Heap) (locs : List Loc) (ls : Array Slot), va_P D vwCl (cModel km q z31) H → va_S A s.heap H locs → lv_has ls 3 [(0, .ref (km 0))] → W p l e RM_X4_ahead s m args below meth c H locs 0 0 Q (F0 m 47 ls []) by
      have LP31 : ∀ (n : Nat) (i20 : Int32) (g21 : MS) (H : Heap) (locs : List Loc) (ls : Array Slot), ok_X4_ahead_L31 p0 n i20 g21 → f_X4_ahead_L31 p0 n i20 g21 = z31 → va_P D vwCl (cModel km q g21) H → va_S A s.heap H locs → lv_has ls 3 [(0, .ref (km 0)), (1, .int p0), (2, .int i20)] → W p l e RM_X4_ahead s m args below meth c H locs 0 0 Q (F0 m 31 ls []) := by
        intro n
        induction n with
        | zero =>
          intro i20 g21 H locs ls hok
          exact (hok : False).elim
        | succ n ih31 =>
          intro i20 g21 H locs ls hok ht hP hS hl
          simp only [ok_X4_ahead_L31] at hok
          try simp only [hw7, hw12] at hok
          refine lv_iload_n hx hb dX4_ahead_31 rfl (lv_at hl 2 rfl) ?_
          refine lv_iload_n hx hb dX4_ahead_32 rfl (lv_at hl 1 rfl) ?_
          refine lv_icmp_ge (tgt := 47) hx hb dX4_ahead_33 (by decide) (fun c22 => ?_) (fun c22 => ?_)
          · have hok := hok.1 c22
            have hv9 := ht.symm.trans (show _ = g21 by simp only [f_X4_ahead_L31, if_pos c22, hw7, hw12])
            subst hv9
            exact KJ31 H locs ls hP hS (lv_sub hl [0] rfl)
          · have hok := hok.2 c22
            refine lv_aload_n hx hb dX4_ahead_36 rfl (lv_at hl 0 rfl) ?_
            refine lv_iconst (v := 0) hx hb dX4_ahead_37 (by decide) ?_
            obtain ⟨hk23, hok⟩ := hok
            refine kM_v (runM fx (As := [.int (0 : Int32)]) (rest := []) (c_X4_passOne l D q H.size km g21 (0 : Int32) hk23) lk_X4_156 ⟨Nat.le_of_ble_eq_true rfl, Nat.le_of_ble_eq_true rfl⟩ ⟨rfl, rfl⟩ hP (hD _) rfl hl.1 rfl (Nat.le_of_ble_eq_true rfl) dX4_ahead_38 ⟨Nat.zero_le _, Nat.zero_le _⟩) hP (hD _) hS hA (fun u24 H locs hw25 hP hS => ?_)
            try simp only [hw25] at hok
            refine lv_iinc (v := i20 + (1 : Int32)) (lv' := [(2, .int (i20 + (1 : Int32))), (0, .ref (km 0)), (1, .int p0)]) hx hb dX4_ahead_41 hl (k := 2) rfl rfl (by decide) rfl (fun ls hl => ?_)
            refine lv_goto (tgt := 31) hx hb dX4_ahead_44 (by decide) ?_
            exact ih31 (i20 + (1 : Int32)) u24 H locs ls hok ((show f_X4_ahead_L31 p0 (n + 1) i20 g21 = _ by simp only [f_X4_ahead_L31, if_neg c22, hw7, hw12, hw25]).symm.trans ht) hP hS (lv_sub hl [1, 2, 0] rfl)
      exact LP31 N (0 : Int32) u11 H locs ls hokL hz31 hP hS (lv_sub hl [1, 2, 0] rfl)
    intro H locs ls hP hS hl
    subst hz31
    refine lv_aload_n hx hb dX4_ahead_47 rfl (lv_at hl 0 rfl) ?_
    refine gf_X4_77 fx hP 0 rfl (v := M_gas (f_X4_ahead_L31 p0 N (0 : Int32) u11)) rfl dX4_ahead_48 ?_
    refine lv_aload_n hx hb dX4_ahead_51 rfl (lv_at hl 0 rfl) ?_
    refine gf_X4_80 fx hP 0 rfl (v := M_liquid (f_X4_ahead_L31 p0 N (0 : Int32) u11)) rfl dX4_ahead_52 ?_
    refine lv_iadd hx hb dX4_ahead_55 ?_
    refine lv_istore_n (lv' := [(2, .int ((M_gas (f_X4_ahead_L31 p0 N (0 : Int32) u11)) + (M_liquid (f_X4_ahead_L31 p0 N (0 : Int32) u11)))), (0, .ref (km 0))]) hx hb dX4_ahead_56 rfl hl (by decide) rfl (fun ls hl => ?_)
    refine lv_aload_n hx hb dX4_ahead_57 rfl (lv_at hl 1 rfl) ?_
    refine kM_v (runM fx (As := []) (rest := []) (c_X4_comeBack l D q H.size km (f_X4_ahead_L31 p0 N (0 : Int32) u11)) lk_X4_184 ⟨Nat.le_of_ble_eq_true rfl, Nat.le_of_ble_eq_true rfl⟩ ⟨rfl, rfl⟩ hP (hD _) rfl hl.1 rfl (Nat.le_of_ble_eq_true rfl) dX4_ahead_58 ⟨Nat.zero_le _, Nat.zero_le _⟩) hP (hD _) hS hA (fun u26 H locs hw27 hP hS => ?_)
    try simp only [hw27] at hok
    refine lv_iload_n hx hb dX4_ahead_61 rfl (lv_at hl 0 rfl) ?_
    exact hret ((M_gas (f_X4_ahead_L31 p0 N (0 : Int32) u11)) + (M_liquid (f_X4_ahead_L31 p0 N (0 : Int32) u11))) u26 _ _ _ _ dX4_ahead_62 (ht.trans (by first | (simp only [f_X4_ahead, if_neg c10, hw7, hw12, hw27]; done) | (simp only [f_X4_ahead, hw7, hw12, hw27]; simp only [if_neg c10]))) hP hS
  · have hok := hok.1 c10
    refine lv_iconst (v := 0) hx hb dX4_ahead_23 (by decide) ?_
    exact hret (0 : Int32) u6 _ _ _ _ dX4_ahead_24 (ht.trans (by first | (simp only [f_X4_ahead, if_pos c10, hw7]; done) | (simp only [f_X4_ahead, hw7]; simp only [if_pos c10]))) hP hS

