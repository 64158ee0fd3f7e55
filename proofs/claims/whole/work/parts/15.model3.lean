/-! X4_latest -/
def f_X4_latest_L5 (g : MS) (p0 : Int32) : Nat → Int32 → Int32 → Int32
  | 0, _, i9 => i9
  | n + 1, i8, i9 => if (M_tests g) ≤ i8 then i9 else (if ((M_tested g) i8.toNatClampNeg) = p0 then (f_X4_latest_L5 g p0 n (i8 + (1 : Int32)) i8) else (f_X4_latest_L5 g p0 n (i8 + (1 : Int32)) i9))

def ok_X4_latest_L5 (g : MS) (p0 : Int32) : Nat → Int32 → Int32 → Prop
  | 0, _, _ => False
  | n + 1, i8, i9 => ((M_tests g) ≤ i8 → True) ∧ (¬ (M_tests g) ≤ i8 → ((vp_in i8 60) ∧ ((((M_tested g) i8.toNatClampNeg) = p0 → (ok_X4_latest_L5 g p0 n (i8 + (1 : Int32)) i8)) ∧ (¬ ((M_tested g) i8.toNatClampNeg) = p0 → (ok_X4_latest_L5 g p0 n (i8 + (1 : Int32)) i9)))))

def f_X4_latest (N : Nat) (g : MS) (p0 : Int32) (p1 : Int32) : Int32 :=
  f_X4_latest_L5 g p0 N p1 (-1 : Int32)

def ok_X4_latest (N : Nat) (g : MS) (p0 : Int32) (p1 : Int32) : Prop :=
  (ok_X4_latest_L5 g p0 N p1 (-1 : Int32)) ∧ True

abbrev RM_X4_latest : Room := { frames := 0, cells := 0, slots := 0, locals := 0 }
set_option maxRecDepth 100000 in
set_option maxHeartbeats 4000000 in
theorem c_X4_latest (l : Launch) (D : va_G) (q : Nat → ClassId) (sz : Nat) (km : Nat → Nat) (g : MS) (p0 : Int32) (p1 : Int32) (N : Nat) (hok : ok_X4_latest N g p0 p1) : Met l yX4_latest (Cond.code yX4_latest cX4_latest 5 (some .int) :: ALL) RM_X4_latest (PC D q [.ref (km 0), .int p0, .int p1] (cModel km q g) sz) (va_Qi (fun (rv : Int32) (_ : Unit) => f_X4_latest N g p0 p1 = rv) (fun _ _ => True) (fun _ => False)) 0 0 (fun _ => False) := by
  refine en_iR (by decide +kernel) (Nat.le_of_ble_eq_true rfl) ?_
  intro p e s m args below meth c Q A H locs ls fx hD0 hP hS hl hret
  have hx := fx.1
  have hb := fx.2.1
  have hl : lv_has ls 5 [(0, .ref (km 0)), (1, .int p0), (2, .int p1)] := hl
  have hD : ∀ (g9 : MS), va_D _ (cModel km q g9) := fun _ => D_same ((fst_Model _ _ _).trans (fst_Model _ _ _).symm) hD0
  have ht : f_X4_latest N g p0 p1 = f_X4_latest N g p0 p1 := rfl
  simp only [ok_X4_latest] at hok
  refine lv_iconst (v := -1) hx hb dX4_latest_0 (by decide) ?_
  refine lv_istore_n (lv' := [(3, .int (-1 : Int32)), (0, .ref (km 0)), (1, .int p0), (2, .int p1)]) hx hb dX4_latest_1 rfl hl (by decide) rfl (fun ls hl => ?_)
  refine lv_iload_n hx hb dX4_latest_2 rfl (lv_at hl 3 rfl) ?_
  refine lv_istore (lv' := [(4, .int p1), (3, .int (-1 : Int32)), (0, .ref (km 0)), (1, .int p0), (2, .int p1)]) hx hb dX4_latest_3 hl (by decide) rfl (fun ls hl => ?_)
  obtain ⟨hokL, hok⟩ := hok
  obtain ⟨z5, hz5⟩ : ∃ z, f_X4_latest_L5 g p0 N p1 (-1 : Int32) = z := ⟨_, rfl⟩
  suffices KJ5 : ∀ (H : Heap) (locs : List Loc) (ls : Array Slot), va_P D vwCl (cModel km q g) H → va_S A s.heap H locs → lv_has ls 5 [(0, .ref (km 0)), (3, .int z5)] → W p l e RM_X4_latest s m args below meth c H locs 0 0 Q (F0 m 38 ls []) by
    have LP5 : ∀ (n : Nat) (i8 : Int32) (i9 : Int32) (H : Heap) (locs : List Loc) (ls : Array Slot), ok_X4_latest_L5 g p0 n i8 i9 → f_X4_latest_L5 g p0 n i8 i9 = z5 → va_P D vwCl (cModel km q g) H → va_S A s.heap H locs → lv_has ls 5 [(0, .ref (km 0)), (1, .int p0), (3, .int i9), (4, .int i8)] → W p l e RM_X4_latest s m args below meth c H locs 0 0 Q (F0 m 5 ls []) := by
      intro n
      induction n with
      | zero =>
        intro i8 i9 H locs ls hok
        exact (hok : False).elim
      | succ n ih5 =>
        intro i8 i9 H locs ls hok ht hP hS hl
        simp only [ok_X4_latest_L5] at hok
        refine lv_iload hx hb dX4_latest_5 (lv_at hl 3 rfl) ?_
        refine lv_aload_n hx hb dX4_latest_7 rfl (lv_at hl 0 rfl) ?_
        refine gf_X4_112 fx hP 0 rfl (v := M_tests g) rfl dX4_latest_8 ?_
        refine lv_icmp_ge (tgt := 38) hx hb dX4_latest_11 (by decide) (fun c10 => ?_) (fun c10 => ?_)
        · have hok := hok.1 c10
          have hv9 := ht.symm.trans (show _ = i9 by simp only [f_X4_latest_L5, if_pos c10])
          subst hv9
          exact KJ5 H locs ls hP hS (lv_sub hl [0, 2] rfl)
        · have hok := hok.2 c10
          refine lv_aload_n hx hb dX4_latest_14 rfl (lv_at hl 0 rfl) ?_
          refine gf_X4_37 fx hP 0 rfl dX4_latest_15 ?_
          refine lv_iload hx hb dX4_latest_18 (lv_at hl 3 rfl) ?_
          obtain ⟨hi11, hok⟩ := hok
          refine al_tested fx hP (f := M_tested g) rfl hi11 dX4_latest_20 ?_
          refine lv_iload_n hx hb dX4_latest_21 rfl (lv_at hl 1 rfl) ?_
          refine lv_icmp_ne (tgt := 30) hx hb dX4_latest_22 (by decide) (fun c12 => ?_) (fun c12 => ?_)
          · have hok := hok.2 c12
            refine lv_iload_n hx hb dX4_latest_30 rfl (lv_at hl 2 rfl) ?_
            refine lv_istore_n (lv' := [(3, .int i9), (0, .ref (km 0)), (1, .int p0), (4, .int i8)]) hx hb dX4_latest_31 rfl hl (by decide) rfl (fun ls hl => ?_)
            refine lv_iinc (v := i8 + (1 : Int32)) (lv' := [(4, .int (i8 + (1 : Int32))), (3, .int i9), (0, .ref (km 0)), (1, .int p0)]) hx hb dX4_latest_32 hl (k := 3) rfl rfl (by decide) rfl (fun ls hl => ?_)
            refine lv_goto (tgt := 5) hx hb dX4_latest_35 (by decide) ?_
            exact ih5 (i8 + (1 : Int32)) i9 H locs ls hok ((show f_X4_latest_L5 g p0 (n + 1) i8 i9 = _ by simp only [f_X4_latest_L5, if_neg c10, if_neg c12]).symm.trans ht) hP hS (lv_sub hl [2, 3, 1, 0] rfl)
          · have hok := hok.1 c12
            refine lv_iload hx hb dX4_latest_25 (lv_at hl 3 rfl) ?_
            refine lv_goto (tgt := 31) hx hb dX4_latest_27 (by decide) ?_
            refine lv_istore_n (lv' := [(3, .int i8), (0, .ref (km 0)), (1, .int p0), (4, .int i8)]) hx hb dX4_latest_31 rfl hl (by decide) rfl (fun ls hl => ?_)
            refine lv_iinc (v := i8 + (1 : Int32)) (lv' := [(4, .int (i8 + (1 : Int32))), (3, .int i8), (0, .ref (km 0)), (1, .int p0)]) hx hb dX4_latest_32 hl (k := 3) rfl rfl (by decide) rfl (fun ls hl => ?_)
            refine lv_goto (tgt := 5) hx hb dX4_latest_35 (by decide) ?_
            exact ih5 (i8 + (1 : Int32)) i8 H locs ls hok ((show f_X4_latest_L5 g p0 (n + 1) i8 i9 = _ by simp only [f_X4_latest_L5, if_neg c10, if_pos c12]).symm.trans ht) hP hS (lv_sub hl [2, 3, 1, 0] rfl)
    exact LP5 N p1 (-1 : Int32) H locs ls hokL hz5 hP hS (lv_sub hl [2, 3, 1, 0] rfl)
  intro H locs ls hP hS hl
  subst hz5
  refine lv_iload_n hx hb dX4_latest_38 rfl (lv_at hl 1 rfl) ?_
  exact hret (f_X4_latest_L5 g p0 N p1 (-1 : Int32)) _ _ _ _ dX4_latest_39 (ht.trans (by simp only [f_X4_latest])) hS

/-! X4_barriersNow -/
def f_X4_barriersNow_b123 (j18 : Int32) (j33 : Int32) (j46 : Int32) : Int32 :=
  if j46 = 0 then (((if j18 = 0 then (0 : Int32) else (1 : Int32)) + (if j33 = 0 then (0 : Int32) else (2 : Int32))) + (0 : Int32)) else (((if j18 = 0 then (0 : Int32) else (1 : Int32)) + (if j33 = 0 then (0 : Int32) else (2 : Int32))) + (4 : Int32))

def f_X4_barriersNow_b122 (j18 : Int32) (j33 : Int32) : Int32 :=
  f_X4_barriersNow_b123 j18 j33 (0 : Int32)

def f_X4_barriersNow_b83 (N : Nat) (g : MS) (j18 : Int32) (j33 : Int32) : Int32 :=
  if (M_shoe g) ≤ 0 then (f_X4_barriersNow_b122 j18 j33) else (if (f_X4_latest N g (1 : Int32) (M_casedAfter g)) = (-1 : Int32) then (f_X4_barriersNow_b122 j18 j33) else (if ((M_isPassed g) (f_X4_latest N g (1 : Int32) (M_casedAfter g)).toNatClampNeg) = 0 then (f_X4_barriersNow_b122 j18 j33) else (f_X4_barriersNow_b123 j18 j33 (1 : Int32))))

def ok_X4_barriersNow_b83 (N : Nat) (g : MS) (j18 : Int32) (j33 : Int32) : Prop :=
  (ok_X4_latest N g (1 : Int32) (M_casedAfter g)) ∧ (((M_shoe g) ≤ 0 → True) ∧ (¬ (M_shoe g) ≤ 0 → (((f_X4_latest N g (1 : Int32) (M_casedAfter g)) = (-1 : Int32) → True) ∧ (¬ (f_X4_latest N g (1 : Int32) (M_casedAfter g)) = (-1 : Int32) → ((vp_in (f_X4_latest N g (1 : Int32) (M_casedAfter g)) 60) ∧ True)))))

def f_X4_barriersNow_b82 (N : Nat) (g : MS) (j18 : Int32) : Int32 :=
  f_X4_barriersNow_b83 N g j18 (0 : Int32)

def ok_X4_barriersNow_b82 (N : Nat) (g : MS) (j18 : Int32) : Prop :=
  ok_X4_barriersNow_b83 N g j18 (0 : Int32)

def f_X4_barriersNow_b36 (N : Nat) (g : MS) (j18 : Int32) : Int32 :=
  if (f_X4_latest N g (0 : Int32) (M_brokenAfter g)) = (-1 : Int32) then (f_X4_barriersNow_b82 N g j18) else (if ((M_isPassed g) (f_X4_latest N g (0 : Int32) (M_brokenAfter g)).toNatClampNeg) = 0 then (f_X4_barriersNow_b82 N g j18) else (if (20160 : Int32) < ((M_minutes g) - ((M_testedAt g) (f_X4_latest N g (0 : Int32) (M_brokenAfter g)).toNatClampNeg)) then (f_X4_barriersNow_b82 N g j18) else (f_X4_barriersNow_b83 N g j18 (1 : Int32))))

def ok_X4_barriersNow_b36 (N : Nat) (g : MS) (j18 : Int32) : Prop :=
  (ok_X4_latest N g (0 : Int32) (M_brokenAfter g)) ∧ (((f_X4_latest N g (0 : Int32) (M_brokenAfter g)) = (-1 : Int32) → (ok_X4_barriersNow_b82 N g j18)) ∧ (¬ (f_X4_latest N g (0 : Int32) (M_brokenAfter g)) = (-1 : Int32) → ((vp_in (f_X4_latest N g (0 : Int32) (M_brokenAfter g)) 60) ∧ ((((M_isPassed g) (f_X4_latest N g (0 : Int32) (M_brokenAfter g)).toNatClampNeg) = 0 → (ok_X4_barriersNow_b82 N g j18)) ∧ (¬ ((M_isPassed g) (f_X4_latest N g (0 : Int32) (M_brokenAfter g)).toNatClampNeg) = 0 → ((vp_in (f_X4_latest N g (0 : Int32) (M_brokenAfter g)) 60) ∧ (((20160 : Int32) < ((M_minutes g) - ((M_testedAt g) (f_X4_latest N g (0 : Int32) (M_brokenAfter g)).toNatClampNeg)) → (ok_X4_barriersNow_b82 N g j18)) ∧ (¬ (20160 : Int32) < ((M_minutes g) - ((M_testedAt g) (f_X4_latest N g (0 : Int32) (M_brokenAfter g)).toNatClampNeg)) → (ok_X4_barriersNow_b83 N g j18 (1 : Int32))))))))))

def f_X4_barriersNow_b35 (N : Nat) (g : MS) : Int32 :=
  f_X4_barriersNow_b36 N g (0 : Int32)

def ok_X4_barriersNow_b35 (N : Nat) (g : MS) : Prop :=
  ok_X4_barriersNow_b36 N g (0 : Int32)

def f_X4_barriersNow (N : Nat) (g : MS) : Int32 :=
  if (lg_cmp (M_charge g) (0 : Int64)) = 0 then (if (M_liquid g) = 0 then (if (f_X4_bottom g) < (f_X4_poreAt g (M_depth g)) then (f_X4_barriersNow_b35 N g) else (f_X4_barriersNow_b36 N g (1 : Int32))) else (f_X4_barriersNow_b35 N g)) else (f_X4_barriersNow_b35 N g)

def ok_X4_barriersNow (N : Nat) (g : MS) : Prop :=
  ((lg_cmp (M_charge g) (0 : Int64)) = 0 → (((M_liquid g) = 0 → ((ok_X4_poreAt (M_depth g)) ∧ (((f_X4_bottom g) < (f_X4_poreAt g (M_depth g)) → (ok_X4_barriersNow_b35 N g)) ∧ (¬ (f_X4_bottom g) < (f_X4_poreAt g (M_depth g)) → (ok_X4_barriersNow_b36 N g (1 : Int32)))))) ∧ (¬ (M_liquid g) = 0 → (ok_X4_barriersNow_b35 N g)))) ∧ (¬ (lg_cmp (M_charge g) (0 : Int64)) = 0 → (ok_X4_barriersNow_b35 N g))

abbrev RM_X4_barriersNow : Room := { frames := 2, cells := 0, slots := 0, locals := 41 }
set_option maxRecDepth 100000 in
set_option maxHeartbeats 4000000 in
theorem c_X4_barriersNow (l : Launch) (D : va_G) (q : Nat → ClassId) (sz : Nat) (km : Nat → Nat) (g : MS) (N : Nat) (hok : ok_X4_barriersNow N g) : Met l yX4_barriersNow (Cond.code yX4_barriersNow cX4_barriersNow 6 (some .int) :: ALL) RM_X4_barriersNow (PC D q [.ref (km 0)] (cModel km q g) sz) (va_Qi (fun (rv : Int32) (_ : Unit) => f_X4_barriersNow N g = rv) (fun _ _ => True) (fun _ => False)) 0 0 (fun _ => False) := by
  refine en_iR (by decide +kernel) (Nat.le_of_ble_eq_true rfl) ?_
  intro p e s m args below meth c Q A H locs ls fx hD0 hP hS hl hret
  have hx := fx.1
  have hb := fx.2.1
  have hl : lv_has ls 6 [(0, .ref (km 0))] := hl
  have hD : ∀ (g9 : MS), va_D _ (cModel km q g9) := fun _ => D_same ((fst_Model _ _ _).trans (fst_Model _ _ _).symm) hD0
  have ht : f_X4_barriersNow N g = f_X4_barriersNow N g := rfl
  simp only [ok_X4_barriersNow] at hok
  refine lv_aload_n hx hb dX4_barriersNow_0 rfl (lv_at hl 0 rfl) ?_
  refine gf_X4_96 fx hP 0 rfl (v := M_charge g) rfl dX4_barriersNow_1 ?_
  refine lv_lconst (v := 0) hx hb dX4_barriersNow_4 (by decide) ?_
  refine W.lcmp hx hb dX4_barriersNow_5 ?_
  have K36 : ∀ (j18 : Int32) (H : Heap) (locs : List Loc) (ls : Array Slot), ok_X4_barriersNow_b36 N g j18 → f_X4_barriersNow N g = f_X4_barriersNow_b36 N g j18 → va_P D vwCl (cModel km q g) H → va_S A s.heap H locs → lv_has ls 6 [(0, .ref (km 0))] → W p l e RM_X4_barriersNow s m args below meth c H locs 0 0 Q (F0 m 36 ls [.int j18]) := by
    intro j18 H locs ls hok ht hP hS hl
    simp only [ok_X4_barriersNow_b36] at hok
    refine lv_istore_n (lv' := [(1, .int j18), (0, .ref (km 0))]) hx hb dX4_barriersNow_36 rfl hl (by decide) rfl (fun ls hl => ?_)
    refine lv_aload_n hx hb dX4_barriersNow_37 rfl (lv_at hl 1 rfl) ?_
    refine lv_iconst (v := 0) hx hb dX4_barriersNow_38 (by decide) ?_
    refine lv_aload_n hx hb dX4_barriersNow_39 rfl (lv_at hl 1 rfl) ?_
    refine gf_X4_115 fx hP 0 rfl (v := M_brokenAfter g) rfl dX4_barriersNow_40 ?_
    obtain ⟨hk19, hok⟩ := hok
    refine kR_i (runM fx (As := [.int (0 : Int32), .int (M_brokenAfter g)]) (rest := []) (c_X4_latest l D q H.size km g (0 : Int32) (M_brokenAfter g) N hk19) lk_X4_165 ⟨Nat.le_of_ble_eq_true rfl, Nat.le_of_ble_eq_true rfl⟩ ⟨rfl, rfl⟩ hP (hD _) rfl hl.1 rfl (Nat.le_of_ble_eq_true rfl) dX4_barriersNow_43 ⟨Nat.zero_le _, Nat.zero_le _⟩) hP hS (fun r20 _ H locs hr21 hP hS => ?_)
    subst hr21
    refine lv_istore_n (lv' := [(2, .int (f_X4_latest N g (0 : Int32) (M_brokenAfter g))), (1, .int j18), (0, .ref (km 0))]) hx hb dX4_barriersNow_46 rfl hl (by decide) rfl (fun ls hl => ?_)
    refine lv_iload_n hx hb dX4_barriersNow_47 rfl (lv_at hl 0 rfl) ?_
    refine lv_iconst (v := -1) hx hb dX4_barriersNow_48 (by decide) ?_
    have K83 : ∀ (j33 : Int32) (H : Heap) (locs : List Loc) (ls : Array Slot), ok_X4_barriersNow_b83 N g j18 j33 → f_X4_barriersNow N g = f_X4_barriersNow_b83 N g j18 j33 → va_P D vwCl (cModel km q g) H → va_S A s.heap H locs → lv_has ls 6 [(0, .ref (km 0)), (1, .int j18)] → W p l e RM_X4_barriersNow s m args below meth c H locs 0 0 Q (F0 m 83 ls [.int j33]) := by
      intro j33 H locs ls hok ht hP hS hl
      simp only [ok_X4_barriersNow_b83] at hok
      refine lv_istore_n (lv' := [(3, .int j33), (0, .ref (km 0)), (1, .int j18)]) hx hb dX4_barriersNow_83 rfl hl (by decide) rfl (fun ls hl => ?_)
      refine lv_aload_n hx hb dX4_barriersNow_84 rfl (lv_at hl 1 rfl) ?_
      refine lv_iconst (v := 1) hx hb dX4_barriersNow_85 (by decide) ?_
      refine lv_aload_n hx hb dX4_barriersNow_86 rfl (lv_at hl 1 rfl) ?_
      refine gf_X4_162 fx hP 0 rfl (v := M_casedAfter g) rfl dX4_barriersNow_87 ?_
      obtain ⟨hk34, hok⟩ := hok
      refine kR_i (runM fx (As := [.int (1 : Int32), .int (M_casedAfter g)]) (rest := []) (c_X4_latest l D q H.size km g (1 : Int32) (M_casedAfter g) N hk34) lk_X4_165 ⟨Nat.le_of_ble_eq_true rfl, Nat.le_of_ble_eq_true rfl⟩ ⟨rfl, rfl⟩ hP (hD _) rfl hl.1 rfl (Nat.le_of_ble_eq_true rfl) dX4_barriersNow_90 ⟨Nat.zero_le _, Nat.zero_le _⟩) hP hS (fun r35 _ H locs hr36 hP hS => ?_)
      subst hr36
      refine lv_istore (lv' := [(4, .int (f_X4_latest N g (1 : Int32) (M_casedAfter g))), (3, .int j33), (0, .ref (km 0)), (1, .int j18)]) hx hb dX4_barriersNow_93 hl (by decide) rfl (fun ls hl => ?_)
      refine lv_aload_n hx hb dX4_barriersNow_95 rfl (lv_at hl 2 rfl) ?_
      refine gf_X4_93 fx hP 0 rfl (v := M_shoe g) rfl dX4_barriersNow_96 ?_
      have K123 : ∀ (j46 : Int32) (H : Heap) (locs : List Loc) (ls : Array Slot), f_X4_barriersNow N g = f_X4_barriersNow_b123 j18 j33 j46 → va_P D vwCl (cModel km q g) H → va_S A s.heap H locs → lv_has ls 6 [(0, .ref (km 0)), (1, .int j18), (3, .int j33)] → W p l e RM_X4_barriersNow s m args below meth c H locs 0 0 Q (F0 m 123 ls [.int j46]) := by
        intro j46 H locs ls ht hP hS hl
        refine lv_istore (lv' := [(5, .int j46), (0, .ref (km 0)), (1, .int j18), (3, .int j33)]) hx hb dX4_barriersNow_123 hl (by decide) rfl (fun ls hl => ?_)
        refine lv_iload_n hx hb dX4_barriersNow_125 rfl (lv_at hl 2 rfl) ?_
        suffices K : ∀ (v48 : Int32), ∀ (H : Heap) (locs : List Loc) (ls : Array Slot), v48 = (if j18 = 0 then (0 : Int32) else (1 : Int32)) → va_P D vwCl (cModel km q g) H → va_S A s.heap H locs → lv_has ls 6 [(0, .ref (km 0)), (3, .int j33), (5, .int j46)] → W p l e RM_X4_barriersNow s m args below meth c H locs 0 0 Q (F0 m 134 ls [.int v48]) by
          refine lv_if_eq (tgt := 133) hx hb dX4_barriersNow_126 (by decide) (fun c47 => ?_) (fun c47 => ?_)
          · refine lv_iconst (v := 0) hx hb dX4_barriersNow_133 (by decide) ?_
            exact K (0 : Int32) H locs ls (by simp only [if_pos c47]) hP hS (lv_sub hl [1, 3, 0] rfl)
          · refine lv_iconst (v := 1) hx hb dX4_barriersNow_129 (by decide) ?_
            refine lv_goto (tgt := 134) hx hb dX4_barriersNow_130 (by decide) ?_
            exact K (1 : Int32) H locs ls (by simp only [if_neg c47]) hP hS (lv_sub hl [1, 3, 0] rfl)
        intro v48 H locs ls hvv48 hP hS hl
        subst hvv48
        refine lv_iload_n hx hb dX4_barriersNow_134 rfl (lv_at hl 1 rfl) ?_
        suffices K : ∀ (v50 : Int32), ∀ (H : Heap) (locs : List Loc) (ls : Array Slot), v50 = (if j33 = 0 then (0 : Int32) else (2 : Int32)) → va_P D vwCl (cModel km q g) H → va_S A s.heap H locs → lv_has ls 6 [(0, .ref (km 0)), (5, .int j46)] → W p l e RM_X4_barriersNow s m args below meth c H locs 0 0 Q (F0 m 143 ls [.int v50, .int (if j18 = 0 then (0 : Int32) else (1 : Int32))]) by
          refine lv_if_eq (tgt := 142) hx hb dX4_barriersNow_135 (by decide) (fun c49 => ?_) (fun c49 => ?_)
          · refine lv_iconst (v := 0) hx hb dX4_barriersNow_142 (by decide) ?_
            exact K (0 : Int32) H locs ls (by simp only [if_pos c49]) hP hS (lv_sub hl [0, 2] rfl)
          · refine lv_iconst (v := 2) hx hb dX4_barriersNow_138 (by decide) ?_
            refine lv_goto (tgt := 143) hx hb dX4_barriersNow_139 (by decide) ?_
            exact K (2 : Int32) H locs ls (by simp only [if_neg c49]) hP hS (lv_sub hl [0, 2] rfl)
        intro v50 H locs ls hvv50 hP hS hl
        subst hvv50
        refine lv_iadd hx hb dX4_barriersNow_143 ?_
        refine lv_iload hx hb dX4_barriersNow_144 (lv_at hl 1 rfl) ?_
        refine lv_if_eq (tgt := 153) hx hb dX4_barriersNow_146 (by decide) (fun c51 => ?_) (fun c51 => ?_)
        · refine lv_iconst (v := 0) hx hb dX4_barriersNow_153 (by decide) ?_
          refine lv_iadd hx hb dX4_barriersNow_154 ?_
          exact hret (((if j18 = 0 then (0 : Int32) else (1 : Int32)) + (if j33 = 0 then (0 : Int32) else (2 : Int32))) + (0 : Int32)) _ _ _ _ dX4_barriersNow_155 (ht.trans (by simp only [f_X4_barriersNow_b123, if_pos c51])) hS
        · refine lv_iconst (v := 4) hx hb dX4_barriersNow_149 (by decide) ?_
          refine lv_goto (tgt := 154) hx hb dX4_barriersNow_150 (by decide) ?_
          refine lv_iadd hx hb dX4_barriersNow_154 ?_
          exact hret (((if j18 = 0 then (0 : Int32) else (1 : Int32)) + (if j33 = 0 then (0 : Int32) else (2 : Int32))) + (4 : Int32)) _ _ _ _ dX4_barriersNow_155 (ht.trans (by simp only [f_X4_barriersNow_b123, if_neg c51])) hS
      have K122 : ∀ (H : Heap) (locs : List Loc) (ls : Array Slot), f_X4_barriersNow N g = f_X4_barriersNow_b122 j18 j33 → va_P D vwCl (cModel km q g) H → va_S A s.heap H locs → lv_has ls 6 [(0, .ref (km 0)), (1, .int j18), (3, .int j33)] → W p l e RM_X4_barriersNow s m args below meth c H locs 0 0 Q (F0 m 122 ls []) := by
        intro H locs ls ht hP hS hl
        refine lv_iconst (v := 0) hx hb dX4_barriersNow_122 (by decide) ?_
        exact K123 (0 : Int32) H locs ls (ht.trans (by simp only [f_X4_barriersNow_b122])) hP hS (lv_sub hl [0, 1, 2] rfl)
      refine lv_if_le (tgt := 122) hx hb dX4_barriersNow_99 (by decide) (fun c42 => ?_) (fun c42 => ?_)
      · have hok := hok.1 c42
        exact K122 H locs ls (ht.trans (by simp only [f_X4_barriersNow_b83, if_pos c42])) hP hS (lv_sub hl [2, 3, 1] rfl)
      · have hok := hok.2 c42
        refine lv_iload hx hb dX4_barriersNow_102 (lv_at hl 0 rfl) ?_
        refine lv_iconst (v := -1) hx hb dX4_barriersNow_104 (by decide) ?_
        refine lv_icmp_eq (tgt := 122) hx hb dX4_barriersNow_105 (by decide) (fun c43 => ?_) (fun c43 => ?_)
        · have hok := hok.1 c43
          exact K122 H locs ls (ht.trans (by simp only [f_X4_barriersNow_b83, if_neg c42, if_pos c43])) hP hS (lv_sub hl [2, 3, 1] rfl)
        · have hok := hok.2 c43
          refine lv_aload_n hx hb dX4_barriersNow_108 rfl (lv_at hl 2 rfl) ?_
          refine gf_X4_43 fx hP 0 rfl dX4_barriersNow_109 ?_
          refine lv_iload hx hb dX4_barriersNow_112 (lv_at hl 0 rfl) ?_
          obtain ⟨hi44, hok⟩ := hok
          refine al_isPassed fx hP (f := M_isPassed g) rfl hi44 dX4_barriersNow_114 ?_
          refine lv_if_eq (tgt := 122) hx hb dX4_barriersNow_115 (by decide) (fun c45 => ?_) (fun c45 => ?_)
          · exact K122 H locs ls (ht.trans (by simp only [f_X4_barriersNow_b83, if_neg c42, if_neg c43, if_pos c45])) hP hS (lv_sub hl [2, 3, 1] rfl)
          · refine lv_iconst (v := 1) hx hb dX4_barriersNow_118 (by decide) ?_
            refine lv_goto (tgt := 123) hx hb dX4_barriersNow_119 (by decide) ?_
            exact K123 (1 : Int32) H locs ls (ht.trans (by simp only [f_X4_barriersNow_b83, if_neg c42, if_neg c43, if_neg c45])) hP hS (lv_sub hl [2, 3, 1] rfl)
    have K82 : ∀ (H : Heap) (locs : List Loc) (ls : Array Slot), ok_X4_barriersNow_b82 N g j18 → f_X4_barriersNow N g = f_X4_barriersNow_b82 N g j18 → va_P D vwCl (cModel km q g) H → va_S A s.heap H locs → lv_has ls 6 [(0, .ref (km 0)), (1, .int j18)] → W p l e RM_X4_barriersNow s m args below meth c H locs 0 0 Q (F0 m 82 ls []) := by
      intro H locs ls hok ht hP hS hl
      simp only [ok_X4_barriersNow_b82] at hok
      refine lv_iconst (v := 0) hx hb dX4_barriersNow_82 (by decide) ?_
      exact K83 (0 : Int32) H locs ls hok (ht.trans (by simp only [f_X4_barriersNow_b82])) hP hS (lv_sub hl [0, 1] rfl)
    refine lv_icmp_eq (tgt := 82) hx hb dX4_barriersNow_49 (by decide) (fun c28 => ?_) (fun c28 => ?_)
    · have hok := hok.1 c28
      exact K82 H locs ls hok (ht.trans (by simp only [f_X4_barriersNow_b36, if_pos c28])) hP hS (lv_sub hl [2, 1] rfl)
    · have hok := hok.2 c28
      refine lv_aload_n hx hb dX4_barriersNow_52 rfl (lv_at hl 2 rfl) ?_
      refine gf_X4_43 fx hP 0 rfl dX4_barriersNow_53 ?_
      refine lv_iload_n hx hb dX4_barriersNow_56 rfl (lv_at hl 0 rfl) ?_
      obtain ⟨hi29, hok⟩ := hok
      refine al_isPassed fx hP (f := M_isPassed g) rfl hi29 dX4_barriersNow_57 ?_
      refine lv_if_eq (tgt := 82) hx hb dX4_barriersNow_58 (by decide) (fun c30 => ?_) (fun c30 => ?_)
      · have hok := hok.1 c30
        exact K82 H locs ls hok (ht.trans (by simp only [f_X4_barriersNow_b36, if_neg c28, if_pos c30])) hP hS (lv_sub hl [2, 1] rfl)
      · have hok := hok.2 c30
        refine lv_aload_n hx hb dX4_barriersNow_61 rfl (lv_at hl 2 rfl) ?_
        refine gf_X4_128 fx hP 0 rfl (v := M_minutes g) rfl dX4_barriersNow_62 ?_
        refine lv_aload_n hx hb dX4_barriersNow_65 rfl (lv_at hl 2 rfl) ?_
        refine gf_X4_46 fx hP 0 rfl dX4_barriersNow_66 ?_
        refine lv_iload_n hx hb dX4_barriersNow_69 rfl (lv_at hl 0 rfl) ?_
        obtain ⟨hi31, hok⟩ := hok
        refine al_testedAt fx hP (f := M_testedAt g) rfl hi31 dX4_barriersNow_70 ?_
        refine lv_isub hx hb dX4_barriersNow_71 ?_
        refine lv_sipush (v := 20160) hx hb dX4_barriersNow_72 (by decide) ?_
        refine lv_icmp_gt (tgt := 82) hx hb dX4_barriersNow_75 (by decide) (fun c32 => ?_) (fun c32 => ?_)
        · have hok := hok.1 c32
          exact K82 H locs ls hok (ht.trans (by simp only [f_X4_barriersNow_b36, if_neg c28, if_neg c30, if_pos c32])) hP hS (lv_sub hl [2, 1] rfl)
        · have hok := hok.2 c32
          refine lv_iconst (v := 1) hx hb dX4_barriersNow_78 (by decide) ?_
          refine lv_goto (tgt := 83) hx hb dX4_barriersNow_79 (by decide) ?_
          exact K83 (1 : Int32) H locs ls hok (ht.trans (by simp only [f_X4_barriersNow_b36, if_neg c28, if_neg c30, if_neg c32])) hP hS (lv_sub hl [2, 1] rfl)
  have K35 : ∀ (H : Heap) (locs : List Loc) (ls : Array Slot), ok_X4_barriersNow_b35 N g → f_X4_barriersNow N g = f_X4_barriersNow_b35 N g → va_P D vwCl (cModel km q g) H → va_S A s.heap H locs → lv_has ls 6 [(0, .ref (km 0))] → W p l e RM_X4_barriersNow s m args below meth c H locs 0 0 Q (F0 m 35 ls []) := by
    intro H locs ls hok ht hP hS hl
    simp only [ok_X4_barriersNow_b35] at hok
    refine lv_iconst (v := 0) hx hb dX4_barriersNow_35 (by decide) ?_
    exact K36 (0 : Int32) H locs ls hok (ht.trans (by simp only [f_X4_barriersNow_b35])) hP hS (lv_sub hl [0] rfl)
  refine lv_if_ne (tgt := 35) hx hb dX4_barriersNow_6 (by decide) (fun c10 => ?_) (fun c10 => ?_)
  · have hok := hok.2 c10
    exact K35 H locs ls hok (ht.trans (by simp only [f_X4_barriersNow, if_neg c10])) hP hS (lv_sub hl [0] rfl)
  · have hok := hok.1 c10
    refine lv_aload_n hx hb dX4_barriersNow_9 rfl (lv_at hl 0 rfl) ?_
    refine gf_X4_80 fx hP 0 rfl (v := M_liquid g) rfl dX4_barriersNow_10 ?_
    refine lv_if_ne (tgt := 35) hx hb dX4_barriersNow_13 (by decide) (fun c11 => ?_) (fun c11 => ?_)
    · have hok := hok.2 c11
      exact K35 H locs ls hok (ht.trans (by simp only [f_X4_barriersNow, if_pos c10, if_neg c11])) hP hS (lv_sub hl [0] rfl)
    · have hok := hok.1 c11
      refine lv_aload_n hx hb dX4_barriersNow_16 rfl (lv_at hl 0 rfl) ?_
      refine kR_i (runM fx (As := []) (rest := []) (c_X4_bottom l D q H.size km g) lk_X4_118 ⟨Nat.le_of_ble_eq_true rfl, Nat.le_of_ble_eq_true rfl⟩ ⟨rfl, rfl⟩ hP (hD _) rfl hl.1 rfl (Nat.le_of_ble_eq_true rfl) dX4_barriersNow_17 ⟨Nat.zero_le _, Nat.zero_le _⟩) hP hS (fun r12 _ H locs hr13 hP hS => ?_)
      subst hr13
      refine lv_aload_n hx hb dX4_barriersNow_20 rfl (lv_at hl 0 rfl) ?_
      refine lv_aload_n hx hb dX4_barriersNow_21 rfl (lv_at hl 0 rfl) ?_
      refine gf_X4_63 fx hP 0 rfl (v := M_depth g) rfl dX4_barriersNow_22 ?_
      obtain ⟨hk14, hok⟩ := hok
      refine kR_i (runM fx (As := [.int (M_depth g)]) (rest := [.int (f_X4_bottom g)]) (c_X4_poreAt l D q H.size km g (M_depth g) hk14) lk_X4_109 ⟨Nat.le_of_ble_eq_true rfl, Nat.le_of_ble_eq_true rfl⟩ ⟨rfl, rfl⟩ hP (hD _) rfl hl.1 rfl (Nat.le_of_ble_eq_true rfl) dX4_barriersNow_25 ⟨Nat.zero_le _, Nat.zero_le _⟩) hP hS (fun r15 _ H locs hr16 hP hS => ?_)
      subst hr16
      refine lv_icmp_lt (tgt := 35) hx hb dX4_barriersNow_28 (by decide) (fun c17 => ?_) (fun c17 => ?_)
      · have hok := hok.1 c17
        exact K35 H locs ls hok (ht.trans (by simp only [f_X4_barriersNow, if_pos c10, if_pos c11, if_pos c17])) hP hS (lv_sub hl [0] rfl)
      · have hok := hok.2 c17
        refine lv_iconst (v := 1) hx hb dX4_barriersNow_31 (by decide) ?_
        refine lv_goto (tgt := 36) hx hb dX4_barriersNow_32 (by decide) ?_
        exact K36 (1 : Int32) H locs ls hok (ht.trans (by simp only [f_X4_barriersNow, if_pos c10, if_pos c11, if_neg c17])) hP hS (lv_sub hl [0] rfl)

/-! X4_barriers -/
def f_X4_barriers (N : Nat) (g : MS) : Int32 × MS :=
  (f_X4_barriersNow N (M_set_thrown g (0 : Int32)), M_set_thrown g (0 : Int32))

def ok_X4_barriers (N : Nat) (g : MS) : Prop :=
  (ok_X4_barriersNow N (M_set_thrown g (0 : Int32))) ∧ True

abbrev RM_X4_barriers : Room := { frames := 3, cells := 0, slots := 0, locals := 66 }
set_option maxRecDepth 100000 in
set_option maxHeartbeats 4000000 in
theorem c_X4_barriers (l : Launch) (D : va_G) (q : Nat → ClassId) (sz : Nat) (km : Nat → Nat) (g : MS) (N : Nat) (hok : ok_X4_barriers N g) : Met l yX4_barriers (Cond.code yX4_barriers cX4_barriers 1 (some .int) :: ALL) RM_X4_barriers (PC D q [.ref (km 0)] (cModel km q g) sz) (va_Qi (fun (rv : Int32) (u : MS) => f_X4_barriers N g = (rv, u)) (fun u t9 => va_P D vwCl (cModel km q u) t9.heap) (va_A (cModel km q g) sz)) 0 0 (va_A (cModel km q g) sz) := by
  refine en_iW (by decide +kernel) (Nat.le_of_ble_eq_true rfl) ?_
  intro p e s m args below meth c Q A H locs ls fx hD0 hA hP hS hl hret
  have hx := fx.1
  have hb := fx.2.1
  have hl : lv_has ls 1 [(0, .ref (km 0))] := hl
  have hD : ∀ (g9 : MS), va_D _ (cModel km q g9) := fun _ => D_same ((fst_Model _ _ _).trans (fst_Model _ _ _).symm) hD0
  have ht : f_X4_barriers N g = f_X4_barriers N g := rfl
  simp only [ok_X4_barriers] at hok
  refine lv_aload_n hx hb dX4_barriers_0 rfl (lv_at hl 0 rfl) ?_
  refine lv_iconst (v := 0) hx hb dX4_barriers_1 (by decide) ?_
  refine pf_X4_52_M fx hP (hD _) hS dX4_barriers_2 (fun H locs hP hS => ?_)
  refine lv_aload_n hx hb dX4_barriers_5 rfl (lv_at hl 0 rfl) ?_
  obtain ⟨hk1, hok⟩ := hok
  refine kR_i (runM fx (As := []) (rest := []) (c_X4_barriersNow l D q H.size km (M_set_thrown g (0 : Int32)) N hk1) lk_X4_169 ⟨Nat.le_of_ble_eq_true rfl, Nat.le_of_ble_eq_true rfl⟩ ⟨rfl, rfl⟩ hP (hD _) rfl hl.1 rfl (Nat.le_of_ble_eq_true rfl) dX4_barriers_6 ⟨Nat.zero_le _, Nat.zero_le _⟩) hP hS (fun r2 _ H locs hr3 hP hS => ?_)
  subst hr3
  exact hret (f_X4_barriersNow N (M_set_thrown g (0 : Int32))) (M_set_thrown g (0 : Int32)) _ _ _ _ dX4_barriers_9 (ht.trans (by simp only [f_X4_barriers])) hP hS

/-! X4_barsNow -/
def f_X4_barsNow_L4 (g : MS) : Nat → Int32 → Int32 → Int32
  | 0, _, i9 => i9
  | n + 1, i8, i9 => if (6 : Int32) ≤ i8 then i9 else (if i9 = 0 then (if ((M_stops g) i8.toNatClampNeg) = 0 then (f_X4_barsNow_L4 g n (i8 + (1 : Int32)) (0 : Int32)) else (f_X4_barsNow_L4 g n (i8 + (1 : Int32)) (1 : Int32))) else (f_X4_barsNow_L4 g n (i8 + (1 : Int32)) (1 : Int32)))

def ok_X4_barsNow_L4 (g : MS) : Nat → Int32 → Int32 → Prop
  | 0, _, _ => False
  | n + 1, i8, i9 => ((6 : Int32) ≤ i8 → True) ∧ (¬ (6 : Int32) ≤ i8 → ((i9 = 0 → ((vp_in i8 6) ∧ ((((M_stops g) i8.toNatClampNeg) = 0 → (ok_X4_barsNow_L4 g n (i8 + (1 : Int32)) (0 : Int32))) ∧ (¬ ((M_stops g) i8.toNatClampNeg) = 0 → (ok_X4_barsNow_L4 g n (i8 + (1 : Int32)) (1 : Int32)))))) ∧ (¬ i9 = 0 → (ok_X4_barsNow_L4 g n (i8 + (1 : Int32)) (1 : Int32)))))

def f_X4_barsNow (N : Nat) (g : MS) : Int32 :=
  if (f_X4_barsNow_L4 g N (0 : Int32) (0 : Int32)) = 0 then (if (M_isClosed g) = 0 then (if 0 < (lg_cmp (M_charge g) (0 : Int64)) then (3 : Int32) else (if (M_liquid g) ≤ 0 then (if (2 : Int32) ≤ ((((f_X4_barriersNow N g) - (f_X4_barriersNow N g) / (2 : Int32) * (2 : Int32)) + (((f_X4_barriersNow N g) / (2 : Int32)) - ((f_X4_barriersNow N g) / (2 : Int32)) / (2 : Int32) * (2 : Int32))) + ((f_X4_barriersNow N g) / (4 : Int32))) then (if (M_depth g) = (5000 : Int32) then (5 : Int32) else (0 : Int32)) else (4 : Int32)) else (3 : Int32))) else (2 : Int32)) else (1 : Int32)

def ok_X4_barsNow (N : Nat) (g : MS) : Prop :=
  (ok_X4_barsNow_L4 g N (0 : Int32) (0 : Int32)) ∧ ((ok_X4_barriersNow N g) ∧ True)

abbrev RM_X4_barsNow : Room := { frames := 3, cells := 0, slots := 0, locals := 66 }
set_option maxRecDepth 100000 in
set_option maxHeartbeats 4000000 in
theorem c_X4_barsNow (l : Launch) (D : va_G) (q : Nat → ClassId) (sz : Nat) (km : Nat → Nat) (g : MS) (N : Nat) (hok : ok_X4_barsNow N g) : Met l yX4_barsNow (Cond.code yX4_barsNow cX4_barsNow 4 (some .int) :: ALL) RM_X4_barsNow (PC D q [.ref (km 0)] (cModel km q g) sz) (va_Qi (fun (rv : Int32) (_ : Unit) => f_X4_barsNow N g = rv) (fun _ _ => True) (fun _ => False)) 0 0 (fun _ => False) := by
  refine en_iR (by decide +kernel) (Nat.le_of_ble_eq_true rfl) ?_
  intro p e s m args below meth c Q A H locs ls fx hD0 hP hS hl hret
  have hx := fx.1
  have hb := fx.2.1
  have hl : lv_has ls 4 [(0, .ref (km 0))] := hl
  have hD : ∀ (g9 : MS), va_D _ (cModel km q g9) := fun _ => D_same ((fst_Model _ _ _).trans (fst_Model _ _ _).symm) hD0
  have ht : f_X4_barsNow N g = f_X4_barsNow N g := rfl
  simp only [ok_X4_barsNow] at hok
  refine lv_iconst (v := 0) hx hb dX4_barsNow_0 (by decide) ?_
  refine lv_istore_n (lv' := [(1, .int (0 : Int32)), (0, .ref (km 0))]) hx hb dX4_barsNow_1 rfl hl (by decide) rfl (fun ls hl => ?_)
  refine lv_iconst (v := 0) hx hb dX4_barsNow_2 (by decide) ?_
  refine lv_istore_n (lv' := [(2, .int (0 : Int32)), (1, .int (0 : Int32)), (0, .ref (km 0))]) hx hb dX4_barsNow_3 rfl hl (by decide) rfl (fun ls hl => ?_)
  obtain ⟨hokL, hok⟩ := hok
  obtain ⟨z4, hz4⟩ : ∃ z, f_X4_barsNow_L4 g N (0 : Int32) (0 : Int32) = z := ⟨_, rfl⟩
  suffices KJ4 : ∀ (H : Heap) (locs : List Loc) (ls : Array Slot), va_P D vwCl (cModel km q g) H → va_S A s.heap H locs → lv_has ls 4 [(0, .ref (km 0)), (1, .int z4)] → W p l e RM_X4_barsNow s m args below meth c H locs 0 0 Q (F0 m 35 ls []) by
    have LP4 : ∀ (n : Nat) (i8 : Int32) (i9 : Int32) (H : Heap) (locs : List Loc) (ls : Array Slot), ok_X4_barsNow_L4 g n i8 i9 → f_X4_barsNow_L4 g n i8 i9 = z4 → va_P D vwCl (cModel km q g) H → va_S A s.heap H locs → lv_has ls 4 [(0, .ref (km 0)), (1, .int i9), (2, .int i8)] → W p l e RM_X4_barsNow s m args below meth c H locs 0 0 Q (F0 m 4 ls []) := by
      intro n
      induction n with
      | zero =>
        intro i8 i9 H locs ls hok
        exact (hok : False).elim
      | succ n ih4 =>
        intro i8 i9 H locs ls hok ht hP hS hl
        simp only [ok_X4_barsNow_L4] at hok
        refine lv_iload_n hx hb dX4_barsNow_4 rfl (lv_at hl 2 rfl) ?_
        refine lv_bipush (v := 6) hx hb dX4_barsNow_5 (by decide) ?_
        refine lv_icmp_ge (tgt := 35) hx hb dX4_barsNow_7 (by decide) (fun c10 => ?_) (fun c10 => ?_)
        · have hok := hok.1 c10
          have hv9 := ht.symm.trans (show _ = i9 by simp only [f_X4_barsNow_L4, if_pos c10])
          subst hv9
          exact KJ4 H locs ls hP hS (lv_sub hl [0, 1] rfl)
        · have hok := hok.2 c10
          refine lv_iload_n hx hb dX4_barsNow_10 rfl (lv_at hl 1 rfl) ?_
          refine lv_if_ne (tgt := 23) hx hb dX4_barsNow_11 (by decide) (fun c11 => ?_) (fun c11 => ?_)
          · have hok := hok.2 c11
            refine lv_iconst (v := 1) hx hb dX4_barsNow_23 (by decide) ?_
            refine lv_goto (tgt := 28) hx hb dX4_barsNow_24 (by decide) ?_
            refine lv_istore_n (lv' := [(1, .int (1 : Int32)), (0, .ref (km 0)), (2, .int i8)]) hx hb dX4_barsNow_28 rfl hl (by decide) rfl (fun ls hl => ?_)
            refine lv_iinc (v := i8 + (1 : Int32)) (lv' := [(2, .int (i8 + (1 : Int32))), (1, .int (1 : Int32)), (0, .ref (km 0))]) hx hb dX4_barsNow_29 hl (k := 2) rfl rfl (by decide) rfl (fun ls hl => ?_)
            refine lv_goto (tgt := 4) hx hb dX4_barsNow_32 (by decide) ?_
            exact ih4 (i8 + (1 : Int32)) (1 : Int32) H locs ls hok ((show f_X4_barsNow_L4 g (n + 1) i8 i9 = _ by simp only [f_X4_barsNow_L4, if_neg c10, if_neg c11]).symm.trans ht) hP hS (lv_sub hl [2, 1, 0] rfl)
          · have hok := hok.1 c11
            refine lv_aload_n hx hb dX4_barsNow_14 rfl (lv_at hl 0 rfl) ?_
            refine gf_X4_49 fx hP 0 rfl dX4_barsNow_15 ?_
            refine lv_iload_n hx hb dX4_barsNow_18 rfl (lv_at hl 2 rfl) ?_
            obtain ⟨hi12, hok⟩ := hok
            refine al_stops fx hP (f := M_stops g) rfl hi12 dX4_barsNow_19 ?_
            refine lv_if_eq (tgt := 27) hx hb dX4_barsNow_20 (by decide) (fun c13 => ?_) (fun c13 => ?_)
            · have hok := hok.1 c13
              refine lv_iconst (v := 0) hx hb dX4_barsNow_27 (by decide) ?_
              refine lv_istore_n (lv' := [(1, .int (0 : Int32)), (0, .ref (km 0)), (2, .int i8)]) hx hb dX4_barsNow_28 rfl hl (by decide) rfl (fun ls hl => ?_)
              refine lv_iinc (v := i8 + (1 : Int32)) (lv' := [(2, .int (i8 + (1 : Int32))), (1, .int (0 : Int32)), (0, .ref (km 0))]) hx hb dX4_barsNow_29 hl (k := 2) rfl rfl (by decide) rfl (fun ls hl => ?_)
              refine lv_goto (tgt := 4) hx hb dX4_barsNow_32 (by decide) ?_
              exact ih4 (i8 + (1 : Int32)) (0 : Int32) H locs ls hok ((show f_X4_barsNow_L4 g (n + 1) i8 i9 = _ by simp only [f_X4_barsNow_L4, if_neg c10, if_pos c11, if_pos c13]).symm.trans ht) hP hS (lv_sub hl [2, 1, 0] rfl)
            · have hok := hok.2 c13
              refine lv_iconst (v := 1) hx hb dX4_barsNow_23 (by decide) ?_
              refine lv_goto (tgt := 28) hx hb dX4_barsNow_24 (by decide) ?_
              refine lv_istore_n (lv' := [(1, .int (1 : Int32)), (0, .ref (km 0)), (2, .int i8)]) hx hb dX4_barsNow_28 rfl hl (by decide) rfl (fun ls hl => ?_)
              refine lv_iinc (v := i8 + (1 : Int32)) (lv' := [(2, .int (i8 + (1 : Int32))), (1, .int (1 : Int32)), (0, .ref (km 0))]) hx hb dX4_barsNow_29 hl (k := 2) rfl rfl (by decide) rfl (fun ls hl => ?_)
              refine lv_goto (tgt := 4) hx hb dX4_barsNow_32 (by decide) ?_
              exact ih4 (i8 + (1 : Int32)) (1 : Int32) H locs ls hok ((show f_X4_barsNow_L4 g (n + 1) i8 i9 = _ by simp only [f_X4_barsNow_L4, if_neg c10, if_pos c11, if_neg c13]).symm.trans ht) hP hS (lv_sub hl [2, 1, 0] rfl)
    exact LP4 N (0 : Int32) (0 : Int32) H locs ls hokL hz4 hP hS (lv_sub hl [2, 1, 0] rfl)
  intro H locs ls hP hS hl
  subst hz4
  refine lv_aload_n hx hb dX4_barsNow_35 rfl (lv_at hl 0 rfl) ?_
  obtain ⟨hk14, hok⟩ := hok
  refine kR_i (runM fx (As := []) (rest := []) (c_X4_barriersNow l D q H.size km g N hk14) lk_X4_169 ⟨Nat.le_of_ble_eq_true rfl, Nat.le_of_ble_eq_true rfl⟩ ⟨rfl, rfl⟩ hP (hD _) rfl hl.1 rfl (Nat.le_of_ble_eq_true rfl) dX4_barsNow_36 ⟨Nat.zero_le _, Nat.zero_le _⟩) hP hS (fun r15 _ H locs hr16 hP hS => ?_)
  subst hr16
  refine lv_istore_n (lv' := [(2, .int (f_X4_barriersNow N g)), (0, .ref (km 0)), (1, .int (f_X4_barsNow_L4 g N (0 : Int32) (0 : Int32)))]) hx hb dX4_barsNow_39 rfl hl (by decide) rfl (fun ls hl => ?_)
  refine lv_iload_n hx hb dX4_barsNow_40 rfl (lv_at hl 0 rfl) ?_
  refine lv_iconst (v := 2) hx hb dX4_barsNow_41 (by decide) ?_
  refine lv_irem hx hb dX4_barsNow_42 (by decide) ?_
  refine lv_iload_n hx hb dX4_barsNow_43 rfl (lv_at hl 0 rfl) ?_
  refine lv_iconst (v := 2) hx hb dX4_barsNow_44 (by decide) ?_
  refine lv_idiv hx hb dX4_barsNow_45 (by decide) ?_
  refine lv_iconst (v := 2) hx hb dX4_barsNow_46 (by decide) ?_
  refine lv_irem hx hb dX4_barsNow_47 (by decide) ?_
  refine lv_iadd hx hb dX4_barsNow_48 ?_
  refine lv_iload_n hx hb dX4_barsNow_49 rfl (lv_at hl 0 rfl) ?_
  refine lv_iconst (v := 4) hx hb dX4_barsNow_50 (by decide) ?_
  refine lv_idiv hx hb dX4_barsNow_51 (by decide) ?_
  refine lv_iadd hx hb dX4_barsNow_52 ?_
  refine lv_istore_n (lv' := [(3, .int ((((f_X4_barriersNow N g) - (f_X4_barriersNow N g) / (2 : Int32) * (2 : Int32)) + (((f_X4_barriersNow N g) / (2 : Int32)) - ((f_X4_barriersNow N g) / (2 : Int32)) / (2 : Int32) * (2 : Int32))) + ((f_X4_barriersNow N g) / (4 : Int32)))), (2, .int (f_X4_barriersNow N g)), (0, .ref (km 0)), (1, .int (f_X4_barsNow_L4 g N (0 : Int32) (0 : Int32)))]) hx hb dX4_barsNow_53 rfl hl (by decide) rfl (fun ls hl => ?_)
  refine lv_iload_n hx hb dX4_barsNow_54 rfl (lv_at hl 3 rfl) ?_
  refine lv_if_eq (tgt := 62) hx hb dX4_barsNow_55 (by decide) (fun c17 => ?_) (fun c17 => ?_)
  · refine lv_aload_n hx hb dX4_barsNow_62 rfl (lv_at hl 2 rfl) ?_
    refine gf_X4_70 fx hP 0 rfl (v := M_isClosed g) rfl dX4_barsNow_63 ?_
    refine lv_if_eq (tgt := 73) hx hb dX4_barsNow_66 (by decide) (fun c18 => ?_) (fun c18 => ?_)
    · refine lv_aload_n hx hb dX4_barsNow_73 rfl (lv_at hl 2 rfl) ?_
      refine gf_X4_96 fx hP 0 rfl (v := M_charge g) rfl dX4_barsNow_74 ?_
      refine lv_lconst (v := 0) hx hb dX4_barsNow_77 (by decide) ?_
      refine W.lcmp hx hb dX4_barsNow_78 ?_
      refine lv_if_gt (tgt := 89) hx hb dX4_barsNow_79 (by decide) (fun c19 => ?_) (fun c19 => ?_)
      · refine lv_iconst (v := 3) hx hb dX4_barsNow_89 (by decide) ?_
        refine lv_goto (tgt := 117) hx hb dX4_barsNow_90 (by decide) ?_
        exact hret (3 : Int32) _ _ _ _ dX4_barsNow_117 (ht.trans (by simp only [f_X4_barsNow, if_pos c17, if_pos c18, if_pos c19])) hS
      · refine lv_aload_n hx hb dX4_barsNow_82 rfl (lv_at hl 2 rfl) ?_
        refine gf_X4_80 fx hP 0 rfl (v := M_liquid g) rfl dX4_barsNow_83 ?_
        refine lv_if_le (tgt := 93) hx hb dX4_barsNow_86 (by decide) (fun c20 => ?_) (fun c20 => ?_)
        · refine lv_iload_n hx hb dX4_barsNow_93 rfl (lv_at hl 0 rfl) ?_
          refine lv_iconst (v := 2) hx hb dX4_barsNow_94 (by decide) ?_
          refine lv_icmp_ge (tgt := 102) hx hb dX4_barsNow_95 (by decide) (fun c21 => ?_) (fun c21 => ?_)
          · refine lv_aload_n hx hb dX4_barsNow_102 rfl (lv_at hl 2 rfl) ?_
            refine gf_X4_63 fx hP 0 rfl (v := M_depth g) rfl dX4_barsNow_103 ?_
            refine lv_sipush (v := 5000) hx hb dX4_barsNow_106 (by decide) ?_
            refine lv_icmp_ne (tgt := 116) hx hb dX4_barsNow_109 (by decide) (fun c22 => ?_) (fun c22 => ?_)
            · refine lv_iconst (v := 0) hx hb dX4_barsNow_116 (by decide) ?_
              exact hret (0 : Int32) _ _ _ _ dX4_barsNow_117 (ht.trans (by simp only [f_X4_barsNow, if_pos c17, if_pos c18, if_neg c19, if_pos c20, if_pos c21, if_neg c22])) hS
            · refine lv_iconst (v := 5) hx hb dX4_barsNow_112 (by decide) ?_
              refine lv_goto (tgt := 117) hx hb dX4_barsNow_113 (by decide) ?_
              exact hret (5 : Int32) _ _ _ _ dX4_barsNow_117 (ht.trans (by simp only [f_X4_barsNow, if_pos c17, if_pos c18, if_neg c19, if_pos c20, if_pos c21, if_pos c22])) hS
          · refine lv_iconst (v := 4) hx hb dX4_barsNow_98 (by decide) ?_
            refine lv_goto (tgt := 117) hx hb dX4_barsNow_99 (by decide) ?_
            exact hret (4 : Int32) _ _ _ _ dX4_barsNow_117 (ht.trans (by simp only [f_X4_barsNow, if_pos c17, if_pos c18, if_neg c19, if_pos c20, if_neg c21])) hS
        · refine lv_iconst (v := 3) hx hb dX4_barsNow_89 (by decide) ?_
          refine lv_goto (tgt := 117) hx hb dX4_barsNow_90 (by decide) ?_
          exact hret (3 : Int32) _ _ _ _ dX4_barsNow_117 (ht.trans (by simp only [f_X4_barsNow, if_pos c17, if_pos c18, if_neg c19, if_neg c20])) hS
    · refine lv_iconst (v := 2) hx hb dX4_barsNow_69 (by decide) ?_
      refine lv_goto (tgt := 117) hx hb dX4_barsNow_70 (by decide) ?_
      exact hret (2 : Int32) _ _ _ _ dX4_barsNow_117 (ht.trans (by simp only [f_X4_barsNow, if_pos c17, if_neg c18])) hS
  · refine lv_iconst (v := 1) hx hb dX4_barsNow_58 (by decide) ?_
    refine lv_goto (tgt := 117) hx hb dX4_barsNow_59 (by decide) ?_
    exact hret (1 : Int32) _ _ _ _ dX4_barsNow_117 (ht.trans (by simp only [f_X4_barsNow, if_neg c17])) hS

/-! X4_bars -/
def f_X4_bars (N : Nat) (g : MS) : Int32 × MS :=
  (f_X4_barsNow N (M_set_thrown g (0 : Int32)), M_set_thrown g (0 : Int32))

def ok_X4_bars (N : Nat) (g : MS) : Prop :=
  (ok_X4_barsNow N (M_set_thrown g (0 : Int32))) ∧ True

abbrev RM_X4_bars : Room := { frames := 4, cells := 0, slots := 0, locals := 89 }
set_option maxRecDepth 100000 in
set_option maxHeartbeats 4000000 in
theorem c_X4_bars (l : Launch) (D : va_G) (q : Nat → ClassId) (sz : Nat) (km : Nat → Nat) (g : MS) (N : Nat) (hok : ok_X4_bars N g) : Met l yX4_bars (Cond.code yX4_bars cX4_bars 1 (some .int) :: ALL) RM_X4_bars (PC D q [.ref (km 0)] (cModel km q g) sz) (va_Qi (fun (rv : Int32) (u : MS) => f_X4_bars N g = (rv, u)) (fun u t9 => va_P D vwCl (cModel km q u) t9.heap) (va_A (cModel km q g) sz)) 0 0 (va_A (cModel km q g) sz) := by
  refine en_iW (by decide +kernel) (Nat.le_of_ble_eq_true rfl) ?_
  intro p e s m args below meth c Q A H locs ls fx hD0 hA hP hS hl hret
  have hx := fx.1
  have hb := fx.2.1
  have hl : lv_has ls 1 [(0, .ref (km 0))] := hl
  have hD : ∀ (g9 : MS), va_D _ (cModel km q g9) := fun _ => D_same ((fst_Model _ _ _).trans (fst_Model _ _ _).symm) hD0
  have ht : f_X4_bars N g = f_X4_bars N g := rfl
  simp only [ok_X4_bars] at hok
  refine lv_aload_n hx hb dX4_bars_0 rfl (lv_at hl 0 rfl) ?_
  refine lv_iconst (v := 0) hx hb dX4_bars_1 (by decide) ?_
  refine pf_X4_52_M fx hP (hD _) hS dX4_bars_2 (fun H locs hP hS => ?_)
  refine lv_aload_n hx hb dX4_bars_5 rfl (lv_at hl 0 rfl) ?_
  obtain ⟨hk1, hok⟩ := hok
  refine kR_i (runM fx (As := []) (rest := []) (c_X4_barsNow l D q H.size km (M_set_thrown g (0 : Int32)) N hk1) lk_X4_152 ⟨Nat.le_of_ble_eq_true rfl, Nat.le_of_ble_eq_true rfl⟩ ⟨rfl, rfl⟩ hP (hD _) rfl hl.1 rfl (Nat.le_of_ble_eq_true rfl) dX4_bars_6 ⟨Nat.zero_le _, Nat.zero_le _⟩) hP hS (fun r2 _ H locs hr3 hP hS => ?_)
  subst hr3
  exact hret (f_X4_barsNow N (M_set_thrown g (0 : Int32))) (M_set_thrown g (0 : Int32)) _ _ _ _ dX4_bars_9 (ht.trans (by simp only [f_X4_bars])) hP hS

