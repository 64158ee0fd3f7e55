/-! J7_fill_53178 -/
def f_J7_fill_53178_L5 (na : Nat) (p0 : Int32) : Nat → Int32 → (Nat → Int32) → (Nat → Int32)
  | 0, _, f8 => f8
  | n + 1, i7, f8 => if (Int32.ofNat na) ≤ i7 then f8 else (f_J7_fill_53178_L5 na p0 n (i7 + (1 : Int32)) (upd f8 i7.toNatClampNeg p0))

def ok_J7_fill_53178_L5 (na : Nat) (p0 : Int32) : Nat → Int32 → (Nat → Int32) → Prop
  | 0, _, _ => False
  | n + 1, i7, f8 => ((Int32.ofNat na) ≤ i7 → True) ∧ (¬ (Int32.ofNat na) ≤ i7 → ((vp_in i7 na) ∧ (ok_J7_fill_53178_L5 na p0 n (i7 + (1 : Int32)) (upd f8 i7.toNatClampNeg p0))))

def f_J7_fill_53178 (N : Nat) (na : Nat) (f : (Nat → Int32)) (p0 : Int32) : (Nat → Int32) :=
  (f_J7_fill_53178_L5 na p0 N (0 : Int32) f)

def ok_J7_fill_53178 (N : Nat) (na : Nat) (f : (Nat → Int32)) (p0 : Int32) : Prop :=
  (ok_J7_fill_53178_L5 na p0 N (0 : Int32) f) ∧ True

abbrev RM_J7_fill_53178 : Room := { frames := 0, cells := 0, slots := 0, locals := 0 }
set_option maxRecDepth 100000 in
set_option maxHeartbeats 4000000 in
theorem c_J7_fill_53178 (l : Launch) (D : va_G) (q : Nat → ClassId) (sz : Nat) (a : Nat) (na : Nat) (hn : na < 2147483648) (f : (Nat → Int32)) (p0 : Int32) (N : Nat) (hok : ok_J7_fill_53178 N na f p0) : Met l yJ7_fill_53178 (Cond.code yJ7_fill_53178 cJ7_fill_53178 4 none :: ALL) RM_J7_fill_53178 (PC D q [.ref a, .int p0] (cArr a na q f) sz) (va_Qv (fun (u : (Nat → Int32)) => f_J7_fill_53178 N na f p0 = u) (fun u t9 => va_P D vwCl (cArr a na q u) t9.heap) (va_A (cArr a na q f) sz)) 0 0 (va_A (cArr a na q f) sz) := by
  refine en_vW (by decide +kernel) (Nat.le_of_ble_eq_true rfl) ?_
  intro p e s m args below meth c Q A H locs ls fx hD0 hA hP hS hl hret
  have hx := fx.1
  have hb := fx.2.1
  have hl : lv_has ls 4 [(0, .ref a), (1, .int p0)] := hl
  have hD : ∀ (f9 : (Nat → Int32)), va_D _ (cArr a na q f9) := fun _ => D_same ((fst_Arr _ _ _ _).trans (fst_Arr _ _ _ _).symm) hD0
  have ht : f_J7_fill_53178 N na f p0 = f_J7_fill_53178 N na f p0 := rfl
  simp only [ok_J7_fill_53178] at hok
  refine lv_iconst (v := 0) hx hb dJ7_fill_53178_0 (by decide) ?_
  refine lv_istore_n (lv' := [(2, .int (0 : Int32)), (0, .ref a), (1, .int p0)]) hx hb dJ7_fill_53178_1 rfl hl (by decide) rfl (fun ls hl => ?_)
  refine lv_aload_n hx hb dJ7_fill_53178_2 rfl (lv_at hl 1 rfl) ?_
  refine va_alen hx hb fx.2.2.2.2.2.1 hP 0 0 rfl (ty := .int) rfl (v := Int32.ofNat na) rfl dJ7_fill_53178_3 ?_
  refine lv_istore_n (lv' := [(3, .int (Int32.ofNat na)), (2, .int (0 : Int32)), (0, .ref a), (1, .int p0)]) hx hb dJ7_fill_53178_4 rfl hl (by decide) rfl (fun ls hl => ?_)
  obtain ⟨hokL, hok⟩ := hok
  obtain ⟨z5, hz5⟩ : ∃ z, f_J7_fill_53178_L5 na p0 N (0 : Int32) f = z := ⟨_, rfl⟩
  suffices KJ5 : ∀ (H : Heap) (locs : List Loc) (ls : Array Slot), va_P D vwCl (cArr a na q z5) H → va_S A s.heap H locs → lv_has ls 4 [(0, .ref a)] → W p l e RM_J7_fill_53178 s m args below meth c H locs 0 0 Q (F0 m 20 ls []) by
    have LP5 : ∀ (n : Nat) (i7 : Int32) (f8 : (Nat → Int32)) (H : Heap) (locs : List Loc) (ls : Array Slot), ok_J7_fill_53178_L5 na p0 n i7 f8 → f_J7_fill_53178_L5 na p0 n i7 f8 = z5 → va_P D vwCl (cArr a na q f8) H → va_S A s.heap H locs → lv_has ls 4 [(0, .ref a), (1, .int p0), (2, .int i7), (3, .int (Int32.ofNat na))] → W p l e RM_J7_fill_53178 s m args below meth c H locs 0 0 Q (F0 m 5 ls []) := by
      intro n
      induction n with
      | zero =>
        intro i7 f8 H locs ls hok
        exact (hok : False).elim
      | succ n ih5 =>
        intro i7 f8 H locs ls hok ht hP hS hl
        simp only [ok_J7_fill_53178_L5] at hok
        refine lv_iload_n hx hb dJ7_fill_53178_5 rfl (lv_at hl 2 rfl) ?_
        refine lv_iload_n hx hb dJ7_fill_53178_6 rfl (lv_at hl 3 rfl) ?_
        refine lv_icmp_ge (tgt := 20) hx hb dJ7_fill_53178_7 (by decide) (fun c9 => ?_) (fun c9 => ?_)
        · have hok := hok.1 c9
          have hv9 := ht.symm.trans (show _ = f8 by simp only [f_J7_fill_53178_L5, if_pos c9])
          subst hv9
          exact KJ5 H locs ls hP hS (lv_sub hl [0] rfl)
        · have hok := hok.2 c9
          refine lv_aload_n hx hb dJ7_fill_53178_10 rfl (lv_at hl 0 rfl) ?_
          refine lv_iload_n hx hb dJ7_fill_53178_11 rfl (lv_at hl 2 rfl) ?_
          refine lv_iload_n hx hb dJ7_fill_53178_12 rfl (lv_at hl 1 rfl) ?_
          obtain ⟨hi10, hok⟩ := hok
          refine va_iast hx hb fx.2.2.2.2.2.1 hP (hD _) hS 0 0 (f := f8) rfl rfl hi10 dJ7_fill_53178_13 (fun H locs hP _ hS => ?_)
          have hP : va_P D vwCl (cArr a na q (upd f8 i7.toNatClampNeg p0)) H := hP
          refine lv_iinc (v := i7 + (1 : Int32)) (lv' := [(2, .int (i7 + (1 : Int32))), (0, .ref a), (1, .int p0), (3, .int (Int32.ofNat na))]) hx hb dJ7_fill_53178_14 hl (k := 2) rfl rfl (by decide) rfl (fun ls hl => ?_)
          refine lv_goto (tgt := 5) hx hb dJ7_fill_53178_17 (by decide) ?_
          exact ih5 (i7 + (1 : Int32)) (upd f8 i7.toNatClampNeg p0) H locs ls hok ((show f_J7_fill_53178_L5 na p0 (n + 1) i7 f8 = _ by simp only [f_J7_fill_53178_L5, if_neg c9]).symm.trans ht) hP hS (lv_sub hl [1, 2, 0, 3] rfl)
    exact LP5 N (0 : Int32) f H locs ls hokL hz5 hP hS (lv_sub hl [2, 3, 1, 0] rfl)
  intro H locs ls hP hS hl
  subst hz5
  exact hret (f_J7_fill_53178_L5 na p0 N (0 : Int32) f) _ _ _ _ dJ7_fill_53178_20 (ht.trans (by simp only [f_J7_fill_53178])) hP hS

/-! X3_hasMinutes -/
def f_X3_hasMinutes (w : WS) (p0 : Int32) : Int32 :=
  if (100000 : Int32) < ((W_minutes w) + p0) then (0 : Int32) else (1 : Int32)

abbrev RM_X3_hasMinutes : Room := { frames := 0, cells := 0, slots := 0, locals := 0 }
set_option maxRecDepth 100000 in
set_option maxHeartbeats 4000000 in
theorem c_X3_hasMinutes (l : Launch) (D : va_G) (q : Nat → ClassId) (sz : Nat) (h : Nat) (aw : Nat) (av : Nat) (kr : Nat → Nat) (kt : Nat → Nat) (x : XS) (w : WS) (v : WS) (r : RS) (t : TS) (p0 : Int32) : Met l yX3_hasMinutes (Cond.code yX3_hasMinutes cX3_hasMinutes 2 (some .boolean) :: ALL) RM_X3_hasMinutes (PC D q [.ref h, .int p0] (cKick h aw av kr kt q x w v r t) sz) (va_Qi (fun (rv : Int32) (_ : Unit) => f_X3_hasMinutes w p0 = rv ∧ bz rv) (fun _ _ => True) (fun _ => False)) 0 0 (fun _ => False) := by
  refine en_zR (by decide +kernel) (Nat.le_of_ble_eq_true rfl) ?_
  intro p e s m args below meth c Q A H locs ls fx hD0 hP hS hl hret
  have hx := fx.1
  have hb := fx.2.1
  have hl : lv_has ls 2 [(0, .ref h), (1, .int p0)] := hl
  have hD : ∀ (x9 : XS) (w9 : WS) (v9 : WS) (r9 : RS) (t9 : TS), va_D _ (cKick h aw av kr kt q x9 w9 v9 r9 t9) := fun _ _ _ _ _ => D_same ((fst_Kick _ _ _ _ _ _ _ _ _ _ _).trans (fst_Kick _ _ _ _ _ _ _ _ _ _ _).symm) hD0
  have ht : f_X3_hasMinutes w p0 = f_X3_hasMinutes w p0 := rfl
  refine lv_aload_n hx hb dX3_hasMinutes_0 rfl (lv_at hl 0 rfl) ?_
  refine gf_X3_21 fx hP 0 rfl dX3_hasMinutes_1 ?_
  refine gf_X3_151 fx hP 1 rfl (v := W_minutes w) rfl dX3_hasMinutes_4 ?_
  refine lv_iload_n hx hb dX3_hasMinutes_7 rfl (lv_at hl 1 rfl) ?_
  refine lv_iadd hx hb dX3_hasMinutes_8 ?_
  refine lv_ldc hx hb fx.2.2.2.1 (fx.2.2.2.2.1 _ mm_107) dX3_hasMinutes_9 ?_
  refine lv_icmp_gt (tgt := 18) hx hb dX3_hasMinutes_11 (by decide) (fun c1 => ?_) (fun c1 => ?_)
  · refine lv_iconst (v := 0) hx hb dX3_hasMinutes_18 (by decide) ?_
    exact hret (0 : Int32) _ _ _ _ dX3_hasMinutes_19 bz0 (ht.trans (by simp only [f_X3_hasMinutes, if_pos c1])) hS
  · refine lv_iconst (v := 1) hx hb dX3_hasMinutes_14 (by decide) ?_
    refine lv_goto (tgt := 19) hx hb dX3_hasMinutes_15 (by decide) ?_
    exact hret (1 : Int32) _ _ _ _ dX3_hasMinutes_19 bz1 (ht.trans (by simp only [f_X3_hasMinutes, if_neg c1])) hS

/-! X3_isMudBarrier -/
def f_X3_isMudBarrier (w : WS) (r : RS) : Int32 :=
  if (f_X2_hasInflow w) = 0 then (if (f_X2_bottom w) < (f_X0_poreAt r (W_depth w)) then (0 : Int32) else (1 : Int32)) else (0 : Int32)

abbrev RM_X3_isMudBarrier : Room := { frames := 3, cells := 0, slots := 0, locals := 64 }
set_option maxRecDepth 100000 in
set_option maxHeartbeats 4000000 in
theorem c_X3_isMudBarrier (l : Launch) (D : va_G) (q : Nat → ClassId) (sz : Nat) (h : Nat) (aw : Nat) (av : Nat) (kr : Nat → Nat) (kt : Nat → Nat) (x : XS) (w : WS) (v : WS) (r : RS) (t : TS) : Met l yX3_isMudBarrier (Cond.code yX3_isMudBarrier cX3_isMudBarrier 1 (some .boolean) :: ALL) RM_X3_isMudBarrier (PC D q [.ref h] (cKick h aw av kr kt q x w v r t) sz) (va_Qi (fun (rv : Int32) (_ : Unit) => f_X3_isMudBarrier w r = rv ∧ bz rv) (fun _ _ => True) (fun _ => False)) 0 0 (fun _ => False) := by
  refine en_zR (by decide +kernel) (Nat.le_of_ble_eq_true rfl) ?_
  intro p e s m args below meth c Q A H locs ls fx hD0 hP hS hl hret
  have hx := fx.1
  have hb := fx.2.1
  have hl : lv_has ls 1 [(0, .ref h)] := hl
  have hD : ∀ (x9 : XS) (w9 : WS) (v9 : WS) (r9 : RS) (t9 : TS), va_D _ (cKick h aw av kr kt q x9 w9 v9 r9 t9) := fun _ _ _ _ _ => D_same ((fst_Kick _ _ _ _ _ _ _ _ _ _ _).trans (fst_Kick _ _ _ _ _ _ _ _ _ _ _).symm) hD0
  have ht : f_X3_isMudBarrier w r = f_X3_isMudBarrier w r := rfl
  refine lv_aload_n hx hb dX3_isMudBarrier_0 rfl (lv_at hl 0 rfl) ?_
  refine gf_X3_21 fx hP 0 rfl dX3_isMudBarrier_1 ?_
  refine kR_i (runVN fx (As := []) (rest := []) (c_X2_hasInflow l D q H.size aw kr w r) lk_X3_126 ⟨Nat.le_of_ble_eq_true rfl, Nat.le_of_ble_eq_true rfl⟩ ⟨rfl, rfl⟩ hP (hD _ _ _ _ _) [1, 3, 4, 5, 6, 7, 8] rfl rfl (ci := 2) rfl rfl rfl hl.1 rfl (Nat.le_of_ble_eq_true rfl) dX3_isMudBarrier_4 ⟨Nat.zero_le _, Nat.zero_le _⟩) hP hS (fun r1 _ H locs hr2 hP hS => ?_)
  obtain ⟨rfl, hz3⟩ := hr2
  refine lv_if_ne (tgt := 38) hx hb dX3_isMudBarrier_7 (by decide) (fun c4 => ?_) (fun c4 => ?_)
  · refine lv_iconst (v := 0) hx hb dX3_isMudBarrier_38 (by decide) ?_
    exact hret (0 : Int32) _ _ _ _ dX3_isMudBarrier_39 bz0 (ht.trans (by simp only [f_X3_isMudBarrier, if_neg c4])) hS
  · refine lv_aload_n hx hb dX3_isMudBarrier_10 rfl (lv_at hl 0 rfl) ?_
    refine gf_X3_21 fx hP 0 rfl dX3_isMudBarrier_11 ?_
    refine kR_i (runVN fx (As := []) (rest := []) (c_X2_bottom l D q H.size aw kr w r) lk_X3_171 ⟨Nat.le_of_ble_eq_true rfl, Nat.le_of_ble_eq_true rfl⟩ ⟨rfl, rfl⟩ hP (hD _ _ _ _ _) [1, 3, 4, 5, 6, 7, 8] rfl rfl (ci := 2) rfl rfl rfl hl.1 rfl (Nat.le_of_ble_eq_true rfl) dX3_isMudBarrier_14 ⟨Nat.zero_le _, Nat.zero_le _⟩) hP hS (fun r5 _ H locs hr6 hP hS => ?_)
    subst hr6
    refine lv_aload_n hx hb dX3_isMudBarrier_17 rfl (lv_at hl 0 rfl) ?_
    refine gf_X3_10 fx hP 0 rfl dX3_isMudBarrier_18 ?_
    refine lv_aload_n hx hb dX3_isMudBarrier_21 rfl (lv_at hl 0 rfl) ?_
    refine gf_X3_21 fx hP 0 rfl dX3_isMudBarrier_22 ?_
    refine gf_X3_55 fx hP 1 rfl (v := W_depth w) rfl dX3_isMudBarrier_25 ?_
    refine kR_i (runVN fx (As := [.int (W_depth w)]) (rest := [.int (f_X2_bottom w)]) (c_X0_poreAt l D q H.size kr r (W_depth w)) lk_X3_174 ⟨Nat.le_of_ble_eq_true rfl, Nat.le_of_ble_eq_true rfl⟩ ⟨rfl, rfl⟩ hP (hD _ _ _ _ _) [3, 4, 5, 6, 7, 8] rfl rfl (ci := 0) rfl rfl rfl hl.1 rfl (Nat.le_of_ble_eq_true rfl) dX3_isMudBarrier_28 ⟨Nat.zero_le _, Nat.zero_le _⟩) hP hS (fun r7 _ H locs hr8 hP hS => ?_)
    subst hr8
    refine lv_icmp_lt (tgt := 38) hx hb dX3_isMudBarrier_31 (by decide) (fun c9 => ?_) (fun c9 => ?_)
    · refine lv_iconst (v := 0) hx hb dX3_isMudBarrier_38 (by decide) ?_
      exact hret (0 : Int32) _ _ _ _ dX3_isMudBarrier_39 bz0 (ht.trans (by simp only [f_X3_isMudBarrier, if_pos c4, if_pos c9])) hS
    · refine lv_iconst (v := 1) hx hb dX3_isMudBarrier_34 (by decide) ?_
      refine lv_goto (tgt := 39) hx hb dX3_isMudBarrier_35 (by decide) ?_
      exact hret (1 : Int32) _ _ _ _ dX3_isMudBarrier_39 bz1 (ht.trans (by simp only [f_X3_isMudBarrier, if_pos c4, if_neg c9])) hS

/-! X3_isValveBarrier -/
def f_X3_isValveBarrier (w : WS) (t : TS) : Int32 :=
  if (f_X1_isPassed t (T_latestOfValve t)) = 0 then (0 : Int32) else (if (20160 : Int32) < ((W_minutes w) - (f_X3_read 60 (T_minutes t) (T_latestOfValve t))) then (0 : Int32) else (if (W_hasBrokenSinceTest w) = 0 then (1 : Int32) else (0 : Int32)))

abbrev RM_X3_isValveBarrier : Room := { frames := 2, cells := 0, slots := 0, locals := 42 }
set_option maxRecDepth 100000 in
set_option maxHeartbeats 4000000 in
theorem c_X3_isValveBarrier (l : Launch) (D : va_G) (q : Nat → ClassId) (sz : Nat) (h : Nat) (aw : Nat) (av : Nat) (kr : Nat → Nat) (kt : Nat → Nat) (x : XS) (w : WS) (v : WS) (r : RS) (t : TS) : Met l yX3_isValveBarrier (Cond.code yX3_isValveBarrier cX3_isValveBarrier 2 (some .boolean) :: ALL) RM_X3_isValveBarrier (PC D q [.ref h] (cKick h aw av kr kt q x w v r t) sz) (va_Qi (fun (rv : Int32) (_ : Unit) => f_X3_isValveBarrier w t = rv ∧ bz rv) (fun _ _ => True) (fun _ => False)) 0 0 (fun _ => False) := by
  refine en_zR (by decide +kernel) (Nat.le_of_ble_eq_true rfl) ?_
  intro p e s m args below meth c Q A H locs ls fx hD0 hP hS hl hret
  have hx := fx.1
  have hb := fx.2.1
  have hl : lv_has ls 2 [(0, .ref h)] := hl
  have hD : ∀ (x9 : XS) (w9 : WS) (v9 : WS) (r9 : RS) (t9 : TS), va_D _ (cKick h aw av kr kt q x9 w9 v9 r9 t9) := fun _ _ _ _ _ => D_same ((fst_Kick _ _ _ _ _ _ _ _ _ _ _).trans (fst_Kick _ _ _ _ _ _ _ _ _ _ _).symm) hD0
  have ht : f_X3_isValveBarrier w t = f_X3_isValveBarrier w t := rfl
  refine lv_aload_n hx hb dX3_isValveBarrier_0 rfl (lv_at hl 0 rfl) ?_
  refine gf_X3_31 fx hP 0 rfl dX3_isValveBarrier_1 ?_
  refine gf_X3_264 fx hP 9 rfl (v := T_latestOfValve t) rfl dX3_isValveBarrier_4 ?_
  refine lv_istore_n (lv' := [(1, .int (T_latestOfValve t)), (0, .ref h)]) hx hb dX3_isValveBarrier_7 rfl hl (by decide) rfl (fun ls hl => ?_)
  refine lv_aload_n hx hb dX3_isValveBarrier_8 rfl (lv_at hl 1 rfl) ?_
  refine gf_X3_31 fx hP 0 rfl dX3_isValveBarrier_9 ?_
  refine lv_iload_n hx hb dX3_isValveBarrier_12 rfl (lv_at hl 0 rfl) ?_
  refine kR_i (runVN fx (As := [.int (T_latestOfValve t)]) (rest := []) (c_X1_isPassed l D q H.size kt t (T_latestOfValve t)) lk_X3_267 ⟨Nat.le_of_ble_eq_true rfl, Nat.le_of_ble_eq_true rfl⟩ ⟨rfl, rfl⟩ hP (hD _ _ _ _ _) [9, 10, 11, 12, 13] rfl rfl (ci := 1) rfl rfl rfl hl.1 rfl (Nat.le_of_ble_eq_true rfl) dX3_isValveBarrier_13 ⟨Nat.zero_le _, Nat.zero_le _⟩) hP hS (fun r1 _ H locs hr2 hP hS => ?_)
  obtain ⟨rfl, hz3⟩ := hr2
  refine lv_if_eq (tgt := 58) hx hb dX3_isValveBarrier_16 (by decide) (fun c4 => ?_) (fun c4 => ?_)
  · refine lv_iconst (v := 0) hx hb dX3_isValveBarrier_58 (by decide) ?_
    exact hret (0 : Int32) _ _ _ _ dX3_isValveBarrier_59 bz0 (ht.trans (by simp only [f_X3_isValveBarrier, if_pos c4])) hS
  · refine lv_aload_n hx hb dX3_isValveBarrier_19 rfl (lv_at hl 1 rfl) ?_
    refine gf_X3_21 fx hP 0 rfl dX3_isValveBarrier_20 ?_
    refine gf_X3_151 fx hP 1 rfl (v := W_minutes w) rfl dX3_isValveBarrier_23 ?_
    refine lv_aload_n hx hb dX3_isValveBarrier_26 rfl (lv_at hl 1 rfl) ?_
    refine gf_X3_31 fx hP 0 rfl dX3_isValveBarrier_27 ?_
    refine gf_X3_234 fx hP 9 rfl dX3_isValveBarrier_30 ?_
    refine lv_iload_n hx hb dX3_isValveBarrier_33 rfl (lv_at hl 0 rfl) ?_
    refine kR_i (runS fx (As := [.ref (kt 4), .int (T_latestOfValve t)]) (rest := [.int (W_minutes w)]) (c_X3_read l D q H.size (kt 4) 60 (Nat.le_of_ble_eq_true rfl) (T_minutes t) (T_latestOfValve t)) lk_X3_224 ⟨Nat.le_of_ble_eq_true rfl, Nat.le_of_ble_eq_true rfl⟩ ⟨rfl, rfl⟩ hP (hD _ _ _ _ _) [13] rfl rfl rfl hl.1 rfl (Nat.le_of_ble_eq_true rfl) dX3_isValveBarrier_34 ⟨Nat.zero_le _, Nat.zero_le _⟩) hP hS (fun r5 _ H locs hr6 hP hS => ?_)
    subst hr6
    refine lv_isub hx hb dX3_isValveBarrier_37 ?_
    refine lv_sipush (v := 20160) hx hb dX3_isValveBarrier_38 (by decide) ?_
    refine lv_icmp_gt (tgt := 58) hx hb dX3_isValveBarrier_41 (by decide) (fun c7 => ?_) (fun c7 => ?_)
    · refine lv_iconst (v := 0) hx hb dX3_isValveBarrier_58 (by decide) ?_
      exact hret (0 : Int32) _ _ _ _ dX3_isValveBarrier_59 bz0 (ht.trans (by simp only [f_X3_isValveBarrier, if_neg c4, if_pos c7])) hS
    · refine lv_aload_n hx hb dX3_isValveBarrier_44 rfl (lv_at hl 1 rfl) ?_
      refine gf_X3_21 fx hP 0 rfl dX3_isValveBarrier_45 ?_
      refine gf_X3_158 fx hP 1 rfl (v := W_hasBrokenSinceTest w) rfl dX3_isValveBarrier_48 ?_
      refine lv_if_ne (tgt := 58) hx hb dX3_isValveBarrier_51 (by decide) (fun c8 => ?_) (fun c8 => ?_)
      · refine lv_iconst (v := 0) hx hb dX3_isValveBarrier_58 (by decide) ?_
        exact hret (0 : Int32) _ _ _ _ dX3_isValveBarrier_59 bz0 (ht.trans (by simp only [f_X3_isValveBarrier, if_neg c4, if_neg c7, if_neg c8])) hS
      · refine lv_iconst (v := 1) hx hb dX3_isValveBarrier_54 (by decide) ?_
        refine lv_goto (tgt := 59) hx hb dX3_isValveBarrier_55 (by decide) ?_
        exact hret (1 : Int32) _ _ _ _ dX3_isValveBarrier_59 bz1 (ht.trans (by simp only [f_X3_isValveBarrier, if_neg c4, if_neg c7, if_pos c8])) hS

/-! X3_isCementBarrier -/
def f_X3_isCementBarrier (w : WS) (t : TS) : Int32 :=
  if (W_shoe w) ≤ 0 then (0 : Int32) else (if (f_X1_isPassed t (T_latestOfCement t)) = 0 then (0 : Int32) else (1 : Int32))

abbrev RM_X3_isCementBarrier : Room := { frames := 2, cells := 0, slots := 0, locals := 42 }
set_option maxRecDepth 100000 in
set_option maxHeartbeats 4000000 in
theorem c_X3_isCementBarrier (l : Launch) (D : va_G) (q : Nat → ClassId) (sz : Nat) (h : Nat) (aw : Nat) (av : Nat) (kr : Nat → Nat) (kt : Nat → Nat) (x : XS) (w : WS) (v : WS) (r : RS) (t : TS) : Met l yX3_isCementBarrier (Cond.code yX3_isCementBarrier cX3_isCementBarrier 1 (some .boolean) :: ALL) RM_X3_isCementBarrier (PC D q [.ref h] (cKick h aw av kr kt q x w v r t) sz) (va_Qi (fun (rv : Int32) (_ : Unit) => f_X3_isCementBarrier w t = rv ∧ bz rv) (fun _ _ => True) (fun _ => False)) 0 0 (fun _ => False) := by
  refine en_zR (by decide +kernel) (Nat.le_of_ble_eq_true rfl) ?_
  intro p e s m args below meth c Q A H locs ls fx hD0 hP hS hl hret
  have hx := fx.1
  have hb := fx.2.1
  have hl : lv_has ls 1 [(0, .ref h)] := hl
  have hD : ∀ (x9 : XS) (w9 : WS) (v9 : WS) (r9 : RS) (t9 : TS), va_D _ (cKick h aw av kr kt q x9 w9 v9 r9 t9) := fun _ _ _ _ _ => D_same ((fst_Kick _ _ _ _ _ _ _ _ _ _ _).trans (fst_Kick _ _ _ _ _ _ _ _ _ _ _).symm) hD0
  have ht : f_X3_isCementBarrier w t = f_X3_isCementBarrier w t := rfl
  refine lv_aload_n hx hb dX3_isCementBarrier_0 rfl (lv_at hl 0 rfl) ?_
  refine gf_X3_21 fx hP 0 rfl dX3_isCementBarrier_1 ?_
  refine gf_X3_123 fx hP 1 rfl (v := W_shoe w) rfl dX3_isCementBarrier_4 ?_
  refine lv_if_le (tgt := 31) hx hb dX3_isCementBarrier_7 (by decide) (fun c1 => ?_) (fun c1 => ?_)
  · refine lv_iconst (v := 0) hx hb dX3_isCementBarrier_31 (by decide) ?_
    exact hret (0 : Int32) _ _ _ _ dX3_isCementBarrier_32 bz0 (ht.trans (by simp only [f_X3_isCementBarrier, if_pos c1])) hS
  · refine lv_aload_n hx hb dX3_isCementBarrier_10 rfl (lv_at hl 0 rfl) ?_
    refine gf_X3_31 fx hP 0 rfl dX3_isCementBarrier_11 ?_
    refine lv_aload_n hx hb dX3_isCementBarrier_14 rfl (lv_at hl 0 rfl) ?_
    refine gf_X3_31 fx hP 0 rfl dX3_isCementBarrier_15 ?_
    refine gf_X3_135 fx hP 9 rfl (v := T_latestOfCement t) rfl dX3_isCementBarrier_18 ?_
    refine kR_i (runVN fx (As := [.int (T_latestOfCement t)]) (rest := []) (c_X1_isPassed l D q H.size kt t (T_latestOfCement t)) lk_X3_267 ⟨Nat.le_of_ble_eq_true rfl, Nat.le_of_ble_eq_true rfl⟩ ⟨rfl, rfl⟩ hP (hD _ _ _ _ _) [9, 10, 11, 12, 13] rfl rfl (ci := 1) rfl rfl rfl hl.1 rfl (Nat.le_of_ble_eq_true rfl) dX3_isCementBarrier_21 ⟨Nat.zero_le _, Nat.zero_le _⟩) hP hS (fun r2 _ H locs hr3 hP hS => ?_)
    obtain ⟨rfl, hz4⟩ := hr3
    refine lv_if_eq (tgt := 31) hx hb dX3_isCementBarrier_24 (by decide) (fun c5 => ?_) (fun c5 => ?_)
    · refine lv_iconst (v := 0) hx hb dX3_isCementBarrier_31 (by decide) ?_
      exact hret (0 : Int32) _ _ _ _ dX3_isCementBarrier_32 bz0 (ht.trans (by simp only [f_X3_isCementBarrier, if_neg c1, if_pos c5])) hS
    · refine lv_iconst (v := 1) hx hb dX3_isCementBarrier_27 (by decide) ?_
      refine lv_goto (tgt := 32) hx hb dX3_isCementBarrier_28 (by decide) ?_
      exact hret (1 : Int32) _ _ _ _ dX3_isCementBarrier_32 bz1 (ht.trans (by simp only [f_X3_isCementBarrier, if_neg c1, if_neg c5])) hS

/-! X3_barriers -/
def f_X3_barriers (w : WS) (r : RS) (t : TS) : Int32 :=
  if (f_X3_isCementBarrier w t) = 0 then (((if (f_X3_isMudBarrier w r) = 0 then (0 : Int32) else (1 : Int32)) + (if (f_X3_isValveBarrier w t) = 0 then (0 : Int32) else (2 : Int32))) + (0 : Int32)) else (((if (f_X3_isMudBarrier w r) = 0 then (0 : Int32) else (1 : Int32)) + (if (f_X3_isValveBarrier w t) = 0 then (0 : Int32) else (2 : Int32))) + (4 : Int32))

abbrev RM_X3_barriers : Room := { frames := 4, cells := 0, slots := 0, locals := 84 }
set_option maxRecDepth 100000 in
set_option maxHeartbeats 4000000 in
theorem c_X3_barriers (l : Launch) (D : va_G) (q : Nat → ClassId) (sz : Nat) (h : Nat) (aw : Nat) (av : Nat) (kr : Nat → Nat) (kt : Nat → Nat) (x : XS) (w : WS) (v : WS) (r : RS) (t : TS) : Met l yX3_barriers (Cond.code yX3_barriers cX3_barriers 1 (some .int) :: ALL) RM_X3_barriers (PC D q [.ref h] (cKick h aw av kr kt q x w v r t) sz) (va_Qi (fun (rv : Int32) (_ : Unit) => f_X3_barriers w r t = rv) (fun _ _ => True) (fun _ => False)) 0 0 (fun _ => False) := by
  refine en_iR (by decide +kernel) (Nat.le_of_ble_eq_true rfl) ?_
  intro p e s m args below meth c Q A H locs ls fx hD0 hP hS hl hret
  have hx := fx.1
  have hb := fx.2.1
  have hl : lv_has ls 1 [(0, .ref h)] := hl
  have hD : ∀ (x9 : XS) (w9 : WS) (v9 : WS) (r9 : RS) (t9 : TS), va_D _ (cKick h aw av kr kt q x9 w9 v9 r9 t9) := fun _ _ _ _ _ => D_same ((fst_Kick _ _ _ _ _ _ _ _ _ _ _).trans (fst_Kick _ _ _ _ _ _ _ _ _ _ _).symm) hD0
  have ht : f_X3_barriers w r t = f_X3_barriers w r t := rfl
  refine lv_aload_n hx hb dX3_barriers_0 rfl (lv_at hl 0 rfl) ?_
  refine kR_i (runV fx (As := []) (rest := []) (c_X3_isMudBarrier l D q H.size h aw av kr kt x w v r t) lk_X3_206 ⟨Nat.le_of_ble_eq_true rfl, Nat.le_of_ble_eq_true rfl⟩ ⟨rfl, rfl⟩ hP (hD _ _ _ _ _) [0, 1, 2, 3, 4, 5, 6, 7, 8, 9, 10, 11, 12, 13] rfl rfl (ci := 3) rfl rfl rfl hl.1 rfl (Nat.le_of_ble_eq_true rfl) dX3_barriers_1 ⟨Nat.zero_le _, Nat.zero_le _⟩) hP hS (fun r1 _ H locs hr2 hP hS => ?_)
  obtain ⟨rfl, hz3⟩ := hr2
  suffices K : ∀ (v5 : Int32), ∀ (H : Heap) (locs : List Loc) (ls : Array Slot), v5 = (if (f_X3_isMudBarrier w r) = 0 then (0 : Int32) else (1 : Int32)) → va_P D vwCl (cKick h aw av kr kt q x w v r t) H → va_S A s.heap H locs → lv_has ls 1 [(0, .ref h)] → W p l e RM_X3_barriers s m args below meth c H locs 0 0 Q (F0 m 12 ls [.int v5]) by
    refine lv_if_eq (tgt := 11) hx hb dX3_barriers_4 (by decide) (fun c4 => ?_) (fun c4 => ?_)
    · refine lv_iconst (v := 0) hx hb dX3_barriers_11 (by decide) ?_
      exact K (0 : Int32) H locs ls (by simp only [if_pos c4]) hP hS (lv_sub hl [0] rfl)
    · refine lv_iconst (v := 1) hx hb dX3_barriers_7 (by decide) ?_
      refine lv_goto (tgt := 12) hx hb dX3_barriers_8 (by decide) ?_
      exact K (1 : Int32) H locs ls (by simp only [if_neg c4]) hP hS (lv_sub hl [0] rfl)
  intro v5 H locs ls hvv5 hP hS hl
  subst hvv5
  refine lv_aload_n hx hb dX3_barriers_12 rfl (lv_at hl 0 rfl) ?_
  refine kR_i (runV fx (As := []) (rest := [.int (if (f_X3_isMudBarrier w r) = 0 then (0 : Int32) else (1 : Int32))]) (c_X3_isValveBarrier l D q H.size h aw av kr kt x w v r t) lk_X3_209 ⟨Nat.le_of_ble_eq_true rfl, Nat.le_of_ble_eq_true rfl⟩ ⟨rfl, rfl⟩ hP (hD _ _ _ _ _) [0, 1, 2, 3, 4, 5, 6, 7, 8, 9, 10, 11, 12, 13] rfl rfl (ci := 3) rfl rfl rfl hl.1 rfl (Nat.le_of_ble_eq_true rfl) dX3_barriers_13 ⟨Nat.zero_le _, Nat.zero_le _⟩) hP hS (fun r6 _ H locs hr7 hP hS => ?_)
  obtain ⟨rfl, hz8⟩ := hr7
  suffices K : ∀ (v10 : Int32), ∀ (H : Heap) (locs : List Loc) (ls : Array Slot), v10 = (if (f_X3_isValveBarrier w t) = 0 then (0 : Int32) else (2 : Int32)) → va_P D vwCl (cKick h aw av kr kt q x w v r t) H → va_S A s.heap H locs → lv_has ls 1 [(0, .ref h)] → W p l e RM_X3_barriers s m args below meth c H locs 0 0 Q (F0 m 24 ls [.int v10, .int (if (f_X3_isMudBarrier w r) = 0 then (0 : Int32) else (1 : Int32))]) by
    refine lv_if_eq (tgt := 23) hx hb dX3_barriers_16 (by decide) (fun c9 => ?_) (fun c9 => ?_)
    · refine lv_iconst (v := 0) hx hb dX3_barriers_23 (by decide) ?_
      exact K (0 : Int32) H locs ls (by simp only [if_pos c9]) hP hS (lv_sub hl [0] rfl)
    · refine lv_iconst (v := 2) hx hb dX3_barriers_19 (by decide) ?_
      refine lv_goto (tgt := 24) hx hb dX3_barriers_20 (by decide) ?_
      exact K (2 : Int32) H locs ls (by simp only [if_neg c9]) hP hS (lv_sub hl [0] rfl)
  intro v10 H locs ls hvv10 hP hS hl
  subst hvv10
  refine lv_iadd hx hb dX3_barriers_24 ?_
  refine lv_aload_n hx hb dX3_barriers_25 rfl (lv_at hl 0 rfl) ?_
  refine kR_i (runV fx (As := []) (rest := [.int ((if (f_X3_isMudBarrier w r) = 0 then (0 : Int32) else (1 : Int32)) + (if (f_X3_isValveBarrier w t) = 0 then (0 : Int32) else (2 : Int32)))]) (c_X3_isCementBarrier l D q H.size h aw av kr kt x w v r t) lk_X3_212 ⟨Nat.le_of_ble_eq_true rfl, Nat.le_of_ble_eq_true rfl⟩ ⟨rfl, rfl⟩ hP (hD _ _ _ _ _) [0, 1, 2, 3, 4, 5, 6, 7, 8, 9, 10, 11, 12, 13] rfl rfl (ci := 3) rfl rfl rfl hl.1 rfl (Nat.le_of_ble_eq_true rfl) dX3_barriers_26 ⟨Nat.zero_le _, Nat.zero_le _⟩) hP hS (fun r11 _ H locs hr12 hP hS => ?_)
  obtain ⟨rfl, hz13⟩ := hr12
  refine lv_if_eq (tgt := 36) hx hb dX3_barriers_29 (by decide) (fun c14 => ?_) (fun c14 => ?_)
  · refine lv_iconst (v := 0) hx hb dX3_barriers_36 (by decide) ?_
    refine lv_iadd hx hb dX3_barriers_37 ?_
    exact hret (((if (f_X3_isMudBarrier w r) = 0 then (0 : Int32) else (1 : Int32)) + (if (f_X3_isValveBarrier w t) = 0 then (0 : Int32) else (2 : Int32))) + (0 : Int32)) _ _ _ _ dX3_barriers_38 (ht.trans (by simp only [f_X3_barriers, if_pos c14])) hS
  · refine lv_iconst (v := 4) hx hb dX3_barriers_32 (by decide) ?_
    refine lv_goto (tgt := 37) hx hb dX3_barriers_33 (by decide) ?_
    refine lv_iadd hx hb dX3_barriers_37 ?_
    exact hret (((if (f_X3_isMudBarrier w r) = 0 then (0 : Int32) else (1 : Int32)) + (if (f_X3_isValveBarrier w t) = 0 then (0 : Int32) else (2 : Int32))) + (4 : Int32)) _ _ _ _ dX3_barriers_38 (ht.trans (by simp only [f_X3_barriers, if_neg c14])) hS

/-! J6_bitCount_0f7a4 -/
def f_J6_bitCount_0f7a4 (p0 : Int32) : Int32 :=
  (((((((p0 - ((iushr p0 (1 : Int32)) &&& (1431655765 : Int32))) &&& (858993459 : Int32)) + ((iushr (p0 - ((iushr p0 (1 : Int32)) &&& (1431655765 : Int32))) (2 : Int32)) &&& (858993459 : Int32))) + (iushr (((p0 - ((iushr p0 (1 : Int32)) &&& (1431655765 : Int32))) &&& (858993459 : Int32)) + ((iushr (p0 - ((iushr p0 (1 : Int32)) &&& (1431655765 : Int32))) (2 : Int32)) &&& (858993459 : Int32))) (4 : Int32))) &&& (252645135 : Int32)) + (iushr (((((p0 - ((iushr p0 (1 : Int32)) &&& (1431655765 : Int32))) &&& (858993459 : Int32)) + ((iushr (p0 - ((iushr p0 (1 : Int32)) &&& (1431655765 : Int32))) (2 : Int32)) &&& (858993459 : Int32))) + (iushr (((p0 - ((iushr p0 (1 : Int32)) &&& (1431655765 : Int32))) &&& (858993459 : Int32)) + ((iushr (p0 - ((iushr p0 (1 : Int32)) &&& (1431655765 : Int32))) (2 : Int32)) &&& (858993459 : Int32))) (4 : Int32))) &&& (252645135 : Int32)) (8 : Int32))) + (iushr ((((((p0 - ((iushr p0 (1 : Int32)) &&& (1431655765 : Int32))) &&& (858993459 : Int32)) + ((iushr (p0 - ((iushr p0 (1 : Int32)) &&& (1431655765 : Int32))) (2 : Int32)) &&& (858993459 : Int32))) + (iushr (((p0 - ((iushr p0 (1 : Int32)) &&& (1431655765 : Int32))) &&& (858993459 : Int32)) + ((iushr (p0 - ((iushr p0 (1 : Int32)) &&& (1431655765 : Int32))) (2 : Int32)) &&& (858993459 : Int32))) (4 : Int32))) &&& (252645135 : Int32)) + (iushr (((((p0 - ((iushr p0 (1 : Int32)) &&& (1431655765 : Int32))) &&& (858993459 : Int32)) + ((iushr (p0 - ((iushr p0 (1 : Int32)) &&& (1431655765 : Int32))) (2 : Int32)) &&& (858993459 : Int32))) + (iushr (((p0 - ((iushr p0 (1 : Int32)) &&& (1431655765 : Int32))) &&& (858993459 : Int32)) + ((iushr (p0 - ((iushr p0 (1 : Int32)) &&& (1431655765 : Int32))) (2 : Int32)) &&& (858993459 : Int32))) (4 : Int32))) &&& (252645135 : Int32)) (8 : Int32))) (16 : Int32))) &&& (63 : Int32)

abbrev RM_J6_bitCount_0f7a4 : Room := { frames := 0, cells := 0, slots := 0, locals := 0 }
set_option maxRecDepth 100000 in
set_option maxHeartbeats 4000000 in
theorem c_J6_bitCount_0f7a4 (l : Launch) (D : va_G) (q : Nat → ClassId) (sz : Nat) (p0 : Int32) : Met l yJ6_bitCount_0f7a4 (Cond.code yJ6_bitCount_0f7a4 cJ6_bitCount_0f7a4 1 (some .int) :: ALL) RM_J6_bitCount_0f7a4 (PC D q [.int p0] ([]) sz) (va_Qi (fun (rv : Int32) (_ : Unit) => f_J6_bitCount_0f7a4 p0 = rv) (fun _ _ => True) (fun _ => False)) 0 0 (fun _ => False) := by
  refine en_iR (by decide +kernel) (Nat.le_of_ble_eq_true rfl) ?_
  intro p e s m args below meth c Q A H locs ls fx hD0 hP hS hl hret
  have hx := fx.1
  have hb := fx.2.1
  have hl : lv_has ls 1 [(0, .int p0)] := hl
  have hD : va_D _ ([] : va_W) := hD0
  have ht : f_J6_bitCount_0f7a4 p0 = f_J6_bitCount_0f7a4 p0 := rfl
  refine lv_iload_n hx hb dJ6_bitCount_0f7a4_0 rfl (lv_at hl 0 rfl) ?_
  refine lv_iload_n hx hb dJ6_bitCount_0f7a4_1 rfl (lv_at hl 0 rfl) ?_
  refine lv_iconst (v := 1) hx hb dJ6_bitCount_0f7a4_2 (by decide) ?_
  refine lv_iushr (v := iushr p0 (1 : Int32)) hx hb dJ6_bitCount_0f7a4_3 rfl ?_
  refine lv_ldcw hx hb fx.2.2.2.1 (fx.2.2.2.2.1 _ mm_130) dJ6_bitCount_0f7a4_4 ?_
  refine lv_iand hx hb dJ6_bitCount_0f7a4_7 ?_
  refine lv_isub hx hb dJ6_bitCount_0f7a4_8 ?_
  refine lv_istore_n (lv' := [(0, .int (p0 - ((iushr p0 (1 : Int32)) &&& (1431655765 : Int32))))]) hx hb dJ6_bitCount_0f7a4_9 rfl hl (by decide) rfl (fun ls hl => ?_)
  refine lv_iload_n hx hb dJ6_bitCount_0f7a4_10 rfl (lv_at hl 0 rfl) ?_
  refine lv_ldcw hx hb fx.2.2.2.1 (fx.2.2.2.2.1 _ mm_131) dJ6_bitCount_0f7a4_11 ?_
  refine lv_iand hx hb dJ6_bitCount_0f7a4_14 ?_
  refine lv_iload_n hx hb dJ6_bitCount_0f7a4_15 rfl (lv_at hl 0 rfl) ?_
  refine lv_iconst (v := 2) hx hb dJ6_bitCount_0f7a4_16 (by decide) ?_
  refine lv_iushr (v := iushr (p0 - ((iushr p0 (1 : Int32)) &&& (1431655765 : Int32))) (2 : Int32)) hx hb dJ6_bitCount_0f7a4_17 rfl ?_
  refine lv_ldcw hx hb fx.2.2.2.1 (fx.2.2.2.2.1 _ mm_131) dJ6_bitCount_0f7a4_18 ?_
  refine lv_iand hx hb dJ6_bitCount_0f7a4_21 ?_
  refine lv_iadd hx hb dJ6_bitCount_0f7a4_22 ?_
  refine lv_istore_n (lv' := [(0, .int (((p0 - ((iushr p0 (1 : Int32)) &&& (1431655765 : Int32))) &&& (858993459 : Int32)) + ((iushr (p0 - ((iushr p0 (1 : Int32)) &&& (1431655765 : Int32))) (2 : Int32)) &&& (858993459 : Int32))))]) hx hb dJ6_bitCount_0f7a4_23 rfl hl (by decide) rfl (fun ls hl => ?_)
  refine lv_iload_n hx hb dJ6_bitCount_0f7a4_24 rfl (lv_at hl 0 rfl) ?_
  refine lv_iload_n hx hb dJ6_bitCount_0f7a4_25 rfl (lv_at hl 0 rfl) ?_
  refine lv_iconst (v := 4) hx hb dJ6_bitCount_0f7a4_26 (by decide) ?_
  refine lv_iushr (v := iushr (((p0 - ((iushr p0 (1 : Int32)) &&& (1431655765 : Int32))) &&& (858993459 : Int32)) + ((iushr (p0 - ((iushr p0 (1 : Int32)) &&& (1431655765 : Int32))) (2 : Int32)) &&& (858993459 : Int32))) (4 : Int32)) hx hb dJ6_bitCount_0f7a4_27 rfl ?_
  refine lv_iadd hx hb dJ6_bitCount_0f7a4_28 ?_
  refine lv_ldcw hx hb fx.2.2.2.1 (fx.2.2.2.2.1 _ mm_132) dJ6_bitCount_0f7a4_29 ?_
  refine lv_iand hx hb dJ6_bitCount_0f7a4_32 ?_
  refine lv_istore_n (lv' := [(0, .int (((((p0 - ((iushr p0 (1 : Int32)) &&& (1431655765 : Int32))) &&& (858993459 : Int32)) + ((iushr (p0 - ((iushr p0 (1 : Int32)) &&& (1431655765 : Int32))) (2 : Int32)) &&& (858993459 : Int32))) + (iushr (((p0 - ((iushr p0 (1 : Int32)) &&& (1431655765 : Int32))) &&& (858993459 : Int32)) + ((iushr (p0 - ((iushr p0 (1 : Int32)) &&& (1431655765 : Int32))) (2 : Int32)) &&& (858993459 : Int32))) (4 : Int32))) &&& (252645135 : Int32)))]) hx hb dJ6_bitCount_0f7a4_33 rfl hl (by decide) rfl (fun ls hl => ?_)
  refine lv_iload_n hx hb dJ6_bitCount_0f7a4_34 rfl (lv_at hl 0 rfl) ?_
  refine lv_iload_n hx hb dJ6_bitCount_0f7a4_35 rfl (lv_at hl 0 rfl) ?_
  refine lv_bipush (v := 8) hx hb dJ6_bitCount_0f7a4_36 (by decide) ?_
  refine lv_iushr (v := iushr (((((p0 - ((iushr p0 (1 : Int32)) &&& (1431655765 : Int32))) &&& (858993459 : Int32)) + ((iushr (p0 - ((iushr p0 (1 : Int32)) &&& (1431655765 : Int32))) (2 : Int32)) &&& (858993459 : Int32))) + (iushr (((p0 - ((iushr p0 (1 : Int32)) &&& (1431655765 : Int32))) &&& (858993459 : Int32)) + ((iushr (p0 - ((iushr p0 (1 : Int32)) &&& (1431655765 : Int32))) (2 : Int32)) &&& (858993459 : Int32))) (4 : Int32))) &&& (252645135 : Int32)) (8 : Int32)) hx hb dJ6_bitCount_0f7a4_38 rfl ?_
  refine lv_iadd hx hb dJ6_bitCount_0f7a4_39 ?_
  refine lv_istore_n (lv' := [(0, .int ((((((p0 - ((iushr p0 (1 : Int32)) &&& (1431655765 : Int32))) &&& (858993459 : Int32)) + ((iushr (p0 - ((iushr p0 (1 : Int32)) &&& (1431655765 : Int32))) (2 : Int32)) &&& (858993459 : Int32))) + (iushr (((p0 - ((iushr p0 (1 : Int32)) &&& (1431655765 : Int32))) &&& (858993459 : Int32)) + ((iushr (p0 - ((iushr p0 (1 : Int32)) &&& (1431655765 : Int32))) (2 : Int32)) &&& (858993459 : Int32))) (4 : Int32))) &&& (252645135 : Int32)) + (iushr (((((p0 - ((iushr p0 (1 : Int32)) &&& (1431655765 : Int32))) &&& (858993459 : Int32)) + ((iushr (p0 - ((iushr p0 (1 : Int32)) &&& (1431655765 : Int32))) (2 : Int32)) &&& (858993459 : Int32))) + (iushr (((p0 - ((iushr p0 (1 : Int32)) &&& (1431655765 : Int32))) &&& (858993459 : Int32)) + ((iushr (p0 - ((iushr p0 (1 : Int32)) &&& (1431655765 : Int32))) (2 : Int32)) &&& (858993459 : Int32))) (4 : Int32))) &&& (252645135 : Int32)) (8 : Int32))))]) hx hb dJ6_bitCount_0f7a4_40 rfl hl (by decide) rfl (fun ls hl => ?_)
  refine lv_iload_n hx hb dJ6_bitCount_0f7a4_41 rfl (lv_at hl 0 rfl) ?_
  refine lv_iload_n hx hb dJ6_bitCount_0f7a4_42 rfl (lv_at hl 0 rfl) ?_
  refine lv_bipush (v := 16) hx hb dJ6_bitCount_0f7a4_43 (by decide) ?_
  refine lv_iushr (v := iushr ((((((p0 - ((iushr p0 (1 : Int32)) &&& (1431655765 : Int32))) &&& (858993459 : Int32)) + ((iushr (p0 - ((iushr p0 (1 : Int32)) &&& (1431655765 : Int32))) (2 : Int32)) &&& (858993459 : Int32))) + (iushr (((p0 - ((iushr p0 (1 : Int32)) &&& (1431655765 : Int32))) &&& (858993459 : Int32)) + ((iushr (p0 - ((iushr p0 (1 : Int32)) &&& (1431655765 : Int32))) (2 : Int32)) &&& (858993459 : Int32))) (4 : Int32))) &&& (252645135 : Int32)) + (iushr (((((p0 - ((iushr p0 (1 : Int32)) &&& (1431655765 : Int32))) &&& (858993459 : Int32)) + ((iushr (p0 - ((iushr p0 (1 : Int32)) &&& (1431655765 : Int32))) (2 : Int32)) &&& (858993459 : Int32))) + (iushr (((p0 - ((iushr p0 (1 : Int32)) &&& (1431655765 : Int32))) &&& (858993459 : Int32)) + ((iushr (p0 - ((iushr p0 (1 : Int32)) &&& (1431655765 : Int32))) (2 : Int32)) &&& (858993459 : Int32))) (4 : Int32))) &&& (252645135 : Int32)) (8 : Int32))) (16 : Int32)) hx hb dJ6_bitCount_0f7a4_45 rfl ?_
  refine lv_iadd hx hb dJ6_bitCount_0f7a4_46 ?_
  refine lv_istore_n (lv' := [(0, .int (((((((p0 - ((iushr p0 (1 : Int32)) &&& (1431655765 : Int32))) &&& (858993459 : Int32)) + ((iushr (p0 - ((iushr p0 (1 : Int32)) &&& (1431655765 : Int32))) (2 : Int32)) &&& (858993459 : Int32))) + (iushr (((p0 - ((iushr p0 (1 : Int32)) &&& (1431655765 : Int32))) &&& (858993459 : Int32)) + ((iushr (p0 - ((iushr p0 (1 : Int32)) &&& (1431655765 : Int32))) (2 : Int32)) &&& (858993459 : Int32))) (4 : Int32))) &&& (252645135 : Int32)) + (iushr (((((p0 - ((iushr p0 (1 : Int32)) &&& (1431655765 : Int32))) &&& (858993459 : Int32)) + ((iushr (p0 - ((iushr p0 (1 : Int32)) &&& (1431655765 : Int32))) (2 : Int32)) &&& (858993459 : Int32))) + (iushr (((p0 - ((iushr p0 (1 : Int32)) &&& (1431655765 : Int32))) &&& (858993459 : Int32)) + ((iushr (p0 - ((iushr p0 (1 : Int32)) &&& (1431655765 : Int32))) (2 : Int32)) &&& (858993459 : Int32))) (4 : Int32))) &&& (252645135 : Int32)) (8 : Int32))) + (iushr ((((((p0 - ((iushr p0 (1 : Int32)) &&& (1431655765 : Int32))) &&& (858993459 : Int32)) + ((iushr (p0 - ((iushr p0 (1 : Int32)) &&& (1431655765 : Int32))) (2 : Int32)) &&& (858993459 : Int32))) + (iushr (((p0 - ((iushr p0 (1 : Int32)) &&& (1431655765 : Int32))) &&& (858993459 : Int32)) + ((iushr (p0 - ((iushr p0 (1 : Int32)) &&& (1431655765 : Int32))) (2 : Int32)) &&& (858993459 : Int32))) (4 : Int32))) &&& (252645135 : Int32)) + (iushr (((((p0 - ((iushr p0 (1 : Int32)) &&& (1431655765 : Int32))) &&& (858993459 : Int32)) + ((iushr (p0 - ((iushr p0 (1 : Int32)) &&& (1431655765 : Int32))) (2 : Int32)) &&& (858993459 : Int32))) + (iushr (((p0 - ((iushr p0 (1 : Int32)) &&& (1431655765 : Int32))) &&& (858993459 : Int32)) + ((iushr (p0 - ((iushr p0 (1 : Int32)) &&& (1431655765 : Int32))) (2 : Int32)) &&& (858993459 : Int32))) (4 : Int32))) &&& (252645135 : Int32)) (8 : Int32))) (16 : Int32))))]) hx hb dJ6_bitCount_0f7a4_47 rfl hl (by decide) rfl (fun ls hl => ?_)
  refine lv_iload_n hx hb dJ6_bitCount_0f7a4_48 rfl (lv_at hl 0 rfl) ?_
  refine lv_bipush (v := 63) hx hb dJ6_bitCount_0f7a4_49 (by decide) ?_
  refine lv_iand hx hb dJ6_bitCount_0f7a4_51 ?_
  exact hret ((((((((p0 - ((iushr p0 (1 : Int32)) &&& (1431655765 : Int32))) &&& (858993459 : Int32)) + ((iushr (p0 - ((iushr p0 (1 : Int32)) &&& (1431655765 : Int32))) (2 : Int32)) &&& (858993459 : Int32))) + (iushr (((p0 - ((iushr p0 (1 : Int32)) &&& (1431655765 : Int32))) &&& (858993459 : Int32)) + ((iushr (p0 - ((iushr p0 (1 : Int32)) &&& (1431655765 : Int32))) (2 : Int32)) &&& (858993459 : Int32))) (4 : Int32))) &&& (252645135 : Int32)) + (iushr (((((p0 - ((iushr p0 (1 : Int32)) &&& (1431655765 : Int32))) &&& (858993459 : Int32)) + ((iushr (p0 - ((iushr p0 (1 : Int32)) &&& (1431655765 : Int32))) (2 : Int32)) &&& (858993459 : Int32))) + (iushr (((p0 - ((iushr p0 (1 : Int32)) &&& (1431655765 : Int32))) &&& (858993459 : Int32)) + ((iushr (p0 - ((iushr p0 (1 : Int32)) &&& (1431655765 : Int32))) (2 : Int32)) &&& (858993459 : Int32))) (4 : Int32))) &&& (252645135 : Int32)) (8 : Int32))) + (iushr ((((((p0 - ((iushr p0 (1 : Int32)) &&& (1431655765 : Int32))) &&& (858993459 : Int32)) + ((iushr (p0 - ((iushr p0 (1 : Int32)) &&& (1431655765 : Int32))) (2 : Int32)) &&& (858993459 : Int32))) + (iushr (((p0 - ((iushr p0 (1 : Int32)) &&& (1431655765 : Int32))) &&& (858993459 : Int32)) + ((iushr (p0 - ((iushr p0 (1 : Int32)) &&& (1431655765 : Int32))) (2 : Int32)) &&& (858993459 : Int32))) (4 : Int32))) &&& (252645135 : Int32)) + (iushr (((((p0 - ((iushr p0 (1 : Int32)) &&& (1431655765 : Int32))) &&& (858993459 : Int32)) + ((iushr (p0 - ((iushr p0 (1 : Int32)) &&& (1431655765 : Int32))) (2 : Int32)) &&& (858993459 : Int32))) + (iushr (((p0 - ((iushr p0 (1 : Int32)) &&& (1431655765 : Int32))) &&& (858993459 : Int32)) + ((iushr (p0 - ((iushr p0 (1 : Int32)) &&& (1431655765 : Int32))) (2 : Int32)) &&& (858993459 : Int32))) (4 : Int32))) &&& (252645135 : Int32)) (8 : Int32))) (16 : Int32))) &&& (63 : Int32)) _ _ _ _ dJ6_bitCount_0f7a4_52 (ht.trans (by simp only [f_J6_bitCount_0f7a4])) hS

/-! X3_bars -/
def f_X3_bars (x : XS) (w : WS) (r : RS) (t : TS) : Int32 :=
  if (X_stops x) = 0 then (if (W_isClosed w) = 0 then (if (f_X2_hasInflow w) = 0 then (if (2 : Int32) ≤ (f_J6_bitCount_0f7a4 (f_X3_barriers w r t)) then (if (W_depth w) < (5000 : Int32) then (0 : Int32) else (5 : Int32)) else (4 : Int32)) else (3 : Int32)) else (2 : Int32)) else (1 : Int32)

abbrev RM_X3_bars : Room := { frames := 5, cells := 0, slots := 0, locals := 104 }
set_option maxRecDepth 100000 in
set_option maxHeartbeats 4000000 in
theorem c_X3_bars (l : Launch) (D : va_G) (q : Nat → ClassId) (sz : Nat) (h : Nat) (aw : Nat) (av : Nat) (kr : Nat → Nat) (kt : Nat → Nat) (x : XS) (w : WS) (v : WS) (r : RS) (t : TS) : Met l yX3_bars (Cond.code yX3_bars cX3_bars 1 (some .int) :: ALL) RM_X3_bars (PC D q [.ref h] (cKick h aw av kr kt q x w v r t) sz) (va_Qi (fun (rv : Int32) (_ : Unit) => f_X3_bars x w r t = rv) (fun _ _ => True) (fun _ => False)) 0 0 (fun _ => False) := by
  refine en_iR (by decide +kernel) (Nat.le_of_ble_eq_true rfl) ?_
  intro p e s m args below meth c Q A H locs ls fx hD0 hP hS hl hret
  have hx := fx.1
  have hb := fx.2.1
  have hl : lv_has ls 1 [(0, .ref h)] := hl
  have hD : ∀ (x9 : XS) (w9 : WS) (v9 : WS) (r9 : RS) (t9 : TS), va_D _ (cKick h aw av kr kt q x9 w9 v9 r9 t9) := fun _ _ _ _ _ => D_same ((fst_Kick _ _ _ _ _ _ _ _ _ _ _).trans (fst_Kick _ _ _ _ _ _ _ _ _ _ _).symm) hD0
  have ht : f_X3_bars x w r t = f_X3_bars x w r t := rfl
  refine lv_aload_n hx hb dX3_bars_0 rfl (lv_at hl 0 rfl) ?_
  refine gf_X3_163 fx hP 0 rfl (v := X_stops x) rfl dX3_bars_1 ?_
  refine lv_if_eq (tgt := 9) hx hb dX3_bars_4 (by decide) (fun c1 => ?_) (fun c1 => ?_)
  · refine lv_aload_n hx hb dX3_bars_9 rfl (lv_at hl 0 rfl) ?_
    refine gf_X3_21 fx hP 0 rfl dX3_bars_10 ?_
    refine gf_X3_69 fx hP 1 rfl (v := W_isClosed w) rfl dX3_bars_13 ?_
    refine lv_if_eq (tgt := 21) hx hb dX3_bars_16 (by decide) (fun c2 => ?_) (fun c2 => ?_)
    · refine lv_aload_n hx hb dX3_bars_21 rfl (lv_at hl 0 rfl) ?_
      refine gf_X3_21 fx hP 0 rfl dX3_bars_22 ?_
      refine kR_i (runVN fx (As := []) (rest := []) (c_X2_hasInflow l D q H.size aw kr w r) lk_X3_126 ⟨Nat.le_of_ble_eq_true rfl, Nat.le_of_ble_eq_true rfl⟩ ⟨rfl, rfl⟩ hP (hD _ _ _ _ _) [1, 3, 4, 5, 6, 7, 8] rfl rfl (ci := 2) rfl rfl rfl hl.1 rfl (Nat.le_of_ble_eq_true rfl) dX3_bars_25 ⟨Nat.zero_le _, Nat.zero_le _⟩) hP hS (fun r3 _ H locs hr4 hP hS => ?_)
      obtain ⟨rfl, hz5⟩ := hr4
      refine lv_if_eq (tgt := 33) hx hb dX3_bars_28 (by decide) (fun c6 => ?_) (fun c6 => ?_)
      · refine lv_aload_n hx hb dX3_bars_33 rfl (lv_at hl 0 rfl) ?_
        refine kR_i (runV fx (As := []) (rest := []) (c_X3_barriers l D q H.size h aw av kr kt x w v r t) lk_X3_215 ⟨Nat.le_of_ble_eq_true rfl, Nat.le_of_ble_eq_true rfl⟩ ⟨rfl, rfl⟩ hP (hD _ _ _ _ _) [0, 1, 2, 3, 4, 5, 6, 7, 8, 9, 10, 11, 12, 13] rfl rfl (ci := 3) rfl rfl rfl hl.1 rfl (Nat.le_of_ble_eq_true rfl) dX3_bars_34 ⟨Nat.zero_le _, Nat.zero_le _⟩) hP hS (fun r7 _ H locs hr8 hP hS => ?_)
        subst hr8
        refine kR_i (runS fx (As := [.int (f_X3_barriers w r t)]) (rest := []) (c_J6_bitCount_0f7a4 l D q H.size (f_X3_barriers w r t)) lk_X3_166 ⟨Nat.le_of_ble_eq_true rfl, Nat.le_of_ble_eq_true rfl⟩ ⟨rfl, rfl⟩ hP (hD _ _ _ _ _) [] rfl rfl rfl hl.1 rfl (Nat.le_of_ble_eq_true rfl) dX3_bars_37 ⟨Nat.zero_le _, Nat.zero_le _⟩) hP hS (fun r9 _ H locs hr10 hP hS => ?_)
        subst hr10
        refine lv_iconst (v := 2) hx hb dX3_bars_40 (by decide) ?_
        refine lv_icmp_ge (tgt := 46) hx hb dX3_bars_41 (by decide) (fun c11 => ?_) (fun c11 => ?_)
        · refine lv_aload_n hx hb dX3_bars_46 rfl (lv_at hl 0 rfl) ?_
          refine gf_X3_21 fx hP 0 rfl dX3_bars_47 ?_
          refine gf_X3_55 fx hP 1 rfl (v := W_depth w) rfl dX3_bars_50 ?_
          refine lv_sipush (v := 5000) hx hb dX3_bars_53 (by decide) ?_
          refine lv_icmp_lt (tgt := 63) hx hb dX3_bars_56 (by decide) (fun c12 => ?_) (fun c12 => ?_)
          · refine lv_iconst (v := 0) hx hb dX3_bars_63 (by decide) ?_
            exact hret (0 : Int32) _ _ _ _ dX3_bars_64 (ht.trans (by simp only [f_X3_bars, if_pos c1, if_pos c2, if_pos c6, if_pos c11, if_pos c12])) hS
          · refine lv_iconst (v := 5) hx hb dX3_bars_59 (by decide) ?_
            refine lv_goto (tgt := 64) hx hb dX3_bars_60 (by decide) ?_
            exact hret (5 : Int32) _ _ _ _ dX3_bars_64 (ht.trans (by simp only [f_X3_bars, if_pos c1, if_pos c2, if_pos c6, if_pos c11, if_neg c12])) hS
        · refine lv_iconst (v := 4) hx hb dX3_bars_44 (by decide) ?_
          exact hret (4 : Int32) _ _ _ _ dX3_bars_45 (ht.trans (by simp only [f_X3_bars, if_pos c1, if_pos c2, if_pos c6, if_neg c11])) hS
      · refine lv_iconst (v := 3) hx hb dX3_bars_31 (by decide) ?_
        exact hret (3 : Int32) _ _ _ _ dX3_bars_32 (ht.trans (by simp only [f_X3_bars, if_pos c1, if_pos c2, if_neg c6])) hS
    · refine lv_iconst (v := 2) hx hb dX3_bars_19 (by decide) ?_
      exact hret (2 : Int32) _ _ _ _ dX3_bars_20 (ht.trans (by simp only [f_X3_bars, if_pos c1, if_neg c2])) hS
  · refine lv_iconst (v := 1) hx hb dX3_bars_7 (by decide) ?_
    exact hret (1 : Int32) _ _ _ _ dX3_bars_8 (ht.trans (by simp only [f_X3_bars, if_neg c1])) hS

/-! X3_pumpOn -/
def f_X3_pumpOn (x : XS) (w : WS) (p0 : Int32) : XS × WS :=
  if ((X_pumped x) + (20 : Int32)) < (W_depth w) then (X_set_pumped x ((X_pumped x) + (20 : Int32)), w) else (X_set_pumped (X_set_pumped x ((X_pumped x) + (20 : Int32))) (0 : Int32), W_set_liquid (W_set_weight w p0) (0 : Int32))

abbrev RM_X3_pumpOn : Room := { frames := 0, cells := 0, slots := 0, locals := 0 }
set_option maxRecDepth 100000 in
set_option maxHeartbeats 4000000 in
theorem c_X3_pumpOn (l : Launch) (D : va_G) (q : Nat → ClassId) (sz : Nat) (h : Nat) (aw : Nat) (av : Nat) (kr : Nat → Nat) (kt : Nat → Nat) (x : XS) (w : WS) (v : WS) (r : RS) (t : TS) (p0 : Int32) : Met l yX3_pumpOn (Cond.code yX3_pumpOn cX3_pumpOn 2 none :: ALL) RM_X3_pumpOn (PC D q [.ref h, .int p0] (cKick h aw av kr kt q x w v r t) sz) (va_Qv (fun (u : XS × WS) => f_X3_pumpOn x w p0 = u) (fun u t9 => va_P D vwCl (cKick h aw av kr kt q u.1 u.2 v r t) t9.heap) (va_A (cKick h aw av kr kt q x w v r t) sz)) 0 0 (va_A (cKick h aw av kr kt q x w v r t) sz) := by
  refine en_vW (by decide +kernel) (Nat.le_of_ble_eq_true rfl) ?_
  intro p e s m args below meth c Q A H locs ls fx hD0 hA hP hS hl hret
  have hx := fx.1
  have hb := fx.2.1
  have hl : lv_has ls 2 [(0, .ref h), (1, .int p0)] := hl
  have hD : ∀ (x9 : XS) (w9 : WS) (v9 : WS) (r9 : RS) (t9 : TS), va_D _ (cKick h aw av kr kt q x9 w9 v9 r9 t9) := fun _ _ _ _ _ => D_same ((fst_Kick _ _ _ _ _ _ _ _ _ _ _).trans (fst_Kick _ _ _ _ _ _ _ _ _ _ _).symm) hD0
  have ht : f_X3_pumpOn x w p0 = f_X3_pumpOn x w p0 := rfl
  refine lv_aload_n hx hb dX3_pumpOn_0 rfl (lv_at hl 0 rfl) ?_
  refine lv_dup hx hb dX3_pumpOn_1 rfl ?_
  refine gf_X3_78 fx hP 0 rfl (v := X_pumped x) rfl dX3_pumpOn_2 ?_
  refine lv_bipush (v := 20) hx hb dX3_pumpOn_5 (by decide) ?_
  refine lv_iadd hx hb dX3_pumpOn_7 ?_
  refine pf_X3_78 fx hP (hD _ _ _ _ _) hS 0 rfl dX3_pumpOn_8 (fun H locs hP hS => ?_)
  have hP : va_P D vwCl (cKick h aw av kr kt q (X_set_pumped x ((X_pumped x) + (20 : Int32))) w v r t) H := hP
  refine lv_aload_n hx hb dX3_pumpOn_11 rfl (lv_at hl 0 rfl) ?_
  refine gf_X3_78 fx hP 0 rfl (v := (X_pumped x) + (20 : Int32)) (X_pumped_set_pumped _ _) dX3_pumpOn_12 ?_
  refine lv_aload_n hx hb dX3_pumpOn_15 rfl (lv_at hl 0 rfl) ?_
  refine gf_X3_21 fx hP 0 rfl dX3_pumpOn_16 ?_
  refine gf_X3_55 fx hP 1 rfl (v := W_depth w) rfl dX3_pumpOn_19 ?_
  refine lv_icmp_lt (tgt := 46) hx hb dX3_pumpOn_22 (by decide) (fun c1 => ?_) (fun c1 => ?_)
  · exact hret (X_set_pumped x ((X_pumped x) + (20 : Int32)), w) _ _ _ _ dX3_pumpOn_46 (ht.trans (by simp only [f_X3_pumpOn, if_pos c1])) hP hS
  · refine lv_aload_n hx hb dX3_pumpOn_25 rfl (lv_at hl 0 rfl) ?_
    refine gf_X3_21 fx hP 0 rfl dX3_pumpOn_26 ?_
    refine lv_iload_n hx hb dX3_pumpOn_29 rfl (lv_at hl 1 rfl) ?_
    refine pf_X3_75 fx hP (hD _ _ _ _ _) hS 1 rfl dX3_pumpOn_30 (fun H locs hP hS => ?_)
    have hP : va_P D vwCl (cKick h aw av kr kt q (X_set_pumped x ((X_pumped x) + (20 : Int32))) (W_set_weight w p0) v r t) H := hP
    refine lv_aload_n hx hb dX3_pumpOn_33 rfl (lv_at hl 0 rfl) ?_
    refine gf_X3_21 fx hP 0 rfl dX3_pumpOn_34 ?_
    refine lv_iconst (v := 0) hx hb dX3_pumpOn_37 (by decide) ?_
    refine pf_X3_118 fx hP (hD _ _ _ _ _) hS 1 rfl dX3_pumpOn_38 (fun H locs hP hS => ?_)
    have hP : va_P D vwCl (cKick h aw av kr kt q (X_set_pumped x ((X_pumped x) + (20 : Int32))) (W_set_liquid (W_set_weight w p0) (0 : Int32)) v r t) H := hP
    refine lv_aload_n hx hb dX3_pumpOn_41 rfl (lv_at hl 0 rfl) ?_
    refine lv_iconst (v := 0) hx hb dX3_pumpOn_42 (by decide) ?_
    refine pf_X3_78 fx hP (hD _ _ _ _ _) hS 0 rfl dX3_pumpOn_43 (fun H locs hP hS => ?_)
    have hP : va_P D vwCl (cKick h aw av kr kt q (X_set_pumped (X_set_pumped x ((X_pumped x) + (20 : Int32))) (0 : Int32)) (W_set_liquid (W_set_weight w p0) (0 : Int32)) v r t) H := hP
    exact hret (X_set_pumped (X_set_pumped x ((X_pumped x) + (20 : Int32))) (0 : Int32), W_set_liquid (W_set_weight w p0) (0 : Int32)) _ _ _ _ dX3_pumpOn_46 (ht.trans (by simp only [f_X3_pumpOn, if_neg c1])) hP hS

