
/-! areAlike: of two objects that differ in their trials and their pieces alone it says 1; how many cells its throws make at least. -/
theorem lgc {a b : Int64} (h : b = a) : lg_cmp a b = 0 := by subst h; simp [lg_cmp]
theorem pc_bars (x : XS) (w : WS) (r : RS) (t : TS) (z : Nat → Int32) : f_X3_bars x w (R_set_pieces r z) t = f_X3_bars x w r t := rfl
theorem pc_barriers (w : WS) (r : RS) (t : TS) (z : Nat → Int32) : f_X3_barriers w (R_set_pieces r z) t = f_X3_barriers w r t := rfl
theorem pc_pressure (w : WS) (r : RS) (z : Nat → Int32) (k : Int32) : f_L_pressure w (R_set_pieces r z) k = f_L_pressure w r k := rfl
theorem pc_above_L (r : RS) (z : Nat → Int32) (p0 : Int32) : ∀ (n : Nat) (a b c d : Int32), f_X0_piecesFromAbove_L12 (R_set_pieces r z) p0 n a b c d = f_X0_piecesFromAbove_L12 r p0 n a b c d
  | 0, _, _, _, _ => rfl
  | n + 1, a, b, c, d => by simp only [f_X0_piecesFromAbove_L12, R_pores_set_pieces, R_breaks_set_pieces, pc_above_L r z p0 n]
theorem pc_above_ok (r : RS) (z : Nat → Int32) (p0 : Int32) : ∀ (n : Nat) (a b c d : Int32), ok_X0_piecesFromAbove_L12 (R_set_pieces r z) p0 n a b c d = ok_X0_piecesFromAbove_L12 r p0 n a b c d
  | 0, _, _, _, _ => rfl
  | n + 1, a, b, c, d => by simp only [ok_X0_piecesFromAbove_L12, R_pores_set_pieces, R_breaks_set_pieces, pc_above_ok r z p0 n]
theorem pc_casings (N : Nat) (r : RS) (z : Nat → Int32) (k : Int32) : f_L_casings N (R_set_pieces r z) k = f_L_casings N r k := by
  simp only [f_L_casings, f_X3_casings, f_X0_piecesFromAbove, pc_above_L]
  rfl
theorem pcok_casings (N : Nat) (r : RS) (z : Nat → Int32) (k : Int32) : ok_L_casings N (R_set_pieces r z) k ↔ ok_L_casings N r k := by
  simp only [ok_L_casings, ok_X3_casings, f_X3_casings, ok_X0_piecesFromAbove, f_X0_piecesFromAbove, pc_above_L, pc_above_ok]
/-- how many cells the throws of k rounds make at least -/
def cntA (w : WS) (r : RS) (t : TS) (p0 : Int32) : Nat → Nat
  | 0 => 0
  | k + 1 => cntA w r t p0 k + ((f_L_pressure w r (Int32.ofNat k)).1 * 2 + (f_L_ofTest t (Int32.ofNat k) (f_L_low p0 (4 : Int32))).1 * 2)
theorem k12 {k : Nat} (h : k < 12) : ¬ (12 : Int32) ≤ Int32.ofNat k := by
  rcases (show k = 0 ∨ k = 1 ∨ k = 2 ∨ k = 3 ∨ k = 4 ∨ k = 5 ∨ k = 6 ∨ k = 7 ∨ k = 8 ∨ k = 9 ∨ k = 10 ∨ k = 11 by omega) with rfl | rfl | rfl | rfl | rfl | rfl | rfl | rfl | rfl | rfl | rfl | rfl <;> decide
theorem k_up {k : Nat} : Int32.ofNat k + (1 : Int32) = Int32.ofNat (k + 1) := by
  rw [Int32.ofNat_add]; rfl

abbrev RM_L_areAlike : Room := { frames := 8, cells := 100, slots := 600, locals := 135 }
set_option maxRecDepth 100000 in
set_option maxHeartbeats 8000000 in
theorem c_L_areAlike (l : Launch) (D : va_G) (q : Nat → ClassId) (sz : Nat) (h aw av : Nat) (kr kt : Nat → Nat) (h2 aw2 av2 : Nat) (kr2 kt2 : Nat → Nat) (x : XS) (w v : WS) (r : RS) (t : TS) (v2 : WS) (z : Nat → Int32) (p0 : Int32) (N : Nat) (hokc : ok_L_casings N r (5000 : Int32)) (hoke : ok_L_equivalent w) (hstk : l.stackTraces = false) :
    Met l yL_areAlike (Cond.code yL_areAlike cL_areAlike 5 (some .boolean) :: ALL) RM_L_areAlike (PX D q [.ref h, .ref h2, .int p0] (cPair h aw av kr kt h2 aw2 av2 kr2 kt2 q x w v r t x w v2 (R_set_pieces r z) t) sz) (va_Qi (fun (rv : Int32) (u : Nat × Unit) => (rv = 1 ∧ cntA w r t p0 12 ≤ u.1) ∧ bz rv) (fun u t9 => va_P D vwCl (cPair h aw av kr kt h2 aw2 av2 kr2 kt2 q x w v r t x w v2 (R_set_pieces r z) t) t9.heap ∧ sz + u.1 ≤ t9.heap.size) (va_A (cPair h aw av kr kt h2 aw2 av2 kr2 kt2 q x w v r t x w v2 (R_set_pieces r z) t) sz)) 100 600 (va_A (cPair h aw av kr kt h2 aw2 av2 kr2 kt2 q x w v r t x w v2 (R_set_pieces r z) t) sz) := by
  refine en_cz (post := fun (rv : Int32) (u : Nat × Unit) => rv = 1 ∧ cntA w r t p0 12 ≤ u.1) (C := fun (_ : Unit) => cPair h aw av kr kt h2 aw2 av2 kr2 kt2 q x w v r t x w v2 (R_set_pieces r z) t) rfl (by decide +kernel) (Nat.le_of_ble_eq_true rfl) ?_
  intro p e s m args below meth c Q A H locs ls fx hSX hSZ0 hD0 hA hP hS hl hret
  have hx := fx.1
  have hb := fx.2.1
  have hg : s.heap.size + 0 ≤ H.size := hS.1
  have hl : lv_has ls 5 [(0, .ref h), (1, .ref h2), (2, .int p0)] := hl
  have hD : va_D A (cPair h aw av kr kt h2 aw2 av2 kr2 kt2 q x w v r t x w v2 (R_set_pieces r z) t) := hD0
  suffices LP : ∀ (j k : Nat), k + j = 12 → ∀ (H : Heap) (locs : List Loc) (ls : Array Slot), va_P D vwCl (cPair h aw av kr kt h2 aw2 av2 kr2 kt2 q x w v r t x w v2 (R_set_pieces r z) t) H → va_S A s.heap H locs → s.heap.size + cntA w r t p0 k ≤ H.size → lv_has ls 5 [(0, .ref h), (1, .ref h2), (2, .int p0), (3, .int 1), (4, .int (Int32.ofNat k))] → W p l e RM_L_areAlike s m args below meth c H locs (6 * k) (36 * k) Q (F0 m 31 ls []) by
    refine lv_aload_n hx hb dL_areAlike_0 rfl (lv_at hl 0 rfl) ?_
    refine kRg_i (runV fx (As := []) (rest := []) (c_X3_bars l D q H.size h aw av kr kt x w v r t) lk_L_116 ⟨Nat.le_of_ble_eq_true rfl, Nat.le_of_ble_eq_true rfl⟩ ⟨rfl, rfl⟩ hP hD [0, 1, 2, 3, 4, 5, 6, 7, 8, 9, 10, 11, 12, 13] rfl rfl (ci := 3) rfl rfl rfl hl.1 rfl (Nat.le_of_ble_eq_true rfl) dL_areAlike_1 ⟨Nat.zero_le _, Nat.zero_le _⟩) hP hS hg (fun r1 _ H locs hr2 hP hS hg => ?_)
    subst hr2
    refine lv_aload_n hx hb dL_areAlike_4 rfl (lv_at hl 1 rfl) ?_
    refine kRg_i (runV fx (As := []) (rest := [.int (f_X3_bars x w r t)]) (c_X3_bars l D q H.size h2 aw2 av2 kr2 kt2 x w v2 (R_set_pieces r z) t) lk_L_116 ⟨Nat.le_of_ble_eq_true rfl, Nat.le_of_ble_eq_true rfl⟩ ⟨rfl, rfl⟩ hP hD [14, 15, 16, 17, 18, 19, 20, 21, 22, 23, 24, 25, 26, 27] rfl rfl (ci := 3) rfl rfl rfl hl.1 rfl (Nat.le_of_ble_eq_true rfl) dL_areAlike_5 ⟨Nat.zero_le _, Nat.zero_le _⟩) hP hS hg (fun r3 _ H locs hr4 hP hS hg => ?_)
    subst hr4
    refine lv_icmp_ne (tgt := 26) hx hb dL_areAlike_8 (by decide) (fun h9 => absurd (pc_bars x w r t z).symm h9) (fun _ => ?_)
    refine lv_aload_n hx hb dL_areAlike_11 rfl (lv_at hl 0 rfl) ?_
    refine kRg_i (runV fx (As := []) (rest := []) (c_X3_barriers l D q H.size h aw av kr kt x w v r t) lk_L_131 ⟨Nat.le_of_ble_eq_true rfl, Nat.le_of_ble_eq_true rfl⟩ ⟨rfl, rfl⟩ hP hD [0, 1, 2, 3, 4, 5, 6, 7, 8, 9, 10, 11, 12, 13] rfl rfl (ci := 3) rfl rfl rfl hl.1 rfl (Nat.le_of_ble_eq_true rfl) dL_areAlike_12 ⟨Nat.zero_le _, Nat.zero_le _⟩) hP hS hg (fun r5 _ H locs hr6 hP hS hg => ?_)
    subst hr6
    refine lv_aload_n hx hb dL_areAlike_15 rfl (lv_at hl 1 rfl) ?_
    refine kRg_i (runV fx (As := []) (rest := [.int (f_X3_barriers w r t)]) (c_X3_barriers l D q H.size h2 aw2 av2 kr2 kt2 x w v2 (R_set_pieces r z) t) lk_L_131 ⟨Nat.le_of_ble_eq_true rfl, Nat.le_of_ble_eq_true rfl⟩ ⟨rfl, rfl⟩ hP hD [14, 15, 16, 17, 18, 19, 20, 21, 22, 23, 24, 25, 26, 27] rfl rfl (ci := 3) rfl rfl rfl hl.1 rfl (Nat.le_of_ble_eq_true rfl) dL_areAlike_16 ⟨Nat.zero_le _, Nat.zero_le _⟩) hP hS hg (fun r7 _ H locs hr8 hP hS hg => ?_)
    subst hr8
    refine lv_icmp_ne (tgt := 26) hx hb dL_areAlike_19 (by decide) (fun h9 => absurd (pc_barriers w r t z).symm h9) (fun _ => ?_)
    refine lv_iconst (v := 1) hx hb dL_areAlike_22 (by decide) ?_
    refine lv_goto (tgt := 27) hx hb dL_areAlike_23 (by decide) ?_
    refine lv_istore_n (lv' := [(3, .int (1 : Int32)), (0, .ref h), (1, .ref h2), (2, .int p0)]) hx hb dL_areAlike_27 rfl hl (by decide) rfl (fun ls hl => ?_)
    refine lv_iconst (v := 0) hx hb dL_areAlike_28 (by decide) ?_
    refine lv_istore (lv' := [(4, .int (0 : Int32)), (3, .int (1 : Int32)), (0, .ref h), (1, .ref h2), (2, .int p0)]) hx hb dL_areAlike_29 hl (by decide) rfl (fun ls hl => ?_)
    exact LP 12 0 rfl H locs ls hP hS hg (lv_sub hl [2, 3, 4, 1, 0] rfl)
  intro j
  induction j with
  | zero =>
    intro k hk H locs ls hP hS hg hl
    have hk12 : k = 12 := by omega
    subst hk12
    refine lv_iload hx hb dL_areAlike_31 (lv_at hl 4 rfl) ?_
    refine lv_bipush (v := 12) hx hb dL_areAlike_33 (by decide) ?_
    refine lv_icmp_ge (tgt := 110) hx hb dL_areAlike_35 (by decide) (fun _ => ?_) (fun h9 => absurd (by decide) h9)
    refine lv_iload_n hx hb dL_areAlike_110 rfl (lv_at hl 3 rfl) ?_
    refine lv_if_eq (tgt := 146) hx hb dL_areAlike_111 (by decide) (fun h9 => absurd h9 (by decide)) (fun _ => ?_)
    refine lv_aload_n hx hb dL_areAlike_114 rfl (lv_at hl 0 rfl) ?_
    refine lv_sipush (v := 5000) hx hb dL_areAlike_115 (by decide) ?_
    have hk1 : ok_L_casings N r (5000 : Int32) := hokc
    refine kWg_i (C := fun (_ : Unit) => cKick h aw av kr kt q x w v r t) (wrun fx hSX (SZ.kept hSZ0 hS.2.1) (As := [.ref h, .int (5000 : Int32)]) (rest := []) (c_L_casings l D q H.size h aw av kr kt x w v r t (5000 : Int32) N hk1 hstk) lk_L_141 ⟨Nat.le_of_ble_eq_true rfl, Nat.le_of_ble_eq_true rfl⟩ ⟨rfl, rfl⟩ hP hD hS hA [0, 1, 2, 3, 4, 5, 6, 7, 8, 9, 10, 11, 12, 13] rfl rfl rfl hl.1 rfl (Nat.le_of_ble_eq_true rfl) dL_areAlike_118 ⟨by show _ ≤ (100 : Nat); omega, by show _ ≤ (600 : Nat); omega⟩) hP hD hS hA hg [0, 1, 2, 3, 4, 5, 6, 7, 8, 9, 10, 11, 12, 13] rfl (fun _ => rfl) (fun r4 n5 _ H locs hw3 hP hS hg => ?_)
    have hP : va_P D vwCl (cPair h aw av kr kt h2 aw2 av2 kr2 kt2 q x w v r t x w v2 (R_set_pieces r z) t) H := hP
    have hw3 : (f_L_casings N r (5000 : Int32)) = (n5, r4) := hw3
    refine lv_aload_n hx hb dL_areAlike_121 rfl (lv_at hl 1 rfl) ?_
    refine lv_sipush (v := 5000) hx hb dL_areAlike_122 (by decide) ?_
    have hk6 : ok_L_casings N (R_set_pieces r z) (5000 : Int32) := ((pcok_casings N r z _).mpr hokc)
    refine kWg_i (C := fun (_ : Unit) => cKick h2 aw2 av2 kr2 kt2 q x w v2 (R_set_pieces r z) t) (wrun fx hSX (SZ.kept hSZ0 hS.2.1) (As := [.ref h2, .int (5000 : Int32)]) (rest := [.int r4]) (c_L_casings l D q H.size h2 aw2 av2 kr2 kt2 x w v2 (R_set_pieces r z) t (5000 : Int32) N hk6 hstk) lk_L_141 ⟨Nat.le_of_ble_eq_true rfl, Nat.le_of_ble_eq_true rfl⟩ ⟨rfl, rfl⟩ hP hD hS hA [14, 15, 16, 17, 18, 19, 20, 21, 22, 23, 24, 25, 26, 27] rfl rfl rfl hl.1 rfl (Nat.le_of_ble_eq_true rfl) dL_areAlike_125 ⟨by show _ ≤ (100 : Nat); omega, by show _ ≤ (600 : Nat); omega⟩) hP hD hS hA hg [14, 15, 16, 17, 18, 19, 20, 21, 22, 23, 24, 25, 26, 27] rfl (fun _ => rfl) (fun r9 n10 _ H locs hw8 hP hS hg => ?_)
    have hP : va_P D vwCl (cPair h aw av kr kt h2 aw2 av2 kr2 kt2 q x w v r t x w v2 (R_set_pieces r z) t) H := hP
    have hw8 : (f_L_casings N (R_set_pieces r z) (5000 : Int32)) = (n10, r9) := hw8
    have hE : (n10, r9) = (n5, r4) := hw8.symm.trans ((show (f_L_casings N (R_set_pieces r z) (5000 : Int32)) = (f_L_casings N r (5000 : Int32)) from by first | (simp only [pc_pressure, pc_casings]; done) | rfl).trans hw3)
    have eN_n10 : n10 = n5 := congrArg Prod.fst hE
    have eR_r9 : r9 = r4 := congrArg Prod.snd hE
    refine lv_icmp_ne (tgt := 146) hx hb dL_areAlike_128 (by decide) (fun h9 => absurd eR_r9.symm h9) (fun _ => ?_)
    refine lv_aload_n hx hb dL_areAlike_131 rfl (lv_at hl 0 rfl) ?_
    have hk11 : ok_L_equivalent w := hoke
    refine kWg_i (C := fun (_ : Unit) => cKick h aw av kr kt q x w v r t) (wrun fx hSX (SZ.kept hSZ0 hS.2.1) (As := [.ref h]) (rest := []) (c_L_equivalent l D q H.size h aw av kr kt x w v r t hk11 hstk) lk_L_145 ⟨Nat.le_of_ble_eq_true rfl, Nat.le_of_ble_eq_true rfl⟩ ⟨rfl, rfl⟩ hP hD hS hA [0, 1, 2, 3, 4, 5, 6, 7, 8, 9, 10, 11, 12, 13] rfl rfl rfl hl.1 rfl (Nat.le_of_ble_eq_true rfl) dL_areAlike_132 ⟨by show _ ≤ (100 : Nat); omega, by show _ ≤ (600 : Nat); omega⟩) hP hD hS hA hg [0, 1, 2, 3, 4, 5, 6, 7, 8, 9, 10, 11, 12, 13] rfl (fun _ => rfl) (fun r14 n15 _ H locs hw13 hP hS hg => ?_)
    have hP : va_P D vwCl (cPair h aw av kr kt h2 aw2 av2 kr2 kt2 q x w v r t x w v2 (R_set_pieces r z) t) H := hP
    have hw13 : (f_L_equivalent w) = (n15, r14) := hw13
    refine lv_aload_n hx hb dL_areAlike_135 rfl (lv_at hl 1 rfl) ?_
    have hk16 : ok_L_equivalent w := hoke
    refine kWg_i (C := fun (_ : Unit) => cKick h2 aw2 av2 kr2 kt2 q x w v2 (R_set_pieces r z) t) (wrun fx hSX (SZ.kept hSZ0 hS.2.1) (As := [.ref h2]) (rest := [.int r14]) (c_L_equivalent l D q H.size h2 aw2 av2 kr2 kt2 x w v2 (R_set_pieces r z) t hk16 hstk) lk_L_145 ⟨Nat.le_of_ble_eq_true rfl, Nat.le_of_ble_eq_true rfl⟩ ⟨rfl, rfl⟩ hP hD hS hA [14, 15, 16, 17, 18, 19, 20, 21, 22, 23, 24, 25, 26, 27] rfl rfl rfl hl.1 rfl (Nat.le_of_ble_eq_true rfl) dL_areAlike_136 ⟨by show _ ≤ (100 : Nat); omega, by show _ ≤ (600 : Nat); omega⟩) hP hD hS hA hg [14, 15, 16, 17, 18, 19, 20, 21, 22, 23, 24, 25, 26, 27] rfl (fun _ => rfl) (fun r19 n20 _ H locs hw18 hP hS hg => ?_)
    have hP : va_P D vwCl (cPair h aw av kr kt h2 aw2 av2 kr2 kt2 q x w v r t x w v2 (R_set_pieces r z) t) H := hP
    have hw18 : (f_L_equivalent w) = (n20, r19) := hw18
    have hE : (n20, r19) = (n15, r14) := hw18.symm.trans ((show (f_L_equivalent w) = (f_L_equivalent w) from by first | (simp only [pc_pressure, pc_casings]; done) | rfl).trans hw13)
    have eN_n20 : n20 = n15 := congrArg Prod.fst hE
    have eR_r19 : r19 = r14 := congrArg Prod.snd hE
    refine lv_icmp_ne (tgt := 146) hx hb dL_areAlike_139 (by decide) (fun h9 => absurd eR_r19.symm h9) (fun _ => ?_)
    refine lv_iconst (v := 1) hx hb dL_areAlike_142 (by decide) ?_
    refine lv_goto (tgt := 147) hx hb dL_areAlike_143 (by decide) ?_
    refine W.widen (k := 100) (n := 600) (by omega) (by omega) ?_
    exact hret 1 ((((((cntA w r t p0 12) + n5) + n10) + n15) + n20), ()) _ _ _ _ dL_areAlike_147 bz1 ⟨rfl, by show cntA w r t p0 12 ≤ _; omega⟩ hP hS hg
  | succ j ih =>
    intro k hk H locs ls hP hS hg hl
    have hkl : k < 12 := by omega
    refine lv_iload hx hb dL_areAlike_31 (lv_at hl 4 rfl) ?_
    refine lv_bipush (v := 12) hx hb dL_areAlike_33 (by decide) ?_
    refine lv_icmp_ge (tgt := 110) hx hb dL_areAlike_35 (by decide) (fun h9 => absurd h9 (k12 hkl)) (fun _ => ?_)
    refine lv_iload_n hx hb dL_areAlike_38 rfl (lv_at hl 3 rfl) ?_
    refine lv_if_eq (tgt := 110) hx hb dL_areAlike_39 (by decide) (fun h9 => absurd h9 (by decide)) (fun _ => ?_)
    refine lv_aload_n hx hb dL_areAlike_42 rfl (lv_at hl 0 rfl) ?_
    refine lv_iload hx hb dL_areAlike_43 (lv_at hl 4 rfl) ?_
    refine kWg_l (C := fun (_ : Unit) => cKick h aw av kr kt q x w v r t) (wrun fx hSX (SZ.kept hSZ0 hS.2.1) (As := [.ref h, .int (Int32.ofNat k)]) (rest := []) (c_L_of l D q H.size h aw av kr kt x w v r t (Int32.ofNat k) hstk) lk_L_126 ⟨Nat.le_of_ble_eq_true rfl, Nat.le_of_ble_eq_true rfl⟩ ⟨rfl, rfl⟩ hP hD hS hA [0, 1, 2, 3, 4, 5, 6, 7, 8, 9, 10, 11, 12, 13] rfl rfl rfl hl.1 rfl (Nat.le_of_ble_eq_true rfl) dL_areAlike_45 ⟨by show _ ≤ (100 : Nat); omega, by show _ ≤ (600 : Nat); omega⟩) hP hD hS hA hg [0, 1, 2, 3, 4, 5, 6, 7, 8, 9, 10, 11, 12, 13] rfl (fun _ => rfl) (fun r3 n4 _ H locs hw2 hP hS hg => ?_)
    have hP : va_P D vwCl (cPair h aw av kr kt h2 aw2 av2 kr2 kt2 q x w v r t x w v2 (R_set_pieces r z) t) H := hP
    have hw2 : (f_L_of x w (Int32.ofNat k)) = (n4, r3) := hw2
    refine lv_aload_n hx hb dL_areAlike_48 rfl (lv_at hl 1 rfl) ?_
    refine lv_iload hx hb dL_areAlike_49 (lv_at hl 4 rfl) ?_
    refine kWg_l (C := fun (_ : Unit) => cKick h2 aw2 av2 kr2 kt2 q x w v2 (R_set_pieces r z) t) (wrun fx hSX (SZ.kept hSZ0 hS.2.1) (As := [.ref h2, .int (Int32.ofNat k)]) (rest := [.long r3]) (c_L_of l D q H.size h2 aw2 av2 kr2 kt2 x w v2 (R_set_pieces r z) t (Int32.ofNat k) hstk) lk_L_126 ⟨Nat.le_of_ble_eq_true rfl, Nat.le_of_ble_eq_true rfl⟩ ⟨rfl, rfl⟩ hP hD hS hA [14, 15, 16, 17, 18, 19, 20, 21, 22, 23, 24, 25, 26, 27] rfl rfl rfl hl.1 rfl (Nat.le_of_ble_eq_true rfl) dL_areAlike_51 ⟨by show _ ≤ (100 : Nat); omega, by show _ ≤ (600 : Nat); omega⟩) hP hD hS hA hg [14, 15, 16, 17, 18, 19, 20, 21, 22, 23, 24, 25, 26, 27] rfl (fun _ => rfl) (fun r7 n8 _ H locs hw6 hP hS hg => ?_)
    have hP : va_P D vwCl (cPair h aw av kr kt h2 aw2 av2 kr2 kt2 q x w v r t x w v2 (R_set_pieces r z) t) H := hP
    have hw6 : (f_L_of x w (Int32.ofNat k)) = (n8, r7) := hw6
    have hE : (n8, r7) = (n4, r3) := hw6.symm.trans ((show (f_L_of x w (Int32.ofNat k)) = (f_L_of x w (Int32.ofNat k)) from by first | (simp only [pc_pressure, pc_casings]; done) | rfl).trans hw2)
    have eN_n8 : n8 = n4 := congrArg Prod.fst hE
    have eR_r7 : r7 = r3 := congrArg Prod.snd hE
    refine W.lcmp hx hb dL_areAlike_54 ?_
    refine lv_if_ne (tgt := 102) hx hb dL_areAlike_55 (by decide) (fun h9 => absurd (lgc eR_r7) h9) (fun _ => ?_)
    refine lv_aload_n hx hb dL_areAlike_58 rfl (lv_at hl 0 rfl) ?_
    refine lv_iload hx hb dL_areAlike_59 (lv_at hl 4 rfl) ?_
    refine kWg_i (C := fun (_ : Unit) => cKick h aw av kr kt q x w v r t) (wrun fx hSX (SZ.kept hSZ0 hS.2.1) (As := [.ref h, .int (Int32.ofNat k)]) (rest := []) (c_L_pressure l D q H.size h aw av kr kt x w v r t (Int32.ofNat k) hstk) lk_L_124 ⟨Nat.le_of_ble_eq_true rfl, Nat.le_of_ble_eq_true rfl⟩ ⟨rfl, rfl⟩ hP hD hS hA [0, 1, 2, 3, 4, 5, 6, 7, 8, 9, 10, 11, 12, 13] rfl rfl rfl hl.1 rfl (Nat.le_of_ble_eq_true rfl) dL_areAlike_61 ⟨by show _ ≤ (100 : Nat); omega, by show _ ≤ (600 : Nat); omega⟩) hP hD hS hA hg [0, 1, 2, 3, 4, 5, 6, 7, 8, 9, 10, 11, 12, 13] rfl (fun _ => rfl) (fun r11 n12 _ H locs hw10 hP hS hg => ?_)
    have hP : va_P D vwCl (cPair h aw av kr kt h2 aw2 av2 kr2 kt2 q x w v r t x w v2 (R_set_pieces r z) t) H := hP
    have hw10 : (f_L_pressure w r (Int32.ofNat k)) = (n12, r11) := hw10
    refine lv_aload_n hx hb dL_areAlike_64 rfl (lv_at hl 1 rfl) ?_
    refine lv_iload hx hb dL_areAlike_65 (lv_at hl 4 rfl) ?_
    refine kWg_i (C := fun (_ : Unit) => cKick h2 aw2 av2 kr2 kt2 q x w v2 (R_set_pieces r z) t) (wrun fx hSX (SZ.kept hSZ0 hS.2.1) (As := [.ref h2, .int (Int32.ofNat k)]) (rest := [.int r11]) (c_L_pressure l D q H.size h2 aw2 av2 kr2 kt2 x w v2 (R_set_pieces r z) t (Int32.ofNat k) hstk) lk_L_124 ⟨Nat.le_of_ble_eq_true rfl, Nat.le_of_ble_eq_true rfl⟩ ⟨rfl, rfl⟩ hP hD hS hA [14, 15, 16, 17, 18, 19, 20, 21, 22, 23, 24, 25, 26, 27] rfl rfl rfl hl.1 rfl (Nat.le_of_ble_eq_true rfl) dL_areAlike_67 ⟨by show _ ≤ (100 : Nat); omega, by show _ ≤ (600 : Nat); omega⟩) hP hD hS hA hg [14, 15, 16, 17, 18, 19, 20, 21, 22, 23, 24, 25, 26, 27] rfl (fun _ => rfl) (fun r15 n16 _ H locs hw14 hP hS hg => ?_)
    have hP : va_P D vwCl (cPair h aw av kr kt h2 aw2 av2 kr2 kt2 q x w v r t x w v2 (R_set_pieces r z) t) H := hP
    have hw14 : (f_L_pressure w (R_set_pieces r z) (Int32.ofNat k)) = (n16, r15) := hw14
    have hE : (n16, r15) = (n12, r11) := hw14.symm.trans ((show (f_L_pressure w (R_set_pieces r z) (Int32.ofNat k)) = (f_L_pressure w r (Int32.ofNat k)) from by first | (simp only [pc_pressure, pc_casings]; done) | rfl).trans hw10)
    have eN_n16 : n16 = n12 := congrArg Prod.fst hE
    have eR_r15 : r15 = r11 := congrArg Prod.snd hE
    refine lv_icmp_ne (tgt := 102) hx hb dL_areAlike_70 (by decide) (fun h9 => absurd eR_r15.symm h9) (fun _ => ?_)
    refine lv_aload_n hx hb dL_areAlike_73 rfl (lv_at hl 0 rfl) ?_
    refine lv_iload hx hb dL_areAlike_74 (lv_at hl 4 rfl) ?_
    refine lv_iload_n hx hb dL_areAlike_76 rfl (lv_at hl 2 rfl) ?_
    refine lv_iconst (v := 4) hx hb dL_areAlike_77 (by decide) ?_
    have hk17 : ok_L_low p0 (4 : Int32) := ⟨by decide, trivial⟩
    refine kRg_i (runS fx (As := [.int p0, .int (4 : Int32)]) (rest := [.int (Int32.ofNat k), .ref h]) (c_L_low l D q H.size p0 (4 : Int32) hk17) lk_L_89 ⟨Nat.le_of_ble_eq_true rfl, Nat.le_of_ble_eq_true rfl⟩ ⟨rfl, rfl⟩ hP hD [] rfl rfl rfl hl.1 rfl (Nat.le_of_ble_eq_true rfl) dL_areAlike_78 ⟨by show _ ≤ (100 : Nat); omega, by show _ ≤ (600 : Nat); omega⟩) hP hS hg (fun r18 _ H locs hr19 hP hS hg => ?_)
    subst hr19
    refine kWg_i (C := fun (_ : Unit) => cKick h aw av kr kt q x w v r t) (wrun fx hSX (SZ.kept hSZ0 hS.2.1) (As := [.ref h, .int (Int32.ofNat k), .int (f_L_low p0 (4 : Int32))]) (rest := []) (c_L_ofTest l D q H.size h aw av kr kt x w v r t (Int32.ofNat k) (f_L_low p0 (4 : Int32)) hstk) lk_L_134 ⟨Nat.le_of_ble_eq_true rfl, Nat.le_of_ble_eq_true rfl⟩ ⟨rfl, rfl⟩ hP hD hS hA [0, 1, 2, 3, 4, 5, 6, 7, 8, 9, 10, 11, 12, 13] rfl rfl rfl hl.1 rfl (Nat.le_of_ble_eq_true rfl) dL_areAlike_81 ⟨by show _ ≤ (100 : Nat); omega, by show _ ≤ (600 : Nat); omega⟩) hP hD hS hA hg [0, 1, 2, 3, 4, 5, 6, 7, 8, 9, 10, 11, 12, 13] rfl (fun _ => rfl) (fun r22 n23 _ H locs hw21 hP hS hg => ?_)
    have hP : va_P D vwCl (cPair h aw av kr kt h2 aw2 av2 kr2 kt2 q x w v r t x w v2 (R_set_pieces r z) t) H := hP
    have hw21 : (f_L_ofTest t (Int32.ofNat k) (f_L_low p0 (4 : Int32))) = (n23, r22) := hw21
    refine lv_aload_n hx hb dL_areAlike_84 rfl (lv_at hl 1 rfl) ?_
    refine lv_iload hx hb dL_areAlike_85 (lv_at hl 4 rfl) ?_
    refine lv_iload_n hx hb dL_areAlike_87 rfl (lv_at hl 2 rfl) ?_
    refine lv_iconst (v := 4) hx hb dL_areAlike_88 (by decide) ?_
    have hk24 : ok_L_low p0 (4 : Int32) := ⟨by decide, trivial⟩
    refine kRg_i (runS fx (As := [.int p0, .int (4 : Int32)]) (rest := [.int (Int32.ofNat k), .ref h2, .int r22]) (c_L_low l D q H.size p0 (4 : Int32) hk24) lk_L_89 ⟨Nat.le_of_ble_eq_true rfl, Nat.le_of_ble_eq_true rfl⟩ ⟨rfl, rfl⟩ hP hD [] rfl rfl rfl hl.1 rfl (Nat.le_of_ble_eq_true rfl) dL_areAlike_89 ⟨by show _ ≤ (100 : Nat); omega, by show _ ≤ (600 : Nat); omega⟩) hP hS hg (fun r25 _ H locs hr26 hP hS hg => ?_)
    subst hr26
    refine kWg_i (C := fun (_ : Unit) => cKick h2 aw2 av2 kr2 kt2 q x w v2 (R_set_pieces r z) t) (wrun fx hSX (SZ.kept hSZ0 hS.2.1) (As := [.ref h2, .int (Int32.ofNat k), .int (f_L_low p0 (4 : Int32))]) (rest := [.int r22]) (c_L_ofTest l D q H.size h2 aw2 av2 kr2 kt2 x w v2 (R_set_pieces r z) t (Int32.ofNat k) (f_L_low p0 (4 : Int32)) hstk) lk_L_134 ⟨Nat.le_of_ble_eq_true rfl, Nat.le_of_ble_eq_true rfl⟩ ⟨rfl, rfl⟩ hP hD hS hA [14, 15, 16, 17, 18, 19, 20, 21, 22, 23, 24, 25, 26, 27] rfl rfl rfl hl.1 rfl (Nat.le_of_ble_eq_true rfl) dL_areAlike_92 ⟨by show _ ≤ (100 : Nat); omega, by show _ ≤ (600 : Nat); omega⟩) hP hD hS hA hg [14, 15, 16, 17, 18, 19, 20, 21, 22, 23, 24, 25, 26, 27] rfl (fun _ => rfl) (fun r29 n30 _ H locs hw28 hP hS hg => ?_)
    have hP : va_P D vwCl (cPair h aw av kr kt h2 aw2 av2 kr2 kt2 q x w v r t x w v2 (R_set_pieces r z) t) H := hP
    have hw28 : (f_L_ofTest t (Int32.ofNat k) (f_L_low p0 (4 : Int32))) = (n30, r29) := hw28
    have hE : (n30, r29) = (n23, r22) := hw28.symm.trans ((show (f_L_ofTest t (Int32.ofNat k) (f_L_low p0 (4 : Int32))) = (f_L_ofTest t (Int32.ofNat k) (f_L_low p0 (4 : Int32))) from by first | (simp only [pc_pressure, pc_casings]; done) | rfl).trans hw21)
    have eN_n30 : n30 = n23 := congrArg Prod.fst hE
    have eR_r29 : r29 = r22 := congrArg Prod.snd hE
    refine lv_icmp_ne (tgt := 102) hx hb dL_areAlike_95 (by decide) (fun h9 => absurd eR_r29.symm h9) (fun _ => ?_)
    refine lv_iconst (v := 1) hx hb dL_areAlike_98 (by decide) ?_
    refine lv_goto (tgt := 103) hx hb dL_areAlike_99 (by decide) ?_
    refine lv_istore_n (lv' := [(3, .int (1 : Int32)), (0, .ref h), (1, .ref h2), (2, .int p0), (4, .int (Int32.ofNat k))]) hx hb dL_areAlike_103 rfl hl (by decide) rfl (fun ls hl => ?_)
    refine lv_iinc (v := (Int32.ofNat k) + (1 : Int32)) (lv' := [(4, .int ((Int32.ofNat k) + (1 : Int32))), (3, .int (1 : Int32)), (0, .ref h), (1, .ref h2), (2, .int p0)]) hx hb dL_areAlike_104 hl (k := 4) rfl rfl (by decide) rfl (fun ls hl => ?_)
    refine lv_goto (tgt := 31) hx hb dL_areAlike_107 (by decide) ?_
    have q1 : (f_L_pressure w r (Int32.ofNat k)).1 = n12 := by rw [hw10]
    have q2 : (f_L_ofTest t (Int32.ofNat k) (f_L_low p0 (4 : Int32))).1 = n23 := by rw [hw21]
    have hg2 : s.heap.size + cntA w r t p0 (k + 1) ≤ H.size := by
      show s.heap.size + (cntA w r t p0 k + ((f_L_pressure w r (Int32.ofNat k)).1 * 2 + (f_L_ofTest t (Int32.ofNat k) (f_L_low p0 (4 : Int32))).1 * 2)) ≤ H.size
      omega
    refine W.widen (k := 6 * (k + 1)) (n := 36 * (k + 1)) (by omega) (by omega) ?_
    exact ih (k + 1) (by omega) H locs ls hP hS hg2 (by rw [← k_up]; exact lv_sub hl [2, 3, 4, 1, 0] rfl)
