/-! The law's loop, and its walk from the entry. -/
theorem nadd {a k : Nat} {y : Int32} (hy : y.toInt = (k : Int)) (h : a + k < 2147483648) : nI a + y = nI (a + k) := by
  have h1 : (nI a).toInt = (a : Int) := nI_toInt (by omega)
  have h2 : (nI (a + k)).toInt = ((a + k : Nat) : Int) := nI_toInt (by omega)
  rw [i_eq, i_add (by rw [h1, hy]; omega) (by rw [h1, hy]; omega), h1, hy, h2]
  omega
set_option maxRecDepth 100000 in
set_option maxHeartbeats 8000000 in
theorem law_loop {p : Program} {l : Launch} {e : Env} {s : State} {m : MethodId} {below : List Frame} {meth : Method} {c : Code} {D : va_G} {q : Nat → ClassId} {b L : Nat} {xs : Nat → Int32} {N : Nat} (h aw av ao ad : Nat) (kr kt km : Nat → Nat) (hstk : l.stackTraces = false) (hL : L ≤ 3072) (hN : 4000 < N) (C0 : lw_At p s m meth c b L xs)
    (fx : FX p s m #[Value.ref b] c RL code 9 D q) (hSX : SX s) (hSZ0 : SZ (fun a : Nat => s.heap.size ≤ a) s s.heap) (hD : ∀ (x : XS) (w : WS) (v : WS) (r : RS) (t : TS) (g : MS) (fo : (Nat → Int64)) (fd : (Nat → UInt64)), va_D (fun a : Nat => s.heap.size ≤ a) (cLaw h aw av kr kt km ao ad q x w v r t g fo fd)) :
    ∀ (n j : Nat) (x : XS) (w v : WS) (r : RS) (t : TS) (g : MS) (fo : (Nat → Int64)) (fd : (Nat → UInt64)) (H : Heap) (locs : List Loc) (ls : Array Slot), L ≤ 6 * (j + n) → 6 * j ≤ L → Rel x w r t g → va_P D vwCl (cLaw h aw av kr kt km ao ad q x w v r t g fo fd) H → va_S (fun a : Nat => s.heap.size ≤ a) s.heap H locs → lv_has ls 9 [(0, .ref b), (1, .ref h), (2, .ref (km 0)), (3, .ref ao), (4, .ref ad), (5, .int (nI (6 * j)))] →
      W p l e room_1 s m #[Value.ref b] below meth c H locs (27 + j) (1035 + 6 * j) (lw_Z below #[Value.ref b] s) (F0 m 28 ls []) := by
  obtain ⟨-, -, hr, -, -, -, hX, hbl, hlocks, -⟩ := id C0
  have hx := fx.1
  have hb := fx.2.1
  have hA : ∀ a : Nat, s.heap.size ≤ a → (fun a : Nat => s.heap.size ≤ a) a := fun _ h => h
  have hbA : ¬ (fun a : Nat => s.heap.size ≤ a) b := Nat.not_le.mpr hbl
  intro n
  induction n with
  | zero =>
    intro j x w v r t g fo fd H locs ls hn hj hR hP hS hl
    have hi : (nI (6 * j)).toInt = ((6 * j : Nat) : Int) := nI_toInt (by omega)
    have hLi : (Int32.ofNat L).toInt = (L : Int) := nI_toInt (n := L) (by omega)
    have e6 : (6 : Int32).toInt = 6 := rfl
    have hs : (Int32.ofNat L - 6).toInt = (L : Int) - 6 := by rw [i_sub (by rw [hLi, e6]; omega) (by rw [hLi, e6]; omega), hLi, e6]
    refine lv_iload hx hb dL_law_28 (lv_at hl 5 rfl) ?_
    refine lv_aload_n hx hb dL_law_30 rfl (lv_at hl 0 rfl) ?_
    refine va_slen hx hb hX hbl hbA hS dL_law_31 ?_
    refine lv_bipush (v := 6) hx hb dL_law_32 (by decide) ?_
    refine lv_isub hx hb dL_law_34 ?_
    refine lv_icmp_gt (tgt := 1408) hx hb dL_law_35 (by decide) (fun cc => ?_) (fun cc => ?_)
    · refine lv_iconst (v := 1) hx hb dL_law_1408 (by decide) ?_
      refine va_forget (fun z hz => hS.2.2 z hz) ?_
      refine W.widen (k := 1080) (n := 9401) (by omega) (by omega) ?_
      exact W.base (lw_ret (Drawn.sameBut.refl s.drawn lw_cs) hx hb hr hlocks dL_law_1409)
    · exfalso
      rw [i_lt, hs, hi] at cc
      omega
  | succ n ih =>
    intro j x w v r t g fo fd H locs ls hn hj hR hP hS hl
    have hi : (nI (6 * j)).toInt = ((6 * j : Nat) : Int) := nI_toInt (by omega)
    have hLi : (Int32.ofNat L).toInt = (L : Int) := nI_toInt (n := L) (by omega)
    have e6 : (6 : Int32).toInt = 6 := rfl
    have hs : (Int32.ofNat L - 6).toInt = (L : Int) - 6 := by rw [i_sub (by rw [hLi, e6]; omega) (by rw [hLi, e6]; omega), hLi, e6]
    refine lv_iload hx hb dL_law_28 (lv_at hl 5 rfl) ?_
    refine lv_aload_n hx hb dL_law_30 rfl (lv_at hl 0 rfl) ?_
    refine va_slen hx hb hX hbl hbA hS dL_law_31 ?_
    refine lv_bipush (v := 6) hx hb dL_law_32 (by decide) ?_
    refine lv_isub hx hb dL_law_34 ?_
    refine lv_icmp_gt (tgt := 1408) hx hb dL_law_35 (by decide) (fun cc => ?_) (fun cc => ?_)
    · refine lv_iconst (v := 1) hx hb dL_law_1408 (by decide) ?_
      refine va_forget (fun z hz => hS.2.2 z hz) ?_
      refine W.widen (k := 1080) (n := 9401) (by omega) (by omega) ?_
      exact W.base (lw_ret (Drawn.sameBut.refl s.drawn lw_cs) hx hb hr hlocks dL_law_1409)
    · have hlt : 6 * j + 6 ≤ L := by
        rw [i_lt, hs, hi] at cc
        omega
      have q0 : vp_in (nI (6 * j)) L := vp_in_nI (by omega) (by omega)
      have q1 : vp_in (nI (6 * j) + 1) L := by rw [nadd (k := 1) rfl (by omega)]; exact vp_in_nI (by omega) (by omega)
      have q2 : vp_in (nI (6 * j) + 2) L := by rw [nadd (k := 2) rfl (by omega)]; exact vp_in_nI (by omega) (by omega)
      have q3 : vp_in (nI (6 * j) + 3) L := by rw [nadd (k := 3) rfl (by omega)]; exact vp_in_nI (by omega) (by omega)
      have q4 : vp_in (nI (6 * j) + 4) L := by rw [nadd (k := 4) rfl (by omega)]; exact vp_in_nI (by omega) (by omega)
      have q5 : vp_in (nI (6 * j) + 5) L := by rw [nadd (k := 5) rfl (by omega)]; exact vp_in_nI (by omega) (by omega)
      have hcs : 27 + j + 1 ≤ room_1.cells ∧ 1035 + 6 * j + 6 ≤ room_1.slots := ⟨by show 27 + j + 1 ≤ 1080; omega, by show 1035 + 6 * j + 6 ≤ 9401; omega⟩
      have hrec : ∀ (x : XS) (w : WS) (v : WS) (r : RS) (t : TS) (g : MS) (fo : (Nat → Int64)) (fd : (Nat → UInt64)) (H : Heap) (locs : List Loc) (ls : Array Slot), FR x w v r t g fo fd = 1 → va_P D vwCl (cLaw h aw av kr kt km ao ad q x w v r t g fo fd) H → va_S (fun a : Nat => s.heap.size ≤ a) s.heap H locs → lv_has ls 9 [(0, .ref b), (1, .ref h), (2, .ref (km 0)), (3, .ref ao), (4, .ref ad), (5, .int (nI (6 * j)))] → W p l e room_1 s m #[Value.ref b] below meth c H locs (27 + j + 1) (1035 + 6 * j + 6) (lw_Z below #[Value.ref b] s) (F0 m 1402 ls []) := by
        intro x w v r t g fo fd H locs ls hF hP hS hl
        refine lv_iinc (v := nI (6 * (j + 1))) (lv' := [(5, .int (nI (6 * (j + 1)))), (0, .ref b), (1, .ref h), (2, .ref (km 0)), (3, .ref ao), (4, .ref ad)]) hx hb dL_law_1402 hl (k := 5) rfl (nadd (k := 6) (by decide) (by omega)) (by decide) rfl (fun ls hl => ?_)
        refine lv_goto (tgt := 28) hx hb dL_law_1405 (by decide) ?_
        have k := ih (j + 1) x w v r t g fo fd H locs ls (by omega) (by omega) (FR_rel hF) hP hS (lv_sub hl [1, 2, 3, 4, 5, 0] rfl)
        rw [show 1035 + 6 * (j + 1) = 1035 + 6 * j + 6 by omega] at k
        exact k
      refine lv_aload_n hx hb dL_law_38 rfl (lv_at hl 0 rfl) ?_
      refine lv_iload hx hb dL_law_39 (lv_at hl 5 rfl) ?_
      refine va_sld hx hb hX hbl hbA hS q0 dL_law_41 ?_
      refine lv_bipush (v := 31) hx hb dL_law_42 (by decide) ?_
      refine lv_iand hx hb dL_law_44 ?_
      generalize xs (nI (6 * j)).toNatClampNeg &&& 31 = u
      generalize e1 : xs (nI (6 * j) + 1).toNatClampNeg = p1
      generalize e2 : xs (nI (6 * j) + 2).toNatClampNeg = p2
      generalize e3 : xs (nI (6 * j) + 3).toNatClampNeg = p3
      generalize e4 : xs (nI (6 * j) + 4).toNatClampNeg = p4
      generalize e5 : xs (nI (6 * j) + 5).toNatClampNeg = p5
      by_cases u0 : u = 0
      · refine lv_tableIn (off := 103) (tgt := 148) hx hb dL_law_45 (by rw [u0]; decide) (by rw [u0]; decide) (by rw [u0]; decide) (by decide) ?_
        exact c_law_0 h aw av ao ad kr kt km x w v r t g fo fd p1 p2 p3 p4 p5 (nI (6 * j)) N FR hstk fx hSX hSZ0 hX hbl hbA hA hD q1 e1 q2 e2 q3 e3 q4 e4 q5 e5 hcs (ol_0 hR p1 p2 p3 p4 p5) (sl_0 FR_ok v fo fd hR p1 p2 p3 p4 p5) hrec hP hS hl
      by_cases u1 : u = 1
      · refine lv_tableIn (off := 203) (tgt := 248) hx hb dL_law_45 (by rw [u1]; decide) (by rw [u1]; decide) (by rw [u1]; decide) (by decide) ?_
        exact c_law_1 h aw av ao ad kr kt km x w v r t g fo fd p1 p2 p3 p4 p5 (nI (6 * j)) N FR hstk fx hSX hSZ0 hX hbl hbA hA hD q1 e1 q2 e2 q3 e3 q4 e4 q5 e5 hcs (sl_1 FR_ok v fo fd hR p1) hrec hP hS hl
      by_cases u2 : u = 2
      · refine lv_tableIn (off := 259) (tgt := 304) hx hb dL_law_45 (by rw [u2]; decide) (by rw [u2]; decide) (by rw [u2]; decide) (by decide) ?_
        exact c_law_2 h aw av ao ad kr kt km x w v r t g fo fd p1 p2 p3 p4 p5 (nI (6 * j)) N FR hstk fx hSX hSZ0 hX hbl hbA hA hD q1 e1 q2 e2 q3 e3 q4 e4 q5 e5 hcs (ol_2 hN hR p1) (sl_2 hN FR_ok v fo fd hR p1) hrec hP hS hl
      by_cases u3 : u = 3
      · refine lv_tableIn (off := 315) (tgt := 360) hx hb dL_law_45 (by rw [u3]; decide) (by rw [u3]; decide) (by rw [u3]; decide) (by decide) ?_
        exact c_law_3 h aw av ao ad kr kt km x w v r t g fo fd p1 p2 p3 p4 p5 (nI (6 * j)) N FR hstk fx hSX hSZ0 hX hbl hbA hA hD q1 e1 q2 e2 q3 e3 q4 e4 q5 e5 hcs (ol_3 hN hR p1) (sl_3 hN FR_ok v fo fd hR p1) hrec hP hS hl
      by_cases u4 : u = 4
      · refine lv_tableIn (off := 371) (tgt := 416) hx hb dL_law_45 (by rw [u4]; decide) (by rw [u4]; decide) (by rw [u4]; decide) (by decide) ?_
        exact c_law_4 h aw av ao ad kr kt km x w v r t g fo fd p1 p2 p3 p4 p5 (nI (6 * j)) N FR hstk fx hSX hSZ0 hX hbl hbA hA hD q1 e1 q2 e2 q3 e3 q4 e4 q5 e5 hcs (sl_4 FR_ok v fo fd hR) hrec hP hS hl
      by_cases u5 : u = 5
      · refine lv_tableIn (off := 395) (tgt := 440) hx hb dL_law_45 (by rw [u5]; decide) (by rw [u5]; decide) (by rw [u5]; decide) (by decide) ?_
        exact c_law_5 h aw av ao ad kr kt km x w v r t g fo fd p1 p2 p3 p4 p5 (nI (6 * j)) N FR hstk fx hSX hSZ0 hX hbl hbA hA hD q1 e1 q2 e2 q3 e3 q4 e4 q5 e5 hcs (sl_5 FR_ok v fo fd hR) hrec hP hS hl
      by_cases u6 : u = 6
      · refine lv_tableIn (off := 439) (tgt := 484) hx hb dL_law_45 (by rw [u6]; decide) (by rw [u6]; decide) (by rw [u6]; decide) (by decide) ?_
        exact c_law_6 h aw av ao ad kr kt km x w v r t g fo fd p1 p2 p3 p4 p5 (nI (6 * j)) N FR hstk fx hSX hSZ0 hX hbl hbA hA hD q1 e1 q2 e2 q3 e3 q4 e4 q5 e5 hcs (ol_6 hN hR p1 p2) (sl_6 hN FR_ok v fo fd hR p1 p2) hrec hP hS hl
      by_cases u7 : u = 7
      · refine lv_tableIn (off := 507) (tgt := 552) hx hb dL_law_45 (by rw [u7]; decide) (by rw [u7]; decide) (by rw [u7]; decide) (by decide) ?_
        exact c_law_7 h aw av ao ad kr kt km x w v r t g fo fd p1 p2 p3 p4 p5 (nI (6 * j)) N FR hstk fx hSX hSZ0 hX hbl hbA hA hD q1 e1 q2 e2 q3 e3 q4 e4 q5 e5 hcs (ol_7 hR p1) (sl_7 FR_ok v fo fd hR p1) hrec hP hS hl
      by_cases u8 : u = 8
      · refine lv_tableIn (off := 563) (tgt := 608) hx hb dL_law_45 (by rw [u8]; decide) (by rw [u8]; decide) (by rw [u8]; decide) (by decide) ?_
        exact c_law_8 h aw av ao ad kr kt km x w v r t g fo fd p1 p2 p3 p4 p5 (nI (6 * j)) N FR hstk fx hSX hSZ0 hX hbl hbA hA hD q1 e1 q2 e2 q3 e3 q4 e4 q5 e5 hcs (sl_8 FR_ok v fo fd hR p1) hrec hP hS hl
      by_cases u9 : u = 9
      · refine lv_tableIn (off := 619) (tgt := 664) hx hb dL_law_45 (by rw [u9]; decide) (by rw [u9]; decide) (by rw [u9]; decide) (by decide) ?_
        exact c_law_9 h aw av ao ad kr kt km x w v r t g fo fd p1 p2 p3 p4 p5 (nI (6 * j)) N FR hstk fx hSX hSZ0 hX hbl hbA hA hD q1 e1 q2 e2 q3 e3 q4 e4 q5 e5 hcs (ol_9 hR p1 p2) (sl_9 FR_ok v fo fd hR p1 p2) hrec hP hS hl
      by_cases u10 : u = 10
      · refine lv_tableIn (off := 694) (tgt := 739) hx hb dL_law_45 (by rw [u10]; decide) (by rw [u10]; decide) (by rw [u10]; decide) (by decide) ?_
        exact c_law_10 h aw av ao ad kr kt km x w v r t g fo fd p1 p2 p3 p4 p5 (nI (6 * j)) N FR hstk fx hSX hSZ0 hX hbl hbA hA hD q1 e1 q2 e2 q3 e3 q4 e4 q5 e5 hcs (ol_10 hN hR p1 p2) (sl_10 hN FR_ok v fo fd hR p1 p2) hrec hP hS hl
      by_cases u11 : u = 11
      · refine lv_tableIn (off := 778) (tgt := 823) hx hb dL_law_45 (by rw [u11]; decide) (by rw [u11]; decide) (by rw [u11]; decide) (by decide) ?_
        exact c_law_11 h aw av ao ad kr kt km x w v r t g fo fd p1 p2 p3 p4 p5 (nI (6 * j)) N FR hstk fx hSX hSZ0 hX hbl hbA hA hD q1 e1 q2 e2 q3 e3 q4 e4 q5 e5 hcs (ol_11 hR p1) (sl_11 FR_ok v fo fd hR p1) hrec hP hS hl
      by_cases u12 : u = 12
      · refine lv_tableIn (off := 834) (tgt := 879) hx hb dL_law_45 (by rw [u12]; decide) (by rw [u12]; decide) (by rw [u12]; decide) (by decide) ?_
        exact c_law_12 h aw av ao ad kr kt km x w v r t g fo fd p1 p2 p3 p4 p5 (nI (6 * j)) N FR hstk fx hSX hSZ0 hX hbl hbA hA hD q1 e1 q2 e2 q3 e3 q4 e4 q5 e5 hcs (sl_12 FR_ok v fo fd hR p1) hrec hP hS hl
      by_cases u13 : u = 13
      · refine lv_tableIn (off := 889) (tgt := 934) hx hb dL_law_45 (by rw [u13]; decide) (by rw [u13]; decide) (by rw [u13]; decide) (by decide) ?_
        exact c_law_13 h aw av ao ad kr kt km x w v r t g fo fd p1 p2 p3 p4 p5 (nI (6 * j)) N FR hstk fx hSX hSZ0 hX hbl hbA hA hD q1 e1 q2 e2 q3 e3 q4 e4 q5 e5 hcs (ol_13 hN hR) (sl_13 hN FR_ok v fo fd hR) hrec hP hS hl
      by_cases u14 : u = 14
      · refine lv_tableIn (off := 902) (tgt := 947) hx hb dL_law_45 (by rw [u14]; decide) (by rw [u14]; decide) (by rw [u14]; decide) (by decide) ?_
        exact c_law_14 h aw av ao ad kr kt km x w v r t g fo fd p1 p2 p3 p4 p5 (nI (6 * j)) N FR hstk fx hSX hSZ0 hX hbl hbA hA hD q1 e1 q2 e2 q3 e3 q4 e4 q5 e5 hcs (ol_14 hN hR) (sl_14 hN FR_ok v fo fd hR) hrec hP hS hl
      by_cases u15 : u = 15
      · refine lv_tableIn (off := 915) (tgt := 960) hx hb dL_law_45 (by rw [u15]; decide) (by rw [u15]; decide) (by rw [u15]; decide) (by decide) ?_
        exact c_law_15 h aw av ao ad kr kt km x w v r t g fo fd p1 p2 p3 p4 p5 (nI (6 * j)) N FR hstk fx hSX hSZ0 hX hbl hbA hA hD q1 e1 q2 e2 q3 e3 q4 e4 q5 e5 hcs (ol_15 hR p1 p2) (sl_15 FR_ok v fo fd hR p1 p2) hrec hP hS hl
      by_cases u16 : u = 16
      · refine lv_tableIn (off := 983) (tgt := 1028) hx hb dL_law_45 (by rw [u16]; decide) (by rw [u16]; decide) (by rw [u16]; decide) (by decide) ?_
        exact c_law_16 h aw av ao ad kr kt km x w v r t g fo fd p1 p2 p3 p4 p5 (nI (6 * j)) N FR hstk fx hSX hSZ0 hX hbl hbA hA hD q1 e1 q2 e2 q3 e3 q4 e4 q5 e5 hcs (ol_16 hN hR) (sl_16 hN FR_ok v fo fd hR) hrec hP hS hl
      by_cases u17 : u = 17
      · refine lv_tableIn (off := 1027) (tgt := 1072) hx hb dL_law_45 (by rw [u17]; decide) (by rw [u17]; decide) (by rw [u17]; decide) (by decide) ?_
        exact c_law_17 h aw av ao ad kr kt km x w v r t g fo fd p1 p2 p3 p4 p5 (nI (6 * j)) N FR hstk fx hSX hSZ0 hX hbl hbA hA hD q1 e1 q2 e2 q3 e3 q4 e4 q5 e5 hcs (ol_17 hN hR p1 p2 p3) (sl_17 hN FR_ok v fo fd hR p1 p2 p3) hrec hP hS hl
      by_cases u18 : u = 18
      · refine lv_tableIn (off := 1123) (tgt := 1168) hx hb dL_law_45 (by rw [u18]; decide) (by rw [u18]; decide) (by rw [u18]; decide) (by decide) ?_
        exact c_law_18 h aw av ao ad kr kt km x w v r t g fo fd p1 p2 p3 p4 p5 (nI (6 * j)) N FR hstk fx hSX hSZ0 hX hbl hbA hA hD q1 e1 q2 e2 q3 e3 q4 e4 q5 e5 hcs (ol_18 hN hR p1) (sl_18 hN FR_ok v fo fd hR p1) hrec hP hS hl
      by_cases u19 : u = 19
      · refine lv_tableIn (off := 1179) (tgt := 1224) hx hb dL_law_45 (by rw [u19]; decide) (by rw [u19]; decide) (by rw [u19]; decide) (by decide) ?_
        exact c_law_19 h aw av ao ad kr kt km x w v r t g fo fd p1 p2 p3 p4 p5 (nI (6 * j)) N FR hstk fx hSX hSZ0 hX hbl hbA hA hD q1 e1 q2 e2 q3 e3 q4 e4 q5 e5 hcs (ol_19 hN hR p1) (sl_19 hN FR_ok v fo fd hR p1) hrec hP hS hl
      by_cases u20 : u = 20
      · refine lv_tableIn (off := 1235) (tgt := 1280) hx hb dL_law_45 (by rw [u20]; decide) (by rw [u20]; decide) (by rw [u20]; decide) (by decide) ?_
        exact c_law_20 h aw av ao ad kr kt km x w v r t g fo fd p1 p2 p3 p4 p5 (nI (6 * j)) N FR hstk fx hSX hSZ0 hX hbl hbA hA hD q1 e1 q2 e2 q3 e3 q4 e4 q5 e5 hcs ((sl_20 FR_ok v fo fd hR).2) ((sl_20 FR_ok v fo fd hR).1) hrec hP hS hl
      by_cases u21 : u = 21
      · refine lv_tableIn (off := 1301) (tgt := 1346) hx hb dL_law_45 (by rw [u21]; decide) (by rw [u21]; decide) (by rw [u21]; decide) (by decide) ?_
        exact c_law_21 h aw av ao ad kr kt km x w v r t g fo fd p1 p2 p3 p4 p5 (nI (6 * j)) N FR hstk fx hSX hSZ0 hX hbl hbA hA hD q1 e1 q2 e2 q3 e3 q4 e4 q5 e5 hcs (ol_21 hN v hR p1) (sl_21 hN FR_ok v fo fd hR p1) hrec hP hS hl
      have hout : u.toInt < 0 ∨ 21 < u.toInt := by
        have z0 : (0 : Int32).toInt = 0 := rfl
        have z1 : (1 : Int32).toInt = 1 := rfl
        have z2 : (2 : Int32).toInt = 2 := rfl
        have z3 : (3 : Int32).toInt = 3 := rfl
        have z4 : (4 : Int32).toInt = 4 := rfl
        have z5 : (5 : Int32).toInt = 5 := rfl
        have z6 : (6 : Int32).toInt = 6 := rfl
        have z7 : (7 : Int32).toInt = 7 := rfl
        have z8 : (8 : Int32).toInt = 8 := rfl
        have z9 : (9 : Int32).toInt = 9 := rfl
        have z10 : (10 : Int32).toInt = 10 := rfl
        have z11 : (11 : Int32).toInt = 11 := rfl
        have z12 : (12 : Int32).toInt = 12 := rfl
        have z13 : (13 : Int32).toInt = 13 := rfl
        have z14 : (14 : Int32).toInt = 14 := rfl
        have z15 : (15 : Int32).toInt = 15 := rfl
        have z16 : (16 : Int32).toInt = 16 := rfl
        have z17 : (17 : Int32).toInt = 17 := rfl
        have z18 : (18 : Int32).toInt = 18 := rfl
        have z19 : (19 : Int32).toInt = 19 := rfl
        have z20 : (20 : Int32).toInt = 20 := rfl
        have z21 : (21 : Int32).toInt = 21 := rfl
        simp only [i_eq, z0, z1, z2, z3, z4, z5, z6, z7, z8, z9, z10, z11, z12, z13, z14, z15, z16, z17, z18, z19, z20, z21] at u0 u1 u2 u3 u4 u5 u6 u7 u8 u9 u10 u11 u12 u13 u14 u15 u16 u17 u18 u19 u20 u21
        omega
      refine lv_tableOut (tgt := 1402) hx hb dL_law_45 hout (by decide) ?_
      refine W.widen (k := 27 + j + 1) (n := 1035 + 6 * j + 6) (by omega) (by omega) ?_
      exact hrec x w v r t g fo fd H locs ls (FR_ok _ _ _ _ _ _ _ _ hR) hP hS hl
