/-! The law from its entry. -/
set_option maxRecDepth 100000 in
set_option maxHeartbeats 8000000 in
/-- from the entry, for every script of at most 3072 ints, the law comes to its end with true -/
theorem whole_start {p : Program} {e : Env} {s : State} {m : MethodId} {below : List Frame} {meth : Method} {c : Code} (l : Launch) (hflags : l.flags = flags0) {b L : Nat} {xs : Nat → Int32} (hL : L ≤ 3072) (C0 : lw_At p s m meth c b L xs) : W p l e room_1 s m #[Value.ref b] below meth c s.heap [] 0 0 (lw_Z below #[Value.ref b] s) (entryFrame m ([Value.ref b] : List Value).toArray 9) := by
  obtain ⟨hx, hb, hr, hml, hown, hts, hX, hbl, hlocks, hgv⟩ := id C0
  have hstk : l.stackTraces = false := by
    unfold Launch.stackTraces
    rw [hflags]; decide +kernel
  have hall : ∀ w ∈ ALL, w.before #[Value.ref b] s = true := fun w hw => hts w (ALL_t hw)
  obtain ⟨D, hKc⟩ := kn_all hall
  obtain ⟨q, hKt⟩ := ty_all hall
  have hKK : KK D q s := ⟨⟨hKc, hKt⟩, fun w hw => va_Nw.of (nw_tab (NW_p w hw)) (hts w (NW_in w hw))⟩
  have fx : FX p s m #[Value.ref b] c RL code 9 D q := ⟨hx, hb, hml, hown, hall, hKK⟩
  have hSX : SX s := sx_of hts hgv
  have hSZ0 : SZ (fun a : Nat => s.heap.size ≤ a) s s.heap := sz_of hts hgv
  have hA : ∀ a : Nat, s.heap.size ≤ a → (fun a : Nat => s.heap.size ≤ a) a := fun _ h => h
  have hS : va_S (fun a : Nat => s.heap.size ≤ a) s.heap s.heap [] := va_S.rf
  have hP : va_P D vwCl [] s.heap := fun k z h => by simp at h
  have hD : va_D (fun a : Nat => s.heap.size ≤ a) [] := ⟨fun i j p z h => by simp at h, fun k z h => by simp at h⟩
  obtain ⟨N, hN⟩ : ∃ N : Nat, 4000 < N := ⟨4001, by decide⟩
  have hfill : ∀ (f : Nat → Int32) (y : Int32), ok_J7_fill_53178 N 50 f y := fun f y => (fill_eq (by omega) f y).2
  have hl := lv_entry ([.ref b]) (n := 9) (Nat.le_of_ble_eq_true rfl)
  rw [lg_entry_eq]
  generalize (lg_sl ([.ref b]) ++ List.replicate (9 - (lg_sl ([.ref b])).length) Slot.unset).toArray = ls at hl ⊢
  have hl : lv_has ls 9 [(0, .ref b)] := hl
  refine va_new (ci := 3) (fs := [.null, .null, .null, .null, .int 0, .int 0, .int 0, .int 0]) (C := RX3) (T := TX3) (N := 8) hx hb hall inlX3 tyX3 tyX3_ok hown (hall _ cl_8) (hall _ in_3) (hall _ mm_6) hKK.1 hP hD hS hA rfl (fun j hj => by rcases (show j = 0 ∨ j = 1 ∨ j = 2 ∨ j = 3 ∨ j = 4 ∨ j = 5 ∨ j = 6 ∨ j = 7 by omega) with rfl | rfl | rfl | rfl | rfl | rfl | rfl | rfl <;> rfl) (Nat.le_of_ble_eq_true rfl) (Nat.le_of_ble_eq_true rfl) dL_law_0 (fun a0 H hP hD hS => ?_)
  have hP : va_P D vwCl [(a0, .inr (3, [.null, .null, .null, .null, .int 0, .int 0, .int 0, .int 0]))] H := hP
  have hD : va_D (fun a : Nat => s.heap.size ≤ a) [(a0, .inr (3, [.null, .null, .null, .null, .int 0, .int 0, .int 0, .int 0]))] := hD
  refine W.widen (k := 1) (n := 8) (Nat.le_of_ble_eq_true rfl) (Nat.le_of_ble_eq_true rfl) ?_
  refine lv_dup hx hb dL_law_3 rfl ?_
  have hF := va_free (wc := [(a0, .inr (3, [.null, .null, .null, .null, .int 0, .int 0, .int 0, .int 0]))]) hD hS hA [0] rfl
  have hr9 := runI (p := p) (l := l) (e := e) (R := room_1) (below := below) (meth := meth) (locs := []) (cells := 1) (slots := 8) (ls := ls) (wc := [(a0, .inr (3, [.null, .null, .null, .null, .int 0, .int 0, .int 0, .int 0]))]) (As := []) (rest := [.ref a0]) fx (c_X3_init l D q H.size a0 N hfill) lk_L_84 ⟨Nat.le_of_ble_eq_true rfl, Nat.le_of_ble_eq_true rfl⟩ ⟨rfl, rfl⟩ hP hD [0] rfl rfl rfl hl.1 rfl (Nat.le_of_ble_eq_true rfl) dL_law_4 ⟨Nat.le_of_ble_eq_true rfl, Nat.le_of_ble_eq_true rfl⟩
  refine kC (wc := [(a0, .inr (3, [.null, .null, .null, .null, .int 0, .int 0, .int 0, .int 0]))]) hr9 hD hS hA [0] rfl (fun H1 locs hB hk hS => ?_)
  obtain ⟨aw, av, kr, kt, hP1, hD1⟩ := hB
  obtain ⟨hP, hD⟩ := va_join (wr := []) (w1 := cKick a0 aw av kr kt q kick0 well0 well0 (rock0 N) tests0) hP hD [0] [] rfl rfl (by decide) (by decide) hk hF hP1 hD1
  generalize H1 = H at hP hS ⊢
  have hP : va_P D vwCl (cKick a0 aw av kr kt q kick0 well0 well0 (rock0 N) tests0) H := hP
  have hD : va_D (fun a : Nat => s.heap.size ≤ a) (cKick a0 aw av kr kt q kick0 well0 well0 (rock0 N) tests0) := hD
  refine W.widen (k := 14) (n := 540) (Nat.le_of_ble_eq_true rfl) (Nat.le_of_ble_eq_true rfl) ?_
  refine lv_astore_n (lv' := [(1, .ref a0), (0, .ref b)]) hx hb dL_law_7 rfl hl (by decide) rfl (fun ls hl => ?_)
  refine va_new (ci := 4) (fs := [.int 0, .null, .null, .null, .null, .int 0, .int 0, .int 0, .int 0, .int 0, .long 0, .int 0, .int 0, .int 0, .int 0, .long 0, .long 0, .int 0, .int 0, .int 0, .int 0, .int 0, .int 0, .int 0, .null, .int 0, .null, .null, .null, .null, .null]) (C := RX4) (T := TX4) (N := 31) hx hb hall inlX4 tyX4 tyX4_ok hown (hall _ cl_85) (hall _ in_4) (hall _ mm_270) hKK.1 hP hD hS hA rfl (fun j hj => by rcases (show j = 0 ∨ j = 1 ∨ j = 2 ∨ j = 3 ∨ j = 4 ∨ j = 5 ∨ j = 6 ∨ j = 7 ∨ j = 8 ∨ j = 9 ∨ j = 10 ∨ j = 11 ∨ j = 12 ∨ j = 13 ∨ j = 14 ∨ j = 15 ∨ j = 16 ∨ j = 17 ∨ j = 18 ∨ j = 19 ∨ j = 20 ∨ j = 21 ∨ j = 22 ∨ j = 23 ∨ j = 24 ∨ j = 25 ∨ j = 26 ∨ j = 27 ∨ j = 28 ∨ j = 29 ∨ j = 30 by omega) with rfl | rfl | rfl | rfl | rfl | rfl | rfl | rfl | rfl | rfl | rfl | rfl | rfl | rfl | rfl | rfl | rfl | rfl | rfl | rfl | rfl | rfl | rfl | rfl | rfl | rfl | rfl | rfl | rfl | rfl | rfl <;> rfl) (Nat.le_of_ble_eq_true rfl) (Nat.le_of_ble_eq_true rfl) dL_law_8 (fun a1 H hP hD hS => ?_)
  have hP : va_P D vwCl ((cKick a0 aw av kr kt q kick0 well0 well0 (rock0 N) tests0) ++ [(a1, .inr (4, [.int 0, .null, .null, .null, .null, .int 0, .int 0, .int 0, .int 0, .int 0, .long 0, .int 0, .int 0, .int 0, .int 0, .long 0, .long 0, .int 0, .int 0, .int 0, .int 0, .int 0, .int 0, .int 0, .null, .int 0, .null, .null, .null, .null, .null]))]) H := hP
  have hD : va_D (fun a : Nat => s.heap.size ≤ a) ((cKick a0 aw av kr kt q kick0 well0 well0 (rock0 N) tests0) ++ [(a1, .inr (4, [.int 0, .null, .null, .null, .null, .int 0, .int 0, .int 0, .int 0, .int 0, .long 0, .int 0, .int 0, .int 0, .int 0, .long 0, .long 0, .int 0, .int 0, .int 0, .int 0, .int 0, .int 0, .int 0, .null, .int 0, .null, .null, .null, .null, .null]))]) := hD
  refine W.widen (k := 15) (n := 571) (Nat.le_of_ble_eq_true rfl) (Nat.le_of_ble_eq_true rfl) ?_
  refine lv_dup hx hb dL_law_11 rfl ?_
  have hF := va_free (wc := [(a1, .inr (4, [.int 0, .null, .null, .null, .null, .int 0, .int 0, .int 0, .int 0, .int 0, .long 0, .int 0, .int 0, .int 0, .int 0, .long 0, .long 0, .int 0, .int 0, .int 0, .int 0, .int 0, .int 0, .int 0, .null, .int 0, .null, .null, .null, .null, .null]))]) hD hS hA [14] rfl
  have hr9 := runI (p := p) (l := l) (e := e) (R := room_1) (below := below) (meth := meth) (locs := locs) (cells := 15) (slots := 571) (ls := ls) (wc := [(a1, .inr (4, [.int 0, .null, .null, .null, .null, .int 0, .int 0, .int 0, .int 0, .int 0, .long 0, .int 0, .int 0, .int 0, .int 0, .long 0, .long 0, .int 0, .int 0, .int 0, .int 0, .int 0, .int 0, .int 0, .null, .int 0, .null, .null, .null, .null, .null]))]) (As := []) (rest := [.ref a1]) fx (c_X4_init l D q H.size a1) lk_L_87 ⟨Nat.le_of_ble_eq_true rfl, Nat.le_of_ble_eq_true rfl⟩ ⟨rfl, rfl⟩ hP hD [14] rfl rfl rfl hl.1 rfl (Nat.le_of_ble_eq_true rfl) dL_law_12 ⟨Nat.le_of_ble_eq_true rfl, Nat.le_of_ble_eq_true rfl⟩
  refine kC (wc := [(a1, .inr (4, [.int 0, .null, .null, .null, .null, .int 0, .int 0, .int 0, .int 0, .int 0, .long 0, .int 0, .int 0, .int 0, .int 0, .long 0, .long 0, .int 0, .int 0, .int 0, .int 0, .int 0, .int 0, .int 0, .null, .int 0, .null, .null, .null, .null, .null]))]) hr9 hD hS hA [14] rfl (fun H1 locs hB hk hS => ?_)
  obtain ⟨km, g0, rfl, hg0, hP1, hD1⟩ := hB
  obtain ⟨hP, hD⟩ := va_join (wr := (cKick a0 aw av kr kt q kick0 well0 well0 (rock0 N) tests0)) (w1 := cModel km q g0) hP hD [14] [0, 1, 2, 3, 4, 5, 6, 7, 8, 9, 10, 11, 12, 13] rfl rfl (by decide) (by decide) hk hF hP1 hD1
  generalize H1 = H at hP hS ⊢
  have hP : va_P D vwCl ((cKick a0 aw av kr kt q kick0 well0 well0 (rock0 N) tests0) ++ cModel km q g0) H := hP
  have hD : va_D (fun a : Nat => s.heap.size ≤ a) ((cKick a0 aw av kr kt q kick0 well0 well0 (rock0 N) tests0) ++ cModel km q g0) := hD
  refine W.widen (k := 25) (n := 1033) (Nat.le_of_ble_eq_true rfl) (Nat.le_of_ble_eq_true rfl) ?_
  refine lv_astore_n (lv' := [(2, .ref (km 0)), (1, .ref a0), (0, .ref b)]) hx hb dL_law_15 rfl hl (by decide) rfl (fun ls hl => ?_)
  refine lv_iconst (v := 1) hx hb dL_law_16 (by decide) ?_
  refine newJ (own := RL) (N9 := 1) fx hP hD hS hA (by decide) (by decide) (Nat.le_of_ble_eq_true rfl) (Nat.le_of_ble_eq_true rfl) (Nat.le_of_ble_eq_true rfl) dL_law_17 (fun a2 H hP hD hS => ?_)
  refine W.widen (k := 26) (n := 1034) (Nat.le_of_ble_eq_true rfl) (Nat.le_of_ble_eq_true rfl) ?_
  refine lv_astore_n (lv' := [(3, .ref a2), (2, .ref (km 0)), (1, .ref a0), (0, .ref b)]) hx hb dL_law_19 rfl hl (by decide) rfl (fun ls hl => ?_)
  refine lv_iconst (v := 1) hx hb dL_law_20 (by decide) ?_
  refine newD (own := RL) (N9 := 1) fx hP hD hS hA (by decide) (by decide) (Nat.le_of_ble_eq_true rfl) (Nat.le_of_ble_eq_true rfl) (Nat.le_of_ble_eq_true rfl) dL_law_21 (fun a3 H hP hD hS => ?_)
  refine W.widen (k := 27) (n := 1035) (Nat.le_of_ble_eq_true rfl) (Nat.le_of_ble_eq_true rfl) ?_
  refine lv_astore (lv' := [(4, .ref a3), (3, .ref a2), (2, .ref (km 0)), (1, .ref a0), (0, .ref b)]) hx hb dL_law_23 hl (by decide) rfl (fun ls hl => ?_)
  refine lv_iconst (v := 0) hx hb dL_law_25 (by decide) ?_
  refine lv_istore (lv' := [(5, .int 0), (4, .ref a3), (3, .ref a2), (2, .ref (km 0)), (1, .ref a0), (0, .ref b)]) hx hb dL_law_26 hl (by decide) rfl (fun ls hl => ?_)
  have hP : va_P D vwCl (cLaw a0 aw av kr kt km a2 a3 q kick0 well0 well0 (rock0 N) tests0 g0 (fun _ => 0) (fun _ => 0)) H := hP
  have hD : va_D (fun a : Nat => s.heap.size ≤ a) (cLaw a0 aw av kr kt km a2 a3 q kick0 well0 well0 (rock0 N) tests0 g0 (fun _ => 0) (fun _ => 0)) := hD
  have hl : lv_has ls 9 [(0, .ref b), (1, .ref a0), (2, .ref (km 0)), (3, .ref a2), (4, .ref a3), (5, .int (nI (6 * 0)))] := lv_sub hl [5, 4, 3, 2, 1, 0] rfl
  exact law_loop a0 aw av a2 a3 kr kt km hstk hL hN C0 fx hSX hSZ0 (fun x w v r t g fo fd => D_same (ws := cLaw a0 aw av kr kt km a2 a3 q kick0 well0 well0 (rock0 N) tests0 g0 (fun _ => 0) (fun _ => 0)) rfl hD) L 0 kick0 well0 well0 (rock0 N) tests0 g0 _ _ H locs ls (by omega) (by omega) (rel0 (by omega) hg0) hP hS hl
