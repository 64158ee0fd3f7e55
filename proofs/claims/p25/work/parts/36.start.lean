/-! The law from its entry, on a script of 21s, with more room than the claim's. -/
set_option maxRecDepth 100000 in
set_option maxHeartbeats 8000000 in
theorem deep_start {p : Program} {e : Env} {s : State} {m : MethodId} {below : List Frame} {meth : Method} {c : Code} (l : Launch) (hflags : l.flags = flags0) {b L : Nat} {xs : Nat → Int32} (hcell : ∀ j : Nat, j < 76 → ok_L_cell L (Int32.ofNat j) ∧ f_L_cell L xs (Int32.ofNat j) = 21) (C0 : lw_At p s m meth c b L xs) : W p l e R9 s m #[Value.ref b] below meth c s.heap [] 0 0 (fun t => s.heap.size + 144 ≤ t.heap.size) (entryFrame m ([Value.ref b] : List Value).toArray 7) := by
  obtain ⟨hx, hb, hr, hml, hown, hts, hX, hbl, hlocks, hgv⟩ := id C0
  have hstk : l.stackTraces = false := by
    unfold Launch.stackTraces
    rw [hflags]; decide +kernel
  have hall : ∀ w ∈ ALL, w.before #[Value.ref b] s = true := fun w hw => hts w (ALL_t hw)
  obtain ⟨D, hKc⟩ := kn_all hall
  obtain ⟨q, hKt⟩ := ty_all hall
  have hKK : KK D q s := ⟨⟨hKc, hKt⟩, fun w hw => va_Nw.of (nw_tab (NW_p w hw)) (hts w (NW_in w hw))⟩
  have fx : FX p s m #[Value.ref b] c RL code 7 D q := ⟨hx, hb, hml, hown, hall, hKK⟩
  have hSX : SX s := sx_of hts hgv
  have hSZ0 : SZ (fun a : Nat => s.heap.size ≤ a) s s.heap := sz_of hts hgv
  have hA : ∀ a : Nat, s.heap.size ≤ a → (fun a : Nat => s.heap.size ≤ a) a := fun _ h => h
  have hS : va_S (fun a : Nat => s.heap.size ≤ a) s.heap s.heap [] := va_S.rf
  have hP : va_P D vwCl [] s.heap := fun k z h => by simp at h
  have hD : va_D (fun a : Nat => s.heap.size ≤ a) [] := ⟨fun i j p z h => by simp at h, fun k z h => by simp at h⟩
  obtain ⟨N, hN⟩ : ∃ N : Nat, 60 < N := ⟨61, by decide⟩
  have hfill : ∀ (f : Nat → Int32) (y : Int32), ok_J7_fill_53178 N 50 f y := fun f y => (fill_eq hN f y).2
  have hl := lv_entry ([.ref b]) (n := 7) (Nat.le_of_ble_eq_true rfl)
  rw [lg_entry_eq]
  generalize (lg_sl ([.ref b]) ++ List.replicate (7 - (lg_sl ([.ref b])).length) Slot.unset).toArray = ls at hl ⊢
  have hl : lv_has ls 7 [(0, .ref b)] := hl
  refine va_new (ci := 3) (fs := [.null, .null, .null, .null, .int 0, .int 0, .int 0, .int 0]) (C := RX3) (T := TX3) (N := 8) hx hb hall inlX3 tyX3 tyX3_ok hown (hall _ cl_9) (hall _ in_3) (hall _ mm_6) hKK.1 hP hD hS hA rfl (fun j hj => by rcases (show j = 0 ∨ j = 1 ∨ j = 2 ∨ j = 3 ∨ j = 4 ∨ j = 5 ∨ j = 6 ∨ j = 7 by omega) with rfl | rfl | rfl | rfl | rfl | rfl | rfl | rfl <;> rfl) (Nat.le_of_ble_eq_true rfl) (Nat.le_of_ble_eq_true rfl) dL_law_0 (fun a0 H hP hD hS => ?_)
  have hP : va_P D vwCl ([(a0, .inr (3, [.null, .null, .null, .null, .int 0, .int 0, .int 0, .int 0]))]) H := hP
  have hD : va_D (fun a : Nat => s.heap.size ≤ a) ([(a0, .inr (3, [.null, .null, .null, .null, .int 0, .int 0, .int 0, .int 0]))]) := hD
  refine W.widen (k := 1) (n := 8) (Nat.le_of_ble_eq_true rfl) (Nat.le_of_ble_eq_true rfl) ?_
  refine lv_dup hx hb dL_law_3 rfl ?_
  have hF := va_free (wc := [(a0, .inr (3, [.null, .null, .null, .null, .int 0, .int 0, .int 0, .int 0]))]) hD hS hA [0] rfl
  have hr9 := runI (p := p) (l := l) (e := e) (R := R9) (below := below) (meth := meth) (locs := []) (cells := 1) (slots := 8) (ls := ls) (wc := [(a0, .inr (3, [.null, .null, .null, .null, .int 0, .int 0, .int 0, .int 0]))]) (As := []) (rest := [.ref a0]) fx (c_X3_init l D q H.size a0 N hfill) lk_L_153 ⟨(Nat.le_of_ble_eq_true rfl), (Nat.le_of_ble_eq_true rfl)⟩ ⟨rfl, rfl⟩ hP hD [0] rfl rfl rfl hl.1 rfl (Nat.le_of_ble_eq_true rfl) dL_law_4 ⟨(Nat.le_of_ble_eq_true rfl), (Nat.le_of_ble_eq_true rfl)⟩
  refine kC (wc := [(a0, .inr (3, [.null, .null, .null, .null, .int 0, .int 0, .int 0, .int 0]))]) hr9 hD hS hA [0] rfl (fun H1 locs hB hk hS => ?_)
  obtain ⟨aw, av, kr, kt, hP1, hD1⟩ := hB
  obtain ⟨hP, hD⟩ := va_join (wr := []) (w1 := cKick a0 aw av kr kt q kick0 well0 well0 (rock0 N) tests0) hP hD [0] [] rfl rfl (by decide) (by decide) hk hF hP1 hD1
  generalize H1 = H at hP hS ⊢
  have hP : va_P D vwCl (cKick a0 aw av kr kt q kick0 well0 well0 (rock0 N) tests0) H := hP
  have hD : va_D (fun a : Nat => s.heap.size ≤ a) (cKick a0 aw av kr kt q kick0 well0 well0 (rock0 N) tests0) := hD
  refine W.widen (k := 14) (n := 540) (Nat.le_of_ble_eq_true rfl) (Nat.le_of_ble_eq_true rfl) ?_
  refine lv_astore_n (lv' := [(1, .ref a0), (0, .ref b)]) hx hb dL_law_7 rfl hl (by decide) rfl (fun ls hl => ?_)
  refine va_new (ci := 3) (fs := [.null, .null, .null, .null, .int 0, .int 0, .int 0, .int 0]) (C := RX3) (T := TX3) (N := 8) hx hb hall inlX3 tyX3 tyX3_ok hown (hall _ cl_9) (hall _ in_3) (hall _ mm_6) hKK.1 hP hD hS hA rfl (fun j hj => by rcases (show j = 0 ∨ j = 1 ∨ j = 2 ∨ j = 3 ∨ j = 4 ∨ j = 5 ∨ j = 6 ∨ j = 7 by omega) with rfl | rfl | rfl | rfl | rfl | rfl | rfl | rfl <;> rfl) (Nat.le_of_ble_eq_true rfl) (Nat.le_of_ble_eq_true rfl) dL_law_8 (fun a1 H hP hD hS => ?_)
  have hP : va_P D vwCl (cKick a0 aw av kr kt q kick0 well0 well0 (rock0 N) tests0 ++ [(a1, .inr (3, [.null, .null, .null, .null, .int 0, .int 0, .int 0, .int 0]))]) H := hP
  have hD : va_D (fun a : Nat => s.heap.size ≤ a) (cKick a0 aw av kr kt q kick0 well0 well0 (rock0 N) tests0 ++ [(a1, .inr (3, [.null, .null, .null, .null, .int 0, .int 0, .int 0, .int 0]))]) := hD
  refine W.widen (k := 15) (n := 548) (Nat.le_of_ble_eq_true rfl) (Nat.le_of_ble_eq_true rfl) ?_
  refine lv_dup hx hb dL_law_11 rfl ?_
  have hF := va_free (wc := [(a1, .inr (3, [.null, .null, .null, .null, .int 0, .int 0, .int 0, .int 0]))]) hD hS hA [14] rfl
  have hr9 := runI (p := p) (l := l) (e := e) (R := R9) (below := below) (meth := meth) (locs := locs) (cells := 15) (slots := 548) (ls := ls) (wc := [(a1, .inr (3, [.null, .null, .null, .null, .int 0, .int 0, .int 0, .int 0]))]) (As := []) (rest := [.ref a1]) fx (c_X3_init l D q H.size a1 N hfill) lk_L_153 ⟨(Nat.le_of_ble_eq_true rfl), (Nat.le_of_ble_eq_true rfl)⟩ ⟨rfl, rfl⟩ hP hD [14] rfl rfl rfl hl.1 rfl (Nat.le_of_ble_eq_true rfl) dL_law_12 ⟨(Nat.le_of_ble_eq_true rfl), (Nat.le_of_ble_eq_true rfl)⟩
  refine kC (wc := [(a1, .inr (3, [.null, .null, .null, .null, .int 0, .int 0, .int 0, .int 0]))]) hr9 hD hS hA [14] rfl (fun H1 locs hB hk hS => ?_)
  obtain ⟨aw2, av2, kr2, kt2, hP1, hD1⟩ := hB
  obtain ⟨hP, hD⟩ := va_join (wr := cKick a0 aw av kr kt q kick0 well0 well0 (rock0 N) tests0) (w1 := cKick a1 aw2 av2 kr2 kt2 q kick0 well0 well0 (rock0 N) tests0) hP hD [14] [0, 1, 2, 3, 4, 5, 6, 7, 8, 9, 10, 11, 12, 13] rfl rfl (by decide) (by decide) hk hF hP1 hD1
  generalize H1 = H at hP hS ⊢
  have hP : va_P D vwCl ((cKick a0 aw av kr kt q kick0 well0 well0 (rock0 N) tests0) ++ cKick a1 aw2 av2 kr2 kt2 q kick0 well0 well0 (rock0 N) tests0) H := hP
  have hD : va_D (fun a : Nat => s.heap.size ≤ a) ((cKick a0 aw av kr kt q kick0 well0 well0 (rock0 N) tests0) ++ cKick a1 aw2 av2 kr2 kt2 q kick0 well0 well0 (rock0 N) tests0) := hD
  refine W.widen (k := 28) (n := 1080) (Nat.le_of_ble_eq_true rfl) (Nat.le_of_ble_eq_true rfl) ?_
  refine lv_astore_n (lv' := [(2, .ref a1), (1, .ref a0), (0, .ref b)]) hx hb dL_law_15 rfl hl (by decide) rfl (fun ls hl => ?_)
  have hP : va_P D vwCl (cPair a0 aw av kr kt a1 aw2 av2 kr2 kt2 q kick0 well0 well0 (rock0 N) tests0 kick0 well0 well0 (rock0 N) tests0) H := hP
  have hD : va_D (fun a : Nat => s.heap.size ≤ a) (cPair a0 aw av kr kt a1 aw2 av2 kr2 kt2 q kick0 well0 well0 (rock0 N) tests0 kick0 well0 well0 (rock0 N) tests0) := hD
  have hg : s.heap.size + 0 ≤ H.size := hS.1
  refine lv_aload_n hx hb dL_law_16 rfl (lv_at hl 1 rfl) ?_
  refine lv_iconst (v := 0) hx hb dL_law_17 (by decide) ?_
  refine lv_sipush (v := 5000) hx hb dL_law_18 (by decide) ?_
  refine kXg_i (xrun fx hSX (SZ.kept hSZ0 hS.2.1) (As := [.int 0, .int 5000]) (rest := []) (c_X3_test l D q H.size a0 aw av kr kt kick0 well0 well0 (rock0 N) tests0 0 5000 hstk) lk_L_48 ⟨(Nat.le_of_ble_eq_true rfl), (Nat.le_of_ble_eq_true rfl)⟩ ⟨rfl, rfl⟩ hP hD hS hA [0, 1, 2, 3, 4, 5, 6, 7, 8, 9, 10, 11, 12, 13] rfl rfl (ci := 3) rfl rfl rfl hl.1 rfl (Nat.le_of_ble_eq_true rfl) dL_law_21 ⟨(Nat.le_of_ble_eq_true rfl), (Nat.le_of_ble_eq_true rfl)⟩) hP hD hS hA hg [0, 1, 2, 3, 4, 5, 6, 7, 8, 9, 10, 11, 12, 13] rfl (fun _ => rfl) (fun k ce q9 H locs hp hP hS hg hce hcv hcl => ?_) (fun rv u H locs hw hP hS hg => ?_)
  · exfalso
    rw [test0] at hp
    obtain ⟨h1, h2⟩ := hp
    rcases h2 with rfl | rfl <;> exact absurd h1 (by decide)
  obtain ⟨hw, -⟩ := hw
  rw [test0] at hw
  obtain ⟨-, hw1⟩ := Prod.mk.inj hw
  obtain ⟨e1, hw2⟩ := Prod.mk.inj hw1
  subst e1
  subst hw2
  rw [fst_all] at hP
  have hP : va_P D vwCl (cPair a0 aw av kr kt a1 aw2 av2 kr2 kt2 q kick0 well0 well0 (rock0 N) t1 kick0 well0 well0 (rock0 N) tests0) H := hP
  have hD : va_D (fun a : Nat => s.heap.size ≤ a) (cPair a0 aw av kr kt a1 aw2 av2 kr2 kt2 q kick0 well0 well0 (rock0 N) t1 kick0 well0 well0 (rock0 N) tests0) := D_same (by rfl) hD
  refine lv_if_eq (tgt := 42) hx hb dL_law_24 (by decide) (fun h9 => absurd h9 (by decide)) (fun _ => ?_)
  refine lv_aload_n hx hb dL_law_27 rfl (lv_at hl 0 rfl) ?_
  refine lv_iconst (v := 0) hx hb dL_law_28 (by decide) ?_
  refine lv_sipush (v := 5000) hx hb dL_law_29 (by decide) ?_
  refine kXg_i (xrun fx hSX (SZ.kept hSZ0 hS.2.1) (As := [.int 0, .int 5000]) (rest := []) (c_X3_test l D q H.size a1 aw2 av2 kr2 kt2 kick0 well0 well0 (rock0 N) tests0 0 5000 hstk) lk_L_48 ⟨(Nat.le_of_ble_eq_true rfl), (Nat.le_of_ble_eq_true rfl)⟩ ⟨rfl, rfl⟩ hP hD hS hA [14, 15, 16, 17, 18, 19, 20, 21, 22, 23, 24, 25, 26, 27] rfl rfl (ci := 3) rfl rfl rfl hl.1 rfl (Nat.le_of_ble_eq_true rfl) dL_law_32 ⟨(Nat.le_of_ble_eq_true rfl), (Nat.le_of_ble_eq_true rfl)⟩) hP hD hS hA hg [14, 15, 16, 17, 18, 19, 20, 21, 22, 23, 24, 25, 26, 27] rfl (fun _ => rfl) (fun k ce q9 H locs hp hP hS hg hce hcv hcl => ?_) (fun rv u H locs hw hP hS hg => ?_)
  · exfalso
    rw [test0] at hp
    obtain ⟨h1, h2⟩ := hp
    rcases h2 with rfl | rfl <;> exact absurd h1 (by decide)
  obtain ⟨hw, -⟩ := hw
  rw [test0] at hw
  obtain ⟨-, hw1⟩ := Prod.mk.inj hw
  obtain ⟨e1, hw2⟩ := Prod.mk.inj hw1
  subst e1
  subst hw2
  rw [snd_all] at hP
  have hP : va_P D vwCl (cPair a0 aw av kr kt a1 aw2 av2 kr2 kt2 q kick0 well0 well0 (rock0 N) t1 kick0 well0 well0 (rock0 N) t1) H := hP
  have hD : va_D (fun a : Nat => s.heap.size ≤ a) (cPair a0 aw av kr kt a1 aw2 av2 kr2 kt2 q kick0 well0 well0 (rock0 N) t1 kick0 well0 well0 (rock0 N) t1) := D_same (by rfl) hD
  refine lv_if_eq (tgt := 42) hx hb dL_law_35 (by decide) (fun h9 => absurd h9 (by decide)) (fun _ => ?_)
  refine lv_iconst (v := 1) hx hb dL_law_38 (by decide) ?_
  refine lv_goto (tgt := 43) hx hb dL_law_39 (by decide) ?_
  refine lv_istore_n (lv' := [(3, .int 1), (2, .ref a1), (1, .ref a0), (0, .ref b)]) hx hb dL_law_43 rfl hl (by decide) rfl (fun ls hl => ?_)
  refine lv_iconst (v := 0) hx hb dL_law_44 (by decide) ?_
  refine lv_istore (lv' := [(4, .int 0), (3, .int 1), (2, .ref a1), (1, .ref a0), (0, .ref b)]) hx hb dL_law_45 hl (by decide) rfl (fun ls hl => ?_)
  have hr9 : R_set_pieces (rock0 N) (R_pieces (rock0 N)) = rock0 N := rfl
  refine W.widen (k := 40 + 101 * 0) (n := 2000 + 606 * 0) (Nat.le_of_ble_eq_true rfl) (Nat.le_of_ble_eq_true rfl) ?_
  exact deep_loop a0 aw av kr kt a1 aw2 av2 kr2 kt2 (rock0 N) (R_pieces (rock0 N)) hstk hN fx hSX hSZ0 hX hbl hcell (by rw [hr9]; exact hD) 76 0 rfl H locs ls (by rw [hr9]; exact hP) hS hg (lv_sub hl [4, 3, 2, 1, 0] rfl)
