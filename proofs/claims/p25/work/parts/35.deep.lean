/-! The law on a script of 21s: each act throws on the first object; the heap grows past what the Statement's frame allows. -/
theorem mn_174 : Cond.methodLink RL 154 yL_cell ∈ ALL := ALL_i (List.mem_append_right _ (List.mem_append_right _ (List.mem_append_left _ (List.mem_of_getElem? (i := 32) (by decide +kernel))))) (by decide +kernel)
theorem mn_175 : Cond.static yL_cell ∈ ALL := ALL_i (List.mem_append_right _ (List.mem_append_right _ (List.mem_append_left _ (List.mem_of_getElem? (i := 33) (by decide +kernel))))) (by decide +kernel)
theorem mn_176 : Cond.code yL_cell cL_cell 2 (some .int) ∈ ALL := ALL_i (List.mem_append_right _ (List.mem_append_right _ (List.mem_append_left _ (List.mem_of_getElem? (i := 34) (by decide +kernel))))) (by decide +kernel)
theorem mn_177 : Cond.methodLink RL 158 yL_act ∈ ALL := ALL_i (List.mem_append_right _ (List.mem_append_right _ (List.mem_append_left _ (List.mem_of_getElem? (i := 35) (by decide +kernel))))) (by decide +kernel)
theorem mn_178 : Cond.static yL_act ∈ ALL := ALL_i (List.mem_append_right _ (List.mem_append_right _ (List.mem_append_left _ (List.mem_of_getElem? (i := 36) (by decide +kernel))))) (by decide +kernel)
set_option maxRecDepth 100000 in
theorem mn_179 : Cond.code yL_act cL_act 6 (some .int) ∈ ALL := ALL_i (List.mem_append_right _ (List.mem_append_right _ (List.mem_append_left _ (List.mem_of_getElem? (i := 37) rfl)))) (by decide +kernel)
theorem mn_180 : Cond.methodLink RL 161 yL_areAlike ∈ ALL := ALL_i (List.mem_append_right _ (List.mem_append_right _ (List.mem_append_right _ (List.mem_of_getElem? (i := 151) (by decide +kernel))))) (by decide +kernel)
theorem mn_181 : Cond.static yL_areAlike ∈ ALL := ALL_i (List.mem_append_right _ (List.mem_append_right _ (List.mem_append_right _ (List.mem_of_getElem? (i := 152) (by decide +kernel))))) (by decide +kernel)
theorem mn_182 : Cond.code yL_areAlike cL_areAlike 5 (some .boolean) ∈ ALL := ALL_i (List.mem_append_right _ (List.mem_append_right _ (List.mem_append_right _ (List.mem_of_getElem? (i := 153) (by decide +kernel))))) (by decide +kernel)
theorem lk_L_154 : LKS RL 154 yL_cell cL_cell 2 (some .int) 2 := ⟨mn_174, mn_175, ⟨mn_109, mn_176, by decide +kernel, by decide +kernel, by decide +kernel⟩⟩
theorem lk_L_158 : LKS RL 158 yL_act cL_act 6 (some .int) 2 := ⟨mn_177, mn_178, ⟨mn_109, mn_179, by decide +kernel, by decide +kernel, by decide +kernel⟩⟩
theorem lk_L_161 : LKS RL 161 yL_areAlike cL_areAlike 5 (some .boolean) 3 := ⟨mn_180, mn_181, ⟨mn_109, mn_182, by decide +kernel, by decide +kernel, by decide +kernel⟩⟩

theorem set_same {α : Type} (l : List α) (i : Nat) (x : α) (h : l[i]? = some x) : l.set i x = l := by
  obtain ⟨hi, rfl⟩ := List.getElem?_eq_some_iff.mp h
  exact List.set_getElem_self hi
theorem setAll_same : ∀ (pl : List Nat) (ws xs : va_W), pl.map (fun i => ws[i]?) = xs.map some → setAll ws pl xs = ws
  | [], ws, xs, _ => by cases xs <;> rfl
  | i :: pl, ws, [], h => by simp at h
  | i :: pl, ws, x :: xs, h => by
    have h0 : ws[i]? :: pl.map (fun i => ws[i]?) = some x :: xs.map some := h
    obtain ⟨h1, h2⟩ := List.cons.inj h0
    show setAll (ws.set i x) pl xs = ws
    rw [set_same ws i x h1]
    exact setAll_same pl ws xs h2
theorem fst_all (h aw av : Nat) (kr kt : Nat → Nat) (h2 aw2 av2 : Nat) (kr2 kt2 : Nat → Nat) (q : Nat → ClassId) (x : XS) (w v : WS) (r : RS) (t : TS) (x2 : XS) (w2 v2 : WS) (r2 : RS) (t2 : TS) (x3 : XS) (w3 v3 : WS) (r3 : RS) (t3 : TS) : setAll (cPair h aw av kr kt h2 aw2 av2 kr2 kt2 q x w v r t x2 w2 v2 r2 t2) [0, 1, 2, 3, 4, 5, 6, 7, 8, 9, 10, 11, 12, 13] (cKick h aw av kr kt q x3 w3 v3 r3 t3) = cPair h aw av kr kt h2 aw2 av2 kr2 kt2 q x3 w3 v3 r3 t3 x2 w2 v2 r2 t2 := rfl
theorem snd_all (h aw av : Nat) (kr kt : Nat → Nat) (h2 aw2 av2 : Nat) (kr2 kt2 : Nat → Nat) (q : Nat → ClassId) (x : XS) (w v : WS) (r : RS) (t : TS) (x2 : XS) (w2 v2 : WS) (r2 : RS) (t2 : TS) (x3 : XS) (w3 v3 : WS) (r3 : RS) (t3 : TS) : setAll (cPair h aw av kr kt h2 aw2 av2 kr2 kt2 q x w v r t x2 w2 v2 r2 t2) [14, 15, 16, 17, 18, 19, 20, 21, 22, 23, 24, 25, 26, 27] (cKick h2 aw2 av2 kr2 kt2 q x3 w3 v3 r3 t3) = cPair h aw av kr kt h2 aw2 av2 kr2 kt2 q x w v r t x3 w3 v3 r3 t3 := rfl
theorem cell_blind {D : va_G} {q : Nat → ClassId} {b L : Nat} {xs : Nat → Int32} {av : List Value} : FrameBlind (va_Pc av (fun U => va_X b L xs U U.heap ∧ b < U.heap.size ∧ KK D q U)) := fun a U g mk h => by
  obtain ⟨e, h1, h2, h3⟩ := h
  exact ⟨e, va_X.moved (u := U) (U := U.calling g mk a) (Vm.Alike.refl U.vm) h1, h2, KK.same (u := U) (U := U.calling g mk a) rfl h3⟩
set_option maxRecDepth 100000 in
theorem c_cellX (l : Launch) (D : va_G) (q : Nat → ClassId) (b L : Nat) (xs : Nat → Int32) (p0 : Int32) (hok : ok_L_cell L p0) : Met l yL_cell (Cond.code yL_cell cL_cell 2 (some .int) :: ALL) RM_L_cell (va_Pc [.ref b, .int p0] (fun U => va_X b L xs U U.heap ∧ b < U.heap.size ∧ KK D q U)) (va_Qi (fun (rv : Int32) (_ : Unit) => f_L_cell L xs p0 = rv) (fun _ _ => True) (fun _ => False)) 0 0 (fun _ => False) := by
  refine Met.ofW (cc := cL_cell) (maxL := 2) (ret := some .int) (by decide +kernel) rfl ?_
  intro p e s m args below meth c s₁ B hml hv
  obtain ⟨rfl, hX, hbl, hK⟩ := hv
  have fx : FX p s m ([.ref b, .int p0] : List Value).toArray c yL_cell.cls cL_cell 2 D q := fx_of rfl B (fun h w hw => atoms_spec (ws := Cond.code yL_cell cL_cell 2 (some .int) :: ALL) h w (List.mem_cons_of_mem _ hw)) hml hK
  have hl := lv_entry ([.ref b, .int p0]) (n := 2) (Nat.le_of_ble_eq_true rfl)
  rw [lg_entry_eq]
  generalize (lg_sl ([.ref b, .int p0]) ++ List.replicate (2 - (lg_sl ([.ref b, .int p0])).length) Slot.unset).toArray = ls at hl ⊢
  have hl : lv_has ls 2 [(0, .ref b), (1, .int p0)] := hl
  have hS : va_S (fun _ => False) s.heap s.heap [] := va_S.rf
  have hx := fx.1
  have hb := fx.2.1
  refine lv_iload_n hx hb dL_cell_0 rfl (lv_at hl 1 rfl) ?_
  refine lv_aload_n hx hb dL_cell_1 rfl (lv_at hl 0 rfl) ?_
  refine va_slen hx hb hX hbl (fun h => h) hS dL_cell_2 ?_
  refine lv_icmp_ge (tgt := 12) hx hb dL_cell_3 (by decide) (fun c1 => ?_) (fun c1 => ?_)
  · refine lv_sipush (v := 7919) hx hb dL_cell_12 (by decide) ?_
    refine lv_iload_n hx hb dL_cell_15 rfl (lv_at hl 1 rfl) ?_
    refine lv_sipush (v := 2917) hx hb dL_cell_16 (by decide) ?_
    refine lv_iadd hx hb dL_cell_19 ?_
    refine lv_imul hx hb dL_cell_20 ?_
    refine lv_iload_n hx hb dL_cell_21 rfl (lv_at hl 1 rfl) ?_
    refine lv_sipush (v := 619) hx hb dL_cell_22 (by decide) ?_
    refine lv_iadd hx hb dL_cell_25 ?_
    refine lv_imul hx hb dL_cell_26 ?_
    exact W.iret hx hb B.returns (fun t ht hW => ⟨⟨_, (), rfl, (by simp only [f_L_cell, if_pos c1]), trivial⟩, hS.F ht⟩) hS.2.2 dL_cell_27 B.notSynchronized
  · refine lv_aload_n hx hb dL_cell_6 rfl (lv_at hl 0 rfl) ?_
    refine lv_iload_n hx hb dL_cell_7 rfl (lv_at hl 1 rfl) ?_
    refine va_sld hx hb hX hbl (fun h => h) hS (hok.2 c1).1 dL_cell_8 ?_
    refine lv_goto (tgt := 27) hx hb dL_cell_9 (by decide) ?_
    exact W.iret hx hb B.returns (fun t ht hW => ⟨⟨_, (), rfl, (by simp only [f_L_cell, if_neg c1]), trivial⟩, hS.F ht⟩) hS.2.2 dL_cell_27 B.notSynchronized
section CRUN
variable {p : Program} {l : Launch} {e : Env} {R : Room} {s : State} {m : MethodId} {args : Array Value} {below : List Frame} {meth : Method} {c : Code} {H : Heap} {locs : List Loc} {cells slots : Nat} {Q : State → Prop}
variable {D : va_G} {q : Nat → ClassId} {A : Nat → Prop} {H0 : Heap} {own : String} {cc : ByteArray} {nL : Nat} {pc : Nat} {ls : Array Slot} {rest : List Value}
theorem crun {b L idx : Nat} {xs : Nat → Int32} {k : Int32} (fx : FX p s m args c own cc nL D q) (hX : va_X b L xs s H0) (hbl : b < H0.size) (hbA : ¬ A b) (hS : va_S A H0 H locs) (hok : ok_L_cell L k) (lk : LKS own idx yL_cell cL_cell 2 (some .int) 2) (hroom : RM_L_cell.frames + 1 ≤ R.frames ∧ 8 + (2 + 11) + RM_L_cell.locals ≤ R.locals)
    (hl : ls.size = nL) (hW : (rest.map fun v => v.category).sum ≤ 8) (hdg : decode cc pc = .ok (.invokestatic idx, 3)) (hf : cells + 0 ≤ R.cells ∧ slots + 0 ≤ R.slots) :
    va_Run p l e R s m args below meth c H locs cells slots 0 0 (F0 m pc ls (.int k :: .ref b :: rest)) rest (va_Qi (fun (rv : Int32) (_ : Unit) => f_L_cell L xs k = rv) (fun _ _ => True) (fun _ => False) ([.ref b, .int k] : List Value).toArray) (fun _ => False) :=
  va_runS (fx_fix fx) (c_cellX l D q b L xs k hok) ⟨cb_of fx lk.1 lk.2.2 ⟨rfl, rfl⟩ hroom, fx.2.2.2.2.1 _ lk.2.1⟩
    ⟨cell_blind, fun U hU hW => ⟨rfl, by rw [hU]; exact va_X.moved hW.alike (hX.kept (hS.2.1 b hbl hbA)), by rw [hU]; exact Nat.lt_of_lt_of_le hbl hS.1, fx.2.2.2.2.2.warm hW⟩⟩ rfl rfl hl rfl (lv_room hW) hdg hf
theorem W.now {g : JFrame} (h : ∀ T : State, T.heap = H → Q (T.setTop g)) : W p l e R s m args below meth c H locs cells slots Q g := fun T hT _ => ⟨_, Steps.refl _, h T hT⟩
end CRUN
abbrev R9 : Room := { frames := 40, cells := 10000, slots := 60000, locals := 2000 }
def t1 : TS := f_X1_keep tests0 (0 : Int32) (5000 : Int32) (1 : Int32) (0 : Int32)
theorem test0 : f_X3_test kick0 well0 tests0 (0 : Int32) (5000 : Int32) = (0, 1, well0, t1) := rfl
theorem press_n (w : WS) (r : RS) : (f_L_pressure w r (Int32.ofNat 6)).1 = 1 ∧ (f_L_pressure w r (Int32.ofNat 7)).1 = 1 ∧ (f_L_pressure w r (Int32.ofNat 8)).1 = 1 ∧ (f_L_pressure w r (Int32.ofNat 9)).1 = 1 ∧ (f_L_pressure w r (Int32.ofNat 10)).1 = 1 ∧ (f_L_pressure w r (Int32.ofNat 11)).1 = 1 := ⟨rfl, rfl, rfl, rfl, rfl, rfl⟩
theorem t1_count : T_count t1 = 1 := rfl
theorem wi_out {k : Nat} (h1 : 1 ≤ k) (h2 : k < 12) : f_X3_isWithin (Int32.ofNat k) (0 : Int32) ((1 : Int32) - (1 : Int32)) = 0 := by
  rcases (show k = 1 ∨ k = 2 ∨ k = 3 ∨ k = 4 ∨ k = 5 ∨ k = 6 ∨ k = 7 ∨ k = 8 ∨ k = 9 ∨ k = 10 ∨ k = 11 by omega) with rfl | rfl | rfl | rfl | rfl | rfl | rfl | rfl | rfl | rfl | rfl <;> rfl
theorem ofTest_n {k : Nat} (p : Int32) (h1 : 1 ≤ k) (h2 : k < 12) : (f_L_ofTest t1 (Int32.ofNat k) p).1 = 1 := by
  have e : (f_X3_ofTest t1 (Int32.ofNat k) p) = (1, 0) := by simp only [f_X3_ofTest, t1_count, wi_out h1 h2, if_true]
  simp only [f_L_ofTest, e]
  rfl
theorem cntA_34 (w : WS) (r : RS) (p0 : Int32) : 34 ≤ cntA w r t1 p0 12 := by
  obtain ⟨a6, a7, a8, a9, a10, a11⟩ := press_n w r
  have b := fun (k : Nat) (h1 : 1 ≤ k) (h2 : k < 12) => ofTest_n (k := k) (f_L_low p0 (4 : Int32)) h1 h2
  have b1 := b 1 (by omega) (by omega)
  have b2 := b 2 (by omega) (by omega)
  have b3 := b 3 (by omega) (by omega)
  have b4 := b 4 (by omega) (by omega)
  have b5 := b 5 (by omega) (by omega)
  have b6 := b 6 (by omega) (by omega)
  have b7 := b 7 (by omega) (by omega)
  have b8 := b 8 (by omega) (by omega)
  have b9 := b 9 (by omega) (by omega)
  have b10 := b 10 (by omega) (by omega)
  have b11 := b 11 (by omega) (by omega)
  simp only [cntA]
  omega
def cntD (j : Nat) : Nat := j + (if 32 < j then 34 else 0) + (if 65 < j then 34 else 0)
theorem cnt_up : ∀ j : Nat, j < 76 → ¬ (j = 32 ∨ j = 65) → cntD (j + 1) = cntD j + 1 := by decide +kernel
theorem cnt_jump : ∀ j : Nat, j < 76 → (j = 32 ∨ j = 65) → cntD (j + 1) = cntD j + 35 := by decide +kernel
theorem d33 : ∀ j : Nat, j < 76 → (Int32.ofNat j - Int32.ofNat j / (33 : Int32) * (33 : Int32) = (32 : Int32) ↔ j = 32 ∨ j = 65) := by decide +kernel
theorem d100 : ∀ j : Nat, j < 76 → ¬ (100 : Int32) ≤ Int32.ofNat j := by decide +kernel
theorem okeq0 : ok_L_equivalent well0 := by
  refine ⟨⟨fun h => absurd h (by decide), fun _ => trivial⟩, fun h => absurd h (by decide)⟩
theorem open_t : f_L_open well0 = (0 + 1, (-2000000000 : Int32), well0) := rfl
theorem low_21 : f_L_low (21 : Int32) (48 : Int32) = (21 : Int32) := rfl
theorem act_21 (N : Nat) (x : XS) (v : WS) (r : RS) (t : TS) : f_L_act N x well0 v r t (21 : Int32) = (0 + (0 + 1), (-2000000000 : Int32), x, well0, v, r, t) := by
  have e1 : ¬ (if f_L_low ((21 : Int32) >>> ((26 : Int32) &&& 31)) (14 : Int32) = 0 then (1 : Int32) else (0 : Int32)) = 0 := by decide
  simp only [f_L_act, if_neg e1, f_L_act_b38, f_L_act_b65, f_L_act_sw, low_21]
  rfl

theorem okact_21 (N : Nat) (x : XS) (w v : WS) (r : RS) (t : TS) : ok_L_act N x w v r t (21 : Int32) := by
  have e1 : ¬ (if f_L_low ((21 : Int32) >>> ((26 : Int32) &&& 31)) (14 : Int32) = 0 then (1 : Int32) else (0 : Int32)) = 0 := by decide
  have e2 : ∀ p1 : Int32, ¬ p1 = 0 → ∀ p0 : Int32, ok_L_low p0 p1 := fun p1 h p0 => ⟨h, trivial⟩
  have hs : ∀ a b c d : Int32, ok_L_act_sw N x w v r t 21 a b c d (f_L_low (21 : Int32) (48 : Int32)) := by
    intro a b c d
    rw [low_21]
    unfold ok_L_act_sw
    refine ⟨fun h => absurd h (by decide), fun h => absurd h (by decide), fun h => absurd h (by decide), fun h => absurd h (by decide), fun h => absurd h (by decide), fun h => absurd h (by decide), fun h => absurd h (by decide), fun h => absurd h (by decide), fun h => absurd h (by decide), fun h => absurd h (by decide), fun h => absurd h (by decide), fun h => absurd h (by decide), fun h => absurd h (by decide), fun h => absurd h (by decide), fun h => absurd h (by decide), fun h => absurd h (by decide), fun h => absurd h (by decide), fun h => absurd h (by decide), fun h => absurd h (by decide), fun h => absurd h (by decide), fun h => absurd h (by decide), fun _ => trivial, fun h => absurd h (by decide), fun h => absurd h (by decide), fun h => absurd h (by decide), fun h => absurd h (by decide), fun h => absurd h (by decide), fun h => absurd h (by decide), fun h => absurd h (by decide), fun h => absurd h (by decide), fun h => absurd h (by decide), fun h => absurd h (by decide), fun h => absurd h (by decide), fun h => absurd h (by decide), fun h => absurd h (by decide), fun h => absurd h (by decide), fun h => absurd h (by decide), fun h => absurd h (by decide), fun h => absurd h (by decide), fun h => absurd h (by decide), fun h => absurd h (by decide), fun h => absurd h (by decide), fun h => absurd h (by decide), fun h => absurd h (by decide), fun h => absurd h (by decide), fun h => absurd h (by decide), fun h => absurd h (by decide), fun h => absurd h (by decide)⟩
  refine ⟨e2 _ (by decide) _, fun h => absurd h e1, fun _ => ?_⟩
  unfold ok_L_act_b38
  refine ⟨fun h => absurd h e1, fun _ => ⟨e2 _ (by decide) _, ?_⟩⟩
  unfold ok_L_act_b65
  exact ⟨e2 _ (by decide) _, hs _ _ _ _⟩

set_option maxRecDepth 100000 in
set_option maxHeartbeats 8000000 in
theorem deep_loop {p : Program} {l : Launch} {e : Env} {s : State} {m : MethodId} {below : List Frame} {meth : Method} {c : Code} {D : va_G} {q : Nat → ClassId} {b L : Nat} {xs : Nat → Int32} {N : Nat} (h aw av : Nat) (kr kt : Nat → Nat) (h2 aw2 av2 : Nat) (kr2 kt2 : Nat → Nat) (r : RS) (z : Nat → Int32) (hstk : l.stackTraces = false) (hN : 60 < N)
    (fx : FX p s m #[Value.ref b] c RL code 7 D q) (hSX : SX s) (hSZ0 : SZ (fun a : Nat => s.heap.size ≤ a) s s.heap) (hX : va_X b L xs s s.heap) (hbl : b < s.heap.size) (hcell : ∀ j : Nat, j < 76 → ok_L_cell L (Int32.ofNat j) ∧ f_L_cell L xs (Int32.ofNat j) = 21) (hD : va_D (fun a : Nat => s.heap.size ≤ a) (cPair h aw av kr kt h2 aw2 av2 kr2 kt2 q kick0 well0 well0 r t1 kick0 well0 well0 (R_set_pieces r z) t1)) :
    ∀ (n j : Nat), j + n = 76 → ∀ (H : Heap) (locs : List Loc) (ls : Array Slot), va_P D vwCl (cPair h aw av kr kt h2 aw2 av2 kr2 kt2 q kick0 well0 well0 r t1 kick0 well0 well0 (R_set_pieces r z) t1) H → va_S (fun a : Nat => s.heap.size ≤ a) s.heap H locs → s.heap.size + cntD j ≤ H.size → lv_has ls 7 [(0, .ref b), (1, .ref h), (2, .ref h2), (3, .int 1), (4, .int (Int32.ofNat j))] →
      W p l e R9 s m #[Value.ref b] below meth c H locs (40 + 101 * j) (2000 + 606 * j) (fun t => s.heap.size + 144 ≤ t.heap.size) (F0 m 47 ls []) := by
  have hx := fx.1
  have hb := fx.2.1
  have hA : ∀ a : Nat, s.heap.size ≤ a → (fun a : Nat => s.heap.size ≤ a) a := fun _ h => h
  have hbA : ¬ (fun a : Nat => s.heap.size ≤ a) b := Nat.not_le.mpr hbl
  intro n
  induction n with
  | zero =>
    intro j hj H locs ls hP hS hg hl
    have e : j = 76 := by omega
    subst e
    exact W.now (fun T hT => by show s.heap.size + 144 ≤ T.heap.size; rw [hT]; exact hg)
  | succ n ih =>
    intro j hj H locs ls hP hS hg hl
    have hj76 : j < 76 := by omega
    obtain ⟨hokc, hce⟩ := hcell j hj76
    refine lv_iload hx hb dL_law_47 (lv_at hl 4 rfl) ?_
    refine lv_bipush (v := 100) hx hb dL_law_49 (by decide) ?_
    refine lv_icmp_ge (tgt := 122) hx hb dL_law_51 (by decide) (fun h9 => absurd h9 (d100 j hj76)) (fun _ => ?_)
    refine lv_iload_n hx hb dL_law_54 rfl (lv_at hl 3 rfl) ?_
    refine lv_if_eq (tgt := 122) hx hb dL_law_55 (by decide) (fun h9 => absurd h9 (by decide)) (fun _ => ?_)
    refine lv_aload_n hx hb dL_law_58 rfl (lv_at hl 0 rfl) ?_
    refine lv_iload hx hb dL_law_59 (lv_at hl 4 rfl) ?_
    refine kRg_i (crun fx hX hbl hbA hS hokc lk_L_154 ⟨Nat.le_of_ble_eq_true rfl, Nat.le_of_ble_eq_true rfl⟩ hl.1 (Nat.le_of_ble_eq_true rfl) dL_law_61 ⟨by show _ ≤ (10000 : Nat); omega, by show _ ≤ (60000 : Nat); omega⟩) hP hS hg (fun r1 _ H locs hr1 hP hS hg => ?_)
    have hv : r1 = 21 := hr1.symm.trans hce
    subst hv
    refine lv_istore (lv' := [(5, .int (21 : Int32)), (0, .ref b), (1, .ref h), (2, .ref h2), (3, .int 1), (4, .int (Int32.ofNat j))]) hx hb dL_law_64 hl (by decide) rfl (fun ls hl => ?_)
    refine lv_aload_n hx hb dL_law_66 rfl (lv_at hl 2 rfl) ?_
    refine lv_iload hx hb dL_law_67 (lv_at hl 0 rfl) ?_
    refine kWg_i (C := fun (u9 : XS × WS × WS × RS × TS) => cKick h aw av kr kt q u9.1 u9.2.1 u9.2.2.1 u9.2.2.2.1 u9.2.2.2.2) (wrunC fx hSX (SZ.kept hSZ0 hS.2.1) (As := [.ref h, .int (21 : Int32)]) (rest := []) (c_L_act l D q H.size h aw av kr kt kick0 well0 well0 r t1 (21 : Int32) N (okact_21 N kick0 well0 well0 r t1) hstk) lk_L_158 ⟨Nat.le_of_ble_eq_true rfl, Nat.le_of_ble_eq_true rfl⟩ ⟨rfl, rfl⟩ hP hD hS hA [0, 1, 2, 3, 4, 5, 6, 7, 8, 9, 10, 11, 12, 13] rfl rfl rfl hl.1 rfl (Nat.le_of_ble_eq_true rfl) dL_law_69 ⟨by show _ ≤ (10000 : Nat); omega, by show _ ≤ (60000 : Nat); omega⟩) hP hD hS hA hg [0, 1, 2, 3, 4, 5, 6, 7, 8, 9, 10, 11, 12, 13] rfl (fun _ => rfl) (fun r2 n2 u2 H locs hw2 hP hS hg => ?_)
    have hw2 : f_L_act N kick0 well0 well0 r t1 (21 : Int32) = (n2, r2, u2) := hw2
    rw [act_21] at hw2
    obtain ⟨e1, e2⟩ := Prod.mk.inj hw2
    obtain ⟨e2, e3⟩ := Prod.mk.inj e2
    subst e1; subst e2; subst e3
    rw [fst_all] at hP
    have hP : va_P D vwCl (cPair h aw av kr kt h2 aw2 av2 kr2 kt2 q kick0 well0 well0 r t1 kick0 well0 well0 (R_set_pieces r z) t1) H := hP
    refine lv_istore (lv' := [(6, .int (-2000000000 : Int32)), (5, .int (21 : Int32)), (0, .ref b), (1, .ref h), (2, .ref h2), (3, .int 1), (4, .int (Int32.ofNat j))]) hx hb dL_law_72 hl (by decide) rfl (fun ls hl => ?_)
    refine lv_iload hx hb dL_law_74 (lv_at hl 0 rfl) ?_
    refine lv_ldc hx hb fx.2.2.2.1 (fx.2.2.2.2.1 _ mn_5) dL_law_76 ?_
    refine lv_icmp_eq (tgt := 92) hx hb dL_law_78 (by decide) (fun _ => ?_) (fun h9 => absurd rfl h9)
    refine lv_iload hx hb dL_law_92 (lv_at hl 6 rfl) ?_
    refine lv_bipush (v := 33) hx hb dL_law_94 (by decide) ?_
    refine lv_irem hx hb dL_law_96 (by decide) ?_
    refine lv_bipush (v := 32) hx hb dL_law_97 (by decide) ?_
    refine lv_icmp_ne (tgt := 116) hx hb dL_law_99 (by decide) (fun c33 => ?_) (fun c33 => ?_)
    · have hne : ¬ (j = 32 ∨ j = 65) := fun h9 => c33 ((d33 j hj76).mpr h9)
      refine lv_iinc (v := Int32.ofNat j + (1 : Int32)) (lv' := [(4, .int (Int32.ofNat j + (1 : Int32))), (6, .int (-2000000000 : Int32)), (5, .int (21 : Int32)), (0, .ref b), (1, .ref h), (2, .ref h2), (3, .int 1)]) hx hb dL_law_116 hl (k := 6) rfl rfl (by decide) rfl (fun ls hl => ?_)
      refine lv_goto (tgt := 47) hx hb dL_law_119 (by decide) ?_
      refine W.widen (k := 40 + 101 * (j + 1)) (n := 2000 + 606 * (j + 1)) (by omega) (by omega) ?_
      exact ih (j + 1) (by omega) H locs ls hP hS (by rw [cnt_up j hj76 hne]; omega) (by rw [← k_up]; exact lv_sub hl [3, 4, 5, 6, 0] rfl)
    · have hjj : j = 32 ∨ j = 65 := (d33 j hj76).mp c33
      refine lv_aload_n hx hb dL_law_102 rfl (lv_at hl 3 rfl) ?_
      refine lv_aload_n hx hb dL_law_103 rfl (lv_at hl 4 rfl) ?_
      refine lv_iload hx hb dL_law_104 (lv_at hl 1 rfl) ?_
      refine lv_iconst (v := 3) hx hb dL_law_106 (by decide) ?_
      refine lv_ishr hx hb dL_law_107 ?_
      refine kWg_i (C := fun (_ : Unit) => cPair h aw av kr kt h2 aw2 av2 kr2 kt2 q kick0 well0 well0 r t1 kick0 well0 well0 (R_set_pieces r z) t1) (wrunC fx hSX (SZ.kept hSZ0 hS.2.1) (As := [.ref h, .ref h2, .int ((21 : Int32) >>> ((3 : Int32) &&& 31))]) (rest := []) (c_L_areAlike l D q H.size h aw av kr kt h2 aw2 av2 kr2 kt2 kick0 well0 well0 r t1 well0 z ((21 : Int32) >>> ((3 : Int32) &&& 31)) N (cas_ok hN r _) okeq0 hstk) lk_L_161 ⟨Nat.le_of_ble_eq_true rfl, Nat.le_of_ble_eq_true rfl⟩ ⟨rfl, rfl⟩ hP hD hS hA [0, 1, 2, 3, 4, 5, 6, 7, 8, 9, 10, 11, 12, 13, 14, 15, 16, 17, 18, 19, 20, 21, 22, 23, 24, 25, 26, 27] rfl rfl rfl hl.1 rfl (Nat.le_of_ble_eq_true rfl) dL_law_108 ⟨by show _ ≤ (10000 : Nat); omega, by show _ ≤ (60000 : Nat); omega⟩) hP hD hS hA hg [0, 1, 2, 3, 4, 5, 6, 7, 8, 9, 10, 11, 12, 13, 14, 15, 16, 17, 18, 19, 20, 21, 22, 23, 24, 25, 26, 27] rfl (fun _ => rfl) (fun r3 n3 _ H locs hw3 hP hS hg => ?_)
      rw [setAll_same _ _ _ rfl] at hP
      have hP : va_P D vwCl (cPair h aw av kr kt h2 aw2 av2 kr2 kt2 q kick0 well0 well0 r t1 kick0 well0 well0 (R_set_pieces r z) t1) H := hP
      obtain ⟨⟨er, en⟩, -⟩ := hw3
      have en : cntA well0 r t1 ((21 : Int32) >>> ((3 : Int32) &&& 31)) 12 ≤ n3 := en
      have e34 := cntA_34 well0 r ((21 : Int32) >>> ((3 : Int32) &&& 31))
      subst er
      refine lv_if_ne (tgt := 116) hx hb dL_law_111 (by decide) (fun _ => ?_) (fun h9 => absurd h9 (by decide))
      refine lv_iinc (v := Int32.ofNat j + (1 : Int32)) (lv' := [(4, .int (Int32.ofNat j + (1 : Int32))), (6, .int (-2000000000 : Int32)), (5, .int (21 : Int32)), (0, .ref b), (1, .ref h), (2, .ref h2), (3, .int 1)]) hx hb dL_law_116 hl (k := 6) rfl rfl (by decide) rfl (fun ls hl => ?_)
      refine lv_goto (tgt := 47) hx hb dL_law_119 (by decide) ?_
      refine W.widen (k := 40 + 101 * (j + 1)) (n := 2000 + 606 * (j + 1)) (by omega) (by omega) ?_
      exact ih (j + 1) (by omega) H locs ls hP hS (by rw [cnt_jump j hj76 hjj]; omega) (by rw [← k_up]; exact lv_sub hl [3, 4, 5, 6, 0] rfl)
