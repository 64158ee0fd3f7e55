/-! Methods that throw: what a throw needs of the tables, what the caller has of it. -/
def excName : Nat → String
  | 1 => "java/lang/IndexOutOfBoundsException"
  | 2 => "java/lang/IllegalArgumentException"
  | _ => "java/lang/IllegalStateException"
def tik : Nat → Nat
  | 1 => 43
  | 2 => 50
  | _ => 58
def tic : Nat → Nat
  | 1 => 47
  | 2 => 54
  | _ => 62
def EN : List String := ["java/lang/RuntimeException", "java/lang/Exception"]
def atK (k : Nat) : List Cond := vx_atS RX3 (tic k) (excName k) EN
/-- the words of a throw that a warming does not keep by themselves -/
def XB : List Cond := [.castable "java/lang/IndexOutOfBoundsException" "java/lang/IndexOutOfBoundsException", .castable "java/lang/IllegalArgumentException" "java/lang/IllegalArgumentException", .castable "java/lang/IllegalStateException" "java/lang/IllegalStateException",
  .declares ⟨"java/lang/RuntimeException", "<init>", "(Ljava/lang/String;)V"⟩, .declares ⟨"java/lang/Exception", "<init>", "(Ljava/lang/String;)V"⟩, .declares ⟨"java/lang/Throwable", "<init>", "(Ljava/lang/String;)V"⟩]
def SL : List (Nat × String) := [(45, "there is no such layer"), (52, "pore, breaks or rate is out of range"), (60, "the layer is drilled into"), (67, "weight is out of range"), (73, "the well is closed"), (81, "metres is out of range"), (91, "drilling is barred, or would go too deep or too long"), (97, "minutes is out of range"), (99, "the minutes would be too many"), (105, "the well is open"), (110, "minutes or weight is out of range"), (112, "the well is open or has no depth, or the minutes would be too many"), (121, "barrels is out of range"), (130, "the depth is the shoe, or there is gas or liquid"), (139, "strength is out of range"), (144, "what or pressure is out of range"), (149, "the well is closed, there were 60 tests, or there is no casing"), (161, "there is no such person"), (189, "what is out of range"), (218, "there is no such test"), (236, "the depth is 0"), (238, "from or to is out of range"), (250, "to is out of range"), (258, "the shoe is 0")]
def NCL : List (Nat × Nat) := [(1, 2), (1, 3), (2, 1), (2, 3), (3, 1), (3, 2)]
theorem XB_tab : ∀ w ∈ XB, w.onTables = true := by decide +kernel
theorem at1_g : ∀ w ∈ (atK 1).filter goodWord, w ∈ lw_tbl := by decide +kernel
theorem at2_g : ∀ w ∈ (atK 2).filter goodWord, w ∈ lw_tbl := by decide +kernel
theorem at3_g : ∀ w ∈ (atK 3).filter goodWord, w ∈ lw_tbl := by decide +kernel
theorem at1_b : ∀ w ∈ (atK 1).filter (fun w => !goodWord w), w ∈ XB := by decide +kernel
theorem at2_b : ∀ w ∈ (atK 2).filter (fun w => !goodWord w), w ∈ XB := by decide +kernel
theorem at3_b : ∀ w ∈ (atK 3).filter (fun w => !goodWord w), w ∈ XB := by decide +kernel
theorem at1_o : ∀ w ∈ Cond.classLink RX3 (tik 1) (excName 1) :: Cond.initialized (excName 1) :: atK 1, vx_ot w = true := by decide +kernel
theorem at2_o : ∀ w ∈ Cond.classLink RX3 (tik 2) (excName 2) :: Cond.initialized (excName 2) :: atK 2, vx_ot w = true := by decide +kernel
theorem at3_o : ∀ w ∈ Cond.classLink RX3 (tik 3) (excName 3) :: Cond.initialized (excName 3) :: atK 3, vx_ot w = true := by decide +kernel
theorem kl1 : Cond.classLink RX3 (tik 1) (excName 1) ∈ ALL := ALL_i (List.mem_append_right _ (List.mem_append_right _ (List.mem_append_left _ (List.mem_of_getElem? (i := 52) (by decide +kernel))))) (by decide +kernel)
theorem kl2 : Cond.classLink RX3 (tik 2) (excName 2) ∈ ALL := ALL_i (List.mem_append_right _ (List.mem_append_left _ (List.mem_of_getElem? (i := 181) (by decide +kernel)))) (by decide +kernel)
theorem kl3 : Cond.classLink RX3 (tik 3) (excName 3) ∈ ALL := ALL_i (List.mem_append_right _ (List.mem_append_right _ (List.mem_append_left _ (List.mem_of_getElem? (i := 9) (by decide +kernel))))) (by decide +kernel)
theorem ki1 : Cond.initialized (excName 1) ∈ ALL := ALL_i (List.mem_append_right _ (List.mem_append_left _ (List.mem_of_getElem? (i := 11) (by decide +kernel)))) (by decide +kernel)
theorem ki2 : Cond.initialized (excName 2) ∈ ALL := ALL_i (List.mem_append_right _ (List.mem_append_left _ (List.mem_of_getElem? (i := 9) (by decide +kernel)))) (by decide +kernel)
theorem ki3 : Cond.initialized (excName 3) ∈ ALL := ALL_i (List.mem_append_right _ (List.mem_append_left _ (List.mem_of_getElem? (i := 10) (by decide +kernel)))) (by decide +kernel)
theorem EN_fit : ∀ n ∈ EN, Bundle.fit n = true := by decide +kernel
def SX (U : State) : Prop := (∀ w ∈ XB, va_Nw w U) ∧ (∀ z ∈ SL, ∃ sa, vk_R RX3 z.1 z.2 sa U) ∧ (∀ z ∈ NCL, va_Nc (excName z.1) (excName z.2) U)
theorem xb_warm {w : Cond} (hw : w ∈ XB) {s U : State} (hW : s.WarmedH U.vm) (h : va_Nw w s) : va_Nw w U := by
  simp only [XB, List.mem_cons, List.not_mem_nil, or_false] at hw
  rcases hw with rfl | rfl | rfl | rfl | rfl | rfl
  · exact va_Nw.warmC hW h
  · exact va_Nw.warmC hW h
  · exact va_Nw.warmC hW h
  · exact va_Nw.warmD hW h
  · exact va_Nw.warmD hW h
  · exact va_Nw.warmD hW h
theorem SX.warm {s U : State} (hW : s.WarmedH U.vm) (h : SX s) : SX U :=
  ⟨fun w hw => xb_warm hw hW (h.1 w hw), fun z hz => (h.2.1 z hz).elim fun sa h => ⟨sa, vk_R.warm hW h⟩, fun z hz => va_Nc.moved hW.alike (h.2.2 z hz)⟩
theorem SX.same {u U : State} (hv : u.vm = U.vm) (h : SX u) : SX U :=
  ⟨fun w hw => va_Nw.same (XB_tab w hw) hv (h.1 w hw), fun z hz => (h.2.1 z hz).elim fun sa h => ⟨sa, vk_R.same hv.symm h⟩, fun z hz => va_Nc.moved (by rw [hv]; exact Vm.Alike.refl _) (h.2.2 z hz)⟩
/-- where Throwable's two statics lie, outside of what may be written -/
def SZ (A : Nat → Prop) (U : State) (H : Heap) : Prop := vx_Zq Bundle.tN "UNASSIGNED_STACK" Bundle.steD A U H ∧ vx_Zq Bundle.tN "SUPPRESSED_SENTINEL" Bundle.listD A U H
theorem SZ.moved {A : Nat → Prop} {u U : State} {H : Heap} (hvm : u.vm.Alike U.vm) (h : SZ A u H) : SZ A U H := ⟨vx_Zq.moved hvm h.1, vx_Zq.moved hvm h.2⟩
theorem SZ.kept {A : Nat → Prop} {U : State} {H H1 : Heap} (h : SZ A U H) (hq : ∀ a : Nat, a < H.size → ¬ A a → H1[a]? = H[a]?) : SZ A U H1 := ⟨vx_Zq.kept h.1 hq, vx_Zq.kept h.2 hq⟩
theorem SZ.narrow {A B : Nat → Prop} {U : State} {H : Heap} (h : SZ A U H) (hAB : ∀ q, B q → A q) : SZ B U H := ⟨vx_Zq.narrow h.1 hAB, vx_Zq.narrow h.2 hAB⟩
def PX (D : va_G) (q : Nat → ClassId) (av : List Value) (ws : va_W) (sz : Nat) : Array Value → State → Prop :=
  va_Pc av (fun U => U.heap.size = sz ∧ va_P D vwCl ws U.heap ∧ KK D q U ∧ va_D (fun _ => True) ws ∧ SX U ∧ SZ (va_A ws sz) U U.heap)
theorem PX_blind {D : va_G} {q : Nat → ClassId} {av : List Value} {ws : va_W} {sz : Nat} : FrameBlind (PX D q av ws sz) := fun a U g mk h => by
  obtain ⟨e, h1, h2, h3, h4, h5, h6⟩ := h
  exact ⟨e, h1, h2, KK.same (u := U) (U := U.calling g mk a) rfl h3, h4, SX.same (u := U) (U := U.calling g mk a) rfl h5, SZ.moved (u := U) (U := U.calling g mk a) (Vm.Alike.refl U.vm) h6⟩
/-- what the caller has of a throw: which exception (k), the method's world as it was -/
def XCk (D : va_G) (ws : va_W) (sz : Nat) (px : Nat → Prop) : String → State → State → Prop :=
  vx_X (fun k : Nat => (k = 1 ∨ k = 2 ∨ k = 3) ∧ px k) (fun E k t => E = excName k ∧ va_P D vwCl ws t.heap ∧ sz + 1 ≤ t.heap.size) (va_A ws sz)
section THR
variable {p : Program} {l : Launch} {e : Env} {R : Room} {s : State} {m : MethodId} {args : Array Value} {below : List Frame} {meth : Method} {c : Code} {H : Heap} {locs : List Loc} {cells slots : Nat} {Q : State → Prop}
variable {D : va_G} {q : Nat → ClassId} {ws : va_W} {A : Nat → Prop} {H0 : Heap} {own : String} {cc : ByteArray} {nL : Nat} {pc : Nat} {ls : Array Slot} {rest st : List Value}
theorem at_all {k : Nat} (hk : k = 1 ∨ k = 2 ∨ k = 3) (hts : ∀ w ∈ ALL, w.before args s = true) (hSX : SX s) : ∀ w ∈ atK k, w.before args s = true := by
  have hB : ∀ w ∈ XB, w.before args s = true := fun w hw => va_Nw.use (XB_tab w hw) (hSX.1 w hw)
  have hG : ∀ L : List Cond, (∀ w ∈ L.filter goodWord, w ∈ lw_tbl) → ∀ w ∈ L.filter goodWord, w.before args s = true := fun L hL w hw => hts w (ALL_i (hL w hw) (List.mem_filter.mp hw).2)
  rcases hk with rfl | rfl | rfl
  · exact vx_hat (hG _ at1_g) at1_b hB
  · exact vx_hat (hG _ at2_g) at2_b hB
  · exact vx_hat (hG _ at3_g) at3_b hB
theorem thr_row {sz k is : Nat} {text : String} {rm : Room} {px : Nat → Prop} {Qc : Array Value → State → Outcome → State → Prop} (hszz : s.heap.size = sz) (hstk : l.stackTraces = false) (fx : FX p s m args c RX3 cc nL D q) (htab : ∀ x ∈ c.exceptionTable.toList, False) (hlocks : meth.locks = false) (hSX : SX s) (hSZ : SZ (va_A ws sz) s s.heap)
    (hk : k = 1 ∨ k = 2 ∨ k = 3) (hls : ls.size = nL) (hcat : (rest.map fun v => v.category).sum ≤ 8) (hsl : (is, text) ∈ SL)
    (hd : decode cc pc = .ok (.new (tik k), 3) ∧ decode cc (pc + 3) = .ok (.dup, 1) ∧ ((decode cc (pc + 4) = .ok (.ldc is, 2) ∧ decode cc (pc + 6) = .ok (.invokespecial (tic k), 3) ∧ decode cc (pc + 9) = .ok (.athrow, 1)) ∨ (decode cc (pc + 4) = .ok (.ldc_w is, 3) ∧ decode cc (pc + 7) = .ok (.invokespecial (tic k), 3) ∧ decode cc (pc + 10) = .ok (.athrow, 1))))
    (hp : px k) (hP : va_P D vwCl ws H) (hS : va_S (va_A ws sz) s.heap H locs) (hrm : 5 < rm.frames ∧ 90 ≤ rm.locals ∧ rm.cells = 1 ∧ rm.slots = 6) :
    W p l e rm s m args below meth c H locs 0 0 (vx_MQ below Qc (XCk D ws sz px) args s 1 6 (va_A ws sz)) (F0 m pc ls rest) := by
  obtain ⟨sa, hstr⟩ := hSX.2.1 _ hsl
  have hat := at_all (args := args) hk fx.2.2.2.2.1 hSX
  have hx : ∀ t : State, s.vm.Alike t.vm → H.size + 1 ≤ t.heap.size → (∀ q : Nat, q < H.size → t.heap[q]? = H[q]?) → XCk D ws sz px (excName k) s t := fun t h1 h2 h3 =>
    ⟨k, ⟨hk, hp⟩, ⟨rfl, hP.kept (fun j x hx => h3 x.1 ((hP j x hx).lt)), by have := hS.1; omega⟩, Nat.le_trans hS.1 (Nat.le_of_succ_le h2), fun a ha hn => (h3 a (Nat.lt_of_lt_of_le ha hS.1)).trans (hS.2.1 a ha hn)⟩
  have hfit : Bundle.fit (excName k) = true := by rcases hk with rfl | rfl | rfl <;> decide +kernel
  have hkl : (Cond.classLink RX3 (tik k) (excName k)).before args s = true := fx.2.2.2.2.1 _ (by rcases hk with rfl | rfl | rfl; exact kl1; exact kl2; exact kl3)
  have hki : (Cond.initialized (excName k)).before args s = true := fx.2.2.2.2.1 _ (by rcases hk with rfl | rfl | rfl; exact ki1; exact ki2; exact ki3)
  have hgo : ∀ w ∈ Cond.classLink RX3 (tik k) (excName k) :: Cond.initialized (excName k) :: vx_atS RX3 (tic k) (excName k) EN, vx_ot w = true := by rcases hk with rfl | rfl | rfl; exact at1_o; exact at2_o; exact at3_o
  obtain ⟨h1, h2, h3, h4⟩ := hrm
  obtain ⟨d0, d3, ⟨d4, d6, d9⟩ | ⟨d4, d6, d9⟩⟩ := hd
  · exact vx_throwS (names := EN) fx.1 fx.2.1 hstk fx.2.2.2.1 hfit EN_fit hkl hki hstr hat hgo hSZ.1 hSZ.2 hS (hls.trans fx.2.2.1.symm) d0 d3 d4 d6 d9 (fun x hx => (htab x hx).elim) h1 (by show _ + 82 ≤ _; omega) (by omega) (by omega) hlocks hx hS.2.2 (Nat.le_refl _) (Nat.le_refl _)
  · exact vx_throwSW (names := EN) fx.1 fx.2.1 hstk fx.2.2.2.1 hfit EN_fit hkl hki hstr hat hgo hSZ.1 hSZ.2 hS (hls.trans fx.2.2.1.symm) d0 d3 d4 d6 d9 (fun x hx => (htab x hx).elim) h1 (by show _ + 82 ≤ _; omega) (by omega) (by omega) hlocks hx hS.2.2 (Nat.le_refl _) (Nat.le_refl _)
variable {y : MethodName} {rm : Room} {av : List Value} {sz : Nat} {S : Type} {C : S → va_W}
theorem en_xi {post : Int32 → S → Prop} {px : Nat → Prop} (hstk : l.stackTraces = false) (hcls : y.cls = RX3) (hy : plainName y.cls = true) (hav : (lg_sl av).length ≤ nL) (hrm : 5 < rm.frames ∧ 90 ≤ rm.locals ∧ rm.cells = 1 ∧ rm.slots = 6)
    (body : ∀ (p : Program) (e : Env) (s : State) (m : MethodId) (args : Array Value) (below : List Frame) (meth : Method) (c : Code) (Q : State → Prop) (A : Nat → Prop) (H : Heap) (locs : List Loc) (ls : Array Slot), FX p s m args c RX3 cc nL D q → va_D A ws → (∀ a, s.heap.size ≤ a → A a) → va_P D vwCl ws H → va_S A s.heap H locs → lv_has ls nL (lv_args 0 av) →
      (∀ (r : Int32) (u : S) (pc : Nat) (H : Heap) (locs : List Loc) (ls : Array Slot), decode cc pc = .ok (.ireturn, 1) → post r u → va_P D vwCl (C u) H → va_S A s.heap H locs → W p l e rm s m args below meth c H locs 0 0 Q (F0 m pc ls [.int r])) →
      (∀ (k is : Nat) (text : String) (pc : Nat) (H : Heap) (locs : List Loc) (ls : Array Slot) (rest : List Value), (k = 1 ∨ k = 2 ∨ k = 3) → ls.size = nL → (rest.map fun v => v.category).sum ≤ 8 → (is, text) ∈ SL →
        (decode cc pc = .ok (.new (tik k), 3) ∧ decode cc (pc + 3) = .ok (.dup, 1) ∧ ((decode cc (pc + 4) = .ok (.ldc is, 2) ∧ decode cc (pc + 6) = .ok (.invokespecial (tic k), 3) ∧ decode cc (pc + 9) = .ok (.athrow, 1)) ∨ (decode cc (pc + 4) = .ok (.ldc_w is, 3) ∧ decode cc (pc + 7) = .ok (.invokespecial (tic k), 3) ∧ decode cc (pc + 10) = .ok (.athrow, 1)))) →
        px k → va_P D vwCl ws H → va_S A s.heap H locs → W p l e rm s m args below meth c H locs 0 0 Q (F0 m pc ls rest)) →
      W p l e rm s m args below meth c H locs 0 0 Q (F0 m 0 ls [])) :
    vx_Met l y (Cond.code y cc nL (some .int) :: ALL) rm (PX D q av ws sz) (va_Qi post (fun u t => va_P D vwCl (C u) t.heap) (va_A ws sz)) (XCk D ws sz px) 1 6 (va_A ws sz) := by
  refine vx_ofW (cc := cc) (maxL := nL) (ret := some .int) hy rfl ?_
  intro p e s m args below meth c s₁ B hml htab hv
  obtain ⟨rfl, hsz, hP, hK, hD, hSX, hSZ⟩ := hv
  have fx : FX p s m av.toArray c RX3 cc nL D q := fx_of hcls B (fun h w hw => atoms_spec (ws := Cond.code y cc nL (some .int) :: ALL) h w (List.mem_cons_of_mem _ hw)) hml hK
  have hl := lv_entry av hav
  rw [lg_entry_eq]
  generalize (lg_sl av ++ List.replicate (nL - (lg_sl av).length) Slot.unset).toArray = ls at hl ⊢
  refine body p e s m av.toArray below meth c _ (va_A ws sz) s.heap [] ls fx hD.self (fun a h => Or.inr (hsz ▸ h)) hP va_S.rf hl (fun r u pc H locs ls hdg hp hB hS => ?_) (fun k is text pc H locs ls rest hk hls hcat hsl hd hp hP2 hS => ?_)
  · refine W.widen (k := 1) (n := 6) (Nat.zero_le _) (Nat.zero_le _) (vx_ret ?_)
    exact W.iret fx.1 fx.2.1 B.returns (fun t ht hW => ⟨⟨r, u, rfl, hp, by show va_P D vwCl (C u) t.heap; rw [ht]; exact hB⟩, hS.F ht⟩) hS.2.2 hdg B.notSynchronized
  · exact thr_row hsz hstk fx htab B.notSynchronized hSX hSZ hk hls hcat hsl hd hp hP2 hS hrm
theorem en_xz {post : Int32 → S → Prop} {px : Nat → Prop} (hstk : l.stackTraces = false) (hcls : y.cls = RX3) (hy : plainName y.cls = true) (hav : (lg_sl av).length ≤ nL) (hrm : 5 < rm.frames ∧ 90 ≤ rm.locals ∧ rm.cells = 1 ∧ rm.slots = 6)
    (body : ∀ (p : Program) (e : Env) (s : State) (m : MethodId) (args : Array Value) (below : List Frame) (meth : Method) (c : Code) (Q : State → Prop) (A : Nat → Prop) (H : Heap) (locs : List Loc) (ls : Array Slot), FX p s m args c RX3 cc nL D q → va_D A ws → (∀ a, s.heap.size ≤ a → A a) → va_P D vwCl ws H → va_S A s.heap H locs → lv_has ls nL (lv_args 0 av) →
      (∀ (r : Int32) (u : S) (pc : Nat) (H : Heap) (locs : List Loc) (ls : Array Slot), decode cc pc = .ok (.ireturn, 1) → bz r → post r u → va_P D vwCl (C u) H → va_S A s.heap H locs → W p l e rm s m args below meth c H locs 0 0 Q (F0 m pc ls [.int r])) →
      (∀ (k is : Nat) (text : String) (pc : Nat) (H : Heap) (locs : List Loc) (ls : Array Slot) (rest : List Value), (k = 1 ∨ k = 2 ∨ k = 3) → ls.size = nL → (rest.map fun v => v.category).sum ≤ 8 → (is, text) ∈ SL →
        (decode cc pc = .ok (.new (tik k), 3) ∧ decode cc (pc + 3) = .ok (.dup, 1) ∧ ((decode cc (pc + 4) = .ok (.ldc is, 2) ∧ decode cc (pc + 6) = .ok (.invokespecial (tic k), 3) ∧ decode cc (pc + 9) = .ok (.athrow, 1)) ∨ (decode cc (pc + 4) = .ok (.ldc_w is, 3) ∧ decode cc (pc + 7) = .ok (.invokespecial (tic k), 3) ∧ decode cc (pc + 10) = .ok (.athrow, 1)))) →
        px k → va_P D vwCl ws H → va_S A s.heap H locs → W p l e rm s m args below meth c H locs 0 0 Q (F0 m pc ls rest)) →
      W p l e rm s m args below meth c H locs 0 0 Q (F0 m 0 ls [])) :
    vx_Met l y (Cond.code y cc nL (some .boolean) :: ALL) rm (PX D q av ws sz) (va_Qi (fun r u => post r u ∧ bz r) (fun u t => va_P D vwCl (C u) t.heap) (va_A ws sz)) (XCk D ws sz px) 1 6 (va_A ws sz) := by
  refine vx_ofW (cc := cc) (maxL := nL) (ret := some .boolean) hy rfl ?_
  intro p e s m args below meth c s₁ B hml htab hv
  obtain ⟨rfl, hsz, hP, hK, hD, hSX, hSZ⟩ := hv
  have fx : FX p s m av.toArray c RX3 cc nL D q := fx_of hcls B (fun h w hw => atoms_spec (ws := Cond.code y cc nL (some .boolean) :: ALL) h w (List.mem_cons_of_mem _ hw)) hml hK
  have hl := lv_entry av hav
  rw [lg_entry_eq]
  generalize (lg_sl av ++ List.replicate (nL - (lg_sl av).length) Slot.unset).toArray = ls at hl ⊢
  refine body p e s m av.toArray below meth c _ (va_A ws sz) s.heap [] ls fx hD.self (fun a h => Or.inr (hsz ▸ h)) hP va_S.rf hl (fun r u pc H locs ls hdg hz hp hB hS => ?_) (fun k is text pc H locs ls rest hk hls hcat hsl hd hp hP2 hS => ?_)
  · refine W.widen (k := 1) (n := 6) (Nat.zero_le _) (Nat.zero_le _) (vx_ret ?_)
    exact W.zret fx.1 fx.2.1 B.returns (bz_n hz) (fun t ht hW => ⟨⟨r, u, rfl, ⟨hp, hz⟩, by show va_P D vwCl (C u) t.heap; rw [ht]; exact hB⟩, hS.F ht⟩) hS.2.2 hdg B.notSynchronized
  · exact thr_row hsz hstk fx htab B.notSynchronized hSX hSZ hk hls hcat hsl hd hp hP2 hS hrm
theorem en_xl {post : Int64 → S → Prop} {px : Nat → Prop} (hstk : l.stackTraces = false) (hcls : y.cls = RX3) (hy : plainName y.cls = true) (hav : (lg_sl av).length ≤ nL) (hrm : 5 < rm.frames ∧ 90 ≤ rm.locals ∧ rm.cells = 1 ∧ rm.slots = 6)
    (body : ∀ (p : Program) (e : Env) (s : State) (m : MethodId) (args : Array Value) (below : List Frame) (meth : Method) (c : Code) (Q : State → Prop) (A : Nat → Prop) (H : Heap) (locs : List Loc) (ls : Array Slot), FX p s m args c RX3 cc nL D q → va_D A ws → (∀ a, s.heap.size ≤ a → A a) → va_P D vwCl ws H → va_S A s.heap H locs → lv_has ls nL (lv_args 0 av) →
      (∀ (r : Int64) (u : S) (pc : Nat) (H : Heap) (locs : List Loc) (ls : Array Slot), decode cc pc = .ok (.lreturn, 1) → post r u → va_P D vwCl (C u) H → va_S A s.heap H locs → W p l e rm s m args below meth c H locs 0 0 Q (F0 m pc ls [.long r])) →
      (∀ (k is : Nat) (text : String) (pc : Nat) (H : Heap) (locs : List Loc) (ls : Array Slot) (rest : List Value), (k = 1 ∨ k = 2 ∨ k = 3) → ls.size = nL → (rest.map fun v => v.category).sum ≤ 8 → (is, text) ∈ SL →
        (decode cc pc = .ok (.new (tik k), 3) ∧ decode cc (pc + 3) = .ok (.dup, 1) ∧ ((decode cc (pc + 4) = .ok (.ldc is, 2) ∧ decode cc (pc + 6) = .ok (.invokespecial (tic k), 3) ∧ decode cc (pc + 9) = .ok (.athrow, 1)) ∨ (decode cc (pc + 4) = .ok (.ldc_w is, 3) ∧ decode cc (pc + 7) = .ok (.invokespecial (tic k), 3) ∧ decode cc (pc + 10) = .ok (.athrow, 1)))) →
        px k → va_P D vwCl ws H → va_S A s.heap H locs → W p l e rm s m args below meth c H locs 0 0 Q (F0 m pc ls rest)) →
      W p l e rm s m args below meth c H locs 0 0 Q (F0 m 0 ls [])) :
    vx_Met l y (Cond.code y cc nL (some .long) :: ALL) rm (PX D q av ws sz) (va_Ql post (fun u t => va_P D vwCl (C u) t.heap) (va_A ws sz)) (XCk D ws sz px) 1 6 (va_A ws sz) := by
  refine vx_ofW (cc := cc) (maxL := nL) (ret := some .long) hy rfl ?_
  intro p e s m args below meth c s₁ B hml htab hv
  obtain ⟨rfl, hsz, hP, hK, hD, hSX, hSZ⟩ := hv
  have fx : FX p s m av.toArray c RX3 cc nL D q := fx_of hcls B (fun h w hw => atoms_spec (ws := Cond.code y cc nL (some .long) :: ALL) h w (List.mem_cons_of_mem _ hw)) hml hK
  have hl := lv_entry av hav
  rw [lg_entry_eq]
  generalize (lg_sl av ++ List.replicate (nL - (lg_sl av).length) Slot.unset).toArray = ls at hl ⊢
  refine body p e s m av.toArray below meth c _ (va_A ws sz) s.heap [] ls fx hD.self (fun a h => Or.inr (hsz ▸ h)) hP va_S.rf hl (fun r u pc H locs ls hdg hp hB hS => ?_) (fun k is text pc H locs ls rest hk hls hcat hsl hd hp hP2 hS => ?_)
  · refine W.widen (k := 1) (n := 6) (Nat.zero_le _) (Nat.zero_le _) (vx_ret ?_)
    exact W.lret fx.1 fx.2.1 B.returns (fun t ht hW => ⟨⟨r, u, rfl, hp, by show va_P D vwCl (C u) t.heap; rw [ht]; exact hB⟩, hS.F ht⟩) hS.2.2 hdg B.notSynchronized
  · exact thr_row hsz hstk fx htab B.notSynchronized hSX hSZ hk hls hcat hsl hd hp hP2 hS hrm
theorem en_xf {post : UInt32 → S → Prop} {px : Nat → Prop} (hstk : l.stackTraces = false) (hcls : y.cls = RX3) (hy : plainName y.cls = true) (hav : (lg_sl av).length ≤ nL) (hrm : 5 < rm.frames ∧ 90 ≤ rm.locals ∧ rm.cells = 1 ∧ rm.slots = 6)
    (body : ∀ (p : Program) (e : Env) (s : State) (m : MethodId) (args : Array Value) (below : List Frame) (meth : Method) (c : Code) (Q : State → Prop) (A : Nat → Prop) (H : Heap) (locs : List Loc) (ls : Array Slot), FX p s m args c RX3 cc nL D q → va_D A ws → (∀ a, s.heap.size ≤ a → A a) → va_P D vwCl ws H → va_S A s.heap H locs → lv_has ls nL (lv_args 0 av) →
      (∀ (r : UInt32) (u : S) (pc : Nat) (H : Heap) (locs : List Loc) (ls : Array Slot), decode cc pc = .ok (.freturn, 1) → post r u → va_P D vwCl (C u) H → va_S A s.heap H locs → W p l e rm s m args below meth c H locs 0 0 Q (F0 m pc ls [.float r])) →
      (∀ (k is : Nat) (text : String) (pc : Nat) (H : Heap) (locs : List Loc) (ls : Array Slot) (rest : List Value), (k = 1 ∨ k = 2 ∨ k = 3) → ls.size = nL → (rest.map fun v => v.category).sum ≤ 8 → (is, text) ∈ SL →
        (decode cc pc = .ok (.new (tik k), 3) ∧ decode cc (pc + 3) = .ok (.dup, 1) ∧ ((decode cc (pc + 4) = .ok (.ldc is, 2) ∧ decode cc (pc + 6) = .ok (.invokespecial (tic k), 3) ∧ decode cc (pc + 9) = .ok (.athrow, 1)) ∨ (decode cc (pc + 4) = .ok (.ldc_w is, 3) ∧ decode cc (pc + 7) = .ok (.invokespecial (tic k), 3) ∧ decode cc (pc + 10) = .ok (.athrow, 1)))) →
        px k → va_P D vwCl ws H → va_S A s.heap H locs → W p l e rm s m args below meth c H locs 0 0 Q (F0 m pc ls rest)) →
      W p l e rm s m args below meth c H locs 0 0 Q (F0 m 0 ls [])) :
    vx_Met l y (Cond.code y cc nL (some .float) :: ALL) rm (PX D q av ws sz) (va_Qf post (fun u t => va_P D vwCl (C u) t.heap) (va_A ws sz)) (XCk D ws sz px) 1 6 (va_A ws sz) := by
  refine vx_ofW (cc := cc) (maxL := nL) (ret := some .float) hy rfl ?_
  intro p e s m args below meth c s₁ B hml htab hv
  obtain ⟨rfl, hsz, hP, hK, hD, hSX, hSZ⟩ := hv
  have fx : FX p s m av.toArray c RX3 cc nL D q := fx_of hcls B (fun h w hw => atoms_spec (ws := Cond.code y cc nL (some .float) :: ALL) h w (List.mem_cons_of_mem _ hw)) hml hK
  have hl := lv_entry av hav
  rw [lg_entry_eq]
  generalize (lg_sl av ++ List.replicate (nL - (lg_sl av).length) Slot.unset).toArray = ls at hl ⊢
  refine body p e s m av.toArray below meth c _ (va_A ws sz) s.heap [] ls fx hD.self (fun a h => Or.inr (hsz ▸ h)) hP va_S.rf hl (fun r u pc H locs ls hdg hp hB hS => ?_) (fun k is text pc H locs ls rest hk hls hcat hsl hd hp hP2 hS => ?_)
  · refine W.widen (k := 1) (n := 6) (Nat.zero_le _) (Nat.zero_le _) (vx_ret ?_)
    exact W.fret fx.1 fx.2.1 B.returns (fun t ht hW => ⟨⟨r, u, rfl, hp, by show va_P D vwCl (C u) t.heap; rw [ht]; exact hB⟩, hS.F ht⟩) hS.2.2 hdg B.notSynchronized
  · exact thr_row hsz hstk fx htab B.notSynchronized hSX hSZ hk hls hcat hsl hd hp hP2 hS hrm
theorem en_xv {post : S → Prop} {px : Nat → Prop} (hstk : l.stackTraces = false) (hcls : y.cls = RX3) (hy : plainName y.cls = true) (hav : (lg_sl av).length ≤ nL) (hrm : 5 < rm.frames ∧ 90 ≤ rm.locals ∧ rm.cells = 1 ∧ rm.slots = 6)
    (body : ∀ (p : Program) (e : Env) (s : State) (m : MethodId) (args : Array Value) (below : List Frame) (meth : Method) (c : Code) (Q : State → Prop) (A : Nat → Prop) (H : Heap) (locs : List Loc) (ls : Array Slot), FX p s m args c RX3 cc nL D q → va_D A ws → (∀ a, s.heap.size ≤ a → A a) → va_P D vwCl ws H → va_S A s.heap H locs → lv_has ls nL (lv_args 0 av) →
      (∀ (u : S) (pc : Nat) (H : Heap) (locs : List Loc) (ls : Array Slot), decode cc pc = .ok (.return_, 1) → post u → va_P D vwCl (C u) H → va_S A s.heap H locs → W p l e rm s m args below meth c H locs 0 0 Q (F0 m pc ls [])) →
      (∀ (k is : Nat) (text : String) (pc : Nat) (H : Heap) (locs : List Loc) (ls : Array Slot) (rest : List Value), (k = 1 ∨ k = 2 ∨ k = 3) → ls.size = nL → (rest.map fun v => v.category).sum ≤ 8 → (is, text) ∈ SL →
        (decode cc pc = .ok (.new (tik k), 3) ∧ decode cc (pc + 3) = .ok (.dup, 1) ∧ ((decode cc (pc + 4) = .ok (.ldc is, 2) ∧ decode cc (pc + 6) = .ok (.invokespecial (tic k), 3) ∧ decode cc (pc + 9) = .ok (.athrow, 1)) ∨ (decode cc (pc + 4) = .ok (.ldc_w is, 3) ∧ decode cc (pc + 7) = .ok (.invokespecial (tic k), 3) ∧ decode cc (pc + 10) = .ok (.athrow, 1)))) →
        px k → va_P D vwCl ws H → va_S A s.heap H locs → W p l e rm s m args below meth c H locs 0 0 Q (F0 m pc ls rest)) →
      W p l e rm s m args below meth c H locs 0 0 Q (F0 m 0 ls [])) :
    vx_Met l y (Cond.code y cc nL (none) :: ALL) rm (PX D q av ws sz) (va_Qv post (fun u t => va_P D vwCl (C u) t.heap) (va_A ws sz)) (XCk D ws sz px) 1 6 (va_A ws sz) := by
  refine vx_ofW (cc := cc) (maxL := nL) (ret := none) hy rfl ?_
  intro p e s m args below meth c s₁ B hml htab hv
  obtain ⟨rfl, hsz, hP, hK, hD, hSX, hSZ⟩ := hv
  have fx : FX p s m av.toArray c RX3 cc nL D q := fx_of hcls B (fun h w hw => atoms_spec (ws := Cond.code y cc nL (none) :: ALL) h w (List.mem_cons_of_mem _ hw)) hml hK
  have hl := lv_entry av hav
  rw [lg_entry_eq]
  generalize (lg_sl av ++ List.replicate (nL - (lg_sl av).length) Slot.unset).toArray = ls at hl ⊢
  refine body p e s m av.toArray below meth c _ (va_A ws sz) s.heap [] ls fx hD.self (fun a h => Or.inr (hsz ▸ h)) hP va_S.rf hl (fun u pc H locs ls hdg hp hB hS => ?_) (fun k is text pc H locs ls rest hk hls hcat hsl hd hp hP2 hS => ?_)
  · refine W.widen (k := 1) (n := 6) (Nat.zero_le _) (Nat.zero_le _) (vx_ret ?_)
    exact W.vret fx.1 fx.2.1 B.returns (fun t ht hW => ⟨⟨u, rfl, hp, by show va_P D vwCl (C u) t.heap; rw [ht]; exact hB⟩, hS.F ht⟩) hS.2.2 hdg B.notSynchronized
  · exact thr_row hsz hstk fx htab B.notSynchronized hSX hSZ hk hls hcat hsl hd hp hP2 hS hrm
end THR
