theorem mn_84 : Cond.arrayClass .int ∈ ALL := ALL_i (List.mem_append_right _ (List.mem_append_left _ (List.mem_of_getElem? (i := 47) (by decide +kernel)))) (by decide +kernel)
theorem mn_85 : Cond.methodLink RX0 3 objectInit ∈ ALL := ALL_i (List.mem_append_right _ (List.mem_append_left _ (List.mem_of_getElem? (i := 27) (by decide +kernel)))) (by decide +kernel)
theorem mn_86 : Cond.instanceMethod objectInit ∈ ALL := ALL_i (List.mem_append_right _ (List.mem_append_left _ (List.mem_of_getElem? (i := 20) (by decide +kernel)))) (by decide +kernel)
theorem mn_87 : Cond.code objectInit ⟨#[0xb1]⟩ 1 none ∈ ALL := ALL_i (List.mem_append_right _ (List.mem_append_left _ (List.mem_of_getElem? (i := 21) (by decide +kernel)))) (by decide +kernel)
theorem mn_88 : Cond.methodLink RX0 27 yJ7_fill_53178 ∈ ALL := ALL_i (List.mem_append_right _ (List.mem_append_left _ (List.mem_of_getElem? (i := 28) (by decide +kernel)))) (by decide +kernel)
theorem mn_89 : Cond.static yJ7_fill_53178 ∈ ALL := ALL_i (List.mem_append_right _ (List.mem_append_left _ (List.mem_of_getElem? (i := 29) (by decide +kernel)))) (by decide +kernel)
theorem mn_90 : Cond.initialized RJ7 ∈ ALL := ALL_i (List.mem_append_right _ (List.mem_append_left _ (List.mem_of_getElem? (i := 3) (by decide +kernel)))) (by decide +kernel)
theorem mn_91 : Cond.code yJ7_fill_53178 cJ7_fill_53178 4 none ∈ ALL := ALL_i (List.mem_append_right _ (List.mem_append_left _ (List.mem_of_getElem? (i := 30) (by decide +kernel)))) (by decide +kernel)
theorem mn_92 : Cond.methodLink RX1 3 objectInit ∈ ALL := ALL_i (List.mem_append_right _ (List.mem_append_left _ (List.mem_of_getElem? (i := 118) (by decide +kernel)))) (by decide +kernel)
theorem mn_93 : Cond.methodLink RX2 1 objectInit ∈ ALL := ALL_i (List.mem_append_right _ (List.mem_append_left _ (List.mem_of_getElem? (i := 53) (by decide +kernel)))) (by decide +kernel)
theorem lk_X0_27 : LKS RX0 27 yJ7_fill_53178 cJ7_fill_53178 4 none 2 := ⟨mn_88, mn_89, ⟨mn_90, mn_91, by decide +kernel, by decide +kernel, by decide +kernel⟩⟩
/-! The constructors. -/
section CTOR
variable {p : Program} {l : Launch} {e : Env} {R : Room} {s : State} {m : MethodId} {args : Array Value} {below : List Frame} {meth : Method} {c : Code} {H : Heap} {locs : List Loc} {cells slots : Nat} {Q : State → Prop}
variable {D : va_G} {q : Nat → ClassId} {ws : va_W} {A : Nat → Prop} {H0 : Heap} {own : String} {cc : ByteArray} {nL : Nat} {pc : Nat} {ls : Array Slot} {rest st : List Value}
theorem newI {own : String} {n : Int32} {N9 : Nat} (fx : FX p s m args c own cc nL D q) (hP : va_P D vwCl ws H) (hD : va_D A ws) (hS : va_S A H0 H locs) (hA : ∀ a, H0.size ≤ a → A a) (hn : ¬ n < 0) (hN : n.toNatClampNeg = N9) (hb9 : N9 * componentBytes .int ≤ 536870912) (hcells : cells + 1 ≤ R.cells) (hslots : slots + N9 ≤ R.slots) (hdg : decode cc pc = .ok (.newarray .int, 2))
    (kk : ∀ (a : Nat) (H1 : Heap), va_P D vwCl (ws ++ [aI q a N9 (fun _ => 0)]) H1 → va_D A (ws ++ [aI q a N9 (fun _ => 0)]) → va_S A H0 H1 locs → W p l e R s m args below meth c H1 locs (cells + 1) (slots + N9) Q (F0 m (pc + 2) ls (.ref a :: rest))) : W p l e R s m args below meth c H locs cells slots Q (F0 m pc ls (.int n :: rest)) := by
  refine va_newa (atype := .int) (ty := .int) (a0 := (N9, .inl (fun _ => 0))) fx.1 fx.2.1 (fx.2.2.2.2.1 _ mn_84) rfl fx.2.2.2.2.2.1 hP hD hS hA (fun cA => rfl) hn hN hb9 hcells hslots hdg (fun a cA H1 hK1 hP1 hD1 hS1 => ?_)
  have h1 : s.vm.findClass ("[" ++ (FieldType.toString .int)) = some cA := (hK1.2 1 (cA, .int) rfl).2
  have h2 : s.vm.findClass ("[" ++ (FieldType.toString .int)) = some (q 0) := (fx.2.2.2.2.2.1.2 0 (q 0, .int) rfl).2
  have h3 : cA = q 0 := Option.some.inj (h1.symm.trans h2)
  subst h3
  exact kk a H1 hP1 hD1 hS1
theorem en_c {y : MethodName} {rm : Room} {av : List Value} {sz : Nat} {Bh : Heap → Prop} {mc ms : Nat} (hy : plainName y.cls = true) (hav : (lg_sl av).length ≤ nL)
    (body : ∀ (p : Program) (e : Env) (s : State) (m : MethodId) (args : Array Value) (below : List Frame) (meth : Method) (c : Code) (Q : State → Prop) (A : Nat → Prop) (H : Heap) (locs : List Loc) (ls : Array Slot), FX p s m args c y.cls cc nL D q → meth.name = y.name → va_D A ws → (∀ a, s.heap.size ≤ a → A a) → va_P D vwCl ws H → va_S A s.heap H locs → lv_has ls nL (lv_args 0 av) →
      (∀ (pc : Nat) (H : Heap) (locs : List Loc) (ls : Array Slot), decode cc pc = .ok (.return_, 1) → (A = va_A ws sz → Bh H) → va_S A s.heap H locs → W p l e rm s m args below meth c H locs mc ms Q (F0 m pc ls [])) →
      W p l e rm s m args below meth c H locs 0 0 Q (F0 m 0 ls [])) :
    Met l y (Cond.code y cc nL none :: ALL) rm (PC D q av ws sz) (va_Qv (fun _ : Unit => True) (fun _ t9 => Bh t9.heap) (va_A ws sz)) mc ms (va_A ws sz) := by
  refine Met.ofW (cc := cc) (maxL := nL) (ret := none) hy rfl ?_
  intro p e s m args below meth c s₁ B hml hv
  obtain ⟨rfl, hsz, hP, hK, hD⟩ := hv
  have fx : FX p s m av.toArray c y.cls cc nL D q := fx_of rfl B (fun h w hw => atoms_spec (ws := Cond.code y cc nL none :: ALL) h w (List.mem_cons_of_mem _ hw)) hml hK
  have hl := lv_entry av hav
  rw [lg_entry_eq]
  generalize (lg_sl av ++ List.replicate (nL - (lg_sl av).length) Slot.unset).toArray = ls at hl ⊢
  exact body p e s m av.toArray below meth c _ (va_A ws sz) s.heap [] ls fx (name_of_methodNamed B.named B.method).1 hD.self (fun a h => Or.inr (hsz ▸ h)) hP va_S.rf hl (fun pc H locs ls hdg hB hS => W.vret fx.1 fx.2.1 B.returns (fun t ht hW => ⟨⟨(), rfl, trivial, by show Bh t.heap; rw [ht]; exact hB rfl⟩, hS.F ht⟩) hS.2.2 hdg B.notSynchronized)
theorem kC_fill {a : Array Value} {S : Type} {wc : va_W} {C : S → va_W} {post : S → Prop} (hr : va_Run p l e R s m args below meth c H locs cells slots 0 0 (F0 m pc ls st) rest (va_Qv post (fun u t => va_P D vwCl (C u) t.heap) (va_A wc H.size) a) (va_A wc H.size)) (hP : va_P D vwCl ws H) (hD : va_D A ws) (hS : va_S A H0 H locs) (hA : ∀ q, H0.size ≤ q → A q) (pl : List Nat) (hpl : pl.map (fun i => ws[i]?) = wc.map some) (hlen : ∀ u, (C u).length = wc.length)
    (kk : ∀ (u : S) (H1 : Heap) (locs1 : List Loc), post u → va_P D vwCl (setAll ws pl (C u)) H1 → va_S A H0 H1 locs1 → W p l e R s m args below meth c H1 locs1 cells slots Q (F0 m (pc + 3) ls rest)) : W p l e R s m args below meth c H locs cells slots Q (F0 m pc ls st) := kW_v hr hP hD hS hA pl hpl hlen kk
/-- a constructor is called: its cells come, the caller's others stay -/
theorem kC {a : Array Value} {wc : va_W} {Bh : Heap → Prop} {mc ms : Nat} (hr : va_Run p l e R s m args below meth c H locs cells slots mc ms (F0 m pc ls st) rest (va_Qv (fun _ : Unit => True) (fun _ t => Bh t.heap) (va_A wc H.size) a) (va_A wc H.size)) (hD : va_D A ws) (hS : va_S A H0 H locs) (hA : ∀ q, H0.size ≤ q → A q) (pl : List Nat) (hpl : pl.map (fun i => ws[i]?) = wc.map some)
    (kk : ∀ (H1 : Heap) (locs1 : List Loc), Bh H1 → (∀ q : Nat, q < H.size → ¬ va_A wc H.size q → H1[q]? = H[q]?) → va_S A H0 H1 locs1 → W p l e R s m args below meth c H1 locs1 (cells + mc) (slots + ms) Q (F0 m (pc + 3) ls rest)) : W p l e R s m args below meth c H locs cells slots Q (F0 m pc ls st) :=
  va_callv hr hS (fun q9 _ h => va_free hD hS hA pl hpl q9 h) (va_free hD hS hA pl hpl) (fun _ t H1 locs1 ht _ _ hB _ hk hS1 => kk H1 locs1 (by rw [← ht]; exact hB) hk hS1)
end CTOR
def kof (l : List Nat) : Nat → Nat := fun i => l.getD i 0

def rock0 (N : Nat) : RS := (f_J7_fill_53178 N 50 (fun _ => 0) (100 : Int32), f_J7_fill_53178 N 50 (fun _ => 0) (180 : Int32), f_J7_fill_53178 N 50 (fun _ => 0) (10 : Int32), (fun _ => 0), (fun _ => 0))
def Bh_X0_init (D : va_G) (q : Nat → ClassId) (sz : Nat) (h : Nat) (N : Nat) (H9 : Heap) : Prop := (fun H9 => ∃ kr : Nat → Nat, kr 0 = h ∧ va_P D vwCl (cRock kr q (rock0 N)) H9 ∧ va_D (va_A ([(h, .inr (0, [.null, .null, .null, .null, .null]))]) sz) (cRock kr q (rock0 N))) H9
abbrev RM_X0_init : Room := { frames := 1, cells := 5, slots := 250, locals := 23 }
set_option maxRecDepth 100000 in
set_option maxHeartbeats 8000000 in
theorem c_X0_init (l : Launch) (D : va_G) (q : Nat → ClassId) (sz : Nat) (h : Nat) (N : Nat) (hok : ∀ (f : Nat → Int32) (y : Int32), ok_J7_fill_53178 N 50 f y) : Met l yX0_init (Cond.code yX0_init cX0_init 1 none :: ALL) RM_X0_init (PC D q [.ref h] ([(h, .inr (0, [.null, .null, .null, .null, .null]))]) sz) (va_Qv (fun _ : Unit => True) (fun _ t9 => (Bh_X0_init D q sz h N) t9.heap) (va_A ([(h, .inr (0, [.null, .null, .null, .null, .null]))]) sz)) 5 250 (va_A ([(h, .inr (0, [.null, .null, .null, .null, .null]))]) sz) := by
  refine en_c (Bh := Bh_X0_init D q sz h N) (by decide +kernel) (Nat.le_of_ble_eq_true rfl) ?_
  intro p e s m args below meth c Q A H locs ls fx hin hD hA hP hS hl hret
  have hx := fx.1
  have hb := fx.2.1
  have hl : lv_has ls 1 [(0, .ref h)] := hl
  refine lv_aload_n hx hb dX0_init_0 rfl (lv_at hl 0 rfl) ?_
  refine W.objInit hx hb fx.2.2.2.1 (fx.2.2.2.2.1 _ mn_85) (fx.2.2.2.2.1 _ mn_86) (fx.2.2.2.2.1 _ mn_87) rfl (by rw [fx.2.2.1]; exact hl.1) rfl dX0_init_1 (Nat.le_of_ble_eq_true rfl) (Nat.le_of_ble_eq_true rfl) ?_
  refine W.eq (g2 := F0 m 4 ls []) rfl ?_
  refine lv_aload_n hx hb dX0_init_4 rfl (lv_at hl 0 rfl) ?_
  refine lv_bipush (v := 50) hx hb dX0_init_5 (by decide) ?_
  refine newI fx hP hD hS hA (N9 := 50) (by decide) (by decide) (Nat.le_of_ble_eq_true rfl) (Nat.le_of_ble_eq_true rfl) (Nat.le_of_ble_eq_true rfl) dX0_init_7 (fun a1 H hP hD hS => ?_)
  have hP : va_P D vwCl ([(h, .inr (0, [.null, .null, .null, .null, .null])), aI q a1 50 (fun _ => 0)]) H := hP
  have hD : va_D A ([(h, .inr (0, [.null, .null, .null, .null, .null])), aI q a1 50 (fun _ => 0)]) := hD
  refine W.widen (k := 1) (n := 50) (Nat.le_of_ble_eq_true rfl) (Nat.le_of_ble_eq_true rfl) ?_
  refine va_putF (D := D) (ci := 0) (v := .ref a1) (ty := .array .int) (C := RX0) (T := TX0) (N := 5) hx hb fx.2.2.2.2.1 inlX0 tyX0 tyX0_ok nmX0 fx.2.2.2.1 fx.2.2.2.2.2.1 hP hD hS 0 rfl rfl 0 (by decide) (fx.2.2.2.2.1 _ mm_0) (fun _ h9 => h9) rfl hin rfl (by decide +kernel) rfl rfl (Nat.le_of_ble_eq_true rfl) dX0_init_9 (fun H locs hP hD hS => ?_)
  have hP : va_P D vwCl ([(h, .inr (0, [.ref a1, .null, .null, .null, .null])), aI q a1 50 (fun _ => 0)]) H := hP
  have hD : va_D A ([(h, .inr (0, [.ref a1, .null, .null, .null, .null])), aI q a1 50 (fun _ => 0)]) := hD
  refine lv_aload_n hx hb dX0_init_12 rfl (lv_at hl 0 rfl) ?_
  refine lv_bipush (v := 50) hx hb dX0_init_13 (by decide) ?_
  refine newI fx hP hD hS hA (N9 := 50) (by decide) (by decide) (Nat.le_of_ble_eq_true rfl) (Nat.le_of_ble_eq_true rfl) (Nat.le_of_ble_eq_true rfl) dX0_init_15 (fun a2 H hP hD hS => ?_)
  have hP : va_P D vwCl ([(h, .inr (0, [.ref a1, .null, .null, .null, .null])), aI q a1 50 (fun _ => 0), aI q a2 50 (fun _ => 0)]) H := hP
  have hD : va_D A ([(h, .inr (0, [.ref a1, .null, .null, .null, .null])), aI q a1 50 (fun _ => 0), aI q a2 50 (fun _ => 0)]) := hD
  refine W.widen (k := 2) (n := 100) (Nat.le_of_ble_eq_true rfl) (Nat.le_of_ble_eq_true rfl) ?_
  refine va_putF (D := D) (ci := 0) (v := .ref a2) (ty := .array .int) (C := RX0) (T := TX0) (N := 5) hx hb fx.2.2.2.2.1 inlX0 tyX0 tyX0_ok nmX0 fx.2.2.2.1 fx.2.2.2.2.2.1 hP hD hS 0 rfl rfl 1 (by decide) (fx.2.2.2.2.1 _ mm_8) (fun _ h9 => h9) rfl hin rfl (by decide +kernel) rfl rfl (Nat.le_of_ble_eq_true rfl) dX0_init_17 (fun H locs hP hD hS => ?_)
  have hP : va_P D vwCl ([(h, .inr (0, [.ref a1, .ref a2, .null, .null, .null])), aI q a1 50 (fun _ => 0), aI q a2 50 (fun _ => 0)]) H := hP
  have hD : va_D A ([(h, .inr (0, [.ref a1, .ref a2, .null, .null, .null])), aI q a1 50 (fun _ => 0), aI q a2 50 (fun _ => 0)]) := hD
  refine lv_aload_n hx hb dX0_init_20 rfl (lv_at hl 0 rfl) ?_
  refine lv_bipush (v := 50) hx hb dX0_init_21 (by decide) ?_
  refine newI fx hP hD hS hA (N9 := 50) (by decide) (by decide) (Nat.le_of_ble_eq_true rfl) (Nat.le_of_ble_eq_true rfl) (Nat.le_of_ble_eq_true rfl) dX0_init_23 (fun a3 H hP hD hS => ?_)
  have hP : va_P D vwCl ([(h, .inr (0, [.ref a1, .ref a2, .null, .null, .null])), aI q a1 50 (fun _ => 0), aI q a2 50 (fun _ => 0), aI q a3 50 (fun _ => 0)]) H := hP
  have hD : va_D A ([(h, .inr (0, [.ref a1, .ref a2, .null, .null, .null])), aI q a1 50 (fun _ => 0), aI q a2 50 (fun _ => 0), aI q a3 50 (fun _ => 0)]) := hD
  refine W.widen (k := 3) (n := 150) (Nat.le_of_ble_eq_true rfl) (Nat.le_of_ble_eq_true rfl) ?_
  refine va_putF (D := D) (ci := 0) (v := .ref a3) (ty := .array .int) (C := RX0) (T := TX0) (N := 5) hx hb fx.2.2.2.2.1 inlX0 tyX0 tyX0_ok nmX0 fx.2.2.2.1 fx.2.2.2.2.2.1 hP hD hS 0 rfl rfl 2 (by decide) (fx.2.2.2.2.1 _ mm_9) (fun _ h9 => h9) rfl hin rfl (by decide +kernel) rfl rfl (Nat.le_of_ble_eq_true rfl) dX0_init_25 (fun H locs hP hD hS => ?_)
  have hP : va_P D vwCl ([(h, .inr (0, [.ref a1, .ref a2, .ref a3, .null, .null])), aI q a1 50 (fun _ => 0), aI q a2 50 (fun _ => 0), aI q a3 50 (fun _ => 0)]) H := hP
  have hD : va_D A ([(h, .inr (0, [.ref a1, .ref a2, .ref a3, .null, .null])), aI q a1 50 (fun _ => 0), aI q a2 50 (fun _ => 0), aI q a3 50 (fun _ => 0)]) := hD
  refine lv_aload_n hx hb dX0_init_28 rfl (lv_at hl 0 rfl) ?_
  refine lv_bipush (v := 50) hx hb dX0_init_29 (by decide) ?_
  refine newI fx hP hD hS hA (N9 := 50) (by decide) (by decide) (Nat.le_of_ble_eq_true rfl) (Nat.le_of_ble_eq_true rfl) (Nat.le_of_ble_eq_true rfl) dX0_init_31 (fun a4 H hP hD hS => ?_)
  have hP : va_P D vwCl ([(h, .inr (0, [.ref a1, .ref a2, .ref a3, .null, .null])), aI q a1 50 (fun _ => 0), aI q a2 50 (fun _ => 0), aI q a3 50 (fun _ => 0), aI q a4 50 (fun _ => 0)]) H := hP
  have hD : va_D A ([(h, .inr (0, [.ref a1, .ref a2, .ref a3, .null, .null])), aI q a1 50 (fun _ => 0), aI q a2 50 (fun _ => 0), aI q a3 50 (fun _ => 0), aI q a4 50 (fun _ => 0)]) := hD
  refine W.widen (k := 4) (n := 200) (Nat.le_of_ble_eq_true rfl) (Nat.le_of_ble_eq_true rfl) ?_
  refine va_putF (D := D) (ci := 0) (v := .ref a4) (ty := .array .int) (C := RX0) (T := TX0) (N := 5) hx hb fx.2.2.2.2.1 inlX0 tyX0 tyX0_ok nmX0 fx.2.2.2.1 fx.2.2.2.2.2.1 hP hD hS 0 rfl rfl 3 (by decide) (fx.2.2.2.2.1 _ mm_10) (fun _ h9 => h9) rfl hin rfl (by decide +kernel) rfl rfl (Nat.le_of_ble_eq_true rfl) dX0_init_33 (fun H locs hP hD hS => ?_)
  have hP : va_P D vwCl ([(h, .inr (0, [.ref a1, .ref a2, .ref a3, .ref a4, .null])), aI q a1 50 (fun _ => 0), aI q a2 50 (fun _ => 0), aI q a3 50 (fun _ => 0), aI q a4 50 (fun _ => 0)]) H := hP
  have hD : va_D A ([(h, .inr (0, [.ref a1, .ref a2, .ref a3, .ref a4, .null])), aI q a1 50 (fun _ => 0), aI q a2 50 (fun _ => 0), aI q a3 50 (fun _ => 0), aI q a4 50 (fun _ => 0)]) := hD
  refine lv_aload_n hx hb dX0_init_36 rfl (lv_at hl 0 rfl) ?_
  refine lv_bipush (v := 50) hx hb dX0_init_37 (by decide) ?_
  refine newI fx hP hD hS hA (N9 := 50) (by decide) (by decide) (Nat.le_of_ble_eq_true rfl) (Nat.le_of_ble_eq_true rfl) (Nat.le_of_ble_eq_true rfl) dX0_init_39 (fun a5 H hP hD hS => ?_)
  have hP : va_P D vwCl ([(h, .inr (0, [.ref a1, .ref a2, .ref a3, .ref a4, .null])), aI q a1 50 (fun _ => 0), aI q a2 50 (fun _ => 0), aI q a3 50 (fun _ => 0), aI q a4 50 (fun _ => 0), aI q a5 50 (fun _ => 0)]) H := hP
  have hD : va_D A ([(h, .inr (0, [.ref a1, .ref a2, .ref a3, .ref a4, .null])), aI q a1 50 (fun _ => 0), aI q a2 50 (fun _ => 0), aI q a3 50 (fun _ => 0), aI q a4 50 (fun _ => 0), aI q a5 50 (fun _ => 0)]) := hD
  refine W.widen (k := 5) (n := 250) (Nat.le_of_ble_eq_true rfl) (Nat.le_of_ble_eq_true rfl) ?_
  refine va_putF (D := D) (ci := 0) (v := .ref a5) (ty := .array .int) (C := RX0) (T := TX0) (N := 5) hx hb fx.2.2.2.2.1 inlX0 tyX0 tyX0_ok nmX0 fx.2.2.2.1 fx.2.2.2.2.2.1 hP hD hS 0 rfl rfl 4 (by decide) (fx.2.2.2.2.1 _ mm_15) (fun _ h9 => h9) rfl hin rfl (by decide +kernel) rfl rfl (Nat.le_of_ble_eq_true rfl) dX0_init_41 (fun H locs hP hD hS => ?_)
  have hP : va_P D vwCl ([(h, .inr (0, [.ref a1, .ref a2, .ref a3, .ref a4, .ref a5])), aI q a1 50 (fun _ => 0), aI q a2 50 (fun _ => 0), aI q a3 50 (fun _ => 0), aI q a4 50 (fun _ => 0), aI q a5 50 (fun _ => 0)]) H := hP
  have hD : va_D A ([(h, .inr (0, [.ref a1, .ref a2, .ref a3, .ref a4, .ref a5])), aI q a1 50 (fun _ => 0), aI q a2 50 (fun _ => 0), aI q a3 50 (fun _ => 0), aI q a4 50 (fun _ => 0), aI q a5 50 (fun _ => 0)]) := hD
  refine lv_aload_n hx hb dX0_init_44 rfl (lv_at hl 0 rfl) ?_
  refine va_get (D := D) (ci := 0) (v := .ref a1) (C := RX0) (T := TX0) (N := 5) hx hb fx.2.2.2.2.1 inlX0 fx.2.2.2.1 fx.2.2.2.2.2.1 hP 0 rfl rfl 0 (by decide) (fx.2.2.2.2.1 _ mm_0) (fun _ h9 => h9) rfl dX0_init_45 ?_
  refine lv_bipush (v := 100) hx hb dX0_init_48 (by decide) ?_
  refine kC_fill (runS fx (As := [.ref a1, .int (100 : Int32)]) (rest := []) (c_J7_fill_53178 l D q H.size a1 50 (Nat.le_of_ble_eq_true rfl) (fun _ => 0) (100 : Int32) N (hok _ _)) lk_X0_27 ⟨Nat.le_of_ble_eq_true rfl, Nat.le_of_ble_eq_true rfl⟩ ⟨rfl, rfl⟩ hP hD [1] rfl rfl rfl hl.1 rfl (Nat.le_of_ble_eq_true rfl) dX0_init_50 ⟨Nat.le_of_ble_eq_true rfl, Nat.le_of_ble_eq_true rfl⟩) hP hD hS hA [1] rfl (fun _ => rfl) (fun u H locs hw hP hS => ?_)
  subst hw
  have hP : va_P D vwCl ([(h, .inr (0, [.ref a1, .ref a2, .ref a3, .ref a4, .ref a5])), aI q a1 50 (f_J7_fill_53178 N 50 (fun _ => 0) (100 : Int32)), aI q a2 50 (fun _ => 0), aI q a3 50 (fun _ => 0), aI q a4 50 (fun _ => 0), aI q a5 50 (fun _ => 0)]) H := hP
  have hD : va_D A ([(h, .inr (0, [.ref a1, .ref a2, .ref a3, .ref a4, .ref a5])), aI q a1 50 (f_J7_fill_53178 N 50 (fun _ => 0) (100 : Int32)), aI q a2 50 (fun _ => 0), aI q a3 50 (fun _ => 0), aI q a4 50 (fun _ => 0), aI q a5 50 (fun _ => 0)]) := D_same (by rfl) hD
  refine lv_aload_n hx hb dX0_init_53 rfl (lv_at hl 0 rfl) ?_
  refine va_get (D := D) (ci := 0) (v := .ref a2) (C := RX0) (T := TX0) (N := 5) hx hb fx.2.2.2.2.1 inlX0 fx.2.2.2.1 fx.2.2.2.2.2.1 hP 0 rfl rfl 1 (by decide) (fx.2.2.2.2.1 _ mm_8) (fun _ h9 => h9) rfl dX0_init_54 ?_
  refine lv_sipush (v := 180) hx hb dX0_init_57 (by decide) ?_
  refine kC_fill (runS fx (As := [.ref a2, .int (180 : Int32)]) (rest := []) (c_J7_fill_53178 l D q H.size a2 50 (Nat.le_of_ble_eq_true rfl) (fun _ => 0) (180 : Int32) N (hok _ _)) lk_X0_27 ⟨Nat.le_of_ble_eq_true rfl, Nat.le_of_ble_eq_true rfl⟩ ⟨rfl, rfl⟩ hP hD [2] rfl rfl rfl hl.1 rfl (Nat.le_of_ble_eq_true rfl) dX0_init_60 ⟨Nat.le_of_ble_eq_true rfl, Nat.le_of_ble_eq_true rfl⟩) hP hD hS hA [2] rfl (fun _ => rfl) (fun u H locs hw hP hS => ?_)
  subst hw
  have hP : va_P D vwCl ([(h, .inr (0, [.ref a1, .ref a2, .ref a3, .ref a4, .ref a5])), aI q a1 50 (f_J7_fill_53178 N 50 (fun _ => 0) (100 : Int32)), aI q a2 50 (f_J7_fill_53178 N 50 (fun _ => 0) (180 : Int32)), aI q a3 50 (fun _ => 0), aI q a4 50 (fun _ => 0), aI q a5 50 (fun _ => 0)]) H := hP
  have hD : va_D A ([(h, .inr (0, [.ref a1, .ref a2, .ref a3, .ref a4, .ref a5])), aI q a1 50 (f_J7_fill_53178 N 50 (fun _ => 0) (100 : Int32)), aI q a2 50 (f_J7_fill_53178 N 50 (fun _ => 0) (180 : Int32)), aI q a3 50 (fun _ => 0), aI q a4 50 (fun _ => 0), aI q a5 50 (fun _ => 0)]) := D_same (by rfl) hD
  refine lv_aload_n hx hb dX0_init_63 rfl (lv_at hl 0 rfl) ?_
  refine va_get (D := D) (ci := 0) (v := .ref a3) (C := RX0) (T := TX0) (N := 5) hx hb fx.2.2.2.2.1 inlX0 fx.2.2.2.1 fx.2.2.2.2.2.1 hP 0 rfl rfl 2 (by decide) (fx.2.2.2.2.1 _ mm_9) (fun _ h9 => h9) rfl dX0_init_64 ?_
  refine lv_bipush (v := 10) hx hb dX0_init_67 (by decide) ?_
  refine kC_fill (runS fx (As := [.ref a3, .int (10 : Int32)]) (rest := []) (c_J7_fill_53178 l D q H.size a3 50 (Nat.le_of_ble_eq_true rfl) (fun _ => 0) (10 : Int32) N (hok _ _)) lk_X0_27 ⟨Nat.le_of_ble_eq_true rfl, Nat.le_of_ble_eq_true rfl⟩ ⟨rfl, rfl⟩ hP hD [3] rfl rfl rfl hl.1 rfl (Nat.le_of_ble_eq_true rfl) dX0_init_69 ⟨Nat.le_of_ble_eq_true rfl, Nat.le_of_ble_eq_true rfl⟩) hP hD hS hA [3] rfl (fun _ => rfl) (fun u H locs hw hP hS => ?_)
  subst hw
  have hP : va_P D vwCl ([(h, .inr (0, [.ref a1, .ref a2, .ref a3, .ref a4, .ref a5])), aI q a1 50 (f_J7_fill_53178 N 50 (fun _ => 0) (100 : Int32)), aI q a2 50 (f_J7_fill_53178 N 50 (fun _ => 0) (180 : Int32)), aI q a3 50 (f_J7_fill_53178 N 50 (fun _ => 0) (10 : Int32)), aI q a4 50 (fun _ => 0), aI q a5 50 (fun _ => 0)]) H := hP
  have hD : va_D A ([(h, .inr (0, [.ref a1, .ref a2, .ref a3, .ref a4, .ref a5])), aI q a1 50 (f_J7_fill_53178 N 50 (fun _ => 0) (100 : Int32)), aI q a2 50 (f_J7_fill_53178 N 50 (fun _ => 0) (180 : Int32)), aI q a3 50 (f_J7_fill_53178 N 50 (fun _ => 0) (10 : Int32)), aI q a4 50 (fun _ => 0), aI q a5 50 (fun _ => 0)]) := D_same (by rfl) hD
  exact hret 72 H locs ls dX0_init_72 (fun hAe => ⟨kof [h, a1, a2, a3, a4, a5], rfl, hP, hAe ▸ hD⟩) hS
def tests0 : TS := ((fun _ => 0), (fun _ => 0), (fun _ => 0), (fun _ => 0), 0, -1, -1)
def Bh_X1_init (D : va_G) (q : Nat → ClassId) (sz : Nat) (h : Nat) (H9 : Heap) : Prop := (fun H9 => ∃ kt : Nat → Nat, kt 0 = h ∧ va_P D vwCl (cTests kt q tests0) H9 ∧ va_D (va_A ([(h, .inr (1, [.null, .null, .null, .null, .int 0, .int 0, .int 0]))]) sz) (cTests kt q tests0)) H9
abbrev RM_X1_init : Room := { frames := 1, cells := 4, slots := 240, locals := 20 }
set_option maxRecDepth 100000 in
set_option maxHeartbeats 8000000 in
theorem c_X1_init (l : Launch) (D : va_G) (q : Nat → ClassId) (sz : Nat) (h : Nat) : Met l yX1_init (Cond.code yX1_init cX1_init 1 none :: ALL) RM_X1_init (PC D q [.ref h] ([(h, .inr (1, [.null, .null, .null, .null, .int 0, .int 0, .int 0]))]) sz) (va_Qv (fun _ : Unit => True) (fun _ t9 => (Bh_X1_init D q sz h) t9.heap) (va_A ([(h, .inr (1, [.null, .null, .null, .null, .int 0, .int 0, .int 0]))]) sz)) 4 240 (va_A ([(h, .inr (1, [.null, .null, .null, .null, .int 0, .int 0, .int 0]))]) sz) := by
  refine en_c (Bh := Bh_X1_init D q sz h) (by decide +kernel) (Nat.le_of_ble_eq_true rfl) ?_
  intro p e s m args below meth c Q A H locs ls fx hin hD hA hP hS hl hret
  have hx := fx.1
  have hb := fx.2.1
  have hl : lv_has ls 1 [(0, .ref h)] := hl
  refine lv_aload_n hx hb dX1_init_0 rfl (lv_at hl 0 rfl) ?_
  refine W.objInit hx hb fx.2.2.2.1 (fx.2.2.2.2.1 _ mn_92) (fx.2.2.2.2.1 _ mn_86) (fx.2.2.2.2.1 _ mn_87) rfl (by rw [fx.2.2.1]; exact hl.1) rfl dX1_init_1 (Nat.le_of_ble_eq_true rfl) (Nat.le_of_ble_eq_true rfl) ?_
  refine W.eq (g2 := F0 m 4 ls []) rfl ?_
  refine lv_aload_n hx hb dX1_init_4 rfl (lv_at hl 0 rfl) ?_
  refine lv_bipush (v := 60) hx hb dX1_init_5 (by decide) ?_
  refine newI fx hP hD hS hA (N9 := 60) (by decide) (by decide) (Nat.le_of_ble_eq_true rfl) (Nat.le_of_ble_eq_true rfl) (Nat.le_of_ble_eq_true rfl) dX1_init_7 (fun a1 H hP hD hS => ?_)
  have hP : va_P D vwCl ([(h, .inr (1, [.null, .null, .null, .null, .int 0, .int 0, .int 0])), aI q a1 60 (fun _ => 0)]) H := hP
  have hD : va_D A ([(h, .inr (1, [.null, .null, .null, .null, .int 0, .int 0, .int 0])), aI q a1 60 (fun _ => 0)]) := hD
  refine W.widen (k := 1) (n := 60) (Nat.le_of_ble_eq_true rfl) (Nat.le_of_ble_eq_true rfl) ?_
  refine va_putF (D := D) (ci := 1) (v := .ref a1) (ty := .array .int) (C := RX1) (T := TX1) (N := 7) hx hb fx.2.2.2.2.1 inlX1 tyX1 tyX1_ok nmX1 fx.2.2.2.1 fx.2.2.2.2.2.1 hP hD hS 0 rfl rfl 0 (by decide) (fx.2.2.2.2.1 _ mm_20) (fun _ h9 => h9) rfl hin rfl (by decide +kernel) rfl rfl (Nat.le_of_ble_eq_true rfl) dX1_init_9 (fun H locs hP hD hS => ?_)
  have hP : va_P D vwCl ([(h, .inr (1, [.ref a1, .null, .null, .null, .int 0, .int 0, .int 0])), aI q a1 60 (fun _ => 0)]) H := hP
  have hD : va_D A ([(h, .inr (1, [.ref a1, .null, .null, .null, .int 0, .int 0, .int 0])), aI q a1 60 (fun _ => 0)]) := hD
  refine lv_aload_n hx hb dX1_init_12 rfl (lv_at hl 0 rfl) ?_
  refine lv_bipush (v := 60) hx hb dX1_init_13 (by decide) ?_
  refine newI fx hP hD hS hA (N9 := 60) (by decide) (by decide) (Nat.le_of_ble_eq_true rfl) (Nat.le_of_ble_eq_true rfl) (Nat.le_of_ble_eq_true rfl) dX1_init_15 (fun a2 H hP hD hS => ?_)
  have hP : va_P D vwCl ([(h, .inr (1, [.ref a1, .null, .null, .null, .int 0, .int 0, .int 0])), aI q a1 60 (fun _ => 0), aI q a2 60 (fun _ => 0)]) H := hP
  have hD : va_D A ([(h, .inr (1, [.ref a1, .null, .null, .null, .int 0, .int 0, .int 0])), aI q a1 60 (fun _ => 0), aI q a2 60 (fun _ => 0)]) := hD
  refine W.widen (k := 2) (n := 120) (Nat.le_of_ble_eq_true rfl) (Nat.le_of_ble_eq_true rfl) ?_
  refine va_putF (D := D) (ci := 1) (v := .ref a2) (ty := .array .int) (C := RX1) (T := TX1) (N := 7) hx hb fx.2.2.2.2.1 inlX1 tyX1 tyX1_ok nmX1 fx.2.2.2.1 fx.2.2.2.2.2.1 hP hD hS 0 rfl rfl 1 (by decide) (fx.2.2.2.2.1 _ mm_22) (fun _ h9 => h9) rfl hin rfl (by decide +kernel) rfl rfl (Nat.le_of_ble_eq_true rfl) dX1_init_17 (fun H locs hP hD hS => ?_)
  have hP : va_P D vwCl ([(h, .inr (1, [.ref a1, .ref a2, .null, .null, .int 0, .int 0, .int 0])), aI q a1 60 (fun _ => 0), aI q a2 60 (fun _ => 0)]) H := hP
  have hD : va_D A ([(h, .inr (1, [.ref a1, .ref a2, .null, .null, .int 0, .int 0, .int 0])), aI q a1 60 (fun _ => 0), aI q a2 60 (fun _ => 0)]) := hD
  refine lv_aload_n hx hb dX1_init_20 rfl (lv_at hl 0 rfl) ?_
  refine lv_bipush (v := 60) hx hb dX1_init_21 (by decide) ?_
  refine newI fx hP hD hS hA (N9 := 60) (by decide) (by decide) (Nat.le_of_ble_eq_true rfl) (Nat.le_of_ble_eq_true rfl) (Nat.le_of_ble_eq_true rfl) dX1_init_23 (fun a3 H hP hD hS => ?_)
  have hP : va_P D vwCl ([(h, .inr (1, [.ref a1, .ref a2, .null, .null, .int 0, .int 0, .int 0])), aI q a1 60 (fun _ => 0), aI q a2 60 (fun _ => 0), aI q a3 60 (fun _ => 0)]) H := hP
  have hD : va_D A ([(h, .inr (1, [.ref a1, .ref a2, .null, .null, .int 0, .int 0, .int 0])), aI q a1 60 (fun _ => 0), aI q a2 60 (fun _ => 0), aI q a3 60 (fun _ => 0)]) := hD
  refine W.widen (k := 3) (n := 180) (Nat.le_of_ble_eq_true rfl) (Nat.le_of_ble_eq_true rfl) ?_
  refine va_putF (D := D) (ci := 1) (v := .ref a3) (ty := .array .int) (C := RX1) (T := TX1) (N := 7) hx hb fx.2.2.2.2.1 inlX1 tyX1 tyX1_ok nmX1 fx.2.2.2.1 fx.2.2.2.2.2.1 hP hD hS 0 rfl rfl 2 (by decide) (fx.2.2.2.2.1 _ mm_23) (fun _ h9 => h9) rfl hin rfl (by decide +kernel) rfl rfl (Nat.le_of_ble_eq_true rfl) dX1_init_25 (fun H locs hP hD hS => ?_)
  have hP : va_P D vwCl ([(h, .inr (1, [.ref a1, .ref a2, .ref a3, .null, .int 0, .int 0, .int 0])), aI q a1 60 (fun _ => 0), aI q a2 60 (fun _ => 0), aI q a3 60 (fun _ => 0)]) H := hP
  have hD : va_D A ([(h, .inr (1, [.ref a1, .ref a2, .ref a3, .null, .int 0, .int 0, .int 0])), aI q a1 60 (fun _ => 0), aI q a2 60 (fun _ => 0), aI q a3 60 (fun _ => 0)]) := hD
  refine lv_aload_n hx hb dX1_init_28 rfl (lv_at hl 0 rfl) ?_
  refine lv_bipush (v := 60) hx hb dX1_init_29 (by decide) ?_
  refine newI fx hP hD hS hA (N9 := 60) (by decide) (by decide) (Nat.le_of_ble_eq_true rfl) (Nat.le_of_ble_eq_true rfl) (Nat.le_of_ble_eq_true rfl) dX1_init_31 (fun a4 H hP hD hS => ?_)
  have hP : va_P D vwCl ([(h, .inr (1, [.ref a1, .ref a2, .ref a3, .null, .int 0, .int 0, .int 0])), aI q a1 60 (fun _ => 0), aI q a2 60 (fun _ => 0), aI q a3 60 (fun _ => 0), aI q a4 60 (fun _ => 0)]) H := hP
  have hD : va_D A ([(h, .inr (1, [.ref a1, .ref a2, .ref a3, .null, .int 0, .int 0, .int 0])), aI q a1 60 (fun _ => 0), aI q a2 60 (fun _ => 0), aI q a3 60 (fun _ => 0), aI q a4 60 (fun _ => 0)]) := hD
  refine W.widen (k := 4) (n := 240) (Nat.le_of_ble_eq_true rfl) (Nat.le_of_ble_eq_true rfl) ?_
  refine va_putF (D := D) (ci := 1) (v := .ref a4) (ty := .array .int) (C := RX1) (T := TX1) (N := 7) hx hb fx.2.2.2.2.1 inlX1 tyX1 tyX1_ok nmX1 fx.2.2.2.1 fx.2.2.2.2.2.1 hP hD hS 0 rfl rfl 3 (by decide) (fx.2.2.2.2.1 _ mm_24) (fun _ h9 => h9) rfl hin rfl (by decide +kernel) rfl rfl (Nat.le_of_ble_eq_true rfl) dX1_init_33 (fun H locs hP hD hS => ?_)
  have hP : va_P D vwCl ([(h, .inr (1, [.ref a1, .ref a2, .ref a3, .ref a4, .int 0, .int 0, .int 0])), aI q a1 60 (fun _ => 0), aI q a2 60 (fun _ => 0), aI q a3 60 (fun _ => 0), aI q a4 60 (fun _ => 0)]) H := hP
  have hD : va_D A ([(h, .inr (1, [.ref a1, .ref a2, .ref a3, .ref a4, .int 0, .int 0, .int 0])), aI q a1 60 (fun _ => 0), aI q a2 60 (fun _ => 0), aI q a3 60 (fun _ => 0), aI q a4 60 (fun _ => 0)]) := hD
  refine lv_aload_n hx hb dX1_init_36 rfl (lv_at hl 0 rfl) ?_
  refine lv_iconst (v := -1) hx hb dX1_init_37 (by decide) ?_
  refine va_put (D := D) (ci := 1) (v := .int (-1 : Int32)) (ty := .int) (C := RX1) (T := TX1) (N := 7) hx hb fx.2.2.2.2.1 inlX1 tyX1 tyX1_ok nmX1 fx.2.2.2.1 fx.2.2.2.2.2.1 hP hD hS 0 rfl rfl 5 (by decide) (fx.2.2.2.2.1 _ mm_26) (fun _ h9 => h9) rfl (by decide +kernel) rfl rfl (Nat.le_of_ble_eq_true rfl) dX1_init_38 (fun H locs hP hD hS => ?_)
  have hP : va_P D vwCl ([(h, .inr (1, [.ref a1, .ref a2, .ref a3, .ref a4, .int 0, .int (-1 : Int32), .int 0])), aI q a1 60 (fun _ => 0), aI q a2 60 (fun _ => 0), aI q a3 60 (fun _ => 0), aI q a4 60 (fun _ => 0)]) H := hP
  have hD : va_D A ([(h, .inr (1, [.ref a1, .ref a2, .ref a3, .ref a4, .int 0, .int (-1 : Int32), .int 0])), aI q a1 60 (fun _ => 0), aI q a2 60 (fun _ => 0), aI q a3 60 (fun _ => 0), aI q a4 60 (fun _ => 0)]) := hD
  refine lv_aload_n hx hb dX1_init_41 rfl (lv_at hl 0 rfl) ?_
  refine lv_iconst (v := -1) hx hb dX1_init_42 (by decide) ?_
  refine va_put (D := D) (ci := 1) (v := .int (-1 : Int32)) (ty := .int) (C := RX1) (T := TX1) (N := 7) hx hb fx.2.2.2.2.1 inlX1 tyX1 tyX1_ok nmX1 fx.2.2.2.1 fx.2.2.2.2.2.1 hP hD hS 0 rfl rfl 6 (by decide) (fx.2.2.2.2.1 _ mm_25) (fun _ h9 => h9) rfl (by decide +kernel) rfl rfl (Nat.le_of_ble_eq_true rfl) dX1_init_43 (fun H locs hP hD hS => ?_)
  have hP : va_P D vwCl ([(h, .inr (1, [.ref a1, .ref a2, .ref a3, .ref a4, .int 0, .int (-1 : Int32), .int (-1 : Int32)])), aI q a1 60 (fun _ => 0), aI q a2 60 (fun _ => 0), aI q a3 60 (fun _ => 0), aI q a4 60 (fun _ => 0)]) H := hP
  have hD : va_D A ([(h, .inr (1, [.ref a1, .ref a2, .ref a3, .ref a4, .int 0, .int (-1 : Int32), .int (-1 : Int32)])), aI q a1 60 (fun _ => 0), aI q a2 60 (fun _ => 0), aI q a3 60 (fun _ => 0), aI q a4 60 (fun _ => 0)]) := hD
  exact hret 46 H locs ls dX1_init_46 (fun hAe => ⟨kof [h, a1, a2, a3, a4], rfl, hP, hAe ▸ hD⟩) hS
def well0 : WS := (0, 0, 110, 0, 0, 10000, 0, 0, 0, 0, 0, 0, 0, 0)
def Bh_X2_init (D : va_G) (q : Nat → ClassId) (sz : Nat) (h : Nat) (rr : Nat) (H9 : Heap) : Prop := (fun H9 => va_P D vwCl [oW h rr well0] H9 ∧ va_D (va_A ([(h, .inr (2, [.null, .int 0, .int 0, .int 0, .int 0, .int 0, .int 0, .int 0, .long 0, .int 0, .int 0, .int 0, .long 0, .int 0, .int 0]))]) sz) [oW h rr well0]) H9
abbrev RM_X2_init : Room := { frames := 1, cells := 0, slots := 0, locals := 20 }
set_option maxRecDepth 100000 in
set_option maxHeartbeats 8000000 in
theorem c_X2_init (l : Launch) (D : va_G) (q : Nat → ClassId) (sz : Nat) (h rr : Nat) : Met l yX2_init (Cond.code yX2_init cX2_init 2 none :: ALL) RM_X2_init (PC D q [.ref h, .ref rr] ([(h, .inr (2, [.null, .int 0, .int 0, .int 0, .int 0, .int 0, .int 0, .int 0, .long 0, .int 0, .int 0, .int 0, .long 0, .int 0, .int 0]))]) sz) (va_Qv (fun _ : Unit => True) (fun _ t9 => (Bh_X2_init D q sz h rr) t9.heap) (va_A ([(h, .inr (2, [.null, .int 0, .int 0, .int 0, .int 0, .int 0, .int 0, .int 0, .long 0, .int 0, .int 0, .int 0, .long 0, .int 0, .int 0]))]) sz)) 0 0 (va_A ([(h, .inr (2, [.null, .int 0, .int 0, .int 0, .int 0, .int 0, .int 0, .int 0, .long 0, .int 0, .int 0, .int 0, .long 0, .int 0, .int 0]))]) sz) := by
  refine en_c (Bh := Bh_X2_init D q sz h rr) (by decide +kernel) (Nat.le_of_ble_eq_true rfl) ?_
  intro p e s m args below meth c Q A H locs ls fx hin hD hA hP hS hl hret
  have hx := fx.1
  have hb := fx.2.1
  have hl : lv_has ls 2 [(0, .ref h), (1, .ref rr)] := hl
  refine lv_aload_n hx hb dX2_init_0 rfl (lv_at hl 0 rfl) ?_
  refine W.objInit hx hb fx.2.2.2.1 (fx.2.2.2.2.1 _ mn_93) (fx.2.2.2.2.1 _ mn_86) (fx.2.2.2.2.1 _ mn_87) rfl (by rw [fx.2.2.1]; exact hl.1) rfl dX2_init_1 (Nat.le_of_ble_eq_true rfl) (Nat.le_of_ble_eq_true rfl) ?_
  refine W.eq (g2 := F0 m 4 ls []) rfl ?_
  refine lv_aload_n hx hb dX2_init_4 rfl (lv_at hl 0 rfl) ?_
  refine lv_aload_n hx hb dX2_init_5 rfl (lv_at hl 1 rfl) ?_
  refine va_putF (D := D) (ci := 2) (v := .ref rr) (ty := .object "Kickroom$Rock") (C := RX2) (T := TX2) (N := 15) hx hb fx.2.2.2.2.1 inlX2 tyX2 tyX2_ok nmX2 fx.2.2.2.1 fx.2.2.2.2.2.1 hP hD hS 0 rfl rfl 0 (by decide) (fx.2.2.2.2.1 _ mm_52) (fun _ h9 => h9) rfl hin rfl (by decide +kernel) rfl rfl (Nat.le_of_ble_eq_true rfl) dX2_init_6 (fun H locs hP hD hS => ?_)
  have hP : va_P D vwCl ([(h, .inr (2, [.ref rr, .int 0, .int 0, .int 0, .int 0, .int 0, .int 0, .int 0, .long 0, .int 0, .int 0, .int 0, .long 0, .int 0, .int 0]))]) H := hP
  have hD : va_D A ([(h, .inr (2, [.ref rr, .int 0, .int 0, .int 0, .int 0, .int 0, .int 0, .int 0, .long 0, .int 0, .int 0, .int 0, .long 0, .int 0, .int 0]))]) := hD
  refine lv_aload_n hx hb dX2_init_9 rfl (lv_at hl 0 rfl) ?_
  refine lv_bipush (v := 110) hx hb dX2_init_10 (by decide) ?_
  refine va_put (D := D) (ci := 2) (v := .int (110 : Int32)) (ty := .int) (C := RX2) (T := TX2) (N := 15) hx hb fx.2.2.2.2.1 inlX2 tyX2 tyX2_ok nmX2 fx.2.2.2.1 fx.2.2.2.2.2.1 hP hD hS 0 rfl rfl 3 (by decide) (fx.2.2.2.2.1 _ mm_34) (fun _ h9 => h9) rfl (by decide +kernel) rfl rfl (Nat.le_of_ble_eq_true rfl) dX2_init_12 (fun H locs hP hD hS => ?_)
  have hP : va_P D vwCl ([(h, .inr (2, [.ref rr, .int 0, .int 0, .int (110 : Int32), .int 0, .int 0, .int 0, .int 0, .long 0, .int 0, .int 0, .int 0, .long 0, .int 0, .int 0]))]) H := hP
  have hD : va_D A ([(h, .inr (2, [.ref rr, .int 0, .int 0, .int (110 : Int32), .int 0, .int 0, .int 0, .int 0, .long 0, .int 0, .int 0, .int 0, .long 0, .int 0, .int 0]))]) := hD
  refine lv_aload_n hx hb dX2_init_15 rfl (lv_at hl 0 rfl) ?_
  refine lv_sipush (v := 10000) hx hb dX2_init_16 (by decide) ?_
  refine va_put (D := D) (ci := 2) (v := .int (10000 : Int32)) (ty := .int) (C := RX2) (T := TX2) (N := 15) hx hb fx.2.2.2.2.1 inlX2 tyX2 tyX2_ok nmX2 fx.2.2.2.1 fx.2.2.2.2.2.1 hP hD hS 0 rfl rfl 6 (by decide) (fx.2.2.2.2.1 _ mm_56) (fun _ h9 => h9) rfl (by decide +kernel) rfl rfl (Nat.le_of_ble_eq_true rfl) dX2_init_19 (fun H locs hP hD hS => ?_)
  have hP : va_P D vwCl ([(h, .inr (2, [.ref rr, .int 0, .int 0, .int (110 : Int32), .int 0, .int 0, .int (10000 : Int32), .int 0, .long 0, .int 0, .int 0, .int 0, .long 0, .int 0, .int 0]))]) H := hP
  have hD : va_D A ([(h, .inr (2, [.ref rr, .int 0, .int 0, .int (110 : Int32), .int 0, .int 0, .int (10000 : Int32), .int 0, .long 0, .int 0, .int 0, .int 0, .long 0, .int 0, .int 0]))]) := hD
  exact hret 22 H locs ls dX2_init_22 (fun hAe => ⟨hP, hAe ▸ hD⟩) hS
