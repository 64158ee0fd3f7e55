def tlk : Nat → Nat
  | 1 => 14
  | 2 => 17
  | _ => 19
theorem ll1 : Cond.classLink RL (tlk 1) (excName 1) ∈ ALL := ALL_i (List.mem_append_right _ (List.mem_append_right _ (List.mem_append_left _ (List.mem_of_getElem? (i := 45) (by decide +kernel))))) (by decide +kernel)
theorem ll2 : Cond.classLink RL (tlk 2) (excName 2) ∈ ALL := ALL_i (List.mem_append_right _ (List.mem_append_right _ (List.mem_append_left _ (List.mem_of_getElem? (i := 46) (by decide +kernel))))) (by decide +kernel)
theorem ll3 : Cond.classLink RL (tlk 3) (excName 3) ∈ ALL := ALL_i (List.mem_append_right _ (List.mem_append_right _ (List.mem_append_left _ (List.mem_of_getElem? (i := 47) (by decide +kernel))))) (by decide +kernel)
/-! The law's own helpers: each calls one method of the class and catches what it throws. -/
section WRAPB
variable {p : Program} {l : Launch} {e : Env} {R : Room} {s : State} {m : MethodId} {args : Array Value} {below : List Frame} {meth : Method} {c : Code} {H : Heap} {locs : List Loc} {cells slots : Nat} {Q : State → Prop}
variable {D : va_G} {q : Nat → ClassId} {ws : va_W} {A : Nat → Prop} {H0 : Heap} {own : String} {cc : ByteArray} {nL : Nat} {pc : Nat} {ls : Array Slot} {rest st : List Value}
theorem pl_wc {wc : va_W} {pl : List Nat} (hpl : pl.map (fun i => ws[i]?) = wc.map some) : pl.filterMap (fun i => ws[i]?) = wc := by
  have h1 : (pl.map (fun i => ws[i]?)).filterMap id = (wc.map some).filterMap id := by rw [hpl]
  simpa [List.filterMap_map, Function.comp_def] using h1
/-- the callee's start, where it may throw -/
theorem preXS {av : List Value} {wc : va_W} (fx : FX p s m args c own cc nL D q) (hSX : SX s) (hSZ : SZ A s H) (hP : va_P D vwCl ws H) (hD : va_D A ws) (hS : va_S A H0 H locs) (hA : ∀ a, H0.size ≤ a → A a) (pl : List Nat) (hpl : pl.map (fun i => ws[i]?) = wc.map some) (hnd : va_nd pl = true) : PreS s H (PX D q av wc H.size) av := by
  obtain ⟨-, -, -, -, -, hK⟩ := fx
  have hPc : va_P D vwCl wc H := hP.sub pl (pl_wc hpl)
  have hDc : va_D A wc := hD.sub pl hnd hpl
  have hN : SZ (va_A wc H.size) s H := SZ.narrow hSZ (va_free hD hS hA pl hpl)
  exact ⟨PX_blind, fun U hU hW => ⟨rfl, by rw [hU], by rw [hU]; exact hPc, hK.warm hW, hDc.weaken (fun _ _ _ _ => trivial), hSX.warm hW, by rw [hU]; exact SZ.moved hW.alike hN⟩⟩
section RUNX
variable {y : MethodName} {bytes : ByteArray} {maxL n idx mc ms : Nat} {ret : Option FieldType} {rm : Room} {Qc : Array Value → State → Outcome → State → Prop} {XC : String → State → State → Prop} {free : Addr → Prop} {b : Nat} {As : List Value} {wc : va_W} {C : String} {T : u_T} {N ci : Nat} {fs : List Value} {hh : List (Nat × Nat × Nat × Nat)}
theorem xrun (fx : FX p s m args c own cc nL D q) (hSX : SX s) (hSZ : SZ A s H) (hM : vx_Met l y (Cond.code y bytes maxL ret :: ALL) rm (PX D q (.ref b :: As) wc H.size) Qc XC mc ms free) (lk : LKV own idx C y bytes maxL ret n) (hroom : rm.frames + 1 ≤ R.frames ∧ 8 + (maxL + 11) + rm.locals ≤ R.locals) (hrm : rm.cells = mc ∧ rm.slots = ms)
    (hP : va_P D vwCl ws H) (hD : va_D A ws) (hS : va_S A H0 H locs) (hA : ∀ a, H0.size ≤ a → A a) (pl : List Nat) (hpl : pl.map (fun i => ws[i]?) = wc.map some) (hnd : va_nd pl = true) (hc : vwCl[ci]? = some (C, T, N)) (he : wc[0]? = some (b, .inr (ci, fs)))
    (hn : As.length = n) (hl : ls.size = nL) (hst : st = As.reverse ++ .ref b :: rest) (hW : (rest.map fun v => v.category).sum ≤ 8) (hdg : decode cc pc = .ok (.invokevirtual idx, 3)) (hf : cells + mc ≤ R.cells ∧ slots + ms ≤ R.slots) :
    vx_Run p l e R s m args below meth c H locs cells slots mc ms (F0 m pc ls st) rest (Qc (Value.ref b :: As).toArray) XC free := by
  have h1 := preXS (av := .ref b :: As) fx hSX hSZ hP hD hS hA pl hpl hnd
  exact vx_runV (fx_fix fx) hM ⟨cb_of fx lk.1 lk.2.2.2 hrm hroom, fx.2.2.2.2.1 _ lk.2.1, fx.2.2.2.2.1 _ lk.2.2.1⟩ ⟨h1.1, va_recv fx.2.2.2.2.2.1 (hP.sub pl (pl_wc hpl)) hc he, h1.2⟩ rfl hn hl hst (lv_room hW) hdg hf
/-- a static call of a helper of the law, which has a table of its own -/
def LKW (own : String) (idx : Nat) (y : MethodName) (bytes : ByteArray) (maxL : Nat) (ret : Option FieldType) (hh : List (Nat × Nat × Nat × Nat)) (n : Nat) : Prop :=
  Cond.methodLink own idx y ∈ ALL ∧ Cond.static y ∈ ALL ∧ Cond.initialized y.cls ∈ ALL ∧ Cond.codeWith y bytes maxL ret hh ∈ ALL ∧ y.cls ≠ "java/lang/invoke/MethodHandle" ∧ y.cls ≠ "java/lang/invoke/VarHandle" ∧ (parseMethodDescriptor y.desc).map (fun d => d.parameters.length) = some n
theorem wrun (fx : FX p s m args c own cc nL D q) (hSX : SX s) (hSZ : SZ A s H) (hM : Met l y (Cond.codeWith y bytes maxL ret hh :: ALL) rm (PX D q As wc H.size) Qc mc ms free) (lk : LKW own idx y bytes maxL ret hh n) (hroom : rm.frames + 1 ≤ R.frames ∧ 8 + (maxL + 11) + rm.locals ≤ R.locals) (hrm : rm.cells = mc ∧ rm.slots = ms)
    (hP : va_P D vwCl ws H) (hD : va_D A ws) (hS : va_S A H0 H locs) (hA : ∀ a, H0.size ≤ a → A a) (pl : List Nat) (hpl : pl.map (fun i => ws[i]?) = wc.map some) (hnd : va_nd pl = true)
    (hn : As.length = n) (hl : ls.size = nL) (hst : st = As.reverse ++ rest) (hW : (rest.map fun v => v.category).sum ≤ 8) (hdg : decode cc pc = .ok (.invokestatic idx, 3)) (hf : cells + mc ≤ R.cells ∧ slots + ms ≤ R.slots) :
    va_Run p l e R s m args below meth c H locs cells slots mc ms (F0 m pc ls st) rest (Qc As.toArray) free := by
  have hts := fx.2.2.2.2.1
  obtain ⟨k1, k2, k3, k4, k5, k6, k7⟩ := lk
  refine vx_runSW (fx_fix fx) hM (hh := hh) ⟨⟨hrm.1, hrm.2, hroom.1, hroom.2, all_pay k4 hts, List.mem_cons_self⟩, hts _ k4, hts _ k3, ⟨k5, k6⟩, fun sig hs => ?_, hts _ k1, hts _ k2⟩ (preXS fx hSX hSZ hP hD hS hA pl hpl hnd) rfl hn hl hst (lv_room hW) hdg hf
  rw [hs] at k7
  exact (Option.some.inj k7).symm
end RUNX
theorem wrunC {y : MethodName} {bytes : ByteArray} {maxL n idx mc ms : Nat} {ret : Option FieldType} {rm : Room} {Qc : Array Value → State → Outcome → State → Prop} {free : Addr → Prop} {As : List Value} {wc : va_W} (fx : FX p s m args c own cc nL D q) (hSX : SX s) (hSZ : SZ A s H) (hM : Met l y (Cond.code y bytes maxL ret :: ALL) rm (PX D q As wc H.size) Qc mc ms free) (lk : LKS own idx y bytes maxL ret n) (hroom : rm.frames + 1 ≤ R.frames ∧ 8 + (maxL + 11) + rm.locals ≤ R.locals) (hrm : rm.cells = mc ∧ rm.slots = ms)
    (hP : va_P D vwCl ws H) (hD : va_D A ws) (hS : va_S A H0 H locs) (hA : ∀ a, H0.size ≤ a → A a) (pl : List Nat) (hpl : pl.map (fun i => ws[i]?) = wc.map some) (hnd : va_nd pl = true)
    (hn : As.length = n) (hl : ls.size = nL) (hst : st = As.reverse ++ rest) (hW : (rest.map fun v => v.category).sum ≤ 8) (hdg : decode cc pc = .ok (.invokestatic idx, 3)) (hf : cells + mc ≤ R.cells ∧ slots + ms ≤ R.slots) :
    va_Run p l e R s m args below meth c H locs cells slots mc ms (F0 m pc ls st) rest (Qc As.toArray) free :=
  va_runS (fx_fix fx) hM ⟨cb_of fx lk.1 lk.2.2 hrm hroom, fx.2.2.2.2.1 _ lk.2.1⟩ (preXS fx hSX hSZ hP hD hS hA pl hpl hnd) rfl hn hl hst (lv_room hW) hdg hf
section ROWX
variable {a : Array Value} {S : Type} {wc : va_W} {C : S → va_W} {px : Nat → Prop} {nc : Nat}
theorem kXg_i {post : Int32 → S → Prop} (hr : vx_Run p l e R s m args below meth c H locs cells slots 1 6 (F0 m pc ls st) rest (va_Qi post (fun u t => va_P D vwCl (C u) t.heap) (va_A wc H.size) a) (XCk D wc H.size px) (va_A wc H.size)) (hP : va_P D vwCl ws H) (hD : va_D A ws) (hS : va_S A H0 H locs) (hA : ∀ q, H0.size ≤ q → A q) (hg : H0.size + nc ≤ H.size) (pl : List Nat) (hpl : pl.map (fun i => ws[i]?) = wc.map some) (hlen : ∀ u, (C u).length = wc.length)
    (kx : ∀ (k : Nat) (ce : Cell) (q9 : Addr) (H1 : Heap) (locs1 : List Loc), px k → va_P D vwCl (setAll ws pl wc) H1 → va_S A H0 H1 locs1 → H0.size + (nc + 1) ≤ H1.size → H1[q9]? = some ce → ce.vm = .none → s.vm.findClass (excName k) = some ce.cls → vx_W p l e R s m args below meth c H1 locs1 (cells + 1) (slots + 6) Q (F0 m pc ls rest) q9)
    (kk : ∀ (r : Int32) (u : S) (H1 : Heap) (locs1 : List Loc), post r u → va_P D vwCl (setAll ws pl (C u)) H1 → va_S A H0 H1 locs1 → H0.size + nc ≤ H1.size → W p l e R s m args below meth c H1 locs1 (cells + 1) (slots + 6) Q (F0 m (pc + 3) ls (.int r :: rest))) : W p l e R s m args below meth c H locs cells slots Q (F0 m pc ls st) :=
  vx_calli hr hS (fun q9 _ h => va_free hD hS hA pl hpl q9 h) (va_free hD hS hA pl hpl) (fun q9 _ h => va_free hD hS hA pl hpl q9 h)
    (fun E ce q9 k t H1 locs1 ht _ hp hB _ hk hS1 hce hcv hcl => kx k ce q9 H1 locs1 hp.2 (P_join hP hD pl hpl rfl hk (by rw [← ht]; exact hB.2.1)) hS1 (by have h9 := hB.2.2; rw [ht] at h9; omega) hce hcv (by rw [← hB.1]; exact hcl))
    (fun r u t H1 locs1 ht _ hp hB hz hk hS1 => kk r u H1 locs1 hp (P_join hP hD pl hpl (hlen u) hk (by rw [← ht]; exact hB)) hS1 (by omega))
theorem kXg_l {post : Int64 → S → Prop} (hr : vx_Run p l e R s m args below meth c H locs cells slots 1 6 (F0 m pc ls st) rest (va_Ql post (fun u t => va_P D vwCl (C u) t.heap) (va_A wc H.size) a) (XCk D wc H.size px) (va_A wc H.size)) (hP : va_P D vwCl ws H) (hD : va_D A ws) (hS : va_S A H0 H locs) (hA : ∀ q, H0.size ≤ q → A q) (hg : H0.size + nc ≤ H.size) (pl : List Nat) (hpl : pl.map (fun i => ws[i]?) = wc.map some) (hlen : ∀ u, (C u).length = wc.length)
    (kx : ∀ (k : Nat) (ce : Cell) (q9 : Addr) (H1 : Heap) (locs1 : List Loc), px k → va_P D vwCl (setAll ws pl wc) H1 → va_S A H0 H1 locs1 → H0.size + (nc + 1) ≤ H1.size → H1[q9]? = some ce → ce.vm = .none → s.vm.findClass (excName k) = some ce.cls → vx_W p l e R s m args below meth c H1 locs1 (cells + 1) (slots + 6) Q (F0 m pc ls rest) q9)
    (kk : ∀ (r : Int64) (u : S) (H1 : Heap) (locs1 : List Loc), post r u → va_P D vwCl (setAll ws pl (C u)) H1 → va_S A H0 H1 locs1 → H0.size + nc ≤ H1.size → W p l e R s m args below meth c H1 locs1 (cells + 1) (slots + 6) Q (F0 m (pc + 3) ls (.long r :: rest))) : W p l e R s m args below meth c H locs cells slots Q (F0 m pc ls st) :=
  vx_calll hr hS (fun q9 _ h => va_free hD hS hA pl hpl q9 h) (va_free hD hS hA pl hpl) (fun q9 _ h => va_free hD hS hA pl hpl q9 h)
    (fun E ce q9 k t H1 locs1 ht _ hp hB _ hk hS1 hce hcv hcl => kx k ce q9 H1 locs1 hp.2 (P_join hP hD pl hpl rfl hk (by rw [← ht]; exact hB.2.1)) hS1 (by have h9 := hB.2.2; rw [ht] at h9; omega) hce hcv (by rw [← hB.1]; exact hcl))
    (fun r u t H1 locs1 ht _ hp hB hz hk hS1 => kk r u H1 locs1 hp (P_join hP hD pl hpl (hlen u) hk (by rw [← ht]; exact hB)) hS1 (by omega))
theorem kXg_f {post : UInt32 → S → Prop} (hr : vx_Run p l e R s m args below meth c H locs cells slots 1 6 (F0 m pc ls st) rest (va_Qf post (fun u t => va_P D vwCl (C u) t.heap) (va_A wc H.size) a) (XCk D wc H.size px) (va_A wc H.size)) (hP : va_P D vwCl ws H) (hD : va_D A ws) (hS : va_S A H0 H locs) (hA : ∀ q, H0.size ≤ q → A q) (hg : H0.size + nc ≤ H.size) (pl : List Nat) (hpl : pl.map (fun i => ws[i]?) = wc.map some) (hlen : ∀ u, (C u).length = wc.length)
    (kx : ∀ (k : Nat) (ce : Cell) (q9 : Addr) (H1 : Heap) (locs1 : List Loc), px k → va_P D vwCl (setAll ws pl wc) H1 → va_S A H0 H1 locs1 → H0.size + (nc + 1) ≤ H1.size → H1[q9]? = some ce → ce.vm = .none → s.vm.findClass (excName k) = some ce.cls → vx_W p l e R s m args below meth c H1 locs1 (cells + 1) (slots + 6) Q (F0 m pc ls rest) q9)
    (kk : ∀ (r : UInt32) (u : S) (H1 : Heap) (locs1 : List Loc), post r u → va_P D vwCl (setAll ws pl (C u)) H1 → va_S A H0 H1 locs1 → H0.size + nc ≤ H1.size → W p l e R s m args below meth c H1 locs1 (cells + 1) (slots + 6) Q (F0 m (pc + 3) ls (.float r :: rest))) : W p l e R s m args below meth c H locs cells slots Q (F0 m pc ls st) :=
  vx_callf hr hS (fun q9 _ h => va_free hD hS hA pl hpl q9 h) (va_free hD hS hA pl hpl) (fun q9 _ h => va_free hD hS hA pl hpl q9 h)
    (fun E ce q9 k t H1 locs1 ht _ hp hB _ hk hS1 hce hcv hcl => kx k ce q9 H1 locs1 hp.2 (P_join hP hD pl hpl rfl hk (by rw [← ht]; exact hB.2.1)) hS1 (by have h9 := hB.2.2; rw [ht] at h9; omega) hce hcv (by rw [← hB.1]; exact hcl))
    (fun r u t H1 locs1 ht _ hp hB hz hk hS1 => kk r u H1 locs1 hp (P_join hP hD pl hpl (hlen u) hk (by rw [← ht]; exact hB)) hS1 (by omega))
theorem kXg_v {post : S → Prop} (hr : vx_Run p l e R s m args below meth c H locs cells slots 1 6 (F0 m pc ls st) rest (va_Qv post (fun u t => va_P D vwCl (C u) t.heap) (va_A wc H.size) a) (XCk D wc H.size px) (va_A wc H.size)) (hP : va_P D vwCl ws H) (hD : va_D A ws) (hS : va_S A H0 H locs) (hA : ∀ q, H0.size ≤ q → A q) (hg : H0.size + nc ≤ H.size) (pl : List Nat) (hpl : pl.map (fun i => ws[i]?) = wc.map some) (hlen : ∀ u, (C u).length = wc.length)
    (kx : ∀ (k : Nat) (ce : Cell) (q9 : Addr) (H1 : Heap) (locs1 : List Loc), px k → va_P D vwCl (setAll ws pl wc) H1 → va_S A H0 H1 locs1 → H0.size + (nc + 1) ≤ H1.size → H1[q9]? = some ce → ce.vm = .none → s.vm.findClass (excName k) = some ce.cls → vx_W p l e R s m args below meth c H1 locs1 (cells + 1) (slots + 6) Q (F0 m pc ls rest) q9)
    (kk : ∀ (u : S) (H1 : Heap) (locs1 : List Loc), post u → va_P D vwCl (setAll ws pl (C u)) H1 → va_S A H0 H1 locs1 → H0.size + nc ≤ H1.size → W p l e R s m args below meth c H1 locs1 (cells + 1) (slots + 6) Q (F0 m (pc + 3) ls rest)) : W p l e R s m args below meth c H locs cells slots Q (F0 m pc ls st) :=
  vx_callv hr hS (fun q9 _ h => va_free hD hS hA pl hpl q9 h) (va_free hD hS hA pl hpl) (fun q9 _ h => va_free hD hS hA pl hpl q9 h)
    (fun E ce q9 k t H1 locs1 ht _ hp hB _ hk hS1 hce hcv hcl => kx k ce q9 H1 locs1 hp.2 (P_join hP hD pl hpl rfl hk (by rw [← ht]; exact hB.2.1)) hS1 (by have h9 := hB.2.2; rw [ht] at h9; omega) hce hcv (by rw [← hB.1]; exact hcl))
    (fun u t H1 locs1 ht _ hp hB hz hk hS1 => kk u H1 locs1 hp (P_join hP hD pl hpl (hlen u) hk (by rw [← ht]; exact hB)) hS1 (by omega))
theorem kRg_i {post : Int32 → S → Prop} (hr : va_Run p l e R s m args below meth c H locs cells slots 0 0 (F0 m pc ls st) rest (va_Qi post (fun _ _ => True) (fun _ => False) a) (fun _ => False)) (hP : va_P D vwCl ws H) (hS : va_S A H0 H locs) (hg : H0.size + nc ≤ H.size)
    (kk : ∀ (r : Int32) (u : S) (H1 : Heap) (locs1 : List Loc), post r u → va_P D vwCl ws H1 → va_S A H0 H1 locs1 → H0.size + nc ≤ H1.size → W p l e R s m args below meth c H1 locs1 cells slots Q (F0 m (pc + 3) ls (.int r :: rest))) : W p l e R s m args below meth c H locs cells slots Q (F0 m pc ls st) :=
  va_calli hr hS (fun _ _ h => h.elim) (fun _ h => h.elim) (fun r u _ H1 locs1 _ _ hp _ hz hk hS1 => kk r u H1 locs1 hp (hP.kept (fun k x hx => hk x.1 ((hP k x hx).lt) (fun h => h))) hS1 (by omega))
theorem kWg_i {mc ms : Nat} {post : Int32 → Nat × S → Prop} (hr : va_Run p l e R s m args below meth c H locs cells slots mc ms (F0 m pc ls st) rest (va_Qi post (fun u t => va_P D vwCl (C u.2) t.heap ∧ H.size + u.1 ≤ t.heap.size) (va_A wc H.size) a) (va_A wc H.size)) (hP : va_P D vwCl ws H) (hD : va_D A ws) (hS : va_S A H0 H locs) (hA : ∀ q, H0.size ≤ q → A q) (hg : H0.size + nc ≤ H.size) (pl : List Nat) (hpl : pl.map (fun i => ws[i]?) = wc.map some) (hlen : ∀ u, (C u).length = wc.length)
    (kk : ∀ (r : Int32) (n1 : Nat) (u : S) (H1 : Heap) (locs1 : List Loc), post r (n1, u) → va_P D vwCl (setAll ws pl (C u)) H1 → va_S A H0 H1 locs1 → H0.size + (nc + n1) ≤ H1.size → W p l e R s m args below meth c H1 locs1 (cells + mc) (slots + ms) Q (F0 m (pc + 3) ls (.int r :: rest))) : W p l e R s m args below meth c H locs cells slots Q (F0 m pc ls st) :=
  va_calli hr hS (fun q9 _ h => va_free hD hS hA pl hpl q9 h) (va_free hD hS hA pl hpl) (fun r u t H1 locs1 ht _ hp hB _ hk hS1 => kk r u.1 u.2 H1 locs1 hp (P_join hP hD pl hpl (hlen u.2) hk (by rw [← ht]; exact hB.1)) hS1 (by have h9 := hB.2; rw [ht] at h9; omega))
theorem kRg_l {post : Int64 → S → Prop} (hr : va_Run p l e R s m args below meth c H locs cells slots 0 0 (F0 m pc ls st) rest (va_Ql post (fun _ _ => True) (fun _ => False) a) (fun _ => False)) (hP : va_P D vwCl ws H) (hS : va_S A H0 H locs) (hg : H0.size + nc ≤ H.size)
    (kk : ∀ (r : Int64) (u : S) (H1 : Heap) (locs1 : List Loc), post r u → va_P D vwCl ws H1 → va_S A H0 H1 locs1 → H0.size + nc ≤ H1.size → W p l e R s m args below meth c H1 locs1 cells slots Q (F0 m (pc + 3) ls (.long r :: rest))) : W p l e R s m args below meth c H locs cells slots Q (F0 m pc ls st) :=
  va_calll hr hS (fun _ _ h => h.elim) (fun _ h => h.elim) (fun r u _ H1 locs1 _ _ hp _ hz hk hS1 => kk r u H1 locs1 hp (hP.kept (fun k x hx => hk x.1 ((hP k x hx).lt) (fun h => h))) hS1 (by omega))
theorem kWg_l {mc ms : Nat} {post : Int64 → Nat × S → Prop} (hr : va_Run p l e R s m args below meth c H locs cells slots mc ms (F0 m pc ls st) rest (va_Ql post (fun u t => va_P D vwCl (C u.2) t.heap ∧ H.size + u.1 ≤ t.heap.size) (va_A wc H.size) a) (va_A wc H.size)) (hP : va_P D vwCl ws H) (hD : va_D A ws) (hS : va_S A H0 H locs) (hA : ∀ q, H0.size ≤ q → A q) (hg : H0.size + nc ≤ H.size) (pl : List Nat) (hpl : pl.map (fun i => ws[i]?) = wc.map some) (hlen : ∀ u, (C u).length = wc.length)
    (kk : ∀ (r : Int64) (n1 : Nat) (u : S) (H1 : Heap) (locs1 : List Loc), post r (n1, u) → va_P D vwCl (setAll ws pl (C u)) H1 → va_S A H0 H1 locs1 → H0.size + (nc + n1) ≤ H1.size → W p l e R s m args below meth c H1 locs1 (cells + mc) (slots + ms) Q (F0 m (pc + 3) ls (.long r :: rest))) : W p l e R s m args below meth c H locs cells slots Q (F0 m pc ls st) :=
  va_calll hr hS (fun q9 _ h => va_free hD hS hA pl hpl q9 h) (va_free hD hS hA pl hpl) (fun r u t H1 locs1 ht _ hp hB _ hk hS1 => kk r u.1 u.2 H1 locs1 hp (P_join hP hD pl hpl (hlen u.2) hk (by rw [← ht]; exact hB.1)) hS1 (by have h9 := hB.2; rw [ht] at h9; omega))
end ROWX
/-- a caught exception goes on at its handler: the j-th row of the table takes exception k, those ahead of it don't -/
theorem catchK {k st0 en hp ct : Nat} {hh : List (Nat × Nat × Nat × Nat)} {ce : Cell} {q9 : Addr} (fx : FX p s m args c RL cc nL D q) (hSX : SX s) (htab : c.exceptionTable.toList = tableOf hh)
    (pre suf : List (Nat × Nat × Nat × Nat)) (hsplit : hh = pre ++ (st0, en, hp, ct) :: suf) (hpass : ∀ z ∈ pre, ∃ k2 : Nat, z.2.2.2 = tlk k2 ∧ (k2 = 1 ∨ k2 = 2 ∨ k2 = 3) ∧ (k, k2) ∈ NCL) (hk : k = 1 ∨ k = 2 ∨ k = 3) (hct : ct = tlk k) (hcov : st0 ≤ pc ∧ pc < en)
    (hcell : H[q9]? = some ce) (hv : ce.vm = .none) (hcl : s.vm.findClass (excName k) = some ce.cls)
    (kk : W p l e R s m args below meth c H locs cells slots Q (F0 m hp ls [.ref q9])) : vx_W p l e R s m args below meth c H locs cells slots Q (F0 m pc ls rest) q9 := by
  have hts := fx.2.2.2.2.1
  have hlk : ∀ k : Nat, (k = 1 ∨ k = 2 ∨ k = 3) → (Cond.classLink RL (tlk k) (excName k)).before args s = true := fun k hk => hts _ (by rcases hk with rfl | rfl | rfl; exact ll1; exact ll2; exact ll3)
  refine vx_catch fx.2.2.2.1 (tableOf pre) ⟨st0, en, hp, ct⟩ (tableOf suf) (by rw [htab, hsplit]; simp [tableOf]) (fun z hz => ?_) (by simp [covers, hcov.1, hcov.2]) (by show ct ≠ 0; rw [hct]; rcases hk with rfl | rfl | rfl <;> decide) (name := excName k) (by rw [hct]; exact hlk k hk) (va_Nw.use (by rfl) (hSX.1 _ (by rcases hk with rfl | rfl | rfl; exact List.mem_of_getElem? (i := 0) rfl; exact List.mem_of_getElem? (i := 1) rfl; exact List.mem_of_getElem? (i := 2) rfl))) hcell hv hcl kk
  obtain ⟨z0, hz0, rfl⟩ := List.mem_map.mp hz
  obtain ⟨k2, e1, e2, e3⟩ := hpass z0 hz0
  refine Or.inr ⟨?_, excName k2, ?_, hSX.2.2 _ e3⟩
  · show z0.2.2.2 ≠ 0
    rw [e1]; rcases e2 with rfl | rfl | rfl <;> decide
  · show (Cond.classLink RL z0.2.2.2 (excName k2)).before args s = true
    rw [e1]; exact hlk k2 e2
theorem met_ofWH {y : MethodName} {ws2 ws' : List Cond} {rm : Room} {Pc : Array Value → State → Prop} {Qc : Array Value → State → Outcome → State → Prop} {mc ms : Nat} {free : Addr → Prop} {maxL : Nat} {ret : Option FieldType} {hh : List (Nat × Nat × Nat × Nat)}
    (hy : plainName y.cls = true) (hw : ws2 = Cond.codeWith y cc maxL ret hh :: ws')
    (body : ∀ p e s m args below meth c s₁, BodyLoose p l y (headSpec ws2 rm) cc maxL ret e s m args below meth c s₁ → c.maxLocals = maxL → Pc args s →
      W p l e (headSpec ws2 rm).room s m args below meth c s.heap [] 0 0 (MQ below Qc args s mc ms free) (entryFrame m args maxL)) : Met l y ws2 rm Pc Qc mc ms free := by
  refine MetFree.of_bodyS (code := cc) (maxLocals := maxL) (ret := ret) hy ?_ ?_
  · intro args s m h hn
    obtain ⟨m9, meth, c, hn9, h1, h2, h3, h4, -, h5, h6, -⟩ := Cond.codeWith_spec (atoms_spec (ws := ws2) h _ (by rw [hw]; exact List.mem_cons_self))
    cases hn.symm.trans hn9
    exact ⟨meth, c, h1, h2, h3, h4, h5, h6⟩
  · intro p e s m args below meth c s₁ B hml hP _
    have hh0 : s₁.heap = s.heap := by rw [B.state]; rfl
    obtain ⟨t, a1, o, b1, b2, b3⟩ := body p e s m args below meth c s₁ B hml hP s₁ hh0 (Stand.of_body B)
    exact ⟨t, o, a1, b1, b2, b3⟩
variable {y : MethodName} {rm : Room} {av : List Value} {sz : Nat} {S : Type} {C : S → va_W} {hh : List (Nat × Nat × Nat × Nat)}
theorem en_hi {post : Int32 → Nat × S → Prop} {mc ms : Nat} (hcls : y.cls = RL) (hy : plainName y.cls = true) (hav : (lg_sl av).length ≤ nL)
    (body : ∀ (p : Program) (e : Env) (s : State) (m : MethodId) (args : Array Value) (below : List Frame) (meth : Method) (c : Code) (Q : State → Prop) (A : Nat → Prop) (H : Heap) (locs : List Loc) (ls : Array Slot), FX p s m args c RL cc nL D q → SX s → SZ A s s.heap → c.exceptionTable.toList = tableOf hh → va_D A ws → (∀ a, s.heap.size ≤ a → A a) → va_P D vwCl ws H → va_S A s.heap H locs → lv_has ls nL (lv_args 0 av) →
      (∀ (r : Int32) (u : Nat × S) (pc : Nat) (H : Heap) (locs : List Loc) (ls : Array Slot), decode cc pc = .ok (.ireturn, 1) → post r u → va_P D vwCl (C u.2) H → va_S A s.heap H locs → s.heap.size + u.1 ≤ H.size → W p l e rm s m args below meth c H locs mc ms Q (F0 m pc ls [.int r])) →
      W p l e rm s m args below meth c H locs 0 0 Q (F0 m 0 ls [])) :
    Met l y (Cond.codeWith y cc nL (some .int) hh :: ALL) rm (PX D q av ws sz) (va_Qi post (fun u t => va_P D vwCl (C u.2) t.heap ∧ sz + u.1 ≤ t.heap.size) (va_A ws sz)) mc ms (va_A ws sz) := by
  refine met_ofWH (cc := cc) (maxL := nL) (ret := some .int) (hh := hh) hy rfl ?_
  intro p e s m args below meth c s₁ B hml hv
  obtain ⟨rfl, hsz, hP, hK, hD, hSX, hSZ⟩ := hv
  have hat := atoms_spec (ws := Cond.codeWith y cc nL (some .int) hh :: ALL) B.pre
  have fx : FX p s m av.toArray c RL cc nL D q := fx_of hcls B (fun h w hw => atoms_spec (ws := Cond.codeWith y cc nL (some .int) hh :: ALL) h w (List.mem_cons_of_mem _ hw)) hml hK
  have htab := vx_table (x := y) B (hat _ List.mem_cons_self)
  have hl := lv_entry av hav
  rw [lg_entry_eq]
  generalize (lg_sl av ++ List.replicate (nL - (lg_sl av).length) Slot.unset).toArray = ls at hl ⊢
  exact body p e s m av.toArray below meth c _ (va_A ws sz) s.heap [] ls fx hSX hSZ htab hD.self (fun a h => Or.inr (hsz ▸ h)) hP va_S.rf hl (fun r u pc H locs ls hdg hp hB hS hg => W.iret fx.1 fx.2.1 B.returns (fun t ht hW => ⟨⟨r, u, rfl, hp, by show va_P D vwCl (C u.2) t.heap; rw [ht]; exact hB, by show sz + u.1 ≤ t.heap.size; rw [ht, ← hsz]; exact hg⟩, hS.F ht⟩) hS.2.2 hdg B.notSynchronized)
theorem en_ci {post : Int32 → Nat × S → Prop} {mc ms : Nat} (hcls : y.cls = RL) (hy : plainName y.cls = true) (hav : (lg_sl av).length ≤ nL)
    (body : ∀ (p : Program) (e : Env) (s : State) (m : MethodId) (args : Array Value) (below : List Frame) (meth : Method) (c : Code) (Q : State → Prop) (A : Nat → Prop) (H : Heap) (locs : List Loc) (ls : Array Slot), FX p s m args c RL cc nL D q → SX s → SZ A s s.heap → va_D A ws → (∀ a, s.heap.size ≤ a → A a) → va_P D vwCl ws H → va_S A s.heap H locs → lv_has ls nL (lv_args 0 av) →
      (∀ (r : Int32) (u : Nat × S) (pc : Nat) (H : Heap) (locs : List Loc) (ls : Array Slot), decode cc pc = .ok (.ireturn, 1) → post r u → va_P D vwCl (C u.2) H → va_S A s.heap H locs → s.heap.size + u.1 ≤ H.size → W p l e rm s m args below meth c H locs mc ms Q (F0 m pc ls [.int r])) →
      W p l e rm s m args below meth c H locs 0 0 Q (F0 m 0 ls [])) :
    Met l y (Cond.code y cc nL (some .int) :: ALL) rm (PX D q av ws sz) (va_Qi post (fun u t => va_P D vwCl (C u.2) t.heap ∧ sz + u.1 ≤ t.heap.size) (va_A ws sz)) mc ms (va_A ws sz) := by
  refine Met.ofW (cc := cc) (maxL := nL) (ret := some .int) hy rfl ?_
  intro p e s m args below meth c s₁ B hml hv
  obtain ⟨rfl, hsz, hP, hK, hD, hSX, hSZ⟩ := hv
  have hat := atoms_spec (ws := Cond.code y cc nL (some .int) :: ALL) B.pre
  have fx : FX p s m av.toArray c RL cc nL D q := fx_of hcls B (fun h w hw => atoms_spec (ws := Cond.code y cc nL (some .int) :: ALL) h w (List.mem_cons_of_mem _ hw)) hml hK
  have hl := lv_entry av hav
  rw [lg_entry_eq]
  generalize (lg_sl av ++ List.replicate (nL - (lg_sl av).length) Slot.unset).toArray = ls at hl ⊢
  exact body p e s m av.toArray below meth c _ (va_A ws sz) s.heap [] ls fx hSX hSZ hD.self (fun a h => Or.inr (hsz ▸ h)) hP va_S.rf hl (fun r u pc H locs ls hdg hp hB hS hg => W.iret fx.1 fx.2.1 B.returns (fun t ht hW => ⟨⟨r, u, rfl, hp, by show va_P D vwCl (C u.2) t.heap; rw [ht]; exact hB, by show sz + u.1 ≤ t.heap.size; rw [ht, ← hsz]; exact hg⟩, hS.F ht⟩) hS.2.2 hdg B.notSynchronized)
theorem en_hl {post : Int64 → Nat × S → Prop} {mc ms : Nat} (hcls : y.cls = RL) (hy : plainName y.cls = true) (hav : (lg_sl av).length ≤ nL)
    (body : ∀ (p : Program) (e : Env) (s : State) (m : MethodId) (args : Array Value) (below : List Frame) (meth : Method) (c : Code) (Q : State → Prop) (A : Nat → Prop) (H : Heap) (locs : List Loc) (ls : Array Slot), FX p s m args c RL cc nL D q → SX s → SZ A s s.heap → c.exceptionTable.toList = tableOf hh → va_D A ws → (∀ a, s.heap.size ≤ a → A a) → va_P D vwCl ws H → va_S A s.heap H locs → lv_has ls nL (lv_args 0 av) →
      (∀ (r : Int64) (u : Nat × S) (pc : Nat) (H : Heap) (locs : List Loc) (ls : Array Slot), decode cc pc = .ok (.lreturn, 1) → post r u → va_P D vwCl (C u.2) H → va_S A s.heap H locs → s.heap.size + u.1 ≤ H.size → W p l e rm s m args below meth c H locs mc ms Q (F0 m pc ls [.long r])) →
      W p l e rm s m args below meth c H locs 0 0 Q (F0 m 0 ls [])) :
    Met l y (Cond.codeWith y cc nL (some .long) hh :: ALL) rm (PX D q av ws sz) (va_Ql post (fun u t => va_P D vwCl (C u.2) t.heap ∧ sz + u.1 ≤ t.heap.size) (va_A ws sz)) mc ms (va_A ws sz) := by
  refine met_ofWH (cc := cc) (maxL := nL) (ret := some .long) (hh := hh) hy rfl ?_
  intro p e s m args below meth c s₁ B hml hv
  obtain ⟨rfl, hsz, hP, hK, hD, hSX, hSZ⟩ := hv
  have hat := atoms_spec (ws := Cond.codeWith y cc nL (some .long) hh :: ALL) B.pre
  have fx : FX p s m av.toArray c RL cc nL D q := fx_of hcls B (fun h w hw => atoms_spec (ws := Cond.codeWith y cc nL (some .long) hh :: ALL) h w (List.mem_cons_of_mem _ hw)) hml hK
  have htab := vx_table (x := y) B (hat _ List.mem_cons_self)
  have hl := lv_entry av hav
  rw [lg_entry_eq]
  generalize (lg_sl av ++ List.replicate (nL - (lg_sl av).length) Slot.unset).toArray = ls at hl ⊢
  exact body p e s m av.toArray below meth c _ (va_A ws sz) s.heap [] ls fx hSX hSZ htab hD.self (fun a h => Or.inr (hsz ▸ h)) hP va_S.rf hl (fun r u pc H locs ls hdg hp hB hS hg => W.lret fx.1 fx.2.1 B.returns (fun t ht hW => ⟨⟨r, u, rfl, hp, by show va_P D vwCl (C u.2) t.heap; rw [ht]; exact hB, by show sz + u.1 ≤ t.heap.size; rw [ht, ← hsz]; exact hg⟩, hS.F ht⟩) hS.2.2 hdg B.notSynchronized)
theorem en_cl {post : Int64 → Nat × S → Prop} {mc ms : Nat} (hcls : y.cls = RL) (hy : plainName y.cls = true) (hav : (lg_sl av).length ≤ nL)
    (body : ∀ (p : Program) (e : Env) (s : State) (m : MethodId) (args : Array Value) (below : List Frame) (meth : Method) (c : Code) (Q : State → Prop) (A : Nat → Prop) (H : Heap) (locs : List Loc) (ls : Array Slot), FX p s m args c RL cc nL D q → SX s → SZ A s s.heap → va_D A ws → (∀ a, s.heap.size ≤ a → A a) → va_P D vwCl ws H → va_S A s.heap H locs → lv_has ls nL (lv_args 0 av) →
      (∀ (r : Int64) (u : Nat × S) (pc : Nat) (H : Heap) (locs : List Loc) (ls : Array Slot), decode cc pc = .ok (.lreturn, 1) → post r u → va_P D vwCl (C u.2) H → va_S A s.heap H locs → s.heap.size + u.1 ≤ H.size → W p l e rm s m args below meth c H locs mc ms Q (F0 m pc ls [.long r])) →
      W p l e rm s m args below meth c H locs 0 0 Q (F0 m 0 ls [])) :
    Met l y (Cond.code y cc nL (some .long) :: ALL) rm (PX D q av ws sz) (va_Ql post (fun u t => va_P D vwCl (C u.2) t.heap ∧ sz + u.1 ≤ t.heap.size) (va_A ws sz)) mc ms (va_A ws sz) := by
  refine Met.ofW (cc := cc) (maxL := nL) (ret := some .long) hy rfl ?_
  intro p e s m args below meth c s₁ B hml hv
  obtain ⟨rfl, hsz, hP, hK, hD, hSX, hSZ⟩ := hv
  have hat := atoms_spec (ws := Cond.code y cc nL (some .long) :: ALL) B.pre
  have fx : FX p s m av.toArray c RL cc nL D q := fx_of hcls B (fun h w hw => atoms_spec (ws := Cond.code y cc nL (some .long) :: ALL) h w (List.mem_cons_of_mem _ hw)) hml hK
  have hl := lv_entry av hav
  rw [lg_entry_eq]
  generalize (lg_sl av ++ List.replicate (nL - (lg_sl av).length) Slot.unset).toArray = ls at hl ⊢
  exact body p e s m av.toArray below meth c _ (va_A ws sz) s.heap [] ls fx hSX hSZ hD.self (fun a h => Or.inr (hsz ▸ h)) hP va_S.rf hl (fun r u pc H locs ls hdg hp hB hS hg => W.lret fx.1 fx.2.1 B.returns (fun t ht hW => ⟨⟨r, u, rfl, hp, by show va_P D vwCl (C u.2) t.heap; rw [ht]; exact hB, by show sz + u.1 ≤ t.heap.size; rw [ht, ← hsz]; exact hg⟩, hS.F ht⟩) hS.2.2 hdg B.notSynchronized)
theorem en_hz {post : Int32 → Nat × S → Prop} {mc ms : Nat} (hcls : y.cls = RL) (hy : plainName y.cls = true) (hav : (lg_sl av).length ≤ nL)
    (body : ∀ (p : Program) (e : Env) (s : State) (m : MethodId) (args : Array Value) (below : List Frame) (meth : Method) (c : Code) (Q : State → Prop) (A : Nat → Prop) (H : Heap) (locs : List Loc) (ls : Array Slot), FX p s m args c RL cc nL D q → SX s → SZ A s s.heap → c.exceptionTable.toList = tableOf hh → va_D A ws → (∀ a, s.heap.size ≤ a → A a) → va_P D vwCl ws H → va_S A s.heap H locs → lv_has ls nL (lv_args 0 av) →
      (∀ (r : Int32) (u : Nat × S) (pc : Nat) (H : Heap) (locs : List Loc) (ls : Array Slot), decode cc pc = .ok (.ireturn, 1) → bz r → post r u → va_P D vwCl (C u.2) H → va_S A s.heap H locs → s.heap.size + u.1 ≤ H.size → W p l e rm s m args below meth c H locs mc ms Q (F0 m pc ls [.int r])) →
      W p l e rm s m args below meth c H locs 0 0 Q (F0 m 0 ls [])) :
    Met l y (Cond.codeWith y cc nL (some .boolean) hh :: ALL) rm (PX D q av ws sz) (va_Qi (fun r u => post r u ∧ bz r) (fun u t => va_P D vwCl (C u.2) t.heap ∧ sz + u.1 ≤ t.heap.size) (va_A ws sz)) mc ms (va_A ws sz) := by
  refine met_ofWH (cc := cc) (maxL := nL) (ret := some .boolean) (hh := hh) hy rfl ?_
  intro p e s m args below meth c s₁ B hml hv
  obtain ⟨rfl, hsz, hP, hK, hD, hSX, hSZ⟩ := hv
  have hat := atoms_spec (ws := Cond.codeWith y cc nL (some .boolean) hh :: ALL) B.pre
  have fx : FX p s m av.toArray c RL cc nL D q := fx_of hcls B (fun h w hw => atoms_spec (ws := Cond.codeWith y cc nL (some .boolean) hh :: ALL) h w (List.mem_cons_of_mem _ hw)) hml hK
  have htab := vx_table (x := y) B (hat _ List.mem_cons_self)
  have hl := lv_entry av hav
  rw [lg_entry_eq]
  generalize (lg_sl av ++ List.replicate (nL - (lg_sl av).length) Slot.unset).toArray = ls at hl ⊢
  exact body p e s m av.toArray below meth c _ (va_A ws sz) s.heap [] ls fx hSX hSZ htab hD.self (fun a h => Or.inr (hsz ▸ h)) hP va_S.rf hl (fun r u pc H locs ls hdg hz hp hB hS hg => W.zret fx.1 fx.2.1 B.returns (bz_n hz) (fun t ht hW => ⟨⟨r, u, rfl, ⟨hp, hz⟩, by show va_P D vwCl (C u.2) t.heap; rw [ht]; exact hB, by show sz + u.1 ≤ t.heap.size; rw [ht, ← hsz]; exact hg⟩, hS.F ht⟩) hS.2.2 hdg B.notSynchronized)
theorem en_cz {post : Int32 → Nat × S → Prop} {mc ms : Nat} (hcls : y.cls = RL) (hy : plainName y.cls = true) (hav : (lg_sl av).length ≤ nL)
    (body : ∀ (p : Program) (e : Env) (s : State) (m : MethodId) (args : Array Value) (below : List Frame) (meth : Method) (c : Code) (Q : State → Prop) (A : Nat → Prop) (H : Heap) (locs : List Loc) (ls : Array Slot), FX p s m args c RL cc nL D q → SX s → SZ A s s.heap → va_D A ws → (∀ a, s.heap.size ≤ a → A a) → va_P D vwCl ws H → va_S A s.heap H locs → lv_has ls nL (lv_args 0 av) →
      (∀ (r : Int32) (u : Nat × S) (pc : Nat) (H : Heap) (locs : List Loc) (ls : Array Slot), decode cc pc = .ok (.ireturn, 1) → bz r → post r u → va_P D vwCl (C u.2) H → va_S A s.heap H locs → s.heap.size + u.1 ≤ H.size → W p l e rm s m args below meth c H locs mc ms Q (F0 m pc ls [.int r])) →
      W p l e rm s m args below meth c H locs 0 0 Q (F0 m 0 ls [])) :
    Met l y (Cond.code y cc nL (some .boolean) :: ALL) rm (PX D q av ws sz) (va_Qi (fun r u => post r u ∧ bz r) (fun u t => va_P D vwCl (C u.2) t.heap ∧ sz + u.1 ≤ t.heap.size) (va_A ws sz)) mc ms (va_A ws sz) := by
  refine Met.ofW (cc := cc) (maxL := nL) (ret := some .boolean) hy rfl ?_
  intro p e s m args below meth c s₁ B hml hv
  obtain ⟨rfl, hsz, hP, hK, hD, hSX, hSZ⟩ := hv
  have hat := atoms_spec (ws := Cond.code y cc nL (some .boolean) :: ALL) B.pre
  have fx : FX p s m av.toArray c RL cc nL D q := fx_of hcls B (fun h w hw => atoms_spec (ws := Cond.code y cc nL (some .boolean) :: ALL) h w (List.mem_cons_of_mem _ hw)) hml hK
  have hl := lv_entry av hav
  rw [lg_entry_eq]
  generalize (lg_sl av ++ List.replicate (nL - (lg_sl av).length) Slot.unset).toArray = ls at hl ⊢
  exact body p e s m av.toArray below meth c _ (va_A ws sz) s.heap [] ls fx hSX hSZ hD.self (fun a h => Or.inr (hsz ▸ h)) hP va_S.rf hl (fun r u pc H locs ls hdg hz hp hB hS hg => W.zret fx.1 fx.2.1 B.returns (bz_n hz) (fun t ht hW => ⟨⟨r, u, rfl, ⟨hp, hz⟩, by show va_P D vwCl (C u.2) t.heap; rw [ht]; exact hB, by show sz + u.1 ≤ t.heap.size; rw [ht, ← hsz]; exact hg⟩, hS.F ht⟩) hS.2.2 hdg B.notSynchronized)
end WRAPB
