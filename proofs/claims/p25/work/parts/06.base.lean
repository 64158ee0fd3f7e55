/-! The base: how a method of this claim is stated and walked. One list of words (ALL) for every method; a state of objects in tuples; contracts of methods that only read, of methods that write, of methods that throw. -/
section BASE
def imax (x y : Int32) : Int32 := if x < y then y else x
def imin (x y : Int32) : Int32 := if y < x then y else x
def lmin (x y : Int64) : Int64 := if y < x then y else x
def iushr (x y : Int32) : Int32 := (x.toUInt32 >>> (y.toUInt32 &&& Int32.toUInt32 31)).toInt32
theorem D_same {A : Nat → Prop} {ws ws' : va_W} (h : ws'.map Prod.fst = ws.map Prod.fst) (hD : va_D A ws) : va_D A ws' := by
  have key : ∀ (i : Nat) (p : Nat × va_E), ws'[i]? = some p → ∃ p0 : Nat × va_E, ws[i]? = some p0 ∧ p0.1 = p.1 := by
    intro i p hp
    have h1 : (ws'.map Prod.fst)[i]? = some p.1 := by rw [List.getElem?_map, hp]; rfl
    rw [h, List.getElem?_map] at h1
    cases h2 : ws[i]? with
    | none => rw [h2] at h1; cases h1
    | some p0 => rw [h2] at h1; exact ⟨p0, rfl, Option.some.inj h1⟩
  refine ⟨fun i j p q hi hj e => ?_, fun k q hk => ?_⟩
  · obtain ⟨p0, a1, a2⟩ := key i p hi
    obtain ⟨q0, b1, b2⟩ := key j q hj
    exact hD.1 i j p0 q0 a1 b1 (by rw [a2, b2, e])
  · obtain ⟨q0, b1, b2⟩ := key k q hk
    rw [← b2]
    exact hD.2 k q0 b1
theorem arr_in {n : Nat} {i : Int32} (hn : n < 2147483648) (h0 : ¬ i < 0) (h1 : ¬ Int32.ofNat n ≤ i) : vp_in i n := by
  intro h
  rcases h with h | h
  · exact h0 h
  · obtain ⟨j, hj, e⟩ := nI_of h0
    subst e
    rw [nI_clamp hj] at h
    exact h1 (nI_le h hj)
theorem i2l_ne {x : Int32} (h : ¬ x ≤ 0) : ¬ x.toInt64 = 0 := fun e => h (by
  have h1 : x.toInt64.toInt = 0 := by rw [e]; rfl
  rw [Int32.toInt_toInt64] at h1
  have h2 : x = 0 := Int32.toInt_inj.mp h1
  rw [h2]; decide)
/-- the array classes: ints, booleans, longs, doubles -/
abbrev TY (q : Nat → ClassId) : List (ClassId × FieldType) := [(q 0, .int)]
def nwp : Cond → Bool
  | .fieldLinkNest .. => true
  | .methodLinkNest .. => true
  | _ => false
theorem nw_warm {w : Cond} (hp : nwp w = true) {s U : State} (hW : s.WarmedH U.vm) (h : va_Nw w s) : va_Nw w U := by
  cases w <;> first | exact va_Nw.warmF hW h | exact va_Nw.warmM hW h | exact absurd hp (by simp [nwp])
theorem nw_tab {w : Cond} (hp : nwp w = true) : w.onTables = true := by
  cases w <;> first | rfl | exact absurd hp (by simp [nwp])
theorem NW_p : ∀ w ∈ NW, nwp w = true := by decide +kernel
def KK (D : va_G) (q : Nat → ClassId) (U : State) : Prop := va_K D vwCl (TY q) U ∧ ∀ w ∈ NW, va_Nw w U
theorem KK.warm {D : va_G} {q : Nat → ClassId} {s U : State} (hW : s.WarmedH U.vm) (k : KK D q s) : KK D q U :=
  ⟨va_K.moved hW.alike k.1, fun w h => nw_warm (NW_p w h) hW (k.2 w h)⟩
theorem KK.same {D : va_G} {q : Nat → ClassId} {u U : State} (h : u.vm = U.vm) (k : KK D q u) : KK D q U :=
  ⟨va_K.moved (by rw [h]; exact Vm.Alike.refl _) k.1, fun w hw => va_Nw.same (nw_tab (NW_p w hw)) h (k.2 w hw)⟩
/-- a method's start: its arguments, the heap's size, its world, the tables -/
def PC (D : va_G) (q : Nat → ClassId) (av : List Value) (ws : va_W) (sz : Nat) : Array Value → State → Prop :=
  va_Pc av (fun U => U.heap.size = sz ∧ va_P D vwCl ws U.heap ∧ KK D q U ∧ va_D (fun _ => True) ws)
theorem PC_blind {D : va_G} {q : Nat → ClassId} {av : List Value} {ws : va_W} {sz : Nat} : FrameBlind (PC D q av ws sz) := fun a U g mk h => by
  obtain ⟨e, h1, h2, h3, h4⟩ := h
  exact ⟨e, h1, h2, KK.same (u := U) (U := U.calling g mk a) rfl h3, h4⟩
/-- what every row of a walk needs: the machine, the code, its locals, its class, the words, the tables -/
def FX (p : Program) (s : State) (m : MethodId) (args : Array Value) (c : Code) (own : String) (cc : ByteArray) (nL : Nat) (D : va_G) (q : Nat → ClassId) : Prop :=
  p.tables.exec = Jvm.exec ∧ c.code = cc ∧ c.maxLocals = nL ∧ s.vm.findClass own = some m.cls ∧ (∀ w ∈ ALL, w.before args s = true) ∧ KK D q s
/-- a value of a boolean -/
def bz (x : Int32) : Prop := x = 0 ∨ x = 1
theorem bz0 : bz 0 := Or.inl rfl
theorem bz1 : bz 1 := Or.inr rfl
theorem bz_n {x : Int32} (h : bz x) : narrow .boolean (.int x) = .int x := by rcases h with rfl | rfl <;> rfl
theorem bz_f {x : Int32} (h : bz x) : fits .boolean (.int x) = true := by rcases h with rfl | rfl <;> rfl
theorem bz_ite {c : Prop} [Decidable c] {a b : Int32} (ha : bz a) (hb : bz b) : bz (if c then a else b) := by split <;> assumption
variable {p : Program} {l : Launch} {e : Env} {R : Room} {s : State} {m : MethodId} {args : Array Value} {below : List Frame} {meth : Method} {c : Code} {H : Heap} {locs : List Loc} {cells slots : Nat} {Q : State → Prop}
variable {D : va_G} {q : Nat → ClassId} {ws : va_W} {A : Nat → Prop} {H0 : Heap} {own : String} {cc : ByteArray} {nL : Nat} {pc : Nat} {ls : Array Slot} {rest st : List Value}
theorem all_pay {y : Cond} (hy : y ∈ ALL) (hts : ∀ w ∈ ALL, w.before args s = true) : ∀ w ∈ y :: ALL, ∀ (a' : Array Value) (U : State), s.WarmedH U.vm → w.before a' U = true := fun w hw a' U hW => by
  have hm : w ∈ ALL := by
    rcases List.mem_cons.mp hw with h | h
    · rw [h]; exact hy
    · exact h
  exact word_at hW (good_of_word (ALL_w hm)) (hts w hm)
def LKC (y : MethodName) (bytes : ByteArray) (maxL : Nat) (ret : Option FieldType) (n : Nat) : Prop :=
  Cond.initialized y.cls ∈ ALL ∧ Cond.code y bytes maxL ret ∈ ALL ∧ y.cls ≠ "java/lang/invoke/MethodHandle" ∧ y.cls ≠ "java/lang/invoke/VarHandle" ∧ (parseMethodDescriptor y.desc).map (fun d => d.parameters.length) = some n
def LKV (own : String) (idx : Nat) (C : String) (y : MethodName) (bytes : ByteArray) (maxL : Nat) (ret : Option FieldType) (n : Nat) : Prop :=
  Cond.methodLink own idx y ∈ ALL ∧ Cond.instanceMethod y ∈ ALL ∧ Cond.selects C y y ∈ ALL ∧ LKC y bytes maxL ret n
def LKVN (own : String) (idx : Nat) (C : String) (y : MethodName) (bytes : ByteArray) (maxL : Nat) (ret : Option FieldType) (n : Nat) : Prop :=
  Cond.methodLinkNest own idx y "Kickroom" ∈ NW ∧ Cond.instanceMethod y ∈ ALL ∧ Cond.selects C y y ∈ ALL ∧ LKC y bytes maxL ret n
def LKS (own : String) (idx : Nat) (y : MethodName) (bytes : ByteArray) (maxL : Nat) (ret : Option FieldType) (n : Nat) : Prop :=
  Cond.methodLink own idx y ∈ ALL ∧ Cond.static y ∈ ALL ∧ LKC y bytes maxL ret n
def LKSN (own : String) (idx : Nat) (y : MethodName) (bytes : ByteArray) (maxL : Nat) (ret : Option FieldType) (n : Nat) : Prop :=
  Cond.methodLinkNest own idx y "Kickroom" ∈ NW ∧ Cond.static y ∈ ALL ∧ LKC y bytes maxL ret n
def LKI (own : String) (idx : Nat) (y : MethodName) (bytes : ByteArray) (maxL : Nat) (n : Nat) : Prop :=
  Cond.methodLink own idx y ∈ ALL ∧ y.name = "<init>" ∧ Cond.instanceMethod y ∈ ALL ∧ LKC y bytes maxL none n
def LKIN (own : String) (idx : Nat) (y : MethodName) (bytes : ByteArray) (maxL : Nat) (n : Nat) : Prop :=
  Cond.methodLinkNest own idx y "Kickroom" ∈ NW ∧ y.name = "<init>" ∧ Cond.instanceMethod y ∈ ALL ∧ LKC y bytes maxL none n
theorem cb_of {idx : Nat} {y : MethodName} {bytes : ByteArray} {maxL n mc ms : Nat} {ret : Option FieldType} {rm : Room} (fx : FX p s m args c own cc nL D q) (hl : Cond.methodLink own idx y ∈ ALL) (lk : LKC y bytes maxL ret n)
    (hrm : rm.cells = mc ∧ rm.slots = ms) (hroom : rm.frames + 1 ≤ R.frames ∧ 8 + (maxL + 11) + rm.locals ≤ R.locals) : CallB R s args own idx y bytes maxL ret (Cond.code y bytes maxL ret :: ALL) rm mc ms n := by
  obtain ⟨-, -, -, -, hts, -⟩ := fx
  obtain ⟨h1, h2, h3, h4, h5⟩ := lk
  refine ⟨hrm.1, hrm.2, hroom.1, hroom.2, all_pay h2 hts, List.mem_cons_self, hts _ h2, hts _ h1, ⟨h3, h4⟩, fun sig hs => ?_, hts _ hl⟩
  rw [hs] at h5
  exact (Option.some.inj h5).symm
theorem cn_of {idx : Nat} {y : MethodName} {bytes : ByteArray} {maxL n mc ms : Nat} {ret : Option FieldType} {rm : Room} (fx : FX p s m args c own cc nL D q) (hl : Cond.methodLinkNest own idx y "Kickroom" ∈ NW) (lk : LKC y bytes maxL ret n)
    (hrm : rm.cells = mc ∧ rm.slots = ms) (hroom : rm.frames + 1 ≤ R.frames ∧ 8 + (maxL + 11) + rm.locals ≤ R.locals) : va_CN R s args own idx y "Kickroom" bytes maxL ret (Cond.code y bytes maxL ret :: ALL) rm mc ms n := by
  obtain ⟨-, -, -, -, hts, hK⟩ := fx
  obtain ⟨h1, h2, h3, h4, h5⟩ := lk
  refine ⟨⟨hrm.1, hrm.2, hroom.1, hroom.2, all_pay h2 hts, List.mem_cons_self⟩, hts _ h2, hts _ h1, ⟨h3, h4⟩, fun sig hs => ?_, va_Nw.use rfl (hK.2 _ hl)⟩
  rw [hs] at h5
  exact (Option.some.inj h5).symm
theorem fx_fix (fx : FX p s m args c own cc nL D q) : CallFix p m c cc nL s args ALL own := ⟨fx.1, fx.2.1, fx.2.2.1, fx.2.2.2.1, fx.2.2.2.2.1⟩
/-- the callee's start out of the caller's world -/
theorem preS {av : List Value} {wc : va_W} (fx : FX p s m args c own cc nL D q) (hP : va_P D vwCl ws H) (hD : va_D A ws) (pl : List Nat) (hpl : pl.map (fun i => ws[i]?) = wc.map some) (hnd : va_nd pl = true) : PreS s H (PC D q av wc H.size) av := by
  obtain ⟨-, -, -, -, -, hK⟩ := fx
  have hfm : pl.filterMap (fun i => ws[i]?) = wc := by
    have h1 : (pl.map (fun i => ws[i]?)).filterMap id = (wc.map some).filterMap id := by rw [hpl]
    simpa [List.filterMap_map, Function.comp_def] using h1
  have hPc : va_P D vwCl wc H := hP.sub pl hfm
  have hDc : va_D A wc := hD.sub pl hnd hpl
  exact ⟨PC_blind, fun U hU hW => ⟨rfl, by rw [hU], by rw [hU]; exact hPc, hK.warm hW, hDc.weaken (fun _ _ _ _ => trivial)⟩⟩
theorem preV {C : String} {T : u_T} {N ci b : Nat} {fs : List Value} {As : List Value} {wc : va_W} (fx : FX p s m args c own cc nL D q) (hP : va_P D vwCl ws H) (hD : va_D A ws) (pl : List Nat) (hpl : pl.map (fun i => ws[i]?) = wc.map some) (hnd : va_nd pl = true)
    (hc : vwCl[ci]? = some (C, T, N)) (he : wc[0]? = some (b, .inr (ci, fs))) : PreV s H C b (PC D q (.ref b :: As) wc H.size) As := by
  have h1 := preS (av := .ref b :: As) fx hP hD pl hpl hnd
  have hfm : pl.filterMap (fun i => ws[i]?) = wc := by
    have h1 : (pl.map (fun i => ws[i]?)).filterMap id = (wc.map some).filterMap id := by rw [hpl]
    simpa [List.filterMap_map, Function.comp_def] using h1
  exact ⟨h1.1, va_recv fx.2.2.2.2.2.1 (hP.sub pl hfm) hc he, h1.2⟩
section RUNS
variable {y : MethodName} {bytes : ByteArray} {maxL n idx mc ms : Nat} {ret : Option FieldType} {rm : Room} {Qc : Array Value → State → Outcome → State → Prop} {XC : String → State → State → Prop} {free : Addr → Prop} {b : Nat} {As : List Value} {wc : va_W} {C : String} {T : u_T} {N ci : Nat} {fs : List Value}
theorem runV (fx : FX p s m args c own cc nL D q) (hM : Met l y (Cond.code y bytes maxL ret :: ALL) rm (PC D q (.ref b :: As) wc H.size) Qc mc ms free) (lk : LKV own idx C y bytes maxL ret n) (hroom : rm.frames + 1 ≤ R.frames ∧ 8 + (maxL + 11) + rm.locals ≤ R.locals) (hrm : rm.cells = mc ∧ rm.slots = ms)
    (hP : va_P D vwCl ws H) (hD : va_D A ws) (pl : List Nat) (hpl : pl.map (fun i => ws[i]?) = wc.map some) (hnd : va_nd pl = true) (hc : vwCl[ci]? = some (C, T, N)) (he : wc[0]? = some (b, .inr (ci, fs)))
    (hn : As.length = n) (hl : ls.size = nL) (hst : st = As.reverse ++ .ref b :: rest) (hW : (rest.map fun v => v.category).sum ≤ 8) (hdg : decode cc pc = .ok (.invokevirtual idx, 3)) (hf : cells + mc ≤ R.cells ∧ slots + ms ≤ R.slots) :
    va_Run p l e R s m args below meth c H locs cells slots mc ms (F0 m pc ls st) rest (Qc (Value.ref b :: As).toArray) free :=
  va_runV (fx_fix fx) hM ⟨cb_of fx lk.1 lk.2.2.2 hrm hroom, fx.2.2.2.2.1 _ lk.2.1, fx.2.2.2.2.1 _ lk.2.2.1⟩ (preV fx hP hD pl hpl hnd hc he) rfl hn hl hst (lv_room hW) hdg hf
theorem runVN (fx : FX p s m args c own cc nL D q) (hM : Met l y (Cond.code y bytes maxL ret :: ALL) rm (PC D q (.ref b :: As) wc H.size) Qc mc ms free) (lk : LKVN own idx C y bytes maxL ret n) (hroom : rm.frames + 1 ≤ R.frames ∧ 8 + (maxL + 11) + rm.locals ≤ R.locals) (hrm : rm.cells = mc ∧ rm.slots = ms)
    (hP : va_P D vwCl ws H) (hD : va_D A ws) (pl : List Nat) (hpl : pl.map (fun i => ws[i]?) = wc.map some) (hnd : va_nd pl = true) (hc : vwCl[ci]? = some (C, T, N)) (he : wc[0]? = some (b, .inr (ci, fs)))
    (hn : As.length = n) (hl : ls.size = nL) (hst : st = As.reverse ++ .ref b :: rest) (hW : (rest.map fun v => v.category).sum ≤ 8) (hdg : decode cc pc = .ok (.invokevirtual idx, 3)) (hf : cells + mc ≤ R.cells ∧ slots + ms ≤ R.slots) :
    va_Run p l e R s m args below meth c H locs cells slots mc ms (F0 m pc ls st) rest (Qc (Value.ref b :: As).toArray) free :=
  va_runVN (fx_fix fx) hM ⟨cn_of fx lk.1 lk.2.2.2 hrm hroom, fx.2.2.2.2.1 _ lk.2.1, fx.2.2.2.2.1 _ lk.2.2.1⟩ (preV fx hP hD pl hpl hnd hc he) rfl hn hl hst (lv_room hW) hdg hf
theorem runS (fx : FX p s m args c own cc nL D q) (hM : Met l y (Cond.code y bytes maxL ret :: ALL) rm (PC D q As wc H.size) Qc mc ms free) (lk : LKS own idx y bytes maxL ret n) (hroom : rm.frames + 1 ≤ R.frames ∧ 8 + (maxL + 11) + rm.locals ≤ R.locals) (hrm : rm.cells = mc ∧ rm.slots = ms)
    (hP : va_P D vwCl ws H) (hD : va_D A ws) (pl : List Nat) (hpl : pl.map (fun i => ws[i]?) = wc.map some) (hnd : va_nd pl = true)
    (hn : As.length = n) (hl : ls.size = nL) (hst : st = As.reverse ++ rest) (hW : (rest.map fun v => v.category).sum ≤ 8) (hdg : decode cc pc = .ok (.invokestatic idx, 3)) (hf : cells + mc ≤ R.cells ∧ slots + ms ≤ R.slots) :
    va_Run p l e R s m args below meth c H locs cells slots mc ms (F0 m pc ls st) rest (Qc As.toArray) free :=
  va_runS (fx_fix fx) hM ⟨cb_of fx lk.1 lk.2.2 hrm hroom, fx.2.2.2.2.1 _ lk.2.1⟩ (preS fx hP hD pl hpl hnd) rfl hn hl hst (lv_room hW) hdg hf
theorem runSN (fx : FX p s m args c own cc nL D q) (hM : Met l y (Cond.code y bytes maxL ret :: ALL) rm (PC D q As wc H.size) Qc mc ms free) (lk : LKSN own idx y bytes maxL ret n) (hroom : rm.frames + 1 ≤ R.frames ∧ 8 + (maxL + 11) + rm.locals ≤ R.locals) (hrm : rm.cells = mc ∧ rm.slots = ms)
    (hP : va_P D vwCl ws H) (hD : va_D A ws) (pl : List Nat) (hpl : pl.map (fun i => ws[i]?) = wc.map some) (hnd : va_nd pl = true)
    (hn : As.length = n) (hl : ls.size = nL) (hst : st = As.reverse ++ rest) (hW : (rest.map fun v => v.category).sum ≤ 8) (hdg : decode cc pc = .ok (.invokestatic idx, 3)) (hf : cells + mc ≤ R.cells ∧ slots + ms ≤ R.slots) :
    va_Run p l e R s m args below meth c H locs cells slots mc ms (F0 m pc ls st) rest (Qc As.toArray) free :=
  va_runSN (fx_fix fx) hM ⟨cn_of fx lk.1 lk.2.2 hrm hroom, fx.2.2.2.2.1 _ lk.2.1, trivial⟩ (preS fx hP hD pl hpl hnd) rfl hn hl hst (lv_room hW) hdg hf
theorem runI (fx : FX p s m args c own cc nL D q) (hM : Met l y (Cond.code y bytes maxL none :: ALL) rm (PC D q (.ref b :: As) wc H.size) Qc mc ms free) (lk : LKI own idx y bytes maxL n) (hroom : rm.frames + 1 ≤ R.frames ∧ 8 + (maxL + 11) + rm.locals ≤ R.locals) (hrm : rm.cells = mc ∧ rm.slots = ms)
    (hP : va_P D vwCl ws H) (hD : va_D A ws) (pl : List Nat) (hpl : pl.map (fun i => ws[i]?) = wc.map some) (hnd : va_nd pl = true)
    (hn : As.length = n) (hl : ls.size = nL) (hst : st = As.reverse ++ .ref b :: rest) (hW : (rest.map fun v => v.category).sum ≤ 8) (hdg : decode cc pc = .ok (.invokespecial idx, 3)) (hf : cells + mc ≤ R.cells ∧ slots + ms ≤ R.slots) :
    va_Run p l e R s m args below meth c H locs cells slots mc ms (F0 m pc ls st) rest (Qc (Value.ref b :: As).toArray) free :=
  va_runI (fx_fix fx) hM ⟨cb_of fx lk.1 lk.2.2.2 hrm hroom, lk.2.1, fx.2.2.2.2.1 _ lk.2.2.1⟩ (preS fx hP hD pl hpl hnd) rfl hn hl hst (lv_room hW) hdg hf
theorem runIN (fx : FX p s m args c own cc nL D q) (hM : Met l y (Cond.code y bytes maxL none :: ALL) rm (PC D q (.ref b :: As) wc H.size) Qc mc ms free) (lk : LKIN own idx y bytes maxL n) (hroom : rm.frames + 1 ≤ R.frames ∧ 8 + (maxL + 11) + rm.locals ≤ R.locals) (hrm : rm.cells = mc ∧ rm.slots = ms)
    (hP : va_P D vwCl ws H) (hD : va_D A ws) (pl : List Nat) (hpl : pl.map (fun i => ws[i]?) = wc.map some) (hnd : va_nd pl = true)
    (hn : As.length = n) (hl : ls.size = nL) (hst : st = As.reverse ++ .ref b :: rest) (hW : (rest.map fun v => v.category).sum ≤ 8) (hdg : decode cc pc = .ok (.invokespecial idx, 3)) (hf : cells + mc ≤ R.cells ∧ slots + ms ≤ R.slots) :
    va_Run p l e R s m args below meth c H locs cells slots mc ms (F0 m pc ls st) rest (Qc (Value.ref b :: As).toArray) free :=
  va_runIN (fx_fix fx) hM ⟨cn_of fx lk.1 lk.2.2.2 hrm hroom, lk.2.1, fx.2.2.2.2.1 _ lk.2.2.1⟩ (preS fx hP hD pl hpl hnd) rfl hn hl hst (lv_room hW) hdg hf
theorem xrunV (fx : FX p s m args c own cc nL D q) (hM : vx_Met l y (Cond.code y bytes maxL ret :: ALL) rm (PC D q (.ref b :: As) wc H.size) Qc XC mc ms free) (lk : LKV own idx C y bytes maxL ret n) (hroom : rm.frames + 1 ≤ R.frames ∧ 8 + (maxL + 11) + rm.locals ≤ R.locals) (hrm : rm.cells = mc ∧ rm.slots = ms)
    (hP : va_P D vwCl ws H) (hD : va_D A ws) (pl : List Nat) (hpl : pl.map (fun i => ws[i]?) = wc.map some) (hnd : va_nd pl = true) (hc : vwCl[ci]? = some (C, T, N)) (he : wc[0]? = some (b, .inr (ci, fs)))
    (hn : As.length = n) (hl : ls.size = nL) (hst : st = As.reverse ++ .ref b :: rest) (hW : (rest.map fun v => v.category).sum ≤ 8) (hdg : decode cc pc = .ok (.invokevirtual idx, 3)) (hf : cells + mc ≤ R.cells ∧ slots + ms ≤ R.slots) :
    vx_Run p l e R s m args below meth c H locs cells slots mc ms (F0 m pc ls st) rest (Qc (Value.ref b :: As).toArray) XC free :=
  vx_runV (fx_fix fx) hM ⟨cb_of fx lk.1 lk.2.2.2 hrm hroom, fx.2.2.2.2.1 _ lk.2.1, fx.2.2.2.2.1 _ lk.2.2.1⟩ (preV fx hP hD pl hpl hnd hc he) rfl hn hl hst (lv_room hW) hdg hf
end RUNS
/-- the callee's cells put back among the caller's -/
def setAll : va_W → List Nat → va_W → va_W
  | ws, i :: pl, x :: xs => setAll (ws.set i x) pl xs
  | ws, _, _ => ws
theorem setAll_get : ∀ (pl : List Nat) (ws xs : va_W) (k : Nat) (x : Nat × va_E), pl.length = xs.length → (setAll ws pl xs)[k]? = some x → (∃ j : Nat, pl[j]? = some k ∧ xs[j]? = some x) ∨ (k ∉ pl ∧ ws[k]? = some x)
  | [], ws, xs, k, x, _, h => Or.inr ⟨List.not_mem_nil, by cases xs <;> exact h⟩
  | i :: pl, ws, [], k, x, hl, _ => by simp at hl
  | i :: pl, ws, x0 :: xs, k, x, hl, h => by
    have hl' : pl.length = xs.length := by simpa using hl
    rcases setAll_get pl (ws.set i x0) xs k x hl' h with ⟨j, h1, h2⟩ | ⟨h1, h2⟩
    · exact Or.inl ⟨j + 1, by simpa using h1, by simpa using h2⟩
    · by_cases hk : i = k
      · subst hk
        rw [List.getElem?_set] at h2
        simp only [if_true] at h2
        split at h2
        · exact Or.inl ⟨0, rfl, h2⟩
        · cases h2
      · rw [List.getElem?_set] at h2
        rw [if_neg hk] at h2
        exact Or.inr ⟨fun hm => by rcases List.mem_cons.mp hm with e | e; exact hk e.symm; exact h1 e, h2⟩
theorem P_join {wc xs : va_W} {H1 : Heap} (hP : va_P D vwCl ws H) (hD : va_D A ws) (pl : List Nat) (hpl : pl.map (fun i => ws[i]?) = wc.map some) (hlen : xs.length = wc.length)
    (hk : ∀ q : Nat, q < H.size → ¬ va_A wc H.size q → H1[q]? = H[q]?) (hP1 : va_P D vwCl xs H1) : va_P D vwCl (setAll ws pl xs) H1 := by
  intro k x hx
  have hl : pl.length = xs.length := by
    have h1 := congrArg List.length hpl
    simp at h1
    omega
  rcases setAll_get pl ws xs k x hl hx with ⟨j, -, h2⟩ | ⟨h1, h2⟩
  · exact hP1 j x h2
  · have hlt := (hP k x h2).lt
    refine (hP k x h2).kept (hk x.1 hlt ?_)
    rintro (⟨j, e9, h3⟩ | h3)
    · have h4 : (pl.map (fun i => ws[i]?))[j]? = some (some (x.1, e9)) := by rw [hpl, List.getElem?_map, h3]; rfl
      rw [List.getElem?_map] at h4
      cases h5 : pl[j]? with
      | none => rw [h5] at h4; cases h4
      | some i =>
        rw [h5] at h4
        have h6 : ws[i]? = some (x.1, e9) := Option.some.inj h4
        have h7 := hD.1 i k _ _ h6 h2 rfl
        exact h1 (h7 ▸ List.mem_of_getElem? h5)
    · omega
section ROWS
variable {a : Array Value} {S : Type} {wc : va_W} {C : S → va_W}
theorem kR_i {post : Int32 → S → Prop} (hr : va_Run p l e R s m args below meth c H locs cells slots 0 0 (F0 m pc ls st) rest (va_Qi post (fun _ _ => True) (fun _ => False) a) (fun _ => False)) (hP : va_P D vwCl ws H) (hS : va_S A H0 H locs)
    (kk : ∀ (r : Int32) (u : S) (H1 : Heap) (locs1 : List Loc), post r u → va_P D vwCl ws H1 → va_S A H0 H1 locs1 → W p l e R s m args below meth c H1 locs1 cells slots Q (F0 m (pc + 3) ls (.int r :: rest))) : W p l e R s m args below meth c H locs cells slots Q (F0 m pc ls st) :=
  va_calli hr hS (fun _ _ h => h.elim) (fun _ h => h.elim) (fun r u _ H1 locs1 _ _ hp _ _ hk hS1 => kk r u H1 locs1 hp (hP.kept (fun k x hx => hk x.1 ((hP k x hx).lt) (fun h => h))) hS1)
theorem kR_l {post : Int64 → S → Prop} (hr : va_Run p l e R s m args below meth c H locs cells slots 0 0 (F0 m pc ls st) rest (va_Ql post (fun _ _ => True) (fun _ => False) a) (fun _ => False)) (hP : va_P D vwCl ws H) (hS : va_S A H0 H locs)
    (kk : ∀ (r : Int64) (u : S) (H1 : Heap) (locs1 : List Loc), post r u → va_P D vwCl ws H1 → va_S A H0 H1 locs1 → W p l e R s m args below meth c H1 locs1 cells slots Q (F0 m (pc + 3) ls (.long r :: rest))) : W p l e R s m args below meth c H locs cells slots Q (F0 m pc ls st) :=
  va_calll hr hS (fun _ _ h => h.elim) (fun _ h => h.elim) (fun r u _ H1 locs1 _ _ hp _ _ hk hS1 => kk r u H1 locs1 hp (hP.kept (fun k x hx => hk x.1 ((hP k x hx).lt) (fun h => h))) hS1)
theorem kR_f {post : UInt32 → S → Prop} (hr : va_Run p l e R s m args below meth c H locs cells slots 0 0 (F0 m pc ls st) rest (va_Qf post (fun _ _ => True) (fun _ => False) a) (fun _ => False)) (hP : va_P D vwCl ws H) (hS : va_S A H0 H locs)
    (kk : ∀ (r : UInt32) (u : S) (H1 : Heap) (locs1 : List Loc), post r u → va_P D vwCl ws H1 → va_S A H0 H1 locs1 → W p l e R s m args below meth c H1 locs1 cells slots Q (F0 m (pc + 3) ls (.float r :: rest))) : W p l e R s m args below meth c H locs cells slots Q (F0 m pc ls st) :=
  va_callf hr hS (fun _ _ h => h.elim) (fun _ h => h.elim) (fun r u _ H1 locs1 _ _ hp _ _ hk hS1 => kk r u H1 locs1 hp (hP.kept (fun k x hx => hk x.1 ((hP k x hx).lt) (fun h => h))) hS1)
theorem kW_i {post : Int32 → S → Prop} (hr : va_Run p l e R s m args below meth c H locs cells slots 0 0 (F0 m pc ls st) rest (va_Qi post (fun u t => va_P D vwCl (C u) t.heap) (va_A wc H.size) a) (va_A wc H.size)) (hP : va_P D vwCl ws H) (hD : va_D A ws) (hS : va_S A H0 H locs) (hA : ∀ q, H0.size ≤ q → A q) (pl : List Nat) (hpl : pl.map (fun i => ws[i]?) = wc.map some) (hlen : ∀ u, (C u).length = wc.length)
    (kk : ∀ (r : Int32) (u : S) (H1 : Heap) (locs1 : List Loc), post r u → va_P D vwCl (setAll ws pl (C u)) H1 → va_S A H0 H1 locs1 → W p l e R s m args below meth c H1 locs1 cells slots Q (F0 m (pc + 3) ls (.int r :: rest))) : W p l e R s m args below meth c H locs cells slots Q (F0 m pc ls st) :=
  va_calli hr hS (fun q9 _ h => va_free hD hS hA pl hpl q9 h) (va_free hD hS hA pl hpl) (fun r u t H1 locs1 ht _ hp hB _ hk hS1 => kk r u H1 locs1 hp (P_join hP hD pl hpl (hlen u) hk (by rw [← ht]; exact hB)) hS1)
theorem kW_v {post : S → Prop} (hr : va_Run p l e R s m args below meth c H locs cells slots 0 0 (F0 m pc ls st) rest (va_Qv post (fun u t => va_P D vwCl (C u) t.heap) (va_A wc H.size) a) (va_A wc H.size)) (hP : va_P D vwCl ws H) (hD : va_D A ws) (hS : va_S A H0 H locs) (hA : ∀ q, H0.size ≤ q → A q) (pl : List Nat) (hpl : pl.map (fun i => ws[i]?) = wc.map some) (hlen : ∀ u, (C u).length = wc.length)
    (kk : ∀ (u : S) (H1 : Heap) (locs1 : List Loc), post u → va_P D vwCl (setAll ws pl (C u)) H1 → va_S A H0 H1 locs1 → W p l e R s m args below meth c H1 locs1 cells slots Q (F0 m (pc + 3) ls rest)) : W p l e R s m args below meth c H locs cells slots Q (F0 m pc ls st) :=
  va_callv hr hS (fun q9 _ h => va_free hD hS hA pl hpl q9 h) (va_free hD hS hA pl hpl) (fun u t H1 locs1 ht _ hp hB _ hk hS1 => kk u H1 locs1 hp (P_join hP hD pl hpl (hlen u) hk (by rw [← ht]; exact hB)) hS1)
end ROWS
section ENTER
variable {y : MethodName} {rm : Room} {av : List Value} {sz : Nat} {S : Type} {C : S → va_W}
/-- what a walk begins with -/
theorem fx_of {ret : Option FieldType} {S0 : Spec} {s₁ : State} (hy : y.cls = own) (B : BodyLoose p l y S0 cc nL ret e s m args below meth c s₁) (hS0 : S0.pre.before args s = true → ∀ w ∈ ALL, w.before args s = true) (hml : c.maxLocals = nL) (hK : KK D q s) : FX p s m args c own cc nL D q :=
  ⟨B.exec, B.bytes, hml, by rw [← hy]; exact findClass_of_methodNamed B.named, hS0 B.pre, hK⟩
theorem en_iR {post : Int32 → Prop} (hy : plainName y.cls = true) (hav : (lg_sl av).length ≤ nL)
    (body : ∀ (p : Program) (e : Env) (s : State) (m : MethodId) (args : Array Value) (below : List Frame) (meth : Method) (c : Code) (Q : State → Prop) (A : Nat → Prop) (H : Heap) (locs : List Loc) (ls : Array Slot), FX p s m args c y.cls cc nL D q → va_D (fun _ => True) ws →  va_P D vwCl ws H → va_S A s.heap H locs → lv_has ls nL (lv_args 0 av) →
      (∀ (r : Int32) (pc : Nat) (H : Heap) (locs : List Loc) (ls : Array Slot), decode cc pc = .ok (.ireturn, 1) → post r → va_S A s.heap H locs → W p l e rm s m args below meth c H locs 0 0 Q (F0 m pc ls [.int r])) →
      W p l e rm s m args below meth c H locs 0 0 Q (F0 m 0 ls [])) :
    Met l y (Cond.code y cc nL (some .int) :: ALL) rm (PC D q av ws sz) (va_Qi (fun r (_ : Unit) => post r) (fun _ _ => True) (fun _ => False)) 0 0 (fun _ => False) := by
  refine Met.ofW (cc := cc) (maxL := nL) (ret := some .int) hy rfl ?_
  intro p e s m args below meth c s₁ B hml hv
  obtain ⟨rfl, hsz, hP, hK, hD⟩ := hv
  have fx : FX p s m av.toArray c y.cls cc nL D q := fx_of rfl B (fun h w hw => atoms_spec (ws := Cond.code y cc nL (some .int) :: ALL) h w (List.mem_cons_of_mem _ hw)) hml hK
  have hl := lv_entry av hav
  rw [lg_entry_eq]
  generalize (lg_sl av ++ List.replicate (nL - (lg_sl av).length) Slot.unset).toArray = ls at hl ⊢
  exact body p e s m av.toArray below meth c _ (fun _ => False) s.heap [] ls fx hD hP va_S.rf hl (fun r pc H locs ls hdg hp hS => W.iret fx.1 fx.2.1 B.returns (fun t ht hW => ⟨⟨r, (), rfl, hp, trivial⟩, hS.F ht⟩) hS.2.2 hdg B.notSynchronized)
theorem en_zR {post : Int32 → Prop} (hy : plainName y.cls = true) (hav : (lg_sl av).length ≤ nL)
    (body : ∀ (p : Program) (e : Env) (s : State) (m : MethodId) (args : Array Value) (below : List Frame) (meth : Method) (c : Code) (Q : State → Prop) (A : Nat → Prop) (H : Heap) (locs : List Loc) (ls : Array Slot), FX p s m args c y.cls cc nL D q → va_D (fun _ => True) ws →  va_P D vwCl ws H → va_S A s.heap H locs → lv_has ls nL (lv_args 0 av) →
      (∀ (r : Int32) (pc : Nat) (H : Heap) (locs : List Loc) (ls : Array Slot), decode cc pc = .ok (.ireturn, 1) → bz r → post r → va_S A s.heap H locs → W p l e rm s m args below meth c H locs 0 0 Q (F0 m pc ls [.int r])) →
      W p l e rm s m args below meth c H locs 0 0 Q (F0 m 0 ls [])) :
    Met l y (Cond.code y cc nL (some .boolean) :: ALL) rm (PC D q av ws sz) (va_Qi (fun r (_ : Unit) => post r ∧ bz r) (fun _ _ => True) (fun _ => False)) 0 0 (fun _ => False) := by
  refine Met.ofW (cc := cc) (maxL := nL) (ret := some .boolean) hy rfl ?_
  intro p e s m args below meth c s₁ B hml hv
  obtain ⟨rfl, hsz, hP, hK, hD⟩ := hv
  have fx : FX p s m av.toArray c y.cls cc nL D q := fx_of rfl B (fun h w hw => atoms_spec (ws := Cond.code y cc nL (some .boolean) :: ALL) h w (List.mem_cons_of_mem _ hw)) hml hK
  have hl := lv_entry av hav
  rw [lg_entry_eq]
  generalize (lg_sl av ++ List.replicate (nL - (lg_sl av).length) Slot.unset).toArray = ls at hl ⊢
  exact body p e s m av.toArray below meth c _ (fun _ => False) s.heap [] ls fx hD hP va_S.rf hl (fun r pc H locs ls hdg hz hp hS => W.zret fx.1 fx.2.1 B.returns (bz_n hz) (fun t ht hW => ⟨⟨r, (), rfl, ⟨hp, hz⟩, trivial⟩, hS.F ht⟩) hS.2.2 hdg B.notSynchronized)
theorem en_lR {post : Int64 → Prop} (hy : plainName y.cls = true) (hav : (lg_sl av).length ≤ nL)
    (body : ∀ (p : Program) (e : Env) (s : State) (m : MethodId) (args : Array Value) (below : List Frame) (meth : Method) (c : Code) (Q : State → Prop) (A : Nat → Prop) (H : Heap) (locs : List Loc) (ls : Array Slot), FX p s m args c y.cls cc nL D q → va_D (fun _ => True) ws →  va_P D vwCl ws H → va_S A s.heap H locs → lv_has ls nL (lv_args 0 av) →
      (∀ (r : Int64) (pc : Nat) (H : Heap) (locs : List Loc) (ls : Array Slot), decode cc pc = .ok (.lreturn, 1) → post r → va_S A s.heap H locs → W p l e rm s m args below meth c H locs 0 0 Q (F0 m pc ls [.long r])) →
      W p l e rm s m args below meth c H locs 0 0 Q (F0 m 0 ls [])) :
    Met l y (Cond.code y cc nL (some .long) :: ALL) rm (PC D q av ws sz) (va_Ql (fun r (_ : Unit) => post r) (fun _ _ => True) (fun _ => False)) 0 0 (fun _ => False) := by
  refine Met.ofW (cc := cc) (maxL := nL) (ret := some .long) hy rfl ?_
  intro p e s m args below meth c s₁ B hml hv
  obtain ⟨rfl, hsz, hP, hK, hD⟩ := hv
  have fx : FX p s m av.toArray c y.cls cc nL D q := fx_of rfl B (fun h w hw => atoms_spec (ws := Cond.code y cc nL (some .long) :: ALL) h w (List.mem_cons_of_mem _ hw)) hml hK
  have hl := lv_entry av hav
  rw [lg_entry_eq]
  generalize (lg_sl av ++ List.replicate (nL - (lg_sl av).length) Slot.unset).toArray = ls at hl ⊢
  exact body p e s m av.toArray below meth c _ (fun _ => False) s.heap [] ls fx hD hP va_S.rf hl (fun r pc H locs ls hdg hp hS => W.lret fx.1 fx.2.1 B.returns (fun t ht hW => ⟨⟨r, (), rfl, hp, trivial⟩, hS.F ht⟩) hS.2.2 hdg B.notSynchronized)
theorem en_fR {post : UInt32 → Prop} (hy : plainName y.cls = true) (hav : (lg_sl av).length ≤ nL)
    (body : ∀ (p : Program) (e : Env) (s : State) (m : MethodId) (args : Array Value) (below : List Frame) (meth : Method) (c : Code) (Q : State → Prop) (A : Nat → Prop) (H : Heap) (locs : List Loc) (ls : Array Slot), FX p s m args c y.cls cc nL D q → va_D (fun _ => True) ws →  va_P D vwCl ws H → va_S A s.heap H locs → lv_has ls nL (lv_args 0 av) →
      (∀ (r : UInt32) (pc : Nat) (H : Heap) (locs : List Loc) (ls : Array Slot), decode cc pc = .ok (.freturn, 1) → post r → va_S A s.heap H locs → W p l e rm s m args below meth c H locs 0 0 Q (F0 m pc ls [.float r])) →
      W p l e rm s m args below meth c H locs 0 0 Q (F0 m 0 ls [])) :
    Met l y (Cond.code y cc nL (some .float) :: ALL) rm (PC D q av ws sz) (va_Qf (fun r (_ : Unit) => post r) (fun _ _ => True) (fun _ => False)) 0 0 (fun _ => False) := by
  refine Met.ofW (cc := cc) (maxL := nL) (ret := some .float) hy rfl ?_
  intro p e s m args below meth c s₁ B hml hv
  obtain ⟨rfl, hsz, hP, hK, hD⟩ := hv
  have fx : FX p s m av.toArray c y.cls cc nL D q := fx_of rfl B (fun h w hw => atoms_spec (ws := Cond.code y cc nL (some .float) :: ALL) h w (List.mem_cons_of_mem _ hw)) hml hK
  have hl := lv_entry av hav
  rw [lg_entry_eq]
  generalize (lg_sl av ++ List.replicate (nL - (lg_sl av).length) Slot.unset).toArray = ls at hl ⊢
  exact body p e s m av.toArray below meth c _ (fun _ => False) s.heap [] ls fx hD hP va_S.rf hl (fun r pc H locs ls hdg hp hS => W.fret fx.1 fx.2.1 B.returns (fun t ht hW => ⟨⟨r, (), rfl, hp, trivial⟩, hS.F ht⟩) hS.2.2 hdg B.notSynchronized)
theorem en_iW {post : Int32 → S → Prop} (hy : plainName y.cls = true) (hav : (lg_sl av).length ≤ nL)
    (body : ∀ (p : Program) (e : Env) (s : State) (m : MethodId) (args : Array Value) (below : List Frame) (meth : Method) (c : Code) (Q : State → Prop) (A : Nat → Prop) (H : Heap) (locs : List Loc) (ls : Array Slot), FX p s m args c y.cls cc nL D q → va_D A ws → (∀ a, s.heap.size ≤ a → A a) →  va_P D vwCl ws H → va_S A s.heap H locs → lv_has ls nL (lv_args 0 av) →
      (∀ (r : Int32) (u : S) (pc : Nat) (H : Heap) (locs : List Loc) (ls : Array Slot), decode cc pc = .ok (.ireturn, 1) → post r u → va_P D vwCl (C u) H → va_S A s.heap H locs → W p l e rm s m args below meth c H locs 0 0 Q (F0 m pc ls [.int r])) →
      W p l e rm s m args below meth c H locs 0 0 Q (F0 m 0 ls [])) :
    Met l y (Cond.code y cc nL (some .int) :: ALL) rm (PC D q av ws sz) (va_Qi post (fun u t => va_P D vwCl (C u) t.heap) (va_A ws sz)) 0 0 (va_A ws sz) := by
  refine Met.ofW (cc := cc) (maxL := nL) (ret := some .int) hy rfl ?_
  intro p e s m args below meth c s₁ B hml hv
  obtain ⟨rfl, hsz, hP, hK, hD⟩ := hv
  have fx : FX p s m av.toArray c y.cls cc nL D q := fx_of rfl B (fun h w hw => atoms_spec (ws := Cond.code y cc nL (some .int) :: ALL) h w (List.mem_cons_of_mem _ hw)) hml hK
  have hl := lv_entry av hav
  rw [lg_entry_eq]
  generalize (lg_sl av ++ List.replicate (nL - (lg_sl av).length) Slot.unset).toArray = ls at hl ⊢
  exact body p e s m av.toArray below meth c _ (va_A ws sz) s.heap [] ls fx hD.self (fun a h => Or.inr (hsz ▸ h)) hP va_S.rf hl (fun r u pc H locs ls hdg hp hB hS => W.iret fx.1 fx.2.1 B.returns (fun t ht hW => ⟨⟨r, u, rfl, hp, by show va_P D vwCl (C u) t.heap; rw [ht]; exact hB⟩, hS.F ht⟩) hS.2.2 hdg B.notSynchronized)
theorem en_zW {post : Int32 → S → Prop} (hy : plainName y.cls = true) (hav : (lg_sl av).length ≤ nL)
    (body : ∀ (p : Program) (e : Env) (s : State) (m : MethodId) (args : Array Value) (below : List Frame) (meth : Method) (c : Code) (Q : State → Prop) (A : Nat → Prop) (H : Heap) (locs : List Loc) (ls : Array Slot), FX p s m args c y.cls cc nL D q → va_D A ws → (∀ a, s.heap.size ≤ a → A a) →  va_P D vwCl ws H → va_S A s.heap H locs → lv_has ls nL (lv_args 0 av) →
      (∀ (r : Int32) (u : S) (pc : Nat) (H : Heap) (locs : List Loc) (ls : Array Slot), decode cc pc = .ok (.ireturn, 1) → bz r → post r u → va_P D vwCl (C u) H → va_S A s.heap H locs → W p l e rm s m args below meth c H locs 0 0 Q (F0 m pc ls [.int r])) →
      W p l e rm s m args below meth c H locs 0 0 Q (F0 m 0 ls [])) :
    Met l y (Cond.code y cc nL (some .boolean) :: ALL) rm (PC D q av ws sz) (va_Qi (fun r u => post r u ∧ bz r) (fun u t => va_P D vwCl (C u) t.heap) (va_A ws sz)) 0 0 (va_A ws sz) := by
  refine Met.ofW (cc := cc) (maxL := nL) (ret := some .boolean) hy rfl ?_
  intro p e s m args below meth c s₁ B hml hv
  obtain ⟨rfl, hsz, hP, hK, hD⟩ := hv
  have fx : FX p s m av.toArray c y.cls cc nL D q := fx_of rfl B (fun h w hw => atoms_spec (ws := Cond.code y cc nL (some .boolean) :: ALL) h w (List.mem_cons_of_mem _ hw)) hml hK
  have hl := lv_entry av hav
  rw [lg_entry_eq]
  generalize (lg_sl av ++ List.replicate (nL - (lg_sl av).length) Slot.unset).toArray = ls at hl ⊢
  exact body p e s m av.toArray below meth c _ (va_A ws sz) s.heap [] ls fx hD.self (fun a h => Or.inr (hsz ▸ h)) hP va_S.rf hl (fun r u pc H locs ls hdg hz hp hB hS => W.zret fx.1 fx.2.1 B.returns (bz_n hz) (fun t ht hW => ⟨⟨r, u, rfl, ⟨hp, hz⟩, by show va_P D vwCl (C u) t.heap; rw [ht]; exact hB⟩, hS.F ht⟩) hS.2.2 hdg B.notSynchronized)
theorem en_lW {post : Int64 → S → Prop} (hy : plainName y.cls = true) (hav : (lg_sl av).length ≤ nL)
    (body : ∀ (p : Program) (e : Env) (s : State) (m : MethodId) (args : Array Value) (below : List Frame) (meth : Method) (c : Code) (Q : State → Prop) (A : Nat → Prop) (H : Heap) (locs : List Loc) (ls : Array Slot), FX p s m args c y.cls cc nL D q → va_D A ws → (∀ a, s.heap.size ≤ a → A a) →  va_P D vwCl ws H → va_S A s.heap H locs → lv_has ls nL (lv_args 0 av) →
      (∀ (r : Int64) (u : S) (pc : Nat) (H : Heap) (locs : List Loc) (ls : Array Slot), decode cc pc = .ok (.lreturn, 1) → post r u → va_P D vwCl (C u) H → va_S A s.heap H locs → W p l e rm s m args below meth c H locs 0 0 Q (F0 m pc ls [.long r])) →
      W p l e rm s m args below meth c H locs 0 0 Q (F0 m 0 ls [])) :
    Met l y (Cond.code y cc nL (some .long) :: ALL) rm (PC D q av ws sz) (va_Ql post (fun u t => va_P D vwCl (C u) t.heap) (va_A ws sz)) 0 0 (va_A ws sz) := by
  refine Met.ofW (cc := cc) (maxL := nL) (ret := some .long) hy rfl ?_
  intro p e s m args below meth c s₁ B hml hv
  obtain ⟨rfl, hsz, hP, hK, hD⟩ := hv
  have fx : FX p s m av.toArray c y.cls cc nL D q := fx_of rfl B (fun h w hw => atoms_spec (ws := Cond.code y cc nL (some .long) :: ALL) h w (List.mem_cons_of_mem _ hw)) hml hK
  have hl := lv_entry av hav
  rw [lg_entry_eq]
  generalize (lg_sl av ++ List.replicate (nL - (lg_sl av).length) Slot.unset).toArray = ls at hl ⊢
  exact body p e s m av.toArray below meth c _ (va_A ws sz) s.heap [] ls fx hD.self (fun a h => Or.inr (hsz ▸ h)) hP va_S.rf hl (fun r u pc H locs ls hdg hp hB hS => W.lret fx.1 fx.2.1 B.returns (fun t ht hW => ⟨⟨r, u, rfl, hp, by show va_P D vwCl (C u) t.heap; rw [ht]; exact hB⟩, hS.F ht⟩) hS.2.2 hdg B.notSynchronized)
theorem en_fW {post : UInt32 → S → Prop} (hy : plainName y.cls = true) (hav : (lg_sl av).length ≤ nL)
    (body : ∀ (p : Program) (e : Env) (s : State) (m : MethodId) (args : Array Value) (below : List Frame) (meth : Method) (c : Code) (Q : State → Prop) (A : Nat → Prop) (H : Heap) (locs : List Loc) (ls : Array Slot), FX p s m args c y.cls cc nL D q → va_D A ws → (∀ a, s.heap.size ≤ a → A a) →  va_P D vwCl ws H → va_S A s.heap H locs → lv_has ls nL (lv_args 0 av) →
      (∀ (r : UInt32) (u : S) (pc : Nat) (H : Heap) (locs : List Loc) (ls : Array Slot), decode cc pc = .ok (.freturn, 1) → post r u → va_P D vwCl (C u) H → va_S A s.heap H locs → W p l e rm s m args below meth c H locs 0 0 Q (F0 m pc ls [.float r])) →
      W p l e rm s m args below meth c H locs 0 0 Q (F0 m 0 ls [])) :
    Met l y (Cond.code y cc nL (some .float) :: ALL) rm (PC D q av ws sz) (va_Qf post (fun u t => va_P D vwCl (C u) t.heap) (va_A ws sz)) 0 0 (va_A ws sz) := by
  refine Met.ofW (cc := cc) (maxL := nL) (ret := some .float) hy rfl ?_
  intro p e s m args below meth c s₁ B hml hv
  obtain ⟨rfl, hsz, hP, hK, hD⟩ := hv
  have fx : FX p s m av.toArray c y.cls cc nL D q := fx_of rfl B (fun h w hw => atoms_spec (ws := Cond.code y cc nL (some .float) :: ALL) h w (List.mem_cons_of_mem _ hw)) hml hK
  have hl := lv_entry av hav
  rw [lg_entry_eq]
  generalize (lg_sl av ++ List.replicate (nL - (lg_sl av).length) Slot.unset).toArray = ls at hl ⊢
  exact body p e s m av.toArray below meth c _ (va_A ws sz) s.heap [] ls fx hD.self (fun a h => Or.inr (hsz ▸ h)) hP va_S.rf hl (fun r u pc H locs ls hdg hp hB hS => W.fret fx.1 fx.2.1 B.returns (fun t ht hW => ⟨⟨r, u, rfl, hp, by show va_P D vwCl (C u) t.heap; rw [ht]; exact hB⟩, hS.F ht⟩) hS.2.2 hdg B.notSynchronized)
theorem en_vW {post : S → Prop} (hy : plainName y.cls = true) (hav : (lg_sl av).length ≤ nL)
    (body : ∀ (p : Program) (e : Env) (s : State) (m : MethodId) (args : Array Value) (below : List Frame) (meth : Method) (c : Code) (Q : State → Prop) (A : Nat → Prop) (H : Heap) (locs : List Loc) (ls : Array Slot), FX p s m args c y.cls cc nL D q → va_D A ws → (∀ a, s.heap.size ≤ a → A a) →  va_P D vwCl ws H → va_S A s.heap H locs → lv_has ls nL (lv_args 0 av) →
      (∀ (u : S) (pc : Nat) (H : Heap) (locs : List Loc) (ls : Array Slot), decode cc pc = .ok (.return_, 1) → post u → va_P D vwCl (C u) H → va_S A s.heap H locs → W p l e rm s m args below meth c H locs 0 0 Q (F0 m pc ls [])) →
      W p l e rm s m args below meth c H locs 0 0 Q (F0 m 0 ls [])) :
    Met l y (Cond.code y cc nL (none) :: ALL) rm (PC D q av ws sz) (va_Qv post (fun u t => va_P D vwCl (C u) t.heap) (va_A ws sz)) 0 0 (va_A ws sz) := by
  refine Met.ofW (cc := cc) (maxL := nL) (ret := none) hy rfl ?_
  intro p e s m args below meth c s₁ B hml hv
  obtain ⟨rfl, hsz, hP, hK, hD⟩ := hv
  have fx : FX p s m av.toArray c y.cls cc nL D q := fx_of rfl B (fun h w hw => atoms_spec (ws := Cond.code y cc nL (none) :: ALL) h w (List.mem_cons_of_mem _ hw)) hml hK
  have hl := lv_entry av hav
  rw [lg_entry_eq]
  generalize (lg_sl av ++ List.replicate (nL - (lg_sl av).length) Slot.unset).toArray = ls at hl ⊢
  exact body p e s m av.toArray below meth c _ (va_A ws sz) s.heap [] ls fx hD.self (fun a h => Or.inr (hsz ▸ h)) hP va_S.rf hl (fun u pc H locs ls hdg hp hB hS => W.vret fx.1 fx.2.1 B.returns (fun t ht hW => ⟨⟨u, rfl, hp, by show va_P D vwCl (C u) t.heap; rw [ht]; exact hB⟩, hS.F ht⟩) hS.2.2 hdg B.notSynchronized)
end ENTER
end BASE
