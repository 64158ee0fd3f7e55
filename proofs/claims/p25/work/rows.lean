section
-- ===== PART A: goes FIRST, ahead of the names: the tables' words, and 'selects' of the private methods out of them =====
/-- a private method of a class that the tables say can be made, by its rows of tables_1 -/
def lw_okq (q : MethodName × Nat) : Prop := (q.1.cls ≠ "java/lang/invoke/MethodHandle" ∧ q.1.cls ≠ "java/lang/invoke/VarHandle") ∧ Cond.instantiable q.1.cls q.2 ∈ tables_1 ∧ Cond.privateMethod q.1 ∈ tables_1 ∧ Cond.instanceMethod q.1 ∈ tables_1
theorem lw_p0 : lw_okq (⟨"java/lang/Throwable", "fillInStackTrace", "(I)Ljava/lang/Throwable;"⟩, 6) := ⟨⟨by decide +kernel, by decide +kernel⟩, List.mem_of_getElem? (i := 220) (by decide +kernel), List.mem_of_getElem? (i := 218) (by decide +kernel), List.mem_of_getElem? (i := 219) (by decide +kernel)⟩
theorem lw_p1 : lw_okq (⟨"Kickroom$Tests", "keep", "(IIZI)V"⟩, 7) := ⟨⟨by decide +kernel, by decide +kernel⟩, List.mem_of_getElem? (i := 114) (by decide +kernel), List.mem_of_getElem? (i := 266) (by decide +kernel), List.mem_of_getElem? (i := 267) (by decide +kernel)⟩
theorem lw_p2 : lw_okq (⟨"Kickroom$Rock", "tellLayer", "(IIIIZ)V"⟩, 5) := ⟨⟨by decide +kernel, by decide +kernel⟩, List.mem_of_getElem? (i := 23) (by decide +kernel), List.mem_of_getElem? (i := 311) (by decide +kernel), List.mem_of_getElem? (i := 312) (by decide +kernel)⟩
theorem lw_p3 : lw_okq (⟨"Kickroom$Well", "hasInflow", "()Z"⟩, 15) := ⟨⟨by decide +kernel, by decide +kernel⟩, List.mem_of_getElem? (i := 49) (by decide +kernel), List.mem_of_getElem? (i := 338) (by decide +kernel), List.mem_of_getElem? (i := 339) (by decide +kernel)⟩
theorem lw_p4 : lw_okq (⟨"Kickroom$Well", "hasGas", "()Z"⟩, 15) := ⟨⟨by decide +kernel, by decide +kernel⟩, List.mem_of_getElem? (i := 49) (by decide +kernel), List.mem_of_getElem? (i := 342) (by decide +kernel), List.mem_of_getElem? (i := 343) (by decide +kernel)⟩
theorem lw_p5 : lw_okq (⟨"Kickroom", "isMudBarrier", "()Z"⟩, 8) := ⟨⟨by decide +kernel, by decide +kernel⟩, List.mem_of_getElem? (i := 15) (by decide +kernel), List.mem_of_getElem? (i := 350) (by decide +kernel), List.mem_of_getElem? (i := 351) (by decide +kernel)⟩
theorem lw_p6 : lw_okq (⟨"Kickroom$Well", "bottom", "()I"⟩, 15) := ⟨⟨by decide +kernel, by decide +kernel⟩, List.mem_of_getElem? (i := 49) (by decide +kernel), List.mem_of_getElem? (i := 354) (by decide +kernel), List.mem_of_getElem? (i := 355) (by decide +kernel)⟩
theorem lw_p7 : lw_okq (⟨"Kickroom$Well", "column", "()I"⟩, 15) := ⟨⟨by decide +kernel, by decide +kernel⟩, List.mem_of_getElem? (i := 49) (by decide +kernel), List.mem_of_getElem? (i := 358) (by decide +kernel), List.mem_of_getElem? (i := 359) (by decide +kernel)⟩
theorem lw_p8 : lw_okq (⟨"Kickroom$Rock", "poreAt", "(I)I"⟩, 5) := ⟨⟨by decide +kernel, by decide +kernel⟩, List.mem_of_getElem? (i := 23) (by decide +kernel), List.mem_of_getElem? (i := 365) (by decide +kernel), List.mem_of_getElem? (i := 366) (by decide +kernel)⟩
theorem lw_p9 : lw_okq (⟨"Kickroom", "isValveBarrier", "()Z"⟩, 8) := ⟨⟨by decide +kernel, by decide +kernel⟩, List.mem_of_getElem? (i := 15) (by decide +kernel), List.mem_of_getElem? (i := 375) (by decide +kernel), List.mem_of_getElem? (i := 376) (by decide +kernel)⟩
theorem lw_p10 : lw_okq (⟨"Kickroom$Tests", "isPassed", "(I)Z"⟩, 7) := ⟨⟨by decide +kernel, by decide +kernel⟩, List.mem_of_getElem? (i := 114) (by decide +kernel), List.mem_of_getElem? (i := 379) (by decide +kernel), List.mem_of_getElem? (i := 380) (by decide +kernel)⟩
theorem lw_p11 : lw_okq (⟨"Kickroom", "isCementBarrier", "()Z"⟩, 8) := ⟨⟨by decide +kernel, by decide +kernel⟩, List.mem_of_getElem? (i := 15) (by decide +kernel), List.mem_of_getElem? (i := 385) (by decide +kernel), List.mem_of_getElem? (i := 386) (by decide +kernel)⟩
theorem lw_p12 : lw_okq (⟨"Kickroom", "hasMinutes", "(I)Z"⟩, 8) := ⟨⟨by decide +kernel, by decide +kernel⟩, List.mem_of_getElem? (i := 15) (by decide +kernel), List.mem_of_getElem? (i := 395) (by decide +kernel), List.mem_of_getElem? (i := 396) (by decide +kernel)⟩
theorem lw_p13 : lw_okq (⟨"Kickroom$Well", "letMinuteGo", "(Z)Z"⟩, 15) := ⟨⟨by decide +kernel, by decide +kernel⟩, List.mem_of_getElem? (i := 49) (by decide +kernel), List.mem_of_getElem? (i := 400) (by decide +kernel), List.mem_of_getElem? (i := 401) (by decide +kernel)⟩
theorem lw_p14 : lw_okq (⟨"Kickroom$Well", "raiseGas", "(Z)V"⟩, 15) := ⟨⟨by decide +kernel, by decide +kernel⟩, List.mem_of_getElem? (i := 49) (by decide +kernel), List.mem_of_getElem? (i := 404) (by decide +kernel), List.mem_of_getElem? (i := 405) (by decide +kernel)⟩
theorem lw_p15 : lw_okq (⟨"Kickroom$Well", "ventGas", "(Z)V"⟩, 15) := ⟨⟨by decide +kernel, by decide +kernel⟩, List.mem_of_getElem? (i := 49) (by decide +kernel), List.mem_of_getElem? (i := 408) (by decide +kernel), List.mem_of_getElem? (i := 409) (by decide +kernel)⟩
def lw_privs_1 : List (MethodName × Nat) := [(⟨"java/lang/Throwable", "fillInStackTrace", "(I)Ljava/lang/Throwable;"⟩, 6), (⟨"Kickroom$Tests", "keep", "(IIZI)V"⟩, 7), (⟨"Kickroom$Rock", "tellLayer", "(IIIIZ)V"⟩, 5), (⟨"Kickroom$Well", "hasInflow", "()Z"⟩, 15), (⟨"Kickroom$Well", "hasGas", "()Z"⟩, 15), (⟨"Kickroom", "isMudBarrier", "()Z"⟩, 8), (⟨"Kickroom$Well", "bottom", "()I"⟩, 15), (⟨"Kickroom$Well", "column", "()I"⟩, 15), (⟨"Kickroom$Rock", "poreAt", "(I)I"⟩, 5), (⟨"Kickroom", "isValveBarrier", "()Z"⟩, 8), (⟨"Kickroom$Tests", "isPassed", "(I)Z"⟩, 7), (⟨"Kickroom", "isCementBarrier", "()Z"⟩, 8), (⟨"Kickroom", "hasMinutes", "(I)Z"⟩, 8), (⟨"Kickroom$Well", "letMinuteGo", "(Z)Z"⟩, 15), (⟨"Kickroom$Well", "raiseGas", "(Z)V"⟩, 15), (⟨"Kickroom$Well", "ventGas", "(Z)V"⟩, 15)]
theorem lw_r1 : ∀ q ∈ lw_privs_1, lw_okq q := List.forall_mem_cons.mpr ⟨lw_p0, List.forall_mem_cons.mpr ⟨lw_p1, List.forall_mem_cons.mpr ⟨lw_p2, List.forall_mem_cons.mpr ⟨lw_p3, List.forall_mem_cons.mpr ⟨lw_p4, List.forall_mem_cons.mpr ⟨lw_p5, List.forall_mem_cons.mpr ⟨lw_p6, List.forall_mem_cons.mpr ⟨lw_p7, List.forall_mem_cons.mpr ⟨lw_p8, List.forall_mem_cons.mpr ⟨lw_p9, List.forall_mem_cons.mpr ⟨lw_p10, List.forall_mem_cons.mpr ⟨lw_p11, List.forall_mem_cons.mpr ⟨lw_p12, List.forall_mem_cons.mpr ⟨lw_p13, List.forall_mem_cons.mpr ⟨lw_p14, List.forall_mem_cons.mpr ⟨lw_p15, fun _ h => absurd h List.not_mem_nil⟩⟩⟩⟩⟩⟩⟩⟩⟩⟩⟩⟩⟩⟩⟩⟩
theorem lw_p16 : lw_okq (⟨"Kickroom$Well", "measureGas", "()V"⟩, 15) := ⟨⟨by decide +kernel, by decide +kernel⟩, List.mem_of_getElem? (i := 49) (by decide +kernel), List.mem_of_getElem? (i := 412) (by decide +kernel), List.mem_of_getElem? (i := 413) (by decide +kernel)⟩
theorem lw_p17 : lw_okq (⟨"Kickroom$Well", "gasPressure", "()I"⟩, 15) := ⟨⟨by decide +kernel, by decide +kernel⟩, List.mem_of_getElem? (i := 49) (by decide +kernel), List.mem_of_getElem? (i := 416) (by decide +kernel), List.mem_of_getElem? (i := 417) (by decide +kernel)⟩
theorem lw_p18 : lw_okq (⟨"Kickroom$Well", "setChoke", "()V"⟩, 15) := ⟨⟨by decide +kernel, by decide +kernel⟩, List.mem_of_getElem? (i := 49) (by decide +kernel), List.mem_of_getElem? (i := 423) (by decide +kernel), List.mem_of_getElem? (i := 424) (by decide +kernel)⟩
theorem lw_p19 : lw_okq (⟨"Kickroom$Well", "flowIn", "()Z"⟩, 15) := ⟨⟨by decide +kernel, by decide +kernel⟩, List.mem_of_getElem? (i := 49) (by decide +kernel), List.mem_of_getElem? (i := 428) (by decide +kernel), List.mem_of_getElem? (i := 429) (by decide +kernel)⟩
theorem lw_p20 : lw_okq (⟨"Kickroom$Rock", "rateAt", "(I)I"⟩, 5) := ⟨⟨by decide +kernel, by decide +kernel⟩, List.mem_of_getElem? (i := 23) (by decide +kernel), List.mem_of_getElem? (i := 433) (by decide +kernel), List.mem_of_getElem? (i := 434) (by decide +kernel)⟩
theorem lw_p21 : lw_okq (⟨"Kickroom$Rock", "bearsGasAt", "(I)Z"⟩, 5) := ⟨⟨by decide +kernel, by decide +kernel⟩, List.mem_of_getElem? (i := 23) (by decide +kernel), List.mem_of_getElem? (i := 440) (by decide +kernel), List.mem_of_getElem? (i := 441) (by decide +kernel)⟩
theorem lw_p22 : lw_okq (⟨"Kickroom$Well", "loseAtShoe", "()V"⟩, 15) := ⟨⟨by decide +kernel, by decide +kernel⟩, List.mem_of_getElem? (i := 49) (by decide +kernel), List.mem_of_getElem? (i := 444) (by decide +kernel), List.mem_of_getElem? (i := 445) (by decide +kernel)⟩
theorem lw_p23 : lw_okq (⟨"Kickroom$Well", "foot", "()I"⟩, 15) := ⟨⟨by decide +kernel, by decide +kernel⟩, List.mem_of_getElem? (i := 49) (by decide +kernel), List.mem_of_getElem? (i := 448) (by decide +kernel), List.mem_of_getElem? (i := 449) (by decide +kernel)⟩
theorem lw_p24 : lw_okq (⟨"Kickroom$Rock", "breakAt", "(I)I"⟩, 5) := ⟨⟨by decide +kernel, by decide +kernel⟩, List.mem_of_getElem? (i := 23) (by decide +kernel), List.mem_of_getElem? (i := 452) (by decide +kernel), List.mem_of_getElem? (i := 453) (by decide +kernel)⟩
theorem lw_p25 : lw_okq (⟨"Kickroom$Well", "letMinutesGo", "(I)I"⟩, 15) := ⟨⟨by decide +kernel, by decide +kernel⟩, List.mem_of_getElem? (i := 49) (by decide +kernel), List.mem_of_getElem? (i := 465) (by decide +kernel), List.mem_of_getElem? (i := 466) (by decide +kernel)⟩
theorem lw_p26 : lw_okq (⟨"Kickroom", "pumpOn", "(I)V"⟩, 8) := ⟨⟨by decide +kernel, by decide +kernel⟩, List.mem_of_getElem? (i := 15) (by decide +kernel), List.mem_of_getElem? (i := 494) (by decide +kernel), List.mem_of_getElem? (i := 495) (by decide +kernel)⟩
theorem lw_p27 : lw_okq (⟨"Kickroom$Rock", "leastBreak", "(II)I"⟩, 5) := ⟨⟨by decide +kernel, by decide +kernel⟩, List.mem_of_getElem? (i := 23) (by decide +kernel), List.mem_of_getElem? (i := 575) (by decide +kernel), List.mem_of_getElem? (i := 576) (by decide +kernel)⟩
theorem lw_p28 : lw_okq (⟨"Kickroom$Rock", "greatestPore", "(II)I"⟩, 5) := ⟨⟨by decide +kernel, by decide +kernel⟩, List.mem_of_getElem? (i := 23) (by decide +kernel), List.mem_of_getElem? (i := 580) (by decide +kernel), List.mem_of_getElem? (i := 581) (by decide +kernel)⟩
theorem lw_p29 : lw_okq (⟨"Kickroom$Rock", "piecesFromAbove", "(I)I"⟩, 5) := ⟨⟨by decide +kernel, by decide +kernel⟩, List.mem_of_getElem? (i := 23) (by decide +kernel), List.mem_of_getElem? (i := 593) (by decide +kernel), List.mem_of_getElem? (i := 594) (by decide +kernel)⟩
theorem lw_p30 : lw_okq (⟨"Kickroom$Rock", "piecesFromAll", "(I)I"⟩, 5) := ⟨⟨by decide +kernel, by decide +kernel⟩, List.mem_of_getElem? (i := 23) (by decide +kernel), List.mem_of_getElem? (i := 604) (by decide +kernel), List.mem_of_getElem? (i := 605) (by decide +kernel)⟩
theorem lw_p31 : lw_okq (⟨"Kickroom$Rock", "leastPiecesTo", "(I)I"⟩, 5) := ⟨⟨by decide +kernel, by decide +kernel⟩, List.mem_of_getElem? (i := 23) (by decide +kernel), List.mem_of_getElem? (i := 608) (by decide +kernel), List.mem_of_getElem? (i := 609) (by decide +kernel)⟩
def lw_privs_2 : List (MethodName × Nat) := [(⟨"Kickroom$Well", "measureGas", "()V"⟩, 15), (⟨"Kickroom$Well", "gasPressure", "()I"⟩, 15), (⟨"Kickroom$Well", "setChoke", "()V"⟩, 15), (⟨"Kickroom$Well", "flowIn", "()Z"⟩, 15), (⟨"Kickroom$Rock", "rateAt", "(I)I"⟩, 5), (⟨"Kickroom$Rock", "bearsGasAt", "(I)Z"⟩, 5), (⟨"Kickroom$Well", "loseAtShoe", "()V"⟩, 15), (⟨"Kickroom$Well", "foot", "()I"⟩, 15), (⟨"Kickroom$Rock", "breakAt", "(I)I"⟩, 5), (⟨"Kickroom$Well", "letMinutesGo", "(I)I"⟩, 15), (⟨"Kickroom", "pumpOn", "(I)V"⟩, 8), (⟨"Kickroom$Rock", "leastBreak", "(II)I"⟩, 5), (⟨"Kickroom$Rock", "greatestPore", "(II)I"⟩, 5), (⟨"Kickroom$Rock", "piecesFromAbove", "(I)I"⟩, 5), (⟨"Kickroom$Rock", "piecesFromAll", "(I)I"⟩, 5), (⟨"Kickroom$Rock", "leastPiecesTo", "(I)I"⟩, 5)]
theorem lw_r2 : ∀ q ∈ lw_privs_2, lw_okq q := List.forall_mem_cons.mpr ⟨lw_p16, List.forall_mem_cons.mpr ⟨lw_p17, List.forall_mem_cons.mpr ⟨lw_p18, List.forall_mem_cons.mpr ⟨lw_p19, List.forall_mem_cons.mpr ⟨lw_p20, List.forall_mem_cons.mpr ⟨lw_p21, List.forall_mem_cons.mpr ⟨lw_p22, List.forall_mem_cons.mpr ⟨lw_p23, List.forall_mem_cons.mpr ⟨lw_p24, List.forall_mem_cons.mpr ⟨lw_p25, List.forall_mem_cons.mpr ⟨lw_p26, List.forall_mem_cons.mpr ⟨lw_p27, List.forall_mem_cons.mpr ⟨lw_p28, List.forall_mem_cons.mpr ⟨lw_p29, List.forall_mem_cons.mpr ⟨lw_p30, List.forall_mem_cons.mpr ⟨lw_p31, fun _ h => absurd h List.not_mem_nil⟩⟩⟩⟩⟩⟩⟩⟩⟩⟩⟩⟩⟩⟩⟩⟩
theorem lw_p32 : lw_okq (⟨"Kickroom$Well", "become", "(LKickroom$Well;)V"⟩, 15) := ⟨⟨by decide +kernel, by decide +kernel⟩, List.mem_of_getElem? (i := 49) (by decide +kernel), List.mem_of_getElem? (i := 628) (by decide +kernel), List.mem_of_getElem? (i := 629) (by decide +kernel)⟩
def lw_privs_3 : List (MethodName × Nat) := [(⟨"Kickroom$Well", "become", "(LKickroom$Well;)V"⟩, 15)]
theorem lw_r3 : ∀ q ∈ lw_privs_3, lw_okq q := List.forall_mem_cons.mpr ⟨lw_p32, fun _ h => absurd h List.not_mem_nil⟩
def lw_privs : List (MethodName × Nat) := lw_privs_1 ++ (lw_privs_2 ++ (lw_privs_3))
def lw_tbl : List Cond := k2_sels lw_privs ++ tables_1
theorem lw_privs_ok : ∀ q ∈ lw_privs, lw_okq q := by
  show ∀ q ∈ lw_privs_1 ++ (lw_privs_2 ++ (lw_privs_3)), lw_okq q
  exact List.forall_mem_append.mpr ⟨lw_r1, List.forall_mem_append.mpr ⟨lw_r2, lw_r3⟩⟩
/-- the streams that the claim lets the run draw from -/
abbrev lw_cs : List Choice := [Jvm.Choice.named "NaN.bits"]
theorem lw_bits : nanBits ∈ lw_cs := by first | decide | exact List.mem_cons_self | simp [lw_cs, nanBits]
-- ===== end of PART A; then your names; then what follows =====
end
section
/-! ===== BEGIN words of one list among another's, by their places ===== -/
theorem goodIn_r {big : List Cond} (ws : List Cond) (ps : List Nat) (hp : ws = ps.filterMap (fun i => big[i]?)) (h : ws.all goodWord = true) : GoodIn big ws := by
  intro w hw
  have h1 := List.all_eq_true.mp h w hw
  rw [hp] at hw
  obtain ⟨i, -, hi⟩ := List.mem_filterMap.mp hw
  have hm : w ∈ big := by first | exact List.mem_of_getElem? hi | exact List.getElem?_mem hi
  exact ⟨hm, good_of_word h1⟩
theorem goodIn_app {big a b : List Cond} (ha : GoodIn big a) (hb : GoodIn big b) : GoodIn big (a ++ b) := fun w h => (List.mem_append.mp h).elim (ha w) (hb w)
theorem goodIn_ca {big a b : List Cond} {c : Cond} (ha : GoodIn big (c :: a)) (hb : GoodIn big b) : GoodIn big (c :: (a ++ b)) := fun w h => (List.mem_cons.mp h).elim (fun e => ha w (List.mem_cons.mpr (Or.inl e))) (fun h => (List.mem_append.mp h).elim (fun h => ha w (List.mem_cons.mpr (Or.inr h))) (hb w))
theorem goodIn_sub {big ws : List Cond} (hm : ∀ w ∈ ws, w ∈ big) (h : ws.all goodWord = true) : GoodIn big ws := fun w hw => ⟨hm w hw, good_of_word (List.all_eq_true.mp h w hw)⟩
/-! ===== END ===== -/

/-! ===== BEGIN exceptions that leave a method, and their catching by the caller (launches without stack traces) ===== -/
section VXA
/-! The laws vx_back, vx_callV, vx_callS, vx_callSW, vx_throw0, vx_throwS follow proofs of the library, with one case more: JvmDerived/Free/Laws.lean (Back.of_free), Shelf42/LK1.lean (callV, callS), Shelf/KitTraced.lean (throwNew0V, throwNewS). -/
/-- where a method has thrown q: the class by its name, the cell, what was written, the world -/
def vx_T (XC : String → State → State → Prop) (st : State) (q : Addr) (t : State) (mc ms : Nat) (free : Addr → Prop) : Prop :=
  ∃ (E : String) (ce : Cell) (L : List Loc), XC E st t ∧ t.heap[q]? = some ce ∧ ce.vm = .none ∧ st.vm.findClass E = some ce.cls ∧ st.WarmedH t.vm ∧ st.sameButNew ({ t with vm := st.vm } : State) L mc ms ∧ ∀ z ∈ L, free z.base
def vx_Q (Qc : Array Value → State → Outcome → State → Prop) (XC : String → State → State → Prop) (mc ms : Nat) (free : Addr → Prop) : Array Value → State → Outcome → State → Prop := fun a st o t =>
  (Qc a st o t ∧ ∃ L, FrameEnd st o t L mc ms ∧ ∀ q ∈ L, free q.base) ∨ ∃ q, o = .threw q ∧ vx_T XC st q t mc ms free
/-- a callee that returns or throws -/
def vx_Met (l : Launch) (y : MethodName) (ws : List Cond) (rm : Room) (Pc : Array Value → State → Prop) (Qc : Array Value → State → Outcome → State → Prop) (XC : String → State → State → Prop) (mc ms : Nat) (free : Addr → Prop) : Prop :=
  MetFree l y (headSpec ws rm) Pc (fun _ _ _ _ _ => True) (vx_Q Qc XC mc ms free)
def vx_Post (XC : String → State → State → Prop) (mc ms : Nat) (free : Addr → Prop) : Pt → Array Value → Addr → Pt → Prop := fun A a q B =>
  ∃ (g : JFrame) (mk : MethodId) (t : State) (L : List Loc) (E : String) (ce : Cell), B.U.heap = t.heap ∧ B.U.vm = t.vm ∧ XC E (A.U.calling g mk a) t ∧ t.heap[q]? = some ce ∧ ce.vm = .none ∧ A.U.vm.findClass E = some ce.cls ∧ B.locs = A.locs ++ L ∧ (∀ z ∈ L, free z.base) ∧ B.cells = A.cells + mc ∧ B.slots = A.slots + ms
def vx_Back (l : Launch) (R : Room) (p : Program) (e : Env) (below : List Frame) (s : State) (sargs : Array Value) (y : MethodName) (len W9 : Nat)
    (Pre : Pt → Array Value → Prop) (Post : Pt → Array Value → Option Value → Pt → Prop) (PostX : Pt → Array Value → Addr → Pt → Prop) : Prop :=
  ∀ (m : MethodId) (meth : Method) (c : Code) (A : Pt) (g : JFrame) (ig : Instr) (mk : MethodId) (a : Array Value),
    Stand p l e R s m sargs below meth c A.U A.locs A.cells A.slots → g.method = m → g.locals.size = c.maxLocals → decode c.code g.pc = .ok (ig, len) →
    2 * g.monitorRoom + (g.stack.map fun v => v.category).sum ≤ W9 → A.U.methodNamed? y = some mk → Pre A a →
    (∃ (v : Option Value) (B : Pt), Stand p l e R s m sargs below meth c B.U B.locs B.cells B.slots ∧ Post A a v B ∧
      Steps p.tables e below (doInvoke e (A.U.setTop g) [] mk a).1 (B.U.setTop { g with pc := g.pc + len, stack := v.toList ++ g.stack })) ∨
    (∃ (q : Addr) (B : Pt), Stand p l e R s m sargs below meth c B.U B.locs B.cells B.slots ∧ PostX A a q B ∧
      Steps p.tables e below (doInvoke e (A.U.setTop g) [] mk a).1 ((B.U.setTop g).pushFrame (.throwing q)))
section Payer
variable {l : Launch} {R : Room} {p : Program} {e : Env} {below : List Frame} {s : State} {sargs : Array Value} {y : MethodName} {len W9 : Nat}
theorem vx_back {ws : List Cond} {rm : Room} {Pc : Array Value → State → Prop} {Qc : Array Value → State → Outcome → State → Prop} {XC : String → State → State → Prop} {mc ms : Nat} {free : Addr → Prop} {bytes : ByteArray} {maxL : Nat} {ret : Option FieldType}
    (hM : vx_Met l y ws rm Pc Qc XC mc ms free) (hblind : FrameBlind Pc) (hrc : rm.cells = mc) (hrs : rm.slots = ms)
    (hframes : rm.frames + 1 ≤ R.frames) (hlocals : W9 + (maxL + 11) + rm.locals ≤ R.locals)
    (hws : ∀ w ∈ ws, ∀ a' U, s.WarmedH U.vm → w.before a' U = true) (hcode : Cond.code y bytes maxL ret ∈ ws) (hinit : ∀ a' U, s.WarmedH U.vm → (Cond.initialized y.cls).before a' U = true) :
    vx_Back l R p e below s sargs y len W9 (PreOf R mc ms Pc) (PostOf Qc mc ms free) (vx_Post XC mc ms free) := by
  intro m meth c A g ig mk a X hg hsize hdg hW hn hp
  have h1 : (headSpec ws rm).pre.before a A.U = true := atoms_intro fun w hw => hws w hw _ _ X.warmed
  have h2 : (Cond.code y bytes maxL ret).before a A.U = true := hws _ hcode _ _ X.warmed
  have h3 : (Cond.initialized y.cls).before a A.U = true := hinit _ _ X.warmed
  have h4 : A.cells + (headSpec ws rm).room.cells ≤ R.cells := by rw [show (headSpec ws rm).room.cells = mc from hrc]; exact hp.1
  have h5 : A.slots + (headSpec ws rm).room.slots ≤ R.slots := by rw [show (headSpec ws rm).room.slots = ms from hrs]; exact hp.2.1
  have hPc : Pc a (A.U.calling g mk a) := hblind _ _ _ _ hp.2.2
  obtain ⟨U, Ls, c0, s0⟩ := A
  dsimp only [Pt.U, Pt.locs, Pt.cells, Pt.slots] at h1 h2 h3 h4 h5 X hn hPc ⊢
  obtain ⟨methY, cY, hmY, hcY, -, hlY, -, -, -, -⟩ := Cond.code_spec hn h2
  obtain ⟨kY, hkY, -⟩ := className_of_methodNamed hn
  have hinitY : kY.init = .initialized := Cond.initialized_spec (findClass_of_methodNamed hn) hkY h3
  have h : At U g.method c below := by rw [hg]; exact X.here
  have hlocals9 : W9 + (maxL + 11) + (headSpec ws rm).room.locals ≤ R.locals := hlocals
  have happ : (headSpec ws rm).appliesLoose y e.platform (U.calling g mk a) = true :=
    Spec.appliesLoose_calling (g := g) h hdg hn hkY hinitY
      (X.room_calling (g := g) (R' := (headSpec ws rm).room) hsize hmY hcY hframes (by rw [hlY]; omega) h4 h5) h1
  obtain ⟨mid, hmid⟩ := h.above
  have hfr : (U.setTop g).frames = (.java g :: mid) ++ below := by rw [State.frames_setTop' g h.top, hmid]; rfl
  obtain ⟨o, s₂, hsteps, -, hend, hq⟩ := Steps.callFree hM p X.admits X.cas X.clock (acts := []) hfr happ hPc trivial
  have hq' : vx_Q Qc XC mc ms free a (U.calling g mk a) o s₂ := hq
  rw [State.frames_setTop' g h.top] at hend
  obtain ⟨g₀, hg0⟩ := Option.isSome_iff_exists.mp h.top
  obtain ⟨r, hr⟩ := State.topJava?_eq_some.mp hg0
  have hr' : (({ U with heap := s₂.heap, slotsUsed := s₂.slotsUsed } : State).setVm s₂.vm).frames = .java g₀ :: r := hr
  rcases hq' with ⟨hqc, L, hfe, hL⟩ | ⟨q, rfl, E, ce, L, hx, hce, hcv, hcl, hW₂, hsm, hL⟩
  · obtain ⟨⟨v, rfl⟩, hW₂, e2, q2, q3, q4, q5, q6⟩ := id hfe
    have e3 : s₂ = ({ (U.calling g mk a).setFrames s₂.frames with heap := s₂.heap, slotsUsed := s₂.slotsUsed } : State).setVm s₂.vm := by
      have : s₂ = ({ s₂ with vm := (U.calling g mk a).vm } : State).setVm s₂.vm := rfl
      rw [e2] at this
      exact this
    obtain ⟨c₂, i₂, len₂, hc₂, hd₂, hf₂⟩ := hend
    have hW' : U.WarmedH s₂.vm := hW₂
    have hcc : c₂ = c := by
      have h1 : s₂.code? g.method = U.code? g.method := by
        rw [State.code?_eq, State.code?_eq, hW'.alike.method?]
      exact Option.some.inj (hc₂.symm.trans (h1.trans h.code))
    subst hcc
    have hlen : len₂ = len := by rw [hdg] at hd₂; cases hd₂; rfl
    subst hlen
    have hs₂ : s₂ = (({ U with heap := s₂.heap, slotsUsed := s₂.slotsUsed } : State).setVm s₂.vm).setTop { g with pc := g.pc + len₂, stack := v.toList ++ g.stack } := by
      refine e3.trans ?_
      rw [hf₂, State.calling_eq h.top, State.setFrames_setFrames, State.setTop_of_frames _ hr', hr]
      rfl
    have hsame : U.sameButNew ({ U with heap := s₂.heap, slotsUsed := s₂.slotsUsed } : State) L mc ms := by
      refine ⟨?_, q2, q3, q4, q5, q6⟩
      obtain ⟨t, ht, -⟩ := State.frames_cons hr
      show ({ U with heap := s₂.heap, slotsUsed := s₂.slotsUsed } : State) = { U.setFrames U.frames with heap := s₂.heap, slotsUsed := s₂.slotsUsed }
      rw [State.setFrames_self ht]
    subst hg
    refine Or.inl ⟨v, ⟨(({ U with heap := s₂.heap, slotsUsed := s₂.slotsUsed } : State).setVm s₂.vm), Ls ++ L, c0 + mc, s0 + ms⟩,
      ⟨X.admits, X.cas, X.clock, X.frames, X.room, X.hears, X.method, X.code, (X.here.setHeapUsed s₂.heap s₂.slotsUsed).setVm hW'.alike, X.tail, State.WarmedH.trans X.warmed hW', X.limits, X.bytes, X.same.trans (hsame.setVm s.vm)⟩,
      ⟨g, mk, s₂, L, rfl, rfl, hqc, rfl, hL, rfl, rfl⟩, ?_⟩
    show Steps p.tables e below _ ((({ U with heap := s₂.heap, slotsUsed := s₂.slotsUsed } : State).setVm s₂.vm).setTop { g with pc := g.pc + len₂, stack := v.toList ++ g.stack })
    rw [← hs₂]
    exact hsteps
  · obtain ⟨e2, q2, q3, q4, q5, q6⟩ := id hsm
    have e3 : s₂ = ({ (U.calling g mk a).setFrames s₂.frames with heap := s₂.heap, slotsUsed := s₂.slotsUsed } : State).setVm s₂.vm := by
      have : s₂ = ({ s₂ with vm := (U.calling g mk a).vm } : State).setVm s₂.vm := rfl
      rw [e2] at this
      exact this
    have hf₂ : s₂.frames = .throwing q :: .java g :: U.frames.tail := hend
    have hW' : U.WarmedH s₂.vm := hW₂
    have hs₂ : s₂ = ((({ U with heap := s₂.heap, slotsUsed := s₂.slotsUsed } : State).setVm s₂.vm).setTop g).pushFrame (.throwing q) := by
      refine e3.trans ?_
      rw [hf₂, State.calling_eq h.top, State.setFrames_setFrames, State.pushFrame, State.frames_setTop _ hr', State.setTop_of_frames _ hr', State.setFrames_setFrames, hr]
      rfl
    have hsame : U.sameButNew ({ U with heap := s₂.heap, slotsUsed := s₂.slotsUsed } : State) L mc ms := by
      refine ⟨?_, q2, q3, q4, q5, q6⟩
      obtain ⟨t, ht, -⟩ := State.frames_cons hr
      show ({ U with heap := s₂.heap, slotsUsed := s₂.slotsUsed } : State) = { U.setFrames U.frames with heap := s₂.heap, slotsUsed := s₂.slotsUsed }
      rw [State.setFrames_self ht]
    subst hg
    refine Or.inr ⟨q, ⟨(({ U with heap := s₂.heap, slotsUsed := s₂.slotsUsed } : State).setVm s₂.vm), Ls ++ L, c0 + mc, s0 + ms⟩,
      ⟨X.admits, X.cas, X.clock, X.frames, X.room, X.hears, X.method, X.code, (X.here.setHeapUsed s₂.heap s₂.slotsUsed).setVm hW'.alike, X.tail, State.WarmedH.trans X.warmed hW', X.limits, X.bytes, X.same.trans (hsame.setVm s.vm)⟩,
      ⟨g, mk, s₂, L, E, ce, rfl, rfl, hx, hce, hcv, hcl, rfl, hL, rfl, rfl⟩, ?_⟩
    show Steps p.tables e below _ (((({ U with heap := s₂.heap, slotsUsed := s₂.slotsUsed } : State).setVm s₂.vm).setTop g).pushFrame (.throwing q))
    rw [← hs₂]
    exact hsteps
end Payer
section Calls
variable {p : Program} {l : Launch} {e : Env} {R : Room} {s : State} {m : MethodId} {args : Array Value} {below : List Frame} {meth : Method} {c : Code} {T : State} {locs : List Loc} {cells slots : Nat}
theorem vx_callV (X : Stand p l e R s m args below meth c T locs cells slots) (hexec : p.tables.exec = Jvm.exec) {own C : String} {index : Nat} {y : MethodName} {bytes : ByteArray} {maxL : Nat} {ret : Option FieldType}
    (hown : s.vm.findClass own = some m.cls) (hlink : (Cond.methodLink own index y).before args s = true) (hinst : (Cond.instanceMethod y).before args s = true) (hsel : (Cond.selects C y y).before args s = true)
    (hcode : (Cond.code y bytes maxL ret).before args s = true) (hy : y.cls ≠ "java/lang/invoke/MethodHandle" ∧ y.cls ≠ "java/lang/invoke/VarHandle")
    {W9 : Nat} {Pre : Pt → Array Value → Prop} {Post : Pt → Array Value → Option Value → Pt → Prop} {PostX : Pt → Array Value → Addr → Pt → Prop} (hK : vx_Back l R p e below s args y 3 W9 Pre Post PostX)
    {b : Addr} {cellB : Cell} (hcell : T.heap[b]? = some cellB) (hobj : cellB.vm.isStatics = false) (hcls : s.vm.findClass C = some cellB.cls)
    {g : JFrame} (hg : g.method = m) (hsize : g.locals.size = c.maxLocals) {argsL rest : List Value} (hlen : ∀ sig, parseMethodDescriptor y.desc = some sig → argsL.length = sig.parameters.length)
    (hstack : g.stack = argsL.reverse ++ .ref b :: rest) (hW : 2 * g.monitorRoom + (rest.map fun v => v.category).sum ≤ W9) (hdg : decode c.code g.pc = .ok (.invokevirtual index, 3))
    (hpre : ∀ vm₁, s.WarmedH vm₁ → Pre ⟨T.setVm vm₁, locs, cells, slots⟩ (Value.ref b :: argsL).toArray) :
    (∃ (v : Option Value) (vm₁ : Vm) (B : Pt), s.WarmedH vm₁ ∧ Stand p l e R s m args below meth c B.U B.locs B.cells B.slots ∧ Post ⟨T.setVm vm₁, locs, cells, slots⟩ (Value.ref b :: argsL).toArray v B ∧
      ∀ target, Steps p.tables e below (B.U.setTop { g with pc := g.pc + 3, stack := v.toList ++ rest }) target → Steps p.tables e below (T.setTop g) target) ∨
    (∃ (q : Addr) (vm₁ : Vm) (B : Pt), s.WarmedH vm₁ ∧ Stand p l e R s m args below meth c B.U B.locs B.cells B.slots ∧ PostX ⟨T.setVm vm₁, locs, cells, slots⟩ (Value.ref b :: argsL).toArray q B ∧
      Steps p.tables e below (T.setTop g) ((B.U.setTop { g with stack := rest }).pushFrame (.throwing q))) := by
  obtain ⟨mk, methM, hnamed, hmethM, hstM, habM⟩ := Cond.instanceMethod_spec hinst
  obtain ⟨methM', cM, hmethM', -, -, -, -, -, -, hsigM⟩ := Cond.code_spec hnamed hcode
  cases hmethM.symm.trans hmethM'
  obtain ⟨c2, r2, m2, q1, q2, q3, q4, kP, hkP, hkPi⟩ := Cond.selects_spec hsel
  cases hcls.symm.trans q1
  cases (State.methodFound?_of_named hnamed hy).symm.trans q2
  cases hnamed.symm.trans q3
  have hselP : selectMethod e.platform s.vm cellB.cls mk = .method mk := by rw [Launch.admits_selectMethod X.admits]; exact q4
  obtain ⟨vm₁, X₁, hstep₁⟩ := X.invokevirtual hexec hown hlink hnamed hmethM hstM hkP hkPi hy (a := b) (cell := cellB) hcell
    (fun z h => by rw [h] at hobj; cases hobj) hselP hmethM habM hkP hkPi (g := g) hg (argsL := argsL) (rest := rest) (hlen _ hsigM) hstack hdg
  rcases hK m meth c ⟨T.setVm vm₁, locs, cells, slots⟩ { g with stack := rest } (.invokevirtual index) mk (Value.ref b :: argsL).toArray X₁ hg hsize hdg hW (X₁.named hnamed) (hpre vm₁ X₁.warmed) with ⟨v, B, X', hpost, hsteps⟩ | ⟨q, B, X', hpost, hsteps⟩
  · exact Or.inl ⟨v, vm₁, B, X₁.warmed, X', hpost, fun target h => hstep₁ _ fun acts => by rw [doInvoke_state]; exact hsteps.trans h⟩
  · exact Or.inr ⟨q, vm₁, B, X₁.warmed, X', hpost, hstep₁ _ fun acts => by rw [doInvoke_state]; exact hsteps⟩
theorem vx_callS (X : Stand p l e R s m args below meth c T locs cells slots) (hexec : p.tables.exec = Jvm.exec) {own : String} {index : Nat} {y : MethodName} {bytes : ByteArray} {maxL : Nat} {ret : Option FieldType}
    (hown : s.vm.findClass own = some m.cls) (hlink : (Cond.methodLink own index y).before args s = true) (hstat : (Cond.static y).before args s = true) (hinit : (Cond.initialized y.cls).before args s = true)
    (hcode : (Cond.code y bytes maxL ret).before args s = true) (hy : y.cls ≠ "java/lang/invoke/MethodHandle" ∧ y.cls ≠ "java/lang/invoke/VarHandle")
    {W9 : Nat} {Pre : Pt → Array Value → Prop} {Post : Pt → Array Value → Option Value → Pt → Prop} {PostX : Pt → Array Value → Addr → Pt → Prop} (hK : vx_Back l R p e below s args y 3 W9 Pre Post PostX)
    {g : JFrame} (hg : g.method = m) (hsize : g.locals.size = c.maxLocals) {argsL rest : List Value} (hlen : ∀ sig, parseMethodDescriptor y.desc = some sig → argsL.length = sig.parameters.length)
    (hstack : g.stack = argsL.reverse ++ rest) (hW : 2 * g.monitorRoom + (rest.map fun v => v.category).sum ≤ W9) (hdg : decode c.code g.pc = .ok (.invokestatic index, 3))
    (hpre : ∀ vm₁, s.WarmedH vm₁ → Pre ⟨T.setVm vm₁, locs, cells, slots⟩ argsL.toArray) :
    (∃ (v : Option Value) (vm₁ : Vm) (B : Pt), s.WarmedH vm₁ ∧ Stand p l e R s m args below meth c B.U B.locs B.cells B.slots ∧ Post ⟨T.setVm vm₁, locs, cells, slots⟩ argsL.toArray v B ∧
      ∀ target, Steps p.tables e below (B.U.setTop { g with pc := g.pc + 3, stack := v.toList ++ rest }) target → Steps p.tables e below (T.setTop g) target) ∨
    (∃ (q : Addr) (vm₁ : Vm) (B : Pt), s.WarmedH vm₁ ∧ Stand p l e R s m args below meth c B.U B.locs B.cells B.slots ∧ PostX ⟨T.setVm vm₁, locs, cells, slots⟩ argsL.toArray q B ∧
      Steps p.tables e below (T.setTop g) ((B.U.setTop { g with stack := rest }).pushFrame (.throwing q))) := by
  obtain ⟨mk, hnamed⟩ := Cond.code_named hcode
  obtain ⟨methM, cM, hmethM, -, -, -, -, -, -, hsigM⟩ := Cond.code_spec hnamed hcode
  have hstatic : methM.isStatic = true := Cond.static_spec hnamed hmethM hstat
  obtain ⟨kP, hkP, -⟩ := className_of_methodNamed hnamed
  have hinitP : kP.init = .initialized := Cond.initialized_spec (findClass_of_methodNamed hnamed) hkP hinit
  obtain ⟨vm₁, X₁, hstep₁⟩ := X.invokestatic hexec hown hlink hnamed hmethM hstatic hkP hinitP hy (g := g) hg (argsL := argsL) (rest := rest) (hlen _ hsigM) hstack hdg
  rcases hK m meth c ⟨T.setVm vm₁, locs, cells, slots⟩ { g with stack := rest } (.invokestatic index) mk argsL.toArray X₁ hg hsize hdg hW (X₁.named hnamed) (hpre vm₁ X₁.warmed) with ⟨v, B, X', hpost, hsteps⟩ | ⟨q, B, X', hpost, hsteps⟩
  · exact Or.inl ⟨v, vm₁, B, X₁.warmed, X', hpost, fun target h => hstep₁ _ fun acts => by rw [doInvoke_state]; exact hsteps.trans h⟩
  · exact Or.inr ⟨q, vm₁, B, X₁.warmed, X', hpost, hstep₁ _ fun acts => by rw [doInvoke_state]; exact hsteps⟩
end Calls
theorem vx_cls {s : State} {T : State} {vm₁ : Vm} {E : String} {k : ClassId} (hW : s.WarmedH vm₁) (h : (T.setVm vm₁).vm.findClass E = some k) : s.vm.findClass E = some k := by
  have h1 : vm₁.findClass E = some k := h
  rw [hW.alike.findClass] at h1
  exact h1
/-- the method's frame g, with q thrown over it -/
def vx_W (p : Program) (l : Launch) (e : Env) (R : Room) (s : State) (m : MethodId) (args : Array Value) (below : List Frame) (meth : Method) (c : Code) (H : Heap) (locs : List Loc) (cells slots : Nat) (Q : State → Prop) (g : JFrame) (q : Addr) : Prop :=
  ∀ T : State, T.heap = H → Stand p l e R s m args below meth c T locs cells slots → ∃ t, Steps p.tables e below ((T.setTop g).pushFrame (.throwing q)) t ∧ Q t
def vx_Run (p : Program) (l : Launch) (e : Env) (R : Room) (s : State) (m : MethodId) (args : Array Value) (below : List Frame) (meth : Method) (c : Code) (H : Heap) (locs : List Loc) (cells slots mc ms : Nat) (g : JFrame) (rest : List Value) (Qa : State → Outcome → State → Prop) (XC : String → State → State → Prop) (free : Addr → Prop) : Prop :=
  ∀ T : State, T.heap = H → Stand p l e R s m args below meth c T locs cells slots →
    (∃ (v : Option Value) (st₀ t T' : State) (L : List Loc), st₀.heap = H ∧ Stand p l e R s m args below meth c T' (locs ++ L) (cells + mc) (slots + ms) ∧ (∀ q ∈ L, free q.base) ∧ T'.heap = t.heap ∧ T'.vm = t.vm ∧ Qa st₀ (.returned v) t ∧
      Goes p e below T g T' { g with pc := g.pc + 3, stack := v.toList ++ rest }) ∨
    (∃ (q : Addr) (st₀ t T' : State) (L : List Loc) (E : String) (ce : Cell), st₀.heap = H ∧ Stand p l e R s m args below meth c T' (locs ++ L) (cells + mc) (slots + ms) ∧ (∀ z ∈ L, free z.base) ∧ T'.heap = t.heap ∧ T'.vm = t.vm ∧ XC E st₀ t ∧ t.heap[q]? = some ce ∧ ce.vm = .none ∧ s.vm.findClass E = some ce.cls ∧
      Steps p.tables e below (T.setTop g) ((T'.setTop { g with stack := rest }).pushFrame (.throwing q)))
def vx_X {S : Type} (px : S → Prop) (B : String → S → State → Prop) (A : Nat → Prop) : String → State → State → Prop := fun E st t => ∃ u : S, px u ∧ B E u t ∧ va_F A st t
section Runs
variable {p : Program} {l : Launch} {e : Env} {R : Room} {s : State} {m : MethodId} {args : Array Value} {below : List Frame} {meth : Method} {c : Code} {H : Heap} {locs : List Loc} {cells slots : Nat}
variable {y : MethodName} {bytes cc : ByteArray} {maxL nL mc ms n index : Nat} {ret : Option FieldType} {ws : List Cond} {rm : Room} {Pc : Array Value → State → Prop} {Qc : Array Value → State → Outcome → State → Prop} {XC : String → State → State → Prop} {free : Addr → Prop} {Ts : List Cond} {own C : String} {b : Addr} {As rest : List Value} {g : JFrame}
theorem vx_callBack (cb : CallB R s args own index y bytes maxL ret ws rm mc ms n) (hM : vx_Met l y ws rm Pc Qc XC mc ms free) (hbl : FrameBlind Pc) : vx_Back l R p e below s args y 3 8 (PreOf R mc ms Pc) (PostOf Qc mc ms free) (vx_Post XC mc ms free) := by
  obtain ⟨hrc, hrs, hfr, hlo, hws, hcw, -, hini, -⟩ := cb
  exact vx_back (bytes := bytes) (maxL := maxL) (ret := ret) hM hbl hrc hrs hfr hlo hws hcw (fun a' U hW => word_at hW (Or.inl (by first | rfl | simp [Cond.onTables, Cond.keeps, Cond.steady])) hini)
theorem vx_runV (S : CallFix p m c cc nL s args Ts own) (hM : vx_Met l y ws rm Pc Qc XC mc ms free) (cw : CallW R s args own C index y bytes maxL ret ws rm mc ms n) (hp : PreV s H C b Pc As)
    (hg : g.method = m) (hn : As.length = n) (hsize : g.locals.size = nL) (hstack : g.stack = As.reverse ++ .ref b :: rest) (hW : 2 * g.monitorRoom + (rest.map fun v => v.category).sum ≤ 8) (hdg : decode cc g.pc = .ok (.invokevirtual index, 3)) (hf : cells + mc ≤ R.cells ∧ slots + ms ≤ R.slots) :
    vx_Run p l e R s m args below meth c H locs cells slots mc ms g rest (Qc (Value.ref b :: As).toArray) XC free := by
  have hK : vx_Back l R p e below s args y 3 8 (PreOf R mc ms Pc) (PostOf Qc mc ms free) (vx_Post XC mc ms free) := vx_callBack cw.1 hM hp.1
  obtain ⟨⟨-, -, -, -, -, -, hcode, -, hy, hlen, hl⟩, hin, hse⟩ := cw
  obtain ⟨hx, hb, hml, ho, -⟩ := S
  obtain ⟨-, ⟨cellB, hcB, hoB, hclB⟩, hPc⟩ := hp
  intro T hT X
  rcases vx_callV X hx (C := C) (bytes := bytes) (maxL := maxL) (ret := ret) ho hl hin hse hcode hy hK (by rw [hT]; exact hcB) hoB hclB hg (hsize.trans hml.symm) (argsL := As) (rest := rest) (fun sig h => hn.trans (hlen sig h)) hstack hW (by rw [hb]; exact hdg)
    (fun vm₁ hW₁ => ⟨hf.1, hf.2, hPc (T.setVm vm₁) hT hW₁⟩) with ⟨v, vm₁, ⟨U', l2, c2, s2⟩, hW₁, X', ⟨g', mk, t, L, e1, e2, hq, h1, hL, h2, h3⟩, st⟩ | ⟨q, vm₁, ⟨U', l2, c2, s2⟩, hW₁, X', ⟨g', mk, t, L, E, ce, e1, e2, hq, hce, hcv, hcl, h1, hL, h2, h3⟩, st⟩
  · dsimp only [Pt.U, Pt.locs, Pt.cells, Pt.slots] at X' e1 e2 h1 h2 h3 st
    subst h1; subst h2; subst h3
    exact Or.inl ⟨v, (T.setVm vm₁).calling g' mk (Value.ref b :: As).toArray, t, U', L, hT, X', hL, e1, e2, hq, st⟩
  · dsimp only [Pt.U, Pt.locs, Pt.cells, Pt.slots] at X' e1 e2 h1 h2 h3 st hcl
    subst h1; subst h2; subst h3
    exact Or.inr ⟨q, (T.setVm vm₁).calling g' mk (Value.ref b :: As).toArray, t, U', L, E, ce, hT, X', hL, e1, e2, hq, hce, hcv, vx_cls hW₁ hcl, st⟩
theorem vx_runS (S : CallFix p m c cc nL s args Ts own) (hM : vx_Met l y ws rm Pc Qc XC mc ms free) (cw : CallB R s args own index y bytes maxL ret ws rm mc ms n ∧ (Cond.static y).before args s = true) (hp : PreS s H Pc As)
    (hg : g.method = m) (hn : As.length = n) (hsize : g.locals.size = nL) (hstack : g.stack = As.reverse ++ rest) (hW : 2 * g.monitorRoom + (rest.map fun v => v.category).sum ≤ 8) (hdg : decode cc g.pc = .ok (.invokestatic index, 3)) (hf : cells + mc ≤ R.cells ∧ slots + ms ≤ R.slots) :
    vx_Run p l e R s m args below meth c H locs cells slots mc ms g rest (Qc As.toArray) XC free := by
  have hK : vx_Back l R p e below s args y 3 8 (PreOf R mc ms Pc) (PostOf Qc mc ms free) (vx_Post XC mc ms free) := vx_callBack cw.1 hM hp.1
  obtain ⟨⟨-, -, -, -, -, -, hcode, hini, hy, hlen, hl⟩, hstt⟩ := cw
  obtain ⟨hx, hb, hml, ho, -⟩ := S
  intro T hT X
  rcases vx_callS X hx (bytes := bytes) (maxL := maxL) (ret := ret) ho hl hstt hini hcode hy hK hg (hsize.trans hml.symm) (argsL := As) (rest := rest) (fun sig h => hn.trans (hlen sig h)) hstack hW (by rw [hb]; exact hdg)
    (fun vm₁ hW₁ => ⟨hf.1, hf.2, hp.2 (T.setVm vm₁) hT hW₁⟩) with ⟨v, vm₁, ⟨U', l2, c2, s2⟩, hW₁, X', ⟨g', mk, t, L, e1, e2, hq, h1, hL, h2, h3⟩, st⟩ | ⟨q, vm₁, ⟨U', l2, c2, s2⟩, hW₁, X', ⟨g', mk, t, L, E, ce, e1, e2, hq, hce, hcv, hcl, h1, hL, h2, h3⟩, st⟩
  · dsimp only [Pt.U, Pt.locs, Pt.cells, Pt.slots] at X' e1 e2 h1 h2 h3 st
    subst h1; subst h2; subst h3
    exact Or.inl ⟨v, (T.setVm vm₁).calling g' mk As.toArray, t, U', L, hT, X', hL, e1, e2, hq, st⟩
  · dsimp only [Pt.U, Pt.locs, Pt.cells, Pt.slots] at X' e1 e2 h1 h2 h3 st hcl
    subst h1; subst h2; subst h3
    exact Or.inr ⟨q, (T.setVm vm₁).calling g' mk As.toArray, t, U', L, E, ce, hT, X', hL, e1, e2, hq, hce, hcv, vx_cls hW₁ hcl, st⟩
end Runs
section Rows
variable {p : Program} {l : Launch} {e : Env} {R : Room} {s : State} {m : MethodId} {args : Array Value} {below : List Frame} {meth : Method} {c : Code} {H : Heap} {locs : List Loc} {cells slots : Nat} {Q : State → Prop}
variable {mc ms : Nat} {free : Addr → Prop} {A0 A1 : Nat → Prop} {H0 : Heap} {a : Array Value} {pc : Nat} {ls : Array Slot} {st0 rest : List Value}
theorem vx_keep {st₀ t T' : State} {L : List Loc} (h0 : st₀.heap = H) (e1 : T'.heap = t.heap) (hS : va_S A0 H0 H locs) (hA : ∀ q, q < H.size → A1 q → A0 q) (hf : ∀ q, free q → A0 q) (hL : ∀ q ∈ L, free q.base) (hF : va_F A1 st₀ t) :
    H.size ≤ T'.heap.size ∧ (∀ q : Nat, q < H.size → ¬ A1 q → T'.heap[q]? = H[q]?) ∧ va_S A0 H0 T'.heap (locs ++ L) := by
  obtain ⟨hz, hk⟩ := hF
  rw [h0] at hz hk
  exact ⟨by rw [e1]; exact hz, fun q h1 h2 => by rw [e1]; exact hk q h1 h2,
    ⟨Nat.le_trans hS.1 (by rw [e1]; exact hz), fun q h1 h2 => by rw [e1, hk q (Nat.lt_of_lt_of_le h1 hS.1) (fun z => h2 (hA q (Nat.lt_of_lt_of_le h1 hS.1) z))]; exact hS.2.1 q h1 h2, fun q hq => by
      rcases List.mem_append.mp hq with h | h
      · exact hS.2.2 q h
      · exact hf _ (hL q h)⟩⟩
theorem vx_calli {S SX : Type} {post : Int32 → S → Prop} {px : SX → Prop} {B : S → State → Prop} {BX : String → SX → State → Prop} {AX : Nat → Prop} (hr : vx_Run p l e R s m args below meth c H locs cells slots mc ms (F0 m pc ls st0) rest (va_Qi post B A1 a) (vx_X px BX AX) free) (hS : va_S A0 H0 H locs) (hA : ∀ q, q < H.size → A1 q → A0 q) (hf : ∀ q, free q → A0 q) (hAX : ∀ q, q < H.size → AX q → A0 q)
    (kx : ∀ (E : String) (ce : Cell) (q9 : Addr) (u : SX) (t : State) (H1 : Heap) (locs1 : List Loc), t.heap = H1 → s.vm.Alike t.vm → px u → BX E u t → H.size ≤ H1.size → (∀ q : Nat, q < H.size → ¬ AX q → H1[q]? = H[q]?) → va_S A0 H0 H1 locs1 → H1[q9]? = some ce → ce.vm = .none → s.vm.findClass E = some ce.cls → vx_W p l e R s m args below meth c H1 locs1 (cells + mc) (slots + ms) Q (F0 m pc ls rest) q9)
    (kk : ∀ (r : Int32) (u : S) (t : State) (H1 : Heap) (locs1 : List Loc), t.heap = H1 → s.vm.Alike t.vm → post r u → B u t → H.size ≤ H1.size → (∀ q : Nat, q < H.size → ¬ A1 q → H1[q]? = H[q]?) → va_S A0 H0 H1 locs1 → W p l e R s m args below meth c H1 locs1 (cells + mc) (slots + ms) Q (F0 m (pc + 3) ls (.int r :: rest))) : W p l e R s m args below meth c H locs cells slots Q (F0 m pc ls st0) := by
  intro T hT X
  rcases hr T hT X with ⟨v, st₀, t, T', L, h0, X', hL, e1, e2, ⟨⟨r, u, hv, hp, hb⟩, hF⟩, st⟩ | ⟨q, st₀, t, T', L, E, ce, h0, X', hL, e1, e2, ⟨u, hp, hb, hF⟩, hce, hcv, hcl, st⟩
  · cases hv
    obtain ⟨k1, k2, k3⟩ := vx_keep h0 e1 hS hA hf hL hF
    obtain ⟨t2, a1, b1⟩ := kk r u t T'.heap (locs ++ L) e1.symm (by rw [← e2]; exact X'.warmed.alike) hp hb k1 k2 k3 T' rfl X'
    exact ⟨t2, st t2 a1, b1⟩
  · obtain ⟨k1, k2, k3⟩ := vx_keep h0 e1 hS hAX hf hL hF
    obtain ⟨t2, a1, b1⟩ := kx E ce q u t T'.heap (locs ++ L) e1.symm (by rw [← e2]; exact X'.warmed.alike) hp hb k1 k2 k3 (by rw [e1]; exact hce) hcv hcl T' rfl X'
    exact ⟨t2, st.trans a1, b1⟩
theorem vx_calll {S SX : Type} {post : Int64 → S → Prop} {px : SX → Prop} {B : S → State → Prop} {BX : String → SX → State → Prop} {AX : Nat → Prop} (hr : vx_Run p l e R s m args below meth c H locs cells slots mc ms (F0 m pc ls st0) rest (va_Ql post B A1 a) (vx_X px BX AX) free) (hS : va_S A0 H0 H locs) (hA : ∀ q, q < H.size → A1 q → A0 q) (hf : ∀ q, free q → A0 q) (hAX : ∀ q, q < H.size → AX q → A0 q)
    (kx : ∀ (E : String) (ce : Cell) (q9 : Addr) (u : SX) (t : State) (H1 : Heap) (locs1 : List Loc), t.heap = H1 → s.vm.Alike t.vm → px u → BX E u t → H.size ≤ H1.size → (∀ q : Nat, q < H.size → ¬ AX q → H1[q]? = H[q]?) → va_S A0 H0 H1 locs1 → H1[q9]? = some ce → ce.vm = .none → s.vm.findClass E = some ce.cls → vx_W p l e R s m args below meth c H1 locs1 (cells + mc) (slots + ms) Q (F0 m pc ls rest) q9)
    (kk : ∀ (r : Int64) (u : S) (t : State) (H1 : Heap) (locs1 : List Loc), t.heap = H1 → s.vm.Alike t.vm → post r u → B u t → H.size ≤ H1.size → (∀ q : Nat, q < H.size → ¬ A1 q → H1[q]? = H[q]?) → va_S A0 H0 H1 locs1 → W p l e R s m args below meth c H1 locs1 (cells + mc) (slots + ms) Q (F0 m (pc + 3) ls (.long r :: rest))) : W p l e R s m args below meth c H locs cells slots Q (F0 m pc ls st0) := by
  intro T hT X
  rcases hr T hT X with ⟨v, st₀, t, T', L, h0, X', hL, e1, e2, ⟨⟨r, u, hv, hp, hb⟩, hF⟩, st⟩ | ⟨q, st₀, t, T', L, E, ce, h0, X', hL, e1, e2, ⟨u, hp, hb, hF⟩, hce, hcv, hcl, st⟩
  · cases hv
    obtain ⟨k1, k2, k3⟩ := vx_keep h0 e1 hS hA hf hL hF
    obtain ⟨t2, a1, b1⟩ := kk r u t T'.heap (locs ++ L) e1.symm (by rw [← e2]; exact X'.warmed.alike) hp hb k1 k2 k3 T' rfl X'
    exact ⟨t2, st t2 a1, b1⟩
  · obtain ⟨k1, k2, k3⟩ := vx_keep h0 e1 hS hAX hf hL hF
    obtain ⟨t2, a1, b1⟩ := kx E ce q u t T'.heap (locs ++ L) e1.symm (by rw [← e2]; exact X'.warmed.alike) hp hb k1 k2 k3 (by rw [e1]; exact hce) hcv hcl T' rfl X'
    exact ⟨t2, st.trans a1, b1⟩
theorem vx_callf {S SX : Type} {post : UInt32 → S → Prop} {px : SX → Prop} {B : S → State → Prop} {BX : String → SX → State → Prop} {AX : Nat → Prop} (hr : vx_Run p l e R s m args below meth c H locs cells slots mc ms (F0 m pc ls st0) rest (va_Qf post B A1 a) (vx_X px BX AX) free) (hS : va_S A0 H0 H locs) (hA : ∀ q, q < H.size → A1 q → A0 q) (hf : ∀ q, free q → A0 q) (hAX : ∀ q, q < H.size → AX q → A0 q)
    (kx : ∀ (E : String) (ce : Cell) (q9 : Addr) (u : SX) (t : State) (H1 : Heap) (locs1 : List Loc), t.heap = H1 → s.vm.Alike t.vm → px u → BX E u t → H.size ≤ H1.size → (∀ q : Nat, q < H.size → ¬ AX q → H1[q]? = H[q]?) → va_S A0 H0 H1 locs1 → H1[q9]? = some ce → ce.vm = .none → s.vm.findClass E = some ce.cls → vx_W p l e R s m args below meth c H1 locs1 (cells + mc) (slots + ms) Q (F0 m pc ls rest) q9)
    (kk : ∀ (r : UInt32) (u : S) (t : State) (H1 : Heap) (locs1 : List Loc), t.heap = H1 → s.vm.Alike t.vm → post r u → B u t → H.size ≤ H1.size → (∀ q : Nat, q < H.size → ¬ A1 q → H1[q]? = H[q]?) → va_S A0 H0 H1 locs1 → W p l e R s m args below meth c H1 locs1 (cells + mc) (slots + ms) Q (F0 m (pc + 3) ls (.float r :: rest))) : W p l e R s m args below meth c H locs cells slots Q (F0 m pc ls st0) := by
  intro T hT X
  rcases hr T hT X with ⟨v, st₀, t, T', L, h0, X', hL, e1, e2, ⟨⟨r, u, hv, hp, hb⟩, hF⟩, st⟩ | ⟨q, st₀, t, T', L, E, ce, h0, X', hL, e1, e2, ⟨u, hp, hb, hF⟩, hce, hcv, hcl, st⟩
  · cases hv
    obtain ⟨k1, k2, k3⟩ := vx_keep h0 e1 hS hA hf hL hF
    obtain ⟨t2, a1, b1⟩ := kk r u t T'.heap (locs ++ L) e1.symm (by rw [← e2]; exact X'.warmed.alike) hp hb k1 k2 k3 T' rfl X'
    exact ⟨t2, st t2 a1, b1⟩
  · obtain ⟨k1, k2, k3⟩ := vx_keep h0 e1 hS hAX hf hL hF
    obtain ⟨t2, a1, b1⟩ := kx E ce q u t T'.heap (locs ++ L) e1.symm (by rw [← e2]; exact X'.warmed.alike) hp hb k1 k2 k3 (by rw [e1]; exact hce) hcv hcl T' rfl X'
    exact ⟨t2, st.trans a1, b1⟩
theorem vx_calld {S SX : Type} {post : UInt64 → S → Prop} {px : SX → Prop} {B : S → State → Prop} {BX : String → SX → State → Prop} {AX : Nat → Prop} (hr : vx_Run p l e R s m args below meth c H locs cells slots mc ms (F0 m pc ls st0) rest (va_Qd post B A1 a) (vx_X px BX AX) free) (hS : va_S A0 H0 H locs) (hA : ∀ q, q < H.size → A1 q → A0 q) (hf : ∀ q, free q → A0 q) (hAX : ∀ q, q < H.size → AX q → A0 q)
    (kx : ∀ (E : String) (ce : Cell) (q9 : Addr) (u : SX) (t : State) (H1 : Heap) (locs1 : List Loc), t.heap = H1 → s.vm.Alike t.vm → px u → BX E u t → H.size ≤ H1.size → (∀ q : Nat, q < H.size → ¬ AX q → H1[q]? = H[q]?) → va_S A0 H0 H1 locs1 → H1[q9]? = some ce → ce.vm = .none → s.vm.findClass E = some ce.cls → vx_W p l e R s m args below meth c H1 locs1 (cells + mc) (slots + ms) Q (F0 m pc ls rest) q9)
    (kk : ∀ (r : UInt64) (u : S) (t : State) (H1 : Heap) (locs1 : List Loc), t.heap = H1 → s.vm.Alike t.vm → post r u → B u t → H.size ≤ H1.size → (∀ q : Nat, q < H.size → ¬ A1 q → H1[q]? = H[q]?) → va_S A0 H0 H1 locs1 → W p l e R s m args below meth c H1 locs1 (cells + mc) (slots + ms) Q (F0 m (pc + 3) ls (.double r :: rest))) : W p l e R s m args below meth c H locs cells slots Q (F0 m pc ls st0) := by
  intro T hT X
  rcases hr T hT X with ⟨v, st₀, t, T', L, h0, X', hL, e1, e2, ⟨⟨r, u, hv, hp, hb⟩, hF⟩, st⟩ | ⟨q, st₀, t, T', L, E, ce, h0, X', hL, e1, e2, ⟨u, hp, hb, hF⟩, hce, hcv, hcl, st⟩
  · cases hv
    obtain ⟨k1, k2, k3⟩ := vx_keep h0 e1 hS hA hf hL hF
    obtain ⟨t2, a1, b1⟩ := kk r u t T'.heap (locs ++ L) e1.symm (by rw [← e2]; exact X'.warmed.alike) hp hb k1 k2 k3 T' rfl X'
    exact ⟨t2, st t2 a1, b1⟩
  · obtain ⟨k1, k2, k3⟩ := vx_keep h0 e1 hS hAX hf hL hF
    obtain ⟨t2, a1, b1⟩ := kx E ce q u t T'.heap (locs ++ L) e1.symm (by rw [← e2]; exact X'.warmed.alike) hp hb k1 k2 k3 (by rw [e1]; exact hce) hcv hcl T' rfl X'
    exact ⟨t2, st.trans a1, b1⟩
theorem vx_callv {S SX : Type} {post : S → Prop} {px : SX → Prop} {B : S → State → Prop} {BX : String → SX → State → Prop} {AX : Nat → Prop} (hr : vx_Run p l e R s m args below meth c H locs cells slots mc ms (F0 m pc ls st0) rest (va_Qv post B A1 a) (vx_X px BX AX) free) (hS : va_S A0 H0 H locs) (hA : ∀ q, q < H.size → A1 q → A0 q) (hf : ∀ q, free q → A0 q) (hAX : ∀ q, q < H.size → AX q → A0 q)
    (kx : ∀ (E : String) (ce : Cell) (q9 : Addr) (u : SX) (t : State) (H1 : Heap) (locs1 : List Loc), t.heap = H1 → s.vm.Alike t.vm → px u → BX E u t → H.size ≤ H1.size → (∀ q : Nat, q < H.size → ¬ AX q → H1[q]? = H[q]?) → va_S A0 H0 H1 locs1 → H1[q9]? = some ce → ce.vm = .none → s.vm.findClass E = some ce.cls → vx_W p l e R s m args below meth c H1 locs1 (cells + mc) (slots + ms) Q (F0 m pc ls rest) q9)
    (kk : ∀ (u : S) (t : State) (H1 : Heap) (locs1 : List Loc), t.heap = H1 → s.vm.Alike t.vm → post u → B u t → H.size ≤ H1.size → (∀ q : Nat, q < H.size → ¬ A1 q → H1[q]? = H[q]?) → va_S A0 H0 H1 locs1 → W p l e R s m args below meth c H1 locs1 (cells + mc) (slots + ms) Q (F0 m (pc + 3) ls (rest))) : W p l e R s m args below meth c H locs cells slots Q (F0 m pc ls st0) := by
  intro T hT X
  rcases hr T hT X with ⟨v, st₀, t, T', L, h0, X', hL, e1, e2, ⟨⟨u, hv, hp, hb⟩, hF⟩, st⟩ | ⟨q, st₀, t, T', L, E, ce, h0, X', hL, e1, e2, ⟨u, hp, hb, hF⟩, hce, hcv, hcl, st⟩
  · cases hv
    obtain ⟨k1, k2, k3⟩ := vx_keep h0 e1 hS hA hf hL hF
    obtain ⟨t2, a1, b1⟩ := kk u t T'.heap (locs ++ L) e1.symm (by rw [← e2]; exact X'.warmed.alike) hp hb k1 k2 k3 T' rfl X'
    exact ⟨t2, st t2 a1, b1⟩
  · obtain ⟨k1, k2, k3⟩ := vx_keep h0 e1 hS hAX hf hL hF
    obtain ⟨t2, a1, b1⟩ := kx E ce q u t T'.heap (locs ++ L) e1.symm (by rw [← e2]; exact X'.warmed.alike) hp hb k1 k2 k3 (by rw [e1]; exact hce) hcv hcl T' rfl X'
    exact ⟨t2, st.trans a1, b1⟩
/-- caught by the row x of this method's table; the rows ahead don't take it -/
theorem vx_catch {own name : String} {E : String} {ce : Cell} {q : Addr} (hown : s.vm.findClass own = some m.cls) (pre : List ExceptionTableEntry) (x : ExceptionTableEntry) (suf : List ExceptionTableEntry) (hsplit : c.exceptionTable.toList = pre ++ x :: suf)
    (hpass : ∀ z ∈ pre, covers z pc = false ∨ (z.catchType ≠ 0 ∧ ∃ nm : String, (Cond.classLink own z.catchType nm).before args s = true ∧ va_Nc E nm s)) (hx : covers x pc = true) (h0 : x.catchType ≠ 0)
    (hlink : (Cond.classLink own x.catchType name).before args s = true) (hcast : (Cond.castable E name).before args s = true) (hcell : H[q]? = some ce) (hv : ce.vm = .none) (hcl : s.vm.findClass E = some ce.cls)
    (kk : W p l e R s m args below meth c H locs cells slots Q (F0 m x.handlerPc ls [.ref q])) : vx_W p l e R s m args below meth c H locs cells slots Q (F0 m pc ls rest) q := by
  intro T hT X
  have hpl : e.platform.magicAccessors = ({} : Platform).magicAccessors := by rw [X.admits.platform]
  obtain ⟨c3, c4, hc3, hc4, hasg⟩ := Cond.castable_spec hcast
  cases Option.some.inj (hc3.symm.trans hcl)
  obtain ⟨c5, hc5, hcl5⟩ := Cond.classLink_spec hown hlink e.platform hpl
  cases Option.some.inj (hc4.symm.trans hc5)
  obtain ⟨vm', X', st⟩ := X.thenCaughtThrough q (g := F0 m pc ls rest) rfl (Steps.refl _) (by rw [hT]; exact hcell) (by rw [hv]; rfl) (by obtain ⟨k9, h9, -⟩ := Vm.findClass_spec hcl; exact ⟨k9, h9⟩) pre x suf hsplit
    (fun z hz => by
      rcases hpass z hz with h | ⟨hz0, nm, hl1, hn1⟩
      · exact Or.inl h
      · obtain ⟨c6, hc6, hcl6⟩ := Cond.classLink_spec hown hl1 e.platform hpl
        obtain ⟨a8, b8, h1, h2, h3⟩ := hn1
        cases Option.some.inj (h1.symm.trans hcl)
        cases Option.some.inj (h2.symm.trans hc6)
        exact Or.inr ⟨hz0, _, hcl6, h3⟩) hx (Or.inr ⟨h0, c4, hcl5, hasg⟩)
  obtain ⟨t, a1, b1⟩ := kk (T.setVm vm') hT X'
  exact ⟨t, st.trans a1, b1⟩
end Rows
section Ends
variable {p : Program} {l : Launch} {e : Env} {R : Room} {s : State} {m : MethodId} {args : Array Value} {below : List Frame} {meth : Method} {c : Code} {H : Heap} {locs : List Loc} {cells slots : Nat} {Q : State → Prop}
variable {mc ms : Nat} {free : Addr → Prop} {A0 A1 : Nat → Prop} {H0 : Heap} {a : Array Value} {ls : Array Slot} {st0 rest : List Value}
variable {Qc : Array Value → State → Outcome → State → Prop} {XC : String → State → State → Prop}
/-- what a body that may throw owes at its end -/
def vx_MQ (below : List Frame) (Qc : Array Value → State → Outcome → State → Prop) (XC : String → State → State → Prop) (a : Array Value) (s : State) (mc ms : Nat) (free : Addr → Prop) : State → Prop := fun t =>
  ∃ o, t.status = .running ∧ Ended t below o ∧ vx_Q Qc XC mc ms free a s o t
theorem vx_ret {g : JFrame} {mc ms : Nat} (k : W p l e R s m args below meth c H locs cells slots (MQ below Qc args s mc ms free) g) : W p l e R s m args below meth c H locs cells slots (vx_MQ below Qc XC args s mc ms free) g := by
  intro T hT X
  obtain ⟨t, a1, o, b1, b2, b3, b4⟩ := k T hT X
  exact ⟨t, a1, o, b1, b2, Or.inl ⟨b3, b4⟩⟩
/-- not caught here: it goes on to the caller -/
theorem vx_widen {g : JFrame} {q : Addr} {k n : Nat} (h1 : cells ≤ k) (h2 : slots ≤ n) (kk : vx_W p l e R s m args below meth c H locs k n Q g q) : vx_W p l e R s m args below meth c H locs cells slots Q g q := fun T hT X => kk T hT (stand_widen X h1 h2)
theorem vx_out {pc : Nat} {E : String} {ce : Cell} {q : Addr} {mc ms : Nat} (hout : ∀ x ∈ c.exceptionTable.toList, covers x pc = false) (hlocks : meth.locks = false) (hcell : H[q]? = some ce) (hv : ce.vm = .none) (hcl : s.vm.findClass E = some ce.cls)
    (hx : ∀ t : State, t.heap = H → s.vm.Alike t.vm → XC E s t) (hf : ∀ z ∈ locs, free z.base) (hc : cells ≤ mc) (hs : slots ≤ ms) :
    vx_W p l e R s m args below meth c H locs cells slots (vx_MQ below Qc XC args s mc ms free) (F0 m pc ls rest) q := by
  intro T hT X
  obtain ⟨st1, hrun, hend, hW, hsm⟩ := X.leaveThrown q (g := F0 m pc ls rest) rfl rfl rfl hout hlocks
  have hcell9 : (T.setFrames (.throwing q :: below)).heap[q]? = some ce := by
    show T.heap[q]? = some ce
    rw [hT]; exact hcell
  exact ⟨_, st1, .threw q, hrun, hend, Or.inr ⟨q, rfl, E, ce, locs, hx _ hT hW.alike, hcell9, hv, hcl, hW, hsm.mono hc hs, hf⟩⟩
theorem vx_frame {U : State} {k n : Nat} (h : s.sameButNew ({ U with vm := s.vm } : State) locs k n) : s.heap.size ≤ U.heap.size ∧ ∀ q : Nat, q < s.heap.size → (∀ z ∈ locs, z.base ≠ q) → U.heap[q]? = s.heap[q]? := by
  obtain ⟨-, h2, -, -, -, h6⟩ := h
  refine ⟨h2, fun q hq hz => ?_⟩
  obtain ⟨c9, e1, e2, e3, e4⟩ := h6 q _ (Array.getElem?_eq_getElem hq)
  have hs : c9.slots = (s.heap[q]).slots := Array.ext_getElem? fun i => e4 i fun hm => hz _ hm rfl
  have h9 : c9 = s.heap[q] := by
    rw [hs] at e2
    exact e2
  have e5 : U.heap[q]? = some c9 := e1
  rw [e5, h9, Array.getElem?_eq_getElem hq]
/-- the words of a throw but the four that speak of the heap -/
def vx_no (w : Cond) : Bool := decide (w ≠ .isRef (.static Bundle.tN "UNASSIGNED_STACK" Bundle.steD)) && decide (w ≠ .isRef (.static Bundle.tN "SUPPRESSED_SENTINEL" Bundle.listD)) && decide (w ≠ .laysStatic Bundle.tN "UNASSIGNED_STACK" Bundle.steD) && decide (w ≠ .laysStatic Bundle.tN "SUPPRESSED_SENTINEL" Bundle.listD)
def vx_at0 (own : String) (ic : Nat) (X : String) (names : List String) : List Cond := (Bundle.ownAtoms0 own ic X names).filter vx_no
def vx_atS (own : String) (ic : Nat) (X : String) (names : List String) : List Cond := (Bundle.ownAtoms own ic X names).filter vx_no
/-- a word that the tables alone decide, or a good one -/
def vx_ot (w : Cond) : Bool := w.onTables || goodWord w
theorem vx_ot_at {args a' : Array Value} {s U : State} {w : Cond} (hW : s.WarmedH U.vm) (hvm : s.vm = U.vm) (hg : vx_ot w = true) (h : w.before args s = true) : w.before a' U = true := by
  simp only [vx_ot, Bool.or_eq_true] at hg
  rcases hg with hg | hg
  · exact va_tabs hg hvm h
  · exact word_at hW (good_of_word hg) h
/-- a list's words: the good ones out of the method's own list, the others by premises of their own -/
theorem vx_hat {args : Array Value} {s : State} {L B : List Cond} (h1 : ∀ w ∈ L.filter goodWord, w.before args s = true) (h2 : ∀ w ∈ L.filter (fun w => !goodWord w), w ∈ B) (h3 : ∀ w ∈ B, w.before args s = true) : ∀ w ∈ L, w.before args s = true := by
  intro w hw
  by_cases g : goodWord w = true
  · exact h1 w (List.mem_filter.mpr ⟨hw, g⟩)
  · refine h3 w (h2 w (List.mem_filter.mpr ⟨hw, ?_⟩))
    show (!goodWord w) = true
    cases hgw : goodWord w
    · rfl
    · exact absurd hgw g
theorem vx_c {args : Array Value} {s : State} {w : Cond} {B : List Cond} (h : w.before args s = true) (t : ∀ w ∈ B, w.before args s = true) : ∀ w' ∈ w :: B, w'.before args s = true := fun w' h' => (List.mem_cons.mp h').elim (fun e => by rw [e]; exact h) (t w')
theorem vx_n {args : Array Value} {s : State} : ∀ w ∈ ([] : List Cond), w.before args s = true := fun _ h => nomatch h
theorem vx_own {args : Array Value} {s : State} {L : List Cond} (h1 : ∀ w ∈ L.filter vx_no, w.before args s = true)
    (hU : (Cond.isRef (.static Bundle.tN "UNASSIGNED_STACK" Bundle.steD)).before args s = true) (hN : (Cond.isRef (.static Bundle.tN "SUPPRESSED_SENTINEL" Bundle.listD)).before args s = true)
    (lU : (Cond.laysStatic Bundle.tN "UNASSIGNED_STACK" Bundle.steD).before args s = true) (lN : (Cond.laysStatic Bundle.tN "SUPPRESSED_SENTINEL" Bundle.listD).before args s = true) : ∀ w ∈ L, w.before args s = true := by
  intro w hw
  by_cases e1 : w = .isRef (.static Bundle.tN "UNASSIGNED_STACK" Bundle.steD)
  · rw [e1]; exact hU
  · by_cases e2 : w = .isRef (.static Bundle.tN "SUPPRESSED_SENTINEL" Bundle.listD)
    · rw [e2]; exact hN
    · by_cases e3 : w = .laysStatic Bundle.tN "UNASSIGNED_STACK" Bundle.steD
      · rw [e3]; exact lU
      · by_cases e4 : w = .laysStatic Bundle.tN "SUPPRESSED_SENTINEL" Bundle.listD
        · rw [e4]; exact lN
        · exact h1 w (List.mem_filter.mpr ⟨hw, by unfold vx_no; rw [decide_eq_true e1, decide_eq_true e2, decide_eq_true e3, decide_eq_true e4]; rfl⟩)
/-- where a static field lies, its class's statics cell in H -/
def vx_L (C n d : String) (A : Nat → Prop) (U : State) (H : Heap) : Prop := ∃ (c : ClassId) (k : Class) (i : Nat) (f : Field) (a : Nat) (cell : Cell), U.vm.findClass C = some c ∧ U.fieldFound? C n d = some (c, k, i, f) ∧ f.isStatic = true ∧ k.statics = some a ∧ H[a]? = some cell ∧ cell.vm.isStatics = true ∧ cell.cls = c ∧ f.slot < cell.slots.size ∧ k.staticTypes[f.slot]? = some f.type ∧ ¬ A a
theorem vx_L.moved {C n d : String} {A : Nat → Prop} {u U : State} {H : Heap} (hvm : u.vm.Alike U.vm) (h : vx_L C n d A u H) : vx_L C n d A U H := by
  obtain ⟨c, k, i, f, a, cell, h1, h2, h3, h4, h5, h6, h7, h8, h9, h10⟩ := h
  obtain ⟨k', hi', he⟩ := State.fieldFound?_setVm hvm h2
  exact ⟨c, k', i, f, a, cell, by rw [hvm.findClass]; exact h1, hi', h3, by rw [he]; exact h4, h5, h6, h7, h8, by rw [he]; exact h9, h10⟩
theorem vx_L.kept {C n d : String} {A : Nat → Prop} {U : State} {H H1 : Heap} (h : vx_L C n d A U H) (hq : ∀ a : Nat, a < H.size → ¬ A a → H1[a]? = H[a]?) : vx_L C n d A U H1 := by
  obtain ⟨c, k, i, f, a, cell, h1, h2, h3, h4, h5, h6, h7, h8, h9, h10⟩ := h
  exact ⟨c, k, i, f, a, cell, h1, h2, h3, h4, by rw [hq a (Array.getElem?_eq_some_iff.mp h5).1 h10]; exact h5, h6, h7, h8, h9, h10⟩
theorem vx_L.narrow {C n d : String} {A B : Nat → Prop} {U : State} {H : Heap} (h : vx_L C n d A U H) (hAB : ∀ q, B q → A q) : vx_L C n d B U H := by
  obtain ⟨c, k, i, f, a, cell, h1, h2, h3, h4, h5, h6, h7, h8, h9, h10⟩ := h
  exact ⟨c, k, i, f, a, cell, h1, h2, h3, h4, h5, h6, h7, h8, h9, fun z => h10 (hAB _ z)⟩
theorem vx_L.word {C n d : String} {A : Nat → Prop} {s : State} {args : Array Value} (h : vx_L C n d A s s.heap) : (Cond.laysStatic C n d).before args s = true := by
  obtain ⟨c, k, i, f, a, cell, h1, h2, h3, h4, h5, h6, h7, h8, h9, -⟩ := h
  show (Cond.laysStatic C n d).holds args s none s [] = true
  exact Cond.laysStatic_of h1 h2 h3 h4 h5 h6 h7 h8 h9
/-- .. and what it holds: null or some reference -/
def vx_Zq (C n d : String) (A : Nat → Prop) (U : State) (H : Heap) : Prop := va_Zq C n d A U H ∧ vx_L C n d A U H
theorem vx_Zq.moved {C n d : String} {A : Nat → Prop} {u U : State} {H : Heap} (hvm : u.vm.Alike U.vm) (h : vx_Zq C n d A u H) : vx_Zq C n d A U H := ⟨va_Zq.moved hvm h.1, vx_L.moved hvm h.2⟩
theorem vx_Zq.kept {C n d : String} {A : Nat → Prop} {U : State} {H H1 : Heap} (h : vx_Zq C n d A U H) (hq : ∀ a : Nat, a < H.size → ¬ A a → H1[a]? = H[a]?) : vx_Zq C n d A U H1 := ⟨va_Zq.kept h.1 hq, vx_L.kept h.2 hq⟩
theorem vx_Zq.narrow {C n d : String} {A B : Nat → Prop} {U : State} {H : Heap} (h : vx_Zq C n d A U H) (hAB : ∀ q, B q → A q) : vx_Zq C n d B U H := ⟨va_Zq.narrow h.1 hAB, vx_L.narrow h.2 hAB⟩
theorem vx_Zqof {args : Array Value} {s : State} {C n d : String} {A : Nat → Prop} (hl : (Cond.laysStatic C n d).before args s = true) (hini : (Cond.initialized C).before args s = true) (h : (Cond.isRef (.static C n d)).before args s = true) (hA : ∀ a : Nat, a < s.heap.size → ¬ A a) : vx_Zq C n d A s s.heap := by
  refine ⟨va_Zqof hl hini h hA, ?_⟩
  obtain ⟨c, k, i, f, a, cell, h1, h2, h3, h4, h5, h6, h7, h8, h9⟩ := Cond.laysStatic_spec hl
  exact ⟨c, k, i, f, a, cell, h1, h2, h3, h4, h5, h6, h7, h8, h9, hA a (Array.getElem?_eq_some_iff.mp h5).1⟩
theorem vx_isRef {C n d : String} {v : Value} {A : Nat → Prop} {s : State} {args : Array Value} (h : va_Z C n d v A s s.heap) (hv : v.isRef = true) : (Cond.isRef (.static C n d)).before args s = true := by
  obtain ⟨cf, kf, fi, f, a, cell, h1, h2, h3, h4, h5, h6, h7, -⟩ := h
  have he : (Term.static C n d).eval args s none [] s = some v := by
    simp [Term.eval, State.fieldNamed?, h1, h2, h4, h5, h6, h7]
  simp only [Cond.before, Cond.holds, Cond.value, he]
  cases v <;> simp_all [Value.isRef]
theorem vx_isRefq {C n d : String} {A : Nat → Prop} {s : State} {args : Array Value} (h : va_Zq C n d A s s.heap) : (Cond.isRef (.static C n d)).before args s = true := by
  rcases h with h | ⟨t, h⟩
  · exact vx_isRef h rfl
  · exact vx_isRef h rfl
/-- the same frame, seen from here: as if the method were called anew in this heap -/
theorem vx_rebase {T : State} (X : Stand p l e R s m args below meth c T locs cells slots) {R' : Room} (hf : R'.frames ≤ R.frames) (hl : R'.locals ≤ R.locals) (hc : cells + R'.cells ≤ R.cells) (hs : slots + R'.slots ≤ R.slots) :
    Stand p l e R' ((T.setVm s.vm).setFrames (.invoking m args :: below)) m args below meth c T [] 0 0 := by
  have htop : (T.setVm s.vm).topJava?.isSome := X.here.top
  have hF : ((T.setVm s.vm).setFrames (.invoking m args :: below)).frames = .invoking m args :: below := State.frames_setFrames _ (State.cur_lt_of_top htop)
  obtain ⟨g₀, hg0⟩ := Option.isSome_iff_exists.mp htop
  obtain ⟨r, hr⟩ := State.topJava?_eq_some.mp hg0
  have hl9 : e.platform.stackLimits (T.setVm s.vm).me = e.platform.stackLimits s.me := X.limits
  have hb9 : (T.setVm s.vm).me.stackBytes = s.me.stackBytes := X.bytes
  refine ⟨X.admits, X.cas, X.clock, hF, ?_, X.hears, X.method, X.code, X.here, X.tail, X.warmed, ?_, ?_, ?_⟩
  · have h := X.room
    have hU : ((T.setVm s.vm).setFrames (.invoking m args :: below)).localsInUse = s.localsInUse := by
      rw [State.localsInUse_invoking hF (meth := meth) (c := c) X.method X.code, State.localsInUse_invoking X.frames X.method X.code]
    simp only [State.hasRoom, Bool.and_eq_true, decide_eq_true_eq] at h ⊢
    obtain ⟨⟨⟨⟨h1, h2, h3, h4, h5, h6⟩, h7⟩, h8⟩, h9⟩ := h
    rw [X.frames, List.length_cons] at h2 h3
    have q1 := X.heapSize
    have q2 := X.used
    simp only [hF, hU, List.length_cons, State.stackLimits_setFrames, State.stackBytes_setFrames, hl9, hb9]
    refine ⟨⟨⟨⟨by omega, by omega, by omega, by omega, by omega, h6⟩, ?_⟩, ?_⟩, X.book⟩
    · show T.heap.size + R'.cells ≤ e.platform.maxCells
      omega
    · show T.slotsUsed + R'.slots ≤ e.platform.maxSlots
      omega
  · rw [State.stackLimits_setFrames]; rfl
  · rw [State.stackBytes_setFrames]; rfl
  · refine ⟨?_, Nat.le_refl _, Nat.le_refl _, ?_, ?_, fun a c9 h9 => ⟨c9, h9, rfl, rfl, fun _ _ => rfl⟩⟩
    · obtain ⟨t, ht, -⟩ := State.frames_cons hr
      show T.setVm s.vm = { ((T.setVm s.vm).setFrames (.invoking m args :: below)).setFrames (T.setVm s.vm).frames with heap := T.heap, slotsUsed := T.slotsUsed }
      rw [State.setFrames_setFrames, State.setFrames_self ht]
      rfl
    · show T.slotsUsed = T.slotsUsed + ((T.heap.toList.drop T.heap.size).map (·.slots.size)).sum
      rw [List.drop_eq_nil_of_le (Nat.le_of_eq Array.length_toList)]
      rfl
    · show ((T.heap.toList.drop T.heap.size).map (·.slots.size)).sum ≤ 0
      rw [List.drop_eq_nil_of_le (Nat.le_of_eq Array.length_toList)]
      exact Nat.le_refl _
/-- 'throw new E()': new; dup; invokespecial; athrow -/
theorem vx_throw0 {cc : ByteArray} {pc : Nat} (hexec : p.tables.exec = Jvm.exec) (hb : c.code = cc) (hl : l.stackTraces = false) {own cls : String} {names : List String} {ik ic mc ms : Nat} {A : Nat → Prop}
    (hown : s.vm.findClass own = some m.cls) (hcls : Bundle.fit cls = true) (hnames : ∀ n ∈ names, Bundle.fit n = true)
    (hk : (Cond.classLink own ik cls).before args s = true) (hini : (Cond.initialized cls).before args s = true) (hat : ∀ w ∈ vx_at0 own ic cls names, w.before args s = true)
    (hgood : ∀ w ∈ Cond.classLink own ik cls :: Cond.initialized cls :: vx_at0 own ic cls names, vx_ot w = true)
    (hU : vx_Zq Bundle.tN "UNASSIGNED_STACK" Bundle.steD A s s.heap) (hN : vx_Zq Bundle.tN "SUPPRESSED_SENTINEL" Bundle.listD A s s.heap) (hS : va_S A s.heap H locs) (hsize : ls.size = c.maxLocals)
    (d0 : decode cc pc = .ok (.new ik, 3)) (d3 : decode cc (pc + 3) = .ok (.dup, 1)) (d4 : decode cc (pc + 4) = .ok (.invokespecial ic, 3)) (d7 : decode cc (pc + 7) = .ok (.athrow, 1))
    (hout : ∀ x ∈ c.exceptionTable.toList, covers x (pc + 7) = false)
    (hRframes : names.length + 3 < R.frames) (hRlocals : (rest.map fun v => v.category).sum + (13 * (names.length + 1) + 42) ≤ R.locals) (hRcells : cells + 1 ≤ R.cells) (hRslots : slots + 6 ≤ R.slots) (hlocks : meth.locks = false)
    (hx : ∀ t : State, s.vm.Alike t.vm → H.size + 1 ≤ t.heap.size → (∀ q : Nat, q < H.size → t.heap[q]? = H[q]?) → XC cls s t)
    (hf : ∀ z ∈ locs, free z.base) (hc : cells + 1 ≤ mc) (hs : slots + 6 ≤ ms) :
    W p l e R s m args below meth c H locs cells slots (vx_MQ below Qc XC args s mc ms free) (F0 m pc ls rest) := by
  intro T hT X
  have htr : e.platform.stackTraces = false := (show e.platform.stackTraces = l.stackTraces by rw [X.admits.platform]).trans hl
  have Y := vx_rebase X (R' := { frames := R.frames, locals := R.locals, cells := 1, slots := 6 }) (Nat.le_refl _) (Nat.le_refl _) hRcells hRslots
  obtain ⟨s', hA⟩ : ∃ z, z = (T.setVm s.vm).setFrames (.invoking m args :: below) := ⟨_, rfl⟩
  rw [← hA] at Y
  have hvm : s'.vm = s.vm := by rw [hA]; rfl
  have hhp : s'.heap = H := by rw [hA]; exact hT
  have hW0 : s.WarmedH s'.vm := by rw [hvm]; exact State.WarmedH.refl s
  have hat' : ∀ w ∈ vx_at0 own ic cls names, w.before args s' = true := fun w hw => vx_ot_at hW0 hvm.symm (hgood w (List.mem_cons_of_mem _ (List.mem_cons_of_mem _ hw))) (hat w hw)
  have hk' : (Cond.classLink own ik cls).before args s' = true := vx_ot_at hW0 hvm.symm (hgood _ List.mem_cons_self) hk
  have hini' : (Cond.initialized cls).before args s' = true := vx_ot_at hW0 hvm.symm (hgood _ (List.mem_cons_of_mem _ List.mem_cons_self)) hini
  have hU' : vx_Zq Bundle.tN "UNASSIGNED_STACK" Bundle.steD A s' s'.heap := by rw [hhp]; exact vx_Zq.moved hW0.alike (hU.kept hS.2.1)
  have hN' : vx_Zq Bundle.tN "SUPPRESSED_SENTINEL" Bundle.listD A s' s'.heap := by rw [hhp]; exact vx_Zq.moved hW0.alike (hN.kept hS.2.1)
  have h : ∀ w ∈ Bundle.ownAtoms0 own ic cls names, w.before args s' = true := vx_own hat' (vx_isRefq hU'.1) (vx_isRefq hN'.1) hU'.2.word hN'.2.word
  have hown' : s'.vm.findClass own = some m.cls := by rw [hvm]; exact hown
  have hins : (Cond.instantiable cls 6).before args s' = true := h _ (by simp [Bundle.ownAtoms0])
  obtain ⟨vm₁, cX, kX, hfX, hkX, -, -, X₁, st1⟩ := Y.newCold hexec (own := own) (C := cls) (index := ik) (n := 6) hown' hk' hins hini'
    (g := F0 m pc ls rest) rfl (by rw [hb]; exact d0) (Nat.le_refl _) (Nat.le_refl _)
  generalize hT1 : (T.setVm vm₁).pushCell { cls := cX, slots := kX.instanceTypes.map defaultValue, vm := .none } = T1 at X₁ st1
  have hcat : (Value.ref T.heap.size).category = 1 := rfl
  have hcellA : T1.heap[T.heap.size]? = some (freshCell cX kX) := by rw [← hT1]; exact State.heap_pushCell_size _ _
  have d3' : decode c.code (pc + 3) = .ok (.dup, 1) := by rw [hb]; exact d3
  obtain ⟨U, hsteps, hrun, hend, hW, hsame, ce, hce, hO⟩ := X₁.ctorThrow0 hexec htr (own := own) (cls := cls) (names := names) (ic := ic) hown' hcls hnames h (fun x hx => nomatch hx) hfX hkX hcellA (by rw [hhp, hT]; exact Nat.le_refl _)
    (g := { method := m, pc := pc + 4, locals := ls, stack := .ref T.heap.size :: .ref T.heap.size :: rest, locked := none }) rfl hsize rfl rfl (rest := rest) rfl
    (by rw [hb]; exact d4) (by rw [hb]; exact d7) hout hRframes (by simp only [List.map_cons, List.sum_cons, hcat]; omega) hlocks
  obtain ⟨f1, f2⟩ := vx_frame hsame
  rw [hhp] at f1 f2
  have hWs : s.WarmedH U.vm := State.WarmedH.trans hW0 hW
  have hcl : s.vm.findClass cls = some ce.cls := by
    have h9 := hO.cls
    rw [hvm] at h9
    exact h9
  have hall : s.sameButNew ({ U with vm := s.vm } : State) locs mc ms := by
    subst hA
    obtain ⟨e1, e2⟩ := hsame
    rw [State.setFrames_setFrames] at e1
    have h2 : (T.setVm s.vm).sameButNew ({ U with vm := s.vm } : State) [] (0 + 1) (0 + 6) := ⟨e1, e2⟩
    have h3 := X.same.trans h2
    rw [List.append_nil] at h3
    exact h3.mono hc hs
  refine ⟨U, ?_, .threw T.heap.size, hrun, hend, Or.inr ⟨T.heap.size, rfl, cls, ce, locs, hx U hWs.alike (by have h8 := (Array.getElem?_eq_some_iff.mp hce).1; rw [hT] at h8; exact h8) (fun q hq => f2 q hq (fun z hz => nomatch hz)), hce, hO.vm, hcl, hWs, hall, hf⟩⟩
  refine st1 _ ?_
  show Steps p.tables e below (T1.setTop { method := m, pc := pc + 3, locals := ls, stack := .ref T.heap.size :: rest, locked := none }) _
  jvm_step X₁.here [X₁.here.top, hexec, d3', Value.category]
  exact hsteps
/-- 'throw new E("text")': new; dup; ldc; invokespecial; athrow -/
theorem vx_throwS {cc : ByteArray} {pc : Nat} (hexec : p.tables.exec = Jvm.exec) (hb : c.code = cc) (hl : l.stackTraces = false) {own cls text : String} {names : List String} {ik is ic mc ms sa : Nat} {A : Nat → Prop}
    (hown : s.vm.findClass own = some m.cls) (hcls : Bundle.fit cls = true) (hnames : ∀ n ∈ names, Bundle.fit n = true)
    (hk : (Cond.classLink own ik cls).before args s = true) (hini : (Cond.initialized cls).before args s = true) (hstr : vk_R own is text sa s) (hat : ∀ w ∈ vx_atS own ic cls names, w.before args s = true)
    (hgood : ∀ w ∈ Cond.classLink own ik cls :: Cond.initialized cls :: vx_atS own ic cls names, vx_ot w = true)
    (hU : vx_Zq Bundle.tN "UNASSIGNED_STACK" Bundle.steD A s s.heap) (hN : vx_Zq Bundle.tN "SUPPRESSED_SENTINEL" Bundle.listD A s s.heap) (hS : va_S A s.heap H locs) (hsize : ls.size = c.maxLocals)
    (d0 : decode cc pc = .ok (.new ik, 3)) (d3 : decode cc (pc + 3) = .ok (.dup, 1)) (d4 : decode cc (pc + 4) = .ok (.ldc is, 2)) (d6 : decode cc (pc + 6) = .ok (.invokespecial ic, 3)) (d9 : decode cc (pc + 9) = .ok (.athrow, 1))
    (hout : ∀ x ∈ c.exceptionTable.toList, covers x (pc + 9) = false)
    (hRframes : names.length + 3 < R.frames) (hRlocals : (rest.map fun v => v.category).sum + (13 * (names.length + 1) + 43) ≤ R.locals) (hRcells : cells + 1 ≤ R.cells) (hRslots : slots + 6 ≤ R.slots) (hlocks : meth.locks = false)
    (hx : ∀ t : State, s.vm.Alike t.vm → H.size + 1 ≤ t.heap.size → (∀ q : Nat, q < H.size → t.heap[q]? = H[q]?) → XC cls s t)
    (hf : ∀ z ∈ locs, free z.base) (hc : cells + 1 ≤ mc) (hs : slots + 6 ≤ ms) :
    W p l e R s m args below meth c H locs cells slots (vx_MQ below Qc XC args s mc ms free) (F0 m pc ls rest) := by
  intro T hT X
  have htr : e.platform.stackTraces = false := (show e.platform.stackTraces = l.stackTraces by rw [X.admits.platform]).trans hl
  have Y := vx_rebase X (R' := { frames := R.frames, locals := R.locals, cells := 1, slots := 6 }) (Nat.le_refl _) (Nat.le_refl _) hRcells hRslots
  obtain ⟨s', hA⟩ : ∃ z, z = (T.setVm s.vm).setFrames (.invoking m args :: below) := ⟨_, rfl⟩
  rw [← hA] at Y
  have hvm : s'.vm = s.vm := by rw [hA]; rfl
  have hhp : s'.heap = H := by rw [hA]; exact hT
  have hW0 : s.WarmedH s'.vm := by rw [hvm]; exact State.WarmedH.refl s
  have hat' : ∀ w ∈ vx_atS own ic cls names, w.before args s' = true := fun w hw => vx_ot_at hW0 hvm.symm (hgood w (List.mem_cons_of_mem _ (List.mem_cons_of_mem _ hw))) (hat w hw)
  have hk' : (Cond.classLink own ik cls).before args s' = true := vx_ot_at hW0 hvm.symm (hgood _ List.mem_cons_self) hk
  have hini' : (Cond.initialized cls).before args s' = true := vx_ot_at hW0 hvm.symm (hgood _ (List.mem_cons_of_mem _ List.mem_cons_self)) hini
  have hU' : vx_Zq Bundle.tN "UNASSIGNED_STACK" Bundle.steD A s' s'.heap := by rw [hhp]; exact vx_Zq.moved hW0.alike (hU.kept hS.2.1)
  have hN' : vx_Zq Bundle.tN "SUPPRESSED_SENTINEL" Bundle.listD A s' s'.heap := by rw [hhp]; exact vx_Zq.moved hW0.alike (hN.kept hS.2.1)
  have h : ∀ w ∈ Bundle.ownAtoms own ic cls names, w.before args s' = true := vx_own hat' (vx_isRefq hU'.1) (vx_isRefq hN'.1) hU'.2.word hN'.2.word
  have hown' : s'.vm.findClass own = some m.cls := by rw [hvm]; exact hown
  have hins : (Cond.instantiable cls 6).before args s' = true := h _ (by simp [Bundle.ownAtoms])
  obtain ⟨vm₁, cX, kX, hfX, hkX, -, -, X₁, st1⟩ := Y.newCold hexec (own := own) (C := cls) (index := ik) (n := 6) hown' hk' hins hini'
    (g := F0 m pc ls rest) rfl (by rw [hb]; exact d0) (Nat.le_refl _) (Nat.le_refl _)
  generalize hT1 : (T.setVm vm₁).pushCell { cls := cX, slots := kX.instanceTypes.map defaultValue, vm := .none } = T1 at X₁ st1
  have hcat : (Value.ref T.heap.size).category = 1 := rfl
  have hcellA : T1.heap[T.heap.size]? = some (freshCell cX kX) := by rw [← hT1]; exact State.heap_pushCell_size _ _
  have d3' : decode c.code (pc + 3) = .ok (.dup, 1) := by rw [hb]; exact d3
  have d4' : decode c.code (pc + 4) = .ok (.ldc is, 2) := by rw [hb]; exact d4
  have hstr' : vk_R own is text sa s' := vk_R.warm hW0 hstr
  obtain ⟨U, hsteps, hrun, hend, hW, hsame, ce, hce, hO⟩ := X₁.ctorThrowS hexec htr (own := own) (cls := cls) (names := names) (ic := ic) hown' hcls hnames h (fun x hx => nomatch hx) hfX hkX hcellA (by rw [hhp, hT]; exact Nat.le_refl _) (msg := .ref sa) rfl
    (g := { method := m, pc := pc + 6, locals := ls, stack := .ref sa :: .ref T.heap.size :: .ref T.heap.size :: rest, locked := none }) rfl hsize rfl rfl (rest := rest) rfl
    (by rw [hb]; exact d6) (by rw [hb]; exact d9) hout hRframes (by simp only [List.map_cons, List.sum_cons, hcat]; omega) hlocks
  obtain ⟨f1, f2⟩ := vx_frame hsame
  rw [hhp] at f1 f2
  have hWs : s.WarmedH U.vm := State.WarmedH.trans hW0 hW
  have hcl : s.vm.findClass cls = some ce.cls := by
    have h9 := hO.cls
    rw [hvm] at h9
    exact h9
  have hall : s.sameButNew ({ U with vm := s.vm } : State) locs mc ms := by
    subst hA
    obtain ⟨e1, e2⟩ := hsame
    rw [State.setFrames_setFrames] at e1
    have h2 : (T.setVm s.vm).sameButNew ({ U with vm := s.vm } : State) [] (0 + 1) (0 + 6) := ⟨e1, e2⟩
    have h3 := X.same.trans h2
    rw [List.append_nil] at h3
    exact h3.mono hc hs
  refine ⟨U, ?_, .threw T.heap.size, hrun, hend, Or.inr ⟨T.heap.size, rfl, cls, ce, locs, hx U hWs.alike (by have h8 := (Array.getElem?_eq_some_iff.mp hce).1; rw [hT] at h8; exact h8) (fun q hq => f2 q hq (fun z hz => nomatch hz)), hce, hO.vm, hcl, hWs, hall, hf⟩⟩
  refine st1 _ ?_
  show Steps p.tables e below (T1.setTop { method := m, pc := pc + 3, locals := ls, stack := .ref T.heap.size :: rest, locked := none }) _
  jvm_step X₁.here [X₁.here.top, hexec, d3', Value.category]
  exact X₁.ldcString hexec (own := own) (text := text) (index := is) (a := sa) hown' hstr'.1 hstr'.2
    (g := { method := m, pc := pc + 4, locals := ls, stack := .ref T.heap.size :: .ref T.heap.size :: rest, locked := none }) rfl d4' _ hsteps
/-- 'throw new E("text")', the text by a wide index -/
theorem vx_throwSW {cc : ByteArray} {pc : Nat} (hexec : p.tables.exec = Jvm.exec) (hb : c.code = cc) (hl : l.stackTraces = false) {own cls text : String} {names : List String} {ik is ic mc ms sa : Nat} {A : Nat → Prop}
    (hown : s.vm.findClass own = some m.cls) (hcls : Bundle.fit cls = true) (hnames : ∀ n ∈ names, Bundle.fit n = true)
    (hk : (Cond.classLink own ik cls).before args s = true) (hini : (Cond.initialized cls).before args s = true) (hstr : vk_R own is text sa s) (hat : ∀ w ∈ vx_atS own ic cls names, w.before args s = true)
    (hgood : ∀ w ∈ Cond.classLink own ik cls :: Cond.initialized cls :: vx_atS own ic cls names, vx_ot w = true)
    (hU : vx_Zq Bundle.tN "UNASSIGNED_STACK" Bundle.steD A s s.heap) (hN : vx_Zq Bundle.tN "SUPPRESSED_SENTINEL" Bundle.listD A s s.heap) (hS : va_S A s.heap H locs) (hsize : ls.size = c.maxLocals)
    (d0 : decode cc pc = .ok (.new ik, 3)) (d3 : decode cc (pc + 3) = .ok (.dup, 1)) (d4 : decode cc (pc + 4) = .ok (.ldc_w is, 3)) (d7 : decode cc (pc + 7) = .ok (.invokespecial ic, 3)) (d10 : decode cc (pc + 10) = .ok (.athrow, 1))
    (hout : ∀ x ∈ c.exceptionTable.toList, covers x (pc + 10) = false)
    (hRframes : names.length + 3 < R.frames) (hRlocals : (rest.map fun v => v.category).sum + (13 * (names.length + 1) + 43) ≤ R.locals) (hRcells : cells + 1 ≤ R.cells) (hRslots : slots + 6 ≤ R.slots) (hlocks : meth.locks = false)
    (hx : ∀ t : State, s.vm.Alike t.vm → H.size + 1 ≤ t.heap.size → (∀ q : Nat, q < H.size → t.heap[q]? = H[q]?) → XC cls s t)
    (hf : ∀ z ∈ locs, free z.base) (hc : cells + 1 ≤ mc) (hs : slots + 6 ≤ ms) :
    W p l e R s m args below meth c H locs cells slots (vx_MQ below Qc XC args s mc ms free) (F0 m pc ls rest) := by
  intro T hT X
  have htr : e.platform.stackTraces = false := (show e.platform.stackTraces = l.stackTraces by rw [X.admits.platform]).trans hl
  have Y := vx_rebase X (R' := { frames := R.frames, locals := R.locals, cells := 1, slots := 6 }) (Nat.le_refl _) (Nat.le_refl _) hRcells hRslots
  obtain ⟨s', hA⟩ : ∃ z, z = (T.setVm s.vm).setFrames (.invoking m args :: below) := ⟨_, rfl⟩
  rw [← hA] at Y
  have hvm : s'.vm = s.vm := by rw [hA]; rfl
  have hhp : s'.heap = H := by rw [hA]; exact hT
  have hW0 : s.WarmedH s'.vm := by rw [hvm]; exact State.WarmedH.refl s
  have hat' : ∀ w ∈ vx_atS own ic cls names, w.before args s' = true := fun w hw => vx_ot_at hW0 hvm.symm (hgood w (List.mem_cons_of_mem _ (List.mem_cons_of_mem _ hw))) (hat w hw)
  have hk' : (Cond.classLink own ik cls).before args s' = true := vx_ot_at hW0 hvm.symm (hgood _ List.mem_cons_self) hk
  have hini' : (Cond.initialized cls).before args s' = true := vx_ot_at hW0 hvm.symm (hgood _ (List.mem_cons_of_mem _ List.mem_cons_self)) hini
  have hU' : vx_Zq Bundle.tN "UNASSIGNED_STACK" Bundle.steD A s' s'.heap := by rw [hhp]; exact vx_Zq.moved hW0.alike (hU.kept hS.2.1)
  have hN' : vx_Zq Bundle.tN "SUPPRESSED_SENTINEL" Bundle.listD A s' s'.heap := by rw [hhp]; exact vx_Zq.moved hW0.alike (hN.kept hS.2.1)
  have h : ∀ w ∈ Bundle.ownAtoms own ic cls names, w.before args s' = true := vx_own hat' (vx_isRefq hU'.1) (vx_isRefq hN'.1) hU'.2.word hN'.2.word
  have hown' : s'.vm.findClass own = some m.cls := by rw [hvm]; exact hown
  have hins : (Cond.instantiable cls 6).before args s' = true := h _ (by simp [Bundle.ownAtoms])
  obtain ⟨vm₁, cX, kX, hfX, hkX, -, -, X₁, st1⟩ := Y.newCold hexec (own := own) (C := cls) (index := ik) (n := 6) hown' hk' hins hini'
    (g := F0 m pc ls rest) rfl (by rw [hb]; exact d0) (Nat.le_refl _) (Nat.le_refl _)
  generalize hT1 : (T.setVm vm₁).pushCell { cls := cX, slots := kX.instanceTypes.map defaultValue, vm := .none } = T1 at X₁ st1
  have hcat : (Value.ref T.heap.size).category = 1 := rfl
  have hcellA : T1.heap[T.heap.size]? = some (freshCell cX kX) := by rw [← hT1]; exact State.heap_pushCell_size _ _
  have d3' : decode c.code (pc + 3) = .ok (.dup, 1) := by rw [hb]; exact d3
  have d4' : decode c.code (pc + 4) = .ok (.ldc_w is, 3) := by rw [hb]; exact d4
  have hstr' : vk_R own is text sa s' := vk_R.warm hW0 hstr
  obtain ⟨U, hsteps, hrun, hend, hW, hsame, ce, hce, hO⟩ := X₁.ctorThrowS hexec htr (own := own) (cls := cls) (names := names) (ic := ic) hown' hcls hnames h (fun x hx => nomatch hx) hfX hkX hcellA (by rw [hhp, hT]; exact Nat.le_refl _) (msg := .ref sa) rfl
    (g := { method := m, pc := pc + 7, locals := ls, stack := .ref sa :: .ref T.heap.size :: .ref T.heap.size :: rest, locked := none }) rfl hsize rfl rfl (rest := rest) rfl
    (by rw [hb]; exact d7) (by rw [hb]; exact d10) hout hRframes (by simp only [List.map_cons, List.sum_cons, hcat]; omega) hlocks
  obtain ⟨f1, f2⟩ := vx_frame hsame
  rw [hhp] at f1 f2
  have hWs : s.WarmedH U.vm := State.WarmedH.trans hW0 hW
  have hcl : s.vm.findClass cls = some ce.cls := by
    have h9 := hO.cls
    rw [hvm] at h9
    exact h9
  have hall : s.sameButNew ({ U with vm := s.vm } : State) locs mc ms := by
    subst hA
    obtain ⟨e1, e2⟩ := hsame
    rw [State.setFrames_setFrames] at e1
    have h2 : (T.setVm s.vm).sameButNew ({ U with vm := s.vm } : State) [] (0 + 1) (0 + 6) := ⟨e1, e2⟩
    have h3 := X.same.trans h2
    rw [List.append_nil] at h3
    exact h3.mono hc hs
  refine ⟨U, ?_, .threw T.heap.size, hrun, hend, Or.inr ⟨T.heap.size, rfl, cls, ce, locs, hx U hWs.alike (by have h8 := (Array.getElem?_eq_some_iff.mp hce).1; rw [hT] at h8; exact h8) (fun q hq => f2 q hq (fun z hz => nomatch hz)), hce, hO.vm, hcl, hWs, hall, hf⟩⟩
  refine st1 _ ?_
  show Steps p.tables e below (T1.setTop { method := m, pc := pc + 3, locals := ls, stack := .ref T.heap.size :: rest, locked := none }) _
  jvm_step X₁.here [X₁.here.top, hexec, d3', Value.category]
  exact X₁.ldcStringW hexec (own := own) (text := text) (index := is) (a := sa) hown' hstr'.1 hstr'.2
    (g := { method := m, pc := pc + 4, locals := ls, stack := .ref T.heap.size :: .ref T.heap.size :: rest, locked := none }) rfl d4' _ hsteps
end Ends
section Bodies
variable {l : Launch}
theorem vx_ofW {y : MethodName} {ws ws' : List Cond} {rm : Room} {Pc : Array Value → State → Prop} {Qc : Array Value → State → Outcome → State → Prop} {XC : String → State → State → Prop} {mc ms : Nat} {free : Addr → Prop} {cc : ByteArray} {maxL : Nat} {ret : Option FieldType}
    (hy : plainName y.cls = true) (hw : ws = Cond.code y cc maxL ret :: ws')
    (body : ∀ p e s m args below meth c s₁, BodyLoose p l y (headSpec ws rm) cc maxL ret e s m args below meth c s₁ → c.maxLocals = maxL → (∀ x ∈ c.exceptionTable.toList, False) → Pc args s →
      W p l e (headSpec ws rm).room s m args below meth c s.heap [] 0 0 (vx_MQ below Qc XC args s mc ms free) (entryFrame m args maxL)) : vx_Met l y ws rm Pc Qc XC mc ms free := by
  refine MetFree.of_bodyS (code := cc) (maxLocals := maxL) (ret := ret) hy ?_ ?_
  · intro args s m h hn
    obtain ⟨meth, c, h1, h2, h3, h4, h5, h6, -, -⟩ := Cond.code_spec hn (atoms_spec (ws := ws) h _ (by rw [hw]; exact List.mem_cons_self))
    exact ⟨meth, c, h1, h2, h3, h4, h5, h6⟩
  · intro p e s m args below meth c s₁ B hml hP _
    have hh0 : s₁.heap = s.heap := by rw [B.state]; rfl
    have ht : ∀ x ∈ c.exceptionTable.toList, False := by
      obtain ⟨meth9, c9, h1, h2, -, -, -, -, h7, -⟩ := Cond.code_spec B.named (atoms_spec (ws := ws) B.pre _ (by rw [hw]; exact List.mem_cons_self))
      cases Option.some.inj (h1.symm.trans B.method)
      cases Option.some.inj (h2.symm.trans (Stand.of_body B).code)
      intro x hx
      rw [Array.isEmpty_iff.mp h7] at hx
      cases hx
    obtain ⟨t, a1, o, b1, b2, b3⟩ := body p e s m args below meth c s₁ B hml ht hP s₁ hh0 (Stand.of_body B)
    exact ⟨t, o, a1, b1, b2, b3⟩
/-- the table of a body with handlers -/
theorem vx_table {p : Program} {x y : MethodName} {S : Spec} {cc bytes : ByteArray} {maxL maxL' : Nat} {ret ret' : Option FieldType} {e : Env} {s s₁ : State} {m : MethodId} {args : Array Value} {below : List Frame} {meth : Method} {c : Code} {hh : List (Nat × Nat × Nat × Nat)}
    (B : BodyLoose p l y S cc maxL ret e s m args below meth c s₁) (h : (Cond.codeWith y bytes maxL' ret' hh).before args s = true) : c.exceptionTable.toList = tableOf hh := by
  obtain ⟨m9, meth9, c9, hn9, h1, h2, -, -, h6, -⟩ := Cond.codeWith_spec h
  cases Option.some.inj (hn9.symm.trans B.named)
  cases Option.some.inj (h1.symm.trans B.method)
  cases Option.some.inj (h2.symm.trans (Stand.of_body B).code)
  rw [← h6, table_eq]
end Bodies
end VXA
/-! ===== END ===== -/
/-! ===== BEGIN a static call of a method with an exception table ===== -/
section VXS
variable {p : Program} {l : Launch} {e : Env} {R : Room} {s : State} {m : MethodId} {args : Array Value} {below : List Frame} {meth : Method} {c : Code} {T : State} {H : Heap} {locs : List Loc} {cells slots : Nat}
abbrev vx_CSW (R : Room) (s : State) (args : Array Value) (own : String) (index : Nat) (y : MethodName) (bytes : ByteArray) (maxL : Nat) (ret : Option FieldType) (hh : List (Nat × Nat × Nat × Nat)) (ws : List Cond) (rm : Room) (mc ms n : Nat) : Prop :=
  (rm.cells = mc ∧ rm.slots = ms ∧ rm.frames + 1 ≤ R.frames ∧ 8 + (maxL + 11) + rm.locals ≤ R.locals ∧ (∀ w ∈ ws, ∀ (a' : Array Value) (U : State), s.WarmedH U.vm → w.before a' U = true) ∧ Cond.codeWith y bytes maxL ret hh ∈ ws) ∧
  (Cond.codeWith y bytes maxL ret hh).before args s = true ∧ (Cond.initialized y.cls).before args s = true ∧ (y.cls ≠ "java/lang/invoke/MethodHandle" ∧ y.cls ≠ "java/lang/invoke/VarHandle") ∧
  (∀ sig, parseMethodDescriptor y.desc = some sig → n = sig.parameters.length) ∧ (Cond.methodLink own index y).before args s = true ∧ (Cond.static y).before args s = true
theorem vx_cwSW {own : String} {index maxL mc ms : Nat} {y : MethodName} {bytes : ByteArray} {ret : Option FieldType} {hh : List (Nat × Nat × Nat × Nat)} {Ts ws ws' : List Cond} {rm : Room} (n : Nat) (ht : ∀ w ∈ Ts, w.before args s = true) (hT : GoodIn Ts (va_wsS own index y ws)) (hw : ws = Cond.codeWith y bytes maxL ret hh :: ws') (hrc : rm.cells = mc) (hrs : rm.slots = ms)
    (hd : y.cls ≠ "java/lang/invoke/MethodHandle" ∧ y.cls ≠ "java/lang/invoke/VarHandle" ∧ (parseMethodDescriptor y.desc).map (fun d => d.parameters.length) = some n) (hR : rm.frames + 1 ≤ R.frames ∧ 8 + (maxL + 11) + rm.locals ≤ R.locals) :
    vx_CSW R s args own index y bytes maxL ret hh ws rm mc ms n := by
  have ok : ∀ w ∈ va_wsS own index y ws, w.before args s = true := fun w h => ht w (hT w h).1
  have hG : GoodIn Ts ws := fun w h => hT w (by unfold va_wsS; exact List.mem_append_right _ h)
  have hc : Cond.codeWith y bytes maxL ret hh ∈ ws := by rw [hw]; exact List.mem_cons_self
  refine ⟨⟨hrc, hrs, hR.1, hR.2, pay_in ht hG, hc⟩, ht _ (hG _ hc).1, ok _ (by simp [va_wsS]), ⟨hd.1, hd.2.1⟩, fun sig h => ?_, ok _ (by simp [va_wsS]), ok _ (by simp [va_wsS])⟩
  have h2 := hd.2.2
  rw [h] at h2
  exact (Option.some.inj h2).symm
theorem vx_callSW (X : Stand p l e R s m args below meth c T locs cells slots) (hexec : p.tables.exec = Jvm.exec) {own : String} {index : Nat} {y : MethodName} {bytes : ByteArray} {maxL : Nat} {ret : Option FieldType} {hh : List (Nat × Nat × Nat × Nat)}
    (hown : s.vm.findClass own = some m.cls) (hlink : (Cond.methodLink own index y).before args s = true) (hstat : (Cond.static y).before args s = true) (hinit : (Cond.initialized y.cls).before args s = true)
    (hcode : (Cond.codeWith y bytes maxL ret hh).before args s = true) (hy : y.cls ≠ "java/lang/invoke/MethodHandle" ∧ y.cls ≠ "java/lang/invoke/VarHandle")
    {W9 : Nat} {Pre : Pt → Array Value → Prop} {Post : Pt → Array Value → Option Value → Pt → Prop} (hK : Back l R p e below s args y 3 W9 Pre Post)
    {g : JFrame} (hg : g.method = m) (hsize : g.locals.size = c.maxLocals) {argsL rest : List Value} (hlen : ∀ sig, parseMethodDescriptor y.desc = some sig → argsL.length = sig.parameters.length)
    (hstack : g.stack = argsL.reverse ++ rest) (hW : 2 * g.monitorRoom + (rest.map fun v => v.category).sum ≤ W9) (hdg : decode c.code g.pc = .ok (.invokestatic index, 3))
    (hpre : ∀ vm₁, s.WarmedH vm₁ → Pre ⟨T.setVm vm₁, locs, cells, slots⟩ argsL.toArray) :
    ∃ (v : Option Value) (vm₁ : Vm) (B : Pt), s.WarmedH vm₁ ∧ Stand p l e R s m args below meth c B.U B.locs B.cells B.slots ∧ Post ⟨T.setVm vm₁, locs, cells, slots⟩ argsL.toArray v B ∧
      ∀ target, Steps p.tables e below (B.U.setTop { g with pc := g.pc + 3, stack := v.toList ++ rest }) target → Steps p.tables e below (T.setTop g) target := by
  obtain ⟨mk, methM, cM, hnamed, hmethM, -, -, -, -, -, -, hsigM⟩ := Cond.codeWith_spec hcode
  have hstatic : methM.isStatic = true := Cond.static_spec hnamed hmethM hstat
  obtain ⟨kP, hkP, -⟩ := className_of_methodNamed hnamed
  have hinitP : kP.init = .initialized := Cond.initialized_spec (findClass_of_methodNamed hnamed) hkP hinit
  obtain ⟨vm₁, X₁, hstep₁⟩ := X.invokestatic hexec hown hlink hnamed hmethM hstatic hkP hinitP hy (g := g) hg (argsL := argsL) (rest := rest) (hlen _ hsigM) hstack hdg
  obtain ⟨v, B, X', hpost, hsteps⟩ := hK m meth c ⟨T.setVm vm₁, locs, cells, slots⟩ { g with stack := rest } (.invokestatic index) mk argsL.toArray X₁ hg hsize hdg hW (X₁.named hnamed) (hpre vm₁ X₁.warmed)
  exact ⟨v, vm₁, B, X₁.warmed, X', hpost, fun target h => hstep₁ _ fun acts => by rw [doInvoke_state]; exact hsteps.trans h⟩
theorem vx_runSW {y : MethodName} {bytes cc : ByteArray} {maxL nL mc ms n index : Nat} {ret : Option FieldType} {hh : List (Nat × Nat × Nat × Nat)} {ws : List Cond} {rm : Room} {Pc : Array Value → State → Prop} {Qc : Array Value → State → Outcome → State → Prop} {free : Addr → Prop} {Ts : List Cond} {own : String} {As rest : List Value} {g : JFrame}
    (S : CallFix p m c cc nL s args Ts own) (hM : Met l y ws rm Pc Qc mc ms free) (cw : vx_CSW R s args own index y bytes maxL ret hh ws rm mc ms n) (hp : PreS s H Pc As)
    (hg : g.method = m) (hn : As.length = n) (hsize : g.locals.size = nL) (hstack : g.stack = As.reverse ++ rest) (hW : 2 * g.monitorRoom + (rest.map fun v => v.category).sum ≤ 8) (hdg : decode cc g.pc = .ok (.invokestatic index, 3)) (hf : cells + mc ≤ R.cells ∧ slots + ms ≤ R.slots) :
    va_Run p l e R s m args below meth c H locs cells slots mc ms g rest (Qc As.toArray) (free) := by
  obtain ⟨⟨hrc, hrs, hfr, hlo, hws, hcw⟩, hcode, hini, hy, hlen, hl, hstt⟩ := cw
  have hK : Back l R p e below s args y 3 8 (PreOf R mc ms Pc) (PostOf Qc mc ms free) := va_backW (hh := hh) (bytes := bytes) (maxL := maxL) (ret := ret) hM hp.1 hrc hrs hfr hlo hws hcw (fun a' U hW => word_at hW (Or.inl (by first | rfl | simp [Cond.onTables, Cond.keeps, Cond.steady])) hini)
  obtain ⟨hx, hb, hml, ho, -⟩ := S
  intro T hT X
  obtain ⟨v, vm₁, ⟨U', l2, c2, s2⟩, hW₁, X', ⟨g', mk, t, L, e1, e2, hq, h1, hL, h2, h3⟩, st⟩ := vx_callSW X hx (hh := hh) (bytes := bytes) (maxL := maxL) (ret := ret) ho hl hstt hini hcode hy hK hg (hsize.trans hml.symm) (argsL := As) (rest := rest) (fun sig h => hn.trans (hlen sig h)) hstack hW (by rw [hb]; exact hdg)
    (fun vm₁ hW₁ => ⟨hf.1, hf.2, hp.2 (T.setVm vm₁) hT hW₁⟩)
  dsimp only [Pt.U, Pt.locs, Pt.cells, Pt.slots] at X' e1 e2 h1 h2 h3 st
  subst h1; subst h2; subst h3
  exact ⟨v, (T.setVm vm₁).calling g' mk As.toArray, t, U', L, hT, X', hL, e1, e2, hq, st⟩
/-- not caught here, past rows that name other classes: it goes on to the caller -/
theorem vx_outP {p : Program} {l : Launch} {e : Env} {R : Room} {s : State} {m : MethodId} {args : Array Value} {below : List Frame} {meth : Method} {c : Code} {H : Heap} {locs : List Loc} {cells slots : Nat} {free : Addr → Prop} {ls : Array Slot} {rest : List Value} {Qc : Array Value → State → Outcome → State → Prop} {XC : String → State → State → Prop}
    {pc : Nat} {own E : String} {ce : Cell} {q : Addr} {mc ms : Nat} (hown : s.vm.findClass own = some m.cls) (hlocks : meth.locks = false)
    (hpass : ∀ z ∈ c.exceptionTable.toList, covers z pc = false ∨ (z.catchType ≠ 0 ∧ ∃ nm : String, (Cond.classLink own z.catchType nm).before args s = true ∧ va_Nc E nm s)) (hcell : H[q]? = some ce) (hv : ce.vm = .none) (hcl : s.vm.findClass E = some ce.cls)
    (hx : ∀ t : State, t.heap = H → s.vm.Alike t.vm → XC E s t) (hf : ∀ z ∈ locs, free z.base) (hc : cells ≤ mc) (hs : slots ≤ ms) :
    vx_W p l e R s m args below meth c H locs cells slots (vx_MQ below Qc XC args s mc ms free) (F0 m pc ls rest) q := by
  intro T hT X
  have hpl : e.platform.magicAccessors = ({} : Platform).magicAccessors := by rw [X.admits.platform]
  obtain ⟨vm', hW', X', st⟩ := X.outThrough hlocks q (g := F0 m pc ls rest) rfl rfl rfl (cell := ce) (by rw [hT]; exact hcell) (by rw [hv]; rfl)
    (by obtain ⟨k9, h9, -⟩ := Vm.findClass_spec hcl; exact ⟨k9, h9⟩) (fun z hz => by
      rcases hpass z hz with h | ⟨hz0, nm, hl1, hn1⟩
      · exact Or.inl h
      · obtain ⟨c6, hc6, hcl6⟩ := Cond.classLink_spec hown hl1 e.platform hpl
        obtain ⟨a8, b8, h1, h2, h3⟩ := hn1
        cases Option.some.inj (h1.symm.trans hcl)
        cases Option.some.inj (h2.symm.trans hc6)
        exact Or.inr ⟨hz0, _, hcl6, h3⟩)
  obtain ⟨g₀, hfr⟩ := X'.frames_eq
  have hcell9 : ((T.setVm vm').setFrames (.throwing q :: below)).heap[q]? = some ce := by
    show T.heap[q]? = some ce
    rw [hT]; exact hcell
  have hend : Ended ((T.setVm vm').setFrames (.throwing q :: below)) below (.threw q) := State.frames_setFrames _ (State.cur_lt_of_frames hfr)
  refine ⟨(T.setVm vm').setFrames (.throwing q :: below), ?_, .threw q, X'.here.running, hend, Or.inr ⟨q, rfl, E, ce, locs, hx _ hT (X'.ends _).1.alike, hcell9, hv, hcl, (X'.ends _).1, (X'.ends _).2.mono hc hs, hf⟩⟩
  rw [X.pushThrowing_eq]
  exact st
/-- a thing of a world lies in the heap -/
theorem vx_lt {D : va_G} {cl : List vw_C} {ws : va_W} {H1 : Heap} (h : va_P D cl ws H1) {k : Nat} {q : Nat × va_E} (hk : ws[k]? = some q) : q.1 < H1.size := (h k q hk).lt
end VXS
/-! ===== END ===== -/
/-! ===== BEGIN methods with a table of their own: called by a name, returning or throwing ===== -/
section VXH
/-! vx_backW, vx_callVX, vx_callSX, vx_callVW, vx_runVW, vx_runVX, vx_runSX, vx_ofWH follow the same proofs as their sisters above (Free/Laws.lean, Shelf42/LK1.lean); vx_outP calls Shelf42/NT130.lean (outThrough). -/
section
variable {l : Launch} {R : Room} {p : Program} {e : Env} {below : List Frame} {s : State} {sargs : Array Value} {y : MethodName} {len W9 : Nat}
theorem vx_backW {ws : List Cond} {rm : Room} {Pc : Array Value → State → Prop} {Qc : Array Value → State → Outcome → State → Prop} {XC : String → State → State → Prop} {mc ms : Nat} {free : Addr → Prop} {bytes : ByteArray} {maxL : Nat} {ret : Option FieldType} {hh : List (Nat × Nat × Nat × Nat)}
    (hM : vx_Met l y ws rm Pc Qc XC mc ms free) (hblind : FrameBlind Pc) (hrc : rm.cells = mc) (hrs : rm.slots = ms)
    (hframes : rm.frames + 1 ≤ R.frames) (hlocals : W9 + (maxL + 11) + rm.locals ≤ R.locals)
    (hws : ∀ w ∈ ws, ∀ a' U, s.WarmedH U.vm → w.before a' U = true) (hcode : Cond.codeWith y bytes maxL ret hh ∈ ws) (hinit : ∀ a' U, s.WarmedH U.vm → (Cond.initialized y.cls).before a' U = true) :
    vx_Back l R p e below s sargs y len W9 (PreOf R mc ms Pc) (PostOf Qc mc ms free) (vx_Post XC mc ms free) := by
  intro m meth c A g ig mk a X hg hsize hdg hW hn hp
  have h1 : (headSpec ws rm).pre.before a A.U = true := atoms_intro fun w hw => hws w hw _ _ X.warmed
  have h2 : (Cond.codeWith y bytes maxL ret hh).before a A.U = true := hws _ hcode _ _ X.warmed
  have h3 : (Cond.initialized y.cls).before a A.U = true := hinit _ _ X.warmed
  have h4 : A.cells + (headSpec ws rm).room.cells ≤ R.cells := by rw [show (headSpec ws rm).room.cells = mc from hrc]; exact hp.1
  have h5 : A.slots + (headSpec ws rm).room.slots ≤ R.slots := by rw [show (headSpec ws rm).room.slots = ms from hrs]; exact hp.2.1
  have hPc : Pc a (A.U.calling g mk a) := hblind _ _ _ _ hp.2.2
  obtain ⟨U, Ls, c0, s0⟩ := A
  dsimp only [Pt.U, Pt.locs, Pt.cells, Pt.slots] at h1 h2 h3 h4 h5 X hn hPc ⊢
  obtain ⟨m9, methY, cY, hn9, hmY, hcY, -, hlY, -⟩ := Cond.codeWith_spec h2
  cases Option.some.inj (hn9.symm.trans hn)
  obtain ⟨kY, hkY, -⟩ := className_of_methodNamed hn
  have hinitY : kY.init = .initialized := Cond.initialized_spec (findClass_of_methodNamed hn) hkY h3
  have h : At U g.method c below := by rw [hg]; exact X.here
  have hlocals9 : W9 + (maxL + 11) + (headSpec ws rm).room.locals ≤ R.locals := hlocals
  have happ : (headSpec ws rm).appliesLoose y e.platform (U.calling g mk a) = true :=
    Spec.appliesLoose_calling (g := g) h hdg hn hkY hinitY
      (X.room_calling (g := g) (R' := (headSpec ws rm).room) hsize hmY hcY hframes (by rw [hlY]; omega) h4 h5) h1
  obtain ⟨mid, hmid⟩ := h.above
  have hfr : (U.setTop g).frames = (.java g :: mid) ++ below := by rw [State.frames_setTop' g h.top, hmid]; rfl
  obtain ⟨o, s₂, hsteps, -, hend, hq⟩ := Steps.callFree hM p X.admits X.cas X.clock (acts := []) hfr happ hPc trivial
  have hq' : vx_Q Qc XC mc ms free a (U.calling g mk a) o s₂ := hq
  rw [State.frames_setTop' g h.top] at hend
  obtain ⟨g₀, hg0⟩ := Option.isSome_iff_exists.mp h.top
  obtain ⟨r, hr⟩ := State.topJava?_eq_some.mp hg0
  have hr' : (({ U with heap := s₂.heap, slotsUsed := s₂.slotsUsed } : State).setVm s₂.vm).frames = .java g₀ :: r := hr
  rcases hq' with ⟨hqc, L, hfe, hL⟩ | ⟨q, rfl, E, ce, L, hx, hce, hcv, hcl, hW₂, hsm, hL⟩
  · obtain ⟨⟨v, rfl⟩, hW₂, e2, q2, q3, q4, q5, q6⟩ := id hfe
    have e3 : s₂ = ({ (U.calling g mk a).setFrames s₂.frames with heap := s₂.heap, slotsUsed := s₂.slotsUsed } : State).setVm s₂.vm := by
      have : s₂ = ({ s₂ with vm := (U.calling g mk a).vm } : State).setVm s₂.vm := rfl
      rw [e2] at this
      exact this
    obtain ⟨c₂, i₂, len₂, hc₂, hd₂, hf₂⟩ := hend
    have hW' : U.WarmedH s₂.vm := hW₂
    have hcc : c₂ = c := by
      have h1 : s₂.code? g.method = U.code? g.method := by
        rw [State.code?_eq, State.code?_eq, hW'.alike.method?]
      exact Option.some.inj (hc₂.symm.trans (h1.trans h.code))
    subst hcc
    have hlen : len₂ = len := by rw [hdg] at hd₂; cases hd₂; rfl
    subst hlen
    have hs₂ : s₂ = (({ U with heap := s₂.heap, slotsUsed := s₂.slotsUsed } : State).setVm s₂.vm).setTop { g with pc := g.pc + len₂, stack := v.toList ++ g.stack } := by
      refine e3.trans ?_
      rw [hf₂, State.calling_eq h.top, State.setFrames_setFrames, State.setTop_of_frames _ hr', hr]
      rfl
    have hsame : U.sameButNew ({ U with heap := s₂.heap, slotsUsed := s₂.slotsUsed } : State) L mc ms := by
      refine ⟨?_, q2, q3, q4, q5, q6⟩
      obtain ⟨t, ht, -⟩ := State.frames_cons hr
      show ({ U with heap := s₂.heap, slotsUsed := s₂.slotsUsed } : State) = { U.setFrames U.frames with heap := s₂.heap, slotsUsed := s₂.slotsUsed }
      rw [State.setFrames_self ht]
    subst hg
    refine Or.inl ⟨v, ⟨(({ U with heap := s₂.heap, slotsUsed := s₂.slotsUsed } : State).setVm s₂.vm), Ls ++ L, c0 + mc, s0 + ms⟩,
      ⟨X.admits, X.cas, X.clock, X.frames, X.room, X.hears, X.method, X.code, (X.here.setHeapUsed s₂.heap s₂.slotsUsed).setVm hW'.alike, X.tail, State.WarmedH.trans X.warmed hW', X.limits, X.bytes, X.same.trans (hsame.setVm s.vm)⟩,
      ⟨g, mk, s₂, L, rfl, rfl, hqc, rfl, hL, rfl, rfl⟩, ?_⟩
    show Steps p.tables e below _ ((({ U with heap := s₂.heap, slotsUsed := s₂.slotsUsed } : State).setVm s₂.vm).setTop { g with pc := g.pc + len₂, stack := v.toList ++ g.stack })
    rw [← hs₂]
    exact hsteps
  · obtain ⟨e2, q2, q3, q4, q5, q6⟩ := id hsm
    have e3 : s₂ = ({ (U.calling g mk a).setFrames s₂.frames with heap := s₂.heap, slotsUsed := s₂.slotsUsed } : State).setVm s₂.vm := by
      have : s₂ = ({ s₂ with vm := (U.calling g mk a).vm } : State).setVm s₂.vm := rfl
      rw [e2] at this
      exact this
    have hf₂ : s₂.frames = .throwing q :: .java g :: U.frames.tail := hend
    have hW' : U.WarmedH s₂.vm := hW₂
    have hs₂ : s₂ = ((({ U with heap := s₂.heap, slotsUsed := s₂.slotsUsed } : State).setVm s₂.vm).setTop g).pushFrame (.throwing q) := by
      refine e3.trans ?_
      rw [hf₂, State.calling_eq h.top, State.setFrames_setFrames, State.pushFrame, State.frames_setTop _ hr', State.setTop_of_frames _ hr', State.setFrames_setFrames, hr]
      rfl
    have hsame : U.sameButNew ({ U with heap := s₂.heap, slotsUsed := s₂.slotsUsed } : State) L mc ms := by
      refine ⟨?_, q2, q3, q4, q5, q6⟩
      obtain ⟨t, ht, -⟩ := State.frames_cons hr
      show ({ U with heap := s₂.heap, slotsUsed := s₂.slotsUsed } : State) = { U.setFrames U.frames with heap := s₂.heap, slotsUsed := s₂.slotsUsed }
      rw [State.setFrames_self ht]
    subst hg
    refine Or.inr ⟨q, ⟨(({ U with heap := s₂.heap, slotsUsed := s₂.slotsUsed } : State).setVm s₂.vm), Ls ++ L, c0 + mc, s0 + ms⟩,
      ⟨X.admits, X.cas, X.clock, X.frames, X.room, X.hears, X.method, X.code, (X.here.setHeapUsed s₂.heap s₂.slotsUsed).setVm hW'.alike, X.tail, State.WarmedH.trans X.warmed hW', X.limits, X.bytes, X.same.trans (hsame.setVm s.vm)⟩,
      ⟨g, mk, s₂, L, E, ce, rfl, rfl, hx, hce, hcv, hcl, rfl, hL, rfl, rfl⟩, ?_⟩
    show Steps p.tables e below _ (((({ U with heap := s₂.heap, slotsUsed := s₂.slotsUsed } : State).setVm s₂.vm).setTop g).pushFrame (.throwing q))
    rw [← hs₂]
    exact hsteps
end
variable {p : Program} {l : Launch} {e : Env} {R : Room} {s : State} {m : MethodId} {args : Array Value} {below : List Frame} {meth : Method} {c : Code} {T : State} {H : Heap} {locs : List Loc} {cells slots : Nat}
theorem vx_callVX (X : Stand p l e R s m args below meth c T locs cells slots) (hexec : p.tables.exec = Jvm.exec) {own C : String} {index : Nat} {y : MethodName} {bytes : ByteArray} {maxL : Nat} {ret : Option FieldType} {hh : List (Nat × Nat × Nat × Nat)}
    (hown : s.vm.findClass own = some m.cls) (hlink : (Cond.methodLink own index y).before args s = true) (hinst : (Cond.instanceMethod y).before args s = true) (hsel : (Cond.selects C y y).before args s = true)
    (hcode : (Cond.codeWith y bytes maxL ret hh).before args s = true) (hy : y.cls ≠ "java/lang/invoke/MethodHandle" ∧ y.cls ≠ "java/lang/invoke/VarHandle")
    {W9 : Nat} {Pre : Pt → Array Value → Prop} {Post : Pt → Array Value → Option Value → Pt → Prop} {PostX : Pt → Array Value → Addr → Pt → Prop} (hK : vx_Back l R p e below s args y 3 W9 Pre Post PostX)
    {b : Addr} {cellB : Cell} (hcell : T.heap[b]? = some cellB) (hobj : cellB.vm.isStatics = false) (hcls : s.vm.findClass C = some cellB.cls)
    {g : JFrame} (hg : g.method = m) (hsize : g.locals.size = c.maxLocals) {argsL rest : List Value} (hlen : ∀ sig, parseMethodDescriptor y.desc = some sig → argsL.length = sig.parameters.length)
    (hstack : g.stack = argsL.reverse ++ .ref b :: rest) (hW : 2 * g.monitorRoom + (rest.map fun v => v.category).sum ≤ W9) (hdg : decode c.code g.pc = .ok (.invokevirtual index, 3))
    (hpre : ∀ vm₁, s.WarmedH vm₁ → Pre ⟨T.setVm vm₁, locs, cells, slots⟩ (Value.ref b :: argsL).toArray) :
    (∃ (v : Option Value) (vm₁ : Vm) (B : Pt), s.WarmedH vm₁ ∧ Stand p l e R s m args below meth c B.U B.locs B.cells B.slots ∧ Post ⟨T.setVm vm₁, locs, cells, slots⟩ (Value.ref b :: argsL).toArray v B ∧
      ∀ target, Steps p.tables e below (B.U.setTop { g with pc := g.pc + 3, stack := v.toList ++ rest }) target → Steps p.tables e below (T.setTop g) target) ∨
    (∃ (q : Addr) (vm₁ : Vm) (B : Pt), s.WarmedH vm₁ ∧ Stand p l e R s m args below meth c B.U B.locs B.cells B.slots ∧ PostX ⟨T.setVm vm₁, locs, cells, slots⟩ (Value.ref b :: argsL).toArray q B ∧
      Steps p.tables e below (T.setTop g) ((B.U.setTop { g with stack := rest }).pushFrame (.throwing q))) := by
  obtain ⟨mk, methM, hnamed, hmethM, hstM, habM⟩ := Cond.instanceMethod_spec hinst
  obtain ⟨m8, methM', cM, hn8, hmethM', -, -, -, -, -, -, hsigM⟩ := Cond.codeWith_spec hcode
  cases Option.some.inj (hn8.symm.trans hnamed)
  cases hmethM.symm.trans hmethM'
  obtain ⟨c2, r2, m2, q1, q2, q3, q4, kP, hkP, hkPi⟩ := Cond.selects_spec hsel
  cases hcls.symm.trans q1
  cases (State.methodFound?_of_named hnamed hy).symm.trans q2
  cases hnamed.symm.trans q3
  have hselP : selectMethod e.platform s.vm cellB.cls mk = .method mk := by rw [Launch.admits_selectMethod X.admits]; exact q4
  obtain ⟨vm₁, X₁, hstep₁⟩ := X.invokevirtual hexec hown hlink hnamed hmethM hstM hkP hkPi hy (a := b) (cell := cellB) hcell
    (fun z h => by rw [h] at hobj; cases hobj) hselP hmethM habM hkP hkPi (g := g) hg (argsL := argsL) (rest := rest) (hlen _ hsigM) hstack hdg
  rcases hK m meth c ⟨T.setVm vm₁, locs, cells, slots⟩ { g with stack := rest } (.invokevirtual index) mk (Value.ref b :: argsL).toArray X₁ hg hsize hdg hW (X₁.named hnamed) (hpre vm₁ X₁.warmed) with ⟨v, B, X', hpost, hsteps⟩ | ⟨q, B, X', hpost, hsteps⟩
  · exact Or.inl ⟨v, vm₁, B, X₁.warmed, X', hpost, fun target h => hstep₁ _ fun acts => by rw [doInvoke_state]; exact hsteps.trans h⟩
  · exact Or.inr ⟨q, vm₁, B, X₁.warmed, X', hpost, hstep₁ _ fun acts => by rw [doInvoke_state]; exact hsteps⟩
theorem vx_callSX (X : Stand p l e R s m args below meth c T locs cells slots) (hexec : p.tables.exec = Jvm.exec) {own : String} {index : Nat} {y : MethodName} {bytes : ByteArray} {maxL : Nat} {ret : Option FieldType} {hh : List (Nat × Nat × Nat × Nat)}
    (hown : s.vm.findClass own = some m.cls) (hlink : (Cond.methodLink own index y).before args s = true) (hstat : (Cond.static y).before args s = true) (hinit : (Cond.initialized y.cls).before args s = true)
    (hcode : (Cond.codeWith y bytes maxL ret hh).before args s = true) (hy : y.cls ≠ "java/lang/invoke/MethodHandle" ∧ y.cls ≠ "java/lang/invoke/VarHandle")
    {W9 : Nat} {Pre : Pt → Array Value → Prop} {Post : Pt → Array Value → Option Value → Pt → Prop} {PostX : Pt → Array Value → Addr → Pt → Prop} (hK : vx_Back l R p e below s args y 3 W9 Pre Post PostX)
    {g : JFrame} (hg : g.method = m) (hsize : g.locals.size = c.maxLocals) {argsL rest : List Value} (hlen : ∀ sig, parseMethodDescriptor y.desc = some sig → argsL.length = sig.parameters.length)
    (hstack : g.stack = argsL.reverse ++ rest) (hW : 2 * g.monitorRoom + (rest.map fun v => v.category).sum ≤ W9) (hdg : decode c.code g.pc = .ok (.invokestatic index, 3))
    (hpre : ∀ vm₁, s.WarmedH vm₁ → Pre ⟨T.setVm vm₁, locs, cells, slots⟩ argsL.toArray) :
    (∃ (v : Option Value) (vm₁ : Vm) (B : Pt), s.WarmedH vm₁ ∧ Stand p l e R s m args below meth c B.U B.locs B.cells B.slots ∧ Post ⟨T.setVm vm₁, locs, cells, slots⟩ argsL.toArray v B ∧
      ∀ target, Steps p.tables e below (B.U.setTop { g with pc := g.pc + 3, stack := v.toList ++ rest }) target → Steps p.tables e below (T.setTop g) target) ∨
    (∃ (q : Addr) (vm₁ : Vm) (B : Pt), s.WarmedH vm₁ ∧ Stand p l e R s m args below meth c B.U B.locs B.cells B.slots ∧ PostX ⟨T.setVm vm₁, locs, cells, slots⟩ argsL.toArray q B ∧
      Steps p.tables e below (T.setTop g) ((B.U.setTop { g with stack := rest }).pushFrame (.throwing q))) := by
  obtain ⟨mk, methM, cM, hnamed, hmethM, -, -, -, -, -, -, hsigM⟩ := Cond.codeWith_spec hcode
  have hstatic : methM.isStatic = true := Cond.static_spec hnamed hmethM hstat
  obtain ⟨kP, hkP, -⟩ := className_of_methodNamed hnamed
  have hinitP : kP.init = .initialized := Cond.initialized_spec (findClass_of_methodNamed hnamed) hkP hinit
  obtain ⟨vm₁, X₁, hstep₁⟩ := X.invokestatic hexec hown hlink hnamed hmethM hstatic hkP hinitP hy (g := g) hg (argsL := argsL) (rest := rest) (hlen _ hsigM) hstack hdg
  rcases hK m meth c ⟨T.setVm vm₁, locs, cells, slots⟩ { g with stack := rest } (.invokestatic index) mk argsL.toArray X₁ hg hsize hdg hW (X₁.named hnamed) (hpre vm₁ X₁.warmed) with ⟨v, B, X', hpost, hsteps⟩ | ⟨q, B, X', hpost, hsteps⟩
  · exact Or.inl ⟨v, vm₁, B, X₁.warmed, X', hpost, fun target h => hstep₁ _ fun acts => by rw [doInvoke_state]; exact hsteps.trans h⟩
  · exact Or.inr ⟨q, vm₁, B, X₁.warmed, X', hpost, hstep₁ _ fun acts => by rw [doInvoke_state]; exact hsteps⟩
theorem vx_callVW (X : Stand p l e R s m args below meth c T locs cells slots) (hexec : p.tables.exec = Jvm.exec) {own C : String} {index : Nat} {y : MethodName} {bytes : ByteArray} {maxL : Nat} {ret : Option FieldType} {hh : List (Nat × Nat × Nat × Nat)}
    (hown : s.vm.findClass own = some m.cls) (hlink : (Cond.methodLink own index y).before args s = true) (hinst : (Cond.instanceMethod y).before args s = true) (hsel : (Cond.selects C y y).before args s = true)
    (hcode : (Cond.codeWith y bytes maxL ret hh).before args s = true) (hy : y.cls ≠ "java/lang/invoke/MethodHandle" ∧ y.cls ≠ "java/lang/invoke/VarHandle")
    {W9 : Nat} {Pre : Pt → Array Value → Prop} {Post : Pt → Array Value → Option Value → Pt → Prop} (hK : Back l R p e below s args y 3 W9 Pre Post)
    {b : Addr} {cellB : Cell} (hcell : T.heap[b]? = some cellB) (hobj : cellB.vm.isStatics = false) (hcls : s.vm.findClass C = some cellB.cls)
    {g : JFrame} (hg : g.method = m) (hsize : g.locals.size = c.maxLocals) {argsL rest : List Value} (hlen : ∀ sig, parseMethodDescriptor y.desc = some sig → argsL.length = sig.parameters.length)
    (hstack : g.stack = argsL.reverse ++ .ref b :: rest) (hW : 2 * g.monitorRoom + (rest.map fun v => v.category).sum ≤ W9) (hdg : decode c.code g.pc = .ok (.invokevirtual index, 3))
    (hpre : ∀ vm₁, s.WarmedH vm₁ → Pre ⟨T.setVm vm₁, locs, cells, slots⟩ (Value.ref b :: argsL).toArray) :
    ∃ (v : Option Value) (vm₁ : Vm) (B : Pt), s.WarmedH vm₁ ∧ Stand p l e R s m args below meth c B.U B.locs B.cells B.slots ∧ Post ⟨T.setVm vm₁, locs, cells, slots⟩ (Value.ref b :: argsL).toArray v B ∧
      ∀ target, Steps p.tables e below (B.U.setTop { g with pc := g.pc + 3, stack := v.toList ++ rest }) target → Steps p.tables e below (T.setTop g) target := by
  obtain ⟨mk, methM, hnamed, hmethM, hstM, habM⟩ := Cond.instanceMethod_spec hinst
  obtain ⟨m8, methM', cM, hn8, hmethM', -, -, -, -, -, -, hsigM⟩ := Cond.codeWith_spec hcode
  cases Option.some.inj (hn8.symm.trans hnamed)
  cases hmethM.symm.trans hmethM'
  obtain ⟨c2, r2, m2, q1, q2, q3, q4, kP, hkP, hkPi⟩ := Cond.selects_spec hsel
  cases hcls.symm.trans q1
  cases (State.methodFound?_of_named hnamed hy).symm.trans q2
  cases hnamed.symm.trans q3
  have hselP : selectMethod e.platform s.vm cellB.cls mk = .method mk := by rw [Launch.admits_selectMethod X.admits]; exact q4
  obtain ⟨vm₁, X₁, hstep₁⟩ := X.invokevirtual hexec hown hlink hnamed hmethM hstM hkP hkPi hy (a := b) (cell := cellB) hcell
    (fun z h => by rw [h] at hobj; cases hobj) hselP hmethM habM hkP hkPi (g := g) hg (argsL := argsL) (rest := rest) (hlen _ hsigM) hstack hdg
  obtain ⟨v, B, X', hpost, hsteps⟩ := hK m meth c ⟨T.setVm vm₁, locs, cells, slots⟩ { g with stack := rest } (.invokevirtual index) mk (Value.ref b :: argsL).toArray X₁ hg hsize hdg hW (X₁.named hnamed) (hpre vm₁ X₁.warmed)
  exact ⟨v, vm₁, B, X₁.warmed, X', hpost, fun target h => hstep₁ _ fun acts => by rw [doInvoke_state]; exact hsteps.trans h⟩
abbrev vx_CVW (R : Room) (s : State) (args : Array Value) (own C : String) (index : Nat) (y : MethodName) (bytes : ByteArray) (maxL : Nat) (ret : Option FieldType) (hh : List (Nat × Nat × Nat × Nat)) (ws : List Cond) (rm : Room) (mc ms n : Nat) : Prop :=
  (rm.cells = mc ∧ rm.slots = ms ∧ rm.frames + 1 ≤ R.frames ∧ 8 + (maxL + 11) + rm.locals ≤ R.locals ∧ (∀ w ∈ ws, ∀ (a' : Array Value) (U : State), s.WarmedH U.vm → w.before a' U = true) ∧ Cond.codeWith y bytes maxL ret hh ∈ ws) ∧
  (Cond.codeWith y bytes maxL ret hh).before args s = true ∧ (Cond.initialized y.cls).before args s = true ∧ (y.cls ≠ "java/lang/invoke/MethodHandle" ∧ y.cls ≠ "java/lang/invoke/VarHandle") ∧
  (∀ sig, parseMethodDescriptor y.desc = some sig → n = sig.parameters.length) ∧ (Cond.methodLink own index y).before args s = true ∧ (Cond.instanceMethod y).before args s = true ∧ (Cond.selects C y y).before args s = true
theorem vx_cwVW {own C : String} {index maxL mc ms : Nat} {y : MethodName} {bytes : ByteArray} {ret : Option FieldType} {hh : List (Nat × Nat × Nat × Nat)} {Ts ws ws' : List Cond} {rm : Room} (n : Nat) (ht : ∀ w ∈ Ts, w.before args s = true) (hT : GoodIn Ts (wsV own index C y ws)) (hw : ws = Cond.codeWith y bytes maxL ret hh :: ws') (hrc : rm.cells = mc) (hrs : rm.slots = ms)
    (hd : y.cls = C ∧ y.cls ≠ "java/lang/invoke/MethodHandle" ∧ y.cls ≠ "java/lang/invoke/VarHandle" ∧ (parseMethodDescriptor y.desc).map (fun d => d.parameters.length) = some n) (hR : rm.frames + 1 ≤ R.frames ∧ 8 + (maxL + 11) + rm.locals ≤ R.locals) :
    vx_CVW R s args own C index y bytes maxL ret hh ws rm mc ms n := by
  obtain ⟨hC, hd⟩ := hd
  subst hC
  have ok : ∀ w ∈ wsV own index y.cls y ws, w.before args s = true := fun w h => ht w (hT w h).1
  have hG : GoodIn Ts ws := fun w h => hT w (by unfold wsV; exact List.mem_append_right _ h)
  have hc : Cond.codeWith y bytes maxL ret hh ∈ ws := by rw [hw]; exact List.mem_cons_self
  refine ⟨⟨hrc, hrs, hR.1, hR.2, pay_in ht hG, hc⟩, ht _ (hG _ hc).1, ok _ (by simp [wsV]), ⟨hd.1, hd.2.1⟩, fun sig h => ?_, ok _ (by simp [wsV]), ok _ (by simp [wsV]), ok _ (by simp [wsV])⟩
  have h2 := hd.2.2
  rw [h] at h2
  exact (Option.some.inj h2).symm
theorem vx_runVW {y : MethodName} {bytes cc : ByteArray} {maxL nL mc ms n index : Nat} {ret : Option FieldType} {hh : List (Nat × Nat × Nat × Nat)} {ws : List Cond} {rm : Room} {Pc : Array Value → State → Prop} {Qc : Array Value → State → Outcome → State → Prop} {free : Addr → Prop} {Ts : List Cond} {own C : String} {b : Addr} {As rest : List Value} {g : JFrame}
    (S : CallFix p m c cc nL s args Ts own) (hM : Met l y ws rm Pc Qc mc ms free) (cw : vx_CVW R s args own C index y bytes maxL ret hh ws rm mc ms n) (hp : PreV s H C b Pc As)
    (hg : g.method = m) (hn : As.length = n) (hsize : g.locals.size = nL) (hstack : g.stack = As.reverse ++ .ref b :: rest) (hW : 2 * g.monitorRoom + (rest.map fun v => v.category).sum ≤ 8) (hdg : decode cc g.pc = .ok (.invokevirtual index, 3)) (hf : cells + mc ≤ R.cells ∧ slots + ms ≤ R.slots) :
    va_Run p l e R s m args below meth c H locs cells slots mc ms g rest (Qc (Value.ref b :: As).toArray) free := by
  obtain ⟨⟨hrc, hrs, hfr, hlo, hws, hcw⟩, hcode, hini, hy, hlen, hl, hin, hse⟩ := cw
  have hK : Back l R p e below s args y 3 8 (PreOf R mc ms Pc) (PostOf Qc mc ms free) := va_backW (hh := hh) (bytes := bytes) (maxL := maxL) (ret := ret) hM hp.1 hrc hrs hfr hlo hws hcw (fun a' U hW => word_at hW (Or.inl (by first | rfl | simp [Cond.onTables, Cond.keeps, Cond.steady])) hini)
  obtain ⟨hx, hb, hml, ho, -⟩ := S
  obtain ⟨-, ⟨cellB, hcB, hoB, hclB⟩, hPc⟩ := hp
  intro T hT X
  obtain ⟨v, vm₁, ⟨U', l2, c2, s2⟩, hW₁, X', ⟨g', mk, t, L, e1, e2, hq, h1, hL, h2, h3⟩, st⟩ := vx_callVW X hx (C := C) (hh := hh) (bytes := bytes) (maxL := maxL) (ret := ret) ho hl hin hse hcode hy hK (by rw [hT]; exact hcB) hoB hclB hg (hsize.trans hml.symm) (argsL := As) (rest := rest) (fun sig h => hn.trans (hlen sig h)) hstack hW (by rw [hb]; exact hdg)
    (fun vm₁ hW₁ => ⟨hf.1, hf.2, hPc (T.setVm vm₁) hT hW₁⟩)
  dsimp only [Pt.U, Pt.locs, Pt.cells, Pt.slots] at X' e1 e2 h1 h2 h3 st
  subst h1; subst h2; subst h3
  exact ⟨v, (T.setVm vm₁).calling g' mk (Value.ref b :: As).toArray, t, U', L, hT, X', hL, e1, e2, hq, st⟩
section
variable {y : MethodName} {bytes cc : ByteArray} {maxL nL mc ms n index : Nat} {ret : Option FieldType} {ws : List Cond} {rm : Room} {Pc : Array Value → State → Prop} {Qc : Array Value → State → Outcome → State → Prop} {XC : String → State → State → Prop} {free : Addr → Prop} {Ts : List Cond} {own C : String} {b : Addr} {As rest : List Value} {g : JFrame}
theorem vx_runVX {hh : List (Nat × Nat × Nat × Nat)} (S : CallFix p m c cc nL s args Ts own) (hM : vx_Met l y ws rm Pc Qc XC mc ms free) (cw : vx_CVW R s args own C index y bytes maxL ret hh ws rm mc ms n) (hp : PreV s H C b Pc As)
    (hg : g.method = m) (hn : As.length = n) (hsize : g.locals.size = nL) (hstack : g.stack = As.reverse ++ .ref b :: rest) (hW : 2 * g.monitorRoom + (rest.map fun v => v.category).sum ≤ 8) (hdg : decode cc g.pc = .ok (.invokevirtual index, 3)) (hf : cells + mc ≤ R.cells ∧ slots + ms ≤ R.slots) :
    vx_Run p l e R s m args below meth c H locs cells slots mc ms g rest (Qc (Value.ref b :: As).toArray) XC free := by
  obtain ⟨⟨hrc, hrs, hfr, hlo, hws, hcw⟩, hcode, hini, hy, hlen, hl, hin, hse⟩ := cw
  have hK : vx_Back l R p e below s args y 3 8 (PreOf R mc ms Pc) (PostOf Qc mc ms free) (vx_Post XC mc ms free) := vx_backW (hh := hh) (bytes := bytes) (maxL := maxL) (ret := ret) hM hp.1 hrc hrs hfr hlo hws hcw (fun a' U hW => word_at hW (Or.inl (by first | rfl | simp [Cond.onTables, Cond.keeps, Cond.steady])) hini)
  obtain ⟨hx, hb, hml, ho, -⟩ := S
  obtain ⟨-, ⟨cellB, hcB, hoB, hclB⟩, hPc⟩ := hp
  intro T hT X
  rcases vx_callVX X hx (C := C) (hh := hh) (bytes := bytes) (maxL := maxL) (ret := ret) ho hl hin hse hcode hy hK (by rw [hT]; exact hcB) hoB hclB hg (hsize.trans hml.symm) (argsL := As) (rest := rest) (fun sig h => hn.trans (hlen sig h)) hstack hW (by rw [hb]; exact hdg)
    (fun vm₁ hW₁ => ⟨hf.1, hf.2, hPc (T.setVm vm₁) hT hW₁⟩) with ⟨v, vm₁, ⟨U', l2, c2, s2⟩, hW₁, X', ⟨g', mk, t, L, e1, e2, hq, h1, hL, h2, h3⟩, st⟩ | ⟨q, vm₁, ⟨U', l2, c2, s2⟩, hW₁, X', ⟨g', mk, t, L, E, ce, e1, e2, hq, hce, hcv, hcl, h1, hL, h2, h3⟩, st⟩
  · dsimp only [Pt.U, Pt.locs, Pt.cells, Pt.slots] at X' e1 e2 h1 h2 h3 st
    subst h1; subst h2; subst h3
    exact Or.inl ⟨v, (T.setVm vm₁).calling g' mk (Value.ref b :: As).toArray, t, U', L, hT, X', hL, e1, e2, hq, st⟩
  · dsimp only [Pt.U, Pt.locs, Pt.cells, Pt.slots] at X' e1 e2 h1 h2 h3 st hcl
    subst h1; subst h2; subst h3
    exact Or.inr ⟨q, (T.setVm vm₁).calling g' mk (Value.ref b :: As).toArray, t, U', L, E, ce, hT, X', hL, e1, e2, hq, hce, hcv, vx_cls hW₁ hcl, st⟩
theorem vx_runSX {hh : List (Nat × Nat × Nat × Nat)} (S : CallFix p m c cc nL s args Ts own) (hM : vx_Met l y ws rm Pc Qc XC mc ms free) (cw : vx_CSW R s args own index y bytes maxL ret hh ws rm mc ms n) (hp : PreS s H Pc As)
    (hg : g.method = m) (hn : As.length = n) (hsize : g.locals.size = nL) (hstack : g.stack = As.reverse ++ rest) (hW : 2 * g.monitorRoom + (rest.map fun v => v.category).sum ≤ 8) (hdg : decode cc g.pc = .ok (.invokestatic index, 3)) (hf : cells + mc ≤ R.cells ∧ slots + ms ≤ R.slots) :
    vx_Run p l e R s m args below meth c H locs cells slots mc ms g rest (Qc As.toArray) XC free := by
  obtain ⟨⟨hrc, hrs, hfr, hlo, hws, hcw⟩, hcode, hini, hy, hlen, hl, hstt⟩ := cw
  have hK : vx_Back l R p e below s args y 3 8 (PreOf R mc ms Pc) (PostOf Qc mc ms free) (vx_Post XC mc ms free) := vx_backW (hh := hh) (bytes := bytes) (maxL := maxL) (ret := ret) hM hp.1 hrc hrs hfr hlo hws hcw (fun a' U hW => word_at hW (Or.inl (by first | rfl | simp [Cond.onTables, Cond.keeps, Cond.steady])) hini)
  obtain ⟨hx, hb, hml, ho, -⟩ := S
  intro T hT X
  rcases vx_callSX X hx (hh := hh) (bytes := bytes) (maxL := maxL) (ret := ret) ho hl hstt hini hcode hy hK hg (hsize.trans hml.symm) (argsL := As) (rest := rest) (fun sig h => hn.trans (hlen sig h)) hstack hW (by rw [hb]; exact hdg)
    (fun vm₁ hW₁ => ⟨hf.1, hf.2, hp.2 (T.setVm vm₁) hT hW₁⟩) with ⟨v, vm₁, ⟨U', l2, c2, s2⟩, hW₁, X', ⟨g', mk, t, L, e1, e2, hq, h1, hL, h2, h3⟩, st⟩ | ⟨q, vm₁, ⟨U', l2, c2, s2⟩, hW₁, X', ⟨g', mk, t, L, E, ce, e1, e2, hq, hce, hcv, hcl, h1, hL, h2, h3⟩, st⟩
  · dsimp only [Pt.U, Pt.locs, Pt.cells, Pt.slots] at X' e1 e2 h1 h2 h3 st
    subst h1; subst h2; subst h3
    exact Or.inl ⟨v, (T.setVm vm₁).calling g' mk As.toArray, t, U', L, hT, X', hL, e1, e2, hq, st⟩
  · dsimp only [Pt.U, Pt.locs, Pt.cells, Pt.slots] at X' e1 e2 h1 h2 h3 st hcl
    subst h1; subst h2; subst h3
    exact Or.inr ⟨q, (T.setVm vm₁).calling g' mk As.toArray, t, U', L, E, ce, hT, X', hL, e1, e2, hq, hce, hcv, vx_cls hW₁ hcl, st⟩
end
end VXH
theorem vx_ofWH {l : Launch} {y : MethodName} {ws ws' : List Cond} {rm : Room} {Pc : Array Value → State → Prop} {Qc : Array Value → State → Outcome → State → Prop} {XC : String → State → State → Prop} {mc ms : Nat} {free : Addr → Prop} {cc : ByteArray} {maxL : Nat} {ret : Option FieldType} {hh : List (Nat × Nat × Nat × Nat)}
    (hy : plainName y.cls = true) (hw : ws = Cond.codeWith y cc maxL ret hh :: ws')
    (body : ∀ p e s m args below meth c s₁, BodyLoose p l y (headSpec ws rm) cc maxL ret e s m args below meth c s₁ → c.maxLocals = maxL → Pc args s →
      W p l e (headSpec ws rm).room s m args below meth c s.heap [] 0 0 (vx_MQ below Qc XC args s mc ms free) (entryFrame m args maxL)) : vx_Met l y ws rm Pc Qc XC mc ms free := by
  refine MetFree.of_bodyS (code := cc) (maxLocals := maxL) (ret := ret) hy ?_ ?_
  · intro args s m h hn
    obtain ⟨m9, meth, c, hn9, h1, h2, h3, h4, -, h5, h6, -⟩ := Cond.codeWith_spec (atoms_spec (ws := ws) h _ (by rw [hw]; exact List.mem_cons_self))
    cases hn.symm.trans hn9
    exact ⟨meth, c, h1, h2, h3, h4, h5, h6⟩
  · intro p e s m args below meth c s₁ B hml hP _
    have hh0 : s₁.heap = s.heap := by rw [B.state]; rfl
    obtain ⟨t, a1, o, b1, b2, b3⟩ := body p e s m args below meth c s₁ B hml hP s₁ hh0 (Stand.of_body B)
    exact ⟨t, o, a1, b1, b2, b3⟩
/-! ===== END ===== -/
end
section
def RX0 : String := "Kickroom$Rock"
def TX0 : u_T := fun k => match k with
  | 0 => ("Kickroom$Rock", "pores", "[I", true)
  | 1 => ("Kickroom$Rock", "breaks", "[I", true)
  | 2 => ("Kickroom$Rock", "rates", "[I", true)
  | 3 => ("Kickroom$Rock", "gases", "[I", true)
  | _ => ("Kickroom$Rock", "pieces", "[I", true)
def tyX0 : Nat → FieldType := fun k => match k with
  | 0 => .array .int
  | 1 => .array .int
  | 2 => .array .int
  | 3 => .array .int
  | _ => .array .int
abbrev wsX00 : List Cond := u_ws RX0 TX0 5
theorem nmX0 : ∀ a, a < 5 → ∀ b, b < 5 → a ≠ b → (TX0 a).2.1 ≠ (TX0 b).2.1 := by decide +kernel
theorem tyX0_ok : ∀ k, k < 5 → parseFieldDescriptor (TX0 k).2.2.1 = some (tyX0 k) := by decide +kernel
abbrev cX0_init : ByteArray := prog_2_method_1_code
def yX0_init : MethodName := ⟨RX0, "<init>", "()V"⟩
abbrev cX0_tellLayer : ByteArray := prog_2_method_2_code
def yX0_tellLayer : MethodName := ⟨RX0, "tellLayer", "(IIIIZ)V"⟩
abbrev cX0_layerOf : ByteArray := prog_2_method_3_code
def yX0_layerOf : MethodName := ⟨RX0, "layerOf", "(I)I"⟩
abbrev cX0_poreAt : ByteArray := prog_2_method_4_code
def yX0_poreAt : MethodName := ⟨RX0, "poreAt", "(I)I"⟩
abbrev cX0_breakAt : ByteArray := prog_2_method_5_code
def yX0_breakAt : MethodName := ⟨RX0, "breakAt", "(I)I"⟩
abbrev cX0_rateAt : ByteArray := prog_2_method_6_code
def yX0_rateAt : MethodName := ⟨RX0, "rateAt", "(I)I"⟩
abbrev cX0_bearsGasAt : ByteArray := prog_2_method_7_code
def yX0_bearsGasAt : MethodName := ⟨RX0, "bearsGasAt", "(I)Z"⟩
abbrev cX0_greatestPore : ByteArray := prog_2_method_8_code
def yX0_greatestPore : MethodName := ⟨RX0, "greatestPore", "(II)I"⟩
abbrev cX0_leastBreak : ByteArray := prog_2_method_9_code
def yX0_leastBreak : MethodName := ⟨RX0, "leastBreak", "(II)I"⟩
abbrev cX0_piecesFromAbove : ByteArray := prog_2_method_10_code
def yX0_piecesFromAbove : MethodName := ⟨RX0, "piecesFromAbove", "(I)I"⟩
abbrev cX0_piecesFromAll : ByteArray := prog_2_method_11_code
def yX0_piecesFromAll : MethodName := ⟨RX0, "piecesFromAll", "(I)I"⟩
abbrev cX0_leastPiecesTo : ByteArray := prog_2_method_12_code
def yX0_leastPiecesTo : MethodName := ⟨RX0, "leastPiecesTo", "(I)I"⟩
def RX1 : String := "Kickroom$Tests"
def TX1 : u_T := fun k => match k with
  | 0 => ("Kickroom$Tests", "whats", "[I", true)
  | 1 => ("Kickroom$Tests", "pressures", "[I", true)
  | 2 => ("Kickroom$Tests", "passes", "[I", true)
  | 3 => ("Kickroom$Tests", "minutes", "[I", true)
  | 4 => ("Kickroom$Tests", "count", "I", false)
  | 5 => ("Kickroom$Tests", "latestOfValve", "I", false)
  | _ => ("Kickroom$Tests", "latestOfCement", "I", false)
def tyX1 : Nat → FieldType := fun k => match k with
  | 0 => .array .int
  | 1 => .array .int
  | 2 => .array .int
  | 3 => .array .int
  | 4 => .int
  | 5 => .int
  | _ => .int
abbrev wsX10 : List Cond := u_ws RX1 TX1 7
theorem nmX1 : ∀ a, a < 7 → ∀ b, b < 7 → a ≠ b → (TX1 a).2.1 ≠ (TX1 b).2.1 := by decide +kernel
theorem tyX1_ok : ∀ k, k < 7 → parseFieldDescriptor (TX1 k).2.2.1 = some (tyX1 k) := by decide +kernel
abbrev cX1_init : ByteArray := prog_3_method_1_code
def yX1_init : MethodName := ⟨RX1, "<init>", "()V"⟩
abbrev cX1_keep : ByteArray := prog_3_method_2_code
def yX1_keep : MethodName := ⟨RX1, "keep", "(IIZI)V"⟩
abbrev cX1_isPassed : ByteArray := prog_3_method_3_code
def yX1_isPassed : MethodName := ⟨RX1, "isPassed", "(I)Z"⟩
def RX2 : String := "Kickroom$Well"
def TX2 : u_T := fun k => match k with
  | 0 => ("Kickroom$Well", "rock", "LKickroom$Rock;", true)
  | 1 => ("Kickroom$Well", "depth", "I", false)
  | 2 => ("Kickroom$Well", "shoe", "I", false)
  | 3 => ("Kickroom$Well", "weight", "I", false)
  | 4 => ("Kickroom$Well", "isClosed", "Z", false)
  | 5 => ("Kickroom$Well", "choke", "I", false)
  | 6 => ("Kickroom$Well", "valveStrength", "I", false)
  | 7 => ("Kickroom$Well", "hasBrokenSinceTest", "Z", false)
  | 8 => ("Kickroom$Well", "charge", "J", false)
  | 9 => ("Kickroom$Well", "place", "I", false)
  | 10 => ("Kickroom$Well", "gas", "I", false)
  | 11 => ("Kickroom$Well", "liquid", "I", false)
  | 12 => ("Kickroom$Well", "vented", "J", false)
  | 13 => ("Kickroom$Well", "lost", "I", false)
  | _ => ("Kickroom$Well", "minutes", "I", false)
def tyX2 : Nat → FieldType := fun k => match k with
  | 0 => .object "Kickroom$Rock"
  | 1 => .int
  | 2 => .int
  | 3 => .int
  | 4 => .boolean
  | 5 => .int
  | 6 => .int
  | 7 => .boolean
  | 8 => .long
  | 9 => .int
  | 10 => .int
  | 11 => .int
  | 12 => .long
  | 13 => .int
  | _ => .int
abbrev wsX20 : List Cond := u_ws RX2 TX2 15
theorem nmX2 : ∀ a, a < 15 → ∀ b, b < 15 → a ≠ b → (TX2 a).2.1 ≠ (TX2 b).2.1 := by decide +kernel
theorem tyX2_ok : ∀ k, k < 15 → parseFieldDescriptor (TX2 k).2.2.1 = some (tyX2 k) := by decide +kernel
abbrev cX2_init : ByteArray := prog_4_method_1_code
def yX2_init : MethodName := ⟨RX2, "<init>", "(LKickroom$Rock;)V"⟩
abbrev cX2_become : ByteArray := prog_4_method_2_code
def yX2_become : MethodName := ⟨RX2, "become", "(LKickroom$Well;)V"⟩
abbrev cX2_hasGas : ByteArray := prog_4_method_3_code
def yX2_hasGas : MethodName := ⟨RX2, "hasGas", "()Z"⟩
abbrev cX2_hasInflow : ByteArray := prog_4_method_4_code
def yX2_hasInflow : MethodName := ⟨RX2, "hasInflow", "()Z"⟩
abbrev cX2_column : ByteArray := prog_4_method_5_code
def yX2_column : MethodName := ⟨RX2, "column", "()I"⟩
abbrev cX2_bottom : ByteArray := prog_4_method_6_code
def yX2_bottom : MethodName := ⟨RX2, "bottom", "()I"⟩
abbrev cX2_gasPressure : ByteArray := prog_4_method_7_code
def yX2_gasPressure : MethodName := ⟨RX2, "gasPressure", "()I"⟩
abbrev cX2_foot : ByteArray := prog_4_method_8_code
def yX2_foot : MethodName := ⟨RX2, "foot", "()I"⟩
abbrev cX2_letMinutesGo : ByteArray := prog_4_method_9_code
def yX2_letMinutesGo : MethodName := ⟨RX2, "letMinutesGo", "(I)I"⟩
abbrev cX2_letMinuteGo : ByteArray := prog_4_method_10_code
def yX2_letMinuteGo : MethodName := ⟨RX2, "letMinuteGo", "(Z)Z"⟩
abbrev cX2_raiseGas : ByteArray := prog_4_method_11_code
def yX2_raiseGas : MethodName := ⟨RX2, "raiseGas", "(Z)V"⟩
abbrev cX2_ventGas : ByteArray := prog_4_method_12_code
def yX2_ventGas : MethodName := ⟨RX2, "ventGas", "(Z)V"⟩
abbrev cX2_measureGas : ByteArray := prog_4_method_13_code
def yX2_measureGas : MethodName := ⟨RX2, "measureGas", "()V"⟩
abbrev cX2_setChoke : ByteArray := prog_4_method_14_code
def yX2_setChoke : MethodName := ⟨RX2, "setChoke", "()V"⟩
abbrev cX2_flowIn : ByteArray := prog_4_method_15_code
def yX2_flowIn : MethodName := ⟨RX2, "flowIn", "()Z"⟩
abbrev cX2_loseAtShoe : ByteArray := prog_4_method_16_code
def yX2_loseAtShoe : MethodName := ⟨RX2, "loseAtShoe", "()V"⟩
def RX3 : String := "Kickroom"
def TX3 : u_T := fun k => match k with
  | 0 => ("Kickroom", "rock", "LKickroom$Rock;", true)
  | 1 => ("Kickroom", "well", "LKickroom$Well;", true)
  | 2 => ("Kickroom", "trial", "LKickroom$Well;", true)
  | 3 => ("Kickroom", "tests", "LKickroom$Tests;", true)
  | 4 => ("Kickroom", "stops", "I", false)
  | 5 => ("Kickroom", "pumped", "I", false)
  | 6 => ("Kickroom", "latestPumpedWeight", "I", false)
  | _ => ("Kickroom", "cement", "I", false)
def tyX3 : Nat → FieldType := fun k => match k with
  | 0 => .object "Kickroom$Rock"
  | 1 => .object "Kickroom$Well"
  | 2 => .object "Kickroom$Well"
  | 3 => .object "Kickroom$Tests"
  | 4 => .int
  | 5 => .int
  | 6 => .int
  | _ => .int
abbrev wsX30 : List Cond := u_ws RX3 TX3 8
theorem nmX3 : ∀ a, a < 8 → ∀ b, b < 8 → a ≠ b → (TX3 a).2.1 ≠ (TX3 b).2.1 := by decide +kernel
theorem tyX3_ok : ∀ k, k < 8 → parseFieldDescriptor (TX3 k).2.2.1 = some (tyX3 k) := by decide +kernel
abbrev cX3_init : ByteArray := prog_1_method_1_code
def yX3_init : MethodName := ⟨RX3, "<init>", "()V"⟩
abbrev cX3_layer : ByteArray := prog_1_method_2_code
def yX3_layer : MethodName := ⟨RX3, "layer", "(IIIIZ)V"⟩
abbrev cX3_mud : ByteArray := prog_1_method_3_code
def yX3_mud : MethodName := ⟨RX3, "mud", "(I)I"⟩
abbrev cX3_drill : ByteArray := prog_1_method_4_code
def yX3_drill : MethodName := ⟨RX3, "drill", "(I)I"⟩
abbrev cX3_pass : ByteArray := prog_1_method_5_code
def yX3_pass : MethodName := ⟨RX3, "pass", "(I)I"⟩
abbrev cX3_close : ByteArray := prog_1_method_6_code
def yX3_close : MethodName := ⟨RX3, "close", "()V"⟩
abbrev cX3_open : ByteArray := prog_1_method_7_code
def yX3_open : MethodName := ⟨RX3, "open", "()I"⟩
abbrev cX3_pump : ByteArray := prog_1_method_8_code
def yX3_pump : MethodName := ⟨RX3, "pump", "(II)I"⟩
abbrev cX3_pumpOn : ByteArray := prog_1_method_9_code
def yX3_pumpOn : MethodName := ⟨RX3, "pumpOn", "(I)V"⟩
abbrev cX3_casing : ByteArray := prog_1_method_10_code
def yX3_casing : MethodName := ⟨RX3, "casing", "(I)I"⟩
abbrev cX3_strength : ByteArray := prog_1_method_11_code
def yX3_strength : MethodName := ⟨RX3, "strength", "(I)I"⟩
abbrev cX3_test : ByteArray := prog_1_method_12_code
def yX3_test : MethodName := ⟨RX3, "test", "(II)Z"⟩
abbrev cX3_stop : ByteArray := prog_1_method_13_code
def yX3_stop : MethodName := ⟨RX3, "stop", "(IZ)I"⟩
abbrev cX3_pressure : ByteArray := prog_1_method_14_code
def yX3_pressure : MethodName := ⟨RX3, "pressure", "(I)I"⟩
abbrev cX3_of : ByteArray := prog_1_method_15_code
def yX3_of : MethodName := ⟨RX3, "of", "(I)J"⟩
abbrev cX3_barriers : ByteArray := prog_1_method_16_code
def yX3_barriers : MethodName := ⟨RX3, "barriers", "()I"⟩
abbrev cX3_bars : ByteArray := prog_1_method_17_code
def yX3_bars : MethodName := ⟨RX3, "bars", "()I"⟩
abbrev cX3_ofTest : ByteArray := prog_1_method_18_code
def yX3_ofTest : MethodName := ⟨RX3, "ofTest", "(II)I"⟩
abbrev cX3_killWeight : ByteArray := prog_1_method_19_code
def yX3_killWeight : MethodName := ⟨RX3, "killWeight", "()I"⟩
abbrev cX3_window : ByteArray := prog_1_method_20_code
def yX3_window : MethodName := ⟨RX3, "window", "(IIZ)I"⟩
abbrev cX3_casings : ByteArray := prog_1_method_21_code
def yX3_casings : MethodName := ⟨RX3, "casings", "(I)I"⟩
abbrev cX3_casingsAnew : ByteArray := prog_1_method_22_code
def yX3_casingsAnew : MethodName := ⟨RX3, "casingsAnew", "(I)I"⟩
abbrev cX3_equivalent : ByteArray := prog_1_method_23_code
def yX3_equivalent : MethodName := ⟨RX3, "equivalent", "()F"⟩
abbrev cX3_ahead : ByteArray := prog_1_method_24_code
def yX3_ahead : MethodName := ⟨RX3, "ahead", "(I)I"⟩
abbrev cX3_hasMinutes : ByteArray := prog_1_method_25_code
def yX3_hasMinutes : MethodName := ⟨RX3, "hasMinutes", "(I)Z"⟩
abbrev cX3_isMudBarrier : ByteArray := prog_1_method_26_code
def yX3_isMudBarrier : MethodName := ⟨RX3, "isMudBarrier", "()Z"⟩
abbrev cX3_isValveBarrier : ByteArray := prog_1_method_27_code
def yX3_isValveBarrier : MethodName := ⟨RX3, "isValveBarrier", "()Z"⟩
abbrev cX3_isCementBarrier : ByteArray := prog_1_method_28_code
def yX3_isCementBarrier : MethodName := ⟨RX3, "isCementBarrier", "()Z"⟩
abbrev cX3_isWithin : ByteArray := prog_1_method_29_code
def yX3_isWithin : MethodName := ⟨RX3, "isWithin", "(III)Z"⟩
abbrev cX3_read : ByteArray := prog_1_method_30_code
def yX3_read : MethodName := ⟨RX3, "read", "([II)I"⟩
abbrev cX3_write : ByteArray := prog_1_method_31_code
def yX3_write : MethodName := ⟨RX3, "write", "([III)V"⟩
def RX4 : String := "KickroomModel"
def TX4 : u_T := fun k => match k with
  | _ => ("", "", "", false)
def tyX4 : Nat → FieldType := fun k => match k with
  | _ => .int
abbrev wsX40 : List Cond := u_ws RX4 TX4 0
theorem nmX4 : ∀ a, a < 0 → ∀ b, b < 0 → a ≠ b → (TX4 a).2.1 ≠ (TX4 b).2.1 := by decide +kernel
theorem tyX4_ok : ∀ k, k < 0 → parseFieldDescriptor (TX4 k).2.2.1 = some (tyX4 k) := by decide +kernel
def RJx145de : String := "java/io/Serializable"
def TJx145de : u_T := fun k => match k with
  | _ => ("", "", "", false)
def tyJx145de : Nat → FieldType := fun k => match k with
  | _ => .int
abbrev wsJx145de0 : List Cond := u_ws RJx145de TJx145de 0
theorem nmJx145de : ∀ a, a < 0 → ∀ b, b < 0 → a ≠ b → (TJx145de a).2.1 ≠ (TJx145de b).2.1 := by decide +kernel
theorem tyJx145de_ok : ∀ k, k < 0 → parseFieldDescriptor (TJx145de k).2.2.1 = some (tyJx145de k) := by decide +kernel
def RJ6 : String := "java/lang/Integer"
def TJ6 : u_T := fun k => match k with
  | _ => ("", "", "", false)
def tyJ6 : Nat → FieldType := fun k => match k with
  | _ => .int
abbrev wsJ60 : List Cond := u_ws RJ6 TJ6 0
theorem nmJ6 : ∀ a, a < 0 → ∀ b, b < 0 → a ≠ b → (TJ6 a).2.1 ≠ (TJ6 b).2.1 := by decide +kernel
theorem tyJ6_ok : ∀ k, k < 0 → parseFieldDescriptor (TJ6 k).2.2.1 = some (tyJ6 k) := by decide +kernel
abbrev cJ6_bitCount_0f7a4 : ByteArray := prog_11_method_49_code
def yJ6_bitCount_0f7a4 : MethodName := ⟨RJ6, "bitCount", "(I)I"⟩
def RJ9 : String := "java/lang/Math"
def TJ9 : u_T := fun k => match k with
  | _ => ("", "", "", false)
def tyJ9 : Nat → FieldType := fun k => match k with
  | _ => .int
abbrev wsJ90 : List Cond := u_ws RJ9 TJ9 0
theorem nmJ9 : ∀ a, a < 0 → ∀ b, b < 0 → a ≠ b → (TJ9 a).2.1 ≠ (TJ9 b).2.1 := by decide +kernel
theorem tyJ9_ok : ∀ k, k < 0 → parseFieldDescriptor (TJ9 k).2.2.1 = some (tyJ9 k) := by decide +kernel
abbrev cJ9_max_7cf53 : ByteArray := prog_12_method_65_code
def yJ9_max_7cf53 : MethodName := ⟨RJ9, "max", "(II)I"⟩
abbrev cJ9_min_7cf53 : ByteArray := prog_12_method_69_code
def yJ9_min_7cf53 : MethodName := ⟨RJ9, "min", "(II)I"⟩
abbrev cJ9_min_f86c9 : ByteArray := prog_12_method_70_code
def yJ9_min_f86c9 : MethodName := ⟨RJ9, "min", "(JJ)J"⟩
def RJ0 : String := "java/lang/String"
def TJ0 : u_T := fun k => match k with
  | _ => ("", "", "", false)
def tyJ0 : Nat → FieldType := fun k => match k with
  | _ => .int
abbrev wsJ00 : List Cond := u_ws RJ0 TJ0 0
theorem nmJ0 : ∀ a, a < 0 → ∀ b, b < 0 → a ≠ b → (TJ0 a).2.1 ≠ (TJ0 b).2.1 := by decide +kernel
theorem tyJ0_ok : ∀ k, k < 0 → parseFieldDescriptor (TJ0 k).2.2.1 = some (tyJ0 k) := by decide +kernel
def RJ7 : String := "java/util/Arrays"
def TJ7 : u_T := fun k => match k with
  | _ => ("", "", "", false)
def tyJ7 : Nat → FieldType := fun k => match k with
  | _ => .int
abbrev wsJ70 : List Cond := u_ws RJ7 TJ7 0
theorem nmJ7 : ∀ a, a < 0 → ∀ b, b < 0 → a ≠ b → (TJ7 a).2.1 ≠ (TJ7 b).2.1 := by decide +kernel
theorem tyJ7_ok : ∀ k, k < 0 → parseFieldDescriptor (TJ7 k).2.2.1 = some (tyJ7 k) := by decide +kernel
abbrev cJ7_fill_53178 : ByteArray := prog_16_method_103_code
def yJ7_fill_53178 : MethodName := ⟨RJ7, "fill", "([II)V"⟩
def RL : String := "KickroomLaw"
abbrev cL_cell : ByteArray := method_2_code
def yL_cell : MethodName := ⟨RL, "cell", "([II)I"⟩
abbrev cL_low : ByteArray := method_3_code
def yL_low : MethodName := ⟨RL, "low", "(II)I"⟩
abbrev cL_layer : ByteArray := method_4_code
def yL_layer : MethodName := ⟨RL, "layer", "(LKickroom;IIIIZ)I"⟩
abbrev cL_mud : ByteArray := method_5_code
def yL_mud : MethodName := ⟨RL, "mud", "(LKickroom;I)I"⟩
abbrev cL_drill : ByteArray := method_6_code
def yL_drill : MethodName := ⟨RL, "drill", "(LKickroom;I)I"⟩
abbrev cL_pass : ByteArray := method_7_code
def yL_pass : MethodName := ⟨RL, "pass", "(LKickroom;I)I"⟩
abbrev cL_close : ByteArray := method_8_code
def yL_close : MethodName := ⟨RL, "close", "(LKickroom;)I"⟩
abbrev cL_open : ByteArray := method_9_code
def yL_open : MethodName := ⟨RL, "open", "(LKickroom;)I"⟩
abbrev cL_pump : ByteArray := method_10_code
def yL_pump : MethodName := ⟨RL, "pump", "(LKickroom;II)I"⟩
abbrev cL_casing : ByteArray := method_11_code
def yL_casing : MethodName := ⟨RL, "casing", "(LKickroom;I)I"⟩
abbrev cL_strength : ByteArray := method_12_code
def yL_strength : MethodName := ⟨RL, "strength", "(LKickroom;I)I"⟩
abbrev cL_test : ByteArray := method_13_code
def yL_test : MethodName := ⟨RL, "test", "(LKickroom;II)I"⟩
abbrev cL_stop : ByteArray := method_14_code
def yL_stop : MethodName := ⟨RL, "stop", "(LKickroom;IZ)I"⟩
abbrev cL_pressure : ByteArray := method_15_code
def yL_pressure : MethodName := ⟨RL, "pressure", "(LKickroom;I)I"⟩
abbrev cL_of : ByteArray := method_16_code
def yL_of : MethodName := ⟨RL, "of", "(LKickroom;I)J"⟩
abbrev cL_ofTest : ByteArray := method_17_code
def yL_ofTest : MethodName := ⟨RL, "ofTest", "(LKickroom;II)I"⟩
abbrev cL_killWeight : ByteArray := method_18_code
def yL_killWeight : MethodName := ⟨RL, "killWeight", "(LKickroom;)I"⟩
abbrev cL_window : ByteArray := method_19_code
def yL_window : MethodName := ⟨RL, "window", "(LKickroom;IIZ)I"⟩
abbrev cL_casings : ByteArray := method_20_code
def yL_casings : MethodName := ⟨RL, "casings", "(LKickroom;I)I"⟩
abbrev cL_casingsAnew : ByteArray := method_21_code
def yL_casingsAnew : MethodName := ⟨RL, "casingsAnew", "(LKickroom;I)I"⟩
abbrev cL_equivalent : ByteArray := method_22_code
def yL_equivalent : MethodName := ⟨RL, "equivalent", "(LKickroom;)I"⟩
abbrev cL_ahead : ByteArray := method_23_code
def yL_ahead : MethodName := ⟨RL, "ahead", "(LKickroom;I)I"⟩
abbrev cL_act : ByteArray := method_24_code
def yL_act : MethodName := ⟨RL, "act", "(LKickroom;I)I"⟩
abbrev cL_areAlike : ByteArray := method_25_code
def yL_areAlike : MethodName := ⟨RL, "areAlike", "(LKickroom;LKickroom;I)Z"⟩
abbrev cL_isSo : ByteArray := method_26_code
def yL_isSo : MethodName := ⟨RL, "isSo", "(LKickroom;I)Z"⟩
abbrev cL_law : ByteArray := code
def yL_law : MethodName := ⟨RL, "law", "([I)Z"⟩
abbrev vwCl : List vw_C := [(RX0, TX0, 5), (RX1, TX1, 7), (RX2, TX2, 15), (RX3, TX3, 8)]
end
section
theorem dX0_init_0 : decode cX0_init 0 = .ok (.aload_n 0, 1) := by decide +kernel
theorem dX0_init_1 : decode cX0_init 1 = .ok (.invokespecial 3, 3) := by decide +kernel
theorem dX0_init_4 : decode cX0_init 4 = .ok (.aload_n 0, 1) := by decide +kernel
theorem dX0_init_5 : decode cX0_init 5 = .ok (.bipush 50, 2) := by decide +kernel
theorem dX0_init_7 : decode cX0_init 7 = .ok (.newarray .int, 2) := by decide +kernel
theorem dX0_init_9 : decode cX0_init 9 = .ok (.putfield 9, 3) := by decide +kernel
theorem dX0_init_12 : decode cX0_init 12 = .ok (.aload_n 0, 1) := by decide +kernel
theorem dX0_init_13 : decode cX0_init 13 = .ok (.bipush 50, 2) := by decide +kernel
theorem dX0_init_15 : decode cX0_init 15 = .ok (.newarray .int, 2) := by decide +kernel
theorem dX0_init_17 : decode cX0_init 17 = .ok (.putfield 15, 3) := by decide +kernel
theorem dX0_init_20 : decode cX0_init 20 = .ok (.aload_n 0, 1) := by decide +kernel
theorem dX0_init_21 : decode cX0_init 21 = .ok (.bipush 50, 2) := by decide +kernel
theorem dX0_init_23 : decode cX0_init 23 = .ok (.newarray .int, 2) := by decide +kernel
theorem dX0_init_25 : decode cX0_init 25 = .ok (.putfield 18, 3) := by decide +kernel
theorem dX0_init_28 : decode cX0_init 28 = .ok (.aload_n 0, 1) := by decide +kernel
theorem dX0_init_29 : decode cX0_init 29 = .ok (.bipush 50, 2) := by decide +kernel
theorem dX0_init_31 : decode cX0_init 31 = .ok (.newarray .int, 2) := by decide +kernel
theorem dX0_init_33 : decode cX0_init 33 = .ok (.putfield 21, 3) := by decide +kernel
theorem dX0_init_36 : decode cX0_init 36 = .ok (.aload_n 0, 1) := by decide +kernel
theorem dX0_init_37 : decode cX0_init 37 = .ok (.bipush 50, 2) := by decide +kernel
theorem dX0_init_39 : decode cX0_init 39 = .ok (.newarray .int, 2) := by decide +kernel
theorem dX0_init_41 : decode cX0_init 41 = .ok (.putfield 24, 3) := by decide +kernel
theorem dX0_init_44 : decode cX0_init 44 = .ok (.aload_n 0, 1) := by decide +kernel
theorem dX0_init_45 : decode cX0_init 45 = .ok (.getfield 9, 3) := by decide +kernel
theorem dX0_init_48 : decode cX0_init 48 = .ok (.bipush 100, 2) := by decide +kernel
theorem dX0_init_50 : decode cX0_init 50 = .ok (.invokestatic 27, 3) := by decide +kernel
theorem dX0_init_53 : decode cX0_init 53 = .ok (.aload_n 0, 1) := by decide +kernel
theorem dX0_init_54 : decode cX0_init 54 = .ok (.getfield 15, 3) := by decide +kernel
theorem dX0_init_57 : decode cX0_init 57 = .ok (.sipush 180, 3) := by decide +kernel
theorem dX0_init_60 : decode cX0_init 60 = .ok (.invokestatic 27, 3) := by decide +kernel
theorem dX0_init_63 : decode cX0_init 63 = .ok (.aload_n 0, 1) := by decide +kernel
theorem dX0_init_64 : decode cX0_init 64 = .ok (.getfield 18, 3) := by decide +kernel
theorem dX0_init_67 : decode cX0_init 67 = .ok (.bipush 10, 2) := by decide +kernel
theorem dX0_init_69 : decode cX0_init 69 = .ok (.invokestatic 27, 3) := by decide +kernel
theorem dX0_init_72 : decode cX0_init 72 = .ok (.return_, 1) := by decide +kernel
theorem dX0_tellLayer_0 : decode cX0_tellLayer 0 = .ok (.aload_n 0, 1) := by decide +kernel
theorem dX0_tellLayer_1 : decode cX0_tellLayer 1 = .ok (.getfield 9, 3) := by decide +kernel
theorem dX0_tellLayer_4 : decode cX0_tellLayer 4 = .ok (.iload_n 1, 1) := by decide +kernel
theorem dX0_tellLayer_5 : decode cX0_tellLayer 5 = .ok (.iload_n 2, 1) := by decide +kernel
theorem dX0_tellLayer_6 : decode cX0_tellLayer 6 = .ok (.invokestatic 33, 3) := by decide +kernel
theorem dX0_tellLayer_9 : decode cX0_tellLayer 9 = .ok (.aload_n 0, 1) := by decide +kernel
theorem dX0_tellLayer_10 : decode cX0_tellLayer 10 = .ok (.getfield 15, 3) := by decide +kernel
theorem dX0_tellLayer_13 : decode cX0_tellLayer 13 = .ok (.iload_n 1, 1) := by decide +kernel
theorem dX0_tellLayer_14 : decode cX0_tellLayer 14 = .ok (.iload_n 3, 1) := by decide +kernel
theorem dX0_tellLayer_15 : decode cX0_tellLayer 15 = .ok (.invokestatic 33, 3) := by decide +kernel
theorem dX0_tellLayer_18 : decode cX0_tellLayer 18 = .ok (.aload_n 0, 1) := by decide +kernel
theorem dX0_tellLayer_19 : decode cX0_tellLayer 19 = .ok (.getfield 18, 3) := by decide +kernel
theorem dX0_tellLayer_22 : decode cX0_tellLayer 22 = .ok (.iload_n 1, 1) := by decide +kernel
theorem dX0_tellLayer_23 : decode cX0_tellLayer 23 = .ok (.iload 4, 2) := by decide +kernel
theorem dX0_tellLayer_25 : decode cX0_tellLayer 25 = .ok (.invokestatic 33, 3) := by decide +kernel
theorem dX0_tellLayer_28 : decode cX0_tellLayer 28 = .ok (.aload_n 0, 1) := by decide +kernel
theorem dX0_tellLayer_29 : decode cX0_tellLayer 29 = .ok (.getfield 21, 3) := by decide +kernel
theorem dX0_tellLayer_32 : decode cX0_tellLayer 32 = .ok (.iload_n 1, 1) := by decide +kernel
theorem dX0_tellLayer_33 : decode cX0_tellLayer 33 = .ok (.iload 5, 2) := by decide +kernel
theorem dX0_tellLayer_35 : decode cX0_tellLayer 35 = .ok (.ifCond .eq 7, 3) := by decide +kernel
theorem dX0_tellLayer_38 : decode cX0_tellLayer 38 = .ok (.iconst 1, 1) := by decide +kernel
theorem dX0_tellLayer_39 : decode cX0_tellLayer 39 = .ok (.goto 4, 3) := by decide +kernel
theorem dX0_tellLayer_42 : decode cX0_tellLayer 42 = .ok (.iconst 0, 1) := by decide +kernel
theorem dX0_tellLayer_43 : decode cX0_tellLayer 43 = .ok (.invokestatic 33, 3) := by decide +kernel
theorem dX0_tellLayer_46 : decode cX0_tellLayer 46 = .ok (.return_, 1) := by decide +kernel
theorem dX0_layerOf_0 : decode cX0_layerOf 0 = .ok (.iload_n 0, 1) := by decide +kernel
theorem dX0_layerOf_1 : decode cX0_layerOf 1 = .ok (.ifCond .gt 7, 3) := by decide +kernel
theorem dX0_layerOf_4 : decode cX0_layerOf 4 = .ok (.iconst 0, 1) := by decide +kernel
theorem dX0_layerOf_5 : decode cX0_layerOf 5 = .ok (.goto 9, 3) := by decide +kernel
theorem dX0_layerOf_8 : decode cX0_layerOf 8 = .ok (.iload_n 0, 1) := by decide +kernel
theorem dX0_layerOf_9 : decode cX0_layerOf 9 = .ok (.iconst 1, 1) := by decide +kernel
theorem dX0_layerOf_10 : decode cX0_layerOf 10 = .ok (.isub, 1) := by decide +kernel
theorem dX0_layerOf_11 : decode cX0_layerOf 11 = .ok (.bipush 100, 2) := by decide +kernel
theorem dX0_layerOf_13 : decode cX0_layerOf 13 = .ok (.idiv, 1) := by decide +kernel
theorem dX0_layerOf_14 : decode cX0_layerOf 14 = .ok (.ireturn, 1) := by decide +kernel
theorem dX0_poreAt_0 : decode cX0_poreAt 0 = .ok (.aload_n 0, 1) := by decide +kernel
theorem dX0_poreAt_1 : decode cX0_poreAt 1 = .ok (.getfield 9, 3) := by decide +kernel
theorem dX0_poreAt_4 : decode cX0_poreAt 4 = .ok (.iload_n 1, 1) := by decide +kernel
theorem dX0_poreAt_5 : decode cX0_poreAt 5 = .ok (.invokestatic 37, 3) := by decide +kernel
theorem dX0_poreAt_8 : decode cX0_poreAt 8 = .ok (.invokestatic 41, 3) := by decide +kernel
theorem dX0_poreAt_11 : decode cX0_poreAt 11 = .ok (.iload_n 1, 1) := by decide +kernel
theorem dX0_poreAt_12 : decode cX0_poreAt 12 = .ok (.imul, 1) := by decide +kernel
theorem dX0_poreAt_13 : decode cX0_poreAt 13 = .ok (.bipush 10, 2) := by decide +kernel
theorem dX0_poreAt_15 : decode cX0_poreAt 15 = .ok (.idiv, 1) := by decide +kernel
theorem dX0_poreAt_16 : decode cX0_poreAt 16 = .ok (.ireturn, 1) := by decide +kernel
theorem dX0_breakAt_0 : decode cX0_breakAt 0 = .ok (.aload_n 0, 1) := by decide +kernel
theorem dX0_breakAt_1 : decode cX0_breakAt 1 = .ok (.getfield 15, 3) := by decide +kernel
theorem dX0_breakAt_4 : decode cX0_breakAt 4 = .ok (.iload_n 1, 1) := by decide +kernel
theorem dX0_breakAt_5 : decode cX0_breakAt 5 = .ok (.invokestatic 37, 3) := by decide +kernel
theorem dX0_breakAt_8 : decode cX0_breakAt 8 = .ok (.invokestatic 41, 3) := by decide +kernel
theorem dX0_breakAt_11 : decode cX0_breakAt 11 = .ok (.iload_n 1, 1) := by decide +kernel
theorem dX0_breakAt_12 : decode cX0_breakAt 12 = .ok (.imul, 1) := by decide +kernel
theorem dX0_breakAt_13 : decode cX0_breakAt 13 = .ok (.bipush 10, 2) := by decide +kernel
theorem dX0_breakAt_15 : decode cX0_breakAt 15 = .ok (.idiv, 1) := by decide +kernel
theorem dX0_breakAt_16 : decode cX0_breakAt 16 = .ok (.ireturn, 1) := by decide +kernel
theorem dX0_rateAt_0 : decode cX0_rateAt 0 = .ok (.aload_n 0, 1) := by decide +kernel
theorem dX0_rateAt_1 : decode cX0_rateAt 1 = .ok (.getfield 18, 3) := by decide +kernel
theorem dX0_rateAt_4 : decode cX0_rateAt 4 = .ok (.iload_n 1, 1) := by decide +kernel
theorem dX0_rateAt_5 : decode cX0_rateAt 5 = .ok (.invokestatic 37, 3) := by decide +kernel
theorem dX0_rateAt_8 : decode cX0_rateAt 8 = .ok (.invokestatic 41, 3) := by decide +kernel
theorem dX0_rateAt_11 : decode cX0_rateAt 11 = .ok (.ireturn, 1) := by decide +kernel
theorem dX0_bearsGasAt_0 : decode cX0_bearsGasAt 0 = .ok (.aload_n 0, 1) := by decide +kernel
theorem dX0_bearsGasAt_1 : decode cX0_bearsGasAt 1 = .ok (.getfield 21, 3) := by decide +kernel
theorem dX0_bearsGasAt_4 : decode cX0_bearsGasAt 4 = .ok (.iload_n 1, 1) := by decide +kernel
theorem dX0_bearsGasAt_5 : decode cX0_bearsGasAt 5 = .ok (.invokestatic 37, 3) := by decide +kernel
theorem dX0_bearsGasAt_8 : decode cX0_bearsGasAt 8 = .ok (.invokestatic 41, 3) := by decide +kernel
theorem dX0_bearsGasAt_11 : decode cX0_bearsGasAt 11 = .ok (.iconst 1, 1) := by decide +kernel
theorem dX0_bearsGasAt_12 : decode cX0_bearsGasAt 12 = .ok (.if_icmp .ne 7, 3) := by decide +kernel
theorem dX0_bearsGasAt_15 : decode cX0_bearsGasAt 15 = .ok (.iconst 1, 1) := by decide +kernel
theorem dX0_bearsGasAt_16 : decode cX0_bearsGasAt 16 = .ok (.goto 4, 3) := by decide +kernel
theorem dX0_bearsGasAt_19 : decode cX0_bearsGasAt 19 = .ok (.iconst 0, 1) := by decide +kernel
theorem dX0_bearsGasAt_20 : decode cX0_bearsGasAt 20 = .ok (.ireturn, 1) := by decide +kernel
theorem dX0_greatestPore_0 : decode cX0_greatestPore 0 = .ok (.aload_n 0, 1) := by decide +kernel
theorem dX0_greatestPore_1 : decode cX0_greatestPore 1 = .ok (.getfield 9, 3) := by decide +kernel
theorem dX0_greatestPore_4 : decode cX0_greatestPore 4 = .ok (.iload_n 1, 1) := by decide +kernel
theorem dX0_greatestPore_5 : decode cX0_greatestPore 5 = .ok (.invokestatic 41, 3) := by decide +kernel
theorem dX0_greatestPore_8 : decode cX0_greatestPore 8 = .ok (.istore_n 3, 1) := by decide +kernel
theorem dX0_greatestPore_9 : decode cX0_greatestPore 9 = .ok (.iload_n 1, 1) := by decide +kernel
theorem dX0_greatestPore_10 : decode cX0_greatestPore 10 = .ok (.iconst 1, 1) := by decide +kernel
theorem dX0_greatestPore_11 : decode cX0_greatestPore 11 = .ok (.iadd, 1) := by decide +kernel
theorem dX0_greatestPore_12 : decode cX0_greatestPore 12 = .ok (.istore 4, 2) := by decide +kernel
theorem dX0_greatestPore_14 : decode cX0_greatestPore 14 = .ok (.iload 4, 2) := by decide +kernel
theorem dX0_greatestPore_16 : decode cX0_greatestPore 16 = .ok (.iload_n 2, 1) := by decide +kernel
theorem dX0_greatestPore_17 : decode cX0_greatestPore 17 = .ok (.if_icmp .gt 23, 3) := by decide +kernel
theorem dX0_greatestPore_20 : decode cX0_greatestPore 20 = .ok (.iload_n 3, 1) := by decide +kernel
theorem dX0_greatestPore_21 : decode cX0_greatestPore 21 = .ok (.aload_n 0, 1) := by decide +kernel
theorem dX0_greatestPore_22 : decode cX0_greatestPore 22 = .ok (.getfield 9, 3) := by decide +kernel
theorem dX0_greatestPore_25 : decode cX0_greatestPore 25 = .ok (.iload 4, 2) := by decide +kernel
theorem dX0_greatestPore_27 : decode cX0_greatestPore 27 = .ok (.invokestatic 41, 3) := by decide +kernel
theorem dX0_greatestPore_30 : decode cX0_greatestPore 30 = .ok (.invokestatic 45, 3) := by decide +kernel
theorem dX0_greatestPore_33 : decode cX0_greatestPore 33 = .ok (.istore_n 3, 1) := by decide +kernel
theorem dX0_greatestPore_34 : decode cX0_greatestPore 34 = .ok (.iinc 4 1, 3) := by decide +kernel
theorem dX0_greatestPore_37 : decode cX0_greatestPore 37 = .ok (.goto (-23), 3) := by decide +kernel
theorem dX0_greatestPore_40 : decode cX0_greatestPore 40 = .ok (.iload_n 3, 1) := by decide +kernel
theorem dX0_greatestPore_41 : decode cX0_greatestPore 41 = .ok (.ireturn, 1) := by decide +kernel
theorem dX0_leastBreak_0 : decode cX0_leastBreak 0 = .ok (.aload_n 0, 1) := by decide +kernel
theorem dX0_leastBreak_1 : decode cX0_leastBreak 1 = .ok (.getfield 15, 3) := by decide +kernel
theorem dX0_leastBreak_4 : decode cX0_leastBreak 4 = .ok (.iload_n 1, 1) := by decide +kernel
theorem dX0_leastBreak_5 : decode cX0_leastBreak 5 = .ok (.invokestatic 41, 3) := by decide +kernel
theorem dX0_leastBreak_8 : decode cX0_leastBreak 8 = .ok (.istore_n 3, 1) := by decide +kernel
theorem dX0_leastBreak_9 : decode cX0_leastBreak 9 = .ok (.iload_n 1, 1) := by decide +kernel
theorem dX0_leastBreak_10 : decode cX0_leastBreak 10 = .ok (.iconst 1, 1) := by decide +kernel
theorem dX0_leastBreak_11 : decode cX0_leastBreak 11 = .ok (.iadd, 1) := by decide +kernel
theorem dX0_leastBreak_12 : decode cX0_leastBreak 12 = .ok (.istore 4, 2) := by decide +kernel
theorem dX0_leastBreak_14 : decode cX0_leastBreak 14 = .ok (.iload 4, 2) := by decide +kernel
theorem dX0_leastBreak_16 : decode cX0_leastBreak 16 = .ok (.iload_n 2, 1) := by decide +kernel
theorem dX0_leastBreak_17 : decode cX0_leastBreak 17 = .ok (.if_icmp .gt 23, 3) := by decide +kernel
theorem dX0_leastBreak_20 : decode cX0_leastBreak 20 = .ok (.iload_n 3, 1) := by decide +kernel
theorem dX0_leastBreak_21 : decode cX0_leastBreak 21 = .ok (.aload_n 0, 1) := by decide +kernel
theorem dX0_leastBreak_22 : decode cX0_leastBreak 22 = .ok (.getfield 15, 3) := by decide +kernel
theorem dX0_leastBreak_25 : decode cX0_leastBreak 25 = .ok (.iload 4, 2) := by decide +kernel
theorem dX0_leastBreak_27 : decode cX0_leastBreak 27 = .ok (.invokestatic 41, 3) := by decide +kernel
theorem dX0_leastBreak_30 : decode cX0_leastBreak 30 = .ok (.invokestatic 51, 3) := by decide +kernel
theorem dX0_leastBreak_33 : decode cX0_leastBreak 33 = .ok (.istore_n 3, 1) := by decide +kernel
theorem dX0_leastBreak_34 : decode cX0_leastBreak 34 = .ok (.iinc 4 1, 3) := by decide +kernel
theorem dX0_leastBreak_37 : decode cX0_leastBreak 37 = .ok (.goto (-23), 3) := by decide +kernel
theorem dX0_leastBreak_40 : decode cX0_leastBreak 40 = .ok (.iload_n 3, 1) := by decide +kernel
theorem dX0_leastBreak_41 : decode cX0_leastBreak 41 = .ok (.ireturn, 1) := by decide +kernel
theorem dX0_piecesFromAbove_0 : decode cX0_piecesFromAbove 0 = .ok (.iconst 1, 1) := by decide +kernel
theorem dX0_piecesFromAbove_1 : decode cX0_piecesFromAbove 1 = .ok (.istore_n 2, 1) := by decide +kernel
theorem dX0_piecesFromAbove_2 : decode cX0_piecesFromAbove 2 = .ok (.iconst 0, 1) := by decide +kernel
theorem dX0_piecesFromAbove_3 : decode cX0_piecesFromAbove 3 = .ok (.istore_n 3, 1) := by decide +kernel
theorem dX0_piecesFromAbove_4 : decode cX0_piecesFromAbove 4 = .ok (.sipush 300, 3) := by decide +kernel
theorem dX0_piecesFromAbove_7 : decode cX0_piecesFromAbove 7 = .ok (.istore 4, 2) := by decide +kernel
theorem dX0_piecesFromAbove_9 : decode cX0_piecesFromAbove 9 = .ok (.iconst 0, 1) := by decide +kernel
theorem dX0_piecesFromAbove_10 : decode cX0_piecesFromAbove 10 = .ok (.istore 5, 2) := by decide +kernel
theorem dX0_piecesFromAbove_12 : decode cX0_piecesFromAbove 12 = .ok (.iload 5, 2) := by decide +kernel
theorem dX0_piecesFromAbove_14 : decode cX0_piecesFromAbove 14 = .ok (.iload_n 1, 1) := by decide +kernel
theorem dX0_piecesFromAbove_15 : decode cX0_piecesFromAbove 15 = .ok (.if_icmp .gt 72, 3) := by decide +kernel
theorem dX0_piecesFromAbove_18 : decode cX0_piecesFromAbove 18 = .ok (.aload_n 0, 1) := by decide +kernel
theorem dX0_piecesFromAbove_19 : decode cX0_piecesFromAbove 19 = .ok (.getfield 9, 3) := by decide +kernel
theorem dX0_piecesFromAbove_22 : decode cX0_piecesFromAbove 22 = .ok (.iload 5, 2) := by decide +kernel
theorem dX0_piecesFromAbove_24 : decode cX0_piecesFromAbove 24 = .ok (.invokestatic 41, 3) := by decide +kernel
theorem dX0_piecesFromAbove_27 : decode cX0_piecesFromAbove 27 = .ok (.istore 6, 2) := by decide +kernel
theorem dX0_piecesFromAbove_29 : decode cX0_piecesFromAbove 29 = .ok (.aload_n 0, 1) := by decide +kernel
theorem dX0_piecesFromAbove_30 : decode cX0_piecesFromAbove 30 = .ok (.getfield 15, 3) := by decide +kernel
theorem dX0_piecesFromAbove_33 : decode cX0_piecesFromAbove 33 = .ok (.iload 5, 2) := by decide +kernel
theorem dX0_piecesFromAbove_35 : decode cX0_piecesFromAbove 35 = .ok (.invokestatic 41, 3) := by decide +kernel
theorem dX0_piecesFromAbove_38 : decode cX0_piecesFromAbove 38 = .ok (.istore 7, 2) := by decide +kernel
theorem dX0_piecesFromAbove_40 : decode cX0_piecesFromAbove 40 = .ok (.iload 6, 2) := by decide +kernel
theorem dX0_piecesFromAbove_42 : decode cX0_piecesFromAbove 42 = .ok (.iload 7, 2) := by decide +kernel
theorem dX0_piecesFromAbove_44 : decode cX0_piecesFromAbove 44 = .ok (.if_icmp .le 5, 3) := by decide +kernel
theorem dX0_piecesFromAbove_47 : decode cX0_piecesFromAbove 47 = .ok (.iconst (-1), 1) := by decide +kernel
theorem dX0_piecesFromAbove_48 : decode cX0_piecesFromAbove 48 = .ok (.ireturn, 1) := by decide +kernel
theorem dX0_piecesFromAbove_49 : decode cX0_piecesFromAbove 49 = .ok (.iload_n 3, 1) := by decide +kernel
theorem dX0_piecesFromAbove_50 : decode cX0_piecesFromAbove 50 = .ok (.iload 6, 2) := by decide +kernel
theorem dX0_piecesFromAbove_52 : decode cX0_piecesFromAbove 52 = .ok (.invokestatic 45, 3) := by decide +kernel
theorem dX0_piecesFromAbove_55 : decode cX0_piecesFromAbove 55 = .ok (.istore_n 3, 1) := by decide +kernel
theorem dX0_piecesFromAbove_56 : decode cX0_piecesFromAbove 56 = .ok (.iload 4, 2) := by decide +kernel
theorem dX0_piecesFromAbove_58 : decode cX0_piecesFromAbove 58 = .ok (.iload 7, 2) := by decide +kernel
theorem dX0_piecesFromAbove_60 : decode cX0_piecesFromAbove 60 = .ok (.invokestatic 51, 3) := by decide +kernel
theorem dX0_piecesFromAbove_63 : decode cX0_piecesFromAbove 63 = .ok (.istore 4, 2) := by decide +kernel
theorem dX0_piecesFromAbove_65 : decode cX0_piecesFromAbove 65 = .ok (.iload_n 3, 1) := by decide +kernel
theorem dX0_piecesFromAbove_66 : decode cX0_piecesFromAbove 66 = .ok (.iload 4, 2) := by decide +kernel
theorem dX0_piecesFromAbove_68 : decode cX0_piecesFromAbove 68 = .ok (.if_icmp .le 13, 3) := by decide +kernel
theorem dX0_piecesFromAbove_71 : decode cX0_piecesFromAbove 71 = .ok (.iinc 2 1, 3) := by decide +kernel
theorem dX0_piecesFromAbove_74 : decode cX0_piecesFromAbove 74 = .ok (.iload 6, 2) := by decide +kernel
theorem dX0_piecesFromAbove_76 : decode cX0_piecesFromAbove 76 = .ok (.istore_n 3, 1) := by decide +kernel
theorem dX0_piecesFromAbove_77 : decode cX0_piecesFromAbove 77 = .ok (.iload 7, 2) := by decide +kernel
theorem dX0_piecesFromAbove_79 : decode cX0_piecesFromAbove 79 = .ok (.istore 4, 2) := by decide +kernel
theorem dX0_piecesFromAbove_81 : decode cX0_piecesFromAbove 81 = .ok (.iinc 5 1, 3) := by decide +kernel
theorem dX0_piecesFromAbove_84 : decode cX0_piecesFromAbove 84 = .ok (.goto (-72), 3) := by decide +kernel
theorem dX0_piecesFromAbove_87 : decode cX0_piecesFromAbove 87 = .ok (.iload_n 2, 1) := by decide +kernel
theorem dX0_piecesFromAbove_88 : decode cX0_piecesFromAbove 88 = .ok (.ireturn, 1) := by decide +kernel
theorem dX0_piecesFromAll_0 : decode cX0_piecesFromAll 0 = .ok (.iconst 0, 1) := by decide +kernel
theorem dX0_piecesFromAll_1 : decode cX0_piecesFromAll 1 = .ok (.istore_n 2, 1) := by decide +kernel
theorem dX0_piecesFromAll_2 : decode cX0_piecesFromAll 2 = .ok (.iload_n 2, 1) := by decide +kernel
theorem dX0_piecesFromAll_3 : decode cX0_piecesFromAll 3 = .ok (.iload_n 1, 1) := by decide +kernel
theorem dX0_piecesFromAll_4 : decode cX0_piecesFromAll 4 = .ok (.if_icmp .gt 22, 3) := by decide +kernel
theorem dX0_piecesFromAll_7 : decode cX0_piecesFromAll 7 = .ok (.aload_n 0, 1) := by decide +kernel
theorem dX0_piecesFromAll_8 : decode cX0_piecesFromAll 8 = .ok (.getfield 24, 3) := by decide +kernel
theorem dX0_piecesFromAll_11 : decode cX0_piecesFromAll 11 = .ok (.iload_n 2, 1) := by decide +kernel
theorem dX0_piecesFromAll_12 : decode cX0_piecesFromAll 12 = .ok (.aload_n 0, 1) := by decide +kernel
theorem dX0_piecesFromAll_13 : decode cX0_piecesFromAll 13 = .ok (.iload_n 2, 1) := by decide +kernel
theorem dX0_piecesFromAll_14 : decode cX0_piecesFromAll 14 = .ok (.invokevirtual 54, 3) := by decide +kernel
theorem dX0_piecesFromAll_17 : decode cX0_piecesFromAll 17 = .ok (.invokestatic 33, 3) := by decide +kernel
theorem dX0_piecesFromAll_20 : decode cX0_piecesFromAll 20 = .ok (.iinc 2 1, 3) := by decide +kernel
theorem dX0_piecesFromAll_23 : decode cX0_piecesFromAll 23 = .ok (.goto (-21), 3) := by decide +kernel
theorem dX0_piecesFromAll_26 : decode cX0_piecesFromAll 26 = .ok (.aload_n 0, 1) := by decide +kernel
theorem dX0_piecesFromAll_27 : decode cX0_piecesFromAll 27 = .ok (.getfield 24, 3) := by decide +kernel
theorem dX0_piecesFromAll_30 : decode cX0_piecesFromAll 30 = .ok (.iload_n 1, 1) := by decide +kernel
theorem dX0_piecesFromAll_31 : decode cX0_piecesFromAll 31 = .ok (.invokestatic 41, 3) := by decide +kernel
theorem dX0_piecesFromAll_34 : decode cX0_piecesFromAll 34 = .ok (.ireturn, 1) := by decide +kernel
theorem dX0_leastPiecesTo_0 : decode cX0_leastPiecesTo 0 = .ok (.iconst (-1), 1) := by decide +kernel
theorem dX0_leastPiecesTo_1 : decode cX0_leastPiecesTo 1 = .ok (.istore_n 2, 1) := by decide +kernel
theorem dX0_leastPiecesTo_2 : decode cX0_leastPiecesTo 2 = .ok (.iconst 0, 1) := by decide +kernel
theorem dX0_leastPiecesTo_3 : decode cX0_leastPiecesTo 3 = .ok (.istore_n 3, 1) := by decide +kernel
theorem dX0_leastPiecesTo_4 : decode cX0_leastPiecesTo 4 = .ok (.sipush 300, 3) := by decide +kernel
theorem dX0_leastPiecesTo_7 : decode cX0_leastPiecesTo 7 = .ok (.istore 4, 2) := by decide +kernel
theorem dX0_leastPiecesTo_9 : decode cX0_leastPiecesTo 9 = .ok (.iload_n 1, 1) := by decide +kernel
theorem dX0_leastPiecesTo_10 : decode cX0_leastPiecesTo 10 = .ok (.istore 5, 2) := by decide +kernel
theorem dX0_leastPiecesTo_12 : decode cX0_leastPiecesTo 12 = .ok (.iload 5, 2) := by decide +kernel
theorem dX0_leastPiecesTo_14 : decode cX0_leastPiecesTo 14 = .ok (.ifCond .lt 103, 3) := by decide +kernel
theorem dX0_leastPiecesTo_17 : decode cX0_leastPiecesTo 17 = .ok (.iload_n 3, 1) := by decide +kernel
theorem dX0_leastPiecesTo_18 : decode cX0_leastPiecesTo 18 = .ok (.aload_n 0, 1) := by decide +kernel
theorem dX0_leastPiecesTo_19 : decode cX0_leastPiecesTo 19 = .ok (.getfield 9, 3) := by decide +kernel
theorem dX0_leastPiecesTo_22 : decode cX0_leastPiecesTo 22 = .ok (.iload 5, 2) := by decide +kernel
theorem dX0_leastPiecesTo_24 : decode cX0_leastPiecesTo 24 = .ok (.invokestatic 41, 3) := by decide +kernel
theorem dX0_leastPiecesTo_27 : decode cX0_leastPiecesTo 27 = .ok (.invokestatic 45, 3) := by decide +kernel
theorem dX0_leastPiecesTo_30 : decode cX0_leastPiecesTo 30 = .ok (.istore_n 3, 1) := by decide +kernel
theorem dX0_leastPiecesTo_31 : decode cX0_leastPiecesTo 31 = .ok (.iload 4, 2) := by decide +kernel
theorem dX0_leastPiecesTo_33 : decode cX0_leastPiecesTo 33 = .ok (.aload_n 0, 1) := by decide +kernel
theorem dX0_leastPiecesTo_34 : decode cX0_leastPiecesTo 34 = .ok (.getfield 15, 3) := by decide +kernel
theorem dX0_leastPiecesTo_37 : decode cX0_leastPiecesTo 37 = .ok (.iload 5, 2) := by decide +kernel
theorem dX0_leastPiecesTo_39 : decode cX0_leastPiecesTo 39 = .ok (.invokestatic 41, 3) := by decide +kernel
theorem dX0_leastPiecesTo_42 : decode cX0_leastPiecesTo 42 = .ok (.invokestatic 51, 3) := by decide +kernel
theorem dX0_leastPiecesTo_45 : decode cX0_leastPiecesTo 45 = .ok (.istore 4, 2) := by decide +kernel
theorem dX0_leastPiecesTo_47 : decode cX0_leastPiecesTo 47 = .ok (.iload 5, 2) := by decide +kernel
theorem dX0_leastPiecesTo_49 : decode cX0_leastPiecesTo 49 = .ok (.ifCond .ne 7, 3) := by decide +kernel
theorem dX0_leastPiecesTo_52 : decode cX0_leastPiecesTo 52 = .ok (.iconst 0, 1) := by decide +kernel
theorem dX0_leastPiecesTo_53 : decode cX0_leastPiecesTo 53 = .ok (.goto 14, 3) := by decide +kernel
theorem dX0_leastPiecesTo_56 : decode cX0_leastPiecesTo 56 = .ok (.aload_n 0, 1) := by decide +kernel
theorem dX0_leastPiecesTo_57 : decode cX0_leastPiecesTo 57 = .ok (.getfield 24, 3) := by decide +kernel
theorem dX0_leastPiecesTo_60 : decode cX0_leastPiecesTo 60 = .ok (.iload 5, 2) := by decide +kernel
theorem dX0_leastPiecesTo_62 : decode cX0_leastPiecesTo 62 = .ok (.iconst 1, 1) := by decide +kernel
theorem dX0_leastPiecesTo_63 : decode cX0_leastPiecesTo 63 = .ok (.isub, 1) := by decide +kernel
theorem dX0_leastPiecesTo_64 : decode cX0_leastPiecesTo 64 = .ok (.invokestatic 41, 3) := by decide +kernel
theorem dX0_leastPiecesTo_67 : decode cX0_leastPiecesTo 67 = .ok (.istore 6, 2) := by decide +kernel
theorem dX0_leastPiecesTo_69 : decode cX0_leastPiecesTo 69 = .ok (.iload_n 3, 1) := by decide +kernel
theorem dX0_leastPiecesTo_70 : decode cX0_leastPiecesTo 70 = .ok (.iload 4, 2) := by decide +kernel
theorem dX0_leastPiecesTo_72 : decode cX0_leastPiecesTo 72 = .ok (.if_icmp .gt 13, 3) := by decide +kernel
theorem dX0_leastPiecesTo_75 : decode cX0_leastPiecesTo 75 = .ok (.iload 6, 2) := by decide +kernel
theorem dX0_leastPiecesTo_77 : decode cX0_leastPiecesTo 77 = .ok (.iconst (-1), 1) := by decide +kernel
theorem dX0_leastPiecesTo_78 : decode cX0_leastPiecesTo 78 = .ok (.if_icmp .eq 7, 3) := by decide +kernel
theorem dX0_leastPiecesTo_81 : decode cX0_leastPiecesTo 81 = .ok (.iconst 1, 1) := by decide +kernel
theorem dX0_leastPiecesTo_82 : decode cX0_leastPiecesTo 82 = .ok (.goto 4, 3) := by decide +kernel
theorem dX0_leastPiecesTo_85 : decode cX0_leastPiecesTo 85 = .ok (.iconst 0, 1) := by decide +kernel
theorem dX0_leastPiecesTo_86 : decode cX0_leastPiecesTo 86 = .ok (.istore 7, 2) := by decide +kernel
theorem dX0_leastPiecesTo_88 : decode cX0_leastPiecesTo 88 = .ok (.iload 7, 2) := by decide +kernel
theorem dX0_leastPiecesTo_90 : decode cX0_leastPiecesTo 90 = .ok (.ifCond .eq 21, 3) := by decide +kernel
theorem dX0_leastPiecesTo_93 : decode cX0_leastPiecesTo 93 = .ok (.iload_n 2, 1) := by decide +kernel
theorem dX0_leastPiecesTo_94 : decode cX0_leastPiecesTo 94 = .ok (.iconst (-1), 1) := by decide +kernel
theorem dX0_leastPiecesTo_95 : decode cX0_leastPiecesTo 95 = .ok (.if_icmp .eq 11, 3) := by decide +kernel
theorem dX0_leastPiecesTo_98 : decode cX0_leastPiecesTo 98 = .ok (.iload 6, 2) := by decide +kernel
theorem dX0_leastPiecesTo_100 : decode cX0_leastPiecesTo 100 = .ok (.iconst 1, 1) := by decide +kernel
theorem dX0_leastPiecesTo_101 : decode cX0_leastPiecesTo 101 = .ok (.iadd, 1) := by decide +kernel
theorem dX0_leastPiecesTo_102 : decode cX0_leastPiecesTo 102 = .ok (.iload_n 2, 1) := by decide +kernel
theorem dX0_leastPiecesTo_103 : decode cX0_leastPiecesTo 103 = .ok (.if_icmp .ge 8, 3) := by decide +kernel
theorem dX0_leastPiecesTo_106 : decode cX0_leastPiecesTo 106 = .ok (.iload 6, 2) := by decide +kernel
theorem dX0_leastPiecesTo_108 : decode cX0_leastPiecesTo 108 = .ok (.iconst 1, 1) := by decide +kernel
theorem dX0_leastPiecesTo_109 : decode cX0_leastPiecesTo 109 = .ok (.iadd, 1) := by decide +kernel
theorem dX0_leastPiecesTo_110 : decode cX0_leastPiecesTo 110 = .ok (.istore_n 2, 1) := by decide +kernel
theorem dX0_leastPiecesTo_111 : decode cX0_leastPiecesTo 111 = .ok (.iinc 5 (-1), 3) := by decide +kernel
theorem dX0_leastPiecesTo_114 : decode cX0_leastPiecesTo 114 = .ok (.goto (-102), 3) := by decide +kernel
theorem dX0_leastPiecesTo_117 : decode cX0_leastPiecesTo 117 = .ok (.iload_n 2, 1) := by decide +kernel
theorem dX0_leastPiecesTo_118 : decode cX0_leastPiecesTo 118 = .ok (.ireturn, 1) := by decide +kernel
theorem dX1_init_0 : decode cX1_init 0 = .ok (.aload_n 0, 1) := by decide +kernel
theorem dX1_init_1 : decode cX1_init 1 = .ok (.invokespecial 3, 3) := by decide +kernel
theorem dX1_init_4 : decode cX1_init 4 = .ok (.aload_n 0, 1) := by decide +kernel
theorem dX1_init_5 : decode cX1_init 5 = .ok (.bipush 60, 2) := by decide +kernel
theorem dX1_init_7 : decode cX1_init 7 = .ok (.newarray .int, 2) := by decide +kernel
theorem dX1_init_9 : decode cX1_init 9 = .ok (.putfield 9, 3) := by decide +kernel
theorem dX1_init_12 : decode cX1_init 12 = .ok (.aload_n 0, 1) := by decide +kernel
theorem dX1_init_13 : decode cX1_init 13 = .ok (.bipush 60, 2) := by decide +kernel
theorem dX1_init_15 : decode cX1_init 15 = .ok (.newarray .int, 2) := by decide +kernel
theorem dX1_init_17 : decode cX1_init 17 = .ok (.putfield 15, 3) := by decide +kernel
theorem dX1_init_20 : decode cX1_init 20 = .ok (.aload_n 0, 1) := by decide +kernel
theorem dX1_init_21 : decode cX1_init 21 = .ok (.bipush 60, 2) := by decide +kernel
theorem dX1_init_23 : decode cX1_init 23 = .ok (.newarray .int, 2) := by decide +kernel
theorem dX1_init_25 : decode cX1_init 25 = .ok (.putfield 18, 3) := by decide +kernel
theorem dX1_init_28 : decode cX1_init 28 = .ok (.aload_n 0, 1) := by decide +kernel
theorem dX1_init_29 : decode cX1_init 29 = .ok (.bipush 60, 2) := by decide +kernel
theorem dX1_init_31 : decode cX1_init 31 = .ok (.newarray .int, 2) := by decide +kernel
theorem dX1_init_33 : decode cX1_init 33 = .ok (.putfield 21, 3) := by decide +kernel
theorem dX1_init_36 : decode cX1_init 36 = .ok (.aload_n 0, 1) := by decide +kernel
theorem dX1_init_37 : decode cX1_init 37 = .ok (.iconst (-1), 1) := by decide +kernel
theorem dX1_init_38 : decode cX1_init 38 = .ok (.putfield 24, 3) := by decide +kernel
theorem dX1_init_41 : decode cX1_init 41 = .ok (.aload_n 0, 1) := by decide +kernel
theorem dX1_init_42 : decode cX1_init 42 = .ok (.iconst (-1), 1) := by decide +kernel
theorem dX1_init_43 : decode cX1_init 43 = .ok (.putfield 28, 3) := by decide +kernel
theorem dX1_init_46 : decode cX1_init 46 = .ok (.return_, 1) := by decide +kernel
theorem dX1_keep_0 : decode cX1_keep 0 = .ok (.aload_n 0, 1) := by decide +kernel
theorem dX1_keep_1 : decode cX1_keep 1 = .ok (.getfield 9, 3) := by decide +kernel
theorem dX1_keep_4 : decode cX1_keep 4 = .ok (.aload_n 0, 1) := by decide +kernel
theorem dX1_keep_5 : decode cX1_keep 5 = .ok (.getfield 31, 3) := by decide +kernel
theorem dX1_keep_8 : decode cX1_keep 8 = .ok (.iload_n 1, 1) := by decide +kernel
theorem dX1_keep_9 : decode cX1_keep 9 = .ok (.invokestatic 34, 3) := by decide +kernel
theorem dX1_keep_12 : decode cX1_keep 12 = .ok (.aload_n 0, 1) := by decide +kernel
theorem dX1_keep_13 : decode cX1_keep 13 = .ok (.getfield 15, 3) := by decide +kernel
theorem dX1_keep_16 : decode cX1_keep 16 = .ok (.aload_n 0, 1) := by decide +kernel
theorem dX1_keep_17 : decode cX1_keep 17 = .ok (.getfield 31, 3) := by decide +kernel
theorem dX1_keep_20 : decode cX1_keep 20 = .ok (.iload_n 2, 1) := by decide +kernel
theorem dX1_keep_21 : decode cX1_keep 21 = .ok (.invokestatic 34, 3) := by decide +kernel
theorem dX1_keep_24 : decode cX1_keep 24 = .ok (.aload_n 0, 1) := by decide +kernel
theorem dX1_keep_25 : decode cX1_keep 25 = .ok (.getfield 18, 3) := by decide +kernel
theorem dX1_keep_28 : decode cX1_keep 28 = .ok (.aload_n 0, 1) := by decide +kernel
theorem dX1_keep_29 : decode cX1_keep 29 = .ok (.getfield 31, 3) := by decide +kernel
theorem dX1_keep_32 : decode cX1_keep 32 = .ok (.iload_n 3, 1) := by decide +kernel
theorem dX1_keep_33 : decode cX1_keep 33 = .ok (.ifCond .eq 7, 3) := by decide +kernel
theorem dX1_keep_36 : decode cX1_keep 36 = .ok (.iconst 1, 1) := by decide +kernel
theorem dX1_keep_37 : decode cX1_keep 37 = .ok (.goto 4, 3) := by decide +kernel
theorem dX1_keep_40 : decode cX1_keep 40 = .ok (.iconst 0, 1) := by decide +kernel
theorem dX1_keep_41 : decode cX1_keep 41 = .ok (.invokestatic 34, 3) := by decide +kernel
theorem dX1_keep_44 : decode cX1_keep 44 = .ok (.aload_n 0, 1) := by decide +kernel
theorem dX1_keep_45 : decode cX1_keep 45 = .ok (.getfield 21, 3) := by decide +kernel
theorem dX1_keep_48 : decode cX1_keep 48 = .ok (.aload_n 0, 1) := by decide +kernel
theorem dX1_keep_49 : decode cX1_keep 49 = .ok (.getfield 31, 3) := by decide +kernel
theorem dX1_keep_52 : decode cX1_keep 52 = .ok (.iload 4, 2) := by decide +kernel
theorem dX1_keep_54 : decode cX1_keep 54 = .ok (.invokestatic 34, 3) := by decide +kernel
theorem dX1_keep_57 : decode cX1_keep 57 = .ok (.iload_n 1, 1) := by decide +kernel
theorem dX1_keep_58 : decode cX1_keep 58 = .ok (.ifCond .ne 14, 3) := by decide +kernel
theorem dX1_keep_61 : decode cX1_keep 61 = .ok (.aload_n 0, 1) := by decide +kernel
theorem dX1_keep_62 : decode cX1_keep 62 = .ok (.aload_n 0, 1) := by decide +kernel
theorem dX1_keep_63 : decode cX1_keep 63 = .ok (.getfield 31, 3) := by decide +kernel
theorem dX1_keep_66 : decode cX1_keep 66 = .ok (.putfield 24, 3) := by decide +kernel
theorem dX1_keep_69 : decode cX1_keep 69 = .ok (.goto 11, 3) := by decide +kernel
theorem dX1_keep_72 : decode cX1_keep 72 = .ok (.aload_n 0, 1) := by decide +kernel
theorem dX1_keep_73 : decode cX1_keep 73 = .ok (.aload_n 0, 1) := by decide +kernel
theorem dX1_keep_74 : decode cX1_keep 74 = .ok (.getfield 31, 3) := by decide +kernel
theorem dX1_keep_77 : decode cX1_keep 77 = .ok (.putfield 28, 3) := by decide +kernel
theorem dX1_keep_80 : decode cX1_keep 80 = .ok (.aload_n 0, 1) := by decide +kernel
theorem dX1_keep_81 : decode cX1_keep 81 = .ok (.dup, 1) := by decide +kernel
theorem dX1_keep_82 : decode cX1_keep 82 = .ok (.getfield 31, 3) := by decide +kernel
theorem dX1_keep_85 : decode cX1_keep 85 = .ok (.iconst 1, 1) := by decide +kernel
theorem dX1_keep_86 : decode cX1_keep 86 = .ok (.iadd, 1) := by decide +kernel
theorem dX1_keep_87 : decode cX1_keep 87 = .ok (.putfield 31, 3) := by decide +kernel
theorem dX1_keep_90 : decode cX1_keep 90 = .ok (.return_, 1) := by decide +kernel
theorem dX1_isPassed_0 : decode cX1_isPassed 0 = .ok (.iload_n 1, 1) := by decide +kernel
theorem dX1_isPassed_1 : decode cX1_isPassed 1 = .ok (.iconst (-1), 1) := by decide +kernel
theorem dX1_isPassed_2 : decode cX1_isPassed 2 = .ok (.if_icmp .eq 19, 3) := by decide +kernel
theorem dX1_isPassed_5 : decode cX1_isPassed 5 = .ok (.aload_n 0, 1) := by decide +kernel
theorem dX1_isPassed_6 : decode cX1_isPassed 6 = .ok (.getfield 18, 3) := by decide +kernel
theorem dX1_isPassed_9 : decode cX1_isPassed 9 = .ok (.iload_n 1, 1) := by decide +kernel
theorem dX1_isPassed_10 : decode cX1_isPassed 10 = .ok (.invokestatic 38, 3) := by decide +kernel
theorem dX1_isPassed_13 : decode cX1_isPassed 13 = .ok (.iconst 1, 1) := by decide +kernel
theorem dX1_isPassed_14 : decode cX1_isPassed 14 = .ok (.if_icmp .ne 7, 3) := by decide +kernel
theorem dX1_isPassed_17 : decode cX1_isPassed 17 = .ok (.iconst 1, 1) := by decide +kernel
theorem dX1_isPassed_18 : decode cX1_isPassed 18 = .ok (.goto 4, 3) := by decide +kernel
theorem dX1_isPassed_21 : decode cX1_isPassed 21 = .ok (.iconst 0, 1) := by decide +kernel
theorem dX1_isPassed_22 : decode cX1_isPassed 22 = .ok (.ireturn, 1) := by decide +kernel
theorem dX2_init_0 : decode cX2_init 0 = .ok (.aload_n 0, 1) := by decide +kernel
theorem dX2_init_1 : decode cX2_init 1 = .ok (.invokespecial 1, 3) := by decide +kernel
theorem dX2_init_4 : decode cX2_init 4 = .ok (.aload_n 0, 1) := by decide +kernel
theorem dX2_init_5 : decode cX2_init 5 = .ok (.aload_n 1, 1) := by decide +kernel
theorem dX2_init_6 : decode cX2_init 6 = .ok (.putfield 7, 3) := by decide +kernel
theorem dX2_init_9 : decode cX2_init 9 = .ok (.aload_n 0, 1) := by decide +kernel
theorem dX2_init_10 : decode cX2_init 10 = .ok (.bipush 110, 2) := by decide +kernel
theorem dX2_init_12 : decode cX2_init 12 = .ok (.putfield 13, 3) := by decide +kernel
theorem dX2_init_15 : decode cX2_init 15 = .ok (.aload_n 0, 1) := by decide +kernel
theorem dX2_init_16 : decode cX2_init 16 = .ok (.sipush 10000, 3) := by decide +kernel
theorem dX2_init_19 : decode cX2_init 19 = .ok (.putfield 17, 3) := by decide +kernel
theorem dX2_init_22 : decode cX2_init 22 = .ok (.return_, 1) := by decide +kernel
theorem dX2_become_0 : decode cX2_become 0 = .ok (.aload_n 0, 1) := by decide +kernel
theorem dX2_become_1 : decode cX2_become 1 = .ok (.aload_n 1, 1) := by decide +kernel
theorem dX2_become_2 : decode cX2_become 2 = .ok (.getfield 20, 3) := by decide +kernel
theorem dX2_become_5 : decode cX2_become 5 = .ok (.putfield 20, 3) := by decide +kernel
theorem dX2_become_8 : decode cX2_become 8 = .ok (.aload_n 0, 1) := by decide +kernel
theorem dX2_become_9 : decode cX2_become 9 = .ok (.aload_n 1, 1) := by decide +kernel
theorem dX2_become_10 : decode cX2_become 10 = .ok (.getfield 23, 3) := by decide +kernel
theorem dX2_become_13 : decode cX2_become 13 = .ok (.putfield 23, 3) := by decide +kernel
theorem dX2_become_16 : decode cX2_become 16 = .ok (.aload_n 0, 1) := by decide +kernel
theorem dX2_become_17 : decode cX2_become 17 = .ok (.aload_n 1, 1) := by decide +kernel
theorem dX2_become_18 : decode cX2_become 18 = .ok (.getfield 13, 3) := by decide +kernel
theorem dX2_become_21 : decode cX2_become 21 = .ok (.putfield 13, 3) := by decide +kernel
theorem dX2_become_24 : decode cX2_become 24 = .ok (.aload_n 0, 1) := by decide +kernel
theorem dX2_become_25 : decode cX2_become 25 = .ok (.aload_n 1, 1) := by decide +kernel
theorem dX2_become_26 : decode cX2_become 26 = .ok (.getfield 26, 3) := by decide +kernel
theorem dX2_become_29 : decode cX2_become 29 = .ok (.putfield 26, 3) := by decide +kernel
theorem dX2_become_32 : decode cX2_become 32 = .ok (.aload_n 0, 1) := by decide +kernel
theorem dX2_become_33 : decode cX2_become 33 = .ok (.aload_n 1, 1) := by decide +kernel
theorem dX2_become_34 : decode cX2_become 34 = .ok (.getfield 30, 3) := by decide +kernel
theorem dX2_become_37 : decode cX2_become 37 = .ok (.putfield 30, 3) := by decide +kernel
theorem dX2_become_40 : decode cX2_become 40 = .ok (.aload_n 0, 1) := by decide +kernel
theorem dX2_become_41 : decode cX2_become 41 = .ok (.aload_n 1, 1) := by decide +kernel
theorem dX2_become_42 : decode cX2_become 42 = .ok (.getfield 17, 3) := by decide +kernel
theorem dX2_become_45 : decode cX2_become 45 = .ok (.putfield 17, 3) := by decide +kernel
theorem dX2_become_48 : decode cX2_become 48 = .ok (.aload_n 0, 1) := by decide +kernel
theorem dX2_become_49 : decode cX2_become 49 = .ok (.aload_n 1, 1) := by decide +kernel
theorem dX2_become_50 : decode cX2_become 50 = .ok (.getfield 33, 3) := by decide +kernel
theorem dX2_become_53 : decode cX2_become 53 = .ok (.putfield 33, 3) := by decide +kernel
theorem dX2_become_56 : decode cX2_become 56 = .ok (.aload_n 0, 1) := by decide +kernel
theorem dX2_become_57 : decode cX2_become 57 = .ok (.aload_n 1, 1) := by decide +kernel
theorem dX2_become_58 : decode cX2_become 58 = .ok (.getfield 36, 3) := by decide +kernel
theorem dX2_become_61 : decode cX2_become 61 = .ok (.putfield 36, 3) := by decide +kernel
theorem dX2_become_64 : decode cX2_become 64 = .ok (.aload_n 0, 1) := by decide +kernel
theorem dX2_become_65 : decode cX2_become 65 = .ok (.aload_n 1, 1) := by decide +kernel
theorem dX2_become_66 : decode cX2_become 66 = .ok (.getfield 40, 3) := by decide +kernel
theorem dX2_become_69 : decode cX2_become 69 = .ok (.putfield 40, 3) := by decide +kernel
theorem dX2_become_72 : decode cX2_become 72 = .ok (.aload_n 0, 1) := by decide +kernel
theorem dX2_become_73 : decode cX2_become 73 = .ok (.aload_n 1, 1) := by decide +kernel
theorem dX2_become_74 : decode cX2_become 74 = .ok (.getfield 43, 3) := by decide +kernel
theorem dX2_become_77 : decode cX2_become 77 = .ok (.putfield 43, 3) := by decide +kernel
theorem dX2_become_80 : decode cX2_become 80 = .ok (.aload_n 0, 1) := by decide +kernel
theorem dX2_become_81 : decode cX2_become 81 = .ok (.aload_n 1, 1) := by decide +kernel
theorem dX2_become_82 : decode cX2_become 82 = .ok (.getfield 46, 3) := by decide +kernel
theorem dX2_become_85 : decode cX2_become 85 = .ok (.putfield 46, 3) := by decide +kernel
theorem dX2_become_88 : decode cX2_become 88 = .ok (.aload_n 0, 1) := by decide +kernel
theorem dX2_become_89 : decode cX2_become 89 = .ok (.aload_n 1, 1) := by decide +kernel
theorem dX2_become_90 : decode cX2_become 90 = .ok (.getfield 49, 3) := by decide +kernel
theorem dX2_become_93 : decode cX2_become 93 = .ok (.putfield 49, 3) := by decide +kernel
theorem dX2_become_96 : decode cX2_become 96 = .ok (.aload_n 0, 1) := by decide +kernel
theorem dX2_become_97 : decode cX2_become 97 = .ok (.aload_n 1, 1) := by decide +kernel
theorem dX2_become_98 : decode cX2_become 98 = .ok (.getfield 52, 3) := by decide +kernel
theorem dX2_become_101 : decode cX2_become 101 = .ok (.putfield 52, 3) := by decide +kernel
theorem dX2_become_104 : decode cX2_become 104 = .ok (.aload_n 0, 1) := by decide +kernel
theorem dX2_become_105 : decode cX2_become 105 = .ok (.aload_n 1, 1) := by decide +kernel
theorem dX2_become_106 : decode cX2_become 106 = .ok (.getfield 55, 3) := by decide +kernel
theorem dX2_become_109 : decode cX2_become 109 = .ok (.putfield 55, 3) := by decide +kernel
theorem dX2_become_112 : decode cX2_become 112 = .ok (.return_, 1) := by decide +kernel
theorem dX2_hasGas_0 : decode cX2_hasGas 0 = .ok (.aload_n 0, 1) := by decide +kernel
theorem dX2_hasGas_1 : decode cX2_hasGas 1 = .ok (.getfield 36, 3) := by decide +kernel
theorem dX2_hasGas_4 : decode cX2_hasGas 4 = .ok (.lconst 0, 1) := by decide +kernel
theorem dX2_hasGas_5 : decode cX2_hasGas 5 = .ok (.lcmp, 1) := by decide +kernel
theorem dX2_hasGas_6 : decode cX2_hasGas 6 = .ok (.ifCond .le 7, 3) := by decide +kernel
theorem dX2_hasGas_9 : decode cX2_hasGas 9 = .ok (.iconst 1, 1) := by decide +kernel
theorem dX2_hasGas_10 : decode cX2_hasGas 10 = .ok (.goto 4, 3) := by decide +kernel
theorem dX2_hasGas_13 : decode cX2_hasGas 13 = .ok (.iconst 0, 1) := by decide +kernel
theorem dX2_hasGas_14 : decode cX2_hasGas 14 = .ok (.ireturn, 1) := by decide +kernel
theorem dX2_hasInflow_0 : decode cX2_hasInflow 0 = .ok (.aload_n 0, 1) := by decide +kernel
theorem dX2_hasInflow_1 : decode cX2_hasInflow 1 = .ok (.invokevirtual 58, 3) := by decide +kernel
theorem dX2_hasInflow_4 : decode cX2_hasInflow 4 = .ok (.ifCond .ne 10, 3) := by decide +kernel
theorem dX2_hasInflow_7 : decode cX2_hasInflow 7 = .ok (.aload_n 0, 1) := by decide +kernel
theorem dX2_hasInflow_8 : decode cX2_hasInflow 8 = .ok (.getfield 46, 3) := by decide +kernel
theorem dX2_hasInflow_11 : decode cX2_hasInflow 11 = .ok (.ifCond .le 7, 3) := by decide +kernel
theorem dX2_hasInflow_14 : decode cX2_hasInflow 14 = .ok (.iconst 1, 1) := by decide +kernel
theorem dX2_hasInflow_15 : decode cX2_hasInflow 15 = .ok (.goto 4, 3) := by decide +kernel
theorem dX2_hasInflow_18 : decode cX2_hasInflow 18 = .ok (.iconst 0, 1) := by decide +kernel
theorem dX2_hasInflow_19 : decode cX2_hasInflow 19 = .ok (.ireturn, 1) := by decide +kernel
theorem dX2_column_0 : decode cX2_column 0 = .ok (.aload_n 0, 1) := by decide +kernel
theorem dX2_column_1 : decode cX2_column 1 = .ok (.getfield 13, 3) := by decide +kernel
theorem dX2_column_4 : decode cX2_column 4 = .ok (.iconst 0, 1) := by decide +kernel
theorem dX2_column_5 : decode cX2_column 5 = .ok (.aload_n 0, 1) := by decide +kernel
theorem dX2_column_6 : decode cX2_column 6 = .ok (.getfield 20, 3) := by decide +kernel
theorem dX2_column_9 : decode cX2_column 9 = .ok (.aload_n 0, 1) := by decide +kernel
theorem dX2_column_10 : decode cX2_column 10 = .ok (.getfield 43, 3) := by decide +kernel
theorem dX2_column_13 : decode cX2_column 13 = .ok (.isub, 1) := by decide +kernel
theorem dX2_column_14 : decode cX2_column 14 = .ok (.aload_n 0, 1) := by decide +kernel
theorem dX2_column_15 : decode cX2_column 15 = .ok (.getfield 46, 3) := by decide +kernel
theorem dX2_column_18 : decode cX2_column 18 = .ok (.isub, 1) := by decide +kernel
theorem dX2_column_19 : decode cX2_column 19 = .ok (.invokestatic 62, 3) := by decide +kernel
theorem dX2_column_22 : decode cX2_column 22 = .ok (.imul, 1) := by decide +kernel
theorem dX2_column_23 : decode cX2_column 23 = .ok (.bipush 100, 2) := by decide +kernel
theorem dX2_column_25 : decode cX2_column 25 = .ok (.aload_n 0, 1) := by decide +kernel
theorem dX2_column_26 : decode cX2_column 26 = .ok (.getfield 46, 3) := by decide +kernel
theorem dX2_column_29 : decode cX2_column 29 = .ok (.imul, 1) := by decide +kernel
theorem dX2_column_30 : decode cX2_column 30 = .ok (.iadd, 1) := by decide +kernel
theorem dX2_column_31 : decode cX2_column 31 = .ok (.bipush 10, 2) := by decide +kernel
theorem dX2_column_33 : decode cX2_column 33 = .ok (.idiv, 1) := by decide +kernel
theorem dX2_column_34 : decode cX2_column 34 = .ok (.ireturn, 1) := by decide +kernel
theorem dX2_bottom_0 : decode cX2_bottom 0 = .ok (.aload_n 0, 1) := by decide +kernel
theorem dX2_bottom_1 : decode cX2_bottom 1 = .ok (.invokevirtual 68, 3) := by decide +kernel
theorem dX2_bottom_4 : decode cX2_bottom 4 = .ok (.aload_n 0, 1) := by decide +kernel
theorem dX2_bottom_5 : decode cX2_bottom 5 = .ok (.getfield 30, 3) := by decide +kernel
theorem dX2_bottom_8 : decode cX2_bottom 8 = .ok (.iadd, 1) := by decide +kernel
theorem dX2_bottom_9 : decode cX2_bottom 9 = .ok (.ireturn, 1) := by decide +kernel
theorem dX2_gasPressure_0 : decode cX2_gasPressure 0 = .ok (.iconst 1, 1) := by decide +kernel
theorem dX2_gasPressure_1 : decode cX2_gasPressure 1 = .ok (.aload_n 0, 1) := by decide +kernel
theorem dX2_gasPressure_2 : decode cX2_gasPressure 2 = .ok (.getfield 13, 3) := by decide +kernel
theorem dX2_gasPressure_5 : decode cX2_gasPressure 5 = .ok (.aload_n 0, 1) := by decide +kernel
theorem dX2_gasPressure_6 : decode cX2_gasPressure 6 = .ok (.getfield 40, 3) := by decide +kernel
theorem dX2_gasPressure_9 : decode cX2_gasPressure 9 = .ok (.imul, 1) := by decide +kernel
theorem dX2_gasPressure_10 : decode cX2_gasPressure 10 = .ok (.bipush 10, 2) := by decide +kernel
theorem dX2_gasPressure_12 : decode cX2_gasPressure 12 = .ok (.idiv, 1) := by decide +kernel
theorem dX2_gasPressure_13 : decode cX2_gasPressure 13 = .ok (.aload_n 0, 1) := by decide +kernel
theorem dX2_gasPressure_14 : decode cX2_gasPressure 14 = .ok (.getfield 30, 3) := by decide +kernel
theorem dX2_gasPressure_17 : decode cX2_gasPressure 17 = .ok (.iadd, 1) := by decide +kernel
theorem dX2_gasPressure_18 : decode cX2_gasPressure 18 = .ok (.invokestatic 62, 3) := by decide +kernel
theorem dX2_gasPressure_21 : decode cX2_gasPressure 21 = .ok (.ireturn, 1) := by decide +kernel
theorem dX2_foot_0 : decode cX2_foot 0 = .ok (.aload_n 0, 1) := by decide +kernel
theorem dX2_foot_1 : decode cX2_foot 1 = .ok (.invokevirtual 58, 3) := by decide +kernel
theorem dX2_foot_4 : decode cX2_foot 4 = .ok (.ifCond .eq 18, 3) := by decide +kernel
theorem dX2_foot_7 : decode cX2_foot 7 = .ok (.aload_n 0, 1) := by decide +kernel
theorem dX2_foot_8 : decode cX2_foot 8 = .ok (.getfield 40, 3) := by decide +kernel
theorem dX2_foot_11 : decode cX2_foot 11 = .ok (.aload_n 0, 1) := by decide +kernel
theorem dX2_foot_12 : decode cX2_foot 12 = .ok (.getfield 23, 3) := by decide +kernel
theorem dX2_foot_15 : decode cX2_foot 15 = .ok (.if_icmp .ge 7, 3) := by decide +kernel
theorem dX2_foot_18 : decode cX2_foot 18 = .ok (.iconst 1, 1) := by decide +kernel
theorem dX2_foot_19 : decode cX2_foot 19 = .ok (.goto 4, 3) := by decide +kernel
theorem dX2_foot_22 : decode cX2_foot 22 = .ok (.iconst 0, 1) := by decide +kernel
theorem dX2_foot_23 : decode cX2_foot 23 = .ok (.istore_n 1, 1) := by decide +kernel
theorem dX2_foot_24 : decode cX2_foot 24 = .ok (.iload_n 1, 1) := by decide +kernel
theorem dX2_foot_25 : decode cX2_foot 25 = .ok (.ifCond .eq 19, 3) := by decide +kernel
theorem dX2_foot_28 : decode cX2_foot 28 = .ok (.iconst 0, 1) := by decide +kernel
theorem dX2_foot_29 : decode cX2_foot 29 = .ok (.aload_n 0, 1) := by decide +kernel
theorem dX2_foot_30 : decode cX2_foot 30 = .ok (.getfield 23, 3) := by decide +kernel
theorem dX2_foot_33 : decode cX2_foot 33 = .ok (.aload_n 0, 1) := by decide +kernel
theorem dX2_foot_34 : decode cX2_foot 34 = .ok (.getfield 43, 3) := by decide +kernel
theorem dX2_foot_37 : decode cX2_foot 37 = .ok (.isub, 1) := by decide +kernel
theorem dX2_foot_38 : decode cX2_foot 38 = .ok (.invokestatic 62, 3) := by decide +kernel
theorem dX2_foot_41 : decode cX2_foot 41 = .ok (.goto 7, 3) := by decide +kernel
theorem dX2_foot_44 : decode cX2_foot 44 = .ok (.aload_n 0, 1) := by decide +kernel
theorem dX2_foot_45 : decode cX2_foot 45 = .ok (.getfield 23, 3) := by decide +kernel
theorem dX2_foot_48 : decode cX2_foot 48 = .ok (.istore_n 2, 1) := by decide +kernel
theorem dX2_foot_49 : decode cX2_foot 49 = .ok (.aload_n 0, 1) := by decide +kernel
theorem dX2_foot_50 : decode cX2_foot 50 = .ok (.getfield 30, 3) := by decide +kernel
theorem dX2_foot_53 : decode cX2_foot 53 = .ok (.aload_n 0, 1) := by decide +kernel
theorem dX2_foot_54 : decode cX2_foot 54 = .ok (.getfield 13, 3) := by decide +kernel
theorem dX2_foot_57 : decode cX2_foot 57 = .ok (.iload_n 2, 1) := by decide +kernel
theorem dX2_foot_58 : decode cX2_foot 58 = .ok (.imul, 1) := by decide +kernel
theorem dX2_foot_59 : decode cX2_foot 59 = .ok (.bipush 10, 2) := by decide +kernel
theorem dX2_foot_61 : decode cX2_foot 61 = .ok (.idiv, 1) := by decide +kernel
theorem dX2_foot_62 : decode cX2_foot 62 = .ok (.iadd, 1) := by decide +kernel
theorem dX2_foot_63 : decode cX2_foot 63 = .ok (.ireturn, 1) := by decide +kernel
theorem dX2_letMinutesGo_0 : decode cX2_letMinutesGo 0 = .ok (.iconst 0, 1) := by decide +kernel
theorem dX2_letMinutesGo_1 : decode cX2_letMinutesGo 1 = .ok (.istore_n 2, 1) := by decide +kernel
theorem dX2_letMinutesGo_2 : decode cX2_letMinutesGo 2 = .ok (.iload_n 2, 1) := by decide +kernel
theorem dX2_letMinutesGo_3 : decode cX2_letMinutesGo 3 = .ok (.iload_n 1, 1) := by decide +kernel
theorem dX2_letMinutesGo_4 : decode cX2_letMinutesGo 4 = .ok (.if_icmp .ge 15, 3) := by decide +kernel
theorem dX2_letMinutesGo_7 : decode cX2_letMinutesGo 7 = .ok (.aload_n 0, 1) := by decide +kernel
theorem dX2_letMinutesGo_8 : decode cX2_letMinutesGo 8 = .ok (.iconst 0, 1) := by decide +kernel
theorem dX2_letMinutesGo_9 : decode cX2_letMinutesGo 9 = .ok (.invokevirtual 72, 3) := by decide +kernel
theorem dX2_letMinutesGo_12 : decode cX2_letMinutesGo 12 = .ok (.pop, 1) := by decide +kernel
theorem dX2_letMinutesGo_13 : decode cX2_letMinutesGo 13 = .ok (.iinc 2 1, 3) := by decide +kernel
theorem dX2_letMinutesGo_16 : decode cX2_letMinutesGo 16 = .ok (.goto (-14), 3) := by decide +kernel
theorem dX2_letMinutesGo_19 : decode cX2_letMinutesGo 19 = .ok (.aload_n 0, 1) := by decide +kernel
theorem dX2_letMinutesGo_20 : decode cX2_letMinutesGo 20 = .ok (.getfield 43, 3) := by decide +kernel
theorem dX2_letMinutesGo_23 : decode cX2_letMinutesGo 23 = .ok (.aload_n 0, 1) := by decide +kernel
theorem dX2_letMinutesGo_24 : decode cX2_letMinutesGo 24 = .ok (.getfield 46, 3) := by decide +kernel
theorem dX2_letMinutesGo_27 : decode cX2_letMinutesGo 27 = .ok (.iadd, 1) := by decide +kernel
theorem dX2_letMinutesGo_28 : decode cX2_letMinutesGo 28 = .ok (.ireturn, 1) := by decide +kernel
theorem dX2_letMinuteGo_0 : decode cX2_letMinuteGo 0 = .ok (.aload_n 0, 1) := by decide +kernel
theorem dX2_letMinuteGo_1 : decode cX2_letMinuteGo 1 = .ok (.dup, 1) := by decide +kernel
theorem dX2_letMinuteGo_2 : decode cX2_letMinuteGo 2 = .ok (.getfield 55, 3) := by decide +kernel
theorem dX2_letMinuteGo_5 : decode cX2_letMinuteGo 5 = .ok (.iconst 1, 1) := by decide +kernel
theorem dX2_letMinuteGo_6 : decode cX2_letMinuteGo 6 = .ok (.iadd, 1) := by decide +kernel
theorem dX2_letMinuteGo_7 : decode cX2_letMinuteGo 7 = .ok (.putfield 55, 3) := by decide +kernel
theorem dX2_letMinuteGo_10 : decode cX2_letMinuteGo 10 = .ok (.aload_n 0, 1) := by decide +kernel
theorem dX2_letMinuteGo_11 : decode cX2_letMinuteGo 11 = .ok (.iload_n 1, 1) := by decide +kernel
theorem dX2_letMinuteGo_12 : decode cX2_letMinuteGo 12 = .ok (.invokevirtual 76, 3) := by decide +kernel
theorem dX2_letMinuteGo_15 : decode cX2_letMinuteGo 15 = .ok (.aload_n 0, 1) := by decide +kernel
theorem dX2_letMinuteGo_16 : decode cX2_letMinuteGo 16 = .ok (.iload_n 1, 1) := by decide +kernel
theorem dX2_letMinuteGo_17 : decode cX2_letMinuteGo 17 = .ok (.invokevirtual 80, 3) := by decide +kernel
theorem dX2_letMinuteGo_20 : decode cX2_letMinuteGo 20 = .ok (.aload_n 0, 1) := by decide +kernel
theorem dX2_letMinuteGo_21 : decode cX2_letMinuteGo 21 = .ok (.invokevirtual 83, 3) := by decide +kernel
theorem dX2_letMinuteGo_24 : decode cX2_letMinuteGo 24 = .ok (.aload_n 0, 1) := by decide +kernel
theorem dX2_letMinuteGo_25 : decode cX2_letMinuteGo 25 = .ok (.invokevirtual 86, 3) := by decide +kernel
theorem dX2_letMinuteGo_28 : decode cX2_letMinuteGo 28 = .ok (.aload_n 0, 1) := by decide +kernel
theorem dX2_letMinuteGo_29 : decode cX2_letMinuteGo 29 = .ok (.invokevirtual 89, 3) := by decide +kernel
theorem dX2_letMinuteGo_32 : decode cX2_letMinuteGo 32 = .ok (.istore_n 2, 1) := by decide +kernel
theorem dX2_letMinuteGo_33 : decode cX2_letMinuteGo 33 = .ok (.aload_n 0, 1) := by decide +kernel
theorem dX2_letMinuteGo_34 : decode cX2_letMinuteGo 34 = .ok (.invokevirtual 92, 3) := by decide +kernel
theorem dX2_letMinuteGo_37 : decode cX2_letMinuteGo 37 = .ok (.iload_n 2, 1) := by decide +kernel
theorem dX2_letMinuteGo_38 : decode cX2_letMinuteGo 38 = .ok (.ireturn, 1) := by decide +kernel
theorem dX2_raiseGas_0 : decode cX2_raiseGas 0 = .ok (.aload_n 0, 1) := by decide +kernel
theorem dX2_raiseGas_1 : decode cX2_raiseGas 1 = .ok (.invokevirtual 58, 3) := by decide +kernel
theorem dX2_raiseGas_4 : decode cX2_raiseGas 4 = .ok (.ifCond .eq 40, 3) := by decide +kernel
theorem dX2_raiseGas_7 : decode cX2_raiseGas 7 = .ok (.iload_n 1, 1) := by decide +kernel
theorem dX2_raiseGas_8 : decode cX2_raiseGas 8 = .ok (.ifCond .eq 8, 3) := by decide +kernel
theorem dX2_raiseGas_11 : decode cX2_raiseGas 11 = .ok (.bipush 20, 2) := by decide +kernel
theorem dX2_raiseGas_13 : decode cX2_raiseGas 13 = .ok (.goto 16, 3) := by decide +kernel
theorem dX2_raiseGas_16 : decode cX2_raiseGas 16 = .ok (.aload_n 0, 1) := by decide +kernel
theorem dX2_raiseGas_17 : decode cX2_raiseGas 17 = .ok (.getfield 26, 3) := by decide +kernel
theorem dX2_raiseGas_20 : decode cX2_raiseGas 20 = .ok (.ifCond .eq 7, 3) := by decide +kernel
theorem dX2_raiseGas_23 : decode cX2_raiseGas 23 = .ok (.iconst 2, 1) := by decide +kernel
theorem dX2_raiseGas_24 : decode cX2_raiseGas 24 = .ok (.goto 5, 3) := by decide +kernel
theorem dX2_raiseGas_27 : decode cX2_raiseGas 27 = .ok (.bipush 8, 2) := by decide +kernel
theorem dX2_raiseGas_29 : decode cX2_raiseGas 29 = .ok (.istore_n 2, 1) := by decide +kernel
theorem dX2_raiseGas_30 : decode cX2_raiseGas 30 = .ok (.aload_n 0, 1) := by decide +kernel
theorem dX2_raiseGas_31 : decode cX2_raiseGas 31 = .ok (.iconst 0, 1) := by decide +kernel
theorem dX2_raiseGas_32 : decode cX2_raiseGas 32 = .ok (.aload_n 0, 1) := by decide +kernel
theorem dX2_raiseGas_33 : decode cX2_raiseGas 33 = .ok (.getfield 40, 3) := by decide +kernel
theorem dX2_raiseGas_36 : decode cX2_raiseGas 36 = .ok (.iload_n 2, 1) := by decide +kernel
theorem dX2_raiseGas_37 : decode cX2_raiseGas 37 = .ok (.isub, 1) := by decide +kernel
theorem dX2_raiseGas_38 : decode cX2_raiseGas 38 = .ok (.invokestatic 62, 3) := by decide +kernel
theorem dX2_raiseGas_41 : decode cX2_raiseGas 41 = .ok (.putfield 40, 3) := by decide +kernel
theorem dX2_raiseGas_44 : decode cX2_raiseGas 44 = .ok (.return_, 1) := by decide +kernel
theorem dX2_ventGas_0 : decode cX2_ventGas 0 = .ok (.aload_n 0, 1) := by decide +kernel
theorem dX2_ventGas_1 : decode cX2_ventGas 1 = .ok (.invokevirtual 58, 3) := by decide +kernel
theorem dX2_ventGas_4 : decode cX2_ventGas 4 = .ok (.ifCond .eq 45, 3) := by decide +kernel
theorem dX2_ventGas_7 : decode cX2_ventGas 7 = .ok (.aload_n 0, 1) := by decide +kernel
theorem dX2_ventGas_8 : decode cX2_ventGas 8 = .ok (.getfield 40, 3) := by decide +kernel
theorem dX2_ventGas_11 : decode cX2_ventGas 11 = .ok (.ifCond .ne 38, 3) := by decide +kernel
theorem dX2_ventGas_14 : decode cX2_ventGas 14 = .ok (.iload_n 1, 1) := by decide +kernel
theorem dX2_ventGas_15 : decode cX2_ventGas 15 = .ok (.ifCond .ne 10, 3) := by decide +kernel
theorem dX2_ventGas_18 : decode cX2_ventGas 18 = .ok (.aload_n 0, 1) := by decide +kernel
theorem dX2_ventGas_19 : decode cX2_ventGas 19 = .ok (.getfield 26, 3) := by decide +kernel
theorem dX2_ventGas_22 : decode cX2_ventGas 22 = .ok (.ifCond .ne 27, 3) := by decide +kernel
theorem dX2_ventGas_25 : decode cX2_ventGas 25 = .ok (.aload_n 0, 1) := by decide +kernel
theorem dX2_ventGas_26 : decode cX2_ventGas 26 = .ok (.dup, 1) := by decide +kernel
theorem dX2_ventGas_27 : decode cX2_ventGas 27 = .ok (.getfield 49, 3) := by decide +kernel
theorem dX2_ventGas_30 : decode cX2_ventGas 30 = .ok (.aload_n 0, 1) := by decide +kernel
theorem dX2_ventGas_31 : decode cX2_ventGas 31 = .ok (.getfield 43, 3) := by decide +kernel
theorem dX2_ventGas_34 : decode cX2_ventGas 34 = .ok (.i2l, 1) := by decide +kernel
theorem dX2_ventGas_35 : decode cX2_ventGas 35 = .ok (.ladd, 1) := by decide +kernel
theorem dX2_ventGas_36 : decode cX2_ventGas 36 = .ok (.putfield 49, 3) := by decide +kernel
theorem dX2_ventGas_39 : decode cX2_ventGas 39 = .ok (.aload_n 0, 1) := by decide +kernel
theorem dX2_ventGas_40 : decode cX2_ventGas 40 = .ok (.lconst 0, 1) := by decide +kernel
theorem dX2_ventGas_41 : decode cX2_ventGas 41 = .ok (.putfield 36, 3) := by decide +kernel
theorem dX2_ventGas_44 : decode cX2_ventGas 44 = .ok (.aload_n 0, 1) := by decide +kernel
theorem dX2_ventGas_45 : decode cX2_ventGas 45 = .ok (.iconst 0, 1) := by decide +kernel
theorem dX2_ventGas_46 : decode cX2_ventGas 46 = .ok (.putfield 43, 3) := by decide +kernel
theorem dX2_ventGas_49 : decode cX2_ventGas 49 = .ok (.return_, 1) := by decide +kernel
theorem dX2_measureGas_0 : decode cX2_measureGas 0 = .ok (.aload_n 0, 1) := by decide +kernel
theorem dX2_measureGas_1 : decode cX2_measureGas 1 = .ok (.invokevirtual 95, 3) := by decide +kernel
theorem dX2_measureGas_4 : decode cX2_measureGas 4 = .ok (.istore_n 1, 1) := by decide +kernel
theorem dX2_measureGas_5 : decode cX2_measureGas 5 = .ok (.aload_n 0, 1) := by decide +kernel
theorem dX2_measureGas_6 : decode cX2_measureGas 6 = .ok (.invokevirtual 58, 3) := by decide +kernel
theorem dX2_measureGas_9 : decode cX2_measureGas 9 = .ok (.ifCond .eq 32, 3) := by decide +kernel
theorem dX2_measureGas_12 : decode cX2_measureGas 12 = .ok (.iload_n 1, 1) := by decide +kernel
theorem dX2_measureGas_13 : decode cX2_measureGas 13 = .ok (.ifCond .le 28, 3) := by decide +kernel
theorem dX2_measureGas_16 : decode cX2_measureGas 16 = .ok (.aload_n 0, 1) := by decide +kernel
theorem dX2_measureGas_17 : decode cX2_measureGas 17 = .ok (.aload_n 0, 1) := by decide +kernel
theorem dX2_measureGas_18 : decode cX2_measureGas 18 = .ok (.getfield 36, 3) := by decide +kernel
theorem dX2_measureGas_21 : decode cX2_measureGas 21 = .ok (.iload_n 1, 1) := by decide +kernel
theorem dX2_measureGas_22 : decode cX2_measureGas 22 = .ok (.i2l, 1) := by decide +kernel
theorem dX2_measureGas_23 : decode cX2_measureGas 23 = .ok (.ldiv, 1) := by decide +kernel
theorem dX2_measureGas_24 : decode cX2_measureGas 24 = .ok (.aload_n 0, 1) := by decide +kernel
theorem dX2_measureGas_25 : decode cX2_measureGas 25 = .ok (.getfield 20, 3) := by decide +kernel
theorem dX2_measureGas_28 : decode cX2_measureGas 28 = .ok (.aload_n 0, 1) := by decide +kernel
theorem dX2_measureGas_29 : decode cX2_measureGas 29 = .ok (.getfield 46, 3) := by decide +kernel
theorem dX2_measureGas_32 : decode cX2_measureGas 32 = .ok (.isub, 1) := by decide +kernel
theorem dX2_measureGas_33 : decode cX2_measureGas 33 = .ok (.i2l, 1) := by decide +kernel
theorem dX2_measureGas_34 : decode cX2_measureGas 34 = .ok (.invokestatic 98, 3) := by decide +kernel
theorem dX2_measureGas_37 : decode cX2_measureGas 37 = .ok (.l2i, 1) := by decide +kernel
theorem dX2_measureGas_38 : decode cX2_measureGas 38 = .ok (.putfield 43, 3) := by decide +kernel
theorem dX2_measureGas_41 : decode cX2_measureGas 41 = .ok (.return_, 1) := by decide +kernel
theorem dX2_setChoke_0 : decode cX2_setChoke 0 = .ok (.aload_n 0, 1) := by decide +kernel
theorem dX2_setChoke_1 : decode cX2_setChoke 1 = .ok (.getfield 26, 3) := by decide +kernel
theorem dX2_setChoke_4 : decode cX2_setChoke 4 = .ok (.ifCond .ne 4, 3) := by decide +kernel
theorem dX2_setChoke_7 : decode cX2_setChoke 7 = .ok (.return_, 1) := by decide +kernel
theorem dX2_setChoke_8 : decode cX2_setChoke 8 = .ok (.aload_n 0, 1) := by decide +kernel
theorem dX2_setChoke_9 : decode cX2_setChoke 9 = .ok (.iconst 0, 1) := by decide +kernel
theorem dX2_setChoke_10 : decode cX2_setChoke 10 = .ok (.aload_n 0, 1) := by decide +kernel
theorem dX2_setChoke_11 : decode cX2_setChoke 11 = .ok (.getfield 7, 3) := by decide +kernel
theorem dX2_setChoke_14 : decode cX2_setChoke 14 = .ok (.aload_n 0, 1) := by decide +kernel
theorem dX2_setChoke_15 : decode cX2_setChoke 15 = .ok (.getfield 20, 3) := by decide +kernel
theorem dX2_setChoke_18 : decode cX2_setChoke 18 = .ok (.invokevirtual 102, 3) := by decide +kernel
theorem dX2_setChoke_21 : decode cX2_setChoke 21 = .ok (.aload_n 0, 1) := by decide +kernel
theorem dX2_setChoke_22 : decode cX2_setChoke 22 = .ok (.invokevirtual 68, 3) := by decide +kernel
theorem dX2_setChoke_25 : decode cX2_setChoke 25 = .ok (.isub, 1) := by decide +kernel
theorem dX2_setChoke_26 : decode cX2_setChoke 26 = .ok (.invokestatic 62, 3) := by decide +kernel
theorem dX2_setChoke_29 : decode cX2_setChoke 29 = .ok (.putfield 30, 3) := by decide +kernel
theorem dX2_setChoke_32 : decode cX2_setChoke 32 = .ok (.aload_n 0, 1) := by decide +kernel
theorem dX2_setChoke_33 : decode cX2_setChoke 33 = .ok (.getfield 30, 3) := by decide +kernel
theorem dX2_setChoke_36 : decode cX2_setChoke 36 = .ok (.aload_n 0, 1) := by decide +kernel
theorem dX2_setChoke_37 : decode cX2_setChoke 37 = .ok (.getfield 17, 3) := by decide +kernel
theorem dX2_setChoke_40 : decode cX2_setChoke 40 = .ok (.if_icmp .le 18, 3) := by decide +kernel
theorem dX2_setChoke_43 : decode cX2_setChoke 43 = .ok (.aload_n 0, 1) := by decide +kernel
theorem dX2_setChoke_44 : decode cX2_setChoke 44 = .ok (.iconst 0, 1) := by decide +kernel
theorem dX2_setChoke_45 : decode cX2_setChoke 45 = .ok (.putfield 26, 3) := by decide +kernel
theorem dX2_setChoke_48 : decode cX2_setChoke 48 = .ok (.aload_n 0, 1) := by decide +kernel
theorem dX2_setChoke_49 : decode cX2_setChoke 49 = .ok (.iconst 0, 1) := by decide +kernel
theorem dX2_setChoke_50 : decode cX2_setChoke 50 = .ok (.putfield 30, 3) := by decide +kernel
theorem dX2_setChoke_53 : decode cX2_setChoke 53 = .ok (.aload_n 0, 1) := by decide +kernel
theorem dX2_setChoke_54 : decode cX2_setChoke 54 = .ok (.iconst 1, 1) := by decide +kernel
theorem dX2_setChoke_55 : decode cX2_setChoke 55 = .ok (.putfield 33, 3) := by decide +kernel
theorem dX2_setChoke_58 : decode cX2_setChoke 58 = .ok (.return_, 1) := by decide +kernel
theorem dX2_flowIn_0 : decode cX2_flowIn 0 = .ok (.aload_n 0, 1) := by decide +kernel
theorem dX2_flowIn_1 : decode cX2_flowIn 1 = .ok (.getfield 7, 3) := by decide +kernel
theorem dX2_flowIn_4 : decode cX2_flowIn 4 = .ok (.aload_n 0, 1) := by decide +kernel
theorem dX2_flowIn_5 : decode cX2_flowIn 5 = .ok (.getfield 20, 3) := by decide +kernel
theorem dX2_flowIn_8 : decode cX2_flowIn 8 = .ok (.invokevirtual 102, 3) := by decide +kernel
theorem dX2_flowIn_11 : decode cX2_flowIn 11 = .ok (.aload_n 0, 1) := by decide +kernel
theorem dX2_flowIn_12 : decode cX2_flowIn 12 = .ok (.invokevirtual 108, 3) := by decide +kernel
theorem dX2_flowIn_15 : decode cX2_flowIn 15 = .ok (.isub, 1) := by decide +kernel
theorem dX2_flowIn_16 : decode cX2_flowIn 16 = .ok (.istore_n 1, 1) := by decide +kernel
theorem dX2_flowIn_17 : decode cX2_flowIn 17 = .ok (.aload_n 0, 1) := by decide +kernel
theorem dX2_flowIn_18 : decode cX2_flowIn 18 = .ok (.getfield 26, 3) := by decide +kernel
theorem dX2_flowIn_21 : decode cX2_flowIn 21 = .ok (.ifCond .ne 7, 3) := by decide +kernel
theorem dX2_flowIn_24 : decode cX2_flowIn 24 = .ok (.iload_n 1, 1) := by decide +kernel
theorem dX2_flowIn_25 : decode cX2_flowIn 25 = .ok (.ifCond .gt 5, 3) := by decide +kernel
theorem dX2_flowIn_28 : decode cX2_flowIn 28 = .ok (.iconst 0, 1) := by decide +kernel
theorem dX2_flowIn_29 : decode cX2_flowIn 29 = .ok (.ireturn, 1) := by decide +kernel
theorem dX2_flowIn_30 : decode cX2_flowIn 30 = .ok (.bipush 40, 2) := by decide +kernel
theorem dX2_flowIn_32 : decode cX2_flowIn 32 = .ok (.iconst 1, 1) := by decide +kernel
theorem dX2_flowIn_33 : decode cX2_flowIn 33 = .ok (.iload_n 1, 1) := by decide +kernel
theorem dX2_flowIn_34 : decode cX2_flowIn 34 = .ok (.aload_n 0, 1) := by decide +kernel
theorem dX2_flowIn_35 : decode cX2_flowIn 35 = .ok (.getfield 7, 3) := by decide +kernel
theorem dX2_flowIn_38 : decode cX2_flowIn 38 = .ok (.aload_n 0, 1) := by decide +kernel
theorem dX2_flowIn_39 : decode cX2_flowIn 39 = .ok (.getfield 20, 3) := by decide +kernel
theorem dX2_flowIn_42 : decode cX2_flowIn 42 = .ok (.invokevirtual 111, 3) := by decide +kernel
theorem dX2_flowIn_45 : decode cX2_flowIn 45 = .ok (.imul, 1) := by decide +kernel
theorem dX2_flowIn_46 : decode cX2_flowIn 46 = .ok (.sipush 10000, 3) := by decide +kernel
theorem dX2_flowIn_49 : decode cX2_flowIn 49 = .ok (.idiv, 1) := by decide +kernel
theorem dX2_flowIn_50 : decode cX2_flowIn 50 = .ok (.iadd, 1) := by decide +kernel
theorem dX2_flowIn_51 : decode cX2_flowIn 51 = .ok (.invokestatic 114, 3) := by decide +kernel
theorem dX2_flowIn_54 : decode cX2_flowIn 54 = .ok (.istore_n 2, 1) := by decide +kernel
theorem dX2_flowIn_55 : decode cX2_flowIn 55 = .ok (.aload_n 0, 1) := by decide +kernel
theorem dX2_flowIn_56 : decode cX2_flowIn 56 = .ok (.getfield 7, 3) := by decide +kernel
theorem dX2_flowIn_59 : decode cX2_flowIn 59 = .ok (.aload_n 0, 1) := by decide +kernel
theorem dX2_flowIn_60 : decode cX2_flowIn 60 = .ok (.getfield 20, 3) := by decide +kernel
theorem dX2_flowIn_63 : decode cX2_flowIn 63 = .ok (.invokevirtual 116, 3) := by decide +kernel
theorem dX2_flowIn_66 : decode cX2_flowIn 66 = .ok (.ifCond .ne 32, 3) := by decide +kernel
theorem dX2_flowIn_69 : decode cX2_flowIn 69 = .ok (.aload_n 0, 1) := by decide +kernel
theorem dX2_flowIn_70 : decode cX2_flowIn 70 = .ok (.dup, 1) := by decide +kernel
theorem dX2_flowIn_71 : decode cX2_flowIn 71 = .ok (.getfield 46, 3) := by decide +kernel
theorem dX2_flowIn_74 : decode cX2_flowIn 74 = .ok (.iload_n 2, 1) := by decide +kernel
theorem dX2_flowIn_75 : decode cX2_flowIn 75 = .ok (.aload_n 0, 1) := by decide +kernel
theorem dX2_flowIn_76 : decode cX2_flowIn 76 = .ok (.getfield 20, 3) := by decide +kernel
theorem dX2_flowIn_79 : decode cX2_flowIn 79 = .ok (.aload_n 0, 1) := by decide +kernel
theorem dX2_flowIn_80 : decode cX2_flowIn 80 = .ok (.getfield 43, 3) := by decide +kernel
theorem dX2_flowIn_83 : decode cX2_flowIn 83 = .ok (.isub, 1) := by decide +kernel
theorem dX2_flowIn_84 : decode cX2_flowIn 84 = .ok (.aload_n 0, 1) := by decide +kernel
theorem dX2_flowIn_85 : decode cX2_flowIn 85 = .ok (.getfield 46, 3) := by decide +kernel
theorem dX2_flowIn_88 : decode cX2_flowIn 88 = .ok (.isub, 1) := by decide +kernel
theorem dX2_flowIn_89 : decode cX2_flowIn 89 = .ok (.invokestatic 114, 3) := by decide +kernel
theorem dX2_flowIn_92 : decode cX2_flowIn 92 = .ok (.iadd, 1) := by decide +kernel
theorem dX2_flowIn_93 : decode cX2_flowIn 93 = .ok (.putfield 46, 3) := by decide +kernel
theorem dX2_flowIn_96 : decode cX2_flowIn 96 = .ok (.iconst 1, 1) := by decide +kernel
theorem dX2_flowIn_97 : decode cX2_flowIn 97 = .ok (.ireturn, 1) := by decide +kernel
theorem dX2_flowIn_98 : decode cX2_flowIn 98 = .ok (.aload_n 0, 1) := by decide +kernel
theorem dX2_flowIn_99 : decode cX2_flowIn 99 = .ok (.invokevirtual 58, 3) := by decide +kernel
theorem dX2_flowIn_102 : decode cX2_flowIn 102 = .ok (.ifCond .ne 11, 3) := by decide +kernel
theorem dX2_flowIn_105 : decode cX2_flowIn 105 = .ok (.aload_n 0, 1) := by decide +kernel
theorem dX2_flowIn_106 : decode cX2_flowIn 106 = .ok (.aload_n 0, 1) := by decide +kernel
theorem dX2_flowIn_107 : decode cX2_flowIn 107 = .ok (.getfield 20, 3) := by decide +kernel
theorem dX2_flowIn_110 : decode cX2_flowIn 110 = .ok (.putfield 40, 3) := by decide +kernel
theorem dX2_flowIn_113 : decode cX2_flowIn 113 = .ok (.aload_n 0, 1) := by decide +kernel
theorem dX2_flowIn_114 : decode cX2_flowIn 114 = .ok (.dup, 1) := by decide +kernel
theorem dX2_flowIn_115 : decode cX2_flowIn 115 = .ok (.getfield 36, 3) := by decide +kernel
theorem dX2_flowIn_118 : decode cX2_flowIn 118 = .ok (.iload_n 2, 1) := by decide +kernel
theorem dX2_flowIn_119 : decode cX2_flowIn 119 = .ok (.i2l, 1) := by decide +kernel
theorem dX2_flowIn_120 : decode cX2_flowIn 120 = .ok (.iconst 1, 1) := by decide +kernel
theorem dX2_flowIn_121 : decode cX2_flowIn 121 = .ok (.aload_n 0, 1) := by decide +kernel
theorem dX2_flowIn_122 : decode cX2_flowIn 122 = .ok (.invokevirtual 108, 3) := by decide +kernel
theorem dX2_flowIn_125 : decode cX2_flowIn 125 = .ok (.invokestatic 62, 3) := by decide +kernel
theorem dX2_flowIn_128 : decode cX2_flowIn 128 = .ok (.i2l, 1) := by decide +kernel
theorem dX2_flowIn_129 : decode cX2_flowIn 129 = .ok (.lmul, 1) := by decide +kernel
theorem dX2_flowIn_130 : decode cX2_flowIn 130 = .ok (.ladd, 1) := by decide +kernel
theorem dX2_flowIn_131 : decode cX2_flowIn 131 = .ok (.putfield 36, 3) := by decide +kernel
theorem dX2_flowIn_134 : decode cX2_flowIn 134 = .ok (.aload_n 0, 1) := by decide +kernel
theorem dX2_flowIn_135 : decode cX2_flowIn 135 = .ok (.invokevirtual 83, 3) := by decide +kernel
theorem dX2_flowIn_138 : decode cX2_flowIn 138 = .ok (.iconst 1, 1) := by decide +kernel
theorem dX2_flowIn_139 : decode cX2_flowIn 139 = .ok (.ireturn, 1) := by decide +kernel
theorem dX2_loseAtShoe_0 : decode cX2_loseAtShoe 0 = .ok (.aload_n 0, 1) := by decide +kernel
theorem dX2_loseAtShoe_1 : decode cX2_loseAtShoe 1 = .ok (.getfield 23, 3) := by decide +kernel
theorem dX2_loseAtShoe_4 : decode cX2_loseAtShoe 4 = .ok (.ifCond .le 31, 3) := by decide +kernel
theorem dX2_loseAtShoe_7 : decode cX2_loseAtShoe 7 = .ok (.aload_n 0, 1) := by decide +kernel
theorem dX2_loseAtShoe_8 : decode cX2_loseAtShoe 8 = .ok (.invokevirtual 120, 3) := by decide +kernel
theorem dX2_loseAtShoe_11 : decode cX2_loseAtShoe 11 = .ok (.aload_n 0, 1) := by decide +kernel
theorem dX2_loseAtShoe_12 : decode cX2_loseAtShoe 12 = .ok (.getfield 7, 3) := by decide +kernel
theorem dX2_loseAtShoe_15 : decode cX2_loseAtShoe 15 = .ok (.aload_n 0, 1) := by decide +kernel
theorem dX2_loseAtShoe_16 : decode cX2_loseAtShoe 16 = .ok (.getfield 23, 3) := by decide +kernel
theorem dX2_loseAtShoe_19 : decode cX2_loseAtShoe 19 = .ok (.invokevirtual 123, 3) := by decide +kernel
theorem dX2_loseAtShoe_22 : decode cX2_loseAtShoe 22 = .ok (.if_icmp .le 13, 3) := by decide +kernel
theorem dX2_loseAtShoe_25 : decode cX2_loseAtShoe 25 = .ok (.aload_n 0, 1) := by decide +kernel
theorem dX2_loseAtShoe_26 : decode cX2_loseAtShoe 26 = .ok (.dup, 1) := by decide +kernel
theorem dX2_loseAtShoe_27 : decode cX2_loseAtShoe 27 = .ok (.getfield 52, 3) := by decide +kernel
theorem dX2_loseAtShoe_30 : decode cX2_loseAtShoe 30 = .ok (.iconst 5, 1) := by decide +kernel
theorem dX2_loseAtShoe_31 : decode cX2_loseAtShoe 31 = .ok (.iadd, 1) := by decide +kernel
theorem dX2_loseAtShoe_32 : decode cX2_loseAtShoe 32 = .ok (.putfield 52, 3) := by decide +kernel
theorem dX2_loseAtShoe_35 : decode cX2_loseAtShoe 35 = .ok (.return_, 1) := by decide +kernel
theorem dX3_init_0 : decode cX3_init 0 = .ok (.aload_n 0, 1) := by decide +kernel
theorem dX3_init_1 : decode cX3_init 1 = .ok (.invokespecial 1, 3) := by decide +kernel
theorem dX3_init_4 : decode cX3_init 4 = .ok (.aload_n 0, 1) := by decide +kernel
theorem dX3_init_5 : decode cX3_init 5 = .ok (.new 7, 3) := by decide +kernel
theorem dX3_init_8 : decode cX3_init 8 = .ok (.dup, 1) := by decide +kernel
theorem dX3_init_9 : decode cX3_init 9 = .ok (.invokespecial 9, 3) := by decide +kernel
theorem dX3_init_12 : decode cX3_init 12 = .ok (.putfield 10, 3) := by decide +kernel
theorem dX3_init_15 : decode cX3_init 15 = .ok (.aload_n 0, 1) := by decide +kernel
theorem dX3_init_16 : decode cX3_init 16 = .ok (.new 16, 3) := by decide +kernel
theorem dX3_init_19 : decode cX3_init 19 = .ok (.dup, 1) := by decide +kernel
theorem dX3_init_20 : decode cX3_init 20 = .ok (.aload_n 0, 1) := by decide +kernel
theorem dX3_init_21 : decode cX3_init 21 = .ok (.getfield 10, 3) := by decide +kernel
theorem dX3_init_24 : decode cX3_init 24 = .ok (.invokespecial 18, 3) := by decide +kernel
theorem dX3_init_27 : decode cX3_init 27 = .ok (.putfield 21, 3) := by decide +kernel
theorem dX3_init_30 : decode cX3_init 30 = .ok (.aload_n 0, 1) := by decide +kernel
theorem dX3_init_31 : decode cX3_init 31 = .ok (.new 16, 3) := by decide +kernel
theorem dX3_init_34 : decode cX3_init 34 = .ok (.dup, 1) := by decide +kernel
theorem dX3_init_35 : decode cX3_init 35 = .ok (.aload_n 0, 1) := by decide +kernel
theorem dX3_init_36 : decode cX3_init 36 = .ok (.getfield 10, 3) := by decide +kernel
theorem dX3_init_39 : decode cX3_init 39 = .ok (.invokespecial 18, 3) := by decide +kernel
theorem dX3_init_42 : decode cX3_init 42 = .ok (.putfield 25, 3) := by decide +kernel
theorem dX3_init_45 : decode cX3_init 45 = .ok (.aload_n 0, 1) := by decide +kernel
theorem dX3_init_46 : decode cX3_init 46 = .ok (.new 28, 3) := by decide +kernel
theorem dX3_init_49 : decode cX3_init 49 = .ok (.dup, 1) := by decide +kernel
theorem dX3_init_50 : decode cX3_init 50 = .ok (.invokespecial 30, 3) := by decide +kernel
theorem dX3_init_53 : decode cX3_init 53 = .ok (.putfield 31, 3) := by decide +kernel
theorem dX3_init_56 : decode cX3_init 56 = .ok (.aload_n 0, 1) := by decide +kernel
theorem dX3_init_57 : decode cX3_init 57 = .ok (.iconst (-1), 1) := by decide +kernel
theorem dX3_init_58 : decode cX3_init 58 = .ok (.putfield 35, 3) := by decide +kernel
theorem dX3_init_61 : decode cX3_init 61 = .ok (.return_, 1) := by decide +kernel
theorem dX3_layer_0 : decode cX3_layer 0 = .ok (.iload_n 1, 1) := by decide +kernel
theorem dX3_layer_1 : decode cX3_layer 1 = .ok (.iconst 0, 1) := by decide +kernel
theorem dX3_layer_2 : decode cX3_layer 2 = .ok (.bipush 49, 2) := by decide +kernel
theorem dX3_layer_4 : decode cX3_layer 4 = .ok (.invokestatic 39, 3) := by decide +kernel
theorem dX3_layer_7 : decode cX3_layer 7 = .ok (.ifCond .ne 13, 3) := by decide +kernel
theorem dX3_layer_10 : decode cX3_layer 10 = .ok (.new 43, 3) := by decide +kernel
theorem dX3_layer_13 : decode cX3_layer 13 = .ok (.dup, 1) := by decide +kernel
theorem dX3_layer_14 : decode cX3_layer 14 = .ok (.ldc 45, 2) := by decide +kernel
theorem dX3_layer_16 : decode cX3_layer 16 = .ok (.invokespecial 47, 3) := by decide +kernel
theorem dX3_layer_19 : decode cX3_layer 19 = .ok (.athrow, 1) := by decide +kernel
theorem dX3_layer_20 : decode cX3_layer 20 = .ok (.iload_n 2, 1) := by decide +kernel
theorem dX3_layer_21 : decode cX3_layer 21 = .ok (.iconst 0, 1) := by decide +kernel
theorem dX3_layer_22 : decode cX3_layer 22 = .ok (.sipush 300, 3) := by decide +kernel
theorem dX3_layer_25 : decode cX3_layer 25 = .ok (.invokestatic 39, 3) := by decide +kernel
theorem dX3_layer_28 : decode cX3_layer 28 = .ok (.ifCond .eq 26, 3) := by decide +kernel
theorem dX3_layer_31 : decode cX3_layer 31 = .ok (.iload_n 3, 1) := by decide +kernel
theorem dX3_layer_32 : decode cX3_layer 32 = .ok (.iconst 0, 1) := by decide +kernel
theorem dX3_layer_33 : decode cX3_layer 33 = .ok (.sipush 300, 3) := by decide +kernel
theorem dX3_layer_36 : decode cX3_layer 36 = .ok (.invokestatic 39, 3) := by decide +kernel
theorem dX3_layer_39 : decode cX3_layer 39 = .ok (.ifCond .eq 15, 3) := by decide +kernel
theorem dX3_layer_42 : decode cX3_layer 42 = .ok (.iload 4, 2) := by decide +kernel
theorem dX3_layer_44 : decode cX3_layer 44 = .ok (.iconst 0, 1) := by decide +kernel
theorem dX3_layer_45 : decode cX3_layer 45 = .ok (.sipush 1000, 3) := by decide +kernel
theorem dX3_layer_48 : decode cX3_layer 48 = .ok (.invokestatic 39, 3) := by decide +kernel
theorem dX3_layer_51 : decode cX3_layer 51 = .ok (.ifCond .ne 13, 3) := by decide +kernel
theorem dX3_layer_54 : decode cX3_layer 54 = .ok (.new 50, 3) := by decide +kernel
theorem dX3_layer_57 : decode cX3_layer 57 = .ok (.dup, 1) := by decide +kernel
theorem dX3_layer_58 : decode cX3_layer 58 = .ok (.ldc 52, 2) := by decide +kernel
theorem dX3_layer_60 : decode cX3_layer 60 = .ok (.invokespecial 54, 3) := by decide +kernel
theorem dX3_layer_63 : decode cX3_layer 63 = .ok (.athrow, 1) := by decide +kernel
theorem dX3_layer_64 : decode cX3_layer 64 = .ok (.aload_n 0, 1) := by decide +kernel
theorem dX3_layer_65 : decode cX3_layer 65 = .ok (.getfield 21, 3) := by decide +kernel
theorem dX3_layer_68 : decode cX3_layer 68 = .ok (.getfield 55, 3) := by decide +kernel
theorem dX3_layer_71 : decode cX3_layer 71 = .ok (.iload_n 1, 1) := by decide +kernel
theorem dX3_layer_72 : decode cX3_layer 72 = .ok (.bipush 100, 2) := by decide +kernel
theorem dX3_layer_74 : decode cX3_layer 74 = .ok (.imul, 1) := by decide +kernel
theorem dX3_layer_75 : decode cX3_layer 75 = .ok (.if_icmp .le 13, 3) := by decide +kernel
theorem dX3_layer_78 : decode cX3_layer 78 = .ok (.new 58, 3) := by decide +kernel
theorem dX3_layer_81 : decode cX3_layer 81 = .ok (.dup, 1) := by decide +kernel
theorem dX3_layer_82 : decode cX3_layer 82 = .ok (.ldc 60, 2) := by decide +kernel
theorem dX3_layer_84 : decode cX3_layer 84 = .ok (.invokespecial 62, 3) := by decide +kernel
theorem dX3_layer_87 : decode cX3_layer 87 = .ok (.athrow, 1) := by decide +kernel
theorem dX3_layer_88 : decode cX3_layer 88 = .ok (.aload_n 0, 1) := by decide +kernel
theorem dX3_layer_89 : decode cX3_layer 89 = .ok (.getfield 10, 3) := by decide +kernel
theorem dX3_layer_92 : decode cX3_layer 92 = .ok (.iload_n 1, 1) := by decide +kernel
theorem dX3_layer_93 : decode cX3_layer 93 = .ok (.iload_n 2, 1) := by decide +kernel
theorem dX3_layer_94 : decode cX3_layer 94 = .ok (.iload_n 3, 1) := by decide +kernel
theorem dX3_layer_95 : decode cX3_layer 95 = .ok (.iload 4, 2) := by decide +kernel
theorem dX3_layer_97 : decode cX3_layer 97 = .ok (.iload 5, 2) := by decide +kernel
theorem dX3_layer_99 : decode cX3_layer 99 = .ok (.invokevirtual 63, 3) := by decide +kernel
theorem dX3_layer_102 : decode cX3_layer 102 = .ok (.return_, 1) := by decide +kernel
theorem dX3_mud_0 : decode cX3_mud 0 = .ok (.iload_n 1, 1) := by decide +kernel
theorem dX3_mud_1 : decode cX3_mud 1 = .ok (.iconst 0, 1) := by decide +kernel
theorem dX3_mud_2 : decode cX3_mud 2 = .ok (.sipush 300, 3) := by decide +kernel
theorem dX3_mud_5 : decode cX3_mud 5 = .ok (.invokestatic 39, 3) := by decide +kernel
theorem dX3_mud_8 : decode cX3_mud 8 = .ok (.ifCond .ne 13, 3) := by decide +kernel
theorem dX3_mud_11 : decode cX3_mud 11 = .ok (.new 50, 3) := by decide +kernel
theorem dX3_mud_14 : decode cX3_mud 14 = .ok (.dup, 1) := by decide +kernel
theorem dX3_mud_15 : decode cX3_mud 15 = .ok (.ldc 67, 2) := by decide +kernel
theorem dX3_mud_17 : decode cX3_mud 17 = .ok (.invokespecial 54, 3) := by decide +kernel
theorem dX3_mud_20 : decode cX3_mud 20 = .ok (.athrow, 1) := by decide +kernel
theorem dX3_mud_21 : decode cX3_mud 21 = .ok (.aload_n 0, 1) := by decide +kernel
theorem dX3_mud_22 : decode cX3_mud 22 = .ok (.getfield 21, 3) := by decide +kernel
theorem dX3_mud_25 : decode cX3_mud 25 = .ok (.getfield 69, 3) := by decide +kernel
theorem dX3_mud_28 : decode cX3_mud 28 = .ok (.ifCond .eq 13, 3) := by decide +kernel
theorem dX3_mud_31 : decode cX3_mud 31 = .ok (.new 58, 3) := by decide +kernel
theorem dX3_mud_34 : decode cX3_mud 34 = .ok (.dup, 1) := by decide +kernel
theorem dX3_mud_35 : decode cX3_mud 35 = .ok (.ldc 73, 2) := by decide +kernel
theorem dX3_mud_37 : decode cX3_mud 37 = .ok (.invokespecial 62, 3) := by decide +kernel
theorem dX3_mud_40 : decode cX3_mud 40 = .ok (.athrow, 1) := by decide +kernel
theorem dX3_mud_41 : decode cX3_mud 41 = .ok (.aload_n 0, 1) := by decide +kernel
theorem dX3_mud_42 : decode cX3_mud 42 = .ok (.getfield 21, 3) := by decide +kernel
theorem dX3_mud_45 : decode cX3_mud 45 = .ok (.getfield 75, 3) := by decide +kernel
theorem dX3_mud_48 : decode cX3_mud 48 = .ok (.istore_n 2, 1) := by decide +kernel
theorem dX3_mud_49 : decode cX3_mud 49 = .ok (.aload_n 0, 1) := by decide +kernel
theorem dX3_mud_50 : decode cX3_mud 50 = .ok (.getfield 21, 3) := by decide +kernel
theorem dX3_mud_53 : decode cX3_mud 53 = .ok (.iload_n 1, 1) := by decide +kernel
theorem dX3_mud_54 : decode cX3_mud 54 = .ok (.putfield 75, 3) := by decide +kernel
theorem dX3_mud_57 : decode cX3_mud 57 = .ok (.aload_n 0, 1) := by decide +kernel
theorem dX3_mud_58 : decode cX3_mud 58 = .ok (.iconst 0, 1) := by decide +kernel
theorem dX3_mud_59 : decode cX3_mud 59 = .ok (.putfield 78, 3) := by decide +kernel
theorem dX3_mud_62 : decode cX3_mud 62 = .ok (.iload_n 2, 1) := by decide +kernel
theorem dX3_mud_63 : decode cX3_mud 63 = .ok (.ireturn, 1) := by decide +kernel
theorem dX3_drill_0 : decode cX3_drill 0 = .ok (.iload_n 1, 1) := by decide +kernel
theorem dX3_drill_1 : decode cX3_drill 1 = .ok (.iconst 1, 1) := by decide +kernel
theorem dX3_drill_2 : decode cX3_drill 2 = .ok (.sipush 500, 3) := by decide +kernel
theorem dX3_drill_5 : decode cX3_drill 5 = .ok (.invokestatic 39, 3) := by decide +kernel
theorem dX3_drill_8 : decode cX3_drill 8 = .ok (.ifCond .ne 13, 3) := by decide +kernel
theorem dX3_drill_11 : decode cX3_drill 11 = .ok (.new 50, 3) := by decide +kernel
theorem dX3_drill_14 : decode cX3_drill 14 = .ok (.dup, 1) := by decide +kernel
theorem dX3_drill_15 : decode cX3_drill 15 = .ok (.ldc 81, 2) := by decide +kernel
theorem dX3_drill_17 : decode cX3_drill 17 = .ok (.invokespecial 54, 3) := by decide +kernel
theorem dX3_drill_20 : decode cX3_drill 20 = .ok (.athrow, 1) := by decide +kernel
theorem dX3_drill_21 : decode cX3_drill 21 = .ok (.aload_n 0, 1) := by decide +kernel
theorem dX3_drill_22 : decode cX3_drill 22 = .ok (.invokevirtual 83, 3) := by decide +kernel
theorem dX3_drill_25 : decode cX3_drill 25 = .ok (.ifCond .ne 26, 3) := by decide +kernel
theorem dX3_drill_28 : decode cX3_drill 28 = .ok (.aload_n 0, 1) := by decide +kernel
theorem dX3_drill_29 : decode cX3_drill 29 = .ok (.getfield 21, 3) := by decide +kernel
theorem dX3_drill_32 : decode cX3_drill 32 = .ok (.getfield 55, 3) := by decide +kernel
theorem dX3_drill_35 : decode cX3_drill 35 = .ok (.iload_n 1, 1) := by decide +kernel
theorem dX3_drill_36 : decode cX3_drill 36 = .ok (.iadd, 1) := by decide +kernel
theorem dX3_drill_37 : decode cX3_drill 37 = .ok (.sipush 5000, 3) := by decide +kernel
theorem dX3_drill_40 : decode cX3_drill 40 = .ok (.if_icmp .gt 11, 3) := by decide +kernel
theorem dX3_drill_43 : decode cX3_drill 43 = .ok (.aload_n 0, 1) := by decide +kernel
theorem dX3_drill_44 : decode cX3_drill 44 = .ok (.iload_n 1, 1) := by decide +kernel
theorem dX3_drill_45 : decode cX3_drill 45 = .ok (.invokevirtual 87, 3) := by decide +kernel
theorem dX3_drill_48 : decode cX3_drill 48 = .ok (.ifCond .ne 13, 3) := by decide +kernel
theorem dX3_drill_51 : decode cX3_drill 51 = .ok (.new 58, 3) := by decide +kernel
theorem dX3_drill_54 : decode cX3_drill 54 = .ok (.dup, 1) := by decide +kernel
theorem dX3_drill_55 : decode cX3_drill 55 = .ok (.ldc 91, 2) := by decide +kernel
theorem dX3_drill_57 : decode cX3_drill 57 = .ok (.invokespecial 62, 3) := by decide +kernel
theorem dX3_drill_60 : decode cX3_drill 60 = .ok (.athrow, 1) := by decide +kernel
theorem dX3_drill_61 : decode cX3_drill 61 = .ok (.iconst 1, 1) := by decide +kernel
theorem dX3_drill_62 : decode cX3_drill 62 = .ok (.istore_n 2, 1) := by decide +kernel
theorem dX3_drill_63 : decode cX3_drill 63 = .ok (.iload_n 2, 1) := by decide +kernel
theorem dX3_drill_64 : decode cX3_drill 64 = .ok (.iload_n 1, 1) := by decide +kernel
theorem dX3_drill_65 : decode cX3_drill 65 = .ok (.if_icmp .gt 35, 3) := by decide +kernel
theorem dX3_drill_68 : decode cX3_drill 68 = .ok (.aload_n 0, 1) := by decide +kernel
theorem dX3_drill_69 : decode cX3_drill 69 = .ok (.getfield 21, 3) := by decide +kernel
theorem dX3_drill_72 : decode cX3_drill 72 = .ok (.dup, 1) := by decide +kernel
theorem dX3_drill_73 : decode cX3_drill 73 = .ok (.getfield 55, 3) := by decide +kernel
theorem dX3_drill_76 : decode cX3_drill 76 = .ok (.iconst 1, 1) := by decide +kernel
theorem dX3_drill_77 : decode cX3_drill 77 = .ok (.iadd, 1) := by decide +kernel
theorem dX3_drill_78 : decode cX3_drill 78 = .ok (.putfield 55, 3) := by decide +kernel
theorem dX3_drill_81 : decode cX3_drill 81 = .ok (.aload_n 0, 1) := by decide +kernel
theorem dX3_drill_82 : decode cX3_drill 82 = .ok (.getfield 21, 3) := by decide +kernel
theorem dX3_drill_85 : decode cX3_drill 85 = .ok (.iconst 0, 1) := by decide +kernel
theorem dX3_drill_86 : decode cX3_drill 86 = .ok (.invokevirtual 93, 3) := by decide +kernel
theorem dX3_drill_89 : decode cX3_drill 89 = .ok (.ifCond .eq 5, 3) := by decide +kernel
theorem dX3_drill_92 : decode cX3_drill 92 = .ok (.iload_n 2, 1) := by decide +kernel
theorem dX3_drill_93 : decode cX3_drill 93 = .ok (.ireturn, 1) := by decide +kernel
theorem dX3_drill_94 : decode cX3_drill 94 = .ok (.iinc 2 1, 3) := by decide +kernel
theorem dX3_drill_97 : decode cX3_drill 97 = .ok (.goto (-34), 3) := by decide +kernel
theorem dX3_drill_100 : decode cX3_drill 100 = .ok (.iload_n 1, 1) := by decide +kernel
theorem dX3_drill_101 : decode cX3_drill 101 = .ok (.ireturn, 1) := by decide +kernel
theorem dX3_pass_0 : decode cX3_pass 0 = .ok (.iload_n 1, 1) := by decide +kernel
theorem dX3_pass_1 : decode cX3_pass 1 = .ok (.iconst 1, 1) := by decide +kernel
theorem dX3_pass_2 : decode cX3_pass 2 = .ok (.sipush 2000, 3) := by decide +kernel
theorem dX3_pass_5 : decode cX3_pass 5 = .ok (.invokestatic 39, 3) := by decide +kernel
theorem dX3_pass_8 : decode cX3_pass 8 = .ok (.ifCond .ne 13, 3) := by decide +kernel
theorem dX3_pass_11 : decode cX3_pass 11 = .ok (.new 50, 3) := by decide +kernel
theorem dX3_pass_14 : decode cX3_pass 14 = .ok (.dup, 1) := by decide +kernel
theorem dX3_pass_15 : decode cX3_pass 15 = .ok (.ldc 97, 2) := by decide +kernel
theorem dX3_pass_17 : decode cX3_pass 17 = .ok (.invokespecial 54, 3) := by decide +kernel
theorem dX3_pass_20 : decode cX3_pass 20 = .ok (.athrow, 1) := by decide +kernel
theorem dX3_pass_21 : decode cX3_pass 21 = .ok (.aload_n 0, 1) := by decide +kernel
theorem dX3_pass_22 : decode cX3_pass 22 = .ok (.iload_n 1, 1) := by decide +kernel
theorem dX3_pass_23 : decode cX3_pass 23 = .ok (.invokevirtual 87, 3) := by decide +kernel
theorem dX3_pass_26 : decode cX3_pass 26 = .ok (.ifCond .ne 13, 3) := by decide +kernel
theorem dX3_pass_29 : decode cX3_pass 29 = .ok (.new 58, 3) := by decide +kernel
theorem dX3_pass_32 : decode cX3_pass 32 = .ok (.dup, 1) := by decide +kernel
theorem dX3_pass_33 : decode cX3_pass 33 = .ok (.ldc 99, 2) := by decide +kernel
theorem dX3_pass_35 : decode cX3_pass 35 = .ok (.invokespecial 62, 3) := by decide +kernel
theorem dX3_pass_38 : decode cX3_pass 38 = .ok (.athrow, 1) := by decide +kernel
theorem dX3_pass_39 : decode cX3_pass 39 = .ok (.aload_n 0, 1) := by decide +kernel
theorem dX3_pass_40 : decode cX3_pass 40 = .ok (.getfield 21, 3) := by decide +kernel
theorem dX3_pass_43 : decode cX3_pass 43 = .ok (.iload_n 1, 1) := by decide +kernel
theorem dX3_pass_44 : decode cX3_pass 44 = .ok (.invokevirtual 101, 3) := by decide +kernel
theorem dX3_pass_47 : decode cX3_pass 47 = .ok (.ireturn, 1) := by decide +kernel
theorem dX3_close_0 : decode cX3_close 0 = .ok (.aload_n 0, 1) := by decide +kernel
theorem dX3_close_1 : decode cX3_close 1 = .ok (.getfield 21, 3) := by decide +kernel
theorem dX3_close_4 : decode cX3_close 4 = .ok (.getfield 69, 3) := by decide +kernel
theorem dX3_close_7 : decode cX3_close 7 = .ok (.ifCond .eq 13, 3) := by decide +kernel
theorem dX3_close_10 : decode cX3_close 10 = .ok (.new 58, 3) := by decide +kernel
theorem dX3_close_13 : decode cX3_close 13 = .ok (.dup, 1) := by decide +kernel
theorem dX3_close_14 : decode cX3_close 14 = .ok (.ldc 73, 2) := by decide +kernel
theorem dX3_close_16 : decode cX3_close 16 = .ok (.invokespecial 62, 3) := by decide +kernel
theorem dX3_close_19 : decode cX3_close 19 = .ok (.athrow, 1) := by decide +kernel
theorem dX3_close_20 : decode cX3_close 20 = .ok (.aload_n 0, 1) := by decide +kernel
theorem dX3_close_21 : decode cX3_close 21 = .ok (.getfield 21, 3) := by decide +kernel
theorem dX3_close_24 : decode cX3_close 24 = .ok (.iconst 1, 1) := by decide +kernel
theorem dX3_close_25 : decode cX3_close 25 = .ok (.putfield 69, 3) := by decide +kernel
theorem dX3_close_28 : decode cX3_close 28 = .ok (.return_, 1) := by decide +kernel
theorem dX3_open_0 : decode cX3_open 0 = .ok (.aload_n 0, 1) := by decide +kernel
theorem dX3_open_1 : decode cX3_open 1 = .ok (.getfield 21, 3) := by decide +kernel
theorem dX3_open_4 : decode cX3_open 4 = .ok (.getfield 69, 3) := by decide +kernel
theorem dX3_open_7 : decode cX3_open 7 = .ok (.ifCond .ne 13, 3) := by decide +kernel
theorem dX3_open_10 : decode cX3_open 10 = .ok (.new 58, 3) := by decide +kernel
theorem dX3_open_13 : decode cX3_open 13 = .ok (.dup, 1) := by decide +kernel
theorem dX3_open_14 : decode cX3_open 14 = .ok (.ldc 105, 2) := by decide +kernel
theorem dX3_open_16 : decode cX3_open 16 = .ok (.invokespecial 62, 3) := by decide +kernel
theorem dX3_open_19 : decode cX3_open 19 = .ok (.athrow, 1) := by decide +kernel
theorem dX3_open_20 : decode cX3_open 20 = .ok (.aload_n 0, 1) := by decide +kernel
theorem dX3_open_21 : decode cX3_open 21 = .ok (.getfield 21, 3) := by decide +kernel
theorem dX3_open_24 : decode cX3_open 24 = .ok (.getfield 107, 3) := by decide +kernel
theorem dX3_open_27 : decode cX3_open 27 = .ok (.istore_n 1, 1) := by decide +kernel
theorem dX3_open_28 : decode cX3_open 28 = .ok (.aload_n 0, 1) := by decide +kernel
theorem dX3_open_29 : decode cX3_open 29 = .ok (.getfield 21, 3) := by decide +kernel
theorem dX3_open_32 : decode cX3_open 32 = .ok (.iconst 0, 1) := by decide +kernel
theorem dX3_open_33 : decode cX3_open 33 = .ok (.putfield 69, 3) := by decide +kernel
theorem dX3_open_36 : decode cX3_open 36 = .ok (.aload_n 0, 1) := by decide +kernel
theorem dX3_open_37 : decode cX3_open 37 = .ok (.getfield 21, 3) := by decide +kernel
theorem dX3_open_40 : decode cX3_open 40 = .ok (.iconst 0, 1) := by decide +kernel
theorem dX3_open_41 : decode cX3_open 41 = .ok (.putfield 107, 3) := by decide +kernel
theorem dX3_open_44 : decode cX3_open 44 = .ok (.iload_n 1, 1) := by decide +kernel
theorem dX3_open_45 : decode cX3_open 45 = .ok (.ireturn, 1) := by decide +kernel
theorem dX3_pump_0 : decode cX3_pump 0 = .ok (.iload_n 1, 1) := by decide +kernel
theorem dX3_pump_1 : decode cX3_pump 1 = .ok (.iconst 1, 1) := by decide +kernel
theorem dX3_pump_2 : decode cX3_pump 2 = .ok (.sipush 500, 3) := by decide +kernel
theorem dX3_pump_5 : decode cX3_pump 5 = .ok (.invokestatic 39, 3) := by decide +kernel
theorem dX3_pump_8 : decode cX3_pump 8 = .ok (.ifCond .eq 14, 3) := by decide +kernel
theorem dX3_pump_11 : decode cX3_pump 11 = .ok (.iload_n 2, 1) := by decide +kernel
theorem dX3_pump_12 : decode cX3_pump 12 = .ok (.iconst 0, 1) := by decide +kernel
theorem dX3_pump_13 : decode cX3_pump 13 = .ok (.sipush 300, 3) := by decide +kernel
theorem dX3_pump_16 : decode cX3_pump 16 = .ok (.invokestatic 39, 3) := by decide +kernel
theorem dX3_pump_19 : decode cX3_pump 19 = .ok (.ifCond .ne 13, 3) := by decide +kernel
theorem dX3_pump_22 : decode cX3_pump 22 = .ok (.new 50, 3) := by decide +kernel
theorem dX3_pump_25 : decode cX3_pump 25 = .ok (.dup, 1) := by decide +kernel
theorem dX3_pump_26 : decode cX3_pump 26 = .ok (.ldc 110, 2) := by decide +kernel
theorem dX3_pump_28 : decode cX3_pump 28 = .ok (.invokespecial 54, 3) := by decide +kernel
theorem dX3_pump_31 : decode cX3_pump 31 = .ok (.athrow, 1) := by decide +kernel
theorem dX3_pump_32 : decode cX3_pump 32 = .ok (.aload_n 0, 1) := by decide +kernel
theorem dX3_pump_33 : decode cX3_pump 33 = .ok (.getfield 21, 3) := by decide +kernel
theorem dX3_pump_36 : decode cX3_pump 36 = .ok (.getfield 69, 3) := by decide +kernel
theorem dX3_pump_39 : decode cX3_pump 39 = .ok (.ifCond .eq 21, 3) := by decide +kernel
theorem dX3_pump_42 : decode cX3_pump 42 = .ok (.aload_n 0, 1) := by decide +kernel
theorem dX3_pump_43 : decode cX3_pump 43 = .ok (.getfield 21, 3) := by decide +kernel
theorem dX3_pump_46 : decode cX3_pump 46 = .ok (.getfield 55, 3) := by decide +kernel
theorem dX3_pump_49 : decode cX3_pump 49 = .ok (.ifCond .eq 11, 3) := by decide +kernel
theorem dX3_pump_52 : decode cX3_pump 52 = .ok (.aload_n 0, 1) := by decide +kernel
theorem dX3_pump_53 : decode cX3_pump 53 = .ok (.iload_n 1, 1) := by decide +kernel
theorem dX3_pump_54 : decode cX3_pump 54 = .ok (.invokevirtual 87, 3) := by decide +kernel
theorem dX3_pump_57 : decode cX3_pump 57 = .ok (.ifCond .ne 13, 3) := by decide +kernel
theorem dX3_pump_60 : decode cX3_pump 60 = .ok (.new 58, 3) := by decide +kernel
theorem dX3_pump_63 : decode cX3_pump 63 = .ok (.dup, 1) := by decide +kernel
theorem dX3_pump_64 : decode cX3_pump 64 = .ok (.ldc 112, 2) := by decide +kernel
theorem dX3_pump_66 : decode cX3_pump 66 = .ok (.invokespecial 62, 3) := by decide +kernel
theorem dX3_pump_69 : decode cX3_pump 69 = .ok (.athrow, 1) := by decide +kernel
theorem dX3_pump_70 : decode cX3_pump 70 = .ok (.iload_n 2, 1) := by decide +kernel
theorem dX3_pump_71 : decode cX3_pump 71 = .ok (.aload_n 0, 1) := by decide +kernel
theorem dX3_pump_72 : decode cX3_pump 72 = .ok (.getfield 35, 3) := by decide +kernel
theorem dX3_pump_75 : decode cX3_pump 75 = .ok (.if_icmp .eq 8, 3) := by decide +kernel
theorem dX3_pump_78 : decode cX3_pump 78 = .ok (.aload_n 0, 1) := by decide +kernel
theorem dX3_pump_79 : decode cX3_pump 79 = .ok (.iconst 0, 1) := by decide +kernel
theorem dX3_pump_80 : decode cX3_pump 80 = .ok (.putfield 78, 3) := by decide +kernel
theorem dX3_pump_83 : decode cX3_pump 83 = .ok (.aload_n 0, 1) := by decide +kernel
theorem dX3_pump_84 : decode cX3_pump 84 = .ok (.iload_n 2, 1) := by decide +kernel
theorem dX3_pump_85 : decode cX3_pump 85 = .ok (.putfield 35, 3) := by decide +kernel
theorem dX3_pump_88 : decode cX3_pump 88 = .ok (.iconst 1, 1) := by decide +kernel
theorem dX3_pump_89 : decode cX3_pump 89 = .ok (.istore_n 3, 1) := by decide +kernel
theorem dX3_pump_90 : decode cX3_pump 90 = .ok (.iload_n 3, 1) := by decide +kernel
theorem dX3_pump_91 : decode cX3_pump 91 = .ok (.iload_n 1, 1) := by decide +kernel
theorem dX3_pump_92 : decode cX3_pump 92 = .ok (.if_icmp .gt 35, 3) := by decide +kernel
theorem dX3_pump_95 : decode cX3_pump 95 = .ok (.aload_n 0, 1) := by decide +kernel
theorem dX3_pump_96 : decode cX3_pump 96 = .ok (.getfield 21, 3) := by decide +kernel
theorem dX3_pump_99 : decode cX3_pump 99 = .ok (.iconst 1, 1) := by decide +kernel
theorem dX3_pump_100 : decode cX3_pump 100 = .ok (.invokevirtual 93, 3) := by decide +kernel
theorem dX3_pump_103 : decode cX3_pump 103 = .ok (.pop, 1) := by decide +kernel
theorem dX3_pump_104 : decode cX3_pump 104 = .ok (.aload_n 0, 1) := by decide +kernel
theorem dX3_pump_105 : decode cX3_pump 105 = .ok (.getfield 21, 3) := by decide +kernel
theorem dX3_pump_108 : decode cX3_pump 108 = .ok (.getfield 69, 3) := by decide +kernel
theorem dX3_pump_111 : decode cX3_pump 111 = .ok (.ifCond .ne 5, 3) := by decide +kernel
theorem dX3_pump_114 : decode cX3_pump 114 = .ok (.iload_n 3, 1) := by decide +kernel
theorem dX3_pump_115 : decode cX3_pump 115 = .ok (.ireturn, 1) := by decide +kernel
theorem dX3_pump_116 : decode cX3_pump 116 = .ok (.aload_n 0, 1) := by decide +kernel
theorem dX3_pump_117 : decode cX3_pump 117 = .ok (.iload_n 2, 1) := by decide +kernel
theorem dX3_pump_118 : decode cX3_pump 118 = .ok (.invokevirtual 114, 3) := by decide +kernel
theorem dX3_pump_121 : decode cX3_pump 121 = .ok (.iinc 3 1, 3) := by decide +kernel
theorem dX3_pump_124 : decode cX3_pump 124 = .ok (.goto (-34), 3) := by decide +kernel
theorem dX3_pump_127 : decode cX3_pump 127 = .ok (.iload_n 1, 1) := by decide +kernel
theorem dX3_pump_128 : decode cX3_pump 128 = .ok (.ireturn, 1) := by decide +kernel
theorem dX3_pumpOn_0 : decode cX3_pumpOn 0 = .ok (.aload_n 0, 1) := by decide +kernel
theorem dX3_pumpOn_1 : decode cX3_pumpOn 1 = .ok (.dup, 1) := by decide +kernel
theorem dX3_pumpOn_2 : decode cX3_pumpOn 2 = .ok (.getfield 78, 3) := by decide +kernel
theorem dX3_pumpOn_5 : decode cX3_pumpOn 5 = .ok (.bipush 20, 2) := by decide +kernel
theorem dX3_pumpOn_7 : decode cX3_pumpOn 7 = .ok (.iadd, 1) := by decide +kernel
theorem dX3_pumpOn_8 : decode cX3_pumpOn 8 = .ok (.putfield 78, 3) := by decide +kernel
theorem dX3_pumpOn_11 : decode cX3_pumpOn 11 = .ok (.aload_n 0, 1) := by decide +kernel
theorem dX3_pumpOn_12 : decode cX3_pumpOn 12 = .ok (.getfield 78, 3) := by decide +kernel
theorem dX3_pumpOn_15 : decode cX3_pumpOn 15 = .ok (.aload_n 0, 1) := by decide +kernel
theorem dX3_pumpOn_16 : decode cX3_pumpOn 16 = .ok (.getfield 21, 3) := by decide +kernel
theorem dX3_pumpOn_19 : decode cX3_pumpOn 19 = .ok (.getfield 55, 3) := by decide +kernel
theorem dX3_pumpOn_22 : decode cX3_pumpOn 22 = .ok (.if_icmp .lt 24, 3) := by decide +kernel
theorem dX3_pumpOn_25 : decode cX3_pumpOn 25 = .ok (.aload_n 0, 1) := by decide +kernel
theorem dX3_pumpOn_26 : decode cX3_pumpOn 26 = .ok (.getfield 21, 3) := by decide +kernel
theorem dX3_pumpOn_29 : decode cX3_pumpOn 29 = .ok (.iload_n 1, 1) := by decide +kernel
theorem dX3_pumpOn_30 : decode cX3_pumpOn 30 = .ok (.putfield 75, 3) := by decide +kernel
theorem dX3_pumpOn_33 : decode cX3_pumpOn 33 = .ok (.aload_n 0, 1) := by decide +kernel
theorem dX3_pumpOn_34 : decode cX3_pumpOn 34 = .ok (.getfield 21, 3) := by decide +kernel
theorem dX3_pumpOn_37 : decode cX3_pumpOn 37 = .ok (.iconst 0, 1) := by decide +kernel
theorem dX3_pumpOn_38 : decode cX3_pumpOn 38 = .ok (.putfield 118, 3) := by decide +kernel
theorem dX3_pumpOn_41 : decode cX3_pumpOn 41 = .ok (.aload_n 0, 1) := by decide +kernel
theorem dX3_pumpOn_42 : decode cX3_pumpOn 42 = .ok (.iconst 0, 1) := by decide +kernel
theorem dX3_pumpOn_43 : decode cX3_pumpOn 43 = .ok (.putfield 78, 3) := by decide +kernel
theorem dX3_pumpOn_46 : decode cX3_pumpOn 46 = .ok (.return_, 1) := by decide +kernel
theorem dX3_casing_0 : decode cX3_casing 0 = .ok (.iload_n 1, 1) := by decide +kernel
theorem dX3_casing_1 : decode cX3_casing 1 = .ok (.iconst 0, 1) := by decide +kernel
theorem dX3_casing_2 : decode cX3_casing 2 = .ok (.sipush 1000, 3) := by decide +kernel
theorem dX3_casing_5 : decode cX3_casing 5 = .ok (.invokestatic 39, 3) := by decide +kernel
theorem dX3_casing_8 : decode cX3_casing 8 = .ok (.ifCond .ne 13, 3) := by decide +kernel
theorem dX3_casing_11 : decode cX3_casing 11 = .ok (.new 50, 3) := by decide +kernel
theorem dX3_casing_14 : decode cX3_casing 14 = .ok (.dup, 1) := by decide +kernel
theorem dX3_casing_15 : decode cX3_casing 15 = .ok (.ldc 121, 2) := by decide +kernel
theorem dX3_casing_17 : decode cX3_casing 17 = .ok (.invokespecial 54, 3) := by decide +kernel
theorem dX3_casing_20 : decode cX3_casing 20 = .ok (.athrow, 1) := by decide +kernel
theorem dX3_casing_21 : decode cX3_casing 21 = .ok (.aload_n 0, 1) := by decide +kernel
theorem dX3_casing_22 : decode cX3_casing 22 = .ok (.getfield 21, 3) := by decide +kernel
theorem dX3_casing_25 : decode cX3_casing 25 = .ok (.getfield 55, 3) := by decide +kernel
theorem dX3_casing_28 : decode cX3_casing 28 = .ok (.aload_n 0, 1) := by decide +kernel
theorem dX3_casing_29 : decode cX3_casing 29 = .ok (.getfield 21, 3) := by decide +kernel
theorem dX3_casing_32 : decode cX3_casing 32 = .ok (.getfield 123, 3) := by decide +kernel
theorem dX3_casing_35 : decode cX3_casing 35 = .ok (.isub, 1) := by decide +kernel
theorem dX3_casing_36 : decode cX3_casing 36 = .ok (.istore_n 2, 1) := by decide +kernel
theorem dX3_casing_37 : decode cX3_casing 37 = .ok (.iload_n 2, 1) := by decide +kernel
theorem dX3_casing_38 : decode cX3_casing 38 = .ok (.ifCond .le 13, 3) := by decide +kernel
theorem dX3_casing_41 : decode cX3_casing 41 = .ok (.aload_n 0, 1) := by decide +kernel
theorem dX3_casing_42 : decode cX3_casing 42 = .ok (.getfield 21, 3) := by decide +kernel
theorem dX3_casing_45 : decode cX3_casing 45 = .ok (.invokevirtual 126, 3) := by decide +kernel
theorem dX3_casing_48 : decode cX3_casing 48 = .ok (.ifCond .eq 13, 3) := by decide +kernel
theorem dX3_casing_51 : decode cX3_casing 51 = .ok (.new 58, 3) := by decide +kernel
theorem dX3_casing_54 : decode cX3_casing 54 = .ok (.dup, 1) := by decide +kernel
theorem dX3_casing_55 : decode cX3_casing 55 = .ok (.ldc 130, 2) := by decide +kernel
theorem dX3_casing_57 : decode cX3_casing 57 = .ok (.invokespecial 62, 3) := by decide +kernel
theorem dX3_casing_60 : decode cX3_casing 60 = .ok (.athrow, 1) := by decide +kernel
theorem dX3_casing_61 : decode cX3_casing 61 = .ok (.aload_n 0, 1) := by decide +kernel
theorem dX3_casing_62 : decode cX3_casing 62 = .ok (.sipush 1000, 3) := by decide +kernel
theorem dX3_casing_65 : decode cX3_casing 65 = .ok (.iload_n 1, 1) := by decide +kernel
theorem dX3_casing_66 : decode cX3_casing 66 = .ok (.imul, 1) := by decide +kernel
theorem dX3_casing_67 : decode cX3_casing 67 = .ok (.iload_n 2, 1) := by decide +kernel
theorem dX3_casing_68 : decode cX3_casing 68 = .ok (.idiv, 1) := by decide +kernel
theorem dX3_casing_69 : decode cX3_casing 69 = .ok (.putfield 132, 3) := by decide +kernel
theorem dX3_casing_72 : decode cX3_casing 72 = .ok (.aload_n 0, 1) := by decide +kernel
theorem dX3_casing_73 : decode cX3_casing 73 = .ok (.getfield 21, 3) := by decide +kernel
theorem dX3_casing_76 : decode cX3_casing 76 = .ok (.aload_n 0, 1) := by decide +kernel
theorem dX3_casing_77 : decode cX3_casing 77 = .ok (.getfield 21, 3) := by decide +kernel
theorem dX3_casing_80 : decode cX3_casing 80 = .ok (.getfield 55, 3) := by decide +kernel
theorem dX3_casing_83 : decode cX3_casing 83 = .ok (.putfield 123, 3) := by decide +kernel
theorem dX3_casing_86 : decode cX3_casing 86 = .ok (.aload_n 0, 1) := by decide +kernel
theorem dX3_casing_87 : decode cX3_casing 87 = .ok (.getfield 31, 3) := by decide +kernel
theorem dX3_casing_90 : decode cX3_casing 90 = .ok (.iconst (-1), 1) := by decide +kernel
theorem dX3_casing_91 : decode cX3_casing 91 = .ok (.putfield 135, 3) := by decide +kernel
theorem dX3_casing_94 : decode cX3_casing 94 = .ok (.aload_n 0, 1) := by decide +kernel
theorem dX3_casing_95 : decode cX3_casing 95 = .ok (.getfield 132, 3) := by decide +kernel
theorem dX3_casing_98 : decode cX3_casing 98 = .ok (.ireturn, 1) := by decide +kernel
theorem dX3_strength_0 : decode cX3_strength 0 = .ok (.iload_n 1, 1) := by decide +kernel
theorem dX3_strength_1 : decode cX3_strength 1 = .ok (.iconst 0, 1) := by decide +kernel
theorem dX3_strength_2 : decode cX3_strength 2 = .ok (.ldc 138, 2) := by decide +kernel
theorem dX3_strength_4 : decode cX3_strength 4 = .ok (.invokestatic 39, 3) := by decide +kernel
theorem dX3_strength_7 : decode cX3_strength 7 = .ok (.ifCond .ne 13, 3) := by decide +kernel
theorem dX3_strength_10 : decode cX3_strength 10 = .ok (.new 50, 3) := by decide +kernel
theorem dX3_strength_13 : decode cX3_strength 13 = .ok (.dup, 1) := by decide +kernel
theorem dX3_strength_14 : decode cX3_strength 14 = .ok (.ldc 139, 2) := by decide +kernel
theorem dX3_strength_16 : decode cX3_strength 16 = .ok (.invokespecial 54, 3) := by decide +kernel
theorem dX3_strength_19 : decode cX3_strength 19 = .ok (.athrow, 1) := by decide +kernel
theorem dX3_strength_20 : decode cX3_strength 20 = .ok (.aload_n 0, 1) := by decide +kernel
theorem dX3_strength_21 : decode cX3_strength 21 = .ok (.getfield 21, 3) := by decide +kernel
theorem dX3_strength_24 : decode cX3_strength 24 = .ok (.getfield 141, 3) := by decide +kernel
theorem dX3_strength_27 : decode cX3_strength 27 = .ok (.istore_n 2, 1) := by decide +kernel
theorem dX3_strength_28 : decode cX3_strength 28 = .ok (.aload_n 0, 1) := by decide +kernel
theorem dX3_strength_29 : decode cX3_strength 29 = .ok (.getfield 21, 3) := by decide +kernel
theorem dX3_strength_32 : decode cX3_strength 32 = .ok (.iload_n 1, 1) := by decide +kernel
theorem dX3_strength_33 : decode cX3_strength 33 = .ok (.putfield 141, 3) := by decide +kernel
theorem dX3_strength_36 : decode cX3_strength 36 = .ok (.iload_n 2, 1) := by decide +kernel
theorem dX3_strength_37 : decode cX3_strength 37 = .ok (.ireturn, 1) := by decide +kernel
theorem dX3_test_0 : decode cX3_test 0 = .ok (.iload_n 1, 1) := by decide +kernel
theorem dX3_test_1 : decode cX3_test 1 = .ok (.iconst 0, 1) := by decide +kernel
theorem dX3_test_2 : decode cX3_test 2 = .ok (.iconst 1, 1) := by decide +kernel
theorem dX3_test_3 : decode cX3_test 3 = .ok (.invokestatic 39, 3) := by decide +kernel
theorem dX3_test_6 : decode cX3_test 6 = .ok (.ifCond .eq 15, 3) := by decide +kernel
theorem dX3_test_9 : decode cX3_test 9 = .ok (.iload_n 2, 1) := by decide +kernel
theorem dX3_test_10 : decode cX3_test 10 = .ok (.sipush 1000, 3) := by decide +kernel
theorem dX3_test_13 : decode cX3_test 13 = .ok (.ldc 138, 2) := by decide +kernel
theorem dX3_test_15 : decode cX3_test 15 = .ok (.invokestatic 39, 3) := by decide +kernel
theorem dX3_test_18 : decode cX3_test 18 = .ok (.ifCond .ne 13, 3) := by decide +kernel
theorem dX3_test_21 : decode cX3_test 21 = .ok (.new 50, 3) := by decide +kernel
theorem dX3_test_24 : decode cX3_test 24 = .ok (.dup, 1) := by decide +kernel
theorem dX3_test_25 : decode cX3_test 25 = .ok (.ldc 144, 2) := by decide +kernel
theorem dX3_test_27 : decode cX3_test 27 = .ok (.invokespecial 54, 3) := by decide +kernel
theorem dX3_test_30 : decode cX3_test 30 = .ok (.athrow, 1) := by decide +kernel
theorem dX3_test_31 : decode cX3_test 31 = .ok (.aload_n 0, 1) := by decide +kernel
theorem dX3_test_32 : decode cX3_test 32 = .ok (.getfield 21, 3) := by decide +kernel
theorem dX3_test_35 : decode cX3_test 35 = .ok (.getfield 69, 3) := by decide +kernel
theorem dX3_test_38 : decode cX3_test 38 = .ok (.ifCond .ne 30, 3) := by decide +kernel
theorem dX3_test_41 : decode cX3_test 41 = .ok (.aload_n 0, 1) := by decide +kernel
theorem dX3_test_42 : decode cX3_test 42 = .ok (.getfield 31, 3) := by decide +kernel
theorem dX3_test_45 : decode cX3_test 45 = .ok (.getfield 146, 3) := by decide +kernel
theorem dX3_test_48 : decode cX3_test 48 = .ok (.bipush 60, 2) := by decide +kernel
theorem dX3_test_50 : decode cX3_test 50 = .ok (.if_icmp .ge 18, 3) := by decide +kernel
theorem dX3_test_53 : decode cX3_test 53 = .ok (.iload_n 1, 1) := by decide +kernel
theorem dX3_test_54 : decode cX3_test 54 = .ok (.iconst 1, 1) := by decide +kernel
theorem dX3_test_55 : decode cX3_test 55 = .ok (.if_icmp .ne 23, 3) := by decide +kernel
theorem dX3_test_58 : decode cX3_test 58 = .ok (.aload_n 0, 1) := by decide +kernel
theorem dX3_test_59 : decode cX3_test 59 = .ok (.getfield 21, 3) := by decide +kernel
theorem dX3_test_62 : decode cX3_test 62 = .ok (.getfield 123, 3) := by decide +kernel
theorem dX3_test_65 : decode cX3_test 65 = .ok (.ifCond .ne 13, 3) := by decide +kernel
theorem dX3_test_68 : decode cX3_test 68 = .ok (.new 58, 3) := by decide +kernel
theorem dX3_test_71 : decode cX3_test 71 = .ok (.dup, 1) := by decide +kernel
theorem dX3_test_72 : decode cX3_test 72 = .ok (.ldc 149, 2) := by decide +kernel
theorem dX3_test_74 : decode cX3_test 74 = .ok (.invokespecial 62, 3) := by decide +kernel
theorem dX3_test_77 : decode cX3_test 77 = .ok (.athrow, 1) := by decide +kernel
theorem dX3_test_78 : decode cX3_test 78 = .ok (.iload_n 2, 1) := by decide +kernel
theorem dX3_test_79 : decode cX3_test 79 = .ok (.iload_n 1, 1) := by decide +kernel
theorem dX3_test_80 : decode cX3_test 80 = .ok (.ifCond .ne 13, 3) := by decide +kernel
theorem dX3_test_83 : decode cX3_test 83 = .ok (.aload_n 0, 1) := by decide +kernel
theorem dX3_test_84 : decode cX3_test 84 = .ok (.getfield 21, 3) := by decide +kernel
theorem dX3_test_87 : decode cX3_test 87 = .ok (.getfield 141, 3) := by decide +kernel
theorem dX3_test_90 : decode cX3_test 90 = .ok (.goto 7, 3) := by decide +kernel
theorem dX3_test_93 : decode cX3_test 93 = .ok (.aload_n 0, 1) := by decide +kernel
theorem dX3_test_94 : decode cX3_test 94 = .ok (.getfield 132, 3) := by decide +kernel
theorem dX3_test_97 : decode cX3_test 97 = .ok (.if_icmp .gt 7, 3) := by decide +kernel
theorem dX3_test_100 : decode cX3_test 100 = .ok (.iconst 1, 1) := by decide +kernel
theorem dX3_test_101 : decode cX3_test 101 = .ok (.goto 4, 3) := by decide +kernel
theorem dX3_test_104 : decode cX3_test 104 = .ok (.iconst 0, 1) := by decide +kernel
theorem dX3_test_105 : decode cX3_test 105 = .ok (.istore_n 3, 1) := by decide +kernel
theorem dX3_test_106 : decode cX3_test 106 = .ok (.aload_n 0, 1) := by decide +kernel
theorem dX3_test_107 : decode cX3_test 107 = .ok (.getfield 31, 3) := by decide +kernel
theorem dX3_test_110 : decode cX3_test 110 = .ok (.iload_n 1, 1) := by decide +kernel
theorem dX3_test_111 : decode cX3_test 111 = .ok (.iload_n 2, 1) := by decide +kernel
theorem dX3_test_112 : decode cX3_test 112 = .ok (.iload_n 3, 1) := by decide +kernel
theorem dX3_test_113 : decode cX3_test 113 = .ok (.aload_n 0, 1) := by decide +kernel
theorem dX3_test_114 : decode cX3_test 114 = .ok (.getfield 21, 3) := by decide +kernel
theorem dX3_test_117 : decode cX3_test 117 = .ok (.getfield 151, 3) := by decide +kernel
theorem dX3_test_120 : decode cX3_test 120 = .ok (.invokevirtual 154, 3) := by decide +kernel
theorem dX3_test_123 : decode cX3_test 123 = .ok (.iload_n 1, 1) := by decide +kernel
theorem dX3_test_124 : decode cX3_test 124 = .ok (.ifCond .ne 11, 3) := by decide +kernel
theorem dX3_test_127 : decode cX3_test 127 = .ok (.aload_n 0, 1) := by decide +kernel
theorem dX3_test_128 : decode cX3_test 128 = .ok (.getfield 21, 3) := by decide +kernel
theorem dX3_test_131 : decode cX3_test 131 = .ok (.iconst 0, 1) := by decide +kernel
theorem dX3_test_132 : decode cX3_test 132 = .ok (.putfield 158, 3) := by decide +kernel
theorem dX3_test_135 : decode cX3_test 135 = .ok (.iload_n 3, 1) := by decide +kernel
theorem dX3_test_136 : decode cX3_test 136 = .ok (.ireturn, 1) := by decide +kernel
theorem dX3_stop_0 : decode cX3_stop 0 = .ok (.iload_n 1, 1) := by decide +kernel
theorem dX3_stop_1 : decode cX3_stop 1 = .ok (.iconst 0, 1) := by decide +kernel
theorem dX3_stop_2 : decode cX3_stop 2 = .ok (.iconst 5, 1) := by decide +kernel
theorem dX3_stop_3 : decode cX3_stop 3 = .ok (.invokestatic 39, 3) := by decide +kernel
theorem dX3_stop_6 : decode cX3_stop 6 = .ok (.ifCond .ne 13, 3) := by decide +kernel
theorem dX3_stop_9 : decode cX3_stop 9 = .ok (.new 43, 3) := by decide +kernel
theorem dX3_stop_12 : decode cX3_stop 12 = .ok (.dup, 1) := by decide +kernel
theorem dX3_stop_13 : decode cX3_stop 13 = .ok (.ldc 161, 2) := by decide +kernel
theorem dX3_stop_15 : decode cX3_stop 15 = .ok (.invokespecial 47, 3) := by decide +kernel
theorem dX3_stop_18 : decode cX3_stop 18 = .ok (.athrow, 1) := by decide +kernel
theorem dX3_stop_19 : decode cX3_stop 19 = .ok (.iconst 1, 1) := by decide +kernel
theorem dX3_stop_20 : decode cX3_stop 20 = .ok (.iload_n 1, 1) := by decide +kernel
theorem dX3_stop_21 : decode cX3_stop 21 = .ok (.ishl, 1) := by decide +kernel
theorem dX3_stop_22 : decode cX3_stop 22 = .ok (.istore_n 3, 1) := by decide +kernel
theorem dX3_stop_23 : decode cX3_stop 23 = .ok (.aload_n 0, 1) := by decide +kernel
theorem dX3_stop_24 : decode cX3_stop 24 = .ok (.iload_n 2, 1) := by decide +kernel
theorem dX3_stop_25 : decode cX3_stop 25 = .ok (.ifCond .eq 12, 3) := by decide +kernel
theorem dX3_stop_28 : decode cX3_stop 28 = .ok (.aload_n 0, 1) := by decide +kernel
theorem dX3_stop_29 : decode cX3_stop 29 = .ok (.getfield 163, 3) := by decide +kernel
theorem dX3_stop_32 : decode cX3_stop 32 = .ok (.iload_n 3, 1) := by decide +kernel
theorem dX3_stop_33 : decode cX3_stop 33 = .ok (.ior, 1) := by decide +kernel
theorem dX3_stop_34 : decode cX3_stop 34 = .ok (.goto 11, 3) := by decide +kernel
theorem dX3_stop_37 : decode cX3_stop 37 = .ok (.aload_n 0, 1) := by decide +kernel
theorem dX3_stop_38 : decode cX3_stop 38 = .ok (.getfield 163, 3) := by decide +kernel
theorem dX3_stop_41 : decode cX3_stop 41 = .ok (.iload_n 3, 1) := by decide +kernel
theorem dX3_stop_42 : decode cX3_stop 42 = .ok (.iconst (-1), 1) := by decide +kernel
theorem dX3_stop_43 : decode cX3_stop 43 = .ok (.ixor, 1) := by decide +kernel
theorem dX3_stop_44 : decode cX3_stop 44 = .ok (.iand, 1) := by decide +kernel
theorem dX3_stop_45 : decode cX3_stop 45 = .ok (.putfield 163, 3) := by decide +kernel
theorem dX3_stop_48 : decode cX3_stop 48 = .ok (.aload_n 0, 1) := by decide +kernel
theorem dX3_stop_49 : decode cX3_stop 49 = .ok (.getfield 163, 3) := by decide +kernel
theorem dX3_stop_52 : decode cX3_stop 52 = .ok (.invokestatic 166, 3) := by decide +kernel
theorem dX3_stop_55 : decode cX3_stop 55 = .ok (.ireturn, 1) := by decide +kernel
theorem dX3_pressure_0 : decode cX3_pressure 0 = .ok (.iload_n 1, 1) := by decide +kernel
theorem dX3_pressure_1 : decode cX3_pressure 1 = .ok (.tableswitch 115 0 5 #[39, 47, 62, 70, 85, 93], 39) := by decide +kernel
theorem dX3_pressure_40 : decode cX3_pressure 40 = .ok (.aload_n 0, 1) := by decide +kernel
theorem dX3_pressure_41 : decode cX3_pressure 41 = .ok (.getfield 21, 3) := by decide +kernel
theorem dX3_pressure_44 : decode cX3_pressure 44 = .ok (.invokevirtual 171, 3) := by decide +kernel
theorem dX3_pressure_47 : decode cX3_pressure 47 = .ok (.ireturn, 1) := by decide +kernel
theorem dX3_pressure_48 : decode cX3_pressure 48 = .ok (.aload_n 0, 1) := by decide +kernel
theorem dX3_pressure_49 : decode cX3_pressure 49 = .ok (.getfield 10, 3) := by decide +kernel
theorem dX3_pressure_52 : decode cX3_pressure 52 = .ok (.aload_n 0, 1) := by decide +kernel
theorem dX3_pressure_53 : decode cX3_pressure 53 = .ok (.getfield 21, 3) := by decide +kernel
theorem dX3_pressure_56 : decode cX3_pressure 56 = .ok (.getfield 55, 3) := by decide +kernel
theorem dX3_pressure_59 : decode cX3_pressure 59 = .ok (.invokevirtual 174, 3) := by decide +kernel
theorem dX3_pressure_62 : decode cX3_pressure 62 = .ok (.ireturn, 1) := by decide +kernel
theorem dX3_pressure_63 : decode cX3_pressure 63 = .ok (.aload_n 0, 1) := by decide +kernel
theorem dX3_pressure_64 : decode cX3_pressure 64 = .ok (.getfield 21, 3) := by decide +kernel
theorem dX3_pressure_67 : decode cX3_pressure 67 = .ok (.invokevirtual 177, 3) := by decide +kernel
theorem dX3_pressure_70 : decode cX3_pressure 70 = .ok (.ireturn, 1) := by decide +kernel
theorem dX3_pressure_71 : decode cX3_pressure 71 = .ok (.aload_n 0, 1) := by decide +kernel
theorem dX3_pressure_72 : decode cX3_pressure 72 = .ok (.getfield 10, 3) := by decide +kernel
theorem dX3_pressure_75 : decode cX3_pressure 75 = .ok (.aload_n 0, 1) := by decide +kernel
theorem dX3_pressure_76 : decode cX3_pressure 76 = .ok (.getfield 21, 3) := by decide +kernel
theorem dX3_pressure_79 : decode cX3_pressure 79 = .ok (.getfield 123, 3) := by decide +kernel
theorem dX3_pressure_82 : decode cX3_pressure 82 = .ok (.invokevirtual 180, 3) := by decide +kernel
theorem dX3_pressure_85 : decode cX3_pressure 85 = .ok (.ireturn, 1) := by decide +kernel
theorem dX3_pressure_86 : decode cX3_pressure 86 = .ok (.aload_n 0, 1) := by decide +kernel
theorem dX3_pressure_87 : decode cX3_pressure 87 = .ok (.getfield 21, 3) := by decide +kernel
theorem dX3_pressure_90 : decode cX3_pressure 90 = .ok (.getfield 107, 3) := by decide +kernel
theorem dX3_pressure_93 : decode cX3_pressure 93 = .ok (.ireturn, 1) := by decide +kernel
theorem dX3_pressure_94 : decode cX3_pressure 94 = .ok (.aload_n 0, 1) := by decide +kernel
theorem dX3_pressure_95 : decode cX3_pressure 95 = .ok (.getfield 21, 3) := by decide +kernel
theorem dX3_pressure_98 : decode cX3_pressure 98 = .ok (.invokevirtual 183, 3) := by decide +kernel
theorem dX3_pressure_101 : decode cX3_pressure 101 = .ok (.ifCond .eq 13, 3) := by decide +kernel
theorem dX3_pressure_104 : decode cX3_pressure 104 = .ok (.aload_n 0, 1) := by decide +kernel
theorem dX3_pressure_105 : decode cX3_pressure 105 = .ok (.getfield 21, 3) := by decide +kernel
theorem dX3_pressure_108 : decode cX3_pressure 108 = .ok (.invokevirtual 186, 3) := by decide +kernel
theorem dX3_pressure_111 : decode cX3_pressure 111 = .ok (.goto 4, 3) := by decide +kernel
theorem dX3_pressure_114 : decode cX3_pressure 114 = .ok (.iconst 0, 1) := by decide +kernel
theorem dX3_pressure_115 : decode cX3_pressure 115 = .ok (.ireturn, 1) := by decide +kernel
theorem dX3_pressure_116 : decode cX3_pressure 116 = .ok (.new 50, 3) := by decide +kernel
theorem dX3_pressure_119 : decode cX3_pressure 119 = .ok (.dup, 1) := by decide +kernel
theorem dX3_pressure_120 : decode cX3_pressure 120 = .ok (.ldc 189, 2) := by decide +kernel
theorem dX3_pressure_122 : decode cX3_pressure 122 = .ok (.invokespecial 54, 3) := by decide +kernel
theorem dX3_pressure_125 : decode cX3_pressure 125 = .ok (.athrow, 1) := by decide +kernel
theorem dX3_of_0 : decode cX3_of 0 = .ok (.iload_n 1, 1) := by decide +kernel
theorem dX3_of_1 : decode cX3_of 1 = .ok (.tableswitch 187 0 11 #[63, 72, 81, 90, 106, 115, 124, 149, 158, 166, 175, 181], 63) := by decide +kernel
theorem dX3_of_64 : decode cX3_of 64 = .ok (.aload_n 0, 1) := by decide +kernel
theorem dX3_of_65 : decode cX3_of 65 = .ok (.getfield 21, 3) := by decide +kernel
theorem dX3_of_68 : decode cX3_of 68 = .ok (.getfield 55, 3) := by decide +kernel
theorem dX3_of_71 : decode cX3_of 71 = .ok (.i2l, 1) := by decide +kernel
theorem dX3_of_72 : decode cX3_of 72 = .ok (.lreturn, 1) := by decide +kernel
theorem dX3_of_73 : decode cX3_of 73 = .ok (.aload_n 0, 1) := by decide +kernel
theorem dX3_of_74 : decode cX3_of 74 = .ok (.getfield 21, 3) := by decide +kernel
theorem dX3_of_77 : decode cX3_of 77 = .ok (.getfield 123, 3) := by decide +kernel
theorem dX3_of_80 : decode cX3_of 80 = .ok (.i2l, 1) := by decide +kernel
theorem dX3_of_81 : decode cX3_of 81 = .ok (.lreturn, 1) := by decide +kernel
theorem dX3_of_82 : decode cX3_of 82 = .ok (.aload_n 0, 1) := by decide +kernel
theorem dX3_of_83 : decode cX3_of 83 = .ok (.getfield 21, 3) := by decide +kernel
theorem dX3_of_86 : decode cX3_of 86 = .ok (.getfield 75, 3) := by decide +kernel
theorem dX3_of_89 : decode cX3_of 89 = .ok (.i2l, 1) := by decide +kernel
theorem dX3_of_90 : decode cX3_of 90 = .ok (.lreturn, 1) := by decide +kernel
theorem dX3_of_91 : decode cX3_of 91 = .ok (.aload_n 0, 1) := by decide +kernel
theorem dX3_of_92 : decode cX3_of 92 = .ok (.getfield 21, 3) := by decide +kernel
theorem dX3_of_95 : decode cX3_of 95 = .ok (.getfield 69, 3) := by decide +kernel
theorem dX3_of_98 : decode cX3_of 98 = .ok (.ifCond .eq 7, 3) := by decide +kernel
theorem dX3_of_101 : decode cX3_of 101 = .ok (.lconst 1, 1) := by decide +kernel
theorem dX3_of_102 : decode cX3_of 102 = .ok (.goto 4, 3) := by decide +kernel
theorem dX3_of_105 : decode cX3_of 105 = .ok (.lconst 0, 1) := by decide +kernel
theorem dX3_of_106 : decode cX3_of 106 = .ok (.lreturn, 1) := by decide +kernel
theorem dX3_of_107 : decode cX3_of 107 = .ok (.aload_n 0, 1) := by decide +kernel
theorem dX3_of_108 : decode cX3_of 108 = .ok (.getfield 21, 3) := by decide +kernel
theorem dX3_of_111 : decode cX3_of 111 = .ok (.getfield 151, 3) := by decide +kernel
theorem dX3_of_114 : decode cX3_of 114 = .ok (.i2l, 1) := by decide +kernel
theorem dX3_of_115 : decode cX3_of 115 = .ok (.lreturn, 1) := by decide +kernel
theorem dX3_of_116 : decode cX3_of 116 = .ok (.aload_n 0, 1) := by decide +kernel
theorem dX3_of_117 : decode cX3_of 117 = .ok (.getfield 21, 3) := by decide +kernel
theorem dX3_of_120 : decode cX3_of 120 = .ok (.getfield 191, 3) := by decide +kernel
theorem dX3_of_123 : decode cX3_of 123 = .ok (.i2l, 1) := by decide +kernel
theorem dX3_of_124 : decode cX3_of 124 = .ok (.lreturn, 1) := by decide +kernel
theorem dX3_of_125 : decode cX3_of 125 = .ok (.aload_n 0, 1) := by decide +kernel
theorem dX3_of_126 : decode cX3_of 126 = .ok (.getfield 21, 3) := by decide +kernel
theorem dX3_of_129 : decode cX3_of 129 = .ok (.invokevirtual 183, 3) := by decide +kernel
theorem dX3_of_132 : decode cX3_of 132 = .ok (.ifCond .eq 14, 3) := by decide +kernel
theorem dX3_of_135 : decode cX3_of 135 = .ok (.aload_n 0, 1) := by decide +kernel
theorem dX3_of_136 : decode cX3_of 136 = .ok (.getfield 21, 3) := by decide +kernel
theorem dX3_of_139 : decode cX3_of 139 = .ok (.getfield 194, 3) := by decide +kernel
theorem dX3_of_142 : decode cX3_of 142 = .ok (.i2l, 1) := by decide +kernel
theorem dX3_of_143 : decode cX3_of 143 = .ok (.goto 6, 3) := by decide +kernel
theorem dX3_of_146 : decode cX3_of 146 = .ok (.ldc2_w 197, 3) := by decide +kernel
theorem dX3_of_149 : decode cX3_of 149 = .ok (.lreturn, 1) := by decide +kernel
theorem dX3_of_150 : decode cX3_of 150 = .ok (.aload_n 0, 1) := by decide +kernel
theorem dX3_of_151 : decode cX3_of 151 = .ok (.getfield 21, 3) := by decide +kernel
theorem dX3_of_154 : decode cX3_of 154 = .ok (.getfield 118, 3) := by decide +kernel
theorem dX3_of_157 : decode cX3_of 157 = .ok (.i2l, 1) := by decide +kernel
theorem dX3_of_158 : decode cX3_of 158 = .ok (.lreturn, 1) := by decide +kernel
theorem dX3_of_159 : decode cX3_of 159 = .ok (.aload_n 0, 1) := by decide +kernel
theorem dX3_of_160 : decode cX3_of 160 = .ok (.getfield 21, 3) := by decide +kernel
theorem dX3_of_163 : decode cX3_of 163 = .ok (.getfield 199, 3) := by decide +kernel
theorem dX3_of_166 : decode cX3_of 166 = .ok (.lreturn, 1) := by decide +kernel
theorem dX3_of_167 : decode cX3_of 167 = .ok (.aload_n 0, 1) := by decide +kernel
theorem dX3_of_168 : decode cX3_of 168 = .ok (.getfield 21, 3) := by decide +kernel
theorem dX3_of_171 : decode cX3_of 171 = .ok (.getfield 203, 3) := by decide +kernel
theorem dX3_of_174 : decode cX3_of 174 = .ok (.i2l, 1) := by decide +kernel
theorem dX3_of_175 : decode cX3_of 175 = .ok (.lreturn, 1) := by decide +kernel
theorem dX3_of_176 : decode cX3_of 176 = .ok (.aload_n 0, 1) := by decide +kernel
theorem dX3_of_177 : decode cX3_of 177 = .ok (.getfield 78, 3) := by decide +kernel
theorem dX3_of_180 : decode cX3_of 180 = .ok (.i2l, 1) := by decide +kernel
theorem dX3_of_181 : decode cX3_of 181 = .ok (.lreturn, 1) := by decide +kernel
theorem dX3_of_182 : decode cX3_of 182 = .ok (.aload_n 0, 1) := by decide +kernel
theorem dX3_of_183 : decode cX3_of 183 = .ok (.getfield 132, 3) := by decide +kernel
theorem dX3_of_186 : decode cX3_of 186 = .ok (.i2l, 1) := by decide +kernel
theorem dX3_of_187 : decode cX3_of 187 = .ok (.lreturn, 1) := by decide +kernel
theorem dX3_of_188 : decode cX3_of 188 = .ok (.new 50, 3) := by decide +kernel
theorem dX3_of_191 : decode cX3_of 191 = .ok (.dup, 1) := by decide +kernel
theorem dX3_of_192 : decode cX3_of 192 = .ok (.ldc 189, 2) := by decide +kernel
theorem dX3_of_194 : decode cX3_of 194 = .ok (.invokespecial 54, 3) := by decide +kernel
theorem dX3_of_197 : decode cX3_of 197 = .ok (.athrow, 1) := by decide +kernel
theorem dX3_barriers_0 : decode cX3_barriers 0 = .ok (.aload_n 0, 1) := by decide +kernel
theorem dX3_barriers_1 : decode cX3_barriers 1 = .ok (.invokevirtual 206, 3) := by decide +kernel
theorem dX3_barriers_4 : decode cX3_barriers 4 = .ok (.ifCond .eq 7, 3) := by decide +kernel
theorem dX3_barriers_7 : decode cX3_barriers 7 = .ok (.iconst 1, 1) := by decide +kernel
theorem dX3_barriers_8 : decode cX3_barriers 8 = .ok (.goto 4, 3) := by decide +kernel
theorem dX3_barriers_11 : decode cX3_barriers 11 = .ok (.iconst 0, 1) := by decide +kernel
theorem dX3_barriers_12 : decode cX3_barriers 12 = .ok (.aload_n 0, 1) := by decide +kernel
theorem dX3_barriers_13 : decode cX3_barriers 13 = .ok (.invokevirtual 209, 3) := by decide +kernel
theorem dX3_barriers_16 : decode cX3_barriers 16 = .ok (.ifCond .eq 7, 3) := by decide +kernel
theorem dX3_barriers_19 : decode cX3_barriers 19 = .ok (.iconst 2, 1) := by decide +kernel
theorem dX3_barriers_20 : decode cX3_barriers 20 = .ok (.goto 4, 3) := by decide +kernel
theorem dX3_barriers_23 : decode cX3_barriers 23 = .ok (.iconst 0, 1) := by decide +kernel
theorem dX3_barriers_24 : decode cX3_barriers 24 = .ok (.iadd, 1) := by decide +kernel
theorem dX3_barriers_25 : decode cX3_barriers 25 = .ok (.aload_n 0, 1) := by decide +kernel
theorem dX3_barriers_26 : decode cX3_barriers 26 = .ok (.invokevirtual 212, 3) := by decide +kernel
theorem dX3_barriers_29 : decode cX3_barriers 29 = .ok (.ifCond .eq 7, 3) := by decide +kernel
theorem dX3_barriers_32 : decode cX3_barriers 32 = .ok (.iconst 4, 1) := by decide +kernel
theorem dX3_barriers_33 : decode cX3_barriers 33 = .ok (.goto 4, 3) := by decide +kernel
theorem dX3_barriers_36 : decode cX3_barriers 36 = .ok (.iconst 0, 1) := by decide +kernel
theorem dX3_barriers_37 : decode cX3_barriers 37 = .ok (.iadd, 1) := by decide +kernel
theorem dX3_barriers_38 : decode cX3_barriers 38 = .ok (.ireturn, 1) := by decide +kernel
theorem dX3_bars_0 : decode cX3_bars 0 = .ok (.aload_n 0, 1) := by decide +kernel
theorem dX3_bars_1 : decode cX3_bars 1 = .ok (.getfield 163, 3) := by decide +kernel
theorem dX3_bars_4 : decode cX3_bars 4 = .ok (.ifCond .eq 5, 3) := by decide +kernel
theorem dX3_bars_7 : decode cX3_bars 7 = .ok (.iconst 1, 1) := by decide +kernel
theorem dX3_bars_8 : decode cX3_bars 8 = .ok (.ireturn, 1) := by decide +kernel
theorem dX3_bars_9 : decode cX3_bars 9 = .ok (.aload_n 0, 1) := by decide +kernel
theorem dX3_bars_10 : decode cX3_bars 10 = .ok (.getfield 21, 3) := by decide +kernel
theorem dX3_bars_13 : decode cX3_bars 13 = .ok (.getfield 69, 3) := by decide +kernel
theorem dX3_bars_16 : decode cX3_bars 16 = .ok (.ifCond .eq 5, 3) := by decide +kernel
theorem dX3_bars_19 : decode cX3_bars 19 = .ok (.iconst 2, 1) := by decide +kernel
theorem dX3_bars_20 : decode cX3_bars 20 = .ok (.ireturn, 1) := by decide +kernel
theorem dX3_bars_21 : decode cX3_bars 21 = .ok (.aload_n 0, 1) := by decide +kernel
theorem dX3_bars_22 : decode cX3_bars 22 = .ok (.getfield 21, 3) := by decide +kernel
theorem dX3_bars_25 : decode cX3_bars 25 = .ok (.invokevirtual 126, 3) := by decide +kernel
theorem dX3_bars_28 : decode cX3_bars 28 = .ok (.ifCond .eq 5, 3) := by decide +kernel
theorem dX3_bars_31 : decode cX3_bars 31 = .ok (.iconst 3, 1) := by decide +kernel
theorem dX3_bars_32 : decode cX3_bars 32 = .ok (.ireturn, 1) := by decide +kernel
theorem dX3_bars_33 : decode cX3_bars 33 = .ok (.aload_n 0, 1) := by decide +kernel
theorem dX3_bars_34 : decode cX3_bars 34 = .ok (.invokevirtual 215, 3) := by decide +kernel
theorem dX3_bars_37 : decode cX3_bars 37 = .ok (.invokestatic 166, 3) := by decide +kernel
theorem dX3_bars_40 : decode cX3_bars 40 = .ok (.iconst 2, 1) := by decide +kernel
theorem dX3_bars_41 : decode cX3_bars 41 = .ok (.if_icmp .ge 5, 3) := by decide +kernel
theorem dX3_bars_44 : decode cX3_bars 44 = .ok (.iconst 4, 1) := by decide +kernel
theorem dX3_bars_45 : decode cX3_bars 45 = .ok (.ireturn, 1) := by decide +kernel
theorem dX3_bars_46 : decode cX3_bars 46 = .ok (.aload_n 0, 1) := by decide +kernel
theorem dX3_bars_47 : decode cX3_bars 47 = .ok (.getfield 21, 3) := by decide +kernel
theorem dX3_bars_50 : decode cX3_bars 50 = .ok (.getfield 55, 3) := by decide +kernel
theorem dX3_bars_53 : decode cX3_bars 53 = .ok (.sipush 5000, 3) := by decide +kernel
theorem dX3_bars_56 : decode cX3_bars 56 = .ok (.if_icmp .lt 7, 3) := by decide +kernel
theorem dX3_bars_59 : decode cX3_bars 59 = .ok (.iconst 5, 1) := by decide +kernel
theorem dX3_bars_60 : decode cX3_bars 60 = .ok (.goto 4, 3) := by decide +kernel
theorem dX3_bars_63 : decode cX3_bars 63 = .ok (.iconst 0, 1) := by decide +kernel
theorem dX3_bars_64 : decode cX3_bars 64 = .ok (.ireturn, 1) := by decide +kernel
theorem dX3_ofTest_0 : decode cX3_ofTest 0 = .ok (.iload_n 1, 1) := by decide +kernel
theorem dX3_ofTest_1 : decode cX3_ofTest 1 = .ok (.iconst 0, 1) := by decide +kernel
theorem dX3_ofTest_2 : decode cX3_ofTest 2 = .ok (.aload_n 0, 1) := by decide +kernel
theorem dX3_ofTest_3 : decode cX3_ofTest 3 = .ok (.getfield 31, 3) := by decide +kernel
theorem dX3_ofTest_6 : decode cX3_ofTest 6 = .ok (.getfield 146, 3) := by decide +kernel
theorem dX3_ofTest_9 : decode cX3_ofTest 9 = .ok (.iconst 1, 1) := by decide +kernel
theorem dX3_ofTest_10 : decode cX3_ofTest 10 = .ok (.isub, 1) := by decide +kernel
theorem dX3_ofTest_11 : decode cX3_ofTest 11 = .ok (.invokestatic 39, 3) := by decide +kernel
theorem dX3_ofTest_14 : decode cX3_ofTest 14 = .ok (.ifCond .ne 13, 3) := by decide +kernel
theorem dX3_ofTest_17 : decode cX3_ofTest 17 = .ok (.new 43, 3) := by decide +kernel
theorem dX3_ofTest_20 : decode cX3_ofTest 20 = .ok (.dup, 1) := by decide +kernel
theorem dX3_ofTest_21 : decode cX3_ofTest 21 = .ok (.ldc 218, 2) := by decide +kernel
theorem dX3_ofTest_23 : decode cX3_ofTest 23 = .ok (.invokespecial 47, 3) := by decide +kernel
theorem dX3_ofTest_26 : decode cX3_ofTest 26 = .ok (.athrow, 1) := by decide +kernel
theorem dX3_ofTest_27 : decode cX3_ofTest 27 = .ok (.iload_n 2, 1) := by decide +kernel
theorem dX3_ofTest_28 : decode cX3_ofTest 28 = .ok (.tableswitch 80 0 3 #[32, 44, 56, 68], 32) := by decide +kernel
theorem dX3_ofTest_60 : decode cX3_ofTest 60 = .ok (.aload_n 0, 1) := by decide +kernel
theorem dX3_ofTest_61 : decode cX3_ofTest 61 = .ok (.getfield 31, 3) := by decide +kernel
theorem dX3_ofTest_64 : decode cX3_ofTest 64 = .ok (.getfield 220, 3) := by decide +kernel
theorem dX3_ofTest_67 : decode cX3_ofTest 67 = .ok (.iload_n 1, 1) := by decide +kernel
theorem dX3_ofTest_68 : decode cX3_ofTest 68 = .ok (.invokestatic 224, 3) := by decide +kernel
theorem dX3_ofTest_71 : decode cX3_ofTest 71 = .ok (.ireturn, 1) := by decide +kernel
theorem dX3_ofTest_72 : decode cX3_ofTest 72 = .ok (.aload_n 0, 1) := by decide +kernel
theorem dX3_ofTest_73 : decode cX3_ofTest 73 = .ok (.getfield 31, 3) := by decide +kernel
theorem dX3_ofTest_76 : decode cX3_ofTest 76 = .ok (.getfield 228, 3) := by decide +kernel
theorem dX3_ofTest_79 : decode cX3_ofTest 79 = .ok (.iload_n 1, 1) := by decide +kernel
theorem dX3_ofTest_80 : decode cX3_ofTest 80 = .ok (.invokestatic 224, 3) := by decide +kernel
theorem dX3_ofTest_83 : decode cX3_ofTest 83 = .ok (.ireturn, 1) := by decide +kernel
theorem dX3_ofTest_84 : decode cX3_ofTest 84 = .ok (.aload_n 0, 1) := by decide +kernel
theorem dX3_ofTest_85 : decode cX3_ofTest 85 = .ok (.getfield 31, 3) := by decide +kernel
theorem dX3_ofTest_88 : decode cX3_ofTest 88 = .ok (.getfield 231, 3) := by decide +kernel
theorem dX3_ofTest_91 : decode cX3_ofTest 91 = .ok (.iload_n 1, 1) := by decide +kernel
theorem dX3_ofTest_92 : decode cX3_ofTest 92 = .ok (.invokestatic 224, 3) := by decide +kernel
theorem dX3_ofTest_95 : decode cX3_ofTest 95 = .ok (.ireturn, 1) := by decide +kernel
theorem dX3_ofTest_96 : decode cX3_ofTest 96 = .ok (.aload_n 0, 1) := by decide +kernel
theorem dX3_ofTest_97 : decode cX3_ofTest 97 = .ok (.getfield 31, 3) := by decide +kernel
theorem dX3_ofTest_100 : decode cX3_ofTest 100 = .ok (.getfield 234, 3) := by decide +kernel
theorem dX3_ofTest_103 : decode cX3_ofTest 103 = .ok (.iload_n 1, 1) := by decide +kernel
theorem dX3_ofTest_104 : decode cX3_ofTest 104 = .ok (.invokestatic 224, 3) := by decide +kernel
theorem dX3_ofTest_107 : decode cX3_ofTest 107 = .ok (.ireturn, 1) := by decide +kernel
theorem dX3_ofTest_108 : decode cX3_ofTest 108 = .ok (.new 50, 3) := by decide +kernel
theorem dX3_ofTest_111 : decode cX3_ofTest 111 = .ok (.dup, 1) := by decide +kernel
theorem dX3_ofTest_112 : decode cX3_ofTest 112 = .ok (.ldc 189, 2) := by decide +kernel
theorem dX3_ofTest_114 : decode cX3_ofTest 114 = .ok (.invokespecial 54, 3) := by decide +kernel
theorem dX3_ofTest_117 : decode cX3_ofTest 117 = .ok (.athrow, 1) := by decide +kernel
theorem dX3_killWeight_0 : decode cX3_killWeight 0 = .ok (.aload_n 0, 1) := by decide +kernel
theorem dX3_killWeight_1 : decode cX3_killWeight 1 = .ok (.getfield 21, 3) := by decide +kernel
theorem dX3_killWeight_4 : decode cX3_killWeight 4 = .ok (.getfield 55, 3) := by decide +kernel
theorem dX3_killWeight_7 : decode cX3_killWeight 7 = .ok (.istore_n 1, 1) := by decide +kernel
theorem dX3_killWeight_8 : decode cX3_killWeight 8 = .ok (.iload_n 1, 1) := by decide +kernel
theorem dX3_killWeight_9 : decode cX3_killWeight 9 = .ok (.ifCond .gt 13, 3) := by decide +kernel
theorem dX3_killWeight_12 : decode cX3_killWeight 12 = .ok (.new 58, 3) := by decide +kernel
theorem dX3_killWeight_15 : decode cX3_killWeight 15 = .ok (.dup, 1) := by decide +kernel
theorem dX3_killWeight_16 : decode cX3_killWeight 16 = .ok (.ldc 236, 2) := by decide +kernel
theorem dX3_killWeight_18 : decode cX3_killWeight 18 = .ok (.invokespecial 62, 3) := by decide +kernel
theorem dX3_killWeight_21 : decode cX3_killWeight 21 = .ok (.athrow, 1) := by decide +kernel
theorem dX3_killWeight_22 : decode cX3_killWeight 22 = .ok (.bipush 10, 2) := by decide +kernel
theorem dX3_killWeight_24 : decode cX3_killWeight 24 = .ok (.aload_n 0, 1) := by decide +kernel
theorem dX3_killWeight_25 : decode cX3_killWeight 25 = .ok (.getfield 10, 3) := by decide +kernel
theorem dX3_killWeight_28 : decode cX3_killWeight 28 = .ok (.iload_n 1, 1) := by decide +kernel
theorem dX3_killWeight_29 : decode cX3_killWeight 29 = .ok (.invokevirtual 174, 3) := by decide +kernel
theorem dX3_killWeight_32 : decode cX3_killWeight 32 = .ok (.imul, 1) := by decide +kernel
theorem dX3_killWeight_33 : decode cX3_killWeight 33 = .ok (.iload_n 1, 1) := by decide +kernel
theorem dX3_killWeight_34 : decode cX3_killWeight 34 = .ok (.iadd, 1) := by decide +kernel
theorem dX3_killWeight_35 : decode cX3_killWeight 35 = .ok (.iconst 1, 1) := by decide +kernel
theorem dX3_killWeight_36 : decode cX3_killWeight 36 = .ok (.isub, 1) := by decide +kernel
theorem dX3_killWeight_37 : decode cX3_killWeight 37 = .ok (.iload_n 1, 1) := by decide +kernel
theorem dX3_killWeight_38 : decode cX3_killWeight 38 = .ok (.idiv, 1) := by decide +kernel
theorem dX3_killWeight_39 : decode cX3_killWeight 39 = .ok (.ireturn, 1) := by decide +kernel
theorem dX3_window_0 : decode cX3_window 0 = .ok (.iload_n 1, 1) := by decide +kernel
theorem dX3_window_1 : decode cX3_window 1 = .ok (.iconst 0, 1) := by decide +kernel
theorem dX3_window_2 : decode cX3_window 2 = .ok (.sipush 4999, 3) := by decide +kernel
theorem dX3_window_5 : decode cX3_window 5 = .ok (.invokestatic 39, 3) := by decide +kernel
theorem dX3_window_8 : decode cX3_window 8 = .ok (.ifCond .eq 16, 3) := by decide +kernel
theorem dX3_window_11 : decode cX3_window 11 = .ok (.iload_n 2, 1) := by decide +kernel
theorem dX3_window_12 : decode cX3_window 12 = .ok (.iload_n 1, 1) := by decide +kernel
theorem dX3_window_13 : decode cX3_window 13 = .ok (.iconst 1, 1) := by decide +kernel
theorem dX3_window_14 : decode cX3_window 14 = .ok (.iadd, 1) := by decide +kernel
theorem dX3_window_15 : decode cX3_window 15 = .ok (.sipush 5000, 3) := by decide +kernel
theorem dX3_window_18 : decode cX3_window 18 = .ok (.invokestatic 39, 3) := by decide +kernel
theorem dX3_window_21 : decode cX3_window 21 = .ok (.ifCond .ne 13, 3) := by decide +kernel
theorem dX3_window_24 : decode cX3_window 24 = .ok (.new 50, 3) := by decide +kernel
theorem dX3_window_27 : decode cX3_window 27 = .ok (.dup, 1) := by decide +kernel
theorem dX3_window_28 : decode cX3_window 28 = .ok (.ldc 238, 2) := by decide +kernel
theorem dX3_window_30 : decode cX3_window 30 = .ok (.invokespecial 54, 3) := by decide +kernel
theorem dX3_window_33 : decode cX3_window 33 = .ok (.athrow, 1) := by decide +kernel
theorem dX3_window_34 : decode cX3_window 34 = .ok (.iload_n 1, 1) := by decide +kernel
theorem dX3_window_35 : decode cX3_window 35 = .ok (.iconst 1, 1) := by decide +kernel
theorem dX3_window_36 : decode cX3_window 36 = .ok (.iadd, 1) := by decide +kernel
theorem dX3_window_37 : decode cX3_window 37 = .ok (.invokestatic 240, 3) := by decide +kernel
theorem dX3_window_40 : decode cX3_window 40 = .ok (.istore 4, 2) := by decide +kernel
theorem dX3_window_42 : decode cX3_window 42 = .ok (.iload_n 2, 1) := by decide +kernel
theorem dX3_window_43 : decode cX3_window 43 = .ok (.invokestatic 240, 3) := by decide +kernel
theorem dX3_window_46 : decode cX3_window 46 = .ok (.istore 5, 2) := by decide +kernel
theorem dX3_window_48 : decode cX3_window 48 = .ok (.iload_n 3, 1) := by decide +kernel
theorem dX3_window_49 : decode cX3_window 49 = .ok (.ifCond .eq 17, 3) := by decide +kernel
theorem dX3_window_52 : decode cX3_window 52 = .ok (.aload_n 0, 1) := by decide +kernel
theorem dX3_window_53 : decode cX3_window 53 = .ok (.getfield 10, 3) := by decide +kernel
theorem dX3_window_56 : decode cX3_window 56 = .ok (.iload 4, 2) := by decide +kernel
theorem dX3_window_58 : decode cX3_window 58 = .ok (.iload 5, 2) := by decide +kernel
theorem dX3_window_60 : decode cX3_window 60 = .ok (.invokevirtual 243, 3) := by decide +kernel
theorem dX3_window_63 : decode cX3_window 63 = .ok (.goto 14, 3) := by decide +kernel
theorem dX3_window_66 : decode cX3_window 66 = .ok (.aload_n 0, 1) := by decide +kernel
theorem dX3_window_67 : decode cX3_window 67 = .ok (.getfield 10, 3) := by decide +kernel
theorem dX3_window_70 : decode cX3_window 70 = .ok (.iload 4, 2) := by decide +kernel
theorem dX3_window_72 : decode cX3_window 72 = .ok (.iload 5, 2) := by decide +kernel
theorem dX3_window_74 : decode cX3_window 74 = .ok (.invokevirtual 247, 3) := by decide +kernel
theorem dX3_window_77 : decode cX3_window 77 = .ok (.ireturn, 1) := by decide +kernel
theorem dX3_casings_0 : decode cX3_casings 0 = .ok (.iload_n 1, 1) := by decide +kernel
theorem dX3_casings_1 : decode cX3_casings 1 = .ok (.iconst 1, 1) := by decide +kernel
theorem dX3_casings_2 : decode cX3_casings 2 = .ok (.sipush 5000, 3) := by decide +kernel
theorem dX3_casings_5 : decode cX3_casings 5 = .ok (.invokestatic 39, 3) := by decide +kernel
theorem dX3_casings_8 : decode cX3_casings 8 = .ok (.ifCond .ne 13, 3) := by decide +kernel
theorem dX3_casings_11 : decode cX3_casings 11 = .ok (.new 50, 3) := by decide +kernel
theorem dX3_casings_14 : decode cX3_casings 14 = .ok (.dup, 1) := by decide +kernel
theorem dX3_casings_15 : decode cX3_casings 15 = .ok (.ldc 250, 2) := by decide +kernel
theorem dX3_casings_17 : decode cX3_casings 17 = .ok (.invokespecial 54, 3) := by decide +kernel
theorem dX3_casings_20 : decode cX3_casings 20 = .ok (.athrow, 1) := by decide +kernel
theorem dX3_casings_21 : decode cX3_casings 21 = .ok (.aload_n 0, 1) := by decide +kernel
theorem dX3_casings_22 : decode cX3_casings 22 = .ok (.getfield 10, 3) := by decide +kernel
theorem dX3_casings_25 : decode cX3_casings 25 = .ok (.iload_n 1, 1) := by decide +kernel
theorem dX3_casings_26 : decode cX3_casings 26 = .ok (.invokestatic 240, 3) := by decide +kernel
theorem dX3_casings_29 : decode cX3_casings 29 = .ok (.invokevirtual 252, 3) := by decide +kernel
theorem dX3_casings_32 : decode cX3_casings 32 = .ok (.ireturn, 1) := by decide +kernel
theorem dX3_casingsAnew_0 : decode cX3_casingsAnew 0 = .ok (.iload_n 1, 1) := by decide +kernel
theorem dX3_casingsAnew_1 : decode cX3_casingsAnew 1 = .ok (.iconst 1, 1) := by decide +kernel
theorem dX3_casingsAnew_2 : decode cX3_casingsAnew 2 = .ok (.sipush 5000, 3) := by decide +kernel
theorem dX3_casingsAnew_5 : decode cX3_casingsAnew 5 = .ok (.invokestatic 39, 3) := by decide +kernel
theorem dX3_casingsAnew_8 : decode cX3_casingsAnew 8 = .ok (.ifCond .ne 13, 3) := by decide +kernel
theorem dX3_casingsAnew_11 : decode cX3_casingsAnew 11 = .ok (.new 50, 3) := by decide +kernel
theorem dX3_casingsAnew_14 : decode cX3_casingsAnew 14 = .ok (.dup, 1) := by decide +kernel
theorem dX3_casingsAnew_15 : decode cX3_casingsAnew 15 = .ok (.ldc 250, 2) := by decide +kernel
theorem dX3_casingsAnew_17 : decode cX3_casingsAnew 17 = .ok (.invokespecial 54, 3) := by decide +kernel
theorem dX3_casingsAnew_20 : decode cX3_casingsAnew 20 = .ok (.athrow, 1) := by decide +kernel
theorem dX3_casingsAnew_21 : decode cX3_casingsAnew 21 = .ok (.aload_n 0, 1) := by decide +kernel
theorem dX3_casingsAnew_22 : decode cX3_casingsAnew 22 = .ok (.getfield 10, 3) := by decide +kernel
theorem dX3_casingsAnew_25 : decode cX3_casingsAnew 25 = .ok (.iload_n 1, 1) := by decide +kernel
theorem dX3_casingsAnew_26 : decode cX3_casingsAnew 26 = .ok (.invokestatic 240, 3) := by decide +kernel
theorem dX3_casingsAnew_29 : decode cX3_casingsAnew 29 = .ok (.invokevirtual 255, 3) := by decide +kernel
theorem dX3_casingsAnew_32 : decode cX3_casingsAnew 32 = .ok (.ireturn, 1) := by decide +kernel
theorem dX3_equivalent_0 : decode cX3_equivalent 0 = .ok (.aload_n 0, 1) := by decide +kernel
theorem dX3_equivalent_1 : decode cX3_equivalent 1 = .ok (.getfield 21, 3) := by decide +kernel
theorem dX3_equivalent_4 : decode cX3_equivalent 4 = .ok (.getfield 123, 3) := by decide +kernel
theorem dX3_equivalent_7 : decode cX3_equivalent 7 = .ok (.istore_n 1, 1) := by decide +kernel
theorem dX3_equivalent_8 : decode cX3_equivalent 8 = .ok (.iload_n 1, 1) := by decide +kernel
theorem dX3_equivalent_9 : decode cX3_equivalent 9 = .ok (.ifCond .gt 14, 3) := by decide +kernel
theorem dX3_equivalent_12 : decode cX3_equivalent 12 = .ok (.new 58, 3) := by decide +kernel
theorem dX3_equivalent_15 : decode cX3_equivalent 15 = .ok (.dup, 1) := by decide +kernel
theorem dX3_equivalent_16 : decode cX3_equivalent 16 = .ok (.ldc_w 258, 3) := by decide +kernel
theorem dX3_equivalent_19 : decode cX3_equivalent 19 = .ok (.invokespecial 62, 3) := by decide +kernel
theorem dX3_equivalent_22 : decode cX3_equivalent 22 = .ok (.athrow, 1) := by decide +kernel
theorem dX3_equivalent_23 : decode cX3_equivalent 23 = .ok (.bipush 10, 2) := by decide +kernel
theorem dX3_equivalent_25 : decode cX3_equivalent 25 = .ok (.aload_n 0, 1) := by decide +kernel
theorem dX3_equivalent_26 : decode cX3_equivalent 26 = .ok (.getfield 21, 3) := by decide +kernel
theorem dX3_equivalent_29 : decode cX3_equivalent 29 = .ok (.invokevirtual 177, 3) := by decide +kernel
theorem dX3_equivalent_32 : decode cX3_equivalent 32 = .ok (.imul, 1) := by decide +kernel
theorem dX3_equivalent_33 : decode cX3_equivalent 33 = .ok (.i2f, 1) := by decide +kernel
theorem dX3_equivalent_34 : decode cX3_equivalent 34 = .ok (.iload_n 1, 1) := by decide +kernel
theorem dX3_equivalent_35 : decode cX3_equivalent 35 = .ok (.i2f, 1) := by decide +kernel
theorem dX3_equivalent_36 : decode cX3_equivalent 36 = .ok (.fdiv, 1) := by decide +kernel
theorem dX3_equivalent_37 : decode cX3_equivalent 37 = .ok (.freturn, 1) := by decide +kernel
theorem dX3_ahead_0 : decode cX3_ahead 0 = .ok (.iload_n 1, 1) := by decide +kernel
theorem dX3_ahead_1 : decode cX3_ahead 1 = .ok (.iconst 1, 1) := by decide +kernel
theorem dX3_ahead_2 : decode cX3_ahead 2 = .ok (.sipush 2000, 3) := by decide +kernel
theorem dX3_ahead_5 : decode cX3_ahead 5 = .ok (.invokestatic 39, 3) := by decide +kernel
theorem dX3_ahead_8 : decode cX3_ahead 8 = .ok (.ifCond .ne 13, 3) := by decide +kernel
theorem dX3_ahead_11 : decode cX3_ahead 11 = .ok (.new 50, 3) := by decide +kernel
theorem dX3_ahead_14 : decode cX3_ahead 14 = .ok (.dup, 1) := by decide +kernel
theorem dX3_ahead_15 : decode cX3_ahead 15 = .ok (.ldc 97, 2) := by decide +kernel
theorem dX3_ahead_17 : decode cX3_ahead 17 = .ok (.invokespecial 54, 3) := by decide +kernel
theorem dX3_ahead_20 : decode cX3_ahead 20 = .ok (.athrow, 1) := by decide +kernel
theorem dX3_ahead_21 : decode cX3_ahead 21 = .ok (.aload_n 0, 1) := by decide +kernel
theorem dX3_ahead_22 : decode cX3_ahead 22 = .ok (.getfield 25, 3) := by decide +kernel
theorem dX3_ahead_25 : decode cX3_ahead 25 = .ok (.aload_n 0, 1) := by decide +kernel
theorem dX3_ahead_26 : decode cX3_ahead 26 = .ok (.getfield 21, 3) := by decide +kernel
theorem dX3_ahead_29 : decode cX3_ahead 29 = .ok (.invokevirtual 260, 3) := by decide +kernel
theorem dX3_ahead_32 : decode cX3_ahead 32 = .ok (.aload_n 0, 1) := by decide +kernel
theorem dX3_ahead_33 : decode cX3_ahead 33 = .ok (.getfield 25, 3) := by decide +kernel
theorem dX3_ahead_36 : decode cX3_ahead 36 = .ok (.iload_n 1, 1) := by decide +kernel
theorem dX3_ahead_37 : decode cX3_ahead 37 = .ok (.invokevirtual 101, 3) := by decide +kernel
theorem dX3_ahead_40 : decode cX3_ahead 40 = .ok (.ireturn, 1) := by decide +kernel
theorem dX3_hasMinutes_0 : decode cX3_hasMinutes 0 = .ok (.aload_n 0, 1) := by decide +kernel
theorem dX3_hasMinutes_1 : decode cX3_hasMinutes 1 = .ok (.getfield 21, 3) := by decide +kernel
theorem dX3_hasMinutes_4 : decode cX3_hasMinutes 4 = .ok (.getfield 151, 3) := by decide +kernel
theorem dX3_hasMinutes_7 : decode cX3_hasMinutes 7 = .ok (.iload_n 1, 1) := by decide +kernel
theorem dX3_hasMinutes_8 : decode cX3_hasMinutes 8 = .ok (.iadd, 1) := by decide +kernel
theorem dX3_hasMinutes_9 : decode cX3_hasMinutes 9 = .ok (.ldc 138, 2) := by decide +kernel
theorem dX3_hasMinutes_11 : decode cX3_hasMinutes 11 = .ok (.if_icmp .gt 7, 3) := by decide +kernel
theorem dX3_hasMinutes_14 : decode cX3_hasMinutes 14 = .ok (.iconst 1, 1) := by decide +kernel
theorem dX3_hasMinutes_15 : decode cX3_hasMinutes 15 = .ok (.goto 4, 3) := by decide +kernel
theorem dX3_hasMinutes_18 : decode cX3_hasMinutes 18 = .ok (.iconst 0, 1) := by decide +kernel
theorem dX3_hasMinutes_19 : decode cX3_hasMinutes 19 = .ok (.ireturn, 1) := by decide +kernel
theorem dX3_isMudBarrier_0 : decode cX3_isMudBarrier 0 = .ok (.aload_n 0, 1) := by decide +kernel
theorem dX3_isMudBarrier_1 : decode cX3_isMudBarrier 1 = .ok (.getfield 21, 3) := by decide +kernel
theorem dX3_isMudBarrier_4 : decode cX3_isMudBarrier 4 = .ok (.invokevirtual 126, 3) := by decide +kernel
theorem dX3_isMudBarrier_7 : decode cX3_isMudBarrier 7 = .ok (.ifCond .ne 31, 3) := by decide +kernel
theorem dX3_isMudBarrier_10 : decode cX3_isMudBarrier 10 = .ok (.aload_n 0, 1) := by decide +kernel
theorem dX3_isMudBarrier_11 : decode cX3_isMudBarrier 11 = .ok (.getfield 21, 3) := by decide +kernel
theorem dX3_isMudBarrier_14 : decode cX3_isMudBarrier 14 = .ok (.invokevirtual 171, 3) := by decide +kernel
theorem dX3_isMudBarrier_17 : decode cX3_isMudBarrier 17 = .ok (.aload_n 0, 1) := by decide +kernel
theorem dX3_isMudBarrier_18 : decode cX3_isMudBarrier 18 = .ok (.getfield 10, 3) := by decide +kernel
theorem dX3_isMudBarrier_21 : decode cX3_isMudBarrier 21 = .ok (.aload_n 0, 1) := by decide +kernel
theorem dX3_isMudBarrier_22 : decode cX3_isMudBarrier 22 = .ok (.getfield 21, 3) := by decide +kernel
theorem dX3_isMudBarrier_25 : decode cX3_isMudBarrier 25 = .ok (.getfield 55, 3) := by decide +kernel
theorem dX3_isMudBarrier_28 : decode cX3_isMudBarrier 28 = .ok (.invokevirtual 174, 3) := by decide +kernel
theorem dX3_isMudBarrier_31 : decode cX3_isMudBarrier 31 = .ok (.if_icmp .lt 7, 3) := by decide +kernel
theorem dX3_isMudBarrier_34 : decode cX3_isMudBarrier 34 = .ok (.iconst 1, 1) := by decide +kernel
theorem dX3_isMudBarrier_35 : decode cX3_isMudBarrier 35 = .ok (.goto 4, 3) := by decide +kernel
theorem dX3_isMudBarrier_38 : decode cX3_isMudBarrier 38 = .ok (.iconst 0, 1) := by decide +kernel
theorem dX3_isMudBarrier_39 : decode cX3_isMudBarrier 39 = .ok (.ireturn, 1) := by decide +kernel
theorem dX3_isValveBarrier_0 : decode cX3_isValveBarrier 0 = .ok (.aload_n 0, 1) := by decide +kernel
theorem dX3_isValveBarrier_1 : decode cX3_isValveBarrier 1 = .ok (.getfield 31, 3) := by decide +kernel
theorem dX3_isValveBarrier_4 : decode cX3_isValveBarrier 4 = .ok (.getfield 264, 3) := by decide +kernel
theorem dX3_isValveBarrier_7 : decode cX3_isValveBarrier 7 = .ok (.istore_n 1, 1) := by decide +kernel
theorem dX3_isValveBarrier_8 : decode cX3_isValveBarrier 8 = .ok (.aload_n 0, 1) := by decide +kernel
theorem dX3_isValveBarrier_9 : decode cX3_isValveBarrier 9 = .ok (.getfield 31, 3) := by decide +kernel
theorem dX3_isValveBarrier_12 : decode cX3_isValveBarrier 12 = .ok (.iload_n 1, 1) := by decide +kernel
theorem dX3_isValveBarrier_13 : decode cX3_isValveBarrier 13 = .ok (.invokevirtual 267, 3) := by decide +kernel
theorem dX3_isValveBarrier_16 : decode cX3_isValveBarrier 16 = .ok (.ifCond .eq 42, 3) := by decide +kernel
theorem dX3_isValveBarrier_19 : decode cX3_isValveBarrier 19 = .ok (.aload_n 0, 1) := by decide +kernel
theorem dX3_isValveBarrier_20 : decode cX3_isValveBarrier 20 = .ok (.getfield 21, 3) := by decide +kernel
theorem dX3_isValveBarrier_23 : decode cX3_isValveBarrier 23 = .ok (.getfield 151, 3) := by decide +kernel
theorem dX3_isValveBarrier_26 : decode cX3_isValveBarrier 26 = .ok (.aload_n 0, 1) := by decide +kernel
theorem dX3_isValveBarrier_27 : decode cX3_isValveBarrier 27 = .ok (.getfield 31, 3) := by decide +kernel
theorem dX3_isValveBarrier_30 : decode cX3_isValveBarrier 30 = .ok (.getfield 234, 3) := by decide +kernel
theorem dX3_isValveBarrier_33 : decode cX3_isValveBarrier 33 = .ok (.iload_n 1, 1) := by decide +kernel
theorem dX3_isValveBarrier_34 : decode cX3_isValveBarrier 34 = .ok (.invokestatic 224, 3) := by decide +kernel
theorem dX3_isValveBarrier_37 : decode cX3_isValveBarrier 37 = .ok (.isub, 1) := by decide +kernel
theorem dX3_isValveBarrier_38 : decode cX3_isValveBarrier 38 = .ok (.sipush 20160, 3) := by decide +kernel
theorem dX3_isValveBarrier_41 : decode cX3_isValveBarrier 41 = .ok (.if_icmp .gt 17, 3) := by decide +kernel
theorem dX3_isValveBarrier_44 : decode cX3_isValveBarrier 44 = .ok (.aload_n 0, 1) := by decide +kernel
theorem dX3_isValveBarrier_45 : decode cX3_isValveBarrier 45 = .ok (.getfield 21, 3) := by decide +kernel
theorem dX3_isValveBarrier_48 : decode cX3_isValveBarrier 48 = .ok (.getfield 158, 3) := by decide +kernel
theorem dX3_isValveBarrier_51 : decode cX3_isValveBarrier 51 = .ok (.ifCond .ne 7, 3) := by decide +kernel
theorem dX3_isValveBarrier_54 : decode cX3_isValveBarrier 54 = .ok (.iconst 1, 1) := by decide +kernel
theorem dX3_isValveBarrier_55 : decode cX3_isValveBarrier 55 = .ok (.goto 4, 3) := by decide +kernel
theorem dX3_isValveBarrier_58 : decode cX3_isValveBarrier 58 = .ok (.iconst 0, 1) := by decide +kernel
theorem dX3_isValveBarrier_59 : decode cX3_isValveBarrier 59 = .ok (.ireturn, 1) := by decide +kernel
theorem dX3_isCementBarrier_0 : decode cX3_isCementBarrier 0 = .ok (.aload_n 0, 1) := by decide +kernel
theorem dX3_isCementBarrier_1 : decode cX3_isCementBarrier 1 = .ok (.getfield 21, 3) := by decide +kernel
theorem dX3_isCementBarrier_4 : decode cX3_isCementBarrier 4 = .ok (.getfield 123, 3) := by decide +kernel
theorem dX3_isCementBarrier_7 : decode cX3_isCementBarrier 7 = .ok (.ifCond .le 24, 3) := by decide +kernel
theorem dX3_isCementBarrier_10 : decode cX3_isCementBarrier 10 = .ok (.aload_n 0, 1) := by decide +kernel
theorem dX3_isCementBarrier_11 : decode cX3_isCementBarrier 11 = .ok (.getfield 31, 3) := by decide +kernel
theorem dX3_isCementBarrier_14 : decode cX3_isCementBarrier 14 = .ok (.aload_n 0, 1) := by decide +kernel
theorem dX3_isCementBarrier_15 : decode cX3_isCementBarrier 15 = .ok (.getfield 31, 3) := by decide +kernel
theorem dX3_isCementBarrier_18 : decode cX3_isCementBarrier 18 = .ok (.getfield 135, 3) := by decide +kernel
theorem dX3_isCementBarrier_21 : decode cX3_isCementBarrier 21 = .ok (.invokevirtual 267, 3) := by decide +kernel
theorem dX3_isCementBarrier_24 : decode cX3_isCementBarrier 24 = .ok (.ifCond .eq 7, 3) := by decide +kernel
theorem dX3_isCementBarrier_27 : decode cX3_isCementBarrier 27 = .ok (.iconst 1, 1) := by decide +kernel
theorem dX3_isCementBarrier_28 : decode cX3_isCementBarrier 28 = .ok (.goto 4, 3) := by decide +kernel
theorem dX3_isCementBarrier_31 : decode cX3_isCementBarrier 31 = .ok (.iconst 0, 1) := by decide +kernel
theorem dX3_isCementBarrier_32 : decode cX3_isCementBarrier 32 = .ok (.ireturn, 1) := by decide +kernel
theorem dX3_isWithin_0 : decode cX3_isWithin 0 = .ok (.iload_n 0, 1) := by decide +kernel
theorem dX3_isWithin_1 : decode cX3_isWithin 1 = .ok (.iload_n 1, 1) := by decide +kernel
theorem dX3_isWithin_2 : decode cX3_isWithin 2 = .ok (.if_icmp .lt 12, 3) := by decide +kernel
theorem dX3_isWithin_5 : decode cX3_isWithin 5 = .ok (.iload_n 0, 1) := by decide +kernel
theorem dX3_isWithin_6 : decode cX3_isWithin 6 = .ok (.iload_n 2, 1) := by decide +kernel
theorem dX3_isWithin_7 : decode cX3_isWithin 7 = .ok (.if_icmp .gt 7, 3) := by decide +kernel
theorem dX3_isWithin_10 : decode cX3_isWithin 10 = .ok (.iconst 1, 1) := by decide +kernel
theorem dX3_isWithin_11 : decode cX3_isWithin 11 = .ok (.goto 4, 3) := by decide +kernel
theorem dX3_isWithin_14 : decode cX3_isWithin 14 = .ok (.iconst 0, 1) := by decide +kernel
theorem dX3_isWithin_15 : decode cX3_isWithin 15 = .ok (.ireturn, 1) := by decide +kernel
theorem dX3_read_0 : decode cX3_read 0 = .ok (.iload_n 1, 1) := by decide +kernel
theorem dX3_read_1 : decode cX3_read 1 = .ok (.ifCond .lt 15, 3) := by decide +kernel
theorem dX3_read_4 : decode cX3_read 4 = .ok (.iload_n 1, 1) := by decide +kernel
theorem dX3_read_5 : decode cX3_read 5 = .ok (.aload_n 0, 1) := by decide +kernel
theorem dX3_read_6 : decode cX3_read 6 = .ok (.arraylength, 1) := by decide +kernel
theorem dX3_read_7 : decode cX3_read 7 = .ok (.if_icmp .ge 9, 3) := by decide +kernel
theorem dX3_read_10 : decode cX3_read 10 = .ok (.aload_n 0, 1) := by decide +kernel
theorem dX3_read_11 : decode cX3_read 11 = .ok (.iload_n 1, 1) := by decide +kernel
theorem dX3_read_12 : decode cX3_read 12 = .ok (.iaload, 1) := by decide +kernel
theorem dX3_read_13 : decode cX3_read 13 = .ok (.goto 4, 3) := by decide +kernel
theorem dX3_read_16 : decode cX3_read 16 = .ok (.iconst 0, 1) := by decide +kernel
theorem dX3_read_17 : decode cX3_read 17 = .ok (.ireturn, 1) := by decide +kernel
theorem dX3_write_0 : decode cX3_write 0 = .ok (.iload_n 1, 1) := by decide +kernel
theorem dX3_write_1 : decode cX3_write 1 = .ok (.ifCond .lt 13, 3) := by decide +kernel
theorem dX3_write_4 : decode cX3_write 4 = .ok (.iload_n 1, 1) := by decide +kernel
theorem dX3_write_5 : decode cX3_write 5 = .ok (.aload_n 0, 1) := by decide +kernel
theorem dX3_write_6 : decode cX3_write 6 = .ok (.arraylength, 1) := by decide +kernel
theorem dX3_write_7 : decode cX3_write 7 = .ok (.if_icmp .ge 7, 3) := by decide +kernel
theorem dX3_write_10 : decode cX3_write 10 = .ok (.aload_n 0, 1) := by decide +kernel
theorem dX3_write_11 : decode cX3_write 11 = .ok (.iload_n 1, 1) := by decide +kernel
theorem dX3_write_12 : decode cX3_write 12 = .ok (.iload_n 2, 1) := by decide +kernel
theorem dX3_write_13 : decode cX3_write 13 = .ok (.iastore, 1) := by decide +kernel
theorem dX3_write_14 : decode cX3_write 14 = .ok (.return_, 1) := by decide +kernel
theorem dJ6_bitCount_0f7a4_0 : decode cJ6_bitCount_0f7a4 0 = .ok (.iload_n 0, 1) := by decide +kernel
theorem dJ6_bitCount_0f7a4_1 : decode cJ6_bitCount_0f7a4 1 = .ok (.iload_n 0, 1) := by decide +kernel
theorem dJ6_bitCount_0f7a4_2 : decode cJ6_bitCount_0f7a4 2 = .ok (.iconst 1, 1) := by decide +kernel
theorem dJ6_bitCount_0f7a4_3 : decode cJ6_bitCount_0f7a4 3 = .ok (.iushr, 1) := by decide +kernel
theorem dJ6_bitCount_0f7a4_4 : decode cJ6_bitCount_0f7a4 4 = .ok (.ldc_w 265, 3) := by decide +kernel
theorem dJ6_bitCount_0f7a4_7 : decode cJ6_bitCount_0f7a4 7 = .ok (.iand, 1) := by decide +kernel
theorem dJ6_bitCount_0f7a4_8 : decode cJ6_bitCount_0f7a4 8 = .ok (.isub, 1) := by decide +kernel
theorem dJ6_bitCount_0f7a4_9 : decode cJ6_bitCount_0f7a4 9 = .ok (.istore_n 0, 1) := by decide +kernel
theorem dJ6_bitCount_0f7a4_10 : decode cJ6_bitCount_0f7a4 10 = .ok (.iload_n 0, 1) := by decide +kernel
theorem dJ6_bitCount_0f7a4_11 : decode cJ6_bitCount_0f7a4 11 = .ok (.ldc_w 266, 3) := by decide +kernel
theorem dJ6_bitCount_0f7a4_14 : decode cJ6_bitCount_0f7a4 14 = .ok (.iand, 1) := by decide +kernel
theorem dJ6_bitCount_0f7a4_15 : decode cJ6_bitCount_0f7a4 15 = .ok (.iload_n 0, 1) := by decide +kernel
theorem dJ6_bitCount_0f7a4_16 : decode cJ6_bitCount_0f7a4 16 = .ok (.iconst 2, 1) := by decide +kernel
theorem dJ6_bitCount_0f7a4_17 : decode cJ6_bitCount_0f7a4 17 = .ok (.iushr, 1) := by decide +kernel
theorem dJ6_bitCount_0f7a4_18 : decode cJ6_bitCount_0f7a4 18 = .ok (.ldc_w 266, 3) := by decide +kernel
theorem dJ6_bitCount_0f7a4_21 : decode cJ6_bitCount_0f7a4 21 = .ok (.iand, 1) := by decide +kernel
theorem dJ6_bitCount_0f7a4_22 : decode cJ6_bitCount_0f7a4 22 = .ok (.iadd, 1) := by decide +kernel
theorem dJ6_bitCount_0f7a4_23 : decode cJ6_bitCount_0f7a4 23 = .ok (.istore_n 0, 1) := by decide +kernel
theorem dJ6_bitCount_0f7a4_24 : decode cJ6_bitCount_0f7a4 24 = .ok (.iload_n 0, 1) := by decide +kernel
theorem dJ6_bitCount_0f7a4_25 : decode cJ6_bitCount_0f7a4 25 = .ok (.iload_n 0, 1) := by decide +kernel
theorem dJ6_bitCount_0f7a4_26 : decode cJ6_bitCount_0f7a4 26 = .ok (.iconst 4, 1) := by decide +kernel
theorem dJ6_bitCount_0f7a4_27 : decode cJ6_bitCount_0f7a4 27 = .ok (.iushr, 1) := by decide +kernel
theorem dJ6_bitCount_0f7a4_28 : decode cJ6_bitCount_0f7a4 28 = .ok (.iadd, 1) := by decide +kernel
theorem dJ6_bitCount_0f7a4_29 : decode cJ6_bitCount_0f7a4 29 = .ok (.ldc_w 267, 3) := by decide +kernel
theorem dJ6_bitCount_0f7a4_32 : decode cJ6_bitCount_0f7a4 32 = .ok (.iand, 1) := by decide +kernel
theorem dJ6_bitCount_0f7a4_33 : decode cJ6_bitCount_0f7a4 33 = .ok (.istore_n 0, 1) := by decide +kernel
theorem dJ6_bitCount_0f7a4_34 : decode cJ6_bitCount_0f7a4 34 = .ok (.iload_n 0, 1) := by decide +kernel
theorem dJ6_bitCount_0f7a4_35 : decode cJ6_bitCount_0f7a4 35 = .ok (.iload_n 0, 1) := by decide +kernel
theorem dJ6_bitCount_0f7a4_36 : decode cJ6_bitCount_0f7a4 36 = .ok (.bipush 8, 2) := by decide +kernel
theorem dJ6_bitCount_0f7a4_38 : decode cJ6_bitCount_0f7a4 38 = .ok (.iushr, 1) := by decide +kernel
theorem dJ6_bitCount_0f7a4_39 : decode cJ6_bitCount_0f7a4 39 = .ok (.iadd, 1) := by decide +kernel
theorem dJ6_bitCount_0f7a4_40 : decode cJ6_bitCount_0f7a4 40 = .ok (.istore_n 0, 1) := by decide +kernel
theorem dJ6_bitCount_0f7a4_41 : decode cJ6_bitCount_0f7a4 41 = .ok (.iload_n 0, 1) := by decide +kernel
theorem dJ6_bitCount_0f7a4_42 : decode cJ6_bitCount_0f7a4 42 = .ok (.iload_n 0, 1) := by decide +kernel
theorem dJ6_bitCount_0f7a4_43 : decode cJ6_bitCount_0f7a4 43 = .ok (.bipush 16, 2) := by decide +kernel
theorem dJ6_bitCount_0f7a4_45 : decode cJ6_bitCount_0f7a4 45 = .ok (.iushr, 1) := by decide +kernel
theorem dJ6_bitCount_0f7a4_46 : decode cJ6_bitCount_0f7a4 46 = .ok (.iadd, 1) := by decide +kernel
theorem dJ6_bitCount_0f7a4_47 : decode cJ6_bitCount_0f7a4 47 = .ok (.istore_n 0, 1) := by decide +kernel
theorem dJ6_bitCount_0f7a4_48 : decode cJ6_bitCount_0f7a4 48 = .ok (.iload_n 0, 1) := by decide +kernel
theorem dJ6_bitCount_0f7a4_49 : decode cJ6_bitCount_0f7a4 49 = .ok (.bipush 63, 2) := by decide +kernel
theorem dJ6_bitCount_0f7a4_51 : decode cJ6_bitCount_0f7a4 51 = .ok (.iand, 1) := by decide +kernel
theorem dJ6_bitCount_0f7a4_52 : decode cJ6_bitCount_0f7a4 52 = .ok (.ireturn, 1) := by decide +kernel
theorem dJ9_max_7cf53_0 : decode cJ9_max_7cf53 0 = .ok (.iload_n 0, 1) := by decide +kernel
theorem dJ9_max_7cf53_1 : decode cJ9_max_7cf53 1 = .ok (.iload_n 1, 1) := by decide +kernel
theorem dJ9_max_7cf53_2 : decode cJ9_max_7cf53 2 = .ok (.if_icmp .lt 7, 3) := by decide +kernel
theorem dJ9_max_7cf53_5 : decode cJ9_max_7cf53 5 = .ok (.iload_n 0, 1) := by decide +kernel
theorem dJ9_max_7cf53_6 : decode cJ9_max_7cf53 6 = .ok (.goto 4, 3) := by decide +kernel
theorem dJ9_max_7cf53_9 : decode cJ9_max_7cf53 9 = .ok (.iload_n 1, 1) := by decide +kernel
theorem dJ9_max_7cf53_10 : decode cJ9_max_7cf53 10 = .ok (.ireturn, 1) := by decide +kernel
theorem dJ9_min_7cf53_0 : decode cJ9_min_7cf53 0 = .ok (.iload_n 0, 1) := by decide +kernel
theorem dJ9_min_7cf53_1 : decode cJ9_min_7cf53 1 = .ok (.iload_n 1, 1) := by decide +kernel
theorem dJ9_min_7cf53_2 : decode cJ9_min_7cf53 2 = .ok (.if_icmp .gt 7, 3) := by decide +kernel
theorem dJ9_min_7cf53_5 : decode cJ9_min_7cf53 5 = .ok (.iload_n 0, 1) := by decide +kernel
theorem dJ9_min_7cf53_6 : decode cJ9_min_7cf53 6 = .ok (.goto 4, 3) := by decide +kernel
theorem dJ9_min_7cf53_9 : decode cJ9_min_7cf53 9 = .ok (.iload_n 1, 1) := by decide +kernel
theorem dJ9_min_7cf53_10 : decode cJ9_min_7cf53 10 = .ok (.ireturn, 1) := by decide +kernel
theorem dJ9_min_f86c9_0 : decode cJ9_min_f86c9 0 = .ok (.lload_n 0, 1) := by decide +kernel
theorem dJ9_min_f86c9_1 : decode cJ9_min_f86c9 1 = .ok (.lload_n 2, 1) := by decide +kernel
theorem dJ9_min_f86c9_2 : decode cJ9_min_f86c9 2 = .ok (.lcmp, 1) := by decide +kernel
theorem dJ9_min_f86c9_3 : decode cJ9_min_f86c9 3 = .ok (.ifCond .gt 7, 3) := by decide +kernel
theorem dJ9_min_f86c9_6 : decode cJ9_min_f86c9 6 = .ok (.lload_n 0, 1) := by decide +kernel
theorem dJ9_min_f86c9_7 : decode cJ9_min_f86c9 7 = .ok (.goto 4, 3) := by decide +kernel
theorem dJ9_min_f86c9_10 : decode cJ9_min_f86c9 10 = .ok (.lload_n 2, 1) := by decide +kernel
theorem dJ9_min_f86c9_11 : decode cJ9_min_f86c9 11 = .ok (.lreturn, 1) := by decide +kernel
theorem dJ7_fill_53178_0 : decode cJ7_fill_53178 0 = .ok (.iconst 0, 1) := by decide +kernel
theorem dJ7_fill_53178_1 : decode cJ7_fill_53178 1 = .ok (.istore_n 2, 1) := by decide +kernel
theorem dJ7_fill_53178_2 : decode cJ7_fill_53178 2 = .ok (.aload_n 0, 1) := by decide +kernel
theorem dJ7_fill_53178_3 : decode cJ7_fill_53178 3 = .ok (.arraylength, 1) := by decide +kernel
theorem dJ7_fill_53178_4 : decode cJ7_fill_53178 4 = .ok (.istore_n 3, 1) := by decide +kernel
theorem dJ7_fill_53178_5 : decode cJ7_fill_53178 5 = .ok (.iload_n 2, 1) := by decide +kernel
theorem dJ7_fill_53178_6 : decode cJ7_fill_53178 6 = .ok (.iload_n 3, 1) := by decide +kernel
theorem dJ7_fill_53178_7 : decode cJ7_fill_53178 7 = .ok (.if_icmp .ge 13, 3) := by decide +kernel
theorem dJ7_fill_53178_10 : decode cJ7_fill_53178 10 = .ok (.aload_n 0, 1) := by decide +kernel
theorem dJ7_fill_53178_11 : decode cJ7_fill_53178 11 = .ok (.iload_n 2, 1) := by decide +kernel
theorem dJ7_fill_53178_12 : decode cJ7_fill_53178 12 = .ok (.iload_n 1, 1) := by decide +kernel
theorem dJ7_fill_53178_13 : decode cJ7_fill_53178 13 = .ok (.iastore, 1) := by decide +kernel
theorem dJ7_fill_53178_14 : decode cJ7_fill_53178 14 = .ok (.iinc 2 1, 3) := by decide +kernel
theorem dJ7_fill_53178_17 : decode cJ7_fill_53178 17 = .ok (.goto (-12), 3) := by decide +kernel
theorem dJ7_fill_53178_20 : decode cJ7_fill_53178 20 = .ok (.return_, 1) := by decide +kernel
theorem dL_cell_0 : decode cL_cell 0 = .ok (.iload_n 1, 1) := by decide +kernel
theorem dL_cell_1 : decode cL_cell 1 = .ok (.aload_n 0, 1) := by decide +kernel
theorem dL_cell_2 : decode cL_cell 2 = .ok (.arraylength, 1) := by decide +kernel
theorem dL_cell_3 : decode cL_cell 3 = .ok (.if_icmp .ge 9, 3) := by decide +kernel
theorem dL_cell_6 : decode cL_cell 6 = .ok (.aload_n 0, 1) := by decide +kernel
theorem dL_cell_7 : decode cL_cell 7 = .ok (.iload_n 1, 1) := by decide +kernel
theorem dL_cell_8 : decode cL_cell 8 = .ok (.iaload, 1) := by decide +kernel
theorem dL_cell_9 : decode cL_cell 9 = .ok (.goto 18, 3) := by decide +kernel
theorem dL_cell_12 : decode cL_cell 12 = .ok (.sipush 7919, 3) := by decide +kernel
theorem dL_cell_15 : decode cL_cell 15 = .ok (.iload_n 1, 1) := by decide +kernel
theorem dL_cell_16 : decode cL_cell 16 = .ok (.sipush 2917, 3) := by decide +kernel
theorem dL_cell_19 : decode cL_cell 19 = .ok (.iadd, 1) := by decide +kernel
theorem dL_cell_20 : decode cL_cell 20 = .ok (.imul, 1) := by decide +kernel
theorem dL_cell_21 : decode cL_cell 21 = .ok (.iload_n 1, 1) := by decide +kernel
theorem dL_cell_22 : decode cL_cell 22 = .ok (.sipush 619, 3) := by decide +kernel
theorem dL_cell_25 : decode cL_cell 25 = .ok (.iadd, 1) := by decide +kernel
theorem dL_cell_26 : decode cL_cell 26 = .ok (.imul, 1) := by decide +kernel
theorem dL_cell_27 : decode cL_cell 27 = .ok (.ireturn, 1) := by decide +kernel
theorem dL_low_0 : decode cL_low 0 = .ok (.iload_n 0, 1) := by decide +kernel
theorem dL_low_1 : decode cL_low 1 = .ok (.ldc 7, 2) := by decide +kernel
theorem dL_low_3 : decode cL_low 3 = .ok (.iand, 1) := by decide +kernel
theorem dL_low_4 : decode cL_low 4 = .ok (.iload_n 1, 1) := by decide +kernel
theorem dL_low_5 : decode cL_low 5 = .ok (.irem, 1) := by decide +kernel
theorem dL_low_6 : decode cL_low 6 = .ok (.ireturn, 1) := by decide +kernel
theorem dL_layer_0 : decode cL_layer 0 = .ok (.aload_n 0, 1) := by decide +kernel
theorem dL_layer_1 : decode cL_layer 1 = .ok (.iload_n 1, 1) := by decide +kernel
theorem dL_layer_2 : decode cL_layer 2 = .ok (.iload_n 2, 1) := by decide +kernel
theorem dL_layer_3 : decode cL_layer 3 = .ok (.iload_n 3, 1) := by decide +kernel
theorem dL_layer_4 : decode cL_layer 4 = .ok (.iload 4, 2) := by decide +kernel
theorem dL_layer_6 : decode cL_layer 6 = .ok (.iload 5, 2) := by decide +kernel
theorem dL_layer_8 : decode cL_layer 8 = .ok (.invokevirtual 8, 3) := by decide +kernel
theorem dL_layer_11 : decode cL_layer 11 = .ok (.iconst 0, 1) := by decide +kernel
theorem dL_layer_12 : decode cL_layer 12 = .ok (.ireturn, 1) := by decide +kernel
theorem dL_layer_13 : decode cL_layer 13 = .ok (.astore 6, 2) := by decide +kernel
theorem dL_layer_15 : decode cL_layer 15 = .ok (.ldc 16, 2) := by decide +kernel
theorem dL_layer_17 : decode cL_layer 17 = .ok (.ireturn, 1) := by decide +kernel
theorem dL_layer_18 : decode cL_layer 18 = .ok (.astore 6, 2) := by decide +kernel
theorem dL_layer_20 : decode cL_layer 20 = .ok (.ldc 16, 2) := by decide +kernel
theorem dL_layer_22 : decode cL_layer 22 = .ok (.ireturn, 1) := by decide +kernel
theorem dL_layer_23 : decode cL_layer 23 = .ok (.astore 6, 2) := by decide +kernel
theorem dL_layer_25 : decode cL_layer 25 = .ok (.ldc 16, 2) := by decide +kernel
theorem dL_layer_27 : decode cL_layer 27 = .ok (.ireturn, 1) := by decide +kernel
theorem dL_mud_0 : decode cL_mud 0 = .ok (.aload_n 0, 1) := by decide +kernel
theorem dL_mud_1 : decode cL_mud 1 = .ok (.iload_n 1, 1) := by decide +kernel
theorem dL_mud_2 : decode cL_mud 2 = .ok (.invokevirtual 21, 3) := by decide +kernel
theorem dL_mud_5 : decode cL_mud 5 = .ok (.ireturn, 1) := by decide +kernel
theorem dL_mud_6 : decode cL_mud 6 = .ok (.astore_n 2, 1) := by decide +kernel
theorem dL_mud_7 : decode cL_mud 7 = .ok (.ldc 16, 2) := by decide +kernel
theorem dL_mud_9 : decode cL_mud 9 = .ok (.ireturn, 1) := by decide +kernel
theorem dL_mud_10 : decode cL_mud 10 = .ok (.astore_n 2, 1) := by decide +kernel
theorem dL_mud_11 : decode cL_mud 11 = .ok (.ldc 16, 2) := by decide +kernel
theorem dL_mud_13 : decode cL_mud 13 = .ok (.ireturn, 1) := by decide +kernel
theorem dL_drill_0 : decode cL_drill 0 = .ok (.aload_n 0, 1) := by decide +kernel
theorem dL_drill_1 : decode cL_drill 1 = .ok (.iload_n 1, 1) := by decide +kernel
theorem dL_drill_2 : decode cL_drill 2 = .ok (.invokevirtual 25, 3) := by decide +kernel
theorem dL_drill_5 : decode cL_drill 5 = .ok (.ireturn, 1) := by decide +kernel
theorem dL_drill_6 : decode cL_drill 6 = .ok (.astore_n 2, 1) := by decide +kernel
theorem dL_drill_7 : decode cL_drill 7 = .ok (.ldc 16, 2) := by decide +kernel
theorem dL_drill_9 : decode cL_drill 9 = .ok (.ireturn, 1) := by decide +kernel
theorem dL_drill_10 : decode cL_drill 10 = .ok (.astore_n 2, 1) := by decide +kernel
theorem dL_drill_11 : decode cL_drill 11 = .ok (.ldc 16, 2) := by decide +kernel
theorem dL_drill_13 : decode cL_drill 13 = .ok (.ireturn, 1) := by decide +kernel
theorem dL_pass_0 : decode cL_pass 0 = .ok (.aload_n 0, 1) := by decide +kernel
theorem dL_pass_1 : decode cL_pass 1 = .ok (.iload_n 1, 1) := by decide +kernel
theorem dL_pass_2 : decode cL_pass 2 = .ok (.invokevirtual 28, 3) := by decide +kernel
theorem dL_pass_5 : decode cL_pass 5 = .ok (.ireturn, 1) := by decide +kernel
theorem dL_pass_6 : decode cL_pass 6 = .ok (.astore_n 2, 1) := by decide +kernel
theorem dL_pass_7 : decode cL_pass 7 = .ok (.ldc 16, 2) := by decide +kernel
theorem dL_pass_9 : decode cL_pass 9 = .ok (.ireturn, 1) := by decide +kernel
theorem dL_pass_10 : decode cL_pass 10 = .ok (.astore_n 2, 1) := by decide +kernel
theorem dL_pass_11 : decode cL_pass 11 = .ok (.ldc 16, 2) := by decide +kernel
theorem dL_pass_13 : decode cL_pass 13 = .ok (.ireturn, 1) := by decide +kernel
theorem dL_close_0 : decode cL_close 0 = .ok (.aload_n 0, 1) := by decide +kernel
theorem dL_close_1 : decode cL_close 1 = .ok (.invokevirtual 31, 3) := by decide +kernel
theorem dL_close_4 : decode cL_close 4 = .ok (.iconst 0, 1) := by decide +kernel
theorem dL_close_5 : decode cL_close 5 = .ok (.ireturn, 1) := by decide +kernel
theorem dL_close_6 : decode cL_close 6 = .ok (.astore_n 1, 1) := by decide +kernel
theorem dL_close_7 : decode cL_close 7 = .ok (.ldc 16, 2) := by decide +kernel
theorem dL_close_9 : decode cL_close 9 = .ok (.ireturn, 1) := by decide +kernel
theorem dL_open_0 : decode cL_open 0 = .ok (.aload_n 0, 1) := by decide +kernel
theorem dL_open_1 : decode cL_open 1 = .ok (.invokevirtual 34, 3) := by decide +kernel
theorem dL_open_4 : decode cL_open 4 = .ok (.ireturn, 1) := by decide +kernel
theorem dL_open_5 : decode cL_open 5 = .ok (.astore_n 1, 1) := by decide +kernel
theorem dL_open_6 : decode cL_open 6 = .ok (.ldc 16, 2) := by decide +kernel
theorem dL_open_8 : decode cL_open 8 = .ok (.ireturn, 1) := by decide +kernel
theorem dL_pump_0 : decode cL_pump 0 = .ok (.aload_n 0, 1) := by decide +kernel
theorem dL_pump_1 : decode cL_pump 1 = .ok (.iload_n 1, 1) := by decide +kernel
theorem dL_pump_2 : decode cL_pump 2 = .ok (.iload_n 2, 1) := by decide +kernel
theorem dL_pump_3 : decode cL_pump 3 = .ok (.invokevirtual 38, 3) := by decide +kernel
theorem dL_pump_6 : decode cL_pump 6 = .ok (.ireturn, 1) := by decide +kernel
theorem dL_pump_7 : decode cL_pump 7 = .ok (.astore_n 3, 1) := by decide +kernel
theorem dL_pump_8 : decode cL_pump 8 = .ok (.ldc 16, 2) := by decide +kernel
theorem dL_pump_10 : decode cL_pump 10 = .ok (.ireturn, 1) := by decide +kernel
theorem dL_pump_11 : decode cL_pump 11 = .ok (.astore_n 3, 1) := by decide +kernel
theorem dL_pump_12 : decode cL_pump 12 = .ok (.ldc 16, 2) := by decide +kernel
theorem dL_pump_14 : decode cL_pump 14 = .ok (.ireturn, 1) := by decide +kernel
theorem dL_casing_0 : decode cL_casing 0 = .ok (.aload_n 0, 1) := by decide +kernel
theorem dL_casing_1 : decode cL_casing 1 = .ok (.iload_n 1, 1) := by decide +kernel
theorem dL_casing_2 : decode cL_casing 2 = .ok (.invokevirtual 42, 3) := by decide +kernel
theorem dL_casing_5 : decode cL_casing 5 = .ok (.ireturn, 1) := by decide +kernel
theorem dL_casing_6 : decode cL_casing 6 = .ok (.astore_n 2, 1) := by decide +kernel
theorem dL_casing_7 : decode cL_casing 7 = .ok (.ldc 16, 2) := by decide +kernel
theorem dL_casing_9 : decode cL_casing 9 = .ok (.ireturn, 1) := by decide +kernel
theorem dL_casing_10 : decode cL_casing 10 = .ok (.astore_n 2, 1) := by decide +kernel
theorem dL_casing_11 : decode cL_casing 11 = .ok (.ldc 16, 2) := by decide +kernel
theorem dL_casing_13 : decode cL_casing 13 = .ok (.ireturn, 1) := by decide +kernel
theorem dL_strength_0 : decode cL_strength 0 = .ok (.aload_n 0, 1) := by decide +kernel
theorem dL_strength_1 : decode cL_strength 1 = .ok (.iload_n 1, 1) := by decide +kernel
theorem dL_strength_2 : decode cL_strength 2 = .ok (.invokevirtual 45, 3) := by decide +kernel
theorem dL_strength_5 : decode cL_strength 5 = .ok (.ireturn, 1) := by decide +kernel
theorem dL_strength_6 : decode cL_strength 6 = .ok (.astore_n 2, 1) := by decide +kernel
theorem dL_strength_7 : decode cL_strength 7 = .ok (.ldc 16, 2) := by decide +kernel
theorem dL_strength_9 : decode cL_strength 9 = .ok (.ireturn, 1) := by decide +kernel
theorem dL_test_0 : decode cL_test 0 = .ok (.aload_n 0, 1) := by decide +kernel
theorem dL_test_1 : decode cL_test 1 = .ok (.iload_n 1, 1) := by decide +kernel
theorem dL_test_2 : decode cL_test 2 = .ok (.iload_n 2, 1) := by decide +kernel
theorem dL_test_3 : decode cL_test 3 = .ok (.invokevirtual 48, 3) := by decide +kernel
theorem dL_test_6 : decode cL_test 6 = .ok (.ifCond .eq 7, 3) := by decide +kernel
theorem dL_test_9 : decode cL_test 9 = .ok (.iconst 1, 1) := by decide +kernel
theorem dL_test_10 : decode cL_test 10 = .ok (.goto 4, 3) := by decide +kernel
theorem dL_test_13 : decode cL_test 13 = .ok (.iconst 0, 1) := by decide +kernel
theorem dL_test_14 : decode cL_test 14 = .ok (.ireturn, 1) := by decide +kernel
theorem dL_test_15 : decode cL_test 15 = .ok (.astore_n 3, 1) := by decide +kernel
theorem dL_test_16 : decode cL_test 16 = .ok (.ldc 16, 2) := by decide +kernel
theorem dL_test_18 : decode cL_test 18 = .ok (.ireturn, 1) := by decide +kernel
theorem dL_test_19 : decode cL_test 19 = .ok (.astore_n 3, 1) := by decide +kernel
theorem dL_test_20 : decode cL_test 20 = .ok (.ldc 16, 2) := by decide +kernel
theorem dL_test_22 : decode cL_test 22 = .ok (.ireturn, 1) := by decide +kernel
theorem dL_stop_0 : decode cL_stop 0 = .ok (.aload_n 0, 1) := by decide +kernel
theorem dL_stop_1 : decode cL_stop 1 = .ok (.iload_n 1, 1) := by decide +kernel
theorem dL_stop_2 : decode cL_stop 2 = .ok (.iload_n 2, 1) := by decide +kernel
theorem dL_stop_3 : decode cL_stop 3 = .ok (.invokevirtual 52, 3) := by decide +kernel
theorem dL_stop_6 : decode cL_stop 6 = .ok (.ireturn, 1) := by decide +kernel
theorem dL_stop_7 : decode cL_stop 7 = .ok (.astore_n 3, 1) := by decide +kernel
theorem dL_stop_8 : decode cL_stop 8 = .ok (.ldc 16, 2) := by decide +kernel
theorem dL_stop_10 : decode cL_stop 10 = .ok (.ireturn, 1) := by decide +kernel
theorem dL_pressure_0 : decode cL_pressure 0 = .ok (.aload_n 0, 1) := by decide +kernel
theorem dL_pressure_1 : decode cL_pressure 1 = .ok (.iload_n 1, 1) := by decide +kernel
theorem dL_pressure_2 : decode cL_pressure 2 = .ok (.invokevirtual 56, 3) := by decide +kernel
theorem dL_pressure_5 : decode cL_pressure 5 = .ok (.ireturn, 1) := by decide +kernel
theorem dL_pressure_6 : decode cL_pressure 6 = .ok (.astore_n 2, 1) := by decide +kernel
theorem dL_pressure_7 : decode cL_pressure 7 = .ok (.ldc 16, 2) := by decide +kernel
theorem dL_pressure_9 : decode cL_pressure 9 = .ok (.ireturn, 1) := by decide +kernel
theorem dL_of_0 : decode cL_of 0 = .ok (.aload_n 0, 1) := by decide +kernel
theorem dL_of_1 : decode cL_of 1 = .ok (.iload_n 1, 1) := by decide +kernel
theorem dL_of_2 : decode cL_of 2 = .ok (.invokevirtual 59, 3) := by decide +kernel
theorem dL_of_5 : decode cL_of 5 = .ok (.lreturn, 1) := by decide +kernel
theorem dL_of_6 : decode cL_of 6 = .ok (.astore_n 2, 1) := by decide +kernel
theorem dL_of_7 : decode cL_of 7 = .ok (.ldc2_w 63, 3) := by decide +kernel
theorem dL_of_10 : decode cL_of 10 = .ok (.lreturn, 1) := by decide +kernel
theorem dL_ofTest_0 : decode cL_ofTest 0 = .ok (.aload_n 0, 1) := by decide +kernel
theorem dL_ofTest_1 : decode cL_ofTest 1 = .ok (.iload_n 1, 1) := by decide +kernel
theorem dL_ofTest_2 : decode cL_ofTest 2 = .ok (.iload_n 2, 1) := by decide +kernel
theorem dL_ofTest_3 : decode cL_ofTest 3 = .ok (.invokevirtual 65, 3) := by decide +kernel
theorem dL_ofTest_6 : decode cL_ofTest 6 = .ok (.ireturn, 1) := by decide +kernel
theorem dL_ofTest_7 : decode cL_ofTest 7 = .ok (.astore_n 3, 1) := by decide +kernel
theorem dL_ofTest_8 : decode cL_ofTest 8 = .ok (.ldc 16, 2) := by decide +kernel
theorem dL_ofTest_10 : decode cL_ofTest 10 = .ok (.ireturn, 1) := by decide +kernel
theorem dL_ofTest_11 : decode cL_ofTest 11 = .ok (.astore_n 3, 1) := by decide +kernel
theorem dL_ofTest_12 : decode cL_ofTest 12 = .ok (.ldc 16, 2) := by decide +kernel
theorem dL_ofTest_14 : decode cL_ofTest 14 = .ok (.ireturn, 1) := by decide +kernel
theorem dL_killWeight_0 : decode cL_killWeight 0 = .ok (.aload_n 0, 1) := by decide +kernel
theorem dL_killWeight_1 : decode cL_killWeight 1 = .ok (.invokevirtual 68, 3) := by decide +kernel
theorem dL_killWeight_4 : decode cL_killWeight 4 = .ok (.ireturn, 1) := by decide +kernel
theorem dL_killWeight_5 : decode cL_killWeight 5 = .ok (.astore_n 1, 1) := by decide +kernel
theorem dL_killWeight_6 : decode cL_killWeight 6 = .ok (.ldc 16, 2) := by decide +kernel
theorem dL_killWeight_8 : decode cL_killWeight 8 = .ok (.ireturn, 1) := by decide +kernel
theorem dL_window_0 : decode cL_window 0 = .ok (.aload_n 0, 1) := by decide +kernel
theorem dL_window_1 : decode cL_window 1 = .ok (.iload_n 1, 1) := by decide +kernel
theorem dL_window_2 : decode cL_window 2 = .ok (.iload_n 2, 1) := by decide +kernel
theorem dL_window_3 : decode cL_window 3 = .ok (.iload_n 3, 1) := by decide +kernel
theorem dL_window_4 : decode cL_window 4 = .ok (.invokevirtual 71, 3) := by decide +kernel
theorem dL_window_7 : decode cL_window 7 = .ok (.ireturn, 1) := by decide +kernel
theorem dL_window_8 : decode cL_window 8 = .ok (.astore 4, 2) := by decide +kernel
theorem dL_window_10 : decode cL_window 10 = .ok (.ldc 16, 2) := by decide +kernel
theorem dL_window_12 : decode cL_window 12 = .ok (.ireturn, 1) := by decide +kernel
theorem dL_casings_0 : decode cL_casings 0 = .ok (.aload_n 0, 1) := by decide +kernel
theorem dL_casings_1 : decode cL_casings 1 = .ok (.iload_n 1, 1) := by decide +kernel
theorem dL_casings_2 : decode cL_casings 2 = .ok (.invokevirtual 75, 3) := by decide +kernel
theorem dL_casings_5 : decode cL_casings 5 = .ok (.ireturn, 1) := by decide +kernel
theorem dL_casings_6 : decode cL_casings 6 = .ok (.astore_n 2, 1) := by decide +kernel
theorem dL_casings_7 : decode cL_casings 7 = .ok (.ldc 16, 2) := by decide +kernel
theorem dL_casings_9 : decode cL_casings 9 = .ok (.ireturn, 1) := by decide +kernel
theorem dL_casingsAnew_0 : decode cL_casingsAnew 0 = .ok (.aload_n 0, 1) := by decide +kernel
theorem dL_casingsAnew_1 : decode cL_casingsAnew 1 = .ok (.iload_n 1, 1) := by decide +kernel
theorem dL_casingsAnew_2 : decode cL_casingsAnew 2 = .ok (.invokevirtual 78, 3) := by decide +kernel
theorem dL_casingsAnew_5 : decode cL_casingsAnew 5 = .ok (.ireturn, 1) := by decide +kernel
theorem dL_casingsAnew_6 : decode cL_casingsAnew 6 = .ok (.astore_n 2, 1) := by decide +kernel
theorem dL_casingsAnew_7 : decode cL_casingsAnew 7 = .ok (.ldc 16, 2) := by decide +kernel
theorem dL_casingsAnew_9 : decode cL_casingsAnew 9 = .ok (.ireturn, 1) := by decide +kernel
theorem dL_equivalent_0 : decode cL_equivalent 0 = .ok (.ldc 81, 2) := by decide +kernel
theorem dL_equivalent_2 : decode cL_equivalent 2 = .ok (.aload_n 0, 1) := by decide +kernel
theorem dL_equivalent_3 : decode cL_equivalent 3 = .ok (.invokevirtual 82, 3) := by decide +kernel
theorem dL_equivalent_6 : decode cL_equivalent 6 = .ok (.fmul, 1) := by decide +kernel
theorem dL_equivalent_7 : decode cL_equivalent 7 = .ok (.f2i, 1) := by decide +kernel
theorem dL_equivalent_8 : decode cL_equivalent 8 = .ok (.ireturn, 1) := by decide +kernel
theorem dL_equivalent_9 : decode cL_equivalent 9 = .ok (.astore_n 1, 1) := by decide +kernel
theorem dL_equivalent_10 : decode cL_equivalent 10 = .ok (.ldc 16, 2) := by decide +kernel
theorem dL_equivalent_12 : decode cL_equivalent 12 = .ok (.ireturn, 1) := by decide +kernel
theorem dL_ahead_0 : decode cL_ahead 0 = .ok (.aload_n 0, 1) := by decide +kernel
theorem dL_ahead_1 : decode cL_ahead 1 = .ok (.iload_n 1, 1) := by decide +kernel
theorem dL_ahead_2 : decode cL_ahead 2 = .ok (.invokevirtual 86, 3) := by decide +kernel
theorem dL_ahead_5 : decode cL_ahead 5 = .ok (.ireturn, 1) := by decide +kernel
theorem dL_ahead_6 : decode cL_ahead 6 = .ok (.astore_n 2, 1) := by decide +kernel
theorem dL_ahead_7 : decode cL_ahead 7 = .ok (.ldc 16, 2) := by decide +kernel
theorem dL_ahead_9 : decode cL_ahead 9 = .ok (.ireturn, 1) := by decide +kernel
theorem dL_areAlike_0 : decode cL_areAlike 0 = .ok (.aload_n 0, 1) := by decide +kernel
theorem dL_areAlike_1 : decode cL_areAlike 1 = .ok (.invokevirtual 116, 3) := by decide +kernel
theorem dL_areAlike_4 : decode cL_areAlike 4 = .ok (.aload_n 1, 1) := by decide +kernel
theorem dL_areAlike_5 : decode cL_areAlike 5 = .ok (.invokevirtual 116, 3) := by decide +kernel
theorem dL_areAlike_8 : decode cL_areAlike 8 = .ok (.if_icmp .ne 18, 3) := by decide +kernel
theorem dL_areAlike_11 : decode cL_areAlike 11 = .ok (.aload_n 0, 1) := by decide +kernel
theorem dL_areAlike_12 : decode cL_areAlike 12 = .ok (.invokevirtual 131, 3) := by decide +kernel
theorem dL_areAlike_15 : decode cL_areAlike 15 = .ok (.aload_n 1, 1) := by decide +kernel
theorem dL_areAlike_16 : decode cL_areAlike 16 = .ok (.invokevirtual 131, 3) := by decide +kernel
theorem dL_areAlike_19 : decode cL_areAlike 19 = .ok (.if_icmp .ne 7, 3) := by decide +kernel
theorem dL_areAlike_22 : decode cL_areAlike 22 = .ok (.iconst 1, 1) := by decide +kernel
theorem dL_areAlike_23 : decode cL_areAlike 23 = .ok (.goto 4, 3) := by decide +kernel
theorem dL_areAlike_26 : decode cL_areAlike 26 = .ok (.iconst 0, 1) := by decide +kernel
theorem dL_areAlike_27 : decode cL_areAlike 27 = .ok (.istore_n 3, 1) := by decide +kernel
theorem dL_areAlike_28 : decode cL_areAlike 28 = .ok (.iconst 0, 1) := by decide +kernel
theorem dL_areAlike_29 : decode cL_areAlike 29 = .ok (.istore 4, 2) := by decide +kernel
theorem dL_areAlike_31 : decode cL_areAlike 31 = .ok (.iload 4, 2) := by decide +kernel
theorem dL_areAlike_33 : decode cL_areAlike 33 = .ok (.bipush 12, 2) := by decide +kernel
theorem dL_areAlike_35 : decode cL_areAlike 35 = .ok (.if_icmp .ge 75, 3) := by decide +kernel
theorem dL_areAlike_38 : decode cL_areAlike 38 = .ok (.iload_n 3, 1) := by decide +kernel
theorem dL_areAlike_39 : decode cL_areAlike 39 = .ok (.ifCond .eq 71, 3) := by decide +kernel
theorem dL_areAlike_42 : decode cL_areAlike 42 = .ok (.aload_n 0, 1) := by decide +kernel
theorem dL_areAlike_43 : decode cL_areAlike 43 = .ok (.iload 4, 2) := by decide +kernel
theorem dL_areAlike_45 : decode cL_areAlike 45 = .ok (.invokestatic 126, 3) := by decide +kernel
theorem dL_areAlike_48 : decode cL_areAlike 48 = .ok (.aload_n 1, 1) := by decide +kernel
theorem dL_areAlike_49 : decode cL_areAlike 49 = .ok (.iload 4, 2) := by decide +kernel
theorem dL_areAlike_51 : decode cL_areAlike 51 = .ok (.invokestatic 126, 3) := by decide +kernel
theorem dL_areAlike_54 : decode cL_areAlike 54 = .ok (.lcmp, 1) := by decide +kernel
theorem dL_areAlike_55 : decode cL_areAlike 55 = .ok (.ifCond .ne 47, 3) := by decide +kernel
theorem dL_areAlike_58 : decode cL_areAlike 58 = .ok (.aload_n 0, 1) := by decide +kernel
theorem dL_areAlike_59 : decode cL_areAlike 59 = .ok (.iload 4, 2) := by decide +kernel
theorem dL_areAlike_61 : decode cL_areAlike 61 = .ok (.invokestatic 124, 3) := by decide +kernel
theorem dL_areAlike_64 : decode cL_areAlike 64 = .ok (.aload_n 1, 1) := by decide +kernel
theorem dL_areAlike_65 : decode cL_areAlike 65 = .ok (.iload 4, 2) := by decide +kernel
theorem dL_areAlike_67 : decode cL_areAlike 67 = .ok (.invokestatic 124, 3) := by decide +kernel
theorem dL_areAlike_70 : decode cL_areAlike 70 = .ok (.if_icmp .ne 32, 3) := by decide +kernel
theorem dL_areAlike_73 : decode cL_areAlike 73 = .ok (.aload_n 0, 1) := by decide +kernel
theorem dL_areAlike_74 : decode cL_areAlike 74 = .ok (.iload 4, 2) := by decide +kernel
theorem dL_areAlike_76 : decode cL_areAlike 76 = .ok (.iload_n 2, 1) := by decide +kernel
theorem dL_areAlike_77 : decode cL_areAlike 77 = .ok (.iconst 4, 1) := by decide +kernel
theorem dL_areAlike_78 : decode cL_areAlike 78 = .ok (.invokestatic 89, 3) := by decide +kernel
theorem dL_areAlike_81 : decode cL_areAlike 81 = .ok (.invokestatic 134, 3) := by decide +kernel
theorem dL_areAlike_84 : decode cL_areAlike 84 = .ok (.aload_n 1, 1) := by decide +kernel
theorem dL_areAlike_85 : decode cL_areAlike 85 = .ok (.iload 4, 2) := by decide +kernel
theorem dL_areAlike_87 : decode cL_areAlike 87 = .ok (.iload_n 2, 1) := by decide +kernel
theorem dL_areAlike_88 : decode cL_areAlike 88 = .ok (.iconst 4, 1) := by decide +kernel
theorem dL_areAlike_89 : decode cL_areAlike 89 = .ok (.invokestatic 89, 3) := by decide +kernel
theorem dL_areAlike_92 : decode cL_areAlike 92 = .ok (.invokestatic 134, 3) := by decide +kernel
theorem dL_areAlike_95 : decode cL_areAlike 95 = .ok (.if_icmp .ne 7, 3) := by decide +kernel
theorem dL_areAlike_98 : decode cL_areAlike 98 = .ok (.iconst 1, 1) := by decide +kernel
theorem dL_areAlike_99 : decode cL_areAlike 99 = .ok (.goto 4, 3) := by decide +kernel
theorem dL_areAlike_102 : decode cL_areAlike 102 = .ok (.iconst 0, 1) := by decide +kernel
theorem dL_areAlike_103 : decode cL_areAlike 103 = .ok (.istore_n 3, 1) := by decide +kernel
theorem dL_areAlike_104 : decode cL_areAlike 104 = .ok (.iinc 4 1, 3) := by decide +kernel
theorem dL_areAlike_107 : decode cL_areAlike 107 = .ok (.goto (-76), 3) := by decide +kernel
theorem dL_areAlike_110 : decode cL_areAlike 110 = .ok (.iload_n 3, 1) := by decide +kernel
theorem dL_areAlike_111 : decode cL_areAlike 111 = .ok (.ifCond .eq 35, 3) := by decide +kernel
theorem dL_areAlike_114 : decode cL_areAlike 114 = .ok (.aload_n 0, 1) := by decide +kernel
theorem dL_areAlike_115 : decode cL_areAlike 115 = .ok (.sipush 5000, 3) := by decide +kernel
theorem dL_areAlike_118 : decode cL_areAlike 118 = .ok (.invokestatic 141, 3) := by decide +kernel
theorem dL_areAlike_121 : decode cL_areAlike 121 = .ok (.aload_n 1, 1) := by decide +kernel
theorem dL_areAlike_122 : decode cL_areAlike 122 = .ok (.sipush 5000, 3) := by decide +kernel
theorem dL_areAlike_125 : decode cL_areAlike 125 = .ok (.invokestatic 141, 3) := by decide +kernel
theorem dL_areAlike_128 : decode cL_areAlike 128 = .ok (.if_icmp .ne 18, 3) := by decide +kernel
theorem dL_areAlike_131 : decode cL_areAlike 131 = .ok (.aload_n 0, 1) := by decide +kernel
theorem dL_areAlike_132 : decode cL_areAlike 132 = .ok (.invokestatic 145, 3) := by decide +kernel
theorem dL_areAlike_135 : decode cL_areAlike 135 = .ok (.aload_n 1, 1) := by decide +kernel
theorem dL_areAlike_136 : decode cL_areAlike 136 = .ok (.invokestatic 145, 3) := by decide +kernel
theorem dL_areAlike_139 : decode cL_areAlike 139 = .ok (.if_icmp .ne 7, 3) := by decide +kernel
theorem dL_areAlike_142 : decode cL_areAlike 142 = .ok (.iconst 1, 1) := by decide +kernel
theorem dL_areAlike_143 : decode cL_areAlike 143 = .ok (.goto 4, 3) := by decide +kernel
theorem dL_areAlike_146 : decode cL_areAlike 146 = .ok (.iconst 0, 1) := by decide +kernel
theorem dL_areAlike_147 : decode cL_areAlike 147 = .ok (.ireturn, 1) := by decide +kernel
theorem dL_isSo_0 : decode cL_isSo 0 = .ok (.iconst 1, 1) := by decide +kernel
theorem dL_isSo_1 : decode cL_isSo 1 = .ok (.iload_n 1, 1) := by decide +kernel
theorem dL_isSo_2 : decode cL_isSo 2 = .ok (.iconst 3, 1) := by decide +kernel
theorem dL_isSo_3 : decode cL_isSo 3 = .ok (.ishr, 1) := by decide +kernel
theorem dL_isSo_4 : decode cL_isSo 4 = .ok (.bipush 60, 2) := by decide +kernel
theorem dL_isSo_6 : decode cL_isSo 6 = .ok (.invokestatic 89, 3) := by decide +kernel
theorem dL_isSo_9 : decode cL_isSo 9 = .ok (.iadd, 1) := by decide +kernel
theorem dL_isSo_10 : decode cL_isSo 10 = .ok (.istore_n 2, 1) := by decide +kernel
theorem dL_isSo_11 : decode cL_isSo 11 = .ok (.aload_n 0, 1) := by decide +kernel
theorem dL_isSo_12 : decode cL_isSo 12 = .ok (.iconst 4, 1) := by decide +kernel
theorem dL_isSo_13 : decode cL_isSo 13 = .ok (.invokevirtual 59, 3) := by decide +kernel
theorem dL_isSo_16 : decode cL_isSo 16 = .ok (.lstore_n 3, 1) := by decide +kernel
theorem dL_isSo_17 : decode cL_isSo 17 = .ok (.aload_n 0, 1) := by decide +kernel
theorem dL_isSo_18 : decode cL_isSo 18 = .ok (.iload_n 2, 1) := by decide +kernel
theorem dL_isSo_19 : decode cL_isSo 19 = .ok (.invokevirtual 86, 3) := by decide +kernel
theorem dL_isSo_22 : decode cL_isSo 22 = .ok (.istore 5, 2) := by decide +kernel
theorem dL_isSo_24 : decode cL_isSo 24 = .ok (.aload_n 0, 1) := by decide +kernel
theorem dL_isSo_25 : decode cL_isSo 25 = .ok (.iconst 5, 1) := by decide +kernel
theorem dL_isSo_26 : decode cL_isSo 26 = .ok (.invokevirtual 59, 3) := by decide +kernel
theorem dL_isSo_29 : decode cL_isSo 29 = .ok (.aload_n 0, 1) := by decide +kernel
theorem dL_isSo_30 : decode cL_isSo 30 = .ok (.bipush 7, 2) := by decide +kernel
theorem dL_isSo_32 : decode cL_isSo 32 = .ok (.invokevirtual 59, 3) := by decide +kernel
theorem dL_isSo_35 : decode cL_isSo 35 = .ok (.ladd, 1) := by decide +kernel
theorem dL_isSo_36 : decode cL_isSo 36 = .ok (.aload_n 0, 1) := by decide +kernel
theorem dL_isSo_37 : decode cL_isSo 37 = .ok (.iconst 0, 1) := by decide +kernel
theorem dL_isSo_38 : decode cL_isSo 38 = .ok (.invokevirtual 59, 3) := by decide +kernel
theorem dL_isSo_41 : decode cL_isSo 41 = .ok (.lcmp, 1) := by decide +kernel
theorem dL_isSo_42 : decode cL_isSo 42 = .ok (.ifCond .gt 115, 3) := by decide +kernel
theorem dL_isSo_45 : decode cL_isSo 45 = .ok (.aload_n 0, 1) := by decide +kernel
theorem dL_isSo_46 : decode cL_isSo 46 = .ok (.iconst 1, 1) := by decide +kernel
theorem dL_isSo_47 : decode cL_isSo 47 = .ok (.invokevirtual 59, 3) := by decide +kernel
theorem dL_isSo_50 : decode cL_isSo 50 = .ok (.aload_n 0, 1) := by decide +kernel
theorem dL_isSo_51 : decode cL_isSo 51 = .ok (.iconst 0, 1) := by decide +kernel
theorem dL_isSo_52 : decode cL_isSo 52 = .ok (.invokevirtual 59, 3) := by decide +kernel
theorem dL_isSo_55 : decode cL_isSo 55 = .ok (.lcmp, 1) := by decide +kernel
theorem dL_isSo_56 : decode cL_isSo 56 = .ok (.ifCond .gt 101, 3) := by decide +kernel
theorem dL_isSo_59 : decode cL_isSo 59 = .ok (.aload_n 0, 1) := by decide +kernel
theorem dL_isSo_60 : decode cL_isSo 60 = .ok (.iconst 5, 1) := by decide +kernel
theorem dL_isSo_61 : decode cL_isSo 61 = .ok (.invokevirtual 59, 3) := by decide +kernel
theorem dL_isSo_64 : decode cL_isSo 64 = .ok (.lconst 0, 1) := by decide +kernel
theorem dL_isSo_65 : decode cL_isSo 65 = .ok (.lcmp, 1) := by decide +kernel
theorem dL_isSo_66 : decode cL_isSo 66 = .ok (.ifCond .lt 91, 3) := by decide +kernel
theorem dL_isSo_69 : decode cL_isSo 69 = .ok (.aload_n 0, 1) := by decide +kernel
theorem dL_isSo_70 : decode cL_isSo 70 = .ok (.bipush 7, 2) := by decide +kernel
theorem dL_isSo_72 : decode cL_isSo 72 = .ok (.invokevirtual 59, 3) := by decide +kernel
theorem dL_isSo_75 : decode cL_isSo 75 = .ok (.lconst 0, 1) := by decide +kernel
theorem dL_isSo_76 : decode cL_isSo 76 = .ok (.lcmp, 1) := by decide +kernel
theorem dL_isSo_77 : decode cL_isSo 77 = .ok (.ifCond .lt 80, 3) := by decide +kernel
theorem dL_isSo_80 : decode cL_isSo 80 = .ok (.aload_n 0, 1) := by decide +kernel
theorem dL_isSo_81 : decode cL_isSo 81 = .ok (.iconst 4, 1) := by decide +kernel
theorem dL_isSo_82 : decode cL_isSo 82 = .ok (.invokevirtual 56, 3) := by decide +kernel
theorem dL_isSo_85 : decode cL_isSo 85 = .ok (.ifCond .lt 72, 3) := by decide +kernel
theorem dL_isSo_88 : decode cL_isSo 88 = .ok (.aload_n 0, 1) := by decide +kernel
theorem dL_isSo_89 : decode cL_isSo 89 = .ok (.bipush 6, 2) := by decide +kernel
theorem dL_isSo_91 : decode cL_isSo 91 = .ok (.invokevirtual 59, 3) := by decide +kernel
theorem dL_isSo_94 : decode cL_isSo 94 = .ok (.lconst 0, 1) := by decide +kernel
theorem dL_isSo_95 : decode cL_isSo 95 = .ok (.lcmp, 1) := by decide +kernel
theorem dL_isSo_96 : decode cL_isSo 96 = .ok (.ifCond .ge 7, 3) := by decide +kernel
theorem dL_isSo_99 : decode cL_isSo 99 = .ok (.iconst 1, 1) := by decide +kernel
theorem dL_isSo_100 : decode cL_isSo 100 = .ok (.goto 4, 3) := by decide +kernel
theorem dL_isSo_103 : decode cL_isSo 103 = .ok (.iconst 0, 1) := by decide +kernel
theorem dL_isSo_104 : decode cL_isSo 104 = .ok (.aload_n 0, 1) := by decide +kernel
theorem dL_isSo_105 : decode cL_isSo 105 = .ok (.iconst 5, 1) := by decide +kernel
theorem dL_isSo_106 : decode cL_isSo 106 = .ok (.invokevirtual 56, 3) := by decide +kernel
theorem dL_isSo_109 : decode cL_isSo 109 = .ok (.ifCond .ne 7, 3) := by decide +kernel
theorem dL_isSo_112 : decode cL_isSo 112 = .ok (.iconst 1, 1) := by decide +kernel
theorem dL_isSo_113 : decode cL_isSo 113 = .ok (.goto 4, 3) := by decide +kernel
theorem dL_isSo_116 : decode cL_isSo 116 = .ok (.iconst 0, 1) := by decide +kernel
theorem dL_isSo_117 : decode cL_isSo 117 = .ok (.if_icmp .ne 40, 3) := by decide +kernel
theorem dL_isSo_120 : decode cL_isSo 120 = .ok (.aload_n 0, 1) := by decide +kernel
theorem dL_isSo_121 : decode cL_isSo 121 = .ok (.iconst 1, 1) := by decide +kernel
theorem dL_isSo_122 : decode cL_isSo 122 = .ok (.iload_n 1, 1) := by decide +kernel
theorem dL_isSo_123 : decode cL_isSo 123 = .ok (.iconst 5, 1) := by decide +kernel
theorem dL_isSo_124 : decode cL_isSo 124 = .ok (.ishr, 1) := by decide +kernel
theorem dL_isSo_125 : decode cL_isSo 125 = .ok (.sipush 5000, 3) := by decide +kernel
theorem dL_isSo_128 : decode cL_isSo 128 = .ok (.invokestatic 89, 3) := by decide +kernel
theorem dL_isSo_131 : decode cL_isSo 131 = .ok (.iadd, 1) := by decide +kernel
theorem dL_isSo_132 : decode cL_isSo 132 = .ok (.invokevirtual 75, 3) := by decide +kernel
theorem dL_isSo_135 : decode cL_isSo 135 = .ok (.aload_n 0, 1) := by decide +kernel
theorem dL_isSo_136 : decode cL_isSo 136 = .ok (.iconst 1, 1) := by decide +kernel
theorem dL_isSo_137 : decode cL_isSo 137 = .ok (.iload_n 1, 1) := by decide +kernel
theorem dL_isSo_138 : decode cL_isSo 138 = .ok (.iconst 5, 1) := by decide +kernel
theorem dL_isSo_139 : decode cL_isSo 139 = .ok (.ishr, 1) := by decide +kernel
theorem dL_isSo_140 : decode cL_isSo 140 = .ok (.sipush 5000, 3) := by decide +kernel
theorem dL_isSo_143 : decode cL_isSo 143 = .ok (.invokestatic 89, 3) := by decide +kernel
theorem dL_isSo_146 : decode cL_isSo 146 = .ok (.iadd, 1) := by decide +kernel
theorem dL_isSo_147 : decode cL_isSo 147 = .ok (.invokevirtual 78, 3) := by decide +kernel
theorem dL_isSo_150 : decode cL_isSo 150 = .ok (.if_icmp .ne 7, 3) := by decide +kernel
theorem dL_isSo_153 : decode cL_isSo 153 = .ok (.iconst 1, 1) := by decide +kernel
theorem dL_isSo_154 : decode cL_isSo 154 = .ok (.goto 4, 3) := by decide +kernel
theorem dL_isSo_157 : decode cL_isSo 157 = .ok (.iconst 0, 1) := by decide +kernel
theorem dL_isSo_158 : decode cL_isSo 158 = .ok (.istore 6, 2) := by decide +kernel
theorem dL_isSo_160 : decode cL_isSo 160 = .ok (.iload 6, 2) := by decide +kernel
theorem dL_isSo_162 : decode cL_isSo 162 = .ok (.ifCond .eq 113, 3) := by decide +kernel
theorem dL_isSo_165 : decode cL_isSo 165 = .ok (.aload_n 0, 1) := by decide +kernel
theorem dL_isSo_166 : decode cL_isSo 166 = .ok (.invokevirtual 131, 3) := by decide +kernel
theorem dL_isSo_169 : decode cL_isSo 169 = .ok (.iconst 1, 1) := by decide +kernel
theorem dL_isSo_170 : decode cL_isSo 170 = .ok (.iand, 1) := by decide +kernel
theorem dL_isSo_171 : decode cL_isSo 171 = .ok (.aload_n 0, 1) := by decide +kernel
theorem dL_isSo_172 : decode cL_isSo 172 = .ok (.bipush 6, 2) := by decide +kernel
theorem dL_isSo_174 : decode cL_isSo 174 = .ok (.invokevirtual 59, 3) := by decide +kernel
theorem dL_isSo_177 : decode cL_isSo 177 = .ok (.lconst 0, 1) := by decide +kernel
theorem dL_isSo_178 : decode cL_isSo 178 = .ok (.lcmp, 1) := by decide +kernel
theorem dL_isSo_179 : decode cL_isSo 179 = .ok (.ifCond .ge 31, 3) := by decide +kernel
theorem dL_isSo_182 : decode cL_isSo 182 = .ok (.aload_n 0, 1) := by decide +kernel
theorem dL_isSo_183 : decode cL_isSo 183 = .ok (.bipush 7, 2) := by decide +kernel
theorem dL_isSo_185 : decode cL_isSo 185 = .ok (.invokevirtual 59, 3) := by decide +kernel
theorem dL_isSo_188 : decode cL_isSo 188 = .ok (.lconst 0, 1) := by decide +kernel
theorem dL_isSo_189 : decode cL_isSo 189 = .ok (.lcmp, 1) := by decide +kernel
theorem dL_isSo_190 : decode cL_isSo 190 = .ok (.ifCond .ne 20, 3) := by decide +kernel
theorem dL_isSo_193 : decode cL_isSo 193 = .ok (.aload_n 0, 1) := by decide +kernel
theorem dL_isSo_194 : decode cL_isSo 194 = .ok (.iconst 0, 1) := by decide +kernel
theorem dL_isSo_195 : decode cL_isSo 195 = .ok (.invokevirtual 56, 3) := by decide +kernel
theorem dL_isSo_198 : decode cL_isSo 198 = .ok (.aload_n 0, 1) := by decide +kernel
theorem dL_isSo_199 : decode cL_isSo 199 = .ok (.iconst 1, 1) := by decide +kernel
theorem dL_isSo_200 : decode cL_isSo 200 = .ok (.invokevirtual 56, 3) := by decide +kernel
theorem dL_isSo_203 : decode cL_isSo 203 = .ok (.if_icmp .lt 7, 3) := by decide +kernel
theorem dL_isSo_206 : decode cL_isSo 206 = .ok (.iconst 1, 1) := by decide +kernel
theorem dL_isSo_207 : decode cL_isSo 207 = .ok (.goto 4, 3) := by decide +kernel
theorem dL_isSo_210 : decode cL_isSo 210 = .ok (.iconst 0, 1) := by decide +kernel
theorem dL_isSo_211 : decode cL_isSo 211 = .ok (.if_icmp .ne 64, 3) := by decide +kernel
theorem dL_isSo_214 : decode cL_isSo 214 = .ok (.aload_n 0, 1) := by decide +kernel
theorem dL_isSo_215 : decode cL_isSo 215 = .ok (.iconst 3, 1) := by decide +kernel
theorem dL_isSo_216 : decode cL_isSo 216 = .ok (.invokevirtual 59, 3) := by decide +kernel
theorem dL_isSo_219 : decode cL_isSo 219 = .ok (.lconst 1, 1) := by decide +kernel
theorem dL_isSo_220 : decode cL_isSo 220 = .ok (.lcmp, 1) := by decide +kernel
theorem dL_isSo_221 : decode cL_isSo 221 = .ok (.ifCond .eq 11, 3) := by decide +kernel
theorem dL_isSo_224 : decode cL_isSo 224 = .ok (.aload_n 0, 1) := by decide +kernel
theorem dL_isSo_225 : decode cL_isSo 225 = .ok (.iconst 4, 1) := by decide +kernel
theorem dL_isSo_226 : decode cL_isSo 226 = .ok (.invokevirtual 56, 3) := by decide +kernel
theorem dL_isSo_229 : decode cL_isSo 229 = .ok (.ifCond .ne 46, 3) := by decide +kernel
theorem dL_isSo_232 : decode cL_isSo 232 = .ok (.aload_n 0, 1) := by decide +kernel
theorem dL_isSo_233 : decode cL_isSo 233 = .ok (.invokevirtual 116, 3) := by decide +kernel
theorem dL_isSo_236 : decode cL_isSo 236 = .ok (.iconst 2, 1) := by decide +kernel
theorem dL_isSo_237 : decode cL_isSo 237 = .ok (.if_icmp .ne 16, 3) := by decide +kernel
theorem dL_isSo_240 : decode cL_isSo 240 = .ok (.aload_n 0, 1) := by decide +kernel
theorem dL_isSo_241 : decode cL_isSo 241 = .ok (.iconst 3, 1) := by decide +kernel
theorem dL_isSo_242 : decode cL_isSo 242 = .ok (.invokevirtual 59, 3) := by decide +kernel
theorem dL_isSo_245 : decode cL_isSo 245 = .ok (.lconst 1, 1) := by decide +kernel
theorem dL_isSo_246 : decode cL_isSo 246 = .ok (.lcmp, 1) := by decide +kernel
theorem dL_isSo_247 : decode cL_isSo 247 = .ok (.ifCond .ne 28, 3) := by decide +kernel
theorem dL_isSo_250 : decode cL_isSo 250 = .ok (.goto 21, 3) := by decide +kernel
theorem dL_isSo_253 : decode cL_isSo 253 = .ok (.aload_n 0, 1) := by decide +kernel
theorem dL_isSo_254 : decode cL_isSo 254 = .ok (.invokevirtual 116, 3) := by decide +kernel
theorem dL_isSo_257 : decode cL_isSo 257 = .ok (.iconst 2, 1) := by decide +kernel
theorem dL_isSo_258 : decode cL_isSo 258 = .ok (.if_icmp .lt 13, 3) := by decide +kernel
theorem dL_isSo_261 : decode cL_isSo 261 = .ok (.aload_n 0, 1) := by decide +kernel
theorem dL_isSo_262 : decode cL_isSo 262 = .ok (.iconst 3, 1) := by decide +kernel
theorem dL_isSo_263 : decode cL_isSo 263 = .ok (.invokevirtual 59, 3) := by decide +kernel
theorem dL_isSo_266 : decode cL_isSo 266 = .ok (.lconst 0, 1) := by decide +kernel
theorem dL_isSo_267 : decode cL_isSo 267 = .ok (.lcmp, 1) := by decide +kernel
theorem dL_isSo_268 : decode cL_isSo 268 = .ok (.ifCond .ne 7, 3) := by decide +kernel
theorem dL_isSo_271 : decode cL_isSo 271 = .ok (.iconst 1, 1) := by decide +kernel
theorem dL_isSo_272 : decode cL_isSo 272 = .ok (.goto 4, 3) := by decide +kernel
theorem dL_isSo_275 : decode cL_isSo 275 = .ok (.iconst 0, 1) := by decide +kernel
theorem dL_isSo_276 : decode cL_isSo 276 = .ok (.istore 6, 2) := by decide +kernel
theorem dL_isSo_278 : decode cL_isSo 278 = .ok (.aload_n 0, 1) := by decide +kernel
theorem dL_isSo_279 : decode cL_isSo 279 = .ok (.iconst 0, 1) := by decide +kernel
theorem dL_isSo_280 : decode cL_isSo 280 = .ok (.invokevirtual 59, 3) := by decide +kernel
theorem dL_isSo_283 : decode cL_isSo 283 = .ok (.lconst 0, 1) := by decide +kernel
theorem dL_isSo_284 : decode cL_isSo 284 = .ok (.lcmp, 1) := by decide +kernel
theorem dL_isSo_285 : decode cL_isSo 285 = .ok (.ifCond .le 75, 3) := by decide +kernel
theorem dL_isSo_288 : decode cL_isSo 288 = .ok (.aload_n 0, 1) := by decide +kernel
theorem dL_isSo_289 : decode cL_isSo 289 = .ok (.invokevirtual 68, 3) := by decide +kernel
theorem dL_isSo_292 : decode cL_isSo 292 = .ok (.istore 7, 2) := by decide +kernel
theorem dL_isSo_294 : decode cL_isSo 294 = .ok (.aload_n 0, 1) := by decide +kernel
theorem dL_isSo_295 : decode cL_isSo 295 = .ok (.iconst 0, 1) := by decide +kernel
theorem dL_isSo_296 : decode cL_isSo 296 = .ok (.invokevirtual 59, 3) := by decide +kernel
theorem dL_isSo_299 : decode cL_isSo 299 = .ok (.lstore 8, 2) := by decide +kernel
theorem dL_isSo_301 : decode cL_isSo 301 = .ok (.iload 6, 2) := by decide +kernel
theorem dL_isSo_303 : decode cL_isSo 303 = .ok (.ifCond .eq 54, 3) := by decide +kernel
theorem dL_isSo_306 : decode cL_isSo 306 = .ok (.iload 7, 2) := by decide +kernel
theorem dL_isSo_308 : decode cL_isSo 308 = .ok (.i2l, 1) := by decide +kernel
theorem dL_isSo_309 : decode cL_isSo 309 = .ok (.lload 8, 2) := by decide +kernel
theorem dL_isSo_311 : decode cL_isSo 311 = .ok (.lmul, 1) := by decide +kernel
theorem dL_isSo_312 : decode cL_isSo 312 = .ok (.ldc2_w 149, 3) := by decide +kernel
theorem dL_isSo_315 : decode cL_isSo 315 = .ok (.ldiv, 1) := by decide +kernel
theorem dL_isSo_316 : decode cL_isSo 316 = .ok (.aload_n 0, 1) := by decide +kernel
theorem dL_isSo_317 : decode cL_isSo 317 = .ok (.iconst 1, 1) := by decide +kernel
theorem dL_isSo_318 : decode cL_isSo 318 = .ok (.invokevirtual 56, 3) := by decide +kernel
theorem dL_isSo_321 : decode cL_isSo 321 = .ok (.i2l, 1) := by decide +kernel
theorem dL_isSo_322 : decode cL_isSo 322 = .ok (.lcmp, 1) := by decide +kernel
theorem dL_isSo_323 : decode cL_isSo 323 = .ok (.ifCond .lt 34, 3) := by decide +kernel
theorem dL_isSo_326 : decode cL_isSo 326 = .ok (.iload 7, 2) := by decide +kernel
theorem dL_isSo_328 : decode cL_isSo 328 = .ok (.ifCond .eq 25, 3) := by decide +kernel
theorem dL_isSo_331 : decode cL_isSo 331 = .ok (.iload 7, 2) := by decide +kernel
theorem dL_isSo_333 : decode cL_isSo 333 = .ok (.iconst 1, 1) := by decide +kernel
theorem dL_isSo_334 : decode cL_isSo 334 = .ok (.isub, 1) := by decide +kernel
theorem dL_isSo_335 : decode cL_isSo 335 = .ok (.i2l, 1) := by decide +kernel
theorem dL_isSo_336 : decode cL_isSo 336 = .ok (.lload 8, 2) := by decide +kernel
theorem dL_isSo_338 : decode cL_isSo 338 = .ok (.lmul, 1) := by decide +kernel
theorem dL_isSo_339 : decode cL_isSo 339 = .ok (.ldc2_w 149, 3) := by decide +kernel
theorem dL_isSo_342 : decode cL_isSo 342 = .ok (.ldiv, 1) := by decide +kernel
theorem dL_isSo_343 : decode cL_isSo 343 = .ok (.aload_n 0, 1) := by decide +kernel
theorem dL_isSo_344 : decode cL_isSo 344 = .ok (.iconst 1, 1) := by decide +kernel
theorem dL_isSo_345 : decode cL_isSo 345 = .ok (.invokevirtual 56, 3) := by decide +kernel
theorem dL_isSo_348 : decode cL_isSo 348 = .ok (.i2l, 1) := by decide +kernel
theorem dL_isSo_349 : decode cL_isSo 349 = .ok (.lcmp, 1) := by decide +kernel
theorem dL_isSo_350 : decode cL_isSo 350 = .ok (.ifCond .ge 7, 3) := by decide +kernel
theorem dL_isSo_353 : decode cL_isSo 353 = .ok (.iconst 1, 1) := by decide +kernel
theorem dL_isSo_354 : decode cL_isSo 354 = .ok (.goto 4, 3) := by decide +kernel
theorem dL_isSo_357 : decode cL_isSo 357 = .ok (.iconst 0, 1) := by decide +kernel
theorem dL_isSo_358 : decode cL_isSo 358 = .ok (.istore 6, 2) := by decide +kernel
theorem dL_isSo_360 : decode cL_isSo 360 = .ok (.iload 6, 2) := by decide +kernel
theorem dL_isSo_362 : decode cL_isSo 362 = .ok (.ifCond .eq 70, 3) := by decide +kernel
theorem dL_isSo_365 : decode cL_isSo 365 = .ok (.aload_n 0, 1) := by decide +kernel
theorem dL_isSo_366 : decode cL_isSo 366 = .ok (.iconst 4, 1) := by decide +kernel
theorem dL_isSo_367 : decode cL_isSo 367 = .ok (.invokevirtual 59, 3) := by decide +kernel
theorem dL_isSo_370 : decode cL_isSo 370 = .ok (.lload_n 3, 1) := by decide +kernel
theorem dL_isSo_371 : decode cL_isSo 371 = .ok (.lcmp, 1) := by decide +kernel
theorem dL_isSo_372 : decode cL_isSo 372 = .ok (.ifCond .ne 60, 3) := by decide +kernel
theorem dL_isSo_375 : decode cL_isSo 375 = .ok (.lload_n 3, 1) := by decide +kernel
theorem dL_isSo_376 : decode cL_isSo 376 = .ok (.iload_n 2, 1) := by decide +kernel
theorem dL_isSo_377 : decode cL_isSo 377 = .ok (.i2l, 1) := by decide +kernel
theorem dL_isSo_378 : decode cL_isSo 378 = .ok (.ladd, 1) := by decide +kernel
theorem dL_isSo_379 : decode cL_isSo 379 = .ok (.ldc2_w 151, 3) := by decide +kernel
theorem dL_isSo_382 : decode cL_isSo 382 = .ok (.lcmp, 1) := by decide +kernel
theorem dL_isSo_383 : decode cL_isSo 383 = .ok (.ifCond .gt 45, 3) := by decide +kernel
theorem dL_isSo_386 : decode cL_isSo 386 = .ok (.aload_n 0, 1) := by decide +kernel
theorem dL_isSo_387 : decode cL_isSo 387 = .ok (.iload_n 2, 1) := by decide +kernel
theorem dL_isSo_388 : decode cL_isSo 388 = .ok (.invokevirtual 28, 3) := by decide +kernel
theorem dL_isSo_391 : decode cL_isSo 391 = .ok (.iload 5, 2) := by decide +kernel
theorem dL_isSo_393 : decode cL_isSo 393 = .ok (.if_icmp .ne 39, 3) := by decide +kernel
theorem dL_isSo_396 : decode cL_isSo 396 = .ok (.aload_n 0, 1) := by decide +kernel
theorem dL_isSo_397 : decode cL_isSo 397 = .ok (.iconst 4, 1) := by decide +kernel
theorem dL_isSo_398 : decode cL_isSo 398 = .ok (.invokevirtual 59, 3) := by decide +kernel
theorem dL_isSo_401 : decode cL_isSo 401 = .ok (.lload_n 3, 1) := by decide +kernel
theorem dL_isSo_402 : decode cL_isSo 402 = .ok (.iload_n 2, 1) := by decide +kernel
theorem dL_isSo_403 : decode cL_isSo 403 = .ok (.i2l, 1) := by decide +kernel
theorem dL_isSo_404 : decode cL_isSo 404 = .ok (.ladd, 1) := by decide +kernel
theorem dL_isSo_405 : decode cL_isSo 405 = .ok (.lcmp, 1) := by decide +kernel
theorem dL_isSo_406 : decode cL_isSo 406 = .ok (.ifCond .ne 26, 3) := by decide +kernel
theorem dL_isSo_409 : decode cL_isSo 409 = .ok (.aload_n 0, 1) := by decide +kernel
theorem dL_isSo_410 : decode cL_isSo 410 = .ok (.iconst 5, 1) := by decide +kernel
theorem dL_isSo_411 : decode cL_isSo 411 = .ok (.invokevirtual 59, 3) := by decide +kernel
theorem dL_isSo_414 : decode cL_isSo 414 = .ok (.aload_n 0, 1) := by decide +kernel
theorem dL_isSo_415 : decode cL_isSo 415 = .ok (.bipush 7, 2) := by decide +kernel
theorem dL_isSo_417 : decode cL_isSo 417 = .ok (.invokevirtual 59, 3) := by decide +kernel
theorem dL_isSo_420 : decode cL_isSo 420 = .ok (.ladd, 1) := by decide +kernel
theorem dL_isSo_421 : decode cL_isSo 421 = .ok (.iload 5, 2) := by decide +kernel
theorem dL_isSo_423 : decode cL_isSo 423 = .ok (.i2l, 1) := by decide +kernel
theorem dL_isSo_424 : decode cL_isSo 424 = .ok (.lcmp, 1) := by decide +kernel
theorem dL_isSo_425 : decode cL_isSo 425 = .ok (.ifCond .ne 7, 3) := by decide +kernel
theorem dL_isSo_428 : decode cL_isSo 428 = .ok (.iconst 1, 1) := by decide +kernel
theorem dL_isSo_429 : decode cL_isSo 429 = .ok (.goto 4, 3) := by decide +kernel
theorem dL_isSo_432 : decode cL_isSo 432 = .ok (.iconst 0, 1) := by decide +kernel
theorem dL_isSo_433 : decode cL_isSo 433 = .ok (.ireturn, 1) := by decide +kernel
theorem dL_law_0 : decode cL_law 0 = .ok (.new 9, 3) := by decide +kernel
theorem dL_law_3 : decode cL_law 3 = .ok (.dup, 1) := by decide +kernel
theorem dL_law_4 : decode cL_law 4 = .ok (.invokespecial 153, 3) := by decide +kernel
theorem dL_law_7 : decode cL_law 7 = .ok (.astore_n 1, 1) := by decide +kernel
theorem dL_law_8 : decode cL_law 8 = .ok (.new 9, 3) := by decide +kernel
theorem dL_law_11 : decode cL_law 11 = .ok (.dup, 1) := by decide +kernel
theorem dL_law_12 : decode cL_law 12 = .ok (.invokespecial 153, 3) := by decide +kernel
theorem dL_law_15 : decode cL_law 15 = .ok (.astore_n 2, 1) := by decide +kernel
theorem dL_law_16 : decode cL_law 16 = .ok (.aload_n 1, 1) := by decide +kernel
theorem dL_law_17 : decode cL_law 17 = .ok (.iconst 0, 1) := by decide +kernel
theorem dL_law_18 : decode cL_law 18 = .ok (.sipush 5000, 3) := by decide +kernel
theorem dL_law_21 : decode cL_law 21 = .ok (.invokevirtual 48, 3) := by decide +kernel
theorem dL_law_24 : decode cL_law 24 = .ok (.ifCond .eq 18, 3) := by decide +kernel
theorem dL_law_27 : decode cL_law 27 = .ok (.aload_n 2, 1) := by decide +kernel
theorem dL_law_28 : decode cL_law 28 = .ok (.iconst 0, 1) := by decide +kernel
theorem dL_law_29 : decode cL_law 29 = .ok (.sipush 5000, 3) := by decide +kernel
theorem dL_law_32 : decode cL_law 32 = .ok (.invokevirtual 48, 3) := by decide +kernel
theorem dL_law_35 : decode cL_law 35 = .ok (.ifCond .eq 7, 3) := by decide +kernel
theorem dL_law_38 : decode cL_law 38 = .ok (.iconst 1, 1) := by decide +kernel
theorem dL_law_39 : decode cL_law 39 = .ok (.goto 4, 3) := by decide +kernel
theorem dL_law_42 : decode cL_law 42 = .ok (.iconst 0, 1) := by decide +kernel
theorem dL_law_43 : decode cL_law 43 = .ok (.istore_n 3, 1) := by decide +kernel
theorem dL_law_44 : decode cL_law 44 = .ok (.iconst 0, 1) := by decide +kernel
theorem dL_law_45 : decode cL_law 45 = .ok (.istore 4, 2) := by decide +kernel
theorem dL_law_47 : decode cL_law 47 = .ok (.iload 4, 2) := by decide +kernel
theorem dL_law_49 : decode cL_law 49 = .ok (.bipush 100, 2) := by decide +kernel
theorem dL_law_51 : decode cL_law 51 = .ok (.if_icmp .ge 71, 3) := by decide +kernel
theorem dL_law_54 : decode cL_law 54 = .ok (.iload_n 3, 1) := by decide +kernel
theorem dL_law_55 : decode cL_law 55 = .ok (.ifCond .eq 67, 3) := by decide +kernel
theorem dL_law_58 : decode cL_law 58 = .ok (.aload_n 0, 1) := by decide +kernel
theorem dL_law_59 : decode cL_law 59 = .ok (.iload 4, 2) := by decide +kernel
theorem dL_law_61 : decode cL_law 61 = .ok (.invokestatic 154, 3) := by decide +kernel
theorem dL_law_64 : decode cL_law 64 = .ok (.istore 5, 2) := by decide +kernel
theorem dL_law_66 : decode cL_law 66 = .ok (.aload_n 1, 1) := by decide +kernel
theorem dL_law_67 : decode cL_law 67 = .ok (.iload 5, 2) := by decide +kernel
theorem dL_law_69 : decode cL_law 69 = .ok (.invokestatic 158, 3) := by decide +kernel
theorem dL_law_72 : decode cL_law 72 = .ok (.istore 6, 2) := by decide +kernel
theorem dL_law_74 : decode cL_law 74 = .ok (.iload 6, 2) := by decide +kernel
theorem dL_law_76 : decode cL_law 76 = .ok (.ldc 16, 2) := by decide +kernel
theorem dL_law_78 : decode cL_law 78 = .ok (.if_icmp .eq 14, 3) := by decide +kernel
theorem dL_law_81 : decode cL_law 81 = .ok (.aload_n 2, 1) := by decide +kernel
theorem dL_law_82 : decode cL_law 82 = .ok (.iload 5, 2) := by decide +kernel
theorem dL_law_84 : decode cL_law 84 = .ok (.invokestatic 158, 3) := by decide +kernel
theorem dL_law_87 : decode cL_law 87 = .ok (.iload 6, 2) := by decide +kernel
theorem dL_law_89 : decode cL_law 89 = .ok (.if_icmp .ne 25, 3) := by decide +kernel
theorem dL_law_92 : decode cL_law 92 = .ok (.iload 4, 2) := by decide +kernel
theorem dL_law_94 : decode cL_law 94 = .ok (.bipush 33, 2) := by decide +kernel
theorem dL_law_96 : decode cL_law 96 = .ok (.irem, 1) := by decide +kernel
theorem dL_law_97 : decode cL_law 97 = .ok (.bipush 32, 2) := by decide +kernel
theorem dL_law_99 : decode cL_law 99 = .ok (.if_icmp .ne 17, 3) := by decide +kernel
theorem dL_law_102 : decode cL_law 102 = .ok (.aload_n 1, 1) := by decide +kernel
theorem dL_law_103 : decode cL_law 103 = .ok (.aload_n 2, 1) := by decide +kernel
theorem dL_law_104 : decode cL_law 104 = .ok (.iload 5, 2) := by decide +kernel
theorem dL_law_106 : decode cL_law 106 = .ok (.iconst 3, 1) := by decide +kernel
theorem dL_law_107 : decode cL_law 107 = .ok (.ishr, 1) := by decide +kernel
theorem dL_law_108 : decode cL_law 108 = .ok (.invokestatic 161, 3) := by decide +kernel
theorem dL_law_111 : decode cL_law 111 = .ok (.ifCond .ne 5, 3) := by decide +kernel
theorem dL_law_114 : decode cL_law 114 = .ok (.iconst 0, 1) := by decide +kernel
theorem dL_law_115 : decode cL_law 115 = .ok (.ireturn, 1) := by decide +kernel
theorem dL_law_116 : decode cL_law 116 = .ok (.iinc 4 1, 3) := by decide +kernel
theorem dL_law_119 : decode cL_law 119 = .ok (.goto (-72), 3) := by decide +kernel
theorem dL_law_122 : decode cL_law 122 = .ok (.iload_n 3, 1) := by decide +kernel
theorem dL_law_123 : decode cL_law 123 = .ok (.ifCond .eq 20, 3) := by decide +kernel
theorem dL_law_126 : decode cL_law 126 = .ok (.aload_n 1, 1) := by decide +kernel
theorem dL_law_127 : decode cL_law 127 = .ok (.aload_n 0, 1) := by decide +kernel
theorem dL_law_128 : decode cL_law 128 = .ok (.bipush 100, 2) := by decide +kernel
theorem dL_law_130 : decode cL_law 130 = .ok (.invokestatic 154, 3) := by decide +kernel
theorem dL_law_133 : decode cL_law 133 = .ok (.invokestatic 165, 3) := by decide +kernel
theorem dL_law_136 : decode cL_law 136 = .ok (.ifCond .eq 7, 3) := by decide +kernel
theorem dL_law_139 : decode cL_law 139 = .ok (.iconst 1, 1) := by decide +kernel
theorem dL_law_140 : decode cL_law 140 = .ok (.goto 4, 3) := by decide +kernel
theorem dL_law_143 : decode cL_law 143 = .ok (.iconst 0, 1) := by decide +kernel
theorem dL_law_144 : decode cL_law 144 = .ok (.ireturn, 1) := by decide +kernel
end
section
/-! The good words of the tables: one list for every method of this claim; the fields' words; the nest words. -/
def ALL : List Cond := lw_tbl.filter goodWord
theorem ALL_i {w : Cond} (h : w ∈ lw_tbl) (g : goodWord w = true) : w ∈ ALL := List.mem_filter.mpr ⟨h, g⟩
theorem ALL_w {w : Cond} (h : w ∈ ALL) : goodWord w = true := (List.mem_filter.mp h).2
theorem ALL_t {w : Cond} (h : w ∈ ALL) : w ∈ lw_tbl := (List.mem_filter.mp h).1
theorem inlX0 : ∀ w ∈ wsX00, w ∈ ALL := fun w h => ALL_i ((goodIn_r (big := lw_tbl) wsX00 [69, 71, 73, 75, 77] (by decide +kernel) (by decide +kernel)) w h).1 (List.all_eq_true.mp (by decide +kernel : List.all wsX00 goodWord = true) w h)
theorem inlX1 : ∀ w ∈ wsX10, w ∈ ALL := fun w h => ALL_i ((goodIn_r (big := lw_tbl) wsX10 [166, 168, 170, 172, 174, 176, 178] (by decide +kernel) (by decide +kernel)) w h).1 (List.all_eq_true.mp (by decide +kernel : List.all wsX10 goodWord = true) w h)
theorem inlX2 : ∀ w ∈ wsX20, w ∈ ALL := fun w h => ALL_i ((goodIn_r (big := lw_tbl) wsX20 [115, 117, 119, 121, 123, 125, 127, 129, 131, 133, 135, 137, 139, 141, 143] (by decide +kernel) (by decide +kernel)) w h).1 (List.all_eq_true.mp (by decide +kernel : List.all wsX20 goodWord = true) w h)
theorem inlX3 : ∀ w ∈ wsX30, w ∈ ALL := fun w h => ALL_i ((goodIn_r (big := lw_tbl) wsX30 [189, 191, 193, 195, 197, 199, 201, 203] (by decide +kernel) (by decide +kernel)) w h).1 (List.all_eq_true.mp (by decide +kernel : List.all wsX30 goodWord = true) w h)
def NW : List Cond := [Cond.methodLinkNest RX3 9 yX0_init "Kickroom", Cond.methodLinkNest RX3 18 yX2_init "Kickroom", Cond.fieldLinkNest RX3 55 "Kickroom$Well" "depth" "I" "Kickroom", Cond.fieldLinkNest RX3 123 "Kickroom$Well" "shoe" "I" "Kickroom", Cond.fieldLinkNest RX3 75 "Kickroom$Well" "weight" "I" "Kickroom", Cond.fieldLinkNest RX3 69 "Kickroom$Well" "isClosed" "Z" "Kickroom", Cond.fieldLinkNest RX3 107 "Kickroom$Well" "choke" "I" "Kickroom", Cond.fieldLinkNest RX3 141 "Kickroom$Well" "valveStrength" "I" "Kickroom", Cond.fieldLinkNest RX3 158 "Kickroom$Well" "hasBrokenSinceTest" "Z" "Kickroom", Cond.fieldLinkNest RX3 194 "Kickroom$Well" "place" "I" "Kickroom", Cond.fieldLinkNest RX3 191 "Kickroom$Well" "gas" "I" "Kickroom", Cond.fieldLinkNest RX3 118 "Kickroom$Well" "liquid" "I" "Kickroom", Cond.fieldLinkNest RX3 199 "Kickroom$Well" "vented" "J" "Kickroom", Cond.fieldLinkNest RX3 203 "Kickroom$Well" "lost" "I" "Kickroom", Cond.fieldLinkNest RX3 151 "Kickroom$Well" "minutes" "I" "Kickroom", Cond.methodLinkNest RX3 30 yX1_init "Kickroom", Cond.fieldLinkNest RX3 220 "Kickroom$Tests" "whats" "[I" "Kickroom", Cond.fieldLinkNest RX3 228 "Kickroom$Tests" "pressures" "[I" "Kickroom", Cond.fieldLinkNest RX3 231 "Kickroom$Tests" "passes" "[I" "Kickroom", Cond.fieldLinkNest RX3 234 "Kickroom$Tests" "minutes" "[I" "Kickroom", Cond.fieldLinkNest RX3 146 "Kickroom$Tests" "count" "I" "Kickroom", Cond.fieldLinkNest RX3 264 "Kickroom$Tests" "latestOfValve" "I" "Kickroom", Cond.fieldLinkNest RX3 135 "Kickroom$Tests" "latestOfCement" "I" "Kickroom", Cond.methodLinkNest RX3 154 yX1_keep "Kickroom", Cond.methodLinkNest RX1 34 yX3_write "Kickroom", Cond.methodLinkNest RX3 63 yX0_tellLayer "Kickroom", Cond.methodLinkNest RX0 33 yX3_write "Kickroom", Cond.methodLinkNest RX3 126 yX2_hasInflow "Kickroom", Cond.methodLinkNest RX3 171 yX2_bottom "Kickroom", Cond.methodLinkNest RX3 174 yX0_poreAt "Kickroom", Cond.methodLinkNest RX0 41 yX3_read "Kickroom", Cond.methodLinkNest RX3 267 yX1_isPassed "Kickroom", Cond.methodLinkNest RX1 38 yX3_read "Kickroom", Cond.methodLinkNest RX3 93 yX2_letMinuteGo "Kickroom", Cond.methodLinkNest RX2 102 yX0_poreAt "Kickroom", Cond.methodLinkNest RX2 111 yX0_rateAt "Kickroom", Cond.methodLinkNest RX2 116 yX0_bearsGasAt "Kickroom", Cond.methodLinkNest RX2 123 yX0_breakAt "Kickroom", Cond.methodLinkNest RX3 101 yX2_letMinutesGo "Kickroom", Cond.methodLinkNest RX3 177 yX2_foot "Kickroom", Cond.methodLinkNest RX3 180 yX0_breakAt "Kickroom", Cond.methodLinkNest RX3 183 yX2_hasGas "Kickroom", Cond.methodLinkNest RX3 186 yX2_gasPressure "Kickroom", Cond.methodLinkNest RX3 240 yX0_layerOf "Kickroom", Cond.methodLinkNest RX3 243 yX0_leastBreak "Kickroom", Cond.methodLinkNest RX3 247 yX0_greatestPore "Kickroom", Cond.methodLinkNest RX3 252 yX0_piecesFromAbove "Kickroom", Cond.methodLinkNest RX3 255 yX0_piecesFromAll "Kickroom", Cond.methodLinkNest RX3 260 yX2_become "Kickroom"]
theorem nw_0 : Cond.methodLinkNest RX3 9 yX0_init "Kickroom" ∈ NW := List.mem_of_getElem? (i := 0) (by decide +kernel)
theorem nw_1 : Cond.methodLinkNest RX3 18 yX2_init "Kickroom" ∈ NW := List.mem_of_getElem? (i := 1) (by decide +kernel)
theorem nw_2 : Cond.fieldLinkNest RX3 55 "Kickroom$Well" "depth" "I" "Kickroom" ∈ NW := List.mem_of_getElem? (i := 2) (by decide +kernel)
theorem nw_3 : Cond.fieldLinkNest RX3 123 "Kickroom$Well" "shoe" "I" "Kickroom" ∈ NW := List.mem_of_getElem? (i := 3) (by decide +kernel)
theorem nw_4 : Cond.fieldLinkNest RX3 75 "Kickroom$Well" "weight" "I" "Kickroom" ∈ NW := List.mem_of_getElem? (i := 4) (by decide +kernel)
theorem nw_5 : Cond.fieldLinkNest RX3 69 "Kickroom$Well" "isClosed" "Z" "Kickroom" ∈ NW := List.mem_of_getElem? (i := 5) (by decide +kernel)
theorem nw_6 : Cond.fieldLinkNest RX3 107 "Kickroom$Well" "choke" "I" "Kickroom" ∈ NW := List.mem_of_getElem? (i := 6) (by decide +kernel)
theorem nw_7 : Cond.fieldLinkNest RX3 141 "Kickroom$Well" "valveStrength" "I" "Kickroom" ∈ NW := List.mem_of_getElem? (i := 7) (by decide +kernel)
theorem nw_8 : Cond.fieldLinkNest RX3 158 "Kickroom$Well" "hasBrokenSinceTest" "Z" "Kickroom" ∈ NW := List.mem_of_getElem? (i := 8) (by decide +kernel)
theorem nw_9 : Cond.fieldLinkNest RX3 194 "Kickroom$Well" "place" "I" "Kickroom" ∈ NW := List.mem_of_getElem? (i := 9) (by decide +kernel)
theorem nw_10 : Cond.fieldLinkNest RX3 191 "Kickroom$Well" "gas" "I" "Kickroom" ∈ NW := List.mem_of_getElem? (i := 10) (by decide +kernel)
theorem nw_11 : Cond.fieldLinkNest RX3 118 "Kickroom$Well" "liquid" "I" "Kickroom" ∈ NW := List.mem_of_getElem? (i := 11) (by decide +kernel)
theorem nw_12 : Cond.fieldLinkNest RX3 199 "Kickroom$Well" "vented" "J" "Kickroom" ∈ NW := List.mem_of_getElem? (i := 12) (by decide +kernel)
theorem nw_13 : Cond.fieldLinkNest RX3 203 "Kickroom$Well" "lost" "I" "Kickroom" ∈ NW := List.mem_of_getElem? (i := 13) (by decide +kernel)
theorem nw_14 : Cond.fieldLinkNest RX3 151 "Kickroom$Well" "minutes" "I" "Kickroom" ∈ NW := List.mem_of_getElem? (i := 14) (by decide +kernel)
theorem nw_15 : Cond.methodLinkNest RX3 30 yX1_init "Kickroom" ∈ NW := List.mem_of_getElem? (i := 15) (by decide +kernel)
theorem nw_16 : Cond.fieldLinkNest RX3 220 "Kickroom$Tests" "whats" "[I" "Kickroom" ∈ NW := List.mem_of_getElem? (i := 16) (by decide +kernel)
theorem nw_17 : Cond.fieldLinkNest RX3 228 "Kickroom$Tests" "pressures" "[I" "Kickroom" ∈ NW := List.mem_of_getElem? (i := 17) (by decide +kernel)
theorem nw_18 : Cond.fieldLinkNest RX3 231 "Kickroom$Tests" "passes" "[I" "Kickroom" ∈ NW := List.mem_of_getElem? (i := 18) (by decide +kernel)
theorem nw_19 : Cond.fieldLinkNest RX3 234 "Kickroom$Tests" "minutes" "[I" "Kickroom" ∈ NW := List.mem_of_getElem? (i := 19) (by decide +kernel)
theorem nw_20 : Cond.fieldLinkNest RX3 146 "Kickroom$Tests" "count" "I" "Kickroom" ∈ NW := List.mem_of_getElem? (i := 20) (by decide +kernel)
theorem nw_21 : Cond.fieldLinkNest RX3 264 "Kickroom$Tests" "latestOfValve" "I" "Kickroom" ∈ NW := List.mem_of_getElem? (i := 21) (by decide +kernel)
theorem nw_22 : Cond.fieldLinkNest RX3 135 "Kickroom$Tests" "latestOfCement" "I" "Kickroom" ∈ NW := List.mem_of_getElem? (i := 22) (by decide +kernel)
theorem nw_23 : Cond.methodLinkNest RX3 154 yX1_keep "Kickroom" ∈ NW := List.mem_of_getElem? (i := 23) (by decide +kernel)
theorem nw_24 : Cond.methodLinkNest RX1 34 yX3_write "Kickroom" ∈ NW := List.mem_of_getElem? (i := 24) (by decide +kernel)
theorem nw_25 : Cond.methodLinkNest RX3 63 yX0_tellLayer "Kickroom" ∈ NW := List.mem_of_getElem? (i := 25) (by decide +kernel)
theorem nw_26 : Cond.methodLinkNest RX0 33 yX3_write "Kickroom" ∈ NW := List.mem_of_getElem? (i := 26) (by decide +kernel)
theorem nw_27 : Cond.methodLinkNest RX3 126 yX2_hasInflow "Kickroom" ∈ NW := List.mem_of_getElem? (i := 27) (by decide +kernel)
theorem nw_28 : Cond.methodLinkNest RX3 171 yX2_bottom "Kickroom" ∈ NW := List.mem_of_getElem? (i := 28) (by decide +kernel)
theorem nw_29 : Cond.methodLinkNest RX3 174 yX0_poreAt "Kickroom" ∈ NW := List.mem_of_getElem? (i := 29) (by decide +kernel)
theorem nw_30 : Cond.methodLinkNest RX0 41 yX3_read "Kickroom" ∈ NW := List.mem_of_getElem? (i := 30) (by decide +kernel)
theorem nw_31 : Cond.methodLinkNest RX3 267 yX1_isPassed "Kickroom" ∈ NW := List.mem_of_getElem? (i := 31) (by decide +kernel)
theorem nw_32 : Cond.methodLinkNest RX1 38 yX3_read "Kickroom" ∈ NW := List.mem_of_getElem? (i := 32) (by decide +kernel)
theorem nw_33 : Cond.methodLinkNest RX3 93 yX2_letMinuteGo "Kickroom" ∈ NW := List.mem_of_getElem? (i := 33) (by decide +kernel)
theorem nw_34 : Cond.methodLinkNest RX2 102 yX0_poreAt "Kickroom" ∈ NW := List.mem_of_getElem? (i := 34) (by decide +kernel)
theorem nw_35 : Cond.methodLinkNest RX2 111 yX0_rateAt "Kickroom" ∈ NW := List.mem_of_getElem? (i := 35) (by decide +kernel)
theorem nw_36 : Cond.methodLinkNest RX2 116 yX0_bearsGasAt "Kickroom" ∈ NW := List.mem_of_getElem? (i := 36) (by decide +kernel)
theorem nw_37 : Cond.methodLinkNest RX2 123 yX0_breakAt "Kickroom" ∈ NW := List.mem_of_getElem? (i := 37) (by decide +kernel)
theorem nw_38 : Cond.methodLinkNest RX3 101 yX2_letMinutesGo "Kickroom" ∈ NW := List.mem_of_getElem? (i := 38) (by decide +kernel)
theorem nw_39 : Cond.methodLinkNest RX3 177 yX2_foot "Kickroom" ∈ NW := List.mem_of_getElem? (i := 39) (by decide +kernel)
theorem nw_40 : Cond.methodLinkNest RX3 180 yX0_breakAt "Kickroom" ∈ NW := List.mem_of_getElem? (i := 40) (by decide +kernel)
theorem nw_41 : Cond.methodLinkNest RX3 183 yX2_hasGas "Kickroom" ∈ NW := List.mem_of_getElem? (i := 41) (by decide +kernel)
theorem nw_42 : Cond.methodLinkNest RX3 186 yX2_gasPressure "Kickroom" ∈ NW := List.mem_of_getElem? (i := 42) (by decide +kernel)
theorem nw_43 : Cond.methodLinkNest RX3 240 yX0_layerOf "Kickroom" ∈ NW := List.mem_of_getElem? (i := 43) (by decide +kernel)
theorem nw_44 : Cond.methodLinkNest RX3 243 yX0_leastBreak "Kickroom" ∈ NW := List.mem_of_getElem? (i := 44) (by decide +kernel)
theorem nw_45 : Cond.methodLinkNest RX3 247 yX0_greatestPore "Kickroom" ∈ NW := List.mem_of_getElem? (i := 45) (by decide +kernel)
theorem nw_46 : Cond.methodLinkNest RX3 252 yX0_piecesFromAbove "Kickroom" ∈ NW := List.mem_of_getElem? (i := 46) (by decide +kernel)
theorem nw_47 : Cond.methodLinkNest RX3 255 yX0_piecesFromAll "Kickroom" ∈ NW := List.mem_of_getElem? (i := 47) (by decide +kernel)
theorem nw_48 : Cond.methodLinkNest RX3 260 yX2_become "Kickroom" ∈ NW := List.mem_of_getElem? (i := 48) (by decide +kernel)
end
section
/-! The base: how a method of this claim is stated and walked. One list of words (ALL) for every method; a state of objects in tuples; contracts of methods that only read, of methods that write, of methods that throw. -/
section BASE
def imax (x y : Int32) : Int32 := if x < y then y else x
def imin (x y : Int32) : Int32 := if y < x then y else x
def lmin (x y : Int64) : Int64 := if y < x then y else x
def iushr (x y : Int32) : Int32 := (x.toUInt32 >>> (y.toUInt32 &&& Int32.toUInt32 31)).toInt32
theorem D_same {A : Nat → Prop} {ws ws' : va_W} (h : ws'.map Prod.fst = ws.map Prod.fst) (hD : va_D A ws) : va_D A ws' := by
  have key : ∀ (i : Nat) (p : Nat × va_E), ws'[i]? = some p → ∃ p0 : Nat × va_E, ws[i]? = some p0 ∧ p0.1 = p.1 := by
    intro i p hp
    have h1 : (ws'.map Prod.fst)[i]? = some p.1 := by rw [List.getElem?_map, hp]; rfl
    rw [h, List.getElem?_map] at h1
    cases h2 : ws[i]? with
    | none => rw [h2] at h1; cases h1
    | some p0 => rw [h2] at h1; exact ⟨p0, rfl, Option.some.inj h1⟩
  refine ⟨fun i j p q hi hj e => ?_, fun k q hk => ?_⟩
  · obtain ⟨p0, a1, a2⟩ := key i p hi
    obtain ⟨q0, b1, b2⟩ := key j q hj
    exact hD.1 i j p0 q0 a1 b1 (by rw [a2, b2, e])
  · obtain ⟨q0, b1, b2⟩ := key k q hk
    rw [← b2]
    exact hD.2 k q0 b1
theorem arr_in {n : Nat} {i : Int32} (hn : n < 2147483648) (h0 : ¬ i < 0) (h1 : ¬ Int32.ofNat n ≤ i) : vp_in i n := by
  intro h
  rcases h with h | h
  · exact h0 h
  · obtain ⟨j, hj, e⟩ := nI_of h0
    subst e
    rw [nI_clamp hj] at h
    exact h1 (nI_le h hj)
theorem i2l_ne {x : Int32} (h : ¬ x ≤ 0) : ¬ x.toInt64 = 0 := fun e => h (by
  have h1 : x.toInt64.toInt = 0 := by rw [e]; rfl
  rw [Int32.toInt_toInt64] at h1
  have h2 : x = 0 := Int32.toInt_inj.mp h1
  rw [h2]; decide)
/-- the array classes: ints, booleans, longs, doubles -/
abbrev TY (q : Nat → ClassId) : List (ClassId × FieldType) := [(q 0, .int), (q 1, .boolean), (q 2, .long), (q 3, .double)]
def nwp : Cond → Bool
  | .fieldLinkNest .. => true
  | .methodLinkNest .. => true
  | _ => false
theorem nw_warm {w : Cond} (hp : nwp w = true) {s U : State} (hW : s.WarmedH U.vm) (h : va_Nw w s) : va_Nw w U := by
  cases w <;> first | exact va_Nw.warmF hW h | exact va_Nw.warmM hW h | exact absurd hp (by simp [nwp])
theorem nw_tab {w : Cond} (hp : nwp w = true) : w.onTables = true := by
  cases w <;> first | rfl | exact absurd hp (by simp [nwp])
theorem NW_p : ∀ w ∈ NW, nwp w = true := by decide +kernel
def KK (D : va_G) (q : Nat → ClassId) (U : State) : Prop := va_K D vwCl (TY q) U ∧ ∀ w ∈ NW, va_Nw w U
theorem KK.warm {D : va_G} {q : Nat → ClassId} {s U : State} (hW : s.WarmedH U.vm) (k : KK D q s) : KK D q U :=
  ⟨va_K.moved hW.alike k.1, fun w h => nw_warm (NW_p w h) hW (k.2 w h)⟩
theorem KK.same {D : va_G} {q : Nat → ClassId} {u U : State} (h : u.vm = U.vm) (k : KK D q u) : KK D q U :=
  ⟨va_K.moved (by rw [h]; exact Vm.Alike.refl _) k.1, fun w hw => va_Nw.same (nw_tab (NW_p w hw)) h (k.2 w hw)⟩
/-- a method's start: its arguments, the heap's size, its world, the tables -/
def PC (D : va_G) (q : Nat → ClassId) (av : List Value) (ws : va_W) (sz : Nat) : Array Value → State → Prop :=
  va_Pc av (fun U => U.heap.size = sz ∧ va_P D vwCl ws U.heap ∧ KK D q U ∧ va_D (fun _ => True) ws)
theorem PC_blind {D : va_G} {q : Nat → ClassId} {av : List Value} {ws : va_W} {sz : Nat} : FrameBlind (PC D q av ws sz) := fun a U g mk h => by
  obtain ⟨e, h1, h2, h3, h4⟩ := h
  exact ⟨e, h1, h2, KK.same (u := U) (U := U.calling g mk a) rfl h3, h4⟩
/-- what every row of a walk needs: the machine, the code, its locals, its class, the words, the tables -/
def FX (p : Program) (s : State) (m : MethodId) (args : Array Value) (c : Code) (own : String) (cc : ByteArray) (nL : Nat) (D : va_G) (q : Nat → ClassId) : Prop :=
  p.tables.exec = Jvm.exec ∧ c.code = cc ∧ c.maxLocals = nL ∧ s.vm.findClass own = some m.cls ∧ (∀ w ∈ ALL, w.before args s = true) ∧ KK D q s
/-- a value of a boolean -/
def bz (x : Int32) : Prop := x = 0 ∨ x = 1
theorem bz0 : bz 0 := Or.inl rfl
theorem bz1 : bz 1 := Or.inr rfl
theorem bz_n {x : Int32} (h : bz x) : narrow .boolean (.int x) = .int x := by rcases h with rfl | rfl <;> rfl
theorem bz_f {x : Int32} (h : bz x) : fits .boolean (.int x) = true := by rcases h with rfl | rfl <;> rfl
theorem bz_ite {c : Prop} [Decidable c] {a b : Int32} (ha : bz a) (hb : bz b) : bz (if c then a else b) := by split <;> assumption
variable {p : Program} {l : Launch} {e : Env} {R : Room} {s : State} {m : MethodId} {args : Array Value} {below : List Frame} {meth : Method} {c : Code} {H : Heap} {locs : List Loc} {cells slots : Nat} {Q : State → Prop}
variable {D : va_G} {q : Nat → ClassId} {ws : va_W} {A : Nat → Prop} {H0 : Heap} {own : String} {cc : ByteArray} {nL : Nat} {pc : Nat} {ls : Array Slot} {rest st : List Value}
theorem all_pay {y : Cond} (hy : y ∈ ALL) (hts : ∀ w ∈ ALL, w.before args s = true) : ∀ w ∈ y :: ALL, ∀ (a' : Array Value) (U : State), s.WarmedH U.vm → w.before a' U = true := fun w hw a' U hW => by
  have hm : w ∈ ALL := by
    rcases List.mem_cons.mp hw with h | h
    · rw [h]; exact hy
    · exact h
  exact word_at hW (good_of_word (ALL_w hm)) (hts w hm)
def LKC (y : MethodName) (bytes : ByteArray) (maxL : Nat) (ret : Option FieldType) (n : Nat) : Prop :=
  Cond.initialized y.cls ∈ ALL ∧ Cond.code y bytes maxL ret ∈ ALL ∧ y.cls ≠ "java/lang/invoke/MethodHandle" ∧ y.cls ≠ "java/lang/invoke/VarHandle" ∧ (parseMethodDescriptor y.desc).map (fun d => d.parameters.length) = some n
def LKV (own : String) (idx : Nat) (C : String) (y : MethodName) (bytes : ByteArray) (maxL : Nat) (ret : Option FieldType) (n : Nat) : Prop :=
  Cond.methodLink own idx y ∈ ALL ∧ Cond.instanceMethod y ∈ ALL ∧ Cond.selects C y y ∈ ALL ∧ LKC y bytes maxL ret n
def LKVN (own : String) (idx : Nat) (C : String) (y : MethodName) (bytes : ByteArray) (maxL : Nat) (ret : Option FieldType) (n : Nat) : Prop :=
  Cond.methodLinkNest own idx y "Kickroom" ∈ NW ∧ Cond.instanceMethod y ∈ ALL ∧ Cond.selects C y y ∈ ALL ∧ LKC y bytes maxL ret n
def LKS (own : String) (idx : Nat) (y : MethodName) (bytes : ByteArray) (maxL : Nat) (ret : Option FieldType) (n : Nat) : Prop :=
  Cond.methodLink own idx y ∈ ALL ∧ Cond.static y ∈ ALL ∧ LKC y bytes maxL ret n
def LKSN (own : String) (idx : Nat) (y : MethodName) (bytes : ByteArray) (maxL : Nat) (ret : Option FieldType) (n : Nat) : Prop :=
  Cond.methodLinkNest own idx y "Kickroom" ∈ NW ∧ Cond.static y ∈ ALL ∧ LKC y bytes maxL ret n
def LKI (own : String) (idx : Nat) (y : MethodName) (bytes : ByteArray) (maxL : Nat) (n : Nat) : Prop :=
  Cond.methodLink own idx y ∈ ALL ∧ y.name = "<init>" ∧ Cond.instanceMethod y ∈ ALL ∧ LKC y bytes maxL none n
def LKIN (own : String) (idx : Nat) (y : MethodName) (bytes : ByteArray) (maxL : Nat) (n : Nat) : Prop :=
  Cond.methodLinkNest own idx y "Kickroom" ∈ NW ∧ y.name = "<init>" ∧ Cond.instanceMethod y ∈ ALL ∧ LKC y bytes maxL none n
theorem cb_of {idx : Nat} {y : MethodName} {bytes : ByteArray} {maxL n mc ms : Nat} {ret : Option FieldType} {rm : Room} (fx : FX p s m args c own cc nL D q) (hl : Cond.methodLink own idx y ∈ ALL) (lk : LKC y bytes maxL ret n)
    (hrm : rm.cells = mc ∧ rm.slots = ms) (hroom : rm.frames + 1 ≤ R.frames ∧ 8 + (maxL + 11) + rm.locals ≤ R.locals) : CallB R s args own idx y bytes maxL ret (Cond.code y bytes maxL ret :: ALL) rm mc ms n := by
  obtain ⟨-, -, -, -, hts, -⟩ := fx
  obtain ⟨h1, h2, h3, h4, h5⟩ := lk
  refine ⟨hrm.1, hrm.2, hroom.1, hroom.2, all_pay h2 hts, List.mem_cons_self, hts _ h2, hts _ h1, ⟨h3, h4⟩, fun sig hs => ?_, hts _ hl⟩
  rw [hs] at h5
  exact (Option.some.inj h5).symm
theorem cn_of {idx : Nat} {y : MethodName} {bytes : ByteArray} {maxL n mc ms : Nat} {ret : Option FieldType} {rm : Room} (fx : FX p s m args c own cc nL D q) (hl : Cond.methodLinkNest own idx y "Kickroom" ∈ NW) (lk : LKC y bytes maxL ret n)
    (hrm : rm.cells = mc ∧ rm.slots = ms) (hroom : rm.frames + 1 ≤ R.frames ∧ 8 + (maxL + 11) + rm.locals ≤ R.locals) : va_CN R s args own idx y "Kickroom" bytes maxL ret (Cond.code y bytes maxL ret :: ALL) rm mc ms n := by
  obtain ⟨-, -, -, -, hts, hK⟩ := fx
  obtain ⟨h1, h2, h3, h4, h5⟩ := lk
  refine ⟨⟨hrm.1, hrm.2, hroom.1, hroom.2, all_pay h2 hts, List.mem_cons_self⟩, hts _ h2, hts _ h1, ⟨h3, h4⟩, fun sig hs => ?_, va_Nw.use rfl (hK.2 _ hl)⟩
  rw [hs] at h5
  exact (Option.some.inj h5).symm
theorem fx_fix (fx : FX p s m args c own cc nL D q) : CallFix p m c cc nL s args ALL own := ⟨fx.1, fx.2.1, fx.2.2.1, fx.2.2.2.1, fx.2.2.2.2.1⟩
/-- the callee's start out of the caller's world -/
theorem preS {av : List Value} {wc : va_W} (fx : FX p s m args c own cc nL D q) (hP : va_P D vwCl ws H) (hD : va_D A ws) (pl : List Nat) (hpl : pl.map (fun i => ws[i]?) = wc.map some) (hnd : va_nd pl = true) : PreS s H (PC D q av wc H.size) av := by
  obtain ⟨-, -, -, -, -, hK⟩ := fx
  have hfm : pl.filterMap (fun i => ws[i]?) = wc := by
    have h1 : (pl.map (fun i => ws[i]?)).filterMap id = (wc.map some).filterMap id := by rw [hpl]
    simpa [List.filterMap_map, Function.comp_def] using h1
  have hPc : va_P D vwCl wc H := hP.sub pl hfm
  have hDc : va_D A wc := hD.sub pl hnd hpl
  exact ⟨PC_blind, fun U hU hW => ⟨rfl, by rw [hU], by rw [hU]; exact hPc, hK.warm hW, hDc.weaken (fun _ _ _ _ => trivial)⟩⟩
theorem preV {C : String} {T : u_T} {N ci b : Nat} {fs : List Value} {As : List Value} {wc : va_W} (fx : FX p s m args c own cc nL D q) (hP : va_P D vwCl ws H) (hD : va_D A ws) (pl : List Nat) (hpl : pl.map (fun i => ws[i]?) = wc.map some) (hnd : va_nd pl = true)
    (hc : vwCl[ci]? = some (C, T, N)) (he : wc[0]? = some (b, .inr (ci, fs))) : PreV s H C b (PC D q (.ref b :: As) wc H.size) As := by
  have h1 := preS (av := .ref b :: As) fx hP hD pl hpl hnd
  have hfm : pl.filterMap (fun i => ws[i]?) = wc := by
    have h1 : (pl.map (fun i => ws[i]?)).filterMap id = (wc.map some).filterMap id := by rw [hpl]
    simpa [List.filterMap_map, Function.comp_def] using h1
  exact ⟨h1.1, va_recv fx.2.2.2.2.2.1 (hP.sub pl hfm) hc he, h1.2⟩
section RUNS
variable {y : MethodName} {bytes : ByteArray} {maxL n idx mc ms : Nat} {ret : Option FieldType} {rm : Room} {Qc : Array Value → State → Outcome → State → Prop} {XC : String → State → State → Prop} {free : Addr → Prop} {b : Nat} {As : List Value} {wc : va_W} {C : String} {T : u_T} {N ci : Nat} {fs : List Value}
theorem runV (fx : FX p s m args c own cc nL D q) (hM : Met l y (Cond.code y bytes maxL ret :: ALL) rm (PC D q (.ref b :: As) wc H.size) Qc mc ms free) (lk : LKV own idx C y bytes maxL ret n) (hroom : rm.frames + 1 ≤ R.frames ∧ 8 + (maxL + 11) + rm.locals ≤ R.locals) (hrm : rm.cells = mc ∧ rm.slots = ms)
    (hP : va_P D vwCl ws H) (hD : va_D A ws) (pl : List Nat) (hpl : pl.map (fun i => ws[i]?) = wc.map some) (hnd : va_nd pl = true) (hc : vwCl[ci]? = some (C, T, N)) (he : wc[0]? = some (b, .inr (ci, fs)))
    (hn : As.length = n) (hl : ls.size = nL) (hst : st = As.reverse ++ .ref b :: rest) (hW : (rest.map fun v => v.category).sum ≤ 8) (hdg : decode cc pc = .ok (.invokevirtual idx, 3)) (hf : cells + mc ≤ R.cells ∧ slots + ms ≤ R.slots) :
    va_Run p l e R s m args below meth c H locs cells slots mc ms (F0 m pc ls st) rest (Qc (Value.ref b :: As).toArray) free :=
  va_runV (fx_fix fx) hM ⟨cb_of fx lk.1 lk.2.2.2 hrm hroom, fx.2.2.2.2.1 _ lk.2.1, fx.2.2.2.2.1 _ lk.2.2.1⟩ (preV fx hP hD pl hpl hnd hc he) rfl hn hl hst (lv_room hW) hdg hf
theorem runVN (fx : FX p s m args c own cc nL D q) (hM : Met l y (Cond.code y bytes maxL ret :: ALL) rm (PC D q (.ref b :: As) wc H.size) Qc mc ms free) (lk : LKVN own idx C y bytes maxL ret n) (hroom : rm.frames + 1 ≤ R.frames ∧ 8 + (maxL + 11) + rm.locals ≤ R.locals) (hrm : rm.cells = mc ∧ rm.slots = ms)
    (hP : va_P D vwCl ws H) (hD : va_D A ws) (pl : List Nat) (hpl : pl.map (fun i => ws[i]?) = wc.map some) (hnd : va_nd pl = true) (hc : vwCl[ci]? = some (C, T, N)) (he : wc[0]? = some (b, .inr (ci, fs)))
    (hn : As.length = n) (hl : ls.size = nL) (hst : st = As.reverse ++ .ref b :: rest) (hW : (rest.map fun v => v.category).sum ≤ 8) (hdg : decode cc pc = .ok (.invokevirtual idx, 3)) (hf : cells + mc ≤ R.cells ∧ slots + ms ≤ R.slots) :
    va_Run p l e R s m args below meth c H locs cells slots mc ms (F0 m pc ls st) rest (Qc (Value.ref b :: As).toArray) free :=
  va_runVN (fx_fix fx) hM ⟨cn_of fx lk.1 lk.2.2.2 hrm hroom, fx.2.2.2.2.1 _ lk.2.1, fx.2.2.2.2.1 _ lk.2.2.1⟩ (preV fx hP hD pl hpl hnd hc he) rfl hn hl hst (lv_room hW) hdg hf
theorem runS (fx : FX p s m args c own cc nL D q) (hM : Met l y (Cond.code y bytes maxL ret :: ALL) rm (PC D q As wc H.size) Qc mc ms free) (lk : LKS own idx y bytes maxL ret n) (hroom : rm.frames + 1 ≤ R.frames ∧ 8 + (maxL + 11) + rm.locals ≤ R.locals) (hrm : rm.cells = mc ∧ rm.slots = ms)
    (hP : va_P D vwCl ws H) (hD : va_D A ws) (pl : List Nat) (hpl : pl.map (fun i => ws[i]?) = wc.map some) (hnd : va_nd pl = true)
    (hn : As.length = n) (hl : ls.size = nL) (hst : st = As.reverse ++ rest) (hW : (rest.map fun v => v.category).sum ≤ 8) (hdg : decode cc pc = .ok (.invokestatic idx, 3)) (hf : cells + mc ≤ R.cells ∧ slots + ms ≤ R.slots) :
    va_Run p l e R s m args below meth c H locs cells slots mc ms (F0 m pc ls st) rest (Qc As.toArray) free :=
  va_runS (fx_fix fx) hM ⟨cb_of fx lk.1 lk.2.2 hrm hroom, fx.2.2.2.2.1 _ lk.2.1⟩ (preS fx hP hD pl hpl hnd) rfl hn hl hst (lv_room hW) hdg hf
theorem runSN (fx : FX p s m args c own cc nL D q) (hM : Met l y (Cond.code y bytes maxL ret :: ALL) rm (PC D q As wc H.size) Qc mc ms free) (lk : LKSN own idx y bytes maxL ret n) (hroom : rm.frames + 1 ≤ R.frames ∧ 8 + (maxL + 11) + rm.locals ≤ R.locals) (hrm : rm.cells = mc ∧ rm.slots = ms)
    (hP : va_P D vwCl ws H) (hD : va_D A ws) (pl : List Nat) (hpl : pl.map (fun i => ws[i]?) = wc.map some) (hnd : va_nd pl = true)
    (hn : As.length = n) (hl : ls.size = nL) (hst : st = As.reverse ++ rest) (hW : (rest.map fun v => v.category).sum ≤ 8) (hdg : decode cc pc = .ok (.invokestatic idx, 3)) (hf : cells + mc ≤ R.cells ∧ slots + ms ≤ R.slots) :
    va_Run p l e R s m args below meth c H locs cells slots mc ms (F0 m pc ls st) rest (Qc As.toArray) free :=
  va_runSN (fx_fix fx) hM ⟨cn_of fx lk.1 lk.2.2 hrm hroom, fx.2.2.2.2.1 _ lk.2.1, trivial⟩ (preS fx hP hD pl hpl hnd) rfl hn hl hst (lv_room hW) hdg hf
theorem runI (fx : FX p s m args c own cc nL D q) (hM : Met l y (Cond.code y bytes maxL none :: ALL) rm (PC D q (.ref b :: As) wc H.size) Qc mc ms free) (lk : LKI own idx y bytes maxL n) (hroom : rm.frames + 1 ≤ R.frames ∧ 8 + (maxL + 11) + rm.locals ≤ R.locals) (hrm : rm.cells = mc ∧ rm.slots = ms)
    (hP : va_P D vwCl ws H) (hD : va_D A ws) (pl : List Nat) (hpl : pl.map (fun i => ws[i]?) = wc.map some) (hnd : va_nd pl = true)
    (hn : As.length = n) (hl : ls.size = nL) (hst : st = As.reverse ++ .ref b :: rest) (hW : (rest.map fun v => v.category).sum ≤ 8) (hdg : decode cc pc = .ok (.invokespecial idx, 3)) (hf : cells + mc ≤ R.cells ∧ slots + ms ≤ R.slots) :
    va_Run p l e R s m args below meth c H locs cells slots mc ms (F0 m pc ls st) rest (Qc (Value.ref b :: As).toArray) free :=
  va_runI (fx_fix fx) hM ⟨cb_of fx lk.1 lk.2.2.2 hrm hroom, lk.2.1, fx.2.2.2.2.1 _ lk.2.2.1⟩ (preS fx hP hD pl hpl hnd) rfl hn hl hst (lv_room hW) hdg hf
theorem runIN (fx : FX p s m args c own cc nL D q) (hM : Met l y (Cond.code y bytes maxL none :: ALL) rm (PC D q (.ref b :: As) wc H.size) Qc mc ms free) (lk : LKIN own idx y bytes maxL n) (hroom : rm.frames + 1 ≤ R.frames ∧ 8 + (maxL + 11) + rm.locals ≤ R.locals) (hrm : rm.cells = mc ∧ rm.slots = ms)
    (hP : va_P D vwCl ws H) (hD : va_D A ws) (pl : List Nat) (hpl : pl.map (fun i => ws[i]?) = wc.map some) (hnd : va_nd pl = true)
    (hn : As.length = n) (hl : ls.size = nL) (hst : st = As.reverse ++ .ref b :: rest) (hW : (rest.map fun v => v.category).sum ≤ 8) (hdg : decode cc pc = .ok (.invokespecial idx, 3)) (hf : cells + mc ≤ R.cells ∧ slots + ms ≤ R.slots) :
    va_Run p l e R s m args below meth c H locs cells slots mc ms (F0 m pc ls st) rest (Qc (Value.ref b :: As).toArray) free :=
  va_runIN (fx_fix fx) hM ⟨cn_of fx lk.1 lk.2.2.2 hrm hroom, lk.2.1, fx.2.2.2.2.1 _ lk.2.2.1⟩ (preS fx hP hD pl hpl hnd) rfl hn hl hst (lv_room hW) hdg hf
theorem xrunV (fx : FX p s m args c own cc nL D q) (hM : vx_Met l y (Cond.code y bytes maxL ret :: ALL) rm (PC D q (.ref b :: As) wc H.size) Qc XC mc ms free) (lk : LKV own idx C y bytes maxL ret n) (hroom : rm.frames + 1 ≤ R.frames ∧ 8 + (maxL + 11) + rm.locals ≤ R.locals) (hrm : rm.cells = mc ∧ rm.slots = ms)
    (hP : va_P D vwCl ws H) (hD : va_D A ws) (pl : List Nat) (hpl : pl.map (fun i => ws[i]?) = wc.map some) (hnd : va_nd pl = true) (hc : vwCl[ci]? = some (C, T, N)) (he : wc[0]? = some (b, .inr (ci, fs)))
    (hn : As.length = n) (hl : ls.size = nL) (hst : st = As.reverse ++ .ref b :: rest) (hW : (rest.map fun v => v.category).sum ≤ 8) (hdg : decode cc pc = .ok (.invokevirtual idx, 3)) (hf : cells + mc ≤ R.cells ∧ slots + ms ≤ R.slots) :
    vx_Run p l e R s m args below meth c H locs cells slots mc ms (F0 m pc ls st) rest (Qc (Value.ref b :: As).toArray) XC free :=
  vx_runV (fx_fix fx) hM ⟨cb_of fx lk.1 lk.2.2.2 hrm hroom, fx.2.2.2.2.1 _ lk.2.1, fx.2.2.2.2.1 _ lk.2.2.1⟩ (preV fx hP hD pl hpl hnd hc he) rfl hn hl hst (lv_room hW) hdg hf
end RUNS
/-- the callee's cells put back among the caller's -/
def setAll : va_W → List Nat → va_W → va_W
  | ws, i :: pl, x :: xs => setAll (ws.set i x) pl xs
  | ws, _, _ => ws
theorem setAll_get : ∀ (pl : List Nat) (ws xs : va_W) (k : Nat) (x : Nat × va_E), pl.length = xs.length → (setAll ws pl xs)[k]? = some x → (∃ j : Nat, pl[j]? = some k ∧ xs[j]? = some x) ∨ (k ∉ pl ∧ ws[k]? = some x)
  | [], ws, xs, k, x, _, h => Or.inr ⟨List.not_mem_nil, by cases xs <;> exact h⟩
  | i :: pl, ws, [], k, x, hl, _ => by simp at hl
  | i :: pl, ws, x0 :: xs, k, x, hl, h => by
    have hl' : pl.length = xs.length := by simpa using hl
    rcases setAll_get pl (ws.set i x0) xs k x hl' h with ⟨j, h1, h2⟩ | ⟨h1, h2⟩
    · exact Or.inl ⟨j + 1, by simpa using h1, by simpa using h2⟩
    · by_cases hk : i = k
      · subst hk
        rw [List.getElem?_set] at h2
        simp only [if_true] at h2
        split at h2
        · exact Or.inl ⟨0, rfl, h2⟩
        · cases h2
      · rw [List.getElem?_set] at h2
        rw [if_neg hk] at h2
        exact Or.inr ⟨fun hm => by rcases List.mem_cons.mp hm with e | e; exact hk e.symm; exact h1 e, h2⟩
theorem P_join {wc xs : va_W} {H1 : Heap} (hP : va_P D vwCl ws H) (hD : va_D A ws) (pl : List Nat) (hpl : pl.map (fun i => ws[i]?) = wc.map some) (hlen : xs.length = wc.length)
    (hk : ∀ q : Nat, q < H.size → ¬ va_A wc H.size q → H1[q]? = H[q]?) (hP1 : va_P D vwCl xs H1) : va_P D vwCl (setAll ws pl xs) H1 := by
  intro k x hx
  have hl : pl.length = xs.length := by
    have h1 := congrArg List.length hpl
    simp at h1
    omega
  rcases setAll_get pl ws xs k x hl hx with ⟨j, -, h2⟩ | ⟨h1, h2⟩
  · exact hP1 j x h2
  · have hlt := (hP k x h2).lt
    refine (hP k x h2).kept (hk x.1 hlt ?_)
    rintro (⟨j, e9, h3⟩ | h3)
    · have h4 : (pl.map (fun i => ws[i]?))[j]? = some (some (x.1, e9)) := by rw [hpl, List.getElem?_map, h3]; rfl
      rw [List.getElem?_map] at h4
      cases h5 : pl[j]? with
      | none => rw [h5] at h4; cases h4
      | some i =>
        rw [h5] at h4
        have h6 : ws[i]? = some (x.1, e9) := Option.some.inj h4
        have h7 := hD.1 i k _ _ h6 h2 rfl
        exact h1 (h7 ▸ List.mem_of_getElem? h5)
    · omega
section ROWS
variable {a : Array Value} {S : Type} {wc : va_W} {C : S → va_W}
theorem kR_i {post : Int32 → S → Prop} (hr : va_Run p l e R s m args below meth c H locs cells slots 0 0 (F0 m pc ls st) rest (va_Qi post (fun _ _ => True) (fun _ => False) a) (fun _ => False)) (hP : va_P D vwCl ws H) (hS : va_S A H0 H locs)
    (kk : ∀ (r : Int32) (u : S) (H1 : Heap) (locs1 : List Loc), post r u → va_P D vwCl ws H1 → va_S A H0 H1 locs1 → W p l e R s m args below meth c H1 locs1 cells slots Q (F0 m (pc + 3) ls (.int r :: rest))) : W p l e R s m args below meth c H locs cells slots Q (F0 m pc ls st) :=
  va_calli hr hS (fun _ _ h => h.elim) (fun _ h => h.elim) (fun r u _ H1 locs1 _ _ hp _ _ hk hS1 => kk r u H1 locs1 hp (hP.kept (fun k x hx => hk x.1 ((hP k x hx).lt) (fun h => h))) hS1)
theorem kR_l {post : Int64 → S → Prop} (hr : va_Run p l e R s m args below meth c H locs cells slots 0 0 (F0 m pc ls st) rest (va_Ql post (fun _ _ => True) (fun _ => False) a) (fun _ => False)) (hP : va_P D vwCl ws H) (hS : va_S A H0 H locs)
    (kk : ∀ (r : Int64) (u : S) (H1 : Heap) (locs1 : List Loc), post r u → va_P D vwCl ws H1 → va_S A H0 H1 locs1 → W p l e R s m args below meth c H1 locs1 cells slots Q (F0 m (pc + 3) ls (.long r :: rest))) : W p l e R s m args below meth c H locs cells slots Q (F0 m pc ls st) :=
  va_calll hr hS (fun _ _ h => h.elim) (fun _ h => h.elim) (fun r u _ H1 locs1 _ _ hp _ _ hk hS1 => kk r u H1 locs1 hp (hP.kept (fun k x hx => hk x.1 ((hP k x hx).lt) (fun h => h))) hS1)
theorem kR_f {post : UInt32 → S → Prop} (hr : va_Run p l e R s m args below meth c H locs cells slots 0 0 (F0 m pc ls st) rest (va_Qf post (fun _ _ => True) (fun _ => False) a) (fun _ => False)) (hP : va_P D vwCl ws H) (hS : va_S A H0 H locs)
    (kk : ∀ (r : UInt32) (u : S) (H1 : Heap) (locs1 : List Loc), post r u → va_P D vwCl ws H1 → va_S A H0 H1 locs1 → W p l e R s m args below meth c H1 locs1 cells slots Q (F0 m (pc + 3) ls (.float r :: rest))) : W p l e R s m args below meth c H locs cells slots Q (F0 m pc ls st) :=
  va_callf hr hS (fun _ _ h => h.elim) (fun _ h => h.elim) (fun r u _ H1 locs1 _ _ hp _ _ hk hS1 => kk r u H1 locs1 hp (hP.kept (fun k x hx => hk x.1 ((hP k x hx).lt) (fun h => h))) hS1)
theorem kW_i {post : Int32 → S → Prop} (hr : va_Run p l e R s m args below meth c H locs cells slots 0 0 (F0 m pc ls st) rest (va_Qi post (fun u t => va_P D vwCl (C u) t.heap) (va_A wc H.size) a) (va_A wc H.size)) (hP : va_P D vwCl ws H) (hD : va_D A ws) (hS : va_S A H0 H locs) (hA : ∀ q, H0.size ≤ q → A q) (pl : List Nat) (hpl : pl.map (fun i => ws[i]?) = wc.map some) (hlen : ∀ u, (C u).length = wc.length)
    (kk : ∀ (r : Int32) (u : S) (H1 : Heap) (locs1 : List Loc), post r u → va_P D vwCl (setAll ws pl (C u)) H1 → va_S A H0 H1 locs1 → W p l e R s m args below meth c H1 locs1 cells slots Q (F0 m (pc + 3) ls (.int r :: rest))) : W p l e R s m args below meth c H locs cells slots Q (F0 m pc ls st) :=
  va_calli hr hS (fun q9 _ h => va_free hD hS hA pl hpl q9 h) (va_free hD hS hA pl hpl) (fun r u t H1 locs1 ht _ hp hB _ hk hS1 => kk r u H1 locs1 hp (P_join hP hD pl hpl (hlen u) hk (by rw [← ht]; exact hB)) hS1)
theorem kW_v {post : S → Prop} (hr : va_Run p l e R s m args below meth c H locs cells slots 0 0 (F0 m pc ls st) rest (va_Qv post (fun u t => va_P D vwCl (C u) t.heap) (va_A wc H.size) a) (va_A wc H.size)) (hP : va_P D vwCl ws H) (hD : va_D A ws) (hS : va_S A H0 H locs) (hA : ∀ q, H0.size ≤ q → A q) (pl : List Nat) (hpl : pl.map (fun i => ws[i]?) = wc.map some) (hlen : ∀ u, (C u).length = wc.length)
    (kk : ∀ (u : S) (H1 : Heap) (locs1 : List Loc), post u → va_P D vwCl (setAll ws pl (C u)) H1 → va_S A H0 H1 locs1 → W p l e R s m args below meth c H1 locs1 cells slots Q (F0 m (pc + 3) ls rest)) : W p l e R s m args below meth c H locs cells slots Q (F0 m pc ls st) :=
  va_callv hr hS (fun q9 _ h => va_free hD hS hA pl hpl q9 h) (va_free hD hS hA pl hpl) (fun u t H1 locs1 ht _ hp hB _ hk hS1 => kk u H1 locs1 hp (P_join hP hD pl hpl (hlen u) hk (by rw [← ht]; exact hB)) hS1)
end ROWS
section ENTER
variable {y : MethodName} {rm : Room} {av : List Value} {sz : Nat} {S : Type} {C : S → va_W}
/-- what a walk begins with -/
theorem fx_of {ret : Option FieldType} {S0 : Spec} {s₁ : State} (hy : y.cls = own) (B : BodyLoose p l y S0 cc nL ret e s m args below meth c s₁) (hS0 : S0.pre.before args s = true → ∀ w ∈ ALL, w.before args s = true) (hml : c.maxLocals = nL) (hK : KK D q s) : FX p s m args c own cc nL D q :=
  ⟨B.exec, B.bytes, hml, by rw [← hy]; exact findClass_of_methodNamed B.named, hS0 B.pre, hK⟩
theorem en_iR {post : Int32 → Prop} (hy : plainName y.cls = true) (hav : (lg_sl av).length ≤ nL)
    (body : ∀ (p : Program) (e : Env) (s : State) (m : MethodId) (args : Array Value) (below : List Frame) (meth : Method) (c : Code) (Q : State → Prop) (A : Nat → Prop) (H : Heap) (locs : List Loc) (ls : Array Slot), FX p s m args c y.cls cc nL D q → va_D (fun _ => True) ws →  va_P D vwCl ws H → va_S A s.heap H locs → lv_has ls nL (lv_args 0 av) →
      (∀ (r : Int32) (pc : Nat) (H : Heap) (locs : List Loc) (ls : Array Slot), decode cc pc = .ok (.ireturn, 1) → post r → va_S A s.heap H locs → W p l e rm s m args below meth c H locs 0 0 Q (F0 m pc ls [.int r])) →
      W p l e rm s m args below meth c H locs 0 0 Q (F0 m 0 ls [])) :
    Met l y (Cond.code y cc nL (some .int) :: ALL) rm (PC D q av ws sz) (va_Qi (fun r (_ : Unit) => post r) (fun _ _ => True) (fun _ => False)) 0 0 (fun _ => False) := by
  refine Met.ofW (cc := cc) (maxL := nL) (ret := some .int) hy rfl ?_
  intro p e s m args below meth c s₁ B hml hv
  obtain ⟨rfl, hsz, hP, hK, hD⟩ := hv
  have fx : FX p s m av.toArray c y.cls cc nL D q := fx_of rfl B (fun h w hw => atoms_spec (ws := Cond.code y cc nL (some .int) :: ALL) h w (List.mem_cons_of_mem _ hw)) hml hK
  have hl := lv_entry av hav
  rw [lg_entry_eq]
  generalize (lg_sl av ++ List.replicate (nL - (lg_sl av).length) Slot.unset).toArray = ls at hl ⊢
  exact body p e s m av.toArray below meth c _ (fun _ => False) s.heap [] ls fx hD hP va_S.rf hl (fun r pc H locs ls hdg hp hS => W.iret fx.1 fx.2.1 B.returns (fun t ht hW => ⟨⟨r, (), rfl, hp, trivial⟩, hS.F ht⟩) hS.2.2 hdg B.notSynchronized)
theorem en_zR {post : Int32 → Prop} (hy : plainName y.cls = true) (hav : (lg_sl av).length ≤ nL)
    (body : ∀ (p : Program) (e : Env) (s : State) (m : MethodId) (args : Array Value) (below : List Frame) (meth : Method) (c : Code) (Q : State → Prop) (A : Nat → Prop) (H : Heap) (locs : List Loc) (ls : Array Slot), FX p s m args c y.cls cc nL D q → va_D (fun _ => True) ws →  va_P D vwCl ws H → va_S A s.heap H locs → lv_has ls nL (lv_args 0 av) →
      (∀ (r : Int32) (pc : Nat) (H : Heap) (locs : List Loc) (ls : Array Slot), decode cc pc = .ok (.ireturn, 1) → bz r → post r → va_S A s.heap H locs → W p l e rm s m args below meth c H locs 0 0 Q (F0 m pc ls [.int r])) →
      W p l e rm s m args below meth c H locs 0 0 Q (F0 m 0 ls [])) :
    Met l y (Cond.code y cc nL (some .boolean) :: ALL) rm (PC D q av ws sz) (va_Qi (fun r (_ : Unit) => post r ∧ bz r) (fun _ _ => True) (fun _ => False)) 0 0 (fun _ => False) := by
  refine Met.ofW (cc := cc) (maxL := nL) (ret := some .boolean) hy rfl ?_
  intro p e s m args below meth c s₁ B hml hv
  obtain ⟨rfl, hsz, hP, hK, hD⟩ := hv
  have fx : FX p s m av.toArray c y.cls cc nL D q := fx_of rfl B (fun h w hw => atoms_spec (ws := Cond.code y cc nL (some .boolean) :: ALL) h w (List.mem_cons_of_mem _ hw)) hml hK
  have hl := lv_entry av hav
  rw [lg_entry_eq]
  generalize (lg_sl av ++ List.replicate (nL - (lg_sl av).length) Slot.unset).toArray = ls at hl ⊢
  exact body p e s m av.toArray below meth c _ (fun _ => False) s.heap [] ls fx hD hP va_S.rf hl (fun r pc H locs ls hdg hz hp hS => W.zret fx.1 fx.2.1 B.returns (bz_n hz) (fun t ht hW => ⟨⟨r, (), rfl, ⟨hp, hz⟩, trivial⟩, hS.F ht⟩) hS.2.2 hdg B.notSynchronized)
theorem en_lR {post : Int64 → Prop} (hy : plainName y.cls = true) (hav : (lg_sl av).length ≤ nL)
    (body : ∀ (p : Program) (e : Env) (s : State) (m : MethodId) (args : Array Value) (below : List Frame) (meth : Method) (c : Code) (Q : State → Prop) (A : Nat → Prop) (H : Heap) (locs : List Loc) (ls : Array Slot), FX p s m args c y.cls cc nL D q → va_D (fun _ => True) ws →  va_P D vwCl ws H → va_S A s.heap H locs → lv_has ls nL (lv_args 0 av) →
      (∀ (r : Int64) (pc : Nat) (H : Heap) (locs : List Loc) (ls : Array Slot), decode cc pc = .ok (.lreturn, 1) → post r → va_S A s.heap H locs → W p l e rm s m args below meth c H locs 0 0 Q (F0 m pc ls [.long r])) →
      W p l e rm s m args below meth c H locs 0 0 Q (F0 m 0 ls [])) :
    Met l y (Cond.code y cc nL (some .long) :: ALL) rm (PC D q av ws sz) (va_Ql (fun r (_ : Unit) => post r) (fun _ _ => True) (fun _ => False)) 0 0 (fun _ => False) := by
  refine Met.ofW (cc := cc) (maxL := nL) (ret := some .long) hy rfl ?_
  intro p e s m args below meth c s₁ B hml hv
  obtain ⟨rfl, hsz, hP, hK, hD⟩ := hv
  have fx : FX p s m av.toArray c y.cls cc nL D q := fx_of rfl B (fun h w hw => atoms_spec (ws := Cond.code y cc nL (some .long) :: ALL) h w (List.mem_cons_of_mem _ hw)) hml hK
  have hl := lv_entry av hav
  rw [lg_entry_eq]
  generalize (lg_sl av ++ List.replicate (nL - (lg_sl av).length) Slot.unset).toArray = ls at hl ⊢
  exact body p e s m av.toArray below meth c _ (fun _ => False) s.heap [] ls fx hD hP va_S.rf hl (fun r pc H locs ls hdg hp hS => W.lret fx.1 fx.2.1 B.returns (fun t ht hW => ⟨⟨r, (), rfl, hp, trivial⟩, hS.F ht⟩) hS.2.2 hdg B.notSynchronized)
theorem en_fR {post : UInt32 → Prop} (hy : plainName y.cls = true) (hav : (lg_sl av).length ≤ nL)
    (body : ∀ (p : Program) (e : Env) (s : State) (m : MethodId) (args : Array Value) (below : List Frame) (meth : Method) (c : Code) (Q : State → Prop) (A : Nat → Prop) (H : Heap) (locs : List Loc) (ls : Array Slot), FX p s m args c y.cls cc nL D q → va_D (fun _ => True) ws →  va_P D vwCl ws H → va_S A s.heap H locs → lv_has ls nL (lv_args 0 av) →
      (∀ (r : UInt32) (pc : Nat) (H : Heap) (locs : List Loc) (ls : Array Slot), decode cc pc = .ok (.freturn, 1) → post r → va_S A s.heap H locs → W p l e rm s m args below meth c H locs 0 0 Q (F0 m pc ls [.float r])) →
      W p l e rm s m args below meth c H locs 0 0 Q (F0 m 0 ls [])) :
    Met l y (Cond.code y cc nL (some .float) :: ALL) rm (PC D q av ws sz) (va_Qf (fun r (_ : Unit) => post r) (fun _ _ => True) (fun _ => False)) 0 0 (fun _ => False) := by
  refine Met.ofW (cc := cc) (maxL := nL) (ret := some .float) hy rfl ?_
  intro p e s m args below meth c s₁ B hml hv
  obtain ⟨rfl, hsz, hP, hK, hD⟩ := hv
  have fx : FX p s m av.toArray c y.cls cc nL D q := fx_of rfl B (fun h w hw => atoms_spec (ws := Cond.code y cc nL (some .float) :: ALL) h w (List.mem_cons_of_mem _ hw)) hml hK
  have hl := lv_entry av hav
  rw [lg_entry_eq]
  generalize (lg_sl av ++ List.replicate (nL - (lg_sl av).length) Slot.unset).toArray = ls at hl ⊢
  exact body p e s m av.toArray below meth c _ (fun _ => False) s.heap [] ls fx hD hP va_S.rf hl (fun r pc H locs ls hdg hp hS => W.fret fx.1 fx.2.1 B.returns (fun t ht hW => ⟨⟨r, (), rfl, hp, trivial⟩, hS.F ht⟩) hS.2.2 hdg B.notSynchronized)
theorem en_iW {post : Int32 → S → Prop} (hy : plainName y.cls = true) (hav : (lg_sl av).length ≤ nL)
    (body : ∀ (p : Program) (e : Env) (s : State) (m : MethodId) (args : Array Value) (below : List Frame) (meth : Method) (c : Code) (Q : State → Prop) (A : Nat → Prop) (H : Heap) (locs : List Loc) (ls : Array Slot), FX p s m args c y.cls cc nL D q → va_D A ws → (∀ a, s.heap.size ≤ a → A a) →  va_P D vwCl ws H → va_S A s.heap H locs → lv_has ls nL (lv_args 0 av) →
      (∀ (r : Int32) (u : S) (pc : Nat) (H : Heap) (locs : List Loc) (ls : Array Slot), decode cc pc = .ok (.ireturn, 1) → post r u → va_P D vwCl (C u) H → va_S A s.heap H locs → W p l e rm s m args below meth c H locs 0 0 Q (F0 m pc ls [.int r])) →
      W p l e rm s m args below meth c H locs 0 0 Q (F0 m 0 ls [])) :
    Met l y (Cond.code y cc nL (some .int) :: ALL) rm (PC D q av ws sz) (va_Qi post (fun u t => va_P D vwCl (C u) t.heap) (va_A ws sz)) 0 0 (va_A ws sz) := by
  refine Met.ofW (cc := cc) (maxL := nL) (ret := some .int) hy rfl ?_
  intro p e s m args below meth c s₁ B hml hv
  obtain ⟨rfl, hsz, hP, hK, hD⟩ := hv
  have fx : FX p s m av.toArray c y.cls cc nL D q := fx_of rfl B (fun h w hw => atoms_spec (ws := Cond.code y cc nL (some .int) :: ALL) h w (List.mem_cons_of_mem _ hw)) hml hK
  have hl := lv_entry av hav
  rw [lg_entry_eq]
  generalize (lg_sl av ++ List.replicate (nL - (lg_sl av).length) Slot.unset).toArray = ls at hl ⊢
  exact body p e s m av.toArray below meth c _ (va_A ws sz) s.heap [] ls fx hD.self (fun a h => Or.inr (hsz ▸ h)) hP va_S.rf hl (fun r u pc H locs ls hdg hp hB hS => W.iret fx.1 fx.2.1 B.returns (fun t ht hW => ⟨⟨r, u, rfl, hp, by show va_P D vwCl (C u) t.heap; rw [ht]; exact hB⟩, hS.F ht⟩) hS.2.2 hdg B.notSynchronized)
theorem en_zW {post : Int32 → S → Prop} (hy : plainName y.cls = true) (hav : (lg_sl av).length ≤ nL)
    (body : ∀ (p : Program) (e : Env) (s : State) (m : MethodId) (args : Array Value) (below : List Frame) (meth : Method) (c : Code) (Q : State → Prop) (A : Nat → Prop) (H : Heap) (locs : List Loc) (ls : Array Slot), FX p s m args c y.cls cc nL D q → va_D A ws → (∀ a, s.heap.size ≤ a → A a) →  va_P D vwCl ws H → va_S A s.heap H locs → lv_has ls nL (lv_args 0 av) →
      (∀ (r : Int32) (u : S) (pc : Nat) (H : Heap) (locs : List Loc) (ls : Array Slot), decode cc pc = .ok (.ireturn, 1) → bz r → post r u → va_P D vwCl (C u) H → va_S A s.heap H locs → W p l e rm s m args below meth c H locs 0 0 Q (F0 m pc ls [.int r])) →
      W p l e rm s m args below meth c H locs 0 0 Q (F0 m 0 ls [])) :
    Met l y (Cond.code y cc nL (some .boolean) :: ALL) rm (PC D q av ws sz) (va_Qi (fun r u => post r u ∧ bz r) (fun u t => va_P D vwCl (C u) t.heap) (va_A ws sz)) 0 0 (va_A ws sz) := by
  refine Met.ofW (cc := cc) (maxL := nL) (ret := some .boolean) hy rfl ?_
  intro p e s m args below meth c s₁ B hml hv
  obtain ⟨rfl, hsz, hP, hK, hD⟩ := hv
  have fx : FX p s m av.toArray c y.cls cc nL D q := fx_of rfl B (fun h w hw => atoms_spec (ws := Cond.code y cc nL (some .boolean) :: ALL) h w (List.mem_cons_of_mem _ hw)) hml hK
  have hl := lv_entry av hav
  rw [lg_entry_eq]
  generalize (lg_sl av ++ List.replicate (nL - (lg_sl av).length) Slot.unset).toArray = ls at hl ⊢
  exact body p e s m av.toArray below meth c _ (va_A ws sz) s.heap [] ls fx hD.self (fun a h => Or.inr (hsz ▸ h)) hP va_S.rf hl (fun r u pc H locs ls hdg hz hp hB hS => W.zret fx.1 fx.2.1 B.returns (bz_n hz) (fun t ht hW => ⟨⟨r, u, rfl, ⟨hp, hz⟩, by show va_P D vwCl (C u) t.heap; rw [ht]; exact hB⟩, hS.F ht⟩) hS.2.2 hdg B.notSynchronized)
theorem en_lW {post : Int64 → S → Prop} (hy : plainName y.cls = true) (hav : (lg_sl av).length ≤ nL)
    (body : ∀ (p : Program) (e : Env) (s : State) (m : MethodId) (args : Array Value) (below : List Frame) (meth : Method) (c : Code) (Q : State → Prop) (A : Nat → Prop) (H : Heap) (locs : List Loc) (ls : Array Slot), FX p s m args c y.cls cc nL D q → va_D A ws → (∀ a, s.heap.size ≤ a → A a) →  va_P D vwCl ws H → va_S A s.heap H locs → lv_has ls nL (lv_args 0 av) →
      (∀ (r : Int64) (u : S) (pc : Nat) (H : Heap) (locs : List Loc) (ls : Array Slot), decode cc pc = .ok (.lreturn, 1) → post r u → va_P D vwCl (C u) H → va_S A s.heap H locs → W p l e rm s m args below meth c H locs 0 0 Q (F0 m pc ls [.long r])) →
      W p l e rm s m args below meth c H locs 0 0 Q (F0 m 0 ls [])) :
    Met l y (Cond.code y cc nL (some .long) :: ALL) rm (PC D q av ws sz) (va_Ql post (fun u t => va_P D vwCl (C u) t.heap) (va_A ws sz)) 0 0 (va_A ws sz) := by
  refine Met.ofW (cc := cc) (maxL := nL) (ret := some .long) hy rfl ?_
  intro p e s m args below meth c s₁ B hml hv
  obtain ⟨rfl, hsz, hP, hK, hD⟩ := hv
  have fx : FX p s m av.toArray c y.cls cc nL D q := fx_of rfl B (fun h w hw => atoms_spec (ws := Cond.code y cc nL (some .long) :: ALL) h w (List.mem_cons_of_mem _ hw)) hml hK
  have hl := lv_entry av hav
  rw [lg_entry_eq]
  generalize (lg_sl av ++ List.replicate (nL - (lg_sl av).length) Slot.unset).toArray = ls at hl ⊢
  exact body p e s m av.toArray below meth c _ (va_A ws sz) s.heap [] ls fx hD.self (fun a h => Or.inr (hsz ▸ h)) hP va_S.rf hl (fun r u pc H locs ls hdg hp hB hS => W.lret fx.1 fx.2.1 B.returns (fun t ht hW => ⟨⟨r, u, rfl, hp, by show va_P D vwCl (C u) t.heap; rw [ht]; exact hB⟩, hS.F ht⟩) hS.2.2 hdg B.notSynchronized)
theorem en_fW {post : UInt32 → S → Prop} (hy : plainName y.cls = true) (hav : (lg_sl av).length ≤ nL)
    (body : ∀ (p : Program) (e : Env) (s : State) (m : MethodId) (args : Array Value) (below : List Frame) (meth : Method) (c : Code) (Q : State → Prop) (A : Nat → Prop) (H : Heap) (locs : List Loc) (ls : Array Slot), FX p s m args c y.cls cc nL D q → va_D A ws → (∀ a, s.heap.size ≤ a → A a) →  va_P D vwCl ws H → va_S A s.heap H locs → lv_has ls nL (lv_args 0 av) →
      (∀ (r : UInt32) (u : S) (pc : Nat) (H : Heap) (locs : List Loc) (ls : Array Slot), decode cc pc = .ok (.freturn, 1) → post r u → va_P D vwCl (C u) H → va_S A s.heap H locs → W p l e rm s m args below meth c H locs 0 0 Q (F0 m pc ls [.float r])) →
      W p l e rm s m args below meth c H locs 0 0 Q (F0 m 0 ls [])) :
    Met l y (Cond.code y cc nL (some .float) :: ALL) rm (PC D q av ws sz) (va_Qf post (fun u t => va_P D vwCl (C u) t.heap) (va_A ws sz)) 0 0 (va_A ws sz) := by
  refine Met.ofW (cc := cc) (maxL := nL) (ret := some .float) hy rfl ?_
  intro p e s m args below meth c s₁ B hml hv
  obtain ⟨rfl, hsz, hP, hK, hD⟩ := hv
  have fx : FX p s m av.toArray c y.cls cc nL D q := fx_of rfl B (fun h w hw => atoms_spec (ws := Cond.code y cc nL (some .float) :: ALL) h w (List.mem_cons_of_mem _ hw)) hml hK
  have hl := lv_entry av hav
  rw [lg_entry_eq]
  generalize (lg_sl av ++ List.replicate (nL - (lg_sl av).length) Slot.unset).toArray = ls at hl ⊢
  exact body p e s m av.toArray below meth c _ (va_A ws sz) s.heap [] ls fx hD.self (fun a h => Or.inr (hsz ▸ h)) hP va_S.rf hl (fun r u pc H locs ls hdg hp hB hS => W.fret fx.1 fx.2.1 B.returns (fun t ht hW => ⟨⟨r, u, rfl, hp, by show va_P D vwCl (C u) t.heap; rw [ht]; exact hB⟩, hS.F ht⟩) hS.2.2 hdg B.notSynchronized)
theorem en_vW {post : S → Prop} (hy : plainName y.cls = true) (hav : (lg_sl av).length ≤ nL)
    (body : ∀ (p : Program) (e : Env) (s : State) (m : MethodId) (args : Array Value) (below : List Frame) (meth : Method) (c : Code) (Q : State → Prop) (A : Nat → Prop) (H : Heap) (locs : List Loc) (ls : Array Slot), FX p s m args c y.cls cc nL D q → va_D A ws → (∀ a, s.heap.size ≤ a → A a) →  va_P D vwCl ws H → va_S A s.heap H locs → lv_has ls nL (lv_args 0 av) →
      (∀ (u : S) (pc : Nat) (H : Heap) (locs : List Loc) (ls : Array Slot), decode cc pc = .ok (.return_, 1) → post u → va_P D vwCl (C u) H → va_S A s.heap H locs → W p l e rm s m args below meth c H locs 0 0 Q (F0 m pc ls [])) →
      W p l e rm s m args below meth c H locs 0 0 Q (F0 m 0 ls [])) :
    Met l y (Cond.code y cc nL (none) :: ALL) rm (PC D q av ws sz) (va_Qv post (fun u t => va_P D vwCl (C u) t.heap) (va_A ws sz)) 0 0 (va_A ws sz) := by
  refine Met.ofW (cc := cc) (maxL := nL) (ret := none) hy rfl ?_
  intro p e s m args below meth c s₁ B hml hv
  obtain ⟨rfl, hsz, hP, hK, hD⟩ := hv
  have fx : FX p s m av.toArray c y.cls cc nL D q := fx_of rfl B (fun h w hw => atoms_spec (ws := Cond.code y cc nL (none) :: ALL) h w (List.mem_cons_of_mem _ hw)) hml hK
  have hl := lv_entry av hav
  rw [lg_entry_eq]
  generalize (lg_sl av ++ List.replicate (nL - (lg_sl av).length) Slot.unset).toArray = ls at hl ⊢
  exact body p e s m av.toArray below meth c _ (va_A ws sz) s.heap [] ls fx hD.self (fun a h => Or.inr (hsz ▸ h)) hP va_S.rf hl (fun u pc H locs ls hdg hp hB hS => W.vret fx.1 fx.2.1 B.returns (fun t ht hW => ⟨⟨u, rfl, hp, by show va_P D vwCl (C u) t.heap; rw [ht]; exact hB⟩, hS.F ht⟩) hS.2.2 hdg B.notSynchronized)
end ENTER
end BASE
end
section
/-! The state of the objects, as tuples: X Kickroom, W Well, R Rock, T Tests, M KickroomModel; what each holds by its name, and how one is changed. -/
abbrev XS : Type := Int32 × Int32 × Int32 × Int32
def X_stops (z : XS) : Int32 := z.1
def X_pumped (z : XS) : Int32 := z.2.1
def X_latestPumpedWeight (z : XS) : Int32 := z.2.2.1
def X_cement (z : XS) : Int32 := z.2.2.2
def X_set_stops (z : XS) (y : Int32) : XS := (y, z.2.1, z.2.2.1, z.2.2.2)
def X_set_pumped (z : XS) (y : Int32) : XS := (z.1, y, z.2.2.1, z.2.2.2)
def X_set_latestPumpedWeight (z : XS) (y : Int32) : XS := (z.1, z.2.1, y, z.2.2.2)
def X_set_cement (z : XS) (y : Int32) : XS := (z.1, z.2.1, z.2.2.1, y)
theorem X_stops_set_stops (z : XS) (y : Int32) : X_stops (X_set_stops z y) = y := rfl
theorem X_stops_set_pumped (z : XS) (y : Int32) : X_stops (X_set_pumped z y) = X_stops z := rfl
theorem X_stops_set_latestPumpedWeight (z : XS) (y : Int32) : X_stops (X_set_latestPumpedWeight z y) = X_stops z := rfl
theorem X_stops_set_cement (z : XS) (y : Int32) : X_stops (X_set_cement z y) = X_stops z := rfl
theorem X_pumped_set_stops (z : XS) (y : Int32) : X_pumped (X_set_stops z y) = X_pumped z := rfl
theorem X_pumped_set_pumped (z : XS) (y : Int32) : X_pumped (X_set_pumped z y) = y := rfl
theorem X_pumped_set_latestPumpedWeight (z : XS) (y : Int32) : X_pumped (X_set_latestPumpedWeight z y) = X_pumped z := rfl
theorem X_pumped_set_cement (z : XS) (y : Int32) : X_pumped (X_set_cement z y) = X_pumped z := rfl
theorem X_latestPumpedWeight_set_stops (z : XS) (y : Int32) : X_latestPumpedWeight (X_set_stops z y) = X_latestPumpedWeight z := rfl
theorem X_latestPumpedWeight_set_pumped (z : XS) (y : Int32) : X_latestPumpedWeight (X_set_pumped z y) = X_latestPumpedWeight z := rfl
theorem X_latestPumpedWeight_set_latestPumpedWeight (z : XS) (y : Int32) : X_latestPumpedWeight (X_set_latestPumpedWeight z y) = y := rfl
theorem X_latestPumpedWeight_set_cement (z : XS) (y : Int32) : X_latestPumpedWeight (X_set_cement z y) = X_latestPumpedWeight z := rfl
theorem X_cement_set_stops (z : XS) (y : Int32) : X_cement (X_set_stops z y) = X_cement z := rfl
theorem X_cement_set_pumped (z : XS) (y : Int32) : X_cement (X_set_pumped z y) = X_cement z := rfl
theorem X_cement_set_latestPumpedWeight (z : XS) (y : Int32) : X_cement (X_set_latestPumpedWeight z y) = X_cement z := rfl
theorem X_cement_set_cement (z : XS) (y : Int32) : X_cement (X_set_cement z y) = y := rfl
abbrev WS : Type := Int32 × Int32 × Int32 × Int32 × Int32 × Int32 × Int32 × Int64 × Int32 × Int32 × Int32 × Int64 × Int32 × Int32
def W_depth (z : WS) : Int32 := z.1
def W_shoe (z : WS) : Int32 := z.2.1
def W_weight (z : WS) : Int32 := z.2.2.1
def W_isClosed (z : WS) : Int32 := z.2.2.2.1
def W_choke (z : WS) : Int32 := z.2.2.2.2.1
def W_valveStrength (z : WS) : Int32 := z.2.2.2.2.2.1
def W_hasBrokenSinceTest (z : WS) : Int32 := z.2.2.2.2.2.2.1
def W_charge (z : WS) : Int64 := z.2.2.2.2.2.2.2.1
def W_place (z : WS) : Int32 := z.2.2.2.2.2.2.2.2.1
def W_gas (z : WS) : Int32 := z.2.2.2.2.2.2.2.2.2.1
def W_liquid (z : WS) : Int32 := z.2.2.2.2.2.2.2.2.2.2.1
def W_vented (z : WS) : Int64 := z.2.2.2.2.2.2.2.2.2.2.2.1
def W_lost (z : WS) : Int32 := z.2.2.2.2.2.2.2.2.2.2.2.2.1
def W_minutes (z : WS) : Int32 := z.2.2.2.2.2.2.2.2.2.2.2.2.2
def W_set_depth (z : WS) (y : Int32) : WS := (y, z.2.1, z.2.2.1, z.2.2.2.1, z.2.2.2.2.1, z.2.2.2.2.2.1, z.2.2.2.2.2.2.1, z.2.2.2.2.2.2.2.1, z.2.2.2.2.2.2.2.2.1, z.2.2.2.2.2.2.2.2.2.1, z.2.2.2.2.2.2.2.2.2.2.1, z.2.2.2.2.2.2.2.2.2.2.2.1, z.2.2.2.2.2.2.2.2.2.2.2.2.1, z.2.2.2.2.2.2.2.2.2.2.2.2.2)
def W_set_shoe (z : WS) (y : Int32) : WS := (z.1, y, z.2.2.1, z.2.2.2.1, z.2.2.2.2.1, z.2.2.2.2.2.1, z.2.2.2.2.2.2.1, z.2.2.2.2.2.2.2.1, z.2.2.2.2.2.2.2.2.1, z.2.2.2.2.2.2.2.2.2.1, z.2.2.2.2.2.2.2.2.2.2.1, z.2.2.2.2.2.2.2.2.2.2.2.1, z.2.2.2.2.2.2.2.2.2.2.2.2.1, z.2.2.2.2.2.2.2.2.2.2.2.2.2)
def W_set_weight (z : WS) (y : Int32) : WS := (z.1, z.2.1, y, z.2.2.2.1, z.2.2.2.2.1, z.2.2.2.2.2.1, z.2.2.2.2.2.2.1, z.2.2.2.2.2.2.2.1, z.2.2.2.2.2.2.2.2.1, z.2.2.2.2.2.2.2.2.2.1, z.2.2.2.2.2.2.2.2.2.2.1, z.2.2.2.2.2.2.2.2.2.2.2.1, z.2.2.2.2.2.2.2.2.2.2.2.2.1, z.2.2.2.2.2.2.2.2.2.2.2.2.2)
def W_set_isClosed (z : WS) (y : Int32) : WS := (z.1, z.2.1, z.2.2.1, y, z.2.2.2.2.1, z.2.2.2.2.2.1, z.2.2.2.2.2.2.1, z.2.2.2.2.2.2.2.1, z.2.2.2.2.2.2.2.2.1, z.2.2.2.2.2.2.2.2.2.1, z.2.2.2.2.2.2.2.2.2.2.1, z.2.2.2.2.2.2.2.2.2.2.2.1, z.2.2.2.2.2.2.2.2.2.2.2.2.1, z.2.2.2.2.2.2.2.2.2.2.2.2.2)
def W_set_choke (z : WS) (y : Int32) : WS := (z.1, z.2.1, z.2.2.1, z.2.2.2.1, y, z.2.2.2.2.2.1, z.2.2.2.2.2.2.1, z.2.2.2.2.2.2.2.1, z.2.2.2.2.2.2.2.2.1, z.2.2.2.2.2.2.2.2.2.1, z.2.2.2.2.2.2.2.2.2.2.1, z.2.2.2.2.2.2.2.2.2.2.2.1, z.2.2.2.2.2.2.2.2.2.2.2.2.1, z.2.2.2.2.2.2.2.2.2.2.2.2.2)
def W_set_valveStrength (z : WS) (y : Int32) : WS := (z.1, z.2.1, z.2.2.1, z.2.2.2.1, z.2.2.2.2.1, y, z.2.2.2.2.2.2.1, z.2.2.2.2.2.2.2.1, z.2.2.2.2.2.2.2.2.1, z.2.2.2.2.2.2.2.2.2.1, z.2.2.2.2.2.2.2.2.2.2.1, z.2.2.2.2.2.2.2.2.2.2.2.1, z.2.2.2.2.2.2.2.2.2.2.2.2.1, z.2.2.2.2.2.2.2.2.2.2.2.2.2)
def W_set_hasBrokenSinceTest (z : WS) (y : Int32) : WS := (z.1, z.2.1, z.2.2.1, z.2.2.2.1, z.2.2.2.2.1, z.2.2.2.2.2.1, y, z.2.2.2.2.2.2.2.1, z.2.2.2.2.2.2.2.2.1, z.2.2.2.2.2.2.2.2.2.1, z.2.2.2.2.2.2.2.2.2.2.1, z.2.2.2.2.2.2.2.2.2.2.2.1, z.2.2.2.2.2.2.2.2.2.2.2.2.1, z.2.2.2.2.2.2.2.2.2.2.2.2.2)
def W_set_charge (z : WS) (y : Int64) : WS := (z.1, z.2.1, z.2.2.1, z.2.2.2.1, z.2.2.2.2.1, z.2.2.2.2.2.1, z.2.2.2.2.2.2.1, y, z.2.2.2.2.2.2.2.2.1, z.2.2.2.2.2.2.2.2.2.1, z.2.2.2.2.2.2.2.2.2.2.1, z.2.2.2.2.2.2.2.2.2.2.2.1, z.2.2.2.2.2.2.2.2.2.2.2.2.1, z.2.2.2.2.2.2.2.2.2.2.2.2.2)
def W_set_place (z : WS) (y : Int32) : WS := (z.1, z.2.1, z.2.2.1, z.2.2.2.1, z.2.2.2.2.1, z.2.2.2.2.2.1, z.2.2.2.2.2.2.1, z.2.2.2.2.2.2.2.1, y, z.2.2.2.2.2.2.2.2.2.1, z.2.2.2.2.2.2.2.2.2.2.1, z.2.2.2.2.2.2.2.2.2.2.2.1, z.2.2.2.2.2.2.2.2.2.2.2.2.1, z.2.2.2.2.2.2.2.2.2.2.2.2.2)
def W_set_gas (z : WS) (y : Int32) : WS := (z.1, z.2.1, z.2.2.1, z.2.2.2.1, z.2.2.2.2.1, z.2.2.2.2.2.1, z.2.2.2.2.2.2.1, z.2.2.2.2.2.2.2.1, z.2.2.2.2.2.2.2.2.1, y, z.2.2.2.2.2.2.2.2.2.2.1, z.2.2.2.2.2.2.2.2.2.2.2.1, z.2.2.2.2.2.2.2.2.2.2.2.2.1, z.2.2.2.2.2.2.2.2.2.2.2.2.2)
def W_set_liquid (z : WS) (y : Int32) : WS := (z.1, z.2.1, z.2.2.1, z.2.2.2.1, z.2.2.2.2.1, z.2.2.2.2.2.1, z.2.2.2.2.2.2.1, z.2.2.2.2.2.2.2.1, z.2.2.2.2.2.2.2.2.1, z.2.2.2.2.2.2.2.2.2.1, y, z.2.2.2.2.2.2.2.2.2.2.2.1, z.2.2.2.2.2.2.2.2.2.2.2.2.1, z.2.2.2.2.2.2.2.2.2.2.2.2.2)
def W_set_vented (z : WS) (y : Int64) : WS := (z.1, z.2.1, z.2.2.1, z.2.2.2.1, z.2.2.2.2.1, z.2.2.2.2.2.1, z.2.2.2.2.2.2.1, z.2.2.2.2.2.2.2.1, z.2.2.2.2.2.2.2.2.1, z.2.2.2.2.2.2.2.2.2.1, z.2.2.2.2.2.2.2.2.2.2.1, y, z.2.2.2.2.2.2.2.2.2.2.2.2.1, z.2.2.2.2.2.2.2.2.2.2.2.2.2)
def W_set_lost (z : WS) (y : Int32) : WS := (z.1, z.2.1, z.2.2.1, z.2.2.2.1, z.2.2.2.2.1, z.2.2.2.2.2.1, z.2.2.2.2.2.2.1, z.2.2.2.2.2.2.2.1, z.2.2.2.2.2.2.2.2.1, z.2.2.2.2.2.2.2.2.2.1, z.2.2.2.2.2.2.2.2.2.2.1, z.2.2.2.2.2.2.2.2.2.2.2.1, y, z.2.2.2.2.2.2.2.2.2.2.2.2.2)
def W_set_minutes (z : WS) (y : Int32) : WS := (z.1, z.2.1, z.2.2.1, z.2.2.2.1, z.2.2.2.2.1, z.2.2.2.2.2.1, z.2.2.2.2.2.2.1, z.2.2.2.2.2.2.2.1, z.2.2.2.2.2.2.2.2.1, z.2.2.2.2.2.2.2.2.2.1, z.2.2.2.2.2.2.2.2.2.2.1, z.2.2.2.2.2.2.2.2.2.2.2.1, z.2.2.2.2.2.2.2.2.2.2.2.2.1, y)
theorem W_depth_set_depth (z : WS) (y : Int32) : W_depth (W_set_depth z y) = y := rfl
theorem W_depth_set_shoe (z : WS) (y : Int32) : W_depth (W_set_shoe z y) = W_depth z := rfl
theorem W_depth_set_weight (z : WS) (y : Int32) : W_depth (W_set_weight z y) = W_depth z := rfl
theorem W_depth_set_isClosed (z : WS) (y : Int32) : W_depth (W_set_isClosed z y) = W_depth z := rfl
theorem W_depth_set_choke (z : WS) (y : Int32) : W_depth (W_set_choke z y) = W_depth z := rfl
theorem W_depth_set_valveStrength (z : WS) (y : Int32) : W_depth (W_set_valveStrength z y) = W_depth z := rfl
theorem W_depth_set_hasBrokenSinceTest (z : WS) (y : Int32) : W_depth (W_set_hasBrokenSinceTest z y) = W_depth z := rfl
theorem W_depth_set_charge (z : WS) (y : Int64) : W_depth (W_set_charge z y) = W_depth z := rfl
theorem W_depth_set_place (z : WS) (y : Int32) : W_depth (W_set_place z y) = W_depth z := rfl
theorem W_depth_set_gas (z : WS) (y : Int32) : W_depth (W_set_gas z y) = W_depth z := rfl
theorem W_depth_set_liquid (z : WS) (y : Int32) : W_depth (W_set_liquid z y) = W_depth z := rfl
theorem W_depth_set_vented (z : WS) (y : Int64) : W_depth (W_set_vented z y) = W_depth z := rfl
theorem W_depth_set_lost (z : WS) (y : Int32) : W_depth (W_set_lost z y) = W_depth z := rfl
theorem W_depth_set_minutes (z : WS) (y : Int32) : W_depth (W_set_minutes z y) = W_depth z := rfl
theorem W_shoe_set_depth (z : WS) (y : Int32) : W_shoe (W_set_depth z y) = W_shoe z := rfl
theorem W_shoe_set_shoe (z : WS) (y : Int32) : W_shoe (W_set_shoe z y) = y := rfl
theorem W_shoe_set_weight (z : WS) (y : Int32) : W_shoe (W_set_weight z y) = W_shoe z := rfl
theorem W_shoe_set_isClosed (z : WS) (y : Int32) : W_shoe (W_set_isClosed z y) = W_shoe z := rfl
theorem W_shoe_set_choke (z : WS) (y : Int32) : W_shoe (W_set_choke z y) = W_shoe z := rfl
theorem W_shoe_set_valveStrength (z : WS) (y : Int32) : W_shoe (W_set_valveStrength z y) = W_shoe z := rfl
theorem W_shoe_set_hasBrokenSinceTest (z : WS) (y : Int32) : W_shoe (W_set_hasBrokenSinceTest z y) = W_shoe z := rfl
theorem W_shoe_set_charge (z : WS) (y : Int64) : W_shoe (W_set_charge z y) = W_shoe z := rfl
theorem W_shoe_set_place (z : WS) (y : Int32) : W_shoe (W_set_place z y) = W_shoe z := rfl
theorem W_shoe_set_gas (z : WS) (y : Int32) : W_shoe (W_set_gas z y) = W_shoe z := rfl
theorem W_shoe_set_liquid (z : WS) (y : Int32) : W_shoe (W_set_liquid z y) = W_shoe z := rfl
theorem W_shoe_set_vented (z : WS) (y : Int64) : W_shoe (W_set_vented z y) = W_shoe z := rfl
theorem W_shoe_set_lost (z : WS) (y : Int32) : W_shoe (W_set_lost z y) = W_shoe z := rfl
theorem W_shoe_set_minutes (z : WS) (y : Int32) : W_shoe (W_set_minutes z y) = W_shoe z := rfl
theorem W_weight_set_depth (z : WS) (y : Int32) : W_weight (W_set_depth z y) = W_weight z := rfl
theorem W_weight_set_shoe (z : WS) (y : Int32) : W_weight (W_set_shoe z y) = W_weight z := rfl
theorem W_weight_set_weight (z : WS) (y : Int32) : W_weight (W_set_weight z y) = y := rfl
theorem W_weight_set_isClosed (z : WS) (y : Int32) : W_weight (W_set_isClosed z y) = W_weight z := rfl
theorem W_weight_set_choke (z : WS) (y : Int32) : W_weight (W_set_choke z y) = W_weight z := rfl
theorem W_weight_set_valveStrength (z : WS) (y : Int32) : W_weight (W_set_valveStrength z y) = W_weight z := rfl
theorem W_weight_set_hasBrokenSinceTest (z : WS) (y : Int32) : W_weight (W_set_hasBrokenSinceTest z y) = W_weight z := rfl
theorem W_weight_set_charge (z : WS) (y : Int64) : W_weight (W_set_charge z y) = W_weight z := rfl
theorem W_weight_set_place (z : WS) (y : Int32) : W_weight (W_set_place z y) = W_weight z := rfl
theorem W_weight_set_gas (z : WS) (y : Int32) : W_weight (W_set_gas z y) = W_weight z := rfl
theorem W_weight_set_liquid (z : WS) (y : Int32) : W_weight (W_set_liquid z y) = W_weight z := rfl
theorem W_weight_set_vented (z : WS) (y : Int64) : W_weight (W_set_vented z y) = W_weight z := rfl
theorem W_weight_set_lost (z : WS) (y : Int32) : W_weight (W_set_lost z y) = W_weight z := rfl
theorem W_weight_set_minutes (z : WS) (y : Int32) : W_weight (W_set_minutes z y) = W_weight z := rfl
theorem W_isClosed_set_depth (z : WS) (y : Int32) : W_isClosed (W_set_depth z y) = W_isClosed z := rfl
theorem W_isClosed_set_shoe (z : WS) (y : Int32) : W_isClosed (W_set_shoe z y) = W_isClosed z := rfl
theorem W_isClosed_set_weight (z : WS) (y : Int32) : W_isClosed (W_set_weight z y) = W_isClosed z := rfl
theorem W_isClosed_set_isClosed (z : WS) (y : Int32) : W_isClosed (W_set_isClosed z y) = y := rfl
theorem W_isClosed_set_choke (z : WS) (y : Int32) : W_isClosed (W_set_choke z y) = W_isClosed z := rfl
theorem W_isClosed_set_valveStrength (z : WS) (y : Int32) : W_isClosed (W_set_valveStrength z y) = W_isClosed z := rfl
theorem W_isClosed_set_hasBrokenSinceTest (z : WS) (y : Int32) : W_isClosed (W_set_hasBrokenSinceTest z y) = W_isClosed z := rfl
theorem W_isClosed_set_charge (z : WS) (y : Int64) : W_isClosed (W_set_charge z y) = W_isClosed z := rfl
theorem W_isClosed_set_place (z : WS) (y : Int32) : W_isClosed (W_set_place z y) = W_isClosed z := rfl
theorem W_isClosed_set_gas (z : WS) (y : Int32) : W_isClosed (W_set_gas z y) = W_isClosed z := rfl
theorem W_isClosed_set_liquid (z : WS) (y : Int32) : W_isClosed (W_set_liquid z y) = W_isClosed z := rfl
theorem W_isClosed_set_vented (z : WS) (y : Int64) : W_isClosed (W_set_vented z y) = W_isClosed z := rfl
theorem W_isClosed_set_lost (z : WS) (y : Int32) : W_isClosed (W_set_lost z y) = W_isClosed z := rfl
theorem W_isClosed_set_minutes (z : WS) (y : Int32) : W_isClosed (W_set_minutes z y) = W_isClosed z := rfl
theorem W_choke_set_depth (z : WS) (y : Int32) : W_choke (W_set_depth z y) = W_choke z := rfl
theorem W_choke_set_shoe (z : WS) (y : Int32) : W_choke (W_set_shoe z y) = W_choke z := rfl
theorem W_choke_set_weight (z : WS) (y : Int32) : W_choke (W_set_weight z y) = W_choke z := rfl
theorem W_choke_set_isClosed (z : WS) (y : Int32) : W_choke (W_set_isClosed z y) = W_choke z := rfl
theorem W_choke_set_choke (z : WS) (y : Int32) : W_choke (W_set_choke z y) = y := rfl
theorem W_choke_set_valveStrength (z : WS) (y : Int32) : W_choke (W_set_valveStrength z y) = W_choke z := rfl
theorem W_choke_set_hasBrokenSinceTest (z : WS) (y : Int32) : W_choke (W_set_hasBrokenSinceTest z y) = W_choke z := rfl
theorem W_choke_set_charge (z : WS) (y : Int64) : W_choke (W_set_charge z y) = W_choke z := rfl
theorem W_choke_set_place (z : WS) (y : Int32) : W_choke (W_set_place z y) = W_choke z := rfl
theorem W_choke_set_gas (z : WS) (y : Int32) : W_choke (W_set_gas z y) = W_choke z := rfl
theorem W_choke_set_liquid (z : WS) (y : Int32) : W_choke (W_set_liquid z y) = W_choke z := rfl
theorem W_choke_set_vented (z : WS) (y : Int64) : W_choke (W_set_vented z y) = W_choke z := rfl
theorem W_choke_set_lost (z : WS) (y : Int32) : W_choke (W_set_lost z y) = W_choke z := rfl
theorem W_choke_set_minutes (z : WS) (y : Int32) : W_choke (W_set_minutes z y) = W_choke z := rfl
theorem W_valveStrength_set_depth (z : WS) (y : Int32) : W_valveStrength (W_set_depth z y) = W_valveStrength z := rfl
theorem W_valveStrength_set_shoe (z : WS) (y : Int32) : W_valveStrength (W_set_shoe z y) = W_valveStrength z := rfl
theorem W_valveStrength_set_weight (z : WS) (y : Int32) : W_valveStrength (W_set_weight z y) = W_valveStrength z := rfl
theorem W_valveStrength_set_isClosed (z : WS) (y : Int32) : W_valveStrength (W_set_isClosed z y) = W_valveStrength z := rfl
theorem W_valveStrength_set_choke (z : WS) (y : Int32) : W_valveStrength (W_set_choke z y) = W_valveStrength z := rfl
theorem W_valveStrength_set_valveStrength (z : WS) (y : Int32) : W_valveStrength (W_set_valveStrength z y) = y := rfl
theorem W_valveStrength_set_hasBrokenSinceTest (z : WS) (y : Int32) : W_valveStrength (W_set_hasBrokenSinceTest z y) = W_valveStrength z := rfl
theorem W_valveStrength_set_charge (z : WS) (y : Int64) : W_valveStrength (W_set_charge z y) = W_valveStrength z := rfl
theorem W_valveStrength_set_place (z : WS) (y : Int32) : W_valveStrength (W_set_place z y) = W_valveStrength z := rfl
theorem W_valveStrength_set_gas (z : WS) (y : Int32) : W_valveStrength (W_set_gas z y) = W_valveStrength z := rfl
theorem W_valveStrength_set_liquid (z : WS) (y : Int32) : W_valveStrength (W_set_liquid z y) = W_valveStrength z := rfl
theorem W_valveStrength_set_vented (z : WS) (y : Int64) : W_valveStrength (W_set_vented z y) = W_valveStrength z := rfl
theorem W_valveStrength_set_lost (z : WS) (y : Int32) : W_valveStrength (W_set_lost z y) = W_valveStrength z := rfl
theorem W_valveStrength_set_minutes (z : WS) (y : Int32) : W_valveStrength (W_set_minutes z y) = W_valveStrength z := rfl
theorem W_hasBrokenSinceTest_set_depth (z : WS) (y : Int32) : W_hasBrokenSinceTest (W_set_depth z y) = W_hasBrokenSinceTest z := rfl
theorem W_hasBrokenSinceTest_set_shoe (z : WS) (y : Int32) : W_hasBrokenSinceTest (W_set_shoe z y) = W_hasBrokenSinceTest z := rfl
theorem W_hasBrokenSinceTest_set_weight (z : WS) (y : Int32) : W_hasBrokenSinceTest (W_set_weight z y) = W_hasBrokenSinceTest z := rfl
theorem W_hasBrokenSinceTest_set_isClosed (z : WS) (y : Int32) : W_hasBrokenSinceTest (W_set_isClosed z y) = W_hasBrokenSinceTest z := rfl
theorem W_hasBrokenSinceTest_set_choke (z : WS) (y : Int32) : W_hasBrokenSinceTest (W_set_choke z y) = W_hasBrokenSinceTest z := rfl
theorem W_hasBrokenSinceTest_set_valveStrength (z : WS) (y : Int32) : W_hasBrokenSinceTest (W_set_valveStrength z y) = W_hasBrokenSinceTest z := rfl
theorem W_hasBrokenSinceTest_set_hasBrokenSinceTest (z : WS) (y : Int32) : W_hasBrokenSinceTest (W_set_hasBrokenSinceTest z y) = y := rfl
theorem W_hasBrokenSinceTest_set_charge (z : WS) (y : Int64) : W_hasBrokenSinceTest (W_set_charge z y) = W_hasBrokenSinceTest z := rfl
theorem W_hasBrokenSinceTest_set_place (z : WS) (y : Int32) : W_hasBrokenSinceTest (W_set_place z y) = W_hasBrokenSinceTest z := rfl
theorem W_hasBrokenSinceTest_set_gas (z : WS) (y : Int32) : W_hasBrokenSinceTest (W_set_gas z y) = W_hasBrokenSinceTest z := rfl
theorem W_hasBrokenSinceTest_set_liquid (z : WS) (y : Int32) : W_hasBrokenSinceTest (W_set_liquid z y) = W_hasBrokenSinceTest z := rfl
theorem W_hasBrokenSinceTest_set_vented (z : WS) (y : Int64) : W_hasBrokenSinceTest (W_set_vented z y) = W_hasBrokenSinceTest z := rfl
theorem W_hasBrokenSinceTest_set_lost (z : WS) (y : Int32) : W_hasBrokenSinceTest (W_set_lost z y) = W_hasBrokenSinceTest z := rfl
theorem W_hasBrokenSinceTest_set_minutes (z : WS) (y : Int32) : W_hasBrokenSinceTest (W_set_minutes z y) = W_hasBrokenSinceTest z := rfl
theorem W_charge_set_depth (z : WS) (y : Int32) : W_charge (W_set_depth z y) = W_charge z := rfl
theorem W_charge_set_shoe (z : WS) (y : Int32) : W_charge (W_set_shoe z y) = W_charge z := rfl
theorem W_charge_set_weight (z : WS) (y : Int32) : W_charge (W_set_weight z y) = W_charge z := rfl
theorem W_charge_set_isClosed (z : WS) (y : Int32) : W_charge (W_set_isClosed z y) = W_charge z := rfl
theorem W_charge_set_choke (z : WS) (y : Int32) : W_charge (W_set_choke z y) = W_charge z := rfl
theorem W_charge_set_valveStrength (z : WS) (y : Int32) : W_charge (W_set_valveStrength z y) = W_charge z := rfl
theorem W_charge_set_hasBrokenSinceTest (z : WS) (y : Int32) : W_charge (W_set_hasBrokenSinceTest z y) = W_charge z := rfl
theorem W_charge_set_charge (z : WS) (y : Int64) : W_charge (W_set_charge z y) = y := rfl
theorem W_charge_set_place (z : WS) (y : Int32) : W_charge (W_set_place z y) = W_charge z := rfl
theorem W_charge_set_gas (z : WS) (y : Int32) : W_charge (W_set_gas z y) = W_charge z := rfl
theorem W_charge_set_liquid (z : WS) (y : Int32) : W_charge (W_set_liquid z y) = W_charge z := rfl
theorem W_charge_set_vented (z : WS) (y : Int64) : W_charge (W_set_vented z y) = W_charge z := rfl
theorem W_charge_set_lost (z : WS) (y : Int32) : W_charge (W_set_lost z y) = W_charge z := rfl
theorem W_charge_set_minutes (z : WS) (y : Int32) : W_charge (W_set_minutes z y) = W_charge z := rfl
theorem W_place_set_depth (z : WS) (y : Int32) : W_place (W_set_depth z y) = W_place z := rfl
theorem W_place_set_shoe (z : WS) (y : Int32) : W_place (W_set_shoe z y) = W_place z := rfl
theorem W_place_set_weight (z : WS) (y : Int32) : W_place (W_set_weight z y) = W_place z := rfl
theorem W_place_set_isClosed (z : WS) (y : Int32) : W_place (W_set_isClosed z y) = W_place z := rfl
theorem W_place_set_choke (z : WS) (y : Int32) : W_place (W_set_choke z y) = W_place z := rfl
theorem W_place_set_valveStrength (z : WS) (y : Int32) : W_place (W_set_valveStrength z y) = W_place z := rfl
theorem W_place_set_hasBrokenSinceTest (z : WS) (y : Int32) : W_place (W_set_hasBrokenSinceTest z y) = W_place z := rfl
theorem W_place_set_charge (z : WS) (y : Int64) : W_place (W_set_charge z y) = W_place z := rfl
theorem W_place_set_place (z : WS) (y : Int32) : W_place (W_set_place z y) = y := rfl
theorem W_place_set_gas (z : WS) (y : Int32) : W_place (W_set_gas z y) = W_place z := rfl
theorem W_place_set_liquid (z : WS) (y : Int32) : W_place (W_set_liquid z y) = W_place z := rfl
theorem W_place_set_vented (z : WS) (y : Int64) : W_place (W_set_vented z y) = W_place z := rfl
theorem W_place_set_lost (z : WS) (y : Int32) : W_place (W_set_lost z y) = W_place z := rfl
theorem W_place_set_minutes (z : WS) (y : Int32) : W_place (W_set_minutes z y) = W_place z := rfl
theorem W_gas_set_depth (z : WS) (y : Int32) : W_gas (W_set_depth z y) = W_gas z := rfl
theorem W_gas_set_shoe (z : WS) (y : Int32) : W_gas (W_set_shoe z y) = W_gas z := rfl
theorem W_gas_set_weight (z : WS) (y : Int32) : W_gas (W_set_weight z y) = W_gas z := rfl
theorem W_gas_set_isClosed (z : WS) (y : Int32) : W_gas (W_set_isClosed z y) = W_gas z := rfl
theorem W_gas_set_choke (z : WS) (y : Int32) : W_gas (W_set_choke z y) = W_gas z := rfl
theorem W_gas_set_valveStrength (z : WS) (y : Int32) : W_gas (W_set_valveStrength z y) = W_gas z := rfl
theorem W_gas_set_hasBrokenSinceTest (z : WS) (y : Int32) : W_gas (W_set_hasBrokenSinceTest z y) = W_gas z := rfl
theorem W_gas_set_charge (z : WS) (y : Int64) : W_gas (W_set_charge z y) = W_gas z := rfl
theorem W_gas_set_place (z : WS) (y : Int32) : W_gas (W_set_place z y) = W_gas z := rfl
theorem W_gas_set_gas (z : WS) (y : Int32) : W_gas (W_set_gas z y) = y := rfl
theorem W_gas_set_liquid (z : WS) (y : Int32) : W_gas (W_set_liquid z y) = W_gas z := rfl
theorem W_gas_set_vented (z : WS) (y : Int64) : W_gas (W_set_vented z y) = W_gas z := rfl
theorem W_gas_set_lost (z : WS) (y : Int32) : W_gas (W_set_lost z y) = W_gas z := rfl
theorem W_gas_set_minutes (z : WS) (y : Int32) : W_gas (W_set_minutes z y) = W_gas z := rfl
theorem W_liquid_set_depth (z : WS) (y : Int32) : W_liquid (W_set_depth z y) = W_liquid z := rfl
theorem W_liquid_set_shoe (z : WS) (y : Int32) : W_liquid (W_set_shoe z y) = W_liquid z := rfl
theorem W_liquid_set_weight (z : WS) (y : Int32) : W_liquid (W_set_weight z y) = W_liquid z := rfl
theorem W_liquid_set_isClosed (z : WS) (y : Int32) : W_liquid (W_set_isClosed z y) = W_liquid z := rfl
theorem W_liquid_set_choke (z : WS) (y : Int32) : W_liquid (W_set_choke z y) = W_liquid z := rfl
theorem W_liquid_set_valveStrength (z : WS) (y : Int32) : W_liquid (W_set_valveStrength z y) = W_liquid z := rfl
theorem W_liquid_set_hasBrokenSinceTest (z : WS) (y : Int32) : W_liquid (W_set_hasBrokenSinceTest z y) = W_liquid z := rfl
theorem W_liquid_set_charge (z : WS) (y : Int64) : W_liquid (W_set_charge z y) = W_liquid z := rfl
theorem W_liquid_set_place (z : WS) (y : Int32) : W_liquid (W_set_place z y) = W_liquid z := rfl
theorem W_liquid_set_gas (z : WS) (y : Int32) : W_liquid (W_set_gas z y) = W_liquid z := rfl
theorem W_liquid_set_liquid (z : WS) (y : Int32) : W_liquid (W_set_liquid z y) = y := rfl
theorem W_liquid_set_vented (z : WS) (y : Int64) : W_liquid (W_set_vented z y) = W_liquid z := rfl
theorem W_liquid_set_lost (z : WS) (y : Int32) : W_liquid (W_set_lost z y) = W_liquid z := rfl
theorem W_liquid_set_minutes (z : WS) (y : Int32) : W_liquid (W_set_minutes z y) = W_liquid z := rfl
theorem W_vented_set_depth (z : WS) (y : Int32) : W_vented (W_set_depth z y) = W_vented z := rfl
theorem W_vented_set_shoe (z : WS) (y : Int32) : W_vented (W_set_shoe z y) = W_vented z := rfl
theorem W_vented_set_weight (z : WS) (y : Int32) : W_vented (W_set_weight z y) = W_vented z := rfl
theorem W_vented_set_isClosed (z : WS) (y : Int32) : W_vented (W_set_isClosed z y) = W_vented z := rfl
theorem W_vented_set_choke (z : WS) (y : Int32) : W_vented (W_set_choke z y) = W_vented z := rfl
theorem W_vented_set_valveStrength (z : WS) (y : Int32) : W_vented (W_set_valveStrength z y) = W_vented z := rfl
theorem W_vented_set_hasBrokenSinceTest (z : WS) (y : Int32) : W_vented (W_set_hasBrokenSinceTest z y) = W_vented z := rfl
theorem W_vented_set_charge (z : WS) (y : Int64) : W_vented (W_set_charge z y) = W_vented z := rfl
theorem W_vented_set_place (z : WS) (y : Int32) : W_vented (W_set_place z y) = W_vented z := rfl
theorem W_vented_set_gas (z : WS) (y : Int32) : W_vented (W_set_gas z y) = W_vented z := rfl
theorem W_vented_set_liquid (z : WS) (y : Int32) : W_vented (W_set_liquid z y) = W_vented z := rfl
theorem W_vented_set_vented (z : WS) (y : Int64) : W_vented (W_set_vented z y) = y := rfl
theorem W_vented_set_lost (z : WS) (y : Int32) : W_vented (W_set_lost z y) = W_vented z := rfl
theorem W_vented_set_minutes (z : WS) (y : Int32) : W_vented (W_set_minutes z y) = W_vented z := rfl
theorem W_lost_set_depth (z : WS) (y : Int32) : W_lost (W_set_depth z y) = W_lost z := rfl
theorem W_lost_set_shoe (z : WS) (y : Int32) : W_lost (W_set_shoe z y) = W_lost z := rfl
theorem W_lost_set_weight (z : WS) (y : Int32) : W_lost (W_set_weight z y) = W_lost z := rfl
theorem W_lost_set_isClosed (z : WS) (y : Int32) : W_lost (W_set_isClosed z y) = W_lost z := rfl
theorem W_lost_set_choke (z : WS) (y : Int32) : W_lost (W_set_choke z y) = W_lost z := rfl
theorem W_lost_set_valveStrength (z : WS) (y : Int32) : W_lost (W_set_valveStrength z y) = W_lost z := rfl
theorem W_lost_set_hasBrokenSinceTest (z : WS) (y : Int32) : W_lost (W_set_hasBrokenSinceTest z y) = W_lost z := rfl
theorem W_lost_set_charge (z : WS) (y : Int64) : W_lost (W_set_charge z y) = W_lost z := rfl
theorem W_lost_set_place (z : WS) (y : Int32) : W_lost (W_set_place z y) = W_lost z := rfl
theorem W_lost_set_gas (z : WS) (y : Int32) : W_lost (W_set_gas z y) = W_lost z := rfl
theorem W_lost_set_liquid (z : WS) (y : Int32) : W_lost (W_set_liquid z y) = W_lost z := rfl
theorem W_lost_set_vented (z : WS) (y : Int64) : W_lost (W_set_vented z y) = W_lost z := rfl
theorem W_lost_set_lost (z : WS) (y : Int32) : W_lost (W_set_lost z y) = y := rfl
theorem W_lost_set_minutes (z : WS) (y : Int32) : W_lost (W_set_minutes z y) = W_lost z := rfl
theorem W_minutes_set_depth (z : WS) (y : Int32) : W_minutes (W_set_depth z y) = W_minutes z := rfl
theorem W_minutes_set_shoe (z : WS) (y : Int32) : W_minutes (W_set_shoe z y) = W_minutes z := rfl
theorem W_minutes_set_weight (z : WS) (y : Int32) : W_minutes (W_set_weight z y) = W_minutes z := rfl
theorem W_minutes_set_isClosed (z : WS) (y : Int32) : W_minutes (W_set_isClosed z y) = W_minutes z := rfl
theorem W_minutes_set_choke (z : WS) (y : Int32) : W_minutes (W_set_choke z y) = W_minutes z := rfl
theorem W_minutes_set_valveStrength (z : WS) (y : Int32) : W_minutes (W_set_valveStrength z y) = W_minutes z := rfl
theorem W_minutes_set_hasBrokenSinceTest (z : WS) (y : Int32) : W_minutes (W_set_hasBrokenSinceTest z y) = W_minutes z := rfl
theorem W_minutes_set_charge (z : WS) (y : Int64) : W_minutes (W_set_charge z y) = W_minutes z := rfl
theorem W_minutes_set_place (z : WS) (y : Int32) : W_minutes (W_set_place z y) = W_minutes z := rfl
theorem W_minutes_set_gas (z : WS) (y : Int32) : W_minutes (W_set_gas z y) = W_minutes z := rfl
theorem W_minutes_set_liquid (z : WS) (y : Int32) : W_minutes (W_set_liquid z y) = W_minutes z := rfl
theorem W_minutes_set_vented (z : WS) (y : Int64) : W_minutes (W_set_vented z y) = W_minutes z := rfl
theorem W_minutes_set_lost (z : WS) (y : Int32) : W_minutes (W_set_lost z y) = W_minutes z := rfl
theorem W_minutes_set_minutes (z : WS) (y : Int32) : W_minutes (W_set_minutes z y) = y := rfl
abbrev RS : Type := (Nat → Int32) × (Nat → Int32) × (Nat → Int32) × (Nat → Int32) × (Nat → Int32)
def R_pores (z : RS) : (Nat → Int32) := z.1
def R_breaks (z : RS) : (Nat → Int32) := z.2.1
def R_rates (z : RS) : (Nat → Int32) := z.2.2.1
def R_gases (z : RS) : (Nat → Int32) := z.2.2.2.1
def R_pieces (z : RS) : (Nat → Int32) := z.2.2.2.2
def R_set_pores (z : RS) (y : (Nat → Int32)) : RS := (y, z.2.1, z.2.2.1, z.2.2.2.1, z.2.2.2.2)
def R_set_breaks (z : RS) (y : (Nat → Int32)) : RS := (z.1, y, z.2.2.1, z.2.2.2.1, z.2.2.2.2)
def R_set_rates (z : RS) (y : (Nat → Int32)) : RS := (z.1, z.2.1, y, z.2.2.2.1, z.2.2.2.2)
def R_set_gases (z : RS) (y : (Nat → Int32)) : RS := (z.1, z.2.1, z.2.2.1, y, z.2.2.2.2)
def R_set_pieces (z : RS) (y : (Nat → Int32)) : RS := (z.1, z.2.1, z.2.2.1, z.2.2.2.1, y)
theorem R_pores_set_pores (z : RS) (y : (Nat → Int32)) : R_pores (R_set_pores z y) = y := rfl
theorem R_pores_set_breaks (z : RS) (y : (Nat → Int32)) : R_pores (R_set_breaks z y) = R_pores z := rfl
theorem R_pores_set_rates (z : RS) (y : (Nat → Int32)) : R_pores (R_set_rates z y) = R_pores z := rfl
theorem R_pores_set_gases (z : RS) (y : (Nat → Int32)) : R_pores (R_set_gases z y) = R_pores z := rfl
theorem R_pores_set_pieces (z : RS) (y : (Nat → Int32)) : R_pores (R_set_pieces z y) = R_pores z := rfl
theorem R_breaks_set_pores (z : RS) (y : (Nat → Int32)) : R_breaks (R_set_pores z y) = R_breaks z := rfl
theorem R_breaks_set_breaks (z : RS) (y : (Nat → Int32)) : R_breaks (R_set_breaks z y) = y := rfl
theorem R_breaks_set_rates (z : RS) (y : (Nat → Int32)) : R_breaks (R_set_rates z y) = R_breaks z := rfl
theorem R_breaks_set_gases (z : RS) (y : (Nat → Int32)) : R_breaks (R_set_gases z y) = R_breaks z := rfl
theorem R_breaks_set_pieces (z : RS) (y : (Nat → Int32)) : R_breaks (R_set_pieces z y) = R_breaks z := rfl
theorem R_rates_set_pores (z : RS) (y : (Nat → Int32)) : R_rates (R_set_pores z y) = R_rates z := rfl
theorem R_rates_set_breaks (z : RS) (y : (Nat → Int32)) : R_rates (R_set_breaks z y) = R_rates z := rfl
theorem R_rates_set_rates (z : RS) (y : (Nat → Int32)) : R_rates (R_set_rates z y) = y := rfl
theorem R_rates_set_gases (z : RS) (y : (Nat → Int32)) : R_rates (R_set_gases z y) = R_rates z := rfl
theorem R_rates_set_pieces (z : RS) (y : (Nat → Int32)) : R_rates (R_set_pieces z y) = R_rates z := rfl
theorem R_gases_set_pores (z : RS) (y : (Nat → Int32)) : R_gases (R_set_pores z y) = R_gases z := rfl
theorem R_gases_set_breaks (z : RS) (y : (Nat → Int32)) : R_gases (R_set_breaks z y) = R_gases z := rfl
theorem R_gases_set_rates (z : RS) (y : (Nat → Int32)) : R_gases (R_set_rates z y) = R_gases z := rfl
theorem R_gases_set_gases (z : RS) (y : (Nat → Int32)) : R_gases (R_set_gases z y) = y := rfl
theorem R_gases_set_pieces (z : RS) (y : (Nat → Int32)) : R_gases (R_set_pieces z y) = R_gases z := rfl
theorem R_pieces_set_pores (z : RS) (y : (Nat → Int32)) : R_pieces (R_set_pores z y) = R_pieces z := rfl
theorem R_pieces_set_breaks (z : RS) (y : (Nat → Int32)) : R_pieces (R_set_breaks z y) = R_pieces z := rfl
theorem R_pieces_set_rates (z : RS) (y : (Nat → Int32)) : R_pieces (R_set_rates z y) = R_pieces z := rfl
theorem R_pieces_set_gases (z : RS) (y : (Nat → Int32)) : R_pieces (R_set_gases z y) = R_pieces z := rfl
theorem R_pieces_set_pieces (z : RS) (y : (Nat → Int32)) : R_pieces (R_set_pieces z y) = y := rfl
abbrev TS : Type := (Nat → Int32) × (Nat → Int32) × (Nat → Int32) × (Nat → Int32) × Int32 × Int32 × Int32
def T_whats (z : TS) : (Nat → Int32) := z.1
def T_pressures (z : TS) : (Nat → Int32) := z.2.1
def T_passes (z : TS) : (Nat → Int32) := z.2.2.1
def T_minutes (z : TS) : (Nat → Int32) := z.2.2.2.1
def T_count (z : TS) : Int32 := z.2.2.2.2.1
def T_latestOfValve (z : TS) : Int32 := z.2.2.2.2.2.1
def T_latestOfCement (z : TS) : Int32 := z.2.2.2.2.2.2
def T_set_whats (z : TS) (y : (Nat → Int32)) : TS := (y, z.2.1, z.2.2.1, z.2.2.2.1, z.2.2.2.2.1, z.2.2.2.2.2.1, z.2.2.2.2.2.2)
def T_set_pressures (z : TS) (y : (Nat → Int32)) : TS := (z.1, y, z.2.2.1, z.2.2.2.1, z.2.2.2.2.1, z.2.2.2.2.2.1, z.2.2.2.2.2.2)
def T_set_passes (z : TS) (y : (Nat → Int32)) : TS := (z.1, z.2.1, y, z.2.2.2.1, z.2.2.2.2.1, z.2.2.2.2.2.1, z.2.2.2.2.2.2)
def T_set_minutes (z : TS) (y : (Nat → Int32)) : TS := (z.1, z.2.1, z.2.2.1, y, z.2.2.2.2.1, z.2.2.2.2.2.1, z.2.2.2.2.2.2)
def T_set_count (z : TS) (y : Int32) : TS := (z.1, z.2.1, z.2.2.1, z.2.2.2.1, y, z.2.2.2.2.2.1, z.2.2.2.2.2.2)
def T_set_latestOfValve (z : TS) (y : Int32) : TS := (z.1, z.2.1, z.2.2.1, z.2.2.2.1, z.2.2.2.2.1, y, z.2.2.2.2.2.2)
def T_set_latestOfCement (z : TS) (y : Int32) : TS := (z.1, z.2.1, z.2.2.1, z.2.2.2.1, z.2.2.2.2.1, z.2.2.2.2.2.1, y)
theorem T_whats_set_whats (z : TS) (y : (Nat → Int32)) : T_whats (T_set_whats z y) = y := rfl
theorem T_whats_set_pressures (z : TS) (y : (Nat → Int32)) : T_whats (T_set_pressures z y) = T_whats z := rfl
theorem T_whats_set_passes (z : TS) (y : (Nat → Int32)) : T_whats (T_set_passes z y) = T_whats z := rfl
theorem T_whats_set_minutes (z : TS) (y : (Nat → Int32)) : T_whats (T_set_minutes z y) = T_whats z := rfl
theorem T_whats_set_count (z : TS) (y : Int32) : T_whats (T_set_count z y) = T_whats z := rfl
theorem T_whats_set_latestOfValve (z : TS) (y : Int32) : T_whats (T_set_latestOfValve z y) = T_whats z := rfl
theorem T_whats_set_latestOfCement (z : TS) (y : Int32) : T_whats (T_set_latestOfCement z y) = T_whats z := rfl
theorem T_pressures_set_whats (z : TS) (y : (Nat → Int32)) : T_pressures (T_set_whats z y) = T_pressures z := rfl
theorem T_pressures_set_pressures (z : TS) (y : (Nat → Int32)) : T_pressures (T_set_pressures z y) = y := rfl
theorem T_pressures_set_passes (z : TS) (y : (Nat → Int32)) : T_pressures (T_set_passes z y) = T_pressures z := rfl
theorem T_pressures_set_minutes (z : TS) (y : (Nat → Int32)) : T_pressures (T_set_minutes z y) = T_pressures z := rfl
theorem T_pressures_set_count (z : TS) (y : Int32) : T_pressures (T_set_count z y) = T_pressures z := rfl
theorem T_pressures_set_latestOfValve (z : TS) (y : Int32) : T_pressures (T_set_latestOfValve z y) = T_pressures z := rfl
theorem T_pressures_set_latestOfCement (z : TS) (y : Int32) : T_pressures (T_set_latestOfCement z y) = T_pressures z := rfl
theorem T_passes_set_whats (z : TS) (y : (Nat → Int32)) : T_passes (T_set_whats z y) = T_passes z := rfl
theorem T_passes_set_pressures (z : TS) (y : (Nat → Int32)) : T_passes (T_set_pressures z y) = T_passes z := rfl
theorem T_passes_set_passes (z : TS) (y : (Nat → Int32)) : T_passes (T_set_passes z y) = y := rfl
theorem T_passes_set_minutes (z : TS) (y : (Nat → Int32)) : T_passes (T_set_minutes z y) = T_passes z := rfl
theorem T_passes_set_count (z : TS) (y : Int32) : T_passes (T_set_count z y) = T_passes z := rfl
theorem T_passes_set_latestOfValve (z : TS) (y : Int32) : T_passes (T_set_latestOfValve z y) = T_passes z := rfl
theorem T_passes_set_latestOfCement (z : TS) (y : Int32) : T_passes (T_set_latestOfCement z y) = T_passes z := rfl
theorem T_minutes_set_whats (z : TS) (y : (Nat → Int32)) : T_minutes (T_set_whats z y) = T_minutes z := rfl
theorem T_minutes_set_pressures (z : TS) (y : (Nat → Int32)) : T_minutes (T_set_pressures z y) = T_minutes z := rfl
theorem T_minutes_set_passes (z : TS) (y : (Nat → Int32)) : T_minutes (T_set_passes z y) = T_minutes z := rfl
theorem T_minutes_set_minutes (z : TS) (y : (Nat → Int32)) : T_minutes (T_set_minutes z y) = y := rfl
theorem T_minutes_set_count (z : TS) (y : Int32) : T_minutes (T_set_count z y) = T_minutes z := rfl
theorem T_minutes_set_latestOfValve (z : TS) (y : Int32) : T_minutes (T_set_latestOfValve z y) = T_minutes z := rfl
theorem T_minutes_set_latestOfCement (z : TS) (y : Int32) : T_minutes (T_set_latestOfCement z y) = T_minutes z := rfl
theorem T_count_set_whats (z : TS) (y : (Nat → Int32)) : T_count (T_set_whats z y) = T_count z := rfl
theorem T_count_set_pressures (z : TS) (y : (Nat → Int32)) : T_count (T_set_pressures z y) = T_count z := rfl
theorem T_count_set_passes (z : TS) (y : (Nat → Int32)) : T_count (T_set_passes z y) = T_count z := rfl
theorem T_count_set_minutes (z : TS) (y : (Nat → Int32)) : T_count (T_set_minutes z y) = T_count z := rfl
theorem T_count_set_count (z : TS) (y : Int32) : T_count (T_set_count z y) = y := rfl
theorem T_count_set_latestOfValve (z : TS) (y : Int32) : T_count (T_set_latestOfValve z y) = T_count z := rfl
theorem T_count_set_latestOfCement (z : TS) (y : Int32) : T_count (T_set_latestOfCement z y) = T_count z := rfl
theorem T_latestOfValve_set_whats (z : TS) (y : (Nat → Int32)) : T_latestOfValve (T_set_whats z y) = T_latestOfValve z := rfl
theorem T_latestOfValve_set_pressures (z : TS) (y : (Nat → Int32)) : T_latestOfValve (T_set_pressures z y) = T_latestOfValve z := rfl
theorem T_latestOfValve_set_passes (z : TS) (y : (Nat → Int32)) : T_latestOfValve (T_set_passes z y) = T_latestOfValve z := rfl
theorem T_latestOfValve_set_minutes (z : TS) (y : (Nat → Int32)) : T_latestOfValve (T_set_minutes z y) = T_latestOfValve z := rfl
theorem T_latestOfValve_set_count (z : TS) (y : Int32) : T_latestOfValve (T_set_count z y) = T_latestOfValve z := rfl
theorem T_latestOfValve_set_latestOfValve (z : TS) (y : Int32) : T_latestOfValve (T_set_latestOfValve z y) = y := rfl
theorem T_latestOfValve_set_latestOfCement (z : TS) (y : Int32) : T_latestOfValve (T_set_latestOfCement z y) = T_latestOfValve z := rfl
theorem T_latestOfCement_set_whats (z : TS) (y : (Nat → Int32)) : T_latestOfCement (T_set_whats z y) = T_latestOfCement z := rfl
theorem T_latestOfCement_set_pressures (z : TS) (y : (Nat → Int32)) : T_latestOfCement (T_set_pressures z y) = T_latestOfCement z := rfl
theorem T_latestOfCement_set_passes (z : TS) (y : (Nat → Int32)) : T_latestOfCement (T_set_passes z y) = T_latestOfCement z := rfl
theorem T_latestOfCement_set_minutes (z : TS) (y : (Nat → Int32)) : T_latestOfCement (T_set_minutes z y) = T_latestOfCement z := rfl
theorem T_latestOfCement_set_count (z : TS) (y : Int32) : T_latestOfCement (T_set_count z y) = T_latestOfCement z := rfl
theorem T_latestOfCement_set_latestOfValve (z : TS) (y : Int32) : T_latestOfCement (T_set_latestOfValve z y) = T_latestOfCement z := rfl
theorem T_latestOfCement_set_latestOfCement (z : TS) (y : Int32) : T_latestOfCement (T_set_latestOfCement z y) = y := rfl
def aI (q : Nat → ClassId) (a n : Nat) (f : Nat → Int32) : Nat × va_E := (a, .inl (q 0, n, .inl f))
def aZ (q : Nat → ClassId) (a n : Nat) (f : Nat → Int32) : Nat × va_E := (a, .inl (q 1, n, .inl f))
def aJ (q : Nat → ClassId) (a n : Nat) (f : Nat → Int64) : Nat × va_E := (a, .inl (q 2, n, .inr (.inl f)))
def oR (k : Nat → Nat) : Nat × va_E := (k 0, .inr (0, [.ref (k 1), .ref (k 2), .ref (k 3), .ref (k 4), .ref (k 5)]))
def oT (k : Nat → Nat) (z : TS) : Nat × va_E := (k 0, .inr (1, [.ref (k 1), .ref (k 2), .ref (k 3), .ref (k 4), .int (T_count z), .int (T_latestOfValve z), .int (T_latestOfCement z)]))
def oW (h rr : Nat) (z : WS) : Nat × va_E := (h, .inr (2, [.ref rr, .int (W_depth z), .int (W_shoe z), .int (W_weight z), .int (W_isClosed z), .int (W_choke z), .int (W_valveStrength z), .int (W_hasBrokenSinceTest z), .long (W_charge z), .int (W_place z), .int (W_gas z), .int (W_liquid z), .long (W_vented z), .int (W_lost z), .int (W_minutes z)]))
def oX (h rr hw ht tt : Nat) (z : XS) : Nat × va_E := (h, .inr (3, [.ref rr, .ref hw, .ref ht, .ref tt, .int (X_stops z), .int (X_pumped z), .int (X_latestPumpedWeight z), .int (X_cement z)]))
def cRock (k : Nat → Nat) (q : Nat → ClassId) (r : RS) : va_W := [oR k, aI q (k 1) 50 (R_pores r), aI q (k 2) 50 (R_breaks r), aI q (k 3) 50 (R_rates r), aI q (k 4) 50 (R_gases r), aI q (k 5) 50 (R_pieces r)]
def cTests (k : Nat → Nat) (q : Nat → ClassId) (t : TS) : va_W := [oT k t, aI q (k 1) 60 (T_whats t), aI q (k 2) 60 (T_pressures t), aI q (k 3) 60 (T_passes t), aI q (k 4) 60 (T_minutes t)]
def cWell (h : Nat) (kr : Nat → Nat) (q : Nat → ClassId) (w : WS) (r : RS) : va_W := oW h (kr 0) w :: cRock kr q r
def cTwo (h h2 : Nat) (kr : Nat → Nat) (q : Nat → ClassId) (w w2 : WS) : va_W := [oW h (kr 0) w, oW h2 (kr 0) w2]
def cKick (h hw ht : Nat) (kr kt : Nat → Nat) (q : Nat → ClassId) (x : XS) (w v : WS) (r : RS) (t : TS) : va_W := oX h (kr 0) hw ht (kt 0) x :: oW hw (kr 0) w :: oW ht (kr 0) v :: (cRock kr q r ++ cTests kt q t)
theorem fst_Rock (k : Nat → Nat) (q : Nat → ClassId) (r : RS) : (cRock k q r).map Prod.fst = [k 0, k 1, k 2, k 3, k 4, k 5] := rfl
theorem fst_Tests (k : Nat → Nat) (q : Nat → ClassId) (t : TS) : (cTests k q t).map Prod.fst = [k 0, k 1, k 2, k 3, k 4] := rfl
theorem fst_Well (h : Nat) (k : Nat → Nat) (q : Nat → ClassId) (w : WS) (r : RS) : (cWell h k q w r).map Prod.fst = [h, k 0, k 1, k 2, k 3, k 4, k 5] := rfl
theorem fst_Two (h h2 : Nat) (k : Nat → Nat) (q : Nat → ClassId) (w w2 : WS) : (cTwo h h2 k q w w2).map Prod.fst = [h, h2] := rfl
theorem fst_Kick (h aw av : Nat) (k kt : Nat → Nat) (q : Nat → ClassId) (x : XS) (w v : WS) (r : RS) (t : TS) : (cKick h aw av k kt q x w v r t).map Prod.fst = [h, aw, av, k 0, k 1, k 2, k 3, k 4, k 5, kt 0, kt 1, kt 2, kt 3, kt 4] := rfl
def cPair (h aw av : Nat) (kr kt : Nat → Nat) (h2 aw2 av2 : Nat) (kr2 kt2 : Nat → Nat) (q : Nat → ClassId) (x : XS) (w v : WS) (r : RS) (t : TS) (x2 : XS) (w2 v2 : WS) (r2 : RS) (t2 : TS) : va_W := oX h (kr 0) aw av (kt 0) x :: oW aw (kr 0) w :: oW av (kr 0) v :: (cRock kr q r ++ (cTests kt q t ++ cKick h2 aw2 av2 kr2 kt2 q x2 w2 v2 r2 t2))
theorem fst_Pair (h aw av : Nat) (k kt : Nat → Nat) (h2 aw2 av2 : Nat) (k2 kt2 : Nat → Nat) (q : Nat → ClassId) (x : XS) (w v : WS) (r : RS) (t : TS) (x2 : XS) (w2 v2 : WS) (r2 : RS) (t2 : TS) : (cPair h aw av k kt h2 aw2 av2 k2 kt2 q x w v r t x2 w2 v2 r2 t2).map Prod.fst = [h, aw, av, k 0, k 1, k 2, k 3, k 4, k 5, kt 0, kt 1, kt 2, kt 3, kt 4, h2, aw2, av2, k2 0, k2 1, k2 2, k2 3, k2 4, k2 5, kt2 0, kt2 1, kt2 2, kt2 3, kt2 4] := rfl
def cArr (a n : Nat) (q : Nat → ClassId) (f : Nat → Int32) : va_W := [aI q a n f]
theorem fst_Arr (a n : Nat) (q : Nat → ClassId) (f : Nat → Int32) : (cArr a n q f).map Prod.fst = [a] := rfl
end
section
/-! The words by their places, the links of the calls, a row for each field that is read or written. -/
theorem mm_0 : Cond.fieldLink RX0 9 "Kickroom$Rock" "pores" "[I" ∈ ALL := ALL_i (List.mem_append_right _ (List.mem_append_left _ (List.mem_of_getElem? (i := 31) (by decide +kernel)))) (by decide +kernel)
theorem mm_1 : Cond.methodLink RX0 37 yX0_layerOf ∈ ALL := ALL_i (List.mem_append_right _ (List.mem_append_right _ (List.mem_append_left _ (List.mem_of_getElem? (i := 128) (by decide +kernel))))) (by decide +kernel)
theorem mm_2 : Cond.static yX0_layerOf ∈ ALL := ALL_i (List.mem_append_right _ (List.mem_append_right _ (List.mem_append_left _ (List.mem_of_getElem? (i := 129) (by decide +kernel))))) (by decide +kernel)
theorem mm_3 : Cond.initialized RX0 ∈ ALL := ALL_i (List.mem_append_right _ (List.mem_append_left _ (List.mem_of_getElem? (i := 2) (by decide +kernel)))) (by decide +kernel)
theorem mm_4 : Cond.code yX0_layerOf cX0_layerOf 1 (some .int) ∈ ALL := ALL_i (List.mem_append_right _ (List.mem_append_right _ (List.mem_append_left _ (List.mem_of_getElem? (i := 130) (by decide +kernel))))) (by decide +kernel)
theorem mm_5 : Cond.static yX3_read ∈ ALL := ALL_i (List.mem_append_right _ (List.mem_append_right _ (List.mem_append_left _ (List.mem_of_getElem? (i := 132) (by decide +kernel))))) (by decide +kernel)
theorem mm_6 : Cond.initialized RX3 ∈ ALL := ALL_i (List.mem_append_right _ (List.mem_append_left _ (List.mem_of_getElem? (i := 1) (by decide +kernel)))) (by decide +kernel)
theorem mm_7 : Cond.code yX3_read cX3_read 2 (some .int) ∈ ALL := ALL_i (List.mem_append_right _ (List.mem_append_right _ (List.mem_append_left _ (List.mem_of_getElem? (i := 133) (by decide +kernel))))) (by decide +kernel)
theorem mm_8 : Cond.fieldLink RX0 15 "Kickroom$Rock" "breaks" "[I" ∈ ALL := ALL_i (List.mem_append_right _ (List.mem_append_left _ (List.mem_of_getElem? (i := 32) (by decide +kernel)))) (by decide +kernel)
theorem mm_9 : Cond.fieldLink RX0 18 "Kickroom$Rock" "rates" "[I" ∈ ALL := ALL_i (List.mem_append_right _ (List.mem_append_left _ (List.mem_of_getElem? (i := 33) (by decide +kernel)))) (by decide +kernel)
theorem mm_10 : Cond.fieldLink RX0 21 "Kickroom$Rock" "gases" "[I" ∈ ALL := ALL_i (List.mem_append_right _ (List.mem_append_left _ (List.mem_of_getElem? (i := 34) (by decide +kernel)))) (by decide +kernel)
theorem mm_11 : Cond.static yX3_write ∈ ALL := ALL_i (List.mem_append_right _ (List.mem_append_right _ (List.mem_append_left _ (List.mem_of_getElem? (i := 30) (by decide +kernel))))) (by decide +kernel)
theorem mm_12 : Cond.code yX3_write cX3_write 3 none ∈ ALL := ALL_i (List.mem_append_right _ (List.mem_append_right _ (List.mem_append_left _ (List.mem_of_getElem? (i := 31) (by decide +kernel))))) (by decide +kernel)
theorem mm_13 : Cond.methodLink RX0 45 Lib.Math.max.name ∈ ALL := ALL_i (List.mem_append_right _ (List.mem_append_right _ (List.mem_append_right _ (List.mem_of_getElem? (i := 103) (by decide +kernel))))) (by decide +kernel)
theorem mm_14 : Cond.methodLink RX0 51 Lib.Math.min.name ∈ ALL := ALL_i (List.mem_append_right _ (List.mem_append_right _ (List.mem_append_right _ (List.mem_of_getElem? (i := 98) (by decide +kernel))))) (by decide +kernel)
theorem mm_15 : Cond.fieldLink RX0 24 "Kickroom$Rock" "pieces" "[I" ∈ ALL := ALL_i (List.mem_append_right _ (List.mem_append_left _ (List.mem_of_getElem? (i := 35) (by decide +kernel)))) (by decide +kernel)
theorem mm_16 : Cond.methodLink RX0 54 yX0_leastPiecesTo ∈ ALL := ALL_i (List.mem_append_right _ (List.mem_append_right _ (List.mem_append_right _ (List.mem_of_getElem? (i := 127) (by decide +kernel))))) (by decide +kernel)
theorem mm_17 : Cond.instanceMethod yX0_leastPiecesTo ∈ ALL := ALL_i (List.mem_append_right _ (List.mem_append_right _ (List.mem_append_right _ (List.mem_of_getElem? (i := 129) (by decide +kernel))))) (by decide +kernel)
theorem mm_18 : Cond.selects RX0 yX0_leastPiecesTo yX0_leastPiecesTo ∈ ALL := ALL_i (List.mem_append_left _ (List.mem_of_getElem? (i := 31) (by decide +kernel))) (by decide +kernel)
theorem mm_19 : Cond.code yX0_leastPiecesTo cX0_leastPiecesTo 8 (some .int) ∈ ALL := ALL_i (List.mem_append_right _ (List.mem_append_right _ (List.mem_append_right _ (List.mem_of_getElem? (i := 130) (by decide +kernel))))) (by decide +kernel)
theorem mm_20 : Cond.fieldLink RX1 9 "Kickroom$Tests" "whats" "[I" ∈ ALL := ALL_i (List.mem_append_right _ (List.mem_append_left _ (List.mem_of_getElem? (i := 119) (by decide +kernel)))) (by decide +kernel)
theorem mm_21 : Cond.fieldLink RX1 31 "Kickroom$Tests" "count" "I" ∈ ALL := ALL_i (List.mem_append_right _ (List.mem_append_left _ (List.mem_of_getElem? (i := 127) (by decide +kernel)))) (by decide +kernel)
theorem mm_22 : Cond.fieldLink RX1 15 "Kickroom$Tests" "pressures" "[I" ∈ ALL := ALL_i (List.mem_append_right _ (List.mem_append_left _ (List.mem_of_getElem? (i := 121) (by decide +kernel)))) (by decide +kernel)
theorem mm_23 : Cond.fieldLink RX1 18 "Kickroom$Tests" "passes" "[I" ∈ ALL := ALL_i (List.mem_append_right _ (List.mem_append_left _ (List.mem_of_getElem? (i := 123) (by decide +kernel)))) (by decide +kernel)
theorem mm_24 : Cond.fieldLink RX1 21 "Kickroom$Tests" "minutes" "[I" ∈ ALL := ALL_i (List.mem_append_right _ (List.mem_append_left _ (List.mem_of_getElem? (i := 125) (by decide +kernel)))) (by decide +kernel)
theorem mm_25 : Cond.fieldLink RX1 28 "Kickroom$Tests" "latestOfCement" "I" ∈ ALL := ALL_i (List.mem_append_right _ (List.mem_append_left _ (List.mem_of_getElem? (i := 131) (by decide +kernel)))) (by decide +kernel)
theorem mm_26 : Cond.fieldLink RX1 24 "Kickroom$Tests" "latestOfValve" "I" ∈ ALL := ALL_i (List.mem_append_right _ (List.mem_append_left _ (List.mem_of_getElem? (i := 129) (by decide +kernel)))) (by decide +kernel)
theorem mm_27 : Cond.fieldLink RX2 36 "Kickroom$Well" "charge" "J" ∈ ALL := ALL_i (List.mem_append_right _ (List.mem_append_left _ (List.mem_of_getElem? (i := 69) (by decide +kernel)))) (by decide +kernel)
theorem mm_28 : Cond.methodLink RX2 58 yX2_hasGas ∈ ALL := ALL_i (List.mem_append_right _ (List.mem_append_right _ (List.mem_append_left _ (List.mem_of_getElem? (i := 101) (by decide +kernel))))) (by decide +kernel)
theorem mm_29 : Cond.instanceMethod yX2_hasGas ∈ ALL := ALL_i (List.mem_append_right _ (List.mem_append_right _ (List.mem_append_left _ (List.mem_of_getElem? (i := 103) (by decide +kernel))))) (by decide +kernel)
theorem mm_30 : Cond.selects RX2 yX2_hasGas yX2_hasGas ∈ ALL := ALL_i (List.mem_append_left _ (List.mem_of_getElem? (i := 4) (by decide +kernel))) (by decide +kernel)
theorem mm_31 : Cond.initialized RX2 ∈ ALL := ALL_i (List.mem_append_right _ (List.mem_append_left _ (List.mem_of_getElem? (i := 4) (by decide +kernel)))) (by decide +kernel)
theorem mm_32 : Cond.code yX2_hasGas cX2_hasGas 1 (some .boolean) ∈ ALL := ALL_i (List.mem_append_right _ (List.mem_append_right _ (List.mem_append_left _ (List.mem_of_getElem? (i := 104) (by decide +kernel))))) (by decide +kernel)
theorem mm_33 : Cond.fieldLink RX2 46 "Kickroom$Well" "liquid" "I" ∈ ALL := ALL_i (List.mem_append_right _ (List.mem_append_left _ (List.mem_of_getElem? (i := 74) (by decide +kernel)))) (by decide +kernel)
theorem mm_34 : Cond.fieldLink RX2 13 "Kickroom$Well" "weight" "I" ∈ ALL := ALL_i (List.mem_append_right _ (List.mem_append_left _ (List.mem_of_getElem? (i := 59) (by decide +kernel)))) (by decide +kernel)
theorem mm_35 : Cond.fieldLink RX2 20 "Kickroom$Well" "depth" "I" ∈ ALL := ALL_i (List.mem_append_right _ (List.mem_append_left _ (List.mem_of_getElem? (i := 55) (by decide +kernel)))) (by decide +kernel)
theorem mm_36 : Cond.fieldLink RX2 43 "Kickroom$Well" "gas" "I" ∈ ALL := ALL_i (List.mem_append_right _ (List.mem_append_left _ (List.mem_of_getElem? (i := 72) (by decide +kernel)))) (by decide +kernel)
theorem mm_37 : Cond.methodLink RX2 62 Lib.Math.max.name ∈ ALL := ALL_i (List.mem_append_right _ (List.mem_append_right _ (List.mem_append_left _ (List.mem_of_getElem? (i := 121) (by decide +kernel))))) (by decide +kernel)
theorem mm_38 : Cond.methodLink RX2 68 yX2_column ∈ ALL := ALL_i (List.mem_append_right _ (List.mem_append_right _ (List.mem_append_left _ (List.mem_of_getElem? (i := 117) (by decide +kernel))))) (by decide +kernel)
theorem mm_39 : Cond.instanceMethod yX2_column ∈ ALL := ALL_i (List.mem_append_right _ (List.mem_append_right _ (List.mem_append_left _ (List.mem_of_getElem? (i := 119) (by decide +kernel))))) (by decide +kernel)
theorem mm_40 : Cond.selects RX2 yX2_column yX2_column ∈ ALL := ALL_i (List.mem_append_left _ (List.mem_of_getElem? (i := 7) (by decide +kernel))) (by decide +kernel)
theorem mm_41 : Cond.code yX2_column cX2_column 1 (some .int) ∈ ALL := ALL_i (List.mem_append_right _ (List.mem_append_right _ (List.mem_append_left _ (List.mem_of_getElem? (i := 120) (by decide +kernel))))) (by decide +kernel)
theorem mm_42 : Cond.fieldLink RX2 30 "Kickroom$Well" "choke" "I" ∈ ALL := ALL_i (List.mem_append_right _ (List.mem_append_left _ (List.mem_of_getElem? (i := 63) (by decide +kernel)))) (by decide +kernel)
theorem mm_43 : Cond.fieldLink RX2 40 "Kickroom$Well" "place" "I" ∈ ALL := ALL_i (List.mem_append_right _ (List.mem_append_left _ (List.mem_of_getElem? (i := 70) (by decide +kernel)))) (by decide +kernel)
theorem mm_44 : Cond.fieldLink RX2 23 "Kickroom$Well" "shoe" "I" ∈ ALL := ALL_i (List.mem_append_right _ (List.mem_append_left _ (List.mem_of_getElem? (i := 57) (by decide +kernel)))) (by decide +kernel)
theorem mm_45 : Cond.methodLink RX2 95 yX2_gasPressure ∈ ALL := ALL_i (List.mem_append_right _ (List.mem_append_right _ (List.mem_append_left _ (List.mem_of_getElem? (i := 175) (by decide +kernel))))) (by decide +kernel)
theorem mm_46 : Cond.instanceMethod yX2_gasPressure ∈ ALL := ALL_i (List.mem_append_right _ (List.mem_append_right _ (List.mem_append_left _ (List.mem_of_getElem? (i := 177) (by decide +kernel))))) (by decide +kernel)
theorem mm_47 : Cond.selects RX2 yX2_gasPressure yX2_gasPressure ∈ ALL := ALL_i (List.mem_append_left _ (List.mem_of_getElem? (i := 17) (by decide +kernel))) (by decide +kernel)
theorem mm_48 : Cond.code yX2_gasPressure cX2_gasPressure 1 (some .int) ∈ ALL := ALL_i (List.mem_append_right _ (List.mem_append_right _ (List.mem_append_left _ (List.mem_of_getElem? (i := 178) (by decide +kernel))))) (by decide +kernel)
theorem mm_49 : Cond.methodLink RX2 98 Lib.MathLoose.min_long.x ∈ ALL := ALL_i (List.mem_append_right _ (List.mem_append_right _ (List.mem_append_left _ (List.mem_of_getElem? (i := 179) (by decide +kernel))))) (by decide +kernel)
theorem mm_50 : Cond.fieldLink RX2 26 "Kickroom$Well" "isClosed" "Z" ∈ ALL := ALL_i (List.mem_append_right _ (List.mem_append_left _ (List.mem_of_getElem? (i := 61) (by decide +kernel)))) (by decide +kernel)
theorem mm_51 : Cond.fieldLink RX2 49 "Kickroom$Well" "vented" "J" ∈ ALL := ALL_i (List.mem_append_right _ (List.mem_append_left _ (List.mem_of_getElem? (i := 76) (by decide +kernel)))) (by decide +kernel)
theorem mm_52 : Cond.fieldLink RX2 7 "Kickroom$Well" "rock" "LKickroom$Rock;" ∈ ALL := ALL_i (List.mem_append_right _ (List.mem_append_left _ (List.mem_of_getElem? (i := 54) (by decide +kernel)))) (by decide +kernel)
theorem mm_53 : Cond.instanceMethod yX0_poreAt ∈ ALL := ALL_i (List.mem_append_right _ (List.mem_append_right _ (List.mem_append_left _ (List.mem_of_getElem? (i := 126) (by decide +kernel))))) (by decide +kernel)
theorem mm_54 : Cond.selects RX0 yX0_poreAt yX0_poreAt ∈ ALL := ALL_i (List.mem_append_left _ (List.mem_of_getElem? (i := 8) (by decide +kernel))) (by decide +kernel)
theorem mm_55 : Cond.code yX0_poreAt cX0_poreAt 2 (some .int) ∈ ALL := ALL_i (List.mem_append_right _ (List.mem_append_right _ (List.mem_append_left _ (List.mem_of_getElem? (i := 127) (by decide +kernel))))) (by decide +kernel)
theorem mm_56 : Cond.fieldLink RX2 17 "Kickroom$Well" "valveStrength" "I" ∈ ALL := ALL_i (List.mem_append_right _ (List.mem_append_left _ (List.mem_of_getElem? (i := 65) (by decide +kernel)))) (by decide +kernel)
theorem mm_57 : Cond.fieldLink RX2 33 "Kickroom$Well" "hasBrokenSinceTest" "Z" ∈ ALL := ALL_i (List.mem_append_right _ (List.mem_append_left _ (List.mem_of_getElem? (i := 67) (by decide +kernel)))) (by decide +kernel)
theorem mm_58 : Cond.methodLink RX2 108 yX2_bottom ∈ ALL := ALL_i (List.mem_append_right _ (List.mem_append_right _ (List.mem_append_left _ (List.mem_of_getElem? (i := 191) (by decide +kernel))))) (by decide +kernel)
theorem mm_59 : Cond.instanceMethod yX2_bottom ∈ ALL := ALL_i (List.mem_append_right _ (List.mem_append_right _ (List.mem_append_left _ (List.mem_of_getElem? (i := 115) (by decide +kernel))))) (by decide +kernel)
theorem mm_60 : Cond.selects RX2 yX2_bottom yX2_bottom ∈ ALL := ALL_i (List.mem_append_left _ (List.mem_of_getElem? (i := 6) (by decide +kernel))) (by decide +kernel)
theorem mm_61 : Cond.code yX2_bottom cX2_bottom 1 (some .int) ∈ ALL := ALL_i (List.mem_append_right _ (List.mem_append_right _ (List.mem_append_left _ (List.mem_of_getElem? (i := 116) (by decide +kernel))))) (by decide +kernel)
theorem mm_62 : Cond.instanceMethod yX0_rateAt ∈ ALL := ALL_i (List.mem_append_right _ (List.mem_append_right _ (List.mem_append_left _ (List.mem_of_getElem? (i := 194) (by decide +kernel))))) (by decide +kernel)
theorem mm_63 : Cond.selects RX0 yX0_rateAt yX0_rateAt ∈ ALL := ALL_i (List.mem_append_left _ (List.mem_of_getElem? (i := 20) (by decide +kernel))) (by decide +kernel)
theorem mm_64 : Cond.code yX0_rateAt cX0_rateAt 2 (some .int) ∈ ALL := ALL_i (List.mem_append_right _ (List.mem_append_right _ (List.mem_append_left _ (List.mem_of_getElem? (i := 195) (by decide +kernel))))) (by decide +kernel)
theorem mm_65 : Cond.methodLink RX2 114 Lib.Math.min.name ∈ ALL := ALL_i (List.mem_append_right _ (List.mem_append_right _ (List.mem_append_left _ (List.mem_of_getElem? (i := 196) (by decide +kernel))))) (by decide +kernel)
theorem mm_66 : Cond.instanceMethod yX0_bearsGasAt ∈ ALL := ALL_i (List.mem_append_right _ (List.mem_append_right _ (List.mem_append_left _ (List.mem_of_getElem? (i := 201) (by decide +kernel))))) (by decide +kernel)
theorem mm_67 : Cond.selects RX0 yX0_bearsGasAt yX0_bearsGasAt ∈ ALL := ALL_i (List.mem_append_left _ (List.mem_of_getElem? (i := 21) (by decide +kernel))) (by decide +kernel)
theorem mm_68 : Cond.code yX0_bearsGasAt cX0_bearsGasAt 2 (some .boolean) ∈ ALL := ALL_i (List.mem_append_right _ (List.mem_append_right _ (List.mem_append_left _ (List.mem_of_getElem? (i := 202) (by decide +kernel))))) (by decide +kernel)
theorem mm_69 : Cond.methodLink RX2 83 yX2_measureGas ∈ ALL := ALL_i (List.mem_append_right _ (List.mem_append_right _ (List.mem_append_left _ (List.mem_of_getElem? (i := 171) (by decide +kernel))))) (by decide +kernel)
theorem mm_70 : Cond.instanceMethod yX2_measureGas ∈ ALL := ALL_i (List.mem_append_right _ (List.mem_append_right _ (List.mem_append_left _ (List.mem_of_getElem? (i := 173) (by decide +kernel))))) (by decide +kernel)
theorem mm_71 : Cond.selects RX2 yX2_measureGas yX2_measureGas ∈ ALL := ALL_i (List.mem_append_left _ (List.mem_of_getElem? (i := 16) (by decide +kernel))) (by decide +kernel)
theorem mm_72 : Cond.code yX2_measureGas cX2_measureGas 2 none ∈ ALL := ALL_i (List.mem_append_right _ (List.mem_append_right _ (List.mem_append_left _ (List.mem_of_getElem? (i := 174) (by decide +kernel))))) (by decide +kernel)
theorem mm_73 : Cond.methodLink RX2 120 yX2_foot ∈ ALL := ALL_i (List.mem_append_right _ (List.mem_append_right _ (List.mem_append_left _ (List.mem_of_getElem? (i := 207) (by decide +kernel))))) (by decide +kernel)
theorem mm_74 : Cond.instanceMethod yX2_foot ∈ ALL := ALL_i (List.mem_append_right _ (List.mem_append_right _ (List.mem_append_left _ (List.mem_of_getElem? (i := 209) (by decide +kernel))))) (by decide +kernel)
theorem mm_75 : Cond.selects RX2 yX2_foot yX2_foot ∈ ALL := ALL_i (List.mem_append_left _ (List.mem_of_getElem? (i := 23) (by decide +kernel))) (by decide +kernel)
theorem mm_76 : Cond.code yX2_foot cX2_foot 3 (some .int) ∈ ALL := ALL_i (List.mem_append_right _ (List.mem_append_right _ (List.mem_append_left _ (List.mem_of_getElem? (i := 210) (by decide +kernel))))) (by decide +kernel)
theorem mm_77 : Cond.instanceMethod yX0_breakAt ∈ ALL := ALL_i (List.mem_append_right _ (List.mem_append_right _ (List.mem_append_left _ (List.mem_of_getElem? (i := 213) (by decide +kernel))))) (by decide +kernel)
theorem mm_78 : Cond.selects RX0 yX0_breakAt yX0_breakAt ∈ ALL := ALL_i (List.mem_append_left _ (List.mem_of_getElem? (i := 24) (by decide +kernel))) (by decide +kernel)
theorem mm_79 : Cond.code yX0_breakAt cX0_breakAt 2 (some .int) ∈ ALL := ALL_i (List.mem_append_right _ (List.mem_append_right _ (List.mem_append_left _ (List.mem_of_getElem? (i := 214) (by decide +kernel))))) (by decide +kernel)
theorem mm_80 : Cond.fieldLink RX2 52 "Kickroom$Well" "lost" "I" ∈ ALL := ALL_i (List.mem_append_right _ (List.mem_append_left _ (List.mem_of_getElem? (i := 78) (by decide +kernel)))) (by decide +kernel)
theorem mm_81 : Cond.fieldLink RX2 55 "Kickroom$Well" "minutes" "I" ∈ ALL := ALL_i (List.mem_append_right _ (List.mem_append_left _ (List.mem_of_getElem? (i := 80) (by decide +kernel)))) (by decide +kernel)
theorem mm_82 : Cond.methodLink RX2 76 yX2_raiseGas ∈ ALL := ALL_i (List.mem_append_right _ (List.mem_append_right _ (List.mem_append_left _ (List.mem_of_getElem? (i := 163) (by decide +kernel))))) (by decide +kernel)
theorem mm_83 : Cond.instanceMethod yX2_raiseGas ∈ ALL := ALL_i (List.mem_append_right _ (List.mem_append_right _ (List.mem_append_left _ (List.mem_of_getElem? (i := 165) (by decide +kernel))))) (by decide +kernel)
theorem mm_84 : Cond.selects RX2 yX2_raiseGas yX2_raiseGas ∈ ALL := ALL_i (List.mem_append_left _ (List.mem_of_getElem? (i := 14) (by decide +kernel))) (by decide +kernel)
theorem mm_85 : Cond.code yX2_raiseGas cX2_raiseGas 3 none ∈ ALL := ALL_i (List.mem_append_right _ (List.mem_append_right _ (List.mem_append_left _ (List.mem_of_getElem? (i := 166) (by decide +kernel))))) (by decide +kernel)
theorem mm_86 : Cond.methodLink RX2 80 yX2_ventGas ∈ ALL := ALL_i (List.mem_append_right _ (List.mem_append_right _ (List.mem_append_left _ (List.mem_of_getElem? (i := 167) (by decide +kernel))))) (by decide +kernel)
theorem mm_87 : Cond.instanceMethod yX2_ventGas ∈ ALL := ALL_i (List.mem_append_right _ (List.mem_append_right _ (List.mem_append_left _ (List.mem_of_getElem? (i := 169) (by decide +kernel))))) (by decide +kernel)
theorem mm_88 : Cond.selects RX2 yX2_ventGas yX2_ventGas ∈ ALL := ALL_i (List.mem_append_left _ (List.mem_of_getElem? (i := 15) (by decide +kernel))) (by decide +kernel)
theorem mm_89 : Cond.code yX2_ventGas cX2_ventGas 2 none ∈ ALL := ALL_i (List.mem_append_right _ (List.mem_append_right _ (List.mem_append_left _ (List.mem_of_getElem? (i := 170) (by decide +kernel))))) (by decide +kernel)
theorem mm_90 : Cond.methodLink RX2 86 yX2_setChoke ∈ ALL := ALL_i (List.mem_append_right _ (List.mem_append_right _ (List.mem_append_left _ (List.mem_of_getElem? (i := 182) (by decide +kernel))))) (by decide +kernel)
theorem mm_91 : Cond.instanceMethod yX2_setChoke ∈ ALL := ALL_i (List.mem_append_right _ (List.mem_append_right _ (List.mem_append_left _ (List.mem_of_getElem? (i := 184) (by decide +kernel))))) (by decide +kernel)
theorem mm_92 : Cond.selects RX2 yX2_setChoke yX2_setChoke ∈ ALL := ALL_i (List.mem_append_left _ (List.mem_of_getElem? (i := 18) (by decide +kernel))) (by decide +kernel)
theorem mm_93 : Cond.code yX2_setChoke cX2_setChoke 1 none ∈ ALL := ALL_i (List.mem_append_right _ (List.mem_append_right _ (List.mem_append_left _ (List.mem_of_getElem? (i := 185) (by decide +kernel))))) (by decide +kernel)
theorem mm_94 : Cond.methodLink RX2 89 yX2_flowIn ∈ ALL := ALL_i (List.mem_append_right _ (List.mem_append_right _ (List.mem_append_left _ (List.mem_of_getElem? (i := 187) (by decide +kernel))))) (by decide +kernel)
theorem mm_95 : Cond.instanceMethod yX2_flowIn ∈ ALL := ALL_i (List.mem_append_right _ (List.mem_append_right _ (List.mem_append_left _ (List.mem_of_getElem? (i := 189) (by decide +kernel))))) (by decide +kernel)
theorem mm_96 : Cond.selects RX2 yX2_flowIn yX2_flowIn ∈ ALL := ALL_i (List.mem_append_left _ (List.mem_of_getElem? (i := 19) (by decide +kernel))) (by decide +kernel)
theorem mm_97 : Cond.code yX2_flowIn cX2_flowIn 3 (some .boolean) ∈ ALL := ALL_i (List.mem_append_right _ (List.mem_append_right _ (List.mem_append_left _ (List.mem_of_getElem? (i := 190) (by decide +kernel))))) (by decide +kernel)
theorem mm_98 : Cond.methodLink RX2 92 yX2_loseAtShoe ∈ ALL := ALL_i (List.mem_append_right _ (List.mem_append_right _ (List.mem_append_left _ (List.mem_of_getElem? (i := 203) (by decide +kernel))))) (by decide +kernel)
theorem mm_99 : Cond.instanceMethod yX2_loseAtShoe ∈ ALL := ALL_i (List.mem_append_right _ (List.mem_append_right _ (List.mem_append_left _ (List.mem_of_getElem? (i := 205) (by decide +kernel))))) (by decide +kernel)
theorem mm_100 : Cond.selects RX2 yX2_loseAtShoe yX2_loseAtShoe ∈ ALL := ALL_i (List.mem_append_left _ (List.mem_of_getElem? (i := 22) (by decide +kernel))) (by decide +kernel)
theorem mm_101 : Cond.code yX2_loseAtShoe cX2_loseAtShoe 1 none ∈ ALL := ALL_i (List.mem_append_right _ (List.mem_append_right _ (List.mem_append_left _ (List.mem_of_getElem? (i := 206) (by decide +kernel))))) (by decide +kernel)
theorem mm_102 : Cond.methodLink RX2 72 yX2_letMinuteGo ∈ ALL := ALL_i (List.mem_append_right _ (List.mem_append_right _ (List.mem_append_left _ (List.mem_of_getElem? (i := 228) (by decide +kernel))))) (by decide +kernel)
theorem mm_103 : Cond.instanceMethod yX2_letMinuteGo ∈ ALL := ALL_i (List.mem_append_right _ (List.mem_append_right _ (List.mem_append_left _ (List.mem_of_getElem? (i := 161) (by decide +kernel))))) (by decide +kernel)
theorem mm_104 : Cond.selects RX2 yX2_letMinuteGo yX2_letMinuteGo ∈ ALL := ALL_i (List.mem_append_left _ (List.mem_of_getElem? (i := 13) (by decide +kernel))) (by decide +kernel)
theorem mm_105 : Cond.code yX2_letMinuteGo cX2_letMinuteGo 3 (some .boolean) ∈ ALL := ALL_i (List.mem_append_right _ (List.mem_append_right _ (List.mem_append_left _ (List.mem_of_getElem? (i := 162) (by decide +kernel))))) (by decide +kernel)
theorem mm_106 : Cond.fieldLink RX3 21 "Kickroom" "well" "LKickroom$Well;" ∈ ALL := ALL_i (List.mem_append_right _ (List.mem_append_left _ (List.mem_of_getElem? (i := 149) (by decide +kernel)))) (by decide +kernel)
theorem mm_107 : Cond.constant RX3 138 (100000) ∈ ALL := ALL_i (List.mem_append_right _ (List.mem_append_left _ (List.mem_of_getElem? (i := 180) (by decide +kernel)))) (by decide +kernel)
theorem mm_108 : Cond.instanceMethod yX2_hasInflow ∈ ALL := ALL_i (List.mem_append_right _ (List.mem_append_right _ (List.mem_append_left _ (List.mem_of_getElem? (i := 99) (by decide +kernel))))) (by decide +kernel)
theorem mm_109 : Cond.selects RX2 yX2_hasInflow yX2_hasInflow ∈ ALL := ALL_i (List.mem_append_left _ (List.mem_of_getElem? (i := 3) (by decide +kernel))) (by decide +kernel)
theorem mm_110 : Cond.code yX2_hasInflow cX2_hasInflow 1 (some .boolean) ∈ ALL := ALL_i (List.mem_append_right _ (List.mem_append_right _ (List.mem_append_left _ (List.mem_of_getElem? (i := 100) (by decide +kernel))))) (by decide +kernel)
theorem mm_111 : Cond.fieldLink RX3 10 "Kickroom" "rock" "LKickroom$Rock;" ∈ ALL := ALL_i (List.mem_append_right _ (List.mem_append_left _ (List.mem_of_getElem? (i := 148) (by decide +kernel)))) (by decide +kernel)
theorem mm_112 : Cond.fieldLink RX3 31 "Kickroom" "tests" "LKickroom$Tests;" ∈ ALL := ALL_i (List.mem_append_right _ (List.mem_append_left _ (List.mem_of_getElem? (i := 151) (by decide +kernel)))) (by decide +kernel)
theorem mm_113 : Cond.instanceMethod yX1_isPassed ∈ ALL := ALL_i (List.mem_append_right _ (List.mem_append_right _ (List.mem_append_left _ (List.mem_of_getElem? (i := 140) (by decide +kernel))))) (by decide +kernel)
theorem mm_114 : Cond.selects RX1 yX1_isPassed yX1_isPassed ∈ ALL := ALL_i (List.mem_append_left _ (List.mem_of_getElem? (i := 10) (by decide +kernel))) (by decide +kernel)
theorem mm_115 : Cond.initialized RX1 ∈ ALL := ALL_i (List.mem_append_right _ (List.mem_append_left _ (List.mem_of_getElem? (i := 5) (by decide +kernel)))) (by decide +kernel)
theorem mm_116 : Cond.code yX1_isPassed cX1_isPassed 2 (some .boolean) ∈ ALL := ALL_i (List.mem_append_right _ (List.mem_append_right _ (List.mem_append_left _ (List.mem_of_getElem? (i := 141) (by decide +kernel))))) (by decide +kernel)
theorem mm_117 : Cond.methodLink RX3 224 yX3_read ∈ ALL := ALL_i (List.mem_append_right _ (List.mem_append_right _ (List.mem_append_left _ (List.mem_of_getElem? (i := 143) (by decide +kernel))))) (by decide +kernel)
theorem mm_118 : Cond.methodLink RX3 206 yX3_isMudBarrier ∈ ALL := ALL_i (List.mem_append_right _ (List.mem_append_right _ (List.mem_append_left _ (List.mem_of_getElem? (i := 109) (by decide +kernel))))) (by decide +kernel)
theorem mm_119 : Cond.instanceMethod yX3_isMudBarrier ∈ ALL := ALL_i (List.mem_append_right _ (List.mem_append_right _ (List.mem_append_left _ (List.mem_of_getElem? (i := 111) (by decide +kernel))))) (by decide +kernel)
theorem mm_120 : Cond.selects RX3 yX3_isMudBarrier yX3_isMudBarrier ∈ ALL := ALL_i (List.mem_append_left _ (List.mem_of_getElem? (i := 5) (by decide +kernel))) (by decide +kernel)
theorem mm_121 : Cond.code yX3_isMudBarrier cX3_isMudBarrier 1 (some .boolean) ∈ ALL := ALL_i (List.mem_append_right _ (List.mem_append_right _ (List.mem_append_left _ (List.mem_of_getElem? (i := 112) (by decide +kernel))))) (by decide +kernel)
theorem mm_122 : Cond.methodLink RX3 209 yX3_isValveBarrier ∈ ALL := ALL_i (List.mem_append_right _ (List.mem_append_right _ (List.mem_append_left _ (List.mem_of_getElem? (i := 134) (by decide +kernel))))) (by decide +kernel)
theorem mm_123 : Cond.instanceMethod yX3_isValveBarrier ∈ ALL := ALL_i (List.mem_append_right _ (List.mem_append_right _ (List.mem_append_left _ (List.mem_of_getElem? (i := 136) (by decide +kernel))))) (by decide +kernel)
theorem mm_124 : Cond.selects RX3 yX3_isValveBarrier yX3_isValveBarrier ∈ ALL := ALL_i (List.mem_append_left _ (List.mem_of_getElem? (i := 9) (by decide +kernel))) (by decide +kernel)
theorem mm_125 : Cond.code yX3_isValveBarrier cX3_isValveBarrier 2 (some .boolean) ∈ ALL := ALL_i (List.mem_append_right _ (List.mem_append_right _ (List.mem_append_left _ (List.mem_of_getElem? (i := 137) (by decide +kernel))))) (by decide +kernel)
theorem mm_126 : Cond.methodLink RX3 212 yX3_isCementBarrier ∈ ALL := ALL_i (List.mem_append_right _ (List.mem_append_right _ (List.mem_append_left _ (List.mem_of_getElem? (i := 144) (by decide +kernel))))) (by decide +kernel)
theorem mm_127 : Cond.instanceMethod yX3_isCementBarrier ∈ ALL := ALL_i (List.mem_append_right _ (List.mem_append_right _ (List.mem_append_left _ (List.mem_of_getElem? (i := 146) (by decide +kernel))))) (by decide +kernel)
theorem mm_128 : Cond.selects RX3 yX3_isCementBarrier yX3_isCementBarrier ∈ ALL := ALL_i (List.mem_append_left _ (List.mem_of_getElem? (i := 11) (by decide +kernel))) (by decide +kernel)
theorem mm_129 : Cond.code yX3_isCementBarrier cX3_isCementBarrier 1 (some .boolean) ∈ ALL := ALL_i (List.mem_append_right _ (List.mem_append_right _ (List.mem_append_left _ (List.mem_of_getElem? (i := 147) (by decide +kernel))))) (by decide +kernel)
theorem mm_130 : Cond.constant RJ6 265 (1431655765) ∈ ALL := ALL_i (List.mem_append_right _ (List.mem_append_right _ (List.mem_append_left _ (List.mem_of_getElem? (i := 151) (by decide +kernel))))) (by decide +kernel)
theorem mm_131 : Cond.constant RJ6 266 (858993459) ∈ ALL := ALL_i (List.mem_append_right _ (List.mem_append_right _ (List.mem_append_left _ (List.mem_of_getElem? (i := 152) (by decide +kernel))))) (by decide +kernel)
theorem mm_132 : Cond.constant RJ6 267 (252645135) ∈ ALL := ALL_i (List.mem_append_right _ (List.mem_append_right _ (List.mem_append_left _ (List.mem_of_getElem? (i := 153) (by decide +kernel))))) (by decide +kernel)
theorem mm_133 : Cond.fieldLink RX3 163 "Kickroom" "stops" "I" ∈ ALL := ALL_i (List.mem_append_right _ (List.mem_append_left _ (List.mem_of_getElem? (i := 152) (by decide +kernel)))) (by decide +kernel)
theorem mm_134 : Cond.methodLink RX3 215 yX3_barriers ∈ ALL := ALL_i (List.mem_append_right _ (List.mem_append_right _ (List.mem_append_left _ (List.mem_of_getElem? (i := 105) (by decide +kernel))))) (by decide +kernel)
theorem mm_135 : Cond.instanceMethod yX3_barriers ∈ ALL := ALL_i (List.mem_append_right _ (List.mem_append_right _ (List.mem_append_left _ (List.mem_of_getElem? (i := 106) (by decide +kernel))))) (by decide +kernel)
theorem mm_136 : Cond.selects RX3 yX3_barriers yX3_barriers ∈ ALL := ALL_i (List.mem_append_right _ (List.mem_append_right _ (List.mem_append_left _ (List.mem_of_getElem? (i := 107) (by decide +kernel))))) (by decide +kernel)
theorem mm_137 : Cond.code yX3_barriers cX3_barriers 1 (some .int) ∈ ALL := ALL_i (List.mem_append_right _ (List.mem_append_right _ (List.mem_append_left _ (List.mem_of_getElem? (i := 108) (by decide +kernel))))) (by decide +kernel)
theorem mm_138 : Cond.methodLink RX3 166 yJ6_bitCount_0f7a4 ∈ ALL := ALL_i (List.mem_append_right _ (List.mem_append_right _ (List.mem_append_left _ (List.mem_of_getElem? (i := 148) (by decide +kernel))))) (by decide +kernel)
theorem mm_139 : Cond.static yJ6_bitCount_0f7a4 ∈ ALL := ALL_i (List.mem_append_right _ (List.mem_append_right _ (List.mem_append_left _ (List.mem_of_getElem? (i := 149) (by decide +kernel))))) (by decide +kernel)
theorem mm_140 : Cond.initialized RJ6 ∈ ALL := ALL_i (List.mem_append_right _ (List.mem_append_left _ (List.mem_of_getElem? (i := 13) (by decide +kernel)))) (by decide +kernel)
theorem mm_141 : Cond.code yJ6_bitCount_0f7a4 cJ6_bitCount_0f7a4 1 (some .int) ∈ ALL := ALL_i (List.mem_append_right _ (List.mem_append_right _ (List.mem_append_left _ (List.mem_of_getElem? (i := 150) (by decide +kernel))))) (by decide +kernel)
theorem mm_142 : Cond.fieldLink RX3 78 "Kickroom" "pumped" "I" ∈ ALL := ALL_i (List.mem_append_right _ (List.mem_append_left _ (List.mem_of_getElem? (i := 153) (by decide +kernel)))) (by decide +kernel)
theorem mm_143 : Cond.methodLink RX3 39 yX3_isWithin ∈ ALL := ALL_i (List.mem_append_right _ (List.mem_append_left _ (List.mem_of_getElem? (i := 177) (by decide +kernel)))) (by decide +kernel)
theorem mm_144 : Cond.static yX3_isWithin ∈ ALL := ALL_i (List.mem_append_right _ (List.mem_append_left _ (List.mem_of_getElem? (i := 178) (by decide +kernel)))) (by decide +kernel)
theorem mm_145 : Cond.code yX3_isWithin cX3_isWithin 3 (some .boolean) ∈ ALL := ALL_i (List.mem_append_right _ (List.mem_append_left _ (List.mem_of_getElem? (i := 179) (by decide +kernel)))) (by decide +kernel)
theorem mm_146 : Cond.instanceMethod yX0_tellLayer ∈ ALL := ALL_i (List.mem_append_right _ (List.mem_append_right _ (List.mem_append_left _ (List.mem_of_getElem? (i := 72) (by decide +kernel))))) (by decide +kernel)
theorem mm_147 : Cond.selects RX0 yX0_tellLayer yX0_tellLayer ∈ ALL := ALL_i (List.mem_append_left _ (List.mem_of_getElem? (i := 2) (by decide +kernel))) (by decide +kernel)
theorem mm_148 : Cond.code yX0_tellLayer cX0_tellLayer 6 none ∈ ALL := ALL_i (List.mem_append_right _ (List.mem_append_right _ (List.mem_append_left _ (List.mem_of_getElem? (i := 73) (by decide +kernel))))) (by decide +kernel)
theorem mm_149 : Cond.methodLink RX3 83 yX3_bars ∈ ALL := ALL_i (List.mem_append_right _ (List.mem_append_right _ (List.mem_append_left _ (List.mem_of_getElem? (i := 93) (by decide +kernel))))) (by decide +kernel)
theorem mm_150 : Cond.instanceMethod yX3_bars ∈ ALL := ALL_i (List.mem_append_right _ (List.mem_append_right _ (List.mem_append_left _ (List.mem_of_getElem? (i := 94) (by decide +kernel))))) (by decide +kernel)
theorem mm_151 : Cond.selects RX3 yX3_bars yX3_bars ∈ ALL := ALL_i (List.mem_append_right _ (List.mem_append_right _ (List.mem_append_left _ (List.mem_of_getElem? (i := 95) (by decide +kernel))))) (by decide +kernel)
theorem mm_152 : Cond.code yX3_bars cX3_bars 1 (some .int) ∈ ALL := ALL_i (List.mem_append_right _ (List.mem_append_right _ (List.mem_append_left _ (List.mem_of_getElem? (i := 96) (by decide +kernel))))) (by decide +kernel)
theorem mm_153 : Cond.methodLink RX3 87 yX3_hasMinutes ∈ ALL := ALL_i (List.mem_append_right _ (List.mem_append_right _ (List.mem_append_left _ (List.mem_of_getElem? (i := 154) (by decide +kernel))))) (by decide +kernel)
theorem mm_154 : Cond.instanceMethod yX3_hasMinutes ∈ ALL := ALL_i (List.mem_append_right _ (List.mem_append_right _ (List.mem_append_left _ (List.mem_of_getElem? (i := 156) (by decide +kernel))))) (by decide +kernel)
theorem mm_155 : Cond.selects RX3 yX3_hasMinutes yX3_hasMinutes ∈ ALL := ALL_i (List.mem_append_left _ (List.mem_of_getElem? (i := 12) (by decide +kernel))) (by decide +kernel)
theorem mm_156 : Cond.code yX3_hasMinutes cX3_hasMinutes 2 (some .boolean) ∈ ALL := ALL_i (List.mem_append_right _ (List.mem_append_right _ (List.mem_append_left _ (List.mem_of_getElem? (i := 157) (by decide +kernel))))) (by decide +kernel)
theorem mm_157 : Cond.instanceMethod yX2_letMinutesGo ∈ ALL := ALL_i (List.mem_append_right _ (List.mem_append_right _ (List.mem_append_left _ (List.mem_of_getElem? (i := 226) (by decide +kernel))))) (by decide +kernel)
theorem mm_158 : Cond.selects RX2 yX2_letMinutesGo yX2_letMinutesGo ∈ ALL := ALL_i (List.mem_append_left _ (List.mem_of_getElem? (i := 25) (by decide +kernel))) (by decide +kernel)
theorem mm_159 : Cond.code yX2_letMinutesGo cX2_letMinutesGo 3 (some .int) ∈ ALL := ALL_i (List.mem_append_right _ (List.mem_append_right _ (List.mem_append_left _ (List.mem_of_getElem? (i := 227) (by decide +kernel))))) (by decide +kernel)
theorem mm_160 : Cond.fieldLink RX3 35 "Kickroom" "latestPumpedWeight" "I" ∈ ALL := ALL_i (List.mem_append_right _ (List.mem_append_left _ (List.mem_of_getElem? (i := 154) (by decide +kernel)))) (by decide +kernel)
theorem mm_161 : Cond.methodLink RX3 114 yX3_pumpOn ∈ ALL := ALL_i (List.mem_append_right _ (List.mem_append_right _ (List.mem_append_right _ (List.mem_of_getElem? (i := 13) (by decide +kernel))))) (by decide +kernel)
theorem mm_162 : Cond.instanceMethod yX3_pumpOn ∈ ALL := ALL_i (List.mem_append_right _ (List.mem_append_right _ (List.mem_append_right _ (List.mem_of_getElem? (i := 15) (by decide +kernel))))) (by decide +kernel)
theorem mm_163 : Cond.selects RX3 yX3_pumpOn yX3_pumpOn ∈ ALL := ALL_i (List.mem_append_left _ (List.mem_of_getElem? (i := 26) (by decide +kernel))) (by decide +kernel)
theorem mm_164 : Cond.code yX3_pumpOn cX3_pumpOn 2 none ∈ ALL := ALL_i (List.mem_append_right _ (List.mem_append_right _ (List.mem_append_right _ (List.mem_of_getElem? (i := 16) (by decide +kernel))))) (by decide +kernel)
theorem mm_165 : Cond.fieldLink RX3 132 "Kickroom" "cement" "I" ∈ ALL := ALL_i (List.mem_append_right _ (List.mem_append_left _ (List.mem_of_getElem? (i := 155) (by decide +kernel)))) (by decide +kernel)
theorem mm_166 : Cond.instanceMethod yX1_keep ∈ ALL := ALL_i (List.mem_append_right _ (List.mem_append_right _ (List.mem_append_left _ (List.mem_of_getElem? (i := 27) (by decide +kernel))))) (by decide +kernel)
theorem mm_167 : Cond.selects RX1 yX1_keep yX1_keep ∈ ALL := ALL_i (List.mem_append_left _ (List.mem_of_getElem? (i := 1) (by decide +kernel))) (by decide +kernel)
theorem mm_168 : Cond.code yX1_keep cX1_keep 5 none ∈ ALL := ALL_i (List.mem_append_right _ (List.mem_append_right _ (List.mem_append_left _ (List.mem_of_getElem? (i := 28) (by decide +kernel))))) (by decide +kernel)
theorem mm_169 : Cond.constantLong RX3 197 (-1) ∈ ALL := ALL_i (List.mem_append_right _ (List.mem_append_right _ (List.mem_append_right _ (List.mem_of_getElem? (i := 65) (by decide +kernel))))) (by decide +kernel)
theorem mm_170 : Cond.instanceMethod yX0_greatestPore ∈ ALL := ALL_i (List.mem_append_right _ (List.mem_append_right _ (List.mem_append_right _ (List.mem_of_getElem? (i := 101) (by decide +kernel))))) (by decide +kernel)
theorem mm_171 : Cond.selects RX0 yX0_greatestPore yX0_greatestPore ∈ ALL := ALL_i (List.mem_append_left _ (List.mem_of_getElem? (i := 28) (by decide +kernel))) (by decide +kernel)
theorem mm_172 : Cond.code yX0_greatestPore cX0_greatestPore 5 (some .int) ∈ ALL := ALL_i (List.mem_append_right _ (List.mem_append_right _ (List.mem_append_right _ (List.mem_of_getElem? (i := 102) (by decide +kernel))))) (by decide +kernel)
theorem mm_173 : Cond.instanceMethod yX0_leastBreak ∈ ALL := ALL_i (List.mem_append_right _ (List.mem_append_right _ (List.mem_append_right _ (List.mem_of_getElem? (i := 96) (by decide +kernel))))) (by decide +kernel)
theorem mm_174 : Cond.selects RX0 yX0_leastBreak yX0_leastBreak ∈ ALL := ALL_i (List.mem_append_left _ (List.mem_of_getElem? (i := 27) (by decide +kernel))) (by decide +kernel)
theorem mm_175 : Cond.code yX0_leastBreak cX0_leastBreak 5 (some .int) ∈ ALL := ALL_i (List.mem_append_right _ (List.mem_append_right _ (List.mem_append_right _ (List.mem_of_getElem? (i := 97) (by decide +kernel))))) (by decide +kernel)
theorem mm_176 : Cond.instanceMethod yX0_piecesFromAbove ∈ ALL := ALL_i (List.mem_append_right _ (List.mem_append_right _ (List.mem_append_right _ (List.mem_of_getElem? (i := 114) (by decide +kernel))))) (by decide +kernel)
theorem mm_177 : Cond.selects RX0 yX0_piecesFromAbove yX0_piecesFromAbove ∈ ALL := ALL_i (List.mem_append_left _ (List.mem_of_getElem? (i := 29) (by decide +kernel))) (by decide +kernel)
theorem mm_178 : Cond.code yX0_piecesFromAbove cX0_piecesFromAbove 8 (some .int) ∈ ALL := ALL_i (List.mem_append_right _ (List.mem_append_right _ (List.mem_append_right _ (List.mem_of_getElem? (i := 115) (by decide +kernel))))) (by decide +kernel)
theorem mm_179 : Cond.instanceMethod yX0_piecesFromAll ∈ ALL := ALL_i (List.mem_append_right _ (List.mem_append_right _ (List.mem_append_right _ (List.mem_of_getElem? (i := 125) (by decide +kernel))))) (by decide +kernel)
theorem mm_180 : Cond.selects RX0 yX0_piecesFromAll yX0_piecesFromAll ∈ ALL := ALL_i (List.mem_append_left _ (List.mem_of_getElem? (i := 30) (by decide +kernel))) (by decide +kernel)
theorem mm_181 : Cond.code yX0_piecesFromAll cX0_piecesFromAll 3 (some .int) ∈ ALL := ALL_i (List.mem_append_right _ (List.mem_append_right _ (List.mem_append_right _ (List.mem_of_getElem? (i := 126) (by decide +kernel))))) (by decide +kernel)
theorem mm_182 : Cond.fieldLink RX3 25 "Kickroom" "trial" "LKickroom$Well;" ∈ ALL := ALL_i (List.mem_append_right _ (List.mem_append_left _ (List.mem_of_getElem? (i := 150) (by decide +kernel)))) (by decide +kernel)
theorem mm_183 : Cond.instanceMethod yX2_become ∈ ALL := ALL_i (List.mem_append_right _ (List.mem_append_right _ (List.mem_append_right _ (List.mem_of_getElem? (i := 149) (by decide +kernel))))) (by decide +kernel)
theorem mm_184 : Cond.selects RX2 yX2_become yX2_become ∈ ALL := ALL_i (List.mem_append_left _ (List.mem_of_getElem? (i := 32) (by decide +kernel))) (by decide +kernel)
theorem mm_185 : Cond.code yX2_become cX2_become 2 none ∈ ALL := ALL_i (List.mem_append_right _ (List.mem_append_right _ (List.mem_append_right _ (List.mem_of_getElem? (i := 150) (by decide +kernel))))) (by decide +kernel)
theorem mm_186 : Cond.static Lib.Math.max.name ∈ ALL := ALL_i (List.mem_append_right _ (List.mem_append_right _ (List.mem_append_left _ (List.mem_of_getElem? (i := 122) (by decide +kernel))))) (by decide +kernel)
theorem mm_187 : Cond.initialized "java/lang/Math" ∈ ALL := ALL_i (List.mem_append_right _ (List.mem_append_left _ (List.mem_of_getElem? (i := 12) (by decide +kernel)))) (by decide +kernel)
theorem mm_188 : Cond.code Lib.Math.max.name Lib.Math.max.code 2 (some .int) ∈ ALL := ALL_i (List.mem_append_right _ (List.mem_append_right _ (List.mem_append_left _ (List.mem_of_getElem? (i := 123) (by decide +kernel))))) (by decide +kernel)
theorem mm_189 : Cond.static Lib.Math.min.name ∈ ALL := ALL_i (List.mem_append_right _ (List.mem_append_right _ (List.mem_append_left _ (List.mem_of_getElem? (i := 197) (by decide +kernel))))) (by decide +kernel)
theorem mm_190 : Cond.code Lib.Math.min.name Lib.Math.min.code 2 (some .int) ∈ ALL := ALL_i (List.mem_append_right _ (List.mem_append_right _ (List.mem_append_left _ (List.mem_of_getElem? (i := 198) (by decide +kernel))))) (by decide +kernel)
theorem mm_191 : Cond.static Lib.MathLoose.min_long.x ∈ ALL := ALL_i (List.mem_append_right _ (List.mem_append_right _ (List.mem_append_left _ (List.mem_of_getElem? (i := 180) (by decide +kernel))))) (by decide +kernel)
theorem mm_192 : Cond.code Lib.MathLoose.min_long.x Lib.MathLoose.min_long.code 4 (some .long) ∈ ALL := ALL_i (List.mem_append_right _ (List.mem_append_right _ (List.mem_append_left _ (List.mem_of_getElem? (i := 181) (by decide +kernel))))) (by decide +kernel)

theorem lk_X0_37 : LKS RX0 37 yX0_layerOf cX0_layerOf 1 (some .int) 1 := ⟨mm_1, mm_2, ⟨mm_3, mm_4, by decide +kernel, by decide +kernel, by decide +kernel⟩⟩
theorem lk_X0_41 : LKSN RX0 41 yX3_read cX3_read 2 (some .int) 2 := ⟨nw_30, mm_5, ⟨mm_6, mm_7, by decide +kernel, by decide +kernel, by decide +kernel⟩⟩
theorem lk_X0_33 : LKSN RX0 33 yX3_write cX3_write 3 none 3 := ⟨nw_26, mm_11, ⟨mm_6, mm_12, by decide +kernel, by decide +kernel, by decide +kernel⟩⟩
theorem lk_X0_54 : LKV RX0 54 RX0 yX0_leastPiecesTo cX0_leastPiecesTo 8 (some .int) 1 := ⟨mm_16, mm_17, mm_18, ⟨mm_3, mm_19, by decide +kernel, by decide +kernel, by decide +kernel⟩⟩
theorem lk_X1_34 : LKSN RX1 34 yX3_write cX3_write 3 none 3 := ⟨nw_24, mm_11, ⟨mm_6, mm_12, by decide +kernel, by decide +kernel, by decide +kernel⟩⟩
theorem lk_X1_38 : LKSN RX1 38 yX3_read cX3_read 2 (some .int) 2 := ⟨nw_32, mm_5, ⟨mm_6, mm_7, by decide +kernel, by decide +kernel, by decide +kernel⟩⟩
theorem lk_X2_58 : LKV RX2 58 RX2 yX2_hasGas cX2_hasGas 1 (some .boolean) 0 := ⟨mm_28, mm_29, mm_30, ⟨mm_31, mm_32, by decide +kernel, by decide +kernel, by decide +kernel⟩⟩
theorem lk_X2_68 : LKV RX2 68 RX2 yX2_column cX2_column 1 (some .int) 0 := ⟨mm_38, mm_39, mm_40, ⟨mm_31, mm_41, by decide +kernel, by decide +kernel, by decide +kernel⟩⟩
theorem lk_X2_95 : LKV RX2 95 RX2 yX2_gasPressure cX2_gasPressure 1 (some .int) 0 := ⟨mm_45, mm_46, mm_47, ⟨mm_31, mm_48, by decide +kernel, by decide +kernel, by decide +kernel⟩⟩
theorem lk_X2_102 : LKVN RX2 102 RX0 yX0_poreAt cX0_poreAt 2 (some .int) 1 := ⟨nw_34, mm_53, mm_54, ⟨mm_3, mm_55, by decide +kernel, by decide +kernel, by decide +kernel⟩⟩
theorem lk_X2_108 : LKV RX2 108 RX2 yX2_bottom cX2_bottom 1 (some .int) 0 := ⟨mm_58, mm_59, mm_60, ⟨mm_31, mm_61, by decide +kernel, by decide +kernel, by decide +kernel⟩⟩
theorem lk_X2_111 : LKVN RX2 111 RX0 yX0_rateAt cX0_rateAt 2 (some .int) 1 := ⟨nw_35, mm_62, mm_63, ⟨mm_3, mm_64, by decide +kernel, by decide +kernel, by decide +kernel⟩⟩
theorem lk_X2_116 : LKVN RX2 116 RX0 yX0_bearsGasAt cX0_bearsGasAt 2 (some .boolean) 1 := ⟨nw_36, mm_66, mm_67, ⟨mm_3, mm_68, by decide +kernel, by decide +kernel, by decide +kernel⟩⟩
theorem lk_X2_83 : LKV RX2 83 RX2 yX2_measureGas cX2_measureGas 2 none 0 := ⟨mm_69, mm_70, mm_71, ⟨mm_31, mm_72, by decide +kernel, by decide +kernel, by decide +kernel⟩⟩
theorem lk_X2_120 : LKV RX2 120 RX2 yX2_foot cX2_foot 3 (some .int) 0 := ⟨mm_73, mm_74, mm_75, ⟨mm_31, mm_76, by decide +kernel, by decide +kernel, by decide +kernel⟩⟩
theorem lk_X2_123 : LKVN RX2 123 RX0 yX0_breakAt cX0_breakAt 2 (some .int) 1 := ⟨nw_37, mm_77, mm_78, ⟨mm_3, mm_79, by decide +kernel, by decide +kernel, by decide +kernel⟩⟩
theorem lk_X2_76 : LKV RX2 76 RX2 yX2_raiseGas cX2_raiseGas 3 none 1 := ⟨mm_82, mm_83, mm_84, ⟨mm_31, mm_85, by decide +kernel, by decide +kernel, by decide +kernel⟩⟩
theorem lk_X2_80 : LKV RX2 80 RX2 yX2_ventGas cX2_ventGas 2 none 1 := ⟨mm_86, mm_87, mm_88, ⟨mm_31, mm_89, by decide +kernel, by decide +kernel, by decide +kernel⟩⟩
theorem lk_X2_86 : LKV RX2 86 RX2 yX2_setChoke cX2_setChoke 1 none 0 := ⟨mm_90, mm_91, mm_92, ⟨mm_31, mm_93, by decide +kernel, by decide +kernel, by decide +kernel⟩⟩
theorem lk_X2_89 : LKV RX2 89 RX2 yX2_flowIn cX2_flowIn 3 (some .boolean) 0 := ⟨mm_94, mm_95, mm_96, ⟨mm_31, mm_97, by decide +kernel, by decide +kernel, by decide +kernel⟩⟩
theorem lk_X2_92 : LKV RX2 92 RX2 yX2_loseAtShoe cX2_loseAtShoe 1 none 0 := ⟨mm_98, mm_99, mm_100, ⟨mm_31, mm_101, by decide +kernel, by decide +kernel, by decide +kernel⟩⟩
theorem lk_X2_72 : LKV RX2 72 RX2 yX2_letMinuteGo cX2_letMinuteGo 3 (some .boolean) 1 := ⟨mm_102, mm_103, mm_104, ⟨mm_31, mm_105, by decide +kernel, by decide +kernel, by decide +kernel⟩⟩
theorem lk_X3_126 : LKVN RX3 126 RX2 yX2_hasInflow cX2_hasInflow 1 (some .boolean) 0 := ⟨nw_27, mm_108, mm_109, ⟨mm_31, mm_110, by decide +kernel, by decide +kernel, by decide +kernel⟩⟩
theorem lk_X3_171 : LKVN RX3 171 RX2 yX2_bottom cX2_bottom 1 (some .int) 0 := ⟨nw_28, mm_59, mm_60, ⟨mm_31, mm_61, by decide +kernel, by decide +kernel, by decide +kernel⟩⟩
theorem lk_X3_174 : LKVN RX3 174 RX0 yX0_poreAt cX0_poreAt 2 (some .int) 1 := ⟨nw_29, mm_53, mm_54, ⟨mm_3, mm_55, by decide +kernel, by decide +kernel, by decide +kernel⟩⟩
theorem lk_X3_267 : LKVN RX3 267 RX1 yX1_isPassed cX1_isPassed 2 (some .boolean) 1 := ⟨nw_31, mm_113, mm_114, ⟨mm_115, mm_116, by decide +kernel, by decide +kernel, by decide +kernel⟩⟩
theorem lk_X3_224 : LKS RX3 224 yX3_read cX3_read 2 (some .int) 2 := ⟨mm_117, mm_5, ⟨mm_6, mm_7, by decide +kernel, by decide +kernel, by decide +kernel⟩⟩
theorem lk_X3_206 : LKV RX3 206 RX3 yX3_isMudBarrier cX3_isMudBarrier 1 (some .boolean) 0 := ⟨mm_118, mm_119, mm_120, ⟨mm_6, mm_121, by decide +kernel, by decide +kernel, by decide +kernel⟩⟩
theorem lk_X3_209 : LKV RX3 209 RX3 yX3_isValveBarrier cX3_isValveBarrier 2 (some .boolean) 0 := ⟨mm_122, mm_123, mm_124, ⟨mm_6, mm_125, by decide +kernel, by decide +kernel, by decide +kernel⟩⟩
theorem lk_X3_212 : LKV RX3 212 RX3 yX3_isCementBarrier cX3_isCementBarrier 1 (some .boolean) 0 := ⟨mm_126, mm_127, mm_128, ⟨mm_6, mm_129, by decide +kernel, by decide +kernel, by decide +kernel⟩⟩
theorem lk_X3_215 : LKV RX3 215 RX3 yX3_barriers cX3_barriers 1 (some .int) 0 := ⟨mm_134, mm_135, mm_136, ⟨mm_6, mm_137, by decide +kernel, by decide +kernel, by decide +kernel⟩⟩
theorem lk_X3_166 : LKS RX3 166 yJ6_bitCount_0f7a4 cJ6_bitCount_0f7a4 1 (some .int) 1 := ⟨mm_138, mm_139, ⟨mm_140, mm_141, by decide +kernel, by decide +kernel, by decide +kernel⟩⟩
theorem lk_X3_39 : LKS RX3 39 yX3_isWithin cX3_isWithin 3 (some .boolean) 3 := ⟨mm_143, mm_144, ⟨mm_6, mm_145, by decide +kernel, by decide +kernel, by decide +kernel⟩⟩
theorem lk_X3_63 : LKVN RX3 63 RX0 yX0_tellLayer cX0_tellLayer 6 none 5 := ⟨nw_25, mm_146, mm_147, ⟨mm_3, mm_148, by decide +kernel, by decide +kernel, by decide +kernel⟩⟩
theorem lk_X3_83 : LKV RX3 83 RX3 yX3_bars cX3_bars 1 (some .int) 0 := ⟨mm_149, mm_150, mm_151, ⟨mm_6, mm_152, by decide +kernel, by decide +kernel, by decide +kernel⟩⟩
theorem lk_X3_87 : LKV RX3 87 RX3 yX3_hasMinutes cX3_hasMinutes 2 (some .boolean) 1 := ⟨mm_153, mm_154, mm_155, ⟨mm_6, mm_156, by decide +kernel, by decide +kernel, by decide +kernel⟩⟩
theorem lk_X3_93 : LKVN RX3 93 RX2 yX2_letMinuteGo cX2_letMinuteGo 3 (some .boolean) 1 := ⟨nw_33, mm_103, mm_104, ⟨mm_31, mm_105, by decide +kernel, by decide +kernel, by decide +kernel⟩⟩
theorem lk_X3_101 : LKVN RX3 101 RX2 yX2_letMinutesGo cX2_letMinutesGo 3 (some .int) 1 := ⟨nw_38, mm_157, mm_158, ⟨mm_31, mm_159, by decide +kernel, by decide +kernel, by decide +kernel⟩⟩
theorem lk_X3_114 : LKV RX3 114 RX3 yX3_pumpOn cX3_pumpOn 2 none 1 := ⟨mm_161, mm_162, mm_163, ⟨mm_6, mm_164, by decide +kernel, by decide +kernel, by decide +kernel⟩⟩
theorem lk_X3_154 : LKVN RX3 154 RX1 yX1_keep cX1_keep 5 none 4 := ⟨nw_23, mm_166, mm_167, ⟨mm_115, mm_168, by decide +kernel, by decide +kernel, by decide +kernel⟩⟩
theorem lk_X3_177 : LKVN RX3 177 RX2 yX2_foot cX2_foot 3 (some .int) 0 := ⟨nw_39, mm_74, mm_75, ⟨mm_31, mm_76, by decide +kernel, by decide +kernel, by decide +kernel⟩⟩
theorem lk_X3_180 : LKVN RX3 180 RX0 yX0_breakAt cX0_breakAt 2 (some .int) 1 := ⟨nw_40, mm_77, mm_78, ⟨mm_3, mm_79, by decide +kernel, by decide +kernel, by decide +kernel⟩⟩
theorem lk_X3_183 : LKVN RX3 183 RX2 yX2_hasGas cX2_hasGas 1 (some .boolean) 0 := ⟨nw_41, mm_29, mm_30, ⟨mm_31, mm_32, by decide +kernel, by decide +kernel, by decide +kernel⟩⟩
theorem lk_X3_186 : LKVN RX3 186 RX2 yX2_gasPressure cX2_gasPressure 1 (some .int) 0 := ⟨nw_42, mm_46, mm_47, ⟨mm_31, mm_48, by decide +kernel, by decide +kernel, by decide +kernel⟩⟩
theorem lk_X3_240 : LKSN RX3 240 yX0_layerOf cX0_layerOf 1 (some .int) 1 := ⟨nw_43, mm_2, ⟨mm_3, mm_4, by decide +kernel, by decide +kernel, by decide +kernel⟩⟩
theorem lk_X3_247 : LKVN RX3 247 RX0 yX0_greatestPore cX0_greatestPore 5 (some .int) 2 := ⟨nw_45, mm_170, mm_171, ⟨mm_3, mm_172, by decide +kernel, by decide +kernel, by decide +kernel⟩⟩
theorem lk_X3_243 : LKVN RX3 243 RX0 yX0_leastBreak cX0_leastBreak 5 (some .int) 2 := ⟨nw_44, mm_173, mm_174, ⟨mm_3, mm_175, by decide +kernel, by decide +kernel, by decide +kernel⟩⟩
theorem lk_X3_252 : LKVN RX3 252 RX0 yX0_piecesFromAbove cX0_piecesFromAbove 8 (some .int) 1 := ⟨nw_46, mm_176, mm_177, ⟨mm_3, mm_178, by decide +kernel, by decide +kernel, by decide +kernel⟩⟩
theorem lk_X3_255 : LKVN RX3 255 RX0 yX0_piecesFromAll cX0_piecesFromAll 3 (some .int) 1 := ⟨nw_47, mm_179, mm_180, ⟨mm_3, mm_181, by decide +kernel, by decide +kernel, by decide +kernel⟩⟩
theorem lk_X3_260 : LKVN RX3 260 RX2 yX2_become cX2_become 2 none 1 := ⟨nw_48, mm_183, mm_184, ⟨mm_31, mm_185, by decide +kernel, by decide +kernel, by decide +kernel⟩⟩

section FR
variable {p : Program} {l : Launch} {e : Env} {R : Room} {s : State} {m : MethodId} {args : Array Value} {below : List Frame} {meth : Method} {c : Code} {H : Heap} {locs : List Loc} {cells slots : Nat} {Q : State → Prop}
variable {D : va_G} {q : Nat → ClassId} {ws : va_W} {A : Nat → Prop} {H0 : Heap} {cc : ByteArray} {nL : Nat} {pc : Nat} {ls : Array Slot} {rest st : List Value}
theorem gf_X0_9 {k : Nat → Nat} (fx : FX p s m args c RX0 cc nL D q) (hP : va_P D vwCl ws H) (i : Nat) (he : ws[i]? = some (oR k)) (hdg : decode cc pc = .ok (.getfield 9, 3)) (kk : W p l e R s m args below meth c H locs cells slots Q (F0 m (pc + 3) ls (.ref (k 1) :: rest))) : W p l e R s m args below meth c H locs cells slots Q (F0 m pc ls (.ref (k 0) :: rest)) :=
  va_get (D := D) (ci := 0) (v := .ref (k 1)) (C := RX0) (T := TX0) (N := 5) fx.1 fx.2.1 fx.2.2.2.2.1 inlX0 fx.2.2.2.1 fx.2.2.2.2.2.1 hP i he rfl 0 (by decide) (fx.2.2.2.2.1 _ mm_0) (fun _ h9 => h9) rfl hdg kk
theorem gf_X0_15 {k : Nat → Nat} (fx : FX p s m args c RX0 cc nL D q) (hP : va_P D vwCl ws H) (i : Nat) (he : ws[i]? = some (oR k)) (hdg : decode cc pc = .ok (.getfield 15, 3)) (kk : W p l e R s m args below meth c H locs cells slots Q (F0 m (pc + 3) ls (.ref (k 2) :: rest))) : W p l e R s m args below meth c H locs cells slots Q (F0 m pc ls (.ref (k 0) :: rest)) :=
  va_get (D := D) (ci := 0) (v := .ref (k 2)) (C := RX0) (T := TX0) (N := 5) fx.1 fx.2.1 fx.2.2.2.2.1 inlX0 fx.2.2.2.1 fx.2.2.2.2.2.1 hP i he rfl 1 (by decide) (fx.2.2.2.2.1 _ mm_8) (fun _ h9 => h9) rfl hdg kk
theorem gf_X0_18 {k : Nat → Nat} (fx : FX p s m args c RX0 cc nL D q) (hP : va_P D vwCl ws H) (i : Nat) (he : ws[i]? = some (oR k)) (hdg : decode cc pc = .ok (.getfield 18, 3)) (kk : W p l e R s m args below meth c H locs cells slots Q (F0 m (pc + 3) ls (.ref (k 3) :: rest))) : W p l e R s m args below meth c H locs cells slots Q (F0 m pc ls (.ref (k 0) :: rest)) :=
  va_get (D := D) (ci := 0) (v := .ref (k 3)) (C := RX0) (T := TX0) (N := 5) fx.1 fx.2.1 fx.2.2.2.2.1 inlX0 fx.2.2.2.1 fx.2.2.2.2.2.1 hP i he rfl 2 (by decide) (fx.2.2.2.2.1 _ mm_9) (fun _ h9 => h9) rfl hdg kk
theorem gf_X0_21 {k : Nat → Nat} (fx : FX p s m args c RX0 cc nL D q) (hP : va_P D vwCl ws H) (i : Nat) (he : ws[i]? = some (oR k)) (hdg : decode cc pc = .ok (.getfield 21, 3)) (kk : W p l e R s m args below meth c H locs cells slots Q (F0 m (pc + 3) ls (.ref (k 4) :: rest))) : W p l e R s m args below meth c H locs cells slots Q (F0 m pc ls (.ref (k 0) :: rest)) :=
  va_get (D := D) (ci := 0) (v := .ref (k 4)) (C := RX0) (T := TX0) (N := 5) fx.1 fx.2.1 fx.2.2.2.2.1 inlX0 fx.2.2.2.1 fx.2.2.2.2.2.1 hP i he rfl 3 (by decide) (fx.2.2.2.2.1 _ mm_10) (fun _ h9 => h9) rfl hdg kk
theorem gf_X0_24 {k : Nat → Nat} (fx : FX p s m args c RX0 cc nL D q) (hP : va_P D vwCl ws H) (i : Nat) (he : ws[i]? = some (oR k)) (hdg : decode cc pc = .ok (.getfield 24, 3)) (kk : W p l e R s m args below meth c H locs cells slots Q (F0 m (pc + 3) ls (.ref (k 5) :: rest))) : W p l e R s m args below meth c H locs cells slots Q (F0 m pc ls (.ref (k 0) :: rest)) :=
  va_get (D := D) (ci := 0) (v := .ref (k 5)) (C := RX0) (T := TX0) (N := 5) fx.1 fx.2.1 fx.2.2.2.2.1 inlX0 fx.2.2.2.1 fx.2.2.2.2.2.1 hP i he rfl 4 (by decide) (fx.2.2.2.2.1 _ mm_15) (fun _ h9 => h9) rfl hdg kk
theorem gf_X1_9 {k : Nat → Nat} {z : TS} (fx : FX p s m args c RX1 cc nL D q) (hP : va_P D vwCl ws H) (i : Nat) (he : ws[i]? = some (oT k z)) (hdg : decode cc pc = .ok (.getfield 9, 3)) (kk : W p l e R s m args below meth c H locs cells slots Q (F0 m (pc + 3) ls (.ref (k 1) :: rest))) : W p l e R s m args below meth c H locs cells slots Q (F0 m pc ls (.ref (k 0) :: rest)) :=
  va_get (D := D) (ci := 1) (v := .ref (k 1)) (C := RX1) (T := TX1) (N := 7) fx.1 fx.2.1 fx.2.2.2.2.1 inlX1 fx.2.2.2.1 fx.2.2.2.2.2.1 hP i he rfl 0 (by decide) (fx.2.2.2.2.1 _ mm_20) (fun _ h9 => h9) rfl hdg kk
theorem gf_X1_31 {k : Nat → Nat} {z : TS} (fx : FX p s m args c RX1 cc nL D q) (hP : va_P D vwCl ws H) (i : Nat) (he : ws[i]? = some (oT k z)) {v : Int32} (hv : T_count z = v) (hdg : decode cc pc = .ok (.getfield 31, 3)) (kk : W p l e R s m args below meth c H locs cells slots Q (F0 m (pc + 3) ls (.int v :: rest))) : W p l e R s m args below meth c H locs cells slots Q (F0 m pc ls (.ref (k 0) :: rest)) := by
  subst hv
  exact va_get (D := D) (ci := 1) (v := .int (T_count z)) (C := RX1) (T := TX1) (N := 7) fx.1 fx.2.1 fx.2.2.2.2.1 inlX1 fx.2.2.2.1 fx.2.2.2.2.2.1 hP i he rfl 4 (by decide) (fx.2.2.2.2.1 _ mm_21) (fun _ h9 => h9) rfl hdg kk
theorem gf_X1_15 {k : Nat → Nat} {z : TS} (fx : FX p s m args c RX1 cc nL D q) (hP : va_P D vwCl ws H) (i : Nat) (he : ws[i]? = some (oT k z)) (hdg : decode cc pc = .ok (.getfield 15, 3)) (kk : W p l e R s m args below meth c H locs cells slots Q (F0 m (pc + 3) ls (.ref (k 2) :: rest))) : W p l e R s m args below meth c H locs cells slots Q (F0 m pc ls (.ref (k 0) :: rest)) :=
  va_get (D := D) (ci := 1) (v := .ref (k 2)) (C := RX1) (T := TX1) (N := 7) fx.1 fx.2.1 fx.2.2.2.2.1 inlX1 fx.2.2.2.1 fx.2.2.2.2.2.1 hP i he rfl 1 (by decide) (fx.2.2.2.2.1 _ mm_22) (fun _ h9 => h9) rfl hdg kk
theorem gf_X1_18 {k : Nat → Nat} {z : TS} (fx : FX p s m args c RX1 cc nL D q) (hP : va_P D vwCl ws H) (i : Nat) (he : ws[i]? = some (oT k z)) (hdg : decode cc pc = .ok (.getfield 18, 3)) (kk : W p l e R s m args below meth c H locs cells slots Q (F0 m (pc + 3) ls (.ref (k 3) :: rest))) : W p l e R s m args below meth c H locs cells slots Q (F0 m pc ls (.ref (k 0) :: rest)) :=
  va_get (D := D) (ci := 1) (v := .ref (k 3)) (C := RX1) (T := TX1) (N := 7) fx.1 fx.2.1 fx.2.2.2.2.1 inlX1 fx.2.2.2.1 fx.2.2.2.2.2.1 hP i he rfl 2 (by decide) (fx.2.2.2.2.1 _ mm_23) (fun _ h9 => h9) rfl hdg kk
theorem gf_X1_21 {k : Nat → Nat} {z : TS} (fx : FX p s m args c RX1 cc nL D q) (hP : va_P D vwCl ws H) (i : Nat) (he : ws[i]? = some (oT k z)) (hdg : decode cc pc = .ok (.getfield 21, 3)) (kk : W p l e R s m args below meth c H locs cells slots Q (F0 m (pc + 3) ls (.ref (k 4) :: rest))) : W p l e R s m args below meth c H locs cells slots Q (F0 m pc ls (.ref (k 0) :: rest)) :=
  va_get (D := D) (ci := 1) (v := .ref (k 4)) (C := RX1) (T := TX1) (N := 7) fx.1 fx.2.1 fx.2.2.2.2.1 inlX1 fx.2.2.2.1 fx.2.2.2.2.2.1 hP i he rfl 3 (by decide) (fx.2.2.2.2.1 _ mm_24) (fun _ h9 => h9) rfl hdg kk
theorem pf_X1_28 {k : Nat → Nat} {z : TS} (fx : FX p s m args c RX1 cc nL D q) (hP : va_P D vwCl ws H) (hD : va_D A ws) (hS : va_S A H0 H locs) (i : Nat) (he : ws[i]? = some (oT k z)) {y : Int32} (hdg : decode cc pc = .ok (.putfield 28, 3)) (kk : ∀ (H1 : Heap) (locs1 : List Loc), va_P D vwCl (ws.set i (oT k (T_set_latestOfCement z y))) H1 → va_S A H0 H1 locs1 → W p l e R s m args below meth c H1 locs1 cells slots Q (F0 m (pc + 3) ls rest)) : W p l e R s m args below meth c H locs cells slots Q (F0 m pc ls (.int y :: .ref (k 0) :: rest)) :=
  va_put (D := D) (ci := 1) (v := .int y) (ty := .int) (C := RX1) (T := TX1) (N := 7) fx.1 fx.2.1 fx.2.2.2.2.1 inlX1 tyX1 tyX1_ok nmX1 fx.2.2.2.1 fx.2.2.2.2.2.1 hP hD hS i he rfl 6 (by decide) (fx.2.2.2.2.1 _ mm_25) (fun _ h9 => h9) rfl (by decide +kernel) rfl rfl (Nat.le_of_ble_eq_true rfl) hdg (fun H locs hP _ hS => kk H locs hP hS)
theorem pf_X1_24 {k : Nat → Nat} {z : TS} (fx : FX p s m args c RX1 cc nL D q) (hP : va_P D vwCl ws H) (hD : va_D A ws) (hS : va_S A H0 H locs) (i : Nat) (he : ws[i]? = some (oT k z)) {y : Int32} (hdg : decode cc pc = .ok (.putfield 24, 3)) (kk : ∀ (H1 : Heap) (locs1 : List Loc), va_P D vwCl (ws.set i (oT k (T_set_latestOfValve z y))) H1 → va_S A H0 H1 locs1 → W p l e R s m args below meth c H1 locs1 cells slots Q (F0 m (pc + 3) ls rest)) : W p l e R s m args below meth c H locs cells slots Q (F0 m pc ls (.int y :: .ref (k 0) :: rest)) :=
  va_put (D := D) (ci := 1) (v := .int y) (ty := .int) (C := RX1) (T := TX1) (N := 7) fx.1 fx.2.1 fx.2.2.2.2.1 inlX1 tyX1 tyX1_ok nmX1 fx.2.2.2.1 fx.2.2.2.2.2.1 hP hD hS i he rfl 5 (by decide) (fx.2.2.2.2.1 _ mm_26) (fun _ h9 => h9) rfl (by decide +kernel) rfl rfl (Nat.le_of_ble_eq_true rfl) hdg (fun H locs hP _ hS => kk H locs hP hS)
theorem pf_X1_31 {k : Nat → Nat} {z : TS} (fx : FX p s m args c RX1 cc nL D q) (hP : va_P D vwCl ws H) (hD : va_D A ws) (hS : va_S A H0 H locs) (i : Nat) (he : ws[i]? = some (oT k z)) {y : Int32} (hdg : decode cc pc = .ok (.putfield 31, 3)) (kk : ∀ (H1 : Heap) (locs1 : List Loc), va_P D vwCl (ws.set i (oT k (T_set_count z y))) H1 → va_S A H0 H1 locs1 → W p l e R s m args below meth c H1 locs1 cells slots Q (F0 m (pc + 3) ls rest)) : W p l e R s m args below meth c H locs cells slots Q (F0 m pc ls (.int y :: .ref (k 0) :: rest)) :=
  va_put (D := D) (ci := 1) (v := .int y) (ty := .int) (C := RX1) (T := TX1) (N := 7) fx.1 fx.2.1 fx.2.2.2.2.1 inlX1 tyX1 tyX1_ok nmX1 fx.2.2.2.1 fx.2.2.2.2.2.1 hP hD hS i he rfl 4 (by decide) (fx.2.2.2.2.1 _ mm_21) (fun _ h9 => h9) rfl (by decide +kernel) rfl rfl (Nat.le_of_ble_eq_true rfl) hdg (fun H locs hP _ hS => kk H locs hP hS)
theorem gf_X2_36 {h rr : Nat} {z : WS} (fx : FX p s m args c RX2 cc nL D q) (hP : va_P D vwCl ws H) (i : Nat) (he : ws[i]? = some (oW h rr z)) {v : Int64} (hv : W_charge z = v) (hdg : decode cc pc = .ok (.getfield 36, 3)) (kk : W p l e R s m args below meth c H locs cells slots Q (F0 m (pc + 3) ls (.long v :: rest))) : W p l e R s m args below meth c H locs cells slots Q (F0 m pc ls (.ref h :: rest)) := by
  subst hv
  exact va_get (D := D) (ci := 2) (v := .long (W_charge z)) (C := RX2) (T := TX2) (N := 15) fx.1 fx.2.1 fx.2.2.2.2.1 inlX2 fx.2.2.2.1 fx.2.2.2.2.2.1 hP i he rfl 8 (by decide) (fx.2.2.2.2.1 _ mm_27) (fun _ h9 => h9) rfl hdg kk
theorem gf_X2_46 {h rr : Nat} {z : WS} (fx : FX p s m args c RX2 cc nL D q) (hP : va_P D vwCl ws H) (i : Nat) (he : ws[i]? = some (oW h rr z)) {v : Int32} (hv : W_liquid z = v) (hdg : decode cc pc = .ok (.getfield 46, 3)) (kk : W p l e R s m args below meth c H locs cells slots Q (F0 m (pc + 3) ls (.int v :: rest))) : W p l e R s m args below meth c H locs cells slots Q (F0 m pc ls (.ref h :: rest)) := by
  subst hv
  exact va_get (D := D) (ci := 2) (v := .int (W_liquid z)) (C := RX2) (T := TX2) (N := 15) fx.1 fx.2.1 fx.2.2.2.2.1 inlX2 fx.2.2.2.1 fx.2.2.2.2.2.1 hP i he rfl 11 (by decide) (fx.2.2.2.2.1 _ mm_33) (fun _ h9 => h9) rfl hdg kk
theorem gf_X2_13 {h rr : Nat} {z : WS} (fx : FX p s m args c RX2 cc nL D q) (hP : va_P D vwCl ws H) (i : Nat) (he : ws[i]? = some (oW h rr z)) {v : Int32} (hv : W_weight z = v) (hdg : decode cc pc = .ok (.getfield 13, 3)) (kk : W p l e R s m args below meth c H locs cells slots Q (F0 m (pc + 3) ls (.int v :: rest))) : W p l e R s m args below meth c H locs cells slots Q (F0 m pc ls (.ref h :: rest)) := by
  subst hv
  exact va_get (D := D) (ci := 2) (v := .int (W_weight z)) (C := RX2) (T := TX2) (N := 15) fx.1 fx.2.1 fx.2.2.2.2.1 inlX2 fx.2.2.2.1 fx.2.2.2.2.2.1 hP i he rfl 3 (by decide) (fx.2.2.2.2.1 _ mm_34) (fun _ h9 => h9) rfl hdg kk
theorem gf_X2_20 {h rr : Nat} {z : WS} (fx : FX p s m args c RX2 cc nL D q) (hP : va_P D vwCl ws H) (i : Nat) (he : ws[i]? = some (oW h rr z)) {v : Int32} (hv : W_depth z = v) (hdg : decode cc pc = .ok (.getfield 20, 3)) (kk : W p l e R s m args below meth c H locs cells slots Q (F0 m (pc + 3) ls (.int v :: rest))) : W p l e R s m args below meth c H locs cells slots Q (F0 m pc ls (.ref h :: rest)) := by
  subst hv
  exact va_get (D := D) (ci := 2) (v := .int (W_depth z)) (C := RX2) (T := TX2) (N := 15) fx.1 fx.2.1 fx.2.2.2.2.1 inlX2 fx.2.2.2.1 fx.2.2.2.2.2.1 hP i he rfl 1 (by decide) (fx.2.2.2.2.1 _ mm_35) (fun _ h9 => h9) rfl hdg kk
theorem gf_X2_43 {h rr : Nat} {z : WS} (fx : FX p s m args c RX2 cc nL D q) (hP : va_P D vwCl ws H) (i : Nat) (he : ws[i]? = some (oW h rr z)) {v : Int32} (hv : W_gas z = v) (hdg : decode cc pc = .ok (.getfield 43, 3)) (kk : W p l e R s m args below meth c H locs cells slots Q (F0 m (pc + 3) ls (.int v :: rest))) : W p l e R s m args below meth c H locs cells slots Q (F0 m pc ls (.ref h :: rest)) := by
  subst hv
  exact va_get (D := D) (ci := 2) (v := .int (W_gas z)) (C := RX2) (T := TX2) (N := 15) fx.1 fx.2.1 fx.2.2.2.2.1 inlX2 fx.2.2.2.1 fx.2.2.2.2.2.1 hP i he rfl 10 (by decide) (fx.2.2.2.2.1 _ mm_36) (fun _ h9 => h9) rfl hdg kk
theorem gf_X2_30 {h rr : Nat} {z : WS} (fx : FX p s m args c RX2 cc nL D q) (hP : va_P D vwCl ws H) (i : Nat) (he : ws[i]? = some (oW h rr z)) {v : Int32} (hv : W_choke z = v) (hdg : decode cc pc = .ok (.getfield 30, 3)) (kk : W p l e R s m args below meth c H locs cells slots Q (F0 m (pc + 3) ls (.int v :: rest))) : W p l e R s m args below meth c H locs cells slots Q (F0 m pc ls (.ref h :: rest)) := by
  subst hv
  exact va_get (D := D) (ci := 2) (v := .int (W_choke z)) (C := RX2) (T := TX2) (N := 15) fx.1 fx.2.1 fx.2.2.2.2.1 inlX2 fx.2.2.2.1 fx.2.2.2.2.2.1 hP i he rfl 5 (by decide) (fx.2.2.2.2.1 _ mm_42) (fun _ h9 => h9) rfl hdg kk
theorem gf_X2_40 {h rr : Nat} {z : WS} (fx : FX p s m args c RX2 cc nL D q) (hP : va_P D vwCl ws H) (i : Nat) (he : ws[i]? = some (oW h rr z)) {v : Int32} (hv : W_place z = v) (hdg : decode cc pc = .ok (.getfield 40, 3)) (kk : W p l e R s m args below meth c H locs cells slots Q (F0 m (pc + 3) ls (.int v :: rest))) : W p l e R s m args below meth c H locs cells slots Q (F0 m pc ls (.ref h :: rest)) := by
  subst hv
  exact va_get (D := D) (ci := 2) (v := .int (W_place z)) (C := RX2) (T := TX2) (N := 15) fx.1 fx.2.1 fx.2.2.2.2.1 inlX2 fx.2.2.2.1 fx.2.2.2.2.2.1 hP i he rfl 9 (by decide) (fx.2.2.2.2.1 _ mm_43) (fun _ h9 => h9) rfl hdg kk
theorem gf_X2_23 {h rr : Nat} {z : WS} (fx : FX p s m args c RX2 cc nL D q) (hP : va_P D vwCl ws H) (i : Nat) (he : ws[i]? = some (oW h rr z)) {v : Int32} (hv : W_shoe z = v) (hdg : decode cc pc = .ok (.getfield 23, 3)) (kk : W p l e R s m args below meth c H locs cells slots Q (F0 m (pc + 3) ls (.int v :: rest))) : W p l e R s m args below meth c H locs cells slots Q (F0 m pc ls (.ref h :: rest)) := by
  subst hv
  exact va_get (D := D) (ci := 2) (v := .int (W_shoe z)) (C := RX2) (T := TX2) (N := 15) fx.1 fx.2.1 fx.2.2.2.2.1 inlX2 fx.2.2.2.1 fx.2.2.2.2.2.1 hP i he rfl 2 (by decide) (fx.2.2.2.2.1 _ mm_44) (fun _ h9 => h9) rfl hdg kk
theorem pf_X2_43 {h rr : Nat} {z : WS} (fx : FX p s m args c RX2 cc nL D q) (hP : va_P D vwCl ws H) (hD : va_D A ws) (hS : va_S A H0 H locs) (i : Nat) (he : ws[i]? = some (oW h rr z)) {y : Int32} (hdg : decode cc pc = .ok (.putfield 43, 3)) (kk : ∀ (H1 : Heap) (locs1 : List Loc), va_P D vwCl (ws.set i (oW h rr (W_set_gas z y))) H1 → va_S A H0 H1 locs1 → W p l e R s m args below meth c H1 locs1 cells slots Q (F0 m (pc + 3) ls rest)) : W p l e R s m args below meth c H locs cells slots Q (F0 m pc ls (.int y :: .ref h :: rest)) :=
  va_put (D := D) (ci := 2) (v := .int y) (ty := .int) (C := RX2) (T := TX2) (N := 15) fx.1 fx.2.1 fx.2.2.2.2.1 inlX2 tyX2 tyX2_ok nmX2 fx.2.2.2.1 fx.2.2.2.2.2.1 hP hD hS i he rfl 10 (by decide) (fx.2.2.2.2.1 _ mm_36) (fun _ h9 => h9) rfl (by decide +kernel) rfl rfl (Nat.le_of_ble_eq_true rfl) hdg (fun H locs hP _ hS => kk H locs hP hS)
theorem gf_X2_26 {h rr : Nat} {z : WS} (fx : FX p s m args c RX2 cc nL D q) (hP : va_P D vwCl ws H) (i : Nat) (he : ws[i]? = some (oW h rr z)) {v : Int32} (hv : W_isClosed z = v) (hdg : decode cc pc = .ok (.getfield 26, 3)) (kk : W p l e R s m args below meth c H locs cells slots Q (F0 m (pc + 3) ls (.int v :: rest))) : W p l e R s m args below meth c H locs cells slots Q (F0 m pc ls (.ref h :: rest)) := by
  subst hv
  exact va_get (D := D) (ci := 2) (v := .int (W_isClosed z)) (C := RX2) (T := TX2) (N := 15) fx.1 fx.2.1 fx.2.2.2.2.1 inlX2 fx.2.2.2.1 fx.2.2.2.2.2.1 hP i he rfl 4 (by decide) (fx.2.2.2.2.1 _ mm_50) (fun _ h9 => h9) rfl hdg kk
theorem pf_X2_40 {h rr : Nat} {z : WS} (fx : FX p s m args c RX2 cc nL D q) (hP : va_P D vwCl ws H) (hD : va_D A ws) (hS : va_S A H0 H locs) (i : Nat) (he : ws[i]? = some (oW h rr z)) {y : Int32} (hdg : decode cc pc = .ok (.putfield 40, 3)) (kk : ∀ (H1 : Heap) (locs1 : List Loc), va_P D vwCl (ws.set i (oW h rr (W_set_place z y))) H1 → va_S A H0 H1 locs1 → W p l e R s m args below meth c H1 locs1 cells slots Q (F0 m (pc + 3) ls rest)) : W p l e R s m args below meth c H locs cells slots Q (F0 m pc ls (.int y :: .ref h :: rest)) :=
  va_put (D := D) (ci := 2) (v := .int y) (ty := .int) (C := RX2) (T := TX2) (N := 15) fx.1 fx.2.1 fx.2.2.2.2.1 inlX2 tyX2 tyX2_ok nmX2 fx.2.2.2.1 fx.2.2.2.2.2.1 hP hD hS i he rfl 9 (by decide) (fx.2.2.2.2.1 _ mm_43) (fun _ h9 => h9) rfl (by decide +kernel) rfl rfl (Nat.le_of_ble_eq_true rfl) hdg (fun H locs hP _ hS => kk H locs hP hS)
theorem gf_X2_49 {h rr : Nat} {z : WS} (fx : FX p s m args c RX2 cc nL D q) (hP : va_P D vwCl ws H) (i : Nat) (he : ws[i]? = some (oW h rr z)) {v : Int64} (hv : W_vented z = v) (hdg : decode cc pc = .ok (.getfield 49, 3)) (kk : W p l e R s m args below meth c H locs cells slots Q (F0 m (pc + 3) ls (.long v :: rest))) : W p l e R s m args below meth c H locs cells slots Q (F0 m pc ls (.ref h :: rest)) := by
  subst hv
  exact va_get (D := D) (ci := 2) (v := .long (W_vented z)) (C := RX2) (T := TX2) (N := 15) fx.1 fx.2.1 fx.2.2.2.2.1 inlX2 fx.2.2.2.1 fx.2.2.2.2.2.1 hP i he rfl 12 (by decide) (fx.2.2.2.2.1 _ mm_51) (fun _ h9 => h9) rfl hdg kk
theorem pf_X2_49 {h rr : Nat} {z : WS} (fx : FX p s m args c RX2 cc nL D q) (hP : va_P D vwCl ws H) (hD : va_D A ws) (hS : va_S A H0 H locs) (i : Nat) (he : ws[i]? = some (oW h rr z)) {y : Int64} (hdg : decode cc pc = .ok (.putfield 49, 3)) (kk : ∀ (H1 : Heap) (locs1 : List Loc), va_P D vwCl (ws.set i (oW h rr (W_set_vented z y))) H1 → va_S A H0 H1 locs1 → W p l e R s m args below meth c H1 locs1 cells slots Q (F0 m (pc + 3) ls rest)) : W p l e R s m args below meth c H locs cells slots Q (F0 m pc ls (.long y :: .ref h :: rest)) :=
  va_put (D := D) (ci := 2) (v := .long y) (ty := .long) (C := RX2) (T := TX2) (N := 15) fx.1 fx.2.1 fx.2.2.2.2.1 inlX2 tyX2 tyX2_ok nmX2 fx.2.2.2.1 fx.2.2.2.2.2.1 hP hD hS i he rfl 12 (by decide) (fx.2.2.2.2.1 _ mm_51) (fun _ h9 => h9) rfl (by decide +kernel) rfl rfl (Nat.le_of_ble_eq_true rfl) hdg (fun H locs hP _ hS => kk H locs hP hS)
theorem pf_X2_36 {h rr : Nat} {z : WS} (fx : FX p s m args c RX2 cc nL D q) (hP : va_P D vwCl ws H) (hD : va_D A ws) (hS : va_S A H0 H locs) (i : Nat) (he : ws[i]? = some (oW h rr z)) {y : Int64} (hdg : decode cc pc = .ok (.putfield 36, 3)) (kk : ∀ (H1 : Heap) (locs1 : List Loc), va_P D vwCl (ws.set i (oW h rr (W_set_charge z y))) H1 → va_S A H0 H1 locs1 → W p l e R s m args below meth c H1 locs1 cells slots Q (F0 m (pc + 3) ls rest)) : W p l e R s m args below meth c H locs cells slots Q (F0 m pc ls (.long y :: .ref h :: rest)) :=
  va_put (D := D) (ci := 2) (v := .long y) (ty := .long) (C := RX2) (T := TX2) (N := 15) fx.1 fx.2.1 fx.2.2.2.2.1 inlX2 tyX2 tyX2_ok nmX2 fx.2.2.2.1 fx.2.2.2.2.2.1 hP hD hS i he rfl 8 (by decide) (fx.2.2.2.2.1 _ mm_27) (fun _ h9 => h9) rfl (by decide +kernel) rfl rfl (Nat.le_of_ble_eq_true rfl) hdg (fun H locs hP _ hS => kk H locs hP hS)
theorem gf_X2_7 {h rr : Nat} {z : WS} (fx : FX p s m args c RX2 cc nL D q) (hP : va_P D vwCl ws H) (i : Nat) (he : ws[i]? = some (oW h rr z)) (hdg : decode cc pc = .ok (.getfield 7, 3)) (kk : W p l e R s m args below meth c H locs cells slots Q (F0 m (pc + 3) ls (.ref rr :: rest))) : W p l e R s m args below meth c H locs cells slots Q (F0 m pc ls (.ref h :: rest)) :=
  va_get (D := D) (ci := 2) (v := .ref rr) (C := RX2) (T := TX2) (N := 15) fx.1 fx.2.1 fx.2.2.2.2.1 inlX2 fx.2.2.2.1 fx.2.2.2.2.2.1 hP i he rfl 0 (by decide) (fx.2.2.2.2.1 _ mm_52) (fun _ h9 => h9) rfl hdg kk
theorem pf_X2_30 {h rr : Nat} {z : WS} (fx : FX p s m args c RX2 cc nL D q) (hP : va_P D vwCl ws H) (hD : va_D A ws) (hS : va_S A H0 H locs) (i : Nat) (he : ws[i]? = some (oW h rr z)) {y : Int32} (hdg : decode cc pc = .ok (.putfield 30, 3)) (kk : ∀ (H1 : Heap) (locs1 : List Loc), va_P D vwCl (ws.set i (oW h rr (W_set_choke z y))) H1 → va_S A H0 H1 locs1 → W p l e R s m args below meth c H1 locs1 cells slots Q (F0 m (pc + 3) ls rest)) : W p l e R s m args below meth c H locs cells slots Q (F0 m pc ls (.int y :: .ref h :: rest)) :=
  va_put (D := D) (ci := 2) (v := .int y) (ty := .int) (C := RX2) (T := TX2) (N := 15) fx.1 fx.2.1 fx.2.2.2.2.1 inlX2 tyX2 tyX2_ok nmX2 fx.2.2.2.1 fx.2.2.2.2.2.1 hP hD hS i he rfl 5 (by decide) (fx.2.2.2.2.1 _ mm_42) (fun _ h9 => h9) rfl (by decide +kernel) rfl rfl (Nat.le_of_ble_eq_true rfl) hdg (fun H locs hP _ hS => kk H locs hP hS)
theorem gf_X2_17 {h rr : Nat} {z : WS} (fx : FX p s m args c RX2 cc nL D q) (hP : va_P D vwCl ws H) (i : Nat) (he : ws[i]? = some (oW h rr z)) {v : Int32} (hv : W_valveStrength z = v) (hdg : decode cc pc = .ok (.getfield 17, 3)) (kk : W p l e R s m args below meth c H locs cells slots Q (F0 m (pc + 3) ls (.int v :: rest))) : W p l e R s m args below meth c H locs cells slots Q (F0 m pc ls (.ref h :: rest)) := by
  subst hv
  exact va_get (D := D) (ci := 2) (v := .int (W_valveStrength z)) (C := RX2) (T := TX2) (N := 15) fx.1 fx.2.1 fx.2.2.2.2.1 inlX2 fx.2.2.2.1 fx.2.2.2.2.2.1 hP i he rfl 6 (by decide) (fx.2.2.2.2.1 _ mm_56) (fun _ h9 => h9) rfl hdg kk
theorem pf_X2_26 {h rr : Nat} {z : WS} (fx : FX p s m args c RX2 cc nL D q) (hP : va_P D vwCl ws H) (hD : va_D A ws) (hS : va_S A H0 H locs) (i : Nat) (he : ws[i]? = some (oW h rr z)) {y : Int32} (hz : bz y) (hdg : decode cc pc = .ok (.putfield 26, 3)) (kk : ∀ (H1 : Heap) (locs1 : List Loc), va_P D vwCl (ws.set i (oW h rr (W_set_isClosed z y))) H1 → va_S A H0 H1 locs1 → W p l e R s m args below meth c H1 locs1 cells slots Q (F0 m (pc + 3) ls rest)) : W p l e R s m args below meth c H locs cells slots Q (F0 m pc ls (.int y :: .ref h :: rest)) :=
  va_put (D := D) (ci := 2) (v := .int y) (ty := .boolean) (C := RX2) (T := TX2) (N := 15) fx.1 fx.2.1 fx.2.2.2.2.1 inlX2 tyX2 tyX2_ok nmX2 fx.2.2.2.1 fx.2.2.2.2.2.1 hP hD hS i he rfl 4 (by decide) (fx.2.2.2.2.1 _ mm_50) (fun _ h9 => h9) rfl (by decide +kernel) (bz_n hz) (bz_f hz) (Nat.le_of_ble_eq_true rfl) hdg (fun H locs hP _ hS => kk H locs hP hS)
theorem pf_X2_33 {h rr : Nat} {z : WS} (fx : FX p s m args c RX2 cc nL D q) (hP : va_P D vwCl ws H) (hD : va_D A ws) (hS : va_S A H0 H locs) (i : Nat) (he : ws[i]? = some (oW h rr z)) {y : Int32} (hz : bz y) (hdg : decode cc pc = .ok (.putfield 33, 3)) (kk : ∀ (H1 : Heap) (locs1 : List Loc), va_P D vwCl (ws.set i (oW h rr (W_set_hasBrokenSinceTest z y))) H1 → va_S A H0 H1 locs1 → W p l e R s m args below meth c H1 locs1 cells slots Q (F0 m (pc + 3) ls rest)) : W p l e R s m args below meth c H locs cells slots Q (F0 m pc ls (.int y :: .ref h :: rest)) :=
  va_put (D := D) (ci := 2) (v := .int y) (ty := .boolean) (C := RX2) (T := TX2) (N := 15) fx.1 fx.2.1 fx.2.2.2.2.1 inlX2 tyX2 tyX2_ok nmX2 fx.2.2.2.1 fx.2.2.2.2.2.1 hP hD hS i he rfl 7 (by decide) (fx.2.2.2.2.1 _ mm_57) (fun _ h9 => h9) rfl (by decide +kernel) (bz_n hz) (bz_f hz) (Nat.le_of_ble_eq_true rfl) hdg (fun H locs hP _ hS => kk H locs hP hS)
theorem pf_X2_46 {h rr : Nat} {z : WS} (fx : FX p s m args c RX2 cc nL D q) (hP : va_P D vwCl ws H) (hD : va_D A ws) (hS : va_S A H0 H locs) (i : Nat) (he : ws[i]? = some (oW h rr z)) {y : Int32} (hdg : decode cc pc = .ok (.putfield 46, 3)) (kk : ∀ (H1 : Heap) (locs1 : List Loc), va_P D vwCl (ws.set i (oW h rr (W_set_liquid z y))) H1 → va_S A H0 H1 locs1 → W p l e R s m args below meth c H1 locs1 cells slots Q (F0 m (pc + 3) ls rest)) : W p l e R s m args below meth c H locs cells slots Q (F0 m pc ls (.int y :: .ref h :: rest)) :=
  va_put (D := D) (ci := 2) (v := .int y) (ty := .int) (C := RX2) (T := TX2) (N := 15) fx.1 fx.2.1 fx.2.2.2.2.1 inlX2 tyX2 tyX2_ok nmX2 fx.2.2.2.1 fx.2.2.2.2.2.1 hP hD hS i he rfl 11 (by decide) (fx.2.2.2.2.1 _ mm_33) (fun _ h9 => h9) rfl (by decide +kernel) rfl rfl (Nat.le_of_ble_eq_true rfl) hdg (fun H locs hP _ hS => kk H locs hP hS)
theorem gf_X2_52 {h rr : Nat} {z : WS} (fx : FX p s m args c RX2 cc nL D q) (hP : va_P D vwCl ws H) (i : Nat) (he : ws[i]? = some (oW h rr z)) {v : Int32} (hv : W_lost z = v) (hdg : decode cc pc = .ok (.getfield 52, 3)) (kk : W p l e R s m args below meth c H locs cells slots Q (F0 m (pc + 3) ls (.int v :: rest))) : W p l e R s m args below meth c H locs cells slots Q (F0 m pc ls (.ref h :: rest)) := by
  subst hv
  exact va_get (D := D) (ci := 2) (v := .int (W_lost z)) (C := RX2) (T := TX2) (N := 15) fx.1 fx.2.1 fx.2.2.2.2.1 inlX2 fx.2.2.2.1 fx.2.2.2.2.2.1 hP i he rfl 13 (by decide) (fx.2.2.2.2.1 _ mm_80) (fun _ h9 => h9) rfl hdg kk
theorem pf_X2_52 {h rr : Nat} {z : WS} (fx : FX p s m args c RX2 cc nL D q) (hP : va_P D vwCl ws H) (hD : va_D A ws) (hS : va_S A H0 H locs) (i : Nat) (he : ws[i]? = some (oW h rr z)) {y : Int32} (hdg : decode cc pc = .ok (.putfield 52, 3)) (kk : ∀ (H1 : Heap) (locs1 : List Loc), va_P D vwCl (ws.set i (oW h rr (W_set_lost z y))) H1 → va_S A H0 H1 locs1 → W p l e R s m args below meth c H1 locs1 cells slots Q (F0 m (pc + 3) ls rest)) : W p l e R s m args below meth c H locs cells slots Q (F0 m pc ls (.int y :: .ref h :: rest)) :=
  va_put (D := D) (ci := 2) (v := .int y) (ty := .int) (C := RX2) (T := TX2) (N := 15) fx.1 fx.2.1 fx.2.2.2.2.1 inlX2 tyX2 tyX2_ok nmX2 fx.2.2.2.1 fx.2.2.2.2.2.1 hP hD hS i he rfl 13 (by decide) (fx.2.2.2.2.1 _ mm_80) (fun _ h9 => h9) rfl (by decide +kernel) rfl rfl (Nat.le_of_ble_eq_true rfl) hdg (fun H locs hP _ hS => kk H locs hP hS)
theorem gf_X2_55 {h rr : Nat} {z : WS} (fx : FX p s m args c RX2 cc nL D q) (hP : va_P D vwCl ws H) (i : Nat) (he : ws[i]? = some (oW h rr z)) {v : Int32} (hv : W_minutes z = v) (hdg : decode cc pc = .ok (.getfield 55, 3)) (kk : W p l e R s m args below meth c H locs cells slots Q (F0 m (pc + 3) ls (.int v :: rest))) : W p l e R s m args below meth c H locs cells slots Q (F0 m pc ls (.ref h :: rest)) := by
  subst hv
  exact va_get (D := D) (ci := 2) (v := .int (W_minutes z)) (C := RX2) (T := TX2) (N := 15) fx.1 fx.2.1 fx.2.2.2.2.1 inlX2 fx.2.2.2.1 fx.2.2.2.2.2.1 hP i he rfl 14 (by decide) (fx.2.2.2.2.1 _ mm_81) (fun _ h9 => h9) rfl hdg kk
theorem pf_X2_55 {h rr : Nat} {z : WS} (fx : FX p s m args c RX2 cc nL D q) (hP : va_P D vwCl ws H) (hD : va_D A ws) (hS : va_S A H0 H locs) (i : Nat) (he : ws[i]? = some (oW h rr z)) {y : Int32} (hdg : decode cc pc = .ok (.putfield 55, 3)) (kk : ∀ (H1 : Heap) (locs1 : List Loc), va_P D vwCl (ws.set i (oW h rr (W_set_minutes z y))) H1 → va_S A H0 H1 locs1 → W p l e R s m args below meth c H1 locs1 cells slots Q (F0 m (pc + 3) ls rest)) : W p l e R s m args below meth c H locs cells slots Q (F0 m pc ls (.int y :: .ref h :: rest)) :=
  va_put (D := D) (ci := 2) (v := .int y) (ty := .int) (C := RX2) (T := TX2) (N := 15) fx.1 fx.2.1 fx.2.2.2.2.1 inlX2 tyX2 tyX2_ok nmX2 fx.2.2.2.1 fx.2.2.2.2.2.1 hP hD hS i he rfl 14 (by decide) (fx.2.2.2.2.1 _ mm_81) (fun _ h9 => h9) rfl (by decide +kernel) rfl rfl (Nat.le_of_ble_eq_true rfl) hdg (fun H locs hP _ hS => kk H locs hP hS)
theorem pf_X2_20 {h rr : Nat} {z : WS} (fx : FX p s m args c RX2 cc nL D q) (hP : va_P D vwCl ws H) (hD : va_D A ws) (hS : va_S A H0 H locs) (i : Nat) (he : ws[i]? = some (oW h rr z)) {y : Int32} (hdg : decode cc pc = .ok (.putfield 20, 3)) (kk : ∀ (H1 : Heap) (locs1 : List Loc), va_P D vwCl (ws.set i (oW h rr (W_set_depth z y))) H1 → va_S A H0 H1 locs1 → W p l e R s m args below meth c H1 locs1 cells slots Q (F0 m (pc + 3) ls rest)) : W p l e R s m args below meth c H locs cells slots Q (F0 m pc ls (.int y :: .ref h :: rest)) :=
  va_put (D := D) (ci := 2) (v := .int y) (ty := .int) (C := RX2) (T := TX2) (N := 15) fx.1 fx.2.1 fx.2.2.2.2.1 inlX2 tyX2 tyX2_ok nmX2 fx.2.2.2.1 fx.2.2.2.2.2.1 hP hD hS i he rfl 1 (by decide) (fx.2.2.2.2.1 _ mm_35) (fun _ h9 => h9) rfl (by decide +kernel) rfl rfl (Nat.le_of_ble_eq_true rfl) hdg (fun H locs hP _ hS => kk H locs hP hS)
theorem pf_X2_23 {h rr : Nat} {z : WS} (fx : FX p s m args c RX2 cc nL D q) (hP : va_P D vwCl ws H) (hD : va_D A ws) (hS : va_S A H0 H locs) (i : Nat) (he : ws[i]? = some (oW h rr z)) {y : Int32} (hdg : decode cc pc = .ok (.putfield 23, 3)) (kk : ∀ (H1 : Heap) (locs1 : List Loc), va_P D vwCl (ws.set i (oW h rr (W_set_shoe z y))) H1 → va_S A H0 H1 locs1 → W p l e R s m args below meth c H1 locs1 cells slots Q (F0 m (pc + 3) ls rest)) : W p l e R s m args below meth c H locs cells slots Q (F0 m pc ls (.int y :: .ref h :: rest)) :=
  va_put (D := D) (ci := 2) (v := .int y) (ty := .int) (C := RX2) (T := TX2) (N := 15) fx.1 fx.2.1 fx.2.2.2.2.1 inlX2 tyX2 tyX2_ok nmX2 fx.2.2.2.1 fx.2.2.2.2.2.1 hP hD hS i he rfl 2 (by decide) (fx.2.2.2.2.1 _ mm_44) (fun _ h9 => h9) rfl (by decide +kernel) rfl rfl (Nat.le_of_ble_eq_true rfl) hdg (fun H locs hP _ hS => kk H locs hP hS)
theorem pf_X2_13 {h rr : Nat} {z : WS} (fx : FX p s m args c RX2 cc nL D q) (hP : va_P D vwCl ws H) (hD : va_D A ws) (hS : va_S A H0 H locs) (i : Nat) (he : ws[i]? = some (oW h rr z)) {y : Int32} (hdg : decode cc pc = .ok (.putfield 13, 3)) (kk : ∀ (H1 : Heap) (locs1 : List Loc), va_P D vwCl (ws.set i (oW h rr (W_set_weight z y))) H1 → va_S A H0 H1 locs1 → W p l e R s m args below meth c H1 locs1 cells slots Q (F0 m (pc + 3) ls rest)) : W p l e R s m args below meth c H locs cells slots Q (F0 m pc ls (.int y :: .ref h :: rest)) :=
  va_put (D := D) (ci := 2) (v := .int y) (ty := .int) (C := RX2) (T := TX2) (N := 15) fx.1 fx.2.1 fx.2.2.2.2.1 inlX2 tyX2 tyX2_ok nmX2 fx.2.2.2.1 fx.2.2.2.2.2.1 hP hD hS i he rfl 3 (by decide) (fx.2.2.2.2.1 _ mm_34) (fun _ h9 => h9) rfl (by decide +kernel) rfl rfl (Nat.le_of_ble_eq_true rfl) hdg (fun H locs hP _ hS => kk H locs hP hS)
theorem pf_X2_17 {h rr : Nat} {z : WS} (fx : FX p s m args c RX2 cc nL D q) (hP : va_P D vwCl ws H) (hD : va_D A ws) (hS : va_S A H0 H locs) (i : Nat) (he : ws[i]? = some (oW h rr z)) {y : Int32} (hdg : decode cc pc = .ok (.putfield 17, 3)) (kk : ∀ (H1 : Heap) (locs1 : List Loc), va_P D vwCl (ws.set i (oW h rr (W_set_valveStrength z y))) H1 → va_S A H0 H1 locs1 → W p l e R s m args below meth c H1 locs1 cells slots Q (F0 m (pc + 3) ls rest)) : W p l e R s m args below meth c H locs cells slots Q (F0 m pc ls (.int y :: .ref h :: rest)) :=
  va_put (D := D) (ci := 2) (v := .int y) (ty := .int) (C := RX2) (T := TX2) (N := 15) fx.1 fx.2.1 fx.2.2.2.2.1 inlX2 tyX2 tyX2_ok nmX2 fx.2.2.2.1 fx.2.2.2.2.2.1 hP hD hS i he rfl 6 (by decide) (fx.2.2.2.2.1 _ mm_56) (fun _ h9 => h9) rfl (by decide +kernel) rfl rfl (Nat.le_of_ble_eq_true rfl) hdg (fun H locs hP _ hS => kk H locs hP hS)
theorem gf_X2_33 {h rr : Nat} {z : WS} (fx : FX p s m args c RX2 cc nL D q) (hP : va_P D vwCl ws H) (i : Nat) (he : ws[i]? = some (oW h rr z)) {v : Int32} (hv : W_hasBrokenSinceTest z = v) (hdg : decode cc pc = .ok (.getfield 33, 3)) (kk : W p l e R s m args below meth c H locs cells slots Q (F0 m (pc + 3) ls (.int v :: rest))) : W p l e R s m args below meth c H locs cells slots Q (F0 m pc ls (.ref h :: rest)) := by
  subst hv
  exact va_get (D := D) (ci := 2) (v := .int (W_hasBrokenSinceTest z)) (C := RX2) (T := TX2) (N := 15) fx.1 fx.2.1 fx.2.2.2.2.1 inlX2 fx.2.2.2.1 fx.2.2.2.2.2.1 hP i he rfl 7 (by decide) (fx.2.2.2.2.1 _ mm_57) (fun _ h9 => h9) rfl hdg kk
theorem gf_X3_21 {h rr hw ht tt : Nat} {z : XS} (fx : FX p s m args c RX3 cc nL D q) (hP : va_P D vwCl ws H) (i : Nat) (he : ws[i]? = some (oX h rr hw ht tt z)) (hdg : decode cc pc = .ok (.getfield 21, 3)) (kk : W p l e R s m args below meth c H locs cells slots Q (F0 m (pc + 3) ls (.ref hw :: rest))) : W p l e R s m args below meth c H locs cells slots Q (F0 m pc ls (.ref h :: rest)) :=
  va_get (D := D) (ci := 3) (v := .ref hw) (C := RX3) (T := TX3) (N := 8) fx.1 fx.2.1 fx.2.2.2.2.1 inlX3 fx.2.2.2.1 fx.2.2.2.2.2.1 hP i he rfl 1 (by decide) (fx.2.2.2.2.1 _ mm_106) (fun _ h9 => h9) rfl hdg kk
theorem gf_X3_151 {h rr : Nat} {z : WS} (fx : FX p s m args c RX3 cc nL D q) (hP : va_P D vwCl ws H) (i : Nat) (he : ws[i]? = some (oW h rr z)) {v : Int32} (hv : W_minutes z = v) (hdg : decode cc pc = .ok (.getfield 151, 3)) (kk : W p l e R s m args below meth c H locs cells slots Q (F0 m (pc + 3) ls (.int v :: rest))) : W p l e R s m args below meth c H locs cells slots Q (F0 m pc ls (.ref h :: rest)) := by
  subst hv
  exact va_getN (D := D) (ci := 2) (v := .int (W_minutes z)) (C := RX2) (T := TX2) (N := 15) fx.1 fx.2.1 fx.2.2.2.2.1 inlX2 fx.2.2.2.1 fx.2.2.2.2.2.1 hP i he rfl 14 (by decide) (va_Nw.use rfl (fx.2.2.2.2.2.2 _ nw_14)) (fun _ h9 => h9) rfl hdg kk
theorem gf_X3_10 {h rr hw ht tt : Nat} {z : XS} (fx : FX p s m args c RX3 cc nL D q) (hP : va_P D vwCl ws H) (i : Nat) (he : ws[i]? = some (oX h rr hw ht tt z)) (hdg : decode cc pc = .ok (.getfield 10, 3)) (kk : W p l e R s m args below meth c H locs cells slots Q (F0 m (pc + 3) ls (.ref rr :: rest))) : W p l e R s m args below meth c H locs cells slots Q (F0 m pc ls (.ref h :: rest)) :=
  va_get (D := D) (ci := 3) (v := .ref rr) (C := RX3) (T := TX3) (N := 8) fx.1 fx.2.1 fx.2.2.2.2.1 inlX3 fx.2.2.2.1 fx.2.2.2.2.2.1 hP i he rfl 0 (by decide) (fx.2.2.2.2.1 _ mm_111) (fun _ h9 => h9) rfl hdg kk
theorem gf_X3_55 {h rr : Nat} {z : WS} (fx : FX p s m args c RX3 cc nL D q) (hP : va_P D vwCl ws H) (i : Nat) (he : ws[i]? = some (oW h rr z)) {v : Int32} (hv : W_depth z = v) (hdg : decode cc pc = .ok (.getfield 55, 3)) (kk : W p l e R s m args below meth c H locs cells slots Q (F0 m (pc + 3) ls (.int v :: rest))) : W p l e R s m args below meth c H locs cells slots Q (F0 m pc ls (.ref h :: rest)) := by
  subst hv
  exact va_getN (D := D) (ci := 2) (v := .int (W_depth z)) (C := RX2) (T := TX2) (N := 15) fx.1 fx.2.1 fx.2.2.2.2.1 inlX2 fx.2.2.2.1 fx.2.2.2.2.2.1 hP i he rfl 1 (by decide) (va_Nw.use rfl (fx.2.2.2.2.2.2 _ nw_2)) (fun _ h9 => h9) rfl hdg kk
theorem gf_X3_31 {h rr hw ht tt : Nat} {z : XS} (fx : FX p s m args c RX3 cc nL D q) (hP : va_P D vwCl ws H) (i : Nat) (he : ws[i]? = some (oX h rr hw ht tt z)) (hdg : decode cc pc = .ok (.getfield 31, 3)) (kk : W p l e R s m args below meth c H locs cells slots Q (F0 m (pc + 3) ls (.ref tt :: rest))) : W p l e R s m args below meth c H locs cells slots Q (F0 m pc ls (.ref h :: rest)) :=
  va_get (D := D) (ci := 3) (v := .ref tt) (C := RX3) (T := TX3) (N := 8) fx.1 fx.2.1 fx.2.2.2.2.1 inlX3 fx.2.2.2.1 fx.2.2.2.2.2.1 hP i he rfl 3 (by decide) (fx.2.2.2.2.1 _ mm_112) (fun _ h9 => h9) rfl hdg kk
theorem gf_X3_264 {k : Nat → Nat} {z : TS} (fx : FX p s m args c RX3 cc nL D q) (hP : va_P D vwCl ws H) (i : Nat) (he : ws[i]? = some (oT k z)) {v : Int32} (hv : T_latestOfValve z = v) (hdg : decode cc pc = .ok (.getfield 264, 3)) (kk : W p l e R s m args below meth c H locs cells slots Q (F0 m (pc + 3) ls (.int v :: rest))) : W p l e R s m args below meth c H locs cells slots Q (F0 m pc ls (.ref (k 0) :: rest)) := by
  subst hv
  exact va_getN (D := D) (ci := 1) (v := .int (T_latestOfValve z)) (C := RX1) (T := TX1) (N := 7) fx.1 fx.2.1 fx.2.2.2.2.1 inlX1 fx.2.2.2.1 fx.2.2.2.2.2.1 hP i he rfl 5 (by decide) (va_Nw.use rfl (fx.2.2.2.2.2.2 _ nw_21)) (fun _ h9 => h9) rfl hdg kk
theorem gf_X3_234 {k : Nat → Nat} {z : TS} (fx : FX p s m args c RX3 cc nL D q) (hP : va_P D vwCl ws H) (i : Nat) (he : ws[i]? = some (oT k z)) (hdg : decode cc pc = .ok (.getfield 234, 3)) (kk : W p l e R s m args below meth c H locs cells slots Q (F0 m (pc + 3) ls (.ref (k 4) :: rest))) : W p l e R s m args below meth c H locs cells slots Q (F0 m pc ls (.ref (k 0) :: rest)) :=
  va_getN (D := D) (ci := 1) (v := .ref (k 4)) (C := RX1) (T := TX1) (N := 7) fx.1 fx.2.1 fx.2.2.2.2.1 inlX1 fx.2.2.2.1 fx.2.2.2.2.2.1 hP i he rfl 3 (by decide) (va_Nw.use rfl (fx.2.2.2.2.2.2 _ nw_19)) (fun _ h9 => h9) rfl hdg kk
theorem gf_X3_158 {h rr : Nat} {z : WS} (fx : FX p s m args c RX3 cc nL D q) (hP : va_P D vwCl ws H) (i : Nat) (he : ws[i]? = some (oW h rr z)) {v : Int32} (hv : W_hasBrokenSinceTest z = v) (hdg : decode cc pc = .ok (.getfield 158, 3)) (kk : W p l e R s m args below meth c H locs cells slots Q (F0 m (pc + 3) ls (.int v :: rest))) : W p l e R s m args below meth c H locs cells slots Q (F0 m pc ls (.ref h :: rest)) := by
  subst hv
  exact va_getN (D := D) (ci := 2) (v := .int (W_hasBrokenSinceTest z)) (C := RX2) (T := TX2) (N := 15) fx.1 fx.2.1 fx.2.2.2.2.1 inlX2 fx.2.2.2.1 fx.2.2.2.2.2.1 hP i he rfl 7 (by decide) (va_Nw.use rfl (fx.2.2.2.2.2.2 _ nw_8)) (fun _ h9 => h9) rfl hdg kk
theorem gf_X3_123 {h rr : Nat} {z : WS} (fx : FX p s m args c RX3 cc nL D q) (hP : va_P D vwCl ws H) (i : Nat) (he : ws[i]? = some (oW h rr z)) {v : Int32} (hv : W_shoe z = v) (hdg : decode cc pc = .ok (.getfield 123, 3)) (kk : W p l e R s m args below meth c H locs cells slots Q (F0 m (pc + 3) ls (.int v :: rest))) : W p l e R s m args below meth c H locs cells slots Q (F0 m pc ls (.ref h :: rest)) := by
  subst hv
  exact va_getN (D := D) (ci := 2) (v := .int (W_shoe z)) (C := RX2) (T := TX2) (N := 15) fx.1 fx.2.1 fx.2.2.2.2.1 inlX2 fx.2.2.2.1 fx.2.2.2.2.2.1 hP i he rfl 2 (by decide) (va_Nw.use rfl (fx.2.2.2.2.2.2 _ nw_3)) (fun _ h9 => h9) rfl hdg kk
theorem gf_X3_135 {k : Nat → Nat} {z : TS} (fx : FX p s m args c RX3 cc nL D q) (hP : va_P D vwCl ws H) (i : Nat) (he : ws[i]? = some (oT k z)) {v : Int32} (hv : T_latestOfCement z = v) (hdg : decode cc pc = .ok (.getfield 135, 3)) (kk : W p l e R s m args below meth c H locs cells slots Q (F0 m (pc + 3) ls (.int v :: rest))) : W p l e R s m args below meth c H locs cells slots Q (F0 m pc ls (.ref (k 0) :: rest)) := by
  subst hv
  exact va_getN (D := D) (ci := 1) (v := .int (T_latestOfCement z)) (C := RX1) (T := TX1) (N := 7) fx.1 fx.2.1 fx.2.2.2.2.1 inlX1 fx.2.2.2.1 fx.2.2.2.2.2.1 hP i he rfl 6 (by decide) (va_Nw.use rfl (fx.2.2.2.2.2.2 _ nw_22)) (fun _ h9 => h9) rfl hdg kk
theorem gf_X3_163 {h rr hw ht tt : Nat} {z : XS} (fx : FX p s m args c RX3 cc nL D q) (hP : va_P D vwCl ws H) (i : Nat) (he : ws[i]? = some (oX h rr hw ht tt z)) {v : Int32} (hv : X_stops z = v) (hdg : decode cc pc = .ok (.getfield 163, 3)) (kk : W p l e R s m args below meth c H locs cells slots Q (F0 m (pc + 3) ls (.int v :: rest))) : W p l e R s m args below meth c H locs cells slots Q (F0 m pc ls (.ref h :: rest)) := by
  subst hv
  exact va_get (D := D) (ci := 3) (v := .int (X_stops z)) (C := RX3) (T := TX3) (N := 8) fx.1 fx.2.1 fx.2.2.2.2.1 inlX3 fx.2.2.2.1 fx.2.2.2.2.2.1 hP i he rfl 4 (by decide) (fx.2.2.2.2.1 _ mm_133) (fun _ h9 => h9) rfl hdg kk
theorem gf_X3_69 {h rr : Nat} {z : WS} (fx : FX p s m args c RX3 cc nL D q) (hP : va_P D vwCl ws H) (i : Nat) (he : ws[i]? = some (oW h rr z)) {v : Int32} (hv : W_isClosed z = v) (hdg : decode cc pc = .ok (.getfield 69, 3)) (kk : W p l e R s m args below meth c H locs cells slots Q (F0 m (pc + 3) ls (.int v :: rest))) : W p l e R s m args below meth c H locs cells slots Q (F0 m pc ls (.ref h :: rest)) := by
  subst hv
  exact va_getN (D := D) (ci := 2) (v := .int (W_isClosed z)) (C := RX2) (T := TX2) (N := 15) fx.1 fx.2.1 fx.2.2.2.2.1 inlX2 fx.2.2.2.1 fx.2.2.2.2.2.1 hP i he rfl 4 (by decide) (va_Nw.use rfl (fx.2.2.2.2.2.2 _ nw_5)) (fun _ h9 => h9) rfl hdg kk
theorem gf_X3_78 {h rr hw ht tt : Nat} {z : XS} (fx : FX p s m args c RX3 cc nL D q) (hP : va_P D vwCl ws H) (i : Nat) (he : ws[i]? = some (oX h rr hw ht tt z)) {v : Int32} (hv : X_pumped z = v) (hdg : decode cc pc = .ok (.getfield 78, 3)) (kk : W p l e R s m args below meth c H locs cells slots Q (F0 m (pc + 3) ls (.int v :: rest))) : W p l e R s m args below meth c H locs cells slots Q (F0 m pc ls (.ref h :: rest)) := by
  subst hv
  exact va_get (D := D) (ci := 3) (v := .int (X_pumped z)) (C := RX3) (T := TX3) (N := 8) fx.1 fx.2.1 fx.2.2.2.2.1 inlX3 fx.2.2.2.1 fx.2.2.2.2.2.1 hP i he rfl 5 (by decide) (fx.2.2.2.2.1 _ mm_142) (fun _ h9 => h9) rfl hdg kk
theorem pf_X3_78 {h rr hw ht tt : Nat} {z : XS} (fx : FX p s m args c RX3 cc nL D q) (hP : va_P D vwCl ws H) (hD : va_D A ws) (hS : va_S A H0 H locs) (i : Nat) (he : ws[i]? = some (oX h rr hw ht tt z)) {y : Int32} (hdg : decode cc pc = .ok (.putfield 78, 3)) (kk : ∀ (H1 : Heap) (locs1 : List Loc), va_P D vwCl (ws.set i (oX h rr hw ht tt (X_set_pumped z y))) H1 → va_S A H0 H1 locs1 → W p l e R s m args below meth c H1 locs1 cells slots Q (F0 m (pc + 3) ls rest)) : W p l e R s m args below meth c H locs cells slots Q (F0 m pc ls (.int y :: .ref h :: rest)) :=
  va_put (D := D) (ci := 3) (v := .int y) (ty := .int) (C := RX3) (T := TX3) (N := 8) fx.1 fx.2.1 fx.2.2.2.2.1 inlX3 tyX3 tyX3_ok nmX3 fx.2.2.2.1 fx.2.2.2.2.2.1 hP hD hS i he rfl 5 (by decide) (fx.2.2.2.2.1 _ mm_142) (fun _ h9 => h9) rfl (by decide +kernel) rfl rfl (Nat.le_of_ble_eq_true rfl) hdg (fun H locs hP _ hS => kk H locs hP hS)
theorem pf_X3_75 {h rr : Nat} {z : WS} (fx : FX p s m args c RX3 cc nL D q) (hP : va_P D vwCl ws H) (hD : va_D A ws) (hS : va_S A H0 H locs) (i : Nat) (he : ws[i]? = some (oW h rr z)) {y : Int32} (hdg : decode cc pc = .ok (.putfield 75, 3)) (kk : ∀ (H1 : Heap) (locs1 : List Loc), va_P D vwCl (ws.set i (oW h rr (W_set_weight z y))) H1 → va_S A H0 H1 locs1 → W p l e R s m args below meth c H1 locs1 cells slots Q (F0 m (pc + 3) ls rest)) : W p l e R s m args below meth c H locs cells slots Q (F0 m pc ls (.int y :: .ref h :: rest)) :=
  va_putN (D := D) (ci := 2) (v := .int y) (ty := .int) (C := RX2) (T := TX2) (N := 15) fx.1 fx.2.1 fx.2.2.2.2.1 inlX2 tyX2 tyX2_ok nmX2 fx.2.2.2.1 fx.2.2.2.2.2.1 hP hD hS i he rfl 3 (by decide) (va_Nw.use rfl (fx.2.2.2.2.2.2 _ nw_4)) (fun _ h9 => h9) rfl (by decide +kernel) rfl rfl (Nat.le_of_ble_eq_true rfl) hdg (fun H locs hP _ hS => kk H locs hP hS)
theorem pf_X3_118 {h rr : Nat} {z : WS} (fx : FX p s m args c RX3 cc nL D q) (hP : va_P D vwCl ws H) (hD : va_D A ws) (hS : va_S A H0 H locs) (i : Nat) (he : ws[i]? = some (oW h rr z)) {y : Int32} (hdg : decode cc pc = .ok (.putfield 118, 3)) (kk : ∀ (H1 : Heap) (locs1 : List Loc), va_P D vwCl (ws.set i (oW h rr (W_set_liquid z y))) H1 → va_S A H0 H1 locs1 → W p l e R s m args below meth c H1 locs1 cells slots Q (F0 m (pc + 3) ls rest)) : W p l e R s m args below meth c H locs cells slots Q (F0 m pc ls (.int y :: .ref h :: rest)) :=
  va_putN (D := D) (ci := 2) (v := .int y) (ty := .int) (C := RX2) (T := TX2) (N := 15) fx.1 fx.2.1 fx.2.2.2.2.1 inlX2 tyX2 tyX2_ok nmX2 fx.2.2.2.1 fx.2.2.2.2.2.1 hP hD hS i he rfl 11 (by decide) (va_Nw.use rfl (fx.2.2.2.2.2.2 _ nw_11)) (fun _ h9 => h9) rfl (by decide +kernel) rfl rfl (Nat.le_of_ble_eq_true rfl) hdg (fun H locs hP _ hS => kk H locs hP hS)
theorem gf_X3_75 {h rr : Nat} {z : WS} (fx : FX p s m args c RX3 cc nL D q) (hP : va_P D vwCl ws H) (i : Nat) (he : ws[i]? = some (oW h rr z)) {v : Int32} (hv : W_weight z = v) (hdg : decode cc pc = .ok (.getfield 75, 3)) (kk : W p l e R s m args below meth c H locs cells slots Q (F0 m (pc + 3) ls (.int v :: rest))) : W p l e R s m args below meth c H locs cells slots Q (F0 m pc ls (.ref h :: rest)) := by
  subst hv
  exact va_getN (D := D) (ci := 2) (v := .int (W_weight z)) (C := RX2) (T := TX2) (N := 15) fx.1 fx.2.1 fx.2.2.2.2.1 inlX2 fx.2.2.2.1 fx.2.2.2.2.2.1 hP i he rfl 3 (by decide) (va_Nw.use rfl (fx.2.2.2.2.2.2 _ nw_4)) (fun _ h9 => h9) rfl hdg kk
theorem pf_X3_55 {h rr : Nat} {z : WS} (fx : FX p s m args c RX3 cc nL D q) (hP : va_P D vwCl ws H) (hD : va_D A ws) (hS : va_S A H0 H locs) (i : Nat) (he : ws[i]? = some (oW h rr z)) {y : Int32} (hdg : decode cc pc = .ok (.putfield 55, 3)) (kk : ∀ (H1 : Heap) (locs1 : List Loc), va_P D vwCl (ws.set i (oW h rr (W_set_depth z y))) H1 → va_S A H0 H1 locs1 → W p l e R s m args below meth c H1 locs1 cells slots Q (F0 m (pc + 3) ls rest)) : W p l e R s m args below meth c H locs cells slots Q (F0 m pc ls (.int y :: .ref h :: rest)) :=
  va_putN (D := D) (ci := 2) (v := .int y) (ty := .int) (C := RX2) (T := TX2) (N := 15) fx.1 fx.2.1 fx.2.2.2.2.1 inlX2 tyX2 tyX2_ok nmX2 fx.2.2.2.1 fx.2.2.2.2.2.1 hP hD hS i he rfl 1 (by decide) (va_Nw.use rfl (fx.2.2.2.2.2.2 _ nw_2)) (fun _ h9 => h9) rfl (by decide +kernel) rfl rfl (Nat.le_of_ble_eq_true rfl) hdg (fun H locs hP _ hS => kk H locs hP hS)
theorem pf_X3_69 {h rr : Nat} {z : WS} (fx : FX p s m args c RX3 cc nL D q) (hP : va_P D vwCl ws H) (hD : va_D A ws) (hS : va_S A H0 H locs) (i : Nat) (he : ws[i]? = some (oW h rr z)) {y : Int32} (hz : bz y) (hdg : decode cc pc = .ok (.putfield 69, 3)) (kk : ∀ (H1 : Heap) (locs1 : List Loc), va_P D vwCl (ws.set i (oW h rr (W_set_isClosed z y))) H1 → va_S A H0 H1 locs1 → W p l e R s m args below meth c H1 locs1 cells slots Q (F0 m (pc + 3) ls rest)) : W p l e R s m args below meth c H locs cells slots Q (F0 m pc ls (.int y :: .ref h :: rest)) :=
  va_putN (D := D) (ci := 2) (v := .int y) (ty := .boolean) (C := RX2) (T := TX2) (N := 15) fx.1 fx.2.1 fx.2.2.2.2.1 inlX2 tyX2 tyX2_ok nmX2 fx.2.2.2.1 fx.2.2.2.2.2.1 hP hD hS i he rfl 4 (by decide) (va_Nw.use rfl (fx.2.2.2.2.2.2 _ nw_5)) (fun _ h9 => h9) rfl (by decide +kernel) (bz_n hz) (bz_f hz) (Nat.le_of_ble_eq_true rfl) hdg (fun H locs hP _ hS => kk H locs hP hS)
theorem gf_X3_107 {h rr : Nat} {z : WS} (fx : FX p s m args c RX3 cc nL D q) (hP : va_P D vwCl ws H) (i : Nat) (he : ws[i]? = some (oW h rr z)) {v : Int32} (hv : W_choke z = v) (hdg : decode cc pc = .ok (.getfield 107, 3)) (kk : W p l e R s m args below meth c H locs cells slots Q (F0 m (pc + 3) ls (.int v :: rest))) : W p l e R s m args below meth c H locs cells slots Q (F0 m pc ls (.ref h :: rest)) := by
  subst hv
  exact va_getN (D := D) (ci := 2) (v := .int (W_choke z)) (C := RX2) (T := TX2) (N := 15) fx.1 fx.2.1 fx.2.2.2.2.1 inlX2 fx.2.2.2.1 fx.2.2.2.2.2.1 hP i he rfl 5 (by decide) (va_Nw.use rfl (fx.2.2.2.2.2.2 _ nw_6)) (fun _ h9 => h9) rfl hdg kk
theorem pf_X3_107 {h rr : Nat} {z : WS} (fx : FX p s m args c RX3 cc nL D q) (hP : va_P D vwCl ws H) (hD : va_D A ws) (hS : va_S A H0 H locs) (i : Nat) (he : ws[i]? = some (oW h rr z)) {y : Int32} (hdg : decode cc pc = .ok (.putfield 107, 3)) (kk : ∀ (H1 : Heap) (locs1 : List Loc), va_P D vwCl (ws.set i (oW h rr (W_set_choke z y))) H1 → va_S A H0 H1 locs1 → W p l e R s m args below meth c H1 locs1 cells slots Q (F0 m (pc + 3) ls rest)) : W p l e R s m args below meth c H locs cells slots Q (F0 m pc ls (.int y :: .ref h :: rest)) :=
  va_putN (D := D) (ci := 2) (v := .int y) (ty := .int) (C := RX2) (T := TX2) (N := 15) fx.1 fx.2.1 fx.2.2.2.2.1 inlX2 tyX2 tyX2_ok nmX2 fx.2.2.2.1 fx.2.2.2.2.2.1 hP hD hS i he rfl 5 (by decide) (va_Nw.use rfl (fx.2.2.2.2.2.2 _ nw_6)) (fun _ h9 => h9) rfl (by decide +kernel) rfl rfl (Nat.le_of_ble_eq_true rfl) hdg (fun H locs hP _ hS => kk H locs hP hS)
theorem gf_X3_35 {h rr hw ht tt : Nat} {z : XS} (fx : FX p s m args c RX3 cc nL D q) (hP : va_P D vwCl ws H) (i : Nat) (he : ws[i]? = some (oX h rr hw ht tt z)) {v : Int32} (hv : X_latestPumpedWeight z = v) (hdg : decode cc pc = .ok (.getfield 35, 3)) (kk : W p l e R s m args below meth c H locs cells slots Q (F0 m (pc + 3) ls (.int v :: rest))) : W p l e R s m args below meth c H locs cells slots Q (F0 m pc ls (.ref h :: rest)) := by
  subst hv
  exact va_get (D := D) (ci := 3) (v := .int (X_latestPumpedWeight z)) (C := RX3) (T := TX3) (N := 8) fx.1 fx.2.1 fx.2.2.2.2.1 inlX3 fx.2.2.2.1 fx.2.2.2.2.2.1 hP i he rfl 6 (by decide) (fx.2.2.2.2.1 _ mm_160) (fun _ h9 => h9) rfl hdg kk
theorem pf_X3_35 {h rr hw ht tt : Nat} {z : XS} (fx : FX p s m args c RX3 cc nL D q) (hP : va_P D vwCl ws H) (hD : va_D A ws) (hS : va_S A H0 H locs) (i : Nat) (he : ws[i]? = some (oX h rr hw ht tt z)) {y : Int32} (hdg : decode cc pc = .ok (.putfield 35, 3)) (kk : ∀ (H1 : Heap) (locs1 : List Loc), va_P D vwCl (ws.set i (oX h rr hw ht tt (X_set_latestPumpedWeight z y))) H1 → va_S A H0 H1 locs1 → W p l e R s m args below meth c H1 locs1 cells slots Q (F0 m (pc + 3) ls rest)) : W p l e R s m args below meth c H locs cells slots Q (F0 m pc ls (.int y :: .ref h :: rest)) :=
  va_put (D := D) (ci := 3) (v := .int y) (ty := .int) (C := RX3) (T := TX3) (N := 8) fx.1 fx.2.1 fx.2.2.2.2.1 inlX3 tyX3 tyX3_ok nmX3 fx.2.2.2.1 fx.2.2.2.2.2.1 hP hD hS i he rfl 6 (by decide) (fx.2.2.2.2.1 _ mm_160) (fun _ h9 => h9) rfl (by decide +kernel) rfl rfl (Nat.le_of_ble_eq_true rfl) hdg (fun H locs hP _ hS => kk H locs hP hS)
theorem pf_X3_132 {h rr hw ht tt : Nat} {z : XS} (fx : FX p s m args c RX3 cc nL D q) (hP : va_P D vwCl ws H) (hD : va_D A ws) (hS : va_S A H0 H locs) (i : Nat) (he : ws[i]? = some (oX h rr hw ht tt z)) {y : Int32} (hdg : decode cc pc = .ok (.putfield 132, 3)) (kk : ∀ (H1 : Heap) (locs1 : List Loc), va_P D vwCl (ws.set i (oX h rr hw ht tt (X_set_cement z y))) H1 → va_S A H0 H1 locs1 → W p l e R s m args below meth c H1 locs1 cells slots Q (F0 m (pc + 3) ls rest)) : W p l e R s m args below meth c H locs cells slots Q (F0 m pc ls (.int y :: .ref h :: rest)) :=
  va_put (D := D) (ci := 3) (v := .int y) (ty := .int) (C := RX3) (T := TX3) (N := 8) fx.1 fx.2.1 fx.2.2.2.2.1 inlX3 tyX3 tyX3_ok nmX3 fx.2.2.2.1 fx.2.2.2.2.2.1 hP hD hS i he rfl 7 (by decide) (fx.2.2.2.2.1 _ mm_165) (fun _ h9 => h9) rfl (by decide +kernel) rfl rfl (Nat.le_of_ble_eq_true rfl) hdg (fun H locs hP _ hS => kk H locs hP hS)
theorem pf_X3_123 {h rr : Nat} {z : WS} (fx : FX p s m args c RX3 cc nL D q) (hP : va_P D vwCl ws H) (hD : va_D A ws) (hS : va_S A H0 H locs) (i : Nat) (he : ws[i]? = some (oW h rr z)) {y : Int32} (hdg : decode cc pc = .ok (.putfield 123, 3)) (kk : ∀ (H1 : Heap) (locs1 : List Loc), va_P D vwCl (ws.set i (oW h rr (W_set_shoe z y))) H1 → va_S A H0 H1 locs1 → W p l e R s m args below meth c H1 locs1 cells slots Q (F0 m (pc + 3) ls rest)) : W p l e R s m args below meth c H locs cells slots Q (F0 m pc ls (.int y :: .ref h :: rest)) :=
  va_putN (D := D) (ci := 2) (v := .int y) (ty := .int) (C := RX2) (T := TX2) (N := 15) fx.1 fx.2.1 fx.2.2.2.2.1 inlX2 tyX2 tyX2_ok nmX2 fx.2.2.2.1 fx.2.2.2.2.2.1 hP hD hS i he rfl 2 (by decide) (va_Nw.use rfl (fx.2.2.2.2.2.2 _ nw_3)) (fun _ h9 => h9) rfl (by decide +kernel) rfl rfl (Nat.le_of_ble_eq_true rfl) hdg (fun H locs hP _ hS => kk H locs hP hS)
theorem pf_X3_135 {k : Nat → Nat} {z : TS} (fx : FX p s m args c RX3 cc nL D q) (hP : va_P D vwCl ws H) (hD : va_D A ws) (hS : va_S A H0 H locs) (i : Nat) (he : ws[i]? = some (oT k z)) {y : Int32} (hdg : decode cc pc = .ok (.putfield 135, 3)) (kk : ∀ (H1 : Heap) (locs1 : List Loc), va_P D vwCl (ws.set i (oT k (T_set_latestOfCement z y))) H1 → va_S A H0 H1 locs1 → W p l e R s m args below meth c H1 locs1 cells slots Q (F0 m (pc + 3) ls rest)) : W p l e R s m args below meth c H locs cells slots Q (F0 m pc ls (.int y :: .ref (k 0) :: rest)) :=
  va_putN (D := D) (ci := 1) (v := .int y) (ty := .int) (C := RX1) (T := TX1) (N := 7) fx.1 fx.2.1 fx.2.2.2.2.1 inlX1 tyX1 tyX1_ok nmX1 fx.2.2.2.1 fx.2.2.2.2.2.1 hP hD hS i he rfl 6 (by decide) (va_Nw.use rfl (fx.2.2.2.2.2.2 _ nw_22)) (fun _ h9 => h9) rfl (by decide +kernel) rfl rfl (Nat.le_of_ble_eq_true rfl) hdg (fun H locs hP _ hS => kk H locs hP hS)
theorem gf_X3_132 {h rr hw ht tt : Nat} {z : XS} (fx : FX p s m args c RX3 cc nL D q) (hP : va_P D vwCl ws H) (i : Nat) (he : ws[i]? = some (oX h rr hw ht tt z)) {v : Int32} (hv : X_cement z = v) (hdg : decode cc pc = .ok (.getfield 132, 3)) (kk : W p l e R s m args below meth c H locs cells slots Q (F0 m (pc + 3) ls (.int v :: rest))) : W p l e R s m args below meth c H locs cells slots Q (F0 m pc ls (.ref h :: rest)) := by
  subst hv
  exact va_get (D := D) (ci := 3) (v := .int (X_cement z)) (C := RX3) (T := TX3) (N := 8) fx.1 fx.2.1 fx.2.2.2.2.1 inlX3 fx.2.2.2.1 fx.2.2.2.2.2.1 hP i he rfl 7 (by decide) (fx.2.2.2.2.1 _ mm_165) (fun _ h9 => h9) rfl hdg kk
theorem gf_X3_141 {h rr : Nat} {z : WS} (fx : FX p s m args c RX3 cc nL D q) (hP : va_P D vwCl ws H) (i : Nat) (he : ws[i]? = some (oW h rr z)) {v : Int32} (hv : W_valveStrength z = v) (hdg : decode cc pc = .ok (.getfield 141, 3)) (kk : W p l e R s m args below meth c H locs cells slots Q (F0 m (pc + 3) ls (.int v :: rest))) : W p l e R s m args below meth c H locs cells slots Q (F0 m pc ls (.ref h :: rest)) := by
  subst hv
  exact va_getN (D := D) (ci := 2) (v := .int (W_valveStrength z)) (C := RX2) (T := TX2) (N := 15) fx.1 fx.2.1 fx.2.2.2.2.1 inlX2 fx.2.2.2.1 fx.2.2.2.2.2.1 hP i he rfl 6 (by decide) (va_Nw.use rfl (fx.2.2.2.2.2.2 _ nw_7)) (fun _ h9 => h9) rfl hdg kk
theorem pf_X3_141 {h rr : Nat} {z : WS} (fx : FX p s m args c RX3 cc nL D q) (hP : va_P D vwCl ws H) (hD : va_D A ws) (hS : va_S A H0 H locs) (i : Nat) (he : ws[i]? = some (oW h rr z)) {y : Int32} (hdg : decode cc pc = .ok (.putfield 141, 3)) (kk : ∀ (H1 : Heap) (locs1 : List Loc), va_P D vwCl (ws.set i (oW h rr (W_set_valveStrength z y))) H1 → va_S A H0 H1 locs1 → W p l e R s m args below meth c H1 locs1 cells slots Q (F0 m (pc + 3) ls rest)) : W p l e R s m args below meth c H locs cells slots Q (F0 m pc ls (.int y :: .ref h :: rest)) :=
  va_putN (D := D) (ci := 2) (v := .int y) (ty := .int) (C := RX2) (T := TX2) (N := 15) fx.1 fx.2.1 fx.2.2.2.2.1 inlX2 tyX2 tyX2_ok nmX2 fx.2.2.2.1 fx.2.2.2.2.2.1 hP hD hS i he rfl 6 (by decide) (va_Nw.use rfl (fx.2.2.2.2.2.2 _ nw_7)) (fun _ h9 => h9) rfl (by decide +kernel) rfl rfl (Nat.le_of_ble_eq_true rfl) hdg (fun H locs hP _ hS => kk H locs hP hS)
theorem gf_X3_146 {k : Nat → Nat} {z : TS} (fx : FX p s m args c RX3 cc nL D q) (hP : va_P D vwCl ws H) (i : Nat) (he : ws[i]? = some (oT k z)) {v : Int32} (hv : T_count z = v) (hdg : decode cc pc = .ok (.getfield 146, 3)) (kk : W p l e R s m args below meth c H locs cells slots Q (F0 m (pc + 3) ls (.int v :: rest))) : W p l e R s m args below meth c H locs cells slots Q (F0 m pc ls (.ref (k 0) :: rest)) := by
  subst hv
  exact va_getN (D := D) (ci := 1) (v := .int (T_count z)) (C := RX1) (T := TX1) (N := 7) fx.1 fx.2.1 fx.2.2.2.2.1 inlX1 fx.2.2.2.1 fx.2.2.2.2.2.1 hP i he rfl 4 (by decide) (va_Nw.use rfl (fx.2.2.2.2.2.2 _ nw_20)) (fun _ h9 => h9) rfl hdg kk
theorem pf_X3_158 {h rr : Nat} {z : WS} (fx : FX p s m args c RX3 cc nL D q) (hP : va_P D vwCl ws H) (hD : va_D A ws) (hS : va_S A H0 H locs) (i : Nat) (he : ws[i]? = some (oW h rr z)) {y : Int32} (hz : bz y) (hdg : decode cc pc = .ok (.putfield 158, 3)) (kk : ∀ (H1 : Heap) (locs1 : List Loc), va_P D vwCl (ws.set i (oW h rr (W_set_hasBrokenSinceTest z y))) H1 → va_S A H0 H1 locs1 → W p l e R s m args below meth c H1 locs1 cells slots Q (F0 m (pc + 3) ls rest)) : W p l e R s m args below meth c H locs cells slots Q (F0 m pc ls (.int y :: .ref h :: rest)) :=
  va_putN (D := D) (ci := 2) (v := .int y) (ty := .boolean) (C := RX2) (T := TX2) (N := 15) fx.1 fx.2.1 fx.2.2.2.2.1 inlX2 tyX2 tyX2_ok nmX2 fx.2.2.2.1 fx.2.2.2.2.2.1 hP hD hS i he rfl 7 (by decide) (va_Nw.use rfl (fx.2.2.2.2.2.2 _ nw_8)) (fun _ h9 => h9) rfl (by decide +kernel) (bz_n hz) (bz_f hz) (Nat.le_of_ble_eq_true rfl) hdg (fun H locs hP _ hS => kk H locs hP hS)
theorem pf_X3_163 {h rr hw ht tt : Nat} {z : XS} (fx : FX p s m args c RX3 cc nL D q) (hP : va_P D vwCl ws H) (hD : va_D A ws) (hS : va_S A H0 H locs) (i : Nat) (he : ws[i]? = some (oX h rr hw ht tt z)) {y : Int32} (hdg : decode cc pc = .ok (.putfield 163, 3)) (kk : ∀ (H1 : Heap) (locs1 : List Loc), va_P D vwCl (ws.set i (oX h rr hw ht tt (X_set_stops z y))) H1 → va_S A H0 H1 locs1 → W p l e R s m args below meth c H1 locs1 cells slots Q (F0 m (pc + 3) ls rest)) : W p l e R s m args below meth c H locs cells slots Q (F0 m pc ls (.int y :: .ref h :: rest)) :=
  va_put (D := D) (ci := 3) (v := .int y) (ty := .int) (C := RX3) (T := TX3) (N := 8) fx.1 fx.2.1 fx.2.2.2.2.1 inlX3 tyX3 tyX3_ok nmX3 fx.2.2.2.1 fx.2.2.2.2.2.1 hP hD hS i he rfl 4 (by decide) (fx.2.2.2.2.1 _ mm_133) (fun _ h9 => h9) rfl (by decide +kernel) rfl rfl (Nat.le_of_ble_eq_true rfl) hdg (fun H locs hP _ hS => kk H locs hP hS)
theorem gf_X3_191 {h rr : Nat} {z : WS} (fx : FX p s m args c RX3 cc nL D q) (hP : va_P D vwCl ws H) (i : Nat) (he : ws[i]? = some (oW h rr z)) {v : Int32} (hv : W_gas z = v) (hdg : decode cc pc = .ok (.getfield 191, 3)) (kk : W p l e R s m args below meth c H locs cells slots Q (F0 m (pc + 3) ls (.int v :: rest))) : W p l e R s m args below meth c H locs cells slots Q (F0 m pc ls (.ref h :: rest)) := by
  subst hv
  exact va_getN (D := D) (ci := 2) (v := .int (W_gas z)) (C := RX2) (T := TX2) (N := 15) fx.1 fx.2.1 fx.2.2.2.2.1 inlX2 fx.2.2.2.1 fx.2.2.2.2.2.1 hP i he rfl 10 (by decide) (va_Nw.use rfl (fx.2.2.2.2.2.2 _ nw_10)) (fun _ h9 => h9) rfl hdg kk
theorem gf_X3_194 {h rr : Nat} {z : WS} (fx : FX p s m args c RX3 cc nL D q) (hP : va_P D vwCl ws H) (i : Nat) (he : ws[i]? = some (oW h rr z)) {v : Int32} (hv : W_place z = v) (hdg : decode cc pc = .ok (.getfield 194, 3)) (kk : W p l e R s m args below meth c H locs cells slots Q (F0 m (pc + 3) ls (.int v :: rest))) : W p l e R s m args below meth c H locs cells slots Q (F0 m pc ls (.ref h :: rest)) := by
  subst hv
  exact va_getN (D := D) (ci := 2) (v := .int (W_place z)) (C := RX2) (T := TX2) (N := 15) fx.1 fx.2.1 fx.2.2.2.2.1 inlX2 fx.2.2.2.1 fx.2.2.2.2.2.1 hP i he rfl 9 (by decide) (va_Nw.use rfl (fx.2.2.2.2.2.2 _ nw_9)) (fun _ h9 => h9) rfl hdg kk
theorem gf_X3_118 {h rr : Nat} {z : WS} (fx : FX p s m args c RX3 cc nL D q) (hP : va_P D vwCl ws H) (i : Nat) (he : ws[i]? = some (oW h rr z)) {v : Int32} (hv : W_liquid z = v) (hdg : decode cc pc = .ok (.getfield 118, 3)) (kk : W p l e R s m args below meth c H locs cells slots Q (F0 m (pc + 3) ls (.int v :: rest))) : W p l e R s m args below meth c H locs cells slots Q (F0 m pc ls (.ref h :: rest)) := by
  subst hv
  exact va_getN (D := D) (ci := 2) (v := .int (W_liquid z)) (C := RX2) (T := TX2) (N := 15) fx.1 fx.2.1 fx.2.2.2.2.1 inlX2 fx.2.2.2.1 fx.2.2.2.2.2.1 hP i he rfl 11 (by decide) (va_Nw.use rfl (fx.2.2.2.2.2.2 _ nw_11)) (fun _ h9 => h9) rfl hdg kk
theorem gf_X3_199 {h rr : Nat} {z : WS} (fx : FX p s m args c RX3 cc nL D q) (hP : va_P D vwCl ws H) (i : Nat) (he : ws[i]? = some (oW h rr z)) {v : Int64} (hv : W_vented z = v) (hdg : decode cc pc = .ok (.getfield 199, 3)) (kk : W p l e R s m args below meth c H locs cells slots Q (F0 m (pc + 3) ls (.long v :: rest))) : W p l e R s m args below meth c H locs cells slots Q (F0 m pc ls (.ref h :: rest)) := by
  subst hv
  exact va_getN (D := D) (ci := 2) (v := .long (W_vented z)) (C := RX2) (T := TX2) (N := 15) fx.1 fx.2.1 fx.2.2.2.2.1 inlX2 fx.2.2.2.1 fx.2.2.2.2.2.1 hP i he rfl 12 (by decide) (va_Nw.use rfl (fx.2.2.2.2.2.2 _ nw_12)) (fun _ h9 => h9) rfl hdg kk
theorem gf_X3_203 {h rr : Nat} {z : WS} (fx : FX p s m args c RX3 cc nL D q) (hP : va_P D vwCl ws H) (i : Nat) (he : ws[i]? = some (oW h rr z)) {v : Int32} (hv : W_lost z = v) (hdg : decode cc pc = .ok (.getfield 203, 3)) (kk : W p l e R s m args below meth c H locs cells slots Q (F0 m (pc + 3) ls (.int v :: rest))) : W p l e R s m args below meth c H locs cells slots Q (F0 m pc ls (.ref h :: rest)) := by
  subst hv
  exact va_getN (D := D) (ci := 2) (v := .int (W_lost z)) (C := RX2) (T := TX2) (N := 15) fx.1 fx.2.1 fx.2.2.2.2.1 inlX2 fx.2.2.2.1 fx.2.2.2.2.2.1 hP i he rfl 13 (by decide) (va_Nw.use rfl (fx.2.2.2.2.2.2 _ nw_13)) (fun _ h9 => h9) rfl hdg kk
theorem gf_X3_220 {k : Nat → Nat} {z : TS} (fx : FX p s m args c RX3 cc nL D q) (hP : va_P D vwCl ws H) (i : Nat) (he : ws[i]? = some (oT k z)) (hdg : decode cc pc = .ok (.getfield 220, 3)) (kk : W p l e R s m args below meth c H locs cells slots Q (F0 m (pc + 3) ls (.ref (k 1) :: rest))) : W p l e R s m args below meth c H locs cells slots Q (F0 m pc ls (.ref (k 0) :: rest)) :=
  va_getN (D := D) (ci := 1) (v := .ref (k 1)) (C := RX1) (T := TX1) (N := 7) fx.1 fx.2.1 fx.2.2.2.2.1 inlX1 fx.2.2.2.1 fx.2.2.2.2.2.1 hP i he rfl 0 (by decide) (va_Nw.use rfl (fx.2.2.2.2.2.2 _ nw_16)) (fun _ h9 => h9) rfl hdg kk
theorem gf_X3_228 {k : Nat → Nat} {z : TS} (fx : FX p s m args c RX3 cc nL D q) (hP : va_P D vwCl ws H) (i : Nat) (he : ws[i]? = some (oT k z)) (hdg : decode cc pc = .ok (.getfield 228, 3)) (kk : W p l e R s m args below meth c H locs cells slots Q (F0 m (pc + 3) ls (.ref (k 2) :: rest))) : W p l e R s m args below meth c H locs cells slots Q (F0 m pc ls (.ref (k 0) :: rest)) :=
  va_getN (D := D) (ci := 1) (v := .ref (k 2)) (C := RX1) (T := TX1) (N := 7) fx.1 fx.2.1 fx.2.2.2.2.1 inlX1 fx.2.2.2.1 fx.2.2.2.2.2.1 hP i he rfl 1 (by decide) (va_Nw.use rfl (fx.2.2.2.2.2.2 _ nw_17)) (fun _ h9 => h9) rfl hdg kk
theorem gf_X3_231 {k : Nat → Nat} {z : TS} (fx : FX p s m args c RX3 cc nL D q) (hP : va_P D vwCl ws H) (i : Nat) (he : ws[i]? = some (oT k z)) (hdg : decode cc pc = .ok (.getfield 231, 3)) (kk : W p l e R s m args below meth c H locs cells slots Q (F0 m (pc + 3) ls (.ref (k 3) :: rest))) : W p l e R s m args below meth c H locs cells slots Q (F0 m pc ls (.ref (k 0) :: rest)) :=
  va_getN (D := D) (ci := 1) (v := .ref (k 3)) (C := RX1) (T := TX1) (N := 7) fx.1 fx.2.1 fx.2.2.2.2.1 inlX1 fx.2.2.2.1 fx.2.2.2.2.2.1 hP i he rfl 2 (by decide) (va_Nw.use rfl (fx.2.2.2.2.2.2 _ nw_18)) (fun _ h9 => h9) rfl hdg kk
theorem gf_X3_25 {h rr hw ht tt : Nat} {z : XS} (fx : FX p s m args c RX3 cc nL D q) (hP : va_P D vwCl ws H) (i : Nat) (he : ws[i]? = some (oX h rr hw ht tt z)) (hdg : decode cc pc = .ok (.getfield 25, 3)) (kk : W p l e R s m args below meth c H locs cells slots Q (F0 m (pc + 3) ls (.ref ht :: rest))) : W p l e R s m args below meth c H locs cells slots Q (F0 m pc ls (.ref h :: rest)) :=
  va_get (D := D) (ci := 3) (v := .ref ht) (C := RX3) (T := TX3) (N := 8) fx.1 fx.2.1 fx.2.2.2.2.1 inlX3 fx.2.2.2.1 fx.2.2.2.2.2.1 hP i he rfl 2 (by decide) (fx.2.2.2.2.1 _ mm_182) (fun _ h9 => h9) rfl hdg kk

theorem kimax {own : String} {idx : Nat} (fx : FX p s m args c own cc nL D q) (hlk : Cond.methodLink own idx Lib.Math.max.name ∈ ALL) (hsz : ls.size = nL) (hf : 1 ≤ R.frames) (hlo : (rest.map fun v => v.category).sum + 13 ≤ R.locals) (hc : cells ≤ R.cells) (hs : slots ≤ R.slots) {x y : Int32} (hdg : decode cc pc = .ok (.invokestatic idx, 3)) (kk : W p l e R s m args below meth c H locs cells slots Q (F0 m (pc + 3) ls (.int (imax x y) :: rest))) : W p l e R s m args below meth c H locs cells slots Q (F0 m pc ls (.int y :: .int x :: rest)) :=
  va_mmax fx.1 fx.2.1 (fx.2.2.1.trans hsz.symm) fx.2.2.2.1 (fx.2.2.2.2.1 _ hlk) (fx.2.2.2.2.1 _ mm_186) (fx.2.2.2.2.1 _ mm_187) (fx.2.2.2.2.1 _ mm_188) hf hlo hc hs hdg kk
theorem kimin {own : String} {idx : Nat} (fx : FX p s m args c own cc nL D q) (hlk : Cond.methodLink own idx Lib.Math.min.name ∈ ALL) (hsz : ls.size = nL) (hf : 1 ≤ R.frames) (hlo : (rest.map fun v => v.category).sum + 13 ≤ R.locals) (hc : cells ≤ R.cells) (hs : slots ≤ R.slots) {x y : Int32} (hdg : decode cc pc = .ok (.invokestatic idx, 3)) (kk : W p l e R s m args below meth c H locs cells slots Q (F0 m (pc + 3) ls (.int (imin x y) :: rest))) : W p l e R s m args below meth c H locs cells slots Q (F0 m pc ls (.int y :: .int x :: rest)) :=
  va_mmin fx.1 fx.2.1 (fx.2.2.1.trans hsz.symm) fx.2.2.2.1 (fx.2.2.2.2.1 _ hlk) (fx.2.2.2.2.1 _ mm_189) (fx.2.2.2.2.1 _ mm_187) (fx.2.2.2.2.1 _ mm_190) hf hlo hc hs hdg kk
theorem klmin {own : String} {idx : Nat} (fx : FX p s m args c own cc nL D q) (hlk : Cond.methodLink own idx Lib.MathLoose.min_long.x ∈ ALL) (hsz : ls.size = nL) (hf : 1 ≤ R.frames) (hlo : (rest.map fun v => v.category).sum + 15 ≤ R.locals) (hc : cells ≤ R.cells) (hs : slots ≤ R.slots) {x y : Int64} (hdg : decode cc pc = .ok (.invokestatic idx, 3)) (kk : W p l e R s m args below meth c H locs cells slots Q (F0 m (pc + 3) ls (.long (lmin x y) :: rest))) : W p l e R s m args below meth c H locs cells slots Q (F0 m pc ls (.long y :: .long x :: rest)) :=
  va_mmin_long fx.1 fx.2.1 (fx.2.2.1.trans hsz.symm) fx.2.2.2.1 (fx.2.2.2.2.1 _ hlk) (fx.2.2.2.2.1 _ mm_191) (fx.2.2.2.2.1 _ mm_187) (fx.2.2.2.2.1 _ mm_192) hf hlo hc hs hdg kk

end FR
end
section
/-! Methods that throw: what a throw needs of the tables, what the caller has of it. -/
def excName : Nat → String
  | 1 => "java/lang/IndexOutOfBoundsException"
  | 2 => "java/lang/IllegalArgumentException"
  | _ => "java/lang/IllegalStateException"
def tik : Nat → Nat
  | 1 => 43
  | 2 => 50
  | _ => 58
def tic : Nat → Nat
  | 1 => 47
  | 2 => 54
  | _ => 62
def EN : List String := ["java/lang/RuntimeException", "java/lang/Exception"]
def atK (k : Nat) : List Cond := vx_atS RX3 (tic k) (excName k) EN
/-- the words of a throw that a warming does not keep by themselves -/
def XB : List Cond := [.castable "java/lang/IndexOutOfBoundsException" "java/lang/IndexOutOfBoundsException", .castable "java/lang/IllegalArgumentException" "java/lang/IllegalArgumentException", .castable "java/lang/IllegalStateException" "java/lang/IllegalStateException",
  .declares ⟨"java/lang/RuntimeException", "<init>", "(Ljava/lang/String;)V"⟩, .declares ⟨"java/lang/Exception", "<init>", "(Ljava/lang/String;)V"⟩, .declares ⟨"java/lang/Throwable", "<init>", "(Ljava/lang/String;)V"⟩]
def SL : List (Nat × String) := [(45, "there is no such layer"), (52, "pore, breaks or rate is out of range"), (60, "the layer is drilled into"), (67, "weight is out of range"), (73, "the well is closed"), (81, "metres is out of range"), (91, "drilling is barred, or would go too deep or too long"), (97, "minutes is out of range"), (99, "the minutes would be too many"), (105, "the well is open"), (110, "minutes or weight is out of range"), (112, "the well is open or has no depth, or the minutes would be too many"), (121, "barrels is out of range"), (130, "the depth is the shoe, or there is gas or liquid"), (139, "strength is out of range"), (144, "what or pressure is out of range"), (149, "the well is closed, there were 60 tests, or there is no casing"), (161, "there is no such person"), (189, "what is out of range"), (218, "there is no such test"), (236, "the depth is 0"), (238, "from or to is out of range"), (250, "to is out of range"), (258, "the shoe is 0")]
def NCL : List (Nat × Nat) := [(1, 2), (1, 3), (2, 1), (2, 3), (3, 1), (3, 2)]
theorem XB_tab : ∀ w ∈ XB, w.onTables = true := by decide +kernel
theorem at1_g : ∀ w ∈ (atK 1).filter goodWord, w ∈ lw_tbl := by decide +kernel
theorem at2_g : ∀ w ∈ (atK 2).filter goodWord, w ∈ lw_tbl := by decide +kernel
theorem at3_g : ∀ w ∈ (atK 3).filter goodWord, w ∈ lw_tbl := by decide +kernel
theorem at1_b : ∀ w ∈ (atK 1).filter (fun w => !goodWord w), w ∈ XB := by decide +kernel
theorem at2_b : ∀ w ∈ (atK 2).filter (fun w => !goodWord w), w ∈ XB := by decide +kernel
theorem at3_b : ∀ w ∈ (atK 3).filter (fun w => !goodWord w), w ∈ XB := by decide +kernel
theorem at1_o : ∀ w ∈ Cond.classLink RX3 (tik 1) (excName 1) :: Cond.initialized (excName 1) :: atK 1, vx_ot w = true := by decide +kernel
theorem at2_o : ∀ w ∈ Cond.classLink RX3 (tik 2) (excName 2) :: Cond.initialized (excName 2) :: atK 2, vx_ot w = true := by decide +kernel
theorem at3_o : ∀ w ∈ Cond.classLink RX3 (tik 3) (excName 3) :: Cond.initialized (excName 3) :: atK 3, vx_ot w = true := by decide +kernel
theorem kl1 : Cond.classLink RX3 (tik 1) (excName 1) ∈ ALL := ALL_i (List.mem_append_right _ (List.mem_append_right _ (List.mem_append_left _ (List.mem_of_getElem? (i := 52) (by decide +kernel))))) (by decide +kernel)
theorem kl2 : Cond.classLink RX3 (tik 2) (excName 2) ∈ ALL := ALL_i (List.mem_append_right _ (List.mem_append_left _ (List.mem_of_getElem? (i := 181) (by decide +kernel)))) (by decide +kernel)
theorem kl3 : Cond.classLink RX3 (tik 3) (excName 3) ∈ ALL := ALL_i (List.mem_append_right _ (List.mem_append_right _ (List.mem_append_left _ (List.mem_of_getElem? (i := 9) (by decide +kernel))))) (by decide +kernel)
theorem ki1 : Cond.initialized (excName 1) ∈ ALL := ALL_i (List.mem_append_right _ (List.mem_append_left _ (List.mem_of_getElem? (i := 11) (by decide +kernel)))) (by decide +kernel)
theorem ki2 : Cond.initialized (excName 2) ∈ ALL := ALL_i (List.mem_append_right _ (List.mem_append_left _ (List.mem_of_getElem? (i := 9) (by decide +kernel)))) (by decide +kernel)
theorem ki3 : Cond.initialized (excName 3) ∈ ALL := ALL_i (List.mem_append_right _ (List.mem_append_left _ (List.mem_of_getElem? (i := 10) (by decide +kernel)))) (by decide +kernel)
theorem EN_fit : ∀ n ∈ EN, Bundle.fit n = true := by decide +kernel
def SX (U : State) : Prop := (∀ w ∈ XB, va_Nw w U) ∧ (∀ z ∈ SL, ∃ sa, vk_R RX3 z.1 z.2 sa U) ∧ (∀ z ∈ NCL, va_Nc (excName z.1) (excName z.2) U)
theorem xb_warm {w : Cond} (hw : w ∈ XB) {s U : State} (hW : s.WarmedH U.vm) (h : va_Nw w s) : va_Nw w U := by
  simp only [XB, List.mem_cons, List.not_mem_nil, or_false] at hw
  rcases hw with rfl | rfl | rfl | rfl | rfl | rfl
  · exact va_Nw.warmC hW h
  · exact va_Nw.warmC hW h
  · exact va_Nw.warmC hW h
  · exact va_Nw.warmD hW h
  · exact va_Nw.warmD hW h
  · exact va_Nw.warmD hW h
theorem SX.warm {s U : State} (hW : s.WarmedH U.vm) (h : SX s) : SX U :=
  ⟨fun w hw => xb_warm hw hW (h.1 w hw), fun z hz => (h.2.1 z hz).elim fun sa h => ⟨sa, vk_R.warm hW h⟩, fun z hz => va_Nc.moved hW.alike (h.2.2 z hz)⟩
theorem SX.same {u U : State} (hv : u.vm = U.vm) (h : SX u) : SX U :=
  ⟨fun w hw => va_Nw.same (XB_tab w hw) hv (h.1 w hw), fun z hz => (h.2.1 z hz).elim fun sa h => ⟨sa, vk_R.same hv.symm h⟩, fun z hz => va_Nc.moved (by rw [hv]; exact Vm.Alike.refl _) (h.2.2 z hz)⟩
/-- where Throwable's two statics lie, outside of what may be written -/
def SZ (A : Nat → Prop) (U : State) (H : Heap) : Prop := vx_Zq Bundle.tN "UNASSIGNED_STACK" Bundle.steD A U H ∧ vx_Zq Bundle.tN "SUPPRESSED_SENTINEL" Bundle.listD A U H
theorem SZ.moved {A : Nat → Prop} {u U : State} {H : Heap} (hvm : u.vm.Alike U.vm) (h : SZ A u H) : SZ A U H := ⟨vx_Zq.moved hvm h.1, vx_Zq.moved hvm h.2⟩
theorem SZ.kept {A : Nat → Prop} {U : State} {H H1 : Heap} (h : SZ A U H) (hq : ∀ a : Nat, a < H.size → ¬ A a → H1[a]? = H[a]?) : SZ A U H1 := ⟨vx_Zq.kept h.1 hq, vx_Zq.kept h.2 hq⟩
theorem SZ.narrow {A B : Nat → Prop} {U : State} {H : Heap} (h : SZ A U H) (hAB : ∀ q, B q → A q) : SZ B U H := ⟨vx_Zq.narrow h.1 hAB, vx_Zq.narrow h.2 hAB⟩
def PX (D : va_G) (q : Nat → ClassId) (av : List Value) (ws : va_W) (sz : Nat) : Array Value → State → Prop :=
  va_Pc av (fun U => U.heap.size = sz ∧ va_P D vwCl ws U.heap ∧ KK D q U ∧ va_D (fun _ => True) ws ∧ SX U ∧ SZ (va_A ws sz) U U.heap)
theorem PX_blind {D : va_G} {q : Nat → ClassId} {av : List Value} {ws : va_W} {sz : Nat} : FrameBlind (PX D q av ws sz) := fun a U g mk h => by
  obtain ⟨e, h1, h2, h3, h4, h5, h6⟩ := h
  exact ⟨e, h1, h2, KK.same (u := U) (U := U.calling g mk a) rfl h3, h4, SX.same (u := U) (U := U.calling g mk a) rfl h5, SZ.moved (u := U) (U := U.calling g mk a) (Vm.Alike.refl U.vm) h6⟩
/-- what the caller has of a throw: which exception (k), the method's world as it was -/
def XCk (D : va_G) (ws : va_W) (sz : Nat) (px : Nat → Prop) : String → State → State → Prop :=
  vx_X (fun k : Nat => (k = 1 ∨ k = 2 ∨ k = 3) ∧ px k) (fun E k t => E = excName k ∧ va_P D vwCl ws t.heap ∧ sz + 1 ≤ t.heap.size) (va_A ws sz)
section THR
variable {p : Program} {l : Launch} {e : Env} {R : Room} {s : State} {m : MethodId} {args : Array Value} {below : List Frame} {meth : Method} {c : Code} {H : Heap} {locs : List Loc} {cells slots : Nat} {Q : State → Prop}
variable {D : va_G} {q : Nat → ClassId} {ws : va_W} {A : Nat → Prop} {H0 : Heap} {own : String} {cc : ByteArray} {nL : Nat} {pc : Nat} {ls : Array Slot} {rest st : List Value}
theorem at_all {k : Nat} (hk : k = 1 ∨ k = 2 ∨ k = 3) (hts : ∀ w ∈ ALL, w.before args s = true) (hSX : SX s) : ∀ w ∈ atK k, w.before args s = true := by
  have hB : ∀ w ∈ XB, w.before args s = true := fun w hw => va_Nw.use (XB_tab w hw) (hSX.1 w hw)
  have hG : ∀ L : List Cond, (∀ w ∈ L.filter goodWord, w ∈ lw_tbl) → ∀ w ∈ L.filter goodWord, w.before args s = true := fun L hL w hw => hts w (ALL_i (hL w hw) (List.mem_filter.mp hw).2)
  rcases hk with rfl | rfl | rfl
  · exact vx_hat (hG _ at1_g) at1_b hB
  · exact vx_hat (hG _ at2_g) at2_b hB
  · exact vx_hat (hG _ at3_g) at3_b hB
theorem thr_row {sz k is : Nat} {text : String} {rm : Room} {px : Nat → Prop} {Qc : Array Value → State → Outcome → State → Prop} (hszz : s.heap.size = sz) (hstk : l.stackTraces = false) (fx : FX p s m args c RX3 cc nL D q) (htab : ∀ x ∈ c.exceptionTable.toList, False) (hlocks : meth.locks = false) (hSX : SX s) (hSZ : SZ (va_A ws sz) s s.heap)
    (hk : k = 1 ∨ k = 2 ∨ k = 3) (hls : ls.size = nL) (hcat : (rest.map fun v => v.category).sum ≤ 8) (hsl : (is, text) ∈ SL)
    (hd : decode cc pc = .ok (.new (tik k), 3) ∧ decode cc (pc + 3) = .ok (.dup, 1) ∧ ((decode cc (pc + 4) = .ok (.ldc is, 2) ∧ decode cc (pc + 6) = .ok (.invokespecial (tic k), 3) ∧ decode cc (pc + 9) = .ok (.athrow, 1)) ∨ (decode cc (pc + 4) = .ok (.ldc_w is, 3) ∧ decode cc (pc + 7) = .ok (.invokespecial (tic k), 3) ∧ decode cc (pc + 10) = .ok (.athrow, 1))))
    (hp : px k) (hP : va_P D vwCl ws H) (hS : va_S (va_A ws sz) s.heap H locs) (hrm : 5 < rm.frames ∧ 90 ≤ rm.locals ∧ rm.cells = 1 ∧ rm.slots = 6) :
    W p l e rm s m args below meth c H locs 0 0 (vx_MQ below Qc (XCk D ws sz px) args s 1 6 (va_A ws sz)) (F0 m pc ls rest) := by
  obtain ⟨sa, hstr⟩ := hSX.2.1 _ hsl
  have hat := at_all (args := args) hk fx.2.2.2.2.1 hSX
  have hx : ∀ t : State, s.vm.Alike t.vm → H.size + 1 ≤ t.heap.size → (∀ q : Nat, q < H.size → t.heap[q]? = H[q]?) → XCk D ws sz px (excName k) s t := fun t h1 h2 h3 =>
    ⟨k, ⟨hk, hp⟩, ⟨rfl, hP.kept (fun j x hx => h3 x.1 ((hP j x hx).lt)), by have := hS.1; omega⟩, Nat.le_trans hS.1 (Nat.le_of_succ_le h2), fun a ha hn => (h3 a (Nat.lt_of_lt_of_le ha hS.1)).trans (hS.2.1 a ha hn)⟩
  have hfit : Bundle.fit (excName k) = true := by rcases hk with rfl | rfl | rfl <;> decide +kernel
  have hkl : (Cond.classLink RX3 (tik k) (excName k)).before args s = true := fx.2.2.2.2.1 _ (by rcases hk with rfl | rfl | rfl; exact kl1; exact kl2; exact kl3)
  have hki : (Cond.initialized (excName k)).before args s = true := fx.2.2.2.2.1 _ (by rcases hk with rfl | rfl | rfl; exact ki1; exact ki2; exact ki3)
  have hgo : ∀ w ∈ Cond.classLink RX3 (tik k) (excName k) :: Cond.initialized (excName k) :: vx_atS RX3 (tic k) (excName k) EN, vx_ot w = true := by rcases hk with rfl | rfl | rfl; exact at1_o; exact at2_o; exact at3_o
  obtain ⟨h1, h2, h3, h4⟩ := hrm
  obtain ⟨d0, d3, ⟨d4, d6, d9⟩ | ⟨d4, d6, d9⟩⟩ := hd
  · exact vx_throwS (names := EN) fx.1 fx.2.1 hstk fx.2.2.2.1 hfit EN_fit hkl hki hstr hat hgo hSZ.1 hSZ.2 hS (hls.trans fx.2.2.1.symm) d0 d3 d4 d6 d9 (fun x hx => (htab x hx).elim) h1 (by show _ + 82 ≤ _; omega) (by omega) (by omega) hlocks hx hS.2.2 (Nat.le_refl _) (Nat.le_refl _)
  · exact vx_throwSW (names := EN) fx.1 fx.2.1 hstk fx.2.2.2.1 hfit EN_fit hkl hki hstr hat hgo hSZ.1 hSZ.2 hS (hls.trans fx.2.2.1.symm) d0 d3 d4 d6 d9 (fun x hx => (htab x hx).elim) h1 (by show _ + 82 ≤ _; omega) (by omega) (by omega) hlocks hx hS.2.2 (Nat.le_refl _) (Nat.le_refl _)
variable {y : MethodName} {rm : Room} {av : List Value} {sz : Nat} {S : Type} {C : S → va_W}
theorem en_xi {post : Int32 → S → Prop} {px : Nat → Prop} (hstk : l.stackTraces = false) (hcls : y.cls = RX3) (hy : plainName y.cls = true) (hav : (lg_sl av).length ≤ nL) (hrm : 5 < rm.frames ∧ 90 ≤ rm.locals ∧ rm.cells = 1 ∧ rm.slots = 6)
    (body : ∀ (p : Program) (e : Env) (s : State) (m : MethodId) (args : Array Value) (below : List Frame) (meth : Method) (c : Code) (Q : State → Prop) (A : Nat → Prop) (H : Heap) (locs : List Loc) (ls : Array Slot), FX p s m args c RX3 cc nL D q → va_D A ws → (∀ a, s.heap.size ≤ a → A a) → va_P D vwCl ws H → va_S A s.heap H locs → lv_has ls nL (lv_args 0 av) →
      (∀ (r : Int32) (u : S) (pc : Nat) (H : Heap) (locs : List Loc) (ls : Array Slot), decode cc pc = .ok (.ireturn, 1) → post r u → va_P D vwCl (C u) H → va_S A s.heap H locs → W p l e rm s m args below meth c H locs 0 0 Q (F0 m pc ls [.int r])) →
      (∀ (k is : Nat) (text : String) (pc : Nat) (H : Heap) (locs : List Loc) (ls : Array Slot) (rest : List Value), (k = 1 ∨ k = 2 ∨ k = 3) → ls.size = nL → (rest.map fun v => v.category).sum ≤ 8 → (is, text) ∈ SL →
        (decode cc pc = .ok (.new (tik k), 3) ∧ decode cc (pc + 3) = .ok (.dup, 1) ∧ ((decode cc (pc + 4) = .ok (.ldc is, 2) ∧ decode cc (pc + 6) = .ok (.invokespecial (tic k), 3) ∧ decode cc (pc + 9) = .ok (.athrow, 1)) ∨ (decode cc (pc + 4) = .ok (.ldc_w is, 3) ∧ decode cc (pc + 7) = .ok (.invokespecial (tic k), 3) ∧ decode cc (pc + 10) = .ok (.athrow, 1)))) →
        px k → va_P D vwCl ws H → va_S A s.heap H locs → W p l e rm s m args below meth c H locs 0 0 Q (F0 m pc ls rest)) →
      W p l e rm s m args below meth c H locs 0 0 Q (F0 m 0 ls [])) :
    vx_Met l y (Cond.code y cc nL (some .int) :: ALL) rm (PX D q av ws sz) (va_Qi post (fun u t => va_P D vwCl (C u) t.heap) (va_A ws sz)) (XCk D ws sz px) 1 6 (va_A ws sz) := by
  refine vx_ofW (cc := cc) (maxL := nL) (ret := some .int) hy rfl ?_
  intro p e s m args below meth c s₁ B hml htab hv
  obtain ⟨rfl, hsz, hP, hK, hD, hSX, hSZ⟩ := hv
  have fx : FX p s m av.toArray c RX3 cc nL D q := fx_of hcls B (fun h w hw => atoms_spec (ws := Cond.code y cc nL (some .int) :: ALL) h w (List.mem_cons_of_mem _ hw)) hml hK
  have hl := lv_entry av hav
  rw [lg_entry_eq]
  generalize (lg_sl av ++ List.replicate (nL - (lg_sl av).length) Slot.unset).toArray = ls at hl ⊢
  refine body p e s m av.toArray below meth c _ (va_A ws sz) s.heap [] ls fx hD.self (fun a h => Or.inr (hsz ▸ h)) hP va_S.rf hl (fun r u pc H locs ls hdg hp hB hS => ?_) (fun k is text pc H locs ls rest hk hls hcat hsl hd hp hP2 hS => ?_)
  · refine W.widen (k := 1) (n := 6) (Nat.zero_le _) (Nat.zero_le _) (vx_ret ?_)
    exact W.iret fx.1 fx.2.1 B.returns (fun t ht hW => ⟨⟨r, u, rfl, hp, by show va_P D vwCl (C u) t.heap; rw [ht]; exact hB⟩, hS.F ht⟩) hS.2.2 hdg B.notSynchronized
  · exact thr_row hsz hstk fx htab B.notSynchronized hSX hSZ hk hls hcat hsl hd hp hP2 hS hrm
theorem en_xz {post : Int32 → S → Prop} {px : Nat → Prop} (hstk : l.stackTraces = false) (hcls : y.cls = RX3) (hy : plainName y.cls = true) (hav : (lg_sl av).length ≤ nL) (hrm : 5 < rm.frames ∧ 90 ≤ rm.locals ∧ rm.cells = 1 ∧ rm.slots = 6)
    (body : ∀ (p : Program) (e : Env) (s : State) (m : MethodId) (args : Array Value) (below : List Frame) (meth : Method) (c : Code) (Q : State → Prop) (A : Nat → Prop) (H : Heap) (locs : List Loc) (ls : Array Slot), FX p s m args c RX3 cc nL D q → va_D A ws → (∀ a, s.heap.size ≤ a → A a) → va_P D vwCl ws H → va_S A s.heap H locs → lv_has ls nL (lv_args 0 av) →
      (∀ (r : Int32) (u : S) (pc : Nat) (H : Heap) (locs : List Loc) (ls : Array Slot), decode cc pc = .ok (.ireturn, 1) → bz r → post r u → va_P D vwCl (C u) H → va_S A s.heap H locs → W p l e rm s m args below meth c H locs 0 0 Q (F0 m pc ls [.int r])) →
      (∀ (k is : Nat) (text : String) (pc : Nat) (H : Heap) (locs : List Loc) (ls : Array Slot) (rest : List Value), (k = 1 ∨ k = 2 ∨ k = 3) → ls.size = nL → (rest.map fun v => v.category).sum ≤ 8 → (is, text) ∈ SL →
        (decode cc pc = .ok (.new (tik k), 3) ∧ decode cc (pc + 3) = .ok (.dup, 1) ∧ ((decode cc (pc + 4) = .ok (.ldc is, 2) ∧ decode cc (pc + 6) = .ok (.invokespecial (tic k), 3) ∧ decode cc (pc + 9) = .ok (.athrow, 1)) ∨ (decode cc (pc + 4) = .ok (.ldc_w is, 3) ∧ decode cc (pc + 7) = .ok (.invokespecial (tic k), 3) ∧ decode cc (pc + 10) = .ok (.athrow, 1)))) →
        px k → va_P D vwCl ws H → va_S A s.heap H locs → W p l e rm s m args below meth c H locs 0 0 Q (F0 m pc ls rest)) →
      W p l e rm s m args below meth c H locs 0 0 Q (F0 m 0 ls [])) :
    vx_Met l y (Cond.code y cc nL (some .boolean) :: ALL) rm (PX D q av ws sz) (va_Qi (fun r u => post r u ∧ bz r) (fun u t => va_P D vwCl (C u) t.heap) (va_A ws sz)) (XCk D ws sz px) 1 6 (va_A ws sz) := by
  refine vx_ofW (cc := cc) (maxL := nL) (ret := some .boolean) hy rfl ?_
  intro p e s m args below meth c s₁ B hml htab hv
  obtain ⟨rfl, hsz, hP, hK, hD, hSX, hSZ⟩ := hv
  have fx : FX p s m av.toArray c RX3 cc nL D q := fx_of hcls B (fun h w hw => atoms_spec (ws := Cond.code y cc nL (some .boolean) :: ALL) h w (List.mem_cons_of_mem _ hw)) hml hK
  have hl := lv_entry av hav
  rw [lg_entry_eq]
  generalize (lg_sl av ++ List.replicate (nL - (lg_sl av).length) Slot.unset).toArray = ls at hl ⊢
  refine body p e s m av.toArray below meth c _ (va_A ws sz) s.heap [] ls fx hD.self (fun a h => Or.inr (hsz ▸ h)) hP va_S.rf hl (fun r u pc H locs ls hdg hz hp hB hS => ?_) (fun k is text pc H locs ls rest hk hls hcat hsl hd hp hP2 hS => ?_)
  · refine W.widen (k := 1) (n := 6) (Nat.zero_le _) (Nat.zero_le _) (vx_ret ?_)
    exact W.zret fx.1 fx.2.1 B.returns (bz_n hz) (fun t ht hW => ⟨⟨r, u, rfl, ⟨hp, hz⟩, by show va_P D vwCl (C u) t.heap; rw [ht]; exact hB⟩, hS.F ht⟩) hS.2.2 hdg B.notSynchronized
  · exact thr_row hsz hstk fx htab B.notSynchronized hSX hSZ hk hls hcat hsl hd hp hP2 hS hrm
theorem en_xl {post : Int64 → S → Prop} {px : Nat → Prop} (hstk : l.stackTraces = false) (hcls : y.cls = RX3) (hy : plainName y.cls = true) (hav : (lg_sl av).length ≤ nL) (hrm : 5 < rm.frames ∧ 90 ≤ rm.locals ∧ rm.cells = 1 ∧ rm.slots = 6)
    (body : ∀ (p : Program) (e : Env) (s : State) (m : MethodId) (args : Array Value) (below : List Frame) (meth : Method) (c : Code) (Q : State → Prop) (A : Nat → Prop) (H : Heap) (locs : List Loc) (ls : Array Slot), FX p s m args c RX3 cc nL D q → va_D A ws → (∀ a, s.heap.size ≤ a → A a) → va_P D vwCl ws H → va_S A s.heap H locs → lv_has ls nL (lv_args 0 av) →
      (∀ (r : Int64) (u : S) (pc : Nat) (H : Heap) (locs : List Loc) (ls : Array Slot), decode cc pc = .ok (.lreturn, 1) → post r u → va_P D vwCl (C u) H → va_S A s.heap H locs → W p l e rm s m args below meth c H locs 0 0 Q (F0 m pc ls [.long r])) →
      (∀ (k is : Nat) (text : String) (pc : Nat) (H : Heap) (locs : List Loc) (ls : Array Slot) (rest : List Value), (k = 1 ∨ k = 2 ∨ k = 3) → ls.size = nL → (rest.map fun v => v.category).sum ≤ 8 → (is, text) ∈ SL →
        (decode cc pc = .ok (.new (tik k), 3) ∧ decode cc (pc + 3) = .ok (.dup, 1) ∧ ((decode cc (pc + 4) = .ok (.ldc is, 2) ∧ decode cc (pc + 6) = .ok (.invokespecial (tic k), 3) ∧ decode cc (pc + 9) = .ok (.athrow, 1)) ∨ (decode cc (pc + 4) = .ok (.ldc_w is, 3) ∧ decode cc (pc + 7) = .ok (.invokespecial (tic k), 3) ∧ decode cc (pc + 10) = .ok (.athrow, 1)))) →
        px k → va_P D vwCl ws H → va_S A s.heap H locs → W p l e rm s m args below meth c H locs 0 0 Q (F0 m pc ls rest)) →
      W p l e rm s m args below meth c H locs 0 0 Q (F0 m 0 ls [])) :
    vx_Met l y (Cond.code y cc nL (some .long) :: ALL) rm (PX D q av ws sz) (va_Ql post (fun u t => va_P D vwCl (C u) t.heap) (va_A ws sz)) (XCk D ws sz px) 1 6 (va_A ws sz) := by
  refine vx_ofW (cc := cc) (maxL := nL) (ret := some .long) hy rfl ?_
  intro p e s m args below meth c s₁ B hml htab hv
  obtain ⟨rfl, hsz, hP, hK, hD, hSX, hSZ⟩ := hv
  have fx : FX p s m av.toArray c RX3 cc nL D q := fx_of hcls B (fun h w hw => atoms_spec (ws := Cond.code y cc nL (some .long) :: ALL) h w (List.mem_cons_of_mem _ hw)) hml hK
  have hl := lv_entry av hav
  rw [lg_entry_eq]
  generalize (lg_sl av ++ List.replicate (nL - (lg_sl av).length) Slot.unset).toArray = ls at hl ⊢
  refine body p e s m av.toArray below meth c _ (va_A ws sz) s.heap [] ls fx hD.self (fun a h => Or.inr (hsz ▸ h)) hP va_S.rf hl (fun r u pc H locs ls hdg hp hB hS => ?_) (fun k is text pc H locs ls rest hk hls hcat hsl hd hp hP2 hS => ?_)
  · refine W.widen (k := 1) (n := 6) (Nat.zero_le _) (Nat.zero_le _) (vx_ret ?_)
    exact W.lret fx.1 fx.2.1 B.returns (fun t ht hW => ⟨⟨r, u, rfl, hp, by show va_P D vwCl (C u) t.heap; rw [ht]; exact hB⟩, hS.F ht⟩) hS.2.2 hdg B.notSynchronized
  · exact thr_row hsz hstk fx htab B.notSynchronized hSX hSZ hk hls hcat hsl hd hp hP2 hS hrm
theorem en_xf {post : UInt32 → S → Prop} {px : Nat → Prop} (hstk : l.stackTraces = false) (hcls : y.cls = RX3) (hy : plainName y.cls = true) (hav : (lg_sl av).length ≤ nL) (hrm : 5 < rm.frames ∧ 90 ≤ rm.locals ∧ rm.cells = 1 ∧ rm.slots = 6)
    (body : ∀ (p : Program) (e : Env) (s : State) (m : MethodId) (args : Array Value) (below : List Frame) (meth : Method) (c : Code) (Q : State → Prop) (A : Nat → Prop) (H : Heap) (locs : List Loc) (ls : Array Slot), FX p s m args c RX3 cc nL D q → va_D A ws → (∀ a, s.heap.size ≤ a → A a) → va_P D vwCl ws H → va_S A s.heap H locs → lv_has ls nL (lv_args 0 av) →
      (∀ (r : UInt32) (u : S) (pc : Nat) (H : Heap) (locs : List Loc) (ls : Array Slot), decode cc pc = .ok (.freturn, 1) → post r u → va_P D vwCl (C u) H → va_S A s.heap H locs → W p l e rm s m args below meth c H locs 0 0 Q (F0 m pc ls [.float r])) →
      (∀ (k is : Nat) (text : String) (pc : Nat) (H : Heap) (locs : List Loc) (ls : Array Slot) (rest : List Value), (k = 1 ∨ k = 2 ∨ k = 3) → ls.size = nL → (rest.map fun v => v.category).sum ≤ 8 → (is, text) ∈ SL →
        (decode cc pc = .ok (.new (tik k), 3) ∧ decode cc (pc + 3) = .ok (.dup, 1) ∧ ((decode cc (pc + 4) = .ok (.ldc is, 2) ∧ decode cc (pc + 6) = .ok (.invokespecial (tic k), 3) ∧ decode cc (pc + 9) = .ok (.athrow, 1)) ∨ (decode cc (pc + 4) = .ok (.ldc_w is, 3) ∧ decode cc (pc + 7) = .ok (.invokespecial (tic k), 3) ∧ decode cc (pc + 10) = .ok (.athrow, 1)))) →
        px k → va_P D vwCl ws H → va_S A s.heap H locs → W p l e rm s m args below meth c H locs 0 0 Q (F0 m pc ls rest)) →
      W p l e rm s m args below meth c H locs 0 0 Q (F0 m 0 ls [])) :
    vx_Met l y (Cond.code y cc nL (some .float) :: ALL) rm (PX D q av ws sz) (va_Qf post (fun u t => va_P D vwCl (C u) t.heap) (va_A ws sz)) (XCk D ws sz px) 1 6 (va_A ws sz) := by
  refine vx_ofW (cc := cc) (maxL := nL) (ret := some .float) hy rfl ?_
  intro p e s m args below meth c s₁ B hml htab hv
  obtain ⟨rfl, hsz, hP, hK, hD, hSX, hSZ⟩ := hv
  have fx : FX p s m av.toArray c RX3 cc nL D q := fx_of hcls B (fun h w hw => atoms_spec (ws := Cond.code y cc nL (some .float) :: ALL) h w (List.mem_cons_of_mem _ hw)) hml hK
  have hl := lv_entry av hav
  rw [lg_entry_eq]
  generalize (lg_sl av ++ List.replicate (nL - (lg_sl av).length) Slot.unset).toArray = ls at hl ⊢
  refine body p e s m av.toArray below meth c _ (va_A ws sz) s.heap [] ls fx hD.self (fun a h => Or.inr (hsz ▸ h)) hP va_S.rf hl (fun r u pc H locs ls hdg hp hB hS => ?_) (fun k is text pc H locs ls rest hk hls hcat hsl hd hp hP2 hS => ?_)
  · refine W.widen (k := 1) (n := 6) (Nat.zero_le _) (Nat.zero_le _) (vx_ret ?_)
    exact W.fret fx.1 fx.2.1 B.returns (fun t ht hW => ⟨⟨r, u, rfl, hp, by show va_P D vwCl (C u) t.heap; rw [ht]; exact hB⟩, hS.F ht⟩) hS.2.2 hdg B.notSynchronized
  · exact thr_row hsz hstk fx htab B.notSynchronized hSX hSZ hk hls hcat hsl hd hp hP2 hS hrm
theorem en_xv {post : S → Prop} {px : Nat → Prop} (hstk : l.stackTraces = false) (hcls : y.cls = RX3) (hy : plainName y.cls = true) (hav : (lg_sl av).length ≤ nL) (hrm : 5 < rm.frames ∧ 90 ≤ rm.locals ∧ rm.cells = 1 ∧ rm.slots = 6)
    (body : ∀ (p : Program) (e : Env) (s : State) (m : MethodId) (args : Array Value) (below : List Frame) (meth : Method) (c : Code) (Q : State → Prop) (A : Nat → Prop) (H : Heap) (locs : List Loc) (ls : Array Slot), FX p s m args c RX3 cc nL D q → va_D A ws → (∀ a, s.heap.size ≤ a → A a) → va_P D vwCl ws H → va_S A s.heap H locs → lv_has ls nL (lv_args 0 av) →
      (∀ (u : S) (pc : Nat) (H : Heap) (locs : List Loc) (ls : Array Slot), decode cc pc = .ok (.return_, 1) → post u → va_P D vwCl (C u) H → va_S A s.heap H locs → W p l e rm s m args below meth c H locs 0 0 Q (F0 m pc ls [])) →
      (∀ (k is : Nat) (text : String) (pc : Nat) (H : Heap) (locs : List Loc) (ls : Array Slot) (rest : List Value), (k = 1 ∨ k = 2 ∨ k = 3) → ls.size = nL → (rest.map fun v => v.category).sum ≤ 8 → (is, text) ∈ SL →
        (decode cc pc = .ok (.new (tik k), 3) ∧ decode cc (pc + 3) = .ok (.dup, 1) ∧ ((decode cc (pc + 4) = .ok (.ldc is, 2) ∧ decode cc (pc + 6) = .ok (.invokespecial (tic k), 3) ∧ decode cc (pc + 9) = .ok (.athrow, 1)) ∨ (decode cc (pc + 4) = .ok (.ldc_w is, 3) ∧ decode cc (pc + 7) = .ok (.invokespecial (tic k), 3) ∧ decode cc (pc + 10) = .ok (.athrow, 1)))) →
        px k → va_P D vwCl ws H → va_S A s.heap H locs → W p l e rm s m args below meth c H locs 0 0 Q (F0 m pc ls rest)) →
      W p l e rm s m args below meth c H locs 0 0 Q (F0 m 0 ls [])) :
    vx_Met l y (Cond.code y cc nL (none) :: ALL) rm (PX D q av ws sz) (va_Qv post (fun u t => va_P D vwCl (C u) t.heap) (va_A ws sz)) (XCk D ws sz px) 1 6 (va_A ws sz) := by
  refine vx_ofW (cc := cc) (maxL := nL) (ret := none) hy rfl ?_
  intro p e s m args below meth c s₁ B hml htab hv
  obtain ⟨rfl, hsz, hP, hK, hD, hSX, hSZ⟩ := hv
  have fx : FX p s m av.toArray c RX3 cc nL D q := fx_of hcls B (fun h w hw => atoms_spec (ws := Cond.code y cc nL (none) :: ALL) h w (List.mem_cons_of_mem _ hw)) hml hK
  have hl := lv_entry av hav
  rw [lg_entry_eq]
  generalize (lg_sl av ++ List.replicate (nL - (lg_sl av).length) Slot.unset).toArray = ls at hl ⊢
  refine body p e s m av.toArray below meth c _ (va_A ws sz) s.heap [] ls fx hD.self (fun a h => Or.inr (hsz ▸ h)) hP va_S.rf hl (fun u pc H locs ls hdg hp hB hS => ?_) (fun k is text pc H locs ls rest hk hls hcat hsl hd hp hP2 hS => ?_)
  · refine W.widen (k := 1) (n := 6) (Nat.zero_le _) (Nat.zero_le _) (vx_ret ?_)
    exact W.vret fx.1 fx.2.1 B.returns (fun t ht hW => ⟨⟨u, rfl, hp, by show va_P D vwCl (C u) t.heap; rw [ht]; exact hB⟩, hS.F ht⟩) hS.2.2 hdg B.notSynchronized
  · exact thr_row hsz hstk fx htab B.notSynchronized hSX hSZ hk hls hcat hsl hd hp hP2 hS hrm
end THR
end
section
/-! X3_isWithin -/
def f_X3_isWithin (p0 : Int32) (p1 : Int32) (p2 : Int32) : Int32 :=
  if p0 < p1 then (0 : Int32) else (if p2 < p0 then (0 : Int32) else (1 : Int32))

abbrev RM_X3_isWithin : Room := { frames := 0, cells := 0, slots := 0, locals := 0 }
set_option maxRecDepth 100000 in
set_option maxHeartbeats 4000000 in
theorem c_X3_isWithin (l : Launch) (D : va_G) (q : Nat → ClassId) (sz : Nat) (p0 : Int32) (p1 : Int32) (p2 : Int32) : Met l yX3_isWithin (Cond.code yX3_isWithin cX3_isWithin 3 (some .boolean) :: ALL) RM_X3_isWithin (PC D q [.int p0, .int p1, .int p2] ([]) sz) (va_Qi (fun (rv : Int32) (_ : Unit) => f_X3_isWithin p0 p1 p2 = rv ∧ bz rv) (fun _ _ => True) (fun _ => False)) 0 0 (fun _ => False) := by
  refine en_zR (by decide +kernel) (Nat.le_of_ble_eq_true rfl) ?_
  intro p e s m args below meth c Q A H locs ls fx hD0 hP hS hl hret
  have hx := fx.1
  have hb := fx.2.1
  have hl : lv_has ls 3 [(0, .int p0), (1, .int p1), (2, .int p2)] := hl
  have hD : va_D _ ([] : va_W) := hD0
  have ht : f_X3_isWithin p0 p1 p2 = f_X3_isWithin p0 p1 p2 := rfl
  refine lv_iload_n hx hb dX3_isWithin_0 rfl (lv_at hl 0 rfl) ?_
  refine lv_iload_n hx hb dX3_isWithin_1 rfl (lv_at hl 1 rfl) ?_
  refine lv_icmp_lt (tgt := 14) hx hb dX3_isWithin_2 (by decide) (fun c1 => ?_) (fun c1 => ?_)
  · refine lv_iconst (v := 0) hx hb dX3_isWithin_14 (by decide) ?_
    exact hret (0 : Int32) _ _ _ _ dX3_isWithin_15 bz0 (ht.trans (by simp only [f_X3_isWithin, if_pos c1])) hS
  · refine lv_iload_n hx hb dX3_isWithin_5 rfl (lv_at hl 0 rfl) ?_
    refine lv_iload_n hx hb dX3_isWithin_6 rfl (lv_at hl 2 rfl) ?_
    refine lv_icmp_gt (tgt := 14) hx hb dX3_isWithin_7 (by decide) (fun c2 => ?_) (fun c2 => ?_)
    · refine lv_iconst (v := 0) hx hb dX3_isWithin_14 (by decide) ?_
      exact hret (0 : Int32) _ _ _ _ dX3_isWithin_15 bz0 (ht.trans (by simp only [f_X3_isWithin, if_neg c1, if_pos c2])) hS
    · refine lv_iconst (v := 1) hx hb dX3_isWithin_10 (by decide) ?_
      refine lv_goto (tgt := 15) hx hb dX3_isWithin_11 (by decide) ?_
      exact hret (1 : Int32) _ _ _ _ dX3_isWithin_15 bz1 (ht.trans (by simp only [f_X3_isWithin, if_neg c1, if_neg c2])) hS

/-! X3_read -/
def f_X3_read (na : Nat) (f : (Nat → Int32)) (p0 : Int32) : Int32 :=
  if p0 < 0 then (0 : Int32) else (if (Int32.ofNat na) ≤ p0 then (0 : Int32) else (f p0.toNatClampNeg))

abbrev RM_X3_read : Room := { frames := 0, cells := 0, slots := 0, locals := 0 }
set_option maxRecDepth 100000 in
set_option maxHeartbeats 4000000 in
theorem c_X3_read (l : Launch) (D : va_G) (q : Nat → ClassId) (sz : Nat) (a : Nat) (na : Nat) (hn : na < 2147483648) (f : (Nat → Int32)) (p0 : Int32) : Met l yX3_read (Cond.code yX3_read cX3_read 2 (some .int) :: ALL) RM_X3_read (PC D q [.ref a, .int p0] (cArr a na q f) sz) (va_Qi (fun (rv : Int32) (_ : Unit) => f_X3_read na f p0 = rv) (fun _ _ => True) (fun _ => False)) 0 0 (fun _ => False) := by
  refine en_iR (by decide +kernel) (Nat.le_of_ble_eq_true rfl) ?_
  intro p e s m args below meth c Q A H locs ls fx hD0 hP hS hl hret
  have hx := fx.1
  have hb := fx.2.1
  have hl : lv_has ls 2 [(0, .ref a), (1, .int p0)] := hl
  have hD : ∀ (f9 : (Nat → Int32)), va_D _ (cArr a na q f9) := fun _ => D_same ((fst_Arr _ _ _ _).trans (fst_Arr _ _ _ _).symm) hD0
  have ht : f_X3_read na f p0 = f_X3_read na f p0 := rfl
  refine lv_iload_n hx hb dX3_read_0 rfl (lv_at hl 1 rfl) ?_
  refine lv_if_lt (tgt := 16) hx hb dX3_read_1 (by decide) (fun c1 => ?_) (fun c1 => ?_)
  · refine lv_iconst (v := 0) hx hb dX3_read_16 (by decide) ?_
    exact hret (0 : Int32) _ _ _ _ dX3_read_17 (ht.trans (by simp only [f_X3_read, if_pos c1])) hS
  · refine lv_iload_n hx hb dX3_read_4 rfl (lv_at hl 1 rfl) ?_
    refine lv_aload_n hx hb dX3_read_5 rfl (lv_at hl 0 rfl) ?_
    refine va_alen hx hb fx.2.2.2.2.2.1 hP 0 0 rfl (ty := .int) rfl (v := Int32.ofNat na) rfl dX3_read_6 ?_
    refine lv_icmp_ge (tgt := 16) hx hb dX3_read_7 (by decide) (fun c2 => ?_) (fun c2 => ?_)
    · refine lv_iconst (v := 0) hx hb dX3_read_16 (by decide) ?_
      exact hret (0 : Int32) _ _ _ _ dX3_read_17 (ht.trans (by simp only [f_X3_read, if_neg c1, if_pos c2])) hS
    · refine lv_aload_n hx hb dX3_read_10 rfl (lv_at hl 0 rfl) ?_
      refine lv_iload_n hx hb dX3_read_11 rfl (lv_at hl 1 rfl) ?_
      refine va_iald hx hb fx.2.2.2.2.2.1 hP 0 0 (f := f) rfl rfl (arr_in hn c1 c2) dX3_read_12 ?_
      refine lv_goto (tgt := 17) hx hb dX3_read_13 (by decide) ?_
      exact hret (f p0.toNatClampNeg) _ _ _ _ dX3_read_17 (ht.trans (by simp only [f_X3_read, if_neg c1, if_neg c2])) hS

/-! X3_write -/
def f_X3_write (na : Nat) (f : (Nat → Int32)) (p0 : Int32) (p1 : Int32) : (Nat → Int32) :=
  if p0 < 0 then f else (if (Int32.ofNat na) ≤ p0 then f else (upd f p0.toNatClampNeg p1))

abbrev RM_X3_write : Room := { frames := 0, cells := 0, slots := 0, locals := 0 }
set_option maxRecDepth 100000 in
set_option maxHeartbeats 4000000 in
theorem c_X3_write (l : Launch) (D : va_G) (q : Nat → ClassId) (sz : Nat) (a : Nat) (na : Nat) (hn : na < 2147483648) (f : (Nat → Int32)) (p0 : Int32) (p1 : Int32) : Met l yX3_write (Cond.code yX3_write cX3_write 3 none :: ALL) RM_X3_write (PC D q [.ref a, .int p0, .int p1] (cArr a na q f) sz) (va_Qv (fun (u : (Nat → Int32)) => f_X3_write na f p0 p1 = u) (fun u t9 => va_P D vwCl (cArr a na q u) t9.heap) (va_A (cArr a na q f) sz)) 0 0 (va_A (cArr a na q f) sz) := by
  refine en_vW (by decide +kernel) (Nat.le_of_ble_eq_true rfl) ?_
  intro p e s m args below meth c Q A H locs ls fx hD0 hA hP hS hl hret
  have hx := fx.1
  have hb := fx.2.1
  have hl : lv_has ls 3 [(0, .ref a), (1, .int p0), (2, .int p1)] := hl
  have hD : ∀ (f9 : (Nat → Int32)), va_D _ (cArr a na q f9) := fun _ => D_same ((fst_Arr _ _ _ _).trans (fst_Arr _ _ _ _).symm) hD0
  have ht : f_X3_write na f p0 p1 = f_X3_write na f p0 p1 := rfl
  refine lv_iload_n hx hb dX3_write_0 rfl (lv_at hl 1 rfl) ?_
  refine lv_if_lt (tgt := 14) hx hb dX3_write_1 (by decide) (fun c1 => ?_) (fun c1 => ?_)
  · exact hret f _ _ _ _ dX3_write_14 (ht.trans (by simp only [f_X3_write, if_pos c1])) hP hS
  · refine lv_iload_n hx hb dX3_write_4 rfl (lv_at hl 1 rfl) ?_
    refine lv_aload_n hx hb dX3_write_5 rfl (lv_at hl 0 rfl) ?_
    refine va_alen hx hb fx.2.2.2.2.2.1 hP 0 0 rfl (ty := .int) rfl (v := Int32.ofNat na) rfl dX3_write_6 ?_
    refine lv_icmp_ge (tgt := 14) hx hb dX3_write_7 (by decide) (fun c2 => ?_) (fun c2 => ?_)
    · exact hret f _ _ _ _ dX3_write_14 (ht.trans (by simp only [f_X3_write, if_neg c1, if_pos c2])) hP hS
    · refine lv_aload_n hx hb dX3_write_10 rfl (lv_at hl 0 rfl) ?_
      refine lv_iload_n hx hb dX3_write_11 rfl (lv_at hl 1 rfl) ?_
      refine lv_iload_n hx hb dX3_write_12 rfl (lv_at hl 2 rfl) ?_
      refine va_iast hx hb fx.2.2.2.2.2.1 hP (hD _) hS 0 0 (f := f) rfl rfl (arr_in hn c1 c2) dX3_write_13 (fun H locs hP _ hS => ?_)
      have hP : va_P D vwCl (cArr a na q (upd f p0.toNatClampNeg p1)) H := hP
      exact hret (upd f p0.toNatClampNeg p1) _ _ _ _ dX3_write_14 (ht.trans (by simp only [f_X3_write, if_neg c1, if_neg c2])) hP hS

/-! X0_layerOf -/
def f_X0_layerOf (p0 : Int32) : Int32 :=
  if 0 < p0 then ((p0 - (1 : Int32)) / (100 : Int32)) else (0 : Int32)

abbrev RM_X0_layerOf : Room := { frames := 0, cells := 0, slots := 0, locals := 0 }
set_option maxRecDepth 100000 in
set_option maxHeartbeats 4000000 in
theorem c_X0_layerOf (l : Launch) (D : va_G) (q : Nat → ClassId) (sz : Nat) (p0 : Int32) : Met l yX0_layerOf (Cond.code yX0_layerOf cX0_layerOf 1 (some .int) :: ALL) RM_X0_layerOf (PC D q [.int p0] ([]) sz) (va_Qi (fun (rv : Int32) (_ : Unit) => f_X0_layerOf p0 = rv) (fun _ _ => True) (fun _ => False)) 0 0 (fun _ => False) := by
  refine en_iR (by decide +kernel) (Nat.le_of_ble_eq_true rfl) ?_
  intro p e s m args below meth c Q A H locs ls fx hD0 hP hS hl hret
  have hx := fx.1
  have hb := fx.2.1
  have hl : lv_has ls 1 [(0, .int p0)] := hl
  have hD : va_D _ ([] : va_W) := hD0
  have ht : f_X0_layerOf p0 = f_X0_layerOf p0 := rfl
  refine lv_iload_n hx hb dX0_layerOf_0 rfl (lv_at hl 0 rfl) ?_
  refine lv_if_gt (tgt := 8) hx hb dX0_layerOf_1 (by decide) (fun c1 => ?_) (fun c1 => ?_)
  · refine lv_iload_n hx hb dX0_layerOf_8 rfl (lv_at hl 0 rfl) ?_
    refine lv_iconst (v := 1) hx hb dX0_layerOf_9 (by decide) ?_
    refine lv_isub hx hb dX0_layerOf_10 ?_
    refine lv_bipush (v := 100) hx hb dX0_layerOf_11 (by decide) ?_
    refine lv_idiv hx hb dX0_layerOf_13 (by decide) ?_
    exact hret ((p0 - (1 : Int32)) / (100 : Int32)) _ _ _ _ dX0_layerOf_14 (ht.trans (by simp only [f_X0_layerOf, if_pos c1])) hS
  · refine lv_iconst (v := 0) hx hb dX0_layerOf_4 (by decide) ?_
    refine lv_goto (tgt := 14) hx hb dX0_layerOf_5 (by decide) ?_
    exact hret (0 : Int32) _ _ _ _ dX0_layerOf_14 (ht.trans (by simp only [f_X0_layerOf, if_neg c1])) hS

/-! X0_poreAt -/
def f_X0_poreAt (r : RS) (p0 : Int32) : Int32 :=
  ((f_X3_read 50 (R_pores r) (f_X0_layerOf p0)) * p0) / (10 : Int32)

abbrev RM_X0_poreAt : Room := { frames := 1, cells := 0, slots := 0, locals := 21 }
set_option maxRecDepth 100000 in
set_option maxHeartbeats 4000000 in
theorem c_X0_poreAt (l : Launch) (D : va_G) (q : Nat → ClassId) (sz : Nat) (kr : Nat → Nat) (r : RS) (p0 : Int32) : Met l yX0_poreAt (Cond.code yX0_poreAt cX0_poreAt 2 (some .int) :: ALL) RM_X0_poreAt (PC D q [.ref (kr 0), .int p0] (cRock kr q r) sz) (va_Qi (fun (rv : Int32) (_ : Unit) => f_X0_poreAt r p0 = rv) (fun _ _ => True) (fun _ => False)) 0 0 (fun _ => False) := by
  refine en_iR (by decide +kernel) (Nat.le_of_ble_eq_true rfl) ?_
  intro p e s m args below meth c Q A H locs ls fx hD0 hP hS hl hret
  have hx := fx.1
  have hb := fx.2.1
  have hl : lv_has ls 2 [(0, .ref (kr 0)), (1, .int p0)] := hl
  have hD : ∀ (r9 : RS), va_D _ (cRock kr q r9) := fun _ => D_same ((fst_Rock _ _ _).trans (fst_Rock _ _ _).symm) hD0
  have ht : f_X0_poreAt r p0 = f_X0_poreAt r p0 := rfl
  refine lv_aload_n hx hb dX0_poreAt_0 rfl (lv_at hl 0 rfl) ?_
  refine gf_X0_9 fx hP 0 rfl dX0_poreAt_1 ?_
  refine lv_iload_n hx hb dX0_poreAt_4 rfl (lv_at hl 1 rfl) ?_
  refine kR_i (runS fx (As := [.int p0]) (rest := [.ref (kr 1)]) (c_X0_layerOf l D q H.size p0) lk_X0_37 ⟨Nat.le_of_ble_eq_true rfl, Nat.le_of_ble_eq_true rfl⟩ ⟨rfl, rfl⟩ hP (hD _) [] rfl rfl rfl hl.1 rfl (Nat.le_of_ble_eq_true rfl) dX0_poreAt_5 ⟨Nat.zero_le _, Nat.zero_le _⟩) hP hS (fun r1 _ H locs hr2 hP hS => ?_)
  subst hr2
  refine kR_i (runSN fx (As := [.ref (kr 1), .int (f_X0_layerOf p0)]) (rest := []) (c_X3_read l D q H.size (kr 1) 50 (Nat.le_of_ble_eq_true rfl) (R_pores r) (f_X0_layerOf p0)) lk_X0_41 ⟨Nat.le_of_ble_eq_true rfl, Nat.le_of_ble_eq_true rfl⟩ ⟨rfl, rfl⟩ hP (hD _) [1] rfl rfl rfl hl.1 rfl (Nat.le_of_ble_eq_true rfl) dX0_poreAt_8 ⟨Nat.zero_le _, Nat.zero_le _⟩) hP hS (fun r3 _ H locs hr4 hP hS => ?_)
  subst hr4
  refine lv_iload_n hx hb dX0_poreAt_11 rfl (lv_at hl 1 rfl) ?_
  refine lv_imul hx hb dX0_poreAt_12 ?_
  refine lv_bipush (v := 10) hx hb dX0_poreAt_13 (by decide) ?_
  refine lv_idiv hx hb dX0_poreAt_15 (by decide) ?_
  exact hret (((f_X3_read 50 (R_pores r) (f_X0_layerOf p0)) * p0) / (10 : Int32)) _ _ _ _ dX0_poreAt_16 (ht.trans (by simp only [f_X0_poreAt])) hS

/-! X0_breakAt -/
def f_X0_breakAt (r : RS) (p0 : Int32) : Int32 :=
  ((f_X3_read 50 (R_breaks r) (f_X0_layerOf p0)) * p0) / (10 : Int32)

abbrev RM_X0_breakAt : Room := { frames := 1, cells := 0, slots := 0, locals := 21 }
set_option maxRecDepth 100000 in
set_option maxHeartbeats 4000000 in
theorem c_X0_breakAt (l : Launch) (D : va_G) (q : Nat → ClassId) (sz : Nat) (kr : Nat → Nat) (r : RS) (p0 : Int32) : Met l yX0_breakAt (Cond.code yX0_breakAt cX0_breakAt 2 (some .int) :: ALL) RM_X0_breakAt (PC D q [.ref (kr 0), .int p0] (cRock kr q r) sz) (va_Qi (fun (rv : Int32) (_ : Unit) => f_X0_breakAt r p0 = rv) (fun _ _ => True) (fun _ => False)) 0 0 (fun _ => False) := by
  refine en_iR (by decide +kernel) (Nat.le_of_ble_eq_true rfl) ?_
  intro p e s m args below meth c Q A H locs ls fx hD0 hP hS hl hret
  have hx := fx.1
  have hb := fx.2.1
  have hl : lv_has ls 2 [(0, .ref (kr 0)), (1, .int p0)] := hl
  have hD : ∀ (r9 : RS), va_D _ (cRock kr q r9) := fun _ => D_same ((fst_Rock _ _ _).trans (fst_Rock _ _ _).symm) hD0
  have ht : f_X0_breakAt r p0 = f_X0_breakAt r p0 := rfl
  refine lv_aload_n hx hb dX0_breakAt_0 rfl (lv_at hl 0 rfl) ?_
  refine gf_X0_15 fx hP 0 rfl dX0_breakAt_1 ?_
  refine lv_iload_n hx hb dX0_breakAt_4 rfl (lv_at hl 1 rfl) ?_
  refine kR_i (runS fx (As := [.int p0]) (rest := [.ref (kr 2)]) (c_X0_layerOf l D q H.size p0) lk_X0_37 ⟨Nat.le_of_ble_eq_true rfl, Nat.le_of_ble_eq_true rfl⟩ ⟨rfl, rfl⟩ hP (hD _) [] rfl rfl rfl hl.1 rfl (Nat.le_of_ble_eq_true rfl) dX0_breakAt_5 ⟨Nat.zero_le _, Nat.zero_le _⟩) hP hS (fun r1 _ H locs hr2 hP hS => ?_)
  subst hr2
  refine kR_i (runSN fx (As := [.ref (kr 2), .int (f_X0_layerOf p0)]) (rest := []) (c_X3_read l D q H.size (kr 2) 50 (Nat.le_of_ble_eq_true rfl) (R_breaks r) (f_X0_layerOf p0)) lk_X0_41 ⟨Nat.le_of_ble_eq_true rfl, Nat.le_of_ble_eq_true rfl⟩ ⟨rfl, rfl⟩ hP (hD _) [2] rfl rfl rfl hl.1 rfl (Nat.le_of_ble_eq_true rfl) dX0_breakAt_8 ⟨Nat.zero_le _, Nat.zero_le _⟩) hP hS (fun r3 _ H locs hr4 hP hS => ?_)
  subst hr4
  refine lv_iload_n hx hb dX0_breakAt_11 rfl (lv_at hl 1 rfl) ?_
  refine lv_imul hx hb dX0_breakAt_12 ?_
  refine lv_bipush (v := 10) hx hb dX0_breakAt_13 (by decide) ?_
  refine lv_idiv hx hb dX0_breakAt_15 (by decide) ?_
  exact hret (((f_X3_read 50 (R_breaks r) (f_X0_layerOf p0)) * p0) / (10 : Int32)) _ _ _ _ dX0_breakAt_16 (ht.trans (by simp only [f_X0_breakAt])) hS

/-! X0_rateAt -/
def f_X0_rateAt (r : RS) (p0 : Int32) : Int32 :=
  f_X3_read 50 (R_rates r) (f_X0_layerOf p0)

abbrev RM_X0_rateAt : Room := { frames := 1, cells := 0, slots := 0, locals := 21 }
set_option maxRecDepth 100000 in
set_option maxHeartbeats 4000000 in
theorem c_X0_rateAt (l : Launch) (D : va_G) (q : Nat → ClassId) (sz : Nat) (kr : Nat → Nat) (r : RS) (p0 : Int32) : Met l yX0_rateAt (Cond.code yX0_rateAt cX0_rateAt 2 (some .int) :: ALL) RM_X0_rateAt (PC D q [.ref (kr 0), .int p0] (cRock kr q r) sz) (va_Qi (fun (rv : Int32) (_ : Unit) => f_X0_rateAt r p0 = rv) (fun _ _ => True) (fun _ => False)) 0 0 (fun _ => False) := by
  refine en_iR (by decide +kernel) (Nat.le_of_ble_eq_true rfl) ?_
  intro p e s m args below meth c Q A H locs ls fx hD0 hP hS hl hret
  have hx := fx.1
  have hb := fx.2.1
  have hl : lv_has ls 2 [(0, .ref (kr 0)), (1, .int p0)] := hl
  have hD : ∀ (r9 : RS), va_D _ (cRock kr q r9) := fun _ => D_same ((fst_Rock _ _ _).trans (fst_Rock _ _ _).symm) hD0
  have ht : f_X0_rateAt r p0 = f_X0_rateAt r p0 := rfl
  refine lv_aload_n hx hb dX0_rateAt_0 rfl (lv_at hl 0 rfl) ?_
  refine gf_X0_18 fx hP 0 rfl dX0_rateAt_1 ?_
  refine lv_iload_n hx hb dX0_rateAt_4 rfl (lv_at hl 1 rfl) ?_
  refine kR_i (runS fx (As := [.int p0]) (rest := [.ref (kr 3)]) (c_X0_layerOf l D q H.size p0) lk_X0_37 ⟨Nat.le_of_ble_eq_true rfl, Nat.le_of_ble_eq_true rfl⟩ ⟨rfl, rfl⟩ hP (hD _) [] rfl rfl rfl hl.1 rfl (Nat.le_of_ble_eq_true rfl) dX0_rateAt_5 ⟨Nat.zero_le _, Nat.zero_le _⟩) hP hS (fun r1 _ H locs hr2 hP hS => ?_)
  subst hr2
  refine kR_i (runSN fx (As := [.ref (kr 3), .int (f_X0_layerOf p0)]) (rest := []) (c_X3_read l D q H.size (kr 3) 50 (Nat.le_of_ble_eq_true rfl) (R_rates r) (f_X0_layerOf p0)) lk_X0_41 ⟨Nat.le_of_ble_eq_true rfl, Nat.le_of_ble_eq_true rfl⟩ ⟨rfl, rfl⟩ hP (hD _) [3] rfl rfl rfl hl.1 rfl (Nat.le_of_ble_eq_true rfl) dX0_rateAt_8 ⟨Nat.zero_le _, Nat.zero_le _⟩) hP hS (fun r3 _ H locs hr4 hP hS => ?_)
  subst hr4
  exact hret (f_X3_read 50 (R_rates r) (f_X0_layerOf p0)) _ _ _ _ dX0_rateAt_11 (ht.trans (by simp only [f_X0_rateAt])) hS

/-! X0_bearsGasAt -/
def f_X0_bearsGasAt (r : RS) (p0 : Int32) : Int32 :=
  if (f_X3_read 50 (R_gases r) (f_X0_layerOf p0)) = (1 : Int32) then (1 : Int32) else (0 : Int32)

abbrev RM_X0_bearsGasAt : Room := { frames := 1, cells := 0, slots := 0, locals := 21 }
set_option maxRecDepth 100000 in
set_option maxHeartbeats 4000000 in
theorem c_X0_bearsGasAt (l : Launch) (D : va_G) (q : Nat → ClassId) (sz : Nat) (kr : Nat → Nat) (r : RS) (p0 : Int32) : Met l yX0_bearsGasAt (Cond.code yX0_bearsGasAt cX0_bearsGasAt 2 (some .boolean) :: ALL) RM_X0_bearsGasAt (PC D q [.ref (kr 0), .int p0] (cRock kr q r) sz) (va_Qi (fun (rv : Int32) (_ : Unit) => f_X0_bearsGasAt r p0 = rv ∧ bz rv) (fun _ _ => True) (fun _ => False)) 0 0 (fun _ => False) := by
  refine en_zR (by decide +kernel) (Nat.le_of_ble_eq_true rfl) ?_
  intro p e s m args below meth c Q A H locs ls fx hD0 hP hS hl hret
  have hx := fx.1
  have hb := fx.2.1
  have hl : lv_has ls 2 [(0, .ref (kr 0)), (1, .int p0)] := hl
  have hD : ∀ (r9 : RS), va_D _ (cRock kr q r9) := fun _ => D_same ((fst_Rock _ _ _).trans (fst_Rock _ _ _).symm) hD0
  have ht : f_X0_bearsGasAt r p0 = f_X0_bearsGasAt r p0 := rfl
  refine lv_aload_n hx hb dX0_bearsGasAt_0 rfl (lv_at hl 0 rfl) ?_
  refine gf_X0_21 fx hP 0 rfl dX0_bearsGasAt_1 ?_
  refine lv_iload_n hx hb dX0_bearsGasAt_4 rfl (lv_at hl 1 rfl) ?_
  refine kR_i (runS fx (As := [.int p0]) (rest := [.ref (kr 4)]) (c_X0_layerOf l D q H.size p0) lk_X0_37 ⟨Nat.le_of_ble_eq_true rfl, Nat.le_of_ble_eq_true rfl⟩ ⟨rfl, rfl⟩ hP (hD _) [] rfl rfl rfl hl.1 rfl (Nat.le_of_ble_eq_true rfl) dX0_bearsGasAt_5 ⟨Nat.zero_le _, Nat.zero_le _⟩) hP hS (fun r1 _ H locs hr2 hP hS => ?_)
  subst hr2
  refine kR_i (runSN fx (As := [.ref (kr 4), .int (f_X0_layerOf p0)]) (rest := []) (c_X3_read l D q H.size (kr 4) 50 (Nat.le_of_ble_eq_true rfl) (R_gases r) (f_X0_layerOf p0)) lk_X0_41 ⟨Nat.le_of_ble_eq_true rfl, Nat.le_of_ble_eq_true rfl⟩ ⟨rfl, rfl⟩ hP (hD _) [4] rfl rfl rfl hl.1 rfl (Nat.le_of_ble_eq_true rfl) dX0_bearsGasAt_8 ⟨Nat.zero_le _, Nat.zero_le _⟩) hP hS (fun r3 _ H locs hr4 hP hS => ?_)
  subst hr4
  refine lv_iconst (v := 1) hx hb dX0_bearsGasAt_11 (by decide) ?_
  refine lv_icmp_ne (tgt := 19) hx hb dX0_bearsGasAt_12 (by decide) (fun c5 => ?_) (fun c5 => ?_)
  · refine lv_iconst (v := 0) hx hb dX0_bearsGasAt_19 (by decide) ?_
    exact hret (0 : Int32) _ _ _ _ dX0_bearsGasAt_20 bz0 (ht.trans (by simp only [f_X0_bearsGasAt, if_neg c5])) hS
  · refine lv_iconst (v := 1) hx hb dX0_bearsGasAt_15 (by decide) ?_
    refine lv_goto (tgt := 20) hx hb dX0_bearsGasAt_16 (by decide) ?_
    exact hret (1 : Int32) _ _ _ _ dX0_bearsGasAt_20 bz1 (ht.trans (by simp only [f_X0_bearsGasAt, if_pos c5])) hS

/-! X0_tellLayer -/
def f_X0_tellLayer (r : RS) (p0 : Int32) (p1 : Int32) (p2 : Int32) (p3 : Int32) (p4 : Int32) : RS :=
  R_set_gases (R_set_rates (R_set_breaks (R_set_pores r (f_X3_write 50 (R_pores r) p0 p1)) (f_X3_write 50 (R_breaks r) p0 p2)) (f_X3_write 50 (R_rates r) p0 p3)) (f_X3_write 50 (R_gases r) p0 (if p4 = 0 then (0 : Int32) else (1 : Int32)))

abbrev RM_X0_tellLayer : Room := { frames := 1, cells := 0, slots := 0, locals := 22 }
set_option maxRecDepth 100000 in
set_option maxHeartbeats 4000000 in
theorem c_X0_tellLayer (l : Launch) (D : va_G) (q : Nat → ClassId) (sz : Nat) (kr : Nat → Nat) (r : RS) (p0 : Int32) (p1 : Int32) (p2 : Int32) (p3 : Int32) (p4 : Int32) : Met l yX0_tellLayer (Cond.code yX0_tellLayer cX0_tellLayer 6 none :: ALL) RM_X0_tellLayer (PC D q [.ref (kr 0), .int p0, .int p1, .int p2, .int p3, .int p4] (cRock kr q r) sz) (va_Qv (fun (u : RS) => f_X0_tellLayer r p0 p1 p2 p3 p4 = u) (fun u t9 => va_P D vwCl (cRock kr q u) t9.heap) (va_A (cRock kr q r) sz)) 0 0 (va_A (cRock kr q r) sz) := by
  refine en_vW (by decide +kernel) (Nat.le_of_ble_eq_true rfl) ?_
  intro p e s m args below meth c Q A H locs ls fx hD0 hA hP hS hl hret
  have hx := fx.1
  have hb := fx.2.1
  have hl : lv_has ls 6 [(0, .ref (kr 0)), (1, .int p0), (2, .int p1), (3, .int p2), (4, .int p3), (5, .int p4)] := hl
  have hD : ∀ (r9 : RS), va_D _ (cRock kr q r9) := fun _ => D_same ((fst_Rock _ _ _).trans (fst_Rock _ _ _).symm) hD0
  have ht : f_X0_tellLayer r p0 p1 p2 p3 p4 = f_X0_tellLayer r p0 p1 p2 p3 p4 := rfl
  refine lv_aload_n hx hb dX0_tellLayer_0 rfl (lv_at hl 0 rfl) ?_
  refine gf_X0_9 fx hP 0 rfl dX0_tellLayer_1 ?_
  refine lv_iload_n hx hb dX0_tellLayer_4 rfl (lv_at hl 1 rfl) ?_
  refine lv_iload_n hx hb dX0_tellLayer_5 rfl (lv_at hl 2 rfl) ?_
  refine kW_v (runSN fx (As := [.ref (kr 1), .int p0, .int p1]) (rest := []) (c_X3_write l D q H.size (kr 1) 50 (Nat.le_of_ble_eq_true rfl) (R_pores r) p0 p1) lk_X0_33 ⟨Nat.le_of_ble_eq_true rfl, Nat.le_of_ble_eq_true rfl⟩ ⟨rfl, rfl⟩ hP (hD _) [1] rfl rfl rfl hl.1 rfl (Nat.le_of_ble_eq_true rfl) dX0_tellLayer_6 ⟨Nat.zero_le _, Nat.zero_le _⟩) hP (hD _) hS hA [1] rfl (fun _ => rfl) (fun u1 H locs hw2 hP hS => ?_)
  have hP : va_P D vwCl (cRock kr q (R_set_pores r u1)) H := hP
  refine lv_aload_n hx hb dX0_tellLayer_9 rfl (lv_at hl 0 rfl) ?_
  refine gf_X0_15 fx hP 0 rfl dX0_tellLayer_10 ?_
  refine lv_iload_n hx hb dX0_tellLayer_13 rfl (lv_at hl 1 rfl) ?_
  refine lv_iload_n hx hb dX0_tellLayer_14 rfl (lv_at hl 3 rfl) ?_
  refine kW_v (runSN fx (As := [.ref (kr 2), .int p0, .int p2]) (rest := []) (c_X3_write l D q H.size (kr 2) 50 (Nat.le_of_ble_eq_true rfl) (R_breaks r) p0 p2) lk_X0_33 ⟨Nat.le_of_ble_eq_true rfl, Nat.le_of_ble_eq_true rfl⟩ ⟨rfl, rfl⟩ hP (hD _) [2] rfl rfl rfl hl.1 rfl (Nat.le_of_ble_eq_true rfl) dX0_tellLayer_15 ⟨Nat.zero_le _, Nat.zero_le _⟩) hP (hD _) hS hA [2] rfl (fun _ => rfl) (fun u3 H locs hw4 hP hS => ?_)
  have hP : va_P D vwCl (cRock kr q (R_set_breaks (R_set_pores r u1) u3)) H := hP
  refine lv_aload_n hx hb dX0_tellLayer_18 rfl (lv_at hl 0 rfl) ?_
  refine gf_X0_18 fx hP 0 rfl dX0_tellLayer_19 ?_
  refine lv_iload_n hx hb dX0_tellLayer_22 rfl (lv_at hl 1 rfl) ?_
  refine lv_iload hx hb dX0_tellLayer_23 (lv_at hl 4 rfl) ?_
  refine kW_v (runSN fx (As := [.ref (kr 3), .int p0, .int p3]) (rest := []) (c_X3_write l D q H.size (kr 3) 50 (Nat.le_of_ble_eq_true rfl) (R_rates r) p0 p3) lk_X0_33 ⟨Nat.le_of_ble_eq_true rfl, Nat.le_of_ble_eq_true rfl⟩ ⟨rfl, rfl⟩ hP (hD _) [3] rfl rfl rfl hl.1 rfl (Nat.le_of_ble_eq_true rfl) dX0_tellLayer_25 ⟨Nat.zero_le _, Nat.zero_le _⟩) hP (hD _) hS hA [3] rfl (fun _ => rfl) (fun u5 H locs hw6 hP hS => ?_)
  have hP : va_P D vwCl (cRock kr q (R_set_rates (R_set_breaks (R_set_pores r u1) u3) u5)) H := hP
  refine lv_aload_n hx hb dX0_tellLayer_28 rfl (lv_at hl 0 rfl) ?_
  refine gf_X0_21 fx hP 0 rfl dX0_tellLayer_29 ?_
  refine lv_iload_n hx hb dX0_tellLayer_32 rfl (lv_at hl 1 rfl) ?_
  refine lv_iload hx hb dX0_tellLayer_33 (lv_at hl 5 rfl) ?_
  suffices K : ∀ (v8 : Int32), ∀ (H : Heap) (locs : List Loc) (ls : Array Slot), v8 = (if p4 = 0 then (0 : Int32) else (1 : Int32)) → va_P D vwCl (cRock kr q (R_set_rates (R_set_breaks (R_set_pores r u1) u3) u5)) H → va_S A s.heap H locs → lv_has ls 6 [(0, .ref (kr 0))] → W p l e RM_X0_tellLayer s m args below meth c H locs 0 0 Q (F0 m 43 ls [.int v8, .int p0, .ref (kr 4)]) by
    refine lv_if_eq (tgt := 42) hx hb dX0_tellLayer_35 (by decide) (fun c7 => ?_) (fun c7 => ?_)
    · refine lv_iconst (v := 0) hx hb dX0_tellLayer_42 (by decide) ?_
      exact K (0 : Int32) H locs ls (by simp only [if_pos c7, hw2, hw4, hw6]) hP hS (lv_sub hl [0] rfl)
    · refine lv_iconst (v := 1) hx hb dX0_tellLayer_38 (by decide) ?_
      refine lv_goto (tgt := 43) hx hb dX0_tellLayer_39 (by decide) ?_
      exact K (1 : Int32) H locs ls (by simp only [if_neg c7, hw2, hw4, hw6]) hP hS (lv_sub hl [0] rfl)
  intro v8 H locs ls hvv8 hP hS hl
  subst hvv8
  refine kW_v (runSN fx (As := [.ref (kr 4), .int p0, .int (if p4 = 0 then (0 : Int32) else (1 : Int32))]) (rest := []) (c_X3_write l D q H.size (kr 4) 50 (Nat.le_of_ble_eq_true rfl) (R_gases r) p0 (if p4 = 0 then (0 : Int32) else (1 : Int32))) lk_X0_33 ⟨Nat.le_of_ble_eq_true rfl, Nat.le_of_ble_eq_true rfl⟩ ⟨rfl, rfl⟩ hP (hD _) [4] rfl rfl rfl hl.1 rfl (Nat.le_of_ble_eq_true rfl) dX0_tellLayer_43 ⟨Nat.zero_le _, Nat.zero_le _⟩) hP (hD _) hS hA [4] rfl (fun _ => rfl) (fun u9 H locs hw10 hP hS => ?_)
  have hP : va_P D vwCl (cRock kr q (R_set_gases (R_set_rates (R_set_breaks (R_set_pores r u1) u3) u5) u9)) H := hP
  exact hret (R_set_gases (R_set_rates (R_set_breaks (R_set_pores r u1) u3) u5) u9) _ _ _ _ dX0_tellLayer_46 (ht.trans (by simp only [f_X0_tellLayer, hw2, hw4, hw6, hw10])) hP hS

/-! X0_greatestPore -/
def f_X0_greatestPore_L14 (r : RS) (p1 : Int32) : Nat → Int32 → Int32 → Int32
  | 0, _, i11 => i11
  | n + 1, i10, i11 => if p1 < i10 then i11 else (f_X0_greatestPore_L14 r p1 n (i10 + (1 : Int32)) (imax i11 (f_X3_read 50 (R_pores r) i10)))

def ok_X0_greatestPore_L14 (r : RS) (p1 : Int32) : Nat → Int32 → Int32 → Prop
  | 0, _, _ => False
  | n + 1, i10, i11 => (p1 < i10 → True) ∧ (¬ p1 < i10 → (ok_X0_greatestPore_L14 r p1 n (i10 + (1 : Int32)) (imax i11 (f_X3_read 50 (R_pores r) i10))))

def f_X0_greatestPore (N : Nat) (r : RS) (p0 : Int32) (p1 : Int32) : Int32 :=
  f_X0_greatestPore_L14 r p1 N (p0 + (1 : Int32)) (f_X3_read 50 (R_pores r) p0)

def ok_X0_greatestPore (N : Nat) (r : RS) (p0 : Int32) (p1 : Int32) : Prop :=
  (ok_X0_greatestPore_L14 r p1 N (p0 + (1 : Int32)) (f_X3_read 50 (R_pores r) p0)) ∧ True

abbrev RM_X0_greatestPore : Room := { frames := 1, cells := 0, slots := 0, locals := 24 }
set_option maxRecDepth 100000 in
set_option maxHeartbeats 4000000 in
theorem c_X0_greatestPore (l : Launch) (D : va_G) (q : Nat → ClassId) (sz : Nat) (kr : Nat → Nat) (r : RS) (p0 : Int32) (p1 : Int32) (N : Nat) (hok : ok_X0_greatestPore N r p0 p1) : Met l yX0_greatestPore (Cond.code yX0_greatestPore cX0_greatestPore 5 (some .int) :: ALL) RM_X0_greatestPore (PC D q [.ref (kr 0), .int p0, .int p1] (cRock kr q r) sz) (va_Qi (fun (rv : Int32) (_ : Unit) => f_X0_greatestPore N r p0 p1 = rv) (fun _ _ => True) (fun _ => False)) 0 0 (fun _ => False) := by
  refine en_iR (by decide +kernel) (Nat.le_of_ble_eq_true rfl) ?_
  intro p e s m args below meth c Q A H locs ls fx hD0 hP hS hl hret
  have hx := fx.1
  have hb := fx.2.1
  have hl : lv_has ls 5 [(0, .ref (kr 0)), (1, .int p0), (2, .int p1)] := hl
  have hD : ∀ (r9 : RS), va_D _ (cRock kr q r9) := fun _ => D_same ((fst_Rock _ _ _).trans (fst_Rock _ _ _).symm) hD0
  have ht : f_X0_greatestPore N r p0 p1 = f_X0_greatestPore N r p0 p1 := rfl
  simp only [ok_X0_greatestPore] at hok
  refine lv_aload_n hx hb dX0_greatestPore_0 rfl (lv_at hl 0 rfl) ?_
  refine gf_X0_9 fx hP 0 rfl dX0_greatestPore_1 ?_
  refine lv_iload_n hx hb dX0_greatestPore_4 rfl (lv_at hl 1 rfl) ?_
  refine kR_i (runSN fx (As := [.ref (kr 1), .int p0]) (rest := []) (c_X3_read l D q H.size (kr 1) 50 (Nat.le_of_ble_eq_true rfl) (R_pores r) p0) lk_X0_41 ⟨Nat.le_of_ble_eq_true rfl, Nat.le_of_ble_eq_true rfl⟩ ⟨rfl, rfl⟩ hP (hD _) [1] rfl rfl rfl hl.1 rfl (Nat.le_of_ble_eq_true rfl) dX0_greatestPore_5 ⟨Nat.zero_le _, Nat.zero_le _⟩) hP hS (fun r1 _ H locs hr2 hP hS => ?_)
  subst hr2
  refine lv_istore_n (lv' := [(3, .int (f_X3_read 50 (R_pores r) p0)), (0, .ref (kr 0)), (1, .int p0), (2, .int p1)]) hx hb dX0_greatestPore_8 rfl hl (by decide) rfl (fun ls hl => ?_)
  refine lv_iload_n hx hb dX0_greatestPore_9 rfl (lv_at hl 2 rfl) ?_
  refine lv_iconst (v := 1) hx hb dX0_greatestPore_10 (by decide) ?_
  refine lv_iadd hx hb dX0_greatestPore_11 ?_
  refine lv_istore (lv' := [(4, .int (p0 + (1 : Int32))), (3, .int (f_X3_read 50 (R_pores r) p0)), (0, .ref (kr 0)), (1, .int p0), (2, .int p1)]) hx hb dX0_greatestPore_12 hl (by decide) rfl (fun ls hl => ?_)
  obtain ⟨hokL, hok⟩ := hok
  obtain ⟨z14, hz14⟩ : ∃ z, f_X0_greatestPore_L14 r p1 N (p0 + (1 : Int32)) (f_X3_read 50 (R_pores r) p0) = z := ⟨_, rfl⟩
  suffices KJ14 : ∀ (H : Heap) (locs : List Loc) (ls : Array Slot), va_P D vwCl (cRock kr q r) H → va_S A s.heap H locs → lv_has ls 5 [(0, .ref (kr 0)), (3, .int z14)] → W p l e RM_X0_greatestPore s m args below meth c H locs 0 0 Q (F0 m 40 ls []) by
    have LP14 : ∀ (n : Nat) (i10 : Int32) (i11 : Int32) (H : Heap) (locs : List Loc) (ls : Array Slot), ok_X0_greatestPore_L14 r p1 n i10 i11 → f_X0_greatestPore_L14 r p1 n i10 i11 = z14 → va_P D vwCl (cRock kr q r) H → va_S A s.heap H locs → lv_has ls 5 [(0, .ref (kr 0)), (2, .int p1), (3, .int i11), (4, .int i10)] → W p l e RM_X0_greatestPore s m args below meth c H locs 0 0 Q (F0 m 14 ls []) := by
      intro n
      induction n with
      | zero =>
        intro i10 i11 H locs ls hok
        exact (hok : False).elim
      | succ n ih14 =>
        intro i10 i11 H locs ls hok ht hP hS hl
        simp only [ok_X0_greatestPore_L14] at hok
        refine lv_iload hx hb dX0_greatestPore_14 (lv_at hl 3 rfl) ?_
        refine lv_iload_n hx hb dX0_greatestPore_16 rfl (lv_at hl 1 rfl) ?_
        refine lv_icmp_gt (tgt := 40) hx hb dX0_greatestPore_17 (by decide) (fun c12 => ?_) (fun c12 => ?_)
        · have hok := hok.1 c12
          have hv9 := ht.symm.trans (show _ = i11 by simp only [f_X0_greatestPore_L14, if_pos c12])
          subst hv9
          exact KJ14 H locs ls hP hS (lv_sub hl [0, 2] rfl)
        · have hok := hok.2 c12
          refine lv_iload_n hx hb dX0_greatestPore_20 rfl (lv_at hl 2 rfl) ?_
          refine lv_aload_n hx hb dX0_greatestPore_21 rfl (lv_at hl 0 rfl) ?_
          refine gf_X0_9 fx hP 0 rfl dX0_greatestPore_22 ?_
          refine lv_iload hx hb dX0_greatestPore_25 (lv_at hl 3 rfl) ?_
          refine kR_i (runSN fx (As := [.ref (kr 1), .int i10]) (rest := [.int i11]) (c_X3_read l D q H.size (kr 1) 50 (Nat.le_of_ble_eq_true rfl) (R_pores r) i10) lk_X0_41 ⟨Nat.le_of_ble_eq_true rfl, Nat.le_of_ble_eq_true rfl⟩ ⟨rfl, rfl⟩ hP (hD _) [1] rfl rfl rfl hl.1 rfl (Nat.le_of_ble_eq_true rfl) dX0_greatestPore_27 ⟨Nat.zero_le _, Nat.zero_le _⟩) hP hS (fun r13 _ H locs hr14 hP hS => ?_)
          subst hr14
          refine kimax fx mm_13 hl.1 (Nat.le_of_ble_eq_true rfl) (Nat.le_of_ble_eq_true rfl) (Nat.zero_le _) (Nat.zero_le _) dX0_greatestPore_30 ?_
          refine lv_istore_n (lv' := [(3, .int (imax i11 (f_X3_read 50 (R_pores r) i10))), (0, .ref (kr 0)), (2, .int p1), (4, .int i10)]) hx hb dX0_greatestPore_33 rfl hl (by decide) rfl (fun ls hl => ?_)
          refine lv_iinc (v := i10 + (1 : Int32)) (lv' := [(4, .int (i10 + (1 : Int32))), (3, .int (imax i11 (f_X3_read 50 (R_pores r) i10))), (0, .ref (kr 0)), (2, .int p1)]) hx hb dX0_greatestPore_34 hl (k := 3) rfl rfl (by decide) rfl (fun ls hl => ?_)
          refine lv_goto (tgt := 14) hx hb dX0_greatestPore_37 (by decide) ?_
          exact ih14 (i10 + (1 : Int32)) (imax i11 (f_X3_read 50 (R_pores r) i10)) H locs ls hok ((show f_X0_greatestPore_L14 r p1 (n + 1) i10 i11 = _ by simp only [f_X0_greatestPore_L14, if_neg c12]).symm.trans ht) hP hS (lv_sub hl [2, 3, 1, 0] rfl)
    exact LP14 N (p0 + (1 : Int32)) (f_X3_read 50 (R_pores r) p0) H locs ls hokL hz14 hP hS (lv_sub hl [2, 4, 1, 0] rfl)
  intro H locs ls hP hS hl
  subst hz14
  refine lv_iload_n hx hb dX0_greatestPore_40 rfl (lv_at hl 1 rfl) ?_
  exact hret (f_X0_greatestPore_L14 r p1 N (p0 + (1 : Int32)) (f_X3_read 50 (R_pores r) p0)) _ _ _ _ dX0_greatestPore_41 (ht.trans (by simp only [f_X0_greatestPore])) hS

/-! X0_leastBreak -/
def f_X0_leastBreak_L14 (r : RS) (p1 : Int32) : Nat → Int32 → Int32 → Int32
  | 0, _, i11 => i11
  | n + 1, i10, i11 => if p1 < i10 then i11 else (f_X0_leastBreak_L14 r p1 n (i10 + (1 : Int32)) (imin i11 (f_X3_read 50 (R_breaks r) i10)))

def ok_X0_leastBreak_L14 (r : RS) (p1 : Int32) : Nat → Int32 → Int32 → Prop
  | 0, _, _ => False
  | n + 1, i10, i11 => (p1 < i10 → True) ∧ (¬ p1 < i10 → (ok_X0_leastBreak_L14 r p1 n (i10 + (1 : Int32)) (imin i11 (f_X3_read 50 (R_breaks r) i10))))

def f_X0_leastBreak (N : Nat) (r : RS) (p0 : Int32) (p1 : Int32) : Int32 :=
  f_X0_leastBreak_L14 r p1 N (p0 + (1 : Int32)) (f_X3_read 50 (R_breaks r) p0)

def ok_X0_leastBreak (N : Nat) (r : RS) (p0 : Int32) (p1 : Int32) : Prop :=
  (ok_X0_leastBreak_L14 r p1 N (p0 + (1 : Int32)) (f_X3_read 50 (R_breaks r) p0)) ∧ True

abbrev RM_X0_leastBreak : Room := { frames := 1, cells := 0, slots := 0, locals := 24 }
set_option maxRecDepth 100000 in
set_option maxHeartbeats 4000000 in
theorem c_X0_leastBreak (l : Launch) (D : va_G) (q : Nat → ClassId) (sz : Nat) (kr : Nat → Nat) (r : RS) (p0 : Int32) (p1 : Int32) (N : Nat) (hok : ok_X0_leastBreak N r p0 p1) : Met l yX0_leastBreak (Cond.code yX0_leastBreak cX0_leastBreak 5 (some .int) :: ALL) RM_X0_leastBreak (PC D q [.ref (kr 0), .int p0, .int p1] (cRock kr q r) sz) (va_Qi (fun (rv : Int32) (_ : Unit) => f_X0_leastBreak N r p0 p1 = rv) (fun _ _ => True) (fun _ => False)) 0 0 (fun _ => False) := by
  refine en_iR (by decide +kernel) (Nat.le_of_ble_eq_true rfl) ?_
  intro p e s m args below meth c Q A H locs ls fx hD0 hP hS hl hret
  have hx := fx.1
  have hb := fx.2.1
  have hl : lv_has ls 5 [(0, .ref (kr 0)), (1, .int p0), (2, .int p1)] := hl
  have hD : ∀ (r9 : RS), va_D _ (cRock kr q r9) := fun _ => D_same ((fst_Rock _ _ _).trans (fst_Rock _ _ _).symm) hD0
  have ht : f_X0_leastBreak N r p0 p1 = f_X0_leastBreak N r p0 p1 := rfl
  simp only [ok_X0_leastBreak] at hok
  refine lv_aload_n hx hb dX0_leastBreak_0 rfl (lv_at hl 0 rfl) ?_
  refine gf_X0_15 fx hP 0 rfl dX0_leastBreak_1 ?_
  refine lv_iload_n hx hb dX0_leastBreak_4 rfl (lv_at hl 1 rfl) ?_
  refine kR_i (runSN fx (As := [.ref (kr 2), .int p0]) (rest := []) (c_X3_read l D q H.size (kr 2) 50 (Nat.le_of_ble_eq_true rfl) (R_breaks r) p0) lk_X0_41 ⟨Nat.le_of_ble_eq_true rfl, Nat.le_of_ble_eq_true rfl⟩ ⟨rfl, rfl⟩ hP (hD _) [2] rfl rfl rfl hl.1 rfl (Nat.le_of_ble_eq_true rfl) dX0_leastBreak_5 ⟨Nat.zero_le _, Nat.zero_le _⟩) hP hS (fun r1 _ H locs hr2 hP hS => ?_)
  subst hr2
  refine lv_istore_n (lv' := [(3, .int (f_X3_read 50 (R_breaks r) p0)), (0, .ref (kr 0)), (1, .int p0), (2, .int p1)]) hx hb dX0_leastBreak_8 rfl hl (by decide) rfl (fun ls hl => ?_)
  refine lv_iload_n hx hb dX0_leastBreak_9 rfl (lv_at hl 2 rfl) ?_
  refine lv_iconst (v := 1) hx hb dX0_leastBreak_10 (by decide) ?_
  refine lv_iadd hx hb dX0_leastBreak_11 ?_
  refine lv_istore (lv' := [(4, .int (p0 + (1 : Int32))), (3, .int (f_X3_read 50 (R_breaks r) p0)), (0, .ref (kr 0)), (1, .int p0), (2, .int p1)]) hx hb dX0_leastBreak_12 hl (by decide) rfl (fun ls hl => ?_)
  obtain ⟨hokL, hok⟩ := hok
  obtain ⟨z14, hz14⟩ : ∃ z, f_X0_leastBreak_L14 r p1 N (p0 + (1 : Int32)) (f_X3_read 50 (R_breaks r) p0) = z := ⟨_, rfl⟩
  suffices KJ14 : ∀ (H : Heap) (locs : List Loc) (ls : Array Slot), va_P D vwCl (cRock kr q r) H → va_S A s.heap H locs → lv_has ls 5 [(0, .ref (kr 0)), (3, .int z14)] → W p l e RM_X0_leastBreak s m args below meth c H locs 0 0 Q (F0 m 40 ls []) by
    have LP14 : ∀ (n : Nat) (i10 : Int32) (i11 : Int32) (H : Heap) (locs : List Loc) (ls : Array Slot), ok_X0_leastBreak_L14 r p1 n i10 i11 → f_X0_leastBreak_L14 r p1 n i10 i11 = z14 → va_P D vwCl (cRock kr q r) H → va_S A s.heap H locs → lv_has ls 5 [(0, .ref (kr 0)), (2, .int p1), (3, .int i11), (4, .int i10)] → W p l e RM_X0_leastBreak s m args below meth c H locs 0 0 Q (F0 m 14 ls []) := by
      intro n
      induction n with
      | zero =>
        intro i10 i11 H locs ls hok
        exact (hok : False).elim
      | succ n ih14 =>
        intro i10 i11 H locs ls hok ht hP hS hl
        simp only [ok_X0_leastBreak_L14] at hok
        refine lv_iload hx hb dX0_leastBreak_14 (lv_at hl 3 rfl) ?_
        refine lv_iload_n hx hb dX0_leastBreak_16 rfl (lv_at hl 1 rfl) ?_
        refine lv_icmp_gt (tgt := 40) hx hb dX0_leastBreak_17 (by decide) (fun c12 => ?_) (fun c12 => ?_)
        · have hok := hok.1 c12
          have hv9 := ht.symm.trans (show _ = i11 by simp only [f_X0_leastBreak_L14, if_pos c12])
          subst hv9
          exact KJ14 H locs ls hP hS (lv_sub hl [0, 2] rfl)
        · have hok := hok.2 c12
          refine lv_iload_n hx hb dX0_leastBreak_20 rfl (lv_at hl 2 rfl) ?_
          refine lv_aload_n hx hb dX0_leastBreak_21 rfl (lv_at hl 0 rfl) ?_
          refine gf_X0_15 fx hP 0 rfl dX0_leastBreak_22 ?_
          refine lv_iload hx hb dX0_leastBreak_25 (lv_at hl 3 rfl) ?_
          refine kR_i (runSN fx (As := [.ref (kr 2), .int i10]) (rest := [.int i11]) (c_X3_read l D q H.size (kr 2) 50 (Nat.le_of_ble_eq_true rfl) (R_breaks r) i10) lk_X0_41 ⟨Nat.le_of_ble_eq_true rfl, Nat.le_of_ble_eq_true rfl⟩ ⟨rfl, rfl⟩ hP (hD _) [2] rfl rfl rfl hl.1 rfl (Nat.le_of_ble_eq_true rfl) dX0_leastBreak_27 ⟨Nat.zero_le _, Nat.zero_le _⟩) hP hS (fun r13 _ H locs hr14 hP hS => ?_)
          subst hr14
          refine kimin fx mm_14 hl.1 (Nat.le_of_ble_eq_true rfl) (Nat.le_of_ble_eq_true rfl) (Nat.zero_le _) (Nat.zero_le _) dX0_leastBreak_30 ?_
          refine lv_istore_n (lv' := [(3, .int (imin i11 (f_X3_read 50 (R_breaks r) i10))), (0, .ref (kr 0)), (2, .int p1), (4, .int i10)]) hx hb dX0_leastBreak_33 rfl hl (by decide) rfl (fun ls hl => ?_)
          refine lv_iinc (v := i10 + (1 : Int32)) (lv' := [(4, .int (i10 + (1 : Int32))), (3, .int (imin i11 (f_X3_read 50 (R_breaks r) i10))), (0, .ref (kr 0)), (2, .int p1)]) hx hb dX0_leastBreak_34 hl (k := 3) rfl rfl (by decide) rfl (fun ls hl => ?_)
          refine lv_goto (tgt := 14) hx hb dX0_leastBreak_37 (by decide) ?_
          exact ih14 (i10 + (1 : Int32)) (imin i11 (f_X3_read 50 (R_breaks r) i10)) H locs ls hok ((show f_X0_leastBreak_L14 r p1 (n + 1) i10 i11 = _ by simp only [f_X0_leastBreak_L14, if_neg c12]).symm.trans ht) hP hS (lv_sub hl [2, 3, 1, 0] rfl)
    exact LP14 N (p0 + (1 : Int32)) (f_X3_read 50 (R_breaks r) p0) H locs ls hokL hz14 hP hS (lv_sub hl [2, 4, 1, 0] rfl)
  intro H locs ls hP hS hl
  subst hz14
  refine lv_iload_n hx hb dX0_leastBreak_40 rfl (lv_at hl 1 rfl) ?_
  exact hret (f_X0_leastBreak_L14 r p1 N (p0 + (1 : Int32)) (f_X3_read 50 (R_breaks r) p0)) _ _ _ _ dX0_leastBreak_41 (ht.trans (by simp only [f_X0_leastBreak])) hS

/-! X0_piecesFromAbove -/
def f_X0_piecesFromAbove_L12 (r : RS) (p0 : Int32) : Nat → Int32 → Int32 → Int32 → Int32 → Int32
  | 0, i14, i15, i16, i17 => 0
  | n + 1, i14, i15, i16, i17 => if p0 < i14 then i17 else (if (f_X3_read 50 (R_pores r) i14) ≤ (f_X3_read 50 (R_breaks r) i14) then (if (imax i16 (f_X3_read 50 (R_pores r) i14)) ≤ (imin i15 (f_X3_read 50 (R_breaks r) i14)) then (f_X0_piecesFromAbove_L12 r p0 n (i14 + (1 : Int32)) (imin i15 (f_X3_read 50 (R_breaks r) i14)) (imax i16 (f_X3_read 50 (R_pores r) i14)) i17) else (f_X0_piecesFromAbove_L12 r p0 n (i14 + (1 : Int32)) (f_X3_read 50 (R_breaks r) i14) (f_X3_read 50 (R_pores r) i14) (i17 + (1 : Int32)))) else (-1 : Int32))

def ok_X0_piecesFromAbove_L12 (r : RS) (p0 : Int32) : Nat → Int32 → Int32 → Int32 → Int32 → Prop
  | 0, _, _, _, _ => False
  | n + 1, i14, i15, i16, i17 => (p0 < i14 → True) ∧ (¬ p0 < i14 → (((f_X3_read 50 (R_pores r) i14) ≤ (f_X3_read 50 (R_breaks r) i14) → (((imax i16 (f_X3_read 50 (R_pores r) i14)) ≤ (imin i15 (f_X3_read 50 (R_breaks r) i14)) → (ok_X0_piecesFromAbove_L12 r p0 n (i14 + (1 : Int32)) (imin i15 (f_X3_read 50 (R_breaks r) i14)) (imax i16 (f_X3_read 50 (R_pores r) i14)) i17)) ∧ (¬ (imax i16 (f_X3_read 50 (R_pores r) i14)) ≤ (imin i15 (f_X3_read 50 (R_breaks r) i14)) → (ok_X0_piecesFromAbove_L12 r p0 n (i14 + (1 : Int32)) (f_X3_read 50 (R_breaks r) i14) (f_X3_read 50 (R_pores r) i14) (i17 + (1 : Int32)))))) ∧ (¬ (f_X3_read 50 (R_pores r) i14) ≤ (f_X3_read 50 (R_breaks r) i14) → True)))

def f_X0_piecesFromAbove (N : Nat) (r : RS) (p0 : Int32) : Int32 :=
  f_X0_piecesFromAbove_L12 r p0 N (0 : Int32) (300 : Int32) (0 : Int32) (1 : Int32)

def ok_X0_piecesFromAbove (N : Nat) (r : RS) (p0 : Int32) : Prop :=
  ok_X0_piecesFromAbove_L12 r p0 N (0 : Int32) (300 : Int32) (0 : Int32) (1 : Int32)

abbrev RM_X0_piecesFromAbove : Room := { frames := 1, cells := 0, slots := 0, locals := 24 }
set_option maxRecDepth 100000 in
set_option maxHeartbeats 4000000 in
theorem c_X0_piecesFromAbove (l : Launch) (D : va_G) (q : Nat → ClassId) (sz : Nat) (kr : Nat → Nat) (r : RS) (p0 : Int32) (N : Nat) (hok : ok_X0_piecesFromAbove N r p0) : Met l yX0_piecesFromAbove (Cond.code yX0_piecesFromAbove cX0_piecesFromAbove 8 (some .int) :: ALL) RM_X0_piecesFromAbove (PC D q [.ref (kr 0), .int p0] (cRock kr q r) sz) (va_Qi (fun (rv : Int32) (_ : Unit) => f_X0_piecesFromAbove N r p0 = rv) (fun _ _ => True) (fun _ => False)) 0 0 (fun _ => False) := by
  refine en_iR (by decide +kernel) (Nat.le_of_ble_eq_true rfl) ?_
  intro p e s m args below meth c Q A H locs ls fx hD0 hP hS hl hret
  have hx := fx.1
  have hb := fx.2.1
  have hl : lv_has ls 8 [(0, .ref (kr 0)), (1, .int p0)] := hl
  have hD : ∀ (r9 : RS), va_D _ (cRock kr q r9) := fun _ => D_same ((fst_Rock _ _ _).trans (fst_Rock _ _ _).symm) hD0
  have ht : f_X0_piecesFromAbove N r p0 = f_X0_piecesFromAbove N r p0 := rfl
  simp only [ok_X0_piecesFromAbove] at hok
  refine lv_iconst (v := 1) hx hb dX0_piecesFromAbove_0 (by decide) ?_
  refine lv_istore_n (lv' := [(2, .int (1 : Int32)), (0, .ref (kr 0)), (1, .int p0)]) hx hb dX0_piecesFromAbove_1 rfl hl (by decide) rfl (fun ls hl => ?_)
  refine lv_iconst (v := 0) hx hb dX0_piecesFromAbove_2 (by decide) ?_
  refine lv_istore_n (lv' := [(3, .int (0 : Int32)), (2, .int (1 : Int32)), (0, .ref (kr 0)), (1, .int p0)]) hx hb dX0_piecesFromAbove_3 rfl hl (by decide) rfl (fun ls hl => ?_)
  refine lv_sipush (v := 300) hx hb dX0_piecesFromAbove_4 (by decide) ?_
  refine lv_istore (lv' := [(4, .int (300 : Int32)), (3, .int (0 : Int32)), (2, .int (1 : Int32)), (0, .ref (kr 0)), (1, .int p0)]) hx hb dX0_piecesFromAbove_7 hl (by decide) rfl (fun ls hl => ?_)
  refine lv_iconst (v := 0) hx hb dX0_piecesFromAbove_9 (by decide) ?_
  refine lv_istore (lv' := [(5, .int (0 : Int32)), (4, .int (300 : Int32)), (3, .int (0 : Int32)), (2, .int (1 : Int32)), (0, .ref (kr 0)), (1, .int p0)]) hx hb dX0_piecesFromAbove_10 hl (by decide) rfl (fun ls hl => ?_)
  have LP12 : ∀ (n : Nat) (i14 : Int32) (i15 : Int32) (i16 : Int32) (i17 : Int32) (H : Heap) (locs : List Loc) (ls : Array Slot), ok_X0_piecesFromAbove_L12 r p0 n i14 i15 i16 i17 → f_X0_piecesFromAbove N r p0 = f_X0_piecesFromAbove_L12 r p0 n i14 i15 i16 i17 → va_P D vwCl (cRock kr q r) H → va_S A s.heap H locs → lv_has ls 8 [(0, .ref (kr 0)), (1, .int p0), (2, .int i17), (3, .int i16), (4, .int i15), (5, .int i14)] → W p l e RM_X0_piecesFromAbove s m args below meth c H locs 0 0 Q (F0 m 12 ls []) := by
    intro n
    induction n with
    | zero =>
      intro i14 i15 i16 i17 H locs ls hok
      exact (hok : False).elim
    | succ n ih12 =>
      intro i14 i15 i16 i17 H locs ls hok ht hP hS hl
      simp only [ok_X0_piecesFromAbove_L12] at hok
      refine lv_iload hx hb dX0_piecesFromAbove_12 (lv_at hl 5 rfl) ?_
      refine lv_iload_n hx hb dX0_piecesFromAbove_14 rfl (lv_at hl 1 rfl) ?_
      refine lv_icmp_gt (tgt := 87) hx hb dX0_piecesFromAbove_15 (by decide) (fun c18 => ?_) (fun c18 => ?_)
      · have hok := hok.1 c18
        refine lv_iload_n hx hb dX0_piecesFromAbove_87 rfl (lv_at hl 2 rfl) ?_
        exact hret i17 _ _ _ _ dX0_piecesFromAbove_88 (ht.trans (by simp only [f_X0_piecesFromAbove_L12, if_pos c18])) hS
      · have hok := hok.2 c18
        refine lv_aload_n hx hb dX0_piecesFromAbove_18 rfl (lv_at hl 0 rfl) ?_
        refine gf_X0_9 fx hP 0 rfl dX0_piecesFromAbove_19 ?_
        refine lv_iload hx hb dX0_piecesFromAbove_22 (lv_at hl 5 rfl) ?_
        refine kR_i (runSN fx (As := [.ref (kr 1), .int i14]) (rest := []) (c_X3_read l D q H.size (kr 1) 50 (Nat.le_of_ble_eq_true rfl) (R_pores r) i14) lk_X0_41 ⟨Nat.le_of_ble_eq_true rfl, Nat.le_of_ble_eq_true rfl⟩ ⟨rfl, rfl⟩ hP (hD _) [1] rfl rfl rfl hl.1 rfl (Nat.le_of_ble_eq_true rfl) dX0_piecesFromAbove_24 ⟨Nat.zero_le _, Nat.zero_le _⟩) hP hS (fun r19 _ H locs hr20 hP hS => ?_)
        subst hr20
        refine lv_istore (lv' := [(6, .int (f_X3_read 50 (R_pores r) i14)), (0, .ref (kr 0)), (1, .int p0), (2, .int i17), (3, .int i16), (4, .int i15), (5, .int i14)]) hx hb dX0_piecesFromAbove_27 hl (by decide) rfl (fun ls hl => ?_)
        refine lv_aload_n hx hb dX0_piecesFromAbove_29 rfl (lv_at hl 1 rfl) ?_
        refine gf_X0_15 fx hP 0 rfl dX0_piecesFromAbove_30 ?_
        refine lv_iload hx hb dX0_piecesFromAbove_33 (lv_at hl 6 rfl) ?_
        refine kR_i (runSN fx (As := [.ref (kr 2), .int i14]) (rest := []) (c_X3_read l D q H.size (kr 2) 50 (Nat.le_of_ble_eq_true rfl) (R_breaks r) i14) lk_X0_41 ⟨Nat.le_of_ble_eq_true rfl, Nat.le_of_ble_eq_true rfl⟩ ⟨rfl, rfl⟩ hP (hD _) [2] rfl rfl rfl hl.1 rfl (Nat.le_of_ble_eq_true rfl) dX0_piecesFromAbove_35 ⟨Nat.zero_le _, Nat.zero_le _⟩) hP hS (fun r21 _ H locs hr22 hP hS => ?_)
        subst hr22
        refine lv_istore (lv' := [(7, .int (f_X3_read 50 (R_breaks r) i14)), (6, .int (f_X3_read 50 (R_pores r) i14)), (0, .ref (kr 0)), (1, .int p0), (2, .int i17), (3, .int i16), (4, .int i15), (5, .int i14)]) hx hb dX0_piecesFromAbove_38 hl (by decide) rfl (fun ls hl => ?_)
        refine lv_iload hx hb dX0_piecesFromAbove_40 (lv_at hl 1 rfl) ?_
        refine lv_iload hx hb dX0_piecesFromAbove_42 (lv_at hl 0 rfl) ?_
        refine lv_icmp_le (tgt := 49) hx hb dX0_piecesFromAbove_44 (by decide) (fun c23 => ?_) (fun c23 => ?_)
        · have hok := hok.1 c23
          refine lv_iload_n hx hb dX0_piecesFromAbove_49 rfl (lv_at hl 5 rfl) ?_
          refine lv_iload hx hb dX0_piecesFromAbove_50 (lv_at hl 1 rfl) ?_
          refine kimax fx mm_13 hl.1 (Nat.le_of_ble_eq_true rfl) (Nat.le_of_ble_eq_true rfl) (Nat.zero_le _) (Nat.zero_le _) dX0_piecesFromAbove_52 ?_
          refine lv_istore_n (lv' := [(3, .int (imax i16 (f_X3_read 50 (R_pores r) i14))), (7, .int (f_X3_read 50 (R_breaks r) i14)), (6, .int (f_X3_read 50 (R_pores r) i14)), (0, .ref (kr 0)), (1, .int p0), (2, .int i17), (4, .int i15), (5, .int i14)]) hx hb dX0_piecesFromAbove_55 rfl hl (by decide) rfl (fun ls hl => ?_)
          refine lv_iload hx hb dX0_piecesFromAbove_56 (lv_at hl 6 rfl) ?_
          refine lv_iload hx hb dX0_piecesFromAbove_58 (lv_at hl 1 rfl) ?_
          refine kimin fx mm_14 hl.1 (Nat.le_of_ble_eq_true rfl) (Nat.le_of_ble_eq_true rfl) (Nat.zero_le _) (Nat.zero_le _) dX0_piecesFromAbove_60 ?_
          refine lv_istore (lv' := [(4, .int (imin i15 (f_X3_read 50 (R_breaks r) i14))), (3, .int (imax i16 (f_X3_read 50 (R_pores r) i14))), (7, .int (f_X3_read 50 (R_breaks r) i14)), (6, .int (f_X3_read 50 (R_pores r) i14)), (0, .ref (kr 0)), (1, .int p0), (2, .int i17), (5, .int i14)]) hx hb dX0_piecesFromAbove_63 hl (by decide) rfl (fun ls hl => ?_)
          refine lv_iload_n hx hb dX0_piecesFromAbove_65 rfl (lv_at hl 1 rfl) ?_
          refine lv_iload hx hb dX0_piecesFromAbove_66 (lv_at hl 0 rfl) ?_
          refine lv_icmp_le (tgt := 81) hx hb dX0_piecesFromAbove_68 (by decide) (fun c24 => ?_) (fun c24 => ?_)
          · have hok := hok.1 c24
            refine lv_iinc (v := i14 + (1 : Int32)) (lv' := [(5, .int (i14 + (1 : Int32))), (4, .int (imin i15 (f_X3_read 50 (R_breaks r) i14))), (3, .int (imax i16 (f_X3_read 50 (R_pores r) i14))), (7, .int (f_X3_read 50 (R_breaks r) i14)), (6, .int (f_X3_read 50 (R_pores r) i14)), (0, .ref (kr 0)), (1, .int p0), (2, .int i17)]) hx hb dX0_piecesFromAbove_81 hl (k := 7) rfl rfl (by decide) rfl (fun ls hl => ?_)
            refine lv_goto (tgt := 12) hx hb dX0_piecesFromAbove_84 (by decide) ?_
            exact ih12 (i14 + (1 : Int32)) (imin i15 (f_X3_read 50 (R_breaks r) i14)) (imax i16 (f_X3_read 50 (R_pores r) i14)) i17 H locs ls hok (ht.trans (by simp only [f_X0_piecesFromAbove_L12, if_neg c18, if_pos c23, if_pos c24])) hP hS (lv_sub hl [5, 6, 7, 2, 1, 0] rfl)
          · have hok := hok.2 c24
            refine lv_iinc (v := i17 + (1 : Int32)) (lv' := [(2, .int (i17 + (1 : Int32))), (4, .int (imin i15 (f_X3_read 50 (R_breaks r) i14))), (3, .int (imax i16 (f_X3_read 50 (R_pores r) i14))), (7, .int (f_X3_read 50 (R_breaks r) i14)), (6, .int (f_X3_read 50 (R_pores r) i14)), (0, .ref (kr 0)), (1, .int p0), (5, .int i14)]) hx hb dX0_piecesFromAbove_71 hl (k := 6) rfl rfl (by decide) rfl (fun ls hl => ?_)
            refine lv_iload hx hb dX0_piecesFromAbove_74 (lv_at hl 4 rfl) ?_
            refine lv_istore_n (lv' := [(3, .int (f_X3_read 50 (R_pores r) i14)), (2, .int (i17 + (1 : Int32))), (4, .int (imin i15 (f_X3_read 50 (R_breaks r) i14))), (7, .int (f_X3_read 50 (R_breaks r) i14)), (6, .int (f_X3_read 50 (R_pores r) i14)), (0, .ref (kr 0)), (1, .int p0), (5, .int i14)]) hx hb dX0_piecesFromAbove_76 rfl hl (by decide) rfl (fun ls hl => ?_)
            refine lv_iload hx hb dX0_piecesFromAbove_77 (lv_at hl 3 rfl) ?_
            refine lv_istore (lv' := [(4, .int (f_X3_read 50 (R_breaks r) i14)), (3, .int (f_X3_read 50 (R_pores r) i14)), (2, .int (i17 + (1 : Int32))), (7, .int (f_X3_read 50 (R_breaks r) i14)), (6, .int (f_X3_read 50 (R_pores r) i14)), (0, .ref (kr 0)), (1, .int p0), (5, .int i14)]) hx hb dX0_piecesFromAbove_79 hl (by decide) rfl (fun ls hl => ?_)
            refine lv_iinc (v := i14 + (1 : Int32)) (lv' := [(5, .int (i14 + (1 : Int32))), (4, .int (f_X3_read 50 (R_breaks r) i14)), (3, .int (f_X3_read 50 (R_pores r) i14)), (2, .int (i17 + (1 : Int32))), (7, .int (f_X3_read 50 (R_breaks r) i14)), (6, .int (f_X3_read 50 (R_pores r) i14)), (0, .ref (kr 0)), (1, .int p0)]) hx hb dX0_piecesFromAbove_81 hl (k := 7) rfl rfl (by decide) rfl (fun ls hl => ?_)
            refine lv_goto (tgt := 12) hx hb dX0_piecesFromAbove_84 (by decide) ?_
            exact ih12 (i14 + (1 : Int32)) (f_X3_read 50 (R_breaks r) i14) (f_X3_read 50 (R_pores r) i14) (i17 + (1 : Int32)) H locs ls hok (ht.trans (by simp only [f_X0_piecesFromAbove_L12, if_neg c18, if_pos c23, if_neg c24])) hP hS (lv_sub hl [6, 7, 3, 2, 1, 0] rfl)
        · have hok := hok.2 c23
          refine lv_iconst (v := -1) hx hb dX0_piecesFromAbove_47 (by decide) ?_
          exact hret (-1 : Int32) _ _ _ _ dX0_piecesFromAbove_48 (ht.trans (by simp only [f_X0_piecesFromAbove_L12, if_neg c18, if_neg c23])) hS
  exact LP12 N (0 : Int32) (300 : Int32) (0 : Int32) (1 : Int32) H locs ls hok (ht.trans (by simp only [f_X0_piecesFromAbove])) hP hS (lv_sub hl [4, 5, 3, 2, 1, 0] rfl)

/-! X0_leastPiecesTo -/
def f_X0_leastPiecesTo_L12 (r : RS) : Nat → Int32 → Int32 → Int32 → Int32 → Int32
  | 0, _, _, _, i26 => i26
  | n + 1, i23, i24, i25, i26 => if i23 < 0 then i26 else (if (if (imin i24 (f_X3_read 50 (R_breaks r) i23)) < (imax i25 (f_X3_read 50 (R_pores r) i23)) then (0 : Int32) else (if (if i23 = 0 then (0 : Int32) else f_X3_read 50 (R_pieces r) (i23 - (1 : Int32))) = (-1 : Int32) then (0 : Int32) else (1 : Int32))) = 0 then (f_X0_leastPiecesTo_L12 r n (i23 + (-1 : Int32)) (imin i24 (f_X3_read 50 (R_breaks r) i23)) (imax i25 (f_X3_read 50 (R_pores r) i23)) i26) else (if i26 = (-1 : Int32) then (f_X0_leastPiecesTo_L12 r n (i23 + (-1 : Int32)) (imin i24 (f_X3_read 50 (R_breaks r) i23)) (imax i25 (f_X3_read 50 (R_pores r) i23)) ((if i23 = 0 then (0 : Int32) else f_X3_read 50 (R_pieces r) (i23 - (1 : Int32))) + (1 : Int32))) else (if i26 ≤ ((if i23 = 0 then (0 : Int32) else f_X3_read 50 (R_pieces r) (i23 - (1 : Int32))) + (1 : Int32)) then (f_X0_leastPiecesTo_L12 r n (i23 + (-1 : Int32)) (imin i24 (f_X3_read 50 (R_breaks r) i23)) (imax i25 (f_X3_read 50 (R_pores r) i23)) i26) else (f_X0_leastPiecesTo_L12 r n (i23 + (-1 : Int32)) (imin i24 (f_X3_read 50 (R_breaks r) i23)) (imax i25 (f_X3_read 50 (R_pores r) i23)) ((if i23 = 0 then (0 : Int32) else f_X3_read 50 (R_pieces r) (i23 - (1 : Int32))) + (1 : Int32))))))

def ok_X0_leastPiecesTo_L12 (r : RS) : Nat → Int32 → Int32 → Int32 → Int32 → Prop
  | 0, _, _, _, _ => False
  | n + 1, i23, i24, i25, i26 => (i23 < 0 → True) ∧ (¬ i23 < 0 → (((if (imin i24 (f_X3_read 50 (R_breaks r) i23)) < (imax i25 (f_X3_read 50 (R_pores r) i23)) then (0 : Int32) else (if (if i23 = 0 then (0 : Int32) else f_X3_read 50 (R_pieces r) (i23 - (1 : Int32))) = (-1 : Int32) then (0 : Int32) else (1 : Int32))) = 0 → (ok_X0_leastPiecesTo_L12 r n (i23 + (-1 : Int32)) (imin i24 (f_X3_read 50 (R_breaks r) i23)) (imax i25 (f_X3_read 50 (R_pores r) i23)) i26)) ∧ (¬ (if (imin i24 (f_X3_read 50 (R_breaks r) i23)) < (imax i25 (f_X3_read 50 (R_pores r) i23)) then (0 : Int32) else (if (if i23 = 0 then (0 : Int32) else f_X3_read 50 (R_pieces r) (i23 - (1 : Int32))) = (-1 : Int32) then (0 : Int32) else (1 : Int32))) = 0 → ((i26 = (-1 : Int32) → (ok_X0_leastPiecesTo_L12 r n (i23 + (-1 : Int32)) (imin i24 (f_X3_read 50 (R_breaks r) i23)) (imax i25 (f_X3_read 50 (R_pores r) i23)) ((if i23 = 0 then (0 : Int32) else f_X3_read 50 (R_pieces r) (i23 - (1 : Int32))) + (1 : Int32)))) ∧ (¬ i26 = (-1 : Int32) → ((i26 ≤ ((if i23 = 0 then (0 : Int32) else f_X3_read 50 (R_pieces r) (i23 - (1 : Int32))) + (1 : Int32)) → (ok_X0_leastPiecesTo_L12 r n (i23 + (-1 : Int32)) (imin i24 (f_X3_read 50 (R_breaks r) i23)) (imax i25 (f_X3_read 50 (R_pores r) i23)) i26)) ∧ (¬ i26 ≤ ((if i23 = 0 then (0 : Int32) else f_X3_read 50 (R_pieces r) (i23 - (1 : Int32))) + (1 : Int32)) → (ok_X0_leastPiecesTo_L12 r n (i23 + (-1 : Int32)) (imin i24 (f_X3_read 50 (R_breaks r) i23)) (imax i25 (f_X3_read 50 (R_pores r) i23)) ((if i23 = 0 then (0 : Int32) else f_X3_read 50 (R_pieces r) (i23 - (1 : Int32))) + (1 : Int32))))))))))

def f_X0_leastPiecesTo (N : Nat) (r : RS) (p0 : Int32) : Int32 :=
  f_X0_leastPiecesTo_L12 r N p0 (300 : Int32) (0 : Int32) (-1 : Int32)

def ok_X0_leastPiecesTo (N : Nat) (r : RS) (p0 : Int32) : Prop :=
  (ok_X0_leastPiecesTo_L12 r N p0 (300 : Int32) (0 : Int32) (-1 : Int32)) ∧ True

abbrev RM_X0_leastPiecesTo : Room := { frames := 1, cells := 0, slots := 0, locals := 24 }
set_option maxRecDepth 100000 in
set_option maxHeartbeats 4000000 in
theorem c_X0_leastPiecesTo (l : Launch) (D : va_G) (q : Nat → ClassId) (sz : Nat) (kr : Nat → Nat) (r : RS) (p0 : Int32) (N : Nat) (hok : ok_X0_leastPiecesTo N r p0) : Met l yX0_leastPiecesTo (Cond.code yX0_leastPiecesTo cX0_leastPiecesTo 8 (some .int) :: ALL) RM_X0_leastPiecesTo (PC D q [.ref (kr 0), .int p0] (cRock kr q r) sz) (va_Qi (fun (rv : Int32) (_ : Unit) => f_X0_leastPiecesTo N r p0 = rv) (fun _ _ => True) (fun _ => False)) 0 0 (fun _ => False) := by
  refine en_iR (by decide +kernel) (Nat.le_of_ble_eq_true rfl) ?_
  intro p e s m args below meth c Q A H locs ls fx hD0 hP hS hl hret
  have hx := fx.1
  have hb := fx.2.1
  have hl : lv_has ls 8 [(0, .ref (kr 0)), (1, .int p0)] := hl
  have hD : ∀ (r9 : RS), va_D _ (cRock kr q r9) := fun _ => D_same ((fst_Rock _ _ _).trans (fst_Rock _ _ _).symm) hD0
  have ht : f_X0_leastPiecesTo N r p0 = f_X0_leastPiecesTo N r p0 := rfl
  simp only [ok_X0_leastPiecesTo] at hok
  refine lv_iconst (v := -1) hx hb dX0_leastPiecesTo_0 (by decide) ?_
  refine lv_istore_n (lv' := [(2, .int (-1 : Int32)), (0, .ref (kr 0)), (1, .int p0)]) hx hb dX0_leastPiecesTo_1 rfl hl (by decide) rfl (fun ls hl => ?_)
  refine lv_iconst (v := 0) hx hb dX0_leastPiecesTo_2 (by decide) ?_
  refine lv_istore_n (lv' := [(3, .int (0 : Int32)), (2, .int (-1 : Int32)), (0, .ref (kr 0)), (1, .int p0)]) hx hb dX0_leastPiecesTo_3 rfl hl (by decide) rfl (fun ls hl => ?_)
  refine lv_sipush (v := 300) hx hb dX0_leastPiecesTo_4 (by decide) ?_
  refine lv_istore (lv' := [(4, .int (300 : Int32)), (3, .int (0 : Int32)), (2, .int (-1 : Int32)), (0, .ref (kr 0)), (1, .int p0)]) hx hb dX0_leastPiecesTo_7 hl (by decide) rfl (fun ls hl => ?_)
  refine lv_iload_n hx hb dX0_leastPiecesTo_9 rfl (lv_at hl 4 rfl) ?_
  refine lv_istore (lv' := [(5, .int p0), (4, .int (300 : Int32)), (3, .int (0 : Int32)), (2, .int (-1 : Int32)), (0, .ref (kr 0)), (1, .int p0)]) hx hb dX0_leastPiecesTo_10 hl (by decide) rfl (fun ls hl => ?_)
  obtain ⟨hokL, hok⟩ := hok
  obtain ⟨z12, hz12⟩ : ∃ z, f_X0_leastPiecesTo_L12 r N p0 (300 : Int32) (0 : Int32) (-1 : Int32) = z := ⟨_, rfl⟩
  suffices KJ12 : ∀ (H : Heap) (locs : List Loc) (ls : Array Slot), va_P D vwCl (cRock kr q r) H → va_S A s.heap H locs → lv_has ls 8 [(0, .ref (kr 0)), (2, .int z12)] → W p l e RM_X0_leastPiecesTo s m args below meth c H locs 0 0 Q (F0 m 117 ls []) by
    have LP12 : ∀ (n : Nat) (i23 : Int32) (i24 : Int32) (i25 : Int32) (i26 : Int32) (H : Heap) (locs : List Loc) (ls : Array Slot), ok_X0_leastPiecesTo_L12 r n i23 i24 i25 i26 → f_X0_leastPiecesTo_L12 r n i23 i24 i25 i26 = z12 → va_P D vwCl (cRock kr q r) H → va_S A s.heap H locs → lv_has ls 8 [(0, .ref (kr 0)), (2, .int i26), (3, .int i25), (4, .int i24), (5, .int i23)] → W p l e RM_X0_leastPiecesTo s m args below meth c H locs 0 0 Q (F0 m 12 ls []) := by
      intro n
      induction n with
      | zero =>
        intro i23 i24 i25 i26 H locs ls hok
        exact (hok : False).elim
      | succ n ih12 =>
        intro i23 i24 i25 i26 H locs ls hok ht hP hS hl
        simp only [ok_X0_leastPiecesTo_L12] at hok
        refine lv_iload hx hb dX0_leastPiecesTo_12 (lv_at hl 4 rfl) ?_
        refine lv_if_lt (tgt := 117) hx hb dX0_leastPiecesTo_14 (by decide) (fun c27 => ?_) (fun c27 => ?_)
        · have hok := hok.1 c27
          have hv9 := ht.symm.trans (show _ = i26 by simp only [f_X0_leastPiecesTo_L12, if_pos c27])
          subst hv9
          exact KJ12 H locs ls hP hS (lv_sub hl [0, 1] rfl)
        · have hok := hok.2 c27
          refine lv_iload_n hx hb dX0_leastPiecesTo_17 rfl (lv_at hl 2 rfl) ?_
          refine lv_aload_n hx hb dX0_leastPiecesTo_18 rfl (lv_at hl 0 rfl) ?_
          refine gf_X0_9 fx hP 0 rfl dX0_leastPiecesTo_19 ?_
          refine lv_iload hx hb dX0_leastPiecesTo_22 (lv_at hl 4 rfl) ?_
          refine kR_i (runSN fx (As := [.ref (kr 1), .int i23]) (rest := [.int i25]) (c_X3_read l D q H.size (kr 1) 50 (Nat.le_of_ble_eq_true rfl) (R_pores r) i23) lk_X0_41 ⟨Nat.le_of_ble_eq_true rfl, Nat.le_of_ble_eq_true rfl⟩ ⟨rfl, rfl⟩ hP (hD _) [1] rfl rfl rfl hl.1 rfl (Nat.le_of_ble_eq_true rfl) dX0_leastPiecesTo_24 ⟨Nat.zero_le _, Nat.zero_le _⟩) hP hS (fun r28 _ H locs hr29 hP hS => ?_)
          subst hr29
          refine kimax fx mm_13 hl.1 (Nat.le_of_ble_eq_true rfl) (Nat.le_of_ble_eq_true rfl) (Nat.zero_le _) (Nat.zero_le _) dX0_leastPiecesTo_27 ?_
          refine lv_istore_n (lv' := [(3, .int (imax i25 (f_X3_read 50 (R_pores r) i23))), (0, .ref (kr 0)), (2, .int i26), (4, .int i24), (5, .int i23)]) hx hb dX0_leastPiecesTo_30 rfl hl (by decide) rfl (fun ls hl => ?_)
          refine lv_iload hx hb dX0_leastPiecesTo_31 (lv_at hl 3 rfl) ?_
          refine lv_aload_n hx hb dX0_leastPiecesTo_33 rfl (lv_at hl 1 rfl) ?_
          refine gf_X0_15 fx hP 0 rfl dX0_leastPiecesTo_34 ?_
          refine lv_iload hx hb dX0_leastPiecesTo_37 (lv_at hl 4 rfl) ?_
          refine kR_i (runSN fx (As := [.ref (kr 2), .int i23]) (rest := [.int i24]) (c_X3_read l D q H.size (kr 2) 50 (Nat.le_of_ble_eq_true rfl) (R_breaks r) i23) lk_X0_41 ⟨Nat.le_of_ble_eq_true rfl, Nat.le_of_ble_eq_true rfl⟩ ⟨rfl, rfl⟩ hP (hD _) [2] rfl rfl rfl hl.1 rfl (Nat.le_of_ble_eq_true rfl) dX0_leastPiecesTo_39 ⟨Nat.zero_le _, Nat.zero_le _⟩) hP hS (fun r30 _ H locs hr31 hP hS => ?_)
          subst hr31
          refine kimin fx mm_14 hl.1 (Nat.le_of_ble_eq_true rfl) (Nat.le_of_ble_eq_true rfl) (Nat.zero_le _) (Nat.zero_le _) dX0_leastPiecesTo_42 ?_
          refine lv_istore (lv' := [(4, .int (imin i24 (f_X3_read 50 (R_breaks r) i23))), (3, .int (imax i25 (f_X3_read 50 (R_pores r) i23))), (0, .ref (kr 0)), (2, .int i26), (5, .int i23)]) hx hb dX0_leastPiecesTo_45 hl (by decide) rfl (fun ls hl => ?_)
          refine lv_iload hx hb dX0_leastPiecesTo_47 (lv_at hl 4 rfl) ?_
          suffices K : ∀ (v35 : Int32), ∀ (H : Heap) (locs : List Loc) (ls : Array Slot), v35 = (if i23 = 0 then (0 : Int32) else f_X3_read 50 (R_pieces r) (i23 - (1 : Int32))) → va_P D vwCl (cRock kr q r) H → va_S A s.heap H locs → lv_has ls 8 [(0, .ref (kr 0)), (2, .int i26), (3, .int (imax i25 (f_X3_read 50 (R_pores r) i23))), (4, .int (imin i24 (f_X3_read 50 (R_breaks r) i23))), (5, .int i23)] → W p l e RM_X0_leastPiecesTo s m args below meth c H locs 0 0 Q (F0 m 67 ls [.int v35]) by
            refine lv_if_ne (tgt := 56) hx hb dX0_leastPiecesTo_49 (by decide) (fun c32 => ?_) (fun c32 => ?_)
            · refine lv_aload_n hx hb dX0_leastPiecesTo_56 rfl (lv_at hl 2 rfl) ?_
              refine gf_X0_24 fx hP 0 rfl dX0_leastPiecesTo_57 ?_
              refine lv_iload hx hb dX0_leastPiecesTo_60 (lv_at hl 4 rfl) ?_
              refine lv_iconst (v := 1) hx hb dX0_leastPiecesTo_62 (by decide) ?_
              refine lv_isub hx hb dX0_leastPiecesTo_63 ?_
              refine kR_i (runSN fx (As := [.ref (kr 5), .int (i23 - (1 : Int32))]) (rest := []) (c_X3_read l D q H.size (kr 5) 50 (Nat.le_of_ble_eq_true rfl) (R_pieces r) (i23 - (1 : Int32))) lk_X0_41 ⟨Nat.le_of_ble_eq_true rfl, Nat.le_of_ble_eq_true rfl⟩ ⟨rfl, rfl⟩ hP (hD _) [5] rfl rfl rfl hl.1 rfl (Nat.le_of_ble_eq_true rfl) dX0_leastPiecesTo_64 ⟨Nat.zero_le _, Nat.zero_le _⟩) hP hS (fun r33 _ H locs hr34 hP hS => ?_)
              subst hr34
              exact K (f_X3_read 50 (R_pieces r) (i23 - (1 : Int32))) H locs ls (by simp only [if_neg c32]) hP hS (lv_sub hl [2, 3, 1, 0, 4] rfl)
            · refine lv_iconst (v := 0) hx hb dX0_leastPiecesTo_52 (by decide) ?_
              refine lv_goto (tgt := 67) hx hb dX0_leastPiecesTo_53 (by decide) ?_
              exact K (0 : Int32) H locs ls (by simp only [if_pos c32]) hP hS (lv_sub hl [2, 3, 1, 0, 4] rfl)
          intro v35 H locs ls hvv35 hP hS hl
          subst hvv35
          refine lv_istore (lv' := [(6, .int (if i23 = 0 then (0 : Int32) else f_X3_read 50 (R_pieces r) (i23 - (1 : Int32)))), (0, .ref (kr 0)), (2, .int i26), (3, .int (imax i25 (f_X3_read 50 (R_pores r) i23))), (4, .int (imin i24 (f_X3_read 50 (R_breaks r) i23))), (5, .int i23)]) hx hb dX0_leastPiecesTo_67 hl (by decide) rfl (fun ls hl => ?_)
          refine lv_iload_n hx hb dX0_leastPiecesTo_69 rfl (lv_at hl 3 rfl) ?_
          refine lv_iload hx hb dX0_leastPiecesTo_70 (lv_at hl 4 rfl) ?_
          suffices K : ∀ (v38 : Int32), ∀ (H : Heap) (locs : List Loc) (ls : Array Slot), v38 = (if (imin i24 (f_X3_read 50 (R_breaks r) i23)) < (imax i25 (f_X3_read 50 (R_pores r) i23)) then (0 : Int32) else (if (if i23 = 0 then (0 : Int32) else f_X3_read 50 (R_pieces r) (i23 - (1 : Int32))) = (-1 : Int32) then (0 : Int32) else (1 : Int32))) → va_P D vwCl (cRock kr q r) H → va_S A s.heap H locs → lv_has ls 8 [(0, .ref (kr 0)), (2, .int i26), (3, .int (imax i25 (f_X3_read 50 (R_pores r) i23))), (4, .int (imin i24 (f_X3_read 50 (R_breaks r) i23))), (5, .int i23), (6, .int (if i23 = 0 then (0 : Int32) else f_X3_read 50 (R_pieces r) (i23 - (1 : Int32))))] → W p l e RM_X0_leastPiecesTo s m args below meth c H locs 0 0 Q (F0 m 86 ls [.int v38]) by
            refine lv_icmp_gt (tgt := 85) hx hb dX0_leastPiecesTo_72 (by decide) (fun c36 => ?_) (fun c36 => ?_)
            · refine lv_iconst (v := 0) hx hb dX0_leastPiecesTo_85 (by decide) ?_
              exact K (0 : Int32) H locs ls (by simp only [if_pos c36]) hP hS (lv_sub hl [1, 2, 3, 4, 5, 0] rfl)
            · refine lv_iload hx hb dX0_leastPiecesTo_75 (lv_at hl 0 rfl) ?_
              refine lv_iconst (v := -1) hx hb dX0_leastPiecesTo_77 (by decide) ?_
              refine lv_icmp_eq (tgt := 85) hx hb dX0_leastPiecesTo_78 (by decide) (fun c37 => ?_) (fun c37 => ?_)
              · refine lv_iconst (v := 0) hx hb dX0_leastPiecesTo_85 (by decide) ?_
                exact K (0 : Int32) H locs ls (by simp only [if_neg c36, if_pos c37]) hP hS (lv_sub hl [1, 2, 3, 4, 5, 0] rfl)
              · refine lv_iconst (v := 1) hx hb dX0_leastPiecesTo_81 (by decide) ?_
                refine lv_goto (tgt := 86) hx hb dX0_leastPiecesTo_82 (by decide) ?_
                exact K (1 : Int32) H locs ls (by simp only [if_neg c36, if_neg c37]) hP hS (lv_sub hl [1, 2, 3, 4, 5, 0] rfl)
          intro v38 H locs ls hvv38 hP hS hl
          subst hvv38
          refine lv_istore (lv' := [(7, .int (if (imin i24 (f_X3_read 50 (R_breaks r) i23)) < (imax i25 (f_X3_read 50 (R_pores r) i23)) then (0 : Int32) else (if (if i23 = 0 then (0 : Int32) else f_X3_read 50 (R_pieces r) (i23 - (1 : Int32))) = (-1 : Int32) then (0 : Int32) else (1 : Int32)))), (0, .ref (kr 0)), (2, .int i26), (3, .int (imax i25 (f_X3_read 50 (R_pores r) i23))), (4, .int (imin i24 (f_X3_read 50 (R_breaks r) i23))), (5, .int i23), (6, .int (if i23 = 0 then (0 : Int32) else f_X3_read 50 (R_pieces r) (i23 - (1 : Int32))))]) hx hb dX0_leastPiecesTo_86 hl (by decide) rfl (fun ls hl => ?_)
          refine lv_iload hx hb dX0_leastPiecesTo_88 (lv_at hl 0 rfl) ?_
          refine lv_if_eq (tgt := 111) hx hb dX0_leastPiecesTo_90 (by decide) (fun c39 => ?_) (fun c39 => ?_)
          · have hok := hok.1 c39
            refine lv_iinc (v := i23 + (-1 : Int32)) (lv' := [(5, .int (i23 + (-1 : Int32))), (7, .int (if (imin i24 (f_X3_read 50 (R_breaks r) i23)) < (imax i25 (f_X3_read 50 (R_pores r) i23)) then (0 : Int32) else (if (if i23 = 0 then (0 : Int32) else f_X3_read 50 (R_pieces r) (i23 - (1 : Int32))) = (-1 : Int32) then (0 : Int32) else (1 : Int32)))), (0, .ref (kr 0)), (2, .int i26), (3, .int (imax i25 (f_X3_read 50 (R_pores r) i23))), (4, .int (imin i24 (f_X3_read 50 (R_breaks r) i23))), (6, .int (if i23 = 0 then (0 : Int32) else f_X3_read 50 (R_pieces r) (i23 - (1 : Int32))))]) hx hb dX0_leastPiecesTo_111 hl (k := 5) rfl rfl (by decide) rfl (fun ls hl => ?_)
            refine lv_goto (tgt := 12) hx hb dX0_leastPiecesTo_114 (by decide) ?_
            exact ih12 (i23 + (-1 : Int32)) (imin i24 (f_X3_read 50 (R_breaks r) i23)) (imax i25 (f_X3_read 50 (R_pores r) i23)) i26 H locs ls hok ((show f_X0_leastPiecesTo_L12 r (n + 1) i23 i24 i25 i26 = _ by simp only [f_X0_leastPiecesTo_L12, if_neg c27, if_pos c39]).symm.trans ht) hP hS (lv_sub hl [2, 3, 4, 5, 0] rfl)
          · have hok := hok.2 c39
            refine lv_iload_n hx hb dX0_leastPiecesTo_93 rfl (lv_at hl 2 rfl) ?_
            refine lv_iconst (v := -1) hx hb dX0_leastPiecesTo_94 (by decide) ?_
            refine lv_icmp_eq (tgt := 106) hx hb dX0_leastPiecesTo_95 (by decide) (fun c42 => ?_) (fun c42 => ?_)
            · have hok := hok.1 c42
              refine lv_iload hx hb dX0_leastPiecesTo_106 (lv_at hl 6 rfl) ?_
              refine lv_iconst (v := 1) hx hb dX0_leastPiecesTo_108 (by decide) ?_
              refine lv_iadd hx hb dX0_leastPiecesTo_109 ?_
              refine lv_istore_n (lv' := [(2, .int ((if i23 = 0 then (0 : Int32) else f_X3_read 50 (R_pieces r) (i23 - (1 : Int32))) + (1 : Int32))), (7, .int (if (imin i24 (f_X3_read 50 (R_breaks r) i23)) < (imax i25 (f_X3_read 50 (R_pores r) i23)) then (0 : Int32) else (if (if i23 = 0 then (0 : Int32) else f_X3_read 50 (R_pieces r) (i23 - (1 : Int32))) = (-1 : Int32) then (0 : Int32) else (1 : Int32)))), (0, .ref (kr 0)), (3, .int (imax i25 (f_X3_read 50 (R_pores r) i23))), (4, .int (imin i24 (f_X3_read 50 (R_breaks r) i23))), (5, .int i23), (6, .int (if i23 = 0 then (0 : Int32) else f_X3_read 50 (R_pieces r) (i23 - (1 : Int32))))]) hx hb dX0_leastPiecesTo_110 rfl hl (by decide) rfl (fun ls hl => ?_)
              refine lv_iinc (v := i23 + (-1 : Int32)) (lv' := [(5, .int (i23 + (-1 : Int32))), (2, .int ((if i23 = 0 then (0 : Int32) else f_X3_read 50 (R_pieces r) (i23 - (1 : Int32))) + (1 : Int32))), (7, .int (if (imin i24 (f_X3_read 50 (R_breaks r) i23)) < (imax i25 (f_X3_read 50 (R_pores r) i23)) then (0 : Int32) else (if (if i23 = 0 then (0 : Int32) else f_X3_read 50 (R_pieces r) (i23 - (1 : Int32))) = (-1 : Int32) then (0 : Int32) else (1 : Int32)))), (0, .ref (kr 0)), (3, .int (imax i25 (f_X3_read 50 (R_pores r) i23))), (4, .int (imin i24 (f_X3_read 50 (R_breaks r) i23))), (6, .int (if i23 = 0 then (0 : Int32) else f_X3_read 50 (R_pieces r) (i23 - (1 : Int32))))]) hx hb dX0_leastPiecesTo_111 hl (k := 5) rfl rfl (by decide) rfl (fun ls hl => ?_)
              refine lv_goto (tgt := 12) hx hb dX0_leastPiecesTo_114 (by decide) ?_
              exact ih12 (i23 + (-1 : Int32)) (imin i24 (f_X3_read 50 (R_breaks r) i23)) (imax i25 (f_X3_read 50 (R_pores r) i23)) ((if i23 = 0 then (0 : Int32) else f_X3_read 50 (R_pieces r) (i23 - (1 : Int32))) + (1 : Int32)) H locs ls hok ((show f_X0_leastPiecesTo_L12 r (n + 1) i23 i24 i25 i26 = _ by simp only [f_X0_leastPiecesTo_L12, if_neg c27, if_neg c39, if_pos c42]).symm.trans ht) hP hS (lv_sub hl [3, 1, 4, 5, 0] rfl)
            · have hok := hok.2 c42
              refine lv_iload hx hb dX0_leastPiecesTo_98 (lv_at hl 6 rfl) ?_
              refine lv_iconst (v := 1) hx hb dX0_leastPiecesTo_100 (by decide) ?_
              refine lv_iadd hx hb dX0_leastPiecesTo_101 ?_
              refine lv_iload_n hx hb dX0_leastPiecesTo_102 rfl (lv_at hl 2 rfl) ?_
              refine lv_icmp_ge (tgt := 111) hx hb dX0_leastPiecesTo_103 (by decide) (fun c43 => ?_) (fun c43 => ?_)
              · have hok := hok.1 c43
                refine lv_iinc (v := i23 + (-1 : Int32)) (lv' := [(5, .int (i23 + (-1 : Int32))), (7, .int (if (imin i24 (f_X3_read 50 (R_breaks r) i23)) < (imax i25 (f_X3_read 50 (R_pores r) i23)) then (0 : Int32) else (if (if i23 = 0 then (0 : Int32) else f_X3_read 50 (R_pieces r) (i23 - (1 : Int32))) = (-1 : Int32) then (0 : Int32) else (1 : Int32)))), (0, .ref (kr 0)), (2, .int i26), (3, .int (imax i25 (f_X3_read 50 (R_pores r) i23))), (4, .int (imin i24 (f_X3_read 50 (R_breaks r) i23))), (6, .int (if i23 = 0 then (0 : Int32) else f_X3_read 50 (R_pieces r) (i23 - (1 : Int32))))]) hx hb dX0_leastPiecesTo_111 hl (k := 5) rfl rfl (by decide) rfl (fun ls hl => ?_)
                refine lv_goto (tgt := 12) hx hb dX0_leastPiecesTo_114 (by decide) ?_
                exact ih12 (i23 + (-1 : Int32)) (imin i24 (f_X3_read 50 (R_breaks r) i23)) (imax i25 (f_X3_read 50 (R_pores r) i23)) i26 H locs ls hok ((show f_X0_leastPiecesTo_L12 r (n + 1) i23 i24 i25 i26 = _ by simp only [f_X0_leastPiecesTo_L12, if_neg c27, if_neg c39, if_neg c42, if_pos c43]).symm.trans ht) hP hS (lv_sub hl [2, 3, 4, 5, 0] rfl)
              · have hok := hok.2 c43
                refine lv_iload hx hb dX0_leastPiecesTo_106 (lv_at hl 6 rfl) ?_
                refine lv_iconst (v := 1) hx hb dX0_leastPiecesTo_108 (by decide) ?_
                refine lv_iadd hx hb dX0_leastPiecesTo_109 ?_
                refine lv_istore_n (lv' := [(2, .int ((if i23 = 0 then (0 : Int32) else f_X3_read 50 (R_pieces r) (i23 - (1 : Int32))) + (1 : Int32))), (7, .int (if (imin i24 (f_X3_read 50 (R_breaks r) i23)) < (imax i25 (f_X3_read 50 (R_pores r) i23)) then (0 : Int32) else (if (if i23 = 0 then (0 : Int32) else f_X3_read 50 (R_pieces r) (i23 - (1 : Int32))) = (-1 : Int32) then (0 : Int32) else (1 : Int32)))), (0, .ref (kr 0)), (3, .int (imax i25 (f_X3_read 50 (R_pores r) i23))), (4, .int (imin i24 (f_X3_read 50 (R_breaks r) i23))), (5, .int i23), (6, .int (if i23 = 0 then (0 : Int32) else f_X3_read 50 (R_pieces r) (i23 - (1 : Int32))))]) hx hb dX0_leastPiecesTo_110 rfl hl (by decide) rfl (fun ls hl => ?_)
                refine lv_iinc (v := i23 + (-1 : Int32)) (lv' := [(5, .int (i23 + (-1 : Int32))), (2, .int ((if i23 = 0 then (0 : Int32) else f_X3_read 50 (R_pieces r) (i23 - (1 : Int32))) + (1 : Int32))), (7, .int (if (imin i24 (f_X3_read 50 (R_breaks r) i23)) < (imax i25 (f_X3_read 50 (R_pores r) i23)) then (0 : Int32) else (if (if i23 = 0 then (0 : Int32) else f_X3_read 50 (R_pieces r) (i23 - (1 : Int32))) = (-1 : Int32) then (0 : Int32) else (1 : Int32)))), (0, .ref (kr 0)), (3, .int (imax i25 (f_X3_read 50 (R_pores r) i23))), (4, .int (imin i24 (f_X3_read 50 (R_breaks r) i23))), (6, .int (if i23 = 0 then (0 : Int32) else f_X3_read 50 (R_pieces r) (i23 - (1 : Int32))))]) hx hb dX0_leastPiecesTo_111 hl (k := 5) rfl rfl (by decide) rfl (fun ls hl => ?_)
                refine lv_goto (tgt := 12) hx hb dX0_leastPiecesTo_114 (by decide) ?_
                exact ih12 (i23 + (-1 : Int32)) (imin i24 (f_X3_read 50 (R_breaks r) i23)) (imax i25 (f_X3_read 50 (R_pores r) i23)) ((if i23 = 0 then (0 : Int32) else f_X3_read 50 (R_pieces r) (i23 - (1 : Int32))) + (1 : Int32)) H locs ls hok ((show f_X0_leastPiecesTo_L12 r (n + 1) i23 i24 i25 i26 = _ by simp only [f_X0_leastPiecesTo_L12, if_neg c27, if_neg c39, if_neg c42, if_neg c43]).symm.trans ht) hP hS (lv_sub hl [3, 1, 4, 5, 0] rfl)
    exact LP12 N p0 (300 : Int32) (0 : Int32) (-1 : Int32) H locs ls hokL hz12 hP hS (lv_sub hl [4, 3, 2, 1, 0] rfl)
  intro H locs ls hP hS hl
  subst hz12
  refine lv_iload_n hx hb dX0_leastPiecesTo_117 rfl (lv_at hl 1 rfl) ?_
  exact hret (f_X0_leastPiecesTo_L12 r N p0 (300 : Int32) (0 : Int32) (-1 : Int32)) _ _ _ _ dX0_leastPiecesTo_118 (ht.trans (by simp only [f_X0_leastPiecesTo])) hS

/-! X0_piecesFromAll -/
def f_X0_piecesFromAll_L2 (N : Nat) (p0 : Int32) : Nat → Int32 → RS → RS
  | 0, _, r11 => r11
  | n + 1, i10, r11 => if p0 < i10 then r11 else (f_X0_piecesFromAll_L2 N p0 n (i10 + (1 : Int32)) (R_set_pieces r11 (f_X3_write 50 (R_pieces r11) i10 (f_X0_leastPiecesTo N r11 i10))))

def ok_X0_piecesFromAll_L2 (N : Nat) (p0 : Int32) : Nat → Int32 → RS → Prop
  | 0, _, _ => False
  | n + 1, i10, r11 => (p0 < i10 → True) ∧ (¬ p0 < i10 → ((ok_X0_leastPiecesTo N r11 i10) ∧ (ok_X0_piecesFromAll_L2 N p0 n (i10 + (1 : Int32)) (R_set_pieces r11 (f_X3_write 50 (R_pieces r11) i10 (f_X0_leastPiecesTo N r11 i10))))))

def f_X0_piecesFromAll (N : Nat) (r : RS) (p0 : Int32) : Int32 × RS :=
  (f_X3_read 50 (R_pieces (f_X0_piecesFromAll_L2 N p0 N (0 : Int32) r)) p0, (f_X0_piecesFromAll_L2 N p0 N (0 : Int32) r))

def ok_X0_piecesFromAll (N : Nat) (r : RS) (p0 : Int32) : Prop :=
  (ok_X0_piecesFromAll_L2 N p0 N (0 : Int32) r) ∧ True

abbrev RM_X0_piecesFromAll : Room := { frames := 2, cells := 0, slots := 0, locals := 51 }
set_option maxRecDepth 100000 in
set_option maxHeartbeats 4000000 in
theorem c_X0_piecesFromAll (l : Launch) (D : va_G) (q : Nat → ClassId) (sz : Nat) (kr : Nat → Nat) (r : RS) (p0 : Int32) (N : Nat) (hok : ok_X0_piecesFromAll N r p0) : Met l yX0_piecesFromAll (Cond.code yX0_piecesFromAll cX0_piecesFromAll 3 (some .int) :: ALL) RM_X0_piecesFromAll (PC D q [.ref (kr 0), .int p0] (cRock kr q r) sz) (va_Qi (fun (rv : Int32) (u : RS) => f_X0_piecesFromAll N r p0 = (rv, u)) (fun u t9 => va_P D vwCl (cRock kr q u) t9.heap) (va_A (cRock kr q r) sz)) 0 0 (va_A (cRock kr q r) sz) := by
  refine en_iW (by decide +kernel) (Nat.le_of_ble_eq_true rfl) ?_
  intro p e s m args below meth c Q A H locs ls fx hD0 hA hP hS hl hret
  have hx := fx.1
  have hb := fx.2.1
  have hl : lv_has ls 3 [(0, .ref (kr 0)), (1, .int p0)] := hl
  have hD : ∀ (r9 : RS), va_D _ (cRock kr q r9) := fun _ => D_same ((fst_Rock _ _ _).trans (fst_Rock _ _ _).symm) hD0
  have ht : f_X0_piecesFromAll N r p0 = f_X0_piecesFromAll N r p0 := rfl
  simp only [ok_X0_piecesFromAll] at hok
  refine lv_iconst (v := 0) hx hb dX0_piecesFromAll_0 (by decide) ?_
  refine lv_istore_n (lv' := [(2, .int (0 : Int32)), (0, .ref (kr 0)), (1, .int p0)]) hx hb dX0_piecesFromAll_1 rfl hl (by decide) rfl (fun ls hl => ?_)
  obtain ⟨hokL, hok⟩ := hok
  obtain ⟨z2, hz2⟩ : ∃ z, f_X0_piecesFromAll_L2 N p0 N (0 : Int32) r = z := ⟨_, rfl⟩
  suffices KJ2 : ∀ (H : Heap) (locs : List Loc) (ls : Array Slot), va_P D vwCl (cRock kr q z2) H → va_S A s.heap H locs → lv_has ls 3 [(0, .ref (kr 0)), (1, .int p0)] → W p l e RM_X0_piecesFromAll s m args below meth c H locs 0 0 Q (F0 m 26 ls []) by
    have LP2 : ∀ (n : Nat) (i10 : Int32) (r11 : RS) (H : Heap) (locs : List Loc) (ls : Array Slot), ok_X0_piecesFromAll_L2 N p0 n i10 r11 → f_X0_piecesFromAll_L2 N p0 n i10 r11 = z2 → va_P D vwCl (cRock kr q r11) H → va_S A s.heap H locs → lv_has ls 3 [(0, .ref (kr 0)), (1, .int p0), (2, .int i10)] → W p l e RM_X0_piecesFromAll s m args below meth c H locs 0 0 Q (F0 m 2 ls []) := by
      intro n
      induction n with
      | zero =>
        intro i10 r11 H locs ls hok
        exact (hok : False).elim
      | succ n ih2 =>
        intro i10 r11 H locs ls hok ht hP hS hl
        simp only [ok_X0_piecesFromAll_L2] at hok
        refine lv_iload_n hx hb dX0_piecesFromAll_2 rfl (lv_at hl 2 rfl) ?_
        refine lv_iload_n hx hb dX0_piecesFromAll_3 rfl (lv_at hl 1 rfl) ?_
        refine lv_icmp_gt (tgt := 26) hx hb dX0_piecesFromAll_4 (by decide) (fun c12 => ?_) (fun c12 => ?_)
        · have hok := hok.1 c12
          have hv9 := ht.symm.trans (show _ = r11 by simp only [f_X0_piecesFromAll_L2, if_pos c12])
          subst hv9
          exact KJ2 H locs ls hP hS (lv_sub hl [0, 1] rfl)
        · have hok := hok.2 c12
          refine lv_aload_n hx hb dX0_piecesFromAll_7 rfl (lv_at hl 0 rfl) ?_
          refine gf_X0_24 fx hP 0 rfl dX0_piecesFromAll_8 ?_
          refine lv_iload_n hx hb dX0_piecesFromAll_11 rfl (lv_at hl 2 rfl) ?_
          refine lv_aload_n hx hb dX0_piecesFromAll_12 rfl (lv_at hl 0 rfl) ?_
          refine lv_iload_n hx hb dX0_piecesFromAll_13 rfl (lv_at hl 2 rfl) ?_
          obtain ⟨hk13, hok⟩ := hok
          refine kR_i (runV fx (As := [.int i10]) (rest := [.int i10, .ref (kr 5)]) (c_X0_leastPiecesTo l D q H.size kr r11 i10 N hk13) lk_X0_54 ⟨Nat.le_of_ble_eq_true rfl, Nat.le_of_ble_eq_true rfl⟩ ⟨rfl, rfl⟩ hP (hD _) [0, 1, 2, 3, 4, 5] rfl rfl (ci := 0) rfl rfl rfl hl.1 rfl (Nat.le_of_ble_eq_true rfl) dX0_piecesFromAll_14 ⟨Nat.zero_le _, Nat.zero_le _⟩) hP hS (fun r14 _ H locs hr15 hP hS => ?_)
          subst hr15
          refine kW_v (runSN fx (As := [.ref (kr 5), .int i10, .int (f_X0_leastPiecesTo N r11 i10)]) (rest := []) (c_X3_write l D q H.size (kr 5) 50 (Nat.le_of_ble_eq_true rfl) (R_pieces r11) i10 (f_X0_leastPiecesTo N r11 i10)) lk_X0_33 ⟨Nat.le_of_ble_eq_true rfl, Nat.le_of_ble_eq_true rfl⟩ ⟨rfl, rfl⟩ hP (hD _) [5] rfl rfl rfl hl.1 rfl (Nat.le_of_ble_eq_true rfl) dX0_piecesFromAll_17 ⟨Nat.zero_le _, Nat.zero_le _⟩) hP (hD _) hS hA [5] rfl (fun _ => rfl) (fun u16 H locs hw17 hP hS => ?_)
          have hP : va_P D vwCl (cRock kr q (R_set_pieces r11 u16)) H := hP
          try simp only [hw17] at hok
          refine lv_iinc (v := i10 + (1 : Int32)) (lv' := [(2, .int (i10 + (1 : Int32))), (0, .ref (kr 0)), (1, .int p0)]) hx hb dX0_piecesFromAll_20 hl (k := 2) rfl rfl (by decide) rfl (fun ls hl => ?_)
          refine lv_goto (tgt := 2) hx hb dX0_piecesFromAll_23 (by decide) ?_
          exact ih2 (i10 + (1 : Int32)) (R_set_pieces r11 u16) H locs ls hok ((show f_X0_piecesFromAll_L2 N p0 (n + 1) i10 r11 = _ by simp only [f_X0_piecesFromAll_L2, if_neg c12, hw17]).symm.trans ht) hP hS (lv_sub hl [1, 2, 0] rfl)
    exact LP2 N (0 : Int32) r H locs ls hokL hz2 hP hS (lv_sub hl [1, 2, 0] rfl)
  intro H locs ls hP hS hl
  subst hz2
  refine lv_aload_n hx hb dX0_piecesFromAll_26 rfl (lv_at hl 0 rfl) ?_
  refine gf_X0_24 fx hP 0 rfl dX0_piecesFromAll_27 ?_
  refine lv_iload_n hx hb dX0_piecesFromAll_30 rfl (lv_at hl 1 rfl) ?_
  refine kR_i (runSN fx (As := [.ref (kr 5), .int p0]) (rest := []) (c_X3_read l D q H.size (kr 5) 50 (Nat.le_of_ble_eq_true rfl) (R_pieces (f_X0_piecesFromAll_L2 N p0 N (0 : Int32) r)) p0) lk_X0_41 ⟨Nat.le_of_ble_eq_true rfl, Nat.le_of_ble_eq_true rfl⟩ ⟨rfl, rfl⟩ hP (hD _) [5] rfl rfl rfl hl.1 rfl (Nat.le_of_ble_eq_true rfl) dX0_piecesFromAll_31 ⟨Nat.zero_le _, Nat.zero_le _⟩) hP hS (fun r18 _ H locs hr19 hP hS => ?_)
  subst hr19
  exact hret (f_X3_read 50 (R_pieces (f_X0_piecesFromAll_L2 N p0 N (0 : Int32) r)) p0) (f_X0_piecesFromAll_L2 N p0 N (0 : Int32) r) _ _ _ _ dX0_piecesFromAll_34 (ht.trans (by simp only [f_X0_piecesFromAll])) hP hS
end
section
/-! X1_keep -/
def f_X1_keep_b80 (t13 : TS) : TS :=
  T_set_count t13 ((T_count t13) + (1 : Int32))

def f_X1_keep (t : TS) (p0 : Int32) (p1 : Int32) (p2 : Int32) (p3 : Int32) : TS :=
  if p0 = 0 then (f_X1_keep_b80 (T_set_latestOfValve (T_set_minutes (T_set_passes (T_set_pressures (T_set_whats t (f_X3_write 60 (T_whats t) (T_count t) p0)) (f_X3_write 60 (T_pressures t) (T_count t) p1)) (f_X3_write 60 (T_passes t) (T_count t) (if p2 = 0 then (0 : Int32) else (1 : Int32)))) (f_X3_write 60 (T_minutes t) (T_count t) p3)) (T_count t))) else (f_X1_keep_b80 (T_set_latestOfCement (T_set_minutes (T_set_passes (T_set_pressures (T_set_whats t (f_X3_write 60 (T_whats t) (T_count t) p0)) (f_X3_write 60 (T_pressures t) (T_count t) p1)) (f_X3_write 60 (T_passes t) (T_count t) (if p2 = 0 then (0 : Int32) else (1 : Int32)))) (f_X3_write 60 (T_minutes t) (T_count t) p3)) (T_count t)))

abbrev RM_X1_keep : Room := { frames := 1, cells := 0, slots := 0, locals := 22 }
set_option maxRecDepth 100000 in
set_option maxHeartbeats 4000000 in
theorem c_X1_keep (l : Launch) (D : va_G) (q : Nat → ClassId) (sz : Nat) (kt : Nat → Nat) (t : TS) (p0 : Int32) (p1 : Int32) (p2 : Int32) (p3 : Int32) : Met l yX1_keep (Cond.code yX1_keep cX1_keep 5 none :: ALL) RM_X1_keep (PC D q [.ref (kt 0), .int p0, .int p1, .int p2, .int p3] (cTests kt q t) sz) (va_Qv (fun (u : TS) => f_X1_keep t p0 p1 p2 p3 = u) (fun u t9 => va_P D vwCl (cTests kt q u) t9.heap) (va_A (cTests kt q t) sz)) 0 0 (va_A (cTests kt q t) sz) := by
  refine en_vW (by decide +kernel) (Nat.le_of_ble_eq_true rfl) ?_
  intro p e s m args below meth c Q A H locs ls fx hD0 hA hP hS hl hret
  have hx := fx.1
  have hb := fx.2.1
  have hl : lv_has ls 5 [(0, .ref (kt 0)), (1, .int p0), (2, .int p1), (3, .int p2), (4, .int p3)] := hl
  have hD : ∀ (t9 : TS), va_D _ (cTests kt q t9) := fun _ => D_same ((fst_Tests _ _ _).trans (fst_Tests _ _ _).symm) hD0
  have ht : f_X1_keep t p0 p1 p2 p3 = f_X1_keep t p0 p1 p2 p3 := rfl
  refine lv_aload_n hx hb dX1_keep_0 rfl (lv_at hl 0 rfl) ?_
  refine gf_X1_9 fx hP 0 rfl dX1_keep_1 ?_
  refine lv_aload_n hx hb dX1_keep_4 rfl (lv_at hl 0 rfl) ?_
  refine gf_X1_31 fx hP 0 rfl (v := T_count t) rfl dX1_keep_5 ?_
  refine lv_iload_n hx hb dX1_keep_8 rfl (lv_at hl 1 rfl) ?_
  refine kW_v (runSN fx (As := [.ref (kt 1), .int (T_count t), .int p0]) (rest := []) (c_X3_write l D q H.size (kt 1) 60 (Nat.le_of_ble_eq_true rfl) (T_whats t) (T_count t) p0) lk_X1_34 ⟨Nat.le_of_ble_eq_true rfl, Nat.le_of_ble_eq_true rfl⟩ ⟨rfl, rfl⟩ hP (hD _) [1] rfl rfl rfl hl.1 rfl (Nat.le_of_ble_eq_true rfl) dX1_keep_9 ⟨Nat.zero_le _, Nat.zero_le _⟩) hP (hD _) hS hA [1] rfl (fun _ => rfl) (fun u1 H locs hw2 hP hS => ?_)
  have hP : va_P D vwCl (cTests kt q (T_set_whats t u1)) H := hP
  refine lv_aload_n hx hb dX1_keep_12 rfl (lv_at hl 0 rfl) ?_
  refine gf_X1_15 fx hP 0 rfl dX1_keep_13 ?_
  refine lv_aload_n hx hb dX1_keep_16 rfl (lv_at hl 0 rfl) ?_
  refine gf_X1_31 fx hP 0 rfl (v := T_count t) (T_count_set_whats _ _) dX1_keep_17 ?_
  refine lv_iload_n hx hb dX1_keep_20 rfl (lv_at hl 2 rfl) ?_
  refine kW_v (runSN fx (As := [.ref (kt 2), .int (T_count t), .int p1]) (rest := []) (c_X3_write l D q H.size (kt 2) 60 (Nat.le_of_ble_eq_true rfl) (T_pressures t) (T_count t) p1) lk_X1_34 ⟨Nat.le_of_ble_eq_true rfl, Nat.le_of_ble_eq_true rfl⟩ ⟨rfl, rfl⟩ hP (hD _) [2] rfl rfl rfl hl.1 rfl (Nat.le_of_ble_eq_true rfl) dX1_keep_21 ⟨Nat.zero_le _, Nat.zero_le _⟩) hP (hD _) hS hA [2] rfl (fun _ => rfl) (fun u3 H locs hw4 hP hS => ?_)
  have hP : va_P D vwCl (cTests kt q (T_set_pressures (T_set_whats t u1) u3)) H := hP
  refine lv_aload_n hx hb dX1_keep_24 rfl (lv_at hl 0 rfl) ?_
  refine gf_X1_18 fx hP 0 rfl dX1_keep_25 ?_
  refine lv_aload_n hx hb dX1_keep_28 rfl (lv_at hl 0 rfl) ?_
  refine gf_X1_31 fx hP 0 rfl (v := T_count t) ((T_count_set_pressures _ _).trans (T_count_set_whats _ _)) dX1_keep_29 ?_
  refine lv_iload_n hx hb dX1_keep_32 rfl (lv_at hl 3 rfl) ?_
  suffices K : ∀ (v6 : Int32), ∀ (H : Heap) (locs : List Loc) (ls : Array Slot), v6 = (if p2 = 0 then (0 : Int32) else (1 : Int32)) → va_P D vwCl (cTests kt q (T_set_pressures (T_set_whats t u1) u3)) H → va_S A s.heap H locs → lv_has ls 5 [(0, .ref (kt 0)), (1, .int p0), (4, .int p3)] → W p l e RM_X1_keep s m args below meth c H locs 0 0 Q (F0 m 41 ls [.int v6, .int (T_count t), .ref (kt 3)]) by
    refine lv_if_eq (tgt := 40) hx hb dX1_keep_33 (by decide) (fun c5 => ?_) (fun c5 => ?_)
    · refine lv_iconst (v := 0) hx hb dX1_keep_40 (by decide) ?_
      exact K (0 : Int32) H locs ls (by simp only [if_pos c5, hw2, hw4]) hP hS (lv_sub hl [0, 1, 4] rfl)
    · refine lv_iconst (v := 1) hx hb dX1_keep_36 (by decide) ?_
      refine lv_goto (tgt := 41) hx hb dX1_keep_37 (by decide) ?_
      exact K (1 : Int32) H locs ls (by simp only [if_neg c5, hw2, hw4]) hP hS (lv_sub hl [0, 1, 4] rfl)
  intro v6 H locs ls hvv6 hP hS hl
  subst hvv6
  refine kW_v (runSN fx (As := [.ref (kt 3), .int (T_count t), .int (if p2 = 0 then (0 : Int32) else (1 : Int32))]) (rest := []) (c_X3_write l D q H.size (kt 3) 60 (Nat.le_of_ble_eq_true rfl) (T_passes t) (T_count t) (if p2 = 0 then (0 : Int32) else (1 : Int32))) lk_X1_34 ⟨Nat.le_of_ble_eq_true rfl, Nat.le_of_ble_eq_true rfl⟩ ⟨rfl, rfl⟩ hP (hD _) [3] rfl rfl rfl hl.1 rfl (Nat.le_of_ble_eq_true rfl) dX1_keep_41 ⟨Nat.zero_le _, Nat.zero_le _⟩) hP (hD _) hS hA [3] rfl (fun _ => rfl) (fun u7 H locs hw8 hP hS => ?_)
  have hP : va_P D vwCl (cTests kt q (T_set_passes (T_set_pressures (T_set_whats t u1) u3) u7)) H := hP
  refine lv_aload_n hx hb dX1_keep_44 rfl (lv_at hl 0 rfl) ?_
  refine gf_X1_21 fx hP 0 rfl dX1_keep_45 ?_
  refine lv_aload_n hx hb dX1_keep_48 rfl (lv_at hl 0 rfl) ?_
  refine gf_X1_31 fx hP 0 rfl (v := T_count t) ((T_count_set_passes _ _).trans ((T_count_set_pressures _ _).trans (T_count_set_whats _ _))) dX1_keep_49 ?_
  refine lv_iload hx hb dX1_keep_52 (lv_at hl 2 rfl) ?_
  refine kW_v (runSN fx (As := [.ref (kt 4), .int (T_count t), .int p3]) (rest := []) (c_X3_write l D q H.size (kt 4) 60 (Nat.le_of_ble_eq_true rfl) (T_minutes t) (T_count t) p3) lk_X1_34 ⟨Nat.le_of_ble_eq_true rfl, Nat.le_of_ble_eq_true rfl⟩ ⟨rfl, rfl⟩ hP (hD _) [4] rfl rfl rfl hl.1 rfl (Nat.le_of_ble_eq_true rfl) dX1_keep_54 ⟨Nat.zero_le _, Nat.zero_le _⟩) hP (hD _) hS hA [4] rfl (fun _ => rfl) (fun u9 H locs hw10 hP hS => ?_)
  have hP : va_P D vwCl (cTests kt q (T_set_minutes (T_set_passes (T_set_pressures (T_set_whats t u1) u3) u7) u9)) H := hP
  refine lv_iload_n hx hb dX1_keep_57 rfl (lv_at hl 1 rfl) ?_
  have K80 : ∀ (t13 : TS) (H : Heap) (locs : List Loc) (ls : Array Slot), f_X1_keep t p0 p1 p2 p3 = f_X1_keep_b80 t13 → va_P D vwCl (cTests kt q t13) H → va_S A s.heap H locs → lv_has ls 5 [(0, .ref (kt 0))] → W p l e RM_X1_keep s m args below meth c H locs 0 0 Q (F0 m 80 ls []) := by
    intro t13 H locs ls ht hP hS hl
    refine lv_aload_n hx hb dX1_keep_80 rfl (lv_at hl 0 rfl) ?_
    refine lv_dup hx hb dX1_keep_81 rfl ?_
    refine gf_X1_31 fx hP 0 rfl (v := T_count t13) rfl dX1_keep_82 ?_
    refine lv_iconst (v := 1) hx hb dX1_keep_85 (by decide) ?_
    refine lv_iadd hx hb dX1_keep_86 ?_
    refine pf_X1_31 fx hP (hD _) hS 0 rfl dX1_keep_87 (fun H locs hP hS => ?_)
    have hP : va_P D vwCl (cTests kt q (T_set_count t13 ((T_count t13) + (1 : Int32)))) H := hP
    exact hret (T_set_count t13 ((T_count t13) + (1 : Int32))) _ _ _ _ dX1_keep_90 (ht.trans (by simp only [f_X1_keep_b80, hw2, hw4, hw8, hw10])) hP hS
  refine lv_if_ne (tgt := 72) hx hb dX1_keep_58 (by decide) (fun c12 => ?_) (fun c12 => ?_)
  · refine lv_aload_n hx hb dX1_keep_72 rfl (lv_at hl 0 rfl) ?_
    refine lv_aload_n hx hb dX1_keep_73 rfl (lv_at hl 0 rfl) ?_
    refine gf_X1_31 fx hP 0 rfl (v := T_count t) ((T_count_set_minutes _ _).trans ((T_count_set_passes _ _).trans ((T_count_set_pressures _ _).trans (T_count_set_whats _ _)))) dX1_keep_74 ?_
    refine pf_X1_28 fx hP (hD _) hS 0 rfl dX1_keep_77 (fun H locs hP hS => ?_)
    have hP : va_P D vwCl (cTests kt q (T_set_latestOfCement (T_set_minutes (T_set_passes (T_set_pressures (T_set_whats t u1) u3) u7) u9) (T_count t))) H := hP
    exact K80 (T_set_latestOfCement (T_set_minutes (T_set_passes (T_set_pressures (T_set_whats t u1) u3) u7) u9) (T_count t)) H locs ls (ht.trans (by first | (simp only [f_X1_keep, if_neg c12, hw2, hw4, hw8, hw10]; done) | (simp only [f_X1_keep, hw2, hw4, hw8, hw10]; simp only [if_neg c12]))) hP hS (lv_sub hl [0] rfl)
  · refine lv_aload_n hx hb dX1_keep_61 rfl (lv_at hl 0 rfl) ?_
    refine lv_aload_n hx hb dX1_keep_62 rfl (lv_at hl 0 rfl) ?_
    refine gf_X1_31 fx hP 0 rfl (v := T_count t) ((T_count_set_minutes _ _).trans ((T_count_set_passes _ _).trans ((T_count_set_pressures _ _).trans (T_count_set_whats _ _)))) dX1_keep_63 ?_
    refine pf_X1_24 fx hP (hD _) hS 0 rfl dX1_keep_66 (fun H locs hP hS => ?_)
    have hP : va_P D vwCl (cTests kt q (T_set_latestOfValve (T_set_minutes (T_set_passes (T_set_pressures (T_set_whats t u1) u3) u7) u9) (T_count t))) H := hP
    refine lv_goto (tgt := 80) hx hb dX1_keep_69 (by decide) ?_
    exact K80 (T_set_latestOfValve (T_set_minutes (T_set_passes (T_set_pressures (T_set_whats t u1) u3) u7) u9) (T_count t)) H locs ls (ht.trans (by first | (simp only [f_X1_keep, if_pos c12, hw2, hw4, hw8, hw10]; done) | (simp only [f_X1_keep, hw2, hw4, hw8, hw10]; simp only [if_pos c12]))) hP hS (lv_sub hl [0] rfl)

/-! X1_isPassed -/
def f_X1_isPassed (t : TS) (p0 : Int32) : Int32 :=
  if p0 = (-1 : Int32) then (0 : Int32) else (if (f_X3_read 60 (T_passes t) p0) = (1 : Int32) then (1 : Int32) else (0 : Int32))

abbrev RM_X1_isPassed : Room := { frames := 1, cells := 0, slots := 0, locals := 21 }
set_option maxRecDepth 100000 in
set_option maxHeartbeats 4000000 in
theorem c_X1_isPassed (l : Launch) (D : va_G) (q : Nat → ClassId) (sz : Nat) (kt : Nat → Nat) (t : TS) (p0 : Int32) : Met l yX1_isPassed (Cond.code yX1_isPassed cX1_isPassed 2 (some .boolean) :: ALL) RM_X1_isPassed (PC D q [.ref (kt 0), .int p0] (cTests kt q t) sz) (va_Qi (fun (rv : Int32) (_ : Unit) => f_X1_isPassed t p0 = rv ∧ bz rv) (fun _ _ => True) (fun _ => False)) 0 0 (fun _ => False) := by
  refine en_zR (by decide +kernel) (Nat.le_of_ble_eq_true rfl) ?_
  intro p e s m args below meth c Q A H locs ls fx hD0 hP hS hl hret
  have hx := fx.1
  have hb := fx.2.1
  have hl : lv_has ls 2 [(0, .ref (kt 0)), (1, .int p0)] := hl
  have hD : ∀ (t9 : TS), va_D _ (cTests kt q t9) := fun _ => D_same ((fst_Tests _ _ _).trans (fst_Tests _ _ _).symm) hD0
  have ht : f_X1_isPassed t p0 = f_X1_isPassed t p0 := rfl
  refine lv_iload_n hx hb dX1_isPassed_0 rfl (lv_at hl 1 rfl) ?_
  refine lv_iconst (v := -1) hx hb dX1_isPassed_1 (by decide) ?_
  refine lv_icmp_eq (tgt := 21) hx hb dX1_isPassed_2 (by decide) (fun c1 => ?_) (fun c1 => ?_)
  · refine lv_iconst (v := 0) hx hb dX1_isPassed_21 (by decide) ?_
    exact hret (0 : Int32) _ _ _ _ dX1_isPassed_22 bz0 (ht.trans (by simp only [f_X1_isPassed, if_pos c1])) hS
  · refine lv_aload_n hx hb dX1_isPassed_5 rfl (lv_at hl 0 rfl) ?_
    refine gf_X1_18 fx hP 0 rfl dX1_isPassed_6 ?_
    refine lv_iload_n hx hb dX1_isPassed_9 rfl (lv_at hl 1 rfl) ?_
    refine kR_i (runSN fx (As := [.ref (kt 3), .int p0]) (rest := []) (c_X3_read l D q H.size (kt 3) 60 (Nat.le_of_ble_eq_true rfl) (T_passes t) p0) lk_X1_38 ⟨Nat.le_of_ble_eq_true rfl, Nat.le_of_ble_eq_true rfl⟩ ⟨rfl, rfl⟩ hP (hD _) [3] rfl rfl rfl hl.1 rfl (Nat.le_of_ble_eq_true rfl) dX1_isPassed_10 ⟨Nat.zero_le _, Nat.zero_le _⟩) hP hS (fun r2 _ H locs hr3 hP hS => ?_)
    subst hr3
    refine lv_iconst (v := 1) hx hb dX1_isPassed_13 (by decide) ?_
    refine lv_icmp_ne (tgt := 21) hx hb dX1_isPassed_14 (by decide) (fun c4 => ?_) (fun c4 => ?_)
    · refine lv_iconst (v := 0) hx hb dX1_isPassed_21 (by decide) ?_
      exact hret (0 : Int32) _ _ _ _ dX1_isPassed_22 bz0 (ht.trans (by simp only [f_X1_isPassed, if_neg c1, if_neg c4])) hS
    · refine lv_iconst (v := 1) hx hb dX1_isPassed_17 (by decide) ?_
      refine lv_goto (tgt := 22) hx hb dX1_isPassed_18 (by decide) ?_
      exact hret (1 : Int32) _ _ _ _ dX1_isPassed_22 bz1 (ht.trans (by simp only [f_X1_isPassed, if_neg c1, if_pos c4])) hS

/-! X2_hasGas -/
def f_X2_hasGas (w : WS) : Int32 :=
  if (lg_cmp (W_charge w) (0 : Int64)) ≤ 0 then (0 : Int32) else (1 : Int32)

abbrev RM_X2_hasGas : Room := { frames := 0, cells := 0, slots := 0, locals := 0 }
set_option maxRecDepth 100000 in
set_option maxHeartbeats 4000000 in
theorem c_X2_hasGas (l : Launch) (D : va_G) (q : Nat → ClassId) (sz : Nat) (h : Nat) (kr : Nat → Nat) (w : WS) (r : RS) : Met l yX2_hasGas (Cond.code yX2_hasGas cX2_hasGas 1 (some .boolean) :: ALL) RM_X2_hasGas (PC D q [.ref h] (cWell h kr q w r) sz) (va_Qi (fun (rv : Int32) (_ : Unit) => f_X2_hasGas w = rv ∧ bz rv) (fun _ _ => True) (fun _ => False)) 0 0 (fun _ => False) := by
  refine en_zR (by decide +kernel) (Nat.le_of_ble_eq_true rfl) ?_
  intro p e s m args below meth c Q A H locs ls fx hD0 hP hS hl hret
  have hx := fx.1
  have hb := fx.2.1
  have hl : lv_has ls 1 [(0, .ref h)] := hl
  have hD : ∀ (w9 : WS) (r9 : RS), va_D _ (cWell h kr q w9 r9) := fun _ _ => D_same ((fst_Well _ _ _ _ _).trans (fst_Well _ _ _ _ _).symm) hD0
  have ht : f_X2_hasGas w = f_X2_hasGas w := rfl
  refine lv_aload_n hx hb dX2_hasGas_0 rfl (lv_at hl 0 rfl) ?_
  refine gf_X2_36 fx hP 0 rfl (v := W_charge w) rfl dX2_hasGas_1 ?_
  refine lv_lconst (v := 0) hx hb dX2_hasGas_4 (by decide) ?_
  refine W.lcmp hx hb dX2_hasGas_5 ?_
  refine lv_if_le (tgt := 13) hx hb dX2_hasGas_6 (by decide) (fun c1 => ?_) (fun c1 => ?_)
  · refine lv_iconst (v := 0) hx hb dX2_hasGas_13 (by decide) ?_
    exact hret (0 : Int32) _ _ _ _ dX2_hasGas_14 bz0 (ht.trans (by simp only [f_X2_hasGas, if_pos c1])) hS
  · refine lv_iconst (v := 1) hx hb dX2_hasGas_9 (by decide) ?_
    refine lv_goto (tgt := 14) hx hb dX2_hasGas_10 (by decide) ?_
    exact hret (1 : Int32) _ _ _ _ dX2_hasGas_14 bz1 (ht.trans (by simp only [f_X2_hasGas, if_neg c1])) hS

/-! X2_hasInflow -/
def f_X2_hasInflow (w : WS) : Int32 :=
  if (f_X2_hasGas w) = 0 then (if (W_liquid w) ≤ 0 then (0 : Int32) else (1 : Int32)) else (1 : Int32)

abbrev RM_X2_hasInflow : Room := { frames := 1, cells := 0, slots := 0, locals := 20 }
set_option maxRecDepth 100000 in
set_option maxHeartbeats 4000000 in
theorem c_X2_hasInflow (l : Launch) (D : va_G) (q : Nat → ClassId) (sz : Nat) (h : Nat) (kr : Nat → Nat) (w : WS) (r : RS) : Met l yX2_hasInflow (Cond.code yX2_hasInflow cX2_hasInflow 1 (some .boolean) :: ALL) RM_X2_hasInflow (PC D q [.ref h] (cWell h kr q w r) sz) (va_Qi (fun (rv : Int32) (_ : Unit) => f_X2_hasInflow w = rv ∧ bz rv) (fun _ _ => True) (fun _ => False)) 0 0 (fun _ => False) := by
  refine en_zR (by decide +kernel) (Nat.le_of_ble_eq_true rfl) ?_
  intro p e s m args below meth c Q A H locs ls fx hD0 hP hS hl hret
  have hx := fx.1
  have hb := fx.2.1
  have hl : lv_has ls 1 [(0, .ref h)] := hl
  have hD : ∀ (w9 : WS) (r9 : RS), va_D _ (cWell h kr q w9 r9) := fun _ _ => D_same ((fst_Well _ _ _ _ _).trans (fst_Well _ _ _ _ _).symm) hD0
  have ht : f_X2_hasInflow w = f_X2_hasInflow w := rfl
  refine lv_aload_n hx hb dX2_hasInflow_0 rfl (lv_at hl 0 rfl) ?_
  refine kR_i (runV fx (As := []) (rest := []) (c_X2_hasGas l D q H.size h kr w r) lk_X2_58 ⟨Nat.le_of_ble_eq_true rfl, Nat.le_of_ble_eq_true rfl⟩ ⟨rfl, rfl⟩ hP (hD _ _) [0, 1, 2, 3, 4, 5, 6] rfl rfl (ci := 2) rfl rfl rfl hl.1 rfl (Nat.le_of_ble_eq_true rfl) dX2_hasInflow_1 ⟨Nat.zero_le _, Nat.zero_le _⟩) hP hS (fun r1 _ H locs hr2 hP hS => ?_)
  obtain ⟨rfl, hz3⟩ := hr2
  refine lv_if_ne (tgt := 14) hx hb dX2_hasInflow_4 (by decide) (fun c4 => ?_) (fun c4 => ?_)
  · refine lv_iconst (v := 1) hx hb dX2_hasInflow_14 (by decide) ?_
    refine lv_goto (tgt := 19) hx hb dX2_hasInflow_15 (by decide) ?_
    exact hret (1 : Int32) _ _ _ _ dX2_hasInflow_19 bz1 (ht.trans (by simp only [f_X2_hasInflow, if_neg c4])) hS
  · refine lv_aload_n hx hb dX2_hasInflow_7 rfl (lv_at hl 0 rfl) ?_
    refine gf_X2_46 fx hP 0 rfl (v := W_liquid w) rfl dX2_hasInflow_8 ?_
    refine lv_if_le (tgt := 18) hx hb dX2_hasInflow_11 (by decide) (fun c5 => ?_) (fun c5 => ?_)
    · refine lv_iconst (v := 0) hx hb dX2_hasInflow_18 (by decide) ?_
      exact hret (0 : Int32) _ _ _ _ dX2_hasInflow_19 bz0 (ht.trans (by simp only [f_X2_hasInflow, if_pos c4, if_pos c5])) hS
    · refine lv_iconst (v := 1) hx hb dX2_hasInflow_14 (by decide) ?_
      refine lv_goto (tgt := 19) hx hb dX2_hasInflow_15 (by decide) ?_
      exact hret (1 : Int32) _ _ _ _ dX2_hasInflow_19 bz1 (ht.trans (by simp only [f_X2_hasInflow, if_pos c4, if_neg c5])) hS

/-! X2_column -/
def f_X2_column (w : WS) : Int32 :=
  (((W_weight w) * (imax (0 : Int32) (((W_depth w) - (W_gas w)) - (W_liquid w)))) + ((100 : Int32) * (W_liquid w))) / (10 : Int32)

abbrev RM_X2_column : Room := { frames := 1, cells := 0, slots := 0, locals := 24 }
set_option maxRecDepth 100000 in
set_option maxHeartbeats 4000000 in
theorem c_X2_column (l : Launch) (D : va_G) (q : Nat → ClassId) (sz : Nat) (h : Nat) (kr : Nat → Nat) (w : WS) (r : RS) : Met l yX2_column (Cond.code yX2_column cX2_column 1 (some .int) :: ALL) RM_X2_column (PC D q [.ref h] (cWell h kr q w r) sz) (va_Qi (fun (rv : Int32) (_ : Unit) => f_X2_column w = rv) (fun _ _ => True) (fun _ => False)) 0 0 (fun _ => False) := by
  refine en_iR (by decide +kernel) (Nat.le_of_ble_eq_true rfl) ?_
  intro p e s m args below meth c Q A H locs ls fx hD0 hP hS hl hret
  have hx := fx.1
  have hb := fx.2.1
  have hl : lv_has ls 1 [(0, .ref h)] := hl
  have hD : ∀ (w9 : WS) (r9 : RS), va_D _ (cWell h kr q w9 r9) := fun _ _ => D_same ((fst_Well _ _ _ _ _).trans (fst_Well _ _ _ _ _).symm) hD0
  have ht : f_X2_column w = f_X2_column w := rfl
  refine lv_aload_n hx hb dX2_column_0 rfl (lv_at hl 0 rfl) ?_
  refine gf_X2_13 fx hP 0 rfl (v := W_weight w) rfl dX2_column_1 ?_
  refine lv_iconst (v := 0) hx hb dX2_column_4 (by decide) ?_
  refine lv_aload_n hx hb dX2_column_5 rfl (lv_at hl 0 rfl) ?_
  refine gf_X2_20 fx hP 0 rfl (v := W_depth w) rfl dX2_column_6 ?_
  refine lv_aload_n hx hb dX2_column_9 rfl (lv_at hl 0 rfl) ?_
  refine gf_X2_43 fx hP 0 rfl (v := W_gas w) rfl dX2_column_10 ?_
  refine lv_isub hx hb dX2_column_13 ?_
  refine lv_aload_n hx hb dX2_column_14 rfl (lv_at hl 0 rfl) ?_
  refine gf_X2_46 fx hP 0 rfl (v := W_liquid w) rfl dX2_column_15 ?_
  refine lv_isub hx hb dX2_column_18 ?_
  refine kimax fx mm_37 hl.1 (Nat.le_of_ble_eq_true rfl) (Nat.le_of_ble_eq_true rfl) (Nat.zero_le _) (Nat.zero_le _) dX2_column_19 ?_
  refine lv_imul hx hb dX2_column_22 ?_
  refine lv_bipush (v := 100) hx hb dX2_column_23 (by decide) ?_
  refine lv_aload_n hx hb dX2_column_25 rfl (lv_at hl 0 rfl) ?_
  refine gf_X2_46 fx hP 0 rfl (v := W_liquid w) rfl dX2_column_26 ?_
  refine lv_imul hx hb dX2_column_29 ?_
  refine lv_iadd hx hb dX2_column_30 ?_
  refine lv_bipush (v := 10) hx hb dX2_column_31 (by decide) ?_
  refine lv_idiv hx hb dX2_column_33 (by decide) ?_
  exact hret ((((W_weight w) * (imax (0 : Int32) (((W_depth w) - (W_gas w)) - (W_liquid w)))) + ((100 : Int32) * (W_liquid w))) / (10 : Int32)) _ _ _ _ dX2_column_34 (ht.trans (by simp only [f_X2_column])) hS

/-! X2_bottom -/
def f_X2_bottom (w : WS) : Int32 :=
  (f_X2_column w) + (W_choke w)

abbrev RM_X2_bottom : Room := { frames := 2, cells := 0, slots := 0, locals := 44 }
set_option maxRecDepth 100000 in
set_option maxHeartbeats 4000000 in
theorem c_X2_bottom (l : Launch) (D : va_G) (q : Nat → ClassId) (sz : Nat) (h : Nat) (kr : Nat → Nat) (w : WS) (r : RS) : Met l yX2_bottom (Cond.code yX2_bottom cX2_bottom 1 (some .int) :: ALL) RM_X2_bottom (PC D q [.ref h] (cWell h kr q w r) sz) (va_Qi (fun (rv : Int32) (_ : Unit) => f_X2_bottom w = rv) (fun _ _ => True) (fun _ => False)) 0 0 (fun _ => False) := by
  refine en_iR (by decide +kernel) (Nat.le_of_ble_eq_true rfl) ?_
  intro p e s m args below meth c Q A H locs ls fx hD0 hP hS hl hret
  have hx := fx.1
  have hb := fx.2.1
  have hl : lv_has ls 1 [(0, .ref h)] := hl
  have hD : ∀ (w9 : WS) (r9 : RS), va_D _ (cWell h kr q w9 r9) := fun _ _ => D_same ((fst_Well _ _ _ _ _).trans (fst_Well _ _ _ _ _).symm) hD0
  have ht : f_X2_bottom w = f_X2_bottom w := rfl
  refine lv_aload_n hx hb dX2_bottom_0 rfl (lv_at hl 0 rfl) ?_
  refine kR_i (runV fx (As := []) (rest := []) (c_X2_column l D q H.size h kr w r) lk_X2_68 ⟨Nat.le_of_ble_eq_true rfl, Nat.le_of_ble_eq_true rfl⟩ ⟨rfl, rfl⟩ hP (hD _ _) [0, 1, 2, 3, 4, 5, 6] rfl rfl (ci := 2) rfl rfl rfl hl.1 rfl (Nat.le_of_ble_eq_true rfl) dX2_bottom_1 ⟨Nat.zero_le _, Nat.zero_le _⟩) hP hS (fun r1 _ H locs hr2 hP hS => ?_)
  subst hr2
  refine lv_aload_n hx hb dX2_bottom_4 rfl (lv_at hl 0 rfl) ?_
  refine gf_X2_30 fx hP 0 rfl (v := W_choke w) rfl dX2_bottom_5 ?_
  refine lv_iadd hx hb dX2_bottom_8 ?_
  exact hret ((f_X2_column w) + (W_choke w)) _ _ _ _ dX2_bottom_9 (ht.trans (by simp only [f_X2_bottom])) hS

/-! X2_gasPressure -/
def f_X2_gasPressure (w : WS) : Int32 :=
  imax (1 : Int32) ((((W_weight w) * (W_place w)) / (10 : Int32)) + (W_choke w))

abbrev RM_X2_gasPressure : Room := { frames := 1, cells := 0, slots := 0, locals := 24 }
set_option maxRecDepth 100000 in
set_option maxHeartbeats 4000000 in
theorem c_X2_gasPressure (l : Launch) (D : va_G) (q : Nat → ClassId) (sz : Nat) (h : Nat) (kr : Nat → Nat) (w : WS) (r : RS) : Met l yX2_gasPressure (Cond.code yX2_gasPressure cX2_gasPressure 1 (some .int) :: ALL) RM_X2_gasPressure (PC D q [.ref h] (cWell h kr q w r) sz) (va_Qi (fun (rv : Int32) (_ : Unit) => f_X2_gasPressure w = rv) (fun _ _ => True) (fun _ => False)) 0 0 (fun _ => False) := by
  refine en_iR (by decide +kernel) (Nat.le_of_ble_eq_true rfl) ?_
  intro p e s m args below meth c Q A H locs ls fx hD0 hP hS hl hret
  have hx := fx.1
  have hb := fx.2.1
  have hl : lv_has ls 1 [(0, .ref h)] := hl
  have hD : ∀ (w9 : WS) (r9 : RS), va_D _ (cWell h kr q w9 r9) := fun _ _ => D_same ((fst_Well _ _ _ _ _).trans (fst_Well _ _ _ _ _).symm) hD0
  have ht : f_X2_gasPressure w = f_X2_gasPressure w := rfl
  refine lv_iconst (v := 1) hx hb dX2_gasPressure_0 (by decide) ?_
  refine lv_aload_n hx hb dX2_gasPressure_1 rfl (lv_at hl 0 rfl) ?_
  refine gf_X2_13 fx hP 0 rfl (v := W_weight w) rfl dX2_gasPressure_2 ?_
  refine lv_aload_n hx hb dX2_gasPressure_5 rfl (lv_at hl 0 rfl) ?_
  refine gf_X2_40 fx hP 0 rfl (v := W_place w) rfl dX2_gasPressure_6 ?_
  refine lv_imul hx hb dX2_gasPressure_9 ?_
  refine lv_bipush (v := 10) hx hb dX2_gasPressure_10 (by decide) ?_
  refine lv_idiv hx hb dX2_gasPressure_12 (by decide) ?_
  refine lv_aload_n hx hb dX2_gasPressure_13 rfl (lv_at hl 0 rfl) ?_
  refine gf_X2_30 fx hP 0 rfl (v := W_choke w) rfl dX2_gasPressure_14 ?_
  refine lv_iadd hx hb dX2_gasPressure_17 ?_
  refine kimax fx mm_37 hl.1 (Nat.le_of_ble_eq_true rfl) (Nat.le_of_ble_eq_true rfl) (Nat.zero_le _) (Nat.zero_le _) dX2_gasPressure_18 ?_
  exact hret (imax (1 : Int32) ((((W_weight w) * (W_place w)) / (10 : Int32)) + (W_choke w))) _ _ _ _ dX2_gasPressure_21 (ht.trans (by simp only [f_X2_gasPressure])) hS

/-! X2_foot -/
def f_X2_foot_b48 (w : WS) (j10 : Int32) : Int32 :=
  (W_choke w) + (((W_weight w) * j10) / (10 : Int32))

def f_X2_foot (w : WS) : Int32 :=
  if (if (f_X2_hasGas w) = 0 then (0 : Int32) else (if (W_shoe w) ≤ (W_place w) then (0 : Int32) else (1 : Int32))) = 0 then (f_X2_foot_b48 w (W_shoe w)) else (f_X2_foot_b48 w (imax (0 : Int32) ((W_shoe w) - (W_gas w))))

abbrev RM_X2_foot : Room := { frames := 1, cells := 0, slots := 0, locals := 24 }
set_option maxRecDepth 100000 in
set_option maxHeartbeats 4000000 in
theorem c_X2_foot (l : Launch) (D : va_G) (q : Nat → ClassId) (sz : Nat) (h : Nat) (kr : Nat → Nat) (w : WS) (r : RS) : Met l yX2_foot (Cond.code yX2_foot cX2_foot 3 (some .int) :: ALL) RM_X2_foot (PC D q [.ref h] (cWell h kr q w r) sz) (va_Qi (fun (rv : Int32) (_ : Unit) => f_X2_foot w = rv) (fun _ _ => True) (fun _ => False)) 0 0 (fun _ => False) := by
  refine en_iR (by decide +kernel) (Nat.le_of_ble_eq_true rfl) ?_
  intro p e s m args below meth c Q A H locs ls fx hD0 hP hS hl hret
  have hx := fx.1
  have hb := fx.2.1
  have hl : lv_has ls 3 [(0, .ref h)] := hl
  have hD : ∀ (w9 : WS) (r9 : RS), va_D _ (cWell h kr q w9 r9) := fun _ _ => D_same ((fst_Well _ _ _ _ _).trans (fst_Well _ _ _ _ _).symm) hD0
  have ht : f_X2_foot w = f_X2_foot w := rfl
  refine lv_aload_n hx hb dX2_foot_0 rfl (lv_at hl 0 rfl) ?_
  refine kR_i (runV fx (As := []) (rest := []) (c_X2_hasGas l D q H.size h kr w r) lk_X2_58 ⟨Nat.le_of_ble_eq_true rfl, Nat.le_of_ble_eq_true rfl⟩ ⟨rfl, rfl⟩ hP (hD _ _) [0, 1, 2, 3, 4, 5, 6] rfl rfl (ci := 2) rfl rfl rfl hl.1 rfl (Nat.le_of_ble_eq_true rfl) dX2_foot_1 ⟨Nat.zero_le _, Nat.zero_le _⟩) hP hS (fun r1 _ H locs hr2 hP hS => ?_)
  obtain ⟨rfl, hz3⟩ := hr2
  suffices K : ∀ (v6 : Int32), ∀ (H : Heap) (locs : List Loc) (ls : Array Slot), v6 = (if (f_X2_hasGas w) = 0 then (0 : Int32) else (if (W_shoe w) ≤ (W_place w) then (0 : Int32) else (1 : Int32))) → va_P D vwCl (cWell h kr q w r) H → va_S A s.heap H locs → lv_has ls 3 [(0, .ref h)] → W p l e RM_X2_foot s m args below meth c H locs 0 0 Q (F0 m 23 ls [.int v6]) by
    refine lv_if_eq (tgt := 22) hx hb dX2_foot_4 (by decide) (fun c4 => ?_) (fun c4 => ?_)
    · refine lv_iconst (v := 0) hx hb dX2_foot_22 (by decide) ?_
      exact K (0 : Int32) H locs ls (by simp only [if_pos c4]) hP hS (lv_sub hl [0] rfl)
    · refine lv_aload_n hx hb dX2_foot_7 rfl (lv_at hl 0 rfl) ?_
      refine gf_X2_40 fx hP 0 rfl (v := W_place w) rfl dX2_foot_8 ?_
      refine lv_aload_n hx hb dX2_foot_11 rfl (lv_at hl 0 rfl) ?_
      refine gf_X2_23 fx hP 0 rfl (v := W_shoe w) rfl dX2_foot_12 ?_
      refine lv_icmp_ge (tgt := 22) hx hb dX2_foot_15 (by decide) (fun c5 => ?_) (fun c5 => ?_)
      · refine lv_iconst (v := 0) hx hb dX2_foot_22 (by decide) ?_
        exact K (0 : Int32) H locs ls (by simp only [if_neg c4, if_pos c5]) hP hS (lv_sub hl [0] rfl)
      · refine lv_iconst (v := 1) hx hb dX2_foot_18 (by decide) ?_
        refine lv_goto (tgt := 23) hx hb dX2_foot_19 (by decide) ?_
        exact K (1 : Int32) H locs ls (by simp only [if_neg c4, if_neg c5]) hP hS (lv_sub hl [0] rfl)
  intro v6 H locs ls hvv6 hP hS hl
  subst hvv6
  refine lv_istore_n (lv' := [(1, .int (if (f_X2_hasGas w) = 0 then (0 : Int32) else (if (W_shoe w) ≤ (W_place w) then (0 : Int32) else (1 : Int32)))), (0, .ref h)]) hx hb dX2_foot_23 rfl hl (by decide) rfl (fun ls hl => ?_)
  refine lv_iload_n hx hb dX2_foot_24 rfl (lv_at hl 0 rfl) ?_
  have K48 : ∀ (j10 : Int32) (H : Heap) (locs : List Loc) (ls : Array Slot), f_X2_foot w = f_X2_foot_b48 w j10 → va_P D vwCl (cWell h kr q w r) H → va_S A s.heap H locs → lv_has ls 3 [(0, .ref h)] → W p l e RM_X2_foot s m args below meth c H locs 0 0 Q (F0 m 48 ls [.int j10]) := by
    intro j10 H locs ls ht hP hS hl
    refine lv_istore_n (lv' := [(2, .int j10), (0, .ref h)]) hx hb dX2_foot_48 rfl hl (by decide) rfl (fun ls hl => ?_)
    refine lv_aload_n hx hb dX2_foot_49 rfl (lv_at hl 1 rfl) ?_
    refine gf_X2_30 fx hP 0 rfl (v := W_choke w) rfl dX2_foot_50 ?_
    refine lv_aload_n hx hb dX2_foot_53 rfl (lv_at hl 1 rfl) ?_
    refine gf_X2_13 fx hP 0 rfl (v := W_weight w) rfl dX2_foot_54 ?_
    refine lv_iload_n hx hb dX2_foot_57 rfl (lv_at hl 0 rfl) ?_
    refine lv_imul hx hb dX2_foot_58 ?_
    refine lv_bipush (v := 10) hx hb dX2_foot_59 (by decide) ?_
    refine lv_idiv hx hb dX2_foot_61 (by decide) ?_
    refine lv_iadd hx hb dX2_foot_62 ?_
    exact hret ((W_choke w) + (((W_weight w) * j10) / (10 : Int32))) _ _ _ _ dX2_foot_63 (ht.trans (by simp only [f_X2_foot_b48])) hS
  refine lv_if_eq (tgt := 44) hx hb dX2_foot_25 (by decide) (fun c9 => ?_) (fun c9 => ?_)
  · refine lv_aload_n hx hb dX2_foot_44 rfl (lv_at hl 1 rfl) ?_
    refine gf_X2_23 fx hP 0 rfl (v := W_shoe w) rfl dX2_foot_45 ?_
    exact K48 (W_shoe w) H locs ls (ht.trans (by simp only [f_X2_foot, if_pos c9])) hP hS (lv_sub hl [1] rfl)
  · refine lv_iconst (v := 0) hx hb dX2_foot_28 (by decide) ?_
    refine lv_aload_n hx hb dX2_foot_29 rfl (lv_at hl 1 rfl) ?_
    refine gf_X2_23 fx hP 0 rfl (v := W_shoe w) rfl dX2_foot_30 ?_
    refine lv_aload_n hx hb dX2_foot_33 rfl (lv_at hl 1 rfl) ?_
    refine gf_X2_43 fx hP 0 rfl (v := W_gas w) rfl dX2_foot_34 ?_
    refine lv_isub hx hb dX2_foot_37 ?_
    refine kimax fx mm_37 hl.1 (Nat.le_of_ble_eq_true rfl) (Nat.le_of_ble_eq_true rfl) (Nat.zero_le _) (Nat.zero_le _) dX2_foot_38 ?_
    refine lv_goto (tgt := 48) hx hb dX2_foot_41 (by decide) ?_
    exact K48 (imax (0 : Int32) ((W_shoe w) - (W_gas w))) H locs ls (ht.trans (by simp only [f_X2_foot, if_neg c9])) hP hS (lv_sub hl [1] rfl)

/-! X2_measureGas -/
def f_X2_measureGas (w : WS) : WS :=
  if (f_X2_hasGas w) = 0 then w else (if (f_X2_gasPressure w) ≤ 0 then w else (W_set_gas w ((lmin ((W_charge w) / ((f_X2_gasPressure w).toInt64)) (((W_depth w) - (W_liquid w)).toInt64)).toInt32)))

abbrev RM_X2_measureGas : Room := { frames := 2, cells := 0, slots := 0, locals := 44 }
set_option maxRecDepth 100000 in
set_option maxHeartbeats 4000000 in
theorem c_X2_measureGas (l : Launch) (D : va_G) (q : Nat → ClassId) (sz : Nat) (h : Nat) (kr : Nat → Nat) (w : WS) (r : RS) : Met l yX2_measureGas (Cond.code yX2_measureGas cX2_measureGas 2 none :: ALL) RM_X2_measureGas (PC D q [.ref h] (cWell h kr q w r) sz) (va_Qv (fun (u : WS) => f_X2_measureGas w = u) (fun u t9 => va_P D vwCl (cWell h kr q u r) t9.heap) (va_A (cWell h kr q w r) sz)) 0 0 (va_A (cWell h kr q w r) sz) := by
  refine en_vW (by decide +kernel) (Nat.le_of_ble_eq_true rfl) ?_
  intro p e s m args below meth c Q A H locs ls fx hD0 hA hP hS hl hret
  have hx := fx.1
  have hb := fx.2.1
  have hl : lv_has ls 2 [(0, .ref h)] := hl
  have hD : ∀ (w9 : WS) (r9 : RS), va_D _ (cWell h kr q w9 r9) := fun _ _ => D_same ((fst_Well _ _ _ _ _).trans (fst_Well _ _ _ _ _).symm) hD0
  have ht : f_X2_measureGas w = f_X2_measureGas w := rfl
  refine lv_aload_n hx hb dX2_measureGas_0 rfl (lv_at hl 0 rfl) ?_
  refine kR_i (runV fx (As := []) (rest := []) (c_X2_gasPressure l D q H.size h kr w r) lk_X2_95 ⟨Nat.le_of_ble_eq_true rfl, Nat.le_of_ble_eq_true rfl⟩ ⟨rfl, rfl⟩ hP (hD _ _) [0, 1, 2, 3, 4, 5, 6] rfl rfl (ci := 2) rfl rfl rfl hl.1 rfl (Nat.le_of_ble_eq_true rfl) dX2_measureGas_1 ⟨Nat.zero_le _, Nat.zero_le _⟩) hP hS (fun r1 _ H locs hr2 hP hS => ?_)
  subst hr2
  refine lv_istore_n (lv' := [(1, .int (f_X2_gasPressure w)), (0, .ref h)]) hx hb dX2_measureGas_4 rfl hl (by decide) rfl (fun ls hl => ?_)
  refine lv_aload_n hx hb dX2_measureGas_5 rfl (lv_at hl 1 rfl) ?_
  refine kR_i (runV fx (As := []) (rest := []) (c_X2_hasGas l D q H.size h kr w r) lk_X2_58 ⟨Nat.le_of_ble_eq_true rfl, Nat.le_of_ble_eq_true rfl⟩ ⟨rfl, rfl⟩ hP (hD _ _) [0, 1, 2, 3, 4, 5, 6] rfl rfl (ci := 2) rfl rfl rfl hl.1 rfl (Nat.le_of_ble_eq_true rfl) dX2_measureGas_6 ⟨Nat.zero_le _, Nat.zero_le _⟩) hP hS (fun r3 _ H locs hr4 hP hS => ?_)
  obtain ⟨rfl, hz5⟩ := hr4
  refine lv_if_eq (tgt := 41) hx hb dX2_measureGas_9 (by decide) (fun c6 => ?_) (fun c6 => ?_)
  · exact hret w _ _ _ _ dX2_measureGas_41 (ht.trans (by simp only [f_X2_measureGas, if_pos c6])) hP hS
  · refine lv_iload_n hx hb dX2_measureGas_12 rfl (lv_at hl 0 rfl) ?_
    refine lv_if_le (tgt := 41) hx hb dX2_measureGas_13 (by decide) (fun c7 => ?_) (fun c7 => ?_)
    · exact hret w _ _ _ _ dX2_measureGas_41 (ht.trans (by simp only [f_X2_measureGas, if_neg c6, if_pos c7])) hP hS
    · refine lv_aload_n hx hb dX2_measureGas_16 rfl (lv_at hl 1 rfl) ?_
      refine lv_aload_n hx hb dX2_measureGas_17 rfl (lv_at hl 1 rfl) ?_
      refine gf_X2_36 fx hP 0 rfl (v := W_charge w) rfl dX2_measureGas_18 ?_
      refine lv_iload_n hx hb dX2_measureGas_21 rfl (lv_at hl 0 rfl) ?_
      refine lv_i2l (v := (f_X2_gasPressure w).toInt64) hx hb dX2_measureGas_22 rfl ?_
      refine lv_ldiv hx hb dX2_measureGas_23 (i2l_ne c7) ?_
      refine lv_aload_n hx hb dX2_measureGas_24 rfl (lv_at hl 1 rfl) ?_
      refine gf_X2_20 fx hP 0 rfl (v := W_depth w) rfl dX2_measureGas_25 ?_
      refine lv_aload_n hx hb dX2_measureGas_28 rfl (lv_at hl 1 rfl) ?_
      refine gf_X2_46 fx hP 0 rfl (v := W_liquid w) rfl dX2_measureGas_29 ?_
      refine lv_isub hx hb dX2_measureGas_32 ?_
      refine lv_i2l (v := ((W_depth w) - (W_liquid w)).toInt64) hx hb dX2_measureGas_33 rfl ?_
      refine klmin fx mm_49 hl.1 (Nat.le_of_ble_eq_true rfl) (Nat.le_of_ble_eq_true rfl) (Nat.zero_le _) (Nat.zero_le _) dX2_measureGas_34 ?_
      refine lv_l2i (v := (lmin ((W_charge w) / ((f_X2_gasPressure w).toInt64)) (((W_depth w) - (W_liquid w)).toInt64)).toInt32) hx hb dX2_measureGas_37 rfl ?_
      refine pf_X2_43 fx hP (hD _ _) hS 0 rfl dX2_measureGas_38 (fun H locs hP hS => ?_)
      have hP : va_P D vwCl (cWell h kr q (W_set_gas w ((lmin ((W_charge w) / ((f_X2_gasPressure w).toInt64)) (((W_depth w) - (W_liquid w)).toInt64)).toInt32)) r) H := hP
      exact hret (W_set_gas w ((lmin ((W_charge w) / ((f_X2_gasPressure w).toInt64)) (((W_depth w) - (W_liquid w)).toInt64)).toInt32)) _ _ _ _ dX2_measureGas_41 (ht.trans (by simp only [f_X2_measureGas, if_neg c6, if_neg c7])) hP hS

/-! X2_raiseGas -/
def f_X2_raiseGas (w : WS) (p0 : Int32) : WS :=
  if (f_X2_hasGas w) = 0 then w else (W_set_place w (imax (0 : Int32) ((W_place w) - (if p0 = 0 then (if (W_isClosed w) = 0 then (8 : Int32) else (2 : Int32)) else (20 : Int32)))))

abbrev RM_X2_raiseGas : Room := { frames := 1, cells := 0, slots := 0, locals := 24 }
set_option maxRecDepth 100000 in
set_option maxHeartbeats 4000000 in
theorem c_X2_raiseGas (l : Launch) (D : va_G) (q : Nat → ClassId) (sz : Nat) (h : Nat) (kr : Nat → Nat) (w : WS) (r : RS) (p0 : Int32) : Met l yX2_raiseGas (Cond.code yX2_raiseGas cX2_raiseGas 3 none :: ALL) RM_X2_raiseGas (PC D q [.ref h, .int p0] (cWell h kr q w r) sz) (va_Qv (fun (u : WS) => f_X2_raiseGas w p0 = u) (fun u t9 => va_P D vwCl (cWell h kr q u r) t9.heap) (va_A (cWell h kr q w r) sz)) 0 0 (va_A (cWell h kr q w r) sz) := by
  refine en_vW (by decide +kernel) (Nat.le_of_ble_eq_true rfl) ?_
  intro p e s m args below meth c Q A H locs ls fx hD0 hA hP hS hl hret
  have hx := fx.1
  have hb := fx.2.1
  have hl : lv_has ls 3 [(0, .ref h), (1, .int p0)] := hl
  have hD : ∀ (w9 : WS) (r9 : RS), va_D _ (cWell h kr q w9 r9) := fun _ _ => D_same ((fst_Well _ _ _ _ _).trans (fst_Well _ _ _ _ _).symm) hD0
  have ht : f_X2_raiseGas w p0 = f_X2_raiseGas w p0 := rfl
  refine lv_aload_n hx hb dX2_raiseGas_0 rfl (lv_at hl 0 rfl) ?_
  refine kR_i (runV fx (As := []) (rest := []) (c_X2_hasGas l D q H.size h kr w r) lk_X2_58 ⟨Nat.le_of_ble_eq_true rfl, Nat.le_of_ble_eq_true rfl⟩ ⟨rfl, rfl⟩ hP (hD _ _) [0, 1, 2, 3, 4, 5, 6] rfl rfl (ci := 2) rfl rfl rfl hl.1 rfl (Nat.le_of_ble_eq_true rfl) dX2_raiseGas_1 ⟨Nat.zero_le _, Nat.zero_le _⟩) hP hS (fun r1 _ H locs hr2 hP hS => ?_)
  obtain ⟨rfl, hz3⟩ := hr2
  refine lv_if_eq (tgt := 44) hx hb dX2_raiseGas_4 (by decide) (fun c4 => ?_) (fun c4 => ?_)
  · exact hret w _ _ _ _ dX2_raiseGas_44 (ht.trans (by simp only [f_X2_raiseGas, if_pos c4])) hP hS
  · refine lv_iload_n hx hb dX2_raiseGas_7 rfl (lv_at hl 1 rfl) ?_
    suffices K : ∀ (v7 : Int32), ∀ (H : Heap) (locs : List Loc) (ls : Array Slot), v7 = (if p0 = 0 then (if (W_isClosed w) = 0 then (8 : Int32) else (2 : Int32)) else (20 : Int32)) → va_P D vwCl (cWell h kr q w r) H → va_S A s.heap H locs → lv_has ls 3 [(0, .ref h)] → W p l e RM_X2_raiseGas s m args below meth c H locs 0 0 Q (F0 m 29 ls [.int v7]) by
      refine lv_if_eq (tgt := 16) hx hb dX2_raiseGas_8 (by decide) (fun c5 => ?_) (fun c5 => ?_)
      · refine lv_aload_n hx hb dX2_raiseGas_16 rfl (lv_at hl 0 rfl) ?_
        refine gf_X2_26 fx hP 0 rfl (v := W_isClosed w) rfl dX2_raiseGas_17 ?_
        refine lv_if_eq (tgt := 27) hx hb dX2_raiseGas_20 (by decide) (fun c6 => ?_) (fun c6 => ?_)
        · refine lv_bipush (v := 8) hx hb dX2_raiseGas_27 (by decide) ?_
          exact K (8 : Int32) H locs ls (by simp only [if_pos c5, if_pos c6]) hP hS (lv_sub hl [0] rfl)
        · refine lv_iconst (v := 2) hx hb dX2_raiseGas_23 (by decide) ?_
          refine lv_goto (tgt := 29) hx hb dX2_raiseGas_24 (by decide) ?_
          exact K (2 : Int32) H locs ls (by simp only [if_pos c5, if_neg c6]) hP hS (lv_sub hl [0] rfl)
      · refine lv_bipush (v := 20) hx hb dX2_raiseGas_11 (by decide) ?_
        refine lv_goto (tgt := 29) hx hb dX2_raiseGas_13 (by decide) ?_
        exact K (20 : Int32) H locs ls (by simp only [if_neg c5]) hP hS (lv_sub hl [0] rfl)
    intro v7 H locs ls hvv7 hP hS hl
    subst hvv7
    refine lv_istore_n (lv' := [(2, .int (if p0 = 0 then (if (W_isClosed w) = 0 then (8 : Int32) else (2 : Int32)) else (20 : Int32))), (0, .ref h)]) hx hb dX2_raiseGas_29 rfl hl (by decide) rfl (fun ls hl => ?_)
    refine lv_aload_n hx hb dX2_raiseGas_30 rfl (lv_at hl 1 rfl) ?_
    refine lv_iconst (v := 0) hx hb dX2_raiseGas_31 (by decide) ?_
    refine lv_aload_n hx hb dX2_raiseGas_32 rfl (lv_at hl 1 rfl) ?_
    refine gf_X2_40 fx hP 0 rfl (v := W_place w) rfl dX2_raiseGas_33 ?_
    refine lv_iload_n hx hb dX2_raiseGas_36 rfl (lv_at hl 0 rfl) ?_
    refine lv_isub hx hb dX2_raiseGas_37 ?_
    refine kimax fx mm_37 hl.1 (Nat.le_of_ble_eq_true rfl) (Nat.le_of_ble_eq_true rfl) (Nat.zero_le _) (Nat.zero_le _) dX2_raiseGas_38 ?_
    refine pf_X2_40 fx hP (hD _ _) hS 0 rfl dX2_raiseGas_41 (fun H locs hP hS => ?_)
    have hP : va_P D vwCl (cWell h kr q (W_set_place w (imax (0 : Int32) ((W_place w) - (if p0 = 0 then (if (W_isClosed w) = 0 then (8 : Int32) else (2 : Int32)) else (20 : Int32))))) r) H := hP
    exact hret (W_set_place w (imax (0 : Int32) ((W_place w) - (if p0 = 0 then (if (W_isClosed w) = 0 then (8 : Int32) else (2 : Int32)) else (20 : Int32))))) _ _ _ _ dX2_raiseGas_44 (ht.trans (by simp only [f_X2_raiseGas, if_neg c4])) hP hS

/-! X2_ventGas -/
def f_X2_ventGas_b25 (w : WS) : WS :=
  W_set_gas (W_set_charge (W_set_vented w ((W_vented w) + ((W_gas w).toInt64))) (0 : Int64)) (0 : Int32)

def f_X2_ventGas (w : WS) (p0 : Int32) : WS :=
  if (f_X2_hasGas w) = 0 then w else (if (W_place w) = 0 then (if p0 = 0 then (if (W_isClosed w) = 0 then (f_X2_ventGas_b25 w) else w) else (f_X2_ventGas_b25 w)) else w)

abbrev RM_X2_ventGas : Room := { frames := 1, cells := 0, slots := 0, locals := 20 }
set_option maxRecDepth 100000 in
set_option maxHeartbeats 4000000 in
theorem c_X2_ventGas (l : Launch) (D : va_G) (q : Nat → ClassId) (sz : Nat) (h : Nat) (kr : Nat → Nat) (w : WS) (r : RS) (p0 : Int32) : Met l yX2_ventGas (Cond.code yX2_ventGas cX2_ventGas 2 none :: ALL) RM_X2_ventGas (PC D q [.ref h, .int p0] (cWell h kr q w r) sz) (va_Qv (fun (u : WS) => f_X2_ventGas w p0 = u) (fun u t9 => va_P D vwCl (cWell h kr q u r) t9.heap) (va_A (cWell h kr q w r) sz)) 0 0 (va_A (cWell h kr q w r) sz) := by
  refine en_vW (by decide +kernel) (Nat.le_of_ble_eq_true rfl) ?_
  intro p e s m args below meth c Q A H locs ls fx hD0 hA hP hS hl hret
  have hx := fx.1
  have hb := fx.2.1
  have hl : lv_has ls 2 [(0, .ref h), (1, .int p0)] := hl
  have hD : ∀ (w9 : WS) (r9 : RS), va_D _ (cWell h kr q w9 r9) := fun _ _ => D_same ((fst_Well _ _ _ _ _).trans (fst_Well _ _ _ _ _).symm) hD0
  have ht : f_X2_ventGas w p0 = f_X2_ventGas w p0 := rfl
  refine lv_aload_n hx hb dX2_ventGas_0 rfl (lv_at hl 0 rfl) ?_
  refine kR_i (runV fx (As := []) (rest := []) (c_X2_hasGas l D q H.size h kr w r) lk_X2_58 ⟨Nat.le_of_ble_eq_true rfl, Nat.le_of_ble_eq_true rfl⟩ ⟨rfl, rfl⟩ hP (hD _ _) [0, 1, 2, 3, 4, 5, 6] rfl rfl (ci := 2) rfl rfl rfl hl.1 rfl (Nat.le_of_ble_eq_true rfl) dX2_ventGas_1 ⟨Nat.zero_le _, Nat.zero_le _⟩) hP hS (fun r1 _ H locs hr2 hP hS => ?_)
  obtain ⟨rfl, hz3⟩ := hr2
  refine lv_if_eq (tgt := 49) hx hb dX2_ventGas_4 (by decide) (fun c4 => ?_) (fun c4 => ?_)
  · exact hret w _ _ _ _ dX2_ventGas_49 (ht.trans (by simp only [f_X2_ventGas, if_pos c4])) hP hS
  · refine lv_aload_n hx hb dX2_ventGas_7 rfl (lv_at hl 0 rfl) ?_
    refine gf_X2_40 fx hP 0 rfl (v := W_place w) rfl dX2_ventGas_8 ?_
    refine lv_if_ne (tgt := 49) hx hb dX2_ventGas_11 (by decide) (fun c5 => ?_) (fun c5 => ?_)
    · exact hret w _ _ _ _ dX2_ventGas_49 (ht.trans (by simp only [f_X2_ventGas, if_neg c4, if_neg c5])) hP hS
    · refine lv_iload_n hx hb dX2_ventGas_14 rfl (lv_at hl 1 rfl) ?_
      have K25 : ∀ (H : Heap) (locs : List Loc) (ls : Array Slot), f_X2_ventGas w p0 = f_X2_ventGas_b25 w → va_P D vwCl (cWell h kr q w r) H → va_S A s.heap H locs → lv_has ls 2 [(0, .ref h)] → W p l e RM_X2_ventGas s m args below meth c H locs 0 0 Q (F0 m 25 ls []) := by
        intro H locs ls ht hP hS hl
        refine lv_aload_n hx hb dX2_ventGas_25 rfl (lv_at hl 0 rfl) ?_
        refine lv_dup hx hb dX2_ventGas_26 rfl ?_
        refine gf_X2_49 fx hP 0 rfl (v := W_vented w) rfl dX2_ventGas_27 ?_
        refine lv_aload_n hx hb dX2_ventGas_30 rfl (lv_at hl 0 rfl) ?_
        refine gf_X2_43 fx hP 0 rfl (v := W_gas w) rfl dX2_ventGas_31 ?_
        refine lv_i2l (v := (W_gas w).toInt64) hx hb dX2_ventGas_34 rfl ?_
        refine lv_ladd hx hb dX2_ventGas_35 ?_
        refine pf_X2_49 fx hP (hD _ _) hS 0 rfl dX2_ventGas_36 (fun H locs hP hS => ?_)
        have hP : va_P D vwCl (cWell h kr q (W_set_vented w ((W_vented w) + ((W_gas w).toInt64))) r) H := hP
        refine lv_aload_n hx hb dX2_ventGas_39 rfl (lv_at hl 0 rfl) ?_
        refine lv_lconst (v := 0) hx hb dX2_ventGas_40 (by decide) ?_
        refine pf_X2_36 fx hP (hD _ _) hS 0 rfl dX2_ventGas_41 (fun H locs hP hS => ?_)
        have hP : va_P D vwCl (cWell h kr q (W_set_charge (W_set_vented w ((W_vented w) + ((W_gas w).toInt64))) (0 : Int64)) r) H := hP
        refine lv_aload_n hx hb dX2_ventGas_44 rfl (lv_at hl 0 rfl) ?_
        refine lv_iconst (v := 0) hx hb dX2_ventGas_45 (by decide) ?_
        refine pf_X2_43 fx hP (hD _ _) hS 0 rfl dX2_ventGas_46 (fun H locs hP hS => ?_)
        have hP : va_P D vwCl (cWell h kr q (W_set_gas (W_set_charge (W_set_vented w ((W_vented w) + ((W_gas w).toInt64))) (0 : Int64)) (0 : Int32)) r) H := hP
        exact hret (W_set_gas (W_set_charge (W_set_vented w ((W_vented w) + ((W_gas w).toInt64))) (0 : Int64)) (0 : Int32)) _ _ _ _ dX2_ventGas_49 (ht.trans (by simp only [f_X2_ventGas_b25])) hP hS
      refine lv_if_ne (tgt := 25) hx hb dX2_ventGas_15 (by decide) (fun c8 => ?_) (fun c8 => ?_)
      · exact K25 H locs ls (ht.trans (by simp only [f_X2_ventGas, if_neg c4, if_pos c5, if_neg c8])) hP hS (lv_sub hl [0] rfl)
      · refine lv_aload_n hx hb dX2_ventGas_18 rfl (lv_at hl 0 rfl) ?_
        refine gf_X2_26 fx hP 0 rfl (v := W_isClosed w) rfl dX2_ventGas_19 ?_
        refine lv_if_ne (tgt := 49) hx hb dX2_ventGas_22 (by decide) (fun c9 => ?_) (fun c9 => ?_)
        · exact hret w _ _ _ _ dX2_ventGas_49 (ht.trans (by simp only [f_X2_ventGas, if_neg c4, if_pos c5, if_pos c8, if_neg c9])) hP hS
        · exact K25 H locs ls (ht.trans (by simp only [f_X2_ventGas, if_neg c4, if_pos c5, if_pos c8, if_pos c9])) hP hS (lv_sub hl [0] rfl)

/-! X2_setChoke -/
def f_X2_setChoke (w : WS) (r : RS) : WS :=
  if (W_isClosed w) = 0 then w else (if (imax (0 : Int32) ((f_X0_poreAt r (W_depth w)) - (f_X2_column w))) ≤ (W_valveStrength w) then (W_set_choke w (imax (0 : Int32) ((f_X0_poreAt r (W_depth w)) - (f_X2_column w)))) else (W_set_hasBrokenSinceTest (W_set_choke (W_set_isClosed (W_set_choke w (imax (0 : Int32) ((f_X0_poreAt r (W_depth w)) - (f_X2_column w)))) (0 : Int32)) (0 : Int32)) (1 : Int32)))

abbrev RM_X2_setChoke : Room := { frames := 2, cells := 0, slots := 0, locals := 44 }
set_option maxRecDepth 100000 in
set_option maxHeartbeats 4000000 in
theorem c_X2_setChoke (l : Launch) (D : va_G) (q : Nat → ClassId) (sz : Nat) (h : Nat) (kr : Nat → Nat) (w : WS) (r : RS) : Met l yX2_setChoke (Cond.code yX2_setChoke cX2_setChoke 1 none :: ALL) RM_X2_setChoke (PC D q [.ref h] (cWell h kr q w r) sz) (va_Qv (fun (u : WS) => f_X2_setChoke w r = u) (fun u t9 => va_P D vwCl (cWell h kr q u r) t9.heap) (va_A (cWell h kr q w r) sz)) 0 0 (va_A (cWell h kr q w r) sz) := by
  refine en_vW (by decide +kernel) (Nat.le_of_ble_eq_true rfl) ?_
  intro p e s m args below meth c Q A H locs ls fx hD0 hA hP hS hl hret
  have hx := fx.1
  have hb := fx.2.1
  have hl : lv_has ls 1 [(0, .ref h)] := hl
  have hD : ∀ (w9 : WS) (r9 : RS), va_D _ (cWell h kr q w9 r9) := fun _ _ => D_same ((fst_Well _ _ _ _ _).trans (fst_Well _ _ _ _ _).symm) hD0
  have ht : f_X2_setChoke w r = f_X2_setChoke w r := rfl
  refine lv_aload_n hx hb dX2_setChoke_0 rfl (lv_at hl 0 rfl) ?_
  refine gf_X2_26 fx hP 0 rfl (v := W_isClosed w) rfl dX2_setChoke_1 ?_
  refine lv_if_ne (tgt := 8) hx hb dX2_setChoke_4 (by decide) (fun c1 => ?_) (fun c1 => ?_)
  · refine lv_aload_n hx hb dX2_setChoke_8 rfl (lv_at hl 0 rfl) ?_
    refine lv_iconst (v := 0) hx hb dX2_setChoke_9 (by decide) ?_
    refine lv_aload_n hx hb dX2_setChoke_10 rfl (lv_at hl 0 rfl) ?_
    refine gf_X2_7 fx hP 0 rfl dX2_setChoke_11 ?_
    refine lv_aload_n hx hb dX2_setChoke_14 rfl (lv_at hl 0 rfl) ?_
    refine gf_X2_20 fx hP 0 rfl (v := W_depth w) rfl dX2_setChoke_15 ?_
    refine kR_i (runVN fx (As := [.int (W_depth w)]) (rest := [.int (0 : Int32), .ref h]) (c_X0_poreAt l D q H.size kr r (W_depth w)) lk_X2_102 ⟨Nat.le_of_ble_eq_true rfl, Nat.le_of_ble_eq_true rfl⟩ ⟨rfl, rfl⟩ hP (hD _ _) [1, 2, 3, 4, 5, 6] rfl rfl (ci := 0) rfl rfl rfl hl.1 rfl (Nat.le_of_ble_eq_true rfl) dX2_setChoke_18 ⟨Nat.zero_le _, Nat.zero_le _⟩) hP hS (fun r2 _ H locs hr3 hP hS => ?_)
    subst hr3
    refine lv_aload_n hx hb dX2_setChoke_21 rfl (lv_at hl 0 rfl) ?_
    refine kR_i (runV fx (As := []) (rest := [.int (f_X0_poreAt r (W_depth w)), .int (0 : Int32), .ref h]) (c_X2_column l D q H.size h kr w r) lk_X2_68 ⟨Nat.le_of_ble_eq_true rfl, Nat.le_of_ble_eq_true rfl⟩ ⟨rfl, rfl⟩ hP (hD _ _) [0, 1, 2, 3, 4, 5, 6] rfl rfl (ci := 2) rfl rfl rfl hl.1 rfl (Nat.le_of_ble_eq_true rfl) dX2_setChoke_22 ⟨Nat.zero_le _, Nat.zero_le _⟩) hP hS (fun r4 _ H locs hr5 hP hS => ?_)
    subst hr5
    refine lv_isub hx hb dX2_setChoke_25 ?_
    refine kimax fx mm_37 hl.1 (Nat.le_of_ble_eq_true rfl) (Nat.le_of_ble_eq_true rfl) (Nat.zero_le _) (Nat.zero_le _) dX2_setChoke_26 ?_
    refine pf_X2_30 fx hP (hD _ _) hS 0 rfl dX2_setChoke_29 (fun H locs hP hS => ?_)
    have hP : va_P D vwCl (cWell h kr q (W_set_choke w (imax (0 : Int32) ((f_X0_poreAt r (W_depth w)) - (f_X2_column w)))) r) H := hP
    refine lv_aload_n hx hb dX2_setChoke_32 rfl (lv_at hl 0 rfl) ?_
    refine gf_X2_30 fx hP 0 rfl (v := imax (0 : Int32) ((f_X0_poreAt r (W_depth w)) - (f_X2_column w))) (W_choke_set_choke _ _) dX2_setChoke_33 ?_
    refine lv_aload_n hx hb dX2_setChoke_36 rfl (lv_at hl 0 rfl) ?_
    refine gf_X2_17 fx hP 0 rfl (v := W_valveStrength w) (W_valveStrength_set_choke _ _) dX2_setChoke_37 ?_
    refine lv_icmp_le (tgt := 58) hx hb dX2_setChoke_40 (by decide) (fun c6 => ?_) (fun c6 => ?_)
    · exact hret (W_set_choke w (imax (0 : Int32) ((f_X0_poreAt r (W_depth w)) - (f_X2_column w)))) _ _ _ _ dX2_setChoke_58 (ht.trans (by simp only [f_X2_setChoke, if_neg c1, if_pos c6])) hP hS
    · refine lv_aload_n hx hb dX2_setChoke_43 rfl (lv_at hl 0 rfl) ?_
      refine lv_iconst (v := 0) hx hb dX2_setChoke_44 (by decide) ?_
      refine pf_X2_26 fx hP (hD _ _) hS 0 rfl (hz := bz0) dX2_setChoke_45 (fun H locs hP hS => ?_)
      have hP : va_P D vwCl (cWell h kr q (W_set_isClosed (W_set_choke w (imax (0 : Int32) ((f_X0_poreAt r (W_depth w)) - (f_X2_column w)))) (0 : Int32)) r) H := hP
      refine lv_aload_n hx hb dX2_setChoke_48 rfl (lv_at hl 0 rfl) ?_
      refine lv_iconst (v := 0) hx hb dX2_setChoke_49 (by decide) ?_
      refine pf_X2_30 fx hP (hD _ _) hS 0 rfl dX2_setChoke_50 (fun H locs hP hS => ?_)
      have hP : va_P D vwCl (cWell h kr q (W_set_choke (W_set_isClosed (W_set_choke w (imax (0 : Int32) ((f_X0_poreAt r (W_depth w)) - (f_X2_column w)))) (0 : Int32)) (0 : Int32)) r) H := hP
      refine lv_aload_n hx hb dX2_setChoke_53 rfl (lv_at hl 0 rfl) ?_
      refine lv_iconst (v := 1) hx hb dX2_setChoke_54 (by decide) ?_
      refine pf_X2_33 fx hP (hD _ _) hS 0 rfl (hz := bz1) dX2_setChoke_55 (fun H locs hP hS => ?_)
      have hP : va_P D vwCl (cWell h kr q (W_set_hasBrokenSinceTest (W_set_choke (W_set_isClosed (W_set_choke w (imax (0 : Int32) ((f_X0_poreAt r (W_depth w)) - (f_X2_column w)))) (0 : Int32)) (0 : Int32)) (1 : Int32)) r) H := hP
      exact hret (W_set_hasBrokenSinceTest (W_set_choke (W_set_isClosed (W_set_choke w (imax (0 : Int32) ((f_X0_poreAt r (W_depth w)) - (f_X2_column w)))) (0 : Int32)) (0 : Int32)) (1 : Int32)) _ _ _ _ dX2_setChoke_58 (ht.trans (by simp only [f_X2_setChoke, if_neg c1, if_neg c6])) hP hS
  · exact hret w _ _ _ _ dX2_setChoke_7 (ht.trans (by simp only [f_X2_setChoke, if_pos c1])) hP hS

/-! X2_flowIn -/
def f_X2_flowIn_b113 (w : WS) (r : RS) (w18 : WS) : Int32 × WS :=
  ((1 : Int32), (f_X2_measureGas (W_set_charge w18 ((W_charge w18) + (((imin (40 : Int32) ((1 : Int32) + ((((f_X0_poreAt r (W_depth w)) - (f_X2_bottom w)) * (f_X0_rateAt r (W_depth w))) / (10000 : Int32)))).toInt64) * ((imax (1 : Int32) (f_X2_bottom w18)).toInt64))))))

def f_X2_flowIn (w : WS) (r : RS) : Int32 × WS :=
  if (W_isClosed w) = 0 then (if 0 < ((f_X0_poreAt r (W_depth w)) - (f_X2_bottom w)) then (if (f_X0_bearsGasAt r (W_depth w)) = 0 then ((1 : Int32), W_set_liquid w ((W_liquid w) + (imin (imin (40 : Int32) ((1 : Int32) + ((((f_X0_poreAt r (W_depth w)) - (f_X2_bottom w)) * (f_X0_rateAt r (W_depth w))) / (10000 : Int32)))) (((W_depth w) - (W_gas w)) - (W_liquid w))))) else (if (f_X2_hasGas w) = 0 then (f_X2_flowIn_b113 w r (W_set_place w (W_depth w))) else (f_X2_flowIn_b113 w r w))) else ((0 : Int32), w)) else ((0 : Int32), w)

abbrev RM_X2_flowIn : Room := { frames := 3, cells := 0, slots := 0, locals := 65 }
set_option maxRecDepth 100000 in
set_option maxHeartbeats 4000000 in
theorem c_X2_flowIn (l : Launch) (D : va_G) (q : Nat → ClassId) (sz : Nat) (h : Nat) (kr : Nat → Nat) (w : WS) (r : RS) : Met l yX2_flowIn (Cond.code yX2_flowIn cX2_flowIn 3 (some .boolean) :: ALL) RM_X2_flowIn (PC D q [.ref h] (cWell h kr q w r) sz) (va_Qi (fun (rv : Int32) (u : WS) => f_X2_flowIn w r = (rv, u) ∧ bz rv) (fun u t9 => va_P D vwCl (cWell h kr q u r) t9.heap) (va_A (cWell h kr q w r) sz)) 0 0 (va_A (cWell h kr q w r) sz) := by
  refine en_zW (by decide +kernel) (Nat.le_of_ble_eq_true rfl) ?_
  intro p e s m args below meth c Q A H locs ls fx hD0 hA hP hS hl hret
  have hx := fx.1
  have hb := fx.2.1
  have hl : lv_has ls 3 [(0, .ref h)] := hl
  have hD : ∀ (w9 : WS) (r9 : RS), va_D _ (cWell h kr q w9 r9) := fun _ _ => D_same ((fst_Well _ _ _ _ _).trans (fst_Well _ _ _ _ _).symm) hD0
  have ht : f_X2_flowIn w r = f_X2_flowIn w r := rfl
  refine lv_aload_n hx hb dX2_flowIn_0 rfl (lv_at hl 0 rfl) ?_
  refine gf_X2_7 fx hP 0 rfl dX2_flowIn_1 ?_
  refine lv_aload_n hx hb dX2_flowIn_4 rfl (lv_at hl 0 rfl) ?_
  refine gf_X2_20 fx hP 0 rfl (v := W_depth w) rfl dX2_flowIn_5 ?_
  refine kR_i (runVN fx (As := [.int (W_depth w)]) (rest := []) (c_X0_poreAt l D q H.size kr r (W_depth w)) lk_X2_102 ⟨Nat.le_of_ble_eq_true rfl, Nat.le_of_ble_eq_true rfl⟩ ⟨rfl, rfl⟩ hP (hD _ _) [1, 2, 3, 4, 5, 6] rfl rfl (ci := 0) rfl rfl rfl hl.1 rfl (Nat.le_of_ble_eq_true rfl) dX2_flowIn_8 ⟨Nat.zero_le _, Nat.zero_le _⟩) hP hS (fun r1 _ H locs hr2 hP hS => ?_)
  subst hr2
  refine lv_aload_n hx hb dX2_flowIn_11 rfl (lv_at hl 0 rfl) ?_
  refine kR_i (runV fx (As := []) (rest := [.int (f_X0_poreAt r (W_depth w))]) (c_X2_bottom l D q H.size h kr w r) lk_X2_108 ⟨Nat.le_of_ble_eq_true rfl, Nat.le_of_ble_eq_true rfl⟩ ⟨rfl, rfl⟩ hP (hD _ _) [0, 1, 2, 3, 4, 5, 6] rfl rfl (ci := 2) rfl rfl rfl hl.1 rfl (Nat.le_of_ble_eq_true rfl) dX2_flowIn_12 ⟨Nat.zero_le _, Nat.zero_le _⟩) hP hS (fun r3 _ H locs hr4 hP hS => ?_)
  subst hr4
  refine lv_isub hx hb dX2_flowIn_15 ?_
  refine lv_istore_n (lv' := [(1, .int ((f_X0_poreAt r (W_depth w)) - (f_X2_bottom w))), (0, .ref h)]) hx hb dX2_flowIn_16 rfl hl (by decide) rfl (fun ls hl => ?_)
  refine lv_aload_n hx hb dX2_flowIn_17 rfl (lv_at hl 1 rfl) ?_
  refine gf_X2_26 fx hP 0 rfl (v := W_isClosed w) rfl dX2_flowIn_18 ?_
  refine lv_if_ne (tgt := 28) hx hb dX2_flowIn_21 (by decide) (fun c5 => ?_) (fun c5 => ?_)
  · refine lv_iconst (v := 0) hx hb dX2_flowIn_28 (by decide) ?_
    exact hret (0 : Int32) w _ _ _ _ dX2_flowIn_29 bz0 (ht.trans (by simp only [f_X2_flowIn, if_neg c5])) hP hS
  · refine lv_iload_n hx hb dX2_flowIn_24 rfl (lv_at hl 0 rfl) ?_
    refine lv_if_gt (tgt := 30) hx hb dX2_flowIn_25 (by decide) (fun c6 => ?_) (fun c6 => ?_)
    · refine lv_bipush (v := 40) hx hb dX2_flowIn_30 (by decide) ?_
      refine lv_iconst (v := 1) hx hb dX2_flowIn_32 (by decide) ?_
      refine lv_iload_n hx hb dX2_flowIn_33 rfl (lv_at hl 0 rfl) ?_
      refine lv_aload_n hx hb dX2_flowIn_34 rfl (lv_at hl 1 rfl) ?_
      refine gf_X2_7 fx hP 0 rfl dX2_flowIn_35 ?_
      refine lv_aload_n hx hb dX2_flowIn_38 rfl (lv_at hl 1 rfl) ?_
      refine gf_X2_20 fx hP 0 rfl (v := W_depth w) rfl dX2_flowIn_39 ?_
      refine kR_i (runVN fx (As := [.int (W_depth w)]) (rest := [.int ((f_X0_poreAt r (W_depth w)) - (f_X2_bottom w)), .int (1 : Int32), .int (40 : Int32)]) (c_X0_rateAt l D q H.size kr r (W_depth w)) lk_X2_111 ⟨Nat.le_of_ble_eq_true rfl, Nat.le_of_ble_eq_true rfl⟩ ⟨rfl, rfl⟩ hP (hD _ _) [1, 2, 3, 4, 5, 6] rfl rfl (ci := 0) rfl rfl rfl hl.1 rfl (Nat.le_of_ble_eq_true rfl) dX2_flowIn_42 ⟨Nat.zero_le _, Nat.zero_le _⟩) hP hS (fun r7 _ H locs hr8 hP hS => ?_)
      subst hr8
      refine lv_imul hx hb dX2_flowIn_45 ?_
      refine lv_sipush (v := 10000) hx hb dX2_flowIn_46 (by decide) ?_
      refine lv_idiv hx hb dX2_flowIn_49 (by decide) ?_
      refine lv_iadd hx hb dX2_flowIn_50 ?_
      refine kimin fx mm_65 hl.1 (Nat.le_of_ble_eq_true rfl) (Nat.le_of_ble_eq_true rfl) (Nat.zero_le _) (Nat.zero_le _) dX2_flowIn_51 ?_
      refine lv_istore_n (lv' := [(2, .int (imin (40 : Int32) ((1 : Int32) + ((((f_X0_poreAt r (W_depth w)) - (f_X2_bottom w)) * (f_X0_rateAt r (W_depth w))) / (10000 : Int32))))), (1, .int ((f_X0_poreAt r (W_depth w)) - (f_X2_bottom w))), (0, .ref h)]) hx hb dX2_flowIn_54 rfl hl (by decide) rfl (fun ls hl => ?_)
      refine lv_aload_n hx hb dX2_flowIn_55 rfl (lv_at hl 2 rfl) ?_
      refine gf_X2_7 fx hP 0 rfl dX2_flowIn_56 ?_
      refine lv_aload_n hx hb dX2_flowIn_59 rfl (lv_at hl 2 rfl) ?_
      refine gf_X2_20 fx hP 0 rfl (v := W_depth w) rfl dX2_flowIn_60 ?_
      refine kR_i (runVN fx (As := [.int (W_depth w)]) (rest := []) (c_X0_bearsGasAt l D q H.size kr r (W_depth w)) lk_X2_116 ⟨Nat.le_of_ble_eq_true rfl, Nat.le_of_ble_eq_true rfl⟩ ⟨rfl, rfl⟩ hP (hD _ _) [1, 2, 3, 4, 5, 6] rfl rfl (ci := 0) rfl rfl rfl hl.1 rfl (Nat.le_of_ble_eq_true rfl) dX2_flowIn_63 ⟨Nat.zero_le _, Nat.zero_le _⟩) hP hS (fun r9 _ H locs hr10 hP hS => ?_)
      obtain ⟨rfl, hz11⟩ := hr10
      refine lv_if_ne (tgt := 98) hx hb dX2_flowIn_66 (by decide) (fun c12 => ?_) (fun c12 => ?_)
      · refine lv_aload_n hx hb dX2_flowIn_98 rfl (lv_at hl 2 rfl) ?_
        refine kR_i (runV fx (As := []) (rest := []) (c_X2_hasGas l D q H.size h kr w r) lk_X2_58 ⟨Nat.le_of_ble_eq_true rfl, Nat.le_of_ble_eq_true rfl⟩ ⟨rfl, rfl⟩ hP (hD _ _) [0, 1, 2, 3, 4, 5, 6] rfl rfl (ci := 2) rfl rfl rfl hl.1 rfl (Nat.le_of_ble_eq_true rfl) dX2_flowIn_99 ⟨Nat.zero_le _, Nat.zero_le _⟩) hP hS (fun r13 _ H locs hr14 hP hS => ?_)
        obtain ⟨rfl, hz15⟩ := hr14
        have K113 : ∀ (w18 : WS) (H : Heap) (locs : List Loc) (ls : Array Slot), f_X2_flowIn w r = f_X2_flowIn_b113 w r w18 → va_P D vwCl (cWell h kr q w18 r) H → va_S A s.heap H locs → lv_has ls 3 [(0, .ref h), (2, .int (imin (40 : Int32) ((1 : Int32) + ((((f_X0_poreAt r (W_depth w)) - (f_X2_bottom w)) * (f_X0_rateAt r (W_depth w))) / (10000 : Int32)))))] → W p l e RM_X2_flowIn s m args below meth c H locs 0 0 Q (F0 m 113 ls []) := by
          intro w18 H locs ls ht hP hS hl
          refine lv_aload_n hx hb dX2_flowIn_113 rfl (lv_at hl 0 rfl) ?_
          refine lv_dup hx hb dX2_flowIn_114 rfl ?_
          refine gf_X2_36 fx hP 0 rfl (v := W_charge w18) rfl dX2_flowIn_115 ?_
          refine lv_iload_n hx hb dX2_flowIn_118 rfl (lv_at hl 1 rfl) ?_
          refine lv_i2l (v := (imin (40 : Int32) ((1 : Int32) + ((((f_X0_poreAt r (W_depth w)) - (f_X2_bottom w)) * (f_X0_rateAt r (W_depth w))) / (10000 : Int32)))).toInt64) hx hb dX2_flowIn_119 rfl ?_
          refine lv_iconst (v := 1) hx hb dX2_flowIn_120 (by decide) ?_
          refine lv_aload_n hx hb dX2_flowIn_121 rfl (lv_at hl 0 rfl) ?_
          refine kR_i (runV fx (As := []) (rest := [.int (1 : Int32), .long ((imin (40 : Int32) ((1 : Int32) + ((((f_X0_poreAt r (W_depth w)) - (f_X2_bottom w)) * (f_X0_rateAt r (W_depth w))) / (10000 : Int32)))).toInt64), .long (W_charge w18), .ref h]) (c_X2_bottom l D q H.size h kr w18 r) lk_X2_108 ⟨Nat.le_of_ble_eq_true rfl, Nat.le_of_ble_eq_true rfl⟩ ⟨rfl, rfl⟩ hP (hD _ _) [0, 1, 2, 3, 4, 5, 6] rfl rfl (ci := 2) rfl rfl rfl hl.1 rfl (Nat.le_of_ble_eq_true rfl) dX2_flowIn_122 ⟨Nat.zero_le _, Nat.zero_le _⟩) hP hS (fun r19 _ H locs hr20 hP hS => ?_)
          subst hr20
          refine kimax fx mm_37 hl.1 (Nat.le_of_ble_eq_true rfl) (Nat.le_of_ble_eq_true rfl) (Nat.zero_le _) (Nat.zero_le _) dX2_flowIn_125 ?_
          refine lv_i2l (v := (imax (1 : Int32) (f_X2_bottom w18)).toInt64) hx hb dX2_flowIn_128 rfl ?_
          refine lv_lmul hx hb dX2_flowIn_129 ?_
          refine lv_ladd hx hb dX2_flowIn_130 ?_
          refine pf_X2_36 fx hP (hD _ _) hS 0 rfl dX2_flowIn_131 (fun H locs hP hS => ?_)
          have hP : va_P D vwCl (cWell h kr q (W_set_charge w18 ((W_charge w18) + (((imin (40 : Int32) ((1 : Int32) + ((((f_X0_poreAt r (W_depth w)) - (f_X2_bottom w)) * (f_X0_rateAt r (W_depth w))) / (10000 : Int32)))).toInt64) * ((imax (1 : Int32) (f_X2_bottom w18)).toInt64)))) r) H := hP
          refine lv_aload_n hx hb dX2_flowIn_134 rfl (lv_at hl 0 rfl) ?_
          refine kW_v (runV fx (As := []) (rest := []) (c_X2_measureGas l D q H.size h kr (W_set_charge w18 ((W_charge w18) + (((imin (40 : Int32) ((1 : Int32) + ((((f_X0_poreAt r (W_depth w)) - (f_X2_bottom w)) * (f_X0_rateAt r (W_depth w))) / (10000 : Int32)))).toInt64) * ((imax (1 : Int32) (f_X2_bottom w18)).toInt64)))) r) lk_X2_83 ⟨Nat.le_of_ble_eq_true rfl, Nat.le_of_ble_eq_true rfl⟩ ⟨rfl, rfl⟩ hP (hD _ _) [0, 1, 2, 3, 4, 5, 6] rfl rfl (ci := 2) rfl rfl rfl hl.1 rfl (Nat.le_of_ble_eq_true rfl) dX2_flowIn_135 ⟨Nat.zero_le _, Nat.zero_le _⟩) hP (hD _ _) hS hA [0, 1, 2, 3, 4, 5, 6] rfl (fun _ => rfl) (fun u21 H locs hw22 hP hS => ?_)
          have hP : va_P D vwCl (cWell h kr q u21 r) H := hP
          refine lv_iconst (v := 1) hx hb dX2_flowIn_138 (by decide) ?_
          exact hret (1 : Int32) u21 _ _ _ _ dX2_flowIn_139 bz1 (ht.trans (by simp only [f_X2_flowIn_b113, hw22])) hP hS
        refine lv_if_ne (tgt := 113) hx hb dX2_flowIn_102 (by decide) (fun c17 => ?_) (fun c17 => ?_)
        · exact K113 w H locs ls (ht.trans (by simp only [f_X2_flowIn, if_pos c5, if_pos c6, if_neg c12, if_neg c17])) hP hS (lv_sub hl [2, 0] rfl)
        · refine lv_aload_n hx hb dX2_flowIn_105 rfl (lv_at hl 2 rfl) ?_
          refine lv_aload_n hx hb dX2_flowIn_106 rfl (lv_at hl 2 rfl) ?_
          refine gf_X2_20 fx hP 0 rfl (v := W_depth w) rfl dX2_flowIn_107 ?_
          refine pf_X2_40 fx hP (hD _ _) hS 0 rfl dX2_flowIn_110 (fun H locs hP hS => ?_)
          have hP : va_P D vwCl (cWell h kr q (W_set_place w (W_depth w)) r) H := hP
          exact K113 (W_set_place w (W_depth w)) H locs ls (ht.trans (by simp only [f_X2_flowIn, if_pos c5, if_pos c6, if_neg c12, if_pos c17])) hP hS (lv_sub hl [2, 0] rfl)
      · refine lv_aload_n hx hb dX2_flowIn_69 rfl (lv_at hl 2 rfl) ?_
        refine lv_dup hx hb dX2_flowIn_70 rfl ?_
        refine gf_X2_46 fx hP 0 rfl (v := W_liquid w) rfl dX2_flowIn_71 ?_
        refine lv_iload_n hx hb dX2_flowIn_74 rfl (lv_at hl 0 rfl) ?_
        refine lv_aload_n hx hb dX2_flowIn_75 rfl (lv_at hl 2 rfl) ?_
        refine gf_X2_20 fx hP 0 rfl (v := W_depth w) rfl dX2_flowIn_76 ?_
        refine lv_aload_n hx hb dX2_flowIn_79 rfl (lv_at hl 2 rfl) ?_
        refine gf_X2_43 fx hP 0 rfl (v := W_gas w) rfl dX2_flowIn_80 ?_
        refine lv_isub hx hb dX2_flowIn_83 ?_
        refine lv_aload_n hx hb dX2_flowIn_84 rfl (lv_at hl 2 rfl) ?_
        refine gf_X2_46 fx hP 0 rfl (v := W_liquid w) rfl dX2_flowIn_85 ?_
        refine lv_isub hx hb dX2_flowIn_88 ?_
        refine kimin fx mm_65 hl.1 (Nat.le_of_ble_eq_true rfl) (Nat.le_of_ble_eq_true rfl) (Nat.zero_le _) (Nat.zero_le _) dX2_flowIn_89 ?_
        refine lv_iadd hx hb dX2_flowIn_92 ?_
        refine pf_X2_46 fx hP (hD _ _) hS 0 rfl dX2_flowIn_93 (fun H locs hP hS => ?_)
        have hP : va_P D vwCl (cWell h kr q (W_set_liquid w ((W_liquid w) + (imin (imin (40 : Int32) ((1 : Int32) + ((((f_X0_poreAt r (W_depth w)) - (f_X2_bottom w)) * (f_X0_rateAt r (W_depth w))) / (10000 : Int32)))) (((W_depth w) - (W_gas w)) - (W_liquid w))))) r) H := hP
        refine lv_iconst (v := 1) hx hb dX2_flowIn_96 (by decide) ?_
        exact hret (1 : Int32) (W_set_liquid w ((W_liquid w) + (imin (imin (40 : Int32) ((1 : Int32) + ((((f_X0_poreAt r (W_depth w)) - (f_X2_bottom w)) * (f_X0_rateAt r (W_depth w))) / (10000 : Int32)))) (((W_depth w) - (W_gas w)) - (W_liquid w))))) _ _ _ _ dX2_flowIn_97 bz1 (ht.trans (by simp only [f_X2_flowIn, if_pos c5, if_pos c6, if_pos c12])) hP hS
    · refine lv_iconst (v := 0) hx hb dX2_flowIn_28 (by decide) ?_
      exact hret (0 : Int32) w _ _ _ _ dX2_flowIn_29 bz0 (ht.trans (by simp only [f_X2_flowIn, if_pos c5, if_neg c6])) hP hS

/-! X2_loseAtShoe -/
def f_X2_loseAtShoe (w : WS) (r : RS) : WS :=
  if (W_shoe w) ≤ 0 then w else (if (f_X2_foot w) ≤ (f_X0_breakAt r (W_shoe w)) then w else (W_set_lost w ((W_lost w) + (5 : Int32))))

abbrev RM_X2_loseAtShoe : Room := { frames := 2, cells := 0, slots := 0, locals := 46 }
set_option maxRecDepth 100000 in
set_option maxHeartbeats 4000000 in
theorem c_X2_loseAtShoe (l : Launch) (D : va_G) (q : Nat → ClassId) (sz : Nat) (h : Nat) (kr : Nat → Nat) (w : WS) (r : RS) : Met l yX2_loseAtShoe (Cond.code yX2_loseAtShoe cX2_loseAtShoe 1 none :: ALL) RM_X2_loseAtShoe (PC D q [.ref h] (cWell h kr q w r) sz) (va_Qv (fun (u : WS) => f_X2_loseAtShoe w r = u) (fun u t9 => va_P D vwCl (cWell h kr q u r) t9.heap) (va_A (cWell h kr q w r) sz)) 0 0 (va_A (cWell h kr q w r) sz) := by
  refine en_vW (by decide +kernel) (Nat.le_of_ble_eq_true rfl) ?_
  intro p e s m args below meth c Q A H locs ls fx hD0 hA hP hS hl hret
  have hx := fx.1
  have hb := fx.2.1
  have hl : lv_has ls 1 [(0, .ref h)] := hl
  have hD : ∀ (w9 : WS) (r9 : RS), va_D _ (cWell h kr q w9 r9) := fun _ _ => D_same ((fst_Well _ _ _ _ _).trans (fst_Well _ _ _ _ _).symm) hD0
  have ht : f_X2_loseAtShoe w r = f_X2_loseAtShoe w r := rfl
  refine lv_aload_n hx hb dX2_loseAtShoe_0 rfl (lv_at hl 0 rfl) ?_
  refine gf_X2_23 fx hP 0 rfl (v := W_shoe w) rfl dX2_loseAtShoe_1 ?_
  refine lv_if_le (tgt := 35) hx hb dX2_loseAtShoe_4 (by decide) (fun c1 => ?_) (fun c1 => ?_)
  · exact hret w _ _ _ _ dX2_loseAtShoe_35 (ht.trans (by simp only [f_X2_loseAtShoe, if_pos c1])) hP hS
  · refine lv_aload_n hx hb dX2_loseAtShoe_7 rfl (lv_at hl 0 rfl) ?_
    refine kR_i (runV fx (As := []) (rest := []) (c_X2_foot l D q H.size h kr w r) lk_X2_120 ⟨Nat.le_of_ble_eq_true rfl, Nat.le_of_ble_eq_true rfl⟩ ⟨rfl, rfl⟩ hP (hD _ _) [0, 1, 2, 3, 4, 5, 6] rfl rfl (ci := 2) rfl rfl rfl hl.1 rfl (Nat.le_of_ble_eq_true rfl) dX2_loseAtShoe_8 ⟨Nat.zero_le _, Nat.zero_le _⟩) hP hS (fun r2 _ H locs hr3 hP hS => ?_)
    subst hr3
    refine lv_aload_n hx hb dX2_loseAtShoe_11 rfl (lv_at hl 0 rfl) ?_
    refine gf_X2_7 fx hP 0 rfl dX2_loseAtShoe_12 ?_
    refine lv_aload_n hx hb dX2_loseAtShoe_15 rfl (lv_at hl 0 rfl) ?_
    refine gf_X2_23 fx hP 0 rfl (v := W_shoe w) rfl dX2_loseAtShoe_16 ?_
    refine kR_i (runVN fx (As := [.int (W_shoe w)]) (rest := [.int (f_X2_foot w)]) (c_X0_breakAt l D q H.size kr r (W_shoe w)) lk_X2_123 ⟨Nat.le_of_ble_eq_true rfl, Nat.le_of_ble_eq_true rfl⟩ ⟨rfl, rfl⟩ hP (hD _ _) [1, 2, 3, 4, 5, 6] rfl rfl (ci := 0) rfl rfl rfl hl.1 rfl (Nat.le_of_ble_eq_true rfl) dX2_loseAtShoe_19 ⟨Nat.zero_le _, Nat.zero_le _⟩) hP hS (fun r4 _ H locs hr5 hP hS => ?_)
    subst hr5
    refine lv_icmp_le (tgt := 35) hx hb dX2_loseAtShoe_22 (by decide) (fun c6 => ?_) (fun c6 => ?_)
    · exact hret w _ _ _ _ dX2_loseAtShoe_35 (ht.trans (by simp only [f_X2_loseAtShoe, if_neg c1, if_pos c6])) hP hS
    · refine lv_aload_n hx hb dX2_loseAtShoe_25 rfl (lv_at hl 0 rfl) ?_
      refine lv_dup hx hb dX2_loseAtShoe_26 rfl ?_
      refine gf_X2_52 fx hP 0 rfl (v := W_lost w) rfl dX2_loseAtShoe_27 ?_
      refine lv_iconst (v := 5) hx hb dX2_loseAtShoe_30 (by decide) ?_
      refine lv_iadd hx hb dX2_loseAtShoe_31 ?_
      refine pf_X2_52 fx hP (hD _ _) hS 0 rfl dX2_loseAtShoe_32 (fun H locs hP hS => ?_)
      have hP : va_P D vwCl (cWell h kr q (W_set_lost w ((W_lost w) + (5 : Int32))) r) H := hP
      exact hret (W_set_lost w ((W_lost w) + (5 : Int32))) _ _ _ _ dX2_loseAtShoe_35 (ht.trans (by simp only [f_X2_loseAtShoe, if_neg c1, if_neg c6])) hP hS

/-! X2_letMinuteGo -/
def f_X2_letMinuteGo (w : WS) (r : RS) (p0 : Int32) : Int32 × WS :=
  ((f_X2_flowIn (f_X2_setChoke (f_X2_measureGas (f_X2_ventGas (f_X2_raiseGas (W_set_minutes w ((W_minutes w) + (1 : Int32))) p0) p0)) r) r).1, (f_X2_loseAtShoe ((f_X2_flowIn (f_X2_setChoke (f_X2_measureGas (f_X2_ventGas (f_X2_raiseGas (W_set_minutes w ((W_minutes w) + (1 : Int32))) p0) p0)) r) r).2) r))

abbrev RM_X2_letMinuteGo : Room := { frames := 4, cells := 0, slots := 0, locals := 87 }
set_option maxRecDepth 100000 in
set_option maxHeartbeats 4000000 in
theorem c_X2_letMinuteGo (l : Launch) (D : va_G) (q : Nat → ClassId) (sz : Nat) (h : Nat) (kr : Nat → Nat) (w : WS) (r : RS) (p0 : Int32) : Met l yX2_letMinuteGo (Cond.code yX2_letMinuteGo cX2_letMinuteGo 3 (some .boolean) :: ALL) RM_X2_letMinuteGo (PC D q [.ref h, .int p0] (cWell h kr q w r) sz) (va_Qi (fun (rv : Int32) (u : WS) => f_X2_letMinuteGo w r p0 = (rv, u) ∧ bz rv) (fun u t9 => va_P D vwCl (cWell h kr q u r) t9.heap) (va_A (cWell h kr q w r) sz)) 0 0 (va_A (cWell h kr q w r) sz) := by
  refine en_zW (by decide +kernel) (Nat.le_of_ble_eq_true rfl) ?_
  intro p e s m args below meth c Q A H locs ls fx hD0 hA hP hS hl hret
  have hx := fx.1
  have hb := fx.2.1
  have hl : lv_has ls 3 [(0, .ref h), (1, .int p0)] := hl
  have hD : ∀ (w9 : WS) (r9 : RS), va_D _ (cWell h kr q w9 r9) := fun _ _ => D_same ((fst_Well _ _ _ _ _).trans (fst_Well _ _ _ _ _).symm) hD0
  have ht : f_X2_letMinuteGo w r p0 = f_X2_letMinuteGo w r p0 := rfl
  refine lv_aload_n hx hb dX2_letMinuteGo_0 rfl (lv_at hl 0 rfl) ?_
  refine lv_dup hx hb dX2_letMinuteGo_1 rfl ?_
  refine gf_X2_55 fx hP 0 rfl (v := W_minutes w) rfl dX2_letMinuteGo_2 ?_
  refine lv_iconst (v := 1) hx hb dX2_letMinuteGo_5 (by decide) ?_
  refine lv_iadd hx hb dX2_letMinuteGo_6 ?_
  refine pf_X2_55 fx hP (hD _ _) hS 0 rfl dX2_letMinuteGo_7 (fun H locs hP hS => ?_)
  have hP : va_P D vwCl (cWell h kr q (W_set_minutes w ((W_minutes w) + (1 : Int32))) r) H := hP
  refine lv_aload_n hx hb dX2_letMinuteGo_10 rfl (lv_at hl 0 rfl) ?_
  refine lv_iload_n hx hb dX2_letMinuteGo_11 rfl (lv_at hl 1 rfl) ?_
  refine kW_v (runV fx (As := [.int p0]) (rest := []) (c_X2_raiseGas l D q H.size h kr (W_set_minutes w ((W_minutes w) + (1 : Int32))) r p0) lk_X2_76 ⟨Nat.le_of_ble_eq_true rfl, Nat.le_of_ble_eq_true rfl⟩ ⟨rfl, rfl⟩ hP (hD _ _) [0, 1, 2, 3, 4, 5, 6] rfl rfl (ci := 2) rfl rfl rfl hl.1 rfl (Nat.le_of_ble_eq_true rfl) dX2_letMinuteGo_12 ⟨Nat.zero_le _, Nat.zero_le _⟩) hP (hD _ _) hS hA [0, 1, 2, 3, 4, 5, 6] rfl (fun _ => rfl) (fun u1 H locs hw2 hP hS => ?_)
  have hP : va_P D vwCl (cWell h kr q u1 r) H := hP
  refine lv_aload_n hx hb dX2_letMinuteGo_15 rfl (lv_at hl 0 rfl) ?_
  refine lv_iload_n hx hb dX2_letMinuteGo_16 rfl (lv_at hl 1 rfl) ?_
  refine kW_v (runV fx (As := [.int p0]) (rest := []) (c_X2_ventGas l D q H.size h kr u1 r p0) lk_X2_80 ⟨Nat.le_of_ble_eq_true rfl, Nat.le_of_ble_eq_true rfl⟩ ⟨rfl, rfl⟩ hP (hD _ _) [0, 1, 2, 3, 4, 5, 6] rfl rfl (ci := 2) rfl rfl rfl hl.1 rfl (Nat.le_of_ble_eq_true rfl) dX2_letMinuteGo_17 ⟨Nat.zero_le _, Nat.zero_le _⟩) hP (hD _ _) hS hA [0, 1, 2, 3, 4, 5, 6] rfl (fun _ => rfl) (fun u3 H locs hw4 hP hS => ?_)
  have hP : va_P D vwCl (cWell h kr q u3 r) H := hP
  refine lv_aload_n hx hb dX2_letMinuteGo_20 rfl (lv_at hl 0 rfl) ?_
  refine kW_v (runV fx (As := []) (rest := []) (c_X2_measureGas l D q H.size h kr u3 r) lk_X2_83 ⟨Nat.le_of_ble_eq_true rfl, Nat.le_of_ble_eq_true rfl⟩ ⟨rfl, rfl⟩ hP (hD _ _) [0, 1, 2, 3, 4, 5, 6] rfl rfl (ci := 2) rfl rfl rfl hl.1 rfl (Nat.le_of_ble_eq_true rfl) dX2_letMinuteGo_21 ⟨Nat.zero_le _, Nat.zero_le _⟩) hP (hD _ _) hS hA [0, 1, 2, 3, 4, 5, 6] rfl (fun _ => rfl) (fun u5 H locs hw6 hP hS => ?_)
  have hP : va_P D vwCl (cWell h kr q u5 r) H := hP
  refine lv_aload_n hx hb dX2_letMinuteGo_24 rfl (lv_at hl 0 rfl) ?_
  refine kW_v (runV fx (As := []) (rest := []) (c_X2_setChoke l D q H.size h kr u5 r) lk_X2_86 ⟨Nat.le_of_ble_eq_true rfl, Nat.le_of_ble_eq_true rfl⟩ ⟨rfl, rfl⟩ hP (hD _ _) [0, 1, 2, 3, 4, 5, 6] rfl rfl (ci := 2) rfl rfl rfl hl.1 rfl (Nat.le_of_ble_eq_true rfl) dX2_letMinuteGo_25 ⟨Nat.zero_le _, Nat.zero_le _⟩) hP (hD _ _) hS hA [0, 1, 2, 3, 4, 5, 6] rfl (fun _ => rfl) (fun u7 H locs hw8 hP hS => ?_)
  have hP : va_P D vwCl (cWell h kr q u7 r) H := hP
  refine lv_aload_n hx hb dX2_letMinuteGo_28 rfl (lv_at hl 0 rfl) ?_
  refine kW_i (runV fx (As := []) (rest := []) (c_X2_flowIn l D q H.size h kr u7 r) lk_X2_89 ⟨Nat.le_of_ble_eq_true rfl, Nat.le_of_ble_eq_true rfl⟩ ⟨rfl, rfl⟩ hP (hD _ _) [0, 1, 2, 3, 4, 5, 6] rfl rfl (ci := 2) rfl rfl rfl hl.1 rfl (Nat.le_of_ble_eq_true rfl) dX2_letMinuteGo_29 ⟨Nat.zero_le _, Nat.zero_le _⟩) hP (hD _ _) hS hA [0, 1, 2, 3, 4, 5, 6] rfl (fun _ => rfl) (fun r11 u9 H locs hw10 hP hS => ?_)
  obtain ⟨hw10, hz12⟩ := hw10
  have hP : va_P D vwCl (cWell h kr q u9 r) H := hP
  refine lv_istore_n (lv' := [(2, .int r11), (0, .ref h), (1, .int p0)]) hx hb dX2_letMinuteGo_32 rfl hl (by decide) rfl (fun ls hl => ?_)
  refine lv_aload_n hx hb dX2_letMinuteGo_33 rfl (lv_at hl 1 rfl) ?_
  refine kW_v (runV fx (As := []) (rest := []) (c_X2_loseAtShoe l D q H.size h kr u9 r) lk_X2_92 ⟨Nat.le_of_ble_eq_true rfl, Nat.le_of_ble_eq_true rfl⟩ ⟨rfl, rfl⟩ hP (hD _ _) [0, 1, 2, 3, 4, 5, 6] rfl rfl (ci := 2) rfl rfl rfl hl.1 rfl (Nat.le_of_ble_eq_true rfl) dX2_letMinuteGo_34 ⟨Nat.zero_le _, Nat.zero_le _⟩) hP (hD _ _) hS hA [0, 1, 2, 3, 4, 5, 6] rfl (fun _ => rfl) (fun u13 H locs hw14 hP hS => ?_)
  have hP : va_P D vwCl (cWell h kr q u13 r) H := hP
  refine lv_iload_n hx hb dX2_letMinuteGo_37 rfl (lv_at hl 0 rfl) ?_
  exact hret r11 u13 _ _ _ _ dX2_letMinuteGo_38 hz12 (ht.trans (by simp only [f_X2_letMinuteGo, hw2, hw4, hw6, hw8, hw10, hw14])) hP hS

/-! X2_letMinutesGo -/
def f_X2_letMinutesGo_L2 (r : RS) (p0 : Int32) : Nat → Int32 → WS → WS
  | 0, _, w11 => w11
  | n + 1, i10, w11 => if p0 ≤ i10 then w11 else (f_X2_letMinutesGo_L2 r p0 n (i10 + (1 : Int32)) ((f_X2_letMinuteGo w11 r (0 : Int32)).2))

def ok_X2_letMinutesGo_L2 (r : RS) (p0 : Int32) : Nat → Int32 → WS → Prop
  | 0, _, _ => False
  | n + 1, i10, w11 => (p0 ≤ i10 → True) ∧ (¬ p0 ≤ i10 → (ok_X2_letMinutesGo_L2 r p0 n (i10 + (1 : Int32)) ((f_X2_letMinuteGo w11 r (0 : Int32)).2)))

def f_X2_letMinutesGo (N : Nat) (w : WS) (r : RS) (p0 : Int32) : Int32 × WS :=
  ((W_gas (f_X2_letMinutesGo_L2 r p0 N (0 : Int32) w)) + (W_liquid (f_X2_letMinutesGo_L2 r p0 N (0 : Int32) w)), (f_X2_letMinutesGo_L2 r p0 N (0 : Int32) w))

def ok_X2_letMinutesGo (N : Nat) (w : WS) (r : RS) (p0 : Int32) : Prop :=
  (ok_X2_letMinutesGo_L2 r p0 N (0 : Int32) w) ∧ True

abbrev RM_X2_letMinutesGo : Room := { frames := 5, cells := 0, slots := 0, locals := 109 }
set_option maxRecDepth 100000 in
set_option maxHeartbeats 4000000 in
theorem c_X2_letMinutesGo (l : Launch) (D : va_G) (q : Nat → ClassId) (sz : Nat) (h : Nat) (kr : Nat → Nat) (w : WS) (r : RS) (p0 : Int32) (N : Nat) (hok : ok_X2_letMinutesGo N w r p0) : Met l yX2_letMinutesGo (Cond.code yX2_letMinutesGo cX2_letMinutesGo 3 (some .int) :: ALL) RM_X2_letMinutesGo (PC D q [.ref h, .int p0] (cWell h kr q w r) sz) (va_Qi (fun (rv : Int32) (u : WS) => f_X2_letMinutesGo N w r p0 = (rv, u)) (fun u t9 => va_P D vwCl (cWell h kr q u r) t9.heap) (va_A (cWell h kr q w r) sz)) 0 0 (va_A (cWell h kr q w r) sz) := by
  refine en_iW (by decide +kernel) (Nat.le_of_ble_eq_true rfl) ?_
  intro p e s m args below meth c Q A H locs ls fx hD0 hA hP hS hl hret
  have hx := fx.1
  have hb := fx.2.1
  have hl : lv_has ls 3 [(0, .ref h), (1, .int p0)] := hl
  have hD : ∀ (w9 : WS) (r9 : RS), va_D _ (cWell h kr q w9 r9) := fun _ _ => D_same ((fst_Well _ _ _ _ _).trans (fst_Well _ _ _ _ _).symm) hD0
  have ht : f_X2_letMinutesGo N w r p0 = f_X2_letMinutesGo N w r p0 := rfl
  simp only [ok_X2_letMinutesGo] at hok
  refine lv_iconst (v := 0) hx hb dX2_letMinutesGo_0 (by decide) ?_
  refine lv_istore_n (lv' := [(2, .int (0 : Int32)), (0, .ref h), (1, .int p0)]) hx hb dX2_letMinutesGo_1 rfl hl (by decide) rfl (fun ls hl => ?_)
  obtain ⟨hokL, hok⟩ := hok
  obtain ⟨z2, hz2⟩ : ∃ z, f_X2_letMinutesGo_L2 r p0 N (0 : Int32) w = z := ⟨_, rfl⟩
  suffices KJ2 : ∀ (H : Heap) (locs : List Loc) (ls : Array Slot), va_P D vwCl (cWell h kr q z2 r) H → va_S A s.heap H locs → lv_has ls 3 [(0, .ref h)] → W p l e RM_X2_letMinutesGo s m args below meth c H locs 0 0 Q (F0 m 19 ls []) by
    have LP2 : ∀ (n : Nat) (i10 : Int32) (w11 : WS) (H : Heap) (locs : List Loc) (ls : Array Slot), ok_X2_letMinutesGo_L2 r p0 n i10 w11 → f_X2_letMinutesGo_L2 r p0 n i10 w11 = z2 → va_P D vwCl (cWell h kr q w11 r) H → va_S A s.heap H locs → lv_has ls 3 [(0, .ref h), (1, .int p0), (2, .int i10)] → W p l e RM_X2_letMinutesGo s m args below meth c H locs 0 0 Q (F0 m 2 ls []) := by
      intro n
      induction n with
      | zero =>
        intro i10 w11 H locs ls hok
        exact (hok : False).elim
      | succ n ih2 =>
        intro i10 w11 H locs ls hok ht hP hS hl
        simp only [ok_X2_letMinutesGo_L2] at hok
        refine lv_iload_n hx hb dX2_letMinutesGo_2 rfl (lv_at hl 2 rfl) ?_
        refine lv_iload_n hx hb dX2_letMinutesGo_3 rfl (lv_at hl 1 rfl) ?_
        refine lv_icmp_ge (tgt := 19) hx hb dX2_letMinutesGo_4 (by decide) (fun c12 => ?_) (fun c12 => ?_)
        · have hok := hok.1 c12
          have hv9 := ht.symm.trans (show _ = w11 by simp only [f_X2_letMinutesGo_L2, if_pos c12])
          subst hv9
          exact KJ2 H locs ls hP hS (lv_sub hl [0] rfl)
        · have hok := hok.2 c12
          refine lv_aload_n hx hb dX2_letMinutesGo_7 rfl (lv_at hl 0 rfl) ?_
          refine lv_iconst (v := 0) hx hb dX2_letMinutesGo_8 (by decide) ?_
          refine kW_i (runV fx (As := [.int (0 : Int32)]) (rest := []) (c_X2_letMinuteGo l D q H.size h kr w11 r (0 : Int32)) lk_X2_72 ⟨Nat.le_of_ble_eq_true rfl, Nat.le_of_ble_eq_true rfl⟩ ⟨rfl, rfl⟩ hP (hD _ _) [0, 1, 2, 3, 4, 5, 6] rfl rfl (ci := 2) rfl rfl rfl hl.1 rfl (Nat.le_of_ble_eq_true rfl) dX2_letMinutesGo_9 ⟨Nat.zero_le _, Nat.zero_le _⟩) hP (hD _ _) hS hA [0, 1, 2, 3, 4, 5, 6] rfl (fun _ => rfl) (fun r15 u13 H locs hw14 hP hS => ?_)
          obtain ⟨hw14, hz16⟩ := hw14
          have hP : va_P D vwCl (cWell h kr q u13 r) H := hP
          try simp only [hw14] at hok
          refine lv_pop hx hb dX2_letMinutesGo_12 rfl ?_
          refine lv_iinc (v := i10 + (1 : Int32)) (lv' := [(2, .int (i10 + (1 : Int32))), (0, .ref h), (1, .int p0)]) hx hb dX2_letMinutesGo_13 hl (k := 2) rfl rfl (by decide) rfl (fun ls hl => ?_)
          refine lv_goto (tgt := 2) hx hb dX2_letMinutesGo_16 (by decide) ?_
          exact ih2 (i10 + (1 : Int32)) u13 H locs ls hok ((show f_X2_letMinutesGo_L2 r p0 (n + 1) i10 w11 = _ by simp only [f_X2_letMinutesGo_L2, if_neg c12, hw14]).symm.trans ht) hP hS (lv_sub hl [1, 2, 0] rfl)
    exact LP2 N (0 : Int32) w H locs ls hokL hz2 hP hS (lv_sub hl [1, 2, 0] rfl)
  intro H locs ls hP hS hl
  subst hz2
  refine lv_aload_n hx hb dX2_letMinutesGo_19 rfl (lv_at hl 0 rfl) ?_
  refine gf_X2_43 fx hP 0 rfl (v := W_gas (f_X2_letMinutesGo_L2 r p0 N (0 : Int32) w)) rfl dX2_letMinutesGo_20 ?_
  refine lv_aload_n hx hb dX2_letMinutesGo_23 rfl (lv_at hl 0 rfl) ?_
  refine gf_X2_46 fx hP 0 rfl (v := W_liquid (f_X2_letMinutesGo_L2 r p0 N (0 : Int32) w)) rfl dX2_letMinutesGo_24 ?_
  refine lv_iadd hx hb dX2_letMinutesGo_27 ?_
  exact hret ((W_gas (f_X2_letMinutesGo_L2 r p0 N (0 : Int32) w)) + (W_liquid (f_X2_letMinutesGo_L2 r p0 N (0 : Int32) w))) (f_X2_letMinutesGo_L2 r p0 N (0 : Int32) w) _ _ _ _ dX2_letMinutesGo_28 (ht.trans (by simp only [f_X2_letMinutesGo])) hP hS

/-! X2_become -/
def f_X2_become (w : WS) (w2 : WS) : WS :=
  W_set_minutes (W_set_lost (W_set_vented (W_set_liquid (W_set_gas (W_set_place (W_set_charge (W_set_hasBrokenSinceTest (W_set_valveStrength (W_set_choke (W_set_isClosed (W_set_weight (W_set_shoe (W_set_depth w (W_depth w2)) (W_shoe w2)) (W_weight w2)) (W_isClosed w2)) (W_choke w2)) (W_valveStrength w2)) (W_hasBrokenSinceTest w2)) (W_charge w2)) (W_place w2)) (W_gas w2)) (W_liquid w2)) (W_vented w2)) (W_lost w2)) (W_minutes w2)

def ok_X2_become (w2 : WS) : Prop :=
  (bz (W_isClosed w2)) ∧ ((bz (W_hasBrokenSinceTest w2)) ∧ True)

abbrev RM_X2_become : Room := { frames := 0, cells := 0, slots := 0, locals := 0 }
set_option maxRecDepth 100000 in
set_option maxHeartbeats 4000000 in
theorem c_X2_become (l : Launch) (D : va_G) (q : Nat → ClassId) (sz : Nat) (h : Nat) (h2 : Nat) (kr : Nat → Nat) (w : WS) (w2 : WS) (hok : ok_X2_become w2) : Met l yX2_become (Cond.code yX2_become cX2_become 2 none :: ALL) RM_X2_become (PC D q [.ref h, .ref h2] (cTwo h h2 kr q w w2) sz) (va_Qv (fun (u : WS) => f_X2_become w w2 = u) (fun u t9 => va_P D vwCl (cTwo h h2 kr q u w2) t9.heap) (va_A (cTwo h h2 kr q w w2) sz)) 0 0 (va_A (cTwo h h2 kr q w w2) sz) := by
  refine en_vW (by decide +kernel) (Nat.le_of_ble_eq_true rfl) ?_
  intro p e s m args below meth c Q A H locs ls fx hD0 hA hP hS hl hret
  have hx := fx.1
  have hb := fx.2.1
  have hl : lv_has ls 2 [(0, .ref h), (1, .ref h2)] := hl
  have hD : ∀ (w9 : WS) (w29 : WS), va_D _ (cTwo h h2 kr q w9 w29) := fun _ _ => D_same ((fst_Two _ _ _ _ _ _).trans (fst_Two _ _ _ _ _ _).symm) hD0
  have ht : f_X2_become w w2 = f_X2_become w w2 := rfl
  simp only [ok_X2_become] at hok
  refine lv_aload_n hx hb dX2_become_0 rfl (lv_at hl 0 rfl) ?_
  refine lv_aload_n hx hb dX2_become_1 rfl (lv_at hl 1 rfl) ?_
  refine gf_X2_20 fx hP 1 rfl (v := W_depth w2) rfl dX2_become_2 ?_
  refine pf_X2_20 fx hP (hD _ _) hS 0 rfl dX2_become_5 (fun H locs hP hS => ?_)
  have hP : va_P D vwCl (cTwo h h2 kr q (W_set_depth w (W_depth w2)) w2) H := hP
  refine lv_aload_n hx hb dX2_become_8 rfl (lv_at hl 0 rfl) ?_
  refine lv_aload_n hx hb dX2_become_9 rfl (lv_at hl 1 rfl) ?_
  refine gf_X2_23 fx hP 1 rfl (v := W_shoe w2) rfl dX2_become_10 ?_
  refine pf_X2_23 fx hP (hD _ _) hS 0 rfl dX2_become_13 (fun H locs hP hS => ?_)
  have hP : va_P D vwCl (cTwo h h2 kr q (W_set_shoe (W_set_depth w (W_depth w2)) (W_shoe w2)) w2) H := hP
  refine lv_aload_n hx hb dX2_become_16 rfl (lv_at hl 0 rfl) ?_
  refine lv_aload_n hx hb dX2_become_17 rfl (lv_at hl 1 rfl) ?_
  refine gf_X2_13 fx hP 1 rfl (v := W_weight w2) rfl dX2_become_18 ?_
  refine pf_X2_13 fx hP (hD _ _) hS 0 rfl dX2_become_21 (fun H locs hP hS => ?_)
  have hP : va_P D vwCl (cTwo h h2 kr q (W_set_weight (W_set_shoe (W_set_depth w (W_depth w2)) (W_shoe w2)) (W_weight w2)) w2) H := hP
  refine lv_aload_n hx hb dX2_become_24 rfl (lv_at hl 0 rfl) ?_
  refine lv_aload_n hx hb dX2_become_25 rfl (lv_at hl 1 rfl) ?_
  refine gf_X2_26 fx hP 1 rfl (v := W_isClosed w2) rfl dX2_become_26 ?_
  obtain ⟨hz1, hok⟩ := hok
  refine pf_X2_26 fx hP (hD _ _) hS 0 rfl (hz := hz1) dX2_become_29 (fun H locs hP hS => ?_)
  have hP : va_P D vwCl (cTwo h h2 kr q (W_set_isClosed (W_set_weight (W_set_shoe (W_set_depth w (W_depth w2)) (W_shoe w2)) (W_weight w2)) (W_isClosed w2)) w2) H := hP
  refine lv_aload_n hx hb dX2_become_32 rfl (lv_at hl 0 rfl) ?_
  refine lv_aload_n hx hb dX2_become_33 rfl (lv_at hl 1 rfl) ?_
  refine gf_X2_30 fx hP 1 rfl (v := W_choke w2) rfl dX2_become_34 ?_
  refine pf_X2_30 fx hP (hD _ _) hS 0 rfl dX2_become_37 (fun H locs hP hS => ?_)
  have hP : va_P D vwCl (cTwo h h2 kr q (W_set_choke (W_set_isClosed (W_set_weight (W_set_shoe (W_set_depth w (W_depth w2)) (W_shoe w2)) (W_weight w2)) (W_isClosed w2)) (W_choke w2)) w2) H := hP
  refine lv_aload_n hx hb dX2_become_40 rfl (lv_at hl 0 rfl) ?_
  refine lv_aload_n hx hb dX2_become_41 rfl (lv_at hl 1 rfl) ?_
  refine gf_X2_17 fx hP 1 rfl (v := W_valveStrength w2) rfl dX2_become_42 ?_
  refine pf_X2_17 fx hP (hD _ _) hS 0 rfl dX2_become_45 (fun H locs hP hS => ?_)
  have hP : va_P D vwCl (cTwo h h2 kr q (W_set_valveStrength (W_set_choke (W_set_isClosed (W_set_weight (W_set_shoe (W_set_depth w (W_depth w2)) (W_shoe w2)) (W_weight w2)) (W_isClosed w2)) (W_choke w2)) (W_valveStrength w2)) w2) H := hP
  refine lv_aload_n hx hb dX2_become_48 rfl (lv_at hl 0 rfl) ?_
  refine lv_aload_n hx hb dX2_become_49 rfl (lv_at hl 1 rfl) ?_
  refine gf_X2_33 fx hP 1 rfl (v := W_hasBrokenSinceTest w2) rfl dX2_become_50 ?_
  obtain ⟨hz2, hok⟩ := hok
  refine pf_X2_33 fx hP (hD _ _) hS 0 rfl (hz := hz2) dX2_become_53 (fun H locs hP hS => ?_)
  have hP : va_P D vwCl (cTwo h h2 kr q (W_set_hasBrokenSinceTest (W_set_valveStrength (W_set_choke (W_set_isClosed (W_set_weight (W_set_shoe (W_set_depth w (W_depth w2)) (W_shoe w2)) (W_weight w2)) (W_isClosed w2)) (W_choke w2)) (W_valveStrength w2)) (W_hasBrokenSinceTest w2)) w2) H := hP
  refine lv_aload_n hx hb dX2_become_56 rfl (lv_at hl 0 rfl) ?_
  refine lv_aload_n hx hb dX2_become_57 rfl (lv_at hl 1 rfl) ?_
  refine gf_X2_36 fx hP 1 rfl (v := W_charge w2) rfl dX2_become_58 ?_
  refine pf_X2_36 fx hP (hD _ _) hS 0 rfl dX2_become_61 (fun H locs hP hS => ?_)
  have hP : va_P D vwCl (cTwo h h2 kr q (W_set_charge (W_set_hasBrokenSinceTest (W_set_valveStrength (W_set_choke (W_set_isClosed (W_set_weight (W_set_shoe (W_set_depth w (W_depth w2)) (W_shoe w2)) (W_weight w2)) (W_isClosed w2)) (W_choke w2)) (W_valveStrength w2)) (W_hasBrokenSinceTest w2)) (W_charge w2)) w2) H := hP
  refine lv_aload_n hx hb dX2_become_64 rfl (lv_at hl 0 rfl) ?_
  refine lv_aload_n hx hb dX2_become_65 rfl (lv_at hl 1 rfl) ?_
  refine gf_X2_40 fx hP 1 rfl (v := W_place w2) rfl dX2_become_66 ?_
  refine pf_X2_40 fx hP (hD _ _) hS 0 rfl dX2_become_69 (fun H locs hP hS => ?_)
  have hP : va_P D vwCl (cTwo h h2 kr q (W_set_place (W_set_charge (W_set_hasBrokenSinceTest (W_set_valveStrength (W_set_choke (W_set_isClosed (W_set_weight (W_set_shoe (W_set_depth w (W_depth w2)) (W_shoe w2)) (W_weight w2)) (W_isClosed w2)) (W_choke w2)) (W_valveStrength w2)) (W_hasBrokenSinceTest w2)) (W_charge w2)) (W_place w2)) w2) H := hP
  refine lv_aload_n hx hb dX2_become_72 rfl (lv_at hl 0 rfl) ?_
  refine lv_aload_n hx hb dX2_become_73 rfl (lv_at hl 1 rfl) ?_
  refine gf_X2_43 fx hP 1 rfl (v := W_gas w2) rfl dX2_become_74 ?_
  refine pf_X2_43 fx hP (hD _ _) hS 0 rfl dX2_become_77 (fun H locs hP hS => ?_)
  have hP : va_P D vwCl (cTwo h h2 kr q (W_set_gas (W_set_place (W_set_charge (W_set_hasBrokenSinceTest (W_set_valveStrength (W_set_choke (W_set_isClosed (W_set_weight (W_set_shoe (W_set_depth w (W_depth w2)) (W_shoe w2)) (W_weight w2)) (W_isClosed w2)) (W_choke w2)) (W_valveStrength w2)) (W_hasBrokenSinceTest w2)) (W_charge w2)) (W_place w2)) (W_gas w2)) w2) H := hP
  refine lv_aload_n hx hb dX2_become_80 rfl (lv_at hl 0 rfl) ?_
  refine lv_aload_n hx hb dX2_become_81 rfl (lv_at hl 1 rfl) ?_
  refine gf_X2_46 fx hP 1 rfl (v := W_liquid w2) rfl dX2_become_82 ?_
  refine pf_X2_46 fx hP (hD _ _) hS 0 rfl dX2_become_85 (fun H locs hP hS => ?_)
  have hP : va_P D vwCl (cTwo h h2 kr q (W_set_liquid (W_set_gas (W_set_place (W_set_charge (W_set_hasBrokenSinceTest (W_set_valveStrength (W_set_choke (W_set_isClosed (W_set_weight (W_set_shoe (W_set_depth w (W_depth w2)) (W_shoe w2)) (W_weight w2)) (W_isClosed w2)) (W_choke w2)) (W_valveStrength w2)) (W_hasBrokenSinceTest w2)) (W_charge w2)) (W_place w2)) (W_gas w2)) (W_liquid w2)) w2) H := hP
  refine lv_aload_n hx hb dX2_become_88 rfl (lv_at hl 0 rfl) ?_
  refine lv_aload_n hx hb dX2_become_89 rfl (lv_at hl 1 rfl) ?_
  refine gf_X2_49 fx hP 1 rfl (v := W_vented w2) rfl dX2_become_90 ?_
  refine pf_X2_49 fx hP (hD _ _) hS 0 rfl dX2_become_93 (fun H locs hP hS => ?_)
  have hP : va_P D vwCl (cTwo h h2 kr q (W_set_vented (W_set_liquid (W_set_gas (W_set_place (W_set_charge (W_set_hasBrokenSinceTest (W_set_valveStrength (W_set_choke (W_set_isClosed (W_set_weight (W_set_shoe (W_set_depth w (W_depth w2)) (W_shoe w2)) (W_weight w2)) (W_isClosed w2)) (W_choke w2)) (W_valveStrength w2)) (W_hasBrokenSinceTest w2)) (W_charge w2)) (W_place w2)) (W_gas w2)) (W_liquid w2)) (W_vented w2)) w2) H := hP
  refine lv_aload_n hx hb dX2_become_96 rfl (lv_at hl 0 rfl) ?_
  refine lv_aload_n hx hb dX2_become_97 rfl (lv_at hl 1 rfl) ?_
  refine gf_X2_52 fx hP 1 rfl (v := W_lost w2) rfl dX2_become_98 ?_
  refine pf_X2_52 fx hP (hD _ _) hS 0 rfl dX2_become_101 (fun H locs hP hS => ?_)
  have hP : va_P D vwCl (cTwo h h2 kr q (W_set_lost (W_set_vented (W_set_liquid (W_set_gas (W_set_place (W_set_charge (W_set_hasBrokenSinceTest (W_set_valveStrength (W_set_choke (W_set_isClosed (W_set_weight (W_set_shoe (W_set_depth w (W_depth w2)) (W_shoe w2)) (W_weight w2)) (W_isClosed w2)) (W_choke w2)) (W_valveStrength w2)) (W_hasBrokenSinceTest w2)) (W_charge w2)) (W_place w2)) (W_gas w2)) (W_liquid w2)) (W_vented w2)) (W_lost w2)) w2) H := hP
  refine lv_aload_n hx hb dX2_become_104 rfl (lv_at hl 0 rfl) ?_
  refine lv_aload_n hx hb dX2_become_105 rfl (lv_at hl 1 rfl) ?_
  refine gf_X2_55 fx hP 1 rfl (v := W_minutes w2) rfl dX2_become_106 ?_
  refine pf_X2_55 fx hP (hD _ _) hS 0 rfl dX2_become_109 (fun H locs hP hS => ?_)
  have hP : va_P D vwCl (cTwo h h2 kr q (W_set_minutes (W_set_lost (W_set_vented (W_set_liquid (W_set_gas (W_set_place (W_set_charge (W_set_hasBrokenSinceTest (W_set_valveStrength (W_set_choke (W_set_isClosed (W_set_weight (W_set_shoe (W_set_depth w (W_depth w2)) (W_shoe w2)) (W_weight w2)) (W_isClosed w2)) (W_choke w2)) (W_valveStrength w2)) (W_hasBrokenSinceTest w2)) (W_charge w2)) (W_place w2)) (W_gas w2)) (W_liquid w2)) (W_vented w2)) (W_lost w2)) (W_minutes w2)) w2) H := hP
  exact hret (W_set_minutes (W_set_lost (W_set_vented (W_set_liquid (W_set_gas (W_set_place (W_set_charge (W_set_hasBrokenSinceTest (W_set_valveStrength (W_set_choke (W_set_isClosed (W_set_weight (W_set_shoe (W_set_depth w (W_depth w2)) (W_shoe w2)) (W_weight w2)) (W_isClosed w2)) (W_choke w2)) (W_valveStrength w2)) (W_hasBrokenSinceTest w2)) (W_charge w2)) (W_place w2)) (W_gas w2)) (W_liquid w2)) (W_vented w2)) (W_lost w2)) (W_minutes w2)) _ _ _ _ dX2_become_112 (ht.trans (by simp only [f_X2_become])) hP hS
end
section
/-! J7_fill_53178 -/
def f_J7_fill_53178_L5 (na : Nat) (p0 : Int32) : Nat → Int32 → (Nat → Int32) → (Nat → Int32)
  | 0, _, f8 => f8
  | n + 1, i7, f8 => if (Int32.ofNat na) ≤ i7 then f8 else (f_J7_fill_53178_L5 na p0 n (i7 + (1 : Int32)) (upd f8 i7.toNatClampNeg p0))

def ok_J7_fill_53178_L5 (na : Nat) (p0 : Int32) : Nat → Int32 → (Nat → Int32) → Prop
  | 0, _, _ => False
  | n + 1, i7, f8 => ((Int32.ofNat na) ≤ i7 → True) ∧ (¬ (Int32.ofNat na) ≤ i7 → ((vp_in i7 na) ∧ (ok_J7_fill_53178_L5 na p0 n (i7 + (1 : Int32)) (upd f8 i7.toNatClampNeg p0))))

def f_J7_fill_53178 (N : Nat) (na : Nat) (f : (Nat → Int32)) (p0 : Int32) : (Nat → Int32) :=
  (f_J7_fill_53178_L5 na p0 N (0 : Int32) f)

def ok_J7_fill_53178 (N : Nat) (na : Nat) (f : (Nat → Int32)) (p0 : Int32) : Prop :=
  (ok_J7_fill_53178_L5 na p0 N (0 : Int32) f) ∧ True

abbrev RM_J7_fill_53178 : Room := { frames := 0, cells := 0, slots := 0, locals := 0 }
set_option maxRecDepth 100000 in
set_option maxHeartbeats 4000000 in
theorem c_J7_fill_53178 (l : Launch) (D : va_G) (q : Nat → ClassId) (sz : Nat) (a : Nat) (na : Nat) (hn : na < 2147483648) (f : (Nat → Int32)) (p0 : Int32) (N : Nat) (hok : ok_J7_fill_53178 N na f p0) : Met l yJ7_fill_53178 (Cond.code yJ7_fill_53178 cJ7_fill_53178 4 none :: ALL) RM_J7_fill_53178 (PC D q [.ref a, .int p0] (cArr a na q f) sz) (va_Qv (fun (u : (Nat → Int32)) => f_J7_fill_53178 N na f p0 = u) (fun u t9 => va_P D vwCl (cArr a na q u) t9.heap) (va_A (cArr a na q f) sz)) 0 0 (va_A (cArr a na q f) sz) := by
  refine en_vW (by decide +kernel) (Nat.le_of_ble_eq_true rfl) ?_
  intro p e s m args below meth c Q A H locs ls fx hD0 hA hP hS hl hret
  have hx := fx.1
  have hb := fx.2.1
  have hl : lv_has ls 4 [(0, .ref a), (1, .int p0)] := hl
  have hD : ∀ (f9 : (Nat → Int32)), va_D _ (cArr a na q f9) := fun _ => D_same ((fst_Arr _ _ _ _).trans (fst_Arr _ _ _ _).symm) hD0
  have ht : f_J7_fill_53178 N na f p0 = f_J7_fill_53178 N na f p0 := rfl
  simp only [ok_J7_fill_53178] at hok
  refine lv_iconst (v := 0) hx hb dJ7_fill_53178_0 (by decide) ?_
  refine lv_istore_n (lv' := [(2, .int (0 : Int32)), (0, .ref a), (1, .int p0)]) hx hb dJ7_fill_53178_1 rfl hl (by decide) rfl (fun ls hl => ?_)
  refine lv_aload_n hx hb dJ7_fill_53178_2 rfl (lv_at hl 1 rfl) ?_
  refine va_alen hx hb fx.2.2.2.2.2.1 hP 0 0 rfl (ty := .int) rfl (v := Int32.ofNat na) rfl dJ7_fill_53178_3 ?_
  refine lv_istore_n (lv' := [(3, .int (Int32.ofNat na)), (2, .int (0 : Int32)), (0, .ref a), (1, .int p0)]) hx hb dJ7_fill_53178_4 rfl hl (by decide) rfl (fun ls hl => ?_)
  obtain ⟨hokL, hok⟩ := hok
  obtain ⟨z5, hz5⟩ : ∃ z, f_J7_fill_53178_L5 na p0 N (0 : Int32) f = z := ⟨_, rfl⟩
  suffices KJ5 : ∀ (H : Heap) (locs : List Loc) (ls : Array Slot), va_P D vwCl (cArr a na q z5) H → va_S A s.heap H locs → lv_has ls 4 [(0, .ref a)] → W p l e RM_J7_fill_53178 s m args below meth c H locs 0 0 Q (F0 m 20 ls []) by
    have LP5 : ∀ (n : Nat) (i7 : Int32) (f8 : (Nat → Int32)) (H : Heap) (locs : List Loc) (ls : Array Slot), ok_J7_fill_53178_L5 na p0 n i7 f8 → f_J7_fill_53178_L5 na p0 n i7 f8 = z5 → va_P D vwCl (cArr a na q f8) H → va_S A s.heap H locs → lv_has ls 4 [(0, .ref a), (1, .int p0), (2, .int i7), (3, .int (Int32.ofNat na))] → W p l e RM_J7_fill_53178 s m args below meth c H locs 0 0 Q (F0 m 5 ls []) := by
      intro n
      induction n with
      | zero =>
        intro i7 f8 H locs ls hok
        exact (hok : False).elim
      | succ n ih5 =>
        intro i7 f8 H locs ls hok ht hP hS hl
        simp only [ok_J7_fill_53178_L5] at hok
        refine lv_iload_n hx hb dJ7_fill_53178_5 rfl (lv_at hl 2 rfl) ?_
        refine lv_iload_n hx hb dJ7_fill_53178_6 rfl (lv_at hl 3 rfl) ?_
        refine lv_icmp_ge (tgt := 20) hx hb dJ7_fill_53178_7 (by decide) (fun c9 => ?_) (fun c9 => ?_)
        · have hok := hok.1 c9
          have hv9 := ht.symm.trans (show _ = f8 by simp only [f_J7_fill_53178_L5, if_pos c9])
          subst hv9
          exact KJ5 H locs ls hP hS (lv_sub hl [0] rfl)
        · have hok := hok.2 c9
          refine lv_aload_n hx hb dJ7_fill_53178_10 rfl (lv_at hl 0 rfl) ?_
          refine lv_iload_n hx hb dJ7_fill_53178_11 rfl (lv_at hl 2 rfl) ?_
          refine lv_iload_n hx hb dJ7_fill_53178_12 rfl (lv_at hl 1 rfl) ?_
          obtain ⟨hi10, hok⟩ := hok
          refine va_iast hx hb fx.2.2.2.2.2.1 hP (hD _) hS 0 0 (f := f8) rfl rfl hi10 dJ7_fill_53178_13 (fun H locs hP _ hS => ?_)
          have hP : va_P D vwCl (cArr a na q (upd f8 i7.toNatClampNeg p0)) H := hP
          refine lv_iinc (v := i7 + (1 : Int32)) (lv' := [(2, .int (i7 + (1 : Int32))), (0, .ref a), (1, .int p0), (3, .int (Int32.ofNat na))]) hx hb dJ7_fill_53178_14 hl (k := 2) rfl rfl (by decide) rfl (fun ls hl => ?_)
          refine lv_goto (tgt := 5) hx hb dJ7_fill_53178_17 (by decide) ?_
          exact ih5 (i7 + (1 : Int32)) (upd f8 i7.toNatClampNeg p0) H locs ls hok ((show f_J7_fill_53178_L5 na p0 (n + 1) i7 f8 = _ by simp only [f_J7_fill_53178_L5, if_neg c9]).symm.trans ht) hP hS (lv_sub hl [1, 2, 0, 3] rfl)
    exact LP5 N (0 : Int32) f H locs ls hokL hz5 hP hS (lv_sub hl [2, 3, 1, 0] rfl)
  intro H locs ls hP hS hl
  subst hz5
  exact hret (f_J7_fill_53178_L5 na p0 N (0 : Int32) f) _ _ _ _ dJ7_fill_53178_20 (ht.trans (by simp only [f_J7_fill_53178])) hP hS

/-! X3_hasMinutes -/
def f_X3_hasMinutes (w : WS) (p0 : Int32) : Int32 :=
  if (100000 : Int32) < ((W_minutes w) + p0) then (0 : Int32) else (1 : Int32)

abbrev RM_X3_hasMinutes : Room := { frames := 0, cells := 0, slots := 0, locals := 0 }
set_option maxRecDepth 100000 in
set_option maxHeartbeats 4000000 in
theorem c_X3_hasMinutes (l : Launch) (D : va_G) (q : Nat → ClassId) (sz : Nat) (h : Nat) (aw : Nat) (av : Nat) (kr : Nat → Nat) (kt : Nat → Nat) (x : XS) (w : WS) (v : WS) (r : RS) (t : TS) (p0 : Int32) : Met l yX3_hasMinutes (Cond.code yX3_hasMinutes cX3_hasMinutes 2 (some .boolean) :: ALL) RM_X3_hasMinutes (PC D q [.ref h, .int p0] (cKick h aw av kr kt q x w v r t) sz) (va_Qi (fun (rv : Int32) (_ : Unit) => f_X3_hasMinutes w p0 = rv ∧ bz rv) (fun _ _ => True) (fun _ => False)) 0 0 (fun _ => False) := by
  refine en_zR (by decide +kernel) (Nat.le_of_ble_eq_true rfl) ?_
  intro p e s m args below meth c Q A H locs ls fx hD0 hP hS hl hret
  have hx := fx.1
  have hb := fx.2.1
  have hl : lv_has ls 2 [(0, .ref h), (1, .int p0)] := hl
  have hD : ∀ (x9 : XS) (w9 : WS) (v9 : WS) (r9 : RS) (t9 : TS), va_D _ (cKick h aw av kr kt q x9 w9 v9 r9 t9) := fun _ _ _ _ _ => D_same ((fst_Kick _ _ _ _ _ _ _ _ _ _ _).trans (fst_Kick _ _ _ _ _ _ _ _ _ _ _).symm) hD0
  have ht : f_X3_hasMinutes w p0 = f_X3_hasMinutes w p0 := rfl
  refine lv_aload_n hx hb dX3_hasMinutes_0 rfl (lv_at hl 0 rfl) ?_
  refine gf_X3_21 fx hP 0 rfl dX3_hasMinutes_1 ?_
  refine gf_X3_151 fx hP 1 rfl (v := W_minutes w) rfl dX3_hasMinutes_4 ?_
  refine lv_iload_n hx hb dX3_hasMinutes_7 rfl (lv_at hl 1 rfl) ?_
  refine lv_iadd hx hb dX3_hasMinutes_8 ?_
  refine lv_ldc hx hb fx.2.2.2.1 (fx.2.2.2.2.1 _ mm_107) dX3_hasMinutes_9 ?_
  refine lv_icmp_gt (tgt := 18) hx hb dX3_hasMinutes_11 (by decide) (fun c1 => ?_) (fun c1 => ?_)
  · refine lv_iconst (v := 0) hx hb dX3_hasMinutes_18 (by decide) ?_
    exact hret (0 : Int32) _ _ _ _ dX3_hasMinutes_19 bz0 (ht.trans (by simp only [f_X3_hasMinutes, if_pos c1])) hS
  · refine lv_iconst (v := 1) hx hb dX3_hasMinutes_14 (by decide) ?_
    refine lv_goto (tgt := 19) hx hb dX3_hasMinutes_15 (by decide) ?_
    exact hret (1 : Int32) _ _ _ _ dX3_hasMinutes_19 bz1 (ht.trans (by simp only [f_X3_hasMinutes, if_neg c1])) hS

/-! X3_isMudBarrier -/
def f_X3_isMudBarrier (w : WS) (r : RS) : Int32 :=
  if (f_X2_hasInflow w) = 0 then (if (f_X2_bottom w) < (f_X0_poreAt r (W_depth w)) then (0 : Int32) else (1 : Int32)) else (0 : Int32)

abbrev RM_X3_isMudBarrier : Room := { frames := 3, cells := 0, slots := 0, locals := 64 }
set_option maxRecDepth 100000 in
set_option maxHeartbeats 4000000 in
theorem c_X3_isMudBarrier (l : Launch) (D : va_G) (q : Nat → ClassId) (sz : Nat) (h : Nat) (aw : Nat) (av : Nat) (kr : Nat → Nat) (kt : Nat → Nat) (x : XS) (w : WS) (v : WS) (r : RS) (t : TS) : Met l yX3_isMudBarrier (Cond.code yX3_isMudBarrier cX3_isMudBarrier 1 (some .boolean) :: ALL) RM_X3_isMudBarrier (PC D q [.ref h] (cKick h aw av kr kt q x w v r t) sz) (va_Qi (fun (rv : Int32) (_ : Unit) => f_X3_isMudBarrier w r = rv ∧ bz rv) (fun _ _ => True) (fun _ => False)) 0 0 (fun _ => False) := by
  refine en_zR (by decide +kernel) (Nat.le_of_ble_eq_true rfl) ?_
  intro p e s m args below meth c Q A H locs ls fx hD0 hP hS hl hret
  have hx := fx.1
  have hb := fx.2.1
  have hl : lv_has ls 1 [(0, .ref h)] := hl
  have hD : ∀ (x9 : XS) (w9 : WS) (v9 : WS) (r9 : RS) (t9 : TS), va_D _ (cKick h aw av kr kt q x9 w9 v9 r9 t9) := fun _ _ _ _ _ => D_same ((fst_Kick _ _ _ _ _ _ _ _ _ _ _).trans (fst_Kick _ _ _ _ _ _ _ _ _ _ _).symm) hD0
  have ht : f_X3_isMudBarrier w r = f_X3_isMudBarrier w r := rfl
  refine lv_aload_n hx hb dX3_isMudBarrier_0 rfl (lv_at hl 0 rfl) ?_
  refine gf_X3_21 fx hP 0 rfl dX3_isMudBarrier_1 ?_
  refine kR_i (runVN fx (As := []) (rest := []) (c_X2_hasInflow l D q H.size aw kr w r) lk_X3_126 ⟨Nat.le_of_ble_eq_true rfl, Nat.le_of_ble_eq_true rfl⟩ ⟨rfl, rfl⟩ hP (hD _ _ _ _ _) [1, 3, 4, 5, 6, 7, 8] rfl rfl (ci := 2) rfl rfl rfl hl.1 rfl (Nat.le_of_ble_eq_true rfl) dX3_isMudBarrier_4 ⟨Nat.zero_le _, Nat.zero_le _⟩) hP hS (fun r1 _ H locs hr2 hP hS => ?_)
  obtain ⟨rfl, hz3⟩ := hr2
  refine lv_if_ne (tgt := 38) hx hb dX3_isMudBarrier_7 (by decide) (fun c4 => ?_) (fun c4 => ?_)
  · refine lv_iconst (v := 0) hx hb dX3_isMudBarrier_38 (by decide) ?_
    exact hret (0 : Int32) _ _ _ _ dX3_isMudBarrier_39 bz0 (ht.trans (by simp only [f_X3_isMudBarrier, if_neg c4])) hS
  · refine lv_aload_n hx hb dX3_isMudBarrier_10 rfl (lv_at hl 0 rfl) ?_
    refine gf_X3_21 fx hP 0 rfl dX3_isMudBarrier_11 ?_
    refine kR_i (runVN fx (As := []) (rest := []) (c_X2_bottom l D q H.size aw kr w r) lk_X3_171 ⟨Nat.le_of_ble_eq_true rfl, Nat.le_of_ble_eq_true rfl⟩ ⟨rfl, rfl⟩ hP (hD _ _ _ _ _) [1, 3, 4, 5, 6, 7, 8] rfl rfl (ci := 2) rfl rfl rfl hl.1 rfl (Nat.le_of_ble_eq_true rfl) dX3_isMudBarrier_14 ⟨Nat.zero_le _, Nat.zero_le _⟩) hP hS (fun r5 _ H locs hr6 hP hS => ?_)
    subst hr6
    refine lv_aload_n hx hb dX3_isMudBarrier_17 rfl (lv_at hl 0 rfl) ?_
    refine gf_X3_10 fx hP 0 rfl dX3_isMudBarrier_18 ?_
    refine lv_aload_n hx hb dX3_isMudBarrier_21 rfl (lv_at hl 0 rfl) ?_
    refine gf_X3_21 fx hP 0 rfl dX3_isMudBarrier_22 ?_
    refine gf_X3_55 fx hP 1 rfl (v := W_depth w) rfl dX3_isMudBarrier_25 ?_
    refine kR_i (runVN fx (As := [.int (W_depth w)]) (rest := [.int (f_X2_bottom w)]) (c_X0_poreAt l D q H.size kr r (W_depth w)) lk_X3_174 ⟨Nat.le_of_ble_eq_true rfl, Nat.le_of_ble_eq_true rfl⟩ ⟨rfl, rfl⟩ hP (hD _ _ _ _ _) [3, 4, 5, 6, 7, 8] rfl rfl (ci := 0) rfl rfl rfl hl.1 rfl (Nat.le_of_ble_eq_true rfl) dX3_isMudBarrier_28 ⟨Nat.zero_le _, Nat.zero_le _⟩) hP hS (fun r7 _ H locs hr8 hP hS => ?_)
    subst hr8
    refine lv_icmp_lt (tgt := 38) hx hb dX3_isMudBarrier_31 (by decide) (fun c9 => ?_) (fun c9 => ?_)
    · refine lv_iconst (v := 0) hx hb dX3_isMudBarrier_38 (by decide) ?_
      exact hret (0 : Int32) _ _ _ _ dX3_isMudBarrier_39 bz0 (ht.trans (by simp only [f_X3_isMudBarrier, if_pos c4, if_pos c9])) hS
    · refine lv_iconst (v := 1) hx hb dX3_isMudBarrier_34 (by decide) ?_
      refine lv_goto (tgt := 39) hx hb dX3_isMudBarrier_35 (by decide) ?_
      exact hret (1 : Int32) _ _ _ _ dX3_isMudBarrier_39 bz1 (ht.trans (by simp only [f_X3_isMudBarrier, if_pos c4, if_neg c9])) hS

/-! X3_isValveBarrier -/
def f_X3_isValveBarrier (w : WS) (t : TS) : Int32 :=
  if (f_X1_isPassed t (T_latestOfValve t)) = 0 then (0 : Int32) else (if (20160 : Int32) < ((W_minutes w) - (f_X3_read 60 (T_minutes t) (T_latestOfValve t))) then (0 : Int32) else (if (W_hasBrokenSinceTest w) = 0 then (1 : Int32) else (0 : Int32)))

abbrev RM_X3_isValveBarrier : Room := { frames := 2, cells := 0, slots := 0, locals := 42 }
set_option maxRecDepth 100000 in
set_option maxHeartbeats 4000000 in
theorem c_X3_isValveBarrier (l : Launch) (D : va_G) (q : Nat → ClassId) (sz : Nat) (h : Nat) (aw : Nat) (av : Nat) (kr : Nat → Nat) (kt : Nat → Nat) (x : XS) (w : WS) (v : WS) (r : RS) (t : TS) : Met l yX3_isValveBarrier (Cond.code yX3_isValveBarrier cX3_isValveBarrier 2 (some .boolean) :: ALL) RM_X3_isValveBarrier (PC D q [.ref h] (cKick h aw av kr kt q x w v r t) sz) (va_Qi (fun (rv : Int32) (_ : Unit) => f_X3_isValveBarrier w t = rv ∧ bz rv) (fun _ _ => True) (fun _ => False)) 0 0 (fun _ => False) := by
  refine en_zR (by decide +kernel) (Nat.le_of_ble_eq_true rfl) ?_
  intro p e s m args below meth c Q A H locs ls fx hD0 hP hS hl hret
  have hx := fx.1
  have hb := fx.2.1
  have hl : lv_has ls 2 [(0, .ref h)] := hl
  have hD : ∀ (x9 : XS) (w9 : WS) (v9 : WS) (r9 : RS) (t9 : TS), va_D _ (cKick h aw av kr kt q x9 w9 v9 r9 t9) := fun _ _ _ _ _ => D_same ((fst_Kick _ _ _ _ _ _ _ _ _ _ _).trans (fst_Kick _ _ _ _ _ _ _ _ _ _ _).symm) hD0
  have ht : f_X3_isValveBarrier w t = f_X3_isValveBarrier w t := rfl
  refine lv_aload_n hx hb dX3_isValveBarrier_0 rfl (lv_at hl 0 rfl) ?_
  refine gf_X3_31 fx hP 0 rfl dX3_isValveBarrier_1 ?_
  refine gf_X3_264 fx hP 9 rfl (v := T_latestOfValve t) rfl dX3_isValveBarrier_4 ?_
  refine lv_istore_n (lv' := [(1, .int (T_latestOfValve t)), (0, .ref h)]) hx hb dX3_isValveBarrier_7 rfl hl (by decide) rfl (fun ls hl => ?_)
  refine lv_aload_n hx hb dX3_isValveBarrier_8 rfl (lv_at hl 1 rfl) ?_
  refine gf_X3_31 fx hP 0 rfl dX3_isValveBarrier_9 ?_
  refine lv_iload_n hx hb dX3_isValveBarrier_12 rfl (lv_at hl 0 rfl) ?_
  refine kR_i (runVN fx (As := [.int (T_latestOfValve t)]) (rest := []) (c_X1_isPassed l D q H.size kt t (T_latestOfValve t)) lk_X3_267 ⟨Nat.le_of_ble_eq_true rfl, Nat.le_of_ble_eq_true rfl⟩ ⟨rfl, rfl⟩ hP (hD _ _ _ _ _) [9, 10, 11, 12, 13] rfl rfl (ci := 1) rfl rfl rfl hl.1 rfl (Nat.le_of_ble_eq_true rfl) dX3_isValveBarrier_13 ⟨Nat.zero_le _, Nat.zero_le _⟩) hP hS (fun r1 _ H locs hr2 hP hS => ?_)
  obtain ⟨rfl, hz3⟩ := hr2
  refine lv_if_eq (tgt := 58) hx hb dX3_isValveBarrier_16 (by decide) (fun c4 => ?_) (fun c4 => ?_)
  · refine lv_iconst (v := 0) hx hb dX3_isValveBarrier_58 (by decide) ?_
    exact hret (0 : Int32) _ _ _ _ dX3_isValveBarrier_59 bz0 (ht.trans (by simp only [f_X3_isValveBarrier, if_pos c4])) hS
  · refine lv_aload_n hx hb dX3_isValveBarrier_19 rfl (lv_at hl 1 rfl) ?_
    refine gf_X3_21 fx hP 0 rfl dX3_isValveBarrier_20 ?_
    refine gf_X3_151 fx hP 1 rfl (v := W_minutes w) rfl dX3_isValveBarrier_23 ?_
    refine lv_aload_n hx hb dX3_isValveBarrier_26 rfl (lv_at hl 1 rfl) ?_
    refine gf_X3_31 fx hP 0 rfl dX3_isValveBarrier_27 ?_
    refine gf_X3_234 fx hP 9 rfl dX3_isValveBarrier_30 ?_
    refine lv_iload_n hx hb dX3_isValveBarrier_33 rfl (lv_at hl 0 rfl) ?_
    refine kR_i (runS fx (As := [.ref (kt 4), .int (T_latestOfValve t)]) (rest := [.int (W_minutes w)]) (c_X3_read l D q H.size (kt 4) 60 (Nat.le_of_ble_eq_true rfl) (T_minutes t) (T_latestOfValve t)) lk_X3_224 ⟨Nat.le_of_ble_eq_true rfl, Nat.le_of_ble_eq_true rfl⟩ ⟨rfl, rfl⟩ hP (hD _ _ _ _ _) [13] rfl rfl rfl hl.1 rfl (Nat.le_of_ble_eq_true rfl) dX3_isValveBarrier_34 ⟨Nat.zero_le _, Nat.zero_le _⟩) hP hS (fun r5 _ H locs hr6 hP hS => ?_)
    subst hr6
    refine lv_isub hx hb dX3_isValveBarrier_37 ?_
    refine lv_sipush (v := 20160) hx hb dX3_isValveBarrier_38 (by decide) ?_
    refine lv_icmp_gt (tgt := 58) hx hb dX3_isValveBarrier_41 (by decide) (fun c7 => ?_) (fun c7 => ?_)
    · refine lv_iconst (v := 0) hx hb dX3_isValveBarrier_58 (by decide) ?_
      exact hret (0 : Int32) _ _ _ _ dX3_isValveBarrier_59 bz0 (ht.trans (by simp only [f_X3_isValveBarrier, if_neg c4, if_pos c7])) hS
    · refine lv_aload_n hx hb dX3_isValveBarrier_44 rfl (lv_at hl 1 rfl) ?_
      refine gf_X3_21 fx hP 0 rfl dX3_isValveBarrier_45 ?_
      refine gf_X3_158 fx hP 1 rfl (v := W_hasBrokenSinceTest w) rfl dX3_isValveBarrier_48 ?_
      refine lv_if_ne (tgt := 58) hx hb dX3_isValveBarrier_51 (by decide) (fun c8 => ?_) (fun c8 => ?_)
      · refine lv_iconst (v := 0) hx hb dX3_isValveBarrier_58 (by decide) ?_
        exact hret (0 : Int32) _ _ _ _ dX3_isValveBarrier_59 bz0 (ht.trans (by simp only [f_X3_isValveBarrier, if_neg c4, if_neg c7, if_neg c8])) hS
      · refine lv_iconst (v := 1) hx hb dX3_isValveBarrier_54 (by decide) ?_
        refine lv_goto (tgt := 59) hx hb dX3_isValveBarrier_55 (by decide) ?_
        exact hret (1 : Int32) _ _ _ _ dX3_isValveBarrier_59 bz1 (ht.trans (by simp only [f_X3_isValveBarrier, if_neg c4, if_neg c7, if_pos c8])) hS

/-! X3_isCementBarrier -/
def f_X3_isCementBarrier (w : WS) (t : TS) : Int32 :=
  if (W_shoe w) ≤ 0 then (0 : Int32) else (if (f_X1_isPassed t (T_latestOfCement t)) = 0 then (0 : Int32) else (1 : Int32))

abbrev RM_X3_isCementBarrier : Room := { frames := 2, cells := 0, slots := 0, locals := 42 }
set_option maxRecDepth 100000 in
set_option maxHeartbeats 4000000 in
theorem c_X3_isCementBarrier (l : Launch) (D : va_G) (q : Nat → ClassId) (sz : Nat) (h : Nat) (aw : Nat) (av : Nat) (kr : Nat → Nat) (kt : Nat → Nat) (x : XS) (w : WS) (v : WS) (r : RS) (t : TS) : Met l yX3_isCementBarrier (Cond.code yX3_isCementBarrier cX3_isCementBarrier 1 (some .boolean) :: ALL) RM_X3_isCementBarrier (PC D q [.ref h] (cKick h aw av kr kt q x w v r t) sz) (va_Qi (fun (rv : Int32) (_ : Unit) => f_X3_isCementBarrier w t = rv ∧ bz rv) (fun _ _ => True) (fun _ => False)) 0 0 (fun _ => False) := by
  refine en_zR (by decide +kernel) (Nat.le_of_ble_eq_true rfl) ?_
  intro p e s m args below meth c Q A H locs ls fx hD0 hP hS hl hret
  have hx := fx.1
  have hb := fx.2.1
  have hl : lv_has ls 1 [(0, .ref h)] := hl
  have hD : ∀ (x9 : XS) (w9 : WS) (v9 : WS) (r9 : RS) (t9 : TS), va_D _ (cKick h aw av kr kt q x9 w9 v9 r9 t9) := fun _ _ _ _ _ => D_same ((fst_Kick _ _ _ _ _ _ _ _ _ _ _).trans (fst_Kick _ _ _ _ _ _ _ _ _ _ _).symm) hD0
  have ht : f_X3_isCementBarrier w t = f_X3_isCementBarrier w t := rfl
  refine lv_aload_n hx hb dX3_isCementBarrier_0 rfl (lv_at hl 0 rfl) ?_
  refine gf_X3_21 fx hP 0 rfl dX3_isCementBarrier_1 ?_
  refine gf_X3_123 fx hP 1 rfl (v := W_shoe w) rfl dX3_isCementBarrier_4 ?_
  refine lv_if_le (tgt := 31) hx hb dX3_isCementBarrier_7 (by decide) (fun c1 => ?_) (fun c1 => ?_)
  · refine lv_iconst (v := 0) hx hb dX3_isCementBarrier_31 (by decide) ?_
    exact hret (0 : Int32) _ _ _ _ dX3_isCementBarrier_32 bz0 (ht.trans (by simp only [f_X3_isCementBarrier, if_pos c1])) hS
  · refine lv_aload_n hx hb dX3_isCementBarrier_10 rfl (lv_at hl 0 rfl) ?_
    refine gf_X3_31 fx hP 0 rfl dX3_isCementBarrier_11 ?_
    refine lv_aload_n hx hb dX3_isCementBarrier_14 rfl (lv_at hl 0 rfl) ?_
    refine gf_X3_31 fx hP 0 rfl dX3_isCementBarrier_15 ?_
    refine gf_X3_135 fx hP 9 rfl (v := T_latestOfCement t) rfl dX3_isCementBarrier_18 ?_
    refine kR_i (runVN fx (As := [.int (T_latestOfCement t)]) (rest := []) (c_X1_isPassed l D q H.size kt t (T_latestOfCement t)) lk_X3_267 ⟨Nat.le_of_ble_eq_true rfl, Nat.le_of_ble_eq_true rfl⟩ ⟨rfl, rfl⟩ hP (hD _ _ _ _ _) [9, 10, 11, 12, 13] rfl rfl (ci := 1) rfl rfl rfl hl.1 rfl (Nat.le_of_ble_eq_true rfl) dX3_isCementBarrier_21 ⟨Nat.zero_le _, Nat.zero_le _⟩) hP hS (fun r2 _ H locs hr3 hP hS => ?_)
    obtain ⟨rfl, hz4⟩ := hr3
    refine lv_if_eq (tgt := 31) hx hb dX3_isCementBarrier_24 (by decide) (fun c5 => ?_) (fun c5 => ?_)
    · refine lv_iconst (v := 0) hx hb dX3_isCementBarrier_31 (by decide) ?_
      exact hret (0 : Int32) _ _ _ _ dX3_isCementBarrier_32 bz0 (ht.trans (by simp only [f_X3_isCementBarrier, if_neg c1, if_pos c5])) hS
    · refine lv_iconst (v := 1) hx hb dX3_isCementBarrier_27 (by decide) ?_
      refine lv_goto (tgt := 32) hx hb dX3_isCementBarrier_28 (by decide) ?_
      exact hret (1 : Int32) _ _ _ _ dX3_isCementBarrier_32 bz1 (ht.trans (by simp only [f_X3_isCementBarrier, if_neg c1, if_neg c5])) hS

/-! X3_barriers -/
def f_X3_barriers (w : WS) (r : RS) (t : TS) : Int32 :=
  if (f_X3_isCementBarrier w t) = 0 then (((if (f_X3_isMudBarrier w r) = 0 then (0 : Int32) else (1 : Int32)) + (if (f_X3_isValveBarrier w t) = 0 then (0 : Int32) else (2 : Int32))) + (0 : Int32)) else (((if (f_X3_isMudBarrier w r) = 0 then (0 : Int32) else (1 : Int32)) + (if (f_X3_isValveBarrier w t) = 0 then (0 : Int32) else (2 : Int32))) + (4 : Int32))

abbrev RM_X3_barriers : Room := { frames := 4, cells := 0, slots := 0, locals := 84 }
set_option maxRecDepth 100000 in
set_option maxHeartbeats 4000000 in
theorem c_X3_barriers (l : Launch) (D : va_G) (q : Nat → ClassId) (sz : Nat) (h : Nat) (aw : Nat) (av : Nat) (kr : Nat → Nat) (kt : Nat → Nat) (x : XS) (w : WS) (v : WS) (r : RS) (t : TS) : Met l yX3_barriers (Cond.code yX3_barriers cX3_barriers 1 (some .int) :: ALL) RM_X3_barriers (PC D q [.ref h] (cKick h aw av kr kt q x w v r t) sz) (va_Qi (fun (rv : Int32) (_ : Unit) => f_X3_barriers w r t = rv) (fun _ _ => True) (fun _ => False)) 0 0 (fun _ => False) := by
  refine en_iR (by decide +kernel) (Nat.le_of_ble_eq_true rfl) ?_
  intro p e s m args below meth c Q A H locs ls fx hD0 hP hS hl hret
  have hx := fx.1
  have hb := fx.2.1
  have hl : lv_has ls 1 [(0, .ref h)] := hl
  have hD : ∀ (x9 : XS) (w9 : WS) (v9 : WS) (r9 : RS) (t9 : TS), va_D _ (cKick h aw av kr kt q x9 w9 v9 r9 t9) := fun _ _ _ _ _ => D_same ((fst_Kick _ _ _ _ _ _ _ _ _ _ _).trans (fst_Kick _ _ _ _ _ _ _ _ _ _ _).symm) hD0
  have ht : f_X3_barriers w r t = f_X3_barriers w r t := rfl
  refine lv_aload_n hx hb dX3_barriers_0 rfl (lv_at hl 0 rfl) ?_
  refine kR_i (runV fx (As := []) (rest := []) (c_X3_isMudBarrier l D q H.size h aw av kr kt x w v r t) lk_X3_206 ⟨Nat.le_of_ble_eq_true rfl, Nat.le_of_ble_eq_true rfl⟩ ⟨rfl, rfl⟩ hP (hD _ _ _ _ _) [0, 1, 2, 3, 4, 5, 6, 7, 8, 9, 10, 11, 12, 13] rfl rfl (ci := 3) rfl rfl rfl hl.1 rfl (Nat.le_of_ble_eq_true rfl) dX3_barriers_1 ⟨Nat.zero_le _, Nat.zero_le _⟩) hP hS (fun r1 _ H locs hr2 hP hS => ?_)
  obtain ⟨rfl, hz3⟩ := hr2
  suffices K : ∀ (v5 : Int32), ∀ (H : Heap) (locs : List Loc) (ls : Array Slot), v5 = (if (f_X3_isMudBarrier w r) = 0 then (0 : Int32) else (1 : Int32)) → va_P D vwCl (cKick h aw av kr kt q x w v r t) H → va_S A s.heap H locs → lv_has ls 1 [(0, .ref h)] → W p l e RM_X3_barriers s m args below meth c H locs 0 0 Q (F0 m 12 ls [.int v5]) by
    refine lv_if_eq (tgt := 11) hx hb dX3_barriers_4 (by decide) (fun c4 => ?_) (fun c4 => ?_)
    · refine lv_iconst (v := 0) hx hb dX3_barriers_11 (by decide) ?_
      exact K (0 : Int32) H locs ls (by simp only [if_pos c4]) hP hS (lv_sub hl [0] rfl)
    · refine lv_iconst (v := 1) hx hb dX3_barriers_7 (by decide) ?_
      refine lv_goto (tgt := 12) hx hb dX3_barriers_8 (by decide) ?_
      exact K (1 : Int32) H locs ls (by simp only [if_neg c4]) hP hS (lv_sub hl [0] rfl)
  intro v5 H locs ls hvv5 hP hS hl
  subst hvv5
  refine lv_aload_n hx hb dX3_barriers_12 rfl (lv_at hl 0 rfl) ?_
  refine kR_i (runV fx (As := []) (rest := [.int (if (f_X3_isMudBarrier w r) = 0 then (0 : Int32) else (1 : Int32))]) (c_X3_isValveBarrier l D q H.size h aw av kr kt x w v r t) lk_X3_209 ⟨Nat.le_of_ble_eq_true rfl, Nat.le_of_ble_eq_true rfl⟩ ⟨rfl, rfl⟩ hP (hD _ _ _ _ _) [0, 1, 2, 3, 4, 5, 6, 7, 8, 9, 10, 11, 12, 13] rfl rfl (ci := 3) rfl rfl rfl hl.1 rfl (Nat.le_of_ble_eq_true rfl) dX3_barriers_13 ⟨Nat.zero_le _, Nat.zero_le _⟩) hP hS (fun r6 _ H locs hr7 hP hS => ?_)
  obtain ⟨rfl, hz8⟩ := hr7
  suffices K : ∀ (v10 : Int32), ∀ (H : Heap) (locs : List Loc) (ls : Array Slot), v10 = (if (f_X3_isValveBarrier w t) = 0 then (0 : Int32) else (2 : Int32)) → va_P D vwCl (cKick h aw av kr kt q x w v r t) H → va_S A s.heap H locs → lv_has ls 1 [(0, .ref h)] → W p l e RM_X3_barriers s m args below meth c H locs 0 0 Q (F0 m 24 ls [.int v10, .int (if (f_X3_isMudBarrier w r) = 0 then (0 : Int32) else (1 : Int32))]) by
    refine lv_if_eq (tgt := 23) hx hb dX3_barriers_16 (by decide) (fun c9 => ?_) (fun c9 => ?_)
    · refine lv_iconst (v := 0) hx hb dX3_barriers_23 (by decide) ?_
      exact K (0 : Int32) H locs ls (by simp only [if_pos c9]) hP hS (lv_sub hl [0] rfl)
    · refine lv_iconst (v := 2) hx hb dX3_barriers_19 (by decide) ?_
      refine lv_goto (tgt := 24) hx hb dX3_barriers_20 (by decide) ?_
      exact K (2 : Int32) H locs ls (by simp only [if_neg c9]) hP hS (lv_sub hl [0] rfl)
  intro v10 H locs ls hvv10 hP hS hl
  subst hvv10
  refine lv_iadd hx hb dX3_barriers_24 ?_
  refine lv_aload_n hx hb dX3_barriers_25 rfl (lv_at hl 0 rfl) ?_
  refine kR_i (runV fx (As := []) (rest := [.int ((if (f_X3_isMudBarrier w r) = 0 then (0 : Int32) else (1 : Int32)) + (if (f_X3_isValveBarrier w t) = 0 then (0 : Int32) else (2 : Int32)))]) (c_X3_isCementBarrier l D q H.size h aw av kr kt x w v r t) lk_X3_212 ⟨Nat.le_of_ble_eq_true rfl, Nat.le_of_ble_eq_true rfl⟩ ⟨rfl, rfl⟩ hP (hD _ _ _ _ _) [0, 1, 2, 3, 4, 5, 6, 7, 8, 9, 10, 11, 12, 13] rfl rfl (ci := 3) rfl rfl rfl hl.1 rfl (Nat.le_of_ble_eq_true rfl) dX3_barriers_26 ⟨Nat.zero_le _, Nat.zero_le _⟩) hP hS (fun r11 _ H locs hr12 hP hS => ?_)
  obtain ⟨rfl, hz13⟩ := hr12
  refine lv_if_eq (tgt := 36) hx hb dX3_barriers_29 (by decide) (fun c14 => ?_) (fun c14 => ?_)
  · refine lv_iconst (v := 0) hx hb dX3_barriers_36 (by decide) ?_
    refine lv_iadd hx hb dX3_barriers_37 ?_
    exact hret (((if (f_X3_isMudBarrier w r) = 0 then (0 : Int32) else (1 : Int32)) + (if (f_X3_isValveBarrier w t) = 0 then (0 : Int32) else (2 : Int32))) + (0 : Int32)) _ _ _ _ dX3_barriers_38 (ht.trans (by simp only [f_X3_barriers, if_pos c14])) hS
  · refine lv_iconst (v := 4) hx hb dX3_barriers_32 (by decide) ?_
    refine lv_goto (tgt := 37) hx hb dX3_barriers_33 (by decide) ?_
    refine lv_iadd hx hb dX3_barriers_37 ?_
    exact hret (((if (f_X3_isMudBarrier w r) = 0 then (0 : Int32) else (1 : Int32)) + (if (f_X3_isValveBarrier w t) = 0 then (0 : Int32) else (2 : Int32))) + (4 : Int32)) _ _ _ _ dX3_barriers_38 (ht.trans (by simp only [f_X3_barriers, if_neg c14])) hS

/-! J6_bitCount_0f7a4 -/
def f_J6_bitCount_0f7a4 (p0 : Int32) : Int32 :=
  (((((((p0 - ((iushr p0 (1 : Int32)) &&& (1431655765 : Int32))) &&& (858993459 : Int32)) + ((iushr (p0 - ((iushr p0 (1 : Int32)) &&& (1431655765 : Int32))) (2 : Int32)) &&& (858993459 : Int32))) + (iushr (((p0 - ((iushr p0 (1 : Int32)) &&& (1431655765 : Int32))) &&& (858993459 : Int32)) + ((iushr (p0 - ((iushr p0 (1 : Int32)) &&& (1431655765 : Int32))) (2 : Int32)) &&& (858993459 : Int32))) (4 : Int32))) &&& (252645135 : Int32)) + (iushr (((((p0 - ((iushr p0 (1 : Int32)) &&& (1431655765 : Int32))) &&& (858993459 : Int32)) + ((iushr (p0 - ((iushr p0 (1 : Int32)) &&& (1431655765 : Int32))) (2 : Int32)) &&& (858993459 : Int32))) + (iushr (((p0 - ((iushr p0 (1 : Int32)) &&& (1431655765 : Int32))) &&& (858993459 : Int32)) + ((iushr (p0 - ((iushr p0 (1 : Int32)) &&& (1431655765 : Int32))) (2 : Int32)) &&& (858993459 : Int32))) (4 : Int32))) &&& (252645135 : Int32)) (8 : Int32))) + (iushr ((((((p0 - ((iushr p0 (1 : Int32)) &&& (1431655765 : Int32))) &&& (858993459 : Int32)) + ((iushr (p0 - ((iushr p0 (1 : Int32)) &&& (1431655765 : Int32))) (2 : Int32)) &&& (858993459 : Int32))) + (iushr (((p0 - ((iushr p0 (1 : Int32)) &&& (1431655765 : Int32))) &&& (858993459 : Int32)) + ((iushr (p0 - ((iushr p0 (1 : Int32)) &&& (1431655765 : Int32))) (2 : Int32)) &&& (858993459 : Int32))) (4 : Int32))) &&& (252645135 : Int32)) + (iushr (((((p0 - ((iushr p0 (1 : Int32)) &&& (1431655765 : Int32))) &&& (858993459 : Int32)) + ((iushr (p0 - ((iushr p0 (1 : Int32)) &&& (1431655765 : Int32))) (2 : Int32)) &&& (858993459 : Int32))) + (iushr (((p0 - ((iushr p0 (1 : Int32)) &&& (1431655765 : Int32))) &&& (858993459 : Int32)) + ((iushr (p0 - ((iushr p0 (1 : Int32)) &&& (1431655765 : Int32))) (2 : Int32)) &&& (858993459 : Int32))) (4 : Int32))) &&& (252645135 : Int32)) (8 : Int32))) (16 : Int32))) &&& (63 : Int32)

abbrev RM_J6_bitCount_0f7a4 : Room := { frames := 0, cells := 0, slots := 0, locals := 0 }
set_option maxRecDepth 100000 in
set_option maxHeartbeats 4000000 in
theorem c_J6_bitCount_0f7a4 (l : Launch) (D : va_G) (q : Nat → ClassId) (sz : Nat) (p0 : Int32) : Met l yJ6_bitCount_0f7a4 (Cond.code yJ6_bitCount_0f7a4 cJ6_bitCount_0f7a4 1 (some .int) :: ALL) RM_J6_bitCount_0f7a4 (PC D q [.int p0] ([]) sz) (va_Qi (fun (rv : Int32) (_ : Unit) => f_J6_bitCount_0f7a4 p0 = rv) (fun _ _ => True) (fun _ => False)) 0 0 (fun _ => False) := by
  refine en_iR (by decide +kernel) (Nat.le_of_ble_eq_true rfl) ?_
  intro p e s m args below meth c Q A H locs ls fx hD0 hP hS hl hret
  have hx := fx.1
  have hb := fx.2.1
  have hl : lv_has ls 1 [(0, .int p0)] := hl
  have hD : va_D _ ([] : va_W) := hD0
  have ht : f_J6_bitCount_0f7a4 p0 = f_J6_bitCount_0f7a4 p0 := rfl
  refine lv_iload_n hx hb dJ6_bitCount_0f7a4_0 rfl (lv_at hl 0 rfl) ?_
  refine lv_iload_n hx hb dJ6_bitCount_0f7a4_1 rfl (lv_at hl 0 rfl) ?_
  refine lv_iconst (v := 1) hx hb dJ6_bitCount_0f7a4_2 (by decide) ?_
  refine lv_iushr (v := iushr p0 (1 : Int32)) hx hb dJ6_bitCount_0f7a4_3 rfl ?_
  refine lv_ldcw hx hb fx.2.2.2.1 (fx.2.2.2.2.1 _ mm_130) dJ6_bitCount_0f7a4_4 ?_
  refine lv_iand hx hb dJ6_bitCount_0f7a4_7 ?_
  refine lv_isub hx hb dJ6_bitCount_0f7a4_8 ?_
  refine lv_istore_n (lv' := [(0, .int (p0 - ((iushr p0 (1 : Int32)) &&& (1431655765 : Int32))))]) hx hb dJ6_bitCount_0f7a4_9 rfl hl (by decide) rfl (fun ls hl => ?_)
  refine lv_iload_n hx hb dJ6_bitCount_0f7a4_10 rfl (lv_at hl 0 rfl) ?_
  refine lv_ldcw hx hb fx.2.2.2.1 (fx.2.2.2.2.1 _ mm_131) dJ6_bitCount_0f7a4_11 ?_
  refine lv_iand hx hb dJ6_bitCount_0f7a4_14 ?_
  refine lv_iload_n hx hb dJ6_bitCount_0f7a4_15 rfl (lv_at hl 0 rfl) ?_
  refine lv_iconst (v := 2) hx hb dJ6_bitCount_0f7a4_16 (by decide) ?_
  refine lv_iushr (v := iushr (p0 - ((iushr p0 (1 : Int32)) &&& (1431655765 : Int32))) (2 : Int32)) hx hb dJ6_bitCount_0f7a4_17 rfl ?_
  refine lv_ldcw hx hb fx.2.2.2.1 (fx.2.2.2.2.1 _ mm_131) dJ6_bitCount_0f7a4_18 ?_
  refine lv_iand hx hb dJ6_bitCount_0f7a4_21 ?_
  refine lv_iadd hx hb dJ6_bitCount_0f7a4_22 ?_
  refine lv_istore_n (lv' := [(0, .int (((p0 - ((iushr p0 (1 : Int32)) &&& (1431655765 : Int32))) &&& (858993459 : Int32)) + ((iushr (p0 - ((iushr p0 (1 : Int32)) &&& (1431655765 : Int32))) (2 : Int32)) &&& (858993459 : Int32))))]) hx hb dJ6_bitCount_0f7a4_23 rfl hl (by decide) rfl (fun ls hl => ?_)
  refine lv_iload_n hx hb dJ6_bitCount_0f7a4_24 rfl (lv_at hl 0 rfl) ?_
  refine lv_iload_n hx hb dJ6_bitCount_0f7a4_25 rfl (lv_at hl 0 rfl) ?_
  refine lv_iconst (v := 4) hx hb dJ6_bitCount_0f7a4_26 (by decide) ?_
  refine lv_iushr (v := iushr (((p0 - ((iushr p0 (1 : Int32)) &&& (1431655765 : Int32))) &&& (858993459 : Int32)) + ((iushr (p0 - ((iushr p0 (1 : Int32)) &&& (1431655765 : Int32))) (2 : Int32)) &&& (858993459 : Int32))) (4 : Int32)) hx hb dJ6_bitCount_0f7a4_27 rfl ?_
  refine lv_iadd hx hb dJ6_bitCount_0f7a4_28 ?_
  refine lv_ldcw hx hb fx.2.2.2.1 (fx.2.2.2.2.1 _ mm_132) dJ6_bitCount_0f7a4_29 ?_
  refine lv_iand hx hb dJ6_bitCount_0f7a4_32 ?_
  refine lv_istore_n (lv' := [(0, .int (((((p0 - ((iushr p0 (1 : Int32)) &&& (1431655765 : Int32))) &&& (858993459 : Int32)) + ((iushr (p0 - ((iushr p0 (1 : Int32)) &&& (1431655765 : Int32))) (2 : Int32)) &&& (858993459 : Int32))) + (iushr (((p0 - ((iushr p0 (1 : Int32)) &&& (1431655765 : Int32))) &&& (858993459 : Int32)) + ((iushr (p0 - ((iushr p0 (1 : Int32)) &&& (1431655765 : Int32))) (2 : Int32)) &&& (858993459 : Int32))) (4 : Int32))) &&& (252645135 : Int32)))]) hx hb dJ6_bitCount_0f7a4_33 rfl hl (by decide) rfl (fun ls hl => ?_)
  refine lv_iload_n hx hb dJ6_bitCount_0f7a4_34 rfl (lv_at hl 0 rfl) ?_
  refine lv_iload_n hx hb dJ6_bitCount_0f7a4_35 rfl (lv_at hl 0 rfl) ?_
  refine lv_bipush (v := 8) hx hb dJ6_bitCount_0f7a4_36 (by decide) ?_
  refine lv_iushr (v := iushr (((((p0 - ((iushr p0 (1 : Int32)) &&& (1431655765 : Int32))) &&& (858993459 : Int32)) + ((iushr (p0 - ((iushr p0 (1 : Int32)) &&& (1431655765 : Int32))) (2 : Int32)) &&& (858993459 : Int32))) + (iushr (((p0 - ((iushr p0 (1 : Int32)) &&& (1431655765 : Int32))) &&& (858993459 : Int32)) + ((iushr (p0 - ((iushr p0 (1 : Int32)) &&& (1431655765 : Int32))) (2 : Int32)) &&& (858993459 : Int32))) (4 : Int32))) &&& (252645135 : Int32)) (8 : Int32)) hx hb dJ6_bitCount_0f7a4_38 rfl ?_
  refine lv_iadd hx hb dJ6_bitCount_0f7a4_39 ?_
  refine lv_istore_n (lv' := [(0, .int ((((((p0 - ((iushr p0 (1 : Int32)) &&& (1431655765 : Int32))) &&& (858993459 : Int32)) + ((iushr (p0 - ((iushr p0 (1 : Int32)) &&& (1431655765 : Int32))) (2 : Int32)) &&& (858993459 : Int32))) + (iushr (((p0 - ((iushr p0 (1 : Int32)) &&& (1431655765 : Int32))) &&& (858993459 : Int32)) + ((iushr (p0 - ((iushr p0 (1 : Int32)) &&& (1431655765 : Int32))) (2 : Int32)) &&& (858993459 : Int32))) (4 : Int32))) &&& (252645135 : Int32)) + (iushr (((((p0 - ((iushr p0 (1 : Int32)) &&& (1431655765 : Int32))) &&& (858993459 : Int32)) + ((iushr (p0 - ((iushr p0 (1 : Int32)) &&& (1431655765 : Int32))) (2 : Int32)) &&& (858993459 : Int32))) + (iushr (((p0 - ((iushr p0 (1 : Int32)) &&& (1431655765 : Int32))) &&& (858993459 : Int32)) + ((iushr (p0 - ((iushr p0 (1 : Int32)) &&& (1431655765 : Int32))) (2 : Int32)) &&& (858993459 : Int32))) (4 : Int32))) &&& (252645135 : Int32)) (8 : Int32))))]) hx hb dJ6_bitCount_0f7a4_40 rfl hl (by decide) rfl (fun ls hl => ?_)
  refine lv_iload_n hx hb dJ6_bitCount_0f7a4_41 rfl (lv_at hl 0 rfl) ?_
  refine lv_iload_n hx hb dJ6_bitCount_0f7a4_42 rfl (lv_at hl 0 rfl) ?_
  refine lv_bipush (v := 16) hx hb dJ6_bitCount_0f7a4_43 (by decide) ?_
  refine lv_iushr (v := iushr ((((((p0 - ((iushr p0 (1 : Int32)) &&& (1431655765 : Int32))) &&& (858993459 : Int32)) + ((iushr (p0 - ((iushr p0 (1 : Int32)) &&& (1431655765 : Int32))) (2 : Int32)) &&& (858993459 : Int32))) + (iushr (((p0 - ((iushr p0 (1 : Int32)) &&& (1431655765 : Int32))) &&& (858993459 : Int32)) + ((iushr (p0 - ((iushr p0 (1 : Int32)) &&& (1431655765 : Int32))) (2 : Int32)) &&& (858993459 : Int32))) (4 : Int32))) &&& (252645135 : Int32)) + (iushr (((((p0 - ((iushr p0 (1 : Int32)) &&& (1431655765 : Int32))) &&& (858993459 : Int32)) + ((iushr (p0 - ((iushr p0 (1 : Int32)) &&& (1431655765 : Int32))) (2 : Int32)) &&& (858993459 : Int32))) + (iushr (((p0 - ((iushr p0 (1 : Int32)) &&& (1431655765 : Int32))) &&& (858993459 : Int32)) + ((iushr (p0 - ((iushr p0 (1 : Int32)) &&& (1431655765 : Int32))) (2 : Int32)) &&& (858993459 : Int32))) (4 : Int32))) &&& (252645135 : Int32)) (8 : Int32))) (16 : Int32)) hx hb dJ6_bitCount_0f7a4_45 rfl ?_
  refine lv_iadd hx hb dJ6_bitCount_0f7a4_46 ?_
  refine lv_istore_n (lv' := [(0, .int (((((((p0 - ((iushr p0 (1 : Int32)) &&& (1431655765 : Int32))) &&& (858993459 : Int32)) + ((iushr (p0 - ((iushr p0 (1 : Int32)) &&& (1431655765 : Int32))) (2 : Int32)) &&& (858993459 : Int32))) + (iushr (((p0 - ((iushr p0 (1 : Int32)) &&& (1431655765 : Int32))) &&& (858993459 : Int32)) + ((iushr (p0 - ((iushr p0 (1 : Int32)) &&& (1431655765 : Int32))) (2 : Int32)) &&& (858993459 : Int32))) (4 : Int32))) &&& (252645135 : Int32)) + (iushr (((((p0 - ((iushr p0 (1 : Int32)) &&& (1431655765 : Int32))) &&& (858993459 : Int32)) + ((iushr (p0 - ((iushr p0 (1 : Int32)) &&& (1431655765 : Int32))) (2 : Int32)) &&& (858993459 : Int32))) + (iushr (((p0 - ((iushr p0 (1 : Int32)) &&& (1431655765 : Int32))) &&& (858993459 : Int32)) + ((iushr (p0 - ((iushr p0 (1 : Int32)) &&& (1431655765 : Int32))) (2 : Int32)) &&& (858993459 : Int32))) (4 : Int32))) &&& (252645135 : Int32)) (8 : Int32))) + (iushr ((((((p0 - ((iushr p0 (1 : Int32)) &&& (1431655765 : Int32))) &&& (858993459 : Int32)) + ((iushr (p0 - ((iushr p0 (1 : Int32)) &&& (1431655765 : Int32))) (2 : Int32)) &&& (858993459 : Int32))) + (iushr (((p0 - ((iushr p0 (1 : Int32)) &&& (1431655765 : Int32))) &&& (858993459 : Int32)) + ((iushr (p0 - ((iushr p0 (1 : Int32)) &&& (1431655765 : Int32))) (2 : Int32)) &&& (858993459 : Int32))) (4 : Int32))) &&& (252645135 : Int32)) + (iushr (((((p0 - ((iushr p0 (1 : Int32)) &&& (1431655765 : Int32))) &&& (858993459 : Int32)) + ((iushr (p0 - ((iushr p0 (1 : Int32)) &&& (1431655765 : Int32))) (2 : Int32)) &&& (858993459 : Int32))) + (iushr (((p0 - ((iushr p0 (1 : Int32)) &&& (1431655765 : Int32))) &&& (858993459 : Int32)) + ((iushr (p0 - ((iushr p0 (1 : Int32)) &&& (1431655765 : Int32))) (2 : Int32)) &&& (858993459 : Int32))) (4 : Int32))) &&& (252645135 : Int32)) (8 : Int32))) (16 : Int32))))]) hx hb dJ6_bitCount_0f7a4_47 rfl hl (by decide) rfl (fun ls hl => ?_)
  refine lv_iload_n hx hb dJ6_bitCount_0f7a4_48 rfl (lv_at hl 0 rfl) ?_
  refine lv_bipush (v := 63) hx hb dJ6_bitCount_0f7a4_49 (by decide) ?_
  refine lv_iand hx hb dJ6_bitCount_0f7a4_51 ?_
  exact hret ((((((((p0 - ((iushr p0 (1 : Int32)) &&& (1431655765 : Int32))) &&& (858993459 : Int32)) + ((iushr (p0 - ((iushr p0 (1 : Int32)) &&& (1431655765 : Int32))) (2 : Int32)) &&& (858993459 : Int32))) + (iushr (((p0 - ((iushr p0 (1 : Int32)) &&& (1431655765 : Int32))) &&& (858993459 : Int32)) + ((iushr (p0 - ((iushr p0 (1 : Int32)) &&& (1431655765 : Int32))) (2 : Int32)) &&& (858993459 : Int32))) (4 : Int32))) &&& (252645135 : Int32)) + (iushr (((((p0 - ((iushr p0 (1 : Int32)) &&& (1431655765 : Int32))) &&& (858993459 : Int32)) + ((iushr (p0 - ((iushr p0 (1 : Int32)) &&& (1431655765 : Int32))) (2 : Int32)) &&& (858993459 : Int32))) + (iushr (((p0 - ((iushr p0 (1 : Int32)) &&& (1431655765 : Int32))) &&& (858993459 : Int32)) + ((iushr (p0 - ((iushr p0 (1 : Int32)) &&& (1431655765 : Int32))) (2 : Int32)) &&& (858993459 : Int32))) (4 : Int32))) &&& (252645135 : Int32)) (8 : Int32))) + (iushr ((((((p0 - ((iushr p0 (1 : Int32)) &&& (1431655765 : Int32))) &&& (858993459 : Int32)) + ((iushr (p0 - ((iushr p0 (1 : Int32)) &&& (1431655765 : Int32))) (2 : Int32)) &&& (858993459 : Int32))) + (iushr (((p0 - ((iushr p0 (1 : Int32)) &&& (1431655765 : Int32))) &&& (858993459 : Int32)) + ((iushr (p0 - ((iushr p0 (1 : Int32)) &&& (1431655765 : Int32))) (2 : Int32)) &&& (858993459 : Int32))) (4 : Int32))) &&& (252645135 : Int32)) + (iushr (((((p0 - ((iushr p0 (1 : Int32)) &&& (1431655765 : Int32))) &&& (858993459 : Int32)) + ((iushr (p0 - ((iushr p0 (1 : Int32)) &&& (1431655765 : Int32))) (2 : Int32)) &&& (858993459 : Int32))) + (iushr (((p0 - ((iushr p0 (1 : Int32)) &&& (1431655765 : Int32))) &&& (858993459 : Int32)) + ((iushr (p0 - ((iushr p0 (1 : Int32)) &&& (1431655765 : Int32))) (2 : Int32)) &&& (858993459 : Int32))) (4 : Int32))) &&& (252645135 : Int32)) (8 : Int32))) (16 : Int32))) &&& (63 : Int32)) _ _ _ _ dJ6_bitCount_0f7a4_52 (ht.trans (by simp only [f_J6_bitCount_0f7a4])) hS

/-! X3_bars -/
def f_X3_bars (x : XS) (w : WS) (r : RS) (t : TS) : Int32 :=
  if (X_stops x) = 0 then (if (W_isClosed w) = 0 then (if (f_X2_hasInflow w) = 0 then (if (2 : Int32) ≤ (f_J6_bitCount_0f7a4 (f_X3_barriers w r t)) then (if (W_depth w) < (5000 : Int32) then (0 : Int32) else (5 : Int32)) else (4 : Int32)) else (3 : Int32)) else (2 : Int32)) else (1 : Int32)

abbrev RM_X3_bars : Room := { frames := 5, cells := 0, slots := 0, locals := 104 }
set_option maxRecDepth 100000 in
set_option maxHeartbeats 4000000 in
theorem c_X3_bars (l : Launch) (D : va_G) (q : Nat → ClassId) (sz : Nat) (h : Nat) (aw : Nat) (av : Nat) (kr : Nat → Nat) (kt : Nat → Nat) (x : XS) (w : WS) (v : WS) (r : RS) (t : TS) : Met l yX3_bars (Cond.code yX3_bars cX3_bars 1 (some .int) :: ALL) RM_X3_bars (PC D q [.ref h] (cKick h aw av kr kt q x w v r t) sz) (va_Qi (fun (rv : Int32) (_ : Unit) => f_X3_bars x w r t = rv) (fun _ _ => True) (fun _ => False)) 0 0 (fun _ => False) := by
  refine en_iR (by decide +kernel) (Nat.le_of_ble_eq_true rfl) ?_
  intro p e s m args below meth c Q A H locs ls fx hD0 hP hS hl hret
  have hx := fx.1
  have hb := fx.2.1
  have hl : lv_has ls 1 [(0, .ref h)] := hl
  have hD : ∀ (x9 : XS) (w9 : WS) (v9 : WS) (r9 : RS) (t9 : TS), va_D _ (cKick h aw av kr kt q x9 w9 v9 r9 t9) := fun _ _ _ _ _ => D_same ((fst_Kick _ _ _ _ _ _ _ _ _ _ _).trans (fst_Kick _ _ _ _ _ _ _ _ _ _ _).symm) hD0
  have ht : f_X3_bars x w r t = f_X3_bars x w r t := rfl
  refine lv_aload_n hx hb dX3_bars_0 rfl (lv_at hl 0 rfl) ?_
  refine gf_X3_163 fx hP 0 rfl (v := X_stops x) rfl dX3_bars_1 ?_
  refine lv_if_eq (tgt := 9) hx hb dX3_bars_4 (by decide) (fun c1 => ?_) (fun c1 => ?_)
  · refine lv_aload_n hx hb dX3_bars_9 rfl (lv_at hl 0 rfl) ?_
    refine gf_X3_21 fx hP 0 rfl dX3_bars_10 ?_
    refine gf_X3_69 fx hP 1 rfl (v := W_isClosed w) rfl dX3_bars_13 ?_
    refine lv_if_eq (tgt := 21) hx hb dX3_bars_16 (by decide) (fun c2 => ?_) (fun c2 => ?_)
    · refine lv_aload_n hx hb dX3_bars_21 rfl (lv_at hl 0 rfl) ?_
      refine gf_X3_21 fx hP 0 rfl dX3_bars_22 ?_
      refine kR_i (runVN fx (As := []) (rest := []) (c_X2_hasInflow l D q H.size aw kr w r) lk_X3_126 ⟨Nat.le_of_ble_eq_true rfl, Nat.le_of_ble_eq_true rfl⟩ ⟨rfl, rfl⟩ hP (hD _ _ _ _ _) [1, 3, 4, 5, 6, 7, 8] rfl rfl (ci := 2) rfl rfl rfl hl.1 rfl (Nat.le_of_ble_eq_true rfl) dX3_bars_25 ⟨Nat.zero_le _, Nat.zero_le _⟩) hP hS (fun r3 _ H locs hr4 hP hS => ?_)
      obtain ⟨rfl, hz5⟩ := hr4
      refine lv_if_eq (tgt := 33) hx hb dX3_bars_28 (by decide) (fun c6 => ?_) (fun c6 => ?_)
      · refine lv_aload_n hx hb dX3_bars_33 rfl (lv_at hl 0 rfl) ?_
        refine kR_i (runV fx (As := []) (rest := []) (c_X3_barriers l D q H.size h aw av kr kt x w v r t) lk_X3_215 ⟨Nat.le_of_ble_eq_true rfl, Nat.le_of_ble_eq_true rfl⟩ ⟨rfl, rfl⟩ hP (hD _ _ _ _ _) [0, 1, 2, 3, 4, 5, 6, 7, 8, 9, 10, 11, 12, 13] rfl rfl (ci := 3) rfl rfl rfl hl.1 rfl (Nat.le_of_ble_eq_true rfl) dX3_bars_34 ⟨Nat.zero_le _, Nat.zero_le _⟩) hP hS (fun r7 _ H locs hr8 hP hS => ?_)
        subst hr8
        refine kR_i (runS fx (As := [.int (f_X3_barriers w r t)]) (rest := []) (c_J6_bitCount_0f7a4 l D q H.size (f_X3_barriers w r t)) lk_X3_166 ⟨Nat.le_of_ble_eq_true rfl, Nat.le_of_ble_eq_true rfl⟩ ⟨rfl, rfl⟩ hP (hD _ _ _ _ _) [] rfl rfl rfl hl.1 rfl (Nat.le_of_ble_eq_true rfl) dX3_bars_37 ⟨Nat.zero_le _, Nat.zero_le _⟩) hP hS (fun r9 _ H locs hr10 hP hS => ?_)
        subst hr10
        refine lv_iconst (v := 2) hx hb dX3_bars_40 (by decide) ?_
        refine lv_icmp_ge (tgt := 46) hx hb dX3_bars_41 (by decide) (fun c11 => ?_) (fun c11 => ?_)
        · refine lv_aload_n hx hb dX3_bars_46 rfl (lv_at hl 0 rfl) ?_
          refine gf_X3_21 fx hP 0 rfl dX3_bars_47 ?_
          refine gf_X3_55 fx hP 1 rfl (v := W_depth w) rfl dX3_bars_50 ?_
          refine lv_sipush (v := 5000) hx hb dX3_bars_53 (by decide) ?_
          refine lv_icmp_lt (tgt := 63) hx hb dX3_bars_56 (by decide) (fun c12 => ?_) (fun c12 => ?_)
          · refine lv_iconst (v := 0) hx hb dX3_bars_63 (by decide) ?_
            exact hret (0 : Int32) _ _ _ _ dX3_bars_64 (ht.trans (by simp only [f_X3_bars, if_pos c1, if_pos c2, if_pos c6, if_pos c11, if_pos c12])) hS
          · refine lv_iconst (v := 5) hx hb dX3_bars_59 (by decide) ?_
            refine lv_goto (tgt := 64) hx hb dX3_bars_60 (by decide) ?_
            exact hret (5 : Int32) _ _ _ _ dX3_bars_64 (ht.trans (by simp only [f_X3_bars, if_pos c1, if_pos c2, if_pos c6, if_pos c11, if_neg c12])) hS
        · refine lv_iconst (v := 4) hx hb dX3_bars_44 (by decide) ?_
          exact hret (4 : Int32) _ _ _ _ dX3_bars_45 (ht.trans (by simp only [f_X3_bars, if_pos c1, if_pos c2, if_pos c6, if_neg c11])) hS
      · refine lv_iconst (v := 3) hx hb dX3_bars_31 (by decide) ?_
        exact hret (3 : Int32) _ _ _ _ dX3_bars_32 (ht.trans (by simp only [f_X3_bars, if_pos c1, if_pos c2, if_neg c6])) hS
    · refine lv_iconst (v := 2) hx hb dX3_bars_19 (by decide) ?_
      exact hret (2 : Int32) _ _ _ _ dX3_bars_20 (ht.trans (by simp only [f_X3_bars, if_pos c1, if_neg c2])) hS
  · refine lv_iconst (v := 1) hx hb dX3_bars_7 (by decide) ?_
    exact hret (1 : Int32) _ _ _ _ dX3_bars_8 (ht.trans (by simp only [f_X3_bars, if_neg c1])) hS

/-! X3_pumpOn -/
def f_X3_pumpOn (x : XS) (w : WS) (p0 : Int32) : XS × WS :=
  if ((X_pumped x) + (20 : Int32)) < (W_depth w) then (X_set_pumped x ((X_pumped x) + (20 : Int32)), w) else (X_set_pumped (X_set_pumped x ((X_pumped x) + (20 : Int32))) (0 : Int32), W_set_liquid (W_set_weight w p0) (0 : Int32))

abbrev RM_X3_pumpOn : Room := { frames := 0, cells := 0, slots := 0, locals := 0 }
set_option maxRecDepth 100000 in
set_option maxHeartbeats 4000000 in
theorem c_X3_pumpOn (l : Launch) (D : va_G) (q : Nat → ClassId) (sz : Nat) (h : Nat) (aw : Nat) (av : Nat) (kr : Nat → Nat) (kt : Nat → Nat) (x : XS) (w : WS) (v : WS) (r : RS) (t : TS) (p0 : Int32) : Met l yX3_pumpOn (Cond.code yX3_pumpOn cX3_pumpOn 2 none :: ALL) RM_X3_pumpOn (PC D q [.ref h, .int p0] (cKick h aw av kr kt q x w v r t) sz) (va_Qv (fun (u : XS × WS) => f_X3_pumpOn x w p0 = u) (fun u t9 => va_P D vwCl (cKick h aw av kr kt q u.1 u.2 v r t) t9.heap) (va_A (cKick h aw av kr kt q x w v r t) sz)) 0 0 (va_A (cKick h aw av kr kt q x w v r t) sz) := by
  refine en_vW (by decide +kernel) (Nat.le_of_ble_eq_true rfl) ?_
  intro p e s m args below meth c Q A H locs ls fx hD0 hA hP hS hl hret
  have hx := fx.1
  have hb := fx.2.1
  have hl : lv_has ls 2 [(0, .ref h), (1, .int p0)] := hl
  have hD : ∀ (x9 : XS) (w9 : WS) (v9 : WS) (r9 : RS) (t9 : TS), va_D _ (cKick h aw av kr kt q x9 w9 v9 r9 t9) := fun _ _ _ _ _ => D_same ((fst_Kick _ _ _ _ _ _ _ _ _ _ _).trans (fst_Kick _ _ _ _ _ _ _ _ _ _ _).symm) hD0
  have ht : f_X3_pumpOn x w p0 = f_X3_pumpOn x w p0 := rfl
  refine lv_aload_n hx hb dX3_pumpOn_0 rfl (lv_at hl 0 rfl) ?_
  refine lv_dup hx hb dX3_pumpOn_1 rfl ?_
  refine gf_X3_78 fx hP 0 rfl (v := X_pumped x) rfl dX3_pumpOn_2 ?_
  refine lv_bipush (v := 20) hx hb dX3_pumpOn_5 (by decide) ?_
  refine lv_iadd hx hb dX3_pumpOn_7 ?_
  refine pf_X3_78 fx hP (hD _ _ _ _ _) hS 0 rfl dX3_pumpOn_8 (fun H locs hP hS => ?_)
  have hP : va_P D vwCl (cKick h aw av kr kt q (X_set_pumped x ((X_pumped x) + (20 : Int32))) w v r t) H := hP
  refine lv_aload_n hx hb dX3_pumpOn_11 rfl (lv_at hl 0 rfl) ?_
  refine gf_X3_78 fx hP 0 rfl (v := (X_pumped x) + (20 : Int32)) (X_pumped_set_pumped _ _) dX3_pumpOn_12 ?_
  refine lv_aload_n hx hb dX3_pumpOn_15 rfl (lv_at hl 0 rfl) ?_
  refine gf_X3_21 fx hP 0 rfl dX3_pumpOn_16 ?_
  refine gf_X3_55 fx hP 1 rfl (v := W_depth w) rfl dX3_pumpOn_19 ?_
  refine lv_icmp_lt (tgt := 46) hx hb dX3_pumpOn_22 (by decide) (fun c1 => ?_) (fun c1 => ?_)
  · exact hret (X_set_pumped x ((X_pumped x) + (20 : Int32)), w) _ _ _ _ dX3_pumpOn_46 (ht.trans (by simp only [f_X3_pumpOn, if_pos c1])) hP hS
  · refine lv_aload_n hx hb dX3_pumpOn_25 rfl (lv_at hl 0 rfl) ?_
    refine gf_X3_21 fx hP 0 rfl dX3_pumpOn_26 ?_
    refine lv_iload_n hx hb dX3_pumpOn_29 rfl (lv_at hl 1 rfl) ?_
    refine pf_X3_75 fx hP (hD _ _ _ _ _) hS 1 rfl dX3_pumpOn_30 (fun H locs hP hS => ?_)
    have hP : va_P D vwCl (cKick h aw av kr kt q (X_set_pumped x ((X_pumped x) + (20 : Int32))) (W_set_weight w p0) v r t) H := hP
    refine lv_aload_n hx hb dX3_pumpOn_33 rfl (lv_at hl 0 rfl) ?_
    refine gf_X3_21 fx hP 0 rfl dX3_pumpOn_34 ?_
    refine lv_iconst (v := 0) hx hb dX3_pumpOn_37 (by decide) ?_
    refine pf_X3_118 fx hP (hD _ _ _ _ _) hS 1 rfl dX3_pumpOn_38 (fun H locs hP hS => ?_)
    have hP : va_P D vwCl (cKick h aw av kr kt q (X_set_pumped x ((X_pumped x) + (20 : Int32))) (W_set_liquid (W_set_weight w p0) (0 : Int32)) v r t) H := hP
    refine lv_aload_n hx hb dX3_pumpOn_41 rfl (lv_at hl 0 rfl) ?_
    refine lv_iconst (v := 0) hx hb dX3_pumpOn_42 (by decide) ?_
    refine pf_X3_78 fx hP (hD _ _ _ _ _) hS 0 rfl dX3_pumpOn_43 (fun H locs hP hS => ?_)
    have hP : va_P D vwCl (cKick h aw av kr kt q (X_set_pumped (X_set_pumped x ((X_pumped x) + (20 : Int32))) (0 : Int32)) (W_set_liquid (W_set_weight w p0) (0 : Int32)) v r t) H := hP
    exact hret (X_set_pumped (X_set_pumped x ((X_pumped x) + (20 : Int32))) (0 : Int32), W_set_liquid (W_set_weight w p0) (0 : Int32)) _ _ _ _ dX3_pumpOn_46 (ht.trans (by simp only [f_X3_pumpOn, if_neg c1])) hP hS
end
section
/-! X3_layer -/
def f_X3_layer_b54 (r : RS) : Nat × RS :=
  (2, r)

def f_X3_layer (w : WS) (r : RS) (p0 : Int32) (p1 : Int32) (p2 : Int32) (p3 : Int32) (p4 : Int32) : Nat × RS :=
  if (f_X3_isWithin p0 (0 : Int32) (49 : Int32)) = 0 then (1, r) else (if (f_X3_isWithin p1 (0 : Int32) (300 : Int32)) = 0 then (f_X3_layer_b54 r) else (if (f_X3_isWithin p2 (0 : Int32) (300 : Int32)) = 0 then (f_X3_layer_b54 r) else (if (f_X3_isWithin p3 (0 : Int32) (1000 : Int32)) = 0 then (f_X3_layer_b54 r) else (if (W_depth w) ≤ (p0 * (100 : Int32)) then (0, (f_X0_tellLayer r p0 p1 p2 p3 p4)) else (3, r)))))

abbrev RM_X3_layer : Room := { frames := 6, cells := 1, slots := 6, locals := 90 }
set_option maxRecDepth 100000 in
set_option maxHeartbeats 4000000 in
theorem c_X3_layer (l : Launch) (D : va_G) (q : Nat → ClassId) (sz : Nat) (h : Nat) (aw : Nat) (av : Nat) (kr : Nat → Nat) (kt : Nat → Nat) (x : XS) (w : WS) (v : WS) (r : RS) (t : TS) (p0 : Int32) (p1 : Int32) (p2 : Int32) (p3 : Int32) (p4 : Int32) (hstk : l.stackTraces = false) : vx_Met l yX3_layer (Cond.code yX3_layer cX3_layer 6 none :: ALL) RM_X3_layer (PX D q [.ref h, .int p0, .int p1, .int p2, .int p3, .int p4] (cKick h aw av kr kt q x w v r t) sz) (va_Qv (fun (u : RS) => f_X3_layer w r p0 p1 p2 p3 p4 = (0, u)) (fun u t9 => va_P D vwCl (cKick h aw av kr kt q x w v u t) t9.heap) (va_A (cKick h aw av kr kt q x w v r t) sz)) (XCk D (cKick h aw av kr kt q x w v r t) sz (fun k => (f_X3_layer w r p0 p1 p2 p3 p4).1 = k ∧ (k = 1 ∨ k = 2 ∨ k = 3))) 1 6 (va_A (cKick h aw av kr kt q x w v r t) sz) := by
  refine en_xv hstk rfl (by decide +kernel) (Nat.le_of_ble_eq_true rfl) ⟨Nat.le_of_ble_eq_true rfl, Nat.le_of_ble_eq_true rfl, rfl, rfl⟩ ?_
  intro p e s m args below meth c Q A H locs ls fx hD0 hA hP hS hl hret hthr
  have hx := fx.1
  have hb := fx.2.1
  have hl : lv_has ls 6 [(0, .ref h), (1, .int p0), (2, .int p1), (3, .int p2), (4, .int p3), (5, .int p4)] := hl
  have hD : ∀ (x9 : XS) (w9 : WS) (v9 : WS) (r9 : RS) (t9 : TS), va_D _ (cKick h aw av kr kt q x9 w9 v9 r9 t9) := fun _ _ _ _ _ => D_same ((fst_Kick _ _ _ _ _ _ _ _ _ _ _).trans (fst_Kick _ _ _ _ _ _ _ _ _ _ _).symm) hD0
  have ht : f_X3_layer w r p0 p1 p2 p3 p4 = f_X3_layer w r p0 p1 p2 p3 p4 := rfl
  refine lv_iload_n hx hb dX3_layer_0 rfl (lv_at hl 1 rfl) ?_
  refine lv_iconst (v := 0) hx hb dX3_layer_1 (by decide) ?_
  refine lv_bipush (v := 49) hx hb dX3_layer_2 (by decide) ?_
  refine kR_i (runS fx (As := [.int p0, .int (0 : Int32), .int (49 : Int32)]) (rest := []) (c_X3_isWithin l D q H.size p0 (0 : Int32) (49 : Int32)) lk_X3_39 ⟨Nat.le_of_ble_eq_true rfl, Nat.le_of_ble_eq_true rfl⟩ ⟨rfl, rfl⟩ hP (hD _ _ _ _ _) [] rfl rfl rfl hl.1 rfl (Nat.le_of_ble_eq_true rfl) dX3_layer_4 ⟨Nat.zero_le _, Nat.zero_le _⟩) hP hS (fun r1 _ H locs hr2 hP hS => ?_)
  obtain ⟨rfl, hz3⟩ := hr2
  refine lv_if_ne (tgt := 20) hx hb dX3_layer_7 (by decide) (fun c4 => ?_) (fun c4 => ?_)
  · refine lv_iload_n hx hb dX3_layer_20 rfl (lv_at hl 2 rfl) ?_
    refine lv_iconst (v := 0) hx hb dX3_layer_21 (by decide) ?_
    refine lv_sipush (v := 300) hx hb dX3_layer_22 (by decide) ?_
    refine kR_i (runS fx (As := [.int p1, .int (0 : Int32), .int (300 : Int32)]) (rest := []) (c_X3_isWithin l D q H.size p1 (0 : Int32) (300 : Int32)) lk_X3_39 ⟨Nat.le_of_ble_eq_true rfl, Nat.le_of_ble_eq_true rfl⟩ ⟨rfl, rfl⟩ hP (hD _ _ _ _ _) [] rfl rfl rfl hl.1 rfl (Nat.le_of_ble_eq_true rfl) dX3_layer_25 ⟨Nat.zero_le _, Nat.zero_le _⟩) hP hS (fun r5 _ H locs hr6 hP hS => ?_)
    obtain ⟨rfl, hz7⟩ := hr6
    have K54 : ∀ (H : Heap) (locs : List Loc) (ls : Array Slot), f_X3_layer w r p0 p1 p2 p3 p4 = f_X3_layer_b54 r → va_P D vwCl (cKick h aw av kr kt q x w v r t) H → va_S A s.heap H locs → lv_has ls 6 [(0, .ref h)] → W p l e RM_X3_layer s m args below meth c H locs 0 0 Q (F0 m 54 ls []) := by
      intro H locs ls ht hP hS hl
      exact hthr 2 52 "pore, breaks or rate is out of range" 54 H locs ls [] (Or.inr (Or.inl rfl)) hl.1 (Nat.le_of_ble_eq_true rfl) (List.mem_of_getElem? (i := 1) rfl) ⟨dX3_layer_54, dX3_layer_57, Or.inl ⟨dX3_layer_58, dX3_layer_60, dX3_layer_63⟩⟩ ⟨congrArg Prod.fst (show f_X3_layer w r p0 p1 p2 p3 p4 = (2, r) from ht.trans (by simp only [f_X3_layer_b54])), by decide⟩ hP hS
    refine lv_if_eq (tgt := 54) hx hb dX3_layer_28 (by decide) (fun c20 => ?_) (fun c20 => ?_)
    · exact K54 H locs ls (ht.trans (by simp only [f_X3_layer, if_neg c4, if_pos c20])) hP hS (lv_sub hl [0] rfl)
    · refine lv_iload_n hx hb dX3_layer_31 rfl (lv_at hl 3 rfl) ?_
      refine lv_iconst (v := 0) hx hb dX3_layer_32 (by decide) ?_
      refine lv_sipush (v := 300) hx hb dX3_layer_33 (by decide) ?_
      refine kR_i (runS fx (As := [.int p2, .int (0 : Int32), .int (300 : Int32)]) (rest := []) (c_X3_isWithin l D q H.size p2 (0 : Int32) (300 : Int32)) lk_X3_39 ⟨Nat.le_of_ble_eq_true rfl, Nat.le_of_ble_eq_true rfl⟩ ⟨rfl, rfl⟩ hP (hD _ _ _ _ _) [] rfl rfl rfl hl.1 rfl (Nat.le_of_ble_eq_true rfl) dX3_layer_36 ⟨Nat.zero_le _, Nat.zero_le _⟩) hP hS (fun r21 _ H locs hr22 hP hS => ?_)
      obtain ⟨rfl, hz23⟩ := hr22
      refine lv_if_eq (tgt := 54) hx hb dX3_layer_39 (by decide) (fun c24 => ?_) (fun c24 => ?_)
      · exact K54 H locs ls (ht.trans (by simp only [f_X3_layer, if_neg c4, if_neg c20, if_pos c24])) hP hS (lv_sub hl [0] rfl)
      · refine lv_iload hx hb dX3_layer_42 (lv_at hl 4 rfl) ?_
        refine lv_iconst (v := 0) hx hb dX3_layer_44 (by decide) ?_
        refine lv_sipush (v := 1000) hx hb dX3_layer_45 (by decide) ?_
        refine kR_i (runS fx (As := [.int p3, .int (0 : Int32), .int (1000 : Int32)]) (rest := []) (c_X3_isWithin l D q H.size p3 (0 : Int32) (1000 : Int32)) lk_X3_39 ⟨Nat.le_of_ble_eq_true rfl, Nat.le_of_ble_eq_true rfl⟩ ⟨rfl, rfl⟩ hP (hD _ _ _ _ _) [] rfl rfl rfl hl.1 rfl (Nat.le_of_ble_eq_true rfl) dX3_layer_48 ⟨Nat.zero_le _, Nat.zero_le _⟩) hP hS (fun r25 _ H locs hr26 hP hS => ?_)
        obtain ⟨rfl, hz27⟩ := hr26
        refine lv_if_ne (tgt := 64) hx hb dX3_layer_51 (by decide) (fun c28 => ?_) (fun c28 => ?_)
        · refine lv_aload_n hx hb dX3_layer_64 rfl (lv_at hl 0 rfl) ?_
          refine gf_X3_21 fx hP 0 rfl dX3_layer_65 ?_
          refine gf_X3_55 fx hP 1 rfl (v := W_depth w) rfl dX3_layer_68 ?_
          refine lv_iload_n hx hb dX3_layer_71 rfl (lv_at hl 1 rfl) ?_
          refine lv_bipush (v := 100) hx hb dX3_layer_72 (by decide) ?_
          refine lv_imul hx hb dX3_layer_74 ?_
          refine lv_icmp_le (tgt := 88) hx hb dX3_layer_75 (by decide) (fun c29 => ?_) (fun c29 => ?_)
          · refine lv_aload_n hx hb dX3_layer_88 rfl (lv_at hl 0 rfl) ?_
            refine gf_X3_10 fx hP 0 rfl dX3_layer_89 ?_
            refine lv_iload_n hx hb dX3_layer_92 rfl (lv_at hl 1 rfl) ?_
            refine lv_iload_n hx hb dX3_layer_93 rfl (lv_at hl 2 rfl) ?_
            refine lv_iload_n hx hb dX3_layer_94 rfl (lv_at hl 3 rfl) ?_
            refine lv_iload hx hb dX3_layer_95 (lv_at hl 4 rfl) ?_
            refine lv_iload hx hb dX3_layer_97 (lv_at hl 5 rfl) ?_
            refine kW_v (runVN fx (As := [.int p0, .int p1, .int p2, .int p3, .int p4]) (rest := []) (c_X0_tellLayer l D q H.size kr r p0 p1 p2 p3 p4) lk_X3_63 ⟨Nat.le_of_ble_eq_true rfl, Nat.le_of_ble_eq_true rfl⟩ ⟨rfl, rfl⟩ hP (hD _ _ _ _ _) [3, 4, 5, 6, 7, 8] rfl rfl (ci := 0) rfl rfl rfl hl.1 rfl (Nat.le_of_ble_eq_true rfl) dX3_layer_99 ⟨Nat.zero_le _, Nat.zero_le _⟩) hP (hD _ _ _ _ _) hS hA [3, 4, 5, 6, 7, 8] rfl (fun _ => rfl) (fun u30 H locs hw31 hP hS => ?_)
            have hP : va_P D vwCl (cKick h aw av kr kt q x w v u30 t) H := hP
            exact hret u30 _ _ _ _ dX3_layer_102 (ht.trans (by first | (simp only [f_X3_layer, if_neg c4, if_neg c20, if_neg c24, if_neg c28, if_pos c29, hw31]; done) | (simp only [f_X3_layer, hw31]; simp only [if_neg c4, if_neg c20, if_neg c24, if_neg c28, if_pos c29]))) hP hS
          · exact hthr 3 60 "the layer is drilled into" 78 H locs ls [] (Or.inr (Or.inr rfl)) hl.1 (Nat.le_of_ble_eq_true rfl) (List.mem_of_getElem? (i := 2) rfl) ⟨dX3_layer_78, dX3_layer_81, Or.inl ⟨dX3_layer_82, dX3_layer_84, dX3_layer_87⟩⟩ ⟨congrArg Prod.fst (show f_X3_layer w r p0 p1 p2 p3 p4 = (3, r) from ht.trans (by simp only [f_X3_layer, if_neg c4, if_neg c20, if_neg c24, if_neg c28, if_neg c29])), by decide⟩ hP hS
        · exact K54 H locs ls (ht.trans (by simp only [f_X3_layer, if_neg c4, if_neg c20, if_neg c24, if_pos c28])) hP hS (lv_sub hl [0] rfl)
  · exact hthr 1 45 "there is no such layer" 10 H locs ls [] (Or.inl rfl) hl.1 (Nat.le_of_ble_eq_true rfl) (List.mem_of_getElem? (i := 0) rfl) ⟨dX3_layer_10, dX3_layer_13, Or.inl ⟨dX3_layer_14, dX3_layer_16, dX3_layer_19⟩⟩ ⟨congrArg Prod.fst (show f_X3_layer w r p0 p1 p2 p3 p4 = (1, r) from ht.trans (by simp only [f_X3_layer, if_pos c4])), by decide⟩ hP hS

/-! X3_mud -/
def f_X3_mud (x : XS) (w : WS) (p0 : Int32) : Nat × Int32 × XS × WS :=
  if (f_X3_isWithin p0 (0 : Int32) (300 : Int32)) = 0 then (2, 0, x, w) else (if (W_isClosed w) = 0 then (0, W_weight w, X_set_pumped x (0 : Int32), W_set_weight w p0) else (3, 0, x, w))

abbrev RM_X3_mud : Room := { frames := 6, cells := 1, slots := 6, locals := 90 }
set_option maxRecDepth 100000 in
set_option maxHeartbeats 4000000 in
theorem c_X3_mud (l : Launch) (D : va_G) (q : Nat → ClassId) (sz : Nat) (h : Nat) (aw : Nat) (av : Nat) (kr : Nat → Nat) (kt : Nat → Nat) (x : XS) (w : WS) (v : WS) (r : RS) (t : TS) (p0 : Int32) (hstk : l.stackTraces = false) : vx_Met l yX3_mud (Cond.code yX3_mud cX3_mud 3 (some .int) :: ALL) RM_X3_mud (PX D q [.ref h, .int p0] (cKick h aw av kr kt q x w v r t) sz) (va_Qi (fun (rv : Int32) (u : XS × WS) => f_X3_mud x w p0 = (0, rv, u)) (fun u t9 => va_P D vwCl (cKick h aw av kr kt q u.1 u.2 v r t) t9.heap) (va_A (cKick h aw av kr kt q x w v r t) sz)) (XCk D (cKick h aw av kr kt q x w v r t) sz (fun k => (f_X3_mud x w p0).1 = k ∧ (k = 2 ∨ k = 3))) 1 6 (va_A (cKick h aw av kr kt q x w v r t) sz) := by
  refine en_xi hstk rfl (by decide +kernel) (Nat.le_of_ble_eq_true rfl) ⟨Nat.le_of_ble_eq_true rfl, Nat.le_of_ble_eq_true rfl, rfl, rfl⟩ ?_
  intro p e s m args below meth c Q A H locs ls fx hD0 hA hP hS hl hret hthr
  have hx := fx.1
  have hb := fx.2.1
  have hl : lv_has ls 3 [(0, .ref h), (1, .int p0)] := hl
  have hD : ∀ (x9 : XS) (w9 : WS) (v9 : WS) (r9 : RS) (t9 : TS), va_D _ (cKick h aw av kr kt q x9 w9 v9 r9 t9) := fun _ _ _ _ _ => D_same ((fst_Kick _ _ _ _ _ _ _ _ _ _ _).trans (fst_Kick _ _ _ _ _ _ _ _ _ _ _).symm) hD0
  have ht : f_X3_mud x w p0 = f_X3_mud x w p0 := rfl
  refine lv_iload_n hx hb dX3_mud_0 rfl (lv_at hl 1 rfl) ?_
  refine lv_iconst (v := 0) hx hb dX3_mud_1 (by decide) ?_
  refine lv_sipush (v := 300) hx hb dX3_mud_2 (by decide) ?_
  refine kR_i (runS fx (As := [.int p0, .int (0 : Int32), .int (300 : Int32)]) (rest := []) (c_X3_isWithin l D q H.size p0 (0 : Int32) (300 : Int32)) lk_X3_39 ⟨Nat.le_of_ble_eq_true rfl, Nat.le_of_ble_eq_true rfl⟩ ⟨rfl, rfl⟩ hP (hD _ _ _ _ _) [] rfl rfl rfl hl.1 rfl (Nat.le_of_ble_eq_true rfl) dX3_mud_5 ⟨Nat.zero_le _, Nat.zero_le _⟩) hP hS (fun r1 _ H locs hr2 hP hS => ?_)
  obtain ⟨rfl, hz3⟩ := hr2
  refine lv_if_ne (tgt := 21) hx hb dX3_mud_8 (by decide) (fun c4 => ?_) (fun c4 => ?_)
  · refine lv_aload_n hx hb dX3_mud_21 rfl (lv_at hl 0 rfl) ?_
    refine gf_X3_21 fx hP 0 rfl dX3_mud_22 ?_
    refine gf_X3_69 fx hP 1 rfl (v := W_isClosed w) rfl dX3_mud_25 ?_
    refine lv_if_eq (tgt := 41) hx hb dX3_mud_28 (by decide) (fun c5 => ?_) (fun c5 => ?_)
    · refine lv_aload_n hx hb dX3_mud_41 rfl (lv_at hl 0 rfl) ?_
      refine gf_X3_21 fx hP 0 rfl dX3_mud_42 ?_
      refine gf_X3_75 fx hP 1 rfl (v := W_weight w) rfl dX3_mud_45 ?_
      refine lv_istore_n (lv' := [(2, .int (W_weight w)), (0, .ref h), (1, .int p0)]) hx hb dX3_mud_48 rfl hl (by decide) rfl (fun ls hl => ?_)
      refine lv_aload_n hx hb dX3_mud_49 rfl (lv_at hl 1 rfl) ?_
      refine gf_X3_21 fx hP 0 rfl dX3_mud_50 ?_
      refine lv_iload_n hx hb dX3_mud_53 rfl (lv_at hl 2 rfl) ?_
      refine pf_X3_75 fx hP (hD _ _ _ _ _) hS 1 rfl dX3_mud_54 (fun H locs hP hS => ?_)
      have hP : va_P D vwCl (cKick h aw av kr kt q x (W_set_weight w p0) v r t) H := hP
      refine lv_aload_n hx hb dX3_mud_57 rfl (lv_at hl 1 rfl) ?_
      refine lv_iconst (v := 0) hx hb dX3_mud_58 (by decide) ?_
      refine pf_X3_78 fx hP (hD _ _ _ _ _) hS 0 rfl dX3_mud_59 (fun H locs hP hS => ?_)
      have hP : va_P D vwCl (cKick h aw av kr kt q (X_set_pumped x (0 : Int32)) (W_set_weight w p0) v r t) H := hP
      refine lv_iload_n hx hb dX3_mud_62 rfl (lv_at hl 0 rfl) ?_
      exact hret (W_weight w) (X_set_pumped x (0 : Int32), W_set_weight w p0) _ _ _ _ dX3_mud_63 (ht.trans (by simp only [f_X3_mud, if_neg c4, if_pos c5])) hP hS
    · exact hthr 3 73 "the well is closed" 31 H locs ls [] (Or.inr (Or.inr rfl)) hl.1 (Nat.le_of_ble_eq_true rfl) (List.mem_of_getElem? (i := 4) rfl) ⟨dX3_mud_31, dX3_mud_34, Or.inl ⟨dX3_mud_35, dX3_mud_37, dX3_mud_40⟩⟩ ⟨congrArg Prod.fst (show f_X3_mud x w p0 = (3, 0, x, w) from ht.trans (by simp only [f_X3_mud, if_neg c4, if_neg c5])), by decide⟩ hP hS
  · exact hthr 2 67 "weight is out of range" 11 H locs ls [] (Or.inr (Or.inl rfl)) hl.1 (Nat.le_of_ble_eq_true rfl) (List.mem_of_getElem? (i := 3) rfl) ⟨dX3_mud_11, dX3_mud_14, Or.inl ⟨dX3_mud_15, dX3_mud_17, dX3_mud_20⟩⟩ ⟨congrArg Prod.fst (show f_X3_mud x w p0 = (2, 0, x, w) from ht.trans (by simp only [f_X3_mud, if_pos c4])), by decide⟩ hP hS

/-! X3_drill -/
def f_X3_drill_b51 (w : WS) : Nat × Int32 × WS :=
  (3, 0, w)

def f_X3_drill_L63 (r : RS) (p0 : Int32) : Nat → Int32 → WS → Nat × Int32 × WS
  | 0, i53, w54 => (0, 0, w54)
  | n + 1, i53, w54 => if p0 < i53 then (0, p0, w54) else (if (f_X2_letMinuteGo (W_set_depth w54 ((W_depth w54) + (1 : Int32))) r (0 : Int32)).1 = 0 then (f_X3_drill_L63 r p0 n (i53 + (1 : Int32)) ((f_X2_letMinuteGo (W_set_depth w54 ((W_depth w54) + (1 : Int32))) r (0 : Int32)).2)) else (0, i53, ((f_X2_letMinuteGo (W_set_depth w54 ((W_depth w54) + (1 : Int32))) r (0 : Int32)).2)))

def ok_X3_drill_L63 (r : RS) (p0 : Int32) : Nat → Int32 → WS → Prop
  | 0, _, _ => False
  | n + 1, i53, w54 => (p0 < i53 → True) ∧ (¬ p0 < i53 → (((f_X2_letMinuteGo (W_set_depth w54 ((W_depth w54) + (1 : Int32))) r (0 : Int32)).1 = 0 → (ok_X3_drill_L63 r p0 n (i53 + (1 : Int32)) ((f_X2_letMinuteGo (W_set_depth w54 ((W_depth w54) + (1 : Int32))) r (0 : Int32)).2))) ∧ (¬ (f_X2_letMinuteGo (W_set_depth w54 ((W_depth w54) + (1 : Int32))) r (0 : Int32)).1 = 0 → True)))

def f_X3_drill (N : Nat) (x : XS) (w : WS) (r : RS) (t : TS) (p0 : Int32) : Nat × Int32 × WS :=
  if (f_X3_isWithin p0 (1 : Int32) (500 : Int32)) = 0 then (2, 0, w) else (if (f_X3_bars x w r t) = 0 then (if (5000 : Int32) < ((W_depth w) + p0) then (f_X3_drill_b51 w) else (if (f_X3_hasMinutes w p0) = 0 then (f_X3_drill_b51 w) else (f_X3_drill_L63 r p0 N (1 : Int32) w))) else (f_X3_drill_b51 w))

def ok_X3_drill (N : Nat) (x : XS) (w : WS) (r : RS) (t : TS) (p0 : Int32) : Prop :=
  ((f_X3_isWithin p0 (1 : Int32) (500 : Int32)) = 0 → True) ∧ (¬ (f_X3_isWithin p0 (1 : Int32) (500 : Int32)) = 0 → (((f_X3_bars x w r t) = 0 → (((5000 : Int32) < ((W_depth w) + p0) → True) ∧ (¬ (5000 : Int32) < ((W_depth w) + p0) → (((f_X3_hasMinutes w p0) = 0 → True) ∧ (¬ (f_X3_hasMinutes w p0) = 0 → (ok_X3_drill_L63 r p0 N (1 : Int32) w)))))) ∧ (¬ (f_X3_bars x w r t) = 0 → True)))

abbrev RM_X3_drill : Room := { frames := 6, cells := 1, slots := 6, locals := 124 }
set_option maxRecDepth 100000 in
set_option maxHeartbeats 4000000 in
theorem c_X3_drill (l : Launch) (D : va_G) (q : Nat → ClassId) (sz : Nat) (h : Nat) (aw : Nat) (av : Nat) (kr : Nat → Nat) (kt : Nat → Nat) (x : XS) (w : WS) (v : WS) (r : RS) (t : TS) (p0 : Int32) (N : Nat) (hok : ok_X3_drill N x w r t p0) (hstk : l.stackTraces = false) : vx_Met l yX3_drill (Cond.code yX3_drill cX3_drill 3 (some .int) :: ALL) RM_X3_drill (PX D q [.ref h, .int p0] (cKick h aw av kr kt q x w v r t) sz) (va_Qi (fun (rv : Int32) (u : WS) => f_X3_drill N x w r t p0 = (0, rv, u)) (fun u t9 => va_P D vwCl (cKick h aw av kr kt q x u v r t) t9.heap) (va_A (cKick h aw av kr kt q x w v r t) sz)) (XCk D (cKick h aw av kr kt q x w v r t) sz (fun k => (f_X3_drill N x w r t p0).1 = k ∧ (k = 2 ∨ k = 3))) 1 6 (va_A (cKick h aw av kr kt q x w v r t) sz) := by
  refine en_xi hstk rfl (by decide +kernel) (Nat.le_of_ble_eq_true rfl) ⟨Nat.le_of_ble_eq_true rfl, Nat.le_of_ble_eq_true rfl, rfl, rfl⟩ ?_
  intro p e s m args below meth c Q A H locs ls fx hD0 hA hP hS hl hret hthr
  have hx := fx.1
  have hb := fx.2.1
  have hl : lv_has ls 3 [(0, .ref h), (1, .int p0)] := hl
  have hD : ∀ (x9 : XS) (w9 : WS) (v9 : WS) (r9 : RS) (t9 : TS), va_D _ (cKick h aw av kr kt q x9 w9 v9 r9 t9) := fun _ _ _ _ _ => D_same ((fst_Kick _ _ _ _ _ _ _ _ _ _ _).trans (fst_Kick _ _ _ _ _ _ _ _ _ _ _).symm) hD0
  have ht : f_X3_drill N x w r t p0 = f_X3_drill N x w r t p0 := rfl
  simp only [ok_X3_drill] at hok
  refine lv_iload_n hx hb dX3_drill_0 rfl (lv_at hl 1 rfl) ?_
  refine lv_iconst (v := 1) hx hb dX3_drill_1 (by decide) ?_
  refine lv_sipush (v := 500) hx hb dX3_drill_2 (by decide) ?_
  refine kR_i (runS fx (As := [.int p0, .int (1 : Int32), .int (500 : Int32)]) (rest := []) (c_X3_isWithin l D q H.size p0 (1 : Int32) (500 : Int32)) lk_X3_39 ⟨Nat.le_of_ble_eq_true rfl, Nat.le_of_ble_eq_true rfl⟩ ⟨rfl, rfl⟩ hP (hD _ _ _ _ _) [] rfl rfl rfl hl.1 rfl (Nat.le_of_ble_eq_true rfl) dX3_drill_5 ⟨Nat.zero_le _, Nat.zero_le _⟩) hP hS (fun r1 _ H locs hr2 hP hS => ?_)
  obtain ⟨rfl, hz3⟩ := hr2
  refine lv_if_ne (tgt := 21) hx hb dX3_drill_8 (by decide) (fun c4 => ?_) (fun c4 => ?_)
  · have hok := hok.2 c4
    refine lv_aload_n hx hb dX3_drill_21 rfl (lv_at hl 0 rfl) ?_
    refine kR_i (runV fx (As := []) (rest := []) (c_X3_bars l D q H.size h aw av kr kt x w v r t) lk_X3_83 ⟨Nat.le_of_ble_eq_true rfl, Nat.le_of_ble_eq_true rfl⟩ ⟨rfl, rfl⟩ hP (hD _ _ _ _ _) [0, 1, 2, 3, 4, 5, 6, 7, 8, 9, 10, 11, 12, 13] rfl rfl (ci := 3) rfl rfl rfl hl.1 rfl (Nat.le_of_ble_eq_true rfl) dX3_drill_22 ⟨Nat.zero_le _, Nat.zero_le _⟩) hP hS (fun r5 _ H locs hr6 hP hS => ?_)
    subst hr6
    have K51 : ∀ (H : Heap) (locs : List Loc) (ls : Array Slot), f_X3_drill N x w r t p0 = f_X3_drill_b51 w → va_P D vwCl (cKick h aw av kr kt q x w v r t) H → va_S A s.heap H locs → lv_has ls 3 [(0, .ref h)] → W p l e RM_X3_drill s m args below meth c H locs 0 0 Q (F0 m 51 ls []) := by
      intro H locs ls ht hP hS hl
      exact hthr 3 91 "drilling is barred, or would go too deep or too long" 51 H locs ls [] (Or.inr (Or.inr rfl)) hl.1 (Nat.le_of_ble_eq_true rfl) (List.mem_of_getElem? (i := 6) rfl) ⟨dX3_drill_51, dX3_drill_54, Or.inl ⟨dX3_drill_55, dX3_drill_57, dX3_drill_60⟩⟩ ⟨congrArg Prod.fst (show f_X3_drill N x w r t p0 = (3, 0, w) from ht.trans (by simp only [f_X3_drill_b51])), by decide⟩ hP hS
    refine lv_if_ne (tgt := 51) hx hb dX3_drill_25 (by decide) (fun c34 => ?_) (fun c34 => ?_)
    · have hok := hok.2 c34
      exact K51 H locs ls (ht.trans (by simp only [f_X3_drill, if_neg c4, if_neg c34])) hP hS (lv_sub hl [0] rfl)
    · have hok := hok.1 c34
      refine lv_aload_n hx hb dX3_drill_28 rfl (lv_at hl 0 rfl) ?_
      refine gf_X3_21 fx hP 0 rfl dX3_drill_29 ?_
      refine gf_X3_55 fx hP 1 rfl (v := W_depth w) rfl dX3_drill_32 ?_
      refine lv_iload_n hx hb dX3_drill_35 rfl (lv_at hl 1 rfl) ?_
      refine lv_iadd hx hb dX3_drill_36 ?_
      refine lv_sipush (v := 5000) hx hb dX3_drill_37 (by decide) ?_
      refine lv_icmp_gt (tgt := 51) hx hb dX3_drill_40 (by decide) (fun c35 => ?_) (fun c35 => ?_)
      · have hok := hok.1 c35
        exact K51 H locs ls (ht.trans (by simp only [f_X3_drill, if_neg c4, if_pos c34, if_pos c35])) hP hS (lv_sub hl [0] rfl)
      · have hok := hok.2 c35
        refine lv_aload_n hx hb dX3_drill_43 rfl (lv_at hl 0 rfl) ?_
        refine lv_iload_n hx hb dX3_drill_44 rfl (lv_at hl 1 rfl) ?_
        refine kR_i (runV fx (As := [.int p0]) (rest := []) (c_X3_hasMinutes l D q H.size h aw av kr kt x w v r t p0) lk_X3_87 ⟨Nat.le_of_ble_eq_true rfl, Nat.le_of_ble_eq_true rfl⟩ ⟨rfl, rfl⟩ hP (hD _ _ _ _ _) [0, 1, 2, 3, 4, 5, 6, 7, 8, 9, 10, 11, 12, 13] rfl rfl (ci := 3) rfl rfl rfl hl.1 rfl (Nat.le_of_ble_eq_true rfl) dX3_drill_45 ⟨Nat.zero_le _, Nat.zero_le _⟩) hP hS (fun r36 _ H locs hr37 hP hS => ?_)
        obtain ⟨rfl, hz38⟩ := hr37
        refine lv_if_ne (tgt := 61) hx hb dX3_drill_48 (by decide) (fun c39 => ?_) (fun c39 => ?_)
        · have hok := hok.2 c39
          refine lv_iconst (v := 1) hx hb dX3_drill_61 (by decide) ?_
          refine lv_istore_n (lv' := [(2, .int (1 : Int32)), (0, .ref h), (1, .int p0)]) hx hb dX3_drill_62 rfl hl (by decide) rfl (fun ls hl => ?_)
          have LP63 : ∀ (n : Nat) (i53 : Int32) (w54 : WS) (H : Heap) (locs : List Loc) (ls : Array Slot), ok_X3_drill_L63 r p0 n i53 w54 → f_X3_drill N x w r t p0 = f_X3_drill_L63 r p0 n i53 w54 → va_P D vwCl (cKick h aw av kr kt q x w54 v r t) H → va_S A s.heap H locs → lv_has ls 3 [(0, .ref h), (1, .int p0), (2, .int i53)] → W p l e RM_X3_drill s m args below meth c H locs 0 0 Q (F0 m 63 ls []) := by
            intro n
            induction n with
            | zero =>
              intro i53 w54 H locs ls hok
              exact (hok : False).elim
            | succ n ih63 =>
              intro i53 w54 H locs ls hok ht hP hS hl
              simp only [ok_X3_drill_L63] at hok
              refine lv_iload_n hx hb dX3_drill_63 rfl (lv_at hl 2 rfl) ?_
              refine lv_iload_n hx hb dX3_drill_64 rfl (lv_at hl 1 rfl) ?_
              refine lv_icmp_gt (tgt := 100) hx hb dX3_drill_65 (by decide) (fun c55 => ?_) (fun c55 => ?_)
              · have hok := hok.1 c55
                refine lv_iload_n hx hb dX3_drill_100 rfl (lv_at hl 1 rfl) ?_
                exact hret p0 w54 _ _ _ _ dX3_drill_101 (ht.trans (by simp only [f_X3_drill_L63, if_pos c55])) hP hS
              · have hok := hok.2 c55
                refine lv_aload_n hx hb dX3_drill_68 rfl (lv_at hl 0 rfl) ?_
                refine gf_X3_21 fx hP 0 rfl dX3_drill_69 ?_
                refine lv_dup hx hb dX3_drill_72 rfl ?_
                refine gf_X3_55 fx hP 1 rfl (v := W_depth w54) rfl dX3_drill_73 ?_
                refine lv_iconst (v := 1) hx hb dX3_drill_76 (by decide) ?_
                refine lv_iadd hx hb dX3_drill_77 ?_
                refine pf_X3_55 fx hP (hD _ _ _ _ _) hS 1 rfl dX3_drill_78 (fun H locs hP hS => ?_)
                have hP : va_P D vwCl (cKick h aw av kr kt q x (W_set_depth w54 ((W_depth w54) + (1 : Int32))) v r t) H := hP
                refine lv_aload_n hx hb dX3_drill_81 rfl (lv_at hl 0 rfl) ?_
                refine gf_X3_21 fx hP 0 rfl dX3_drill_82 ?_
                refine lv_iconst (v := 0) hx hb dX3_drill_85 (by decide) ?_
                refine kW_i (runVN fx (As := [.int (0 : Int32)]) (rest := []) (c_X2_letMinuteGo l D q H.size aw kr (W_set_depth w54 ((W_depth w54) + (1 : Int32))) r (0 : Int32)) lk_X3_93 ⟨Nat.le_of_ble_eq_true rfl, Nat.le_of_ble_eq_true rfl⟩ ⟨rfl, rfl⟩ hP (hD _ _ _ _ _) [1, 3, 4, 5, 6, 7, 8] rfl rfl (ci := 2) rfl rfl rfl hl.1 rfl (Nat.le_of_ble_eq_true rfl) dX3_drill_86 ⟨Nat.zero_le _, Nat.zero_le _⟩) hP (hD _ _ _ _ _) hS hA [1, 3, 4, 5, 6, 7, 8] rfl (fun _ => rfl) (fun r58 u56 H locs hw57 hP hS => ?_)
                obtain ⟨hw57, hz59⟩ := hw57
                have hP : va_P D vwCl (cKick h aw av kr kt q x u56 v r t) H := hP
                try simp only [hw57] at hok
                refine lv_if_eq (tgt := 94) hx hb dX3_drill_89 (by decide) (fun c60 => ?_) (fun c60 => ?_)
                · have hok := hok.1 c60
                  refine lv_iinc (v := i53 + (1 : Int32)) (lv' := [(2, .int (i53 + (1 : Int32))), (0, .ref h), (1, .int p0)]) hx hb dX3_drill_94 hl (k := 2) rfl rfl (by decide) rfl (fun ls hl => ?_)
                  refine lv_goto (tgt := 63) hx hb dX3_drill_97 (by decide) ?_
                  exact ih63 (i53 + (1 : Int32)) u56 H locs ls hok (ht.trans (by first | (simp only [f_X3_drill_L63, if_neg c55, if_pos c60, hw57]; done) | (simp only [f_X3_drill_L63, hw57]; simp only [if_neg c55, if_pos c60]))) hP hS (lv_sub hl [1, 2, 0] rfl)
                · have hok := hok.2 c60
                  refine lv_iload_n hx hb dX3_drill_92 rfl (lv_at hl 2 rfl) ?_
                  exact hret i53 u56 _ _ _ _ dX3_drill_93 (ht.trans (by first | (simp only [f_X3_drill_L63, if_neg c55, if_neg c60, hw57]; done) | (simp only [f_X3_drill_L63, hw57]; simp only [if_neg c55, if_neg c60]))) hP hS
          exact LP63 N (1 : Int32) w H locs ls hok (ht.trans (by simp only [f_X3_drill, if_neg c4, if_pos c34, if_neg c35, if_neg c39])) hP hS (lv_sub hl [1, 2, 0] rfl)
        · have hok := hok.1 c39
          exact K51 H locs ls (ht.trans (by simp only [f_X3_drill, if_neg c4, if_pos c34, if_neg c35, if_pos c39])) hP hS (lv_sub hl [0] rfl)
  · have hok := hok.1 c4
    exact hthr 2 81 "metres is out of range" 11 H locs ls [] (Or.inr (Or.inl rfl)) hl.1 (Nat.le_of_ble_eq_true rfl) (List.mem_of_getElem? (i := 5) rfl) ⟨dX3_drill_11, dX3_drill_14, Or.inl ⟨dX3_drill_15, dX3_drill_17, dX3_drill_20⟩⟩ ⟨congrArg Prod.fst (show f_X3_drill N x w r t p0 = (2, 0, w) from ht.trans (by simp only [f_X3_drill, if_pos c4])), by decide⟩ hP hS

/-! X3_pass -/
def f_X3_pass (N : Nat) (w : WS) (r : RS) (p0 : Int32) : Nat × Int32 × WS :=
  if (f_X3_isWithin p0 (1 : Int32) (2000 : Int32)) = 0 then (2, 0, w) else (if (f_X3_hasMinutes w p0) = 0 then (3, 0, w) else (0, (f_X2_letMinutesGo N w r p0).1, ((f_X2_letMinutesGo N w r p0).2)))

def ok_X3_pass (N : Nat) (w : WS) (r : RS) (p0 : Int32) : Prop :=
  ((f_X3_isWithin p0 (1 : Int32) (2000 : Int32)) = 0 → True) ∧ (¬ (f_X3_isWithin p0 (1 : Int32) (2000 : Int32)) = 0 → (((f_X3_hasMinutes w p0) = 0 → True) ∧ (¬ (f_X3_hasMinutes w p0) = 0 → ((ok_X2_letMinutesGo N w r p0) ∧ True))))

abbrev RM_X3_pass : Room := { frames := 6, cells := 1, slots := 6, locals := 131 }
set_option maxRecDepth 100000 in
set_option maxHeartbeats 4000000 in
theorem c_X3_pass (l : Launch) (D : va_G) (q : Nat → ClassId) (sz : Nat) (h : Nat) (aw : Nat) (av : Nat) (kr : Nat → Nat) (kt : Nat → Nat) (x : XS) (w : WS) (v : WS) (r : RS) (t : TS) (p0 : Int32) (N : Nat) (hok : ok_X3_pass N w r p0) (hstk : l.stackTraces = false) : vx_Met l yX3_pass (Cond.code yX3_pass cX3_pass 2 (some .int) :: ALL) RM_X3_pass (PX D q [.ref h, .int p0] (cKick h aw av kr kt q x w v r t) sz) (va_Qi (fun (rv : Int32) (u : WS) => f_X3_pass N w r p0 = (0, rv, u)) (fun u t9 => va_P D vwCl (cKick h aw av kr kt q x u v r t) t9.heap) (va_A (cKick h aw av kr kt q x w v r t) sz)) (XCk D (cKick h aw av kr kt q x w v r t) sz (fun k => (f_X3_pass N w r p0).1 = k ∧ (k = 2 ∨ k = 3))) 1 6 (va_A (cKick h aw av kr kt q x w v r t) sz) := by
  refine en_xi hstk rfl (by decide +kernel) (Nat.le_of_ble_eq_true rfl) ⟨Nat.le_of_ble_eq_true rfl, Nat.le_of_ble_eq_true rfl, rfl, rfl⟩ ?_
  intro p e s m args below meth c Q A H locs ls fx hD0 hA hP hS hl hret hthr
  have hx := fx.1
  have hb := fx.2.1
  have hl : lv_has ls 2 [(0, .ref h), (1, .int p0)] := hl
  have hD : ∀ (x9 : XS) (w9 : WS) (v9 : WS) (r9 : RS) (t9 : TS), va_D _ (cKick h aw av kr kt q x9 w9 v9 r9 t9) := fun _ _ _ _ _ => D_same ((fst_Kick _ _ _ _ _ _ _ _ _ _ _).trans (fst_Kick _ _ _ _ _ _ _ _ _ _ _).symm) hD0
  have ht : f_X3_pass N w r p0 = f_X3_pass N w r p0 := rfl
  simp only [ok_X3_pass] at hok
  refine lv_iload_n hx hb dX3_pass_0 rfl (lv_at hl 1 rfl) ?_
  refine lv_iconst (v := 1) hx hb dX3_pass_1 (by decide) ?_
  refine lv_sipush (v := 2000) hx hb dX3_pass_2 (by decide) ?_
  refine kR_i (runS fx (As := [.int p0, .int (1 : Int32), .int (2000 : Int32)]) (rest := []) (c_X3_isWithin l D q H.size p0 (1 : Int32) (2000 : Int32)) lk_X3_39 ⟨Nat.le_of_ble_eq_true rfl, Nat.le_of_ble_eq_true rfl⟩ ⟨rfl, rfl⟩ hP (hD _ _ _ _ _) [] rfl rfl rfl hl.1 rfl (Nat.le_of_ble_eq_true rfl) dX3_pass_5 ⟨Nat.zero_le _, Nat.zero_le _⟩) hP hS (fun r1 _ H locs hr2 hP hS => ?_)
  obtain ⟨rfl, hz3⟩ := hr2
  refine lv_if_ne (tgt := 21) hx hb dX3_pass_8 (by decide) (fun c4 => ?_) (fun c4 => ?_)
  · have hok := hok.2 c4
    refine lv_aload_n hx hb dX3_pass_21 rfl (lv_at hl 0 rfl) ?_
    refine lv_iload_n hx hb dX3_pass_22 rfl (lv_at hl 1 rfl) ?_
    refine kR_i (runV fx (As := [.int p0]) (rest := []) (c_X3_hasMinutes l D q H.size h aw av kr kt x w v r t p0) lk_X3_87 ⟨Nat.le_of_ble_eq_true rfl, Nat.le_of_ble_eq_true rfl⟩ ⟨rfl, rfl⟩ hP (hD _ _ _ _ _) [0, 1, 2, 3, 4, 5, 6, 7, 8, 9, 10, 11, 12, 13] rfl rfl (ci := 3) rfl rfl rfl hl.1 rfl (Nat.le_of_ble_eq_true rfl) dX3_pass_23 ⟨Nat.zero_le _, Nat.zero_le _⟩) hP hS (fun r5 _ H locs hr6 hP hS => ?_)
    obtain ⟨rfl, hz7⟩ := hr6
    refine lv_if_ne (tgt := 39) hx hb dX3_pass_26 (by decide) (fun c8 => ?_) (fun c8 => ?_)
    · have hok := hok.2 c8
      refine lv_aload_n hx hb dX3_pass_39 rfl (lv_at hl 0 rfl) ?_
      refine gf_X3_21 fx hP 0 rfl dX3_pass_40 ?_
      refine lv_iload_n hx hb dX3_pass_43 rfl (lv_at hl 1 rfl) ?_
      obtain ⟨hk9, hok⟩ := hok
      refine kW_i (runVN fx (As := [.int p0]) (rest := []) (c_X2_letMinutesGo l D q H.size aw kr w r p0 N hk9) lk_X3_101 ⟨Nat.le_of_ble_eq_true rfl, Nat.le_of_ble_eq_true rfl⟩ ⟨rfl, rfl⟩ hP (hD _ _ _ _ _) [1, 3, 4, 5, 6, 7, 8] rfl rfl (ci := 2) rfl rfl rfl hl.1 rfl (Nat.le_of_ble_eq_true rfl) dX3_pass_44 ⟨Nat.zero_le _, Nat.zero_le _⟩) hP (hD _ _ _ _ _) hS hA [1, 3, 4, 5, 6, 7, 8] rfl (fun _ => rfl) (fun r12 u10 H locs hw11 hP hS => ?_)
      have hP : va_P D vwCl (cKick h aw av kr kt q x u10 v r t) H := hP
      try simp only [hw11] at hok
      exact hret r12 u10 _ _ _ _ dX3_pass_47 (ht.trans (by first | (simp only [f_X3_pass, if_neg c4, if_neg c8, hw11]; done) | (simp only [f_X3_pass, hw11]; simp only [if_neg c4, if_neg c8]))) hP hS
    · have hok := hok.1 c8
      exact hthr 3 99 "the minutes would be too many" 29 H locs ls [] (Or.inr (Or.inr rfl)) hl.1 (Nat.le_of_ble_eq_true rfl) (List.mem_of_getElem? (i := 8) rfl) ⟨dX3_pass_29, dX3_pass_32, Or.inl ⟨dX3_pass_33, dX3_pass_35, dX3_pass_38⟩⟩ ⟨congrArg Prod.fst (show f_X3_pass N w r p0 = (3, 0, w) from ht.trans (by simp only [f_X3_pass, if_neg c4, if_pos c8])), by decide⟩ hP hS
  · have hok := hok.1 c4
    exact hthr 2 97 "minutes is out of range" 11 H locs ls [] (Or.inr (Or.inl rfl)) hl.1 (Nat.le_of_ble_eq_true rfl) (List.mem_of_getElem? (i := 7) rfl) ⟨dX3_pass_11, dX3_pass_14, Or.inl ⟨dX3_pass_15, dX3_pass_17, dX3_pass_20⟩⟩ ⟨congrArg Prod.fst (show f_X3_pass N w r p0 = (2, 0, w) from ht.trans (by simp only [f_X3_pass, if_pos c4])), by decide⟩ hP hS

/-! X3_close -/
def f_X3_close (w : WS) : Nat × WS :=
  if (W_isClosed w) = 0 then (0, W_set_isClosed w (1 : Int32)) else (3, w)

abbrev RM_X3_close : Room := { frames := 6, cells := 1, slots := 6, locals := 90 }
set_option maxRecDepth 100000 in
set_option maxHeartbeats 4000000 in
theorem c_X3_close (l : Launch) (D : va_G) (q : Nat → ClassId) (sz : Nat) (h : Nat) (aw : Nat) (av : Nat) (kr : Nat → Nat) (kt : Nat → Nat) (x : XS) (w : WS) (v : WS) (r : RS) (t : TS) (hstk : l.stackTraces = false) : vx_Met l yX3_close (Cond.code yX3_close cX3_close 1 none :: ALL) RM_X3_close (PX D q [.ref h] (cKick h aw av kr kt q x w v r t) sz) (va_Qv (fun (u : WS) => f_X3_close w = (0, u)) (fun u t9 => va_P D vwCl (cKick h aw av kr kt q x u v r t) t9.heap) (va_A (cKick h aw av kr kt q x w v r t) sz)) (XCk D (cKick h aw av kr kt q x w v r t) sz (fun k => (f_X3_close w).1 = k ∧ (k = 3))) 1 6 (va_A (cKick h aw av kr kt q x w v r t) sz) := by
  refine en_xv hstk rfl (by decide +kernel) (Nat.le_of_ble_eq_true rfl) ⟨Nat.le_of_ble_eq_true rfl, Nat.le_of_ble_eq_true rfl, rfl, rfl⟩ ?_
  intro p e s m args below meth c Q A H locs ls fx hD0 hA hP hS hl hret hthr
  have hx := fx.1
  have hb := fx.2.1
  have hl : lv_has ls 1 [(0, .ref h)] := hl
  have hD : ∀ (x9 : XS) (w9 : WS) (v9 : WS) (r9 : RS) (t9 : TS), va_D _ (cKick h aw av kr kt q x9 w9 v9 r9 t9) := fun _ _ _ _ _ => D_same ((fst_Kick _ _ _ _ _ _ _ _ _ _ _).trans (fst_Kick _ _ _ _ _ _ _ _ _ _ _).symm) hD0
  have ht : f_X3_close w = f_X3_close w := rfl
  refine lv_aload_n hx hb dX3_close_0 rfl (lv_at hl 0 rfl) ?_
  refine gf_X3_21 fx hP 0 rfl dX3_close_1 ?_
  refine gf_X3_69 fx hP 1 rfl (v := W_isClosed w) rfl dX3_close_4 ?_
  refine lv_if_eq (tgt := 20) hx hb dX3_close_7 (by decide) (fun c1 => ?_) (fun c1 => ?_)
  · refine lv_aload_n hx hb dX3_close_20 rfl (lv_at hl 0 rfl) ?_
    refine gf_X3_21 fx hP 0 rfl dX3_close_21 ?_
    refine lv_iconst (v := 1) hx hb dX3_close_24 (by decide) ?_
    refine pf_X3_69 fx hP (hD _ _ _ _ _) hS 1 rfl (hz := bz1) dX3_close_25 (fun H locs hP hS => ?_)
    have hP : va_P D vwCl (cKick h aw av kr kt q x (W_set_isClosed w (1 : Int32)) v r t) H := hP
    exact hret (W_set_isClosed w (1 : Int32)) _ _ _ _ dX3_close_28 (ht.trans (by simp only [f_X3_close, if_pos c1])) hP hS
  · exact hthr 3 73 "the well is closed" 10 H locs ls [] (Or.inr (Or.inr rfl)) hl.1 (Nat.le_of_ble_eq_true rfl) (List.mem_of_getElem? (i := 4) rfl) ⟨dX3_close_10, dX3_close_13, Or.inl ⟨dX3_close_14, dX3_close_16, dX3_close_19⟩⟩ ⟨congrArg Prod.fst (show f_X3_close w = (3, w) from ht.trans (by simp only [f_X3_close, if_neg c1])), by decide⟩ hP hS

/-! X3_open -/
def f_X3_open (w : WS) : Nat × Int32 × WS :=
  if (W_isClosed w) = 0 then (3, 0, w) else (0, W_choke w, W_set_choke (W_set_isClosed w (0 : Int32)) (0 : Int32))

abbrev RM_X3_open : Room := { frames := 6, cells := 1, slots := 6, locals := 90 }
set_option maxRecDepth 100000 in
set_option maxHeartbeats 4000000 in
theorem c_X3_open (l : Launch) (D : va_G) (q : Nat → ClassId) (sz : Nat) (h : Nat) (aw : Nat) (av : Nat) (kr : Nat → Nat) (kt : Nat → Nat) (x : XS) (w : WS) (v : WS) (r : RS) (t : TS) (hstk : l.stackTraces = false) : vx_Met l yX3_open (Cond.code yX3_open cX3_open 2 (some .int) :: ALL) RM_X3_open (PX D q [.ref h] (cKick h aw av kr kt q x w v r t) sz) (va_Qi (fun (rv : Int32) (u : WS) => f_X3_open w = (0, rv, u)) (fun u t9 => va_P D vwCl (cKick h aw av kr kt q x u v r t) t9.heap) (va_A (cKick h aw av kr kt q x w v r t) sz)) (XCk D (cKick h aw av kr kt q x w v r t) sz (fun k => (f_X3_open w).1 = k ∧ (k = 3))) 1 6 (va_A (cKick h aw av kr kt q x w v r t) sz) := by
  refine en_xi hstk rfl (by decide +kernel) (Nat.le_of_ble_eq_true rfl) ⟨Nat.le_of_ble_eq_true rfl, Nat.le_of_ble_eq_true rfl, rfl, rfl⟩ ?_
  intro p e s m args below meth c Q A H locs ls fx hD0 hA hP hS hl hret hthr
  have hx := fx.1
  have hb := fx.2.1
  have hl : lv_has ls 2 [(0, .ref h)] := hl
  have hD : ∀ (x9 : XS) (w9 : WS) (v9 : WS) (r9 : RS) (t9 : TS), va_D _ (cKick h aw av kr kt q x9 w9 v9 r9 t9) := fun _ _ _ _ _ => D_same ((fst_Kick _ _ _ _ _ _ _ _ _ _ _).trans (fst_Kick _ _ _ _ _ _ _ _ _ _ _).symm) hD0
  have ht : f_X3_open w = f_X3_open w := rfl
  refine lv_aload_n hx hb dX3_open_0 rfl (lv_at hl 0 rfl) ?_
  refine gf_X3_21 fx hP 0 rfl dX3_open_1 ?_
  refine gf_X3_69 fx hP 1 rfl (v := W_isClosed w) rfl dX3_open_4 ?_
  refine lv_if_ne (tgt := 20) hx hb dX3_open_7 (by decide) (fun c1 => ?_) (fun c1 => ?_)
  · refine lv_aload_n hx hb dX3_open_20 rfl (lv_at hl 0 rfl) ?_
    refine gf_X3_21 fx hP 0 rfl dX3_open_21 ?_
    refine gf_X3_107 fx hP 1 rfl (v := W_choke w) rfl dX3_open_24 ?_
    refine lv_istore_n (lv' := [(1, .int (W_choke w)), (0, .ref h)]) hx hb dX3_open_27 rfl hl (by decide) rfl (fun ls hl => ?_)
    refine lv_aload_n hx hb dX3_open_28 rfl (lv_at hl 1 rfl) ?_
    refine gf_X3_21 fx hP 0 rfl dX3_open_29 ?_
    refine lv_iconst (v := 0) hx hb dX3_open_32 (by decide) ?_
    refine pf_X3_69 fx hP (hD _ _ _ _ _) hS 1 rfl (hz := bz0) dX3_open_33 (fun H locs hP hS => ?_)
    have hP : va_P D vwCl (cKick h aw av kr kt q x (W_set_isClosed w (0 : Int32)) v r t) H := hP
    refine lv_aload_n hx hb dX3_open_36 rfl (lv_at hl 1 rfl) ?_
    refine gf_X3_21 fx hP 0 rfl dX3_open_37 ?_
    refine lv_iconst (v := 0) hx hb dX3_open_40 (by decide) ?_
    refine pf_X3_107 fx hP (hD _ _ _ _ _) hS 1 rfl dX3_open_41 (fun H locs hP hS => ?_)
    have hP : va_P D vwCl (cKick h aw av kr kt q x (W_set_choke (W_set_isClosed w (0 : Int32)) (0 : Int32)) v r t) H := hP
    refine lv_iload_n hx hb dX3_open_44 rfl (lv_at hl 0 rfl) ?_
    exact hret (W_choke w) (W_set_choke (W_set_isClosed w (0 : Int32)) (0 : Int32)) _ _ _ _ dX3_open_45 (ht.trans (by simp only [f_X3_open, if_neg c1])) hP hS
  · exact hthr 3 105 "the well is open" 10 H locs ls [] (Or.inr (Or.inr rfl)) hl.1 (Nat.le_of_ble_eq_true rfl) (List.mem_of_getElem? (i := 9) rfl) ⟨dX3_open_10, dX3_open_13, Or.inl ⟨dX3_open_14, dX3_open_16, dX3_open_19⟩⟩ ⟨congrArg Prod.fst (show f_X3_open w = (3, 0, w) from ht.trans (by simp only [f_X3_open, if_pos c1])), by decide⟩ hP hS

/-! X3_pump -/
def f_X3_pump_b22 (x : XS) (w : WS) : Nat × Int32 × XS × WS :=
  (2, 0, x, w)

def f_X3_pump_b60 (x : XS) (w : WS) : Nat × Int32 × XS × WS :=
  (3, 0, x, w)

def f_X3_pump_L90 (r : RS) (p0 : Int32) (p1 : Int32) : Nat → Int32 → XS → WS → Nat × Int32 × XS × WS
  | 0, i225, x226, w227 => (0, 0, x226, w227)
  | n + 1, i225, x226, w227 => if p0 < i225 then (0, p0, x226, w227) else (if (W_isClosed ((f_X2_letMinuteGo w227 r (1 : Int32)).2)) = 0 then (0, i225, x226, ((f_X2_letMinuteGo w227 r (1 : Int32)).2)) else (f_X3_pump_L90 r p0 p1 n (i225 + (1 : Int32)) (f_X3_pumpOn x226 ((f_X2_letMinuteGo w227 r (1 : Int32)).2) p1).1 (f_X3_pumpOn x226 ((f_X2_letMinuteGo w227 r (1 : Int32)).2) p1).2))

def ok_X3_pump_L90 (r : RS) (p0 : Int32) (p1 : Int32) : Nat → Int32 → XS → WS → Prop
  | 0, _, _, _ => False
  | n + 1, i225, x226, w227 => (p0 < i225 → True) ∧ (¬ p0 < i225 → (((W_isClosed ((f_X2_letMinuteGo w227 r (1 : Int32)).2)) = 0 → True) ∧ (¬ (W_isClosed ((f_X2_letMinuteGo w227 r (1 : Int32)).2)) = 0 → (ok_X3_pump_L90 r p0 p1 n (i225 + (1 : Int32)) (f_X3_pumpOn x226 ((f_X2_letMinuteGo w227 r (1 : Int32)).2) p1).1 (f_X3_pumpOn x226 ((f_X2_letMinuteGo w227 r (1 : Int32)).2) p1).2))))

def f_X3_pump_b83 (N : Nat) (w : WS) (r : RS) (p0 : Int32) (p1 : Int32) (x208 : XS) : Nat × Int32 × XS × WS :=
  f_X3_pump_L90 r p0 p1 N (1 : Int32) (X_set_latestPumpedWeight x208 p1) w

def ok_X3_pump_b83 (N : Nat) (w : WS) (r : RS) (p0 : Int32) (p1 : Int32) (x208 : XS) : Prop :=
  ok_X3_pump_L90 r p0 p1 N (1 : Int32) (X_set_latestPumpedWeight x208 p1) w

def f_X3_pump (N : Nat) (x : XS) (w : WS) (r : RS) (p0 : Int32) (p1 : Int32) : Nat × Int32 × XS × WS :=
  if (f_X3_isWithin p0 (1 : Int32) (500 : Int32)) = 0 then (f_X3_pump_b22 x w) else (if (f_X3_isWithin p1 (0 : Int32) (300 : Int32)) = 0 then (f_X3_pump_b22 x w) else (if (W_isClosed w) = 0 then (f_X3_pump_b60 x w) else (if (W_depth w) = 0 then (f_X3_pump_b60 x w) else (if (f_X3_hasMinutes w p0) = 0 then (f_X3_pump_b60 x w) else (if p1 = (X_latestPumpedWeight x) then (f_X3_pump_b83 N w r p0 p1 x) else (f_X3_pump_b83 N w r p0 p1 (X_set_pumped x (0 : Int32))))))))

def ok_X3_pump (N : Nat) (x : XS) (w : WS) (r : RS) (p0 : Int32) (p1 : Int32) : Prop :=
  ((f_X3_isWithin p0 (1 : Int32) (500 : Int32)) = 0 → True) ∧ (¬ (f_X3_isWithin p0 (1 : Int32) (500 : Int32)) = 0 → (((f_X3_isWithin p1 (0 : Int32) (300 : Int32)) = 0 → True) ∧ (¬ (f_X3_isWithin p1 (0 : Int32) (300 : Int32)) = 0 → (((W_isClosed w) = 0 → True) ∧ (¬ (W_isClosed w) = 0 → (((W_depth w) = 0 → True) ∧ (¬ (W_depth w) = 0 → (((f_X3_hasMinutes w p0) = 0 → True) ∧ (¬ (f_X3_hasMinutes w p0) = 0 → ((p1 = (X_latestPumpedWeight x) → (ok_X3_pump_b83 N w r p0 p1 x)) ∧ (¬ p1 = (X_latestPumpedWeight x) → (ok_X3_pump_b83 N w r p0 p1 (X_set_pumped x (0 : Int32))))))))))))))

abbrev RM_X3_pump : Room := { frames := 6, cells := 1, slots := 6, locals := 109 }
set_option maxRecDepth 100000 in
set_option maxHeartbeats 4000000 in
theorem c_X3_pump (l : Launch) (D : va_G) (q : Nat → ClassId) (sz : Nat) (h : Nat) (aw : Nat) (av : Nat) (kr : Nat → Nat) (kt : Nat → Nat) (x : XS) (w : WS) (v : WS) (r : RS) (t : TS) (p0 : Int32) (p1 : Int32) (N : Nat) (hok : ok_X3_pump N x w r p0 p1) (hstk : l.stackTraces = false) : vx_Met l yX3_pump (Cond.code yX3_pump cX3_pump 4 (some .int) :: ALL) RM_X3_pump (PX D q [.ref h, .int p0, .int p1] (cKick h aw av kr kt q x w v r t) sz) (va_Qi (fun (rv : Int32) (u : XS × WS) => f_X3_pump N x w r p0 p1 = (0, rv, u)) (fun u t9 => va_P D vwCl (cKick h aw av kr kt q u.1 u.2 v r t) t9.heap) (va_A (cKick h aw av kr kt q x w v r t) sz)) (XCk D (cKick h aw av kr kt q x w v r t) sz (fun k => (f_X3_pump N x w r p0 p1).1 = k ∧ (k = 2 ∨ k = 3))) 1 6 (va_A (cKick h aw av kr kt q x w v r t) sz) := by
  refine en_xi hstk rfl (by decide +kernel) (Nat.le_of_ble_eq_true rfl) ⟨Nat.le_of_ble_eq_true rfl, Nat.le_of_ble_eq_true rfl, rfl, rfl⟩ ?_
  intro p e s m args below meth c Q A H locs ls fx hD0 hA hP hS hl hret hthr
  have hx := fx.1
  have hb := fx.2.1
  have hl : lv_has ls 4 [(0, .ref h), (1, .int p0), (2, .int p1)] := hl
  have hD : ∀ (x9 : XS) (w9 : WS) (v9 : WS) (r9 : RS) (t9 : TS), va_D _ (cKick h aw av kr kt q x9 w9 v9 r9 t9) := fun _ _ _ _ _ => D_same ((fst_Kick _ _ _ _ _ _ _ _ _ _ _).trans (fst_Kick _ _ _ _ _ _ _ _ _ _ _).symm) hD0
  have ht : f_X3_pump N x w r p0 p1 = f_X3_pump N x w r p0 p1 := rfl
  simp only [ok_X3_pump] at hok
  refine lv_iload_n hx hb dX3_pump_0 rfl (lv_at hl 1 rfl) ?_
  refine lv_iconst (v := 1) hx hb dX3_pump_1 (by decide) ?_
  refine lv_sipush (v := 500) hx hb dX3_pump_2 (by decide) ?_
  refine kR_i (runS fx (As := [.int p0, .int (1 : Int32), .int (500 : Int32)]) (rest := []) (c_X3_isWithin l D q H.size p0 (1 : Int32) (500 : Int32)) lk_X3_39 ⟨Nat.le_of_ble_eq_true rfl, Nat.le_of_ble_eq_true rfl⟩ ⟨rfl, rfl⟩ hP (hD _ _ _ _ _) [] rfl rfl rfl hl.1 rfl (Nat.le_of_ble_eq_true rfl) dX3_pump_5 ⟨Nat.zero_le _, Nat.zero_le _⟩) hP hS (fun r1 _ H locs hr2 hP hS => ?_)
  obtain ⟨rfl, hz3⟩ := hr2
  have K22 : ∀ (H : Heap) (locs : List Loc) (ls : Array Slot), f_X3_pump N x w r p0 p1 = f_X3_pump_b22 x w → va_P D vwCl (cKick h aw av kr kt q x w v r t) H → va_S A s.heap H locs → lv_has ls 4 [(0, .ref h)] → W p l e RM_X3_pump s m args below meth c H locs 0 0 Q (F0 m 22 ls []) := by
    intro H locs ls ht hP hS hl
    exact hthr 2 110 "minutes or weight is out of range" 22 H locs ls [] (Or.inr (Or.inl rfl)) hl.1 (Nat.le_of_ble_eq_true rfl) (List.mem_of_getElem? (i := 10) rfl) ⟨dX3_pump_22, dX3_pump_25, Or.inl ⟨dX3_pump_26, dX3_pump_28, dX3_pump_31⟩⟩ ⟨congrArg Prod.fst (show f_X3_pump N x w r p0 p1 = (2, 0, x, w) from ht.trans (by simp only [f_X3_pump_b22])), by decide⟩ hP hS
  refine lv_if_eq (tgt := 22) hx hb dX3_pump_8 (by decide) (fun c133 => ?_) (fun c133 => ?_)
  · have hok := hok.1 c133
    exact K22 H locs ls (ht.trans (by simp only [f_X3_pump, if_pos c133])) hP hS (lv_sub hl [0] rfl)
  · have hok := hok.2 c133
    refine lv_iload_n hx hb dX3_pump_11 rfl (lv_at hl 2 rfl) ?_
    refine lv_iconst (v := 0) hx hb dX3_pump_12 (by decide) ?_
    refine lv_sipush (v := 300) hx hb dX3_pump_13 (by decide) ?_
    refine kR_i (runS fx (As := [.int p1, .int (0 : Int32), .int (300 : Int32)]) (rest := []) (c_X3_isWithin l D q H.size p1 (0 : Int32) (300 : Int32)) lk_X3_39 ⟨Nat.le_of_ble_eq_true rfl, Nat.le_of_ble_eq_true rfl⟩ ⟨rfl, rfl⟩ hP (hD _ _ _ _ _) [] rfl rfl rfl hl.1 rfl (Nat.le_of_ble_eq_true rfl) dX3_pump_16 ⟨Nat.zero_le _, Nat.zero_le _⟩) hP hS (fun r134 _ H locs hr135 hP hS => ?_)
    obtain ⟨rfl, hz136⟩ := hr135
    refine lv_if_ne (tgt := 32) hx hb dX3_pump_19 (by decide) (fun c137 => ?_) (fun c137 => ?_)
    · have hok := hok.2 c137
      refine lv_aload_n hx hb dX3_pump_32 rfl (lv_at hl 0 rfl) ?_
      refine gf_X3_21 fx hP 0 rfl dX3_pump_33 ?_
      refine gf_X3_69 fx hP 1 rfl (v := W_isClosed w) rfl dX3_pump_36 ?_
      have K60 : ∀ (H : Heap) (locs : List Loc) (ls : Array Slot), f_X3_pump N x w r p0 p1 = f_X3_pump_b60 x w → va_P D vwCl (cKick h aw av kr kt q x w v r t) H → va_S A s.heap H locs → lv_has ls 4 [(0, .ref h)] → W p l e RM_X3_pump s m args below meth c H locs 0 0 Q (F0 m 60 ls []) := by
        intro H locs ls ht hP hS hl
        exact hthr 3 112 "the well is open or has no depth, or the minutes would be too many" 60 H locs ls [] (Or.inr (Or.inr rfl)) hl.1 (Nat.le_of_ble_eq_true rfl) (List.mem_of_getElem? (i := 11) rfl) ⟨dX3_pump_60, dX3_pump_63, Or.inl ⟨dX3_pump_64, dX3_pump_66, dX3_pump_69⟩⟩ ⟨congrArg Prod.fst (show f_X3_pump N x w r p0 p1 = (3, 0, x, w) from ht.trans (by simp only [f_X3_pump_b60])), by decide⟩ hP hS
      refine lv_if_eq (tgt := 60) hx hb dX3_pump_39 (by decide) (fun c200 => ?_) (fun c200 => ?_)
      · have hok := hok.1 c200
        exact K60 H locs ls (ht.trans (by simp only [f_X3_pump, if_neg c133, if_neg c137, if_pos c200])) hP hS (lv_sub hl [0] rfl)
      · have hok := hok.2 c200
        refine lv_aload_n hx hb dX3_pump_42 rfl (lv_at hl 0 rfl) ?_
        refine gf_X3_21 fx hP 0 rfl dX3_pump_43 ?_
        refine gf_X3_55 fx hP 1 rfl (v := W_depth w) rfl dX3_pump_46 ?_
        refine lv_if_eq (tgt := 60) hx hb dX3_pump_49 (by decide) (fun c201 => ?_) (fun c201 => ?_)
        · have hok := hok.1 c201
          exact K60 H locs ls (ht.trans (by simp only [f_X3_pump, if_neg c133, if_neg c137, if_neg c200, if_pos c201])) hP hS (lv_sub hl [0] rfl)
        · have hok := hok.2 c201
          refine lv_aload_n hx hb dX3_pump_52 rfl (lv_at hl 0 rfl) ?_
          refine lv_iload_n hx hb dX3_pump_53 rfl (lv_at hl 1 rfl) ?_
          refine kR_i (runV fx (As := [.int p0]) (rest := []) (c_X3_hasMinutes l D q H.size h aw av kr kt x w v r t p0) lk_X3_87 ⟨Nat.le_of_ble_eq_true rfl, Nat.le_of_ble_eq_true rfl⟩ ⟨rfl, rfl⟩ hP (hD _ _ _ _ _) [0, 1, 2, 3, 4, 5, 6, 7, 8, 9, 10, 11, 12, 13] rfl rfl (ci := 3) rfl rfl rfl hl.1 rfl (Nat.le_of_ble_eq_true rfl) dX3_pump_54 ⟨Nat.zero_le _, Nat.zero_le _⟩) hP hS (fun r202 _ H locs hr203 hP hS => ?_)
          obtain ⟨rfl, hz204⟩ := hr203
          refine lv_if_ne (tgt := 70) hx hb dX3_pump_57 (by decide) (fun c205 => ?_) (fun c205 => ?_)
          · have hok := hok.2 c205
            refine lv_iload_n hx hb dX3_pump_70 rfl (lv_at hl 2 rfl) ?_
            refine lv_aload_n hx hb dX3_pump_71 rfl (lv_at hl 0 rfl) ?_
            refine gf_X3_35 fx hP 0 rfl (v := X_latestPumpedWeight x) rfl dX3_pump_72 ?_
            have K83 : ∀ (x208 : XS) (H : Heap) (locs : List Loc) (ls : Array Slot), ok_X3_pump_b83 N w r p0 p1 x208 → f_X3_pump N x w r p0 p1 = f_X3_pump_b83 N w r p0 p1 x208 → va_P D vwCl (cKick h aw av kr kt q x208 w v r t) H → va_S A s.heap H locs → lv_has ls 4 [(0, .ref h), (1, .int p0), (2, .int p1)] → W p l e RM_X3_pump s m args below meth c H locs 0 0 Q (F0 m 83 ls []) := by
              intro x208 H locs ls hok ht hP hS hl
              simp only [ok_X3_pump_b83] at hok
              refine lv_aload_n hx hb dX3_pump_83 rfl (lv_at hl 0 rfl) ?_
              refine lv_iload_n hx hb dX3_pump_84 rfl (lv_at hl 2 rfl) ?_
              refine pf_X3_35 fx hP (hD _ _ _ _ _) hS 0 rfl dX3_pump_85 (fun H locs hP hS => ?_)
              have hP : va_P D vwCl (cKick h aw av kr kt q (X_set_latestPumpedWeight x208 p1) w v r t) H := hP
              refine lv_iconst (v := 1) hx hb dX3_pump_88 (by decide) ?_
              refine lv_istore_n (lv' := [(3, .int (1 : Int32)), (0, .ref h), (1, .int p0), (2, .int p1)]) hx hb dX3_pump_89 rfl hl (by decide) rfl (fun ls hl => ?_)
              have LP90 : ∀ (n : Nat) (i225 : Int32) (x226 : XS) (w227 : WS) (H : Heap) (locs : List Loc) (ls : Array Slot), ok_X3_pump_L90 r p0 p1 n i225 x226 w227 → f_X3_pump N x w r p0 p1 = f_X3_pump_L90 r p0 p1 n i225 x226 w227 → va_P D vwCl (cKick h aw av kr kt q x226 w227 v r t) H → va_S A s.heap H locs → lv_has ls 4 [(0, .ref h), (1, .int p0), (2, .int p1), (3, .int i225)] → W p l e RM_X3_pump s m args below meth c H locs 0 0 Q (F0 m 90 ls []) := by
                intro n
                induction n with
                | zero =>
                  intro i225 x226 w227 H locs ls hok
                  exact (hok : False).elim
                | succ n ih90 =>
                  intro i225 x226 w227 H locs ls hok ht hP hS hl
                  simp only [ok_X3_pump_L90] at hok
                  refine lv_iload_n hx hb dX3_pump_90 rfl (lv_at hl 3 rfl) ?_
                  refine lv_iload_n hx hb dX3_pump_91 rfl (lv_at hl 1 rfl) ?_
                  refine lv_icmp_gt (tgt := 127) hx hb dX3_pump_92 (by decide) (fun c228 => ?_) (fun c228 => ?_)
                  · have hok := hok.1 c228
                    refine lv_iload_n hx hb dX3_pump_127 rfl (lv_at hl 1 rfl) ?_
                    exact hret p0 (x226, w227) _ _ _ _ dX3_pump_128 (ht.trans (by simp only [f_X3_pump_L90, if_pos c228])) hP hS
                  · have hok := hok.2 c228
                    refine lv_aload_n hx hb dX3_pump_95 rfl (lv_at hl 0 rfl) ?_
                    refine gf_X3_21 fx hP 0 rfl dX3_pump_96 ?_
                    refine lv_iconst (v := 1) hx hb dX3_pump_99 (by decide) ?_
                    refine kW_i (runVN fx (As := [.int (1 : Int32)]) (rest := []) (c_X2_letMinuteGo l D q H.size aw kr w227 r (1 : Int32)) lk_X3_93 ⟨Nat.le_of_ble_eq_true rfl, Nat.le_of_ble_eq_true rfl⟩ ⟨rfl, rfl⟩ hP (hD _ _ _ _ _) [1, 3, 4, 5, 6, 7, 8] rfl rfl (ci := 2) rfl rfl rfl hl.1 rfl (Nat.le_of_ble_eq_true rfl) dX3_pump_100 ⟨Nat.zero_le _, Nat.zero_le _⟩) hP (hD _ _ _ _ _) hS hA [1, 3, 4, 5, 6, 7, 8] rfl (fun _ => rfl) (fun r231 u229 H locs hw230 hP hS => ?_)
                    obtain ⟨hw230, hz232⟩ := hw230
                    have hP : va_P D vwCl (cKick h aw av kr kt q x226 u229 v r t) H := hP
                    try simp only [hw230] at hok
                    refine lv_pop hx hb dX3_pump_103 rfl ?_
                    refine lv_aload_n hx hb dX3_pump_104 rfl (lv_at hl 0 rfl) ?_
                    refine gf_X3_21 fx hP 0 rfl dX3_pump_105 ?_
                    refine gf_X3_69 fx hP 1 rfl (v := W_isClosed u229) rfl dX3_pump_108 ?_
                    refine lv_if_ne (tgt := 116) hx hb dX3_pump_111 (by decide) (fun c233 => ?_) (fun c233 => ?_)
                    · have hok := hok.2 c233
                      refine lv_aload_n hx hb dX3_pump_116 rfl (lv_at hl 0 rfl) ?_
                      refine lv_iload_n hx hb dX3_pump_117 rfl (lv_at hl 2 rfl) ?_
                      refine kW_v (runV fx (As := [.int p1]) (rest := []) (c_X3_pumpOn l D q H.size h aw av kr kt x226 u229 v r t p1) lk_X3_114 ⟨Nat.le_of_ble_eq_true rfl, Nat.le_of_ble_eq_true rfl⟩ ⟨rfl, rfl⟩ hP (hD _ _ _ _ _) [0, 1, 2, 3, 4, 5, 6, 7, 8, 9, 10, 11, 12, 13] rfl rfl (ci := 3) rfl rfl rfl hl.1 rfl (Nat.le_of_ble_eq_true rfl) dX3_pump_118 ⟨Nat.zero_le _, Nat.zero_le _⟩) hP (hD _ _ _ _ _) hS hA [0, 1, 2, 3, 4, 5, 6, 7, 8, 9, 10, 11, 12, 13] rfl (fun _ => rfl) (fun u234 H locs hw235 hP hS => ?_)
                      have hP : va_P D vwCl (cKick h aw av kr kt q u234.1 u234.2 v r t) H := hP
                      try simp only [hw235] at hok
                      refine lv_iinc (v := i225 + (1 : Int32)) (lv' := [(3, .int (i225 + (1 : Int32))), (0, .ref h), (1, .int p0), (2, .int p1)]) hx hb dX3_pump_121 hl (k := 3) rfl rfl (by decide) rfl (fun ls hl => ?_)
                      refine lv_goto (tgt := 90) hx hb dX3_pump_124 (by decide) ?_
                      exact ih90 (i225 + (1 : Int32)) u234.1 u234.2 H locs ls hok (ht.trans (by first | (simp only [f_X3_pump_L90, if_neg c228, if_neg c233, hw230, hw235]; done) | (simp only [f_X3_pump_L90, hw230, hw235]; simp only [if_neg c228, if_neg c233]))) hP hS (lv_sub hl [1, 2, 3, 0] rfl)
                    · have hok := hok.1 c233
                      refine lv_iload_n hx hb dX3_pump_114 rfl (lv_at hl 3 rfl) ?_
                      exact hret i225 (x226, u229) _ _ _ _ dX3_pump_115 (ht.trans (by first | (simp only [f_X3_pump_L90, if_neg c228, if_pos c233, hw230]; done) | (simp only [f_X3_pump_L90, hw230]; simp only [if_neg c228, if_pos c233]))) hP hS
              exact LP90 N (1 : Int32) (X_set_latestPumpedWeight x208 p1) w H locs ls hok (ht.trans (by simp only [f_X3_pump_b83])) hP hS (lv_sub hl [1, 2, 3, 0] rfl)
            refine lv_icmp_eq (tgt := 83) hx hb dX3_pump_75 (by decide) (fun c207 => ?_) (fun c207 => ?_)
            · have hok := hok.1 c207
              exact K83 x H locs ls hok (ht.trans (by simp only [f_X3_pump, if_neg c133, if_neg c137, if_neg c200, if_neg c201, if_neg c205, if_pos c207])) hP hS (lv_sub hl [0, 1, 2] rfl)
            · have hok := hok.2 c207
              refine lv_aload_n hx hb dX3_pump_78 rfl (lv_at hl 0 rfl) ?_
              refine lv_iconst (v := 0) hx hb dX3_pump_79 (by decide) ?_
              refine pf_X3_78 fx hP (hD _ _ _ _ _) hS 0 rfl dX3_pump_80 (fun H locs hP hS => ?_)
              have hP : va_P D vwCl (cKick h aw av kr kt q (X_set_pumped x (0 : Int32)) w v r t) H := hP
              exact K83 (X_set_pumped x (0 : Int32)) H locs ls hok (ht.trans (by simp only [f_X3_pump, if_neg c133, if_neg c137, if_neg c200, if_neg c201, if_neg c205, if_neg c207])) hP hS (lv_sub hl [0, 1, 2] rfl)
          · have hok := hok.1 c205
            exact K60 H locs ls (ht.trans (by simp only [f_X3_pump, if_neg c133, if_neg c137, if_neg c200, if_neg c201, if_pos c205])) hP hS (lv_sub hl [0] rfl)
    · have hok := hok.1 c137
      exact K22 H locs ls (ht.trans (by simp only [f_X3_pump, if_neg c133, if_pos c137])) hP hS (lv_sub hl [0] rfl)

/-! X3_casing -/
def f_X3_casing_b51 (x : XS) (w : WS) (t : TS) : Nat × Int32 × XS × WS × TS :=
  (3, 0, x, w, t)

def f_X3_casing (x : XS) (w : WS) (t : TS) (p0 : Int32) : Nat × Int32 × XS × WS × TS :=
  if (f_X3_isWithin p0 (0 : Int32) (1000 : Int32)) = 0 then (2, 0, x, w, t) else (if ((W_depth w) - (W_shoe w)) ≤ 0 then (f_X3_casing_b51 x w t) else (if (f_X2_hasInflow w) = 0 then (0, ((1000 : Int32) * p0) / ((W_depth w) - (W_shoe w)), X_set_cement x (((1000 : Int32) * p0) / ((W_depth w) - (W_shoe w))), W_set_shoe w (W_depth w), T_set_latestOfCement t (-1 : Int32)) else (f_X3_casing_b51 x w t)))

abbrev RM_X3_casing : Room := { frames := 6, cells := 1, slots := 6, locals := 90 }
set_option maxRecDepth 100000 in
set_option maxHeartbeats 4000000 in
theorem c_X3_casing (l : Launch) (D : va_G) (q : Nat → ClassId) (sz : Nat) (h : Nat) (aw : Nat) (av : Nat) (kr : Nat → Nat) (kt : Nat → Nat) (x : XS) (w : WS) (v : WS) (r : RS) (t : TS) (p0 : Int32) (hstk : l.stackTraces = false) : vx_Met l yX3_casing (Cond.code yX3_casing cX3_casing 3 (some .int) :: ALL) RM_X3_casing (PX D q [.ref h, .int p0] (cKick h aw av kr kt q x w v r t) sz) (va_Qi (fun (rv : Int32) (u : XS × WS × TS) => f_X3_casing x w t p0 = (0, rv, u)) (fun u t9 => va_P D vwCl (cKick h aw av kr kt q u.1 u.2.1 v r u.2.2) t9.heap) (va_A (cKick h aw av kr kt q x w v r t) sz)) (XCk D (cKick h aw av kr kt q x w v r t) sz (fun k => (f_X3_casing x w t p0).1 = k ∧ (k = 2 ∨ k = 3))) 1 6 (va_A (cKick h aw av kr kt q x w v r t) sz) := by
  refine en_xi hstk rfl (by decide +kernel) (Nat.le_of_ble_eq_true rfl) ⟨Nat.le_of_ble_eq_true rfl, Nat.le_of_ble_eq_true rfl, rfl, rfl⟩ ?_
  intro p e s m args below meth c Q A H locs ls fx hD0 hA hP hS hl hret hthr
  have hx := fx.1
  have hb := fx.2.1
  have hl : lv_has ls 3 [(0, .ref h), (1, .int p0)] := hl
  have hD : ∀ (x9 : XS) (w9 : WS) (v9 : WS) (r9 : RS) (t9 : TS), va_D _ (cKick h aw av kr kt q x9 w9 v9 r9 t9) := fun _ _ _ _ _ => D_same ((fst_Kick _ _ _ _ _ _ _ _ _ _ _).trans (fst_Kick _ _ _ _ _ _ _ _ _ _ _).symm) hD0
  have ht : f_X3_casing x w t p0 = f_X3_casing x w t p0 := rfl
  refine lv_iload_n hx hb dX3_casing_0 rfl (lv_at hl 1 rfl) ?_
  refine lv_iconst (v := 0) hx hb dX3_casing_1 (by decide) ?_
  refine lv_sipush (v := 1000) hx hb dX3_casing_2 (by decide) ?_
  refine kR_i (runS fx (As := [.int p0, .int (0 : Int32), .int (1000 : Int32)]) (rest := []) (c_X3_isWithin l D q H.size p0 (0 : Int32) (1000 : Int32)) lk_X3_39 ⟨Nat.le_of_ble_eq_true rfl, Nat.le_of_ble_eq_true rfl⟩ ⟨rfl, rfl⟩ hP (hD _ _ _ _ _) [] rfl rfl rfl hl.1 rfl (Nat.le_of_ble_eq_true rfl) dX3_casing_5 ⟨Nat.zero_le _, Nat.zero_le _⟩) hP hS (fun r1 _ H locs hr2 hP hS => ?_)
  obtain ⟨rfl, hz3⟩ := hr2
  refine lv_if_ne (tgt := 21) hx hb dX3_casing_8 (by decide) (fun c4 => ?_) (fun c4 => ?_)
  · refine lv_aload_n hx hb dX3_casing_21 rfl (lv_at hl 0 rfl) ?_
    refine gf_X3_21 fx hP 0 rfl dX3_casing_22 ?_
    refine gf_X3_55 fx hP 1 rfl (v := W_depth w) rfl dX3_casing_25 ?_
    refine lv_aload_n hx hb dX3_casing_28 rfl (lv_at hl 0 rfl) ?_
    refine gf_X3_21 fx hP 0 rfl dX3_casing_29 ?_
    refine gf_X3_123 fx hP 1 rfl (v := W_shoe w) rfl dX3_casing_32 ?_
    refine lv_isub hx hb dX3_casing_35 ?_
    refine lv_istore_n (lv' := [(2, .int ((W_depth w) - (W_shoe w))), (0, .ref h), (1, .int p0)]) hx hb dX3_casing_36 rfl hl (by decide) rfl (fun ls hl => ?_)
    refine lv_iload_n hx hb dX3_casing_37 rfl (lv_at hl 0 rfl) ?_
    have K51 : ∀ (H : Heap) (locs : List Loc) (ls : Array Slot), f_X3_casing x w t p0 = f_X3_casing_b51 x w t → va_P D vwCl (cKick h aw av kr kt q x w v r t) H → va_S A s.heap H locs → lv_has ls 3 [(0, .ref h)] → W p l e RM_X3_casing s m args below meth c H locs 0 0 Q (F0 m 51 ls []) := by
      intro H locs ls ht hP hS hl
      exact hthr 3 130 "the depth is the shoe, or there is gas or liquid" 51 H locs ls [] (Or.inr (Or.inr rfl)) hl.1 (Nat.le_of_ble_eq_true rfl) (List.mem_of_getElem? (i := 13) rfl) ⟨dX3_casing_51, dX3_casing_54, Or.inl ⟨dX3_casing_55, dX3_casing_57, dX3_casing_60⟩⟩ ⟨congrArg Prod.fst (show f_X3_casing x w t p0 = (3, 0, x, w, t) from ht.trans (by simp only [f_X3_casing_b51])), by decide⟩ hP hS
    refine lv_if_le (tgt := 51) hx hb dX3_casing_38 (by decide) (fun c10 => ?_) (fun c10 => ?_)
    · exact K51 H locs ls (ht.trans (by simp only [f_X3_casing, if_neg c4, if_pos c10])) hP hS (lv_sub hl [1] rfl)
    · refine lv_aload_n hx hb dX3_casing_41 rfl (lv_at hl 1 rfl) ?_
      refine gf_X3_21 fx hP 0 rfl dX3_casing_42 ?_
      refine kR_i (runVN fx (As := []) (rest := []) (c_X2_hasInflow l D q H.size aw kr w r) lk_X3_126 ⟨Nat.le_of_ble_eq_true rfl, Nat.le_of_ble_eq_true rfl⟩ ⟨rfl, rfl⟩ hP (hD _ _ _ _ _) [1, 3, 4, 5, 6, 7, 8] rfl rfl (ci := 2) rfl rfl rfl hl.1 rfl (Nat.le_of_ble_eq_true rfl) dX3_casing_45 ⟨Nat.zero_le _, Nat.zero_le _⟩) hP hS (fun r11 _ H locs hr12 hP hS => ?_)
      obtain ⟨rfl, hz13⟩ := hr12
      refine lv_if_eq (tgt := 61) hx hb dX3_casing_48 (by decide) (fun c14 => ?_) (fun c14 => ?_)
      · refine lv_aload_n hx hb dX3_casing_61 rfl (lv_at hl 1 rfl) ?_
        refine lv_sipush (v := 1000) hx hb dX3_casing_62 (by decide) ?_
        refine lv_iload_n hx hb dX3_casing_65 rfl (lv_at hl 2 rfl) ?_
        refine lv_imul hx hb dX3_casing_66 ?_
        refine lv_iload_n hx hb dX3_casing_67 rfl (lv_at hl 0 rfl) ?_
        refine lv_idiv hx hb dX3_casing_68 (fun h9 => c10 (by rw [h9]; decide)) ?_
        refine pf_X3_132 fx hP (hD _ _ _ _ _) hS 0 rfl dX3_casing_69 (fun H locs hP hS => ?_)
        have hP : va_P D vwCl (cKick h aw av kr kt q (X_set_cement x (((1000 : Int32) * p0) / ((W_depth w) - (W_shoe w)))) w v r t) H := hP
        refine lv_aload_n hx hb dX3_casing_72 rfl (lv_at hl 1 rfl) ?_
        refine gf_X3_21 fx hP 0 rfl dX3_casing_73 ?_
        refine lv_aload_n hx hb dX3_casing_76 rfl (lv_at hl 1 rfl) ?_
        refine gf_X3_21 fx hP 0 rfl dX3_casing_77 ?_
        refine gf_X3_55 fx hP 1 rfl (v := W_depth w) rfl dX3_casing_80 ?_
        refine pf_X3_123 fx hP (hD _ _ _ _ _) hS 1 rfl dX3_casing_83 (fun H locs hP hS => ?_)
        have hP : va_P D vwCl (cKick h aw av kr kt q (X_set_cement x (((1000 : Int32) * p0) / ((W_depth w) - (W_shoe w)))) (W_set_shoe w (W_depth w)) v r t) H := hP
        refine lv_aload_n hx hb dX3_casing_86 rfl (lv_at hl 1 rfl) ?_
        refine gf_X3_31 fx hP 0 rfl dX3_casing_87 ?_
        refine lv_iconst (v := -1) hx hb dX3_casing_90 (by decide) ?_
        refine pf_X3_135 fx hP (hD _ _ _ _ _) hS 9 rfl dX3_casing_91 (fun H locs hP hS => ?_)
        have hP : va_P D vwCl (cKick h aw av kr kt q (X_set_cement x (((1000 : Int32) * p0) / ((W_depth w) - (W_shoe w)))) (W_set_shoe w (W_depth w)) v r (T_set_latestOfCement t (-1 : Int32))) H := hP
        refine lv_aload_n hx hb dX3_casing_94 rfl (lv_at hl 1 rfl) ?_
        refine gf_X3_132 fx hP 0 rfl (v := ((1000 : Int32) * p0) / ((W_depth w) - (W_shoe w))) (X_cement_set_cement _ _) dX3_casing_95 ?_
        exact hret (((1000 : Int32) * p0) / ((W_depth w) - (W_shoe w))) (X_set_cement x (((1000 : Int32) * p0) / ((W_depth w) - (W_shoe w))), W_set_shoe w (W_depth w), T_set_latestOfCement t (-1 : Int32)) _ _ _ _ dX3_casing_98 (ht.trans (by simp only [f_X3_casing, if_neg c4, if_neg c10, if_pos c14])) hP hS
      · exact K51 H locs ls (ht.trans (by simp only [f_X3_casing, if_neg c4, if_neg c10, if_neg c14])) hP hS (lv_sub hl [1] rfl)
  · exact hthr 2 121 "barrels is out of range" 11 H locs ls [] (Or.inr (Or.inl rfl)) hl.1 (Nat.le_of_ble_eq_true rfl) (List.mem_of_getElem? (i := 12) rfl) ⟨dX3_casing_11, dX3_casing_14, Or.inl ⟨dX3_casing_15, dX3_casing_17, dX3_casing_20⟩⟩ ⟨congrArg Prod.fst (show f_X3_casing x w t p0 = (2, 0, x, w, t) from ht.trans (by simp only [f_X3_casing, if_pos c4])), by decide⟩ hP hS

/-! X3_strength -/
def f_X3_strength (w : WS) (p0 : Int32) : Nat × Int32 × WS :=
  if (f_X3_isWithin p0 (0 : Int32) (100000 : Int32)) = 0 then (2, 0, w) else (0, W_valveStrength w, W_set_valveStrength w p0)

abbrev RM_X3_strength : Room := { frames := 6, cells := 1, slots := 6, locals := 90 }
set_option maxRecDepth 100000 in
set_option maxHeartbeats 4000000 in
theorem c_X3_strength (l : Launch) (D : va_G) (q : Nat → ClassId) (sz : Nat) (h : Nat) (aw : Nat) (av : Nat) (kr : Nat → Nat) (kt : Nat → Nat) (x : XS) (w : WS) (v : WS) (r : RS) (t : TS) (p0 : Int32) (hstk : l.stackTraces = false) : vx_Met l yX3_strength (Cond.code yX3_strength cX3_strength 3 (some .int) :: ALL) RM_X3_strength (PX D q [.ref h, .int p0] (cKick h aw av kr kt q x w v r t) sz) (va_Qi (fun (rv : Int32) (u : WS) => f_X3_strength w p0 = (0, rv, u)) (fun u t9 => va_P D vwCl (cKick h aw av kr kt q x u v r t) t9.heap) (va_A (cKick h aw av kr kt q x w v r t) sz)) (XCk D (cKick h aw av kr kt q x w v r t) sz (fun k => (f_X3_strength w p0).1 = k ∧ (k = 2))) 1 6 (va_A (cKick h aw av kr kt q x w v r t) sz) := by
  refine en_xi hstk rfl (by decide +kernel) (Nat.le_of_ble_eq_true rfl) ⟨Nat.le_of_ble_eq_true rfl, Nat.le_of_ble_eq_true rfl, rfl, rfl⟩ ?_
  intro p e s m args below meth c Q A H locs ls fx hD0 hA hP hS hl hret hthr
  have hx := fx.1
  have hb := fx.2.1
  have hl : lv_has ls 3 [(0, .ref h), (1, .int p0)] := hl
  have hD : ∀ (x9 : XS) (w9 : WS) (v9 : WS) (r9 : RS) (t9 : TS), va_D _ (cKick h aw av kr kt q x9 w9 v9 r9 t9) := fun _ _ _ _ _ => D_same ((fst_Kick _ _ _ _ _ _ _ _ _ _ _).trans (fst_Kick _ _ _ _ _ _ _ _ _ _ _).symm) hD0
  have ht : f_X3_strength w p0 = f_X3_strength w p0 := rfl
  refine lv_iload_n hx hb dX3_strength_0 rfl (lv_at hl 1 rfl) ?_
  refine lv_iconst (v := 0) hx hb dX3_strength_1 (by decide) ?_
  refine lv_ldc hx hb fx.2.2.2.1 (fx.2.2.2.2.1 _ mm_107) dX3_strength_2 ?_
  refine kR_i (runS fx (As := [.int p0, .int (0 : Int32), .int (100000 : Int32)]) (rest := []) (c_X3_isWithin l D q H.size p0 (0 : Int32) (100000 : Int32)) lk_X3_39 ⟨Nat.le_of_ble_eq_true rfl, Nat.le_of_ble_eq_true rfl⟩ ⟨rfl, rfl⟩ hP (hD _ _ _ _ _) [] rfl rfl rfl hl.1 rfl (Nat.le_of_ble_eq_true rfl) dX3_strength_4 ⟨Nat.zero_le _, Nat.zero_le _⟩) hP hS (fun r1 _ H locs hr2 hP hS => ?_)
  obtain ⟨rfl, hz3⟩ := hr2
  refine lv_if_ne (tgt := 20) hx hb dX3_strength_7 (by decide) (fun c4 => ?_) (fun c4 => ?_)
  · refine lv_aload_n hx hb dX3_strength_20 rfl (lv_at hl 0 rfl) ?_
    refine gf_X3_21 fx hP 0 rfl dX3_strength_21 ?_
    refine gf_X3_141 fx hP 1 rfl (v := W_valveStrength w) rfl dX3_strength_24 ?_
    refine lv_istore_n (lv' := [(2, .int (W_valveStrength w)), (0, .ref h), (1, .int p0)]) hx hb dX3_strength_27 rfl hl (by decide) rfl (fun ls hl => ?_)
    refine lv_aload_n hx hb dX3_strength_28 rfl (lv_at hl 1 rfl) ?_
    refine gf_X3_21 fx hP 0 rfl dX3_strength_29 ?_
    refine lv_iload_n hx hb dX3_strength_32 rfl (lv_at hl 2 rfl) ?_
    refine pf_X3_141 fx hP (hD _ _ _ _ _) hS 1 rfl dX3_strength_33 (fun H locs hP hS => ?_)
    have hP : va_P D vwCl (cKick h aw av kr kt q x (W_set_valveStrength w p0) v r t) H := hP
    refine lv_iload_n hx hb dX3_strength_36 rfl (lv_at hl 0 rfl) ?_
    exact hret (W_valveStrength w) (W_set_valveStrength w p0) _ _ _ _ dX3_strength_37 (ht.trans (by simp only [f_X3_strength, if_neg c4])) hP hS
  · exact hthr 2 139 "strength is out of range" 10 H locs ls [] (Or.inr (Or.inl rfl)) hl.1 (Nat.le_of_ble_eq_true rfl) (List.mem_of_getElem? (i := 14) rfl) ⟨dX3_strength_10, dX3_strength_13, Or.inl ⟨dX3_strength_14, dX3_strength_16, dX3_strength_19⟩⟩ ⟨congrArg Prod.fst (show f_X3_strength w p0 = (2, 0, w) from ht.trans (by simp only [f_X3_strength, if_pos c4])), by decide⟩ hP hS
end
section
/-! X3_test -/
def f_X3_test_b21 (w : WS) (t : TS) : Nat × Int32 × WS × TS :=
  (2, 0, w, t)

def f_X3_test_b68 (w : WS) (t : TS) : Nat × Int32 × WS × TS :=
  (3, 0, w, t)

def f_X3_test_b78 (x : XS) (w : WS) (t : TS) (p0 : Int32) (p1 : Int32) : Nat × Int32 × WS × TS :=
  if p0 = 0 then (0, if (if p0 = 0 then W_valveStrength w else X_cement x) < p1 then (0 : Int32) else (1 : Int32), W_set_hasBrokenSinceTest w (0 : Int32), (f_X1_keep t p0 p1 (if (if p0 = 0 then W_valveStrength w else X_cement x) < p1 then (0 : Int32) else (1 : Int32)) (W_minutes w))) else (0, if (if p0 = 0 then W_valveStrength w else X_cement x) < p1 then (0 : Int32) else (1 : Int32), w, (f_X1_keep t p0 p1 (if (if p0 = 0 then W_valveStrength w else X_cement x) < p1 then (0 : Int32) else (1 : Int32)) (W_minutes w)))

def f_X3_test (x : XS) (w : WS) (t : TS) (p0 : Int32) (p1 : Int32) : Nat × Int32 × WS × TS :=
  if (f_X3_isWithin p0 (0 : Int32) (1 : Int32)) = 0 then (f_X3_test_b21 w t) else (if (f_X3_isWithin p1 (1000 : Int32) (100000 : Int32)) = 0 then (f_X3_test_b21 w t) else (if (W_isClosed w) = 0 then (if (60 : Int32) ≤ (T_count t) then (f_X3_test_b68 w t) else (if p0 = (1 : Int32) then (if (W_shoe w) = 0 then (f_X3_test_b68 w t) else (f_X3_test_b78 x w t p0 p1)) else (f_X3_test_b78 x w t p0 p1))) else (f_X3_test_b68 w t)))

abbrev RM_X3_test : Room := { frames := 6, cells := 1, slots := 6, locals := 90 }
set_option maxRecDepth 100000 in
set_option maxHeartbeats 4000000 in
theorem c_X3_test (l : Launch) (D : va_G) (q : Nat → ClassId) (sz : Nat) (h : Nat) (aw : Nat) (av : Nat) (kr : Nat → Nat) (kt : Nat → Nat) (x : XS) (w : WS) (v : WS) (r : RS) (t : TS) (p0 : Int32) (p1 : Int32) (hstk : l.stackTraces = false) : vx_Met l yX3_test (Cond.code yX3_test cX3_test 4 (some .boolean) :: ALL) RM_X3_test (PX D q [.ref h, .int p0, .int p1] (cKick h aw av kr kt q x w v r t) sz) (va_Qi (fun (rv : Int32) (u : WS × TS) => (f_X3_test x w t p0 p1 = (0, rv, u)) ∧ bz rv) (fun u t9 => va_P D vwCl (cKick h aw av kr kt q x u.1 v r u.2) t9.heap) (va_A (cKick h aw av kr kt q x w v r t) sz)) (XCk D (cKick h aw av kr kt q x w v r t) sz (fun k => (f_X3_test x w t p0 p1).1 = k ∧ (k = 2 ∨ k = 3))) 1 6 (va_A (cKick h aw av kr kt q x w v r t) sz) := by
  refine en_xz (post := fun (rv : Int32) (u : WS × TS) => f_X3_test x w t p0 p1 = (0, rv, u)) hstk rfl (by decide +kernel) (Nat.le_of_ble_eq_true rfl) ⟨Nat.le_of_ble_eq_true rfl, Nat.le_of_ble_eq_true rfl, rfl, rfl⟩ ?_
  intro p e s m args below meth c Q A H locs ls fx hD0 hA hP hS hl hret hthr
  have hx := fx.1
  have hb := fx.2.1
  have hl : lv_has ls 4 [(0, .ref h), (1, .int p0), (2, .int p1)] := hl
  have hD : ∀ (x9 : XS) (w9 : WS) (v9 : WS) (r9 : RS) (t9 : TS), va_D _ (cKick h aw av kr kt q x9 w9 v9 r9 t9) := fun _ _ _ _ _ => D_same ((fst_Kick _ _ _ _ _ _ _ _ _ _ _).trans (fst_Kick _ _ _ _ _ _ _ _ _ _ _).symm) hD0
  have ht : f_X3_test x w t p0 p1 = f_X3_test x w t p0 p1 := rfl
  refine lv_iload_n hx hb dX3_test_0 rfl (lv_at hl 1 rfl) ?_
  refine lv_iconst (v := 0) hx hb dX3_test_1 (by decide) ?_
  refine lv_iconst (v := 1) hx hb dX3_test_2 (by decide) ?_
  refine kR_i (runS fx (As := [.int p0, .int (0 : Int32), .int (1 : Int32)]) (rest := []) (c_X3_isWithin l D q H.size p0 (0 : Int32) (1 : Int32)) lk_X3_39 ⟨Nat.le_of_ble_eq_true rfl, Nat.le_of_ble_eq_true rfl⟩ ⟨rfl, rfl⟩ hP (hD _ _ _ _ _) [] rfl rfl rfl hl.1 rfl (Nat.le_of_ble_eq_true rfl) dX3_test_3 ⟨Nat.zero_le _, Nat.zero_le _⟩) hP hS (fun r1 _ H locs hr2 hP hS => ?_)
  obtain ⟨rfl, hz3⟩ := hr2
  have K21 : ∀ (H : Heap) (locs : List Loc) (ls : Array Slot), f_X3_test x w t p0 p1 = f_X3_test_b21 w t → va_P D vwCl (cKick h aw av kr kt q x w v r t) H → va_S A s.heap H locs → lv_has ls 4 [(0, .ref h)] → W p l e RM_X3_test s m args below meth c H locs 0 0 Q (F0 m 21 ls []) := by
    intro H locs ls ht hP hS hl
    exact hthr 2 144 "what or pressure is out of range" 21 H locs ls [] (Or.inr (Or.inl rfl)) hl.1 (Nat.le_of_ble_eq_true rfl) (List.mem_of_getElem? (i := 15) rfl) ⟨dX3_test_21, dX3_test_24, Or.inl ⟨dX3_test_25, dX3_test_27, dX3_test_30⟩⟩ ⟨congrArg Prod.fst (show f_X3_test x w t p0 p1 = (2, 0, w, t) from ht.trans (by simp only [f_X3_test_b21])), by decide⟩ hP hS
  refine lv_if_eq (tgt := 21) hx hb dX3_test_6 (by decide) (fun c49 => ?_) (fun c49 => ?_)
  · exact K21 H locs ls (ht.trans (by simp only [f_X3_test, if_pos c49])) hP hS (lv_sub hl [0] rfl)
  · refine lv_iload_n hx hb dX3_test_9 rfl (lv_at hl 2 rfl) ?_
    refine lv_sipush (v := 1000) hx hb dX3_test_10 (by decide) ?_
    refine lv_ldc hx hb fx.2.2.2.1 (fx.2.2.2.2.1 _ mm_107) dX3_test_13 ?_
    refine kR_i (runS fx (As := [.int p1, .int (1000 : Int32), .int (100000 : Int32)]) (rest := []) (c_X3_isWithin l D q H.size p1 (1000 : Int32) (100000 : Int32)) lk_X3_39 ⟨Nat.le_of_ble_eq_true rfl, Nat.le_of_ble_eq_true rfl⟩ ⟨rfl, rfl⟩ hP (hD _ _ _ _ _) [] rfl rfl rfl hl.1 rfl (Nat.le_of_ble_eq_true rfl) dX3_test_15 ⟨Nat.zero_le _, Nat.zero_le _⟩) hP hS (fun r50 _ H locs hr51 hP hS => ?_)
    obtain ⟨rfl, hz52⟩ := hr51
    refine lv_if_ne (tgt := 31) hx hb dX3_test_18 (by decide) (fun c53 => ?_) (fun c53 => ?_)
    · refine lv_aload_n hx hb dX3_test_31 rfl (lv_at hl 0 rfl) ?_
      refine gf_X3_21 fx hP 0 rfl dX3_test_32 ?_
      refine gf_X3_69 fx hP 1 rfl (v := W_isClosed w) rfl dX3_test_35 ?_
      have K68 : ∀ (H : Heap) (locs : List Loc) (ls : Array Slot), f_X3_test x w t p0 p1 = f_X3_test_b68 w t → va_P D vwCl (cKick h aw av kr kt q x w v r t) H → va_S A s.heap H locs → lv_has ls 4 [(0, .ref h)] → W p l e RM_X3_test s m args below meth c H locs 0 0 Q (F0 m 68 ls []) := by
        intro H locs ls ht hP hS hl
        exact hthr 3 149 "the well is closed, there were 60 tests, or there is no casing" 68 H locs ls [] (Or.inr (Or.inr rfl)) hl.1 (Nat.le_of_ble_eq_true rfl) (List.mem_of_getElem? (i := 16) rfl) ⟨dX3_test_68, dX3_test_71, Or.inl ⟨dX3_test_72, dX3_test_74, dX3_test_77⟩⟩ ⟨congrArg Prod.fst (show f_X3_test x w t p0 p1 = (3, 0, w, t) from ht.trans (by simp only [f_X3_test_b68])), by decide⟩ hP hS
      refine lv_if_ne (tgt := 68) hx hb dX3_test_38 (by decide) (fun c74 => ?_) (fun c74 => ?_)
      · exact K68 H locs ls (ht.trans (by simp only [f_X3_test, if_neg c49, if_neg c53, if_neg c74])) hP hS (lv_sub hl [0] rfl)
      · refine lv_aload_n hx hb dX3_test_41 rfl (lv_at hl 0 rfl) ?_
        refine gf_X3_31 fx hP 0 rfl dX3_test_42 ?_
        refine gf_X3_146 fx hP 9 rfl (v := T_count t) rfl dX3_test_45 ?_
        refine lv_bipush (v := 60) hx hb dX3_test_48 (by decide) ?_
        refine lv_icmp_ge (tgt := 68) hx hb dX3_test_50 (by decide) (fun c75 => ?_) (fun c75 => ?_)
        · exact K68 H locs ls (ht.trans (by simp only [f_X3_test, if_neg c49, if_neg c53, if_pos c74, if_pos c75])) hP hS (lv_sub hl [0] rfl)
        · refine lv_iload_n hx hb dX3_test_53 rfl (lv_at hl 1 rfl) ?_
          refine lv_iconst (v := 1) hx hb dX3_test_54 (by decide) ?_
          have K78 : ∀ (H : Heap) (locs : List Loc) (ls : Array Slot), f_X3_test x w t p0 p1 = f_X3_test_b78 x w t p0 p1 → va_P D vwCl (cKick h aw av kr kt q x w v r t) H → va_S A s.heap H locs → lv_has ls 4 [(0, .ref h), (1, .int p0), (2, .int p1)] → W p l e RM_X3_test s m args below meth c H locs 0 0 Q (F0 m 78 ls []) := by
            intro H locs ls ht hP hS hl
            refine lv_iload_n hx hb dX3_test_78 rfl (lv_at hl 2 rfl) ?_
            refine lv_iload_n hx hb dX3_test_79 rfl (lv_at hl 1 rfl) ?_
            suffices K : ∀ (v81 : Int32), ∀ (H : Heap) (locs : List Loc) (ls : Array Slot), v81 = (if p0 = 0 then W_valveStrength w else X_cement x) → va_P D vwCl (cKick h aw av kr kt q x w v r t) H → va_S A s.heap H locs → lv_has ls 4 [(0, .ref h), (1, .int p0), (2, .int p1)] → W p l e RM_X3_test s m args below meth c H locs 0 0 Q (F0 m 97 ls [.int v81, .int p1]) by
              refine lv_if_ne (tgt := 93) hx hb dX3_test_80 (by decide) (fun c80 => ?_) (fun c80 => ?_)
              · refine lv_aload_n hx hb dX3_test_93 rfl (lv_at hl 0 rfl) ?_
                refine gf_X3_132 fx hP 0 rfl (v := X_cement x) rfl dX3_test_94 ?_
                exact K (X_cement x) H locs ls (by simp only [if_neg c80]) hP hS (lv_sub hl [0, 1, 2] rfl)
              · refine lv_aload_n hx hb dX3_test_83 rfl (lv_at hl 0 rfl) ?_
                refine gf_X3_21 fx hP 0 rfl dX3_test_84 ?_
                refine gf_X3_141 fx hP 1 rfl (v := W_valveStrength w) rfl dX3_test_87 ?_
                refine lv_goto (tgt := 97) hx hb dX3_test_90 (by decide) ?_
                exact K (W_valveStrength w) H locs ls (by simp only [if_pos c80]) hP hS (lv_sub hl [0, 1, 2] rfl)
            intro v81 H locs ls hvv81 hP hS hl
            subst hvv81
            suffices K : ∀ (v83 : Int32), ∀ (H : Heap) (locs : List Loc) (ls : Array Slot), v83 = (if (if p0 = 0 then W_valveStrength w else X_cement x) < p1 then (0 : Int32) else (1 : Int32)) → va_P D vwCl (cKick h aw av kr kt q x w v r t) H → va_S A s.heap H locs → lv_has ls 4 [(0, .ref h), (1, .int p0), (2, .int p1)] → W p l e RM_X3_test s m args below meth c H locs 0 0 Q (F0 m 105 ls [.int v83]) by
              refine lv_icmp_gt (tgt := 104) hx hb dX3_test_97 (by decide) (fun c82 => ?_) (fun c82 => ?_)
              · refine lv_iconst (v := 0) hx hb dX3_test_104 (by decide) ?_
                exact K (0 : Int32) H locs ls (by simp only [if_pos c82]) hP hS (lv_sub hl [0, 1, 2] rfl)
              · refine lv_iconst (v := 1) hx hb dX3_test_100 (by decide) ?_
                refine lv_goto (tgt := 105) hx hb dX3_test_101 (by decide) ?_
                exact K (1 : Int32) H locs ls (by simp only [if_neg c82]) hP hS (lv_sub hl [0, 1, 2] rfl)
            intro v83 H locs ls hvv83 hP hS hl
            subst hvv83
            refine lv_istore_n (lv' := [(3, .int (if (if p0 = 0 then W_valveStrength w else X_cement x) < p1 then (0 : Int32) else (1 : Int32))), (0, .ref h), (1, .int p0), (2, .int p1)]) hx hb dX3_test_105 rfl hl (by decide) rfl (fun ls hl => ?_)
            refine lv_aload_n hx hb dX3_test_106 rfl (lv_at hl 1 rfl) ?_
            refine gf_X3_31 fx hP 0 rfl dX3_test_107 ?_
            refine lv_iload_n hx hb dX3_test_110 rfl (lv_at hl 2 rfl) ?_
            refine lv_iload_n hx hb dX3_test_111 rfl (lv_at hl 3 rfl) ?_
            refine lv_iload_n hx hb dX3_test_112 rfl (lv_at hl 0 rfl) ?_
            refine lv_aload_n hx hb dX3_test_113 rfl (lv_at hl 1 rfl) ?_
            refine gf_X3_21 fx hP 0 rfl dX3_test_114 ?_
            refine gf_X3_151 fx hP 1 rfl (v := W_minutes w) rfl dX3_test_117 ?_
            refine kW_v (runVN fx (As := [.int p0, .int p1, .int (if (if p0 = 0 then W_valveStrength w else X_cement x) < p1 then (0 : Int32) else (1 : Int32)), .int (W_minutes w)]) (rest := []) (c_X1_keep l D q H.size kt t p0 p1 (if (if p0 = 0 then W_valveStrength w else X_cement x) < p1 then (0 : Int32) else (1 : Int32)) (W_minutes w)) lk_X3_154 ⟨Nat.le_of_ble_eq_true rfl, Nat.le_of_ble_eq_true rfl⟩ ⟨rfl, rfl⟩ hP (hD _ _ _ _ _) [9, 10, 11, 12, 13] rfl rfl (ci := 1) rfl rfl rfl hl.1 rfl (Nat.le_of_ble_eq_true rfl) dX3_test_120 ⟨Nat.zero_le _, Nat.zero_le _⟩) hP (hD _ _ _ _ _) hS hA [9, 10, 11, 12, 13] rfl (fun _ => rfl) (fun u84 H locs hw85 hP hS => ?_)
            have hP : va_P D vwCl (cKick h aw av kr kt q x w v r u84) H := hP
            refine lv_iload_n hx hb dX3_test_123 rfl (lv_at hl 2 rfl) ?_
            refine lv_if_ne (tgt := 135) hx hb dX3_test_124 (by decide) (fun c86 => ?_) (fun c86 => ?_)
            · refine lv_iload_n hx hb dX3_test_135 rfl (lv_at hl 0 rfl) ?_
              exact hret (if (if p0 = 0 then W_valveStrength w else X_cement x) < p1 then (0 : Int32) else (1 : Int32)) (w, u84) _ _ _ _ dX3_test_136 (bz_ite bz0 bz1) (ht.trans (by first | (simp only [f_X3_test_b78, if_neg c86, hw85]; done) | (simp only [f_X3_test_b78, hw85]; simp only [if_neg c86]))) hP hS
            · refine lv_aload_n hx hb dX3_test_127 rfl (lv_at hl 1 rfl) ?_
              refine gf_X3_21 fx hP 0 rfl dX3_test_128 ?_
              refine lv_iconst (v := 0) hx hb dX3_test_131 (by decide) ?_
              refine pf_X3_158 fx hP (hD _ _ _ _ _) hS 1 rfl (hz := bz0) dX3_test_132 (fun H locs hP hS => ?_)
              have hP : va_P D vwCl (cKick h aw av kr kt q x (W_set_hasBrokenSinceTest w (0 : Int32)) v r u84) H := hP
              refine lv_iload_n hx hb dX3_test_135 rfl (lv_at hl 0 rfl) ?_
              exact hret (if (if p0 = 0 then W_valveStrength w else X_cement x) < p1 then (0 : Int32) else (1 : Int32)) (W_set_hasBrokenSinceTest w (0 : Int32), u84) _ _ _ _ dX3_test_136 (bz_ite bz0 bz1) (ht.trans (by first | (simp only [f_X3_test_b78, if_pos c86, hw85]; done) | (simp only [f_X3_test_b78, hw85]; simp only [if_pos c86]))) hP hS
          refine lv_icmp_ne (tgt := 78) hx hb dX3_test_55 (by decide) (fun c78 => ?_) (fun c78 => ?_)
          · exact K78 H locs ls (ht.trans (by simp only [f_X3_test, if_neg c49, if_neg c53, if_pos c74, if_neg c75, if_neg c78])) hP hS (lv_sub hl [0, 1, 2] rfl)
          · refine lv_aload_n hx hb dX3_test_58 rfl (lv_at hl 0 rfl) ?_
            refine gf_X3_21 fx hP 0 rfl dX3_test_59 ?_
            refine gf_X3_123 fx hP 1 rfl (v := W_shoe w) rfl dX3_test_62 ?_
            refine lv_if_ne (tgt := 78) hx hb dX3_test_65 (by decide) (fun c79 => ?_) (fun c79 => ?_)
            · exact K78 H locs ls (ht.trans (by simp only [f_X3_test, if_neg c49, if_neg c53, if_pos c74, if_neg c75, if_pos c78, if_neg c79])) hP hS (lv_sub hl [0, 1, 2] rfl)
            · exact K68 H locs ls (ht.trans (by simp only [f_X3_test, if_neg c49, if_neg c53, if_pos c74, if_neg c75, if_pos c78, if_pos c79])) hP hS (lv_sub hl [0] rfl)
    · exact K21 H locs ls (ht.trans (by simp only [f_X3_test, if_neg c49, if_pos c53])) hP hS (lv_sub hl [0] rfl)

/-! X3_stop -/
def f_X3_stop (x : XS) (p0 : Int32) (p1 : Int32) : Nat × Int32 × XS :=
  if (f_X3_isWithin p0 (0 : Int32) (5 : Int32)) = 0 then (1, 0, x) else (0, f_J6_bitCount_0f7a4 (if p1 = 0 then (X_stops x) &&& (((1 : Int32) <<< (p0 &&& 31)) ^^^ (-1 : Int32)) else (X_stops x) ||| ((1 : Int32) <<< (p0 &&& 31))), X_set_stops x (if p1 = 0 then (X_stops x) &&& (((1 : Int32) <<< (p0 &&& 31)) ^^^ (-1 : Int32)) else (X_stops x) ||| ((1 : Int32) <<< (p0 &&& 31))))

abbrev RM_X3_stop : Room := { frames := 6, cells := 1, slots := 6, locals := 90 }
set_option maxRecDepth 100000 in
set_option maxHeartbeats 4000000 in
theorem c_X3_stop (l : Launch) (D : va_G) (q : Nat → ClassId) (sz : Nat) (h : Nat) (aw : Nat) (av : Nat) (kr : Nat → Nat) (kt : Nat → Nat) (x : XS) (w : WS) (v : WS) (r : RS) (t : TS) (p0 : Int32) (p1 : Int32) (hstk : l.stackTraces = false) : vx_Met l yX3_stop (Cond.code yX3_stop cX3_stop 4 (some .int) :: ALL) RM_X3_stop (PX D q [.ref h, .int p0, .int p1] (cKick h aw av kr kt q x w v r t) sz) (va_Qi (fun (rv : Int32) (u : XS) => f_X3_stop x p0 p1 = (0, rv, u)) (fun u t9 => va_P D vwCl (cKick h aw av kr kt q u w v r t) t9.heap) (va_A (cKick h aw av kr kt q x w v r t) sz)) (XCk D (cKick h aw av kr kt q x w v r t) sz (fun k => (f_X3_stop x p0 p1).1 = k ∧ (k = 1))) 1 6 (va_A (cKick h aw av kr kt q x w v r t) sz) := by
  refine en_xi hstk rfl (by decide +kernel) (Nat.le_of_ble_eq_true rfl) ⟨Nat.le_of_ble_eq_true rfl, Nat.le_of_ble_eq_true rfl, rfl, rfl⟩ ?_
  intro p e s m args below meth c Q A H locs ls fx hD0 hA hP hS hl hret hthr
  have hx := fx.1
  have hb := fx.2.1
  have hl : lv_has ls 4 [(0, .ref h), (1, .int p0), (2, .int p1)] := hl
  have hD : ∀ (x9 : XS) (w9 : WS) (v9 : WS) (r9 : RS) (t9 : TS), va_D _ (cKick h aw av kr kt q x9 w9 v9 r9 t9) := fun _ _ _ _ _ => D_same ((fst_Kick _ _ _ _ _ _ _ _ _ _ _).trans (fst_Kick _ _ _ _ _ _ _ _ _ _ _).symm) hD0
  have ht : f_X3_stop x p0 p1 = f_X3_stop x p0 p1 := rfl
  refine lv_iload_n hx hb dX3_stop_0 rfl (lv_at hl 1 rfl) ?_
  refine lv_iconst (v := 0) hx hb dX3_stop_1 (by decide) ?_
  refine lv_iconst (v := 5) hx hb dX3_stop_2 (by decide) ?_
  refine kR_i (runS fx (As := [.int p0, .int (0 : Int32), .int (5 : Int32)]) (rest := []) (c_X3_isWithin l D q H.size p0 (0 : Int32) (5 : Int32)) lk_X3_39 ⟨Nat.le_of_ble_eq_true rfl, Nat.le_of_ble_eq_true rfl⟩ ⟨rfl, rfl⟩ hP (hD _ _ _ _ _) [] rfl rfl rfl hl.1 rfl (Nat.le_of_ble_eq_true rfl) dX3_stop_3 ⟨Nat.zero_le _, Nat.zero_le _⟩) hP hS (fun r1 _ H locs hr2 hP hS => ?_)
  obtain ⟨rfl, hz3⟩ := hr2
  refine lv_if_ne (tgt := 19) hx hb dX3_stop_6 (by decide) (fun c4 => ?_) (fun c4 => ?_)
  · refine lv_iconst (v := 1) hx hb dX3_stop_19 (by decide) ?_
    refine lv_iload_n hx hb dX3_stop_20 rfl (lv_at hl 1 rfl) ?_
    refine lv_ishl hx hb dX3_stop_21 ?_
    refine lv_istore_n (lv' := [(3, .int ((1 : Int32) <<< (p0 &&& 31))), (0, .ref h), (1, .int p0), (2, .int p1)]) hx hb dX3_stop_22 rfl hl (by decide) rfl (fun ls hl => ?_)
    refine lv_aload_n hx hb dX3_stop_23 rfl (lv_at hl 1 rfl) ?_
    refine lv_iload_n hx hb dX3_stop_24 rfl (lv_at hl 3 rfl) ?_
    suffices K : ∀ (v6 : Int32), ∀ (H : Heap) (locs : List Loc) (ls : Array Slot), v6 = (if p1 = 0 then (X_stops x) &&& (((1 : Int32) <<< (p0 &&& 31)) ^^^ (-1 : Int32)) else (X_stops x) ||| ((1 : Int32) <<< (p0 &&& 31))) → va_P D vwCl (cKick h aw av kr kt q x w v r t) H → va_S A s.heap H locs → lv_has ls 4 [(0, .ref h)] → W p l e RM_X3_stop s m args below meth c H locs 0 0 Q (F0 m 45 ls [.int v6, .ref h]) by
      refine lv_if_eq (tgt := 37) hx hb dX3_stop_25 (by decide) (fun c5 => ?_) (fun c5 => ?_)
      · refine lv_aload_n hx hb dX3_stop_37 rfl (lv_at hl 1 rfl) ?_
        refine gf_X3_163 fx hP 0 rfl (v := X_stops x) rfl dX3_stop_38 ?_
        refine lv_iload_n hx hb dX3_stop_41 rfl (lv_at hl 0 rfl) ?_
        refine lv_iconst (v := -1) hx hb dX3_stop_42 (by decide) ?_
        refine lv_ixor hx hb dX3_stop_43 ?_
        refine lv_iand hx hb dX3_stop_44 ?_
        exact K ((X_stops x) &&& (((1 : Int32) <<< (p0 &&& 31)) ^^^ (-1 : Int32))) H locs ls (by simp only [if_pos c5]) hP hS (lv_sub hl [1] rfl)
      · refine lv_aload_n hx hb dX3_stop_28 rfl (lv_at hl 1 rfl) ?_
        refine gf_X3_163 fx hP 0 rfl (v := X_stops x) rfl dX3_stop_29 ?_
        refine lv_iload_n hx hb dX3_stop_32 rfl (lv_at hl 0 rfl) ?_
        refine lv_ior hx hb dX3_stop_33 ?_
        refine lv_goto (tgt := 45) hx hb dX3_stop_34 (by decide) ?_
        exact K ((X_stops x) ||| ((1 : Int32) <<< (p0 &&& 31))) H locs ls (by simp only [if_neg c5]) hP hS (lv_sub hl [1] rfl)
    intro v6 H locs ls hvv6 hP hS hl
    subst hvv6
    refine pf_X3_163 fx hP (hD _ _ _ _ _) hS 0 rfl dX3_stop_45 (fun H locs hP hS => ?_)
    have hP : va_P D vwCl (cKick h aw av kr kt q (X_set_stops x (if p1 = 0 then (X_stops x) &&& (((1 : Int32) <<< (p0 &&& 31)) ^^^ (-1 : Int32)) else (X_stops x) ||| ((1 : Int32) <<< (p0 &&& 31)))) w v r t) H := hP
    refine lv_aload_n hx hb dX3_stop_48 rfl (lv_at hl 0 rfl) ?_
    refine gf_X3_163 fx hP 0 rfl (v := if p1 = 0 then (X_stops x) &&& (((1 : Int32) <<< (p0 &&& 31)) ^^^ (-1 : Int32)) else (X_stops x) ||| ((1 : Int32) <<< (p0 &&& 31))) (X_stops_set_stops _ _) dX3_stop_49 ?_
    refine kR_i (runS fx (As := [.int (if p1 = 0 then (X_stops x) &&& (((1 : Int32) <<< (p0 &&& 31)) ^^^ (-1 : Int32)) else (X_stops x) ||| ((1 : Int32) <<< (p0 &&& 31)))]) (rest := []) (c_J6_bitCount_0f7a4 l D q H.size (if p1 = 0 then (X_stops x) &&& (((1 : Int32) <<< (p0 &&& 31)) ^^^ (-1 : Int32)) else (X_stops x) ||| ((1 : Int32) <<< (p0 &&& 31)))) lk_X3_166 ⟨Nat.le_of_ble_eq_true rfl, Nat.le_of_ble_eq_true rfl⟩ ⟨rfl, rfl⟩ hP (hD _ _ _ _ _) [] rfl rfl rfl hl.1 rfl (Nat.le_of_ble_eq_true rfl) dX3_stop_52 ⟨Nat.zero_le _, Nat.zero_le _⟩) hP hS (fun r7 _ H locs hr8 hP hS => ?_)
    subst hr8
    exact hret (f_J6_bitCount_0f7a4 (if p1 = 0 then (X_stops x) &&& (((1 : Int32) <<< (p0 &&& 31)) ^^^ (-1 : Int32)) else (X_stops x) ||| ((1 : Int32) <<< (p0 &&& 31)))) (X_set_stops x (if p1 = 0 then (X_stops x) &&& (((1 : Int32) <<< (p0 &&& 31)) ^^^ (-1 : Int32)) else (X_stops x) ||| ((1 : Int32) <<< (p0 &&& 31)))) _ _ _ _ dX3_stop_55 (ht.trans (by simp only [f_X3_stop, if_neg c4])) hP hS
  · exact hthr 1 161 "there is no such person" 9 H locs ls [] (Or.inl rfl) hl.1 (Nat.le_of_ble_eq_true rfl) (List.mem_of_getElem? (i := 17) rfl) ⟨dX3_stop_9, dX3_stop_12, Or.inl ⟨dX3_stop_13, dX3_stop_15, dX3_stop_18⟩⟩ ⟨congrArg Prod.fst (show f_X3_stop x p0 p1 = (1, 0, x) from ht.trans (by simp only [f_X3_stop, if_pos c4])), by decide⟩ hP hS

/-! X3_pressure -/
def f_X3_pressure (w : WS) (r : RS) (p0 : Int32) : Nat × Int32 :=
  if p0 = (0 : Int32) then (0, f_X2_bottom w) else if p0 = (1 : Int32) then (0, f_X0_poreAt r (W_depth w)) else if p0 = (2 : Int32) then (0, f_X2_foot w) else if p0 = (3 : Int32) then (0, f_X0_breakAt r (W_shoe w)) else if p0 = (4 : Int32) then (0, W_choke w) else if p0 = (5 : Int32) then (if (f_X2_hasGas w) = 0 then (0, (0 : Int32)) else (0, f_X2_gasPressure w)) else (2, 0)

abbrev RM_X3_pressure : Room := { frames := 6, cells := 1, slots := 6, locals := 90 }
set_option maxRecDepth 100000 in
set_option maxHeartbeats 4000000 in
theorem c_X3_pressure (l : Launch) (D : va_G) (q : Nat → ClassId) (sz : Nat) (h : Nat) (aw : Nat) (av : Nat) (kr : Nat → Nat) (kt : Nat → Nat) (x : XS) (w : WS) (v : WS) (r : RS) (t : TS) (p0 : Int32) (hstk : l.stackTraces = false) : vx_Met l yX3_pressure (Cond.code yX3_pressure cX3_pressure 2 (some .int) :: ALL) RM_X3_pressure (PX D q [.ref h, .int p0] (cKick h aw av kr kt q x w v r t) sz) (va_Qi (fun (rv : Int32) (_ : Unit) => f_X3_pressure w r p0 = (0, rv)) (fun (_ : Unit) t9 => va_P D vwCl (cKick h aw av kr kt q x w v r t) t9.heap) (va_A (cKick h aw av kr kt q x w v r t) sz)) (XCk D (cKick h aw av kr kt q x w v r t) sz (fun k => (f_X3_pressure w r p0).1 = k ∧ (k = 2))) 1 6 (va_A (cKick h aw av kr kt q x w v r t) sz) := by
  refine en_xi hstk rfl (by decide +kernel) (Nat.le_of_ble_eq_true rfl) ⟨Nat.le_of_ble_eq_true rfl, Nat.le_of_ble_eq_true rfl, rfl, rfl⟩ ?_
  intro p e s m args below meth c Q A H locs ls fx hD0 hA hP hS hl hret hthr
  have hx := fx.1
  have hb := fx.2.1
  have hl : lv_has ls 2 [(0, .ref h), (1, .int p0)] := hl
  have hD : ∀ (x9 : XS) (w9 : WS) (v9 : WS) (r9 : RS) (t9 : TS), va_D _ (cKick h aw av kr kt q x9 w9 v9 r9 t9) := fun _ _ _ _ _ => D_same ((fst_Kick _ _ _ _ _ _ _ _ _ _ _).trans (fst_Kick _ _ _ _ _ _ _ _ _ _ _).symm) hD0
  have ht : f_X3_pressure w r p0 = f_X3_pressure w r p0 := rfl
  refine lv_iload_n hx hb dX3_pressure_0 rfl (lv_at hl 1 rfl) ?_
  by_cases c1 : p0 = (0 : Int32)
  · refine lv_tableIn (off := 39) (tgt := 40) hx hb dX3_pressure_1 (by rw [c1]; decide) (by rw [c1]; decide) (by rw [c1]; decide) (by decide) ?_
    refine lv_aload_n hx hb dX3_pressure_40 rfl (lv_at hl 0 rfl) ?_
    refine gf_X3_21 fx hP 0 rfl dX3_pressure_41 ?_
    refine kR_i (runVN fx (As := []) (rest := []) (c_X2_bottom l D q H.size aw kr w r) lk_X3_171 ⟨Nat.le_of_ble_eq_true rfl, Nat.le_of_ble_eq_true rfl⟩ ⟨rfl, rfl⟩ hP (hD _ _ _ _ _) [1, 3, 4, 5, 6, 7, 8] rfl rfl (ci := 2) rfl rfl rfl hl.1 rfl (Nat.le_of_ble_eq_true rfl) dX3_pressure_44 ⟨Nat.zero_le _, Nat.zero_le _⟩) hP hS (fun r2 _ H locs hr3 hP hS => ?_)
    subst hr3
    exact hret (f_X2_bottom w) () _ _ _ _ dX3_pressure_47 (ht.trans (by simp only [f_X3_pressure, if_pos c1])) hP hS
  by_cases c4 : p0 = (1 : Int32)
  · refine lv_tableIn (off := 47) (tgt := 48) hx hb dX3_pressure_1 (by rw [c4]; decide) (by rw [c4]; decide) (by rw [c4]; decide) (by decide) ?_
    refine lv_aload_n hx hb dX3_pressure_48 rfl (lv_at hl 0 rfl) ?_
    refine gf_X3_10 fx hP 0 rfl dX3_pressure_49 ?_
    refine lv_aload_n hx hb dX3_pressure_52 rfl (lv_at hl 0 rfl) ?_
    refine gf_X3_21 fx hP 0 rfl dX3_pressure_53 ?_
    refine gf_X3_55 fx hP 1 rfl (v := W_depth w) rfl dX3_pressure_56 ?_
    refine kR_i (runVN fx (As := [.int (W_depth w)]) (rest := []) (c_X0_poreAt l D q H.size kr r (W_depth w)) lk_X3_174 ⟨Nat.le_of_ble_eq_true rfl, Nat.le_of_ble_eq_true rfl⟩ ⟨rfl, rfl⟩ hP (hD _ _ _ _ _) [3, 4, 5, 6, 7, 8] rfl rfl (ci := 0) rfl rfl rfl hl.1 rfl (Nat.le_of_ble_eq_true rfl) dX3_pressure_59 ⟨Nat.zero_le _, Nat.zero_le _⟩) hP hS (fun r5 _ H locs hr6 hP hS => ?_)
    subst hr6
    exact hret (f_X0_poreAt r (W_depth w)) () _ _ _ _ dX3_pressure_62 (ht.trans (by simp only [f_X3_pressure, if_neg c1, if_pos c4])) hP hS
  by_cases c7 : p0 = (2 : Int32)
  · refine lv_tableIn (off := 62) (tgt := 63) hx hb dX3_pressure_1 (by rw [c7]; decide) (by rw [c7]; decide) (by rw [c7]; decide) (by decide) ?_
    refine lv_aload_n hx hb dX3_pressure_63 rfl (lv_at hl 0 rfl) ?_
    refine gf_X3_21 fx hP 0 rfl dX3_pressure_64 ?_
    refine kR_i (runVN fx (As := []) (rest := []) (c_X2_foot l D q H.size aw kr w r) lk_X3_177 ⟨Nat.le_of_ble_eq_true rfl, Nat.le_of_ble_eq_true rfl⟩ ⟨rfl, rfl⟩ hP (hD _ _ _ _ _) [1, 3, 4, 5, 6, 7, 8] rfl rfl (ci := 2) rfl rfl rfl hl.1 rfl (Nat.le_of_ble_eq_true rfl) dX3_pressure_67 ⟨Nat.zero_le _, Nat.zero_le _⟩) hP hS (fun r8 _ H locs hr9 hP hS => ?_)
    subst hr9
    exact hret (f_X2_foot w) () _ _ _ _ dX3_pressure_70 (ht.trans (by simp only [f_X3_pressure, if_neg c1, if_neg c4, if_pos c7])) hP hS
  by_cases c10 : p0 = (3 : Int32)
  · refine lv_tableIn (off := 70) (tgt := 71) hx hb dX3_pressure_1 (by rw [c10]; decide) (by rw [c10]; decide) (by rw [c10]; decide) (by decide) ?_
    refine lv_aload_n hx hb dX3_pressure_71 rfl (lv_at hl 0 rfl) ?_
    refine gf_X3_10 fx hP 0 rfl dX3_pressure_72 ?_
    refine lv_aload_n hx hb dX3_pressure_75 rfl (lv_at hl 0 rfl) ?_
    refine gf_X3_21 fx hP 0 rfl dX3_pressure_76 ?_
    refine gf_X3_123 fx hP 1 rfl (v := W_shoe w) rfl dX3_pressure_79 ?_
    refine kR_i (runVN fx (As := [.int (W_shoe w)]) (rest := []) (c_X0_breakAt l D q H.size kr r (W_shoe w)) lk_X3_180 ⟨Nat.le_of_ble_eq_true rfl, Nat.le_of_ble_eq_true rfl⟩ ⟨rfl, rfl⟩ hP (hD _ _ _ _ _) [3, 4, 5, 6, 7, 8] rfl rfl (ci := 0) rfl rfl rfl hl.1 rfl (Nat.le_of_ble_eq_true rfl) dX3_pressure_82 ⟨Nat.zero_le _, Nat.zero_le _⟩) hP hS (fun r11 _ H locs hr12 hP hS => ?_)
    subst hr12
    exact hret (f_X0_breakAt r (W_shoe w)) () _ _ _ _ dX3_pressure_85 (ht.trans (by simp only [f_X3_pressure, if_neg c1, if_neg c4, if_neg c7, if_pos c10])) hP hS
  by_cases c13 : p0 = (4 : Int32)
  · refine lv_tableIn (off := 85) (tgt := 86) hx hb dX3_pressure_1 (by rw [c13]; decide) (by rw [c13]; decide) (by rw [c13]; decide) (by decide) ?_
    refine lv_aload_n hx hb dX3_pressure_86 rfl (lv_at hl 0 rfl) ?_
    refine gf_X3_21 fx hP 0 rfl dX3_pressure_87 ?_
    refine gf_X3_107 fx hP 1 rfl (v := W_choke w) rfl dX3_pressure_90 ?_
    exact hret (W_choke w) () _ _ _ _ dX3_pressure_93 (ht.trans (by simp only [f_X3_pressure, if_neg c1, if_neg c4, if_neg c7, if_neg c10, if_pos c13])) hP hS
  by_cases c14 : p0 = (5 : Int32)
  · refine lv_tableIn (off := 93) (tgt := 94) hx hb dX3_pressure_1 (by rw [c14]; decide) (by rw [c14]; decide) (by rw [c14]; decide) (by decide) ?_
    refine lv_aload_n hx hb dX3_pressure_94 rfl (lv_at hl 0 rfl) ?_
    refine gf_X3_21 fx hP 0 rfl dX3_pressure_95 ?_
    refine kR_i (runVN fx (As := []) (rest := []) (c_X2_hasGas l D q H.size aw kr w r) lk_X3_183 ⟨Nat.le_of_ble_eq_true rfl, Nat.le_of_ble_eq_true rfl⟩ ⟨rfl, rfl⟩ hP (hD _ _ _ _ _) [1, 3, 4, 5, 6, 7, 8] rfl rfl (ci := 2) rfl rfl rfl hl.1 rfl (Nat.le_of_ble_eq_true rfl) dX3_pressure_98 ⟨Nat.zero_le _, Nat.zero_le _⟩) hP hS (fun r15 _ H locs hr16 hP hS => ?_)
    obtain ⟨rfl, hz17⟩ := hr16
    refine lv_if_eq (tgt := 114) hx hb dX3_pressure_101 (by decide) (fun c18 => ?_) (fun c18 => ?_)
    · refine lv_iconst (v := 0) hx hb dX3_pressure_114 (by decide) ?_
      exact hret (0 : Int32) () _ _ _ _ dX3_pressure_115 (ht.trans (by simp only [f_X3_pressure, if_neg c1, if_neg c4, if_neg c7, if_neg c10, if_neg c13, if_pos c14, if_pos c18])) hP hS
    · refine lv_aload_n hx hb dX3_pressure_104 rfl (lv_at hl 0 rfl) ?_
      refine gf_X3_21 fx hP 0 rfl dX3_pressure_105 ?_
      refine kR_i (runVN fx (As := []) (rest := []) (c_X2_gasPressure l D q H.size aw kr w r) lk_X3_186 ⟨Nat.le_of_ble_eq_true rfl, Nat.le_of_ble_eq_true rfl⟩ ⟨rfl, rfl⟩ hP (hD _ _ _ _ _) [1, 3, 4, 5, 6, 7, 8] rfl rfl (ci := 2) rfl rfl rfl hl.1 rfl (Nat.le_of_ble_eq_true rfl) dX3_pressure_108 ⟨Nat.zero_le _, Nat.zero_le _⟩) hP hS (fun r19 _ H locs hr20 hP hS => ?_)
      subst hr20
      refine lv_goto (tgt := 115) hx hb dX3_pressure_111 (by decide) ?_
      exact hret (f_X2_gasPressure w) () _ _ _ _ dX3_pressure_115 (ht.trans (by simp only [f_X3_pressure, if_neg c1, if_neg c4, if_neg c7, if_neg c10, if_neg c13, if_pos c14, if_neg c18])) hP hS
  refine lv_tableOut (tgt := 116) hx hb dX3_pressure_1 (by have e0 : p0.toInt ≠ 0 := fun h9 => c1 (Int32.toInt_inj.mp h9); have e1 : p0.toInt ≠ 1 := fun h9 => c4 (Int32.toInt_inj.mp h9); have e2 : p0.toInt ≠ 2 := fun h9 => c7 (Int32.toInt_inj.mp h9); have e3 : p0.toInt ≠ 3 := fun h9 => c10 (Int32.toInt_inj.mp h9); have e4 : p0.toInt ≠ 4 := fun h9 => c13 (Int32.toInt_inj.mp h9); have e5 : p0.toInt ≠ 5 := fun h9 => c14 (Int32.toInt_inj.mp h9); omega) (by decide) ?_
  exact hthr 2 189 "what is out of range" 116 H locs ls [] (Or.inr (Or.inl rfl)) hl.1 (Nat.le_of_ble_eq_true rfl) (List.mem_of_getElem? (i := 18) rfl) ⟨dX3_pressure_116, dX3_pressure_119, Or.inl ⟨dX3_pressure_120, dX3_pressure_122, dX3_pressure_125⟩⟩ ⟨congrArg Prod.fst (show f_X3_pressure w r p0 = (2, 0) from ht.trans (by simp only [f_X3_pressure, if_neg c1, if_neg c4, if_neg c7, if_neg c10, if_neg c13, if_neg c14])), by decide⟩ hP hS

/-! X3_of -/
def f_X3_of (x : XS) (w : WS) (p0 : Int32) : Nat × Int64 :=
  if p0 = (0 : Int32) then (0, (W_depth w).toInt64) else if p0 = (1 : Int32) then (0, (W_shoe w).toInt64) else if p0 = (2 : Int32) then (0, (W_weight w).toInt64) else if p0 = (3 : Int32) then (if (W_isClosed w) = 0 then (0, (0 : Int64)) else (0, (1 : Int64))) else if p0 = (4 : Int32) then (0, (W_minutes w).toInt64) else if p0 = (5 : Int32) then (0, (W_gas w).toInt64) else if p0 = (6 : Int32) then (if (f_X2_hasGas w) = 0 then (0, (-1 : Int64)) else (0, (W_place w).toInt64)) else if p0 = (7 : Int32) then (0, (W_liquid w).toInt64) else if p0 = (8 : Int32) then (0, W_vented w) else if p0 = (9 : Int32) then (0, (W_lost w).toInt64) else if p0 = (10 : Int32) then (0, (X_pumped x).toInt64) else if p0 = (11 : Int32) then (0, (X_cement x).toInt64) else (2, 0)

abbrev RM_X3_of : Room := { frames := 6, cells := 1, slots := 6, locals := 90 }
set_option maxRecDepth 100000 in
set_option maxHeartbeats 4000000 in
theorem c_X3_of (l : Launch) (D : va_G) (q : Nat → ClassId) (sz : Nat) (h : Nat) (aw : Nat) (av : Nat) (kr : Nat → Nat) (kt : Nat → Nat) (x : XS) (w : WS) (v : WS) (r : RS) (t : TS) (p0 : Int32) (hstk : l.stackTraces = false) : vx_Met l yX3_of (Cond.code yX3_of cX3_of 2 (some .long) :: ALL) RM_X3_of (PX D q [.ref h, .int p0] (cKick h aw av kr kt q x w v r t) sz) (va_Ql (fun (rv : Int64) (_ : Unit) => f_X3_of x w p0 = (0, rv)) (fun (_ : Unit) t9 => va_P D vwCl (cKick h aw av kr kt q x w v r t) t9.heap) (va_A (cKick h aw av kr kt q x w v r t) sz)) (XCk D (cKick h aw av kr kt q x w v r t) sz (fun k => (f_X3_of x w p0).1 = k ∧ (k = 2))) 1 6 (va_A (cKick h aw av kr kt q x w v r t) sz) := by
  refine en_xl hstk rfl (by decide +kernel) (Nat.le_of_ble_eq_true rfl) ⟨Nat.le_of_ble_eq_true rfl, Nat.le_of_ble_eq_true rfl, rfl, rfl⟩ ?_
  intro p e s m args below meth c Q A H locs ls fx hD0 hA hP hS hl hret hthr
  have hx := fx.1
  have hb := fx.2.1
  have hl : lv_has ls 2 [(0, .ref h), (1, .int p0)] := hl
  have hD : ∀ (x9 : XS) (w9 : WS) (v9 : WS) (r9 : RS) (t9 : TS), va_D _ (cKick h aw av kr kt q x9 w9 v9 r9 t9) := fun _ _ _ _ _ => D_same ((fst_Kick _ _ _ _ _ _ _ _ _ _ _).trans (fst_Kick _ _ _ _ _ _ _ _ _ _ _).symm) hD0
  have ht : f_X3_of x w p0 = f_X3_of x w p0 := rfl
  refine lv_iload_n hx hb dX3_of_0 rfl (lv_at hl 1 rfl) ?_
  by_cases c1 : p0 = (0 : Int32)
  · refine lv_tableIn (off := 63) (tgt := 64) hx hb dX3_of_1 (by rw [c1]; decide) (by rw [c1]; decide) (by rw [c1]; decide) (by decide) ?_
    refine lv_aload_n hx hb dX3_of_64 rfl (lv_at hl 0 rfl) ?_
    refine gf_X3_21 fx hP 0 rfl dX3_of_65 ?_
    refine gf_X3_55 fx hP 1 rfl (v := W_depth w) rfl dX3_of_68 ?_
    refine lv_i2l (v := (W_depth w).toInt64) hx hb dX3_of_71 rfl ?_
    exact hret ((W_depth w).toInt64) () _ _ _ _ dX3_of_72 (ht.trans (by simp only [f_X3_of, if_pos c1])) hP hS
  by_cases c2 : p0 = (1 : Int32)
  · refine lv_tableIn (off := 72) (tgt := 73) hx hb dX3_of_1 (by rw [c2]; decide) (by rw [c2]; decide) (by rw [c2]; decide) (by decide) ?_
    refine lv_aload_n hx hb dX3_of_73 rfl (lv_at hl 0 rfl) ?_
    refine gf_X3_21 fx hP 0 rfl dX3_of_74 ?_
    refine gf_X3_123 fx hP 1 rfl (v := W_shoe w) rfl dX3_of_77 ?_
    refine lv_i2l (v := (W_shoe w).toInt64) hx hb dX3_of_80 rfl ?_
    exact hret ((W_shoe w).toInt64) () _ _ _ _ dX3_of_81 (ht.trans (by simp only [f_X3_of, if_neg c1, if_pos c2])) hP hS
  by_cases c3 : p0 = (2 : Int32)
  · refine lv_tableIn (off := 81) (tgt := 82) hx hb dX3_of_1 (by rw [c3]; decide) (by rw [c3]; decide) (by rw [c3]; decide) (by decide) ?_
    refine lv_aload_n hx hb dX3_of_82 rfl (lv_at hl 0 rfl) ?_
    refine gf_X3_21 fx hP 0 rfl dX3_of_83 ?_
    refine gf_X3_75 fx hP 1 rfl (v := W_weight w) rfl dX3_of_86 ?_
    refine lv_i2l (v := (W_weight w).toInt64) hx hb dX3_of_89 rfl ?_
    exact hret ((W_weight w).toInt64) () _ _ _ _ dX3_of_90 (ht.trans (by simp only [f_X3_of, if_neg c1, if_neg c2, if_pos c3])) hP hS
  by_cases c4 : p0 = (3 : Int32)
  · refine lv_tableIn (off := 90) (tgt := 91) hx hb dX3_of_1 (by rw [c4]; decide) (by rw [c4]; decide) (by rw [c4]; decide) (by decide) ?_
    refine lv_aload_n hx hb dX3_of_91 rfl (lv_at hl 0 rfl) ?_
    refine gf_X3_21 fx hP 0 rfl dX3_of_92 ?_
    refine gf_X3_69 fx hP 1 rfl (v := W_isClosed w) rfl dX3_of_95 ?_
    refine lv_if_eq (tgt := 105) hx hb dX3_of_98 (by decide) (fun c5 => ?_) (fun c5 => ?_)
    · refine lv_lconst (v := 0) hx hb dX3_of_105 (by decide) ?_
      exact hret (0 : Int64) () _ _ _ _ dX3_of_106 (ht.trans (by simp only [f_X3_of, if_neg c1, if_neg c2, if_neg c3, if_pos c4, if_pos c5])) hP hS
    · refine lv_lconst (v := 1) hx hb dX3_of_101 (by decide) ?_
      refine lv_goto (tgt := 106) hx hb dX3_of_102 (by decide) ?_
      exact hret (1 : Int64) () _ _ _ _ dX3_of_106 (ht.trans (by simp only [f_X3_of, if_neg c1, if_neg c2, if_neg c3, if_pos c4, if_neg c5])) hP hS
  by_cases c6 : p0 = (4 : Int32)
  · refine lv_tableIn (off := 106) (tgt := 107) hx hb dX3_of_1 (by rw [c6]; decide) (by rw [c6]; decide) (by rw [c6]; decide) (by decide) ?_
    refine lv_aload_n hx hb dX3_of_107 rfl (lv_at hl 0 rfl) ?_
    refine gf_X3_21 fx hP 0 rfl dX3_of_108 ?_
    refine gf_X3_151 fx hP 1 rfl (v := W_minutes w) rfl dX3_of_111 ?_
    refine lv_i2l (v := (W_minutes w).toInt64) hx hb dX3_of_114 rfl ?_
    exact hret ((W_minutes w).toInt64) () _ _ _ _ dX3_of_115 (ht.trans (by simp only [f_X3_of, if_neg c1, if_neg c2, if_neg c3, if_neg c4, if_pos c6])) hP hS
  by_cases c7 : p0 = (5 : Int32)
  · refine lv_tableIn (off := 115) (tgt := 116) hx hb dX3_of_1 (by rw [c7]; decide) (by rw [c7]; decide) (by rw [c7]; decide) (by decide) ?_
    refine lv_aload_n hx hb dX3_of_116 rfl (lv_at hl 0 rfl) ?_
    refine gf_X3_21 fx hP 0 rfl dX3_of_117 ?_
    refine gf_X3_191 fx hP 1 rfl (v := W_gas w) rfl dX3_of_120 ?_
    refine lv_i2l (v := (W_gas w).toInt64) hx hb dX3_of_123 rfl ?_
    exact hret ((W_gas w).toInt64) () _ _ _ _ dX3_of_124 (ht.trans (by simp only [f_X3_of, if_neg c1, if_neg c2, if_neg c3, if_neg c4, if_neg c6, if_pos c7])) hP hS
  by_cases c8 : p0 = (6 : Int32)
  · refine lv_tableIn (off := 124) (tgt := 125) hx hb dX3_of_1 (by rw [c8]; decide) (by rw [c8]; decide) (by rw [c8]; decide) (by decide) ?_
    refine lv_aload_n hx hb dX3_of_125 rfl (lv_at hl 0 rfl) ?_
    refine gf_X3_21 fx hP 0 rfl dX3_of_126 ?_
    refine kR_i (runVN fx (As := []) (rest := []) (c_X2_hasGas l D q H.size aw kr w r) lk_X3_183 ⟨Nat.le_of_ble_eq_true rfl, Nat.le_of_ble_eq_true rfl⟩ ⟨rfl, rfl⟩ hP (hD _ _ _ _ _) [1, 3, 4, 5, 6, 7, 8] rfl rfl (ci := 2) rfl rfl rfl hl.1 rfl (Nat.le_of_ble_eq_true rfl) dX3_of_129 ⟨Nat.zero_le _, Nat.zero_le _⟩) hP hS (fun r9 _ H locs hr10 hP hS => ?_)
    obtain ⟨rfl, hz11⟩ := hr10
    refine lv_if_eq (tgt := 146) hx hb dX3_of_132 (by decide) (fun c12 => ?_) (fun c12 => ?_)
    · refine lv_ldc2 hx hb fx.2.2.2.1 (fx.2.2.2.2.1 _ mm_169) dX3_of_146 ?_
      exact hret (-1 : Int64) () _ _ _ _ dX3_of_149 (ht.trans (by simp only [f_X3_of, if_neg c1, if_neg c2, if_neg c3, if_neg c4, if_neg c6, if_neg c7, if_pos c8, if_pos c12])) hP hS
    · refine lv_aload_n hx hb dX3_of_135 rfl (lv_at hl 0 rfl) ?_
      refine gf_X3_21 fx hP 0 rfl dX3_of_136 ?_
      refine gf_X3_194 fx hP 1 rfl (v := W_place w) rfl dX3_of_139 ?_
      refine lv_i2l (v := (W_place w).toInt64) hx hb dX3_of_142 rfl ?_
      refine lv_goto (tgt := 149) hx hb dX3_of_143 (by decide) ?_
      exact hret ((W_place w).toInt64) () _ _ _ _ dX3_of_149 (ht.trans (by simp only [f_X3_of, if_neg c1, if_neg c2, if_neg c3, if_neg c4, if_neg c6, if_neg c7, if_pos c8, if_neg c12])) hP hS
  by_cases c13 : p0 = (7 : Int32)
  · refine lv_tableIn (off := 149) (tgt := 150) hx hb dX3_of_1 (by rw [c13]; decide) (by rw [c13]; decide) (by rw [c13]; decide) (by decide) ?_
    refine lv_aload_n hx hb dX3_of_150 rfl (lv_at hl 0 rfl) ?_
    refine gf_X3_21 fx hP 0 rfl dX3_of_151 ?_
    refine gf_X3_118 fx hP 1 rfl (v := W_liquid w) rfl dX3_of_154 ?_
    refine lv_i2l (v := (W_liquid w).toInt64) hx hb dX3_of_157 rfl ?_
    exact hret ((W_liquid w).toInt64) () _ _ _ _ dX3_of_158 (ht.trans (by simp only [f_X3_of, if_neg c1, if_neg c2, if_neg c3, if_neg c4, if_neg c6, if_neg c7, if_neg c8, if_pos c13])) hP hS
  by_cases c14 : p0 = (8 : Int32)
  · refine lv_tableIn (off := 158) (tgt := 159) hx hb dX3_of_1 (by rw [c14]; decide) (by rw [c14]; decide) (by rw [c14]; decide) (by decide) ?_
    refine lv_aload_n hx hb dX3_of_159 rfl (lv_at hl 0 rfl) ?_
    refine gf_X3_21 fx hP 0 rfl dX3_of_160 ?_
    refine gf_X3_199 fx hP 1 rfl (v := W_vented w) rfl dX3_of_163 ?_
    exact hret (W_vented w) () _ _ _ _ dX3_of_166 (ht.trans (by simp only [f_X3_of, if_neg c1, if_neg c2, if_neg c3, if_neg c4, if_neg c6, if_neg c7, if_neg c8, if_neg c13, if_pos c14])) hP hS
  by_cases c15 : p0 = (9 : Int32)
  · refine lv_tableIn (off := 166) (tgt := 167) hx hb dX3_of_1 (by rw [c15]; decide) (by rw [c15]; decide) (by rw [c15]; decide) (by decide) ?_
    refine lv_aload_n hx hb dX3_of_167 rfl (lv_at hl 0 rfl) ?_
    refine gf_X3_21 fx hP 0 rfl dX3_of_168 ?_
    refine gf_X3_203 fx hP 1 rfl (v := W_lost w) rfl dX3_of_171 ?_
    refine lv_i2l (v := (W_lost w).toInt64) hx hb dX3_of_174 rfl ?_
    exact hret ((W_lost w).toInt64) () _ _ _ _ dX3_of_175 (ht.trans (by simp only [f_X3_of, if_neg c1, if_neg c2, if_neg c3, if_neg c4, if_neg c6, if_neg c7, if_neg c8, if_neg c13, if_neg c14, if_pos c15])) hP hS
  by_cases c16 : p0 = (10 : Int32)
  · refine lv_tableIn (off := 175) (tgt := 176) hx hb dX3_of_1 (by rw [c16]; decide) (by rw [c16]; decide) (by rw [c16]; decide) (by decide) ?_
    refine lv_aload_n hx hb dX3_of_176 rfl (lv_at hl 0 rfl) ?_
    refine gf_X3_78 fx hP 0 rfl (v := X_pumped x) rfl dX3_of_177 ?_
    refine lv_i2l (v := (X_pumped x).toInt64) hx hb dX3_of_180 rfl ?_
    exact hret ((X_pumped x).toInt64) () _ _ _ _ dX3_of_181 (ht.trans (by simp only [f_X3_of, if_neg c1, if_neg c2, if_neg c3, if_neg c4, if_neg c6, if_neg c7, if_neg c8, if_neg c13, if_neg c14, if_neg c15, if_pos c16])) hP hS
  by_cases c17 : p0 = (11 : Int32)
  · refine lv_tableIn (off := 181) (tgt := 182) hx hb dX3_of_1 (by rw [c17]; decide) (by rw [c17]; decide) (by rw [c17]; decide) (by decide) ?_
    refine lv_aload_n hx hb dX3_of_182 rfl (lv_at hl 0 rfl) ?_
    refine gf_X3_132 fx hP 0 rfl (v := X_cement x) rfl dX3_of_183 ?_
    refine lv_i2l (v := (X_cement x).toInt64) hx hb dX3_of_186 rfl ?_
    exact hret ((X_cement x).toInt64) () _ _ _ _ dX3_of_187 (ht.trans (by simp only [f_X3_of, if_neg c1, if_neg c2, if_neg c3, if_neg c4, if_neg c6, if_neg c7, if_neg c8, if_neg c13, if_neg c14, if_neg c15, if_neg c16, if_pos c17])) hP hS
  refine lv_tableOut (tgt := 188) hx hb dX3_of_1 (by have e0 : p0.toInt ≠ 0 := fun h9 => c1 (Int32.toInt_inj.mp h9); have e1 : p0.toInt ≠ 1 := fun h9 => c2 (Int32.toInt_inj.mp h9); have e2 : p0.toInt ≠ 2 := fun h9 => c3 (Int32.toInt_inj.mp h9); have e3 : p0.toInt ≠ 3 := fun h9 => c4 (Int32.toInt_inj.mp h9); have e4 : p0.toInt ≠ 4 := fun h9 => c6 (Int32.toInt_inj.mp h9); have e5 : p0.toInt ≠ 5 := fun h9 => c7 (Int32.toInt_inj.mp h9); have e6 : p0.toInt ≠ 6 := fun h9 => c8 (Int32.toInt_inj.mp h9); have e7 : p0.toInt ≠ 7 := fun h9 => c13 (Int32.toInt_inj.mp h9); have e8 : p0.toInt ≠ 8 := fun h9 => c14 (Int32.toInt_inj.mp h9); have e9 : p0.toInt ≠ 9 := fun h9 => c15 (Int32.toInt_inj.mp h9); have e10 : p0.toInt ≠ 10 := fun h9 => c16 (Int32.toInt_inj.mp h9); have e11 : p0.toInt ≠ 11 := fun h9 => c17 (Int32.toInt_inj.mp h9); omega) (by decide) ?_
  exact hthr 2 189 "what is out of range" 188 H locs ls [] (Or.inr (Or.inl rfl)) hl.1 (Nat.le_of_ble_eq_true rfl) (List.mem_of_getElem? (i := 18) rfl) ⟨dX3_of_188, dX3_of_191, Or.inl ⟨dX3_of_192, dX3_of_194, dX3_of_197⟩⟩ ⟨congrArg Prod.fst (show f_X3_of x w p0 = (2, 0) from ht.trans (by simp only [f_X3_of, if_neg c1, if_neg c2, if_neg c3, if_neg c4, if_neg c6, if_neg c7, if_neg c8, if_neg c13, if_neg c14, if_neg c15, if_neg c16, if_neg c17])), by decide⟩ hP hS

/-! X3_ofTest -/
def f_X3_ofTest (t : TS) (p0 : Int32) (p1 : Int32) : Nat × Int32 :=
  if (f_X3_isWithin p0 (0 : Int32) ((T_count t) - (1 : Int32))) = 0 then (1, 0) else (if p1 = (0 : Int32) then (0, f_X3_read 60 (T_whats t) p0) else if p1 = (1 : Int32) then (0, f_X3_read 60 (T_pressures t) p0) else if p1 = (2 : Int32) then (0, f_X3_read 60 (T_passes t) p0) else if p1 = (3 : Int32) then (0, f_X3_read 60 (T_minutes t) p0) else (2, 0))

abbrev RM_X3_ofTest : Room := { frames := 6, cells := 1, slots := 6, locals := 90 }
set_option maxRecDepth 100000 in
set_option maxHeartbeats 4000000 in
theorem c_X3_ofTest (l : Launch) (D : va_G) (q : Nat → ClassId) (sz : Nat) (h : Nat) (aw : Nat) (av : Nat) (kr : Nat → Nat) (kt : Nat → Nat) (x : XS) (w : WS) (v : WS) (r : RS) (t : TS) (p0 : Int32) (p1 : Int32) (hstk : l.stackTraces = false) : vx_Met l yX3_ofTest (Cond.code yX3_ofTest cX3_ofTest 3 (some .int) :: ALL) RM_X3_ofTest (PX D q [.ref h, .int p0, .int p1] (cKick h aw av kr kt q x w v r t) sz) (va_Qi (fun (rv : Int32) (_ : Unit) => f_X3_ofTest t p0 p1 = (0, rv)) (fun (_ : Unit) t9 => va_P D vwCl (cKick h aw av kr kt q x w v r t) t9.heap) (va_A (cKick h aw av kr kt q x w v r t) sz)) (XCk D (cKick h aw av kr kt q x w v r t) sz (fun k => (f_X3_ofTest t p0 p1).1 = k ∧ (k = 1 ∨ k = 2))) 1 6 (va_A (cKick h aw av kr kt q x w v r t) sz) := by
  refine en_xi hstk rfl (by decide +kernel) (Nat.le_of_ble_eq_true rfl) ⟨Nat.le_of_ble_eq_true rfl, Nat.le_of_ble_eq_true rfl, rfl, rfl⟩ ?_
  intro p e s m args below meth c Q A H locs ls fx hD0 hA hP hS hl hret hthr
  have hx := fx.1
  have hb := fx.2.1
  have hl : lv_has ls 3 [(0, .ref h), (1, .int p0), (2, .int p1)] := hl
  have hD : ∀ (x9 : XS) (w9 : WS) (v9 : WS) (r9 : RS) (t9 : TS), va_D _ (cKick h aw av kr kt q x9 w9 v9 r9 t9) := fun _ _ _ _ _ => D_same ((fst_Kick _ _ _ _ _ _ _ _ _ _ _).trans (fst_Kick _ _ _ _ _ _ _ _ _ _ _).symm) hD0
  have ht : f_X3_ofTest t p0 p1 = f_X3_ofTest t p0 p1 := rfl
  refine lv_iload_n hx hb dX3_ofTest_0 rfl (lv_at hl 1 rfl) ?_
  refine lv_iconst (v := 0) hx hb dX3_ofTest_1 (by decide) ?_
  refine lv_aload_n hx hb dX3_ofTest_2 rfl (lv_at hl 0 rfl) ?_
  refine gf_X3_31 fx hP 0 rfl dX3_ofTest_3 ?_
  refine gf_X3_146 fx hP 9 rfl (v := T_count t) rfl dX3_ofTest_6 ?_
  refine lv_iconst (v := 1) hx hb dX3_ofTest_9 (by decide) ?_
  refine lv_isub hx hb dX3_ofTest_10 ?_
  refine kR_i (runS fx (As := [.int p0, .int (0 : Int32), .int ((T_count t) - (1 : Int32))]) (rest := []) (c_X3_isWithin l D q H.size p0 (0 : Int32) ((T_count t) - (1 : Int32))) lk_X3_39 ⟨Nat.le_of_ble_eq_true rfl, Nat.le_of_ble_eq_true rfl⟩ ⟨rfl, rfl⟩ hP (hD _ _ _ _ _) [] rfl rfl rfl hl.1 rfl (Nat.le_of_ble_eq_true rfl) dX3_ofTest_11 ⟨Nat.zero_le _, Nat.zero_le _⟩) hP hS (fun r1 _ H locs hr2 hP hS => ?_)
  obtain ⟨rfl, hz3⟩ := hr2
  refine lv_if_ne (tgt := 27) hx hb dX3_ofTest_14 (by decide) (fun c4 => ?_) (fun c4 => ?_)
  · refine lv_iload_n hx hb dX3_ofTest_27 rfl (lv_at hl 2 rfl) ?_
    by_cases c5 : p1 = (0 : Int32)
    · refine lv_tableIn (off := 32) (tgt := 60) hx hb dX3_ofTest_28 (by rw [c5]; decide) (by rw [c5]; decide) (by rw [c5]; decide) (by decide) ?_
      refine lv_aload_n hx hb dX3_ofTest_60 rfl (lv_at hl 0 rfl) ?_
      refine gf_X3_31 fx hP 0 rfl dX3_ofTest_61 ?_
      refine gf_X3_220 fx hP 9 rfl dX3_ofTest_64 ?_
      refine lv_iload_n hx hb dX3_ofTest_67 rfl (lv_at hl 1 rfl) ?_
      refine kR_i (runS fx (As := [.ref (kt 1), .int p0]) (rest := []) (c_X3_read l D q H.size (kt 1) 60 (Nat.le_of_ble_eq_true rfl) (T_whats t) p0) lk_X3_224 ⟨Nat.le_of_ble_eq_true rfl, Nat.le_of_ble_eq_true rfl⟩ ⟨rfl, rfl⟩ hP (hD _ _ _ _ _) [10] rfl rfl rfl hl.1 rfl (Nat.le_of_ble_eq_true rfl) dX3_ofTest_68 ⟨Nat.zero_le _, Nat.zero_le _⟩) hP hS (fun r6 _ H locs hr7 hP hS => ?_)
      subst hr7
      exact hret (f_X3_read 60 (T_whats t) p0) () _ _ _ _ dX3_ofTest_71 (ht.trans (by simp only [f_X3_ofTest, if_neg c4, if_pos c5])) hP hS
    by_cases c8 : p1 = (1 : Int32)
    · refine lv_tableIn (off := 44) (tgt := 72) hx hb dX3_ofTest_28 (by rw [c8]; decide) (by rw [c8]; decide) (by rw [c8]; decide) (by decide) ?_
      refine lv_aload_n hx hb dX3_ofTest_72 rfl (lv_at hl 0 rfl) ?_
      refine gf_X3_31 fx hP 0 rfl dX3_ofTest_73 ?_
      refine gf_X3_228 fx hP 9 rfl dX3_ofTest_76 ?_
      refine lv_iload_n hx hb dX3_ofTest_79 rfl (lv_at hl 1 rfl) ?_
      refine kR_i (runS fx (As := [.ref (kt 2), .int p0]) (rest := []) (c_X3_read l D q H.size (kt 2) 60 (Nat.le_of_ble_eq_true rfl) (T_pressures t) p0) lk_X3_224 ⟨Nat.le_of_ble_eq_true rfl, Nat.le_of_ble_eq_true rfl⟩ ⟨rfl, rfl⟩ hP (hD _ _ _ _ _) [11] rfl rfl rfl hl.1 rfl (Nat.le_of_ble_eq_true rfl) dX3_ofTest_80 ⟨Nat.zero_le _, Nat.zero_le _⟩) hP hS (fun r9 _ H locs hr10 hP hS => ?_)
      subst hr10
      exact hret (f_X3_read 60 (T_pressures t) p0) () _ _ _ _ dX3_ofTest_83 (ht.trans (by simp only [f_X3_ofTest, if_neg c4, if_neg c5, if_pos c8])) hP hS
    by_cases c11 : p1 = (2 : Int32)
    · refine lv_tableIn (off := 56) (tgt := 84) hx hb dX3_ofTest_28 (by rw [c11]; decide) (by rw [c11]; decide) (by rw [c11]; decide) (by decide) ?_
      refine lv_aload_n hx hb dX3_ofTest_84 rfl (lv_at hl 0 rfl) ?_
      refine gf_X3_31 fx hP 0 rfl dX3_ofTest_85 ?_
      refine gf_X3_231 fx hP 9 rfl dX3_ofTest_88 ?_
      refine lv_iload_n hx hb dX3_ofTest_91 rfl (lv_at hl 1 rfl) ?_
      refine kR_i (runS fx (As := [.ref (kt 3), .int p0]) (rest := []) (c_X3_read l D q H.size (kt 3) 60 (Nat.le_of_ble_eq_true rfl) (T_passes t) p0) lk_X3_224 ⟨Nat.le_of_ble_eq_true rfl, Nat.le_of_ble_eq_true rfl⟩ ⟨rfl, rfl⟩ hP (hD _ _ _ _ _) [12] rfl rfl rfl hl.1 rfl (Nat.le_of_ble_eq_true rfl) dX3_ofTest_92 ⟨Nat.zero_le _, Nat.zero_le _⟩) hP hS (fun r12 _ H locs hr13 hP hS => ?_)
      subst hr13
      exact hret (f_X3_read 60 (T_passes t) p0) () _ _ _ _ dX3_ofTest_95 (ht.trans (by simp only [f_X3_ofTest, if_neg c4, if_neg c5, if_neg c8, if_pos c11])) hP hS
    by_cases c14 : p1 = (3 : Int32)
    · refine lv_tableIn (off := 68) (tgt := 96) hx hb dX3_ofTest_28 (by rw [c14]; decide) (by rw [c14]; decide) (by rw [c14]; decide) (by decide) ?_
      refine lv_aload_n hx hb dX3_ofTest_96 rfl (lv_at hl 0 rfl) ?_
      refine gf_X3_31 fx hP 0 rfl dX3_ofTest_97 ?_
      refine gf_X3_234 fx hP 9 rfl dX3_ofTest_100 ?_
      refine lv_iload_n hx hb dX3_ofTest_103 rfl (lv_at hl 1 rfl) ?_
      refine kR_i (runS fx (As := [.ref (kt 4), .int p0]) (rest := []) (c_X3_read l D q H.size (kt 4) 60 (Nat.le_of_ble_eq_true rfl) (T_minutes t) p0) lk_X3_224 ⟨Nat.le_of_ble_eq_true rfl, Nat.le_of_ble_eq_true rfl⟩ ⟨rfl, rfl⟩ hP (hD _ _ _ _ _) [13] rfl rfl rfl hl.1 rfl (Nat.le_of_ble_eq_true rfl) dX3_ofTest_104 ⟨Nat.zero_le _, Nat.zero_le _⟩) hP hS (fun r15 _ H locs hr16 hP hS => ?_)
      subst hr16
      exact hret (f_X3_read 60 (T_minutes t) p0) () _ _ _ _ dX3_ofTest_107 (ht.trans (by simp only [f_X3_ofTest, if_neg c4, if_neg c5, if_neg c8, if_neg c11, if_pos c14])) hP hS
    refine lv_tableOut (tgt := 108) hx hb dX3_ofTest_28 (by have e0 : p1.toInt ≠ 0 := fun h9 => c5 (Int32.toInt_inj.mp h9); have e1 : p1.toInt ≠ 1 := fun h9 => c8 (Int32.toInt_inj.mp h9); have e2 : p1.toInt ≠ 2 := fun h9 => c11 (Int32.toInt_inj.mp h9); have e3 : p1.toInt ≠ 3 := fun h9 => c14 (Int32.toInt_inj.mp h9); omega) (by decide) ?_
    exact hthr 2 189 "what is out of range" 108 H locs ls [] (Or.inr (Or.inl rfl)) hl.1 (Nat.le_of_ble_eq_true rfl) (List.mem_of_getElem? (i := 18) rfl) ⟨dX3_ofTest_108, dX3_ofTest_111, Or.inl ⟨dX3_ofTest_112, dX3_ofTest_114, dX3_ofTest_117⟩⟩ ⟨congrArg Prod.fst (show f_X3_ofTest t p0 p1 = (2, 0) from ht.trans (by simp only [f_X3_ofTest, if_neg c4, if_neg c5, if_neg c8, if_neg c11, if_neg c14])), by decide⟩ hP hS
  · exact hthr 1 218 "there is no such test" 17 H locs ls [] (Or.inl rfl) hl.1 (Nat.le_of_ble_eq_true rfl) (List.mem_of_getElem? (i := 19) rfl) ⟨dX3_ofTest_17, dX3_ofTest_20, Or.inl ⟨dX3_ofTest_21, dX3_ofTest_23, dX3_ofTest_26⟩⟩ ⟨congrArg Prod.fst (show f_X3_ofTest t p0 p1 = (1, 0) from ht.trans (by simp only [f_X3_ofTest, if_pos c4])), by decide⟩ hP hS

/-! X3_killWeight -/
def f_X3_killWeight (w : WS) (r : RS) : Nat × Int32 :=
  if 0 < (W_depth w) then (0, ((((10 : Int32) * (f_X0_poreAt r (W_depth w))) + (W_depth w)) - (1 : Int32)) / (W_depth w)) else (3, 0)

abbrev RM_X3_killWeight : Room := { frames := 6, cells := 1, slots := 6, locals := 90 }
set_option maxRecDepth 100000 in
set_option maxHeartbeats 4000000 in
theorem c_X3_killWeight (l : Launch) (D : va_G) (q : Nat → ClassId) (sz : Nat) (h : Nat) (aw : Nat) (av : Nat) (kr : Nat → Nat) (kt : Nat → Nat) (x : XS) (w : WS) (v : WS) (r : RS) (t : TS) (hstk : l.stackTraces = false) : vx_Met l yX3_killWeight (Cond.code yX3_killWeight cX3_killWeight 2 (some .int) :: ALL) RM_X3_killWeight (PX D q [.ref h] (cKick h aw av kr kt q x w v r t) sz) (va_Qi (fun (rv : Int32) (_ : Unit) => f_X3_killWeight w r = (0, rv)) (fun (_ : Unit) t9 => va_P D vwCl (cKick h aw av kr kt q x w v r t) t9.heap) (va_A (cKick h aw av kr kt q x w v r t) sz)) (XCk D (cKick h aw av kr kt q x w v r t) sz (fun k => (f_X3_killWeight w r).1 = k ∧ (k = 3))) 1 6 (va_A (cKick h aw av kr kt q x w v r t) sz) := by
  refine en_xi hstk rfl (by decide +kernel) (Nat.le_of_ble_eq_true rfl) ⟨Nat.le_of_ble_eq_true rfl, Nat.le_of_ble_eq_true rfl, rfl, rfl⟩ ?_
  intro p e s m args below meth c Q A H locs ls fx hD0 hA hP hS hl hret hthr
  have hx := fx.1
  have hb := fx.2.1
  have hl : lv_has ls 2 [(0, .ref h)] := hl
  have hD : ∀ (x9 : XS) (w9 : WS) (v9 : WS) (r9 : RS) (t9 : TS), va_D _ (cKick h aw av kr kt q x9 w9 v9 r9 t9) := fun _ _ _ _ _ => D_same ((fst_Kick _ _ _ _ _ _ _ _ _ _ _).trans (fst_Kick _ _ _ _ _ _ _ _ _ _ _).symm) hD0
  have ht : f_X3_killWeight w r = f_X3_killWeight w r := rfl
  refine lv_aload_n hx hb dX3_killWeight_0 rfl (lv_at hl 0 rfl) ?_
  refine gf_X3_21 fx hP 0 rfl dX3_killWeight_1 ?_
  refine gf_X3_55 fx hP 1 rfl (v := W_depth w) rfl dX3_killWeight_4 ?_
  refine lv_istore_n (lv' := [(1, .int (W_depth w)), (0, .ref h)]) hx hb dX3_killWeight_7 rfl hl (by decide) rfl (fun ls hl => ?_)
  refine lv_iload_n hx hb dX3_killWeight_8 rfl (lv_at hl 0 rfl) ?_
  refine lv_if_gt (tgt := 22) hx hb dX3_killWeight_9 (by decide) (fun c1 => ?_) (fun c1 => ?_)
  · refine lv_bipush (v := 10) hx hb dX3_killWeight_22 (by decide) ?_
    refine lv_aload_n hx hb dX3_killWeight_24 rfl (lv_at hl 1 rfl) ?_
    refine gf_X3_10 fx hP 0 rfl dX3_killWeight_25 ?_
    refine lv_iload_n hx hb dX3_killWeight_28 rfl (lv_at hl 0 rfl) ?_
    refine kR_i (runVN fx (As := [.int (W_depth w)]) (rest := [.int (10 : Int32)]) (c_X0_poreAt l D q H.size kr r (W_depth w)) lk_X3_174 ⟨Nat.le_of_ble_eq_true rfl, Nat.le_of_ble_eq_true rfl⟩ ⟨rfl, rfl⟩ hP (hD _ _ _ _ _) [3, 4, 5, 6, 7, 8] rfl rfl (ci := 0) rfl rfl rfl hl.1 rfl (Nat.le_of_ble_eq_true rfl) dX3_killWeight_29 ⟨Nat.zero_le _, Nat.zero_le _⟩) hP hS (fun r2 _ H locs hr3 hP hS => ?_)
    subst hr3
    refine lv_imul hx hb dX3_killWeight_32 ?_
    refine lv_iload_n hx hb dX3_killWeight_33 rfl (lv_at hl 0 rfl) ?_
    refine lv_iadd hx hb dX3_killWeight_34 ?_
    refine lv_iconst (v := 1) hx hb dX3_killWeight_35 (by decide) ?_
    refine lv_isub hx hb dX3_killWeight_36 ?_
    refine lv_iload_n hx hb dX3_killWeight_37 rfl (lv_at hl 0 rfl) ?_
    refine lv_idiv hx hb dX3_killWeight_38 (fun h9 => absurd c1 (by rw [h9]; decide)) ?_
    exact hret (((((10 : Int32) * (f_X0_poreAt r (W_depth w))) + (W_depth w)) - (1 : Int32)) / (W_depth w)) () _ _ _ _ dX3_killWeight_39 (ht.trans (by simp only [f_X3_killWeight, if_pos c1])) hP hS
  · exact hthr 3 236 "the depth is 0" 12 H locs ls [] (Or.inr (Or.inr rfl)) hl.1 (Nat.le_of_ble_eq_true rfl) (List.mem_of_getElem? (i := 20) rfl) ⟨dX3_killWeight_12, dX3_killWeight_15, Or.inl ⟨dX3_killWeight_16, dX3_killWeight_18, dX3_killWeight_21⟩⟩ ⟨congrArg Prod.fst (show f_X3_killWeight w r = (3, 0) from ht.trans (by simp only [f_X3_killWeight, if_neg c1])), by decide⟩ hP hS

/-! X3_window -/
def f_X3_window_b24 : Nat × Int32 :=
  (2, 0)

def f_X3_window (N : Nat) (r : RS) (p0 : Int32) (p1 : Int32) (p2 : Int32) : Nat × Int32 :=
  if (f_X3_isWithin p0 (0 : Int32) (4999 : Int32)) = 0 then f_X3_window_b24 else (if (f_X3_isWithin p1 (p0 + (1 : Int32)) (5000 : Int32)) = 0 then f_X3_window_b24 else (if p2 = 0 then (0, f_X0_greatestPore N r (f_X0_layerOf (p0 + (1 : Int32))) (f_X0_layerOf p1)) else (0, f_X0_leastBreak N r (f_X0_layerOf (p0 + (1 : Int32))) (f_X0_layerOf p1))))

def ok_X3_window (N : Nat) (r : RS) (p0 : Int32) (p1 : Int32) (p2 : Int32) : Prop :=
  ((f_X3_isWithin p0 (0 : Int32) (4999 : Int32)) = 0 → True) ∧ (¬ (f_X3_isWithin p0 (0 : Int32) (4999 : Int32)) = 0 → (((f_X3_isWithin p1 (p0 + (1 : Int32)) (5000 : Int32)) = 0 → True) ∧ (¬ (f_X3_isWithin p1 (p0 + (1 : Int32)) (5000 : Int32)) = 0 → ((p2 = 0 → ((ok_X0_greatestPore N r (f_X0_layerOf (p0 + (1 : Int32))) (f_X0_layerOf p1)) ∧ True)) ∧ (¬ p2 = 0 → ((ok_X0_leastBreak N r (f_X0_layerOf (p0 + (1 : Int32))) (f_X0_layerOf p1)) ∧ True))))))

abbrev RM_X3_window : Room := { frames := 6, cells := 1, slots := 6, locals := 90 }
set_option maxRecDepth 100000 in
set_option maxHeartbeats 4000000 in
theorem c_X3_window (l : Launch) (D : va_G) (q : Nat → ClassId) (sz : Nat) (h : Nat) (aw : Nat) (av : Nat) (kr : Nat → Nat) (kt : Nat → Nat) (x : XS) (w : WS) (v : WS) (r : RS) (t : TS) (p0 : Int32) (p1 : Int32) (p2 : Int32) (N : Nat) (hok : ok_X3_window N r p0 p1 p2) (hstk : l.stackTraces = false) : vx_Met l yX3_window (Cond.code yX3_window cX3_window 6 (some .int) :: ALL) RM_X3_window (PX D q [.ref h, .int p0, .int p1, .int p2] (cKick h aw av kr kt q x w v r t) sz) (va_Qi (fun (rv : Int32) (_ : Unit) => f_X3_window N r p0 p1 p2 = (0, rv)) (fun (_ : Unit) t9 => va_P D vwCl (cKick h aw av kr kt q x w v r t) t9.heap) (va_A (cKick h aw av kr kt q x w v r t) sz)) (XCk D (cKick h aw av kr kt q x w v r t) sz (fun k => (f_X3_window N r p0 p1 p2).1 = k ∧ (k = 2))) 1 6 (va_A (cKick h aw av kr kt q x w v r t) sz) := by
  refine en_xi hstk rfl (by decide +kernel) (Nat.le_of_ble_eq_true rfl) ⟨Nat.le_of_ble_eq_true rfl, Nat.le_of_ble_eq_true rfl, rfl, rfl⟩ ?_
  intro p e s m args below meth c Q A H locs ls fx hD0 hA hP hS hl hret hthr
  have hx := fx.1
  have hb := fx.2.1
  have hl : lv_has ls 6 [(0, .ref h), (1, .int p0), (2, .int p1), (3, .int p2)] := hl
  have hD : ∀ (x9 : XS) (w9 : WS) (v9 : WS) (r9 : RS) (t9 : TS), va_D _ (cKick h aw av kr kt q x9 w9 v9 r9 t9) := fun _ _ _ _ _ => D_same ((fst_Kick _ _ _ _ _ _ _ _ _ _ _).trans (fst_Kick _ _ _ _ _ _ _ _ _ _ _).symm) hD0
  have ht : f_X3_window N r p0 p1 p2 = f_X3_window N r p0 p1 p2 := rfl
  simp only [ok_X3_window] at hok
  refine lv_iload_n hx hb dX3_window_0 rfl (lv_at hl 1 rfl) ?_
  refine lv_iconst (v := 0) hx hb dX3_window_1 (by decide) ?_
  refine lv_sipush (v := 4999) hx hb dX3_window_2 (by decide) ?_
  refine kR_i (runS fx (As := [.int p0, .int (0 : Int32), .int (4999 : Int32)]) (rest := []) (c_X3_isWithin l D q H.size p0 (0 : Int32) (4999 : Int32)) lk_X3_39 ⟨Nat.le_of_ble_eq_true rfl, Nat.le_of_ble_eq_true rfl⟩ ⟨rfl, rfl⟩ hP (hD _ _ _ _ _) [] rfl rfl rfl hl.1 rfl (Nat.le_of_ble_eq_true rfl) dX3_window_5 ⟨Nat.zero_le _, Nat.zero_le _⟩) hP hS (fun r1 _ H locs hr2 hP hS => ?_)
  obtain ⟨rfl, hz3⟩ := hr2
  have K24 : ∀ (H : Heap) (locs : List Loc) (ls : Array Slot), f_X3_window N r p0 p1 p2 = f_X3_window_b24 → va_P D vwCl (cKick h aw av kr kt q x w v r t) H → va_S A s.heap H locs → lv_has ls 6 [(0, .ref h)] → W p l e RM_X3_window s m args below meth c H locs 0 0 Q (F0 m 24 ls []) := by
    intro H locs ls ht hP hS hl
    exact hthr 2 238 "from or to is out of range" 24 H locs ls [] (Or.inr (Or.inl rfl)) hl.1 (Nat.le_of_ble_eq_true rfl) (List.mem_of_getElem? (i := 21) rfl) ⟨dX3_window_24, dX3_window_27, Or.inl ⟨dX3_window_28, dX3_window_30, dX3_window_33⟩⟩ ⟨congrArg Prod.fst (show f_X3_window N r p0 p1 p2 = (2, 0) from ht.trans (by simp only [f_X3_window_b24])), by decide⟩ hP hS
  refine lv_if_eq (tgt := 24) hx hb dX3_window_8 (by decide) (fun c20 => ?_) (fun c20 => ?_)
  · have hok := hok.1 c20
    exact K24 H locs ls (ht.trans (by simp only [f_X3_window, if_pos c20])) hP hS (lv_sub hl [0] rfl)
  · have hok := hok.2 c20
    refine lv_iload_n hx hb dX3_window_11 rfl (lv_at hl 2 rfl) ?_
    refine lv_iload_n hx hb dX3_window_12 rfl (lv_at hl 1 rfl) ?_
    refine lv_iconst (v := 1) hx hb dX3_window_13 (by decide) ?_
    refine lv_iadd hx hb dX3_window_14 ?_
    refine lv_sipush (v := 5000) hx hb dX3_window_15 (by decide) ?_
    refine kR_i (runS fx (As := [.int p1, .int (p0 + (1 : Int32)), .int (5000 : Int32)]) (rest := []) (c_X3_isWithin l D q H.size p1 (p0 + (1 : Int32)) (5000 : Int32)) lk_X3_39 ⟨Nat.le_of_ble_eq_true rfl, Nat.le_of_ble_eq_true rfl⟩ ⟨rfl, rfl⟩ hP (hD _ _ _ _ _) [] rfl rfl rfl hl.1 rfl (Nat.le_of_ble_eq_true rfl) dX3_window_18 ⟨Nat.zero_le _, Nat.zero_le _⟩) hP hS (fun r21 _ H locs hr22 hP hS => ?_)
    obtain ⟨rfl, hz23⟩ := hr22
    refine lv_if_ne (tgt := 34) hx hb dX3_window_21 (by decide) (fun c24 => ?_) (fun c24 => ?_)
    · have hok := hok.2 c24
      refine lv_iload_n hx hb dX3_window_34 rfl (lv_at hl 1 rfl) ?_
      refine lv_iconst (v := 1) hx hb dX3_window_35 (by decide) ?_
      refine lv_iadd hx hb dX3_window_36 ?_
      refine kR_i (runSN fx (As := [.int (p0 + (1 : Int32))]) (rest := []) (c_X0_layerOf l D q H.size (p0 + (1 : Int32))) lk_X3_240 ⟨Nat.le_of_ble_eq_true rfl, Nat.le_of_ble_eq_true rfl⟩ ⟨rfl, rfl⟩ hP (hD _ _ _ _ _) [] rfl rfl rfl hl.1 rfl (Nat.le_of_ble_eq_true rfl) dX3_window_37 ⟨Nat.zero_le _, Nat.zero_le _⟩) hP hS (fun r25 _ H locs hr26 hP hS => ?_)
      subst hr26
      refine lv_istore (lv' := [(4, .int (f_X0_layerOf (p0 + (1 : Int32)))), (0, .ref h), (1, .int p0), (2, .int p1), (3, .int p2)]) hx hb dX3_window_40 hl (by decide) rfl (fun ls hl => ?_)
      refine lv_iload_n hx hb dX3_window_42 rfl (lv_at hl 3 rfl) ?_
      refine kR_i (runSN fx (As := [.int p1]) (rest := []) (c_X0_layerOf l D q H.size p1) lk_X3_240 ⟨Nat.le_of_ble_eq_true rfl, Nat.le_of_ble_eq_true rfl⟩ ⟨rfl, rfl⟩ hP (hD _ _ _ _ _) [] rfl rfl rfl hl.1 rfl (Nat.le_of_ble_eq_true rfl) dX3_window_43 ⟨Nat.zero_le _, Nat.zero_le _⟩) hP hS (fun r27 _ H locs hr28 hP hS => ?_)
      subst hr28
      refine lv_istore (lv' := [(5, .int (f_X0_layerOf p1)), (4, .int (f_X0_layerOf (p0 + (1 : Int32)))), (0, .ref h), (1, .int p0), (2, .int p1), (3, .int p2)]) hx hb dX3_window_46 hl (by decide) rfl (fun ls hl => ?_)
      refine lv_iload_n hx hb dX3_window_48 rfl (lv_at hl 5 rfl) ?_
      refine lv_if_eq (tgt := 66) hx hb dX3_window_49 (by decide) (fun c29 => ?_) (fun c29 => ?_)
      · have hok := hok.1 c29
        refine lv_aload_n hx hb dX3_window_66 rfl (lv_at hl 2 rfl) ?_
        refine gf_X3_10 fx hP 0 rfl dX3_window_67 ?_
        refine lv_iload hx hb dX3_window_70 (lv_at hl 1 rfl) ?_
        refine lv_iload hx hb dX3_window_72 (lv_at hl 0 rfl) ?_
        obtain ⟨hk30, hok⟩ := hok
        refine kR_i (runVN fx (As := [.int (f_X0_layerOf (p0 + (1 : Int32))), .int (f_X0_layerOf p1)]) (rest := []) (c_X0_greatestPore l D q H.size kr r (f_X0_layerOf (p0 + (1 : Int32))) (f_X0_layerOf p1) N hk30) lk_X3_247 ⟨Nat.le_of_ble_eq_true rfl, Nat.le_of_ble_eq_true rfl⟩ ⟨rfl, rfl⟩ hP (hD _ _ _ _ _) [3, 4, 5, 6, 7, 8] rfl rfl (ci := 0) rfl rfl rfl hl.1 rfl (Nat.le_of_ble_eq_true rfl) dX3_window_74 ⟨Nat.zero_le _, Nat.zero_le _⟩) hP hS (fun r31 _ H locs hr32 hP hS => ?_)
        subst hr32
        exact hret (f_X0_greatestPore N r (f_X0_layerOf (p0 + (1 : Int32))) (f_X0_layerOf p1)) () _ _ _ _ dX3_window_77 (ht.trans (by simp only [f_X3_window, if_neg c20, if_neg c24, if_pos c29])) hP hS
      · have hok := hok.2 c29
        refine lv_aload_n hx hb dX3_window_52 rfl (lv_at hl 2 rfl) ?_
        refine gf_X3_10 fx hP 0 rfl dX3_window_53 ?_
        refine lv_iload hx hb dX3_window_56 (lv_at hl 1 rfl) ?_
        refine lv_iload hx hb dX3_window_58 (lv_at hl 0 rfl) ?_
        obtain ⟨hk33, hok⟩ := hok
        refine kR_i (runVN fx (As := [.int (f_X0_layerOf (p0 + (1 : Int32))), .int (f_X0_layerOf p1)]) (rest := []) (c_X0_leastBreak l D q H.size kr r (f_X0_layerOf (p0 + (1 : Int32))) (f_X0_layerOf p1) N hk33) lk_X3_243 ⟨Nat.le_of_ble_eq_true rfl, Nat.le_of_ble_eq_true rfl⟩ ⟨rfl, rfl⟩ hP (hD _ _ _ _ _) [3, 4, 5, 6, 7, 8] rfl rfl (ci := 0) rfl rfl rfl hl.1 rfl (Nat.le_of_ble_eq_true rfl) dX3_window_60 ⟨Nat.zero_le _, Nat.zero_le _⟩) hP hS (fun r34 _ H locs hr35 hP hS => ?_)
        subst hr35
        refine lv_goto (tgt := 77) hx hb dX3_window_63 (by decide) ?_
        exact hret (f_X0_leastBreak N r (f_X0_layerOf (p0 + (1 : Int32))) (f_X0_layerOf p1)) () _ _ _ _ dX3_window_77 (ht.trans (by simp only [f_X3_window, if_neg c20, if_neg c24, if_neg c29])) hP hS
    · have hok := hok.1 c24
      exact K24 H locs ls (ht.trans (by simp only [f_X3_window, if_neg c20, if_pos c24])) hP hS (lv_sub hl [0] rfl)

/-! X3_casings -/
def f_X3_casings (N : Nat) (r : RS) (p0 : Int32) : Nat × Int32 :=
  if (f_X3_isWithin p0 (1 : Int32) (5000 : Int32)) = 0 then (2, 0) else (0, f_X0_piecesFromAbove N r (f_X0_layerOf p0))

def ok_X3_casings (N : Nat) (r : RS) (p0 : Int32) : Prop :=
  ((f_X3_isWithin p0 (1 : Int32) (5000 : Int32)) = 0 → True) ∧ (¬ (f_X3_isWithin p0 (1 : Int32) (5000 : Int32)) = 0 → ((ok_X0_piecesFromAbove N r (f_X0_layerOf p0)) ∧ True))

abbrev RM_X3_casings : Room := { frames := 6, cells := 1, slots := 6, locals := 90 }
set_option maxRecDepth 100000 in
set_option maxHeartbeats 4000000 in
theorem c_X3_casings (l : Launch) (D : va_G) (q : Nat → ClassId) (sz : Nat) (h : Nat) (aw : Nat) (av : Nat) (kr : Nat → Nat) (kt : Nat → Nat) (x : XS) (w : WS) (v : WS) (r : RS) (t : TS) (p0 : Int32) (N : Nat) (hok : ok_X3_casings N r p0) (hstk : l.stackTraces = false) : vx_Met l yX3_casings (Cond.code yX3_casings cX3_casings 2 (some .int) :: ALL) RM_X3_casings (PX D q [.ref h, .int p0] (cKick h aw av kr kt q x w v r t) sz) (va_Qi (fun (rv : Int32) (_ : Unit) => f_X3_casings N r p0 = (0, rv)) (fun (_ : Unit) t9 => va_P D vwCl (cKick h aw av kr kt q x w v r t) t9.heap) (va_A (cKick h aw av kr kt q x w v r t) sz)) (XCk D (cKick h aw av kr kt q x w v r t) sz (fun k => (f_X3_casings N r p0).1 = k ∧ (k = 2))) 1 6 (va_A (cKick h aw av kr kt q x w v r t) sz) := by
  refine en_xi hstk rfl (by decide +kernel) (Nat.le_of_ble_eq_true rfl) ⟨Nat.le_of_ble_eq_true rfl, Nat.le_of_ble_eq_true rfl, rfl, rfl⟩ ?_
  intro p e s m args below meth c Q A H locs ls fx hD0 hA hP hS hl hret hthr
  have hx := fx.1
  have hb := fx.2.1
  have hl : lv_has ls 2 [(0, .ref h), (1, .int p0)] := hl
  have hD : ∀ (x9 : XS) (w9 : WS) (v9 : WS) (r9 : RS) (t9 : TS), va_D _ (cKick h aw av kr kt q x9 w9 v9 r9 t9) := fun _ _ _ _ _ => D_same ((fst_Kick _ _ _ _ _ _ _ _ _ _ _).trans (fst_Kick _ _ _ _ _ _ _ _ _ _ _).symm) hD0
  have ht : f_X3_casings N r p0 = f_X3_casings N r p0 := rfl
  simp only [ok_X3_casings] at hok
  refine lv_iload_n hx hb dX3_casings_0 rfl (lv_at hl 1 rfl) ?_
  refine lv_iconst (v := 1) hx hb dX3_casings_1 (by decide) ?_
  refine lv_sipush (v := 5000) hx hb dX3_casings_2 (by decide) ?_
  refine kR_i (runS fx (As := [.int p0, .int (1 : Int32), .int (5000 : Int32)]) (rest := []) (c_X3_isWithin l D q H.size p0 (1 : Int32) (5000 : Int32)) lk_X3_39 ⟨Nat.le_of_ble_eq_true rfl, Nat.le_of_ble_eq_true rfl⟩ ⟨rfl, rfl⟩ hP (hD _ _ _ _ _) [] rfl rfl rfl hl.1 rfl (Nat.le_of_ble_eq_true rfl) dX3_casings_5 ⟨Nat.zero_le _, Nat.zero_le _⟩) hP hS (fun r1 _ H locs hr2 hP hS => ?_)
  obtain ⟨rfl, hz3⟩ := hr2
  refine lv_if_ne (tgt := 21) hx hb dX3_casings_8 (by decide) (fun c4 => ?_) (fun c4 => ?_)
  · have hok := hok.2 c4
    refine lv_aload_n hx hb dX3_casings_21 rfl (lv_at hl 0 rfl) ?_
    refine gf_X3_10 fx hP 0 rfl dX3_casings_22 ?_
    refine lv_iload_n hx hb dX3_casings_25 rfl (lv_at hl 1 rfl) ?_
    refine kR_i (runSN fx (As := [.int p0]) (rest := [.ref (kr 0)]) (c_X0_layerOf l D q H.size p0) lk_X3_240 ⟨Nat.le_of_ble_eq_true rfl, Nat.le_of_ble_eq_true rfl⟩ ⟨rfl, rfl⟩ hP (hD _ _ _ _ _) [] rfl rfl rfl hl.1 rfl (Nat.le_of_ble_eq_true rfl) dX3_casings_26 ⟨Nat.zero_le _, Nat.zero_le _⟩) hP hS (fun r5 _ H locs hr6 hP hS => ?_)
    subst hr6
    obtain ⟨hk7, hok⟩ := hok
    refine kR_i (runVN fx (As := [.int (f_X0_layerOf p0)]) (rest := []) (c_X0_piecesFromAbove l D q H.size kr r (f_X0_layerOf p0) N hk7) lk_X3_252 ⟨Nat.le_of_ble_eq_true rfl, Nat.le_of_ble_eq_true rfl⟩ ⟨rfl, rfl⟩ hP (hD _ _ _ _ _) [3, 4, 5, 6, 7, 8] rfl rfl (ci := 0) rfl rfl rfl hl.1 rfl (Nat.le_of_ble_eq_true rfl) dX3_casings_29 ⟨Nat.zero_le _, Nat.zero_le _⟩) hP hS (fun r8 _ H locs hr9 hP hS => ?_)
    subst hr9
    exact hret (f_X0_piecesFromAbove N r (f_X0_layerOf p0)) () _ _ _ _ dX3_casings_32 (ht.trans (by simp only [f_X3_casings, if_neg c4])) hP hS
  · have hok := hok.1 c4
    exact hthr 2 250 "to is out of range" 11 H locs ls [] (Or.inr (Or.inl rfl)) hl.1 (Nat.le_of_ble_eq_true rfl) (List.mem_of_getElem? (i := 22) rfl) ⟨dX3_casings_11, dX3_casings_14, Or.inl ⟨dX3_casings_15, dX3_casings_17, dX3_casings_20⟩⟩ ⟨congrArg Prod.fst (show f_X3_casings N r p0 = (2, 0) from ht.trans (by simp only [f_X3_casings, if_pos c4])), by decide⟩ hP hS

/-! X3_casingsAnew -/
def f_X3_casingsAnew (N : Nat) (r : RS) (p0 : Int32) : Nat × Int32 × RS :=
  if (f_X3_isWithin p0 (1 : Int32) (5000 : Int32)) = 0 then (2, 0, r) else (0, (f_X0_piecesFromAll N r (f_X0_layerOf p0)).1, ((f_X0_piecesFromAll N r (f_X0_layerOf p0)).2))

def ok_X3_casingsAnew (N : Nat) (r : RS) (p0 : Int32) : Prop :=
  ((f_X3_isWithin p0 (1 : Int32) (5000 : Int32)) = 0 → True) ∧ (¬ (f_X3_isWithin p0 (1 : Int32) (5000 : Int32)) = 0 → ((ok_X0_piecesFromAll N r (f_X0_layerOf p0)) ∧ True))

abbrev RM_X3_casingsAnew : Room := { frames := 6, cells := 1, slots := 6, locals := 90 }
set_option maxRecDepth 100000 in
set_option maxHeartbeats 4000000 in
theorem c_X3_casingsAnew (l : Launch) (D : va_G) (q : Nat → ClassId) (sz : Nat) (h : Nat) (aw : Nat) (av : Nat) (kr : Nat → Nat) (kt : Nat → Nat) (x : XS) (w : WS) (v : WS) (r : RS) (t : TS) (p0 : Int32) (N : Nat) (hok : ok_X3_casingsAnew N r p0) (hstk : l.stackTraces = false) : vx_Met l yX3_casingsAnew (Cond.code yX3_casingsAnew cX3_casingsAnew 2 (some .int) :: ALL) RM_X3_casingsAnew (PX D q [.ref h, .int p0] (cKick h aw av kr kt q x w v r t) sz) (va_Qi (fun (rv : Int32) (u : RS) => f_X3_casingsAnew N r p0 = (0, rv, u)) (fun u t9 => va_P D vwCl (cKick h aw av kr kt q x w v u t) t9.heap) (va_A (cKick h aw av kr kt q x w v r t) sz)) (XCk D (cKick h aw av kr kt q x w v r t) sz (fun k => (f_X3_casingsAnew N r p0).1 = k ∧ (k = 2))) 1 6 (va_A (cKick h aw av kr kt q x w v r t) sz) := by
  refine en_xi hstk rfl (by decide +kernel) (Nat.le_of_ble_eq_true rfl) ⟨Nat.le_of_ble_eq_true rfl, Nat.le_of_ble_eq_true rfl, rfl, rfl⟩ ?_
  intro p e s m args below meth c Q A H locs ls fx hD0 hA hP hS hl hret hthr
  have hx := fx.1
  have hb := fx.2.1
  have hl : lv_has ls 2 [(0, .ref h), (1, .int p0)] := hl
  have hD : ∀ (x9 : XS) (w9 : WS) (v9 : WS) (r9 : RS) (t9 : TS), va_D _ (cKick h aw av kr kt q x9 w9 v9 r9 t9) := fun _ _ _ _ _ => D_same ((fst_Kick _ _ _ _ _ _ _ _ _ _ _).trans (fst_Kick _ _ _ _ _ _ _ _ _ _ _).symm) hD0
  have ht : f_X3_casingsAnew N r p0 = f_X3_casingsAnew N r p0 := rfl
  simp only [ok_X3_casingsAnew] at hok
  refine lv_iload_n hx hb dX3_casingsAnew_0 rfl (lv_at hl 1 rfl) ?_
  refine lv_iconst (v := 1) hx hb dX3_casingsAnew_1 (by decide) ?_
  refine lv_sipush (v := 5000) hx hb dX3_casingsAnew_2 (by decide) ?_
  refine kR_i (runS fx (As := [.int p0, .int (1 : Int32), .int (5000 : Int32)]) (rest := []) (c_X3_isWithin l D q H.size p0 (1 : Int32) (5000 : Int32)) lk_X3_39 ⟨Nat.le_of_ble_eq_true rfl, Nat.le_of_ble_eq_true rfl⟩ ⟨rfl, rfl⟩ hP (hD _ _ _ _ _) [] rfl rfl rfl hl.1 rfl (Nat.le_of_ble_eq_true rfl) dX3_casingsAnew_5 ⟨Nat.zero_le _, Nat.zero_le _⟩) hP hS (fun r1 _ H locs hr2 hP hS => ?_)
  obtain ⟨rfl, hz3⟩ := hr2
  refine lv_if_ne (tgt := 21) hx hb dX3_casingsAnew_8 (by decide) (fun c4 => ?_) (fun c4 => ?_)
  · have hok := hok.2 c4
    refine lv_aload_n hx hb dX3_casingsAnew_21 rfl (lv_at hl 0 rfl) ?_
    refine gf_X3_10 fx hP 0 rfl dX3_casingsAnew_22 ?_
    refine lv_iload_n hx hb dX3_casingsAnew_25 rfl (lv_at hl 1 rfl) ?_
    refine kR_i (runSN fx (As := [.int p0]) (rest := [.ref (kr 0)]) (c_X0_layerOf l D q H.size p0) lk_X3_240 ⟨Nat.le_of_ble_eq_true rfl, Nat.le_of_ble_eq_true rfl⟩ ⟨rfl, rfl⟩ hP (hD _ _ _ _ _) [] rfl rfl rfl hl.1 rfl (Nat.le_of_ble_eq_true rfl) dX3_casingsAnew_26 ⟨Nat.zero_le _, Nat.zero_le _⟩) hP hS (fun r5 _ H locs hr6 hP hS => ?_)
    subst hr6
    obtain ⟨hk7, hok⟩ := hok
    refine kW_i (runVN fx (As := [.int (f_X0_layerOf p0)]) (rest := []) (c_X0_piecesFromAll l D q H.size kr r (f_X0_layerOf p0) N hk7) lk_X3_255 ⟨Nat.le_of_ble_eq_true rfl, Nat.le_of_ble_eq_true rfl⟩ ⟨rfl, rfl⟩ hP (hD _ _ _ _ _) [3, 4, 5, 6, 7, 8] rfl rfl (ci := 0) rfl rfl rfl hl.1 rfl (Nat.le_of_ble_eq_true rfl) dX3_casingsAnew_29 ⟨Nat.zero_le _, Nat.zero_le _⟩) hP (hD _ _ _ _ _) hS hA [3, 4, 5, 6, 7, 8] rfl (fun _ => rfl) (fun r10 u8 H locs hw9 hP hS => ?_)
    have hP : va_P D vwCl (cKick h aw av kr kt q x w v u8 t) H := hP
    try simp only [hw9] at hok
    exact hret r10 u8 _ _ _ _ dX3_casingsAnew_32 (ht.trans (by first | (simp only [f_X3_casingsAnew, if_neg c4, hw9]; done) | (simp only [f_X3_casingsAnew, hw9]; simp only [if_neg c4]))) hP hS
  · have hok := hok.1 c4
    exact hthr 2 250 "to is out of range" 11 H locs ls [] (Or.inr (Or.inl rfl)) hl.1 (Nat.le_of_ble_eq_true rfl) (List.mem_of_getElem? (i := 22) rfl) ⟨dX3_casingsAnew_11, dX3_casingsAnew_14, Or.inl ⟨dX3_casingsAnew_15, dX3_casingsAnew_17, dX3_casingsAnew_20⟩⟩ ⟨congrArg Prod.fst (show f_X3_casingsAnew N r p0 = (2, 0, r) from ht.trans (by simp only [f_X3_casingsAnew, if_pos c4])), by decide⟩ hP hS

/-! X3_equivalent -/
def f_X3_equivalent (w : WS) : Nat × UInt32 :=
  if 0 < (W_shoe w) then (0, FP.fdiv (FP.i2f ((10 : Int32) * (f_X2_foot w))) (FP.i2f (W_shoe w))) else (3, 0)

def ok_X3_equivalent (w : WS) : Prop :=
  (0 < (W_shoe w) → ((vf_n32 (FP.fdiv (FP.i2f ((10 : Int32) * (f_X2_foot w))) (FP.i2f (W_shoe w)))) ∧ True)) ∧ (¬ 0 < (W_shoe w) → True)

abbrev RM_X3_equivalent : Room := { frames := 6, cells := 1, slots := 6, locals := 90 }
set_option maxRecDepth 100000 in
set_option maxHeartbeats 4000000 in
theorem c_X3_equivalent (l : Launch) (D : va_G) (q : Nat → ClassId) (sz : Nat) (h : Nat) (aw : Nat) (av : Nat) (kr : Nat → Nat) (kt : Nat → Nat) (x : XS) (w : WS) (v : WS) (r : RS) (t : TS) (hok : ok_X3_equivalent w) (hstk : l.stackTraces = false) : vx_Met l yX3_equivalent (Cond.code yX3_equivalent cX3_equivalent 2 (some .float) :: ALL) RM_X3_equivalent (PX D q [.ref h] (cKick h aw av kr kt q x w v r t) sz) (va_Qf (fun (rv : UInt32) (_ : Unit) => f_X3_equivalent w = (0, rv)) (fun (_ : Unit) t9 => va_P D vwCl (cKick h aw av kr kt q x w v r t) t9.heap) (va_A (cKick h aw av kr kt q x w v r t) sz)) (XCk D (cKick h aw av kr kt q x w v r t) sz (fun k => (f_X3_equivalent w).1 = k ∧ (k = 3))) 1 6 (va_A (cKick h aw av kr kt q x w v r t) sz) := by
  refine en_xf hstk rfl (by decide +kernel) (Nat.le_of_ble_eq_true rfl) ⟨Nat.le_of_ble_eq_true rfl, Nat.le_of_ble_eq_true rfl, rfl, rfl⟩ ?_
  intro p e s m args below meth c Q A H locs ls fx hD0 hA hP hS hl hret hthr
  have hx := fx.1
  have hb := fx.2.1
  have hl : lv_has ls 2 [(0, .ref h)] := hl
  have hD : ∀ (x9 : XS) (w9 : WS) (v9 : WS) (r9 : RS) (t9 : TS), va_D _ (cKick h aw av kr kt q x9 w9 v9 r9 t9) := fun _ _ _ _ _ => D_same ((fst_Kick _ _ _ _ _ _ _ _ _ _ _).trans (fst_Kick _ _ _ _ _ _ _ _ _ _ _).symm) hD0
  have ht : f_X3_equivalent w = f_X3_equivalent w := rfl
  simp only [ok_X3_equivalent] at hok
  refine lv_aload_n hx hb dX3_equivalent_0 rfl (lv_at hl 0 rfl) ?_
  refine gf_X3_21 fx hP 0 rfl dX3_equivalent_1 ?_
  refine gf_X3_123 fx hP 1 rfl (v := W_shoe w) rfl dX3_equivalent_4 ?_
  refine lv_istore_n (lv' := [(1, .int (W_shoe w)), (0, .ref h)]) hx hb dX3_equivalent_7 rfl hl (by decide) rfl (fun ls hl => ?_)
  refine lv_iload_n hx hb dX3_equivalent_8 rfl (lv_at hl 0 rfl) ?_
  refine lv_if_gt (tgt := 23) hx hb dX3_equivalent_9 (by decide) (fun c1 => ?_) (fun c1 => ?_)
  · have hok := hok.1 c1
    refine lv_bipush (v := 10) hx hb dX3_equivalent_23 (by decide) ?_
    refine lv_aload_n hx hb dX3_equivalent_25 rfl (lv_at hl 1 rfl) ?_
    refine gf_X3_21 fx hP 0 rfl dX3_equivalent_26 ?_
    refine kR_i (runVN fx (As := []) (rest := [.int (10 : Int32)]) (c_X2_foot l D q H.size aw kr w r) lk_X3_177 ⟨Nat.le_of_ble_eq_true rfl, Nat.le_of_ble_eq_true rfl⟩ ⟨rfl, rfl⟩ hP (hD _ _ _ _ _) [1, 3, 4, 5, 6, 7, 8] rfl rfl (ci := 2) rfl rfl rfl hl.1 rfl (Nat.le_of_ble_eq_true rfl) dX3_equivalent_29 ⟨Nat.zero_le _, Nat.zero_le _⟩) hP hS (fun r2 _ H locs hr3 hP hS => ?_)
    subst hr3
    refine lv_imul hx hb dX3_equivalent_32 ?_
    refine lv_i2f hx hb dX3_equivalent_33 ?_
    refine lv_iload_n hx hb dX3_equivalent_34 rfl (lv_at hl 0 rfl) ?_
    refine lv_i2f hx hb dX3_equivalent_35 ?_
    obtain ⟨hf4, hok⟩ := hok
    refine lv_fdiv hx hb dX3_equivalent_36 hf4 ?_
    exact hret (FP.fdiv (FP.i2f ((10 : Int32) * (f_X2_foot w))) (FP.i2f (W_shoe w))) () _ _ _ _ dX3_equivalent_37 (ht.trans (by simp only [f_X3_equivalent, if_pos c1])) hP hS
  · have hok := hok.2 c1
    exact hthr 3 258 "the shoe is 0" 12 H locs ls [] (Or.inr (Or.inr rfl)) hl.1 (Nat.le_of_ble_eq_true rfl) (List.mem_of_getElem? (i := 23) rfl) ⟨dX3_equivalent_12, dX3_equivalent_15, Or.inr ⟨dX3_equivalent_16, dX3_equivalent_19, dX3_equivalent_22⟩⟩ ⟨congrArg Prod.fst (show f_X3_equivalent w = (3, 0) from ht.trans (by simp only [f_X3_equivalent, if_neg c1])), by decide⟩ hP hS

/-! X3_ahead -/
def f_X3_ahead (N : Nat) (w : WS) (v : WS) (r : RS) (p0 : Int32) : Nat × Int32 × WS :=
  if (f_X3_isWithin p0 (1 : Int32) (2000 : Int32)) = 0 then (2, 0, v) else (0, (f_X2_letMinutesGo N (f_X2_become v w) r p0).1, ((f_X2_letMinutesGo N (f_X2_become v w) r p0).2))

def ok_X3_ahead (N : Nat) (w : WS) (v : WS) (r : RS) (p0 : Int32) : Prop :=
  ((f_X3_isWithin p0 (1 : Int32) (2000 : Int32)) = 0 → True) ∧ (¬ (f_X3_isWithin p0 (1 : Int32) (2000 : Int32)) = 0 → ((ok_X2_become w) ∧ ((ok_X2_letMinutesGo N (f_X2_become v w) r p0) ∧ True)))

abbrev RM_X3_ahead : Room := { frames := 6, cells := 1, slots := 6, locals := 131 }
set_option maxRecDepth 100000 in
set_option maxHeartbeats 4000000 in
theorem c_X3_ahead (l : Launch) (D : va_G) (q : Nat → ClassId) (sz : Nat) (h : Nat) (aw : Nat) (av : Nat) (kr : Nat → Nat) (kt : Nat → Nat) (x : XS) (w : WS) (v : WS) (r : RS) (t : TS) (p0 : Int32) (N : Nat) (hok : ok_X3_ahead N w v r p0) (hstk : l.stackTraces = false) : vx_Met l yX3_ahead (Cond.code yX3_ahead cX3_ahead 2 (some .int) :: ALL) RM_X3_ahead (PX D q [.ref h, .int p0] (cKick h aw av kr kt q x w v r t) sz) (va_Qi (fun (rv : Int32) (u : WS) => f_X3_ahead N w v r p0 = (0, rv, u)) (fun u t9 => va_P D vwCl (cKick h aw av kr kt q x w u r t) t9.heap) (va_A (cKick h aw av kr kt q x w v r t) sz)) (XCk D (cKick h aw av kr kt q x w v r t) sz (fun k => (f_X3_ahead N w v r p0).1 = k ∧ (k = 2))) 1 6 (va_A (cKick h aw av kr kt q x w v r t) sz) := by
  refine en_xi hstk rfl (by decide +kernel) (Nat.le_of_ble_eq_true rfl) ⟨Nat.le_of_ble_eq_true rfl, Nat.le_of_ble_eq_true rfl, rfl, rfl⟩ ?_
  intro p e s m args below meth c Q A H locs ls fx hD0 hA hP hS hl hret hthr
  have hx := fx.1
  have hb := fx.2.1
  have hl : lv_has ls 2 [(0, .ref h), (1, .int p0)] := hl
  have hD : ∀ (x9 : XS) (w9 : WS) (v9 : WS) (r9 : RS) (t9 : TS), va_D _ (cKick h aw av kr kt q x9 w9 v9 r9 t9) := fun _ _ _ _ _ => D_same ((fst_Kick _ _ _ _ _ _ _ _ _ _ _).trans (fst_Kick _ _ _ _ _ _ _ _ _ _ _).symm) hD0
  have ht : f_X3_ahead N w v r p0 = f_X3_ahead N w v r p0 := rfl
  simp only [ok_X3_ahead] at hok
  refine lv_iload_n hx hb dX3_ahead_0 rfl (lv_at hl 1 rfl) ?_
  refine lv_iconst (v := 1) hx hb dX3_ahead_1 (by decide) ?_
  refine lv_sipush (v := 2000) hx hb dX3_ahead_2 (by decide) ?_
  refine kR_i (runS fx (As := [.int p0, .int (1 : Int32), .int (2000 : Int32)]) (rest := []) (c_X3_isWithin l D q H.size p0 (1 : Int32) (2000 : Int32)) lk_X3_39 ⟨Nat.le_of_ble_eq_true rfl, Nat.le_of_ble_eq_true rfl⟩ ⟨rfl, rfl⟩ hP (hD _ _ _ _ _) [] rfl rfl rfl hl.1 rfl (Nat.le_of_ble_eq_true rfl) dX3_ahead_5 ⟨Nat.zero_le _, Nat.zero_le _⟩) hP hS (fun r1 _ H locs hr2 hP hS => ?_)
  obtain ⟨rfl, hz3⟩ := hr2
  refine lv_if_ne (tgt := 21) hx hb dX3_ahead_8 (by decide) (fun c4 => ?_) (fun c4 => ?_)
  · have hok := hok.2 c4
    refine lv_aload_n hx hb dX3_ahead_21 rfl (lv_at hl 0 rfl) ?_
    refine gf_X3_25 fx hP 0 rfl dX3_ahead_22 ?_
    refine lv_aload_n hx hb dX3_ahead_25 rfl (lv_at hl 0 rfl) ?_
    refine gf_X3_21 fx hP 0 rfl dX3_ahead_26 ?_
    obtain ⟨hk5, hok⟩ := hok
    refine kW_v (runVN fx (As := [.ref aw]) (rest := []) (c_X2_become l D q H.size av aw kr v w hk5) lk_X3_260 ⟨Nat.le_of_ble_eq_true rfl, Nat.le_of_ble_eq_true rfl⟩ ⟨rfl, rfl⟩ hP (hD _ _ _ _ _) [2, 1] rfl rfl (ci := 2) rfl rfl rfl hl.1 rfl (Nat.le_of_ble_eq_true rfl) dX3_ahead_29 ⟨Nat.zero_le _, Nat.zero_le _⟩) hP (hD _ _ _ _ _) hS hA [2, 1] rfl (fun _ => rfl) (fun u6 H locs hw7 hP hS => ?_)
    have hP : va_P D vwCl (cKick h aw av kr kt q x w u6 r t) H := hP
    try simp only [hw7] at hok
    refine lv_aload_n hx hb dX3_ahead_32 rfl (lv_at hl 0 rfl) ?_
    refine gf_X3_25 fx hP 0 rfl dX3_ahead_33 ?_
    refine lv_iload_n hx hb dX3_ahead_36 rfl (lv_at hl 1 rfl) ?_
    obtain ⟨hk8, hok⟩ := hok
    refine kW_i (runVN fx (As := [.int p0]) (rest := []) (c_X2_letMinutesGo l D q H.size av kr u6 r p0 N hk8) lk_X3_101 ⟨Nat.le_of_ble_eq_true rfl, Nat.le_of_ble_eq_true rfl⟩ ⟨rfl, rfl⟩ hP (hD _ _ _ _ _) [2, 3, 4, 5, 6, 7, 8] rfl rfl (ci := 2) rfl rfl rfl hl.1 rfl (Nat.le_of_ble_eq_true rfl) dX3_ahead_37 ⟨Nat.zero_le _, Nat.zero_le _⟩) hP (hD _ _ _ _ _) hS hA [2, 3, 4, 5, 6, 7, 8] rfl (fun _ => rfl) (fun r11 u9 H locs hw10 hP hS => ?_)
    have hP : va_P D vwCl (cKick h aw av kr kt q x w u9 r t) H := hP
    try simp only [hw10] at hok
    exact hret r11 u9 _ _ _ _ dX3_ahead_40 (ht.trans (by first | (simp only [f_X3_ahead, if_neg c4, hw7, hw10]; done) | (simp only [f_X3_ahead, hw7, hw10]; simp only [if_neg c4]))) hP hS
  · have hok := hok.1 c4
    exact hthr 2 97 "minutes is out of range" 11 H locs ls [] (Or.inr (Or.inl rfl)) hl.1 (Nat.le_of_ble_eq_true rfl) (List.mem_of_getElem? (i := 7) rfl) ⟨dX3_ahead_11, dX3_ahead_14, Or.inl ⟨dX3_ahead_15, dX3_ahead_17, dX3_ahead_20⟩⟩ ⟨congrArg Prod.fst (show f_X3_ahead N w v r p0 = (2, 0, v) from ht.trans (by simp only [f_X3_ahead, if_pos c4])), by decide⟩ hP hS
end
