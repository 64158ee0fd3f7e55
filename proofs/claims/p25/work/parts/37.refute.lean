/-! The claim's frame is too small: what follows from a start on a script of 21s with more room. -/
theorem deep_enter {l : Launch} {x9 : MethodName} {S9 : Spec} {P9 : Array Value → State → Prop} {Q9 : State → State → Prop} {code9 : ByteArray} {maxL9 : Nat} {ret9 : Option FieldType}
    (hx : plainFor x9 = true)
    (his : ∀ args (s : State) m, S9.pre.before args s = true → s.methodNamed? x9 = some m → ∃ meth c, s.vm.method? m = some meth ∧ meth.code = some c ∧ c.code = code9 ∧ c.maxLocals = maxL9 ∧ meth.sig.returnType = ret9 ∧ meth.locks = false)
    (body : ∀ p e s m args below meth c s₁, BodyLoose p l x9 S9 code9 maxL9 ret9 e s m args below meth c s₁ → c.maxLocals = maxL9 → P9 args s → ∃ s₂, Steps p.tables e below (s₁.setTop (entryFrame m args maxL9)) s₂ ∧ Q9 s s₂) :
    ∀ (p : Program) (e : Env), l.admits e → FairCas e.choices → FairClock e.choices → ∀ (s : State) (m : MethodId) (args : Array Value) (below : List Frame), s.frames = .invoking m args :: below → S9.appliesLoose x9 e.platform s = true → P9 args s →
      ∃ n, (∀ k, k < n → Within (stepsAlone p.tables e k s) below) ∧ Q9 s (stepsAlone p.tables e n s) := by
  intro p e ha hc hk s m args below hf happ hP
  obtain ⟨hrun, hable, halone, hname, hhears, hinit, hroom, hpre⟩ := (Spec.appliesLoose_iff hf).mp happ
  obtain ⟨meth, c, hmeth, hcode, hbytes, hlocals, hret, hlocks⟩ := his args s m hpre hname
  have hcur := State.cur_lt_of_frames hf
  have hf1 : (s.setFrames (.java (entryFrame m args maxL9) :: below)).frames = .java (entryFrame m args maxL9) :: below := State.frames_setFrames _ hcur
  have ht1 := State.topJava?_of_frames hf1
  have hplain : (s.setFrames (.java (entryFrame m args maxL9) :: below)).plainMethod m := State.plainMethod.of_named (s := s) hx hname hmeth
  have hAt : At (s.setFrames (.java (entryFrame m args maxL9) :: below)) m c below :=
    ⟨by rw [ht1]; rfl, ⟨[], by rw [hf1]; rfl⟩, hrun, by simpa using hable, by simpa using halone, by rw [State.code?_eq]; simp [State.setFrames, hmeth, hcode], hplain⟩
  have hstep : (stepThread p.tables e s).1 = (s.setFrames (.java (entryFrame m args maxL9) :: below)).setTop (entryFrame m args maxL9) := by
    have hfull : e.platform.stackFull (s.setFrames below).me (s.setFrames below).frames c.maxLocals = false := by
      obtain ⟨-, h1, -, h2⟩ := State.hasRoom_stack hroom
      rw [hf, List.length_cons] at h1
      rw [State.localsInUse_invoking hf hmeth hcode] at h2
      have hw := stackUse_le_stackWeight below
      rw [State.frames_setFrames _ hcur]
      exact Platform.stackFull_eq_false (by rw [State.stackLimits_setFrames]; omega) (by rw [State.stackLimits_setFrames]; omega)
    rw [stepThread_invoking hf, (doInvoke_java (s := s.setFrames below) (e := e) (meth := meth) (code := c) hmeth hcode hlocks hfull).1, State.setTop_self ht1]
    simp only [State.pushFrame, State.frames_setFrames _ hcur, State.setFrames_setFrames, hlocals, entryFrame]
  obtain ⟨s₂, hs, hq⟩ := body p e s m args below meth c _ ⟨ha, hc, hk, by cases p <;> rfl, hf, hname, hhears, hinit, hroom, hpre, hmeth, hret, hlocks, hbytes, rfl, hAt⟩ hlocals hP
  obtain ⟨n, hn, hw⟩ := Steps.head (tb := p.tables) (e := e) ⟨hrun, hable, halone⟩ ⟨[.invoking m args], hf, by simp, by simp⟩ (hstep ▸ hs)
  exact ⟨n, hw, hn ▸ hq⟩
theorem cell_21 {L : Nat} (hL : L = 101) {xs : Nat → Int32} (hx : ∀ j : Nat, j < 101 → xs j = 21) : ∀ j : Nat, j < 76 → ok_L_cell L (Int32.ofNat j) ∧ f_L_cell L xs (Int32.ofNat j) = 21 := by
  intro j hj
  subst hL
  have e1 : (Int32.ofNat 101).toInt = 101 := rfl
  have e2 : (Int32.ofNat j).toInt = (j : Int) := nI_toInt (n := j) (by omega)
  have c1 : ¬ Int32.ofNat 101 ≤ Int32.ofNat j := by rw [i_le, e1, e2]; omega
  have e3 : (Int32.ofNat j).toNatClampNeg = j := nI_clamp (by omega)
  refine ⟨⟨fun h => absurd h c1, fun _ => ⟨vin (by rw [e2]; omega) (by rw [e2]; omega), trivial⟩⟩, ?_⟩
  simp only [f_L_cell, if_neg c1, e3]
  exact hx j (by omega)
set_option maxHeartbeats 4000000 in
theorem falls_core (l : Launch) (hflags : l.flags = flags0) (b : Addr) : ∀ (p : Program) (e : Env), l.admits e → FairCas e.choices → FairClock e.choices → ∀ (s : State) (m : MethodId) (args : Array Value) (below : List Frame), s.frames = .invoking m args :: below → (headSpec (Jvm.Cond.code x code maxLocals ret :: tables_1) R9).appliesLoose x e.platform s = true → lw_P b (List.replicate 101 (21 : Int32)) args s →
    ∃ n, (∀ k, k < n → Within (stepsAlone p.tables e k s) below) ∧ s.heap.size + 144 ≤ (stepsAlone p.tables e n s).heap.size := by
  refine deep_enter (code9 := code) (maxL9 := maxLocals) (ret9 := ret) (Q9 := fun s t => s.heap.size + 144 ≤ t.heap.size) (plainFor_of_name (by decide)) ?_ ?_
  · intro args s m h hn
    obtain ⟨meth, c, h1, h2, h3, h4, h5, h6, -, -⟩ := Cond.code_spec hn (atoms_spec (ws := Jvm.Cond.code x code maxLocals ret :: tables_1) h _ List.mem_cons_self)
    exact ⟨meth, c, h1, h2, h3, h4, h5, h6⟩
  · intro p e s m args below meth c s₁ B hml0 hP
    obtain ⟨rfl, hx, hbd, hgv⟩ := hP
    obtain ⟨scr, harrAt, hlist, hof, hsmall⟩ := hx
    obtain ⟨hcb, hkn, -, -⟩ := State.arrayAt?_spec harrAt
    have hown : s.vm.findClass R_law = some m.cls := findClass_of_methodNamed B.named
    have hts0 : ∀ c ∈ (Jvm.Cond.code x code maxLocals ret :: tables_1), c.before #[Value.ref b] s = true := atoms_spec (ws := Jvm.Cond.code x code maxLocals ret :: tables_1) B.pre
    have hts : ∀ w ∈ lw_tbl, w.before #[Value.ref b] s = true := k2_hts_sels lw_privs (fun w hw => hts0 w (List.mem_cons_of_mem _ hw)) lw_privs_ok
    have hml : c.maxLocals = 7 := B.maxLocals_eq (hts0 _ List.mem_cons_self)
    have X₀ : Stand p l e R9 s m #[Value.ref b] below meth c s₁ [] 0 0 := Stand.of_body B
    have hh0 : s₁.heap = s.heap := by rw [B.state]; rfl
    have hsz : scr.slots.size = 101 := by rw [← Array.length_toList, hlist, List.length_map, List.length_replicate]
    have hval : ∀ j : Nat, j < 101 → scr.slots[j]? = some (.int 21) := fun j hj => by
      rw [← Array.getElem?_toList, hlist, List.getElem?_map, List.getElem?_replicate, if_pos hj]
      rfl
    have hbl : b < s.heap.size := (Array.getElem?_eq_some_iff.mp hcb).1
    have hX : va_X b 101 (fun _ => (21 : Int32)) s s.heap := ⟨scr, hcb, hof, hkn, hsz, hval⟩
    have K : W p l e R9 s m #[Value.ref b] below meth c s₁.heap [] 0 0 (fun t => s.heap.size + 144 ≤ t.heap.size) (entryFrame m ([Value.ref b] : List Value).toArray 7) := by
      rw [hh0]
      exact deep_start l hflags (cell_21 rfl (fun _ _ => rfl)) ⟨B.exec, B.bytes, B.returns, hml, hown, hts, hX, hbl, B.notSynchronized, hgv⟩
    obtain ⟨t, a1, b1⟩ := K s₁ rfl X₀
    exact ⟨t, a1, b1⟩
/-- a start on a script of 101 ints that are 21, with room for more than the claim promises, refutes the claim -/
theorem refuted_of (hst : ∃ (l : Launch) (p : Program) (e : Env) (s : State) (m : MethodId) (b : Addr) (below : List Frame), l.flags = flags0 ∧ Jvm.D.AtStart classFile x code maxLocals ret World_1 tables_1 room_1 Calls_1 rest_1 Pre_1 l p e s m #[.ref b] below ∧ s.hasRoom e.platform R9 = true ∧ s.IntsAt b (List.replicate 101 (21 : Int32))) : ¬ Claimed_1_1 := by
  intro hC
  obtain ⟨l, p, e, s, m, b, below, hfl, ⟨hL, hW, had, -, hcas, hclk, hfr, hfit, hheap, happ, hcalls, hrest, hpre⟩, hroom, hints⟩ := hst
  obtain ⟨n', o, hin', -, hend', hpost⟩ := hC l hfl hL hW p e had hcas hclk s m #[.ref b] below hfr hfit hheap happ ⟨hcalls, hrest, hpre⟩
  have hloose := ((Spec.applies_iff_loose hfr).mp happ).1
  obtain ⟨g1, g2, g3, g4, g5, g6, -, g8⟩ := (Spec.appliesLoose_iff hfr).mp hloose
  have hloose9 : (headSpec (Jvm.Cond.code x code maxLocals ret :: tables_1) R9).appliesLoose x e.platform s = true := (Spec.appliesLoose_iff hfr).mpr ⟨g1, g2, g3, g4, g5, g6, hroom, g8⟩
  obtain ⟨n, hin, hbig⟩ := falls_core l hfl b p e had hcas hclk s m #[.ref b] below hfr hloose9 ⟨rfl, hints, by simp, hpre⟩
  have hle : n ≤ n' := by
    rcases Nat.lt_or_ge n' n with h | h
    · exact absurd (hin n' h) hend'.not_within
    · exact h
  obtain ⟨d, rfl⟩ : ∃ d, n' = n + d := ⟨n' - n, by omega⟩
  have hgrow : (stepsAlone p.tables e n s).heap.size ≤ (stepsAlone p.tables e (n + d) s).heap.size := by
    rw [stepsAlone_add]
    exact stepsAlone_heap_le p.tables e d _
  obtain ⟨-, hbd, -⟩ := hpost
  obtain ⟨-, -, hsame⟩ := hbd
  have h3 : (stepsAlone p.tables e (n + d) s).heap.size ≤ s.heap.size + 143 := hsame.2.2.1
  omega
