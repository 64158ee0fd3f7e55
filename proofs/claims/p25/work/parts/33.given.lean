/-! What the Statement gives of the law's start, from its premises. -/
theorem ca_l {a b : Cond} {args : Array Value} {s : State} (h : (Cond.and a b).before args s = true) : a.before args s = true := by rw [Cond.before_and, Bool.and_eq_true] at h; exact h.1
theorem ca_r {a b : Cond} {args : Array Value} {s : State} (h : (Cond.and a b).before args s = true) : b.before args s = true := by rw [Cond.before_and, Bool.and_eq_true] at h; exact h.2
theorem ex_45 {args : Array Value} {s : State} (hgv : (Jvm.Cond.and given_1 narrow_1).before args s = true) : (Cond.exactly (Term.string RX3 45) "java/lang/String").before args s = true := (ca_r (ca_r (ca_r (ca_l (ca_r (ca_r (ca_r (ca_l (ca_l (ca_l (ca_r hgv)))))))))))
theorem ex_52 {args : Array Value} {s : State} (hgv : (Jvm.Cond.and given_1 narrow_1).before args s = true) : (Cond.exactly (Term.string RX3 52) "java/lang/String").before args s = true := (ca_l (ca_r (ca_l (ca_l (ca_r (ca_l (ca_l (ca_r (ca_l (ca_l (ca_r hgv)))))))))))
theorem ex_60 {args : Array Value} {s : State} (hgv : (Jvm.Cond.and given_1 narrow_1).before args s = true) : (Cond.exactly (Term.string RX3 60) "java/lang/String").before args s = true := (ca_r (ca_r (ca_l (ca_r (ca_r (ca_r (ca_l (ca_r (ca_l (ca_l (ca_r hgv)))))))))))
theorem ex_67 {args : Array Value} {s : State} (hgv : (Jvm.Cond.and given_1 narrow_1).before args s = true) : (Cond.exactly (Term.string RX3 67) "java/lang/String").before args s = true := (ca_l (ca_r (ca_l (ca_r (ca_r (ca_l (ca_r (ca_r (ca_l (ca_l (ca_r hgv)))))))))))
theorem ex_73 {args : Array Value} {s : State} (hgv : (Jvm.Cond.and given_1 narrow_1).before args s = true) : (Cond.exactly (Term.string RX3 73) "java/lang/String").before args s = true := (ca_r (ca_r (ca_r (ca_l (ca_r (ca_r (ca_r (ca_r (ca_l (ca_l (ca_r hgv)))))))))))
theorem ex_81 {args : Array Value} {s : State} (hgv : (Jvm.Cond.and given_1 narrow_1).before args s = true) : (Cond.exactly (Term.string RX3 81) "java/lang/String").before args s = true := (ca_l (ca_r (ca_l (ca_l (ca_r (ca_l (ca_l (ca_l (ca_r (ca_l (ca_r hgv)))))))))))
theorem ex_91 {args : Array Value} {s : State} (hgv : (Jvm.Cond.and given_1 narrow_1).before args s = true) : (Cond.exactly (Term.string RX3 91) "java/lang/String").before args s = true := (ca_r (ca_l (ca_l (ca_l (ca_r (ca_r (ca_l (ca_l (ca_r (ca_l (ca_r hgv)))))))))))
theorem ex_97 {args : Array Value} {s : State} (hgv : (Jvm.Cond.and given_1 narrow_1).before args s = true) : (Cond.exactly (Term.string RX3 97) "java/lang/String").before args s = true := (ca_l (ca_r (ca_r (ca_r (ca_l (ca_r (ca_r (ca_l (ca_r (ca_l (ca_r hgv)))))))))))
theorem ex_99 {args : Array Value} {s : State} (hgv : (Jvm.Cond.and given_1 narrow_1).before args s = true) : (Cond.exactly (Term.string RX3 99) "java/lang/String").before args s = true := (ca_r (ca_r (ca_r (ca_r (ca_r (ca_l (ca_l (ca_l (ca_r (ca_r (ca_l (ca_r hgv))))))))))))
theorem ex_105 {args : Array Value} {s : State} (hgv : (Jvm.Cond.and given_1 narrow_1).before args s = true) : (Cond.exactly (Term.string RX3 105) "java/lang/String").before args s = true := (ca_l (ca_l (ca_l (ca_r (ca_r (ca_r (ca_l (ca_r (ca_r (ca_l (ca_r hgv)))))))))))
theorem ex_110 {args : Array Value} {s : State} (hgv : (Jvm.Cond.and given_1 narrow_1).before args s = true) : (Cond.exactly (Term.string RX3 110) "java/lang/String").before args s = true := (ca_r (ca_l (ca_r (ca_l (ca_r (ca_l (ca_r (ca_r (ca_r (ca_l (ca_r hgv)))))))))))
theorem ex_112 {args : Array Value} {s : State} (hgv : (Jvm.Cond.and given_1 narrow_1).before args s = true) : (Cond.exactly (Term.string RX3 112) "java/lang/String").before args s = true := (ca_r (ca_r (ca_l (ca_l (ca_l (ca_l (ca_l (ca_l (ca_l (ca_r (ca_r hgv)))))))))))
theorem ex_121 {args : Array Value} {s : State} (hgv : (Jvm.Cond.and given_1 narrow_1).before args s = true) : (Cond.exactly (Term.string RX3 121) "java/lang/String").before args s = true := (ca_l (ca_r (ca_l (ca_l (ca_r (ca_l (ca_r (ca_l (ca_l (ca_r (ca_r hgv)))))))))))
theorem ex_130 {args : Array Value} {s : State} (hgv : (Jvm.Cond.and given_1 narrow_1).before args s = true) : (Cond.exactly (Term.string RX3 130) "java/lang/String").before args s = true := (ca_r (ca_l (ca_l (ca_r (ca_r (ca_r (ca_r (ca_l (ca_l (ca_r (ca_r hgv)))))))))))
theorem ex_139 {args : Array Value} {s : State} (hgv : (Jvm.Cond.and given_1 narrow_1).before args s = true) : (Cond.exactly (Term.string RX3 139) "java/lang/String").before args s = true := (ca_r (ca_l (ca_l (ca_r (ca_r (ca_r (ca_l (ca_r (ca_l (ca_r (ca_r hgv)))))))))))
theorem ex_144 {args : Array Value} {s : State} (hgv : (Jvm.Cond.and given_1 narrow_1).before args s = true) : (Cond.exactly (Term.string RX3 144) "java/lang/String").before args s = true := (ca_l (ca_r (ca_r (ca_l (ca_r (ca_l (ca_l (ca_l (ca_l (ca_l (ca_r hgv)))))))))))
theorem ex_149 {args : Array Value} {s : State} (hgv : (Jvm.Cond.and given_1 narrow_1).before args s = true) : (Cond.exactly (Term.string RX3 149) "java/lang/String").before args s = true := (ca_l (ca_l (ca_l (ca_r (ca_r (ca_r (ca_l (ca_l (ca_l (ca_l (ca_r hgv)))))))))))
theorem ex_161 {args : Array Value} {s : State} (hgv : (Jvm.Cond.and given_1 narrow_1).before args s = true) : (Cond.exactly (Term.string RX3 161) "java/lang/String").before args s = true := (ca_l (ca_r (ca_l (ca_l (ca_l (ca_r (ca_r (ca_r (ca_l (ca_r (ca_r hgv)))))))))))
theorem ex_189 {args : Array Value} {s : State} (hgv : (Jvm.Cond.and given_1 narrow_1).before args s = true) : (Cond.exactly (Term.string RX3 189) "java/lang/String").before args s = true := (ca_l (ca_l (ca_r (ca_r (ca_l (ca_l (ca_l (ca_l (ca_r (ca_r (ca_r hgv)))))))))))
theorem ex_218 {args : Array Value} {s : State} (hgv : (Jvm.Cond.and given_1 narrow_1).before args s = true) : (Cond.exactly (Term.string RX3 218) "java/lang/String").before args s = true := (ca_l (ca_l (ca_r (ca_l (ca_r (ca_r (ca_l (ca_l (ca_r (ca_r (ca_r hgv)))))))))))
theorem ex_236 {args : Array Value} {s : State} (hgv : (Jvm.Cond.and given_1 narrow_1).before args s = true) : (Cond.exactly (Term.string RX3 236) "java/lang/String").before args s = true := (ca_l (ca_r (ca_r (ca_r (ca_r (ca_l (ca_r (ca_l (ca_r (ca_r (ca_r hgv)))))))))))
theorem ex_238 {args : Array Value} {s : State} (hgv : (Jvm.Cond.and given_1 narrow_1).before args s = true) : (Cond.exactly (Term.string RX3 238) "java/lang/String").before args s = true := (ca_r (ca_l (ca_l (ca_l (ca_l (ca_l (ca_l (ca_r (ca_r (ca_r (ca_r hgv)))))))))))
theorem ex_250 {args : Array Value} {s : State} (hgv : (Jvm.Cond.and given_1 narrow_1).before args s = true) : (Cond.exactly (Term.string RX3 250) "java/lang/String").before args s = true := (ca_r (ca_l (ca_l (ca_l (ca_r (ca_r (ca_l (ca_r (ca_r (ca_r (ca_r hgv)))))))))))
theorem ex_258 {args : Array Value} {s : State} (hgv : (Jvm.Cond.and given_1 narrow_1).before args s = true) : (Cond.exactly (Term.string RX3 258) "java/lang/String").before args s = true := (ca_r (ca_r (ca_l (ca_r (ca_r (ca_l (ca_r (ca_r (ca_r (ca_r (ca_r hgv)))))))))))
theorem SL_in {args : Array Value} {s : State} (hts : ∀ w ∈ lw_tbl, w.before args s = true) (hgv : (Jvm.Cond.and given_1 narrow_1).before args s = true) : ∀ z ∈ SL, ∃ sa, vk_R RX3 z.1 z.2 sa s := by
  unfold SL
  refine List.forall_mem_cons.mpr ⟨st_R (hts _ sr_45) (ex_45 hgv), ?_⟩
  refine List.forall_mem_cons.mpr ⟨st_R (hts _ sr_52) (ex_52 hgv), ?_⟩
  refine List.forall_mem_cons.mpr ⟨st_R (hts _ sr_60) (ex_60 hgv), ?_⟩
  refine List.forall_mem_cons.mpr ⟨st_R (hts _ sr_67) (ex_67 hgv), ?_⟩
  refine List.forall_mem_cons.mpr ⟨st_R (hts _ sr_73) (ex_73 hgv), ?_⟩
  refine List.forall_mem_cons.mpr ⟨st_R (hts _ sr_81) (ex_81 hgv), ?_⟩
  refine List.forall_mem_cons.mpr ⟨st_R (hts _ sr_91) (ex_91 hgv), ?_⟩
  refine List.forall_mem_cons.mpr ⟨st_R (hts _ sr_97) (ex_97 hgv), ?_⟩
  refine List.forall_mem_cons.mpr ⟨st_R (hts _ sr_99) (ex_99 hgv), ?_⟩
  refine List.forall_mem_cons.mpr ⟨st_R (hts _ sr_105) (ex_105 hgv), ?_⟩
  refine List.forall_mem_cons.mpr ⟨st_R (hts _ sr_110) (ex_110 hgv), ?_⟩
  refine List.forall_mem_cons.mpr ⟨st_R (hts _ sr_112) (ex_112 hgv), ?_⟩
  refine List.forall_mem_cons.mpr ⟨st_R (hts _ sr_121) (ex_121 hgv), ?_⟩
  refine List.forall_mem_cons.mpr ⟨st_R (hts _ sr_130) (ex_130 hgv), ?_⟩
  refine List.forall_mem_cons.mpr ⟨st_R (hts _ sr_139) (ex_139 hgv), ?_⟩
  refine List.forall_mem_cons.mpr ⟨st_R (hts _ sr_144) (ex_144 hgv), ?_⟩
  refine List.forall_mem_cons.mpr ⟨st_R (hts _ sr_149) (ex_149 hgv), ?_⟩
  refine List.forall_mem_cons.mpr ⟨st_R (hts _ sr_161) (ex_161 hgv), ?_⟩
  refine List.forall_mem_cons.mpr ⟨st_R (hts _ sr_189) (ex_189 hgv), ?_⟩
  refine List.forall_mem_cons.mpr ⟨st_R (hts _ sr_218) (ex_218 hgv), ?_⟩
  refine List.forall_mem_cons.mpr ⟨st_R (hts _ sr_236) (ex_236 hgv), ?_⟩
  refine List.forall_mem_cons.mpr ⟨st_R (hts _ sr_238) (ex_238 hgv), ?_⟩
  refine List.forall_mem_cons.mpr ⟨st_R (hts _ sr_250) (ex_250 hgv), ?_⟩
  refine List.forall_mem_cons.mpr ⟨st_R (hts _ sr_258) (ex_258 hgv), ?_⟩
  exact fun _ h => absurd h List.not_mem_nil
theorem nc_12 {args : Array Value} {s : State} (hgv : (Jvm.Cond.and given_1 narrow_1).before args s = true) : va_Nc "java/lang/IndexOutOfBoundsException" "java/lang/IllegalArgumentException" s := va_Nc.of (args := args) (ca_r (ca_r (ca_r (ca_r (ca_l (ca_l (ca_l (ca_l (ca_l (ca_l (ca_r hgv)))))))))))
theorem nc_13 {args : Array Value} {s : State} (hgv : (Jvm.Cond.and given_1 narrow_1).before args s = true) : va_Nc "java/lang/IndexOutOfBoundsException" "java/lang/IllegalStateException" s := va_Nc.of (args := args) (ca_r (ca_l (ca_r (ca_l (ca_r (ca_l (ca_l (ca_l (ca_l (ca_l (ca_r hgv)))))))))))
theorem nc_21 {args : Array Value} {s : State} (hgv : (Jvm.Cond.and given_1 narrow_1).before args s = true) : va_Nc "java/lang/IllegalArgumentException" "java/lang/IndexOutOfBoundsException" s := va_Nc.of (args := args) (ca_l (ca_l (ca_l (ca_r (ca_l (ca_l (ca_l (ca_l (ca_l (ca_l (ca_r hgv)))))))))))
theorem nc_23 {args : Array Value} {s : State} (hgv : (Jvm.Cond.and given_1 narrow_1).before args s = true) : va_Nc "java/lang/IllegalArgumentException" "java/lang/IllegalStateException" s := va_Nc.of (args := args) (ca_l (ca_l (ca_r (ca_l (ca_r (ca_l (ca_l (ca_l (ca_l (ca_l (ca_r hgv)))))))))))
theorem nc_31 {args : Array Value} {s : State} (hgv : (Jvm.Cond.and given_1 narrow_1).before args s = true) : va_Nc "java/lang/IllegalStateException" "java/lang/IndexOutOfBoundsException" s := va_Nc.of (args := args) (ca_r (ca_l (ca_l (ca_r (ca_l (ca_l (ca_l (ca_l (ca_l (ca_l (ca_r hgv)))))))))))
theorem nc_32 {args : Array Value} {s : State} (hgv : (Jvm.Cond.and given_1 narrow_1).before args s = true) : va_Nc "java/lang/IllegalStateException" "java/lang/IllegalArgumentException" s := va_Nc.of (args := args) (ca_l (ca_r (ca_r (ca_r (ca_l (ca_l (ca_l (ca_l (ca_l (ca_l (ca_r hgv)))))))))))
theorem NCL_in {args : Array Value} {s : State} (hgv : (Jvm.Cond.and given_1 narrow_1).before args s = true) : ∀ z ∈ NCL, va_Nc (excName z.1) (excName z.2) s := by
  unfold NCL
  refine List.forall_mem_cons.mpr ⟨nc_12 hgv, ?_⟩
  refine List.forall_mem_cons.mpr ⟨nc_13 hgv, ?_⟩
  refine List.forall_mem_cons.mpr ⟨nc_21 hgv, ?_⟩
  refine List.forall_mem_cons.mpr ⟨nc_23 hgv, ?_⟩
  refine List.forall_mem_cons.mpr ⟨nc_31 hgv, ?_⟩
  refine List.forall_mem_cons.mpr ⟨nc_32 hgv, ?_⟩
  exact fun _ h => absurd h List.not_mem_nil
theorem sx_of {args : Array Value} {s : State} (hts : ∀ w ∈ lw_tbl, w.before args s = true) (hgv : (Jvm.Cond.and given_1 narrow_1).before args s = true) : SX s :=
  ⟨fun w hw => va_Nw.of (XB_tab w hw) (hts w (XB_in w hw)), SL_in hts hgv, NCL_in hgv⟩
theorem z_r1 {args : Array Value} {s : State} (hgv : (Jvm.Cond.and given_1 narrow_1).before args s = true) : (Cond.isRef (.static Bundle.tN "UNASSIGNED_STACK" Bundle.steD)).before args s = true := (ca_l (ca_r (ca_l (ca_l (ca_l (ca_l (ca_l (ca_l (ca_l (ca_l (ca_r hgv)))))))))))
theorem z_r2 {args : Array Value} {s : State} (hgv : (Jvm.Cond.and given_1 narrow_1).before args s = true) : (Cond.isRef (.static Bundle.tN "SUPPRESSED_SENTINEL" Bundle.listD)).before args s = true := (ca_r (ca_r (ca_l (ca_l (ca_l (ca_l (ca_l (ca_l (ca_l (ca_l (ca_r hgv)))))))))))
theorem sz_of {args : Array Value} {s : State} (hts : ∀ w ∈ lw_tbl, w.before args s = true) (hgv : (Jvm.Cond.and given_1 narrow_1).before args s = true) : SZ (fun a : Nat => s.heap.size ≤ a) s s.heap := by
  exact ⟨vx_Zqof (hts _ z_l1) (hts _ z_i) (z_r1 hgv) (fun a ha => Nat.not_le.mpr ha), vx_Zqof (hts _ z_l2) (hts _ z_i) (z_r2 hgv) (fun a ha => Nat.not_le.mpr ha)⟩
theorem in_0 : Cond.instantiable RX0 5 ∈ ALL := ALL_i (List.mem_append_right _ (List.mem_append_left _ (List.mem_of_getElem? (i := 23) (by decide +kernel)))) (by decide +kernel)
theorem in_1 : Cond.instantiable RX1 7 ∈ ALL := ALL_i (List.mem_append_right _ (List.mem_append_left _ (List.mem_of_getElem? (i := 114) (by decide +kernel)))) (by decide +kernel)
theorem in_2 : Cond.instantiable RX2 15 ∈ ALL := ALL_i (List.mem_append_right _ (List.mem_append_left _ (List.mem_of_getElem? (i := 49) (by decide +kernel)))) (by decide +kernel)
theorem in_3 : Cond.instantiable RX3 8 ∈ ALL := ALL_i (List.mem_append_right _ (List.mem_append_left _ (List.mem_of_getElem? (i := 15) (by decide +kernel)))) (by decide +kernel)
theorem kn_all {args : Array Value} {s : State} (hts : ∀ w ∈ ALL, w.before args s = true) : ∃ D : va_G, ∀ (k : Nat) (z : vw_C), vwCl[k]? = some z → u_Kn s z.1 z.2.1 z.2.2 (D.1 k) (D.2 k) := by
  obtain ⟨c0, i0, k0⟩ := u_known (C := RX0) (T := TX0) (N := 5) (n := 5) hts inlX0 (hts _ in_0)
  obtain ⟨c1, i1, k1⟩ := u_known (C := RX1) (T := TX1) (N := 7) (n := 7) hts inlX1 (hts _ in_1)
  obtain ⟨c2, i2, k2⟩ := u_known (C := RX2) (T := TX2) (N := 15) (n := 15) hts inlX2 (hts _ in_2)
  obtain ⟨c3, i3, k3⟩ := u_known (C := RX3) (T := TX3) (N := 8) (n := 8) hts inlX3 (hts _ in_3)
  refine ⟨(fun k => if k = 0 then c0 else if k = 1 then c1 else if k = 2 then c2 else c3, fun k => if k = 0 then i0 else if k = 1 then i1 else if k = 2 then i2 else i3), ?_⟩
  intro k z hz
  match k, hz with
  | 0, hz => cases hz; exact k0
  | 1, hz => cases hz; exact k1
  | 2, hz => cases hz; exact k2
  | 3, hz => cases hz; exact k3
  | k + 4, hz => simp at hz
theorem ac_0 : Cond.arrayClass .int ∈ ALL := ALL_i (List.mem_append_right _ (List.mem_append_left _ (List.mem_of_getElem? (i := 47) (by decide +kernel)))) (by decide +kernel)
theorem ar_of {args : Array Value} {s : State} {ty : FieldType} (h : (Cond.arrayClass ty).before args s = true) : ∃ cA : ClassId, s.vm.findClass ("[" ++ ty.toString) = some cA ∧ ArrOfT s cA ty := by
  obtain ⟨cA, kA, comp, h1, h2, h3⟩ := Cond.arrayClass_spec h
  exact ⟨cA, h1, fun n z => ⟨fun k h => (by cases h), kA, h2, comp, h3⟩⟩
theorem ty_all {args : Array Value} {s : State} (hts : ∀ w ∈ ALL, w.before args s = true) : ∃ q : Nat → ClassId, ∀ (k : Nat) (z : ClassId × FieldType), (TY q)[k]? = some z → ArrOfT s z.1 z.2 ∧ va_RA s z.1 z.2 := by
  obtain ⟨q0, a0, b0⟩ := ar_of (hts _ ac_0)
  refine ⟨fun _ => q0, ?_⟩
  intro k z hz
  match k, hz with
  | 0, hz => cases hz; exact ⟨b0, a0⟩
  | k + 1, hz => simp at hz
theorem cl_9 : Cond.classLink RL 9 RX3 ∈ ALL := ALL_i (List.mem_append_right _ (List.mem_append_left _ (List.mem_of_getElem? (i := 14) (by decide +kernel)))) (by decide +kernel)
theorem ml_153 : Cond.methodLink RL 153 yX3_init ∈ ALL := ALL_i (List.mem_append_right _ (List.mem_append_left _ (List.mem_of_getElem? (i := 16) (by decide +kernel)))) (by decide +kernel)
theorem im_3 : Cond.instanceMethod yX3_init ∈ ALL := ALL_i (List.mem_append_right _ (List.mem_append_left _ (List.mem_of_getElem? (i := 17) (by decide +kernel)))) (by decide +kernel)
theorem cd_3 : Cond.code yX3_init cX3_init 1 none ∈ ALL := ALL_i (List.mem_append_right _ (List.mem_append_left _ (List.mem_of_getElem? (i := 18) (by decide +kernel)))) (by decide +kernel)
theorem lk_L_153 : LKI RL 153 yX3_init cX3_init 1 0 := ⟨ml_153, rfl, im_3, ⟨mm_6, cd_3, by decide +kernel, by decide +kernel, by decide +kernel⟩⟩
