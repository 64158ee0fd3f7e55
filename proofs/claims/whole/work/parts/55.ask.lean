/-! Stops, and what is asked. -/
def one0 (z : Int32) : Int32 := if z = 0 then 0 else 1
def SF (G : MS) (p0 p1 : Int32) : Nat → Int32 := upd (M_stops ((f_X4_goesWell G (if (f_X4_in p0 (0 : Int32) (5 : Int32)) = 0 then (1 : Int32) else (0 : Int32))).2)) p0.toNatClampNeg (vp_nar .boolean p1)
theorem l35_step (G : MS) (p0 p1 : Int32) (n : Nat) {i j : Int32} (k : Nat) (a : Int32) (h6 : ¬ (6 : Int32) ≤ i) (hj : i + 1 = j) (hk : i.toNatClampNeg = k) (hv : vp_in i 6) :
    f_X4_stop_L35 G p0 p1 (n + 1) i a = f_X4_stop_L35 G p0 p1 n j (a + one0 (SF G p0 p1 k)) ∧ (ok_X4_stop_L35 G p0 p1 n j (a + one0 (SF G p0 p1 k)) → ok_X4_stop_L35 G p0 p1 (n + 1) i a) := by
  subst hj hk
  have e : f_X4_stop_L35 G p0 p1 (n + 1) i a = if (6 : Int32) ≤ i then a else (if SF G p0 p1 i.toNatClampNeg = 0 then f_X4_stop_L35 G p0 p1 n (i + 1) (a + 0) else f_X4_stop_L35 G p0 p1 n (i + 1) (a + 1)) := rfl
  have eo : ok_X4_stop_L35 G p0 p1 (n + 1) i a = (((6 : Int32) ≤ i → True) ∧ (¬ (6 : Int32) ≤ i → ((vp_in i 6) ∧ ((SF G p0 p1 i.toNatClampNeg = 0 → ok_X4_stop_L35 G p0 p1 n (i + 1) (a + 0)) ∧ (¬ SF G p0 p1 i.toNatClampNeg = 0 → ok_X4_stop_L35 G p0 p1 n (i + 1) (a + 1)))))) := rfl
  rw [e, eo, if_neg h6]
  unfold one0
  by_cases d : SF G p0 p1 i.toNatClampNeg = 0
  · rw [if_pos d, if_pos d]
    exact ⟨rfl, fun h => ⟨fun h2 => absurd h2 h6, fun _ => ⟨hv, fun _ => h, fun h2 => absurd d h2⟩⟩⟩
  · rw [if_neg d, if_neg d]
    exact ⟨rfl, fun h => ⟨fun h2 => absurd h2 h6, fun _ => ⟨hv, fun h2 => absurd h2 d, fun _ => h⟩⟩⟩
theorem cnt_all : ∀ b0 b1 b2 b3 b4 b5 : Bool, 0 + one0 (bi b0) + one0 (bi b1) + one0 (bi b2) + one0 (bi b3) + one0 (bi b4) + one0 (bi b5) = f_J6_bitCount_0f7a4 (st6 b0 b1 b2 b3 b4 b5) := by decide +kernel
theorem stops_count {G : MS} {p0 p1 s : Int32} {N : Nat} (hN : 60 < N) (hS : RelS s (SF G p0 p1)) : f_X4_stop_L35 G p0 p1 N 0 0 = f_J6_bitCount_0f7a4 s ∧ ok_X4_stop_L35 G p0 p1 N 0 0 := by
  obtain ⟨n, rfl⟩ : ∃ n, N = n + 7 := ⟨N - 7, by omega⟩
  obtain ⟨b0, b1, b2, b3, b4, b5, hs, f0, f1, f2, f3, f4, f5⟩ := hS
  obtain ⟨v0, v1, v2, v3, v4, v5⟩ := vi6
  have s0 := l35_step G p0 p1 (n + 6) (i := 0) (j := 1) 0 0 (by decide) (by decide) (by decide) v0
  have s1 := fun a => l35_step G p0 p1 (n + 5) (i := 1) (j := 2) 1 a (by decide) (by decide) (by decide) v1
  have s2 := fun a => l35_step G p0 p1 (n + 4) (i := 2) (j := 3) 2 a (by decide) (by decide) (by decide) v2
  have s3 := fun a => l35_step G p0 p1 (n + 3) (i := 3) (j := 4) 3 a (by decide) (by decide) (by decide) v3
  have s4 := fun a => l35_step G p0 p1 (n + 2) (i := 4) (j := 5) 4 a (by decide) (by decide) (by decide) v4
  have s5 := fun a => l35_step G p0 p1 (n + 1) (i := 5) (j := 6) 5 a (by decide) (by decide) (by decide) v5
  have s6 : ∀ a : Int32, f_X4_stop_L35 G p0 p1 (n + 1) 6 a = a := fun a => if_pos (by decide)
  have o6 : ∀ a : Int32, ok_X4_stop_L35 G p0 p1 (n + 1) 6 a := fun a => ⟨fun _ => trivial, fun h => absurd (by decide) h⟩
  refine ⟨?_, s0.2 ((s1 _).2 ((s2 _).2 ((s3 _).2 ((s4 _).2 ((s5 _).2 (o6 _))))))⟩
  rw [s0.1, (s1 _).1, (s2 _).1, (s3 _).1, (s4 _).1, (s5 _).1, s6, f0, f1, f2, f3, f4, f5, hs]
  exact cnt_all _ _ _ _ _ _
def stB (s p v : Int32) : Int32 := if v = 0 then s &&& (((1 : Int32) <<< (p &&& 31)) ^^^ (-1 : Int32)) else s ||| ((1 : Int32) <<< (p &&& 31))
theorem stB0 : ∀ b0 b1 b2 b3 b4 b5 : Bool, stB (st6 b0 b1 b2 b3 b4 b5) 0 0 = st6 false b1 b2 b3 b4 b5 ∧ stB (st6 b0 b1 b2 b3 b4 b5) 0 1 = st6 true b1 b2 b3 b4 b5 := by decide +kernel
theorem stB1 : ∀ b0 b1 b2 b3 b4 b5 : Bool, stB (st6 b0 b1 b2 b3 b4 b5) 1 0 = st6 b0 false b2 b3 b4 b5 ∧ stB (st6 b0 b1 b2 b3 b4 b5) 1 1 = st6 b0 true b2 b3 b4 b5 := by decide +kernel
theorem stB2 : ∀ b0 b1 b2 b3 b4 b5 : Bool, stB (st6 b0 b1 b2 b3 b4 b5) 2 0 = st6 b0 b1 false b3 b4 b5 ∧ stB (st6 b0 b1 b2 b3 b4 b5) 2 1 = st6 b0 b1 true b3 b4 b5 := by decide +kernel
theorem stB3 : ∀ b0 b1 b2 b3 b4 b5 : Bool, stB (st6 b0 b1 b2 b3 b4 b5) 3 0 = st6 b0 b1 b2 false b4 b5 ∧ stB (st6 b0 b1 b2 b3 b4 b5) 3 1 = st6 b0 b1 b2 true b4 b5 := by decide +kernel
theorem stB4 : ∀ b0 b1 b2 b3 b4 b5 : Bool, stB (st6 b0 b1 b2 b3 b4 b5) 4 0 = st6 b0 b1 b2 b3 false b5 ∧ stB (st6 b0 b1 b2 b3 b4 b5) 4 1 = st6 b0 b1 b2 b3 true b5 := by decide +kernel
theorem stB5 : ∀ b0 b1 b2 b3 b4 b5 : Bool, stB (st6 b0 b1 b2 b3 b4 b5) 5 0 = st6 b0 b1 b2 b3 b4 false ∧ stB (st6 b0 b1 b2 b3 b4 b5) 5 1 = st6 b0 b1 b2 b3 b4 true := by decide +kernel
theorem relS_set {s p v : Int32} {f : Nat → Int32} (hS : RelS s f) (h0 : 0 ≤ p.toInt) (h1 : p.toInt ≤ 5) (hv : bz v) : RelS (stB s p v) (upd f p.toNatClampNeg v) := by
  obtain ⟨b0, b1, b2, b3, b4, b5, hs, f0, f1, f2, f3, f4, f5⟩ := hS
  have hp : p = 0 ∨ p = 1 ∨ p = 2 ∨ p = 3 ∨ p = 4 ∨ p = 5 := by
    have e0 : (0 : Int32).toInt = 0 := rfl
    have e1 : (1 : Int32).toInt = 1 := rfl
    have e2 : (2 : Int32).toInt = 2 := rfl
    have e3 : (3 : Int32).toInt = 3 := rfl
    have e4 : (4 : Int32).toInt = 4 := rfl
    have e5 : (5 : Int32).toInt = 5 := rfl
    simp -implicitDefEqProofs only [i_eq, e0, e1, e2, e3, e4, e5]; omega
  subst hs
  rcases hp with h | h | h | h | h | h <;> subst h <;> rcases hv with h | h <;> subst h
  · exact ⟨false, b1, b2, b3, b4, b5, (stB0 _ _ _ _ _ _).1, rfl, f1, f2, f3, f4, f5⟩
  · exact ⟨true, b1, b2, b3, b4, b5, (stB0 _ _ _ _ _ _).2, rfl, f1, f2, f3, f4, f5⟩
  · exact ⟨b0, false, b2, b3, b4, b5, (stB1 _ _ _ _ _ _).1, f0, rfl, f2, f3, f4, f5⟩
  · exact ⟨b0, true, b2, b3, b4, b5, (stB1 _ _ _ _ _ _).2, f0, rfl, f2, f3, f4, f5⟩
  · exact ⟨b0, b1, false, b3, b4, b5, (stB2 _ _ _ _ _ _).1, f0, f1, rfl, f3, f4, f5⟩
  · exact ⟨b0, b1, true, b3, b4, b5, (stB2 _ _ _ _ _ _).2, f0, f1, rfl, f3, f4, f5⟩
  · exact ⟨b0, b1, b2, false, b4, b5, (stB3 _ _ _ _ _ _).1, f0, f1, f2, rfl, f4, f5⟩
  · exact ⟨b0, b1, b2, true, b4, b5, (stB3 _ _ _ _ _ _).2, f0, f1, f2, rfl, f4, f5⟩
  · exact ⟨b0, b1, b2, b3, false, b5, (stB4 _ _ _ _ _ _).1, f0, f1, f2, f3, rfl, f5⟩
  · exact ⟨b0, b1, b2, b3, true, b5, (stB4 _ _ _ _ _ _).2, f0, f1, f2, f3, rfl, f5⟩
  · exact ⟨b0, b1, b2, b3, b4, false, (stB5 _ _ _ _ _ _).1, f0, f1, f2, f3, f4, rfl⟩
  · exact ⟨b0, b1, b2, b3, b4, true, (stB5 _ _ _ _ _ _).2, f0, f1, f2, f3, f4, rfl⟩
theorem thr_sts (g : MS) (f : Nat → Int32) : M_thrown (M_set_stops g f) = M_thrown g := rfl
theorem op_stop {x : XS} {w : WS} {r : RS} {t : TS} {G : MS} {N : Nat} (hN : 4000 < N) (h : Rel x w r t G) (p v : Int32) (hv : bz v) : ok_X4_stop N G p v ∧
    ((∃ (x' : XS) (val : Int32) (G' : MS), f_X3_stop x p v = (0, val, x') ∧ f_X4_stop N G p v = (val, G') ∧ f_X4_thrown G' = 0 ∧ Rel x' w r t G') ∨
    (f_X3_stop x p v = (1, 0, x) ∧ f_X4_stop N G p v = (0, M_set_thrown G 1))) := by
  obtain ⟨ba, g, rfl, hI, hG⟩ := h
  by_cases c : f_X4_in p 0 5 = 0
  · unfold f_X3_stop f_X4_stop ok_X4_stop
    exact ⟨by simp -implicitDefEqProofs only [c, if_true, if_false, true_implies, false_implies, not_true_eq_false, not_false_eq_true, and_true, true_and, gw0, gw1, gw2, gw3, gwd, h10, h20, h30, eq_self, ite_self, implies_true, wi_eq], Or.inr ⟨by simp -implicitDefEqProofs only [c, if_true, if_false, true_implies, false_implies, not_true_eq_false, not_false_eq_true, and_true, true_and, gw0, gw1, gw2, gw3, gwd, h10, h20, h30, eq_self, ite_self, implies_true, wi_eq], by simp -implicitDefEqProofs only [c, if_true, if_false, true_implies, false_implies, not_true_eq_false, not_false_eq_true, and_true, true_and, gw0, gw1, gw2, gw3, gwd, h10, h20, h30, eq_self, ite_self, implies_true, wi_eq]⟩⟩
  · obtain ⟨a0, a1⟩ : 0 ≤ p.toInt ∧ p.toInt ≤ 5 := in_no c
    have hvi : vp_in p 6 := vin a0 (by omega)
    obtain ⟨-, -, -, -, -, hS, -⟩ := id hG
    have hSF : SF (put w ba g) p v = upd (M_stops g) p.toNatClampNeg v := by
      unfold SF
      rw [gwd, nar_b hv]; rfl
    have hS2 : RelS (stB (X_stops x) p v) (SF (put w ba g) p v) := by rw [hSF]; exact relS_set hS a0 a1 hv
    obtain ⟨n1, n2⟩ := stops_count (N := N) (by omega) hS2
    have hs3 : upd (M_stops (put w ba (M_set_thrown g 0))) p.toNatClampNeg (vp_nar .boolean v) = upd (M_stops g) p.toNatClampNeg v := by rw [nar_b hv]; rfl
    unfold f_X3_stop f_X4_stop ok_X4_stop
    refine ⟨by simp -implicitDefEqProofs only [c, hvi, n2, if_true, if_false, true_implies, false_implies, not_true_eq_false, not_false_eq_true, and_true, true_and, gw0, gw1, gw2, gw3, gwd, h10, h20, h30, eq_self, ite_self, implies_true, wi_eq], Or.inl ⟨X_set_stops x (stB (X_stops x) p v), f_J6_bitCount_0f7a4 (stB (X_stops x) p v), put w ba (M_set_stops (M_set_thrown g 0) (upd (M_stops g) p.toNatClampNeg v)), ?_, ?_, by rw [thr_put, thr_sts, thr_th], ba, _, rfl, hI, rg_st (rg_thr 0 hG) ?_⟩⟩
    · rw [wi_eq, if_neg c]; rfl
    · rw [if_neg c, gw0, if_neg (show ¬ ((1 : Int32), M_set_thrown (put w ba g) 0).1 = 0 from (by decide : ¬ (1 : Int32) = 0)), n1]
      show (_, M_set_stops (M_set_thrown (put w ba g) 0) (upd (M_stops (M_set_thrown (put w ba g) 0)) p.toNatClampNeg (vp_nar .boolean v))) = _
      rw [M_set_thrown_put, hs3, M_set_stops_put]
    · rw [← hSF]; exact hS2
theorem op_pressure {x : XS} {w : WS} {r : RS} {t : TS} {G : MS} (h : Rel x w r t G) (p : Int32) : ok_X4_pressure G p ∧
    ((∃ val : Int32, f_X3_pressure w r p = (0, val) ∧ f_X4_pressure G p = (val, M_set_thrown G 0)) ∨
    (f_X3_pressure w r p = (2, 0) ∧ f_X4_pressure G p = (0, M_set_thrown G 1))) := by
  obtain ⟨ba, g, rfl, hI, hG⟩ := h
  obtain ⟨hIR, hR, -⟩ := id hG
  have hd := hI.1
  have hs := hI.2.1
  have e0l : (0 : Int64).toInt = 0 := rfl
  have hR0 : RelR r (M_set_thrown g 0) := hR
  obtain ⟨pe, po, -⟩ := pore_eq hR0 hIR hd.1 hd.2
  have pp : f_X4_poreAt (put w ba (M_set_thrown g 0)) (W_depth w) = f_X0_poreAt r (W_depth w) := by rw [pe]; rfl
  obtain ⟨be, bo⟩ := break_eq (d := W_shoe w) hR0 hs.1 (by omega)
  have bb : f_X4_breakAt (put w ba (M_set_thrown g 0)) (W_shoe w) = f_X0_breakAt r (W_shoe w) := by rw [be]; rfl
  have hbot : f_X4_bottom (put w ba (M_set_thrown g 0)) = f_X2_bottom w := bottom_eq hI
  have hfoot : f_X4_foot (put w ba (M_set_thrown g 0)) = f_X2_foot w := foot_eq ba _ hI
  have hgp : f_X4_gasPressure (put w ba (M_set_thrown g 0)) = f_X2_gasPressure w := gp_eq w ba _
  unfold f_X3_pressure f_X4_pressure ok_X4_pressure
  by_cases c : f_X4_in p 0 5 = 0
  · have hc := in_eq c
    have n : ∀ k : Int32, 0 ≤ k.toInt → k.toInt ≤ 5 → ¬ p = k := fun k k0 k1 h => by
      have e0 : (0 : Int32).toInt = 0 := rfl
      have e5 : (5 : Int32).toInt = 5 := rfl
      rw [h, e0, e5] at hc; omega
    exact ⟨by simp -implicitDefEqProofs only [c, if_true, if_false, true_implies, false_implies, not_true_eq_false, not_false_eq_true, and_true, true_and, gw0, gw1, gw2, gw3, gwd, h10, h20, h30, eq_self, ite_self, implies_true, wi_eq], Or.inr ⟨by rw [if_neg (n 0 (by decide) (by decide)), if_neg (n 1 (by decide) (by decide)), if_neg (n 2 (by decide) (by decide)), if_neg (n 3 (by decide) (by decide)), if_neg (n 4 (by decide) (by decide)), if_neg (n 5 (by decide) (by decide))], by simp -implicitDefEqProofs only [c, if_true, if_false, true_implies, false_implies, not_true_eq_false, not_false_eq_true, and_true, true_and, gw0, gw1, gw2, gw3, gwd, h10, h20, h30, eq_self, ite_self, implies_true, wi_eq]⟩⟩
  · obtain ⟨a0, a1⟩ : 0 ≤ p.toInt ∧ p.toInt ≤ 5 := in_no c
    refine ⟨by simp -implicitDefEqProofs only [c, po, bo, if_true, if_false, true_implies, false_implies, not_true_eq_false, not_false_eq_true, and_true, true_and, gw0, gw1, gw2, gw3, gwd, h10, h20, h30, eq_self, ite_self, implies_true, wi_eq, M_thrown_put, M_pore_put, M_breaks_put, M_rate_put, M_bearsGas_put, M_depth_put, M_shoe_put, M_weight_put, M_isClosed_put, M_choke_put, M_charge_put, M_place_put, M_gas_put, M_liquid_put, M_minutes_put, M_vented_put, M_lost_put, M_pumped_put, M_pumpedWeight_put, M_valve_put, M_brokenAfter_put, M_cement_put, M_casedAfter_put, M_flowed_put, M_kept_put, M_tests_put, M_tested_put, M_by_put, M_isPassed_put, M_testedAt_put, M_stops_put, M_set_thrown_put, M_set_pore_put, M_set_breaks_put, M_set_rate_put, M_set_bearsGas_put, M_set_depth_put, M_set_shoe_put, M_set_weight_put, M_set_isClosed_put, M_set_choke_put, M_set_charge_put, M_set_place_put, M_set_gas_put, M_set_liquid_put, M_set_minutes_put, M_set_vented_put, M_set_lost_put, M_set_pumped_put, M_set_pumpedWeight_put, M_set_valve_put, M_set_brokenAfter_put, M_set_cement_put, M_set_casedAfter_put, M_set_flowed_put, M_set_kept_put, M_set_tests_put, M_set_tested_put, M_set_by_put, M_set_isPassed_put, M_set_testedAt_put, M_set_stops_put], Or.inl ?_⟩
    simp -implicitDefEqProofs only [c, hbot, pp, hfoot, bb, hgp, if_true, if_false, true_implies, false_implies, not_true_eq_false, not_false_eq_true, and_true, true_and, gw0, gw1, gw2, gw3, gwd, h10, h20, h30, eq_self, ite_self, implies_true, wi_eq, M_thrown_put, M_pore_put, M_breaks_put, M_rate_put, M_bearsGas_put, M_depth_put, M_shoe_put, M_weight_put, M_isClosed_put, M_choke_put, M_charge_put, M_place_put, M_gas_put, M_liquid_put, M_minutes_put, M_vented_put, M_lost_put, M_pumped_put, M_pumpedWeight_put, M_valve_put, M_brokenAfter_put, M_cement_put, M_casedAfter_put, M_flowed_put, M_kept_put, M_tests_put, M_tested_put, M_by_put, M_isPassed_put, M_testedAt_put, M_stops_put, M_set_thrown_put, M_set_pore_put, M_set_breaks_put, M_set_rate_put, M_set_bearsGas_put, M_set_depth_put, M_set_shoe_put, M_set_weight_put, M_set_isClosed_put, M_set_choke_put, M_set_charge_put, M_set_place_put, M_set_gas_put, M_set_liquid_put, M_set_minutes_put, M_set_vented_put, M_set_lost_put, M_set_pumped_put, M_set_pumpedWeight_put, M_set_valve_put, M_set_brokenAfter_put, M_set_cement_put, M_set_casedAfter_put, M_set_flowed_put, M_set_kept_put, M_set_tests_put, M_set_tested_put, M_set_by_put, M_set_isPassed_put, M_set_testedAt_put, M_set_stops_put]
    by_cases q0 : p = 0
    · rw [if_pos q0, if_pos q0]; exact ⟨_, rfl, rfl⟩
    rw [if_neg q0, if_neg q0]
    by_cases q1 : p = 1
    · rw [if_pos q1, if_pos q1]; exact ⟨_, rfl, rfl⟩
    rw [if_neg q1, if_neg q1]
    by_cases q2 : p = 2
    · rw [if_pos q2, if_pos q2]; exact ⟨_, rfl, rfl⟩
    rw [if_neg q2, if_neg q2]
    by_cases q3 : p = 3
    · rw [if_pos q3, if_pos q3]; exact ⟨_, rfl, rfl⟩
    rw [if_neg q3, if_neg q3]
    by_cases q4 : p = 4
    · rw [if_pos q4, if_pos q4]; exact ⟨_, rfl, rfl⟩
    rw [if_neg q4, if_neg q4]
    have q5 : p = 5 := by
      have e0 : (0 : Int32).toInt = 0 := rfl
      have e1 : (1 : Int32).toInt = 1 := rfl
      have e2 : (2 : Int32).toInt = 2 := rfl
      have e3 : (3 : Int32).toInt = 3 := rfl
      have e4 : (4 : Int32).toInt = 4 := rfl
      have e5 : (5 : Int32).toInt = 5 := rfl
      simp -implicitDefEqProofs only [i_eq, e0, e1, e2, e3, e4] at q0 q1 q2 q3 q4
      rw [i_eq, e5]; omega
    rw [if_pos q5]
    by_cases k : f_X2_hasGas w = 0
    · have km : lg_cmp (W_charge w) 0 ≤ 0 := (cmp_le0 _ _).mpr (by rw [e0l]; exact (hasGas_iff w).mp k)
      rw [if_pos k, if_pos km]; exact ⟨_, rfl, rfl⟩
    · have km : ¬ lg_cmp (W_charge w) 0 ≤ 0 := fun h => k ((hasGas_iff w).mpr (by have h2 := (cmp_le0 _ _).mp h; rw [e0l] at h2; exact h2))
      rw [if_neg k, if_neg km]; exact ⟨_, rfl, rfl⟩
