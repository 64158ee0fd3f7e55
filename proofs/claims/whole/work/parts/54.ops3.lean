/-! Tests and stops. -/
theorem keep_eq (t : TS) (p0 p1 p2 p3 : Int32) (h0 : 0 ≤ (T_count t).toInt) (h1 : (T_count t).toInt < 60) (h2 : bz p2) (L : TS) (hL : f_X1_keep t p0 p1 p2 p3 = L) :
    T_whats L = upd (T_whats t) (T_count t).toNatClampNeg p0 ∧ T_pressures L = upd (T_pressures t) (T_count t).toNatClampNeg p1 ∧ T_passes L = upd (T_passes t) (T_count t).toNatClampNeg p2 ∧ T_minutes L = upd (T_minutes t) (T_count t).toNatClampNeg p3 ∧
    T_count L = T_count t + 1 ∧ T_latestOfValve L = (if p0 = 0 then T_count t else T_latestOfValve t) ∧ T_latestOfCement L = (if p0 = 0 then T_latestOfCement t else T_count t) := by
  have w1 : ∀ (f : Nat → Int32) (y : Int32), f_X3_write 60 f (T_count t) y = upd f (T_count t).toNatClampNeg y := fun f y => write_in (by decide) h0 h1
  subst hL
  unfold f_X1_keep f_X1_keep_b80
  rw [w1, w1, w1, w1, ifb h2]
  by_cases c : p0 = 0
  · rw [if_pos c, if_pos c, if_pos c]; exact ⟨rfl, rfl, rfl, rfl, rfl, rfl, rfl⟩
  · rw [if_neg c, if_neg c, if_neg c]; exact ⟨rfl, rfl, rfl, rfl, rfl, rfl, rfl⟩
def tesG (g : MS) (k : Nat) (p0 p1 v m c : Int32) : MS := M_set_tests (M_set_testedAt (M_set_isPassed (M_set_by (M_set_tested g (upd (M_tested g) k p0)) (upd (M_by g) k p1)) (upd (M_isPassed g) k v)) (upd (M_testedAt g) k m)) c
theorem tesG_put (w : WS) (ba : Int32) (g : MS) (k : Nat) (p0 p1 v m c : Int32) : tesG (put w ba g) k p0 p1 v m c = put w ba (tesG g k p0 p1 v m c) := by
  unfold tesG
  simp -implicitDefEqProofs only [M_thrown_put, M_pore_put, M_breaks_put, M_rate_put, M_bearsGas_put, M_depth_put, M_shoe_put, M_weight_put, M_isClosed_put, M_choke_put, M_charge_put, M_place_put, M_gas_put, M_liquid_put, M_minutes_put, M_vented_put, M_lost_put, M_pumped_put, M_pumpedWeight_put, M_valve_put, M_brokenAfter_put, M_cement_put, M_casedAfter_put, M_flowed_put, M_kept_put, M_tests_put, M_tested_put, M_by_put, M_isPassed_put, M_testedAt_put, M_stops_put, M_set_thrown_put, M_set_pore_put, M_set_breaks_put, M_set_rate_put, M_set_bearsGas_put, M_set_depth_put, M_set_shoe_put, M_set_weight_put, M_set_isClosed_put, M_set_choke_put, M_set_charge_put, M_set_place_put, M_set_gas_put, M_set_liquid_put, M_set_minutes_put, M_set_vented_put, M_set_lost_put, M_set_pumped_put, M_set_pumpedWeight_put, M_set_valve_put, M_set_brokenAfter_put, M_set_cement_put, M_set_casedAfter_put, M_set_flowed_put, M_set_kept_put, M_set_tests_put, M_set_tested_put, M_set_by_put, M_set_isPassed_put, M_set_testedAt_put, M_set_stops_put]
theorem tesG_f (g : MS) (k : Nat) (p0 p1 v m c : Int32) : M_tested (tesG g k p0 p1 v m c) = upd (M_tested g) k p0 ∧ M_by (tesG g k p0 p1 v m c) = upd (M_by g) k p1 ∧ M_isPassed (tesG g k p0 p1 v m c) = upd (M_isPassed g) k v ∧ M_testedAt (tesG g k p0 p1 v m c) = upd (M_testedAt g) k m ∧ M_tests (tesG g k p0 p1 v m c) = c ∧ M_thrown (tesG g k p0 p1 v m c) = M_thrown g ∧ M_casedAfter (tesG g k p0 p1 v m c) = M_casedAfter g := by
  unfold tesG
  simp -implicitDefEqProofs only [M_tested_set_tests, M_tested_set_testedAt, M_tested_set_isPassed, M_tested_set_by, M_tested_set_tested, M_by_set_tests, M_by_set_testedAt, M_by_set_isPassed, M_by_set_by, M_isPassed_set_tests, M_isPassed_set_testedAt, M_isPassed_set_isPassed, M_testedAt_set_tests, M_testedAt_set_testedAt, M_tests_set_tests, M_thrown_set_tests, M_thrown_set_testedAt, M_thrown_set_isPassed, M_thrown_set_by, M_thrown_set_tested, M_casedAfter_set_tests, M_casedAfter_set_testedAt, M_casedAfter_set_isPassed, M_casedAfter_set_by, M_casedAfter_set_tested, and_self]
theorem tesG_o (g : MS) (k : Nat) (p0 p1 v m c : Int32) : M_pumped (tesG g k p0 p1 v m c) = M_pumped g ∧ M_pumpedWeight (tesG g k p0 p1 v m c) = M_pumpedWeight g ∧ M_cement (tesG g k p0 p1 v m c) = M_cement g ∧ M_stops (tesG g k p0 p1 v m c) = M_stops g ∧ M_pore (tesG g k p0 p1 v m c) = M_pore g ∧ M_breaks (tesG g k p0 p1 v m c) = M_breaks g ∧ M_rate (tesG g k p0 p1 v m c) = M_rate g ∧ M_bearsGas (tesG g k p0 p1 v m c) = M_bearsGas g := by
  unfold tesG
  simp -implicitDefEqProofs only [M_pumped_set_tests, M_pumped_set_testedAt, M_pumped_set_isPassed, M_pumped_set_by, M_pumped_set_tested, M_pumpedWeight_set_tests, M_pumpedWeight_set_testedAt, M_pumpedWeight_set_isPassed, M_pumpedWeight_set_by, M_pumpedWeight_set_tested, M_cement_set_tests, M_cement_set_testedAt, M_cement_set_isPassed, M_cement_set_by, M_cement_set_tested, M_stops_set_tests, M_stops_set_testedAt, M_stops_set_isPassed, M_stops_set_by, M_stops_set_tested, M_pore_set_tests, M_pore_set_testedAt, M_pore_set_isPassed, M_pore_set_by, M_pore_set_tested, M_breaks_set_tests, M_breaks_set_testedAt, M_breaks_set_isPassed, M_breaks_set_by, M_breaks_set_tested, M_rate_set_tests, M_rate_set_testedAt, M_rate_set_isPassed, M_rate_set_by, M_rate_set_tested, M_bearsGas_set_tests, M_bearsGas_set_testedAt, M_bearsGas_set_isPassed, M_bearsGas_set_by, M_bearsGas_set_tested, and_self]
theorem relR_congr {r : RS} {g g' : MS} (h : RelR r g) (e1 : M_pore g' = M_pore g) (e2 : M_breaks g' = M_breaks g) (e3 : M_rate g' = M_rate g) (e4 : M_bearsGas g' = M_bearsGas g) : RelR r g' := by
  unfold RelR at *
  rw [e1, e2, e3, e4]; exact h
/-- a record more: the latest of what -/
theorem latP_add {what y : Int32} {f : Nat → Int32} {lo : Int} {c c' l : Int32} (h0 : 0 ≤ c.toInt) (hlo : lo ≤ c.toInt) (hc : c'.toInt = c.toInt + 1) (h : LatP what f lo c.toInt l) :
    LatP what (upd f c.toNatClampNeg y) lo c'.toInt (if y = what then c else l) := by
  have hcl := cl h0
  by_cases e : y = what
  · rw [if_pos e]
    refine Or.inr ⟨⟨hlo, h0, by omega, ?_⟩, fun k k1 k2 => by exfalso; omega⟩
    rw [upd_eq]; exact e
  · rw [if_neg e]
    rcases h with ⟨a1, a2⟩ | ⟨⟨a1, a2, a3, a4⟩, a5⟩
    · refine Or.inl ⟨a1, fun k k1 k2 => ?_⟩
      by_cases ck : k = c.toNatClampNeg
      · subst ck; rw [upd_eq]; exact e
      · rw [upd_ne _ _ ck]; exact a2 k k1 (by omega)
    · have hl := cl a2
      refine Or.inr ⟨⟨a1, a2, by omega, ?_⟩, fun k k1 k2 => ?_⟩
      · rw [upd_ne _ _ (by omega)]; exact a4
      · by_cases ck : k = c.toNatClampNeg
        · subst ck; rw [upd_eq]; exact e
        · rw [upd_ne _ _ ck]; exact a5 k k1 (by omega)
theorem tests_add {t L : TS} {g g' : MS} {ba hb hb' p0 p1 v m : Int32} (hp0 : p0 = 0 ∨ p0 = 1) (hT : RelT t g ba hb) (hlt : (M_tests g).toInt < 60) (hv : bz v) (hhb : hb' = (if p0 = 0 then 0 else hb))
    (k1 : T_whats L = upd (T_whats t) (T_count t).toNatClampNeg p0) (k2 : T_pressures L = upd (T_pressures t) (T_count t).toNatClampNeg p1) (k3 : T_passes L = upd (T_passes t) (T_count t).toNatClampNeg v) (k4 : T_minutes L = upd (T_minutes t) (T_count t).toNatClampNeg m)
    (k5 : T_count L = T_count t + 1) (k6 : T_latestOfValve L = (if p0 = 0 then T_count t else T_latestOfValve t)) (k7 : T_latestOfCement L = (if p0 = 0 then T_latestOfCement t else T_count t))
    (m1 : M_tested g' = upd (M_tested g) (M_tests g).toNatClampNeg p0) (m2 : M_by g' = upd (M_by g) (M_tests g).toNatClampNeg p1) (m3 : M_isPassed g' = upd (M_isPassed g) (M_tests g).toNatClampNeg v) (m4 : M_testedAt g' = upd (M_testedAt g) (M_tests g).toNatClampNeg m)
    (m5 : M_tests g' = M_tests g + 1) (m6 : M_casedAfter g' = M_casedAfter g) : RelT L g' ba hb' := by
  obtain ⟨hc, ⟨t0, t1⟩, hj, hl, ⟨b0, b1⟩, h6, h7, ⟨c0, c1⟩, hl2⟩ := hT
  have ei : (M_tests g + 1).toInt = (M_tests g).toInt + 1 := i_inc (by omega)
  have q0 : T_latestOfValve L = (if p0 = 0 then M_tests g else T_latestOfValve t) := by rw [k6, hc]
  have q1 : T_latestOfCement L = (if p0 = 1 then M_tests g else T_latestOfCement t) := by
    rw [k7, hc]
    rcases hp0 with h | h <;> subst h
    · rw [if_pos rfl, if_neg (by decide)]
    · rw [if_neg (by decide), if_pos rfl]
  refine ⟨by rw [k5, m5, hc], by rw [m5, ei]; omega, ?_, ?_, by rw [m5, ei]; omega, ?_, ?_, by rw [m5, m6, ei]; omega, ?_⟩
  · intro j hjj
    rw [k1, k2, k3, k4, m1, m2, m3, m4, hc]
    by_cases cj : j = (M_tests g).toNatClampNeg
    · subst cj; rw [upd_eq, upd_eq, upd_eq, upd_eq, upd_eq, upd_eq, upd_eq, upd_eq]; exact ⟨rfl, rfl, rfl, rfl, hv⟩
    · rw [upd_ne _ _ cj, upd_ne _ _ cj, upd_ne _ _ cj, upd_ne _ _ cj, upd_ne _ _ cj, upd_ne _ _ cj, upd_ne _ _ cj, upd_ne _ _ cj]; exact hj j hjj
  · rw [m1, m5, q0]
    exact latP_add t0 t0 ei hl
  · intro hb0
    rw [q0]
    by_cases c : p0 = 0
    · rw [if_pos c]; exact Or.inr (by omega)
    · rw [if_neg c]; rw [hhb, if_neg c] at hb0; exact h6 hb0
  · intro hb0
    rw [q0]
    by_cases c : p0 = 0
    · rw [hhb, if_pos c] at hb0; exact absurd rfl hb0
    · rw [if_neg c]; rw [hhb, if_neg c] at hb0; exact h7 hb0
  · rw [m1, m5, m6, q1]
    exact latP_add t0 c1 ei hl2
theorem op_test {x : XS} {w : WS} {r : RS} {t : TS} {G : MS} (h : Rel x w r t G) (p0 p1 : Int32) : ok_X4_test G p0 p1 ∧
    ((∃ (w' : WS) (t' : TS) (val : Int32) (G' : MS), bz val ∧ f_X3_test x w t p0 p1 = (0, val, w', t') ∧ f_X4_test G p0 p1 = (val, G') ∧ f_X4_thrown G' = 0 ∧ Rel x w' r t' G') ∨
    (f_X3_test x w t p0 p1 = (2, 0, w, t) ∧ f_X4_test G p0 p1 = (0, M_set_thrown G 1)) ∨ (f_X3_test x w t p0 p1 = (3, 0, w, t) ∧ f_X4_test G p0 p1 = (0, M_set_thrown G 2))) := by
  obtain ⟨ba, g, rfl, hI, hG⟩ := h
  obtain ⟨hIR, hR, hp, hpw, hc, hS, hT⟩ := id hG
  have hs := hI.2.1
  have hcnt := hT.1
  have ht := hT.2.1
  have e0 : (0 : Int32).toInt = 0 := rfl
  have e60 : (60 : Int32).toInt = 60 := rfl
  unfold f_X3_test f_X4_test ok_X4_test f_X4_test_b25 ok_X4_test_b25 f_X4_test_b26 ok_X4_test_b26 f_X4_test_b58 ok_X4_test_b58 f_X4_test_b54 ok_X4_test_b54 f_X3_test_b21 f_X3_test_b68
  have fail1 : f_X4_test_b59 (put w ba g) p0 p1 0 0 = (0, M_set_thrown (put w ba g) 1) ∧ ok_X4_test_b59 (put w ba g) p0 p1 0 0 ∧ f_X4_test_b59 (put w ba g) p0 p1 0 1 = (0, M_set_thrown (put w ba g) 1) ∧ ok_X4_test_b59 (put w ba g) p0 p1 0 1 := by
    unfold f_X4_test_b59 ok_X4_test_b59
    exact ⟨by simp -implicitDefEqProofs only [if_true, if_false, true_implies, false_implies, not_true_eq_false, not_false_eq_true, and_true, true_and, gw0, gw1, gw2, gw3, gwd, h10, h20, h30, eq_self, ite_self, implies_true, wi_eq], by simp -implicitDefEqProofs only [if_true, if_false, true_implies, false_implies, not_true_eq_false, not_false_eq_true, and_true, true_and, gw0, gw1, gw2, gw3, gwd, h10, h20, h30, eq_self, ite_self, implies_true, wi_eq], by simp -implicitDefEqProofs only [if_true, if_false, true_implies, false_implies, not_true_eq_false, not_false_eq_true, and_true, true_and, gw0, gw1, gw2, gw3, gwd, h10, h20, h30, eq_self, ite_self, implies_true, wi_eq], by simp -implicitDefEqProofs only [if_true, if_false, true_implies, false_implies, not_true_eq_false, not_false_eq_true, and_true, true_and, gw0, gw1, gw2, gw3, gwd, h10, h20, h30, eq_self, ite_self, implies_true, wi_eq]⟩
  have fail2 : f_X4_test_b59 (put w ba g) p0 p1 1 0 = (0, M_set_thrown (put w ba g) 2) ∧ ok_X4_test_b59 (put w ba g) p0 p1 1 0 := by
    unfold f_X4_test_b59 ok_X4_test_b59
    exact ⟨by simp -implicitDefEqProofs only [if_true, if_false, true_implies, false_implies, not_true_eq_false, not_false_eq_true, and_true, true_and, gw0, gw1, gw2, gw3, gwd, h10, h20, h30, eq_self, ite_self, implies_true, wi_eq], by simp -implicitDefEqProofs only [if_true, if_false, true_implies, false_implies, not_true_eq_false, not_false_eq_true, and_true, true_and, gw0, gw1, gw2, gw3, gwd, h10, h20, h30, eq_self, ite_self, implies_true, wi_eq]⟩
  obtain ⟨u1, u2, u3, u4⟩ := fail1
  obtain ⟨v1, v2⟩ := fail2
  by_cases c0 : f_X4_in p0 0 1 = 0
  · exact ⟨by simp -implicitDefEqProofs only [c0, u2, u4, if_true, if_false, true_implies, false_implies, not_true_eq_false, not_false_eq_true, and_true, true_and, gw0, gw1, gw2, gw3, gwd, h10, h20, h30, eq_self, ite_self, implies_true, wi_eq], Or.inr (Or.inl ⟨by simp -implicitDefEqProofs only [c0, if_true, if_false, true_implies, false_implies, not_true_eq_false, not_false_eq_true, and_true, true_and, gw0, gw1, gw2, gw3, gwd, h10, h20, h30, eq_self, ite_self, implies_true, wi_eq], by simp -implicitDefEqProofs only [c0, u1, u3, if_true, if_false, true_implies, false_implies, not_true_eq_false, not_false_eq_true, and_true, true_and, gw0, gw1, gw2, gw3, gwd, h10, h20, h30, eq_self, ite_self, implies_true, wi_eq]⟩)⟩
  · by_cases c1 : f_X4_in p1 1000 100000 = 0
    · exact ⟨by simp -implicitDefEqProofs only [c0, c1, u2, u4, if_true, if_false, true_implies, false_implies, not_true_eq_false, not_false_eq_true, and_true, true_and, gw0, gw1, gw2, gw3, gwd, h10, h20, h30, eq_self, ite_self, implies_true, wi_eq], Or.inr (Or.inl ⟨by simp -implicitDefEqProofs only [c0, c1, if_true, if_false, true_implies, false_implies, not_true_eq_false, not_false_eq_true, and_true, true_and, gw0, gw1, gw2, gw3, gwd, h10, h20, h30, eq_self, ite_self, implies_true, wi_eq], by simp -implicitDefEqProofs only [c0, c1, u1, u3, if_true, if_false, true_implies, false_implies, not_true_eq_false, not_false_eq_true, and_true, true_and, gw0, gw1, gw2, gw3, gwd, h10, h20, h30, eq_self, ite_self, implies_true, wi_eq]⟩)⟩
    · obtain ⟨a0, a1⟩ : 0 ≤ p0.toInt ∧ p0.toInt ≤ 1 := in_no c0
      have hp0 : p0 = 0 ∨ p0 = 1 := by
        have e1 : (1 : Int32).toInt = 1 := rfl
        rw [i_eq, i_eq, e0, e1]; omega
      by_cases c2 : W_isClosed w = 0
      · have c2m : M_isClosed (put w ba g) = 0 := c2
        by_cases c3 : 60 ≤ M_tests g
        · have c3m : 60 ≤ M_tests (put w ba g) := c3
          have c3x : 60 ≤ T_count t := by rw [hcnt]; exact c3
          exact ⟨by simp -implicitDefEqProofs only [c0, c1, c2m, c3m, v2, if_true, if_false, true_implies, false_implies, not_true_eq_false, not_false_eq_true, and_true, true_and, gw0, gw1, gw2, gw3, gwd, h10, h20, h30, eq_self, ite_self, implies_true, wi_eq], Or.inr (Or.inr ⟨by simp -implicitDefEqProofs only [c0, c1, c2, c3x, if_true, if_false, true_implies, false_implies, not_true_eq_false, not_false_eq_true, and_true, true_and, gw0, gw1, gw2, gw3, gwd, h10, h20, h30, eq_self, ite_self, implies_true, wi_eq], by simp -implicitDefEqProofs only [c0, c1, c2m, c3m, v1, if_true, if_false, true_implies, false_implies, not_true_eq_false, not_false_eq_true, and_true, true_and, gw0, gw1, gw2, gw3, gwd, h10, h20, h30, eq_self, ite_self, implies_true, wi_eq]⟩)⟩
        · have c3m : ¬ 60 ≤ M_tests (put w ba g) := c3
          have c3x : ¬ 60 ≤ T_count t := by rw [hcnt]; exact c3
          have hlt : (M_tests g).toInt < 60 := by rw [i_le, e60] at c3; omega
          have good : ∀ v : Int32, bz v → (if (if p0 = 0 then W_valveStrength w else X_cement x) < p1 then (0 : Int32) else 1) = v → (f_X4_test_b59 (put w ba g) p0 p1 1 1 = (v, put w ba (tesG (M_set_thrown g 0) (M_tests g).toNatClampNeg p0 p1 v (W_minutes w) (M_tests g + 1))) ∧ ok_X4_test_b59 (put w ba g) p0 p1 1 1) ∧ ∃ w' t', f_X3_test_b78 x w t p0 p1 = (0, v, w', t') ∧ Rel x w' r t' (put w ba (tesG (M_set_thrown g 0) (M_tests g).toNatClampNeg p0 p1 v (W_minutes w) (M_tests g + 1))) := by
            intro v hv hve
            have hn := nar_b hv
            have hinc : (M_tests g + 1).toInt = (M_tests g).toInt + 1 := i_inc (by omega)
            have hback : M_tests g + 1 - 1 = M_tests g := by
              have e1 : (1 : Int32).toInt = 1 := rfl
              rw [i_eq, i_sub (by rw [e1]; omega) (by rw [e1]; omega), hinc, e1]; omega
            have hvi : vp_in (M_tests g) 60 := vin ht.1 hlt
            refine ⟨?_, ?_⟩
            · have hm : (if (if p0 = 0 then M_valve (put w ba (M_set_thrown g 0)) else M_cement (put w ba (M_set_thrown g 0))) < p1 then (0 : Int32) else 1) = v := by
                rw [M_valve_put, M_cement_put, M_cement_set_thrown, hc]; exact hve
              have ht1 : M_tests (put w ba (M_set_thrown g 0)) = M_tests g := rfl
              have hm1 : M_minutes (put w ba (M_set_thrown g 0)) = W_minutes w := rfl
              unfold f_X4_test_b59 ok_X4_test_b59
              simp -implicitDefEqProofs only [if_true, if_false, true_implies, false_implies, not_true_eq_false, not_false_eq_true, and_true, true_and, gw0, gw1, gw2, gw3, gwd, h10, h20, h30, eq_self, ite_self, implies_true, wi_eq]
              rw [M_set_thrown_put, hm, hn, ht1, hback, hm1, upd_eq]
              rw [← tesG_put]
              exact ⟨rfl, hvi, hvi, hvi, hvi, hvi, hv⟩
            · have t0 := ht.1
              have hk0 : 0 ≤ (T_count t).toInt := by rw [hcnt]; exact t0
              have hk1 : (T_count t).toInt < 60 := by rw [hcnt]; exact hlt
              obtain ⟨k1, k2, k3, k4, k5, k6, k7⟩ := keep_eq t p0 p1 v (W_minutes w) hk0 hk1 hv _ rfl
              obtain ⟨m1, m2, m3, m4, m5, m6, m7⟩ := tesG_f (M_set_thrown g 0) (M_tests g).toNatClampNeg p0 p1 v (W_minutes w) (M_tests g + 1)
              obtain ⟨o1, o2, o3, o4, o5, o6, o7, o8⟩ := tesG_o (M_set_thrown g 0) (M_tests g).toNatClampNeg p0 p1 v (W_minutes w) (M_tests g + 1)
              unfold f_X3_test_b78
              rw [hve]
              generalize tesG (M_set_thrown g 0) (M_tests g).toNatClampNeg p0 p1 v (W_minutes w) (M_tests g + 1) = g' at *
              generalize f_X1_keep t p0 p1 v (W_minutes w) = L at *
              have hRT : ∀ hb' : Int32, hb' = (if p0 = 0 then 0 else W_hasBrokenSinceTest w) → RelT L g' ba hb' := fun hb' hh => tests_add hp0 (rg_thr_T 0 hT) hlt hv hh k1 k2 k3 k4 k5 k6 k7 m1 m2 m3 m4 m5 m7
              have hRR : RelR r g' := relR_congr (g := M_set_thrown g 0) hR o5 o6 o7 o8
              have hSS : RelS (X_stops x) (M_stops g') := by rw [o4]; exact hS
              by_cases cp : p0 = 0
              · rw [if_pos cp]
                exact ⟨W_set_hasBrokenSinceTest w 0, _, rfl, ba, g', (put_hb w ba g' 0).symm, inv_hb hI, hIR, hRR, o1.trans hp, o2.trans hpw, o3.trans hc, hSS, hRT _ (by rw [if_pos cp]; rfl)⟩
              · rw [if_neg cp]
                exact ⟨w, _, rfl, ba, g', rfl, hI, hIR, hRR, o1.trans hp, o2.trans hpw, o3.trans hc, hSS, hRT _ (by rw [if_neg cp])⟩
          have hbzv : bz (if (if p0 = 0 then W_valveStrength w else X_cement x) < p1 then (0 : Int32) else 1) := by
            by_cases cv : (if p0 = 0 then W_valveStrength w else X_cement x) < p1
            · rw [if_pos cv]; exact Or.inl rfl
            · rw [if_neg cv]; exact Or.inr rfl
          obtain ⟨⟨g1, g2⟩, w', t', g3, g4⟩ := good _ hbzv rfl
          have g5 : f_X4_thrown (put w ba (tesG (M_set_thrown g 0) (M_tests g).toNatClampNeg p0 p1 (if (if p0 = 0 then W_valveStrength w else X_cement x) < p1 then (0 : Int32) else 1) (W_minutes w) (M_tests g + 1))) = 0 := by
            rw [thr_put, (tesG_f _ _ _ _ _ _ _).2.2.2.2.2.1, thr_th]
          generalize (if (if p0 = 0 then W_valveStrength w else X_cement x) < p1 then (0 : Int32) else 1) = v at *
          by_cases cp : p0 = 0
          · have cp1 : ¬ p0 = 1 := by rw [cp]; decide
            exact ⟨⟨fun h => absurd h c0, fun _ => ⟨fun h => absurd h c1, fun _ => ⟨fun _ => ⟨fun h => absurd h c3m, fun _ => ⟨fun _ => g2, fun h => absurd cp h⟩⟩, fun h => absurd c2m h⟩⟩⟩, Or.inl ⟨w', t', v, _, hbzv, by rw [wi_eq, wi_eq, if_neg c0, if_neg c1, if_pos c2, if_neg c3x, if_neg cp1]; exact g3, by rw [if_neg c0, if_neg c1, if_pos c2m, if_neg c3m, if_pos cp]; exact g1, g5, g4⟩⟩
          · have cp1 : p0 = 1 := hp0.resolve_left cp
            by_cases c4 : W_shoe w = 0
            · have c4m : M_shoe (put w ba g) ≤ 0 := by show W_shoe w ≤ 0; rw [c4]; decide
              exact ⟨by simp -implicitDefEqProofs only [c0, c1, c2m, c3m, cp, c4m, v2, if_true, if_false, true_implies, false_implies, not_true_eq_false, not_false_eq_true, and_true, true_and, gw0, gw1, gw2, gw3, gwd, h10, h20, h30, eq_self, ite_self, implies_true, wi_eq], Or.inr (Or.inr ⟨by rw [wi_eq, wi_eq, if_neg c0, if_neg c1, if_pos c2, if_neg c3x, if_pos cp1, if_pos c4], by rw [if_neg c0, if_neg c1, if_pos c2m, if_neg c3m, if_neg cp, if_pos c4m]; exact v1⟩)⟩
            · have c4m : ¬ M_shoe (put w ba g) ≤ 0 := by
                show ¬ W_shoe w ≤ 0
                rw [i_le, e0]; rw [i_eq, e0] at c4; omega
              exact ⟨by simp -implicitDefEqProofs only [c0, c1, c2m, c3m, cp, c4m, g2, if_true, if_false, true_implies, false_implies, not_true_eq_false, not_false_eq_true, and_true, true_and, gw0, gw1, gw2, gw3, gwd, h10, h20, h30, eq_self, ite_self, implies_true, wi_eq], Or.inl ⟨w', t', v, _, hbzv, by rw [wi_eq, wi_eq, if_neg c0, if_neg c1, if_pos c2, if_neg c3x, if_pos cp1, if_neg c4]; exact g3, by rw [if_neg c0, if_neg c1, if_pos c2m, if_neg c3m, if_neg cp, if_neg c4m]; exact g1, g5, g4⟩⟩
      · have c2m : ¬ M_isClosed (put w ba g) = 0 := c2
        exact ⟨by simp -implicitDefEqProofs only [c0, c1, c2m, v2, if_true, if_false, true_implies, false_implies, not_true_eq_false, not_false_eq_true, and_true, true_and, gw0, gw1, gw2, gw3, gwd, h10, h20, h30, eq_self, ite_self, implies_true, wi_eq], Or.inr (Or.inr ⟨by simp -implicitDefEqProofs only [c0, c1, c2, if_true, if_false, true_implies, false_implies, not_true_eq_false, not_false_eq_true, and_true, true_and, gw0, gw1, gw2, gw3, gwd, h10, h20, h30, eq_self, ite_self, implies_true, wi_eq], by simp -implicitDefEqProofs only [c0, c1, c2m, v1, if_true, if_false, true_implies, false_implies, not_true_eq_false, not_false_eq_true, and_true, true_and, gw0, gw1, gw2, gw3, gwd, h10, h20, h30, eq_self, ite_self, implies_true, wi_eq]⟩)⟩
