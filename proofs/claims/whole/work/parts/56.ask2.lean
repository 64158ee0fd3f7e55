/-! What is asked, on: numbers, tests, barriers, the equivalent. -/
theorem op_of {x : XS} {w : WS} {r : RS} {t : TS} {G : MS} (h : Rel x w r t G) (p : Int32) :
    ((∃ val : Int64, f_X3_of x w p = (0, val) ∧ f_X4_of G p = (val, M_set_thrown G 0)) ∨
    (f_X3_of x w p = (2, 0) ∧ f_X4_of G p = (0, M_set_thrown G 1))) := by
  obtain ⟨ba, g, rfl, hI, hG⟩ := h
  obtain ⟨-, -, hp, -, hc, -⟩ := id hG
  have e0l : (0 : Int64).toInt = 0 := rfl
  have e0 : (0 : Int32).toInt = 0 := rfl
  have e11 : (11 : Int32).toInt = 11 := rfl
  unfold f_X3_of f_X4_of
  by_cases c : f_X4_in p 0 11 = 0
  · have hc := in_eq c
    have n : ∀ k : Int32, 0 ≤ k.toInt → k.toInt ≤ 11 → ¬ p = k := fun k k0 k1 h => by
      rw [h, e0, e11] at hc; omega
    exact Or.inr ⟨by rw [if_neg (n 0 (by decide) (by decide)), if_neg (n 1 (by decide) (by decide)), if_neg (n 2 (by decide) (by decide)), if_neg (n 3 (by decide) (by decide)), if_neg (n 4 (by decide) (by decide)), if_neg (n 5 (by decide) (by decide)), if_neg (n 6 (by decide) (by decide)), if_neg (n 7 (by decide) (by decide)), if_neg (n 8 (by decide) (by decide)), if_neg (n 9 (by decide) (by decide)), if_neg (n 10 (by decide) (by decide)), if_neg (n 11 (by decide) (by decide))], by simp -implicitDefEqProofs only [c, if_true, if_false, true_implies, false_implies, not_true_eq_false, not_false_eq_true, and_true, true_and, gw0, gw1, gw2, gw3, gwd, h10, h20, h30, eq_self, ite_self, implies_true, wi_eq]⟩
  · obtain ⟨a0, a1⟩ : 0 ≤ p.toInt ∧ p.toInt ≤ 11 := in_no c
    have hpm : M_pumped (M_set_thrown g 0) = X_pumped x := hp
    have hcm : M_cement (M_set_thrown g 0) = X_cement x := hc
    left
    simp -implicitDefEqProofs only [c, hpm, hcm, if_true, if_false, true_implies, false_implies, not_true_eq_false, not_false_eq_true, and_true, true_and, gw0, gw1, gw2, gw3, gwd, h10, h20, h30, eq_self, ite_self, implies_true, wi_eq, M_thrown_put, M_pore_put, M_breaks_put, M_rate_put, M_bearsGas_put, M_depth_put, M_shoe_put, M_weight_put, M_isClosed_put, M_choke_put, M_charge_put, M_place_put, M_gas_put, M_liquid_put, M_minutes_put, M_vented_put, M_lost_put, M_pumped_put, M_pumpedWeight_put, M_valve_put, M_brokenAfter_put, M_cement_put, M_casedAfter_put, M_flowed_put, M_kept_put, M_tests_put, M_tested_put, M_by_put, M_isPassed_put, M_testedAt_put, M_stops_put, M_set_thrown_put, M_set_pore_put, M_set_breaks_put, M_set_rate_put, M_set_bearsGas_put, M_set_depth_put, M_set_shoe_put, M_set_weight_put, M_set_isClosed_put, M_set_choke_put, M_set_charge_put, M_set_place_put, M_set_gas_put, M_set_liquid_put, M_set_minutes_put, M_set_vented_put, M_set_lost_put, M_set_pumped_put, M_set_pumpedWeight_put, M_set_valve_put, M_set_brokenAfter_put, M_set_cement_put, M_set_casedAfter_put, M_set_flowed_put, M_set_kept_put, M_set_tests_put, M_set_tested_put, M_set_by_put, M_set_isPassed_put, M_set_testedAt_put, M_set_stops_put]
    by_cases q0 : p = 0
    · rw [if_pos q0, if_pos q0]; exact ⟨_, rfl, rfl⟩
    rw [if_neg q0, if_neg q0]
    by_cases q1 : p = 1
    · rw [if_pos q1, if_pos q1]; exact ⟨_, rfl, rfl⟩
    rw [if_neg q1, if_neg q1]
    by_cases q2 : p = 2
    · rw [if_pos q2, if_pos q2]; exact ⟨_, rfl, rfl⟩
    rw [if_neg q2, if_neg q2]
    by_cases q3 : p = 3
    · rw [if_pos q3, if_pos q3]
      by_cases k : W_isClosed w = 0
      · rw [if_pos k, if_pos k]; exact ⟨_, rfl, rfl⟩
      · rw [if_neg k, if_neg k]; exact ⟨_, rfl, rfl⟩
    rw [if_neg q3, if_neg q3]
    by_cases q4 : p = 4
    · rw [if_pos q4, if_pos q4]; exact ⟨_, rfl, rfl⟩
    rw [if_neg q4, if_neg q4]
    by_cases q5 : p = 5
    · rw [if_pos q5, if_pos q5]; exact ⟨_, rfl, rfl⟩
    rw [if_neg q5, if_neg q5]
    by_cases q6 : p = 6
    · rw [if_pos q6, if_pos q6]
      by_cases k : f_X2_hasGas w = 0
      · have km : lg_cmp (W_charge w) 0 ≤ 0 := (cmp_le0 _ _).mpr (by rw [e0l]; exact (hasGas_iff w).mp k)
        rw [if_pos k, if_pos km]; exact ⟨_, rfl, rfl⟩
      · have km : ¬ lg_cmp (W_charge w) 0 ≤ 0 := fun h => k ((hasGas_iff w).mpr (by have h2 := (cmp_le0 _ _).mp h; rw [e0l] at h2; exact h2))
        rw [if_neg k, if_neg km]; exact ⟨_, rfl, rfl⟩
    rw [if_neg q6, if_neg q6]
    by_cases q7 : p = 7
    · rw [if_pos q7, if_pos q7]; exact ⟨_, rfl, rfl⟩
    rw [if_neg q7, if_neg q7]
    by_cases q8 : p = 8
    · rw [if_pos q8, if_pos q8]; exact ⟨_, rfl, rfl⟩
    rw [if_neg q8, if_neg q8]
    by_cases q9 : p = 9
    · rw [if_pos q9, if_pos q9]; exact ⟨_, rfl, rfl⟩
    rw [if_neg q9, if_neg q9]
    by_cases q10 : p = 10
    · rw [if_pos q10, if_pos q10]; exact ⟨_, rfl, rfl⟩
    rw [if_neg q10, if_neg q10]
    have q11 : p = 11 := by
      have e1 : (1 : Int32).toInt = 1 := rfl
      have e2 : (2 : Int32).toInt = 2 := rfl
      have e3 : (3 : Int32).toInt = 3 := rfl
      have e4 : (4 : Int32).toInt = 4 := rfl
      have e5 : (5 : Int32).toInt = 5 := rfl
      have e6 : (6 : Int32).toInt = 6 := rfl
      have e7 : (7 : Int32).toInt = 7 := rfl
      have e8 : (8 : Int32).toInt = 8 := rfl
      have e9 : (9 : Int32).toInt = 9 := rfl
      have e10 : (10 : Int32).toInt = 10 := rfl
      simp -implicitDefEqProofs only [i_eq, e0, e1, e2, e3, e4, e5, e6, e7, e8, e9, e10] at q0 q1 q2 q3 q4 q5 q6 q7 q8 q9 q10
      rw [i_eq, e11]; omega
    rw [if_pos q11]; exact ⟨_, rfl, rfl⟩
theorem op_ofTest {x : XS} {w : WS} {r : RS} {t : TS} {G : MS} (h : Rel x w r t G) (p q : Int32) : ok_X4_ofTest G p q ∧
    ((∃ val : Int32, f_X3_ofTest t p q = (0, val) ∧ f_X4_ofTest G p q = (val, M_set_thrown G 0)) ∨
    (f_X3_ofTest t p q = (1, 0) ∧ f_X4_ofTest G p q = (0, M_set_thrown G 1)) ∨ (f_X3_ofTest t p q = (2, 0) ∧ f_X4_ofTest G p q = (0, M_set_thrown G 2))) := by
  obtain ⟨ba, g, rfl, hI, hG⟩ := h
  obtain ⟨-, -, -, -, -, -, hT⟩ := id hG
  obtain ⟨hcnt, ⟨t0, t1⟩, hj, -⟩ := hT
  have e0 : (0 : Int32).toInt = 0 := rfl
  have e1 : (1 : Int32).toInt = 1 := rfl
  have e2 : (2 : Int32).toInt = 2 := rfl
  have e3 : (3 : Int32).toInt = 3 := rfl
  unfold f_X3_ofTest f_X4_ofTest ok_X4_ofTest f_X4_ofTest_b35 ok_X4_ofTest_b35
  rw [hcnt]
  by_cases c : f_X4_in p 0 (M_tests g - 1) = 0
  · have cm : f_X4_in p 0 (M_tests (put w ba g) - 1) = 0 := c
    exact ⟨by simp -implicitDefEqProofs only [cm, if_true, if_false, true_implies, false_implies, not_true_eq_false, not_false_eq_true, and_true, true_and, gw0, gw1, gw2, gw3, gwd, h10, h20, h30, eq_self, ite_self, implies_true, wi_eq], Or.inr (Or.inl ⟨by simp -implicitDefEqProofs only [c, if_true, if_false, true_implies, false_implies, not_true_eq_false, not_false_eq_true, and_true, true_and, gw0, gw1, gw2, gw3, gwd, h10, h20, h30, eq_self, ite_self, implies_true, wi_eq], by simp -implicitDefEqProofs only [cm, if_true, if_false, true_implies, false_implies, not_true_eq_false, not_false_eq_true, and_true, true_and, gw0, gw1, gw2, gw3, gwd, h10, h20, h30, eq_self, ite_self, implies_true, wi_eq]⟩)⟩
  · have cm : ¬ f_X4_in p 0 (M_tests (put w ba g) - 1) = 0 := c
    obtain ⟨a0, a1⟩ : 0 ≤ p.toInt ∧ p.toInt ≤ (M_tests g - 1).toInt := in_no c
    rw [i_sub (by rw [e1]; omega) (by rw [e1]; omega), e1] at a1
    have hlt := cl_lt (n := 60) a0 (by omega)
    have hvi : vp_in p 60 := vin a0 (by omega)
    have rd : ∀ f : Nat → Int32, f_X3_read 60 f p = f p.toNatClampNeg := fun f => read_in (by decide) a0 (by omega)
    obtain ⟨j1, j2, j3, j4, j5⟩ := hj _ hlt
    by_cases d : f_X4_in q 0 3 = 0
    · have hd := in_eq d
      have n : ∀ k : Int32, 0 ≤ k.toInt → k.toInt ≤ 3 → ¬ q = k := fun k k0 k1 h => by
        rw [h, e0, e3] at hd; omega
      exact ⟨by simp -implicitDefEqProofs only [cm, d, if_true, if_false, true_implies, false_implies, not_true_eq_false, not_false_eq_true, and_true, true_and, gw0, gw1, gw2, gw3, gwd, h10, h20, h30, eq_self, ite_self, implies_true, wi_eq], Or.inr (Or.inr ⟨by rw [wi_eq, if_neg c, if_neg (n 0 (by decide) (by decide)), if_neg (n 1 (by decide) (by decide)), if_neg (n 2 (by decide) (by decide)), if_neg (n 3 (by decide) (by decide))], by simp -implicitDefEqProofs only [cm, d, if_true, if_false, true_implies, false_implies, not_true_eq_false, not_false_eq_true, and_true, true_and, gw0, gw1, gw2, gw3, gwd, h10, h20, h30, eq_self, ite_self, implies_true, wi_eq]⟩)⟩
    · obtain ⟨b0, b1⟩ : 0 ≤ q.toInt ∧ q.toInt ≤ 3 := in_no d
      have f1 : M_tested (M_set_thrown g 0) = M_tested g := rfl
      have f2 : M_by (M_set_thrown g 0) = M_by g := rfl
      have f3 : M_isPassed (M_set_thrown g 0) = M_isPassed g := rfl
      have f4 : M_testedAt (M_set_thrown g 0) = M_testedAt g := rfl
      refine ⟨by simp -implicitDefEqProofs only [cm, d, hvi, if_true, if_false, true_implies, false_implies, not_true_eq_false, not_false_eq_true, and_true, true_and, gw0, gw1, gw2, gw3, gwd, h10, h20, h30, eq_self, ite_self, implies_true, wi_eq], Or.inl ?_⟩
      rw [wi_eq, if_neg c, if_neg cm, if_neg d, rd, rd, rd, rd, j1, j2, j3, j4]
      simp -implicitDefEqProofs only [f1, f2, f3, f4, if_true, if_false, true_implies, false_implies, not_true_eq_false, not_false_eq_true, and_true, true_and, gw0, gw1, gw2, gw3, gwd, h10, h20, h30, eq_self, ite_self, implies_true, wi_eq, M_thrown_put, M_pore_put, M_breaks_put, M_rate_put, M_bearsGas_put, M_depth_put, M_shoe_put, M_weight_put, M_isClosed_put, M_choke_put, M_charge_put, M_place_put, M_gas_put, M_liquid_put, M_minutes_put, M_vented_put, M_lost_put, M_pumped_put, M_pumpedWeight_put, M_valve_put, M_brokenAfter_put, M_cement_put, M_casedAfter_put, M_flowed_put, M_kept_put, M_tests_put, M_tested_put, M_by_put, M_isPassed_put, M_testedAt_put, M_stops_put, M_set_thrown_put, M_set_pore_put, M_set_breaks_put, M_set_rate_put, M_set_bearsGas_put, M_set_depth_put, M_set_shoe_put, M_set_weight_put, M_set_isClosed_put, M_set_choke_put, M_set_charge_put, M_set_place_put, M_set_gas_put, M_set_liquid_put, M_set_minutes_put, M_set_vented_put, M_set_lost_put, M_set_pumped_put, M_set_pumpedWeight_put, M_set_valve_put, M_set_brokenAfter_put, M_set_cement_put, M_set_casedAfter_put, M_set_flowed_put, M_set_kept_put, M_set_tests_put, M_set_tested_put, M_set_by_put, M_set_isPassed_put, M_set_testedAt_put, M_set_stops_put]
      by_cases q0 : q = 0
      · rw [if_pos q0, if_pos q0]; exact ⟨_, rfl, rfl⟩
      rw [if_neg q0, if_neg q0]
      by_cases q1 : q = 1
      · rw [if_pos q1, if_pos q1]; exact ⟨_, rfl, rfl⟩
      rw [if_neg q1, if_neg q1]
      by_cases q2 : q = 2
      · rw [if_pos q2, if_pos q2]
        rcases j5 with k | k <;> rw [k]
        · rw [if_pos rfl]; exact ⟨_, rfl, rfl⟩
        · rw [if_neg (by decide)]; exact ⟨_, rfl, rfl⟩
      rw [if_neg q2, if_neg q2]
      have q3 : q = 3 := by
        simp -implicitDefEqProofs only [i_eq, e0, e1, e2] at q0 q1 q2
        rw [i_eq, e3]; omega
      rw [if_pos q3]; exact ⟨_, rfl, rfl⟩
theorem op_barriers {x : XS} {w : WS} {r : RS} {t : TS} {G : MS} {N : Nat} (hN : 4000 < N) (h : Rel x w r t G) : ok_X4_barriers N G ∧ f_X4_barriers N G = (f_X3_barriers w r t, M_set_thrown G 0) := by
  obtain ⟨ba, g, rfl, hI, hG⟩ := h
  obtain ⟨hIR, hR, hp, hpw, hc, hS, hT⟩ := id (rg_thr 0 hG)
  obtain ⟨b1, b2⟩ := barr_eq (N := N) (by omega) hI hR hIR hT
  unfold f_X4_barriers ok_X4_barriers
  rw [M_set_thrown_put, b1]
  exact ⟨⟨b2, trivial⟩, rfl⟩
theorem op_bars {x : XS} {w : WS} {r : RS} {t : TS} {G : MS} {N : Nat} (hN : 4000 < N) (h : Rel x w r t G) : ok_X4_bars N G ∧ f_X4_bars N G = (f_X3_bars x w r t, M_set_thrown G 0) := by
  obtain ⟨ba, g, rfl, hI, hG⟩ := h
  obtain ⟨hIR, hR, hp, hpw, hc, hS, hT⟩ := id (rg_thr 0 hG)
  obtain ⟨b1, b2⟩ := bars_eq (N := N) (by omega) hI hR hIR hS hT
  unfold f_X4_bars ok_X4_bars
  rw [M_set_thrown_put, b1]
  exact ⟨⟨b2, trivial⟩, rfl⟩
def dOk (f : FP.Core.Fmt) (d : FP.Core.Datum) : Prop := (∃ s : Bool, d = .inf s) ∨ ∃ (s : Bool) (c : Nat) (q : Int), d = .fin s c q ∧ c < 2 ^ f.p ∧ q ≤ f.qmax
theorem bound_ok {f : FP.Core.Fmt} (s : Bool) {c : Nat} (q : Int) (h : c < 2 ^ f.p) : dOk f (FP.Core.bound f s c q) := by
  unfold FP.Core.bound
  by_cases k : q ≤ f.qmax
  · rw [if_pos k]; exact Or.inr ⟨s, c, q, rfl, h, k⟩
  · rw [if_neg k]; exact Or.inl ⟨s, rfl⟩
theorem rat_ok {f : FP.Core.Fmt} (h1 : f.tails < 2 ^ f.p) (h2 : f.qmin ≤ f.qmax) (s : Bool) (a b : Nat) (e : Int) : dOk f (FP.Core.roundRatio f s a b e) := by
  unfold FP.Core.roundRatio
  by_cases k : a = 0
  · rw [if_pos k]; exact Or.inr ⟨s, 0, f.qmin, rfl, Nat.two_pow_pos _, h2⟩
  · rw [if_neg k]
    unfold FP.Core.roundAt FP.Core.settle
    generalize FP.Core.nearest (FP.Core.unitsNum a e (FP.Core.quantum f a b e)) (FP.Core.unitsDen b e (FP.Core.quantum f a b e)) = c
    by_cases l : c < 2 ^ f.p
    · rw [if_pos l]; exact bound_ok s _ l
    · rw [if_neg l]; exact bound_ok s _ h1
theorem t32 : FP.Core.b32.tails = 8388608 := by decide
theorem x32 : FP.Core.b32.exps = 256 := by decide
theorem p32 : 2 ^ FP.Core.b32.p = 16777216 := by decide
theorem q32 : FP.Core.b32.qmin = -149 := by decide
theorem r32 : FP.Core.b32.qmax = 104 := by decide
theorem t64 : FP.Core.b64.tails = 4503599627370496 := by decide
theorem x64 : FP.Core.b64.exps = 2048 := by decide
theorem p64 : 2 ^ FP.Core.b64.p = 9007199254740992 := by decide
theorem q64 : FP.Core.b64.qmin = -1074 := by decide
theorem r64 : FP.Core.b64.qmax = 971 := by decide
theorem mask32 (n : Nat) : vf_n32 (.ofNat n) ↔ n % 4294967296 % 2147483648 ≤ 2139095040 := by
  unfold vf_n32
  rw [UInt32.le_iff_toNat_le, UInt32.toNat_and, show (0x7fffffff : UInt32).toNat = 2 ^ 31 - 1 from rfl, Nat.and_two_pow_sub_one_eq_mod]
  exact Iff.rfl
theorem mask64 (n : Nat) : vf_n64 (.ofNat n) ↔ n % 18446744073709551616 % 9223372036854775808 ≤ 9218868437227405312 := by
  unfold vf_n64
  rw [UInt64.le_iff_toNat_le, UInt64.toNat_and, show (0x7fffffffffffffff : UInt64).toNat = 2 ^ 63 - 1 from rfl, Nat.and_two_pow_sub_one_eq_mod]
  exact Iff.rfl
theorem enc32 {d : FP.Core.Datum} (h : dOk FP.Core.b32 d) : vf_n32 (.ofNat (FP.Core.encode FP.Core.b32 d)) := by
  rw [mask32]
  rcases h with ⟨s, rfl⟩ | ⟨s, c, q, rfl, hc, hq⟩
  · show FP.Core.assemble FP.Core.b32 s (FP.Core.b32.exps - 1) 0 % 4294967296 % 2147483648 ≤ 2139095040
    unfold FP.Core.assemble
    rw [t32, x32]
    have := Bool.toNat_le s
    omega
  · show (if c < FP.Core.b32.tails then FP.Core.assemble FP.Core.b32 s 0 c else FP.Core.assemble FP.Core.b32 s ((q - FP.Core.b32.qmin).toNat + 1) (c - FP.Core.b32.tails)) % 4294967296 % 2147483648 ≤ 2139095040
    rw [p32] at hc
    rw [r32] at hq
    unfold FP.Core.assemble
    rw [t32, x32, q32]
    have := Bool.toNat_le s
    by_cases k : c < 8388608
    · rw [if_pos k]; omega
    · rw [if_neg k]; omega
theorem enc64 {d : FP.Core.Datum} (h : dOk FP.Core.b64 d) : vf_n64 (.ofNat (FP.Core.encode FP.Core.b64 d)) := by
  rw [mask64]
  rcases h with ⟨s, rfl⟩ | ⟨s, c, q, rfl, hc, hq⟩
  · show FP.Core.assemble FP.Core.b64 s (FP.Core.b64.exps - 1) 0 % 18446744073709551616 % 9223372036854775808 ≤ 9218868437227405312
    unfold FP.Core.assemble
    rw [t64, x64]
    have := Bool.toNat_le s
    omega
  · show (if c < FP.Core.b64.tails then FP.Core.assemble FP.Core.b64 s 0 c else FP.Core.assemble FP.Core.b64 s ((q - FP.Core.b64.qmin).toNat + 1) (c - FP.Core.b64.tails)) % 18446744073709551616 % 9223372036854775808 ≤ 9218868437227405312
    rw [p64] at hc
    rw [r64] at hq
    unfold FP.Core.assemble
    rw [t64, x64, q64]
    have := Bool.toNat_le s
    by_cases k : c < 4503599627370496
    · rw [if_pos k]; omega
    · rw [if_neg k]; omega
theorem dec32 {a : UInt32} (h : vf_n32 a) : FP.Core.decode FP.Core.b32 a.toNat ≠ .nan := by
  have e : a = .ofNat a.toNat := UInt32.ofNat_toNat.symm
  rw [e, mask32] at h
  unfold FP.Core.decode FP.Core.fieldE FP.Core.fieldT
  rw [t32, x32]
  by_cases c : a.toNat / 8388608 % 256 = 256 - 1
  · rw [if_pos c]
    by_cases d : a.toNat % 8388608 = 0
    · rw [if_pos d]; exact fun h => FP.Core.Datum.noConfusion h
    · exfalso; omega
  · rw [if_neg c]
    by_cases d : a.toNat / 8388608 % 256 = 0
    · rw [if_pos d]; exact fun h => FP.Core.Datum.noConfusion h
    · rw [if_neg d]; exact fun h => FP.Core.Datum.noConfusion h
theorem dec64 {a : UInt64} (h : vf_n64 a) : FP.Core.decode FP.Core.b64 a.toNat ≠ .nan := by
  have e : a = .ofNat a.toNat := UInt64.ofNat_toNat.symm
  rw [e, mask64] at h
  unfold FP.Core.decode FP.Core.fieldE FP.Core.fieldT
  rw [t64, x64]
  by_cases c : a.toNat / 4503599627370496 % 2048 = 2048 - 1
  · rw [if_pos c]
    by_cases d : a.toNat % 4503599627370496 = 0
    · rw [if_pos d]; exact fun h => FP.Core.Datum.noConfusion h
    · exfalso; omega
  · rw [if_neg c]
    by_cases d : a.toNat / 4503599627370496 % 2048 = 0
    · rw [if_pos d]; exact fun h => FP.Core.Datum.noConfusion h
    · rw [if_neg d]; exact fun h => FP.Core.Datum.noConfusion h
def wfin (n : Nat) : Bool := match FP.Core.decode FP.Core.b32 (UInt32.ofNat (FP.Core.fromInt FP.Core.b32 (n : Int))).toNat with
  | .fin _ c _ => c != 0
  | _ => false
def wfins : Nat → Bool
  | 0 => true
  | n + 1 => wfin (n + 1) && wfins n
theorem wfins_all : wfins 5000 = true := by decide +kernel
theorem wfins_of : ∀ (m n : Nat), wfins m = true → 1 ≤ n → n ≤ m → wfin n = true := by
  intro m
  induction m with
  | zero => intro n _ h1 h2; omega
  | succ m ih =>
    intro n h h1 h2
    have h' : (wfin (m + 1) && wfins m) = true := h
    rw [Bool.and_eq_true] at h'
    by_cases e : n = m + 1
    · rw [e]; exact h'.1
    · exact ih n h'.2 h1 (by omega)
theorem i2f_fin {a : Int32} (h1 : 1 ≤ a.toInt) (h2 : a.toInt ≤ 5000) : ∃ (s : Bool) (c : Nat) (q : Int), FP.Core.decode FP.Core.b32 (FP.i2f a).toNat = .fin s c q ∧ ¬ c = 0 := by
  have k := wfins_of 5000 a.toInt.toNat wfins_all (by omega) (by omega)
  unfold wfin at k
  have e : ((a.toInt.toNat : Nat) : Int) = a.toInt := Int.toNat_of_nonneg (by omega)
  rw [e] at k
  have e2 : UInt32.ofNat (FP.Core.fromInt FP.Core.b32 a.toInt) = FP.i2f a := rfl
  rw [e2] at k
  revert k
  generalize FP.Core.decode FP.Core.b32 (FP.i2f a).toNat = d
  intro k
  cases d with
  | nan => exact absurd k (by decide)
  | inf s => exact absurd k (by simp)
  | fin s c q => exact ⟨s, c, q, rfl, by simpa using k⟩
theorem i2f_n32 (a : Int32) : vf_n32 (FP.i2f a) := by
  show vf_n32 (.ofNat (FP.Core.encode FP.Core.b32 (FP.Core.round FP.Core.b32 (FP.Core.ofInt a.toInt))))
  exact enc32 (rat_ok (by rw [t32, p32]; decide) (by rw [q32, r32]; decide) _ _ _ _)
theorem fdiv_n32 (a : Int32) {b : Int32} (h1 : 1 ≤ b.toInt) (h2 : b.toInt ≤ 5000) : vf_n32 (FP.fdiv (FP.i2f a) (FP.i2f b)) := by
  show vf_n32 (.ofNat (FP.Core.encode FP.Core.b32 (FP.Core.quotient FP.Core.b32 (FP.Core.decode FP.Core.b32 (FP.i2f a).toNat) (FP.Core.decode FP.Core.b32 (FP.i2f b).toNat))))
  refine enc32 ?_
  obtain ⟨s, c, q, e, hc⟩ := i2f_fin h1 h2
  have ha := dec32 (i2f_n32 a)
  rw [e]
  generalize FP.Core.decode FP.Core.b32 (FP.i2f a).toNat = u at *
  cases u with
  | nan => exact absurd rfl ha
  | inf s' => exact Or.inl ⟨_, rfl⟩
  | fin s' c' q' =>
    show dOk FP.Core.b32 (if c = 0 then (if c' = 0 then FP.Core.Datum.nan else .inf (s' != s)) else FP.Core.roundRatio FP.Core.b32 (s' != s) c' c (q' - q))
    rw [if_neg hc]
    exact rat_ok (by rw [t32, p32]; decide) (by rw [q32, r32]; decide) _ _ _ _
theorem f2d_n64 {a : UInt32} (h : vf_n32 a) : vf_n64 (FP.f2d a) := by
  have hd := dec32 h
  have hn : FP.Core.fIsNaN a = false := by
    unfold FP.Core.fIsNaN FP.Core.isNaN
    exact decide_eq_false hd
  have e : FP.f2d a = FP.Core.f2d a := by
    unfold FP.f2d
    rw [hn]; rfl
  rw [e]
  show vf_n64 (.ofNat (FP.Core.encode FP.Core.b64 (FP.Core.round FP.Core.b64 (FP.Core.decode FP.Core.b32 a.toNat))))
  refine enc64 ?_
  generalize FP.Core.decode FP.Core.b32 a.toNat = u at *
  cases u with
  | nan => exact absurd rfl hd
  | inf s => exact Or.inl ⟨s, rfl⟩
  | fin s c q => exact rat_ok (by rw [t64, p64]; decide) (by rw [q64, r64]; decide) _ _ _ _
theorem cmp_self_int (i : Int) : compare i i = .eq := by
  unfold compare instOrdInt compareOfLessAndEq
  simp
theorem dcmp_eq_self {a : UInt64} (h : vf_n64 a) : FP.dcmp a a = some .eq := by
  have hd := dec64 h
  show FP.Core.order (FP.Core.decode FP.Core.b64 a.toNat) (FP.Core.decode FP.Core.b64 a.toNat) = some .eq
  generalize FP.Core.decode FP.Core.b64 a.toNat = u at *
  cases u with
  | nan => exact absurd rfl hd
  | inf s => exact congrArg some (cmp_self_int _)
  | fin s c q => exact congrArg some (cmp_self_int _)
theorem foot_rng {w : WS} {B : Int} (hI : InvW B w) : 0 ≤ (f_X2_foot w).toInt ∧ (f_X2_foot w).toInt ≤ 250000 := by
  obtain ⟨⟨d0, d1⟩, ⟨s0, s1⟩, ⟨w0, w1⟩, -, -, ⟨c0, c1⟩, -, -, -, ⟨g0, l0, gl⟩, -⟩ := hI
  have e10 : (10 : Int32).toInt = 10 := rfl
  have hb : ∀ j : Int32, 0 ≤ j.toInt → j.toInt ≤ 5000 → 0 ≤ (f_X2_foot_b48 w j).toInt ∧ (f_X2_foot_b48 w j).toInt ≤ 250000 := by
    intro j j0 j1
    have m0 : 0 ≤ (W_weight w).toInt * j.toInt := Int.mul_nonneg w0 j0
    have m1 : (W_weight w).toInt * j.toInt ≤ 300 * j.toInt := Int.mul_le_mul_of_nonneg_right w1 j0
    have em : (W_weight w * j).toInt = (W_weight w).toInt * j.toInt := i_mul (by omega) (by omega)
    have ed : (W_weight w * j / 10).toInt = (W_weight w).toInt * j.toInt / 10 := by rw [i_div (by rw [em]; omega) (by decide), em, e10]
    unfold f_X2_foot_b48
    rw [i_add (by rw [ed]; omega) (by rw [ed]; omega), ed]
    omega
  have es : (W_shoe w - W_gas w).toInt = (W_shoe w).toInt - (W_gas w).toInt := i_sub (by omega) (by omega)
  have e0 : (0 : Int32).toInt = 0 := rfl
  unfold f_X2_foot
  generalize (if f_X2_hasGas w = 0 then (0 : Int32) else if W_shoe w ≤ W_place w then 0 else 1) = cnd
  by_cases c : cnd = 0
  · rw [if_pos c]; exact hb _ s0 (by omega)
  · rw [if_neg c]
    have hi : (imax 0 (W_shoe w - W_gas w)).toInt = max 0 ((W_shoe w).toInt - (W_gas w).toInt) := by rw [imax_i, es, e0]
    exact hb _ (by rw [hi]; omega) (by rw [hi]; omega)
theorem op_equivalent {x : XS} {w : WS} {r : RS} {t : TS} {G : MS} (h : Rel x w r t G) : (ok_X3_equivalent w ∧ ok_X4_equivalent G) ∧
    ((∃ val : UInt32, vf_n32 val ∧ f_X3_equivalent w = (0, val) ∧ f_X4_equivalent G = (val, M_set_thrown G 0)) ∨
    (f_X3_equivalent w = (3, 0) ∧ f_X4_equivalent G = (FP.fconst0, M_set_thrown G 1))) := by
  obtain ⟨ba, g, rfl, hI, hG⟩ := h
  have hd := hI.1
  have hs := hI.2.1
  have hf := foot_rng hI
  have e0 : (0 : Int32).toInt = 0 := rfl
  have e10 : (10 : Int32).toInt = 10 := rfl
  have em : (10 * f_X2_foot w).toInt = 10 * (f_X2_foot w).toInt := by rw [i_mul (by rw [e10]; omega) (by rw [e10]; omega), e10]
  have hfoot : f_X4_foot (put w ba (M_set_thrown g 0)) = f_X2_foot w := foot_eq ba _ hI
  unfold f_X3_equivalent f_X4_equivalent ok_X3_equivalent ok_X4_equivalent
  by_cases c : 0 < W_shoe w
  · have c' := c
    rw [i_lt, e0] at c'
    have cm : ¬ W_shoe w ≤ 0 := by rw [i_le, e0]; omega
    have hn := fdiv_n32 (10 * f_X2_foot w) (b := W_shoe w) (by omega) (by omega)
    exact ⟨⟨by simp -implicitDefEqProofs only [c, if_true, if_false, true_implies, false_implies, not_true_eq_false, not_false_eq_true, and_true, true_and, gw0, gw1, gw2, gw3, gwd, h10, h20, h30, eq_self, ite_self, implies_true, wi_eq]; exact hn, by simp -implicitDefEqProofs only [cm, hfoot, if_true, if_false, true_implies, false_implies, not_true_eq_false, not_false_eq_true, and_true, true_and, gw0, gw1, gw2, gw3, gwd, h10, h20, h30, eq_self, ite_self, implies_true, wi_eq, M_thrown_put, M_pore_put, M_breaks_put, M_rate_put, M_bearsGas_put, M_depth_put, M_shoe_put, M_weight_put, M_isClosed_put, M_choke_put, M_charge_put, M_place_put, M_gas_put, M_liquid_put, M_minutes_put, M_vented_put, M_lost_put, M_pumped_put, M_pumpedWeight_put, M_valve_put, M_brokenAfter_put, M_cement_put, M_casedAfter_put, M_flowed_put, M_kept_put, M_tests_put, M_tested_put, M_by_put, M_isPassed_put, M_testedAt_put, M_stops_put, M_set_thrown_put, M_set_pore_put, M_set_breaks_put, M_set_rate_put, M_set_bearsGas_put, M_set_depth_put, M_set_shoe_put, M_set_weight_put, M_set_isClosed_put, M_set_choke_put, M_set_charge_put, M_set_place_put, M_set_gas_put, M_set_liquid_put, M_set_minutes_put, M_set_vented_put, M_set_lost_put, M_set_pumped_put, M_set_pumpedWeight_put, M_set_valve_put, M_set_brokenAfter_put, M_set_cement_put, M_set_casedAfter_put, M_set_flowed_put, M_set_kept_put, M_set_tests_put, M_set_tested_put, M_set_by_put, M_set_isPassed_put, M_set_testedAt_put, M_set_stops_put]; exact hn⟩, Or.inl ⟨_, hn, by simp -implicitDefEqProofs only [c, if_true, if_false, true_implies, false_implies, not_true_eq_false, not_false_eq_true, and_true, true_and, gw0, gw1, gw2, gw3, gwd, h10, h20, h30, eq_self, ite_self, implies_true, wi_eq], by simp -implicitDefEqProofs only [cm, hfoot, if_true, if_false, true_implies, false_implies, not_true_eq_false, not_false_eq_true, and_true, true_and, gw0, gw1, gw2, gw3, gwd, h10, h20, h30, eq_self, ite_self, implies_true, wi_eq, M_thrown_put, M_pore_put, M_breaks_put, M_rate_put, M_bearsGas_put, M_depth_put, M_shoe_put, M_weight_put, M_isClosed_put, M_choke_put, M_charge_put, M_place_put, M_gas_put, M_liquid_put, M_minutes_put, M_vented_put, M_lost_put, M_pumped_put, M_pumpedWeight_put, M_valve_put, M_brokenAfter_put, M_cement_put, M_casedAfter_put, M_flowed_put, M_kept_put, M_tests_put, M_tested_put, M_by_put, M_isPassed_put, M_testedAt_put, M_stops_put, M_set_thrown_put, M_set_pore_put, M_set_breaks_put, M_set_rate_put, M_set_bearsGas_put, M_set_depth_put, M_set_shoe_put, M_set_weight_put, M_set_isClosed_put, M_set_choke_put, M_set_charge_put, M_set_place_put, M_set_gas_put, M_set_liquid_put, M_set_minutes_put, M_set_vented_put, M_set_lost_put, M_set_pumped_put, M_set_pumpedWeight_put, M_set_valve_put, M_set_brokenAfter_put, M_set_cement_put, M_set_casedAfter_put, M_set_flowed_put, M_set_kept_put, M_set_tests_put, M_set_tested_put, M_set_by_put, M_set_isPassed_put, M_set_testedAt_put, M_set_stops_put]⟩⟩
  · have cm : W_shoe w ≤ 0 := by rw [i_lt, e0] at c; rw [i_le, e0]; omega
    exact ⟨⟨by simp -implicitDefEqProofs only [c, if_true, if_false, true_implies, false_implies, not_true_eq_false, not_false_eq_true, and_true, true_and, gw0, gw1, gw2, gw3, gwd, h10, h20, h30, eq_self, ite_self, implies_true, wi_eq], by simp -implicitDefEqProofs only [cm, if_true, if_false, true_implies, false_implies, not_true_eq_false, not_false_eq_true, and_true, true_and, gw0, gw1, gw2, gw3, gwd, h10, h20, h30, eq_self, ite_self, implies_true, wi_eq, M_thrown_put, M_pore_put, M_breaks_put, M_rate_put, M_bearsGas_put, M_depth_put, M_shoe_put, M_weight_put, M_isClosed_put, M_choke_put, M_charge_put, M_place_put, M_gas_put, M_liquid_put, M_minutes_put, M_vented_put, M_lost_put, M_pumped_put, M_pumpedWeight_put, M_valve_put, M_brokenAfter_put, M_cement_put, M_casedAfter_put, M_flowed_put, M_kept_put, M_tests_put, M_tested_put, M_by_put, M_isPassed_put, M_testedAt_put, M_stops_put, M_set_thrown_put, M_set_pore_put, M_set_breaks_put, M_set_rate_put, M_set_bearsGas_put, M_set_depth_put, M_set_shoe_put, M_set_weight_put, M_set_isClosed_put, M_set_choke_put, M_set_charge_put, M_set_place_put, M_set_gas_put, M_set_liquid_put, M_set_minutes_put, M_set_vented_put, M_set_lost_put, M_set_pumped_put, M_set_pumpedWeight_put, M_set_valve_put, M_set_brokenAfter_put, M_set_cement_put, M_set_casedAfter_put, M_set_flowed_put, M_set_kept_put, M_set_tests_put, M_set_tested_put, M_set_by_put, M_set_isPassed_put, M_set_testedAt_put, M_set_stops_put]⟩, Or.inr ⟨by simp -implicitDefEqProofs only [c, if_true, if_false, true_implies, false_implies, not_true_eq_false, not_false_eq_true, and_true, true_and, gw0, gw1, gw2, gw3, gwd, h10, h20, h30, eq_self, ite_self, implies_true, wi_eq], by simp -implicitDefEqProofs only [cm, if_true, if_false, true_implies, false_implies, not_true_eq_false, not_false_eq_true, and_true, true_and, gw0, gw1, gw2, gw3, gwd, h10, h20, h30, eq_self, ite_self, implies_true, wi_eq, M_thrown_put, M_pore_put, M_breaks_put, M_rate_put, M_bearsGas_put, M_depth_put, M_shoe_put, M_weight_put, M_isClosed_put, M_choke_put, M_charge_put, M_place_put, M_gas_put, M_liquid_put, M_minutes_put, M_vented_put, M_lost_put, M_pumped_put, M_pumpedWeight_put, M_valve_put, M_brokenAfter_put, M_cement_put, M_casedAfter_put, M_flowed_put, M_kept_put, M_tests_put, M_tested_put, M_by_put, M_isPassed_put, M_testedAt_put, M_stops_put, M_set_thrown_put, M_set_pore_put, M_set_breaks_put, M_set_rate_put, M_set_bearsGas_put, M_set_depth_put, M_set_shoe_put, M_set_weight_put, M_set_isClosed_put, M_set_choke_put, M_set_charge_put, M_set_place_put, M_set_gas_put, M_set_liquid_put, M_set_minutes_put, M_set_vented_put, M_set_lost_put, M_set_pumped_put, M_set_pumpedWeight_put, M_set_valve_put, M_set_brokenAfter_put, M_set_cement_put, M_set_casedAfter_put, M_set_flowed_put, M_set_kept_put, M_set_tests_put, M_set_tested_put, M_set_by_put, M_set_isPassed_put, M_set_testedAt_put, M_set_stops_put]⟩⟩
