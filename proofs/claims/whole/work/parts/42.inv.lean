/-! What holds of the class's state throughout, and what ties the rock of both. -/
def InvW (B : Int) (w : WS) : Prop :=
  (0 ≤ (W_depth w).toInt ∧ (W_depth w).toInt ≤ 5000) ∧ (0 ≤ (W_shoe w).toInt ∧ (W_shoe w).toInt ≤ (W_depth w).toInt) ∧ (0 ≤ (W_weight w).toInt ∧ (W_weight w).toInt ≤ 300) ∧ bz (W_isClosed w) ∧ bz (W_hasBrokenSinceTest w) ∧
  (0 ≤ (W_choke w).toInt ∧ (W_choke w).toInt ≤ 100000) ∧ (0 ≤ (W_valveStrength w).toInt ∧ (W_valveStrength w).toInt ≤ 100000) ∧ (0 ≤ (W_charge w).toInt ∧ (W_charge w).toInt ≤ 20000000 * (W_minutes w).toInt) ∧
  (0 ≤ (W_place w).toInt ∧ (W_place w).toInt ≤ (W_depth w).toInt) ∧ (0 ≤ (W_gas w).toInt ∧ 0 ≤ (W_liquid w).toInt ∧ (W_gas w).toInt + (W_liquid w).toInt ≤ (W_depth w).toInt) ∧
  (0 ≤ (W_minutes w).toInt ∧ (W_minutes w).toInt ≤ B) ∧ (0 ≤ (W_lost w).toInt ∧ (W_lost w).toInt ≤ 5 * (W_minutes w).toInt) ∧ (W_isClosed w = 0 → W_choke w = 0)
def RelR (r : RS) (g : MS) : Prop := ∀ j : Nat, j < 50 → R_pores r j = M_pore g j ∧ R_breaks r j = M_breaks g j ∧ R_rates r j = M_rate g j ∧ R_gases r j = M_bearsGas g j
def InvR (r : RS) : Prop := ∀ j : Nat, j < 50 → (0 ≤ (R_pores r j).toInt ∧ (R_pores r j).toInt ≤ 300) ∧ (0 ≤ (R_breaks r j).toInt ∧ (R_breaks r j).toInt ≤ 300) ∧ (0 ≤ (R_rates r j).toInt ∧ (R_rates r j).toInt ≤ 1000) ∧ bz (R_gases r j)
theorem read_in {f : Nat → Int32} {i : Int32} {n : Nat} (hn : n < 2147483648) (h0 : 0 ≤ i.toInt) (h : i.toInt < n) : f_X3_read n f i = f i.toNatClampNeg := by
  unfold f_X3_read
  rw [if_neg, if_neg]
  · rw [i_le, Int32.toInt_ofNat_of_lt hn]; omega
  · rw [i_lt]; show ¬ i.toInt < 0; omega
theorem read_out {f : Nat → Int32} {i : Int32} {n : Nat} (h : i.toInt < 0) : f_X3_read n f i = 0 := by
  unfold f_X3_read
  rw [if_pos]; rw [i_lt]; exact h
theorem lay_eq {d : Int32} (h : 0 ≤ d.toInt) : f_X0_layerOf d = f_X4_layerAt d := by
  unfold f_X0_layerOf f_X4_layerAt
  by_cases h0 : d = 0
  · subst h0; rfl
  · rw [if_neg h0, if_pos]
    rw [i_lt]; rw [i_eq] at h0
    have : (0 : Int32).toInt = 0 := rfl
    omega
theorem lay_rng {d : Int32} (h : 0 ≤ d.toInt) (h2 : d.toInt ≤ 5000) : 0 ≤ (f_X4_layerAt d).toInt ∧ (f_X4_layerAt d).toInt < 50 ∧ (0 < d.toInt → (f_X4_layerAt d).toInt = (d.toInt - 1) / 100) := by
  have e1 : (1 : Int32).toInt = 1 := rfl
  have e100 : (100 : Int32).toInt = 100 := rfl
  unfold f_X4_layerAt
  by_cases h0 : d = 0
  · rw [if_pos h0]; subst h0
    exact ⟨by decide, by decide, fun h => absurd h (by decide)⟩
  · rw [if_neg h0]
    rw [i_eq] at h0
    have h0 : ¬ d.toInt = 0 := h0
    have h3 : (d - 1).toInt = d.toInt - 1 := by rw [i_sub] <;> omega
    rw [i_div (by omega) (by omega), h3, e100]
    omega
theorem pore_eq {r : RS} {g : MS} {d : Int32} (hR : RelR r g) (hI : InvR r) (h : 0 ≤ d.toInt) (h2 : d.toInt ≤ 5000) :
    f_X0_poreAt r d = f_X4_poreAt g d ∧ ok_X4_poreAt d ∧ 0 ≤ (f_X0_poreAt r d).toInt ∧ (f_X0_poreAt r d).toInt ≤ 30 * d.toInt ∧ ∃ p : Int, 0 ≤ p ∧ p ≤ 300 ∧ (f_X0_poreAt r d).toInt = p * d.toInt / 10 := by
  obtain ⟨a, b, -⟩ := lay_rng h h2
  have hlt := cl_lt a b
  have e1 : f_X0_poreAt r d = ((R_pores r (f_X4_layerAt d).toNatClampNeg) * d) / 10 := by
    unfold f_X0_poreAt; rw [lay_eq h, read_in (by decide) a b]
  obtain ⟨⟨p0, p1⟩, -⟩ := hI _ hlt
  generalize hp : R_pores r (f_X4_layerAt d).toNatClampNeg = pv at *
  have hm0 : 0 ≤ pv.toInt * d.toInt := Int.mul_nonneg p0 h
  have hm1 : pv.toInt * d.toInt ≤ 300 * d.toInt := Int.mul_le_mul_of_nonneg_right p1 h
  have em : (pv * d).toInt = pv.toInt * d.toInt := i_mul (by omega) (by omega)
  have e2 : (pv * d / 10).toInt = pv.toInt * d.toInt / 10 := by
    rw [i_div (by rw [em]; omega) (by decide), em]; rfl
  refine ⟨?_, ⟨vin a b, trivial⟩, ?_, ?_, pv.toInt, p0, p1, ?_⟩
  · rw [e1]; unfold f_X4_poreAt; rw [← (hR _ hlt).1, hp]
  · rw [e1, e2]; omega
  · rw [e1, e2]; omega
  · rw [e1, e2]
theorem break_eq {r : RS} {g : MS} {d : Int32} (hR : RelR r g) (h : 0 ≤ d.toInt) (h2 : d.toInt ≤ 5000) : f_X0_breakAt r d = f_X4_breakAt g d ∧ ok_X4_breakAt d := by
  obtain ⟨a, b, -⟩ := lay_rng h h2
  have hlt := cl_lt a b
  refine ⟨?_, ⟨vin a b, trivial⟩⟩
  unfold f_X0_breakAt f_X4_breakAt
  rw [lay_eq h, read_in (by decide) a b, (hR _ hlt).2.1]
theorem rate_eq {r : RS} {g : MS} {d : Int32} (hR : RelR r g) (hI : InvR r) (h : 0 ≤ d.toInt) (h2 : d.toInt ≤ 5000) : f_X0_rateAt r d = M_rate g (f_X4_layerAt d).toNatClampNeg ∧ 0 ≤ (f_X0_rateAt r d).toInt ∧ (f_X0_rateAt r d).toInt ≤ 1000 ∧ vp_in (f_X4_layerAt d) 50 := by
  obtain ⟨a, b, -⟩ := lay_rng h h2
  have hlt := cl_lt a b
  have e : f_X0_rateAt r d = R_rates r (f_X4_layerAt d).toNatClampNeg := by unfold f_X0_rateAt; rw [lay_eq h, read_in (by decide) a b]
  obtain ⟨-, -, ⟨c0, c1⟩, -⟩ := hI _ hlt
  exact ⟨by rw [e, (hR _ hlt).2.2.1], by rw [e]; exact c0, by rw [e]; exact c1, vin a b⟩
theorem gas_eq {r : RS} {g : MS} {d : Int32} (hR : RelR r g) (hI : InvR r) (h : 0 ≤ d.toInt) (h2 : d.toInt ≤ 5000) : (f_X0_bearsGasAt r d = 0 ↔ M_bearsGas g (f_X4_layerAt d).toNatClampNeg = 0) := by
  obtain ⟨a, b, -⟩ := lay_rng h h2
  have hlt := cl_lt a b
  unfold f_X0_bearsGasAt
  rw [lay_eq h, read_in (by decide) a b, ← (hR _ hlt).2.2.2]
  rcases (hI _ hlt).2.2.2 with h1 | h1 <;> rw [h1] <;> decide
