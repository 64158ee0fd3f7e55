/-! A minute: what the model does in it is what the class does, step by step. -/
theorem imax0_a (z : Int32) : (if 0 ≤ z then z else 0) = imax 0 z := by
  unfold imax
  by_cases h : 0 < z
  · rw [if_pos h, if_pos (by rw [i_le]; rw [i_lt] at h; omega)]
  · rw [if_neg h]
    by_cases h2 : 0 ≤ z
    · rw [if_pos h2, i_eq]; rw [i_lt] at h; rw [i_le] at h2; omega
    · rw [if_neg h2]
theorem imax0_b (z : Int32) : (if z ≤ 0 then 0 else z) = imax 0 z := by
  unfold imax
  by_cases h : 0 < z
  · rw [if_pos h, if_neg (by rw [i_le]; rw [i_lt] at h; omega)]
  · rw [if_neg h, if_pos (by rw [i_le]; rw [i_lt] at h; omega)]
theorem imax1_a (z : Int32) : (if 1 ≤ z then z else 1) = imax 1 z := by
  unfold imax
  by_cases h : 1 < z
  · rw [if_pos h, if_pos (by rw [i_le]; rw [i_lt] at h; omega)]
  · rw [if_neg h]
    by_cases h2 : 1 ≤ z
    · rw [if_pos h2, i_eq]; rw [i_lt] at h; rw [i_le] at h2; omega
    · rw [if_neg h2]
theorem imax1_b (z : Int32) : (if 0 < z then z else 1) = imax 1 z := by
  unfold imax
  have e1 : (1 : Int32).toInt = 1 := rfl
  have e0 : (0 : Int32).toInt = 0 := rfl
  by_cases h : 1 < z
  · rw [if_pos h, if_pos (by rw [i_lt]; rw [i_lt] at h; omega)]
  · rw [if_neg h]
    by_cases h2 : 0 < z
    · rw [if_pos h2, i_eq]; rw [i_lt] at h h2; omega
    · rw [if_neg h2]
theorem hasGas_iff (w : WS) : f_X2_hasGas w = 0 ↔ (W_charge w).toInt ≤ 0 := by
  unfold f_X2_hasGas
  have e0 : (0 : Int64).toInt = 0 := rfl
  by_cases h : lg_cmp (W_charge w) 0 ≤ 0
  · rw [if_pos h]; rw [cmp_le0, e0] at h; exact ⟨fun _ => h, fun _ => rfl⟩
  · rw [if_neg h]; rw [cmp_le0, e0] at h; exact ⟨fun h2 => absurd h2 (by decide), fun h2 => absurd h2 h⟩
theorem hasGas_congr {w w2 : WS} (h : W_charge w = W_charge w2) : f_X2_hasGas w = f_X2_hasGas w2 := by unfold f_X2_hasGas; rw [h]
theorem gp_eq (w : WS) (ba : Int32) (g : MS) : f_X4_gasPressure (put w ba g) = f_X2_gasPressure w := by
  unfold f_X4_gasPressure f_X2_gasPressure
  simp only [M_weight_put, M_place_put, M_choke_put]
  exact imax1_a _
theorem gp_pos (w : WS) : 1 ≤ (f_X2_gasPressure w).toInt := by
  unfold f_X2_gasPressure; rw [imax_i]; have : (1 : Int32).toInt = 1 := rfl; omega
theorem lmin_a (x y : Int64) : (if y.toInt ≤ x.toInt then y else x) = lmin x y := by
  unfold lmin
  by_cases h : y < x
  · rw [if_pos h, if_pos (by rw [l_lt] at h; omega)]
  · rw [if_neg h]
    by_cases h2 : y.toInt ≤ x.toInt
    · rw [if_pos h2, l_eq]; rw [l_lt] at h; omega
    · rw [if_neg h2]
theorem measure_eq {w : WS} {ba : Int32} {g : MS} (hc : 0 < (W_charge w).toInt) : f_X4_measure (put w ba g) = put (f_X2_measureGas w) ba g ∧ ok_X4_measure (put w ba g) := by
  have h1 : ¬ f_X2_hasGas w = 0 := by rw [hasGas_iff]; omega
  have h2 : ¬ f_X2_gasPressure w ≤ 0 := by have := gp_pos w; rw [i_le]; show ¬ _ ≤ (0 : Int); omega
  constructor
  · unfold f_X4_measure f_X2_measureGas
    rw [if_neg h1, if_neg h2]
    simp only [gp_eq, M_charge_put, M_depth_put, M_liquid_put, cmp_ge0, ← lmin_a]
    by_cases h3 : (W_depth w - W_liquid w).toInt64.toInt ≤ (W_charge w / (f_X2_gasPressure w).toInt64).toInt
    · rw [if_pos h3, if_pos h3]; rfl
    · rw [if_neg h3, if_neg h3]; rfl
  · unfold ok_X4_measure
    rw [gp_eq]
    exact ⟨i2l_ne h2, trivial⟩
theorem measure_none {w : WS} (hc : (W_charge w).toInt ≤ 0) : f_X2_measureGas w = w := by
  unfold f_X2_measureGas; rw [if_pos ((hasGas_iff w).mpr hc)]
theorem vent_none {w : WS} {p : Int32} (hc : (W_charge w).toInt ≤ 0) : f_X2_ventGas w p = w := by
  unfold f_X2_ventGas; rw [if_pos ((hasGas_iff w).mpr hc)]
theorem raise_none {w : WS} {p : Int32} (hc : (W_charge w).toInt ≤ 0) : f_X2_raiseGas w p = w := by
  unfold f_X2_raiseGas; rw [if_pos ((hasGas_iff w).mpr hc)]
theorem rise_b47 {w : WS} {ba p j : Int32} {g : MS} (hc : 0 < (W_charge w).toInt) : f_X4_rise_b47 (put w ba g) p j = put (f_X2_measureGas (f_X2_ventGas (W_set_place w j) p)) ba g ∧ ok_X4_rise_b47 (put w ba g) p j := by
  have hc1 : 0 < (W_charge (W_set_place w j)).toInt := hc
  have h2 : ¬ f_X2_hasGas (W_set_place w j) = 0 := by rw [hasGas_iff]; omega
  have m1 := measure_eq (ba := ba) (g := g) hc1
  have hv : (W_charge (f_X2_ventGas_b25 (W_set_place w j))).toInt ≤ 0 := by unfold f_X2_ventGas_b25; exact Int.le_refl 0
  have e95 : f_X4_rise_b95 (put w ba g) p j = put (f_X2_measureGas (W_set_place w j)) ba g := m1.1
  have o95 : ok_X4_rise_b95 (put w ba g) p j := ⟨m1.2, trivial⟩
  have e68 : f_X4_rise_b68 (put w ba g) p j = put (f_X2_measureGas (f_X2_ventGas_b25 (W_set_place w j))) ba g := by rw [measure_none hv]; rfl
  unfold f_X4_rise_b47 ok_X4_rise_b47 f_X2_ventGas
  rw [if_neg h2]
  simp only [e95, e68]
  by_cases c1 : j = 0
  · have c1a : W_place (W_set_place w j) = 0 := c1
    by_cases c2 : p = 0
    · by_cases c3 : W_isClosed w = 0
      · have c3a : W_isClosed (W_set_place w j) = 0 := c3
        have c3b : M_isClosed (put w ba g) = 0 := c3
        simp only [if_pos c1, if_pos c1a, if_pos c2, if_pos c3a, if_pos c3b]
        exact ⟨trivial, ⟨fun _ => ⟨fun _ => ⟨fun _ => trivial, fun h => absurd c3 h⟩, fun h => absurd c2 h⟩, fun h => absurd c1 h⟩⟩
      · have c3a : ¬ W_isClosed (W_set_place w j) = 0 := c3
        have c3b : ¬ M_isClosed (put w ba g) = 0 := c3
        simp only [if_pos c1, if_pos c1a, if_pos c2, if_neg c3a, if_neg c3b]
        exact ⟨trivial, ⟨fun _ => ⟨fun _ => ⟨fun h => absurd h c3, fun _ => o95⟩, fun h => absurd c2 h⟩, fun h => absurd c1 h⟩⟩
    · simp only [if_pos c1, if_pos c1a, if_neg c2]
      exact ⟨trivial, ⟨fun _ => ⟨fun h => absurd h c2, fun _ => trivial⟩, fun h => absurd c1 h⟩⟩
  · have c1a : ¬ W_place (W_set_place w j) = 0 := c1
    simp only [if_neg c1, if_neg c1a]
    exact ⟨trivial, ⟨fun h => absurd h c1, fun _ => o95⟩⟩
theorem rise_eq {w : WS} {ba p : Int32} {g : MS} (hc : 0 < (W_charge w).toInt) : f_X4_rise (put w ba g) p = put (f_X2_measureGas (f_X2_ventGas (f_X2_raiseGas w p) p)) ba g ∧ ok_X4_rise (put w ba g) p := by
  have h1 : ¬ f_X2_hasGas w = 0 := by rw [hasGas_iff]; omega
  have e0 : f_X2_raiseGas w p = W_set_place w (imax 0 (W_place w - (if p = 0 then (if W_isClosed w = 0 then 8 else 2) else 20))) := by unfold f_X2_raiseGas; rw [if_neg h1]
  rw [e0, ← imax0_a]
  generalize hE : (W_place w - (if p = 0 then (if W_isClosed w = 0 then 8 else 2) else 20)) = E
  have hE2 : (M_place (put w ba g) - (if p = 0 then (if M_isClosed (put w ba g) = 0 then 8 else 2) else 20)) = E := hE
  unfold f_X4_rise ok_X4_rise
  rw [hE2]
  by_cases c : 0 ≤ E
  · rw [if_pos c, if_pos c]
    exact ⟨(rise_b47 hc).1, fun _ => (rise_b47 hc).2, fun h => absurd c h⟩
  · rw [if_neg c, if_neg c]
    exact ⟨(rise_b47 hc).1, fun h => absurd h c, fun _ => (rise_b47 hc).2⟩
theorem column_eq {w : WS} {ba : Int32} {g : MS} {B : Int} (hI : InvW B w) : f_X4_column (put w ba g) = f_X2_column w := by
  obtain ⟨⟨d0, d1⟩, -, -, -, -, -, -, -, -, ⟨g0, l0, gl⟩, -⟩ := hI
  have e1 : (W_depth w - W_gas w).toInt = (W_depth w).toInt - (W_gas w).toInt := i_sub (by omega) (by omega)
  have e2 : (W_depth w - W_gas w - W_liquid w).toInt = (W_depth w).toInt - (W_gas w).toInt - (W_liquid w).toInt := by rw [i_sub (by omega) (by omega), e1]
  unfold f_X4_column f_X2_column
  simp only [M_weight_put, M_depth_put, M_gas_put, M_liquid_put]
  rw [imax0 (by omega)]
theorem bottom_eq {w : WS} {ba : Int32} {g : MS} {B : Int} (hI : InvW B w) : f_X4_bottom (put w ba g) = f_X2_bottom w := by
  unfold f_X4_bottom f_X2_bottom
  rw [column_eq hI, M_choke_put]
/-- the column as a number: between 0 and 150000 -/
theorem column_rng {w : WS} {B : Int} (hI : InvW B w) : 0 ≤ (f_X2_column w).toInt ∧ (f_X2_column w).toInt ≤ 150000 := by
  obtain ⟨⟨d0, d1⟩, -, ⟨w0, w1⟩, -, -, -, -, -, -, ⟨g0, l0, gl⟩, -⟩ := hI
  have e1 : (W_depth w - W_gas w).toInt = (W_depth w).toInt - (W_gas w).toInt := i_sub (by omega) (by omega)
  have e2 : (W_depth w - W_gas w - W_liquid w).toInt = (W_depth w).toInt - (W_gas w).toInt - (W_liquid w).toInt := by rw [i_sub (by omega) (by omega), e1]
  have e100 : (100 : Int32).toInt = 100 := rfl
  have e10 : (10 : Int32).toInt = 10 := rfl
  unfold f_X2_column
  rw [imax0 (by omega)]
  generalize hz : W_depth w - W_gas w - W_liquid w = z at *
  have m0 : 0 ≤ (W_weight w).toInt * z.toInt := Int.mul_nonneg w0 (by omega)
  have m1 : (W_weight w).toInt * z.toInt ≤ 300 * z.toInt := Int.mul_le_mul_of_nonneg_right w1 (by omega)
  have em : (W_weight w * z).toInt = (W_weight w).toInt * z.toInt := i_mul (by omega) (by omega)
  have el : (100 * W_liquid w).toInt = 100 * (W_liquid w).toInt := by rw [i_mul, e100] <;> rw [e100] <;> omega
  have es : (W_weight w * z + 100 * W_liquid w).toInt = (W_weight w).toInt * z.toInt + 100 * (W_liquid w).toInt := by rw [i_add, em, el] <;> rw [em, el] <;> omega
  rw [i_div (by rw [es]; omega) (by decide), es, e10]
  omega
theorem shut_eq {w : WS} {ba : Int32} {g : MS} {r : RS} {B : Int} (hI : InvW B w) (hR : RelR r g) (hIR : InvR r) (hcl : ¬ W_isClosed w = 0) :
    ∃ ba2 : Int32, f_X4_shut (put w ba g) = put (f_X2_setChoke w r) ba2 g ∧ ok_X4_shut (put w ba g) ∧ ((ba2 = ba ∧ W_hasBrokenSinceTest (f_X2_setChoke w r) = W_hasBrokenSinceTest w) ∨ (ba2 = M_tests g ∧ W_hasBrokenSinceTest (f_X2_setChoke w r) = 1)) := by
  have hd := hI.1
  obtain ⟨p1, p2, -⟩ := pore_eq hR hIR hd.1 hd.2
  have pp : f_X4_poreAt (put w ba g) (W_depth w) = f_X0_poreAt r (W_depth w) := by rw [p1]; rfl
  have pd : f_X4_poreAt (put w ba g) (M_depth (put w ba g)) = f_X0_poreAt r (W_depth w) := pp
  unfold f_X4_shut ok_X4_shut f_X2_setChoke
  rw [if_neg hcl, pd, column_eq hI, imax0_b]
  by_cases c : imax 0 (f_X0_poreAt r (W_depth w) - f_X2_column w) ≤ W_valveStrength w
  · have c2 : imax 0 (f_X0_poreAt r (W_depth w) - f_X2_column w) ≤ M_valve (put w ba g) := c
    have c3 : imax 0 (f_X0_poreAt r (W_depth w) - f_X2_column w) ≤ W_valveStrength (W_set_choke w (imax 0 (f_X0_poreAt r (W_depth w) - f_X2_column w))) := c
    first | rw [if_pos c2, if_pos c] | rw [if_pos c2, if_pos c3]
    exact ⟨ba, rfl, ⟨p2, trivial⟩, Or.inl ⟨rfl, rfl⟩⟩
  · have c2 : ¬ imax 0 (f_X0_poreAt r (W_depth w) - f_X2_column w) ≤ M_valve (put w ba g) := c
    rw [if_neg c2, if_neg c]
    exact ⟨M_tests g, rfl, ⟨p2, trivial⟩, Or.inr ⟨rfl, rfl⟩⟩
theorem foot_eq {w : WS} (ba : Int32) (g : MS) {B : Int} (hI : InvW B w) : f_X4_foot (put w ba g) = f_X2_foot w := by
  obtain ⟨⟨d0, d1⟩, ⟨s0, s1⟩, -, -, -, -, -, -, -, ⟨g0, l0, gl⟩, -⟩ := hI
  have es : (W_shoe w - W_gas w).toInt = (W_shoe w).toInt - (W_gas w).toInt := i_sub (by omega) (by omega)
  have e0 : (0 : Int64).toInt = 0 := rfl
  have h1 : ¬ (1 : Int32) = 0 := by decide
  have z57 : f_X4_foot_b57 (put w ba g) = f_X2_foot_b48 w (W_shoe w) := rfl
  have z61 : ∀ j : Int32, f_X4_foot_b61 (put w ba g) j = f_X2_foot_b48 w j := fun _ => rfl
  unfold f_X4_foot f_X2_foot
  rw [z57, z61]
  by_cases c1 : f_X2_hasGas w = 0
  · have c1' := (hasGas_iff w).mp c1
    have k : lg_cmp (M_charge (put w ba g)) 0 ≤ 0 := (cmp_le0 _ _).mpr (by rw [e0]; exact c1')
    rw [if_pos c1, if_pos k, if_pos rfl]
  · have c1' : ¬ (W_charge w).toInt ≤ 0 := fun h => c1 ((hasGas_iff w).mpr h)
    have k : ¬ lg_cmp (M_charge (put w ba g)) 0 ≤ 0 := fun h => c1' (by have h2 := (cmp_le0 _ _).mp h; rw [e0] at h2; exact h2)
    by_cases c2 : W_shoe w ≤ W_place w
    · have c2' : M_shoe (put w ba g) ≤ M_place (put w ba g) := c2
      rw [if_neg c1, if_neg k, if_pos c2, if_pos c2', if_pos rfl]
    · have c2' : ¬ M_shoe (put w ba g) ≤ M_place (put w ba g) := c2
      rw [if_neg c1, if_neg k, if_neg c2, if_neg c2', if_neg h1]
      congr 1
      by_cases c3 : W_shoe w ≤ W_gas w
      · have c3' : M_shoe (put w ba g) ≤ M_gas (put w ba g) := c3
        rw [if_pos c3', i_eq, imax_i, es]; rw [i_le] at c3; show (0 : Int) = max 0 _; omega
      · have c3' : ¬ M_shoe (put w ba g) ≤ M_gas (put w ba g) := c3
        rw [if_neg c3', i_eq, imax_i]
        have es' : (M_shoe (put w ba g) - M_gas (put w ba g)).toInt = (W_shoe w).toInt - (W_gas w).toInt := es
        rw [es, es']; rw [i_le] at c3; show _ = max (0 : Int) _; omega
