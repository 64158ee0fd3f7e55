/-! What flows in, what is lost; a minute whole. -/
def SpW (w v : WS) : Prop := (W_charge v).toInt ≤ (W_charge w).toInt ∧ W_lost v = W_lost w ∧ W_minutes v = W_minutes w ∧ W_depth v = W_depth w
theorem SpW.refl (w : WS) : SpW w w := ⟨Int.le_refl _, rfl, rfl, rfl⟩
theorem raise_inv {w : WS} {p : Int32} {B : Int} (hI : InvW B w) : InvW B (f_X2_raiseGas w p) ∧ SpW w (f_X2_raiseGas w p) ∧ W_hasBrokenSinceTest (f_X2_raiseGas w p) = W_hasBrokenSinceTest w := by
  unfold f_X2_raiseGas
  by_cases c : f_X2_hasGas w = 0
  · rw [if_pos c]; exact ⟨hI, SpW.refl w, rfl⟩
  · rw [if_neg c]
    obtain ⟨h1, h2, h3, h4, h5, h6, h7, h8, ⟨p0, p1⟩, h10, h11, h12, h13⟩ := hI
    have hE : ∃ E : Int32, (if p = 0 then (if W_isClosed w = 0 then (8 : Int32) else 2) else 20) = E ∧ 0 ≤ E.toInt ∧ E.toInt ≤ 20 := by
      refine ⟨_, rfl, ?_⟩
      split
      · split <;> decide
      · decide
    obtain ⟨E, e1, e2, e3⟩ := hE
    rw [e1]
    have es : (W_place w - E).toInt = (W_place w).toInt - E.toInt := i_sub (by omega) (by omega)
    have em : (imax 0 (W_place w - E)).toInt = max 0 ((W_place w).toInt - E.toInt) := by rw [imax_i, es]; rfl
    refine ⟨⟨h1, h2, h3, h4, h5, h6, h7, h8, ?_, h10, h11, h12, h13⟩, ⟨Int.le_refl _, rfl, rfl, rfl⟩, rfl⟩
    show 0 ≤ (imax 0 (W_place w - E)).toInt ∧ (imax 0 (W_place w - E)).toInt ≤ (W_depth w).toInt
    rw [em]; omega
theorem vent_inv {w : WS} {p : Int32} {B : Int} (hI : InvW B w) : InvW B (f_X2_ventGas w p) ∧ SpW w (f_X2_ventGas w p) ∧ W_hasBrokenSinceTest (f_X2_ventGas w p) = W_hasBrokenSinceTest w := by
  have h25 : InvW B (f_X2_ventGas_b25 w) ∧ SpW w (f_X2_ventGas_b25 w) ∧ W_hasBrokenSinceTest (f_X2_ventGas_b25 w) = W_hasBrokenSinceTest w := by
    obtain ⟨h1, h2, h3, h4, h5, h6, h7, ⟨c0, c1⟩, h9, ⟨g0, l0, gl⟩, ⟨m0, m1⟩, h12, h13⟩ := hI
    refine ⟨⟨h1, h2, h3, h4, h5, h6, h7, ⟨Int.le_refl 0, ?_⟩, h9, ⟨Int.le_refl 0, l0, ?_⟩, ⟨m0, m1⟩, h12, h13⟩, ⟨c0, rfl, rfl, rfl⟩, rfl⟩
    · show (0 : Int) ≤ 20000000 * (W_minutes w).toInt
      omega
    · show (0 : Int) + (W_liquid w).toInt ≤ (W_depth w).toInt
      omega
  unfold f_X2_ventGas
  split
  · exact ⟨hI, SpW.refl w, rfl⟩
  · split
    · split
      · split
        · exact h25
        · exact ⟨hI, SpW.refl w, rfl⟩
      · exact h25
    · exact ⟨hI, SpW.refl w, rfl⟩
theorem lmin_i (x y : Int64) : (lmin x y).toInt = min x.toInt y.toInt := by
  unfold lmin; split <;> rename_i h <;> rw [l_lt] at h <;> omega
theorem measure_inv {w : WS} {B : Int} (hI : InvW B w) : InvW B (f_X2_measureGas w) ∧ SpW w (f_X2_measureGas w) ∧ W_hasBrokenSinceTest (f_X2_measureGas w) = W_hasBrokenSinceTest w := by
  unfold f_X2_measureGas
  by_cases c : f_X2_hasGas w = 0
  · rw [if_pos c]; exact ⟨hI, SpW.refl w, rfl⟩
  · rw [if_neg c]
    by_cases c2 : f_X2_gasPressure w ≤ 0
    · rw [if_pos c2]; exact ⟨hI, SpW.refl w, rfl⟩
    · rw [if_neg c2]
      obtain ⟨h1, h2, h3, h4, h5, h6, h7, ⟨c0, c1⟩, h9, ⟨g0, l0, gl⟩, h11, h12, h13⟩ := hI
      have e1 : (W_depth w - W_liquid w).toInt = (W_depth w).toInt - (W_liquid w).toInt := i_sub (by omega) (by omega)
      have hg := gp_pos w
      have e2 : (W_charge w / (f_X2_gasPressure w).toInt64).toInt = (W_charge w).toInt / (f_X2_gasPressure w).toInt := by
        rw [l_div c0 (by rw [i2l]; omega), i2l]
      have e3 : 0 ≤ (W_charge w).toInt / (f_X2_gasPressure w).toInt := Int.ediv_nonneg c0 (by omega)
      have e4 : (lmin (W_charge w / (f_X2_gasPressure w).toInt64) (W_depth w - W_liquid w).toInt64).toInt = min ((W_charge w).toInt / (f_X2_gasPressure w).toInt) ((W_depth w).toInt - (W_liquid w).toInt) := by rw [lmin_i, e2, i2l, e1]
      have e5 : (lmin (W_charge w / (f_X2_gasPressure w).toInt64) (W_depth w - W_liquid w).toInt64).toInt32.toInt = min ((W_charge w).toInt / (f_X2_gasPressure w).toInt) ((W_depth w).toInt - (W_liquid w).toInt) := by rw [l2i, e4] <;> rw [e4] <;> omega
      refine ⟨⟨h1, h2, h3, h4, h5, h6, h7, ⟨c0, c1⟩, h9, ?_, h11, h12, h13⟩, ⟨Int.le_refl _, rfl, rfl, rfl⟩, rfl⟩
      show 0 ≤ (lmin (W_charge w / (f_X2_gasPressure w).toInt64) (W_depth w - W_liquid w).toInt64).toInt32.toInt ∧ 0 ≤ (W_liquid w).toInt ∧ (lmin (W_charge w / (f_X2_gasPressure w).toInt64) (W_depth w - W_liquid w).toInt64).toInt32.toInt + (W_liquid w).toInt ≤ (W_depth w).toInt
      rw [e5]; omega
theorem setChoke_inv {w : WS} {r : RS} {B : Int} (hI : InvW B w) : InvW B (f_X2_setChoke w r) ∧ SpW w (f_X2_setChoke w r) := by
  unfold f_X2_setChoke
  by_cases c : W_isClosed w = 0
  · rw [if_pos c]; exact ⟨hI, SpW.refl w⟩
  · rw [if_neg c]
    obtain ⟨h1, h2, h3, h4, h5, h6, h7, h8, h9, h10, h11, h12, h13⟩ := hI
    by_cases c2 : imax 0 (f_X0_poreAt r (W_depth w) - f_X2_column w) ≤ W_valveStrength w
    · rw [if_pos c2]
      rw [i_le] at c2
      have em : (imax 0 (f_X0_poreAt r (W_depth w) - f_X2_column w)).toInt = max 0 (f_X0_poreAt r (W_depth w) - f_X2_column w).toInt := imax_i _ _
      refine ⟨⟨h1, h2, h3, h4, h5, ⟨?_, ?_⟩, h7, h8, h9, h10, h11, h12, fun h => absurd h c⟩, ⟨Int.le_refl _, rfl, rfl, rfl⟩⟩
      · show 0 ≤ (imax 0 (f_X0_poreAt r (W_depth w) - f_X2_column w)).toInt
        rw [em]; omega
      · show (imax 0 (f_X0_poreAt r (W_depth w) - f_X2_column w)).toInt ≤ 100000
        omega
    · rw [if_neg c2]
      exact ⟨⟨h1, h2, h3, Or.inl rfl, Or.inr rfl, ⟨Int.le_refl 0, (by decide : (0 : Int) ≤ 100000)⟩, h7, h8, h9, h10, h11, h12, fun _ => rfl⟩, ⟨Int.le_refl _, rfl, rfl, rfl⟩⟩
theorem setChoke_open {w : WS} {r : RS} (h : W_isClosed w = 0) : f_X2_setChoke w r = w := by unfold f_X2_setChoke; rw [if_pos h]
theorem bottom_rng {w : WS} {B : Int} (hI : InvW B w) : 0 ≤ (f_X2_bottom w).toInt ∧ (f_X2_bottom w).toInt ≤ 250000 := by
  have hc := column_rng hI
  obtain ⟨-, -, -, -, -, ⟨k0, k1⟩, -⟩ := hI
  have e : (f_X2_bottom w).toInt = (f_X2_column w).toInt + (W_choke w).toInt := i_add (by omega) (by omega)
  rw [e]; omega
def barr (w : WS) (r : RS) : Int32 := imin 40 (1 + ((f_X0_poreAt r (W_depth w) - f_X2_bottom w) * f_X0_rateAt r (W_depth w)) / 10000)
theorem barr_rng {w : WS} {r : RS} {g : MS} {B : Int} (hI : InvW B w) (hR : RelR r g) (hIR : InvR r) (hu : 0 < f_X0_poreAt r (W_depth w) - f_X2_bottom w) :
    1 ≤ (barr w r).toInt ∧ (barr w r).toInt ≤ 40 ∧ ∀ lg : Int64, lg = (1 : Int64) + ((f_X0_poreAt r (W_depth w) - f_X2_bottom w).toInt64 * (f_X0_rateAt r (W_depth w)).toInt64) / (10000 : Int64) → (if lg.toInt ≤ 40 then lg else 40) = (barr w r).toInt64 := by
  have hd := hI.1
  obtain ⟨-, -, p0, p1, -⟩ := pore_eq hR hIR hd.1 hd.2
  obtain ⟨-, q0, q1, -⟩ := rate_eq hR hIR hd.1 hd.2
  have hb := bottom_rng hI
  have e40 : (40 : Int32).toInt = 40 := rfl
  have e40l : (40 : Int64).toInt = 40 := rfl
  have e1 : (1 : Int32).toInt = 1 := rfl
  have e1l : (1 : Int64).toInt = 1 := rfl
  have ek : (10000 : Int32).toInt = 10000 := rfl
  have ekl : (10000 : Int64).toInt = 10000 := rfl
  have es : (f_X0_poreAt r (W_depth w) - f_X2_bottom w).toInt = (f_X0_poreAt r (W_depth w)).toInt - (f_X2_bottom w).toInt := i_sub (by omega) (by omega)
  have hu2 : 0 < (f_X0_poreAt r (W_depth w) - f_X2_bottom w).toInt := by rw [i_lt] at hu; exact hu
  unfold barr
  generalize f_X0_poreAt r (W_depth w) - f_X2_bottom w = u at *
  generalize f_X0_rateAt r (W_depth w) = q at *
  have m0 : 0 ≤ u.toInt * q.toInt := Int.mul_nonneg (by omega) q0
  have m1 : u.toInt * q.toInt ≤ u.toInt * 1000 := Int.mul_le_mul_of_nonneg_left q1 (by omega)
  have em : (u * q).toInt = u.toInt * q.toInt := i_mul (by omega) (by omega)
  have eml : (u.toInt64 * q.toInt64).toInt = u.toInt * q.toInt := by rw [l_mul, i2l, i2l] <;> rw [i2l, i2l] <;> omega
  have ed : (u * q / 10000).toInt = u.toInt * q.toInt / 10000 := by rw [i_div (by rw [em]; omega) (by decide), em, ek]
  have edl : (u.toInt64 * q.toInt64 / 10000).toInt = u.toInt * q.toInt / 10000 := by rw [l_div (by rw [eml]; omega) (by decide), eml, ekl]
  have ea : (1 + u * q / 10000).toInt = 1 + u.toInt * q.toInt / 10000 := by rw [i_add, ed, e1] <;> rw [ed, e1] <;> omega
  have eal : (1 + u.toInt64 * q.toInt64 / 10000).toInt = 1 + u.toInt * q.toInt / 10000 := by rw [l_add, edl, e1l] <;> rw [edl, e1l] <;> omega
  have ei : (imin 40 (1 + u * q / 10000)).toInt = min 40 (1 + u.toInt * q.toInt / 10000) := by rw [imin_i, ea, e40]
  refine ⟨by rw [ei]; omega, by rw [ei]; omega, ?_⟩
  intro lg hl
  subst hl
  rw [l_eq, i2l, ei, eal]
  split
  · rw [eal]; omega
  · rw [e40l]; omega
theorem flow_inv {w : WS} {r : RS} {g : MS} {B : Int} (hI : InvW B w) (hB : B < 200000) (hR : RelR r g) (hIR : InvR r) (hc : (W_charge w).toInt ≤ 20000000 * (W_minutes w).toInt - 20000000) :
    InvW B (f_X2_flowIn w r).2 ∧ W_lost (f_X2_flowIn w r).2 = W_lost w ∧ W_minutes (f_X2_flowIn w r).2 = W_minutes w ∧ W_depth (f_X2_flowIn w r).2 = W_depth w ∧ W_hasBrokenSinceTest (f_X2_flowIn w r).2 = W_hasBrokenSinceTest w ∧ bz (f_X2_flowIn w r).1 := by
  unfold f_X2_flowIn
  by_cases c1 : W_isClosed w = 0
  · rw [if_pos c1]
    by_cases c2 : 0 < f_X0_poreAt r (W_depth w) - f_X2_bottom w
    · rw [if_pos c2]
      obtain ⟨b0, b1, -⟩ := barr_rng hI hR hIR c2
      have hbar : imin 40 (1 + ((f_X0_poreAt r (W_depth w) - f_X2_bottom w) * f_X0_rateAt r (W_depth w)) / 10000) = barr w r := rfl
      have hbr := bottom_rng hI
      obtain ⟨h1, h2, h3, h4, h5, h6, h7, ⟨k0, k1⟩, h9, ⟨g0, l0, gl⟩, h11, h12, h13⟩ := hI
      by_cases c3 : f_X0_bearsGasAt r (W_depth w) = 0
      · rw [if_pos c3, hbar]
        have e1 : (W_depth w - W_gas w).toInt = (W_depth w).toInt - (W_gas w).toInt := i_sub (by omega) (by omega)
        have e2 : (W_depth w - W_gas w - W_liquid w).toInt = (W_depth w).toInt - (W_gas w).toInt - (W_liquid w).toInt := by rw [i_sub (by omega) (by omega), e1]
        have e3 : (imin (barr w r) (W_depth w - W_gas w - W_liquid w)).toInt = min (barr w r).toInt ((W_depth w).toInt - (W_gas w).toInt - (W_liquid w).toInt) := by rw [imin_i, e2]
        have e4 : (W_liquid w + imin (barr w r) (W_depth w - W_gas w - W_liquid w)).toInt = (W_liquid w).toInt + min (barr w r).toInt ((W_depth w).toInt - (W_gas w).toInt - (W_liquid w).toInt) := by rw [i_add, e3] <;> rw [e3] <;> omega
        refine ⟨⟨h1, h2, h3, h4, h5, h6, h7, ⟨k0, k1⟩, h9, ?_, h11, h12, h13⟩, rfl, rfl, rfl, rfl, Or.inr rfl⟩
        show 0 ≤ (W_gas w).toInt ∧ 0 ≤ (W_liquid w + imin (barr w r) (W_depth w - W_gas w - W_liquid w)).toInt ∧ (W_gas w).toInt + (W_liquid w + imin (barr w r) (W_depth w - W_gas w - W_liquid w)).toInt ≤ (W_depth w).toInt
        rw [e4]; omega
      · rw [if_neg c3]
        have key : ∀ pl : Int32, 0 ≤ pl.toInt → pl.toInt ≤ (W_depth w).toInt → InvW B (f_X2_flowIn_b113 w r (W_set_place w pl)).2 ∧ W_lost (f_X2_flowIn_b113 w r (W_set_place w pl)).2 = W_lost w ∧ W_minutes (f_X2_flowIn_b113 w r (W_set_place w pl)).2 = W_minutes w ∧ W_depth (f_X2_flowIn_b113 w r (W_set_place w pl)).2 = W_depth w ∧ W_hasBrokenSinceTest (f_X2_flowIn_b113 w r (W_set_place w pl)).2 = W_hasBrokenSinceTest w ∧ bz (f_X2_flowIn_b113 w r (W_set_place w pl)).1 := by
          intro pl pl0 pl1
          unfold f_X2_flowIn_b113
          rw [hbar]
          have eb : f_X2_bottom (W_set_place w pl) = f_X2_bottom w := rfl
          have ec : W_charge (W_set_place w pl) = W_charge w := rfl
          rw [eb, ec]
          have e1 : (imax 1 (f_X2_bottom w)).toInt = max 1 (f_X2_bottom w).toInt := by rw [imax_i]; rfl
          have m0 : 0 ≤ (barr w r).toInt * (imax 1 (f_X2_bottom w)).toInt := Int.mul_nonneg (by omega) (by omega)
          have m1 : (barr w r).toInt * (imax 1 (f_X2_bottom w)).toInt ≤ 40 * (imax 1 (f_X2_bottom w)).toInt := Int.mul_le_mul_of_nonneg_right b1 (by omega)
          have em : ((barr w r).toInt64 * (imax 1 (f_X2_bottom w)).toInt64).toInt = (barr w r).toInt * (imax 1 (f_X2_bottom w)).toInt := by rw [l_mul, i2l, i2l] <;> rw [i2l, i2l] <;> omega
          have ea : (W_charge w + (barr w r).toInt64 * (imax 1 (f_X2_bottom w)).toInt64).toInt = (W_charge w).toInt + (barr w r).toInt * (imax 1 (f_X2_bottom w)).toInt := by rw [l_add, em] <;> rw [em] <;> omega
          generalize W_charge w + (barr w r).toInt64 * (imax 1 (f_X2_bottom w)).toInt64 = cc at *
          have hI2 : InvW B (W_set_charge (W_set_place w pl) cc) := by
            refine ⟨h1, h2, h3, h4, h5, h6, h7, ?_, ⟨pl0, pl1⟩, ⟨g0, l0, gl⟩, h11, h12, h13⟩
            show 0 ≤ cc.toInt ∧ cc.toInt ≤ 20000000 * (W_minutes w).toInt
            omega
          obtain ⟨i1, ⟨-, i3, i4, i5⟩, i6⟩ := measure_inv hI2
          exact ⟨i1, i3, i4, i5, i6, Or.inr rfl⟩
        by_cases c4 : f_X2_hasGas w = 0
        · rw [if_pos c4]; exact key (W_depth w) h1.1 (Int.le_refl _)
        · rw [if_neg c4]; exact key (W_place w) h9.1 h9.2
    · rw [if_neg c2]; exact ⟨hI, rfl, rfl, rfl, rfl, Or.inl rfl⟩
  · rw [if_neg c1]; exact ⟨hI, rfl, rfl, rfl, rfl, Or.inl rfl⟩
theorem lose_inv {w : WS} {r : RS} {B : Int} (hI : InvW B w) (hB : B < 200000) (hl : (W_lost w).toInt ≤ 5 * (W_minutes w).toInt - 5) :
    InvW B (f_X2_loseAtShoe w r) ∧ W_minutes (f_X2_loseAtShoe w r) = W_minutes w ∧ W_depth (f_X2_loseAtShoe w r) = W_depth w ∧ W_hasBrokenSinceTest (f_X2_loseAtShoe w r) = W_hasBrokenSinceTest w := by
  unfold f_X2_loseAtShoe
  split
  · exact ⟨hI, rfl, rfl, rfl⟩
  · split
    · exact ⟨hI, rfl, rfl, rfl⟩
    · obtain ⟨h1, h2, h3, h4, h5, h6, h7, h8, h9, h10, h11, ⟨l0, l1⟩, h13⟩ := hI
      have e5 : (5 : Int32).toInt = 5 := rfl
      have e : (W_lost w + 5).toInt = (W_lost w).toInt + 5 := by rw [i_add, e5] <;> rw [e5] <;> omega
      refine ⟨⟨h1, h2, h3, h4, h5, h6, h7, h8, h9, h10, h11, ?_, h13⟩, rfl, rfl, rfl⟩
      show 0 ≤ (W_lost w + 5).toInt ∧ (W_lost w + 5).toInt ≤ 5 * (W_minutes w).toInt
      rw [e]; omega
