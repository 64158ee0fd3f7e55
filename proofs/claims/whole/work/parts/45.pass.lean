/-! A minute whole: the model's passOne is the class's letMinuteGo. -/
theorem RelR_flowed {r : RS} {g : MS} (z : Int32) (h : RelR r g) : RelR r (M_set_flowed g z) := h
theorem flow_gas {w : WS} {ba : Int32} {g : MS} (b mb pl : Int32) (hpl : (if lg_cmp (M_charge (put w ba g)) 0 ≤ 0 then M_depth (put w ba g) else M_place (put w ba g)) = pl) (hc : 0 < (W_charge w + b.toInt64 * mb.toInt64).toInt) :
    f_X4_flow_b158 (put w ba g) b.toInt64 mb = put (f_X2_measureGas (W_set_charge (W_set_place w pl) (W_charge w + b.toInt64 * mb.toInt64))) ba (M_set_flowed g 1) ∧ ok_X4_flow_b158 (put w ba g) b.toInt64 mb := by
  unfold f_X4_flow_b158 ok_X4_flow_b158
  rw [hpl]
  have ecm : M_charge (put w ba g) = W_charge w := rfl
  rw [ecm]
  generalize W_charge w + b.toInt64 * mb.toInt64 = cc at *
  have hcc : 0 < (W_charge (W_set_charge (W_set_place w pl) cc)).toInt := hc
  have mm := measure_eq (ba := ba) (g := M_set_flowed g 1) hcc
  exact ⟨mm.1, mm.2, trivial⟩
theorem b113_eq (w : WS) (r : RS) (pl : Int32) : f_X2_flowIn_b113 w r (W_set_place w pl) = (1, f_X2_measureGas (W_set_charge (W_set_place w pl) (W_charge w + (barr w r).toInt64 * (imax 1 (f_X2_bottom w)).toInt64))) := by
  have hbar : imin 40 (1 + ((f_X0_poreAt r (W_depth w) - f_X2_bottom w) * f_X0_rateAt r (W_depth w)) / 10000) = barr w r := rfl
  unfold f_X2_flowIn_b113
  rw [hbar]
  have eb2 : f_X2_bottom (W_set_place w pl) = f_X2_bottom w := rfl
  have ec2 : W_charge (W_set_place w pl) = W_charge w := rfl
  rw [eb2, ec2]
theorem flow_b54g {w : WS} {ba : Int32} {g : MS} (b pl : Int32) {B : Int} (hI : InvW B w) (hB : B < 200000) (b0 : 1 ≤ b.toInt) (b1 : b.toInt ≤ 40)
    (ri0 : vp_in (f_X4_layerAt (M_depth (put w ba g))) 50) (c3m : ¬ M_bearsGas (put w ba g) (f_X4_layerAt (M_depth (put w ba g))).toNatClampNeg = 0)
    (hpl : (if lg_cmp (M_charge (put w ba g)) 0 ≤ 0 then M_depth (put w ba g) else M_place (put w ba g)) = pl) :
    f_X4_flow_b54 (put w ba g) b.toInt64 = put (f_X2_measureGas (W_set_charge (W_set_place w pl) (W_charge w + b.toInt64 * (imax 1 (f_X2_bottom w)).toInt64))) ba (M_set_flowed g 1) ∧ ok_X4_flow_b54 (put w ba g) b.toInt64 := by
  have hbr := bottom_rng hI
  have ebot : f_X4_bottom (put w ba g) = f_X2_bottom w := bottom_eq hI
  have ebp : f_X4_bottom (M_set_place (M_set_flowed (put w ba g) 1) pl) = f_X2_bottom w := ebot
  obtain ⟨-, -, -, -, -, -, -, ⟨k0, k1⟩, -, -, ⟨m0, m1⟩, -, -⟩ := hI
  have e1 : (imax 1 (f_X2_bottom w)).toInt = max 1 (f_X2_bottom w).toInt := by rw [imax_i]; rfl
  have m0 : 1 ≤ b.toInt * (imax 1 (f_X2_bottom w)).toInt := by
    have : 1 * 1 ≤ b.toInt * (imax 1 (f_X2_bottom w)).toInt := Int.mul_le_mul b0 (by omega) (by omega) (by omega)
    omega
  have m1 : b.toInt * (imax 1 (f_X2_bottom w)).toInt ≤ 40 * (imax 1 (f_X2_bottom w)).toInt := Int.mul_le_mul_of_nonneg_right b1 (by omega)
  have em : (b.toInt64 * (imax 1 (f_X2_bottom w)).toInt64).toInt = b.toInt * (imax 1 (f_X2_bottom w)).toInt := by rw [l_mul, i2l, i2l] <;> rw [i2l, i2l] <;> omega
  have ea : (W_charge w + b.toInt64 * (imax 1 (f_X2_bottom w)).toInt64).toInt = (W_charge w).toInt + b.toInt * (imax 1 (f_X2_bottom w)).toInt := by rw [l_add, em] <;> rw [em] <;> omega
  have hpos : 0 < (W_charge w + b.toInt64 * (imax 1 (f_X2_bottom w)).toInt64).toInt := by rw [ea]; omega
  obtain ⟨m2, m3⟩ := flow_gas b (imax 1 (f_X2_bottom w)) pl hpl hpos
  unfold f_X4_flow_b54 ok_X4_flow_b54
  rw [if_neg c3m, hpl, ebp]
  by_cases c6 : f_X2_bottom w ≤ 0
  · have c6' := c6
    rw [i_le] at c6'
    have c6' : (f_X2_bottom w).toInt ≤ 0 := c6'
    have hx : imax 1 (f_X2_bottom w) = (1 : Int32) := by rw [i_eq, e1]; show _ = (1 : Int); omega
    rw [hx] at m2 m3
    rw [if_pos c6, hx]
    exact ⟨m2, ⟨ri0, fun h => absurd h c3m, fun _ => ⟨fun _ => m3, fun h => absurd c6 h⟩⟩⟩
  · have c6' := c6
    rw [i_le] at c6'
    have c6' : ¬ (f_X2_bottom w).toInt ≤ 0 := c6'
    have hx : imax 1 (f_X2_bottom w) = f_X2_bottom w := by rw [i_eq, e1]; omega
    rw [hx] at m2 m3
    rw [if_neg c6, hx]
    exact ⟨m2, ⟨ri0, fun h => absurd h c3m, fun _ => ⟨fun h => absurd h c6, fun _ => m3⟩⟩⟩
theorem flow_b54l {w : WS} {ba : Int32} {g : MS} (b : Int32) {B : Int} (hI : InvW B w) (b0 : 1 ≤ b.toInt) (b1 : b.toInt ≤ 40)
    (ri0 : vp_in (f_X4_layerAt (M_depth (put w ba g))) 50) (c3m : M_bearsGas (put w ba g) (f_X4_layerAt (M_depth (put w ba g))).toNatClampNeg = 0) :
    f_X4_flow_b54 (put w ba g) b.toInt64 = put (W_set_liquid w (W_liquid w + imin b (W_depth w - W_gas w - W_liquid w))) ba (M_set_flowed g 1) ∧ ok_X4_flow_b54 (put w ba g) b.toInt64 := by
  obtain ⟨h1, h2, h3, h4, h5, h6, h7, ⟨k0, k1⟩, h9, ⟨g0, l0, gl⟩, h11, h12, h13⟩ := hI
  refine ⟨?_, ⟨ri0, fun _ => trivial, fun h => absurd c3m h⟩⟩
  unfold f_X4_flow_b54
  rw [if_pos c3m]
  have e1 : (W_depth w - W_gas w).toInt = (W_depth w).toInt - (W_gas w).toInt := i_sub (by omega) (by omega)
  have e2 : (W_depth w - W_gas w - W_liquid w).toInt = (W_depth w).toInt - (W_gas w).toInt - (W_liquid w).toInt := by rw [i_sub (by omega) (by omega), e1]
  have e3 : (imin b (W_depth w - W_gas w - W_liquid w)).toInt = min b.toInt ((W_depth w).toInt - (W_gas w).toInt - (W_liquid w).toInt) := by rw [imin_i, e2]
  have e4 : (W_liquid w + imin b (W_depth w - W_gas w - W_liquid w)).toInt = (W_liquid w).toInt + min b.toInt ((W_depth w).toInt - (W_gas w).toInt - (W_liquid w).toInt) := by rw [i_add, e3] <;> rw [e3] <;> omega
  have el : ((W_liquid w).toInt64 + b.toInt64).toInt = (W_liquid w).toInt + b.toInt := by rw [l_add, i2l, i2l] <;> rw [i2l, i2l] <;> omega
  have ed : ((W_depth w - W_gas w).toInt64).toInt = (W_depth w).toInt - (W_gas w).toInt := by rw [i2l, e1]
  have eb : (W_liquid w + b).toInt = (W_liquid w).toInt + b.toInt := i_add (by omega) (by omega)
  generalize hY : W_liquid w + imin b (W_depth w - W_gas w - W_liquid w) = Y at *
  by_cases c5 : (W_liquid w).toInt + b.toInt ≤ (W_depth w).toInt - (W_gas w).toInt
  · have c5m : lg_cmp ((M_liquid (put w ba g)).toInt64 + b.toInt64) ((M_depth (put w ba g) - M_gas (put w ba g)).toInt64) ≤ 0 := by
      rw [cmp_le0]; show ((W_liquid w).toInt64 + b.toInt64).toInt ≤ ((W_depth w - W_gas w).toInt64).toInt; rw [el, ed]; exact c5
    rw [if_pos c5m]
    have en : (W_liquid w + b.toInt64.toInt32) = Y := by
      rw [i2l2i, i_eq, e4, eb]; omega
    show put (W_set_liquid w (W_liquid w + b.toInt64.toInt32)) ba (M_set_flowed g 1) = _
    rw [en]
  · have c5m : ¬ lg_cmp ((M_liquid (put w ba g)).toInt64 + b.toInt64) ((M_depth (put w ba g) - M_gas (put w ba g)).toInt64) ≤ 0 := by
      rw [cmp_le0]; show ¬ ((W_liquid w).toInt64 + b.toInt64).toInt ≤ ((W_depth w - W_gas w).toInt64).toInt; rw [el, ed]; exact c5
    rw [if_neg c5m]
    have en : (W_depth w - W_gas w) = Y := by
      rw [i_eq, e4, e1]; omega
    show put (W_set_liquid w (W_depth w - W_gas w)) ba (M_set_flowed g 1) = _
    rw [en]
theorem flow_eq {w : WS} {r : RS} {ba : Int32} {g : MS} {B : Int} (hI : InvW B w) (hB : B < 200000) (hR : RelR r g) (hIR : InvR r)
    (hcl : W_isClosed w = 0) (hu : 0 < f_X0_poreAt r (W_depth w) - f_X2_bottom w) :
    f_X4_flow (put w ba g) = put (f_X2_flowIn w r).2 ba (M_set_flowed g 1) ∧ ok_X4_flow (put w ba g) ∧ (f_X2_flowIn w r).1 = 1 := by
  have hd := hI.1
  obtain ⟨pe, po, p0, p1, -⟩ := pore_eq hR hIR hd.1 hd.2
  obtain ⟨re, q0, q1, ri⟩ := rate_eq hR hIR hd.1 hd.2
  have ge := gas_eq hR hIR hd.1 hd.2
  obtain ⟨b0, b1, bl⟩ := barr_rng hI hR hIR hu
  have bl := bl _ rfl
  have e40l : (40 : Int64).toInt = 40 := rfl
  have e0l : (0 : Int64).toInt = 0 := rfl
  have ebot : f_X4_bottom (put w ba g) = f_X2_bottom w := bottom_eq hI
  have pd : f_X4_poreAt (put w ba g) (M_depth (put w ba g)) = f_X0_poreAt r (W_depth w) := by rw [pe]; rfl
  have rd : M_rate (put w ba g) (f_X4_layerAt (M_depth (put w ba g))).toNatClampNeg = f_X0_rateAt r (W_depth w) := by rw [re]; rfl
  have ok0 : ok_X4_poreAt (M_depth (put w ba g)) := po
  have ri0 : vp_in (f_X4_layerAt (M_depth (put w ba g))) 50 := ri
  have hbar : imin 40 (1 + ((f_X0_poreAt r (W_depth w) - f_X2_bottom w) * f_X0_rateAt r (W_depth w)) / 10000) = barr w r := rfl
  have cl : f_X2_flowIn w r = (if (f_X0_bearsGasAt r (W_depth w)) = 0 then ((1 : Int32), W_set_liquid w ((W_liquid w) + (imin (barr w r) (((W_depth w) - (W_gas w)) - (W_liquid w))))) else (if (f_X2_hasGas w) = 0 then (f_X2_flowIn_b113 w r (W_set_place w (W_depth w))) else (f_X2_flowIn_b113 w r (W_set_place w (W_place w))))) := by
    unfold f_X2_flowIn; rw [if_pos hcl, if_pos hu, hbar, W_set_place_self]
  have mid : f_X4_flow_b54 (put w ba g) (barr w r).toInt64 = put (f_X2_flowIn w r).2 ba (M_set_flowed g 1) ∧ ok_X4_flow_b54 (put w ba g) (barr w r).toInt64 ∧ (f_X2_flowIn w r).1 = 1 := by
    have q : ∀ X : WS, put ((1 : Int32), X).2 ba (M_set_flowed g 1) = put X ba (M_set_flowed g 1) := fun _ => rfl
    have q1 : ∀ X : WS, ((1 : Int32), X).1 = 1 := fun _ => rfl
    rw [cl]
    by_cases c3 : f_X0_bearsGasAt r (W_depth w) = 0
    · have c3m : M_bearsGas (put w ba g) (f_X4_layerAt (M_depth (put w ba g))).toNatClampNeg = 0 := ge.mp c3
      rw [if_pos c3]
      obtain ⟨f1, f2⟩ := flow_b54l (ba := ba) (g := g) (barr w r) hI b0 b1 ri0 c3m
      exact ⟨f1, f2, rfl⟩
    · have c3m : ¬ M_bearsGas (put w ba g) (f_X4_layerAt (M_depth (put w ba g))).toNatClampNeg = 0 := fun h => c3 (ge.mpr h)
      rw [if_neg c3, b113_eq, b113_eq]
      by_cases c4 : f_X2_hasGas w = 0
      · have c4' := (hasGas_iff w).mp c4
        have k : lg_cmp (M_charge (put w ba g)) 0 ≤ 0 := (cmp_le0 _ _).mpr (by rw [e0l]; exact c4')
        obtain ⟨f1, f2⟩ := flow_b54g (ba := ba) (g := g) (barr w r) (W_depth w) hI hB b0 b1 ri0 c3m (if_pos k)
        rw [if_pos c4, q]
        exact ⟨f1, f2, q1 _⟩
      · have c4' : ¬ (W_charge w).toInt ≤ 0 := fun h => c4 ((hasGas_iff w).mpr h)
        have k : ¬ lg_cmp (M_charge (put w ba g)) 0 ≤ 0 := fun h => c4' (by have h2 := (cmp_le0 _ _).mp h; rw [e0l] at h2; exact h2)
        obtain ⟨f1, f2⟩ := flow_b54g (ba := ba) (g := g) (barr w r) (W_place w) hI hB b0 b1 ri0 c3m (if_neg k)
        rw [if_neg c4, q]
        exact ⟨f1, f2, q1 _⟩
  unfold f_X4_flow ok_X4_flow
  rw [pd, ebot, rd]
  by_cases c : (1 + (f_X0_poreAt r (W_depth w) - f_X2_bottom w).toInt64 * (f_X0_rateAt r (W_depth w)).toInt64 / 10000).toInt ≤ 40
  · rw [if_pos c] at bl
    have cm : lg_cmp (1 + (f_X0_poreAt r (W_depth w) - f_X2_bottom w).toInt64 * (f_X0_rateAt r (W_depth w)).toInt64 / 10000) 40 ≤ 0 := by rw [cmp_le0, e40l]; exact c
    rw [if_pos cm, bl]
    rw [bl] at cm
    exact ⟨mid.1, ⟨ok0, ri0, fun _ => mid.2.1, fun h => absurd cm h⟩, mid.2.2⟩
  · rw [if_neg c] at bl
    have cm : ¬ lg_cmp (1 + (f_X0_poreAt r (W_depth w) - f_X2_bottom w).toInt64 * (f_X0_rateAt r (W_depth w)).toInt64 / 10000) 40 ≤ 0 := by rw [cmp_le0, e40l]; exact c
    rw [← bl] at mid
    rw [if_neg cm]
    exact ⟨mid.1, ⟨ok0, ri0, fun h => absurd h cm, fun _ => mid.2.1⟩, mid.2.2⟩
theorem lose_eq {w : WS} {r : RS} {ba : Int32} {g : MS} {B : Int} (hI : InvW B w) (hB : B < 200000) (hR : RelR r g) :
    f_X4_passOne_b66 (put w ba g) = put (f_X2_loseAtShoe w r) ba g ∧ ok_X4_passOne_b66 (put w ba g) := by
  have hf := foot_eq ba g hI
  have hd := hI.1
  have hs := hI.2.1
  obtain ⟨be, bo⟩ := break_eq hR hs.1 (by omega : (W_shoe w).toInt ≤ 5000)
  have bd : f_X4_breakAt (put w ba g) (M_shoe (put w ba g)) = f_X0_breakAt r (W_shoe w) := by rw [be]; rfl
  have z0 : M_lost (put w ba g) + 0 = (W_lost w).toInt64 := by
    have e0 : (0 : Int64).toInt = 0 := rfl
    have hr := i_rng (W_lost w)
    show (W_lost w).toInt64 + 0 = _
    rw [l_eq, l_add (by rw [i2l, e0]; omega) (by rw [i2l, e0]; omega), e0]; omega
  have z5 : M_lost (put w ba g) + 5 = (W_lost w + 5).toInt64 := by
    obtain ⟨-, -, -, -, -, -, -, -, -, -, ⟨m0, m1⟩, ⟨l0, l1⟩, -⟩ := hI
    have e5l : (5 : Int64).toInt = 5 := rfl
    have e5 : (5 : Int32).toInt = 5 := rfl
    show (W_lost w).toInt64 + 5 = _
    rw [l_eq, i2l, l_add (by rw [i2l, e5l]; omega) (by rw [i2l, e5l]; omega), i_add (by rw [e5]; omega) (by rw [e5]; omega), i2l, e5, e5l]
  have n0 : put (W_set_lost w (W_lost w)) ba g = put w ba g := rfl
  unfold f_X4_passOne_b66 ok_X4_passOne_b66 f_X2_loseAtShoe
  rw [z0, z5, M_set_lost_put, M_set_lost_put, n0]
  have ok1 : ok_X4_breakAt (M_shoe (put w ba g)) := bo
  refine ⟨?_, fun _ => trivial, fun _ => ⟨ok1, trivial⟩⟩
  rw [bd, hf]
  by_cases c : W_shoe w ≤ 0
  · have c' : M_shoe (put w ba g) ≤ 0 := c
    rw [if_pos c, if_pos c']
  · have c' : ¬ M_shoe (put w ba g) ≤ 0 := c
    rw [if_neg c, if_neg c']
    by_cases c2 : f_X2_foot w ≤ f_X0_breakAt r (W_shoe w)
    · rw [if_pos c2, if_pos c2]
    · rw [if_neg c2, if_neg c2]
def minu (w : WS) (p : Int32) : WS := f_X2_measureGas (f_X2_ventGas (f_X2_raiseGas (W_set_minutes w (W_minutes w + 1)) p) p)
theorem let_eq (w : WS) (r : RS) (p : Int32) : f_X2_letMinuteGo w r p = ((f_X2_flowIn (f_X2_setChoke (minu w p) r) r).1, f_X2_loseAtShoe (f_X2_flowIn (f_X2_setChoke (minu w p) r) r).2 r) := rfl
theorem minu_inv {w : WS} {p : Int32} {B : Int} (hI : InvW B w) (hB : B < 199999) : InvW (B + 1) (minu w p) ∧ (W_charge (minu w p)).toInt ≤ 20000000 * (W_minutes (minu w p)).toInt - 20000000 ∧ (W_lost (minu w p)).toInt ≤ 5 * (W_minutes (minu w p)).toInt - 5 ∧ (W_minutes (minu w p)).toInt = (W_minutes w).toInt + 1 ∧ W_depth (minu w p) = W_depth w ∧ W_hasBrokenSinceTest (minu w p) = W_hasBrokenSinceTest w := by
  obtain ⟨h1, h2, h3, h4, h5, h6, h7, ⟨k0, k1⟩, h9, h10, ⟨m0, m1⟩, ⟨l0, l1⟩, h13⟩ := hI
  have e1 : (1 : Int32).toInt = 1 := rfl
  have em : (W_minutes w + 1).toInt = (W_minutes w).toInt + 1 := by rw [i_add, e1] <;> rw [e1] <;> omega
  generalize hY : W_minutes w + 1 = Y at *
  have hI1 : InvW (B + 1) (W_set_minutes w Y) := by
    refine ⟨h1, h2, h3, h4, h5, h6, h7, ⟨k0, ?_⟩, h9, h10, ?_, ⟨l0, ?_⟩, h13⟩
    · show (W_charge w).toInt ≤ 20000000 * Y.toInt; omega
    · show 0 ≤ Y.toInt ∧ Y.toInt ≤ B + 1; omega
    · show (W_lost w).toInt ≤ 5 * Y.toInt; omega
  have hmin : minu w p = f_X2_measureGas (f_X2_ventGas (f_X2_raiseGas (W_set_minutes w Y) p) p) := by unfold minu; rw [hY]
  obtain ⟨a1, ⟨a2, a3, a4, a5⟩, a6⟩ := raise_inv (p := p) hI1
  obtain ⟨b1, ⟨b2, b3, b4, b5⟩, b6⟩ := vent_inv (p := p) a1
  obtain ⟨c1, ⟨c2, c3, c4, c5⟩, c6⟩ := measure_inv b1
  rw [hmin]
  have z1 : W_charge (W_set_minutes w Y) = W_charge w := rfl
  have z2 : W_lost (W_set_minutes w Y) = W_lost w := rfl
  have z3 : W_minutes (W_set_minutes w Y) = Y := rfl
  have z4 : W_depth (W_set_minutes w Y) = W_depth w := rfl
  have z5 : W_hasBrokenSinceTest (W_set_minutes w Y) = W_hasBrokenSinceTest w := rfl
  rw [z1] at a2
  rw [z2] at a3
  rw [z3] at a4
  rw [z4] at a5
  rw [z5] at a6
  refine ⟨c1, ?_, ?_, ?_, ?_, ?_⟩
  · rw [c4, b4, a4]; omega
  · rw [c3, b3, a3, c4, b4, a4]; omega
  · rw [c4, b4, a4]; exact em
  · rw [c5, b5, a5]
  · rw [c6, b6, a6]
theorem flow_no {w : WS} {r : RS} (h : ¬ (W_isClosed w = 0 ∧ 0 < f_X0_poreAt r (W_depth w) - f_X2_bottom w)) : f_X2_flowIn w r = (0, w) := by
  unfold f_X2_flowIn
  by_cases c1 : W_isClosed w = 0
  · rw [if_pos c1, if_neg (fun h2 => h ⟨c1, h2⟩)]
  · rw [if_neg c1]
/-- behind rising and venting: valve, inflow, loss -/
theorem b40_eq {w : WS} {r : RS} {ba : Int32} {g : MS} {B : Int} (hI : InvW B w) (hB : B < 200000) (hR : RelR r g) (hIR : InvR r) (hc : (W_charge w).toInt ≤ 20000000 * (W_minutes w).toInt - 20000000)
    (hfl : M_flowed g = 0) :
    f_X4_passOne_b40 (put w ba g) = put (f_X2_loseAtShoe (f_X2_flowIn w r).2 r) ba (M_set_flowed g (f_X2_flowIn w r).1) ∧ ok_X4_passOne_b40 (put w ba g) := by
  have hd := hI.1
  obtain ⟨pe, po, p0, p1, -⟩ := pore_eq hR hIR hd.1 hd.2
  have hbr := bottom_rng hI
  have ebot : f_X4_bottom (put w ba g) = f_X2_bottom w := bottom_eq hI
  have pd : f_X4_poreAt (put w ba g) (M_depth (put w ba g)) = f_X0_poreAt r (W_depth w) := by rw [pe]; rfl
  have ok0 : ok_X4_poreAt (M_depth (put w ba g)) := po
  obtain ⟨iF, -⟩ := flow_inv hI hB hR hIR hc
  have es : (f_X0_poreAt r (W_depth w) - f_X2_bottom w).toInt = (f_X0_poreAt r (W_depth w)).toInt - (f_X2_bottom w).toInt := i_sub (by omega) (by omega)
  have hsame : M_set_flowed g 0 = g := by rw [← hfl]; rfl
  have e0 : (0 : Int32).toInt = 0 := rfl
  have l0 : f_X4_passOne_b66 (put w ba g) = put (f_X2_loseAtShoe w r) ba g ∧ ok_X4_passOne_b66 (put w ba g) := lose_eq hI hB hR
  unfold f_X4_passOne_b40 ok_X4_passOne_b40
  rw [pd, ebot]
  by_cases c1 : W_isClosed w = 0
  · have c1m : M_isClosed (put w ba g) = 0 := c1
    rw [if_pos c1m]
    by_cases c2 : f_X0_poreAt r (W_depth w) ≤ f_X2_bottom w
    · have hn : ¬ (W_isClosed w = 0 ∧ 0 < f_X0_poreAt r (W_depth w) - f_X2_bottom w) := by
        rintro ⟨-, h⟩
        rw [i_lt, es, e0] at h
        rw [i_le] at c2
        omega
      have hz := flow_no hn
      rw [if_pos c2, hz]
      show f_X4_passOne_b66 (put w ba g) = put (f_X2_loseAtShoe w r) ba (M_set_flowed g 0) ∧ _
      rw [hsame]
      exact ⟨l0.1, fun _ => ⟨ok0, fun _ => l0.2, fun h => absurd c2 h⟩, fun h => absurd c1m h⟩
    · have hu : 0 < f_X0_poreAt r (W_depth w) - f_X2_bottom w := by
        rw [i_lt, es, e0]
        rw [i_le] at c2
        omega
      obtain ⟨f1, f2, f3⟩ := flow_eq (ba := ba) hI hB hR hIR c1 hu
      rw [if_neg c2, f1, f3]
      obtain ⟨l1, l2⟩ := lose_eq (ba := ba) (g := M_set_flowed g 1) iF hB (RelR_flowed 1 hR)
      exact ⟨l1, fun _ => ⟨ok0, fun h => absurd h c2, fun _ => ⟨f2, l2⟩⟩, fun h => absurd c1m h⟩
  · have c1m : ¬ M_isClosed (put w ba g) = 0 := c1
    have hn : ¬ (W_isClosed w = 0 ∧ 0 < f_X0_poreAt r (W_depth w) - f_X2_bottom w) := fun h => c1 h.1
    have hz := flow_no hn
    rw [if_neg c1m, hz]
    show f_X4_passOne_b66 (put w ba g) = put (f_X2_loseAtShoe w r) ba (M_set_flowed g 0) ∧ _
    rw [hsame]
    exact ⟨l0.1, fun h => absurd h c1m, fun _ => l0.2⟩
theorem b29_eq {w : WS} {r : RS} {ba : Int32} {g : MS} {B : Int} (hI : InvW B w) (hB : B < 200000) (hR : RelR r g) (hIR : InvR r) (hc : (W_charge w).toInt ≤ 20000000 * (W_minutes w).toInt - 20000000)
    (hfl : M_flowed g = 0) :
    ∃ ba2 : Int32, f_X4_passOne_b29 (put w ba g) = put (f_X2_loseAtShoe (f_X2_flowIn (f_X2_setChoke w r) r).2 r) ba2 (M_set_flowed g (f_X2_flowIn (f_X2_setChoke w r) r).1) ∧ ok_X4_passOne_b29 (put w ba g) ∧ ((ba2 = ba ∧ W_hasBrokenSinceTest (f_X2_setChoke w r) = W_hasBrokenSinceTest w) ∨ (ba2 = M_tests g ∧ W_hasBrokenSinceTest (f_X2_setChoke w r) = 1)) := by
  obtain ⟨iS, ⟨s1, s2, s3, s4⟩⟩ := setChoke_inv (r := r) hI
  have hc2 : (W_charge (f_X2_setChoke w r)).toInt ≤ 20000000 * (W_minutes (f_X2_setChoke w r)).toInt - 20000000 := by rw [s3]; omega
  unfold f_X4_passOne_b29 ok_X4_passOne_b29
  by_cases c : W_isClosed w = 0
  · have cm : M_isClosed (put w ba g) = 0 := c
    have e := setChoke_open (r := r) c
    rw [if_pos cm, e]
    obtain ⟨x1, x2⟩ := b40_eq (ba := ba) hI hB hR hIR hc hfl
    exact ⟨ba, x1, ⟨fun _ => x2, fun h => absurd cm h⟩, Or.inl ⟨rfl, rfl⟩⟩
  · have cm : ¬ M_isClosed (put w ba g) = 0 := c
    obtain ⟨ba2, e1, e2, e3⟩ := shut_eq (ba := ba) (g := g) hI hR hIR c
    rw [if_neg cm, e1]
    obtain ⟨x1, x2⟩ := b40_eq (ba := ba2) iS hB hR hIR hc2 hfl
    exact ⟨ba2, x1, ⟨fun h => absurd h cm, fun _ => ⟨e2, x2⟩⟩, e3⟩
theorem pass_eq {w : WS} {r : RS} {g : MS} {B : Int} (ba p : Int32) (hI : InvW B w) (hB : B < 199999) (hR : RelR r g) (hIR : InvR r) :
    ∃ ba2 : Int32, f_X4_passOne (put w ba g) p = put (f_X2_letMinuteGo w r p).2 ba2 (M_set_flowed g (f_X2_letMinuteGo w r p).1) ∧ ok_X4_passOne (put w ba g) p ∧
      ((ba2 = ba ∧ W_hasBrokenSinceTest (f_X2_letMinuteGo w r p).2 = W_hasBrokenSinceTest w) ∨ (ba2 = M_tests g ∧ W_hasBrokenSinceTest (f_X2_letMinuteGo w r p).2 = 1)) ∧
      InvW (B + 1) (f_X2_letMinuteGo w r p).2 ∧ W_depth (f_X2_letMinuteGo w r p).2 = W_depth w ∧ (W_minutes (f_X2_letMinuteGo w r p).2).toInt = (W_minutes w).toInt + 1 ∧ bz (f_X2_letMinuteGo w r p).1 := by
  obtain ⟨iM, m1, m2, m3, m4, m5⟩ := minu_inv (p := p) hI hB
  have hB1 : B + 1 < 200000 := by omega
  obtain ⟨iS, ⟨s1, s2, s3, s4⟩⟩ := setChoke_inv (r := r) iM
  have hc2 : (W_charge (f_X2_setChoke (minu w p) r)).toInt ≤ 20000000 * (W_minutes (f_X2_setChoke (minu w p) r)).toInt - 20000000 := by rw [s3]; omega
  obtain ⟨iF, f2, f3, f4, f5, f6⟩ := flow_inv iS hB1 hR hIR hc2
  have hl : (W_lost (f_X2_flowIn (f_X2_setChoke (minu w p) r) r).2).toInt ≤ 5 * (W_minutes (f_X2_flowIn (f_X2_setChoke (minu w p) r) r).2).toInt - 5 := by rw [f2, f3, s2, s3]; exact m2
  obtain ⟨iL, l2, l3, l4⟩ := lose_inv iF hB1 hl
  have e0l : (0 : Int64).toInt = 0 := rfl
  obtain ⟨ba2, x1, x2, x3⟩ := b29_eq (ba := ba) (g := M_set_flowed g 0) iM hB1 (RelR_flowed 0 hR) hIR m1 rfl
  have goal1 : f_X4_passOne (put w ba g) p = f_X4_passOne_b29 (put (minu w p) ba (M_set_flowed g 0)) ∧ (ok_X4_passOne_b29 (put (minu w p) ba (M_set_flowed g 0)) → ok_X4_passOne (put w ba g) p) := by
    have s0 : M_set_flowed (M_set_minutes (put w ba g) (M_minutes (put w ba g) + 1)) 0 = put (W_set_minutes w (W_minutes w + 1)) ba (M_set_flowed g 0) := rfl
    unfold f_X4_passOne ok_X4_passOne
    rw [s0]
    have hW : W_charge (W_set_minutes w (W_minutes w + 1)) = W_charge w := rfl
    by_cases c : (W_charge w).toInt ≤ 0
    · have cm : lg_cmp (M_charge (put w ba g)) 0 ≤ 0 := (cmp_le0 _ _).mpr (by rw [e0l]; exact c)
      have hq : (W_charge (W_set_minutes w (W_minutes w + 1))).toInt ≤ 0 := by rw [hW]; exact c
      have hm : minu w p = W_set_minutes w (W_minutes w + 1) := by unfold minu; rw [raise_none hq, vent_none hq, measure_none hq]
      rw [if_pos cm, hm]
      exact ⟨rfl, fun h => ⟨fun _ => h, fun h2 => absurd cm h2⟩⟩
    · have cm : ¬ lg_cmp (M_charge (put w ba g)) 0 ≤ 0 := fun h => c (by have h2 := (cmp_le0 _ _).mp h; rw [e0l] at h2; exact h2)
      have hq : 0 < (W_charge (W_set_minutes w (W_minutes w + 1))).toInt := by rw [hW]; omega
      obtain ⟨r1, r2⟩ := rise_eq (ba := ba) (p := p) (g := M_set_flowed g 0) hq
      have hm : f_X4_rise (put (W_set_minutes w (W_minutes w + 1)) ba (M_set_flowed g 0)) p = put (minu w p) ba (M_set_flowed g 0) := r1
      rw [if_neg cm, hm]
      exact ⟨rfl, fun h => ⟨fun h2 => absurd h2 cm, fun _ => ⟨r2, h⟩⟩⟩
  have q2 : ∀ (a : Int32) (X : WS), (a, X).2 = X := fun _ _ => rfl
  have q1 : ∀ (a : Int32) (X : WS), (a, X).1 = a := fun _ _ => rfl
  rw [goal1.1, let_eq, q1, q2]
  refine ⟨ba2, x1, goal1.2 x2, ?_, iL, ?_, ?_, f6⟩
  · rw [l4, f5]
    rcases x3 with ⟨y1, y2⟩ | ⟨y1, y2⟩
    · exact Or.inl ⟨y1, by rw [y2, m5]⟩
    · exact Or.inr ⟨y1, y2⟩
  · rw [l3, f4, s4, m4]
  · rw [l2, f3, s3]; exact m3
