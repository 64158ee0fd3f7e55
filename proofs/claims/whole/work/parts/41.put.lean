/-! The model with the well of the class in it: everything but the well and the place of the last break is g's own. -/
def put (w : WS) (ba : Int32) (g : MS) : MS := (M_thrown g, M_pore g, M_breaks g, M_rate g, M_bearsGas g, W_depth w, W_shoe w, W_weight w, W_isClosed w, W_choke w, W_charge w, W_place w, W_gas w, W_liquid w, W_minutes w, W_vented w, (W_lost w).toInt64, M_pumped g, M_pumpedWeight g, W_valveStrength w, ba, M_cement g, M_casedAfter g, M_flowed g, M_kept g, M_tests g, M_tested g, M_by g, M_isPassed g, M_testedAt g, M_stops g)
theorem M_thrown_put (w : WS) (ba : Int32) (g : MS) : M_thrown (put w ba g) = M_thrown g := rfl
theorem M_pore_put (w : WS) (ba : Int32) (g : MS) : M_pore (put w ba g) = M_pore g := rfl
theorem M_breaks_put (w : WS) (ba : Int32) (g : MS) : M_breaks (put w ba g) = M_breaks g := rfl
theorem M_rate_put (w : WS) (ba : Int32) (g : MS) : M_rate (put w ba g) = M_rate g := rfl
theorem M_bearsGas_put (w : WS) (ba : Int32) (g : MS) : M_bearsGas (put w ba g) = M_bearsGas g := rfl
theorem M_depth_put (w : WS) (ba : Int32) (g : MS) : M_depth (put w ba g) = W_depth w := rfl
theorem M_shoe_put (w : WS) (ba : Int32) (g : MS) : M_shoe (put w ba g) = W_shoe w := rfl
theorem M_weight_put (w : WS) (ba : Int32) (g : MS) : M_weight (put w ba g) = W_weight w := rfl
theorem M_isClosed_put (w : WS) (ba : Int32) (g : MS) : M_isClosed (put w ba g) = W_isClosed w := rfl
theorem M_choke_put (w : WS) (ba : Int32) (g : MS) : M_choke (put w ba g) = W_choke w := rfl
theorem M_charge_put (w : WS) (ba : Int32) (g : MS) : M_charge (put w ba g) = W_charge w := rfl
theorem M_place_put (w : WS) (ba : Int32) (g : MS) : M_place (put w ba g) = W_place w := rfl
theorem M_gas_put (w : WS) (ba : Int32) (g : MS) : M_gas (put w ba g) = W_gas w := rfl
theorem M_liquid_put (w : WS) (ba : Int32) (g : MS) : M_liquid (put w ba g) = W_liquid w := rfl
theorem M_minutes_put (w : WS) (ba : Int32) (g : MS) : M_minutes (put w ba g) = W_minutes w := rfl
theorem M_vented_put (w : WS) (ba : Int32) (g : MS) : M_vented (put w ba g) = W_vented w := rfl
theorem M_lost_put (w : WS) (ba : Int32) (g : MS) : M_lost (put w ba g) = (W_lost w).toInt64 := rfl
theorem M_pumped_put (w : WS) (ba : Int32) (g : MS) : M_pumped (put w ba g) = M_pumped g := rfl
theorem M_pumpedWeight_put (w : WS) (ba : Int32) (g : MS) : M_pumpedWeight (put w ba g) = M_pumpedWeight g := rfl
theorem M_valve_put (w : WS) (ba : Int32) (g : MS) : M_valve (put w ba g) = W_valveStrength w := rfl
theorem M_brokenAfter_put (w : WS) (ba : Int32) (g : MS) : M_brokenAfter (put w ba g) = ba := rfl
theorem M_cement_put (w : WS) (ba : Int32) (g : MS) : M_cement (put w ba g) = M_cement g := rfl
theorem M_casedAfter_put (w : WS) (ba : Int32) (g : MS) : M_casedAfter (put w ba g) = M_casedAfter g := rfl
theorem M_flowed_put (w : WS) (ba : Int32) (g : MS) : M_flowed (put w ba g) = M_flowed g := rfl
theorem M_kept_put (w : WS) (ba : Int32) (g : MS) : M_kept (put w ba g) = M_kept g := rfl
theorem M_tests_put (w : WS) (ba : Int32) (g : MS) : M_tests (put w ba g) = M_tests g := rfl
theorem M_tested_put (w : WS) (ba : Int32) (g : MS) : M_tested (put w ba g) = M_tested g := rfl
theorem M_by_put (w : WS) (ba : Int32) (g : MS) : M_by (put w ba g) = M_by g := rfl
theorem M_isPassed_put (w : WS) (ba : Int32) (g : MS) : M_isPassed (put w ba g) = M_isPassed g := rfl
theorem M_testedAt_put (w : WS) (ba : Int32) (g : MS) : M_testedAt (put w ba g) = M_testedAt g := rfl
theorem M_stops_put (w : WS) (ba : Int32) (g : MS) : M_stops (put w ba g) = M_stops g := rfl
theorem M_set_thrown_put (w : WS) (ba : Int32) (g : MS) (y : Int32) : M_set_thrown (put w ba g) y = put w ba (M_set_thrown g y) := rfl
theorem M_set_pore_put (w : WS) (ba : Int32) (g : MS) (y : (Nat → Int32)) : M_set_pore (put w ba g) y = put w ba (M_set_pore g y) := rfl
theorem M_set_breaks_put (w : WS) (ba : Int32) (g : MS) (y : (Nat → Int32)) : M_set_breaks (put w ba g) y = put w ba (M_set_breaks g y) := rfl
theorem M_set_rate_put (w : WS) (ba : Int32) (g : MS) (y : (Nat → Int32)) : M_set_rate (put w ba g) y = put w ba (M_set_rate g y) := rfl
theorem M_set_bearsGas_put (w : WS) (ba : Int32) (g : MS) (y : (Nat → Int32)) : M_set_bearsGas (put w ba g) y = put w ba (M_set_bearsGas g y) := rfl
theorem M_set_depth_put (w : WS) (ba : Int32) (g : MS) (y : Int32) : M_set_depth (put w ba g) y = put (W_set_depth w y) ba g := rfl
theorem M_set_shoe_put (w : WS) (ba : Int32) (g : MS) (y : Int32) : M_set_shoe (put w ba g) y = put (W_set_shoe w y) ba g := rfl
theorem M_set_weight_put (w : WS) (ba : Int32) (g : MS) (y : Int32) : M_set_weight (put w ba g) y = put (W_set_weight w y) ba g := rfl
theorem M_set_isClosed_put (w : WS) (ba : Int32) (g : MS) (y : Int32) : M_set_isClosed (put w ba g) y = put (W_set_isClosed w y) ba g := rfl
theorem M_set_choke_put (w : WS) (ba : Int32) (g : MS) (y : Int32) : M_set_choke (put w ba g) y = put (W_set_choke w y) ba g := rfl
theorem M_set_charge_put (w : WS) (ba : Int32) (g : MS) (y : Int64) : M_set_charge (put w ba g) y = put (W_set_charge w y) ba g := rfl
theorem M_set_place_put (w : WS) (ba : Int32) (g : MS) (y : Int32) : M_set_place (put w ba g) y = put (W_set_place w y) ba g := rfl
theorem M_set_gas_put (w : WS) (ba : Int32) (g : MS) (y : Int32) : M_set_gas (put w ba g) y = put (W_set_gas w y) ba g := rfl
theorem M_set_liquid_put (w : WS) (ba : Int32) (g : MS) (y : Int32) : M_set_liquid (put w ba g) y = put (W_set_liquid w y) ba g := rfl
theorem M_set_minutes_put (w : WS) (ba : Int32) (g : MS) (y : Int32) : M_set_minutes (put w ba g) y = put (W_set_minutes w y) ba g := rfl
theorem M_set_vented_put (w : WS) (ba : Int32) (g : MS) (y : Int64) : M_set_vented (put w ba g) y = put (W_set_vented w y) ba g := rfl
theorem M_set_lost_put (w : WS) (ba : Int32) (g : MS) (y : Int32) : M_set_lost (put w ba g) y.toInt64 = put (W_set_lost w y) ba g := rfl
theorem M_set_pumped_put (w : WS) (ba : Int32) (g : MS) (y : Int32) : M_set_pumped (put w ba g) y = put w ba (M_set_pumped g y) := rfl
theorem M_set_pumpedWeight_put (w : WS) (ba : Int32) (g : MS) (y : Int32) : M_set_pumpedWeight (put w ba g) y = put w ba (M_set_pumpedWeight g y) := rfl
theorem M_set_valve_put (w : WS) (ba : Int32) (g : MS) (y : Int32) : M_set_valve (put w ba g) y = put (W_set_valveStrength w y) ba g := rfl
theorem M_set_brokenAfter_put (w : WS) (ba : Int32) (g : MS) (y : Int32) : M_set_brokenAfter (put w ba g) y = put w y g := rfl
theorem M_set_cement_put (w : WS) (ba : Int32) (g : MS) (y : Int32) : M_set_cement (put w ba g) y = put w ba (M_set_cement g y) := rfl
theorem M_set_casedAfter_put (w : WS) (ba : Int32) (g : MS) (y : Int32) : M_set_casedAfter (put w ba g) y = put w ba (M_set_casedAfter g y) := rfl
theorem M_set_flowed_put (w : WS) (ba : Int32) (g : MS) (y : Int32) : M_set_flowed (put w ba g) y = put w ba (M_set_flowed g y) := rfl
theorem M_set_kept_put (w : WS) (ba : Int32) (g : MS) (y : (Nat → Int64)) : M_set_kept (put w ba g) y = put w ba (M_set_kept g y) := rfl
theorem M_set_tests_put (w : WS) (ba : Int32) (g : MS) (y : Int32) : M_set_tests (put w ba g) y = put w ba (M_set_tests g y) := rfl
theorem M_set_tested_put (w : WS) (ba : Int32) (g : MS) (y : (Nat → Int32)) : M_set_tested (put w ba g) y = put w ba (M_set_tested g y) := rfl
theorem M_set_by_put (w : WS) (ba : Int32) (g : MS) (y : (Nat → Int32)) : M_set_by (put w ba g) y = put w ba (M_set_by g y) := rfl
theorem M_set_isPassed_put (w : WS) (ba : Int32) (g : MS) (y : (Nat → Int32)) : M_set_isPassed (put w ba g) y = put w ba (M_set_isPassed g y) := rfl
theorem M_set_testedAt_put (w : WS) (ba : Int32) (g : MS) (y : (Nat → Int32)) : M_set_testedAt (put w ba g) y = put w ba (M_set_testedAt g y) := rfl
theorem M_set_stops_put (w : WS) (ba : Int32) (g : MS) (y : (Nat → Int32)) : M_set_stops (put w ba g) y = put w ba (M_set_stops g y) := rfl
theorem W_set_depth_self (w : WS) : W_set_depth w (W_depth w) = w := rfl
theorem W_set_shoe_self (w : WS) : W_set_shoe w (W_shoe w) = w := rfl
theorem W_set_weight_self (w : WS) : W_set_weight w (W_weight w) = w := rfl
theorem W_set_isClosed_self (w : WS) : W_set_isClosed w (W_isClosed w) = w := rfl
theorem W_set_choke_self (w : WS) : W_set_choke w (W_choke w) = w := rfl
theorem W_set_valveStrength_self (w : WS) : W_set_valveStrength w (W_valveStrength w) = w := rfl
theorem W_set_hasBrokenSinceTest_self (w : WS) : W_set_hasBrokenSinceTest w (W_hasBrokenSinceTest w) = w := rfl
theorem W_set_charge_self (w : WS) : W_set_charge w (W_charge w) = w := rfl
theorem W_set_place_self (w : WS) : W_set_place w (W_place w) = w := rfl
theorem W_set_gas_self (w : WS) : W_set_gas w (W_gas w) = w := rfl
theorem W_set_liquid_self (w : WS) : W_set_liquid w (W_liquid w) = w := rfl
theorem W_set_vented_self (w : WS) : W_set_vented w (W_vented w) = w := rfl
theorem W_set_lost_self (w : WS) : W_set_lost w (W_lost w) = w := rfl
theorem W_set_minutes_self (w : WS) : W_set_minutes w (W_minutes w) = w := rfl
theorem put_hb (w : WS) (ba : Int32) (g : MS) (y : Int32) : put (W_set_hasBrokenSinceTest w y) ba g = put w ba g := rfl
