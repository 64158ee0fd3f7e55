/-! The state of the objects, as tuples: X Kickroom, W Well, R Rock, T Tests, M KickroomModel; what each holds by its name, and how one is changed. -/
abbrev XS : Type := Int32 × Int32 × Int32 × Int32
def X_stops (z : XS) : Int32 := z.1
def X_pumped (z : XS) : Int32 := z.2.1
def X_latestPumpedWeight (z : XS) : Int32 := z.2.2.1
def X_cement (z : XS) : Int32 := z.2.2.2
def X_set_stops (z : XS) (y : Int32) : XS := (y, z.2.1, z.2.2.1, z.2.2.2)
def X_set_pumped (z : XS) (y : Int32) : XS := (z.1, y, z.2.2.1, z.2.2.2)
def X_set_latestPumpedWeight (z : XS) (y : Int32) : XS := (z.1, z.2.1, y, z.2.2.2)
def X_set_cement (z : XS) (y : Int32) : XS := (z.1, z.2.1, z.2.2.1, y)
theorem X_stops_set_stops (z : XS) (y : Int32) : X_stops (X_set_stops z y) = y := rfl
theorem X_stops_set_pumped (z : XS) (y : Int32) : X_stops (X_set_pumped z y) = X_stops z := rfl
theorem X_stops_set_latestPumpedWeight (z : XS) (y : Int32) : X_stops (X_set_latestPumpedWeight z y) = X_stops z := rfl
theorem X_stops_set_cement (z : XS) (y : Int32) : X_stops (X_set_cement z y) = X_stops z := rfl
theorem X_pumped_set_stops (z : XS) (y : Int32) : X_pumped (X_set_stops z y) = X_pumped z := rfl
theorem X_pumped_set_pumped (z : XS) (y : Int32) : X_pumped (X_set_pumped z y) = y := rfl
theorem X_pumped_set_latestPumpedWeight (z : XS) (y : Int32) : X_pumped (X_set_latestPumpedWeight z y) = X_pumped z := rfl
theorem X_pumped_set_cement (z : XS) (y : Int32) : X_pumped (X_set_cement z y) = X_pumped z := rfl
theorem X_latestPumpedWeight_set_stops (z : XS) (y : Int32) : X_latestPumpedWeight (X_set_stops z y) = X_latestPumpedWeight z := rfl
theorem X_latestPumpedWeight_set_pumped (z : XS) (y : Int32) : X_latestPumpedWeight (X_set_pumped z y) = X_latestPumpedWeight z := rfl
theorem X_latestPumpedWeight_set_latestPumpedWeight (z : XS) (y : Int32) : X_latestPumpedWeight (X_set_latestPumpedWeight z y) = y := rfl
theorem X_latestPumpedWeight_set_cement (z : XS) (y : Int32) : X_latestPumpedWeight (X_set_cement z y) = X_latestPumpedWeight z := rfl
theorem X_cement_set_stops (z : XS) (y : Int32) : X_cement (X_set_stops z y) = X_cement z := rfl
theorem X_cement_set_pumped (z : XS) (y : Int32) : X_cement (X_set_pumped z y) = X_cement z := rfl
theorem X_cement_set_latestPumpedWeight (z : XS) (y : Int32) : X_cement (X_set_latestPumpedWeight z y) = X_cement z := rfl
theorem X_cement_set_cement (z : XS) (y : Int32) : X_cement (X_set_cement z y) = y := rfl
abbrev WS : Type := Int32 × Int32 × Int32 × Int32 × Int32 × Int32 × Int32 × Int64 × Int32 × Int32 × Int32 × Int64 × Int32 × Int32
def W_depth (z : WS) : Int32 := z.1
def W_shoe (z : WS) : Int32 := z.2.1
def W_weight (z : WS) : Int32 := z.2.2.1
def W_isClosed (z : WS) : Int32 := z.2.2.2.1
def W_choke (z : WS) : Int32 := z.2.2.2.2.1
def W_valveStrength (z : WS) : Int32 := z.2.2.2.2.2.1
def W_hasBrokenSinceTest (z : WS) : Int32 := z.2.2.2.2.2.2.1
def W_charge (z : WS) : Int64 := z.2.2.2.2.2.2.2.1
def W_place (z : WS) : Int32 := z.2.2.2.2.2.2.2.2.1
def W_gas (z : WS) : Int32 := z.2.2.2.2.2.2.2.2.2.1
def W_liquid (z : WS) : Int32 := z.2.2.2.2.2.2.2.2.2.2.1
def W_vented (z : WS) : Int64 := z.2.2.2.2.2.2.2.2.2.2.2.1
def W_lost (z : WS) : Int32 := z.2.2.2.2.2.2.2.2.2.2.2.2.1
def W_minutes (z : WS) : Int32 := z.2.2.2.2.2.2.2.2.2.2.2.2.2
def W_set_depth (z : WS) (y : Int32) : WS := (y, z.2.1, z.2.2.1, z.2.2.2.1, z.2.2.2.2.1, z.2.2.2.2.2.1, z.2.2.2.2.2.2.1, z.2.2.2.2.2.2.2.1, z.2.2.2.2.2.2.2.2.1, z.2.2.2.2.2.2.2.2.2.1, z.2.2.2.2.2.2.2.2.2.2.1, z.2.2.2.2.2.2.2.2.2.2.2.1, z.2.2.2.2.2.2.2.2.2.2.2.2.1, z.2.2.2.2.2.2.2.2.2.2.2.2.2)
def W_set_shoe (z : WS) (y : Int32) : WS := (z.1, y, z.2.2.1, z.2.2.2.1, z.2.2.2.2.1, z.2.2.2.2.2.1, z.2.2.2.2.2.2.1, z.2.2.2.2.2.2.2.1, z.2.2.2.2.2.2.2.2.1, z.2.2.2.2.2.2.2.2.2.1, z.2.2.2.2.2.2.2.2.2.2.1, z.2.2.2.2.2.2.2.2.2.2.2.1, z.2.2.2.2.2.2.2.2.2.2.2.2.1, z.2.2.2.2.2.2.2.2.2.2.2.2.2)
def W_set_weight (z : WS) (y : Int32) : WS := (z.1, z.2.1, y, z.2.2.2.1, z.2.2.2.2.1, z.2.2.2.2.2.1, z.2.2.2.2.2.2.1, z.2.2.2.2.2.2.2.1, z.2.2.2.2.2.2.2.2.1, z.2.2.2.2.2.2.2.2.2.1, z.2.2.2.2.2.2.2.2.2.2.1, z.2.2.2.2.2.2.2.2.2.2.2.1, z.2.2.2.2.2.2.2.2.2.2.2.2.1, z.2.2.2.2.2.2.2.2.2.2.2.2.2)
def W_set_isClosed (z : WS) (y : Int32) : WS := (z.1, z.2.1, z.2.2.1, y, z.2.2.2.2.1, z.2.2.2.2.2.1, z.2.2.2.2.2.2.1, z.2.2.2.2.2.2.2.1, z.2.2.2.2.2.2.2.2.1, z.2.2.2.2.2.2.2.2.2.1, z.2.2.2.2.2.2.2.2.2.2.1, z.2.2.2.2.2.2.2.2.2.2.2.1, z.2.2.2.2.2.2.2.2.2.2.2.2.1, z.2.2.2.2.2.2.2.2.2.2.2.2.2)
def W_set_choke (z : WS) (y : Int32) : WS := (z.1, z.2.1, z.2.2.1, z.2.2.2.1, y, z.2.2.2.2.2.1, z.2.2.2.2.2.2.1, z.2.2.2.2.2.2.2.1, z.2.2.2.2.2.2.2.2.1, z.2.2.2.2.2.2.2.2.2.1, z.2.2.2.2.2.2.2.2.2.2.1, z.2.2.2.2.2.2.2.2.2.2.2.1, z.2.2.2.2.2.2.2.2.2.2.2.2.1, z.2.2.2.2.2.2.2.2.2.2.2.2.2)
def W_set_valveStrength (z : WS) (y : Int32) : WS := (z.1, z.2.1, z.2.2.1, z.2.2.2.1, z.2.2.2.2.1, y, z.2.2.2.2.2.2.1, z.2.2.2.2.2.2.2.1, z.2.2.2.2.2.2.2.2.1, z.2.2.2.2.2.2.2.2.2.1, z.2.2.2.2.2.2.2.2.2.2.1, z.2.2.2.2.2.2.2.2.2.2.2.1, z.2.2.2.2.2.2.2.2.2.2.2.2.1, z.2.2.2.2.2.2.2.2.2.2.2.2.2)
def W_set_hasBrokenSinceTest (z : WS) (y : Int32) : WS := (z.1, z.2.1, z.2.2.1, z.2.2.2.1, z.2.2.2.2.1, z.2.2.2.2.2.1, y, z.2.2.2.2.2.2.2.1, z.2.2.2.2.2.2.2.2.1, z.2.2.2.2.2.2.2.2.2.1, z.2.2.2.2.2.2.2.2.2.2.1, z.2.2.2.2.2.2.2.2.2.2.2.1, z.2.2.2.2.2.2.2.2.2.2.2.2.1, z.2.2.2.2.2.2.2.2.2.2.2.2.2)
def W_set_charge (z : WS) (y : Int64) : WS := (z.1, z.2.1, z.2.2.1, z.2.2.2.1, z.2.2.2.2.1, z.2.2.2.2.2.1, z.2.2.2.2.2.2.1, y, z.2.2.2.2.2.2.2.2.1, z.2.2.2.2.2.2.2.2.2.1, z.2.2.2.2.2.2.2.2.2.2.1, z.2.2.2.2.2.2.2.2.2.2.2.1, z.2.2.2.2.2.2.2.2.2.2.2.2.1, z.2.2.2.2.2.2.2.2.2.2.2.2.2)
def W_set_place (z : WS) (y : Int32) : WS := (z.1, z.2.1, z.2.2.1, z.2.2.2.1, z.2.2.2.2.1, z.2.2.2.2.2.1, z.2.2.2.2.2.2.1, z.2.2.2.2.2.2.2.1, y, z.2.2.2.2.2.2.2.2.2.1, z.2.2.2.2.2.2.2.2.2.2.1, z.2.2.2.2.2.2.2.2.2.2.2.1, z.2.2.2.2.2.2.2.2.2.2.2.2.1, z.2.2.2.2.2.2.2.2.2.2.2.2.2)
def W_set_gas (z : WS) (y : Int32) : WS := (z.1, z.2.1, z.2.2.1, z.2.2.2.1, z.2.2.2.2.1, z.2.2.2.2.2.1, z.2.2.2.2.2.2.1, z.2.2.2.2.2.2.2.1, z.2.2.2.2.2.2.2.2.1, y, z.2.2.2.2.2.2.2.2.2.2.1, z.2.2.2.2.2.2.2.2.2.2.2.1, z.2.2.2.2.2.2.2.2.2.2.2.2.1, z.2.2.2.2.2.2.2.2.2.2.2.2.2)
def W_set_liquid (z : WS) (y : Int32) : WS := (z.1, z.2.1, z.2.2.1, z.2.2.2.1, z.2.2.2.2.1, z.2.2.2.2.2.1, z.2.2.2.2.2.2.1, z.2.2.2.2.2.2.2.1, z.2.2.2.2.2.2.2.2.1, z.2.2.2.2.2.2.2.2.2.1, y, z.2.2.2.2.2.2.2.2.2.2.2.1, z.2.2.2.2.2.2.2.2.2.2.2.2.1, z.2.2.2.2.2.2.2.2.2.2.2.2.2)
def W_set_vented (z : WS) (y : Int64) : WS := (z.1, z.2.1, z.2.2.1, z.2.2.2.1, z.2.2.2.2.1, z.2.2.2.2.2.1, z.2.2.2.2.2.2.1, z.2.2.2.2.2.2.2.1, z.2.2.2.2.2.2.2.2.1, z.2.2.2.2.2.2.2.2.2.1, z.2.2.2.2.2.2.2.2.2.2.1, y, z.2.2.2.2.2.2.2.2.2.2.2.2.1, z.2.2.2.2.2.2.2.2.2.2.2.2.2)
def W_set_lost (z : WS) (y : Int32) : WS := (z.1, z.2.1, z.2.2.1, z.2.2.2.1, z.2.2.2.2.1, z.2.2.2.2.2.1, z.2.2.2.2.2.2.1, z.2.2.2.2.2.2.2.1, z.2.2.2.2.2.2.2.2.1, z.2.2.2.2.2.2.2.2.2.1, z.2.2.2.2.2.2.2.2.2.2.1, z.2.2.2.2.2.2.2.2.2.2.2.1, y, z.2.2.2.2.2.2.2.2.2.2.2.2.2)
def W_set_minutes (z : WS) (y : Int32) : WS := (z.1, z.2.1, z.2.2.1, z.2.2.2.1, z.2.2.2.2.1, z.2.2.2.2.2.1, z.2.2.2.2.2.2.1, z.2.2.2.2.2.2.2.1, z.2.2.2.2.2.2.2.2.1, z.2.2.2.2.2.2.2.2.2.1, z.2.2.2.2.2.2.2.2.2.2.1, z.2.2.2.2.2.2.2.2.2.2.2.1, z.2.2.2.2.2.2.2.2.2.2.2.2.1, y)
theorem W_depth_set_depth (z : WS) (y : Int32) : W_depth (W_set_depth z y) = y := rfl
theorem W_depth_set_shoe (z : WS) (y : Int32) : W_depth (W_set_shoe z y) = W_depth z := rfl
theorem W_depth_set_weight (z : WS) (y : Int32) : W_depth (W_set_weight z y) = W_depth z := rfl
theorem W_depth_set_isClosed (z : WS) (y : Int32) : W_depth (W_set_isClosed z y) = W_depth z := rfl
theorem W_depth_set_choke (z : WS) (y : Int32) : W_depth (W_set_choke z y) = W_depth z := rfl
theorem W_depth_set_valveStrength (z : WS) (y : Int32) : W_depth (W_set_valveStrength z y) = W_depth z := rfl
theorem W_depth_set_hasBrokenSinceTest (z : WS) (y : Int32) : W_depth (W_set_hasBrokenSinceTest z y) = W_depth z := rfl
theorem W_depth_set_charge (z : WS) (y : Int64) : W_depth (W_set_charge z y) = W_depth z := rfl
theorem W_depth_set_place (z : WS) (y : Int32) : W_depth (W_set_place z y) = W_depth z := rfl
theorem W_depth_set_gas (z : WS) (y : Int32) : W_depth (W_set_gas z y) = W_depth z := rfl
theorem W_depth_set_liquid (z : WS) (y : Int32) : W_depth (W_set_liquid z y) = W_depth z := rfl
theorem W_depth_set_vented (z : WS) (y : Int64) : W_depth (W_set_vented z y) = W_depth z := rfl
theorem W_depth_set_lost (z : WS) (y : Int32) : W_depth (W_set_lost z y) = W_depth z := rfl
theorem W_depth_set_minutes (z : WS) (y : Int32) : W_depth (W_set_minutes z y) = W_depth z := rfl
theorem W_shoe_set_depth (z : WS) (y : Int32) : W_shoe (W_set_depth z y) = W_shoe z := rfl
theorem W_shoe_set_shoe (z : WS) (y : Int32) : W_shoe (W_set_shoe z y) = y := rfl
theorem W_shoe_set_weight (z : WS) (y : Int32) : W_shoe (W_set_weight z y) = W_shoe z := rfl
theorem W_shoe_set_isClosed (z : WS) (y : Int32) : W_shoe (W_set_isClosed z y) = W_shoe z := rfl
theorem W_shoe_set_choke (z : WS) (y : Int32) : W_shoe (W_set_choke z y) = W_shoe z := rfl
theorem W_shoe_set_valveStrength (z : WS) (y : Int32) : W_shoe (W_set_valveStrength z y) = W_shoe z := rfl
theorem W_shoe_set_hasBrokenSinceTest (z : WS) (y : Int32) : W_shoe (W_set_hasBrokenSinceTest z y) = W_shoe z := rfl
theorem W_shoe_set_charge (z : WS) (y : Int64) : W_shoe (W_set_charge z y) = W_shoe z := rfl
theorem W_shoe_set_place (z : WS) (y : Int32) : W_shoe (W_set_place z y) = W_shoe z := rfl
theorem W_shoe_set_gas (z : WS) (y : Int32) : W_shoe (W_set_gas z y) = W_shoe z := rfl
theorem W_shoe_set_liquid (z : WS) (y : Int32) : W_shoe (W_set_liquid z y) = W_shoe z := rfl
theorem W_shoe_set_vented (z : WS) (y : Int64) : W_shoe (W_set_vented z y) = W_shoe z := rfl
theorem W_shoe_set_lost (z : WS) (y : Int32) : W_shoe (W_set_lost z y) = W_shoe z := rfl
theorem W_shoe_set_minutes (z : WS) (y : Int32) : W_shoe (W_set_minutes z y) = W_shoe z := rfl
theorem W_weight_set_depth (z : WS) (y : Int32) : W_weight (W_set_depth z y) = W_weight z := rfl
theorem W_weight_set_shoe (z : WS) (y : Int32) : W_weight (W_set_shoe z y) = W_weight z := rfl
theorem W_weight_set_weight (z : WS) (y : Int32) : W_weight (W_set_weight z y) = y := rfl
theorem W_weight_set_isClosed (z : WS) (y : Int32) : W_weight (W_set_isClosed z y) = W_weight z := rfl
theorem W_weight_set_choke (z : WS) (y : Int32) : W_weight (W_set_choke z y) = W_weight z := rfl
theorem W_weight_set_valveStrength (z : WS) (y : Int32) : W_weight (W_set_valveStrength z y) = W_weight z := rfl
theorem W_weight_set_hasBrokenSinceTest (z : WS) (y : Int32) : W_weight (W_set_hasBrokenSinceTest z y) = W_weight z := rfl
theorem W_weight_set_charge (z : WS) (y : Int64) : W_weight (W_set_charge z y) = W_weight z := rfl
theorem W_weight_set_place (z : WS) (y : Int32) : W_weight (W_set_place z y) = W_weight z := rfl
theorem W_weight_set_gas (z : WS) (y : Int32) : W_weight (W_set_gas z y) = W_weight z := rfl
theorem W_weight_set_liquid (z : WS) (y : Int32) : W_weight (W_set_liquid z y) = W_weight z := rfl
theorem W_weight_set_vented (z : WS) (y : Int64) : W_weight (W_set_vented z y) = W_weight z := rfl
theorem W_weight_set_lost (z : WS) (y : Int32) : W_weight (W_set_lost z y) = W_weight z := rfl
theorem W_weight_set_minutes (z : WS) (y : Int32) : W_weight (W_set_minutes z y) = W_weight z := rfl
theorem W_isClosed_set_depth (z : WS) (y : Int32) : W_isClosed (W_set_depth z y) = W_isClosed z := rfl
theorem W_isClosed_set_shoe (z : WS) (y : Int32) : W_isClosed (W_set_shoe z y) = W_isClosed z := rfl
theorem W_isClosed_set_weight (z : WS) (y : Int32) : W_isClosed (W_set_weight z y) = W_isClosed z := rfl
theorem W_isClosed_set_isClosed (z : WS) (y : Int32) : W_isClosed (W_set_isClosed z y) = y := rfl
theorem W_isClosed_set_choke (z : WS) (y : Int32) : W_isClosed (W_set_choke z y) = W_isClosed z := rfl
theorem W_isClosed_set_valveStrength (z : WS) (y : Int32) : W_isClosed (W_set_valveStrength z y) = W_isClosed z := rfl
theorem W_isClosed_set_hasBrokenSinceTest (z : WS) (y : Int32) : W_isClosed (W_set_hasBrokenSinceTest z y) = W_isClosed z := rfl
theorem W_isClosed_set_charge (z : WS) (y : Int64) : W_isClosed (W_set_charge z y) = W_isClosed z := rfl
theorem W_isClosed_set_place (z : WS) (y : Int32) : W_isClosed (W_set_place z y) = W_isClosed z := rfl
theorem W_isClosed_set_gas (z : WS) (y : Int32) : W_isClosed (W_set_gas z y) = W_isClosed z := rfl
theorem W_isClosed_set_liquid (z : WS) (y : Int32) : W_isClosed (W_set_liquid z y) = W_isClosed z := rfl
theorem W_isClosed_set_vented (z : WS) (y : Int64) : W_isClosed (W_set_vented z y) = W_isClosed z := rfl
theorem W_isClosed_set_lost (z : WS) (y : Int32) : W_isClosed (W_set_lost z y) = W_isClosed z := rfl
theorem W_isClosed_set_minutes (z : WS) (y : Int32) : W_isClosed (W_set_minutes z y) = W_isClosed z := rfl
theorem W_choke_set_depth (z : WS) (y : Int32) : W_choke (W_set_depth z y) = W_choke z := rfl
theorem W_choke_set_shoe (z : WS) (y : Int32) : W_choke (W_set_shoe z y) = W_choke z := rfl
theorem W_choke_set_weight (z : WS) (y : Int32) : W_choke (W_set_weight z y) = W_choke z := rfl
theorem W_choke_set_isClosed (z : WS) (y : Int32) : W_choke (W_set_isClosed z y) = W_choke z := rfl
theorem W_choke_set_choke (z : WS) (y : Int32) : W_choke (W_set_choke z y) = y := rfl
theorem W_choke_set_valveStrength (z : WS) (y : Int32) : W_choke (W_set_valveStrength z y) = W_choke z := rfl
theorem W_choke_set_hasBrokenSinceTest (z : WS) (y : Int32) : W_choke (W_set_hasBrokenSinceTest z y) = W_choke z := rfl
theorem W_choke_set_charge (z : WS) (y : Int64) : W_choke (W_set_charge z y) = W_choke z := rfl
theorem W_choke_set_place (z : WS) (y : Int32) : W_choke (W_set_place z y) = W_choke z := rfl
theorem W_choke_set_gas (z : WS) (y : Int32) : W_choke (W_set_gas z y) = W_choke z := rfl
theorem W_choke_set_liquid (z : WS) (y : Int32) : W_choke (W_set_liquid z y) = W_choke z := rfl
theorem W_choke_set_vented (z : WS) (y : Int64) : W_choke (W_set_vented z y) = W_choke z := rfl
theorem W_choke_set_lost (z : WS) (y : Int32) : W_choke (W_set_lost z y) = W_choke z := rfl
theorem W_choke_set_minutes (z : WS) (y : Int32) : W_choke (W_set_minutes z y) = W_choke z := rfl
theorem W_valveStrength_set_depth (z : WS) (y : Int32) : W_valveStrength (W_set_depth z y) = W_valveStrength z := rfl
theorem W_valveStrength_set_shoe (z : WS) (y : Int32) : W_valveStrength (W_set_shoe z y) = W_valveStrength z := rfl
theorem W_valveStrength_set_weight (z : WS) (y : Int32) : W_valveStrength (W_set_weight z y) = W_valveStrength z := rfl
theorem W_valveStrength_set_isClosed (z : WS) (y : Int32) : W_valveStrength (W_set_isClosed z y) = W_valveStrength z := rfl
theorem W_valveStrength_set_choke (z : WS) (y : Int32) : W_valveStrength (W_set_choke z y) = W_valveStrength z := rfl
theorem W_valveStrength_set_valveStrength (z : WS) (y : Int32) : W_valveStrength (W_set_valveStrength z y) = y := rfl
theorem W_valveStrength_set_hasBrokenSinceTest (z : WS) (y : Int32) : W_valveStrength (W_set_hasBrokenSinceTest z y) = W_valveStrength z := rfl
theorem W_valveStrength_set_charge (z : WS) (y : Int64) : W_valveStrength (W_set_charge z y) = W_valveStrength z := rfl
theorem W_valveStrength_set_place (z : WS) (y : Int32) : W_valveStrength (W_set_place z y) = W_valveStrength z := rfl
theorem W_valveStrength_set_gas (z : WS) (y : Int32) : W_valveStrength (W_set_gas z y) = W_valveStrength z := rfl
theorem W_valveStrength_set_liquid (z : WS) (y : Int32) : W_valveStrength (W_set_liquid z y) = W_valveStrength z := rfl
theorem W_valveStrength_set_vented (z : WS) (y : Int64) : W_valveStrength (W_set_vented z y) = W_valveStrength z := rfl
theorem W_valveStrength_set_lost (z : WS) (y : Int32) : W_valveStrength (W_set_lost z y) = W_valveStrength z := rfl
theorem W_valveStrength_set_minutes (z : WS) (y : Int32) : W_valveStrength (W_set_minutes z y) = W_valveStrength z := rfl
theorem W_hasBrokenSinceTest_set_depth (z : WS) (y : Int32) : W_hasBrokenSinceTest (W_set_depth z y) = W_hasBrokenSinceTest z := rfl
theorem W_hasBrokenSinceTest_set_shoe (z : WS) (y : Int32) : W_hasBrokenSinceTest (W_set_shoe z y) = W_hasBrokenSinceTest z := rfl
theorem W_hasBrokenSinceTest_set_weight (z : WS) (y : Int32) : W_hasBrokenSinceTest (W_set_weight z y) = W_hasBrokenSinceTest z := rfl
theorem W_hasBrokenSinceTest_set_isClosed (z : WS) (y : Int32) : W_hasBrokenSinceTest (W_set_isClosed z y) = W_hasBrokenSinceTest z := rfl
theorem W_hasBrokenSinceTest_set_choke (z : WS) (y : Int32) : W_hasBrokenSinceTest (W_set_choke z y) = W_hasBrokenSinceTest z := rfl
theorem W_hasBrokenSinceTest_set_valveStrength (z : WS) (y : Int32) : W_hasBrokenSinceTest (W_set_valveStrength z y) = W_hasBrokenSinceTest z := rfl
theorem W_hasBrokenSinceTest_set_hasBrokenSinceTest (z : WS) (y : Int32) : W_hasBrokenSinceTest (W_set_hasBrokenSinceTest z y) = y := rfl
theorem W_hasBrokenSinceTest_set_charge (z : WS) (y : Int64) : W_hasBrokenSinceTest (W_set_charge z y) = W_hasBrokenSinceTest z := rfl
theorem W_hasBrokenSinceTest_set_place (z : WS) (y : Int32) : W_hasBrokenSinceTest (W_set_place z y) = W_hasBrokenSinceTest z := rfl
theorem W_hasBrokenSinceTest_set_gas (z : WS) (y : Int32) : W_hasBrokenSinceTest (W_set_gas z y) = W_hasBrokenSinceTest z := rfl
theorem W_hasBrokenSinceTest_set_liquid (z : WS) (y : Int32) : W_hasBrokenSinceTest (W_set_liquid z y) = W_hasBrokenSinceTest z := rfl
theorem W_hasBrokenSinceTest_set_vented (z : WS) (y : Int64) : W_hasBrokenSinceTest (W_set_vented z y) = W_hasBrokenSinceTest z := rfl
theorem W_hasBrokenSinceTest_set_lost (z : WS) (y : Int32) : W_hasBrokenSinceTest (W_set_lost z y) = W_hasBrokenSinceTest z := rfl
theorem W_hasBrokenSinceTest_set_minutes (z : WS) (y : Int32) : W_hasBrokenSinceTest (W_set_minutes z y) = W_hasBrokenSinceTest z := rfl
theorem W_charge_set_depth (z : WS) (y : Int32) : W_charge (W_set_depth z y) = W_charge z := rfl
theorem W_charge_set_shoe (z : WS) (y : Int32) : W_charge (W_set_shoe z y) = W_charge z := rfl
theorem W_charge_set_weight (z : WS) (y : Int32) : W_charge (W_set_weight z y) = W_charge z := rfl
theorem W_charge_set_isClosed (z : WS) (y : Int32) : W_charge (W_set_isClosed z y) = W_charge z := rfl
theorem W_charge_set_choke (z : WS) (y : Int32) : W_charge (W_set_choke z y) = W_charge z := rfl
theorem W_charge_set_valveStrength (z : WS) (y : Int32) : W_charge (W_set_valveStrength z y) = W_charge z := rfl
theorem W_charge_set_hasBrokenSinceTest (z : WS) (y : Int32) : W_charge (W_set_hasBrokenSinceTest z y) = W_charge z := rfl
theorem W_charge_set_charge (z : WS) (y : Int64) : W_charge (W_set_charge z y) = y := rfl
theorem W_charge_set_place (z : WS) (y : Int32) : W_charge (W_set_place z y) = W_charge z := rfl
theorem W_charge_set_gas (z : WS) (y : Int32) : W_charge (W_set_gas z y) = W_charge z := rfl
theorem W_charge_set_liquid (z : WS) (y : Int32) : W_charge (W_set_liquid z y) = W_charge z := rfl
theorem W_charge_set_vented (z : WS) (y : Int64) : W_charge (W_set_vented z y) = W_charge z := rfl
theorem W_charge_set_lost (z : WS) (y : Int32) : W_charge (W_set_lost z y) = W_charge z := rfl
theorem W_charge_set_minutes (z : WS) (y : Int32) : W_charge (W_set_minutes z y) = W_charge z := rfl
theorem W_place_set_depth (z : WS) (y : Int32) : W_place (W_set_depth z y) = W_place z := rfl
theorem W_place_set_shoe (z : WS) (y : Int32) : W_place (W_set_shoe z y) = W_place z := rfl
theorem W_place_set_weight (z : WS) (y : Int32) : W_place (W_set_weight z y) = W_place z := rfl
theorem W_place_set_isClosed (z : WS) (y : Int32) : W_place (W_set_isClosed z y) = W_place z := rfl
theorem W_place_set_choke (z : WS) (y : Int32) : W_place (W_set_choke z y) = W_place z := rfl
theorem W_place_set_valveStrength (z : WS) (y : Int32) : W_place (W_set_valveStrength z y) = W_place z := rfl
theorem W_place_set_hasBrokenSinceTest (z : WS) (y : Int32) : W_place (W_set_hasBrokenSinceTest z y) = W_place z := rfl
theorem W_place_set_charge (z : WS) (y : Int64) : W_place (W_set_charge z y) = W_place z := rfl
theorem W_place_set_place (z : WS) (y : Int32) : W_place (W_set_place z y) = y := rfl
theorem W_place_set_gas (z : WS) (y : Int32) : W_place (W_set_gas z y) = W_place z := rfl
theorem W_place_set_liquid (z : WS) (y : Int32) : W_place (W_set_liquid z y) = W_place z := rfl
theorem W_place_set_vented (z : WS) (y : Int64) : W_place (W_set_vented z y) = W_place z := rfl
theorem W_place_set_lost (z : WS) (y : Int32) : W_place (W_set_lost z y) = W_place z := rfl
theorem W_place_set_minutes (z : WS) (y : Int32) : W_place (W_set_minutes z y) = W_place z := rfl
theorem W_gas_set_depth (z : WS) (y : Int32) : W_gas (W_set_depth z y) = W_gas z := rfl
theorem W_gas_set_shoe (z : WS) (y : Int32) : W_gas (W_set_shoe z y) = W_gas z := rfl
theorem W_gas_set_weight (z : WS) (y : Int32) : W_gas (W_set_weight z y) = W_gas z := rfl
theorem W_gas_set_isClosed (z : WS) (y : Int32) : W_gas (W_set_isClosed z y) = W_gas z := rfl
theorem W_gas_set_choke (z : WS) (y : Int32) : W_gas (W_set_choke z y) = W_gas z := rfl
theorem W_gas_set_valveStrength (z : WS) (y : Int32) : W_gas (W_set_valveStrength z y) = W_gas z := rfl
theorem W_gas_set_hasBrokenSinceTest (z : WS) (y : Int32) : W_gas (W_set_hasBrokenSinceTest z y) = W_gas z := rfl
theorem W_gas_set_charge (z : WS) (y : Int64) : W_gas (W_set_charge z y) = W_gas z := rfl
theorem W_gas_set_place (z : WS) (y : Int32) : W_gas (W_set_place z y) = W_gas z := rfl
theorem W_gas_set_gas (z : WS) (y : Int32) : W_gas (W_set_gas z y) = y := rfl
theorem W_gas_set_liquid (z : WS) (y : Int32) : W_gas (W_set_liquid z y) = W_gas z := rfl
theorem W_gas_set_vented (z : WS) (y : Int64) : W_gas (W_set_vented z y) = W_gas z := rfl
theorem W_gas_set_lost (z : WS) (y : Int32) : W_gas (W_set_lost z y) = W_gas z := rfl
theorem W_gas_set_minutes (z : WS) (y : Int32) : W_gas (W_set_minutes z y) = W_gas z := rfl
theorem W_liquid_set_depth (z : WS) (y : Int32) : W_liquid (W_set_depth z y) = W_liquid z := rfl
theorem W_liquid_set_shoe (z : WS) (y : Int32) : W_liquid (W_set_shoe z y) = W_liquid z := rfl
theorem W_liquid_set_weight (z : WS) (y : Int32) : W_liquid (W_set_weight z y) = W_liquid z := rfl
theorem W_liquid_set_isClosed (z : WS) (y : Int32) : W_liquid (W_set_isClosed z y) = W_liquid z := rfl
theorem W_liquid_set_choke (z : WS) (y : Int32) : W_liquid (W_set_choke z y) = W_liquid z := rfl
theorem W_liquid_set_valveStrength (z : WS) (y : Int32) : W_liquid (W_set_valveStrength z y) = W_liquid z := rfl
theorem W_liquid_set_hasBrokenSinceTest (z : WS) (y : Int32) : W_liquid (W_set_hasBrokenSinceTest z y) = W_liquid z := rfl
theorem W_liquid_set_charge (z : WS) (y : Int64) : W_liquid (W_set_charge z y) = W_liquid z := rfl
theorem W_liquid_set_place (z : WS) (y : Int32) : W_liquid (W_set_place z y) = W_liquid z := rfl
theorem W_liquid_set_gas (z : WS) (y : Int32) : W_liquid (W_set_gas z y) = W_liquid z := rfl
theorem W_liquid_set_liquid (z : WS) (y : Int32) : W_liquid (W_set_liquid z y) = y := rfl
theorem W_liquid_set_vented (z : WS) (y : Int64) : W_liquid (W_set_vented z y) = W_liquid z := rfl
theorem W_liquid_set_lost (z : WS) (y : Int32) : W_liquid (W_set_lost z y) = W_liquid z := rfl
theorem W_liquid_set_minutes (z : WS) (y : Int32) : W_liquid (W_set_minutes z y) = W_liquid z := rfl
theorem W_vented_set_depth (z : WS) (y : Int32) : W_vented (W_set_depth z y) = W_vented z := rfl
theorem W_vented_set_shoe (z : WS) (y : Int32) : W_vented (W_set_shoe z y) = W_vented z := rfl
theorem W_vented_set_weight (z : WS) (y : Int32) : W_vented (W_set_weight z y) = W_vented z := rfl
theorem W_vented_set_isClosed (z : WS) (y : Int32) : W_vented (W_set_isClosed z y) = W_vented z := rfl
theorem W_vented_set_choke (z : WS) (y : Int32) : W_vented (W_set_choke z y) = W_vented z := rfl
theorem W_vented_set_valveStrength (z : WS) (y : Int32) : W_vented (W_set_valveStrength z y) = W_vented z := rfl
theorem W_vented_set_hasBrokenSinceTest (z : WS) (y : Int32) : W_vented (W_set_hasBrokenSinceTest z y) = W_vented z := rfl
theorem W_vented_set_charge (z : WS) (y : Int64) : W_vented (W_set_charge z y) = W_vented z := rfl
theorem W_vented_set_place (z : WS) (y : Int32) : W_vented (W_set_place z y) = W_vented z := rfl
theorem W_vented_set_gas (z : WS) (y : Int32) : W_vented (W_set_gas z y) = W_vented z := rfl
theorem W_vented_set_liquid (z : WS) (y : Int32) : W_vented (W_set_liquid z y) = W_vented z := rfl
theorem W_vented_set_vented (z : WS) (y : Int64) : W_vented (W_set_vented z y) = y := rfl
theorem W_vented_set_lost (z : WS) (y : Int32) : W_vented (W_set_lost z y) = W_vented z := rfl
theorem W_vented_set_minutes (z : WS) (y : Int32) : W_vented (W_set_minutes z y) = W_vented z := rfl
theorem W_lost_set_depth (z : WS) (y : Int32) : W_lost (W_set_depth z y) = W_lost z := rfl
theorem W_lost_set_shoe (z : WS) (y : Int32) : W_lost (W_set_shoe z y) = W_lost z := rfl
theorem W_lost_set_weight (z : WS) (y : Int32) : W_lost (W_set_weight z y) = W_lost z := rfl
theorem W_lost_set_isClosed (z : WS) (y : Int32) : W_lost (W_set_isClosed z y) = W_lost z := rfl
theorem W_lost_set_choke (z : WS) (y : Int32) : W_lost (W_set_choke z y) = W_lost z := rfl
theorem W_lost_set_valveStrength (z : WS) (y : Int32) : W_lost (W_set_valveStrength z y) = W_lost z := rfl
theorem W_lost_set_hasBrokenSinceTest (z : WS) (y : Int32) : W_lost (W_set_hasBrokenSinceTest z y) = W_lost z := rfl
theorem W_lost_set_charge (z : WS) (y : Int64) : W_lost (W_set_charge z y) = W_lost z := rfl
theorem W_lost_set_place (z : WS) (y : Int32) : W_lost (W_set_place z y) = W_lost z := rfl
theorem W_lost_set_gas (z : WS) (y : Int32) : W_lost (W_set_gas z y) = W_lost z := rfl
theorem W_lost_set_liquid (z : WS) (y : Int32) : W_lost (W_set_liquid z y) = W_lost z := rfl
theorem W_lost_set_vented (z : WS) (y : Int64) : W_lost (W_set_vented z y) = W_lost z := rfl
theorem W_lost_set_lost (z : WS) (y : Int32) : W_lost (W_set_lost z y) = y := rfl
theorem W_lost_set_minutes (z : WS) (y : Int32) : W_lost (W_set_minutes z y) = W_lost z := rfl
theorem W_minutes_set_depth (z : WS) (y : Int32) : W_minutes (W_set_depth z y) = W_minutes z := rfl
theorem W_minutes_set_shoe (z : WS) (y : Int32) : W_minutes (W_set_shoe z y) = W_minutes z := rfl
theorem W_minutes_set_weight (z : WS) (y : Int32) : W_minutes (W_set_weight z y) = W_minutes z := rfl
theorem W_minutes_set_isClosed (z : WS) (y : Int32) : W_minutes (W_set_isClosed z y) = W_minutes z := rfl
theorem W_minutes_set_choke (z : WS) (y : Int32) : W_minutes (W_set_choke z y) = W_minutes z := rfl
theorem W_minutes_set_valveStrength (z : WS) (y : Int32) : W_minutes (W_set_valveStrength z y) = W_minutes z := rfl
theorem W_minutes_set_hasBrokenSinceTest (z : WS) (y : Int32) : W_minutes (W_set_hasBrokenSinceTest z y) = W_minutes z := rfl
theorem W_minutes_set_charge (z : WS) (y : Int64) : W_minutes (W_set_charge z y) = W_minutes z := rfl
theorem W_minutes_set_place (z : WS) (y : Int32) : W_minutes (W_set_place z y) = W_minutes z := rfl
theorem W_minutes_set_gas (z : WS) (y : Int32) : W_minutes (W_set_gas z y) = W_minutes z := rfl
theorem W_minutes_set_liquid (z : WS) (y : Int32) : W_minutes (W_set_liquid z y) = W_minutes z := rfl
theorem W_minutes_set_vented (z : WS) (y : Int64) : W_minutes (W_set_vented z y) = W_minutes z := rfl
theorem W_minutes_set_lost (z : WS) (y : Int32) : W_minutes (W_set_lost z y) = W_minutes z := rfl
theorem W_minutes_set_minutes (z : WS) (y : Int32) : W_minutes (W_set_minutes z y) = y := rfl
abbrev RS : Type := (Nat → Int32) × (Nat → Int32) × (Nat → Int32) × (Nat → Int32) × (Nat → Int32)
def R_pores (z : RS) : (Nat → Int32) := z.1
def R_breaks (z : RS) : (Nat → Int32) := z.2.1
def R_rates (z : RS) : (Nat → Int32) := z.2.2.1
def R_gases (z : RS) : (Nat → Int32) := z.2.2.2.1
def R_pieces (z : RS) : (Nat → Int32) := z.2.2.2.2
def R_set_pores (z : RS) (y : (Nat → Int32)) : RS := (y, z.2.1, z.2.2.1, z.2.2.2.1, z.2.2.2.2)
def R_set_breaks (z : RS) (y : (Nat → Int32)) : RS := (z.1, y, z.2.2.1, z.2.2.2.1, z.2.2.2.2)
def R_set_rates (z : RS) (y : (Nat → Int32)) : RS := (z.1, z.2.1, y, z.2.2.2.1, z.2.2.2.2)
def R_set_gases (z : RS) (y : (Nat → Int32)) : RS := (z.1, z.2.1, z.2.2.1, y, z.2.2.2.2)
def R_set_pieces (z : RS) (y : (Nat → Int32)) : RS := (z.1, z.2.1, z.2.2.1, z.2.2.2.1, y)
theorem R_pores_set_pores (z : RS) (y : (Nat → Int32)) : R_pores (R_set_pores z y) = y := rfl
theorem R_pores_set_breaks (z : RS) (y : (Nat → Int32)) : R_pores (R_set_breaks z y) = R_pores z := rfl
theorem R_pores_set_rates (z : RS) (y : (Nat → Int32)) : R_pores (R_set_rates z y) = R_pores z := rfl
theorem R_pores_set_gases (z : RS) (y : (Nat → Int32)) : R_pores (R_set_gases z y) = R_pores z := rfl
theorem R_pores_set_pieces (z : RS) (y : (Nat → Int32)) : R_pores (R_set_pieces z y) = R_pores z := rfl
theorem R_breaks_set_pores (z : RS) (y : (Nat → Int32)) : R_breaks (R_set_pores z y) = R_breaks z := rfl
theorem R_breaks_set_breaks (z : RS) (y : (Nat → Int32)) : R_breaks (R_set_breaks z y) = y := rfl
theorem R_breaks_set_rates (z : RS) (y : (Nat → Int32)) : R_breaks (R_set_rates z y) = R_breaks z := rfl
theorem R_breaks_set_gases (z : RS) (y : (Nat → Int32)) : R_breaks (R_set_gases z y) = R_breaks z := rfl
theorem R_breaks_set_pieces (z : RS) (y : (Nat → Int32)) : R_breaks (R_set_pieces z y) = R_breaks z := rfl
theorem R_rates_set_pores (z : RS) (y : (Nat → Int32)) : R_rates (R_set_pores z y) = R_rates z := rfl
theorem R_rates_set_breaks (z : RS) (y : (Nat → Int32)) : R_rates (R_set_breaks z y) = R_rates z := rfl
theorem R_rates_set_rates (z : RS) (y : (Nat → Int32)) : R_rates (R_set_rates z y) = y := rfl
theorem R_rates_set_gases (z : RS) (y : (Nat → Int32)) : R_rates (R_set_gases z y) = R_rates z := rfl
theorem R_rates_set_pieces (z : RS) (y : (Nat → Int32)) : R_rates (R_set_pieces z y) = R_rates z := rfl
theorem R_gases_set_pores (z : RS) (y : (Nat → Int32)) : R_gases (R_set_pores z y) = R_gases z := rfl
theorem R_gases_set_breaks (z : RS) (y : (Nat → Int32)) : R_gases (R_set_breaks z y) = R_gases z := rfl
theorem R_gases_set_rates (z : RS) (y : (Nat → Int32)) : R_gases (R_set_rates z y) = R_gases z := rfl
theorem R_gases_set_gases (z : RS) (y : (Nat → Int32)) : R_gases (R_set_gases z y) = y := rfl
theorem R_gases_set_pieces (z : RS) (y : (Nat → Int32)) : R_gases (R_set_pieces z y) = R_gases z := rfl
theorem R_pieces_set_pores (z : RS) (y : (Nat → Int32)) : R_pieces (R_set_pores z y) = R_pieces z := rfl
theorem R_pieces_set_breaks (z : RS) (y : (Nat → Int32)) : R_pieces (R_set_breaks z y) = R_pieces z := rfl
theorem R_pieces_set_rates (z : RS) (y : (Nat → Int32)) : R_pieces (R_set_rates z y) = R_pieces z := rfl
theorem R_pieces_set_gases (z : RS) (y : (Nat → Int32)) : R_pieces (R_set_gases z y) = R_pieces z := rfl
theorem R_pieces_set_pieces (z : RS) (y : (Nat → Int32)) : R_pieces (R_set_pieces z y) = y := rfl
abbrev TS : Type := (Nat → Int32) × (Nat → Int32) × (Nat → Int32) × (Nat → Int32) × Int32 × Int32 × Int32
def T_whats (z : TS) : (Nat → Int32) := z.1
def T_pressures (z : TS) : (Nat → Int32) := z.2.1
def T_passes (z : TS) : (Nat → Int32) := z.2.2.1
def T_minutes (z : TS) : (Nat → Int32) := z.2.2.2.1
def T_count (z : TS) : Int32 := z.2.2.2.2.1
def T_latestOfValve (z : TS) : Int32 := z.2.2.2.2.2.1
def T_latestOfCement (z : TS) : Int32 := z.2.2.2.2.2.2
def T_set_whats (z : TS) (y : (Nat → Int32)) : TS := (y, z.2.1, z.2.2.1, z.2.2.2.1, z.2.2.2.2.1, z.2.2.2.2.2.1, z.2.2.2.2.2.2)
def T_set_pressures (z : TS) (y : (Nat → Int32)) : TS := (z.1, y, z.2.2.1, z.2.2.2.1, z.2.2.2.2.1, z.2.2.2.2.2.1, z.2.2.2.2.2.2)
def T_set_passes (z : TS) (y : (Nat → Int32)) : TS := (z.1, z.2.1, y, z.2.2.2.1, z.2.2.2.2.1, z.2.2.2.2.2.1, z.2.2.2.2.2.2)
def T_set_minutes (z : TS) (y : (Nat → Int32)) : TS := (z.1, z.2.1, z.2.2.1, y, z.2.2.2.2.1, z.2.2.2.2.2.1, z.2.2.2.2.2.2)
def T_set_count (z : TS) (y : Int32) : TS := (z.1, z.2.1, z.2.2.1, z.2.2.2.1, y, z.2.2.2.2.2.1, z.2.2.2.2.2.2)
def T_set_latestOfValve (z : TS) (y : Int32) : TS := (z.1, z.2.1, z.2.2.1, z.2.2.2.1, z.2.2.2.2.1, y, z.2.2.2.2.2.2)
def T_set_latestOfCement (z : TS) (y : Int32) : TS := (z.1, z.2.1, z.2.2.1, z.2.2.2.1, z.2.2.2.2.1, z.2.2.2.2.2.1, y)
theorem T_whats_set_whats (z : TS) (y : (Nat → Int32)) : T_whats (T_set_whats z y) = y := rfl
theorem T_whats_set_pressures (z : TS) (y : (Nat → Int32)) : T_whats (T_set_pressures z y) = T_whats z := rfl
theorem T_whats_set_passes (z : TS) (y : (Nat → Int32)) : T_whats (T_set_passes z y) = T_whats z := rfl
theorem T_whats_set_minutes (z : TS) (y : (Nat → Int32)) : T_whats (T_set_minutes z y) = T_whats z := rfl
theorem T_whats_set_count (z : TS) (y : Int32) : T_whats (T_set_count z y) = T_whats z := rfl
theorem T_whats_set_latestOfValve (z : TS) (y : Int32) : T_whats (T_set_latestOfValve z y) = T_whats z := rfl
theorem T_whats_set_latestOfCement (z : TS) (y : Int32) : T_whats (T_set_latestOfCement z y) = T_whats z := rfl
theorem T_pressures_set_whats (z : TS) (y : (Nat → Int32)) : T_pressures (T_set_whats z y) = T_pressures z := rfl
theorem T_pressures_set_pressures (z : TS) (y : (Nat → Int32)) : T_pressures (T_set_pressures z y) = y := rfl
theorem T_pressures_set_passes (z : TS) (y : (Nat → Int32)) : T_pressures (T_set_passes z y) = T_pressures z := rfl
theorem T_pressures_set_minutes (z : TS) (y : (Nat → Int32)) : T_pressures (T_set_minutes z y) = T_pressures z := rfl
theorem T_pressures_set_count (z : TS) (y : Int32) : T_pressures (T_set_count z y) = T_pressures z := rfl
theorem T_pressures_set_latestOfValve (z : TS) (y : Int32) : T_pressures (T_set_latestOfValve z y) = T_pressures z := rfl
theorem T_pressures_set_latestOfCement (z : TS) (y : Int32) : T_pressures (T_set_latestOfCement z y) = T_pressures z := rfl
theorem T_passes_set_whats (z : TS) (y : (Nat → Int32)) : T_passes (T_set_whats z y) = T_passes z := rfl
theorem T_passes_set_pressures (z : TS) (y : (Nat → Int32)) : T_passes (T_set_pressures z y) = T_passes z := rfl
theorem T_passes_set_passes (z : TS) (y : (Nat → Int32)) : T_passes (T_set_passes z y) = y := rfl
theorem T_passes_set_minutes (z : TS) (y : (Nat → Int32)) : T_passes (T_set_minutes z y) = T_passes z := rfl
theorem T_passes_set_count (z : TS) (y : Int32) : T_passes (T_set_count z y) = T_passes z := rfl
theorem T_passes_set_latestOfValve (z : TS) (y : Int32) : T_passes (T_set_latestOfValve z y) = T_passes z := rfl
theorem T_passes_set_latestOfCement (z : TS) (y : Int32) : T_passes (T_set_latestOfCement z y) = T_passes z := rfl
theorem T_minutes_set_whats (z : TS) (y : (Nat → Int32)) : T_minutes (T_set_whats z y) = T_minutes z := rfl
theorem T_minutes_set_pressures (z : TS) (y : (Nat → Int32)) : T_minutes (T_set_pressures z y) = T_minutes z := rfl
theorem T_minutes_set_passes (z : TS) (y : (Nat → Int32)) : T_minutes (T_set_passes z y) = T_minutes z := rfl
theorem T_minutes_set_minutes (z : TS) (y : (Nat → Int32)) : T_minutes (T_set_minutes z y) = y := rfl
theorem T_minutes_set_count (z : TS) (y : Int32) : T_minutes (T_set_count z y) = T_minutes z := rfl
theorem T_minutes_set_latestOfValve (z : TS) (y : Int32) : T_minutes (T_set_latestOfValve z y) = T_minutes z := rfl
theorem T_minutes_set_latestOfCement (z : TS) (y : Int32) : T_minutes (T_set_latestOfCement z y) = T_minutes z := rfl
theorem T_count_set_whats (z : TS) (y : (Nat → Int32)) : T_count (T_set_whats z y) = T_count z := rfl
theorem T_count_set_pressures (z : TS) (y : (Nat → Int32)) : T_count (T_set_pressures z y) = T_count z := rfl
theorem T_count_set_passes (z : TS) (y : (Nat → Int32)) : T_count (T_set_passes z y) = T_count z := rfl
theorem T_count_set_minutes (z : TS) (y : (Nat → Int32)) : T_count (T_set_minutes z y) = T_count z := rfl
theorem T_count_set_count (z : TS) (y : Int32) : T_count (T_set_count z y) = y := rfl
theorem T_count_set_latestOfValve (z : TS) (y : Int32) : T_count (T_set_latestOfValve z y) = T_count z := rfl
theorem T_count_set_latestOfCement (z : TS) (y : Int32) : T_count (T_set_latestOfCement z y) = T_count z := rfl
theorem T_latestOfValve_set_whats (z : TS) (y : (Nat → Int32)) : T_latestOfValve (T_set_whats z y) = T_latestOfValve z := rfl
theorem T_latestOfValve_set_pressures (z : TS) (y : (Nat → Int32)) : T_latestOfValve (T_set_pressures z y) = T_latestOfValve z := rfl
theorem T_latestOfValve_set_passes (z : TS) (y : (Nat → Int32)) : T_latestOfValve (T_set_passes z y) = T_latestOfValve z := rfl
theorem T_latestOfValve_set_minutes (z : TS) (y : (Nat → Int32)) : T_latestOfValve (T_set_minutes z y) = T_latestOfValve z := rfl
theorem T_latestOfValve_set_count (z : TS) (y : Int32) : T_latestOfValve (T_set_count z y) = T_latestOfValve z := rfl
theorem T_latestOfValve_set_latestOfValve (z : TS) (y : Int32) : T_latestOfValve (T_set_latestOfValve z y) = y := rfl
theorem T_latestOfValve_set_latestOfCement (z : TS) (y : Int32) : T_latestOfValve (T_set_latestOfCement z y) = T_latestOfValve z := rfl
theorem T_latestOfCement_set_whats (z : TS) (y : (Nat → Int32)) : T_latestOfCement (T_set_whats z y) = T_latestOfCement z := rfl
theorem T_latestOfCement_set_pressures (z : TS) (y : (Nat → Int32)) : T_latestOfCement (T_set_pressures z y) = T_latestOfCement z := rfl
theorem T_latestOfCement_set_passes (z : TS) (y : (Nat → Int32)) : T_latestOfCement (T_set_passes z y) = T_latestOfCement z := rfl
theorem T_latestOfCement_set_minutes (z : TS) (y : (Nat → Int32)) : T_latestOfCement (T_set_minutes z y) = T_latestOfCement z := rfl
theorem T_latestOfCement_set_count (z : TS) (y : Int32) : T_latestOfCement (T_set_count z y) = T_latestOfCement z := rfl
theorem T_latestOfCement_set_latestOfValve (z : TS) (y : Int32) : T_latestOfCement (T_set_latestOfValve z y) = T_latestOfCement z := rfl
theorem T_latestOfCement_set_latestOfCement (z : TS) (y : Int32) : T_latestOfCement (T_set_latestOfCement z y) = y := rfl
def aI (q : Nat → ClassId) (a n : Nat) (f : Nat → Int32) : Nat × va_E := (a, .inl (q 0, n, .inl f))
def aZ (q : Nat → ClassId) (a n : Nat) (f : Nat → Int32) : Nat × va_E := (a, .inl (q 1, n, .inl f))
def aJ (q : Nat → ClassId) (a n : Nat) (f : Nat → Int64) : Nat × va_E := (a, .inl (q 2, n, .inr (.inl f)))
def oR (k : Nat → Nat) : Nat × va_E := (k 0, .inr (0, [.ref (k 1), .ref (k 2), .ref (k 3), .ref (k 4), .ref (k 5)]))
def oT (k : Nat → Nat) (z : TS) : Nat × va_E := (k 0, .inr (1, [.ref (k 1), .ref (k 2), .ref (k 3), .ref (k 4), .int (T_count z), .int (T_latestOfValve z), .int (T_latestOfCement z)]))
def oW (h rr : Nat) (z : WS) : Nat × va_E := (h, .inr (2, [.ref rr, .int (W_depth z), .int (W_shoe z), .int (W_weight z), .int (W_isClosed z), .int (W_choke z), .int (W_valveStrength z), .int (W_hasBrokenSinceTest z), .long (W_charge z), .int (W_place z), .int (W_gas z), .int (W_liquid z), .long (W_vented z), .int (W_lost z), .int (W_minutes z)]))
def oX (h rr hw ht tt : Nat) (z : XS) : Nat × va_E := (h, .inr (3, [.ref rr, .ref hw, .ref ht, .ref tt, .int (X_stops z), .int (X_pumped z), .int (X_latestPumpedWeight z), .int (X_cement z)]))
def cRock (k : Nat → Nat) (q : Nat → ClassId) (r : RS) : va_W := [oR k, aI q (k 1) 50 (R_pores r), aI q (k 2) 50 (R_breaks r), aI q (k 3) 50 (R_rates r), aI q (k 4) 50 (R_gases r), aI q (k 5) 50 (R_pieces r)]
def cTests (k : Nat → Nat) (q : Nat → ClassId) (t : TS) : va_W := [oT k t, aI q (k 1) 60 (T_whats t), aI q (k 2) 60 (T_pressures t), aI q (k 3) 60 (T_passes t), aI q (k 4) 60 (T_minutes t)]
def cWell (h : Nat) (kr : Nat → Nat) (q : Nat → ClassId) (w : WS) (r : RS) : va_W := oW h (kr 0) w :: cRock kr q r
def cTwo (h h2 : Nat) (kr : Nat → Nat) (q : Nat → ClassId) (w w2 : WS) : va_W := [oW h (kr 0) w, oW h2 (kr 0) w2]
def cKick (h hw ht : Nat) (kr kt : Nat → Nat) (q : Nat → ClassId) (x : XS) (w v : WS) (r : RS) (t : TS) : va_W := oX h (kr 0) hw ht (kt 0) x :: oW hw (kr 0) w :: oW ht (kr 0) v :: (cRock kr q r ++ cTests kt q t)
theorem fst_Rock (k : Nat → Nat) (q : Nat → ClassId) (r : RS) : (cRock k q r).map Prod.fst = [k 0, k 1, k 2, k 3, k 4, k 5] := rfl
theorem fst_Tests (k : Nat → Nat) (q : Nat → ClassId) (t : TS) : (cTests k q t).map Prod.fst = [k 0, k 1, k 2, k 3, k 4] := rfl
theorem fst_Well (h : Nat) (k : Nat → Nat) (q : Nat → ClassId) (w : WS) (r : RS) : (cWell h k q w r).map Prod.fst = [h, k 0, k 1, k 2, k 3, k 4, k 5] := rfl
theorem fst_Two (h h2 : Nat) (k : Nat → Nat) (q : Nat → ClassId) (w w2 : WS) : (cTwo h h2 k q w w2).map Prod.fst = [h, h2] := rfl
theorem fst_Kick (h aw av : Nat) (k kt : Nat → Nat) (q : Nat → ClassId) (x : XS) (w v : WS) (r : RS) (t : TS) : (cKick h aw av k kt q x w v r t).map Prod.fst = [h, aw, av, k 0, k 1, k 2, k 3, k 4, k 5, kt 0, kt 1, kt 2, kt 3, kt 4] := rfl
def cPair (h aw av : Nat) (kr kt : Nat → Nat) (h2 aw2 av2 : Nat) (kr2 kt2 : Nat → Nat) (q : Nat → ClassId) (x : XS) (w v : WS) (r : RS) (t : TS) (x2 : XS) (w2 v2 : WS) (r2 : RS) (t2 : TS) : va_W := oX h (kr 0) aw av (kt 0) x :: oW aw (kr 0) w :: oW av (kr 0) v :: (cRock kr q r ++ (cTests kt q t ++ cKick h2 aw2 av2 kr2 kt2 q x2 w2 v2 r2 t2))
theorem fst_Pair (h aw av : Nat) (k kt : Nat → Nat) (h2 aw2 av2 : Nat) (k2 kt2 : Nat → Nat) (q : Nat → ClassId) (x : XS) (w v : WS) (r : RS) (t : TS) (x2 : XS) (w2 v2 : WS) (r2 : RS) (t2 : TS) : (cPair h aw av k kt h2 aw2 av2 k2 kt2 q x w v r t x2 w2 v2 r2 t2).map Prod.fst = [h, aw, av, k 0, k 1, k 2, k 3, k 4, k 5, kt 0, kt 1, kt 2, kt 3, kt 4, h2, aw2, av2, k2 0, k2 1, k2 2, k2 3, k2 4, k2 5, kt2 0, kt2 1, kt2 2, kt2 3, kt2 4] := rfl
def cArr (a n : Nat) (q : Nat → ClassId) (f : Nat → Int32) : va_W := [aI q a n f]
theorem fst_Arr (a n : Nat) (q : Nat → ClassId) (f : Nat → Int32) : (cArr a n q f).map Prod.fst = [a] := rfl
