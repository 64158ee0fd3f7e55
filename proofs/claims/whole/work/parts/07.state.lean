/-! The state of the objects, as tuples: X Kickroom, W Well, R Rock, T Tests, M KickroomModel; what each holds by its name, and how one is changed. -/
abbrev XS : Type := Int32 × Int32 × Int32 × Int32
def X_stops (z : XS) : Int32 := z.1
def X_pumped (z : XS) : Int32 := z.2.1
def X_latestPumpedWeight (z : XS) : Int32 := z.2.2.1
def X_cement (z : XS) : Int32 := z.2.2.2
def X_set_stops (z : XS) (y : Int32) : XS := (y, z.2.1, z.2.2.1, z.2.2.2)
def X_set_pumped (z : XS) (y : Int32) : XS := (z.1, y, z.2.2.1, z.2.2.2)
def X_set_latestPumpedWeight (z : XS) (y : Int32) : XS := (z.1, z.2.1, y, z.2.2.2)
def X_set_cement (z : XS) (y : Int32) : XS := (z.1, z.2.1, z.2.2.1, y)
theorem X_stops_set_stops (z : XS) (y : Int32) : X_stops (X_set_stops z y) = y := rfl
theorem X_stops_set_pumped (z : XS) (y : Int32) : X_stops (X_set_pumped z y) = X_stops z := rfl
theorem X_stops_set_latestPumpedWeight (z : XS) (y : Int32) : X_stops (X_set_latestPumpedWeight z y) = X_stops z := rfl
theorem X_stops_set_cement (z : XS) (y : Int32) : X_stops (X_set_cement z y) = X_stops z := rfl
theorem X_pumped_set_stops (z : XS) (y : Int32) : X_pumped (X_set_stops z y) = X_pumped z := rfl
theorem X_pumped_set_pumped (z : XS) (y : Int32) : X_pumped (X_set_pumped z y) = y := rfl
theorem X_pumped_set_latestPumpedWeight (z : XS) (y : Int32) : X_pumped (X_set_latestPumpedWeight z y) = X_pumped z := rfl
theorem X_pumped_set_cement (z : XS) (y : Int32) : X_pumped (X_set_cement z y) = X_pumped z := rfl
theorem X_latestPumpedWeight_set_stops (z : XS) (y : Int32) : X_latestPumpedWeight (X_set_stops z y) = X_latestPumpedWeight z := rfl
theorem X_latestPumpedWeight_set_pumped (z : XS) (y : Int32) : X_latestPumpedWeight (X_set_pumped z y) = X_latestPumpedWeight z := rfl
theorem X_latestPumpedWeight_set_latestPumpedWeight (z : XS) (y : Int32) : X_latestPumpedWeight (X_set_latestPumpedWeight z y) = y := rfl
theorem X_latestPumpedWeight_set_cement (z : XS) (y : Int32) : X_latestPumpedWeight (X_set_cement z y) = X_latestPumpedWeight z := rfl
theorem X_cement_set_stops (z : XS) (y : Int32) : X_cement (X_set_stops z y) = X_cement z := rfl
theorem X_cement_set_pumped (z : XS) (y : Int32) : X_cement (X_set_pumped z y) = X_cement z := rfl
theorem X_cement_set_latestPumpedWeight (z : XS) (y : Int32) : X_cement (X_set_latestPumpedWeight z y) = X_cement z := rfl
theorem X_cement_set_cement (z : XS) (y : Int32) : X_cement (X_set_cement z y) = y := rfl
abbrev WS : Type := Int32 × Int32 × Int32 × Int32 × Int32 × Int32 × Int32 × Int64 × Int32 × Int32 × Int32 × Int64 × Int32 × Int32
def W_depth (z : WS) : Int32 := z.1
def W_shoe (z : WS) : Int32 := z.2.1
def W_weight (z : WS) : Int32 := z.2.2.1
def W_isClosed (z : WS) : Int32 := z.2.2.2.1
def W_choke (z : WS) : Int32 := z.2.2.2.2.1
def W_valveStrength (z : WS) : Int32 := z.2.2.2.2.2.1
def W_hasBrokenSinceTest (z : WS) : Int32 := z.2.2.2.2.2.2.1
def W_charge (z : WS) : Int64 := z.2.2.2.2.2.2.2.1
def W_place (z : WS) : Int32 := z.2.2.2.2.2.2.2.2.1
def W_gas (z : WS) : Int32 := z.2.2.2.2.2.2.2.2.2.1
def W_liquid (z : WS) : Int32 := z.2.2.2.2.2.2.2.2.2.2.1
def W_vented (z : WS) : Int64 := z.2.2.2.2.2.2.2.2.2.2.2.1
def W_lost (z : WS) : Int32 := z.2.2.2.2.2.2.2.2.2.2.2.2.1
def W_minutes (z : WS) : Int32 := z.2.2.2.2.2.2.2.2.2.2.2.2.2
def W_set_depth (z : WS) (y : Int32) : WS := (y, z.2.1, z.2.2.1, z.2.2.2.1, z.2.2.2.2.1, z.2.2.2.2.2.1, z.2.2.2.2.2.2.1, z.2.2.2.2.2.2.2.1, z.2.2.2.2.2.2.2.2.1, z.2.2.2.2.2.2.2.2.2.1, z.2.2.2.2.2.2.2.2.2.2.1, z.2.2.2.2.2.2.2.2.2.2.2.1, z.2.2.2.2.2.2.2.2.2.2.2.2.1, z.2.2.2.2.2.2.2.2.2.2.2.2.2)
def W_set_shoe (z : WS) (y : Int32) : WS := (z.1, y, z.2.2.1, z.2.2.2.1, z.2.2.2.2.1, z.2.2.2.2.2.1, z.2.2.2.2.2.2.1, z.2.2.2.2.2.2.2.1, z.2.2.2.2.2.2.2.2.1, z.2.2.2.2.2.2.2.2.2.1, z.2.2.2.2.2.2.2.2.2.2.1, z.2.2.2.2.2.2.2.2.2.2.2.1, z.2.2.2.2.2.2.2.2.2.2.2.2.1, z.2.2.2.2.2.2.2.2.2.2.2.2.2)
def W_set_weight (z : WS) (y : Int32) : WS := (z.1, z.2.1, y, z.2.2.2.1, z.2.2.2.2.1, z.2.2.2.2.2.1, z.2.2.2.2.2.2.1, z.2.2.2.2.2.2.2.1, z.2.2.2.2.2.2.2.2.1, z.2.2.2.2.2.2.2.2.2.1, z.2.2.2.2.2.2.2.2.2.2.1, z.2.2.2.2.2.2.2.2.2.2.2.1, z.2.2.2.2.2.2.2.2.2.2.2.2.1, z.2.2.2.2.2.2.2.2.2.2.2.2.2)
def W_set_isClosed (z : WS) (y : Int32) : WS := (z.1, z.2.1, z.2.2.1, y, z.2.2.2.2.1, z.2.2.2.2.2.1, z.2.2.2.2.2.2.1, z.2.2.2.2.2.2.2.1, z.2.2.2.2.2.2.2.2.1, z.2.2.2.2.2.2.2.2.2.1, z.2.2.2.2.2.2.2.2.2.2.1, z.2.2.2.2.2.2.2.2.2.2.2.1, z.2.2.2.2.2.2.2.2.2.2.2.2.1, z.2.2.2.2.2.2.2.2.2.2.2.2.2)
def W_set_choke (z : WS) (y : Int32) : WS := (z.1, z.2.1, z.2.2.1, z.2.2.2.1, y, z.2.2.2.2.2.1, z.2.2.2.2.2.2.1, z.2.2.2.2.2.2.2.1, z.2.2.2.2.2.2.2.2.1, z.2.2.2.2.2.2.2.2.2.1, z.2.2.2.2.2.2.2.2.2.2.1, z.2.2.2.2.2.2.2.2.2.2.2.1, z.2.2.2.2.2.2.2.2.2.2.2.2.1, z.2.2.2.2.2.2.2.2.2.2.2.2.2)
def W_set_valveStrength (z : WS) (y : Int32) : WS := (z.1, z.2.1, z.2.2.1, z.2.2.2.1, z.2.2.2.2.1, y, z.2.2.2.2.2.2.1, z.2.2.2.2.2.2.2.1, z.2.2.2.2.2.2.2.2.1, z.2.2.2.2.2.2.2.2.2.1, z.2.2.2.2.2.2.2.2.2.2.1, z.2.2.2.2.2.2.2.2.2.2.2.1, z.2.2.2.2.2.2.2.2.2.2.2.2.1, z.2.2.2.2.2.2.2.2.2.2.2.2.2)
def W_set_hasBrokenSinceTest (z : WS) (y : Int32) : WS := (z.1, z.2.1, z.2.2.1, z.2.2.2.1, z.2.2.2.2.1, z.2.2.2.2.2.1, y, z.2.2.2.2.2.2.2.1, z.2.2.2.2.2.2.2.2.1, z.2.2.2.2.2.2.2.2.2.1, z.2.2.2.2.2.2.2.2.2.2.1, z.2.2.2.2.2.2.2.2.2.2.2.1, z.2.2.2.2.2.2.2.2.2.2.2.2.1, z.2.2.2.2.2.2.2.2.2.2.2.2.2)
def W_set_charge (z : WS) (y : Int64) : WS := (z.1, z.2.1, z.2.2.1, z.2.2.2.1, z.2.2.2.2.1, z.2.2.2.2.2.1, z.2.2.2.2.2.2.1, y, z.2.2.2.2.2.2.2.2.1, z.2.2.2.2.2.2.2.2.2.1, z.2.2.2.2.2.2.2.2.2.2.1, z.2.2.2.2.2.2.2.2.2.2.2.1, z.2.2.2.2.2.2.2.2.2.2.2.2.1, z.2.2.2.2.2.2.2.2.2.2.2.2.2)
def W_set_place (z : WS) (y : Int32) : WS := (z.1, z.2.1, z.2.2.1, z.2.2.2.1, z.2.2.2.2.1, z.2.2.2.2.2.1, z.2.2.2.2.2.2.1, z.2.2.2.2.2.2.2.1, y, z.2.2.2.2.2.2.2.2.2.1, z.2.2.2.2.2.2.2.2.2.2.1, z.2.2.2.2.2.2.2.2.2.2.2.1, z.2.2.2.2.2.2.2.2.2.2.2.2.1, z.2.2.2.2.2.2.2.2.2.2.2.2.2)
def W_set_gas (z : WS) (y : Int32) : WS := (z.1, z.2.1, z.2.2.1, z.2.2.2.1, z.2.2.2.2.1, z.2.2.2.2.2.1, z.2.2.2.2.2.2.1, z.2.2.2.2.2.2.2.1, z.2.2.2.2.2.2.2.2.1, y, z.2.2.2.2.2.2.2.2.2.2.1, z.2.2.2.2.2.2.2.2.2.2.2.1, z.2.2.2.2.2.2.2.2.2.2.2.2.1, z.2.2.2.2.2.2.2.2.2.2.2.2.2)
def W_set_liquid (z : WS) (y : Int32) : WS := (z.1, z.2.1, z.2.2.1, z.2.2.2.1, z.2.2.2.2.1, z.2.2.2.2.2.1, z.2.2.2.2.2.2.1, z.2.2.2.2.2.2.2.1, z.2.2.2.2.2.2.2.2.1, z.2.2.2.2.2.2.2.2.2.1, y, z.2.2.2.2.2.2.2.2.2.2.2.1, z.2.2.2.2.2.2.2.2.2.2.2.2.1, z.2.2.2.2.2.2.2.2.2.2.2.2.2)
def W_set_vented (z : WS) (y : Int64) : WS := (z.1, z.2.1, z.2.2.1, z.2.2.2.1, z.2.2.2.2.1, z.2.2.2.2.2.1, z.2.2.2.2.2.2.1, z.2.2.2.2.2.2.2.1, z.2.2.2.2.2.2.2.2.1, z.2.2.2.2.2.2.2.2.2.1, z.2.2.2.2.2.2.2.2.2.2.1, y, z.2.2.2.2.2.2.2.2.2.2.2.2.1, z.2.2.2.2.2.2.2.2.2.2.2.2.2)
def W_set_lost (z : WS) (y : Int32) : WS := (z.1, z.2.1, z.2.2.1, z.2.2.2.1, z.2.2.2.2.1, z.2.2.2.2.2.1, z.2.2.2.2.2.2.1, z.2.2.2.2.2.2.2.1, z.2.2.2.2.2.2.2.2.1, z.2.2.2.2.2.2.2.2.2.1, z.2.2.2.2.2.2.2.2.2.2.1, z.2.2.2.2.2.2.2.2.2.2.2.1, y, z.2.2.2.2.2.2.2.2.2.2.2.2.2)
def W_set_minutes (z : WS) (y : Int32) : WS := (z.1, z.2.1, z.2.2.1, z.2.2.2.1, z.2.2.2.2.1, z.2.2.2.2.2.1, z.2.2.2.2.2.2.1, z.2.2.2.2.2.2.2.1, z.2.2.2.2.2.2.2.2.1, z.2.2.2.2.2.2.2.2.2.1, z.2.2.2.2.2.2.2.2.2.2.1, z.2.2.2.2.2.2.2.2.2.2.2.1, z.2.2.2.2.2.2.2.2.2.2.2.2.1, y)
theorem W_depth_set_depth (z : WS) (y : Int32) : W_depth (W_set_depth z y) = y := rfl
theorem W_depth_set_shoe (z : WS) (y : Int32) : W_depth (W_set_shoe z y) = W_depth z := rfl
theorem W_depth_set_weight (z : WS) (y : Int32) : W_depth (W_set_weight z y) = W_depth z := rfl
theorem W_depth_set_isClosed (z : WS) (y : Int32) : W_depth (W_set_isClosed z y) = W_depth z := rfl
theorem W_depth_set_choke (z : WS) (y : Int32) : W_depth (W_set_choke z y) = W_depth z := rfl
theorem W_depth_set_valveStrength (z : WS) (y : Int32) : W_depth (W_set_valveStrength z y) = W_depth z := rfl
theorem W_depth_set_hasBrokenSinceTest (z : WS) (y : Int32) : W_depth (W_set_hasBrokenSinceTest z y) = W_depth z := rfl
theorem W_depth_set_charge (z : WS) (y : Int64) : W_depth (W_set_charge z y) = W_depth z := rfl
theorem W_depth_set_place (z : WS) (y : Int32) : W_depth (W_set_place z y) = W_depth z := rfl
theorem W_depth_set_gas (z : WS) (y : Int32) : W_depth (W_set_gas z y) = W_depth z := rfl
theorem W_depth_set_liquid (z : WS) (y : Int32) : W_depth (W_set_liquid z y) = W_depth z := rfl
theorem W_depth_set_vented (z : WS) (y : Int64) : W_depth (W_set_vented z y) = W_depth z := rfl
theorem W_depth_set_lost (z : WS) (y : Int32) : W_depth (W_set_lost z y) = W_depth z := rfl
theorem W_depth_set_minutes (z : WS) (y : Int32) : W_depth (W_set_minutes z y) = W_depth z := rfl
theorem W_shoe_set_depth (z : WS) (y : Int32) : W_shoe (W_set_depth z y) = W_shoe z := rfl
theorem W_shoe_set_shoe (z : WS) (y : Int32) : W_shoe (W_set_shoe z y) = y := rfl
theorem W_shoe_set_weight (z : WS) (y : Int32) : W_shoe (W_set_weight z y) = W_shoe z := rfl
theorem W_shoe_set_isClosed (z : WS) (y : Int32) : W_shoe (W_set_isClosed z y) = W_shoe z := rfl
theorem W_shoe_set_choke (z : WS) (y : Int32) : W_shoe (W_set_choke z y) = W_shoe z := rfl
theorem W_shoe_set_valveStrength (z : WS) (y : Int32) : W_shoe (W_set_valveStrength z y) = W_shoe z := rfl
theorem W_shoe_set_hasBrokenSinceTest (z : WS) (y : Int32) : W_shoe (W_set_hasBrokenSinceTest z y) = W_shoe z := rfl
theorem W_shoe_set_charge (z : WS) (y : Int64) : W_shoe (W_set_charge z y) = W_shoe z := rfl
theorem W_shoe_set_place (z : WS) (y : Int32) : W_shoe (W_set_place z y) = W_shoe z := rfl
theorem W_shoe_set_gas (z : WS) (y : Int32) : W_shoe (W_set_gas z y) = W_shoe z := rfl
theorem W_shoe_set_liquid (z : WS) (y : Int32) : W_shoe (W_set_liquid z y) = W_shoe z := rfl
theorem W_shoe_set_vented (z : WS) (y : Int64) : W_shoe (W_set_vented z y) = W_shoe z := rfl
theorem W_shoe_set_lost (z : WS) (y : Int32) : W_shoe (W_set_lost z y) = W_shoe z := rfl
theorem W_shoe_set_minutes (z : WS) (y : Int32) : W_shoe (W_set_minutes z y) = W_shoe z := rfl
theorem W_weight_set_depth (z : WS) (y : Int32) : W_weight (W_set_depth z y) = W_weight z := rfl
theorem W_weight_set_shoe (z : WS) (y : Int32) : W_weight (W_set_shoe z y) = W_weight z := rfl
theorem W_weight_set_weight (z : WS) (y : Int32) : W_weight (W_set_weight z y) = y := rfl
theorem W_weight_set_isClosed (z : WS) (y : Int32) : W_weight (W_set_isClosed z y) = W_weight z := rfl
theorem W_weight_set_choke (z : WS) (y : Int32) : W_weight (W_set_choke z y) = W_weight z := rfl
theorem W_weight_set_valveStrength (z : WS) (y : Int32) : W_weight (W_set_valveStrength z y) = W_weight z := rfl
theorem W_weight_set_hasBrokenSinceTest (z : WS) (y : Int32) : W_weight (W_set_hasBrokenSinceTest z y) = W_weight z := rfl
theorem W_weight_set_charge (z : WS) (y : Int64) : W_weight (W_set_charge z y) = W_weight z := rfl
theorem W_weight_set_place (z : WS) (y : Int32) : W_weight (W_set_place z y) = W_weight z := rfl
theorem W_weight_set_gas (z : WS) (y : Int32) : W_weight (W_set_gas z y) = W_weight z := rfl
theorem W_weight_set_liquid (z : WS) (y : Int32) : W_weight (W_set_liquid z y) = W_weight z := rfl
theorem W_weight_set_vented (z : WS) (y : Int64) : W_weight (W_set_vented z y) = W_weight z := rfl
theorem W_weight_set_lost (z : WS) (y : Int32) : W_weight (W_set_lost z y) = W_weight z := rfl
theorem W_weight_set_minutes (z : WS) (y : Int32) : W_weight (W_set_minutes z y) = W_weight z := rfl
theorem W_isClosed_set_depth (z : WS) (y : Int32) : W_isClosed (W_set_depth z y) = W_isClosed z := rfl
theorem W_isClosed_set_shoe (z : WS) (y : Int32) : W_isClosed (W_set_shoe z y) = W_isClosed z := rfl
theorem W_isClosed_set_weight (z : WS) (y : Int32) : W_isClosed (W_set_weight z y) = W_isClosed z := rfl
theorem W_isClosed_set_isClosed (z : WS) (y : Int32) : W_isClosed (W_set_isClosed z y) = y := rfl
theorem W_isClosed_set_choke (z : WS) (y : Int32) : W_isClosed (W_set_choke z y) = W_isClosed z := rfl
theorem W_isClosed_set_valveStrength (z : WS) (y : Int32) : W_isClosed (W_set_valveStrength z y) = W_isClosed z := rfl
theorem W_isClosed_set_hasBrokenSinceTest (z : WS) (y : Int32) : W_isClosed (W_set_hasBrokenSinceTest z y) = W_isClosed z := rfl
theorem W_isClosed_set_charge (z : WS) (y : Int64) : W_isClosed (W_set_charge z y) = W_isClosed z := rfl
theorem W_isClosed_set_place (z : WS) (y : Int32) : W_isClosed (W_set_place z y) = W_isClosed z := rfl
theorem W_isClosed_set_gas (z : WS) (y : Int32) : W_isClosed (W_set_gas z y) = W_isClosed z := rfl
theorem W_isClosed_set_liquid (z : WS) (y : Int32) : W_isClosed (W_set_liquid z y) = W_isClosed z := rfl
theorem W_isClosed_set_vented (z : WS) (y : Int64) : W_isClosed (W_set_vented z y) = W_isClosed z := rfl
theorem W_isClosed_set_lost (z : WS) (y : Int32) : W_isClosed (W_set_lost z y) = W_isClosed z := rfl
theorem W_isClosed_set_minutes (z : WS) (y : Int32) : W_isClosed (W_set_minutes z y) = W_isClosed z := rfl
theorem W_choke_set_depth (z : WS) (y : Int32) : W_choke (W_set_depth z y) = W_choke z := rfl
theorem W_choke_set_shoe (z : WS) (y : Int32) : W_choke (W_set_shoe z y) = W_choke z := rfl
theorem W_choke_set_weight (z : WS) (y : Int32) : W_choke (W_set_weight z y) = W_choke z := rfl
theorem W_choke_set_isClosed (z : WS) (y : Int32) : W_choke (W_set_isClosed z y) = W_choke z := rfl
theorem W_choke_set_choke (z : WS) (y : Int32) : W_choke (W_set_choke z y) = y := rfl
theorem W_choke_set_valveStrength (z : WS) (y : Int32) : W_choke (W_set_valveStrength z y) = W_choke z := rfl
theorem W_choke_set_hasBrokenSinceTest (z : WS) (y : Int32) : W_choke (W_set_hasBrokenSinceTest z y) = W_choke z := rfl
theorem W_choke_set_charge (z : WS) (y : Int64) : W_choke (W_set_charge z y) = W_choke z := rfl
theorem W_choke_set_place (z : WS) (y : Int32) : W_choke (W_set_place z y) = W_choke z := rfl
theorem W_choke_set_gas (z : WS) (y : Int32) : W_choke (W_set_gas z y) = W_choke z := rfl
theorem W_choke_set_liquid (z : WS) (y : Int32) : W_choke (W_set_liquid z y) = W_choke z := rfl
theorem W_choke_set_vented (z : WS) (y : Int64) : W_choke (W_set_vented z y) = W_choke z := rfl
theorem W_choke_set_lost (z : WS) (y : Int32) : W_choke (W_set_lost z y) = W_choke z := rfl
theorem W_choke_set_minutes (z : WS) (y : Int32) : W_choke (W_set_minutes z y) = W_choke z := rfl
theorem W_valveStrength_set_depth (z : WS) (y : Int32) : W_valveStrength (W_set_depth z y) = W_valveStrength z := rfl
theorem W_valveStrength_set_shoe (z : WS) (y : Int32) : W_valveStrength (W_set_shoe z y) = W_valveStrength z := rfl
theorem W_valveStrength_set_weight (z : WS) (y : Int32) : W_valveStrength (W_set_weight z y) = W_valveStrength z := rfl
theorem W_valveStrength_set_isClosed (z : WS) (y : Int32) : W_valveStrength (W_set_isClosed z y) = W_valveStrength z := rfl
theorem W_valveStrength_set_choke (z : WS) (y : Int32) : W_valveStrength (W_set_choke z y) = W_valveStrength z := rfl
theorem W_valveStrength_set_valveStrength (z : WS) (y : Int32) : W_valveStrength (W_set_valveStrength z y) = y := rfl
theorem W_valveStrength_set_hasBrokenSinceTest (z : WS) (y : Int32) : W_valveStrength (W_set_hasBrokenSinceTest z y) = W_valveStrength z := rfl
theorem W_valveStrength_set_charge (z : WS) (y : Int64) : W_valveStrength (W_set_charge z y) = W_valveStrength z := rfl
theorem W_valveStrength_set_place (z : WS) (y : Int32) : W_valveStrength (W_set_place z y) = W_valveStrength z := rfl
theorem W_valveStrength_set_gas (z : WS) (y : Int32) : W_valveStrength (W_set_gas z y) = W_valveStrength z := rfl
theorem W_valveStrength_set_liquid (z : WS) (y : Int32) : W_valveStrength (W_set_liquid z y) = W_valveStrength z := rfl
theorem W_valveStrength_set_vented (z : WS) (y : Int64) : W_valveStrength (W_set_vented z y) = W_valveStrength z := rfl
theorem W_valveStrength_set_lost (z : WS) (y : Int32) : W_valveStrength (W_set_lost z y) = W_valveStrength z := rfl
theorem W_valveStrength_set_minutes (z : WS) (y : Int32) : W_valveStrength (W_set_minutes z y) = W_valveStrength z := rfl
theorem W_hasBrokenSinceTest_set_depth (z : WS) (y : Int32) : W_hasBrokenSinceTest (W_set_depth z y) = W_hasBrokenSinceTest z := rfl
theorem W_hasBrokenSinceTest_set_shoe (z : WS) (y : Int32) : W_hasBrokenSinceTest (W_set_shoe z y) = W_hasBrokenSinceTest z := rfl
theorem W_hasBrokenSinceTest_set_weight (z : WS) (y : Int32) : W_hasBrokenSinceTest (W_set_weight z y) = W_hasBrokenSinceTest z := rfl
theorem W_hasBrokenSinceTest_set_isClosed (z : WS) (y : Int32) : W_hasBrokenSinceTest (W_set_isClosed z y) = W_hasBrokenSinceTest z := rfl
theorem W_hasBrokenSinceTest_set_choke (z : WS) (y : Int32) : W_hasBrokenSinceTest (W_set_choke z y) = W_hasBrokenSinceTest z := rfl
theorem W_hasBrokenSinceTest_set_valveStrength (z : WS) (y : Int32) : W_hasBrokenSinceTest (W_set_valveStrength z y) = W_hasBrokenSinceTest z := rfl
theorem W_hasBrokenSinceTest_set_hasBrokenSinceTest (z : WS) (y : Int32) : W_hasBrokenSinceTest (W_set_hasBrokenSinceTest z y) = y := rfl
theorem W_hasBrokenSinceTest_set_charge (z : WS) (y : Int64) : W_hasBrokenSinceTest (W_set_charge z y) = W_hasBrokenSinceTest z := rfl
theorem W_hasBrokenSinceTest_set_place (z : WS) (y : Int32) : W_hasBrokenSinceTest (W_set_place z y) = W_hasBrokenSinceTest z := rfl
theorem W_hasBrokenSinceTest_set_gas (z : WS) (y : Int32) : W_hasBrokenSinceTest (W_set_gas z y) = W_hasBrokenSinceTest z := rfl
theorem W_hasBrokenSinceTest_set_liquid (z : WS) (y : Int32) : W_hasBrokenSinceTest (W_set_liquid z y) = W_hasBrokenSinceTest z := rfl
theorem W_hasBrokenSinceTest_set_vented (z : WS) (y : Int64) : W_hasBrokenSinceTest (W_set_vented z y) = W_hasBrokenSinceTest z := rfl
theorem W_hasBrokenSinceTest_set_lost (z : WS) (y : Int32) : W_hasBrokenSinceTest (W_set_lost z y) = W_hasBrokenSinceTest z := rfl
theorem W_hasBrokenSinceTest_set_minutes (z : WS) (y : Int32) : W_hasBrokenSinceTest (W_set_minutes z y) = W_hasBrokenSinceTest z := rfl
theorem W_charge_set_depth (z : WS) (y : Int32) : W_charge (W_set_depth z y) = W_charge z := rfl
theorem W_charge_set_shoe (z : WS) (y : Int32) : W_charge (W_set_shoe z y) = W_charge z := rfl
theorem W_charge_set_weight (z : WS) (y : Int32) : W_charge (W_set_weight z y) = W_charge z := rfl
theorem W_charge_set_isClosed (z : WS) (y : Int32) : W_charge (W_set_isClosed z y) = W_charge z := rfl
theorem W_charge_set_choke (z : WS) (y : Int32) : W_charge (W_set_choke z y) = W_charge z := rfl
theorem W_charge_set_valveStrength (z : WS) (y : Int32) : W_charge (W_set_valveStrength z y) = W_charge z := rfl
theorem W_charge_set_hasBrokenSinceTest (z : WS) (y : Int32) : W_charge (W_set_hasBrokenSinceTest z y) = W_charge z := rfl
theorem W_charge_set_charge (z : WS) (y : Int64) : W_charge (W_set_charge z y) = y := rfl
theorem W_charge_set_place (z : WS) (y : Int32) : W_charge (W_set_place z y) = W_charge z := rfl
theorem W_charge_set_gas (z : WS) (y : Int32) : W_charge (W_set_gas z y) = W_charge z := rfl
theorem W_charge_set_liquid (z : WS) (y : Int32) : W_charge (W_set_liquid z y) = W_charge z := rfl
theorem W_charge_set_vented (z : WS) (y : Int64) : W_charge (W_set_vented z y) = W_charge z := rfl
theorem W_charge_set_lost (z : WS) (y : Int32) : W_charge (W_set_lost z y) = W_charge z := rfl
theorem W_charge_set_minutes (z : WS) (y : Int32) : W_charge (W_set_minutes z y) = W_charge z := rfl
theorem W_place_set_depth (z : WS) (y : Int32) : W_place (W_set_depth z y) = W_place z := rfl
theorem W_place_set_shoe (z : WS) (y : Int32) : W_place (W_set_shoe z y) = W_place z := rfl
theorem W_place_set_weight (z : WS) (y : Int32) : W_place (W_set_weight z y) = W_place z := rfl
theorem W_place_set_isClosed (z : WS) (y : Int32) : W_place (W_set_isClosed z y) = W_place z := rfl
theorem W_place_set_choke (z : WS) (y : Int32) : W_place (W_set_choke z y) = W_place z := rfl
theorem W_place_set_valveStrength (z : WS) (y : Int32) : W_place (W_set_valveStrength z y) = W_place z := rfl
theorem W_place_set_hasBrokenSinceTest (z : WS) (y : Int32) : W_place (W_set_hasBrokenSinceTest z y) = W_place z := rfl
theorem W_place_set_charge (z : WS) (y : Int64) : W_place (W_set_charge z y) = W_place z := rfl
theorem W_place_set_place (z : WS) (y : Int32) : W_place (W_set_place z y) = y := rfl
theorem W_place_set_gas (z : WS) (y : Int32) : W_place (W_set_gas z y) = W_place z := rfl
theorem W_place_set_liquid (z : WS) (y : Int32) : W_place (W_set_liquid z y) = W_place z := rfl
theorem W_place_set_vented (z : WS) (y : Int64) : W_place (W_set_vented z y) = W_place z := rfl
theorem W_place_set_lost (z : WS) (y : Int32) : W_place (W_set_lost z y) = W_place z := rfl
theorem W_place_set_minutes (z : WS) (y : Int32) : W_place (W_set_minutes z y) = W_place z := rfl
theorem W_gas_set_depth (z : WS) (y : Int32) : W_gas (W_set_depth z y) = W_gas z := rfl
theorem W_gas_set_shoe (z : WS) (y : Int32) : W_gas (W_set_shoe z y) = W_gas z := rfl
theorem W_gas_set_weight (z : WS) (y : Int32) : W_gas (W_set_weight z y) = W_gas z := rfl
theorem W_gas_set_isClosed (z : WS) (y : Int32) : W_gas (W_set_isClosed z y) = W_gas z := rfl
theorem W_gas_set_choke (z : WS) (y : Int32) : W_gas (W_set_choke z y) = W_gas z := rfl
theorem W_gas_set_valveStrength (z : WS) (y : Int32) : W_gas (W_set_valveStrength z y) = W_gas z := rfl
theorem W_gas_set_hasBrokenSinceTest (z : WS) (y : Int32) : W_gas (W_set_hasBrokenSinceTest z y) = W_gas z := rfl
theorem W_gas_set_charge (z : WS) (y : Int64) : W_gas (W_set_charge z y) = W_gas z := rfl
theorem W_gas_set_place (z : WS) (y : Int32) : W_gas (W_set_place z y) = W_gas z := rfl
theorem W_gas_set_gas (z : WS) (y : Int32) : W_gas (W_set_gas z y) = y := rfl
theorem W_gas_set_liquid (z : WS) (y : Int32) : W_gas (W_set_liquid z y) = W_gas z := rfl
theorem W_gas_set_vented (z : WS) (y : Int64) : W_gas (W_set_vented z y) = W_gas z := rfl
theorem W_gas_set_lost (z : WS) (y : Int32) : W_gas (W_set_lost z y) = W_gas z := rfl
theorem W_gas_set_minutes (z : WS) (y : Int32) : W_gas (W_set_minutes z y) = W_gas z := rfl
theorem W_liquid_set_depth (z : WS) (y : Int32) : W_liquid (W_set_depth z y) = W_liquid z := rfl
theorem W_liquid_set_shoe (z : WS) (y : Int32) : W_liquid (W_set_shoe z y) = W_liquid z := rfl
theorem W_liquid_set_weight (z : WS) (y : Int32) : W_liquid (W_set_weight z y) = W_liquid z := rfl
theorem W_liquid_set_isClosed (z : WS) (y : Int32) : W_liquid (W_set_isClosed z y) = W_liquid z := rfl
theorem W_liquid_set_choke (z : WS) (y : Int32) : W_liquid (W_set_choke z y) = W_liquid z := rfl
theorem W_liquid_set_valveStrength (z : WS) (y : Int32) : W_liquid (W_set_valveStrength z y) = W_liquid z := rfl
theorem W_liquid_set_hasBrokenSinceTest (z : WS) (y : Int32) : W_liquid (W_set_hasBrokenSinceTest z y) = W_liquid z := rfl
theorem W_liquid_set_charge (z : WS) (y : Int64) : W_liquid (W_set_charge z y) = W_liquid z := rfl
theorem W_liquid_set_place (z : WS) (y : Int32) : W_liquid (W_set_place z y) = W_liquid z := rfl
theorem W_liquid_set_gas (z : WS) (y : Int32) : W_liquid (W_set_gas z y) = W_liquid z := rfl
theorem W_liquid_set_liquid (z : WS) (y : Int32) : W_liquid (W_set_liquid z y) = y := rfl
theorem W_liquid_set_vented (z : WS) (y : Int64) : W_liquid (W_set_vented z y) = W_liquid z := rfl
theorem W_liquid_set_lost (z : WS) (y : Int32) : W_liquid (W_set_lost z y) = W_liquid z := rfl
theorem W_liquid_set_minutes (z : WS) (y : Int32) : W_liquid (W_set_minutes z y) = W_liquid z := rfl
theorem W_vented_set_depth (z : WS) (y : Int32) : W_vented (W_set_depth z y) = W_vented z := rfl
theorem W_vented_set_shoe (z : WS) (y : Int32) : W_vented (W_set_shoe z y) = W_vented z := rfl
theorem W_vented_set_weight (z : WS) (y : Int32) : W_vented (W_set_weight z y) = W_vented z := rfl
theorem W_vented_set_isClosed (z : WS) (y : Int32) : W_vented (W_set_isClosed z y) = W_vented z := rfl
theorem W_vented_set_choke (z : WS) (y : Int32) : W_vented (W_set_choke z y) = W_vented z := rfl
theorem W_vented_set_valveStrength (z : WS) (y : Int32) : W_vented (W_set_valveStrength z y) = W_vented z := rfl
theorem W_vented_set_hasBrokenSinceTest (z : WS) (y : Int32) : W_vented (W_set_hasBrokenSinceTest z y) = W_vented z := rfl
theorem W_vented_set_charge (z : WS) (y : Int64) : W_vented (W_set_charge z y) = W_vented z := rfl
theorem W_vented_set_place (z : WS) (y : Int32) : W_vented (W_set_place z y) = W_vented z := rfl
theorem W_vented_set_gas (z : WS) (y : Int32) : W_vented (W_set_gas z y) = W_vented z := rfl
theorem W_vented_set_liquid (z : WS) (y : Int32) : W_vented (W_set_liquid z y) = W_vented z := rfl
theorem W_vented_set_vented (z : WS) (y : Int64) : W_vented (W_set_vented z y) = y := rfl
theorem W_vented_set_lost (z : WS) (y : Int32) : W_vented (W_set_lost z y) = W_vented z := rfl
theorem W_vented_set_minutes (z : WS) (y : Int32) : W_vented (W_set_minutes z y) = W_vented z := rfl
theorem W_lost_set_depth (z : WS) (y : Int32) : W_lost (W_set_depth z y) = W_lost z := rfl
theorem W_lost_set_shoe (z : WS) (y : Int32) : W_lost (W_set_shoe z y) = W_lost z := rfl
theorem W_lost_set_weight (z : WS) (y : Int32) : W_lost (W_set_weight z y) = W_lost z := rfl
theorem W_lost_set_isClosed (z : WS) (y : Int32) : W_lost (W_set_isClosed z y) = W_lost z := rfl
theorem W_lost_set_choke (z : WS) (y : Int32) : W_lost (W_set_choke z y) = W_lost z := rfl
theorem W_lost_set_valveStrength (z : WS) (y : Int32) : W_lost (W_set_valveStrength z y) = W_lost z := rfl
theorem W_lost_set_hasBrokenSinceTest (z : WS) (y : Int32) : W_lost (W_set_hasBrokenSinceTest z y) = W_lost z := rfl
theorem W_lost_set_charge (z : WS) (y : Int64) : W_lost (W_set_charge z y) = W_lost z := rfl
theorem W_lost_set_place (z : WS) (y : Int32) : W_lost (W_set_place z y) = W_lost z := rfl
theorem W_lost_set_gas (z : WS) (y : Int32) : W_lost (W_set_gas z y) = W_lost z := rfl
theorem W_lost_set_liquid (z : WS) (y : Int32) : W_lost (W_set_liquid z y) = W_lost z := rfl
theorem W_lost_set_vented (z : WS) (y : Int64) : W_lost (W_set_vented z y) = W_lost z := rfl
theorem W_lost_set_lost (z : WS) (y : Int32) : W_lost (W_set_lost z y) = y := rfl
theorem W_lost_set_minutes (z : WS) (y : Int32) : W_lost (W_set_minutes z y) = W_lost z := rfl
theorem W_minutes_set_depth (z : WS) (y : Int32) : W_minutes (W_set_depth z y) = W_minutes z := rfl
theorem W_minutes_set_shoe (z : WS) (y : Int32) : W_minutes (W_set_shoe z y) = W_minutes z := rfl
theorem W_minutes_set_weight (z : WS) (y : Int32) : W_minutes (W_set_weight z y) = W_minutes z := rfl
theorem W_minutes_set_isClosed (z : WS) (y : Int32) : W_minutes (W_set_isClosed z y) = W_minutes z := rfl
theorem W_minutes_set_choke (z : WS) (y : Int32) : W_minutes (W_set_choke z y) = W_minutes z := rfl
theorem W_minutes_set_valveStrength (z : WS) (y : Int32) : W_minutes (W_set_valveStrength z y) = W_minutes z := rfl
theorem W_minutes_set_hasBrokenSinceTest (z : WS) (y : Int32) : W_minutes (W_set_hasBrokenSinceTest z y) = W_minutes z := rfl
theorem W_minutes_set_charge (z : WS) (y : Int64) : W_minutes (W_set_charge z y) = W_minutes z := rfl
theorem W_minutes_set_place (z : WS) (y : Int32) : W_minutes (W_set_place z y) = W_minutes z := rfl
theorem W_minutes_set_gas (z : WS) (y : Int32) : W_minutes (W_set_gas z y) = W_minutes z := rfl
theorem W_minutes_set_liquid (z : WS) (y : Int32) : W_minutes (W_set_liquid z y) = W_minutes z := rfl
theorem W_minutes_set_vented (z : WS) (y : Int64) : W_minutes (W_set_vented z y) = W_minutes z := rfl
theorem W_minutes_set_lost (z : WS) (y : Int32) : W_minutes (W_set_lost z y) = W_minutes z := rfl
theorem W_minutes_set_minutes (z : WS) (y : Int32) : W_minutes (W_set_minutes z y) = y := rfl
abbrev RS : Type := (Nat → Int32) × (Nat → Int32) × (Nat → Int32) × (Nat → Int32) × (Nat → Int32)
def R_pores (z : RS) : (Nat → Int32) := z.1
def R_breaks (z : RS) : (Nat → Int32) := z.2.1
def R_rates (z : RS) : (Nat → Int32) := z.2.2.1
def R_gases (z : RS) : (Nat → Int32) := z.2.2.2.1
def R_pieces (z : RS) : (Nat → Int32) := z.2.2.2.2
def R_set_pores (z : RS) (y : (Nat → Int32)) : RS := (y, z.2.1, z.2.2.1, z.2.2.2.1, z.2.2.2.2)
def R_set_breaks (z : RS) (y : (Nat → Int32)) : RS := (z.1, y, z.2.2.1, z.2.2.2.1, z.2.2.2.2)
def R_set_rates (z : RS) (y : (Nat → Int32)) : RS := (z.1, z.2.1, y, z.2.2.2.1, z.2.2.2.2)
def R_set_gases (z : RS) (y : (Nat → Int32)) : RS := (z.1, z.2.1, z.2.2.1, y, z.2.2.2.2)
def R_set_pieces (z : RS) (y : (Nat → Int32)) : RS := (z.1, z.2.1, z.2.2.1, z.2.2.2.1, y)
theorem R_pores_set_pores (z : RS) (y : (Nat → Int32)) : R_pores (R_set_pores z y) = y := rfl
theorem R_pores_set_breaks (z : RS) (y : (Nat → Int32)) : R_pores (R_set_breaks z y) = R_pores z := rfl
theorem R_pores_set_rates (z : RS) (y : (Nat → Int32)) : R_pores (R_set_rates z y) = R_pores z := rfl
theorem R_pores_set_gases (z : RS) (y : (Nat → Int32)) : R_pores (R_set_gases z y) = R_pores z := rfl
theorem R_pores_set_pieces (z : RS) (y : (Nat → Int32)) : R_pores (R_set_pieces z y) = R_pores z := rfl
theorem R_breaks_set_pores (z : RS) (y : (Nat → Int32)) : R_breaks (R_set_pores z y) = R_breaks z := rfl
theorem R_breaks_set_breaks (z : RS) (y : (Nat → Int32)) : R_breaks (R_set_breaks z y) = y := rfl
theorem R_breaks_set_rates (z : RS) (y : (Nat → Int32)) : R_breaks (R_set_rates z y) = R_breaks z := rfl
theorem R_breaks_set_gases (z : RS) (y : (Nat → Int32)) : R_breaks (R_set_gases z y) = R_breaks z := rfl
theorem R_breaks_set_pieces (z : RS) (y : (Nat → Int32)) : R_breaks (R_set_pieces z y) = R_breaks z := rfl
theorem R_rates_set_pores (z : RS) (y : (Nat → Int32)) : R_rates (R_set_pores z y) = R_rates z := rfl
theorem R_rates_set_breaks (z : RS) (y : (Nat → Int32)) : R_rates (R_set_breaks z y) = R_rates z := rfl
theorem R_rates_set_rates (z : RS) (y : (Nat → Int32)) : R_rates (R_set_rates z y) = y := rfl
theorem R_rates_set_gases (z : RS) (y : (Nat → Int32)) : R_rates (R_set_gases z y) = R_rates z := rfl
theorem R_rates_set_pieces (z : RS) (y : (Nat → Int32)) : R_rates (R_set_pieces z y) = R_rates z := rfl
theorem R_gases_set_pores (z : RS) (y : (Nat → Int32)) : R_gases (R_set_pores z y) = R_gases z := rfl
theorem R_gases_set_breaks (z : RS) (y : (Nat → Int32)) : R_gases (R_set_breaks z y) = R_gases z := rfl
theorem R_gases_set_rates (z : RS) (y : (Nat → Int32)) : R_gases (R_set_rates z y) = R_gases z := rfl
theorem R_gases_set_gases (z : RS) (y : (Nat → Int32)) : R_gases (R_set_gases z y) = y := rfl
theorem R_gases_set_pieces (z : RS) (y : (Nat → Int32)) : R_gases (R_set_pieces z y) = R_gases z := rfl
theorem R_pieces_set_pores (z : RS) (y : (Nat → Int32)) : R_pieces (R_set_pores z y) = R_pieces z := rfl
theorem R_pieces_set_breaks (z : RS) (y : (Nat → Int32)) : R_pieces (R_set_breaks z y) = R_pieces z := rfl
theorem R_pieces_set_rates (z : RS) (y : (Nat → Int32)) : R_pieces (R_set_rates z y) = R_pieces z := rfl
theorem R_pieces_set_gases (z : RS) (y : (Nat → Int32)) : R_pieces (R_set_gases z y) = R_pieces z := rfl
theorem R_pieces_set_pieces (z : RS) (y : (Nat → Int32)) : R_pieces (R_set_pieces z y) = y := rfl
abbrev TS : Type := (Nat → Int32) × (Nat → Int32) × (Nat → Int32) × (Nat → Int32) × Int32 × Int32 × Int32
def T_whats (z : TS) : (Nat → Int32) := z.1
def T_pressures (z : TS) : (Nat → Int32) := z.2.1
def T_passes (z : TS) : (Nat → Int32) := z.2.2.1
def T_minutes (z : TS) : (Nat → Int32) := z.2.2.2.1
def T_count (z : TS) : Int32 := z.2.2.2.2.1
def T_latestOfValve (z : TS) : Int32 := z.2.2.2.2.2.1
def T_latestOfCement (z : TS) : Int32 := z.2.2.2.2.2.2
def T_set_whats (z : TS) (y : (Nat → Int32)) : TS := (y, z.2.1, z.2.2.1, z.2.2.2.1, z.2.2.2.2.1, z.2.2.2.2.2.1, z.2.2.2.2.2.2)
def T_set_pressures (z : TS) (y : (Nat → Int32)) : TS := (z.1, y, z.2.2.1, z.2.2.2.1, z.2.2.2.2.1, z.2.2.2.2.2.1, z.2.2.2.2.2.2)
def T_set_passes (z : TS) (y : (Nat → Int32)) : TS := (z.1, z.2.1, y, z.2.2.2.1, z.2.2.2.2.1, z.2.2.2.2.2.1, z.2.2.2.2.2.2)
def T_set_minutes (z : TS) (y : (Nat → Int32)) : TS := (z.1, z.2.1, z.2.2.1, y, z.2.2.2.2.1, z.2.2.2.2.2.1, z.2.2.2.2.2.2)
def T_set_count (z : TS) (y : Int32) : TS := (z.1, z.2.1, z.2.2.1, z.2.2.2.1, y, z.2.2.2.2.2.1, z.2.2.2.2.2.2)
def T_set_latestOfValve (z : TS) (y : Int32) : TS := (z.1, z.2.1, z.2.2.1, z.2.2.2.1, z.2.2.2.2.1, y, z.2.2.2.2.2.2)
def T_set_latestOfCement (z : TS) (y : Int32) : TS := (z.1, z.2.1, z.2.2.1, z.2.2.2.1, z.2.2.2.2.1, z.2.2.2.2.2.1, y)
theorem T_whats_set_whats (z : TS) (y : (Nat → Int32)) : T_whats (T_set_whats z y) = y := rfl
theorem T_whats_set_pressures (z : TS) (y : (Nat → Int32)) : T_whats (T_set_pressures z y) = T_whats z := rfl
theorem T_whats_set_passes (z : TS) (y : (Nat → Int32)) : T_whats (T_set_passes z y) = T_whats z := rfl
theorem T_whats_set_minutes (z : TS) (y : (Nat → Int32)) : T_whats (T_set_minutes z y) = T_whats z := rfl
theorem T_whats_set_count (z : TS) (y : Int32) : T_whats (T_set_count z y) = T_whats z := rfl
theorem T_whats_set_latestOfValve (z : TS) (y : Int32) : T_whats (T_set_latestOfValve z y) = T_whats z := rfl
theorem T_whats_set_latestOfCement (z : TS) (y : Int32) : T_whats (T_set_latestOfCement z y) = T_whats z := rfl
theorem T_pressures_set_whats (z : TS) (y : (Nat → Int32)) : T_pressures (T_set_whats z y) = T_pressures z := rfl
theorem T_pressures_set_pressures (z : TS) (y : (Nat → Int32)) : T_pressures (T_set_pressures z y) = y := rfl
theorem T_pressures_set_passes (z : TS) (y : (Nat → Int32)) : T_pressures (T_set_passes z y) = T_pressures z := rfl
theorem T_pressures_set_minutes (z : TS) (y : (Nat → Int32)) : T_pressures (T_set_minutes z y) = T_pressures z := rfl
theorem T_pressures_set_count (z : TS) (y : Int32) : T_pressures (T_set_count z y) = T_pressures z := rfl
theorem T_pressures_set_latestOfValve (z : TS) (y : Int32) : T_pressures (T_set_latestOfValve z y) = T_pressures z := rfl
theorem T_pressures_set_latestOfCement (z : TS) (y : Int32) : T_pressures (T_set_latestOfCement z y) = T_pressures z := rfl
theorem T_passes_set_whats (z : TS) (y : (Nat → Int32)) : T_passes (T_set_whats z y) = T_passes z := rfl
theorem T_passes_set_pressures (z : TS) (y : (Nat → Int32)) : T_passes (T_set_pressures z y) = T_passes z := rfl
theorem T_passes_set_passes (z : TS) (y : (Nat → Int32)) : T_passes (T_set_passes z y) = y := rfl
theorem T_passes_set_minutes (z : TS) (y : (Nat → Int32)) : T_passes (T_set_minutes z y) = T_passes z := rfl
theorem T_passes_set_count (z : TS) (y : Int32) : T_passes (T_set_count z y) = T_passes z := rfl
theorem T_passes_set_latestOfValve (z : TS) (y : Int32) : T_passes (T_set_latestOfValve z y) = T_passes z := rfl
theorem T_passes_set_latestOfCement (z : TS) (y : Int32) : T_passes (T_set_latestOfCement z y) = T_passes z := rfl
theorem T_minutes_set_whats (z : TS) (y : (Nat → Int32)) : T_minutes (T_set_whats z y) = T_minutes z := rfl
theorem T_minutes_set_pressures (z : TS) (y : (Nat → Int32)) : T_minutes (T_set_pressures z y) = T_minutes z := rfl
theorem T_minutes_set_passes (z : TS) (y : (Nat → Int32)) : T_minutes (T_set_passes z y) = T_minutes z := rfl
theorem T_minutes_set_minutes (z : TS) (y : (Nat → Int32)) : T_minutes (T_set_minutes z y) = y := rfl
theorem T_minutes_set_count (z : TS) (y : Int32) : T_minutes (T_set_count z y) = T_minutes z := rfl
theorem T_minutes_set_latestOfValve (z : TS) (y : Int32) : T_minutes (T_set_latestOfValve z y) = T_minutes z := rfl
theorem T_minutes_set_latestOfCement (z : TS) (y : Int32) : T_minutes (T_set_latestOfCement z y) = T_minutes z := rfl
theorem T_count_set_whats (z : TS) (y : (Nat → Int32)) : T_count (T_set_whats z y) = T_count z := rfl
theorem T_count_set_pressures (z : TS) (y : (Nat → Int32)) : T_count (T_set_pressures z y) = T_count z := rfl
theorem T_count_set_passes (z : TS) (y : (Nat → Int32)) : T_count (T_set_passes z y) = T_count z := rfl
theorem T_count_set_minutes (z : TS) (y : (Nat → Int32)) : T_count (T_set_minutes z y) = T_count z := rfl
theorem T_count_set_count (z : TS) (y : Int32) : T_count (T_set_count z y) = y := rfl
theorem T_count_set_latestOfValve (z : TS) (y : Int32) : T_count (T_set_latestOfValve z y) = T_count z := rfl
theorem T_count_set_latestOfCement (z : TS) (y : Int32) : T_count (T_set_latestOfCement z y) = T_count z := rfl
theorem T_latestOfValve_set_whats (z : TS) (y : (Nat → Int32)) : T_latestOfValve (T_set_whats z y) = T_latestOfValve z := rfl
theorem T_latestOfValve_set_pressures (z : TS) (y : (Nat → Int32)) : T_latestOfValve (T_set_pressures z y) = T_latestOfValve z := rfl
theorem T_latestOfValve_set_passes (z : TS) (y : (Nat → Int32)) : T_latestOfValve (T_set_passes z y) = T_latestOfValve z := rfl
theorem T_latestOfValve_set_minutes (z : TS) (y : (Nat → Int32)) : T_latestOfValve (T_set_minutes z y) = T_latestOfValve z := rfl
theorem T_latestOfValve_set_count (z : TS) (y : Int32) : T_latestOfValve (T_set_count z y) = T_latestOfValve z := rfl
theorem T_latestOfValve_set_latestOfValve (z : TS) (y : Int32) : T_latestOfValve (T_set_latestOfValve z y) = y := rfl
theorem T_latestOfValve_set_latestOfCement (z : TS) (y : Int32) : T_latestOfValve (T_set_latestOfCement z y) = T_latestOfValve z := rfl
theorem T_latestOfCement_set_whats (z : TS) (y : (Nat → Int32)) : T_latestOfCement (T_set_whats z y) = T_latestOfCement z := rfl
theorem T_latestOfCement_set_pressures (z : TS) (y : (Nat → Int32)) : T_latestOfCement (T_set_pressures z y) = T_latestOfCement z := rfl
theorem T_latestOfCement_set_passes (z : TS) (y : (Nat → Int32)) : T_latestOfCement (T_set_passes z y) = T_latestOfCement z := rfl
theorem T_latestOfCement_set_minutes (z : TS) (y : (Nat → Int32)) : T_latestOfCement (T_set_minutes z y) = T_latestOfCement z := rfl
theorem T_latestOfCement_set_count (z : TS) (y : Int32) : T_latestOfCement (T_set_count z y) = T_latestOfCement z := rfl
theorem T_latestOfCement_set_latestOfValve (z : TS) (y : Int32) : T_latestOfCement (T_set_latestOfValve z y) = T_latestOfCement z := rfl
theorem T_latestOfCement_set_latestOfCement (z : TS) (y : Int32) : T_latestOfCement (T_set_latestOfCement z y) = y := rfl
abbrev MS : Type := Int32 × (Nat → Int32) × (Nat → Int32) × (Nat → Int32) × (Nat → Int32) × Int32 × Int32 × Int32 × Int32 × Int32 × Int64 × Int32 × Int32 × Int32 × Int32 × Int64 × Int64 × Int32 × Int32 × Int32 × Int32 × Int32 × Int32 × Int32 × (Nat → Int64) × Int32 × (Nat → Int32) × (Nat → Int32) × (Nat → Int32) × (Nat → Int32) × (Nat → Int32)
def M_thrown (z : MS) : Int32 := z.1
def M_pore (z : MS) : (Nat → Int32) := z.2.1
def M_breaks (z : MS) : (Nat → Int32) := z.2.2.1
def M_rate (z : MS) : (Nat → Int32) := z.2.2.2.1
def M_bearsGas (z : MS) : (Nat → Int32) := z.2.2.2.2.1
def M_depth (z : MS) : Int32 := z.2.2.2.2.2.1
def M_shoe (z : MS) : Int32 := z.2.2.2.2.2.2.1
def M_weight (z : MS) : Int32 := z.2.2.2.2.2.2.2.1
def M_isClosed (z : MS) : Int32 := z.2.2.2.2.2.2.2.2.1
def M_choke (z : MS) : Int32 := z.2.2.2.2.2.2.2.2.2.1
def M_charge (z : MS) : Int64 := z.2.2.2.2.2.2.2.2.2.2.1
def M_place (z : MS) : Int32 := z.2.2.2.2.2.2.2.2.2.2.2.1
def M_gas (z : MS) : Int32 := z.2.2.2.2.2.2.2.2.2.2.2.2.1
def M_liquid (z : MS) : Int32 := z.2.2.2.2.2.2.2.2.2.2.2.2.2.1
def M_minutes (z : MS) : Int32 := z.2.2.2.2.2.2.2.2.2.2.2.2.2.2.1
def M_vented (z : MS) : Int64 := z.2.2.2.2.2.2.2.2.2.2.2.2.2.2.2.1
def M_lost (z : MS) : Int64 := z.2.2.2.2.2.2.2.2.2.2.2.2.2.2.2.2.1
def M_pumped (z : MS) : Int32 := z.2.2.2.2.2.2.2.2.2.2.2.2.2.2.2.2.2.1
def M_pumpedWeight (z : MS) : Int32 := z.2.2.2.2.2.2.2.2.2.2.2.2.2.2.2.2.2.2.1
def M_valve (z : MS) : Int32 := z.2.2.2.2.2.2.2.2.2.2.2.2.2.2.2.2.2.2.2.1
def M_brokenAfter (z : MS) : Int32 := z.2.2.2.2.2.2.2.2.2.2.2.2.2.2.2.2.2.2.2.2.1
def M_cement (z : MS) : Int32 := z.2.2.2.2.2.2.2.2.2.2.2.2.2.2.2.2.2.2.2.2.2.1
def M_casedAfter (z : MS) : Int32 := z.2.2.2.2.2.2.2.2.2.2.2.2.2.2.2.2.2.2.2.2.2.2.1
def M_flowed (z : MS) : Int32 := z.2.2.2.2.2.2.2.2.2.2.2.2.2.2.2.2.2.2.2.2.2.2.2.1
def M_kept (z : MS) : (Nat → Int64) := z.2.2.2.2.2.2.2.2.2.2.2.2.2.2.2.2.2.2.2.2.2.2.2.2.1
def M_tests (z : MS) : Int32 := z.2.2.2.2.2.2.2.2.2.2.2.2.2.2.2.2.2.2.2.2.2.2.2.2.2.1
def M_tested (z : MS) : (Nat → Int32) := z.2.2.2.2.2.2.2.2.2.2.2.2.2.2.2.2.2.2.2.2.2.2.2.2.2.2.1
def M_by (z : MS) : (Nat → Int32) := z.2.2.2.2.2.2.2.2.2.2.2.2.2.2.2.2.2.2.2.2.2.2.2.2.2.2.2.1
def M_isPassed (z : MS) : (Nat → Int32) := z.2.2.2.2.2.2.2.2.2.2.2.2.2.2.2.2.2.2.2.2.2.2.2.2.2.2.2.2.1
def M_testedAt (z : MS) : (Nat → Int32) := z.2.2.2.2.2.2.2.2.2.2.2.2.2.2.2.2.2.2.2.2.2.2.2.2.2.2.2.2.2.1
def M_stops (z : MS) : (Nat → Int32) := z.2.2.2.2.2.2.2.2.2.2.2.2.2.2.2.2.2.2.2.2.2.2.2.2.2.2.2.2.2.2
def M_set_thrown (z : MS) (y : Int32) : MS := (y, z.2.1, z.2.2.1, z.2.2.2.1, z.2.2.2.2.1, z.2.2.2.2.2.1, z.2.2.2.2.2.2.1, z.2.2.2.2.2.2.2.1, z.2.2.2.2.2.2.2.2.1, z.2.2.2.2.2.2.2.2.2.1, z.2.2.2.2.2.2.2.2.2.2.1, z.2.2.2.2.2.2.2.2.2.2.2.1, z.2.2.2.2.2.2.2.2.2.2.2.2.1, z.2.2.2.2.2.2.2.2.2.2.2.2.2.1, z.2.2.2.2.2.2.2.2.2.2.2.2.2.2.1, z.2.2.2.2.2.2.2.2.2.2.2.2.2.2.2.1, z.2.2.2.2.2.2.2.2.2.2.2.2.2.2.2.2.1, z.2.2.2.2.2.2.2.2.2.2.2.2.2.2.2.2.2.1, z.2.2.2.2.2.2.2.2.2.2.2.2.2.2.2.2.2.2.1, z.2.2.2.2.2.2.2.2.2.2.2.2.2.2.2.2.2.2.2.1, z.2.2.2.2.2.2.2.2.2.2.2.2.2.2.2.2.2.2.2.2.1, z.2.2.2.2.2.2.2.2.2.2.2.2.2.2.2.2.2.2.2.2.2.1, z.2.2.2.2.2.2.2.2.2.2.2.2.2.2.2.2.2.2.2.2.2.2.1, z.2.2.2.2.2.2.2.2.2.2.2.2.2.2.2.2.2.2.2.2.2.2.2.1, z.2.2.2.2.2.2.2.2.2.2.2.2.2.2.2.2.2.2.2.2.2.2.2.2.1, z.2.2.2.2.2.2.2.2.2.2.2.2.2.2.2.2.2.2.2.2.2.2.2.2.2.1, z.2.2.2.2.2.2.2.2.2.2.2.2.2.2.2.2.2.2.2.2.2.2.2.2.2.2.1, z.2.2.2.2.2.2.2.2.2.2.2.2.2.2.2.2.2.2.2.2.2.2.2.2.2.2.2.1, z.2.2.2.2.2.2.2.2.2.2.2.2.2.2.2.2.2.2.2.2.2.2.2.2.2.2.2.2.1, z.2.2.2.2.2.2.2.2.2.2.2.2.2.2.2.2.2.2.2.2.2.2.2.2.2.2.2.2.2.1, z.2.2.2.2.2.2.2.2.2.2.2.2.2.2.2.2.2.2.2.2.2.2.2.2.2.2.2.2.2.2)
def M_set_pore (z : MS) (y : (Nat → Int32)) : MS := (z.1, y, z.2.2.1, z.2.2.2.1, z.2.2.2.2.1, z.2.2.2.2.2.1, z.2.2.2.2.2.2.1, z.2.2.2.2.2.2.2.1, z.2.2.2.2.2.2.2.2.1, z.2.2.2.2.2.2.2.2.2.1, z.2.2.2.2.2.2.2.2.2.2.1, z.2.2.2.2.2.2.2.2.2.2.2.1, z.2.2.2.2.2.2.2.2.2.2.2.2.1, z.2.2.2.2.2.2.2.2.2.2.2.2.2.1, z.2.2.2.2.2.2.2.2.2.2.2.2.2.2.1, z.2.2.2.2.2.2.2.2.2.2.2.2.2.2.2.1, z.2.2.2.2.2.2.2.2.2.2.2.2.2.2.2.2.1, z.2.2.2.2.2.2.2.2.2.2.2.2.2.2.2.2.2.1, z.2.2.2.2.2.2.2.2.2.2.2.2.2.2.2.2.2.2.1, z.2.2.2.2.2.2.2.2.2.2.2.2.2.2.2.2.2.2.2.1, z.2.2.2.2.2.2.2.2.2.2.2.2.2.2.2.2.2.2.2.2.1, z.2.2.2.2.2.2.2.2.2.2.2.2.2.2.2.2.2.2.2.2.2.1, z.2.2.2.2.2.2.2.2.2.2.2.2.2.2.2.2.2.2.2.2.2.2.1, z.2.2.2.2.2.2.2.2.2.2.2.2.2.2.2.2.2.2.2.2.2.2.2.1, z.2.2.2.2.2.2.2.2.2.2.2.2.2.2.2.2.2.2.2.2.2.2.2.2.1, z.2.2.2.2.2.2.2.2.2.2.2.2.2.2.2.2.2.2.2.2.2.2.2.2.2.1, z.2.2.2.2.2.2.2.2.2.2.2.2.2.2.2.2.2.2.2.2.2.2.2.2.2.2.1, z.2.2.2.2.2.2.2.2.2.2.2.2.2.2.2.2.2.2.2.2.2.2.2.2.2.2.2.1, z.2.2.2.2.2.2.2.2.2.2.2.2.2.2.2.2.2.2.2.2.2.2.2.2.2.2.2.2.1, z.2.2.2.2.2.2.2.2.2.2.2.2.2.2.2.2.2.2.2.2.2.2.2.2.2.2.2.2.2.1, z.2.2.2.2.2.2.2.2.2.2.2.2.2.2.2.2.2.2.2.2.2.2.2.2.2.2.2.2.2.2)
def M_set_breaks (z : MS) (y : (Nat → Int32)) : MS := (z.1, z.2.1, y, z.2.2.2.1, z.2.2.2.2.1, z.2.2.2.2.2.1, z.2.2.2.2.2.2.1, z.2.2.2.2.2.2.2.1, z.2.2.2.2.2.2.2.2.1, z.2.2.2.2.2.2.2.2.2.1, z.2.2.2.2.2.2.2.2.2.2.1, z.2.2.2.2.2.2.2.2.2.2.2.1, z.2.2.2.2.2.2.2.2.2.2.2.2.1, z.2.2.2.2.2.2.2.2.2.2.2.2.2.1, z.2.2.2.2.2.2.2.2.2.2.2.2.2.2.1, z.2.2.2.2.2.2.2.2.2.2.2.2.2.2.2.1, z.2.2.2.2.2.2.2.2.2.2.2.2.2.2.2.2.1, z.2.2.2.2.2.2.2.2.2.2.2.2.2.2.2.2.2.1, z.2.2.2.2.2.2.2.2.2.2.2.2.2.2.2.2.2.2.1, z.2.2.2.2.2.2.2.2.2.2.2.2.2.2.2.2.2.2.2.1, z.2.2.2.2.2.2.2.2.2.2.2.2.2.2.2.2.2.2.2.2.1, z.2.2.2.2.2.2.2.2.2.2.2.2.2.2.2.2.2.2.2.2.2.1, z.2.2.2.2.2.2.2.2.2.2.2.2.2.2.2.2.2.2.2.2.2.2.1, z.2.2.2.2.2.2.2.2.2.2.2.2.2.2.2.2.2.2.2.2.2.2.2.1, z.2.2.2.2.2.2.2.2.2.2.2.2.2.2.2.2.2.2.2.2.2.2.2.2.1, z.2.2.2.2.2.2.2.2.2.2.2.2.2.2.2.2.2.2.2.2.2.2.2.2.2.1, z.2.2.2.2.2.2.2.2.2.2.2.2.2.2.2.2.2.2.2.2.2.2.2.2.2.2.1, z.2.2.2.2.2.2.2.2.2.2.2.2.2.2.2.2.2.2.2.2.2.2.2.2.2.2.2.1, z.2.2.2.2.2.2.2.2.2.2.2.2.2.2.2.2.2.2.2.2.2.2.2.2.2.2.2.2.1, z.2.2.2.2.2.2.2.2.2.2.2.2.2.2.2.2.2.2.2.2.2.2.2.2.2.2.2.2.2.1, z.2.2.2.2.2.2.2.2.2.2.2.2.2.2.2.2.2.2.2.2.2.2.2.2.2.2.2.2.2.2)
def M_set_rate (z : MS) (y : (Nat → Int32)) : MS := (z.1, z.2.1, z.2.2.1, y, z.2.2.2.2.1, z.2.2.2.2.2.1, z.2.2.2.2.2.2.1, z.2.2.2.2.2.2.2.1, z.2.2.2.2.2.2.2.2.1, z.2.2.2.2.2.2.2.2.2.1, z.2.2.2.2.2.2.2.2.2.2.1, z.2.2.2.2.2.2.2.2.2.2.2.1, z.2.2.2.2.2.2.2.2.2.2.2.2.1, z.2.2.2.2.2.2.2.2.2.2.2.2.2.1, z.2.2.2.2.2.2.2.2.2.2.2.2.2.2.1, z.2.2.2.2.2.2.2.2.2.2.2.2.2.2.2.1, z.2.2.2.2.2.2.2.2.2.2.2.2.2.2.2.2.1, z.2.2.2.2.2.2.2.2.2.2.2.2.2.2.2.2.2.1, z.2.2.2.2.2.2.2.2.2.2.2.2.2.2.2.2.2.2.1, z.2.2.2.2.2.2.2.2.2.2.2.2.2.2.2.2.2.2.2.1, z.2.2.2.2.2.2.2.2.2.2.2.2.2.2.2.2.2.2.2.2.1, z.2.2.2.2.2.2.2.2.2.2.2.2.2.2.2.2.2.2.2.2.2.1, z.2.2.2.2.2.2.2.2.2.2.2.2.2.2.2.2.2.2.2.2.2.2.1, z.2.2.2.2.2.2.2.2.2.2.2.2.2.2.2.2.2.2.2.2.2.2.2.1, z.2.2.2.2.2.2.2.2.2.2.2.2.2.2.2.2.2.2.2.2.2.2.2.2.1, z.2.2.2.2.2.2.2.2.2.2.2.2.2.2.2.2.2.2.2.2.2.2.2.2.2.1, z.2.2.2.2.2.2.2.2.2.2.2.2.2.2.2.2.2.2.2.2.2.2.2.2.2.2.1, z.2.2.2.2.2.2.2.2.2.2.2.2.2.2.2.2.2.2.2.2.2.2.2.2.2.2.2.1, z.2.2.2.2.2.2.2.2.2.2.2.2.2.2.2.2.2.2.2.2.2.2.2.2.2.2.2.2.1, z.2.2.2.2.2.2.2.2.2.2.2.2.2.2.2.2.2.2.2.2.2.2.2.2.2.2.2.2.2.1, z.2.2.2.2.2.2.2.2.2.2.2.2.2.2.2.2.2.2.2.2.2.2.2.2.2.2.2.2.2.2)
def M_set_bearsGas (z : MS) (y : (Nat → Int32)) : MS := (z.1, z.2.1, z.2.2.1, z.2.2.2.1, y, z.2.2.2.2.2.1, z.2.2.2.2.2.2.1, z.2.2.2.2.2.2.2.1, z.2.2.2.2.2.2.2.2.1, z.2.2.2.2.2.2.2.2.2.1, z.2.2.2.2.2.2.2.2.2.2.1, z.2.2.2.2.2.2.2.2.2.2.2.1, z.2.2.2.2.2.2.2.2.2.2.2.2.1, z.2.2.2.2.2.2.2.2.2.2.2.2.2.1, z.2.2.2.2.2.2.2.2.2.2.2.2.2.2.1, z.2.2.2.2.2.2.2.2.2.2.2.2.2.2.2.1, z.2.2.2.2.2.2.2.2.2.2.2.2.2.2.2.2.1, z.2.2.2.2.2.2.2.2.2.2.2.2.2.2.2.2.2.1, z.2.2.2.2.2.2.2.2.2.2.2.2.2.2.2.2.2.2.1, z.2.2.2.2.2.2.2.2.2.2.2.2.2.2.2.2.2.2.2.1, z.2.2.2.2.2.2.2.2.2.2.2.2.2.2.2.2.2.2.2.2.1, z.2.2.2.2.2.2.2.2.2.2.2.2.2.2.2.2.2.2.2.2.2.1, z.2.2.2.2.2.2.2.2.2.2.2.2.2.2.2.2.2.2.2.2.2.2.1, z.2.2.2.2.2.2.2.2.2.2.2.2.2.2.2.2.2.2.2.2.2.2.2.1, z.2.2.2.2.2.2.2.2.2.2.2.2.2.2.2.2.2.2.2.2.2.2.2.2.1, z.2.2.2.2.2.2.2.2.2.2.2.2.2.2.2.2.2.2.2.2.2.2.2.2.2.1, z.2.2.2.2.2.2.2.2.2.2.2.2.2.2.2.2.2.2.2.2.2.2.2.2.2.2.1, z.2.2.2.2.2.2.2.2.2.2.2.2.2.2.2.2.2.2.2.2.2.2.2.2.2.2.2.1, z.2.2.2.2.2.2.2.2.2.2.2.2.2.2.2.2.2.2.2.2.2.2.2.2.2.2.2.2.1, z.2.2.2.2.2.2.2.2.2.2.2.2.2.2.2.2.2.2.2.2.2.2.2.2.2.2.2.2.2.1, z.2.2.2.2.2.2.2.2.2.2.2.2.2.2.2.2.2.2.2.2.2.2.2.2.2.2.2.2.2.2)
def M_set_depth (z : MS) (y : Int32) : MS := (z.1, z.2.1, z.2.2.1, z.2.2.2.1, z.2.2.2.2.1, y, z.2.2.2.2.2.2.1, z.2.2.2.2.2.2.2.1, z.2.2.2.2.2.2.2.2.1, z.2.2.2.2.2.2.2.2.2.1, z.2.2.2.2.2.2.2.2.2.2.1, z.2.2.2.2.2.2.2.2.2.2.2.1, z.2.2.2.2.2.2.2.2.2.2.2.2.1, z.2.2.2.2.2.2.2.2.2.2.2.2.2.1, z.2.2.2.2.2.2.2.2.2.2.2.2.2.2.1, z.2.2.2.2.2.2.2.2.2.2.2.2.2.2.2.1, z.2.2.2.2.2.2.2.2.2.2.2.2.2.2.2.2.1, z.2.2.2.2.2.2.2.2.2.2.2.2.2.2.2.2.2.1, z.2.2.2.2.2.2.2.2.2.2.2.2.2.2.2.2.2.2.1, z.2.2.2.2.2.2.2.2.2.2.2.2.2.2.2.2.2.2.2.1, z.2.2.2.2.2.2.2.2.2.2.2.2.2.2.2.2.2.2.2.2.1, z.2.2.2.2.2.2.2.2.2.2.2.2.2.2.2.2.2.2.2.2.2.1, z.2.2.2.2.2.2.2.2.2.2.2.2.2.2.2.2.2.2.2.2.2.2.1, z.2.2.2.2.2.2.2.2.2.2.2.2.2.2.2.2.2.2.2.2.2.2.2.1, z.2.2.2.2.2.2.2.2.2.2.2.2.2.2.2.2.2.2.2.2.2.2.2.2.1, z.2.2.2.2.2.2.2.2.2.2.2.2.2.2.2.2.2.2.2.2.2.2.2.2.2.1, z.2.2.2.2.2.2.2.2.2.2.2.2.2.2.2.2.2.2.2.2.2.2.2.2.2.2.1, z.2.2.2.2.2.2.2.2.2.2.2.2.2.2.2.2.2.2.2.2.2.2.2.2.2.2.2.1, z.2.2.2.2.2.2.2.2.2.2.2.2.2.2.2.2.2.2.2.2.2.2.2.2.2.2.2.2.1, z.2.2.2.2.2.2.2.2.2.2.2.2.2.2.2.2.2.2.2.2.2.2.2.2.2.2.2.2.2.1, z.2.2.2.2.2.2.2.2.2.2.2.2.2.2.2.2.2.2.2.2.2.2.2.2.2.2.2.2.2.2)
def M_set_shoe (z : MS) (y : Int32) : MS := (z.1, z.2.1, z.2.2.1, z.2.2.2.1, z.2.2.2.2.1, z.2.2.2.2.2.1, y, z.2.2.2.2.2.2.2.1, z.2.2.2.2.2.2.2.2.1, z.2.2.2.2.2.2.2.2.2.1, z.2.2.2.2.2.2.2.2.2.2.1, z.2.2.2.2.2.2.2.2.2.2.2.1, z.2.2.2.2.2.2.2.2.2.2.2.2.1, z.2.2.2.2.2.2.2.2.2.2.2.2.2.1, z.2.2.2.2.2.2.2.2.2.2.2.2.2.2.1, z.2.2.2.2.2.2.2.2.2.2.2.2.2.2.2.1, z.2.2.2.2.2.2.2.2.2.2.2.2.2.2.2.2.1, z.2.2.2.2.2.2.2.2.2.2.2.2.2.2.2.2.2.1, z.2.2.2.2.2.2.2.2.2.2.2.2.2.2.2.2.2.2.1, z.2.2.2.2.2.2.2.2.2.2.2.2.2.2.2.2.2.2.2.1, z.2.2.2.2.2.2.2.2.2.2.2.2.2.2.2.2.2.2.2.2.1, z.2.2.2.2.2.2.2.2.2.2.2.2.2.2.2.2.2.2.2.2.2.1, z.2.2.2.2.2.2.2.2.2.2.2.2.2.2.2.2.2.2.2.2.2.2.1, z.2.2.2.2.2.2.2.2.2.2.2.2.2.2.2.2.2.2.2.2.2.2.2.1, z.2.2.2.2.2.2.2.2.2.2.2.2.2.2.2.2.2.2.2.2.2.2.2.2.1, z.2.2.2.2.2.2.2.2.2.2.2.2.2.2.2.2.2.2.2.2.2.2.2.2.2.1, z.2.2.2.2.2.2.2.2.2.2.2.2.2.2.2.2.2.2.2.2.2.2.2.2.2.2.1, z.2.2.2.2.2.2.2.2.2.2.2.2.2.2.2.2.2.2.2.2.2.2.2.2.2.2.2.1, z.2.2.2.2.2.2.2.2.2.2.2.2.2.2.2.2.2.2.2.2.2.2.2.2.2.2.2.2.1, z.2.2.2.2.2.2.2.2.2.2.2.2.2.2.2.2.2.2.2.2.2.2.2.2.2.2.2.2.2.1, z.2.2.2.2.2.2.2.2.2.2.2.2.2.2.2.2.2.2.2.2.2.2.2.2.2.2.2.2.2.2)
def M_set_weight (z : MS) (y : Int32) : MS := (z.1, z.2.1, z.2.2.1, z.2.2.2.1, z.2.2.2.2.1, z.2.2.2.2.2.1, z.2.2.2.2.2.2.1, y, z.2.2.2.2.2.2.2.2.1, z.2.2.2.2.2.2.2.2.2.1, z.2.2.2.2.2.2.2.2.2.2.1, z.2.2.2.2.2.2.2.2.2.2.2.1, z.2.2.2.2.2.2.2.2.2.2.2.2.1, z.2.2.2.2.2.2.2.2.2.2.2.2.2.1, z.2.2.2.2.2.2.2.2.2.2.2.2.2.2.1, z.2.2.2.2.2.2.2.2.2.2.2.2.2.2.2.1, z.2.2.2.2.2.2.2.2.2.2.2.2.2.2.2.2.1, z.2.2.2.2.2.2.2.2.2.2.2.2.2.2.2.2.2.1, z.2.2.2.2.2.2.2.2.2.2.2.2.2.2.2.2.2.2.1, z.2.2.2.2.2.2.2.2.2.2.2.2.2.2.2.2.2.2.2.1, z.2.2.2.2.2.2.2.2.2.2.2.2.2.2.2.2.2.2.2.2.1, z.2.2.2.2.2.2.2.2.2.2.2.2.2.2.2.2.2.2.2.2.2.1, z.2.2.2.2.2.2.2.2.2.2.2.2.2.2.2.2.2.2.2.2.2.2.1, z.2.2.2.2.2.2.2.2.2.2.2.2.2.2.2.2.2.2.2.2.2.2.2.1, z.2.2.2.2.2.2.2.2.2.2.2.2.2.2.2.2.2.2.2.2.2.2.2.2.1, z.2.2.2.2.2.2.2.2.2.2.2.2.2.2.2.2.2.2.2.2.2.2.2.2.2.1, z.2.2.2.2.2.2.2.2.2.2.2.2.2.2.2.2.2.2.2.2.2.2.2.2.2.2.1, z.2.2.2.2.2.2.2.2.2.2.2.2.2.2.2.2.2.2.2.2.2.2.2.2.2.2.2.1, z.2.2.2.2.2.2.2.2.2.2.2.2.2.2.2.2.2.2.2.2.2.2.2.2.2.2.2.2.1, z.2.2.2.2.2.2.2.2.2.2.2.2.2.2.2.2.2.2.2.2.2.2.2.2.2.2.2.2.2.1, z.2.2.2.2.2.2.2.2.2.2.2.2.2.2.2.2.2.2.2.2.2.2.2.2.2.2.2.2.2.2)
def M_set_isClosed (z : MS) (y : Int32) : MS := (z.1, z.2.1, z.2.2.1, z.2.2.2.1, z.2.2.2.2.1, z.2.2.2.2.2.1, z.2.2.2.2.2.2.1, z.2.2.2.2.2.2.2.1, y, z.2.2.2.2.2.2.2.2.2.1, z.2.2.2.2.2.2.2.2.2.2.1, z.2.2.2.2.2.2.2.2.2.2.2.1, z.2.2.2.2.2.2.2.2.2.2.2.2.1, z.2.2.2.2.2.2.2.2.2.2.2.2.2.1, z.2.2.2.2.2.2.2.2.2.2.2.2.2.2.1, z.2.2.2.2.2.2.2.2.2.2.2.2.2.2.2.1, z.2.2.2.2.2.2.2.2.2.2.2.2.2.2.2.2.1, z.2.2.2.2.2.2.2.2.2.2.2.2.2.2.2.2.2.1, z.2.2.2.2.2.2.2.2.2.2.2.2.2.2.2.2.2.2.1, z.2.2.2.2.2.2.2.2.2.2.2.2.2.2.2.2.2.2.2.1, z.2.2.2.2.2.2.2.2.2.2.2.2.2.2.2.2.2.2.2.2.1, z.2.2.2.2.2.2.2.2.2.2.2.2.2.2.2.2.2.2.2.2.2.1, z.2.2.2.2.2.2.2.2.2.2.2.2.2.2.2.2.2.2.2.2.2.2.1, z.2.2.2.2.2.2.2.2.2.2.2.2.2.2.2.2.2.2.2.2.2.2.2.1, z.2.2.2.2.2.2.2.2.2.2.2.2.2.2.2.2.2.2.2.2.2.2.2.2.1, z.2.2.2.2.2.2.2.2.2.2.2.2.2.2.2.2.2.2.2.2.2.2.2.2.2.1, z.2.2.2.2.2.2.2.2.2.2.2.2.2.2.2.2.2.2.2.2.2.2.2.2.2.2.1, z.2.2.2.2.2.2.2.2.2.2.2.2.2.2.2.2.2.2.2.2.2.2.2.2.2.2.2.1, z.2.2.2.2.2.2.2.2.2.2.2.2.2.2.2.2.2.2.2.2.2.2.2.2.2.2.2.2.1, z.2.2.2.2.2.2.2.2.2.2.2.2.2.2.2.2.2.2.2.2.2.2.2.2.2.2.2.2.2.1, z.2.2.2.2.2.2.2.2.2.2.2.2.2.2.2.2.2.2.2.2.2.2.2.2.2.2.2.2.2.2)
def M_set_choke (z : MS) (y : Int32) : MS := (z.1, z.2.1, z.2.2.1, z.2.2.2.1, z.2.2.2.2.1, z.2.2.2.2.2.1, z.2.2.2.2.2.2.1, z.2.2.2.2.2.2.2.1, z.2.2.2.2.2.2.2.2.1, y, z.2.2.2.2.2.2.2.2.2.2.1, z.2.2.2.2.2.2.2.2.2.2.2.1, z.2.2.2.2.2.2.2.2.2.2.2.2.1, z.2.2.2.2.2.2.2.2.2.2.2.2.2.1, z.2.2.2.2.2.2.2.2.2.2.2.2.2.2.1, z.2.2.2.2.2.2.2.2.2.2.2.2.2.2.2.1, z.2.2.2.2.2.2.2.2.2.2.2.2.2.2.2.2.1, z.2.2.2.2.2.2.2.2.2.2.2.2.2.2.2.2.2.1, z.2.2.2.2.2.2.2.2.2.2.2.2.2.2.2.2.2.2.1, z.2.2.2.2.2.2.2.2.2.2.2.2.2.2.2.2.2.2.2.1, z.2.2.2.2.2.2.2.2.2.2.2.2.2.2.2.2.2.2.2.2.1, z.2.2.2.2.2.2.2.2.2.2.2.2.2.2.2.2.2.2.2.2.2.1, z.2.2.2.2.2.2.2.2.2.2.2.2.2.2.2.2.2.2.2.2.2.2.1, z.2.2.2.2.2.2.2.2.2.2.2.2.2.2.2.2.2.2.2.2.2.2.2.1, z.2.2.2.2.2.2.2.2.2.2.2.2.2.2.2.2.2.2.2.2.2.2.2.2.1, z.2.2.2.2.2.2.2.2.2.2.2.2.2.2.2.2.2.2.2.2.2.2.2.2.2.1, z.2.2.2.2.2.2.2.2.2.2.2.2.2.2.2.2.2.2.2.2.2.2.2.2.2.2.1, z.2.2.2.2.2.2.2.2.2.2.2.2.2.2.2.2.2.2.2.2.2.2.2.2.2.2.2.1, z.2.2.2.2.2.2.2.2.2.2.2.2.2.2.2.2.2.2.2.2.2.2.2.2.2.2.2.2.1, z.2.2.2.2.2.2.2.2.2.2.2.2.2.2.2.2.2.2.2.2.2.2.2.2.2.2.2.2.2.1, z.2.2.2.2.2.2.2.2.2.2.2.2.2.2.2.2.2.2.2.2.2.2.2.2.2.2.2.2.2.2)
def M_set_charge (z : MS) (y : Int64) : MS := (z.1, z.2.1, z.2.2.1, z.2.2.2.1, z.2.2.2.2.1, z.2.2.2.2.2.1, z.2.2.2.2.2.2.1, z.2.2.2.2.2.2.2.1, z.2.2.2.2.2.2.2.2.1, z.2.2.2.2.2.2.2.2.2.1, y, z.2.2.2.2.2.2.2.2.2.2.2.1, z.2.2.2.2.2.2.2.2.2.2.2.2.1, z.2.2.2.2.2.2.2.2.2.2.2.2.2.1, z.2.2.2.2.2.2.2.2.2.2.2.2.2.2.1, z.2.2.2.2.2.2.2.2.2.2.2.2.2.2.2.1, z.2.2.2.2.2.2.2.2.2.2.2.2.2.2.2.2.1, z.2.2.2.2.2.2.2.2.2.2.2.2.2.2.2.2.2.1, z.2.2.2.2.2.2.2.2.2.2.2.2.2.2.2.2.2.2.1, z.2.2.2.2.2.2.2.2.2.2.2.2.2.2.2.2.2.2.2.1, z.2.2.2.2.2.2.2.2.2.2.2.2.2.2.2.2.2.2.2.2.1, z.2.2.2.2.2.2.2.2.2.2.2.2.2.2.2.2.2.2.2.2.2.1, z.2.2.2.2.2.2.2.2.2.2.2.2.2.2.2.2.2.2.2.2.2.2.1, z.2.2.2.2.2.2.2.2.2.2.2.2.2.2.2.2.2.2.2.2.2.2.2.1, z.2.2.2.2.2.2.2.2.2.2.2.2.2.2.2.2.2.2.2.2.2.2.2.2.1, z.2.2.2.2.2.2.2.2.2.2.2.2.2.2.2.2.2.2.2.2.2.2.2.2.2.1, z.2.2.2.2.2.2.2.2.2.2.2.2.2.2.2.2.2.2.2.2.2.2.2.2.2.2.1, z.2.2.2.2.2.2.2.2.2.2.2.2.2.2.2.2.2.2.2.2.2.2.2.2.2.2.2.1, z.2.2.2.2.2.2.2.2.2.2.2.2.2.2.2.2.2.2.2.2.2.2.2.2.2.2.2.2.1, z.2.2.2.2.2.2.2.2.2.2.2.2.2.2.2.2.2.2.2.2.2.2.2.2.2.2.2.2.2.1, z.2.2.2.2.2.2.2.2.2.2.2.2.2.2.2.2.2.2.2.2.2.2.2.2.2.2.2.2.2.2)
def M_set_place (z : MS) (y : Int32) : MS := (z.1, z.2.1, z.2.2.1, z.2.2.2.1, z.2.2.2.2.1, z.2.2.2.2.2.1, z.2.2.2.2.2.2.1, z.2.2.2.2.2.2.2.1, z.2.2.2.2.2.2.2.2.1, z.2.2.2.2.2.2.2.2.2.1, z.2.2.2.2.2.2.2.2.2.2.1, y, z.2.2.2.2.2.2.2.2.2.2.2.2.1, z.2.2.2.2.2.2.2.2.2.2.2.2.2.1, z.2.2.2.2.2.2.2.2.2.2.2.2.2.2.1, z.2.2.2.2.2.2.2.2.2.2.2.2.2.2.2.1, z.2.2.2.2.2.2.2.2.2.2.2.2.2.2.2.2.1, z.2.2.2.2.2.2.2.2.2.2.2.2.2.2.2.2.2.1, z.2.2.2.2.2.2.2.2.2.2.2.2.2.2.2.2.2.2.1, z.2.2.2.2.2.2.2.2.2.2.2.2.2.2.2.2.2.2.2.1, z.2.2.2.2.2.2.2.2.2.2.2.2.2.2.2.2.2.2.2.2.1, z.2.2.2.2.2.2.2.2.2.2.2.2.2.2.2.2.2.2.2.2.2.1, z.2.2.2.2.2.2.2.2.2.2.2.2.2.2.2.2.2.2.2.2.2.2.1, z.2.2.2.2.2.2.2.2.2.2.2.2.2.2.2.2.2.2.2.2.2.2.2.1, z.2.2.2.2.2.2.2.2.2.2.2.2.2.2.2.2.2.2.2.2.2.2.2.2.1, z.2.2.2.2.2.2.2.2.2.2.2.2.2.2.2.2.2.2.2.2.2.2.2.2.2.1, z.2.2.2.2.2.2.2.2.2.2.2.2.2.2.2.2.2.2.2.2.2.2.2.2.2.2.1, z.2.2.2.2.2.2.2.2.2.2.2.2.2.2.2.2.2.2.2.2.2.2.2.2.2.2.2.1, z.2.2.2.2.2.2.2.2.2.2.2.2.2.2.2.2.2.2.2.2.2.2.2.2.2.2.2.2.1, z.2.2.2.2.2.2.2.2.2.2.2.2.2.2.2.2.2.2.2.2.2.2.2.2.2.2.2.2.2.1, z.2.2.2.2.2.2.2.2.2.2.2.2.2.2.2.2.2.2.2.2.2.2.2.2.2.2.2.2.2.2)
def M_set_gas (z : MS) (y : Int32) : MS := (z.1, z.2.1, z.2.2.1, z.2.2.2.1, z.2.2.2.2.1, z.2.2.2.2.2.1, z.2.2.2.2.2.2.1, z.2.2.2.2.2.2.2.1, z.2.2.2.2.2.2.2.2.1, z.2.2.2.2.2.2.2.2.2.1, z.2.2.2.2.2.2.2.2.2.2.1, z.2.2.2.2.2.2.2.2.2.2.2.1, y, z.2.2.2.2.2.2.2.2.2.2.2.2.2.1, z.2.2.2.2.2.2.2.2.2.2.2.2.2.2.1, z.2.2.2.2.2.2.2.2.2.2.2.2.2.2.2.1, z.2.2.2.2.2.2.2.2.2.2.2.2.2.2.2.2.1, z.2.2.2.2.2.2.2.2.2.2.2.2.2.2.2.2.2.1, z.2.2.2.2.2.2.2.2.2.2.2.2.2.2.2.2.2.2.1, z.2.2.2.2.2.2.2.2.2.2.2.2.2.2.2.2.2.2.2.1, z.2.2.2.2.2.2.2.2.2.2.2.2.2.2.2.2.2.2.2.2.1, z.2.2.2.2.2.2.2.2.2.2.2.2.2.2.2.2.2.2.2.2.2.1, z.2.2.2.2.2.2.2.2.2.2.2.2.2.2.2.2.2.2.2.2.2.2.1, z.2.2.2.2.2.2.2.2.2.2.2.2.2.2.2.2.2.2.2.2.2.2.2.1, z.2.2.2.2.2.2.2.2.2.2.2.2.2.2.2.2.2.2.2.2.2.2.2.2.1, z.2.2.2.2.2.2.2.2.2.2.2.2.2.2.2.2.2.2.2.2.2.2.2.2.2.1, z.2.2.2.2.2.2.2.2.2.2.2.2.2.2.2.2.2.2.2.2.2.2.2.2.2.2.1, z.2.2.2.2.2.2.2.2.2.2.2.2.2.2.2.2.2.2.2.2.2.2.2.2.2.2.2.1, z.2.2.2.2.2.2.2.2.2.2.2.2.2.2.2.2.2.2.2.2.2.2.2.2.2.2.2.2.1, z.2.2.2.2.2.2.2.2.2.2.2.2.2.2.2.2.2.2.2.2.2.2.2.2.2.2.2.2.2.1, z.2.2.2.2.2.2.2.2.2.2.2.2.2.2.2.2.2.2.2.2.2.2.2.2.2.2.2.2.2.2)
def M_set_liquid (z : MS) (y : Int32) : MS := (z.1, z.2.1, z.2.2.1, z.2.2.2.1, z.2.2.2.2.1, z.2.2.2.2.2.1, z.2.2.2.2.2.2.1, z.2.2.2.2.2.2.2.1, z.2.2.2.2.2.2.2.2.1, z.2.2.2.2.2.2.2.2.2.1, z.2.2.2.2.2.2.2.2.2.2.1, z.2.2.2.2.2.2.2.2.2.2.2.1, z.2.2.2.2.2.2.2.2.2.2.2.2.1, y, z.2.2.2.2.2.2.2.2.2.2.2.2.2.2.1, z.2.2.2.2.2.2.2.2.2.2.2.2.2.2.2.1, z.2.2.2.2.2.2.2.2.2.2.2.2.2.2.2.2.1, z.2.2.2.2.2.2.2.2.2.2.2.2.2.2.2.2.2.1, z.2.2.2.2.2.2.2.2.2.2.2.2.2.2.2.2.2.2.1, z.2.2.2.2.2.2.2.2.2.2.2.2.2.2.2.2.2.2.2.1, z.2.2.2.2.2.2.2.2.2.2.2.2.2.2.2.2.2.2.2.2.1, z.2.2.2.2.2.2.2.2.2.2.2.2.2.2.2.2.2.2.2.2.2.1, z.2.2.2.2.2.2.2.2.2.2.2.2.2.2.2.2.2.2.2.2.2.2.1, z.2.2.2.2.2.2.2.2.2.2.2.2.2.2.2.2.2.2.2.2.2.2.2.1, z.2.2.2.2.2.2.2.2.2.2.2.2.2.2.2.2.2.2.2.2.2.2.2.2.1, z.2.2.2.2.2.2.2.2.2.2.2.2.2.2.2.2.2.2.2.2.2.2.2.2.2.1, z.2.2.2.2.2.2.2.2.2.2.2.2.2.2.2.2.2.2.2.2.2.2.2.2.2.2.1, z.2.2.2.2.2.2.2.2.2.2.2.2.2.2.2.2.2.2.2.2.2.2.2.2.2.2.2.1, z.2.2.2.2.2.2.2.2.2.2.2.2.2.2.2.2.2.2.2.2.2.2.2.2.2.2.2.2.1, z.2.2.2.2.2.2.2.2.2.2.2.2.2.2.2.2.2.2.2.2.2.2.2.2.2.2.2.2.2.1, z.2.2.2.2.2.2.2.2.2.2.2.2.2.2.2.2.2.2.2.2.2.2.2.2.2.2.2.2.2.2)
def M_set_minutes (z : MS) (y : Int32) : MS := (z.1, z.2.1, z.2.2.1, z.2.2.2.1, z.2.2.2.2.1, z.2.2.2.2.2.1, z.2.2.2.2.2.2.1, z.2.2.2.2.2.2.2.1, z.2.2.2.2.2.2.2.2.1, z.2.2.2.2.2.2.2.2.2.1, z.2.2.2.2.2.2.2.2.2.2.1, z.2.2.2.2.2.2.2.2.2.2.2.1, z.2.2.2.2.2.2.2.2.2.2.2.2.1, z.2.2.2.2.2.2.2.2.2.2.2.2.2.1, y, z.2.2.2.2.2.2.2.2.2.2.2.2.2.2.2.1, z.2.2.2.2.2.2.2.2.2.2.2.2.2.2.2.2.1, z.2.2.2.2.2.2.2.2.2.2.2.2.2.2.2.2.2.1, z.2.2.2.2.2.2.2.2.2.2.2.2.2.2.2.2.2.2.1, z.2.2.2.2.2.2.2.2.2.2.2.2.2.2.2.2.2.2.2.1, z.2.2.2.2.2.2.2.2.2.2.2.2.2.2.2.2.2.2.2.2.1, z.2.2.2.2.2.2.2.2.2.2.2.2.2.2.2.2.2.2.2.2.2.1, z.2.2.2.2.2.2.2.2.2.2.2.2.2.2.2.2.2.2.2.2.2.2.1, z.2.2.2.2.2.2.2.2.2.2.2.2.2.2.2.2.2.2.2.2.2.2.2.1, z.2.2.2.2.2.2.2.2.2.2.2.2.2.2.2.2.2.2.2.2.2.2.2.2.1, z.2.2.2.2.2.2.2.2.2.2.2.2.2.2.2.2.2.2.2.2.2.2.2.2.2.1, z.2.2.2.2.2.2.2.2.2.2.2.2.2.2.2.2.2.2.2.2.2.2.2.2.2.2.1, z.2.2.2.2.2.2.2.2.2.2.2.2.2.2.2.2.2.2.2.2.2.2.2.2.2.2.2.1, z.2.2.2.2.2.2.2.2.2.2.2.2.2.2.2.2.2.2.2.2.2.2.2.2.2.2.2.2.1, z.2.2.2.2.2.2.2.2.2.2.2.2.2.2.2.2.2.2.2.2.2.2.2.2.2.2.2.2.2.1, z.2.2.2.2.2.2.2.2.2.2.2.2.2.2.2.2.2.2.2.2.2.2.2.2.2.2.2.2.2.2)
def M_set_vented (z : MS) (y : Int64) : MS := (z.1, z.2.1, z.2.2.1, z.2.2.2.1, z.2.2.2.2.1, z.2.2.2.2.2.1, z.2.2.2.2.2.2.1, z.2.2.2.2.2.2.2.1, z.2.2.2.2.2.2.2.2.1, z.2.2.2.2.2.2.2.2.2.1, z.2.2.2.2.2.2.2.2.2.2.1, z.2.2.2.2.2.2.2.2.2.2.2.1, z.2.2.2.2.2.2.2.2.2.2.2.2.1, z.2.2.2.2.2.2.2.2.2.2.2.2.2.1, z.2.2.2.2.2.2.2.2.2.2.2.2.2.2.1, y, z.2.2.2.2.2.2.2.2.2.2.2.2.2.2.2.2.1, z.2.2.2.2.2.2.2.2.2.2.2.2.2.2.2.2.2.1, z.2.2.2.2.2.2.2.2.2.2.2.2.2.2.2.2.2.2.1, z.2.2.2.2.2.2.2.2.2.2.2.2.2.2.2.2.2.2.2.1, z.2.2.2.2.2.2.2.2.2.2.2.2.2.2.2.2.2.2.2.2.1, z.2.2.2.2.2.2.2.2.2.2.2.2.2.2.2.2.2.2.2.2.2.1, z.2.2.2.2.2.2.2.2.2.2.2.2.2.2.2.2.2.2.2.2.2.2.1, z.2.2.2.2.2.2.2.2.2.2.2.2.2.2.2.2.2.2.2.2.2.2.2.1, z.2.2.2.2.2.2.2.2.2.2.2.2.2.2.2.2.2.2.2.2.2.2.2.2.1, z.2.2.2.2.2.2.2.2.2.2.2.2.2.2.2.2.2.2.2.2.2.2.2.2.2.1, z.2.2.2.2.2.2.2.2.2.2.2.2.2.2.2.2.2.2.2.2.2.2.2.2.2.2.1, z.2.2.2.2.2.2.2.2.2.2.2.2.2.2.2.2.2.2.2.2.2.2.2.2.2.2.2.1, z.2.2.2.2.2.2.2.2.2.2.2.2.2.2.2.2.2.2.2.2.2.2.2.2.2.2.2.2.1, z.2.2.2.2.2.2.2.2.2.2.2.2.2.2.2.2.2.2.2.2.2.2.2.2.2.2.2.2.2.1, z.2.2.2.2.2.2.2.2.2.2.2.2.2.2.2.2.2.2.2.2.2.2.2.2.2.2.2.2.2.2)
def M_set_lost (z : MS) (y : Int64) : MS := (z.1, z.2.1, z.2.2.1, z.2.2.2.1, z.2.2.2.2.1, z.2.2.2.2.2.1, z.2.2.2.2.2.2.1, z.2.2.2.2.2.2.2.1, z.2.2.2.2.2.2.2.2.1, z.2.2.2.2.2.2.2.2.2.1, z.2.2.2.2.2.2.2.2.2.2.1, z.2.2.2.2.2.2.2.2.2.2.2.1, z.2.2.2.2.2.2.2.2.2.2.2.2.1, z.2.2.2.2.2.2.2.2.2.2.2.2.2.1, z.2.2.2.2.2.2.2.2.2.2.2.2.2.2.1, z.2.2.2.2.2.2.2.2.2.2.2.2.2.2.2.1, y, z.2.2.2.2.2.2.2.2.2.2.2.2.2.2.2.2.2.1, z.2.2.2.2.2.2.2.2.2.2.2.2.2.2.2.2.2.2.1, z.2.2.2.2.2.2.2.2.2.2.2.2.2.2.2.2.2.2.2.1, z.2.2.2.2.2.2.2.2.2.2.2.2.2.2.2.2.2.2.2.2.1, z.2.2.2.2.2.2.2.2.2.2.2.2.2.2.2.2.2.2.2.2.2.1, z.2.2.2.2.2.2.2.2.2.2.2.2.2.2.2.2.2.2.2.2.2.2.1, z.2.2.2.2.2.2.2.2.2.2.2.2.2.2.2.2.2.2.2.2.2.2.2.1, z.2.2.2.2.2.2.2.2.2.2.2.2.2.2.2.2.2.2.2.2.2.2.2.2.1, z.2.2.2.2.2.2.2.2.2.2.2.2.2.2.2.2.2.2.2.2.2.2.2.2.2.1, z.2.2.2.2.2.2.2.2.2.2.2.2.2.2.2.2.2.2.2.2.2.2.2.2.2.2.1, z.2.2.2.2.2.2.2.2.2.2.2.2.2.2.2.2.2.2.2.2.2.2.2.2.2.2.2.1, z.2.2.2.2.2.2.2.2.2.2.2.2.2.2.2.2.2.2.2.2.2.2.2.2.2.2.2.2.1, z.2.2.2.2.2.2.2.2.2.2.2.2.2.2.2.2.2.2.2.2.2.2.2.2.2.2.2.2.2.1, z.2.2.2.2.2.2.2.2.2.2.2.2.2.2.2.2.2.2.2.2.2.2.2.2.2.2.2.2.2.2)
def M_set_pumped (z : MS) (y : Int32) : MS := (z.1, z.2.1, z.2.2.1, z.2.2.2.1, z.2.2.2.2.1, z.2.2.2.2.2.1, z.2.2.2.2.2.2.1, z.2.2.2.2.2.2.2.1, z.2.2.2.2.2.2.2.2.1, z.2.2.2.2.2.2.2.2.2.1, z.2.2.2.2.2.2.2.2.2.2.1, z.2.2.2.2.2.2.2.2.2.2.2.1, z.2.2.2.2.2.2.2.2.2.2.2.2.1, z.2.2.2.2.2.2.2.2.2.2.2.2.2.1, z.2.2.2.2.2.2.2.2.2.2.2.2.2.2.1, z.2.2.2.2.2.2.2.2.2.2.2.2.2.2.2.1, z.2.2.2.2.2.2.2.2.2.2.2.2.2.2.2.2.1, y, z.2.2.2.2.2.2.2.2.2.2.2.2.2.2.2.2.2.2.1, z.2.2.2.2.2.2.2.2.2.2.2.2.2.2.2.2.2.2.2.1, z.2.2.2.2.2.2.2.2.2.2.2.2.2.2.2.2.2.2.2.2.1, z.2.2.2.2.2.2.2.2.2.2.2.2.2.2.2.2.2.2.2.2.2.1, z.2.2.2.2.2.2.2.2.2.2.2.2.2.2.2.2.2.2.2.2.2.2.1, z.2.2.2.2.2.2.2.2.2.2.2.2.2.2.2.2.2.2.2.2.2.2.2.1, z.2.2.2.2.2.2.2.2.2.2.2.2.2.2.2.2.2.2.2.2.2.2.2.2.1, z.2.2.2.2.2.2.2.2.2.2.2.2.2.2.2.2.2.2.2.2.2.2.2.2.2.1, z.2.2.2.2.2.2.2.2.2.2.2.2.2.2.2.2.2.2.2.2.2.2.2.2.2.2.1, z.2.2.2.2.2.2.2.2.2.2.2.2.2.2.2.2.2.2.2.2.2.2.2.2.2.2.2.1, z.2.2.2.2.2.2.2.2.2.2.2.2.2.2.2.2.2.2.2.2.2.2.2.2.2.2.2.2.1, z.2.2.2.2.2.2.2.2.2.2.2.2.2.2.2.2.2.2.2.2.2.2.2.2.2.2.2.2.2.1, z.2.2.2.2.2.2.2.2.2.2.2.2.2.2.2.2.2.2.2.2.2.2.2.2.2.2.2.2.2.2)
def M_set_pumpedWeight (z : MS) (y : Int32) : MS := (z.1, z.2.1, z.2.2.1, z.2.2.2.1, z.2.2.2.2.1, z.2.2.2.2.2.1, z.2.2.2.2.2.2.1, z.2.2.2.2.2.2.2.1, z.2.2.2.2.2.2.2.2.1, z.2.2.2.2.2.2.2.2.2.1, z.2.2.2.2.2.2.2.2.2.2.1, z.2.2.2.2.2.2.2.2.2.2.2.1, z.2.2.2.2.2.2.2.2.2.2.2.2.1, z.2.2.2.2.2.2.2.2.2.2.2.2.2.1, z.2.2.2.2.2.2.2.2.2.2.2.2.2.2.1, z.2.2.2.2.2.2.2.2.2.2.2.2.2.2.2.1, z.2.2.2.2.2.2.2.2.2.2.2.2.2.2.2.2.1, z.2.2.2.2.2.2.2.2.2.2.2.2.2.2.2.2.2.1, y, z.2.2.2.2.2.2.2.2.2.2.2.2.2.2.2.2.2.2.2.1, z.2.2.2.2.2.2.2.2.2.2.2.2.2.2.2.2.2.2.2.2.1, z.2.2.2.2.2.2.2.2.2.2.2.2.2.2.2.2.2.2.2.2.2.1, z.2.2.2.2.2.2.2.2.2.2.2.2.2.2.2.2.2.2.2.2.2.2.1, z.2.2.2.2.2.2.2.2.2.2.2.2.2.2.2.2.2.2.2.2.2.2.2.1, z.2.2.2.2.2.2.2.2.2.2.2.2.2.2.2.2.2.2.2.2.2.2.2.2.1, z.2.2.2.2.2.2.2.2.2.2.2.2.2.2.2.2.2.2.2.2.2.2.2.2.2.1, z.2.2.2.2.2.2.2.2.2.2.2.2.2.2.2.2.2.2.2.2.2.2.2.2.2.2.1, z.2.2.2.2.2.2.2.2.2.2.2.2.2.2.2.2.2.2.2.2.2.2.2.2.2.2.2.1, z.2.2.2.2.2.2.2.2.2.2.2.2.2.2.2.2.2.2.2.2.2.2.2.2.2.2.2.2.1, z.2.2.2.2.2.2.2.2.2.2.2.2.2.2.2.2.2.2.2.2.2.2.2.2.2.2.2.2.2.1, z.2.2.2.2.2.2.2.2.2.2.2.2.2.2.2.2.2.2.2.2.2.2.2.2.2.2.2.2.2.2)
def M_set_valve (z : MS) (y : Int32) : MS := (z.1, z.2.1, z.2.2.1, z.2.2.2.1, z.2.2.2.2.1, z.2.2.2.2.2.1, z.2.2.2.2.2.2.1, z.2.2.2.2.2.2.2.1, z.2.2.2.2.2.2.2.2.1, z.2.2.2.2.2.2.2.2.2.1, z.2.2.2.2.2.2.2.2.2.2.1, z.2.2.2.2.2.2.2.2.2.2.2.1, z.2.2.2.2.2.2.2.2.2.2.2.2.1, z.2.2.2.2.2.2.2.2.2.2.2.2.2.1, z.2.2.2.2.2.2.2.2.2.2.2.2.2.2.1, z.2.2.2.2.2.2.2.2.2.2.2.2.2.2.2.1, z.2.2.2.2.2.2.2.2.2.2.2.2.2.2.2.2.1, z.2.2.2.2.2.2.2.2.2.2.2.2.2.2.2.2.2.1, z.2.2.2.2.2.2.2.2.2.2.2.2.2.2.2.2.2.2.1, y, z.2.2.2.2.2.2.2.2.2.2.2.2.2.2.2.2.2.2.2.2.1, z.2.2.2.2.2.2.2.2.2.2.2.2.2.2.2.2.2.2.2.2.2.1, z.2.2.2.2.2.2.2.2.2.2.2.2.2.2.2.2.2.2.2.2.2.2.1, z.2.2.2.2.2.2.2.2.2.2.2.2.2.2.2.2.2.2.2.2.2.2.2.1, z.2.2.2.2.2.2.2.2.2.2.2.2.2.2.2.2.2.2.2.2.2.2.2.2.1, z.2.2.2.2.2.2.2.2.2.2.2.2.2.2.2.2.2.2.2.2.2.2.2.2.2.1, z.2.2.2.2.2.2.2.2.2.2.2.2.2.2.2.2.2.2.2.2.2.2.2.2.2.2.1, z.2.2.2.2.2.2.2.2.2.2.2.2.2.2.2.2.2.2.2.2.2.2.2.2.2.2.2.1, z.2.2.2.2.2.2.2.2.2.2.2.2.2.2.2.2.2.2.2.2.2.2.2.2.2.2.2.2.1, z.2.2.2.2.2.2.2.2.2.2.2.2.2.2.2.2.2.2.2.2.2.2.2.2.2.2.2.2.2.1, z.2.2.2.2.2.2.2.2.2.2.2.2.2.2.2.2.2.2.2.2.2.2.2.2.2.2.2.2.2.2)
def M_set_brokenAfter (z : MS) (y : Int32) : MS := (z.1, z.2.1, z.2.2.1, z.2.2.2.1, z.2.2.2.2.1, z.2.2.2.2.2.1, z.2.2.2.2.2.2.1, z.2.2.2.2.2.2.2.1, z.2.2.2.2.2.2.2.2.1, z.2.2.2.2.2.2.2.2.2.1, z.2.2.2.2.2.2.2.2.2.2.1, z.2.2.2.2.2.2.2.2.2.2.2.1, z.2.2.2.2.2.2.2.2.2.2.2.2.1, z.2.2.2.2.2.2.2.2.2.2.2.2.2.1, z.2.2.2.2.2.2.2.2.2.2.2.2.2.2.1, z.2.2.2.2.2.2.2.2.2.2.2.2.2.2.2.1, z.2.2.2.2.2.2.2.2.2.2.2.2.2.2.2.2.1, z.2.2.2.2.2.2.2.2.2.2.2.2.2.2.2.2.2.1, z.2.2.2.2.2.2.2.2.2.2.2.2.2.2.2.2.2.2.1, z.2.2.2.2.2.2.2.2.2.2.2.2.2.2.2.2.2.2.2.1, y, z.2.2.2.2.2.2.2.2.2.2.2.2.2.2.2.2.2.2.2.2.2.1, z.2.2.2.2.2.2.2.2.2.2.2.2.2.2.2.2.2.2.2.2.2.2.1, z.2.2.2.2.2.2.2.2.2.2.2.2.2.2.2.2.2.2.2.2.2.2.2.1, z.2.2.2.2.2.2.2.2.2.2.2.2.2.2.2.2.2.2.2.2.2.2.2.2.1, z.2.2.2.2.2.2.2.2.2.2.2.2.2.2.2.2.2.2.2.2.2.2.2.2.2.1, z.2.2.2.2.2.2.2.2.2.2.2.2.2.2.2.2.2.2.2.2.2.2.2.2.2.2.1, z.2.2.2.2.2.2.2.2.2.2.2.2.2.2.2.2.2.2.2.2.2.2.2.2.2.2.2.1, z.2.2.2.2.2.2.2.2.2.2.2.2.2.2.2.2.2.2.2.2.2.2.2.2.2.2.2.2.1, z.2.2.2.2.2.2.2.2.2.2.2.2.2.2.2.2.2.2.2.2.2.2.2.2.2.2.2.2.2.1, z.2.2.2.2.2.2.2.2.2.2.2.2.2.2.2.2.2.2.2.2.2.2.2.2.2.2.2.2.2.2)
def M_set_cement (z : MS) (y : Int32) : MS := (z.1, z.2.1, z.2.2.1, z.2.2.2.1, z.2.2.2.2.1, z.2.2.2.2.2.1, z.2.2.2.2.2.2.1, z.2.2.2.2.2.2.2.1, z.2.2.2.2.2.2.2.2.1, z.2.2.2.2.2.2.2.2.2.1, z.2.2.2.2.2.2.2.2.2.2.1, z.2.2.2.2.2.2.2.2.2.2.2.1, z.2.2.2.2.2.2.2.2.2.2.2.2.1, z.2.2.2.2.2.2.2.2.2.2.2.2.2.1, z.2.2.2.2.2.2.2.2.2.2.2.2.2.2.1, z.2.2.2.2.2.2.2.2.2.2.2.2.2.2.2.1, z.2.2.2.2.2.2.2.2.2.2.2.2.2.2.2.2.1, z.2.2.2.2.2.2.2.2.2.2.2.2.2.2.2.2.2.1, z.2.2.2.2.2.2.2.2.2.2.2.2.2.2.2.2.2.2.1, z.2.2.2.2.2.2.2.2.2.2.2.2.2.2.2.2.2.2.2.1, z.2.2.2.2.2.2.2.2.2.2.2.2.2.2.2.2.2.2.2.2.1, y, z.2.2.2.2.2.2.2.2.2.2.2.2.2.2.2.2.2.2.2.2.2.2.1, z.2.2.2.2.2.2.2.2.2.2.2.2.2.2.2.2.2.2.2.2.2.2.2.1, z.2.2.2.2.2.2.2.2.2.2.2.2.2.2.2.2.2.2.2.2.2.2.2.2.1, z.2.2.2.2.2.2.2.2.2.2.2.2.2.2.2.2.2.2.2.2.2.2.2.2.2.1, z.2.2.2.2.2.2.2.2.2.2.2.2.2.2.2.2.2.2.2.2.2.2.2.2.2.2.1, z.2.2.2.2.2.2.2.2.2.2.2.2.2.2.2.2.2.2.2.2.2.2.2.2.2.2.2.1, z.2.2.2.2.2.2.2.2.2.2.2.2.2.2.2.2.2.2.2.2.2.2.2.2.2.2.2.2.1, z.2.2.2.2.2.2.2.2.2.2.2.2.2.2.2.2.2.2.2.2.2.2.2.2.2.2.2.2.2.1, z.2.2.2.2.2.2.2.2.2.2.2.2.2.2.2.2.2.2.2.2.2.2.2.2.2.2.2.2.2.2)
def M_set_casedAfter (z : MS) (y : Int32) : MS := (z.1, z.2.1, z.2.2.1, z.2.2.2.1, z.2.2.2.2.1, z.2.2.2.2.2.1, z.2.2.2.2.2.2.1, z.2.2.2.2.2.2.2.1, z.2.2.2.2.2.2.2.2.1, z.2.2.2.2.2.2.2.2.2.1, z.2.2.2.2.2.2.2.2.2.2.1, z.2.2.2.2.2.2.2.2.2.2.2.1, z.2.2.2.2.2.2.2.2.2.2.2.2.1, z.2.2.2.2.2.2.2.2.2.2.2.2.2.1, z.2.2.2.2.2.2.2.2.2.2.2.2.2.2.1, z.2.2.2.2.2.2.2.2.2.2.2.2.2.2.2.1, z.2.2.2.2.2.2.2.2.2.2.2.2.2.2.2.2.1, z.2.2.2.2.2.2.2.2.2.2.2.2.2.2.2.2.2.1, z.2.2.2.2.2.2.2.2.2.2.2.2.2.2.2.2.2.2.1, z.2.2.2.2.2.2.2.2.2.2.2.2.2.2.2.2.2.2.2.1, z.2.2.2.2.2.2.2.2.2.2.2.2.2.2.2.2.2.2.2.2.1, z.2.2.2.2.2.2.2.2.2.2.2.2.2.2.2.2.2.2.2.2.2.1, y, z.2.2.2.2.2.2.2.2.2.2.2.2.2.2.2.2.2.2.2.2.2.2.2.1, z.2.2.2.2.2.2.2.2.2.2.2.2.2.2.2.2.2.2.2.2.2.2.2.2.1, z.2.2.2.2.2.2.2.2.2.2.2.2.2.2.2.2.2.2.2.2.2.2.2.2.2.1, z.2.2.2.2.2.2.2.2.2.2.2.2.2.2.2.2.2.2.2.2.2.2.2.2.2.2.1, z.2.2.2.2.2.2.2.2.2.2.2.2.2.2.2.2.2.2.2.2.2.2.2.2.2.2.2.1, z.2.2.2.2.2.2.2.2.2.2.2.2.2.2.2.2.2.2.2.2.2.2.2.2.2.2.2.2.1, z.2.2.2.2.2.2.2.2.2.2.2.2.2.2.2.2.2.2.2.2.2.2.2.2.2.2.2.2.2.1, z.2.2.2.2.2.2.2.2.2.2.2.2.2.2.2.2.2.2.2.2.2.2.2.2.2.2.2.2.2.2)
def M_set_flowed (z : MS) (y : Int32) : MS := (z.1, z.2.1, z.2.2.1, z.2.2.2.1, z.2.2.2.2.1, z.2.2.2.2.2.1, z.2.2.2.2.2.2.1, z.2.2.2.2.2.2.2.1, z.2.2.2.2.2.2.2.2.1, z.2.2.2.2.2.2.2.2.2.1, z.2.2.2.2.2.2.2.2.2.2.1, z.2.2.2.2.2.2.2.2.2.2.2.1, z.2.2.2.2.2.2.2.2.2.2.2.2.1, z.2.2.2.2.2.2.2.2.2.2.2.2.2.1, z.2.2.2.2.2.2.2.2.2.2.2.2.2.2.1, z.2.2.2.2.2.2.2.2.2.2.2.2.2.2.2.1, z.2.2.2.2.2.2.2.2.2.2.2.2.2.2.2.2.1, z.2.2.2.2.2.2.2.2.2.2.2.2.2.2.2.2.2.1, z.2.2.2.2.2.2.2.2.2.2.2.2.2.2.2.2.2.2.1, z.2.2.2.2.2.2.2.2.2.2.2.2.2.2.2.2.2.2.2.1, z.2.2.2.2.2.2.2.2.2.2.2.2.2.2.2.2.2.2.2.2.1, z.2.2.2.2.2.2.2.2.2.2.2.2.2.2.2.2.2.2.2.2.2.1, z.2.2.2.2.2.2.2.2.2.2.2.2.2.2.2.2.2.2.2.2.2.2.1, y, z.2.2.2.2.2.2.2.2.2.2.2.2.2.2.2.2.2.2.2.2.2.2.2.2.1, z.2.2.2.2.2.2.2.2.2.2.2.2.2.2.2.2.2.2.2.2.2.2.2.2.2.1, z.2.2.2.2.2.2.2.2.2.2.2.2.2.2.2.2.2.2.2.2.2.2.2.2.2.2.1, z.2.2.2.2.2.2.2.2.2.2.2.2.2.2.2.2.2.2.2.2.2.2.2.2.2.2.2.1, z.2.2.2.2.2.2.2.2.2.2.2.2.2.2.2.2.2.2.2.2.2.2.2.2.2.2.2.2.1, z.2.2.2.2.2.2.2.2.2.2.2.2.2.2.2.2.2.2.2.2.2.2.2.2.2.2.2.2.2.1, z.2.2.2.2.2.2.2.2.2.2.2.2.2.2.2.2.2.2.2.2.2.2.2.2.2.2.2.2.2.2)
def M_set_kept (z : MS) (y : (Nat → Int64)) : MS := (z.1, z.2.1, z.2.2.1, z.2.2.2.1, z.2.2.2.2.1, z.2.2.2.2.2.1, z.2.2.2.2.2.2.1, z.2.2.2.2.2.2.2.1, z.2.2.2.2.2.2.2.2.1, z.2.2.2.2.2.2.2.2.2.1, z.2.2.2.2.2.2.2.2.2.2.1, z.2.2.2.2.2.2.2.2.2.2.2.1, z.2.2.2.2.2.2.2.2.2.2.2.2.1, z.2.2.2.2.2.2.2.2.2.2.2.2.2.1, z.2.2.2.2.2.2.2.2.2.2.2.2.2.2.1, z.2.2.2.2.2.2.2.2.2.2.2.2.2.2.2.1, z.2.2.2.2.2.2.2.2.2.2.2.2.2.2.2.2.1, z.2.2.2.2.2.2.2.2.2.2.2.2.2.2.2.2.2.1, z.2.2.2.2.2.2.2.2.2.2.2.2.2.2.2.2.2.2.1, z.2.2.2.2.2.2.2.2.2.2.2.2.2.2.2.2.2.2.2.1, z.2.2.2.2.2.2.2.2.2.2.2.2.2.2.2.2.2.2.2.2.1, z.2.2.2.2.2.2.2.2.2.2.2.2.2.2.2.2.2.2.2.2.2.1, z.2.2.2.2.2.2.2.2.2.2.2.2.2.2.2.2.2.2.2.2.2.2.1, z.2.2.2.2.2.2.2.2.2.2.2.2.2.2.2.2.2.2.2.2.2.2.2.1, y, z.2.2.2.2.2.2.2.2.2.2.2.2.2.2.2.2.2.2.2.2.2.2.2.2.2.1, z.2.2.2.2.2.2.2.2.2.2.2.2.2.2.2.2.2.2.2.2.2.2.2.2.2.2.1, z.2.2.2.2.2.2.2.2.2.2.2.2.2.2.2.2.2.2.2.2.2.2.2.2.2.2.2.1, z.2.2.2.2.2.2.2.2.2.2.2.2.2.2.2.2.2.2.2.2.2.2.2.2.2.2.2.2.1, z.2.2.2.2.2.2.2.2.2.2.2.2.2.2.2.2.2.2.2.2.2.2.2.2.2.2.2.2.2.1, z.2.2.2.2.2.2.2.2.2.2.2.2.2.2.2.2.2.2.2.2.2.2.2.2.2.2.2.2.2.2)
def M_set_tests (z : MS) (y : Int32) : MS := (z.1, z.2.1, z.2.2.1, z.2.2.2.1, z.2.2.2.2.1, z.2.2.2.2.2.1, z.2.2.2.2.2.2.1, z.2.2.2.2.2.2.2.1, z.2.2.2.2.2.2.2.2.1, z.2.2.2.2.2.2.2.2.2.1, z.2.2.2.2.2.2.2.2.2.2.1, z.2.2.2.2.2.2.2.2.2.2.2.1, z.2.2.2.2.2.2.2.2.2.2.2.2.1, z.2.2.2.2.2.2.2.2.2.2.2.2.2.1, z.2.2.2.2.2.2.2.2.2.2.2.2.2.2.1, z.2.2.2.2.2.2.2.2.2.2.2.2.2.2.2.1, z.2.2.2.2.2.2.2.2.2.2.2.2.2.2.2.2.1, z.2.2.2.2.2.2.2.2.2.2.2.2.2.2.2.2.2.1, z.2.2.2.2.2.2.2.2.2.2.2.2.2.2.2.2.2.2.1, z.2.2.2.2.2.2.2.2.2.2.2.2.2.2.2.2.2.2.2.1, z.2.2.2.2.2.2.2.2.2.2.2.2.2.2.2.2.2.2.2.2.1, z.2.2.2.2.2.2.2.2.2.2.2.2.2.2.2.2.2.2.2.2.2.1, z.2.2.2.2.2.2.2.2.2.2.2.2.2.2.2.2.2.2.2.2.2.2.1, z.2.2.2.2.2.2.2.2.2.2.2.2.2.2.2.2.2.2.2.2.2.2.2.1, z.2.2.2.2.2.2.2.2.2.2.2.2.2.2.2.2.2.2.2.2.2.2.2.2.1, y, z.2.2.2.2.2.2.2.2.2.2.2.2.2.2.2.2.2.2.2.2.2.2.2.2.2.2.1, z.2.2.2.2.2.2.2.2.2.2.2.2.2.2.2.2.2.2.2.2.2.2.2.2.2.2.2.1, z.2.2.2.2.2.2.2.2.2.2.2.2.2.2.2.2.2.2.2.2.2.2.2.2.2.2.2.2.1, z.2.2.2.2.2.2.2.2.2.2.2.2.2.2.2.2.2.2.2.2.2.2.2.2.2.2.2.2.2.1, z.2.2.2.2.2.2.2.2.2.2.2.2.2.2.2.2.2.2.2.2.2.2.2.2.2.2.2.2.2.2)
def M_set_tested (z : MS) (y : (Nat → Int32)) : MS := (z.1, z.2.1, z.2.2.1, z.2.2.2.1, z.2.2.2.2.1, z.2.2.2.2.2.1, z.2.2.2.2.2.2.1, z.2.2.2.2.2.2.2.1, z.2.2.2.2.2.2.2.2.1, z.2.2.2.2.2.2.2.2.2.1, z.2.2.2.2.2.2.2.2.2.2.1, z.2.2.2.2.2.2.2.2.2.2.2.1, z.2.2.2.2.2.2.2.2.2.2.2.2.1, z.2.2.2.2.2.2.2.2.2.2.2.2.2.1, z.2.2.2.2.2.2.2.2.2.2.2.2.2.2.1, z.2.2.2.2.2.2.2.2.2.2.2.2.2.2.2.1, z.2.2.2.2.2.2.2.2.2.2.2.2.2.2.2.2.1, z.2.2.2.2.2.2.2.2.2.2.2.2.2.2.2.2.2.1, z.2.2.2.2.2.2.2.2.2.2.2.2.2.2.2.2.2.2.1, z.2.2.2.2.2.2.2.2.2.2.2.2.2.2.2.2.2.2.2.1, z.2.2.2.2.2.2.2.2.2.2.2.2.2.2.2.2.2.2.2.2.1, z.2.2.2.2.2.2.2.2.2.2.2.2.2.2.2.2.2.2.2.2.2.1, z.2.2.2.2.2.2.2.2.2.2.2.2.2.2.2.2.2.2.2.2.2.2.1, z.2.2.2.2.2.2.2.2.2.2.2.2.2.2.2.2.2.2.2.2.2.2.2.1, z.2.2.2.2.2.2.2.2.2.2.2.2.2.2.2.2.2.2.2.2.2.2.2.2.1, z.2.2.2.2.2.2.2.2.2.2.2.2.2.2.2.2.2.2.2.2.2.2.2.2.2.1, y, z.2.2.2.2.2.2.2.2.2.2.2.2.2.2.2.2.2.2.2.2.2.2.2.2.2.2.2.1, z.2.2.2.2.2.2.2.2.2.2.2.2.2.2.2.2.2.2.2.2.2.2.2.2.2.2.2.2.1, z.2.2.2.2.2.2.2.2.2.2.2.2.2.2.2.2.2.2.2.2.2.2.2.2.2.2.2.2.2.1, z.2.2.2.2.2.2.2.2.2.2.2.2.2.2.2.2.2.2.2.2.2.2.2.2.2.2.2.2.2.2)
def M_set_by (z : MS) (y : (Nat → Int32)) : MS := (z.1, z.2.1, z.2.2.1, z.2.2.2.1, z.2.2.2.2.1, z.2.2.2.2.2.1, z.2.2.2.2.2.2.1, z.2.2.2.2.2.2.2.1, z.2.2.2.2.2.2.2.2.1, z.2.2.2.2.2.2.2.2.2.1, z.2.2.2.2.2.2.2.2.2.2.1, z.2.2.2.2.2.2.2.2.2.2.2.1, z.2.2.2.2.2.2.2.2.2.2.2.2.1, z.2.2.2.2.2.2.2.2.2.2.2.2.2.1, z.2.2.2.2.2.2.2.2.2.2.2.2.2.2.1, z.2.2.2.2.2.2.2.2.2.2.2.2.2.2.2.1, z.2.2.2.2.2.2.2.2.2.2.2.2.2.2.2.2.1, z.2.2.2.2.2.2.2.2.2.2.2.2.2.2.2.2.2.1, z.2.2.2.2.2.2.2.2.2.2.2.2.2.2.2.2.2.2.1, z.2.2.2.2.2.2.2.2.2.2.2.2.2.2.2.2.2.2.2.1, z.2.2.2.2.2.2.2.2.2.2.2.2.2.2.2.2.2.2.2.2.1, z.2.2.2.2.2.2.2.2.2.2.2.2.2.2.2.2.2.2.2.2.2.1, z.2.2.2.2.2.2.2.2.2.2.2.2.2.2.2.2.2.2.2.2.2.2.1, z.2.2.2.2.2.2.2.2.2.2.2.2.2.2.2.2.2.2.2.2.2.2.2.1, z.2.2.2.2.2.2.2.2.2.2.2.2.2.2.2.2.2.2.2.2.2.2.2.2.1, z.2.2.2.2.2.2.2.2.2.2.2.2.2.2.2.2.2.2.2.2.2.2.2.2.2.1, z.2.2.2.2.2.2.2.2.2.2.2.2.2.2.2.2.2.2.2.2.2.2.2.2.2.2.1, y, z.2.2.2.2.2.2.2.2.2.2.2.2.2.2.2.2.2.2.2.2.2.2.2.2.2.2.2.2.1, z.2.2.2.2.2.2.2.2.2.2.2.2.2.2.2.2.2.2.2.2.2.2.2.2.2.2.2.2.2.1, z.2.2.2.2.2.2.2.2.2.2.2.2.2.2.2.2.2.2.2.2.2.2.2.2.2.2.2.2.2.2)
def M_set_isPassed (z : MS) (y : (Nat → Int32)) : MS := (z.1, z.2.1, z.2.2.1, z.2.2.2.1, z.2.2.2.2.1, z.2.2.2.2.2.1, z.2.2.2.2.2.2.1, z.2.2.2.2.2.2.2.1, z.2.2.2.2.2.2.2.2.1, z.2.2.2.2.2.2.2.2.2.1, z.2.2.2.2.2.2.2.2.2.2.1, z.2.2.2.2.2.2.2.2.2.2.2.1, z.2.2.2.2.2.2.2.2.2.2.2.2.1, z.2.2.2.2.2.2.2.2.2.2.2.2.2.1, z.2.2.2.2.2.2.2.2.2.2.2.2.2.2.1, z.2.2.2.2.2.2.2.2.2.2.2.2.2.2.2.1, z.2.2.2.2.2.2.2.2.2.2.2.2.2.2.2.2.1, z.2.2.2.2.2.2.2.2.2.2.2.2.2.2.2.2.2.1, z.2.2.2.2.2.2.2.2.2.2.2.2.2.2.2.2.2.2.1, z.2.2.2.2.2.2.2.2.2.2.2.2.2.2.2.2.2.2.2.1, z.2.2.2.2.2.2.2.2.2.2.2.2.2.2.2.2.2.2.2.2.1, z.2.2.2.2.2.2.2.2.2.2.2.2.2.2.2.2.2.2.2.2.2.1, z.2.2.2.2.2.2.2.2.2.2.2.2.2.2.2.2.2.2.2.2.2.2.1, z.2.2.2.2.2.2.2.2.2.2.2.2.2.2.2.2.2.2.2.2.2.2.2.1, z.2.2.2.2.2.2.2.2.2.2.2.2.2.2.2.2.2.2.2.2.2.2.2.2.1, z.2.2.2.2.2.2.2.2.2.2.2.2.2.2.2.2.2.2.2.2.2.2.2.2.2.1, z.2.2.2.2.2.2.2.2.2.2.2.2.2.2.2.2.2.2.2.2.2.2.2.2.2.2.1, z.2.2.2.2.2.2.2.2.2.2.2.2.2.2.2.2.2.2.2.2.2.2.2.2.2.2.2.1, y, z.2.2.2.2.2.2.2.2.2.2.2.2.2.2.2.2.2.2.2.2.2.2.2.2.2.2.2.2.2.1, z.2.2.2.2.2.2.2.2.2.2.2.2.2.2.2.2.2.2.2.2.2.2.2.2.2.2.2.2.2.2)
def M_set_testedAt (z : MS) (y : (Nat → Int32)) : MS := (z.1, z.2.1, z.2.2.1, z.2.2.2.1, z.2.2.2.2.1, z.2.2.2.2.2.1, z.2.2.2.2.2.2.1, z.2.2.2.2.2.2.2.1, z.2.2.2.2.2.2.2.2.1, z.2.2.2.2.2.2.2.2.2.1, z.2.2.2.2.2.2.2.2.2.2.1, z.2.2.2.2.2.2.2.2.2.2.2.1, z.2.2.2.2.2.2.2.2.2.2.2.2.1, z.2.2.2.2.2.2.2.2.2.2.2.2.2.1, z.2.2.2.2.2.2.2.2.2.2.2.2.2.2.1, z.2.2.2.2.2.2.2.2.2.2.2.2.2.2.2.1, z.2.2.2.2.2.2.2.2.2.2.2.2.2.2.2.2.1, z.2.2.2.2.2.2.2.2.2.2.2.2.2.2.2.2.2.1, z.2.2.2.2.2.2.2.2.2.2.2.2.2.2.2.2.2.2.1, z.2.2.2.2.2.2.2.2.2.2.2.2.2.2.2.2.2.2.2.1, z.2.2.2.2.2.2.2.2.2.2.2.2.2.2.2.2.2.2.2.2.1, z.2.2.2.2.2.2.2.2.2.2.2.2.2.2.2.2.2.2.2.2.2.1, z.2.2.2.2.2.2.2.2.2.2.2.2.2.2.2.2.2.2.2.2.2.2.1, z.2.2.2.2.2.2.2.2.2.2.2.2.2.2.2.2.2.2.2.2.2.2.2.1, z.2.2.2.2.2.2.2.2.2.2.2.2.2.2.2.2.2.2.2.2.2.2.2.2.1, z.2.2.2.2.2.2.2.2.2.2.2.2.2.2.2.2.2.2.2.2.2.2.2.2.2.1, z.2.2.2.2.2.2.2.2.2.2.2.2.2.2.2.2.2.2.2.2.2.2.2.2.2.2.1, z.2.2.2.2.2.2.2.2.2.2.2.2.2.2.2.2.2.2.2.2.2.2.2.2.2.2.2.1, z.2.2.2.2.2.2.2.2.2.2.2.2.2.2.2.2.2.2.2.2.2.2.2.2.2.2.2.2.1, y, z.2.2.2.2.2.2.2.2.2.2.2.2.2.2.2.2.2.2.2.2.2.2.2.2.2.2.2.2.2.2)
def M_set_stops (z : MS) (y : (Nat → Int32)) : MS := (z.1, z.2.1, z.2.2.1, z.2.2.2.1, z.2.2.2.2.1, z.2.2.2.2.2.1, z.2.2.2.2.2.2.1, z.2.2.2.2.2.2.2.1, z.2.2.2.2.2.2.2.2.1, z.2.2.2.2.2.2.2.2.2.1, z.2.2.2.2.2.2.2.2.2.2.1, z.2.2.2.2.2.2.2.2.2.2.2.1, z.2.2.2.2.2.2.2.2.2.2.2.2.1, z.2.2.2.2.2.2.2.2.2.2.2.2.2.1, z.2.2.2.2.2.2.2.2.2.2.2.2.2.2.1, z.2.2.2.2.2.2.2.2.2.2.2.2.2.2.2.1, z.2.2.2.2.2.2.2.2.2.2.2.2.2.2.2.2.1, z.2.2.2.2.2.2.2.2.2.2.2.2.2.2.2.2.2.1, z.2.2.2.2.2.2.2.2.2.2.2.2.2.2.2.2.2.2.1, z.2.2.2.2.2.2.2.2.2.2.2.2.2.2.2.2.2.2.2.1, z.2.2.2.2.2.2.2.2.2.2.2.2.2.2.2.2.2.2.2.2.1, z.2.2.2.2.2.2.2.2.2.2.2.2.2.2.2.2.2.2.2.2.2.1, z.2.2.2.2.2.2.2.2.2.2.2.2.2.2.2.2.2.2.2.2.2.2.1, z.2.2.2.2.2.2.2.2.2.2.2.2.2.2.2.2.2.2.2.2.2.2.2.1, z.2.2.2.2.2.2.2.2.2.2.2.2.2.2.2.2.2.2.2.2.2.2.2.2.1, z.2.2.2.2.2.2.2.2.2.2.2.2.2.2.2.2.2.2.2.2.2.2.2.2.2.1, z.2.2.2.2.2.2.2.2.2.2.2.2.2.2.2.2.2.2.2.2.2.2.2.2.2.2.1, z.2.2.2.2.2.2.2.2.2.2.2.2.2.2.2.2.2.2.2.2.2.2.2.2.2.2.2.1, z.2.2.2.2.2.2.2.2.2.2.2.2.2.2.2.2.2.2.2.2.2.2.2.2.2.2.2.2.1, z.2.2.2.2.2.2.2.2.2.2.2.2.2.2.2.2.2.2.2.2.2.2.2.2.2.2.2.2.2.1, y)
theorem M_thrown_set_thrown (z : MS) (y : Int32) : M_thrown (M_set_thrown z y) = y := rfl
theorem M_thrown_set_pore (z : MS) (y : (Nat → Int32)) : M_thrown (M_set_pore z y) = M_thrown z := rfl
theorem M_thrown_set_breaks (z : MS) (y : (Nat → Int32)) : M_thrown (M_set_breaks z y) = M_thrown z := rfl
theorem M_thrown_set_rate (z : MS) (y : (Nat → Int32)) : M_thrown (M_set_rate z y) = M_thrown z := rfl
theorem M_thrown_set_bearsGas (z : MS) (y : (Nat → Int32)) : M_thrown (M_set_bearsGas z y) = M_thrown z := rfl
theorem M_thrown_set_depth (z : MS) (y : Int32) : M_thrown (M_set_depth z y) = M_thrown z := rfl
theorem M_thrown_set_shoe (z : MS) (y : Int32) : M_thrown (M_set_shoe z y) = M_thrown z := rfl
theorem M_thrown_set_weight (z : MS) (y : Int32) : M_thrown (M_set_weight z y) = M_thrown z := rfl
theorem M_thrown_set_isClosed (z : MS) (y : Int32) : M_thrown (M_set_isClosed z y) = M_thrown z := rfl
theorem M_thrown_set_choke (z : MS) (y : Int32) : M_thrown (M_set_choke z y) = M_thrown z := rfl
theorem M_thrown_set_charge (z : MS) (y : Int64) : M_thrown (M_set_charge z y) = M_thrown z := rfl
theorem M_thrown_set_place (z : MS) (y : Int32) : M_thrown (M_set_place z y) = M_thrown z := rfl
theorem M_thrown_set_gas (z : MS) (y : Int32) : M_thrown (M_set_gas z y) = M_thrown z := rfl
theorem M_thrown_set_liquid (z : MS) (y : Int32) : M_thrown (M_set_liquid z y) = M_thrown z := rfl
theorem M_thrown_set_minutes (z : MS) (y : Int32) : M_thrown (M_set_minutes z y) = M_thrown z := rfl
theorem M_thrown_set_vented (z : MS) (y : Int64) : M_thrown (M_set_vented z y) = M_thrown z := rfl
theorem M_thrown_set_lost (z : MS) (y : Int64) : M_thrown (M_set_lost z y) = M_thrown z := rfl
theorem M_thrown_set_pumped (z : MS) (y : Int32) : M_thrown (M_set_pumped z y) = M_thrown z := rfl
theorem M_thrown_set_pumpedWeight (z : MS) (y : Int32) : M_thrown (M_set_pumpedWeight z y) = M_thrown z := rfl
theorem M_thrown_set_valve (z : MS) (y : Int32) : M_thrown (M_set_valve z y) = M_thrown z := rfl
theorem M_thrown_set_brokenAfter (z : MS) (y : Int32) : M_thrown (M_set_brokenAfter z y) = M_thrown z := rfl
theorem M_thrown_set_cement (z : MS) (y : Int32) : M_thrown (M_set_cement z y) = M_thrown z := rfl
theorem M_thrown_set_casedAfter (z : MS) (y : Int32) : M_thrown (M_set_casedAfter z y) = M_thrown z := rfl
theorem M_thrown_set_flowed (z : MS) (y : Int32) : M_thrown (M_set_flowed z y) = M_thrown z := rfl
theorem M_thrown_set_kept (z : MS) (y : (Nat → Int64)) : M_thrown (M_set_kept z y) = M_thrown z := rfl
theorem M_thrown_set_tests (z : MS) (y : Int32) : M_thrown (M_set_tests z y) = M_thrown z := rfl
theorem M_thrown_set_tested (z : MS) (y : (Nat → Int32)) : M_thrown (M_set_tested z y) = M_thrown z := rfl
theorem M_thrown_set_by (z : MS) (y : (Nat → Int32)) : M_thrown (M_set_by z y) = M_thrown z := rfl
theorem M_thrown_set_isPassed (z : MS) (y : (Nat → Int32)) : M_thrown (M_set_isPassed z y) = M_thrown z := rfl
theorem M_thrown_set_testedAt (z : MS) (y : (Nat → Int32)) : M_thrown (M_set_testedAt z y) = M_thrown z := rfl
theorem M_thrown_set_stops (z : MS) (y : (Nat → Int32)) : M_thrown (M_set_stops z y) = M_thrown z := rfl
theorem M_pore_set_thrown (z : MS) (y : Int32) : M_pore (M_set_thrown z y) = M_pore z := rfl
theorem M_pore_set_pore (z : MS) (y : (Nat → Int32)) : M_pore (M_set_pore z y) = y := rfl
theorem M_pore_set_breaks (z : MS) (y : (Nat → Int32)) : M_pore (M_set_breaks z y) = M_pore z := rfl
theorem M_pore_set_rate (z : MS) (y : (Nat → Int32)) : M_pore (M_set_rate z y) = M_pore z := rfl
theorem M_pore_set_bearsGas (z : MS) (y : (Nat → Int32)) : M_pore (M_set_bearsGas z y) = M_pore z := rfl
theorem M_pore_set_depth (z : MS) (y : Int32) : M_pore (M_set_depth z y) = M_pore z := rfl
theorem M_pore_set_shoe (z : MS) (y : Int32) : M_pore (M_set_shoe z y) = M_pore z := rfl
theorem M_pore_set_weight (z : MS) (y : Int32) : M_pore (M_set_weight z y) = M_pore z := rfl
theorem M_pore_set_isClosed (z : MS) (y : Int32) : M_pore (M_set_isClosed z y) = M_pore z := rfl
theorem M_pore_set_choke (z : MS) (y : Int32) : M_pore (M_set_choke z y) = M_pore z := rfl
theorem M_pore_set_charge (z : MS) (y : Int64) : M_pore (M_set_charge z y) = M_pore z := rfl
theorem M_pore_set_place (z : MS) (y : Int32) : M_pore (M_set_place z y) = M_pore z := rfl
theorem M_pore_set_gas (z : MS) (y : Int32) : M_pore (M_set_gas z y) = M_pore z := rfl
theorem M_pore_set_liquid (z : MS) (y : Int32) : M_pore (M_set_liquid z y) = M_pore z := rfl
theorem M_pore_set_minutes (z : MS) (y : Int32) : M_pore (M_set_minutes z y) = M_pore z := rfl
theorem M_pore_set_vented (z : MS) (y : Int64) : M_pore (M_set_vented z y) = M_pore z := rfl
theorem M_pore_set_lost (z : MS) (y : Int64) : M_pore (M_set_lost z y) = M_pore z := rfl
theorem M_pore_set_pumped (z : MS) (y : Int32) : M_pore (M_set_pumped z y) = M_pore z := rfl
theorem M_pore_set_pumpedWeight (z : MS) (y : Int32) : M_pore (M_set_pumpedWeight z y) = M_pore z := rfl
theorem M_pore_set_valve (z : MS) (y : Int32) : M_pore (M_set_valve z y) = M_pore z := rfl
theorem M_pore_set_brokenAfter (z : MS) (y : Int32) : M_pore (M_set_brokenAfter z y) = M_pore z := rfl
theorem M_pore_set_cement (z : MS) (y : Int32) : M_pore (M_set_cement z y) = M_pore z := rfl
theorem M_pore_set_casedAfter (z : MS) (y : Int32) : M_pore (M_set_casedAfter z y) = M_pore z := rfl
theorem M_pore_set_flowed (z : MS) (y : Int32) : M_pore (M_set_flowed z y) = M_pore z := rfl
theorem M_pore_set_kept (z : MS) (y : (Nat → Int64)) : M_pore (M_set_kept z y) = M_pore z := rfl
theorem M_pore_set_tests (z : MS) (y : Int32) : M_pore (M_set_tests z y) = M_pore z := rfl
theorem M_pore_set_tested (z : MS) (y : (Nat → Int32)) : M_pore (M_set_tested z y) = M_pore z := rfl
theorem M_pore_set_by (z : MS) (y : (Nat → Int32)) : M_pore (M_set_by z y) = M_pore z := rfl
theorem M_pore_set_isPassed (z : MS) (y : (Nat → Int32)) : M_pore (M_set_isPassed z y) = M_pore z := rfl
theorem M_pore_set_testedAt (z : MS) (y : (Nat → Int32)) : M_pore (M_set_testedAt z y) = M_pore z := rfl
theorem M_pore_set_stops (z : MS) (y : (Nat → Int32)) : M_pore (M_set_stops z y) = M_pore z := rfl
theorem M_breaks_set_thrown (z : MS) (y : Int32) : M_breaks (M_set_thrown z y) = M_breaks z := rfl
theorem M_breaks_set_pore (z : MS) (y : (Nat → Int32)) : M_breaks (M_set_pore z y) = M_breaks z := rfl
theorem M_breaks_set_breaks (z : MS) (y : (Nat → Int32)) : M_breaks (M_set_breaks z y) = y := rfl
theorem M_breaks_set_rate (z : MS) (y : (Nat → Int32)) : M_breaks (M_set_rate z y) = M_breaks z := rfl
theorem M_breaks_set_bearsGas (z : MS) (y : (Nat → Int32)) : M_breaks (M_set_bearsGas z y) = M_breaks z := rfl
theorem M_breaks_set_depth (z : MS) (y : Int32) : M_breaks (M_set_depth z y) = M_breaks z := rfl
theorem M_breaks_set_shoe (z : MS) (y : Int32) : M_breaks (M_set_shoe z y) = M_breaks z := rfl
theorem M_breaks_set_weight (z : MS) (y : Int32) : M_breaks (M_set_weight z y) = M_breaks z := rfl
theorem M_breaks_set_isClosed (z : MS) (y : Int32) : M_breaks (M_set_isClosed z y) = M_breaks z := rfl
theorem M_breaks_set_choke (z : MS) (y : Int32) : M_breaks (M_set_choke z y) = M_breaks z := rfl
theorem M_breaks_set_charge (z : MS) (y : Int64) : M_breaks (M_set_charge z y) = M_breaks z := rfl
theorem M_breaks_set_place (z : MS) (y : Int32) : M_breaks (M_set_place z y) = M_breaks z := rfl
theorem M_breaks_set_gas (z : MS) (y : Int32) : M_breaks (M_set_gas z y) = M_breaks z := rfl
theorem M_breaks_set_liquid (z : MS) (y : Int32) : M_breaks (M_set_liquid z y) = M_breaks z := rfl
theorem M_breaks_set_minutes (z : MS) (y : Int32) : M_breaks (M_set_minutes z y) = M_breaks z := rfl
theorem M_breaks_set_vented (z : MS) (y : Int64) : M_breaks (M_set_vented z y) = M_breaks z := rfl
theorem M_breaks_set_lost (z : MS) (y : Int64) : M_breaks (M_set_lost z y) = M_breaks z := rfl
theorem M_breaks_set_pumped (z : MS) (y : Int32) : M_breaks (M_set_pumped z y) = M_breaks z := rfl
theorem M_breaks_set_pumpedWeight (z : MS) (y : Int32) : M_breaks (M_set_pumpedWeight z y) = M_breaks z := rfl
theorem M_breaks_set_valve (z : MS) (y : Int32) : M_breaks (M_set_valve z y) = M_breaks z := rfl
theorem M_breaks_set_brokenAfter (z : MS) (y : Int32) : M_breaks (M_set_brokenAfter z y) = M_breaks z := rfl
theorem M_breaks_set_cement (z : MS) (y : Int32) : M_breaks (M_set_cement z y) = M_breaks z := rfl
theorem M_breaks_set_casedAfter (z : MS) (y : Int32) : M_breaks (M_set_casedAfter z y) = M_breaks z := rfl
theorem M_breaks_set_flowed (z : MS) (y : Int32) : M_breaks (M_set_flowed z y) = M_breaks z := rfl
theorem M_breaks_set_kept (z : MS) (y : (Nat → Int64)) : M_breaks (M_set_kept z y) = M_breaks z := rfl
theorem M_breaks_set_tests (z : MS) (y : Int32) : M_breaks (M_set_tests z y) = M_breaks z := rfl
theorem M_breaks_set_tested (z : MS) (y : (Nat → Int32)) : M_breaks (M_set_tested z y) = M_breaks z := rfl
theorem M_breaks_set_by (z : MS) (y : (Nat → Int32)) : M_breaks (M_set_by z y) = M_breaks z := rfl
theorem M_breaks_set_isPassed (z : MS) (y : (Nat → Int32)) : M_breaks (M_set_isPassed z y) = M_breaks z := rfl
theorem M_breaks_set_testedAt (z : MS) (y : (Nat → Int32)) : M_breaks (M_set_testedAt z y) = M_breaks z := rfl
theorem M_breaks_set_stops (z : MS) (y : (Nat → Int32)) : M_breaks (M_set_stops z y) = M_breaks z := rfl
theorem M_rate_set_thrown (z : MS) (y : Int32) : M_rate (M_set_thrown z y) = M_rate z := rfl
theorem M_rate_set_pore (z : MS) (y : (Nat → Int32)) : M_rate (M_set_pore z y) = M_rate z := rfl
theorem M_rate_set_breaks (z : MS) (y : (Nat → Int32)) : M_rate (M_set_breaks z y) = M_rate z := rfl
theorem M_rate_set_rate (z : MS) (y : (Nat → Int32)) : M_rate (M_set_rate z y) = y := rfl
theorem M_rate_set_bearsGas (z : MS) (y : (Nat → Int32)) : M_rate (M_set_bearsGas z y) = M_rate z := rfl
theorem M_rate_set_depth (z : MS) (y : Int32) : M_rate (M_set_depth z y) = M_rate z := rfl
theorem M_rate_set_shoe (z : MS) (y : Int32) : M_rate (M_set_shoe z y) = M_rate z := rfl
theorem M_rate_set_weight (z : MS) (y : Int32) : M_rate (M_set_weight z y) = M_rate z := rfl
theorem M_rate_set_isClosed (z : MS) (y : Int32) : M_rate (M_set_isClosed z y) = M_rate z := rfl
theorem M_rate_set_choke (z : MS) (y : Int32) : M_rate (M_set_choke z y) = M_rate z := rfl
theorem M_rate_set_charge (z : MS) (y : Int64) : M_rate (M_set_charge z y) = M_rate z := rfl
theorem M_rate_set_place (z : MS) (y : Int32) : M_rate (M_set_place z y) = M_rate z := rfl
theorem M_rate_set_gas (z : MS) (y : Int32) : M_rate (M_set_gas z y) = M_rate z := rfl
theorem M_rate_set_liquid (z : MS) (y : Int32) : M_rate (M_set_liquid z y) = M_rate z := rfl
theorem M_rate_set_minutes (z : MS) (y : Int32) : M_rate (M_set_minutes z y) = M_rate z := rfl
theorem M_rate_set_vented (z : MS) (y : Int64) : M_rate (M_set_vented z y) = M_rate z := rfl
theorem M_rate_set_lost (z : MS) (y : Int64) : M_rate (M_set_lost z y) = M_rate z := rfl
theorem M_rate_set_pumped (z : MS) (y : Int32) : M_rate (M_set_pumped z y) = M_rate z := rfl
theorem M_rate_set_pumpedWeight (z : MS) (y : Int32) : M_rate (M_set_pumpedWeight z y) = M_rate z := rfl
theorem M_rate_set_valve (z : MS) (y : Int32) : M_rate (M_set_valve z y) = M_rate z := rfl
theorem M_rate_set_brokenAfter (z : MS) (y : Int32) : M_rate (M_set_brokenAfter z y) = M_rate z := rfl
theorem M_rate_set_cement (z : MS) (y : Int32) : M_rate (M_set_cement z y) = M_rate z := rfl
theorem M_rate_set_casedAfter (z : MS) (y : Int32) : M_rate (M_set_casedAfter z y) = M_rate z := rfl
theorem M_rate_set_flowed (z : MS) (y : Int32) : M_rate (M_set_flowed z y) = M_rate z := rfl
theorem M_rate_set_kept (z : MS) (y : (Nat → Int64)) : M_rate (M_set_kept z y) = M_rate z := rfl
theorem M_rate_set_tests (z : MS) (y : Int32) : M_rate (M_set_tests z y) = M_rate z := rfl
theorem M_rate_set_tested (z : MS) (y : (Nat → Int32)) : M_rate (M_set_tested z y) = M_rate z := rfl
theorem M_rate_set_by (z : MS) (y : (Nat → Int32)) : M_rate (M_set_by z y) = M_rate z := rfl
theorem M_rate_set_isPassed (z : MS) (y : (Nat → Int32)) : M_rate (M_set_isPassed z y) = M_rate z := rfl
theorem M_rate_set_testedAt (z : MS) (y : (Nat → Int32)) : M_rate (M_set_testedAt z y) = M_rate z := rfl
theorem M_rate_set_stops (z : MS) (y : (Nat → Int32)) : M_rate (M_set_stops z y) = M_rate z := rfl
theorem M_bearsGas_set_thrown (z : MS) (y : Int32) : M_bearsGas (M_set_thrown z y) = M_bearsGas z := rfl
theorem M_bearsGas_set_pore (z : MS) (y : (Nat → Int32)) : M_bearsGas (M_set_pore z y) = M_bearsGas z := rfl
theorem M_bearsGas_set_breaks (z : MS) (y : (Nat → Int32)) : M_bearsGas (M_set_breaks z y) = M_bearsGas z := rfl
theorem M_bearsGas_set_rate (z : MS) (y : (Nat → Int32)) : M_bearsGas (M_set_rate z y) = M_bearsGas z := rfl
theorem M_bearsGas_set_bearsGas (z : MS) (y : (Nat → Int32)) : M_bearsGas (M_set_bearsGas z y) = y := rfl
theorem M_bearsGas_set_depth (z : MS) (y : Int32) : M_bearsGas (M_set_depth z y) = M_bearsGas z := rfl
theorem M_bearsGas_set_shoe (z : MS) (y : Int32) : M_bearsGas (M_set_shoe z y) = M_bearsGas z := rfl
theorem M_bearsGas_set_weight (z : MS) (y : Int32) : M_bearsGas (M_set_weight z y) = M_bearsGas z := rfl
theorem M_bearsGas_set_isClosed (z : MS) (y : Int32) : M_bearsGas (M_set_isClosed z y) = M_bearsGas z := rfl
theorem M_bearsGas_set_choke (z : MS) (y : Int32) : M_bearsGas (M_set_choke z y) = M_bearsGas z := rfl
theorem M_bearsGas_set_charge (z : MS) (y : Int64) : M_bearsGas (M_set_charge z y) = M_bearsGas z := rfl
theorem M_bearsGas_set_place (z : MS) (y : Int32) : M_bearsGas (M_set_place z y) = M_bearsGas z := rfl
theorem M_bearsGas_set_gas (z : MS) (y : Int32) : M_bearsGas (M_set_gas z y) = M_bearsGas z := rfl
theorem M_bearsGas_set_liquid (z : MS) (y : Int32) : M_bearsGas (M_set_liquid z y) = M_bearsGas z := rfl
theorem M_bearsGas_set_minutes (z : MS) (y : Int32) : M_bearsGas (M_set_minutes z y) = M_bearsGas z := rfl
theorem M_bearsGas_set_vented (z : MS) (y : Int64) : M_bearsGas (M_set_vented z y) = M_bearsGas z := rfl
theorem M_bearsGas_set_lost (z : MS) (y : Int64) : M_bearsGas (M_set_lost z y) = M_bearsGas z := rfl
theorem M_bearsGas_set_pumped (z : MS) (y : Int32) : M_bearsGas (M_set_pumped z y) = M_bearsGas z := rfl
theorem M_bearsGas_set_pumpedWeight (z : MS) (y : Int32) : M_bearsGas (M_set_pumpedWeight z y) = M_bearsGas z := rfl
theorem M_bearsGas_set_valve (z : MS) (y : Int32) : M_bearsGas (M_set_valve z y) = M_bearsGas z := rfl
theorem M_bearsGas_set_brokenAfter (z : MS) (y : Int32) : M_bearsGas (M_set_brokenAfter z y) = M_bearsGas z := rfl
theorem M_bearsGas_set_cement (z : MS) (y : Int32) : M_bearsGas (M_set_cement z y) = M_bearsGas z := rfl
theorem M_bearsGas_set_casedAfter (z : MS) (y : Int32) : M_bearsGas (M_set_casedAfter z y) = M_bearsGas z := rfl
theorem M_bearsGas_set_flowed (z : MS) (y : Int32) : M_bearsGas (M_set_flowed z y) = M_bearsGas z := rfl
theorem M_bearsGas_set_kept (z : MS) (y : (Nat → Int64)) : M_bearsGas (M_set_kept z y) = M_bearsGas z := rfl
theorem M_bearsGas_set_tests (z : MS) (y : Int32) : M_bearsGas (M_set_tests z y) = M_bearsGas z := rfl
theorem M_bearsGas_set_tested (z : MS) (y : (Nat → Int32)) : M_bearsGas (M_set_tested z y) = M_bearsGas z := rfl
theorem M_bearsGas_set_by (z : MS) (y : (Nat → Int32)) : M_bearsGas (M_set_by z y) = M_bearsGas z := rfl
theorem M_bearsGas_set_isPassed (z : MS) (y : (Nat → Int32)) : M_bearsGas (M_set_isPassed z y) = M_bearsGas z := rfl
theorem M_bearsGas_set_testedAt (z : MS) (y : (Nat → Int32)) : M_bearsGas (M_set_testedAt z y) = M_bearsGas z := rfl
theorem M_bearsGas_set_stops (z : MS) (y : (Nat → Int32)) : M_bearsGas (M_set_stops z y) = M_bearsGas z := rfl
theorem M_depth_set_thrown (z : MS) (y : Int32) : M_depth (M_set_thrown z y) = M_depth z := rfl
theorem M_depth_set_pore (z : MS) (y : (Nat → Int32)) : M_depth (M_set_pore z y) = M_depth z := rfl
theorem M_depth_set_breaks (z : MS) (y : (Nat → Int32)) : M_depth (M_set_breaks z y) = M_depth z := rfl
theorem M_depth_set_rate (z : MS) (y : (Nat → Int32)) : M_depth (M_set_rate z y) = M_depth z := rfl
theorem M_depth_set_bearsGas (z : MS) (y : (Nat → Int32)) : M_depth (M_set_bearsGas z y) = M_depth z := rfl
theorem M_depth_set_depth (z : MS) (y : Int32) : M_depth (M_set_depth z y) = y := rfl
theorem M_depth_set_shoe (z : MS) (y : Int32) : M_depth (M_set_shoe z y) = M_depth z := rfl
theorem M_depth_set_weight (z : MS) (y : Int32) : M_depth (M_set_weight z y) = M_depth z := rfl
theorem M_depth_set_isClosed (z : MS) (y : Int32) : M_depth (M_set_isClosed z y) = M_depth z := rfl
theorem M_depth_set_choke (z : MS) (y : Int32) : M_depth (M_set_choke z y) = M_depth z := rfl
theorem M_depth_set_charge (z : MS) (y : Int64) : M_depth (M_set_charge z y) = M_depth z := rfl
theorem M_depth_set_place (z : MS) (y : Int32) : M_depth (M_set_place z y) = M_depth z := rfl
theorem M_depth_set_gas (z : MS) (y : Int32) : M_depth (M_set_gas z y) = M_depth z := rfl
theorem M_depth_set_liquid (z : MS) (y : Int32) : M_depth (M_set_liquid z y) = M_depth z := rfl
theorem M_depth_set_minutes (z : MS) (y : Int32) : M_depth (M_set_minutes z y) = M_depth z := rfl
theorem M_depth_set_vented (z : MS) (y : Int64) : M_depth (M_set_vented z y) = M_depth z := rfl
theorem M_depth_set_lost (z : MS) (y : Int64) : M_depth (M_set_lost z y) = M_depth z := rfl
theorem M_depth_set_pumped (z : MS) (y : Int32) : M_depth (M_set_pumped z y) = M_depth z := rfl
theorem M_depth_set_pumpedWeight (z : MS) (y : Int32) : M_depth (M_set_pumpedWeight z y) = M_depth z := rfl
theorem M_depth_set_valve (z : MS) (y : Int32) : M_depth (M_set_valve z y) = M_depth z := rfl
theorem M_depth_set_brokenAfter (z : MS) (y : Int32) : M_depth (M_set_brokenAfter z y) = M_depth z := rfl
theorem M_depth_set_cement (z : MS) (y : Int32) : M_depth (M_set_cement z y) = M_depth z := rfl
theorem M_depth_set_casedAfter (z : MS) (y : Int32) : M_depth (M_set_casedAfter z y) = M_depth z := rfl
theorem M_depth_set_flowed (z : MS) (y : Int32) : M_depth (M_set_flowed z y) = M_depth z := rfl
theorem M_depth_set_kept (z : MS) (y : (Nat → Int64)) : M_depth (M_set_kept z y) = M_depth z := rfl
theorem M_depth_set_tests (z : MS) (y : Int32) : M_depth (M_set_tests z y) = M_depth z := rfl
theorem M_depth_set_tested (z : MS) (y : (Nat → Int32)) : M_depth (M_set_tested z y) = M_depth z := rfl
theorem M_depth_set_by (z : MS) (y : (Nat → Int32)) : M_depth (M_set_by z y) = M_depth z := rfl
theorem M_depth_set_isPassed (z : MS) (y : (Nat → Int32)) : M_depth (M_set_isPassed z y) = M_depth z := rfl
theorem M_depth_set_testedAt (z : MS) (y : (Nat → Int32)) : M_depth (M_set_testedAt z y) = M_depth z := rfl
theorem M_depth_set_stops (z : MS) (y : (Nat → Int32)) : M_depth (M_set_stops z y) = M_depth z := rfl
theorem M_shoe_set_thrown (z : MS) (y : Int32) : M_shoe (M_set_thrown z y) = M_shoe z := rfl
theorem M_shoe_set_pore (z : MS) (y : (Nat → Int32)) : M_shoe (M_set_pore z y) = M_shoe z := rfl
theorem M_shoe_set_breaks (z : MS) (y : (Nat → Int32)) : M_shoe (M_set_breaks z y) = M_shoe z := rfl
theorem M_shoe_set_rate (z : MS) (y : (Nat → Int32)) : M_shoe (M_set_rate z y) = M_shoe z := rfl
theorem M_shoe_set_bearsGas (z : MS) (y : (Nat → Int32)) : M_shoe (M_set_bearsGas z y) = M_shoe z := rfl
theorem M_shoe_set_depth (z : MS) (y : Int32) : M_shoe (M_set_depth z y) = M_shoe z := rfl
theorem M_shoe_set_shoe (z : MS) (y : Int32) : M_shoe (M_set_shoe z y) = y := rfl
theorem M_shoe_set_weight (z : MS) (y : Int32) : M_shoe (M_set_weight z y) = M_shoe z := rfl
theorem M_shoe_set_isClosed (z : MS) (y : Int32) : M_shoe (M_set_isClosed z y) = M_shoe z := rfl
theorem M_shoe_set_choke (z : MS) (y : Int32) : M_shoe (M_set_choke z y) = M_shoe z := rfl
theorem M_shoe_set_charge (z : MS) (y : Int64) : M_shoe (M_set_charge z y) = M_shoe z := rfl
theorem M_shoe_set_place (z : MS) (y : Int32) : M_shoe (M_set_place z y) = M_shoe z := rfl
theorem M_shoe_set_gas (z : MS) (y : Int32) : M_shoe (M_set_gas z y) = M_shoe z := rfl
theorem M_shoe_set_liquid (z : MS) (y : Int32) : M_shoe (M_set_liquid z y) = M_shoe z := rfl
theorem M_shoe_set_minutes (z : MS) (y : Int32) : M_shoe (M_set_minutes z y) = M_shoe z := rfl
theorem M_shoe_set_vented (z : MS) (y : Int64) : M_shoe (M_set_vented z y) = M_shoe z := rfl
theorem M_shoe_set_lost (z : MS) (y : Int64) : M_shoe (M_set_lost z y) = M_shoe z := rfl
theorem M_shoe_set_pumped (z : MS) (y : Int32) : M_shoe (M_set_pumped z y) = M_shoe z := rfl
theorem M_shoe_set_pumpedWeight (z : MS) (y : Int32) : M_shoe (M_set_pumpedWeight z y) = M_shoe z := rfl
theorem M_shoe_set_valve (z : MS) (y : Int32) : M_shoe (M_set_valve z y) = M_shoe z := rfl
theorem M_shoe_set_brokenAfter (z : MS) (y : Int32) : M_shoe (M_set_brokenAfter z y) = M_shoe z := rfl
theorem M_shoe_set_cement (z : MS) (y : Int32) : M_shoe (M_set_cement z y) = M_shoe z := rfl
theorem M_shoe_set_casedAfter (z : MS) (y : Int32) : M_shoe (M_set_casedAfter z y) = M_shoe z := rfl
theorem M_shoe_set_flowed (z : MS) (y : Int32) : M_shoe (M_set_flowed z y) = M_shoe z := rfl
theorem M_shoe_set_kept (z : MS) (y : (Nat → Int64)) : M_shoe (M_set_kept z y) = M_shoe z := rfl
theorem M_shoe_set_tests (z : MS) (y : Int32) : M_shoe (M_set_tests z y) = M_shoe z := rfl
theorem M_shoe_set_tested (z : MS) (y : (Nat → Int32)) : M_shoe (M_set_tested z y) = M_shoe z := rfl
theorem M_shoe_set_by (z : MS) (y : (Nat → Int32)) : M_shoe (M_set_by z y) = M_shoe z := rfl
theorem M_shoe_set_isPassed (z : MS) (y : (Nat → Int32)) : M_shoe (M_set_isPassed z y) = M_shoe z := rfl
theorem M_shoe_set_testedAt (z : MS) (y : (Nat → Int32)) : M_shoe (M_set_testedAt z y) = M_shoe z := rfl
theorem M_shoe_set_stops (z : MS) (y : (Nat → Int32)) : M_shoe (M_set_stops z y) = M_shoe z := rfl
theorem M_weight_set_thrown (z : MS) (y : Int32) : M_weight (M_set_thrown z y) = M_weight z := rfl
theorem M_weight_set_pore (z : MS) (y : (Nat → Int32)) : M_weight (M_set_pore z y) = M_weight z := rfl
theorem M_weight_set_breaks (z : MS) (y : (Nat → Int32)) : M_weight (M_set_breaks z y) = M_weight z := rfl
theorem M_weight_set_rate (z : MS) (y : (Nat → Int32)) : M_weight (M_set_rate z y) = M_weight z := rfl
theorem M_weight_set_bearsGas (z : MS) (y : (Nat → Int32)) : M_weight (M_set_bearsGas z y) = M_weight z := rfl
theorem M_weight_set_depth (z : MS) (y : Int32) : M_weight (M_set_depth z y) = M_weight z := rfl
theorem M_weight_set_shoe (z : MS) (y : Int32) : M_weight (M_set_shoe z y) = M_weight z := rfl
theorem M_weight_set_weight (z : MS) (y : Int32) : M_weight (M_set_weight z y) = y := rfl
theorem M_weight_set_isClosed (z : MS) (y : Int32) : M_weight (M_set_isClosed z y) = M_weight z := rfl
theorem M_weight_set_choke (z : MS) (y : Int32) : M_weight (M_set_choke z y) = M_weight z := rfl
theorem M_weight_set_charge (z : MS) (y : Int64) : M_weight (M_set_charge z y) = M_weight z := rfl
theorem M_weight_set_place (z : MS) (y : Int32) : M_weight (M_set_place z y) = M_weight z := rfl
theorem M_weight_set_gas (z : MS) (y : Int32) : M_weight (M_set_gas z y) = M_weight z := rfl
theorem M_weight_set_liquid (z : MS) (y : Int32) : M_weight (M_set_liquid z y) = M_weight z := rfl
theorem M_weight_set_minutes (z : MS) (y : Int32) : M_weight (M_set_minutes z y) = M_weight z := rfl
theorem M_weight_set_vented (z : MS) (y : Int64) : M_weight (M_set_vented z y) = M_weight z := rfl
theorem M_weight_set_lost (z : MS) (y : Int64) : M_weight (M_set_lost z y) = M_weight z := rfl
theorem M_weight_set_pumped (z : MS) (y : Int32) : M_weight (M_set_pumped z y) = M_weight z := rfl
theorem M_weight_set_pumpedWeight (z : MS) (y : Int32) : M_weight (M_set_pumpedWeight z y) = M_weight z := rfl
theorem M_weight_set_valve (z : MS) (y : Int32) : M_weight (M_set_valve z y) = M_weight z := rfl
theorem M_weight_set_brokenAfter (z : MS) (y : Int32) : M_weight (M_set_brokenAfter z y) = M_weight z := rfl
theorem M_weight_set_cement (z : MS) (y : Int32) : M_weight (M_set_cement z y) = M_weight z := rfl
theorem M_weight_set_casedAfter (z : MS) (y : Int32) : M_weight (M_set_casedAfter z y) = M_weight z := rfl
theorem M_weight_set_flowed (z : MS) (y : Int32) : M_weight (M_set_flowed z y) = M_weight z := rfl
theorem M_weight_set_kept (z : MS) (y : (Nat → Int64)) : M_weight (M_set_kept z y) = M_weight z := rfl
theorem M_weight_set_tests (z : MS) (y : Int32) : M_weight (M_set_tests z y) = M_weight z := rfl
theorem M_weight_set_tested (z : MS) (y : (Nat → Int32)) : M_weight (M_set_tested z y) = M_weight z := rfl
theorem M_weight_set_by (z : MS) (y : (Nat → Int32)) : M_weight (M_set_by z y) = M_weight z := rfl
theorem M_weight_set_isPassed (z : MS) (y : (Nat → Int32)) : M_weight (M_set_isPassed z y) = M_weight z := rfl
theorem M_weight_set_testedAt (z : MS) (y : (Nat → Int32)) : M_weight (M_set_testedAt z y) = M_weight z := rfl
theorem M_weight_set_stops (z : MS) (y : (Nat → Int32)) : M_weight (M_set_stops z y) = M_weight z := rfl
theorem M_isClosed_set_thrown (z : MS) (y : Int32) : M_isClosed (M_set_thrown z y) = M_isClosed z := rfl
theorem M_isClosed_set_pore (z : MS) (y : (Nat → Int32)) : M_isClosed (M_set_pore z y) = M_isClosed z := rfl
theorem M_isClosed_set_breaks (z : MS) (y : (Nat → Int32)) : M_isClosed (M_set_breaks z y) = M_isClosed z := rfl
theorem M_isClosed_set_rate (z : MS) (y : (Nat → Int32)) : M_isClosed (M_set_rate z y) = M_isClosed z := rfl
theorem M_isClosed_set_bearsGas (z : MS) (y : (Nat → Int32)) : M_isClosed (M_set_bearsGas z y) = M_isClosed z := rfl
theorem M_isClosed_set_depth (z : MS) (y : Int32) : M_isClosed (M_set_depth z y) = M_isClosed z := rfl
theorem M_isClosed_set_shoe (z : MS) (y : Int32) : M_isClosed (M_set_shoe z y) = M_isClosed z := rfl
theorem M_isClosed_set_weight (z : MS) (y : Int32) : M_isClosed (M_set_weight z y) = M_isClosed z := rfl
theorem M_isClosed_set_isClosed (z : MS) (y : Int32) : M_isClosed (M_set_isClosed z y) = y := rfl
theorem M_isClosed_set_choke (z : MS) (y : Int32) : M_isClosed (M_set_choke z y) = M_isClosed z := rfl
theorem M_isClosed_set_charge (z : MS) (y : Int64) : M_isClosed (M_set_charge z y) = M_isClosed z := rfl
theorem M_isClosed_set_place (z : MS) (y : Int32) : M_isClosed (M_set_place z y) = M_isClosed z := rfl
theorem M_isClosed_set_gas (z : MS) (y : Int32) : M_isClosed (M_set_gas z y) = M_isClosed z := rfl
theorem M_isClosed_set_liquid (z : MS) (y : Int32) : M_isClosed (M_set_liquid z y) = M_isClosed z := rfl
theorem M_isClosed_set_minutes (z : MS) (y : Int32) : M_isClosed (M_set_minutes z y) = M_isClosed z := rfl
theorem M_isClosed_set_vented (z : MS) (y : Int64) : M_isClosed (M_set_vented z y) = M_isClosed z := rfl
theorem M_isClosed_set_lost (z : MS) (y : Int64) : M_isClosed (M_set_lost z y) = M_isClosed z := rfl
theorem M_isClosed_set_pumped (z : MS) (y : Int32) : M_isClosed (M_set_pumped z y) = M_isClosed z := rfl
theorem M_isClosed_set_pumpedWeight (z : MS) (y : Int32) : M_isClosed (M_set_pumpedWeight z y) = M_isClosed z := rfl
theorem M_isClosed_set_valve (z : MS) (y : Int32) : M_isClosed (M_set_valve z y) = M_isClosed z := rfl
theorem M_isClosed_set_brokenAfter (z : MS) (y : Int32) : M_isClosed (M_set_brokenAfter z y) = M_isClosed z := rfl
theorem M_isClosed_set_cement (z : MS) (y : Int32) : M_isClosed (M_set_cement z y) = M_isClosed z := rfl
theorem M_isClosed_set_casedAfter (z : MS) (y : Int32) : M_isClosed (M_set_casedAfter z y) = M_isClosed z := rfl
theorem M_isClosed_set_flowed (z : MS) (y : Int32) : M_isClosed (M_set_flowed z y) = M_isClosed z := rfl
theorem M_isClosed_set_kept (z : MS) (y : (Nat → Int64)) : M_isClosed (M_set_kept z y) = M_isClosed z := rfl
theorem M_isClosed_set_tests (z : MS) (y : Int32) : M_isClosed (M_set_tests z y) = M_isClosed z := rfl
theorem M_isClosed_set_tested (z : MS) (y : (Nat → Int32)) : M_isClosed (M_set_tested z y) = M_isClosed z := rfl
theorem M_isClosed_set_by (z : MS) (y : (Nat → Int32)) : M_isClosed (M_set_by z y) = M_isClosed z := rfl
theorem M_isClosed_set_isPassed (z : MS) (y : (Nat → Int32)) : M_isClosed (M_set_isPassed z y) = M_isClosed z := rfl
theorem M_isClosed_set_testedAt (z : MS) (y : (Nat → Int32)) : M_isClosed (M_set_testedAt z y) = M_isClosed z := rfl
theorem M_isClosed_set_stops (z : MS) (y : (Nat → Int32)) : M_isClosed (M_set_stops z y) = M_isClosed z := rfl
theorem M_choke_set_thrown (z : MS) (y : Int32) : M_choke (M_set_thrown z y) = M_choke z := rfl
theorem M_choke_set_pore (z : MS) (y : (Nat → Int32)) : M_choke (M_set_pore z y) = M_choke z := rfl
theorem M_choke_set_breaks (z : MS) (y : (Nat → Int32)) : M_choke (M_set_breaks z y) = M_choke z := rfl
theorem M_choke_set_rate (z : MS) (y : (Nat → Int32)) : M_choke (M_set_rate z y) = M_choke z := rfl
theorem M_choke_set_bearsGas (z : MS) (y : (Nat → Int32)) : M_choke (M_set_bearsGas z y) = M_choke z := rfl
theorem M_choke_set_depth (z : MS) (y : Int32) : M_choke (M_set_depth z y) = M_choke z := rfl
theorem M_choke_set_shoe (z : MS) (y : Int32) : M_choke (M_set_shoe z y) = M_choke z := rfl
theorem M_choke_set_weight (z : MS) (y : Int32) : M_choke (M_set_weight z y) = M_choke z := rfl
theorem M_choke_set_isClosed (z : MS) (y : Int32) : M_choke (M_set_isClosed z y) = M_choke z := rfl
theorem M_choke_set_choke (z : MS) (y : Int32) : M_choke (M_set_choke z y) = y := rfl
theorem M_choke_set_charge (z : MS) (y : Int64) : M_choke (M_set_charge z y) = M_choke z := rfl
theorem M_choke_set_place (z : MS) (y : Int32) : M_choke (M_set_place z y) = M_choke z := rfl
theorem M_choke_set_gas (z : MS) (y : Int32) : M_choke (M_set_gas z y) = M_choke z := rfl
theorem M_choke_set_liquid (z : MS) (y : Int32) : M_choke (M_set_liquid z y) = M_choke z := rfl
theorem M_choke_set_minutes (z : MS) (y : Int32) : M_choke (M_set_minutes z y) = M_choke z := rfl
theorem M_choke_set_vented (z : MS) (y : Int64) : M_choke (M_set_vented z y) = M_choke z := rfl
theorem M_choke_set_lost (z : MS) (y : Int64) : M_choke (M_set_lost z y) = M_choke z := rfl
theorem M_choke_set_pumped (z : MS) (y : Int32) : M_choke (M_set_pumped z y) = M_choke z := rfl
theorem M_choke_set_pumpedWeight (z : MS) (y : Int32) : M_choke (M_set_pumpedWeight z y) = M_choke z := rfl
theorem M_choke_set_valve (z : MS) (y : Int32) : M_choke (M_set_valve z y) = M_choke z := rfl
theorem M_choke_set_brokenAfter (z : MS) (y : Int32) : M_choke (M_set_brokenAfter z y) = M_choke z := rfl
theorem M_choke_set_cement (z : MS) (y : Int32) : M_choke (M_set_cement z y) = M_choke z := rfl
theorem M_choke_set_casedAfter (z : MS) (y : Int32) : M_choke (M_set_casedAfter z y) = M_choke z := rfl
theorem M_choke_set_flowed (z : MS) (y : Int32) : M_choke (M_set_flowed z y) = M_choke z := rfl
theorem M_choke_set_kept (z : MS) (y : (Nat → Int64)) : M_choke (M_set_kept z y) = M_choke z := rfl
theorem M_choke_set_tests (z : MS) (y : Int32) : M_choke (M_set_tests z y) = M_choke z := rfl
theorem M_choke_set_tested (z : MS) (y : (Nat → Int32)) : M_choke (M_set_tested z y) = M_choke z := rfl
theorem M_choke_set_by (z : MS) (y : (Nat → Int32)) : M_choke (M_set_by z y) = M_choke z := rfl
theorem M_choke_set_isPassed (z : MS) (y : (Nat → Int32)) : M_choke (M_set_isPassed z y) = M_choke z := rfl
theorem M_choke_set_testedAt (z : MS) (y : (Nat → Int32)) : M_choke (M_set_testedAt z y) = M_choke z := rfl
theorem M_choke_set_stops (z : MS) (y : (Nat → Int32)) : M_choke (M_set_stops z y) = M_choke z := rfl
theorem M_charge_set_thrown (z : MS) (y : Int32) : M_charge (M_set_thrown z y) = M_charge z := rfl
theorem M_charge_set_pore (z : MS) (y : (Nat → Int32)) : M_charge (M_set_pore z y) = M_charge z := rfl
theorem M_charge_set_breaks (z : MS) (y : (Nat → Int32)) : M_charge (M_set_breaks z y) = M_charge z := rfl
theorem M_charge_set_rate (z : MS) (y : (Nat → Int32)) : M_charge (M_set_rate z y) = M_charge z := rfl
theorem M_charge_set_bearsGas (z : MS) (y : (Nat → Int32)) : M_charge (M_set_bearsGas z y) = M_charge z := rfl
theorem M_charge_set_depth (z : MS) (y : Int32) : M_charge (M_set_depth z y) = M_charge z := rfl
theorem M_charge_set_shoe (z : MS) (y : Int32) : M_charge (M_set_shoe z y) = M_charge z := rfl
theorem M_charge_set_weight (z : MS) (y : Int32) : M_charge (M_set_weight z y) = M_charge z := rfl
theorem M_charge_set_isClosed (z : MS) (y : Int32) : M_charge (M_set_isClosed z y) = M_charge z := rfl
theorem M_charge_set_choke (z : MS) (y : Int32) : M_charge (M_set_choke z y) = M_charge z := rfl
theorem M_charge_set_charge (z : MS) (y : Int64) : M_charge (M_set_charge z y) = y := rfl
theorem M_charge_set_place (z : MS) (y : Int32) : M_charge (M_set_place z y) = M_charge z := rfl
theorem M_charge_set_gas (z : MS) (y : Int32) : M_charge (M_set_gas z y) = M_charge z := rfl
theorem M_charge_set_liquid (z : MS) (y : Int32) : M_charge (M_set_liquid z y) = M_charge z := rfl
theorem M_charge_set_minutes (z : MS) (y : Int32) : M_charge (M_set_minutes z y) = M_charge z := rfl
theorem M_charge_set_vented (z : MS) (y : Int64) : M_charge (M_set_vented z y) = M_charge z := rfl
theorem M_charge_set_lost (z : MS) (y : Int64) : M_charge (M_set_lost z y) = M_charge z := rfl
theorem M_charge_set_pumped (z : MS) (y : Int32) : M_charge (M_set_pumped z y) = M_charge z := rfl
theorem M_charge_set_pumpedWeight (z : MS) (y : Int32) : M_charge (M_set_pumpedWeight z y) = M_charge z := rfl
theorem M_charge_set_valve (z : MS) (y : Int32) : M_charge (M_set_valve z y) = M_charge z := rfl
theorem M_charge_set_brokenAfter (z : MS) (y : Int32) : M_charge (M_set_brokenAfter z y) = M_charge z := rfl
theorem M_charge_set_cement (z : MS) (y : Int32) : M_charge (M_set_cement z y) = M_charge z := rfl
theorem M_charge_set_casedAfter (z : MS) (y : Int32) : M_charge (M_set_casedAfter z y) = M_charge z := rfl
theorem M_charge_set_flowed (z : MS) (y : Int32) : M_charge (M_set_flowed z y) = M_charge z := rfl
theorem M_charge_set_kept (z : MS) (y : (Nat → Int64)) : M_charge (M_set_kept z y) = M_charge z := rfl
theorem M_charge_set_tests (z : MS) (y : Int32) : M_charge (M_set_tests z y) = M_charge z := rfl
theorem M_charge_set_tested (z : MS) (y : (Nat → Int32)) : M_charge (M_set_tested z y) = M_charge z := rfl
theorem M_charge_set_by (z : MS) (y : (Nat → Int32)) : M_charge (M_set_by z y) = M_charge z := rfl
theorem M_charge_set_isPassed (z : MS) (y : (Nat → Int32)) : M_charge (M_set_isPassed z y) = M_charge z := rfl
theorem M_charge_set_testedAt (z : MS) (y : (Nat → Int32)) : M_charge (M_set_testedAt z y) = M_charge z := rfl
theorem M_charge_set_stops (z : MS) (y : (Nat → Int32)) : M_charge (M_set_stops z y) = M_charge z := rfl
theorem M_place_set_thrown (z : MS) (y : Int32) : M_place (M_set_thrown z y) = M_place z := rfl
theorem M_place_set_pore (z : MS) (y : (Nat → Int32)) : M_place (M_set_pore z y) = M_place z := rfl
theorem M_place_set_breaks (z : MS) (y : (Nat → Int32)) : M_place (M_set_breaks z y) = M_place z := rfl
theorem M_place_set_rate (z : MS) (y : (Nat → Int32)) : M_place (M_set_rate z y) = M_place z := rfl
theorem M_place_set_bearsGas (z : MS) (y : (Nat → Int32)) : M_place (M_set_bearsGas z y) = M_place z := rfl
theorem M_place_set_depth (z : MS) (y : Int32) : M_place (M_set_depth z y) = M_place z := rfl
theorem M_place_set_shoe (z : MS) (y : Int32) : M_place (M_set_shoe z y) = M_place z := rfl
theorem M_place_set_weight (z : MS) (y : Int32) : M_place (M_set_weight z y) = M_place z := rfl
theorem M_place_set_isClosed (z : MS) (y : Int32) : M_place (M_set_isClosed z y) = M_place z := rfl
theorem M_place_set_choke (z : MS) (y : Int32) : M_place (M_set_choke z y) = M_place z := rfl
theorem M_place_set_charge (z : MS) (y : Int64) : M_place (M_set_charge z y) = M_place z := rfl
theorem M_place_set_place (z : MS) (y : Int32) : M_place (M_set_place z y) = y := rfl
theorem M_place_set_gas (z : MS) (y : Int32) : M_place (M_set_gas z y) = M_place z := rfl
theorem M_place_set_liquid (z : MS) (y : Int32) : M_place (M_set_liquid z y) = M_place z := rfl
theorem M_place_set_minutes (z : MS) (y : Int32) : M_place (M_set_minutes z y) = M_place z := rfl
theorem M_place_set_vented (z : MS) (y : Int64) : M_place (M_set_vented z y) = M_place z := rfl
theorem M_place_set_lost (z : MS) (y : Int64) : M_place (M_set_lost z y) = M_place z := rfl
theorem M_place_set_pumped (z : MS) (y : Int32) : M_place (M_set_pumped z y) = M_place z := rfl
theorem M_place_set_pumpedWeight (z : MS) (y : Int32) : M_place (M_set_pumpedWeight z y) = M_place z := rfl
theorem M_place_set_valve (z : MS) (y : Int32) : M_place (M_set_valve z y) = M_place z := rfl
theorem M_place_set_brokenAfter (z : MS) (y : Int32) : M_place (M_set_brokenAfter z y) = M_place z := rfl
theorem M_place_set_cement (z : MS) (y : Int32) : M_place (M_set_cement z y) = M_place z := rfl
theorem M_place_set_casedAfter (z : MS) (y : Int32) : M_place (M_set_casedAfter z y) = M_place z := rfl
theorem M_place_set_flowed (z : MS) (y : Int32) : M_place (M_set_flowed z y) = M_place z := rfl
theorem M_place_set_kept (z : MS) (y : (Nat → Int64)) : M_place (M_set_kept z y) = M_place z := rfl
theorem M_place_set_tests (z : MS) (y : Int32) : M_place (M_set_tests z y) = M_place z := rfl
theorem M_place_set_tested (z : MS) (y : (Nat → Int32)) : M_place (M_set_tested z y) = M_place z := rfl
theorem M_place_set_by (z : MS) (y : (Nat → Int32)) : M_place (M_set_by z y) = M_place z := rfl
theorem M_place_set_isPassed (z : MS) (y : (Nat → Int32)) : M_place (M_set_isPassed z y) = M_place z := rfl
theorem M_place_set_testedAt (z : MS) (y : (Nat → Int32)) : M_place (M_set_testedAt z y) = M_place z := rfl
theorem M_place_set_stops (z : MS) (y : (Nat → Int32)) : M_place (M_set_stops z y) = M_place z := rfl
theorem M_gas_set_thrown (z : MS) (y : Int32) : M_gas (M_set_thrown z y) = M_gas z := rfl
theorem M_gas_set_pore (z : MS) (y : (Nat → Int32)) : M_gas (M_set_pore z y) = M_gas z := rfl
theorem M_gas_set_breaks (z : MS) (y : (Nat → Int32)) : M_gas (M_set_breaks z y) = M_gas z := rfl
theorem M_gas_set_rate (z : MS) (y : (Nat → Int32)) : M_gas (M_set_rate z y) = M_gas z := rfl
theorem M_gas_set_bearsGas (z : MS) (y : (Nat → Int32)) : M_gas (M_set_bearsGas z y) = M_gas z := rfl
theorem M_gas_set_depth (z : MS) (y : Int32) : M_gas (M_set_depth z y) = M_gas z := rfl
theorem M_gas_set_shoe (z : MS) (y : Int32) : M_gas (M_set_shoe z y) = M_gas z := rfl
theorem M_gas_set_weight (z : MS) (y : Int32) : M_gas (M_set_weight z y) = M_gas z := rfl
theorem M_gas_set_isClosed (z : MS) (y : Int32) : M_gas (M_set_isClosed z y) = M_gas z := rfl
theorem M_gas_set_choke (z : MS) (y : Int32) : M_gas (M_set_choke z y) = M_gas z := rfl
theorem M_gas_set_charge (z : MS) (y : Int64) : M_gas (M_set_charge z y) = M_gas z := rfl
theorem M_gas_set_place (z : MS) (y : Int32) : M_gas (M_set_place z y) = M_gas z := rfl
theorem M_gas_set_gas (z : MS) (y : Int32) : M_gas (M_set_gas z y) = y := rfl
theorem M_gas_set_liquid (z : MS) (y : Int32) : M_gas (M_set_liquid z y) = M_gas z := rfl
theorem M_gas_set_minutes (z : MS) (y : Int32) : M_gas (M_set_minutes z y) = M_gas z := rfl
theorem M_gas_set_vented (z : MS) (y : Int64) : M_gas (M_set_vented z y) = M_gas z := rfl
theorem M_gas_set_lost (z : MS) (y : Int64) : M_gas (M_set_lost z y) = M_gas z := rfl
theorem M_gas_set_pumped (z : MS) (y : Int32) : M_gas (M_set_pumped z y) = M_gas z := rfl
theorem M_gas_set_pumpedWeight (z : MS) (y : Int32) : M_gas (M_set_pumpedWeight z y) = M_gas z := rfl
theorem M_gas_set_valve (z : MS) (y : Int32) : M_gas (M_set_valve z y) = M_gas z := rfl
theorem M_gas_set_brokenAfter (z : MS) (y : Int32) : M_gas (M_set_brokenAfter z y) = M_gas z := rfl
theorem M_gas_set_cement (z : MS) (y : Int32) : M_gas (M_set_cement z y) = M_gas z := rfl
theorem M_gas_set_casedAfter (z : MS) (y : Int32) : M_gas (M_set_casedAfter z y) = M_gas z := rfl
theorem M_gas_set_flowed (z : MS) (y : Int32) : M_gas (M_set_flowed z y) = M_gas z := rfl
theorem M_gas_set_kept (z : MS) (y : (Nat → Int64)) : M_gas (M_set_kept z y) = M_gas z := rfl
theorem M_gas_set_tests (z : MS) (y : Int32) : M_gas (M_set_tests z y) = M_gas z := rfl
theorem M_gas_set_tested (z : MS) (y : (Nat → Int32)) : M_gas (M_set_tested z y) = M_gas z := rfl
theorem M_gas_set_by (z : MS) (y : (Nat → Int32)) : M_gas (M_set_by z y) = M_gas z := rfl
theorem M_gas_set_isPassed (z : MS) (y : (Nat → Int32)) : M_gas (M_set_isPassed z y) = M_gas z := rfl
theorem M_gas_set_testedAt (z : MS) (y : (Nat → Int32)) : M_gas (M_set_testedAt z y) = M_gas z := rfl
theorem M_gas_set_stops (z : MS) (y : (Nat → Int32)) : M_gas (M_set_stops z y) = M_gas z := rfl
theorem M_liquid_set_thrown (z : MS) (y : Int32) : M_liquid (M_set_thrown z y) = M_liquid z := rfl
theorem M_liquid_set_pore (z : MS) (y : (Nat → Int32)) : M_liquid (M_set_pore z y) = M_liquid z := rfl
theorem M_liquid_set_breaks (z : MS) (y : (Nat → Int32)) : M_liquid (M_set_breaks z y) = M_liquid z := rfl
theorem M_liquid_set_rate (z : MS) (y : (Nat → Int32)) : M_liquid (M_set_rate z y) = M_liquid z := rfl
theorem M_liquid_set_bearsGas (z : MS) (y : (Nat → Int32)) : M_liquid (M_set_bearsGas z y) = M_liquid z := rfl
theorem M_liquid_set_depth (z : MS) (y : Int32) : M_liquid (M_set_depth z y) = M_liquid z := rfl
theorem M_liquid_set_shoe (z : MS) (y : Int32) : M_liquid (M_set_shoe z y) = M_liquid z := rfl
theorem M_liquid_set_weight (z : MS) (y : Int32) : M_liquid (M_set_weight z y) = M_liquid z := rfl
theorem M_liquid_set_isClosed (z : MS) (y : Int32) : M_liquid (M_set_isClosed z y) = M_liquid z := rfl
theorem M_liquid_set_choke (z : MS) (y : Int32) : M_liquid (M_set_choke z y) = M_liquid z := rfl
theorem M_liquid_set_charge (z : MS) (y : Int64) : M_liquid (M_set_charge z y) = M_liquid z := rfl
theorem M_liquid_set_place (z : MS) (y : Int32) : M_liquid (M_set_place z y) = M_liquid z := rfl
theorem M_liquid_set_gas (z : MS) (y : Int32) : M_liquid (M_set_gas z y) = M_liquid z := rfl
theorem M_liquid_set_liquid (z : MS) (y : Int32) : M_liquid (M_set_liquid z y) = y := rfl
theorem M_liquid_set_minutes (z : MS) (y : Int32) : M_liquid (M_set_minutes z y) = M_liquid z := rfl
theorem M_liquid_set_vented (z : MS) (y : Int64) : M_liquid (M_set_vented z y) = M_liquid z := rfl
theorem M_liquid_set_lost (z : MS) (y : Int64) : M_liquid (M_set_lost z y) = M_liquid z := rfl
theorem M_liquid_set_pumped (z : MS) (y : Int32) : M_liquid (M_set_pumped z y) = M_liquid z := rfl
theorem M_liquid_set_pumpedWeight (z : MS) (y : Int32) : M_liquid (M_set_pumpedWeight z y) = M_liquid z := rfl
theorem M_liquid_set_valve (z : MS) (y : Int32) : M_liquid (M_set_valve z y) = M_liquid z := rfl
theorem M_liquid_set_brokenAfter (z : MS) (y : Int32) : M_liquid (M_set_brokenAfter z y) = M_liquid z := rfl
theorem M_liquid_set_cement (z : MS) (y : Int32) : M_liquid (M_set_cement z y) = M_liquid z := rfl
theorem M_liquid_set_casedAfter (z : MS) (y : Int32) : M_liquid (M_set_casedAfter z y) = M_liquid z := rfl
theorem M_liquid_set_flowed (z : MS) (y : Int32) : M_liquid (M_set_flowed z y) = M_liquid z := rfl
theorem M_liquid_set_kept (z : MS) (y : (Nat → Int64)) : M_liquid (M_set_kept z y) = M_liquid z := rfl
theorem M_liquid_set_tests (z : MS) (y : Int32) : M_liquid (M_set_tests z y) = M_liquid z := rfl
theorem M_liquid_set_tested (z : MS) (y : (Nat → Int32)) : M_liquid (M_set_tested z y) = M_liquid z := rfl
theorem M_liquid_set_by (z : MS) (y : (Nat → Int32)) : M_liquid (M_set_by z y) = M_liquid z := rfl
theorem M_liquid_set_isPassed (z : MS) (y : (Nat → Int32)) : M_liquid (M_set_isPassed z y) = M_liquid z := rfl
theorem M_liquid_set_testedAt (z : MS) (y : (Nat → Int32)) : M_liquid (M_set_testedAt z y) = M_liquid z := rfl
theorem M_liquid_set_stops (z : MS) (y : (Nat → Int32)) : M_liquid (M_set_stops z y) = M_liquid z := rfl
theorem M_minutes_set_thrown (z : MS) (y : Int32) : M_minutes (M_set_thrown z y) = M_minutes z := rfl
theorem M_minutes_set_pore (z : MS) (y : (Nat → Int32)) : M_minutes (M_set_pore z y) = M_minutes z := rfl
theorem M_minutes_set_breaks (z : MS) (y : (Nat → Int32)) : M_minutes (M_set_breaks z y) = M_minutes z := rfl
theorem M_minutes_set_rate (z : MS) (y : (Nat → Int32)) : M_minutes (M_set_rate z y) = M_minutes z := rfl
theorem M_minutes_set_bearsGas (z : MS) (y : (Nat → Int32)) : M_minutes (M_set_bearsGas z y) = M_minutes z := rfl
theorem M_minutes_set_depth (z : MS) (y : Int32) : M_minutes (M_set_depth z y) = M_minutes z := rfl
theorem M_minutes_set_shoe (z : MS) (y : Int32) : M_minutes (M_set_shoe z y) = M_minutes z := rfl
theorem M_minutes_set_weight (z : MS) (y : Int32) : M_minutes (M_set_weight z y) = M_minutes z := rfl
theorem M_minutes_set_isClosed (z : MS) (y : Int32) : M_minutes (M_set_isClosed z y) = M_minutes z := rfl
theorem M_minutes_set_choke (z : MS) (y : Int32) : M_minutes (M_set_choke z y) = M_minutes z := rfl
theorem M_minutes_set_charge (z : MS) (y : Int64) : M_minutes (M_set_charge z y) = M_minutes z := rfl
theorem M_minutes_set_place (z : MS) (y : Int32) : M_minutes (M_set_place z y) = M_minutes z := rfl
theorem M_minutes_set_gas (z : MS) (y : Int32) : M_minutes (M_set_gas z y) = M_minutes z := rfl
theorem M_minutes_set_liquid (z : MS) (y : Int32) : M_minutes (M_set_liquid z y) = M_minutes z := rfl
theorem M_minutes_set_minutes (z : MS) (y : Int32) : M_minutes (M_set_minutes z y) = y := rfl
theorem M_minutes_set_vented (z : MS) (y : Int64) : M_minutes (M_set_vented z y) = M_minutes z := rfl
theorem M_minutes_set_lost (z : MS) (y : Int64) : M_minutes (M_set_lost z y) = M_minutes z := rfl
theorem M_minutes_set_pumped (z : MS) (y : Int32) : M_minutes (M_set_pumped z y) = M_minutes z := rfl
theorem M_minutes_set_pumpedWeight (z : MS) (y : Int32) : M_minutes (M_set_pumpedWeight z y) = M_minutes z := rfl
theorem M_minutes_set_valve (z : MS) (y : Int32) : M_minutes (M_set_valve z y) = M_minutes z := rfl
theorem M_minutes_set_brokenAfter (z : MS) (y : Int32) : M_minutes (M_set_brokenAfter z y) = M_minutes z := rfl
theorem M_minutes_set_cement (z : MS) (y : Int32) : M_minutes (M_set_cement z y) = M_minutes z := rfl
theorem M_minutes_set_casedAfter (z : MS) (y : Int32) : M_minutes (M_set_casedAfter z y) = M_minutes z := rfl
theorem M_minutes_set_flowed (z : MS) (y : Int32) : M_minutes (M_set_flowed z y) = M_minutes z := rfl
theorem M_minutes_set_kept (z : MS) (y : (Nat → Int64)) : M_minutes (M_set_kept z y) = M_minutes z := rfl
theorem M_minutes_set_tests (z : MS) (y : Int32) : M_minutes (M_set_tests z y) = M_minutes z := rfl
theorem M_minutes_set_tested (z : MS) (y : (Nat → Int32)) : M_minutes (M_set_tested z y) = M_minutes z := rfl
theorem M_minutes_set_by (z : MS) (y : (Nat → Int32)) : M_minutes (M_set_by z y) = M_minutes z := rfl
theorem M_minutes_set_isPassed (z : MS) (y : (Nat → Int32)) : M_minutes (M_set_isPassed z y) = M_minutes z := rfl
theorem M_minutes_set_testedAt (z : MS) (y : (Nat → Int32)) : M_minutes (M_set_testedAt z y) = M_minutes z := rfl
theorem M_minutes_set_stops (z : MS) (y : (Nat → Int32)) : M_minutes (M_set_stops z y) = M_minutes z := rfl
theorem M_vented_set_thrown (z : MS) (y : Int32) : M_vented (M_set_thrown z y) = M_vented z := rfl
theorem M_vented_set_pore (z : MS) (y : (Nat → Int32)) : M_vented (M_set_pore z y) = M_vented z := rfl
theorem M_vented_set_breaks (z : MS) (y : (Nat → Int32)) : M_vented (M_set_breaks z y) = M_vented z := rfl
theorem M_vented_set_rate (z : MS) (y : (Nat → Int32)) : M_vented (M_set_rate z y) = M_vented z := rfl
theorem M_vented_set_bearsGas (z : MS) (y : (Nat → Int32)) : M_vented (M_set_bearsGas z y) = M_vented z := rfl
theorem M_vented_set_depth (z : MS) (y : Int32) : M_vented (M_set_depth z y) = M_vented z := rfl
theorem M_vented_set_shoe (z : MS) (y : Int32) : M_vented (M_set_shoe z y) = M_vented z := rfl
theorem M_vented_set_weight (z : MS) (y : Int32) : M_vented (M_set_weight z y) = M_vented z := rfl
theorem M_vented_set_isClosed (z : MS) (y : Int32) : M_vented (M_set_isClosed z y) = M_vented z := rfl
theorem M_vented_set_choke (z : MS) (y : Int32) : M_vented (M_set_choke z y) = M_vented z := rfl
theorem M_vented_set_charge (z : MS) (y : Int64) : M_vented (M_set_charge z y) = M_vented z := rfl
theorem M_vented_set_place (z : MS) (y : Int32) : M_vented (M_set_place z y) = M_vented z := rfl
theorem M_vented_set_gas (z : MS) (y : Int32) : M_vented (M_set_gas z y) = M_vented z := rfl
theorem M_vented_set_liquid (z : MS) (y : Int32) : M_vented (M_set_liquid z y) = M_vented z := rfl
theorem M_vented_set_minutes (z : MS) (y : Int32) : M_vented (M_set_minutes z y) = M_vented z := rfl
theorem M_vented_set_vented (z : MS) (y : Int64) : M_vented (M_set_vented z y) = y := rfl
theorem M_vented_set_lost (z : MS) (y : Int64) : M_vented (M_set_lost z y) = M_vented z := rfl
theorem M_vented_set_pumped (z : MS) (y : Int32) : M_vented (M_set_pumped z y) = M_vented z := rfl
theorem M_vented_set_pumpedWeight (z : MS) (y : Int32) : M_vented (M_set_pumpedWeight z y) = M_vented z := rfl
theorem M_vented_set_valve (z : MS) (y : Int32) : M_vented (M_set_valve z y) = M_vented z := rfl
theorem M_vented_set_brokenAfter (z : MS) (y : Int32) : M_vented (M_set_brokenAfter z y) = M_vented z := rfl
theorem M_vented_set_cement (z : MS) (y : Int32) : M_vented (M_set_cement z y) = M_vented z := rfl
theorem M_vented_set_casedAfter (z : MS) (y : Int32) : M_vented (M_set_casedAfter z y) = M_vented z := rfl
theorem M_vented_set_flowed (z : MS) (y : Int32) : M_vented (M_set_flowed z y) = M_vented z := rfl
theorem M_vented_set_kept (z : MS) (y : (Nat → Int64)) : M_vented (M_set_kept z y) = M_vented z := rfl
theorem M_vented_set_tests (z : MS) (y : Int32) : M_vented (M_set_tests z y) = M_vented z := rfl
theorem M_vented_set_tested (z : MS) (y : (Nat → Int32)) : M_vented (M_set_tested z y) = M_vented z := rfl
theorem M_vented_set_by (z : MS) (y : (Nat → Int32)) : M_vented (M_set_by z y) = M_vented z := rfl
theorem M_vented_set_isPassed (z : MS) (y : (Nat → Int32)) : M_vented (M_set_isPassed z y) = M_vented z := rfl
theorem M_vented_set_testedAt (z : MS) (y : (Nat → Int32)) : M_vented (M_set_testedAt z y) = M_vented z := rfl
theorem M_vented_set_stops (z : MS) (y : (Nat → Int32)) : M_vented (M_set_stops z y) = M_vented z := rfl
theorem M_lost_set_thrown (z : MS) (y : Int32) : M_lost (M_set_thrown z y) = M_lost z := rfl
theorem M_lost_set_pore (z : MS) (y : (Nat → Int32)) : M_lost (M_set_pore z y) = M_lost z := rfl
theorem M_lost_set_breaks (z : MS) (y : (Nat → Int32)) : M_lost (M_set_breaks z y) = M_lost z := rfl
theorem M_lost_set_rate (z : MS) (y : (Nat → Int32)) : M_lost (M_set_rate z y) = M_lost z := rfl
theorem M_lost_set_bearsGas (z : MS) (y : (Nat → Int32)) : M_lost (M_set_bearsGas z y) = M_lost z := rfl
theorem M_lost_set_depth (z : MS) (y : Int32) : M_lost (M_set_depth z y) = M_lost z := rfl
theorem M_lost_set_shoe (z : MS) (y : Int32) : M_lost (M_set_shoe z y) = M_lost z := rfl
theorem M_lost_set_weight (z : MS) (y : Int32) : M_lost (M_set_weight z y) = M_lost z := rfl
theorem M_lost_set_isClosed (z : MS) (y : Int32) : M_lost (M_set_isClosed z y) = M_lost z := rfl
theorem M_lost_set_choke (z : MS) (y : Int32) : M_lost (M_set_choke z y) = M_lost z := rfl
theorem M_lost_set_charge (z : MS) (y : Int64) : M_lost (M_set_charge z y) = M_lost z := rfl
theorem M_lost_set_place (z : MS) (y : Int32) : M_lost (M_set_place z y) = M_lost z := rfl
theorem M_lost_set_gas (z : MS) (y : Int32) : M_lost (M_set_gas z y) = M_lost z := rfl
theorem M_lost_set_liquid (z : MS) (y : Int32) : M_lost (M_set_liquid z y) = M_lost z := rfl
theorem M_lost_set_minutes (z : MS) (y : Int32) : M_lost (M_set_minutes z y) = M_lost z := rfl
theorem M_lost_set_vented (z : MS) (y : Int64) : M_lost (M_set_vented z y) = M_lost z := rfl
theorem M_lost_set_lost (z : MS) (y : Int64) : M_lost (M_set_lost z y) = y := rfl
theorem M_lost_set_pumped (z : MS) (y : Int32) : M_lost (M_set_pumped z y) = M_lost z := rfl
theorem M_lost_set_pumpedWeight (z : MS) (y : Int32) : M_lost (M_set_pumpedWeight z y) = M_lost z := rfl
theorem M_lost_set_valve (z : MS) (y : Int32) : M_lost (M_set_valve z y) = M_lost z := rfl
theorem M_lost_set_brokenAfter (z : MS) (y : Int32) : M_lost (M_set_brokenAfter z y) = M_lost z := rfl
theorem M_lost_set_cement (z : MS) (y : Int32) : M_lost (M_set_cement z y) = M_lost z := rfl
theorem M_lost_set_casedAfter (z : MS) (y : Int32) : M_lost (M_set_casedAfter z y) = M_lost z := rfl
theorem M_lost_set_flowed (z : MS) (y : Int32) : M_lost (M_set_flowed z y) = M_lost z := rfl
theorem M_lost_set_kept (z : MS) (y : (Nat → Int64)) : M_lost (M_set_kept z y) = M_lost z := rfl
theorem M_lost_set_tests (z : MS) (y : Int32) : M_lost (M_set_tests z y) = M_lost z := rfl
theorem M_lost_set_tested (z : MS) (y : (Nat → Int32)) : M_lost (M_set_tested z y) = M_lost z := rfl
theorem M_lost_set_by (z : MS) (y : (Nat → Int32)) : M_lost (M_set_by z y) = M_lost z := rfl
theorem M_lost_set_isPassed (z : MS) (y : (Nat → Int32)) : M_lost (M_set_isPassed z y) = M_lost z := rfl
theorem M_lost_set_testedAt (z : MS) (y : (Nat → Int32)) : M_lost (M_set_testedAt z y) = M_lost z := rfl
theorem M_lost_set_stops (z : MS) (y : (Nat → Int32)) : M_lost (M_set_stops z y) = M_lost z := rfl
theorem M_pumped_set_thrown (z : MS) (y : Int32) : M_pumped (M_set_thrown z y) = M_pumped z := rfl
theorem M_pumped_set_pore (z : MS) (y : (Nat → Int32)) : M_pumped (M_set_pore z y) = M_pumped z := rfl
theorem M_pumped_set_breaks (z : MS) (y : (Nat → Int32)) : M_pumped (M_set_breaks z y) = M_pumped z := rfl
theorem M_pumped_set_rate (z : MS) (y : (Nat → Int32)) : M_pumped (M_set_rate z y) = M_pumped z := rfl
theorem M_pumped_set_bearsGas (z : MS) (y : (Nat → Int32)) : M_pumped (M_set_bearsGas z y) = M_pumped z := rfl
theorem M_pumped_set_depth (z : MS) (y : Int32) : M_pumped (M_set_depth z y) = M_pumped z := rfl
theorem M_pumped_set_shoe (z : MS) (y : Int32) : M_pumped (M_set_shoe z y) = M_pumped z := rfl
theorem M_pumped_set_weight (z : MS) (y : Int32) : M_pumped (M_set_weight z y) = M_pumped z := rfl
theorem M_pumped_set_isClosed (z : MS) (y : Int32) : M_pumped (M_set_isClosed z y) = M_pumped z := rfl
theorem M_pumped_set_choke (z : MS) (y : Int32) : M_pumped (M_set_choke z y) = M_pumped z := rfl
theorem M_pumped_set_charge (z : MS) (y : Int64) : M_pumped (M_set_charge z y) = M_pumped z := rfl
theorem M_pumped_set_place (z : MS) (y : Int32) : M_pumped (M_set_place z y) = M_pumped z := rfl
theorem M_pumped_set_gas (z : MS) (y : Int32) : M_pumped (M_set_gas z y) = M_pumped z := rfl
theorem M_pumped_set_liquid (z : MS) (y : Int32) : M_pumped (M_set_liquid z y) = M_pumped z := rfl
theorem M_pumped_set_minutes (z : MS) (y : Int32) : M_pumped (M_set_minutes z y) = M_pumped z := rfl
theorem M_pumped_set_vented (z : MS) (y : Int64) : M_pumped (M_set_vented z y) = M_pumped z := rfl
theorem M_pumped_set_lost (z : MS) (y : Int64) : M_pumped (M_set_lost z y) = M_pumped z := rfl
theorem M_pumped_set_pumped (z : MS) (y : Int32) : M_pumped (M_set_pumped z y) = y := rfl
theorem M_pumped_set_pumpedWeight (z : MS) (y : Int32) : M_pumped (M_set_pumpedWeight z y) = M_pumped z := rfl
theorem M_pumped_set_valve (z : MS) (y : Int32) : M_pumped (M_set_valve z y) = M_pumped z := rfl
theorem M_pumped_set_brokenAfter (z : MS) (y : Int32) : M_pumped (M_set_brokenAfter z y) = M_pumped z := rfl
theorem M_pumped_set_cement (z : MS) (y : Int32) : M_pumped (M_set_cement z y) = M_pumped z := rfl
theorem M_pumped_set_casedAfter (z : MS) (y : Int32) : M_pumped (M_set_casedAfter z y) = M_pumped z := rfl
theorem M_pumped_set_flowed (z : MS) (y : Int32) : M_pumped (M_set_flowed z y) = M_pumped z := rfl
theorem M_pumped_set_kept (z : MS) (y : (Nat → Int64)) : M_pumped (M_set_kept z y) = M_pumped z := rfl
theorem M_pumped_set_tests (z : MS) (y : Int32) : M_pumped (M_set_tests z y) = M_pumped z := rfl
theorem M_pumped_set_tested (z : MS) (y : (Nat → Int32)) : M_pumped (M_set_tested z y) = M_pumped z := rfl
theorem M_pumped_set_by (z : MS) (y : (Nat → Int32)) : M_pumped (M_set_by z y) = M_pumped z := rfl
theorem M_pumped_set_isPassed (z : MS) (y : (Nat → Int32)) : M_pumped (M_set_isPassed z y) = M_pumped z := rfl
theorem M_pumped_set_testedAt (z : MS) (y : (Nat → Int32)) : M_pumped (M_set_testedAt z y) = M_pumped z := rfl
theorem M_pumped_set_stops (z : MS) (y : (Nat → Int32)) : M_pumped (M_set_stops z y) = M_pumped z := rfl
theorem M_pumpedWeight_set_thrown (z : MS) (y : Int32) : M_pumpedWeight (M_set_thrown z y) = M_pumpedWeight z := rfl
theorem M_pumpedWeight_set_pore (z : MS) (y : (Nat → Int32)) : M_pumpedWeight (M_set_pore z y) = M_pumpedWeight z := rfl
theorem M_pumpedWeight_set_breaks (z : MS) (y : (Nat → Int32)) : M_pumpedWeight (M_set_breaks z y) = M_pumpedWeight z := rfl
theorem M_pumpedWeight_set_rate (z : MS) (y : (Nat → Int32)) : M_pumpedWeight (M_set_rate z y) = M_pumpedWeight z := rfl
theorem M_pumpedWeight_set_bearsGas (z : MS) (y : (Nat → Int32)) : M_pumpedWeight (M_set_bearsGas z y) = M_pumpedWeight z := rfl
theorem M_pumpedWeight_set_depth (z : MS) (y : Int32) : M_pumpedWeight (M_set_depth z y) = M_pumpedWeight z := rfl
theorem M_pumpedWeight_set_shoe (z : MS) (y : Int32) : M_pumpedWeight (M_set_shoe z y) = M_pumpedWeight z := rfl
theorem M_pumpedWeight_set_weight (z : MS) (y : Int32) : M_pumpedWeight (M_set_weight z y) = M_pumpedWeight z := rfl
theorem M_pumpedWeight_set_isClosed (z : MS) (y : Int32) : M_pumpedWeight (M_set_isClosed z y) = M_pumpedWeight z := rfl
theorem M_pumpedWeight_set_choke (z : MS) (y : Int32) : M_pumpedWeight (M_set_choke z y) = M_pumpedWeight z := rfl
theorem M_pumpedWeight_set_charge (z : MS) (y : Int64) : M_pumpedWeight (M_set_charge z y) = M_pumpedWeight z := rfl
theorem M_pumpedWeight_set_place (z : MS) (y : Int32) : M_pumpedWeight (M_set_place z y) = M_pumpedWeight z := rfl
theorem M_pumpedWeight_set_gas (z : MS) (y : Int32) : M_pumpedWeight (M_set_gas z y) = M_pumpedWeight z := rfl
theorem M_pumpedWeight_set_liquid (z : MS) (y : Int32) : M_pumpedWeight (M_set_liquid z y) = M_pumpedWeight z := rfl
theorem M_pumpedWeight_set_minutes (z : MS) (y : Int32) : M_pumpedWeight (M_set_minutes z y) = M_pumpedWeight z := rfl
theorem M_pumpedWeight_set_vented (z : MS) (y : Int64) : M_pumpedWeight (M_set_vented z y) = M_pumpedWeight z := rfl
theorem M_pumpedWeight_set_lost (z : MS) (y : Int64) : M_pumpedWeight (M_set_lost z y) = M_pumpedWeight z := rfl
theorem M_pumpedWeight_set_pumped (z : MS) (y : Int32) : M_pumpedWeight (M_set_pumped z y) = M_pumpedWeight z := rfl
theorem M_pumpedWeight_set_pumpedWeight (z : MS) (y : Int32) : M_pumpedWeight (M_set_pumpedWeight z y) = y := rfl
theorem M_pumpedWeight_set_valve (z : MS) (y : Int32) : M_pumpedWeight (M_set_valve z y) = M_pumpedWeight z := rfl
theorem M_pumpedWeight_set_brokenAfter (z : MS) (y : Int32) : M_pumpedWeight (M_set_brokenAfter z y) = M_pumpedWeight z := rfl
theorem M_pumpedWeight_set_cement (z : MS) (y : Int32) : M_pumpedWeight (M_set_cement z y) = M_pumpedWeight z := rfl
theorem M_pumpedWeight_set_casedAfter (z : MS) (y : Int32) : M_pumpedWeight (M_set_casedAfter z y) = M_pumpedWeight z := rfl
theorem M_pumpedWeight_set_flowed (z : MS) (y : Int32) : M_pumpedWeight (M_set_flowed z y) = M_pumpedWeight z := rfl
theorem M_pumpedWeight_set_kept (z : MS) (y : (Nat → Int64)) : M_pumpedWeight (M_set_kept z y) = M_pumpedWeight z := rfl
theorem M_pumpedWeight_set_tests (z : MS) (y : Int32) : M_pumpedWeight (M_set_tests z y) = M_pumpedWeight z := rfl
theorem M_pumpedWeight_set_tested (z : MS) (y : (Nat → Int32)) : M_pumpedWeight (M_set_tested z y) = M_pumpedWeight z := rfl
theorem M_pumpedWeight_set_by (z : MS) (y : (Nat → Int32)) : M_pumpedWeight (M_set_by z y) = M_pumpedWeight z := rfl
theorem M_pumpedWeight_set_isPassed (z : MS) (y : (Nat → Int32)) : M_pumpedWeight (M_set_isPassed z y) = M_pumpedWeight z := rfl
theorem M_pumpedWeight_set_testedAt (z : MS) (y : (Nat → Int32)) : M_pumpedWeight (M_set_testedAt z y) = M_pumpedWeight z := rfl
theorem M_pumpedWeight_set_stops (z : MS) (y : (Nat → Int32)) : M_pumpedWeight (M_set_stops z y) = M_pumpedWeight z := rfl
theorem M_valve_set_thrown (z : MS) (y : Int32) : M_valve (M_set_thrown z y) = M_valve z := rfl
theorem M_valve_set_pore (z : MS) (y : (Nat → Int32)) : M_valve (M_set_pore z y) = M_valve z := rfl
theorem M_valve_set_breaks (z : MS) (y : (Nat → Int32)) : M_valve (M_set_breaks z y) = M_valve z := rfl
theorem M_valve_set_rate (z : MS) (y : (Nat → Int32)) : M_valve (M_set_rate z y) = M_valve z := rfl
theorem M_valve_set_bearsGas (z : MS) (y : (Nat → Int32)) : M_valve (M_set_bearsGas z y) = M_valve z := rfl
theorem M_valve_set_depth (z : MS) (y : Int32) : M_valve (M_set_depth z y) = M_valve z := rfl
theorem M_valve_set_shoe (z : MS) (y : Int32) : M_valve (M_set_shoe z y) = M_valve z := rfl
theorem M_valve_set_weight (z : MS) (y : Int32) : M_valve (M_set_weight z y) = M_valve z := rfl
theorem M_valve_set_isClosed (z : MS) (y : Int32) : M_valve (M_set_isClosed z y) = M_valve z := rfl
theorem M_valve_set_choke (z : MS) (y : Int32) : M_valve (M_set_choke z y) = M_valve z := rfl
theorem M_valve_set_charge (z : MS) (y : Int64) : M_valve (M_set_charge z y) = M_valve z := rfl
theorem M_valve_set_place (z : MS) (y : Int32) : M_valve (M_set_place z y) = M_valve z := rfl
theorem M_valve_set_gas (z : MS) (y : Int32) : M_valve (M_set_gas z y) = M_valve z := rfl
theorem M_valve_set_liquid (z : MS) (y : Int32) : M_valve (M_set_liquid z y) = M_valve z := rfl
theorem M_valve_set_minutes (z : MS) (y : Int32) : M_valve (M_set_minutes z y) = M_valve z := rfl
theorem M_valve_set_vented (z : MS) (y : Int64) : M_valve (M_set_vented z y) = M_valve z := rfl
theorem M_valve_set_lost (z : MS) (y : Int64) : M_valve (M_set_lost z y) = M_valve z := rfl
theorem M_valve_set_pumped (z : MS) (y : Int32) : M_valve (M_set_pumped z y) = M_valve z := rfl
theorem M_valve_set_pumpedWeight (z : MS) (y : Int32) : M_valve (M_set_pumpedWeight z y) = M_valve z := rfl
theorem M_valve_set_valve (z : MS) (y : Int32) : M_valve (M_set_valve z y) = y := rfl
theorem M_valve_set_brokenAfter (z : MS) (y : Int32) : M_valve (M_set_brokenAfter z y) = M_valve z := rfl
theorem M_valve_set_cement (z : MS) (y : Int32) : M_valve (M_set_cement z y) = M_valve z := rfl
theorem M_valve_set_casedAfter (z : MS) (y : Int32) : M_valve (M_set_casedAfter z y) = M_valve z := rfl
theorem M_valve_set_flowed (z : MS) (y : Int32) : M_valve (M_set_flowed z y) = M_valve z := rfl
theorem M_valve_set_kept (z : MS) (y : (Nat → Int64)) : M_valve (M_set_kept z y) = M_valve z := rfl
theorem M_valve_set_tests (z : MS) (y : Int32) : M_valve (M_set_tests z y) = M_valve z := rfl
theorem M_valve_set_tested (z : MS) (y : (Nat → Int32)) : M_valve (M_set_tested z y) = M_valve z := rfl
theorem M_valve_set_by (z : MS) (y : (Nat → Int32)) : M_valve (M_set_by z y) = M_valve z := rfl
theorem M_valve_set_isPassed (z : MS) (y : (Nat → Int32)) : M_valve (M_set_isPassed z y) = M_valve z := rfl
theorem M_valve_set_testedAt (z : MS) (y : (Nat → Int32)) : M_valve (M_set_testedAt z y) = M_valve z := rfl
theorem M_valve_set_stops (z : MS) (y : (Nat → Int32)) : M_valve (M_set_stops z y) = M_valve z := rfl
theorem M_brokenAfter_set_thrown (z : MS) (y : Int32) : M_brokenAfter (M_set_thrown z y) = M_brokenAfter z := rfl
theorem M_brokenAfter_set_pore (z : MS) (y : (Nat → Int32)) : M_brokenAfter (M_set_pore z y) = M_brokenAfter z := rfl
theorem M_brokenAfter_set_breaks (z : MS) (y : (Nat → Int32)) : M_brokenAfter (M_set_breaks z y) = M_brokenAfter z := rfl
theorem M_brokenAfter_set_rate (z : MS) (y : (Nat → Int32)) : M_brokenAfter (M_set_rate z y) = M_brokenAfter z := rfl
theorem M_brokenAfter_set_bearsGas (z : MS) (y : (Nat → Int32)) : M_brokenAfter (M_set_bearsGas z y) = M_brokenAfter z := rfl
theorem M_brokenAfter_set_depth (z : MS) (y : Int32) : M_brokenAfter (M_set_depth z y) = M_brokenAfter z := rfl
theorem M_brokenAfter_set_shoe (z : MS) (y : Int32) : M_brokenAfter (M_set_shoe z y) = M_brokenAfter z := rfl
theorem M_brokenAfter_set_weight (z : MS) (y : Int32) : M_brokenAfter (M_set_weight z y) = M_brokenAfter z := rfl
theorem M_brokenAfter_set_isClosed (z : MS) (y : Int32) : M_brokenAfter (M_set_isClosed z y) = M_brokenAfter z := rfl
theorem M_brokenAfter_set_choke (z : MS) (y : Int32) : M_brokenAfter (M_set_choke z y) = M_brokenAfter z := rfl
theorem M_brokenAfter_set_charge (z : MS) (y : Int64) : M_brokenAfter (M_set_charge z y) = M_brokenAfter z := rfl
theorem M_brokenAfter_set_place (z : MS) (y : Int32) : M_brokenAfter (M_set_place z y) = M_brokenAfter z := rfl
theorem M_brokenAfter_set_gas (z : MS) (y : Int32) : M_brokenAfter (M_set_gas z y) = M_brokenAfter z := rfl
theorem M_brokenAfter_set_liquid (z : MS) (y : Int32) : M_brokenAfter (M_set_liquid z y) = M_brokenAfter z := rfl
theorem M_brokenAfter_set_minutes (z : MS) (y : Int32) : M_brokenAfter (M_set_minutes z y) = M_brokenAfter z := rfl
theorem M_brokenAfter_set_vented (z : MS) (y : Int64) : M_brokenAfter (M_set_vented z y) = M_brokenAfter z := rfl
theorem M_brokenAfter_set_lost (z : MS) (y : Int64) : M_brokenAfter (M_set_lost z y) = M_brokenAfter z := rfl
theorem M_brokenAfter_set_pumped (z : MS) (y : Int32) : M_brokenAfter (M_set_pumped z y) = M_brokenAfter z := rfl
theorem M_brokenAfter_set_pumpedWeight (z : MS) (y : Int32) : M_brokenAfter (M_set_pumpedWeight z y) = M_brokenAfter z := rfl
theorem M_brokenAfter_set_valve (z : MS) (y : Int32) : M_brokenAfter (M_set_valve z y) = M_brokenAfter z := rfl
theorem M_brokenAfter_set_brokenAfter (z : MS) (y : Int32) : M_brokenAfter (M_set_brokenAfter z y) = y := rfl
theorem M_brokenAfter_set_cement (z : MS) (y : Int32) : M_brokenAfter (M_set_cement z y) = M_brokenAfter z := rfl
theorem M_brokenAfter_set_casedAfter (z : MS) (y : Int32) : M_brokenAfter (M_set_casedAfter z y) = M_brokenAfter z := rfl
theorem M_brokenAfter_set_flowed (z : MS) (y : Int32) : M_brokenAfter (M_set_flowed z y) = M_brokenAfter z := rfl
theorem M_brokenAfter_set_kept (z : MS) (y : (Nat → Int64)) : M_brokenAfter (M_set_kept z y) = M_brokenAfter z := rfl
theorem M_brokenAfter_set_tests (z : MS) (y : Int32) : M_brokenAfter (M_set_tests z y) = M_brokenAfter z := rfl
theorem M_brokenAfter_set_tested (z : MS) (y : (Nat → Int32)) : M_brokenAfter (M_set_tested z y) = M_brokenAfter z := rfl
theorem M_brokenAfter_set_by (z : MS) (y : (Nat → Int32)) : M_brokenAfter (M_set_by z y) = M_brokenAfter z := rfl
theorem M_brokenAfter_set_isPassed (z : MS) (y : (Nat → Int32)) : M_brokenAfter (M_set_isPassed z y) = M_brokenAfter z := rfl
theorem M_brokenAfter_set_testedAt (z : MS) (y : (Nat → Int32)) : M_brokenAfter (M_set_testedAt z y) = M_brokenAfter z := rfl
theorem M_brokenAfter_set_stops (z : MS) (y : (Nat → Int32)) : M_brokenAfter (M_set_stops z y) = M_brokenAfter z := rfl
theorem M_cement_set_thrown (z : MS) (y : Int32) : M_cement (M_set_thrown z y) = M_cement z := rfl
theorem M_cement_set_pore (z : MS) (y : (Nat → Int32)) : M_cement (M_set_pore z y) = M_cement z := rfl
theorem M_cement_set_breaks (z : MS) (y : (Nat → Int32)) : M_cement (M_set_breaks z y) = M_cement z := rfl
theorem M_cement_set_rate (z : MS) (y : (Nat → Int32)) : M_cement (M_set_rate z y) = M_cement z := rfl
theorem M_cement_set_bearsGas (z : MS) (y : (Nat → Int32)) : M_cement (M_set_bearsGas z y) = M_cement z := rfl
theorem M_cement_set_depth (z : MS) (y : Int32) : M_cement (M_set_depth z y) = M_cement z := rfl
theorem M_cement_set_shoe (z : MS) (y : Int32) : M_cement (M_set_shoe z y) = M_cement z := rfl
theorem M_cement_set_weight (z : MS) (y : Int32) : M_cement (M_set_weight z y) = M_cement z := rfl
theorem M_cement_set_isClosed (z : MS) (y : Int32) : M_cement (M_set_isClosed z y) = M_cement z := rfl
theorem M_cement_set_choke (z : MS) (y : Int32) : M_cement (M_set_choke z y) = M_cement z := rfl
theorem M_cement_set_charge (z : MS) (y : Int64) : M_cement (M_set_charge z y) = M_cement z := rfl
theorem M_cement_set_place (z : MS) (y : Int32) : M_cement (M_set_place z y) = M_cement z := rfl
theorem M_cement_set_gas (z : MS) (y : Int32) : M_cement (M_set_gas z y) = M_cement z := rfl
theorem M_cement_set_liquid (z : MS) (y : Int32) : M_cement (M_set_liquid z y) = M_cement z := rfl
theorem M_cement_set_minutes (z : MS) (y : Int32) : M_cement (M_set_minutes z y) = M_cement z := rfl
theorem M_cement_set_vented (z : MS) (y : Int64) : M_cement (M_set_vented z y) = M_cement z := rfl
theorem M_cement_set_lost (z : MS) (y : Int64) : M_cement (M_set_lost z y) = M_cement z := rfl
theorem M_cement_set_pumped (z : MS) (y : Int32) : M_cement (M_set_pumped z y) = M_cement z := rfl
theorem M_cement_set_pumpedWeight (z : MS) (y : Int32) : M_cement (M_set_pumpedWeight z y) = M_cement z := rfl
theorem M_cement_set_valve (z : MS) (y : Int32) : M_cement (M_set_valve z y) = M_cement z := rfl
theorem M_cement_set_brokenAfter (z : MS) (y : Int32) : M_cement (M_set_brokenAfter z y) = M_cement z := rfl
theorem M_cement_set_cement (z : MS) (y : Int32) : M_cement (M_set_cement z y) = y := rfl
theorem M_cement_set_casedAfter (z : MS) (y : Int32) : M_cement (M_set_casedAfter z y) = M_cement z := rfl
theorem M_cement_set_flowed (z : MS) (y : Int32) : M_cement (M_set_flowed z y) = M_cement z := rfl
theorem M_cement_set_kept (z : MS) (y : (Nat → Int64)) : M_cement (M_set_kept z y) = M_cement z := rfl
theorem M_cement_set_tests (z : MS) (y : Int32) : M_cement (M_set_tests z y) = M_cement z := rfl
theorem M_cement_set_tested (z : MS) (y : (Nat → Int32)) : M_cement (M_set_tested z y) = M_cement z := rfl
theorem M_cement_set_by (z : MS) (y : (Nat → Int32)) : M_cement (M_set_by z y) = M_cement z := rfl
theorem M_cement_set_isPassed (z : MS) (y : (Nat → Int32)) : M_cement (M_set_isPassed z y) = M_cement z := rfl
theorem M_cement_set_testedAt (z : MS) (y : (Nat → Int32)) : M_cement (M_set_testedAt z y) = M_cement z := rfl
theorem M_cement_set_stops (z : MS) (y : (Nat → Int32)) : M_cement (M_set_stops z y) = M_cement z := rfl
theorem M_casedAfter_set_thrown (z : MS) (y : Int32) : M_casedAfter (M_set_thrown z y) = M_casedAfter z := rfl
theorem M_casedAfter_set_pore (z : MS) (y : (Nat → Int32)) : M_casedAfter (M_set_pore z y) = M_casedAfter z := rfl
theorem M_casedAfter_set_breaks (z : MS) (y : (Nat → Int32)) : M_casedAfter (M_set_breaks z y) = M_casedAfter z := rfl
theorem M_casedAfter_set_rate (z : MS) (y : (Nat → Int32)) : M_casedAfter (M_set_rate z y) = M_casedAfter z := rfl
theorem M_casedAfter_set_bearsGas (z : MS) (y : (Nat → Int32)) : M_casedAfter (M_set_bearsGas z y) = M_casedAfter z := rfl
theorem M_casedAfter_set_depth (z : MS) (y : Int32) : M_casedAfter (M_set_depth z y) = M_casedAfter z := rfl
theorem M_casedAfter_set_shoe (z : MS) (y : Int32) : M_casedAfter (M_set_shoe z y) = M_casedAfter z := rfl
theorem M_casedAfter_set_weight (z : MS) (y : Int32) : M_casedAfter (M_set_weight z y) = M_casedAfter z := rfl
theorem M_casedAfter_set_isClosed (z : MS) (y : Int32) : M_casedAfter (M_set_isClosed z y) = M_casedAfter z := rfl
theorem M_casedAfter_set_choke (z : MS) (y : Int32) : M_casedAfter (M_set_choke z y) = M_casedAfter z := rfl
theorem M_casedAfter_set_charge (z : MS) (y : Int64) : M_casedAfter (M_set_charge z y) = M_casedAfter z := rfl
theorem M_casedAfter_set_place (z : MS) (y : Int32) : M_casedAfter (M_set_place z y) = M_casedAfter z := rfl
theorem M_casedAfter_set_gas (z : MS) (y : Int32) : M_casedAfter (M_set_gas z y) = M_casedAfter z := rfl
theorem M_casedAfter_set_liquid (z : MS) (y : Int32) : M_casedAfter (M_set_liquid z y) = M_casedAfter z := rfl
theorem M_casedAfter_set_minutes (z : MS) (y : Int32) : M_casedAfter (M_set_minutes z y) = M_casedAfter z := rfl
theorem M_casedAfter_set_vented (z : MS) (y : Int64) : M_casedAfter (M_set_vented z y) = M_casedAfter z := rfl
theorem M_casedAfter_set_lost (z : MS) (y : Int64) : M_casedAfter (M_set_lost z y) = M_casedAfter z := rfl
theorem M_casedAfter_set_pumped (z : MS) (y : Int32) : M_casedAfter (M_set_pumped z y) = M_casedAfter z := rfl
theorem M_casedAfter_set_pumpedWeight (z : MS) (y : Int32) : M_casedAfter (M_set_pumpedWeight z y) = M_casedAfter z := rfl
theorem M_casedAfter_set_valve (z : MS) (y : Int32) : M_casedAfter (M_set_valve z y) = M_casedAfter z := rfl
theorem M_casedAfter_set_brokenAfter (z : MS) (y : Int32) : M_casedAfter (M_set_brokenAfter z y) = M_casedAfter z := rfl
theorem M_casedAfter_set_cement (z : MS) (y : Int32) : M_casedAfter (M_set_cement z y) = M_casedAfter z := rfl
theorem M_casedAfter_set_casedAfter (z : MS) (y : Int32) : M_casedAfter (M_set_casedAfter z y) = y := rfl
theorem M_casedAfter_set_flowed (z : MS) (y : Int32) : M_casedAfter (M_set_flowed z y) = M_casedAfter z := rfl
theorem M_casedAfter_set_kept (z : MS) (y : (Nat → Int64)) : M_casedAfter (M_set_kept z y) = M_casedAfter z := rfl
theorem M_casedAfter_set_tests (z : MS) (y : Int32) : M_casedAfter (M_set_tests z y) = M_casedAfter z := rfl
theorem M_casedAfter_set_tested (z : MS) (y : (Nat → Int32)) : M_casedAfter (M_set_tested z y) = M_casedAfter z := rfl
theorem M_casedAfter_set_by (z : MS) (y : (Nat → Int32)) : M_casedAfter (M_set_by z y) = M_casedAfter z := rfl
theorem M_casedAfter_set_isPassed (z : MS) (y : (Nat → Int32)) : M_casedAfter (M_set_isPassed z y) = M_casedAfter z := rfl
theorem M_casedAfter_set_testedAt (z : MS) (y : (Nat → Int32)) : M_casedAfter (M_set_testedAt z y) = M_casedAfter z := rfl
theorem M_casedAfter_set_stops (z : MS) (y : (Nat → Int32)) : M_casedAfter (M_set_stops z y) = M_casedAfter z := rfl
theorem M_flowed_set_thrown (z : MS) (y : Int32) : M_flowed (M_set_thrown z y) = M_flowed z := rfl
theorem M_flowed_set_pore (z : MS) (y : (Nat → Int32)) : M_flowed (M_set_pore z y) = M_flowed z := rfl
theorem M_flowed_set_breaks (z : MS) (y : (Nat → Int32)) : M_flowed (M_set_breaks z y) = M_flowed z := rfl
theorem M_flowed_set_rate (z : MS) (y : (Nat → Int32)) : M_flowed (M_set_rate z y) = M_flowed z := rfl
theorem M_flowed_set_bearsGas (z : MS) (y : (Nat → Int32)) : M_flowed (M_set_bearsGas z y) = M_flowed z := rfl
theorem M_flowed_set_depth (z : MS) (y : Int32) : M_flowed (M_set_depth z y) = M_flowed z := rfl
theorem M_flowed_set_shoe (z : MS) (y : Int32) : M_flowed (M_set_shoe z y) = M_flowed z := rfl
theorem M_flowed_set_weight (z : MS) (y : Int32) : M_flowed (M_set_weight z y) = M_flowed z := rfl
theorem M_flowed_set_isClosed (z : MS) (y : Int32) : M_flowed (M_set_isClosed z y) = M_flowed z := rfl
theorem M_flowed_set_choke (z : MS) (y : Int32) : M_flowed (M_set_choke z y) = M_flowed z := rfl
theorem M_flowed_set_charge (z : MS) (y : Int64) : M_flowed (M_set_charge z y) = M_flowed z := rfl
theorem M_flowed_set_place (z : MS) (y : Int32) : M_flowed (M_set_place z y) = M_flowed z := rfl
theorem M_flowed_set_gas (z : MS) (y : Int32) : M_flowed (M_set_gas z y) = M_flowed z := rfl
theorem M_flowed_set_liquid (z : MS) (y : Int32) : M_flowed (M_set_liquid z y) = M_flowed z := rfl
theorem M_flowed_set_minutes (z : MS) (y : Int32) : M_flowed (M_set_minutes z y) = M_flowed z := rfl
theorem M_flowed_set_vented (z : MS) (y : Int64) : M_flowed (M_set_vented z y) = M_flowed z := rfl
theorem M_flowed_set_lost (z : MS) (y : Int64) : M_flowed (M_set_lost z y) = M_flowed z := rfl
theorem M_flowed_set_pumped (z : MS) (y : Int32) : M_flowed (M_set_pumped z y) = M_flowed z := rfl
theorem M_flowed_set_pumpedWeight (z : MS) (y : Int32) : M_flowed (M_set_pumpedWeight z y) = M_flowed z := rfl
theorem M_flowed_set_valve (z : MS) (y : Int32) : M_flowed (M_set_valve z y) = M_flowed z := rfl
theorem M_flowed_set_brokenAfter (z : MS) (y : Int32) : M_flowed (M_set_brokenAfter z y) = M_flowed z := rfl
theorem M_flowed_set_cement (z : MS) (y : Int32) : M_flowed (M_set_cement z y) = M_flowed z := rfl
theorem M_flowed_set_casedAfter (z : MS) (y : Int32) : M_flowed (M_set_casedAfter z y) = M_flowed z := rfl
theorem M_flowed_set_flowed (z : MS) (y : Int32) : M_flowed (M_set_flowed z y) = y := rfl
theorem M_flowed_set_kept (z : MS) (y : (Nat → Int64)) : M_flowed (M_set_kept z y) = M_flowed z := rfl
theorem M_flowed_set_tests (z : MS) (y : Int32) : M_flowed (M_set_tests z y) = M_flowed z := rfl
theorem M_flowed_set_tested (z : MS) (y : (Nat → Int32)) : M_flowed (M_set_tested z y) = M_flowed z := rfl
theorem M_flowed_set_by (z : MS) (y : (Nat → Int32)) : M_flowed (M_set_by z y) = M_flowed z := rfl
theorem M_flowed_set_isPassed (z : MS) (y : (Nat → Int32)) : M_flowed (M_set_isPassed z y) = M_flowed z := rfl
theorem M_flowed_set_testedAt (z : MS) (y : (Nat → Int32)) : M_flowed (M_set_testedAt z y) = M_flowed z := rfl
theorem M_flowed_set_stops (z : MS) (y : (Nat → Int32)) : M_flowed (M_set_stops z y) = M_flowed z := rfl
theorem M_kept_set_thrown (z : MS) (y : Int32) : M_kept (M_set_thrown z y) = M_kept z := rfl
theorem M_kept_set_pore (z : MS) (y : (Nat → Int32)) : M_kept (M_set_pore z y) = M_kept z := rfl
theorem M_kept_set_breaks (z : MS) (y : (Nat → Int32)) : M_kept (M_set_breaks z y) = M_kept z := rfl
theorem M_kept_set_rate (z : MS) (y : (Nat → Int32)) : M_kept (M_set_rate z y) = M_kept z := rfl
theorem M_kept_set_bearsGas (z : MS) (y : (Nat → Int32)) : M_kept (M_set_bearsGas z y) = M_kept z := rfl
theorem M_kept_set_depth (z : MS) (y : Int32) : M_kept (M_set_depth z y) = M_kept z := rfl
theorem M_kept_set_shoe (z : MS) (y : Int32) : M_kept (M_set_shoe z y) = M_kept z := rfl
theorem M_kept_set_weight (z : MS) (y : Int32) : M_kept (M_set_weight z y) = M_kept z := rfl
theorem M_kept_set_isClosed (z : MS) (y : Int32) : M_kept (M_set_isClosed z y) = M_kept z := rfl
theorem M_kept_set_choke (z : MS) (y : Int32) : M_kept (M_set_choke z y) = M_kept z := rfl
theorem M_kept_set_charge (z : MS) (y : Int64) : M_kept (M_set_charge z y) = M_kept z := rfl
theorem M_kept_set_place (z : MS) (y : Int32) : M_kept (M_set_place z y) = M_kept z := rfl
theorem M_kept_set_gas (z : MS) (y : Int32) : M_kept (M_set_gas z y) = M_kept z := rfl
theorem M_kept_set_liquid (z : MS) (y : Int32) : M_kept (M_set_liquid z y) = M_kept z := rfl
theorem M_kept_set_minutes (z : MS) (y : Int32) : M_kept (M_set_minutes z y) = M_kept z := rfl
theorem M_kept_set_vented (z : MS) (y : Int64) : M_kept (M_set_vented z y) = M_kept z := rfl
theorem M_kept_set_lost (z : MS) (y : Int64) : M_kept (M_set_lost z y) = M_kept z := rfl
theorem M_kept_set_pumped (z : MS) (y : Int32) : M_kept (M_set_pumped z y) = M_kept z := rfl
theorem M_kept_set_pumpedWeight (z : MS) (y : Int32) : M_kept (M_set_pumpedWeight z y) = M_kept z := rfl
theorem M_kept_set_valve (z : MS) (y : Int32) : M_kept (M_set_valve z y) = M_kept z := rfl
theorem M_kept_set_brokenAfter (z : MS) (y : Int32) : M_kept (M_set_brokenAfter z y) = M_kept z := rfl
theorem M_kept_set_cement (z : MS) (y : Int32) : M_kept (M_set_cement z y) = M_kept z := rfl
theorem M_kept_set_casedAfter (z : MS) (y : Int32) : M_kept (M_set_casedAfter z y) = M_kept z := rfl
theorem M_kept_set_flowed (z : MS) (y : Int32) : M_kept (M_set_flowed z y) = M_kept z := rfl
theorem M_kept_set_kept (z : MS) (y : (Nat → Int64)) : M_kept (M_set_kept z y) = y := rfl
theorem M_kept_set_tests (z : MS) (y : Int32) : M_kept (M_set_tests z y) = M_kept z := rfl
theorem M_kept_set_tested (z : MS) (y : (Nat → Int32)) : M_kept (M_set_tested z y) = M_kept z := rfl
theorem M_kept_set_by (z : MS) (y : (Nat → Int32)) : M_kept (M_set_by z y) = M_kept z := rfl
theorem M_kept_set_isPassed (z : MS) (y : (Nat → Int32)) : M_kept (M_set_isPassed z y) = M_kept z := rfl
theorem M_kept_set_testedAt (z : MS) (y : (Nat → Int32)) : M_kept (M_set_testedAt z y) = M_kept z := rfl
theorem M_kept_set_stops (z : MS) (y : (Nat → Int32)) : M_kept (M_set_stops z y) = M_kept z := rfl
theorem M_tests_set_thrown (z : MS) (y : Int32) : M_tests (M_set_thrown z y) = M_tests z := rfl
theorem M_tests_set_pore (z : MS) (y : (Nat → Int32)) : M_tests (M_set_pore z y) = M_tests z := rfl
theorem M_tests_set_breaks (z : MS) (y : (Nat → Int32)) : M_tests (M_set_breaks z y) = M_tests z := rfl
theorem M_tests_set_rate (z : MS) (y : (Nat → Int32)) : M_tests (M_set_rate z y) = M_tests z := rfl
theorem M_tests_set_bearsGas (z : MS) (y : (Nat → Int32)) : M_tests (M_set_bearsGas z y) = M_tests z := rfl
theorem M_tests_set_depth (z : MS) (y : Int32) : M_tests (M_set_depth z y) = M_tests z := rfl
theorem M_tests_set_shoe (z : MS) (y : Int32) : M_tests (M_set_shoe z y) = M_tests z := rfl
theorem M_tests_set_weight (z : MS) (y : Int32) : M_tests (M_set_weight z y) = M_tests z := rfl
theorem M_tests_set_isClosed (z : MS) (y : Int32) : M_tests (M_set_isClosed z y) = M_tests z := rfl
theorem M_tests_set_choke (z : MS) (y : Int32) : M_tests (M_set_choke z y) = M_tests z := rfl
theorem M_tests_set_charge (z : MS) (y : Int64) : M_tests (M_set_charge z y) = M_tests z := rfl
theorem M_tests_set_place (z : MS) (y : Int32) : M_tests (M_set_place z y) = M_tests z := rfl
theorem M_tests_set_gas (z : MS) (y : Int32) : M_tests (M_set_gas z y) = M_tests z := rfl
theorem M_tests_set_liquid (z : MS) (y : Int32) : M_tests (M_set_liquid z y) = M_tests z := rfl
theorem M_tests_set_minutes (z : MS) (y : Int32) : M_tests (M_set_minutes z y) = M_tests z := rfl
theorem M_tests_set_vented (z : MS) (y : Int64) : M_tests (M_set_vented z y) = M_tests z := rfl
theorem M_tests_set_lost (z : MS) (y : Int64) : M_tests (M_set_lost z y) = M_tests z := rfl
theorem M_tests_set_pumped (z : MS) (y : Int32) : M_tests (M_set_pumped z y) = M_tests z := rfl
theorem M_tests_set_pumpedWeight (z : MS) (y : Int32) : M_tests (M_set_pumpedWeight z y) = M_tests z := rfl
theorem M_tests_set_valve (z : MS) (y : Int32) : M_tests (M_set_valve z y) = M_tests z := rfl
theorem M_tests_set_brokenAfter (z : MS) (y : Int32) : M_tests (M_set_brokenAfter z y) = M_tests z := rfl
theorem M_tests_set_cement (z : MS) (y : Int32) : M_tests (M_set_cement z y) = M_tests z := rfl
theorem M_tests_set_casedAfter (z : MS) (y : Int32) : M_tests (M_set_casedAfter z y) = M_tests z := rfl
theorem M_tests_set_flowed (z : MS) (y : Int32) : M_tests (M_set_flowed z y) = M_tests z := rfl
theorem M_tests_set_kept (z : MS) (y : (Nat → Int64)) : M_tests (M_set_kept z y) = M_tests z := rfl
theorem M_tests_set_tests (z : MS) (y : Int32) : M_tests (M_set_tests z y) = y := rfl
theorem M_tests_set_tested (z : MS) (y : (Nat → Int32)) : M_tests (M_set_tested z y) = M_tests z := rfl
theorem M_tests_set_by (z : MS) (y : (Nat → Int32)) : M_tests (M_set_by z y) = M_tests z := rfl
theorem M_tests_set_isPassed (z : MS) (y : (Nat → Int32)) : M_tests (M_set_isPassed z y) = M_tests z := rfl
theorem M_tests_set_testedAt (z : MS) (y : (Nat → Int32)) : M_tests (M_set_testedAt z y) = M_tests z := rfl
theorem M_tests_set_stops (z : MS) (y : (Nat → Int32)) : M_tests (M_set_stops z y) = M_tests z := rfl
theorem M_tested_set_thrown (z : MS) (y : Int32) : M_tested (M_set_thrown z y) = M_tested z := rfl
theorem M_tested_set_pore (z : MS) (y : (Nat → Int32)) : M_tested (M_set_pore z y) = M_tested z := rfl
theorem M_tested_set_breaks (z : MS) (y : (Nat → Int32)) : M_tested (M_set_breaks z y) = M_tested z := rfl
theorem M_tested_set_rate (z : MS) (y : (Nat → Int32)) : M_tested (M_set_rate z y) = M_tested z := rfl
theorem M_tested_set_bearsGas (z : MS) (y : (Nat → Int32)) : M_tested (M_set_bearsGas z y) = M_tested z := rfl
theorem M_tested_set_depth (z : MS) (y : Int32) : M_tested (M_set_depth z y) = M_tested z := rfl
theorem M_tested_set_shoe (z : MS) (y : Int32) : M_tested (M_set_shoe z y) = M_tested z := rfl
theorem M_tested_set_weight (z : MS) (y : Int32) : M_tested (M_set_weight z y) = M_tested z := rfl
theorem M_tested_set_isClosed (z : MS) (y : Int32) : M_tested (M_set_isClosed z y) = M_tested z := rfl
theorem M_tested_set_choke (z : MS) (y : Int32) : M_tested (M_set_choke z y) = M_tested z := rfl
theorem M_tested_set_charge (z : MS) (y : Int64) : M_tested (M_set_charge z y) = M_tested z := rfl
theorem M_tested_set_place (z : MS) (y : Int32) : M_tested (M_set_place z y) = M_tested z := rfl
theorem M_tested_set_gas (z : MS) (y : Int32) : M_tested (M_set_gas z y) = M_tested z := rfl
theorem M_tested_set_liquid (z : MS) (y : Int32) : M_tested (M_set_liquid z y) = M_tested z := rfl
theorem M_tested_set_minutes (z : MS) (y : Int32) : M_tested (M_set_minutes z y) = M_tested z := rfl
theorem M_tested_set_vented (z : MS) (y : Int64) : M_tested (M_set_vented z y) = M_tested z := rfl
theorem M_tested_set_lost (z : MS) (y : Int64) : M_tested (M_set_lost z y) = M_tested z := rfl
theorem M_tested_set_pumped (z : MS) (y : Int32) : M_tested (M_set_pumped z y) = M_tested z := rfl
theorem M_tested_set_pumpedWeight (z : MS) (y : Int32) : M_tested (M_set_pumpedWeight z y) = M_tested z := rfl
theorem M_tested_set_valve (z : MS) (y : Int32) : M_tested (M_set_valve z y) = M_tested z := rfl
theorem M_tested_set_brokenAfter (z : MS) (y : Int32) : M_tested (M_set_brokenAfter z y) = M_tested z := rfl
theorem M_tested_set_cement (z : MS) (y : Int32) : M_tested (M_set_cement z y) = M_tested z := rfl
theorem M_tested_set_casedAfter (z : MS) (y : Int32) : M_tested (M_set_casedAfter z y) = M_tested z := rfl
theorem M_tested_set_flowed (z : MS) (y : Int32) : M_tested (M_set_flowed z y) = M_tested z := rfl
theorem M_tested_set_kept (z : MS) (y : (Nat → Int64)) : M_tested (M_set_kept z y) = M_tested z := rfl
theorem M_tested_set_tests (z : MS) (y : Int32) : M_tested (M_set_tests z y) = M_tested z := rfl
theorem M_tested_set_tested (z : MS) (y : (Nat → Int32)) : M_tested (M_set_tested z y) = y := rfl
theorem M_tested_set_by (z : MS) (y : (Nat → Int32)) : M_tested (M_set_by z y) = M_tested z := rfl
theorem M_tested_set_isPassed (z : MS) (y : (Nat → Int32)) : M_tested (M_set_isPassed z y) = M_tested z := rfl
theorem M_tested_set_testedAt (z : MS) (y : (Nat → Int32)) : M_tested (M_set_testedAt z y) = M_tested z := rfl
theorem M_tested_set_stops (z : MS) (y : (Nat → Int32)) : M_tested (M_set_stops z y) = M_tested z := rfl
theorem M_by_set_thrown (z : MS) (y : Int32) : M_by (M_set_thrown z y) = M_by z := rfl
theorem M_by_set_pore (z : MS) (y : (Nat → Int32)) : M_by (M_set_pore z y) = M_by z := rfl
theorem M_by_set_breaks (z : MS) (y : (Nat → Int32)) : M_by (M_set_breaks z y) = M_by z := rfl
theorem M_by_set_rate (z : MS) (y : (Nat → Int32)) : M_by (M_set_rate z y) = M_by z := rfl
theorem M_by_set_bearsGas (z : MS) (y : (Nat → Int32)) : M_by (M_set_bearsGas z y) = M_by z := rfl
theorem M_by_set_depth (z : MS) (y : Int32) : M_by (M_set_depth z y) = M_by z := rfl
theorem M_by_set_shoe (z : MS) (y : Int32) : M_by (M_set_shoe z y) = M_by z := rfl
theorem M_by_set_weight (z : MS) (y : Int32) : M_by (M_set_weight z y) = M_by z := rfl
theorem M_by_set_isClosed (z : MS) (y : Int32) : M_by (M_set_isClosed z y) = M_by z := rfl
theorem M_by_set_choke (z : MS) (y : Int32) : M_by (M_set_choke z y) = M_by z := rfl
theorem M_by_set_charge (z : MS) (y : Int64) : M_by (M_set_charge z y) = M_by z := rfl
theorem M_by_set_place (z : MS) (y : Int32) : M_by (M_set_place z y) = M_by z := rfl
theorem M_by_set_gas (z : MS) (y : Int32) : M_by (M_set_gas z y) = M_by z := rfl
theorem M_by_set_liquid (z : MS) (y : Int32) : M_by (M_set_liquid z y) = M_by z := rfl
theorem M_by_set_minutes (z : MS) (y : Int32) : M_by (M_set_minutes z y) = M_by z := rfl
theorem M_by_set_vented (z : MS) (y : Int64) : M_by (M_set_vented z y) = M_by z := rfl
theorem M_by_set_lost (z : MS) (y : Int64) : M_by (M_set_lost z y) = M_by z := rfl
theorem M_by_set_pumped (z : MS) (y : Int32) : M_by (M_set_pumped z y) = M_by z := rfl
theorem M_by_set_pumpedWeight (z : MS) (y : Int32) : M_by (M_set_pumpedWeight z y) = M_by z := rfl
theorem M_by_set_valve (z : MS) (y : Int32) : M_by (M_set_valve z y) = M_by z := rfl
theorem M_by_set_brokenAfter (z : MS) (y : Int32) : M_by (M_set_brokenAfter z y) = M_by z := rfl
theorem M_by_set_cement (z : MS) (y : Int32) : M_by (M_set_cement z y) = M_by z := rfl
theorem M_by_set_casedAfter (z : MS) (y : Int32) : M_by (M_set_casedAfter z y) = M_by z := rfl
theorem M_by_set_flowed (z : MS) (y : Int32) : M_by (M_set_flowed z y) = M_by z := rfl
theorem M_by_set_kept (z : MS) (y : (Nat → Int64)) : M_by (M_set_kept z y) = M_by z := rfl
theorem M_by_set_tests (z : MS) (y : Int32) : M_by (M_set_tests z y) = M_by z := rfl
theorem M_by_set_tested (z : MS) (y : (Nat → Int32)) : M_by (M_set_tested z y) = M_by z := rfl
theorem M_by_set_by (z : MS) (y : (Nat → Int32)) : M_by (M_set_by z y) = y := rfl
theorem M_by_set_isPassed (z : MS) (y : (Nat → Int32)) : M_by (M_set_isPassed z y) = M_by z := rfl
theorem M_by_set_testedAt (z : MS) (y : (Nat → Int32)) : M_by (M_set_testedAt z y) = M_by z := rfl
theorem M_by_set_stops (z : MS) (y : (Nat → Int32)) : M_by (M_set_stops z y) = M_by z := rfl
theorem M_isPassed_set_thrown (z : MS) (y : Int32) : M_isPassed (M_set_thrown z y) = M_isPassed z := rfl
theorem M_isPassed_set_pore (z : MS) (y : (Nat → Int32)) : M_isPassed (M_set_pore z y) = M_isPassed z := rfl
theorem M_isPassed_set_breaks (z : MS) (y : (Nat → Int32)) : M_isPassed (M_set_breaks z y) = M_isPassed z := rfl
theorem M_isPassed_set_rate (z : MS) (y : (Nat → Int32)) : M_isPassed (M_set_rate z y) = M_isPassed z := rfl
theorem M_isPassed_set_bearsGas (z : MS) (y : (Nat → Int32)) : M_isPassed (M_set_bearsGas z y) = M_isPassed z := rfl
theorem M_isPassed_set_depth (z : MS) (y : Int32) : M_isPassed (M_set_depth z y) = M_isPassed z := rfl
theorem M_isPassed_set_shoe (z : MS) (y : Int32) : M_isPassed (M_set_shoe z y) = M_isPassed z := rfl
theorem M_isPassed_set_weight (z : MS) (y : Int32) : M_isPassed (M_set_weight z y) = M_isPassed z := rfl
theorem M_isPassed_set_isClosed (z : MS) (y : Int32) : M_isPassed (M_set_isClosed z y) = M_isPassed z := rfl
theorem M_isPassed_set_choke (z : MS) (y : Int32) : M_isPassed (M_set_choke z y) = M_isPassed z := rfl
theorem M_isPassed_set_charge (z : MS) (y : Int64) : M_isPassed (M_set_charge z y) = M_isPassed z := rfl
theorem M_isPassed_set_place (z : MS) (y : Int32) : M_isPassed (M_set_place z y) = M_isPassed z := rfl
theorem M_isPassed_set_gas (z : MS) (y : Int32) : M_isPassed (M_set_gas z y) = M_isPassed z := rfl
theorem M_isPassed_set_liquid (z : MS) (y : Int32) : M_isPassed (M_set_liquid z y) = M_isPassed z := rfl
theorem M_isPassed_set_minutes (z : MS) (y : Int32) : M_isPassed (M_set_minutes z y) = M_isPassed z := rfl
theorem M_isPassed_set_vented (z : MS) (y : Int64) : M_isPassed (M_set_vented z y) = M_isPassed z := rfl
theorem M_isPassed_set_lost (z : MS) (y : Int64) : M_isPassed (M_set_lost z y) = M_isPassed z := rfl
theorem M_isPassed_set_pumped (z : MS) (y : Int32) : M_isPassed (M_set_pumped z y) = M_isPassed z := rfl
theorem M_isPassed_set_pumpedWeight (z : MS) (y : Int32) : M_isPassed (M_set_pumpedWeight z y) = M_isPassed z := rfl
theorem M_isPassed_set_valve (z : MS) (y : Int32) : M_isPassed (M_set_valve z y) = M_isPassed z := rfl
theorem M_isPassed_set_brokenAfter (z : MS) (y : Int32) : M_isPassed (M_set_brokenAfter z y) = M_isPassed z := rfl
theorem M_isPassed_set_cement (z : MS) (y : Int32) : M_isPassed (M_set_cement z y) = M_isPassed z := rfl
theorem M_isPassed_set_casedAfter (z : MS) (y : Int32) : M_isPassed (M_set_casedAfter z y) = M_isPassed z := rfl
theorem M_isPassed_set_flowed (z : MS) (y : Int32) : M_isPassed (M_set_flowed z y) = M_isPassed z := rfl
theorem M_isPassed_set_kept (z : MS) (y : (Nat → Int64)) : M_isPassed (M_set_kept z y) = M_isPassed z := rfl
theorem M_isPassed_set_tests (z : MS) (y : Int32) : M_isPassed (M_set_tests z y) = M_isPassed z := rfl
theorem M_isPassed_set_tested (z : MS) (y : (Nat → Int32)) : M_isPassed (M_set_tested z y) = M_isPassed z := rfl
theorem M_isPassed_set_by (z : MS) (y : (Nat → Int32)) : M_isPassed (M_set_by z y) = M_isPassed z := rfl
theorem M_isPassed_set_isPassed (z : MS) (y : (Nat → Int32)) : M_isPassed (M_set_isPassed z y) = y := rfl
theorem M_isPassed_set_testedAt (z : MS) (y : (Nat → Int32)) : M_isPassed (M_set_testedAt z y) = M_isPassed z := rfl
theorem M_isPassed_set_stops (z : MS) (y : (Nat → Int32)) : M_isPassed (M_set_stops z y) = M_isPassed z := rfl
theorem M_testedAt_set_thrown (z : MS) (y : Int32) : M_testedAt (M_set_thrown z y) = M_testedAt z := rfl
theorem M_testedAt_set_pore (z : MS) (y : (Nat → Int32)) : M_testedAt (M_set_pore z y) = M_testedAt z := rfl
theorem M_testedAt_set_breaks (z : MS) (y : (Nat → Int32)) : M_testedAt (M_set_breaks z y) = M_testedAt z := rfl
theorem M_testedAt_set_rate (z : MS) (y : (Nat → Int32)) : M_testedAt (M_set_rate z y) = M_testedAt z := rfl
theorem M_testedAt_set_bearsGas (z : MS) (y : (Nat → Int32)) : M_testedAt (M_set_bearsGas z y) = M_testedAt z := rfl
theorem M_testedAt_set_depth (z : MS) (y : Int32) : M_testedAt (M_set_depth z y) = M_testedAt z := rfl
theorem M_testedAt_set_shoe (z : MS) (y : Int32) : M_testedAt (M_set_shoe z y) = M_testedAt z := rfl
theorem M_testedAt_set_weight (z : MS) (y : Int32) : M_testedAt (M_set_weight z y) = M_testedAt z := rfl
theorem M_testedAt_set_isClosed (z : MS) (y : Int32) : M_testedAt (M_set_isClosed z y) = M_testedAt z := rfl
theorem M_testedAt_set_choke (z : MS) (y : Int32) : M_testedAt (M_set_choke z y) = M_testedAt z := rfl
theorem M_testedAt_set_charge (z : MS) (y : Int64) : M_testedAt (M_set_charge z y) = M_testedAt z := rfl
theorem M_testedAt_set_place (z : MS) (y : Int32) : M_testedAt (M_set_place z y) = M_testedAt z := rfl
theorem M_testedAt_set_gas (z : MS) (y : Int32) : M_testedAt (M_set_gas z y) = M_testedAt z := rfl
theorem M_testedAt_set_liquid (z : MS) (y : Int32) : M_testedAt (M_set_liquid z y) = M_testedAt z := rfl
theorem M_testedAt_set_minutes (z : MS) (y : Int32) : M_testedAt (M_set_minutes z y) = M_testedAt z := rfl
theorem M_testedAt_set_vented (z : MS) (y : Int64) : M_testedAt (M_set_vented z y) = M_testedAt z := rfl
theorem M_testedAt_set_lost (z : MS) (y : Int64) : M_testedAt (M_set_lost z y) = M_testedAt z := rfl
theorem M_testedAt_set_pumped (z : MS) (y : Int32) : M_testedAt (M_set_pumped z y) = M_testedAt z := rfl
theorem M_testedAt_set_pumpedWeight (z : MS) (y : Int32) : M_testedAt (M_set_pumpedWeight z y) = M_testedAt z := rfl
theorem M_testedAt_set_valve (z : MS) (y : Int32) : M_testedAt (M_set_valve z y) = M_testedAt z := rfl
theorem M_testedAt_set_brokenAfter (z : MS) (y : Int32) : M_testedAt (M_set_brokenAfter z y) = M_testedAt z := rfl
theorem M_testedAt_set_cement (z : MS) (y : Int32) : M_testedAt (M_set_cement z y) = M_testedAt z := rfl
theorem M_testedAt_set_casedAfter (z : MS) (y : Int32) : M_testedAt (M_set_casedAfter z y) = M_testedAt z := rfl
theorem M_testedAt_set_flowed (z : MS) (y : Int32) : M_testedAt (M_set_flowed z y) = M_testedAt z := rfl
theorem M_testedAt_set_kept (z : MS) (y : (Nat → Int64)) : M_testedAt (M_set_kept z y) = M_testedAt z := rfl
theorem M_testedAt_set_tests (z : MS) (y : Int32) : M_testedAt (M_set_tests z y) = M_testedAt z := rfl
theorem M_testedAt_set_tested (z : MS) (y : (Nat → Int32)) : M_testedAt (M_set_tested z y) = M_testedAt z := rfl
theorem M_testedAt_set_by (z : MS) (y : (Nat → Int32)) : M_testedAt (M_set_by z y) = M_testedAt z := rfl
theorem M_testedAt_set_isPassed (z : MS) (y : (Nat → Int32)) : M_testedAt (M_set_isPassed z y) = M_testedAt z := rfl
theorem M_testedAt_set_testedAt (z : MS) (y : (Nat → Int32)) : M_testedAt (M_set_testedAt z y) = y := rfl
theorem M_testedAt_set_stops (z : MS) (y : (Nat → Int32)) : M_testedAt (M_set_stops z y) = M_testedAt z := rfl
theorem M_stops_set_thrown (z : MS) (y : Int32) : M_stops (M_set_thrown z y) = M_stops z := rfl
theorem M_stops_set_pore (z : MS) (y : (Nat → Int32)) : M_stops (M_set_pore z y) = M_stops z := rfl
theorem M_stops_set_breaks (z : MS) (y : (Nat → Int32)) : M_stops (M_set_breaks z y) = M_stops z := rfl
theorem M_stops_set_rate (z : MS) (y : (Nat → Int32)) : M_stops (M_set_rate z y) = M_stops z := rfl
theorem M_stops_set_bearsGas (z : MS) (y : (Nat → Int32)) : M_stops (M_set_bearsGas z y) = M_stops z := rfl
theorem M_stops_set_depth (z : MS) (y : Int32) : M_stops (M_set_depth z y) = M_stops z := rfl
theorem M_stops_set_shoe (z : MS) (y : Int32) : M_stops (M_set_shoe z y) = M_stops z := rfl
theorem M_stops_set_weight (z : MS) (y : Int32) : M_stops (M_set_weight z y) = M_stops z := rfl
theorem M_stops_set_isClosed (z : MS) (y : Int32) : M_stops (M_set_isClosed z y) = M_stops z := rfl
theorem M_stops_set_choke (z : MS) (y : Int32) : M_stops (M_set_choke z y) = M_stops z := rfl
theorem M_stops_set_charge (z : MS) (y : Int64) : M_stops (M_set_charge z y) = M_stops z := rfl
theorem M_stops_set_place (z : MS) (y : Int32) : M_stops (M_set_place z y) = M_stops z := rfl
theorem M_stops_set_gas (z : MS) (y : Int32) : M_stops (M_set_gas z y) = M_stops z := rfl
theorem M_stops_set_liquid (z : MS) (y : Int32) : M_stops (M_set_liquid z y) = M_stops z := rfl
theorem M_stops_set_minutes (z : MS) (y : Int32) : M_stops (M_set_minutes z y) = M_stops z := rfl
theorem M_stops_set_vented (z : MS) (y : Int64) : M_stops (M_set_vented z y) = M_stops z := rfl
theorem M_stops_set_lost (z : MS) (y : Int64) : M_stops (M_set_lost z y) = M_stops z := rfl
theorem M_stops_set_pumped (z : MS) (y : Int32) : M_stops (M_set_pumped z y) = M_stops z := rfl
theorem M_stops_set_pumpedWeight (z : MS) (y : Int32) : M_stops (M_set_pumpedWeight z y) = M_stops z := rfl
theorem M_stops_set_valve (z : MS) (y : Int32) : M_stops (M_set_valve z y) = M_stops z := rfl
theorem M_stops_set_brokenAfter (z : MS) (y : Int32) : M_stops (M_set_brokenAfter z y) = M_stops z := rfl
theorem M_stops_set_cement (z : MS) (y : Int32) : M_stops (M_set_cement z y) = M_stops z := rfl
theorem M_stops_set_casedAfter (z : MS) (y : Int32) : M_stops (M_set_casedAfter z y) = M_stops z := rfl
theorem M_stops_set_flowed (z : MS) (y : Int32) : M_stops (M_set_flowed z y) = M_stops z := rfl
theorem M_stops_set_kept (z : MS) (y : (Nat → Int64)) : M_stops (M_set_kept z y) = M_stops z := rfl
theorem M_stops_set_tests (z : MS) (y : Int32) : M_stops (M_set_tests z y) = M_stops z := rfl
theorem M_stops_set_tested (z : MS) (y : (Nat → Int32)) : M_stops (M_set_tested z y) = M_stops z := rfl
theorem M_stops_set_by (z : MS) (y : (Nat → Int32)) : M_stops (M_set_by z y) = M_stops z := rfl
theorem M_stops_set_isPassed (z : MS) (y : (Nat → Int32)) : M_stops (M_set_isPassed z y) = M_stops z := rfl
theorem M_stops_set_testedAt (z : MS) (y : (Nat → Int32)) : M_stops (M_set_testedAt z y) = M_stops z := rfl
theorem M_stops_set_stops (z : MS) (y : (Nat → Int32)) : M_stops (M_set_stops z y) = y := rfl
def aI (q : Nat → ClassId) (a n : Nat) (f : Nat → Int32) : Nat × va_E := (a, .inl (q 0, n, .inl f))
def aZ (q : Nat → ClassId) (a n : Nat) (f : Nat → Int32) : Nat × va_E := (a, .inl (q 1, n, .inl f))
def aJ (q : Nat → ClassId) (a n : Nat) (f : Nat → Int64) : Nat × va_E := (a, .inl (q 2, n, .inr (.inl f)))
def oR (k : Nat → Nat) : Nat × va_E := (k 0, .inr (0, [.ref (k 1), .ref (k 2), .ref (k 3), .ref (k 4), .ref (k 5)]))
def oT (k : Nat → Nat) (z : TS) : Nat × va_E := (k 0, .inr (1, [.ref (k 1), .ref (k 2), .ref (k 3), .ref (k 4), .int (T_count z), .int (T_latestOfValve z), .int (T_latestOfCement z)]))
def oW (h rr : Nat) (z : WS) : Nat × va_E := (h, .inr (2, [.ref rr, .int (W_depth z), .int (W_shoe z), .int (W_weight z), .int (W_isClosed z), .int (W_choke z), .int (W_valveStrength z), .int (W_hasBrokenSinceTest z), .long (W_charge z), .int (W_place z), .int (W_gas z), .int (W_liquid z), .long (W_vented z), .int (W_lost z), .int (W_minutes z)]))
def oX (h rr hw ht tt : Nat) (z : XS) : Nat × va_E := (h, .inr (3, [.ref rr, .ref hw, .ref ht, .ref tt, .int (X_stops z), .int (X_pumped z), .int (X_latestPumpedWeight z), .int (X_cement z)]))
def oM (k : Nat → Nat) (z : MS) : Nat × va_E := (k 0, .inr (4, [.int (M_thrown z), .ref (k 1), .ref (k 2), .ref (k 3), .ref (k 4), .int (M_depth z), .int (M_shoe z), .int (M_weight z), .int (M_isClosed z), .int (M_choke z), .long (M_charge z), .int (M_place z), .int (M_gas z), .int (M_liquid z), .int (M_minutes z), .long (M_vented z), .long (M_lost z), .int (M_pumped z), .int (M_pumpedWeight z), .int (M_valve z), .int (M_brokenAfter z), .int (M_cement z), .int (M_casedAfter z), .int (M_flowed z), .ref (k 5), .int (M_tests z), .ref (k 6), .ref (k 7), .ref (k 8), .ref (k 9), .ref (k 10)]))
def cRock (k : Nat → Nat) (q : Nat → ClassId) (r : RS) : va_W := [oR k, aI q (k 1) 50 (R_pores r), aI q (k 2) 50 (R_breaks r), aI q (k 3) 50 (R_rates r), aI q (k 4) 50 (R_gases r), aI q (k 5) 50 (R_pieces r)]
def cTests (k : Nat → Nat) (q : Nat → ClassId) (t : TS) : va_W := [oT k t, aI q (k 1) 60 (T_whats t), aI q (k 2) 60 (T_pressures t), aI q (k 3) 60 (T_passes t), aI q (k 4) 60 (T_minutes t)]
def cWell (h : Nat) (kr : Nat → Nat) (q : Nat → ClassId) (w : WS) (r : RS) : va_W := oW h (kr 0) w :: cRock kr q r
def cTwo (h h2 : Nat) (kr : Nat → Nat) (q : Nat → ClassId) (w w2 : WS) : va_W := [oW h (kr 0) w, oW h2 (kr 0) w2]
def cKick (h hw ht : Nat) (kr kt : Nat → Nat) (q : Nat → ClassId) (x : XS) (w v : WS) (r : RS) (t : TS) : va_W := oX h (kr 0) hw ht (kt 0) x :: oW hw (kr 0) w :: oW ht (kr 0) v :: (cRock kr q r ++ cTests kt q t)
def cModel (km : Nat → Nat) (q : Nat → ClassId) (m : MS) : va_W := [oM km m, aI q (km 1) 50 (M_pore m), aI q (km 2) 50 (M_breaks m), aI q (km 3) 50 (M_rate m), aZ q (km 4) 50 (M_bearsGas m), aJ q (km 5) 16 (M_kept m), aI q (km 6) 60 (M_tested m), aI q (km 7) 60 (M_by m), aZ q (km 8) 60 (M_isPassed m), aI q (km 9) 60 (M_testedAt m), aZ q (km 10) 6 (M_stops m)]
theorem fst_Rock (k : Nat → Nat) (q : Nat → ClassId) (r : RS) : (cRock k q r).map Prod.fst = [k 0, k 1, k 2, k 3, k 4, k 5] := rfl
theorem fst_Tests (k : Nat → Nat) (q : Nat → ClassId) (t : TS) : (cTests k q t).map Prod.fst = [k 0, k 1, k 2, k 3, k 4] := rfl
theorem fst_Well (h : Nat) (k : Nat → Nat) (q : Nat → ClassId) (w : WS) (r : RS) : (cWell h k q w r).map Prod.fst = [h, k 0, k 1, k 2, k 3, k 4, k 5] := rfl
theorem fst_Two (h h2 : Nat) (k : Nat → Nat) (q : Nat → ClassId) (w w2 : WS) : (cTwo h h2 k q w w2).map Prod.fst = [h, h2] := rfl
theorem fst_Kick (h aw av : Nat) (k kt : Nat → Nat) (q : Nat → ClassId) (x : XS) (w v : WS) (r : RS) (t : TS) : (cKick h aw av k kt q x w v r t).map Prod.fst = [h, aw, av, k 0, k 1, k 2, k 3, k 4, k 5, kt 0, kt 1, kt 2, kt 3, kt 4] := rfl
theorem fst_Model (k : Nat → Nat) (q : Nat → ClassId) (m : MS) : (cModel k q m).map Prod.fst = [k 0, k 1, k 2, k 3, k 4, k 5, k 6, k 7, k 8, k 9, k 10] := rfl
theorem pl_Model (k : Nat → Nat) (q : Nat → ClassId) (m : MS) : [0, 1, 2, 3, 4, 5, 6, 7, 8, 9, 10].map (fun i => (cModel k q m)[i]?) = (cModel k q m).map some := rfl
theorem all_Model (k : Nat → Nat) (q : Nat → ClassId) (m m2 : MS) : setAll (cModel k q m) [0, 1, 2, 3, 4, 5, 6, 7, 8, 9, 10] (cModel k q m2) = cModel k q m2 := rfl
theorem sf_thrown (km : Nat → Nat) (q : Nat → ClassId) (m : MS) (y : Int32) : (cModel km q m).set 0 (oM km (M_set_thrown m y)) = cModel km q (M_set_thrown m y) := rfl
theorem sa_pore (km : Nat → Nat) (q : Nat → ClassId) (m : MS) (f : Nat → Int32) : (cModel km q m).set 1 (aI q (km 1) 50 f) = cModel km q (M_set_pore m f) := rfl
theorem sa_breaks (km : Nat → Nat) (q : Nat → ClassId) (m : MS) (f : Nat → Int32) : (cModel km q m).set 2 (aI q (km 2) 50 f) = cModel km q (M_set_breaks m f) := rfl
theorem sa_rate (km : Nat → Nat) (q : Nat → ClassId) (m : MS) (f : Nat → Int32) : (cModel km q m).set 3 (aI q (km 3) 50 f) = cModel km q (M_set_rate m f) := rfl
theorem sa_bearsGas (km : Nat → Nat) (q : Nat → ClassId) (m : MS) (f : Nat → Int32) : (cModel km q m).set 4 (aZ q (km 4) 50 f) = cModel km q (M_set_bearsGas m f) := rfl
theorem sf_depth (km : Nat → Nat) (q : Nat → ClassId) (m : MS) (y : Int32) : (cModel km q m).set 0 (oM km (M_set_depth m y)) = cModel km q (M_set_depth m y) := rfl
theorem sf_shoe (km : Nat → Nat) (q : Nat → ClassId) (m : MS) (y : Int32) : (cModel km q m).set 0 (oM km (M_set_shoe m y)) = cModel km q (M_set_shoe m y) := rfl
theorem sf_weight (km : Nat → Nat) (q : Nat → ClassId) (m : MS) (y : Int32) : (cModel km q m).set 0 (oM km (M_set_weight m y)) = cModel km q (M_set_weight m y) := rfl
theorem sf_isClosed (km : Nat → Nat) (q : Nat → ClassId) (m : MS) (y : Int32) : (cModel km q m).set 0 (oM km (M_set_isClosed m y)) = cModel km q (M_set_isClosed m y) := rfl
theorem sf_choke (km : Nat → Nat) (q : Nat → ClassId) (m : MS) (y : Int32) : (cModel km q m).set 0 (oM km (M_set_choke m y)) = cModel km q (M_set_choke m y) := rfl
theorem sf_charge (km : Nat → Nat) (q : Nat → ClassId) (m : MS) (y : Int64) : (cModel km q m).set 0 (oM km (M_set_charge m y)) = cModel km q (M_set_charge m y) := rfl
theorem sf_place (km : Nat → Nat) (q : Nat → ClassId) (m : MS) (y : Int32) : (cModel km q m).set 0 (oM km (M_set_place m y)) = cModel km q (M_set_place m y) := rfl
theorem sf_gas (km : Nat → Nat) (q : Nat → ClassId) (m : MS) (y : Int32) : (cModel km q m).set 0 (oM km (M_set_gas m y)) = cModel km q (M_set_gas m y) := rfl
theorem sf_liquid (km : Nat → Nat) (q : Nat → ClassId) (m : MS) (y : Int32) : (cModel km q m).set 0 (oM km (M_set_liquid m y)) = cModel km q (M_set_liquid m y) := rfl
theorem sf_minutes (km : Nat → Nat) (q : Nat → ClassId) (m : MS) (y : Int32) : (cModel km q m).set 0 (oM km (M_set_minutes m y)) = cModel km q (M_set_minutes m y) := rfl
theorem sf_vented (km : Nat → Nat) (q : Nat → ClassId) (m : MS) (y : Int64) : (cModel km q m).set 0 (oM km (M_set_vented m y)) = cModel km q (M_set_vented m y) := rfl
theorem sf_lost (km : Nat → Nat) (q : Nat → ClassId) (m : MS) (y : Int64) : (cModel km q m).set 0 (oM km (M_set_lost m y)) = cModel km q (M_set_lost m y) := rfl
theorem sf_pumped (km : Nat → Nat) (q : Nat → ClassId) (m : MS) (y : Int32) : (cModel km q m).set 0 (oM km (M_set_pumped m y)) = cModel km q (M_set_pumped m y) := rfl
theorem sf_pumpedWeight (km : Nat → Nat) (q : Nat → ClassId) (m : MS) (y : Int32) : (cModel km q m).set 0 (oM km (M_set_pumpedWeight m y)) = cModel km q (M_set_pumpedWeight m y) := rfl
theorem sf_valve (km : Nat → Nat) (q : Nat → ClassId) (m : MS) (y : Int32) : (cModel km q m).set 0 (oM km (M_set_valve m y)) = cModel km q (M_set_valve m y) := rfl
theorem sf_brokenAfter (km : Nat → Nat) (q : Nat → ClassId) (m : MS) (y : Int32) : (cModel km q m).set 0 (oM km (M_set_brokenAfter m y)) = cModel km q (M_set_brokenAfter m y) := rfl
theorem sf_cement (km : Nat → Nat) (q : Nat → ClassId) (m : MS) (y : Int32) : (cModel km q m).set 0 (oM km (M_set_cement m y)) = cModel km q (M_set_cement m y) := rfl
theorem sf_casedAfter (km : Nat → Nat) (q : Nat → ClassId) (m : MS) (y : Int32) : (cModel km q m).set 0 (oM km (M_set_casedAfter m y)) = cModel km q (M_set_casedAfter m y) := rfl
theorem sf_flowed (km : Nat → Nat) (q : Nat → ClassId) (m : MS) (y : Int32) : (cModel km q m).set 0 (oM km (M_set_flowed m y)) = cModel km q (M_set_flowed m y) := rfl
theorem sa_kept (km : Nat → Nat) (q : Nat → ClassId) (m : MS) (f : Nat → Int64) : (cModel km q m).set 5 (aJ q (km 5) 16 f) = cModel km q (M_set_kept m f) := rfl
theorem sf_tests (km : Nat → Nat) (q : Nat → ClassId) (m : MS) (y : Int32) : (cModel km q m).set 0 (oM km (M_set_tests m y)) = cModel km q (M_set_tests m y) := rfl
theorem sa_tested (km : Nat → Nat) (q : Nat → ClassId) (m : MS) (f : Nat → Int32) : (cModel km q m).set 6 (aI q (km 6) 60 f) = cModel km q (M_set_tested m f) := rfl
theorem sa_by (km : Nat → Nat) (q : Nat → ClassId) (m : MS) (f : Nat → Int32) : (cModel km q m).set 7 (aI q (km 7) 60 f) = cModel km q (M_set_by m f) := rfl
theorem sa_isPassed (km : Nat → Nat) (q : Nat → ClassId) (m : MS) (f : Nat → Int32) : (cModel km q m).set 8 (aZ q (km 8) 60 f) = cModel km q (M_set_isPassed m f) := rfl
theorem sa_testedAt (km : Nat → Nat) (q : Nat → ClassId) (m : MS) (f : Nat → Int32) : (cModel km q m).set 9 (aI q (km 9) 60 f) = cModel km q (M_set_testedAt m f) := rfl
theorem sa_stops (km : Nat → Nat) (q : Nat → ClassId) (m : MS) (f : Nat → Int32) : (cModel km q m).set 10 (aZ q (km 10) 6 f) = cModel km q (M_set_stops m f) := rfl
def aD (q : Nat → ClassId) (a n : Nat) (f : Nat → UInt64) : Nat × va_E := (a, .inl (q 3, n, .inr (.inr (.inr (.inl f)))))
def cWrap (h aw av : Nat) (kr kt : Nat → Nat) (ao : Nat) (q : Nat → ClassId) (x : XS) (w v : WS) (r : RS) (t : TS) (fo : Nat → Int64) : va_W := oX h (kr 0) aw av (kt 0) x :: oW aw (kr 0) w :: oW av (kr 0) v :: (cRock kr q r ++ (cTests kt q t ++ [aJ q ao 1 fo]))
theorem fst_Wrap (h aw av : Nat) (k kt : Nat → Nat) (ao : Nat) (q : Nat → ClassId) (x : XS) (w v : WS) (r : RS) (t : TS) (fo : Nat → Int64) : (cWrap h aw av k kt ao q x w v r t fo).map Prod.fst = [h, aw, av, k 0, k 1, k 2, k 3, k 4, k 5, kt 0, kt 1, kt 2, kt 3, kt 4, ao] := rfl
def cWrapD (h aw av : Nat) (kr kt : Nat → Nat) (ao : Nat) (q : Nat → ClassId) (x : XS) (w v : WS) (r : RS) (t : TS) (fo : Nat → UInt64) : va_W := oX h (kr 0) aw av (kt 0) x :: oW aw (kr 0) w :: oW av (kr 0) v :: (cRock kr q r ++ (cTests kt q t ++ [aD q ao 1 fo]))
theorem fst_WrapD (h aw av : Nat) (k kt : Nat → Nat) (ao : Nat) (q : Nat → ClassId) (x : XS) (w v : WS) (r : RS) (t : TS) (fo : Nat → UInt64) : (cWrapD h aw av k kt ao q x w v r t fo).map Prod.fst = [h, aw, av, k 0, k 1, k 2, k 3, k 4, k 5, kt 0, kt 1, kt 2, kt 3, kt 4, ao] := rfl
def cLaw (h aw av : Nat) (kr kt km : Nat → Nat) (ao ad : Nat) (q : Nat → ClassId) (x : XS) (w v : WS) (r : RS) (t : TS) (g : MS) (fo : Nat → Int64) (fd : Nat → UInt64) : va_W := oX h (kr 0) aw av (kt 0) x :: oW aw (kr 0) w :: oW av (kr 0) v :: (cRock kr q r ++ (cTests kt q t ++ (cModel km q g ++ [aJ q ao 1 fo, aD q ad 1 fd])))
theorem fst_Law (h aw av : Nat) (k kt km : Nat → Nat) (ao ad : Nat) (q : Nat → ClassId) (x : XS) (w v : WS) (r : RS) (t : TS) (g : MS) (fo : Nat → Int64) (fd : Nat → UInt64) : (cLaw h aw av k kt km ao ad q x w v r t g fo fd).map Prod.fst = [h, aw, av, k 0, k 1, k 2, k 3, k 4, k 5, kt 0, kt 1, kt 2, kt 3, kt 4, km 0, km 1, km 2, km 3, km 4, km 5, km 6, km 7, km 8, km 9, km 10, ao, ad] := rfl
def cArr (a n : Nat) (q : Nat → ClassId) (f : Nat → Int32) : va_W := [aI q a n f]
theorem fst_Arr (a n : Nat) (q : Nat → ClassId) (f : Nat → Int32) : (cArr a n q f).map Prod.fst = [a] := rfl
