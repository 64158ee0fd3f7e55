/-! What a minute keeps; one minute from any object that holds its bounds. -/
def KeW (w v : WS) : Prop := W_shoe v = W_shoe w ∧ W_weight v = W_weight w ∧ W_valveStrength v = W_valveStrength w
theorem KeW.refl (w : WS) : KeW w w := ⟨rfl, rfl, rfl⟩
theorem KeW.trans {a b c : WS} (h : KeW a b) (k : KeW b c) : KeW a c := ⟨k.1.trans h.1, k.2.1.trans h.2.1, k.2.2.trans h.2.2⟩
theorem ke_min (w : WS) (y : Int32) : KeW w (W_set_minutes w y) := ⟨rfl, rfl, rfl⟩
theorem ke_place (w : WS) (y : Int32) : KeW w (W_set_place w y) := ⟨rfl, rfl, rfl⟩
theorem ke_gas (w : WS) (y : Int32) : KeW w (W_set_gas w y) := ⟨rfl, rfl, rfl⟩
theorem ke_liquid (w : WS) (y : Int32) : KeW w (W_set_liquid w y) := ⟨rfl, rfl, rfl⟩
theorem ke_charge (w : WS) (y : Int64) : KeW w (W_set_charge w y) := ⟨rfl, rfl, rfl⟩
theorem ke_vented (w : WS) (y : Int64) : KeW w (W_set_vented w y) := ⟨rfl, rfl, rfl⟩
theorem ke_choke (w : WS) (y : Int32) : KeW w (W_set_choke w y) := ⟨rfl, rfl, rfl⟩
theorem ke_closed (w : WS) (y : Int32) : KeW w (W_set_isClosed w y) := ⟨rfl, rfl, rfl⟩
theorem ke_hb (w : WS) (y : Int32) : KeW w (W_set_hasBrokenSinceTest w y) := ⟨rfl, rfl, rfl⟩
theorem ke_lost (w : WS) (y : Int32) : KeW w (W_set_lost w y) := ⟨rfl, rfl, rfl⟩
theorem ke_raise (w : WS) (p : Int32) : KeW w (f_X2_raiseGas w p) := by
  unfold f_X2_raiseGas
  by_cases c : f_X2_hasGas w = 0
  · rw [if_pos c]; exact KeW.refl w
  · rw [if_neg c]; exact ke_place w _
theorem ke_vent (w : WS) (p : Int32) : KeW w (f_X2_ventGas w p) := by
  have h25 : KeW w (f_X2_ventGas_b25 w) := by
    unfold f_X2_ventGas_b25
    exact (ke_vented w _).trans ((ke_charge _ _).trans (ke_gas _ _))
  unfold f_X2_ventGas
  split
  · exact KeW.refl w
  · split
    · split
      · split
        · exact h25
        · exact KeW.refl w
      · exact h25
    · exact KeW.refl w
theorem ke_measure (w : WS) : KeW w (f_X2_measureGas w) := by
  unfold f_X2_measureGas
  split
  · exact KeW.refl w
  · split
    · exact KeW.refl w
    · exact ke_gas w _
theorem ke_setChoke (w : WS) (r : RS) : KeW w (f_X2_setChoke w r) := by
  unfold f_X2_setChoke
  split
  · exact KeW.refl w
  · split
    · exact ke_choke w _
    · exact (ke_choke w _).trans ((ke_closed _ _).trans ((ke_choke _ _).trans (ke_hb _ _)))
theorem ke_flow (w : WS) (r : RS) : KeW w (f_X2_flowIn w r).2 := by
  have q : ∀ (a : Int32) (X : WS), (a, X).2 = X := fun _ _ => rfl
  have h113 : ∀ pl : Int32, KeW w (f_X2_flowIn_b113 w r (W_set_place w pl)).2 := by
    intro pl
    rw [b113_eq, q]
    exact (ke_place w pl).trans ((ke_charge _ _).trans (ke_measure _))
  unfold f_X2_flowIn
  split
  · split
    · split
      · rw [q]; exact ke_liquid w _
      · split
        · exact h113 _
        · exact h113 (W_place w)
    · exact KeW.refl w
  · exact KeW.refl w
theorem ke_lose (w : WS) (r : RS) : KeW w (f_X2_loseAtShoe w r) := by
  unfold f_X2_loseAtShoe
  split
  · exact KeW.refl w
  · split
    · exact KeW.refl w
    · exact ke_lost w _
theorem ke_let (w : WS) (r : RS) (p : Int32) : KeW w (f_X2_letMinuteGo w r p).2 := by
  have q2 : ∀ (a : Int32) (X : WS), (a, X).2 = X := fun _ _ => rfl
  rw [let_eq, q2]
  have hm : KeW w (minu w p) := (ke_min w _).trans ((ke_raise _ p).trans ((ke_vent _ p).trans (ke_measure _)))
  exact hm.trans ((ke_setChoke _ r).trans ((ke_flow _ r).trans (ke_lose _ r)))
theorem InvW_of {B B2 : Int} {w : WS} (h : InvW B w) (h2 : (W_minutes w).toInt ≤ B2) : InvW B2 w := by
  obtain ⟨h1, h2', h3, h4, h5, h6, h7, h8, h9, h10, ⟨m0, m1⟩, h12, h13⟩ := h
  exact ⟨h1, h2', h3, h4, h5, h6, h7, h8, h9, h10, ⟨m0, h2⟩, h12, h13⟩
/-- what a break has done: none, or at the tests so far -/
def BrR (ba hb c ba2 hb2 : Int32) : Prop := (ba2 = ba ∧ hb2 = hb) ∨ (ba2 = c ∧ hb2 = 1)
theorem BrR.refl (ba hb c : Int32) : BrR ba hb c ba hb := Or.inl ⟨rfl, rfl⟩
theorem BrR.trans {ba hb c ba2 hb2 ba3 hb3 : Int32} (h : BrR ba hb c ba2 hb2) (k : BrR ba2 hb2 c ba3 hb3) : BrR ba hb c ba3 hb3 := by
  rcases k with ⟨k1, k2⟩ | k
  · rcases h with ⟨h1, h2⟩ | ⟨h1, h2⟩
    · exact Or.inl ⟨k1.trans h1, k2.trans h2⟩
    · exact Or.inr ⟨k1.trans h1, k2.trans h2⟩
  · exact Or.inr k
/-- one minute, from an object that holds its bounds for 102000 minutes -/
theorem one_eq {w : WS} {r : RS} {g : MS} (ba p : Int32) {B : Int} (hI : InvW B w) (hm : (W_minutes w).toInt < 102000) (hR : RelR r g) (hIR : InvR r) :
    ∃ ba2 : Int32, f_X4_passOne (put w ba g) p = put (f_X2_letMinuteGo w r p).2 ba2 (M_set_flowed g (f_X2_letMinuteGo w r p).1) ∧ ok_X4_passOne (put w ba g) p ∧
      BrR ba (W_hasBrokenSinceTest w) (M_tests g) ba2 (W_hasBrokenSinceTest (f_X2_letMinuteGo w r p).2) ∧
      InvW (W_minutes (f_X2_letMinuteGo w r p).2).toInt (f_X2_letMinuteGo w r p).2 ∧ W_depth (f_X2_letMinuteGo w r p).2 = W_depth w ∧ (W_minutes (f_X2_letMinuteGo w r p).2).toInt = (W_minutes w).toInt + 1 ∧ bz (f_X2_letMinuteGo w r p).1 ∧ KeW w (f_X2_letMinuteGo w r p).2 := by
  obtain ⟨ba2, h1, h2, h3, h4, h5, h6, h7⟩ := pass_eq ba p (InvW_of hI (Int.le_refl _)) (by omega) hR hIR
  exact ⟨ba2, h1, h2, h3, InvW_of h4 (Int.le_refl _), h5, h6, h7, ke_let w r p⟩
theorem i_inc {i : Int32} (h : i.toInt < 2147483647) : (i + 1).toInt = i.toInt + 1 := by
  have e1 : (1 : Int32).toInt = 1 := rfl
  have := i_rng i
  rw [i_add, e1] <;> rw [e1] <;> omega
theorem RelR_pumped {r : RS} {g : MS} (y : Int32) (h : RelR r g) : RelR r (M_set_pumped g y) := h
theorem tests_fl (g : MS) (z : Int32) : M_tests (M_set_flowed g z) = M_tests g := rfl
theorem tests_pu (g : MS) (z : Int32) : M_tests (M_set_pumped g z) = M_tests g := rfl
theorem pumped_fl (g : MS) (z : Int32) : M_pumped (M_set_flowed g z) = M_pumped g := rfl
theorem pumped_pu (g : MS) (z : Int32) : M_pumped (M_set_pumped g z) = z := rfl
theorem xpumped_pu (x : XS) (z : Int32) : X_pumped (X_set_pumped x z) = z := rfl
theorem xpu_pu (x : XS) (a z : Int32) : X_set_pumped (X_set_pumped x a) z = X_set_pumped x z := rfl
theorem fl_fl (g : MS) (a z : Int32) : M_set_flowed (M_set_flowed g a) z = M_set_flowed g z := rfl
theorem fl_self (g : MS) : M_set_flowed g (M_flowed g) = g := rfl
theorem pu_self (g : MS) : M_set_pumped g (M_pumped g) = g := rfl
theorem xpu_self (x : XS) : X_set_pumped x (X_pumped x) = x := rfl
theorem pu_pu (g : MS) (z y : Int32) : M_set_pumped (M_set_pumped g z) y = M_set_pumped g y := rfl
theorem flowed_put (a : WS) (b z : Int32) (g : MS) : M_flowed (put a b (M_set_flowed g z)) = z := rfl
theorem inv_depth {B : Int} {w : WS} {y : Int32} (h : InvW B w) (h1 : (W_depth w).toInt ≤ y.toInt) (h2 : y.toInt ≤ 5000) : InvW B (W_set_depth w y) := by
  obtain ⟨⟨d0, d1⟩, ⟨s0, s1⟩, h3, h4, h5, h6, h7, h8, ⟨p0, p1⟩, ⟨g0, l0, gl⟩, h11, h12, h13⟩ := h
  refine ⟨?_, ?_, h3, h4, h5, h6, h7, h8, ?_, ?_, h11, h12, h13⟩
  · show 0 ≤ y.toInt ∧ y.toInt ≤ 5000; omega
  · show 0 ≤ (W_shoe w).toInt ∧ (W_shoe w).toInt ≤ y.toInt; omega
  · show 0 ≤ (W_place w).toInt ∧ (W_place w).toInt ≤ y.toInt; omega
  · show 0 ≤ (W_gas w).toInt ∧ 0 ≤ (W_liquid w).toInt ∧ (W_gas w).toInt + (W_liquid w).toInt ≤ y.toInt; omega
theorem inv_fresh {B : Int} {w : WS} {p : Int32} (h : InvW B w) (h1 : 0 ≤ p.toInt) (h2 : p.toInt ≤ 300) : InvW B (W_set_liquid (W_set_weight w p) 0) := by
  obtain ⟨⟨d0, d1⟩, h2', h3, h4, h5, h6, h7, h8, h9, ⟨g0, l0, gl⟩, h11, h12, h13⟩ := h
  refine ⟨⟨d0, d1⟩, h2', ⟨h1, h2⟩, h4, h5, h6, h7, h8, h9, ?_, h11, h12, h13⟩
  show 0 ≤ (W_gas w).toInt ∧ (0 : Int) ≤ 0 ∧ (W_gas w).toInt + 0 ≤ (W_depth w).toInt
  omega
