/-! Minutes in a row: pump. -/
theorem pump_loop (r : RS) (p0 p1 : Int32) (hIR : InvR r) (hp : p0.toInt ≤ 500) (h10 : 0 ≤ p1.toInt) (h11 : p1.toInt ≤ 300) : ∀ (n : Nat) (i : Int32) (x : XS) (w : WS) (ba : Int32) (g : MS) (B : Int), InvW B w → RelR r g → M_pumped g = X_pumped x → 1 ≤ i.toInt → i.toInt ≤ p0.toInt + 1 → p0.toInt + 1 - i.toInt < n → (W_minutes w).toInt + (p0.toInt + 1 - i.toInt) ≤ 100000 →
    ∃ (ba2 z val y : Int32) (w2 : WS), f_X4_pump_L115 p0 p1 n i (put w ba g) = (val, put w2 ba2 (M_set_pumped (M_set_flowed g z) y)) ∧ f_X3_pump_L90 r p0 p1 n i x w = (0, val, X_set_pumped x y, w2) ∧ ok_X4_pump_L115 p0 p1 n i (put w ba g) ∧ ok_X3_pump_L90 r p0 p1 n i x w ∧
      BrR ba (W_hasBrokenSinceTest w) (M_tests g) ba2 (W_hasBrokenSinceTest w2) ∧ InvW 100000 w2 := by
  intro n
  induction n with
  | zero => intro i x w ba g B _ _ _ _ _ h5 _; exfalso; omega
  | succ n ih =>
    intro i x w ba g B hI hR hx h0 h1 h5 h6
    unfold f_X4_pump_L115 ok_X4_pump_L115 f_X3_pump_L90 ok_X3_pump_L90
    have hself : put w ba (M_set_pumped (M_set_flowed g (M_flowed g)) (X_pumped x)) = put w ba g := by rw [fl_self, ← hx, pu_self]
    have hself2 : X_set_pumped x (X_pumped x) = x := xpu_self x
    by_cases c : p0 < i
    · rw [if_pos c, if_pos c]
      have c' := c
      rw [i_lt] at c'
      exact ⟨ba, M_flowed g, p0, X_pumped x, w, by rw [hself], by rw [hself2], ⟨fun _ => trivial, fun h => absurd c h⟩, ⟨fun _ => trivial, fun h => absurd c h⟩, BrR.refl _ _ _, InvW_of hI (by omega)⟩
    · rw [if_neg c, if_neg c]
      have c' := c
      rw [i_lt] at c'
      obtain ⟨ba2, o1, o2, o3, o4, o5, o6, o7, o8⟩ := one_eq ba 1 hI (by omega) hR hIR
      have ei : (i + 1).toInt = i.toInt + 1 := i_inc (by omega)
      rw [o1]
      generalize (f_X2_letMinuteGo w r 1).2 = w1 at *
      generalize (f_X2_letMinuteGo w r 1).1 = zf at *
      by_cases cc : W_isClosed w1 = 0
      · have ccm : M_isClosed (put w1 ba2 (M_set_flowed g zf)) = 0 := cc
        have hself3 : put w1 ba2 (M_set_pumped (M_set_flowed g zf) (X_pumped x)) = put w1 ba2 (M_set_flowed g zf) := by rw [← hx, ← pumped_fl g zf, pu_self]
        rw [if_pos cc, if_pos ccm]
        exact ⟨ba2, zf, i, X_pumped x, w1, by rw [hself3], by rw [hself2], ⟨fun h => absurd h c, fun _ => ⟨o2, fun _ => trivial, fun h => absurd ccm h⟩⟩, ⟨fun h => absurd h c, fun _ => ⟨fun _ => trivial, fun h => absurd cc h⟩⟩, o3, InvW_of o4 (by omega)⟩
      · have ccm : ¬ M_isClosed (put w1 ba2 (M_set_flowed g zf)) = 0 := cc
        rw [if_neg cc, if_neg ccm]
        have hpm : M_pumped (put w1 ba2 (M_set_flowed g zf)) = X_pumped x := by rw [M_pumped_put, pumped_fl, hx]
        rw [hpm]
        unfold f_X3_pumpOn
        generalize X_pumped x + 20 = y20
        by_cases cd : y20 < W_depth w1
        · have cdm : y20 < M_depth (put w1 ba2 (M_set_flowed g zf)) := cd
          rw [if_pos cd, if_pos cdm]
          have hs : M_set_pumped (put w1 ba2 (M_set_flowed g zf)) y20 = put w1 ba2 (M_set_pumped (M_set_flowed g zf) y20) := rfl
          rw [hs]
          obtain ⟨ba3, z, val, y, w2, k1, k2, k3, k4, k5, k6⟩ := ih (i + 1) (X_set_pumped x y20) w1 ba2 (M_set_pumped (M_set_flowed g zf) y20) _ o4 (RelR_pumped _ (RelR_flowed _ hR)) (by rw [pumped_pu, xpumped_pu]) (by omega) (by omega) (by omega) (by omega)
          rw [tests_pu, tests_fl] at k5
          rw [fp_fp] at k1
          rw [xpu_pu] at k2
          exact ⟨ba3, z, val, y, w2, k1, k2, ⟨fun h => absurd h c, fun _ => ⟨o2, fun h => absurd h cc, fun _ => ⟨fun _ => k3, fun h => absurd cdm h⟩⟩⟩, ⟨fun h => absurd h c, fun _ => ⟨fun h => absurd h cc, fun _ => k4⟩⟩, o3.trans k5, k6⟩
        · have cdm : ¬ y20 < M_depth (put w1 ba2 (M_set_flowed g zf)) := cd
          rw [if_neg cd, if_neg cdm]
          have hs : M_set_pumped (M_set_liquid (M_set_weight (M_set_pumped (put w1 ba2 (M_set_flowed g zf)) y20) p1) 0) 0 = put (W_set_liquid (W_set_weight w1 p1) 0) ba2 (M_set_pumped (M_set_flowed g zf) 0) := rfl
          rw [hs]
          have hI3 := inv_fresh o4 h10 h11
          have hmm : W_minutes (W_set_liquid (W_set_weight w1 p1) 0) = W_minutes w1 := rfl
          have hbb : W_hasBrokenSinceTest (W_set_liquid (W_set_weight w1 p1) 0) = W_hasBrokenSinceTest w1 := rfl
          generalize W_set_liquid (W_set_weight w1 p1) 0 = w3 at *
          obtain ⟨ba3, z, val, y, w2, k1, k2, k3, k4, k5, k6⟩ := ih (i + 1) (X_set_pumped (X_set_pumped x y20) 0) w3 ba2 (M_set_pumped (M_set_flowed g zf) 0) _ hI3 (RelR_pumped _ (RelR_flowed _ hR)) (by rw [pumped_pu, xpumped_pu]) (by omega) (by omega) (by omega) (by rw [hmm]; omega)
          rw [hbb, tests_pu, tests_fl] at k5
          rw [fp_fp] at k1
          rw [xpu_pu, xpu_pu] at k2
          exact ⟨ba3, z, val, y, w2, k1, k2, ⟨fun h => absurd h c, fun _ => ⟨o2, fun h => absurd h cc, fun _ => ⟨fun h => absurd h cdm, fun _ => k3⟩⟩⟩, ⟨fun h => absurd h c, fun _ => ⟨fun h => absurd h cc, fun _ => k4⟩⟩, o3.trans k5, k6⟩
