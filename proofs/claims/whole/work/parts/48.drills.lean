/-! Minutes in a row: drill. -/
theorem drill_loop (r : RS) (p0 : Int32) (hIR : InvR r) (hp : p0.toInt ≤ 500) : ∀ (n : Nat) (i : Int32) (w : WS) (ba : Int32) (g : MS) (B : Int), InvW B w → RelR r g → 1 ≤ i.toInt → i.toInt ≤ p0.toInt + 1 → p0.toInt + 1 - i.toInt < n → (W_minutes w).toInt + (p0.toInt + 1 - i.toInt) ≤ 100000 → (W_depth w).toInt + (p0.toInt + 1 - i.toInt) ≤ 5000 →
    ∃ (ba2 z val : Int32) (w2 : WS), f_X4_drill_L78 p0 n i (put w ba g) = (val, put w2 ba2 (M_set_flowed g z)) ∧ f_X3_drill_L63 r p0 n i w = (0, val, w2) ∧ ok_X4_drill_L78 p0 n i (put w ba g) ∧ ok_X3_drill_L63 r p0 n i w ∧
      BrR ba (W_hasBrokenSinceTest w) (M_tests g) ba2 (W_hasBrokenSinceTest w2) ∧ InvW 100000 w2 := by
  intro n
  induction n with
  | zero => intro i w ba g B _ _ _ _ h5 _ _; exfalso; omega
  | succ n ih =>
    intro i w ba g B hI hR h0 h1 h5 h6 h7
    unfold f_X4_drill_L78 ok_X4_drill_L78 f_X3_drill_L63 ok_X3_drill_L63
    by_cases c : p0 < i
    · rw [if_pos c, if_pos c]
      have c' := c
      rw [i_lt] at c'
      exact ⟨ba, M_flowed g, p0, w, by rw [fl_self], rfl, ⟨fun _ => trivial, fun h => absurd c h⟩, ⟨fun _ => trivial, fun h => absurd c h⟩, BrR.refl _ _ _, InvW_of hI (by omega)⟩
    · rw [if_neg c, if_neg c]
      have c' := c
      rw [i_lt] at c'
      have hd := hI.1
      have ed : (W_depth w + 1).toInt = (W_depth w).toInt + 1 := i_inc (by omega)
      have hI2 : InvW B (W_set_depth w (W_depth w + 1)) := inv_depth hI (by omega) (by omega)
      have hmm : W_minutes (W_set_depth w (W_depth w + 1)) = W_minutes w := rfl
      have hbb : W_hasBrokenSinceTest (W_set_depth w (W_depth w + 1)) = W_hasBrokenSinceTest w := rfl
      have hdd : W_depth (W_set_depth w (W_depth w + 1)) = W_depth w + 1 := rfl
      have hs : M_set_depth (put w ba g) (M_depth (put w ba g) + 1) = put (W_set_depth w (W_depth w + 1)) ba g := rfl
      generalize W_set_depth w (W_depth w + 1) = w1 at *
      obtain ⟨ba2, o1, o2, o3, o4, o5, o6, o7, o8⟩ := one_eq ba 0 hI2 (by rw [hmm]; omega) hR hIR
      have ei : (i + 1).toInt = i.toInt + 1 := i_inc (by omega)
      rw [hbb] at o3
      rw [hs, o1]
      rw [flowed_put]
      by_cases cf : (f_X2_letMinuteGo w1 r 0).1 = 0
      · rw [if_pos cf, if_pos cf]
        obtain ⟨ba3, z, val, w2, k1, k2, k3, k4, k5, k6⟩ := ih (i + 1) (f_X2_letMinuteGo w1 r 0).2 ba2 (M_set_flowed g (f_X2_letMinuteGo w1 r 0).1) _ o4 (RelR_flowed _ hR) (by omega) (by omega) (by omega) (by rw [o6, hmm]; omega) (by rw [o5, hdd, ed]; omega)
        rw [tests_fl] at k5
        rw [fl_fl] at k1
        exact ⟨ba3, z, val, w2, k1, k2, ⟨fun h => absurd h c, fun _ => ⟨o2, fun _ => k3, fun h => absurd cf h⟩⟩, ⟨fun h => absurd h c, fun _ => ⟨fun _ => k4, fun _ => trivial⟩⟩, o3.trans k5, k6⟩
      · rw [if_neg cf, if_neg cf]
        exact ⟨ba2, _, i, _, rfl, rfl, ⟨fun h => absurd h c, fun _ => ⟨o2, fun h => absurd h cf, fun _ => trivial⟩⟩, ⟨fun h => absurd h c, fun _ => ⟨fun h => absurd h cf, fun _ => trivial⟩⟩, o3, InvW_of o4 (by rw [o6, hmm]; omega)⟩
