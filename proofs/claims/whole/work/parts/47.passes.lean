/-! Minutes in a row: pass and ahead. -/
theorem pass_loop (r : RS) (p0 : Int32) (hIR : InvR r) (hp : p0.toInt ≤ 2000) : ∀ (n : Nat) (i : Int32) (w : WS) (ba : Int32) (g : MS) (B : Int), InvW B w → RelR r g → 0 ≤ i.toInt → i.toInt ≤ p0.toInt → p0.toInt - i.toInt < n → (W_minutes w).toInt + (p0.toInt - i.toInt) ≤ 102000 →
    ∃ (ba2 z : Int32), f_X4_pass_L44 p0 n i (put w ba g) = put (f_X2_letMinutesGo_L2 r p0 n i w) ba2 (M_set_flowed g z) ∧ ok_X4_pass_L44 p0 n i (put w ba g) ∧ ok_X2_letMinutesGo_L2 r p0 n i w ∧
      BrR ba (W_hasBrokenSinceTest w) (M_tests g) ba2 (W_hasBrokenSinceTest (f_X2_letMinutesGo_L2 r p0 n i w)) ∧ InvW (W_minutes (f_X2_letMinutesGo_L2 r p0 n i w)).toInt (f_X2_letMinutesGo_L2 r p0 n i w) ∧
      (W_minutes (f_X2_letMinutesGo_L2 r p0 n i w)).toInt = (W_minutes w).toInt + (p0.toInt - i.toInt) ∧ KeW w (f_X2_letMinutesGo_L2 r p0 n i w) := by
  intro n
  induction n with
  | zero => intro i w ba g B _ _ _ _ h5 _; exfalso; omega
  | succ n ih =>
    intro i w ba g B hI hR h0 h1 h5 h6
    unfold f_X4_pass_L44 ok_X4_pass_L44 f_X2_letMinutesGo_L2 ok_X2_letMinutesGo_L2
    by_cases c : p0 ≤ i
    · rw [if_pos c, if_pos c]
      have c' := c
      rw [i_le] at c'
      exact ⟨ba, M_flowed g, by rw [fl_self], ⟨fun _ => trivial, fun h => absurd c h⟩, ⟨fun _ => trivial, fun h => absurd c h⟩, BrR.refl _ _ _, InvW_of hI (Int.le_refl _), by omega, KeW.refl w⟩
    · rw [if_neg c, if_neg c]
      have c' := c
      rw [i_le] at c'
      obtain ⟨ba2, o1, o2, o3, o4, o5, o6, o7, o8⟩ := one_eq ba 0 hI (by omega) hR hIR
      have ei : (i + 1).toInt = i.toInt + 1 := i_inc (by omega)
      obtain ⟨ba3, z, k1, k2, k3, k4, k5, k6, k7⟩ := ih (i + 1) (f_X2_letMinuteGo w r 0).2 ba2 (M_set_flowed g (f_X2_letMinuteGo w r 0).1) _ o4 (RelR_flowed _ hR) (by omega) (by omega) (by omega) (by omega)
      rw [tests_fl] at k4
      rw [fl_fl] at k1
      rw [o1, k1]
      exact ⟨ba3, z, rfl, ⟨fun h => absurd h c, fun _ => ⟨o2, k2⟩⟩, ⟨fun h => absurd h c, fun _ => k3⟩, o3.trans k4, k5, by omega, o8.trans k7⟩
theorem ahead_pass (p0 : Int32) : ∀ (n : Nat) (i : Int32) (g : MS), f_X4_ahead_L31 p0 n i g = f_X4_pass_L44 p0 n i g ∧ (ok_X4_pass_L44 p0 n i g → ok_X4_ahead_L31 p0 n i g) := by
  intro n
  induction n with
  | zero => intro i g; exact ⟨rfl, fun h => h⟩
  | succ n ih =>
    intro i g
    unfold f_X4_ahead_L31 f_X4_pass_L44 ok_X4_ahead_L31 ok_X4_pass_L44
    refine ⟨?_, fun h => ⟨h.1, fun c => ⟨(h.2 c).1, (ih _ _).2 (h.2 c).2⟩⟩⟩
    by_cases c : p0 ≤ i
    · rw [if_pos c, if_pos c]
    · rw [if_neg c, if_neg c]; exact (ih _ _).1
