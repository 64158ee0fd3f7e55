/-! Loops that end: the filling of a row, the pieces from above. -/
theorem upd_eq (f : Nat → Int32) (k : Nat) (y : Int32) : upd f k y k = y := if_pos rfl
theorem upd_ne (f : Nat → Int32) {k j : Nat} (y : Int32) (h : ¬ j = k) : upd f k y j = f j := if_neg h
theorem i_inc {i : Int32} (h : i.toInt < 2147483647) : (i + 1).toInt = i.toInt + 1 := by
  have e1 : (1 : Int32).toInt = 1 := rfl
  have := i_rng i
  rw [i_add, e1] <;> rw [e1] <;> omega
theorem fill_loop (y : Int32) : ∀ (n : Nat) (i : Int32) (f : Nat → Int32), 0 ≤ i.toInt → i.toInt ≤ 50 → 50 - i.toInt < n → (∀ j : Nat, j < 50 → (i.toInt ≤ (j : Int) → f_J7_fill_53178_L5 50 y n i f j = y) ∧ ((j : Int) < i.toInt → f_J7_fill_53178_L5 50 y n i f j = f j)) ∧ ok_J7_fill_53178_L5 50 y n i f := by
  intro n
  induction n with
  | zero => intro i f h0 h1 h2; exfalso; omega
  | succ n ih =>
    intro i f h0 h1 h2
    have e50 : (Int32.ofNat 50).toInt = 50 := rfl
    unfold f_J7_fill_53178_L5 ok_J7_fill_53178_L5
    by_cases c : Int32.ofNat 50 ≤ i
    · have c' := c
      rw [i_le, e50] at c'
      rw [if_pos c]
      exact ⟨fun j hj => ⟨fun h => by exfalso; omega, fun _ => rfl⟩, fun _ => trivial, fun h => absurd c h⟩
    · have c' := c
      rw [i_le, e50] at c'
      have ei : (i + 1).toInt = i.toInt + 1 := i_inc (by omega)
      have hcl := cl h0
      obtain ⟨k1, k2⟩ := ih (i + 1) (upd f i.toNatClampNeg y) (by omega) (by omega) (by omega)
      rw [if_neg c]
      refine ⟨fun j hj => ⟨fun h => ?_, fun h => ?_⟩, fun h => absurd h c, fun _ => ⟨vin h0 (by omega), k2⟩⟩
      · by_cases e : j = i.toNatClampNeg
        · rw [(k1 j hj).2 (by omega), e, upd_eq]
        · exact (k1 j hj).1 (by omega)
      · rw [(k1 j hj).2 (by omega), upd_ne _ _ (by omega)]
theorem fill_eq {N : Nat} (hN : 60 < N) (f : Nat → Int32) (y : Int32) : (∀ j : Nat, j < 50 → f_J7_fill_53178 N 50 f y j = y) ∧ ok_J7_fill_53178 N 50 f y := by
  obtain ⟨k1, k2⟩ := fill_loop y N 0 f (Int.le_refl 0) (by decide) (by show (50 : Int) - 0 < _; omega)
  exact ⟨fun j hj => (k1 j hj).1 (Int.natCast_nonneg j), k2, trivial⟩
theorem above_fuel (r : RS) (p0 : Int32) (hp : p0.toInt < 2147483000) : ∀ (n : Nat) (a b c d : Int32), 0 < n → a.toInt ≤ p0.toInt + 1 → p0.toInt + 1 - a.toInt < n → ok_X0_piecesFromAbove_L12 r p0 n a b c d := by
  intro n
  induction n with
  | zero =>
    intro a b c d h0
    exact absurd h0 (Nat.lt_irrefl 0)
  | succ n ih =>
    intro a b c d _ hle h
    unfold ok_X0_piecesFromAbove_L12
    refine ⟨fun _ => trivial, fun hn => ?_⟩
    rw [i_lt] at hn
    have e : (a + 1).toInt = a.toInt + 1 := i_inc (by omega)
    exact ⟨fun _ => ⟨fun _ => ih _ _ _ _ (by omega) (by omega) (by omega), fun _ => ih _ _ _ _ (by omega) (by omega) (by omega)⟩, fun _ => trivial⟩
theorem lay_bd (p : Int32) (h : p.toInt ≤ 5000) : 0 ≤ (f_X0_layerOf p).toInt ∧ (f_X0_layerOf p).toInt < 50 := by
  unfold f_X0_layerOf
  by_cases c : 0 < p
  · rw [if_pos c]
    have c' := c
    rw [i_lt] at c'
    have e0 : (0 : Int32).toInt = 0 := rfl
    have e1 : (1 : Int32).toInt = 1 := rfl
    have e100 : (100 : Int32).toInt = 100 := rfl
    have es : (p - 1).toInt = p.toInt - 1 := by rw [i_sub, e1] <;> rw [e1] <;> omega
    have ed : ((p - 1) / 100).toInt = (p.toInt - 1) / 100 := by
      rw [i_div (by rw [es]; omega) (by rw [e100]; omega), es, e100]
    rw [ed]
    omega
  · rw [if_neg c]
    exact ⟨by decide, by decide⟩
theorem cas_ok {N : Nat} (hN : 60 < N) (r : RS) (p : Int32) : ok_L_casings N r p := by
  refine ⟨⟨fun _ => trivial, fun h => ⟨?_, trivial⟩⟩, trivial⟩
  have hp : p.toInt ≤ 5000 := by
    unfold f_X3_isWithin at h
    by_cases c1 : p < 1
    · rw [if_pos c1] at h; exact absurd rfl h
    · rw [if_neg c1] at h
      by_cases c2 : (5000 : Int32) < p
      · rw [if_pos c2] at h; exact absurd rfl h
      · rw [i_lt] at c2
        have e5 : (5000 : Int32).toInt = 5000 := rfl
        omega
  have hb := lay_bd p hp
  have e0 : (0 : Int32).toInt = 0 := rfl
  exact above_fuel r _ (by omega) N 0 300 0 1 (by omega) (by rw [e0]; omega) (by rw [e0]; omega)
