/-! The start: both new, both tied. -/
theorem fill_loop (y : Int32) : ∀ (n : Nat) (i : Int32) (f : Nat → Int32), 0 ≤ i.toInt → i.toInt ≤ 50 → 50 - i.toInt < n → (∀ j : Nat, j < 50 → (i.toInt ≤ (j : Int) → f_J7_fill_53178_L5 50 y n i f j = y) ∧ ((j : Int) < i.toInt → f_J7_fill_53178_L5 50 y n i f j = f j)) ∧ ok_J7_fill_53178_L5 50 y n i f := by
  intro n
  induction n with
  | zero => intro i f h0 h1 h2; exfalso; omega
  | succ n ih =>
    intro i f h0 h1 h2
    have e50 : (Int32.ofNat 50).toInt = 50 := rfl
    unfold f_J7_fill_53178_L5 ok_J7_fill_53178_L5
    by_cases c : Int32.ofNat 50 ≤ i
    · have c' := c
      rw [i_le, e50] at c'
      rw [if_pos c]
      exact ⟨fun j hj => ⟨fun h => by exfalso; omega, fun _ => rfl⟩, fun _ => trivial, fun h => absurd c h⟩
    · have c' := c
      rw [i_le, e50] at c'
      have ei : (i + 1).toInt = i.toInt + 1 := i_inc (by omega)
      have hcl := cl h0
      obtain ⟨k1, k2⟩ := ih (i + 1) (upd f i.toNatClampNeg y) (by omega) (by omega) (by omega)
      rw [if_neg c]
      refine ⟨fun j hj => ⟨fun h => ?_, fun h => ?_⟩, fun h => absurd h c, fun _ => ⟨vin h0 (by omega), k2⟩⟩
      · by_cases e : j = i.toNatClampNeg
        · rw [(k1 j hj).2 (by omega), e, upd_eq]
        · exact (k1 j hj).1 (by omega)
      · rw [(k1 j hj).2 (by omega), upd_ne _ _ (by omega)]
theorem fill_eq {N : Nat} (hN : 60 < N) (f : Nat → Int32) (y : Int32) : (∀ j : Nat, j < 50 → f_J7_fill_53178 N 50 f y j = y) ∧ ok_J7_fill_53178 N 50 f y := by
  obtain ⟨k1, k2⟩ := fill_loop y N 0 f (Int.le_refl 0) (by decide) (by show (50 : Int) - 0 < _; omega)
  exact ⟨fun j hj => (k1 j hj).1 (Int.natCast_nonneg j), k2, trivial⟩
theorem inv0 : InvW 100000 well0 := by
  refine ⟨⟨?_, ?_⟩, ⟨?_, ?_⟩, ⟨?_, ?_⟩, Or.inl rfl, Or.inl rfl, ⟨?_, ?_⟩, ⟨?_, ?_⟩, ⟨?_, ?_⟩, ⟨?_, ?_⟩, ⟨?_, ?_, ?_⟩, ⟨?_, ?_⟩, ⟨?_, ?_⟩, fun _ => rfl⟩ <;> decide
theorem rel0 {N : Nat} (hN : 60 < N) {g : MS} (hg : MInit g) : Rel kick0 well0 (rock0 N) tests0 g := by
  obtain ⟨f0, f1, f2, h0, h1, h2, rfl⟩ := hg
  have z0 : bz 0 := Or.inl rfl
  have l0 : (0 : Int) ≤ (0 : Int32).toInt := by decide
  have l6 : (0 : Int32).toInt ≤ 60 := by decide
  have l1 : (0 : Int32).toInt ≤ (0 : Int32).toInt := Int.le_refl _
  have a := fun y : Int32 => (fill_eq hN (fun _ => 0) y).1
  refine ⟨0, (0, f0, f1, f2, (fun _ => 0), 0, 0, (110 : Int32), 0, 0, 0, 0, 0, 0, 0, 0, 0, 0, (-1 : Int32), (10000 : Int32), 0, 0, 0, 0, (fun _ => 0), 0, (fun _ => 0), (fun _ => 0), (fun _ => 0), (fun _ => 0), (fun _ => 0)), rfl, inv0, ?_, ?_, rfl, rfl, rfl, ⟨false, false, false, false, false, false, by decide, rfl, rfl, rfl, rfl, rfl, rfl⟩, rfl, ⟨l0, l6⟩, fun j hj => ⟨rfl, rfl, rfl, rfl, z0⟩, Or.inl ⟨rfl, fun k k1 k2 => absurd k2 (Int.not_lt.mpr k1)⟩, ⟨l0, l1⟩, fun _ => Or.inl rfl, fun h => absurd rfl h, ⟨l0, l1⟩, Or.inl ⟨rfl, fun k k1 k2 => absurd k2 (Int.not_lt.mpr k1)⟩⟩
  · intro j hj
    show (0 ≤ (f_J7_fill_53178 N 50 (fun _ => 0) 100 j).toInt ∧ (f_J7_fill_53178 N 50 (fun _ => 0) 100 j).toInt ≤ 300) ∧ (0 ≤ (f_J7_fill_53178 N 50 (fun _ => 0) 180 j).toInt ∧ (f_J7_fill_53178 N 50 (fun _ => 0) 180 j).toInt ≤ 300) ∧ (0 ≤ (f_J7_fill_53178 N 50 (fun _ => 0) 10 j).toInt ∧ (f_J7_fill_53178 N 50 (fun _ => 0) 10 j).toInt ≤ 1000) ∧ bz 0
    rw [a 100 j hj, a 180 j hj, a 10 j hj]
    exact ⟨⟨by decide, by decide⟩, ⟨by decide, by decide⟩, ⟨by decide, by decide⟩, z0⟩
  · intro j hj
    show f_J7_fill_53178 N 50 (fun _ => 0) 100 j = f0 j ∧ f_J7_fill_53178 N 50 (fun _ => 0) 180 j = f1 j ∧ f_J7_fill_53178 N 50 (fun _ => 0) 10 j = f2 j ∧ (0 : Int32) = 0
    rw [a 100 j hj, a 180 j hj, a 10 j hj, h0 j hj, h1 j hj, h2 j hj]
    exact ⟨rfl, rfl, rfl, rfl⟩
