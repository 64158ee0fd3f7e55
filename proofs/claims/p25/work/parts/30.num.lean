/-! Numbers of the machine in the integers. -/
theorem i_rng (x : Int32) : -2147483648 ≤ x.toInt ∧ x.toInt < 2147483648 := ⟨Int32.le_toInt x, Int32.toInt_lt x⟩
theorem l_rng (x : Int64) : -9223372036854775808 ≤ x.toInt ∧ x.toInt < 9223372036854775808 := ⟨Int64.le_toInt x, Int64.toInt_lt x⟩
theorem i_add {x y : Int32} (h1 : -2147483648 ≤ x.toInt + y.toInt) (h2 : x.toInt + y.toInt < 2147483648) : (x + y).toInt = x.toInt + y.toInt := by
  rw [Int32.toInt_add]; exact Int.bmod_eq_of_le (by omega) (by omega)
theorem i_sub {x y : Int32} (h1 : -2147483648 ≤ x.toInt - y.toInt) (h2 : x.toInt - y.toInt < 2147483648) : (x - y).toInt = x.toInt - y.toInt := by
  rw [Int32.toInt_sub]; exact Int.bmod_eq_of_le (by omega) (by omega)
theorem i_mul {x y : Int32} (h1 : -2147483648 ≤ x.toInt * y.toInt) (h2 : x.toInt * y.toInt < 2147483648) : (x * y).toInt = x.toInt * y.toInt := by
  rw [Int32.toInt_mul]; exact Int.bmod_eq_of_le (by omega) (by omega)
theorem i_div {x y : Int32} (hx : 0 ≤ x.toInt) (hy : 0 < y.toInt) : (x / y).toInt = x.toInt / y.toInt := by
  have h3 := i_rng x
  have h4 : x.toInt / y.toInt ≤ x.toInt := Int.ediv_le_self _ hx
  have h5 : 0 ≤ x.toInt / y.toInt := Int.ediv_nonneg hx (by omega)
  rw [Int32.toInt_div, Int.tdiv_eq_ediv_of_nonneg hx]; exact Int.bmod_eq_of_le (by omega) (by omega)
theorem l_add {x y : Int64} (h1 : -9223372036854775808 ≤ x.toInt + y.toInt) (h2 : x.toInt + y.toInt < 9223372036854775808) : (x + y).toInt = x.toInt + y.toInt := by
  rw [Int64.toInt_add]; exact Int.bmod_eq_of_le (by omega) (by omega)
theorem l_mul {x y : Int64} (h1 : -9223372036854775808 ≤ x.toInt * y.toInt) (h2 : x.toInt * y.toInt < 9223372036854775808) : (x * y).toInt = x.toInt * y.toInt := by
  rw [Int64.toInt_mul]; exact Int.bmod_eq_of_le (by omega) (by omega)
theorem l_div {x y : Int64} (hx : 0 ≤ x.toInt) (hy : 0 < y.toInt) : (x / y).toInt = x.toInt / y.toInt := by
  have h3 := l_rng x
  have h4 : x.toInt / y.toInt ≤ x.toInt := Int.ediv_le_self _ hx
  have h5 : 0 ≤ x.toInt / y.toInt := Int.ediv_nonneg hx (by omega)
  rw [Int64.toInt_div, Int.tdiv_eq_ediv_of_nonneg hx]; exact Int.bmod_eq_of_le (by omega) (by omega)
theorem i_le {x y : Int32} : x ≤ y ↔ x.toInt ≤ y.toInt := Int32.le_iff_toInt_le
theorem i_lt {x y : Int32} : x < y ↔ x.toInt < y.toInt := Int32.lt_iff_toInt_lt
theorem i_eq {x y : Int32} : x = y ↔ x.toInt = y.toInt := Int32.toInt_inj.symm
theorem l_le {x y : Int64} : x ≤ y ↔ x.toInt ≤ y.toInt := Int64.le_iff_toInt_le
theorem l_lt {x y : Int64} : x < y ↔ x.toInt < y.toInt := Int64.lt_iff_toInt_lt
theorem l_eq {x y : Int64} : x = y ↔ x.toInt = y.toInt := Int64.toInt_inj.symm
theorem l2i {x : Int64} (h1 : -2147483648 ≤ x.toInt) (h2 : x.toInt < 2147483648) : x.toInt32.toInt = x.toInt := by
  rw [Int64.toInt_toInt32]; exact Int.bmod_eq_of_le (by omega) (by omega)
theorem i2l {x : Int32} : x.toInt64.toInt = x.toInt := Int32.toInt_toInt64 x
theorem i2l2i (x : Int32) : x.toInt64.toInt32 = x := by
  rw [i_eq, l2i] <;> rw [i2l] <;> have := i_rng x <;> omega
theorem i2l_inj {x y : Int32} (h : x.toInt64 = y.toInt64) : x = y := by
  rw [← i2l2i x, h, i2l2i]
theorem imax_i (x y : Int32) : (imax x y).toInt = max x.toInt y.toInt := by
  unfold imax; split <;> rename_i h <;> rw [i_lt] at h <;> omega
theorem imin_i (x y : Int32) : (imin x y).toInt = min x.toInt y.toInt := by
  unfold imin; split <;> rename_i h <;> rw [i_lt] at h <;> omega
theorem imax0 {z : Int32} (h : 0 ≤ z.toInt) : imax 0 z = z := by
  rw [i_eq, imax_i]; show max 0 _ = _; omega
theorem cl {x : Int32} (h : 0 ≤ x.toInt) : (x.toNatClampNeg : Int) = x.toInt := by
  rw [Int32.toNatClampNeg]; exact Int.toNat_of_nonneg h
theorem cl_lt {x : Int32} {n : Nat} (h0 : 0 ≤ x.toInt) (h : x.toInt < n) : x.toNatClampNeg < n := by
  have := cl h0; omega
theorem vin {x : Int32} {n : Nat} (h0 : 0 ≤ x.toInt) (h : x.toInt < n) : vp_in x n := by
  rintro (h1 | h1)
  · rw [i_lt] at h1
    have : (0 : Int32).toInt = 0 := rfl
    omega
  · have := cl_lt h0 h; omega
theorem cmp_le0 (x y : Int64) : lg_cmp x y ≤ 0 ↔ x.toInt ≤ y.toInt := by
  unfold lg_cmp
  split
  · rename_i h; have h : y < x := h; rw [l_lt] at h
    constructor
    · intro h2; exact absurd h2 (by decide)
    · intro h2; omega
  · rename_i h; have h : ¬ y < x := h; rw [l_lt] at h
    constructor
    · intro _; omega
    · intro _; split <;> decide
theorem cmp_eq0 (x y : Int64) : lg_cmp x y = 0 ↔ x = y := by
  unfold lg_cmp
  split
  · rename_i h; have h : y < x := h; rw [l_lt] at h
    constructor
    · intro h2; exact absurd h2 (by decide)
    · intro h2; rw [h2] at h; omega
  · split
    · rename_i h2; exact ⟨fun _ => h2, fun _ => rfl⟩
    · rename_i h2; exact ⟨fun h => absurd h (by decide), fun h => absurd h h2⟩
theorem cmp_ge0 (x y : Int64) : 0 ≤ lg_cmp x y ↔ y.toInt ≤ x.toInt := by
  unfold lg_cmp
  split
  · rename_i h; have h : y < x := h; rw [l_lt] at h
    exact ⟨fun _ => by omega, fun _ => by decide⟩
  · rename_i h; have h : ¬ y < x := h; rw [l_lt] at h
    split
    · rename_i h2; rw [h2]; exact ⟨fun _ => by omega, fun _ => by decide⟩
    · rename_i h2; rw [l_eq] at h2; exact ⟨fun h3 => absurd h3 (by decide), fun h3 => by omega⟩
