/-! The tests on record, the stops. -/
def LatP (what : Int32) (f : Nat → Int32) (lo hi : Int) (l : Int32) : Prop :=
  (l = -1 ∧ ∀ k : Nat, lo ≤ (k : Int) → (k : Int) < hi → ¬ f k = what) ∨ ((lo ≤ l.toInt ∧ 0 ≤ l.toInt ∧ l.toInt < hi ∧ f l.toNatClampNeg = what) ∧ ∀ k : Nat, l.toInt < (k : Int) → (k : Int) < hi → ¬ f k = what)
theorem latest_loop (G : MS) (what : Int32) (lo : Int) (ht : (M_tests G).toInt ≤ 60) : ∀ (n : Nat) (i j : Int32), lo ≤ i.toInt → 0 ≤ i.toInt → i.toInt ≤ (M_tests G).toInt → (M_tests G).toInt - i.toInt < n → LatP what (M_tested G) lo i.toInt j →
    LatP what (M_tested G) lo (M_tests G).toInt (f_X4_latest_L5 G what n i j) ∧ ok_X4_latest_L5 G what n i j := by
  intro n
  induction n with
  | zero => intro i j _ _ _ h4 _; exfalso; omega
  | succ n ih =>
    intro i j h1 h2 h3 h4 h5
    unfold f_X4_latest_L5 ok_X4_latest_L5
    by_cases c : M_tests G ≤ i
    · rw [if_pos c]
      have c' := c
      rw [i_le] at c'
      have e : i.toInt = (M_tests G).toInt := by omega
      rw [e] at h5
      exact ⟨h5, fun _ => trivial, fun h => absurd c h⟩
    · rw [if_neg c]
      have c' := c
      rw [i_le] at c'
      have ei : (i + 1).toInt = i.toInt + 1 := i_inc (by omega)
      have hv : vp_in i 60 := vin h2 (by omega)
      have hcl := cl h2
      by_cases c2 : M_tested G i.toNatClampNeg = what
      · rw [if_pos c2]
        have hn : LatP what (M_tested G) lo (i + 1).toInt i := Or.inr ⟨⟨h1, h2, by omega, c2⟩, fun k k1 k2 => by exfalso; omega⟩
        obtain ⟨k1, k2⟩ := ih (i + 1) i (by omega) (by omega) (by omega) (by omega) hn
        exact ⟨k1, fun h => absurd h c, fun _ => ⟨hv, fun _ => k2, fun h => absurd c2 h⟩⟩
      · rw [if_neg c2]
        have hk : ∀ k : Nat, (k : Int) = i.toInt → ¬ M_tested G k = what := by
          intro k hk
          have : k = i.toNatClampNeg := by omega
          rw [this]; exact c2
        have hn : LatP what (M_tested G) lo (i + 1).toInt j := by
          rw [ei]
          rcases h5 with ⟨a1, a2⟩ | ⟨⟨a1, a2, a3, a4⟩, a5⟩
          · refine Or.inl ⟨a1, fun k k1 k2 => ?_⟩
            by_cases hki : (k : Int) = i.toInt
            · exact hk k hki
            · exact a2 k k1 (by omega)
          · refine Or.inr ⟨⟨a1, a2, by omega, a4⟩, fun k k1 k2 => ?_⟩
            by_cases hki : (k : Int) = i.toInt
            · exact hk k hki
            · exact a5 k k1 (by omega)
        obtain ⟨k1, k2⟩ := ih (i + 1) j (by omega) (by omega) (by omega) (by omega) hn
        exact ⟨k1, fun h => absurd h c, fun _ => ⟨hv, fun h => absurd h c2, fun _ => k2⟩⟩
theorem lat_uniq {what : Int32} {f : Nat → Int32} {lo hi : Int} {a b : Int32} (h : LatP what f lo hi a) (k : LatP what f lo hi b) : a = b := by
  rcases h with ⟨a1, a2⟩ | ⟨⟨a1, a2, a3, a4⟩, a5⟩
  · rcases k with ⟨b1, b2⟩ | ⟨⟨b1, b2, b3, b4⟩, b5⟩
    · rw [a1, b1]
    · have := cl b2
      exact absurd b4 (a2 _ (by omega) (by omega))
  · rcases k with ⟨b1, b2⟩ | ⟨⟨b1, b2, b3, b4⟩, b5⟩
    · have := cl a2
      exact absurd a4 (b2 _ (by omega) (by omega))
    · have ha := cl a2
      have hb := cl b2
      rw [i_eq]
      rcases Int.lt_trichotomy a.toInt b.toInt with h | h | h
      · exact absurd b4 (a5 _ (by omega) (by omega))
      · exact h
      · exact absurd a4 (b5 _ (by omega) (by omega))
theorem latest_eq {N : Nat} {G : MS} {what lo l : Int32} (hN : 60 < N) (h0 : 0 ≤ lo.toInt) (h1 : lo.toInt ≤ (M_tests G).toInt) (ht : (M_tests G).toInt ≤ 60) (hl : LatP what (M_tested G) lo.toInt (M_tests G).toInt l) :
    f_X4_latest N G what lo = l ∧ ok_X4_latest N G what lo := by
  obtain ⟨k1, k2⟩ := latest_loop G what lo.toInt ht N lo (-1) (Int.le_refl _) h0 h1 (by omega) (Or.inl ⟨rfl, fun k k1 k2 => by exfalso; omega⟩)
  exact ⟨lat_uniq k1 hl, k2, trivial⟩
/-- what ties the class's tests to the model's -/
def RelT (t : TS) (g : MS) (ba hb : Int32) : Prop :=
  T_count t = M_tests g ∧ (0 ≤ (M_tests g).toInt ∧ (M_tests g).toInt ≤ 60) ∧
  (∀ j : Nat, j < 60 → T_whats t j = M_tested g j ∧ T_pressures t j = M_by g j ∧ T_passes t j = M_isPassed g j ∧ T_minutes t j = M_testedAt g j ∧ bz (M_isPassed g j)) ∧
  LatP 0 (M_tested g) 0 (M_tests g).toInt (T_latestOfValve t) ∧ (0 ≤ ba.toInt ∧ ba.toInt ≤ (M_tests g).toInt) ∧
  (hb = 0 → T_latestOfValve t = -1 ∨ ba.toInt ≤ (T_latestOfValve t).toInt) ∧ (¬ hb = 0 → (T_latestOfValve t).toInt < ba.toInt) ∧
  (0 ≤ (M_casedAfter g).toInt ∧ (M_casedAfter g).toInt ≤ (M_tests g).toInt) ∧ LatP 1 (M_tested g) (M_casedAfter g).toInt (M_tests g).toInt (T_latestOfCement t)
theorem isPassed_eq {t : TS} {g : MS} {l : Int32} (hj : ∀ j : Nat, j < 60 → T_whats t j = M_tested g j ∧ T_pressures t j = M_by g j ∧ T_passes t j = M_isPassed g j ∧ T_minutes t j = M_testedAt g j ∧ bz (M_isPassed g j)) (h : l = -1 ∨ (0 ≤ l.toInt ∧ l.toInt < 60)) :
    (f_X1_isPassed t l = 0 ↔ (l = -1 ∨ M_isPassed g l.toNatClampNeg = 0)) ∧ (¬ l = -1 → f_X3_read 60 (T_minutes t) l = M_testedAt g l.toNatClampNeg ∧ vp_in l 60) := by
  unfold f_X1_isPassed
  by_cases c : l = -1
  · rw [if_pos c]; exact ⟨⟨fun _ => Or.inl c, fun _ => rfl⟩, fun h => absurd c h⟩
  · rw [if_neg c]
    rcases h with h | ⟨h1, h2⟩
    · exact absurd h c
    · have hlt := cl_lt (n := 60) h1 h2
      obtain ⟨-, -, j3, j4, j5⟩ := hj _ hlt
      rw [read_in (by decide) h1 h2, read_in (by decide) h1 h2, j3]
      refine ⟨?_, fun _ => ⟨j4, vin h1 h2⟩⟩
      rcases j5 with j5 | j5 <;> rw [j5]
      · exact ⟨fun _ => Or.inr rfl, fun _ => by decide⟩
      · exact ⟨fun h => absurd h (by decide), fun h => by rcases h with h | h; exact absurd h c; exact absurd h (by decide)⟩
theorem lat_rng {what : Int32} {f : Nat → Int32} {lo hi : Int} {l : Int32} (h : LatP what f lo hi l) : l = -1 ∨ (0 ≤ l.toInt ∧ l.toInt < hi ∧ lo ≤ l.toInt) := by
  rcases h with ⟨a1, a2⟩ | ⟨⟨a1, a2, a3, a4⟩, a5⟩
  · exact Or.inl a1
  · exact Or.inr ⟨a2, a3, a1⟩
/-- the latest test of the valve behind the last break -/
theorem lat_break {t : TS} {g : MS} {ba hb : Int32} (h : RelT t g ba hb) : LatP 0 (M_tested g) ba.toInt (M_tests g).toInt (if hb = 0 then T_latestOfValve t else -1) := by
  obtain ⟨-, -, -, hv, ⟨b0, b1⟩, h0, h1, -, -⟩ := h
  by_cases c : hb = 0
  · rw [if_pos c]
    rcases hv with ⟨a1, a2⟩ | ⟨⟨a1, a2, a3, a4⟩, a5⟩
    · exact Or.inl ⟨a1, fun k k1 k2 => a2 k (by omega) k2⟩
    · refine Or.inr ⟨⟨?_, a2, a3, a4⟩, a5⟩
      rcases h0 c with h | h
      · rw [h] at a2; exact absurd a2 (by decide)
      · exact h
  · rw [if_neg c]
    have h1 := h1 c
    refine Or.inl ⟨rfl, fun k k1 k2 => ?_⟩
    rcases hv with ⟨a1, a2⟩ | ⟨⟨a1, a2, a3, a4⟩, a5⟩
    · exact a2 k (by omega) k2
    · exact a5 k (by omega) k2
