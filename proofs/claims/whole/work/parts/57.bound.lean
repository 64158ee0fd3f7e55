/-! Weights that kill, windows. -/
theorem kill_loop (G : MS) (P d K : Int32) (hP : f_X4_poreAt ((f_X4_goesWell G (if (M_depth G) ≤ 0 then (1 : Int32) else (0 : Int32))).2) (M_depth ((f_X4_goesWell G (if (M_depth G) ≤ 0 then (1 : Int32) else (0 : Int32))).2)) = P) (hD : M_depth ((f_X4_goesWell G (if (M_depth G) ≤ 0 then (1 : Int32) else (0 : Int32))).2) = d)
    (hok : ok_X4_poreAt d) (hK0 : 0 ≤ K.toInt) (hK1 : K.toInt ≤ 300) (hy : P ≤ K * d / 10) (hn : ∀ i : Int32, 0 ≤ i.toInt → i.toInt < K.toInt → ¬ P ≤ i * d / 10) :
    ∀ (n : Nat) (i : Int32), 0 ≤ i.toInt → i.toInt ≤ K.toInt → K.toInt - i.toInt < n → f_X4_killWeight_L23 G n i = K ∧ ok_X4_killWeight_L23 G n i := by
  intro n
  induction n with
  | zero => intro i h0 h1 h2; exfalso; omega
  | succ n ih =>
    intro i h0 h1 h2
    unfold f_X4_killWeight_L23 ok_X4_killWeight_L23
    rw [hP, hD]
    by_cases c : i = K
    · subst c
      rw [if_pos hy]
      exact ⟨rfl, hok, fun _ => trivial, fun h => absurd hy h⟩
    · have c' : i.toInt < K.toInt := by rw [i_eq] at c; omega
      have hc := hn i h0 c'
      have ei : (i + 1).toInt = i.toInt + 1 := i_inc (by omega)
      obtain ⟨k1, k2⟩ := ih (i + 1) (by omega) (by omega) (by omega)
      rw [if_neg hc]
      exact ⟨k1, hok, fun h => absurd h hc, fun _ => k2⟩
theorem op_kill {x : XS} {w : WS} {r : RS} {t : TS} {G : MS} {N : Nat} (hN : 4000 < N) (h : Rel x w r t G) : ok_X4_killWeight N G ∧
    ((∃ val : Int32, f_X3_killWeight w r = (0, val) ∧ f_X4_killWeight N G = (val, M_set_thrown G 0)) ∨
    (f_X3_killWeight w r = (3, 0) ∧ f_X4_killWeight N G = (0, M_set_thrown G 1))) := by
  obtain ⟨ba, g, rfl, hI, hG⟩ := h
  obtain ⟨hIR, hR, -⟩ := id hG
  have hd := hI.1
  have e0 : (0 : Int32).toInt = 0 := rfl
  have e1 : (1 : Int32).toInt = 1 := rfl
  have e10 : (10 : Int32).toInt = 10 := rfl
  by_cases c : 0 < W_depth w
  · have c' := c
    rw [i_lt, e0] at c'
    have cm : ¬ M_depth (put w ba g) ≤ 0 := by show ¬ W_depth w ≤ 0; rw [i_le, e0]; omega
    obtain ⟨pe, po, P0, P1, pv, pv0, pv1, pq⟩ := pore_eq hR hIR hd.1 hd.2
    have hD : M_depth ((f_X4_goesWell (put w ba g) (if (M_depth (put w ba g)) ≤ 0 then (1 : Int32) else (0 : Int32))).2) = W_depth w := by rw [gwd]; rfl
    have hP : f_X4_poreAt ((f_X4_goesWell (put w ba g) (if (M_depth (put w ba g)) ≤ 0 then (1 : Int32) else (0 : Int32))).2) (M_depth ((f_X4_goesWell (put w ba g) (if (M_depth (put w ba g)) ≤ 0 then (1 : Int32) else (0 : Int32))).2)) = f_X0_poreAt r (W_depth w) := by rw [hD, pe, gwd]; rfl
    generalize hPP : f_X0_poreAt r (W_depth w) = P at *
    generalize hdd : W_depth w = d at *
    have m10 : (10 * P).toInt = 10 * P.toInt := by rw [i_mul (by rw [e10]; omega) (by rw [e10]; omega), e10]
    have ma : (10 * P + d).toInt = 10 * P.toInt + d.toInt := by rw [i_add (by rw [m10]; omega) (by rw [m10]; omega), m10]
    have ms : (10 * P + d - 1).toInt = 10 * P.toInt + d.toInt - 1 := by rw [i_sub (by rw [ma, e1]; omega) (by rw [ma, e1]; omega), ma, e1]
    have mk : ((10 * P + d - 1) / d).toInt = (10 * P.toInt + d.toInt - 1) / d.toInt := by rw [i_div (by rw [ms]; omega) c', ms]
    generalize hK : (10 * P + d - 1) / d = K at *
    have k1 : K.toInt * d.toInt ≤ 10 * P.toInt + d.toInt - 1 := by rw [mk]; exact Int.ediv_mul_le _ (by omega)
    have k2 : 10 * P.toInt + d.toInt - 1 < (K.toInt + 1) * d.toInt := by rw [mk]; exact Int.lt_ediv_add_one_mul_self _ c'
    have k0 : 0 ≤ K.toInt := by rw [mk]; exact Int.ediv_nonneg (by omega) (by omega)
    have k2' : (K.toInt + 1) * d.toInt = K.toInt * d.toInt + d.toInt := by rw [Int.add_mul, Int.one_mul]
    have p300 : 10 * P.toInt ≤ 300 * d.toInt := by omega
    have k3 : K.toInt ≤ 300 := by
      by_cases hh : K.toInt ≤ 300
      · exact hh
      · have := Int.mul_le_mul_of_nonneg_right (a := 301) (b := K.toInt) (by omega) hd.1
        omega
    have pr : ∀ i : Int32, 0 ≤ i.toInt → i.toInt ≤ 300 → (i * d / 10).toInt = i.toInt * d.toInt / 10 ∧ 0 ≤ i.toInt * d.toInt := by
      intro i i0 i1
      have a0 := Int.mul_nonneg i0 hd.1
      have a1 := Int.mul_le_mul_of_nonneg_right i1 hd.1
      have em : (i * d).toInt = i.toInt * d.toInt := i_mul (by omega) (by omega)
      exact ⟨by rw [i_div (by rw [em]; omega) (by decide), em, e10], a0⟩
    have hy : P ≤ K * d / 10 := by
      obtain ⟨a, b⟩ := pr K k0 k3
      rw [i_le, a]; omega
    have hn : ∀ i : Int32, 0 ≤ i.toInt → i.toInt < K.toInt → ¬ P ≤ i * d / 10 := by
      intro i i0 i1
      obtain ⟨a, b⟩ := pr i i0 (by omega)
      have a1 := Int.mul_le_mul_of_nonneg_right (a := i.toInt + 1) (b := K.toInt) (by omega) hd.1
      have a2 : (i.toInt + 1) * d.toInt = i.toInt * d.toInt + d.toInt := by rw [Int.add_mul, Int.one_mul]
      rw [i_le, a]; omega
    obtain ⟨l1, l2⟩ := kill_loop (put w ba g) P d K hP hD po k0 k3 hy hn N 0 (by omega) (by omega) (by omega)
    unfold f_X3_killWeight f_X4_killWeight ok_X4_killWeight
    rw [hdd, hPP]
    exact ⟨by simp -implicitDefEqProofs only [cm, l2, if_true, if_false, true_implies, false_implies, not_true_eq_false, not_false_eq_true, and_true, true_and, gw0, gw1, gw2, gw3, gwd, h10, h20, h30, eq_self, ite_self, implies_true, wi_eq], Or.inl ⟨K, by simp -implicitDefEqProofs only [c, hK, if_true, if_false, true_implies, false_implies, not_true_eq_false, not_false_eq_true, and_true, true_and, gw0, gw1, gw2, gw3, gwd, h10, h20, h30, eq_self, ite_self, implies_true, wi_eq], by simp -implicitDefEqProofs only [cm, l1, if_true, if_false, true_implies, false_implies, not_true_eq_false, not_false_eq_true, and_true, true_and, gw0, gw1, gw2, gw3, gwd, h10, h20, h30, eq_self, ite_self, implies_true, wi_eq]⟩⟩
  · have cm : M_depth (put w ba g) ≤ 0 := by show W_depth w ≤ 0; rw [i_lt, e0] at c; rw [i_le, e0]; omega
    unfold f_X3_killWeight f_X4_killWeight ok_X4_killWeight
    exact ⟨by simp -implicitDefEqProofs only [cm, if_true, if_false, true_implies, false_implies, not_true_eq_false, not_false_eq_true, and_true, true_and, gw0, gw1, gw2, gw3, gwd, h10, h20, h30, eq_self, ite_self, implies_true, wi_eq], Or.inr ⟨by simp -implicitDefEqProofs only [c, if_true, if_false, true_implies, false_implies, not_true_eq_false, not_false_eq_true, and_true, true_and, gw0, gw1, gw2, gw3, gwd, h10, h20, h30, eq_self, ite_self, implies_true, wi_eq], by simp -implicitDefEqProofs only [cm, if_true, if_false, true_implies, false_implies, not_true_eq_false, not_false_eq_true, and_true, true_and, gw0, gw1, gw2, gw3, gwd, h10, h20, h30, eq_self, ite_self, implies_true, wi_eq]⟩⟩
/-- the greatest of n numbers from a on, and the least -/
def rp (p : Nat → Int32) (a : Nat) : Nat → Int32
  | 0 => 0
  | n + 1 => imax (rp p a n) (p (a + n))
def rb (b : Nat → Int32) (a : Nat) : Nat → Int32
  | 0 => 300
  | n + 1 => imin (rb b a n) (b (a + n))
def HB (p b : Nat → Int32) : Prop := ∀ j : Nat, j < 50 → (0 ≤ (p j).toInt ∧ (p j).toInt ≤ 300) ∧ (0 ≤ (b j).toInt ∧ (b j).toInt ≤ 300)
theorem hb_of {r : RS} {g : MS} (hI : InvR r) (hR : RelR r g) : HB (M_pore g) (M_breaks g) := by
  intro j hj
  obtain ⟨r1, r2, -⟩ := hR j hj
  obtain ⟨i1, i2, -⟩ := hI j hj
  rw [← r1, ← r2]; exact ⟨i1, i2⟩
theorem imax_m (a v : Int32) : (if v ≤ a then a else v) = imax a v := by
  unfold imax
  by_cases c : a < v
  · rw [if_pos c, if_neg (by rw [i_le]; rw [i_lt] at c; omega)]
  · rw [if_neg c, if_pos (by rw [i_le]; rw [i_lt] at c; omega)]
theorem imin_m (a v : Int32) : (if a ≤ v then a else v) = imin a v := by
  unfold imin
  by_cases c : v < a
  · rw [if_pos c, if_neg (by rw [i_le]; rw [i_lt] at c; omega)]
  · rw [if_neg c, if_pos (by rw [i_le]; rw [i_lt] at c; omega)]
theorem rp_one {p : Nat → Int32} {a : Nat} (h : 0 ≤ (p a).toInt) : rp p a 1 = p a := by
  show imax 0 (p (a + 0)) = p a
  rw [Nat.add_zero]; exact imax0 h
theorem rb_one {b : Nat → Int32} {a : Nat} (h : (b a).toInt ≤ 300) : rb b a 1 = b a := by
  show imin 300 (b (a + 0)) = b a
  rw [Nat.add_zero, i_eq, imin_i]
  have : (300 : Int32).toInt = 300 := rfl
  omega
theorem bound_p (G : MS) (b : Int32) (a : Nat) (hb : b.toInt < 50) : ∀ (n m : Nat) (i acc : Int32), 0 ≤ i.toInt → i.toInt ≤ b.toInt + 1 → i.toInt = a + m → b.toInt + 1 - i.toInt < n → acc = rp (M_pore G) a m →
    f_X4_bound_L24 G b 0 n i acc = rp (M_pore G) a (m + (b.toInt + 1 - i.toInt).toNat) ∧ ok_X4_bound_L24 G b 0 n i acc := by
  intro n
  induction n with
  | zero => intro m i acc h0 h1 h2 h3 h4; exfalso; omega
  | succ n ih =>
    intro m i acc h0 h1 h2 h3 h4
    unfold f_X4_bound_L24 ok_X4_bound_L24
    by_cases c : b < i
    · have c' := c
      rw [i_lt] at c'
      rw [if_pos c]
      have e : (b.toInt + 1 - i.toInt).toNat = 0 := by omega
      rw [e]
      exact ⟨h4, fun _ => trivial, fun h => absurd c h⟩
    · have c' := c
      rw [i_lt] at c'
      have ei : (i + 1).toInt = i.toInt + 1 := i_inc (by omega)
      have hcl := cl h0
      have hv : vp_in i 50 := vin h0 (by omega)
      have hcn : i.toNatClampNeg = a + m := by omega
      obtain ⟨k1, k2⟩ := ih (m + 1) (i + 1) (imax acc (M_pore G i.toNatClampNeg)) (by omega) (by omega) (by omega) (by omega) (by rw [h4, hcn]; rfl)
      have e : m + 1 + (b.toInt + 1 - (i + 1).toInt).toNat = m + (b.toInt + 1 - i.toInt).toNat := by omega
      rw [e] at k1
      rw [if_neg c, if_pos rfl]
      have hs := imax_m acc (M_pore G i.toNatClampNeg)
      by_cases d : M_pore G i.toNatClampNeg ≤ acc
      · rw [if_pos d] at hs
        rw [← hs] at k1 k2
        rw [if_pos d]
        exact ⟨k1, fun h => absurd h c, fun _ => ⟨fun _ => ⟨hv, fun _ => k2, fun h => absurd d h⟩, fun h => absurd rfl h⟩⟩
      · rw [if_neg d] at hs
        rw [← hs] at k1 k2
        rw [if_neg d]
        exact ⟨k1, fun h => absurd h c, fun _ => ⟨fun _ => ⟨hv, fun h => absurd h d, fun _ => ⟨hv, k2⟩⟩, fun h => absurd rfl h⟩⟩
theorem bound_b (G : MS) (b q : Int32) (hq : ¬ q = 0) (a : Nat) (hb : b.toInt < 50) : ∀ (n m : Nat) (i acc : Int32), 0 ≤ i.toInt → i.toInt ≤ b.toInt + 1 → i.toInt = a + m → b.toInt + 1 - i.toInt < n → acc = rb (M_breaks G) a m →
    f_X4_bound_L24 G b q n i acc = rb (M_breaks G) a (m + (b.toInt + 1 - i.toInt).toNat) ∧ ok_X4_bound_L24 G b q n i acc := by
  intro n
  induction n with
  | zero => intro m i acc h0 h1 h2 h3 h4; exfalso; omega
  | succ n ih =>
    intro m i acc h0 h1 h2 h3 h4
    unfold f_X4_bound_L24 ok_X4_bound_L24
    by_cases c : b < i
    · have c' := c
      rw [i_lt] at c'
      rw [if_pos c]
      have e : (b.toInt + 1 - i.toInt).toNat = 0 := by omega
      rw [e]
      exact ⟨h4, fun _ => trivial, fun h => absurd c h⟩
    · have c' := c
      rw [i_lt] at c'
      have ei : (i + 1).toInt = i.toInt + 1 := i_inc (by omega)
      have hcl := cl h0
      have hv : vp_in i 50 := vin h0 (by omega)
      have hcn : i.toNatClampNeg = a + m := by omega
      obtain ⟨k1, k2⟩ := ih (m + 1) (i + 1) (imin acc (M_breaks G i.toNatClampNeg)) (by omega) (by omega) (by omega) (by omega) (by rw [h4, hcn]; rfl)
      have e : m + 1 + (b.toInt + 1 - (i + 1).toInt).toNat = m + (b.toInt + 1 - i.toInt).toNat := by omega
      rw [e] at k1
      rw [if_neg c, if_neg hq]
      have hs := imin_m acc (M_breaks G i.toNatClampNeg)
      by_cases d : acc ≤ M_breaks G i.toNatClampNeg
      · rw [if_pos d] at hs
        rw [← hs] at k1 k2
        rw [if_pos d]
        exact ⟨k1, fun h => absurd h c, fun _ => ⟨fun h => absurd h hq, fun _ => ⟨hv, fun _ => k2, fun h => absurd d h⟩⟩⟩
      · rw [if_neg d] at hs
        rw [← hs] at k1 k2
        rw [if_neg d]
        exact ⟨k1, fun h => absurd h c, fun _ => ⟨fun h => absurd h hq, fun _ => ⟨hv, fun h => absurd h d, fun _ => ⟨hv, k2⟩⟩⟩⟩
theorem bound_p_eq {G : MS} {N : Nat} {a b : Int32} (hN : 60 < N) (h0 : 0 ≤ a.toInt) (h1 : a.toInt ≤ b.toInt) (h2 : b.toInt < 50) (hp : 0 ≤ (M_pore G a.toNatClampNeg).toInt) :
    f_X4_bound N G a b 0 = rp (M_pore G) a.toNatClampNeg (b.toInt + 1 - a.toInt).toNat ∧ ok_X4_bound N G a b 0 := by
  obtain ⟨n, rfl⟩ : ∃ n, N = n + 1 := ⟨N - 1, by omega⟩
  have hcl := cl h0
  have hv : vp_in a 50 := vin h0 (by omega)
  have ei : (a + 1).toInt = a.toInt + 1 := i_inc (by omega)
  obtain ⟨k1, k2⟩ := bound_p G b a.toNatClampNeg h2 n 1 (a + 1) (M_pore G a.toNatClampNeg) (by omega) (by omega) (by omega) (by omega) (rp_one hp).symm
  have e : 1 + (b.toInt + 1 - (a + 1).toInt).toNat = (b.toInt + 1 - a.toInt).toNat := by omega
  rw [e] at k1
  have c : ¬ b < a := by rw [i_lt]; omega
  have hle : M_pore G a.toNatClampNeg ≤ M_pore G a.toNatClampNeg := by rw [i_le]; exact Int.le_refl _
  have f1 : f_X4_bound_L24 G b 0 (n + 1) a (M_pore G a.toNatClampNeg) = f_X4_bound_L24 G b 0 n (a + 1) (M_pore G a.toNatClampNeg) := by
    show (if b < a then _ else (if (0 : Int32) = 0 then (if M_pore G a.toNatClampNeg ≤ M_pore G a.toNatClampNeg then _ else _) else _)) = _
    rw [if_neg c, if_pos rfl, if_pos hle]
  have o1 : ok_X4_bound_L24 G b 0 (n + 1) a (M_pore G a.toNatClampNeg) := ⟨fun h => absurd h c, fun _ => ⟨fun _ => ⟨hv, fun _ => k2, fun h => absurd hle h⟩, fun h => absurd rfl h⟩⟩
  unfold f_X4_bound ok_X4_bound
  rw [if_pos rfl, f1]
  exact ⟨k1, fun _ => ⟨hv, o1, trivial⟩, fun h => absurd rfl h⟩
theorem bound_b_eq {G : MS} {N : Nat} {a b q : Int32} (hq : ¬ q = 0) (hN : 60 < N) (h0 : 0 ≤ a.toInt) (h1 : a.toInt ≤ b.toInt) (h2 : b.toInt < 50) (hp : (M_breaks G a.toNatClampNeg).toInt ≤ 300) :
    f_X4_bound N G a b q = rb (M_breaks G) a.toNatClampNeg (b.toInt + 1 - a.toInt).toNat ∧ ok_X4_bound N G a b q := by
  obtain ⟨n, rfl⟩ : ∃ n, N = n + 1 := ⟨N - 1, by omega⟩
  have hcl := cl h0
  have hv : vp_in a 50 := vin h0 (by omega)
  have ei : (a + 1).toInt = a.toInt + 1 := i_inc (by omega)
  obtain ⟨k1, k2⟩ := bound_b G b q hq a.toNatClampNeg h2 n 1 (a + 1) (M_breaks G a.toNatClampNeg) (by omega) (by omega) (by omega) (by omega) (rb_one hp).symm
  have e : 1 + (b.toInt + 1 - (a + 1).toInt).toNat = (b.toInt + 1 - a.toInt).toNat := by omega
  rw [e] at k1
  have c : ¬ b < a := by rw [i_lt]; omega
  have hle : M_breaks G a.toNatClampNeg ≤ M_breaks G a.toNatClampNeg := by rw [i_le]; exact Int.le_refl _
  have f1 : f_X4_bound_L24 G b q (n + 1) a (M_breaks G a.toNatClampNeg) = f_X4_bound_L24 G b q n (a + 1) (M_breaks G a.toNatClampNeg) := by
    show (if b < a then _ else (if q = 0 then _ else (if M_breaks G a.toNatClampNeg ≤ M_breaks G a.toNatClampNeg then _ else _))) = _
    rw [if_neg c, if_neg hq, if_pos hle]
  have o1 : ok_X4_bound_L24 G b q (n + 1) a (M_breaks G a.toNatClampNeg) := ⟨fun h => absurd h c, fun _ => ⟨fun h => absurd h hq, fun _ => ⟨hv, fun _ => k2, fun h => absurd hle h⟩⟩⟩
  unfold f_X4_bound ok_X4_bound
  rw [if_neg hq, f1]
  exact ⟨k1, fun h => absurd h hq, fun _ => ⟨hv, o1, trivial⟩⟩
theorem great_loop (r : RS) (p : Nat → Int32) (b : Int32) (a : Nat) (hb : b.toInt < 50) (hr : ∀ j : Nat, j < 50 → R_pores r j = p j) : ∀ (n m : Nat) (i acc : Int32), 0 ≤ i.toInt → i.toInt ≤ b.toInt + 1 → i.toInt = a + m → b.toInt + 1 - i.toInt < n → acc = rp p a m →
    f_X0_greatestPore_L14 r b n i acc = rp p a (m + (b.toInt + 1 - i.toInt).toNat) ∧ ok_X0_greatestPore_L14 r b n i acc := by
  intro n
  induction n with
  | zero => intro m i acc h0 h1 h2 h3 h4; exfalso; omega
  | succ n ih =>
    intro m i acc h0 h1 h2 h3 h4
    unfold f_X0_greatestPore_L14 ok_X0_greatestPore_L14
    by_cases c : b < i
    · have c' := c
      rw [i_lt] at c'
      rw [if_pos c]
      have e : (b.toInt + 1 - i.toInt).toNat = 0 := by omega
      rw [e]
      exact ⟨h4, fun _ => trivial, fun h => absurd c h⟩
    · have c' := c
      rw [i_lt] at c'
      have ei : (i + 1).toInt = i.toInt + 1 := i_inc (by omega)
      have hcl := cl h0
      have hcn : i.toNatClampNeg = a + m := by omega
      have hrd : f_X3_read 50 (R_pores r) i = p (a + m) := by rw [read_in (by decide) h0 (by omega), hr _ (by omega), hcn]
      obtain ⟨k1, k2⟩ := ih (m + 1) (i + 1) (imax acc (p (a + m))) (by omega) (by omega) (by omega) (by omega) (by rw [h4]; rfl)
      have e : m + 1 + (b.toInt + 1 - (i + 1).toInt).toNat = m + (b.toInt + 1 - i.toInt).toNat := by omega
      rw [e] at k1
      rw [if_neg c, hrd]
      exact ⟨k1, fun h => absurd h c, fun _ => k2⟩
theorem least_loop (r : RS) (p : Nat → Int32) (b : Int32) (a : Nat) (hb : b.toInt < 50) (hr : ∀ j : Nat, j < 50 → R_breaks r j = p j) : ∀ (n m : Nat) (i acc : Int32), 0 ≤ i.toInt → i.toInt ≤ b.toInt + 1 → i.toInt = a + m → b.toInt + 1 - i.toInt < n → acc = rb p a m →
    f_X0_leastBreak_L14 r b n i acc = rb p a (m + (b.toInt + 1 - i.toInt).toNat) ∧ ok_X0_leastBreak_L14 r b n i acc := by
  intro n
  induction n with
  | zero => intro m i acc h0 h1 h2 h3 h4; exfalso; omega
  | succ n ih =>
    intro m i acc h0 h1 h2 h3 h4
    unfold f_X0_leastBreak_L14 ok_X0_leastBreak_L14
    by_cases c : b < i
    · have c' := c
      rw [i_lt] at c'
      rw [if_pos c]
      have e : (b.toInt + 1 - i.toInt).toNat = 0 := by omega
      rw [e]
      exact ⟨h4, fun _ => trivial, fun h => absurd c h⟩
    · have c' := c
      rw [i_lt] at c'
      have ei : (i + 1).toInt = i.toInt + 1 := i_inc (by omega)
      have hcl := cl h0
      have hcn : i.toNatClampNeg = a + m := by omega
      have hrd : f_X3_read 50 (R_breaks r) i = p (a + m) := by rw [read_in (by decide) h0 (by omega), hr _ (by omega), hcn]
      obtain ⟨k1, k2⟩ := ih (m + 1) (i + 1) (imin acc (p (a + m))) (by omega) (by omega) (by omega) (by omega) (by rw [h4]; rfl)
      have e : m + 1 + (b.toInt + 1 - (i + 1).toInt).toNat = m + (b.toInt + 1 - i.toInt).toNat := by omega
      rw [e] at k1
      rw [if_neg c, hrd]
      exact ⟨k1, fun h => absurd h c, fun _ => k2⟩
theorem great_eq {r : RS} {p : Nat → Int32} {N : Nat} {a b : Int32} (hN : 60 < N) (h0 : 0 ≤ a.toInt) (h1 : a.toInt ≤ b.toInt) (h2 : b.toInt < 50) (hr : ∀ j : Nat, j < 50 → R_pores r j = p j) (hp : 0 ≤ (p a.toNatClampNeg).toInt) :
    f_X0_greatestPore N r a b = rp p a.toNatClampNeg (b.toInt + 1 - a.toInt).toNat ∧ ok_X0_greatestPore N r a b := by
  have hcl := cl h0
  have ei : (a + 1).toInt = a.toInt + 1 := i_inc (by omega)
  have hrd : f_X3_read 50 (R_pores r) a = p a.toNatClampNeg := by rw [read_in (by decide) h0 (by omega), hr _ (by omega)]
  obtain ⟨k1, k2⟩ := great_loop r p b a.toNatClampNeg h2 hr N 1 (a + 1) (p a.toNatClampNeg) (by omega) (by omega) (by omega) (by omega) (rp_one hp).symm
  have e : 1 + (b.toInt + 1 - (a + 1).toInt).toNat = (b.toInt + 1 - a.toInt).toNat := by omega
  rw [e] at k1
  unfold f_X0_greatestPore ok_X0_greatestPore
  rw [hrd]
  exact ⟨k1, k2, trivial⟩
theorem least_eq {r : RS} {p : Nat → Int32} {N : Nat} {a b : Int32} (hN : 60 < N) (h0 : 0 ≤ a.toInt) (h1 : a.toInt ≤ b.toInt) (h2 : b.toInt < 50) (hr : ∀ j : Nat, j < 50 → R_breaks r j = p j) (hp : (p a.toNatClampNeg).toInt ≤ 300) :
    f_X0_leastBreak N r a b = rb p a.toNatClampNeg (b.toInt + 1 - a.toInt).toNat ∧ ok_X0_leastBreak N r a b := by
  have hcl := cl h0
  have ei : (a + 1).toInt = a.toInt + 1 := i_inc (by omega)
  have hrd : f_X3_read 50 (R_breaks r) a = p a.toNatClampNeg := by rw [read_in (by decide) h0 (by omega), hr _ (by omega)]
  obtain ⟨k1, k2⟩ := least_loop r p b a.toNatClampNeg h2 hr N 1 (a + 1) (p a.toNatClampNeg) (by omega) (by omega) (by omega) (by omega) (rb_one hp).symm
  have e : 1 + (b.toInt + 1 - (a + 1).toInt).toNat = (b.toInt + 1 - a.toInt).toNat := by omega
  rw [e] at k1
  unfold f_X0_leastBreak ok_X0_leastBreak
  rw [hrd]
  exact ⟨k1, k2, trivial⟩
theorem op_window {x : XS} {w : WS} {r : RS} {t : TS} {G : MS} {N : Nat} (hN : 4000 < N) (h : Rel x w r t G) (p q v : Int32) : (ok_X3_window N r p q v ∧ ok_X4_window N G p q v) ∧
    ((∃ val : Int32, f_X3_window N r p q v = (0, val) ∧ f_X4_window N G p q v = (val, M_set_thrown G 0)) ∨
    (f_X3_window N r p q v = (2, 0) ∧ f_X4_window N G p q v = (0, M_set_thrown G 1))) := by
  obtain ⟨ba, g, rfl, hI, hG⟩ := h
  obtain ⟨hIR, hR, -⟩ := id hG
  have hH := hb_of hIR hR
  have e0 : (0 : Int32).toInt = 0 := rfl
  have e1 : (1 : Int32).toInt = 1 := rfl
  have e100 : (100 : Int32).toInt = 100 := rfl
  unfold f_X3_window f_X4_window ok_X3_window ok_X4_window f_X4_window_b27 ok_X4_window_b27 f_X4_window_b28 ok_X4_window_b28 f_X3_window_b24
  by_cases c1 : f_X4_in p 0 4999 = 0
  · exact ⟨⟨by simp -implicitDefEqProofs only [c1, if_true, if_false, true_implies, false_implies, not_true_eq_false, not_false_eq_true, and_true, true_and, gw0, gw1, gw2, gw3, gwd, h10, h20, h30, eq_self, ite_self, implies_true, wi_eq], by simp -implicitDefEqProofs only [c1, if_true, if_false, true_implies, false_implies, not_true_eq_false, not_false_eq_true, and_true, true_and, gw0, gw1, gw2, gw3, gwd, h10, h20, h30, eq_self, ite_self, implies_true, wi_eq]⟩, Or.inr ⟨by simp -implicitDefEqProofs only [c1, if_true, if_false, true_implies, false_implies, not_true_eq_false, not_false_eq_true, and_true, true_and, gw0, gw1, gw2, gw3, gwd, h10, h20, h30, eq_self, ite_self, implies_true, wi_eq], by simp -implicitDefEqProofs only [c1, if_true, if_false, true_implies, false_implies, not_true_eq_false, not_false_eq_true, and_true, true_and, gw0, gw1, gw2, gw3, gwd, h10, h20, h30, eq_self, ite_self, implies_true, wi_eq]⟩⟩
  · obtain ⟨a0, a1⟩ : 0 ≤ p.toInt ∧ p.toInt ≤ 4999 := in_no c1
    have ep : (p + 1).toInt = p.toInt + 1 := i_inc (by omega)
    by_cases c2 : f_X4_in q (p + 1) 5000 = 0
    · have hc := in_eq c2
      have e5 : (5000 : Int32).toInt = 5000 := rfl
      rw [ep, e5] at hc
      by_cases c3 : q ≤ p
      · exact ⟨⟨by simp -implicitDefEqProofs only [c1, c2, if_true, if_false, true_implies, false_implies, not_true_eq_false, not_false_eq_true, and_true, true_and, gw0, gw1, gw2, gw3, gwd, h10, h20, h30, eq_self, ite_self, implies_true, wi_eq], by simp -implicitDefEqProofs only [c1, c3, if_true, if_false, true_implies, false_implies, not_true_eq_false, not_false_eq_true, and_true, true_and, gw0, gw1, gw2, gw3, gwd, h10, h20, h30, eq_self, ite_self, implies_true, wi_eq]⟩, Or.inr ⟨by simp -implicitDefEqProofs only [c1, c2, if_true, if_false, true_implies, false_implies, not_true_eq_false, not_false_eq_true, and_true, true_and, gw0, gw1, gw2, gw3, gwd, h10, h20, h30, eq_self, ite_self, implies_true, wi_eq], by simp -implicitDefEqProofs only [c1, c3, if_true, if_false, true_implies, false_implies, not_true_eq_false, not_false_eq_true, and_true, true_and, gw0, gw1, gw2, gw3, gwd, h10, h20, h30, eq_self, ite_self, implies_true, wi_eq]⟩⟩
      · have c4 : 5000 < q := by rw [i_lt, e5]; rw [i_le] at c3; omega
        exact ⟨⟨by simp -implicitDefEqProofs only [c1, c2, if_true, if_false, true_implies, false_implies, not_true_eq_false, not_false_eq_true, and_true, true_and, gw0, gw1, gw2, gw3, gwd, h10, h20, h30, eq_self, ite_self, implies_true, wi_eq], by simp -implicitDefEqProofs only [c1, c3, c4, if_true, if_false, true_implies, false_implies, not_true_eq_false, not_false_eq_true, and_true, true_and, gw0, gw1, gw2, gw3, gwd, h10, h20, h30, eq_self, ite_self, implies_true, wi_eq]⟩, Or.inr ⟨by simp -implicitDefEqProofs only [c1, c2, if_true, if_false, true_implies, false_implies, not_true_eq_false, not_false_eq_true, and_true, true_and, gw0, gw1, gw2, gw3, gwd, h10, h20, h30, eq_self, ite_self, implies_true, wi_eq], by simp -implicitDefEqProofs only [c1, c3, c4, if_true, if_false, true_implies, false_implies, not_true_eq_false, not_false_eq_true, and_true, true_and, gw0, gw1, gw2, gw3, gwd, h10, h20, h30, eq_self, ite_self, implies_true, wi_eq]⟩⟩
    · obtain ⟨b0, b1⟩ : (p + 1).toInt ≤ q.toInt ∧ q.toInt ≤ 5000 := in_no c2
      rw [ep] at b0
      have c3 : ¬ q ≤ p := by rw [i_le]; omega
      have c4 : ¬ 5000 < q := by rw [i_lt]; show ¬ (5000 : Int) < q.toInt; omega
      have l1 : f_X0_layerOf (p + 1) = p / 100 := by
        unfold f_X0_layerOf
        rw [if_pos (by rw [i_lt, e0]; omega)]
        have : p + 1 - 1 = p := by rw [i_eq, i_sub (by rw [e1]; omega) (by rw [e1]; omega), ep, e1]; omega
        rw [this]
      have l2 : f_X0_layerOf q = f_X4_layerAt q := lay_eq (by omega)
      have d1 : (p / 100).toInt = p.toInt / 100 := by rw [i_div a0 (by decide), e100]
      obtain ⟨m0, m1, m2⟩ := lay_rng (d := q) (by omega) b1
      have m3 := m2 (by omega)
      have n0 : 0 ≤ (p / 100).toInt := by rw [d1]; omega
      have n1 : (p / 100).toInt ≤ (f_X4_layerAt q).toInt := by rw [d1, m3]; omega
      have hlt := cl_lt (n := 50) n0 (by omega)
      obtain ⟨hp1, hb1⟩ := hH _ hlt
      by_cases cv : v = 0
      · subst cv
        obtain ⟨k1, k2⟩ := great_eq (r := r) (N := N) (p := M_pore g) (by omega) n0 n1 m1 (fun j hj => (hR j hj).1) hp1.1
        obtain ⟨k3, k4⟩ := bound_p_eq (G := M_set_thrown (put w ba g) 0) (N := N) (by omega) n0 n1 m1 hp1.1
        have k5 : rp (M_pore (M_set_thrown (put w ba g) 0)) (p / 100).toNatClampNeg ((f_X4_layerAt q).toInt + 1 - (p / 100).toInt).toNat = rp (M_pore g) (p / 100).toNatClampNeg ((f_X4_layerAt q).toInt + 1 - (p / 100).toInt).toNat := rfl
        rw [k5] at k3
        clear k5
        generalize rp (M_pore g) (p / 100).toNatClampNeg ((f_X4_layerAt q).toInt + 1 - (p / 100).toInt).toNat = val at *
        exact ⟨⟨by simp -implicitDefEqProofs only [c1, c2, l1, l2, k2, if_true, if_false, true_implies, false_implies, not_true_eq_false, not_false_eq_true, and_true, true_and, gw0, gw1, gw2, gw3, gwd, h10, h20, h30, eq_self, ite_self, implies_true, wi_eq], by simp -implicitDefEqProofs only [c1, c3, c4, k4, if_true, if_false, true_implies, false_implies, not_true_eq_false, not_false_eq_true, and_true, true_and, gw0, gw1, gw2, gw3, gwd, h10, h20, h30, eq_self, ite_self, implies_true, wi_eq]⟩, Or.inl ⟨val, by simp -implicitDefEqProofs only [c1, c2, l1, l2, k1, if_true, if_false, true_implies, false_implies, not_true_eq_false, not_false_eq_true, and_true, true_and, gw0, gw1, gw2, gw3, gwd, h10, h20, h30, eq_self, ite_self, implies_true, wi_eq], by simp -implicitDefEqProofs only [c1, c3, c4, k3, if_true, if_false, true_implies, false_implies, not_true_eq_false, not_false_eq_true, and_true, true_and, gw0, gw1, gw2, gw3, gwd, h10, h20, h30, eq_self, ite_self, implies_true, wi_eq]⟩⟩
      · obtain ⟨k1, k2⟩ := least_eq (r := r) (N := N) (p := M_breaks g) (by omega) n0 n1 m1 (fun j hj => (hR j hj).2.1) hb1.2
        obtain ⟨k3, k4⟩ := bound_b_eq (G := M_set_thrown (put w ba g) 0) (N := N) cv (by omega) n0 n1 m1 hb1.2
        have k5 : rb (M_breaks (M_set_thrown (put w ba g) 0)) (p / 100).toNatClampNeg ((f_X4_layerAt q).toInt + 1 - (p / 100).toInt).toNat = rb (M_breaks g) (p / 100).toNatClampNeg ((f_X4_layerAt q).toInt + 1 - (p / 100).toInt).toNat := rfl
        rw [k5] at k3
        clear k5
        generalize rb (M_breaks g) (p / 100).toNatClampNeg ((f_X4_layerAt q).toInt + 1 - (p / 100).toInt).toNat = val at *
        exact ⟨⟨by simp -implicitDefEqProofs only [c1, c2, cv, l1, l2, k2, if_true, if_false, true_implies, false_implies, not_true_eq_false, not_false_eq_true, and_true, true_and, gw0, gw1, gw2, gw3, gwd, h10, h20, h30, eq_self, ite_self, implies_true, wi_eq], by simp -implicitDefEqProofs only [c1, c3, c4, k4, if_true, if_false, true_implies, false_implies, not_true_eq_false, not_false_eq_true, and_true, true_and, gw0, gw1, gw2, gw3, gwd, h10, h20, h30, eq_self, ite_self, implies_true, wi_eq]⟩, Or.inl ⟨val, by simp -implicitDefEqProofs only [c1, c2, cv, l1, l2, k1, if_true, if_false, true_implies, false_implies, not_true_eq_false, not_false_eq_true, and_true, true_and, gw0, gw1, gw2, gw3, gwd, h10, h20, h30, eq_self, ite_self, implies_true, wi_eq], by simp -implicitDefEqProofs only [c1, c3, c4, k3, if_true, if_false, true_implies, false_implies, not_true_eq_false, not_false_eq_true, and_true, true_and, gw0, gw1, gw2, gw3, gwd, h10, h20, h30, eq_self, ite_self, implies_true, wi_eq]⟩⟩
