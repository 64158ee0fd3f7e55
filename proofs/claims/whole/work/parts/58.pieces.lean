/-! Pieces of a casing: one pass from above is the fewest. -/
theorem rp_le (p : Nat → Int32) (a : Nat) (z : Int) : ∀ n : Nat, ((rp p a n).toInt ≤ z ↔ 0 ≤ z ∧ ∀ i : Nat, i < n → (p (a + i)).toInt ≤ z) := by
  intro n
  induction n with
  | zero => exact ⟨fun h => ⟨h, fun i hi => absurd hi (Nat.not_lt_zero _)⟩, fun h => h.1⟩
  | succ n ih =>
    show (imax (rp p a n) (p (a + n))).toInt ≤ z ↔ _
    rw [imax_i]
    constructor
    · intro h
      have h1 := ih.mp (by omega)
      refine ⟨h1.1, fun i hi => ?_⟩
      by_cases e : i = n
      · subst e; omega
      · exact h1.2 i (by omega)
    · intro h
      have h1 := ih.mpr ⟨h.1, fun i hi => h.2 i (by omega)⟩
      have h2 := h.2 n (by omega)
      omega
theorem rb_ge (b : Nat → Int32) (a : Nat) (z : Int) : ∀ n : Nat, (z ≤ (rb b a n).toInt ↔ z ≤ 300 ∧ ∀ i : Nat, i < n → z ≤ (b (a + i)).toInt) := by
  intro n
  induction n with
  | zero => exact ⟨fun h => ⟨h, fun i hi => absurd hi (Nat.not_lt_zero _)⟩, fun h => h.1⟩
  | succ n ih =>
    show z ≤ (imin (rb b a n) (b (a + n))).toInt ↔ _
    rw [imin_i]
    constructor
    · intro h
      have h1 := ih.mp (by omega)
      refine ⟨h1.1, fun i hi => ?_⟩
      by_cases e : i = n
      · subst e; omega
      · exact h1.2 i (by omega)
    · intro h
      have h1 := ih.mpr ⟨h.1, fun i hi => h.2 i (by omega)⟩
      have h2 := h.2 n (by omega)
      omega
/-- the n layers from a on can stand in one piece -/
def okR (p b : Nat → Int32) (a n : Nat) : Prop := rp p a n ≤ rb b a n
theorem okR_iff {p b : Nat → Int32} (hH : HB p b) {a n : Nat} (h : a + n ≤ 50) : okR p b a n ↔ ∀ i j : Nat, i < n → j < n → (p (a + i)).toInt ≤ (b (a + j)).toInt := by
  unfold okR
  rw [i_le, rb_ge]
  constructor
  · intro h2 i j hi hj
    exact ((rp_le p a _ n).mp (h2.2 j hj)).2 i hi
  · intro h2
    refine ⟨(rp_le p a _ n).mpr ⟨by decide, fun i hi => (hH _ (by omega)).1.2⟩, fun j hj => (rp_le p a _ n).mpr ⟨(hH _ (by omega)).2.1, fun i hi => h2 i j hi hj⟩⟩
theorem okR_sub {p b : Nat → Int32} (hH : HB p b) {a n a' n' : Nat} (h : a + n ≤ 50) (h1 : a ≤ a') (h2 : a' + n' ≤ a + n) (k : okR p b a n) : okR p b a' n' := by
  rw [okR_iff hH h] at k
  rw [okR_iff hH (by omega)]
  intro i j hi hj
  have := k (a' - a + i) (a' - a + j) (by omega) (by omega)
  rw [show a + (a' - a + i) = a' + i by omega, show a + (a' - a + j) = a' + j by omega] at this
  exact this
theorem okR_one {p b : Nat → Int32} (hH : HB p b) {a : Nat} (h : a < 50) : okR p b a 1 ↔ p a ≤ b a := by
  rw [okR_iff hH (by omega), i_le]
  constructor
  · intro k; exact k 0 0 (by decide) (by decide)
  · intro k i j hi hj
    have hi0 : i = 0 := by omega
    have hj0 : j = 0 := by omega
    subst hi0 hj0; exact k
/-- where the piece of layer l begins, and how many pieces there are to it -/
def SC (p b : Nat → Int32) : Nat → Nat × Nat
  | 0 => (0, 1)
  | l + 1 => if rp p (SC p b l).1 (l + 2 - (SC p b l).1) ≤ rb b (SC p b l).1 (l + 2 - (SC p b l).1) then SC p b l else (l + 1, (SC p b l).2 + 1)
theorem SC_pos {p b : Nat → Int32} {l : Nat} (h : okR p b (SC p b l).1 (l + 2 - (SC p b l).1)) : SC p b (l + 1) = SC p b l := if_pos h
theorem SC_neg {p b : Nat → Int32} {l : Nat} (h : ¬ okR p b (SC p b l).1 (l + 2 - (SC p b l).1)) : SC p b (l + 1) = (l + 1, (SC p b l).2 + 1) := if_neg h
theorem SC_le (p b : Nat → Int32) : ∀ l : Nat, (SC p b l).1 ≤ l ∧ 1 ≤ (SC p b l).2 ∧ (SC p b l).2 ≤ l + 1 := by
  intro l
  induction l with
  | zero => exact ⟨Nat.le_refl _, Nat.le_refl _, Nat.le_refl _⟩
  | succ l ih =>
    by_cases c : okR p b (SC p b l).1 (l + 2 - (SC p b l).1)
    · rw [SC_pos c]; omega
    · rw [SC_neg c]
      show l + 1 ≤ l + 1 ∧ 1 ≤ (SC p b l).2 + 1 ∧ (SC p b l).2 + 1 ≤ l + 1 + 1
      omega
theorem SC_mono (p b : Nat → Int32) {m : Nat} : ∀ l : Nat, m ≤ l → (SC p b m).2 ≤ (SC p b l).2 := by
  intro l
  induction l with
  | zero => intro h; have : m = 0 := by omega
            subst this; exact Nat.le_refl _
  | succ l ih =>
    intro h
    by_cases e : m = l + 1
    · subst e; exact Nat.le_refl _
    · have := ih (by omega)
      by_cases c : okR p b (SC p b l).1 (l + 2 - (SC p b l).1)
      · rw [SC_pos c]; exact this
      · rw [SC_neg c]
        show (SC p b m).2 ≤ (SC p b l).2 + 1
        omega
theorem SC_const (p b : Nat → Int32) {m : Nat} : ∀ l : Nat, (SC p b l).1 ≤ m → m ≤ l → SC p b m = SC p b l := by
  intro l
  induction l with
  | zero => intro _ h; have : m = 0 := by omega
            subst this; rfl
  | succ l ih =>
    intro h1 h2
    by_cases e : m = l + 1
    · subst e; rfl
    · by_cases c : okR p b (SC p b l).1 (l + 2 - (SC p b l).1)
      · rw [SC_pos c] at h1 ⊢
        exact ih h1 (by omega)
      · rw [SC_neg c] at h1
        have h1 : l + 1 ≤ m := h1
        omega
/-- pieces above layer f -/
def Cm (p b : Nat → Int32) (f : Nat) : Nat := if f = 0 then 0 else (SC p b (f - 1)).2
theorem SC_prev (p b : Nat → Int32) : ∀ l : Nat, Cm p b (SC p b l).1 + 1 = (SC p b l).2 := by
  intro l
  induction l with
  | zero => rfl
  | succ l ih =>
    by_cases c : okR p b (SC p b l).1 (l + 2 - (SC p b l).1)
    · rw [SC_pos c]; exact ih
    · rw [SC_neg c]
      show (if l + 1 = 0 then 0 else (SC p b (l + 1 - 1)).2) + 1 = (SC p b l).2 + 1
      rw [if_neg (by omega)]; rfl
theorem SC_ok {p b : Nat → Int32} (hH : HB p b) : ∀ l : Nat, l < 50 → p l ≤ b l → okR p b (SC p b l).1 (l + 1 - (SC p b l).1) := by
  intro l hl hg
  cases l with
  | zero => exact (okR_one hH (a := 0) (by decide)).mpr hg
  | succ l =>
    by_cases c : okR p b (SC p b l).1 (l + 2 - (SC p b l).1)
    · rw [SC_pos c]; exact c
    · rw [SC_neg c]
      show okR p b (l + 1) (l + 1 + 1 - (l + 1))
      rw [show l + 1 + 1 - (l + 1) = 1 by omega]
      exact (okR_one hH hl).mpr hg
/-- no other last piece does better -/
theorem SC_best {p b : Nat → Int32} (hH : HB p b) : ∀ (l f : Nat), l < 50 → f ≤ l → okR p b f (l + 1 - f) → (SC p b l).2 ≤ Cm p b f + 1 := by
  intro l
  induction l with
  | zero =>
    intro f _ hf _
    have : f = 0 := by omega
    subst this; exact Nat.le_refl 1
  | succ l ih =>
    intro f hl hf hk
    by_cases e : f = l + 1
    · subst e
      have : Cm p b (l + 1) = (SC p b l).2 := by
        show (if l + 1 = 0 then 0 else (SC p b (l + 1 - 1)).2) = _
        rw [if_neg (by omega)]; rfl
      rw [this]
      by_cases c : okR p b (SC p b l).1 (l + 2 - (SC p b l).1)
      · rw [SC_pos c]; omega
      · rw [SC_neg c]; exact Nat.le_refl _
    · have hfl : f ≤ l := by omega
      by_cases c : okR p b (SC p b l).1 (l + 2 - (SC p b l).1)
      · rw [SC_pos c]
        exact ih f (by omega) hfl (okR_sub hH (by omega) (Nat.le_refl _) (by omega) hk)
      · have hS := (SC_le p b l).1
        have hlt : (SC p b l).1 < f := by
          by_cases h : (SC p b l).1 < f
          · exact h
          · exact absurd (okR_sub hH (a := f) (n := l + 1 + 1 - f) (by omega) (by omega) (by omega) hk) c
        have hc := SC_const p b (m := f - 1) l (by omega) (by omega)
        have : Cm p b f = (SC p b l).2 := by
          unfold Cm
          rw [if_neg (by omega), hc]
        rw [SC_neg c, this]
        exact Nat.le_refl _
/-- what is answered for the layers 0 to l -/
def VAL (p b : Nat → Int32) (l : Nat) (v : Int32) : Prop :=
  ((∀ m : Nat, m ≤ l → p m ≤ b m) → v.toInt = (SC p b l).2) ∧ (∀ m : Nat, m ≤ l → ¬ p m ≤ b m → v = -1)
theorem VAL_uniq {p b : Nat → Int32} {l : Nat} {u v : Int32} (h : VAL p b l u) (k : VAL p b l v) : u = v := by
  by_cases c : ∀ m : Nat, m ≤ l → p m ≤ b m
  · rw [i_eq, h.1 c, k.1 c]
  · have : ∃ m : Nat, m ≤ l ∧ ¬ p m ≤ b m := by
      apply Classical.byContradiction
      intro hn
      exact c fun m hm => Classical.byContradiction fun hx => hn ⟨m, hm, hx⟩
    obtain ⟨m, hm, hx⟩ := this
    rw [h.2 m hm hx, k.2 m hm hx]
/-- the class's pass from above -/
theorem above_loop {r : RS} {p b : Nat → Int32} (hH : HB p b) (hr : ∀ j : Nat, j < 50 → R_pores r j = p j ∧ R_breaks r j = b j) (last : Int32) (h50 : last.toInt < 50) : ∀ (n : Nat) (i brk por cnt : Int32), 1 ≤ i.toInt → i.toInt ≤ last.toInt + 1 → last.toInt + 1 - i.toInt < n →
    (∀ m : Nat, (m : Int) < i.toInt → p m ≤ b m) → brk = rb b (SC p b (i.toNatClampNeg - 1)).1 (i.toNatClampNeg - (SC p b (i.toNatClampNeg - 1)).1) → por = rp p (SC p b (i.toNatClampNeg - 1)).1 (i.toNatClampNeg - (SC p b (i.toNatClampNeg - 1)).1) → cnt.toInt = (SC p b (i.toNatClampNeg - 1)).2 →
    VAL p b last.toNatClampNeg (f_X0_piecesFromAbove_L12 r last n i brk por cnt) ∧ ok_X0_piecesFromAbove_L12 r last n i brk por cnt := by
  intro n
  induction n with
  | zero => intro i brk por cnt h0 h1 h2; exfalso; omega
  | succ n ih =>
    intro i brk por cnt h0 h1 h2 hg hb hp hc
    unfold f_X0_piecesFromAbove_L12 ok_X0_piecesFromAbove_L12
    have hcl := cl (x := i) (by omega)
    have hcl2 := cl (x := last) (by omega)
    by_cases c : last < i
    · have c' := c
      rw [i_lt] at c'
      rw [if_pos c]
      have e : i.toNatClampNeg - 1 = last.toNatClampNeg := by omega
      rw [e] at hc
      exact ⟨⟨fun _ => hc, fun m hm hx => absurd (hg m (by omega)) hx⟩, fun _ => trivial, fun h => absurd c h⟩
    · have c' := c
      rw [i_lt] at c'
      obtain ⟨l, hl⟩ : ∃ l : Nat, i.toNatClampNeg = l + 1 := ⟨i.toNatClampNeg - 1, by omega⟩
      have hl1 : i.toNatClampNeg - 1 = l := by omega
      rw [hl1, hl] at hb hp
      rw [hl1] at hc
      have hS := SC_le p b l
      have ei : (i + 1).toInt = i.toInt + 1 := i_inc (by omega)
      have hcl3 := cl (x := i + 1) (by omega)
      have hl2 : (i + 1).toNatClampNeg = l + 2 := by omega
      have hl3 : (i + 1).toNatClampNeg - 1 = l + 1 := by omega
      have hr1 : f_X3_read 50 (R_pores r) i = p (l + 1) := by rw [read_in (by decide) (by omega) (by omega), hl, (hr _ (by omega)).1]
      have hr2 : f_X3_read 50 (R_breaks r) i = b (l + 1) := by rw [read_in (by decide) (by omega) (by omega), hl, (hr _ (by omega)).2]
      have sp : rp p (SC p b l).1 (l + 2 - (SC p b l).1) = imax por (p (l + 1)) := by
        rw [show l + 2 - (SC p b l).1 = (l + 1 - (SC p b l).1) + 1 by omega]
        show imax (rp p (SC p b l).1 (l + 1 - (SC p b l).1)) (p ((SC p b l).1 + (l + 1 - (SC p b l).1))) = _
        rw [← hp, show (SC p b l).1 + (l + 1 - (SC p b l).1) = l + 1 by omega]
      have sb : rb b (SC p b l).1 (l + 2 - (SC p b l).1) = imin brk (b (l + 1)) := by
        rw [show l + 2 - (SC p b l).1 = (l + 1 - (SC p b l).1) + 1 by omega]
        show imin (rb b (SC p b l).1 (l + 1 - (SC p b l).1)) (b ((SC p b l).1 + (l + 1 - (SC p b l).1))) = _
        rw [← hb, show (SC p b l).1 + (l + 1 - (SC p b l).1) = l + 1 by omega]
      rw [if_neg c, hr1, hr2]
      by_cases d : p (l + 1) ≤ b (l + 1)
      · rw [if_pos d]
        have hg2 : ∀ m : Nat, (m : Int) < (i + 1).toInt → p m ≤ b m := by
          intro m hm
          by_cases em : m = l + 1
          · rw [em]; exact d
          · exact hg m (by omega)
        by_cases e : imax por (p (l + 1)) ≤ imin brk (b (l + 1))
        · rw [if_pos e]
          have hok : okR p b (SC p b l).1 (l + 2 - (SC p b l).1) := by unfold okR; rw [sp, sb]; exact e
          obtain ⟨k1, k2⟩ := ih (i + 1) (imin brk (b (l + 1))) (imax por (p (l + 1))) cnt (by omega) (by omega) (by omega) hg2 (by rw [hl3, hl2, SC_pos hok, sb]) (by rw [hl3, hl2, SC_pos hok, sp]) (by rw [hl3, SC_pos hok]; exact hc)
          exact ⟨k1, fun h => absurd h c, fun _ => ⟨fun _ => ⟨fun _ => k2, fun h => absurd e h⟩, fun h => absurd d h⟩⟩
        · rw [if_neg e]
          have hok : ¬ okR p b (SC p b l).1 (l + 2 - (SC p b l).1) := by unfold okR; rw [sp, sb]; exact e
          have ec : (cnt + 1).toInt = cnt.toInt + 1 := i_inc (by omega)
          have hS2 : SC p b (l + 1) = (l + 1, (SC p b l).2 + 1) := SC_neg hok
          have hh := hH (l + 1) (by omega)
          have e1 : l + 2 - (l + 1) = 1 := by omega
          obtain ⟨k1, k2⟩ := ih (i + 1) (b (l + 1)) (p (l + 1)) (cnt + 1) (by omega) (by omega) (by omega) hg2 (by rw [hl3, hl2, hS2, e1]; exact (rb_one hh.2.2).symm) (by rw [hl3, hl2, hS2, e1]; exact (rp_one hh.1.1).symm) (by rw [hl3, hS2, ec, hc]; rfl)
          exact ⟨k1, fun h => absurd h c, fun _ => ⟨fun _ => ⟨fun h => absurd h e, fun _ => k2⟩, fun h => absurd d h⟩⟩
      · rw [if_neg d]
        exact ⟨⟨fun ha => absurd (ha (l + 1) (by omega)) d, fun _ _ _ => rfl⟩, fun h => absurd h c, fun _ => ⟨fun h => absurd h d, fun _ => trivial⟩⟩
theorem above_eq {r : RS} {p b : Nat → Int32} {N : Nat} (hN : 60 < N) (hH : HB p b) (hr : ∀ j : Nat, j < 50 → R_pores r j = p j ∧ R_breaks r j = b j) (last : Int32) (h0 : 0 ≤ last.toInt) (h50 : last.toInt < 50) :
    VAL p b last.toNatClampNeg (f_X0_piecesFromAbove N r last) ∧ ok_X0_piecesFromAbove N r last := by
  obtain ⟨n, rfl⟩ : ∃ n, N = n + 1 := ⟨N - 1, by omega⟩
  have e0 : (0 : Int32).toInt = 0 := rfl
  have e1 : (1 : Int32).toInt = 1 := rfl
  have hcl2 := cl h0
  have c : ¬ last < 0 := by rw [i_lt, e0]; omega
  have hr1 : f_X3_read 50 (R_pores r) 0 = p 0 := by rw [read_in (by decide) (by decide) (by decide)]; exact (hr 0 (by decide)).1
  have hr2 : f_X3_read 50 (R_breaks r) 0 = b 0 := by rw [read_in (by decide) (by decide) (by decide)]; exact (hr 0 (by decide)).2
  obtain ⟨⟨p0, p1⟩, ⟨b0, b1⟩⟩ := hH 0 (by decide)
  have m1 : imax 0 (p 0) = p 0 := imax0 p0
  have m2 : imin 300 (b 0) = b 0 := rb_one (b := b) (a := 0) b1
  unfold f_X0_piecesFromAbove ok_X0_piecesFromAbove f_X0_piecesFromAbove_L12 ok_X0_piecesFromAbove_L12
  rw [if_neg c, hr1, hr2, m1, m2]
  by_cases d : p 0 ≤ b 0
  · rw [if_pos d, if_pos d]
    have hg0 : ∀ m : Nat, (m : Int) < (0 + 1 : Int32).toInt → p m ≤ b m := by
      intro m hm
      have hm : (m : Int) < 1 := hm
      have : m = 0 := by omega
      rw [this]; exact d
    obtain ⟨k1, k2⟩ := above_loop hH hr last h50 n (0 + 1) (b 0) (p 0) 1 (by decide) (by show (1 : Int) ≤ _; omega) (by show last.toInt + 1 - (1 : Int) < _; omega) hg0 (rb_one (b := b) (a := 0) b1).symm (rp_one (p := p) (a := 0) p0).symm rfl
    exact ⟨k1, fun h => absurd h c, fun _ => ⟨fun _ => ⟨fun _ => k2, fun h => absurd d h⟩, fun h => absurd d h⟩⟩
  · rw [if_neg d]
    exact ⟨⟨fun ha => absurd (ha 0 (by omega)) d, fun _ _ _ => rfl⟩, fun h => absurd h c, fun _ => ⟨fun h => absurd h d, fun _ => trivial⟩⟩
