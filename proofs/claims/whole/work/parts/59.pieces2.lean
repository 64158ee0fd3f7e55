/-! Pieces: the model's greatest pieces, and the class's trial of all. -/
theorem inner_loop {G : MS} {p0 a : Int32} {N : Nat} {p b : Nat → Int32} {last : Int32} (hN : 60 < N) (hH : HB p b) (hl : f_X4_layerAt p0 = last) (h50 : last.toInt < 50) (ha : 0 ≤ a.toInt)
    (G1 : MS) (hG : (f_X4_goesWell G (if (f_X4_in p0 (1 : Int32) (5000 : Int32)) = 0 then (1 : Int32) else (0 : Int32))).2 = G1) (hp : M_pore G1 = p) (hb : M_breaks G1 = b) : ∀ (n : Nat) (j : Int32), a.toInt ≤ j.toInt → j.toInt ≤ last.toInt + 1 → last.toInt + 1 - j.toInt < n → okR p b a.toNatClampNeg (j.toNatClampNeg - a.toNatClampNeg) →
    ∃ J : Int32, f_X4_casingsOf_L40 N G p0 a n j = J ∧ j.toInt ≤ J.toInt ∧ J.toInt ≤ last.toInt + 1 ∧ okR p b a.toNatClampNeg (J.toNatClampNeg - a.toNatClampNeg) ∧ (J.toInt ≤ last.toInt → ¬ okR p b a.toNatClampNeg (J.toNatClampNeg + 1 - a.toNatClampNeg)) ∧ ok_X4_casingsOf_L40 N G p0 a n j := by
  intro n
  induction n with
  | zero => intro j h0 h1 h2; exfalso; omega
  | succ n ih =>
    intro j h0 h1 h2 hk
    unfold f_X4_casingsOf_L40 ok_X4_casingsOf_L40
    rw [hl, hG]
    have hcl := cl (x := j) (by omega)
    have hcla := cl ha
    by_cases c : last < j
    · have c' := c
      rw [i_lt] at c'
      rw [if_pos c]
      exact ⟨j, rfl, Int.le_refl _, h1, hk, fun h => by exfalso; omega, fun _ => trivial, fun h => absurd c h⟩
    · have c' := c
      rw [i_lt] at c'
      rw [if_neg c]
      have hh := hH a.toNatClampNeg (by omega)
      obtain ⟨k1, k2⟩ := bound_p_eq (G := G1) (N := N) (a := a) (b := j) hN ha h0 (by omega) (by rw [hp]; exact hh.1.1)
      obtain ⟨k3, k4⟩ := bound_b_eq (G := G1) (N := N) (a := a) (b := j) (q := 1) (by decide) hN ha h0 (by omega) (by rw [hb]; exact hh.2.2)
      have em : (j.toInt + 1 - a.toInt).toNat = j.toNatClampNeg + 1 - a.toNatClampNeg := by omega
      rw [hp, em] at k1
      rw [hb, em] at k3
      rw [k1, k3]
      by_cases d : rb b a.toNatClampNeg (j.toNatClampNeg + 1 - a.toNatClampNeg) < rp p a.toNatClampNeg (j.toNatClampNeg + 1 - a.toNatClampNeg)
      · rw [if_pos d]
        refine ⟨j, rfl, Int.le_refl _, h1, hk, fun _ => ?_, fun h => absurd h c, fun _ => ⟨k2, k4, fun _ => trivial, fun h => absurd d h⟩⟩
        unfold okR
        rw [i_le]; rw [i_lt] at d; omega
      · rw [if_neg d]
        have ei : (j + 1).toInt = j.toInt + 1 := i_inc (by omega)
        have hcl3 := cl (x := j + 1) (by omega)
        have hl3 : (j + 1).toNatClampNeg = j.toNatClampNeg + 1 := by omega
        obtain ⟨J, q1, q2, q3, q4, q5, q6⟩ := ih (j + 1) (by omega) (by omega) (by omega) (by rw [hl3]; unfold okR; rw [i_le]; rw [i_lt] at d; omega)
        exact ⟨J, q1, by omega, q3, q4, q5, fun h => absurd h c, fun _ => ⟨k2, k4, fun h => absurd h d, fun _ => q6⟩⟩
/-- layers i to m in one piece that begins at i -/
theorem SC_run {p b : Nat → Int32} (hH : HB p b) {i K : Nat} (h50 : i + K ≤ 50) (hi : (SC p b i).1 = i) (hk : okR p b i K) : ∀ m : Nat, m < K → SC p b (i + m) = SC p b i := by
  intro m
  induction m with
  | zero => intro _; rfl
  | succ m ih =>
    intro hm
    have h1 := ih (by omega)
    have : okR p b (SC p b (i + m)).1 (i + m + 2 - (SC p b (i + m)).1) := by
      rw [h1, hi]
      exact okR_sub hH h50 (Nat.le_refl _) (by omega) hk
    rw [show i + (m + 1) = i + m + 1 by omega, SC_pos this, h1]
theorem outer_loop {G : MS} {p0 : Int32} {N : Nat} {p b : Nat → Int32} {last : Int32} (hN : 60 < N) (hH : HB p b) (hl : f_X4_layerAt p0 = last) (h0l : 0 ≤ last.toInt) (h50 : last.toInt < 50)
    (G1 : MS) (hG : (f_X4_goesWell G (if (f_X4_in p0 (1 : Int32) (5000 : Int32)) = 0 then (1 : Int32) else (0 : Int32))).2 = G1) (hp : M_pore G1 = p) (hb : M_breaks G1 = b) : ∀ (n : Nat) (i c : Int32), 0 ≤ i.toInt → i.toInt ≤ last.toInt + 1 → last.toInt + 1 - i.toInt < n →
    (∀ m : Nat, (m : Int) < i.toInt → p m ≤ b m) → c.toInt = Cm p b i.toNatClampNeg → (i.toInt ≤ last.toInt → (SC p b i.toNatClampNeg).1 = i.toNatClampNeg) →
    ∃ v : Int32, f_X4_casingsOf_L29 N G p0 n i c = (v, G1) ∧ VAL p b last.toNatClampNeg v ∧ ok_X4_casingsOf_L29 N G p0 n i c := by
  intro n
  induction n with
  | zero => intro i c h0 h1 h2; exfalso; omega
  | succ n ih =>
    intro i c h0 h1 h2 hg hc hs
    have hcl := cl h0
    have hcll := cl h0l
    unfold f_X4_casingsOf_L29 ok_X4_casingsOf_L29
    rw [hl, hG]
    by_cases d : last < i
    · have d' := d
      rw [i_lt] at d'
      rw [if_pos d]
      refine ⟨c, rfl, ⟨fun _ => ?_, fun m hm hx => absurd (hg m (by omega)) hx⟩, fun _ => trivial, fun h => absurd d h⟩
      rw [hc]
      unfold Cm
      rw [if_neg (by omega), show i.toNatClampNeg - 1 = last.toNatClampNeg by omega]
    · have d' := d
      rw [i_lt] at d'
      have hs := hs (by omega)
      obtain ⟨J, q1, q2, q3, q4, q5, q6⟩ := inner_loop hN hH hl h50 h0 G1 hG hp hb N i (Int.le_refl _) (by omega) (by omega) (by rw [Nat.sub_self]; exact i_le.mpr (show (0 : Int) ≤ 300 by decide))
      have hclJ := cl (x := J) (by omega)
      rw [if_neg d, q1]
      by_cases e : J = i
      · rw [if_pos e]
        have hbad : ¬ p i.toNatClampNeg ≤ b i.toNatClampNeg := by
          rw [← okR_one hH (by omega)]
          have := q5 (by rw [e]; omega)
          rw [e, show i.toNatClampNeg + 1 - i.toNatClampNeg = 1 by omega] at this
          exact this
        exact ⟨-1, rfl, ⟨fun ha => absurd (ha i.toNatClampNeg (by omega)) hbad, fun _ _ _ => rfl⟩, fun h => absurd h d, fun _ => ⟨q6, fun _ => trivial, fun h => absurd e h⟩⟩
      · rw [if_neg e]
        have hlt : i.toInt < J.toInt := by rw [i_eq] at e; omega
        have hrun := SC_run hH (i := i.toNatClampNeg) (K := J.toNatClampNeg - i.toNatClampNeg) (by omega) hs q4
        have hprev := SC_prev p b i.toNatClampNeg
        rw [hs] at hprev
        have hgood : ∀ m : Nat, (m : Int) < J.toInt → p m ≤ b m := by
          intro m hm
          by_cases hmi : (m : Int) < i.toInt
          · exact hg m hmi
          · exact (okR_one hH (by omega)).mp (okR_sub hH (by omega) (by omega) (by omega) q4)
        have hJ1 : SC p b (J.toNatClampNeg - 1) = SC p b i.toNatClampNeg := by
          have := hrun (J.toNatClampNeg - 1 - i.toNatClampNeg) (by omega)
          rw [show i.toNatClampNeg + (J.toNatClampNeg - 1 - i.toNatClampNeg) = J.toNatClampNeg - 1 by omega] at this
          exact this
        have hCm : Cm p b J.toNatClampNeg = (SC p b i.toNatClampNeg).2 := by
          unfold Cm
          rw [if_neg (by omega), hJ1]
        have hb2 := SC_le p b i.toNatClampNeg
        have ec : (c + 1).toInt = c.toInt + 1 := i_inc (by omega)
        obtain ⟨v, k1, k2, k3⟩ := ih J (c + 1) (by omega) q3 (by omega) hgood (by rw [ec, hc, hCm, ← hprev]; rfl) (by
          intro hJ
          have hn := q5 hJ
          have hn2 : ¬ okR p b (SC p b (J.toNatClampNeg - 1)).1 (J.toNatClampNeg - 1 + 2 - (SC p b (J.toNatClampNeg - 1)).1) := by
            rw [hJ1, hs, show J.toNatClampNeg - 1 + 2 - i.toNatClampNeg = J.toNatClampNeg + 1 - i.toNatClampNeg by omega]
            exact hn
          have := SC_neg hn2
          rw [show J.toNatClampNeg - 1 + 1 = J.toNatClampNeg by omega] at this
          rw [this])
        exact ⟨v, k1, k2, fun h => absurd h d, fun _ => ⟨q6, fun h => absurd h e, fun _ => k3⟩⟩
theorem rb_front (b : Nat → Int32) (f n : Nat) : rb b f (n + 1) = imin (rb b (f + 1) n) (b f) := by
  rw [i_eq, imin_i]
  have key : ∀ z : Int, z ≤ (rb b f (n + 1)).toInt ↔ z ≤ min (rb b (f + 1) n).toInt (b f).toInt := by
    intro z
    rw [rb_ge]
    have k := rb_ge b (f + 1) z n
    constructor
    · intro h
      have h1 := k.mpr ⟨h.1, fun i hi => by rw [show f + 1 + i = f + (i + 1) by omega]; exact h.2 (i + 1) (by omega)⟩
      have h2 := h.2 0 (by omega)
      rw [Nat.add_zero] at h2
      omega
    · intro h
      have h1 := k.mp (by omega)
      refine ⟨h1.1, fun i hi => ?_⟩
      cases i with
      | zero => rw [Nat.add_zero]; omega
      | succ i =>
        have := h1.2 i (by omega)
        rw [show f + 1 + i = f + (i + 1) by omega] at this
        exact this
  have a1 := (key _).mp (Int.le_refl _)
  have a2 := (key _).mpr (Int.le_refl _)
  omega
theorem rp_front (p : Nat → Int32) (f n : Nat) : rp p f (n + 1) = imax (rp p (f + 1) n) (p f) := by
  rw [i_eq, imax_i]
  have key : ∀ z : Int, (rp p f (n + 1)).toInt ≤ z ↔ max (rp p (f + 1) n).toInt (p f).toInt ≤ z := by
    intro z
    rw [rp_le]
    have k := rp_le p (f + 1) z n
    constructor
    · intro h
      have h1 := k.mpr ⟨h.1, fun i hi => by rw [show f + 1 + i = f + (i + 1) by omega]; exact h.2 (i + 1) (by omega)⟩
      have h2 := h.2 0 (by omega)
      rw [Nat.add_zero] at h2
      omega
    · intro h
      have h1 := k.mp (by omega)
      refine ⟨h1.1, fun i hi => ?_⟩
      cases i with
      | zero => rw [Nat.add_zero]; omega
      | succ i =>
        have := h1.2 i (by omega)
        rw [show f + 1 + i = f + (i + 1) by omega] at this
        exact this
  have a1 := (key _).mp (Int.le_refl _)
  have a2 := (key _).mpr (Int.le_refl _)
  omega
def cand (p b : Nat → Int32) (l f : Nat) : Prop := okR p b f (l + 1 - f) ∧ ∀ m : Nat, m < f → p m ≤ b m
def BestP (p b : Nat → Int32) (l f : Nat) (v : Int32) : Prop :=
  (v = -1 ∧ ∀ f' : Nat, f ≤ f' → f' ≤ l → ¬ cand p b l f') ∨ ((∃ f' : Nat, f ≤ f' ∧ f' ≤ l ∧ cand p b l f' ∧ v.toInt = Cm p b f' + 1) ∧ ∀ f' : Nat, f ≤ f' → f' ≤ l → cand p b l f' → v.toInt ≤ Cm p b f' + 1)
theorem best_val {p b : Nat → Int32} (hH : HB p b) {l : Nat} (hl : l < 50) {v : Int32} (h : BestP p b l 0 v) : VAL p b l v := by
  refine ⟨fun ha => ?_, fun m hm hx => ?_⟩
  · have hS := (SC_le p b l).1
    have hc : cand p b l (SC p b l).1 := ⟨SC_ok hH l hl (ha l (Nat.le_refl _)), fun m hm => ha m (by omega)⟩
    have hp := SC_prev p b l
    rcases h with ⟨-, h2⟩ | ⟨⟨f', h1, h2, h3, h4⟩, h5⟩
    · exact absurd hc (h2 _ (Nat.zero_le _) hS)
    · have a1 := h5 _ (Nat.zero_le _) hS hc
      have a2 := SC_best hH l f' hl h2 h3.1
      omega
  · have hno : ∀ f' : Nat, f' ≤ l → ¬ cand p b l f' := by
      intro f' hf hc
      by_cases e : m < f'
      · exact hx (hc.2 m e)
      · exact hx ((okR_one hH (by omega)).mp (okR_sub hH (by omega) (by omega) (by omega) hc.1))
    rcases h with ⟨h1, -⟩ | ⟨⟨f', h1, h2, h3, h4⟩, -⟩
    · exact h1
    · exact absurd h3 (hno f' h2)
theorem Cm_le (p b : Nat → Int32) (f : Nat) : Cm p b f ≤ f := by
  unfold Cm
  by_cases c : f = 0
  · rw [if_pos c]; omega
  · rw [if_neg c]
    have := SC_le p b (f - 1)
    omega
theorem try_loop {r : RS} {p b : Nat → Int32} (hH : HB p b) (hr : ∀ j : Nat, j < 50 → R_pores r j = p j ∧ R_breaks r j = b j) {l : Nat} (hl : l < 50) (hv : ∀ m : Nat, m < l → VAL p b m (R_pieces r m)) : ∀ (n f : Nat) (first brk por least : Int32), first.toInt = (f : Int) - 1 → f ≤ l + 1 → f < n →
    brk = rb b f (l + 1 - f) → por = rp p f (l + 1 - f) → BestP p b l f least → VAL p b l (f_X0_leastPiecesTo_L12 r n first brk por least) ∧ ok_X0_leastPiecesTo_L12 r n first brk por least := by
  intro n
  induction n with
  | zero => intro f first brk por least h1 h2 h3; exfalso; omega
  | succ n ih =>
    intro f first brk por least h1 h2 h3 hb hp hB
    have e0 : (0 : Int32).toInt = 0 := rfl
    have e1 : (1 : Int32).toInt = 1 := rfl
    have em1 : (-1 : Int32).toInt = -1 := rfl
    unfold f_X0_leastPiecesTo_L12 ok_X0_leastPiecesTo_L12
    cases f with
    | zero =>
      have c : first < 0 := by rw [i_lt, e0]; omega
      rw [if_pos c]
      exact ⟨best_val hH hl hB, fun _ => trivial, fun h => absurd c h⟩
    | succ f =>
      have hf : first.toInt = f := by omega
      have c : ¬ first < 0 := by rw [i_lt, e0]; omega
      have hcl := cl (x := first) (by omega)
      have hcf : first.toNatClampNeg = f := by omega
      have hr1 : f_X3_read 50 (R_pores r) first = p f := by rw [read_in (by decide) (by omega) (by omega), hcf, (hr _ (by omega)).1]
      have hr2 : f_X3_read 50 (R_breaks r) first = b f := by rw [read_in (by decide) (by omega) (by omega), hcf, (hr _ (by omega)).2]
      have sb : rb b f (l + 1 - f) = imin brk (b f) := by rw [show l + 1 - f = (l + 1 - (f + 1)) + 1 by omega, rb_front, ← hb]
      have sp : rp p f (l + 1 - f) = imax por (p f) := by rw [show l + 1 - f = (l + 1 - (f + 1)) + 1 by omega, rp_front, ← hp]
      have en : (first + -1).toInt = (f : Int) - 1 := by rw [i_add (by rw [em1]; omega) (by rw [em1]; omega), em1]; omega
      have hab : ((∀ m : Nat, m < f → p m ≤ b m) → (if first = 0 then (0 : Int32) else f_X3_read 50 (R_pieces r) (first - 1)).toInt = Cm p b f) ∧ ((¬ ∀ m : Nat, m < f → p m ≤ b m) → (if first = 0 then (0 : Int32) else f_X3_read 50 (R_pieces r) (first - 1)) = -1) := by
        by_cases z : f = 0
        · have z1 : first = 0 := by rw [i_eq, e0]; omega
          rw [if_pos z1]
          subst z
          exact ⟨fun _ => rfl, fun h => absurd (fun m hm => absurd hm (Nat.not_lt_zero _)) h⟩
        · have z1 : ¬ first = 0 := by rw [i_eq, e0]; omega
          have e2 : (first - 1).toInt = (f : Int) - 1 := by rw [i_sub (by rw [e1]; omega) (by rw [e1]; omega), e1]; omega
          have hcl2 := cl (x := first - 1) (by omega)
          have e3 : (first - 1).toNatClampNeg = f - 1 := by omega
          rw [if_neg z1, read_in (by decide) (by omega) (by omega), e3]
          have hv := hv (f - 1) (by omega)
          refine ⟨fun h => ?_, fun h => ?_⟩
          · rw [hv.1 (fun m hm => h m (by omega))]
            unfold Cm
            rw [if_neg z]
          · have : ∃ m : Nat, m < f ∧ ¬ p m ≤ b m := Classical.byContradiction fun hn => h fun m hm => Classical.byContradiction fun hx => hn ⟨m, hm, hx⟩
            obtain ⟨m, hm, hx⟩ := this
            exact hv.2 m (by omega) hx
      rw [if_neg c, hr1, hr2]
      generalize (if first = 0 then (0 : Int32) else f_X3_read 50 (R_pieces r) (first - 1)) = ab at *
      have hCle := Cm_le p b f
      have go : ∀ least' : Int32, BestP p b l f least' → VAL p b l (f_X0_leastPiecesTo_L12 r n (first + -1) (imin brk (b f)) (imax por (p f)) least') ∧ ok_X0_leastPiecesTo_L12 r n (first + -1) (imin brk (b f)) (imax por (p f)) least' :=
        fun least' hB' => ih f (first + -1) _ _ least' en (by omega) (by omega) sb.symm sp.symm hB'
      have skip : ¬ cand p b l f → BestP p b l f least := by
        intro hn
        have split : ∀ f' : Nat, f ≤ f' → f' = f ∨ f + 1 ≤ f' := fun f' h => by omega
        rcases hB with ⟨b1, b2⟩ | ⟨⟨f', b1, b2, b3, b4⟩, b5⟩
        · refine Or.inl ⟨b1, fun f' h1 h2 => ?_⟩
          rcases split f' h1 with h | h
          · rw [h]; exact hn
          · exact b2 f' h h2
        · refine Or.inr ⟨⟨f', by omega, b2, b3, b4⟩, fun f'' h1 h2 h3 => ?_⟩
          rcases split f'' h1 with h | h
          · rw [h] at h3; exact absurd h3 hn
          · exact b5 f'' h h2 h3
      by_cases d : imin brk (b f) < imax por (p f)
      · rw [if_pos d, if_pos rfl]
        have hn : ¬ cand p b l f := fun h => by
          have := h.1
          unfold okR at this
          rw [sb, sp, i_le] at this
          rw [i_lt] at d; omega
        obtain ⟨k1, k2⟩ := go least (skip hn)
        exact ⟨k1, fun h => absurd h c, fun _ => ⟨fun _ => k2, fun h => absurd rfl h⟩⟩
      · have hok : okR p b f (l + 1 - f) := by unfold okR; rw [sb, sp, i_le]; rw [i_lt] at d; omega
        rw [if_neg d]
        by_cases a : ab = -1
        · rw [if_pos a, if_pos rfl]
          have hn : ¬ cand p b l f := fun h => by
            have := hab.1 h.2
            rw [a, em1] at this; omega
          obtain ⟨k1, k2⟩ := go least (skip hn)
          exact ⟨k1, fun h => absurd h c, fun _ => ⟨fun _ => k2, fun h => absurd rfl h⟩⟩
        · have hgood : ∀ m : Nat, m < f → p m ≤ b m := Classical.byContradiction fun h => a (hab.2 h)
          have hav := hab.1 hgood
          have hc : cand p b l f := ⟨hok, hgood⟩
          have e2 : (ab + 1).toInt = ab.toInt + 1 := i_inc (by omega)
          have h1n : ¬ (1 : Int32) = 0 := by decide
          have split : ∀ f' : Nat, f ≤ f' → f' = f ∨ f + 1 ≤ f' := fun f' h => by omega
          rw [if_neg a, if_neg h1n]
          by_cases q : least = -1
          · have hB' : BestP p b l f (ab + 1) := by
              rcases hB with ⟨b1, b2⟩ | ⟨⟨f', b1, b2, b3, b4⟩, b5⟩
              · refine Or.inr ⟨⟨f, Nat.le_refl _, by omega, hc, by rw [e2, hav]⟩, fun f' h1 h2 h3 => ?_⟩
                rcases split f' h1 with h | h
                · rw [h, e2, hav]; exact Int.le_refl _
                · exact absurd h3 (b2 f' h h2)
              · rw [q, em1] at b4; omega
            obtain ⟨k1, k2⟩ := go (ab + 1) hB'
            rw [if_pos q]
            exact ⟨k1, fun h => absurd h c, fun _ => ⟨fun h => absurd h h1n, fun _ => ⟨fun _ => k2, fun h => absurd q h⟩⟩⟩
          · rw [if_neg q]
            rcases hB with ⟨b1, b2⟩ | ⟨⟨f', b1, b2, b3, b4⟩, b5⟩
            · exact absurd b1 q
            · by_cases s : least ≤ ab + 1
              · have s' := s
                rw [i_le, e2, hav] at s'
                have hB' : BestP p b l f least := by
                  refine Or.inr ⟨⟨f', by omega, b2, b3, b4⟩, fun f'' h1 h2 h3 => ?_⟩
                  rcases split f'' h1 with h | h
                  · rw [h]; exact s'
                  · exact b5 f'' h h2 h3
                obtain ⟨k1, k2⟩ := go least hB'
                rw [if_pos s]
                exact ⟨k1, fun h => absurd h c, fun _ => ⟨fun h => absurd h h1n, fun _ => ⟨fun h => absurd h q, fun _ => ⟨fun _ => k2, fun h => absurd s h⟩⟩⟩⟩
              · have s' := s
                rw [i_le, e2, hav] at s'
                have hB' : BestP p b l f (ab + 1) := by
                  refine Or.inr ⟨⟨f, Nat.le_refl _, by omega, hc, by rw [e2, hav]⟩, fun f'' h1 h2 h3 => ?_⟩
                  rcases split f'' h1 with h | h
                  · rw [h, e2, hav]; exact Int.le_refl _
                  · have := b5 f'' h h2 h3
                    rw [e2, hav]; omega
                obtain ⟨k1, k2⟩ := go (ab + 1) hB'
                rw [if_neg s]
                exact ⟨k1, fun h => absurd h c, fun _ => ⟨fun h => absurd h h1n, fun _ => ⟨fun h => absurd h q, fun _ => ⟨fun h => absurd h s, fun _ => k2⟩⟩⟩⟩
theorem try_eq {r : RS} {p b : Nat → Int32} {N : Nat} (hN : 60 < N) (hH : HB p b) (hr : ∀ j : Nat, j < 50 → R_pores r j = p j ∧ R_breaks r j = b j) {l : Int32} (h0 : 0 ≤ l.toInt) (hl : l.toInt < 50) (hv : ∀ m : Nat, (m : Int) < l.toInt → VAL p b m (R_pieces r m)) :
    VAL p b l.toNatClampNeg (f_X0_leastPiecesTo N r l) ∧ ok_X0_leastPiecesTo N r l := by
  have hcl := cl h0
  unfold f_X0_leastPiecesTo ok_X0_leastPiecesTo
  obtain ⟨k1, k2⟩ := try_loop hH hr (l := l.toNatClampNeg) (by omega) (fun m hm => hv m (by omega)) N (l.toNatClampNeg + 1) l 300 0 (-1) (by omega) (Nat.le_refl _) (by omega) (by rw [Nat.sub_self]; rfl) (by rw [Nat.sub_self]; rfl) (Or.inl ⟨rfl, fun f' h1 h2 => by exfalso; omega⟩)
  exact ⟨k1, k2, trivial⟩
theorem all_loop {p b : Nat → Int32} {N : Nat} (hN : 60 < N) (hH : HB p b) (last : Int32) (h50 : last.toInt < 50) : ∀ (n : Nat) (i : Int32) (r : RS), 0 ≤ i.toInt → i.toInt ≤ last.toInt + 1 → last.toInt + 1 - i.toInt < n → (∀ j : Nat, j < 50 → R_pores r j = p j ∧ R_breaks r j = b j) → (∀ m : Nat, (m : Int) < i.toInt → VAL p b m (R_pieces r m)) →
    ∃ r' : RS, f_X0_piecesFromAll_L2 N last n i r = r' ∧ R_pores r' = R_pores r ∧ R_breaks r' = R_breaks r ∧ R_rates r' = R_rates r ∧ R_gases r' = R_gases r ∧ (∀ m : Nat, (m : Int) ≤ last.toInt → VAL p b m (R_pieces r' m)) ∧ ok_X0_piecesFromAll_L2 N last n i r := by
  intro n
  induction n with
  | zero => intro i r h0 h1 h2; exfalso; omega
  | succ n ih =>
    intro i r h0 h1 h2 hr hv
    unfold f_X0_piecesFromAll_L2 ok_X0_piecesFromAll_L2
    by_cases c : last < i
    · have c' := c
      rw [i_lt] at c'
      rw [if_pos c]
      exact ⟨r, rfl, rfl, rfl, rfl, rfl, fun m hm => hv m (by omega), fun _ => trivial, fun h => absurd c h⟩
    · have c' := c
      rw [i_lt] at c'
      rw [if_neg c]
      have hcl := cl h0
      obtain ⟨t1, t2⟩ := try_eq hN hH hr h0 (by omega) hv
      have ei : (i + 1).toInt = i.toInt + 1 := i_inc (by omega)
      have hw : f_X3_write 50 (R_pieces r) i (f_X0_leastPiecesTo N r i) = upd (R_pieces r) i.toNatClampNeg (f_X0_leastPiecesTo N r i) := write_in (by decide) h0 (by omega)
      rw [hw]
      obtain ⟨r', k1, k2, k3, k4, k5, k6, k7⟩ := ih (i + 1) (R_set_pieces r (upd (R_pieces r) i.toNatClampNeg (f_X0_leastPiecesTo N r i))) (by omega) (by omega) (by omega) hr (by
        intro m hm
        show VAL p b m (upd (R_pieces r) i.toNatClampNeg (f_X0_leastPiecesTo N r i) m)
        by_cases e : m = i.toNatClampNeg
        · subst e; rw [upd_eq]; exact t1
        · rw [upd_ne _ _ e]; exact hv m (by omega))
      exact ⟨r', k1, k2, k3, k4, k5, k6, fun h => absurd h c, fun _ => ⟨t2, k7⟩⟩
theorem cas_model {w : WS} {r : RS} {ba : Int32} {g : MS} {N : Nat} (hN : 4000 < N) (hIR : InvR r) (hR : RelR r g) (p : Int32) :
    (f_X4_in p 1 5000 = 0 → f_X4_casingsOf N (put w ba g) p = (0, M_set_thrown (put w ba g) 1) ∧ ok_X4_casingsOf N (put w ba g) p) ∧
    (¬ f_X4_in p 1 5000 = 0 → ∃ v : Int32, f_X4_casingsOf N (put w ba g) p = (v, M_set_thrown (put w ba g) 0) ∧ VAL (M_pore g) (M_breaks g) (f_X4_layerAt p).toNatClampNeg v ∧ ok_X4_casingsOf N (put w ba g) p) := by
  have hH := hb_of hIR hR
  unfold f_X4_casingsOf ok_X4_casingsOf
  refine ⟨fun c => ⟨by simp -implicitDefEqProofs only [c, if_true, if_false, true_implies, false_implies, not_true_eq_false, not_false_eq_true, and_true, true_and, gw0, gw1, gw2, gw3, gwd, h10, h20, h30, eq_self, ite_self, implies_true, wi_eq], by simp -implicitDefEqProofs only [c, if_true, if_false, true_implies, false_implies, not_true_eq_false, not_false_eq_true, and_true, true_and, gw0, gw1, gw2, gw3, gwd, h10, h20, h30, eq_self, ite_self, implies_true, wi_eq]⟩, fun c => ?_⟩
  obtain ⟨a0, a1⟩ : 1 ≤ p.toInt ∧ p.toInt ≤ 5000 := in_no c
  obtain ⟨m0, m1, -⟩ := lay_rng (d := p) (by omega) a1
  have hG : (f_X4_goesWell (put w ba g) (if (f_X4_in p (1 : Int32) (5000 : Int32)) = 0 then (1 : Int32) else (0 : Int32))).2 = M_set_thrown (put w ba g) 0 := by rw [if_neg c, gw0]
  have e0 : (0 : Int32).toInt = 0 := rfl
  obtain ⟨v, k1, k2, k3⟩ := outer_loop (G := put w ba g) (N := N) (p := M_pore g) (b := M_breaks g) (by omega) hH rfl m0 m1 (M_set_thrown (put w ba g) 0) hG rfl rfl N 0 0 (by decide) (by rw [e0]; omega) (by rw [e0]; omega) (fun m hm => by rw [e0] at hm; omega) rfl (fun _ => rfl)
  refine ⟨v, ?_, k2, ?_⟩
  · rw [if_neg c, gw0, if_neg (show ¬ ((1 : Int32), M_set_thrown (put w ba g) 0).1 = 0 from (by decide : ¬ (1 : Int32) = 0))]
    exact k1
  · rw [if_neg c, gw0]
    exact ⟨fun _ => trivial, fun _ => k3⟩
theorem op_casings {x : XS} {w : WS} {r : RS} {t : TS} {G : MS} {N : Nat} (hN : 4000 < N) (h : Rel x w r t G) (p : Int32) : (ok_X3_casings N r p ∧ ok_X4_casings N G p) ∧
    ((∃ val : Int32, f_X3_casings N r p = (0, val) ∧ f_X4_casings N G p = (val, M_set_thrown G 0)) ∨
    (f_X3_casings N r p = (2, 0) ∧ f_X4_casings N G p = (0, M_set_thrown G 1))) := by
  obtain ⟨ba, g, rfl, hI, hG⟩ := h
  obtain ⟨hIR, hR, -⟩ := id hG
  have hH := hb_of hIR hR
  obtain ⟨q1, q2⟩ := cas_model (w := w) (ba := ba) hN hIR hR p
  unfold f_X3_casings f_X4_casings ok_X3_casings ok_X4_casings
  by_cases c : f_X4_in p 1 5000 = 0
  · obtain ⟨k1, k2⟩ := q1 c
    exact ⟨⟨by simp -implicitDefEqProofs only [c, if_true, if_false, true_implies, false_implies, not_true_eq_false, not_false_eq_true, and_true, true_and, gw0, gw1, gw2, gw3, gwd, h10, h20, h30, eq_self, ite_self, implies_true, wi_eq], ⟨k2, trivial⟩⟩, Or.inr ⟨by simp -implicitDefEqProofs only [c, if_true, if_false, true_implies, false_implies, not_true_eq_false, not_false_eq_true, and_true, true_and, gw0, gw1, gw2, gw3, gwd, h10, h20, h30, eq_self, ite_self, implies_true, wi_eq], by rw [k1]⟩⟩
  · obtain ⟨v, k1, k2, k3⟩ := q2 c
    obtain ⟨a0, a1⟩ : 1 ≤ p.toInt ∧ p.toInt ≤ 5000 := in_no c
    obtain ⟨m0, m1, -⟩ := lay_rng (d := p) (by omega) a1
    have l2 : f_X0_layerOf p = f_X4_layerAt p := lay_eq (by omega)
    obtain ⟨t1, t2⟩ := above_eq (N := N) (r := r) (by omega) hH (fun j hj => ⟨(hR j hj).1, (hR j hj).2.1⟩) (f_X4_layerAt p) m0 m1
    have ev := VAL_uniq t1 k2
    exact ⟨⟨by simp -implicitDefEqProofs only [c, l2, t2, if_true, if_false, true_implies, false_implies, not_true_eq_false, not_false_eq_true, and_true, true_and, gw0, gw1, gw2, gw3, gwd, h10, h20, h30, eq_self, ite_self, implies_true, wi_eq], ⟨k3, trivial⟩⟩, Or.inl ⟨v, by simp -implicitDefEqProofs only [c, l2, ev, if_true, if_false, true_implies, false_implies, not_true_eq_false, not_false_eq_true, and_true, true_and, gw0, gw1, gw2, gw3, gwd, h10, h20, h30, eq_self, ite_self, implies_true, wi_eq], by rw [k1]⟩⟩
theorem op_casingsAnew {x : XS} {w : WS} {r : RS} {t : TS} {G : MS} {N : Nat} (hN : 4000 < N) (h : Rel x w r t G) (p : Int32) : (ok_X3_casingsAnew N r p ∧ ok_X4_casingsAnew N G p) ∧
    ((∃ (r' : RS) (val : Int32) (G' : MS), f_X3_casingsAnew N r p = (0, val, r') ∧ f_X4_casingsAnew N G p = (val, G') ∧ f_X4_thrown G' = 0 ∧ Rel x w r' t G') ∨
    (f_X3_casingsAnew N r p = (2, 0, r) ∧ f_X4_casingsAnew N G p = (0, M_set_thrown G 1))) := by
  obtain ⟨ba, g, rfl, hI, hG⟩ := h
  obtain ⟨hIR, hR, hrest⟩ := id hG
  have hH := hb_of hIR hR
  obtain ⟨q1, q2⟩ := cas_model (w := w) (ba := ba) hN hIR hR p
  unfold f_X3_casingsAnew f_X4_casingsAnew ok_X3_casingsAnew ok_X4_casingsAnew
  by_cases c : f_X4_in p 1 5000 = 0
  · obtain ⟨k1, k2⟩ := q1 c
    exact ⟨⟨by simp -implicitDefEqProofs only [c, if_true, if_false, true_implies, false_implies, not_true_eq_false, not_false_eq_true, and_true, true_and, gw0, gw1, gw2, gw3, gwd, h10, h20, h30, eq_self, ite_self, implies_true, wi_eq], ⟨k2, trivial⟩⟩, Or.inr ⟨by simp -implicitDefEqProofs only [c, if_true, if_false, true_implies, false_implies, not_true_eq_false, not_false_eq_true, and_true, true_and, gw0, gw1, gw2, gw3, gwd, h10, h20, h30, eq_self, ite_self, implies_true, wi_eq], by rw [k1]⟩⟩
  · obtain ⟨v, k1, k2, k3⟩ := q2 c
    obtain ⟨a0, a1⟩ : 1 ≤ p.toInt ∧ p.toInt ≤ 5000 := in_no c
    obtain ⟨m0, m1, -⟩ := lay_rng (d := p) (by omega) a1
    have e0 : (0 : Int32).toInt = 0 := rfl
    have hcl := cl m0
    have l2 : f_X0_layerOf p = f_X4_layerAt p := lay_eq (by omega)
    obtain ⟨r', t1, t2, t3, t4, t5, t6, t7⟩ := all_loop (N := N) (by omega) hH (f_X4_layerAt p) m1 N 0 r (by decide) (by rw [e0]; omega) (by rw [e0]; omega) (fun j hj => ⟨(hR j hj).1, (hR j hj).2.1⟩) (fun m hm => by rw [e0] at hm; omega)
    have hrd : f_X3_read 50 (R_pieces r') (f_X4_layerAt p) = v := by
      rw [read_in (by decide) m0 m1]
      exact VAL_uniq (t6 _ (by omega)) k2
    have hpa : f_X0_piecesFromAll N r (f_X4_layerAt p) = (v, r') := by
      unfold f_X0_piecesFromAll
      rw [t1, hrd]
    have hoa : ok_X0_piecesFromAll N r (f_X4_layerAt p) := ⟨t7, trivial⟩
    refine ⟨⟨by simp -implicitDefEqProofs only [c, l2, hoa, if_true, if_false, true_implies, false_implies, not_true_eq_false, not_false_eq_true, and_true, true_and, gw0, gw1, gw2, gw3, gwd, h10, h20, h30, eq_self, ite_self, implies_true, wi_eq], ⟨k3, trivial⟩⟩, Or.inl ⟨r', v, M_set_thrown (put w ba g) 0, by simp -implicitDefEqProofs only [c, l2, hpa, if_true, if_false, true_implies, false_implies, not_true_eq_false, not_false_eq_true, and_true, true_and, gw0, gw1, gw2, gw3, gwd, h10, h20, h30, eq_self, ite_self, implies_true, wi_eq], by rw [k1], rfl, ba, M_set_thrown g 0, M_set_thrown_put w ba g 0, hI, ?_⟩⟩
    refine rg_thr 0 ⟨?_, ?_, hrest⟩
    · intro j hj
      rw [t2, t3, t4, t5]; exact hIR j hj
    · intro j hj
      rw [t2, t3, t4, t5]; exact hR j hj
