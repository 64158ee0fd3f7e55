/-! The barriers, the bars, the stops. -/
theorem hasInflow_iff (w : WS) : f_X2_hasInflow w = 0 ↔ ((W_charge w).toInt ≤ 0 ∧ (W_liquid w).toInt ≤ 0) := by
  unfold f_X2_hasInflow
  by_cases c : f_X2_hasGas w = 0
  · rw [if_pos c]
    by_cases d : W_liquid w ≤ 0
    · rw [if_pos d]; exact ⟨fun _ => ⟨(hasGas_iff w).mp c, i_le.mp d⟩, fun _ => rfl⟩
    · rw [if_neg d]; exact ⟨fun h => absurd h (by decide), fun h => absurd (i_le.mpr h.2) d⟩
  · rw [if_neg c]; exact ⟨fun h => absurd h (by decide), fun h => absurd ((hasGas_iff w).mpr h.1) c⟩
theorem mud_b {w : WS} {r : RS} {g : MS} {N : Nat} {B : Int} (ba : Int32) (hI : InvW B w) (hR : RelR r g) (hIR : InvR r) :
    f_X4_barriersNow N (put w ba g) = f_X4_barriersNow_b36 N (put w ba g) (f_X3_isMudBarrier w r) ∧ ((∀ j : Int32, ok_X4_barriersNow_b36 N (put w ba g) j) → ok_X4_barriersNow N (put w ba g)) := by
  have hd := hI.1
  obtain ⟨-, -, -, -, -, -, -, ⟨q0, q1⟩, -, ⟨g0, l0, gl⟩, -⟩ := id hI
  obtain ⟨pe, po, -⟩ := pore_eq hR hIR hd.1 hd.2
  have pd : f_X4_poreAt (put w ba g) (M_depth (put w ba g)) = f_X0_poreAt r (W_depth w) := by rw [pe]; rfl
  have ok0 : ok_X4_poreAt (M_depth (put w ba g)) := po
  have ebot : f_X4_bottom (put w ba g) = f_X2_bottom w := bottom_eq hI
  have e0l : (0 : Int64).toInt = 0 := rfl
  have e0 : (0 : Int32).toInt = 0 := rfl
  have b35 : f_X4_barriersNow_b35 N (put w ba g) = f_X4_barriersNow_b36 N (put w ba g) 0 := rfl
  have o35 : ok_X4_barriersNow_b36 N (put w ba g) 0 → ok_X4_barriersNow_b35 N (put w ba g) := fun h => h
  unfold f_X4_barriersNow ok_X4_barriersNow f_X3_isMudBarrier
  rw [pd, ebot]
  by_cases c1 : W_charge w = 0
  · have c1m : lg_cmp (M_charge (put w ba g)) 0 = 0 := (cmp_eq0 _ _).mpr c1
    rw [if_pos c1m]
    by_cases c2 : W_liquid w = 0
    · have c2m : M_liquid (put w ba g) = 0 := c2
      have ci : f_X2_hasInflow w = 0 := (hasInflow_iff w).mpr ⟨Int.le_of_eq (congrArg Int64.toInt c1), Int.le_of_eq (congrArg Int32.toInt c2)⟩
      rw [if_pos c2m, if_pos ci]
      by_cases c3 : f_X2_bottom w < f_X0_poreAt r (W_depth w)
      · rw [if_pos c3, if_pos c3]
        exact ⟨b35, fun h => ⟨fun _ => ⟨fun _ => ⟨ok0, fun _ => o35 (h 0), fun h2 => absurd c3 h2⟩, fun h2 => absurd c2m h2⟩, fun h2 => absurd c1m h2⟩⟩
      · rw [if_neg c3, if_neg c3]
        exact ⟨rfl, fun h => ⟨fun _ => ⟨fun _ => ⟨ok0, fun h2 => absurd h2 c3, fun _ => h 1⟩, fun h2 => absurd c2m h2⟩, fun h2 => absurd c1m h2⟩⟩
    · have c2m : ¬ M_liquid (put w ba g) = 0 := c2
      have ci : ¬ f_X2_hasInflow w = 0 := fun h => c2 (by have := ((hasInflow_iff w).mp h).2; rw [i_eq, e0]; omega)
      rw [if_neg c2m, if_neg ci]
      exact ⟨b35, fun h => ⟨fun _ => ⟨fun h2 => absurd h2 c2m, fun _ => o35 (h 0)⟩, fun h2 => absurd c1m h2⟩⟩
  · have c1m : ¬ lg_cmp (M_charge (put w ba g)) 0 = 0 := fun h => c1 ((cmp_eq0 _ _).mp h)
    have ci : ¬ f_X2_hasInflow w = 0 := fun h => c1 (by have := ((hasInflow_iff w).mp h).1; rw [l_eq, e0l]; omega)
    rw [if_neg c1m, if_neg ci]
    exact ⟨b35, fun h => ⟨fun h2 => absurd h2 c1m, fun _ => o35 (h 0)⟩⟩
theorem valve_b {w : WS} {t : TS} {g : MS} {N : Nat} {ba : Int32} (hN : 60 < N) (hT : RelT t g ba (W_hasBrokenSinceTest w)) (j : Int32) :
    f_X4_barriersNow_b36 N (put w ba g) j = f_X4_barriersNow_b83 N (put w ba g) j (f_X3_isValveBarrier w t) ∧ ((∀ a b : Int32, ok_X4_barriersNow_b83 N (put w ba g) a b) → ok_X4_barriersNow_b36 N (put w ba g) j) := by
  have hl : LatP 0 (M_tested (put w ba g)) ba.toInt (M_tests (put w ba g)).toInt (if W_hasBrokenSinceTest w = 0 then T_latestOfValve t else -1) := lat_break hT
  obtain ⟨-, ⟨t0, t1⟩, hj, hv, ⟨b0, b1⟩, -, -, -, -⟩ := id hT
  have e : f_X4_latest N (put w ba g) 0 (M_brokenAfter (put w ba g)) = (if W_hasBrokenSinceTest w = 0 then T_latestOfValve t else -1) := (latest_eq (G := put w ba g) (lo := ba) hN b0 b1 t1 hl).1
  have okl : ok_X4_latest N (put w ba g) 0 (M_brokenAfter (put w ba g)) := (latest_eq (G := put w ba g) (lo := ba) hN b0 b1 t1 hl).2
  have b82 : f_X4_barriersNow_b82 N (put w ba g) j = f_X4_barriersNow_b83 N (put w ba g) j 0 := rfl
  have o82 : ok_X4_barriersNow_b83 N (put w ba g) j 0 → ok_X4_barriersNow_b82 N (put w ba g) j := fun h => h
  unfold f_X4_barriersNow_b36 ok_X4_barriersNow_b36 f_X3_isValveBarrier
  rw [e]
  by_cases ch : W_hasBrokenSinceTest w = 0
  · rw [if_pos ch, if_pos ch]
    have hr := lat_rng hv
    obtain ⟨ip, rd⟩ := isPassed_eq (l := T_latestOfValve t) hj (hr.imp id (fun h => ⟨h.1, by omega⟩))
    generalize T_latestOfValve t = lv at *
    by_cases c1 : lv = -1
    · rw [if_pos c1, if_pos (ip.mpr (Or.inl c1))]
      exact ⟨b82, fun h => ⟨okl, fun _ => o82 (h _ _), fun h2 => absurd c1 h2⟩⟩
    · obtain ⟨rd1, rd2⟩ := rd c1
      rw [if_neg c1]
      by_cases c2 : M_isPassed g lv.toNatClampNeg = 0
      · have c2m : M_isPassed (put w ba g) lv.toNatClampNeg = 0 := c2
        rw [if_pos c2m, if_pos (ip.mpr (Or.inr c2))]
        exact ⟨b82, fun h => ⟨okl, fun h2 => absurd h2 c1, fun _ => ⟨rd2, fun _ => o82 (h _ _), fun h2 => absurd c2m h2⟩⟩⟩
      · have c2m : ¬ M_isPassed (put w ba g) lv.toNatClampNeg = 0 := c2
        have p2 : ¬ f_X1_isPassed t lv = 0 := fun h => (ip.mp h).elim c1 c2
        rw [if_neg c2m, if_neg p2, rd1]
        by_cases c3 : 20160 < W_minutes w - M_testedAt g lv.toNatClampNeg
        · have c3m : 20160 < M_minutes (put w ba g) - M_testedAt (put w ba g) lv.toNatClampNeg := c3
          rw [if_pos c3m, if_pos c3]
          exact ⟨b82, fun h => ⟨okl, fun h2 => absurd h2 c1, fun _ => ⟨rd2, fun h2 => absurd h2 c2m, fun _ => ⟨rd2, fun _ => o82 (h _ _), fun h2 => absurd c3m h2⟩⟩⟩⟩
        · have c3m : ¬ 20160 < M_minutes (put w ba g) - M_testedAt (put w ba g) lv.toNatClampNeg := c3
          rw [if_neg c3m, if_neg c3]
          exact ⟨rfl, fun h => ⟨okl, fun h2 => absurd h2 c1, fun _ => ⟨rd2, fun h2 => absurd h2 c2m, fun _ => ⟨rd2, fun h2 => absurd h2 c3m, fun _ => h _ _⟩⟩⟩⟩
  · rw [if_neg ch, if_neg ch, if_pos rfl]
    have hz : (if f_X1_isPassed t (T_latestOfValve t) = 0 then (0 : Int32) else if 20160 < W_minutes w - f_X3_read 60 (T_minutes t) (T_latestOfValve t) then 0 else 0) = 0 := by
      split
      · rfl
      · split <;> rfl
    rw [hz]
    exact ⟨b82, fun h => ⟨okl, fun _ => o82 (h _ _), fun h2 => absurd rfl h2⟩⟩
theorem cement_b {w : WS} {t : TS} {g : MS} {N : Nat} {ba hb : Int32} (hN : 60 < N) (hT : RelT t g ba hb) (a b : Int32) :
    f_X4_barriersNow_b83 N (put w ba g) a b = f_X4_barriersNow_b123 a b (f_X3_isCementBarrier w t) ∧ ok_X4_barriersNow_b83 N (put w ba g) a b := by
  obtain ⟨-, ⟨t0, t1⟩, hj, -, -, -, -, ⟨k0, k1⟩, hc⟩ := id hT
  have hl : LatP 1 (M_tested (put w ba g)) (M_casedAfter (put w ba g)).toInt (M_tests (put w ba g)).toInt (T_latestOfCement t) := hc
  have e : f_X4_latest N (put w ba g) 1 (M_casedAfter (put w ba g)) = T_latestOfCement t := (latest_eq (G := put w ba g) (lo := M_casedAfter (put w ba g)) hN k0 k1 t1 hl).1
  have okl : ok_X4_latest N (put w ba g) 1 (M_casedAfter (put w ba g)) := (latest_eq (G := put w ba g) (lo := M_casedAfter (put w ba g)) hN k0 k1 t1 hl).2
  have b122 : f_X4_barriersNow_b122 a b = f_X4_barriersNow_b123 a b 0 := rfl
  have hr := lat_rng hc
  obtain ⟨ip, rd⟩ := isPassed_eq (l := T_latestOfCement t) hj (hr.imp id (fun h => ⟨h.1, by omega⟩))
  unfold f_X4_barriersNow_b83 ok_X4_barriersNow_b83 f_X3_isCementBarrier
  rw [e]
  generalize T_latestOfCement t = lv at *
  by_cases c0 : W_shoe w ≤ 0
  · have c0m : M_shoe (put w ba g) ≤ 0 := c0
    rw [if_pos c0m, if_pos c0]
    exact ⟨b122, ⟨okl, fun _ => trivial, fun h => absurd c0m h⟩⟩
  · have c0m : ¬ M_shoe (put w ba g) ≤ 0 := c0
    rw [if_neg c0m, if_neg c0]
    by_cases c1 : lv = -1
    · rw [if_pos c1, if_pos (ip.mpr (Or.inl c1))]
      exact ⟨b122, ⟨okl, fun h => absurd h c0m, fun _ => ⟨fun _ => trivial, fun h => absurd c1 h⟩⟩⟩
    · obtain ⟨-, rd2⟩ := rd c1
      rw [if_neg c1]
      by_cases c2 : M_isPassed g lv.toNatClampNeg = 0
      · have c2m : M_isPassed (put w ba g) lv.toNatClampNeg = 0 := c2
        rw [if_pos c2m, if_pos (ip.mpr (Or.inr c2))]
        exact ⟨b122, ⟨okl, fun h => absurd h c0m, fun _ => ⟨fun h => absurd h c1, fun _ => ⟨rd2, trivial⟩⟩⟩⟩
      · have c2m : ¬ M_isPassed (put w ba g) lv.toNatClampNeg = 0 := c2
        have p2 : ¬ f_X1_isPassed t lv = 0 := fun h => (ip.mp h).elim c1 c2
        rw [if_neg c2m, if_neg p2]
        exact ⟨rfl, ⟨okl, fun h => absurd h c0m, fun _ => ⟨fun h => absurd h c1, fun _ => ⟨rd2, trivial⟩⟩⟩⟩
theorem barr_eq {w : WS} {r : RS} {t : TS} {g : MS} {N : Nat} {B : Int} {ba : Int32} (hN : 60 < N) (hI : InvW B w) (hR : RelR r g) (hIR : InvR r) (hT : RelT t g ba (W_hasBrokenSinceTest w)) :
    f_X4_barriersNow N (put w ba g) = f_X3_barriers w r t ∧ ok_X4_barriersNow N (put w ba g) := by
  obtain ⟨m1, m2⟩ := mud_b (N := N) ba hI hR hIR
  have v := fun j => valve_b (w := w) hN hT j
  have c := fun a b => cement_b (w := w) hN hT a b
  refine ⟨?_, m2 fun j => (v j).2 fun a b => (c a b).2⟩
  rw [m1, (v _).1, (c _ _).1]
  rfl
theorem bits_eq (a b c : Int32) : (2 ≤ f_J6_bitCount_0f7a4 (f_X4_barriersNow_b123 a b c)) ↔ (2 ≤ (f_X4_barriersNow_b123 a b c - f_X4_barriersNow_b123 a b c / 2 * 2) + (f_X4_barriersNow_b123 a b c / 2 - f_X4_barriersNow_b123 a b c / 2 / 2 * 2) + f_X4_barriersNow_b123 a b c / 4) := by
  have h : ∀ z : Int32, (z = 0 ∨ z = 1 ∨ z = 2 ∨ z = 3 ∨ z = 4 ∨ z = 5 ∨ z = 6 ∨ z = 7) → ((2 ≤ f_J6_bitCount_0f7a4 z) ↔ (2 ≤ (z - z / 2 * 2) + (z / 2 - z / 2 / 2 * 2) + z / 4)) := by
    intro z hz
    rcases hz with h | h | h | h | h | h | h | h <;> subst h <;> decide +kernel
  apply h
  unfold f_X4_barriersNow_b123
  by_cases c1 : a = 0 <;> by_cases c2 : b = 0 <;> by_cases c3 : c = 0 <;> simp only [c1, c2, c3, if_true, if_false] <;> decide +kernel
theorem barr_form (w : WS) (r : RS) (t : TS) : f_X3_barriers w r t = f_X4_barriersNow_b123 (f_X3_isMudBarrier w r) (f_X3_isValveBarrier w t) (f_X3_isCementBarrier w t) := rfl
def bi (b : Bool) : Int32 := if b = true then 1 else 0
def st6 (a b c d e f : Bool) : Int32 := (if a = true then 1 else 0) + (if b = true then 2 else 0) + (if c = true then 4 else 0) + (if d = true then 8 else 0) + (if e = true then 16 else 0) + (if f = true then 32 else 0)
def RelS (s : Int32) (f : Nat → Int32) : Prop := ∃ b0 b1 b2 b3 b4 b5 : Bool, s = st6 b0 b1 b2 b3 b4 b5 ∧ f 0 = bi b0 ∧ f 1 = bi b1 ∧ f 2 = bi b2 ∧ f 3 = bi b3 ∧ f 4 = bi b4 ∧ f 5 = bi b5
def ch (a z : Int32) : Int32 := if a = 0 then (if z = 0 then 0 else 1) else 1
theorem l4_step (G : MS) (n : Nat) {i j : Int32} (k : Nat) (a : Int32) (h6 : ¬ (6 : Int32) ≤ i) (hj : i + 1 = j) (hk : i.toNatClampNeg = k) (hv : vp_in i 6) :
    f_X4_barsNow_L4 G (n + 1) i a = f_X4_barsNow_L4 G n j (ch a (M_stops G k)) ∧ (ok_X4_barsNow_L4 G n j (ch a (M_stops G k)) → ok_X4_barsNow_L4 G (n + 1) i a) := by
  subst hj hk
  have e : f_X4_barsNow_L4 G (n + 1) i a = if (6 : Int32) ≤ i then a else (if a = 0 then (if M_stops G i.toNatClampNeg = 0 then f_X4_barsNow_L4 G n (i + 1) 0 else f_X4_barsNow_L4 G n (i + 1) 1) else f_X4_barsNow_L4 G n (i + 1) 1) := rfl
  have eo : ok_X4_barsNow_L4 G (n + 1) i a = (((6 : Int32) ≤ i → True) ∧ (¬ (6 : Int32) ≤ i → ((a = 0 → ((vp_in i 6) ∧ ((M_stops G i.toNatClampNeg = 0 → ok_X4_barsNow_L4 G n (i + 1) 0) ∧ (¬ M_stops G i.toNatClampNeg = 0 → ok_X4_barsNow_L4 G n (i + 1) 1)))) ∧ (¬ a = 0 → ok_X4_barsNow_L4 G n (i + 1) 1)))) := rfl
  rw [e, eo, if_neg h6]
  unfold ch
  by_cases c : a = 0
  · rw [if_pos c, if_pos c]
    by_cases d : M_stops G i.toNatClampNeg = 0
    · rw [if_pos d, if_pos d]
      exact ⟨rfl, fun h => ⟨fun h2 => absurd h2 h6, fun _ => ⟨fun _ => ⟨hv, fun _ => h, fun h2 => absurd d h2⟩, fun h2 => absurd c h2⟩⟩⟩
    · rw [if_neg d, if_neg d]
      exact ⟨rfl, fun h => ⟨fun h2 => absurd h2 h6, fun _ => ⟨fun _ => ⟨hv, fun h2 => absurd h2 d, fun _ => h⟩, fun h2 => absurd c h2⟩⟩⟩
  · rw [if_neg c, if_neg c]
    exact ⟨rfl, fun h => ⟨fun h2 => absurd h2 h6, fun _ => ⟨fun h2 => absurd h2 c, fun _ => h⟩⟩⟩
theorem ch_all : ∀ b0 b1 b2 b3 b4 b5 : Bool, (ch (ch (ch (ch (ch (ch 0 (bi b0)) (bi b1)) (bi b2)) (bi b3)) (bi b4)) (bi b5) = 0 ↔ st6 b0 b1 b2 b3 b4 b5 = 0) := by decide +kernel
theorem vi6 : vp_in 0 6 ∧ vp_in 1 6 ∧ vp_in 2 6 ∧ vp_in 3 6 ∧ vp_in 4 6 ∧ vp_in 5 6 := by
  refine ⟨?_, ?_, ?_, ?_, ?_, ?_⟩ <;> exact vin (by decide) (by decide)
theorem stops_bars {G : MS} {s : Int32} {N : Nat} (hN : 60 < N) (hS : RelS s (M_stops G)) : (f_X4_barsNow_L4 G N 0 0 = 0 ↔ s = 0) ∧ ok_X4_barsNow_L4 G N 0 0 := by
  obtain ⟨n, rfl⟩ : ∃ n, N = n + 7 := ⟨N - 7, by omega⟩
  obtain ⟨b0, b1, b2, b3, b4, b5, hs, f0, f1, f2, f3, f4, f5⟩ := hS
  obtain ⟨v0, v1, v2, v3, v4, v5⟩ := vi6
  have s0 := l4_step G (n + 6) (i := 0) (j := 1) 0 0 (by decide) (by decide) (by decide) v0
  have s1 := fun a => l4_step G (n + 5) (i := 1) (j := 2) 1 a (by decide) (by decide) (by decide) v1
  have s2 := fun a => l4_step G (n + 4) (i := 2) (j := 3) 2 a (by decide) (by decide) (by decide) v2
  have s3 := fun a => l4_step G (n + 3) (i := 3) (j := 4) 3 a (by decide) (by decide) (by decide) v3
  have s4 := fun a => l4_step G (n + 2) (i := 4) (j := 5) 4 a (by decide) (by decide) (by decide) v4
  have s5 := fun a => l4_step G (n + 1) (i := 5) (j := 6) 5 a (by decide) (by decide) (by decide) v5
  have s6 : ∀ a : Int32, f_X4_barsNow_L4 G (n + 1) 6 a = a := fun a => if_pos (by decide)
  have o6 : ∀ a : Int32, ok_X4_barsNow_L4 G (n + 1) 6 a := fun a => ⟨fun _ => trivial, fun h => absurd (by decide) h⟩
  refine ⟨?_, s0.2 ((s1 _).2 ((s2 _).2 ((s3 _).2 ((s4 _).2 ((s5 _).2 (o6 _))))))⟩
  rw [s0.1, (s1 _).1, (s2 _).1, (s3 _).1, (s4 _).1, (s5 _).1, s6, f0, f1, f2, f3, f4, f5, hs]
  exact ch_all _ _ _ _ _ _
theorem bars_eq {x : XS} {w : WS} {r : RS} {t : TS} {g : MS} {N : Nat} {B : Int} {ba : Int32} (hN : 60 < N) (hI : InvW B w) (hR : RelR r g) (hIR : InvR r) (hS : RelS (X_stops x) (M_stops g)) (hT : RelT t g ba (W_hasBrokenSinceTest w)) :
    f_X4_barsNow N (put w ba g) = f_X3_bars x w r t ∧ ok_X4_barsNow N (put w ba g) := by
  obtain ⟨b1, b2⟩ := barr_eq hN hI hR hIR hT
  obtain ⟨s1, s2⟩ := stops_bars (G := put w ba g) hN hS
  have hd := hI.1
  have e0l : (0 : Int64).toInt = 0 := rfl
  have e0 : (0 : Int32).toInt = 0 := rfl
  refine ⟨?_, ⟨s2, b2, trivial⟩⟩
  unfold f_X4_barsNow f_X3_bars
  rw [b1]
  by_cases c0 : X_stops x = 0
  · rw [if_pos c0, if_pos (s1.mpr c0)]
    by_cases c1 : W_isClosed w = 0
    · have c1m : M_isClosed (put w ba g) = 0 := c1
      rw [if_pos c1, if_pos c1m]
      by_cases c2 : (W_charge w).toInt ≤ 0
      · have c2m : ¬ 0 < lg_cmp (M_charge (put w ba g)) 0 := by
          have := (cmp_le0 (M_charge (put w ba g)) 0).mpr (by rw [e0l]; exact c2)
          rw [i_lt, e0]; rw [i_le, e0] at this; omega
        rw [if_neg c2m]
        by_cases c3 : W_liquid w ≤ 0
        · have c3m : M_liquid (put w ba g) ≤ 0 := c3
          have ci : f_X2_hasInflow w = 0 := (hasInflow_iff w).mpr ⟨c2, i_le.mp c3⟩
          rw [if_pos c3m, if_pos ci]
          have hbit := bits_eq (f_X3_isMudBarrier w r) (f_X3_isValveBarrier w t) (f_X3_isCementBarrier w t)
          rw [← barr_form] at hbit
          by_cases c4 : 2 ≤ f_J6_bitCount_0f7a4 (f_X3_barriers w r t)
          · rw [if_pos c4, if_pos (hbit.mp c4)]
            have e5 : (5000 : Int32).toInt = 5000 := rfl
            by_cases c5 : W_depth w < 5000
            · have c5m : ¬ M_depth (put w ba g) = 5000 := fun h => by have h : W_depth w = 5000 := h; rw [h] at c5; exact absurd c5 (by decide)
              rw [if_pos c5, if_neg c5m]
            · have c5m : M_depth (put w ba g) = 5000 := by
                show W_depth w = 5000
                rw [i_eq, e5]; rw [i_lt, e5] at c5; omega
              rw [if_neg c5, if_pos c5m]
          · rw [if_neg c4, if_neg (fun h => c4 (hbit.mpr h))]
        · have c3m : ¬ M_liquid (put w ba g) ≤ 0 := c3
          have ci : ¬ f_X2_hasInflow w = 0 := fun h => c3 (i_le.mpr ((hasInflow_iff w).mp h).2)
          rw [if_neg c3m, if_neg ci]
      · have c2m : 0 < lg_cmp (M_charge (put w ba g)) 0 := by
          have this : ¬ lg_cmp (M_charge (put w ba g)) 0 ≤ 0 := fun h => c2 (by have h2 := (cmp_le0 (M_charge (put w ba g)) 0).mp h; rw [e0l] at h2; exact h2)
          rw [i_le, e0] at this
          rw [i_lt, e0]; omega
        have ci : ¬ f_X2_hasInflow w = 0 := fun h => c2 ((hasInflow_iff w).mp h).1
        rw [if_pos c2m, if_neg ci]
    · have c1m : ¬ M_isClosed (put w ba g) = 0 := c1
      rw [if_neg c1, if_neg c1m]
  · rw [if_neg c0, if_neg (fun h => c0 (s1.mp h))]
theorem relT_break {t : TS} {g : MS} {ba hb ba2 hb2 : Int32} (h : RelT t g ba hb) (k : BrR ba hb (M_tests g) ba2 hb2) : RelT t g ba2 hb2 := by
  rcases k with ⟨k1, k2⟩ | ⟨k1, k2⟩
  · rw [k1, k2]; exact h
  · obtain ⟨h1, ⟨t0, t1⟩, h3, h4, h5, h6, h7, h8, h9⟩ := h
    subst k1 k2
    refine ⟨h1, ⟨t0, t1⟩, h3, h4, ⟨t0, Int.le_refl _⟩, fun h => absurd h (by decide), fun _ => ?_, h8, h9⟩
    have e : (-1 : Int32).toInt = -1 := rfl
    rcases lat_rng h4 with h | h
    · rw [h, e]; omega
    · omega
