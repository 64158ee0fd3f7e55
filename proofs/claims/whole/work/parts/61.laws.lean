/-! The law's 22 cases: where both are tied, both answer alike and stay tied. -/
def FOk (F : XS → WS → WS → RS → TS → MS → (Nat → Int64) → (Nat → UInt64) → Int32) : Prop := ∀ (x : XS) (w v : WS) (r : RS) (t : TS) (g : MS) (fo : Nat → Int64) (fd : Nat → UInt64), Rel x w r t g → F x w v r t g fo fd = 1
theorem lw_gen {a b : Int32} {z1 z2 : Int64} {Y : Int32} (h1 : a = b) (h2 : b = 0 → z1 = z2) (hY : Y = 1) : (if a = b then (if b = 0 then (if lg_cmp z1 z2 = 0 then Y else (0 : Int32)) else Y) else (0 : Int32)) = 1 := by
  rw [if_pos h1]
  by_cases c : b = 0
  · rw [if_pos c, if_pos ((cmp_eq0 _ _).mpr (h2 c))]; exact hY
  · rw [if_neg c]; exact hY
theorem lw_gen0 {a b Y : Int32} (h1 : a = b) (hY : Y = 1) : (if a = b then Y else (0 : Int32)) = 1 := by rw [if_pos h1]; exact hY
theorem updL0 (fo : Nat → Int64) (z : Int64) : vp_updL fo (0 : Int32).toNatClampNeg z (0 : Int32).toNatClampNeg = z := if_pos rfl
theorem updF0 (fd : Nat → UInt64) (z : UInt64) : vf_upd fd (0 : Int32).toNatClampNeg z (0 : Int32).toNatClampNeg = z := if_pos rfl
theorem n1 : ¬ (1 : Int32) = 0 := by decide
theorem n2 : ¬ (2 : Int32) = 0 := by decide
theorem n3 : ¬ (3 : Int32) = 0 := by decide
theorem sl_0 {F : XS → WS → WS → RS → TS → MS → (Nat → Int64) → (Nat → UInt64) → Int32} (hF : FOk F) {x : XS} {w : WS} (v : WS) {r : RS} {t : TS} {g : MS} (fo : Nat → Int64) (fd : Nat → UInt64) (h : Rel x w r t g) (p1 p2 p3 p4 p5 : Int32) : f_law_0 F x w v r t g fo fd p1 p2 p3 p4 p5 = 1 := by
  unfold f_law_0
  rcases (op_layer h p1 p2 p3 p4 (if p5 = 0 then (0 : Int32) else (1 : Int32)) (bz_if p5)).2 with ⟨r', G', e1, e2, ht, hr⟩ | ⟨e1, e2⟩ | ⟨e1, e2⟩ | ⟨e1, e2⟩
  · have eL : f_L_layer w r p1 p2 p3 p4 (if p5 = 0 then (0 : Int32) else (1 : Int32)) = (0, r') := by unfold f_L_layer; rw [e1]; rfl
    rw [eL, e2]
    exact lw_gen0 ht (hF _ _ _ _ _ _ _ _ hr)
  · have eL : f_L_layer w r p1 p2 p3 p4 (if p5 = 0 then (0 : Int32) else (1 : Int32)) = (1, r) := by unfold f_L_layer; rw [e1]; rfl
    rw [eL, e2]
    exact lw_gen0 (thr_thr g 1) (hF _ _ _ _ _ _ _ _ (rel_thr 1 h))
  · have eL : f_L_layer w r p1 p2 p3 p4 (if p5 = 0 then (0 : Int32) else (1 : Int32)) = (2, r) := by unfold f_L_layer; rw [e1]; rfl
    rw [eL, e2]
    exact lw_gen0 (thr_thr g 2) (hF _ _ _ _ _ _ _ _ (rel_thr 2 h))
  · have eL : f_L_layer w r p1 p2 p3 p4 (if p5 = 0 then (0 : Int32) else (1 : Int32)) = (3, r) := by unfold f_L_layer; rw [e1]; rfl
    rw [eL, e2]
    exact lw_gen0 (thr_thr g 3) (hF _ _ _ _ _ _ _ _ (rel_thr 3 h))
theorem sl_1 {F : XS → WS → WS → RS → TS → MS → (Nat → Int64) → (Nat → UInt64) → Int32} (hF : FOk F) {x : XS} {w : WS} (v : WS) {r : RS} {t : TS} {g : MS} (fo : Nat → Int64) (fd : Nat → UInt64) (h : Rel x w r t g) (p1 : Int32) : f_law_1 F x w v r t g fo fd p1 = 1 := by
  unfold f_law_1 f_L_law_b301
  rcases (op_mud h p1) with ⟨x', w', val, G', e1, e2, ht, hr⟩ | ⟨e1, e2⟩ | ⟨e1, e2⟩
  · have eL : f_L_mud x w fo p1 = (0, x', w', vp_updL fo (0 : Int32).toNatClampNeg val.toInt64) := by unfold f_L_mud; rw [e1]; rfl
    rw [eL, e2]
    exact lw_gen ht (fun _ => updL0 fo val.toInt64) (hF _ _ _ _ _ _ _ _ hr)
  · have eL : f_L_mud x w fo p1 = (1, x, w, fo) := by unfold f_L_mud; rw [e1]; rfl
    rw [eL, e2]
    exact lw_gen (thr_thr g 1) (fun h => absurd h n1) (hF _ _ _ _ _ _ _ _ (rel_thr 1 h))
  · have eL : f_L_mud x w fo p1 = (2, x, w, fo) := by unfold f_L_mud; rw [e1]; rfl
    rw [eL, e2]
    exact lw_gen (thr_thr g 2) (fun h => absurd h n2) (hF _ _ _ _ _ _ _ _ (rel_thr 2 h))
theorem sl_2 {N : Nat} (hN : 4000 < N) {F : XS → WS → WS → RS → TS → MS → (Nat → Int64) → (Nat → UInt64) → Int32} (hF : FOk F) {x : XS} {w : WS} (v : WS) {r : RS} {t : TS} {g : MS} (fo : Nat → Int64) (fd : Nat → UInt64) (h : Rel x w r t g) (p1 : Int32) : f_law_2 N F x w v r t g fo fd p1 = 1 := by
  unfold f_law_2 f_L_law_b357
  rcases (op_drill hN h p1).2 with ⟨w', val, G', e1, e2, ht, hr⟩ | ⟨e1, e2⟩ | ⟨e1, e2⟩
  · have eL : f_L_drill N x w r t fo p1 = (0, w', vp_updL fo (0 : Int32).toNatClampNeg val.toInt64) := by unfold f_L_drill; rw [e1]; rfl
    rw [eL, e2]
    exact lw_gen ht (fun _ => updL0 fo val.toInt64) (hF _ _ _ _ _ _ _ _ hr)
  · have eL : f_L_drill N x w r t fo p1 = (1, w, fo) := by unfold f_L_drill; rw [e1]; rfl
    rw [eL, e2]
    exact lw_gen (thr_thr g 1) (fun h => absurd h n1) (hF _ _ _ _ _ _ _ _ (rel_thr 1 h))
  · have eL : f_L_drill N x w r t fo p1 = (2, w, fo) := by unfold f_L_drill; rw [e1]; rfl
    rw [eL, e2]
    exact lw_gen (thr_thr g 2) (fun h => absurd h n2) (hF _ _ _ _ _ _ _ _ (rel_thr 2 h))
theorem sl_3 {N : Nat} (hN : 4000 < N) {F : XS → WS → WS → RS → TS → MS → (Nat → Int64) → (Nat → UInt64) → Int32} (hF : FOk F) {x : XS} {w : WS} (v : WS) {r : RS} {t : TS} {g : MS} (fo : Nat → Int64) (fd : Nat → UInt64) (h : Rel x w r t g) (p1 : Int32) : f_law_3 N F x w v r t g fo fd p1 = 1 := by
  unfold f_law_3 f_L_law_b413
  rcases (op_pass hN h p1).2 with ⟨w', val, G', e1, e2, ht, hr⟩ | ⟨e1, e2⟩ | ⟨e1, e2⟩
  · have eL : f_L_pass N w r fo p1 = (0, w', vp_updL fo (0 : Int32).toNatClampNeg val.toInt64) := by unfold f_L_pass; rw [e1]; rfl
    rw [eL, e2]
    exact lw_gen ht (fun _ => updL0 fo val.toInt64) (hF _ _ _ _ _ _ _ _ hr)
  · have eL : f_L_pass N w r fo p1 = (1, w, fo) := by unfold f_L_pass; rw [e1]; rfl
    rw [eL, e2]
    exact lw_gen (thr_thr g 1) (fun h => absurd h n1) (hF _ _ _ _ _ _ _ _ (rel_thr 1 h))
  · have eL : f_L_pass N w r fo p1 = (2, w, fo) := by unfold f_L_pass; rw [e1]; rfl
    rw [eL, e2]
    exact lw_gen (thr_thr g 2) (fun h => absurd h n2) (hF _ _ _ _ _ _ _ _ (rel_thr 2 h))
theorem sl_4 {F : XS → WS → WS → RS → TS → MS → (Nat → Int64) → (Nat → UInt64) → Int32} (hF : FOk F) {x : XS} {w : WS} (v : WS) {r : RS} {t : TS} {g : MS} (fo : Nat → Int64) (fd : Nat → UInt64) (h : Rel x w r t g) : f_law_4 F x w v r t g fo fd = 1 := by
  unfold f_law_4
  rcases (op_close h) with ⟨w', G', e1, e2, ht, hr⟩ | ⟨e1, e2⟩
  · have eL : f_L_close w = (0, w') := by unfold f_L_close; rw [e1]; rfl
    rw [eL, e2]
    exact lw_gen0 ht (hF _ _ _ _ _ _ _ _ hr)
  · have eL : f_L_close w = (1, w) := by unfold f_L_close; rw [e1]; rfl
    rw [eL, e2]
    exact lw_gen0 (thr_thr g 1) (hF _ _ _ _ _ _ _ _ (rel_thr 1 h))
theorem sl_5 {F : XS → WS → WS → RS → TS → MS → (Nat → Int64) → (Nat → UInt64) → Int32} (hF : FOk F) {x : XS} {w : WS} (v : WS) {r : RS} {t : TS} {g : MS} (fo : Nat → Int64) (fd : Nat → UInt64) (h : Rel x w r t g) : f_law_5 F x w v r t g fo fd = 1 := by
  unfold f_law_5 f_L_law_b481
  rcases (op_open h) with ⟨w', val, G', e1, e2, ht, hr⟩ | ⟨e1, e2⟩
  · have eL : f_L_open w fo = (0, w', vp_updL fo (0 : Int32).toNatClampNeg val.toInt64) := by unfold f_L_open; rw [e1]; rfl
    rw [eL, e2]
    exact lw_gen ht (fun _ => updL0 fo val.toInt64) (hF _ _ _ _ _ _ _ _ hr)
  · have eL : f_L_open w fo = (1, w, fo) := by unfold f_L_open; rw [e1]; rfl
    rw [eL, e2]
    exact lw_gen (thr_thr g 1) (fun h => absurd h n1) (hF _ _ _ _ _ _ _ _ (rel_thr 1 h))
theorem sl_6 {N : Nat} (hN : 4000 < N) {F : XS → WS → WS → RS → TS → MS → (Nat → Int64) → (Nat → UInt64) → Int32} (hF : FOk F) {x : XS} {w : WS} (v : WS) {r : RS} {t : TS} {g : MS} (fo : Nat → Int64) (fd : Nat → UInt64) (h : Rel x w r t g) (p1 p2 : Int32) : f_law_6 N F x w v r t g fo fd p1 p2 = 1 := by
  unfold f_law_6 f_L_law_b549
  rcases (op_pump hN h p1 p2).2 with ⟨x', w', val, G', e1, e2, ht, hr⟩ | ⟨e1, e2⟩ | ⟨e1, e2⟩
  · have eL : f_L_pump N x w r fo p1 p2 = (0, x', w', vp_updL fo (0 : Int32).toNatClampNeg val.toInt64) := by unfold f_L_pump; rw [e1]; rfl
    rw [eL, e2]
    exact lw_gen ht (fun _ => updL0 fo val.toInt64) (hF _ _ _ _ _ _ _ _ hr)
  · have eL : f_L_pump N x w r fo p1 p2 = (1, x, w, fo) := by unfold f_L_pump; rw [e1]; rfl
    rw [eL, e2]
    exact lw_gen (thr_thr g 1) (fun h => absurd h n1) (hF _ _ _ _ _ _ _ _ (rel_thr 1 h))
  · have eL : f_L_pump N x w r fo p1 p2 = (2, x, w, fo) := by unfold f_L_pump; rw [e1]; rfl
    rw [eL, e2]
    exact lw_gen (thr_thr g 2) (fun h => absurd h n2) (hF _ _ _ _ _ _ _ _ (rel_thr 2 h))
theorem sl_7 {F : XS → WS → WS → RS → TS → MS → (Nat → Int64) → (Nat → UInt64) → Int32} (hF : FOk F) {x : XS} {w : WS} (v : WS) {r : RS} {t : TS} {g : MS} (fo : Nat → Int64) (fd : Nat → UInt64) (h : Rel x w r t g) (p1 : Int32) : f_law_7 F x w v r t g fo fd p1 = 1 := by
  unfold f_law_7 f_L_law_b605
  rcases (op_casing h p1).2 with ⟨x', w', t', val, G', e1, e2, ht, hr⟩ | ⟨e1, e2⟩ | ⟨e1, e2⟩
  · have eL : f_L_casing x w t fo p1 = (0, x', w', t', vp_updL fo (0 : Int32).toNatClampNeg val.toInt64) := by unfold f_L_casing; rw [e1]; rfl
    rw [eL, e2]
    exact lw_gen ht (fun _ => updL0 fo val.toInt64) (hF _ _ _ _ _ _ _ _ hr)
  · have eL : f_L_casing x w t fo p1 = (1, x, w, t, fo) := by unfold f_L_casing; rw [e1]; rfl
    rw [eL, e2]
    exact lw_gen (thr_thr g 1) (fun h => absurd h n1) (hF _ _ _ _ _ _ _ _ (rel_thr 1 h))
  · have eL : f_L_casing x w t fo p1 = (2, x, w, t, fo) := by unfold f_L_casing; rw [e1]; rfl
    rw [eL, e2]
    exact lw_gen (thr_thr g 2) (fun h => absurd h n2) (hF _ _ _ _ _ _ _ _ (rel_thr 2 h))
theorem sl_8 {F : XS → WS → WS → RS → TS → MS → (Nat → Int64) → (Nat → UInt64) → Int32} (hF : FOk F) {x : XS} {w : WS} (v : WS) {r : RS} {t : TS} {g : MS} (fo : Nat → Int64) (fd : Nat → UInt64) (h : Rel x w r t g) (p1 : Int32) : f_law_8 F x w v r t g fo fd p1 = 1 := by
  unfold f_law_8 f_L_law_b661
  rcases (op_strength h p1) with ⟨w', val, G', e1, e2, ht, hr⟩ | ⟨e1, e2⟩
  · have eL : f_L_strength w fo p1 = (0, w', vp_updL fo (0 : Int32).toNatClampNeg val.toInt64) := by unfold f_L_strength; rw [e1]; rfl
    rw [eL, e2]
    exact lw_gen ht (fun _ => updL0 fo val.toInt64) (hF _ _ _ _ _ _ _ _ hr)
  · have eL : f_L_strength w fo p1 = (1, w, fo) := by unfold f_L_strength; rw [e1]; rfl
    rw [eL, e2]
    exact lw_gen (thr_thr g 1) (fun h => absurd h n1) (hF _ _ _ _ _ _ _ _ (rel_thr 1 h))
theorem sl_9 {F : XS → WS → WS → RS → TS → MS → (Nat → Int64) → (Nat → UInt64) → Int32} (hF : FOk F) {x : XS} {w : WS} (v : WS) {r : RS} {t : TS} {g : MS} (fo : Nat → Int64) (fd : Nat → UInt64) (h : Rel x w r t g) (p1 p2 : Int32) : f_law_9 F x w v r t g fo fd p1 p2 = 1 := by
  unfold f_law_9 f_L_law_b736
  rcases (op_test h p1 p2).2 with ⟨w', t', val, G', hv, e1, e2, ht, hr⟩ | ⟨e1, e2⟩ | ⟨e1, e2⟩
  · have eL : f_L_test x w t fo p1 p2 = (0, w', t', vp_updL fo (0 : Int32).toNatClampNeg (if val = 0 then (0 : Int64) else 1)) := by
      unfold f_L_test
      rw [e1]
      rcases hv with hv | hv <;> subst hv <;> rfl
    rw [eL, e2]
    exact lw_gen ht (fun _ => updL0 fo (if val = 0 then (0 : Int64) else 1)) (hF _ _ _ _ _ _ _ _ hr)
  · have eL : f_L_test x w t fo p1 p2 = (1, w, t, fo) := by unfold f_L_test; rw [e1]; rfl
    rw [eL, e2]
    exact lw_gen (thr_thr g 1) (fun h => absurd h n1) (hF _ _ _ _ _ _ _ _ (rel_thr 1 h))
  · have eL : f_L_test x w t fo p1 p2 = (2, w, t, fo) := by unfold f_L_test; rw [e1]; rfl
    rw [eL, e2]
    exact lw_gen (thr_thr g 2) (fun h => absurd h n2) (hF _ _ _ _ _ _ _ _ (rel_thr 2 h))
theorem sl_10 {N : Nat} (hN : 4000 < N) {F : XS → WS → WS → RS → TS → MS → (Nat → Int64) → (Nat → UInt64) → Int32} (hF : FOk F) {x : XS} {w : WS} (v : WS) {r : RS} {t : TS} {g : MS} (fo : Nat → Int64) (fd : Nat → UInt64) (h : Rel x w r t g) (p1 p2 : Int32) : f_law_10 N F x w v r t g fo fd p1 p2 = 1 := by
  unfold f_law_10 f_L_law_b820
  rcases (op_stop hN h p1 (if p2 = 0 then (0 : Int32) else (1 : Int32)) (bz_if p2)).2 with ⟨x', val, G', e1, e2, ht, hr⟩ | ⟨e1, e2⟩
  · have eL : f_L_stop x fo p1 (if p2 = 0 then (0 : Int32) else (1 : Int32)) = (0, x', vp_updL fo (0 : Int32).toNatClampNeg val.toInt64) := by unfold f_L_stop; rw [e1]; rfl
    rw [eL, e2]
    exact lw_gen ht (fun _ => updL0 fo val.toInt64) (hF _ _ _ _ _ _ _ _ hr)
  · have eL : f_L_stop x fo p1 (if p2 = 0 then (0 : Int32) else (1 : Int32)) = (1, x, fo) := by unfold f_L_stop; rw [e1]; rfl
    rw [eL, e2]
    exact lw_gen (thr_thr g 1) (fun h => absurd h n1) (hF _ _ _ _ _ _ _ _ (rel_thr 1 h))
theorem sl_11 {F : XS → WS → WS → RS → TS → MS → (Nat → Int64) → (Nat → UInt64) → Int32} (hF : FOk F) {x : XS} {w : WS} (v : WS) {r : RS} {t : TS} {g : MS} (fo : Nat → Int64) (fd : Nat → UInt64) (h : Rel x w r t g) (p1 : Int32) : f_law_11 F x w v r t g fo fd p1 = 1 := by
  unfold f_law_11 f_L_law_b876
  rcases (op_pressure h p1).2 with ⟨val, e1, e2⟩ | ⟨e1, e2⟩
  · have eL : f_L_pressure w r fo p1 = (0, vp_updL fo (0 : Int32).toNatClampNeg val.toInt64) := by unfold f_L_pressure; rw [e1]; rfl
    rw [eL, e2]
    exact lw_gen (thr_thr g 0) (fun _ => updL0 fo val.toInt64) (hF _ _ _ _ _ _ _ _ (rel_thr 0 h))
  · have eL : f_L_pressure w r fo p1 = (1, fo) := by unfold f_L_pressure; rw [e1]; rfl
    rw [eL, e2]
    exact lw_gen (thr_thr g 1) (fun h => absurd h n1) (hF _ _ _ _ _ _ _ _ (rel_thr 1 h))
theorem sl_12 {F : XS → WS → WS → RS → TS → MS → (Nat → Int64) → (Nat → UInt64) → Int32} (hF : FOk F) {x : XS} {w : WS} (v : WS) {r : RS} {t : TS} {g : MS} (fo : Nat → Int64) (fd : Nat → UInt64) (h : Rel x w r t g) (p1 : Int32) : f_law_12 F x w v r t g fo fd p1 = 1 := by
  unfold f_law_12 f_L_law_b931
  rcases (op_of h p1) with ⟨val, e1, e2⟩ | ⟨e1, e2⟩
  · have eL : f_L_of x w fo p1 = (0, vp_updL fo (0 : Int32).toNatClampNeg val) := by unfold f_L_of; rw [e1]; rfl
    rw [eL, e2]
    exact lw_gen (thr_thr g 0) (fun _ => updL0 fo val) (hF _ _ _ _ _ _ _ _ (rel_thr 0 h))
  · have eL : f_L_of x w fo p1 = (1, fo) := by unfold f_L_of; rw [e1]; rfl
    rw [eL, e2]
    exact lw_gen (thr_thr g 1) (fun h => absurd h n1) (hF _ _ _ _ _ _ _ _ (rel_thr 1 h))
theorem sl_13 {N : Nat} (hN : 4000 < N) {F : XS → WS → WS → RS → TS → MS → (Nat → Int64) → (Nat → UInt64) → Int32} (hF : FOk F) {x : XS} {w : WS} (v : WS) {r : RS} {t : TS} {g : MS} (fo : Nat → Int64) (fd : Nat → UInt64) (h : Rel x w r t g) : f_law_13 N F x w v r t g fo fd = 1 := by
  unfold f_law_13
  rw [(op_barriers hN h).2]
  exact lw_gen0 rfl (hF _ _ _ _ _ _ _ _ (rel_thr 0 h))
theorem sl_14 {N : Nat} (hN : 4000 < N) {F : XS → WS → WS → RS → TS → MS → (Nat → Int64) → (Nat → UInt64) → Int32} (hF : FOk F) {x : XS} {w : WS} (v : WS) {r : RS} {t : TS} {g : MS} (fo : Nat → Int64) (fd : Nat → UInt64) (h : Rel x w r t g) : f_law_14 N F x w v r t g fo fd = 1 := by
  unfold f_law_14
  rw [(op_bars hN h).2]
  exact lw_gen0 rfl (hF _ _ _ _ _ _ _ _ (rel_thr 0 h))
theorem sl_15 {F : XS → WS → WS → RS → TS → MS → (Nat → Int64) → (Nat → UInt64) → Int32} (hF : FOk F) {x : XS} {w : WS} (v : WS) {r : RS} {t : TS} {g : MS} (fo : Nat → Int64) (fd : Nat → UInt64) (h : Rel x w r t g) (p1 p2 : Int32) : f_law_15 F x w v r t g fo fd p1 p2 = 1 := by
  unfold f_law_15 f_L_law_b1025
  rcases (op_ofTest h p1 p2).2 with ⟨val, e1, e2⟩ | ⟨e1, e2⟩ | ⟨e1, e2⟩
  · have eL : f_L_ofTest t fo p1 p2 = (0, vp_updL fo (0 : Int32).toNatClampNeg val.toInt64) := by unfold f_L_ofTest; rw [e1]; rfl
    rw [eL, e2]
    exact lw_gen (thr_thr g 0) (fun _ => updL0 fo val.toInt64) (hF _ _ _ _ _ _ _ _ (rel_thr 0 h))
  · have eL : f_L_ofTest t fo p1 p2 = (1, fo) := by unfold f_L_ofTest; rw [e1]; rfl
    rw [eL, e2]
    exact lw_gen (thr_thr g 1) (fun h => absurd h n1) (hF _ _ _ _ _ _ _ _ (rel_thr 1 h))
  · have eL : f_L_ofTest t fo p1 p2 = (2, fo) := by unfold f_L_ofTest; rw [e1]; rfl
    rw [eL, e2]
    exact lw_gen (thr_thr g 2) (fun h => absurd h n2) (hF _ _ _ _ _ _ _ _ (rel_thr 2 h))
theorem sl_16 {N : Nat} (hN : 4000 < N) {F : XS → WS → WS → RS → TS → MS → (Nat → Int64) → (Nat → UInt64) → Int32} (hF : FOk F) {x : XS} {w : WS} (v : WS) {r : RS} {t : TS} {g : MS} (fo : Nat → Int64) (fd : Nat → UInt64) (h : Rel x w r t g) : f_law_16 N F x w v r t g fo fd = 1 := by
  unfold f_law_16 f_L_law_b1069
  rcases (op_kill hN h).2 with ⟨val, e1, e2⟩ | ⟨e1, e2⟩
  · have eL : f_L_killWeight w r fo = (0, vp_updL fo (0 : Int32).toNatClampNeg val.toInt64) := by unfold f_L_killWeight; rw [e1]; rfl
    rw [eL, e2]
    exact lw_gen (thr_thr g 0) (fun _ => updL0 fo val.toInt64) (hF _ _ _ _ _ _ _ _ (rel_thr 0 h))
  · have eL : f_L_killWeight w r fo = (1, fo) := by unfold f_L_killWeight; rw [e1]; rfl
    rw [eL, e2]
    exact lw_gen (thr_thr g 1) (fun h => absurd h n1) (hF _ _ _ _ _ _ _ _ (rel_thr 1 h))
theorem sl_17 {N : Nat} (hN : 4000 < N) {F : XS → WS → WS → RS → TS → MS → (Nat → Int64) → (Nat → UInt64) → Int32} (hF : FOk F) {x : XS} {w : WS} (v : WS) {r : RS} {t : TS} {g : MS} (fo : Nat → Int64) (fd : Nat → UInt64) (h : Rel x w r t g) (p1 p2 p3 : Int32) : f_law_17 N F x w v r t g fo fd p1 p2 p3 = 1 := by
  unfold f_law_17 f_L_law_b1165
  rcases (op_window hN h p1 p2 (if p3 = 0 then (0 : Int32) else (1 : Int32))).2 with ⟨val, e1, e2⟩ | ⟨e1, e2⟩
  · have eL : f_L_window N r fo p1 p2 (if p3 = 0 then (0 : Int32) else (1 : Int32)) = (0, vp_updL fo (0 : Int32).toNatClampNeg val.toInt64) := by unfold f_L_window; rw [e1]; rfl
    rw [eL, e2]
    exact lw_gen (thr_thr g 0) (fun _ => updL0 fo val.toInt64) (hF _ _ _ _ _ _ _ _ (rel_thr 0 h))
  · have eL : f_L_window N r fo p1 p2 (if p3 = 0 then (0 : Int32) else (1 : Int32)) = (1, fo) := by unfold f_L_window; rw [e1]; rfl
    rw [eL, e2]
    exact lw_gen (thr_thr g 1) (fun h => absurd h n1) (hF _ _ _ _ _ _ _ _ (rel_thr 1 h))
theorem sl_18 {N : Nat} (hN : 4000 < N) {F : XS → WS → WS → RS → TS → MS → (Nat → Int64) → (Nat → UInt64) → Int32} (hF : FOk F) {x : XS} {w : WS} (v : WS) {r : RS} {t : TS} {g : MS} (fo : Nat → Int64) (fd : Nat → UInt64) (h : Rel x w r t g) (p1 : Int32) : f_law_18 N F x w v r t g fo fd p1 = 1 := by
  unfold f_law_18 f_L_law_b1221
  rcases (op_casings hN h p1).2 with ⟨val, e1, e2⟩ | ⟨e1, e2⟩
  · have eL : f_L_casings N r fo p1 = (0, vp_updL fo (0 : Int32).toNatClampNeg val.toInt64) := by unfold f_L_casings; rw [e1]; rfl
    rw [eL, e2]
    exact lw_gen (thr_thr g 0) (fun _ => updL0 fo val.toInt64) (hF _ _ _ _ _ _ _ _ (rel_thr 0 h))
  · have eL : f_L_casings N r fo p1 = (1, fo) := by unfold f_L_casings; rw [e1]; rfl
    rw [eL, e2]
    exact lw_gen (thr_thr g 1) (fun h => absurd h n1) (hF _ _ _ _ _ _ _ _ (rel_thr 1 h))
theorem sl_19 {N : Nat} (hN : 4000 < N) {F : XS → WS → WS → RS → TS → MS → (Nat → Int64) → (Nat → UInt64) → Int32} (hF : FOk F) {x : XS} {w : WS} (v : WS) {r : RS} {t : TS} {g : MS} (fo : Nat → Int64) (fd : Nat → UInt64) (h : Rel x w r t g) (p1 : Int32) : f_law_19 N F x w v r t g fo fd p1 = 1 := by
  unfold f_law_19 f_L_law_b1277
  rcases (op_casingsAnew hN h p1).2 with ⟨r', val, G', e1, e2, ht, hr⟩ | ⟨e1, e2⟩
  · have eL : f_L_casingsAnew N r fo p1 = (0, r', vp_updL fo (0 : Int32).toNatClampNeg val.toInt64) := by unfold f_L_casingsAnew; rw [e1]; rfl
    rw [eL, e2]
    exact lw_gen ht (fun _ => updL0 fo val.toInt64) (hF _ _ _ _ _ _ _ _ hr)
  · have eL : f_L_casingsAnew N r fo p1 = (1, r, fo) := by unfold f_L_casingsAnew; rw [e1]; rfl
    rw [eL, e2]
    exact lw_gen (thr_thr g 1) (fun h => absurd h n1) (hF _ _ _ _ _ _ _ _ (rel_thr 1 h))
theorem sl_20 {F : XS → WS → WS → RS → TS → MS → (Nat → Int64) → (Nat → UInt64) → Int32} (hF : FOk F) {x : XS} {w : WS} (v : WS) {r : RS} {t : TS} {g : MS} (fo : Nat → Int64) (fd : Nat → UInt64) (h : Rel x w r t g) : f_law_20 F x w v r t g fo fd = 1 ∧ ok_law_20 w g fd := by
  have ok := (op_equivalent h).1
  unfold f_law_20 f_L_law_b1343 ok_law_20
  rcases (op_equivalent h).2 with ⟨val, hv, e1, e2⟩ | ⟨e1, e2⟩
  · have eL : f_L_equivalent w fd = (0, vf_upd fd (0 : Int32).toNatClampNeg (FP.f2d val)) := by unfold f_L_equivalent; rw [e1]; rfl
    have h64 := f2d_n64 hv
    have okL : ok_L_equivalent w := by
      unfold ok_L_equivalent
      rw [e1]
      exact ⟨ok.1, fun _ => ⟨h64, trivial⟩⟩
    rw [eL, e2]
    refine ⟨?_, okL, ok.2, fun _ => ⟨fun _ => ⟨h64, trivial⟩, fun h2 => absurd rfl h2⟩, fun h2 => absurd rfl h2⟩
    refine lw_gen0 (thr_thr g 0) ?_
    rw [if_pos rfl]
    show (if Op.cmpValue (FP.dcmp (vf_upd fd (0 : Int32).toNatClampNeg (FP.f2d val) (0 : Int32).toNatClampNeg) (FP.f2d val)) CmpOp.l = 0 then _ else _) = (1 : Int32)
    rw [updF0, dcmp_eq_self h64]
    rw [if_pos (show Op.cmpValue (some Ordering.eq) CmpOp.l = 0 from rfl)]
    exact hF _ _ _ _ _ _ _ _ (rel_thr 0 h)
  · have eL : f_L_equivalent w fd = (1, fd) := by unfold f_L_equivalent; rw [e1]; rfl
    have okL : ok_L_equivalent w := by
      unfold ok_L_equivalent
      rw [e1]
      exact ⟨ok.1, fun h2 => absurd h2 (show ¬ (3 : Nat) = 0 by decide)⟩
    rw [eL, e2]
    refine ⟨?_, okL, ok.2, fun _ => ⟨fun h2 => absurd h2 n1, fun _ => trivial⟩, fun _ => trivial⟩
    refine lw_gen0 (thr_thr g 1) ?_
    rw [if_neg (show ¬ ((1 : Int32), fd).1 = 0 from n1)]
    exact hF _ _ _ _ _ _ _ _ (rel_thr 1 h)
theorem sl_21 {N : Nat} (hN : 4000 < N) {F : XS → WS → WS → RS → TS → MS → (Nat → Int64) → (Nat → UInt64) → Int32} (hF : FOk F) {x : XS} {w : WS} (v : WS) {r : RS} {t : TS} {g : MS} (fo : Nat → Int64) (fd : Nat → UInt64) (h : Rel x w r t g) (p1 : Int32) : f_law_21 N F x w v r t g fo fd p1 = 1 := by
  unfold f_law_21 f_L_law_b1399
  rcases (op_ahead hN v h p1).2 with ⟨v', val, G', e1, e2, ht, hr⟩ | ⟨e1, e2⟩
  · have eL : f_L_ahead N w v r fo p1 = (0, v', vp_updL fo (0 : Int32).toNatClampNeg val.toInt64) := by unfold f_L_ahead; rw [e1]; rfl
    rw [eL, e2]
    exact lw_gen ht (fun _ => updL0 fo val.toInt64) (hF _ _ _ _ _ _ _ _ hr)
  · have eL : f_L_ahead N w v r fo p1 = (1, v, fo) := by unfold f_L_ahead; rw [e1]; rfl
    rw [eL, e2]
    exact lw_gen (thr_thr g 1) (fun h => absurd h n1) (hF _ _ _ _ _ _ _ _ (rel_thr 1 h))
