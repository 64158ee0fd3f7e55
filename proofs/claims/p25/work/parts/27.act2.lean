def f_act_596 (N : Nat) (x : XS) (w : WS) (v : WS) (r : RS) (t : TS) (p0 : Int32) (p1 : Int32) (p2 : Int32) (p3 : Int32) (p4 : Int32) : Nat × Int32 × XS × WS × WS × RS × TS :=
  ((0 + (f_L_stop x (if p1 = 0 then f_L_low (p0 >>> ((3 : Int32) &&& 31)) (6 : Int32) else p3) (if (f_L_low (p0 >>> ((12 : Int32) &&& 31)) (6 : Int32)) = 0 then (1 : Int32) else (0 : Int32))).1), (f_L_stop x (if p1 = 0 then f_L_low (p0 >>> ((3 : Int32) &&& 31)) (6 : Int32) else p3) (if (f_L_low (p0 >>> ((12 : Int32) &&& 31)) (6 : Int32)) = 0 then (1 : Int32) else (0 : Int32))).2.1, ((f_L_stop x (if p1 = 0 then f_L_low (p0 >>> ((3 : Int32) &&& 31)) (6 : Int32) else p3) (if (f_L_low (p0 >>> ((12 : Int32) &&& 31)) (6 : Int32)) = 0 then (1 : Int32) else (0 : Int32))).2.2), w, v, r, t)

def ok_act_596 (N : Nat) (x : XS) (w : WS) (v : WS) (r : RS) (t : TS) (p0 : Int32) (p1 : Int32) (p2 : Int32) (p3 : Int32) (p4 : Int32) : Prop :=
  ((p1 = 0 → ((ok_L_low (p0 >>> ((3 : Int32) &&& 31)) (6 : Int32)) ∧ True)) ∧ (¬ p1 = 0 → True)) ∧ ((ok_L_low (p0 >>> ((12 : Int32) &&& 31)) (6 : Int32)) ∧ True)

set_option maxRecDepth 100000 in
set_option maxHeartbeats 8000000 in
theorem c_act_596 {p : Program} {l : Launch} {e : Env} {s : State} {m : MethodId} {args : Array Value} {below : List Frame} {meth : Method} {c : Code} {H : Heap} {locs : List Loc} {Q : State → Prop} {D : va_G} {q : Nat → ClassId} {A : Nat → Prop} {ls : Array Slot} (h aw av : Nat) (kr kt : Nat → Nat) (x : XS) (w : WS) (v : WS) (r : RS) (t : TS) (p0 p1 p2 p3 p4 : Int32) (N : Nat) (hstk : l.stackTraces = false) (fx : FX p s m args c RL cL_act 6 D q) (hSX : SX s) (hSZ0 : SZ A s s.heap) (hA : ∀ a, s.heap.size ≤ a → A a) (hD : ∀ (x : XS) (w : WS) (v : WS) (r : RS) (t : TS), va_D A (cKick h aw av kr kt q x w v r t)) (hok : ok_act_596 N x w v r t p0 p1 p2 p3 p4)
    (hret : ∀ (rv : Int32) (u : Nat × XS × WS × WS × RS × TS) (pc : Nat) (H : Heap) (locs : List Loc) (ls : Array Slot), decode cL_act pc = .ok (.ireturn, 1) → f_act_596 N x w v r t p0 p1 p2 p3 p4 = (u.1, rv, u.2) → va_P D vwCl (cKick h aw av kr kt q u.2.1 u.2.2.1 u.2.2.2.1 u.2.2.2.2.1 u.2.2.2.2.2) H → va_S A s.heap H locs → s.heap.size + u.1 ≤ H.size → W p l e RM_L_act s m args below meth c H locs 1 6 Q (F0 m pc ls [.int rv]))
    (hP : va_P D vwCl (cKick h aw av kr kt q x w v r t) H) (hS : va_S A s.heap H locs) (hg : s.heap.size + 0 ≤ H.size) (hl : lv_has ls 6 [(0, .ref h), (1, .int p0), (2, .int p1), (3, .int p2), (4, .int p3), (5, .int p4)]) : W p l e RM_L_act s m args below meth c H locs 0 0 Q (F0 m 596 ls []) := by
  have hx := fx.1
  have hb := fx.2.1
  have ht : f_act_596 N x w v r t p0 p1 p2 p3 p4 = f_act_596 N x w v r t p0 p1 p2 p3 p4 := rfl
  simp only [ok_act_596] at hok
  refine lv_aload_n hx hb dL_act_596 rfl (lv_at hl 0 rfl) ?_
  refine lv_iload_n hx hb dL_act_597 rfl (lv_at hl 2 rfl) ?_
  obtain ⟨hokA, hok⟩ := hok
  suffices K : ∀ (v5 : Int32), ∀ (H : Heap) (locs : List Loc) (ls : Array Slot), v5 = (if p1 = 0 then f_L_low (p0 >>> ((3 : Int32) &&& 31)) (6 : Int32) else p3) → va_P D vwCl (cKick h aw av kr kt q x w v r t) H → va_S A s.heap H locs → s.heap.size + 0 ≤ H.size → lv_has ls 6 [(0, .ref h), (1, .int p0)] → W p l e RM_L_act s m args below meth c H locs 0 0 Q (F0 m 614 ls [.int v5, .ref h]) by
    have hok := hokA
    refine lv_if_eq (tgt := 606) hx hb dL_act_598 (by decide) (fun c1 => ?_) (fun c1 => ?_)
    · have hok := hok.1 c1
      refine lv_iload_n hx hb dL_act_606 rfl (lv_at hl 1 rfl) ?_
      refine lv_iconst (v := 3) hx hb dL_act_607 (by decide) ?_
      refine lv_ishr hx hb dL_act_608 ?_
      refine lv_bipush (v := 6) hx hb dL_act_609 (by decide) ?_
      obtain ⟨hk2, hok⟩ := hok
      refine kRg_i (runS fx (As := [.int (p0 >>> ((3 : Int32) &&& 31)), .int (6 : Int32)]) (rest := [.ref h]) (c_L_low l D q H.size (p0 >>> ((3 : Int32) &&& 31)) (6 : Int32) hk2) lk_L_89 ⟨Nat.le_of_ble_eq_true rfl, Nat.le_of_ble_eq_true rfl⟩ ⟨rfl, rfl⟩ hP (hD _ _ _ _ _) [] rfl rfl rfl hl.1 rfl (Nat.le_of_ble_eq_true rfl) dL_act_611 ⟨Nat.zero_le _, Nat.zero_le _⟩) hP hS hg (fun r3 _ H locs hr4 hP hS hg => ?_)
      subst hr4
      exact K (f_L_low (p0 >>> ((3 : Int32) &&& 31)) (6 : Int32)) H locs ls (by simp only [if_pos c1]) hP hS hg (lv_sub hl [0, 1] rfl)
    · have hok := hok.2 c1
      refine lv_iload hx hb dL_act_601 (lv_at hl 4 rfl) ?_
      refine lv_goto (tgt := 614) hx hb dL_act_603 (by decide) ?_
      exact K p3 H locs ls (by simp only [if_neg c1]) hP hS hg (lv_sub hl [0, 1] rfl)
  intro v5 H locs ls hvv5 hP hS hg hl
  subst hvv5
  refine lv_iload_n hx hb dL_act_614 rfl (lv_at hl 1 rfl) ?_
  refine lv_bipush (v := 12) hx hb dL_act_615 (by decide) ?_
  refine lv_ishr hx hb dL_act_617 ?_
  refine lv_bipush (v := 6) hx hb dL_act_618 (by decide) ?_
  obtain ⟨hk6, hok⟩ := hok
  refine kRg_i (runS fx (As := [.int (p0 >>> ((12 : Int32) &&& 31)), .int (6 : Int32)]) (rest := [.int (if p1 = 0 then f_L_low (p0 >>> ((3 : Int32) &&& 31)) (6 : Int32) else p3), .ref h]) (c_L_low l D q H.size (p0 >>> ((12 : Int32) &&& 31)) (6 : Int32) hk6) lk_L_89 ⟨Nat.le_of_ble_eq_true rfl, Nat.le_of_ble_eq_true rfl⟩ ⟨rfl, rfl⟩ hP (hD _ _ _ _ _) [] rfl rfl rfl hl.1 rfl (Nat.le_of_ble_eq_true rfl) dL_act_620 ⟨Nat.zero_le _, Nat.zero_le _⟩) hP hS hg (fun r7 _ H locs hr8 hP hS hg => ?_)
  subst hr8
  suffices K : ∀ (v10 : Int32), ∀ (H : Heap) (locs : List Loc) (ls : Array Slot), v10 = (if (f_L_low (p0 >>> ((12 : Int32) &&& 31)) (6 : Int32)) = 0 then (1 : Int32) else (0 : Int32)) → va_P D vwCl (cKick h aw av kr kt q x w v r t) H → va_S A s.heap H locs → s.heap.size + 0 ≤ H.size → lv_has ls 6 [(0, .ref h)] → W p l e RM_L_act s m args below meth c H locs 0 0 Q (F0 m 631 ls [.int v10, .int (if p1 = 0 then f_L_low (p0 >>> ((3 : Int32) &&& 31)) (6 : Int32) else p3), .ref h]) by
    refine lv_if_ne (tgt := 630) hx hb dL_act_623 (by decide) (fun c9 => ?_) (fun c9 => ?_)
    · refine lv_iconst (v := 0) hx hb dL_act_630 (by decide) ?_
      exact K (0 : Int32) H locs ls (by simp only [if_neg c9]) hP hS hg (lv_sub hl [0] rfl)
    · refine lv_iconst (v := 1) hx hb dL_act_626 (by decide) ?_
      refine lv_goto (tgt := 631) hx hb dL_act_627 (by decide) ?_
      exact K (1 : Int32) H locs ls (by simp only [if_pos c9]) hP hS hg (lv_sub hl [0] rfl)
  intro v10 H locs ls hvv10 hP hS hg hl
  subst hvv10
  refine kWg_i (C := fun (u9 : XS) => cKick h aw av kr kt q u9 w v r t) (wrun fx hSX (SZ.kept hSZ0 hS.2.1) (As := [.ref h, .int (if p1 = 0 then f_L_low (p0 >>> ((3 : Int32) &&& 31)) (6 : Int32) else p3), .int (if (f_L_low (p0 >>> ((12 : Int32) &&& 31)) (6 : Int32)) = 0 then (1 : Int32) else (0 : Int32))]) (rest := []) (c_L_stop l D q H.size h aw av kr kt x w v r t (if p1 = 0 then f_L_low (p0 >>> ((3 : Int32) &&& 31)) (6 : Int32) else p3) (if (f_L_low (p0 >>> ((12 : Int32) &&& 31)) (6 : Int32)) = 0 then (1 : Int32) else (0 : Int32)) hstk) lk_L_121 ⟨Nat.le_of_ble_eq_true rfl, Nat.le_of_ble_eq_true rfl⟩ ⟨rfl, rfl⟩ hP (hD _ _ _ _ _) hS hA [0, 1, 2, 3, 4, 5, 6, 7, 8, 9, 10, 11, 12, 13] rfl rfl rfl hl.1 rfl (Nat.le_of_ble_eq_true rfl) dL_act_631 ⟨Nat.le_of_ble_eq_true rfl, Nat.le_of_ble_eq_true rfl⟩) hP (hD _ _ _ _ _) hS hA hg [0, 1, 2, 3, 4, 5, 6, 7, 8, 9, 10, 11, 12, 13] rfl (fun _ => rfl) (fun r13 n14 u11 H locs hw12 hP hS hg => ?_)
  have hP : va_P D vwCl (cKick h aw av kr kt q u11 w v r t) H := hP
  have hw12 : (f_L_stop x (if p1 = 0 then f_L_low (p0 >>> ((3 : Int32) &&& 31)) (6 : Int32) else p3) (if (f_L_low (p0 >>> ((12 : Int32) &&& 31)) (6 : Int32)) = 0 then (1 : Int32) else (0 : Int32))) = (n14, r13, u11) := hw12
  try simp only [hw12] at hok
  exact hret r13 ((0 + n14), (u11, w, v, r, t)) _ _ _ _ dL_act_634 (ht.trans (by simp only [f_act_596, hw12])) hP hS hg

def f_act_635 (N : Nat) (x : XS) (w : WS) (v : WS) (r : RS) (t : TS) (p0 : Int32) (p1 : Int32) (p2 : Int32) (p3 : Int32) (p4 : Int32) : Nat × Int32 × XS × WS × WS × RS × TS :=
  ((0 + (f_L_pressure w r (if p1 = 0 then f_L_low (p0 >>> ((9 : Int32) &&& 31)) (6 : Int32) else p2)).1), (f_L_pressure w r (if p1 = 0 then f_L_low (p0 >>> ((9 : Int32) &&& 31)) (6 : Int32) else p2)).2, x, w, v, r, t)

def ok_act_635 (N : Nat) (x : XS) (w : WS) (v : WS) (r : RS) (t : TS) (p0 : Int32) (p1 : Int32) (p2 : Int32) (p3 : Int32) (p4 : Int32) : Prop :=
  ((p1 = 0 → ((ok_L_low (p0 >>> ((9 : Int32) &&& 31)) (6 : Int32)) ∧ True)) ∧ (¬ p1 = 0 → True)) ∧ True

set_option maxRecDepth 100000 in
set_option maxHeartbeats 8000000 in
theorem c_act_635 {p : Program} {l : Launch} {e : Env} {s : State} {m : MethodId} {args : Array Value} {below : List Frame} {meth : Method} {c : Code} {H : Heap} {locs : List Loc} {Q : State → Prop} {D : va_G} {q : Nat → ClassId} {A : Nat → Prop} {ls : Array Slot} (h aw av : Nat) (kr kt : Nat → Nat) (x : XS) (w : WS) (v : WS) (r : RS) (t : TS) (p0 p1 p2 p3 p4 : Int32) (N : Nat) (hstk : l.stackTraces = false) (fx : FX p s m args c RL cL_act 6 D q) (hSX : SX s) (hSZ0 : SZ A s s.heap) (hA : ∀ a, s.heap.size ≤ a → A a) (hD : ∀ (x : XS) (w : WS) (v : WS) (r : RS) (t : TS), va_D A (cKick h aw av kr kt q x w v r t)) (hok : ok_act_635 N x w v r t p0 p1 p2 p3 p4)
    (hret : ∀ (rv : Int32) (u : Nat × XS × WS × WS × RS × TS) (pc : Nat) (H : Heap) (locs : List Loc) (ls : Array Slot), decode cL_act pc = .ok (.ireturn, 1) → f_act_635 N x w v r t p0 p1 p2 p3 p4 = (u.1, rv, u.2) → va_P D vwCl (cKick h aw av kr kt q u.2.1 u.2.2.1 u.2.2.2.1 u.2.2.2.2.1 u.2.2.2.2.2) H → va_S A s.heap H locs → s.heap.size + u.1 ≤ H.size → W p l e RM_L_act s m args below meth c H locs 1 6 Q (F0 m pc ls [.int rv]))
    (hP : va_P D vwCl (cKick h aw av kr kt q x w v r t) H) (hS : va_S A s.heap H locs) (hg : s.heap.size + 0 ≤ H.size) (hl : lv_has ls 6 [(0, .ref h), (1, .int p0), (2, .int p1), (3, .int p2), (4, .int p3), (5, .int p4)]) : W p l e RM_L_act s m args below meth c H locs 0 0 Q (F0 m 635 ls []) := by
  have hx := fx.1
  have hb := fx.2.1
  have ht : f_act_635 N x w v r t p0 p1 p2 p3 p4 = f_act_635 N x w v r t p0 p1 p2 p3 p4 := rfl
  simp only [ok_act_635] at hok
  refine lv_aload_n hx hb dL_act_635 rfl (lv_at hl 0 rfl) ?_
  refine lv_iload_n hx hb dL_act_636 rfl (lv_at hl 2 rfl) ?_
  obtain ⟨hokA, hok⟩ := hok
  suffices K : ∀ (v5 : Int32), ∀ (H : Heap) (locs : List Loc) (ls : Array Slot), v5 = (if p1 = 0 then f_L_low (p0 >>> ((9 : Int32) &&& 31)) (6 : Int32) else p2) → va_P D vwCl (cKick h aw av kr kt q x w v r t) H → va_S A s.heap H locs → s.heap.size + 0 ≤ H.size → lv_has ls 6 [(0, .ref h)] → W p l e RM_L_act s m args below meth c H locs 0 0 Q (F0 m 653 ls [.int v5, .ref h]) by
    have hok := hokA
    refine lv_if_eq (tgt := 644) hx hb dL_act_637 (by decide) (fun c1 => ?_) (fun c1 => ?_)
    · have hok := hok.1 c1
      refine lv_iload_n hx hb dL_act_644 rfl (lv_at hl 1 rfl) ?_
      refine lv_bipush (v := 9) hx hb dL_act_645 (by decide) ?_
      refine lv_ishr hx hb dL_act_647 ?_
      refine lv_bipush (v := 6) hx hb dL_act_648 (by decide) ?_
      obtain ⟨hk2, hok⟩ := hok
      refine kRg_i (runS fx (As := [.int (p0 >>> ((9 : Int32) &&& 31)), .int (6 : Int32)]) (rest := [.ref h]) (c_L_low l D q H.size (p0 >>> ((9 : Int32) &&& 31)) (6 : Int32) hk2) lk_L_89 ⟨Nat.le_of_ble_eq_true rfl, Nat.le_of_ble_eq_true rfl⟩ ⟨rfl, rfl⟩ hP (hD _ _ _ _ _) [] rfl rfl rfl hl.1 rfl (Nat.le_of_ble_eq_true rfl) dL_act_650 ⟨Nat.zero_le _, Nat.zero_le _⟩) hP hS hg (fun r3 _ H locs hr4 hP hS hg => ?_)
      subst hr4
      exact K (f_L_low (p0 >>> ((9 : Int32) &&& 31)) (6 : Int32)) H locs ls (by simp only [if_pos c1]) hP hS hg (lv_sub hl [0] rfl)
    · have hok := hok.2 c1
      refine lv_iload_n hx hb dL_act_640 rfl (lv_at hl 3 rfl) ?_
      refine lv_goto (tgt := 653) hx hb dL_act_641 (by decide) ?_
      exact K p2 H locs ls (by simp only [if_neg c1]) hP hS hg (lv_sub hl [0] rfl)
  intro v5 H locs ls hvv5 hP hS hg hl
  subst hvv5
  refine kWg_i (C := fun (_ : Unit) => cKick h aw av kr kt q x w v r t) (wrun fx hSX (SZ.kept hSZ0 hS.2.1) (As := [.ref h, .int (if p1 = 0 then f_L_low (p0 >>> ((9 : Int32) &&& 31)) (6 : Int32) else p2)]) (rest := []) (c_L_pressure l D q H.size h aw av kr kt x w v r t (if p1 = 0 then f_L_low (p0 >>> ((9 : Int32) &&& 31)) (6 : Int32) else p2) hstk) lk_L_124 ⟨Nat.le_of_ble_eq_true rfl, Nat.le_of_ble_eq_true rfl⟩ ⟨rfl, rfl⟩ hP (hD _ _ _ _ _) hS hA [0, 1, 2, 3, 4, 5, 6, 7, 8, 9, 10, 11, 12, 13] rfl rfl rfl hl.1 rfl (Nat.le_of_ble_eq_true rfl) dL_act_653 ⟨Nat.le_of_ble_eq_true rfl, Nat.le_of_ble_eq_true rfl⟩) hP (hD _ _ _ _ _) hS hA hg [0, 1, 2, 3, 4, 5, 6, 7, 8, 9, 10, 11, 12, 13] rfl (fun _ => rfl) (fun r8 n9 _ H locs hw7 hP hS hg => ?_)
  have hP : va_P D vwCl (cKick h aw av kr kt q x w v r t) H := hP
  have hw7 : (f_L_pressure w r (if p1 = 0 then f_L_low (p0 >>> ((9 : Int32) &&& 31)) (6 : Int32) else p2)) = (n9, r8) := hw7
  try simp only [hw7] at hok
  exact hret r8 ((0 + n9), (x, w, v, r, t)) _ _ _ _ dL_act_656 (ht.trans (by simp only [f_act_635, hw7])) hP hS hg

def f_act_657 (N : Nat) (x : XS) (w : WS) (v : WS) (r : RS) (t : TS) (p0 : Int32) (p1 : Int32) (p2 : Int32) (p3 : Int32) (p4 : Int32) : Nat × Int32 × XS × WS × WS × RS × TS :=
  ((0 + (f_L_of x w (if p1 = 0 then f_L_low (p0 >>> ((9 : Int32) &&& 31)) (12 : Int32) else p2)).1), ((f_L_of x w (if p1 = 0 then f_L_low (p0 >>> ((9 : Int32) &&& 31)) (12 : Int32) else p2)).2 - (f_L_of x w (if p1 = 0 then f_L_low (p0 >>> ((9 : Int32) &&& 31)) (12 : Int32) else p2)).2 / (1000000 : Int64) * (1000000 : Int64)).toInt32, x, w, v, r, t)

def ok_act_657 (N : Nat) (x : XS) (w : WS) (v : WS) (r : RS) (t : TS) (p0 : Int32) (p1 : Int32) (p2 : Int32) (p3 : Int32) (p4 : Int32) : Prop :=
  ((p1 = 0 → ((ok_L_low (p0 >>> ((9 : Int32) &&& 31)) (12 : Int32)) ∧ True)) ∧ (¬ p1 = 0 → True)) ∧ True

set_option maxRecDepth 100000 in
set_option maxHeartbeats 8000000 in
theorem c_act_657 {p : Program} {l : Launch} {e : Env} {s : State} {m : MethodId} {args : Array Value} {below : List Frame} {meth : Method} {c : Code} {H : Heap} {locs : List Loc} {Q : State → Prop} {D : va_G} {q : Nat → ClassId} {A : Nat → Prop} {ls : Array Slot} (h aw av : Nat) (kr kt : Nat → Nat) (x : XS) (w : WS) (v : WS) (r : RS) (t : TS) (p0 p1 p2 p3 p4 : Int32) (N : Nat) (hstk : l.stackTraces = false) (fx : FX p s m args c RL cL_act 6 D q) (hSX : SX s) (hSZ0 : SZ A s s.heap) (hA : ∀ a, s.heap.size ≤ a → A a) (hD : ∀ (x : XS) (w : WS) (v : WS) (r : RS) (t : TS), va_D A (cKick h aw av kr kt q x w v r t)) (hok : ok_act_657 N x w v r t p0 p1 p2 p3 p4)
    (hret : ∀ (rv : Int32) (u : Nat × XS × WS × WS × RS × TS) (pc : Nat) (H : Heap) (locs : List Loc) (ls : Array Slot), decode cL_act pc = .ok (.ireturn, 1) → f_act_657 N x w v r t p0 p1 p2 p3 p4 = (u.1, rv, u.2) → va_P D vwCl (cKick h aw av kr kt q u.2.1 u.2.2.1 u.2.2.2.1 u.2.2.2.2.1 u.2.2.2.2.2) H → va_S A s.heap H locs → s.heap.size + u.1 ≤ H.size → W p l e RM_L_act s m args below meth c H locs 1 6 Q (F0 m pc ls [.int rv]))
    (hP : va_P D vwCl (cKick h aw av kr kt q x w v r t) H) (hS : va_S A s.heap H locs) (hg : s.heap.size + 0 ≤ H.size) (hl : lv_has ls 6 [(0, .ref h), (1, .int p0), (2, .int p1), (3, .int p2), (4, .int p3), (5, .int p4)]) : W p l e RM_L_act s m args below meth c H locs 0 0 Q (F0 m 657 ls []) := by
  have hx := fx.1
  have hb := fx.2.1
  have ht : f_act_657 N x w v r t p0 p1 p2 p3 p4 = f_act_657 N x w v r t p0 p1 p2 p3 p4 := rfl
  simp only [ok_act_657] at hok
  refine lv_aload_n hx hb dL_act_657 rfl (lv_at hl 0 rfl) ?_
  refine lv_iload_n hx hb dL_act_658 rfl (lv_at hl 2 rfl) ?_
  obtain ⟨hokA, hok⟩ := hok
  suffices K : ∀ (v5 : Int32), ∀ (H : Heap) (locs : List Loc) (ls : Array Slot), v5 = (if p1 = 0 then f_L_low (p0 >>> ((9 : Int32) &&& 31)) (12 : Int32) else p2) → va_P D vwCl (cKick h aw av kr kt q x w v r t) H → va_S A s.heap H locs → s.heap.size + 0 ≤ H.size → lv_has ls 6 [(0, .ref h)] → W p l e RM_L_act s m args below meth c H locs 0 0 Q (F0 m 675 ls [.int v5, .ref h]) by
    have hok := hokA
    refine lv_if_eq (tgt := 666) hx hb dL_act_659 (by decide) (fun c1 => ?_) (fun c1 => ?_)
    · have hok := hok.1 c1
      refine lv_iload_n hx hb dL_act_666 rfl (lv_at hl 1 rfl) ?_
      refine lv_bipush (v := 9) hx hb dL_act_667 (by decide) ?_
      refine lv_ishr hx hb dL_act_669 ?_
      refine lv_bipush (v := 12) hx hb dL_act_670 (by decide) ?_
      obtain ⟨hk2, hok⟩ := hok
      refine kRg_i (runS fx (As := [.int (p0 >>> ((9 : Int32) &&& 31)), .int (12 : Int32)]) (rest := [.ref h]) (c_L_low l D q H.size (p0 >>> ((9 : Int32) &&& 31)) (12 : Int32) hk2) lk_L_89 ⟨Nat.le_of_ble_eq_true rfl, Nat.le_of_ble_eq_true rfl⟩ ⟨rfl, rfl⟩ hP (hD _ _ _ _ _) [] rfl rfl rfl hl.1 rfl (Nat.le_of_ble_eq_true rfl) dL_act_672 ⟨Nat.zero_le _, Nat.zero_le _⟩) hP hS hg (fun r3 _ H locs hr4 hP hS hg => ?_)
      subst hr4
      exact K (f_L_low (p0 >>> ((9 : Int32) &&& 31)) (12 : Int32)) H locs ls (by simp only [if_pos c1]) hP hS hg (lv_sub hl [0] rfl)
    · have hok := hok.2 c1
      refine lv_iload_n hx hb dL_act_662 rfl (lv_at hl 3 rfl) ?_
      refine lv_goto (tgt := 675) hx hb dL_act_663 (by decide) ?_
      exact K p2 H locs ls (by simp only [if_neg c1]) hP hS hg (lv_sub hl [0] rfl)
  intro v5 H locs ls hvv5 hP hS hg hl
  subst hvv5
  refine kWg_l (C := fun (_ : Unit) => cKick h aw av kr kt q x w v r t) (wrun fx hSX (SZ.kept hSZ0 hS.2.1) (As := [.ref h, .int (if p1 = 0 then f_L_low (p0 >>> ((9 : Int32) &&& 31)) (12 : Int32) else p2)]) (rest := []) (c_L_of l D q H.size h aw av kr kt x w v r t (if p1 = 0 then f_L_low (p0 >>> ((9 : Int32) &&& 31)) (12 : Int32) else p2) hstk) lk_L_126 ⟨Nat.le_of_ble_eq_true rfl, Nat.le_of_ble_eq_true rfl⟩ ⟨rfl, rfl⟩ hP (hD _ _ _ _ _) hS hA [0, 1, 2, 3, 4, 5, 6, 7, 8, 9, 10, 11, 12, 13] rfl rfl rfl hl.1 rfl (Nat.le_of_ble_eq_true rfl) dL_act_675 ⟨Nat.le_of_ble_eq_true rfl, Nat.le_of_ble_eq_true rfl⟩) hP (hD _ _ _ _ _) hS hA hg [0, 1, 2, 3, 4, 5, 6, 7, 8, 9, 10, 11, 12, 13] rfl (fun _ => rfl) (fun r8 n9 _ H locs hw7 hP hS hg => ?_)
  have hP : va_P D vwCl (cKick h aw av kr kt q x w v r t) H := hP
  have hw7 : (f_L_of x w (if p1 = 0 then f_L_low (p0 >>> ((9 : Int32) &&& 31)) (12 : Int32) else p2)) = (n9, r8) := hw7
  try simp only [hw7] at hok
  refine lv_ldc2 hx hb fx.2.2.2.1 (fx.2.2.2.2.1 _ mn_151) dL_act_678 ?_
  refine lv_lrem hx hb dL_act_681 (by decide) ?_
  refine lv_l2i (v := (r8 - r8 / (1000000 : Int64) * (1000000 : Int64)).toInt32) hx hb dL_act_682 rfl ?_
  exact hret ((r8 - r8 / (1000000 : Int64) * (1000000 : Int64)).toInt32) ((0 + n9), (x, w, v, r, t)) _ _ _ _ dL_act_683 (ht.trans (by simp only [f_act_657, hw7])) hP hS hg

def f_act_684 (N : Nat) (x : XS) (w : WS) (v : WS) (r : RS) (t : TS) (p0 : Int32) (p1 : Int32) (p2 : Int32) (p3 : Int32) (p4 : Int32) : Nat × Int32 × XS × WS × WS × RS × TS :=
  (0, f_X3_barriers w r t, x, w, v, r, t)

set_option maxRecDepth 100000 in
set_option maxHeartbeats 8000000 in
theorem c_act_684 {p : Program} {l : Launch} {e : Env} {s : State} {m : MethodId} {args : Array Value} {below : List Frame} {meth : Method} {c : Code} {H : Heap} {locs : List Loc} {Q : State → Prop} {D : va_G} {q : Nat → ClassId} {A : Nat → Prop} {ls : Array Slot} (h aw av : Nat) (kr kt : Nat → Nat) (x : XS) (w : WS) (v : WS) (r : RS) (t : TS) (p0 p1 p2 p3 p4 : Int32) (N : Nat) (hstk : l.stackTraces = false) (fx : FX p s m args c RL cL_act 6 D q) (hSX : SX s) (hSZ0 : SZ A s s.heap) (hA : ∀ a, s.heap.size ≤ a → A a) (hD : ∀ (x : XS) (w : WS) (v : WS) (r : RS) (t : TS), va_D A (cKick h aw av kr kt q x w v r t))
    (hret : ∀ (rv : Int32) (u : Nat × XS × WS × WS × RS × TS) (pc : Nat) (H : Heap) (locs : List Loc) (ls : Array Slot), decode cL_act pc = .ok (.ireturn, 1) → f_act_684 N x w v r t p0 p1 p2 p3 p4 = (u.1, rv, u.2) → va_P D vwCl (cKick h aw av kr kt q u.2.1 u.2.2.1 u.2.2.2.1 u.2.2.2.2.1 u.2.2.2.2.2) H → va_S A s.heap H locs → s.heap.size + u.1 ≤ H.size → W p l e RM_L_act s m args below meth c H locs 1 6 Q (F0 m pc ls [.int rv]))
    (hP : va_P D vwCl (cKick h aw av kr kt q x w v r t) H) (hS : va_S A s.heap H locs) (hg : s.heap.size + 0 ≤ H.size) (hl : lv_has ls 6 [(0, .ref h), (1, .int p0), (2, .int p1), (3, .int p2), (4, .int p3), (5, .int p4)]) : W p l e RM_L_act s m args below meth c H locs 0 0 Q (F0 m 684 ls []) := by
  have hx := fx.1
  have hb := fx.2.1
  have ht : f_act_684 N x w v r t p0 p1 p2 p3 p4 = f_act_684 N x w v r t p0 p1 p2 p3 p4 := rfl
  refine lv_aload_n hx hb dL_act_684 rfl (lv_at hl 0 rfl) ?_
  refine kRg_i (runV fx (As := []) (rest := []) (c_X3_barriers l D q H.size h aw av kr kt x w v r t) lk_L_131 ⟨Nat.le_of_ble_eq_true rfl, Nat.le_of_ble_eq_true rfl⟩ ⟨rfl, rfl⟩ hP (hD _ _ _ _ _) [0, 1, 2, 3, 4, 5, 6, 7, 8, 9, 10, 11, 12, 13] rfl rfl (ci := 3) rfl rfl rfl hl.1 rfl (Nat.le_of_ble_eq_true rfl) dL_act_685 ⟨Nat.zero_le _, Nat.zero_le _⟩) hP hS hg (fun r1 _ H locs hr2 hP hS hg => ?_)
  subst hr2
  refine W.widen (k := 1) (n := 6) (Nat.zero_le _) (Nat.zero_le _) ?_
  exact hret (f_X3_barriers w r t) (0, (x, w, v, r, t)) _ _ _ _ dL_act_688 (ht.trans (by simp only [f_act_684])) hP hS hg

def f_act_689 (N : Nat) (x : XS) (w : WS) (v : WS) (r : RS) (t : TS) (p0 : Int32) (p1 : Int32) (p2 : Int32) (p3 : Int32) (p4 : Int32) : Nat × Int32 × XS × WS × WS × RS × TS :=
  (0, f_X3_bars x w r t, x, w, v, r, t)

set_option maxRecDepth 100000 in
set_option maxHeartbeats 8000000 in
theorem c_act_689 {p : Program} {l : Launch} {e : Env} {s : State} {m : MethodId} {args : Array Value} {below : List Frame} {meth : Method} {c : Code} {H : Heap} {locs : List Loc} {Q : State → Prop} {D : va_G} {q : Nat → ClassId} {A : Nat → Prop} {ls : Array Slot} (h aw av : Nat) (kr kt : Nat → Nat) (x : XS) (w : WS) (v : WS) (r : RS) (t : TS) (p0 p1 p2 p3 p4 : Int32) (N : Nat) (hstk : l.stackTraces = false) (fx : FX p s m args c RL cL_act 6 D q) (hSX : SX s) (hSZ0 : SZ A s s.heap) (hA : ∀ a, s.heap.size ≤ a → A a) (hD : ∀ (x : XS) (w : WS) (v : WS) (r : RS) (t : TS), va_D A (cKick h aw av kr kt q x w v r t))
    (hret : ∀ (rv : Int32) (u : Nat × XS × WS × WS × RS × TS) (pc : Nat) (H : Heap) (locs : List Loc) (ls : Array Slot), decode cL_act pc = .ok (.ireturn, 1) → f_act_689 N x w v r t p0 p1 p2 p3 p4 = (u.1, rv, u.2) → va_P D vwCl (cKick h aw av kr kt q u.2.1 u.2.2.1 u.2.2.2.1 u.2.2.2.2.1 u.2.2.2.2.2) H → va_S A s.heap H locs → s.heap.size + u.1 ≤ H.size → W p l e RM_L_act s m args below meth c H locs 1 6 Q (F0 m pc ls [.int rv]))
    (hP : va_P D vwCl (cKick h aw av kr kt q x w v r t) H) (hS : va_S A s.heap H locs) (hg : s.heap.size + 0 ≤ H.size) (hl : lv_has ls 6 [(0, .ref h), (1, .int p0), (2, .int p1), (3, .int p2), (4, .int p3), (5, .int p4)]) : W p l e RM_L_act s m args below meth c H locs 0 0 Q (F0 m 689 ls []) := by
  have hx := fx.1
  have hb := fx.2.1
  have ht : f_act_689 N x w v r t p0 p1 p2 p3 p4 = f_act_689 N x w v r t p0 p1 p2 p3 p4 := rfl
  refine lv_aload_n hx hb dL_act_689 rfl (lv_at hl 0 rfl) ?_
  refine kRg_i (runV fx (As := []) (rest := []) (c_X3_bars l D q H.size h aw av kr kt x w v r t) lk_L_116 ⟨Nat.le_of_ble_eq_true rfl, Nat.le_of_ble_eq_true rfl⟩ ⟨rfl, rfl⟩ hP (hD _ _ _ _ _) [0, 1, 2, 3, 4, 5, 6, 7, 8, 9, 10, 11, 12, 13] rfl rfl (ci := 3) rfl rfl rfl hl.1 rfl (Nat.le_of_ble_eq_true rfl) dL_act_690 ⟨Nat.zero_le _, Nat.zero_le _⟩) hP hS hg (fun r1 _ H locs hr2 hP hS hg => ?_)
  subst hr2
  refine W.widen (k := 1) (n := 6) (Nat.zero_le _) (Nat.zero_le _) ?_
  exact hret (f_X3_bars x w r t) (0, (x, w, v, r, t)) _ _ _ _ dL_act_693 (ht.trans (by simp only [f_act_689])) hP hS hg

def f_act_694 (N : Nat) (x : XS) (w : WS) (v : WS) (r : RS) (t : TS) (p0 : Int32) (p1 : Int32) (p2 : Int32) (p3 : Int32) (p4 : Int32) : Nat × Int32 × XS × WS × WS × RS × TS :=
  ((0 + (f_L_ofTest t (if p1 = 0 then f_L_low (p0 >>> ((9 : Int32) &&& 31)) (3 : Int32) else p2) (if p1 = 0 then f_L_low (p0 >>> ((3 : Int32) &&& 31)) (4 : Int32) else p3)).1), (f_L_ofTest t (if p1 = 0 then f_L_low (p0 >>> ((9 : Int32) &&& 31)) (3 : Int32) else p2) (if p1 = 0 then f_L_low (p0 >>> ((3 : Int32) &&& 31)) (4 : Int32) else p3)).2, x, w, v, r, t)

def ok_act_694 (N : Nat) (x : XS) (w : WS) (v : WS) (r : RS) (t : TS) (p0 : Int32) (p1 : Int32) (p2 : Int32) (p3 : Int32) (p4 : Int32) : Prop :=
  ((p1 = 0 → ((ok_L_low (p0 >>> ((9 : Int32) &&& 31)) (3 : Int32)) ∧ True)) ∧ (¬ p1 = 0 → True)) ∧ (((p1 = 0 → ((ok_L_low (p0 >>> ((3 : Int32) &&& 31)) (4 : Int32)) ∧ True)) ∧ (¬ p1 = 0 → True)) ∧ True)

set_option maxRecDepth 100000 in
set_option maxHeartbeats 8000000 in
theorem c_act_694 {p : Program} {l : Launch} {e : Env} {s : State} {m : MethodId} {args : Array Value} {below : List Frame} {meth : Method} {c : Code} {H : Heap} {locs : List Loc} {Q : State → Prop} {D : va_G} {q : Nat → ClassId} {A : Nat → Prop} {ls : Array Slot} (h aw av : Nat) (kr kt : Nat → Nat) (x : XS) (w : WS) (v : WS) (r : RS) (t : TS) (p0 p1 p2 p3 p4 : Int32) (N : Nat) (hstk : l.stackTraces = false) (fx : FX p s m args c RL cL_act 6 D q) (hSX : SX s) (hSZ0 : SZ A s s.heap) (hA : ∀ a, s.heap.size ≤ a → A a) (hD : ∀ (x : XS) (w : WS) (v : WS) (r : RS) (t : TS), va_D A (cKick h aw av kr kt q x w v r t)) (hok : ok_act_694 N x w v r t p0 p1 p2 p3 p4)
    (hret : ∀ (rv : Int32) (u : Nat × XS × WS × WS × RS × TS) (pc : Nat) (H : Heap) (locs : List Loc) (ls : Array Slot), decode cL_act pc = .ok (.ireturn, 1) → f_act_694 N x w v r t p0 p1 p2 p3 p4 = (u.1, rv, u.2) → va_P D vwCl (cKick h aw av kr kt q u.2.1 u.2.2.1 u.2.2.2.1 u.2.2.2.2.1 u.2.2.2.2.2) H → va_S A s.heap H locs → s.heap.size + u.1 ≤ H.size → W p l e RM_L_act s m args below meth c H locs 1 6 Q (F0 m pc ls [.int rv]))
    (hP : va_P D vwCl (cKick h aw av kr kt q x w v r t) H) (hS : va_S A s.heap H locs) (hg : s.heap.size + 0 ≤ H.size) (hl : lv_has ls 6 [(0, .ref h), (1, .int p0), (2, .int p1), (3, .int p2), (4, .int p3), (5, .int p4)]) : W p l e RM_L_act s m args below meth c H locs 0 0 Q (F0 m 694 ls []) := by
  have hx := fx.1
  have hb := fx.2.1
  have ht : f_act_694 N x w v r t p0 p1 p2 p3 p4 = f_act_694 N x w v r t p0 p1 p2 p3 p4 := rfl
  simp only [ok_act_694] at hok
  refine lv_aload_n hx hb dL_act_694 rfl (lv_at hl 0 rfl) ?_
  refine lv_iload_n hx hb dL_act_695 rfl (lv_at hl 2 rfl) ?_
  obtain ⟨hokA, hok⟩ := hok
  suffices K : ∀ (v5 : Int32), ∀ (H : Heap) (locs : List Loc) (ls : Array Slot), v5 = (if p1 = 0 then f_L_low (p0 >>> ((9 : Int32) &&& 31)) (3 : Int32) else p2) → va_P D vwCl (cKick h aw av kr kt q x w v r t) H → va_S A s.heap H locs → s.heap.size + 0 ≤ H.size → lv_has ls 6 [(0, .ref h), (1, .int p0), (2, .int p1), (4, .int p3)] → W p l e RM_L_act s m args below meth c H locs 0 0 Q (F0 m 711 ls [.int v5, .ref h]) by
    have hok := hokA
    refine lv_if_eq (tgt := 703) hx hb dL_act_696 (by decide) (fun c1 => ?_) (fun c1 => ?_)
    · have hok := hok.1 c1
      refine lv_iload_n hx hb dL_act_703 rfl (lv_at hl 1 rfl) ?_
      refine lv_bipush (v := 9) hx hb dL_act_704 (by decide) ?_
      refine lv_ishr hx hb dL_act_706 ?_
      refine lv_iconst (v := 3) hx hb dL_act_707 (by decide) ?_
      obtain ⟨hk2, hok⟩ := hok
      refine kRg_i (runS fx (As := [.int (p0 >>> ((9 : Int32) &&& 31)), .int (3 : Int32)]) (rest := [.ref h]) (c_L_low l D q H.size (p0 >>> ((9 : Int32) &&& 31)) (3 : Int32) hk2) lk_L_89 ⟨Nat.le_of_ble_eq_true rfl, Nat.le_of_ble_eq_true rfl⟩ ⟨rfl, rfl⟩ hP (hD _ _ _ _ _) [] rfl rfl rfl hl.1 rfl (Nat.le_of_ble_eq_true rfl) dL_act_708 ⟨Nat.zero_le _, Nat.zero_le _⟩) hP hS hg (fun r3 _ H locs hr4 hP hS hg => ?_)
      subst hr4
      exact K (f_L_low (p0 >>> ((9 : Int32) &&& 31)) (3 : Int32)) H locs ls (by simp only [if_pos c1]) hP hS hg (lv_sub hl [0, 1, 2, 4] rfl)
    · have hok := hok.2 c1
      refine lv_iload_n hx hb dL_act_699 rfl (lv_at hl 3 rfl) ?_
      refine lv_goto (tgt := 711) hx hb dL_act_700 (by decide) ?_
      exact K p2 H locs ls (by simp only [if_neg c1]) hP hS hg (lv_sub hl [0, 1, 2, 4] rfl)
  intro v5 H locs ls hvv5 hP hS hg hl
  subst hvv5
  refine lv_iload_n hx hb dL_act_711 rfl (lv_at hl 2 rfl) ?_
  obtain ⟨hokA, hok⟩ := hok
  suffices K : ∀ (v10 : Int32), ∀ (H : Heap) (locs : List Loc) (ls : Array Slot), v10 = (if p1 = 0 then f_L_low (p0 >>> ((3 : Int32) &&& 31)) (4 : Int32) else p3) → va_P D vwCl (cKick h aw av kr kt q x w v r t) H → va_S A s.heap H locs → s.heap.size + 0 ≤ H.size → lv_has ls 6 [(0, .ref h)] → W p l e RM_L_act s m args below meth c H locs 0 0 Q (F0 m 727 ls [.int v10, .int (if p1 = 0 then f_L_low (p0 >>> ((9 : Int32) &&& 31)) (3 : Int32) else p2), .ref h]) by
    have hok := hokA
    refine lv_if_eq (tgt := 720) hx hb dL_act_712 (by decide) (fun c6 => ?_) (fun c6 => ?_)
    · have hok := hok.1 c6
      refine lv_iload_n hx hb dL_act_720 rfl (lv_at hl 1 rfl) ?_
      refine lv_iconst (v := 3) hx hb dL_act_721 (by decide) ?_
      refine lv_ishr hx hb dL_act_722 ?_
      refine lv_iconst (v := 4) hx hb dL_act_723 (by decide) ?_
      obtain ⟨hk7, hok⟩ := hok
      refine kRg_i (runS fx (As := [.int (p0 >>> ((3 : Int32) &&& 31)), .int (4 : Int32)]) (rest := [.int (if p1 = 0 then f_L_low (p0 >>> ((9 : Int32) &&& 31)) (3 : Int32) else p2), .ref h]) (c_L_low l D q H.size (p0 >>> ((3 : Int32) &&& 31)) (4 : Int32) hk7) lk_L_89 ⟨Nat.le_of_ble_eq_true rfl, Nat.le_of_ble_eq_true rfl⟩ ⟨rfl, rfl⟩ hP (hD _ _ _ _ _) [] rfl rfl rfl hl.1 rfl (Nat.le_of_ble_eq_true rfl) dL_act_724 ⟨Nat.zero_le _, Nat.zero_le _⟩) hP hS hg (fun r8 _ H locs hr9 hP hS hg => ?_)
      subst hr9
      exact K (f_L_low (p0 >>> ((3 : Int32) &&& 31)) (4 : Int32)) H locs ls (by simp only [if_pos c6]) hP hS hg (lv_sub hl [0] rfl)
    · have hok := hok.2 c6
      refine lv_iload hx hb dL_act_715 (lv_at hl 3 rfl) ?_
      refine lv_goto (tgt := 727) hx hb dL_act_717 (by decide) ?_
      exact K p3 H locs ls (by simp only [if_neg c6]) hP hS hg (lv_sub hl [0] rfl)
  intro v10 H locs ls hvv10 hP hS hg hl
  subst hvv10
  refine kWg_i (C := fun (_ : Unit) => cKick h aw av kr kt q x w v r t) (wrun fx hSX (SZ.kept hSZ0 hS.2.1) (As := [.ref h, .int (if p1 = 0 then f_L_low (p0 >>> ((9 : Int32) &&& 31)) (3 : Int32) else p2), .int (if p1 = 0 then f_L_low (p0 >>> ((3 : Int32) &&& 31)) (4 : Int32) else p3)]) (rest := []) (c_L_ofTest l D q H.size h aw av kr kt x w v r t (if p1 = 0 then f_L_low (p0 >>> ((9 : Int32) &&& 31)) (3 : Int32) else p2) (if p1 = 0 then f_L_low (p0 >>> ((3 : Int32) &&& 31)) (4 : Int32) else p3) hstk) lk_L_134 ⟨Nat.le_of_ble_eq_true rfl, Nat.le_of_ble_eq_true rfl⟩ ⟨rfl, rfl⟩ hP (hD _ _ _ _ _) hS hA [0, 1, 2, 3, 4, 5, 6, 7, 8, 9, 10, 11, 12, 13] rfl rfl rfl hl.1 rfl (Nat.le_of_ble_eq_true rfl) dL_act_727 ⟨Nat.le_of_ble_eq_true rfl, Nat.le_of_ble_eq_true rfl⟩) hP (hD _ _ _ _ _) hS hA hg [0, 1, 2, 3, 4, 5, 6, 7, 8, 9, 10, 11, 12, 13] rfl (fun _ => rfl) (fun r13 n14 _ H locs hw12 hP hS hg => ?_)
  have hP : va_P D vwCl (cKick h aw av kr kt q x w v r t) H := hP
  have hw12 : (f_L_ofTest t (if p1 = 0 then f_L_low (p0 >>> ((9 : Int32) &&& 31)) (3 : Int32) else p2) (if p1 = 0 then f_L_low (p0 >>> ((3 : Int32) &&& 31)) (4 : Int32) else p3)) = (n14, r13) := hw12
  try simp only [hw12] at hok
  exact hret r13 ((0 + n14), (x, w, v, r, t)) _ _ _ _ dL_act_730 (ht.trans (by simp only [f_act_694, hw12])) hP hS hg

def f_act_731 (N : Nat) (x : XS) (w : WS) (v : WS) (r : RS) (t : TS) (p0 : Int32) (p1 : Int32) (p2 : Int32) (p3 : Int32) (p4 : Int32) : Nat × Int32 × XS × WS × WS × RS × TS :=
  ((0 + (f_L_killWeight w r).1), (f_L_killWeight w r).2, x, w, v, r, t)

set_option maxRecDepth 100000 in
set_option maxHeartbeats 8000000 in
theorem c_act_731 {p : Program} {l : Launch} {e : Env} {s : State} {m : MethodId} {args : Array Value} {below : List Frame} {meth : Method} {c : Code} {H : Heap} {locs : List Loc} {Q : State → Prop} {D : va_G} {q : Nat → ClassId} {A : Nat → Prop} {ls : Array Slot} (h aw av : Nat) (kr kt : Nat → Nat) (x : XS) (w : WS) (v : WS) (r : RS) (t : TS) (p0 p1 p2 p3 p4 : Int32) (N : Nat) (hstk : l.stackTraces = false) (fx : FX p s m args c RL cL_act 6 D q) (hSX : SX s) (hSZ0 : SZ A s s.heap) (hA : ∀ a, s.heap.size ≤ a → A a) (hD : ∀ (x : XS) (w : WS) (v : WS) (r : RS) (t : TS), va_D A (cKick h aw av kr kt q x w v r t))
    (hret : ∀ (rv : Int32) (u : Nat × XS × WS × WS × RS × TS) (pc : Nat) (H : Heap) (locs : List Loc) (ls : Array Slot), decode cL_act pc = .ok (.ireturn, 1) → f_act_731 N x w v r t p0 p1 p2 p3 p4 = (u.1, rv, u.2) → va_P D vwCl (cKick h aw av kr kt q u.2.1 u.2.2.1 u.2.2.2.1 u.2.2.2.2.1 u.2.2.2.2.2) H → va_S A s.heap H locs → s.heap.size + u.1 ≤ H.size → W p l e RM_L_act s m args below meth c H locs 1 6 Q (F0 m pc ls [.int rv]))
    (hP : va_P D vwCl (cKick h aw av kr kt q x w v r t) H) (hS : va_S A s.heap H locs) (hg : s.heap.size + 0 ≤ H.size) (hl : lv_has ls 6 [(0, .ref h), (1, .int p0), (2, .int p1), (3, .int p2), (4, .int p3), (5, .int p4)]) : W p l e RM_L_act s m args below meth c H locs 0 0 Q (F0 m 731 ls []) := by
  have hx := fx.1
  have hb := fx.2.1
  have ht : f_act_731 N x w v r t p0 p1 p2 p3 p4 = f_act_731 N x w v r t p0 p1 p2 p3 p4 := rfl
  refine lv_aload_n hx hb dL_act_731 rfl (lv_at hl 0 rfl) ?_
  refine kWg_i (C := fun (_ : Unit) => cKick h aw av kr kt q x w v r t) (wrun fx hSX (SZ.kept hSZ0 hS.2.1) (As := [.ref h]) (rest := []) (c_L_killWeight l D q H.size h aw av kr kt x w v r t hstk) lk_L_136 ⟨Nat.le_of_ble_eq_true rfl, Nat.le_of_ble_eq_true rfl⟩ ⟨rfl, rfl⟩ hP (hD _ _ _ _ _) hS hA [0, 1, 2, 3, 4, 5, 6, 7, 8, 9, 10, 11, 12, 13] rfl rfl rfl hl.1 rfl (Nat.le_of_ble_eq_true rfl) dL_act_732 ⟨Nat.le_of_ble_eq_true rfl, Nat.le_of_ble_eq_true rfl⟩) hP (hD _ _ _ _ _) hS hA hg [0, 1, 2, 3, 4, 5, 6, 7, 8, 9, 10, 11, 12, 13] rfl (fun _ => rfl) (fun r3 n4 _ H locs hw2 hP hS hg => ?_)
  have hP : va_P D vwCl (cKick h aw av kr kt q x w v r t) H := hP
  have hw2 : (f_L_killWeight w r) = (n4, r3) := hw2
  exact hret r3 ((0 + n4), (x, w, v, r, t)) _ _ _ _ dL_act_735 (ht.trans (by simp only [f_act_731, hw2])) hP hS hg

def f_act_736 (N : Nat) (x : XS) (w : WS) (v : WS) (r : RS) (t : TS) (p0 : Int32) (p1 : Int32) (p2 : Int32) (p3 : Int32) (p4 : Int32) : Nat × Int32 × XS × WS × WS × RS × TS :=
  ((0 + (f_L_window N r (if p1 = 0 then (10 : Int32) * p2 else p0 >>> ((6 : Int32) &&& 31)) (if p1 = 0 then (((10 : Int32) * p2) + (1 : Int32)) + (f_L_low (p0 >>> ((3 : Int32) &&& 31)) (900 : Int32)) else p0 >>> ((4 : Int32) &&& 31)) p4).1), (f_L_window N r (if p1 = 0 then (10 : Int32) * p2 else p0 >>> ((6 : Int32) &&& 31)) (if p1 = 0 then (((10 : Int32) * p2) + (1 : Int32)) + (f_L_low (p0 >>> ((3 : Int32) &&& 31)) (900 : Int32)) else p0 >>> ((4 : Int32) &&& 31)) p4).2, x, w, v, r, t)

def ok_act_736 (N : Nat) (x : XS) (w : WS) (v : WS) (r : RS) (t : TS) (p0 : Int32) (p1 : Int32) (p2 : Int32) (p3 : Int32) (p4 : Int32) : Prop :=
  ((p1 = 0 → ((ok_L_low (p0 >>> ((3 : Int32) &&& 31)) (900 : Int32)) ∧ True)) ∧ (¬ p1 = 0 → True)) ∧ ((ok_L_window N r (if p1 = 0 then (10 : Int32) * p2 else p0 >>> ((6 : Int32) &&& 31)) (if p1 = 0 then (((10 : Int32) * p2) + (1 : Int32)) + (f_L_low (p0 >>> ((3 : Int32) &&& 31)) (900 : Int32)) else p0 >>> ((4 : Int32) &&& 31)) p4) ∧ True)

set_option maxRecDepth 100000 in
set_option maxHeartbeats 8000000 in
theorem c_act_736 {p : Program} {l : Launch} {e : Env} {s : State} {m : MethodId} {args : Array Value} {below : List Frame} {meth : Method} {c : Code} {H : Heap} {locs : List Loc} {Q : State → Prop} {D : va_G} {q : Nat → ClassId} {A : Nat → Prop} {ls : Array Slot} (h aw av : Nat) (kr kt : Nat → Nat) (x : XS) (w : WS) (v : WS) (r : RS) (t : TS) (p0 p1 p2 p3 p4 : Int32) (N : Nat) (hstk : l.stackTraces = false) (fx : FX p s m args c RL cL_act 6 D q) (hSX : SX s) (hSZ0 : SZ A s s.heap) (hA : ∀ a, s.heap.size ≤ a → A a) (hD : ∀ (x : XS) (w : WS) (v : WS) (r : RS) (t : TS), va_D A (cKick h aw av kr kt q x w v r t)) (hok : ok_act_736 N x w v r t p0 p1 p2 p3 p4)
    (hret : ∀ (rv : Int32) (u : Nat × XS × WS × WS × RS × TS) (pc : Nat) (H : Heap) (locs : List Loc) (ls : Array Slot), decode cL_act pc = .ok (.ireturn, 1) → f_act_736 N x w v r t p0 p1 p2 p3 p4 = (u.1, rv, u.2) → va_P D vwCl (cKick h aw av kr kt q u.2.1 u.2.2.1 u.2.2.2.1 u.2.2.2.2.1 u.2.2.2.2.2) H → va_S A s.heap H locs → s.heap.size + u.1 ≤ H.size → W p l e RM_L_act s m args below meth c H locs 1 6 Q (F0 m pc ls [.int rv]))
    (hP : va_P D vwCl (cKick h aw av kr kt q x w v r t) H) (hS : va_S A s.heap H locs) (hg : s.heap.size + 0 ≤ H.size) (hl : lv_has ls 6 [(0, .ref h), (1, .int p0), (2, .int p1), (3, .int p2), (4, .int p3), (5, .int p4)]) : W p l e RM_L_act s m args below meth c H locs 0 0 Q (F0 m 736 ls []) := by
  have hx := fx.1
  have hb := fx.2.1
  have ht : f_act_736 N x w v r t p0 p1 p2 p3 p4 = f_act_736 N x w v r t p0 p1 p2 p3 p4 := rfl
  simp only [ok_act_736] at hok
  refine lv_aload_n hx hb dL_act_736 rfl (lv_at hl 0 rfl) ?_
  refine lv_iload_n hx hb dL_act_737 rfl (lv_at hl 2 rfl) ?_
  suffices K : ∀ (v2 : Int32), ∀ (H : Heap) (locs : List Loc) (ls : Array Slot), v2 = (if p1 = 0 then (10 : Int32) * p2 else p0 >>> ((6 : Int32) &&& 31)) → va_P D vwCl (cKick h aw av kr kt q x w v r t) H → va_S A s.heap H locs → s.heap.size + 0 ≤ H.size → lv_has ls 6 [(0, .ref h), (1, .int p0), (2, .int p1), (3, .int p2), (5, .int p4)] → W p l e RM_L_act s m args below meth c H locs 0 0 Q (F0 m 752 ls [.int v2, .ref h]) by
    refine lv_if_eq (tgt := 748) hx hb dL_act_738 (by decide) (fun c1 => ?_) (fun c1 => ?_)
    · refine lv_bipush (v := 10) hx hb dL_act_748 (by decide) ?_
      refine lv_iload_n hx hb dL_act_750 rfl (lv_at hl 3 rfl) ?_
      refine lv_imul hx hb dL_act_751 ?_
      exact K ((10 : Int32) * p2) H locs ls (by simp only [if_pos c1]) hP hS hg (lv_sub hl [0, 1, 2, 3, 5] rfl)
    · refine lv_iload_n hx hb dL_act_741 rfl (lv_at hl 1 rfl) ?_
      refine lv_bipush (v := 6) hx hb dL_act_742 (by decide) ?_
      refine lv_ishr hx hb dL_act_744 ?_
      refine lv_goto (tgt := 752) hx hb dL_act_745 (by decide) ?_
      exact K (p0 >>> ((6 : Int32) &&& 31)) H locs ls (by simp only [if_neg c1]) hP hS hg (lv_sub hl [0, 1, 2, 3, 5] rfl)
  intro v2 H locs ls hvv2 hP hS hg hl
  subst hvv2
  refine lv_iload_n hx hb dL_act_752 rfl (lv_at hl 2 rfl) ?_
  obtain ⟨hokA, hok⟩ := hok
  suffices K : ∀ (v7 : Int32), ∀ (H : Heap) (locs : List Loc) (ls : Array Slot), v7 = (if p1 = 0 then (((10 : Int32) * p2) + (1 : Int32)) + (f_L_low (p0 >>> ((3 : Int32) &&& 31)) (900 : Int32)) else p0 >>> ((4 : Int32) &&& 31)) → va_P D vwCl (cKick h aw av kr kt q x w v r t) H → va_S A s.heap H locs → s.heap.size + 0 ≤ H.size → lv_has ls 6 [(0, .ref h), (5, .int p4)] → W p l e RM_L_act s m args below meth c H locs 0 0 Q (F0 m 778 ls [.int v7, .int (if p1 = 0 then (10 : Int32) * p2 else p0 >>> ((6 : Int32) &&& 31)), .ref h]) by
    have hok := hokA
    refine lv_if_eq (tgt := 762) hx hb dL_act_753 (by decide) (fun c3 => ?_) (fun c3 => ?_)
    · have hok := hok.1 c3
      refine lv_bipush (v := 10) hx hb dL_act_762 (by decide) ?_
      refine lv_iload_n hx hb dL_act_764 rfl (lv_at hl 3 rfl) ?_
      refine lv_imul hx hb dL_act_765 ?_
      refine lv_iconst (v := 1) hx hb dL_act_766 (by decide) ?_
      refine lv_iadd hx hb dL_act_767 ?_
      refine lv_iload_n hx hb dL_act_768 rfl (lv_at hl 1 rfl) ?_
      refine lv_iconst (v := 3) hx hb dL_act_769 (by decide) ?_
      refine lv_ishr hx hb dL_act_770 ?_
      refine lv_sipush (v := 900) hx hb dL_act_771 (by decide) ?_
      obtain ⟨hk4, hok⟩ := hok
      refine kRg_i (runS fx (As := [.int (p0 >>> ((3 : Int32) &&& 31)), .int (900 : Int32)]) (rest := [.int (((10 : Int32) * p2) + (1 : Int32)), .int (if p1 = 0 then (10 : Int32) * p2 else p0 >>> ((6 : Int32) &&& 31)), .ref h]) (c_L_low l D q H.size (p0 >>> ((3 : Int32) &&& 31)) (900 : Int32) hk4) lk_L_89 ⟨Nat.le_of_ble_eq_true rfl, Nat.le_of_ble_eq_true rfl⟩ ⟨rfl, rfl⟩ hP (hD _ _ _ _ _) [] rfl rfl rfl hl.1 rfl (Nat.le_of_ble_eq_true rfl) dL_act_774 ⟨Nat.zero_le _, Nat.zero_le _⟩) hP hS hg (fun r5 _ H locs hr6 hP hS hg => ?_)
      subst hr6
      refine lv_iadd hx hb dL_act_777 ?_
      exact K ((((10 : Int32) * p2) + (1 : Int32)) + (f_L_low (p0 >>> ((3 : Int32) &&& 31)) (900 : Int32))) H locs ls (by simp only [if_pos c3]) hP hS hg (lv_sub hl [0, 4] rfl)
    · have hok := hok.2 c3
      refine lv_iload_n hx hb dL_act_756 rfl (lv_at hl 1 rfl) ?_
      refine lv_iconst (v := 4) hx hb dL_act_757 (by decide) ?_
      refine lv_ishr hx hb dL_act_758 ?_
      refine lv_goto (tgt := 778) hx hb dL_act_759 (by decide) ?_
      exact K (p0 >>> ((4 : Int32) &&& 31)) H locs ls (by simp only [if_neg c3]) hP hS hg (lv_sub hl [0, 4] rfl)
  intro v7 H locs ls hvv7 hP hS hg hl
  subst hvv7
  refine lv_iload hx hb dL_act_778 (lv_at hl 1 rfl) ?_
  obtain ⟨hk8, hok⟩ := hok
  refine kWg_i (C := fun (_ : Unit) => cKick h aw av kr kt q x w v r t) (wrun fx hSX (SZ.kept hSZ0 hS.2.1) (As := [.ref h, .int (if p1 = 0 then (10 : Int32) * p2 else p0 >>> ((6 : Int32) &&& 31)), .int (if p1 = 0 then (((10 : Int32) * p2) + (1 : Int32)) + (f_L_low (p0 >>> ((3 : Int32) &&& 31)) (900 : Int32)) else p0 >>> ((4 : Int32) &&& 31)), .int p4]) (rest := []) (c_L_window l D q H.size h aw av kr kt x w v r t (if p1 = 0 then (10 : Int32) * p2 else p0 >>> ((6 : Int32) &&& 31)) (if p1 = 0 then (((10 : Int32) * p2) + (1 : Int32)) + (f_L_low (p0 >>> ((3 : Int32) &&& 31)) (900 : Int32)) else p0 >>> ((4 : Int32) &&& 31)) p4 N hk8 hstk) lk_L_138 ⟨Nat.le_of_ble_eq_true rfl, Nat.le_of_ble_eq_true rfl⟩ ⟨rfl, rfl⟩ hP (hD _ _ _ _ _) hS hA [0, 1, 2, 3, 4, 5, 6, 7, 8, 9, 10, 11, 12, 13] rfl rfl rfl hl.1 rfl (Nat.le_of_ble_eq_true rfl) dL_act_780 ⟨Nat.le_of_ble_eq_true rfl, Nat.le_of_ble_eq_true rfl⟩) hP (hD _ _ _ _ _) hS hA hg [0, 1, 2, 3, 4, 5, 6, 7, 8, 9, 10, 11, 12, 13] rfl (fun _ => rfl) (fun r11 n12 _ H locs hw10 hP hS hg => ?_)
  have hP : va_P D vwCl (cKick h aw av kr kt q x w v r t) H := hP
  have hw10 : (f_L_window N r (if p1 = 0 then (10 : Int32) * p2 else p0 >>> ((6 : Int32) &&& 31)) (if p1 = 0 then (((10 : Int32) * p2) + (1 : Int32)) + (f_L_low (p0 >>> ((3 : Int32) &&& 31)) (900 : Int32)) else p0 >>> ((4 : Int32) &&& 31)) p4) = (n12, r11) := hw10
  try simp only [hw10] at hok
  exact hret r11 ((0 + n12), (x, w, v, r, t)) _ _ _ _ dL_act_783 (ht.trans (by simp only [f_act_736, hw10])) hP hS hg

def f_act_784 (N : Nat) (x : XS) (w : WS) (v : WS) (r : RS) (t : TS) (p0 : Int32) (p1 : Int32) (p2 : Int32) (p3 : Int32) (p4 : Int32) : Nat × Int32 × XS × WS × WS × RS × TS :=
  ((0 + (f_L_casings N r (if p1 = 0 then (1 : Int32) + (f_L_low (p0 >>> ((4 : Int32) &&& 31)) (1500 : Int32)) else p0 >>> ((4 : Int32) &&& 31))).1), (f_L_casings N r (if p1 = 0 then (1 : Int32) + (f_L_low (p0 >>> ((4 : Int32) &&& 31)) (1500 : Int32)) else p0 >>> ((4 : Int32) &&& 31))).2, x, w, v, r, t)

def ok_act_784 (N : Nat) (x : XS) (w : WS) (v : WS) (r : RS) (t : TS) (p0 : Int32) (p1 : Int32) (p2 : Int32) (p3 : Int32) (p4 : Int32) : Prop :=
  ((p1 = 0 → ((ok_L_low (p0 >>> ((4 : Int32) &&& 31)) (1500 : Int32)) ∧ True)) ∧ (¬ p1 = 0 → True)) ∧ ((ok_L_casings N r (if p1 = 0 then (1 : Int32) + (f_L_low (p0 >>> ((4 : Int32) &&& 31)) (1500 : Int32)) else p0 >>> ((4 : Int32) &&& 31))) ∧ True)

set_option maxRecDepth 100000 in
set_option maxHeartbeats 8000000 in
theorem c_act_784 {p : Program} {l : Launch} {e : Env} {s : State} {m : MethodId} {args : Array Value} {below : List Frame} {meth : Method} {c : Code} {H : Heap} {locs : List Loc} {Q : State → Prop} {D : va_G} {q : Nat → ClassId} {A : Nat → Prop} {ls : Array Slot} (h aw av : Nat) (kr kt : Nat → Nat) (x : XS) (w : WS) (v : WS) (r : RS) (t : TS) (p0 p1 p2 p3 p4 : Int32) (N : Nat) (hstk : l.stackTraces = false) (fx : FX p s m args c RL cL_act 6 D q) (hSX : SX s) (hSZ0 : SZ A s s.heap) (hA : ∀ a, s.heap.size ≤ a → A a) (hD : ∀ (x : XS) (w : WS) (v : WS) (r : RS) (t : TS), va_D A (cKick h aw av kr kt q x w v r t)) (hok : ok_act_784 N x w v r t p0 p1 p2 p3 p4)
    (hret : ∀ (rv : Int32) (u : Nat × XS × WS × WS × RS × TS) (pc : Nat) (H : Heap) (locs : List Loc) (ls : Array Slot), decode cL_act pc = .ok (.ireturn, 1) → f_act_784 N x w v r t p0 p1 p2 p3 p4 = (u.1, rv, u.2) → va_P D vwCl (cKick h aw av kr kt q u.2.1 u.2.2.1 u.2.2.2.1 u.2.2.2.2.1 u.2.2.2.2.2) H → va_S A s.heap H locs → s.heap.size + u.1 ≤ H.size → W p l e RM_L_act s m args below meth c H locs 1 6 Q (F0 m pc ls [.int rv]))
    (hP : va_P D vwCl (cKick h aw av kr kt q x w v r t) H) (hS : va_S A s.heap H locs) (hg : s.heap.size + 0 ≤ H.size) (hl : lv_has ls 6 [(0, .ref h), (1, .int p0), (2, .int p1), (3, .int p2), (4, .int p3), (5, .int p4)]) : W p l e RM_L_act s m args below meth c H locs 0 0 Q (F0 m 784 ls []) := by
  have hx := fx.1
  have hb := fx.2.1
  have ht : f_act_784 N x w v r t p0 p1 p2 p3 p4 = f_act_784 N x w v r t p0 p1 p2 p3 p4 := rfl
  simp only [ok_act_784] at hok
  refine lv_aload_n hx hb dL_act_784 rfl (lv_at hl 0 rfl) ?_
  refine lv_iload_n hx hb dL_act_785 rfl (lv_at hl 2 rfl) ?_
  obtain ⟨hokA, hok⟩ := hok
  suffices K : ∀ (v5 : Int32), ∀ (H : Heap) (locs : List Loc) (ls : Array Slot), v5 = (if p1 = 0 then (1 : Int32) + (f_L_low (p0 >>> ((4 : Int32) &&& 31)) (1500 : Int32)) else p0 >>> ((4 : Int32) &&& 31)) → va_P D vwCl (cKick h aw av kr kt q x w v r t) H → va_S A s.heap H locs → s.heap.size + 0 ≤ H.size → lv_has ls 6 [(0, .ref h)] → W p l e RM_L_act s m args below meth c H locs 0 0 Q (F0 m 806 ls [.int v5, .ref h]) by
    have hok := hokA
    refine lv_if_eq (tgt := 795) hx hb dL_act_786 (by decide) (fun c1 => ?_) (fun c1 => ?_)
    · have hok := hok.1 c1
      refine lv_iconst (v := 1) hx hb dL_act_795 (by decide) ?_
      refine lv_iload_n hx hb dL_act_796 rfl (lv_at hl 1 rfl) ?_
      refine lv_iconst (v := 4) hx hb dL_act_797 (by decide) ?_
      refine lv_ishr hx hb dL_act_798 ?_
      refine lv_sipush (v := 1500) hx hb dL_act_799 (by decide) ?_
      obtain ⟨hk2, hok⟩ := hok
      refine kRg_i (runS fx (As := [.int (p0 >>> ((4 : Int32) &&& 31)), .int (1500 : Int32)]) (rest := [.int (1 : Int32), .ref h]) (c_L_low l D q H.size (p0 >>> ((4 : Int32) &&& 31)) (1500 : Int32) hk2) lk_L_89 ⟨Nat.le_of_ble_eq_true rfl, Nat.le_of_ble_eq_true rfl⟩ ⟨rfl, rfl⟩ hP (hD _ _ _ _ _) [] rfl rfl rfl hl.1 rfl (Nat.le_of_ble_eq_true rfl) dL_act_802 ⟨Nat.zero_le _, Nat.zero_le _⟩) hP hS hg (fun r3 _ H locs hr4 hP hS hg => ?_)
      subst hr4
      refine lv_iadd hx hb dL_act_805 ?_
      exact K ((1 : Int32) + (f_L_low (p0 >>> ((4 : Int32) &&& 31)) (1500 : Int32))) H locs ls (by simp only [if_pos c1]) hP hS hg (lv_sub hl [0] rfl)
    · have hok := hok.2 c1
      refine lv_iload_n hx hb dL_act_789 rfl (lv_at hl 1 rfl) ?_
      refine lv_iconst (v := 4) hx hb dL_act_790 (by decide) ?_
      refine lv_ishr hx hb dL_act_791 ?_
      refine lv_goto (tgt := 806) hx hb dL_act_792 (by decide) ?_
      exact K (p0 >>> ((4 : Int32) &&& 31)) H locs ls (by simp only [if_neg c1]) hP hS hg (lv_sub hl [0] rfl)
  intro v5 H locs ls hvv5 hP hS hg hl
  subst hvv5
  obtain ⟨hk6, hok⟩ := hok
  refine kWg_i (C := fun (_ : Unit) => cKick h aw av kr kt q x w v r t) (wrun fx hSX (SZ.kept hSZ0 hS.2.1) (As := [.ref h, .int (if p1 = 0 then (1 : Int32) + (f_L_low (p0 >>> ((4 : Int32) &&& 31)) (1500 : Int32)) else p0 >>> ((4 : Int32) &&& 31))]) (rest := []) (c_L_casings l D q H.size h aw av kr kt x w v r t (if p1 = 0 then (1 : Int32) + (f_L_low (p0 >>> ((4 : Int32) &&& 31)) (1500 : Int32)) else p0 >>> ((4 : Int32) &&& 31)) N hk6 hstk) lk_L_141 ⟨Nat.le_of_ble_eq_true rfl, Nat.le_of_ble_eq_true rfl⟩ ⟨rfl, rfl⟩ hP (hD _ _ _ _ _) hS hA [0, 1, 2, 3, 4, 5, 6, 7, 8, 9, 10, 11, 12, 13] rfl rfl rfl hl.1 rfl (Nat.le_of_ble_eq_true rfl) dL_act_806 ⟨Nat.le_of_ble_eq_true rfl, Nat.le_of_ble_eq_true rfl⟩) hP (hD _ _ _ _ _) hS hA hg [0, 1, 2, 3, 4, 5, 6, 7, 8, 9, 10, 11, 12, 13] rfl (fun _ => rfl) (fun r9 n10 _ H locs hw8 hP hS hg => ?_)
  have hP : va_P D vwCl (cKick h aw av kr kt q x w v r t) H := hP
  have hw8 : (f_L_casings N r (if p1 = 0 then (1 : Int32) + (f_L_low (p0 >>> ((4 : Int32) &&& 31)) (1500 : Int32)) else p0 >>> ((4 : Int32) &&& 31))) = (n10, r9) := hw8
  try simp only [hw8] at hok
  exact hret r9 ((0 + n10), (x, w, v, r, t)) _ _ _ _ dL_act_809 (ht.trans (by simp only [f_act_784, hw8])) hP hS hg

def f_act_810 (N : Nat) (x : XS) (w : WS) (v : WS) (r : RS) (t : TS) (p0 : Int32) (p1 : Int32) (p2 : Int32) (p3 : Int32) (p4 : Int32) : Nat × Int32 × XS × WS × WS × RS × TS :=
  ((0 + (f_L_casingsAnew N r (if p1 = 0 then (1 : Int32) + (f_L_low (p0 >>> ((4 : Int32) &&& 31)) (1500 : Int32)) else p0 >>> ((4 : Int32) &&& 31))).1), (f_L_casingsAnew N r (if p1 = 0 then (1 : Int32) + (f_L_low (p0 >>> ((4 : Int32) &&& 31)) (1500 : Int32)) else p0 >>> ((4 : Int32) &&& 31))).2.1, x, w, v, ((f_L_casingsAnew N r (if p1 = 0 then (1 : Int32) + (f_L_low (p0 >>> ((4 : Int32) &&& 31)) (1500 : Int32)) else p0 >>> ((4 : Int32) &&& 31))).2.2), t)

def ok_act_810 (N : Nat) (x : XS) (w : WS) (v : WS) (r : RS) (t : TS) (p0 : Int32) (p1 : Int32) (p2 : Int32) (p3 : Int32) (p4 : Int32) : Prop :=
  ((p1 = 0 → ((ok_L_low (p0 >>> ((4 : Int32) &&& 31)) (1500 : Int32)) ∧ True)) ∧ (¬ p1 = 0 → True)) ∧ ((ok_L_casingsAnew N r (if p1 = 0 then (1 : Int32) + (f_L_low (p0 >>> ((4 : Int32) &&& 31)) (1500 : Int32)) else p0 >>> ((4 : Int32) &&& 31))) ∧ True)

set_option maxRecDepth 100000 in
set_option maxHeartbeats 8000000 in
theorem c_act_810 {p : Program} {l : Launch} {e : Env} {s : State} {m : MethodId} {args : Array Value} {below : List Frame} {meth : Method} {c : Code} {H : Heap} {locs : List Loc} {Q : State → Prop} {D : va_G} {q : Nat → ClassId} {A : Nat → Prop} {ls : Array Slot} (h aw av : Nat) (kr kt : Nat → Nat) (x : XS) (w : WS) (v : WS) (r : RS) (t : TS) (p0 p1 p2 p3 p4 : Int32) (N : Nat) (hstk : l.stackTraces = false) (fx : FX p s m args c RL cL_act 6 D q) (hSX : SX s) (hSZ0 : SZ A s s.heap) (hA : ∀ a, s.heap.size ≤ a → A a) (hD : ∀ (x : XS) (w : WS) (v : WS) (r : RS) (t : TS), va_D A (cKick h aw av kr kt q x w v r t)) (hok : ok_act_810 N x w v r t p0 p1 p2 p3 p4)
    (hret : ∀ (rv : Int32) (u : Nat × XS × WS × WS × RS × TS) (pc : Nat) (H : Heap) (locs : List Loc) (ls : Array Slot), decode cL_act pc = .ok (.ireturn, 1) → f_act_810 N x w v r t p0 p1 p2 p3 p4 = (u.1, rv, u.2) → va_P D vwCl (cKick h aw av kr kt q u.2.1 u.2.2.1 u.2.2.2.1 u.2.2.2.2.1 u.2.2.2.2.2) H → va_S A s.heap H locs → s.heap.size + u.1 ≤ H.size → W p l e RM_L_act s m args below meth c H locs 1 6 Q (F0 m pc ls [.int rv]))
    (hP : va_P D vwCl (cKick h aw av kr kt q x w v r t) H) (hS : va_S A s.heap H locs) (hg : s.heap.size + 0 ≤ H.size) (hl : lv_has ls 6 [(0, .ref h), (1, .int p0), (2, .int p1), (3, .int p2), (4, .int p3), (5, .int p4)]) : W p l e RM_L_act s m args below meth c H locs 0 0 Q (F0 m 810 ls []) := by
  have hx := fx.1
  have hb := fx.2.1
  have ht : f_act_810 N x w v r t p0 p1 p2 p3 p4 = f_act_810 N x w v r t p0 p1 p2 p3 p4 := rfl
  simp only [ok_act_810] at hok
  refine lv_aload_n hx hb dL_act_810 rfl (lv_at hl 0 rfl) ?_
  refine lv_iload_n hx hb dL_act_811 rfl (lv_at hl 2 rfl) ?_
  obtain ⟨hokA, hok⟩ := hok
  suffices K : ∀ (v5 : Int32), ∀ (H : Heap) (locs : List Loc) (ls : Array Slot), v5 = (if p1 = 0 then (1 : Int32) + (f_L_low (p0 >>> ((4 : Int32) &&& 31)) (1500 : Int32)) else p0 >>> ((4 : Int32) &&& 31)) → va_P D vwCl (cKick h aw av kr kt q x w v r t) H → va_S A s.heap H locs → s.heap.size + 0 ≤ H.size → lv_has ls 6 [(0, .ref h)] → W p l e RM_L_act s m args below meth c H locs 0 0 Q (F0 m 832 ls [.int v5, .ref h]) by
    have hok := hokA
    refine lv_if_eq (tgt := 821) hx hb dL_act_812 (by decide) (fun c1 => ?_) (fun c1 => ?_)
    · have hok := hok.1 c1
      refine lv_iconst (v := 1) hx hb dL_act_821 (by decide) ?_
      refine lv_iload_n hx hb dL_act_822 rfl (lv_at hl 1 rfl) ?_
      refine lv_iconst (v := 4) hx hb dL_act_823 (by decide) ?_
      refine lv_ishr hx hb dL_act_824 ?_
      refine lv_sipush (v := 1500) hx hb dL_act_825 (by decide) ?_
      obtain ⟨hk2, hok⟩ := hok
      refine kRg_i (runS fx (As := [.int (p0 >>> ((4 : Int32) &&& 31)), .int (1500 : Int32)]) (rest := [.int (1 : Int32), .ref h]) (c_L_low l D q H.size (p0 >>> ((4 : Int32) &&& 31)) (1500 : Int32) hk2) lk_L_89 ⟨Nat.le_of_ble_eq_true rfl, Nat.le_of_ble_eq_true rfl⟩ ⟨rfl, rfl⟩ hP (hD _ _ _ _ _) [] rfl rfl rfl hl.1 rfl (Nat.le_of_ble_eq_true rfl) dL_act_828 ⟨Nat.zero_le _, Nat.zero_le _⟩) hP hS hg (fun r3 _ H locs hr4 hP hS hg => ?_)
      subst hr4
      refine lv_iadd hx hb dL_act_831 ?_
      exact K ((1 : Int32) + (f_L_low (p0 >>> ((4 : Int32) &&& 31)) (1500 : Int32))) H locs ls (by simp only [if_pos c1]) hP hS hg (lv_sub hl [0] rfl)
    · have hok := hok.2 c1
      refine lv_iload_n hx hb dL_act_815 rfl (lv_at hl 1 rfl) ?_
      refine lv_iconst (v := 4) hx hb dL_act_816 (by decide) ?_
      refine lv_ishr hx hb dL_act_817 ?_
      refine lv_goto (tgt := 832) hx hb dL_act_818 (by decide) ?_
      exact K (p0 >>> ((4 : Int32) &&& 31)) H locs ls (by simp only [if_neg c1]) hP hS hg (lv_sub hl [0] rfl)
  intro v5 H locs ls hvv5 hP hS hg hl
  subst hvv5
  obtain ⟨hk6, hok⟩ := hok
  refine kWg_i (C := fun (u9 : RS) => cKick h aw av kr kt q x w v u9 t) (wrun fx hSX (SZ.kept hSZ0 hS.2.1) (As := [.ref h, .int (if p1 = 0 then (1 : Int32) + (f_L_low (p0 >>> ((4 : Int32) &&& 31)) (1500 : Int32)) else p0 >>> ((4 : Int32) &&& 31))]) (rest := []) (c_L_casingsAnew l D q H.size h aw av kr kt x w v r t (if p1 = 0 then (1 : Int32) + (f_L_low (p0 >>> ((4 : Int32) &&& 31)) (1500 : Int32)) else p0 >>> ((4 : Int32) &&& 31)) N hk6 hstk) lk_L_143 ⟨Nat.le_of_ble_eq_true rfl, Nat.le_of_ble_eq_true rfl⟩ ⟨rfl, rfl⟩ hP (hD _ _ _ _ _) hS hA [0, 1, 2, 3, 4, 5, 6, 7, 8, 9, 10, 11, 12, 13] rfl rfl rfl hl.1 rfl (Nat.le_of_ble_eq_true rfl) dL_act_832 ⟨Nat.le_of_ble_eq_true rfl, Nat.le_of_ble_eq_true rfl⟩) hP (hD _ _ _ _ _) hS hA hg [0, 1, 2, 3, 4, 5, 6, 7, 8, 9, 10, 11, 12, 13] rfl (fun _ => rfl) (fun r9 n10 u7 H locs hw8 hP hS hg => ?_)
  have hP : va_P D vwCl (cKick h aw av kr kt q x w v u7 t) H := hP
  have hw8 : (f_L_casingsAnew N r (if p1 = 0 then (1 : Int32) + (f_L_low (p0 >>> ((4 : Int32) &&& 31)) (1500 : Int32)) else p0 >>> ((4 : Int32) &&& 31))) = (n10, r9, u7) := hw8
  try simp only [hw8] at hok
  exact hret r9 ((0 + n10), (x, w, v, u7, t)) _ _ _ _ dL_act_835 (ht.trans (by simp only [f_act_810, hw8])) hP hS hg

def f_act_836 (N : Nat) (x : XS) (w : WS) (v : WS) (r : RS) (t : TS) (p0 : Int32) (p1 : Int32) (p2 : Int32) (p3 : Int32) (p4 : Int32) : Nat × Int32 × XS × WS × WS × RS × TS :=
  ((0 + (f_L_equivalent w).1), (f_L_equivalent w).2, x, w, v, r, t)

def ok_act_836 (N : Nat) (x : XS) (w : WS) (v : WS) (r : RS) (t : TS) (p0 : Int32) (p1 : Int32) (p2 : Int32) (p3 : Int32) (p4 : Int32) : Prop :=
  (ok_L_equivalent w) ∧ True

set_option maxRecDepth 100000 in
set_option maxHeartbeats 8000000 in
theorem c_act_836 {p : Program} {l : Launch} {e : Env} {s : State} {m : MethodId} {args : Array Value} {below : List Frame} {meth : Method} {c : Code} {H : Heap} {locs : List Loc} {Q : State → Prop} {D : va_G} {q : Nat → ClassId} {A : Nat → Prop} {ls : Array Slot} (h aw av : Nat) (kr kt : Nat → Nat) (x : XS) (w : WS) (v : WS) (r : RS) (t : TS) (p0 p1 p2 p3 p4 : Int32) (N : Nat) (hstk : l.stackTraces = false) (fx : FX p s m args c RL cL_act 6 D q) (hSX : SX s) (hSZ0 : SZ A s s.heap) (hA : ∀ a, s.heap.size ≤ a → A a) (hD : ∀ (x : XS) (w : WS) (v : WS) (r : RS) (t : TS), va_D A (cKick h aw av kr kt q x w v r t)) (hok : ok_act_836 N x w v r t p0 p1 p2 p3 p4)
    (hret : ∀ (rv : Int32) (u : Nat × XS × WS × WS × RS × TS) (pc : Nat) (H : Heap) (locs : List Loc) (ls : Array Slot), decode cL_act pc = .ok (.ireturn, 1) → f_act_836 N x w v r t p0 p1 p2 p3 p4 = (u.1, rv, u.2) → va_P D vwCl (cKick h aw av kr kt q u.2.1 u.2.2.1 u.2.2.2.1 u.2.2.2.2.1 u.2.2.2.2.2) H → va_S A s.heap H locs → s.heap.size + u.1 ≤ H.size → W p l e RM_L_act s m args below meth c H locs 1 6 Q (F0 m pc ls [.int rv]))
    (hP : va_P D vwCl (cKick h aw av kr kt q x w v r t) H) (hS : va_S A s.heap H locs) (hg : s.heap.size + 0 ≤ H.size) (hl : lv_has ls 6 [(0, .ref h), (1, .int p0), (2, .int p1), (3, .int p2), (4, .int p3), (5, .int p4)]) : W p l e RM_L_act s m args below meth c H locs 0 0 Q (F0 m 836 ls []) := by
  have hx := fx.1
  have hb := fx.2.1
  have ht : f_act_836 N x w v r t p0 p1 p2 p3 p4 = f_act_836 N x w v r t p0 p1 p2 p3 p4 := rfl
  simp only [ok_act_836] at hok
  refine lv_aload_n hx hb dL_act_836 rfl (lv_at hl 0 rfl) ?_
  obtain ⟨hk1, hok⟩ := hok
  refine kWg_i (C := fun (_ : Unit) => cKick h aw av kr kt q x w v r t) (wrun fx hSX (SZ.kept hSZ0 hS.2.1) (As := [.ref h]) (rest := []) (c_L_equivalent l D q H.size h aw av kr kt x w v r t hk1 hstk) lk_L_145 ⟨Nat.le_of_ble_eq_true rfl, Nat.le_of_ble_eq_true rfl⟩ ⟨rfl, rfl⟩ hP (hD _ _ _ _ _) hS hA [0, 1, 2, 3, 4, 5, 6, 7, 8, 9, 10, 11, 12, 13] rfl rfl rfl hl.1 rfl (Nat.le_of_ble_eq_true rfl) dL_act_837 ⟨Nat.le_of_ble_eq_true rfl, Nat.le_of_ble_eq_true rfl⟩) hP (hD _ _ _ _ _) hS hA hg [0, 1, 2, 3, 4, 5, 6, 7, 8, 9, 10, 11, 12, 13] rfl (fun _ => rfl) (fun r4 n5 _ H locs hw3 hP hS hg => ?_)
  have hP : va_P D vwCl (cKick h aw av kr kt q x w v r t) H := hP
  have hw3 : (f_L_equivalent w) = (n5, r4) := hw3
  try simp only [hw3] at hok
  exact hret r4 ((0 + n5), (x, w, v, r, t)) _ _ _ _ dL_act_840 (ht.trans (by simp only [f_act_836, hw3])) hP hS hg

def f_act_841 (N : Nat) (x : XS) (w : WS) (v : WS) (r : RS) (t : TS) (p0 : Int32) (p1 : Int32) (p2 : Int32) (p3 : Int32) (p4 : Int32) : Nat × Int32 × XS × WS × WS × RS × TS :=
  ((0 + (f_L_ahead N w v r (if p1 = 0 then (1 : Int32) + (f_L_low (p0 >>> ((9 : Int32) &&& 31)) (100 : Int32)) else p2)).1), (f_L_ahead N w v r (if p1 = 0 then (1 : Int32) + (f_L_low (p0 >>> ((9 : Int32) &&& 31)) (100 : Int32)) else p2)).2.1, x, w, ((f_L_ahead N w v r (if p1 = 0 then (1 : Int32) + (f_L_low (p0 >>> ((9 : Int32) &&& 31)) (100 : Int32)) else p2)).2.2), r, t)

def ok_act_841 (N : Nat) (x : XS) (w : WS) (v : WS) (r : RS) (t : TS) (p0 : Int32) (p1 : Int32) (p2 : Int32) (p3 : Int32) (p4 : Int32) : Prop :=
  ((p1 = 0 → ((ok_L_low (p0 >>> ((9 : Int32) &&& 31)) (100 : Int32)) ∧ True)) ∧ (¬ p1 = 0 → True)) ∧ ((ok_L_ahead N w v r (if p1 = 0 then (1 : Int32) + (f_L_low (p0 >>> ((9 : Int32) &&& 31)) (100 : Int32)) else p2)) ∧ True)

set_option maxRecDepth 100000 in
set_option maxHeartbeats 8000000 in
theorem c_act_841 {p : Program} {l : Launch} {e : Env} {s : State} {m : MethodId} {args : Array Value} {below : List Frame} {meth : Method} {c : Code} {H : Heap} {locs : List Loc} {Q : State → Prop} {D : va_G} {q : Nat → ClassId} {A : Nat → Prop} {ls : Array Slot} (h aw av : Nat) (kr kt : Nat → Nat) (x : XS) (w : WS) (v : WS) (r : RS) (t : TS) (p0 p1 p2 p3 p4 : Int32) (N : Nat) (hstk : l.stackTraces = false) (fx : FX p s m args c RL cL_act 6 D q) (hSX : SX s) (hSZ0 : SZ A s s.heap) (hA : ∀ a, s.heap.size ≤ a → A a) (hD : ∀ (x : XS) (w : WS) (v : WS) (r : RS) (t : TS), va_D A (cKick h aw av kr kt q x w v r t)) (hok : ok_act_841 N x w v r t p0 p1 p2 p3 p4)
    (hret : ∀ (rv : Int32) (u : Nat × XS × WS × WS × RS × TS) (pc : Nat) (H : Heap) (locs : List Loc) (ls : Array Slot), decode cL_act pc = .ok (.ireturn, 1) → f_act_841 N x w v r t p0 p1 p2 p3 p4 = (u.1, rv, u.2) → va_P D vwCl (cKick h aw av kr kt q u.2.1 u.2.2.1 u.2.2.2.1 u.2.2.2.2.1 u.2.2.2.2.2) H → va_S A s.heap H locs → s.heap.size + u.1 ≤ H.size → W p l e RM_L_act s m args below meth c H locs 1 6 Q (F0 m pc ls [.int rv]))
    (hP : va_P D vwCl (cKick h aw av kr kt q x w v r t) H) (hS : va_S A s.heap H locs) (hg : s.heap.size + 0 ≤ H.size) (hl : lv_has ls 6 [(0, .ref h), (1, .int p0), (2, .int p1), (3, .int p2), (4, .int p3), (5, .int p4)]) : W p l e RM_L_act s m args below meth c H locs 0 0 Q (F0 m 841 ls []) := by
  have hx := fx.1
  have hb := fx.2.1
  have ht : f_act_841 N x w v r t p0 p1 p2 p3 p4 = f_act_841 N x w v r t p0 p1 p2 p3 p4 := rfl
  simp only [ok_act_841] at hok
  refine lv_aload_n hx hb dL_act_841 rfl (lv_at hl 0 rfl) ?_
  refine lv_iload_n hx hb dL_act_842 rfl (lv_at hl 2 rfl) ?_
  obtain ⟨hokA, hok⟩ := hok
  suffices K : ∀ (v5 : Int32), ∀ (H : Heap) (locs : List Loc) (ls : Array Slot), v5 = (if p1 = 0 then (1 : Int32) + (f_L_low (p0 >>> ((9 : Int32) &&& 31)) (100 : Int32)) else p2) → va_P D vwCl (cKick h aw av kr kt q x w v r t) H → va_S A s.heap H locs → s.heap.size + 0 ≤ H.size → lv_has ls 6 [(0, .ref h)] → W p l e RM_L_act s m args below meth c H locs 0 0 Q (F0 m 861 ls [.int v5, .ref h]) by
    have hok := hokA
    refine lv_if_eq (tgt := 850) hx hb dL_act_843 (by decide) (fun c1 => ?_) (fun c1 => ?_)
    · have hok := hok.1 c1
      refine lv_iconst (v := 1) hx hb dL_act_850 (by decide) ?_
      refine lv_iload_n hx hb dL_act_851 rfl (lv_at hl 1 rfl) ?_
      refine lv_bipush (v := 9) hx hb dL_act_852 (by decide) ?_
      refine lv_ishr hx hb dL_act_854 ?_
      refine lv_bipush (v := 100) hx hb dL_act_855 (by decide) ?_
      obtain ⟨hk2, hok⟩ := hok
      refine kRg_i (runS fx (As := [.int (p0 >>> ((9 : Int32) &&& 31)), .int (100 : Int32)]) (rest := [.int (1 : Int32), .ref h]) (c_L_low l D q H.size (p0 >>> ((9 : Int32) &&& 31)) (100 : Int32) hk2) lk_L_89 ⟨Nat.le_of_ble_eq_true rfl, Nat.le_of_ble_eq_true rfl⟩ ⟨rfl, rfl⟩ hP (hD _ _ _ _ _) [] rfl rfl rfl hl.1 rfl (Nat.le_of_ble_eq_true rfl) dL_act_857 ⟨Nat.zero_le _, Nat.zero_le _⟩) hP hS hg (fun r3 _ H locs hr4 hP hS hg => ?_)
      subst hr4
      refine lv_iadd hx hb dL_act_860 ?_
      exact K ((1 : Int32) + (f_L_low (p0 >>> ((9 : Int32) &&& 31)) (100 : Int32))) H locs ls (by simp only [if_pos c1]) hP hS hg (lv_sub hl [0] rfl)
    · have hok := hok.2 c1
      refine lv_iload_n hx hb dL_act_846 rfl (lv_at hl 3 rfl) ?_
      refine lv_goto (tgt := 861) hx hb dL_act_847 (by decide) ?_
      exact K p2 H locs ls (by simp only [if_neg c1]) hP hS hg (lv_sub hl [0] rfl)
  intro v5 H locs ls hvv5 hP hS hg hl
  subst hvv5
  obtain ⟨hk6, hok⟩ := hok
  refine kWg_i (C := fun (u9 : WS) => cKick h aw av kr kt q x w u9 r t) (wrun fx hSX (SZ.kept hSZ0 hS.2.1) (As := [.ref h, .int (if p1 = 0 then (1 : Int32) + (f_L_low (p0 >>> ((9 : Int32) &&& 31)) (100 : Int32)) else p2)]) (rest := []) (c_L_ahead l D q H.size h aw av kr kt x w v r t (if p1 = 0 then (1 : Int32) + (f_L_low (p0 >>> ((9 : Int32) &&& 31)) (100 : Int32)) else p2) N hk6 hstk) lk_L_147 ⟨Nat.le_of_ble_eq_true rfl, Nat.le_of_ble_eq_true rfl⟩ ⟨rfl, rfl⟩ hP (hD _ _ _ _ _) hS hA [0, 1, 2, 3, 4, 5, 6, 7, 8, 9, 10, 11, 12, 13] rfl rfl rfl hl.1 rfl (Nat.le_of_ble_eq_true rfl) dL_act_861 ⟨Nat.le_of_ble_eq_true rfl, Nat.le_of_ble_eq_true rfl⟩) hP (hD _ _ _ _ _) hS hA hg [0, 1, 2, 3, 4, 5, 6, 7, 8, 9, 10, 11, 12, 13] rfl (fun _ => rfl) (fun r9 n10 u7 H locs hw8 hP hS hg => ?_)
  have hP : va_P D vwCl (cKick h aw av kr kt q x w u7 r t) H := hP
  have hw8 : (f_L_ahead N w v r (if p1 = 0 then (1 : Int32) + (f_L_low (p0 >>> ((9 : Int32) &&& 31)) (100 : Int32)) else p2)) = (n10, r9, u7) := hw8
  try simp only [hw8] at hok
  exact hret r9 ((0 + n10), (x, w, u7, r, t)) _ _ _ _ dL_act_864 (ht.trans (by simp only [f_act_841, hw8])) hP hS hg
