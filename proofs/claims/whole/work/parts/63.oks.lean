/-! The cases' own premises. -/
section OKS
variable {x : XS} {w : WS} {r : RS} {t : TS} {g : MS} {N : Nat}
theorem ol_0 (h : Rel x w r t g) (p1 p2 p3 p4 p5 : Int32) : ok_law_0 g p1 p2 p3 p4 p5 := ⟨(op_layer h p1 p2 p3 p4 _ (bz_if p5)).1, trivial⟩
theorem ol_2 (hN : 4000 < N) (h : Rel x w r t g) (p1 : Int32) : ok_law_2 N x w r t g p1 := ⟨⟨(op_drill hN h p1).1.1, trivial⟩, (op_drill hN h p1).1.2, trivial⟩
theorem ol_3 (hN : 4000 < N) (h : Rel x w r t g) (p1 : Int32) : ok_law_3 N w r g p1 := ⟨⟨(op_pass hN h p1).1.1, trivial⟩, (op_pass hN h p1).1.2, trivial⟩
theorem ol_6 (hN : 4000 < N) (h : Rel x w r t g) (p1 p2 : Int32) : ok_law_6 N x w r g p1 p2 := ⟨⟨(op_pump hN h p1 p2).1.1, trivial⟩, (op_pump hN h p1 p2).1.2, trivial⟩
theorem ol_7 (h : Rel x w r t g) (p1 : Int32) : ok_law_7 g p1 := ⟨(op_casing h p1).1, trivial⟩
theorem ol_9 (h : Rel x w r t g) (p1 p2 : Int32) : ok_law_9 g p1 p2 := ⟨(op_test h p1 p2).1, trivial⟩
theorem ol_10 (hN : 4000 < N) (h : Rel x w r t g) (p1 p2 : Int32) : ok_law_10 N g p1 p2 := ⟨(op_stop hN h p1 _ (bz_if p2)).1, trivial⟩
theorem ol_11 (h : Rel x w r t g) (p1 : Int32) : ok_law_11 g p1 := ⟨(op_pressure h p1).1, trivial⟩
theorem ol_13 (hN : 4000 < N) (h : Rel x w r t g) : ok_law_13 N g := ⟨(op_barriers hN h).1, trivial⟩
theorem ol_14 (hN : 4000 < N) (h : Rel x w r t g) : ok_law_14 N g := ⟨(op_bars hN h).1, trivial⟩
theorem ol_15 (h : Rel x w r t g) (p1 p2 : Int32) : ok_law_15 g p1 p2 := ⟨(op_ofTest h p1 p2).1, trivial⟩
theorem ol_16 (hN : 4000 < N) (h : Rel x w r t g) : ok_law_16 N g := ⟨(op_kill hN h).1, trivial⟩
theorem ol_17 (hN : 4000 < N) (h : Rel x w r t g) (p1 p2 p3 : Int32) : ok_law_17 N r g p1 p2 p3 := ⟨⟨(op_window hN h p1 p2 _).1.1, trivial⟩, (op_window hN h p1 p2 _).1.2, trivial⟩
theorem ol_18 (hN : 4000 < N) (h : Rel x w r t g) (p1 : Int32) : ok_law_18 N r g p1 := ⟨⟨(op_casings hN h p1).1.1, trivial⟩, (op_casings hN h p1).1.2, trivial⟩
theorem ol_19 (hN : 4000 < N) (h : Rel x w r t g) (p1 : Int32) : ok_law_19 N r g p1 := ⟨⟨(op_casingsAnew hN h p1).1.1, trivial⟩, (op_casingsAnew hN h p1).1.2, trivial⟩
theorem ol_21 (hN : 4000 < N) (v : WS) (h : Rel x w r t g) (p1 : Int32) : ok_law_21 N w v r g p1 := ⟨⟨(op_ahead hN v h p1).1.1, trivial⟩, (op_ahead hN v h p1).1.2, trivial⟩
end OKS
noncomputable def FR : XS → WS → WS → RS → TS → MS → (Nat → Int64) → (Nat → UInt64) → Int32 := fun x w _ r t g _ _ => @ite Int32 (Rel x w r t g) (Classical.propDecidable _) 1 0
theorem FR_ok : FOk FR := fun _ _ _ _ _ _ _ _ h => if_pos h
theorem FR_rel {x : XS} {w v : WS} {r : RS} {t : TS} {g : MS} {fo : Nat → Int64} {fd : Nat → UInt64} (h : FR x w v r t g fo fd = 1) : Rel x w r t g := by
  by_cases c : Rel x w r t g
  · exact c
  · have e : FR x w v r t g fo fd = 0 := if_neg c
    rw [e] at h
    exact absurd h (by decide)
