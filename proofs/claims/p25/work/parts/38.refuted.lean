/-! The statement of p25 is false as it is printed: its frame allows 143 new cells. The start is the witness's, with another script in its first cell. -/
abbrev st21_cells : Array Value := (List.replicate 101 (Value.int 21)).toArray
abbrev st21 : State := start1.aboutOf st21_cells
theorem st21_rest : ∀ c ∈ (Cond.code x code maxLocals ret :: tables_1).filter (fun c => !vx_ot c), c.before start1.args0 st21 = true := by
  have h : List.all ((Cond.code x code maxLocals ret :: tables_1).filter (fun c => !vx_ot c)) (fun c => c.before start1.args0 st21) = true := by decide +kernel
  exact fun c hc => List.all_eq_true.mp h c hc
theorem st21_words : ∀ c ∈ (Cond.code x code maxLocals ret :: tables_1), c.before start1.args0 st21 = true := fun c hc => by
  cases h2 : vx_ot c with
  | true => exact vx_ot_at (s := start1.about) (U := st21) (State.WarmedH.refl start1.about) rfl h2 (start1.words c hc)
  | false => exact st21_rest c (List.mem_filter.mpr ⟨hc, by rw [h2]; rfl⟩)
set_option maxRecDepth 16384 in
theorem st21_atStart : Jvm.D.AtStart classFile x code maxLocals ret World_1 tables_1 room_1 Calls_1 rest_1 Pre_1 launch0 start1.p0 start1.e0 st21 ⟨0, 0⟩ start1.args0 Lib.HandBits.below0 :=
  ⟨lists_1, trivial, launch0.admits_env _ _ _, launch0.least_env, fairChoices_fair.cas, fairChoices_fair.clock, rfl, by decide +kernel, by decide +kernel,
    (Spec.applies_iff rfl).mpr ⟨rfl, rfl, rfl, by decide +kernel, by decide +kernel, by decide +kernel, launch0.hasRoom_least _ room_1 (by decide +kernel) (by decide +kernel) (by decide +kernel) (by decide +kernel) (by decide +kernel) (by decide +kernel), atoms_intro st21_words⟩,
    trivial, (show rest_1_c.before start1.args0 st21 = true by decide +kernel), (show (Cond.and given_1 narrow_1).before start1.args0 st21 = true by decide +kernel)⟩
theorem st21_room : st21.hasRoom start1.e0.platform R9 = true := launch0.hasRoom_least _ R9 (by decide +kernel) (by decide +kernel) (by decide +kernel) (by decide +kernel) (by decide +kernel) (by decide +kernel)
theorem ints_inj : ∀ (as bs : List Int32), as.map Value.int = bs.map Value.int → as = bs := by
  intro as
  induction as with
  | nil =>
    intro bs h
    cases bs with
    | nil => rfl
    | cons b bs => simp at h
  | cons a as ih =>
    intro bs h
    cases bs with
    | nil => simp at h
    | cons b bs =>
      simp only [List.map_cons, List.cons.injEq, Value.int.injEq] at h
      rw [h.1, ih bs h.2]
theorem st21_ints : st21.IntsAt 0 (List.replicate 101 (21 : Int32)) := by
  obtain ⟨b, xs, hb, hx⟩ := State.ints_of_pre (args := start1.args0) (s := st21) (t := .arg 0) rfl (by decide +kernel) (by decide +kernel) (by decide +kernel)
  have e : b = 0 := by
    have h1 : (some (Value.ref 0) : Option Value) = some (.ref b) := hb
    cases h1; rfl
  subst e
  have hxs : xs = List.replicate 101 (21 : Int32) := by
    obtain ⟨cell, h1, h2, -, -⟩ := hx
    have hc : st21.heap[0]? = some cell := (State.arrayAt?_spec h1).1
    have h3 : cell.slots = st21_cells := by
      have h4 : (some { cls := 18, slots := st21_cells, vm := .none } : Option Cell) = some cell := hc
      cases h4; rfl
    rw [h3] at h2
    have h5 : (List.replicate 101 (21 : Int32)).map Value.int = xs.map Value.int := h2
    exact (ints_inj _ _ h5).symm
  rw [hxs] at hx
  exact hx
/-- the first of the two owed statements is false -/
theorem p25_refuted : ¬ Claimed_1_1 := refuted_of ⟨launch0, start1.p0, start1.e0, st21, ⟨0, 0⟩, 0, Lib.HandBits.below0, rfl, st21_atStart, st21_room, st21_ints⟩
/-- and so is what is owed -/
theorem p25_owed_false : ¬ (Claimed_1_1 ∧ Claimed_1_2) := fun h => p25_refuted h.1
