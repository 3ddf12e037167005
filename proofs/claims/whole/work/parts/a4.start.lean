/-! a start that the Statement allows, with the script scrF: the printed one with another script -/
def stF : State := start1.aboutOf (scrF.map Value.int).toArray
set_option maxRecDepth 16384 in
theorem stF_rest : (Cond.code x code maxLocals ret :: tables_1).all (fun c => c.onTables || c.before start1.args0 stF) = true := by decide +kernel
theorem stF_words : ∀ c ∈ (Cond.code x code maxLocals ret :: tables_1), c.before start1.args0 stF = true := by
  intro c hc
  cases hq : c.onTables with
  | true => exact va_tabs hq (u := start1.about) rfl (start1.words c hc)
  | false =>
    have hz := List.all_eq_true.mp stF_rest c hc
    simpa [hq] using hz
set_option maxRecDepth 16384 in
theorem stF_fits : heapFits stF = true := by decide +kernel
set_option maxRecDepth 16384 in
theorem stF_args : argsFit stF.vm ⟨0, 0⟩ start1.args0 = true := by decide +kernel
set_option maxRecDepth 16384 in
theorem stF_given : (Cond.and given_1 narrow_1).before start1.args0 stF = true := by decide +kernel
set_option maxRecDepth 16384 in
theorem stF_given2 : rest_1_c.before start1.args0 stF = true := by decide +kernel
set_option maxRecDepth 16384 in
theorem stF_at : AtStart classFile x code maxLocals ret World_1 tables_1 room_1 Calls_1 rest_1 Pre_1 launch0 start1.p0 start1.e0 stF ⟨0, 0⟩ start1.args0 Lib.HandBits.below0 := by
  obtain ⟨h1, h2, h3, h4, h5, h6, -⟩ := start1.atStart
  refine ⟨h1, h2, h3, h4, h5, h6, rfl, stF_args, stF_fits, (Spec.applies_iff rfl).mpr ⟨rfl, rfl, rfl, ?_, ?_, ?_, ?_, atoms_intro stF_words⟩, trivial, stF_given2, stF_given⟩
  · decide +kernel
  · decide +kernel
  · decide +kernel
  · exact launch0.hasRoom_least _ room_1 (by decide +kernel) (by decide +kernel) (by decide +kernel) (by decide +kernel) (by decide +kernel) (by decide +kernel)
set_option maxRecDepth 16384 in
theorem stF_ints : stF.IntsAt 0 scrF := ⟨{ cls := 26, slots := (scrF.map Value.int).toArray, vm := .none }, by rfl, by rfl, ⟨(fun k z => by cases z), _, rfl, _, rfl⟩, by decide⟩
/-- the Statement's own word for it: the claim falls -/
theorem refuted : RefutedClaimed_1_2 := refuted_at launch0 rfl start1.p0 start1.e0 stF ⟨0, 0⟩ start1.args0 Lib.HandBits.below0 stF_at 0 rfl stF_ints
/-- so what is claimed does not hold -/
theorem not_claimed : ¬ (Claimed_1_1 ∧ Claimed_1_2) := by
  rintro ⟨-, hC⟩
  obtain ⟨l, p, e, s, m, args, below, hfl, hA, n, o, w1, w2, w3, hno⟩ := refuted
  obtain ⟨b1, b2, ha, -, hc, hk, hf, hfit, hheap, happ, q1, q2, q3⟩ := hA
  obtain ⟨n', o', v1, v2, v3, hp⟩ := hC l hfl b1 b2 p e ha hc hk s m args below hf hfit hheap happ ⟨q1, q2, q3⟩
  obtain ⟨rfl, rfl⟩ := the_end_unique (f := fun k => stepsAlone p.tables e k s) v1 v3 w1 w3
  exact hno hp
