set_option maxRecDepth 16384
theorem fx_false : ¬ Claimed_1_1 := by
  refine fx_refute (l := launch0) (p := start2.p0) (e := start2.e0) (s := start2.about) (m := ⟨0, 0⟩) (b := 0) (below := Lib.HandBits.below0) rfl lists_1 (launch0.admits_env _ _ _) fairChoices_fair.cas fairChoices_fair.clock rfl ?_ start2.fits ?_ ?_ start2.rest ?_ start2.ints
  · decide +kernel
  · exact (Spec.applies_iff rfl).mpr ⟨rfl, rfl, rfl, by decide +kernel, by decide +kernel, by decide +kernel, by decide +kernel, atoms_intro start2.words⟩
  · exact (Spec.applies_iff rfl).mpr ⟨rfl, rfl, rfl, by decide +kernel, by decide +kernel, by decide +kernel, by decide +kernel, atoms_intro start2.words⟩
  · decide +kernel
/-- what is owed is false -/
theorem zz_false : ¬ (Claimed_1_1 ∧ Claimed_1_2) := fun h => fx_false h.1
