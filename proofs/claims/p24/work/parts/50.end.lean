set_option maxRecDepth 16384
theorem start1.ints : start1.about.IntsAt 0 fx_xs := ⟨{ cls := 48, slots := start1.cells0, vm := .none }, rfl, rfl, ⟨(fun _ h => by cases h), _, rfl, 47, rfl⟩, by rw [fx_len]; decide⟩
theorem start1.rest : rest_1_c.before start1.args0 start1.about = true := by
  have h := start1.ints
  have ht : ∀ idx, (Term.arg 0).eval start1.args0 start1.about none idx start1.about = some (.ref 0) := fun _ => rfl
  have h1 : (Cond.isInt (.length (.arg 0))).before start1.args0 start1.about = true := by
    have e := h.length_eval (ht [])
    simp [Cond.before, Cond.holds, Cond.value, e]
  have h2 : (Cond.all (.arg 0) (.isInt (.elem (.arg 0) (.index 0)))).before start1.args0 start1.about = true := by
    have hv := h.all_value (ht []) (c := .isInt (.elem (.arg 0) (.index 0))) (fun k hk => by
      have e := h.elem_nat (ht [k]) (i := .index 0) (show (Term.index 0).eval start1.args0 start1.about none [k] start1.about = some (.int (Int32.ofNat k)) from rfl) hk
      simp [Cond.value, e])
    simp only [Cond.before, Cond.holds, hv]
    rfl
  show (Cond.and (Cond.isInt (.length (.arg 0))) (Cond.all (.arg 0) (.isInt (.elem (.arg 0) (.index 0))))).before start1.args0 start1.about = true
  rw [Cond.before_and, Bool.and_eq_true]
  exact ⟨h1, h2⟩
theorem start1.fits : heapFits start1.about = true := by
  unfold heapFits
  rw [← Array.all_toList]
  have e : start1.about.heap.toList = { cls := 48, slots := start1.cells0, vm := .none } :: start1.about.heap.toList.drop 1 := rfl
  rw [e, List.all_cons, Bool.and_eq_true]
  refine ⟨?_, by decide +kernel⟩
  unfold cellFits
  rw [List.all_eq_true]
  intro i _
  show (match start1.cells0[i]? with | some v => start1.about.fitsSlot 48 .none i v | none => true) = true
  cases hv : start1.cells0[i]? with
  | none => rfl
  | some v =>
    have h1 : start1.cells0.toList[i]? = some v := by rw [Array.getElem?_toList]; exact hv
    obtain ⟨z, -, rfl⟩ := List.mem_map.mp (show v ∈ fx_xs.map Value.int from List.mem_of_getElem? h1)
    rfl
theorem fx_false : ¬ Claimed_1_1 := by
  refine fx_refute (l := launch0) (p := start1.p0) (e := start1.e0) (s := start1.about) (m := ⟨0, 0⟩) (b := 0) (below := Lib.HandBits.below0) rfl lists_1 (launch0.admits_env _ _ _) fairChoices_fair.cas fairChoices_fair.clock rfl ?_ start1.fits ?_ ?_ start1.rest ?_ start1.ints
  · decide +kernel
  · exact (Spec.applies_iff rfl).mpr ⟨rfl, rfl, rfl, by decide +kernel, by decide +kernel, by decide +kernel, by decide +kernel, atoms_intro start1.words⟩
  · exact (Spec.applies_iff rfl).mpr ⟨rfl, rfl, rfl, by decide +kernel, by decide +kernel, by decide +kernel, by decide +kernel, atoms_intro start1.words⟩
  · decide +kernel
/-- what is owed is false -/
theorem zz_false : ¬ (Claimed_1_1 ∧ Claimed_1_2) := fun h => fx_false h.1
