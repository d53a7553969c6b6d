/-! the words of a throw -/
def am_OAb (own : String) (ic k : Nat) : Bool := (Bundle.ownAtoms0 own ic (am_X k) am_names).all (fun a => (decide (a ∈ lw_tbl) && a.tabsOnly) || decide (a ∈ am_Yw))
theorem am_OA_of {own : String} {ic k : Nat} (h : am_OAb own ic k = true) : am_OA own ic k := by
  intro a ha
  have h1 := List.all_eq_true.mp h a ha
  simp only [Bool.or_eq_true, Bool.and_eq_true, decide_eq_true_eq] at h1
  rcases h1 with ⟨h1, h2⟩ | h1
  · exact Or.inl (List.mem_filter.mpr ⟨h1, h2⟩)
  · exact Or.inr h1
theorem oa_Rm_1 : am_OA "RoverMinutes" 63 1 := am_OA_of (by decide +kernel)
theorem oa_Rm_2 : am_OA "RoverMinutes" 73 2 := am_OA_of (by decide +kernel)
theorem oa_Rm_3 : am_OA "RoverMinutes" 129 3 := am_OA_of (by decide +kernel)
