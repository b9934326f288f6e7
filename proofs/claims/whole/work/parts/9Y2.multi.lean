/-! the rule of the rows of arrays -/
theorem gmu {E : En} (hok : EOK E) : Gmu E := by
  sorry
