/-- STILL OWED: a relation that all calls keep, with the same answers -/
theorem i_sim : ∃ Rel : jj_Mem → Prop, Sim Rel ∧ Rel x0 := by
  sorry
