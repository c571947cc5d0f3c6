/-! the relation that all calls keep, with the same answers -/
theorem i_sim : ∃ Rel : jj_Mem → Prop, Sim Rel ∧ Rel x0 := by
  refine ⟨Rel, fun x h => ⟨fun p b => sim_type Fr1_RQ h.1 h.2 p b, fun a b => sim_poke Fr1_RQ h.1 h.2 a b, sim_size Fr1_RQ h.1 h.2, fun b => sim_byteAt Fr1_RQ h.1 h.2 b, sim_clear Fr1_RQ h.1 h.2, sim_read h, sim_write h, sim_methods h, fun b => sim_check h b, fun a b c d => sim_run h a b c d, sim_result h, sim_steps h⟩, ⟨0, by omega, rfl, rfl, fun k _ => rfl, fun k _ => ⟨0, by omega, rfl⟩⟩, 2, 13, Or.inl ⟨rfl, rfl⟩, rfl, rfl, Or.inl ⟨rfl, rfl⟩, rfl, rfl⟩
