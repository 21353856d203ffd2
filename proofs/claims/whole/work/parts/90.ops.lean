theorem ops_ok : ∃ Rel : SS → SMo → Prop, Ops Rel ∧ Rel i0_S i0_Mo := by
  sorry
