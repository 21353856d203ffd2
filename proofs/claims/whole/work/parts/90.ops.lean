theorem ops_ok : ∃ Rel : SS → SMo → Prop, Ops Rel ∧ Rel i0_S i0_Mo :=
  ⟨RelS, ⟨op_feed, op_clear, op_again, run_of (fun _ _ h => simTag h) (fun _ _ h => simCom h) (fun _ _ h => simRef h), op_token, op_at, op_size, op_part, op_faults, op_fault, op_write, op_word⟩, rel0⟩
