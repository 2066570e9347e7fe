theorem pure_ok : ∃ Inv : List nKey → nS → Prop, LawOK Inv ∧ Inv lK0 lσ0 := by
  sorry
