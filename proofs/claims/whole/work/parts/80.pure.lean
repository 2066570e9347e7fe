theorem pure_ok : ∃ Inv : List nKey → nS → Prop, LawOK Inv ∧ Inv lK0 lσ0 :=
  ⟨Inv, ⟨ok_place, ok_road, ok_rider, ok_rest, ok_count, ok_way, ok_of, ok_duty, ok_bare, ok_call, ok_best, ok_send, ok_told, ok_leg, ok_hand, ok_fail, ok_next⟩, inv_start⟩
