def P_X5_send (K : List nKey) (σ : nS) (v1 : Int) (k : Int → nS → Prop) : Prop :=
  ∀ σ1 : nS, σ1 = s1 σ (11, 0, 0) 24 0 → P_X5_isCall K σ1 v1 (fun r3 σ2 => ((w r3 = 0 → k (-1) σ2) ∧ (w r3 ≠ 0 → 0 ≤ v1 ∧ v1 < 40 ∧ ((0 < w (σ2.1 (12, 16, 0) (v1).toNat) → k (-1) σ2) ∧ (w (σ2.1 (12, 16, 0) (v1).toNat) ≤ 0 → 0 ≤ v1 ∧ v1 < 40 ∧ 0 ≤ v1 ∧ v1 < 40 ∧ 0 ≤ v1 ∧ v1 < 40 ∧ 0 ≤ v1 ∧ v1 < 40 ∧ P_X5_findBest K σ2 (σ2.1 (12, 11, 0) (v1).toNat) (σ2.1 (12, 12, 0) (v1).toNat) (σ2.1 (12, 14, 0) (v1).toNat) (σ2.1 (12, 13, 0) (v1).toNat) (fun r17 σ16 => ((w r17 ≠ 0 → 0 ≤ v1 ∧ v1 < 40 ∧ P_X5_ride K σ16 v1 (σ16.1 (12, 12, 0) (v1).toNat) (fun σ21 => 0 ≤ v1 ∧ v1 < 40 ∧ ∀ σ22 : nS, σ22 = s1 σ21 (12, 16, 0) (v1).toNat 1 → ∀ σ25 : nS, σ25 = s1 σ22 (11, 0, 0) 21 v1 → P_X5_endOf K σ25 v1 (fun r27 σ26 => k r27 σ26))) ∧ (w r17 = 0 → k (-1) σ16))))))))
def rmX5_send : Room := { frames := 7, cells := 0, slots := 0, locals := 184 }
set_option maxHeartbeats 4000000 in
set_option maxRecDepth 100000 in
theorem w_X5_send {l : Launch} {D : va_G} {ca : Nat → ClassId} {K : List nKey} {ad : nKey → Nat} {σ : nS} {sz : Nat} (hKC : KC K) {v1 : Int} {k : Int → nS → Prop} (hp : P_X5_send K σ v1 k) : Met l yX5_send (Cond.code yX5_send cX5_send 2 (some .int) :: UW) rmX5_send (ZP D ca [.ref (ad (11, 0, 0)), .int (iN v1)] (ZB D K ad ca σ sz)) (ZQi D K ad ca sz k) 0 0 (FA K ad sz) := by
  refine z_start (cc := cX5_send) (maxL := 2) (ret := (some .int)) (own := RX5) (K := K) (ad := ad) (σ := σ) (Qc := fun sz => ZQi D K ad ca sz k) (by decide) rfl (Nat.le_of_ble_eq_true rfl) ?_
  intro p e s m args below meth c M hr hlocks hW ls hl
  have hS : va_S (FA K ad s.heap.size) s.heap s.heap [] := va_S.rf
  have hA : ∀ q : Nat, s.heap.size ≤ q → FA K ad s.heap.size q := fun q h => Or.inr h
  replace hl : lv_has ls 2 [(0, .ref (ad (11, 0, 0))), (1, .int (iN v1))] := hl
  unfold P_X5_send at hp
  refine z_al_n M dX5_send_0 rfl hl 0 rfl ?_
  refine zi_const M 0 dX5_send_1 rfl ?_
  obtain ⟨σ1, eσ1⟩ : ∃ z : nS, z = s1 σ (11, 0, 0) 24 0 := ⟨_, rfl⟩
  have hp := hp σ1 eσ1
  refine zp_X5_24 (v := 0) M u_hin5 hW hS hKC.k11 (M.hts _ u_fl_X5_102) dX5_send_2 (fun H locs hW hS => ?_)
  rw [← eσ1] at hW
  refine z_al_n M dX5_send_5 rfl hl 0 rfl ?_
  refine z_il_n M dX5_send_6 rfl hl 1 rfl ?_
  have hfa := hW.fa hS hA
  refine zc_VU (As := [.int (iN v1)]) (rest := []) M (w_X5_isCall hKC  hp) (cuV M 1 u_co_X5_isCall u_ml_X5_157 u_ini_X5 u_in_X5_isCall u_se_X5_isCall (by decide +kernel) rfl rfl ⟨Nat.le_of_ble_eq_true rfl, Nat.le_of_ble_eq_true rfl⟩) (z_recv M hW hKC.k11 rfl rfl) ⟨rfl, hW.weaken (fun _ _ => trivial)⟩ rfl hl rfl (Nat.le_of_ble_eq_true rfl) ⟨Nat.zero_le _, Nat.zero_le _⟩ dX5_send_7 hS hfa (fun u H locs hw _ _ hS => ?_)
  obtain ⟨r3, σ2⟩ := u
  obtain ⟨hp, hW2⟩ := hw
  have hW := hW2.weaken hfa
  try dsimp only at hp
  refine zv_eq M (tgt := 53) dX5_send_10 (by decide) rfl (fun c4 => ?_) (fun c4 => ?_)
  · have hp := hp.1 c4
    refine zi_const M (-1) dX5_send_53 rfl ?_
    exact zr_i M hr hlocks ((-1), σ2) rfl ⟨hp, hW⟩ hS dX5_send_54
  · have hp := hp.2 c4
    refine z_al_n M dX5_send_13 rfl hl 0 rfl ?_
    refine zg_X5_19 M u_hin5 hW hKC.k11 (M.hts _ u_fl_X5_63) dX5_send_14 ?_
    refine z_il_n M dX5_send_17 rfl hl 1 rfl ?_
    obtain ⟨h5, h6, hp⟩ := hp
    refine za_i (n := 40) M hW (hKC.k12 (by decide)) (fun _ _ => rfl) h5 h6 (by decide) dX5_send_18 ?_
    refine zv_gt M (tgt := 53) dX5_send_19 (by decide) rfl (fun c7 => ?_) (fun c7 => ?_)
    · have hp := hp.1 c7
      refine zi_const M (-1) dX5_send_53 rfl ?_
      exact zr_i M hr hlocks ((-1), σ2) rfl ⟨hp, hW⟩ hS dX5_send_54
    · have hp := hp.2 c7
      refine z_al_n M dX5_send_22 rfl hl 0 rfl ?_
      refine z_al_n M dX5_send_23 rfl hl 0 rfl ?_
      refine zg_X5_14 M u_hin5 hW hKC.k11 (M.hts _ u_fl_X5_48) dX5_send_24 ?_
      refine z_il_n M dX5_send_27 rfl hl 1 rfl ?_
      obtain ⟨h8, h9, hp⟩ := hp
      refine za_i (n := 40) M hW (hKC.k12 (by decide)) (fun _ _ => rfl) h8 h9 (by decide) dX5_send_28 ?_
      refine z_al_n M dX5_send_29 rfl hl 0 rfl ?_
      refine zg_X5_15 M u_hin5 hW hKC.k11 (M.hts _ u_fl_X5_51) dX5_send_30 ?_
      refine z_il_n M dX5_send_33 rfl hl 1 rfl ?_
      obtain ⟨h10, h11, hp⟩ := hp
      refine za_i (n := 40) M hW (hKC.k12 (by decide)) (fun _ _ => rfl) h10 h11 (by decide) dX5_send_34 ?_
      refine z_al_n M dX5_send_35 rfl hl 0 rfl ?_
      refine zg_X5_17 M u_hin5 hW hKC.k11 (M.hts _ u_fl_X5_57) dX5_send_36 ?_
      refine z_il_n M dX5_send_39 rfl hl 1 rfl ?_
      obtain ⟨h12, h13, hp⟩ := hp
      refine za_i (n := 40) M hW (hKC.k12 (by decide)) (fun _ _ => rfl) h12 h13 (by decide) dX5_send_40 ?_
      refine z_al_n M dX5_send_41 rfl hl 0 rfl ?_
      refine zg_X5_16 M u_hin5 hW hKC.k11 (M.hts _ u_fl_X5_54) dX5_send_42 ?_
      refine z_il_n M dX5_send_45 rfl hl 1 rfl ?_
      obtain ⟨h14, h15, hp⟩ := hp
      refine za_i (n := 40) M hW (hKC.k12 (by decide)) (fun _ _ => rfl) h14 h15 (by decide) dX5_send_46 ?_
      have hfa := hW.fa hS hA
      refine zc_VU (As := [.int (iN (σ2.1 (12, 11, 0) (v1).toNat)), .int (iN (σ2.1 (12, 12, 0) (v1).toNat)), .int (iN (σ2.1 (12, 14, 0) (v1).toNat)), .int (iN (σ2.1 (12, 13, 0) (v1).toNat))]) (rest := []) M (w_X5_findBest hKC  hp) (cuV M 4 u_co_X5_findBest u_ml_X5_160 u_ini_X5 u_in_X5_findBest u_se_X5_findBest (by decide +kernel) rfl rfl ⟨Nat.le_of_ble_eq_true rfl, Nat.le_of_ble_eq_true rfl⟩) (z_recv M hW hKC.k11 rfl rfl) ⟨rfl, hW.weaken (fun _ _ => trivial)⟩ rfl hl rfl (Nat.le_of_ble_eq_true rfl) ⟨Nat.zero_le _, Nat.zero_le _⟩ dX5_send_47 hS hfa (fun u H locs hw _ _ hS => ?_)
      obtain ⟨r17, σ16⟩ := u
      obtain ⟨hp, hW2⟩ := hw
      have hW := hW2.weaken hfa
      try dsimp only at hp
      refine zv_ne M (tgt := 55) dX5_send_50 (by decide) rfl (fun c18 => ?_) (fun c18 => ?_)
      · have hp := hp.1 c18
        refine z_al_n M dX5_send_55 rfl hl 0 rfl ?_
        refine z_il_n M dX5_send_56 rfl hl 1 rfl ?_
        refine z_al_n M dX5_send_57 rfl hl 0 rfl ?_
        refine zg_X5_15 M u_hin5 hW hKC.k11 (M.hts _ u_fl_X5_51) dX5_send_58 ?_
        refine z_il_n M dX5_send_61 rfl hl 1 rfl ?_
        obtain ⟨h19, h20, hp⟩ := hp
        refine za_i (n := 40) M hW (hKC.k12 (by decide)) (fun _ _ => rfl) h19 h20 (by decide) dX5_send_62 ?_
        have hfa := hW.fa hS hA
        refine zc_VU (As := [.int (iN v1), .int (iN (σ16.1 (12, 12, 0) (v1).toNat))]) (rest := []) M (w_X5_ride hKC  hp) (cuV M 2 u_co_X5_ride u_ml_X5_164 u_ini_X5 u_in_X5_ride u_se_X5_ride (by decide +kernel) rfl rfl ⟨Nat.le_of_ble_eq_true rfl, Nat.le_of_ble_eq_true rfl⟩) (z_recv M hW hKC.k11 rfl rfl) ⟨rfl, hW.weaken (fun _ _ => trivial)⟩ rfl hl rfl (Nat.le_of_ble_eq_true rfl) ⟨Nat.zero_le _, Nat.zero_le _⟩ dX5_send_63 hS hfa (fun σ21 H locs hw _ _ hS => ?_)
        obtain ⟨hp, hW2⟩ := hw
        have hW := hW2.weaken hfa
        try dsimp only at hp
        refine z_al_n M dX5_send_66 rfl hl 0 rfl ?_
        refine zg_X5_19 M u_hin5 hW hKC.k11 (M.hts _ u_fl_X5_63) dX5_send_67 ?_
        refine z_il_n M dX5_send_70 rfl hl 1 rfl ?_
        refine zi_const M 1 dX5_send_71 rfl ?_
        obtain ⟨h23, h24, hp⟩ := hp
        obtain ⟨σ22, eσ22⟩ : ∃ z : nS, z = s1 σ21 (12, 16, 0) (v1).toNat 1 := ⟨_, rfl⟩
        have hp := hp σ22 eσ22
        refine zs_i (n := 40) M hW hS (hKC.k12 (by decide)) (fun _ _ => rfl) h23 h24 (by decide) dX5_send_72 (fun H locs hW hS => ?_)
        rw [← eσ22] at hW
        refine z_al_n M dX5_send_73 rfl hl 0 rfl ?_
        refine z_il_n M dX5_send_74 rfl hl 1 rfl ?_
        obtain ⟨σ25, eσ25⟩ : ∃ z : nS, z = s1 σ22 (11, 0, 0) 21 v1 := ⟨_, rfl⟩
        have hp := hp σ25 eσ25
        refine zp_X5_21 (v := v1) M u_hin5 hW hS hKC.k11 (M.hts _ u_fl_X5_66) dX5_send_75 (fun H locs hW hS => ?_)
        rw [← eσ25] at hW
        refine z_al_n M dX5_send_78 rfl hl 0 rfl ?_
        refine z_il_n M dX5_send_79 rfl hl 1 rfl ?_
        have hfa := hW.fa hS hA
        refine zc_VU (As := [.int (iN v1)]) (rest := []) M (w_X5_endOf hKC  hp) (cuV M 1 u_co_X5_endOf u_ml_X5_130 u_ini_X5 u_in_X5_endOf u_se_X5_endOf (by decide +kernel) rfl rfl ⟨Nat.le_of_ble_eq_true rfl, Nat.le_of_ble_eq_true rfl⟩) (z_recv M hW hKC.k11 rfl rfl) ⟨rfl, hW.weaken (fun _ _ => trivial)⟩ rfl hl rfl (Nat.le_of_ble_eq_true rfl) ⟨Nat.zero_le _, Nat.zero_le _⟩ dX5_send_80 hS hfa (fun u H locs hw _ _ hS => ?_)
        obtain ⟨r27, σ26⟩ := u
        obtain ⟨hp, hW2⟩ := hw
        have hW := hW2.weaken hfa
        try dsimp only at hp
        exact zr_i M hr hlocks (r27, σ26) rfl ⟨hp, hW⟩ hS dX5_send_83
      · have hp := hp.2 c18
        refine zi_const M (-1) dX5_send_53 rfl ?_
        exact zr_i M hr hlocks ((-1), σ16) rfl ⟨hp, hW⟩ hS dX5_send_54
def P_X5_told (K : List nKey) (σ : nS) (v1 : Int) (v2 : Int) (k : Int → nS → Prop) : Prop :=
  ∀ σ1 : nS, σ1 = s1 σ (11, 0, 0) 24 0 → P_X5_isCall K σ1 v1 (fun r3 σ2 => ((w r3 ≠ 0 → ((w v2 = 0 → 0 ≤ v1 ∧ v1 < 40 ∧ k (σ2.1 (12, 11, 0) (v1).toNat) σ2) ∧ (w v2 = 1 → 0 ≤ v1 ∧ v1 < 40 ∧ k (σ2.1 (12, 12, 0) (v1).toNat) σ2) ∧ (w v2 = 2 → 0 ≤ v1 ∧ v1 < 40 ∧ k (σ2.1 (12, 13, 0) (v1).toNat) σ2) ∧ (w v2 = 3 → 0 ≤ v1 ∧ v1 < 40 ∧ k (σ2.1 (12, 14, 0) (v1).toNat) σ2) ∧ (w v2 = 4 → 0 ≤ v1 ∧ v1 < 40 ∧ k (σ2.1 (12, 15, 0) (v1).toNat) σ2) ∧ (w v2 = 5 → 0 ≤ v1 ∧ v1 < 40 ∧ k (σ2.1 (12, 16, 0) (v1).toNat) σ2) ∧ (w v2 = 6 → 0 ≤ v1 ∧ v1 < 40 ∧ k (σ2.1 (12, 18, 0) (v1).toNat) σ2) ∧ (w v2 = 7 → 0 ≤ v1 ∧ v1 < 40 ∧ ((w (σ2.1 (12, 16, 0) (v1).toNat) ≠ 1 → k (-1) σ2) ∧ (w (σ2.1 (12, 16, 0) (v1).toNat) = 1 → P_X5_endOf K σ2 v1 (fun r23 σ22 => k r23 σ22)))) ∧ (w v2 < 0 ∨ 7 < w v2 → k (-1) σ2))) ∧ (w r3 = 0 → k (-1) σ2)))
def rmX5_told : Room := { frames := 2, cells := 0, slots := 0, locals := 43 }
set_option maxHeartbeats 4000000 in
set_option maxRecDepth 100000 in
theorem w_X5_told {l : Launch} {D : va_G} {ca : Nat → ClassId} {K : List nKey} {ad : nKey → Nat} {σ : nS} {sz : Nat} (hKC : KC K) {v1 : Int} {v2 : Int} {k : Int → nS → Prop} (hp : P_X5_told K σ v1 v2 k) : Met l yX5_told (Cond.code yX5_told cX5_told 3 (some .int) :: UW) rmX5_told (ZP D ca [.ref (ad (11, 0, 0)), .int (iN v1), .int (iN v2)] (ZB D K ad ca σ sz)) (ZQi D K ad ca sz k) 0 0 (FA K ad sz) := by
  refine z_start (cc := cX5_told) (maxL := 3) (ret := (some .int)) (own := RX5) (K := K) (ad := ad) (σ := σ) (Qc := fun sz => ZQi D K ad ca sz k) (by decide) rfl (Nat.le_of_ble_eq_true rfl) ?_
  intro p e s m args below meth c M hr hlocks hW ls hl
  have hS : va_S (FA K ad s.heap.size) s.heap s.heap [] := va_S.rf
  have hA : ∀ q : Nat, s.heap.size ≤ q → FA K ad s.heap.size q := fun q h => Or.inr h
  replace hl : lv_has ls 3 [(0, .ref (ad (11, 0, 0))), (1, .int (iN v1)), (2, .int (iN v2))] := hl
  unfold P_X5_told at hp
  refine z_al_n M dX5_told_0 rfl hl 0 rfl ?_
  refine zi_const M 0 dX5_told_1 rfl ?_
  obtain ⟨σ1, eσ1⟩ : ∃ z : nS, z = s1 σ (11, 0, 0) 24 0 := ⟨_, rfl⟩
  have hp := hp σ1 eσ1
  refine zp_X5_24 (v := 0) M u_hin5 hW hS hKC.k11 (M.hts _ u_fl_X5_102) dX5_told_2 (fun H locs hW hS => ?_)
  rw [← eσ1] at hW
  refine z_al_n M dX5_told_5 rfl hl 0 rfl ?_
  refine z_il_n M dX5_told_6 rfl hl 1 rfl ?_
  have hfa := hW.fa hS hA
  refine zc_VU (As := [.int (iN v1)]) (rest := []) M (w_X5_isCall hKC  hp) (cuV M 1 u_co_X5_isCall u_ml_X5_157 u_ini_X5 u_in_X5_isCall u_se_X5_isCall (by decide +kernel) rfl rfl ⟨Nat.le_of_ble_eq_true rfl, Nat.le_of_ble_eq_true rfl⟩) (z_recv M hW hKC.k11 rfl rfl) ⟨rfl, hW.weaken (fun _ _ => trivial)⟩ rfl hl rfl (Nat.le_of_ble_eq_true rfl) ⟨Nat.zero_le _, Nat.zero_le _⟩ dX5_told_7 hS hfa (fun u H locs hw _ _ hS => ?_)
  obtain ⟨r3, σ2⟩ := u
  obtain ⟨hp, hW2⟩ := hw
  have hW := hW2.weaken hfa
  try dsimp only at hp
  refine zv_ne M (tgt := 15) dX5_told_10 (by decide) rfl (fun c4 => ?_) (fun c4 => ?_)
  · have hp := hp.1 c4
    refine z_il_n M dX5_told_15 rfl hl 2 rfl ?_
    by_cases c16_0 : w v2 = 0
    · have hp := hp.1 c16_0
      refine z_tin M (off := 48) (tgt := 64) 0 dX5_told_16 c16_0 (by decide) (by decide) rfl (by decide) ?_
      refine z_al_n M dX5_told_64 rfl hl 0 rfl ?_
      refine zg_X5_14 M u_hin5 hW hKC.k11 (M.hts _ u_fl_X5_48) dX5_told_65 ?_
      refine z_il_n M dX5_told_68 rfl hl 1 rfl ?_
      obtain ⟨h5, h6, hp⟩ := hp
      refine za_i (n := 40) M hW (hKC.k12 (by decide)) (fun _ _ => rfl) h5 h6 (by decide) dX5_told_69 ?_
      exact zr_i M hr hlocks ((σ2.1 (12, 11, 0) (v1).toNat), σ2) rfl ⟨hp, hW⟩ hS dX5_told_70
    · by_cases c16_1 : w v2 = 1
      · have hp := hp.2.1 c16_1
        refine z_tin M (off := 55) (tgt := 71) 1 dX5_told_16 c16_1 (by decide) (by decide) rfl (by decide) ?_
        refine z_al_n M dX5_told_71 rfl hl 0 rfl ?_
        refine zg_X5_15 M u_hin5 hW hKC.k11 (M.hts _ u_fl_X5_51) dX5_told_72 ?_
        refine z_il_n M dX5_told_75 rfl hl 1 rfl ?_
        obtain ⟨h7, h8, hp⟩ := hp
        refine za_i (n := 40) M hW (hKC.k12 (by decide)) (fun _ _ => rfl) h7 h8 (by decide) dX5_told_76 ?_
        exact zr_i M hr hlocks ((σ2.1 (12, 12, 0) (v1).toNat), σ2) rfl ⟨hp, hW⟩ hS dX5_told_77
      · by_cases c16_2 : w v2 = 2
        · have hp := hp.2.2.1 c16_2
          refine z_tin M (off := 62) (tgt := 78) 2 dX5_told_16 c16_2 (by decide) (by decide) rfl (by decide) ?_
          refine z_al_n M dX5_told_78 rfl hl 0 rfl ?_
          refine zg_X5_16 M u_hin5 hW hKC.k11 (M.hts _ u_fl_X5_54) dX5_told_79 ?_
          refine z_il_n M dX5_told_82 rfl hl 1 rfl ?_
          obtain ⟨h9, h10, hp⟩ := hp
          refine za_i (n := 40) M hW (hKC.k12 (by decide)) (fun _ _ => rfl) h9 h10 (by decide) dX5_told_83 ?_
          exact zr_i M hr hlocks ((σ2.1 (12, 13, 0) (v1).toNat), σ2) rfl ⟨hp, hW⟩ hS dX5_told_84
        · by_cases c16_3 : w v2 = 3
          · have hp := hp.2.2.2.1 c16_3
            refine z_tin M (off := 69) (tgt := 85) 3 dX5_told_16 c16_3 (by decide) (by decide) rfl (by decide) ?_
            refine z_al_n M dX5_told_85 rfl hl 0 rfl ?_
            refine zg_X5_17 M u_hin5 hW hKC.k11 (M.hts _ u_fl_X5_57) dX5_told_86 ?_
            refine z_il_n M dX5_told_89 rfl hl 1 rfl ?_
            obtain ⟨h11, h12, hp⟩ := hp
            refine za_i (n := 40) M hW (hKC.k12 (by decide)) (fun _ _ => rfl) h11 h12 (by decide) dX5_told_90 ?_
            exact zr_i M hr hlocks ((σ2.1 (12, 14, 0) (v1).toNat), σ2) rfl ⟨hp, hW⟩ hS dX5_told_91
          · by_cases c16_4 : w v2 = 4
            · have hp := hp.2.2.2.2.1 c16_4
              refine z_tin M (off := 76) (tgt := 92) 4 dX5_told_16 c16_4 (by decide) (by decide) rfl (by decide) ?_
              refine z_al_n M dX5_told_92 rfl hl 0 rfl ?_
              refine zg_X5_18 M u_hin5 hW hKC.k11 (M.hts _ u_fl_X5_60) dX5_told_93 ?_
              refine z_il_n M dX5_told_96 rfl hl 1 rfl ?_
              obtain ⟨h13, h14, hp⟩ := hp
              refine za_i (n := 40) M hW (hKC.k12 (by decide)) (fun _ _ => rfl) h13 h14 (by decide) dX5_told_97 ?_
              exact zr_i M hr hlocks ((σ2.1 (12, 15, 0) (v1).toNat), σ2) rfl ⟨hp, hW⟩ hS dX5_told_98
            · by_cases c16_5 : w v2 = 5
              · have hp := hp.2.2.2.2.2.1 c16_5
                refine z_tin M (off := 83) (tgt := 99) 5 dX5_told_16 c16_5 (by decide) (by decide) rfl (by decide) ?_
                refine z_al_n M dX5_told_99 rfl hl 0 rfl ?_
                refine zg_X5_19 M u_hin5 hW hKC.k11 (M.hts _ u_fl_X5_63) dX5_told_100 ?_
                refine z_il_n M dX5_told_103 rfl hl 1 rfl ?_
                obtain ⟨h15, h16, hp⟩ := hp
                refine za_i (n := 40) M hW (hKC.k12 (by decide)) (fun _ _ => rfl) h15 h16 (by decide) dX5_told_104 ?_
                exact zr_i M hr hlocks ((σ2.1 (12, 16, 0) (v1).toNat), σ2) rfl ⟨hp, hW⟩ hS dX5_told_105
              · by_cases c16_6 : w v2 = 6
                · have hp := hp.2.2.2.2.2.2.1 c16_6
                  refine z_tin M (off := 90) (tgt := 106) 6 dX5_told_16 c16_6 (by decide) (by decide) rfl (by decide) ?_
                  refine z_al_n M dX5_told_106 rfl hl 0 rfl ?_
                  refine zg_X5_23 M u_hin5 hW hKC.k11 (M.hts _ u_fl_X5_72) dX5_told_107 ?_
                  refine z_il_n M dX5_told_110 rfl hl 1 rfl ?_
                  obtain ⟨h17, h18, hp⟩ := hp
                  refine za_i (n := 40) M hW (hKC.k12 (by decide)) (fun _ _ => rfl) h17 h18 (by decide) dX5_told_111 ?_
                  exact zr_i M hr hlocks ((σ2.1 (12, 18, 0) (v1).toNat), σ2) rfl ⟨hp, hW⟩ hS dX5_told_112
                · by_cases c16_7 : w v2 = 7
                  · have hp := hp.2.2.2.2.2.2.2.1 c16_7
                    refine z_tin M (off := 97) (tgt := 113) 7 dX5_told_16 c16_7 (by decide) (by decide) rfl (by decide) ?_
                    refine z_al_n M dX5_told_113 rfl hl 0 rfl ?_
                    refine zg_X5_19 M u_hin5 hW hKC.k11 (M.hts _ u_fl_X5_63) dX5_told_114 ?_
                    refine z_il_n M dX5_told_117 rfl hl 1 rfl ?_
                    obtain ⟨h19, h20, hp⟩ := hp
                    refine za_i (n := 40) M hW (hKC.k12 (by decide)) (fun _ _ => rfl) h19 h20 (by decide) dX5_told_118 ?_
                    refine zi_const M 1 dX5_told_119 rfl ?_
                    refine zw_ne M (tgt := 131) dX5_told_120 (by decide) rfl (w_of ⟨by decide, by decide⟩) (fun c21 => ?_) (fun c21 => ?_)
                    · have hp := hp.1 c21
                      refine zi_const M (-1) dX5_told_131 rfl ?_
                      exact zr_i M hr hlocks ((-1), σ2) rfl ⟨hp, hW⟩ hS dX5_told_132
                    · have hp := hp.2 c21
                      refine z_al_n M dX5_told_123 rfl hl 0 rfl ?_
                      refine z_il_n M dX5_told_124 rfl hl 1 rfl ?_
                      have hfa := hW.fa hS hA
                      refine zc_VU (As := [.int (iN v1)]) (rest := []) M (w_X5_endOf hKC  hp) (cuV M 1 u_co_X5_endOf u_ml_X5_130 u_ini_X5 u_in_X5_endOf u_se_X5_endOf (by decide +kernel) rfl rfl ⟨Nat.le_of_ble_eq_true rfl, Nat.le_of_ble_eq_true rfl⟩) (z_recv M hW hKC.k11 rfl rfl) ⟨rfl, hW.weaken (fun _ _ => trivial)⟩ rfl hl rfl (Nat.le_of_ble_eq_true rfl) ⟨Nat.zero_le _, Nat.zero_le _⟩ dX5_told_125 hS hfa (fun u H locs hw _ _ hS => ?_)
                      obtain ⟨r23, σ22⟩ := u
                      obtain ⟨hp, hW2⟩ := hw
                      have hW := hW2.weaken hfa
                      try dsimp only at hp
                      refine zg M (tgt := 132) dX5_told_128 (by decide) ?_
                      exact zr_i M hr hlocks (r23, σ22) rfl ⟨hp, hW⟩ hS dX5_told_132
                  · have c16_o : w v2 < 0 ∨ 7 < w v2 := by omega
                    have hp := hp.2.2.2.2.2.2.2.2 c16_o
                    refine z_tout M (tgt := 133) dX5_told_16 c16_o (by decide) ?_
                    refine zi_const M (-1) dX5_told_133 rfl ?_
                    exact zr_i M hr hlocks ((-1), σ2) rfl ⟨hp, hW⟩ hS dX5_told_134
  · have hp := hp.2 c4
    refine zi_const M (-1) dX5_told_13 rfl ?_
    exact zr_i M hr hlocks ((-1), σ2) rfl ⟨hp, hW⟩ hS dX5_told_14
def P_X5_leg (K : List nKey) (σ : nS) (v1 : Int) (v2 : Int) (v3 : Int) (k : Int → nS → Prop) : Prop :=
  ∀ σ1 : nS, σ1 = s1 σ (11, 0, 0) 24 0 → P_X5_isCall K σ1 v1 (fun r3 σ2 => ((w r3 = 0 → k (-1) σ2) ∧ (w r3 ≠ 0 → 0 ≤ v1 ∧ v1 < 40 ∧ P_X5_in K σ2 v2 0 ((σ2.1 (12, 18, 0) (v1).toNat) - 1) (fun r8 σ7 => ((w r8 = 0 → k (-1) σ7) ∧ (w r8 ≠ 0 → P_X5_in K σ7 v3 0 5 (fun r11 σ10 => ((w r11 = 0 → k (-1) σ10) ∧ (w r11 ≠ 0 → 0 ≤ ((8 * ((24 * v1) + v2)) + v3) ∧ ((8 * ((24 * v1) + v2)) + v3) < 7680 ∧ k (σ10.1 (12, 17, 0) (((8 * ((24 * v1) + v2)) + v3)).toNat) σ10)))))))))
def rmX5_leg : Room := { frames := 2, cells := 0, slots := 0, locals := 43 }
set_option maxHeartbeats 4000000 in
set_option maxRecDepth 100000 in
theorem w_X5_leg {l : Launch} {D : va_G} {ca : Nat → ClassId} {K : List nKey} {ad : nKey → Nat} {σ : nS} {sz : Nat} (hKC : KC K) {v1 : Int} {v2 : Int} {v3 : Int} {k : Int → nS → Prop} (hp : P_X5_leg K σ v1 v2 v3 k) : Met l yX5_leg (Cond.code yX5_leg cX5_leg 4 (some .int) :: UW) rmX5_leg (ZP D ca [.ref (ad (11, 0, 0)), .int (iN v1), .int (iN v2), .int (iN v3)] (ZB D K ad ca σ sz)) (ZQi D K ad ca sz k) 0 0 (FA K ad sz) := by
  refine z_start (cc := cX5_leg) (maxL := 4) (ret := (some .int)) (own := RX5) (K := K) (ad := ad) (σ := σ) (Qc := fun sz => ZQi D K ad ca sz k) (by decide) rfl (Nat.le_of_ble_eq_true rfl) ?_
  intro p e s m args below meth c M hr hlocks hW ls hl
  have hS : va_S (FA K ad s.heap.size) s.heap s.heap [] := va_S.rf
  have hA : ∀ q : Nat, s.heap.size ≤ q → FA K ad s.heap.size q := fun q h => Or.inr h
  replace hl : lv_has ls 4 [(0, .ref (ad (11, 0, 0))), (1, .int (iN v1)), (2, .int (iN v2)), (3, .int (iN v3))] := hl
  unfold P_X5_leg at hp
  refine z_al_n M dX5_leg_0 rfl hl 0 rfl ?_
  refine zi_const M 0 dX5_leg_1 rfl ?_
  obtain ⟨σ1, eσ1⟩ : ∃ z : nS, z = s1 σ (11, 0, 0) 24 0 := ⟨_, rfl⟩
  have hp := hp σ1 eσ1
  refine zp_X5_24 (v := 0) M u_hin5 hW hS hKC.k11 (M.hts _ u_fl_X5_102) dX5_leg_2 (fun H locs hW hS => ?_)
  rw [← eσ1] at hW
  refine z_al_n M dX5_leg_5 rfl hl 0 rfl ?_
  refine z_il_n M dX5_leg_6 rfl hl 1 rfl ?_
  have hfa := hW.fa hS hA
  refine zc_VU (As := [.int (iN v1)]) (rest := []) M (w_X5_isCall hKC  hp) (cuV M 1 u_co_X5_isCall u_ml_X5_157 u_ini_X5 u_in_X5_isCall u_se_X5_isCall (by decide +kernel) rfl rfl ⟨Nat.le_of_ble_eq_true rfl, Nat.le_of_ble_eq_true rfl⟩) (z_recv M hW hKC.k11 rfl rfl) ⟨rfl, hW.weaken (fun _ _ => trivial)⟩ rfl hl rfl (Nat.le_of_ble_eq_true rfl) ⟨Nat.zero_le _, Nat.zero_le _⟩ dX5_leg_7 hS hfa (fun u H locs hw _ _ hS => ?_)
  obtain ⟨r3, σ2⟩ := u
  obtain ⟨hp, hW2⟩ := hw
  have hW := hW2.weaken hfa
  try dsimp only at hp
  refine zv_eq M (tgt := 57) dX5_leg_10 (by decide) rfl (fun c4 => ?_) (fun c4 => ?_)
  · have hp := hp.1 c4
    refine zi_const M (-1) dX5_leg_57 rfl ?_
    exact zr_i M hr hlocks ((-1), σ2) rfl ⟨hp, hW⟩ hS dX5_leg_58
  · have hp := hp.2 c4
    refine z_il_n M dX5_leg_13 rfl hl 2 rfl ?_
    refine zi_const M 0 dX5_leg_14 rfl ?_
    refine z_al_n M dX5_leg_15 rfl hl 0 rfl ?_
    refine zg_X5_23 M u_hin5 hW hKC.k11 (M.hts _ u_fl_X5_72) dX5_leg_16 ?_
    refine z_il_n M dX5_leg_19 rfl hl 1 rfl ?_
    obtain ⟨h5, h6, hp⟩ := hp
    refine za_i (n := 40) M hW (hKC.k12 (by decide)) (fun _ _ => rfl) h5 h6 (by decide) dX5_leg_20 ?_
    refine zi_const M 1 dX5_leg_21 rfl ?_
    refine zi_sub M dX5_leg_22 ?_
    have hfa := hW.fa hS hA
    refine zc_SU (As := [.int (iN v2), .int (iN 0), .int (iN ((σ2.1 (12, 18, 0) (v1).toNat) - 1))]) (rest := []) M (w_X5_in hKC  hp) (cuS M 3 u_co_X5_in u_ml_X5_108 u_ini_X5 u_st_X5_in (by decide +kernel) rfl rfl ⟨Nat.le_of_ble_eq_true rfl, Nat.le_of_ble_eq_true rfl⟩) ⟨rfl, hW.weaken (fun _ _ => trivial)⟩ rfl hl rfl (Nat.le_of_ble_eq_true rfl) ⟨Nat.zero_le _, Nat.zero_le _⟩ dX5_leg_23 hS hfa (fun u H locs hw _ _ hS => ?_)
    obtain ⟨r8, σ7⟩ := u
    obtain ⟨hp, hW2⟩ := hw
    have hW := hW2.weaken hfa
    try dsimp only at hp
    refine zv_eq M (tgt := 57) dX5_leg_26 (by decide) rfl (fun c9 => ?_) (fun c9 => ?_)
    · have hp := hp.1 c9
      refine zi_const M (-1) dX5_leg_57 rfl ?_
      exact zr_i M hr hlocks ((-1), σ7) rfl ⟨hp, hW⟩ hS dX5_leg_58
    · have hp := hp.2 c9
      refine z_il_n M dX5_leg_29 rfl hl 3 rfl ?_
      refine zi_const M 0 dX5_leg_30 rfl ?_
      refine zi_const M 5 dX5_leg_31 rfl ?_
      have hfa := hW.fa hS hA
      refine zc_SU (As := [.int (iN v3), .int (iN 0), .int (iN 5)]) (rest := []) M (w_X5_in hKC  hp) (cuS M 3 u_co_X5_in u_ml_X5_108 u_ini_X5 u_st_X5_in (by decide +kernel) rfl rfl ⟨Nat.le_of_ble_eq_true rfl, Nat.le_of_ble_eq_true rfl⟩) ⟨rfl, hW.weaken (fun _ _ => trivial)⟩ rfl hl rfl (Nat.le_of_ble_eq_true rfl) ⟨Nat.zero_le _, Nat.zero_le _⟩ dX5_leg_32 hS hfa (fun u H locs hw _ _ hS => ?_)
      obtain ⟨r11, σ10⟩ := u
      obtain ⟨hp, hW2⟩ := hw
      have hW := hW2.weaken hfa
      try dsimp only at hp
      refine zv_eq M (tgt := 57) dX5_leg_35 (by decide) rfl (fun c12 => ?_) (fun c12 => ?_)
      · have hp := hp.1 c12
        refine zi_const M (-1) dX5_leg_57 rfl ?_
        exact zr_i M hr hlocks ((-1), σ10) rfl ⟨hp, hW⟩ hS dX5_leg_58
      · have hp := hp.2 c12
        refine z_al_n M dX5_leg_38 rfl hl 0 rfl ?_
        refine zg_X5_22 M u_hin5 hW hKC.k11 (M.hts _ u_fl_X5_69) dX5_leg_39 ?_
        refine zi_bi M 8 dX5_leg_42 (by decide +kernel) ?_
        refine zi_bi M 24 dX5_leg_44 (by decide +kernel) ?_
        refine z_il_n M dX5_leg_46 rfl hl 1 rfl ?_
        refine zi_mul M dX5_leg_47 ?_
        refine z_il_n M dX5_leg_48 rfl hl 2 rfl ?_
        refine zi_add M dX5_leg_49 ?_
        refine zi_mul M dX5_leg_50 ?_
        refine z_il_n M dX5_leg_51 rfl hl 3 rfl ?_
        refine zi_add M dX5_leg_52 ?_
        obtain ⟨h13, h14, hp⟩ := hp
        refine za_i (n := 7680) M hW (hKC.k12 (by decide)) (fun _ _ => rfl) h13 h14 (by decide) dX5_leg_53 ?_
        refine zg M (tgt := 58) dX5_leg_54 (by decide) ?_
        exact zr_i M hr hlocks ((σ10.1 (12, 17, 0) (((8 * ((24 * v1) + v2)) + v3)).toNat), σ10) rfl ⟨hp, hW⟩ hS dX5_leg_58
def P_X5_hand_L53 (K : List nKey) (k : Int → nS → Prop) (v1 : Int) (v2 : Int) : Nat → Int → Int → nS → Prop
  | 0 => fun _ _ _ => False
  | n + 1 => fun v3 v4 σ =>
    0 ≤ v1 ∧ v1 < 40 ∧ ((w (σ.1 (12, 18, 0) (v1).toNat) ≤ w v4 → k v3 σ) ∧ (w v4 < w (σ.1 (12, 18, 0) (v1).toNat) → 0 ≤ ((8 * ((24 * v1) + v4)) + 3) ∧ ((8 * ((24 * v1) + v4)) + 3) < 7680 ∧ ((w v2 < w (σ.1 (12, 17, 0) (((8 * ((24 * v1) + v4)) + 3)).toNat) → ∀ x7 : Int, x7 = v4 + 1 → (P_X5_hand_L53 K k v1 v2 n) v3 x7 σ) ∧ (w (σ.1 (12, 17, 0) (((8 * ((24 * v1) + v4)) + 3)).toNat) ≤ w v2 → 0 ≤ (8 * ((24 * v1) + v4)) ∧ (8 * ((24 * v1) + v4)) < 7680 ∧ ∀ x10 : Int, x10 = (σ.1 (12, 17, 0) ((8 * ((24 * v1) + v4))).toNat) → ∀ x11 : Int, x11 = v4 + 1 → (P_X5_hand_L53 K k v1 v2 n) x10 x11 σ))))
def P_X5_hand (K : List nKey) (σ : nS) (v1 : Int) (v2 : Int) (k : Int → nS → Prop) : Prop :=
  ∀ σ12 : nS, σ12 = s1 σ (11, 0, 0) 24 0 → P_X5_isCall K σ12 v1 (fun r14 σ13 => ((w r14 = 0 → k (-1) σ13) ∧ (w r14 ≠ 0 → 0 ≤ v1 ∧ v1 < 40 ∧ ((w (σ13.1 (12, 16, 0) (v1).toNat) = 0 → k (-1) σ13) ∧ (w (σ13.1 (12, 16, 0) (v1).toNat) ≠ 0 → P_X5_in K σ13 v2 0 4319 (fun r20 σ19 => ((w r20 ≠ 0 → P_X5_endOf K σ19 v1 (fun r23 σ22 => ((w v2 ≤ w r23 → ∃ f25 : Nat, P_X5_hand_L53 K k v1 v2 f25 (-2) 0 σ22) ∧ (w r23 < w v2 → k (-3) σ22)))) ∧ (w r20 = 0 → k (-1) σ19))))))))
def rmX5_hand : Room := { frames := 2, cells := 0, slots := 0, locals := 43 }
set_option maxHeartbeats 4000000 in
set_option maxRecDepth 100000 in
theorem w_X5_hand {l : Launch} {D : va_G} {ca : Nat → ClassId} {K : List nKey} {ad : nKey → Nat} {σ : nS} {sz : Nat} (hKC : KC K) {v1 : Int} {v2 : Int} {k : Int → nS → Prop} (hp : P_X5_hand K σ v1 v2 k) : Met l yX5_hand (Cond.code yX5_hand cX5_hand 5 (some .int) :: UW) rmX5_hand (ZP D ca [.ref (ad (11, 0, 0)), .int (iN v1), .int (iN v2)] (ZB D K ad ca σ sz)) (ZQi D K ad ca sz k) 0 0 (FA K ad sz) := by
  refine z_start (cc := cX5_hand) (maxL := 5) (ret := (some .int)) (own := RX5) (K := K) (ad := ad) (σ := σ) (Qc := fun sz => ZQi D K ad ca sz k) (by decide) rfl (Nat.le_of_ble_eq_true rfl) ?_
  intro p e s m args below meth c M hr hlocks hW ls hl
  have hS : va_S (FA K ad s.heap.size) s.heap s.heap [] := va_S.rf
  have hA : ∀ q : Nat, s.heap.size ≤ q → FA K ad s.heap.size q := fun q h => Or.inr h
  replace hl : lv_has ls 5 [(0, .ref (ad (11, 0, 0))), (1, .int (iN v1)), (2, .int (iN v2))] := hl
  unfold P_X5_hand at hp
  have hL53 : ∀ (f53 : Nat) (v3 : Int) (v4 : Int) (σ : nS) (H : Heap) (locs : List Loc) (ls : Array Slot), P_X5_hand_L53 K k v1 v2 f53 v3 v4 σ → XW D (FA K ad s.heap.size) K ad (cR ca ad σ) H → va_S (FA K ad s.heap.size) s.heap H locs → lv_has ls 5 [(0, .ref (ad (11, 0, 0))), (1, .int (iN v1)), (2, .int (iN v2)), (3, .int (iN v3)), (4, .int (iN v4))] → W p l e rmX5_hand s m args below meth c H locs 0 0 (MQ below (ZQi D K ad ca s.heap.size k) args s 0 0 (FA K ad s.heap.size)) (F0 m 53 ls []) := by
    intro f53
    induction f53 with
    | zero =>
      intro v3 v4 σ H locs ls  hp
      exact hp.elim
    | succ f53 ih53 =>
      intro v3 v4 σ H locs ls  hp hW hS hl
      refine z_il M dX5_hand_53 hl 4 rfl ?_
      refine z_al_n M dX5_hand_55 rfl hl 0 rfl ?_
      refine zg_X5_23 M u_hin5 hW hKC.k11 (M.hts _ u_fl_X5_72) dX5_hand_56 ?_
      refine z_il_n M dX5_hand_59 rfl hl 1 rfl ?_
      obtain ⟨h1, h2, hp⟩ := hp
      refine za_i (n := 40) M hW (hKC.k12 (by decide)) (fun _ _ => rfl) h1 h2 (by decide) dX5_hand_60 ?_
      refine zw_ge M (tgt := 107) dX5_hand_61 (by decide) rfl rfl (fun c3 => ?_) (fun c3 => ?_)
      · have hp := hp.1 c3
        refine z_il_n M dX5_hand_107 rfl hl 3 rfl ?_
        exact zr_i M hr hlocks (v3, σ) rfl ⟨hp, hW⟩ hS dX5_hand_108
      · have hp := hp.2 c3
        refine z_al_n M dX5_hand_64 rfl hl 0 rfl ?_
        refine zg_X5_22 M u_hin5 hW hKC.k11 (M.hts _ u_fl_X5_69) dX5_hand_65 ?_
        refine zi_bi M 8 dX5_hand_68 (by decide +kernel) ?_
        refine zi_bi M 24 dX5_hand_70 (by decide +kernel) ?_
        refine z_il_n M dX5_hand_72 rfl hl 1 rfl ?_
        refine zi_mul M dX5_hand_73 ?_
        refine z_il M dX5_hand_74 hl 4 rfl ?_
        refine zi_add M dX5_hand_76 ?_
        refine zi_mul M dX5_hand_77 ?_
        refine zi_const M 3 dX5_hand_78 rfl ?_
        refine zi_add M dX5_hand_79 ?_
        obtain ⟨h4, h5, hp⟩ := hp
        refine za_i (n := 7680) M hW (hKC.k12 (by decide)) (fun _ _ => rfl) h4 h5 (by decide) dX5_hand_80 ?_
        refine z_il_n M dX5_hand_81 rfl hl 2 rfl ?_
        refine zw_gt M (tgt := 101) dX5_hand_82 (by decide) rfl rfl (fun c6 => ?_) (fun c6 => ?_)
        · have hp := hp.1 c6
          obtain ⟨x7, ex7⟩ : ∃ z : Int, z = v4 + 1 := ⟨_, rfl⟩
          have hp := hp x7 ex7
          refine z_inc M [(4, .int (iN x7)), (0, .ref (ad (11, 0, 0))), (1, .int (iN v1)), (2, .int (iN v2)), (3, .int (iN v3))] x7 dX5_hand_101 hl 4 rfl ex7.symm (by decide) rfl (fun ls hl => ?_)
          refine zg M (tgt := 53) dX5_hand_104 (by decide) ?_
          exact ih53 v3 x7 σ _ _ _  hp hW hS (lv_sub hl [1, 2, 3, 4, 0] rfl)
        · have hp := hp.2 c6
          refine z_al_n M dX5_hand_85 rfl hl 0 rfl ?_
          refine zg_X5_22 M u_hin5 hW hKC.k11 (M.hts _ u_fl_X5_69) dX5_hand_86 ?_
          refine zi_bi M 8 dX5_hand_89 (by decide +kernel) ?_
          refine zi_bi M 24 dX5_hand_91 (by decide +kernel) ?_
          refine z_il_n M dX5_hand_93 rfl hl 1 rfl ?_
          refine zi_mul M dX5_hand_94 ?_
          refine z_il M dX5_hand_95 hl 4 rfl ?_
          refine zi_add M dX5_hand_97 ?_
          refine zi_mul M dX5_hand_98 ?_
          obtain ⟨h8, h9, hp⟩ := hp
          refine za_i (n := 7680) M hW (hKC.k12 (by decide)) (fun _ _ => rfl) h8 h9 (by decide) dX5_hand_99 ?_
          refine zi_nm (fun x10 ex10 => ?_)
          have hp := hp x10 ex10
          refine z_is_n M [(3, .int (iN x10)), (0, .ref (ad (11, 0, 0))), (1, .int (iN v1)), (2, .int (iN v2)), (4, .int (iN v4))] dX5_hand_100 rfl hl (by decide) rfl (fun ls hl => ?_)
          obtain ⟨x11, ex11⟩ : ∃ z : Int, z = v4 + 1 := ⟨_, rfl⟩
          have hp := hp x11 ex11
          refine z_inc M [(4, .int (iN x11)), (3, .int (iN x10)), (0, .ref (ad (11, 0, 0))), (1, .int (iN v1)), (2, .int (iN v2))] x11 dX5_hand_101 hl 4 rfl ex11.symm (by decide) rfl (fun ls hl => ?_)
          refine zg M (tgt := 53) dX5_hand_104 (by decide) ?_
          exact ih53 x10 x11 σ _ _ _  hp hW hS (lv_sub hl [2, 3, 4, 1, 0] rfl)
  refine z_al_n M dX5_hand_0 rfl hl 0 rfl ?_
  refine zi_const M 0 dX5_hand_1 rfl ?_
  obtain ⟨σ12, eσ12⟩ : ∃ z : nS, z = s1 σ (11, 0, 0) 24 0 := ⟨_, rfl⟩
  have hp := hp σ12 eσ12
  refine zp_X5_24 (v := 0) M u_hin5 hW hS hKC.k11 (M.hts _ u_fl_X5_102) dX5_hand_2 (fun H locs hW hS => ?_)
  rw [← eσ12] at hW
  refine z_al_n M dX5_hand_5 rfl hl 0 rfl ?_
  refine z_il_n M dX5_hand_6 rfl hl 1 rfl ?_
  have hfa := hW.fa hS hA
  refine zc_VU (As := [.int (iN v1)]) (rest := []) M (w_X5_isCall hKC  hp) (cuV M 1 u_co_X5_isCall u_ml_X5_157 u_ini_X5 u_in_X5_isCall u_se_X5_isCall (by decide +kernel) rfl rfl ⟨Nat.le_of_ble_eq_true rfl, Nat.le_of_ble_eq_true rfl⟩) (z_recv M hW hKC.k11 rfl rfl) ⟨rfl, hW.weaken (fun _ _ => trivial)⟩ rfl hl rfl (Nat.le_of_ble_eq_true rfl) ⟨Nat.zero_le _, Nat.zero_le _⟩ dX5_hand_7 hS hfa (fun u H locs hw _ _ hS => ?_)
  obtain ⟨r14, σ13⟩ := u
  obtain ⟨hp, hW2⟩ := hw
  have hW := hW2.weaken hfa
  try dsimp only at hp
  refine zv_eq M (tgt := 33) dX5_hand_10 (by decide) rfl (fun c15 => ?_) (fun c15 => ?_)
  · have hp := hp.1 c15
    refine zi_const M (-1) dX5_hand_33 rfl ?_
    exact zr_i M hr hlocks ((-1), σ13) rfl ⟨hp, hW⟩ hS dX5_hand_34
  · have hp := hp.2 c15
    refine z_al_n M dX5_hand_13 rfl hl 0 rfl ?_
    refine zg_X5_19 M u_hin5 hW hKC.k11 (M.hts _ u_fl_X5_63) dX5_hand_14 ?_
    refine z_il_n M dX5_hand_17 rfl hl 1 rfl ?_
    obtain ⟨h16, h17, hp⟩ := hp
    refine za_i (n := 40) M hW (hKC.k12 (by decide)) (fun _ _ => rfl) h16 h17 (by decide) dX5_hand_18 ?_
    refine zv_eq M (tgt := 33) dX5_hand_19 (by decide) rfl (fun c18 => ?_) (fun c18 => ?_)
    · have hp := hp.1 c18
      refine zi_const M (-1) dX5_hand_33 rfl ?_
      exact zr_i M hr hlocks ((-1), σ13) rfl ⟨hp, hW⟩ hS dX5_hand_34
    · have hp := hp.2 c18
      refine z_il_n M dX5_hand_22 rfl hl 2 rfl ?_
      refine zi_const M 0 dX5_hand_23 rfl ?_
      refine zi_si M 4319 dX5_hand_24 (by decide +kernel) ?_
      have hfa := hW.fa hS hA
      refine zc_SU (As := [.int (iN v2), .int (iN 0), .int (iN 4319)]) (rest := []) M (w_X5_in hKC  hp) (cuS M 3 u_co_X5_in u_ml_X5_108 u_ini_X5 u_st_X5_in (by decide +kernel) rfl rfl ⟨Nat.le_of_ble_eq_true rfl, Nat.le_of_ble_eq_true rfl⟩) ⟨rfl, hW.weaken (fun _ _ => trivial)⟩ rfl hl rfl (Nat.le_of_ble_eq_true rfl) ⟨Nat.zero_le _, Nat.zero_le _⟩ dX5_hand_27 hS hfa (fun u H locs hw _ _ hS => ?_)
      obtain ⟨r20, σ19⟩ := u
      obtain ⟨hp, hW2⟩ := hw
      have hW := hW2.weaken hfa
      try dsimp only at hp
      refine zv_ne M (tgt := 35) dX5_hand_30 (by decide) rfl (fun c21 => ?_) (fun c21 => ?_)
      · have hp := hp.1 c21
        refine z_il_n M dX5_hand_35 rfl hl 2 rfl ?_
        refine z_al_n M dX5_hand_36 rfl hl 0 rfl ?_
        refine z_il_n M dX5_hand_37 rfl hl 1 rfl ?_
        have hfa := hW.fa hS hA
        refine zc_VU (As := [.int (iN v1)]) (rest := [.int (iN v2)]) M (w_X5_endOf hKC  hp) (cuV M 1 u_co_X5_endOf u_ml_X5_130 u_ini_X5 u_in_X5_endOf u_se_X5_endOf (by decide +kernel) rfl rfl ⟨Nat.le_of_ble_eq_true rfl, Nat.le_of_ble_eq_true rfl⟩) (z_recv M hW hKC.k11 rfl rfl) ⟨rfl, hW.weaken (fun _ _ => trivial)⟩ rfl hl rfl (Nat.le_of_ble_eq_true rfl) ⟨Nat.zero_le _, Nat.zero_le _⟩ dX5_hand_38 hS hfa (fun u H locs hw _ _ hS => ?_)
        obtain ⟨r23, σ22⟩ := u
        obtain ⟨hp, hW2⟩ := hw
        have hW := hW2.weaken hfa
        try dsimp only at hp
        refine zw_le M (tgt := 47) dX5_hand_41 (by decide) rfl rfl (fun c24 => ?_) (fun c24 => ?_)
        · have hp := hp.1 c24
          refine zi_bi M (-2) dX5_hand_47 (by decide +kernel) ?_
          refine z_is_n M [(3, .int (iN (-2))), (0, .ref (ad (11, 0, 0))), (1, .int (iN v1)), (2, .int (iN v2))] dX5_hand_49 rfl hl (by decide) rfl (fun ls hl => ?_)
          refine zi_const M 0 dX5_hand_50 rfl ?_
          refine z_is M [(4, .int (iN 0)), (3, .int (iN (-2))), (0, .ref (ad (11, 0, 0))), (1, .int (iN v1)), (2, .int (iN v2))] dX5_hand_51 hl (by decide) rfl (fun ls hl => ?_)
          obtain ⟨f25, hp⟩ := hp
          exact hL53 f25 (-2) 0 σ22 _ _ _  hp hW hS (lv_sub hl [2, 3, 4, 1, 0] rfl)
        · have hp := hp.2 c24
          refine zi_bi M (-3) dX5_hand_44 (by decide +kernel) ?_
          exact zr_i M hr hlocks ((-3), σ22) rfl ⟨hp, hW⟩ hS dX5_hand_46
      · have hp := hp.2 c21
        refine zi_const M (-1) dX5_hand_33 rfl ?_
        exact zr_i M hr hlocks ((-1), σ19) rfl ⟨hp, hW⟩ hS dX5_hand_34
def P_X5_fail_L130 (K : List nKey) (k : Int → nS → Prop) (v1 : Int) (v2 : Int) (v3 : Int) : Nat → Int → Int → nS → Prop
  | 0 => fun _ _ _ => False
  | n + 1 => fun v4 v5 σ =>
    ((w v5 ≤ w v2 → 0 ≤ v1 ∧ v1 < 40 ∧ ∀ σ2 : nS, σ2 = s1 σ (12, 18, 0) (v1).toNat (v2 + 1) → 0 ≤ v4 ∧ v4 < 7680 ∧ ∀ x7 : Int, x7 = (σ2.1 (12, 17, 0) (v4).toNat) → 0 ≤ x7 ∧ x7 < 6 ∧ 0 ≤ (v4 + 4) ∧ (v4 + 4) < 7680 ∧ 0 ≤ x7 ∧ x7 < 6 ∧ ∀ σ12 : nS, σ12 = s1 σ2 (12, 10, 0) (x7).toNat ((σ2.1 (12, 10, 0) (x7).toNat) + (v3 - (σ2.1 (12, 17, 0) ((v4 + 4)).toNat))) → 0 ≤ (v4 + 1) ∧ (v4 + 1) < 7680 ∧ 0 ≤ (v4 + 2) ∧ (v4 + 2) < 7680 ∧ ∀ σ17 : nS, σ17 = s1 σ12 (12, 17, 0) ((v4 + 2)).toNat (σ12.1 (12, 17, 0) ((v4 + 1)).toNat) → 0 ≤ (v4 + 4) ∧ (v4 + 4) < 7680 ∧ ∀ σ20 : nS, σ20 = s1 σ17 (12, 17, 0) ((v4 + 4)).toNat v3 → 0 ≤ (v4 + 5) ∧ (v4 + 5) < 7680 ∧ ∀ σ23 : nS, σ23 = s1 σ20 (12, 17, 0) ((v4 + 5)).toNat 1 → 0 ≤ (v4 + 1) ∧ (v4 + 1) < 7680 ∧ 0 ≤ x7 ∧ x7 < 6 ∧ ∀ σ28 : nS, σ28 = s1 σ23 (12, 6, 0) (x7).toNat (σ23.1 (12, 17, 0) ((v4 + 1)).toNat) → 0 ≤ x7 ∧ x7 < 6 ∧ ∀ σ31 : nS, σ31 = s1 σ28 (12, 8, 0) (x7).toNat 1 → 0 ≤ v1 ∧ v1 < 40 ∧ 0 ≤ (v4 + 1) ∧ (v4 + 1) < 7680 ∧ 0 ≤ v1 ∧ v1 < 40 ∧ P_X5_findBest K σ31 (σ31.1 (12, 11, 0) (v1).toNat) (σ31.1 (12, 17, 0) ((v4 + 1)).toNat) v3 (σ31.1 (12, 13, 0) (v1).toNat) (fun r41 σ40 => ((w r41 ≠ 0 → 0 ≤ (v4 + 1) ∧ (v4 + 1) < 7680 ∧ P_X5_ride K σ40 v1 (σ40.1 (12, 17, 0) ((v4 + 1)).toNat) (fun σ45 => P_X5_endOf K σ45 v1 (fun r47 σ46 => k r47 σ46))) ∧ (w r41 = 0 → 0 ≤ v1 ∧ v1 < 40 ∧ ∀ σ48 : nS, σ48 = s1 σ40 (12, 16, 0) (v1).toNat 2 → k (-2) σ48)))) ∧ (w v2 < w v5 → ∀ x51 : Int, x51 = (8 * ((24 * v1) + v5)) → 0 ≤ x51 ∧ x51 < 7680 ∧ ∀ x54 : Int, x54 = (σ.1 (12, 17, 0) (x51).toNat) → 0 ≤ (x51 + 6) ∧ (x51 + 6) < 7680 ∧ 0 ≤ x54 ∧ x54 < 6 ∧ ∀ σ57 : nS, σ57 = s1 σ (12, 6, 0) (x54).toNat (σ.1 (12, 17, 0) ((x51 + 6)).toNat) → 0 ≤ (x51 + 7) ∧ (x51 + 7) < 7680 ∧ 0 ≤ x54 ∧ x54 < 6 ∧ ∀ σ62 : nS, σ62 = s1 σ57 (12, 7, 0) (x54).toNat (σ57.1 (12, 17, 0) ((x51 + 7)).toNat) → 0 ≤ x54 ∧ x54 < 6 ∧ 0 ≤ x54 ∧ x54 < 6 ∧ ∀ σ67 : nS, σ67 = s1 σ62 (12, 9, 0) (x54).toNat ((σ62.1 (12, 9, 0) (x54).toNat) - 1) → 0 ≤ x54 ∧ x54 < 6 ∧ 0 ≤ (x51 + 4) ∧ (x51 + 4) < 7680 ∧ 0 ≤ (x51 + 3) ∧ (x51 + 3) < 7680 ∧ 0 ≤ x54 ∧ x54 < 6 ∧ ∀ σ76 : nS, σ76 = s1 σ67 (12, 10, 0) (x54).toNat ((σ67.1 (12, 10, 0) (x54).toNat) - ((σ67.1 (12, 17, 0) ((x51 + 4)).toNat) - (σ67.1 (12, 17, 0) ((x51 + 3)).toNat))) → ∀ x79 : Int, x79 = v5 + (-1) → (P_X5_fail_L130 K k v1 v2 v3 n) v4 x79 σ76))
def P_X5_fail_L80 (K : List nKey) (k : Int → nS → Prop) (v1 : Int) (v2 : Int) (v3 : Int) : Nat → Int → Int → nS → Prop
  | 0 => fun _ _ _ => False
  | n + 1 => fun v4 v5 σ =>
    0 ≤ v1 ∧ v1 < 40 ∧ ((w (σ.1 (12, 18, 0) (v1).toNat) ≤ w v5 → 0 ≤ v1 ∧ v1 < 40 ∧ ∀ x85 : Int, x85 = ((σ.1 (12, 18, 0) (v1).toNat) - 1) → ∃ f86 : Nat, P_X5_fail_L130 K k v1 v2 v3 f86 v4 x85 σ) ∧ (w v5 < w (σ.1 (12, 18, 0) (v1).toNat) → 0 ≤ ((8 * ((24 * v1) + v5)) + 5) ∧ ((8 * ((24 * v1) + v5)) + 5) < 7680 ∧ ((w (σ.1 (12, 17, 0) (((8 * ((24 * v1) + v5)) + 5)).toNat) ≠ 1 → ∀ x90 : Int, x90 = v5 + 1 → (P_X5_fail_L80 K k v1 v2 v3 n) v4 x90 σ) ∧ (w (σ.1 (12, 17, 0) (((8 * ((24 * v1) + v5)) + 5)).toNat) = 1 → k (-1) σ))))
def P_X5_fail (K : List nKey) (σ : nS) (v1 : Int) (v2 : Int) (v3 : Int) (k : Int → nS → Prop) : Prop :=
  ∀ σ91 : nS, σ91 = s1 σ (11, 0, 0) 24 0 → P_X5_isCall K σ91 v1 (fun r93 σ92 => ((w r93 = 0 → k (-1) σ92) ∧ (w r93 ≠ 0 → ((w v1 ≠ w (σ92.1 (11, 0, 0) 21) → k (-1) σ92) ∧ (w v1 = w (σ92.1 (11, 0, 0) 21) → 0 ≤ v1 ∧ v1 < 40 ∧ P_X5_in K σ92 v2 0 ((σ92.1 (12, 18, 0) (v1).toNat) - 1) (fun r99 σ98 => ((w r99 ≠ 0 → ∀ x101 : Int, x101 = (8 * ((24 * v1) + v2)) → 0 ≤ (x101 + 3) ∧ (x101 + 3) < 7680 ∧ 0 ≤ (x101 + 4) ∧ (x101 + 4) < 7680 ∧ P_X5_in K σ98 v3 (σ98.1 (12, 17, 0) ((x101 + 3)).toNat) (σ98.1 (12, 17, 0) ((x101 + 4)).toNat) (fun r107 σ106 => ((w r107 ≠ 0 → ∃ f109 : Nat, P_X5_fail_L80 K k v1 v2 v3 f109 x101 v2 σ106) ∧ (w r107 = 0 → k (-1) σ106)))) ∧ (w r99 = 0 → k (-1) σ98))))))))
def rmX5_fail : Room := { frames := 7, cells := 0, slots := 0, locals := 184 }
set_option maxHeartbeats 4000000 in
set_option maxRecDepth 100000 in
theorem w_X5_fail {l : Launch} {D : va_G} {ca : Nat → ClassId} {K : List nKey} {ad : nKey → Nat} {σ : nS} {sz : Nat} (hKC : KC K) {v1 : Int} {v2 : Int} {v3 : Int} {k : Int → nS → Prop} (hp : P_X5_fail K σ v1 v2 v3 k) : Met l yX5_fail (Cond.code yX5_fail cX5_fail 8 (some .int) :: UW) rmX5_fail (ZP D ca [.ref (ad (11, 0, 0)), .int (iN v1), .int (iN v2), .int (iN v3)] (ZB D K ad ca σ sz)) (ZQi D K ad ca sz k) 0 0 (FA K ad sz) := by
  refine z_start (cc := cX5_fail) (maxL := 8) (ret := (some .int)) (own := RX5) (K := K) (ad := ad) (σ := σ) (Qc := fun sz => ZQi D K ad ca sz k) (by decide) rfl (Nat.le_of_ble_eq_true rfl) ?_
  intro p e s m args below meth c M hr hlocks hW ls hl
  have hS : va_S (FA K ad s.heap.size) s.heap s.heap [] := va_S.rf
  have hA : ∀ q : Nat, s.heap.size ≤ q → FA K ad s.heap.size q := fun q h => Or.inr h
  replace hl : lv_has ls 8 [(0, .ref (ad (11, 0, 0))), (1, .int (iN v1)), (2, .int (iN v2)), (3, .int (iN v3))] := hl
  unfold P_X5_fail at hp
  have hL130 : ∀ (f130 : Nat) (v4 : Int) (v5 : Int) (σ : nS) (H : Heap) (locs : List Loc) (ls : Array Slot), P_X5_fail_L130 K k v1 v2 v3 f130 v4 v5 σ → XW D (FA K ad s.heap.size) K ad (cR ca ad σ) H → va_S (FA K ad s.heap.size) s.heap H locs → lv_has ls 8 [(0, .ref (ad (11, 0, 0))), (1, .int (iN v1)), (2, .int (iN v2)), (3, .int (iN v3)), (4, .int (iN v4)), (5, .int (iN v5))] → W p l e rmX5_fail s m args below meth c H locs 0 0 (MQ below (ZQi D K ad ca s.heap.size k) args s 0 0 (FA K ad s.heap.size)) (F0 m 130 ls []) := by
    intro f130
    induction f130 with
    | zero =>
      intro v4 v5 σ H locs ls  hp
      exact hp.elim
    | succ f130 ih130 =>
      intro v4 v5 σ H locs ls  hp hW hS hl
      refine z_il M dX5_fail_130 hl 5 rfl ?_
      refine z_il_n M dX5_fail_132 rfl hl 2 rfl ?_
      refine zw_le M (tgt := 237) dX5_fail_133 (by decide) rfl rfl (fun c1 => ?_) (fun c1 => ?_)
      · have hp := hp.1 c1
        refine z_al_n M dX5_fail_237 rfl hl 0 rfl ?_
        refine zg_X5_23 M u_hin5 hW hKC.k11 (M.hts _ u_fl_X5_72) dX5_fail_238 ?_
        refine z_il_n M dX5_fail_241 rfl hl 1 rfl ?_
        refine z_il_n M dX5_fail_242 rfl hl 2 rfl ?_
        refine zi_const M 1 dX5_fail_243 rfl ?_
        refine zi_add M dX5_fail_244 ?_
        obtain ⟨h3, h4, hp⟩ := hp
        obtain ⟨σ2, eσ2⟩ : ∃ z : nS, z = s1 σ (12, 18, 0) (v1).toNat (v2 + 1) := ⟨_, rfl⟩
        have hp := hp σ2 eσ2
        refine zs_i (n := 40) M hW hS (hKC.k12 (by decide)) (fun _ _ => rfl) h3 h4 (by decide) dX5_fail_245 (fun H locs hW hS => ?_)
        rw [← eσ2] at hW
        refine z_al_n M dX5_fail_246 rfl hl 0 rfl ?_
        refine zg_X5_22 M u_hin5 hW hKC.k11 (M.hts _ u_fl_X5_69) dX5_fail_247 ?_
        refine z_il M dX5_fail_250 hl 4 rfl ?_
        obtain ⟨h5, h6, hp⟩ := hp
        refine za_i (n := 7680) M hW (hKC.k12 (by decide)) (fun _ _ => rfl) h5 h6 (by decide) dX5_fail_252 ?_
        refine zi_nm (fun x7 ex7 => ?_)
        have hp := hp x7 ex7
        refine z_is M [(5, .int (iN x7)), (0, .ref (ad (11, 0, 0))), (1, .int (iN v1)), (2, .int (iN v2)), (3, .int (iN v3)), (4, .int (iN v4))] dX5_fail_253 hl (by decide) rfl (fun ls hl => ?_)
        refine z_al_n M dX5_fail_255 rfl hl 1 rfl ?_
        refine zg_X5_11 M u_hin5 hW hKC.k11 (M.hts _ u_fl_X5_41) dX5_fail_256 ?_
        refine z_il M dX5_fail_259 hl 0 rfl ?_
        refine z_dup2 M dX5_fail_261 rfl rfl ?_
        obtain ⟨h8, h9, hp⟩ := hp
        refine za_i (n := 6) M hW (hKC.k12 (by decide)) (fun _ _ => rfl) h8 h9 (by decide) dX5_fail_262 ?_
        refine z_il_n M dX5_fail_263 rfl hl 4 rfl ?_
        refine z_al_n M dX5_fail_264 rfl hl 1 rfl ?_
        refine zg_X5_22 M u_hin5 hW hKC.k11 (M.hts _ u_fl_X5_69) dX5_fail_265 ?_
        refine z_il M dX5_fail_268 hl 5 rfl ?_
        refine zi_const M 4 dX5_fail_270 rfl ?_
        refine zi_add M dX5_fail_271 ?_
        obtain ⟨h10, h11, hp⟩ := hp
        refine za_i (n := 7680) M hW (hKC.k12 (by decide)) (fun _ _ => rfl) h10 h11 (by decide) dX5_fail_272 ?_
        refine zi_sub M dX5_fail_273 ?_
        refine zi_add M dX5_fail_274 ?_
        obtain ⟨h13, h14, hp⟩ := hp
        obtain ⟨σ12, eσ12⟩ : ∃ z : nS, z = s1 σ2 (12, 10, 0) (x7).toNat ((σ2.1 (12, 10, 0) (x7).toNat) + (v3 - (σ2.1 (12, 17, 0) ((v4 + 4)).toNat))) := ⟨_, rfl⟩
        have hp := hp σ12 eσ12
        refine zs_i (n := 6) M hW hS (hKC.k12 (by decide)) (fun _ _ => rfl) h13 h14 (by decide) dX5_fail_275 (fun H locs hW hS => ?_)
        rw [← eσ12] at hW
        refine z_al_n M dX5_fail_276 rfl hl 1 rfl ?_
        refine zg_X5_22 M u_hin5 hW hKC.k11 (M.hts _ u_fl_X5_69) dX5_fail_277 ?_
        refine z_il M dX5_fail_280 hl 5 rfl ?_
        refine zi_const M 2 dX5_fail_282 rfl ?_
        refine zi_add M dX5_fail_283 ?_
        refine z_al_n M dX5_fail_284 rfl hl 1 rfl ?_
        refine zg_X5_22 M u_hin5 hW hKC.k11 (M.hts _ u_fl_X5_69) dX5_fail_285 ?_
        refine z_il M dX5_fail_288 hl 5 rfl ?_
        refine zi_const M 1 dX5_fail_290 rfl ?_
        refine zi_add M dX5_fail_291 ?_
        obtain ⟨h15, h16, hp⟩ := hp
        refine za_i (n := 7680) M hW (hKC.k12 (by decide)) (fun _ _ => rfl) h15 h16 (by decide) dX5_fail_292 ?_
        obtain ⟨h18, h19, hp⟩ := hp
        obtain ⟨σ17, eσ17⟩ : ∃ z : nS, z = s1 σ12 (12, 17, 0) ((v4 + 2)).toNat (σ12.1 (12, 17, 0) ((v4 + 1)).toNat) := ⟨_, rfl⟩
        have hp := hp σ17 eσ17
        refine zs_i (n := 7680) M hW hS (hKC.k12 (by decide)) (fun _ _ => rfl) h18 h19 (by decide) dX5_fail_293 (fun H locs hW hS => ?_)
        rw [← eσ17] at hW
        refine z_al_n M dX5_fail_294 rfl hl 1 rfl ?_
        refine zg_X5_22 M u_hin5 hW hKC.k11 (M.hts _ u_fl_X5_69) dX5_fail_295 ?_
        refine z_il M dX5_fail_298 hl 5 rfl ?_
        refine zi_const M 4 dX5_fail_300 rfl ?_
        refine zi_add M dX5_fail_301 ?_
        refine z_il_n M dX5_fail_302 rfl hl 4 rfl ?_
        obtain ⟨h21, h22, hp⟩ := hp
        obtain ⟨σ20, eσ20⟩ : ∃ z : nS, z = s1 σ17 (12, 17, 0) ((v4 + 4)).toNat v3 := ⟨_, rfl⟩
        have hp := hp σ20 eσ20
        refine zs_i (n := 7680) M hW hS (hKC.k12 (by decide)) (fun _ _ => rfl) h21 h22 (by decide) dX5_fail_303 (fun H locs hW hS => ?_)
        rw [← eσ20] at hW
        refine z_al_n M dX5_fail_304 rfl hl 1 rfl ?_
        refine zg_X5_22 M u_hin5 hW hKC.k11 (M.hts _ u_fl_X5_69) dX5_fail_305 ?_
        refine z_il M dX5_fail_308 hl 5 rfl ?_
        refine zi_const M 5 dX5_fail_310 rfl ?_
        refine zi_add M dX5_fail_311 ?_
        refine zi_const M 1 dX5_fail_312 rfl ?_
        obtain ⟨h24, h25, hp⟩ := hp
        obtain ⟨σ23, eσ23⟩ : ∃ z : nS, z = s1 σ20 (12, 17, 0) ((v4 + 5)).toNat 1 := ⟨_, rfl⟩
        have hp := hp σ23 eσ23
        refine zs_i (n := 7680) M hW hS (hKC.k12 (by decide)) (fun _ _ => rfl) h24 h25 (by decide) dX5_fail_313 (fun H locs hW hS => ?_)
        rw [← eσ23] at hW
        refine z_al_n M dX5_fail_314 rfl hl 1 rfl ?_
        refine zg_X5_7 M u_hin5 hW hKC.k11 (M.hts _ u_fl_X5_28) dX5_fail_315 ?_
        refine z_il M dX5_fail_318 hl 0 rfl ?_
        refine z_al_n M dX5_fail_320 rfl hl 1 rfl ?_
        refine zg_X5_22 M u_hin5 hW hKC.k11 (M.hts _ u_fl_X5_69) dX5_fail_321 ?_
        refine z_il M dX5_fail_324 hl 5 rfl ?_
        refine zi_const M 1 dX5_fail_326 rfl ?_
        refine zi_add M dX5_fail_327 ?_
        obtain ⟨h26, h27, hp⟩ := hp
        refine za_i (n := 7680) M hW (hKC.k12 (by decide)) (fun _ _ => rfl) h26 h27 (by decide) dX5_fail_328 ?_
        obtain ⟨h29, h30, hp⟩ := hp
        obtain ⟨σ28, eσ28⟩ : ∃ z : nS, z = s1 σ23 (12, 6, 0) (x7).toNat (σ23.1 (12, 17, 0) ((v4 + 1)).toNat) := ⟨_, rfl⟩
        have hp := hp σ28 eσ28
        refine zs_i (n := 6) M hW hS (hKC.k12 (by decide)) (fun _ _ => rfl) h29 h30 (by decide) dX5_fail_329 (fun H locs hW hS => ?_)
        rw [← eσ28] at hW
        refine z_al_n M dX5_fail_330 rfl hl 1 rfl ?_
        refine zg_X5_9 M u_hin5 hW hKC.k11 (M.hts _ u_fl_X5_34) dX5_fail_331 ?_
        refine z_il M dX5_fail_334 hl 0 rfl ?_
        refine zi_const M 1 dX5_fail_336 rfl ?_
        obtain ⟨h32, h33, hp⟩ := hp
        obtain ⟨σ31, eσ31⟩ : ∃ z : nS, z = s1 σ28 (12, 8, 0) (x7).toNat 1 := ⟨_, rfl⟩
        have hp := hp σ31 eσ31
        refine zs_z (n := 6) M hW hS (hKC.k12 (by decide)) (fun _ _ => rfl) h32 h33 (by decide) (by decide) dX5_fail_337 (fun H locs hW hS => ?_)
        rw [← eσ31] at hW
        refine z_al_n M dX5_fail_338 rfl hl 1 rfl ?_
        refine z_al_n M dX5_fail_339 rfl hl 1 rfl ?_
        refine zg_X5_14 M u_hin5 hW hKC.k11 (M.hts _ u_fl_X5_48) dX5_fail_340 ?_
        refine z_il_n M dX5_fail_343 rfl hl 2 rfl ?_
        obtain ⟨h34, h35, hp⟩ := hp
        refine za_i (n := 40) M hW (hKC.k12 (by decide)) (fun _ _ => rfl) h34 h35 (by decide) dX5_fail_344 ?_
        refine z_al_n M dX5_fail_345 rfl hl 1 rfl ?_
        refine zg_X5_22 M u_hin5 hW hKC.k11 (M.hts _ u_fl_X5_69) dX5_fail_346 ?_
        refine z_il M dX5_fail_349 hl 5 rfl ?_
        refine zi_const M 1 dX5_fail_351 rfl ?_
        refine zi_add M dX5_fail_352 ?_
        obtain ⟨h36, h37, hp⟩ := hp
        refine za_i (n := 7680) M hW (hKC.k12 (by decide)) (fun _ _ => rfl) h36 h37 (by decide) dX5_fail_353 ?_
        refine z_il_n M dX5_fail_354 rfl hl 4 rfl ?_
        refine z_al_n M dX5_fail_355 rfl hl 1 rfl ?_
        refine zg_X5_16 M u_hin5 hW hKC.k11 (M.hts _ u_fl_X5_54) dX5_fail_356 ?_
        refine z_il_n M dX5_fail_359 rfl hl 2 rfl ?_
        obtain ⟨h38, h39, hp⟩ := hp
        refine za_i (n := 40) M hW (hKC.k12 (by decide)) (fun _ _ => rfl) h38 h39 (by decide) dX5_fail_360 ?_
        have hfa := hW.fa hS hA
        refine zc_VU (As := [.int (iN (σ31.1 (12, 11, 0) (v1).toNat)), .int (iN (σ31.1 (12, 17, 0) ((v4 + 1)).toNat)), .int (iN v3), .int (iN (σ31.1 (12, 13, 0) (v1).toNat))]) (rest := []) M (w_X5_findBest hKC  hp) (cuV M 4 u_co_X5_findBest u_ml_X5_160 u_ini_X5 u_in_X5_findBest u_se_X5_findBest (by decide +kernel) rfl rfl ⟨Nat.le_of_ble_eq_true rfl, Nat.le_of_ble_eq_true rfl⟩) (z_recv M hW hKC.k11 rfl rfl) ⟨rfl, hW.weaken (fun _ _ => trivial)⟩ rfl hl rfl (Nat.le_of_ble_eq_true rfl) ⟨Nat.zero_le _, Nat.zero_le _⟩ dX5_fail_361 hS hfa (fun u H locs hw _ _ hS => ?_)
        obtain ⟨r41, σ40⟩ := u
        obtain ⟨hp, hW2⟩ := hw
        have hW := hW2.weaken hfa
        try dsimp only at hp
        refine zv_ne M (tgt := 377) dX5_fail_364 (by decide) rfl (fun c42 => ?_) (fun c42 => ?_)
        · have hp := hp.1 c42
          refine z_al_n M dX5_fail_377 rfl hl 1 rfl ?_
          refine z_il_n M dX5_fail_378 rfl hl 2 rfl ?_
          refine z_al_n M dX5_fail_379 rfl hl 1 rfl ?_
          refine zg_X5_22 M u_hin5 hW hKC.k11 (M.hts _ u_fl_X5_69) dX5_fail_380 ?_
          refine z_il M dX5_fail_383 hl 5 rfl ?_
          refine zi_const M 1 dX5_fail_385 rfl ?_
          refine zi_add M dX5_fail_386 ?_
          obtain ⟨h43, h44, hp⟩ := hp
          refine za_i (n := 7680) M hW (hKC.k12 (by decide)) (fun _ _ => rfl) h43 h44 (by decide) dX5_fail_387 ?_
          have hfa := hW.fa hS hA
          refine zc_VU (As := [.int (iN v1), .int (iN (σ40.1 (12, 17, 0) ((v4 + 1)).toNat))]) (rest := []) M (w_X5_ride hKC  hp) (cuV M 2 u_co_X5_ride u_ml_X5_164 u_ini_X5 u_in_X5_ride u_se_X5_ride (by decide +kernel) rfl rfl ⟨Nat.le_of_ble_eq_true rfl, Nat.le_of_ble_eq_true rfl⟩) (z_recv M hW hKC.k11 rfl rfl) ⟨rfl, hW.weaken (fun _ _ => trivial)⟩ rfl hl rfl (Nat.le_of_ble_eq_true rfl) ⟨Nat.zero_le _, Nat.zero_le _⟩ dX5_fail_388 hS hfa (fun σ45 H locs hw _ _ hS => ?_)
          obtain ⟨hp, hW2⟩ := hw
          have hW := hW2.weaken hfa
          try dsimp only at hp
          refine z_al_n M dX5_fail_391 rfl hl 1 rfl ?_
          refine z_il_n M dX5_fail_392 rfl hl 2 rfl ?_
          have hfa := hW.fa hS hA
          refine zc_VU (As := [.int (iN v1)]) (rest := []) M (w_X5_endOf hKC  hp) (cuV M 1 u_co_X5_endOf u_ml_X5_130 u_ini_X5 u_in_X5_endOf u_se_X5_endOf (by decide +kernel) rfl rfl ⟨Nat.le_of_ble_eq_true rfl, Nat.le_of_ble_eq_true rfl⟩) (z_recv M hW hKC.k11 rfl rfl) ⟨rfl, hW.weaken (fun _ _ => trivial)⟩ rfl hl rfl (Nat.le_of_ble_eq_true rfl) ⟨Nat.zero_le _, Nat.zero_le _⟩ dX5_fail_393 hS hfa (fun u H locs hw _ _ hS => ?_)
          obtain ⟨r47, σ46⟩ := u
          obtain ⟨hp, hW2⟩ := hw
          have hW := hW2.weaken hfa
          try dsimp only at hp
          exact zr_i M hr hlocks (r47, σ46) rfl ⟨hp, hW⟩ hS dX5_fail_396
        · have hp := hp.2 c42
          refine z_al_n M dX5_fail_367 rfl hl 1 rfl ?_
          refine zg_X5_19 M u_hin5 hW hKC.k11 (M.hts _ u_fl_X5_63) dX5_fail_368 ?_
          refine z_il_n M dX5_fail_371 rfl hl 2 rfl ?_
          refine zi_const M 2 dX5_fail_372 rfl ?_
          obtain ⟨h49, h50, hp⟩ := hp
          obtain ⟨σ48, eσ48⟩ : ∃ z : nS, z = s1 σ40 (12, 16, 0) (v1).toNat 2 := ⟨_, rfl⟩
          have hp := hp σ48 eσ48
          refine zs_i (n := 40) M hW hS (hKC.k12 (by decide)) (fun _ _ => rfl) h49 h50 (by decide) dX5_fail_373 (fun H locs hW hS => ?_)
          rw [← eσ48] at hW
          refine zi_bi M (-2) dX5_fail_374 (by decide +kernel) ?_
          exact zr_i M hr hlocks ((-2), σ48) rfl ⟨hp, hW⟩ hS dX5_fail_376
      · have hp := hp.2 c1
        refine zi_bi M 8 dX5_fail_136 (by decide +kernel) ?_
        refine zi_bi M 24 dX5_fail_138 (by decide +kernel) ?_
        refine z_il_n M dX5_fail_140 rfl hl 1 rfl ?_
        refine zi_mul M dX5_fail_141 ?_
        refine z_il M dX5_fail_142 hl 5 rfl ?_
        refine zi_add M dX5_fail_144 ?_
        refine zi_mul M dX5_fail_145 ?_
        refine zi_nm (fun x51 ex51 => ?_)
        have hp := hp x51 ex51
        refine z_is M [(6, .int (iN x51)), (0, .ref (ad (11, 0, 0))), (1, .int (iN v1)), (2, .int (iN v2)), (3, .int (iN v3)), (4, .int (iN v4)), (5, .int (iN v5))] dX5_fail_146 hl (by decide) rfl (fun ls hl => ?_)
        refine z_al_n M dX5_fail_148 rfl hl 1 rfl ?_
        refine zg_X5_22 M u_hin5 hW hKC.k11 (M.hts _ u_fl_X5_69) dX5_fail_149 ?_
        refine z_il M dX5_fail_152 hl 0 rfl ?_
        obtain ⟨h52, h53, hp⟩ := hp
        refine za_i (n := 7680) M hW (hKC.k12 (by decide)) (fun _ _ => rfl) h52 h53 (by decide) dX5_fail_154 ?_
        refine zi_nm (fun x54 ex54 => ?_)
        have hp := hp x54 ex54
        refine z_is M [(7, .int (iN x54)), (6, .int (iN x51)), (0, .ref (ad (11, 0, 0))), (1, .int (iN v1)), (2, .int (iN v2)), (3, .int (iN v3)), (4, .int (iN v4)), (5, .int (iN v5))] dX5_fail_155 hl (by decide) rfl (fun ls hl => ?_)
        refine z_al_n M dX5_fail_157 rfl hl 2 rfl ?_
        refine zg_X5_7 M u_hin5 hW hKC.k11 (M.hts _ u_fl_X5_28) dX5_fail_158 ?_
        refine z_il M dX5_fail_161 hl 0 rfl ?_
        refine z_al_n M dX5_fail_163 rfl hl 2 rfl ?_
        refine zg_X5_22 M u_hin5 hW hKC.k11 (M.hts _ u_fl_X5_69) dX5_fail_164 ?_
        refine z_il M dX5_fail_167 hl 1 rfl ?_
        refine zi_bi M 6 dX5_fail_169 (by decide +kernel) ?_
        refine zi_add M dX5_fail_171 ?_
        obtain ⟨h55, h56, hp⟩ := hp
        refine za_i (n := 7680) M hW (hKC.k12 (by decide)) (fun _ _ => rfl) h55 h56 (by decide) dX5_fail_172 ?_
        obtain ⟨h58, h59, hp⟩ := hp
        obtain ⟨σ57, eσ57⟩ : ∃ z : nS, z = s1 σ (12, 6, 0) (x54).toNat (σ.1 (12, 17, 0) ((x51 + 6)).toNat) := ⟨_, rfl⟩
        have hp := hp σ57 eσ57
        refine zs_i (n := 6) M hW hS (hKC.k12 (by decide)) (fun _ _ => rfl) h58 h59 (by decide) dX5_fail_173 (fun H locs hW hS => ?_)
        rw [← eσ57] at hW
        refine z_al_n M dX5_fail_174 rfl hl 2 rfl ?_
        refine zg_X5_8 M u_hin5 hW hKC.k11 (M.hts _ u_fl_X5_31) dX5_fail_175 ?_
        refine z_il M dX5_fail_178 hl 0 rfl ?_
        refine z_al_n M dX5_fail_180 rfl hl 2 rfl ?_
        refine zg_X5_22 M u_hin5 hW hKC.k11 (M.hts _ u_fl_X5_69) dX5_fail_181 ?_
        refine z_il M dX5_fail_184 hl 1 rfl ?_
        refine zi_bi M 7 dX5_fail_186 (by decide +kernel) ?_
        refine zi_add M dX5_fail_188 ?_
        obtain ⟨h60, h61, hp⟩ := hp
        refine za_i (n := 7680) M hW (hKC.k12 (by decide)) (fun _ _ => rfl) h60 h61 (by decide) dX5_fail_189 ?_
        obtain ⟨h63, h64, hp⟩ := hp
        obtain ⟨σ62, eσ62⟩ : ∃ z : nS, z = s1 σ57 (12, 7, 0) (x54).toNat (σ57.1 (12, 17, 0) ((x51 + 7)).toNat) := ⟨_, rfl⟩
        have hp := hp σ62 eσ62
        refine zs_i (n := 6) M hW hS (hKC.k12 (by decide)) (fun _ _ => rfl) h63 h64 (by decide) dX5_fail_190 (fun H locs hW hS => ?_)
        rw [← eσ62] at hW
        refine z_al_n M dX5_fail_191 rfl hl 2 rfl ?_
        refine zg_X5_10 M u_hin5 hW hKC.k11 (M.hts _ u_fl_X5_38) dX5_fail_192 ?_
        refine z_il M dX5_fail_195 hl 0 rfl ?_
        refine z_dup2 M dX5_fail_197 rfl rfl ?_
        obtain ⟨h65, h66, hp⟩ := hp
        refine za_i (n := 6) M hW (hKC.k12 (by decide)) (fun _ _ => rfl) h65 h66 (by decide) dX5_fail_198 ?_
        refine zi_const M 1 dX5_fail_199 rfl ?_
        refine zi_sub M dX5_fail_200 ?_
        obtain ⟨h68, h69, hp⟩ := hp
        obtain ⟨σ67, eσ67⟩ : ∃ z : nS, z = s1 σ62 (12, 9, 0) (x54).toNat ((σ62.1 (12, 9, 0) (x54).toNat) - 1) := ⟨_, rfl⟩
        have hp := hp σ67 eσ67
        refine zs_i (n := 6) M hW hS (hKC.k12 (by decide)) (fun _ _ => rfl) h68 h69 (by decide) dX5_fail_201 (fun H locs hW hS => ?_)
        rw [← eσ67] at hW
        refine z_al_n M dX5_fail_202 rfl hl 2 rfl ?_
        refine zg_X5_11 M u_hin5 hW hKC.k11 (M.hts _ u_fl_X5_41) dX5_fail_203 ?_
        refine z_il M dX5_fail_206 hl 0 rfl ?_
        refine z_dup2 M dX5_fail_208 rfl rfl ?_
        obtain ⟨h70, h71, hp⟩ := hp
        refine za_i (n := 6) M hW (hKC.k12 (by decide)) (fun _ _ => rfl) h70 h71 (by decide) dX5_fail_209 ?_
        refine z_al_n M dX5_fail_210 rfl hl 2 rfl ?_
        refine zg_X5_22 M u_hin5 hW hKC.k11 (M.hts _ u_fl_X5_69) dX5_fail_211 ?_
        refine z_il M dX5_fail_214 hl 1 rfl ?_
        refine zi_const M 4 dX5_fail_216 rfl ?_
        refine zi_add M dX5_fail_217 ?_
        obtain ⟨h72, h73, hp⟩ := hp
        refine za_i (n := 7680) M hW (hKC.k12 (by decide)) (fun _ _ => rfl) h72 h73 (by decide) dX5_fail_218 ?_
        refine z_al_n M dX5_fail_219 rfl hl 2 rfl ?_
        refine zg_X5_22 M u_hin5 hW hKC.k11 (M.hts _ u_fl_X5_69) dX5_fail_220 ?_
        refine z_il M dX5_fail_223 hl 1 rfl ?_
        refine zi_const M 3 dX5_fail_225 rfl ?_
        refine zi_add M dX5_fail_226 ?_
        obtain ⟨h74, h75, hp⟩ := hp
        refine za_i (n := 7680) M hW (hKC.k12 (by decide)) (fun _ _ => rfl) h74 h75 (by decide) dX5_fail_227 ?_
        refine zi_sub M dX5_fail_228 ?_
        refine zi_sub M dX5_fail_229 ?_
        obtain ⟨h77, h78, hp⟩ := hp
        obtain ⟨σ76, eσ76⟩ : ∃ z : nS, z = s1 σ67 (12, 10, 0) (x54).toNat ((σ67.1 (12, 10, 0) (x54).toNat) - ((σ67.1 (12, 17, 0) ((x51 + 4)).toNat) - (σ67.1 (12, 17, 0) ((x51 + 3)).toNat))) := ⟨_, rfl⟩
        have hp := hp σ76 eσ76
        refine zs_i (n := 6) M hW hS (hKC.k12 (by decide)) (fun _ _ => rfl) h77 h78 (by decide) dX5_fail_230 (fun H locs hW hS => ?_)
        rw [← eσ76] at hW
        obtain ⟨x79, ex79⟩ : ∃ z : Int, z = v5 + (-1) := ⟨_, rfl⟩
        have hp := hp x79 ex79
        refine z_inc M [(5, .int (iN x79)), (7, .int (iN x54)), (6, .int (iN x51)), (0, .ref (ad (11, 0, 0))), (1, .int (iN v1)), (2, .int (iN v2)), (3, .int (iN v3)), (4, .int (iN v4))] x79 dX5_fail_231 hl 7 rfl ex79.symm (by decide) rfl (fun ls hl => ?_)
        refine zg M (tgt := 130) dX5_fail_234 (by decide) ?_
        exact ih130 v4 x79 σ76 _ _ _  hp hW hS (lv_sub hl [3, 4, 5, 6, 7, 0] rfl)
  have hL80 : ∀ (f80 : Nat) (v4 : Int) (v5 : Int) (σ : nS) (H : Heap) (locs : List Loc) (ls : Array Slot), P_X5_fail_L80 K k v1 v2 v3 f80 v4 v5 σ → XW D (FA K ad s.heap.size) K ad (cR ca ad σ) H → va_S (FA K ad s.heap.size) s.heap H locs → lv_has ls 8 [(0, .ref (ad (11, 0, 0))), (1, .int (iN v1)), (2, .int (iN v2)), (3, .int (iN v3)), (4, .int (iN v4)), (5, .int (iN v5))] → W p l e rmX5_fail s m args below meth c H locs 0 0 (MQ below (ZQi D K ad ca s.heap.size k) args s 0 0 (FA K ad s.heap.size)) (F0 m 80 ls []) := by
    intro f80
    induction f80 with
    | zero =>
      intro v4 v5 σ H locs ls  hp
      exact hp.elim
    | succ f80 ih80 =>
      intro v4 v5 σ H locs ls  hp hW hS hl
      refine z_il M dX5_fail_80 hl 5 rfl ?_
      refine z_al_n M dX5_fail_82 rfl hl 0 rfl ?_
      refine zg_X5_23 M u_hin5 hW hKC.k11 (M.hts _ u_fl_X5_72) dX5_fail_83 ?_
      refine z_il_n M dX5_fail_86 rfl hl 1 rfl ?_
      obtain ⟨h80, h81, hp⟩ := hp
      refine za_i (n := 40) M hW (hKC.k12 (by decide)) (fun _ _ => rfl) h80 h81 (by decide) dX5_fail_87 ?_
      refine zw_ge M (tgt := 120) dX5_fail_88 (by decide) rfl rfl (fun c82 => ?_) (fun c82 => ?_)
      · have hp := hp.1 c82
        refine z_al_n M dX5_fail_120 rfl hl 0 rfl ?_
        refine zg_X5_23 M u_hin5 hW hKC.k11 (M.hts _ u_fl_X5_72) dX5_fail_121 ?_
        refine z_il_n M dX5_fail_124 rfl hl 1 rfl ?_
        obtain ⟨h83, h84, hp⟩ := hp
        refine za_i (n := 40) M hW (hKC.k12 (by decide)) (fun _ _ => rfl) h83 h84 (by decide) dX5_fail_125 ?_
        refine zi_const M 1 dX5_fail_126 rfl ?_
        refine zi_sub M dX5_fail_127 ?_
        refine zi_nm (fun x85 ex85 => ?_)
        have hp := hp x85 ex85
        refine z_is M [(5, .int (iN x85)), (0, .ref (ad (11, 0, 0))), (1, .int (iN v1)), (2, .int (iN v2)), (3, .int (iN v3)), (4, .int (iN v4))] dX5_fail_128 hl (by decide) rfl (fun ls hl => ?_)
        obtain ⟨f86, hp⟩ := hp
        exact hL130 f86 v4 x85 σ _ _ _  hp hW hS (lv_sub hl [1, 2, 3, 4, 5, 0] rfl)
      · have hp := hp.2 c82
        refine z_al_n M dX5_fail_91 rfl hl 0 rfl ?_
        refine zg_X5_22 M u_hin5 hW hKC.k11 (M.hts _ u_fl_X5_69) dX5_fail_92 ?_
        refine zi_bi M 8 dX5_fail_95 (by decide +kernel) ?_
        refine zi_bi M 24 dX5_fail_97 (by decide +kernel) ?_
        refine z_il_n M dX5_fail_99 rfl hl 1 rfl ?_
        refine zi_mul M dX5_fail_100 ?_
        refine z_il M dX5_fail_101 hl 5 rfl ?_
        refine zi_add M dX5_fail_103 ?_
        refine zi_mul M dX5_fail_104 ?_
        refine zi_const M 5 dX5_fail_105 rfl ?_
        refine zi_add M dX5_fail_106 ?_
        obtain ⟨h87, h88, hp⟩ := hp
        refine za_i (n := 7680) M hW (hKC.k12 (by decide)) (fun _ _ => rfl) h87 h88 (by decide) dX5_fail_107 ?_
        refine zi_const M 1 dX5_fail_108 rfl ?_
        refine zw_ne M (tgt := 114) dX5_fail_109 (by decide) rfl (w_of ⟨by decide, by decide⟩) (fun c89 => ?_) (fun c89 => ?_)
        · have hp := hp.1 c89
          obtain ⟨x90, ex90⟩ : ∃ z : Int, z = v5 + 1 := ⟨_, rfl⟩
          have hp := hp x90 ex90
          refine z_inc M [(5, .int (iN x90)), (0, .ref (ad (11, 0, 0))), (1, .int (iN v1)), (2, .int (iN v2)), (3, .int (iN v3)), (4, .int (iN v4))] x90 dX5_fail_114 hl 5 rfl ex90.symm (by decide) rfl (fun ls hl => ?_)
          refine zg M (tgt := 80) dX5_fail_117 (by decide) ?_
          exact ih80 v4 x90 σ _ _ _  hp hW hS (lv_sub hl [1, 2, 3, 4, 5, 0] rfl)
        · have hp := hp.2 c89
          refine zi_const M (-1) dX5_fail_112 rfl ?_
          exact zr_i M hr hlocks ((-1), σ) rfl ⟨hp, hW⟩ hS dX5_fail_113
  refine z_al_n M dX5_fail_0 rfl hl 0 rfl ?_
  refine zi_const M 0 dX5_fail_1 rfl ?_
  obtain ⟨σ91, eσ91⟩ : ∃ z : nS, z = s1 σ (11, 0, 0) 24 0 := ⟨_, rfl⟩
  have hp := hp σ91 eσ91
  refine zp_X5_24 (v := 0) M u_hin5 hW hS hKC.k11 (M.hts _ u_fl_X5_102) dX5_fail_2 (fun H locs hW hS => ?_)
  rw [← eσ91] at hW
  refine z_al_n M dX5_fail_5 rfl hl 0 rfl ?_
  refine z_il_n M dX5_fail_6 rfl hl 1 rfl ?_
  have hfa := hW.fa hS hA
  refine zc_VU (As := [.int (iN v1)]) (rest := []) M (w_X5_isCall hKC  hp) (cuV M 1 u_co_X5_isCall u_ml_X5_157 u_ini_X5 u_in_X5_isCall u_se_X5_isCall (by decide +kernel) rfl rfl ⟨Nat.le_of_ble_eq_true rfl, Nat.le_of_ble_eq_true rfl⟩) (z_recv M hW hKC.k11 rfl rfl) ⟨rfl, hW.weaken (fun _ _ => trivial)⟩ rfl hl rfl (Nat.le_of_ble_eq_true rfl) ⟨Nat.zero_le _, Nat.zero_le _⟩ dX5_fail_7 hS hfa (fun u H locs hw _ _ hS => ?_)
  obtain ⟨r93, σ92⟩ := u
  obtain ⟨hp, hW2⟩ := hw
  have hW := hW2.weaken hfa
  try dsimp only at hp
  refine zv_eq M (tgt := 37) dX5_fail_10 (by decide) rfl (fun c94 => ?_) (fun c94 => ?_)
  · have hp := hp.1 c94
    refine zi_const M (-1) dX5_fail_37 rfl ?_
    exact zr_i M hr hlocks ((-1), σ92) rfl ⟨hp, hW⟩ hS dX5_fail_38
  · have hp := hp.2 c94
    refine z_il_n M dX5_fail_13 rfl hl 1 rfl ?_
    refine z_al_n M dX5_fail_14 rfl hl 0 rfl ?_
    refine zg_X5_21 M u_hin5 hW hKC.k11 (M.hts _ u_fl_X5_66) dX5_fail_15 ?_
    refine zw_ne M (tgt := 37) dX5_fail_18 (by decide) rfl rfl (fun c95 => ?_) (fun c95 => ?_)
    · have hp := hp.1 c95
      refine zi_const M (-1) dX5_fail_37 rfl ?_
      exact zr_i M hr hlocks ((-1), σ92) rfl ⟨hp, hW⟩ hS dX5_fail_38
    · have hp := hp.2 c95
      refine z_il_n M dX5_fail_21 rfl hl 2 rfl ?_
      refine zi_const M 0 dX5_fail_22 rfl ?_
      refine z_al_n M dX5_fail_23 rfl hl 0 rfl ?_
      refine zg_X5_23 M u_hin5 hW hKC.k11 (M.hts _ u_fl_X5_72) dX5_fail_24 ?_
      refine z_il_n M dX5_fail_27 rfl hl 1 rfl ?_
      obtain ⟨h96, h97, hp⟩ := hp
      refine za_i (n := 40) M hW (hKC.k12 (by decide)) (fun _ _ => rfl) h96 h97 (by decide) dX5_fail_28 ?_
      refine zi_const M 1 dX5_fail_29 rfl ?_
      refine zi_sub M dX5_fail_30 ?_
      have hfa := hW.fa hS hA
      refine zc_SU (As := [.int (iN v2), .int (iN 0), .int (iN ((σ92.1 (12, 18, 0) (v1).toNat) - 1))]) (rest := []) M (w_X5_in hKC  hp) (cuS M 3 u_co_X5_in u_ml_X5_108 u_ini_X5 u_st_X5_in (by decide +kernel) rfl rfl ⟨Nat.le_of_ble_eq_true rfl, Nat.le_of_ble_eq_true rfl⟩) ⟨rfl, hW.weaken (fun _ _ => trivial)⟩ rfl hl rfl (Nat.le_of_ble_eq_true rfl) ⟨Nat.zero_le _, Nat.zero_le _⟩ dX5_fail_31 hS hfa (fun u H locs hw _ _ hS => ?_)
      obtain ⟨r99, σ98⟩ := u
      obtain ⟨hp, hW2⟩ := hw
      have hW := hW2.weaken hfa
      try dsimp only at hp
      refine zv_ne M (tgt := 39) dX5_fail_34 (by decide) rfl (fun c100 => ?_) (fun c100 => ?_)
      · have hp := hp.1 c100
        refine zi_bi M 8 dX5_fail_39 (by decide +kernel) ?_
        refine zi_bi M 24 dX5_fail_41 (by decide +kernel) ?_
        refine z_il_n M dX5_fail_43 rfl hl 1 rfl ?_
        refine zi_mul M dX5_fail_44 ?_
        refine z_il_n M dX5_fail_45 rfl hl 2 rfl ?_
        refine zi_add M dX5_fail_46 ?_
        refine zi_mul M dX5_fail_47 ?_
        refine zi_nm (fun x101 ex101 => ?_)
        have hp := hp x101 ex101
        refine z_is M [(4, .int (iN x101)), (0, .ref (ad (11, 0, 0))), (1, .int (iN v1)), (2, .int (iN v2)), (3, .int (iN v3))] dX5_fail_48 hl (by decide) rfl (fun ls hl => ?_)
        refine z_il_n M dX5_fail_50 rfl hl 4 rfl ?_
        refine z_al_n M dX5_fail_51 rfl hl 1 rfl ?_
        refine zg_X5_22 M u_hin5 hW hKC.k11 (M.hts _ u_fl_X5_69) dX5_fail_52 ?_
        refine z_il M dX5_fail_55 hl 0 rfl ?_
        refine zi_const M 3 dX5_fail_57 rfl ?_
        refine zi_add M dX5_fail_58 ?_
        obtain ⟨h102, h103, hp⟩ := hp
        refine za_i (n := 7680) M hW (hKC.k12 (by decide)) (fun _ _ => rfl) h102 h103 (by decide) dX5_fail_59 ?_
        refine z_al_n M dX5_fail_60 rfl hl 1 rfl ?_
        refine zg_X5_22 M u_hin5 hW hKC.k11 (M.hts _ u_fl_X5_69) dX5_fail_61 ?_
        refine z_il M dX5_fail_64 hl 0 rfl ?_
        refine zi_const M 4 dX5_fail_66 rfl ?_
        refine zi_add M dX5_fail_67 ?_
        obtain ⟨h104, h105, hp⟩ := hp
        refine za_i (n := 7680) M hW (hKC.k12 (by decide)) (fun _ _ => rfl) h104 h105 (by decide) dX5_fail_68 ?_
        have hfa := hW.fa hS hA
        refine zc_SU (As := [.int (iN v3), .int (iN (σ98.1 (12, 17, 0) ((x101 + 3)).toNat)), .int (iN (σ98.1 (12, 17, 0) ((x101 + 4)).toNat))]) (rest := []) M (w_X5_in hKC  hp) (cuS M 3 u_co_X5_in u_ml_X5_108 u_ini_X5 u_st_X5_in (by decide +kernel) rfl rfl ⟨Nat.le_of_ble_eq_true rfl, Nat.le_of_ble_eq_true rfl⟩) ⟨rfl, hW.weaken (fun _ _ => trivial)⟩ rfl hl rfl (Nat.le_of_ble_eq_true rfl) ⟨Nat.zero_le _, Nat.zero_le _⟩ dX5_fail_69 hS hfa (fun u H locs hw _ _ hS => ?_)
        obtain ⟨r107, σ106⟩ := u
        obtain ⟨hp, hW2⟩ := hw
        have hW := hW2.weaken hfa
        try dsimp only at hp
        refine zv_ne M (tgt := 77) dX5_fail_72 (by decide) rfl (fun c108 => ?_) (fun c108 => ?_)
        · have hp := hp.1 c108
          refine z_il_n M dX5_fail_77 rfl hl 3 rfl ?_
          refine z_is M [(5, .int (iN v2)), (4, .int (iN x101)), (0, .ref (ad (11, 0, 0))), (1, .int (iN v1)), (2, .int (iN v2)), (3, .int (iN v3))] dX5_fail_78 hl (by decide) rfl (fun ls hl => ?_)
          obtain ⟨f109, hp⟩ := hp
          exact hL80 f109 x101 v2 σ106 _ _ _  hp hW hS (lv_sub hl [2, 3, 4, 5, 1, 0] rfl)
        · have hp := hp.2 c108
          refine zi_const M (-1) dX5_fail_75 rfl ?_
          exact zr_i M hr hlocks ((-1), σ106) rfl ⟨hp, hW⟩ hS dX5_fail_76
      · have hp := hp.2 c100
        refine zi_const M (-1) dX5_fail_37 rfl ?_
        exact zr_i M hr hlocks ((-1), σ98) rfl ⟨hp, hW⟩ hS dX5_fail_38
def P_X5_next_L32 (K : List nKey) (k : Int → nS → Prop) (v1 : Int) (v2 : Int) : Nat → Int → Int → Int → nS → Prop
  | 0 => fun _ _ _ _ => False
  | n + 1 => fun v3 v4 v5 σ =>
    ((w (σ.1 (11, 0, 0) 12) ≤ w v5 → k v3 σ) ∧ (w v5 < w (σ.1 (11, 0, 0) 12) → 0 ≤ v5 ∧ v5 < 6 ∧ P_X5_wayOf K σ v5 (σ.1 (12, 6, 0) (v5).toNat) v2 (fun r5 σ4 => P_X5_mayCarry K σ4 v5 v1 (fun r7 σ6 => ((w r7 = 0 → ∀ x9 : Int, x9 = v5 + 1 → (P_X5_next_L32 K k v1 v2 n) v3 v4 x9 σ6) ∧ (w r7 ≠ 0 → ((w r5 ≠ 1000000 → 0 ≤ v5 ∧ v5 < 6 ∧ 0 ≤ v5 ∧ v5 < 6 ∧ ∀ x15 : Int, x15 = ((mxI (σ6.1 (12, 7, 0) (v5).toNat) (σ6.1 (12, 3, 0) (v5).toNat)) + r5) → 0 ≤ v5 ∧ v5 < 6 ∧ ((w (σ6.1 (12, 4, 0) (v5).toNat) < w x15 → ∀ x19 : Int, x19 = v5 + 1 → (P_X5_next_L32 K k v1 v2 n) v3 v4 x19 σ6) ∧ (w x15 ≤ w (σ6.1 (12, 4, 0) (v5).toNat) → ((w v3 = (-1) → ∀ x21 : Int, x21 = v5 + 1 → (P_X5_next_L32 K k v1 v2 n) v5 x15 x21 σ6) ∧ (w v3 ≠ (-1) → 0 ≤ v5 ∧ v5 < 6 ∧ 0 ≤ v3 ∧ v3 < 6 ∧ ((w (σ6.1 (12, 9, 0) (v3).toNat) < w (σ6.1 (12, 9, 0) (v5).toNat) → ∀ x27 : Int, x27 = v5 + 1 → (P_X5_next_L32 K k v1 v2 n) v3 v4 x27 σ6) ∧ (w (σ6.1 (12, 9, 0) (v5).toNat) ≤ w (σ6.1 (12, 9, 0) (v3).toNat) → 0 ≤ v5 ∧ v5 < 6 ∧ 0 ≤ v3 ∧ v3 < 6 ∧ ((w (σ6.1 (12, 9, 0) (v5).toNat) ≠ w (σ6.1 (12, 9, 0) (v3).toNat) → ∀ x33 : Int, x33 = v5 + 1 → (P_X5_next_L32 K k v1 v2 n) v5 x15 x33 σ6) ∧ (w (σ6.1 (12, 9, 0) (v5).toNat) = w (σ6.1 (12, 9, 0) (v3).toNat) → ((w x15 < w v4 → ∀ x35 : Int, x35 = v5 + 1 → (P_X5_next_L32 K k v1 v2 n) v5 x15 x35 σ6) ∧ (w v4 ≤ w x15 → ∀ x36 : Int, x36 = v5 + 1 → (P_X5_next_L32 K k v1 v2 n) v3 v4 x36 σ6))))))))))) ∧ (w r5 = 1000000 → ∀ x37 : Int, x37 = v5 + 1 → (P_X5_next_L32 K k v1 v2 n) v3 v4 x37 σ6))))))))
def P_X5_next (K : List nKey) (σ : nS) (v1 : Int) (v2 : Int) (k : Int → nS → Prop) : Prop :=
  ∀ σ38 : nS, σ38 = s1 σ (11, 0, 0) 24 0 → P_X5_in K σ38 v1 0 3 (fun r40 σ39 => ((w r40 = 0 → k (-1) σ39) ∧ (w r40 ≠ 0 → P_X5_isPlace K σ39 v2 (fun r43 σ42 => ((w r43 ≠ 0 → ∃ f45 : Nat, P_X5_next_L32 K k v1 v2 f45 (-1) 0 0 σ42) ∧ (w r43 = 0 → k (-1) σ42))))))
def rmX5_next : Room := { frames := 2, cells := 0, slots := 0, locals := 43 }
set_option maxHeartbeats 4000000 in
set_option maxRecDepth 100000 in
theorem w_X5_next {l : Launch} {D : va_G} {ca : Nat → ClassId} {K : List nKey} {ad : nKey → Nat} {σ : nS} {sz : Nat} (hKC : KC K) {v1 : Int} {v2 : Int} {k : Int → nS → Prop} (hp : P_X5_next K σ v1 v2 k) : Met l yX5_next (Cond.code yX5_next cX5_next 8 (some .int) :: UW) rmX5_next (ZP D ca [.ref (ad (11, 0, 0)), .int (iN v1), .int (iN v2)] (ZB D K ad ca σ sz)) (ZQi D K ad ca sz k) 0 0 (FA K ad sz) := by
  refine z_start (cc := cX5_next) (maxL := 8) (ret := (some .int)) (own := RX5) (K := K) (ad := ad) (σ := σ) (Qc := fun sz => ZQi D K ad ca sz k) (by decide) rfl (Nat.le_of_ble_eq_true rfl) ?_
  intro p e s m args below meth c M hr hlocks hW ls hl
  have hS : va_S (FA K ad s.heap.size) s.heap s.heap [] := va_S.rf
  have hA : ∀ q : Nat, s.heap.size ≤ q → FA K ad s.heap.size q := fun q h => Or.inr h
  replace hl : lv_has ls 8 [(0, .ref (ad (11, 0, 0))), (1, .int (iN v1)), (2, .int (iN v2))] := hl
  unfold P_X5_next at hp
  have hL32 : ∀ (f32 : Nat) (v3 : Int) (v4 : Int) (v5 : Int) (σ : nS) (H : Heap) (locs : List Loc) (ls : Array Slot), P_X5_next_L32 K k v1 v2 f32 v3 v4 v5 σ → XW D (FA K ad s.heap.size) K ad (cR ca ad σ) H → va_S (FA K ad s.heap.size) s.heap H locs → lv_has ls 8 [(0, .ref (ad (11, 0, 0))), (1, .int (iN v1)), (2, .int (iN v2)), (3, .int (iN v3)), (4, .int (iN v4)), (5, .int (iN v5))] → W p l e rmX5_next s m args below meth c H locs 0 0 (MQ below (ZQi D K ad ca s.heap.size k) args s 0 0 (FA K ad s.heap.size)) (F0 m 32 ls []) := by
    intro f32
    induction f32 with
    | zero =>
      intro v3 v4 v5 σ H locs ls  hp
      exact hp.elim
    | succ f32 ih32 =>
      intro v3 v4 v5 σ H locs ls  hp hW hS hl
      refine z_il M dX5_next_32 hl 5 rfl ?_
      refine z_al_n M dX5_next_34 rfl hl 0 rfl ?_
      refine zg_X5_12 M u_hin5 hW hKC.k11 (M.hts _ u_fl_X5_112) dX5_next_35 ?_
      refine zw_ge M (tgt := 171) dX5_next_38 (by decide) rfl rfl (fun c1 => ?_) (fun c1 => ?_)
      · have hp := hp.1 c1
        refine z_il_n M dX5_next_171 rfl hl 3 rfl ?_
        exact zr_i M hr hlocks (v3, σ) rfl ⟨hp, hW⟩ hS dX5_next_172
      · have hp := hp.2 c1
        refine z_al_n M dX5_next_41 rfl hl 0 rfl ?_
        refine z_il M dX5_next_42 hl 5 rfl ?_
        refine z_al_n M dX5_next_44 rfl hl 0 rfl ?_
        refine zg_X5_7 M u_hin5 hW hKC.k11 (M.hts _ u_fl_X5_28) dX5_next_45 ?_
        refine z_il M dX5_next_48 hl 5 rfl ?_
        obtain ⟨h2, h3, hp⟩ := hp
        refine za_i (n := 6) M hW (hKC.k12 (by decide)) (fun _ _ => rfl) h2 h3 (by decide) dX5_next_50 ?_
        refine z_il_n M dX5_next_51 rfl hl 2 rfl ?_
        have hfa := hW.fa hS hA
        refine zc_VU (As := [.int (iN v5), .int (iN (σ.1 (12, 6, 0) (v5).toNat)), .int (iN v2)]) (rest := []) M (w_X5_wayOf hKC  hp) (cuV M 3 u_co_X5_wayOf u_ml_X5_126 u_ini_X5 u_in_X5_wayOf u_se_X5_wayOf (by decide +kernel) rfl rfl ⟨Nat.le_of_ble_eq_true rfl, Nat.le_of_ble_eq_true rfl⟩) (z_recv M hW hKC.k11 rfl rfl) ⟨rfl, hW.weaken (fun _ _ => trivial)⟩ rfl hl rfl (Nat.le_of_ble_eq_true rfl) ⟨Nat.zero_le _, Nat.zero_le _⟩ dX5_next_52 hS hfa (fun u H locs hw _ _ hS => ?_)
        obtain ⟨r5, σ4⟩ := u
        obtain ⟨hp, hW2⟩ := hw
        have hW := hW2.weaken hfa
        try dsimp only at hp
        refine z_is M [(6, .int (iN r5)), (0, .ref (ad (11, 0, 0))), (1, .int (iN v1)), (2, .int (iN v2)), (3, .int (iN v3)), (4, .int (iN v4)), (5, .int (iN v5))] dX5_next_55 hl (by decide) rfl (fun ls hl => ?_)
        refine z_al_n M dX5_next_57 rfl hl 1 rfl ?_
        refine z_il M dX5_next_58 hl 6 rfl ?_
        refine z_il_n M dX5_next_60 rfl hl 2 rfl ?_
        have hfa := hW.fa hS hA
        refine zc_VU (As := [.int (iN v5), .int (iN v1)]) (rest := []) M (w_X5_mayCarry hKC  hp) (cuV M 2 u_co_X5_mayCarry u_ml_X5_134 u_ini_X5 u_in_X5_mayCarry u_se_X5_mayCarry (by decide +kernel) rfl rfl ⟨Nat.le_of_ble_eq_true rfl, Nat.le_of_ble_eq_true rfl⟩) (z_recv M hW hKC.k11 rfl rfl) ⟨rfl, hW.weaken (fun _ _ => trivial)⟩ rfl hl rfl (Nat.le_of_ble_eq_true rfl) ⟨Nat.zero_le _, Nat.zero_le _⟩ dX5_next_61 hS hfa (fun u H locs hw _ _ hS => ?_)
        obtain ⟨r7, σ6⟩ := u
        obtain ⟨hp, hW2⟩ := hw
        have hW := hW2.weaken hfa
        try dsimp only at hp
        refine zv_eq M (tgt := 165) dX5_next_64 (by decide) rfl (fun c8 => ?_) (fun c8 => ?_)
        · have hp := hp.1 c8
          obtain ⟨x9, ex9⟩ : ∃ z : Int, z = v5 + 1 := ⟨_, rfl⟩
          have hp := hp x9 ex9
          refine z_inc M [(5, .int (iN x9)), (6, .int (iN r5)), (0, .ref (ad (11, 0, 0))), (1, .int (iN v1)), (2, .int (iN v2)), (3, .int (iN v3)), (4, .int (iN v4))] x9 dX5_next_165 hl 6 rfl ex9.symm (by decide) rfl (fun ls hl => ?_)
          refine zg M (tgt := 32) dX5_next_168 (by decide) ?_
          exact ih32 v3 v4 x9 σ6 _ _ _  hp hW hS (lv_sub hl [2, 3, 4, 5, 6, 0] rfl)
        · have hp := hp.2 c8
          refine z_il M dX5_next_67 hl 0 rfl ?_
          refine zi_ldc M 1000000 (M.hts _ u_k_X5_122) dX5_next_69 ?_
          refine zw_ne M (tgt := 77) dX5_next_71 (by decide) rfl (w_of ⟨by decide, by decide⟩) (fun c10 => ?_) (fun c10 => ?_)
          · have hp := hp.1 c10
            refine z_al_n M dX5_next_77 rfl hl 1 rfl ?_
            refine zg_X5_8 M u_hin5 hW hKC.k11 (M.hts _ u_fl_X5_31) dX5_next_78 ?_
            refine z_il M dX5_next_81 hl 6 rfl ?_
            obtain ⟨h11, h12, hp⟩ := hp
            refine za_i (n := 6) M hW (hKC.k12 (by decide)) (fun _ _ => rfl) h11 h12 (by decide) dX5_next_83 ?_
            refine z_al_n M dX5_next_84 rfl hl 1 rfl ?_
            refine zg_X5_4 M u_hin5 hW hKC.k11 (M.hts _ u_fl_X5_19) dX5_next_85 ?_
            refine z_il M dX5_next_88 hl 6 rfl ?_
            obtain ⟨h13, h14, hp⟩ := hp
            refine za_i (n := 6) M hW (hKC.k12 (by decide)) (fun _ _ => rfl) h13 h14 (by decide) dX5_next_90 ?_
            refine zi_max M hl (M.hts _ u_ml_X5_145) (M.hts _ u_st_max) (M.hts _ u_ini_Math) (M.hts _ u_co_max) (Nat.le_of_ble_eq_true rfl) (Nat.le_of_ble_eq_true rfl) (Nat.zero_le _) (Nat.zero_le _) dX5_next_91 ?_
            refine z_il M dX5_next_94 hl 0 rfl ?_
            refine zi_add M dX5_next_96 ?_
            refine zi_nm (fun x15 ex15 => ?_)
            have hp := hp x15 ex15
            refine z_is M [(7, .int (iN x15)), (6, .int (iN r5)), (0, .ref (ad (11, 0, 0))), (1, .int (iN v1)), (2, .int (iN v2)), (3, .int (iN v3)), (4, .int (iN v4)), (5, .int (iN v5))] dX5_next_97 hl (by decide) rfl (fun ls hl => ?_)
            refine z_il M dX5_next_99 hl 0 rfl ?_
            refine z_al_n M dX5_next_101 rfl hl 2 rfl ?_
            refine zg_X5_5 M u_hin5 hW hKC.k11 (M.hts _ u_fl_X5_22) dX5_next_102 ?_
            refine z_il M dX5_next_105 hl 7 rfl ?_
            obtain ⟨h16, h17, hp⟩ := hp
            refine za_i (n := 6) M hW (hKC.k12 (by decide)) (fun _ _ => rfl) h16 h17 (by decide) dX5_next_107 ?_
            refine zw_gt M (tgt := 165) dX5_next_108 (by decide) rfl rfl (fun c18 => ?_) (fun c18 => ?_)
            · have hp := hp.1 c18
              obtain ⟨x19, ex19⟩ : ∃ z : Int, z = v5 + 1 := ⟨_, rfl⟩
              have hp := hp x19 ex19
              refine z_inc M [(5, .int (iN x19)), (7, .int (iN x15)), (6, .int (iN r5)), (0, .ref (ad (11, 0, 0))), (1, .int (iN v1)), (2, .int (iN v2)), (3, .int (iN v3)), (4, .int (iN v4))] x19 dX5_next_165 hl 7 rfl ex19.symm (by decide) rfl (fun ls hl => ?_)
              refine zg M (tgt := 32) dX5_next_168 (by decide) ?_
              exact ih32 v3 v4 x19 σ6 _ _ _  hp hW hS (lv_sub hl [3, 4, 5, 6, 7, 0] rfl)
            · have hp := hp.2 c18
              refine z_il_n M dX5_next_111 rfl hl 5 rfl ?_
              refine zi_const M (-1) dX5_next_112 rfl ?_
              refine zw_eq M (tgt := 158) dX5_next_113 (by decide) rfl (w_of ⟨by decide, by decide⟩) (fun c20 => ?_) (fun c20 => ?_)
              · have hp := hp.1 c20
                refine z_il M dX5_next_158 hl 7 rfl ?_
                refine z_is_n M [(3, .int (iN v5)), (7, .int (iN x15)), (6, .int (iN r5)), (0, .ref (ad (11, 0, 0))), (1, .int (iN v1)), (2, .int (iN v2)), (4, .int (iN v4)), (5, .int (iN v5))] dX5_next_160 rfl hl (by decide) rfl (fun ls hl => ?_)
                refine z_il M dX5_next_161 hl 1 rfl ?_
                refine z_is M [(4, .int (iN x15)), (3, .int (iN v5)), (7, .int (iN x15)), (6, .int (iN r5)), (0, .ref (ad (11, 0, 0))), (1, .int (iN v1)), (2, .int (iN v2)), (5, .int (iN v5))] dX5_next_163 hl (by decide) rfl (fun ls hl => ?_)
                obtain ⟨x21, ex21⟩ : ∃ z : Int, z = v5 + 1 := ⟨_, rfl⟩
                have hp := hp x21 ex21
                refine z_inc M [(5, .int (iN x21)), (4, .int (iN x15)), (3, .int (iN v5)), (7, .int (iN x15)), (6, .int (iN r5)), (0, .ref (ad (11, 0, 0))), (1, .int (iN v1)), (2, .int (iN v2))] x21 dX5_next_165 hl 7 rfl ex21.symm (by decide) rfl (fun ls hl => ?_)
                refine zg M (tgt := 32) dX5_next_168 (by decide) ?_
                exact ih32 v5 x15 x21 σ6 _ _ _  hp hW hS (lv_sub hl [5, 6, 7, 2, 1, 0] rfl)
              · have hp := hp.2 c20
                refine z_al_n M dX5_next_116 rfl hl 2 rfl ?_
                refine zg_X5_10 M u_hin5 hW hKC.k11 (M.hts _ u_fl_X5_38) dX5_next_117 ?_
                refine z_il M dX5_next_120 hl 7 rfl ?_
                obtain ⟨h22, h23, hp⟩ := hp
                refine za_i (n := 6) M hW (hKC.k12 (by decide)) (fun _ _ => rfl) h22 h23 (by decide) dX5_next_122 ?_
                refine z_al_n M dX5_next_123 rfl hl 2 rfl ?_
                refine zg_X5_10 M u_hin5 hW hKC.k11 (M.hts _ u_fl_X5_38) dX5_next_124 ?_
                refine z_il_n M dX5_next_127 rfl hl 5 rfl ?_
                obtain ⟨h24, h25, hp⟩ := hp
                refine za_i (n := 6) M hW (hKC.k12 (by decide)) (fun _ _ => rfl) h24 h25 (by decide) dX5_next_128 ?_
                refine zw_gt M (tgt := 165) dX5_next_129 (by decide) rfl rfl (fun c26 => ?_) (fun c26 => ?_)
                · have hp := hp.1 c26
                  obtain ⟨x27, ex27⟩ : ∃ z : Int, z = v5 + 1 := ⟨_, rfl⟩
                  have hp := hp x27 ex27
                  refine z_inc M [(5, .int (iN x27)), (7, .int (iN x15)), (6, .int (iN r5)), (0, .ref (ad (11, 0, 0))), (1, .int (iN v1)), (2, .int (iN v2)), (3, .int (iN v3)), (4, .int (iN v4))] x27 dX5_next_165 hl 7 rfl ex27.symm (by decide) rfl (fun ls hl => ?_)
                  refine zg M (tgt := 32) dX5_next_168 (by decide) ?_
                  exact ih32 v3 v4 x27 σ6 _ _ _  hp hW hS (lv_sub hl [3, 4, 5, 6, 7, 0] rfl)
                · have hp := hp.2 c26
                  refine z_al_n M dX5_next_132 rfl hl 2 rfl ?_
                  refine zg_X5_10 M u_hin5 hW hKC.k11 (M.hts _ u_fl_X5_38) dX5_next_133 ?_
                  refine z_il M dX5_next_136 hl 7 rfl ?_
                  obtain ⟨h28, h29, hp⟩ := hp
                  refine za_i (n := 6) M hW (hKC.k12 (by decide)) (fun _ _ => rfl) h28 h29 (by decide) dX5_next_138 ?_
                  refine z_al_n M dX5_next_139 rfl hl 2 rfl ?_
                  refine zg_X5_10 M u_hin5 hW hKC.k11 (M.hts _ u_fl_X5_38) dX5_next_140 ?_
                  refine z_il_n M dX5_next_143 rfl hl 5 rfl ?_
                  obtain ⟨h30, h31, hp⟩ := hp
                  refine za_i (n := 6) M hW (hKC.k12 (by decide)) (fun _ _ => rfl) h30 h31 (by decide) dX5_next_144 ?_
                  refine zw_ne M (tgt := 158) dX5_next_145 (by decide) rfl rfl (fun c32 => ?_) (fun c32 => ?_)
                  · have hp := hp.1 c32
                    refine z_il M dX5_next_158 hl 7 rfl ?_
                    refine z_is_n M [(3, .int (iN v5)), (7, .int (iN x15)), (6, .int (iN r5)), (0, .ref (ad (11, 0, 0))), (1, .int (iN v1)), (2, .int (iN v2)), (4, .int (iN v4)), (5, .int (iN v5))] dX5_next_160 rfl hl (by decide) rfl (fun ls hl => ?_)
                    refine z_il M dX5_next_161 hl 1 rfl ?_
                    refine z_is M [(4, .int (iN x15)), (3, .int (iN v5)), (7, .int (iN x15)), (6, .int (iN r5)), (0, .ref (ad (11, 0, 0))), (1, .int (iN v1)), (2, .int (iN v2)), (5, .int (iN v5))] dX5_next_163 hl (by decide) rfl (fun ls hl => ?_)
                    obtain ⟨x33, ex33⟩ : ∃ z : Int, z = v5 + 1 := ⟨_, rfl⟩
                    have hp := hp x33 ex33
                    refine z_inc M [(5, .int (iN x33)), (4, .int (iN x15)), (3, .int (iN v5)), (7, .int (iN x15)), (6, .int (iN r5)), (0, .ref (ad (11, 0, 0))), (1, .int (iN v1)), (2, .int (iN v2))] x33 dX5_next_165 hl 7 rfl ex33.symm (by decide) rfl (fun ls hl => ?_)
                    refine zg M (tgt := 32) dX5_next_168 (by decide) ?_
                    exact ih32 v5 x15 x33 σ6 _ _ _  hp hW hS (lv_sub hl [5, 6, 7, 2, 1, 0] rfl)
                  · have hp := hp.2 c32
                    refine z_il M dX5_next_148 hl 0 rfl ?_
                    refine z_il M dX5_next_150 hl 6 rfl ?_
                    refine zw_lt M (tgt := 158) dX5_next_152 (by decide) rfl rfl (fun c34 => ?_) (fun c34 => ?_)
                    · have hp := hp.1 c34
                      refine z_il M dX5_next_158 hl 7 rfl ?_
                      refine z_is_n M [(3, .int (iN v5)), (7, .int (iN x15)), (6, .int (iN r5)), (0, .ref (ad (11, 0, 0))), (1, .int (iN v1)), (2, .int (iN v2)), (4, .int (iN v4)), (5, .int (iN v5))] dX5_next_160 rfl hl (by decide) rfl (fun ls hl => ?_)
                      refine z_il M dX5_next_161 hl 1 rfl ?_
                      refine z_is M [(4, .int (iN x15)), (3, .int (iN v5)), (7, .int (iN x15)), (6, .int (iN r5)), (0, .ref (ad (11, 0, 0))), (1, .int (iN v1)), (2, .int (iN v2)), (5, .int (iN v5))] dX5_next_163 hl (by decide) rfl (fun ls hl => ?_)
                      obtain ⟨x35, ex35⟩ : ∃ z : Int, z = v5 + 1 := ⟨_, rfl⟩
                      have hp := hp x35 ex35
                      refine z_inc M [(5, .int (iN x35)), (4, .int (iN x15)), (3, .int (iN v5)), (7, .int (iN x15)), (6, .int (iN r5)), (0, .ref (ad (11, 0, 0))), (1, .int (iN v1)), (2, .int (iN v2))] x35 dX5_next_165 hl 7 rfl ex35.symm (by decide) rfl (fun ls hl => ?_)
                      refine zg M (tgt := 32) dX5_next_168 (by decide) ?_
                      exact ih32 v5 x15 x35 σ6 _ _ _  hp hW hS (lv_sub hl [5, 6, 7, 2, 1, 0] rfl)
                    · have hp := hp.2 c34
                      refine zg M (tgt := 165) dX5_next_155 (by decide) ?_
                      obtain ⟨x36, ex36⟩ : ∃ z : Int, z = v5 + 1 := ⟨_, rfl⟩
                      have hp := hp x36 ex36
                      refine z_inc M [(5, .int (iN x36)), (7, .int (iN x15)), (6, .int (iN r5)), (0, .ref (ad (11, 0, 0))), (1, .int (iN v1)), (2, .int (iN v2)), (3, .int (iN v3)), (4, .int (iN v4))] x36 dX5_next_165 hl 7 rfl ex36.symm (by decide) rfl (fun ls hl => ?_)
                      refine zg M (tgt := 32) dX5_next_168 (by decide) ?_
                      exact ih32 v3 v4 x36 σ6 _ _ _  hp hW hS (lv_sub hl [3, 4, 5, 6, 7, 0] rfl)
          · have hp := hp.2 c10
            refine zg M (tgt := 165) dX5_next_74 (by decide) ?_
            obtain ⟨x37, ex37⟩ : ∃ z : Int, z = v5 + 1 := ⟨_, rfl⟩
            have hp := hp x37 ex37
            refine z_inc M [(5, .int (iN x37)), (6, .int (iN r5)), (0, .ref (ad (11, 0, 0))), (1, .int (iN v1)), (2, .int (iN v2)), (3, .int (iN v3)), (4, .int (iN v4))] x37 dX5_next_165 hl 6 rfl ex37.symm (by decide) rfl (fun ls hl => ?_)
            refine zg M (tgt := 32) dX5_next_168 (by decide) ?_
            exact ih32 v3 v4 x37 σ6 _ _ _  hp hW hS (lv_sub hl [2, 3, 4, 5, 6, 0] rfl)
  refine z_al_n M dX5_next_0 rfl hl 0 rfl ?_
  refine zi_const M 0 dX5_next_1 rfl ?_
  obtain ⟨σ38, eσ38⟩ : ∃ z : nS, z = s1 σ (11, 0, 0) 24 0 := ⟨_, rfl⟩
  have hp := hp σ38 eσ38
  refine zp_X5_24 (v := 0) M u_hin5 hW hS hKC.k11 (M.hts _ u_fl_X5_102) dX5_next_2 (fun H locs hW hS => ?_)
  rw [← eσ38] at hW
  refine z_il_n M dX5_next_5 rfl hl 1 rfl ?_
  refine zi_const M 0 dX5_next_6 rfl ?_
  refine zi_const M 3 dX5_next_7 rfl ?_
  have hfa := hW.fa hS hA
  refine zc_SU (As := [.int (iN v1), .int (iN 0), .int (iN 3)]) (rest := []) M (w_X5_in hKC  hp) (cuS M 3 u_co_X5_in u_ml_X5_108 u_ini_X5 u_st_X5_in (by decide +kernel) rfl rfl ⟨Nat.le_of_ble_eq_true rfl, Nat.le_of_ble_eq_true rfl⟩) ⟨rfl, hW.weaken (fun _ _ => trivial)⟩ rfl hl rfl (Nat.le_of_ble_eq_true rfl) ⟨Nat.zero_le _, Nat.zero_le _⟩ dX5_next_8 hS hfa (fun u H locs hw _ _ hS => ?_)
  obtain ⟨r40, σ39⟩ := u
  obtain ⟨hp, hW2⟩ := hw
  have hW := hW2.weaken hfa
  try dsimp only at hp
  refine zv_eq M (tgt := 22) dX5_next_11 (by decide) rfl (fun c41 => ?_) (fun c41 => ?_)
  · have hp := hp.1 c41
    refine zi_const M (-1) dX5_next_22 rfl ?_
    exact zr_i M hr hlocks ((-1), σ39) rfl ⟨hp, hW⟩ hS dX5_next_23
  · have hp := hp.2 c41
    refine z_al_n M dX5_next_14 rfl hl 0 rfl ?_
    refine z_il_n M dX5_next_15 rfl hl 2 rfl ?_
    have hfa := hW.fa hS hA
    refine zc_VU (As := [.int (iN v2)]) (rest := []) M (w_X5_isPlace hKC  hp) (cuV M 1 u_co_X5_isPlace u_ml_X5_118 u_ini_X5 u_in_X5_isPlace u_se_X5_isPlace (by decide +kernel) rfl rfl ⟨Nat.le_of_ble_eq_true rfl, Nat.le_of_ble_eq_true rfl⟩) (z_recv M hW hKC.k11 rfl rfl) ⟨rfl, hW.weaken (fun _ _ => trivial)⟩ rfl hl rfl (Nat.le_of_ble_eq_true rfl) ⟨Nat.zero_le _, Nat.zero_le _⟩ dX5_next_16 hS hfa (fun u H locs hw _ _ hS => ?_)
    obtain ⟨r43, σ42⟩ := u
    obtain ⟨hp, hW2⟩ := hw
    have hW := hW2.weaken hfa
    try dsimp only at hp
    refine zv_ne M (tgt := 24) dX5_next_19 (by decide) rfl (fun c44 => ?_) (fun c44 => ?_)
    · have hp := hp.1 c44
      refine zi_const M (-1) dX5_next_24 rfl ?_
      refine z_is_n M [(3, .int (iN (-1))), (0, .ref (ad (11, 0, 0))), (1, .int (iN v1)), (2, .int (iN v2))] dX5_next_25 rfl hl (by decide) rfl (fun ls hl => ?_)
      refine zi_const M 0 dX5_next_26 rfl ?_
      refine z_is M [(4, .int (iN 0)), (3, .int (iN (-1))), (0, .ref (ad (11, 0, 0))), (1, .int (iN v1)), (2, .int (iN v2))] dX5_next_27 hl (by decide) rfl (fun ls hl => ?_)
      refine zi_const M 0 dX5_next_29 rfl ?_
      refine z_is M [(5, .int (iN 0)), (4, .int (iN 0)), (3, .int (iN (-1))), (0, .ref (ad (11, 0, 0))), (1, .int (iN v1)), (2, .int (iN v2))] dX5_next_30 hl (by decide) rfl (fun ls hl => ?_)
      obtain ⟨f45, hp⟩ := hp
      exact hL32 f45 (-1) 0 0 σ42 _ _ _  hp hW hS (lv_sub hl [3, 4, 5, 2, 1, 0] rfl)
    · have hp := hp.2 c44
      refine zi_const M (-1) dX5_next_22 rfl ?_
      exact zr_i M hr hlocks ((-1), σ42) rfl ⟨hp, hW⟩ hS dX5_next_23
