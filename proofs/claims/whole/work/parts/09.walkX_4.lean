def P_X4_count (K : List nKey) (σ : nS) (v1 : Int) (k : Int → nS → Prop) : Prop :=
  ((w v1 = 0 → k (σ.1 (0, 0, 0) 5) σ) ∧ (w v1 = 1 → k (σ.1 (0, 0, 0) 6) σ) ∧ (w v1 = 2 → k (σ.1 (0, 0, 0) 7) σ) ∧ (w v1 = 3 → P_X4_countRequests K σ v1 (fun r2 σ1 => k r2 σ1)) ∧ (w v1 = 4 → P_X4_countRequests K σ v1 (fun r4 σ3 => k r4 σ3)) ∧ (w v1 = 5 → P_X4_countRequests K σ v1 (fun r6 σ5 => k r6 σ5)) ∧ (w v1 < 0 ∨ 5 < w v1 → k (-1) σ))
def rmX4_count : Room := { frames := 5, cells := 0, slots := 0, locals := 107 }
set_option maxHeartbeats 4000000 in
set_option maxRecDepth 100000 in
theorem w_X4_count {l : Launch} {D : va_G} {ca : Nat → ClassId} {K : List nKey} {ad : nKey → Nat} {σ : nS} {sz : Nat} (hKC : KC K) {v1 : Int} {k : Int → nS → Prop} (hp : P_X4_count K σ v1 k) : Met l yX4_count (Cond.code yX4_count cX4_count 2 (some .int) :: UW) rmX4_count (ZP D ca [.ref (ad (0, 0, 0)), .int (iN v1)] (ZB D K ad ca σ sz)) (ZQi D K ad ca sz k) 0 0 (FA K ad sz) := by
  refine z_start (cc := cX4_count) (maxL := 2) (ret := (some .int)) (own := RX4) (K := K) (ad := ad) (σ := σ) (Qc := fun sz => ZQi D K ad ca sz k) (by decide) rfl (Nat.le_of_ble_eq_true rfl) ?_
  intro p e s m args below meth c M hr hlocks hW ls hl
  have hS : va_S (FA K ad s.heap.size) s.heap s.heap [] := va_S.rf
  have hA : ∀ q : Nat, s.heap.size ≤ q → FA K ad s.heap.size q := fun q h => Or.inr h
  replace hl : lv_has ls 2 [(0, .ref (ad (0, 0, 0))), (1, .int (iN v1))] := hl
  unfold P_X4_count at hp
  refine z_il_n M dX4_count_0 rfl hl 1 rfl ?_
  by_cases c1_0 : w v1 = 0
  · have hp := hp.1 c1_0
    refine z_tin M (off := 39) (tgt := 40) 0 dX4_count_1 c1_0 (by decide) (by decide) rfl (by decide) ?_
    refine z_al_n M dX4_count_40 rfl hl 0 rfl ?_
    refine zg_X4_5 M u_hin4 hW hKC.k0 (M.hts _ u_fl_X4_35) dX4_count_41 ?_
    exact zr_i M hr hlocks ((σ.1 (0, 0, 0) 5), σ) rfl ⟨hp, hW⟩ hS dX4_count_44
  · by_cases c1_1 : w v1 = 1
    · have hp := hp.2.1 c1_1
      refine z_tin M (off := 44) (tgt := 45) 1 dX4_count_1 c1_1 (by decide) (by decide) rfl (by decide) ?_
      refine z_al_n M dX4_count_45 rfl hl 0 rfl ?_
      refine zg_X4_6 M u_hin4 hW hKC.k0 (M.hts _ u_fl_X4_39) dX4_count_46 ?_
      exact zr_i M hr hlocks ((σ.1 (0, 0, 0) 6), σ) rfl ⟨hp, hW⟩ hS dX4_count_49
    · by_cases c1_2 : w v1 = 2
      · have hp := hp.2.2.1 c1_2
        refine z_tin M (off := 49) (tgt := 50) 2 dX4_count_1 c1_2 (by decide) (by decide) rfl (by decide) ?_
        refine z_al_n M dX4_count_50 rfl hl 0 rfl ?_
        refine zg_X4_7 M u_hin4 hW hKC.k0 (M.hts _ u_fl_X4_42) dX4_count_51 ?_
        exact zr_i M hr hlocks ((σ.1 (0, 0, 0) 7), σ) rfl ⟨hp, hW⟩ hS dX4_count_54
      · by_cases c1_3 : w v1 = 3
        · have hp := hp.2.2.2.1 c1_3
          refine z_tin M (off := 54) (tgt := 55) 3 dX4_count_1 c1_3 (by decide) (by decide) rfl (by decide) ?_
          refine z_al_n M dX4_count_55 rfl hl 0 rfl ?_
          refine z_il_n M dX4_count_56 rfl hl 1 rfl ?_
          have hfa := hW.fa hS hA
          refine zc_VU (As := [.int (iN v1)]) (rest := []) M (w_X4_countRequests hKC  hp) (cuV M 1 u_co_X4_countRequests u_ml_X4_76 u_ini_X4 u_in_X4_countRequests u_se_X4_countRequests (by decide +kernel) rfl rfl ⟨Nat.le_of_ble_eq_true rfl, Nat.le_of_ble_eq_true rfl⟩) (z_recv M hW hKC.k0 rfl rfl) ⟨rfl, hW.weaken (fun _ _ => trivial)⟩ rfl hl rfl (Nat.le_of_ble_eq_true rfl) ⟨Nat.zero_le _, Nat.zero_le _⟩ dX4_count_57 hS hfa (fun u H locs hw _ _ hS => ?_)
          obtain ⟨r2, σ1⟩ := u
          obtain ⟨hp, hW2⟩ := hw
          have hW := hW2.weaken hfa
          try dsimp only at hp
          exact zr_i M hr hlocks (r2, σ1) rfl ⟨hp, hW⟩ hS dX4_count_60
        · by_cases c1_4 : w v1 = 4
          · have hp := hp.2.2.2.2.1 c1_4
            refine z_tin M (off := 54) (tgt := 55) 4 dX4_count_1 c1_4 (by decide) (by decide) rfl (by decide) ?_
            refine z_al_n M dX4_count_55 rfl hl 0 rfl ?_
            refine z_il_n M dX4_count_56 rfl hl 1 rfl ?_
            have hfa := hW.fa hS hA
            refine zc_VU (As := [.int (iN v1)]) (rest := []) M (w_X4_countRequests hKC  hp) (cuV M 1 u_co_X4_countRequests u_ml_X4_76 u_ini_X4 u_in_X4_countRequests u_se_X4_countRequests (by decide +kernel) rfl rfl ⟨Nat.le_of_ble_eq_true rfl, Nat.le_of_ble_eq_true rfl⟩) (z_recv M hW hKC.k0 rfl rfl) ⟨rfl, hW.weaken (fun _ _ => trivial)⟩ rfl hl rfl (Nat.le_of_ble_eq_true rfl) ⟨Nat.zero_le _, Nat.zero_le _⟩ dX4_count_57 hS hfa (fun u H locs hw _ _ hS => ?_)
            obtain ⟨r4, σ3⟩ := u
            obtain ⟨hp, hW2⟩ := hw
            have hW := hW2.weaken hfa
            try dsimp only at hp
            exact zr_i M hr hlocks (r4, σ3) rfl ⟨hp, hW⟩ hS dX4_count_60
          · by_cases c1_5 : w v1 = 5
            · have hp := hp.2.2.2.2.2.1 c1_5
              refine z_tin M (off := 54) (tgt := 55) 5 dX4_count_1 c1_5 (by decide) (by decide) rfl (by decide) ?_
              refine z_al_n M dX4_count_55 rfl hl 0 rfl ?_
              refine z_il_n M dX4_count_56 rfl hl 1 rfl ?_
              have hfa := hW.fa hS hA
              refine zc_VU (As := [.int (iN v1)]) (rest := []) M (w_X4_countRequests hKC  hp) (cuV M 1 u_co_X4_countRequests u_ml_X4_76 u_ini_X4 u_in_X4_countRequests u_se_X4_countRequests (by decide +kernel) rfl rfl ⟨Nat.le_of_ble_eq_true rfl, Nat.le_of_ble_eq_true rfl⟩) (z_recv M hW hKC.k0 rfl rfl) ⟨rfl, hW.weaken (fun _ _ => trivial)⟩ rfl hl rfl (Nat.le_of_ble_eq_true rfl) ⟨Nat.zero_le _, Nat.zero_le _⟩ dX4_count_57 hS hfa (fun u H locs hw _ _ hS => ?_)
              obtain ⟨r6, σ5⟩ := u
              obtain ⟨hp, hW2⟩ := hw
              have hW := hW2.weaken hfa
              try dsimp only at hp
              exact zr_i M hr hlocks (r6, σ5) rfl ⟨hp, hW⟩ hS dX4_count_60
            · have c1_o : w v1 < 0 ∨ 5 < w v1 := by omega
              have hp := hp.2.2.2.2.2.2 c1_o
              refine z_tout M (tgt := 61) dX4_count_1 c1_o (by decide) ?_
              refine zi_const M (-1) dX4_count_61 rfl ?_
              exact zr_i M hr hlocks ((-1), σ) rfl ⟨hp, hW⟩ hS dX4_count_62
def P_X4_way (K : List nKey) (σ : nS) (v1 : Int) (v2 : Int) (v3 : Int) (k : Int → nS → Prop) : Prop :=
  P_X4_riderAt K σ v1 (fun r2 σ1 => ((r2 = none → k (-1) σ1) ∧ (∀ q3 : Nat, r2 = some q3 → (6, q3, 0) ∈ K ∧ P_X4_wayOf K σ1 q3 v2 v3 (fun r5 σ4 => k r5 σ4))))
def rmX4_way : Room := { frames := 2, cells := 0, slots := 0, locals := 44 }
set_option maxHeartbeats 4000000 in
set_option maxRecDepth 100000 in
theorem w_X4_way {l : Launch} {D : va_G} {ca : Nat → ClassId} {K : List nKey} {ad : nKey → Nat} {σ : nS} {sz : Nat} (hKC : KC K) {v1 : Int} {v2 : Int} {v3 : Int} {k : Int → nS → Prop} (hp : P_X4_way K σ v1 v2 v3 k) : Met l yX4_way (Cond.code yX4_way cX4_way 5 (some .int) :: UW) rmX4_way (ZP D ca [.ref (ad (0, 0, 0)), .int (iN v1), .int (iN v2), .int (iN v3)] (ZB D K ad ca σ sz)) (ZQi D K ad ca sz k) 0 0 (FA K ad sz) := by
  refine z_start (cc := cX4_way) (maxL := 5) (ret := (some .int)) (own := RX4) (K := K) (ad := ad) (σ := σ) (Qc := fun sz => ZQi D K ad ca sz k) (by decide) rfl (Nat.le_of_ble_eq_true rfl) ?_
  intro p e s m args below meth c M hr hlocks hW ls hl
  have hS : va_S (FA K ad s.heap.size) s.heap s.heap [] := va_S.rf
  have hA : ∀ q : Nat, s.heap.size ≤ q → FA K ad s.heap.size q := fun q h => Or.inr h
  replace hl : lv_has ls 5 [(0, .ref (ad (0, 0, 0))), (1, .int (iN v1)), (2, .int (iN v2)), (3, .int (iN v3))] := hl
  unfold P_X4_way at hp
  refine z_al_n M dX4_way_0 rfl hl 0 rfl ?_
  refine z_il_n M dX4_way_1 rfl hl 1 rfl ?_
  have hfa := hW.fa hS hA
  refine zc_VU (As := [.int (iN v1)]) (rest := []) M (w_X4_riderAt hKC  hp) (cuV M 1 u_co_X4_riderAt u_ml_X4_55 u_ini_X4 u_in_X4_riderAt u_se_X4_riderAt (by decide +kernel) rfl rfl ⟨Nat.le_of_ble_eq_true rfl, Nat.le_of_ble_eq_true rfl⟩) (z_recv M hW hKC.k0 rfl rfl) ⟨rfl, hW.weaken (fun _ _ => trivial)⟩ rfl hl rfl (Nat.le_of_ble_eq_true rfl) ⟨Nat.zero_le _, Nat.zero_le _⟩ dX4_way_2 hS hfa (fun u H locs hw _ _ hS => ?_)
  obtain ⟨r2, σ1⟩ := u
  obtain ⟨hp, hW2⟩ := hw
  have hW := hW2.weaken hfa
  try dsimp only at hp
  rcases r2 with _ | q3
  · refine W.eq (g2 := F0 m 5 ls (.null :: [])) rfl ?_
    have hp := hp.1 rfl
    refine z_asn M [(4, .null), (0, .ref (ad (0, 0, 0))), (1, .int (iN v1)), (2, .int (iN v2)), (3, .int (iN v3))] dX4_way_5 hl (by decide) rfl (fun ls hl => ?_)
    refine z_aln M dX4_way_7 hl 0 rfl ?_
    refine z_ifnnN M dX4_way_9 ?_
    refine zi_const M (-1) dX4_way_12 rfl ?_
    refine zg M (tgt := 24) dX4_way_13 (by decide) ?_
    exact zr_i M hr hlocks ((-1), σ1) rfl ⟨hp, hW⟩ hS dX4_way_24
  · refine W.eq (g2 := F0 m 5 ls (.ref (ad (6, q3, 0)) :: [])) rfl ?_
    obtain ⟨hm_q3, hp⟩ := hp.2 q3 rfl
    refine z_as M [(4, .ref (ad (6, q3, 0))), (0, .ref (ad (0, 0, 0))), (1, .int (iN v1)), (2, .int (iN v2)), (3, .int (iN v3))] dX4_way_5 hl (by decide) rfl (fun ls hl => ?_)
    refine z_al M dX4_way_7 hl 0 rfl ?_
    refine z_ifnn M (tgt := 16) dX4_way_9 (by decide) ?_
    refine z_al_n M dX4_way_16 rfl hl 1 rfl ?_
    refine z_al M dX4_way_17 hl 0 rfl ?_
    refine z_il_n M dX4_way_19 rfl hl 3 rfl ?_
    refine z_il_n M dX4_way_20 rfl hl 4 rfl ?_
    have hfa := hW.fa hS hA
    refine zc_VU (As := [.ref (ad (6, q3, 0)), .int (iN v2), .int (iN v3)]) (rest := []) M (w_X4_wayOf hKC hm_q3 hp) (cuV M 3 u_co_X4_wayOf u_ml_X4_80 u_ini_X4 u_in_X4_wayOf u_se_X4_wayOf (by decide +kernel) rfl rfl ⟨Nat.le_of_ble_eq_true rfl, Nat.le_of_ble_eq_true rfl⟩) (z_recv M hW hKC.k0 rfl rfl) ⟨rfl, hW.weaken (fun _ _ => trivial)⟩ rfl hl rfl (Nat.le_of_ble_eq_true rfl) ⟨Nat.zero_le _, Nat.zero_le _⟩ dX4_way_21 hS hfa (fun u H locs hw _ _ hS => ?_)
    obtain ⟨r5, σ4⟩ := u
    obtain ⟨hp, hW2⟩ := hw
    have hW := hW2.weaken hfa
    try dsimp only at hp
    exact zr_i M hr hlocks (r5, σ4) rfl ⟨hp, hW⟩ hS dX4_way_24
def P_X4_duty_L21 (K : List nKey) (k : Int → nS → Prop) (v1 : Int) (v2 : Int) : Nat → Int → Int → nS → Prop
  | 0 => fun _ _ _ => False
  | n + 1 => fun v3 v4 σ =>
    ((w (σ.1 (0, 0, 0) 6) ≤ w v4 → k v3 σ) ∧ (w v4 < w (σ.1 (0, 0, 0) 6) → P_X4_riderAt K σ v4 (fun r3 σ2 => ((r3 = none → ∀ x5 : Int, x5 = v4 + 1 → (P_X4_duty_L21 K k v1 v2 n) v3 x5 σ2) ∧ (∀ q4 : Nat, r3 = some q4 → (6, q4, 0) ∈ K ∧ P_X3_carries K σ2 q4 v2 (fun r7 σ6 => ((w r7 = 0 → ∀ x9 : Int, x9 = v4 + 1 → (P_X4_duty_L21 K k v1 v2 n) v3 x9 σ6) ∧ (w r7 ≠ 0 → P_X3_isOnDuty K σ6 q4 v1 (fun r11 σ10 => ((w r11 = 0 → ∀ x13 : Int, x13 = v4 + 1 → (P_X4_duty_L21 K k v1 v2 n) v3 x13 σ10) ∧ (w r11 ≠ 0 → ∀ x14 : Int, x14 = v3 + 1 → ∀ x15 : Int, x15 = v4 + 1 → (P_X4_duty_L21 K k v1 v2 n) x14 x15 σ10)))))))))))
def P_X4_duty (K : List nKey) (σ : nS) (v1 : Int) (v2 : Int) (k : Int → nS → Prop) : Prop :=
  P_X4_isMinute K σ v1 (fun r17 σ16 => ((w r17 = 0 → k (-1) σ16) ∧ (w r17 ≠ 0 → P_X4_isKind K σ16 v2 (fun r20 σ19 => ((w r20 ≠ 0 → ∃ f22 : Nat, P_X4_duty_L21 K k v1 v2 f22 0 0 σ19) ∧ (w r20 = 0 → k (-1) σ19))))))
def rmX4_duty : Room := { frames := 2, cells := 0, slots := 0, locals := 42 }
set_option maxHeartbeats 4000000 in
set_option maxRecDepth 100000 in
theorem w_X4_duty {l : Launch} {D : va_G} {ca : Nat → ClassId} {K : List nKey} {ad : nKey → Nat} {σ : nS} {sz : Nat} (hKC : KC K) {v1 : Int} {v2 : Int} {k : Int → nS → Prop} (hp : P_X4_duty K σ v1 v2 k) : Met l yX4_duty (Cond.code yX4_duty cX4_duty 6 (some .int) :: UW) rmX4_duty (ZP D ca [.ref (ad (0, 0, 0)), .int (iN v1), .int (iN v2)] (ZB D K ad ca σ sz)) (ZQi D K ad ca sz k) 0 0 (FA K ad sz) := by
  refine z_start (cc := cX4_duty) (maxL := 6) (ret := (some .int)) (own := RX4) (K := K) (ad := ad) (σ := σ) (Qc := fun sz => ZQi D K ad ca sz k) (by decide) rfl (Nat.le_of_ble_eq_true rfl) ?_
  intro p e s m args below meth c M hr hlocks hW ls hl
  have hS : va_S (FA K ad s.heap.size) s.heap s.heap [] := va_S.rf
  have hA : ∀ q : Nat, s.heap.size ≤ q → FA K ad s.heap.size q := fun q h => Or.inr h
  replace hl : lv_has ls 6 [(0, .ref (ad (0, 0, 0))), (1, .int (iN v1)), (2, .int (iN v2))] := hl
  unfold P_X4_duty at hp
  have hL21 : ∀ (f21 : Nat) (v3 : Int) (v4 : Int) (σ : nS) (H : Heap) (locs : List Loc) (ls : Array Slot), P_X4_duty_L21 K k v1 v2 f21 v3 v4 σ → XW D (FA K ad s.heap.size) K ad (cR ca ad σ) H → va_S (FA K ad s.heap.size) s.heap H locs → lv_has ls 6 [(0, .ref (ad (0, 0, 0))), (1, .int (iN v1)), (2, .int (iN v2)), (3, .int (iN v3)), (4, .int (iN v4))] → W p l e rmX4_duty s m args below meth c H locs 0 0 (MQ below (ZQi D K ad ca s.heap.size k) args s 0 0 (FA K ad s.heap.size)) (F0 m 21 ls []) := by
    intro f21
    induction f21 with
    | zero =>
      intro v3 v4 σ H locs ls  hp
      exact hp.elim
    | succ f21 ih21 =>
      intro v3 v4 σ H locs ls  hp hW hS hl
      refine z_il M dX4_duty_21 hl 4 rfl ?_
      refine z_al_n M dX4_duty_23 rfl hl 0 rfl ?_
      refine zg_X4_6 M u_hin4 hW hKC.k0 (M.hts _ u_fl_X4_39) dX4_duty_24 ?_
      refine zw_ge M (tgt := 70) dX4_duty_27 (by decide) rfl rfl (fun c1 => ?_) (fun c1 => ?_)
      · have hp := hp.1 c1
        refine z_il_n M dX4_duty_70 rfl hl 3 rfl ?_
        exact zr_i M hr hlocks (v3, σ) rfl ⟨hp, hW⟩ hS dX4_duty_71
      · have hp := hp.2 c1
        refine z_al_n M dX4_duty_30 rfl hl 0 rfl ?_
        refine z_il M dX4_duty_31 hl 4 rfl ?_
        have hfa := hW.fa hS hA
        refine zc_VU (As := [.int (iN v4)]) (rest := []) M (w_X4_riderAt hKC  hp) (cuV M 1 u_co_X4_riderAt u_ml_X4_55 u_ini_X4 u_in_X4_riderAt u_se_X4_riderAt (by decide +kernel) rfl rfl ⟨Nat.le_of_ble_eq_true rfl, Nat.le_of_ble_eq_true rfl⟩) (z_recv M hW hKC.k0 rfl rfl) ⟨rfl, hW.weaken (fun _ _ => trivial)⟩ rfl hl rfl (Nat.le_of_ble_eq_true rfl) ⟨Nat.zero_le _, Nat.zero_le _⟩ dX4_duty_33 hS hfa (fun u H locs hw _ _ hS => ?_)
        obtain ⟨r3, σ2⟩ := u
        obtain ⟨hp, hW2⟩ := hw
        have hW := hW2.weaken hfa
        try dsimp only at hp
        rcases r3 with _ | q4
        · refine W.eq (g2 := F0 m 36 ls (.null :: [])) rfl ?_
          have hp := hp.1 rfl
          refine z_asn M [(5, .null), (0, .ref (ad (0, 0, 0))), (1, .int (iN v1)), (2, .int (iN v2)), (3, .int (iN v3)), (4, .int (iN v4))] dX4_duty_36 hl (by decide) rfl (fun ls hl => ?_)
          refine z_aln M dX4_duty_38 hl 0 rfl ?_
          refine z_ifnN M (tgt := 64) dX4_duty_40 (by decide) ?_
          obtain ⟨x5, ex5⟩ : ∃ z : Int, z = v4 + 1 := ⟨_, rfl⟩
          have hp := hp x5 ex5
          refine z_inc M [(4, .int (iN x5)), (5, .null), (0, .ref (ad (0, 0, 0))), (1, .int (iN v1)), (2, .int (iN v2)), (3, .int (iN v3))] x5 dX4_duty_64 hl 5 rfl ex5.symm (by decide) rfl (fun ls hl => ?_)
          refine zg M (tgt := 21) dX4_duty_67 (by decide) ?_
          exact ih21 v3 x5 σ2 _ _ _  hp hW hS (lv_sub hl [2, 3, 4, 5, 0] rfl)
        · refine W.eq (g2 := F0 m 36 ls (.ref (ad (6, q4, 0)) :: [])) rfl ?_
          obtain ⟨hm_q4, hp⟩ := hp.2 q4 rfl
          refine z_as M [(5, .ref (ad (6, q4, 0))), (0, .ref (ad (0, 0, 0))), (1, .int (iN v1)), (2, .int (iN v2)), (3, .int (iN v3)), (4, .int (iN v4))] dX4_duty_36 hl (by decide) rfl (fun ls hl => ?_)
          refine z_al M dX4_duty_38 hl 0 rfl ?_
          refine z_ifn M dX4_duty_40 ?_
          refine z_al M dX4_duty_43 hl 0 rfl ?_
          refine z_il_n M dX4_duty_45 rfl hl 3 rfl ?_
          have hfa := hW.fa hS hA
          refine zc_VU (As := [.int (iN v2)]) (rest := []) M (w_X3_carries hKC hm_q4 hp) (cuV M 1 u_co_X3_carries u_ml_X4_121 u_ini_X3 u_in_X3_carries u_se_X3_carries (by decide +kernel) rfl rfl ⟨Nat.le_of_ble_eq_true rfl, Nat.le_of_ble_eq_true rfl⟩) (z_recv M hW hm_q4 rfl rfl) ⟨rfl, hW.weaken (fun _ _ => trivial)⟩ rfl hl rfl (Nat.le_of_ble_eq_true rfl) ⟨Nat.zero_le _, Nat.zero_le _⟩ dX4_duty_46 hS hfa (fun u H locs hw _ _ hS => ?_)
          obtain ⟨r7, σ6⟩ := u
          obtain ⟨hp, hW2⟩ := hw
          have hW := hW2.weaken hfa
          try dsimp only at hp
          refine zv_eq M (tgt := 64) dX4_duty_49 (by decide) rfl (fun c8 => ?_) (fun c8 => ?_)
          · have hp := hp.1 c8
            obtain ⟨x9, ex9⟩ : ∃ z : Int, z = v4 + 1 := ⟨_, rfl⟩
            have hp := hp x9 ex9
            refine z_inc M [(4, .int (iN x9)), (5, .ref (ad (6, q4, 0))), (0, .ref (ad (0, 0, 0))), (1, .int (iN v1)), (2, .int (iN v2)), (3, .int (iN v3))] x9 dX4_duty_64 hl 5 rfl ex9.symm (by decide) rfl (fun ls hl => ?_)
            refine zg M (tgt := 21) dX4_duty_67 (by decide) ?_
            exact ih21 v3 x9 σ6 _ _ _  hp hW hS (lv_sub hl [2, 3, 4, 5, 0] rfl)
          · have hp := hp.2 c8
            refine z_al M dX4_duty_52 hl 0 rfl ?_
            refine z_il_n M dX4_duty_54 rfl hl 2 rfl ?_
            have hfa := hW.fa hS hA
            refine zc_VU (As := [.int (iN v1)]) (rest := []) M (w_X3_isOnDuty hKC hm_q4 hp) (cuV M 1 u_co_X3_isOnDuty u_ml_X4_124 u_ini_X3 u_in_X3_isOnDuty u_se_X3_isOnDuty (by decide +kernel) rfl rfl ⟨Nat.le_of_ble_eq_true rfl, Nat.le_of_ble_eq_true rfl⟩) (z_recv M hW hm_q4 rfl rfl) ⟨rfl, hW.weaken (fun _ _ => trivial)⟩ rfl hl rfl (Nat.le_of_ble_eq_true rfl) ⟨Nat.zero_le _, Nat.zero_le _⟩ dX4_duty_55 hS hfa (fun u H locs hw _ _ hS => ?_)
            obtain ⟨r11, σ10⟩ := u
            obtain ⟨hp, hW2⟩ := hw
            have hW := hW2.weaken hfa
            try dsimp only at hp
            refine zv_eq M (tgt := 64) dX4_duty_58 (by decide) rfl (fun c12 => ?_) (fun c12 => ?_)
            · have hp := hp.1 c12
              obtain ⟨x13, ex13⟩ : ∃ z : Int, z = v4 + 1 := ⟨_, rfl⟩
              have hp := hp x13 ex13
              refine z_inc M [(4, .int (iN x13)), (5, .ref (ad (6, q4, 0))), (0, .ref (ad (0, 0, 0))), (1, .int (iN v1)), (2, .int (iN v2)), (3, .int (iN v3))] x13 dX4_duty_64 hl 5 rfl ex13.symm (by decide) rfl (fun ls hl => ?_)
              refine zg M (tgt := 21) dX4_duty_67 (by decide) ?_
              exact ih21 v3 x13 σ10 _ _ _  hp hW hS (lv_sub hl [2, 3, 4, 5, 0] rfl)
            · have hp := hp.2 c12
              obtain ⟨x14, ex14⟩ : ∃ z : Int, z = v3 + 1 := ⟨_, rfl⟩
              have hp := hp x14 ex14
              refine z_inc M [(3, .int (iN x14)), (5, .ref (ad (6, q4, 0))), (0, .ref (ad (0, 0, 0))), (1, .int (iN v1)), (2, .int (iN v2)), (4, .int (iN v4))] x14 dX4_duty_61 hl 4 rfl ex14.symm (by decide) rfl (fun ls hl => ?_)
              obtain ⟨x15, ex15⟩ : ∃ z : Int, z = v4 + 1 := ⟨_, rfl⟩
              have hp := hp x15 ex15
              refine z_inc M [(4, .int (iN x15)), (3, .int (iN x14)), (5, .ref (ad (6, q4, 0))), (0, .ref (ad (0, 0, 0))), (1, .int (iN v1)), (2, .int (iN v2))] x15 dX4_duty_64 hl 5 rfl ex15.symm (by decide) rfl (fun ls hl => ?_)
              refine zg M (tgt := 21) dX4_duty_67 (by decide) ?_
              exact ih21 x14 x15 σ10 _ _ _  hp hW hS (lv_sub hl [3, 4, 5, 1, 0] rfl)
  refine z_il_n M dX4_duty_0 rfl hl 1 rfl ?_
  have hfa := hW.fa hS hA
  refine zc_SU (As := [.int (iN v1)]) (rest := []) M (w_X4_isMinute hKC  hp) (cuS M 1 u_co_X4_isMinute u_ml_X4_70 u_ini_X4 u_st_X4_isMinute (by decide +kernel) rfl rfl ⟨Nat.le_of_ble_eq_true rfl, Nat.le_of_ble_eq_true rfl⟩) ⟨rfl, hW.weaken (fun _ _ => trivial)⟩ rfl hl rfl (Nat.le_of_ble_eq_true rfl) ⟨Nat.zero_le _, Nat.zero_le _⟩ dX4_duty_1 hS hfa (fun u H locs hw _ _ hS => ?_)
  obtain ⟨r17, σ16⟩ := u
  obtain ⟨hp, hW2⟩ := hw
  have hW := hW2.weaken hfa
  try dsimp only at hp
  refine zv_eq M (tgt := 14) dX4_duty_4 (by decide) rfl (fun c18 => ?_) (fun c18 => ?_)
  · have hp := hp.1 c18
    refine zi_const M (-1) dX4_duty_14 rfl ?_
    exact zr_i M hr hlocks ((-1), σ16) rfl ⟨hp, hW⟩ hS dX4_duty_15
  · have hp := hp.2 c18
    refine z_il_n M dX4_duty_7 rfl hl 2 rfl ?_
    have hfa := hW.fa hS hA
    refine zc_SU (As := [.int (iN v2)]) (rest := []) M (w_X4_isKind hKC  hp) (cuS M 1 u_co_X4_isKind u_ml_X4_118 u_ini_X4 u_st_X4_isKind (by decide +kernel) rfl rfl ⟨Nat.le_of_ble_eq_true rfl, Nat.le_of_ble_eq_true rfl⟩) ⟨rfl, hW.weaken (fun _ _ => trivial)⟩ rfl hl rfl (Nat.le_of_ble_eq_true rfl) ⟨Nat.zero_le _, Nat.zero_le _⟩ dX4_duty_8 hS hfa (fun u H locs hw _ _ hS => ?_)
    obtain ⟨r20, σ19⟩ := u
    obtain ⟨hp, hW2⟩ := hw
    have hW := hW2.weaken hfa
    try dsimp only at hp
    refine zv_ne M (tgt := 16) dX4_duty_11 (by decide) rfl (fun c21 => ?_) (fun c21 => ?_)
    · have hp := hp.1 c21
      refine zi_const M 0 dX4_duty_16 rfl ?_
      refine z_is_n M [(3, .int (iN 0)), (0, .ref (ad (0, 0, 0))), (1, .int (iN v1)), (2, .int (iN v2))] dX4_duty_17 rfl hl (by decide) rfl (fun ls hl => ?_)
      refine zi_const M 0 dX4_duty_18 rfl ?_
      refine z_is M [(4, .int (iN 0)), (3, .int (iN 0)), (0, .ref (ad (0, 0, 0))), (1, .int (iN v1)), (2, .int (iN v2))] dX4_duty_19 hl (by decide) rfl (fun ls hl => ?_)
      obtain ⟨f22, hp⟩ := hp
      exact hL21 f22 0 0 σ19 _ _ _  hp hW hS (lv_sub hl [2, 3, 4, 1, 0] rfl)
    · have hp := hp.2 c21
      refine zi_const M (-1) dX4_duty_14 rfl ?_
      exact zr_i M hr hlocks ((-1), σ19) rfl ⟨hp, hW⟩ hS dX4_duty_15
def P_X4_bare_L21 (K : List nKey) (k : Int → nS → Prop) (v2 : Int) : Nat → Int → Int → nS → Prop
  | 0 => fun _ _ _ => False
  | n + 1 => fun v3 v4 σ =>
    ((6 ≤ w v4 → P_X4_isMinute K σ v3 (fun r3 σ2 => ((w r3 = 0 → k (-1) σ2) ∧ (w r3 ≠ 0 → k v3 σ2)))) ∧ (w v4 < 6 → P_X4_lastOnDuty K σ v3 v2 (fun r6 σ5 => ∀ x7 : Int, x7 = (mxI v3 (1 + r6)) → ∀ x8 : Int, x8 = v4 + 1 → (P_X4_bare_L21 K k v2 n) x7 x8 σ5)))
def P_X4_bare (K : List nKey) (σ : nS) (v1 : Int) (v2 : Int) (k : Int → nS → Prop) : Prop :=
  P_X4_isMinute K σ v1 (fun r10 σ9 => ((w r10 = 0 → k (-1) σ9) ∧ (w r10 ≠ 0 → P_X4_isKind K σ9 v2 (fun r13 σ12 => ((w r13 ≠ 0 → ∃ f15 : Nat, P_X4_bare_L21 K k v2 f15 v1 0 σ12) ∧ (w r13 = 0 → k (-1) σ12))))))
def rmX4_bare : Room := { frames := 3, cells := 0, slots := 0, locals := 67 }
set_option maxHeartbeats 4000000 in
set_option maxRecDepth 100000 in
theorem w_X4_bare {l : Launch} {D : va_G} {ca : Nat → ClassId} {K : List nKey} {ad : nKey → Nat} {σ : nS} {sz : Nat} (hKC : KC K) {v1 : Int} {v2 : Int} {k : Int → nS → Prop} (hp : P_X4_bare K σ v1 v2 k) : Met l yX4_bare (Cond.code yX4_bare cX4_bare 5 (some .int) :: UW) rmX4_bare (ZP D ca [.ref (ad (0, 0, 0)), .int (iN v1), .int (iN v2)] (ZB D K ad ca σ sz)) (ZQi D K ad ca sz k) 0 0 (FA K ad sz) := by
  refine z_start (cc := cX4_bare) (maxL := 5) (ret := (some .int)) (own := RX4) (K := K) (ad := ad) (σ := σ) (Qc := fun sz => ZQi D K ad ca sz k) (by decide) rfl (Nat.le_of_ble_eq_true rfl) ?_
  intro p e s m args below meth c M hr hlocks hW ls hl
  have hS : va_S (FA K ad s.heap.size) s.heap s.heap [] := va_S.rf
  have hA : ∀ q : Nat, s.heap.size ≤ q → FA K ad s.heap.size q := fun q h => Or.inr h
  replace hl : lv_has ls 5 [(0, .ref (ad (0, 0, 0))), (1, .int (iN v1)), (2, .int (iN v2))] := hl
  unfold P_X4_bare at hp
  have hL21 : ∀ (f21 : Nat) (v3 : Int) (v4 : Int) (σ : nS) (H : Heap) (locs : List Loc) (ls : Array Slot), P_X4_bare_L21 K k v2 f21 v3 v4 σ → XW D (FA K ad s.heap.size) K ad (cR ca ad σ) H → va_S (FA K ad s.heap.size) s.heap H locs → lv_has ls 5 [(0, .ref (ad (0, 0, 0))), (2, .int (iN v2)), (3, .int (iN v3)), (4, .int (iN v4))] → W p l e rmX4_bare s m args below meth c H locs 0 0 (MQ below (ZQi D K ad ca s.heap.size k) args s 0 0 (FA K ad s.heap.size)) (F0 m 21 ls []) := by
    intro f21
    induction f21 with
    | zero =>
      intro v3 v4 σ H locs ls  hp
      exact hp.elim
    | succ f21 ih21 =>
      intro v3 v4 σ H locs ls  hp hW hS hl
      refine z_il M dX4_bare_21 hl 3 rfl ?_
      refine zi_bi M 6 dX4_bare_23 (by decide +kernel) ?_
      refine zw_ge M (tgt := 47) dX4_bare_25 (by decide) rfl (w_of ⟨by decide, by decide⟩) (fun c1 => ?_) (fun c1 => ?_)
      · have hp := hp.1 c1
        refine z_il_n M dX4_bare_47 rfl hl 2 rfl ?_
        have hfa := hW.fa hS hA
        refine zc_SU (As := [.int (iN v3)]) (rest := []) M (w_X4_isMinute hKC  hp) (cuS M 1 u_co_X4_isMinute u_ml_X4_70 u_ini_X4 u_st_X4_isMinute (by decide +kernel) rfl rfl ⟨Nat.le_of_ble_eq_true rfl, Nat.le_of_ble_eq_true rfl⟩) ⟨rfl, hW.weaken (fun _ _ => trivial)⟩ rfl hl rfl (Nat.le_of_ble_eq_true rfl) ⟨Nat.zero_le _, Nat.zero_le _⟩ dX4_bare_48 hS hfa (fun u H locs hw _ _ hS => ?_)
        obtain ⟨r3, σ2⟩ := u
        obtain ⟨hp, hW2⟩ := hw
        have hW := hW2.weaken hfa
        try dsimp only at hp
        refine zv_eq M (tgt := 58) dX4_bare_51 (by decide) rfl (fun c4 => ?_) (fun c4 => ?_)
        · have hp := hp.1 c4
          refine zi_const M (-1) dX4_bare_58 rfl ?_
          exact zr_i M hr hlocks ((-1), σ2) rfl ⟨hp, hW⟩ hS dX4_bare_59
        · have hp := hp.2 c4
          refine z_il_n M dX4_bare_54 rfl hl 2 rfl ?_
          refine zg M (tgt := 59) dX4_bare_55 (by decide) ?_
          exact zr_i M hr hlocks (v3, σ2) rfl ⟨hp, hW⟩ hS dX4_bare_59
      · have hp := hp.2 c1
        refine z_il_n M dX4_bare_28 rfl hl 2 rfl ?_
        refine zi_const M 1 dX4_bare_29 rfl ?_
        refine z_al_n M dX4_bare_30 rfl hl 0 rfl ?_
        refine z_il_n M dX4_bare_31 rfl hl 2 rfl ?_
        refine z_il_n M dX4_bare_32 rfl hl 1 rfl ?_
        have hfa := hW.fa hS hA
        refine zc_VU (As := [.int (iN v3), .int (iN v2)]) (rest := [.int (iN 1), .int (iN v3)]) M (w_X4_lastOnDuty hKC  hp) (cuV M 2 u_co_X4_lastOnDuty u_ml_X4_127 u_ini_X4 u_in_X4_lastOnDuty u_se_X4_lastOnDuty (by decide +kernel) rfl rfl ⟨Nat.le_of_ble_eq_true rfl, Nat.le_of_ble_eq_true rfl⟩) (z_recv M hW hKC.k0 rfl rfl) ⟨rfl, hW.weaken (fun _ _ => trivial)⟩ rfl hl rfl (Nat.le_of_ble_eq_true rfl) ⟨Nat.zero_le _, Nat.zero_le _⟩ dX4_bare_33 hS hfa (fun u H locs hw _ _ hS => ?_)
        obtain ⟨r6, σ5⟩ := u
        obtain ⟨hp, hW2⟩ := hw
        have hW := hW2.weaken hfa
        try dsimp only at hp
        refine zi_add M dX4_bare_36 ?_
        refine zi_max M hl (M.hts _ u_ml_X4_131) (M.hts _ u_st_max) (M.hts _ u_ini_Math) (M.hts _ u_co_max) (Nat.le_of_ble_eq_true rfl) (Nat.le_of_ble_eq_true rfl) (Nat.zero_le _) (Nat.zero_le _) dX4_bare_37 ?_
        refine zi_nm (fun x7 ex7 => ?_)
        have hp := hp x7 ex7
        refine z_is_n M [(3, .int (iN x7)), (0, .ref (ad (0, 0, 0))), (2, .int (iN v2)), (4, .int (iN v4))] dX4_bare_40 rfl hl (by decide) rfl (fun ls hl => ?_)
        obtain ⟨x8, ex8⟩ : ∃ z : Int, z = v4 + 1 := ⟨_, rfl⟩
        have hp := hp x8 ex8
        refine z_inc M [(4, .int (iN x8)), (3, .int (iN x7)), (0, .ref (ad (0, 0, 0))), (2, .int (iN v2))] x8 dX4_bare_41 hl 3 rfl ex8.symm (by decide) rfl (fun ls hl => ?_)
        refine zg M (tgt := 21) dX4_bare_44 (by decide) ?_
        exact ih21 x7 x8 σ5 _ _ _  hp hW hS (lv_sub hl [2, 3, 1, 0] rfl)
  refine z_il_n M dX4_bare_0 rfl hl 1 rfl ?_
  have hfa := hW.fa hS hA
  refine zc_SU (As := [.int (iN v1)]) (rest := []) M (w_X4_isMinute hKC  hp) (cuS M 1 u_co_X4_isMinute u_ml_X4_70 u_ini_X4 u_st_X4_isMinute (by decide +kernel) rfl rfl ⟨Nat.le_of_ble_eq_true rfl, Nat.le_of_ble_eq_true rfl⟩) ⟨rfl, hW.weaken (fun _ _ => trivial)⟩ rfl hl rfl (Nat.le_of_ble_eq_true rfl) ⟨Nat.zero_le _, Nat.zero_le _⟩ dX4_bare_1 hS hfa (fun u H locs hw _ _ hS => ?_)
  obtain ⟨r10, σ9⟩ := u
  obtain ⟨hp, hW2⟩ := hw
  have hW := hW2.weaken hfa
  try dsimp only at hp
  refine zv_eq M (tgt := 14) dX4_bare_4 (by decide) rfl (fun c11 => ?_) (fun c11 => ?_)
  · have hp := hp.1 c11
    refine zi_const M (-1) dX4_bare_14 rfl ?_
    exact zr_i M hr hlocks ((-1), σ9) rfl ⟨hp, hW⟩ hS dX4_bare_15
  · have hp := hp.2 c11
    refine z_il_n M dX4_bare_7 rfl hl 2 rfl ?_
    have hfa := hW.fa hS hA
    refine zc_SU (As := [.int (iN v2)]) (rest := []) M (w_X4_isKind hKC  hp) (cuS M 1 u_co_X4_isKind u_ml_X4_118 u_ini_X4 u_st_X4_isKind (by decide +kernel) rfl rfl ⟨Nat.le_of_ble_eq_true rfl, Nat.le_of_ble_eq_true rfl⟩) ⟨rfl, hW.weaken (fun _ _ => trivial)⟩ rfl hl rfl (Nat.le_of_ble_eq_true rfl) ⟨Nat.zero_le _, Nat.zero_le _⟩ dX4_bare_8 hS hfa (fun u H locs hw _ _ hS => ?_)
    obtain ⟨r13, σ12⟩ := u
    obtain ⟨hp, hW2⟩ := hw
    have hW := hW2.weaken hfa
    try dsimp only at hp
    refine zv_ne M (tgt := 16) dX4_bare_11 (by decide) rfl (fun c14 => ?_) (fun c14 => ?_)
    · have hp := hp.1 c14
      refine z_il_n M dX4_bare_16 rfl hl 1 rfl ?_
      refine z_is_n M [(3, .int (iN v1)), (0, .ref (ad (0, 0, 0))), (1, .int (iN v1)), (2, .int (iN v2))] dX4_bare_17 rfl hl (by decide) rfl (fun ls hl => ?_)
      refine zi_const M 0 dX4_bare_18 rfl ?_
      refine z_is M [(4, .int (iN 0)), (3, .int (iN v1)), (0, .ref (ad (0, 0, 0))), (1, .int (iN v1)), (2, .int (iN v2))] dX4_bare_19 hl (by decide) rfl (fun ls hl => ?_)
      obtain ⟨f15, hp⟩ := hp
      exact hL21 f15 v1 0 σ12 _ _ _  hp hW hS (lv_sub hl [2, 4, 1, 0] rfl)
    · have hp := hp.2 c14
      refine zi_const M (-1) dX4_bare_14 rfl ?_
      exact zr_i M hr hlocks ((-1), σ12) rfl ⟨hp, hW⟩ hS dX4_bare_15
def P_X4_isTooLate (K : List nKey) (σ : nS) (v1 : Int) (k : Int → nS → Prop) : Prop :=
  ((w (σ.1 (4, 1, 0) 5) ≤ 0 → k 0 σ) ∧ (0 < w (σ.1 (4, 1, 0) 5) → P_X0_lastEnd K σ 1 (fun r3 σ2 => ((w v1 < w r3 → k 0 σ2) ∧ (w r3 ≤ w v1 → k 1 σ2)))))
def rmX4_isTooLate : Room := { frames := 1, cells := 0, slots := 0, locals := 20 }
set_option maxHeartbeats 4000000 in
set_option maxRecDepth 100000 in
theorem w_X4_isTooLate {l : Launch} {D : va_G} {ca : Nat → ClassId} {K : List nKey} {ad : nKey → Nat} {σ : nS} {sz : Nat} (hKC : KC K) {v1 : Int} {k : Int → nS → Prop} (hp : P_X4_isTooLate K σ v1 k) : Met l yX4_isTooLate (Cond.code yX4_isTooLate cX4_isTooLate 2 (some .boolean) :: UW) rmX4_isTooLate (ZP D ca [.ref (ad (0, 0, 0)), .int (iN v1)] (ZB D K ad ca σ sz)) (ZQi D K ad ca sz k) 0 0 (FA K ad sz) := by
  refine z_start (cc := cX4_isTooLate) (maxL := 2) (ret := (some .boolean)) (own := RX4) (K := K) (ad := ad) (σ := σ) (Qc := fun sz => ZQi D K ad ca sz k) (by decide) rfl (Nat.le_of_ble_eq_true rfl) ?_
  intro p e s m args below meth c M hr hlocks hW ls hl
  have hS : va_S (FA K ad s.heap.size) s.heap s.heap [] := va_S.rf
  have hA : ∀ q : Nat, s.heap.size ≤ q → FA K ad s.heap.size q := fun q h => Or.inr h
  replace hl : lv_has ls 2 [(0, .ref (ad (0, 0, 0))), (1, .int (iN v1))] := hl
  unfold P_X4_isTooLate at hp
  refine z_al_n M dX4_isTooLate_0 rfl hl 0 rfl ?_
  refine zg_X4_4 M u_hin4 hW hKC.k0 (M.hts _ u_fl_X4_32) dX4_isTooLate_1 ?_
  refine zg_X0_5 M u_hin0 hW (hKC.k4 z_lt1) (M.hts _ u_fl_X4_239) dX4_isTooLate_4 ?_
  refine zv_le M (tgt := 25) dX4_isTooLate_7 (by decide) rfl (fun c1 => ?_) (fun c1 => ?_)
  · have hp := hp.1 c1
    refine zi_const M 0 dX4_isTooLate_25 rfl ?_
    exact zr_z M hr hlocks (0, σ) (by decide) rfl ⟨hp, hW⟩ hS dX4_isTooLate_26
  · have hp := hp.2 c1
    refine z_il_n M dX4_isTooLate_10 rfl hl 1 rfl ?_
    refine z_al_n M dX4_isTooLate_11 rfl hl 0 rfl ?_
    refine zg_X4_4 M u_hin4 hW hKC.k0 (M.hts _ u_fl_X4_32) dX4_isTooLate_12 ?_
    have hfa := hW.fa hS hA
    refine zc_VU (As := []) (rest := [.int (iN v1)]) M (w_X0_lastEnd hKC z_lt1 hp) (cuV M 0 u_co_X0_lastEnd u_ml_X4_154 u_ini_X0 u_in_X0_lastEnd u_se_X0_lastEnd (by decide +kernel) rfl rfl ⟨Nat.le_of_ble_eq_true rfl, Nat.le_of_ble_eq_true rfl⟩) (z_recv M hW (hKC.k4 z_lt1) rfl rfl) ⟨rfl, hW.weaken (fun _ _ => trivial)⟩ rfl hl rfl (Nat.le_of_ble_eq_true rfl) ⟨Nat.zero_le _, Nat.zero_le _⟩ dX4_isTooLate_15 hS hfa (fun u H locs hw _ _ hS => ?_)
    obtain ⟨r3, σ2⟩ := u
    obtain ⟨hp, hW2⟩ := hw
    have hW := hW2.weaken hfa
    try dsimp only at hp
    refine zw_lt M (tgt := 25) dX4_isTooLate_18 (by decide) rfl rfl (fun c4 => ?_) (fun c4 => ?_)
    · have hp := hp.1 c4
      refine zi_const M 0 dX4_isTooLate_25 rfl ?_
      exact zr_z M hr hlocks (0, σ2) (by decide) rfl ⟨hp, hW⟩ hS dX4_isTooLate_26
    · have hp := hp.2 c4
      refine zi_const M 1 dX4_isTooLate_21 rfl ?_
      refine zg M (tgt := 26) dX4_isTooLate_22 (by decide) ?_
      exact zr_z M hr hlocks (1, σ2) (by decide) rfl ⟨hp, hW⟩ hS dX4_isTooLate_26
def P_X4_waitsUntil (K : List nKey) (σ : nS) (v1 : Int) (v2 : Int) (k : Int → nS → Prop) : Prop :=
  ((w v1 < 0 → k 1 σ) ∧ (0 ≤ w v1 → ((w v1 < 3 → 0 ≤ v1 ∧ v1 < 3 ∧ P_X4_riderAt K σ (σ.1 (5, 0, 0) (v1).toNat) (fun r6 σ5 => ((r6 = none → k 0 σ5) ∧ (∀ q7 : Nat, r6 = some q7 → (6, q7, 0) ∈ K ∧ ((w (σ5.1 (6, q7, 0) 3) < w v2 → k 0 σ5) ∧ (w v2 ≤ w (σ5.1 (6, q7, 0) 3) → k 1 σ5)))))) ∧ (3 ≤ w v1 → k 1 σ))))
def rmX4_waitsUntil : Room := { frames := 1, cells := 0, slots := 0, locals := 21 }
set_option maxHeartbeats 4000000 in
set_option maxRecDepth 100000 in
theorem w_X4_waitsUntil {l : Launch} {D : va_G} {ca : Nat → ClassId} {K : List nKey} {ad : nKey → Nat} {σ : nS} {sz : Nat} (hKC : KC K) {v1 : Int} {v2 : Int} {k : Int → nS → Prop} (hp : P_X4_waitsUntil K σ v1 v2 k) : Met l yX4_waitsUntil (Cond.code yX4_waitsUntil cX4_waitsUntil 4 (some .boolean) :: UW) rmX4_waitsUntil (ZP D ca [.ref (ad (0, 0, 0)), .int (iN v1), .int (iN v2)] (ZB D K ad ca σ sz)) (ZQi D K ad ca sz k) 0 0 (FA K ad sz) := by
  refine z_start (cc := cX4_waitsUntil) (maxL := 4) (ret := (some .boolean)) (own := RX4) (K := K) (ad := ad) (σ := σ) (Qc := fun sz => ZQi D K ad ca sz k) (by decide) rfl (Nat.le_of_ble_eq_true rfl) ?_
  intro p e s m args below meth c M hr hlocks hW ls hl
  have hS : va_S (FA K ad s.heap.size) s.heap s.heap [] := va_S.rf
  have hA : ∀ q : Nat, s.heap.size ≤ q → FA K ad s.heap.size q := fun q h => Or.inr h
  replace hl : lv_has ls 4 [(0, .ref (ad (0, 0, 0))), (1, .int (iN v1)), (2, .int (iN v2))] := hl
  unfold P_X4_waitsUntil at hp
  refine z_il_n M dX4_waitsUntil_0 rfl hl 1 rfl ?_
  refine zv_lt M (tgt := 9) dX4_waitsUntil_1 (by decide) rfl (fun c1 => ?_) (fun c1 => ?_)
  · have hp := hp.1 c1
    refine zi_const M 1 dX4_waitsUntil_9 rfl ?_
    exact zr_z M hr hlocks (1, σ) (by decide) rfl ⟨hp, hW⟩ hS dX4_waitsUntil_10
  · have hp := hp.2 c1
    refine z_il_n M dX4_waitsUntil_4 rfl hl 1 rfl ?_
    refine zi_const M 3 dX4_waitsUntil_5 rfl ?_
    refine zw_lt M (tgt := 11) dX4_waitsUntil_6 (by decide) rfl (w_of ⟨by decide, by decide⟩) (fun c2 => ?_) (fun c2 => ?_)
    · have hp := hp.1 c2
      refine z_al_n M dX4_waitsUntil_11 rfl hl 0 rfl ?_
      refine z_al_n M dX4_waitsUntil_12 rfl hl 0 rfl ?_
      refine zg_X4_3 M u_hin4 hW hKC.k0 (M.hts _ u_fl_X4_28) dX4_waitsUntil_13 ?_
      refine zg_X0_0 M u_hin0 hW (hKC.k4 z_lt0) (M.hts _ u_fl_X4_263) dX4_waitsUntil_16 ?_
      refine z_il_n M dX4_waitsUntil_19 rfl hl 1 rfl ?_
      obtain ⟨h3, h4, hp⟩ := hp
      refine za_i (n := 3) M hW (hKC.k5 z_lt0 (by decide)) (fun _ _ => rfl) h3 h4 (by decide) dX4_waitsUntil_20 ?_
      have hfa := hW.fa hS hA
      refine zc_VU (As := [.int (iN (σ.1 (5, 0, 0) (v1).toNat))]) (rest := []) M (w_X4_riderAt hKC  hp) (cuV M 1 u_co_X4_riderAt u_ml_X4_55 u_ini_X4 u_in_X4_riderAt u_se_X4_riderAt (by decide +kernel) rfl rfl ⟨Nat.le_of_ble_eq_true rfl, Nat.le_of_ble_eq_true rfl⟩) (z_recv M hW hKC.k0 rfl rfl) ⟨rfl, hW.weaken (fun _ _ => trivial)⟩ rfl hl rfl (Nat.le_of_ble_eq_true rfl) ⟨Nat.zero_le _, Nat.zero_le _⟩ dX4_waitsUntil_21 hS hfa (fun u H locs hw _ _ hS => ?_)
      obtain ⟨r6, σ5⟩ := u
      obtain ⟨hp, hW2⟩ := hw
      have hW := hW2.weaken hfa
      try dsimp only at hp
      rcases r6 with _ | q7
      · refine W.eq (g2 := F0 m 24 ls (.null :: [])) rfl ?_
        have hp := hp.1 rfl
        refine z_asn_n M [(3, .null), (0, .ref (ad (0, 0, 0))), (1, .int (iN v1)), (2, .int (iN v2))] dX4_waitsUntil_24 rfl hl (by decide) rfl (fun ls hl => ?_)
        refine z_aln_n M dX4_waitsUntil_25 rfl hl 0 rfl ?_
        refine z_ifnN M (tgt := 41) dX4_waitsUntil_26 (by decide) ?_
        refine zi_const M 0 dX4_waitsUntil_41 rfl ?_
        exact zr_z M hr hlocks (0, σ5) (by decide) rfl ⟨hp, hW⟩ hS dX4_waitsUntil_42
      · refine W.eq (g2 := F0 m 24 ls (.ref (ad (6, q7, 0)) :: [])) rfl ?_
        obtain ⟨hm_q7, hp⟩ := hp.2 q7 rfl
        refine z_as_n M [(3, .ref (ad (6, q7, 0))), (0, .ref (ad (0, 0, 0))), (1, .int (iN v1)), (2, .int (iN v2))] dX4_waitsUntil_24 rfl hl (by decide) rfl (fun ls hl => ?_)
        refine z_al_n M dX4_waitsUntil_25 rfl hl 0 rfl ?_
        refine z_ifn M dX4_waitsUntil_26 ?_
        refine z_il_n M dX4_waitsUntil_29 rfl hl 3 rfl ?_
        refine z_al_n M dX4_waitsUntil_30 rfl hl 0 rfl ?_
        refine zg_X3_3 M u_hin3 hW hm_q7 (M.hts _ u_fl_X4_211) dX4_waitsUntil_31 ?_
        refine zw_gt M (tgt := 41) dX4_waitsUntil_34 (by decide) rfl rfl (fun c8 => ?_) (fun c8 => ?_)
        · have hp := hp.1 c8
          refine zi_const M 0 dX4_waitsUntil_41 rfl ?_
          exact zr_z M hr hlocks (0, σ5) (by decide) rfl ⟨hp, hW⟩ hS dX4_waitsUntil_42
        · have hp := hp.2 c8
          refine zi_const M 1 dX4_waitsUntil_37 rfl ?_
          refine zg M (tgt := 42) dX4_waitsUntil_38 (by decide) ?_
          exact zr_z M hr hlocks (1, σ5) (by decide) rfl ⟨hp, hW⟩ hS dX4_waitsUntil_42
    · have hp := hp.2 c2
      refine zi_const M 1 dX4_waitsUntil_9 rfl ?_
      exact zr_z M hr hlocks (1, σ) (by decide) rfl ⟨hp, hW⟩ hS dX4_waitsUntil_10
def P_X4_keepIfBetter (K : List nKey) (σ : nS) (k : nS → Prop) : Prop :=
  P_X0_lastEnd K σ 0 (fun r2 σ1 => P_X0_lastEnd K σ1 1 (fun r4 σ3 => ((w r4 = (-1) → P_X0_take K σ3 1 0 (fun σ6 => k σ6)) ∧ (w r4 ≠ (-1) → ((w r2 < w r4 → P_X0_take K σ3 1 0 (fun σ8 => k σ8)) ∧ (w r4 ≤ w r2 → ((w r2 ≠ w r4 → k σ3) ∧ (w r2 = w r4 → ((w (σ3.1 (4, 1, 0) 5) ≤ w (σ3.1 (4, 0, 0) 5) → k σ3) ∧ (w (σ3.1 (4, 0, 0) 5) < w (σ3.1 (4, 1, 0) 5) → P_X0_take K σ3 1 0 (fun σ11 => k σ11)))))))))))
def rmX4_keepIfBetter : Room := { frames := 1, cells := 0, slots := 0, locals := 22 }
set_option maxHeartbeats 4000000 in
set_option maxRecDepth 100000 in
theorem w_X4_keepIfBetter {l : Launch} {D : va_G} {ca : Nat → ClassId} {K : List nKey} {ad : nKey → Nat} {σ : nS} {sz : Nat} (hKC : KC K) {k : nS → Prop} (hp : P_X4_keepIfBetter K σ  k) : Met l yX4_keepIfBetter (Cond.code yX4_keepIfBetter cX4_keepIfBetter 3 none :: UW) rmX4_keepIfBetter (ZP D ca [.ref (ad (0, 0, 0))] (ZB D K ad ca σ sz)) (ZQv D K ad ca sz k) 0 0 (FA K ad sz) := by
  refine z_start (cc := cX4_keepIfBetter) (maxL := 3) (ret := none) (own := RX4) (K := K) (ad := ad) (σ := σ) (Qc := fun sz => ZQv D K ad ca sz k) (by decide) rfl (Nat.le_of_ble_eq_true rfl) ?_
  intro p e s m args below meth c M hr hlocks hW ls hl
  have hS : va_S (FA K ad s.heap.size) s.heap s.heap [] := va_S.rf
  have hA : ∀ q : Nat, s.heap.size ≤ q → FA K ad s.heap.size q := fun q h => Or.inr h
  replace hl : lv_has ls 3 [(0, .ref (ad (0, 0, 0)))] := hl
  unfold P_X4_keepIfBetter at hp
  refine z_al_n M dX4_keepIfBetter_0 rfl hl 0 rfl ?_
  refine zg_X4_3 M u_hin4 hW hKC.k0 (M.hts _ u_fl_X4_28) dX4_keepIfBetter_1 ?_
  have hfa := hW.fa hS hA
  refine zc_VU (As := []) (rest := []) M (w_X0_lastEnd hKC z_lt0 hp) (cuV M 0 u_co_X0_lastEnd u_ml_X4_154 u_ini_X0 u_in_X0_lastEnd u_se_X0_lastEnd (by decide +kernel) rfl rfl ⟨Nat.le_of_ble_eq_true rfl, Nat.le_of_ble_eq_true rfl⟩) (z_recv M hW (hKC.k4 z_lt0) rfl rfl) ⟨rfl, hW.weaken (fun _ _ => trivial)⟩ rfl hl rfl (Nat.le_of_ble_eq_true rfl) ⟨Nat.zero_le _, Nat.zero_le _⟩ dX4_keepIfBetter_4 hS hfa (fun u H locs hw _ _ hS => ?_)
  obtain ⟨r2, σ1⟩ := u
  obtain ⟨hp, hW2⟩ := hw
  have hW := hW2.weaken hfa
  try dsimp only at hp
  refine z_is_n M [(1, .int (iN r2)), (0, .ref (ad (0, 0, 0)))] dX4_keepIfBetter_7 rfl hl (by decide) rfl (fun ls hl => ?_)
  refine z_al_n M dX4_keepIfBetter_8 rfl hl 1 rfl ?_
  refine zg_X4_4 M u_hin4 hW hKC.k0 (M.hts _ u_fl_X4_32) dX4_keepIfBetter_9 ?_
  have hfa := hW.fa hS hA
  refine zc_VU (As := []) (rest := []) M (w_X0_lastEnd hKC z_lt1 hp) (cuV M 0 u_co_X0_lastEnd u_ml_X4_154 u_ini_X0 u_in_X0_lastEnd u_se_X0_lastEnd (by decide +kernel) rfl rfl ⟨Nat.le_of_ble_eq_true rfl, Nat.le_of_ble_eq_true rfl⟩) (z_recv M hW (hKC.k4 z_lt1) rfl rfl) ⟨rfl, hW.weaken (fun _ _ => trivial)⟩ rfl hl rfl (Nat.le_of_ble_eq_true rfl) ⟨Nat.zero_le _, Nat.zero_le _⟩ dX4_keepIfBetter_12 hS hfa (fun u H locs hw _ _ hS => ?_)
  obtain ⟨r4, σ3⟩ := u
  obtain ⟨hp, hW2⟩ := hw
  have hW := hW2.weaken hfa
  try dsimp only at hp
  refine z_is_n M [(2, .int (iN r4)), (1, .int (iN r2)), (0, .ref (ad (0, 0, 0)))] dX4_keepIfBetter_15 rfl hl (by decide) rfl (fun ls hl => ?_)
  refine z_il_n M dX4_keepIfBetter_16 rfl hl 0 rfl ?_
  refine zi_const M (-1) dX4_keepIfBetter_17 rfl ?_
  refine zw_eq M (tgt := 48) dX4_keepIfBetter_18 (by decide) rfl (w_of ⟨by decide, by decide⟩) (fun c5 => ?_) (fun c5 => ?_)
  · have hp := hp.1 c5
    refine z_al_n M dX4_keepIfBetter_48 rfl hl 2 rfl ?_
    refine zg_X4_4 M u_hin4 hW hKC.k0 (M.hts _ u_fl_X4_32) dX4_keepIfBetter_49 ?_
    refine z_al_n M dX4_keepIfBetter_52 rfl hl 2 rfl ?_
    refine zg_X4_3 M u_hin4 hW hKC.k0 (M.hts _ u_fl_X4_28) dX4_keepIfBetter_53 ?_
    have hfa := hW.fa hS hA
    refine zc_VU (As := [.ref (ad (4, 0, 0))]) (rest := []) M (w_X0_take hKC z_lt1 z_lt0 hp) (cuV M 1 u_co_X0_take u_ml_X4_281 u_ini_X0 u_in_X0_take u_se_X0_take (by decide +kernel) rfl rfl ⟨Nat.le_of_ble_eq_true rfl, Nat.le_of_ble_eq_true rfl⟩) (z_recv M hW (hKC.k4 z_lt1) rfl rfl) ⟨rfl, hW.weaken (fun _ _ => trivial)⟩ rfl hl rfl (Nat.le_of_ble_eq_true rfl) ⟨Nat.zero_le _, Nat.zero_le _⟩ dX4_keepIfBetter_56 hS hfa (fun σ6 H locs hw _ _ hS => ?_)
    obtain ⟨hp, hW2⟩ := hw
    have hW := hW2.weaken hfa
    try dsimp only at hp
    exact zr_v M hr hlocks σ6 rfl ⟨hp, hW⟩ hS dX4_keepIfBetter_59
  · have hp := hp.2 c5
    refine z_il_n M dX4_keepIfBetter_21 rfl hl 1 rfl ?_
    refine z_il_n M dX4_keepIfBetter_22 rfl hl 0 rfl ?_
    refine zw_lt M (tgt := 48) dX4_keepIfBetter_23 (by decide) rfl rfl (fun c7 => ?_) (fun c7 => ?_)
    · have hp := hp.1 c7
      refine z_al_n M dX4_keepIfBetter_48 rfl hl 2 rfl ?_
      refine zg_X4_4 M u_hin4 hW hKC.k0 (M.hts _ u_fl_X4_32) dX4_keepIfBetter_49 ?_
      refine z_al_n M dX4_keepIfBetter_52 rfl hl 2 rfl ?_
      refine zg_X4_3 M u_hin4 hW hKC.k0 (M.hts _ u_fl_X4_28) dX4_keepIfBetter_53 ?_
      have hfa := hW.fa hS hA
      refine zc_VU (As := [.ref (ad (4, 0, 0))]) (rest := []) M (w_X0_take hKC z_lt1 z_lt0 hp) (cuV M 1 u_co_X0_take u_ml_X4_281 u_ini_X0 u_in_X0_take u_se_X0_take (by decide +kernel) rfl rfl ⟨Nat.le_of_ble_eq_true rfl, Nat.le_of_ble_eq_true rfl⟩) (z_recv M hW (hKC.k4 z_lt1) rfl rfl) ⟨rfl, hW.weaken (fun _ _ => trivial)⟩ rfl hl rfl (Nat.le_of_ble_eq_true rfl) ⟨Nat.zero_le _, Nat.zero_le _⟩ dX4_keepIfBetter_56 hS hfa (fun σ8 H locs hw _ _ hS => ?_)
      obtain ⟨hp, hW2⟩ := hw
      have hW := hW2.weaken hfa
      try dsimp only at hp
      exact zr_v M hr hlocks σ8 rfl ⟨hp, hW⟩ hS dX4_keepIfBetter_59
    · have hp := hp.2 c7
      refine z_il_n M dX4_keepIfBetter_26 rfl hl 1 rfl ?_
      refine z_il_n M dX4_keepIfBetter_27 rfl hl 0 rfl ?_
      refine zw_ne M (tgt := 59) dX4_keepIfBetter_28 (by decide) rfl rfl (fun c9 => ?_) (fun c9 => ?_)
      · have hp := hp.1 c9
        exact zr_v M hr hlocks σ3 rfl ⟨hp, hW⟩ hS dX4_keepIfBetter_59
      · have hp := hp.2 c9
        refine z_al_n M dX4_keepIfBetter_31 rfl hl 2 rfl ?_
        refine zg_X4_3 M u_hin4 hW hKC.k0 (M.hts _ u_fl_X4_28) dX4_keepIfBetter_32 ?_
        refine zg_X0_5 M u_hin0 hW (hKC.k4 z_lt0) (M.hts _ u_fl_X4_239) dX4_keepIfBetter_35 ?_
        refine z_al_n M dX4_keepIfBetter_38 rfl hl 2 rfl ?_
        refine zg_X4_4 M u_hin4 hW hKC.k0 (M.hts _ u_fl_X4_32) dX4_keepIfBetter_39 ?_
        refine zg_X0_5 M u_hin0 hW (hKC.k4 z_lt1) (M.hts _ u_fl_X4_239) dX4_keepIfBetter_42 ?_
        refine zw_ge M (tgt := 59) dX4_keepIfBetter_45 (by decide) rfl rfl (fun c10 => ?_) (fun c10 => ?_)
        · have hp := hp.1 c10
          exact zr_v M hr hlocks σ3 rfl ⟨hp, hW⟩ hS dX4_keepIfBetter_59
        · have hp := hp.2 c10
          refine z_al_n M dX4_keepIfBetter_48 rfl hl 2 rfl ?_
          refine zg_X4_4 M u_hin4 hW hKC.k0 (M.hts _ u_fl_X4_32) dX4_keepIfBetter_49 ?_
          refine z_al_n M dX4_keepIfBetter_52 rfl hl 2 rfl ?_
          refine zg_X4_3 M u_hin4 hW hKC.k0 (M.hts _ u_fl_X4_28) dX4_keepIfBetter_53 ?_
          have hfa := hW.fa hS hA
          refine zc_VU (As := [.ref (ad (4, 0, 0))]) (rest := []) M (w_X0_take hKC z_lt1 z_lt0 hp) (cuV M 1 u_co_X0_take u_ml_X4_281 u_ini_X0 u_in_X0_take u_se_X0_take (by decide +kernel) rfl rfl ⟨Nat.le_of_ble_eq_true rfl, Nat.le_of_ble_eq_true rfl⟩) (z_recv M hW (hKC.k4 z_lt1) rfl rfl) ⟨rfl, hW.weaken (fun _ _ => trivial)⟩ rfl hl rfl (Nat.le_of_ble_eq_true rfl) ⟨Nat.zero_le _, Nat.zero_le _⟩ dX4_keepIfBetter_56 hS hfa (fun σ11 H locs hw _ _ hS => ?_)
          obtain ⟨hp, hW2⟩ := hw
          have hW := hW2.weaken hfa
          try dsimp only at hp
          exact zr_v M hr hlocks σ11 rfl ⟨hp, hW⟩ hS dX4_keepIfBetter_59
def P_X4_tryEnd (K : List nKey) (rc : nS → Int → Int → Int → (nS → Prop) → Prop) (σ : nS) (v1 : Int) (q2 : Nat) (v3 : Int) (v4 : Int) (k : nS → Prop) : Prop :=
  P_X0_fromOf K σ 0 v1 (fun r2 σ1 => P_X4_wayOf K σ1 q2 r2 v4 (fun r4 σ3 => ((w r4 = (-1) → k σ3) ∧ (w r4 ≠ (-1) → ((w (σ3.1 (6, q2, 0) 3) < w (v3 + r4) → k σ3) ∧ (w (v3 + r4) ≤ w (σ3.1 (6, q2, 0) 3) → P_X0_comesFrom K σ3 0 v4 (v1 + 1) (fun r8 σ7 => ((w r8 = 0 → P_X0_close K σ7 0 v1 v4 (v3 + r4) (fun σ10 => ((w v4 ≠ w (σ10.1 (4, 0, 0) 7) → rc σ10 (v1 + 1) v4 (v3 + r4) (fun σ12 => k σ12)) ∧ (w v4 = w (σ10.1 (4, 0, 0) 7) → P_X4_keepIfBetter K σ10  (fun σ13 => k σ13))))) ∧ (w r8 ≠ 0 → k σ7)))))))))
def rmX4_tryRiders (d : Nat) : Room := { frames := 4 + 3 * d, cells := 0, slots := 0, locals := 68 + 80 * d }
def rmX4_tryEnd (d : Nat) : Room := { frames := 4 + 3 * d + 1, cells := 0, slots := 0, locals := 68 + 80 * d + 27 }
def rmX4_tryEnds (d : Nat) : Room := { frames := 4 + 3 * d + 2, cells := 0, slots := 0, locals := 68 + 80 * d + 52 }
set_option maxHeartbeats 4000000 in
set_option maxRecDepth 100000 in
theorem w_X4_tryEnd {l : Launch} {D : va_G} {ca : Nat → ClassId} {K : List nKey} {ad : nKey → Nat} {σ : nS} {sz : Nat} (hKC : KC K) {v1 : Int} {q2 : Nat} {v3 : Int} {v4 : Int} (hm_q2 : (6, q2, 0) ∈ K) {rc : nS → Int → Int → Int → (nS → Prop) → Prop} {d : Nat} (hrc : ∀ (σ : nS) (v1 : Int) (v2 : Int) (v3 : Int) (k : nS → Prop) (sz : Nat), rc σ v1 v2 v3 k → Met l yX4_tryRiders (Cond.code yX4_tryRiders cX4_tryRiders 8 none :: UW) (rmX4_tryRiders d) (ZP D ca [.ref (ad (0, 0, 0)), .int (iN v1), .int (iN v2), .int (iN v3)] (ZB D K ad ca σ sz)) (ZQv D K ad ca sz k) 0 0 (FA K ad sz)) {k : nS → Prop} (hp : P_X4_tryEnd K rc σ v1 q2 v3 v4 k) : Met l yX4_tryEnd (Cond.code yX4_tryEnd cX4_tryEnd 6 none :: UW) (rmX4_tryEnd d) (ZP D ca [.ref (ad (0, 0, 0)), .int (iN v1), .ref (ad (6, q2, 0)), .int (iN v3), .int (iN v4)] (ZB D K ad ca σ sz)) (ZQv D K ad ca sz k) 0 0 (FA K ad sz) := by
  refine z_start (cc := cX4_tryEnd) (maxL := 6) (ret := none) (own := RX4) (K := K) (ad := ad) (σ := σ) (Qc := fun sz => ZQv D K ad ca sz k) (by decide) rfl (Nat.le_of_ble_eq_true rfl) ?_
  intro p e s m args below meth c M hr hlocks hW ls hl
  have hS : va_S (FA K ad s.heap.size) s.heap s.heap [] := va_S.rf
  have hA : ∀ q : Nat, s.heap.size ≤ q → FA K ad s.heap.size q := fun q h => Or.inr h
  replace hl : lv_has ls 6 [(0, .ref (ad (0, 0, 0))), (1, .int (iN v1)), (2, .ref (ad (6, q2, 0))), (3, .int (iN v3)), (4, .int (iN v4))] := hl
  unfold P_X4_tryEnd at hp
  refine z_al_n M dX4_tryEnd_0 rfl hl 0 rfl ?_
  refine z_al_n M dX4_tryEnd_1 rfl hl 2 rfl ?_
  refine z_al_n M dX4_tryEnd_2 rfl hl 0 rfl ?_
  refine zg_X4_3 M u_hin4 hW hKC.k0 (M.hts _ u_fl_X4_28) dX4_tryEnd_3 ?_
  refine z_il_n M dX4_tryEnd_6 rfl hl 1 rfl ?_
  have hfa := hW.fa hS hA
  refine zc_VU (As := [.int (iN v1)]) (rest := [.ref (ad (6, q2, 0)), .ref (ad (0, 0, 0))]) M (w_X0_fromOf hKC z_lt0 hp) (cuV M 1 u_co_X0_fromOf u_ml_X4_269 u_ini_X0 u_in_X0_fromOf u_se_X0_fromOf (by decide +kernel) rfl rfl ⟨(by simp only [rmX4_tryEnd, rmX4_tryEnds, rmX4_tryRiders, rmX0_fromOf]; omega), (by simp only [rmX4_tryEnd, rmX4_tryEnds, rmX4_tryRiders, rmX0_fromOf]; omega)⟩) (z_recv M hW (hKC.k4 z_lt0) rfl rfl) ⟨rfl, hW.weaken (fun _ _ => trivial)⟩ rfl hl rfl (Nat.le_of_ble_eq_true rfl) ⟨Nat.zero_le _, Nat.zero_le _⟩ dX4_tryEnd_7 hS hfa (fun u H locs hw _ _ hS => ?_)
  obtain ⟨r2, σ1⟩ := u
  obtain ⟨hp, hW2⟩ := hw
  have hW := hW2.weaken hfa
  try dsimp only at hp
  refine z_il M dX4_tryEnd_10 hl 4 rfl ?_
  have hfa := hW.fa hS hA
  refine zc_VU (As := [.ref (ad (6, q2, 0)), .int (iN r2), .int (iN v4)]) (rest := []) M (w_X4_wayOf hKC hm_q2 hp) (cuV M 3 u_co_X4_wayOf u_ml_X4_80 u_ini_X4 u_in_X4_wayOf u_se_X4_wayOf (by decide +kernel) rfl rfl ⟨(by simp only [rmX4_tryEnd, rmX4_tryEnds, rmX4_tryRiders, rmX4_wayOf]; omega), (by simp only [rmX4_tryEnd, rmX4_tryEnds, rmX4_tryRiders, rmX4_wayOf]; omega)⟩) (z_recv M hW hKC.k0 rfl rfl) ⟨rfl, hW.weaken (fun _ _ => trivial)⟩ rfl hl rfl (Nat.le_of_ble_eq_true rfl) ⟨Nat.zero_le _, Nat.zero_le _⟩ dX4_tryEnd_12 hS hfa (fun u H locs hw _ _ hS => ?_)
  obtain ⟨r4, σ3⟩ := u
  obtain ⟨hp, hW2⟩ := hw
  have hW := hW2.weaken hfa
  try dsimp only at hp
  refine z_is M [(5, .int (iN r4)), (0, .ref (ad (0, 0, 0))), (1, .int (iN v1)), (2, .ref (ad (6, q2, 0))), (3, .int (iN v3)), (4, .int (iN v4))] dX4_tryEnd_15 hl (by decide) rfl (fun ls hl => ?_)
  refine z_il M dX4_tryEnd_17 hl 0 rfl ?_
  refine zi_const M (-1) dX4_tryEnd_19 rfl ?_
  refine zw_eq M (tgt := 49) dX4_tryEnd_20 (by decide) rfl (w_of ⟨by decide, by decide⟩) (fun c5 => ?_) (fun c5 => ?_)
  · have hp := hp.1 c5
    exact zr_v M hr hlocks σ3 rfl ⟨hp, hW⟩ hS dX4_tryEnd_49
  · have hp := hp.2 c5
    refine z_il_n M dX4_tryEnd_23 rfl hl 4 rfl ?_
    refine z_il M dX4_tryEnd_24 hl 0 rfl ?_
    refine zi_add M dX4_tryEnd_26 ?_
    refine z_al_n M dX4_tryEnd_27 rfl hl 3 rfl ?_
    refine zg_X3_3 M u_hin3 hW hm_q2 (M.hts _ u_fl_X4_211) dX4_tryEnd_28 ?_
    refine zw_gt M (tgt := 49) dX4_tryEnd_31 (by decide) rfl rfl (fun c6 => ?_) (fun c6 => ?_)
    · have hp := hp.1 c6
      exact zr_v M hr hlocks σ3 rfl ⟨hp, hW⟩ hS dX4_tryEnd_49
    · have hp := hp.2 c6
      refine z_al_n M dX4_tryEnd_34 rfl hl 1 rfl ?_
      refine zg_X4_3 M u_hin4 hW hKC.k0 (M.hts _ u_fl_X4_28) dX4_tryEnd_35 ?_
      refine z_il M dX4_tryEnd_38 hl 5 rfl ?_
      refine z_il_n M dX4_tryEnd_40 rfl hl 2 rfl ?_
      refine zi_const M 1 dX4_tryEnd_41 rfl ?_
      refine zi_add M dX4_tryEnd_42 ?_
      have hfa := hW.fa hS hA
      refine zc_VU (As := [.int (iN v4), .int (iN (v1 + 1))]) (rest := []) M (w_X0_comesFrom hKC z_lt0 hp) (cuV M 2 u_co_X0_comesFrom u_ml_X4_272 u_ini_X0 u_in_X0_comesFrom u_se_X0_comesFrom (by decide +kernel) rfl rfl ⟨(by simp only [rmX4_tryEnd, rmX4_tryEnds, rmX4_tryRiders, rmX0_comesFrom]; omega), (by simp only [rmX4_tryEnd, rmX4_tryEnds, rmX4_tryRiders, rmX0_comesFrom]; omega)⟩) (z_recv M hW (hKC.k4 z_lt0) rfl rfl) ⟨rfl, hW.weaken (fun _ _ => trivial)⟩ rfl hl rfl (Nat.le_of_ble_eq_true rfl) ⟨Nat.zero_le _, Nat.zero_le _⟩ dX4_tryEnd_43 hS hfa (fun u H locs hw _ _ hS => ?_)
      obtain ⟨r8, σ7⟩ := u
      obtain ⟨hp, hW2⟩ := hw
      have hW := hW2.weaken hfa
      try dsimp only at hp
      refine zv_eq M (tgt := 50) dX4_tryEnd_46 (by decide) rfl (fun c9 => ?_) (fun c9 => ?_)
      · have hp := hp.1 c9
        refine z_al_n M dX4_tryEnd_50 rfl hl 1 rfl ?_
        refine zg_X4_3 M u_hin4 hW hKC.k0 (M.hts _ u_fl_X4_28) dX4_tryEnd_51 ?_
        refine z_il_n M dX4_tryEnd_54 rfl hl 2 rfl ?_
        refine z_il M dX4_tryEnd_55 hl 5 rfl ?_
        refine z_il_n M dX4_tryEnd_57 rfl hl 4 rfl ?_
        refine z_il M dX4_tryEnd_58 hl 0 rfl ?_
        refine zi_add M dX4_tryEnd_60 ?_
        have hfa := hW.fa hS hA
        refine zc_VU (As := [.int (iN v1), .int (iN v4), .int (iN (v3 + r4))]) (rest := []) M (w_X0_close hKC z_lt0 hp) (cuV M 3 u_co_X0_close u_ml_X4_275 u_ini_X0 u_in_X0_close u_se_X0_close (by decide +kernel) rfl rfl ⟨(by simp only [rmX4_tryEnd, rmX4_tryEnds, rmX4_tryRiders, rmX0_close]; omega), (by simp only [rmX4_tryEnd, rmX4_tryEnds, rmX4_tryRiders, rmX0_close]; omega)⟩) (z_recv M hW (hKC.k4 z_lt0) rfl rfl) ⟨rfl, hW.weaken (fun _ _ => trivial)⟩ rfl hl rfl (Nat.le_of_ble_eq_true rfl) ⟨Nat.zero_le _, Nat.zero_le _⟩ dX4_tryEnd_61 hS hfa (fun σ10 H locs hw _ _ hS => ?_)
        obtain ⟨hp, hW2⟩ := hw
        have hW := hW2.weaken hfa
        try dsimp only at hp
        refine z_il M dX4_tryEnd_64 hl 5 rfl ?_
        refine z_al_n M dX4_tryEnd_66 rfl hl 1 rfl ?_
        refine zg_X4_3 M u_hin4 hW hKC.k0 (M.hts _ u_fl_X4_28) dX4_tryEnd_67 ?_
        refine zg_X0_7 M u_hin0 hW (hKC.k4 z_lt0) (M.hts _ u_fl_X4_236) dX4_tryEnd_70 ?_
        refine zw_ne M (tgt := 83) dX4_tryEnd_73 (by decide) rfl rfl (fun c11 => ?_) (fun c11 => ?_)
        · have hp := hp.1 c11
          refine z_al_n M dX4_tryEnd_83 rfl hl 1 rfl ?_
          refine z_il_n M dX4_tryEnd_84 rfl hl 2 rfl ?_
          refine zi_const M 1 dX4_tryEnd_85 rfl ?_
          refine zi_add M dX4_tryEnd_86 ?_
          refine z_il M dX4_tryEnd_87 hl 5 rfl ?_
          refine z_il_n M dX4_tryEnd_89 rfl hl 4 rfl ?_
          refine z_il M dX4_tryEnd_90 hl 0 rfl ?_
          refine zi_add M dX4_tryEnd_92 ?_
          have hfa := hW.fa hS hA
          refine zc_VU (As := [.int (iN (v1 + 1)), .int (iN v4), .int (iN (v3 + r4))]) (rest := []) M (hrc σ10 (v1 + 1) v4 (v3 + r4) _ _ hp) (cuV M 3 u_co_X4_tryRiders u_ml_X4_242 u_ini_X4 u_in_X4_tryRiders u_se_X4_tryRiders (by decide +kernel) rfl rfl ⟨(by simp only [rmX4_tryEnd, rmX4_tryEnds, rmX4_tryRiders]; omega), (by simp only [rmX4_tryEnd, rmX4_tryEnds, rmX4_tryRiders]; omega)⟩) (z_recv M hW hKC.k0 rfl rfl) ⟨rfl, hW.weaken (fun _ _ => trivial)⟩ rfl hl rfl (Nat.le_of_ble_eq_true rfl) ⟨Nat.zero_le _, Nat.zero_le _⟩ dX4_tryEnd_93 hS hfa (fun σ12 H locs hw _ _ hS => ?_)
          obtain ⟨hp, hW2⟩ := hw
          have hW := hW2.weaken hfa
          try dsimp only at hp
          exact zr_v M hr hlocks σ12 rfl ⟨hp, hW⟩ hS dX4_tryEnd_96
        · have hp := hp.2 c11
          refine z_al_n M dX4_tryEnd_76 rfl hl 1 rfl ?_
          have hfa := hW.fa hS hA
          refine zc_VU (As := []) (rest := []) M (w_X4_keepIfBetter hKC  hp) (cuV M 0 u_co_X4_keepIfBetter u_ml_X4_278 u_ini_X4 u_in_X4_keepIfBetter u_se_X4_keepIfBetter (by decide +kernel) rfl rfl ⟨(by simp only [rmX4_tryEnd, rmX4_tryEnds, rmX4_tryRiders, rmX4_keepIfBetter]; omega), (by simp only [rmX4_tryEnd, rmX4_tryEnds, rmX4_tryRiders, rmX4_keepIfBetter]; omega)⟩) (z_recv M hW hKC.k0 rfl rfl) ⟨rfl, hW.weaken (fun _ _ => trivial)⟩ rfl hl rfl (Nat.le_of_ble_eq_true rfl) ⟨Nat.zero_le _, Nat.zero_le _⟩ dX4_tryEnd_77 hS hfa (fun σ13 H locs hw _ _ hS => ?_)
          obtain ⟨hp, hW2⟩ := hw
          have hW := hW2.weaken hfa
          try dsimp only at hp
          refine zg M (tgt := 96) dX4_tryEnd_80 (by decide) ?_
          exact zr_v M hr hlocks σ13 rfl ⟨hp, hW⟩ hS dX4_tryEnd_96
      · have hp := hp.2 c9
        exact zr_v M hr hlocks σ7 rfl ⟨hp, hW⟩ hS dX4_tryEnd_49
