def P_X5_thrown (K : List nKey) (σ : nS) (k : Int → nS → Prop) : Prop :=
  k (σ.1 (11, 0, 0) 24) σ
def rmX5_thrown : Room := { frames := 0, cells := 0, slots := 0, locals := 0 }
set_option maxHeartbeats 4000000 in
set_option maxRecDepth 100000 in
theorem w_X5_thrown {l : Launch} {D : va_G} {ca : Nat → ClassId} {K : List nKey} {ad : nKey → Nat} {σ : nS} {sz : Nat} (hKC : KC K) {k : Int → nS → Prop} (hp : P_X5_thrown K σ  k) : Met l yX5_thrown (Cond.code yX5_thrown cX5_thrown 1 (some .int) :: UW) rmX5_thrown (ZP D ca [.ref (ad (11, 0, 0))] (ZB D K ad ca σ sz)) (ZQi D K ad ca sz k) 0 0 (FA K ad sz) := by
  refine z_start (cc := cX5_thrown) (maxL := 1) (ret := (some .int)) (own := RX5) (K := K) (ad := ad) (σ := σ) (Qc := fun sz => ZQi D K ad ca sz k) (by decide) rfl (Nat.le_of_ble_eq_true rfl) ?_
  intro p e s m args below meth c M hr hlocks hW ls hl
  have hS : va_S (FA K ad s.heap.size) s.heap s.heap [] := va_S.rf
  have hA : ∀ q : Nat, s.heap.size ≤ q → FA K ad s.heap.size q := fun q h => Or.inr h
  replace hl : lv_has ls 1 [(0, .ref (ad (11, 0, 0)))] := hl
  unfold P_X5_thrown at hp
  refine z_al_n M dX5_thrown_0 rfl hl 0 rfl ?_
  refine zg_X5_24 M u_hin5 hW hKC.k11 (M.hts _ u_fl_X5_102) dX5_thrown_1 ?_
  exact zr_i M hr hlocks ((σ.1 (11, 0, 0) 24), σ) rfl ⟨hp, hW⟩ hS dX5_thrown_4
def P_X5_in (K : List nKey) (σ : nS) (v0 : Int) (v1 : Int) (v2 : Int) (k : Int → nS → Prop) : Prop :=
  ((w v0 < w v1 → k 0 σ) ∧ (w v1 ≤ w v0 → ((w v2 < w v0 → k 0 σ) ∧ (w v0 ≤ w v2 → k 1 σ))))
def rmX5_in : Room := { frames := 0, cells := 0, slots := 0, locals := 0 }
set_option maxHeartbeats 4000000 in
set_option maxRecDepth 100000 in
theorem w_X5_in {l : Launch} {D : va_G} {ca : Nat → ClassId} {K : List nKey} {ad : nKey → Nat} {σ : nS} {sz : Nat} (hKC : KC K) {v0 : Int} {v1 : Int} {v2 : Int} {k : Int → nS → Prop} (hp : P_X5_in K σ v0 v1 v2 k) : Met l yX5_in (Cond.code yX5_in cX5_in 3 (some .boolean) :: UW) rmX5_in (ZP D ca [.int (iN v0), .int (iN v1), .int (iN v2)] (ZB D K ad ca σ sz)) (ZQi D K ad ca sz k) 0 0 (FA K ad sz) := by
  refine z_start (cc := cX5_in) (maxL := 3) (ret := (some .boolean)) (own := RX5) (K := K) (ad := ad) (σ := σ) (Qc := fun sz => ZQi D K ad ca sz k) (by decide) rfl (Nat.le_of_ble_eq_true rfl) ?_
  intro p e s m args below meth c M hr hlocks hW ls hl
  have hS : va_S (FA K ad s.heap.size) s.heap s.heap [] := va_S.rf
  have hA : ∀ q : Nat, s.heap.size ≤ q → FA K ad s.heap.size q := fun q h => Or.inr h
  replace hl : lv_has ls 3 [(0, .int (iN v0)), (1, .int (iN v1)), (2, .int (iN v2))] := hl
  unfold P_X5_in at hp
  refine z_il_n M dX5_in_0 rfl hl 0 rfl ?_
  refine z_il_n M dX5_in_1 rfl hl 1 rfl ?_
  refine zw_lt M (tgt := 14) dX5_in_2 (by decide) rfl rfl (fun c1 => ?_) (fun c1 => ?_)
  · have hp := hp.1 c1
    refine zi_const M 0 dX5_in_14 rfl ?_
    exact zr_z M hr hlocks (0, σ) (by decide) rfl ⟨hp, hW⟩ hS dX5_in_15
  · have hp := hp.2 c1
    refine z_il_n M dX5_in_5 rfl hl 0 rfl ?_
    refine z_il_n M dX5_in_6 rfl hl 2 rfl ?_
    refine zw_gt M (tgt := 14) dX5_in_7 (by decide) rfl rfl (fun c2 => ?_) (fun c2 => ?_)
    · have hp := hp.1 c2
      refine zi_const M 0 dX5_in_14 rfl ?_
      exact zr_z M hr hlocks (0, σ) (by decide) rfl ⟨hp, hW⟩ hS dX5_in_15
    · have hp := hp.2 c2
      refine zi_const M 1 dX5_in_10 rfl ?_
      refine zg M (tgt := 15) dX5_in_11 (by decide) ?_
      exact zr_z M hr hlocks (1, σ) (by decide) rfl ⟨hp, hW⟩ hS dX5_in_15
def P_X5_isPlace (K : List nKey) (σ : nS) (v1 : Int) (k : Int → nS → Prop) : Prop :=
  P_X5_in K σ v1 0 ((σ.1 (11, 0, 0) 1) - 1) (fun r2 σ1 => (r2 = 0 ∨ r2 = 1) ∧ k r2 σ1)
def rmX5_isPlace : Room := { frames := 1, cells := 0, slots := 0, locals := 22 }
set_option maxHeartbeats 4000000 in
set_option maxRecDepth 100000 in
theorem w_X5_isPlace {l : Launch} {D : va_G} {ca : Nat → ClassId} {K : List nKey} {ad : nKey → Nat} {σ : nS} {sz : Nat} (hKC : KC K) {v1 : Int} {k : Int → nS → Prop} (hp : P_X5_isPlace K σ v1 k) : Met l yX5_isPlace (Cond.code yX5_isPlace cX5_isPlace 2 (some .boolean) :: UW) rmX5_isPlace (ZP D ca [.ref (ad (11, 0, 0)), .int (iN v1)] (ZB D K ad ca σ sz)) (ZQi D K ad ca sz k) 0 0 (FA K ad sz) := by
  refine z_start (cc := cX5_isPlace) (maxL := 2) (ret := (some .boolean)) (own := RX5) (K := K) (ad := ad) (σ := σ) (Qc := fun sz => ZQi D K ad ca sz k) (by decide) rfl (Nat.le_of_ble_eq_true rfl) ?_
  intro p e s m args below meth c M hr hlocks hW ls hl
  have hS : va_S (FA K ad s.heap.size) s.heap s.heap [] := va_S.rf
  have hA : ∀ q : Nat, s.heap.size ≤ q → FA K ad s.heap.size q := fun q h => Or.inr h
  replace hl : lv_has ls 2 [(0, .ref (ad (11, 0, 0))), (1, .int (iN v1))] := hl
  unfold P_X5_isPlace at hp
  refine z_il_n M dX5_isPlace_0 rfl hl 1 rfl ?_
  refine zi_const M 0 dX5_isPlace_1 rfl ?_
  refine z_al_n M dX5_isPlace_2 rfl hl 0 rfl ?_
  refine zg_X5_1 M u_hin5 hW hKC.k11 (M.hts _ u_fl_X5_105) dX5_isPlace_3 ?_
  refine zi_const M 1 dX5_isPlace_6 rfl ?_
  refine zi_sub M dX5_isPlace_7 ?_
  have hfa := hW.fa hS hA
  refine zc_SU (As := [.int (iN v1), .int (iN 0), .int (iN ((σ.1 (11, 0, 0) 1) - 1))]) (rest := []) M (w_X5_in hKC  hp) (cuS M 3 u_co_X5_in u_ml_X5_108 u_ini_X5 u_st_X5_in (by decide +kernel) rfl rfl ⟨Nat.le_of_ble_eq_true rfl, Nat.le_of_ble_eq_true rfl⟩) ⟨rfl, hW.weaken (fun _ _ => trivial)⟩ rfl hl rfl (Nat.le_of_ble_eq_true rfl) ⟨Nat.zero_le _, Nat.zero_le _⟩ dX5_isPlace_8 hS hfa (fun u H locs hw _ _ hS => ?_)
  obtain ⟨r2, σ1⟩ := u
  obtain ⟨hp, hW2⟩ := hw
  have hW := hW2.weaken hfa
  try dsimp only at hp
  obtain ⟨hz, hp⟩ := hp
  exact zr_z M hr hlocks (r2, σ1) hz rfl ⟨hp, hW⟩ hS dX5_isPlace_11
def P_X5_isRider (K : List nKey) (σ : nS) (v1 : Int) (k : Int → nS → Prop) : Prop :=
  P_X5_in K σ v1 0 ((σ.1 (11, 0, 0) 12) - 1) (fun r2 σ1 => (r2 = 0 ∨ r2 = 1) ∧ k r2 σ1)
def rmX5_isRider : Room := { frames := 1, cells := 0, slots := 0, locals := 22 }
set_option maxHeartbeats 4000000 in
set_option maxRecDepth 100000 in
theorem w_X5_isRider {l : Launch} {D : va_G} {ca : Nat → ClassId} {K : List nKey} {ad : nKey → Nat} {σ : nS} {sz : Nat} (hKC : KC K) {v1 : Int} {k : Int → nS → Prop} (hp : P_X5_isRider K σ v1 k) : Met l yX5_isRider (Cond.code yX5_isRider cX5_isRider 2 (some .boolean) :: UW) rmX5_isRider (ZP D ca [.ref (ad (11, 0, 0)), .int (iN v1)] (ZB D K ad ca σ sz)) (ZQi D K ad ca sz k) 0 0 (FA K ad sz) := by
  refine z_start (cc := cX5_isRider) (maxL := 2) (ret := (some .boolean)) (own := RX5) (K := K) (ad := ad) (σ := σ) (Qc := fun sz => ZQi D K ad ca sz k) (by decide) rfl (Nat.le_of_ble_eq_true rfl) ?_
  intro p e s m args below meth c M hr hlocks hW ls hl
  have hS : va_S (FA K ad s.heap.size) s.heap s.heap [] := va_S.rf
  have hA : ∀ q : Nat, s.heap.size ≤ q → FA K ad s.heap.size q := fun q h => Or.inr h
  replace hl : lv_has ls 2 [(0, .ref (ad (11, 0, 0))), (1, .int (iN v1))] := hl
  unfold P_X5_isRider at hp
  refine z_il_n M dX5_isRider_0 rfl hl 1 rfl ?_
  refine zi_const M 0 dX5_isRider_1 rfl ?_
  refine z_al_n M dX5_isRider_2 rfl hl 0 rfl ?_
  refine zg_X5_12 M u_hin5 hW hKC.k11 (M.hts _ u_fl_X5_112) dX5_isRider_3 ?_
  refine zi_const M 1 dX5_isRider_6 rfl ?_
  refine zi_sub M dX5_isRider_7 ?_
  have hfa := hW.fa hS hA
  refine zc_SU (As := [.int (iN v1), .int (iN 0), .int (iN ((σ.1 (11, 0, 0) 12) - 1))]) (rest := []) M (w_X5_in hKC  hp) (cuS M 3 u_co_X5_in u_ml_X5_108 u_ini_X5 u_st_X5_in (by decide +kernel) rfl rfl ⟨Nat.le_of_ble_eq_true rfl, Nat.le_of_ble_eq_true rfl⟩) ⟨rfl, hW.weaken (fun _ _ => trivial)⟩ rfl hl rfl (Nat.le_of_ble_eq_true rfl) ⟨Nat.zero_le _, Nat.zero_le _⟩ dX5_isRider_8 hS hfa (fun u H locs hw _ _ hS => ?_)
  obtain ⟨r2, σ1⟩ := u
  obtain ⟨hp, hW2⟩ := hw
  have hW := hW2.weaken hfa
  try dsimp only at hp
  obtain ⟨hz, hp⟩ := hp
  exact zr_z M hr hlocks (r2, σ1) hz rfl ⟨hp, hW⟩ hS dX5_isRider_11
def P_X5_isCall (K : List nKey) (σ : nS) (v1 : Int) (k : Int → nS → Prop) : Prop :=
  P_X5_in K σ v1 0 ((σ.1 (11, 0, 0) 20) - 1) (fun r2 σ1 => (r2 = 0 ∨ r2 = 1) ∧ k r2 σ1)
def rmX5_isCall : Room := { frames := 1, cells := 0, slots := 0, locals := 22 }
set_option maxHeartbeats 4000000 in
set_option maxRecDepth 100000 in
theorem w_X5_isCall {l : Launch} {D : va_G} {ca : Nat → ClassId} {K : List nKey} {ad : nKey → Nat} {σ : nS} {sz : Nat} (hKC : KC K) {v1 : Int} {k : Int → nS → Prop} (hp : P_X5_isCall K σ v1 k) : Met l yX5_isCall (Cond.code yX5_isCall cX5_isCall 2 (some .boolean) :: UW) rmX5_isCall (ZP D ca [.ref (ad (11, 0, 0)), .int (iN v1)] (ZB D K ad ca σ sz)) (ZQi D K ad ca sz k) 0 0 (FA K ad sz) := by
  refine z_start (cc := cX5_isCall) (maxL := 2) (ret := (some .boolean)) (own := RX5) (K := K) (ad := ad) (σ := σ) (Qc := fun sz => ZQi D K ad ca sz k) (by decide) rfl (Nat.le_of_ble_eq_true rfl) ?_
  intro p e s m args below meth c M hr hlocks hW ls hl
  have hS : va_S (FA K ad s.heap.size) s.heap s.heap [] := va_S.rf
  have hA : ∀ q : Nat, s.heap.size ≤ q → FA K ad s.heap.size q := fun q h => Or.inr h
  replace hl : lv_has ls 2 [(0, .ref (ad (11, 0, 0))), (1, .int (iN v1))] := hl
  unfold P_X5_isCall at hp
  refine z_il_n M dX5_isCall_0 rfl hl 1 rfl ?_
  refine zi_const M 0 dX5_isCall_1 rfl ?_
  refine z_al_n M dX5_isCall_2 rfl hl 0 rfl ?_
  refine zg_X5_20 M u_hin5 hW hKC.k11 (M.hts _ u_fl_X5_115) dX5_isCall_3 ?_
  refine zi_const M 1 dX5_isCall_6 rfl ?_
  refine zi_sub M dX5_isCall_7 ?_
  have hfa := hW.fa hS hA
  refine zc_SU (As := [.int (iN v1), .int (iN 0), .int (iN ((σ.1 (11, 0, 0) 20) - 1))]) (rest := []) M (w_X5_in hKC  hp) (cuS M 3 u_co_X5_in u_ml_X5_108 u_ini_X5 u_st_X5_in (by decide +kernel) rfl rfl ⟨Nat.le_of_ble_eq_true rfl, Nat.le_of_ble_eq_true rfl⟩) ⟨rfl, hW.weaken (fun _ _ => trivial)⟩ rfl hl rfl (Nat.le_of_ble_eq_true rfl) ⟨Nat.zero_le _, Nat.zero_le _⟩ dX5_isCall_8 hS hfa (fun u H locs hw _ _ hS => ?_)
  obtain ⟨r2, σ1⟩ := u
  obtain ⟨hp, hW2⟩ := hw
  have hW := hW2.weaken hfa
  try dsimp only at hp
  obtain ⟨hz, hp⟩ := hp
  exact zr_z M hr hlocks (r2, σ1) hz rfl ⟨hp, hW⟩ hS dX5_isCall_11
def P_X5_place (K : List nKey) (σ : nS) (k : Int → nS → Prop) : Prop :=
  ∀ σ1 : nS, σ1 = s1 σ (11, 0, 0) 24 0 → ((w (σ1.1 (11, 0, 0) 1) ≠ 8 → ∀ σ3 : nS, σ3 = s1 σ1 (11, 0, 0) 1 ((σ1.1 (11, 0, 0) 1) + 1) → k ((σ3.1 (11, 0, 0) 1) - 1) σ3) ∧ (w (σ1.1 (11, 0, 0) 1) = 8 → k (-1) σ1))
def rmX5_place : Room := { frames := 0, cells := 0, slots := 0, locals := 0 }
set_option maxHeartbeats 4000000 in
set_option maxRecDepth 100000 in
theorem w_X5_place {l : Launch} {D : va_G} {ca : Nat → ClassId} {K : List nKey} {ad : nKey → Nat} {σ : nS} {sz : Nat} (hKC : KC K) {k : Int → nS → Prop} (hp : P_X5_place K σ  k) : Met l yX5_place (Cond.code yX5_place cX5_place 1 (some .int) :: UW) rmX5_place (ZP D ca [.ref (ad (11, 0, 0))] (ZB D K ad ca σ sz)) (ZQi D K ad ca sz k) 0 0 (FA K ad sz) := by
  refine z_start (cc := cX5_place) (maxL := 1) (ret := (some .int)) (own := RX5) (K := K) (ad := ad) (σ := σ) (Qc := fun sz => ZQi D K ad ca sz k) (by decide) rfl (Nat.le_of_ble_eq_true rfl) ?_
  intro p e s m args below meth c M hr hlocks hW ls hl
  have hS : va_S (FA K ad s.heap.size) s.heap s.heap [] := va_S.rf
  have hA : ∀ q : Nat, s.heap.size ≤ q → FA K ad s.heap.size q := fun q h => Or.inr h
  replace hl : lv_has ls 1 [(0, .ref (ad (11, 0, 0)))] := hl
  unfold P_X5_place at hp
  refine z_al_n M dX5_place_0 rfl hl 0 rfl ?_
  refine zi_const M 0 dX5_place_1 rfl ?_
  obtain ⟨σ1, eσ1⟩ : ∃ z : nS, z = s1 σ (11, 0, 0) 24 0 := ⟨_, rfl⟩
  have hp := hp σ1 eσ1
  refine zp_X5_24 (v := 0) M u_hin5 hW hS hKC.k11 (M.hts _ u_fl_X5_102) dX5_place_2 (fun H locs hW hS => ?_)
  rw [← eσ1] at hW
  refine z_al_n M dX5_place_5 rfl hl 0 rfl ?_
  refine zg_X5_1 M u_hin5 hW hKC.k11 (M.hts _ u_fl_X5_105) dX5_place_6 ?_
  refine zi_bi M 8 dX5_place_9 (by decide +kernel) ?_
  refine zw_ne M (tgt := 16) dX5_place_11 (by decide) rfl (w_of ⟨by decide, by decide⟩) (fun c2 => ?_) (fun c2 => ?_)
  · have hp := hp.1 c2
    refine z_al_n M dX5_place_16 rfl hl 0 rfl ?_
    refine z_dup M dX5_place_17 rfl ?_
    refine zg_X5_1 M u_hin5 hW hKC.k11 (M.hts _ u_fl_X5_105) dX5_place_18 ?_
    refine zi_const M 1 dX5_place_21 rfl ?_
    refine zi_add M dX5_place_22 ?_
    obtain ⟨σ3, eσ3⟩ : ∃ z : nS, z = s1 σ1 (11, 0, 0) 1 ((σ1.1 (11, 0, 0) 1) + 1) := ⟨_, rfl⟩
    have hp := hp σ3 eσ3
    refine zp_X5_1 (v := ((σ1.1 (11, 0, 0) 1) + 1)) M u_hin5 hW hS hKC.k11 (M.hts _ u_fl_X5_105) dX5_place_23 (fun H locs hW hS => ?_)
    rw [← eσ3] at hW
    refine z_al_n M dX5_place_26 rfl hl 0 rfl ?_
    refine zg_X5_1 M u_hin5 hW hKC.k11 (M.hts _ u_fl_X5_105) dX5_place_27 ?_
    refine zi_const M 1 dX5_place_30 rfl ?_
    refine zi_sub M dX5_place_31 ?_
    exact zr_i M hr hlocks (((σ3.1 (11, 0, 0) 1) - 1), σ3) rfl ⟨hp, hW⟩ hS dX5_place_32
  · have hp := hp.2 c2
    refine zi_const M (-1) dX5_place_14 rfl ?_
    exact zr_i M hr hlocks ((-1), σ1) rfl ⟨hp, hW⟩ hS dX5_place_15
def P_X5_road (K : List nKey) (σ : nS) (v1 : Int) (v2 : Int) (v3 : Int) (k : Int → nS → Prop) : Prop :=
  ∀ σ1 : nS, σ1 = s1 σ (11, 0, 0) 24 0 → P_X5_isPlace K σ1 v1 (fun r3 σ2 => ((w r3 = 0 → k 0 σ2) ∧ (w r3 ≠ 0 → P_X5_isPlace K σ2 v2 (fun r6 σ5 => ((w r6 = 0 → k 0 σ5) ∧ (w r6 ≠ 0 → ((w v1 = w v2 → k 0 σ5) ∧ (w v1 ≠ w v2 → P_X5_in K σ5 v3 0 600 (fun r10 σ9 => ((w r10 ≠ 0 → 0 ≤ ((8 * v1) + v2) ∧ ((8 * v1) + v2) < 64 ∧ ∀ σ12 : nS, σ12 = s1 σ9 (12, 0, 0) (((8 * v1) + v2)).toNat v3 → 0 ≤ ((8 * v2) + v1) ∧ ((8 * v2) + v1) < 64 ∧ ∀ σ15 : nS, σ15 = s1 σ12 (12, 0, 0) (((8 * v2) + v1)).toNat v3 → k 1 σ15) ∧ (w r10 = 0 → k 0 σ9)))))))))))
def rmX5_road : Room := { frames := 2, cells := 0, slots := 0, locals := 43 }
set_option maxHeartbeats 4000000 in
set_option maxRecDepth 100000 in
theorem w_X5_road {l : Launch} {D : va_G} {ca : Nat → ClassId} {K : List nKey} {ad : nKey → Nat} {σ : nS} {sz : Nat} (hKC : KC K) {v1 : Int} {v2 : Int} {v3 : Int} {k : Int → nS → Prop} (hp : P_X5_road K σ v1 v2 v3 k) : Met l yX5_road (Cond.code yX5_road cX5_road 4 (some .boolean) :: UW) rmX5_road (ZP D ca [.ref (ad (11, 0, 0)), .int (iN v1), .int (iN v2), .int (iN v3)] (ZB D K ad ca σ sz)) (ZQi D K ad ca sz k) 0 0 (FA K ad sz) := by
  refine z_start (cc := cX5_road) (maxL := 4) (ret := (some .boolean)) (own := RX5) (K := K) (ad := ad) (σ := σ) (Qc := fun sz => ZQi D K ad ca sz k) (by decide) rfl (Nat.le_of_ble_eq_true rfl) ?_
  intro p e s m args below meth c M hr hlocks hW ls hl
  have hS : va_S (FA K ad s.heap.size) s.heap s.heap [] := va_S.rf
  have hA : ∀ q : Nat, s.heap.size ≤ q → FA K ad s.heap.size q := fun q h => Or.inr h
  replace hl : lv_has ls 4 [(0, .ref (ad (11, 0, 0))), (1, .int (iN v1)), (2, .int (iN v2)), (3, .int (iN v3))] := hl
  unfold P_X5_road at hp
  refine z_al_n M dX5_road_0 rfl hl 0 rfl ?_
  refine zi_const M 0 dX5_road_1 rfl ?_
  obtain ⟨σ1, eσ1⟩ : ∃ z : nS, z = s1 σ (11, 0, 0) 24 0 := ⟨_, rfl⟩
  have hp := hp σ1 eσ1
  refine zp_X5_24 (v := 0) M u_hin5 hW hS hKC.k11 (M.hts _ u_fl_X5_102) dX5_road_2 (fun H locs hW hS => ?_)
  rw [← eσ1] at hW
  refine z_al_n M dX5_road_5 rfl hl 0 rfl ?_
  refine z_il_n M dX5_road_6 rfl hl 1 rfl ?_
  have hfa := hW.fa hS hA
  refine zc_VU (As := [.int (iN v1)]) (rest := []) M (w_X5_isPlace hKC  hp) (cuV M 1 u_co_X5_isPlace u_ml_X5_118 u_ini_X5 u_in_X5_isPlace u_se_X5_isPlace (by decide +kernel) rfl rfl ⟨Nat.le_of_ble_eq_true rfl, Nat.le_of_ble_eq_true rfl⟩) (z_recv M hW hKC.k11 rfl rfl) ⟨rfl, hW.weaken (fun _ _ => trivial)⟩ rfl hl rfl (Nat.le_of_ble_eq_true rfl) ⟨Nat.zero_le _, Nat.zero_le _⟩ dX5_road_7 hS hfa (fun u H locs hw _ _ hS => ?_)
  obtain ⟨r3, σ2⟩ := u
  obtain ⟨hp, hW2⟩ := hw
  have hW := hW2.weaken hfa
  try dsimp only at hp
  refine zv_eq M (tgt := 37) dX5_road_10 (by decide) rfl (fun c4 => ?_) (fun c4 => ?_)
  · have hp := hp.1 c4
    refine zi_const M 0 dX5_road_37 rfl ?_
    exact zr_z M hr hlocks (0, σ2) (by decide) rfl ⟨hp, hW⟩ hS dX5_road_38
  · have hp := hp.2 c4
    refine z_al_n M dX5_road_13 rfl hl 0 rfl ?_
    refine z_il_n M dX5_road_14 rfl hl 2 rfl ?_
    have hfa := hW.fa hS hA
    refine zc_VU (As := [.int (iN v2)]) (rest := []) M (w_X5_isPlace hKC  hp) (cuV M 1 u_co_X5_isPlace u_ml_X5_118 u_ini_X5 u_in_X5_isPlace u_se_X5_isPlace (by decide +kernel) rfl rfl ⟨Nat.le_of_ble_eq_true rfl, Nat.le_of_ble_eq_true rfl⟩) (z_recv M hW hKC.k11 rfl rfl) ⟨rfl, hW.weaken (fun _ _ => trivial)⟩ rfl hl rfl (Nat.le_of_ble_eq_true rfl) ⟨Nat.zero_le _, Nat.zero_le _⟩ dX5_road_15 hS hfa (fun u H locs hw _ _ hS => ?_)
    obtain ⟨r6, σ5⟩ := u
    obtain ⟨hp, hW2⟩ := hw
    have hW := hW2.weaken hfa
    try dsimp only at hp
    refine zv_eq M (tgt := 37) dX5_road_18 (by decide) rfl (fun c7 => ?_) (fun c7 => ?_)
    · have hp := hp.1 c7
      refine zi_const M 0 dX5_road_37 rfl ?_
      exact zr_z M hr hlocks (0, σ5) (by decide) rfl ⟨hp, hW⟩ hS dX5_road_38
    · have hp := hp.2 c7
      refine z_il_n M dX5_road_21 rfl hl 1 rfl ?_
      refine z_il_n M dX5_road_22 rfl hl 2 rfl ?_
      refine zw_eq M (tgt := 37) dX5_road_23 (by decide) rfl rfl (fun c8 => ?_) (fun c8 => ?_)
      · have hp := hp.1 c8
        refine zi_const M 0 dX5_road_37 rfl ?_
        exact zr_z M hr hlocks (0, σ5) (by decide) rfl ⟨hp, hW⟩ hS dX5_road_38
      · have hp := hp.2 c8
        refine z_il_n M dX5_road_26 rfl hl 3 rfl ?_
        refine zi_const M 0 dX5_road_27 rfl ?_
        refine zi_si M 600 dX5_road_28 (by decide +kernel) ?_
        have hfa := hW.fa hS hA
        refine zc_SU (As := [.int (iN v3), .int (iN 0), .int (iN 600)]) (rest := []) M (w_X5_in hKC  hp) (cuS M 3 u_co_X5_in u_ml_X5_108 u_ini_X5 u_st_X5_in (by decide +kernel) rfl rfl ⟨Nat.le_of_ble_eq_true rfl, Nat.le_of_ble_eq_true rfl⟩) ⟨rfl, hW.weaken (fun _ _ => trivial)⟩ rfl hl rfl (Nat.le_of_ble_eq_true rfl) ⟨Nat.zero_le _, Nat.zero_le _⟩ dX5_road_31 hS hfa (fun u H locs hw _ _ hS => ?_)
        obtain ⟨r10, σ9⟩ := u
        obtain ⟨hp, hW2⟩ := hw
        have hW := hW2.weaken hfa
        try dsimp only at hp
        refine zv_ne M (tgt := 39) dX5_road_34 (by decide) rfl (fun c11 => ?_) (fun c11 => ?_)
        · have hp := hp.1 c11
          refine z_al_n M dX5_road_39 rfl hl 0 rfl ?_
          refine zg_X5_0 M u_hin5 hW hKC.k11 (M.hts _ u_fl_X5_9) dX5_road_40 ?_
          refine zi_bi M 8 dX5_road_43 (by decide +kernel) ?_
          refine z_il_n M dX5_road_45 rfl hl 1 rfl ?_
          refine zi_mul M dX5_road_46 ?_
          refine z_il_n M dX5_road_47 rfl hl 2 rfl ?_
          refine zi_add M dX5_road_48 ?_
          refine z_il_n M dX5_road_49 rfl hl 3 rfl ?_
          obtain ⟨h13, h14, hp⟩ := hp
          obtain ⟨σ12, eσ12⟩ : ∃ z : nS, z = s1 σ9 (12, 0, 0) (((8 * v1) + v2)).toNat v3 := ⟨_, rfl⟩
          have hp := hp σ12 eσ12
          refine zs_i (n := 64) M hW hS (hKC.k12 (by decide)) (fun _ _ => rfl) h13 h14 (by decide) dX5_road_50 (fun H locs hW hS => ?_)
          rw [← eσ12] at hW
          refine z_al_n M dX5_road_51 rfl hl 0 rfl ?_
          refine zg_X5_0 M u_hin5 hW hKC.k11 (M.hts _ u_fl_X5_9) dX5_road_52 ?_
          refine zi_bi M 8 dX5_road_55 (by decide +kernel) ?_
          refine z_il_n M dX5_road_57 rfl hl 2 rfl ?_
          refine zi_mul M dX5_road_58 ?_
          refine z_il_n M dX5_road_59 rfl hl 1 rfl ?_
          refine zi_add M dX5_road_60 ?_
          refine z_il_n M dX5_road_61 rfl hl 3 rfl ?_
          obtain ⟨h16, h17, hp⟩ := hp
          obtain ⟨σ15, eσ15⟩ : ∃ z : nS, z = s1 σ12 (12, 0, 0) (((8 * v2) + v1)).toNat v3 := ⟨_, rfl⟩
          have hp := hp σ15 eσ15
          refine zs_i (n := 64) M hW hS (hKC.k12 (by decide)) (fun _ _ => rfl) h16 h17 (by decide) dX5_road_62 (fun H locs hW hS => ?_)
          rw [← eσ15] at hW
          refine zi_const M 1 dX5_road_63 rfl ?_
          exact zr_z M hr hlocks (1, σ15) (by decide) rfl ⟨hp, hW⟩ hS dX5_road_64
        · have hp := hp.2 c11
          refine zi_const M 0 dX5_road_37 rfl ?_
          exact zr_z M hr hlocks (0, σ9) (by decide) rfl ⟨hp, hW⟩ hS dX5_road_38
def P_X5_rider (K : List nKey) (σ : nS) (v1 : Int) (v2 : Int) (v3 : Int) (v4 : Int) (v5 : Int) (k : Int → nS → Prop) : Prop :=
  ∀ σ1 : nS, σ1 = s1 σ (11, 0, 0) 24 0 → P_X5_isPlace K σ1 v1 (fun r3 σ2 => ((w r3 = 0 → k (-1) σ2) ∧ (w r3 ≠ 0 → P_X5_in K σ2 v2 0 ((shlI 1 (σ2.1 (11, 0, 0) 1)) - 1) (fun r6 σ5 => ((w r6 = 0 → k (-1) σ5) ∧ (w r6 ≠ 0 → ((w (andI (shrI v2 v1) 1) = 0 → k (-1) σ5) ∧ (w (andI (shrI v2 v1) 1) ≠ 0 → P_X5_in K σ5 v3 0 4319 (fun r10 σ9 => ((w r10 = 0 → k (-1) σ9) ∧ (w r10 ≠ 0 → P_X5_in K σ9 v4 v3 4319 (fun r13 σ12 => ((w r13 = 0 → k (-1) σ12) ∧ (w r13 ≠ 0 → P_X5_in K σ12 v5 0 15 (fun r16 σ15 => ((w r16 = 0 → k (-1) σ15) ∧ (w r16 ≠ 0 → ((w (σ15.1 (11, 0, 0) 12) ≠ 6 → 0 ≤ (σ15.1 (11, 0, 0) 12) ∧ (σ15.1 (11, 0, 0) 12) < 6 ∧ ∀ σ19 : nS, σ19 = s1 σ15 (12, 1, 0) ((σ15.1 (11, 0, 0) 12)).toNat v1 → 0 ≤ (σ19.1 (11, 0, 0) 12) ∧ (σ19.1 (11, 0, 0) 12) < 6 ∧ ∀ σ22 : nS, σ22 = s1 σ19 (12, 2, 0) ((σ19.1 (11, 0, 0) 12)).toNat v2 → 0 ≤ (σ22.1 (11, 0, 0) 12) ∧ (σ22.1 (11, 0, 0) 12) < 6 ∧ ∀ σ25 : nS, σ25 = s1 σ22 (12, 3, 0) ((σ22.1 (11, 0, 0) 12)).toNat v3 → 0 ≤ (σ25.1 (11, 0, 0) 12) ∧ (σ25.1 (11, 0, 0) 12) < 6 ∧ ∀ σ28 : nS, σ28 = s1 σ25 (12, 4, 0) ((σ25.1 (11, 0, 0) 12)).toNat v4 → 0 ≤ (σ28.1 (11, 0, 0) 12) ∧ (σ28.1 (11, 0, 0) 12) < 6 ∧ ∀ σ31 : nS, σ31 = s1 σ28 (12, 5, 0) ((σ28.1 (11, 0, 0) 12)).toNat v5 → 0 ≤ (σ31.1 (11, 0, 0) 12) ∧ (σ31.1 (11, 0, 0) 12) < 6 ∧ ∀ σ34 : nS, σ34 = s1 σ31 (12, 6, 0) ((σ31.1 (11, 0, 0) 12)).toNat v1 → 0 ≤ (σ34.1 (11, 0, 0) 12) ∧ (σ34.1 (11, 0, 0) 12) < 6 ∧ ∀ σ37 : nS, σ37 = s1 σ34 (12, 7, 0) ((σ34.1 (11, 0, 0) 12)).toNat v3 → ∀ σ40 : nS, σ40 = s1 σ37 (11, 0, 0) 12 ((σ37.1 (11, 0, 0) 12) + 1) → k ((σ40.1 (11, 0, 0) 12) - 1) σ40) ∧ (w (σ15.1 (11, 0, 0) 12) = 6 → k (-1) σ15)))))))))))))))))))
def rmX5_rider : Room := { frames := 2, cells := 0, slots := 0, locals := 43 }
set_option maxHeartbeats 4000000 in
set_option maxRecDepth 100000 in
theorem w_X5_rider {l : Launch} {D : va_G} {ca : Nat → ClassId} {K : List nKey} {ad : nKey → Nat} {σ : nS} {sz : Nat} (hKC : KC K) {v1 : Int} {v2 : Int} {v3 : Int} {v4 : Int} {v5 : Int} {k : Int → nS → Prop} (hp : P_X5_rider K σ v1 v2 v3 v4 v5 k) : Met l yX5_rider (Cond.code yX5_rider cX5_rider 6 (some .int) :: UW) rmX5_rider (ZP D ca [.ref (ad (11, 0, 0)), .int (iN v1), .int (iN v2), .int (iN v3), .int (iN v4), .int (iN v5)] (ZB D K ad ca σ sz)) (ZQi D K ad ca sz k) 0 0 (FA K ad sz) := by
  refine z_start (cc := cX5_rider) (maxL := 6) (ret := (some .int)) (own := RX5) (K := K) (ad := ad) (σ := σ) (Qc := fun sz => ZQi D K ad ca sz k) (by decide) rfl (Nat.le_of_ble_eq_true rfl) ?_
  intro p e s m args below meth c M hr hlocks hW ls hl
  have hS : va_S (FA K ad s.heap.size) s.heap s.heap [] := va_S.rf
  have hA : ∀ q : Nat, s.heap.size ≤ q → FA K ad s.heap.size q := fun q h => Or.inr h
  replace hl : lv_has ls 6 [(0, .ref (ad (11, 0, 0))), (1, .int (iN v1)), (2, .int (iN v2)), (3, .int (iN v3)), (4, .int (iN v4)), (5, .int (iN v5))] := hl
  unfold P_X5_rider at hp
  refine z_al_n M dX5_rider_0 rfl hl 0 rfl ?_
  refine zi_const M 0 dX5_rider_1 rfl ?_
  obtain ⟨σ1, eσ1⟩ : ∃ z : nS, z = s1 σ (11, 0, 0) 24 0 := ⟨_, rfl⟩
  have hp := hp σ1 eσ1
  refine zp_X5_24 (v := 0) M u_hin5 hW hS hKC.k11 (M.hts _ u_fl_X5_102) dX5_rider_2 (fun H locs hW hS => ?_)
  rw [← eσ1] at hW
  refine z_al_n M dX5_rider_5 rfl hl 0 rfl ?_
  refine z_il_n M dX5_rider_6 rfl hl 1 rfl ?_
  have hfa := hW.fa hS hA
  refine zc_VU (As := [.int (iN v1)]) (rest := []) M (w_X5_isPlace hKC  hp) (cuV M 1 u_co_X5_isPlace u_ml_X5_118 u_ini_X5 u_in_X5_isPlace u_se_X5_isPlace (by decide +kernel) rfl rfl ⟨Nat.le_of_ble_eq_true rfl, Nat.le_of_ble_eq_true rfl⟩) (z_recv M hW hKC.k11 rfl rfl) ⟨rfl, hW.weaken (fun _ _ => trivial)⟩ rfl hl rfl (Nat.le_of_ble_eq_true rfl) ⟨Nat.zero_le _, Nat.zero_le _⟩ dX5_rider_7 hS hfa (fun u H locs hw _ _ hS => ?_)
  obtain ⟨r3, σ2⟩ := u
  obtain ⟨hp, hW2⟩ := hw
  have hW := hW2.weaken hfa
  try dsimp only at hp
  refine zv_eq M (tgt := 80) dX5_rider_10 (by decide) rfl (fun c4 => ?_) (fun c4 => ?_)
  · have hp := hp.1 c4
    refine zi_const M (-1) dX5_rider_80 rfl ?_
    exact zr_i M hr hlocks ((-1), σ2) rfl ⟨hp, hW⟩ hS dX5_rider_81
  · have hp := hp.2 c4
    refine z_il_n M dX5_rider_13 rfl hl 2 rfl ?_
    refine zi_const M 0 dX5_rider_14 rfl ?_
    refine zi_const M 1 dX5_rider_15 rfl ?_
    refine z_al_n M dX5_rider_16 rfl hl 0 rfl ?_
    refine zg_X5_1 M u_hin5 hW hKC.k11 (M.hts _ u_fl_X5_105) dX5_rider_17 ?_
    refine zo_shl M dX5_rider_20 ?_
    refine zi_const M 1 dX5_rider_21 rfl ?_
    refine zi_sub M dX5_rider_22 ?_
    have hfa := hW.fa hS hA
    refine zc_SU (As := [.int (iN v2), .int (iN 0), .int (iN ((shlI 1 (σ2.1 (11, 0, 0) 1)) - 1))]) (rest := []) M (w_X5_in hKC  hp) (cuS M 3 u_co_X5_in u_ml_X5_108 u_ini_X5 u_st_X5_in (by decide +kernel) rfl rfl ⟨Nat.le_of_ble_eq_true rfl, Nat.le_of_ble_eq_true rfl⟩) ⟨rfl, hW.weaken (fun _ _ => trivial)⟩ rfl hl rfl (Nat.le_of_ble_eq_true rfl) ⟨Nat.zero_le _, Nat.zero_le _⟩ dX5_rider_23 hS hfa (fun u H locs hw _ _ hS => ?_)
    obtain ⟨r6, σ5⟩ := u
    obtain ⟨hp, hW2⟩ := hw
    have hW := hW2.weaken hfa
    try dsimp only at hp
    refine zv_eq M (tgt := 80) dX5_rider_26 (by decide) rfl (fun c7 => ?_) (fun c7 => ?_)
    · have hp := hp.1 c7
      refine zi_const M (-1) dX5_rider_80 rfl ?_
      exact zr_i M hr hlocks ((-1), σ5) rfl ⟨hp, hW⟩ hS dX5_rider_81
    · have hp := hp.2 c7
      refine z_il_n M dX5_rider_29 rfl hl 2 rfl ?_
      refine z_il_n M dX5_rider_30 rfl hl 1 rfl ?_
      refine zo_shr M dX5_rider_31 ?_
      refine zi_const M 1 dX5_rider_32 rfl ?_
      refine zo_and M dX5_rider_33 ?_
      refine zv_eq M (tgt := 80) dX5_rider_34 (by decide) rfl (fun c8 => ?_) (fun c8 => ?_)
      · have hp := hp.1 c8
        refine zi_const M (-1) dX5_rider_80 rfl ?_
        exact zr_i M hr hlocks ((-1), σ5) rfl ⟨hp, hW⟩ hS dX5_rider_81
      · have hp := hp.2 c8
        refine z_il_n M dX5_rider_37 rfl hl 3 rfl ?_
        refine zi_const M 0 dX5_rider_38 rfl ?_
        refine zi_si M 4319 dX5_rider_39 (by decide +kernel) ?_
        have hfa := hW.fa hS hA
        refine zc_SU (As := [.int (iN v3), .int (iN 0), .int (iN 4319)]) (rest := []) M (w_X5_in hKC  hp) (cuS M 3 u_co_X5_in u_ml_X5_108 u_ini_X5 u_st_X5_in (by decide +kernel) rfl rfl ⟨Nat.le_of_ble_eq_true rfl, Nat.le_of_ble_eq_true rfl⟩) ⟨rfl, hW.weaken (fun _ _ => trivial)⟩ rfl hl rfl (Nat.le_of_ble_eq_true rfl) ⟨Nat.zero_le _, Nat.zero_le _⟩ dX5_rider_42 hS hfa (fun u H locs hw _ _ hS => ?_)
        obtain ⟨r10, σ9⟩ := u
        obtain ⟨hp, hW2⟩ := hw
        have hW := hW2.weaken hfa
        try dsimp only at hp
        refine zv_eq M (tgt := 80) dX5_rider_45 (by decide) rfl (fun c11 => ?_) (fun c11 => ?_)
        · have hp := hp.1 c11
          refine zi_const M (-1) dX5_rider_80 rfl ?_
          exact zr_i M hr hlocks ((-1), σ9) rfl ⟨hp, hW⟩ hS dX5_rider_81
        · have hp := hp.2 c11
          refine z_il M dX5_rider_48 hl 4 rfl ?_
          refine z_il_n M dX5_rider_50 rfl hl 3 rfl ?_
          refine zi_si M 4319 dX5_rider_51 (by decide +kernel) ?_
          have hfa := hW.fa hS hA
          refine zc_SU (As := [.int (iN v4), .int (iN v3), .int (iN 4319)]) (rest := []) M (w_X5_in hKC  hp) (cuS M 3 u_co_X5_in u_ml_X5_108 u_ini_X5 u_st_X5_in (by decide +kernel) rfl rfl ⟨Nat.le_of_ble_eq_true rfl, Nat.le_of_ble_eq_true rfl⟩) ⟨rfl, hW.weaken (fun _ _ => trivial)⟩ rfl hl rfl (Nat.le_of_ble_eq_true rfl) ⟨Nat.zero_le _, Nat.zero_le _⟩ dX5_rider_54 hS hfa (fun u H locs hw _ _ hS => ?_)
          obtain ⟨r13, σ12⟩ := u
          obtain ⟨hp, hW2⟩ := hw
          have hW := hW2.weaken hfa
          try dsimp only at hp
          refine zv_eq M (tgt := 80) dX5_rider_57 (by decide) rfl (fun c14 => ?_) (fun c14 => ?_)
          · have hp := hp.1 c14
            refine zi_const M (-1) dX5_rider_80 rfl ?_
            exact zr_i M hr hlocks ((-1), σ12) rfl ⟨hp, hW⟩ hS dX5_rider_81
          · have hp := hp.2 c14
            refine z_il M dX5_rider_60 hl 5 rfl ?_
            refine zi_const M 0 dX5_rider_62 rfl ?_
            refine zi_bi M 15 dX5_rider_63 (by decide +kernel) ?_
            have hfa := hW.fa hS hA
            refine zc_SU (As := [.int (iN v5), .int (iN 0), .int (iN 15)]) (rest := []) M (w_X5_in hKC  hp) (cuS M 3 u_co_X5_in u_ml_X5_108 u_ini_X5 u_st_X5_in (by decide +kernel) rfl rfl ⟨Nat.le_of_ble_eq_true rfl, Nat.le_of_ble_eq_true rfl⟩) ⟨rfl, hW.weaken (fun _ _ => trivial)⟩ rfl hl rfl (Nat.le_of_ble_eq_true rfl) ⟨Nat.zero_le _, Nat.zero_le _⟩ dX5_rider_65 hS hfa (fun u H locs hw _ _ hS => ?_)
            obtain ⟨r16, σ15⟩ := u
            obtain ⟨hp, hW2⟩ := hw
            have hW := hW2.weaken hfa
            try dsimp only at hp
            refine zv_eq M (tgt := 80) dX5_rider_68 (by decide) rfl (fun c17 => ?_) (fun c17 => ?_)
            · have hp := hp.1 c17
              refine zi_const M (-1) dX5_rider_80 rfl ?_
              exact zr_i M hr hlocks ((-1), σ15) rfl ⟨hp, hW⟩ hS dX5_rider_81
            · have hp := hp.2 c17
              refine z_al_n M dX5_rider_71 rfl hl 0 rfl ?_
              refine zg_X5_12 M u_hin5 hW hKC.k11 (M.hts _ u_fl_X5_112) dX5_rider_72 ?_
              refine zi_bi M 6 dX5_rider_75 (by decide +kernel) ?_
              refine zw_ne M (tgt := 82) dX5_rider_77 (by decide) rfl (w_of ⟨by decide, by decide⟩) (fun c18 => ?_) (fun c18 => ?_)
              · have hp := hp.1 c18
                refine z_al_n M dX5_rider_82 rfl hl 0 rfl ?_
                refine zg_X5_2 M u_hin5 hW hKC.k11 (M.hts _ u_fl_X5_13) dX5_rider_83 ?_
                refine z_al_n M dX5_rider_86 rfl hl 0 rfl ?_
                refine zg_X5_12 M u_hin5 hW hKC.k11 (M.hts _ u_fl_X5_112) dX5_rider_87 ?_
                refine z_il_n M dX5_rider_90 rfl hl 1 rfl ?_
                obtain ⟨h20, h21, hp⟩ := hp
                obtain ⟨σ19, eσ19⟩ : ∃ z : nS, z = s1 σ15 (12, 1, 0) ((σ15.1 (11, 0, 0) 12)).toNat v1 := ⟨_, rfl⟩
                have hp := hp σ19 eσ19
                refine zs_i (n := 6) M hW hS (hKC.k12 (by decide)) (fun _ _ => rfl) h20 h21 (by decide) dX5_rider_91 (fun H locs hW hS => ?_)
                rw [← eσ19] at hW
                refine z_al_n M dX5_rider_92 rfl hl 0 rfl ?_
                refine zg_X5_3 M u_hin5 hW hKC.k11 (M.hts _ u_fl_X5_16) dX5_rider_93 ?_
                refine z_al_n M dX5_rider_96 rfl hl 0 rfl ?_
                refine zg_X5_12 M u_hin5 hW hKC.k11 (M.hts _ u_fl_X5_112) dX5_rider_97 ?_
                refine z_il_n M dX5_rider_100 rfl hl 2 rfl ?_
                obtain ⟨h23, h24, hp⟩ := hp
                obtain ⟨σ22, eσ22⟩ : ∃ z : nS, z = s1 σ19 (12, 2, 0) ((σ19.1 (11, 0, 0) 12)).toNat v2 := ⟨_, rfl⟩
                have hp := hp σ22 eσ22
                refine zs_i (n := 6) M hW hS (hKC.k12 (by decide)) (fun _ _ => rfl) h23 h24 (by decide) dX5_rider_101 (fun H locs hW hS => ?_)
                rw [← eσ22] at hW
                refine z_al_n M dX5_rider_102 rfl hl 0 rfl ?_
                refine zg_X5_4 M u_hin5 hW hKC.k11 (M.hts _ u_fl_X5_19) dX5_rider_103 ?_
                refine z_al_n M dX5_rider_106 rfl hl 0 rfl ?_
                refine zg_X5_12 M u_hin5 hW hKC.k11 (M.hts _ u_fl_X5_112) dX5_rider_107 ?_
                refine z_il_n M dX5_rider_110 rfl hl 3 rfl ?_
                obtain ⟨h26, h27, hp⟩ := hp
                obtain ⟨σ25, eσ25⟩ : ∃ z : nS, z = s1 σ22 (12, 3, 0) ((σ22.1 (11, 0, 0) 12)).toNat v3 := ⟨_, rfl⟩
                have hp := hp σ25 eσ25
                refine zs_i (n := 6) M hW hS (hKC.k12 (by decide)) (fun _ _ => rfl) h26 h27 (by decide) dX5_rider_111 (fun H locs hW hS => ?_)
                rw [← eσ25] at hW
                refine z_al_n M dX5_rider_112 rfl hl 0 rfl ?_
                refine zg_X5_5 M u_hin5 hW hKC.k11 (M.hts _ u_fl_X5_22) dX5_rider_113 ?_
                refine z_al_n M dX5_rider_116 rfl hl 0 rfl ?_
                refine zg_X5_12 M u_hin5 hW hKC.k11 (M.hts _ u_fl_X5_112) dX5_rider_117 ?_
                refine z_il M dX5_rider_120 hl 4 rfl ?_
                obtain ⟨h29, h30, hp⟩ := hp
                obtain ⟨σ28, eσ28⟩ : ∃ z : nS, z = s1 σ25 (12, 4, 0) ((σ25.1 (11, 0, 0) 12)).toNat v4 := ⟨_, rfl⟩
                have hp := hp σ28 eσ28
                refine zs_i (n := 6) M hW hS (hKC.k12 (by decide)) (fun _ _ => rfl) h29 h30 (by decide) dX5_rider_122 (fun H locs hW hS => ?_)
                rw [← eσ28] at hW
                refine z_al_n M dX5_rider_123 rfl hl 0 rfl ?_
                refine zg_X5_6 M u_hin5 hW hKC.k11 (M.hts _ u_fl_X5_25) dX5_rider_124 ?_
                refine z_al_n M dX5_rider_127 rfl hl 0 rfl ?_
                refine zg_X5_12 M u_hin5 hW hKC.k11 (M.hts _ u_fl_X5_112) dX5_rider_128 ?_
                refine z_il M dX5_rider_131 hl 5 rfl ?_
                obtain ⟨h32, h33, hp⟩ := hp
                obtain ⟨σ31, eσ31⟩ : ∃ z : nS, z = s1 σ28 (12, 5, 0) ((σ28.1 (11, 0, 0) 12)).toNat v5 := ⟨_, rfl⟩
                have hp := hp σ31 eσ31
                refine zs_i (n := 6) M hW hS (hKC.k12 (by decide)) (fun _ _ => rfl) h32 h33 (by decide) dX5_rider_133 (fun H locs hW hS => ?_)
                rw [← eσ31] at hW
                refine z_al_n M dX5_rider_134 rfl hl 0 rfl ?_
                refine zg_X5_7 M u_hin5 hW hKC.k11 (M.hts _ u_fl_X5_28) dX5_rider_135 ?_
                refine z_al_n M dX5_rider_138 rfl hl 0 rfl ?_
                refine zg_X5_12 M u_hin5 hW hKC.k11 (M.hts _ u_fl_X5_112) dX5_rider_139 ?_
                refine z_il_n M dX5_rider_142 rfl hl 1 rfl ?_
                obtain ⟨h35, h36, hp⟩ := hp
                obtain ⟨σ34, eσ34⟩ : ∃ z : nS, z = s1 σ31 (12, 6, 0) ((σ31.1 (11, 0, 0) 12)).toNat v1 := ⟨_, rfl⟩
                have hp := hp σ34 eσ34
                refine zs_i (n := 6) M hW hS (hKC.k12 (by decide)) (fun _ _ => rfl) h35 h36 (by decide) dX5_rider_143 (fun H locs hW hS => ?_)
                rw [← eσ34] at hW
                refine z_al_n M dX5_rider_144 rfl hl 0 rfl ?_
                refine zg_X5_8 M u_hin5 hW hKC.k11 (M.hts _ u_fl_X5_31) dX5_rider_145 ?_
                refine z_al_n M dX5_rider_148 rfl hl 0 rfl ?_
                refine zg_X5_12 M u_hin5 hW hKC.k11 (M.hts _ u_fl_X5_112) dX5_rider_149 ?_
                refine z_il_n M dX5_rider_152 rfl hl 3 rfl ?_
                obtain ⟨h38, h39, hp⟩ := hp
                obtain ⟨σ37, eσ37⟩ : ∃ z : nS, z = s1 σ34 (12, 7, 0) ((σ34.1 (11, 0, 0) 12)).toNat v3 := ⟨_, rfl⟩
                have hp := hp σ37 eσ37
                refine zs_i (n := 6) M hW hS (hKC.k12 (by decide)) (fun _ _ => rfl) h38 h39 (by decide) dX5_rider_153 (fun H locs hW hS => ?_)
                rw [← eσ37] at hW
                refine z_al_n M dX5_rider_154 rfl hl 0 rfl ?_
                refine z_dup M dX5_rider_155 rfl ?_
                refine zg_X5_12 M u_hin5 hW hKC.k11 (M.hts _ u_fl_X5_112) dX5_rider_156 ?_
                refine zi_const M 1 dX5_rider_159 rfl ?_
                refine zi_add M dX5_rider_160 ?_
                obtain ⟨σ40, eσ40⟩ : ∃ z : nS, z = s1 σ37 (11, 0, 0) 12 ((σ37.1 (11, 0, 0) 12) + 1) := ⟨_, rfl⟩
                have hp := hp σ40 eσ40
                refine zp_X5_12 (v := ((σ37.1 (11, 0, 0) 12) + 1)) M u_hin5 hW hS hKC.k11 (M.hts _ u_fl_X5_112) dX5_rider_161 (fun H locs hW hS => ?_)
                rw [← eσ40] at hW
                refine z_al_n M dX5_rider_164 rfl hl 0 rfl ?_
                refine zg_X5_12 M u_hin5 hW hKC.k11 (M.hts _ u_fl_X5_112) dX5_rider_165 ?_
                refine zi_const M 1 dX5_rider_168 rfl ?_
                refine zi_sub M dX5_rider_169 ?_
                exact zr_i M hr hlocks (((σ40.1 (11, 0, 0) 12) - 1), σ40) rfl ⟨hp, hW⟩ hS dX5_rider_170
              · have hp := hp.2 c18
                refine zi_const M (-1) dX5_rider_80 rfl ?_
                exact zr_i M hr hlocks ((-1), σ15) rfl ⟨hp, hW⟩ hS dX5_rider_81
