def P_X5_duty (K : List nKey) (σ : nS) (v1 : Int) (v2 : Int) (k : Int → nS → Prop) : Prop :=
  ∀ σ1 : nS, σ1 = s1 σ (11, 0, 0) 24 0 → P_X5_in K σ1 v1 0 4319 (fun r3 σ2 => ((w r3 = 0 → k (-1) σ2) ∧ (w r3 ≠ 0 → P_X5_in K σ2 v2 0 3 (fun r6 σ5 => ((w r6 = 0 → k (-1) σ5) ∧ (w r6 ≠ 0 → P_X5_onDuty K σ5 v1 v2 (fun r9 σ8 => k r9 σ8)))))))
def rmX5_duty : Room := { frames := 2, cells := 0, slots := 0, locals := 46 }
set_option maxHeartbeats 4000000 in
set_option maxRecDepth 100000 in
theorem w_X5_duty {l : Launch} {D : va_G} {ca : Nat → ClassId} {K : List nKey} {ad : nKey → Nat} {σ : nS} {sz : Nat} (hKC : KC K) {v1 : Int} {v2 : Int} {k : Int → nS → Prop} (hp : P_X5_duty K σ v1 v2 k) : Met l yX5_duty (Cond.code yX5_duty cX5_duty 3 (some .int) :: UW) rmX5_duty (ZP D ca [.ref (ad (11, 0, 0)), .int (iN v1), .int (iN v2)] (ZB D K ad ca σ sz)) (ZQi D K ad ca sz k) 0 0 (FA K ad sz) := by
  refine z_start (cc := cX5_duty) (maxL := 3) (ret := (some .int)) (own := RX5) (K := K) (ad := ad) (σ := σ) (Qc := fun sz => ZQi D K ad ca sz k) (by decide) rfl (Nat.le_of_ble_eq_true rfl) ?_
  intro p e s m args below meth c M hr hlocks hW ls hl
  have hS : va_S (FA K ad s.heap.size) s.heap s.heap [] := va_S.rf
  have hA : ∀ q : Nat, s.heap.size ≤ q → FA K ad s.heap.size q := fun q h => Or.inr h
  replace hl : lv_has ls 3 [(0, .ref (ad (11, 0, 0))), (1, .int (iN v1)), (2, .int (iN v2))] := hl
  unfold P_X5_duty at hp
  refine z_al_n M dX5_duty_0 rfl hl 0 rfl ?_
  refine zi_const M 0 dX5_duty_1 rfl ?_
  obtain ⟨σ1, eσ1⟩ : ∃ z : nS, z = s1 σ (11, 0, 0) 24 0 := ⟨_, rfl⟩
  have hp := hp σ1 eσ1
  refine zp_X5_24 (v := 0) M u_hin5 hW hS hKC.k11 (M.hts _ u_fl_X5_102) dX5_duty_2 (fun H locs hW hS => ?_)
  rw [← eσ1] at hW
  refine z_il_n M dX5_duty_5 rfl hl 1 rfl ?_
  refine zi_const M 0 dX5_duty_6 rfl ?_
  refine zi_si M 4319 dX5_duty_7 (by decide +kernel) ?_
  have hfa := hW.fa hS hA
  refine zc_SU (As := [.int (iN v1), .int (iN 0), .int (iN 4319)]) (rest := []) M (w_X5_in hKC  hp) (cuS M 3 u_co_X5_in u_ml_X5_108 u_ini_X5 u_st_X5_in (by decide +kernel) rfl rfl ⟨Nat.le_of_ble_eq_true rfl, Nat.le_of_ble_eq_true rfl⟩) ⟨rfl, hW.weaken (fun _ _ => trivial)⟩ rfl hl rfl (Nat.le_of_ble_eq_true rfl) ⟨Nat.zero_le _, Nat.zero_le _⟩ dX5_duty_10 hS hfa (fun u H locs hw _ _ hS => ?_)
  obtain ⟨r3, σ2⟩ := u
  obtain ⟨hp, hW2⟩ := hw
  have hW := hW2.weaken hfa
  try dsimp only at hp
  refine zv_eq M (tgt := 34) dX5_duty_13 (by decide) rfl (fun c4 => ?_) (fun c4 => ?_)
  · have hp := hp.1 c4
    refine zi_const M (-1) dX5_duty_34 rfl ?_
    exact zr_i M hr hlocks ((-1), σ2) rfl ⟨hp, hW⟩ hS dX5_duty_35
  · have hp := hp.2 c4
    refine z_il_n M dX5_duty_16 rfl hl 2 rfl ?_
    refine zi_const M 0 dX5_duty_17 rfl ?_
    refine zi_const M 3 dX5_duty_18 rfl ?_
    have hfa := hW.fa hS hA
    refine zc_SU (As := [.int (iN v2), .int (iN 0), .int (iN 3)]) (rest := []) M (w_X5_in hKC  hp) (cuS M 3 u_co_X5_in u_ml_X5_108 u_ini_X5 u_st_X5_in (by decide +kernel) rfl rfl ⟨Nat.le_of_ble_eq_true rfl, Nat.le_of_ble_eq_true rfl⟩) ⟨rfl, hW.weaken (fun _ _ => trivial)⟩ rfl hl rfl (Nat.le_of_ble_eq_true rfl) ⟨Nat.zero_le _, Nat.zero_le _⟩ dX5_duty_19 hS hfa (fun u H locs hw _ _ hS => ?_)
    obtain ⟨r6, σ5⟩ := u
    obtain ⟨hp, hW2⟩ := hw
    have hW := hW2.weaken hfa
    try dsimp only at hp
    refine zv_eq M (tgt := 34) dX5_duty_22 (by decide) rfl (fun c7 => ?_) (fun c7 => ?_)
    · have hp := hp.1 c7
      refine zi_const M (-1) dX5_duty_34 rfl ?_
      exact zr_i M hr hlocks ((-1), σ5) rfl ⟨hp, hW⟩ hS dX5_duty_35
    · have hp := hp.2 c7
      refine z_al_n M dX5_duty_25 rfl hl 0 rfl ?_
      refine z_il_n M dX5_duty_26 rfl hl 1 rfl ?_
      refine z_il_n M dX5_duty_27 rfl hl 2 rfl ?_
      have hfa := hW.fa hS hA
      refine zc_VU (As := [.int (iN v1), .int (iN v2)]) (rest := []) M (w_X5_onDuty hKC  hp) (cuV M 2 u_co_X5_onDuty u_ml_X5_138 u_ini_X5 u_in_X5_onDuty u_se_X5_onDuty (by decide +kernel) rfl rfl ⟨Nat.le_of_ble_eq_true rfl, Nat.le_of_ble_eq_true rfl⟩) (z_recv M hW hKC.k11 rfl rfl) ⟨rfl, hW.weaken (fun _ _ => trivial)⟩ rfl hl rfl (Nat.le_of_ble_eq_true rfl) ⟨Nat.zero_le _, Nat.zero_le _⟩ dX5_duty_28 hS hfa (fun u H locs hw _ _ hS => ?_)
      obtain ⟨r9, σ8⟩ := u
      obtain ⟨hp, hW2⟩ := hw
      have hW := hW2.weaken hfa
      try dsimp only at hp
      refine zg M (tgt := 35) dX5_duty_31 (by decide) ?_
      exact zr_i M hr hlocks (r9, σ8) rfl ⟨hp, hW⟩ hS dX5_duty_35
def P_X5_bare_L29 (K : List nKey) (k : Int → nS → Prop) (v2 : Int) : Nat → Int → nS → Prop
  | 0 => fun _ _ => False
  | n + 1 => fun v3 σ =>
    ((4319 < w v3 → k (-1) σ) ∧ (w v3 ≤ 4319 → P_X5_onDuty K σ v3 v2 (fun r3 σ2 => ((w r3 ≠ 0 → ∀ x5 : Int, x5 = v3 + 1 → (P_X5_bare_L29 K k v2 n) x5 σ2) ∧ (w r3 = 0 → k v3 σ2)))))
def P_X5_bare (K : List nKey) (σ : nS) (v1 : Int) (v2 : Int) (k : Int → nS → Prop) : Prop :=
  ∀ σ6 : nS, σ6 = s1 σ (11, 0, 0) 24 0 → P_X5_in K σ6 v1 0 4319 (fun r8 σ7 => ((w r8 = 0 → k (-1) σ7) ∧ (w r8 ≠ 0 → P_X5_in K σ7 v2 0 3 (fun r11 σ10 => ((w r11 ≠ 0 → ∃ f13 : Nat, P_X5_bare_L29 K k v2 f13 v1 σ10) ∧ (w r11 = 0 → k (-1) σ10))))))
def rmX5_bare : Room := { frames := 2, cells := 0, slots := 0, locals := 46 }
set_option maxHeartbeats 4000000 in
set_option maxRecDepth 100000 in
theorem w_X5_bare {l : Launch} {D : va_G} {ca : Nat → ClassId} {K : List nKey} {ad : nKey → Nat} {σ : nS} {sz : Nat} (hKC : KC K) {v1 : Int} {v2 : Int} {k : Int → nS → Prop} (hp : P_X5_bare K σ v1 v2 k) : Met l yX5_bare (Cond.code yX5_bare cX5_bare 4 (some .int) :: UW) rmX5_bare (ZP D ca [.ref (ad (11, 0, 0)), .int (iN v1), .int (iN v2)] (ZB D K ad ca σ sz)) (ZQi D K ad ca sz k) 0 0 (FA K ad sz) := by
  refine z_start (cc := cX5_bare) (maxL := 4) (ret := (some .int)) (own := RX5) (K := K) (ad := ad) (σ := σ) (Qc := fun sz => ZQi D K ad ca sz k) (by decide) rfl (Nat.le_of_ble_eq_true rfl) ?_
  intro p e s m args below meth c M hr hlocks hW ls hl
  have hS : va_S (FA K ad s.heap.size) s.heap s.heap [] := va_S.rf
  have hA : ∀ q : Nat, s.heap.size ≤ q → FA K ad s.heap.size q := fun q h => Or.inr h
  replace hl : lv_has ls 4 [(0, .ref (ad (11, 0, 0))), (1, .int (iN v1)), (2, .int (iN v2))] := hl
  unfold P_X5_bare at hp
  have hL29 : ∀ (f29 : Nat) (v3 : Int) (σ : nS) (H : Heap) (locs : List Loc) (ls : Array Slot), P_X5_bare_L29 K k v2 f29 v3 σ → XW D (FA K ad s.heap.size) K ad (cR ca ad σ) H → va_S (FA K ad s.heap.size) s.heap H locs → lv_has ls 4 [(0, .ref (ad (11, 0, 0))), (2, .int (iN v2)), (3, .int (iN v3))] → W p l e rmX5_bare s m args below meth c H locs 0 0 (MQ below (ZQi D K ad ca s.heap.size k) args s 0 0 (FA K ad s.heap.size)) (F0 m 29 ls []) := by
    intro f29
    induction f29 with
    | zero =>
      intro v3 σ H locs ls  hp
      exact hp.elim
    | succ f29 ih29 =>
      intro v3 σ H locs ls  hp hW hS hl
      refine z_il_n M dX5_bare_29 rfl hl 2 rfl ?_
      refine zi_si M 4319 dX5_bare_30 (by decide +kernel) ?_
      refine zw_gt M (tgt := 53) dX5_bare_33 (by decide) rfl (w_of ⟨by decide, by decide⟩) (fun c1 => ?_) (fun c1 => ?_)
      · have hp := hp.1 c1
        refine zi_const M (-1) dX5_bare_53 rfl ?_
        exact zr_i M hr hlocks ((-1), σ) rfl ⟨hp, hW⟩ hS dX5_bare_54
      · have hp := hp.2 c1
        refine z_al_n M dX5_bare_36 rfl hl 0 rfl ?_
        refine z_il_n M dX5_bare_37 rfl hl 2 rfl ?_
        refine z_il_n M dX5_bare_38 rfl hl 1 rfl ?_
        have hfa := hW.fa hS hA
        refine zc_VU (As := [.int (iN v3), .int (iN v2)]) (rest := []) M (w_X5_onDuty hKC  hp) (cuV M 2 u_co_X5_onDuty u_ml_X5_138 u_ini_X5 u_in_X5_onDuty u_se_X5_onDuty (by decide +kernel) rfl rfl ⟨Nat.le_of_ble_eq_true rfl, Nat.le_of_ble_eq_true rfl⟩) (z_recv M hW hKC.k11 rfl rfl) ⟨rfl, hW.weaken (fun _ _ => trivial)⟩ rfl hl rfl (Nat.le_of_ble_eq_true rfl) ⟨Nat.zero_le _, Nat.zero_le _⟩ dX5_bare_39 hS hfa (fun u H locs hw _ _ hS => ?_)
        obtain ⟨r3, σ2⟩ := u
        obtain ⟨hp, hW2⟩ := hw
        have hW := hW2.weaken hfa
        try dsimp only at hp
        refine zv_ne M (tgt := 47) dX5_bare_42 (by decide) rfl (fun c4 => ?_) (fun c4 => ?_)
        · have hp := hp.1 c4
          obtain ⟨x5, ex5⟩ : ∃ z : Int, z = v3 + 1 := ⟨_, rfl⟩
          have hp := hp x5 ex5
          refine z_inc M [(3, .int (iN x5)), (0, .ref (ad (11, 0, 0))), (2, .int (iN v2))] x5 dX5_bare_47 hl 2 rfl ex5.symm (by decide) rfl (fun ls hl => ?_)
          refine zg M (tgt := 29) dX5_bare_50 (by decide) ?_
          exact ih29 x5 σ2 _ _ _  hp hW hS (lv_sub hl [1, 2, 0] rfl)
        · have hp := hp.2 c4
          refine z_il_n M dX5_bare_45 rfl hl 2 rfl ?_
          exact zr_i M hr hlocks (v3, σ2) rfl ⟨hp, hW⟩ hS dX5_bare_46
  refine z_al_n M dX5_bare_0 rfl hl 0 rfl ?_
  refine zi_const M 0 dX5_bare_1 rfl ?_
  obtain ⟨σ6, eσ6⟩ : ∃ z : nS, z = s1 σ (11, 0, 0) 24 0 := ⟨_, rfl⟩
  have hp := hp σ6 eσ6
  refine zp_X5_24 (v := 0) M u_hin5 hW hS hKC.k11 (M.hts _ u_fl_X5_102) dX5_bare_2 (fun H locs hW hS => ?_)
  rw [← eσ6] at hW
  refine z_il_n M dX5_bare_5 rfl hl 1 rfl ?_
  refine zi_const M 0 dX5_bare_6 rfl ?_
  refine zi_si M 4319 dX5_bare_7 (by decide +kernel) ?_
  have hfa := hW.fa hS hA
  refine zc_SU (As := [.int (iN v1), .int (iN 0), .int (iN 4319)]) (rest := []) M (w_X5_in hKC  hp) (cuS M 3 u_co_X5_in u_ml_X5_108 u_ini_X5 u_st_X5_in (by decide +kernel) rfl rfl ⟨Nat.le_of_ble_eq_true rfl, Nat.le_of_ble_eq_true rfl⟩) ⟨rfl, hW.weaken (fun _ _ => trivial)⟩ rfl hl rfl (Nat.le_of_ble_eq_true rfl) ⟨Nat.zero_le _, Nat.zero_le _⟩ dX5_bare_10 hS hfa (fun u H locs hw _ _ hS => ?_)
  obtain ⟨r8, σ7⟩ := u
  obtain ⟨hp, hW2⟩ := hw
  have hW := hW2.weaken hfa
  try dsimp only at hp
  refine zv_eq M (tgt := 25) dX5_bare_13 (by decide) rfl (fun c9 => ?_) (fun c9 => ?_)
  · have hp := hp.1 c9
    refine zi_const M (-1) dX5_bare_25 rfl ?_
    exact zr_i M hr hlocks ((-1), σ7) rfl ⟨hp, hW⟩ hS dX5_bare_26
  · have hp := hp.2 c9
    refine z_il_n M dX5_bare_16 rfl hl 2 rfl ?_
    refine zi_const M 0 dX5_bare_17 rfl ?_
    refine zi_const M 3 dX5_bare_18 rfl ?_
    have hfa := hW.fa hS hA
    refine zc_SU (As := [.int (iN v2), .int (iN 0), .int (iN 3)]) (rest := []) M (w_X5_in hKC  hp) (cuS M 3 u_co_X5_in u_ml_X5_108 u_ini_X5 u_st_X5_in (by decide +kernel) rfl rfl ⟨Nat.le_of_ble_eq_true rfl, Nat.le_of_ble_eq_true rfl⟩) ⟨rfl, hW.weaken (fun _ _ => trivial)⟩ rfl hl rfl (Nat.le_of_ble_eq_true rfl) ⟨Nat.zero_le _, Nat.zero_le _⟩ dX5_bare_19 hS hfa (fun u H locs hw _ _ hS => ?_)
    obtain ⟨r11, σ10⟩ := u
    obtain ⟨hp, hW2⟩ := hw
    have hW := hW2.weaken hfa
    try dsimp only at hp
    refine zv_ne M (tgt := 27) dX5_bare_22 (by decide) rfl (fun c12 => ?_) (fun c12 => ?_)
    · have hp := hp.1 c12
      refine z_il_n M dX5_bare_27 rfl hl 1 rfl ?_
      refine z_is_n M [(3, .int (iN v1)), (0, .ref (ad (11, 0, 0))), (1, .int (iN v1)), (2, .int (iN v2))] dX5_bare_28 rfl hl (by decide) rfl (fun ls hl => ?_)
      obtain ⟨f13, hp⟩ := hp
      exact hL29 f13 v1 σ10 _ _ _  hp hW hS (lv_sub hl [1, 3, 0] rfl)
    · have hp := hp.2 c12
      refine zi_const M (-1) dX5_bare_25 rfl ?_
      exact zr_i M hr hlocks ((-1), σ10) rfl ⟨hp, hW⟩ hS dX5_bare_26
def P_X5_isBetter_L71 (K : List nKey) (k : Int → nS → Prop) (v1 : Int) : Nat → Int → nS → Prop
  | 0 => fun _ _ => False
  | n + 1 => fun v4 σ =>
    ((w v1 ≤ w v4 → k 0 σ) ∧ (w v4 < w v1 → 0 ≤ v4 ∧ v4 < 3 ∧ 0 ≤ v4 ∧ v4 < 3 ∧ ((w (σ.1 (12, 20, 0) (v4).toNat) = w (σ.1 (12, 24, 0) (v4).toNat) → 0 ≤ v4 ∧ v4 < 3 ∧ 0 ≤ v4 ∧ v4 < 3 ∧ ((w (σ.1 (12, 21, 0) (v4).toNat) = w (σ.1 (12, 25, 0) (v4).toNat) → ∀ x12 : Int, x12 = v4 + 1 → (P_X5_isBetter_L71 K k v1 n) x12 σ) ∧ (w (σ.1 (12, 21, 0) (v4).toNat) ≠ w (σ.1 (12, 25, 0) (v4).toNat) → 0 ≤ v4 ∧ v4 < 3 ∧ 0 ≤ v4 ∧ v4 < 3 ∧ ((w (σ.1 (12, 25, 0) (v4).toNat) ≤ w (σ.1 (12, 21, 0) (v4).toNat) → k 0 σ) ∧ (w (σ.1 (12, 21, 0) (v4).toNat) < w (σ.1 (12, 25, 0) (v4).toNat) → k 1 σ))))) ∧ (w (σ.1 (12, 20, 0) (v4).toNat) ≠ w (σ.1 (12, 24, 0) (v4).toNat) → 0 ≤ v4 ∧ v4 < 3 ∧ 0 ≤ v4 ∧ v4 < 3 ∧ ((w (σ.1 (12, 24, 0) (v4).toNat) ≤ w (σ.1 (12, 20, 0) (v4).toNat) → k 0 σ) ∧ (w (σ.1 (12, 20, 0) (v4).toNat) < w (σ.1 (12, 24, 0) (v4).toNat) → k 1 σ))))))
def P_X5_isBetter (K : List nKey) (σ : nS) (v1 : Int) (k : Int → nS → Prop) : Prop :=
  ((w (σ.1 (11, 0, 0) 34) ≠ 0 → 0 ≤ (v1 - 1) ∧ (v1 - 1) < 3 ∧ ∀ x26 : Int, x26 = (σ.1 (12, 23, 0) ((v1 - 1)).toNat) → 0 ≤ ((σ.1 (11, 0, 0) 34) - 1) ∧ ((σ.1 (11, 0, 0) 34) - 1) < 3 ∧ ∀ x29 : Int, x29 = (σ.1 (12, 27, 0) (((σ.1 (11, 0, 0) 34) - 1)).toNat) → ((w x26 = w x29 → ((w v1 = w (σ.1 (11, 0, 0) 34) → ∃ f32 : Nat, P_X5_isBetter_L71 K k v1 f32 0 σ) ∧ (w v1 ≠ w (σ.1 (11, 0, 0) 34) → ((w (σ.1 (11, 0, 0) 34) ≤ w v1 → k 0 σ) ∧ (w v1 < w (σ.1 (11, 0, 0) 34) → k 1 σ))))) ∧ (w x26 ≠ w x29 → ((w x29 ≤ w x26 → k 0 σ) ∧ (w x26 < w x29 → k 1 σ))))) ∧ (w (σ.1 (11, 0, 0) 34) = 0 → k 1 σ))
def rmX5_isBetter : Room := { frames := 0, cells := 0, slots := 0, locals := 0 }
set_option maxHeartbeats 4000000 in
set_option maxRecDepth 100000 in
theorem w_X5_isBetter {l : Launch} {D : va_G} {ca : Nat → ClassId} {K : List nKey} {ad : nKey → Nat} {σ : nS} {sz : Nat} (hKC : KC K) {v1 : Int} {k : Int → nS → Prop} (hp : P_X5_isBetter K σ v1 k) : Met l yX5_isBetter (Cond.code yX5_isBetter cX5_isBetter 5 (some .boolean) :: UW) rmX5_isBetter (ZP D ca [.ref (ad (11, 0, 0)), .int (iN v1)] (ZB D K ad ca σ sz)) (ZQi D K ad ca sz k) 0 0 (FA K ad sz) := by
  refine z_start (cc := cX5_isBetter) (maxL := 5) (ret := (some .boolean)) (own := RX5) (K := K) (ad := ad) (σ := σ) (Qc := fun sz => ZQi D K ad ca sz k) (by decide) rfl (Nat.le_of_ble_eq_true rfl) ?_
  intro p e s m args below meth c M hr hlocks hW ls hl
  have hS : va_S (FA K ad s.heap.size) s.heap s.heap [] := va_S.rf
  have hA : ∀ q : Nat, s.heap.size ≤ q → FA K ad s.heap.size q := fun q h => Or.inr h
  replace hl : lv_has ls 5 [(0, .ref (ad (11, 0, 0))), (1, .int (iN v1))] := hl
  unfold P_X5_isBetter at hp
  have hL71 : ∀ (f71 : Nat) (v4 : Int) (σ : nS) (H : Heap) (locs : List Loc) (ls : Array Slot), P_X5_isBetter_L71 K k v1 f71 v4 σ → XW D (FA K ad s.heap.size) K ad (cR ca ad σ) H → va_S (FA K ad s.heap.size) s.heap H locs → lv_has ls 5 [(0, .ref (ad (11, 0, 0))), (1, .int (iN v1)), (4, .int (iN v4))] → W p l e rmX5_isBetter s m args below meth c H locs 0 0 (MQ below (ZQi D K ad ca s.heap.size k) args s 0 0 (FA K ad s.heap.size)) (F0 m 71 ls []) := by
    intro f71
    induction f71 with
    | zero =>
      intro v4 σ H locs ls  hp
      exact hp.elim
    | succ f71 ih71 =>
      intro v4 σ H locs ls  hp hW hS hl
      refine z_il M dX5_isBetter_71 hl 2 rfl ?_
      refine z_il_n M dX5_isBetter_73 rfl hl 1 rfl ?_
      refine zw_ge M (tgt := 163) dX5_isBetter_74 (by decide) rfl rfl (fun c1 => ?_) (fun c1 => ?_)
      · have hp := hp.1 c1
        refine zi_const M 0 dX5_isBetter_163 rfl ?_
        exact zr_z M hr hlocks (0, σ) (by decide) rfl ⟨hp, hW⟩ hS dX5_isBetter_164
      · have hp := hp.2 c1
        refine z_al_n M dX5_isBetter_77 rfl hl 0 rfl ?_
        refine zg_X5_26 M u_hin5 hW hKC.k11 (M.hts _ u_fl_X5_78) dX5_isBetter_78 ?_
        refine z_il M dX5_isBetter_81 hl 2 rfl ?_
        obtain ⟨h2, h3, hp⟩ := hp
        refine za_i (n := 3) M hW (hKC.k12 (by decide)) (fun _ _ => rfl) h2 h3 (by decide) dX5_isBetter_83 ?_
        refine z_al_n M dX5_isBetter_84 rfl hl 0 rfl ?_
        refine zg_X5_30 M u_hin5 hW hKC.k11 (M.hts _ u_fl_X5_90) dX5_isBetter_85 ?_
        refine z_il M dX5_isBetter_88 hl 2 rfl ?_
        obtain ⟨h4, h5, hp⟩ := hp
        refine za_i (n := 3) M hW (hKC.k12 (by decide)) (fun _ _ => rfl) h4 h5 (by decide) dX5_isBetter_90 ?_
        refine zw_eq M (tgt := 117) dX5_isBetter_91 (by decide) rfl rfl (fun c6 => ?_) (fun c6 => ?_)
        · have hp := hp.1 c6
          refine z_al_n M dX5_isBetter_117 rfl hl 0 rfl ?_
          refine zg_X5_27 M u_hin5 hW hKC.k11 (M.hts _ u_fl_X5_81) dX5_isBetter_118 ?_
          refine z_il M dX5_isBetter_121 hl 2 rfl ?_
          obtain ⟨h7, h8, hp⟩ := hp
          refine za_i (n := 3) M hW (hKC.k12 (by decide)) (fun _ _ => rfl) h7 h8 (by decide) dX5_isBetter_123 ?_
          refine z_al_n M dX5_isBetter_124 rfl hl 0 rfl ?_
          refine zg_X5_31 M u_hin5 hW hKC.k11 (M.hts _ u_fl_X5_93) dX5_isBetter_125 ?_
          refine z_il M dX5_isBetter_128 hl 2 rfl ?_
          obtain ⟨h9, h10, hp⟩ := hp
          refine za_i (n := 3) M hW (hKC.k12 (by decide)) (fun _ _ => rfl) h9 h10 (by decide) dX5_isBetter_130 ?_
          refine zw_eq M (tgt := 157) dX5_isBetter_131 (by decide) rfl rfl (fun c11 => ?_) (fun c11 => ?_)
          · have hp := hp.1 c11
            obtain ⟨x12, ex12⟩ : ∃ z : Int, z = v4 + 1 := ⟨_, rfl⟩
            have hp := hp x12 ex12
            refine z_inc M [(4, .int (iN x12)), (0, .ref (ad (11, 0, 0))), (1, .int (iN v1))] x12 dX5_isBetter_157 hl 2 rfl ex12.symm (by decide) rfl (fun ls hl => ?_)
            refine zg M (tgt := 71) dX5_isBetter_160 (by decide) ?_
            exact ih71 x12 σ _ _ _  hp hW hS (lv_sub hl [1, 2, 0] rfl)
          · have hp := hp.2 c11
            refine z_al_n M dX5_isBetter_134 rfl hl 0 rfl ?_
            refine zg_X5_27 M u_hin5 hW hKC.k11 (M.hts _ u_fl_X5_81) dX5_isBetter_135 ?_
            refine z_il M dX5_isBetter_138 hl 2 rfl ?_
            obtain ⟨h13, h14, hp⟩ := hp
            refine za_i (n := 3) M hW (hKC.k12 (by decide)) (fun _ _ => rfl) h13 h14 (by decide) dX5_isBetter_140 ?_
            refine z_al_n M dX5_isBetter_141 rfl hl 0 rfl ?_
            refine zg_X5_31 M u_hin5 hW hKC.k11 (M.hts _ u_fl_X5_93) dX5_isBetter_142 ?_
            refine z_il M dX5_isBetter_145 hl 2 rfl ?_
            obtain ⟨h15, h16, hp⟩ := hp
            refine za_i (n := 3) M hW (hKC.k12 (by decide)) (fun _ _ => rfl) h15 h16 (by decide) dX5_isBetter_147 ?_
            refine zw_ge M (tgt := 155) dX5_isBetter_148 (by decide) rfl rfl (fun c17 => ?_) (fun c17 => ?_)
            · have hp := hp.1 c17
              refine zi_const M 0 dX5_isBetter_155 rfl ?_
              exact zr_z M hr hlocks (0, σ) (by decide) rfl ⟨hp, hW⟩ hS dX5_isBetter_156
            · have hp := hp.2 c17
              refine zi_const M 1 dX5_isBetter_151 rfl ?_
              refine zg M (tgt := 156) dX5_isBetter_152 (by decide) ?_
              exact zr_z M hr hlocks (1, σ) (by decide) rfl ⟨hp, hW⟩ hS dX5_isBetter_156
        · have hp := hp.2 c6
          refine z_al_n M dX5_isBetter_94 rfl hl 0 rfl ?_
          refine zg_X5_26 M u_hin5 hW hKC.k11 (M.hts _ u_fl_X5_78) dX5_isBetter_95 ?_
          refine z_il M dX5_isBetter_98 hl 2 rfl ?_
          obtain ⟨h18, h19, hp⟩ := hp
          refine za_i (n := 3) M hW (hKC.k12 (by decide)) (fun _ _ => rfl) h18 h19 (by decide) dX5_isBetter_100 ?_
          refine z_al_n M dX5_isBetter_101 rfl hl 0 rfl ?_
          refine zg_X5_30 M u_hin5 hW hKC.k11 (M.hts _ u_fl_X5_90) dX5_isBetter_102 ?_
          refine z_il M dX5_isBetter_105 hl 2 rfl ?_
          obtain ⟨h20, h21, hp⟩ := hp
          refine za_i (n := 3) M hW (hKC.k12 (by decide)) (fun _ _ => rfl) h20 h21 (by decide) dX5_isBetter_107 ?_
          refine zw_ge M (tgt := 115) dX5_isBetter_108 (by decide) rfl rfl (fun c22 => ?_) (fun c22 => ?_)
          · have hp := hp.1 c22
            refine zi_const M 0 dX5_isBetter_115 rfl ?_
            exact zr_z M hr hlocks (0, σ) (by decide) rfl ⟨hp, hW⟩ hS dX5_isBetter_116
          · have hp := hp.2 c22
            refine zi_const M 1 dX5_isBetter_111 rfl ?_
            refine zg M (tgt := 116) dX5_isBetter_112 (by decide) ?_
            exact zr_z M hr hlocks (1, σ) (by decide) rfl ⟨hp, hW⟩ hS dX5_isBetter_116
  refine z_al_n M dX5_isBetter_0 rfl hl 0 rfl ?_
  refine zg_X5_34 M u_hin5 hW hKC.k11 (M.hts _ u_fl_X5_142) dX5_isBetter_1 ?_
  refine zv_ne M (tgt := 9) dX5_isBetter_4 (by decide) rfl (fun c23 => ?_) (fun c23 => ?_)
  · have hp := hp.1 c23
    refine z_al_n M dX5_isBetter_9 rfl hl 0 rfl ?_
    refine zg_X5_29 M u_hin5 hW hKC.k11 (M.hts _ u_fl_X5_87) dX5_isBetter_10 ?_
    refine z_il_n M dX5_isBetter_13 rfl hl 1 rfl ?_
    refine zi_const M 1 dX5_isBetter_14 rfl ?_
    refine zi_sub M dX5_isBetter_15 ?_
    obtain ⟨h24, h25, hp⟩ := hp
    refine za_i (n := 3) M hW (hKC.k12 (by decide)) (fun _ _ => rfl) h24 h25 (by decide) dX5_isBetter_16 ?_
    refine zi_nm (fun x26 ex26 => ?_)
    have hp := hp x26 ex26
    refine z_is_n M [(2, .int (iN x26)), (0, .ref (ad (11, 0, 0))), (1, .int (iN v1))] dX5_isBetter_17 rfl hl (by decide) rfl (fun ls hl => ?_)
    refine z_al_n M dX5_isBetter_18 rfl hl 1 rfl ?_
    refine zg_X5_33 M u_hin5 hW hKC.k11 (M.hts _ u_fl_X5_99) dX5_isBetter_19 ?_
    refine z_al_n M dX5_isBetter_22 rfl hl 1 rfl ?_
    refine zg_X5_34 M u_hin5 hW hKC.k11 (M.hts _ u_fl_X5_142) dX5_isBetter_23 ?_
    refine zi_const M 1 dX5_isBetter_26 rfl ?_
    refine zi_sub M dX5_isBetter_27 ?_
    obtain ⟨h27, h28, hp⟩ := hp
    refine za_i (n := 3) M hW (hKC.k12 (by decide)) (fun _ _ => rfl) h27 h28 (by decide) dX5_isBetter_28 ?_
    refine zi_nm (fun x29 ex29 => ?_)
    have hp := hp x29 ex29
    refine z_is_n M [(3, .int (iN x29)), (2, .int (iN x26)), (0, .ref (ad (11, 0, 0))), (1, .int (iN v1))] dX5_isBetter_29 rfl hl (by decide) rfl (fun ls hl => ?_)
    refine z_il_n M dX5_isBetter_30 rfl hl 1 rfl ?_
    refine z_il_n M dX5_isBetter_31 rfl hl 0 rfl ?_
    refine zw_eq M (tgt := 46) dX5_isBetter_32 (by decide) rfl rfl (fun c30 => ?_) (fun c30 => ?_)
    · have hp := hp.1 c30
      refine z_il_n M dX5_isBetter_46 rfl hl 3 rfl ?_
      refine z_al_n M dX5_isBetter_47 rfl hl 2 rfl ?_
      refine zg_X5_34 M u_hin5 hW hKC.k11 (M.hts _ u_fl_X5_142) dX5_isBetter_48 ?_
      refine zw_eq M (tgt := 68) dX5_isBetter_51 (by decide) rfl rfl (fun c31 => ?_) (fun c31 => ?_)
      · have hp := hp.1 c31
        refine zi_const M 0 dX5_isBetter_68 rfl ?_
        refine z_is M [(4, .int (iN 0)), (3, .int (iN x29)), (2, .int (iN x26)), (0, .ref (ad (11, 0, 0))), (1, .int (iN v1))] dX5_isBetter_69 hl (by decide) rfl (fun ls hl => ?_)
        obtain ⟨f32, hp⟩ := hp
        exact hL71 f32 0 σ _ _ _  hp hW hS (lv_sub hl [3, 4, 0] rfl)
      · have hp := hp.2 c31
        refine z_il_n M dX5_isBetter_54 rfl hl 3 rfl ?_
        refine z_al_n M dX5_isBetter_55 rfl hl 2 rfl ?_
        refine zg_X5_34 M u_hin5 hW hKC.k11 (M.hts _ u_fl_X5_142) dX5_isBetter_56 ?_
        refine zw_ge M (tgt := 66) dX5_isBetter_59 (by decide) rfl rfl (fun c33 => ?_) (fun c33 => ?_)
        · have hp := hp.1 c33
          refine zi_const M 0 dX5_isBetter_66 rfl ?_
          exact zr_z M hr hlocks (0, σ) (by decide) rfl ⟨hp, hW⟩ hS dX5_isBetter_67
        · have hp := hp.2 c33
          refine zi_const M 1 dX5_isBetter_62 rfl ?_
          refine zg M (tgt := 67) dX5_isBetter_63 (by decide) ?_
          exact zr_z M hr hlocks (1, σ) (by decide) rfl ⟨hp, hW⟩ hS dX5_isBetter_67
    · have hp := hp.2 c30
      refine z_il_n M dX5_isBetter_35 rfl hl 1 rfl ?_
      refine z_il_n M dX5_isBetter_36 rfl hl 0 rfl ?_
      refine zw_ge M (tgt := 44) dX5_isBetter_37 (by decide) rfl rfl (fun c34 => ?_) (fun c34 => ?_)
      · have hp := hp.1 c34
        refine zi_const M 0 dX5_isBetter_44 rfl ?_
        exact zr_z M hr hlocks (0, σ) (by decide) rfl ⟨hp, hW⟩ hS dX5_isBetter_45
      · have hp := hp.2 c34
        refine zi_const M 1 dX5_isBetter_40 rfl ?_
        refine zg M (tgt := 45) dX5_isBetter_41 (by decide) ?_
        exact zr_z M hr hlocks (1, σ) (by decide) rfl ⟨hp, hW⟩ hS dX5_isBetter_45
  · have hp := hp.2 c23
    refine zi_const M 1 dX5_isBetter_7 rfl ?_
    exact zr_z M hr hlocks (1, σ) (by decide) rfl ⟨hp, hW⟩ hS dX5_isBetter_8
def P_X5_tryLeg_L316 (K : List nKey) (rc : nS → Int → Int → Int → Int → Int → Int → (nS → Prop) → Prop) (k : nS → Prop) (kb3 : Int → nS → Prop) (kb153 : Int → Int → Int → nS → Prop) (v1 : Int) (v2 : Int) (v3 : Int) (v4 : Int) (v5 : Int) (v6 : Int) : Nat → Int → Int → Int → Int → nS → Prop
  | 0 => fun _ _ _ _ _ => False
  | n + 1 => fun v7 v10 v11 v13 σ =>
    ((w v1 < w v13 → ∀ x2 : Int, x2 = v11 + 1 → kb153 v7 v10 x2 σ) ∧ (w v13 ≤ w v1 → 0 ≤ v13 ∧ v13 < 3 ∧ 0 ≤ v13 ∧ v13 < 3 ∧ ∀ σ5 : nS, σ5 = s1 σ (12, 24, 0) (v13).toNat (σ.1 (12, 20, 0) (v13).toNat) → 0 ≤ v13 ∧ v13 < 3 ∧ 0 ≤ v13 ∧ v13 < 3 ∧ ∀ σ10 : nS, σ10 = s1 σ5 (12, 25, 0) (v13).toNat (σ5.1 (12, 21, 0) (v13).toNat) → 0 ≤ v13 ∧ v13 < 3 ∧ 0 ≤ v13 ∧ v13 < 3 ∧ ∀ σ15 : nS, σ15 = s1 σ10 (12, 26, 0) (v13).toNat (σ10.1 (12, 22, 0) (v13).toNat) → 0 ≤ v13 ∧ v13 < 3 ∧ 0 ≤ v13 ∧ v13 < 3 ∧ ∀ σ20 : nS, σ20 = s1 σ15 (12, 27, 0) (v13).toNat (σ15.1 (12, 23, 0) (v13).toNat) → ∀ x23 : Int, x23 = v13 + 1 → (P_X5_tryLeg_L316 K rc k kb3 kb153 v1 v2 v3 v4 v5 v6 n) v7 v10 v11 x23 σ20))
def P_X5_tryLeg_L188 (K : List nKey) (rc : nS → Int → Int → Int → Int → Int → Int → (nS → Prop) → Prop) (k : nS → Prop) (kb3 : Int → nS → Prop) (kb153 : Int → Int → Int → nS → Prop) (v1 : Int) (v2 : Int) (v3 : Int) (v4 : Int) (v5 : Int) (v6 : Int) : Int → Int → Int → nS → Prop := fun v7 v10 v11 σ =>
    P_X5_wayOf K σ v7 v3 v11 (fun r25 σ24 => ((w r25 = 1000000 → ∀ x27 : Int, x27 = v11 + 1 → kb153 v7 v10 x27 σ24) ∧ (w r25 ≠ 1000000 → 0 ≤ v7 ∧ v7 < 6 ∧ ((w (v10 + r25) ≤ w (σ24.1 (12, 4, 0) (v7).toNat) → 0 ≤ v1 ∧ v1 < 3 ∧ ∀ σ31 : nS, σ31 = s1 σ24 (12, 20, 0) (v1).toNat v7 → 0 ≤ v1 ∧ v1 < 3 ∧ ∀ σ34 : nS, σ34 = s1 σ31 (12, 21, 0) (v1).toNat v11 → 0 ≤ v1 ∧ v1 < 3 ∧ ∀ σ37 : nS, σ37 = s1 σ34 (12, 22, 0) (v1).toNat v10 → 0 ≤ v1 ∧ v1 < 3 ∧ ∀ σ40 : nS, σ40 = s1 σ37 (12, 23, 0) (v1).toNat (v10 + r25) → ((w v11 = w v5 → P_X5_isBetter K σ40 (v1 + 1) (fun r45 σ44 => ((w r45 ≠ 0 → ∀ σ47 : nS, σ47 = s1 σ44 (11, 0, 0) 34 (v1 + 1) → ∃ f48 : Nat, P_X5_tryLeg_L316 K rc k kb3 kb153 v1 v2 v3 v4 v5 v6 f48 v7 v10 v11 0 σ47) ∧ (w r45 = 0 → ∀ x49 : Int, x49 = v11 + 1 → kb153 v7 v10 x49 σ44)))) ∧ (w v11 ≠ w v5 → rc σ40 (v1 + 1) v2 v11 (v10 + r25) v5 (orI v6 (shlI 1 v11)) (fun σ50 => ∀ x51 : Int, x51 = v11 + 1 → kb153 v7 v10 x51 σ50)))) ∧ (w (σ24.1 (12, 4, 0) (v7).toNat) < w (v10 + r25) → ∀ x52 : Int, x52 = v11 + 1 → kb153 v7 v10 x52 σ24)))))
def P_X5_tryLeg_L153 (K : List nKey) (rc : nS → Int → Int → Int → Int → Int → Int → (nS → Prop) → Prop) (k : nS → Prop) (kb3 : Int → nS → Prop) (v1 : Int) (v2 : Int) (v3 : Int) (v4 : Int) (v5 : Int) (v6 : Int) : Nat → Int → Int → Int → nS → Prop
  | 0 => fun _ _ _ _ => False
  | n + 1 => fun v7 v10 v11 σ =>
    ((w (σ.1 (11, 0, 0) 1) ≤ w v11 → ∀ x54 : Int, x54 = v7 + 1 → kb3 x54 σ) ∧ (w v11 < w (σ.1 (11, 0, 0) 1) → ((w (andI (shrI v6 v11) 1) = 1 → ∀ x56 : Int, x56 = v11 + 1 → (P_X5_tryLeg_L153 K rc k kb3 v1 v2 v3 v4 v5 v6 n) v7 v10 x56 σ) ∧ (w (andI (shrI v6 v11) 1) ≠ 1 → ((w v11 = w v5 → P_X5_tryLeg_L188 K rc k kb3 (P_X5_tryLeg_L153 K rc k kb3 v1 v2 v3 v4 v5 v6 n) v1 v2 v3 v4 v5 v6 v7 v10 v11 σ) ∧ (w v11 ≠ w v5 → ((w v1 ≠ 2 → P_X5_tryLeg_L188 K rc k kb3 (P_X5_tryLeg_L153 K rc k kb3 v1 v2 v3 v4 v5 v6 n) v1 v2 v3 v4 v5 v6 v7 v10 v11 σ) ∧ (w v1 = 2 → ∀ x59 : Int, x59 = v11 + 1 → (P_X5_tryLeg_L153 K rc k kb3 v1 v2 v3 v4 v5 v6 n) v7 v10 x59 σ))))))))
def P_X5_tryLeg_L18 (K : List nKey) (rc : nS → Int → Int → Int → Int → Int → Int → (nS → Prop) → Prop) (k : nS → Prop) (kb3 : Int → nS → Prop) (v1 : Int) (v2 : Int) (v3 : Int) (v4 : Int) (v5 : Int) (v6 : Int) : Nat → Int → Int → Int → nS → Prop
  | 0 => fun _ _ _ _ => False
  | n + 1 => fun v7 v8 v9 σ =>
    ((w v1 ≤ w v9 → ((w v8 = 0 → ∀ x62 : Int, x62 = v7 + 1 → kb3 x62 σ) ∧ (w v8 ≠ 0 → P_X5_mayCarry K σ v7 v2 (fun r64 σ63 => ((w r64 ≠ 0 → 0 ≤ v7 ∧ v7 < 6 ∧ P_X5_wayOf K σ63 v7 (σ63.1 (12, 6, 0) (v7).toNat) v3 (fun r69 σ68 => ((w r69 ≠ 1000000 → 0 ≤ v7 ∧ v7 < 6 ∧ 0 ≤ v7 ∧ v7 < 6 ∧ ∀ x75 : Int, x75 = (mxI v4 ((mxI (σ68.1 (12, 7, 0) (v7).toNat) (σ68.1 (12, 3, 0) (v7).toNat)) + r69)) → ((w v1 ≤ 0 → ∃ f77 : Nat, P_X5_tryLeg_L153 K rc k kb3 v1 v2 v3 v4 v5 v6 f77 v7 x75 0 σ68) ∧ (0 < w v1 → 0 ≤ (v1 - 1) ∧ (v1 - 1) < 3 ∧ 0 ≤ (σ68.1 (12, 20, 0) ((v1 - 1)).toNat) ∧ (σ68.1 (12, 20, 0) ((v1 - 1)).toNat) < 6 ∧ ((w x75 ≤ w (σ68.1 (12, 4, 0) ((σ68.1 (12, 20, 0) ((v1 - 1)).toNat)).toNat) → ∃ f83 : Nat, P_X5_tryLeg_L153 K rc k kb3 v1 v2 v3 v4 v5 v6 f83 v7 x75 0 σ68) ∧ (w (σ68.1 (12, 4, 0) ((σ68.1 (12, 20, 0) ((v1 - 1)).toNat)).toNat) < w x75 → ∀ x84 : Int, x84 = v7 + 1 → kb3 x84 σ68))))) ∧ (w r69 = 1000000 → ∀ x85 : Int, x85 = v7 + 1 → kb3 x85 σ68)))) ∧ (w r64 = 0 → ∀ x86 : Int, x86 = v7 + 1 → kb3 x86 σ63)))))) ∧ (w v9 < w v1 → ((w v8 = 0 → ∀ x88 : Int, x88 = v9 + 1 → (P_X5_tryLeg_L18 K rc k kb3 v1 v2 v3 v4 v5 v6 n) v7 0 x88 σ) ∧ (w v8 ≠ 0 → 0 ≤ v9 ∧ v9 < 3 ∧ ((w (σ.1 (12, 20, 0) (v9).toNat) = w v7 → ∀ x92 : Int, x92 = v9 + 1 → (P_X5_tryLeg_L18 K rc k kb3 v1 v2 v3 v4 v5 v6 n) v7 0 x92 σ) ∧ (w (σ.1 (12, 20, 0) (v9).toNat) ≠ w v7 → ∀ x93 : Int, x93 = v9 + 1 → (P_X5_tryLeg_L18 K rc k kb3 v1 v2 v3 v4 v5 v6 n) v7 1 x93 σ))))))
def P_X5_tryLeg_L3 (K : List nKey) (rc : nS → Int → Int → Int → Int → Int → Int → (nS → Prop) → Prop) (k : nS → Prop) (v1 : Int) (v2 : Int) (v3 : Int) (v4 : Int) (v5 : Int) (v6 : Int) : Nat → Int → nS → Prop
  | 0 => fun _ _ => False
  | n + 1 => fun v7 σ =>
    ((w (σ.1 (11, 0, 0) 12) ≤ w v7 → k σ) ∧ (w v7 < w (σ.1 (11, 0, 0) 12) → ∃ f95 : Nat, P_X5_tryLeg_L18 K rc k (P_X5_tryLeg_L3 K rc k v1 v2 v3 v4 v5 v6 n) v1 v2 v3 v4 v5 v6 f95 v7 1 0 σ))
def P_X5_tryLeg (K : List nKey) (rc : nS → Int → Int → Int → Int → Int → Int → (nS → Prop) → Prop) (σ : nS) (v1 : Int) (v2 : Int) (v3 : Int) (v4 : Int) (v5 : Int) (v6 : Int) (k : nS → Prop) : Prop :=
  ∃ f96 : Nat, P_X5_tryLeg_L3 K rc k v1 v2 v3 v4 v5 v6 f96 0 σ
def P_X5_tryLegD (K : List nKey) : Nat → nS → Int → Int → Int → Int → Int → Int → (nS → Prop) → Prop
  | 0 => fun _ _ _ _ _ _ _ _ => False
  | d + 1 => P_X5_tryLeg K (P_X5_tryLegD K d)
def rmX5_tryLeg (d : Nat) : Room := { frames := 2 + d, cells := 0, slots := 0, locals := 28 + 33 * d }
set_option maxHeartbeats 4000000 in
set_option maxRecDepth 100000 in
theorem w_X5_tryLeg {l : Launch} {D : va_G} {ca : Nat → ClassId} {K : List nKey} {ad : nKey → Nat} {σ : nS} {sz : Nat} (hKC : KC K) {v1 : Int} {v2 : Int} {v3 : Int} {v4 : Int} {v5 : Int} {v6 : Int} {rc : nS → Int → Int → Int → Int → Int → Int → (nS → Prop) → Prop} {d : Nat} (hrc : ∀ (σ : nS) (v1 : Int) (v2 : Int) (v3 : Int) (v4 : Int) (v5 : Int) (v6 : Int) (k : nS → Prop) (sz : Nat), rc σ v1 v2 v3 v4 v5 v6 k → Met l yX5_tryLeg (Cond.code yX5_tryLeg cX5_tryLeg 14 none :: UW) (rmX5_tryLeg d) (ZP D ca [.ref (ad (11, 0, 0)), .int (iN v1), .int (iN v2), .int (iN v3), .int (iN v4), .int (iN v5), .int (iN v6)] (ZB D K ad ca σ sz)) (ZQv D K ad ca sz k) 0 0 (FA K ad sz)) {k : nS → Prop} (hp : P_X5_tryLeg K rc σ v1 v2 v3 v4 v5 v6 k) : Met l yX5_tryLeg (Cond.code yX5_tryLeg cX5_tryLeg 14 none :: UW) (rmX5_tryLeg (d + 1)) (ZP D ca [.ref (ad (11, 0, 0)), .int (iN v1), .int (iN v2), .int (iN v3), .int (iN v4), .int (iN v5), .int (iN v6)] (ZB D K ad ca σ sz)) (ZQv D K ad ca sz k) 0 0 (FA K ad sz) := by
  refine z_start (cc := cX5_tryLeg) (maxL := 14) (ret := none) (own := RX5) (K := K) (ad := ad) (σ := σ) (Qc := fun sz => ZQv D K ad ca sz k) (by decide) rfl (Nat.le_of_ble_eq_true rfl) ?_
  intro p e s m args below meth c M hr hlocks hW ls hl
  have hS : va_S (FA K ad s.heap.size) s.heap s.heap [] := va_S.rf
  have hA : ∀ q : Nat, s.heap.size ≤ q → FA K ad s.heap.size q := fun q h => Or.inr h
  replace hl : lv_has ls 14 [(0, .ref (ad (11, 0, 0))), (1, .int (iN v1)), (2, .int (iN v2)), (3, .int (iN v3)), (4, .int (iN v4)), (5, .int (iN v5)), (6, .int (iN v6))] := hl
  unfold P_X5_tryLeg at hp
  have hL3 : ∀ (f3 : Nat) (v7 : Int) (σ : nS) (H : Heap) (locs : List Loc) (ls : Array Slot), P_X5_tryLeg_L3 K rc k v1 v2 v3 v4 v5 v6 f3 v7 σ → XW D (FA K ad s.heap.size) K ad (cR ca ad σ) H → va_S (FA K ad s.heap.size) s.heap H locs → lv_has ls 14 [(0, .ref (ad (11, 0, 0))), (1, .int (iN v1)), (2, .int (iN v2)), (3, .int (iN v3)), (4, .int (iN v4)), (5, .int (iN v5)), (6, .int (iN v6)), (7, .int (iN v7))] → W p l e (rmX5_tryLeg (d + 1)) s m args below meth c H locs 0 0 (MQ below (ZQv D K ad ca s.heap.size k) args s 0 0 (FA K ad s.heap.size)) (F0 m 3 ls []) := by
    intro f3
    induction f3 with
    | zero =>
      intro v7 σ H locs ls  hp
      exact hp.elim
    | succ f3 ih3 =>
      intro v7 σ H locs ls  hp hW hS hl
      have hL153 : ∀ (f153 : Nat) (v7 : Int) (v10 : Int) (v11 : Int) (σ : nS) (H : Heap) (locs : List Loc) (ls : Array Slot), P_X5_tryLeg_L153 K rc k (P_X5_tryLeg_L3 K rc k v1 v2 v3 v4 v5 v6 f3) v1 v2 v3 v4 v5 v6 f153 v7 v10 v11 σ → XW D (FA K ad s.heap.size) K ad (cR ca ad σ) H → va_S (FA K ad s.heap.size) s.heap H locs → lv_has ls 14 [(0, .ref (ad (11, 0, 0))), (1, .int (iN v1)), (2, .int (iN v2)), (3, .int (iN v3)), (4, .int (iN v4)), (5, .int (iN v5)), (6, .int (iN v6)), (7, .int (iN v7)), (10, .int (iN v10)), (11, .int (iN v11))] → W p l e (rmX5_tryLeg (d + 1)) s m args below meth c H locs 0 0 (MQ below (ZQv D K ad ca s.heap.size k) args s 0 0 (FA K ad s.heap.size)) (F0 m 153 ls []) := by
        intro f153
        induction f153 with
        | zero =>
          intro v7 v10 v11 σ H locs ls  hp
          exact hp.elim
        | succ f153 ih153 =>
          intro v7 v10 v11 σ H locs ls  hp hW hS hl
          have hL316 : ∀ (f316 : Nat) (v7 : Int) (v10 : Int) (v11 : Int) (v13 : Int) (σ : nS) (H : Heap) (locs : List Loc) (ls : Array Slot), P_X5_tryLeg_L316 K rc k (P_X5_tryLeg_L3 K rc k v1 v2 v3 v4 v5 v6 f3) (P_X5_tryLeg_L153 K rc k (P_X5_tryLeg_L3 K rc k v1 v2 v3 v4 v5 v6 f3) v1 v2 v3 v4 v5 v6 f153) v1 v2 v3 v4 v5 v6 f316 v7 v10 v11 v13 σ → XW D (FA K ad s.heap.size) K ad (cR ca ad σ) H → va_S (FA K ad s.heap.size) s.heap H locs → lv_has ls 14 [(0, .ref (ad (11, 0, 0))), (1, .int (iN v1)), (2, .int (iN v2)), (3, .int (iN v3)), (4, .int (iN v4)), (5, .int (iN v5)), (6, .int (iN v6)), (7, .int (iN v7)), (10, .int (iN v10)), (11, .int (iN v11)), (13, .int (iN v13))] → W p l e (rmX5_tryLeg (d + 1)) s m args below meth c H locs 0 0 (MQ below (ZQv D K ad ca s.heap.size k) args s 0 0 (FA K ad s.heap.size)) (F0 m 316 ls []) := by
            intro f316
            induction f316 with
            | zero =>
              intro v7 v10 v11 v13 σ H locs ls  hp
              exact hp.elim
            | succ f316 ih316 =>
              intro v7 v10 v11 v13 σ H locs ls  hp hW hS hl
              refine z_il M dX5_tryLeg_316 hl 10 rfl ?_
              refine z_il_n M dX5_tryLeg_318 rfl hl 1 rfl ?_
              refine zw_gt M (tgt := 384) dX5_tryLeg_319 (by decide) rfl rfl (fun c1 => ?_) (fun c1 => ?_)
              · have hp := hp.1 c1
                obtain ⟨x2, ex2⟩ : ∃ z : Int, z = v11 + 1 := ⟨_, rfl⟩
                have hp := hp x2 ex2
                refine z_inc M [(11, .int (iN x2)), (0, .ref (ad (11, 0, 0))), (1, .int (iN v1)), (2, .int (iN v2)), (3, .int (iN v3)), (4, .int (iN v4)), (5, .int (iN v5)), (6, .int (iN v6)), (7, .int (iN v7)), (10, .int (iN v10)), (13, .int (iN v13))] x2 dX5_tryLeg_384 hl 9 rfl ex2.symm (by decide) rfl (fun ls hl => ?_)
                refine zg M (tgt := 153) dX5_tryLeg_387 (by decide) ?_
                exact ih153 v7 v10 x2 σ _ _ _  hp hW hS (lv_sub hl [1, 2, 3, 4, 5, 6, 7, 8, 9, 0] rfl)
              · have hp := hp.2 c1
                refine z_al_n M dX5_tryLeg_322 rfl hl 0 rfl ?_
                refine zg_X5_30 M u_hin5 hW hKC.k11 (M.hts _ u_fl_X5_90) dX5_tryLeg_323 ?_
                refine z_il M dX5_tryLeg_326 hl 10 rfl ?_
                refine z_al_n M dX5_tryLeg_328 rfl hl 0 rfl ?_
                refine zg_X5_26 M u_hin5 hW hKC.k11 (M.hts _ u_fl_X5_78) dX5_tryLeg_329 ?_
                refine z_il M dX5_tryLeg_332 hl 10 rfl ?_
                obtain ⟨h3, h4, hp⟩ := hp
                refine za_i (n := 3) M hW (hKC.k12 (by decide)) (fun _ _ => rfl) h3 h4 (by decide) dX5_tryLeg_334 ?_
                obtain ⟨h6, h7, hp⟩ := hp
                obtain ⟨σ5, eσ5⟩ : ∃ z : nS, z = s1 σ (12, 24, 0) (v13).toNat (σ.1 (12, 20, 0) (v13).toNat) := ⟨_, rfl⟩
                have hp := hp σ5 eσ5
                refine zs_i (n := 3) M hW hS (hKC.k12 (by decide)) (fun _ _ => rfl) h6 h7 (by decide) dX5_tryLeg_335 (fun H locs hW hS => ?_)
                rw [← eσ5] at hW
                refine z_al_n M dX5_tryLeg_336 rfl hl 0 rfl ?_
                refine zg_X5_31 M u_hin5 hW hKC.k11 (M.hts _ u_fl_X5_93) dX5_tryLeg_337 ?_
                refine z_il M dX5_tryLeg_340 hl 10 rfl ?_
                refine z_al_n M dX5_tryLeg_342 rfl hl 0 rfl ?_
                refine zg_X5_27 M u_hin5 hW hKC.k11 (M.hts _ u_fl_X5_81) dX5_tryLeg_343 ?_
                refine z_il M dX5_tryLeg_346 hl 10 rfl ?_
                obtain ⟨h8, h9, hp⟩ := hp
                refine za_i (n := 3) M hW (hKC.k12 (by decide)) (fun _ _ => rfl) h8 h9 (by decide) dX5_tryLeg_348 ?_
                obtain ⟨h11, h12, hp⟩ := hp
                obtain ⟨σ10, eσ10⟩ : ∃ z : nS, z = s1 σ5 (12, 25, 0) (v13).toNat (σ5.1 (12, 21, 0) (v13).toNat) := ⟨_, rfl⟩
                have hp := hp σ10 eσ10
                refine zs_i (n := 3) M hW hS (hKC.k12 (by decide)) (fun _ _ => rfl) h11 h12 (by decide) dX5_tryLeg_349 (fun H locs hW hS => ?_)
                rw [← eσ10] at hW
                refine z_al_n M dX5_tryLeg_350 rfl hl 0 rfl ?_
                refine zg_X5_32 M u_hin5 hW hKC.k11 (M.hts _ u_fl_X5_96) dX5_tryLeg_351 ?_
                refine z_il M dX5_tryLeg_354 hl 10 rfl ?_
                refine z_al_n M dX5_tryLeg_356 rfl hl 0 rfl ?_
                refine zg_X5_28 M u_hin5 hW hKC.k11 (M.hts _ u_fl_X5_84) dX5_tryLeg_357 ?_
                refine z_il M dX5_tryLeg_360 hl 10 rfl ?_
                obtain ⟨h13, h14, hp⟩ := hp
                refine za_i (n := 3) M hW (hKC.k12 (by decide)) (fun _ _ => rfl) h13 h14 (by decide) dX5_tryLeg_362 ?_
                obtain ⟨h16, h17, hp⟩ := hp
                obtain ⟨σ15, eσ15⟩ : ∃ z : nS, z = s1 σ10 (12, 26, 0) (v13).toNat (σ10.1 (12, 22, 0) (v13).toNat) := ⟨_, rfl⟩
                have hp := hp σ15 eσ15
                refine zs_i (n := 3) M hW hS (hKC.k12 (by decide)) (fun _ _ => rfl) h16 h17 (by decide) dX5_tryLeg_363 (fun H locs hW hS => ?_)
                rw [← eσ15] at hW
                refine z_al_n M dX5_tryLeg_364 rfl hl 0 rfl ?_
                refine zg_X5_33 M u_hin5 hW hKC.k11 (M.hts _ u_fl_X5_99) dX5_tryLeg_365 ?_
                refine z_il M dX5_tryLeg_368 hl 10 rfl ?_
                refine z_al_n M dX5_tryLeg_370 rfl hl 0 rfl ?_
                refine zg_X5_29 M u_hin5 hW hKC.k11 (M.hts _ u_fl_X5_87) dX5_tryLeg_371 ?_
                refine z_il M dX5_tryLeg_374 hl 10 rfl ?_
                obtain ⟨h18, h19, hp⟩ := hp
                refine za_i (n := 3) M hW (hKC.k12 (by decide)) (fun _ _ => rfl) h18 h19 (by decide) dX5_tryLeg_376 ?_
                obtain ⟨h21, h22, hp⟩ := hp
                obtain ⟨σ20, eσ20⟩ : ∃ z : nS, z = s1 σ15 (12, 27, 0) (v13).toNat (σ15.1 (12, 23, 0) (v13).toNat) := ⟨_, rfl⟩
                have hp := hp σ20 eσ20
                refine zs_i (n := 3) M hW hS (hKC.k12 (by decide)) (fun _ _ => rfl) h21 h22 (by decide) dX5_tryLeg_377 (fun H locs hW hS => ?_)
                rw [← eσ20] at hW
                obtain ⟨x23, ex23⟩ : ∃ z : Int, z = v13 + 1 := ⟨_, rfl⟩
                have hp := hp x23 ex23
                refine z_inc M [(13, .int (iN x23)), (0, .ref (ad (11, 0, 0))), (1, .int (iN v1)), (2, .int (iN v2)), (3, .int (iN v3)), (4, .int (iN v4)), (5, .int (iN v5)), (6, .int (iN v6)), (7, .int (iN v7)), (10, .int (iN v10)), (11, .int (iN v11))] x23 dX5_tryLeg_378 hl 10 rfl ex23.symm (by decide) rfl (fun ls hl => ?_)
                refine zg M (tgt := 316) dX5_tryLeg_381 (by decide) ?_
                exact ih316 v7 v10 v11 x23 σ20 _ _ _  hp hW hS (lv_sub hl [1, 2, 3, 4, 5, 6, 7, 8, 9, 10, 0] rfl)
          have hL188 : ∀ (v7 : Int) (v10 : Int) (v11 : Int) (σ : nS) (H : Heap) (locs : List Loc) (ls : Array Slot), P_X5_tryLeg_L188 K rc k (P_X5_tryLeg_L3 K rc k v1 v2 v3 v4 v5 v6 f3) (P_X5_tryLeg_L153 K rc k (P_X5_tryLeg_L3 K rc k v1 v2 v3 v4 v5 v6 f3) v1 v2 v3 v4 v5 v6 f153) v1 v2 v3 v4 v5 v6 v7 v10 v11 σ → XW D (FA K ad s.heap.size) K ad (cR ca ad σ) H → va_S (FA K ad s.heap.size) s.heap H locs → lv_has ls 14 [(0, .ref (ad (11, 0, 0))), (1, .int (iN v1)), (2, .int (iN v2)), (3, .int (iN v3)), (4, .int (iN v4)), (5, .int (iN v5)), (6, .int (iN v6)), (7, .int (iN v7)), (10, .int (iN v10)), (11, .int (iN v11))] → W p l e (rmX5_tryLeg (d + 1)) s m args below meth c H locs 0 0 (MQ below (ZQv D K ad ca s.heap.size k) args s 0 0 (FA K ad s.heap.size)) (F0 m 188 ls []) := by
            intro v7 v10 v11 σ H locs ls  hp hW hS hl
            refine z_al_n M dX5_tryLeg_188 rfl hl 0 rfl ?_
            refine z_il M dX5_tryLeg_189 hl 7 rfl ?_
            refine z_il_n M dX5_tryLeg_191 rfl hl 3 rfl ?_
            refine z_il M dX5_tryLeg_192 hl 9 rfl ?_
            have hfa := hW.fa hS hA
            refine zc_VU (As := [.int (iN v7), .int (iN v3), .int (iN v11)]) (rest := []) M (w_X5_wayOf hKC  hp) (cuV M 3 u_co_X5_wayOf u_ml_X5_126 u_ini_X5 u_in_X5_wayOf u_se_X5_wayOf (by decide +kernel) rfl rfl ⟨(by simp only [rmX5_tryLeg, rmX5_wayOf]; omega), (by simp only [rmX5_tryLeg, rmX5_wayOf]; omega)⟩) (z_recv M hW hKC.k11 rfl rfl) ⟨rfl, hW.weaken (fun _ _ => trivial)⟩ rfl hl rfl (Nat.le_of_ble_eq_true rfl) ⟨Nat.zero_le _, Nat.zero_le _⟩ dX5_tryLeg_194 hS hfa (fun u H locs hw _ _ hS => ?_)
            obtain ⟨r25, σ24⟩ := u
            obtain ⟨hp, hW2⟩ := hw
            have hW := hW2.weaken hfa
            try dsimp only at hp
            refine z_is M [(12, .int (iN r25)), (0, .ref (ad (11, 0, 0))), (1, .int (iN v1)), (2, .int (iN v2)), (3, .int (iN v3)), (4, .int (iN v4)), (5, .int (iN v5)), (6, .int (iN v6)), (7, .int (iN v7)), (10, .int (iN v10)), (11, .int (iN v11))] dX5_tryLeg_197 hl (by decide) rfl (fun ls hl => ?_)
            refine z_il M dX5_tryLeg_199 hl 0 rfl ?_
            refine zi_ldc M 1000000 (M.hts _ u_k_X5_122) dX5_tryLeg_201 ?_
            refine zw_eq M (tgt := 384) dX5_tryLeg_203 (by decide) rfl (w_of ⟨by decide, by decide⟩) (fun c26 => ?_) (fun c26 => ?_)
            · have hp := hp.1 c26
              obtain ⟨x27, ex27⟩ : ∃ z : Int, z = v11 + 1 := ⟨_, rfl⟩
              have hp := hp x27 ex27
              refine z_inc M [(11, .int (iN x27)), (12, .int (iN r25)), (0, .ref (ad (11, 0, 0))), (1, .int (iN v1)), (2, .int (iN v2)), (3, .int (iN v3)), (4, .int (iN v4)), (5, .int (iN v5)), (6, .int (iN v6)), (7, .int (iN v7)), (10, .int (iN v10))] x27 dX5_tryLeg_384 hl 10 rfl ex27.symm (by decide) rfl (fun ls hl => ?_)
              refine zg M (tgt := 153) dX5_tryLeg_387 (by decide) ?_
              exact ih153 v7 v10 x27 σ24 _ _ _  hp hW hS (lv_sub hl [2, 3, 4, 5, 6, 7, 8, 9, 10, 0] rfl)
            · have hp := hp.2 c26
              refine z_il M dX5_tryLeg_206 hl 9 rfl ?_
              refine z_il M dX5_tryLeg_208 hl 0 rfl ?_
              refine zi_add M dX5_tryLeg_210 ?_
              refine z_al_n M dX5_tryLeg_211 rfl hl 1 rfl ?_
              refine zg_X5_5 M u_hin5 hW hKC.k11 (M.hts _ u_fl_X5_22) dX5_tryLeg_212 ?_
              refine z_il M dX5_tryLeg_215 hl 8 rfl ?_
              obtain ⟨h28, h29, hp⟩ := hp
              refine za_i (n := 6) M hW (hKC.k12 (by decide)) (fun _ _ => rfl) h28 h29 (by decide) dX5_tryLeg_217 ?_
              refine zw_le M (tgt := 224) dX5_tryLeg_218 (by decide) rfl rfl (fun c30 => ?_) (fun c30 => ?_)
              · have hp := hp.1 c30
                refine z_al_n M dX5_tryLeg_224 rfl hl 1 rfl ?_
                refine zg_X5_26 M u_hin5 hW hKC.k11 (M.hts _ u_fl_X5_78) dX5_tryLeg_225 ?_
                refine z_il_n M dX5_tryLeg_228 rfl hl 2 rfl ?_
                refine z_il M dX5_tryLeg_229 hl 8 rfl ?_
                obtain ⟨h32, h33, hp⟩ := hp
                obtain ⟨σ31, eσ31⟩ : ∃ z : nS, z = s1 σ24 (12, 20, 0) (v1).toNat v7 := ⟨_, rfl⟩
                have hp := hp σ31 eσ31
                refine zs_i (n := 3) M hW hS (hKC.k12 (by decide)) (fun _ _ => rfl) h32 h33 (by decide) dX5_tryLeg_231 (fun H locs hW hS => ?_)
                rw [← eσ31] at hW
                refine z_al_n M dX5_tryLeg_232 rfl hl 1 rfl ?_
                refine zg_X5_27 M u_hin5 hW hKC.k11 (M.hts _ u_fl_X5_81) dX5_tryLeg_233 ?_
                refine z_il_n M dX5_tryLeg_236 rfl hl 2 rfl ?_
                refine z_il M dX5_tryLeg_237 hl 10 rfl ?_
                obtain ⟨h35, h36, hp⟩ := hp
                obtain ⟨σ34, eσ34⟩ : ∃ z : nS, z = s1 σ31 (12, 21, 0) (v1).toNat v11 := ⟨_, rfl⟩
                have hp := hp σ34 eσ34
                refine zs_i (n := 3) M hW hS (hKC.k12 (by decide)) (fun _ _ => rfl) h35 h36 (by decide) dX5_tryLeg_239 (fun H locs hW hS => ?_)
                rw [← eσ34] at hW
                refine z_al_n M dX5_tryLeg_240 rfl hl 1 rfl ?_
                refine zg_X5_28 M u_hin5 hW hKC.k11 (M.hts _ u_fl_X5_84) dX5_tryLeg_241 ?_
                refine z_il_n M dX5_tryLeg_244 rfl hl 2 rfl ?_
                refine z_il M dX5_tryLeg_245 hl 9 rfl ?_
                obtain ⟨h38, h39, hp⟩ := hp
                obtain ⟨σ37, eσ37⟩ : ∃ z : nS, z = s1 σ34 (12, 22, 0) (v1).toNat v10 := ⟨_, rfl⟩
                have hp := hp σ37 eσ37
                refine zs_i (n := 3) M hW hS (hKC.k12 (by decide)) (fun _ _ => rfl) h38 h39 (by decide) dX5_tryLeg_247 (fun H locs hW hS => ?_)
                rw [← eσ37] at hW
                refine z_al_n M dX5_tryLeg_248 rfl hl 1 rfl ?_
                refine zg_X5_29 M u_hin5 hW hKC.k11 (M.hts _ u_fl_X5_87) dX5_tryLeg_249 ?_
                refine z_il_n M dX5_tryLeg_252 rfl hl 2 rfl ?_
                refine z_il M dX5_tryLeg_253 hl 9 rfl ?_
                refine z_il M dX5_tryLeg_255 hl 0 rfl ?_
                refine zi_add M dX5_tryLeg_257 ?_
                obtain ⟨h41, h42, hp⟩ := hp
                obtain ⟨σ40, eσ40⟩ : ∃ z : nS, z = s1 σ37 (12, 23, 0) (v1).toNat (v10 + r25) := ⟨_, rfl⟩
                have hp := hp σ40 eσ40
                refine zs_i (n := 3) M hW hS (hKC.k12 (by decide)) (fun _ _ => rfl) h41 h42 (by decide) dX5_tryLeg_258 (fun H locs hW hS => ?_)
                rw [← eσ40] at hW
                refine z_il M dX5_tryLeg_259 hl 10 rfl ?_
                refine z_il M dX5_tryLeg_261 hl 6 rfl ?_
                refine zw_eq M (tgt := 293) dX5_tryLeg_263 (by decide) rfl rfl (fun c43 => ?_) (fun c43 => ?_)
                · have hp := hp.1 c43
                  refine z_al_n M dX5_tryLeg_293 rfl hl 1 rfl ?_
                  refine z_il_n M dX5_tryLeg_294 rfl hl 2 rfl ?_
                  refine zi_const M 1 dX5_tryLeg_295 rfl ?_
                  refine zi_add M dX5_tryLeg_296 ?_
                  have hfa := hW.fa hS hA
                  refine zc_VU (As := [.int (iN (v1 + 1))]) (rest := []) M (w_X5_isBetter hKC  hp) (cuV M 1 u_co_X5_isBetter u_ml_X5_154 u_ini_X5 u_in_X5_isBetter u_se_X5_isBetter (by decide +kernel) rfl rfl ⟨(by simp only [rmX5_tryLeg, rmX5_isBetter]; omega), (by simp only [rmX5_tryLeg, rmX5_isBetter]; omega)⟩) (z_recv M hW hKC.k11 rfl rfl) ⟨rfl, hW.weaken (fun _ _ => trivial)⟩ rfl hl rfl (Nat.le_of_ble_eq_true rfl) ⟨Nat.zero_le _, Nat.zero_le _⟩ dX5_tryLeg_297 hS hfa (fun u H locs hw _ _ hS => ?_)
                  obtain ⟨r45, σ44⟩ := u
                  obtain ⟨hp, hW2⟩ := hw
                  have hW := hW2.weaken hfa
                  try dsimp only at hp
                  refine zv_ne M (tgt := 306) dX5_tryLeg_300 (by decide) rfl (fun c46 => ?_) (fun c46 => ?_)
                  · have hp := hp.1 c46
                    refine z_al_n M dX5_tryLeg_306 rfl hl 1 rfl ?_
                    refine z_il_n M dX5_tryLeg_307 rfl hl 2 rfl ?_
                    refine zi_const M 1 dX5_tryLeg_308 rfl ?_
                    refine zi_add M dX5_tryLeg_309 ?_
                    obtain ⟨σ47, eσ47⟩ : ∃ z : nS, z = s1 σ44 (11, 0, 0) 34 (v1 + 1) := ⟨_, rfl⟩
                    have hp := hp σ47 eσ47
                    refine zp_X5_34 (v := (v1 + 1)) M u_hin5 hW hS hKC.k11 (M.hts _ u_fl_X5_142) dX5_tryLeg_310 (fun H locs hW hS => ?_)
                    rw [← eσ47] at hW
                    refine zi_const M 0 dX5_tryLeg_313 rfl ?_
                    refine z_is M [(13, .int (iN 0)), (12, .int (iN r25)), (0, .ref (ad (11, 0, 0))), (1, .int (iN v1)), (2, .int (iN v2)), (3, .int (iN v3)), (4, .int (iN v4)), (5, .int (iN v5)), (6, .int (iN v6)), (7, .int (iN v7)), (10, .int (iN v10)), (11, .int (iN v11))] dX5_tryLeg_314 hl (by decide) rfl (fun ls hl => ?_)
                    obtain ⟨f48, hp⟩ := hp
                    exact hL316 f48 v7 v10 v11 0 σ47 _ _ _  hp hW hS (lv_sub hl [2, 3, 4, 5, 6, 7, 8, 9, 10, 11, 0] rfl)
                  · have hp := hp.2 c46
                    refine zg M (tgt := 384) dX5_tryLeg_303 (by decide) ?_
                    obtain ⟨x49, ex49⟩ : ∃ z : Int, z = v11 + 1 := ⟨_, rfl⟩
                    have hp := hp x49 ex49
                    refine z_inc M [(11, .int (iN x49)), (12, .int (iN r25)), (0, .ref (ad (11, 0, 0))), (1, .int (iN v1)), (2, .int (iN v2)), (3, .int (iN v3)), (4, .int (iN v4)), (5, .int (iN v5)), (6, .int (iN v6)), (7, .int (iN v7)), (10, .int (iN v10))] x49 dX5_tryLeg_384 hl 10 rfl ex49.symm (by decide) rfl (fun ls hl => ?_)
                    refine zg M (tgt := 153) dX5_tryLeg_387 (by decide) ?_
                    exact ih153 v7 v10 x49 σ44 _ _ _  hp hW hS (lv_sub hl [2, 3, 4, 5, 6, 7, 8, 9, 10, 0] rfl)
                · have hp := hp.2 c43
                  refine z_al_n M dX5_tryLeg_266 rfl hl 1 rfl ?_
                  refine z_il_n M dX5_tryLeg_267 rfl hl 2 rfl ?_
                  refine zi_const M 1 dX5_tryLeg_268 rfl ?_
                  refine zi_add M dX5_tryLeg_269 ?_
                  refine z_il_n M dX5_tryLeg_270 rfl hl 3 rfl ?_
                  refine z_il M dX5_tryLeg_271 hl 10 rfl ?_
                  refine z_il M dX5_tryLeg_273 hl 9 rfl ?_
                  refine z_il M dX5_tryLeg_275 hl 0 rfl ?_
                  refine zi_add M dX5_tryLeg_277 ?_
                  refine z_il M dX5_tryLeg_278 hl 6 rfl ?_
                  refine z_il M dX5_tryLeg_280 hl 7 rfl ?_
                  refine zi_const M 1 dX5_tryLeg_282 rfl ?_
                  refine z_il M dX5_tryLeg_283 hl 10 rfl ?_
                  refine zo_shl M dX5_tryLeg_285 ?_
                  refine zo_or M dX5_tryLeg_286 ?_
                  have hfa := hW.fa hS hA
                  refine zc_VU (As := [.int (iN (v1 + 1)), .int (iN v2), .int (iN v11), .int (iN (v10 + r25)), .int (iN v5), .int (iN (orI v6 (shlI 1 v11)))]) (rest := []) M (hrc σ40 (v1 + 1) v2 v11 (v10 + r25) v5 (orI v6 (shlI 1 v11)) _ _ hp) (cuV M 6 u_co_X5_tryLeg u_ml_X5_150 u_ini_X5 u_in_X5_tryLeg u_se_X5_tryLeg (by decide +kernel) rfl rfl ⟨(by simp only [rmX5_tryLeg]; omega), (by simp only [rmX5_tryLeg]; omega)⟩) (z_recv M hW hKC.k11 rfl rfl) ⟨rfl, hW.weaken (fun _ _ => trivial)⟩ rfl hl rfl (Nat.le_of_ble_eq_true rfl) ⟨Nat.zero_le _, Nat.zero_le _⟩ dX5_tryLeg_287 hS hfa (fun σ50 H locs hw _ _ hS => ?_)
                  obtain ⟨hp, hW2⟩ := hw
                  have hW := hW2.weaken hfa
                  try dsimp only at hp
                  refine zg M (tgt := 384) dX5_tryLeg_290 (by decide) ?_
                  obtain ⟨x51, ex51⟩ : ∃ z : Int, z = v11 + 1 := ⟨_, rfl⟩
                  have hp := hp x51 ex51
                  refine z_inc M [(11, .int (iN x51)), (12, .int (iN r25)), (0, .ref (ad (11, 0, 0))), (1, .int (iN v1)), (2, .int (iN v2)), (3, .int (iN v3)), (4, .int (iN v4)), (5, .int (iN v5)), (6, .int (iN v6)), (7, .int (iN v7)), (10, .int (iN v10))] x51 dX5_tryLeg_384 hl 10 rfl ex51.symm (by decide) rfl (fun ls hl => ?_)
                  refine zg M (tgt := 153) dX5_tryLeg_387 (by decide) ?_
                  exact ih153 v7 v10 x51 σ50 _ _ _  hp hW hS (lv_sub hl [2, 3, 4, 5, 6, 7, 8, 9, 10, 0] rfl)
              · have hp := hp.2 c30
                refine zg M (tgt := 384) dX5_tryLeg_221 (by decide) ?_
                obtain ⟨x52, ex52⟩ : ∃ z : Int, z = v11 + 1 := ⟨_, rfl⟩
                have hp := hp x52 ex52
                refine z_inc M [(11, .int (iN x52)), (12, .int (iN r25)), (0, .ref (ad (11, 0, 0))), (1, .int (iN v1)), (2, .int (iN v2)), (3, .int (iN v3)), (4, .int (iN v4)), (5, .int (iN v5)), (6, .int (iN v6)), (7, .int (iN v7)), (10, .int (iN v10))] x52 dX5_tryLeg_384 hl 10 rfl ex52.symm (by decide) rfl (fun ls hl => ?_)
                refine zg M (tgt := 153) dX5_tryLeg_387 (by decide) ?_
                exact ih153 v7 v10 x52 σ24 _ _ _  hp hW hS (lv_sub hl [2, 3, 4, 5, 6, 7, 8, 9, 10, 0] rfl)
          refine z_il M dX5_tryLeg_153 hl 9 rfl ?_
          refine z_al_n M dX5_tryLeg_155 rfl hl 0 rfl ?_
          refine zg_X5_1 M u_hin5 hW hKC.k11 (M.hts _ u_fl_X5_105) dX5_tryLeg_156 ?_
          refine zw_ge M (tgt := 390) dX5_tryLeg_159 (by decide) rfl rfl (fun c53 => ?_) (fun c53 => ?_)
          · have hp := hp.1 c53
            obtain ⟨x54, ex54⟩ : ∃ z : Int, z = v7 + 1 := ⟨_, rfl⟩
            have hp := hp x54 ex54
            refine z_inc M [(7, .int (iN x54)), (0, .ref (ad (11, 0, 0))), (1, .int (iN v1)), (2, .int (iN v2)), (3, .int (iN v3)), (4, .int (iN v4)), (5, .int (iN v5)), (6, .int (iN v6)), (10, .int (iN v10)), (11, .int (iN v11))] x54 dX5_tryLeg_390 hl 7 rfl ex54.symm (by decide) rfl (fun ls hl => ?_)
            refine zg M (tgt := 3) dX5_tryLeg_393 (by decide) ?_
            exact ih3 x54 σ _ _ _  hp hW hS (lv_sub hl [1, 2, 3, 4, 5, 6, 7, 0] rfl)
          · have hp := hp.2 c53
            refine z_il M dX5_tryLeg_162 hl 6 rfl ?_
            refine z_il M dX5_tryLeg_164 hl 9 rfl ?_
            refine zo_shr M dX5_tryLeg_166 ?_
            refine zi_const M 1 dX5_tryLeg_167 rfl ?_
            refine zo_and M dX5_tryLeg_168 ?_
            refine zi_const M 1 dX5_tryLeg_169 rfl ?_
            refine zw_eq M (tgt := 384) dX5_tryLeg_170 (by decide) rfl (w_of ⟨by decide, by decide⟩) (fun c55 => ?_) (fun c55 => ?_)
            · have hp := hp.1 c55
              obtain ⟨x56, ex56⟩ : ∃ z : Int, z = v11 + 1 := ⟨_, rfl⟩
              have hp := hp x56 ex56
              refine z_inc M [(11, .int (iN x56)), (0, .ref (ad (11, 0, 0))), (1, .int (iN v1)), (2, .int (iN v2)), (3, .int (iN v3)), (4, .int (iN v4)), (5, .int (iN v5)), (6, .int (iN v6)), (7, .int (iN v7)), (10, .int (iN v10))] x56 dX5_tryLeg_384 hl 9 rfl ex56.symm (by decide) rfl (fun ls hl => ?_)
              refine zg M (tgt := 153) dX5_tryLeg_387 (by decide) ?_
              exact ih153 v7 v10 x56 σ _ _ _  hp hW hS (lv_sub hl [1, 2, 3, 4, 5, 6, 7, 8, 9, 0] rfl)
            · have hp := hp.2 c55
              refine z_il M dX5_tryLeg_173 hl 9 rfl ?_
              refine z_il M dX5_tryLeg_175 hl 5 rfl ?_
              refine zw_eq M (tgt := 188) dX5_tryLeg_177 (by decide) rfl rfl (fun c57 => ?_) (fun c57 => ?_)
              · have hp := hp.1 c57
                exact hL188 v7 v10 v11 σ _ _ _  hp hW hS (lv_sub hl [0, 1, 2, 3, 4, 5, 6, 7, 8, 9] rfl)
              · have hp := hp.2 c57
                refine z_il_n M dX5_tryLeg_180 rfl hl 1 rfl ?_
                refine zi_const M 2 dX5_tryLeg_181 rfl ?_
                refine zw_ne M (tgt := 188) dX5_tryLeg_182 (by decide) rfl (w_of ⟨by decide, by decide⟩) (fun c58 => ?_) (fun c58 => ?_)
                · have hp := hp.1 c58
                  exact hL188 v7 v10 v11 σ _ _ _  hp hW hS (lv_sub hl [0, 1, 2, 3, 4, 5, 6, 7, 8, 9] rfl)
                · have hp := hp.2 c58
                  refine zg M (tgt := 384) dX5_tryLeg_185 (by decide) ?_
                  obtain ⟨x59, ex59⟩ : ∃ z : Int, z = v11 + 1 := ⟨_, rfl⟩
                  have hp := hp x59 ex59
                  refine z_inc M [(11, .int (iN x59)), (0, .ref (ad (11, 0, 0))), (1, .int (iN v1)), (2, .int (iN v2)), (3, .int (iN v3)), (4, .int (iN v4)), (5, .int (iN v5)), (6, .int (iN v6)), (7, .int (iN v7)), (10, .int (iN v10))] x59 dX5_tryLeg_384 hl 9 rfl ex59.symm (by decide) rfl (fun ls hl => ?_)
                  refine zg M (tgt := 153) dX5_tryLeg_387 (by decide) ?_
                  exact ih153 v7 v10 x59 σ _ _ _  hp hW hS (lv_sub hl [1, 2, 3, 4, 5, 6, 7, 8, 9, 0] rfl)
      have hL18 : ∀ (f18 : Nat) (v7 : Int) (v8 : Int) (v9 : Int) (σ : nS) (H : Heap) (locs : List Loc) (ls : Array Slot), P_X5_tryLeg_L18 K rc k (P_X5_tryLeg_L3 K rc k v1 v2 v3 v4 v5 v6 f3) v1 v2 v3 v4 v5 v6 f18 v7 v8 v9 σ → XW D (FA K ad s.heap.size) K ad (cR ca ad σ) H → va_S (FA K ad s.heap.size) s.heap H locs → lv_has ls 14 [(0, .ref (ad (11, 0, 0))), (1, .int (iN v1)), (2, .int (iN v2)), (3, .int (iN v3)), (4, .int (iN v4)), (5, .int (iN v5)), (6, .int (iN v6)), (7, .int (iN v7)), (8, .int (iN v8)), (9, .int (iN v9))] → W p l e (rmX5_tryLeg (d + 1)) s m args below meth c H locs 0 0 (MQ below (ZQv D K ad ca s.heap.size k) args s 0 0 (FA K ad s.heap.size)) (F0 m 18 ls []) := by
        intro f18
        induction f18 with
        | zero =>
          intro v7 v8 v9 σ H locs ls  hp
          exact hp.elim
        | succ f18 ih18 =>
          intro v7 v8 v9 σ H locs ls  hp hW hS hl
          refine z_il M dX5_tryLeg_18 hl 9 rfl ?_
          refine z_il_n M dX5_tryLeg_20 rfl hl 1 rfl ?_
          refine zw_ge M (tgt := 54) dX5_tryLeg_21 (by decide) rfl rfl (fun c60 => ?_) (fun c60 => ?_)
          · have hp := hp.1 c60
            refine z_il M dX5_tryLeg_54 hl 8 rfl ?_
            refine zv_eq M (tgt := 390) dX5_tryLeg_56 (by decide) rfl (fun c61 => ?_) (fun c61 => ?_)
            · have hp := hp.1 c61
              obtain ⟨x62, ex62⟩ : ∃ z : Int, z = v7 + 1 := ⟨_, rfl⟩
              have hp := hp x62 ex62
              refine z_inc M [(7, .int (iN x62)), (0, .ref (ad (11, 0, 0))), (1, .int (iN v1)), (2, .int (iN v2)), (3, .int (iN v3)), (4, .int (iN v4)), (5, .int (iN v5)), (6, .int (iN v6)), (8, .int (iN v8)), (9, .int (iN v9))] x62 dX5_tryLeg_390 hl 7 rfl ex62.symm (by decide) rfl (fun ls hl => ?_)
              refine zg M (tgt := 3) dX5_tryLeg_393 (by decide) ?_
              exact ih3 x62 σ _ _ _  hp hW hS (lv_sub hl [1, 2, 3, 4, 5, 6, 7, 0] rfl)
            · have hp := hp.2 c61
              refine z_al_n M dX5_tryLeg_59 rfl hl 0 rfl ?_
              refine z_il M dX5_tryLeg_60 hl 7 rfl ?_
              refine z_il_n M dX5_tryLeg_62 rfl hl 2 rfl ?_
              have hfa := hW.fa hS hA
              refine zc_VU (As := [.int (iN v7), .int (iN v2)]) (rest := []) M (w_X5_mayCarry hKC  hp) (cuV M 2 u_co_X5_mayCarry u_ml_X5_134 u_ini_X5 u_in_X5_mayCarry u_se_X5_mayCarry (by decide +kernel) rfl rfl ⟨(by simp only [rmX5_tryLeg, rmX5_mayCarry]; omega), (by simp only [rmX5_tryLeg, rmX5_mayCarry]; omega)⟩) (z_recv M hW hKC.k11 rfl rfl) ⟨rfl, hW.weaken (fun _ _ => trivial)⟩ rfl hl rfl (Nat.le_of_ble_eq_true rfl) ⟨Nat.zero_le _, Nat.zero_le _⟩ dX5_tryLeg_63 hS hfa (fun u H locs hw _ _ hS => ?_)
              obtain ⟨r64, σ63⟩ := u
              obtain ⟨hp, hW2⟩ := hw
              have hW := hW2.weaken hfa
              try dsimp only at hp
              refine zv_ne M (tgt := 72) dX5_tryLeg_66 (by decide) rfl (fun c65 => ?_) (fun c65 => ?_)
              · have hp := hp.1 c65
                refine z_al_n M dX5_tryLeg_72 rfl hl 0 rfl ?_
                refine z_il M dX5_tryLeg_73 hl 7 rfl ?_
                refine z_al_n M dX5_tryLeg_75 rfl hl 0 rfl ?_
                refine zg_X5_7 M u_hin5 hW hKC.k11 (M.hts _ u_fl_X5_28) dX5_tryLeg_76 ?_
                refine z_il M dX5_tryLeg_79 hl 7 rfl ?_
                obtain ⟨h66, h67, hp⟩ := hp
                refine za_i (n := 6) M hW (hKC.k12 (by decide)) (fun _ _ => rfl) h66 h67 (by decide) dX5_tryLeg_81 ?_
                refine z_il_n M dX5_tryLeg_82 rfl hl 3 rfl ?_
                have hfa := hW.fa hS hA
                refine zc_VU (As := [.int (iN v7), .int (iN (σ63.1 (12, 6, 0) (v7).toNat)), .int (iN v3)]) (rest := []) M (w_X5_wayOf hKC  hp) (cuV M 3 u_co_X5_wayOf u_ml_X5_126 u_ini_X5 u_in_X5_wayOf u_se_X5_wayOf (by decide +kernel) rfl rfl ⟨(by simp only [rmX5_tryLeg, rmX5_wayOf]; omega), (by simp only [rmX5_tryLeg, rmX5_wayOf]; omega)⟩) (z_recv M hW hKC.k11 rfl rfl) ⟨rfl, hW.weaken (fun _ _ => trivial)⟩ rfl hl rfl (Nat.le_of_ble_eq_true rfl) ⟨Nat.zero_le _, Nat.zero_le _⟩ dX5_tryLeg_83 hS hfa (fun u H locs hw _ _ hS => ?_)
                obtain ⟨r69, σ68⟩ := u
                obtain ⟨hp, hW2⟩ := hw
                have hW := hW2.weaken hfa
                try dsimp only at hp
                refine z_is M [(9, .int (iN r69)), (0, .ref (ad (11, 0, 0))), (1, .int (iN v1)), (2, .int (iN v2)), (3, .int (iN v3)), (4, .int (iN v4)), (5, .int (iN v5)), (6, .int (iN v6)), (7, .int (iN v7)), (8, .int (iN v8))] dX5_tryLeg_86 hl (by decide) rfl (fun ls hl => ?_)
                refine z_il M dX5_tryLeg_88 hl 0 rfl ?_
                refine zi_ldc M 1000000 (M.hts _ u_k_X5_122) dX5_tryLeg_90 ?_
                refine zw_ne M (tgt := 98) dX5_tryLeg_92 (by decide) rfl (w_of ⟨by decide, by decide⟩) (fun c70 => ?_) (fun c70 => ?_)
                · have hp := hp.1 c70
                  refine z_il M dX5_tryLeg_98 hl 5 rfl ?_
                  refine z_al_n M dX5_tryLeg_100 rfl hl 1 rfl ?_
                  refine zg_X5_8 M u_hin5 hW hKC.k11 (M.hts _ u_fl_X5_31) dX5_tryLeg_101 ?_
                  refine z_il M dX5_tryLeg_104 hl 8 rfl ?_
                  obtain ⟨h71, h72, hp⟩ := hp
                  refine za_i (n := 6) M hW (hKC.k12 (by decide)) (fun _ _ => rfl) h71 h72 (by decide) dX5_tryLeg_106 ?_
                  refine z_al_n M dX5_tryLeg_107 rfl hl 1 rfl ?_
                  refine zg_X5_4 M u_hin5 hW hKC.k11 (M.hts _ u_fl_X5_19) dX5_tryLeg_108 ?_
                  refine z_il M dX5_tryLeg_111 hl 8 rfl ?_
                  obtain ⟨h73, h74, hp⟩ := hp
                  refine za_i (n := 6) M hW (hKC.k12 (by decide)) (fun _ _ => rfl) h73 h74 (by decide) dX5_tryLeg_113 ?_
                  refine zi_max M hl (M.hts _ u_ml_X5_145) (M.hts _ u_st_max) (M.hts _ u_ini_Math) (M.hts _ u_co_max) (by simp only [rmX5_tryLeg]; omega) (Nat.le_trans (m := 21) (Nat.le_of_ble_eq_true rfl) (by simp only [rmX5_tryLeg]; omega)) (Nat.zero_le _) (Nat.zero_le _) dX5_tryLeg_114 ?_
                  refine z_il M dX5_tryLeg_117 hl 0 rfl ?_
                  refine zi_add M dX5_tryLeg_119 ?_
                  refine zi_max M hl (M.hts _ u_ml_X5_145) (M.hts _ u_st_max) (M.hts _ u_ini_Math) (M.hts _ u_co_max) (by simp only [rmX5_tryLeg]; omega) (Nat.le_trans (m := 21) (Nat.le_of_ble_eq_true rfl) (by simp only [rmX5_tryLeg]; omega)) (Nat.zero_le _) (Nat.zero_le _) dX5_tryLeg_120 ?_
                  refine zi_nm (fun x75 ex75 => ?_)
                  have hp := hp x75 ex75
                  refine z_is M [(10, .int (iN x75)), (9, .int (iN r69)), (0, .ref (ad (11, 0, 0))), (1, .int (iN v1)), (2, .int (iN v2)), (3, .int (iN v3)), (4, .int (iN v4)), (5, .int (iN v5)), (6, .int (iN v6)), (7, .int (iN v7)), (8, .int (iN v8))] dX5_tryLeg_123 hl (by decide) rfl (fun ls hl => ?_)
                  refine z_il_n M dX5_tryLeg_125 rfl hl 3 rfl ?_
                  refine zv_le M (tgt := 150) dX5_tryLeg_126 (by decide) rfl (fun c76 => ?_) (fun c76 => ?_)
                  · have hp := hp.1 c76
                    refine zi_const M 0 dX5_tryLeg_150 rfl ?_
                    refine z_is M [(11, .int (iN 0)), (10, .int (iN x75)), (9, .int (iN r69)), (0, .ref (ad (11, 0, 0))), (1, .int (iN v1)), (2, .int (iN v2)), (3, .int (iN v3)), (4, .int (iN v4)), (5, .int (iN v5)), (6, .int (iN v6)), (7, .int (iN v7)), (8, .int (iN v8))] dX5_tryLeg_151 hl (by decide) rfl (fun ls hl => ?_)
                    obtain ⟨f77, hp⟩ := hp
                    exact hL153 f77 v7 x75 0 σ68 _ _ _  hp hW hS (lv_sub hl [3, 4, 5, 6, 7, 8, 9, 10, 1, 0] rfl)
                  · have hp := hp.2 c76
                    refine z_il M dX5_tryLeg_129 hl 0 rfl ?_
                    refine z_al_n M dX5_tryLeg_131 rfl hl 2 rfl ?_
                    refine zg_X5_5 M u_hin5 hW hKC.k11 (M.hts _ u_fl_X5_22) dX5_tryLeg_132 ?_
                    refine z_al_n M dX5_tryLeg_135 rfl hl 2 rfl ?_
                    refine zg_X5_26 M u_hin5 hW hKC.k11 (M.hts _ u_fl_X5_78) dX5_tryLeg_136 ?_
                    refine z_il_n M dX5_tryLeg_139 rfl hl 3 rfl ?_
                    refine zi_const M 1 dX5_tryLeg_140 rfl ?_
                    refine zi_sub M dX5_tryLeg_141 ?_
                    obtain ⟨h78, h79, hp⟩ := hp
                    refine za_i (n := 3) M hW (hKC.k12 (by decide)) (fun _ _ => rfl) h78 h79 (by decide) dX5_tryLeg_142 ?_
                    obtain ⟨h80, h81, hp⟩ := hp
                    refine za_i (n := 6) M hW (hKC.k12 (by decide)) (fun _ _ => rfl) h80 h81 (by decide) dX5_tryLeg_143 ?_
                    refine zw_le M (tgt := 150) dX5_tryLeg_144 (by decide) rfl rfl (fun c82 => ?_) (fun c82 => ?_)
                    · have hp := hp.1 c82
                      refine zi_const M 0 dX5_tryLeg_150 rfl ?_
                      refine z_is M [(11, .int (iN 0)), (10, .int (iN x75)), (9, .int (iN r69)), (0, .ref (ad (11, 0, 0))), (1, .int (iN v1)), (2, .int (iN v2)), (3, .int (iN v3)), (4, .int (iN v4)), (5, .int (iN v5)), (6, .int (iN v6)), (7, .int (iN v7)), (8, .int (iN v8))] dX5_tryLeg_151 hl (by decide) rfl (fun ls hl => ?_)
                      obtain ⟨f83, hp⟩ := hp
                      exact hL153 f83 v7 x75 0 σ68 _ _ _  hp hW hS (lv_sub hl [3, 4, 5, 6, 7, 8, 9, 10, 1, 0] rfl)
                    · have hp := hp.2 c82
                      refine zg M (tgt := 390) dX5_tryLeg_147 (by decide) ?_
                      obtain ⟨x84, ex84⟩ : ∃ z : Int, z = v7 + 1 := ⟨_, rfl⟩
                      have hp := hp x84 ex84
                      refine z_inc M [(7, .int (iN x84)), (10, .int (iN x75)), (9, .int (iN r69)), (0, .ref (ad (11, 0, 0))), (1, .int (iN v1)), (2, .int (iN v2)), (3, .int (iN v3)), (4, .int (iN v4)), (5, .int (iN v5)), (6, .int (iN v6)), (8, .int (iN v8))] x84 dX5_tryLeg_390 hl 9 rfl ex84.symm (by decide) rfl (fun ls hl => ?_)
                      refine zg M (tgt := 3) dX5_tryLeg_393 (by decide) ?_
                      exact ih3 x84 σ68 _ _ _  hp hW hS (lv_sub hl [3, 4, 5, 6, 7, 8, 9, 0] rfl)
                · have hp := hp.2 c70
                  refine zg M (tgt := 390) dX5_tryLeg_95 (by decide) ?_
                  obtain ⟨x85, ex85⟩ : ∃ z : Int, z = v7 + 1 := ⟨_, rfl⟩
                  have hp := hp x85 ex85
                  refine z_inc M [(7, .int (iN x85)), (9, .int (iN r69)), (0, .ref (ad (11, 0, 0))), (1, .int (iN v1)), (2, .int (iN v2)), (3, .int (iN v3)), (4, .int (iN v4)), (5, .int (iN v5)), (6, .int (iN v6)), (8, .int (iN v8))] x85 dX5_tryLeg_390 hl 8 rfl ex85.symm (by decide) rfl (fun ls hl => ?_)
                  refine zg M (tgt := 3) dX5_tryLeg_393 (by decide) ?_
                  exact ih3 x85 σ68 _ _ _  hp hW hS (lv_sub hl [2, 3, 4, 5, 6, 7, 8, 0] rfl)
              · have hp := hp.2 c65
                refine zg M (tgt := 390) dX5_tryLeg_69 (by decide) ?_
                obtain ⟨x86, ex86⟩ : ∃ z : Int, z = v7 + 1 := ⟨_, rfl⟩
                have hp := hp x86 ex86
                refine z_inc M [(7, .int (iN x86)), (0, .ref (ad (11, 0, 0))), (1, .int (iN v1)), (2, .int (iN v2)), (3, .int (iN v3)), (4, .int (iN v4)), (5, .int (iN v5)), (6, .int (iN v6)), (8, .int (iN v8)), (9, .int (iN v9))] x86 dX5_tryLeg_390 hl 7 rfl ex86.symm (by decide) rfl (fun ls hl => ?_)
                refine zg M (tgt := 3) dX5_tryLeg_393 (by decide) ?_
                exact ih3 x86 σ63 _ _ _  hp hW hS (lv_sub hl [1, 2, 3, 4, 5, 6, 7, 0] rfl)
          · have hp := hp.2 c60
            refine z_il M dX5_tryLeg_24 hl 8 rfl ?_
            refine zv_eq M (tgt := 45) dX5_tryLeg_26 (by decide) rfl (fun c87 => ?_) (fun c87 => ?_)
            · have hp := hp.1 c87
              refine zi_const M 0 dX5_tryLeg_45 rfl ?_
              refine z_is M [(8, .int (iN 0)), (0, .ref (ad (11, 0, 0))), (1, .int (iN v1)), (2, .int (iN v2)), (3, .int (iN v3)), (4, .int (iN v4)), (5, .int (iN v5)), (6, .int (iN v6)), (7, .int (iN v7)), (9, .int (iN v9))] dX5_tryLeg_46 hl (by decide) rfl (fun ls hl => ?_)
              obtain ⟨x88, ex88⟩ : ∃ z : Int, z = v9 + 1 := ⟨_, rfl⟩
              have hp := hp x88 ex88
              refine z_inc M [(9, .int (iN x88)), (8, .int (iN 0)), (0, .ref (ad (11, 0, 0))), (1, .int (iN v1)), (2, .int (iN v2)), (3, .int (iN v3)), (4, .int (iN v4)), (5, .int (iN v5)), (6, .int (iN v6)), (7, .int (iN v7))] x88 dX5_tryLeg_48 hl 9 rfl ex88.symm (by decide) rfl (fun ls hl => ?_)
              refine zg M (tgt := 18) dX5_tryLeg_51 (by decide) ?_
              exact ih18 v7 0 x88 σ _ _ _  hp hW hS (lv_sub hl [2, 3, 4, 5, 6, 7, 8, 9, 1, 0] rfl)
            · have hp := hp.2 c87
              refine z_al_n M dX5_tryLeg_29 rfl hl 0 rfl ?_
              refine zg_X5_26 M u_hin5 hW hKC.k11 (M.hts _ u_fl_X5_78) dX5_tryLeg_30 ?_
              refine z_il M dX5_tryLeg_33 hl 9 rfl ?_
              obtain ⟨h89, h90, hp⟩ := hp
              refine za_i (n := 3) M hW (hKC.k12 (by decide)) (fun _ _ => rfl) h89 h90 (by decide) dX5_tryLeg_35 ?_
              refine z_il M dX5_tryLeg_36 hl 7 rfl ?_
              refine zw_eq M (tgt := 45) dX5_tryLeg_38 (by decide) rfl rfl (fun c91 => ?_) (fun c91 => ?_)
              · have hp := hp.1 c91
                refine zi_const M 0 dX5_tryLeg_45 rfl ?_
                refine z_is M [(8, .int (iN 0)), (0, .ref (ad (11, 0, 0))), (1, .int (iN v1)), (2, .int (iN v2)), (3, .int (iN v3)), (4, .int (iN v4)), (5, .int (iN v5)), (6, .int (iN v6)), (7, .int (iN v7)), (9, .int (iN v9))] dX5_tryLeg_46 hl (by decide) rfl (fun ls hl => ?_)
                obtain ⟨x92, ex92⟩ : ∃ z : Int, z = v9 + 1 := ⟨_, rfl⟩
                have hp := hp x92 ex92
                refine z_inc M [(9, .int (iN x92)), (8, .int (iN 0)), (0, .ref (ad (11, 0, 0))), (1, .int (iN v1)), (2, .int (iN v2)), (3, .int (iN v3)), (4, .int (iN v4)), (5, .int (iN v5)), (6, .int (iN v6)), (7, .int (iN v7))] x92 dX5_tryLeg_48 hl 9 rfl ex92.symm (by decide) rfl (fun ls hl => ?_)
                refine zg M (tgt := 18) dX5_tryLeg_51 (by decide) ?_
                exact ih18 v7 0 x92 σ _ _ _  hp hW hS (lv_sub hl [2, 3, 4, 5, 6, 7, 8, 9, 1, 0] rfl)
              · have hp := hp.2 c91
                refine zi_const M 1 dX5_tryLeg_41 rfl ?_
                refine zg M (tgt := 46) dX5_tryLeg_42 (by decide) ?_
                refine z_is M [(8, .int (iN 1)), (0, .ref (ad (11, 0, 0))), (1, .int (iN v1)), (2, .int (iN v2)), (3, .int (iN v3)), (4, .int (iN v4)), (5, .int (iN v5)), (6, .int (iN v6)), (7, .int (iN v7)), (9, .int (iN v9))] dX5_tryLeg_46 hl (by decide) rfl (fun ls hl => ?_)
                obtain ⟨x93, ex93⟩ : ∃ z : Int, z = v9 + 1 := ⟨_, rfl⟩
                have hp := hp x93 ex93
                refine z_inc M [(9, .int (iN x93)), (8, .int (iN 1)), (0, .ref (ad (11, 0, 0))), (1, .int (iN v1)), (2, .int (iN v2)), (3, .int (iN v3)), (4, .int (iN v4)), (5, .int (iN v5)), (6, .int (iN v6)), (7, .int (iN v7))] x93 dX5_tryLeg_48 hl 9 rfl ex93.symm (by decide) rfl (fun ls hl => ?_)
                refine zg M (tgt := 18) dX5_tryLeg_51 (by decide) ?_
                exact ih18 v7 1 x93 σ _ _ _  hp hW hS (lv_sub hl [2, 3, 4, 5, 6, 7, 8, 9, 1, 0] rfl)
      refine z_il M dX5_tryLeg_3 hl 7 rfl ?_
      refine z_al_n M dX5_tryLeg_5 rfl hl 0 rfl ?_
      refine zg_X5_12 M u_hin5 hW hKC.k11 (M.hts _ u_fl_X5_112) dX5_tryLeg_6 ?_
      refine zw_ge M (tgt := 396) dX5_tryLeg_9 (by decide) rfl rfl (fun c94 => ?_) (fun c94 => ?_)
      · have hp := hp.1 c94
        exact zr_v M hr hlocks σ rfl ⟨hp, hW⟩ hS dX5_tryLeg_396
      · have hp := hp.2 c94
        refine zi_const M 1 dX5_tryLeg_12 rfl ?_
        refine z_is M [(8, .int (iN 1)), (0, .ref (ad (11, 0, 0))), (1, .int (iN v1)), (2, .int (iN v2)), (3, .int (iN v3)), (4, .int (iN v4)), (5, .int (iN v5)), (6, .int (iN v6)), (7, .int (iN v7))] dX5_tryLeg_13 hl (by decide) rfl (fun ls hl => ?_)
        refine zi_const M 0 dX5_tryLeg_15 rfl ?_
        refine z_is M [(9, .int (iN 0)), (8, .int (iN 1)), (0, .ref (ad (11, 0, 0))), (1, .int (iN v1)), (2, .int (iN v2)), (3, .int (iN v3)), (4, .int (iN v4)), (5, .int (iN v5)), (6, .int (iN v6)), (7, .int (iN v7))] dX5_tryLeg_16 hl (by decide) rfl (fun ls hl => ?_)
        obtain ⟨f95, hp⟩ := hp
        exact hL18 f95 v7 1 0 σ _ _ _  hp hW hS (lv_sub hl [2, 3, 4, 5, 6, 7, 8, 9, 1, 0] rfl)
  refine zi_const M 0 dX5_tryLeg_0 rfl ?_
  refine z_is M [(7, .int (iN 0)), (0, .ref (ad (11, 0, 0))), (1, .int (iN v1)), (2, .int (iN v2)), (3, .int (iN v3)), (4, .int (iN v4)), (5, .int (iN v5)), (6, .int (iN v6))] dX5_tryLeg_1 hl (by decide) rfl (fun ls hl => ?_)
  obtain ⟨f96, hp⟩ := hp
  exact hL3 f96 0 σ _ _ _  hp hW hS (lv_sub hl [1, 2, 3, 4, 5, 6, 7, 0] rfl)
theorem w_X5_tryLegD {l : Launch} {D : va_G} {ca : Nat → ClassId} {K : List nKey} {ad : nKey → Nat} (hKC : KC K) : ∀ (d : Nat) (σ : nS) (v1 : Int) (v2 : Int) (v3 : Int) (v4 : Int) (v5 : Int) (v6 : Int) (k : nS → Prop) (sz : Nat), P_X5_tryLegD K d σ v1 v2 v3 v4 v5 v6 k → Met l yX5_tryLeg (Cond.code yX5_tryLeg cX5_tryLeg 14 none :: UW) (rmX5_tryLeg d) (ZP D ca [.ref (ad (11, 0, 0)), .int (iN v1), .int (iN v2), .int (iN v3), .int (iN v4), .int (iN v5), .int (iN v6)] (ZB D K ad ca σ sz)) (ZQv D K ad ca sz k) 0 0 (FA K ad sz) := by
  intro d
  induction d with
  | zero =>
    intro σ v1 v2 v3 v4 v5 v6 k sz hp
    exact hp.elim
  | succ d ih =>
    intro σ v1 v2 v3 v4 v5 v6 k sz hp
    exact w_X5_tryLeg hKC ih hp
def P_X5_findBest (K : List nKey) (σ : nS) (v1 : Int) (v2 : Int) (v3 : Int) (v4 : Int) (k : Int → nS → Prop) : Prop :=
  ∀ σ1 : nS, σ1 = s1 σ (11, 0, 0) 34 0 → P_X5_tryLegD K 3 σ1 0 v1 v2 v3 v4 (shlI 1 v2) (fun σ2 => ((w (σ2.1 (11, 0, 0) 34) ≤ 0 → k 0 σ2) ∧ (0 < w (σ2.1 (11, 0, 0) 34) → k 1 σ2)))
def rmX5_findBest : Room := { frames := 6, cells := 0, slots := 0, locals := 160 }
set_option maxHeartbeats 4000000 in
set_option maxRecDepth 100000 in
theorem w_X5_findBest {l : Launch} {D : va_G} {ca : Nat → ClassId} {K : List nKey} {ad : nKey → Nat} {σ : nS} {sz : Nat} (hKC : KC K) {v1 : Int} {v2 : Int} {v3 : Int} {v4 : Int} {k : Int → nS → Prop} (hp : P_X5_findBest K σ v1 v2 v3 v4 k) : Met l yX5_findBest (Cond.code yX5_findBest cX5_findBest 5 (some .boolean) :: UW) rmX5_findBest (ZP D ca [.ref (ad (11, 0, 0)), .int (iN v1), .int (iN v2), .int (iN v3), .int (iN v4)] (ZB D K ad ca σ sz)) (ZQi D K ad ca sz k) 0 0 (FA K ad sz) := by
  refine z_start (cc := cX5_findBest) (maxL := 5) (ret := (some .boolean)) (own := RX5) (K := K) (ad := ad) (σ := σ) (Qc := fun sz => ZQi D K ad ca sz k) (by decide) rfl (Nat.le_of_ble_eq_true rfl) ?_
  intro p e s m args below meth c M hr hlocks hW ls hl
  have hS : va_S (FA K ad s.heap.size) s.heap s.heap [] := va_S.rf
  have hA : ∀ q : Nat, s.heap.size ≤ q → FA K ad s.heap.size q := fun q h => Or.inr h
  replace hl : lv_has ls 5 [(0, .ref (ad (11, 0, 0))), (1, .int (iN v1)), (2, .int (iN v2)), (3, .int (iN v3)), (4, .int (iN v4))] := hl
  unfold P_X5_findBest at hp
  refine z_al_n M dX5_findBest_0 rfl hl 0 rfl ?_
  refine zi_const M 0 dX5_findBest_1 rfl ?_
  obtain ⟨σ1, eσ1⟩ : ∃ z : nS, z = s1 σ (11, 0, 0) 34 0 := ⟨_, rfl⟩
  have hp := hp σ1 eσ1
  refine zp_X5_34 (v := 0) M u_hin5 hW hS hKC.k11 (M.hts _ u_fl_X5_142) dX5_findBest_2 (fun H locs hW hS => ?_)
  rw [← eσ1] at hW
  refine z_al_n M dX5_findBest_5 rfl hl 0 rfl ?_
  refine zi_const M 0 dX5_findBest_6 rfl ?_
  refine z_il_n M dX5_findBest_7 rfl hl 1 rfl ?_
  refine z_il_n M dX5_findBest_8 rfl hl 2 rfl ?_
  refine z_il_n M dX5_findBest_9 rfl hl 3 rfl ?_
  refine z_il M dX5_findBest_10 hl 4 rfl ?_
  refine zi_const M 1 dX5_findBest_12 rfl ?_
  refine z_il_n M dX5_findBest_13 rfl hl 2 rfl ?_
  refine zo_shl M dX5_findBest_14 ?_
  have hfa := hW.fa hS hA
  refine zc_VU (As := [.int (iN 0), .int (iN v1), .int (iN v2), .int (iN v3), .int (iN v4), .int (iN (shlI 1 v2))]) (rest := []) M (w_X5_tryLegD hKC 3 σ1 0 v1 v2 v3 v4 (shlI 1 v2) _ _  hp) (cuV M 6 u_co_X5_tryLeg u_ml_X5_150 u_ini_X5 u_in_X5_tryLeg u_se_X5_tryLeg (by decide +kernel) rfl rfl ⟨Nat.le_of_ble_eq_true rfl, Nat.le_of_ble_eq_true rfl⟩) (z_recv M hW hKC.k11 rfl rfl) ⟨rfl, hW.weaken (fun _ _ => trivial)⟩ rfl hl rfl (Nat.le_of_ble_eq_true rfl) ⟨Nat.zero_le _, Nat.zero_le _⟩ dX5_findBest_15 hS hfa (fun σ2 H locs hw _ _ hS => ?_)
  obtain ⟨hp, hW2⟩ := hw
  have hW := hW2.weaken hfa
  try dsimp only at hp
  refine z_al_n M dX5_findBest_18 rfl hl 0 rfl ?_
  refine zg_X5_34 M u_hin5 hW hKC.k11 (M.hts _ u_fl_X5_142) dX5_findBest_19 ?_
  refine zv_le M (tgt := 29) dX5_findBest_22 (by decide) rfl (fun c3 => ?_) (fun c3 => ?_)
  · have hp := hp.1 c3
    refine zi_const M 0 dX5_findBest_29 rfl ?_
    exact zr_z M hr hlocks (0, σ2) (by decide) rfl ⟨hp, hW⟩ hS dX5_findBest_30
  · have hp := hp.2 c3
    refine zi_const M 1 dX5_findBest_25 rfl ?_
    refine zg M (tgt := 30) dX5_findBest_26 (by decide) ?_
    exact zr_z M hr hlocks (1, σ2) (by decide) rfl ⟨hp, hW⟩ hS dX5_findBest_30
def P_X5_ride_L5 (K : List nKey) (k : nS → Prop) (v1 : Int) : Nat → Int → Int → nS → Prop
  | 0 => fun _ _ _ => False
  | n + 1 => fun v3 v4 σ =>
    ((w (σ.1 (11, 0, 0) 34) ≤ w v4 → k σ) ∧ (w v4 < w (σ.1 (11, 0, 0) 34) → 0 ≤ v4 ∧ v4 < 3 ∧ ∀ x4 : Int, x4 = (σ.1 (12, 24, 0) (v4).toNat) → 0 ≤ v1 ∧ v1 < 40 ∧ ∀ x7 : Int, x7 = (8 * ((24 * v1) + (σ.1 (12, 18, 0) (v1).toNat))) → 0 ≤ x7 ∧ x7 < 7680 ∧ ∀ σ8 : nS, σ8 = s1 σ (12, 17, 0) (x7).toNat x4 → 0 ≤ (x7 + 1) ∧ (x7 + 1) < 7680 ∧ ∀ σ11 : nS, σ11 = s1 σ8 (12, 17, 0) ((x7 + 1)).toNat v3 → 0 ≤ v4 ∧ v4 < 3 ∧ 0 ≤ (x7 + 2) ∧ (x7 + 2) < 7680 ∧ ∀ σ16 : nS, σ16 = s1 σ11 (12, 17, 0) ((x7 + 2)).toNat (σ11.1 (12, 25, 0) (v4).toNat) → 0 ≤ v4 ∧ v4 < 3 ∧ 0 ≤ (x7 + 3) ∧ (x7 + 3) < 7680 ∧ ∀ σ21 : nS, σ21 = s1 σ16 (12, 17, 0) ((x7 + 3)).toNat (σ16.1 (12, 26, 0) (v4).toNat) → 0 ≤ v4 ∧ v4 < 3 ∧ 0 ≤ (x7 + 4) ∧ (x7 + 4) < 7680 ∧ ∀ σ26 : nS, σ26 = s1 σ21 (12, 17, 0) ((x7 + 4)).toNat (σ21.1 (12, 27, 0) (v4).toNat) → 0 ≤ (x7 + 5) ∧ (x7 + 5) < 7680 ∧ ∀ σ29 : nS, σ29 = s1 σ26 (12, 17, 0) ((x7 + 5)).toNat 0 → 0 ≤ x4 ∧ x4 < 6 ∧ 0 ≤ (x7 + 6) ∧ (x7 + 6) < 7680 ∧ ∀ σ34 : nS, σ34 = s1 σ29 (12, 17, 0) ((x7 + 6)).toNat (σ29.1 (12, 6, 0) (x4).toNat) → 0 ≤ x4 ∧ x4 < 6 ∧ 0 ≤ (x7 + 7) ∧ (x7 + 7) < 7680 ∧ ∀ σ39 : nS, σ39 = s1 σ34 (12, 17, 0) ((x7 + 7)).toNat (σ34.1 (12, 7, 0) (x4).toNat) → 0 ≤ v1 ∧ v1 < 40 ∧ 0 ≤ v1 ∧ v1 < 40 ∧ ∀ σ44 : nS, σ44 = s1 σ39 (12, 18, 0) (v1).toNat ((σ39.1 (12, 18, 0) (v1).toNat) + 1) → 0 ≤ v4 ∧ v4 < 3 ∧ ∀ x49 : Int, x49 = (σ44.1 (12, 25, 0) (v4).toNat) → 0 ≤ x4 ∧ x4 < 6 ∧ ∀ σ50 : nS, σ50 = s1 σ44 (12, 6, 0) (x4).toNat x49 → ((w (σ50.1 (11, 0, 0) 34) ≤ w (v4 + 1) → 0 ≤ v4 ∧ v4 < 3 ∧ 0 ≤ x4 ∧ x4 < 6 ∧ ∀ σ56 : nS, σ56 = s1 σ50 (12, 7, 0) (x4).toNat ((σ50.1 (12, 27, 0) (v4).toNat) + (σ50.1 (11, 0, 0) 13)) → 0 ≤ x4 ∧ x4 < 6 ∧ 0 ≤ x4 ∧ x4 < 6 ∧ ∀ σ61 : nS, σ61 = s1 σ56 (12, 9, 0) (x4).toNat ((σ56.1 (12, 9, 0) (x4).toNat) + 1) → 0 ≤ x4 ∧ x4 < 6 ∧ 0 ≤ v4 ∧ v4 < 3 ∧ 0 ≤ v4 ∧ v4 < 3 ∧ 0 ≤ x4 ∧ x4 < 6 ∧ ∀ σ70 : nS, σ70 = s1 σ61 (12, 10, 0) (x4).toNat ((σ61.1 (12, 10, 0) (x4).toNat) + ((σ61.1 (12, 27, 0) (v4).toNat) - (σ61.1 (12, 26, 0) (v4).toNat))) → ∀ x73 : Int, x73 = v4 + 1 → (P_X5_ride_L5 K k v1 n) x49 x73 σ70) ∧ (w (v4 + 1) < w (σ50.1 (11, 0, 0) 34) → 0 ≤ (v4 + 1) ∧ (v4 + 1) < 3 ∧ 0 ≤ x4 ∧ x4 < 6 ∧ ∀ σ76 : nS, σ76 = s1 σ50 (12, 7, 0) (x4).toNat ((σ50.1 (12, 26, 0) ((v4 + 1)).toNat) + (σ50.1 (11, 0, 0) 13)) → 0 ≤ x4 ∧ x4 < 6 ∧ 0 ≤ x4 ∧ x4 < 6 ∧ ∀ σ81 : nS, σ81 = s1 σ76 (12, 9, 0) (x4).toNat ((σ76.1 (12, 9, 0) (x4).toNat) + 1) → 0 ≤ x4 ∧ x4 < 6 ∧ 0 ≤ v4 ∧ v4 < 3 ∧ 0 ≤ v4 ∧ v4 < 3 ∧ 0 ≤ x4 ∧ x4 < 6 ∧ ∀ σ90 : nS, σ90 = s1 σ81 (12, 10, 0) (x4).toNat ((σ81.1 (12, 10, 0) (x4).toNat) + ((σ81.1 (12, 27, 0) (v4).toNat) - (σ81.1 (12, 26, 0) (v4).toNat))) → ∀ x93 : Int, x93 = v4 + 1 → (P_X5_ride_L5 K k v1 n) x49 x93 σ90))))
def P_X5_ride (K : List nKey) (σ : nS) (v1 : Int) (v2 : Int) (k : nS → Prop) : Prop :=
  ∃ f94 : Nat, P_X5_ride_L5 K k v1 f94 v2 0 σ
def rmX5_ride : Room := { frames := 0, cells := 0, slots := 0, locals := 0 }
set_option maxHeartbeats 4000000 in
set_option maxRecDepth 100000 in
theorem w_X5_ride {l : Launch} {D : va_G} {ca : Nat → ClassId} {K : List nKey} {ad : nKey → Nat} {σ : nS} {sz : Nat} (hKC : KC K) {v1 : Int} {v2 : Int} {k : nS → Prop} (hp : P_X5_ride K σ v1 v2 k) : Met l yX5_ride (Cond.code yX5_ride cX5_ride 7 none :: UW) rmX5_ride (ZP D ca [.ref (ad (11, 0, 0)), .int (iN v1), .int (iN v2)] (ZB D K ad ca σ sz)) (ZQv D K ad ca sz k) 0 0 (FA K ad sz) := by
  refine z_start (cc := cX5_ride) (maxL := 7) (ret := none) (own := RX5) (K := K) (ad := ad) (σ := σ) (Qc := fun sz => ZQv D K ad ca sz k) (by decide) rfl (Nat.le_of_ble_eq_true rfl) ?_
  intro p e s m args below meth c M hr hlocks hW ls hl
  have hS : va_S (FA K ad s.heap.size) s.heap s.heap [] := va_S.rf
  have hA : ∀ q : Nat, s.heap.size ≤ q → FA K ad s.heap.size q := fun q h => Or.inr h
  replace hl : lv_has ls 7 [(0, .ref (ad (11, 0, 0))), (1, .int (iN v1)), (2, .int (iN v2))] := hl
  unfold P_X5_ride at hp
  have hL5 : ∀ (f5 : Nat) (v3 : Int) (v4 : Int) (σ : nS) (H : Heap) (locs : List Loc) (ls : Array Slot), P_X5_ride_L5 K k v1 f5 v3 v4 σ → XW D (FA K ad s.heap.size) K ad (cR ca ad σ) H → va_S (FA K ad s.heap.size) s.heap H locs → lv_has ls 7 [(0, .ref (ad (11, 0, 0))), (1, .int (iN v1)), (3, .int (iN v3)), (4, .int (iN v4))] → W p l e rmX5_ride s m args below meth c H locs 0 0 (MQ below (ZQv D K ad ca s.heap.size k) args s 0 0 (FA K ad s.heap.size)) (F0 m 5 ls []) := by
    intro f5
    induction f5 with
    | zero =>
      intro v3 v4 σ H locs ls  hp
      exact hp.elim
    | succ f5 ih5 =>
      intro v3 v4 σ H locs ls  hp hW hS hl
      refine z_il M dX5_ride_5 hl 3 rfl ?_
      refine z_al_n M dX5_ride_7 rfl hl 0 rfl ?_
      refine zg_X5_34 M u_hin5 hW hKC.k11 (M.hts _ u_fl_X5_142) dX5_ride_8 ?_
      refine zw_ge M (tgt := 260) dX5_ride_11 (by decide) rfl rfl (fun c1 => ?_) (fun c1 => ?_)
      · have hp := hp.1 c1
        exact zr_v M hr hlocks σ rfl ⟨hp, hW⟩ hS dX5_ride_260
      · have hp := hp.2 c1
        refine z_al_n M dX5_ride_14 rfl hl 0 rfl ?_
        refine zg_X5_30 M u_hin5 hW hKC.k11 (M.hts _ u_fl_X5_90) dX5_ride_15 ?_
        refine z_il M dX5_ride_18 hl 3 rfl ?_
        obtain ⟨h2, h3, hp⟩ := hp
        refine za_i (n := 3) M hW (hKC.k12 (by decide)) (fun _ _ => rfl) h2 h3 (by decide) dX5_ride_20 ?_
        refine zi_nm (fun x4 ex4 => ?_)
        have hp := hp x4 ex4
        refine z_is M [(5, .int (iN x4)), (0, .ref (ad (11, 0, 0))), (1, .int (iN v1)), (3, .int (iN v3)), (4, .int (iN v4))] dX5_ride_21 hl (by decide) rfl (fun ls hl => ?_)
        refine zi_bi M 8 dX5_ride_23 (by decide +kernel) ?_
        refine zi_bi M 24 dX5_ride_25 (by decide +kernel) ?_
        refine z_il_n M dX5_ride_27 rfl hl 2 rfl ?_
        refine zi_mul M dX5_ride_28 ?_
        refine z_al_n M dX5_ride_29 rfl hl 1 rfl ?_
        refine zg_X5_23 M u_hin5 hW hKC.k11 (M.hts _ u_fl_X5_72) dX5_ride_30 ?_
        refine z_il_n M dX5_ride_33 rfl hl 2 rfl ?_
        obtain ⟨h5, h6, hp⟩ := hp
        refine za_i (n := 40) M hW (hKC.k12 (by decide)) (fun _ _ => rfl) h5 h6 (by decide) dX5_ride_34 ?_
        refine zi_add M dX5_ride_35 ?_
        refine zi_mul M dX5_ride_36 ?_
        refine zi_nm (fun x7 ex7 => ?_)
        have hp := hp x7 ex7
        refine z_is M [(6, .int (iN x7)), (5, .int (iN x4)), (0, .ref (ad (11, 0, 0))), (1, .int (iN v1)), (3, .int (iN v3)), (4, .int (iN v4))] dX5_ride_37 hl (by decide) rfl (fun ls hl => ?_)
        refine z_al_n M dX5_ride_39 rfl hl 2 rfl ?_
        refine zg_X5_22 M u_hin5 hW hKC.k11 (M.hts _ u_fl_X5_69) dX5_ride_40 ?_
        refine z_il M dX5_ride_43 hl 0 rfl ?_
        refine z_il M dX5_ride_45 hl 1 rfl ?_
        obtain ⟨h9, h10, hp⟩ := hp
        obtain ⟨σ8, eσ8⟩ : ∃ z : nS, z = s1 σ (12, 17, 0) (x7).toNat x4 := ⟨_, rfl⟩
        have hp := hp σ8 eσ8
        refine zs_i (n := 7680) M hW hS (hKC.k12 (by decide)) (fun _ _ => rfl) h9 h10 (by decide) dX5_ride_47 (fun H locs hW hS => ?_)
        rw [← eσ8] at hW
        refine z_al_n M dX5_ride_48 rfl hl 2 rfl ?_
        refine zg_X5_22 M u_hin5 hW hKC.k11 (M.hts _ u_fl_X5_69) dX5_ride_49 ?_
        refine z_il M dX5_ride_52 hl 0 rfl ?_
        refine zi_const M 1 dX5_ride_54 rfl ?_
        refine zi_add M dX5_ride_55 ?_
        refine z_il_n M dX5_ride_56 rfl hl 4 rfl ?_
        obtain ⟨h12, h13, hp⟩ := hp
        obtain ⟨σ11, eσ11⟩ : ∃ z : nS, z = s1 σ8 (12, 17, 0) ((x7 + 1)).toNat v3 := ⟨_, rfl⟩
        have hp := hp σ11 eσ11
        refine zs_i (n := 7680) M hW hS (hKC.k12 (by decide)) (fun _ _ => rfl) h12 h13 (by decide) dX5_ride_57 (fun H locs hW hS => ?_)
        rw [← eσ11] at hW
        refine z_al_n M dX5_ride_58 rfl hl 2 rfl ?_
        refine zg_X5_22 M u_hin5 hW hKC.k11 (M.hts _ u_fl_X5_69) dX5_ride_59 ?_
        refine z_il M dX5_ride_62 hl 0 rfl ?_
        refine zi_const M 2 dX5_ride_64 rfl ?_
        refine zi_add M dX5_ride_65 ?_
        refine z_al_n M dX5_ride_66 rfl hl 2 rfl ?_
        refine zg_X5_31 M u_hin5 hW hKC.k11 (M.hts _ u_fl_X5_93) dX5_ride_67 ?_
        refine z_il M dX5_ride_70 hl 5 rfl ?_
        obtain ⟨h14, h15, hp⟩ := hp
        refine za_i (n := 3) M hW (hKC.k12 (by decide)) (fun _ _ => rfl) h14 h15 (by decide) dX5_ride_72 ?_
        obtain ⟨h17, h18, hp⟩ := hp
        obtain ⟨σ16, eσ16⟩ : ∃ z : nS, z = s1 σ11 (12, 17, 0) ((x7 + 2)).toNat (σ11.1 (12, 25, 0) (v4).toNat) := ⟨_, rfl⟩
        have hp := hp σ16 eσ16
        refine zs_i (n := 7680) M hW hS (hKC.k12 (by decide)) (fun _ _ => rfl) h17 h18 (by decide) dX5_ride_73 (fun H locs hW hS => ?_)
        rw [← eσ16] at hW
        refine z_al_n M dX5_ride_74 rfl hl 2 rfl ?_
        refine zg_X5_22 M u_hin5 hW hKC.k11 (M.hts _ u_fl_X5_69) dX5_ride_75 ?_
        refine z_il M dX5_ride_78 hl 0 rfl ?_
        refine zi_const M 3 dX5_ride_80 rfl ?_
        refine zi_add M dX5_ride_81 ?_
        refine z_al_n M dX5_ride_82 rfl hl 2 rfl ?_
        refine zg_X5_32 M u_hin5 hW hKC.k11 (M.hts _ u_fl_X5_96) dX5_ride_83 ?_
        refine z_il M dX5_ride_86 hl 5 rfl ?_
        obtain ⟨h19, h20, hp⟩ := hp
        refine za_i (n := 3) M hW (hKC.k12 (by decide)) (fun _ _ => rfl) h19 h20 (by decide) dX5_ride_88 ?_
        obtain ⟨h22, h23, hp⟩ := hp
        obtain ⟨σ21, eσ21⟩ : ∃ z : nS, z = s1 σ16 (12, 17, 0) ((x7 + 3)).toNat (σ16.1 (12, 26, 0) (v4).toNat) := ⟨_, rfl⟩
        have hp := hp σ21 eσ21
        refine zs_i (n := 7680) M hW hS (hKC.k12 (by decide)) (fun _ _ => rfl) h22 h23 (by decide) dX5_ride_89 (fun H locs hW hS => ?_)
        rw [← eσ21] at hW
        refine z_al_n M dX5_ride_90 rfl hl 2 rfl ?_
        refine zg_X5_22 M u_hin5 hW hKC.k11 (M.hts _ u_fl_X5_69) dX5_ride_91 ?_
        refine z_il M dX5_ride_94 hl 0 rfl ?_
        refine zi_const M 4 dX5_ride_96 rfl ?_
        refine zi_add M dX5_ride_97 ?_
        refine z_al_n M dX5_ride_98 rfl hl 2 rfl ?_
        refine zg_X5_33 M u_hin5 hW hKC.k11 (M.hts _ u_fl_X5_99) dX5_ride_99 ?_
        refine z_il M dX5_ride_102 hl 5 rfl ?_
        obtain ⟨h24, h25, hp⟩ := hp
        refine za_i (n := 3) M hW (hKC.k12 (by decide)) (fun _ _ => rfl) h24 h25 (by decide) dX5_ride_104 ?_
        obtain ⟨h27, h28, hp⟩ := hp
        obtain ⟨σ26, eσ26⟩ : ∃ z : nS, z = s1 σ21 (12, 17, 0) ((x7 + 4)).toNat (σ21.1 (12, 27, 0) (v4).toNat) := ⟨_, rfl⟩
        have hp := hp σ26 eσ26
        refine zs_i (n := 7680) M hW hS (hKC.k12 (by decide)) (fun _ _ => rfl) h27 h28 (by decide) dX5_ride_105 (fun H locs hW hS => ?_)
        rw [← eσ26] at hW
        refine z_al_n M dX5_ride_106 rfl hl 2 rfl ?_
        refine zg_X5_22 M u_hin5 hW hKC.k11 (M.hts _ u_fl_X5_69) dX5_ride_107 ?_
        refine z_il M dX5_ride_110 hl 0 rfl ?_
        refine zi_const M 5 dX5_ride_112 rfl ?_
        refine zi_add M dX5_ride_113 ?_
        refine zi_const M 0 dX5_ride_114 rfl ?_
        obtain ⟨h30, h31, hp⟩ := hp
        obtain ⟨σ29, eσ29⟩ : ∃ z : nS, z = s1 σ26 (12, 17, 0) ((x7 + 5)).toNat 0 := ⟨_, rfl⟩
        have hp := hp σ29 eσ29
        refine zs_i (n := 7680) M hW hS (hKC.k12 (by decide)) (fun _ _ => rfl) h30 h31 (by decide) dX5_ride_115 (fun H locs hW hS => ?_)
        rw [← eσ29] at hW
        refine z_al_n M dX5_ride_116 rfl hl 2 rfl ?_
        refine zg_X5_22 M u_hin5 hW hKC.k11 (M.hts _ u_fl_X5_69) dX5_ride_117 ?_
        refine z_il M dX5_ride_120 hl 0 rfl ?_
        refine zi_bi M 6 dX5_ride_122 (by decide +kernel) ?_
        refine zi_add M dX5_ride_124 ?_
        refine z_al_n M dX5_ride_125 rfl hl 2 rfl ?_
        refine zg_X5_7 M u_hin5 hW hKC.k11 (M.hts _ u_fl_X5_28) dX5_ride_126 ?_
        refine z_il M dX5_ride_129 hl 1 rfl ?_
        obtain ⟨h32, h33, hp⟩ := hp
        refine za_i (n := 6) M hW (hKC.k12 (by decide)) (fun _ _ => rfl) h32 h33 (by decide) dX5_ride_131 ?_
        obtain ⟨h35, h36, hp⟩ := hp
        obtain ⟨σ34, eσ34⟩ : ∃ z : nS, z = s1 σ29 (12, 17, 0) ((x7 + 6)).toNat (σ29.1 (12, 6, 0) (x4).toNat) := ⟨_, rfl⟩
        have hp := hp σ34 eσ34
        refine zs_i (n := 7680) M hW hS (hKC.k12 (by decide)) (fun _ _ => rfl) h35 h36 (by decide) dX5_ride_132 (fun H locs hW hS => ?_)
        rw [← eσ34] at hW
        refine z_al_n M dX5_ride_133 rfl hl 2 rfl ?_
        refine zg_X5_22 M u_hin5 hW hKC.k11 (M.hts _ u_fl_X5_69) dX5_ride_134 ?_
        refine z_il M dX5_ride_137 hl 0 rfl ?_
        refine zi_bi M 7 dX5_ride_139 (by decide +kernel) ?_
        refine zi_add M dX5_ride_141 ?_
        refine z_al_n M dX5_ride_142 rfl hl 2 rfl ?_
        refine zg_X5_8 M u_hin5 hW hKC.k11 (M.hts _ u_fl_X5_31) dX5_ride_143 ?_
        refine z_il M dX5_ride_146 hl 1 rfl ?_
        obtain ⟨h37, h38, hp⟩ := hp
        refine za_i (n := 6) M hW (hKC.k12 (by decide)) (fun _ _ => rfl) h37 h38 (by decide) dX5_ride_148 ?_
        obtain ⟨h40, h41, hp⟩ := hp
        obtain ⟨σ39, eσ39⟩ : ∃ z : nS, z = s1 σ34 (12, 17, 0) ((x7 + 7)).toNat (σ34.1 (12, 7, 0) (x4).toNat) := ⟨_, rfl⟩
        have hp := hp σ39 eσ39
        refine zs_i (n := 7680) M hW hS (hKC.k12 (by decide)) (fun _ _ => rfl) h40 h41 (by decide) dX5_ride_149 (fun H locs hW hS => ?_)
        rw [← eσ39] at hW
        refine z_al_n M dX5_ride_150 rfl hl 2 rfl ?_
        refine zg_X5_23 M u_hin5 hW hKC.k11 (M.hts _ u_fl_X5_72) dX5_ride_151 ?_
        refine z_il_n M dX5_ride_154 rfl hl 3 rfl ?_
        refine z_dup2 M dX5_ride_155 rfl rfl ?_
        obtain ⟨h42, h43, hp⟩ := hp
        refine za_i (n := 40) M hW (hKC.k12 (by decide)) (fun _ _ => rfl) h42 h43 (by decide) dX5_ride_156 ?_
        refine zi_const M 1 dX5_ride_157 rfl ?_
        refine zi_add M dX5_ride_158 ?_
        obtain ⟨h45, h46, hp⟩ := hp
        obtain ⟨σ44, eσ44⟩ : ∃ z : nS, z = s1 σ39 (12, 18, 0) (v1).toNat ((σ39.1 (12, 18, 0) (v1).toNat) + 1) := ⟨_, rfl⟩
        have hp := hp σ44 eσ44
        refine zs_i (n := 40) M hW hS (hKC.k12 (by decide)) (fun _ _ => rfl) h45 h46 (by decide) dX5_ride_159 (fun H locs hW hS => ?_)
        rw [← eσ44] at hW
        refine z_al_n M dX5_ride_160 rfl hl 2 rfl ?_
        refine zg_X5_31 M u_hin5 hW hKC.k11 (M.hts _ u_fl_X5_93) dX5_ride_161 ?_
        refine z_il M dX5_ride_164 hl 5 rfl ?_
        obtain ⟨h47, h48, hp⟩ := hp
        refine za_i (n := 3) M hW (hKC.k12 (by decide)) (fun _ _ => rfl) h47 h48 (by decide) dX5_ride_166 ?_
        refine zi_nm (fun x49 ex49 => ?_)
        have hp := hp x49 ex49
        refine z_is_n M [(3, .int (iN x49)), (6, .int (iN x7)), (5, .int (iN x4)), (0, .ref (ad (11, 0, 0))), (1, .int (iN v1)), (4, .int (iN v4))] dX5_ride_167 rfl hl (by decide) rfl (fun ls hl => ?_)
        refine z_al_n M dX5_ride_168 rfl hl 3 rfl ?_
        refine zg_X5_7 M u_hin5 hW hKC.k11 (M.hts _ u_fl_X5_28) dX5_ride_169 ?_
        refine z_il M dX5_ride_172 hl 2 rfl ?_
        refine z_il_n M dX5_ride_174 rfl hl 0 rfl ?_
        obtain ⟨h51, h52, hp⟩ := hp
        obtain ⟨σ50, eσ50⟩ : ∃ z : nS, z = s1 σ44 (12, 6, 0) (x4).toNat x49 := ⟨_, rfl⟩
        have hp := hp σ50 eσ50
        refine zs_i (n := 6) M hW hS (hKC.k12 (by decide)) (fun _ _ => rfl) h51 h52 (by decide) dX5_ride_175 (fun H locs hW hS => ?_)
        rw [← eσ50] at hW
        refine z_al_n M dX5_ride_176 rfl hl 3 rfl ?_
        refine zg_X5_8 M u_hin5 hW hKC.k11 (M.hts _ u_fl_X5_31) dX5_ride_177 ?_
        refine z_il M dX5_ride_180 hl 2 rfl ?_
        refine z_il M dX5_ride_182 hl 5 rfl ?_
        refine zi_const M 1 dX5_ride_184 rfl ?_
        refine zi_add M dX5_ride_185 ?_
        refine z_al_n M dX5_ride_186 rfl hl 3 rfl ?_
        refine zg_X5_34 M u_hin5 hW hKC.k11 (M.hts _ u_fl_X5_142) dX5_ride_187 ?_
        refine zw_ge M (tgt := 205) dX5_ride_190 (by decide) rfl rfl (fun c53 => ?_) (fun c53 => ?_)
        · have hp := hp.1 c53
          refine z_al_n M dX5_ride_205 rfl hl 3 rfl ?_
          refine zg_X5_33 M u_hin5 hW hKC.k11 (M.hts _ u_fl_X5_99) dX5_ride_206 ?_
          refine z_il M dX5_ride_209 hl 5 rfl ?_
          obtain ⟨h54, h55, hp⟩ := hp
          refine za_i (n := 3) M hW (hKC.k12 (by decide)) (fun _ _ => rfl) h54 h55 (by decide) dX5_ride_211 ?_
          refine z_al_n M dX5_ride_212 rfl hl 3 rfl ?_
          refine zg_X5_13 M u_hin5 hW hKC.k11 (M.hts _ u_fl_X5_44) dX5_ride_213 ?_
          refine zi_add M dX5_ride_216 ?_
          obtain ⟨h57, h58, hp⟩ := hp
          obtain ⟨σ56, eσ56⟩ : ∃ z : nS, z = s1 σ50 (12, 7, 0) (x4).toNat ((σ50.1 (12, 27, 0) (v4).toNat) + (σ50.1 (11, 0, 0) 13)) := ⟨_, rfl⟩
          have hp := hp σ56 eσ56
          refine zs_i (n := 6) M hW hS (hKC.k12 (by decide)) (fun _ _ => rfl) h57 h58 (by decide) dX5_ride_217 (fun H locs hW hS => ?_)
          rw [← eσ56] at hW
          refine z_al_n M dX5_ride_218 rfl hl 3 rfl ?_
          refine zg_X5_10 M u_hin5 hW hKC.k11 (M.hts _ u_fl_X5_38) dX5_ride_219 ?_
          refine z_il M dX5_ride_222 hl 2 rfl ?_
          refine z_dup2 M dX5_ride_224 rfl rfl ?_
          obtain ⟨h59, h60, hp⟩ := hp
          refine za_i (n := 6) M hW (hKC.k12 (by decide)) (fun _ _ => rfl) h59 h60 (by decide) dX5_ride_225 ?_
          refine zi_const M 1 dX5_ride_226 rfl ?_
          refine zi_add M dX5_ride_227 ?_
          obtain ⟨h62, h63, hp⟩ := hp
          obtain ⟨σ61, eσ61⟩ : ∃ z : nS, z = s1 σ56 (12, 9, 0) (x4).toNat ((σ56.1 (12, 9, 0) (x4).toNat) + 1) := ⟨_, rfl⟩
          have hp := hp σ61 eσ61
          refine zs_i (n := 6) M hW hS (hKC.k12 (by decide)) (fun _ _ => rfl) h62 h63 (by decide) dX5_ride_228 (fun H locs hW hS => ?_)
          rw [← eσ61] at hW
          refine z_al_n M dX5_ride_229 rfl hl 3 rfl ?_
          refine zg_X5_11 M u_hin5 hW hKC.k11 (M.hts _ u_fl_X5_41) dX5_ride_230 ?_
          refine z_il M dX5_ride_233 hl 2 rfl ?_
          refine z_dup2 M dX5_ride_235 rfl rfl ?_
          obtain ⟨h64, h65, hp⟩ := hp
          refine za_i (n := 6) M hW (hKC.k12 (by decide)) (fun _ _ => rfl) h64 h65 (by decide) dX5_ride_236 ?_
          refine z_al_n M dX5_ride_237 rfl hl 3 rfl ?_
          refine zg_X5_33 M u_hin5 hW hKC.k11 (M.hts _ u_fl_X5_99) dX5_ride_238 ?_
          refine z_il M dX5_ride_241 hl 5 rfl ?_
          obtain ⟨h66, h67, hp⟩ := hp
          refine za_i (n := 3) M hW (hKC.k12 (by decide)) (fun _ _ => rfl) h66 h67 (by decide) dX5_ride_243 ?_
          refine z_al_n M dX5_ride_244 rfl hl 3 rfl ?_
          refine zg_X5_32 M u_hin5 hW hKC.k11 (M.hts _ u_fl_X5_96) dX5_ride_245 ?_
          refine z_il M dX5_ride_248 hl 5 rfl ?_
          obtain ⟨h68, h69, hp⟩ := hp
          refine za_i (n := 3) M hW (hKC.k12 (by decide)) (fun _ _ => rfl) h68 h69 (by decide) dX5_ride_250 ?_
          refine zi_sub M dX5_ride_251 ?_
          refine zi_add M dX5_ride_252 ?_
          obtain ⟨h71, h72, hp⟩ := hp
          obtain ⟨σ70, eσ70⟩ : ∃ z : nS, z = s1 σ61 (12, 10, 0) (x4).toNat ((σ61.1 (12, 10, 0) (x4).toNat) + ((σ61.1 (12, 27, 0) (v4).toNat) - (σ61.1 (12, 26, 0) (v4).toNat))) := ⟨_, rfl⟩
          have hp := hp σ70 eσ70
          refine zs_i (n := 6) M hW hS (hKC.k12 (by decide)) (fun _ _ => rfl) h71 h72 (by decide) dX5_ride_253 (fun H locs hW hS => ?_)
          rw [← eσ70] at hW
          obtain ⟨x73, ex73⟩ : ∃ z : Int, z = v4 + 1 := ⟨_, rfl⟩
          have hp := hp x73 ex73
          refine z_inc M [(4, .int (iN x73)), (3, .int (iN x49)), (6, .int (iN x7)), (5, .int (iN x4)), (0, .ref (ad (11, 0, 0))), (1, .int (iN v1))] x73 dX5_ride_254 hl 5 rfl ex73.symm (by decide) rfl (fun ls hl => ?_)
          refine zg M (tgt := 5) dX5_ride_257 (by decide) ?_
          exact ih5 x49 x73 σ70 _ _ _  hp hW hS (lv_sub hl [4, 5, 1, 0] rfl)
        · have hp := hp.2 c53
          refine z_al_n M dX5_ride_193 rfl hl 3 rfl ?_
          refine zg_X5_32 M u_hin5 hW hKC.k11 (M.hts _ u_fl_X5_96) dX5_ride_194 ?_
          refine z_il M dX5_ride_197 hl 5 rfl ?_
          refine zi_const M 1 dX5_ride_199 rfl ?_
          refine zi_add M dX5_ride_200 ?_
          obtain ⟨h74, h75, hp⟩ := hp
          refine za_i (n := 3) M hW (hKC.k12 (by decide)) (fun _ _ => rfl) h74 h75 (by decide) dX5_ride_201 ?_
          refine zg M (tgt := 212) dX5_ride_202 (by decide) ?_
          refine z_al_n M dX5_ride_212 rfl hl 3 rfl ?_
          refine zg_X5_13 M u_hin5 hW hKC.k11 (M.hts _ u_fl_X5_44) dX5_ride_213 ?_
          refine zi_add M dX5_ride_216 ?_
          obtain ⟨h77, h78, hp⟩ := hp
          obtain ⟨σ76, eσ76⟩ : ∃ z : nS, z = s1 σ50 (12, 7, 0) (x4).toNat ((σ50.1 (12, 26, 0) ((v4 + 1)).toNat) + (σ50.1 (11, 0, 0) 13)) := ⟨_, rfl⟩
          have hp := hp σ76 eσ76
          refine zs_i (n := 6) M hW hS (hKC.k12 (by decide)) (fun _ _ => rfl) h77 h78 (by decide) dX5_ride_217 (fun H locs hW hS => ?_)
          rw [← eσ76] at hW
          refine z_al_n M dX5_ride_218 rfl hl 3 rfl ?_
          refine zg_X5_10 M u_hin5 hW hKC.k11 (M.hts _ u_fl_X5_38) dX5_ride_219 ?_
          refine z_il M dX5_ride_222 hl 2 rfl ?_
          refine z_dup2 M dX5_ride_224 rfl rfl ?_
          obtain ⟨h79, h80, hp⟩ := hp
          refine za_i (n := 6) M hW (hKC.k12 (by decide)) (fun _ _ => rfl) h79 h80 (by decide) dX5_ride_225 ?_
          refine zi_const M 1 dX5_ride_226 rfl ?_
          refine zi_add M dX5_ride_227 ?_
          obtain ⟨h82, h83, hp⟩ := hp
          obtain ⟨σ81, eσ81⟩ : ∃ z : nS, z = s1 σ76 (12, 9, 0) (x4).toNat ((σ76.1 (12, 9, 0) (x4).toNat) + 1) := ⟨_, rfl⟩
          have hp := hp σ81 eσ81
          refine zs_i (n := 6) M hW hS (hKC.k12 (by decide)) (fun _ _ => rfl) h82 h83 (by decide) dX5_ride_228 (fun H locs hW hS => ?_)
          rw [← eσ81] at hW
          refine z_al_n M dX5_ride_229 rfl hl 3 rfl ?_
          refine zg_X5_11 M u_hin5 hW hKC.k11 (M.hts _ u_fl_X5_41) dX5_ride_230 ?_
          refine z_il M dX5_ride_233 hl 2 rfl ?_
          refine z_dup2 M dX5_ride_235 rfl rfl ?_
          obtain ⟨h84, h85, hp⟩ := hp
          refine za_i (n := 6) M hW (hKC.k12 (by decide)) (fun _ _ => rfl) h84 h85 (by decide) dX5_ride_236 ?_
          refine z_al_n M dX5_ride_237 rfl hl 3 rfl ?_
          refine zg_X5_33 M u_hin5 hW hKC.k11 (M.hts _ u_fl_X5_99) dX5_ride_238 ?_
          refine z_il M dX5_ride_241 hl 5 rfl ?_
          obtain ⟨h86, h87, hp⟩ := hp
          refine za_i (n := 3) M hW (hKC.k12 (by decide)) (fun _ _ => rfl) h86 h87 (by decide) dX5_ride_243 ?_
          refine z_al_n M dX5_ride_244 rfl hl 3 rfl ?_
          refine zg_X5_32 M u_hin5 hW hKC.k11 (M.hts _ u_fl_X5_96) dX5_ride_245 ?_
          refine z_il M dX5_ride_248 hl 5 rfl ?_
          obtain ⟨h88, h89, hp⟩ := hp
          refine za_i (n := 3) M hW (hKC.k12 (by decide)) (fun _ _ => rfl) h88 h89 (by decide) dX5_ride_250 ?_
          refine zi_sub M dX5_ride_251 ?_
          refine zi_add M dX5_ride_252 ?_
          obtain ⟨h91, h92, hp⟩ := hp
          obtain ⟨σ90, eσ90⟩ : ∃ z : nS, z = s1 σ81 (12, 10, 0) (x4).toNat ((σ81.1 (12, 10, 0) (x4).toNat) + ((σ81.1 (12, 27, 0) (v4).toNat) - (σ81.1 (12, 26, 0) (v4).toNat))) := ⟨_, rfl⟩
          have hp := hp σ90 eσ90
          refine zs_i (n := 6) M hW hS (hKC.k12 (by decide)) (fun _ _ => rfl) h91 h92 (by decide) dX5_ride_253 (fun H locs hW hS => ?_)
          rw [← eσ90] at hW
          obtain ⟨x93, ex93⟩ : ∃ z : Int, z = v4 + 1 := ⟨_, rfl⟩
          have hp := hp x93 ex93
          refine z_inc M [(4, .int (iN x93)), (3, .int (iN x49)), (6, .int (iN x7)), (5, .int (iN x4)), (0, .ref (ad (11, 0, 0))), (1, .int (iN v1))] x93 dX5_ride_254 hl 5 rfl ex93.symm (by decide) rfl (fun ls hl => ?_)
          refine zg M (tgt := 5) dX5_ride_257 (by decide) ?_
          exact ih5 x49 x93 σ90 _ _ _  hp hW hS (lv_sub hl [4, 5, 1, 0] rfl)
  refine z_il_n M dX5_ride_0 rfl hl 2 rfl ?_
  refine z_is_n M [(3, .int (iN v2)), (0, .ref (ad (11, 0, 0))), (1, .int (iN v1)), (2, .int (iN v2))] dX5_ride_1 rfl hl (by decide) rfl (fun ls hl => ?_)
  refine zi_const M 0 dX5_ride_2 rfl ?_
  refine z_is M [(4, .int (iN 0)), (3, .int (iN v2)), (0, .ref (ad (11, 0, 0))), (1, .int (iN v1)), (2, .int (iN v2))] dX5_ride_3 hl (by decide) rfl (fun ls hl => ?_)
  obtain ⟨f94, hp⟩ := hp
  exact hL5 f94 v2 0 σ _ _ _  hp hW hS (lv_sub hl [2, 3, 1, 0] rfl)
def P_X5_call (K : List nKey) (σ : nS) (v1 : Int) (v2 : Int) (v3 : Int) (v4 : Int) (v5 : Int) (k : Int → nS → Prop) : Prop :=
  ∀ σ1 : nS, σ1 = s1 σ (11, 0, 0) 24 0 → P_X5_in K σ1 v1 0 3 (fun r3 σ2 => ((w r3 = 0 → k (-1) σ2) ∧ (w r3 ≠ 0 → P_X5_isPlace K σ2 v2 (fun r6 σ5 => ((w r6 = 0 → k (-1) σ5) ∧ (w r6 ≠ 0 → P_X5_isPlace K σ5 v3 (fun r9 σ8 => ((w r9 = 0 → k (-1) σ8) ∧ (w r9 ≠ 0 → ((w v2 = w v3 → k (-1) σ8) ∧ (w v2 ≠ w v3 → P_X5_in K σ8 v4 0 4319 (fun r13 σ12 => ((w r13 = 0 → k (-1) σ12) ∧ (w r13 ≠ 0 → P_X5_in K σ12 v5 1 2000 (fun r16 σ15 => ((w r16 = 0 → k (-1) σ15) ∧ (w r16 ≠ 0 → ((w (σ15.1 (11, 0, 0) 20) ≠ 40 → 0 ≤ (σ15.1 (11, 0, 0) 20) ∧ (σ15.1 (11, 0, 0) 20) < 40 ∧ ∀ σ19 : nS, σ19 = s1 σ15 (12, 11, 0) ((σ15.1 (11, 0, 0) 20)).toNat v1 → 0 ≤ (σ19.1 (11, 0, 0) 20) ∧ (σ19.1 (11, 0, 0) 20) < 40 ∧ ∀ σ22 : nS, σ22 = s1 σ19 (12, 12, 0) ((σ19.1 (11, 0, 0) 20)).toNat v2 → 0 ≤ (σ22.1 (11, 0, 0) 20) ∧ (σ22.1 (11, 0, 0) 20) < 40 ∧ ∀ σ25 : nS, σ25 = s1 σ22 (12, 13, 0) ((σ22.1 (11, 0, 0) 20)).toNat v3 → 0 ≤ (σ25.1 (11, 0, 0) 20) ∧ (σ25.1 (11, 0, 0) 20) < 40 ∧ ∀ σ28 : nS, σ28 = s1 σ25 (12, 14, 0) ((σ25.1 (11, 0, 0) 20)).toNat v4 → 0 ≤ (σ28.1 (11, 0, 0) 20) ∧ (σ28.1 (11, 0, 0) 20) < 40 ∧ ∀ σ31 : nS, σ31 = s1 σ28 (12, 15, 0) ((σ28.1 (11, 0, 0) 20)).toNat v5 → ∀ σ34 : nS, σ34 = s1 σ31 (11, 0, 0) 20 ((σ31.1 (11, 0, 0) 20) + 1) → k ((σ34.1 (11, 0, 0) 20) - 1) σ34) ∧ (w (σ15.1 (11, 0, 0) 20) = 40 → k (-1) σ15)))))))))))))))))))
def rmX5_call : Room := { frames := 2, cells := 0, slots := 0, locals := 43 }
set_option maxHeartbeats 4000000 in
set_option maxRecDepth 100000 in
theorem w_X5_call {l : Launch} {D : va_G} {ca : Nat → ClassId} {K : List nKey} {ad : nKey → Nat} {σ : nS} {sz : Nat} (hKC : KC K) {v1 : Int} {v2 : Int} {v3 : Int} {v4 : Int} {v5 : Int} {k : Int → nS → Prop} (hp : P_X5_call K σ v1 v2 v3 v4 v5 k) : Met l yX5_call (Cond.code yX5_call cX5_call 6 (some .int) :: UW) rmX5_call (ZP D ca [.ref (ad (11, 0, 0)), .int (iN v1), .int (iN v2), .int (iN v3), .int (iN v4), .int (iN v5)] (ZB D K ad ca σ sz)) (ZQi D K ad ca sz k) 0 0 (FA K ad sz) := by
  refine z_start (cc := cX5_call) (maxL := 6) (ret := (some .int)) (own := RX5) (K := K) (ad := ad) (σ := σ) (Qc := fun sz => ZQi D K ad ca sz k) (by decide) rfl (Nat.le_of_ble_eq_true rfl) ?_
  intro p e s m args below meth c M hr hlocks hW ls hl
  have hS : va_S (FA K ad s.heap.size) s.heap s.heap [] := va_S.rf
  have hA : ∀ q : Nat, s.heap.size ≤ q → FA K ad s.heap.size q := fun q h => Or.inr h
  replace hl : lv_has ls 6 [(0, .ref (ad (11, 0, 0))), (1, .int (iN v1)), (2, .int (iN v2)), (3, .int (iN v3)), (4, .int (iN v4)), (5, .int (iN v5))] := hl
  unfold P_X5_call at hp
  refine z_al_n M dX5_call_0 rfl hl 0 rfl ?_
  refine zi_const M 0 dX5_call_1 rfl ?_
  obtain ⟨σ1, eσ1⟩ : ∃ z : nS, z = s1 σ (11, 0, 0) 24 0 := ⟨_, rfl⟩
  have hp := hp σ1 eσ1
  refine zp_X5_24 (v := 0) M u_hin5 hW hS hKC.k11 (M.hts _ u_fl_X5_102) dX5_call_2 (fun H locs hW hS => ?_)
  rw [← eσ1] at hW
  refine z_il_n M dX5_call_5 rfl hl 1 rfl ?_
  refine zi_const M 0 dX5_call_6 rfl ?_
  refine zi_const M 3 dX5_call_7 rfl ?_
  have hfa := hW.fa hS hA
  refine zc_SU (As := [.int (iN v1), .int (iN 0), .int (iN 3)]) (rest := []) M (w_X5_in hKC  hp) (cuS M 3 u_co_X5_in u_ml_X5_108 u_ini_X5 u_st_X5_in (by decide +kernel) rfl rfl ⟨Nat.le_of_ble_eq_true rfl, Nat.le_of_ble_eq_true rfl⟩) ⟨rfl, hW.weaken (fun _ _ => trivial)⟩ rfl hl rfl (Nat.le_of_ble_eq_true rfl) ⟨Nat.zero_le _, Nat.zero_le _⟩ dX5_call_8 hS hfa (fun u H locs hw _ _ hS => ?_)
  obtain ⟨r3, σ2⟩ := u
  obtain ⟨hp, hW2⟩ := hw
  have hW := hW2.weaken hfa
  try dsimp only at hp
  refine zv_eq M (tgt := 68) dX5_call_11 (by decide) rfl (fun c4 => ?_) (fun c4 => ?_)
  · have hp := hp.1 c4
    refine zi_const M (-1) dX5_call_68 rfl ?_
    exact zr_i M hr hlocks ((-1), σ2) rfl ⟨hp, hW⟩ hS dX5_call_69
  · have hp := hp.2 c4
    refine z_al_n M dX5_call_14 rfl hl 0 rfl ?_
    refine z_il_n M dX5_call_15 rfl hl 2 rfl ?_
    have hfa := hW.fa hS hA
    refine zc_VU (As := [.int (iN v2)]) (rest := []) M (w_X5_isPlace hKC  hp) (cuV M 1 u_co_X5_isPlace u_ml_X5_118 u_ini_X5 u_in_X5_isPlace u_se_X5_isPlace (by decide +kernel) rfl rfl ⟨Nat.le_of_ble_eq_true rfl, Nat.le_of_ble_eq_true rfl⟩) (z_recv M hW hKC.k11 rfl rfl) ⟨rfl, hW.weaken (fun _ _ => trivial)⟩ rfl hl rfl (Nat.le_of_ble_eq_true rfl) ⟨Nat.zero_le _, Nat.zero_le _⟩ dX5_call_16 hS hfa (fun u H locs hw _ _ hS => ?_)
    obtain ⟨r6, σ5⟩ := u
    obtain ⟨hp, hW2⟩ := hw
    have hW := hW2.weaken hfa
    try dsimp only at hp
    refine zv_eq M (tgt := 68) dX5_call_19 (by decide) rfl (fun c7 => ?_) (fun c7 => ?_)
    · have hp := hp.1 c7
      refine zi_const M (-1) dX5_call_68 rfl ?_
      exact zr_i M hr hlocks ((-1), σ5) rfl ⟨hp, hW⟩ hS dX5_call_69
    · have hp := hp.2 c7
      refine z_al_n M dX5_call_22 rfl hl 0 rfl ?_
      refine z_il_n M dX5_call_23 rfl hl 3 rfl ?_
      have hfa := hW.fa hS hA
      refine zc_VU (As := [.int (iN v3)]) (rest := []) M (w_X5_isPlace hKC  hp) (cuV M 1 u_co_X5_isPlace u_ml_X5_118 u_ini_X5 u_in_X5_isPlace u_se_X5_isPlace (by decide +kernel) rfl rfl ⟨Nat.le_of_ble_eq_true rfl, Nat.le_of_ble_eq_true rfl⟩) (z_recv M hW hKC.k11 rfl rfl) ⟨rfl, hW.weaken (fun _ _ => trivial)⟩ rfl hl rfl (Nat.le_of_ble_eq_true rfl) ⟨Nat.zero_le _, Nat.zero_le _⟩ dX5_call_24 hS hfa (fun u H locs hw _ _ hS => ?_)
      obtain ⟨r9, σ8⟩ := u
      obtain ⟨hp, hW2⟩ := hw
      have hW := hW2.weaken hfa
      try dsimp only at hp
      refine zv_eq M (tgt := 68) dX5_call_27 (by decide) rfl (fun c10 => ?_) (fun c10 => ?_)
      · have hp := hp.1 c10
        refine zi_const M (-1) dX5_call_68 rfl ?_
        exact zr_i M hr hlocks ((-1), σ8) rfl ⟨hp, hW⟩ hS dX5_call_69
      · have hp := hp.2 c10
        refine z_il_n M dX5_call_30 rfl hl 2 rfl ?_
        refine z_il_n M dX5_call_31 rfl hl 3 rfl ?_
        refine zw_eq M (tgt := 68) dX5_call_32 (by decide) rfl rfl (fun c11 => ?_) (fun c11 => ?_)
        · have hp := hp.1 c11
          refine zi_const M (-1) dX5_call_68 rfl ?_
          exact zr_i M hr hlocks ((-1), σ8) rfl ⟨hp, hW⟩ hS dX5_call_69
        · have hp := hp.2 c11
          refine z_il M dX5_call_35 hl 4 rfl ?_
          refine zi_const M 0 dX5_call_37 rfl ?_
          refine zi_si M 4319 dX5_call_38 (by decide +kernel) ?_
          have hfa := hW.fa hS hA
          refine zc_SU (As := [.int (iN v4), .int (iN 0), .int (iN 4319)]) (rest := []) M (w_X5_in hKC  hp) (cuS M 3 u_co_X5_in u_ml_X5_108 u_ini_X5 u_st_X5_in (by decide +kernel) rfl rfl ⟨Nat.le_of_ble_eq_true rfl, Nat.le_of_ble_eq_true rfl⟩) ⟨rfl, hW.weaken (fun _ _ => trivial)⟩ rfl hl rfl (Nat.le_of_ble_eq_true rfl) ⟨Nat.zero_le _, Nat.zero_le _⟩ dX5_call_41 hS hfa (fun u H locs hw _ _ hS => ?_)
          obtain ⟨r13, σ12⟩ := u
          obtain ⟨hp, hW2⟩ := hw
          have hW := hW2.weaken hfa
          try dsimp only at hp
          refine zv_eq M (tgt := 68) dX5_call_44 (by decide) rfl (fun c14 => ?_) (fun c14 => ?_)
          · have hp := hp.1 c14
            refine zi_const M (-1) dX5_call_68 rfl ?_
            exact zr_i M hr hlocks ((-1), σ12) rfl ⟨hp, hW⟩ hS dX5_call_69
          · have hp := hp.2 c14
            refine z_il M dX5_call_47 hl 5 rfl ?_
            refine zi_const M 1 dX5_call_49 rfl ?_
            refine zi_si M 2000 dX5_call_50 (by decide +kernel) ?_
            have hfa := hW.fa hS hA
            refine zc_SU (As := [.int (iN v5), .int (iN 1), .int (iN 2000)]) (rest := []) M (w_X5_in hKC  hp) (cuS M 3 u_co_X5_in u_ml_X5_108 u_ini_X5 u_st_X5_in (by decide +kernel) rfl rfl ⟨Nat.le_of_ble_eq_true rfl, Nat.le_of_ble_eq_true rfl⟩) ⟨rfl, hW.weaken (fun _ _ => trivial)⟩ rfl hl rfl (Nat.le_of_ble_eq_true rfl) ⟨Nat.zero_le _, Nat.zero_le _⟩ dX5_call_53 hS hfa (fun u H locs hw _ _ hS => ?_)
            obtain ⟨r16, σ15⟩ := u
            obtain ⟨hp, hW2⟩ := hw
            have hW := hW2.weaken hfa
            try dsimp only at hp
            refine zv_eq M (tgt := 68) dX5_call_56 (by decide) rfl (fun c17 => ?_) (fun c17 => ?_)
            · have hp := hp.1 c17
              refine zi_const M (-1) dX5_call_68 rfl ?_
              exact zr_i M hr hlocks ((-1), σ15) rfl ⟨hp, hW⟩ hS dX5_call_69
            · have hp := hp.2 c17
              refine z_al_n M dX5_call_59 rfl hl 0 rfl ?_
              refine zg_X5_20 M u_hin5 hW hKC.k11 (M.hts _ u_fl_X5_115) dX5_call_60 ?_
              refine zi_bi M 40 dX5_call_63 (by decide +kernel) ?_
              refine zw_ne M (tgt := 70) dX5_call_65 (by decide) rfl (w_of ⟨by decide, by decide⟩) (fun c18 => ?_) (fun c18 => ?_)
              · have hp := hp.1 c18
                refine z_al_n M dX5_call_70 rfl hl 0 rfl ?_
                refine zg_X5_14 M u_hin5 hW hKC.k11 (M.hts _ u_fl_X5_48) dX5_call_71 ?_
                refine z_al_n M dX5_call_74 rfl hl 0 rfl ?_
                refine zg_X5_20 M u_hin5 hW hKC.k11 (M.hts _ u_fl_X5_115) dX5_call_75 ?_
                refine z_il_n M dX5_call_78 rfl hl 1 rfl ?_
                obtain ⟨h20, h21, hp⟩ := hp
                obtain ⟨σ19, eσ19⟩ : ∃ z : nS, z = s1 σ15 (12, 11, 0) ((σ15.1 (11, 0, 0) 20)).toNat v1 := ⟨_, rfl⟩
                have hp := hp σ19 eσ19
                refine zs_i (n := 40) M hW hS (hKC.k12 (by decide)) (fun _ _ => rfl) h20 h21 (by decide) dX5_call_79 (fun H locs hW hS => ?_)
                rw [← eσ19] at hW
                refine z_al_n M dX5_call_80 rfl hl 0 rfl ?_
                refine zg_X5_15 M u_hin5 hW hKC.k11 (M.hts _ u_fl_X5_51) dX5_call_81 ?_
                refine z_al_n M dX5_call_84 rfl hl 0 rfl ?_
                refine zg_X5_20 M u_hin5 hW hKC.k11 (M.hts _ u_fl_X5_115) dX5_call_85 ?_
                refine z_il_n M dX5_call_88 rfl hl 2 rfl ?_
                obtain ⟨h23, h24, hp⟩ := hp
                obtain ⟨σ22, eσ22⟩ : ∃ z : nS, z = s1 σ19 (12, 12, 0) ((σ19.1 (11, 0, 0) 20)).toNat v2 := ⟨_, rfl⟩
                have hp := hp σ22 eσ22
                refine zs_i (n := 40) M hW hS (hKC.k12 (by decide)) (fun _ _ => rfl) h23 h24 (by decide) dX5_call_89 (fun H locs hW hS => ?_)
                rw [← eσ22] at hW
                refine z_al_n M dX5_call_90 rfl hl 0 rfl ?_
                refine zg_X5_16 M u_hin5 hW hKC.k11 (M.hts _ u_fl_X5_54) dX5_call_91 ?_
                refine z_al_n M dX5_call_94 rfl hl 0 rfl ?_
                refine zg_X5_20 M u_hin5 hW hKC.k11 (M.hts _ u_fl_X5_115) dX5_call_95 ?_
                refine z_il_n M dX5_call_98 rfl hl 3 rfl ?_
                obtain ⟨h26, h27, hp⟩ := hp
                obtain ⟨σ25, eσ25⟩ : ∃ z : nS, z = s1 σ22 (12, 13, 0) ((σ22.1 (11, 0, 0) 20)).toNat v3 := ⟨_, rfl⟩
                have hp := hp σ25 eσ25
                refine zs_i (n := 40) M hW hS (hKC.k12 (by decide)) (fun _ _ => rfl) h26 h27 (by decide) dX5_call_99 (fun H locs hW hS => ?_)
                rw [← eσ25] at hW
                refine z_al_n M dX5_call_100 rfl hl 0 rfl ?_
                refine zg_X5_17 M u_hin5 hW hKC.k11 (M.hts _ u_fl_X5_57) dX5_call_101 ?_
                refine z_al_n M dX5_call_104 rfl hl 0 rfl ?_
                refine zg_X5_20 M u_hin5 hW hKC.k11 (M.hts _ u_fl_X5_115) dX5_call_105 ?_
                refine z_il M dX5_call_108 hl 4 rfl ?_
                obtain ⟨h29, h30, hp⟩ := hp
                obtain ⟨σ28, eσ28⟩ : ∃ z : nS, z = s1 σ25 (12, 14, 0) ((σ25.1 (11, 0, 0) 20)).toNat v4 := ⟨_, rfl⟩
                have hp := hp σ28 eσ28
                refine zs_i (n := 40) M hW hS (hKC.k12 (by decide)) (fun _ _ => rfl) h29 h30 (by decide) dX5_call_110 (fun H locs hW hS => ?_)
                rw [← eσ28] at hW
                refine z_al_n M dX5_call_111 rfl hl 0 rfl ?_
                refine zg_X5_18 M u_hin5 hW hKC.k11 (M.hts _ u_fl_X5_60) dX5_call_112 ?_
                refine z_al_n M dX5_call_115 rfl hl 0 rfl ?_
                refine zg_X5_20 M u_hin5 hW hKC.k11 (M.hts _ u_fl_X5_115) dX5_call_116 ?_
                refine z_il M dX5_call_119 hl 5 rfl ?_
                obtain ⟨h32, h33, hp⟩ := hp
                obtain ⟨σ31, eσ31⟩ : ∃ z : nS, z = s1 σ28 (12, 15, 0) ((σ28.1 (11, 0, 0) 20)).toNat v5 := ⟨_, rfl⟩
                have hp := hp σ31 eσ31
                refine zs_i (n := 40) M hW hS (hKC.k12 (by decide)) (fun _ _ => rfl) h32 h33 (by decide) dX5_call_121 (fun H locs hW hS => ?_)
                rw [← eσ31] at hW
                refine z_al_n M dX5_call_122 rfl hl 0 rfl ?_
                refine z_dup M dX5_call_123 rfl ?_
                refine zg_X5_20 M u_hin5 hW hKC.k11 (M.hts _ u_fl_X5_115) dX5_call_124 ?_
                refine zi_const M 1 dX5_call_127 rfl ?_
                refine zi_add M dX5_call_128 ?_
                obtain ⟨σ34, eσ34⟩ : ∃ z : nS, z = s1 σ31 (11, 0, 0) 20 ((σ31.1 (11, 0, 0) 20) + 1) := ⟨_, rfl⟩
                have hp := hp σ34 eσ34
                refine zp_X5_20 (v := ((σ31.1 (11, 0, 0) 20) + 1)) M u_hin5 hW hS hKC.k11 (M.hts _ u_fl_X5_115) dX5_call_129 (fun H locs hW hS => ?_)
                rw [← eσ34] at hW
                refine z_al_n M dX5_call_132 rfl hl 0 rfl ?_
                refine zg_X5_20 M u_hin5 hW hKC.k11 (M.hts _ u_fl_X5_115) dX5_call_133 ?_
                refine zi_const M 1 dX5_call_136 rfl ?_
                refine zi_sub M dX5_call_137 ?_
                exact zr_i M hr hlocks (((σ34.1 (11, 0, 0) 20) - 1), σ34) rfl ⟨hp, hW⟩ hS dX5_call_138
              · have hp := hp.2 c18
                refine zi_const M (-1) dX5_call_68 rfl ?_
                exact zr_i M hr hlocks ((-1), σ15) rfl ⟨hp, hW⟩ hS dX5_call_69
def P_X5_best (K : List nKey) (σ : nS) (v1 : Int) (k : Int → nS → Prop) : Prop :=
  ∀ σ1 : nS, σ1 = s1 σ (11, 0, 0) 24 0 → P_X5_isCall K σ1 v1 (fun r3 σ2 => ((w r3 = 0 → k (-1) σ2) ∧ (w r3 ≠ 0 → 0 ≤ v1 ∧ v1 < 40 ∧ ((0 < w (σ2.1 (12, 16, 0) (v1).toNat) → k (-1) σ2) ∧ (w (σ2.1 (12, 16, 0) (v1).toNat) ≤ 0 → 0 ≤ v1 ∧ v1 < 40 ∧ 0 ≤ v1 ∧ v1 < 40 ∧ 0 ≤ v1 ∧ v1 < 40 ∧ 0 ≤ v1 ∧ v1 < 40 ∧ P_X5_findBest K σ2 (σ2.1 (12, 11, 0) (v1).toNat) (σ2.1 (12, 12, 0) (v1).toNat) (σ2.1 (12, 14, 0) (v1).toNat) (σ2.1 (12, 13, 0) (v1).toNat) (fun r17 σ16 => ((w r17 ≠ 0 → 0 ≤ ((σ16.1 (11, 0, 0) 34) - 1) ∧ ((σ16.1 (11, 0, 0) 34) - 1) < 3 ∧ k (σ16.1 (12, 27, 0) (((σ16.1 (11, 0, 0) 34) - 1)).toNat) σ16) ∧ (w r17 = 0 → k (-1) σ16))))))))
def rmX5_best : Room := { frames := 7, cells := 0, slots := 0, locals := 184 }
set_option maxHeartbeats 4000000 in
set_option maxRecDepth 100000 in
theorem w_X5_best {l : Launch} {D : va_G} {ca : Nat → ClassId} {K : List nKey} {ad : nKey → Nat} {σ : nS} {sz : Nat} (hKC : KC K) {v1 : Int} {k : Int → nS → Prop} (hp : P_X5_best K σ v1 k) : Met l yX5_best (Cond.code yX5_best cX5_best 2 (some .int) :: UW) rmX5_best (ZP D ca [.ref (ad (11, 0, 0)), .int (iN v1)] (ZB D K ad ca σ sz)) (ZQi D K ad ca sz k) 0 0 (FA K ad sz) := by
  refine z_start (cc := cX5_best) (maxL := 2) (ret := (some .int)) (own := RX5) (K := K) (ad := ad) (σ := σ) (Qc := fun sz => ZQi D K ad ca sz k) (by decide) rfl (Nat.le_of_ble_eq_true rfl) ?_
  intro p e s m args below meth c M hr hlocks hW ls hl
  have hS : va_S (FA K ad s.heap.size) s.heap s.heap [] := va_S.rf
  have hA : ∀ q : Nat, s.heap.size ≤ q → FA K ad s.heap.size q := fun q h => Or.inr h
  replace hl : lv_has ls 2 [(0, .ref (ad (11, 0, 0))), (1, .int (iN v1))] := hl
  unfold P_X5_best at hp
  refine z_al_n M dX5_best_0 rfl hl 0 rfl ?_
  refine zi_const M 0 dX5_best_1 rfl ?_
  obtain ⟨σ1, eσ1⟩ : ∃ z : nS, z = s1 σ (11, 0, 0) 24 0 := ⟨_, rfl⟩
  have hp := hp σ1 eσ1
  refine zp_X5_24 (v := 0) M u_hin5 hW hS hKC.k11 (M.hts _ u_fl_X5_102) dX5_best_2 (fun H locs hW hS => ?_)
  rw [← eσ1] at hW
  refine z_al_n M dX5_best_5 rfl hl 0 rfl ?_
  refine z_il_n M dX5_best_6 rfl hl 1 rfl ?_
  have hfa := hW.fa hS hA
  refine zc_VU (As := [.int (iN v1)]) (rest := []) M (w_X5_isCall hKC  hp) (cuV M 1 u_co_X5_isCall u_ml_X5_157 u_ini_X5 u_in_X5_isCall u_se_X5_isCall (by decide +kernel) rfl rfl ⟨Nat.le_of_ble_eq_true rfl, Nat.le_of_ble_eq_true rfl⟩) (z_recv M hW hKC.k11 rfl rfl) ⟨rfl, hW.weaken (fun _ _ => trivial)⟩ rfl hl rfl (Nat.le_of_ble_eq_true rfl) ⟨Nat.zero_le _, Nat.zero_le _⟩ dX5_best_7 hS hfa (fun u H locs hw _ _ hS => ?_)
  obtain ⟨r3, σ2⟩ := u
  obtain ⟨hp, hW2⟩ := hw
  have hW := hW2.weaken hfa
  try dsimp only at hp
  refine zv_eq M (tgt := 53) dX5_best_10 (by decide) rfl (fun c4 => ?_) (fun c4 => ?_)
  · have hp := hp.1 c4
    refine zi_const M (-1) dX5_best_53 rfl ?_
    exact zr_i M hr hlocks ((-1), σ2) rfl ⟨hp, hW⟩ hS dX5_best_54
  · have hp := hp.2 c4
    refine z_al_n M dX5_best_13 rfl hl 0 rfl ?_
    refine zg_X5_19 M u_hin5 hW hKC.k11 (M.hts _ u_fl_X5_63) dX5_best_14 ?_
    refine z_il_n M dX5_best_17 rfl hl 1 rfl ?_
    obtain ⟨h5, h6, hp⟩ := hp
    refine za_i (n := 40) M hW (hKC.k12 (by decide)) (fun _ _ => rfl) h5 h6 (by decide) dX5_best_18 ?_
    refine zv_gt M (tgt := 53) dX5_best_19 (by decide) rfl (fun c7 => ?_) (fun c7 => ?_)
    · have hp := hp.1 c7
      refine zi_const M (-1) dX5_best_53 rfl ?_
      exact zr_i M hr hlocks ((-1), σ2) rfl ⟨hp, hW⟩ hS dX5_best_54
    · have hp := hp.2 c7
      refine z_al_n M dX5_best_22 rfl hl 0 rfl ?_
      refine z_al_n M dX5_best_23 rfl hl 0 rfl ?_
      refine zg_X5_14 M u_hin5 hW hKC.k11 (M.hts _ u_fl_X5_48) dX5_best_24 ?_
      refine z_il_n M dX5_best_27 rfl hl 1 rfl ?_
      obtain ⟨h8, h9, hp⟩ := hp
      refine za_i (n := 40) M hW (hKC.k12 (by decide)) (fun _ _ => rfl) h8 h9 (by decide) dX5_best_28 ?_
      refine z_al_n M dX5_best_29 rfl hl 0 rfl ?_
      refine zg_X5_15 M u_hin5 hW hKC.k11 (M.hts _ u_fl_X5_51) dX5_best_30 ?_
      refine z_il_n M dX5_best_33 rfl hl 1 rfl ?_
      obtain ⟨h10, h11, hp⟩ := hp
      refine za_i (n := 40) M hW (hKC.k12 (by decide)) (fun _ _ => rfl) h10 h11 (by decide) dX5_best_34 ?_
      refine z_al_n M dX5_best_35 rfl hl 0 rfl ?_
      refine zg_X5_17 M u_hin5 hW hKC.k11 (M.hts _ u_fl_X5_57) dX5_best_36 ?_
      refine z_il_n M dX5_best_39 rfl hl 1 rfl ?_
      obtain ⟨h12, h13, hp⟩ := hp
      refine za_i (n := 40) M hW (hKC.k12 (by decide)) (fun _ _ => rfl) h12 h13 (by decide) dX5_best_40 ?_
      refine z_al_n M dX5_best_41 rfl hl 0 rfl ?_
      refine zg_X5_16 M u_hin5 hW hKC.k11 (M.hts _ u_fl_X5_54) dX5_best_42 ?_
      refine z_il_n M dX5_best_45 rfl hl 1 rfl ?_
      obtain ⟨h14, h15, hp⟩ := hp
      refine za_i (n := 40) M hW (hKC.k12 (by decide)) (fun _ _ => rfl) h14 h15 (by decide) dX5_best_46 ?_
      have hfa := hW.fa hS hA
      refine zc_VU (As := [.int (iN (σ2.1 (12, 11, 0) (v1).toNat)), .int (iN (σ2.1 (12, 12, 0) (v1).toNat)), .int (iN (σ2.1 (12, 14, 0) (v1).toNat)), .int (iN (σ2.1 (12, 13, 0) (v1).toNat))]) (rest := []) M (w_X5_findBest hKC  hp) (cuV M 4 u_co_X5_findBest u_ml_X5_160 u_ini_X5 u_in_X5_findBest u_se_X5_findBest (by decide +kernel) rfl rfl ⟨Nat.le_of_ble_eq_true rfl, Nat.le_of_ble_eq_true rfl⟩) (z_recv M hW hKC.k11 rfl rfl) ⟨rfl, hW.weaken (fun _ _ => trivial)⟩ rfl hl rfl (Nat.le_of_ble_eq_true rfl) ⟨Nat.zero_le _, Nat.zero_le _⟩ dX5_best_47 hS hfa (fun u H locs hw _ _ hS => ?_)
      obtain ⟨r17, σ16⟩ := u
      obtain ⟨hp, hW2⟩ := hw
      have hW := hW2.weaken hfa
      try dsimp only at hp
      refine zv_ne M (tgt := 55) dX5_best_50 (by decide) rfl (fun c18 => ?_) (fun c18 => ?_)
      · have hp := hp.1 c18
        refine z_al_n M dX5_best_55 rfl hl 0 rfl ?_
        refine zg_X5_33 M u_hin5 hW hKC.k11 (M.hts _ u_fl_X5_99) dX5_best_56 ?_
        refine z_al_n M dX5_best_59 rfl hl 0 rfl ?_
        refine zg_X5_34 M u_hin5 hW hKC.k11 (M.hts _ u_fl_X5_142) dX5_best_60 ?_
        refine zi_const M 1 dX5_best_63 rfl ?_
        refine zi_sub M dX5_best_64 ?_
        obtain ⟨h19, h20, hp⟩ := hp
        refine za_i (n := 3) M hW (hKC.k12 (by decide)) (fun _ _ => rfl) h19 h20 (by decide) dX5_best_65 ?_
        exact zr_i M hr hlocks ((σ16.1 (12, 27, 0) (((σ16.1 (11, 0, 0) 34) - 1)).toNat), σ16) rfl ⟨hp, hW⟩ hS dX5_best_66
      · have hp := hp.2 c18
        refine zi_const M (-1) dX5_best_53 rfl ?_
        exact zr_i M hr hlocks ((-1), σ16) rfl ⟨hp, hW⟩ hS dX5_best_54
