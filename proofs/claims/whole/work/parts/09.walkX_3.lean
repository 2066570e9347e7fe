def P_X4_settleWays_L10 (K : List nKey) (k : nS → Prop) (kb2 : Int → nS → Prop) (q1 : Nat) : Nat → Int → Int → nS → Prop
  | 0 => fun _ _ _ => False
  | n + 1 => fun v2 v3 σ =>
    ((8 ≤ w v3 → ∀ x2 : Int, x2 = v2 + 1 → kb2 x2 σ) ∧ (w v3 < 8 → P_X4_roadWithin K σ (σ.1 (6, q1, 0) 1) v2 v3 (fun r4 σ3 => 0 ≤ ((v2 * 8) + v3) ∧ ((v2 * 8) + v3) < 64 ∧ ∀ σ5 : nS, σ5 = s1 σ3 (7, q1, 0) (((v2 * 8) + v3)).toNat r4 → ∀ x8 : Int, x8 = v3 + 1 → (P_X4_settleWays_L10 K k kb2 q1 n) v2 x8 σ5)))
def P_X4_settleWays_L2 (K : List nKey) (k : nS → Prop) (q1 : Nat) : Nat → Int → nS → Prop
  | 0 => fun _ _ => False
  | n + 1 => fun v2 σ =>
    ((8 ≤ w v2 → P_X3_shortenWays K σ q1 (fun σ10 => k σ10)) ∧ (w v2 < 8 → ∃ f11 : Nat, P_X4_settleWays_L10 K k (P_X4_settleWays_L2 K k q1 n) q1 f11 v2 0 σ))
def P_X4_settleWays (K : List nKey) (σ : nS) (q1 : Nat) (k : nS → Prop) : Prop :=
  ∃ f12 : Nat, P_X4_settleWays_L2 K k q1 f12 0 σ
def rmX4_settleWays : Room := { frames := 2, cells := 0, slots := 0, locals := 45 }
set_option maxHeartbeats 4000000 in
set_option maxRecDepth 100000 in
theorem w_X4_settleWays {l : Launch} {D : va_G} {ca : Nat → ClassId} {K : List nKey} {ad : nKey → Nat} {σ : nS} {sz : Nat} (hKC : KC K) {q1 : Nat} (hm_q1 : (6, q1, 0) ∈ K) {k : nS → Prop} (hp : P_X4_settleWays K σ q1 k) : Met l yX4_settleWays (Cond.code yX4_settleWays cX4_settleWays 4 none :: UW) rmX4_settleWays (ZP D ca [.ref (ad (0, 0, 0)), .ref (ad (6, q1, 0))] (ZB D K ad ca σ sz)) (ZQv D K ad ca sz k) 0 0 (FA K ad sz) := by
  refine z_start (cc := cX4_settleWays) (maxL := 4) (ret := none) (own := RX4) (K := K) (ad := ad) (σ := σ) (Qc := fun sz => ZQv D K ad ca sz k) (by decide) rfl (Nat.le_of_ble_eq_true rfl) ?_
  intro p e s m args below meth c M hr hlocks hW ls hl
  have hS : va_S (FA K ad s.heap.size) s.heap s.heap [] := va_S.rf
  have hA : ∀ q : Nat, s.heap.size ≤ q → FA K ad s.heap.size q := fun q h => Or.inr h
  replace hl : lv_has ls 4 [(0, .ref (ad (0, 0, 0))), (1, .ref (ad (6, q1, 0)))] := hl
  unfold P_X4_settleWays at hp
  have hL2 : ∀ (f2 : Nat) (v2 : Int) (σ : nS) (H : Heap) (locs : List Loc) (ls : Array Slot), P_X4_settleWays_L2 K k q1 f2 v2 σ → XW D (FA K ad s.heap.size) K ad (cR ca ad σ) H → va_S (FA K ad s.heap.size) s.heap H locs → lv_has ls 4 [(0, .ref (ad (0, 0, 0))), (1, .ref (ad (6, q1, 0))), (2, .int (iN v2))] → W p l e rmX4_settleWays s m args below meth c H locs 0 0 (MQ below (ZQv D K ad ca s.heap.size k) args s 0 0 (FA K ad s.heap.size)) (F0 m 2 ls []) := by
    intro f2
    induction f2 with
    | zero =>
      intro v2 σ H locs ls  hp
      exact hp.elim
    | succ f2 ih2 =>
      intro v2 σ H locs ls  hp hW hS hl
      have hL10 : ∀ (f10 : Nat) (v2 : Int) (v3 : Int) (σ : nS) (H : Heap) (locs : List Loc) (ls : Array Slot), P_X4_settleWays_L10 K k (P_X4_settleWays_L2 K k q1 f2) q1 f10 v2 v3 σ → XW D (FA K ad s.heap.size) K ad (cR ca ad σ) H → va_S (FA K ad s.heap.size) s.heap H locs → lv_has ls 4 [(0, .ref (ad (0, 0, 0))), (1, .ref (ad (6, q1, 0))), (2, .int (iN v2)), (3, .int (iN v3))] → W p l e rmX4_settleWays s m args below meth c H locs 0 0 (MQ below (ZQv D K ad ca s.heap.size k) args s 0 0 (FA K ad s.heap.size)) (F0 m 10 ls []) := by
        intro f10
        induction f10 with
        | zero =>
          intro v2 v3 σ H locs ls  hp
          exact hp.elim
        | succ f10 ih10 =>
          intro v2 v3 σ H locs ls  hp hW hS hl
          refine z_il_n M dX4_settleWays_10 rfl hl 3 rfl ?_
          refine zi_bi M 8 dX4_settleWays_11 (by decide +kernel) ?_
          refine zw_ge M (tgt := 43) dX4_settleWays_13 (by decide) rfl (w_of ⟨by decide, by decide⟩) (fun c1 => ?_) (fun c1 => ?_)
          · have hp := hp.1 c1
            obtain ⟨x2, ex2⟩ : ∃ z : Int, z = v2 + 1 := ⟨_, rfl⟩
            have hp := hp x2 ex2
            refine z_inc M [(2, .int (iN x2)), (0, .ref (ad (0, 0, 0))), (1, .ref (ad (6, q1, 0))), (3, .int (iN v3))] x2 dX4_settleWays_43 hl 2 rfl ex2.symm (by decide) rfl (fun ls hl => ?_)
            refine zg M (tgt := 2) dX4_settleWays_46 (by decide) ?_
            exact ih2 x2 σ _ _ _  hp hW hS (lv_sub hl [1, 2, 0] rfl)
          · have hp := hp.2 c1
            refine z_al_n M dX4_settleWays_16 rfl hl 1 rfl ?_
            refine zg_X3_5 M u_hin3 hW hm_q1 (M.hts _ u_fl_X4_214) dX4_settleWays_17 ?_
            refine z_il_n M dX4_settleWays_20 rfl hl 2 rfl ?_
            refine zi_bi M 8 dX4_settleWays_21 (by decide +kernel) ?_
            refine zi_mul M dX4_settleWays_23 ?_
            refine z_il_n M dX4_settleWays_24 rfl hl 3 rfl ?_
            refine zi_add M dX4_settleWays_25 ?_
            refine z_al_n M dX4_settleWays_26 rfl hl 0 rfl ?_
            refine z_al_n M dX4_settleWays_27 rfl hl 1 rfl ?_
            refine zg_X3_1 M u_hin3 hW hm_q1 (M.hts _ u_fl_X4_110) dX4_settleWays_28 ?_
            refine z_il_n M dX4_settleWays_31 rfl hl 2 rfl ?_
            refine z_il_n M dX4_settleWays_32 rfl hl 3 rfl ?_
            have hfa := hW.fa hS hA
            refine zc_VU (As := [.int (iN (σ.1 (6, q1, 0) 1)), .int (iN v2), .int (iN v3)]) (rest := [.int (iN ((v2 * 8) + v3)), .ref (ad (7, q1, 0))]) M (w_X4_roadWithin hKC  hp) (cuV M 3 u_co_X4_roadWithin u_ml_X4_217 u_ini_X4 u_in_X4_roadWithin u_se_X4_roadWithin (by decide +kernel) rfl rfl ⟨Nat.le_of_ble_eq_true rfl, Nat.le_of_ble_eq_true rfl⟩) (z_recv M hW hKC.k0 rfl rfl) ⟨rfl, hW.weaken (fun _ _ => trivial)⟩ rfl hl rfl (Nat.le_of_ble_eq_true rfl) ⟨Nat.zero_le _, Nat.zero_le _⟩ dX4_settleWays_33 hS hfa (fun u H locs hw _ _ hS => ?_)
            obtain ⟨r4, σ3⟩ := u
            obtain ⟨hp, hW2⟩ := hw
            have hW := hW2.weaken hfa
            try dsimp only at hp
            obtain ⟨h6, h7, hp⟩ := hp
            obtain ⟨σ5, eσ5⟩ : ∃ z : nS, z = s1 σ3 (7, q1, 0) (((v2 * 8) + v3)).toNat r4 := ⟨_, rfl⟩
            have hp := hp σ5 eσ5
            refine zs_i (n := 64) M hW hS (hKC.k7 hm_q1) (fun _ _ => rfl) h6 h7 (by decide) dX4_settleWays_36 (fun H locs hW hS => ?_)
            rw [← eσ5] at hW
            obtain ⟨x8, ex8⟩ : ∃ z : Int, z = v3 + 1 := ⟨_, rfl⟩
            have hp := hp x8 ex8
            refine z_inc M [(3, .int (iN x8)), (0, .ref (ad (0, 0, 0))), (1, .ref (ad (6, q1, 0))), (2, .int (iN v2))] x8 dX4_settleWays_37 hl 3 rfl ex8.symm (by decide) rfl (fun ls hl => ?_)
            refine zg M (tgt := 10) dX4_settleWays_40 (by decide) ?_
            exact ih10 v2 x8 σ5 _ _ _  hp hW hS (lv_sub hl [1, 2, 3, 0] rfl)
      refine z_il_n M dX4_settleWays_2 rfl hl 2 rfl ?_
      refine zi_bi M 8 dX4_settleWays_3 (by decide +kernel) ?_
      refine zw_ge M (tgt := 49) dX4_settleWays_5 (by decide) rfl (w_of ⟨by decide, by decide⟩) (fun c9 => ?_) (fun c9 => ?_)
      · have hp := hp.1 c9
        refine z_al_n M dX4_settleWays_49 rfl hl 1 rfl ?_
        have hfa := hW.fa hS hA
        refine zc_VU (As := []) (rest := []) M (w_X3_shortenWays hKC hm_q1 hp) (cuV M 0 u_co_X3_shortenWays u_ml_X4_221 u_ini_X3 u_in_X3_shortenWays u_se_X3_shortenWays (by decide +kernel) rfl rfl ⟨Nat.le_of_ble_eq_true rfl, Nat.le_of_ble_eq_true rfl⟩) (z_recv M hW hm_q1 rfl rfl) ⟨rfl, hW.weaken (fun _ _ => trivial)⟩ rfl hl rfl (Nat.le_of_ble_eq_true rfl) ⟨Nat.zero_le _, Nat.zero_le _⟩ dX4_settleWays_50 hS hfa (fun σ10 H locs hw _ _ hS => ?_)
        obtain ⟨hp, hW2⟩ := hw
        have hW := hW2.weaken hfa
        try dsimp only at hp
        exact zr_v M hr hlocks σ10 rfl ⟨hp, hW⟩ hS dX4_settleWays_53
      · have hp := hp.2 c9
        refine zi_const M 0 dX4_settleWays_8 rfl ?_
        refine z_is_n M [(3, .int (iN 0)), (0, .ref (ad (0, 0, 0))), (1, .ref (ad (6, q1, 0))), (2, .int (iN v2))] dX4_settleWays_9 rfl hl (by decide) rfl (fun ls hl => ?_)
        obtain ⟨f11, hp⟩ := hp
        exact hL10 f11 v2 0 σ _ _ _  hp hW hS (lv_sub hl [1, 2, 3, 0] rfl)
  refine zi_const M 0 dX4_settleWays_0 rfl ?_
  refine z_is_n M [(2, .int (iN 0)), (0, .ref (ad (0, 0, 0))), (1, .ref (ad (6, q1, 0)))] dX4_settleWays_1 rfl hl (by decide) rfl (fun ls hl => ?_)
  obtain ⟨f12, hp⟩ := hp
  exact hL2 f12 0 σ _ _ _  hp hW hS (lv_sub hl [1, 2, 0] rfl)
def P_X4_thereFrom (K : List nKey) (σ : nS) (q1 : Nat) (v2 : Int) (k : Int → nS → Prop) : Prop :=
  P_X4_wayOf K σ q1 (σ.1 (6, q1, 0) 6) v2 (fun r2 σ1 => ((w r2 ≠ (-1) → k ((mxI (σ1.1 (6, q1, 0) 7) (σ1.1 (6, q1, 0) 2)) + r2) σ1) ∧ (w r2 = (-1) → k (-1) σ1)))
def rmX4_thereFrom : Room := { frames := 2, cells := 0, slots := 0, locals := 44 }
set_option maxHeartbeats 4000000 in
set_option maxRecDepth 100000 in
theorem w_X4_thereFrom {l : Launch} {D : va_G} {ca : Nat → ClassId} {K : List nKey} {ad : nKey → Nat} {σ : nS} {sz : Nat} (hKC : KC K) {q1 : Nat} {v2 : Int} (hm_q1 : (6, q1, 0) ∈ K) {k : Int → nS → Prop} (hp : P_X4_thereFrom K σ q1 v2 k) : Met l yX4_thereFrom (Cond.code yX4_thereFrom cX4_thereFrom 4 (some .int) :: UW) rmX4_thereFrom (ZP D ca [.ref (ad (0, 0, 0)), .ref (ad (6, q1, 0)), .int (iN v2)] (ZB D K ad ca σ sz)) (ZQi D K ad ca sz k) 0 0 (FA K ad sz) := by
  refine z_start (cc := cX4_thereFrom) (maxL := 4) (ret := (some .int)) (own := RX4) (K := K) (ad := ad) (σ := σ) (Qc := fun sz => ZQi D K ad ca sz k) (by decide) rfl (Nat.le_of_ble_eq_true rfl) ?_
  intro p e s m args below meth c M hr hlocks hW ls hl
  have hS : va_S (FA K ad s.heap.size) s.heap s.heap [] := va_S.rf
  have hA : ∀ q : Nat, s.heap.size ≤ q → FA K ad s.heap.size q := fun q h => Or.inr h
  replace hl : lv_has ls 4 [(0, .ref (ad (0, 0, 0))), (1, .ref (ad (6, q1, 0))), (2, .int (iN v2))] := hl
  unfold P_X4_thereFrom at hp
  refine z_al_n M dX4_thereFrom_0 rfl hl 0 rfl ?_
  refine z_al_n M dX4_thereFrom_1 rfl hl 1 rfl ?_
  refine z_al_n M dX4_thereFrom_2 rfl hl 1 rfl ?_
  refine zg_X3_6 M u_hin3 hW hm_q1 (M.hts _ u_fl_X4_94) dX4_thereFrom_3 ?_
  refine z_il_n M dX4_thereFrom_6 rfl hl 2 rfl ?_
  have hfa := hW.fa hS hA
  refine zc_VU (As := [.ref (ad (6, q1, 0)), .int (iN (σ.1 (6, q1, 0) 6)), .int (iN v2)]) (rest := []) M (w_X4_wayOf hKC hm_q1 hp) (cuV M 3 u_co_X4_wayOf u_ml_X4_80 u_ini_X4 u_in_X4_wayOf u_se_X4_wayOf (by decide +kernel) rfl rfl ⟨Nat.le_of_ble_eq_true rfl, Nat.le_of_ble_eq_true rfl⟩) (z_recv M hW hKC.k0 rfl rfl) ⟨rfl, hW.weaken (fun _ _ => trivial)⟩ rfl hl rfl (Nat.le_of_ble_eq_true rfl) ⟨Nat.zero_le _, Nat.zero_le _⟩ dX4_thereFrom_7 hS hfa (fun u H locs hw _ _ hS => ?_)
  obtain ⟨r2, σ1⟩ := u
  obtain ⟨hp, hW2⟩ := hw
  have hW := hW2.weaken hfa
  try dsimp only at hp
  refine z_is_n M [(3, .int (iN r2)), (0, .ref (ad (0, 0, 0))), (1, .ref (ad (6, q1, 0))), (2, .int (iN v2))] dX4_thereFrom_10 rfl hl (by decide) rfl (fun ls hl => ?_)
  refine z_il_n M dX4_thereFrom_11 rfl hl 0 rfl ?_
  refine zi_const M (-1) dX4_thereFrom_12 rfl ?_
  refine zw_ne M (tgt := 20) dX4_thereFrom_13 (by decide) rfl (w_of ⟨by decide, by decide⟩) (fun c3 => ?_) (fun c3 => ?_)
  · have hp := hp.1 c3
    refine z_al_n M dX4_thereFrom_20 rfl hl 2 rfl ?_
    refine zg_X3_7 M u_hin3 hW hm_q1 (M.hts _ u_fl_X4_101) dX4_thereFrom_21 ?_
    refine z_al_n M dX4_thereFrom_24 rfl hl 2 rfl ?_
    refine zg_X3_2 M u_hin3 hW hm_q1 (M.hts _ u_fl_X4_224) dX4_thereFrom_25 ?_
    refine zi_max M hl (M.hts _ u_ml_X4_131) (M.hts _ u_st_max) (M.hts _ u_ini_Math) (M.hts _ u_co_max) (Nat.le_of_ble_eq_true rfl) (Nat.le_of_ble_eq_true rfl) (Nat.zero_le _) (Nat.zero_le _) dX4_thereFrom_28 ?_
    refine z_il_n M dX4_thereFrom_31 rfl hl 0 rfl ?_
    refine zi_add M dX4_thereFrom_32 ?_
    exact zr_i M hr hlocks (((mxI (σ1.1 (6, q1, 0) 7) (σ1.1 (6, q1, 0) 2)) + r2), σ1) rfl ⟨hp, hW⟩ hS dX4_thereFrom_33
  · have hp := hp.2 c3
    refine zi_const M (-1) dX4_thereFrom_16 rfl ?_
    refine zg M (tgt := 33) dX4_thereFrom_17 (by decide) ?_
    exact zr_i M hr hlocks ((-1), σ1) rfl ⟨hp, hW⟩ hS dX4_thereFrom_33
def P_X4_isCounted (K : List nKey) (σ : nS) (q0 : Nat) (v1 : Int) (k : Int → nS → Prop) : Prop :=
  ((w v1 = 3 → ((σ.1 (8, q0, 0) 7) = 0 ∨ (σ.1 (8, q0, 0) 7) = 1) ∧ k (σ.1 (8, q0, 0) 7) σ) ∧ (w v1 = 4 → ((σ.1 (8, q0, 0) 8) = 0 ∨ (σ.1 (8, q0, 0) 8) = 1) ∧ k (σ.1 (8, q0, 0) 8) σ) ∧ (w v1 ≠ 3 → w v1 ≠ 4 → P_X2_cameWarm K σ q0 (fun r2 σ1 => (r2 = 0 ∨ r2 = 1) ∧ k r2 σ1)))
def rmX4_isCounted : Room := { frames := 3, cells := 0, slots := 0, locals := 62 }
set_option maxHeartbeats 4000000 in
set_option maxRecDepth 100000 in
theorem w_X4_isCounted {l : Launch} {D : va_G} {ca : Nat → ClassId} {K : List nKey} {ad : nKey → Nat} {σ : nS} {sz : Nat} (hKC : KC K) {q0 : Nat} {v1 : Int} (hm_q0 : (8, q0, 0) ∈ K) {k : Int → nS → Prop} (hp : P_X4_isCounted K σ q0 v1 k) : Met l yX4_isCounted (Cond.code yX4_isCounted cX4_isCounted 2 (some .boolean) :: UW) rmX4_isCounted (ZP D ca [.ref (ad (8, q0, 0)), .int (iN v1)] (ZB D K ad ca σ sz)) (ZQi D K ad ca sz k) 0 0 (FA K ad sz) := by
  refine z_start (cc := cX4_isCounted) (maxL := 2) (ret := (some .boolean)) (own := RX4) (K := K) (ad := ad) (σ := σ) (Qc := fun sz => ZQi D K ad ca sz k) (by decide) rfl (Nat.le_of_ble_eq_true rfl) ?_
  intro p e s m args below meth c M hr hlocks hW ls hl
  have hS : va_S (FA K ad s.heap.size) s.heap s.heap [] := va_S.rf
  have hA : ∀ q : Nat, s.heap.size ≤ q → FA K ad s.heap.size q := fun q h => Or.inr h
  replace hl : lv_has ls 2 [(0, .ref (ad (8, q0, 0))), (1, .int (iN v1))] := hl
  unfold P_X4_isCounted at hp
  refine z_il_n M dX4_isCounted_0 rfl hl 1 rfl ?_
  by_cases c1_3 : w v1 = 3
  · have hp := hp.1 c1_3
    refine z_look M (off := 27) (tgt := 28) dX4_isCounted_1 (by decide) (by rw [c1_3]; rfl) (by decide) ?_
    refine z_al_n M dX4_isCounted_28 rfl hl 0 rfl ?_
    refine zg_X2_7 M u_hin2 hW hm_q0 (M.hts _ u_fl_X4_141) dX4_isCounted_29 ?_
    obtain ⟨hz, hp⟩ := hp
    exact zr_z M hr hlocks ((σ.1 (8, q0, 0) 7), σ) hz rfl ⟨hp, hW⟩ hS dX4_isCounted_32
  · by_cases c1_4 : w v1 = 4
    · have hp := hp.2.1 c1_4
      refine z_look M (off := 32) (tgt := 33) dX4_isCounted_1 (by decide) (by rw [c1_4]; rfl) (by decide) ?_
      refine z_al_n M dX4_isCounted_33 rfl hl 0 rfl ?_
      refine zg_X2_8 M u_hin2 hW hm_q0 (M.hts _ u_fl_X4_172) dX4_isCounted_34 ?_
      obtain ⟨hz, hp⟩ := hp
      exact zr_z M hr hlocks ((σ.1 (8, q0, 0) 8), σ) hz rfl ⟨hp, hW⟩ hS dX4_isCounted_37
    · have hp := hp.2.2 c1_3 c1_4
      refine z_look M (off := 37) (tgt := 38) dX4_isCounted_1 (by decide) (by rw [Op.lookupswitch.offset_cons, if_neg (Ne.symm c1_3)]; rw [Op.lookupswitch.offset_cons, if_neg (Ne.symm c1_4)]; rfl) (by decide) ?_
      refine z_al_n M dX4_isCounted_38 rfl hl 0 rfl ?_
      have hfa := hW.fa hS hA
      refine zc_VU (As := []) (rest := []) M (w_X2_cameWarm hKC hm_q0 hp) (cuV M 0 u_co_X2_cameWarm u_ml_X4_231 u_ini_X2 u_in_X2_cameWarm u_se_X2_cameWarm (by decide +kernel) rfl rfl ⟨Nat.le_of_ble_eq_true rfl, Nat.le_of_ble_eq_true rfl⟩) (z_recv M hW hm_q0 rfl rfl) ⟨rfl, hW.weaken (fun _ _ => trivial)⟩ rfl hl rfl (Nat.le_of_ble_eq_true rfl) ⟨Nat.zero_le _, Nat.zero_le _⟩ dX4_isCounted_39 hS hfa (fun u H locs hw _ _ hS => ?_)
      obtain ⟨r2, σ1⟩ := u
      obtain ⟨hp, hW2⟩ := hw
      have hW := hW2.weaken hfa
      try dsimp only at hp
      obtain ⟨hz, hp⟩ := hp
      exact zr_z M hr hlocks (r2, σ1) hz rfl ⟨hp, hW⟩ hS dX4_isCounted_42
def P_X4_countRequests_L4 (K : List nKey) (k : Int → nS → Prop) (v1 : Int) : Nat → Int → Int → nS → Prop
  | 0 => fun _ _ _ => False
  | n + 1 => fun v2 v3 σ =>
    ((w (σ.1 (0, 0, 0) 7) ≤ w v3 → k v2 σ) ∧ (w v3 < w (σ.1 (0, 0, 0) 7) → P_X4_requestAt K σ v3 (fun r3 σ2 => ((r3 = none → ∀ x5 : Int, x5 = v3 + 1 → (P_X4_countRequests_L4 K k v1 n) v2 x5 σ2) ∧ (∀ q4 : Nat, r3 = some q4 → (8, q4, 0) ∈ K ∧ P_X4_isCounted K σ2 q4 v1 (fun r7 σ6 => ((w r7 = 0 → ∀ x9 : Int, x9 = v3 + 1 → (P_X4_countRequests_L4 K k v1 n) v2 x9 σ6) ∧ (w r7 ≠ 0 → ∀ x10 : Int, x10 = v2 + 1 → ∀ x11 : Int, x11 = v3 + 1 → (P_X4_countRequests_L4 K k v1 n) x10 x11 σ6))))))))
def P_X4_countRequests (K : List nKey) (σ : nS) (v1 : Int) (k : Int → nS → Prop) : Prop :=
  ∃ f12 : Nat, P_X4_countRequests_L4 K k v1 f12 0 0 σ
def rmX4_countRequests : Room := { frames := 4, cells := 0, slots := 0, locals := 83 }
set_option maxHeartbeats 4000000 in
set_option maxRecDepth 100000 in
theorem w_X4_countRequests {l : Launch} {D : va_G} {ca : Nat → ClassId} {K : List nKey} {ad : nKey → Nat} {σ : nS} {sz : Nat} (hKC : KC K) {v1 : Int} {k : Int → nS → Prop} (hp : P_X4_countRequests K σ v1 k) : Met l yX4_countRequests (Cond.code yX4_countRequests cX4_countRequests 5 (some .int) :: UW) rmX4_countRequests (ZP D ca [.ref (ad (0, 0, 0)), .int (iN v1)] (ZB D K ad ca σ sz)) (ZQi D K ad ca sz k) 0 0 (FA K ad sz) := by
  refine z_start (cc := cX4_countRequests) (maxL := 5) (ret := (some .int)) (own := RX4) (K := K) (ad := ad) (σ := σ) (Qc := fun sz => ZQi D K ad ca sz k) (by decide) rfl (Nat.le_of_ble_eq_true rfl) ?_
  intro p e s m args below meth c M hr hlocks hW ls hl
  have hS : va_S (FA K ad s.heap.size) s.heap s.heap [] := va_S.rf
  have hA : ∀ q : Nat, s.heap.size ≤ q → FA K ad s.heap.size q := fun q h => Or.inr h
  replace hl : lv_has ls 5 [(0, .ref (ad (0, 0, 0))), (1, .int (iN v1))] := hl
  unfold P_X4_countRequests at hp
  have hL4 : ∀ (f4 : Nat) (v2 : Int) (v3 : Int) (σ : nS) (H : Heap) (locs : List Loc) (ls : Array Slot), P_X4_countRequests_L4 K k v1 f4 v2 v3 σ → XW D (FA K ad s.heap.size) K ad (cR ca ad σ) H → va_S (FA K ad s.heap.size) s.heap H locs → lv_has ls 5 [(0, .ref (ad (0, 0, 0))), (1, .int (iN v1)), (2, .int (iN v2)), (3, .int (iN v3))] → W p l e rmX4_countRequests s m args below meth c H locs 0 0 (MQ below (ZQi D K ad ca s.heap.size k) args s 0 0 (FA K ad s.heap.size)) (F0 m 4 ls []) := by
    intro f4
    induction f4 with
    | zero =>
      intro v2 v3 σ H locs ls  hp
      exact hp.elim
    | succ f4 ih4 =>
      intro v2 v3 σ H locs ls  hp hW hS hl
      refine z_il_n M dX4_countRequests_4 rfl hl 3 rfl ?_
      refine z_al_n M dX4_countRequests_5 rfl hl 0 rfl ?_
      refine zg_X4_7 M u_hin4 hW hKC.k0 (M.hts _ u_fl_X4_42) dX4_countRequests_6 ?_
      refine zw_ge M (tgt := 42) dX4_countRequests_9 (by decide) rfl rfl (fun c1 => ?_) (fun c1 => ?_)
      · have hp := hp.1 c1
        refine z_il_n M dX4_countRequests_42 rfl hl 2 rfl ?_
        exact zr_i M hr hlocks (v2, σ) rfl ⟨hp, hW⟩ hS dX4_countRequests_43
      · have hp := hp.2 c1
        refine z_al_n M dX4_countRequests_12 rfl hl 0 rfl ?_
        refine z_il_n M dX4_countRequests_13 rfl hl 3 rfl ?_
        have hfa := hW.fa hS hA
        refine zc_VU (As := [.int (iN v3)]) (rest := []) M (w_X4_requestAt hKC  hp) (cuV M 1 u_co_X4_requestAt u_ml_X4_137 u_ini_X4 u_in_X4_requestAt u_se_X4_requestAt (by decide +kernel) rfl rfl ⟨Nat.le_of_ble_eq_true rfl, Nat.le_of_ble_eq_true rfl⟩) (z_recv M hW hKC.k0 rfl rfl) ⟨rfl, hW.weaken (fun _ _ => trivial)⟩ rfl hl rfl (Nat.le_of_ble_eq_true rfl) ⟨Nat.zero_le _, Nat.zero_le _⟩ dX4_countRequests_14 hS hfa (fun u H locs hw _ _ hS => ?_)
        obtain ⟨r3, σ2⟩ := u
        obtain ⟨hp, hW2⟩ := hw
        have hW := hW2.weaken hfa
        try dsimp only at hp
        rcases r3 with _ | q4
        · refine W.eq (g2 := F0 m 17 ls (.null :: [])) rfl ?_
          have hp := hp.1 rfl
          refine z_asn M [(4, .null), (0, .ref (ad (0, 0, 0))), (1, .int (iN v1)), (2, .int (iN v2)), (3, .int (iN v3))] dX4_countRequests_17 hl (by decide) rfl (fun ls hl => ?_)
          refine z_aln M dX4_countRequests_19 hl 0 rfl ?_
          refine z_ifnN M (tgt := 36) dX4_countRequests_21 (by decide) ?_
          obtain ⟨x5, ex5⟩ : ∃ z : Int, z = v3 + 1 := ⟨_, rfl⟩
          have hp := hp x5 ex5
          refine z_inc M [(3, .int (iN x5)), (4, .null), (0, .ref (ad (0, 0, 0))), (1, .int (iN v1)), (2, .int (iN v2))] x5 dX4_countRequests_36 hl 4 rfl ex5.symm (by decide) rfl (fun ls hl => ?_)
          refine zg M (tgt := 4) dX4_countRequests_39 (by decide) ?_
          exact ih4 v2 x5 σ2 _ _ _  hp hW hS (lv_sub hl [2, 3, 4, 0] rfl)
        · refine W.eq (g2 := F0 m 17 ls (.ref (ad (8, q4, 0)) :: [])) rfl ?_
          obtain ⟨hm_q4, hp⟩ := hp.2 q4 rfl
          refine z_as M [(4, .ref (ad (8, q4, 0))), (0, .ref (ad (0, 0, 0))), (1, .int (iN v1)), (2, .int (iN v2)), (3, .int (iN v3))] dX4_countRequests_17 hl (by decide) rfl (fun ls hl => ?_)
          refine z_al M dX4_countRequests_19 hl 0 rfl ?_
          refine z_ifn M dX4_countRequests_21 ?_
          refine z_al M dX4_countRequests_24 hl 0 rfl ?_
          refine z_il_n M dX4_countRequests_26 rfl hl 2 rfl ?_
          have hfa := hW.fa hS hA
          refine zc_SU (As := [.ref (ad (8, q4, 0)), .int (iN v1)]) (rest := []) M (w_X4_isCounted hKC hm_q4 hp) (cuS M 2 u_co_X4_isCounted u_ml_X4_227 u_ini_X4 u_st_X4_isCounted (by decide +kernel) rfl rfl ⟨Nat.le_of_ble_eq_true rfl, Nat.le_of_ble_eq_true rfl⟩) ⟨rfl, hW.weaken (fun _ _ => trivial)⟩ rfl hl rfl (Nat.le_of_ble_eq_true rfl) ⟨Nat.zero_le _, Nat.zero_le _⟩ dX4_countRequests_27 hS hfa (fun u H locs hw _ _ hS => ?_)
          obtain ⟨r7, σ6⟩ := u
          obtain ⟨hp, hW2⟩ := hw
          have hW := hW2.weaken hfa
          try dsimp only at hp
          refine zv_eq M (tgt := 36) dX4_countRequests_30 (by decide) rfl (fun c8 => ?_) (fun c8 => ?_)
          · have hp := hp.1 c8
            obtain ⟨x9, ex9⟩ : ∃ z : Int, z = v3 + 1 := ⟨_, rfl⟩
            have hp := hp x9 ex9
            refine z_inc M [(3, .int (iN x9)), (4, .ref (ad (8, q4, 0))), (0, .ref (ad (0, 0, 0))), (1, .int (iN v1)), (2, .int (iN v2))] x9 dX4_countRequests_36 hl 4 rfl ex9.symm (by decide) rfl (fun ls hl => ?_)
            refine zg M (tgt := 4) dX4_countRequests_39 (by decide) ?_
            exact ih4 v2 x9 σ6 _ _ _  hp hW hS (lv_sub hl [2, 3, 4, 0] rfl)
          · have hp := hp.2 c8
            obtain ⟨x10, ex10⟩ : ∃ z : Int, z = v2 + 1 := ⟨_, rfl⟩
            have hp := hp x10 ex10
            refine z_inc M [(2, .int (iN x10)), (4, .ref (ad (8, q4, 0))), (0, .ref (ad (0, 0, 0))), (1, .int (iN v1)), (3, .int (iN v3))] x10 dX4_countRequests_33 hl 3 rfl ex10.symm (by decide) rfl (fun ls hl => ?_)
            obtain ⟨x11, ex11⟩ : ∃ z : Int, z = v3 + 1 := ⟨_, rfl⟩
            have hp := hp x11 ex11
            refine z_inc M [(3, .int (iN x11)), (2, .int (iN x10)), (4, .ref (ad (8, q4, 0))), (0, .ref (ad (0, 0, 0))), (1, .int (iN v1))] x11 dX4_countRequests_36 hl 4 rfl ex11.symm (by decide) rfl (fun ls hl => ?_)
            refine zg M (tgt := 4) dX4_countRequests_39 (by decide) ?_
            exact ih4 x10 x11 σ6 _ _ _  hp hW hS (lv_sub hl [3, 4, 1, 0] rfl)
  refine zi_const M 0 dX4_countRequests_0 rfl ?_
  refine z_is_n M [(2, .int (iN 0)), (0, .ref (ad (0, 0, 0))), (1, .int (iN v1))] dX4_countRequests_1 rfl hl (by decide) rfl (fun ls hl => ?_)
  refine zi_const M 0 dX4_countRequests_2 rfl ?_
  refine z_is_n M [(3, .int (iN 0)), (2, .int (iN 0)), (0, .ref (ad (0, 0, 0))), (1, .int (iN v1))] dX4_countRequests_3 rfl hl (by decide) rfl (fun ls hl => ?_)
  obtain ⟨f12, hp⟩ := hp
  exact hL4 f12 0 0 σ _ _ _  hp hW hS (lv_sub hl [2, 3, 1, 0] rfl)
def P_X4_lastOnDuty_L5 (K : List nKey) (k : Int → nS → Prop) (v1 : Int) (v2 : Int) : Nat → Int → Int → nS → Prop
  | 0 => fun _ _ _ => False
  | n + 1 => fun v3 v4 σ =>
    ((w (σ.1 (0, 0, 0) 6) ≤ w v4 → k v3 σ) ∧ (w v4 < w (σ.1 (0, 0, 0) 6) → P_X4_riderAt K σ v4 (fun r3 σ2 => ((r3 = none → ∀ x5 : Int, x5 = v4 + 1 → (P_X4_lastOnDuty_L5 K k v1 v2 n) v3 x5 σ2) ∧ (∀ q4 : Nat, r3 = some q4 → (6, q4, 0) ∈ K ∧ P_X3_carries K σ2 q4 v2 (fun r7 σ6 => ((w r7 = 0 → ∀ x9 : Int, x9 = v4 + 1 → (P_X4_lastOnDuty_L5 K k v1 v2 n) v3 x9 σ6) ∧ (w r7 ≠ 0 → P_X3_isOnDuty K σ6 q4 v1 (fun r11 σ10 => ((w r11 = 0 → ∀ x13 : Int, x13 = v4 + 1 → (P_X4_lastOnDuty_L5 K k v1 v2 n) v3 x13 σ10) ∧ (w r11 ≠ 0 → ∀ x14 : Int, x14 = (mxI v3 (σ10.1 (6, q4, 0) 3)) → ∀ x15 : Int, x15 = v4 + 1 → (P_X4_lastOnDuty_L5 K k v1 v2 n) x14 x15 σ10)))))))))))
def P_X4_lastOnDuty (K : List nKey) (σ : nS) (v1 : Int) (v2 : Int) (k : Int → nS → Prop) : Prop :=
  ∃ f16 : Nat, P_X4_lastOnDuty_L5 K k v1 v2 f16 (-1) 0 σ
def rmX4_lastOnDuty : Room := { frames := 2, cells := 0, slots := 0, locals := 42 }
set_option maxHeartbeats 4000000 in
set_option maxRecDepth 100000 in
theorem w_X4_lastOnDuty {l : Launch} {D : va_G} {ca : Nat → ClassId} {K : List nKey} {ad : nKey → Nat} {σ : nS} {sz : Nat} (hKC : KC K) {v1 : Int} {v2 : Int} {k : Int → nS → Prop} (hp : P_X4_lastOnDuty K σ v1 v2 k) : Met l yX4_lastOnDuty (Cond.code yX4_lastOnDuty cX4_lastOnDuty 6 (some .int) :: UW) rmX4_lastOnDuty (ZP D ca [.ref (ad (0, 0, 0)), .int (iN v1), .int (iN v2)] (ZB D K ad ca σ sz)) (ZQi D K ad ca sz k) 0 0 (FA K ad sz) := by
  refine z_start (cc := cX4_lastOnDuty) (maxL := 6) (ret := (some .int)) (own := RX4) (K := K) (ad := ad) (σ := σ) (Qc := fun sz => ZQi D K ad ca sz k) (by decide) rfl (Nat.le_of_ble_eq_true rfl) ?_
  intro p e s m args below meth c M hr hlocks hW ls hl
  have hS : va_S (FA K ad s.heap.size) s.heap s.heap [] := va_S.rf
  have hA : ∀ q : Nat, s.heap.size ≤ q → FA K ad s.heap.size q := fun q h => Or.inr h
  replace hl : lv_has ls 6 [(0, .ref (ad (0, 0, 0))), (1, .int (iN v1)), (2, .int (iN v2))] := hl
  unfold P_X4_lastOnDuty at hp
  have hL5 : ∀ (f5 : Nat) (v3 : Int) (v4 : Int) (σ : nS) (H : Heap) (locs : List Loc) (ls : Array Slot), P_X4_lastOnDuty_L5 K k v1 v2 f5 v3 v4 σ → XW D (FA K ad s.heap.size) K ad (cR ca ad σ) H → va_S (FA K ad s.heap.size) s.heap H locs → lv_has ls 6 [(0, .ref (ad (0, 0, 0))), (1, .int (iN v1)), (2, .int (iN v2)), (3, .int (iN v3)), (4, .int (iN v4))] → W p l e rmX4_lastOnDuty s m args below meth c H locs 0 0 (MQ below (ZQi D K ad ca s.heap.size k) args s 0 0 (FA K ad s.heap.size)) (F0 m 5 ls []) := by
    intro f5
    induction f5 with
    | zero =>
      intro v3 v4 σ H locs ls  hp
      exact hp.elim
    | succ f5 ih5 =>
      intro v3 v4 σ H locs ls  hp hW hS hl
      refine z_il M dX4_lastOnDuty_5 hl 4 rfl ?_
      refine z_al_n M dX4_lastOnDuty_7 rfl hl 0 rfl ?_
      refine zg_X4_6 M u_hin4 hW hKC.k0 (M.hts _ u_fl_X4_39) dX4_lastOnDuty_8 ?_
      refine zw_ge M (tgt := 61) dX4_lastOnDuty_11 (by decide) rfl rfl (fun c1 => ?_) (fun c1 => ?_)
      · have hp := hp.1 c1
        refine z_il_n M dX4_lastOnDuty_61 rfl hl 3 rfl ?_
        exact zr_i M hr hlocks (v3, σ) rfl ⟨hp, hW⟩ hS dX4_lastOnDuty_62
      · have hp := hp.2 c1
        refine z_al_n M dX4_lastOnDuty_14 rfl hl 0 rfl ?_
        refine z_il M dX4_lastOnDuty_15 hl 4 rfl ?_
        have hfa := hW.fa hS hA
        refine zc_VU (As := [.int (iN v4)]) (rest := []) M (w_X4_riderAt hKC  hp) (cuV M 1 u_co_X4_riderAt u_ml_X4_55 u_ini_X4 u_in_X4_riderAt u_se_X4_riderAt (by decide +kernel) rfl rfl ⟨Nat.le_of_ble_eq_true rfl, Nat.le_of_ble_eq_true rfl⟩) (z_recv M hW hKC.k0 rfl rfl) ⟨rfl, hW.weaken (fun _ _ => trivial)⟩ rfl hl rfl (Nat.le_of_ble_eq_true rfl) ⟨Nat.zero_le _, Nat.zero_le _⟩ dX4_lastOnDuty_17 hS hfa (fun u H locs hw _ _ hS => ?_)
        obtain ⟨r3, σ2⟩ := u
        obtain ⟨hp, hW2⟩ := hw
        have hW := hW2.weaken hfa
        try dsimp only at hp
        rcases r3 with _ | q4
        · refine W.eq (g2 := F0 m 20 ls (.null :: [])) rfl ?_
          have hp := hp.1 rfl
          refine z_asn M [(5, .null), (0, .ref (ad (0, 0, 0))), (1, .int (iN v1)), (2, .int (iN v2)), (3, .int (iN v3)), (4, .int (iN v4))] dX4_lastOnDuty_20 hl (by decide) rfl (fun ls hl => ?_)
          refine z_aln M dX4_lastOnDuty_22 hl 0 rfl ?_
          refine z_ifnN M (tgt := 55) dX4_lastOnDuty_24 (by decide) ?_
          obtain ⟨x5, ex5⟩ : ∃ z : Int, z = v4 + 1 := ⟨_, rfl⟩
          have hp := hp x5 ex5
          refine z_inc M [(4, .int (iN x5)), (5, .null), (0, .ref (ad (0, 0, 0))), (1, .int (iN v1)), (2, .int (iN v2)), (3, .int (iN v3))] x5 dX4_lastOnDuty_55 hl 5 rfl ex5.symm (by decide) rfl (fun ls hl => ?_)
          refine zg M (tgt := 5) dX4_lastOnDuty_58 (by decide) ?_
          exact ih5 v3 x5 σ2 _ _ _  hp hW hS (lv_sub hl [2, 3, 4, 5, 0] rfl)
        · refine W.eq (g2 := F0 m 20 ls (.ref (ad (6, q4, 0)) :: [])) rfl ?_
          obtain ⟨hm_q4, hp⟩ := hp.2 q4 rfl
          refine z_as M [(5, .ref (ad (6, q4, 0))), (0, .ref (ad (0, 0, 0))), (1, .int (iN v1)), (2, .int (iN v2)), (3, .int (iN v3)), (4, .int (iN v4))] dX4_lastOnDuty_20 hl (by decide) rfl (fun ls hl => ?_)
          refine z_al M dX4_lastOnDuty_22 hl 0 rfl ?_
          refine z_ifn M dX4_lastOnDuty_24 ?_
          refine z_al M dX4_lastOnDuty_27 hl 0 rfl ?_
          refine z_il_n M dX4_lastOnDuty_29 rfl hl 3 rfl ?_
          have hfa := hW.fa hS hA
          refine zc_VU (As := [.int (iN v2)]) (rest := []) M (w_X3_carries hKC hm_q4 hp) (cuV M 1 u_co_X3_carries u_ml_X4_121 u_ini_X3 u_in_X3_carries u_se_X3_carries (by decide +kernel) rfl rfl ⟨Nat.le_of_ble_eq_true rfl, Nat.le_of_ble_eq_true rfl⟩) (z_recv M hW hm_q4 rfl rfl) ⟨rfl, hW.weaken (fun _ _ => trivial)⟩ rfl hl rfl (Nat.le_of_ble_eq_true rfl) ⟨Nat.zero_le _, Nat.zero_le _⟩ dX4_lastOnDuty_30 hS hfa (fun u H locs hw _ _ hS => ?_)
          obtain ⟨r7, σ6⟩ := u
          obtain ⟨hp, hW2⟩ := hw
          have hW := hW2.weaken hfa
          try dsimp only at hp
          refine zv_eq M (tgt := 55) dX4_lastOnDuty_33 (by decide) rfl (fun c8 => ?_) (fun c8 => ?_)
          · have hp := hp.1 c8
            obtain ⟨x9, ex9⟩ : ∃ z : Int, z = v4 + 1 := ⟨_, rfl⟩
            have hp := hp x9 ex9
            refine z_inc M [(4, .int (iN x9)), (5, .ref (ad (6, q4, 0))), (0, .ref (ad (0, 0, 0))), (1, .int (iN v1)), (2, .int (iN v2)), (3, .int (iN v3))] x9 dX4_lastOnDuty_55 hl 5 rfl ex9.symm (by decide) rfl (fun ls hl => ?_)
            refine zg M (tgt := 5) dX4_lastOnDuty_58 (by decide) ?_
            exact ih5 v3 x9 σ6 _ _ _  hp hW hS (lv_sub hl [2, 3, 4, 5, 0] rfl)
          · have hp := hp.2 c8
            refine z_al M dX4_lastOnDuty_36 hl 0 rfl ?_
            refine z_il_n M dX4_lastOnDuty_38 rfl hl 2 rfl ?_
            have hfa := hW.fa hS hA
            refine zc_VU (As := [.int (iN v1)]) (rest := []) M (w_X3_isOnDuty hKC hm_q4 hp) (cuV M 1 u_co_X3_isOnDuty u_ml_X4_124 u_ini_X3 u_in_X3_isOnDuty u_se_X3_isOnDuty (by decide +kernel) rfl rfl ⟨Nat.le_of_ble_eq_true rfl, Nat.le_of_ble_eq_true rfl⟩) (z_recv M hW hm_q4 rfl rfl) ⟨rfl, hW.weaken (fun _ _ => trivial)⟩ rfl hl rfl (Nat.le_of_ble_eq_true rfl) ⟨Nat.zero_le _, Nat.zero_le _⟩ dX4_lastOnDuty_39 hS hfa (fun u H locs hw _ _ hS => ?_)
            obtain ⟨r11, σ10⟩ := u
            obtain ⟨hp, hW2⟩ := hw
            have hW := hW2.weaken hfa
            try dsimp only at hp
            refine zv_eq M (tgt := 55) dX4_lastOnDuty_42 (by decide) rfl (fun c12 => ?_) (fun c12 => ?_)
            · have hp := hp.1 c12
              obtain ⟨x13, ex13⟩ : ∃ z : Int, z = v4 + 1 := ⟨_, rfl⟩
              have hp := hp x13 ex13
              refine z_inc M [(4, .int (iN x13)), (5, .ref (ad (6, q4, 0))), (0, .ref (ad (0, 0, 0))), (1, .int (iN v1)), (2, .int (iN v2)), (3, .int (iN v3))] x13 dX4_lastOnDuty_55 hl 5 rfl ex13.symm (by decide) rfl (fun ls hl => ?_)
              refine zg M (tgt := 5) dX4_lastOnDuty_58 (by decide) ?_
              exact ih5 v3 x13 σ10 _ _ _  hp hW hS (lv_sub hl [2, 3, 4, 5, 0] rfl)
            · have hp := hp.2 c12
              refine z_il_n M dX4_lastOnDuty_45 rfl hl 4 rfl ?_
              refine z_al M dX4_lastOnDuty_46 hl 0 rfl ?_
              refine zg_X3_3 M u_hin3 hW hm_q4 (M.hts _ u_fl_X4_211) dX4_lastOnDuty_48 ?_
              refine zi_max M hl (M.hts _ u_ml_X4_131) (M.hts _ u_st_max) (M.hts _ u_ini_Math) (M.hts _ u_co_max) (Nat.le_of_ble_eq_true rfl) (Nat.le_of_ble_eq_true rfl) (Nat.zero_le _) (Nat.zero_le _) dX4_lastOnDuty_51 ?_
              refine zi_nm (fun x14 ex14 => ?_)
              have hp := hp x14 ex14
              refine z_is_n M [(3, .int (iN x14)), (5, .ref (ad (6, q4, 0))), (0, .ref (ad (0, 0, 0))), (1, .int (iN v1)), (2, .int (iN v2)), (4, .int (iN v4))] dX4_lastOnDuty_54 rfl hl (by decide) rfl (fun ls hl => ?_)
              obtain ⟨x15, ex15⟩ : ∃ z : Int, z = v4 + 1 := ⟨_, rfl⟩
              have hp := hp x15 ex15
              refine z_inc M [(4, .int (iN x15)), (3, .int (iN x14)), (5, .ref (ad (6, q4, 0))), (0, .ref (ad (0, 0, 0))), (1, .int (iN v1)), (2, .int (iN v2))] x15 dX4_lastOnDuty_55 hl 5 rfl ex15.symm (by decide) rfl (fun ls hl => ?_)
              refine zg M (tgt := 5) dX4_lastOnDuty_58 (by decide) ?_
              exact ih5 x14 x15 σ10 _ _ _  hp hW hS (lv_sub hl [3, 4, 5, 1, 0] rfl)
  refine zi_const M (-1) dX4_lastOnDuty_0 rfl ?_
  refine z_is_n M [(3, .int (iN (-1))), (0, .ref (ad (0, 0, 0))), (1, .int (iN v1)), (2, .int (iN v2))] dX4_lastOnDuty_1 rfl hl (by decide) rfl (fun ls hl => ?_)
  refine zi_const M 0 dX4_lastOnDuty_2 rfl ?_
  refine z_is M [(4, .int (iN 0)), (3, .int (iN (-1))), (0, .ref (ad (0, 0, 0))), (1, .int (iN v1)), (2, .int (iN v2))] dX4_lastOnDuty_3 hl (by decide) rfl (fun ls hl => ?_)
  obtain ⟨f16, hp⟩ := hp
  exact hL5 f16 (-1) 0 σ _ _ _  hp hW hS (lv_sub hl [2, 3, 4, 1, 0] rfl)
def P_X4_place (K : List nKey) (σ : nS) (k : Int → nS → Prop) : Prop :=
  ((w (σ.1 (0, 0, 0) 5) < 8 → ∀ σ2 : nS, σ2 = s1 σ (0, 0, 0) 5 ((σ.1 (0, 0, 0) 5) + 1) → k ((σ2.1 (0, 0, 0) 5) - 1) σ2) ∧ (8 ≤ w (σ.1 (0, 0, 0) 5) → k (-1) σ))
def rmX4_place : Room := { frames := 0, cells := 0, slots := 0, locals := 0 }
set_option maxHeartbeats 4000000 in
set_option maxRecDepth 100000 in
theorem w_X4_place {l : Launch} {D : va_G} {ca : Nat → ClassId} {K : List nKey} {ad : nKey → Nat} {σ : nS} {sz : Nat} (hKC : KC K) {k : Int → nS → Prop} (hp : P_X4_place K σ  k) : Met l yX4_place (Cond.code yX4_place cX4_place 1 (some .int) :: UW) rmX4_place (ZP D ca [.ref (ad (0, 0, 0))] (ZB D K ad ca σ sz)) (ZQi D K ad ca sz k) 0 0 (FA K ad sz) := by
  refine z_start (cc := cX4_place) (maxL := 1) (ret := (some .int)) (own := RX4) (K := K) (ad := ad) (σ := σ) (Qc := fun sz => ZQi D K ad ca sz k) (by decide) rfl (Nat.le_of_ble_eq_true rfl) ?_
  intro p e s m args below meth c M hr hlocks hW ls hl
  have hS : va_S (FA K ad s.heap.size) s.heap s.heap [] := va_S.rf
  have hA : ∀ q : Nat, s.heap.size ≤ q → FA K ad s.heap.size q := fun q h => Or.inr h
  replace hl : lv_has ls 1 [(0, .ref (ad (0, 0, 0)))] := hl
  unfold P_X4_place at hp
  refine z_al_n M dX4_place_0 rfl hl 0 rfl ?_
  refine zg_X4_5 M u_hin4 hW hKC.k0 (M.hts _ u_fl_X4_35) dX4_place_1 ?_
  refine zi_bi M 8 dX4_place_4 (by decide +kernel) ?_
  refine zw_lt M (tgt := 11) dX4_place_6 (by decide) rfl (w_of ⟨by decide, by decide⟩) (fun c1 => ?_) (fun c1 => ?_)
  · have hp := hp.1 c1
    refine z_al_n M dX4_place_11 rfl hl 0 rfl ?_
    refine z_dup M dX4_place_12 rfl ?_
    refine zg_X4_5 M u_hin4 hW hKC.k0 (M.hts _ u_fl_X4_35) dX4_place_13 ?_
    refine zi_const M 1 dX4_place_16 rfl ?_
    refine zi_add M dX4_place_17 ?_
    obtain ⟨σ2, eσ2⟩ : ∃ z : nS, z = s1 σ (0, 0, 0) 5 ((σ.1 (0, 0, 0) 5) + 1) := ⟨_, rfl⟩
    have hp := hp σ2 eσ2
    refine zp_X4_5 (v := ((σ.1 (0, 0, 0) 5) + 1)) M u_hin4 hW hS hKC.k0 (M.hts _ u_fl_X4_35) dX4_place_18 (fun H locs hW hS => ?_)
    rw [← eσ2] at hW
    refine z_al_n M dX4_place_21 rfl hl 0 rfl ?_
    refine zg_X4_5 M u_hin4 hW hKC.k0 (M.hts _ u_fl_X4_35) dX4_place_22 ?_
    refine zi_const M 1 dX4_place_25 rfl ?_
    refine zi_sub M dX4_place_26 ?_
    exact zr_i M hr hlocks (((σ2.1 (0, 0, 0) 5) - 1), σ2) rfl ⟨hp, hW⟩ hS dX4_place_27
  · have hp := hp.2 c1
    refine zi_const M (-1) dX4_place_9 rfl ?_
    exact zr_i M hr hlocks ((-1), σ) rfl ⟨hp, hW⟩ hS dX4_place_10
def P_X4_road_L61 (K : List nKey) (k : Int → nS → Prop) : Nat → Int → nS → Prop
  | 0 => fun _ _ => False
  | n + 1 => fun v4 σ =>
    ((w (σ.1 (0, 0, 0) 6) ≤ w v4 → k 1 σ) ∧ (w v4 < w (σ.1 (0, 0, 0) 6) → P_X4_riderAt K σ v4 (fun r3 σ2 => ((r3 = none → ∀ x5 : Int, x5 = v4 + 1 → (P_X4_road_L61 K k n) x5 σ2) ∧ (∀ q4 : Nat, r3 = some q4 → (6, q4, 0) ∈ K ∧ P_X4_settleWays K σ2 q4 (fun σ6 => ∀ x7 : Int, x7 = v4 + 1 → (P_X4_road_L61 K k n) x7 σ6))))))
def P_X4_road (K : List nKey) (σ : nS) (v1 : Int) (v2 : Int) (v3 : Int) (k : Int → nS → Prop) : Prop :=
  P_X4_isPlace K σ v1 (fun r9 σ8 => ((w r9 = 0 → k 0 σ8) ∧ (w r9 ≠ 0 → P_X4_isPlace K σ8 v2 (fun r12 σ11 => ((w r12 = 0 → k 0 σ11) ∧ (w r12 ≠ 0 → ((w v1 = w v2 → k 0 σ11) ∧ (w v1 ≠ w v2 → ((w v3 < 0 → k 0 σ11) ∧ (0 ≤ w v3 → ((w v3 ≤ 600 → 0 ≤ ((v1 * 8) + v2) ∧ ((v1 * 8) + v2) < 64 ∧ ∀ σ17 : nS, σ17 = s1 σ11 (1, 0, 0) (((v1 * 8) + v2)).toNat v3 → 0 ≤ ((v2 * 8) + v1) ∧ ((v2 * 8) + v1) < 64 ∧ ∀ σ20 : nS, σ20 = s1 σ17 (1, 0, 0) (((v2 * 8) + v1)).toNat v3 → ∃ f23 : Nat, P_X4_road_L61 K k f23 0 σ20) ∧ (600 < w v3 → k 0 σ11))))))))))))
def rmX4_road : Room := { frames := 3, cells := 0, slots := 0, locals := 68 }
set_option maxHeartbeats 4000000 in
set_option maxRecDepth 100000 in
theorem w_X4_road {l : Launch} {D : va_G} {ca : Nat → ClassId} {K : List nKey} {ad : nKey → Nat} {σ : nS} {sz : Nat} (hKC : KC K) {v1 : Int} {v2 : Int} {v3 : Int} {k : Int → nS → Prop} (hp : P_X4_road K σ v1 v2 v3 k) : Met l yX4_road (Cond.code yX4_road cX4_road 6 (some .boolean) :: UW) rmX4_road (ZP D ca [.ref (ad (0, 0, 0)), .int (iN v1), .int (iN v2), .int (iN v3)] (ZB D K ad ca σ sz)) (ZQi D K ad ca sz k) 0 0 (FA K ad sz) := by
  refine z_start (cc := cX4_road) (maxL := 6) (ret := (some .boolean)) (own := RX4) (K := K) (ad := ad) (σ := σ) (Qc := fun sz => ZQi D K ad ca sz k) (by decide) rfl (Nat.le_of_ble_eq_true rfl) ?_
  intro p e s m args below meth c M hr hlocks hW ls hl
  have hS : va_S (FA K ad s.heap.size) s.heap s.heap [] := va_S.rf
  have hA : ∀ q : Nat, s.heap.size ≤ q → FA K ad s.heap.size q := fun q h => Or.inr h
  replace hl : lv_has ls 6 [(0, .ref (ad (0, 0, 0))), (1, .int (iN v1)), (2, .int (iN v2)), (3, .int (iN v3))] := hl
  unfold P_X4_road at hp
  have hL61 : ∀ (f61 : Nat) (v4 : Int) (σ : nS) (H : Heap) (locs : List Loc) (ls : Array Slot), P_X4_road_L61 K k f61 v4 σ → XW D (FA K ad s.heap.size) K ad (cR ca ad σ) H → va_S (FA K ad s.heap.size) s.heap H locs → lv_has ls 6 [(0, .ref (ad (0, 0, 0))), (4, .int (iN v4))] → W p l e rmX4_road s m args below meth c H locs 0 0 (MQ below (ZQi D K ad ca s.heap.size k) args s 0 0 (FA K ad s.heap.size)) (F0 m 61 ls []) := by
    intro f61
    induction f61 with
    | zero =>
      intro v4 σ H locs ls  hp
      exact hp.elim
    | succ f61 ih61 =>
      intro v4 σ H locs ls  hp hW hS hl
      refine z_il M dX4_road_61 hl 1 rfl ?_
      refine z_al_n M dX4_road_63 rfl hl 0 rfl ?_
      refine zg_X4_6 M u_hin4 hW hKC.k0 (M.hts _ u_fl_X4_39) dX4_road_64 ?_
      refine zw_ge M (tgt := 95) dX4_road_67 (by decide) rfl rfl (fun c1 => ?_) (fun c1 => ?_)
      · have hp := hp.1 c1
        refine zi_const M 1 dX4_road_95 rfl ?_
        exact zr_z M hr hlocks (1, σ) (by decide) rfl ⟨hp, hW⟩ hS dX4_road_96
      · have hp := hp.2 c1
        refine z_al_n M dX4_road_70 rfl hl 0 rfl ?_
        refine z_il M dX4_road_71 hl 1 rfl ?_
        have hfa := hW.fa hS hA
        refine zc_VU (As := [.int (iN v4)]) (rest := []) M (w_X4_riderAt hKC  hp) (cuV M 1 u_co_X4_riderAt u_ml_X4_55 u_ini_X4 u_in_X4_riderAt u_se_X4_riderAt (by decide +kernel) rfl rfl ⟨Nat.le_of_ble_eq_true rfl, Nat.le_of_ble_eq_true rfl⟩) (z_recv M hW hKC.k0 rfl rfl) ⟨rfl, hW.weaken (fun _ _ => trivial)⟩ rfl hl rfl (Nat.le_of_ble_eq_true rfl) ⟨Nat.zero_le _, Nat.zero_le _⟩ dX4_road_73 hS hfa (fun u H locs hw _ _ hS => ?_)
        obtain ⟨r3, σ2⟩ := u
        obtain ⟨hp, hW2⟩ := hw
        have hW := hW2.weaken hfa
        try dsimp only at hp
        rcases r3 with _ | q4
        · refine W.eq (g2 := F0 m 76 ls (.null :: [])) rfl ?_
          have hp := hp.1 rfl
          refine z_asn M [(5, .null), (0, .ref (ad (0, 0, 0))), (4, .int (iN v4))] dX4_road_76 hl (by decide) rfl (fun ls hl => ?_)
          refine z_aln M dX4_road_78 hl 0 rfl ?_
          refine z_ifnN M (tgt := 89) dX4_road_80 (by decide) ?_
          obtain ⟨x5, ex5⟩ : ∃ z : Int, z = v4 + 1 := ⟨_, rfl⟩
          have hp := hp x5 ex5
          refine z_inc M [(4, .int (iN x5)), (5, .null), (0, .ref (ad (0, 0, 0)))] x5 dX4_road_89 hl 2 rfl ex5.symm (by decide) rfl (fun ls hl => ?_)
          refine zg M (tgt := 61) dX4_road_92 (by decide) ?_
          exact ih61 x5 σ2 _ _ _  hp hW hS (lv_sub hl [2, 0] rfl)
        · refine W.eq (g2 := F0 m 76 ls (.ref (ad (6, q4, 0)) :: [])) rfl ?_
          obtain ⟨hm_q4, hp⟩ := hp.2 q4 rfl
          refine z_as M [(5, .ref (ad (6, q4, 0))), (0, .ref (ad (0, 0, 0))), (4, .int (iN v4))] dX4_road_76 hl (by decide) rfl (fun ls hl => ?_)
          refine z_al M dX4_road_78 hl 0 rfl ?_
          refine z_ifn M dX4_road_80 ?_
          refine z_al_n M dX4_road_83 rfl hl 1 rfl ?_
          refine z_al M dX4_road_84 hl 0 rfl ?_
          have hfa := hW.fa hS hA
          refine zc_VU (As := [.ref (ad (6, q4, 0))]) (rest := []) M (w_X4_settleWays hKC hm_q4 hp) (cuV M 1 u_co_X4_settleWays u_ml_X4_59 u_ini_X4 u_in_X4_settleWays u_se_X4_settleWays (by decide +kernel) rfl rfl ⟨Nat.le_of_ble_eq_true rfl, Nat.le_of_ble_eq_true rfl⟩) (z_recv M hW hKC.k0 rfl rfl) ⟨rfl, hW.weaken (fun _ _ => trivial)⟩ rfl hl rfl (Nat.le_of_ble_eq_true rfl) ⟨Nat.zero_le _, Nat.zero_le _⟩ dX4_road_86 hS hfa (fun σ6 H locs hw _ _ hS => ?_)
          obtain ⟨hp, hW2⟩ := hw
          have hW := hW2.weaken hfa
          try dsimp only at hp
          obtain ⟨x7, ex7⟩ : ∃ z : Int, z = v4 + 1 := ⟨_, rfl⟩
          have hp := hp x7 ex7
          refine z_inc M [(4, .int (iN x7)), (5, .ref (ad (6, q4, 0))), (0, .ref (ad (0, 0, 0)))] x7 dX4_road_89 hl 2 rfl ex7.symm (by decide) rfl (fun ls hl => ?_)
          refine zg M (tgt := 61) dX4_road_92 (by decide) ?_
          exact ih61 x7 σ6 _ _ _  hp hW hS (lv_sub hl [2, 0] rfl)
  refine z_al_n M dX4_road_0 rfl hl 0 rfl ?_
  refine z_il_n M dX4_road_1 rfl hl 1 rfl ?_
  have hfa := hW.fa hS hA
  refine zc_VU (As := [.int (iN v1)]) (rest := []) M (w_X4_isPlace hKC  hp) (cuV M 1 u_co_X4_isPlace u_ml_X4_51 u_ini_X4 u_in_X4_isPlace u_se_X4_isPlace (by decide +kernel) rfl rfl ⟨Nat.le_of_ble_eq_true rfl, Nat.le_of_ble_eq_true rfl⟩) (z_recv M hW hKC.k0 rfl rfl) ⟨rfl, hW.weaken (fun _ _ => trivial)⟩ rfl hl rfl (Nat.le_of_ble_eq_true rfl) ⟨Nat.zero_le _, Nat.zero_le _⟩ dX4_road_2 hS hfa (fun u H locs hw _ _ hS => ?_)
  obtain ⟨r9, σ8⟩ := u
  obtain ⟨hp, hW2⟩ := hw
  have hW := hW2.weaken hfa
  try dsimp only at hp
  refine zv_eq M (tgt := 32) dX4_road_5 (by decide) rfl (fun c10 => ?_) (fun c10 => ?_)
  · have hp := hp.1 c10
    refine zi_const M 0 dX4_road_32 rfl ?_
    exact zr_z M hr hlocks (0, σ8) (by decide) rfl ⟨hp, hW⟩ hS dX4_road_33
  · have hp := hp.2 c10
    refine z_al_n M dX4_road_8 rfl hl 0 rfl ?_
    refine z_il_n M dX4_road_9 rfl hl 2 rfl ?_
    have hfa := hW.fa hS hA
    refine zc_VU (As := [.int (iN v2)]) (rest := []) M (w_X4_isPlace hKC  hp) (cuV M 1 u_co_X4_isPlace u_ml_X4_51 u_ini_X4 u_in_X4_isPlace u_se_X4_isPlace (by decide +kernel) rfl rfl ⟨Nat.le_of_ble_eq_true rfl, Nat.le_of_ble_eq_true rfl⟩) (z_recv M hW hKC.k0 rfl rfl) ⟨rfl, hW.weaken (fun _ _ => trivial)⟩ rfl hl rfl (Nat.le_of_ble_eq_true rfl) ⟨Nat.zero_le _, Nat.zero_le _⟩ dX4_road_10 hS hfa (fun u H locs hw _ _ hS => ?_)
    obtain ⟨r12, σ11⟩ := u
    obtain ⟨hp, hW2⟩ := hw
    have hW := hW2.weaken hfa
    try dsimp only at hp
    refine zv_eq M (tgt := 32) dX4_road_13 (by decide) rfl (fun c13 => ?_) (fun c13 => ?_)
    · have hp := hp.1 c13
      refine zi_const M 0 dX4_road_32 rfl ?_
      exact zr_z M hr hlocks (0, σ11) (by decide) rfl ⟨hp, hW⟩ hS dX4_road_33
    · have hp := hp.2 c13
      refine z_il_n M dX4_road_16 rfl hl 1 rfl ?_
      refine z_il_n M dX4_road_17 rfl hl 2 rfl ?_
      refine zw_eq M (tgt := 32) dX4_road_18 (by decide) rfl rfl (fun c14 => ?_) (fun c14 => ?_)
      · have hp := hp.1 c14
        refine zi_const M 0 dX4_road_32 rfl ?_
        exact zr_z M hr hlocks (0, σ11) (by decide) rfl ⟨hp, hW⟩ hS dX4_road_33
      · have hp := hp.2 c14
        refine z_il_n M dX4_road_21 rfl hl 3 rfl ?_
        refine zv_lt M (tgt := 32) dX4_road_22 (by decide) rfl (fun c15 => ?_) (fun c15 => ?_)
        · have hp := hp.1 c15
          refine zi_const M 0 dX4_road_32 rfl ?_
          exact zr_z M hr hlocks (0, σ11) (by decide) rfl ⟨hp, hW⟩ hS dX4_road_33
        · have hp := hp.2 c15
          refine z_il_n M dX4_road_25 rfl hl 3 rfl ?_
          refine zi_si M 600 dX4_road_26 (by decide +kernel) ?_
          refine zw_le M (tgt := 34) dX4_road_29 (by decide) rfl (w_of ⟨by decide, by decide⟩) (fun c16 => ?_) (fun c16 => ?_)
          · have hp := hp.1 c16
            refine z_al_n M dX4_road_34 rfl hl 0 rfl ?_
            refine zg_X4_0 M u_hin4 hW hKC.k0 (M.hts _ u_fl_X4_9) dX4_road_35 ?_
            refine z_il_n M dX4_road_38 rfl hl 1 rfl ?_
            refine zi_bi M 8 dX4_road_39 (by decide +kernel) ?_
            refine zi_mul M dX4_road_41 ?_
            refine z_il_n M dX4_road_42 rfl hl 2 rfl ?_
            refine zi_add M dX4_road_43 ?_
            refine z_il_n M dX4_road_44 rfl hl 3 rfl ?_
            obtain ⟨h18, h19, hp⟩ := hp
            obtain ⟨σ17, eσ17⟩ : ∃ z : nS, z = s1 σ11 (1, 0, 0) (((v1 * 8) + v2)).toNat v3 := ⟨_, rfl⟩
            have hp := hp σ17 eσ17
            refine zs_i (n := 64) M hW hS hKC.k1 (fun _ _ => rfl) h18 h19 (by decide) dX4_road_45 (fun H locs hW hS => ?_)
            rw [← eσ17] at hW
            refine z_al_n M dX4_road_46 rfl hl 0 rfl ?_
            refine zg_X4_0 M u_hin4 hW hKC.k0 (M.hts _ u_fl_X4_9) dX4_road_47 ?_
            refine z_il_n M dX4_road_50 rfl hl 2 rfl ?_
            refine zi_bi M 8 dX4_road_51 (by decide +kernel) ?_
            refine zi_mul M dX4_road_53 ?_
            refine z_il_n M dX4_road_54 rfl hl 1 rfl ?_
            refine zi_add M dX4_road_55 ?_
            refine z_il_n M dX4_road_56 rfl hl 3 rfl ?_
            obtain ⟨h21, h22, hp⟩ := hp
            obtain ⟨σ20, eσ20⟩ : ∃ z : nS, z = s1 σ17 (1, 0, 0) (((v2 * 8) + v1)).toNat v3 := ⟨_, rfl⟩
            have hp := hp σ20 eσ20
            refine zs_i (n := 64) M hW hS hKC.k1 (fun _ _ => rfl) h21 h22 (by decide) dX4_road_57 (fun H locs hW hS => ?_)
            rw [← eσ20] at hW
            refine zi_const M 0 dX4_road_58 rfl ?_
            refine z_is M [(4, .int (iN 0)), (0, .ref (ad (0, 0, 0))), (1, .int (iN v1)), (2, .int (iN v2)), (3, .int (iN v3))] dX4_road_59 hl (by decide) rfl (fun ls hl => ?_)
            obtain ⟨f23, hp⟩ := hp
            exact hL61 f23 0 σ20 _ _ _  hp hW hS (lv_sub hl [1, 0] rfl)
          · have hp := hp.2 c16
            refine zi_const M 0 dX4_road_32 rfl ?_
            exact zr_z M hr hlocks (0, σ11) (by decide) rfl ⟨hp, hW⟩ hS dX4_road_33
def P_X4_rest (K : List nKey) (σ : nS) (v1 : Int) (k : Int → nS → Prop) : Prop :=
  ((w v1 < 0 → k (-1) σ) ∧ (0 ≤ w v1 → ((w v1 ≤ 600 → ∀ x3 : Int, x3 = (σ.1 (0, 0, 0) 8) → ∀ σ4 : nS, σ4 = s1 σ (0, 0, 0) 8 v1 → k x3 σ4) ∧ (600 < w v1 → k (-1) σ))))
def rmX4_rest : Room := { frames := 0, cells := 0, slots := 0, locals := 0 }
set_option maxHeartbeats 4000000 in
set_option maxRecDepth 100000 in
theorem w_X4_rest {l : Launch} {D : va_G} {ca : Nat → ClassId} {K : List nKey} {ad : nKey → Nat} {σ : nS} {sz : Nat} (hKC : KC K) {v1 : Int} {k : Int → nS → Prop} (hp : P_X4_rest K σ v1 k) : Met l yX4_rest (Cond.code yX4_rest cX4_rest 3 (some .int) :: UW) rmX4_rest (ZP D ca [.ref (ad (0, 0, 0)), .int (iN v1)] (ZB D K ad ca σ sz)) (ZQi D K ad ca sz k) 0 0 (FA K ad sz) := by
  refine z_start (cc := cX4_rest) (maxL := 3) (ret := (some .int)) (own := RX4) (K := K) (ad := ad) (σ := σ) (Qc := fun sz => ZQi D K ad ca sz k) (by decide) rfl (Nat.le_of_ble_eq_true rfl) ?_
  intro p e s m args below meth c M hr hlocks hW ls hl
  have hS : va_S (FA K ad s.heap.size) s.heap s.heap [] := va_S.rf
  have hA : ∀ q : Nat, s.heap.size ≤ q → FA K ad s.heap.size q := fun q h => Or.inr h
  replace hl : lv_has ls 3 [(0, .ref (ad (0, 0, 0))), (1, .int (iN v1))] := hl
  unfold P_X4_rest at hp
  refine z_il_n M dX4_rest_0 rfl hl 1 rfl ?_
  refine zv_lt M (tgt := 11) dX4_rest_1 (by decide) rfl (fun c1 => ?_) (fun c1 => ?_)
  · have hp := hp.1 c1
    refine zi_const M (-1) dX4_rest_11 rfl ?_
    exact zr_i M hr hlocks ((-1), σ) rfl ⟨hp, hW⟩ hS dX4_rest_12
  · have hp := hp.2 c1
    refine z_il_n M dX4_rest_4 rfl hl 1 rfl ?_
    refine zi_si M 600 dX4_rest_5 (by decide +kernel) ?_
    refine zw_le M (tgt := 13) dX4_rest_8 (by decide) rfl (w_of ⟨by decide, by decide⟩) (fun c2 => ?_) (fun c2 => ?_)
    · have hp := hp.1 c2
      refine z_al_n M dX4_rest_13 rfl hl 0 rfl ?_
      refine zg_X4_8 M u_hin4 hW hKC.k0 (M.hts _ u_fl_X4_45) dX4_rest_14 ?_
      refine zi_nm (fun x3 ex3 => ?_)
      have hp := hp x3 ex3
      refine z_is_n M [(2, .int (iN x3)), (0, .ref (ad (0, 0, 0))), (1, .int (iN v1))] dX4_rest_17 rfl hl (by decide) rfl (fun ls hl => ?_)
      refine z_al_n M dX4_rest_18 rfl hl 1 rfl ?_
      refine z_il_n M dX4_rest_19 rfl hl 2 rfl ?_
      obtain ⟨σ4, eσ4⟩ : ∃ z : nS, z = s1 σ (0, 0, 0) 8 v1 := ⟨_, rfl⟩
      have hp := hp σ4 eσ4
      refine zp_X4_8 (v := v1) M u_hin4 hW hS hKC.k0 (M.hts _ u_fl_X4_45) dX4_rest_20 (fun H locs hW hS => ?_)
      rw [← eσ4] at hW
      refine z_il_n M dX4_rest_23 rfl hl 0 rfl ?_
      exact zr_i M hr hlocks (x3, σ4) rfl ⟨hp, hW⟩ hS dX4_rest_24
    · have hp := hp.2 c2
      refine zi_const M (-1) dX4_rest_11 rfl ?_
      exact zr_i M hr hlocks ((-1), σ) rfl ⟨hp, hW⟩ hS dX4_rest_12
