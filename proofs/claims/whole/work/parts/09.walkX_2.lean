def P_X0_isRiddenBy_L2 (K : List nKey) (k : Int → nS → Prop) (q0 : Nat) (v1 : Int) (v2 : Int) : Nat → Int → nS → Prop
  | 0 => fun _ _ => False
  | n + 1 => fun v3 σ =>
    ((w v2 ≤ w v3 → k 0 σ) ∧ (w v3 < w v2 → ((3 ≤ w v3 → k 0 σ) ∧ (w v3 < 3 → 0 ≤ v3 ∧ v3 < 3 ∧ ((w (σ.1 (5, q0, 0) (v3).toNat) ≠ w v1 → ∀ x6 : Int, x6 = v3 + 1 → (P_X0_isRiddenBy_L2 K k q0 v1 v2 n) x6 σ) ∧ (w (σ.1 (5, q0, 0) (v3).toNat) = w v1 → k 1 σ))))))
def P_X0_isRiddenBy (K : List nKey) (σ : nS) (q0 : Nat) (v1 : Int) (v2 : Int) (k : Int → nS → Prop) : Prop :=
  ∃ f7 : Nat, P_X0_isRiddenBy_L2 K k q0 v1 v2 f7 0 σ
def rmX0_isRiddenBy : Room := { frames := 0, cells := 0, slots := 0, locals := 0 }
set_option maxHeartbeats 4000000 in
set_option maxRecDepth 100000 in
theorem w_X0_isRiddenBy {l : Launch} {D : va_G} {ca : Nat → ClassId} {K : List nKey} {ad : nKey → Nat} {σ : nS} {sz : Nat} (hKC : KC K) {q0 : Nat} {v1 : Int} {v2 : Int} (hm_q0 : q0 < 2) {k : Int → nS → Prop} (hp : P_X0_isRiddenBy K σ q0 v1 v2 k) : Met l yX0_isRiddenBy (Cond.code yX0_isRiddenBy cX0_isRiddenBy 4 (some .boolean) :: UW) rmX0_isRiddenBy (ZP D ca [.ref (ad (4, q0, 0)), .int (iN v1), .int (iN v2)] (ZB D K ad ca σ sz)) (ZQi D K ad ca sz k) 0 0 (FA K ad sz) := by
  refine z_start (cc := cX0_isRiddenBy) (maxL := 4) (ret := (some .boolean)) (own := RX0) (K := K) (ad := ad) (σ := σ) (Qc := fun sz => ZQi D K ad ca sz k) (by decide) rfl (Nat.le_of_ble_eq_true rfl) ?_
  intro p e s m args below meth c M hr hlocks hW ls hl
  have hS : va_S (FA K ad s.heap.size) s.heap s.heap [] := va_S.rf
  have hA : ∀ q : Nat, s.heap.size ≤ q → FA K ad s.heap.size q := fun q h => Or.inr h
  replace hl : lv_has ls 4 [(0, .ref (ad (4, q0, 0))), (1, .int (iN v1)), (2, .int (iN v2))] := hl
  unfold P_X0_isRiddenBy at hp
  have hL2 : ∀ (f2 : Nat) (v3 : Int) (σ : nS) (H : Heap) (locs : List Loc) (ls : Array Slot), P_X0_isRiddenBy_L2 K k q0 v1 v2 f2 v3 σ → XW D (FA K ad s.heap.size) K ad (cR ca ad σ) H → va_S (FA K ad s.heap.size) s.heap H locs → lv_has ls 4 [(0, .ref (ad (4, q0, 0))), (1, .int (iN v1)), (2, .int (iN v2)), (3, .int (iN v3))] → W p l e rmX0_isRiddenBy s m args below meth c H locs 0 0 (MQ below (ZQi D K ad ca s.heap.size k) args s 0 0 (FA K ad s.heap.size)) (F0 m 2 ls []) := by
    intro f2
    induction f2 with
    | zero =>
      intro v3 σ H locs ls  hp
      exact hp.elim
    | succ f2 ih2 =>
      intro v3 σ H locs ls  hp hW hS hl
      refine z_il_n M dX0_isRiddenBy_2 rfl hl 3 rfl ?_
      refine z_il_n M dX0_isRiddenBy_3 rfl hl 2 rfl ?_
      refine zw_ge M (tgt := 30) dX0_isRiddenBy_4 (by decide) rfl rfl (fun c1 => ?_) (fun c1 => ?_)
      · have hp := hp.1 c1
        refine zi_const M 0 dX0_isRiddenBy_30 rfl ?_
        exact zr_z M hr hlocks (0, σ) (by decide) rfl ⟨hp, hW⟩ hS dX0_isRiddenBy_31
      · have hp := hp.2 c1
        refine z_il_n M dX0_isRiddenBy_7 rfl hl 3 rfl ?_
        refine zi_const M 3 dX0_isRiddenBy_8 rfl ?_
        refine zw_ge M (tgt := 30) dX0_isRiddenBy_9 (by decide) rfl (w_of ⟨by decide, by decide⟩) (fun c2 => ?_) (fun c2 => ?_)
        · have hp := hp.1 c2
          refine zi_const M 0 dX0_isRiddenBy_30 rfl ?_
          exact zr_z M hr hlocks (0, σ) (by decide) rfl ⟨hp, hW⟩ hS dX0_isRiddenBy_31
        · have hp := hp.2 c2
          refine z_al_n M dX0_isRiddenBy_12 rfl hl 0 rfl ?_
          refine zg_X0_0 M u_hin0 hW (hKC.k4 hm_q0) (M.hts _ u_fl_X0_9) dX0_isRiddenBy_13 ?_
          refine z_il_n M dX0_isRiddenBy_16 rfl hl 3 rfl ?_
          obtain ⟨h3, h4, hp⟩ := hp
          refine za_i (n := 3) M hW (hKC.k5 hm_q0 (by decide)) (fun _ _ => rfl) h3 h4 (by decide) dX0_isRiddenBy_17 ?_
          refine z_il_n M dX0_isRiddenBy_18 rfl hl 1 rfl ?_
          refine zw_ne M (tgt := 24) dX0_isRiddenBy_19 (by decide) rfl rfl (fun c5 => ?_) (fun c5 => ?_)
          · have hp := hp.1 c5
            obtain ⟨x6, ex6⟩ : ∃ z : Int, z = v3 + 1 := ⟨_, rfl⟩
            have hp := hp x6 ex6
            refine z_inc M [(3, .int (iN x6)), (0, .ref (ad (4, q0, 0))), (1, .int (iN v1)), (2, .int (iN v2))] x6 dX0_isRiddenBy_24 hl 3 rfl ex6.symm (by decide) rfl (fun ls hl => ?_)
            refine zg M (tgt := 2) dX0_isRiddenBy_27 (by decide) ?_
            exact ih2 x6 σ _ _ _  hp hW hS (lv_sub hl [1, 2, 3, 0] rfl)
          · have hp := hp.2 c5
            refine zi_const M 1 dX0_isRiddenBy_22 rfl ?_
            exact zr_z M hr hlocks (1, σ) (by decide) rfl ⟨hp, hW⟩ hS dX0_isRiddenBy_23
  refine zi_const M 0 dX0_isRiddenBy_0 rfl ?_
  refine z_is_n M [(3, .int (iN 0)), (0, .ref (ad (4, q0, 0))), (1, .int (iN v1)), (2, .int (iN v2))] dX0_isRiddenBy_1 rfl hl (by decide) rfl (fun ls hl => ?_)
  obtain ⟨f7, hp⟩ := hp
  exact hL2 f7 0 σ _ _ _  hp hW hS (lv_sub hl [1, 2, 3, 0] rfl)
def P_X0_comesFrom_L2 (K : List nKey) (k : Int → nS → Prop) (q0 : Nat) (v1 : Int) (v2 : Int) : Nat → Int → nS → Prop
  | 0 => fun _ _ => False
  | n + 1 => fun v3 σ =>
    ((w v2 ≤ w v3 → k 0 σ) ∧ (w v3 < w v2 → ((3 ≤ w v3 → k 0 σ) ∧ (w v3 < 3 → 0 ≤ v3 ∧ v3 < 3 ∧ ((w (σ.1 (5, q0, 1) (v3).toNat) ≠ w v1 → ∀ x6 : Int, x6 = v3 + 1 → (P_X0_comesFrom_L2 K k q0 v1 v2 n) x6 σ) ∧ (w (σ.1 (5, q0, 1) (v3).toNat) = w v1 → k 1 σ))))))
def P_X0_comesFrom (K : List nKey) (σ : nS) (q0 : Nat) (v1 : Int) (v2 : Int) (k : Int → nS → Prop) : Prop :=
  ∃ f7 : Nat, P_X0_comesFrom_L2 K k q0 v1 v2 f7 0 σ
def rmX0_comesFrom : Room := { frames := 0, cells := 0, slots := 0, locals := 0 }
set_option maxHeartbeats 4000000 in
set_option maxRecDepth 100000 in
theorem w_X0_comesFrom {l : Launch} {D : va_G} {ca : Nat → ClassId} {K : List nKey} {ad : nKey → Nat} {σ : nS} {sz : Nat} (hKC : KC K) {q0 : Nat} {v1 : Int} {v2 : Int} (hm_q0 : q0 < 2) {k : Int → nS → Prop} (hp : P_X0_comesFrom K σ q0 v1 v2 k) : Met l yX0_comesFrom (Cond.code yX0_comesFrom cX0_comesFrom 4 (some .boolean) :: UW) rmX0_comesFrom (ZP D ca [.ref (ad (4, q0, 0)), .int (iN v1), .int (iN v2)] (ZB D K ad ca σ sz)) (ZQi D K ad ca sz k) 0 0 (FA K ad sz) := by
  refine z_start (cc := cX0_comesFrom) (maxL := 4) (ret := (some .boolean)) (own := RX0) (K := K) (ad := ad) (σ := σ) (Qc := fun sz => ZQi D K ad ca sz k) (by decide) rfl (Nat.le_of_ble_eq_true rfl) ?_
  intro p e s m args below meth c M hr hlocks hW ls hl
  have hS : va_S (FA K ad s.heap.size) s.heap s.heap [] := va_S.rf
  have hA : ∀ q : Nat, s.heap.size ≤ q → FA K ad s.heap.size q := fun q h => Or.inr h
  replace hl : lv_has ls 4 [(0, .ref (ad (4, q0, 0))), (1, .int (iN v1)), (2, .int (iN v2))] := hl
  unfold P_X0_comesFrom at hp
  have hL2 : ∀ (f2 : Nat) (v3 : Int) (σ : nS) (H : Heap) (locs : List Loc) (ls : Array Slot), P_X0_comesFrom_L2 K k q0 v1 v2 f2 v3 σ → XW D (FA K ad s.heap.size) K ad (cR ca ad σ) H → va_S (FA K ad s.heap.size) s.heap H locs → lv_has ls 4 [(0, .ref (ad (4, q0, 0))), (1, .int (iN v1)), (2, .int (iN v2)), (3, .int (iN v3))] → W p l e rmX0_comesFrom s m args below meth c H locs 0 0 (MQ below (ZQi D K ad ca s.heap.size k) args s 0 0 (FA K ad s.heap.size)) (F0 m 2 ls []) := by
    intro f2
    induction f2 with
    | zero =>
      intro v3 σ H locs ls  hp
      exact hp.elim
    | succ f2 ih2 =>
      intro v3 σ H locs ls  hp hW hS hl
      refine z_il_n M dX0_comesFrom_2 rfl hl 3 rfl ?_
      refine z_il_n M dX0_comesFrom_3 rfl hl 2 rfl ?_
      refine zw_ge M (tgt := 30) dX0_comesFrom_4 (by decide) rfl rfl (fun c1 => ?_) (fun c1 => ?_)
      · have hp := hp.1 c1
        refine zi_const M 0 dX0_comesFrom_30 rfl ?_
        exact zr_z M hr hlocks (0, σ) (by decide) rfl ⟨hp, hW⟩ hS dX0_comesFrom_31
      · have hp := hp.2 c1
        refine z_il_n M dX0_comesFrom_7 rfl hl 3 rfl ?_
        refine zi_const M 3 dX0_comesFrom_8 rfl ?_
        refine zw_ge M (tgt := 30) dX0_comesFrom_9 (by decide) rfl (w_of ⟨by decide, by decide⟩) (fun c2 => ?_) (fun c2 => ?_)
        · have hp := hp.1 c2
          refine zi_const M 0 dX0_comesFrom_30 rfl ?_
          exact zr_z M hr hlocks (0, σ) (by decide) rfl ⟨hp, hW⟩ hS dX0_comesFrom_31
        · have hp := hp.2 c2
          refine z_al_n M dX0_comesFrom_12 rfl hl 0 rfl ?_
          refine zg_X0_1 M u_hin0 hW (hKC.k4 hm_q0) (M.hts _ u_fl_X0_15) dX0_comesFrom_13 ?_
          refine z_il_n M dX0_comesFrom_16 rfl hl 3 rfl ?_
          obtain ⟨h3, h4, hp⟩ := hp
          refine za_i (n := 3) M hW (hKC.k5 hm_q0 (by decide)) (fun _ _ => rfl) h3 h4 (by decide) dX0_comesFrom_17 ?_
          refine z_il_n M dX0_comesFrom_18 rfl hl 1 rfl ?_
          refine zw_ne M (tgt := 24) dX0_comesFrom_19 (by decide) rfl rfl (fun c5 => ?_) (fun c5 => ?_)
          · have hp := hp.1 c5
            obtain ⟨x6, ex6⟩ : ∃ z : Int, z = v3 + 1 := ⟨_, rfl⟩
            have hp := hp x6 ex6
            refine z_inc M [(3, .int (iN x6)), (0, .ref (ad (4, q0, 0))), (1, .int (iN v1)), (2, .int (iN v2))] x6 dX0_comesFrom_24 hl 3 rfl ex6.symm (by decide) rfl (fun ls hl => ?_)
            refine zg M (tgt := 2) dX0_comesFrom_27 (by decide) ?_
            exact ih2 x6 σ _ _ _  hp hW hS (lv_sub hl [1, 2, 3, 0] rfl)
          · have hp := hp.2 c5
            refine zi_const M 1 dX0_comesFrom_22 rfl ?_
            exact zr_z M hr hlocks (1, σ) (by decide) rfl ⟨hp, hW⟩ hS dX0_comesFrom_23
  refine zi_const M 0 dX0_comesFrom_0 rfl ?_
  refine z_is_n M [(3, .int (iN 0)), (0, .ref (ad (4, q0, 0))), (1, .int (iN v1)), (2, .int (iN v2))] dX0_comesFrom_1 rfl hl (by decide) rfl (fun ls hl => ?_)
  obtain ⟨f7, hp⟩ := hp
  exact hL2 f7 0 σ _ _ _  hp hW hS (lv_sub hl [1, 2, 3, 0] rfl)
def P_X0_fromOf (K : List nKey) (σ : nS) (q0 : Nat) (v1 : Int) (k : Int → nS → Prop) : Prop :=
  ((w v1 < 0 → k (-1) σ) ∧ (0 ≤ w v1 → ((3 ≤ w v1 → k (-1) σ) ∧ (w v1 < 3 → 0 ≤ v1 ∧ v1 < 3 ∧ k (σ.1 (5, q0, 1) (v1).toNat) σ))))
def rmX0_fromOf : Room := { frames := 0, cells := 0, slots := 0, locals := 0 }
set_option maxHeartbeats 4000000 in
set_option maxRecDepth 100000 in
theorem w_X0_fromOf {l : Launch} {D : va_G} {ca : Nat → ClassId} {K : List nKey} {ad : nKey → Nat} {σ : nS} {sz : Nat} (hKC : KC K) {q0 : Nat} {v1 : Int} (hm_q0 : q0 < 2) {k : Int → nS → Prop} (hp : P_X0_fromOf K σ q0 v1 k) : Met l yX0_fromOf (Cond.code yX0_fromOf cX0_fromOf 2 (some .int) :: UW) rmX0_fromOf (ZP D ca [.ref (ad (4, q0, 0)), .int (iN v1)] (ZB D K ad ca σ sz)) (ZQi D K ad ca sz k) 0 0 (FA K ad sz) := by
  refine z_start (cc := cX0_fromOf) (maxL := 2) (ret := (some .int)) (own := RX0) (K := K) (ad := ad) (σ := σ) (Qc := fun sz => ZQi D K ad ca sz k) (by decide) rfl (Nat.le_of_ble_eq_true rfl) ?_
  intro p e s m args below meth c M hr hlocks hW ls hl
  have hS : va_S (FA K ad s.heap.size) s.heap s.heap [] := va_S.rf
  have hA : ∀ q : Nat, s.heap.size ≤ q → FA K ad s.heap.size q := fun q h => Or.inr h
  replace hl : lv_has ls 2 [(0, .ref (ad (4, q0, 0))), (1, .int (iN v1))] := hl
  unfold P_X0_fromOf at hp
  refine z_il_n M dX0_fromOf_0 rfl hl 1 rfl ?_
  refine zv_lt M (tgt := 18) dX0_fromOf_1 (by decide) rfl (fun c1 => ?_) (fun c1 => ?_)
  · have hp := hp.1 c1
    refine zi_const M (-1) dX0_fromOf_18 rfl ?_
    exact zr_i M hr hlocks ((-1), σ) rfl ⟨hp, hW⟩ hS dX0_fromOf_19
  · have hp := hp.2 c1
    refine z_il_n M dX0_fromOf_4 rfl hl 1 rfl ?_
    refine zi_const M 3 dX0_fromOf_5 rfl ?_
    refine zw_ge M (tgt := 18) dX0_fromOf_6 (by decide) rfl (w_of ⟨by decide, by decide⟩) (fun c2 => ?_) (fun c2 => ?_)
    · have hp := hp.1 c2
      refine zi_const M (-1) dX0_fromOf_18 rfl ?_
      exact zr_i M hr hlocks ((-1), σ) rfl ⟨hp, hW⟩ hS dX0_fromOf_19
    · have hp := hp.2 c2
      refine z_al_n M dX0_fromOf_9 rfl hl 0 rfl ?_
      refine zg_X0_1 M u_hin0 hW (hKC.k4 hm_q0) (M.hts _ u_fl_X0_15) dX0_fromOf_10 ?_
      refine z_il_n M dX0_fromOf_13 rfl hl 1 rfl ?_
      obtain ⟨h3, h4, hp⟩ := hp
      refine za_i (n := 3) M hW (hKC.k5 hm_q0 (by decide)) (fun _ _ => rfl) h3 h4 (by decide) dX0_fromOf_14 ?_
      refine zg M (tgt := 19) dX0_fromOf_15 (by decide) ?_
      exact zr_i M hr hlocks ((σ.1 (5, q0, 1) (v1).toNat), σ) rfl ⟨hp, hW⟩ hS dX0_fromOf_19
def P_X0_lastEnd (K : List nKey) (σ : nS) (q0 : Nat) (k : Int → nS → Prop) : Prop :=
  ((w (σ.1 (4, q0, 0) 5) < 1 → k (-1) σ) ∧ (1 ≤ w (σ.1 (4, q0, 0) 5) → ((3 < w (σ.1 (4, q0, 0) 5) → k (-1) σ) ∧ (w (σ.1 (4, q0, 0) 5) ≤ 3 → 0 ≤ ((σ.1 (4, q0, 0) 5) - 1) ∧ ((σ.1 (4, q0, 0) 5) - 1) < 3 ∧ k (σ.1 (5, q0, 4) (((σ.1 (4, q0, 0) 5) - 1)).toNat) σ))))
def rmX0_lastEnd : Room := { frames := 0, cells := 0, slots := 0, locals := 0 }
set_option maxHeartbeats 4000000 in
set_option maxRecDepth 100000 in
theorem w_X0_lastEnd {l : Launch} {D : va_G} {ca : Nat → ClassId} {K : List nKey} {ad : nKey → Nat} {σ : nS} {sz : Nat} (hKC : KC K) {q0 : Nat} (hm_q0 : q0 < 2) {k : Int → nS → Prop} (hp : P_X0_lastEnd K σ q0 k) : Met l yX0_lastEnd (Cond.code yX0_lastEnd cX0_lastEnd 1 (some .int) :: UW) rmX0_lastEnd (ZP D ca [.ref (ad (4, q0, 0))] (ZB D K ad ca σ sz)) (ZQi D K ad ca sz k) 0 0 (FA K ad sz) := by
  refine z_start (cc := cX0_lastEnd) (maxL := 1) (ret := (some .int)) (own := RX0) (K := K) (ad := ad) (σ := σ) (Qc := fun sz => ZQi D K ad ca sz k) (by decide) rfl (Nat.le_of_ble_eq_true rfl) ?_
  intro p e s m args below meth c M hr hlocks hW ls hl
  have hS : va_S (FA K ad s.heap.size) s.heap s.heap [] := va_S.rf
  have hA : ∀ q : Nat, s.heap.size ≤ q → FA K ad s.heap.size q := fun q h => Or.inr h
  replace hl : lv_has ls 1 [(0, .ref (ad (4, q0, 0)))] := hl
  unfold P_X0_lastEnd at hp
  refine z_al_n M dX0_lastEnd_0 rfl hl 0 rfl ?_
  refine zg_X0_5 M u_hin0 hW (hKC.k4 hm_q0) (M.hts _ u_fl_X0_27) dX0_lastEnd_1 ?_
  refine zi_const M 1 dX0_lastEnd_4 rfl ?_
  refine zw_lt M (tgt := 30) dX0_lastEnd_5 (by decide) rfl (w_of ⟨by decide, by decide⟩) (fun c1 => ?_) (fun c1 => ?_)
  · have hp := hp.1 c1
    refine zi_const M (-1) dX0_lastEnd_30 rfl ?_
    exact zr_i M hr hlocks ((-1), σ) rfl ⟨hp, hW⟩ hS dX0_lastEnd_31
  · have hp := hp.2 c1
    refine z_al_n M dX0_lastEnd_8 rfl hl 0 rfl ?_
    refine zg_X0_5 M u_hin0 hW (hKC.k4 hm_q0) (M.hts _ u_fl_X0_27) dX0_lastEnd_9 ?_
    refine zi_const M 3 dX0_lastEnd_12 rfl ?_
    refine zw_gt M (tgt := 30) dX0_lastEnd_13 (by decide) rfl (w_of ⟨by decide, by decide⟩) (fun c2 => ?_) (fun c2 => ?_)
    · have hp := hp.1 c2
      refine zi_const M (-1) dX0_lastEnd_30 rfl ?_
      exact zr_i M hr hlocks ((-1), σ) rfl ⟨hp, hW⟩ hS dX0_lastEnd_31
    · have hp := hp.2 c2
      refine z_al_n M dX0_lastEnd_16 rfl hl 0 rfl ?_
      refine zg_X0_4 M u_hin0 hW (hKC.k4 hm_q0) (M.hts _ u_fl_X0_24) dX0_lastEnd_17 ?_
      refine z_al_n M dX0_lastEnd_20 rfl hl 0 rfl ?_
      refine zg_X0_5 M u_hin0 hW (hKC.k4 hm_q0) (M.hts _ u_fl_X0_27) dX0_lastEnd_21 ?_
      refine zi_const M 1 dX0_lastEnd_24 rfl ?_
      refine zi_sub M dX0_lastEnd_25 ?_
      obtain ⟨h3, h4, hp⟩ := hp
      refine za_i (n := 3) M hW (hKC.k5 hm_q0 (by decide)) (fun _ _ => rfl) h3 h4 (by decide) dX0_lastEnd_26 ?_
      refine zg M (tgt := 31) dX0_lastEnd_27 (by decide) ?_
      exact zr_i M hr hlocks ((σ.1 (5, q0, 4) (((σ.1 (4, q0, 0) 5) - 1)).toNat), σ) rfl ⟨hp, hW⟩ hS dX0_lastEnd_31
def P_X0_handsOn (K : List nKey) (σ : nS) (q0 : Nat) (v1 : Int) (k : Int → nS → Prop) : Prop :=
  ((w v1 < 0 → P_X0_lastEnd K σ q0 (fun r3 σ2 => k r3 σ2)) ∧ (0 ≤ w v1 → ((w (σ.1 (4, q0, 0) 5) ≤ w (v1 + 1) → P_X0_lastEnd K σ q0 (fun r6 σ5 => k r6 σ5)) ∧ (w (v1 + 1) < w (σ.1 (4, q0, 0) 5) → ((3 ≤ w (v1 + 1) → P_X0_lastEnd K σ q0 (fun r9 σ8 => k r9 σ8)) ∧ (w (v1 + 1) < 3 → 0 ≤ (v1 + 1) ∧ (v1 + 1) < 3 ∧ k (σ.1 (5, q0, 3) ((v1 + 1)).toNat) σ))))))
def rmX0_handsOn : Room := { frames := 1, cells := 0, slots := 0, locals := 20 }
set_option maxHeartbeats 4000000 in
set_option maxRecDepth 100000 in
theorem w_X0_handsOn {l : Launch} {D : va_G} {ca : Nat → ClassId} {K : List nKey} {ad : nKey → Nat} {σ : nS} {sz : Nat} (hKC : KC K) {q0 : Nat} {v1 : Int} (hm_q0 : q0 < 2) {k : Int → nS → Prop} (hp : P_X0_handsOn K σ q0 v1 k) : Met l yX0_handsOn (Cond.code yX0_handsOn cX0_handsOn 2 (some .int) :: UW) rmX0_handsOn (ZP D ca [.ref (ad (4, q0, 0)), .int (iN v1)] (ZB D K ad ca σ sz)) (ZQi D K ad ca sz k) 0 0 (FA K ad sz) := by
  refine z_start (cc := cX0_handsOn) (maxL := 2) (ret := (some .int)) (own := RX0) (K := K) (ad := ad) (σ := σ) (Qc := fun sz => ZQi D K ad ca sz k) (by decide) rfl (Nat.le_of_ble_eq_true rfl) ?_
  intro p e s m args below meth c M hr hlocks hW ls hl
  have hS : va_S (FA K ad s.heap.size) s.heap s.heap [] := va_S.rf
  have hA : ∀ q : Nat, s.heap.size ≤ q → FA K ad s.heap.size q := fun q h => Or.inr h
  replace hl : lv_has ls 2 [(0, .ref (ad (4, q0, 0))), (1, .int (iN v1))] := hl
  unfold P_X0_handsOn at hp
  refine z_il_n M dX0_handsOn_0 rfl hl 1 rfl ?_
  refine zv_lt M (tgt := 32) dX0_handsOn_1 (by decide) rfl (fun c1 => ?_) (fun c1 => ?_)
  · have hp := hp.1 c1
    refine z_al_n M dX0_handsOn_32 rfl hl 0 rfl ?_
    have hfa := hW.fa hS hA
    refine zc_VU (As := []) (rest := []) M (w_X0_lastEnd hKC hm_q0 hp) (cuV M 0 u_co_X0_lastEnd u_ml_X0_37 u_ini_X0 u_in_X0_lastEnd u_se_X0_lastEnd (by decide +kernel) rfl rfl ⟨Nat.le_of_ble_eq_true rfl, Nat.le_of_ble_eq_true rfl⟩) (z_recv M hW (hKC.k4 hm_q0) rfl rfl) ⟨rfl, hW.weaken (fun _ _ => trivial)⟩ rfl hl rfl (Nat.le_of_ble_eq_true rfl) ⟨Nat.zero_le _, Nat.zero_le _⟩ dX0_handsOn_33 hS hfa (fun u H locs hw _ _ hS => ?_)
    obtain ⟨r3, σ2⟩ := u
    obtain ⟨hp, hW2⟩ := hw
    have hW := hW2.weaken hfa
    try dsimp only at hp
    exact zr_i M hr hlocks (r3, σ2) rfl ⟨hp, hW⟩ hS dX0_handsOn_36
  · have hp := hp.2 c1
    refine z_il_n M dX0_handsOn_4 rfl hl 1 rfl ?_
    refine zi_const M 1 dX0_handsOn_5 rfl ?_
    refine zi_add M dX0_handsOn_6 ?_
    refine z_al_n M dX0_handsOn_7 rfl hl 0 rfl ?_
    refine zg_X0_5 M u_hin0 hW (hKC.k4 hm_q0) (M.hts _ u_fl_X0_27) dX0_handsOn_8 ?_
    refine zw_ge M (tgt := 32) dX0_handsOn_11 (by decide) rfl rfl (fun c4 => ?_) (fun c4 => ?_)
    · have hp := hp.1 c4
      refine z_al_n M dX0_handsOn_32 rfl hl 0 rfl ?_
      have hfa := hW.fa hS hA
      refine zc_VU (As := []) (rest := []) M (w_X0_lastEnd hKC hm_q0 hp) (cuV M 0 u_co_X0_lastEnd u_ml_X0_37 u_ini_X0 u_in_X0_lastEnd u_se_X0_lastEnd (by decide +kernel) rfl rfl ⟨Nat.le_of_ble_eq_true rfl, Nat.le_of_ble_eq_true rfl⟩) (z_recv M hW (hKC.k4 hm_q0) rfl rfl) ⟨rfl, hW.weaken (fun _ _ => trivial)⟩ rfl hl rfl (Nat.le_of_ble_eq_true rfl) ⟨Nat.zero_le _, Nat.zero_le _⟩ dX0_handsOn_33 hS hfa (fun u H locs hw _ _ hS => ?_)
      obtain ⟨r6, σ5⟩ := u
      obtain ⟨hp, hW2⟩ := hw
      have hW := hW2.weaken hfa
      try dsimp only at hp
      exact zr_i M hr hlocks (r6, σ5) rfl ⟨hp, hW⟩ hS dX0_handsOn_36
    · have hp := hp.2 c4
      refine z_il_n M dX0_handsOn_14 rfl hl 1 rfl ?_
      refine zi_const M 1 dX0_handsOn_15 rfl ?_
      refine zi_add M dX0_handsOn_16 ?_
      refine zi_const M 3 dX0_handsOn_17 rfl ?_
      refine zw_ge M (tgt := 32) dX0_handsOn_18 (by decide) rfl (w_of ⟨by decide, by decide⟩) (fun c7 => ?_) (fun c7 => ?_)
      · have hp := hp.1 c7
        refine z_al_n M dX0_handsOn_32 rfl hl 0 rfl ?_
        have hfa := hW.fa hS hA
        refine zc_VU (As := []) (rest := []) M (w_X0_lastEnd hKC hm_q0 hp) (cuV M 0 u_co_X0_lastEnd u_ml_X0_37 u_ini_X0 u_in_X0_lastEnd u_se_X0_lastEnd (by decide +kernel) rfl rfl ⟨Nat.le_of_ble_eq_true rfl, Nat.le_of_ble_eq_true rfl⟩) (z_recv M hW (hKC.k4 hm_q0) rfl rfl) ⟨rfl, hW.weaken (fun _ _ => trivial)⟩ rfl hl rfl (Nat.le_of_ble_eq_true rfl) ⟨Nat.zero_le _, Nat.zero_le _⟩ dX0_handsOn_33 hS hfa (fun u H locs hw _ _ hS => ?_)
        obtain ⟨r9, σ8⟩ := u
        obtain ⟨hp, hW2⟩ := hw
        have hW := hW2.weaken hfa
        try dsimp only at hp
        exact zr_i M hr hlocks (r9, σ8) rfl ⟨hp, hW⟩ hS dX0_handsOn_36
      · have hp := hp.2 c7
        refine z_al_n M dX0_handsOn_21 rfl hl 0 rfl ?_
        refine zg_X0_3 M u_hin0 hW (hKC.k4 hm_q0) (M.hts _ u_fl_X0_21) dX0_handsOn_22 ?_
        refine z_il_n M dX0_handsOn_25 rfl hl 1 rfl ?_
        refine zi_const M 1 dX0_handsOn_26 rfl ?_
        refine zi_add M dX0_handsOn_27 ?_
        obtain ⟨h10, h11, hp⟩ := hp
        refine za_i (n := 3) M hW (hKC.k5 hm_q0 (by decide)) (fun _ _ => rfl) h10 h11 (by decide) dX0_handsOn_28 ?_
        refine zg M (tgt := 36) dX0_handsOn_29 (by decide) ?_
        exact zr_i M hr hlocks ((σ.1 (5, q0, 3) ((v1 + 1)).toNat), σ) rfl ⟨hp, hW⟩ hS dX0_handsOn_36
def P_X0_take_L2 (K : List nKey) (k : nS → Prop) (q0 : Nat) (q1 : Nat) : Nat → Int → nS → Prop
  | 0 => fun _ _ => False
  | n + 1 => fun v2 σ =>
    ((3 ≤ w v2 → ∀ σ2 : nS, σ2 = s1 σ (4, q0, 0) 5 (σ.1 (4, q1, 0) 5) → k σ2) ∧ (w v2 < 3 → 0 ≤ v2 ∧ v2 < 3 ∧ 0 ≤ v2 ∧ v2 < 3 ∧ ∀ σ5 : nS, σ5 = s1 σ (5, q0, 0) (v2).toNat (σ.1 (5, q1, 0) (v2).toNat) → 0 ≤ v2 ∧ v2 < 3 ∧ 0 ≤ v2 ∧ v2 < 3 ∧ ∀ σ10 : nS, σ10 = s1 σ5 (5, q0, 1) (v2).toNat (σ5.1 (5, q1, 1) (v2).toNat) → 0 ≤ v2 ∧ v2 < 3 ∧ 0 ≤ v2 ∧ v2 < 3 ∧ ∀ σ15 : nS, σ15 = s1 σ10 (5, q0, 2) (v2).toNat (σ10.1 (5, q1, 2) (v2).toNat) → 0 ≤ v2 ∧ v2 < 3 ∧ 0 ≤ v2 ∧ v2 < 3 ∧ ∀ σ20 : nS, σ20 = s1 σ15 (5, q0, 3) (v2).toNat (σ15.1 (5, q1, 3) (v2).toNat) → 0 ≤ v2 ∧ v2 < 3 ∧ 0 ≤ v2 ∧ v2 < 3 ∧ ∀ σ25 : nS, σ25 = s1 σ20 (5, q0, 4) (v2).toNat (σ20.1 (5, q1, 4) (v2).toNat) → ∀ x28 : Int, x28 = v2 + 1 → (P_X0_take_L2 K k q0 q1 n) x28 σ25))
def P_X0_take (K : List nKey) (σ : nS) (q0 : Nat) (q1 : Nat) (k : nS → Prop) : Prop :=
  ∃ f29 : Nat, P_X0_take_L2 K k q0 q1 f29 0 σ
def rmX0_take : Room := { frames := 0, cells := 0, slots := 0, locals := 0 }
set_option maxHeartbeats 4000000 in
set_option maxRecDepth 100000 in
theorem w_X0_take {l : Launch} {D : va_G} {ca : Nat → ClassId} {K : List nKey} {ad : nKey → Nat} {σ : nS} {sz : Nat} (hKC : KC K) {q0 : Nat} {q1 : Nat} (hm_q0 : q0 < 2) (hm_q1 : q1 < 2) {k : nS → Prop} (hp : P_X0_take K σ q0 q1 k) : Met l yX0_take (Cond.code yX0_take cX0_take 3 none :: UW) rmX0_take (ZP D ca [.ref (ad (4, q0, 0)), .ref (ad (4, q1, 0))] (ZB D K ad ca σ sz)) (ZQv D K ad ca sz k) 0 0 (FA K ad sz) := by
  refine z_start (cc := cX0_take) (maxL := 3) (ret := none) (own := RX0) (K := K) (ad := ad) (σ := σ) (Qc := fun sz => ZQv D K ad ca sz k) (by decide) rfl (Nat.le_of_ble_eq_true rfl) ?_
  intro p e s m args below meth c M hr hlocks hW ls hl
  have hS : va_S (FA K ad s.heap.size) s.heap s.heap [] := va_S.rf
  have hA : ∀ q : Nat, s.heap.size ≤ q → FA K ad s.heap.size q := fun q h => Or.inr h
  replace hl : lv_has ls 3 [(0, .ref (ad (4, q0, 0))), (1, .ref (ad (4, q1, 0)))] := hl
  unfold P_X0_take at hp
  have hL2 : ∀ (f2 : Nat) (v2 : Int) (σ : nS) (H : Heap) (locs : List Loc) (ls : Array Slot), P_X0_take_L2 K k q0 q1 f2 v2 σ → XW D (FA K ad s.heap.size) K ad (cR ca ad σ) H → va_S (FA K ad s.heap.size) s.heap H locs → lv_has ls 3 [(0, .ref (ad (4, q0, 0))), (1, .ref (ad (4, q1, 0))), (2, .int (iN v2))] → W p l e rmX0_take s m args below meth c H locs 0 0 (MQ below (ZQv D K ad ca s.heap.size k) args s 0 0 (FA K ad s.heap.size)) (F0 m 2 ls []) := by
    intro f2
    induction f2 with
    | zero =>
      intro v2 σ H locs ls  hp
      exact hp.elim
    | succ f2 ih2 =>
      intro v2 σ H locs ls  hp hW hS hl
      refine z_il_n M dX0_take_2 rfl hl 2 rfl ?_
      refine zi_const M 3 dX0_take_3 rfl ?_
      refine zw_ge M (tgt := 73) dX0_take_4 (by decide) rfl (w_of ⟨by decide, by decide⟩) (fun c1 => ?_) (fun c1 => ?_)
      · have hp := hp.1 c1
        refine z_al_n M dX0_take_73 rfl hl 0 rfl ?_
        refine z_al_n M dX0_take_74 rfl hl 1 rfl ?_
        refine zg_X0_5 M u_hin0 hW (hKC.k4 hm_q1) (M.hts _ u_fl_X0_27) dX0_take_75 ?_
        obtain ⟨σ2, eσ2⟩ : ∃ z : nS, z = s1 σ (4, q0, 0) 5 (σ.1 (4, q1, 0) 5) := ⟨_, rfl⟩
        have hp := hp σ2 eσ2
        refine zp_X0_5 (v := (σ.1 (4, q1, 0) 5)) M u_hin0 hW hS (hKC.k4 hm_q0) (M.hts _ u_fl_X0_27) dX0_take_78 (fun H locs hW hS => ?_)
        rw [← eσ2] at hW
        exact zr_v M hr hlocks σ2 rfl ⟨hp, hW⟩ hS dX0_take_81
      · have hp := hp.2 c1
        refine z_al_n M dX0_take_7 rfl hl 0 rfl ?_
        refine zg_X0_0 M u_hin0 hW (hKC.k4 hm_q0) (M.hts _ u_fl_X0_9) dX0_take_8 ?_
        refine z_il_n M dX0_take_11 rfl hl 2 rfl ?_
        refine z_al_n M dX0_take_12 rfl hl 1 rfl ?_
        refine zg_X0_0 M u_hin0 hW (hKC.k4 hm_q1) (M.hts _ u_fl_X0_9) dX0_take_13 ?_
        refine z_il_n M dX0_take_16 rfl hl 2 rfl ?_
        obtain ⟨h3, h4, hp⟩ := hp
        refine za_i (n := 3) M hW (hKC.k5 hm_q1 (by decide)) (fun _ _ => rfl) h3 h4 (by decide) dX0_take_17 ?_
        obtain ⟨h6, h7, hp⟩ := hp
        obtain ⟨σ5, eσ5⟩ : ∃ z : nS, z = s1 σ (5, q0, 0) (v2).toNat (σ.1 (5, q1, 0) (v2).toNat) := ⟨_, rfl⟩
        have hp := hp σ5 eσ5
        refine zs_i (n := 3) M hW hS (hKC.k5 hm_q0 (by decide)) (fun _ _ => rfl) h6 h7 (by decide) dX0_take_18 (fun H locs hW hS => ?_)
        rw [← eσ5] at hW
        refine z_al_n M dX0_take_19 rfl hl 0 rfl ?_
        refine zg_X0_1 M u_hin0 hW (hKC.k4 hm_q0) (M.hts _ u_fl_X0_15) dX0_take_20 ?_
        refine z_il_n M dX0_take_23 rfl hl 2 rfl ?_
        refine z_al_n M dX0_take_24 rfl hl 1 rfl ?_
        refine zg_X0_1 M u_hin0 hW (hKC.k4 hm_q1) (M.hts _ u_fl_X0_15) dX0_take_25 ?_
        refine z_il_n M dX0_take_28 rfl hl 2 rfl ?_
        obtain ⟨h8, h9, hp⟩ := hp
        refine za_i (n := 3) M hW (hKC.k5 hm_q1 (by decide)) (fun _ _ => rfl) h8 h9 (by decide) dX0_take_29 ?_
        obtain ⟨h11, h12, hp⟩ := hp
        obtain ⟨σ10, eσ10⟩ : ∃ z : nS, z = s1 σ5 (5, q0, 1) (v2).toNat (σ5.1 (5, q1, 1) (v2).toNat) := ⟨_, rfl⟩
        have hp := hp σ10 eσ10
        refine zs_i (n := 3) M hW hS (hKC.k5 hm_q0 (by decide)) (fun _ _ => rfl) h11 h12 (by decide) dX0_take_30 (fun H locs hW hS => ?_)
        rw [← eσ10] at hW
        refine z_al_n M dX0_take_31 rfl hl 0 rfl ?_
        refine zg_X0_2 M u_hin0 hW (hKC.k4 hm_q0) (M.hts _ u_fl_X0_18) dX0_take_32 ?_
        refine z_il_n M dX0_take_35 rfl hl 2 rfl ?_
        refine z_al_n M dX0_take_36 rfl hl 1 rfl ?_
        refine zg_X0_2 M u_hin0 hW (hKC.k4 hm_q1) (M.hts _ u_fl_X0_18) dX0_take_37 ?_
        refine z_il_n M dX0_take_40 rfl hl 2 rfl ?_
        obtain ⟨h13, h14, hp⟩ := hp
        refine za_i (n := 3) M hW (hKC.k5 hm_q1 (by decide)) (fun _ _ => rfl) h13 h14 (by decide) dX0_take_41 ?_
        obtain ⟨h16, h17, hp⟩ := hp
        obtain ⟨σ15, eσ15⟩ : ∃ z : nS, z = s1 σ10 (5, q0, 2) (v2).toNat (σ10.1 (5, q1, 2) (v2).toNat) := ⟨_, rfl⟩
        have hp := hp σ15 eσ15
        refine zs_i (n := 3) M hW hS (hKC.k5 hm_q0 (by decide)) (fun _ _ => rfl) h16 h17 (by decide) dX0_take_42 (fun H locs hW hS => ?_)
        rw [← eσ15] at hW
        refine z_al_n M dX0_take_43 rfl hl 0 rfl ?_
        refine zg_X0_3 M u_hin0 hW (hKC.k4 hm_q0) (M.hts _ u_fl_X0_21) dX0_take_44 ?_
        refine z_il_n M dX0_take_47 rfl hl 2 rfl ?_
        refine z_al_n M dX0_take_48 rfl hl 1 rfl ?_
        refine zg_X0_3 M u_hin0 hW (hKC.k4 hm_q1) (M.hts _ u_fl_X0_21) dX0_take_49 ?_
        refine z_il_n M dX0_take_52 rfl hl 2 rfl ?_
        obtain ⟨h18, h19, hp⟩ := hp
        refine za_i (n := 3) M hW (hKC.k5 hm_q1 (by decide)) (fun _ _ => rfl) h18 h19 (by decide) dX0_take_53 ?_
        obtain ⟨h21, h22, hp⟩ := hp
        obtain ⟨σ20, eσ20⟩ : ∃ z : nS, z = s1 σ15 (5, q0, 3) (v2).toNat (σ15.1 (5, q1, 3) (v2).toNat) := ⟨_, rfl⟩
        have hp := hp σ20 eσ20
        refine zs_i (n := 3) M hW hS (hKC.k5 hm_q0 (by decide)) (fun _ _ => rfl) h21 h22 (by decide) dX0_take_54 (fun H locs hW hS => ?_)
        rw [← eσ20] at hW
        refine z_al_n M dX0_take_55 rfl hl 0 rfl ?_
        refine zg_X0_4 M u_hin0 hW (hKC.k4 hm_q0) (M.hts _ u_fl_X0_24) dX0_take_56 ?_
        refine z_il_n M dX0_take_59 rfl hl 2 rfl ?_
        refine z_al_n M dX0_take_60 rfl hl 1 rfl ?_
        refine zg_X0_4 M u_hin0 hW (hKC.k4 hm_q1) (M.hts _ u_fl_X0_24) dX0_take_61 ?_
        refine z_il_n M dX0_take_64 rfl hl 2 rfl ?_
        obtain ⟨h23, h24, hp⟩ := hp
        refine za_i (n := 3) M hW (hKC.k5 hm_q1 (by decide)) (fun _ _ => rfl) h23 h24 (by decide) dX0_take_65 ?_
        obtain ⟨h26, h27, hp⟩ := hp
        obtain ⟨σ25, eσ25⟩ : ∃ z : nS, z = s1 σ20 (5, q0, 4) (v2).toNat (σ20.1 (5, q1, 4) (v2).toNat) := ⟨_, rfl⟩
        have hp := hp σ25 eσ25
        refine zs_i (n := 3) M hW hS (hKC.k5 hm_q0 (by decide)) (fun _ _ => rfl) h26 h27 (by decide) dX0_take_66 (fun H locs hW hS => ?_)
        rw [← eσ25] at hW
        obtain ⟨x28, ex28⟩ : ∃ z : Int, z = v2 + 1 := ⟨_, rfl⟩
        have hp := hp x28 ex28
        refine z_inc M [(2, .int (iN x28)), (0, .ref (ad (4, q0, 0))), (1, .ref (ad (4, q1, 0)))] x28 dX0_take_67 hl 2 rfl ex28.symm (by decide) rfl (fun ls hl => ?_)
        refine zg M (tgt := 2) dX0_take_70 (by decide) ?_
        exact ih2 x28 σ25 _ _ _  hp hW hS (lv_sub hl [1, 2, 0] rfl)
  refine zi_const M 0 dX0_take_0 rfl ?_
  refine z_is_n M [(2, .int (iN 0)), (0, .ref (ad (4, q0, 0))), (1, .ref (ad (4, q1, 0)))] dX0_take_1 rfl hl (by decide) rfl (fun ls hl => ?_)
  obtain ⟨f29, hp⟩ := hp
  exact hL2 f29 0 σ _ _ _  hp hW hS (lv_sub hl [1, 2, 0] rfl)
def P_X4_wayOf (K : List nKey) (σ : nS) (q1 : Nat) (v2 : Int) (v3 : Int) (k : Int → nS → Prop) : Prop :=
  P_X4_isPlace K σ v2 (fun r2 σ1 => ((w r2 = 0 → k (-1) σ1) ∧ (w r2 ≠ 0 → P_X4_isPlace K σ1 v3 (fun r5 σ4 => ((w r5 = 0 → k (-1) σ4) ∧ (w r5 ≠ 0 → 0 ≤ ((v2 * 8) + v3) ∧ ((v2 * 8) + v3) < 64 ∧ k (σ4.1 (7, q1, 0) (((v2 * 8) + v3)).toNat) σ4))))))
def rmX4_wayOf : Room := { frames := 1, cells := 0, slots := 0, locals := 21 }
set_option maxHeartbeats 4000000 in
set_option maxRecDepth 100000 in
theorem w_X4_wayOf {l : Launch} {D : va_G} {ca : Nat → ClassId} {K : List nKey} {ad : nKey → Nat} {σ : nS} {sz : Nat} (hKC : KC K) {q1 : Nat} {v2 : Int} {v3 : Int} (hm_q1 : (6, q1, 0) ∈ K) {k : Int → nS → Prop} (hp : P_X4_wayOf K σ q1 v2 v3 k) : Met l yX4_wayOf (Cond.code yX4_wayOf cX4_wayOf 4 (some .int) :: UW) rmX4_wayOf (ZP D ca [.ref (ad (0, 0, 0)), .ref (ad (6, q1, 0)), .int (iN v2), .int (iN v3)] (ZB D K ad ca σ sz)) (ZQi D K ad ca sz k) 0 0 (FA K ad sz) := by
  refine z_start (cc := cX4_wayOf) (maxL := 4) (ret := (some .int)) (own := RX4) (K := K) (ad := ad) (σ := σ) (Qc := fun sz => ZQi D K ad ca sz k) (by decide) rfl (Nat.le_of_ble_eq_true rfl) ?_
  intro p e s m args below meth c M hr hlocks hW ls hl
  have hS : va_S (FA K ad s.heap.size) s.heap s.heap [] := va_S.rf
  have hA : ∀ q : Nat, s.heap.size ≤ q → FA K ad s.heap.size q := fun q h => Or.inr h
  replace hl : lv_has ls 4 [(0, .ref (ad (0, 0, 0))), (1, .ref (ad (6, q1, 0))), (2, .int (iN v2)), (3, .int (iN v3))] := hl
  unfold P_X4_wayOf at hp
  refine z_al_n M dX4_wayOf_0 rfl hl 0 rfl ?_
  refine z_il_n M dX4_wayOf_1 rfl hl 2 rfl ?_
  have hfa := hW.fa hS hA
  refine zc_VU (As := [.int (iN v2)]) (rest := []) M (w_X4_isPlace hKC  hp) (cuV M 1 u_co_X4_isPlace u_ml_X4_51 u_ini_X4 u_in_X4_isPlace u_se_X4_isPlace (by decide +kernel) rfl rfl ⟨Nat.le_of_ble_eq_true rfl, Nat.le_of_ble_eq_true rfl⟩) (z_recv M hW hKC.k0 rfl rfl) ⟨rfl, hW.weaken (fun _ _ => trivial)⟩ rfl hl rfl (Nat.le_of_ble_eq_true rfl) ⟨Nat.zero_le _, Nat.zero_le _⟩ dX4_wayOf_2 hS hfa (fun u H locs hw _ _ hS => ?_)
  obtain ⟨r2, σ1⟩ := u
  obtain ⟨hp, hW2⟩ := hw
  have hW := hW2.weaken hfa
  try dsimp only at hp
  refine zv_eq M (tgt := 30) dX4_wayOf_5 (by decide) rfl (fun c3 => ?_) (fun c3 => ?_)
  · have hp := hp.1 c3
    refine zi_const M (-1) dX4_wayOf_30 rfl ?_
    exact zr_i M hr hlocks ((-1), σ1) rfl ⟨hp, hW⟩ hS dX4_wayOf_31
  · have hp := hp.2 c3
    refine z_al_n M dX4_wayOf_8 rfl hl 0 rfl ?_
    refine z_il_n M dX4_wayOf_9 rfl hl 3 rfl ?_
    have hfa := hW.fa hS hA
    refine zc_VU (As := [.int (iN v3)]) (rest := []) M (w_X4_isPlace hKC  hp) (cuV M 1 u_co_X4_isPlace u_ml_X4_51 u_ini_X4 u_in_X4_isPlace u_se_X4_isPlace (by decide +kernel) rfl rfl ⟨Nat.le_of_ble_eq_true rfl, Nat.le_of_ble_eq_true rfl⟩) (z_recv M hW hKC.k0 rfl rfl) ⟨rfl, hW.weaken (fun _ _ => trivial)⟩ rfl hl rfl (Nat.le_of_ble_eq_true rfl) ⟨Nat.zero_le _, Nat.zero_le _⟩ dX4_wayOf_10 hS hfa (fun u H locs hw _ _ hS => ?_)
    obtain ⟨r5, σ4⟩ := u
    obtain ⟨hp, hW2⟩ := hw
    have hW := hW2.weaken hfa
    try dsimp only at hp
    refine zv_eq M (tgt := 30) dX4_wayOf_13 (by decide) rfl (fun c6 => ?_) (fun c6 => ?_)
    · have hp := hp.1 c6
      refine zi_const M (-1) dX4_wayOf_30 rfl ?_
      exact zr_i M hr hlocks ((-1), σ4) rfl ⟨hp, hW⟩ hS dX4_wayOf_31
    · have hp := hp.2 c6
      refine z_al_n M dX4_wayOf_16 rfl hl 1 rfl ?_
      refine zg_X3_5 M u_hin3 hW hm_q1 (M.hts _ u_fl_X4_214) dX4_wayOf_17 ?_
      refine z_il_n M dX4_wayOf_20 rfl hl 2 rfl ?_
      refine zi_bi M 8 dX4_wayOf_21 (by decide +kernel) ?_
      refine zi_mul M dX4_wayOf_23 ?_
      refine z_il_n M dX4_wayOf_24 rfl hl 3 rfl ?_
      refine zi_add M dX4_wayOf_25 ?_
      obtain ⟨h7, h8, hp⟩ := hp
      refine za_i (n := 64) M hW (hKC.k7 hm_q1) (fun _ _ => rfl) h7 h8 (by decide) dX4_wayOf_26 ?_
      refine zg M (tgt := 31) dX4_wayOf_27 (by decide) ?_
      exact zr_i M hr hlocks ((σ4.1 (7, q1, 0) (((v2 * 8) + v3)).toNat), σ4) rfl ⟨hp, hW⟩ hS dX4_wayOf_31
def P_X4_roadWithin (K : List nKey) (σ : nS) (v1 : Int) (v2 : Int) (v3 : Int) (k : Int → nS → Prop) : Prop :=
  P_X4_isPlace K σ v2 (fun r2 σ1 => ((w r2 = 0 → k (-1) σ1) ∧ (w r2 ≠ 0 → P_X4_isPlace K σ1 v3 (fun r5 σ4 => ((w r5 = 0 → k (-1) σ4) ∧ (w r5 ≠ 0 → P_X4_hasBit K σ4 v1 v2 (fun r8 σ7 => ((w r8 = 0 → k (-1) σ7) ∧ (w r8 ≠ 0 → P_X4_hasBit K σ7 v1 v3 (fun r11 σ10 => ((w r11 ≠ 0 → ((w v2 ≠ w v3 → 0 ≤ ((v2 * 8) + v3) ∧ ((v2 * 8) + v3) < 64 ∧ ∀ x16 : Int, x16 = (σ10.1 (1, 0, 0) (((v2 * 8) + v3)).toNat) → ((w x16 ≠ 0 → k x16 σ10) ∧ (w x16 = 0 → k (-1) σ10))) ∧ (w v2 = w v3 → k 0 σ10))) ∧ (w r11 = 0 → k (-1) σ10))))))))))))
def rmX4_roadWithin : Room := { frames := 1, cells := 0, slots := 0, locals := 21 }
set_option maxHeartbeats 4000000 in
set_option maxRecDepth 100000 in
theorem w_X4_roadWithin {l : Launch} {D : va_G} {ca : Nat → ClassId} {K : List nKey} {ad : nKey → Nat} {σ : nS} {sz : Nat} (hKC : KC K) {v1 : Int} {v2 : Int} {v3 : Int} {k : Int → nS → Prop} (hp : P_X4_roadWithin K σ v1 v2 v3 k) : Met l yX4_roadWithin (Cond.code yX4_roadWithin cX4_roadWithin 5 (some .int) :: UW) rmX4_roadWithin (ZP D ca [.ref (ad (0, 0, 0)), .int (iN v1), .int (iN v2), .int (iN v3)] (ZB D K ad ca σ sz)) (ZQi D K ad ca sz k) 0 0 (FA K ad sz) := by
  refine z_start (cc := cX4_roadWithin) (maxL := 5) (ret := (some .int)) (own := RX4) (K := K) (ad := ad) (σ := σ) (Qc := fun sz => ZQi D K ad ca sz k) (by decide) rfl (Nat.le_of_ble_eq_true rfl) ?_
  intro p e s m args below meth c M hr hlocks hW ls hl
  have hS : va_S (FA K ad s.heap.size) s.heap s.heap [] := va_S.rf
  have hA : ∀ q : Nat, s.heap.size ≤ q → FA K ad s.heap.size q := fun q h => Or.inr h
  replace hl : lv_has ls 5 [(0, .ref (ad (0, 0, 0))), (1, .int (iN v1)), (2, .int (iN v2)), (3, .int (iN v3))] := hl
  unfold P_X4_roadWithin at hp
  refine z_al_n M dX4_roadWithin_0 rfl hl 0 rfl ?_
  refine z_il_n M dX4_roadWithin_1 rfl hl 2 rfl ?_
  have hfa := hW.fa hS hA
  refine zc_VU (As := [.int (iN v2)]) (rest := []) M (w_X4_isPlace hKC  hp) (cuV M 1 u_co_X4_isPlace u_ml_X4_51 u_ini_X4 u_in_X4_isPlace u_se_X4_isPlace (by decide +kernel) rfl rfl ⟨Nat.le_of_ble_eq_true rfl, Nat.le_of_ble_eq_true rfl⟩) (z_recv M hW hKC.k0 rfl rfl) ⟨rfl, hW.weaken (fun _ _ => trivial)⟩ rfl hl rfl (Nat.le_of_ble_eq_true rfl) ⟨Nat.zero_le _, Nat.zero_le _⟩ dX4_roadWithin_2 hS hfa (fun u H locs hw _ _ hS => ?_)
  obtain ⟨r2, σ1⟩ := u
  obtain ⟨hp, hW2⟩ := hw
  have hW := hW2.weaken hfa
  try dsimp only at hp
  refine zv_eq M (tgt := 32) dX4_roadWithin_5 (by decide) rfl (fun c3 => ?_) (fun c3 => ?_)
  · have hp := hp.1 c3
    refine zi_const M (-1) dX4_roadWithin_32 rfl ?_
    exact zr_i M hr hlocks ((-1), σ1) rfl ⟨hp, hW⟩ hS dX4_roadWithin_33
  · have hp := hp.2 c3
    refine z_al_n M dX4_roadWithin_8 rfl hl 0 rfl ?_
    refine z_il_n M dX4_roadWithin_9 rfl hl 3 rfl ?_
    have hfa := hW.fa hS hA
    refine zc_VU (As := [.int (iN v3)]) (rest := []) M (w_X4_isPlace hKC  hp) (cuV M 1 u_co_X4_isPlace u_ml_X4_51 u_ini_X4 u_in_X4_isPlace u_se_X4_isPlace (by decide +kernel) rfl rfl ⟨Nat.le_of_ble_eq_true rfl, Nat.le_of_ble_eq_true rfl⟩) (z_recv M hW hKC.k0 rfl rfl) ⟨rfl, hW.weaken (fun _ _ => trivial)⟩ rfl hl rfl (Nat.le_of_ble_eq_true rfl) ⟨Nat.zero_le _, Nat.zero_le _⟩ dX4_roadWithin_10 hS hfa (fun u H locs hw _ _ hS => ?_)
    obtain ⟨r5, σ4⟩ := u
    obtain ⟨hp, hW2⟩ := hw
    have hW := hW2.weaken hfa
    try dsimp only at hp
    refine zv_eq M (tgt := 32) dX4_roadWithin_13 (by decide) rfl (fun c6 => ?_) (fun c6 => ?_)
    · have hp := hp.1 c6
      refine zi_const M (-1) dX4_roadWithin_32 rfl ?_
      exact zr_i M hr hlocks ((-1), σ4) rfl ⟨hp, hW⟩ hS dX4_roadWithin_33
    · have hp := hp.2 c6
      refine z_il_n M dX4_roadWithin_16 rfl hl 1 rfl ?_
      refine z_il_n M dX4_roadWithin_17 rfl hl 2 rfl ?_
      have hfa := hW.fa hS hA
      refine zc_SU (As := [.int (iN v1), .int (iN v2)]) (rest := []) M (w_X4_hasBit hKC  hp) (cuS M 2 u_co_X4_hasBit u_ml_X4_67 u_ini_X4 u_st_X4_hasBit (by decide +kernel) rfl rfl ⟨Nat.le_of_ble_eq_true rfl, Nat.le_of_ble_eq_true rfl⟩) ⟨rfl, hW.weaken (fun _ _ => trivial)⟩ rfl hl rfl (Nat.le_of_ble_eq_true rfl) ⟨Nat.zero_le _, Nat.zero_le _⟩ dX4_roadWithin_18 hS hfa (fun u H locs hw _ _ hS => ?_)
      obtain ⟨r8, σ7⟩ := u
      obtain ⟨hp, hW2⟩ := hw
      have hW := hW2.weaken hfa
      try dsimp only at hp
      refine zv_eq M (tgt := 32) dX4_roadWithin_21 (by decide) rfl (fun c9 => ?_) (fun c9 => ?_)
      · have hp := hp.1 c9
        refine zi_const M (-1) dX4_roadWithin_32 rfl ?_
        exact zr_i M hr hlocks ((-1), σ7) rfl ⟨hp, hW⟩ hS dX4_roadWithin_33
      · have hp := hp.2 c9
        refine z_il_n M dX4_roadWithin_24 rfl hl 1 rfl ?_
        refine z_il_n M dX4_roadWithin_25 rfl hl 3 rfl ?_
        have hfa := hW.fa hS hA
        refine zc_SU (As := [.int (iN v1), .int (iN v3)]) (rest := []) M (w_X4_hasBit hKC  hp) (cuS M 2 u_co_X4_hasBit u_ml_X4_67 u_ini_X4 u_st_X4_hasBit (by decide +kernel) rfl rfl ⟨Nat.le_of_ble_eq_true rfl, Nat.le_of_ble_eq_true rfl⟩) ⟨rfl, hW.weaken (fun _ _ => trivial)⟩ rfl hl rfl (Nat.le_of_ble_eq_true rfl) ⟨Nat.zero_le _, Nat.zero_le _⟩ dX4_roadWithin_26 hS hfa (fun u H locs hw _ _ hS => ?_)
        obtain ⟨r11, σ10⟩ := u
        obtain ⟨hp, hW2⟩ := hw
        have hW := hW2.weaken hfa
        try dsimp only at hp
        refine zv_ne M (tgt := 34) dX4_roadWithin_29 (by decide) rfl (fun c12 => ?_) (fun c12 => ?_)
        · have hp := hp.1 c12
          refine z_il_n M dX4_roadWithin_34 rfl hl 2 rfl ?_
          refine z_il_n M dX4_roadWithin_35 rfl hl 3 rfl ?_
          refine zw_ne M (tgt := 41) dX4_roadWithin_36 (by decide) rfl rfl (fun c13 => ?_) (fun c13 => ?_)
          · have hp := hp.1 c13
            refine z_al_n M dX4_roadWithin_41 rfl hl 0 rfl ?_
            refine zg_X4_0 M u_hin4 hW hKC.k0 (M.hts _ u_fl_X4_9) dX4_roadWithin_42 ?_
            refine z_il_n M dX4_roadWithin_45 rfl hl 2 rfl ?_
            refine zi_bi M 8 dX4_roadWithin_46 (by decide +kernel) ?_
            refine zi_mul M dX4_roadWithin_48 ?_
            refine z_il_n M dX4_roadWithin_49 rfl hl 3 rfl ?_
            refine zi_add M dX4_roadWithin_50 ?_
            obtain ⟨h14, h15, hp⟩ := hp
            refine za_i (n := 64) M hW hKC.k1 (fun _ _ => rfl) h14 h15 (by decide) dX4_roadWithin_51 ?_
            refine zi_nm (fun x16 ex16 => ?_)
            have hp := hp x16 ex16
            refine z_is M [(4, .int (iN x16)), (0, .ref (ad (0, 0, 0))), (1, .int (iN v1)), (2, .int (iN v2)), (3, .int (iN v3))] dX4_roadWithin_52 hl (by decide) rfl (fun ls hl => ?_)
            refine z_il M dX4_roadWithin_54 hl 0 rfl ?_
            refine zv_ne M (tgt := 63) dX4_roadWithin_56 (by decide) rfl (fun c17 => ?_) (fun c17 => ?_)
            · have hp := hp.1 c17
              refine z_il M dX4_roadWithin_63 hl 0 rfl ?_
              exact zr_i M hr hlocks (x16, σ10) rfl ⟨hp, hW⟩ hS dX4_roadWithin_65
            · have hp := hp.2 c17
              refine zi_const M (-1) dX4_roadWithin_59 rfl ?_
              refine zg M (tgt := 65) dX4_roadWithin_60 (by decide) ?_
              exact zr_i M hr hlocks ((-1), σ10) rfl ⟨hp, hW⟩ hS dX4_roadWithin_65
          · have hp := hp.2 c13
            refine zi_const M 0 dX4_roadWithin_39 rfl ?_
            exact zr_i M hr hlocks (0, σ10) rfl ⟨hp, hW⟩ hS dX4_roadWithin_40
        · have hp := hp.2 c12
          refine zi_const M (-1) dX4_roadWithin_32 rfl ?_
          exact zr_i M hr hlocks ((-1), σ10) rfl ⟨hp, hW⟩ hS dX4_roadWithin_33
