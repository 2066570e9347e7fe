theorem z_lt0 : (0 : Nat) < 2 := by decide
theorem z_lt1 : (1 : Nat) < 2 := by decide
def P_X4_isMinute (K : List nKey) (σ : nS) (v0 : Int) (k : Int → nS → Prop) : Prop :=
  ((w v0 < 0 → k 0 σ) ∧ (0 ≤ w v0 → ((4320 ≤ w v0 → k 0 σ) ∧ (w v0 < 4320 → k 1 σ))))
def rmX4_isMinute : Room := { frames := 0, cells := 0, slots := 0, locals := 0 }
set_option maxHeartbeats 4000000 in
set_option maxRecDepth 100000 in
theorem w_X4_isMinute {l : Launch} {D : va_G} {ca : Nat → ClassId} {K : List nKey} {ad : nKey → Nat} {σ : nS} {sz : Nat} (hKC : KC K) {v0 : Int} {k : Int → nS → Prop} (hp : P_X4_isMinute K σ v0 k) : Met l yX4_isMinute (Cond.code yX4_isMinute cX4_isMinute 1 (some .boolean) :: UW) rmX4_isMinute (ZP D ca [.int (iN v0)] (ZB D K ad ca σ sz)) (ZQi D K ad ca sz k) 0 0 (FA K ad sz) := by
  refine z_start (cc := cX4_isMinute) (maxL := 1) (ret := (some .boolean)) (own := RX4) (K := K) (ad := ad) (σ := σ) (Qc := fun sz => ZQi D K ad ca sz k) (by decide) rfl (Nat.le_of_ble_eq_true rfl) ?_
  intro p e s m args below meth c M hr hlocks hW ls hl
  have hS : va_S (FA K ad s.heap.size) s.heap s.heap [] := va_S.rf
  have hA : ∀ q : Nat, s.heap.size ≤ q → FA K ad s.heap.size q := fun q h => Or.inr h
  replace hl : lv_has ls 1 [(0, .int (iN v0))] := hl
  unfold P_X4_isMinute at hp
  refine z_il_n M dX4_isMinute_0 rfl hl 0 rfl ?_
  refine zv_lt M (tgt := 15) dX4_isMinute_1 (by decide) rfl (fun c1 => ?_) (fun c1 => ?_)
  · have hp := hp.1 c1
    refine zi_const M 0 dX4_isMinute_15 rfl ?_
    exact zr_z M hr hlocks (0, σ) (by decide) rfl ⟨hp, hW⟩ hS dX4_isMinute_16
  · have hp := hp.2 c1
    refine z_il_n M dX4_isMinute_4 rfl hl 0 rfl ?_
    refine zi_si M 4320 dX4_isMinute_5 (by decide +kernel) ?_
    refine zw_ge M (tgt := 15) dX4_isMinute_8 (by decide) rfl (w_of ⟨by decide, by decide⟩) (fun c2 => ?_) (fun c2 => ?_)
    · have hp := hp.1 c2
      refine zi_const M 0 dX4_isMinute_15 rfl ?_
      exact zr_z M hr hlocks (0, σ) (by decide) rfl ⟨hp, hW⟩ hS dX4_isMinute_16
    · have hp := hp.2 c2
      refine zi_const M 1 dX4_isMinute_11 rfl ?_
      refine zg M (tgt := 16) dX4_isMinute_12 (by decide) ?_
      exact zr_z M hr hlocks (1, σ) (by decide) rfl ⟨hp, hW⟩ hS dX4_isMinute_16
def P_X4_isKind (K : List nKey) (σ : nS) (v0 : Int) (k : Int → nS → Prop) : Prop :=
  ((w v0 < 0 → k 0 σ) ∧ (0 ≤ w v0 → ((4 ≤ w v0 → k 0 σ) ∧ (w v0 < 4 → k 1 σ))))
def rmX4_isKind : Room := { frames := 0, cells := 0, slots := 0, locals := 0 }
set_option maxHeartbeats 4000000 in
set_option maxRecDepth 100000 in
theorem w_X4_isKind {l : Launch} {D : va_G} {ca : Nat → ClassId} {K : List nKey} {ad : nKey → Nat} {σ : nS} {sz : Nat} (hKC : KC K) {v0 : Int} {k : Int → nS → Prop} (hp : P_X4_isKind K σ v0 k) : Met l yX4_isKind (Cond.code yX4_isKind cX4_isKind 1 (some .boolean) :: UW) rmX4_isKind (ZP D ca [.int (iN v0)] (ZB D K ad ca σ sz)) (ZQi D K ad ca sz k) 0 0 (FA K ad sz) := by
  refine z_start (cc := cX4_isKind) (maxL := 1) (ret := (some .boolean)) (own := RX4) (K := K) (ad := ad) (σ := σ) (Qc := fun sz => ZQi D K ad ca sz k) (by decide) rfl (Nat.le_of_ble_eq_true rfl) ?_
  intro p e s m args below meth c M hr hlocks hW ls hl
  have hS : va_S (FA K ad s.heap.size) s.heap s.heap [] := va_S.rf
  have hA : ∀ q : Nat, s.heap.size ≤ q → FA K ad s.heap.size q := fun q h => Or.inr h
  replace hl : lv_has ls 1 [(0, .int (iN v0))] := hl
  unfold P_X4_isKind at hp
  refine z_il_n M dX4_isKind_0 rfl hl 0 rfl ?_
  refine zv_lt M (tgt := 13) dX4_isKind_1 (by decide) rfl (fun c1 => ?_) (fun c1 => ?_)
  · have hp := hp.1 c1
    refine zi_const M 0 dX4_isKind_13 rfl ?_
    exact zr_z M hr hlocks (0, σ) (by decide) rfl ⟨hp, hW⟩ hS dX4_isKind_14
  · have hp := hp.2 c1
    refine z_il_n M dX4_isKind_4 rfl hl 0 rfl ?_
    refine zi_const M 4 dX4_isKind_5 rfl ?_
    refine zw_ge M (tgt := 13) dX4_isKind_6 (by decide) rfl (w_of ⟨by decide, by decide⟩) (fun c2 => ?_) (fun c2 => ?_)
    · have hp := hp.1 c2
      refine zi_const M 0 dX4_isKind_13 rfl ?_
      exact zr_z M hr hlocks (0, σ) (by decide) rfl ⟨hp, hW⟩ hS dX4_isKind_14
    · have hp := hp.2 c2
      refine zi_const M 1 dX4_isKind_9 rfl ?_
      refine zg M (tgt := 14) dX4_isKind_10 (by decide) ?_
      exact zr_z M hr hlocks (1, σ) (by decide) rfl ⟨hp, hW⟩ hS dX4_isKind_14
def P_X4_isPlace (K : List nKey) (σ : nS) (v1 : Int) (k : Int → nS → Prop) : Prop :=
  ((w v1 < 0 → k 0 σ) ∧ (0 ≤ w v1 → ((w (σ.1 (0, 0, 0) 5) ≤ w v1 → k 0 σ) ∧ (w v1 < w (σ.1 (0, 0, 0) 5) → ((8 ≤ w v1 → k 0 σ) ∧ (w v1 < 8 → k 1 σ))))))
def rmX4_isPlace : Room := { frames := 0, cells := 0, slots := 0, locals := 0 }
set_option maxHeartbeats 4000000 in
set_option maxRecDepth 100000 in
theorem w_X4_isPlace {l : Launch} {D : va_G} {ca : Nat → ClassId} {K : List nKey} {ad : nKey → Nat} {σ : nS} {sz : Nat} (hKC : KC K) {v1 : Int} {k : Int → nS → Prop} (hp : P_X4_isPlace K σ v1 k) : Met l yX4_isPlace (Cond.code yX4_isPlace cX4_isPlace 2 (some .boolean) :: UW) rmX4_isPlace (ZP D ca [.ref (ad (0, 0, 0)), .int (iN v1)] (ZB D K ad ca σ sz)) (ZQi D K ad ca sz k) 0 0 (FA K ad sz) := by
  refine z_start (cc := cX4_isPlace) (maxL := 2) (ret := (some .boolean)) (own := RX4) (K := K) (ad := ad) (σ := σ) (Qc := fun sz => ZQi D K ad ca sz k) (by decide) rfl (Nat.le_of_ble_eq_true rfl) ?_
  intro p e s m args below meth c M hr hlocks hW ls hl
  have hS : va_S (FA K ad s.heap.size) s.heap s.heap [] := va_S.rf
  have hA : ∀ q : Nat, s.heap.size ≤ q → FA K ad s.heap.size q := fun q h => Or.inr h
  replace hl : lv_has ls 2 [(0, .ref (ad (0, 0, 0))), (1, .int (iN v1))] := hl
  unfold P_X4_isPlace at hp
  refine z_il_n M dX4_isPlace_0 rfl hl 1 rfl ?_
  refine zv_lt M (tgt := 22) dX4_isPlace_1 (by decide) rfl (fun c1 => ?_) (fun c1 => ?_)
  · have hp := hp.1 c1
    refine zi_const M 0 dX4_isPlace_22 rfl ?_
    exact zr_z M hr hlocks (0, σ) (by decide) rfl ⟨hp, hW⟩ hS dX4_isPlace_23
  · have hp := hp.2 c1
    refine z_il_n M dX4_isPlace_4 rfl hl 1 rfl ?_
    refine z_al_n M dX4_isPlace_5 rfl hl 0 rfl ?_
    refine zg_X4_5 M u_hin4 hW hKC.k0 (M.hts _ u_fl_X4_35) dX4_isPlace_6 ?_
    refine zw_ge M (tgt := 22) dX4_isPlace_9 (by decide) rfl rfl (fun c2 => ?_) (fun c2 => ?_)
    · have hp := hp.1 c2
      refine zi_const M 0 dX4_isPlace_22 rfl ?_
      exact zr_z M hr hlocks (0, σ) (by decide) rfl ⟨hp, hW⟩ hS dX4_isPlace_23
    · have hp := hp.2 c2
      refine z_il_n M dX4_isPlace_12 rfl hl 1 rfl ?_
      refine zi_bi M 8 dX4_isPlace_13 (by decide +kernel) ?_
      refine zw_ge M (tgt := 22) dX4_isPlace_15 (by decide) rfl (w_of ⟨by decide, by decide⟩) (fun c3 => ?_) (fun c3 => ?_)
      · have hp := hp.1 c3
        refine zi_const M 0 dX4_isPlace_22 rfl ?_
        exact zr_z M hr hlocks (0, σ) (by decide) rfl ⟨hp, hW⟩ hS dX4_isPlace_23
      · have hp := hp.2 c3
        refine zi_const M 1 dX4_isPlace_18 rfl ?_
        refine zg M (tgt := 23) dX4_isPlace_19 (by decide) ?_
        exact zr_z M hr hlocks (1, σ) (by decide) rfl ⟨hp, hW⟩ hS dX4_isPlace_23
def P_X4_areBits (K : List nKey) (σ : nS) (v0 : Int) (v1 : Int) (k : Int → nS → Prop) : Prop :=
  ((w v0 < 0 → k 0 σ) ∧ (0 ≤ w v0 → ((w (shlI 1 v1) ≤ w v0 → k 0 σ) ∧ (w v0 < w (shlI 1 v1) → k 1 σ))))
def rmX4_areBits : Room := { frames := 0, cells := 0, slots := 0, locals := 0 }
set_option maxHeartbeats 4000000 in
set_option maxRecDepth 100000 in
theorem w_X4_areBits {l : Launch} {D : va_G} {ca : Nat → ClassId} {K : List nKey} {ad : nKey → Nat} {σ : nS} {sz : Nat} (hKC : KC K) {v0 : Int} {v1 : Int} {k : Int → nS → Prop} (hp : P_X4_areBits K σ v0 v1 k) : Met l yX4_areBits (Cond.code yX4_areBits cX4_areBits 2 (some .boolean) :: UW) rmX4_areBits (ZP D ca [.int (iN v0), .int (iN v1)] (ZB D K ad ca σ sz)) (ZQi D K ad ca sz k) 0 0 (FA K ad sz) := by
  refine z_start (cc := cX4_areBits) (maxL := 2) (ret := (some .boolean)) (own := RX4) (K := K) (ad := ad) (σ := σ) (Qc := fun sz => ZQi D K ad ca sz k) (by decide) rfl (Nat.le_of_ble_eq_true rfl) ?_
  intro p e s m args below meth c M hr hlocks hW ls hl
  have hS : va_S (FA K ad s.heap.size) s.heap s.heap [] := va_S.rf
  have hA : ∀ q : Nat, s.heap.size ≤ q → FA K ad s.heap.size q := fun q h => Or.inr h
  replace hl : lv_has ls 2 [(0, .int (iN v0)), (1, .int (iN v1))] := hl
  unfold P_X4_areBits at hp
  refine z_il_n M dX4_areBits_0 rfl hl 0 rfl ?_
  refine zv_lt M (tgt := 15) dX4_areBits_1 (by decide) rfl (fun c1 => ?_) (fun c1 => ?_)
  · have hp := hp.1 c1
    refine zi_const M 0 dX4_areBits_15 rfl ?_
    exact zr_z M hr hlocks (0, σ) (by decide) rfl ⟨hp, hW⟩ hS dX4_areBits_16
  · have hp := hp.2 c1
    refine z_il_n M dX4_areBits_4 rfl hl 0 rfl ?_
    refine zi_const M 1 dX4_areBits_5 rfl ?_
    refine z_il_n M dX4_areBits_6 rfl hl 1 rfl ?_
    refine zo_shl M dX4_areBits_7 ?_
    refine zw_ge M (tgt := 15) dX4_areBits_8 (by decide) rfl rfl (fun c2 => ?_) (fun c2 => ?_)
    · have hp := hp.1 c2
      refine zi_const M 0 dX4_areBits_15 rfl ?_
      exact zr_z M hr hlocks (0, σ) (by decide) rfl ⟨hp, hW⟩ hS dX4_areBits_16
    · have hp := hp.2 c2
      refine zi_const M 1 dX4_areBits_11 rfl ?_
      refine zg M (tgt := 16) dX4_areBits_12 (by decide) ?_
      exact zr_z M hr hlocks (1, σ) (by decide) rfl ⟨hp, hW⟩ hS dX4_areBits_16
def P_X4_hasBit (K : List nKey) (σ : nS) (v0 : Int) (v1 : Int) (k : Int → nS → Prop) : Prop :=
  ((w (andI (shrI v0 v1) 1) ≠ 1 → k 0 σ) ∧ (w (andI (shrI v0 v1) 1) = 1 → k 1 σ))
def rmX4_hasBit : Room := { frames := 0, cells := 0, slots := 0, locals := 0 }
set_option maxHeartbeats 4000000 in
set_option maxRecDepth 100000 in
theorem w_X4_hasBit {l : Launch} {D : va_G} {ca : Nat → ClassId} {K : List nKey} {ad : nKey → Nat} {σ : nS} {sz : Nat} (hKC : KC K) {v0 : Int} {v1 : Int} {k : Int → nS → Prop} (hp : P_X4_hasBit K σ v0 v1 k) : Met l yX4_hasBit (Cond.code yX4_hasBit cX4_hasBit 2 (some .boolean) :: UW) rmX4_hasBit (ZP D ca [.int (iN v0), .int (iN v1)] (ZB D K ad ca σ sz)) (ZQi D K ad ca sz k) 0 0 (FA K ad sz) := by
  refine z_start (cc := cX4_hasBit) (maxL := 2) (ret := (some .boolean)) (own := RX4) (K := K) (ad := ad) (σ := σ) (Qc := fun sz => ZQi D K ad ca sz k) (by decide) rfl (Nat.le_of_ble_eq_true rfl) ?_
  intro p e s m args below meth c M hr hlocks hW ls hl
  have hS : va_S (FA K ad s.heap.size) s.heap s.heap [] := va_S.rf
  have hA : ∀ q : Nat, s.heap.size ≤ q → FA K ad s.heap.size q := fun q h => Or.inr h
  replace hl : lv_has ls 2 [(0, .int (iN v0)), (1, .int (iN v1))] := hl
  unfold P_X4_hasBit at hp
  refine z_il_n M dX4_hasBit_0 rfl hl 0 rfl ?_
  refine z_il_n M dX4_hasBit_1 rfl hl 1 rfl ?_
  refine zo_shr M dX4_hasBit_2 ?_
  refine zi_const M 1 dX4_hasBit_3 rfl ?_
  refine zo_and M dX4_hasBit_4 ?_
  refine zi_const M 1 dX4_hasBit_5 rfl ?_
  refine zw_ne M (tgt := 13) dX4_hasBit_6 (by decide) rfl (w_of ⟨by decide, by decide⟩) (fun c1 => ?_) (fun c1 => ?_)
  · have hp := hp.1 c1
    refine zi_const M 0 dX4_hasBit_13 rfl ?_
    exact zr_z M hr hlocks (0, σ) (by decide) rfl ⟨hp, hW⟩ hS dX4_hasBit_14
  · have hp := hp.2 c1
    refine zi_const M 1 dX4_hasBit_9 rfl ?_
    refine zg M (tgt := 14) dX4_hasBit_10 (by decide) ?_
    exact zr_z M hr hlocks (1, σ) (by decide) rfl ⟨hp, hW⟩ hS dX4_hasBit_14
def P_X4_riderAt (K : List nKey) (σ : nS) (v1 : Int) (k : Option Nat → nS → Prop) : Prop :=
  ((w v1 < 0 → k none σ) ∧ (0 ≤ w v1 → ((w (σ.1 (0, 0, 0) 6) ≤ w v1 → k none σ) ∧ (w v1 < w (σ.1 (0, 0, 0) 6) → ((6 ≤ w v1 → k none σ) ∧ (w v1 < 6 → 0 ≤ v1 ∧ v1 < 6 ∧ ((σ.2 (2, 0, 0) (v1).toNat = none → k none σ) ∧ (∀ q6 : Nat, σ.2 (2, 0, 0) (v1).toNat = some q6 → (6, q6, 0) ∈ K ∧ k (some q6) σ))))))))
def rmX4_riderAt : Room := { frames := 0, cells := 0, slots := 0, locals := 0 }
set_option maxHeartbeats 4000000 in
set_option maxRecDepth 100000 in
theorem w_X4_riderAt {l : Launch} {D : va_G} {ca : Nat → ClassId} {K : List nKey} {ad : nKey → Nat} {σ : nS} {sz : Nat} (hKC : KC K) {v1 : Int} {k : Option Nat → nS → Prop} (hp : P_X4_riderAt K σ v1 k) : Met l yX4_riderAt (Cond.code yX4_riderAt cX4_riderAt 2 (some (.object "NightRiders$Rider")) :: UW) rmX4_riderAt (ZP D ca [.ref (ad (0, 0, 0)), .int (iN v1)] (ZB D K ad ca σ sz)) (ZQq D K ad ca sz 6 k) 0 0 (FA K ad sz) := by
  refine z_start (cc := cX4_riderAt) (maxL := 2) (ret := (some (.object "NightRiders$Rider"))) (own := RX4) (K := K) (ad := ad) (σ := σ) (Qc := fun sz => ZQq D K ad ca sz 6 k) (by decide) rfl (Nat.le_of_ble_eq_true rfl) ?_
  intro p e s m args below meth c M hr hlocks hW ls hl
  have hS : va_S (FA K ad s.heap.size) s.heap s.heap [] := va_S.rf
  have hA : ∀ q : Nat, s.heap.size ≤ q → FA K ad s.heap.size q := fun q h => Or.inr h
  replace hl : lv_has ls 2 [(0, .ref (ad (0, 0, 0))), (1, .int (iN v1))] := hl
  unfold P_X4_riderAt at hp
  refine z_il_n M dX4_riderAt_0 rfl hl 1 rfl ?_
  refine zv_lt M (tgt := 27) dX4_riderAt_1 (by decide) rfl (fun c1 => ?_) (fun c1 => ?_)
  · have hp := hp.1 c1
    refine z_null M dX4_riderAt_27 ?_
    exact zr_q M hr hlocks (none, σ) (Or.inl rfl) rfl ⟨hp, hW⟩ hS dX4_riderAt_28
  · have hp := hp.2 c1
    refine z_il_n M dX4_riderAt_4 rfl hl 1 rfl ?_
    refine z_al_n M dX4_riderAt_5 rfl hl 0 rfl ?_
    refine zg_X4_6 M u_hin4 hW hKC.k0 (M.hts _ u_fl_X4_39) dX4_riderAt_6 ?_
    refine zw_ge M (tgt := 27) dX4_riderAt_9 (by decide) rfl rfl (fun c2 => ?_) (fun c2 => ?_)
    · have hp := hp.1 c2
      refine z_null M dX4_riderAt_27 ?_
      exact zr_q M hr hlocks (none, σ) (Or.inl rfl) rfl ⟨hp, hW⟩ hS dX4_riderAt_28
    · have hp := hp.2 c2
      refine z_il_n M dX4_riderAt_12 rfl hl 1 rfl ?_
      refine zi_bi M 6 dX4_riderAt_13 (by decide +kernel) ?_
      refine zw_ge M (tgt := 27) dX4_riderAt_15 (by decide) rfl (w_of ⟨by decide, by decide⟩) (fun c3 => ?_) (fun c3 => ?_)
      · have hp := hp.1 c3
        refine z_null M dX4_riderAt_27 ?_
        exact zr_q M hr hlocks (none, σ) (Or.inl rfl) rfl ⟨hp, hW⟩ hS dX4_riderAt_28
      · have hp := hp.2 c3
        refine z_al_n M dX4_riderAt_18 rfl hl 0 rfl ?_
        refine zg_X4_1 M u_hin4 hW hKC.k0 (M.hts _ u_fl_X4_15) dX4_riderAt_19 ?_
        refine z_il_n M dX4_riderAt_22 rfl hl 1 rfl ?_
        obtain ⟨h4, h5, hp⟩ := hp
        refine za_q (n := 6) (t0 := 2) (kd := 6) M hW hKC.k2 (fun _ _ => rfl) rfl h4 h5 (by decide) dX4_riderAt_23 ?_
        generalize hg : σ.2 (2, 0, 0) (v1).toNat = r at hp ⊢
        rcases r with _ | q6
        · refine W.eq (g2 := F0 m 24 ls (.null :: [])) rfl ?_
          have hp := hp.1 rfl
          refine zg M (tgt := 28) dX4_riderAt_24 (by decide) ?_
          exact zr_q M hr hlocks (none, σ) (Or.inl rfl) rfl ⟨hp, hW⟩ hS dX4_riderAt_28
        · refine W.eq (g2 := F0 m 24 ls (.ref (ad (6, q6, 0)) :: [])) rfl ?_
          obtain ⟨hm_q6, hp⟩ := hp.2 q6 rfl
          refine zg M (tgt := 28) dX4_riderAt_24 (by decide) ?_
          exact zr_q M hr hlocks (some q6, σ) (Or.inr ⟨_, rfl⟩) rfl ⟨hp, hW⟩ hS dX4_riderAt_28
def P_X4_requestAt (K : List nKey) (σ : nS) (v1 : Int) (k : Option Nat → nS → Prop) : Prop :=
  ((w v1 < 0 → k none σ) ∧ (0 ≤ w v1 → ((w (σ.1 (0, 0, 0) 7) ≤ w v1 → k none σ) ∧ (w v1 < w (σ.1 (0, 0, 0) 7) → ((40 ≤ w v1 → k none σ) ∧ (w v1 < 40 → 0 ≤ v1 ∧ v1 < 40 ∧ ((σ.2 (3, 0, 0) (v1).toNat = none → k none σ) ∧ (∀ q6 : Nat, σ.2 (3, 0, 0) (v1).toNat = some q6 → (8, q6, 0) ∈ K ∧ k (some q6) σ))))))))
def rmX4_requestAt : Room := { frames := 0, cells := 0, slots := 0, locals := 0 }
set_option maxHeartbeats 4000000 in
set_option maxRecDepth 100000 in
theorem w_X4_requestAt {l : Launch} {D : va_G} {ca : Nat → ClassId} {K : List nKey} {ad : nKey → Nat} {σ : nS} {sz : Nat} (hKC : KC K) {v1 : Int} {k : Option Nat → nS → Prop} (hp : P_X4_requestAt K σ v1 k) : Met l yX4_requestAt (Cond.code yX4_requestAt cX4_requestAt 2 (some (.object "NightRiders$Request")) :: UW) rmX4_requestAt (ZP D ca [.ref (ad (0, 0, 0)), .int (iN v1)] (ZB D K ad ca σ sz)) (ZQq D K ad ca sz 8 k) 0 0 (FA K ad sz) := by
  refine z_start (cc := cX4_requestAt) (maxL := 2) (ret := (some (.object "NightRiders$Request"))) (own := RX4) (K := K) (ad := ad) (σ := σ) (Qc := fun sz => ZQq D K ad ca sz 8 k) (by decide) rfl (Nat.le_of_ble_eq_true rfl) ?_
  intro p e s m args below meth c M hr hlocks hW ls hl
  have hS : va_S (FA K ad s.heap.size) s.heap s.heap [] := va_S.rf
  have hA : ∀ q : Nat, s.heap.size ≤ q → FA K ad s.heap.size q := fun q h => Or.inr h
  replace hl : lv_has ls 2 [(0, .ref (ad (0, 0, 0))), (1, .int (iN v1))] := hl
  unfold P_X4_requestAt at hp
  refine z_il_n M dX4_requestAt_0 rfl hl 1 rfl ?_
  refine zv_lt M (tgt := 27) dX4_requestAt_1 (by decide) rfl (fun c1 => ?_) (fun c1 => ?_)
  · have hp := hp.1 c1
    refine z_null M dX4_requestAt_27 ?_
    exact zr_q M hr hlocks (none, σ) (Or.inl rfl) rfl ⟨hp, hW⟩ hS dX4_requestAt_28
  · have hp := hp.2 c1
    refine z_il_n M dX4_requestAt_4 rfl hl 1 rfl ?_
    refine z_al_n M dX4_requestAt_5 rfl hl 0 rfl ?_
    refine zg_X4_7 M u_hin4 hW hKC.k0 (M.hts _ u_fl_X4_42) dX4_requestAt_6 ?_
    refine zw_ge M (tgt := 27) dX4_requestAt_9 (by decide) rfl rfl (fun c2 => ?_) (fun c2 => ?_)
    · have hp := hp.1 c2
      refine z_null M dX4_requestAt_27 ?_
      exact zr_q M hr hlocks (none, σ) (Or.inl rfl) rfl ⟨hp, hW⟩ hS dX4_requestAt_28
    · have hp := hp.2 c2
      refine z_il_n M dX4_requestAt_12 rfl hl 1 rfl ?_
      refine zi_bi M 40 dX4_requestAt_13 (by decide +kernel) ?_
      refine zw_ge M (tgt := 27) dX4_requestAt_15 (by decide) rfl (w_of ⟨by decide, by decide⟩) (fun c3 => ?_) (fun c3 => ?_)
      · have hp := hp.1 c3
        refine z_null M dX4_requestAt_27 ?_
        exact zr_q M hr hlocks (none, σ) (Or.inl rfl) rfl ⟨hp, hW⟩ hS dX4_requestAt_28
      · have hp := hp.2 c3
        refine z_al_n M dX4_requestAt_18 rfl hl 0 rfl ?_
        refine zg_X4_2 M u_hin4 hW hKC.k0 (M.hts _ u_fl_X4_21) dX4_requestAt_19 ?_
        refine z_il_n M dX4_requestAt_22 rfl hl 1 rfl ?_
        obtain ⟨h4, h5, hp⟩ := hp
        refine za_q (n := 40) (t0 := 3) (kd := 8) M hW hKC.k3 (fun _ _ => rfl) rfl h4 h5 (by decide) dX4_requestAt_23 ?_
        generalize hg : σ.2 (3, 0, 0) (v1).toNat = r at hp ⊢
        rcases r with _ | q6
        · refine W.eq (g2 := F0 m 24 ls (.null :: [])) rfl ?_
          have hp := hp.1 rfl
          refine zg M (tgt := 28) dX4_requestAt_24 (by decide) ?_
          exact zr_q M hr hlocks (none, σ) (Or.inl rfl) rfl ⟨hp, hW⟩ hS dX4_requestAt_28
        · refine W.eq (g2 := F0 m 24 ls (.ref (ad (8, q6, 0)) :: [])) rfl ?_
          obtain ⟨hm_q6, hp⟩ := hp.2 q6 rfl
          refine zg M (tgt := 28) dX4_requestAt_24 (by decide) ?_
          exact zr_q M hr hlocks (some q6, σ) (Or.inr ⟨_, rfl⟩) rfl ⟨hp, hW⟩ hS dX4_requestAt_28
def P_X3_carries (K : List nKey) (σ : nS) (q0 : Nat) (v1 : Int) (k : Int → nS → Prop) : Prop :=
  ((w (σ.1 (6, q0, 0) 10) ≠ 0 → k 0 σ) ∧ (w (σ.1 (6, q0, 0) 10) = 0 → P_X4_hasBit K σ (σ.1 (6, q0, 0) 4) v1 (fun r3 σ2 => ((w r3 = 0 → k 0 σ2) ∧ (w r3 ≠ 0 → k 1 σ2)))))
def rmX3_carries : Room := { frames := 1, cells := 0, slots := 0, locals := 21 }
set_option maxHeartbeats 4000000 in
set_option maxRecDepth 100000 in
theorem w_X3_carries {l : Launch} {D : va_G} {ca : Nat → ClassId} {K : List nKey} {ad : nKey → Nat} {σ : nS} {sz : Nat} (hKC : KC K) {q0 : Nat} {v1 : Int} (hm_q0 : (6, q0, 0) ∈ K) {k : Int → nS → Prop} (hp : P_X3_carries K σ q0 v1 k) : Met l yX3_carries (Cond.code yX3_carries cX3_carries 2 (some .boolean) :: UW) rmX3_carries (ZP D ca [.ref (ad (6, q0, 0)), .int (iN v1)] (ZB D K ad ca σ sz)) (ZQi D K ad ca sz k) 0 0 (FA K ad sz) := by
  refine z_start (cc := cX3_carries) (maxL := 2) (ret := (some .boolean)) (own := RX3) (K := K) (ad := ad) (σ := σ) (Qc := fun sz => ZQi D K ad ca sz k) (by decide) rfl (Nat.le_of_ble_eq_true rfl) ?_
  intro p e s m args below meth c M hr hlocks hW ls hl
  have hS : va_S (FA K ad s.heap.size) s.heap s.heap [] := va_S.rf
  have hA : ∀ q : Nat, s.heap.size ≤ q → FA K ad s.heap.size q := fun q h => Or.inr h
  replace hl : lv_has ls 2 [(0, .ref (ad (6, q0, 0))), (1, .int (iN v1))] := hl
  unfold P_X3_carries at hp
  refine z_al_n M dX3_carries_0 rfl hl 0 rfl ?_
  refine zg_X3_10 M u_hin3 hW hm_q0 (M.hts _ u_fl_X3_22) dX3_carries_1 ?_
  refine zv_ne M (tgt := 22) dX3_carries_4 (by decide) rfl (fun c1 => ?_) (fun c1 => ?_)
  · have hp := hp.1 c1
    refine zi_const M 0 dX3_carries_22 rfl ?_
    exact zr_z M hr hlocks (0, σ) (by decide) rfl ⟨hp, hW⟩ hS dX3_carries_23
  · have hp := hp.2 c1
    refine z_al_n M dX3_carries_7 rfl hl 0 rfl ?_
    refine zg_X3_4 M u_hin3 hW hm_q0 (M.hts _ u_fl_X3_38) dX3_carries_8 ?_
    refine z_il_n M dX3_carries_11 rfl hl 1 rfl ?_
    have hfa := hW.fa hS hA
    refine zc_SNU (As := [.int (iN (σ.1 (6, q0, 0) 4)), .int (iN v1)]) (rest := []) M (w_X4_hasBit hKC  hp) ⟨va_cnB 2 M.hts (GU u_co_X4_hasBit) rfl rfl rfl M.2.2.1 (M.hts _ u_ini_X4) (by decide +kernel) ⟨Nat.le_of_ble_eq_true rfl, Nat.le_of_ble_eq_true rfl⟩, M.hts _ u_st_X4_hasBit⟩ ⟨rfl, hW.weaken (fun _ _ => trivial)⟩ rfl hl rfl (Nat.le_of_ble_eq_true rfl) ⟨Nat.zero_le _, Nat.zero_le _⟩ dX3_carries_12 hS hfa (fun u H locs hw _ _ hS => ?_)
    obtain ⟨r3, σ2⟩ := u
    obtain ⟨hp, hW2⟩ := hw
    have hW := hW2.weaken hfa
    try dsimp only at hp
    refine zv_eq M (tgt := 22) dX3_carries_15 (by decide) rfl (fun c4 => ?_) (fun c4 => ?_)
    · have hp := hp.1 c4
      refine zi_const M 0 dX3_carries_22 rfl ?_
      exact zr_z M hr hlocks (0, σ2) (by decide) rfl ⟨hp, hW⟩ hS dX3_carries_23
    · have hp := hp.2 c4
      refine zi_const M 1 dX3_carries_18 rfl ?_
      refine zg M (tgt := 23) dX3_carries_19 (by decide) ?_
      exact zr_z M hr hlocks (1, σ2) (by decide) rfl ⟨hp, hW⟩ hS dX3_carries_23
