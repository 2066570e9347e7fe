def P_X4_tryEnds_L25 (K : List nKey) (rc : nS → Int → Int → Int → (nS → Prop) → Prop) (k : nS → Prop) (v1 : Int) (q2 : Nat) (v3 : Int) : Nat → Int → nS → Prop
  | 0 => fun _ _ => False
  | n + 1 => fun v4 σ =>
    ((w (σ.1 (0, 0, 0) 5) ≤ w v4 → k σ) ∧ (w v4 < w (σ.1 (0, 0, 0) 5) → ((w v4 = w (σ.1 (4, 0, 0) 7) → ∀ x3 : Int, x3 = v4 + 1 → (P_X4_tryEnds_L25 K rc k v1 q2 v3 n) x3 σ) ∧ (w v4 ≠ w (σ.1 (4, 0, 0) 7) → P_X4_tryEnd K rc σ v1 q2 v3 v4 (fun σ4 => ∀ x5 : Int, x5 = v4 + 1 → (P_X4_tryEnds_L25 K rc k v1 q2 v3 n) x5 σ4)))))
def P_X4_tryEnds (K : List nKey) (rc : nS → Int → Int → Int → (nS → Prop) → Prop) (σ : nS) (v1 : Int) (q2 : Nat) (v3 : Int) (k : nS → Prop) : Prop :=
  P_X4_tryEnd K rc σ v1 q2 v3 (σ.1 (4, 0, 0) 7) (fun σ6 => ((w (v1 + 1) < 3 → ∃ f8 : Nat, P_X4_tryEnds_L25 K rc k v1 q2 v3 f8 0 σ6) ∧ (3 ≤ w (v1 + 1) → k σ6)))
set_option maxHeartbeats 4000000 in
set_option maxRecDepth 100000 in
theorem w_X4_tryEnds {l : Launch} {D : va_G} {ca : Nat → ClassId} {K : List nKey} {ad : nKey → Nat} {σ : nS} {sz : Nat} (hKC : KC K) {v1 : Int} {q2 : Nat} {v3 : Int} (hm_q2 : (6, q2, 0) ∈ K) {rc : nS → Int → Int → Int → (nS → Prop) → Prop} {d : Nat} (hrc : ∀ (σ : nS) (v1 : Int) (v2 : Int) (v3 : Int) (k : nS → Prop) (sz : Nat), rc σ v1 v2 v3 k → Met l yX4_tryRiders (Cond.code yX4_tryRiders cX4_tryRiders 8 none :: UW) (rmX4_tryRiders d) (ZP D ca [.ref (ad (0, 0, 0)), .int (iN v1), .int (iN v2), .int (iN v3)] (ZB D K ad ca σ sz)) (ZQv D K ad ca sz k) 0 0 (FA K ad sz)) {k : nS → Prop} (hp : P_X4_tryEnds K rc σ v1 q2 v3 k) : Met l yX4_tryEnds (Cond.code yX4_tryEnds cX4_tryEnds 5 none :: UW) (rmX4_tryEnds d) (ZP D ca [.ref (ad (0, 0, 0)), .int (iN v1), .ref (ad (6, q2, 0)), .int (iN v3)] (ZB D K ad ca σ sz)) (ZQv D K ad ca sz k) 0 0 (FA K ad sz) := by
  refine z_start (cc := cX4_tryEnds) (maxL := 5) (ret := none) (own := RX4) (K := K) (ad := ad) (σ := σ) (Qc := fun sz => ZQv D K ad ca sz k) (by decide) rfl (Nat.le_of_ble_eq_true rfl) ?_
  intro p e s m args below meth c M hr hlocks hW ls hl
  have hS : va_S (FA K ad s.heap.size) s.heap s.heap [] := va_S.rf
  have hA : ∀ q : Nat, s.heap.size ≤ q → FA K ad s.heap.size q := fun q h => Or.inr h
  replace hl : lv_has ls 5 [(0, .ref (ad (0, 0, 0))), (1, .int (iN v1)), (2, .ref (ad (6, q2, 0))), (3, .int (iN v3))] := hl
  unfold P_X4_tryEnds at hp
  have hL25 : ∀ (f25 : Nat) (v4 : Int) (σ : nS) (H : Heap) (locs : List Loc) (ls : Array Slot), P_X4_tryEnds_L25 K rc k v1 q2 v3 f25 v4 σ → XW D (FA K ad s.heap.size) K ad (cR ca ad σ) H → va_S (FA K ad s.heap.size) s.heap H locs → lv_has ls 5 [(0, .ref (ad (0, 0, 0))), (1, .int (iN v1)), (2, .ref (ad (6, q2, 0))), (3, .int (iN v3)), (4, .int (iN v4))] → W p l e (rmX4_tryEnds d) s m args below meth c H locs 0 0 (MQ below (ZQv D K ad ca s.heap.size k) args s 0 0 (FA K ad s.heap.size)) (F0 m 25 ls []) := by
    intro f25
    induction f25 with
    | zero =>
      intro v4 σ H locs ls  hp
      exact hp.elim
    | succ f25 ih25 =>
      intro v4 σ H locs ls  hp hW hS hl
      refine z_il M dX4_tryEnds_25 hl 4 rfl ?_
      refine z_al_n M dX4_tryEnds_27 rfl hl 0 rfl ?_
      refine zg_X4_5 M u_hin4 hW hKC.k0 (M.hts _ u_fl_X4_35) dX4_tryEnds_28 ?_
      refine zw_ge M (tgt := 61) dX4_tryEnds_31 (by decide) rfl rfl (fun c1 => ?_) (fun c1 => ?_)
      · have hp := hp.1 c1
        exact zr_v M hr hlocks σ rfl ⟨hp, hW⟩ hS dX4_tryEnds_61
      · have hp := hp.2 c1
        refine z_il M dX4_tryEnds_34 hl 4 rfl ?_
        refine z_al_n M dX4_tryEnds_36 rfl hl 0 rfl ?_
        refine zg_X4_3 M u_hin4 hW hKC.k0 (M.hts _ u_fl_X4_28) dX4_tryEnds_37 ?_
        refine zg_X0_7 M u_hin0 hW (hKC.k4 z_lt0) (M.hts _ u_fl_X4_236) dX4_tryEnds_40 ?_
        refine zw_eq M (tgt := 55) dX4_tryEnds_43 (by decide) rfl rfl (fun c2 => ?_) (fun c2 => ?_)
        · have hp := hp.1 c2
          obtain ⟨x3, ex3⟩ : ∃ z : Int, z = v4 + 1 := ⟨_, rfl⟩
          have hp := hp x3 ex3
          refine z_inc M [(4, .int (iN x3)), (0, .ref (ad (0, 0, 0))), (1, .int (iN v1)), (2, .ref (ad (6, q2, 0))), (3, .int (iN v3))] x3 dX4_tryEnds_55 hl 4 rfl ex3.symm (by decide) rfl (fun ls hl => ?_)
          refine zg M (tgt := 25) dX4_tryEnds_58 (by decide) ?_
          exact ih25 x3 σ _ _ _  hp hW hS (lv_sub hl [1, 2, 3, 4, 0] rfl)
        · have hp := hp.2 c2
          refine z_al_n M dX4_tryEnds_46 rfl hl 0 rfl ?_
          refine z_il_n M dX4_tryEnds_47 rfl hl 1 rfl ?_
          refine z_al_n M dX4_tryEnds_48 rfl hl 2 rfl ?_
          refine z_il_n M dX4_tryEnds_49 rfl hl 3 rfl ?_
          refine z_il M dX4_tryEnds_50 hl 4 rfl ?_
          have hfa := hW.fa hS hA
          refine zc_VU (As := [.int (iN v1), .ref (ad (6, q2, 0)), .int (iN v3), .int (iN v4)]) (rest := []) M (w_X4_tryEnd hKC hm_q2 hrc hp) (cuV M 4 u_co_X4_tryEnd u_ml_X4_265 u_ini_X4 u_in_X4_tryEnd u_se_X4_tryEnd (by decide +kernel) rfl rfl ⟨(by simp only [rmX4_tryEnd, rmX4_tryEnds, rmX4_tryRiders]; omega), (by simp only [rmX4_tryEnd, rmX4_tryEnds, rmX4_tryRiders]; omega)⟩) (z_recv M hW hKC.k0 rfl rfl) ⟨rfl, hW.weaken (fun _ _ => trivial)⟩ rfl hl rfl (Nat.le_of_ble_eq_true rfl) ⟨Nat.zero_le _, Nat.zero_le _⟩ dX4_tryEnds_52 hS hfa (fun σ4 H locs hw _ _ hS => ?_)
          obtain ⟨hp, hW2⟩ := hw
          have hW := hW2.weaken hfa
          try dsimp only at hp
          obtain ⟨x5, ex5⟩ : ∃ z : Int, z = v4 + 1 := ⟨_, rfl⟩
          have hp := hp x5 ex5
          refine z_inc M [(4, .int (iN x5)), (0, .ref (ad (0, 0, 0))), (1, .int (iN v1)), (2, .ref (ad (6, q2, 0))), (3, .int (iN v3))] x5 dX4_tryEnds_55 hl 4 rfl ex5.symm (by decide) rfl (fun ls hl => ?_)
          refine zg M (tgt := 25) dX4_tryEnds_58 (by decide) ?_
          exact ih25 x5 σ4 _ _ _  hp hW hS (lv_sub hl [1, 2, 3, 4, 0] rfl)
  refine z_al_n M dX4_tryEnds_0 rfl hl 0 rfl ?_
  refine z_il_n M dX4_tryEnds_1 rfl hl 1 rfl ?_
  refine z_al_n M dX4_tryEnds_2 rfl hl 2 rfl ?_
  refine z_il_n M dX4_tryEnds_3 rfl hl 3 rfl ?_
  refine z_al_n M dX4_tryEnds_4 rfl hl 0 rfl ?_
  refine zg_X4_3 M u_hin4 hW hKC.k0 (M.hts _ u_fl_X4_28) dX4_tryEnds_5 ?_
  refine zg_X0_7 M u_hin0 hW (hKC.k4 z_lt0) (M.hts _ u_fl_X4_236) dX4_tryEnds_8 ?_
  have hfa := hW.fa hS hA
  refine zc_VU (As := [.int (iN v1), .ref (ad (6, q2, 0)), .int (iN v3), .int (iN (σ.1 (4, 0, 0) 7))]) (rest := []) M (w_X4_tryEnd hKC hm_q2 hrc hp) (cuV M 4 u_co_X4_tryEnd u_ml_X4_265 u_ini_X4 u_in_X4_tryEnd u_se_X4_tryEnd (by decide +kernel) rfl rfl ⟨(by simp only [rmX4_tryEnd, rmX4_tryEnds, rmX4_tryRiders]; omega), (by simp only [rmX4_tryEnd, rmX4_tryEnds, rmX4_tryRiders]; omega)⟩) (z_recv M hW hKC.k0 rfl rfl) ⟨rfl, hW.weaken (fun _ _ => trivial)⟩ rfl hl rfl (Nat.le_of_ble_eq_true rfl) ⟨Nat.zero_le _, Nat.zero_le _⟩ dX4_tryEnds_11 hS hfa (fun σ6 H locs hw _ _ hS => ?_)
  obtain ⟨hp, hW2⟩ := hw
  have hW := hW2.weaken hfa
  try dsimp only at hp
  refine z_il_n M dX4_tryEnds_14 rfl hl 1 rfl ?_
  refine zi_const M 1 dX4_tryEnds_15 rfl ?_
  refine zi_add M dX4_tryEnds_16 ?_
  refine zi_const M 3 dX4_tryEnds_17 rfl ?_
  refine zw_lt M (tgt := 22) dX4_tryEnds_18 (by decide) rfl (w_of ⟨by decide, by decide⟩) (fun c7 => ?_) (fun c7 => ?_)
  · have hp := hp.1 c7
    refine zi_const M 0 dX4_tryEnds_22 rfl ?_
    refine z_is M [(4, .int (iN 0)), (0, .ref (ad (0, 0, 0))), (1, .int (iN v1)), (2, .ref (ad (6, q2, 0))), (3, .int (iN v3))] dX4_tryEnds_23 hl (by decide) rfl (fun ls hl => ?_)
    obtain ⟨f8, hp⟩ := hp
    exact hL25 f8 0 σ6 _ _ _  hp hW hS (lv_sub hl [1, 2, 3, 4, 0] rfl)
  · have hp := hp.2 c7
    exact zr_v M hr hlocks σ6 rfl ⟨hp, hW⟩ hS dX4_tryEnds_21
def P_X4_tryRiders_L13 (K : List nKey) (rc : nS → Int → Int → Int → (nS → Prop) → Prop) (k : nS → Prop) (v1 : Int) (v2 : Int) (v3 : Int) : Nat → Int → nS → Prop
  | 0 => fun _ _ => False
  | n + 1 => fun v4 σ =>
    ((w (σ.1 (0, 0, 0) 6) ≤ w v4 → k σ) ∧ (w v4 < w (σ.1 (0, 0, 0) 6) → P_X4_riderAt K σ v4 (fun r3 σ2 => ((r3 = none → ∀ x5 : Int, x5 = v4 + 1 → (P_X4_tryRiders_L13 K rc k v1 v2 v3 n) x5 σ2) ∧ (∀ q4 : Nat, r3 = some q4 → (6, q4, 0) ∈ K ∧ P_X3_carries K σ2 q4 (σ2.1 (4, 0, 0) 6) (fun r7 σ6 => ((w r7 = 0 → ∀ x9 : Int, x9 = v4 + 1 → (P_X4_tryRiders_L13 K rc k v1 v2 v3 n) x9 σ6) ∧ (w r7 ≠ 0 → P_X0_isRiddenBy K σ6 0 v4 v1 (fun r11 σ10 => ((w r11 = 0 → P_X4_thereFrom K σ10 q4 v2 (fun r14 σ13 => ∀ x15 : Int, x15 = (mxI r14 v3) → ((w r14 = (-1) → ∀ x17 : Int, x17 = v4 + 1 → (P_X4_tryRiders_L13 K rc k v1 v2 v3 n) x17 σ13) ∧ (w r14 ≠ (-1) → P_X4_isTooLate K σ13 x15 (fun r19 σ18 => ((w r19 ≠ 0 → ∀ x21 : Int, x21 = v4 + 1 → (P_X4_tryRiders_L13 K rc k v1 v2 v3 n) x21 σ18) ∧ (w r19 = 0 → P_X4_waitsUntil K σ18 (v1 - 1) x15 (fun r23 σ22 => ((w r23 = 0 → ∀ x25 : Int, x25 = v4 + 1 → (P_X4_tryRiders_L13 K rc k v1 v2 v3 n) x25 σ22) ∧ (w r23 ≠ 0 → P_X0_open K σ22 0 v1 v4 v2 x15 (fun σ26 => P_X4_tryEnds K rc σ26 v1 q4 x15 (fun σ27 => ∀ x28 : Int, x28 = v4 + 1 → (P_X4_tryRiders_L13 K rc k v1 v2 v3 n) x28 σ27)))))))))))) ∧ (w r11 ≠ 0 → ∀ x29 : Int, x29 = v4 + 1 → (P_X4_tryRiders_L13 K rc k v1 v2 v3 n) x29 σ10)))))))))))
def P_X4_tryRiders (K : List nKey) (rc : nS → Int → Int → Int → (nS → Prop) → Prop) (σ : nS) (v1 : Int) (v2 : Int) (v3 : Int) (k : nS → Prop) : Prop :=
  ((w v1 < 0 → k σ) ∧ (0 ≤ w v1 → ((w v1 < 3 → ∃ f32 : Nat, P_X4_tryRiders_L13 K rc k v1 v2 v3 f32 0 σ) ∧ (3 ≤ w v1 → k σ))))
def P_X4_tryRidersD (K : List nKey) : Nat → nS → Int → Int → Int → (nS → Prop) → Prop
  | 0 => fun _ _ _ _ _ => False
  | d + 1 => P_X4_tryRiders K (P_X4_tryRidersD K d)
set_option maxHeartbeats 4000000 in
set_option maxRecDepth 100000 in
theorem w_X4_tryRiders {l : Launch} {D : va_G} {ca : Nat → ClassId} {K : List nKey} {ad : nKey → Nat} {σ : nS} {sz : Nat} (hKC : KC K) {v1 : Int} {v2 : Int} {v3 : Int} {rc : nS → Int → Int → Int → (nS → Prop) → Prop} {d : Nat} (hrc : ∀ (σ : nS) (v1 : Int) (v2 : Int) (v3 : Int) (k : nS → Prop) (sz : Nat), rc σ v1 v2 v3 k → Met l yX4_tryRiders (Cond.code yX4_tryRiders cX4_tryRiders 8 none :: UW) (rmX4_tryRiders d) (ZP D ca [.ref (ad (0, 0, 0)), .int (iN v1), .int (iN v2), .int (iN v3)] (ZB D K ad ca σ sz)) (ZQv D K ad ca sz k) 0 0 (FA K ad sz)) {k : nS → Prop} (hp : P_X4_tryRiders K rc σ v1 v2 v3 k) : Met l yX4_tryRiders (Cond.code yX4_tryRiders cX4_tryRiders 8 none :: UW) (rmX4_tryRiders (d + 1)) (ZP D ca [.ref (ad (0, 0, 0)), .int (iN v1), .int (iN v2), .int (iN v3)] (ZB D K ad ca σ sz)) (ZQv D K ad ca sz k) 0 0 (FA K ad sz) := by
  refine z_start (cc := cX4_tryRiders) (maxL := 8) (ret := none) (own := RX4) (K := K) (ad := ad) (σ := σ) (Qc := fun sz => ZQv D K ad ca sz k) (by decide) rfl (Nat.le_of_ble_eq_true rfl) ?_
  intro p e s m args below meth c M hr hlocks hW ls hl
  have hS : va_S (FA K ad s.heap.size) s.heap s.heap [] := va_S.rf
  have hA : ∀ q : Nat, s.heap.size ≤ q → FA K ad s.heap.size q := fun q h => Or.inr h
  replace hl : lv_has ls 8 [(0, .ref (ad (0, 0, 0))), (1, .int (iN v1)), (2, .int (iN v2)), (3, .int (iN v3))] := hl
  unfold P_X4_tryRiders at hp
  have hL13 : ∀ (f13 : Nat) (v4 : Int) (σ : nS) (H : Heap) (locs : List Loc) (ls : Array Slot), P_X4_tryRiders_L13 K rc k v1 v2 v3 f13 v4 σ → XW D (FA K ad s.heap.size) K ad (cR ca ad σ) H → va_S (FA K ad s.heap.size) s.heap H locs → lv_has ls 8 [(0, .ref (ad (0, 0, 0))), (1, .int (iN v1)), (2, .int (iN v2)), (3, .int (iN v3)), (4, .int (iN v4))] → W p l e (rmX4_tryRiders (d + 1)) s m args below meth c H locs 0 0 (MQ below (ZQv D K ad ca s.heap.size k) args s 0 0 (FA K ad s.heap.size)) (F0 m 13 ls []) := by
    intro f13
    induction f13 with
    | zero =>
      intro v4 σ H locs ls  hp
      exact hp.elim
    | succ f13 ih13 =>
      intro v4 σ H locs ls  hp hW hS hl
      refine z_il M dX4_tryRiders_13 hl 4 rfl ?_
      refine z_al_n M dX4_tryRiders_15 rfl hl 0 rfl ?_
      refine zg_X4_6 M u_hin4 hW hKC.k0 (M.hts _ u_fl_X4_39) dX4_tryRiders_16 ?_
      refine zw_ge M (tgt := 138) dX4_tryRiders_19 (by decide) rfl rfl (fun c1 => ?_) (fun c1 => ?_)
      · have hp := hp.1 c1
        exact zr_v M hr hlocks σ rfl ⟨hp, hW⟩ hS dX4_tryRiders_138
      · have hp := hp.2 c1
        refine z_al_n M dX4_tryRiders_22 rfl hl 0 rfl ?_
        refine z_il M dX4_tryRiders_23 hl 4 rfl ?_
        have hfa := hW.fa hS hA
        refine zc_VU (As := [.int (iN v4)]) (rest := []) M (w_X4_riderAt hKC  hp) (cuV M 1 u_co_X4_riderAt u_ml_X4_55 u_ini_X4 u_in_X4_riderAt u_se_X4_riderAt (by decide +kernel) rfl rfl ⟨(by simp only [rmX4_tryEnd, rmX4_tryEnds, rmX4_tryRiders, rmX4_riderAt]; omega), (by simp only [rmX4_tryEnd, rmX4_tryEnds, rmX4_tryRiders, rmX4_riderAt]; omega)⟩) (z_recv M hW hKC.k0 rfl rfl) ⟨rfl, hW.weaken (fun _ _ => trivial)⟩ rfl hl rfl (Nat.le_of_ble_eq_true rfl) ⟨Nat.zero_le _, Nat.zero_le _⟩ dX4_tryRiders_25 hS hfa (fun u H locs hw _ _ hS => ?_)
        obtain ⟨r3, σ2⟩ := u
        obtain ⟨hp, hW2⟩ := hw
        have hW := hW2.weaken hfa
        try dsimp only at hp
        rcases r3 with _ | q4
        · refine W.eq (g2 := F0 m 28 ls (.null :: [])) rfl ?_
          have hp := hp.1 rfl
          refine z_asn M [(5, .null), (0, .ref (ad (0, 0, 0))), (1, .int (iN v1)), (2, .int (iN v2)), (3, .int (iN v3)), (4, .int (iN v4))] dX4_tryRiders_28 hl (by decide) rfl (fun ls hl => ?_)
          refine z_aln M dX4_tryRiders_30 hl 0 rfl ?_
          refine z_ifnN M (tgt := 132) dX4_tryRiders_32 (by decide) ?_
          obtain ⟨x5, ex5⟩ : ∃ z : Int, z = v4 + 1 := ⟨_, rfl⟩
          have hp := hp x5 ex5
          refine z_inc M [(4, .int (iN x5)), (5, .null), (0, .ref (ad (0, 0, 0))), (1, .int (iN v1)), (2, .int (iN v2)), (3, .int (iN v3))] x5 dX4_tryRiders_132 hl 5 rfl ex5.symm (by decide) rfl (fun ls hl => ?_)
          refine zg M (tgt := 13) dX4_tryRiders_135 (by decide) ?_
          exact ih13 x5 σ2 _ _ _  hp hW hS (lv_sub hl [2, 3, 4, 5, 0] rfl)
        · refine W.eq (g2 := F0 m 28 ls (.ref (ad (6, q4, 0)) :: [])) rfl ?_
          obtain ⟨hm_q4, hp⟩ := hp.2 q4 rfl
          refine z_as M [(5, .ref (ad (6, q4, 0))), (0, .ref (ad (0, 0, 0))), (1, .int (iN v1)), (2, .int (iN v2)), (3, .int (iN v3)), (4, .int (iN v4))] dX4_tryRiders_28 hl (by decide) rfl (fun ls hl => ?_)
          refine z_al M dX4_tryRiders_30 hl 0 rfl ?_
          refine z_ifn M dX4_tryRiders_32 ?_
          refine z_al M dX4_tryRiders_35 hl 0 rfl ?_
          refine z_al_n M dX4_tryRiders_37 rfl hl 1 rfl ?_
          refine zg_X4_3 M u_hin4 hW hKC.k0 (M.hts _ u_fl_X4_28) dX4_tryRiders_38 ?_
          refine zg_X0_6 M u_hin0 hW (hKC.k4 z_lt0) (M.hts _ u_fl_X4_235) dX4_tryRiders_41 ?_
          have hfa := hW.fa hS hA
          refine zc_VU (As := [.int (iN (σ2.1 (4, 0, 0) 6))]) (rest := []) M (w_X3_carries hKC hm_q4 hp) (cuV M 1 u_co_X3_carries u_ml_X4_121 u_ini_X3 u_in_X3_carries u_se_X3_carries (by decide +kernel) rfl rfl ⟨(by simp only [rmX4_tryEnd, rmX4_tryEnds, rmX4_tryRiders, rmX3_carries]; omega), (by simp only [rmX4_tryEnd, rmX4_tryEnds, rmX4_tryRiders, rmX3_carries]; omega)⟩) (z_recv M hW hm_q4 rfl rfl) ⟨rfl, hW.weaken (fun _ _ => trivial)⟩ rfl hl rfl (Nat.le_of_ble_eq_true rfl) ⟨Nat.zero_le _, Nat.zero_le _⟩ dX4_tryRiders_44 hS hfa (fun u H locs hw _ _ hS => ?_)
          obtain ⟨r7, σ6⟩ := u
          obtain ⟨hp, hW2⟩ := hw
          have hW := hW2.weaken hfa
          try dsimp only at hp
          refine zv_eq M (tgt := 132) dX4_tryRiders_47 (by decide) rfl (fun c8 => ?_) (fun c8 => ?_)
          · have hp := hp.1 c8
            obtain ⟨x9, ex9⟩ : ∃ z : Int, z = v4 + 1 := ⟨_, rfl⟩
            have hp := hp x9 ex9
            refine z_inc M [(4, .int (iN x9)), (5, .ref (ad (6, q4, 0))), (0, .ref (ad (0, 0, 0))), (1, .int (iN v1)), (2, .int (iN v2)), (3, .int (iN v3))] x9 dX4_tryRiders_132 hl 5 rfl ex9.symm (by decide) rfl (fun ls hl => ?_)
            refine zg M (tgt := 13) dX4_tryRiders_135 (by decide) ?_
            exact ih13 x9 σ6 _ _ _  hp hW hS (lv_sub hl [2, 3, 4, 5, 0] rfl)
          · have hp := hp.2 c8
            refine z_al_n M dX4_tryRiders_50 rfl hl 1 rfl ?_
            refine zg_X4_3 M u_hin4 hW hKC.k0 (M.hts _ u_fl_X4_28) dX4_tryRiders_51 ?_
            refine z_il M dX4_tryRiders_54 hl 5 rfl ?_
            refine z_il_n M dX4_tryRiders_56 rfl hl 2 rfl ?_
            have hfa := hW.fa hS hA
            refine zc_VU (As := [.int (iN v4), .int (iN v1)]) (rest := []) M (w_X0_isRiddenBy hKC z_lt0 hp) (cuV M 2 u_co_X0_isRiddenBy u_ml_X4_246 u_ini_X0 u_in_X0_isRiddenBy u_se_X0_isRiddenBy (by decide +kernel) rfl rfl ⟨(by simp only [rmX4_tryEnd, rmX4_tryEnds, rmX4_tryRiders, rmX0_isRiddenBy]; omega), (by simp only [rmX4_tryEnd, rmX4_tryEnds, rmX4_tryRiders, rmX0_isRiddenBy]; omega)⟩) (z_recv M hW (hKC.k4 z_lt0) rfl rfl) ⟨rfl, hW.weaken (fun _ _ => trivial)⟩ rfl hl rfl (Nat.le_of_ble_eq_true rfl) ⟨Nat.zero_le _, Nat.zero_le _⟩ dX4_tryRiders_57 hS hfa (fun u H locs hw _ _ hS => ?_)
            obtain ⟨r11, σ10⟩ := u
            obtain ⟨hp, hW2⟩ := hw
            have hW := hW2.weaken hfa
            try dsimp only at hp
            refine zv_eq M (tgt := 66) dX4_tryRiders_60 (by decide) rfl (fun c12 => ?_) (fun c12 => ?_)
            · have hp := hp.1 c12
              refine z_al_n M dX4_tryRiders_66 rfl hl 1 rfl ?_
              refine z_al M dX4_tryRiders_67 hl 0 rfl ?_
              refine z_il_n M dX4_tryRiders_69 rfl hl 3 rfl ?_
              have hfa := hW.fa hS hA
              refine zc_VU (As := [.ref (ad (6, q4, 0)), .int (iN v2)]) (rest := []) M (w_X4_thereFrom hKC hm_q4 hp) (cuV M 2 u_co_X4_thereFrom u_ml_X4_207 u_ini_X4 u_in_X4_thereFrom u_se_X4_thereFrom (by decide +kernel) rfl rfl ⟨(by simp only [rmX4_tryEnd, rmX4_tryEnds, rmX4_tryRiders, rmX4_thereFrom]; omega), (by simp only [rmX4_tryEnd, rmX4_tryEnds, rmX4_tryRiders, rmX4_thereFrom]; omega)⟩) (z_recv M hW hKC.k0 rfl rfl) ⟨rfl, hW.weaken (fun _ _ => trivial)⟩ rfl hl rfl (Nat.le_of_ble_eq_true rfl) ⟨Nat.zero_le _, Nat.zero_le _⟩ dX4_tryRiders_70 hS hfa (fun u H locs hw _ _ hS => ?_)
              obtain ⟨r14, σ13⟩ := u
              obtain ⟨hp, hW2⟩ := hw
              have hW := hW2.weaken hfa
              try dsimp only at hp
              refine z_is M [(6, .int (iN r14)), (5, .ref (ad (6, q4, 0))), (0, .ref (ad (0, 0, 0))), (1, .int (iN v1)), (2, .int (iN v2)), (3, .int (iN v3)), (4, .int (iN v4))] dX4_tryRiders_73 hl (by decide) rfl (fun ls hl => ?_)
              refine z_il M dX4_tryRiders_75 hl 0 rfl ?_
              refine z_il_n M dX4_tryRiders_77 rfl hl 5 rfl ?_
              refine zi_max M hl (M.hts _ u_ml_X4_131) (M.hts _ u_st_max) (M.hts _ u_ini_Math) (M.hts _ u_co_max) (by simp only [rmX4_tryEnd, rmX4_tryEnds, rmX4_tryRiders]; omega) (Nat.le_trans (m := 21) (Nat.le_of_ble_eq_true rfl) (by simp only [rmX4_tryEnd, rmX4_tryEnds, rmX4_tryRiders]; omega)) (Nat.zero_le _) (Nat.zero_le _) dX4_tryRiders_78 ?_
              refine zi_nm (fun x15 ex15 => ?_)
              have hp := hp x15 ex15
              refine z_is M [(7, .int (iN x15)), (6, .int (iN r14)), (5, .ref (ad (6, q4, 0))), (0, .ref (ad (0, 0, 0))), (1, .int (iN v1)), (2, .int (iN v2)), (3, .int (iN v3)), (4, .int (iN v4))] dX4_tryRiders_81 hl (by decide) rfl (fun ls hl => ?_)
              refine z_il M dX4_tryRiders_83 hl 1 rfl ?_
              refine zi_const M (-1) dX4_tryRiders_85 rfl ?_
              refine zw_eq M (tgt := 132) dX4_tryRiders_86 (by decide) rfl (w_of ⟨by decide, by decide⟩) (fun c16 => ?_) (fun c16 => ?_)
              · have hp := hp.1 c16
                obtain ⟨x17, ex17⟩ : ∃ z : Int, z = v4 + 1 := ⟨_, rfl⟩
                have hp := hp x17 ex17
                refine z_inc M [(4, .int (iN x17)), (7, .int (iN x15)), (6, .int (iN r14)), (5, .ref (ad (6, q4, 0))), (0, .ref (ad (0, 0, 0))), (1, .int (iN v1)), (2, .int (iN v2)), (3, .int (iN v3))] x17 dX4_tryRiders_132 hl 7 rfl ex17.symm (by decide) rfl (fun ls hl => ?_)
                refine zg M (tgt := 13) dX4_tryRiders_135 (by decide) ?_
                exact ih13 x17 σ13 _ _ _  hp hW hS (lv_sub hl [4, 5, 6, 7, 0] rfl)
              · have hp := hp.2 c16
                refine z_al_n M dX4_tryRiders_89 rfl hl 3 rfl ?_
                refine z_il M dX4_tryRiders_90 hl 0 rfl ?_
                have hfa := hW.fa hS hA
                refine zc_VU (As := [.int (iN x15)]) (rest := []) M (w_X4_isTooLate hKC  hp) (cuV M 1 u_co_X4_isTooLate u_ml_X4_249 u_ini_X4 u_in_X4_isTooLate u_se_X4_isTooLate (by decide +kernel) rfl rfl ⟨(by simp only [rmX4_tryEnd, rmX4_tryEnds, rmX4_tryRiders, rmX4_isTooLate]; omega), (by simp only [rmX4_tryEnd, rmX4_tryEnds, rmX4_tryRiders, rmX4_isTooLate]; omega)⟩) (z_recv M hW hKC.k0 rfl rfl) ⟨rfl, hW.weaken (fun _ _ => trivial)⟩ rfl hl rfl (Nat.le_of_ble_eq_true rfl) ⟨Nat.zero_le _, Nat.zero_le _⟩ dX4_tryRiders_92 hS hfa (fun u H locs hw _ _ hS => ?_)
                obtain ⟨r19, σ18⟩ := u
                obtain ⟨hp, hW2⟩ := hw
                have hW := hW2.weaken hfa
                try dsimp only at hp
                refine zv_ne M (tgt := 132) dX4_tryRiders_95 (by decide) rfl (fun c20 => ?_) (fun c20 => ?_)
                · have hp := hp.1 c20
                  obtain ⟨x21, ex21⟩ : ∃ z : Int, z = v4 + 1 := ⟨_, rfl⟩
                  have hp := hp x21 ex21
                  refine z_inc M [(4, .int (iN x21)), (7, .int (iN x15)), (6, .int (iN r14)), (5, .ref (ad (6, q4, 0))), (0, .ref (ad (0, 0, 0))), (1, .int (iN v1)), (2, .int (iN v2)), (3, .int (iN v3))] x21 dX4_tryRiders_132 hl 7 rfl ex21.symm (by decide) rfl (fun ls hl => ?_)
                  refine zg M (tgt := 13) dX4_tryRiders_135 (by decide) ?_
                  exact ih13 x21 σ18 _ _ _  hp hW hS (lv_sub hl [4, 5, 6, 7, 0] rfl)
                · have hp := hp.2 c20
                  refine z_al_n M dX4_tryRiders_98 rfl hl 3 rfl ?_
                  refine z_il_n M dX4_tryRiders_99 rfl hl 4 rfl ?_
                  refine zi_const M 1 dX4_tryRiders_100 rfl ?_
                  refine zi_sub M dX4_tryRiders_101 ?_
                  refine z_il M dX4_tryRiders_102 hl 0 rfl ?_
                  have hfa := hW.fa hS hA
                  refine zc_VU (As := [.int (iN (v1 - 1)), .int (iN x15)]) (rest := []) M (w_X4_waitsUntil hKC  hp) (cuV M 2 u_co_X4_waitsUntil u_ml_X4_252 u_ini_X4 u_in_X4_waitsUntil u_se_X4_waitsUntil (by decide +kernel) rfl rfl ⟨(by simp only [rmX4_tryEnd, rmX4_tryEnds, rmX4_tryRiders, rmX4_waitsUntil]; omega), (by simp only [rmX4_tryEnd, rmX4_tryEnds, rmX4_tryRiders, rmX4_waitsUntil]; omega)⟩) (z_recv M hW hKC.k0 rfl rfl) ⟨rfl, hW.weaken (fun _ _ => trivial)⟩ rfl hl rfl (Nat.le_of_ble_eq_true rfl) ⟨Nat.zero_le _, Nat.zero_le _⟩ dX4_tryRiders_104 hS hfa (fun u H locs hw _ _ hS => ?_)
                  obtain ⟨r23, σ22⟩ := u
                  obtain ⟨hp, hW2⟩ := hw
                  have hW := hW2.weaken hfa
                  try dsimp only at hp
                  refine zv_eq M (tgt := 132) dX4_tryRiders_107 (by decide) rfl (fun c24 => ?_) (fun c24 => ?_)
                  · have hp := hp.1 c24
                    obtain ⟨x25, ex25⟩ : ∃ z : Int, z = v4 + 1 := ⟨_, rfl⟩
                    have hp := hp x25 ex25
                    refine z_inc M [(4, .int (iN x25)), (7, .int (iN x15)), (6, .int (iN r14)), (5, .ref (ad (6, q4, 0))), (0, .ref (ad (0, 0, 0))), (1, .int (iN v1)), (2, .int (iN v2)), (3, .int (iN v3))] x25 dX4_tryRiders_132 hl 7 rfl ex25.symm (by decide) rfl (fun ls hl => ?_)
                    refine zg M (tgt := 13) dX4_tryRiders_135 (by decide) ?_
                    exact ih13 x25 σ22 _ _ _  hp hW hS (lv_sub hl [4, 5, 6, 7, 0] rfl)
                  · have hp := hp.2 c24
                    refine z_al_n M dX4_tryRiders_110 rfl hl 3 rfl ?_
                    refine zg_X4_3 M u_hin4 hW hKC.k0 (M.hts _ u_fl_X4_28) dX4_tryRiders_111 ?_
                    refine z_il_n M dX4_tryRiders_114 rfl hl 4 rfl ?_
                    refine z_il M dX4_tryRiders_115 hl 7 rfl ?_
                    refine z_il_n M dX4_tryRiders_117 rfl hl 5 rfl ?_
                    refine z_il M dX4_tryRiders_118 hl 0 rfl ?_
                    have hfa := hW.fa hS hA
                    refine zc_VU (As := [.int (iN v1), .int (iN v4), .int (iN v2), .int (iN x15)]) (rest := []) M (w_X0_open hKC z_lt0 hp) (cuV M 4 u_co_X0_open u_ml_X4_255 u_ini_X0 u_in_X0_open u_se_X0_open (by decide +kernel) rfl rfl ⟨(by simp only [rmX4_tryEnd, rmX4_tryEnds, rmX4_tryRiders, rmX0_open]; omega), (by simp only [rmX4_tryEnd, rmX4_tryEnds, rmX4_tryRiders, rmX0_open]; omega)⟩) (z_recv M hW (hKC.k4 z_lt0) rfl rfl) ⟨rfl, hW.weaken (fun _ _ => trivial)⟩ rfl hl rfl (Nat.le_of_ble_eq_true rfl) ⟨Nat.zero_le _, Nat.zero_le _⟩ dX4_tryRiders_120 hS hfa (fun σ26 H locs hw _ _ hS => ?_)
                    obtain ⟨hp, hW2⟩ := hw
                    have hW := hW2.weaken hfa
                    try dsimp only at hp
                    refine z_al_n M dX4_tryRiders_123 rfl hl 3 rfl ?_
                    refine z_il_n M dX4_tryRiders_124 rfl hl 4 rfl ?_
                    refine z_al M dX4_tryRiders_125 hl 2 rfl ?_
                    refine z_il M dX4_tryRiders_127 hl 0 rfl ?_
                    have hfa := hW.fa hS hA
                    refine zc_VU (As := [.int (iN v1), .ref (ad (6, q4, 0)), .int (iN x15)]) (rest := []) M (w_X4_tryEnds hKC hm_q4 hrc hp) (cuV M 3 u_co_X4_tryEnds u_ml_X4_259 u_ini_X4 u_in_X4_tryEnds u_se_X4_tryEnds (by decide +kernel) rfl rfl ⟨(by simp only [rmX4_tryEnd, rmX4_tryEnds, rmX4_tryRiders]; omega), (by simp only [rmX4_tryEnd, rmX4_tryEnds, rmX4_tryRiders]; omega)⟩) (z_recv M hW hKC.k0 rfl rfl) ⟨rfl, hW.weaken (fun _ _ => trivial)⟩ rfl hl rfl (Nat.le_of_ble_eq_true rfl) ⟨Nat.zero_le _, Nat.zero_le _⟩ dX4_tryRiders_129 hS hfa (fun σ27 H locs hw _ _ hS => ?_)
                    obtain ⟨hp, hW2⟩ := hw
                    have hW := hW2.weaken hfa
                    try dsimp only at hp
                    obtain ⟨x28, ex28⟩ : ∃ z : Int, z = v4 + 1 := ⟨_, rfl⟩
                    have hp := hp x28 ex28
                    refine z_inc M [(4, .int (iN x28)), (7, .int (iN x15)), (6, .int (iN r14)), (5, .ref (ad (6, q4, 0))), (0, .ref (ad (0, 0, 0))), (1, .int (iN v1)), (2, .int (iN v2)), (3, .int (iN v3))] x28 dX4_tryRiders_132 hl 7 rfl ex28.symm (by decide) rfl (fun ls hl => ?_)
                    refine zg M (tgt := 13) dX4_tryRiders_135 (by decide) ?_
                    exact ih13 x28 σ27 _ _ _  hp hW hS (lv_sub hl [4, 5, 6, 7, 0] rfl)
            · have hp := hp.2 c12
              refine zg M (tgt := 132) dX4_tryRiders_63 (by decide) ?_
              obtain ⟨x29, ex29⟩ : ∃ z : Int, z = v4 + 1 := ⟨_, rfl⟩
              have hp := hp x29 ex29
              refine z_inc M [(4, .int (iN x29)), (5, .ref (ad (6, q4, 0))), (0, .ref (ad (0, 0, 0))), (1, .int (iN v1)), (2, .int (iN v2)), (3, .int (iN v3))] x29 dX4_tryRiders_132 hl 5 rfl ex29.symm (by decide) rfl (fun ls hl => ?_)
              refine zg M (tgt := 13) dX4_tryRiders_135 (by decide) ?_
              exact ih13 x29 σ10 _ _ _  hp hW hS (lv_sub hl [2, 3, 4, 5, 0] rfl)
  refine z_il_n M dX4_tryRiders_0 rfl hl 1 rfl ?_
  refine zv_lt M (tgt := 9) dX4_tryRiders_1 (by decide) rfl (fun c30 => ?_) (fun c30 => ?_)
  · have hp := hp.1 c30
    exact zr_v M hr hlocks σ rfl ⟨hp, hW⟩ hS dX4_tryRiders_9
  · have hp := hp.2 c30
    refine z_il_n M dX4_tryRiders_4 rfl hl 1 rfl ?_
    refine zi_const M 3 dX4_tryRiders_5 rfl ?_
    refine zw_lt M (tgt := 10) dX4_tryRiders_6 (by decide) rfl (w_of ⟨by decide, by decide⟩) (fun c31 => ?_) (fun c31 => ?_)
    · have hp := hp.1 c31
      refine zi_const M 0 dX4_tryRiders_10 rfl ?_
      refine z_is M [(4, .int (iN 0)), (0, .ref (ad (0, 0, 0))), (1, .int (iN v1)), (2, .int (iN v2)), (3, .int (iN v3))] dX4_tryRiders_11 hl (by decide) rfl (fun ls hl => ?_)
      obtain ⟨f32, hp⟩ := hp
      exact hL13 f32 0 σ _ _ _  hp hW hS (lv_sub hl [1, 2, 3, 4, 0] rfl)
    · have hp := hp.2 c31
      exact zr_v M hr hlocks σ rfl ⟨hp, hW⟩ hS dX4_tryRiders_9
theorem w_X4_tryRidersD {l : Launch} {D : va_G} {ca : Nat → ClassId} {K : List nKey} {ad : nKey → Nat} (hKC : KC K) : ∀ (d : Nat) (σ : nS) (v1 : Int) (v2 : Int) (v3 : Int) (k : nS → Prop) (sz : Nat), P_X4_tryRidersD K d σ v1 v2 v3 k → Met l yX4_tryRiders (Cond.code yX4_tryRiders cX4_tryRiders 8 none :: UW) (rmX4_tryRiders d) (ZP D ca [.ref (ad (0, 0, 0)), .int (iN v1), .int (iN v2), .int (iN v3)] (ZB D K ad ca σ sz)) (ZQv D K ad ca sz k) 0 0 (FA K ad sz) := by
  intro d
  induction d with
  | zero =>
    intro σ v1 v2 v3 k sz hp
    exact hp.elim
  | succ d ih =>
    intro σ v1 v2 v3 k sz hp
    exact w_X4_tryRiders hKC ih hp
def P_X4_findChain (K : List nKey) (σ : nS) (q1 : Nat) (v2 : Int) (v3 : Int) (k : Int → nS → Prop) : Prop :=
  ∀ σ1 : nS, σ1 = s1 σ (4, 0, 0) 6 (σ.1 (8, q1, 0) 0) → ∀ σ2 : nS, σ2 = s1 σ1 (4, 0, 0) 7 (σ1.1 (8, q1, 0) 2) → ∀ σ3 : nS, σ3 = s1 σ2 (4, 1, 0) 5 0 → P_X4_tryRidersD K 3 σ3 0 v2 v3 (fun σ4 => ((w (σ4.1 (4, 1, 0) 5) ≤ 0 → k 0 σ4) ∧ (0 < w (σ4.1 (4, 1, 0) 5) → k 1 σ4)))
def rmX4_findChain : Room := { frames := 14, cells := 0, slots := 0, locals := 335 }
set_option maxHeartbeats 4000000 in
set_option maxRecDepth 100000 in
theorem w_X4_findChain {l : Launch} {D : va_G} {ca : Nat → ClassId} {K : List nKey} {ad : nKey → Nat} {σ : nS} {sz : Nat} (hKC : KC K) {q1 : Nat} {v2 : Int} {v3 : Int} (hm_q1 : (8, q1, 0) ∈ K) {k : Int → nS → Prop} (hp : P_X4_findChain K σ q1 v2 v3 k) : Met l yX4_findChain (Cond.code yX4_findChain cX4_findChain 4 (some .boolean) :: UW) rmX4_findChain (ZP D ca [.ref (ad (0, 0, 0)), .ref (ad (8, q1, 0)), .int (iN v2), .int (iN v3)] (ZB D K ad ca σ sz)) (ZQi D K ad ca sz k) 0 0 (FA K ad sz) := by
  refine z_start (cc := cX4_findChain) (maxL := 4) (ret := (some .boolean)) (own := RX4) (K := K) (ad := ad) (σ := σ) (Qc := fun sz => ZQi D K ad ca sz k) (by decide) rfl (Nat.le_of_ble_eq_true rfl) ?_
  intro p e s m args below meth c M hr hlocks hW ls hl
  have hS : va_S (FA K ad s.heap.size) s.heap s.heap [] := va_S.rf
  have hA : ∀ q : Nat, s.heap.size ≤ q → FA K ad s.heap.size q := fun q h => Or.inr h
  replace hl : lv_has ls 4 [(0, .ref (ad (0, 0, 0))), (1, .ref (ad (8, q1, 0))), (2, .int (iN v2)), (3, .int (iN v3))] := hl
  unfold P_X4_findChain at hp
  refine z_al_n M dX4_findChain_0 rfl hl 0 rfl ?_
  refine zg_X4_3 M u_hin4 hW hKC.k0 (M.hts _ u_fl_X4_28) dX4_findChain_1 ?_
  refine z_al_n M dX4_findChain_4 rfl hl 1 rfl ?_
  refine zg_X2_0 M u_hin2 hW hm_q1 (M.hts _ u_fl_X4_163) dX4_findChain_5 ?_
  obtain ⟨σ1, eσ1⟩ : ∃ z : nS, z = s1 σ (4, 0, 0) 6 (σ.1 (8, q1, 0) 0) := ⟨_, rfl⟩
  have hp := hp σ1 eσ1
  refine zp_X0_6 (v := (σ.1 (8, q1, 0) 0)) M u_hin0 hW hS (hKC.k4 z_lt0) (M.hts _ u_fl_X4_235) dX4_findChain_8 (fun H locs hW hS => ?_)
  rw [← eσ1] at hW
  refine z_al_n M dX4_findChain_11 rfl hl 0 rfl ?_
  refine zg_X4_3 M u_hin4 hW hKC.k0 (M.hts _ u_fl_X4_28) dX4_findChain_12 ?_
  refine z_al_n M dX4_findChain_15 rfl hl 1 rfl ?_
  refine zg_X2_2 M u_hin2 hW hm_q1 (M.hts _ u_fl_X4_166) dX4_findChain_16 ?_
  obtain ⟨σ2, eσ2⟩ : ∃ z : nS, z = s1 σ1 (4, 0, 0) 7 (σ1.1 (8, q1, 0) 2) := ⟨_, rfl⟩
  have hp := hp σ2 eσ2
  refine zp_X0_7 (v := (σ1.1 (8, q1, 0) 2)) M u_hin0 hW hS (hKC.k4 z_lt0) (M.hts _ u_fl_X4_236) dX4_findChain_19 (fun H locs hW hS => ?_)
  rw [← eσ2] at hW
  refine z_al_n M dX4_findChain_22 rfl hl 0 rfl ?_
  refine zg_X4_4 M u_hin4 hW hKC.k0 (M.hts _ u_fl_X4_32) dX4_findChain_23 ?_
  refine zi_const M 0 dX4_findChain_26 rfl ?_
  obtain ⟨σ3, eσ3⟩ : ∃ z : nS, z = s1 σ2 (4, 1, 0) 5 0 := ⟨_, rfl⟩
  have hp := hp σ3 eσ3
  refine zp_X0_5 (v := 0) M u_hin0 hW hS (hKC.k4 z_lt1) (M.hts _ u_fl_X4_239) dX4_findChain_27 (fun H locs hW hS => ?_)
  rw [← eσ3] at hW
  refine z_al_n M dX4_findChain_30 rfl hl 0 rfl ?_
  refine zi_const M 0 dX4_findChain_31 rfl ?_
  refine z_il_n M dX4_findChain_32 rfl hl 2 rfl ?_
  refine z_il_n M dX4_findChain_33 rfl hl 3 rfl ?_
  have hfa := hW.fa hS hA
  refine zc_VU (As := [.int (iN 0), .int (iN v2), .int (iN v3)]) (rest := []) M (w_X4_tryRidersD hKC 3 σ3 0 v2 v3 _ _  hp) (cuV M 3 u_co_X4_tryRiders u_ml_X4_242 u_ini_X4 u_in_X4_tryRiders u_se_X4_tryRiders (by decide +kernel) rfl rfl ⟨Nat.le_of_ble_eq_true rfl, Nat.le_of_ble_eq_true rfl⟩) (z_recv M hW hKC.k0 rfl rfl) ⟨rfl, hW.weaken (fun _ _ => trivial)⟩ rfl hl rfl (Nat.le_of_ble_eq_true rfl) ⟨Nat.zero_le _, Nat.zero_le _⟩ dX4_findChain_34 hS hfa (fun σ4 H locs hw _ _ hS => ?_)
  obtain ⟨hp, hW2⟩ := hw
  have hW := hW2.weaken hfa
  try dsimp only at hp
  refine z_al_n M dX4_findChain_37 rfl hl 0 rfl ?_
  refine zg_X4_4 M u_hin4 hW hKC.k0 (M.hts _ u_fl_X4_32) dX4_findChain_38 ?_
  refine zg_X0_5 M u_hin0 hW (hKC.k4 z_lt1) (M.hts _ u_fl_X4_239) dX4_findChain_41 ?_
  refine zv_le M (tgt := 51) dX4_findChain_44 (by decide) rfl (fun c5 => ?_) (fun c5 => ?_)
  · have hp := hp.1 c5
    refine zi_const M 0 dX4_findChain_51 rfl ?_
    exact zr_z M hr hlocks (0, σ4) (by decide) rfl ⟨hp, hW⟩ hS dX4_findChain_52
  · have hp := hp.2 c5
    refine zi_const M 1 dX4_findChain_47 rfl ?_
    refine zg M (tgt := 52) dX4_findChain_48 (by decide) ?_
    exact zr_z M hr hlocks (1, σ4) (by decide) rfl ⟨hp, hW⟩ hS dX4_findChain_52
def P_X4_best (K : List nKey) (σ : nS) (v1 : Int) (k : Int → nS → Prop) : Prop :=
  P_X4_requestAt K σ v1 (fun r2 σ1 => ((r2 = none → k (-1) σ1) ∧ (∀ q3 : Nat, r2 = some q3 → (8, q3, 0) ∈ K ∧ ((w (σ1.1 (8, q3, 0) 7) ≠ 0 → k (-1) σ1) ∧ (w (σ1.1 (8, q3, 0) 7) = 0 → P_X4_findChain K σ1 q3 (σ1.1 (8, q3, 0) 1) (σ1.1 (8, q3, 0) 3) (fun r6 σ5 => ((w r6 ≠ 0 → P_X0_lastEnd K σ5 1 (fun r9 σ8 => k r9 σ8)) ∧ (w r6 = 0 → k (-1) σ5))))))))
def rmX4_best : Room := { frames := 15, cells := 0, slots := 0, locals := 358 }
set_option maxHeartbeats 4000000 in
set_option maxRecDepth 100000 in
theorem w_X4_best {l : Launch} {D : va_G} {ca : Nat → ClassId} {K : List nKey} {ad : nKey → Nat} {σ : nS} {sz : Nat} (hKC : KC K) {v1 : Int} {k : Int → nS → Prop} (hp : P_X4_best K σ v1 k) : Met l yX4_best (Cond.code yX4_best cX4_best 3 (some .int) :: UW) rmX4_best (ZP D ca [.ref (ad (0, 0, 0)), .int (iN v1)] (ZB D K ad ca σ sz)) (ZQi D K ad ca sz k) 0 0 (FA K ad sz) := by
  refine z_start (cc := cX4_best) (maxL := 3) (ret := (some .int)) (own := RX4) (K := K) (ad := ad) (σ := σ) (Qc := fun sz => ZQi D K ad ca sz k) (by decide) rfl (Nat.le_of_ble_eq_true rfl) ?_
  intro p e s m args below meth c M hr hlocks hW ls hl
  have hS : va_S (FA K ad s.heap.size) s.heap s.heap [] := va_S.rf
  have hA : ∀ q : Nat, s.heap.size ≤ q → FA K ad s.heap.size q := fun q h => Or.inr h
  replace hl : lv_has ls 3 [(0, .ref (ad (0, 0, 0))), (1, .int (iN v1))] := hl
  unfold P_X4_best at hp
  refine z_al_n M dX4_best_0 rfl hl 0 rfl ?_
  refine z_il_n M dX4_best_1 rfl hl 1 rfl ?_
  have hfa := hW.fa hS hA
  refine zc_VU (As := [.int (iN v1)]) (rest := []) M (w_X4_requestAt hKC  hp) (cuV M 1 u_co_X4_requestAt u_ml_X4_137 u_ini_X4 u_in_X4_requestAt u_se_X4_requestAt (by decide +kernel) rfl rfl ⟨Nat.le_of_ble_eq_true rfl, Nat.le_of_ble_eq_true rfl⟩) (z_recv M hW hKC.k0 rfl rfl) ⟨rfl, hW.weaken (fun _ _ => trivial)⟩ rfl hl rfl (Nat.le_of_ble_eq_true rfl) ⟨Nat.zero_le _, Nat.zero_le _⟩ dX4_best_2 hS hfa (fun u H locs hw _ _ hS => ?_)
  obtain ⟨r2, σ1⟩ := u
  obtain ⟨hp, hW2⟩ := hw
  have hW := hW2.weaken hfa
  try dsimp only at hp
  rcases r2 with _ | q3
  · refine W.eq (g2 := F0 m 5 ls (.null :: [])) rfl ?_
    have hp := hp.1 rfl
    refine z_asn_n M [(2, .null), (0, .ref (ad (0, 0, 0))), (1, .int (iN v1))] dX4_best_5 rfl hl (by decide) rfl (fun ls hl => ?_)
    refine z_aln_n M dX4_best_6 rfl hl 0 rfl ?_
    refine z_ifnN M (tgt := 33) dX4_best_7 (by decide) ?_
    refine zi_const M (-1) dX4_best_33 rfl ?_
    exact zr_i M hr hlocks ((-1), σ1) rfl ⟨hp, hW⟩ hS dX4_best_34
  · refine W.eq (g2 := F0 m 5 ls (.ref (ad (8, q3, 0)) :: [])) rfl ?_
    obtain ⟨hm_q3, hp⟩ := hp.2 q3 rfl
    refine z_as_n M [(2, .ref (ad (8, q3, 0))), (0, .ref (ad (0, 0, 0))), (1, .int (iN v1))] dX4_best_5 rfl hl (by decide) rfl (fun ls hl => ?_)
    refine z_al_n M dX4_best_6 rfl hl 0 rfl ?_
    refine z_ifn M dX4_best_7 ?_
    refine z_al_n M dX4_best_10 rfl hl 0 rfl ?_
    refine zg_X2_7 M u_hin2 hW hm_q3 (M.hts _ u_fl_X4_141) dX4_best_11 ?_
    refine zv_ne M (tgt := 33) dX4_best_14 (by decide) rfl (fun c4 => ?_) (fun c4 => ?_)
    · have hp := hp.1 c4
      refine zi_const M (-1) dX4_best_33 rfl ?_
      exact zr_i M hr hlocks ((-1), σ1) rfl ⟨hp, hW⟩ hS dX4_best_34
    · have hp := hp.2 c4
      refine z_al_n M dX4_best_17 rfl hl 1 rfl ?_
      refine z_al_n M dX4_best_18 rfl hl 0 rfl ?_
      refine z_al_n M dX4_best_19 rfl hl 0 rfl ?_
      refine zg_X2_1 M u_hin2 hW hm_q3 (M.hts _ u_fl_X4_144) dX4_best_20 ?_
      refine z_al_n M dX4_best_23 rfl hl 0 rfl ?_
      refine zg_X2_3 M u_hin2 hW hm_q3 (M.hts _ u_fl_X4_147) dX4_best_24 ?_
      have hfa := hW.fa hS hA
      refine zc_VU (As := [.ref (ad (8, q3, 0)), .int (iN (σ1.1 (8, q3, 0) 1)), .int (iN (σ1.1 (8, q3, 0) 3))]) (rest := []) M (w_X4_findChain hKC hm_q3 hp) (cuV M 3 u_co_X4_findChain u_ml_X4_150 u_ini_X4 u_in_X4_findChain u_se_X4_findChain (by decide +kernel) rfl rfl ⟨Nat.le_of_ble_eq_true rfl, Nat.le_of_ble_eq_true rfl⟩) (z_recv M hW hKC.k0 rfl rfl) ⟨rfl, hW.weaken (fun _ _ => trivial)⟩ rfl hl rfl (Nat.le_of_ble_eq_true rfl) ⟨Nat.zero_le _, Nat.zero_le _⟩ dX4_best_27 hS hfa (fun u H locs hw _ _ hS => ?_)
      obtain ⟨r6, σ5⟩ := u
      obtain ⟨hp, hW2⟩ := hw
      have hW := hW2.weaken hfa
      try dsimp only at hp
      refine zv_ne M (tgt := 35) dX4_best_30 (by decide) rfl (fun c7 => ?_) (fun c7 => ?_)
      · have hp := hp.1 c7
        refine z_al_n M dX4_best_35 rfl hl 1 rfl ?_
        refine zg_X4_4 M u_hin4 hW hKC.k0 (M.hts _ u_fl_X4_32) dX4_best_36 ?_
        have hfa := hW.fa hS hA
        refine zc_VU (As := []) (rest := []) M (w_X0_lastEnd hKC z_lt1 hp) (cuV M 0 u_co_X0_lastEnd u_ml_X4_154 u_ini_X0 u_in_X0_lastEnd u_se_X0_lastEnd (by decide +kernel) rfl rfl ⟨Nat.le_of_ble_eq_true rfl, Nat.le_of_ble_eq_true rfl⟩) (z_recv M hW (hKC.k4 z_lt1) rfl rfl) ⟨rfl, hW.weaken (fun _ _ => trivial)⟩ rfl hl rfl (Nat.le_of_ble_eq_true rfl) ⟨Nat.zero_le _, Nat.zero_le _⟩ dX4_best_39 hS hfa (fun u H locs hw _ _ hS => ?_)
        obtain ⟨r9, σ8⟩ := u
        obtain ⟨hp, hW2⟩ := hw
        have hW := hW2.weaken hfa
        try dsimp only at hp
        exact zr_i M hr hlocks (r9, σ8) rfl ⟨hp, hW⟩ hS dX4_best_42
      · have hp := hp.2 c7
        refine zi_const M (-1) dX4_best_33 rfl ?_
        exact zr_i M hr hlocks ((-1), σ5) rfl ⟨hp, hW⟩ hS dX4_best_34
def P_X4_told (K : List nKey) (σ : nS) (v1 : Int) (v2 : Int) (k : Int → nS → Prop) : Prop :=
  P_X4_requestAt K σ v1 (fun r2 σ1 => ((r2 = none → k (-1) σ1) ∧ (∀ q3 : Nat, r2 = some q3 → (8, q3, 0) ∈ K ∧ ((w v2 = 0 → k (σ1.1 (8, q3, 0) 0) σ1) ∧ (w v2 = 1 → k (σ1.1 (8, q3, 0) 1) σ1) ∧ (w v2 = 2 → k (σ1.1 (8, q3, 0) 2) σ1) ∧ (w v2 = 3 → k (σ1.1 (8, q3, 0) 3) σ1) ∧ (w v2 = 4 → k (σ1.1 (8, q3, 0) 4) σ1) ∧ (w v2 = 5 → ((w (σ1.1 (8, q3, 0) 8) = 0 → ((w (σ1.1 (8, q3, 0) 7) = 0 → k 0 σ1) ∧ (w (σ1.1 (8, q3, 0) 7) ≠ 0 → k 1 σ1))) ∧ (w (σ1.1 (8, q3, 0) 8) ≠ 0 → k 2 σ1))) ∧ (w v2 = 6 → k (σ1.1 (8, q3, 0) 6) σ1) ∧ (w v2 = 7 → ((w (σ1.1 (8, q3, 0) 8) = 0 → P_X2_lastEnd K σ1 q3 (fun r8 σ7 => k r8 σ7)) ∧ (w (σ1.1 (8, q3, 0) 8) ≠ 0 → k (-1) σ1))) ∧ (w v2 < 0 ∨ 7 < w v2 → k (-1) σ1)))))
def rmX4_told : Room := { frames := 2, cells := 0, slots := 0, locals := 42 }
set_option maxHeartbeats 4000000 in
set_option maxRecDepth 100000 in
theorem w_X4_told {l : Launch} {D : va_G} {ca : Nat → ClassId} {K : List nKey} {ad : nKey → Nat} {σ : nS} {sz : Nat} (hKC : KC K) {v1 : Int} {v2 : Int} {k : Int → nS → Prop} (hp : P_X4_told K σ v1 v2 k) : Met l yX4_told (Cond.code yX4_told cX4_told 4 (some .int) :: UW) rmX4_told (ZP D ca [.ref (ad (0, 0, 0)), .int (iN v1), .int (iN v2)] (ZB D K ad ca σ sz)) (ZQi D K ad ca sz k) 0 0 (FA K ad sz) := by
  refine z_start (cc := cX4_told) (maxL := 4) (ret := (some .int)) (own := RX4) (K := K) (ad := ad) (σ := σ) (Qc := fun sz => ZQi D K ad ca sz k) (by decide) rfl (Nat.le_of_ble_eq_true rfl) ?_
  intro p e s m args below meth c M hr hlocks hW ls hl
  have hS : va_S (FA K ad s.heap.size) s.heap s.heap [] := va_S.rf
  have hA : ∀ q : Nat, s.heap.size ≤ q → FA K ad s.heap.size q := fun q h => Or.inr h
  replace hl : lv_has ls 4 [(0, .ref (ad (0, 0, 0))), (1, .int (iN v1)), (2, .int (iN v2))] := hl
  unfold P_X4_told at hp
  refine z_al_n M dX4_told_0 rfl hl 0 rfl ?_
  refine z_il_n M dX4_told_1 rfl hl 1 rfl ?_
  have hfa := hW.fa hS hA
  refine zc_VU (As := [.int (iN v1)]) (rest := []) M (w_X4_requestAt hKC  hp) (cuV M 1 u_co_X4_requestAt u_ml_X4_137 u_ini_X4 u_in_X4_requestAt u_se_X4_requestAt (by decide +kernel) rfl rfl ⟨Nat.le_of_ble_eq_true rfl, Nat.le_of_ble_eq_true rfl⟩) (z_recv M hW hKC.k0 rfl rfl) ⟨rfl, hW.weaken (fun _ _ => trivial)⟩ rfl hl rfl (Nat.le_of_ble_eq_true rfl) ⟨Nat.zero_le _, Nat.zero_le _⟩ dX4_told_2 hS hfa (fun u H locs hw _ _ hS => ?_)
  obtain ⟨r2, σ1⟩ := u
  obtain ⟨hp, hW2⟩ := hw
  have hW := hW2.weaken hfa
  try dsimp only at hp
  rcases r2 with _ | q3
  · refine W.eq (g2 := F0 m 5 ls (.null :: [])) rfl ?_
    have hp := hp.1 rfl
    refine z_asn_n M [(3, .null), (0, .ref (ad (0, 0, 0))), (1, .int (iN v1)), (2, .int (iN v2))] dX4_told_5 rfl hl (by decide) rfl (fun ls hl => ?_)
    refine z_aln_n M dX4_told_6 rfl hl 0 rfl ?_
    refine z_ifnnN M dX4_told_7 ?_
    refine zi_const M (-1) dX4_told_10 rfl ?_
    exact zr_i M hr hlocks ((-1), σ1) rfl ⟨hp, hW⟩ hS dX4_told_11
  · refine W.eq (g2 := F0 m 5 ls (.ref (ad (8, q3, 0)) :: [])) rfl ?_
    obtain ⟨hm_q3, hp⟩ := hp.2 q3 rfl
    refine z_as_n M [(3, .ref (ad (8, q3, 0))), (0, .ref (ad (0, 0, 0))), (1, .int (iN v1)), (2, .int (iN v2))] dX4_told_5 rfl hl (by decide) rfl (fun ls hl => ?_)
    refine z_al_n M dX4_told_6 rfl hl 0 rfl ?_
    refine z_ifnn M (tgt := 12) dX4_told_7 (by decide) ?_
    refine z_il_n M dX4_told_12 rfl hl 3 rfl ?_
    by_cases c13_0 : w v2 = 0
    · have hp := hp.1 c13_0
      refine z_tin M (off := 47) (tgt := 60) 0 dX4_told_13 c13_0 (by decide) (by decide) rfl (by decide) ?_
      refine z_al_n M dX4_told_60 rfl hl 0 rfl ?_
      refine zg_X2_0 M u_hin2 hW hm_q3 (M.hts _ u_fl_X4_163) dX4_told_61 ?_
      exact zr_i M hr hlocks ((σ1.1 (8, q3, 0) 0), σ1) rfl ⟨hp, hW⟩ hS dX4_told_64
    · by_cases c13_1 : w v2 = 1
      · have hp := hp.2.1 c13_1
        refine z_tin M (off := 52) (tgt := 65) 1 dX4_told_13 c13_1 (by decide) (by decide) rfl (by decide) ?_
        refine z_al_n M dX4_told_65 rfl hl 0 rfl ?_
        refine zg_X2_1 M u_hin2 hW hm_q3 (M.hts _ u_fl_X4_144) dX4_told_66 ?_
        exact zr_i M hr hlocks ((σ1.1 (8, q3, 0) 1), σ1) rfl ⟨hp, hW⟩ hS dX4_told_69
      · by_cases c13_2 : w v2 = 2
        · have hp := hp.2.2.1 c13_2
          refine z_tin M (off := 57) (tgt := 70) 2 dX4_told_13 c13_2 (by decide) (by decide) rfl (by decide) ?_
          refine z_al_n M dX4_told_70 rfl hl 0 rfl ?_
          refine zg_X2_2 M u_hin2 hW hm_q3 (M.hts _ u_fl_X4_166) dX4_told_71 ?_
          exact zr_i M hr hlocks ((σ1.1 (8, q3, 0) 2), σ1) rfl ⟨hp, hW⟩ hS dX4_told_74
        · by_cases c13_3 : w v2 = 3
          · have hp := hp.2.2.2.1 c13_3
            refine z_tin M (off := 62) (tgt := 75) 3 dX4_told_13 c13_3 (by decide) (by decide) rfl (by decide) ?_
            refine z_al_n M dX4_told_75 rfl hl 0 rfl ?_
            refine zg_X2_3 M u_hin2 hW hm_q3 (M.hts _ u_fl_X4_147) dX4_told_76 ?_
            exact zr_i M hr hlocks ((σ1.1 (8, q3, 0) 3), σ1) rfl ⟨hp, hW⟩ hS dX4_told_79
          · by_cases c13_4 : w v2 = 4
            · have hp := hp.2.2.2.2.1 c13_4
              refine z_tin M (off := 67) (tgt := 80) 4 dX4_told_13 c13_4 (by decide) (by decide) rfl (by decide) ?_
              refine z_al_n M dX4_told_80 rfl hl 0 rfl ?_
              refine zg_X2_4 M u_hin2 hW hm_q3 (M.hts _ u_fl_X4_169) dX4_told_81 ?_
              exact zr_i M hr hlocks ((σ1.1 (8, q3, 0) 4), σ1) rfl ⟨hp, hW⟩ hS dX4_told_84
            · by_cases c13_5 : w v2 = 5
              · have hp := hp.2.2.2.2.2.1 c13_5
                refine z_tin M (off := 72) (tgt := 85) 5 dX4_told_13 c13_5 (by decide) (by decide) rfl (by decide) ?_
                refine z_al_n M dX4_told_85 rfl hl 0 rfl ?_
                refine zg_X2_8 M u_hin2 hW hm_q3 (M.hts _ u_fl_X4_172) dX4_told_86 ?_
                refine zv_eq M (tgt := 96) dX4_told_89 (by decide) rfl (fun c4 => ?_) (fun c4 => ?_)
                · have hp := hp.1 c4
                  refine z_al_n M dX4_told_96 rfl hl 0 rfl ?_
                  refine zg_X2_7 M u_hin2 hW hm_q3 (M.hts _ u_fl_X4_141) dX4_told_97 ?_
                  refine zv_eq M (tgt := 107) dX4_told_100 (by decide) rfl (fun c5 => ?_) (fun c5 => ?_)
                  · have hp := hp.1 c5
                    refine zi_const M 0 dX4_told_107 rfl ?_
                    exact zr_i M hr hlocks (0, σ1) rfl ⟨hp, hW⟩ hS dX4_told_108
                  · have hp := hp.2 c5
                    refine zi_const M 1 dX4_told_103 rfl ?_
                    refine zg M (tgt := 108) dX4_told_104 (by decide) ?_
                    exact zr_i M hr hlocks (1, σ1) rfl ⟨hp, hW⟩ hS dX4_told_108
                · have hp := hp.2 c4
                  refine zi_const M 2 dX4_told_92 rfl ?_
                  refine zg M (tgt := 108) dX4_told_93 (by decide) ?_
                  exact zr_i M hr hlocks (2, σ1) rfl ⟨hp, hW⟩ hS dX4_told_108
              · by_cases c13_6 : w v2 = 6
                · have hp := hp.2.2.2.2.2.2.1 c13_6
                  refine z_tin M (off := 96) (tgt := 109) 6 dX4_told_13 c13_6 (by decide) (by decide) rfl (by decide) ?_
                  refine z_al_n M dX4_told_109 rfl hl 0 rfl ?_
                  refine zg_X2_6 M u_hin2 hW hm_q3 (M.hts _ u_fl_X4_175) dX4_told_110 ?_
                  exact zr_i M hr hlocks ((σ1.1 (8, q3, 0) 6), σ1) rfl ⟨hp, hW⟩ hS dX4_told_113
                · by_cases c13_7 : w v2 = 7
                  · have hp := hp.2.2.2.2.2.2.2.1 c13_7
                    refine z_tin M (off := 101) (tgt := 114) 7 dX4_told_13 c13_7 (by decide) (by decide) rfl (by decide) ?_
                    refine z_al_n M dX4_told_114 rfl hl 0 rfl ?_
                    refine zg_X2_8 M u_hin2 hW hm_q3 (M.hts _ u_fl_X4_172) dX4_told_115 ?_
                    refine zv_eq M (tgt := 125) dX4_told_118 (by decide) rfl (fun c6 => ?_) (fun c6 => ?_)
                    · have hp := hp.1 c6
                      refine z_al_n M dX4_told_125 rfl hl 0 rfl ?_
                      have hfa := hW.fa hS hA
                      refine zc_VU (As := []) (rest := []) M (w_X2_lastEnd hKC hm_q3 hp) (cuV M 0 u_co_X2_lastEnd u_ml_X4_162 u_ini_X2 u_in_X2_lastEnd u_se_X2_lastEnd (by decide +kernel) rfl rfl ⟨Nat.le_of_ble_eq_true rfl, Nat.le_of_ble_eq_true rfl⟩) (z_recv M hW hm_q3 rfl rfl) ⟨rfl, hW.weaken (fun _ _ => trivial)⟩ rfl hl rfl (Nat.le_of_ble_eq_true rfl) ⟨Nat.zero_le _, Nat.zero_le _⟩ dX4_told_126 hS hfa (fun u H locs hw _ _ hS => ?_)
                      obtain ⟨r8, σ7⟩ := u
                      obtain ⟨hp, hW2⟩ := hw
                      have hW := hW2.weaken hfa
                      try dsimp only at hp
                      exact zr_i M hr hlocks (r8, σ7) rfl ⟨hp, hW⟩ hS dX4_told_129
                    · have hp := hp.2 c6
                      refine zi_const M (-1) dX4_told_121 rfl ?_
                      refine zg M (tgt := 129) dX4_told_122 (by decide) ?_
                      exact zr_i M hr hlocks ((-1), σ1) rfl ⟨hp, hW⟩ hS dX4_told_129
                  · have c13_o : w v2 < 0 ∨ 7 < w v2 := by omega
                    have hp := hp.2.2.2.2.2.2.2.2 c13_o
                    refine z_tout M (tgt := 130) dX4_told_13 c13_o (by decide) ?_
                    refine zi_const M (-1) dX4_told_130 rfl ?_
                    exact zr_i M hr hlocks ((-1), σ1) rfl ⟨hp, hW⟩ hS dX4_told_131
def P_X4_leg (K : List nKey) (σ : nS) (v1 : Int) (v2 : Int) (v3 : Int) (k : Int → nS → Prop) : Prop :=
  P_X4_requestAt K σ v1 (fun r2 σ1 => ((r2 = none → k (-1) σ1) ∧ (∀ q3 : Nat, r2 = some q3 → (8, q3, 0) ∈ K ∧ P_X2_legAt K σ1 q3 v2 (fun r5 σ4 => ((r5 = none → k (-1) σ4) ∧ (∀ q6 : Nat, r5 = some q6 → (10, q6, 0) ∈ K ∧ ((w v3 = 0 → k (σ4.1 (10, q6, 0) 0) σ4) ∧ (w v3 = 1 → k (σ4.1 (10, q6, 0) 1) σ4) ∧ (w v3 = 2 → k (σ4.1 (10, q6, 0) 5) σ4) ∧ (w v3 = 3 → k (σ4.1 (10, q6, 0) 2) σ4) ∧ (w v3 = 4 → k (σ4.1 (10, q6, 0) 6) σ4) ∧ (w v3 = 5 → ((w (σ4.1 (10, q6, 0) 7) = 0 → k 0 σ4) ∧ (w (σ4.1 (10, q6, 0) 7) ≠ 0 → k 1 σ4))) ∧ (w v3 < 0 ∨ 5 < w v3 → k (-1) σ4))))))))
def rmX4_leg : Room := { frames := 1, cells := 0, slots := 0, locals := 21 }
set_option maxHeartbeats 4000000 in
set_option maxRecDepth 100000 in
theorem w_X4_leg {l : Launch} {D : va_G} {ca : Nat → ClassId} {K : List nKey} {ad : nKey → Nat} {σ : nS} {sz : Nat} (hKC : KC K) {v1 : Int} {v2 : Int} {v3 : Int} {k : Int → nS → Prop} (hp : P_X4_leg K σ v1 v2 v3 k) : Met l yX4_leg (Cond.code yX4_leg cX4_leg 6 (some .int) :: UW) rmX4_leg (ZP D ca [.ref (ad (0, 0, 0)), .int (iN v1), .int (iN v2), .int (iN v3)] (ZB D K ad ca σ sz)) (ZQi D K ad ca sz k) 0 0 (FA K ad sz) := by
  refine z_start (cc := cX4_leg) (maxL := 6) (ret := (some .int)) (own := RX4) (K := K) (ad := ad) (σ := σ) (Qc := fun sz => ZQi D K ad ca sz k) (by decide) rfl (Nat.le_of_ble_eq_true rfl) ?_
  intro p e s m args below meth c M hr hlocks hW ls hl
  have hS : va_S (FA K ad s.heap.size) s.heap s.heap [] := va_S.rf
  have hA : ∀ q : Nat, s.heap.size ≤ q → FA K ad s.heap.size q := fun q h => Or.inr h
  replace hl : lv_has ls 6 [(0, .ref (ad (0, 0, 0))), (1, .int (iN v1)), (2, .int (iN v2)), (3, .int (iN v3))] := hl
  unfold P_X4_leg at hp
  refine z_al_n M dX4_leg_0 rfl hl 0 rfl ?_
  refine z_il_n M dX4_leg_1 rfl hl 1 rfl ?_
  have hfa := hW.fa hS hA
  refine zc_VU (As := [.int (iN v1)]) (rest := []) M (w_X4_requestAt hKC  hp) (cuV M 1 u_co_X4_requestAt u_ml_X4_137 u_ini_X4 u_in_X4_requestAt u_se_X4_requestAt (by decide +kernel) rfl rfl ⟨Nat.le_of_ble_eq_true rfl, Nat.le_of_ble_eq_true rfl⟩) (z_recv M hW hKC.k0 rfl rfl) ⟨rfl, hW.weaken (fun _ _ => trivial)⟩ rfl hl rfl (Nat.le_of_ble_eq_true rfl) ⟨Nat.zero_le _, Nat.zero_le _⟩ dX4_leg_2 hS hfa (fun u H locs hw _ _ hS => ?_)
  obtain ⟨r2, σ1⟩ := u
  obtain ⟨hp, hW2⟩ := hw
  have hW := hW2.weaken hfa
  try dsimp only at hp
  rcases r2 with _ | q3
  · refine W.eq (g2 := F0 m 5 ls (.null :: [])) rfl ?_
    have hp := hp.1 rfl
    refine z_asn M [(4, .null), (0, .ref (ad (0, 0, 0))), (1, .int (iN v1)), (2, .int (iN v2)), (3, .int (iN v3))] dX4_leg_5 hl (by decide) rfl (fun ls hl => ?_)
    refine z_aln M dX4_leg_7 hl 0 rfl ?_
    refine z_ifnnN M dX4_leg_9 ?_
    refine z_null M dX4_leg_12 ?_
    refine zg M (tgt := 22) dX4_leg_13 (by decide) ?_
    refine z_asn M [(5, .null), (4, .null), (0, .ref (ad (0, 0, 0))), (1, .int (iN v1)), (2, .int (iN v2)), (3, .int (iN v3))] dX4_leg_22 hl (by decide) rfl (fun ls hl => ?_)
    refine z_aln M dX4_leg_24 hl 0 rfl ?_
    refine z_ifnnN M dX4_leg_26 ?_
    refine zi_const M (-1) dX4_leg_29 rfl ?_
    exact zr_i M hr hlocks ((-1), σ1) rfl ⟨hp, hW⟩ hS dX4_leg_30
  · refine W.eq (g2 := F0 m 5 ls (.ref (ad (8, q3, 0)) :: [])) rfl ?_
    obtain ⟨hm_q3, hp⟩ := hp.2 q3 rfl
    refine z_as M [(4, .ref (ad (8, q3, 0))), (0, .ref (ad (0, 0, 0))), (1, .int (iN v1)), (2, .int (iN v2)), (3, .int (iN v3))] dX4_leg_5 hl (by decide) rfl (fun ls hl => ?_)
    refine z_al M dX4_leg_7 hl 0 rfl ?_
    refine z_ifnn M (tgt := 16) dX4_leg_9 (by decide) ?_
    refine z_al M dX4_leg_16 hl 0 rfl ?_
    refine z_il_n M dX4_leg_18 rfl hl 3 rfl ?_
    have hfa := hW.fa hS hA
    refine zc_VU (As := [.int (iN v2)]) (rest := []) M (w_X2_legAt hKC hm_q3 hp) (cuV M 1 u_co_X2_legAt u_ml_X4_178 u_ini_X2 u_in_X2_legAt u_se_X2_legAt (by decide +kernel) rfl rfl ⟨Nat.le_of_ble_eq_true rfl, Nat.le_of_ble_eq_true rfl⟩) (z_recv M hW hm_q3 rfl rfl) ⟨rfl, hW.weaken (fun _ _ => trivial)⟩ rfl hl rfl (Nat.le_of_ble_eq_true rfl) ⟨Nat.zero_le _, Nat.zero_le _⟩ dX4_leg_19 hS hfa (fun u H locs hw _ _ hS => ?_)
    obtain ⟨r5, σ4⟩ := u
    obtain ⟨hp, hW2⟩ := hw
    have hW := hW2.weaken hfa
    try dsimp only at hp
    rcases r5 with _ | q6
    · refine W.eq (g2 := F0 m 22 ls (.null :: [])) rfl ?_
      have hp := hp.1 rfl
      refine z_asn M [(5, .null), (4, .ref (ad (8, q3, 0))), (0, .ref (ad (0, 0, 0))), (1, .int (iN v1)), (2, .int (iN v2)), (3, .int (iN v3))] dX4_leg_22 hl (by decide) rfl (fun ls hl => ?_)
      refine z_aln M dX4_leg_24 hl 0 rfl ?_
      refine z_ifnnN M dX4_leg_26 ?_
      refine zi_const M (-1) dX4_leg_29 rfl ?_
      exact zr_i M hr hlocks ((-1), σ4) rfl ⟨hp, hW⟩ hS dX4_leg_30
    · refine W.eq (g2 := F0 m 22 ls (.ref (ad (10, q6, 0)) :: [])) rfl ?_
      obtain ⟨hm_q6, hp⟩ := hp.2 q6 rfl
      refine z_as M [(5, .ref (ad (10, q6, 0))), (4, .ref (ad (8, q3, 0))), (0, .ref (ad (0, 0, 0))), (1, .int (iN v1)), (2, .int (iN v2)), (3, .int (iN v3))] dX4_leg_22 hl (by decide) rfl (fun ls hl => ?_)
      refine z_al M dX4_leg_24 hl 0 rfl ?_
      refine z_ifnn M (tgt := 31) dX4_leg_26 (by decide) ?_
      refine z_il_n M dX4_leg_31 rfl hl 5 rfl ?_
      by_cases c32_0 : w v3 = 0
      · have hp := hp.1 c32_0
        refine z_tin M (off := 40) (tgt := 72) 0 dX4_leg_32 c32_0 (by decide) (by decide) rfl (by decide) ?_
        refine z_al M dX4_leg_72 hl 0 rfl ?_
        refine zg_X1_0 M u_hin1 hW hm_q6 (M.hts _ u_fl_X4_182) dX4_leg_74 ?_
        exact zr_i M hr hlocks ((σ4.1 (10, q6, 0) 0), σ4) rfl ⟨hp, hW⟩ hS dX4_leg_77
      · by_cases c32_1 : w v3 = 1
        · have hp := hp.2.1 c32_1
          refine z_tin M (off := 46) (tgt := 78) 1 dX4_leg_32 c32_1 (by decide) (by decide) rfl (by decide) ?_
          refine z_al M dX4_leg_78 hl 0 rfl ?_
          refine zg_X1_1 M u_hin1 hW hm_q6 (M.hts _ u_fl_X4_187) dX4_leg_80 ?_
          exact zr_i M hr hlocks ((σ4.1 (10, q6, 0) 1), σ4) rfl ⟨hp, hW⟩ hS dX4_leg_83
        · by_cases c32_2 : w v3 = 2
          · have hp := hp.2.2.1 c32_2
            refine z_tin M (off := 52) (tgt := 84) 2 dX4_leg_32 c32_2 (by decide) (by decide) rfl (by decide) ?_
            refine z_al M dX4_leg_84 hl 0 rfl ?_
            refine zg_X1_5 M u_hin1 hW hm_q6 (M.hts _ u_fl_X4_188) dX4_leg_86 ?_
            exact zr_i M hr hlocks ((σ4.1 (10, q6, 0) 5), σ4) rfl ⟨hp, hW⟩ hS dX4_leg_89
          · by_cases c32_3 : w v3 = 3
            · have hp := hp.2.2.2.1 c32_3
              refine z_tin M (off := 58) (tgt := 90) 3 dX4_leg_32 c32_3 (by decide) (by decide) rfl (by decide) ?_
              refine z_al M dX4_leg_90 hl 0 rfl ?_
              refine zg_X1_2 M u_hin1 hW hm_q6 (M.hts _ u_fl_X4_189) dX4_leg_92 ?_
              exact zr_i M hr hlocks ((σ4.1 (10, q6, 0) 2), σ4) rfl ⟨hp, hW⟩ hS dX4_leg_95
            · by_cases c32_4 : w v3 = 4
              · have hp := hp.2.2.2.2.1 c32_4
                refine z_tin M (off := 64) (tgt := 96) 4 dX4_leg_32 c32_4 (by decide) (by decide) rfl (by decide) ?_
                refine z_al M dX4_leg_96 hl 0 rfl ?_
                refine zg_X1_6 M u_hin1 hW hm_q6 (M.hts _ u_fl_X4_192) dX4_leg_98 ?_
                exact zr_i M hr hlocks ((σ4.1 (10, q6, 0) 6), σ4) rfl ⟨hp, hW⟩ hS dX4_leg_101
              · by_cases c32_5 : w v3 = 5
                · have hp := hp.2.2.2.2.2.1 c32_5
                  refine z_tin M (off := 70) (tgt := 102) 5 dX4_leg_32 c32_5 (by decide) (by decide) rfl (by decide) ?_
                  refine z_al M dX4_leg_102 hl 0 rfl ?_
                  refine zg_X1_7 M u_hin1 hW hm_q6 (M.hts _ u_fl_X4_195) dX4_leg_104 ?_
                  refine zv_eq M (tgt := 114) dX4_leg_107 (by decide) rfl (fun c7 => ?_) (fun c7 => ?_)
                  · have hp := hp.1 c7
                    refine zi_const M 0 dX4_leg_114 rfl ?_
                    exact zr_i M hr hlocks (0, σ4) rfl ⟨hp, hW⟩ hS dX4_leg_115
                  · have hp := hp.2 c7
                    refine zi_const M 1 dX4_leg_110 rfl ?_
                    refine zg M (tgt := 115) dX4_leg_111 (by decide) ?_
                    exact zr_i M hr hlocks (1, σ4) rfl ⟨hp, hW⟩ hS dX4_leg_115
                · have c32_o : w v3 < 0 ∨ 5 < w v3 := by omega
                  have hp := hp.2.2.2.2.2.2 c32_o
                  refine z_tout M (tgt := 116) dX4_leg_32 c32_o (by decide) ?_
                  refine zi_const M (-1) dX4_leg_116 rfl ?_
                  exact zr_i M hr hlocks ((-1), σ4) rfl ⟨hp, hW⟩ hS dX4_leg_117
def P_X4_hand_L45 (K : List nKey) (k : Int → nS → Prop) (v2 : Int) : Nat → Nat → Int → nS → Prop
  | 0 => fun _ _ _ => False
  | n + 1 => fun q3 v4 σ =>
    ((w v4 < 0 → k (-2) σ) ∧ (0 ≤ w v4 → P_X2_legAt K σ q3 v4 (fun r3 σ2 => ((r3 = none → ∀ x5 : Int, x5 = v4 + (-1) → (P_X4_hand_L45 K k v2 n) q3 x5 σ2) ∧ (∀ q4 : Nat, r3 = some q4 → (10, q4, 0) ∈ K ∧ ((w v2 < w (σ2.1 (10, q4, 0) 2) → ∀ x7 : Int, x7 = v4 + (-1) → (P_X4_hand_L45 K k v2 n) q3 x7 σ2) ∧ (w (σ2.1 (10, q4, 0) 2) ≤ w v2 → k (σ2.1 (10, q4, 0) 0) σ2)))))))
def P_X4_hand (K : List nKey) (σ : nS) (v1 : Int) (v2 : Int) (k : Int → nS → Prop) : Prop :=
  P_X4_requestAt K σ v1 (fun r9 σ8 => ((r9 = none → k (-1) σ8) ∧ (∀ q10 : Nat, r9 = some q10 → (8, q10, 0) ∈ K ∧ ((w (σ8.1 (8, q10, 0) 7) = 0 → k (-1) σ8) ∧ (w (σ8.1 (8, q10, 0) 7) ≠ 0 → P_X4_isMinute K σ8 v2 (fun r13 σ12 => ((w r13 ≠ 0 → P_X2_lastEnd K σ12 q10 (fun r16 σ15 => ((w v2 ≤ w r16 → ∀ x18 : Int, x18 = ((σ15.1 (8, q10, 0) 6) - 1) → ∃ f19 : Nat, P_X4_hand_L45 K k v2 f19 q10 x18 σ15) ∧ (w r16 < w v2 → k (-3) σ15)))) ∧ (w r13 = 0 → k (-1) σ12))))))))
def rmX4_hand : Room := { frames := 2, cells := 0, slots := 0, locals := 42 }
set_option maxHeartbeats 4000000 in
set_option maxRecDepth 100000 in
theorem w_X4_hand {l : Launch} {D : va_G} {ca : Nat → ClassId} {K : List nKey} {ad : nKey → Nat} {σ : nS} {sz : Nat} (hKC : KC K) {v1 : Int} {v2 : Int} {k : Int → nS → Prop} (hp : P_X4_hand K σ v1 v2 k) : Met l yX4_hand (Cond.code yX4_hand cX4_hand 6 (some .int) :: UW) rmX4_hand (ZP D ca [.ref (ad (0, 0, 0)), .int (iN v1), .int (iN v2)] (ZB D K ad ca σ sz)) (ZQi D K ad ca sz k) 0 0 (FA K ad sz) := by
  refine z_start (cc := cX4_hand) (maxL := 6) (ret := (some .int)) (own := RX4) (K := K) (ad := ad) (σ := σ) (Qc := fun sz => ZQi D K ad ca sz k) (by decide) rfl (Nat.le_of_ble_eq_true rfl) ?_
  intro p e s m args below meth c M hr hlocks hW ls hl
  have hS : va_S (FA K ad s.heap.size) s.heap s.heap [] := va_S.rf
  have hA : ∀ q : Nat, s.heap.size ≤ q → FA K ad s.heap.size q := fun q h => Or.inr h
  replace hl : lv_has ls 6 [(0, .ref (ad (0, 0, 0))), (1, .int (iN v1)), (2, .int (iN v2))] := hl
  unfold P_X4_hand at hp
  have hL45 : ∀ (f45 : Nat) (q3 : Nat) (v4 : Int) (σ : nS) (H : Heap) (locs : List Loc) (ls : Array Slot), (8, q3, 0) ∈ K → P_X4_hand_L45 K k v2 f45 q3 v4 σ → XW D (FA K ad s.heap.size) K ad (cR ca ad σ) H → va_S (FA K ad s.heap.size) s.heap H locs → lv_has ls 6 [(2, .int (iN v2)), (3, .ref (ad (8, q3, 0))), (4, .int (iN v4))] → W p l e rmX4_hand s m args below meth c H locs 0 0 (MQ below (ZQi D K ad ca s.heap.size k) args s 0 0 (FA K ad s.heap.size)) (F0 m 45 ls []) := by
    intro f45
    induction f45 with
    | zero =>
      intro q3 v4 σ H locs ls hm_q3 hp
      exact hp.elim
    | succ f45 ih45 =>
      intro q3 v4 σ H locs ls hm_q3 hp hW hS hl
      refine z_il M dX4_hand_45 hl 2 rfl ?_
      refine zv_lt M (tgt := 84) dX4_hand_47 (by decide) rfl (fun c1 => ?_) (fun c1 => ?_)
      · have hp := hp.1 c1
        refine zi_bi M (-2) dX4_hand_84 (by decide +kernel) ?_
        exact zr_i M hr hlocks ((-2), σ) rfl ⟨hp, hW⟩ hS dX4_hand_86
      · have hp := hp.2 c1
        refine z_al_n M dX4_hand_50 rfl hl 1 rfl ?_
        refine z_il M dX4_hand_51 hl 2 rfl ?_
        have hfa := hW.fa hS hA
        refine zc_VU (As := [.int (iN v4)]) (rest := []) M (w_X2_legAt hKC hm_q3 hp) (cuV M 1 u_co_X2_legAt u_ml_X4_178 u_ini_X2 u_in_X2_legAt u_se_X2_legAt (by decide +kernel) rfl rfl ⟨Nat.le_of_ble_eq_true rfl, Nat.le_of_ble_eq_true rfl⟩) (z_recv M hW hm_q3 rfl rfl) ⟨rfl, hW.weaken (fun _ _ => trivial)⟩ rfl hl rfl (Nat.le_of_ble_eq_true rfl) ⟨Nat.zero_le _, Nat.zero_le _⟩ dX4_hand_53 hS hfa (fun u H locs hw _ _ hS => ?_)
        obtain ⟨r3, σ2⟩ := u
        obtain ⟨hp, hW2⟩ := hw
        have hW := hW2.weaken hfa
        try dsimp only at hp
        rcases r3 with _ | q4
        · refine W.eq (g2 := F0 m 56 ls (.null :: [])) rfl ?_
          have hp := hp.1 rfl
          refine z_asn M [(5, .null), (2, .int (iN v2)), (3, .ref (ad (8, q3, 0))), (4, .int (iN v4))] dX4_hand_56 hl (by decide) rfl (fun ls hl => ?_)
          refine z_aln M dX4_hand_58 hl 0 rfl ?_
          refine z_ifnN M (tgt := 78) dX4_hand_60 (by decide) ?_
          obtain ⟨x5, ex5⟩ : ∃ z : Int, z = v4 + (-1) := ⟨_, rfl⟩
          have hp := hp x5 ex5
          refine z_inc M [(4, .int (iN x5)), (5, .null), (2, .int (iN v2)), (3, .ref (ad (8, q3, 0)))] x5 dX4_hand_78 hl 3 rfl ex5.symm (by decide) rfl (fun ls hl => ?_)
          refine zg M (tgt := 45) dX4_hand_81 (by decide) ?_
          exact ih45 q3 x5 σ2 _ _ _ hm_q3 hp hW hS (lv_sub hl [2, 3, 0] rfl)
        · refine W.eq (g2 := F0 m 56 ls (.ref (ad (10, q4, 0)) :: [])) rfl ?_
          obtain ⟨hm_q4, hp⟩ := hp.2 q4 rfl
          refine z_as M [(5, .ref (ad (10, q4, 0))), (2, .int (iN v2)), (3, .ref (ad (8, q3, 0))), (4, .int (iN v4))] dX4_hand_56 hl (by decide) rfl (fun ls hl => ?_)
          refine z_al M dX4_hand_58 hl 0 rfl ?_
          refine z_ifn M dX4_hand_60 ?_
          refine z_al M dX4_hand_63 hl 0 rfl ?_
          refine zg_X1_2 M u_hin1 hW hm_q4 (M.hts _ u_fl_X4_189) dX4_hand_65 ?_
          refine z_il_n M dX4_hand_68 rfl hl 1 rfl ?_
          refine zw_gt M (tgt := 78) dX4_hand_69 (by decide) rfl rfl (fun c6 => ?_) (fun c6 => ?_)
          · have hp := hp.1 c6
            obtain ⟨x7, ex7⟩ : ∃ z : Int, z = v4 + (-1) := ⟨_, rfl⟩
            have hp := hp x7 ex7
            refine z_inc M [(4, .int (iN x7)), (5, .ref (ad (10, q4, 0))), (2, .int (iN v2)), (3, .ref (ad (8, q3, 0)))] x7 dX4_hand_78 hl 3 rfl ex7.symm (by decide) rfl (fun ls hl => ?_)
            refine zg M (tgt := 45) dX4_hand_81 (by decide) ?_
            exact ih45 q3 x7 σ2 _ _ _ hm_q3 hp hW hS (lv_sub hl [2, 3, 0] rfl)
          · have hp := hp.2 c6
            refine z_al M dX4_hand_72 hl 0 rfl ?_
            refine zg_X1_0 M u_hin1 hW hm_q4 (M.hts _ u_fl_X4_182) dX4_hand_74 ?_
            exact zr_i M hr hlocks ((σ2.1 (10, q4, 0) 0), σ2) rfl ⟨hp, hW⟩ hS dX4_hand_77
  refine z_al_n M dX4_hand_0 rfl hl 0 rfl ?_
  refine z_il_n M dX4_hand_1 rfl hl 1 rfl ?_
  have hfa := hW.fa hS hA
  refine zc_VU (As := [.int (iN v1)]) (rest := []) M (w_X4_requestAt hKC  hp) (cuV M 1 u_co_X4_requestAt u_ml_X4_137 u_ini_X4 u_in_X4_requestAt u_se_X4_requestAt (by decide +kernel) rfl rfl ⟨Nat.le_of_ble_eq_true rfl, Nat.le_of_ble_eq_true rfl⟩) (z_recv M hW hKC.k0 rfl rfl) ⟨rfl, hW.weaken (fun _ _ => trivial)⟩ rfl hl rfl (Nat.le_of_ble_eq_true rfl) ⟨Nat.zero_le _, Nat.zero_le _⟩ dX4_hand_2 hS hfa (fun u H locs hw _ _ hS => ?_)
  obtain ⟨r9, σ8⟩ := u
  obtain ⟨hp, hW2⟩ := hw
  have hW := hW2.weaken hfa
  try dsimp only at hp
  rcases r9 with _ | q10
  · refine W.eq (g2 := F0 m 5 ls (.null :: [])) rfl ?_
    have hp := hp.1 rfl
    refine z_asn_n M [(3, .null), (0, .ref (ad (0, 0, 0))), (1, .int (iN v1)), (2, .int (iN v2))] dX4_hand_5 rfl hl (by decide) rfl (fun ls hl => ?_)
    refine z_aln_n M dX4_hand_6 rfl hl 0 rfl ?_
    refine z_ifnN M (tgt := 24) dX4_hand_7 (by decide) ?_
    refine zi_const M (-1) dX4_hand_24 rfl ?_
    exact zr_i M hr hlocks ((-1), σ8) rfl ⟨hp, hW⟩ hS dX4_hand_25
  · refine W.eq (g2 := F0 m 5 ls (.ref (ad (8, q10, 0)) :: [])) rfl ?_
    obtain ⟨hm_q10, hp⟩ := hp.2 q10 rfl
    refine z_as_n M [(3, .ref (ad (8, q10, 0))), (0, .ref (ad (0, 0, 0))), (1, .int (iN v1)), (2, .int (iN v2))] dX4_hand_5 rfl hl (by decide) rfl (fun ls hl => ?_)
    refine z_al_n M dX4_hand_6 rfl hl 0 rfl ?_
    refine z_ifn M dX4_hand_7 ?_
    refine z_al_n M dX4_hand_10 rfl hl 0 rfl ?_
    refine zg_X2_7 M u_hin2 hW hm_q10 (M.hts _ u_fl_X4_141) dX4_hand_11 ?_
    refine zv_eq M (tgt := 24) dX4_hand_14 (by decide) rfl (fun c11 => ?_) (fun c11 => ?_)
    · have hp := hp.1 c11
      refine zi_const M (-1) dX4_hand_24 rfl ?_
      exact zr_i M hr hlocks ((-1), σ8) rfl ⟨hp, hW⟩ hS dX4_hand_25
    · have hp := hp.2 c11
      refine z_il_n M dX4_hand_17 rfl hl 3 rfl ?_
      have hfa := hW.fa hS hA
      refine zc_SU (As := [.int (iN v2)]) (rest := []) M (w_X4_isMinute hKC  hp) (cuS M 1 u_co_X4_isMinute u_ml_X4_70 u_ini_X4 u_st_X4_isMinute (by decide +kernel) rfl rfl ⟨Nat.le_of_ble_eq_true rfl, Nat.le_of_ble_eq_true rfl⟩) ⟨rfl, hW.weaken (fun _ _ => trivial)⟩ rfl hl rfl (Nat.le_of_ble_eq_true rfl) ⟨Nat.zero_le _, Nat.zero_le _⟩ dX4_hand_18 hS hfa (fun u H locs hw _ _ hS => ?_)
      obtain ⟨r13, σ12⟩ := u
      obtain ⟨hp, hW2⟩ := hw
      have hW := hW2.weaken hfa
      try dsimp only at hp
      refine zv_ne M (tgt := 26) dX4_hand_21 (by decide) rfl (fun c14 => ?_) (fun c14 => ?_)
      · have hp := hp.1 c14
        refine z_il_n M dX4_hand_26 rfl hl 3 rfl ?_
        refine z_al_n M dX4_hand_27 rfl hl 0 rfl ?_
        have hfa := hW.fa hS hA
        refine zc_VU (As := []) (rest := [.int (iN v2)]) M (w_X2_lastEnd hKC hm_q10 hp) (cuV M 0 u_co_X2_lastEnd u_ml_X4_162 u_ini_X2 u_in_X2_lastEnd u_se_X2_lastEnd (by decide +kernel) rfl rfl ⟨Nat.le_of_ble_eq_true rfl, Nat.le_of_ble_eq_true rfl⟩) (z_recv M hW hm_q10 rfl rfl) ⟨rfl, hW.weaken (fun _ _ => trivial)⟩ rfl hl rfl (Nat.le_of_ble_eq_true rfl) ⟨Nat.zero_le _, Nat.zero_le _⟩ dX4_hand_28 hS hfa (fun u H locs hw _ _ hS => ?_)
        obtain ⟨r16, σ15⟩ := u
        obtain ⟨hp, hW2⟩ := hw
        have hW := hW2.weaken hfa
        try dsimp only at hp
        refine zw_le M (tgt := 37) dX4_hand_31 (by decide) rfl rfl (fun c17 => ?_) (fun c17 => ?_)
        · have hp := hp.1 c17
          refine z_al_n M dX4_hand_37 rfl hl 0 rfl ?_
          refine zg_X2_6 M u_hin2 hW hm_q10 (M.hts _ u_fl_X4_175) dX4_hand_38 ?_
          refine zi_const M 1 dX4_hand_41 rfl ?_
          refine zi_sub M dX4_hand_42 ?_
          refine zi_nm (fun x18 ex18 => ?_)
          have hp := hp x18 ex18
          refine z_is M [(4, .int (iN x18)), (3, .ref (ad (8, q10, 0))), (0, .ref (ad (0, 0, 0))), (1, .int (iN v1)), (2, .int (iN v2))] dX4_hand_43 hl (by decide) rfl (fun ls hl => ?_)
          obtain ⟨f19, hp⟩ := hp
          exact hL45 f19 q10 x18 σ15 _ _ _ hm_q10 hp hW hS (lv_sub hl [4, 1, 0] rfl)
        · have hp := hp.2 c17
          refine zi_bi M (-3) dX4_hand_34 (by decide +kernel) ?_
          exact zr_i M hr hlocks ((-3), σ15) rfl ⟨hp, hW⟩ hS dX4_hand_36
      · have hp := hp.2 c14
        refine zi_const M (-1) dX4_hand_24 rfl ?_
        exact zr_i M hr hlocks ((-1), σ12) rfl ⟨hp, hW⟩ hS dX4_hand_25
def P_X4_mayFail_L31 (K : List nKey) (k : Int → nS → Prop) (q0 : Nat) : Nat → Int → nS → Prop
  | 0 => fun _ _ => False
  | n + 1 => fun v4 σ =>
    ((w (σ.1 (8, q0, 0) 6) ≤ w v4 → k 1 σ) ∧ (w v4 < w (σ.1 (8, q0, 0) 6) → P_X2_legAt K σ q0 v4 (fun r3 σ2 => ((r3 = none → ∀ x5 : Int, x5 = v4 + 1 → (P_X4_mayFail_L31 K k q0 n) x5 σ2) ∧ (∀ q4 : Nat, r3 = some q4 → (10, q4, 0) ∈ K ∧ ((w (σ2.1 (10, q4, 0) 7) = 0 → ∀ x7 : Int, x7 = v4 + 1 → (P_X4_mayFail_L31 K k q0 n) x7 σ2) ∧ (w (σ2.1 (10, q4, 0) 7) ≠ 0 → k 0 σ2)))))))
def P_X4_mayFail (K : List nKey) (σ : nS) (q0 : Nat) (v1 : Int) (v2 : Int) (k : Int → nS → Prop) : Prop :=
  P_X2_legAt K σ q0 v1 (fun r9 σ8 => ((r9 = none → k 0 σ8) ∧ (∀ q10 : Nat, r9 = some q10 → (10, q10, 0) ∈ K ∧ ((w v2 < w (σ8.1 (10, q10, 0) 2) → k 0 σ8) ∧ (w (σ8.1 (10, q10, 0) 2) ≤ w v2 → ((w v2 ≤ w (σ8.1 (10, q10, 0) 6) → ∃ f13 : Nat, P_X4_mayFail_L31 K k q0 f13 v1 σ8) ∧ (w (σ8.1 (10, q10, 0) 6) < w v2 → k 0 σ8)))))))
def rmX4_mayFail : Room := { frames := 1, cells := 0, slots := 0, locals := 21 }
set_option maxHeartbeats 4000000 in
set_option maxRecDepth 100000 in
theorem w_X4_mayFail {l : Launch} {D : va_G} {ca : Nat → ClassId} {K : List nKey} {ad : nKey → Nat} {σ : nS} {sz : Nat} (hKC : KC K) {q0 : Nat} {v1 : Int} {v2 : Int} (hm_q0 : (8, q0, 0) ∈ K) {k : Int → nS → Prop} (hp : P_X4_mayFail K σ q0 v1 v2 k) : Met l yX4_mayFail (Cond.code yX4_mayFail cX4_mayFail 6 (some .boolean) :: UW) rmX4_mayFail (ZP D ca [.ref (ad (8, q0, 0)), .int (iN v1), .int (iN v2)] (ZB D K ad ca σ sz)) (ZQi D K ad ca sz k) 0 0 (FA K ad sz) := by
  refine z_start (cc := cX4_mayFail) (maxL := 6) (ret := (some .boolean)) (own := RX4) (K := K) (ad := ad) (σ := σ) (Qc := fun sz => ZQi D K ad ca sz k) (by decide) rfl (Nat.le_of_ble_eq_true rfl) ?_
  intro p e s m args below meth c M hr hlocks hW ls hl
  have hS : va_S (FA K ad s.heap.size) s.heap s.heap [] := va_S.rf
  have hA : ∀ q : Nat, s.heap.size ≤ q → FA K ad s.heap.size q := fun q h => Or.inr h
  replace hl : lv_has ls 6 [(0, .ref (ad (8, q0, 0))), (1, .int (iN v1)), (2, .int (iN v2))] := hl
  unfold P_X4_mayFail at hp
  have hL31 : ∀ (f31 : Nat) (v4 : Int) (σ : nS) (H : Heap) (locs : List Loc) (ls : Array Slot), P_X4_mayFail_L31 K k q0 f31 v4 σ → XW D (FA K ad s.heap.size) K ad (cR ca ad σ) H → va_S (FA K ad s.heap.size) s.heap H locs → lv_has ls 6 [(0, .ref (ad (8, q0, 0))), (4, .int (iN v4))] → W p l e rmX4_mayFail s m args below meth c H locs 0 0 (MQ below (ZQi D K ad ca s.heap.size k) args s 0 0 (FA K ad s.heap.size)) (F0 m 31 ls []) := by
    intro f31
    induction f31 with
    | zero =>
      intro v4 σ H locs ls  hp
      exact hp.elim
    | succ f31 ih31 =>
      intro v4 σ H locs ls  hp hW hS hl
      refine z_il M dX4_mayFail_31 hl 1 rfl ?_
      refine z_al_n M dX4_mayFail_33 rfl hl 0 rfl ?_
      refine zg_X2_6 M u_hin2 hW hm_q0 (M.hts _ u_fl_X4_175) dX4_mayFail_34 ?_
      refine zw_ge M (tgt := 69) dX4_mayFail_37 (by decide) rfl rfl (fun c1 => ?_) (fun c1 => ?_)
      · have hp := hp.1 c1
        refine zi_const M 1 dX4_mayFail_69 rfl ?_
        exact zr_z M hr hlocks (1, σ) (by decide) rfl ⟨hp, hW⟩ hS dX4_mayFail_70
      · have hp := hp.2 c1
        refine z_al_n M dX4_mayFail_40 rfl hl 0 rfl ?_
        refine z_il M dX4_mayFail_41 hl 1 rfl ?_
        have hfa := hW.fa hS hA
        refine zc_VU (As := [.int (iN v4)]) (rest := []) M (w_X2_legAt hKC hm_q0 hp) (cuV M 1 u_co_X2_legAt u_ml_X4_178 u_ini_X2 u_in_X2_legAt u_se_X2_legAt (by decide +kernel) rfl rfl ⟨Nat.le_of_ble_eq_true rfl, Nat.le_of_ble_eq_true rfl⟩) (z_recv M hW hm_q0 rfl rfl) ⟨rfl, hW.weaken (fun _ _ => trivial)⟩ rfl hl rfl (Nat.le_of_ble_eq_true rfl) ⟨Nat.zero_le _, Nat.zero_le _⟩ dX4_mayFail_43 hS hfa (fun u H locs hw _ _ hS => ?_)
        obtain ⟨r3, σ2⟩ := u
        obtain ⟨hp, hW2⟩ := hw
        have hW := hW2.weaken hfa
        try dsimp only at hp
        rcases r3 with _ | q4
        · refine W.eq (g2 := F0 m 46 ls (.null :: [])) rfl ?_
          have hp := hp.1 rfl
          refine z_asn M [(5, .null), (0, .ref (ad (8, q0, 0))), (4, .int (iN v4))] dX4_mayFail_46 hl (by decide) rfl (fun ls hl => ?_)
          refine z_aln M dX4_mayFail_48 hl 0 rfl ?_
          refine z_ifnN M (tgt := 63) dX4_mayFail_50 (by decide) ?_
          obtain ⟨x5, ex5⟩ : ∃ z : Int, z = v4 + 1 := ⟨_, rfl⟩
          have hp := hp x5 ex5
          refine z_inc M [(4, .int (iN x5)), (5, .null), (0, .ref (ad (8, q0, 0)))] x5 dX4_mayFail_63 hl 2 rfl ex5.symm (by decide) rfl (fun ls hl => ?_)
          refine zg M (tgt := 31) dX4_mayFail_66 (by decide) ?_
          exact ih31 x5 σ2 _ _ _  hp hW hS (lv_sub hl [2, 0] rfl)
        · refine W.eq (g2 := F0 m 46 ls (.ref (ad (10, q4, 0)) :: [])) rfl ?_
          obtain ⟨hm_q4, hp⟩ := hp.2 q4 rfl
          refine z_as M [(5, .ref (ad (10, q4, 0))), (0, .ref (ad (8, q0, 0))), (4, .int (iN v4))] dX4_mayFail_46 hl (by decide) rfl (fun ls hl => ?_)
          refine z_al M dX4_mayFail_48 hl 0 rfl ?_
          refine z_ifn M dX4_mayFail_50 ?_
          refine z_al M dX4_mayFail_53 hl 0 rfl ?_
          refine zg_X1_7 M u_hin1 hW hm_q4 (M.hts _ u_fl_X4_195) dX4_mayFail_55 ?_
          refine zv_eq M (tgt := 63) dX4_mayFail_58 (by decide) rfl (fun c6 => ?_) (fun c6 => ?_)
          · have hp := hp.1 c6
            obtain ⟨x7, ex7⟩ : ∃ z : Int, z = v4 + 1 := ⟨_, rfl⟩
            have hp := hp x7 ex7
            refine z_inc M [(4, .int (iN x7)), (5, .ref (ad (10, q4, 0))), (0, .ref (ad (8, q0, 0)))] x7 dX4_mayFail_63 hl 2 rfl ex7.symm (by decide) rfl (fun ls hl => ?_)
            refine zg M (tgt := 31) dX4_mayFail_66 (by decide) ?_
            exact ih31 x7 σ2 _ _ _  hp hW hS (lv_sub hl [2, 0] rfl)
          · have hp := hp.2 c6
            refine zi_const M 0 dX4_mayFail_61 rfl ?_
            exact zr_z M hr hlocks (0, σ2) (by decide) rfl ⟨hp, hW⟩ hS dX4_mayFail_62
  refine z_al_n M dX4_mayFail_0 rfl hl 0 rfl ?_
  refine z_il_n M dX4_mayFail_1 rfl hl 1 rfl ?_
  have hfa := hW.fa hS hA
  refine zc_VU (As := [.int (iN v1)]) (rest := []) M (w_X2_legAt hKC hm_q0 hp) (cuV M 1 u_co_X2_legAt u_ml_X4_178 u_ini_X2 u_in_X2_legAt u_se_X2_legAt (by decide +kernel) rfl rfl ⟨Nat.le_of_ble_eq_true rfl, Nat.le_of_ble_eq_true rfl⟩) (z_recv M hW hm_q0 rfl rfl) ⟨rfl, hW.weaken (fun _ _ => trivial)⟩ rfl hl rfl (Nat.le_of_ble_eq_true rfl) ⟨Nat.zero_le _, Nat.zero_le _⟩ dX4_mayFail_2 hS hfa (fun u H locs hw _ _ hS => ?_)
  obtain ⟨r9, σ8⟩ := u
  obtain ⟨hp, hW2⟩ := hw
  have hW := hW2.weaken hfa
  try dsimp only at hp
  rcases r9 with _ | q10
  · refine W.eq (g2 := F0 m 5 ls (.null :: [])) rfl ?_
    have hp := hp.1 rfl
    refine z_asn_n M [(3, .null), (0, .ref (ad (8, q0, 0))), (1, .int (iN v1)), (2, .int (iN v2))] dX4_mayFail_5 rfl hl (by decide) rfl (fun ls hl => ?_)
    refine z_aln_n M dX4_mayFail_6 rfl hl 0 rfl ?_
    refine z_ifnN M (tgt := 26) dX4_mayFail_7 (by decide) ?_
    refine zi_const M 0 dX4_mayFail_26 rfl ?_
    exact zr_z M hr hlocks (0, σ8) (by decide) rfl ⟨hp, hW⟩ hS dX4_mayFail_27
  · refine W.eq (g2 := F0 m 5 ls (.ref (ad (10, q10, 0)) :: [])) rfl ?_
    obtain ⟨hm_q10, hp⟩ := hp.2 q10 rfl
    refine z_as_n M [(3, .ref (ad (10, q10, 0))), (0, .ref (ad (8, q0, 0))), (1, .int (iN v1)), (2, .int (iN v2))] dX4_mayFail_5 rfl hl (by decide) rfl (fun ls hl => ?_)
    refine z_al_n M dX4_mayFail_6 rfl hl 0 rfl ?_
    refine z_ifn M dX4_mayFail_7 ?_
    refine z_il_n M dX4_mayFail_10 rfl hl 3 rfl ?_
    refine z_al_n M dX4_mayFail_11 rfl hl 0 rfl ?_
    refine zg_X1_2 M u_hin1 hW hm_q10 (M.hts _ u_fl_X4_189) dX4_mayFail_12 ?_
    refine zw_lt M (tgt := 26) dX4_mayFail_15 (by decide) rfl rfl (fun c11 => ?_) (fun c11 => ?_)
    · have hp := hp.1 c11
      refine zi_const M 0 dX4_mayFail_26 rfl ?_
      exact zr_z M hr hlocks (0, σ8) (by decide) rfl ⟨hp, hW⟩ hS dX4_mayFail_27
    · have hp := hp.2 c11
      refine z_il_n M dX4_mayFail_18 rfl hl 3 rfl ?_
      refine z_al_n M dX4_mayFail_19 rfl hl 0 rfl ?_
      refine zg_X1_6 M u_hin1 hW hm_q10 (M.hts _ u_fl_X4_192) dX4_mayFail_20 ?_
      refine zw_le M (tgt := 28) dX4_mayFail_23 (by decide) rfl rfl (fun c12 => ?_) (fun c12 => ?_)
      · have hp := hp.1 c12
        refine z_il_n M dX4_mayFail_28 rfl hl 2 rfl ?_
        refine z_is M [(4, .int (iN v1)), (3, .ref (ad (10, q10, 0))), (0, .ref (ad (8, q0, 0))), (1, .int (iN v1)), (2, .int (iN v2))] dX4_mayFail_29 hl (by decide) rfl (fun ls hl => ?_)
        obtain ⟨f13, hp⟩ := hp
        exact hL31 f13 v1 σ8 _ _ _  hp hW hS (lv_sub hl [2, 0] rfl)
      · have hp := hp.2 c12
        refine zi_const M 0 dX4_mayFail_26 rfl ?_
        exact zr_z M hr hlocks (0, σ8) (by decide) rfl ⟨hp, hW⟩ hS dX4_mayFail_27
