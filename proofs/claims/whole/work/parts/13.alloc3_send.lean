def P_X4_send (K : List nKey) (σ : nS) (v1 : Int) (k : Int → nS → List nKey → Prop) : Prop :=
  P_X4_requestAt K σ v1 (fun r2 σ1 => ((r2 = none → k (-1) σ1 K) ∧ (∀ q3 : Nat, r2 = some q3 → (8, q3, 0) ∈ K ∧ ((w (σ1.1 (8, q3, 0) 7) ≠ 0 → k (-1) σ1 K) ∧ (w (σ1.1 (8, q3, 0) 7) = 0 → P_X4_findChain K σ1 q3 (σ1.1 (8, q3, 0) 1) (σ1.1 (8, q3, 0) 3) (fun r6 σ5 => ((w r6 ≠ 0 → ∀ σ8 : nS, σ8 = s1 σ5 (8, q3, 0) 7 1 → ∀ σ9 : nS, σ9 = s1 σ8 (0, 0, 0) 9 v1 → P_X4_rideChosen K σ9 q3 (fun σ10 K2 => ∀ K : List nKey, K = K2 → P_X2_lastEnd K σ10 q3 (fun r12 σ11 => k r12 σ11 K))) ∧ (w r6 = 0 → k (-1) σ5 K))))))))
def rmX4_send : Room := { frames := 15, cells := 3, slots := 24, locals := 358 }
set_option maxHeartbeats 4000000 in
set_option maxRecDepth 100000 in
theorem w_X4_send {l : Launch} {D : va_G} {ca : Nat → ClassId} {K0 : List nKey} {ad0 : nKey → Nat} {σ : nS} {sz : Nat} (hKC0 : KC K0) (hKS0 : KS K0) {v1 : Int}  {k : Int → nS → List nKey → Prop} (hp : P_X4_send K0 σ v1 k) : Met l yX4_send (Cond.code yX4_send cX4_send 3 (some .int) :: UW) rmX4_send (ZP D ca [.ref (ad0 (0, 0, 0)), .int (iN v1)] (ZB D K0 ad0 ca σ sz)) (ZAi D K0 ad0 ca sz k) 3 24 (FA K0 ad0 sz) := by
  refine z_start (cc := cX4_send) (maxL := 3) (ret := (some .int)) (own := RX4) (K := K0) (ad := ad0) (σ := σ) (Qc := fun sz => ZAi D K0 ad0 ca sz k) (by decide) rfl (Nat.le_of_ble_eq_true rfl) ?_
  intro p e s m args below meth c M hr hlocks hW ls hl
  have hS : va_S (FA K0 ad0 s.heap.size) s.heap s.heap [] := va_S.rf
  have hA : ∀ q : Nat, s.heap.size ≤ q → FA K0 ad0 s.heap.size q := fun q h => Or.inr h
  unfold P_X4_send at hp
  obtain ⟨K, eK⟩ : ∃ z, z = K0 := ⟨_, rfl⟩
  obtain ⟨ad, ea⟩ : ∃ z, z = ad0 := ⟨_, rfl⟩
  have hx : ∀ κ, κ ∈ K0 → κ ∈ K ∧ ad κ = ad0 κ := fun κ h => ⟨by rw [eK]; exact h, by rw [ea]⟩
  have hKC : KC K := by rw [eK]; exact hKC0
  have hKS : KS K := by rw [eK]; exact hKS0
  replace hW : XW D (FA K0 ad0 s.heap.size) K ad (cR ca ad σ) s.heap := by rw [eK, ea]; exact hW
  replace hl : lv_has ls 3 [(0, .ref (ad (0, 0, 0))), (1, .int (iN v1))] := by rw [ea]; exact hl
  rw [← eK] at hp
  clear eK ea
  refine z_al_n M dX4_send_0 rfl hl 0 rfl ?_
  refine z_il_n M dX4_send_1 rfl hl 1 rfl ?_
  have hfa := hW.fa hS hA
  refine zc_VU (As := [.int (iN v1)]) (rest := []) M (w_X4_requestAt hKC  hp) (cuV M 1 u_co_X4_requestAt u_ml_X4_137 u_ini_X4 u_in_X4_requestAt u_se_X4_requestAt (by decide +kernel) rfl rfl ⟨Nat.le_of_ble_eq_true rfl, Nat.le_of_ble_eq_true rfl⟩) (z_recv M hW hKC.k0 rfl rfl) ⟨rfl, hW.weaken (fun _ _ => trivial)⟩ rfl hl rfl (Nat.le_of_ble_eq_true rfl) ⟨Nat.le_of_ble_eq_true rfl, Nat.le_of_ble_eq_true rfl⟩ dX4_send_2 hS hfa (fun u H locs hw _ _ hS => ?_)
  obtain ⟨r2, σ1⟩ := u
  obtain ⟨hp, hW2⟩ := hw
  have hW := hW2.weaken hfa
  try dsimp only at hp
  rcases r2 with _ | q3
  · refine W.eq (g2 := F0 m 5 ls (.null :: [])) rfl ?_
    have hp := hp.1 rfl
    refine z_asn_n M [(2, .null), (0, .ref (ad (0, 0, 0))), (1, .int (iN v1))] dX4_send_5 rfl hl (by decide) rfl (fun ls hl => ?_)
    refine z_aln_n M dX4_send_6 rfl hl 0 rfl ?_
    refine z_ifnN M (tgt := 33) dX4_send_7 (by decide) ?_
    refine zi_const M (-1) dX4_send_33 rfl ?_
    refine W.widen (k := 3) (n := 24) (Nat.le_of_ble_eq_true rfl) (Nat.le_of_ble_eq_true rfl) ?_
    exact zr_i M hr hlocks ((-1), σ1, K, ad) rfl ⟨hp, hx, hKC, hKS, hW⟩ hS dX4_send_34
  · refine W.eq (g2 := F0 m 5 ls (.ref (ad (8, q3, 0)) :: [])) rfl ?_
    obtain ⟨hm_q3, hp⟩ := hp.2 q3 rfl
    refine z_as_n M [(2, .ref (ad (8, q3, 0))), (0, .ref (ad (0, 0, 0))), (1, .int (iN v1))] dX4_send_5 rfl hl (by decide) rfl (fun ls hl => ?_)
    refine z_al_n M dX4_send_6 rfl hl 0 rfl ?_
    refine z_ifn M dX4_send_7 ?_
    refine z_al_n M dX4_send_10 rfl hl 0 rfl ?_
    refine zg_X2_7 M u_hin2 hW hm_q3 (M.hts _ u_fl_X4_141) dX4_send_11 ?_
    refine zv_ne M (tgt := 33) dX4_send_14 (by decide) rfl (fun c4 => ?_) (fun c4 => ?_)
    · have hp := hp.1 c4
      refine zi_const M (-1) dX4_send_33 rfl ?_
      refine W.widen (k := 3) (n := 24) (Nat.le_of_ble_eq_true rfl) (Nat.le_of_ble_eq_true rfl) ?_
      exact zr_i M hr hlocks ((-1), σ1, K, ad) rfl ⟨hp, hx, hKC, hKS, hW⟩ hS dX4_send_34
    · have hp := hp.2 c4
      refine z_al_n M dX4_send_17 rfl hl 1 rfl ?_
      refine z_al_n M dX4_send_18 rfl hl 0 rfl ?_
      refine z_al_n M dX4_send_19 rfl hl 0 rfl ?_
      refine zg_X2_1 M u_hin2 hW hm_q3 (M.hts _ u_fl_X4_144) dX4_send_20 ?_
      refine z_al_n M dX4_send_23 rfl hl 0 rfl ?_
      refine zg_X2_3 M u_hin2 hW hm_q3 (M.hts _ u_fl_X4_147) dX4_send_24 ?_
      have hfa := hW.fa hS hA
      refine zc_VU (As := [.ref (ad (8, q3, 0)), .int (iN (σ1.1 (8, q3, 0) 1)), .int (iN (σ1.1 (8, q3, 0) 3))]) (rest := []) M (w_X4_findChain hKC hm_q3 hp) (cuV M 3 u_co_X4_findChain u_ml_X4_150 u_ini_X4 u_in_X4_findChain u_se_X4_findChain (by decide +kernel) rfl rfl ⟨Nat.le_of_ble_eq_true rfl, Nat.le_of_ble_eq_true rfl⟩) (z_recv M hW hKC.k0 rfl rfl) ⟨rfl, hW.weaken (fun _ _ => trivial)⟩ rfl hl rfl (Nat.le_of_ble_eq_true rfl) ⟨Nat.le_of_ble_eq_true rfl, Nat.le_of_ble_eq_true rfl⟩ dX4_send_27 hS hfa (fun u H locs hw _ _ hS => ?_)
      obtain ⟨r6, σ5⟩ := u
      obtain ⟨hp, hW2⟩ := hw
      have hW := hW2.weaken hfa
      try dsimp only at hp
      refine zv_ne M (tgt := 35) dX4_send_30 (by decide) rfl (fun c7 => ?_) (fun c7 => ?_)
      · have hp := hp.1 c7
        refine z_al_n M dX4_send_35 rfl hl 0 rfl ?_
        refine zi_const M 1 dX4_send_36 rfl ?_
        obtain ⟨σ8, eσ8⟩ : ∃ z : nS, z = s1 σ5 (8, q3, 0) 7 1 := ⟨_, rfl⟩
        have hp := hp σ8 eσ8
        refine zp_X2_7 (v := 1) M u_hin2 hW hS hm_q3 (M.hts _ u_fl_X4_141) (hv := by decide) dX4_send_37 (fun H locs hW hS => ?_)
        rw [← eσ8] at hW
        refine z_al_n M dX4_send_40 rfl hl 1 rfl ?_
        refine z_il_n M dX4_send_41 rfl hl 2 rfl ?_
        obtain ⟨σ9, eσ9⟩ : ∃ z : nS, z = s1 σ8 (0, 0, 0) 9 v1 := ⟨_, rfl⟩
        have hp := hp σ9 eσ9
        refine zp_X4_9 (v := v1) M u_hin4 hW hS hKC.k0 (M.hts _ u_fl_X4_48) dX4_send_42 (fun H locs hW hS => ?_)
        rw [← eσ9] at hW
        refine z_al_n M dX4_send_45 rfl hl 1 rfl ?_
        refine z_al_n M dX4_send_46 rfl hl 0 rfl ?_
        have hfa := hW.fa hS hA
        refine zc_VU (As := [.ref (ad (8, q3, 0))]) (rest := []) M (w_X4_rideChosen hKC hKS hm_q3 hp) (cuV M 1 u_co_X4_rideChosen u_ml_X4_158 u_ini_X4 u_in_X4_rideChosen u_se_X4_rideChosen (by decide +kernel) rfl rfl ⟨Nat.le_of_ble_eq_true rfl, Nat.le_of_ble_eq_true rfl⟩) (z_recv M hW hKC.k0 rfl rfl) ⟨rfl, hW.weaken (fun _ _ => trivial)⟩ rfl hl rfl (Nat.le_of_ble_eq_true rfl) ⟨Nat.le_of_ble_eq_true rfl, Nat.le_of_ble_eq_true rfl⟩ dX4_send_47 hS hfa (fun u H locs hw _ _ hS => ?_)
        obtain ⟨_, σ10, K2, ad2⟩ := u
        obtain ⟨hp, hxn, hKC2, hKS2, hW2⟩ := hw
        dsimp only at hp hxn hKC2 hKS2 hW2
        replace hW2 := hW2.weaken hfa
        replace hp := hp K2 rfl
        refine W.eq (g2 := F0 m 50 ls []) rfl ?_
        have a0 := (hxn _ hm_q3).2
        have a1 := (hxn _ hKC.k0).2
        replace hm_q3 := (hxn _ hm_q3).1
        replace hx : ∀ κ, κ ∈ K0 → κ ∈ K2 ∧ ad2 κ = ad0 κ := fun κ h => ⟨(hxn κ (hx κ h).1).1, (hxn κ (hx κ h).1).2.trans (hx κ h).2⟩
        replace hKC := hKC2
        replace hKS := hKS2
        replace hW := hW2
        replace hl : lv_has ls 3 [(2, .ref (ad2 (8, q3, 0))), (0, .ref (ad2 (0, 0, 0))), (1, .int (iN v1))] := by rw [a0, a1]; exact hl
        clear hxn
        clear a0
        clear a1
        obtain ⟨K, rfl⟩ : ∃ z, z = K2 := ⟨_, rfl⟩
        obtain ⟨ad, rfl⟩ : ∃ z, z = ad2 := ⟨_, rfl⟩
        refine z_al_n M dX4_send_50 rfl hl 0 rfl ?_
        have hfa := hW.fa hS hA
        refine zc_VU (As := []) (rest := []) M (w_X2_lastEnd hKC hm_q3 hp) (cuV M 0 u_co_X2_lastEnd u_ml_X4_162 u_ini_X2 u_in_X2_lastEnd u_se_X2_lastEnd (by decide +kernel) rfl rfl ⟨Nat.le_of_ble_eq_true rfl, Nat.le_of_ble_eq_true rfl⟩) (z_recv M hW hm_q3 rfl rfl) ⟨rfl, hW.weaken (fun _ _ => trivial)⟩ rfl hl rfl (Nat.le_of_ble_eq_true rfl) ⟨Nat.le_of_ble_eq_true rfl, Nat.le_of_ble_eq_true rfl⟩ dX4_send_51 hS hfa (fun u H locs hw _ _ hS => ?_)
        obtain ⟨r12, σ11⟩ := u
        obtain ⟨hp, hW2⟩ := hw
        have hW := hW2.weaken hfa
        try dsimp only at hp
        refine W.widen (k := 3) (n := 24) (Nat.le_of_ble_eq_true rfl) (Nat.le_of_ble_eq_true rfl) ?_
        exact zr_i M hr hlocks (r12, σ11, K, ad) rfl ⟨hp, hx, hKC, hKS, hW⟩ hS dX4_send_54
      · have hp := hp.2 c7
        refine zi_const M (-1) dX4_send_33 rfl ?_
        refine W.widen (k := 3) (n := 24) (Nat.le_of_ble_eq_true rfl) (Nat.le_of_ble_eq_true rfl) ?_
        exact zr_i M hr hlocks ((-1), σ5, K, ad) rfl ⟨hp, hx, hKC, hKS, hW⟩ hS dX4_send_34
