def P_X4_fail (K : List nKey) (σ : nS) (v1 : Int) (v2 : Int) (v3 : Int) (k : Int → nS → List nKey → Prop) : Prop :=
  P_X4_requestAt K σ v1 (fun r2 σ1 => ((r2 = none → k (-1) σ1 K) ∧ (∀ q3 : Nat, r2 = some q3 → (8, q3, 0) ∈ K ∧ ((w v1 ≠ w (σ1.1 (0, 0, 0) 9) → k (-1) σ1 K) ∧ (w v1 = w (σ1.1 (0, 0, 0) 9) → P_X4_mayFail K σ1 q3 v2 v3 (fun r6 σ5 => ((w r6 ≠ 0 → P_X2_legAt K σ5 q3 v2 (fun r9 σ8 => ((r9 = none → k (-1) σ8 K) ∧ (∀ q10 : Nat, r9 = some q10 → (10, q10, 0) ∈ K ∧ P_X4_dropLegsBehind K σ8 q3 v2 (fun σ11 => P_X4_failLeg K σ11 q10 v3 (fun σ12 => P_X4_findChain K σ12 q3 (σ12.1 (10, q10, 0) 1) v3 (fun r14 σ13 => ((w r14 ≠ 0 → P_X4_rideChosen K σ13 q3 (fun σ16 K2 => ∀ K : List nKey, K = K2 → P_X2_lastEnd K σ16 q3 (fun r18 σ17 => k r18 σ17 K))) ∧ (w r14 = 0 → ∀ σ19 : nS, σ19 = s1 σ13 (8, q3, 0) 8 1 → k (-2) σ19 K))))))))) ∧ (w r6 = 0 → k (-1) σ5 K))))))))
def rmX4_fail : Room := { frames := 15, cells := 3, slots := 24, locals := 358 }
set_option maxHeartbeats 4000000 in
set_option maxRecDepth 100000 in
theorem w_X4_fail {l : Launch} {D : va_G} {ca : Nat → ClassId} {K0 : List nKey} {ad0 : nKey → Nat} {σ : nS} {sz : Nat} (hKC0 : KC K0) (hKS0 : KS K0) {v1 : Int} {v2 : Int} {v3 : Int}  {k : Int → nS → List nKey → Prop} (hp : P_X4_fail K0 σ v1 v2 v3 k) : Met l yX4_fail (Cond.code yX4_fail cX4_fail 6 (some .int) :: UW) rmX4_fail (ZP D ca [.ref (ad0 (0, 0, 0)), .int (iN v1), .int (iN v2), .int (iN v3)] (ZB D K0 ad0 ca σ sz)) (ZAi D K0 ad0 ca sz k) 3 24 (FA K0 ad0 sz) := by
  refine z_start (cc := cX4_fail) (maxL := 6) (ret := (some .int)) (own := RX4) (K := K0) (ad := ad0) (σ := σ) (Qc := fun sz => ZAi D K0 ad0 ca sz k) (by decide) rfl (Nat.le_of_ble_eq_true rfl) ?_
  intro p e s m args below meth c M hr hlocks hW ls hl
  have hS : va_S (FA K0 ad0 s.heap.size) s.heap s.heap [] := va_S.rf
  have hA : ∀ q : Nat, s.heap.size ≤ q → FA K0 ad0 s.heap.size q := fun q h => Or.inr h
  unfold P_X4_fail at hp
  obtain ⟨K, eK⟩ : ∃ z, z = K0 := ⟨_, rfl⟩
  obtain ⟨ad, ea⟩ : ∃ z, z = ad0 := ⟨_, rfl⟩
  have hx : ∀ κ, κ ∈ K0 → κ ∈ K ∧ ad κ = ad0 κ := fun κ h => ⟨by rw [eK]; exact h, by rw [ea]⟩
  have hKC : KC K := by rw [eK]; exact hKC0
  have hKS : KS K := by rw [eK]; exact hKS0
  replace hW : XW D (FA K0 ad0 s.heap.size) K ad (cR ca ad σ) s.heap := by rw [eK, ea]; exact hW
  replace hl : lv_has ls 6 [(0, .ref (ad (0, 0, 0))), (1, .int (iN v1)), (2, .int (iN v2)), (3, .int (iN v3))] := by rw [ea]; exact hl
  rw [← eK] at hp
  clear eK ea
  refine z_al_n M dX4_fail_0 rfl hl 0 rfl ?_
  refine z_il_n M dX4_fail_1 rfl hl 1 rfl ?_
  have hfa := hW.fa hS hA
  refine zc_VU (As := [.int (iN v1)]) (rest := []) M (w_X4_requestAt hKC  hp) (cuV M 1 u_co_X4_requestAt u_ml_X4_137 u_ini_X4 u_in_X4_requestAt u_se_X4_requestAt (by decide +kernel) rfl rfl ⟨Nat.le_of_ble_eq_true rfl, Nat.le_of_ble_eq_true rfl⟩) (z_recv M hW hKC.k0 rfl rfl) ⟨rfl, hW.weaken (fun _ _ => trivial)⟩ rfl hl rfl (Nat.le_of_ble_eq_true rfl) ⟨Nat.le_of_ble_eq_true rfl, Nat.le_of_ble_eq_true rfl⟩ dX4_fail_2 hS hfa (fun u H locs hw _ _ hS => ?_)
  obtain ⟨r2, σ1⟩ := u
  obtain ⟨hp, hW2⟩ := hw
  have hW := hW2.weaken hfa
  try dsimp only at hp
  rcases r2 with _ | q3
  · refine W.eq (g2 := F0 m 5 ls (.null :: [])) rfl ?_
    have hp := hp.1 rfl
    refine z_asn M [(4, .null), (0, .ref (ad (0, 0, 0))), (1, .int (iN v1)), (2, .int (iN v2)), (3, .int (iN v3))] dX4_fail_5 hl (by decide) rfl (fun ls hl => ?_)
    refine z_aln M dX4_fail_7 hl 0 rfl ?_
    refine z_ifnN M (tgt := 30) dX4_fail_9 (by decide) ?_
    refine zi_const M (-1) dX4_fail_30 rfl ?_
    refine W.widen (k := 3) (n := 24) (Nat.le_of_ble_eq_true rfl) (Nat.le_of_ble_eq_true rfl) ?_
    exact zr_i M hr hlocks ((-1), σ1, K, ad) rfl ⟨hp, hx, hKC, hKS, hW⟩ hS dX4_fail_31
  · refine W.eq (g2 := F0 m 5 ls (.ref (ad (8, q3, 0)) :: [])) rfl ?_
    obtain ⟨hm_q3, hp⟩ := hp.2 q3 rfl
    refine z_as M [(4, .ref (ad (8, q3, 0))), (0, .ref (ad (0, 0, 0))), (1, .int (iN v1)), (2, .int (iN v2)), (3, .int (iN v3))] dX4_fail_5 hl (by decide) rfl (fun ls hl => ?_)
    refine z_al M dX4_fail_7 hl 0 rfl ?_
    refine z_ifn M dX4_fail_9 ?_
    refine z_il_n M dX4_fail_12 rfl hl 2 rfl ?_
    refine z_al_n M dX4_fail_13 rfl hl 1 rfl ?_
    refine zg_X4_9 M u_hin4 hW hKC.k0 (M.hts _ u_fl_X4_48) dX4_fail_14 ?_
    refine zw_ne M (tgt := 30) dX4_fail_17 (by decide) rfl rfl (fun c4 => ?_) (fun c4 => ?_)
    · have hp := hp.1 c4
      refine zi_const M (-1) dX4_fail_30 rfl ?_
      refine W.widen (k := 3) (n := 24) (Nat.le_of_ble_eq_true rfl) (Nat.le_of_ble_eq_true rfl) ?_
      exact zr_i M hr hlocks ((-1), σ1, K, ad) rfl ⟨hp, hx, hKC, hKS, hW⟩ hS dX4_fail_31
    · have hp := hp.2 c4
      refine z_al M dX4_fail_20 hl 0 rfl ?_
      refine z_il_n M dX4_fail_22 rfl hl 3 rfl ?_
      refine z_il_n M dX4_fail_23 rfl hl 4 rfl ?_
      have hfa := hW.fa hS hA
      refine zc_SU (As := [.ref (ad (8, q3, 0)), .int (iN v2), .int (iN v3)]) (rest := []) M (w_X4_mayFail hKC hm_q3 hp) (cuS M 3 u_co_X4_mayFail u_ml_X4_196 u_ini_X4 u_st_X4_mayFail (by decide +kernel) rfl rfl ⟨Nat.le_of_ble_eq_true rfl, Nat.le_of_ble_eq_true rfl⟩) ⟨rfl, hW.weaken (fun _ _ => trivial)⟩ rfl hl rfl (Nat.le_of_ble_eq_true rfl) ⟨Nat.le_of_ble_eq_true rfl, Nat.le_of_ble_eq_true rfl⟩ dX4_fail_24 hS hfa (fun u H locs hw _ _ hS => ?_)
      obtain ⟨r6, σ5⟩ := u
      obtain ⟨hp, hW2⟩ := hw
      have hW := hW2.weaken hfa
      try dsimp only at hp
      refine zv_ne M (tgt := 32) dX4_fail_27 (by decide) rfl (fun c7 => ?_) (fun c7 => ?_)
      · have hp := hp.1 c7
        refine z_al M dX4_fail_32 hl 0 rfl ?_
        refine z_il_n M dX4_fail_34 rfl hl 3 rfl ?_
        have hfa := hW.fa hS hA
        refine zc_VU (As := [.int (iN v2)]) (rest := []) M (w_X2_legAt hKC hm_q3 hp) (cuV M 1 u_co_X2_legAt u_ml_X4_178 u_ini_X2 u_in_X2_legAt u_se_X2_legAt (by decide +kernel) rfl rfl ⟨Nat.le_of_ble_eq_true rfl, Nat.le_of_ble_eq_true rfl⟩) (z_recv M hW hm_q3 rfl rfl) ⟨rfl, hW.weaken (fun _ _ => trivial)⟩ rfl hl rfl (Nat.le_of_ble_eq_true rfl) ⟨Nat.le_of_ble_eq_true rfl, Nat.le_of_ble_eq_true rfl⟩ dX4_fail_35 hS hfa (fun u H locs hw _ _ hS => ?_)
        obtain ⟨r9, σ8⟩ := u
        obtain ⟨hp, hW2⟩ := hw
        have hW := hW2.weaken hfa
        try dsimp only at hp
        rcases r9 with _ | q10
        · refine W.eq (g2 := F0 m 38 ls (.null :: [])) rfl ?_
          have hp := hp.1 rfl
          refine z_asn M [(5, .null), (4, .ref (ad (8, q3, 0))), (0, .ref (ad (0, 0, 0))), (1, .int (iN v1)), (2, .int (iN v2)), (3, .int (iN v3))] dX4_fail_38 hl (by decide) rfl (fun ls hl => ?_)
          refine z_aln M dX4_fail_40 hl 0 rfl ?_
          refine z_ifnnN M dX4_fail_42 ?_
          refine zi_const M (-1) dX4_fail_45 rfl ?_
          refine W.widen (k := 3) (n := 24) (Nat.le_of_ble_eq_true rfl) (Nat.le_of_ble_eq_true rfl) ?_
          exact zr_i M hr hlocks ((-1), σ8, K, ad) rfl ⟨hp, hx, hKC, hKS, hW⟩ hS dX4_fail_46
        · refine W.eq (g2 := F0 m 38 ls (.ref (ad (10, q10, 0)) :: [])) rfl ?_
          obtain ⟨hm_q10, hp⟩ := hp.2 q10 rfl
          refine z_as M [(5, .ref (ad (10, q10, 0))), (4, .ref (ad (8, q3, 0))), (0, .ref (ad (0, 0, 0))), (1, .int (iN v1)), (2, .int (iN v2)), (3, .int (iN v3))] dX4_fail_38 hl (by decide) rfl (fun ls hl => ?_)
          refine z_al M dX4_fail_40 hl 0 rfl ?_
          refine z_ifnn M (tgt := 47) dX4_fail_42 (by decide) ?_
          refine z_al_n M dX4_fail_47 rfl hl 2 rfl ?_
          refine z_al M dX4_fail_48 hl 1 rfl ?_
          refine z_il_n M dX4_fail_50 rfl hl 4 rfl ?_
          have hfa := hW.fa hS hA
          refine zc_VU (As := [.ref (ad (8, q3, 0)), .int (iN v2)]) (rest := []) M (w_X4_dropLegsBehind hKC hm_q3 hp) (cuV M 2 u_co_X4_dropLegsBehind u_ml_X4_199 u_ini_X4 u_in_X4_dropLegsBehind u_se_X4_dropLegsBehind (by decide +kernel) rfl rfl ⟨Nat.le_of_ble_eq_true rfl, Nat.le_of_ble_eq_true rfl⟩) (z_recv M hW hKC.k0 rfl rfl) ⟨rfl, hW.weaken (fun _ _ => trivial)⟩ rfl hl rfl (Nat.le_of_ble_eq_true rfl) ⟨Nat.le_of_ble_eq_true rfl, Nat.le_of_ble_eq_true rfl⟩ dX4_fail_51 hS hfa (fun σ11 H locs hw _ _ hS => ?_)
          obtain ⟨hp, hW2⟩ := hw
          have hW := hW2.weaken hfa
          try dsimp only at hp
          refine z_al_n M dX4_fail_54 rfl hl 2 rfl ?_
          refine z_al M dX4_fail_55 hl 0 rfl ?_
          refine z_il_n M dX4_fail_57 rfl hl 5 rfl ?_
          have hfa := hW.fa hS hA
          refine zc_VU (As := [.ref (ad (10, q10, 0)), .int (iN v3)]) (rest := []) M (w_X4_failLeg hKC hm_q10 hp) (cuV M 2 u_co_X4_failLeg u_ml_X4_203 u_ini_X4 u_in_X4_failLeg u_se_X4_failLeg (by decide +kernel) rfl rfl ⟨Nat.le_of_ble_eq_true rfl, Nat.le_of_ble_eq_true rfl⟩) (z_recv M hW hKC.k0 rfl rfl) ⟨rfl, hW.weaken (fun _ _ => trivial)⟩ rfl hl rfl (Nat.le_of_ble_eq_true rfl) ⟨Nat.le_of_ble_eq_true rfl, Nat.le_of_ble_eq_true rfl⟩ dX4_fail_58 hS hfa (fun σ12 H locs hw _ _ hS => ?_)
          obtain ⟨hp, hW2⟩ := hw
          have hW := hW2.weaken hfa
          try dsimp only at hp
          refine z_al_n M dX4_fail_61 rfl hl 2 rfl ?_
          refine z_al M dX4_fail_62 hl 1 rfl ?_
          refine z_al M dX4_fail_64 hl 0 rfl ?_
          refine zg_X1_1 M u_hin1 hW hm_q10 (M.hts _ u_fl_X4_187) dX4_fail_66 ?_
          refine z_il_n M dX4_fail_69 rfl hl 5 rfl ?_
          have hfa := hW.fa hS hA
          refine zc_VU (As := [.ref (ad (8, q3, 0)), .int (iN (σ12.1 (10, q10, 0) 1)), .int (iN v3)]) (rest := []) M (w_X4_findChain hKC hm_q3 hp) (cuV M 3 u_co_X4_findChain u_ml_X4_150 u_ini_X4 u_in_X4_findChain u_se_X4_findChain (by decide +kernel) rfl rfl ⟨Nat.le_of_ble_eq_true rfl, Nat.le_of_ble_eq_true rfl⟩) (z_recv M hW hKC.k0 rfl rfl) ⟨rfl, hW.weaken (fun _ _ => trivial)⟩ rfl hl rfl (Nat.le_of_ble_eq_true rfl) ⟨Nat.le_of_ble_eq_true rfl, Nat.le_of_ble_eq_true rfl⟩ dX4_fail_70 hS hfa (fun u H locs hw _ _ hS => ?_)
          obtain ⟨r14, σ13⟩ := u
          obtain ⟨hp, hW2⟩ := hw
          have hW := hW2.weaken hfa
          try dsimp only at hp
          refine zv_ne M (tgt := 85) dX4_fail_73 (by decide) rfl (fun c15 => ?_) (fun c15 => ?_)
          · have hp := hp.1 c15
            refine z_al_n M dX4_fail_85 rfl hl 2 rfl ?_
            refine z_al M dX4_fail_86 hl 1 rfl ?_
            have hfa := hW.fa hS hA
            refine zc_VU (As := [.ref (ad (8, q3, 0))]) (rest := []) M (w_X4_rideChosen hKC hKS hm_q3 hp) (cuV M 1 u_co_X4_rideChosen u_ml_X4_158 u_ini_X4 u_in_X4_rideChosen u_se_X4_rideChosen (by decide +kernel) rfl rfl ⟨Nat.le_of_ble_eq_true rfl, Nat.le_of_ble_eq_true rfl⟩) (z_recv M hW hKC.k0 rfl rfl) ⟨rfl, hW.weaken (fun _ _ => trivial)⟩ rfl hl rfl (Nat.le_of_ble_eq_true rfl) ⟨Nat.le_of_ble_eq_true rfl, Nat.le_of_ble_eq_true rfl⟩ dX4_fail_88 hS hfa (fun u H locs hw _ _ hS => ?_)
            obtain ⟨_, σ16, K2, ad2⟩ := u
            obtain ⟨hp, hxn, hKC2, hKS2, hW2⟩ := hw
            dsimp only at hp hxn hKC2 hKS2 hW2
            replace hW2 := hW2.weaken hfa
            replace hp := hp K2 rfl
            refine W.eq (g2 := F0 m 91 ls []) rfl ?_
            have a0 := (hxn _ hm_q10).2
            have a1 := (hxn _ hm_q3).2
            have a2 := (hxn _ hKC.k0).2
            replace hm_q3 := (hxn _ hm_q3).1
            replace hm_q10 := (hxn _ hm_q10).1
            replace hx : ∀ κ, κ ∈ K0 → κ ∈ K2 ∧ ad2 κ = ad0 κ := fun κ h => ⟨(hxn κ (hx κ h).1).1, (hxn κ (hx κ h).1).2.trans (hx κ h).2⟩
            replace hKC := hKC2
            replace hKS := hKS2
            replace hW := hW2
            replace hl : lv_has ls 6 [(5, .ref (ad2 (10, q10, 0))), (4, .ref (ad2 (8, q3, 0))), (0, .ref (ad2 (0, 0, 0))), (1, .int (iN v1)), (2, .int (iN v2)), (3, .int (iN v3))] := by rw [a0, a1, a2]; exact hl
            clear hxn
            clear a0
            clear a1
            clear a2
            obtain ⟨K, rfl⟩ : ∃ z, z = K2 := ⟨_, rfl⟩
            obtain ⟨ad, rfl⟩ : ∃ z, z = ad2 := ⟨_, rfl⟩
            refine z_al M dX4_fail_91 hl 1 rfl ?_
            have hfa := hW.fa hS hA
            refine zc_VU (As := []) (rest := []) M (w_X2_lastEnd hKC hm_q3 hp) (cuV M 0 u_co_X2_lastEnd u_ml_X4_162 u_ini_X2 u_in_X2_lastEnd u_se_X2_lastEnd (by decide +kernel) rfl rfl ⟨Nat.le_of_ble_eq_true rfl, Nat.le_of_ble_eq_true rfl⟩) (z_recv M hW hm_q3 rfl rfl) ⟨rfl, hW.weaken (fun _ _ => trivial)⟩ rfl hl rfl (Nat.le_of_ble_eq_true rfl) ⟨Nat.le_of_ble_eq_true rfl, Nat.le_of_ble_eq_true rfl⟩ dX4_fail_93 hS hfa (fun u H locs hw _ _ hS => ?_)
            obtain ⟨r18, σ17⟩ := u
            obtain ⟨hp, hW2⟩ := hw
            have hW := hW2.weaken hfa
            try dsimp only at hp
            refine W.widen (k := 3) (n := 24) (Nat.le_of_ble_eq_true rfl) (Nat.le_of_ble_eq_true rfl) ?_
            exact zr_i M hr hlocks (r18, σ17, K, ad) rfl ⟨hp, hx, hKC, hKS, hW⟩ hS dX4_fail_96
          · have hp := hp.2 c15
            refine z_al M dX4_fail_76 hl 1 rfl ?_
            refine zi_const M 1 dX4_fail_78 rfl ?_
            obtain ⟨σ19, eσ19⟩ : ∃ z : nS, z = s1 σ13 (8, q3, 0) 8 1 := ⟨_, rfl⟩
            have hp := hp σ19 eσ19
            refine zp_X2_8 (v := 1) M u_hin2 hW hS hm_q3 (M.hts _ u_fl_X4_172) (hv := by decide) dX4_fail_79 (fun H locs hW hS => ?_)
            rw [← eσ19] at hW
            refine zi_bi M (-2) dX4_fail_82 (by decide +kernel) ?_
            refine W.widen (k := 3) (n := 24) (Nat.le_of_ble_eq_true rfl) (Nat.le_of_ble_eq_true rfl) ?_
            exact zr_i M hr hlocks ((-2), σ19, K, ad) rfl ⟨hp, hx, hKC, hKS, hW⟩ hS dX4_fail_84
      · have hp := hp.2 c7
        refine zi_const M (-1) dX4_fail_30 rfl ?_
        refine W.widen (k := 3) (n := 24) (Nat.le_of_ble_eq_true rfl) (Nat.le_of_ble_eq_true rfl) ?_
        exact zr_i M hr hlocks ((-1), σ5, K, ad) rfl ⟨hp, hx, hKC, hKS, hW⟩ hS dX4_fail_31
