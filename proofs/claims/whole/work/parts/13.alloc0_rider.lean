def P_X4_rider (K : List nKey) (σ : nS) (v1 : Int) (v2 : Int) (v3 : Int) (v4 : Int) (v5 : Int) (k : Int → nS → List nKey → Prop) : Prop :=
  ((6 ≤ w (σ.1 (0, 0, 0) 6) → k (-1) σ K) ∧ (w (σ.1 (0, 0, 0) 6) < 6 → P_X4_isPlace K σ v1 (fun r3 σ2 => ((w r3 = 0 → k (-1) σ2 K) ∧ (w r3 ≠ 0 → P_X4_areBits K σ2 v2 (σ2.1 (0, 0, 0) 5) (fun r6 σ5 => ((w r6 = 0 → k (-1) σ5 K) ∧ (w r6 ≠ 0 → P_X4_hasBit K σ5 v2 v1 (fun r9 σ8 => ((w r9 ≠ 0 → P_X4_isMinute K σ8 v3 (fun r12 σ11 => ((w r12 = 0 → k (-1) σ11 K) ∧ (w r12 ≠ 0 → P_X4_isMinute K σ11 v4 (fun r15 σ14 => ((w r15 = 0 → k (-1) σ14 K) ∧ (w r15 ≠ 0 → ((w v4 < w v3 → k (-1) σ14 K) ∧ (w v3 ≤ w v4 → P_X4_areBits K σ14 v5 4 (fun r19 σ18 => ((w r19 ≠ 0 → ∃ n21 : Nat, (6, n21, 0) ∉ K ∧ (7, n21, 0) ∉ K ∧ CLs K σ18 ∧ ∀ σ22 : nS, σ22 = mkRid σ18 n21 v1 v2 v3 v4 v5 → ∀ K2 : List nKey, K2 = K ++ [(6, n21, 0)] ++ [(7, n21, 0)] → ∀ K : List nKey, K = K2 → P_X4_settleWays K σ22 n21 (fun σ23 => 0 ≤ (σ23.1 (0, 0, 0) 6) ∧ (σ23.1 (0, 0, 0) 6) < 6 ∧ ∀ σ26 : nS, σ26 = s2 σ23 (2, 0, 0) ((σ23.1 (0, 0, 0) 6)).toNat (some n21) → ∀ σ27 : nS, σ27 = s1 σ26 (0, 0, 0) 6 ((σ26.1 (0, 0, 0) 6) + 1) → k ((σ27.1 (0, 0, 0) 6) - 1) σ27 K)) ∧ (w r19 = 0 → k (-1) σ18 K)))))))))))) ∧ (w r9 = 0 → k (-1) σ8 K)))))))))))
def rmX4_rider : Room := { frames := 3, cells := 2, slots := 75, locals := 68 }
set_option maxHeartbeats 4000000 in
set_option maxRecDepth 100000 in
theorem w_X4_rider {l : Launch} {D : va_G} {ca : Nat → ClassId} {K0 : List nKey} {ad0 : nKey → Nat} {σ : nS} {sz : Nat} (hKC0 : KC K0) (hKS0 : KS K0) {v1 : Int} {v2 : Int} {v3 : Int} {v4 : Int} {v5 : Int}  {k : Int → nS → List nKey → Prop} (hp : P_X4_rider K0 σ v1 v2 v3 v4 v5 k) : Met l yX4_rider (Cond.code yX4_rider cX4_rider 7 (some .int) :: UW) rmX4_rider (ZP D ca [.ref (ad0 (0, 0, 0)), .int (iN v1), .int (iN v2), .int (iN v3), .int (iN v4), .int (iN v5)] (ZB D K0 ad0 ca σ sz)) (ZAi D K0 ad0 ca sz k) 2 75 (FA K0 ad0 sz) := by
  refine z_start (cc := cX4_rider) (maxL := 7) (ret := (some .int)) (own := RX4) (K := K0) (ad := ad0) (σ := σ) (Qc := fun sz => ZAi D K0 ad0 ca sz k) (by decide) rfl (Nat.le_of_ble_eq_true rfl) ?_
  intro p e s m args below meth c M hr hlocks hW ls hl
  have hS : va_S (FA K0 ad0 s.heap.size) s.heap s.heap [] := va_S.rf
  have hA : ∀ q : Nat, s.heap.size ≤ q → FA K0 ad0 s.heap.size q := fun q h => Or.inr h
  unfold P_X4_rider at hp
  obtain ⟨K, eK⟩ : ∃ z, z = K0 := ⟨_, rfl⟩
  obtain ⟨ad, ea⟩ : ∃ z, z = ad0 := ⟨_, rfl⟩
  have hx : ∀ κ, κ ∈ K0 → κ ∈ K ∧ ad κ = ad0 κ := fun κ h => ⟨by rw [eK]; exact h, by rw [ea]⟩
  have hKC : KC K := by rw [eK]; exact hKC0
  have hKS : KS K := by rw [eK]; exact hKS0
  replace hW : XW D (FA K0 ad0 s.heap.size) K ad (cR ca ad σ) s.heap := by rw [eK, ea]; exact hW
  replace hl : lv_has ls 7 [(0, .ref (ad (0, 0, 0))), (1, .int (iN v1)), (2, .int (iN v2)), (3, .int (iN v3)), (4, .int (iN v4)), (5, .int (iN v5))] := by rw [ea]; exact hl
  rw [← eK] at hp
  clear eK ea
  refine z_al_n M dX4_rider_0 rfl hl 0 rfl ?_
  refine zg_X4_6 M u_hin4 hW hKC.k0 (M.hts _ u_fl_X4_39) dX4_rider_1 ?_
  refine zi_bi M 6 dX4_rider_4 (by decide +kernel) ?_
  refine zw_ge M (tgt := 36) dX4_rider_6 (by decide) rfl (w_of ⟨by decide, by decide⟩) (fun c1 => ?_) (fun c1 => ?_)
  · have hp := hp.1 c1
    refine zi_const M (-1) dX4_rider_36 rfl ?_
    refine W.widen (k := 2) (n := 75) (Nat.le_of_ble_eq_true rfl) (Nat.le_of_ble_eq_true rfl) ?_
    exact zr_i M hr hlocks ((-1), σ, K, ad) rfl ⟨hp, hx, hKC, hKS, hW⟩ hS dX4_rider_37
  · have hp := hp.2 c1
    refine z_al_n M dX4_rider_9 rfl hl 0 rfl ?_
    refine z_il_n M dX4_rider_10 rfl hl 1 rfl ?_
    have hfa := hW.fa hS hA
    refine zc_VU (As := [.int (iN v1)]) (rest := []) M (w_X4_isPlace hKC  hp) (cuV M 1 u_co_X4_isPlace u_ml_X4_51 u_ini_X4 u_in_X4_isPlace u_se_X4_isPlace (by decide +kernel) rfl rfl ⟨Nat.le_of_ble_eq_true rfl, Nat.le_of_ble_eq_true rfl⟩) (z_recv M hW hKC.k0 rfl rfl) ⟨rfl, hW.weaken (fun _ _ => trivial)⟩ rfl hl rfl (Nat.le_of_ble_eq_true rfl) ⟨Nat.le_of_ble_eq_true rfl, Nat.le_of_ble_eq_true rfl⟩ dX4_rider_11 hS hfa (fun u H locs hw _ _ hS => ?_)
    obtain ⟨r3, σ2⟩ := u
    obtain ⟨hp, hW2⟩ := hw
    have hW := hW2.weaken hfa
    try dsimp only at hp
    refine zv_eq M (tgt := 36) dX4_rider_14 (by decide) rfl (fun c4 => ?_) (fun c4 => ?_)
    · have hp := hp.1 c4
      refine zi_const M (-1) dX4_rider_36 rfl ?_
      refine W.widen (k := 2) (n := 75) (Nat.le_of_ble_eq_true rfl) (Nat.le_of_ble_eq_true rfl) ?_
      exact zr_i M hr hlocks ((-1), σ2, K, ad) rfl ⟨hp, hx, hKC, hKS, hW⟩ hS dX4_rider_37
    · have hp := hp.2 c4
      refine z_il_n M dX4_rider_17 rfl hl 2 rfl ?_
      refine z_al_n M dX4_rider_18 rfl hl 0 rfl ?_
      refine zg_X4_5 M u_hin4 hW hKC.k0 (M.hts _ u_fl_X4_35) dX4_rider_19 ?_
      have hfa := hW.fa hS hA
      refine zc_SU (As := [.int (iN v2), .int (iN (σ2.1 (0, 0, 0) 5))]) (rest := []) M (w_X4_areBits hKC  hp) (cuS M 2 u_co_X4_areBits u_ml_X4_63 u_ini_X4 u_st_X4_areBits (by decide +kernel) rfl rfl ⟨Nat.le_of_ble_eq_true rfl, Nat.le_of_ble_eq_true rfl⟩) ⟨rfl, hW.weaken (fun _ _ => trivial)⟩ rfl hl rfl (Nat.le_of_ble_eq_true rfl) ⟨Nat.le_of_ble_eq_true rfl, Nat.le_of_ble_eq_true rfl⟩ dX4_rider_22 hS hfa (fun u H locs hw _ _ hS => ?_)
      obtain ⟨r6, σ5⟩ := u
      obtain ⟨hp, hW2⟩ := hw
      have hW := hW2.weaken hfa
      try dsimp only at hp
      refine zv_eq M (tgt := 36) dX4_rider_25 (by decide) rfl (fun c7 => ?_) (fun c7 => ?_)
      · have hp := hp.1 c7
        refine zi_const M (-1) dX4_rider_36 rfl ?_
        refine W.widen (k := 2) (n := 75) (Nat.le_of_ble_eq_true rfl) (Nat.le_of_ble_eq_true rfl) ?_
        exact zr_i M hr hlocks ((-1), σ5, K, ad) rfl ⟨hp, hx, hKC, hKS, hW⟩ hS dX4_rider_37
      · have hp := hp.2 c7
        refine z_il_n M dX4_rider_28 rfl hl 2 rfl ?_
        refine z_il_n M dX4_rider_29 rfl hl 1 rfl ?_
        have hfa := hW.fa hS hA
        refine zc_SU (As := [.int (iN v2), .int (iN v1)]) (rest := []) M (w_X4_hasBit hKC  hp) (cuS M 2 u_co_X4_hasBit u_ml_X4_67 u_ini_X4 u_st_X4_hasBit (by decide +kernel) rfl rfl ⟨Nat.le_of_ble_eq_true rfl, Nat.le_of_ble_eq_true rfl⟩) ⟨rfl, hW.weaken (fun _ _ => trivial)⟩ rfl hl rfl (Nat.le_of_ble_eq_true rfl) ⟨Nat.le_of_ble_eq_true rfl, Nat.le_of_ble_eq_true rfl⟩ dX4_rider_30 hS hfa (fun u H locs hw _ _ hS => ?_)
        obtain ⟨r9, σ8⟩ := u
        obtain ⟨hp, hW2⟩ := hw
        have hW := hW2.weaken hfa
        try dsimp only at hp
        refine zv_ne M (tgt := 38) dX4_rider_33 (by decide) rfl (fun c10 => ?_) (fun c10 => ?_)
        · have hp := hp.1 c10
          refine z_il_n M dX4_rider_38 rfl hl 3 rfl ?_
          have hfa := hW.fa hS hA
          refine zc_SU (As := [.int (iN v3)]) (rest := []) M (w_X4_isMinute hKC  hp) (cuS M 1 u_co_X4_isMinute u_ml_X4_70 u_ini_X4 u_st_X4_isMinute (by decide +kernel) rfl rfl ⟨Nat.le_of_ble_eq_true rfl, Nat.le_of_ble_eq_true rfl⟩) ⟨rfl, hW.weaken (fun _ _ => trivial)⟩ rfl hl rfl (Nat.le_of_ble_eq_true rfl) ⟨Nat.le_of_ble_eq_true rfl, Nat.le_of_ble_eq_true rfl⟩ dX4_rider_39 hS hfa (fun u H locs hw _ _ hS => ?_)
          obtain ⟨r12, σ11⟩ := u
          obtain ⟨hp, hW2⟩ := hw
          have hW := hW2.weaken hfa
          try dsimp only at hp
          refine zv_eq M (tgt := 68) dX4_rider_42 (by decide) rfl (fun c13 => ?_) (fun c13 => ?_)
          · have hp := hp.1 c13
            refine zi_const M (-1) dX4_rider_68 rfl ?_
            refine W.widen (k := 2) (n := 75) (Nat.le_of_ble_eq_true rfl) (Nat.le_of_ble_eq_true rfl) ?_
            exact zr_i M hr hlocks ((-1), σ11, K, ad) rfl ⟨hp, hx, hKC, hKS, hW⟩ hS dX4_rider_69
          · have hp := hp.2 c13
            refine z_il M dX4_rider_45 hl 4 rfl ?_
            have hfa := hW.fa hS hA
            refine zc_SU (As := [.int (iN v4)]) (rest := []) M (w_X4_isMinute hKC  hp) (cuS M 1 u_co_X4_isMinute u_ml_X4_70 u_ini_X4 u_st_X4_isMinute (by decide +kernel) rfl rfl ⟨Nat.le_of_ble_eq_true rfl, Nat.le_of_ble_eq_true rfl⟩) ⟨rfl, hW.weaken (fun _ _ => trivial)⟩ rfl hl rfl (Nat.le_of_ble_eq_true rfl) ⟨Nat.le_of_ble_eq_true rfl, Nat.le_of_ble_eq_true rfl⟩ dX4_rider_47 hS hfa (fun u H locs hw _ _ hS => ?_)
            obtain ⟨r15, σ14⟩ := u
            obtain ⟨hp, hW2⟩ := hw
            have hW := hW2.weaken hfa
            try dsimp only at hp
            refine zv_eq M (tgt := 68) dX4_rider_50 (by decide) rfl (fun c16 => ?_) (fun c16 => ?_)
            · have hp := hp.1 c16
              refine zi_const M (-1) dX4_rider_68 rfl ?_
              refine W.widen (k := 2) (n := 75) (Nat.le_of_ble_eq_true rfl) (Nat.le_of_ble_eq_true rfl) ?_
              exact zr_i M hr hlocks ((-1), σ14, K, ad) rfl ⟨hp, hx, hKC, hKS, hW⟩ hS dX4_rider_69
            · have hp := hp.2 c16
              refine z_il_n M dX4_rider_53 rfl hl 3 rfl ?_
              refine z_il M dX4_rider_54 hl 4 rfl ?_
              refine zw_gt M (tgt := 68) dX4_rider_56 (by decide) rfl rfl (fun c17 => ?_) (fun c17 => ?_)
              · have hp := hp.1 c17
                refine zi_const M (-1) dX4_rider_68 rfl ?_
                refine W.widen (k := 2) (n := 75) (Nat.le_of_ble_eq_true rfl) (Nat.le_of_ble_eq_true rfl) ?_
                exact zr_i M hr hlocks ((-1), σ14, K, ad) rfl ⟨hp, hx, hKC, hKS, hW⟩ hS dX4_rider_69
              · have hp := hp.2 c17
                refine z_il M dX4_rider_59 hl 5 rfl ?_
                refine zi_const M 4 dX4_rider_61 rfl ?_
                have hfa := hW.fa hS hA
                refine zc_SU (As := [.int (iN v5), .int (iN 4)]) (rest := []) M (w_X4_areBits hKC  hp) (cuS M 2 u_co_X4_areBits u_ml_X4_63 u_ini_X4 u_st_X4_areBits (by decide +kernel) rfl rfl ⟨Nat.le_of_ble_eq_true rfl, Nat.le_of_ble_eq_true rfl⟩) ⟨rfl, hW.weaken (fun _ _ => trivial)⟩ rfl hl rfl (Nat.le_of_ble_eq_true rfl) ⟨Nat.le_of_ble_eq_true rfl, Nat.le_of_ble_eq_true rfl⟩ dX4_rider_62 hS hfa (fun u H locs hw _ _ hS => ?_)
                obtain ⟨r19, σ18⟩ := u
                obtain ⟨hp, hW2⟩ := hw
                have hW := hW2.weaken hfa
                try dsimp only at hp
                refine zv_ne M (tgt := 70) dX4_rider_65 (by decide) rfl (fun c20 => ?_) (fun c20 => ?_)
                · have hp := hp.1 c20
                  refine va_new (ci := 3) (fs := [.int (iN 0), .int (iN 0), .int (iN 0), .int (iN 0), .int (iN 0), .null, .int (iN 0), .int (iN 0), .int (iN 0), .int (iN 0), .int (iN 0)]) (C := RX3) (T := TX3) (N := 11) M.hx M.hb M.hts u_hin3 tyX3 tyX3_ok M.hown (M.hts _ u_cl_X4_13) (M.hts _ u_inst_X3) (M.hts _ u_ini_X3) M.hK hW.1 hW.2 hS hA rfl (fun j hj => by match j, hj with | 0, _ => rfl | 1, _ => rfl | 2, _ => rfl | 3, _ => rfl | 4, _ => rfl | 5, _ => rfl | 6, _ => rfl | 7, _ => rfl | 8, _ => rfl | 9, _ => rfl | 10, _ => rfl | j + 11, hj => exact absurd hj (by omega)) (Nat.le_of_ble_eq_true rfl) (Nat.le_of_ble_eq_true rfl) dX4_rider_70 (fun q70 H hPn hDn hS => ?_)
                  have hW := XW.pre hPn hDn
                  refine z_dup M dX4_rider_73 rfl ?_
                  refine z_il_n M dX4_rider_74 rfl hl 1 rfl ?_
                  refine z_il_n M dX4_rider_75 rfl hl 2 rfl ?_
                  refine z_il_n M dX4_rider_76 rfl hl 3 rfl ?_
                  refine z_il M dX4_rider_77 hl 4 rfl ?_
                  refine z_il M dX4_rider_79 hl 5 rfl ?_
                  obtain ⟨hQ, hFn⟩ := zk_last hPn hDn hS hA
                  refine zc_IU (As := [.int (iN v1), .int (iN v2), .int (iN v3), .int (iN v4), .int (iN v5)]) (rest := [.ref q70]) M (w_X3_init (h0 := q70)) ⟨callB_of 5 M.hts (GU u_co_X3_init) rfl rfl rfl (M.hts _ u_ini_X3) (M.hts _ u_ml_X4_73) (by decide +kernel) ⟨Nat.le_of_ble_eq_true rfl, Nat.le_of_ble_eq_true rfl⟩, rfl, M.hts _ u_in_X3_init⟩ ⟨rfl, hQ⟩ rfl hl rfl (Nat.le_of_ble_eq_true rfl) ⟨Nat.le_of_ble_eq_true rfl, Nat.le_of_ble_eq_true rfl⟩ dX4_rider_81 hS hFn (fun u H1 locs hw _ hk hS => ?_)
                  obtain ⟨n21, hn1, hn2, hcl, hp⟩ := hp
                  obtain ⟨ad2, hae, haq, hW2⟩ := zk_Rid (u := u) n21 hKS hKC hcl hn1 hn2 hPn hDn hFn hk hw
                  obtain ⟨σ22, eσ22⟩ : ∃ z : nS, z = mkRid σ18 n21 v1 v2 v3 v4 v5 := ⟨_, rfl⟩
                  obtain ⟨K2, eK2⟩ : ∃ z : List nKey, z = K ++ [(6, n21, 0)] ++ [(7, n21, 0)] := ⟨_, rfl⟩
                  rw [← eσ22, ← eK2] at hW2
                  have hKC2 : KC K2 := by rw [eK2]; exact hKC.a67 n21
                  have hKS2 : KS K2 := by rw [eK2]; exact hKS.a67 n21
                  have hm_n21 : (6, n21, 0) ∈ K2 := by rw [eK2]; simp
                  have hxn : ∀ κ, κ ∈ K → κ ∈ K2 ∧ ad2 κ = ad κ := fun κ h => ⟨by rw [eK2]; simp [h], hae κ h⟩
                  replace hp := hp σ22 eσ22 K2 eK2 K2 rfl
                  clear hae hPn hDn hFn hk hw hQ eK2 hcl
                  refine W.eq (g2 := F0 m 84 ls [.ref q70]) rfl ?_
                  generalize H1 = H at hW2 hS ⊢
                  have a0 := (hxn _ hKC.k0).2
                  replace hx : ∀ κ, κ ∈ K0 → κ ∈ K2 ∧ ad2 κ = ad0 κ := fun κ h => ⟨(hxn κ (hx κ h).1).1, (hxn κ (hx κ h).1).2.trans (hx κ h).2⟩
                  replace hKC := hKC2
                  replace hKS := hKS2
                  replace hW := hW2
                  replace hl : lv_has ls 7 [(0, .ref (ad2 (0, 0, 0))), (1, .int (iN v1)), (2, .int (iN v2)), (3, .int (iN v3)), (4, .int (iN v4)), (5, .int (iN v5))] := by rw [a0]; exact hl
                  refine W.eq (g2 := F0 m 84 ls [.ref (ad2 (6, n21, 0))]) (by rw [haq]) ?_
                  clear hxn
                  clear a0
                  obtain ⟨K, rfl⟩ : ∃ z, z = K2 := ⟨_, rfl⟩
                  obtain ⟨ad, rfl⟩ : ∃ z, z = ad2 := ⟨_, rfl⟩
                  refine z_as M [(6, .ref (ad (6, n21, 0))), (0, .ref (ad (0, 0, 0))), (1, .int (iN v1)), (2, .int (iN v2)), (3, .int (iN v3)), (4, .int (iN v4)), (5, .int (iN v5))] dX4_rider_84 hl (by decide) rfl (fun ls hl => ?_)
                  refine z_al_n M dX4_rider_86 rfl hl 1 rfl ?_
                  refine z_al M dX4_rider_87 hl 0 rfl ?_
                  have hfa := hW.fa hS hA
                  refine zc_VU (As := [.ref (ad (6, n21, 0))]) (rest := []) M (w_X4_settleWays hKC hm_n21 hp) (cuV M 1 u_co_X4_settleWays u_ml_X4_59 u_ini_X4 u_in_X4_settleWays u_se_X4_settleWays (by decide +kernel) rfl rfl ⟨Nat.le_of_ble_eq_true rfl, Nat.le_of_ble_eq_true rfl⟩) (z_recv M hW hKC.k0 rfl rfl) ⟨rfl, hW.weaken (fun _ _ => trivial)⟩ rfl hl rfl (Nat.le_of_ble_eq_true rfl) ⟨Nat.le_of_ble_eq_true rfl, Nat.le_of_ble_eq_true rfl⟩ dX4_rider_89 hS hfa (fun σ23 H locs hw _ _ hS => ?_)
                  obtain ⟨hp, hW2⟩ := hw
                  have hW := hW2.weaken hfa
                  try dsimp only at hp
                  refine z_al_n M dX4_rider_92 rfl hl 1 rfl ?_
                  refine zg_X4_1 M u_hin4 hW hKC.k0 (M.hts _ u_fl_X4_15) dX4_rider_93 ?_
                  refine z_al_n M dX4_rider_96 rfl hl 1 rfl ?_
                  refine zg_X4_6 M u_hin4 hW hKC.k0 (M.hts _ u_fl_X4_39) dX4_rider_97 ?_
                  refine z_al M dX4_rider_100 hl 0 rfl ?_
                  obtain ⟨h24, h25, hp⟩ := hp
                  obtain ⟨σ26, eσ26⟩ : ∃ z : nS, z = s2 σ23 (2, 0, 0) ((σ23.1 (0, 0, 0) 6)).toNat (some n21) := ⟨_, rfl⟩
                  have hp := hp σ26 eσ26
                  refine zs_q (n := 6) (t0 := 2) (kd := 6) (ci := 3) M hW hS hKC.k2 (fun _ _ => rfl) rfl hm_n21 rfl rfl h24 h25 (by decide) dX4_rider_102 (fun H locs hW hS => ?_)
                  rw [← eσ26] at hW
                  refine z_al_n M dX4_rider_103 rfl hl 1 rfl ?_
                  refine z_dup M dX4_rider_104 rfl ?_
                  refine zg_X4_6 M u_hin4 hW hKC.k0 (M.hts _ u_fl_X4_39) dX4_rider_105 ?_
                  refine zi_const M 1 dX4_rider_108 rfl ?_
                  refine zi_add M dX4_rider_109 ?_
                  obtain ⟨σ27, eσ27⟩ : ∃ z : nS, z = s1 σ26 (0, 0, 0) 6 ((σ26.1 (0, 0, 0) 6) + 1) := ⟨_, rfl⟩
                  have hp := hp σ27 eσ27
                  refine zp_X4_6 (v := ((σ26.1 (0, 0, 0) 6) + 1)) M u_hin4 hW hS hKC.k0 (M.hts _ u_fl_X4_39) dX4_rider_110 (fun H locs hW hS => ?_)
                  rw [← eσ27] at hW
                  refine z_al_n M dX4_rider_113 rfl hl 1 rfl ?_
                  refine zg_X4_6 M u_hin4 hW hKC.k0 (M.hts _ u_fl_X4_39) dX4_rider_114 ?_
                  refine zi_const M 1 dX4_rider_117 rfl ?_
                  refine zi_sub M dX4_rider_118 ?_
                  refine W.widen (k := 2) (n := 75) (Nat.le_of_ble_eq_true rfl) (Nat.le_of_ble_eq_true rfl) ?_
                  exact zr_i M hr hlocks (((σ27.1 (0, 0, 0) 6) - 1), σ27, K, ad) rfl ⟨hp, hx, hKC, hKS, hW⟩ hS dX4_rider_119
                · have hp := hp.2 c20
                  refine zi_const M (-1) dX4_rider_68 rfl ?_
                  refine W.widen (k := 2) (n := 75) (Nat.le_of_ble_eq_true rfl) (Nat.le_of_ble_eq_true rfl) ?_
                  exact zr_i M hr hlocks ((-1), σ18, K, ad) rfl ⟨hp, hx, hKC, hKS, hW⟩ hS dX4_rider_69
        · have hp := hp.2 c10
          refine zi_const M (-1) dX4_rider_36 rfl ?_
          refine W.widen (k := 2) (n := 75) (Nat.le_of_ble_eq_true rfl) (Nat.le_of_ble_eq_true rfl) ?_
          exact zr_i M hr hlocks ((-1), σ8, K, ad) rfl ⟨hp, hx, hKC, hKS, hW⟩ hS dX4_rider_37
