def P_X4_call (K : List nKey) (σ : nS) (v1 : Int) (v2 : Int) (v3 : Int) (v4 : Int) (v5 : Int) (k : Int → nS → List nKey → Prop) : Prop :=
  ((40 ≤ w (σ.1 (0, 0, 0) 7) → k (-1) σ K) ∧ (w (σ.1 (0, 0, 0) 7) < 40 → P_X4_isKind K σ v1 (fun r3 σ2 => ((w r3 = 0 → k (-1) σ2 K) ∧ (w r3 ≠ 0 → P_X4_isPlace K σ2 v2 (fun r6 σ5 => ((w r6 = 0 → k (-1) σ5 K) ∧ (w r6 ≠ 0 → P_X4_isPlace K σ5 v3 (fun r9 σ8 => ((w r9 = 0 → k (-1) σ8 K) ∧ (w r9 ≠ 0 → ((w v2 ≠ w v3 → P_X4_isMinute K σ8 v4 (fun r13 σ12 => ((w r13 = 0 → k (-1) σ12 K) ∧ (w r13 ≠ 0 → ((w v5 < 1 → k (-1) σ12 K) ∧ (1 ≤ w v5 → ((w v5 ≤ 2000 → ∃ n17 : Nat, (8, n17, 0) ∉ K ∧ (9, n17, 0) ∉ K ∧ CLs K σ12 ∧ ∀ σ18 : nS, σ18 = mkReq σ12 n17 v1 v2 v3 v4 v5 → ∀ K2 : List nKey, K2 = K ++ [(8, n17, 0)] ++ [(9, n17, 0)] → ∀ K : List nKey, K = K2 → 0 ≤ (σ12.1 (0, 0, 0) 7) ∧ (σ12.1 (0, 0, 0) 7) < 40 ∧ ∀ σ21 : nS, σ21 = s2 σ18 (3, 0, 0) ((σ12.1 (0, 0, 0) 7)).toNat (some n17) → ∀ σ22 : nS, σ22 = s1 σ21 (0, 0, 0) 7 ((σ21.1 (0, 0, 0) 7) + 1) → k ((σ22.1 (0, 0, 0) 7) - 1) σ22 K) ∧ (2000 < w v5 → k (-1) σ12 K)))))))) ∧ (w v2 = w v3 → k (-1) σ8 K)))))))))))))
def rmX4_call : Room := { frames := 2, cells := 2, slots := 27, locals := 37 }
set_option maxHeartbeats 4000000 in
set_option maxRecDepth 100000 in
theorem w_X4_call {l : Launch} {D : va_G} {ca : Nat → ClassId} {K0 : List nKey} {ad0 : nKey → Nat} {σ : nS} {sz : Nat} (hKC0 : KC K0) (hKS0 : KS K0) {v1 : Int} {v2 : Int} {v3 : Int} {v4 : Int} {v5 : Int}  {k : Int → nS → List nKey → Prop} (hp : P_X4_call K0 σ v1 v2 v3 v4 v5 k) : Met l yX4_call (Cond.code yX4_call cX4_call 6 (some .int) :: UW) rmX4_call (ZP D ca [.ref (ad0 (0, 0, 0)), .int (iN v1), .int (iN v2), .int (iN v3), .int (iN v4), .int (iN v5)] (ZB D K0 ad0 ca σ sz)) (ZAi D K0 ad0 ca sz k) 2 27 (FA K0 ad0 sz) := by
  refine z_start (cc := cX4_call) (maxL := 6) (ret := (some .int)) (own := RX4) (K := K0) (ad := ad0) (σ := σ) (Qc := fun sz => ZAi D K0 ad0 ca sz k) (by decide) rfl (Nat.le_of_ble_eq_true rfl) ?_
  intro p e s m args below meth c M hr hlocks hW ls hl
  have hS : va_S (FA K0 ad0 s.heap.size) s.heap s.heap [] := va_S.rf
  have hA : ∀ q : Nat, s.heap.size ≤ q → FA K0 ad0 s.heap.size q := fun q h => Or.inr h
  unfold P_X4_call at hp
  obtain ⟨K, eK⟩ : ∃ z, z = K0 := ⟨_, rfl⟩
  obtain ⟨ad, ea⟩ : ∃ z, z = ad0 := ⟨_, rfl⟩
  have hx : ∀ κ, κ ∈ K0 → κ ∈ K ∧ ad κ = ad0 κ := fun κ h => ⟨by rw [eK]; exact h, by rw [ea]⟩
  have hKC : KC K := by rw [eK]; exact hKC0
  have hKS : KS K := by rw [eK]; exact hKS0
  replace hW : XW D (FA K0 ad0 s.heap.size) K ad (cR ca ad σ) s.heap := by rw [eK, ea]; exact hW
  replace hl : lv_has ls 6 [(0, .ref (ad (0, 0, 0))), (1, .int (iN v1)), (2, .int (iN v2)), (3, .int (iN v3)), (4, .int (iN v4)), (5, .int (iN v5))] := by rw [ea]; exact hl
  rw [← eK] at hp
  clear eK ea
  refine z_al_n M dX4_call_0 rfl hl 0 rfl ?_
  refine zg_X4_7 M u_hin4 hW hKC.k0 (M.hts _ u_fl_X4_42) dX4_call_1 ?_
  refine zi_bi M 40 dX4_call_4 (by decide +kernel) ?_
  refine zw_ge M (tgt := 37) dX4_call_6 (by decide) rfl (w_of ⟨by decide, by decide⟩) (fun c1 => ?_) (fun c1 => ?_)
  · have hp := hp.1 c1
    refine zi_const M (-1) dX4_call_37 rfl ?_
    refine W.widen (k := 2) (n := 27) (Nat.le_of_ble_eq_true rfl) (Nat.le_of_ble_eq_true rfl) ?_
    exact zr_i M hr hlocks ((-1), σ, K, ad) rfl ⟨hp, hx, hKC, hKS, hW⟩ hS dX4_call_38
  · have hp := hp.2 c1
    refine z_il_n M dX4_call_9 rfl hl 1 rfl ?_
    have hfa := hW.fa hS hA
    refine zc_SU (As := [.int (iN v1)]) (rest := []) M (w_X4_isKind hKC  hp) (cuS M 1 u_co_X4_isKind u_ml_X4_118 u_ini_X4 u_st_X4_isKind (by decide +kernel) rfl rfl ⟨Nat.le_of_ble_eq_true rfl, Nat.le_of_ble_eq_true rfl⟩) ⟨rfl, hW.weaken (fun _ _ => trivial)⟩ rfl hl rfl (Nat.le_of_ble_eq_true rfl) ⟨Nat.le_of_ble_eq_true rfl, Nat.le_of_ble_eq_true rfl⟩ dX4_call_10 hS hfa (fun u H locs hw _ _ hS => ?_)
    obtain ⟨r3, σ2⟩ := u
    obtain ⟨hp, hW2⟩ := hw
    have hW := hW2.weaken hfa
    try dsimp only at hp
    refine zv_eq M (tgt := 37) dX4_call_13 (by decide) rfl (fun c4 => ?_) (fun c4 => ?_)
    · have hp := hp.1 c4
      refine zi_const M (-1) dX4_call_37 rfl ?_
      refine W.widen (k := 2) (n := 27) (Nat.le_of_ble_eq_true rfl) (Nat.le_of_ble_eq_true rfl) ?_
      exact zr_i M hr hlocks ((-1), σ2, K, ad) rfl ⟨hp, hx, hKC, hKS, hW⟩ hS dX4_call_38
    · have hp := hp.2 c4
      refine z_al_n M dX4_call_16 rfl hl 0 rfl ?_
      refine z_il_n M dX4_call_17 rfl hl 2 rfl ?_
      have hfa := hW.fa hS hA
      refine zc_VU (As := [.int (iN v2)]) (rest := []) M (w_X4_isPlace hKC  hp) (cuV M 1 u_co_X4_isPlace u_ml_X4_51 u_ini_X4 u_in_X4_isPlace u_se_X4_isPlace (by decide +kernel) rfl rfl ⟨Nat.le_of_ble_eq_true rfl, Nat.le_of_ble_eq_true rfl⟩) (z_recv M hW hKC.k0 rfl rfl) ⟨rfl, hW.weaken (fun _ _ => trivial)⟩ rfl hl rfl (Nat.le_of_ble_eq_true rfl) ⟨Nat.le_of_ble_eq_true rfl, Nat.le_of_ble_eq_true rfl⟩ dX4_call_18 hS hfa (fun u H locs hw _ _ hS => ?_)
      obtain ⟨r6, σ5⟩ := u
      obtain ⟨hp, hW2⟩ := hw
      have hW := hW2.weaken hfa
      try dsimp only at hp
      refine zv_eq M (tgt := 37) dX4_call_21 (by decide) rfl (fun c7 => ?_) (fun c7 => ?_)
      · have hp := hp.1 c7
        refine zi_const M (-1) dX4_call_37 rfl ?_
        refine W.widen (k := 2) (n := 27) (Nat.le_of_ble_eq_true rfl) (Nat.le_of_ble_eq_true rfl) ?_
        exact zr_i M hr hlocks ((-1), σ5, K, ad) rfl ⟨hp, hx, hKC, hKS, hW⟩ hS dX4_call_38
      · have hp := hp.2 c7
        refine z_al_n M dX4_call_24 rfl hl 0 rfl ?_
        refine z_il_n M dX4_call_25 rfl hl 3 rfl ?_
        have hfa := hW.fa hS hA
        refine zc_VU (As := [.int (iN v3)]) (rest := []) M (w_X4_isPlace hKC  hp) (cuV M 1 u_co_X4_isPlace u_ml_X4_51 u_ini_X4 u_in_X4_isPlace u_se_X4_isPlace (by decide +kernel) rfl rfl ⟨Nat.le_of_ble_eq_true rfl, Nat.le_of_ble_eq_true rfl⟩) (z_recv M hW hKC.k0 rfl rfl) ⟨rfl, hW.weaken (fun _ _ => trivial)⟩ rfl hl rfl (Nat.le_of_ble_eq_true rfl) ⟨Nat.le_of_ble_eq_true rfl, Nat.le_of_ble_eq_true rfl⟩ dX4_call_26 hS hfa (fun u H locs hw _ _ hS => ?_)
        obtain ⟨r9, σ8⟩ := u
        obtain ⟨hp, hW2⟩ := hw
        have hW := hW2.weaken hfa
        try dsimp only at hp
        refine zv_eq M (tgt := 37) dX4_call_29 (by decide) rfl (fun c10 => ?_) (fun c10 => ?_)
        · have hp := hp.1 c10
          refine zi_const M (-1) dX4_call_37 rfl ?_
          refine W.widen (k := 2) (n := 27) (Nat.le_of_ble_eq_true rfl) (Nat.le_of_ble_eq_true rfl) ?_
          exact zr_i M hr hlocks ((-1), σ8, K, ad) rfl ⟨hp, hx, hKC, hKS, hW⟩ hS dX4_call_38
        · have hp := hp.2 c10
          refine z_il_n M dX4_call_32 rfl hl 2 rfl ?_
          refine z_il_n M dX4_call_33 rfl hl 3 rfl ?_
          refine zw_ne M (tgt := 39) dX4_call_34 (by decide) rfl rfl (fun c11 => ?_) (fun c11 => ?_)
          · have hp := hp.1 c11
            refine z_il M dX4_call_39 hl 4 rfl ?_
            have hfa := hW.fa hS hA
            refine zc_SU (As := [.int (iN v4)]) (rest := []) M (w_X4_isMinute hKC  hp) (cuS M 1 u_co_X4_isMinute u_ml_X4_70 u_ini_X4 u_st_X4_isMinute (by decide +kernel) rfl rfl ⟨Nat.le_of_ble_eq_true rfl, Nat.le_of_ble_eq_true rfl⟩) ⟨rfl, hW.weaken (fun _ _ => trivial)⟩ rfl hl rfl (Nat.le_of_ble_eq_true rfl) ⟨Nat.le_of_ble_eq_true rfl, Nat.le_of_ble_eq_true rfl⟩ dX4_call_41 hS hfa (fun u H locs hw _ _ hS => ?_)
            obtain ⟨r13, σ12⟩ := u
            obtain ⟨hp, hW2⟩ := hw
            have hW := hW2.weaken hfa
            try dsimp only at hp
            refine zv_eq M (tgt := 61) dX4_call_44 (by decide) rfl (fun c14 => ?_) (fun c14 => ?_)
            · have hp := hp.1 c14
              refine zi_const M (-1) dX4_call_61 rfl ?_
              refine W.widen (k := 2) (n := 27) (Nat.le_of_ble_eq_true rfl) (Nat.le_of_ble_eq_true rfl) ?_
              exact zr_i M hr hlocks ((-1), σ12, K, ad) rfl ⟨hp, hx, hKC, hKS, hW⟩ hS dX4_call_62
            · have hp := hp.2 c14
              refine z_il M dX4_call_47 hl 5 rfl ?_
              refine zi_const M 1 dX4_call_49 rfl ?_
              refine zw_lt M (tgt := 61) dX4_call_50 (by decide) rfl (w_of ⟨by decide, by decide⟩) (fun c15 => ?_) (fun c15 => ?_)
              · have hp := hp.1 c15
                refine zi_const M (-1) dX4_call_61 rfl ?_
                refine W.widen (k := 2) (n := 27) (Nat.le_of_ble_eq_true rfl) (Nat.le_of_ble_eq_true rfl) ?_
                exact zr_i M hr hlocks ((-1), σ12, K, ad) rfl ⟨hp, hx, hKC, hKS, hW⟩ hS dX4_call_62
              · have hp := hp.2 c15
                refine z_il M dX4_call_53 hl 5 rfl ?_
                refine zi_si M 2000 dX4_call_55 (by decide +kernel) ?_
                refine zw_le M (tgt := 63) dX4_call_58 (by decide) rfl (w_of ⟨by decide, by decide⟩) (fun c16 => ?_) (fun c16 => ?_)
                · have hp := hp.1 c16
                  refine z_al_n M dX4_call_63 rfl hl 0 rfl ?_
                  refine zg_X4_2 M u_hin4 hW hKC.k0 (M.hts _ u_fl_X4_21) dX4_call_64 ?_
                  refine z_al_n M dX4_call_67 rfl hl 0 rfl ?_
                  refine zg_X4_7 M u_hin4 hW hKC.k0 (M.hts _ u_fl_X4_42) dX4_call_68 ?_
                  refine va_new (ci := 2) (fs := [.int (iN 0), .int (iN 0), .int (iN 0), .int (iN 0), .int (iN 0), .null, .int (iN 0), .int (iN 0), .int (iN 0)]) (C := RX2) (T := TX2) (N := 9) M.hx M.hb M.hts u_hin2 tyX2 tyX2_ok M.hown (M.hts _ u_cl_X4_19) (M.hts _ u_inst_X2) (M.hts _ u_ini_X2) M.hK hW.1 hW.2 hS hA rfl (fun j hj => by match j, hj with | 0, _ => rfl | 1, _ => rfl | 2, _ => rfl | 3, _ => rfl | 4, _ => rfl | 5, _ => rfl | 6, _ => rfl | 7, _ => rfl | 8, _ => rfl | j + 9, hj => exact absurd hj (by omega)) (Nat.le_of_ble_eq_true rfl) (Nat.le_of_ble_eq_true rfl) dX4_call_71 (fun q71 H hPn hDn hS => ?_)
                  have hW := XW.pre hPn hDn
                  refine z_dup M dX4_call_74 rfl ?_
                  refine z_il_n M dX4_call_75 rfl hl 1 rfl ?_
                  refine z_il_n M dX4_call_76 rfl hl 2 rfl ?_
                  refine z_il_n M dX4_call_77 rfl hl 3 rfl ?_
                  refine z_il M dX4_call_78 hl 4 rfl ?_
                  refine z_il M dX4_call_80 hl 5 rfl ?_
                  obtain ⟨hQ, hFn⟩ := zk_last hPn hDn hS hA
                  refine zc_IU (As := [.int (iN v1), .int (iN v2), .int (iN v3), .int (iN v4), .int (iN v5)]) (rest := [.ref q71, .int (iN (σ12.1 (0, 0, 0) 7)), .ref (ad (3, 0, 0))]) M (w_X2_init (h0 := q71)) ⟨callB_of 5 M.hts (GU u_co_X2_init) rfl rfl rfl (M.hts _ u_ini_X2) (M.hts _ u_ml_X4_136) (by decide +kernel) ⟨Nat.le_of_ble_eq_true rfl, Nat.le_of_ble_eq_true rfl⟩, rfl, M.hts _ u_in_X2_init⟩ ⟨rfl, hQ⟩ rfl hl rfl (Nat.le_of_ble_eq_true rfl) ⟨Nat.le_of_ble_eq_true rfl, Nat.le_of_ble_eq_true rfl⟩ dX4_call_82 hS hFn (fun u H1 locs hw _ hk hS => ?_)
                  obtain ⟨n17, hn1, hn2, hcl, hp⟩ := hp
                  obtain ⟨ad2, hae, haq, hW2⟩ := zk_Req (u := u) n17 hKS hKC hcl hn1 hn2 hPn hDn hFn hk hw
                  obtain ⟨σ18, eσ18⟩ : ∃ z : nS, z = mkReq σ12 n17 v1 v2 v3 v4 v5 := ⟨_, rfl⟩
                  obtain ⟨K2, eK2⟩ : ∃ z : List nKey, z = K ++ [(8, n17, 0)] ++ [(9, n17, 0)] := ⟨_, rfl⟩
                  rw [← eσ18, ← eK2] at hW2
                  have hKC2 : KC K2 := by rw [eK2]; exact hKC.a89 n17
                  have hKS2 : KS K2 := by rw [eK2]; exact hKS.a89 n17
                  have hm_n17 : (8, n17, 0) ∈ K2 := by rw [eK2]; simp
                  have hxn : ∀ κ, κ ∈ K → κ ∈ K2 ∧ ad2 κ = ad κ := fun κ h => ⟨by rw [eK2]; simp [h], hae κ h⟩
                  replace hp := hp σ18 eσ18 K2 eK2 K2 rfl
                  clear hae hPn hDn hFn hk hw hQ eK2 hcl
                  refine W.eq (g2 := F0 m 85 ls [.ref q71, .int (iN (σ12.1 (0, 0, 0) 7)), .ref (ad (3, 0, 0))]) rfl ?_
                  generalize H1 = H at hW2 hS ⊢
                  have a0 := (hxn _ hKC.k0).2
                  have a2 := (hxn _ hKC.k3).2
                  replace hx : ∀ κ, κ ∈ K0 → κ ∈ K2 ∧ ad2 κ = ad0 κ := fun κ h => ⟨(hxn κ (hx κ h).1).1, (hxn κ (hx κ h).1).2.trans (hx κ h).2⟩
                  replace hKC := hKC2
                  replace hKS := hKS2
                  replace hW := hW2
                  replace hl : lv_has ls 6 [(0, .ref (ad2 (0, 0, 0))), (1, .int (iN v1)), (2, .int (iN v2)), (3, .int (iN v3)), (4, .int (iN v4)), (5, .int (iN v5))] := by rw [a0]; exact hl
                  refine W.eq (g2 := F0 m 85 ls [.ref (ad2 (8, n17, 0)), .int (iN (σ12.1 (0, 0, 0) 7)), .ref (ad2 (3, 0, 0))]) (by rw [haq, a2]) ?_
                  clear hxn
                  clear a0
                  clear a2
                  obtain ⟨K, rfl⟩ : ∃ z, z = K2 := ⟨_, rfl⟩
                  obtain ⟨ad, rfl⟩ : ∃ z, z = ad2 := ⟨_, rfl⟩
                  obtain ⟨h19, h20, hp⟩ := hp
                  obtain ⟨σ21, eσ21⟩ : ∃ z : nS, z = s2 σ18 (3, 0, 0) ((σ12.1 (0, 0, 0) 7)).toNat (some n17) := ⟨_, rfl⟩
                  have hp := hp σ21 eσ21
                  refine zs_q (n := 40) (t0 := 3) (kd := 8) (ci := 2) M hW hS hKC.k3 (fun _ _ => rfl) rfl hm_n17 rfl rfl h19 h20 (by decide) dX4_call_85 (fun H locs hW hS => ?_)
                  rw [← eσ21] at hW
                  refine z_al_n M dX4_call_86 rfl hl 0 rfl ?_
                  refine z_dup M dX4_call_87 rfl ?_
                  refine zg_X4_7 M u_hin4 hW hKC.k0 (M.hts _ u_fl_X4_42) dX4_call_88 ?_
                  refine zi_const M 1 dX4_call_91 rfl ?_
                  refine zi_add M dX4_call_92 ?_
                  obtain ⟨σ22, eσ22⟩ : ∃ z : nS, z = s1 σ21 (0, 0, 0) 7 ((σ21.1 (0, 0, 0) 7) + 1) := ⟨_, rfl⟩
                  have hp := hp σ22 eσ22
                  refine zp_X4_7 (v := ((σ21.1 (0, 0, 0) 7) + 1)) M u_hin4 hW hS hKC.k0 (M.hts _ u_fl_X4_42) dX4_call_93 (fun H locs hW hS => ?_)
                  rw [← eσ22] at hW
                  refine z_al_n M dX4_call_96 rfl hl 0 rfl ?_
                  refine zg_X4_7 M u_hin4 hW hKC.k0 (M.hts _ u_fl_X4_42) dX4_call_97 ?_
                  refine zi_const M 1 dX4_call_100 rfl ?_
                  refine zi_sub M dX4_call_101 ?_
                  refine W.widen (k := 2) (n := 27) (Nat.le_of_ble_eq_true rfl) (Nat.le_of_ble_eq_true rfl) ?_
                  exact zr_i M hr hlocks (((σ22.1 (0, 0, 0) 7) - 1), σ22, K, ad) rfl ⟨hp, hx, hKC, hKS, hW⟩ hS dX4_call_102
                · have hp := hp.2 c16
                  refine zi_const M (-1) dX4_call_61 rfl ?_
                  refine W.widen (k := 2) (n := 27) (Nat.le_of_ble_eq_true rfl) (Nat.le_of_ble_eq_true rfl) ?_
                  exact zr_i M hr hlocks ((-1), σ12, K, ad) rfl ⟨hp, hx, hKC, hKS, hW⟩ hS dX4_call_62
          · have hp := hp.2 c11
            refine zi_const M (-1) dX4_call_37 rfl ?_
            refine W.widen (k := 2) (n := 27) (Nat.le_of_ble_eq_true rfl) (Nat.le_of_ble_eq_true rfl) ?_
            exact zr_i M hr hlocks ((-1), σ8, K, ad) rfl ⟨hp, hx, hKC, hKS, hW⟩ hS dX4_call_38
