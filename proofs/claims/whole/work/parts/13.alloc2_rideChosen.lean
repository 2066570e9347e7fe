def P_X4_rideChosen_L2 (k : nS → List nKey → Prop) (q1 : Nat) : Nat → Nat → Int → nS → List nKey → Prop
  | 0 => fun _ _ _ _ => False
  | n + 1 => fun cn v2 σ K =>
    ((w (σ.1 (4, 1, 0) 5) ≤ w v2 → k σ K) ∧ (w v2 < w (σ.1 (4, 1, 0) 5) → ((3 ≤ w v2 → k σ K) ∧ (w v2 < 3 → 0 ≤ v2 ∧ v2 < 3 ∧ P_X4_riderAt K σ (σ.1 (5, 1, 0) (v2).toNat) (fun r6 σ5 => ((r6 = none → ∀ x8 : Int, x8 = v2 + 1 → (P_X4_rideChosen_L2 k q1 n) cn x8 σ5 K) ∧ (∀ q7 : Nat, r6 = some q7 → (6, q7, 0) ∈ K ∧ 0 ≤ v2 ∧ v2 < 3 ∧ ∀ x11 : Int, x11 = (σ5.1 (5, 1, 3) (v2).toNat) → 0 ≤ v2 ∧ v2 < 3 ∧ ∀ x14 : Int, x14 = (σ5.1 (5, 1, 4) (v2).toNat) → 0 ≤ v2 ∧ v2 < 3 ∧ ∀ x17 : Int, x17 = (σ5.1 (5, 1, 2) (v2).toNat) → cn < 3 ∧ 0 ≤ v2 ∧ v2 < 3 ∧ 0 ≤ v2 ∧ v2 < 3 ∧ ∃ n22 : Nat, (10, n22, 0) ∉ K ∧ CLs K σ5 ∧ ∀ σ23 : nS, σ23 = mkLeg σ5 n22 (σ5.1 (5, 1, 0) (v2).toNat) (σ5.1 (5, 1, 1) (v2).toNat) x17 x11 x14 (σ5.1 (6, q7, 0) 6) (σ5.1 (6, q7, 0) 7) → ∀ K2 : List nKey, K2 = K ++ [(10, n22, 0)] → ∀ K : List nKey, K = K2 → P_X2_addLeg K σ23 q1 n22 (fun σ24 => ∀ σ25 : nS, σ25 = s1 σ24 (6, q7, 0) 6 x17 → P_X0_handsOn K σ25 1 v2 (fun r27 σ26 => ∀ σ28 : nS, σ28 = s1 σ26 (6, q7, 0) 7 (r27 + (σ26.1 (0, 0, 0) 8)) → ∀ σ29 : nS, σ29 = s1 σ28 (6, q7, 0) 8 ((σ28.1 (6, q7, 0) 8) + 1) → ∀ σ30 : nS, σ30 = s1 σ29 (6, q7, 0) 9 ((σ29.1 (6, q7, 0) 9) + (x14 - x11)) → ∀ x31 : Int, x31 = v2 + 1 → (P_X4_rideChosen_L2 k q1 n) (cn + 1) x31 σ30 K)))))))))
def P_X4_rideChosen (K : List nKey) (σ : nS) (q1 : Nat) (k : nS → List nKey → Prop) : Prop :=
  ∃ f32 : Nat, P_X4_rideChosen_L2 k q1 f32 0 0 σ K
def rmX4_rideChosen : Room := { frames := 2, cells := 3, slots := 24, locals := 41 }
set_option maxHeartbeats 4000000 in
set_option maxRecDepth 100000 in
theorem w_X4_rideChosen {l : Launch} {D : va_G} {ca : Nat → ClassId} {K0 : List nKey} {ad0 : nKey → Nat} {σ : nS} {sz : Nat} (hKC0 : KC K0) (hKS0 : KS K0) {q1 : Nat} (hm_q1 : (8, q1, 0) ∈ K0) {k : nS → List nKey → Prop} (hp : P_X4_rideChosen K0 σ q1 k) : Met l yX4_rideChosen (Cond.code yX4_rideChosen cX4_rideChosen 7 none :: UW) rmX4_rideChosen (ZP D ca [.ref (ad0 (0, 0, 0)), .ref (ad0 (8, q1, 0))] (ZB D K0 ad0 ca σ sz)) (ZAv D K0 ad0 ca sz k) 3 24 (FA K0 ad0 sz) := by
  refine z_start (cc := cX4_rideChosen) (maxL := 7) (ret := none) (own := RX4) (K := K0) (ad := ad0) (σ := σ) (Qc := fun sz => ZAv D K0 ad0 ca sz k) (by decide) rfl (Nat.le_of_ble_eq_true rfl) ?_
  intro p e s m args below meth c M hr hlocks hW ls hl
  have hS : va_S (FA K0 ad0 s.heap.size) s.heap s.heap [] := va_S.rf
  have hA : ∀ q : Nat, s.heap.size ≤ q → FA K0 ad0 s.heap.size q := fun q h => Or.inr h
  unfold P_X4_rideChosen at hp
  obtain ⟨K, eK⟩ : ∃ z, z = K0 := ⟨_, rfl⟩
  obtain ⟨ad, ea⟩ : ∃ z, z = ad0 := ⟨_, rfl⟩
  have hx : ∀ κ, κ ∈ K0 → κ ∈ K ∧ ad κ = ad0 κ := fun κ h => ⟨by rw [eK]; exact h, by rw [ea]⟩
  have hKC : KC K := by rw [eK]; exact hKC0
  have hKS : KS K := by rw [eK]; exact hKS0
  replace hW : XW D (FA K0 ad0 s.heap.size) K ad (cR ca ad σ) s.heap := by rw [eK, ea]; exact hW
  replace hl : lv_has ls 7 [(0, .ref (ad (0, 0, 0))), (1, .ref (ad (8, q1, 0)))] := by rw [ea]; exact hl
  rw [← eK] at hp hm_q1
  clear eK ea
  have hL2 : ∀ (f2 cn : Nat) (v2 : Int) (σ : nS) (K : List nKey) (ad : nKey → Nat) (H : Heap) (locs : List Loc) (ls : Array Slot), cn ≤ 3 → KC K → KS K → (∀ κ, κ ∈ K0 → κ ∈ K ∧ ad κ = ad0 κ) → (8, q1, 0) ∈ K → P_X4_rideChosen_L2 k q1 f2 cn v2 σ K → XW D (FA K0 ad0 s.heap.size) K ad (cR ca ad σ) H → va_S (FA K0 ad0 s.heap.size) s.heap H locs → lv_has ls 7 [(0, .ref (ad (0, 0, 0))), (1, .ref (ad (8, q1, 0))), (2, .int (iN v2))] → W p l e rmX4_rideChosen s m args below meth c H locs cn (8 * cn) (MQ below (ZAv D K0 ad0 ca s.heap.size k) args s 3 24 (FA K0 ad0 s.heap.size)) (F0 m 2 ls []) := by
    intro f2
    induction f2 with
    | zero =>
      intro cn v2 σ K ad H locs ls hcn hKC hKS hx hm_q1 hp
      exact hp.elim
    | succ f2 ih2 =>
      intro cn v2 σ K ad H locs ls hcn hKC hKS hx hm_q1 hp hW hS hl
      refine z_il_n M dX4_rideChosen_2 rfl hl 2 rfl ?_
      refine z_al_n M dX4_rideChosen_3 rfl hl 0 rfl ?_
      refine zg_X4_4 M u_hin4 hW hKC.k0 (M.hts _ u_fl_X4_32) dX4_rideChosen_4 ?_
      refine zg_X0_5 M u_hin0 hW (hKC.k4 z_lt1) (M.hts _ u_fl_X4_239) dX4_rideChosen_7 ?_
      refine zw_ge M (tgt := 168) dX4_rideChosen_10 (by decide) rfl rfl (fun c1 => ?_) (fun c1 => ?_)
      · have hp := hp.1 c1
        refine W.widen (k := 3) (n := 24) (by omega) (by omega) ?_
        exact zr_v M hr hlocks ((), σ, K, ad) rfl ⟨hp, hx, hKC, hKS, hW⟩ hS dX4_rideChosen_168
      · have hp := hp.2 c1
        refine z_il_n M dX4_rideChosen_13 rfl hl 2 rfl ?_
        refine zi_const M 3 dX4_rideChosen_14 rfl ?_
        refine zw_ge M (tgt := 168) dX4_rideChosen_15 (by decide) rfl (w_of ⟨by decide, by decide⟩) (fun c2 => ?_) (fun c2 => ?_)
        · have hp := hp.1 c2
          refine W.widen (k := 3) (n := 24) (by omega) (by omega) ?_
          exact zr_v M hr hlocks ((), σ, K, ad) rfl ⟨hp, hx, hKC, hKS, hW⟩ hS dX4_rideChosen_168
        · have hp := hp.2 c2
          refine z_al_n M dX4_rideChosen_18 rfl hl 0 rfl ?_
          refine z_al_n M dX4_rideChosen_19 rfl hl 0 rfl ?_
          refine zg_X4_4 M u_hin4 hW hKC.k0 (M.hts _ u_fl_X4_32) dX4_rideChosen_20 ?_
          refine zg_X0_0 M u_hin0 hW (hKC.k4 z_lt1) (M.hts _ u_fl_X4_263) dX4_rideChosen_23 ?_
          refine z_il_n M dX4_rideChosen_26 rfl hl 2 rfl ?_
          obtain ⟨h3, h4, hp⟩ := hp
          refine za_i (n := 3) M hW (hKC.k5 z_lt1 (by decide)) (fun _ _ => rfl) h3 h4 (by decide) dX4_rideChosen_27 ?_
          have hfa := hW.fa hS hA
          refine zc_VU (As := [.int (iN (σ.1 (5, 1, 0) (v2).toNat))]) (rest := []) M (w_X4_riderAt hKC  hp) (cuV M 1 u_co_X4_riderAt u_ml_X4_55 u_ini_X4 u_in_X4_riderAt u_se_X4_riderAt (by decide +kernel) rfl rfl ⟨Nat.le_of_ble_eq_true rfl, Nat.le_of_ble_eq_true rfl⟩) (z_recv M hW hKC.k0 rfl rfl) ⟨rfl, hW.weaken (fun _ _ => trivial)⟩ rfl hl rfl (Nat.le_of_ble_eq_true rfl) ⟨by show _ ≤ 3; omega, by show _ ≤ 24; omega⟩ dX4_rideChosen_28 hS hfa (fun u H locs hw _ _ hS => ?_)
          obtain ⟨r6, σ5⟩ := u
          obtain ⟨hp, hW2⟩ := hw
          have hW := hW2.weaken hfa
          try dsimp only at hp
          rcases r6 with _ | q7
          · refine W.eq (g2 := F0 m 31 ls (.null :: [])) rfl ?_
            have hp := hp.1 rfl
            refine z_asn_n M [(3, .null), (0, .ref (ad (0, 0, 0))), (1, .ref (ad (8, q1, 0))), (2, .int (iN v2))] dX4_rideChosen_31 rfl hl (by decide) rfl (fun ls hl => ?_)
            refine z_aln_n M dX4_rideChosen_32 rfl hl 0 rfl ?_
            refine z_ifnnN M dX4_rideChosen_33 ?_
            refine zg M (tgt := 162) dX4_rideChosen_36 (by decide) ?_
            obtain ⟨x8, ex8⟩ : ∃ z : Int, z = v2 + 1 := ⟨_, rfl⟩
            have hp := hp x8 ex8
            refine z_inc M [(2, .int (iN x8)), (3, .null), (0, .ref (ad (0, 0, 0))), (1, .ref (ad (8, q1, 0)))] x8 dX4_rideChosen_162 hl 3 rfl ex8.symm (by decide) rfl (fun ls hl => ?_)
            refine zg M (tgt := 2) dX4_rideChosen_165 (by decide) ?_
            refine W.widen (k := cn) (n := 8 * cn) (by omega) (by omega) ?_
            exact ih2 cn x8 σ5 _ _ _ _ _ (by omega) hKC hKS hx hm_q1 hp hW hS (lv_sub hl [2, 3, 0] rfl)
          · refine W.eq (g2 := F0 m 31 ls (.ref (ad (6, q7, 0)) :: [])) rfl ?_
            obtain ⟨hm_q7, hp⟩ := hp.2 q7 rfl
            refine z_as_n M [(3, .ref (ad (6, q7, 0))), (0, .ref (ad (0, 0, 0))), (1, .ref (ad (8, q1, 0))), (2, .int (iN v2))] dX4_rideChosen_31 rfl hl (by decide) rfl (fun ls hl => ?_)
            refine z_al_n M dX4_rideChosen_32 rfl hl 0 rfl ?_
            refine z_ifnn M (tgt := 39) dX4_rideChosen_33 (by decide) ?_
            refine z_al_n M dX4_rideChosen_39 rfl hl 1 rfl ?_
            refine zg_X4_4 M u_hin4 hW hKC.k0 (M.hts _ u_fl_X4_32) dX4_rideChosen_40 ?_
            refine zg_X0_3 M u_hin0 hW (hKC.k4 z_lt1) (M.hts _ u_fl_X4_285) dX4_rideChosen_43 ?_
            refine z_il_n M dX4_rideChosen_46 rfl hl 3 rfl ?_
            obtain ⟨h9, h10, hp⟩ := hp
            refine za_i (n := 3) M hW (hKC.k5 z_lt1 (by decide)) (fun _ _ => rfl) h9 h10 (by decide) dX4_rideChosen_47 ?_
            refine zi_nm (fun x11 ex11 => ?_)
            have hp := hp x11 ex11
            refine z_is M [(4, .int (iN x11)), (3, .ref (ad (6, q7, 0))), (0, .ref (ad (0, 0, 0))), (1, .ref (ad (8, q1, 0))), (2, .int (iN v2))] dX4_rideChosen_48 hl (by decide) rfl (fun ls hl => ?_)
            refine z_al_n M dX4_rideChosen_50 rfl hl 2 rfl ?_
            refine zg_X4_4 M u_hin4 hW hKC.k0 (M.hts _ u_fl_X4_32) dX4_rideChosen_51 ?_
            refine zg_X0_4 M u_hin0 hW (hKC.k4 z_lt1) (M.hts _ u_fl_X4_287) dX4_rideChosen_54 ?_
            refine z_il_n M dX4_rideChosen_57 rfl hl 4 rfl ?_
            obtain ⟨h12, h13, hp⟩ := hp
            refine za_i (n := 3) M hW (hKC.k5 z_lt1 (by decide)) (fun _ _ => rfl) h12 h13 (by decide) dX4_rideChosen_58 ?_
            refine zi_nm (fun x14 ex14 => ?_)
            have hp := hp x14 ex14
            refine z_is M [(5, .int (iN x14)), (4, .int (iN x11)), (3, .ref (ad (6, q7, 0))), (0, .ref (ad (0, 0, 0))), (1, .ref (ad (8, q1, 0))), (2, .int (iN v2))] dX4_rideChosen_59 hl (by decide) rfl (fun ls hl => ?_)
            refine z_al_n M dX4_rideChosen_61 rfl hl 3 rfl ?_
            refine zg_X4_4 M u_hin4 hW hKC.k0 (M.hts _ u_fl_X4_32) dX4_rideChosen_62 ?_
            refine zg_X0_2 M u_hin0 hW (hKC.k4 z_lt1) (M.hts _ u_fl_X4_289) dX4_rideChosen_65 ?_
            refine z_il_n M dX4_rideChosen_68 rfl hl 5 rfl ?_
            obtain ⟨h15, h16, hp⟩ := hp
            refine za_i (n := 3) M hW (hKC.k5 z_lt1 (by decide)) (fun _ _ => rfl) h15 h16 (by decide) dX4_rideChosen_69 ?_
            refine zi_nm (fun x17 ex17 => ?_)
            have hp := hp x17 ex17
            refine z_is M [(6, .int (iN x17)), (5, .int (iN x14)), (4, .int (iN x11)), (3, .ref (ad (6, q7, 0))), (0, .ref (ad (0, 0, 0))), (1, .ref (ad (8, q1, 0))), (2, .int (iN v2))] dX4_rideChosen_70 hl (by decide) rfl (fun ls hl => ?_)
            refine z_al_n M dX4_rideChosen_72 rfl hl 5 rfl ?_
            obtain ⟨hcn3, hp⟩ := hp
            refine va_new (ci := 1) (fs := [.int (iN 0), .int (iN 0), .int (iN 0), .int (iN 0), .int (iN 0), .int (iN 0), .int (iN 0), .int (iN 0)]) (C := RX1) (T := TX1) (N := 8) M.hx M.hb M.hts u_hin1 tyX1 tyX1_ok M.hown (M.hts _ u_cl_X4_183) (M.hts _ u_inst_X1) (M.hts _ u_ini_X1) M.hK hW.1 hW.2 hS hA rfl (fun j hj => by match j, hj with | 0, _ => rfl | 1, _ => rfl | 2, _ => rfl | 3, _ => rfl | 4, _ => rfl | 5, _ => rfl | 6, _ => rfl | 7, _ => rfl | j + 8, hj => exact absurd hj (by omega)) (by show _ ≤ 3; omega) (by show _ ≤ 24; omega) dX4_rideChosen_73 (fun q73 H hPn hDn hS => ?_)
            have hW := XW.pre hPn hDn
            refine z_dup M dX4_rideChosen_76 rfl ?_
            refine z_al_n M dX4_rideChosen_77 rfl hl 4 rfl ?_
            refine zg_X4_4 M u_hin4 hW hKC.k0 (M.hts _ u_fl_X4_32) dX4_rideChosen_78 ?_
            refine zg_X0_0 M u_hin0 hW (hKC.k4 z_lt1) (M.hts _ u_fl_X4_263) dX4_rideChosen_81 ?_
            refine z_il_n M dX4_rideChosen_84 rfl hl 6 rfl ?_
            obtain ⟨h18, h19, hp⟩ := hp
            refine za_i (n := 3) M hW (hKC.k5 z_lt1 (by decide)) (fun _ _ => rfl) h18 h19 (by decide) dX4_rideChosen_85 ?_
            refine z_al_n M dX4_rideChosen_86 rfl hl 4 rfl ?_
            refine zg_X4_4 M u_hin4 hW hKC.k0 (M.hts _ u_fl_X4_32) dX4_rideChosen_87 ?_
            refine zg_X0_1 M u_hin0 hW (hKC.k4 z_lt1) (M.hts _ u_fl_X4_292) dX4_rideChosen_90 ?_
            refine z_il_n M dX4_rideChosen_93 rfl hl 6 rfl ?_
            obtain ⟨h20, h21, hp⟩ := hp
            refine za_i (n := 3) M hW (hKC.k5 z_lt1 (by decide)) (fun _ _ => rfl) h20 h21 (by decide) dX4_rideChosen_94 ?_
            refine z_il M dX4_rideChosen_95 hl 0 rfl ?_
            refine z_il M dX4_rideChosen_97 hl 2 rfl ?_
            refine z_il M dX4_rideChosen_99 hl 1 rfl ?_
            refine z_al_n M dX4_rideChosen_101 rfl hl 3 rfl ?_
            refine zg_X3_6 M u_hin3 hW hm_q7 (M.hts _ u_fl_X4_94) dX4_rideChosen_102 ?_
            refine z_al_n M dX4_rideChosen_105 rfl hl 3 rfl ?_
            refine zg_X3_7 M u_hin3 hW hm_q7 (M.hts _ u_fl_X4_101) dX4_rideChosen_106 ?_
            obtain ⟨hQ, hFn⟩ := zk_last hPn hDn hS hA
            refine zc_IU (As := [.int (iN (σ5.1 (5, 1, 0) (v2).toNat)), .int (iN (σ5.1 (5, 1, 1) (v2).toNat)), .int (iN x17), .int (iN x11), .int (iN x14), .int (iN (σ5.1 (6, q7, 0) 6)), .int (iN (σ5.1 (6, q7, 0) 7))]) (rest := [.ref q73, .ref (ad (8, q1, 0))]) M (w_X1_init (h0 := q73)) ⟨callB_of 7 M.hts (GU u_co_X1_init) rfl rfl rfl (M.hts _ u_ini_X1) (M.hts _ u_ml_X4_295) (by decide +kernel) ⟨Nat.le_of_ble_eq_true rfl, Nat.le_of_ble_eq_true rfl⟩, rfl, M.hts _ u_in_X1_init⟩ ⟨rfl, hQ⟩ rfl hl rfl (Nat.le_of_ble_eq_true rfl) ⟨by show _ ≤ 3; omega, by show _ ≤ 24; omega⟩ dX4_rideChosen_109 hS hFn (fun u H1 locs hw _ hk hS => ?_)
            obtain ⟨n22, hn1, hcl, hp⟩ := hp
            obtain ⟨ad2, hae, haq, hW2⟩ := zk_Leg (u := u) n22 hKS hKC hcl hn1 hPn hDn hFn hk hw
            obtain ⟨σ23, eσ23⟩ : ∃ z : nS, z = mkLeg σ5 n22 (σ5.1 (5, 1, 0) (v2).toNat) (σ5.1 (5, 1, 1) (v2).toNat) x17 x11 x14 (σ5.1 (6, q7, 0) 6) (σ5.1 (6, q7, 0) 7) := ⟨_, rfl⟩
            obtain ⟨K2, eK2⟩ : ∃ z : List nKey, z = K ++ [(10, n22, 0)] := ⟨_, rfl⟩
            rw [← eσ23, ← eK2] at hW2
            have hKC2 : KC K2 := by rw [eK2]; exact hKC.a10 n22
            have hKS2 : KS K2 := by rw [eK2]; exact hKS.a10 n22
            have hm_n22 : (10, n22, 0) ∈ K2 := by rw [eK2]; simp
            have hxn : ∀ κ, κ ∈ K → κ ∈ K2 ∧ ad2 κ = ad κ := fun κ h => ⟨by rw [eK2]; simp [h], hae κ h⟩
            replace hp := hp σ23 eσ23 K2 eK2 K2 rfl
            clear hae hPn hDn hFn hk hw hQ eK2 hcl
            refine W.eq (g2 := F0 m 112 ls [.ref q73, .ref (ad (8, q1, 0))]) rfl ?_
            generalize H1 = H at hW2 hS ⊢
            have a0 := (hxn _ hm_q7).2
            have a1 := (hxn _ hKC.k0).2
            have a2 := (hxn _ hm_q1).2
            replace hm_q1 := (hxn _ hm_q1).1
            replace hm_q7 := (hxn _ hm_q7).1
            replace hx : ∀ κ, κ ∈ K0 → κ ∈ K2 ∧ ad2 κ = ad0 κ := fun κ h => ⟨(hxn κ (hx κ h).1).1, (hxn κ (hx κ h).1).2.trans (hx κ h).2⟩
            replace hKC := hKC2
            replace hKS := hKS2
            replace hW := hW2
            replace hl : lv_has ls 7 [(6, .int (iN x17)), (5, .int (iN x14)), (4, .int (iN x11)), (3, .ref (ad2 (6, q7, 0))), (0, .ref (ad2 (0, 0, 0))), (1, .ref (ad2 (8, q1, 0))), (2, .int (iN v2))] := by rw [a0, a1, a2]; exact hl
            refine W.eq (g2 := F0 m 112 ls [.ref (ad2 (10, n22, 0)), .ref (ad2 (8, q1, 0))]) (by rw [haq, a2]) ?_
            clear hxn
            clear a0
            clear a1
            clear a2
            obtain ⟨K, rfl⟩ : ∃ z, z = K2 := ⟨_, rfl⟩
            obtain ⟨ad, rfl⟩ : ∃ z, z = ad2 := ⟨_, rfl⟩
            have hfa := hW.fa hS hA
            refine zc_VU (As := [.ref (ad (10, n22, 0))]) (rest := []) M (w_X2_addLeg hKC hm_q1 hm_n22 hp) (cuV M 1 u_co_X2_addLeg u_ml_X4_298 u_ini_X2 u_in_X2_addLeg u_se_X2_addLeg (by decide +kernel) rfl rfl ⟨Nat.le_of_ble_eq_true rfl, Nat.le_of_ble_eq_true rfl⟩) (z_recv M hW hm_q1 rfl rfl) ⟨rfl, hW.weaken (fun _ _ => trivial)⟩ rfl hl rfl (Nat.le_of_ble_eq_true rfl) ⟨by show _ ≤ 3; omega, by show _ ≤ 24; omega⟩ dX4_rideChosen_112 hS hfa (fun σ24 H locs hw _ _ hS => ?_)
            obtain ⟨hp, hW2⟩ := hw
            have hW := hW2.weaken hfa
            try dsimp only at hp
            refine z_al_n M dX4_rideChosen_115 rfl hl 3 rfl ?_
            refine z_il M dX4_rideChosen_116 hl 0 rfl ?_
            obtain ⟨σ25, eσ25⟩ : ∃ z : nS, z = s1 σ24 (6, q7, 0) 6 x17 := ⟨_, rfl⟩
            have hp := hp σ25 eσ25
            refine zp_X3_6 (v := x17) M u_hin3 hW hS hm_q7 (M.hts _ u_fl_X4_94) dX4_rideChosen_118 (fun H locs hW hS => ?_)
            rw [← eσ25] at hW
            refine z_al_n M dX4_rideChosen_121 rfl hl 3 rfl ?_
            refine z_al_n M dX4_rideChosen_122 rfl hl 4 rfl ?_
            refine zg_X4_4 M u_hin4 hW hKC.k0 (M.hts _ u_fl_X4_32) dX4_rideChosen_123 ?_
            refine z_il_n M dX4_rideChosen_126 rfl hl 6 rfl ?_
            have hfa := hW.fa hS hA
            refine zc_VU (As := [.int (iN v2)]) (rest := [.ref (ad (6, q7, 0))]) M (w_X0_handsOn hKC z_lt1 hp) (cuV M 1 u_co_X0_handsOn u_ml_X4_302 u_ini_X0 u_in_X0_handsOn u_se_X0_handsOn (by decide +kernel) rfl rfl ⟨Nat.le_of_ble_eq_true rfl, Nat.le_of_ble_eq_true rfl⟩) (z_recv M hW (hKC.k4 z_lt1) rfl rfl) ⟨rfl, hW.weaken (fun _ _ => trivial)⟩ rfl hl rfl (Nat.le_of_ble_eq_true rfl) ⟨by show _ ≤ 3; omega, by show _ ≤ 24; omega⟩ dX4_rideChosen_127 hS hfa (fun u H locs hw _ _ hS => ?_)
            obtain ⟨r27, σ26⟩ := u
            obtain ⟨hp, hW2⟩ := hw
            have hW := hW2.weaken hfa
            try dsimp only at hp
            refine z_al_n M dX4_rideChosen_130 rfl hl 4 rfl ?_
            refine zg_X4_8 M u_hin4 hW hKC.k0 (M.hts _ u_fl_X4_45) dX4_rideChosen_131 ?_
            refine zi_add M dX4_rideChosen_134 ?_
            obtain ⟨σ28, eσ28⟩ : ∃ z : nS, z = s1 σ26 (6, q7, 0) 7 (r27 + (σ26.1 (0, 0, 0) 8)) := ⟨_, rfl⟩
            have hp := hp σ28 eσ28
            refine zp_X3_7 (v := (r27 + (σ26.1 (0, 0, 0) 8))) M u_hin3 hW hS hm_q7 (M.hts _ u_fl_X4_101) dX4_rideChosen_135 (fun H locs hW hS => ?_)
            rw [← eσ28] at hW
            refine z_al_n M dX4_rideChosen_138 rfl hl 3 rfl ?_
            refine z_dup M dX4_rideChosen_139 rfl ?_
            refine zg_X3_8 M u_hin3 hW hm_q7 (M.hts _ u_fl_X4_104) dX4_rideChosen_140 ?_
            refine zi_const M 1 dX4_rideChosen_143 rfl ?_
            refine zi_add M dX4_rideChosen_144 ?_
            obtain ⟨σ29, eσ29⟩ : ∃ z : nS, z = s1 σ28 (6, q7, 0) 8 ((σ28.1 (6, q7, 0) 8) + 1) := ⟨_, rfl⟩
            have hp := hp σ29 eσ29
            refine zp_X3_8 (v := ((σ28.1 (6, q7, 0) 8) + 1)) M u_hin3 hW hS hm_q7 (M.hts _ u_fl_X4_104) dX4_rideChosen_145 (fun H locs hW hS => ?_)
            rw [← eσ29] at hW
            refine z_al_n M dX4_rideChosen_148 rfl hl 3 rfl ?_
            refine z_dup M dX4_rideChosen_149 rfl ?_
            refine zg_X3_9 M u_hin3 hW hm_q7 (M.hts _ u_fl_X4_107) dX4_rideChosen_150 ?_
            refine z_il M dX4_rideChosen_153 hl 1 rfl ?_
            refine z_il M dX4_rideChosen_155 hl 2 rfl ?_
            refine zi_sub M dX4_rideChosen_157 ?_
            refine zi_add M dX4_rideChosen_158 ?_
            obtain ⟨σ30, eσ30⟩ : ∃ z : nS, z = s1 σ29 (6, q7, 0) 9 ((σ29.1 (6, q7, 0) 9) + (x14 - x11)) := ⟨_, rfl⟩
            have hp := hp σ30 eσ30
            refine zp_X3_9 (v := ((σ29.1 (6, q7, 0) 9) + (x14 - x11))) M u_hin3 hW hS hm_q7 (M.hts _ u_fl_X4_107) dX4_rideChosen_159 (fun H locs hW hS => ?_)
            rw [← eσ30] at hW
            obtain ⟨x31, ex31⟩ : ∃ z : Int, z = v2 + 1 := ⟨_, rfl⟩
            have hp := hp x31 ex31
            refine z_inc M [(2, .int (iN x31)), (6, .int (iN x17)), (5, .int (iN x14)), (4, .int (iN x11)), (3, .ref (ad (6, q7, 0))), (0, .ref (ad (0, 0, 0))), (1, .ref (ad (8, q1, 0)))] x31 dX4_rideChosen_162 hl 6 rfl ex31.symm (by decide) rfl (fun ls hl => ?_)
            refine zg M (tgt := 2) dX4_rideChosen_165 (by decide) ?_
            refine W.widen (k := (cn + 1)) (n := 8 * (cn + 1)) (by omega) (by omega) ?_
            exact ih2 (cn + 1) x31 σ30 _ _ _ _ _ (by omega) hKC hKS hx hm_q1 hp hW hS (lv_sub hl [5, 6, 0] rfl)
  refine zi_const M 0 dX4_rideChosen_0 rfl ?_
  refine z_is_n M [(2, .int (iN 0)), (0, .ref (ad (0, 0, 0))), (1, .ref (ad (8, q1, 0)))] dX4_rideChosen_1 rfl hl (by decide) rfl (fun ls hl => ?_)
  obtain ⟨f32, hp⟩ := hp
  refine W.widen (k := 0) (n := 8 * 0) (by omega) (by omega) ?_
  exact hL2 f32 0 0 σ _ _ _ _ _ (by omega) hKC hKS hx hm_q1 hp hW hS (lv_sub hl [1, 2, 0] rfl)
