def P_X4_dropLegsBehind_L7 (K : List nKey) (k : nS → Prop) (q1 : Nat) (v2 : Int) : Nat → Int → nS → Prop
  | 0 => fun _ _ => False
  | n + 1 => fun v3 σ =>
    ((w v3 ≤ w v2 → ∀ σ2 : nS, σ2 = s1 σ (8, q1, 0) 6 (v2 + 1) → k σ2) ∧ (w v2 < w v3 → P_X2_legAt K σ q1 v3 (fun r4 σ3 => ((r4 = none → ∀ x6 : Int, x6 = v3 + (-1) → (P_X4_dropLegsBehind_L7 K k q1 v2 n) x6 σ3) ∧ (∀ q5 : Nat, r4 = some q5 → (10, q5, 0) ∈ K ∧ P_X4_riderAt K σ3 (σ3.1 (10, q5, 0) 0) (fun r8 σ7 => ((r8 = none → ∀ x10 : Int, x10 = v3 + (-1) → (P_X4_dropLegsBehind_L7 K k q1 v2 n) x10 σ7) ∧ (∀ q9 : Nat, r8 = some q9 → (6, q9, 0) ∈ K ∧ ∀ σ11 : nS, σ11 = s1 σ7 (6, q9, 0) 6 (σ7.1 (10, q5, 0) 3) → ∀ σ12 : nS, σ12 = s1 σ11 (6, q9, 0) 7 (σ11.1 (10, q5, 0) 4) → ∀ σ13 : nS, σ13 = s1 σ12 (6, q9, 0) 8 ((σ12.1 (6, q9, 0) 8) - 1) → ∀ σ14 : nS, σ14 = s1 σ13 (6, q9, 0) 9 ((σ13.1 (6, q9, 0) 9) - ((σ13.1 (10, q5, 0) 6) - (σ13.1 (10, q5, 0) 2))) → ∀ x15 : Int, x15 = v3 + (-1) → (P_X4_dropLegsBehind_L7 K k q1 v2 n) x15 σ14))))))))
def P_X4_dropLegsBehind (K : List nKey) (σ : nS) (q1 : Nat) (v2 : Int) (k : nS → Prop) : Prop :=
  ∀ x16 : Int, x16 = ((σ.1 (8, q1, 0) 6) - 1) → ∃ f17 : Nat, P_X4_dropLegsBehind_L7 K k q1 v2 f17 x16 σ
def rmX4_dropLegsBehind : Room := { frames := 1, cells := 0, slots := 0, locals := 21 }
set_option maxHeartbeats 4000000 in
set_option maxRecDepth 100000 in
theorem w_X4_dropLegsBehind {l : Launch} {D : va_G} {ca : Nat → ClassId} {K : List nKey} {ad : nKey → Nat} {σ : nS} {sz : Nat} (hKC : KC K) {q1 : Nat} {v2 : Int} (hm_q1 : (8, q1, 0) ∈ K) {k : nS → Prop} (hp : P_X4_dropLegsBehind K σ q1 v2 k) : Met l yX4_dropLegsBehind (Cond.code yX4_dropLegsBehind cX4_dropLegsBehind 6 none :: UW) rmX4_dropLegsBehind (ZP D ca [.ref (ad (0, 0, 0)), .ref (ad (8, q1, 0)), .int (iN v2)] (ZB D K ad ca σ sz)) (ZQv D K ad ca sz k) 0 0 (FA K ad sz) := by
  refine z_start (cc := cX4_dropLegsBehind) (maxL := 6) (ret := none) (own := RX4) (K := K) (ad := ad) (σ := σ) (Qc := fun sz => ZQv D K ad ca sz k) (by decide) rfl (Nat.le_of_ble_eq_true rfl) ?_
  intro p e s m args below meth c M hr hlocks hW ls hl
  have hS : va_S (FA K ad s.heap.size) s.heap s.heap [] := va_S.rf
  have hA : ∀ q : Nat, s.heap.size ≤ q → FA K ad s.heap.size q := fun q h => Or.inr h
  replace hl : lv_has ls 6 [(0, .ref (ad (0, 0, 0))), (1, .ref (ad (8, q1, 0))), (2, .int (iN v2))] := hl
  unfold P_X4_dropLegsBehind at hp
  have hL7 : ∀ (f7 : Nat) (v3 : Int) (σ : nS) (H : Heap) (locs : List Loc) (ls : Array Slot), P_X4_dropLegsBehind_L7 K k q1 v2 f7 v3 σ → XW D (FA K ad s.heap.size) K ad (cR ca ad σ) H → va_S (FA K ad s.heap.size) s.heap H locs → lv_has ls 6 [(0, .ref (ad (0, 0, 0))), (1, .ref (ad (8, q1, 0))), (2, .int (iN v2)), (3, .int (iN v3))] → W p l e rmX4_dropLegsBehind s m args below meth c H locs 0 0 (MQ below (ZQv D K ad ca s.heap.size k) args s 0 0 (FA K ad s.heap.size)) (F0 m 7 ls []) := by
    intro f7
    induction f7 with
    | zero =>
      intro v3 σ H locs ls  hp
      exact hp.elim
    | succ f7 ih7 =>
      intro v3 σ H locs ls  hp hW hS hl
      refine z_il_n M dX4_dropLegsBehind_7 rfl hl 3 rfl ?_
      refine z_il_n M dX4_dropLegsBehind_8 rfl hl 2 rfl ?_
      refine zw_le M (tgt := 102) dX4_dropLegsBehind_9 (by decide) rfl rfl (fun c1 => ?_) (fun c1 => ?_)
      · have hp := hp.1 c1
        refine z_al_n M dX4_dropLegsBehind_102 rfl hl 1 rfl ?_
        refine z_il_n M dX4_dropLegsBehind_103 rfl hl 2 rfl ?_
        refine zi_const M 1 dX4_dropLegsBehind_104 rfl ?_
        refine zi_add M dX4_dropLegsBehind_105 ?_
        obtain ⟨σ2, eσ2⟩ : ∃ z : nS, z = s1 σ (8, q1, 0) 6 (v2 + 1) := ⟨_, rfl⟩
        have hp := hp σ2 eσ2
        refine zp_X2_6 (v := (v2 + 1)) M u_hin2 hW hS hm_q1 (M.hts _ u_fl_X4_175) dX4_dropLegsBehind_106 (fun H locs hW hS => ?_)
        rw [← eσ2] at hW
        exact zr_v M hr hlocks σ2 rfl ⟨hp, hW⟩ hS dX4_dropLegsBehind_109
      · have hp := hp.2 c1
        refine z_al_n M dX4_dropLegsBehind_12 rfl hl 1 rfl ?_
        refine z_il_n M dX4_dropLegsBehind_13 rfl hl 3 rfl ?_
        have hfa := hW.fa hS hA
        refine zc_VU (As := [.int (iN v3)]) (rest := []) M (w_X2_legAt hKC hm_q1 hp) (cuV M 1 u_co_X2_legAt u_ml_X4_178 u_ini_X2 u_in_X2_legAt u_se_X2_legAt (by decide +kernel) rfl rfl ⟨Nat.le_of_ble_eq_true rfl, Nat.le_of_ble_eq_true rfl⟩) (z_recv M hW hm_q1 rfl rfl) ⟨rfl, hW.weaken (fun _ _ => trivial)⟩ rfl hl rfl (Nat.le_of_ble_eq_true rfl) ⟨Nat.zero_le _, Nat.zero_le _⟩ dX4_dropLegsBehind_14 hS hfa (fun u H locs hw _ _ hS => ?_)
        obtain ⟨r4, σ3⟩ := u
        obtain ⟨hp, hW2⟩ := hw
        have hW := hW2.weaken hfa
        try dsimp only at hp
        rcases r4 with _ | q5
        · refine W.eq (g2 := F0 m 17 ls (.null :: [])) rfl ?_
          have hp := hp.1 rfl
          refine z_asn M [(4, .null), (0, .ref (ad (0, 0, 0))), (1, .ref (ad (8, q1, 0))), (2, .int (iN v2)), (3, .int (iN v3))] dX4_dropLegsBehind_17 hl (by decide) rfl (fun ls hl => ?_)
          refine z_aln M dX4_dropLegsBehind_19 hl 0 rfl ?_
          refine z_ifnnN M dX4_dropLegsBehind_21 ?_
          refine z_null M dX4_dropLegsBehind_24 ?_
          refine zg M (tgt := 37) dX4_dropLegsBehind_25 (by decide) ?_
          refine z_asn M [(5, .null), (4, .null), (0, .ref (ad (0, 0, 0))), (1, .ref (ad (8, q1, 0))), (2, .int (iN v2)), (3, .int (iN v3))] dX4_dropLegsBehind_37 hl (by decide) rfl (fun ls hl => ?_)
          refine z_aln M dX4_dropLegsBehind_39 hl 0 rfl ?_
          refine z_ifnN M (tgt := 96) dX4_dropLegsBehind_41 (by decide) ?_
          obtain ⟨x6, ex6⟩ : ∃ z : Int, z = v3 + (-1) := ⟨_, rfl⟩
          have hp := hp x6 ex6
          refine z_inc M [(3, .int (iN x6)), (5, .null), (4, .null), (0, .ref (ad (0, 0, 0))), (1, .ref (ad (8, q1, 0))), (2, .int (iN v2))] x6 dX4_dropLegsBehind_96 hl 5 rfl ex6.symm (by decide) rfl (fun ls hl => ?_)
          refine zg M (tgt := 7) dX4_dropLegsBehind_99 (by decide) ?_
          exact ih7 x6 σ3 _ _ _  hp hW hS (lv_sub hl [3, 4, 5, 0] rfl)
        · refine W.eq (g2 := F0 m 17 ls (.ref (ad (10, q5, 0)) :: [])) rfl ?_
          obtain ⟨hm_q5, hp⟩ := hp.2 q5 rfl
          refine z_as M [(4, .ref (ad (10, q5, 0))), (0, .ref (ad (0, 0, 0))), (1, .ref (ad (8, q1, 0))), (2, .int (iN v2)), (3, .int (iN v3))] dX4_dropLegsBehind_17 hl (by decide) rfl (fun ls hl => ?_)
          refine z_al M dX4_dropLegsBehind_19 hl 0 rfl ?_
          refine z_ifnn M (tgt := 28) dX4_dropLegsBehind_21 (by decide) ?_
          refine z_al_n M dX4_dropLegsBehind_28 rfl hl 1 rfl ?_
          refine z_al M dX4_dropLegsBehind_29 hl 0 rfl ?_
          refine zg_X1_0 M u_hin1 hW hm_q5 (M.hts _ u_fl_X4_182) dX4_dropLegsBehind_31 ?_
          have hfa := hW.fa hS hA
          refine zc_VU (As := [.int (iN (σ3.1 (10, q5, 0) 0))]) (rest := []) M (w_X4_riderAt hKC  hp) (cuV M 1 u_co_X4_riderAt u_ml_X4_55 u_ini_X4 u_in_X4_riderAt u_se_X4_riderAt (by decide +kernel) rfl rfl ⟨Nat.le_of_ble_eq_true rfl, Nat.le_of_ble_eq_true rfl⟩) (z_recv M hW hKC.k0 rfl rfl) ⟨rfl, hW.weaken (fun _ _ => trivial)⟩ rfl hl rfl (Nat.le_of_ble_eq_true rfl) ⟨Nat.zero_le _, Nat.zero_le _⟩ dX4_dropLegsBehind_34 hS hfa (fun u H locs hw _ _ hS => ?_)
          obtain ⟨r8, σ7⟩ := u
          obtain ⟨hp, hW2⟩ := hw
          have hW := hW2.weaken hfa
          try dsimp only at hp
          rcases r8 with _ | q9
          · refine W.eq (g2 := F0 m 37 ls (.null :: [])) rfl ?_
            have hp := hp.1 rfl
            refine z_asn M [(5, .null), (4, .ref (ad (10, q5, 0))), (0, .ref (ad (0, 0, 0))), (1, .ref (ad (8, q1, 0))), (2, .int (iN v2)), (3, .int (iN v3))] dX4_dropLegsBehind_37 hl (by decide) rfl (fun ls hl => ?_)
            refine z_aln M dX4_dropLegsBehind_39 hl 0 rfl ?_
            refine z_ifnN M (tgt := 96) dX4_dropLegsBehind_41 (by decide) ?_
            obtain ⟨x10, ex10⟩ : ∃ z : Int, z = v3 + (-1) := ⟨_, rfl⟩
            have hp := hp x10 ex10
            refine z_inc M [(3, .int (iN x10)), (5, .null), (4, .ref (ad (10, q5, 0))), (0, .ref (ad (0, 0, 0))), (1, .ref (ad (8, q1, 0))), (2, .int (iN v2))] x10 dX4_dropLegsBehind_96 hl 5 rfl ex10.symm (by decide) rfl (fun ls hl => ?_)
            refine zg M (tgt := 7) dX4_dropLegsBehind_99 (by decide) ?_
            exact ih7 x10 σ7 _ _ _  hp hW hS (lv_sub hl [3, 4, 5, 0] rfl)
          · refine W.eq (g2 := F0 m 37 ls (.ref (ad (6, q9, 0)) :: [])) rfl ?_
            obtain ⟨hm_q9, hp⟩ := hp.2 q9 rfl
            refine z_as M [(5, .ref (ad (6, q9, 0))), (4, .ref (ad (10, q5, 0))), (0, .ref (ad (0, 0, 0))), (1, .ref (ad (8, q1, 0))), (2, .int (iN v2)), (3, .int (iN v3))] dX4_dropLegsBehind_37 hl (by decide) rfl (fun ls hl => ?_)
            refine z_al M dX4_dropLegsBehind_39 hl 0 rfl ?_
            refine z_ifn M dX4_dropLegsBehind_41 ?_
            refine z_al M dX4_dropLegsBehind_44 hl 0 rfl ?_
            refine z_al M dX4_dropLegsBehind_46 hl 1 rfl ?_
            refine zg_X1_3 M u_hin1 hW hm_q5 (M.hts _ u_fl_X4_305) dX4_dropLegsBehind_48 ?_
            obtain ⟨σ11, eσ11⟩ : ∃ z : nS, z = s1 σ7 (6, q9, 0) 6 (σ7.1 (10, q5, 0) 3) := ⟨_, rfl⟩
            have hp := hp σ11 eσ11
            refine zp_X3_6 (v := (σ7.1 (10, q5, 0) 3)) M u_hin3 hW hS hm_q9 (M.hts _ u_fl_X4_94) dX4_dropLegsBehind_51 (fun H locs hW hS => ?_)
            rw [← eσ11] at hW
            refine z_al M dX4_dropLegsBehind_54 hl 0 rfl ?_
            refine z_al M dX4_dropLegsBehind_56 hl 1 rfl ?_
            refine zg_X1_4 M u_hin1 hW hm_q5 (M.hts _ u_fl_X4_308) dX4_dropLegsBehind_58 ?_
            obtain ⟨σ12, eσ12⟩ : ∃ z : nS, z = s1 σ11 (6, q9, 0) 7 (σ11.1 (10, q5, 0) 4) := ⟨_, rfl⟩
            have hp := hp σ12 eσ12
            refine zp_X3_7 (v := (σ11.1 (10, q5, 0) 4)) M u_hin3 hW hS hm_q9 (M.hts _ u_fl_X4_101) dX4_dropLegsBehind_61 (fun H locs hW hS => ?_)
            rw [← eσ12] at hW
            refine z_al M dX4_dropLegsBehind_64 hl 0 rfl ?_
            refine z_dup M dX4_dropLegsBehind_66 rfl ?_
            refine zg_X3_8 M u_hin3 hW hm_q9 (M.hts _ u_fl_X4_104) dX4_dropLegsBehind_67 ?_
            refine zi_const M 1 dX4_dropLegsBehind_70 rfl ?_
            refine zi_sub M dX4_dropLegsBehind_71 ?_
            obtain ⟨σ13, eσ13⟩ : ∃ z : nS, z = s1 σ12 (6, q9, 0) 8 ((σ12.1 (6, q9, 0) 8) - 1) := ⟨_, rfl⟩
            have hp := hp σ13 eσ13
            refine zp_X3_8 (v := ((σ12.1 (6, q9, 0) 8) - 1)) M u_hin3 hW hS hm_q9 (M.hts _ u_fl_X4_104) dX4_dropLegsBehind_72 (fun H locs hW hS => ?_)
            rw [← eσ13] at hW
            refine z_al M dX4_dropLegsBehind_75 hl 0 rfl ?_
            refine z_dup M dX4_dropLegsBehind_77 rfl ?_
            refine zg_X3_9 M u_hin3 hW hm_q9 (M.hts _ u_fl_X4_107) dX4_dropLegsBehind_78 ?_
            refine z_al M dX4_dropLegsBehind_81 hl 1 rfl ?_
            refine zg_X1_6 M u_hin1 hW hm_q5 (M.hts _ u_fl_X4_192) dX4_dropLegsBehind_83 ?_
            refine z_al M dX4_dropLegsBehind_86 hl 1 rfl ?_
            refine zg_X1_2 M u_hin1 hW hm_q5 (M.hts _ u_fl_X4_189) dX4_dropLegsBehind_88 ?_
            refine zi_sub M dX4_dropLegsBehind_91 ?_
            refine zi_sub M dX4_dropLegsBehind_92 ?_
            obtain ⟨σ14, eσ14⟩ : ∃ z : nS, z = s1 σ13 (6, q9, 0) 9 ((σ13.1 (6, q9, 0) 9) - ((σ13.1 (10, q5, 0) 6) - (σ13.1 (10, q5, 0) 2))) := ⟨_, rfl⟩
            have hp := hp σ14 eσ14
            refine zp_X3_9 (v := ((σ13.1 (6, q9, 0) 9) - ((σ13.1 (10, q5, 0) 6) - (σ13.1 (10, q5, 0) 2)))) M u_hin3 hW hS hm_q9 (M.hts _ u_fl_X4_107) dX4_dropLegsBehind_93 (fun H locs hW hS => ?_)
            rw [← eσ14] at hW
            obtain ⟨x15, ex15⟩ : ∃ z : Int, z = v3 + (-1) := ⟨_, rfl⟩
            have hp := hp x15 ex15
            refine z_inc M [(3, .int (iN x15)), (5, .ref (ad (6, q9, 0))), (4, .ref (ad (10, q5, 0))), (0, .ref (ad (0, 0, 0))), (1, .ref (ad (8, q1, 0))), (2, .int (iN v2))] x15 dX4_dropLegsBehind_96 hl 5 rfl ex15.symm (by decide) rfl (fun ls hl => ?_)
            refine zg M (tgt := 7) dX4_dropLegsBehind_99 (by decide) ?_
            exact ih7 x15 σ14 _ _ _  hp hW hS (lv_sub hl [3, 4, 5, 0] rfl)
  refine z_al_n M dX4_dropLegsBehind_0 rfl hl 1 rfl ?_
  refine zg_X2_6 M u_hin2 hW hm_q1 (M.hts _ u_fl_X4_175) dX4_dropLegsBehind_1 ?_
  refine zi_const M 1 dX4_dropLegsBehind_4 rfl ?_
  refine zi_sub M dX4_dropLegsBehind_5 ?_
  refine zi_nm (fun x16 ex16 => ?_)
  have hp := hp x16 ex16
  refine z_is_n M [(3, .int (iN x16)), (0, .ref (ad (0, 0, 0))), (1, .ref (ad (8, q1, 0))), (2, .int (iN v2))] dX4_dropLegsBehind_6 rfl hl (by decide) rfl (fun ls hl => ?_)
  obtain ⟨f17, hp⟩ := hp
  exact hL7 f17 x16 σ _ _ _  hp hW hS (lv_sub hl [1, 2, 3, 0] rfl)
def P_X4_failLeg (K : List nKey) (σ : nS) (q1 : Nat) (v2 : Int) (k : nS → Prop) : Prop :=
  P_X4_riderAt K σ (σ.1 (10, q1, 0) 0) (fun r2 σ1 => ((r2 = none → ∀ σ4 : nS, σ4 = s1 σ1 (10, q1, 0) 6 v2 → ∀ σ5 : nS, σ5 = s1 σ4 (10, q1, 0) 5 (σ4.1 (10, q1, 0) 1) → ∀ σ6 : nS, σ6 = s1 σ5 (10, q1, 0) 7 1 → k σ6) ∧ (∀ q3 : Nat, r2 = some q3 → (6, q3, 0) ∈ K ∧ ∀ σ7 : nS, σ7 = s1 σ1 (6, q3, 0) 9 ((σ1.1 (6, q3, 0) 9) - ((σ1.1 (10, q1, 0) 6) - v2)) → ∀ σ8 : nS, σ8 = s1 σ7 (6, q3, 0) 6 (σ7.1 (10, q1, 0) 1) → ∀ σ9 : nS, σ9 = s1 σ8 (6, q3, 0) 10 1 → ∀ σ10 : nS, σ10 = s1 σ9 (10, q1, 0) 6 v2 → ∀ σ11 : nS, σ11 = s1 σ10 (10, q1, 0) 5 (σ10.1 (10, q1, 0) 1) → ∀ σ12 : nS, σ12 = s1 σ11 (10, q1, 0) 7 1 → k σ12)))
def rmX4_failLeg : Room := { frames := 1, cells := 0, slots := 0, locals := 21 }
set_option maxHeartbeats 4000000 in
set_option maxRecDepth 100000 in
theorem w_X4_failLeg {l : Launch} {D : va_G} {ca : Nat → ClassId} {K : List nKey} {ad : nKey → Nat} {σ : nS} {sz : Nat} (hKC : KC K) {q1 : Nat} {v2 : Int} (hm_q1 : (10, q1, 0) ∈ K) {k : nS → Prop} (hp : P_X4_failLeg K σ q1 v2 k) : Met l yX4_failLeg (Cond.code yX4_failLeg cX4_failLeg 4 none :: UW) rmX4_failLeg (ZP D ca [.ref (ad (0, 0, 0)), .ref (ad (10, q1, 0)), .int (iN v2)] (ZB D K ad ca σ sz)) (ZQv D K ad ca sz k) 0 0 (FA K ad sz) := by
  refine z_start (cc := cX4_failLeg) (maxL := 4) (ret := none) (own := RX4) (K := K) (ad := ad) (σ := σ) (Qc := fun sz => ZQv D K ad ca sz k) (by decide) rfl (Nat.le_of_ble_eq_true rfl) ?_
  intro p e s m args below meth c M hr hlocks hW ls hl
  have hS : va_S (FA K ad s.heap.size) s.heap s.heap [] := va_S.rf
  have hA : ∀ q : Nat, s.heap.size ≤ q → FA K ad s.heap.size q := fun q h => Or.inr h
  replace hl : lv_has ls 4 [(0, .ref (ad (0, 0, 0))), (1, .ref (ad (10, q1, 0))), (2, .int (iN v2))] := hl
  unfold P_X4_failLeg at hp
  refine z_al_n M dX4_failLeg_0 rfl hl 0 rfl ?_
  refine z_al_n M dX4_failLeg_1 rfl hl 1 rfl ?_
  refine zg_X1_0 M u_hin1 hW hm_q1 (M.hts _ u_fl_X4_182) dX4_failLeg_2 ?_
  have hfa := hW.fa hS hA
  refine zc_VU (As := [.int (iN (σ.1 (10, q1, 0) 0))]) (rest := []) M (w_X4_riderAt hKC  hp) (cuV M 1 u_co_X4_riderAt u_ml_X4_55 u_ini_X4 u_in_X4_riderAt u_se_X4_riderAt (by decide +kernel) rfl rfl ⟨Nat.le_of_ble_eq_true rfl, Nat.le_of_ble_eq_true rfl⟩) (z_recv M hW hKC.k0 rfl rfl) ⟨rfl, hW.weaken (fun _ _ => trivial)⟩ rfl hl rfl (Nat.le_of_ble_eq_true rfl) ⟨Nat.zero_le _, Nat.zero_le _⟩ dX4_failLeg_5 hS hfa (fun u H locs hw _ _ hS => ?_)
  obtain ⟨r2, σ1⟩ := u
  obtain ⟨hp, hW2⟩ := hw
  have hW := hW2.weaken hfa
  try dsimp only at hp
  rcases r2 with _ | q3
  · refine W.eq (g2 := F0 m 8 ls (.null :: [])) rfl ?_
    have hp := hp.1 rfl
    refine z_asn_n M [(3, .null), (0, .ref (ad (0, 0, 0))), (1, .ref (ad (10, q1, 0))), (2, .int (iN v2))] dX4_failLeg_8 rfl hl (by decide) rfl (fun ls hl => ?_)
    refine z_aln_n M dX4_failLeg_9 rfl hl 0 rfl ?_
    refine z_ifnN M (tgt := 41) dX4_failLeg_10 (by decide) ?_
    refine z_al_n M dX4_failLeg_41 rfl hl 2 rfl ?_
    refine z_il_n M dX4_failLeg_42 rfl hl 3 rfl ?_
    obtain ⟨σ4, eσ4⟩ : ∃ z : nS, z = s1 σ1 (10, q1, 0) 6 v2 := ⟨_, rfl⟩
    have hp := hp σ4 eσ4
    refine zp_X1_6 (v := v2) M u_hin1 hW hS hm_q1 (M.hts _ u_fl_X4_192) dX4_failLeg_43 (fun H locs hW hS => ?_)
    rw [← eσ4] at hW
    refine z_al_n M dX4_failLeg_46 rfl hl 2 rfl ?_
    refine z_al_n M dX4_failLeg_47 rfl hl 2 rfl ?_
    refine zg_X1_1 M u_hin1 hW hm_q1 (M.hts _ u_fl_X4_187) dX4_failLeg_48 ?_
    obtain ⟨σ5, eσ5⟩ : ∃ z : nS, z = s1 σ4 (10, q1, 0) 5 (σ4.1 (10, q1, 0) 1) := ⟨_, rfl⟩
    have hp := hp σ5 eσ5
    refine zp_X1_5 (v := (σ4.1 (10, q1, 0) 1)) M u_hin1 hW hS hm_q1 (M.hts _ u_fl_X4_188) dX4_failLeg_51 (fun H locs hW hS => ?_)
    rw [← eσ5] at hW
    refine z_al_n M dX4_failLeg_54 rfl hl 2 rfl ?_
    refine zi_const M 1 dX4_failLeg_55 rfl ?_
    obtain ⟨σ6, eσ6⟩ : ∃ z : nS, z = s1 σ5 (10, q1, 0) 7 1 := ⟨_, rfl⟩
    have hp := hp σ6 eσ6
    refine zp_X1_7 (v := 1) M u_hin1 hW hS hm_q1 (M.hts _ u_fl_X4_195) (hv := by decide) dX4_failLeg_56 (fun H locs hW hS => ?_)
    rw [← eσ6] at hW
    exact zr_v M hr hlocks σ6 rfl ⟨hp, hW⟩ hS dX4_failLeg_59
  · refine W.eq (g2 := F0 m 8 ls (.ref (ad (6, q3, 0)) :: [])) rfl ?_
    obtain ⟨hm_q3, hp⟩ := hp.2 q3 rfl
    refine z_as_n M [(3, .ref (ad (6, q3, 0))), (0, .ref (ad (0, 0, 0))), (1, .ref (ad (10, q1, 0))), (2, .int (iN v2))] dX4_failLeg_8 rfl hl (by decide) rfl (fun ls hl => ?_)
    refine z_al_n M dX4_failLeg_9 rfl hl 0 rfl ?_
    refine z_ifn M dX4_failLeg_10 ?_
    refine z_al_n M dX4_failLeg_13 rfl hl 0 rfl ?_
    refine z_dup M dX4_failLeg_14 rfl ?_
    refine zg_X3_9 M u_hin3 hW hm_q3 (M.hts _ u_fl_X4_107) dX4_failLeg_15 ?_
    refine z_al_n M dX4_failLeg_18 rfl hl 2 rfl ?_
    refine zg_X1_6 M u_hin1 hW hm_q1 (M.hts _ u_fl_X4_192) dX4_failLeg_19 ?_
    refine z_il_n M dX4_failLeg_22 rfl hl 3 rfl ?_
    refine zi_sub M dX4_failLeg_23 ?_
    refine zi_sub M dX4_failLeg_24 ?_
    obtain ⟨σ7, eσ7⟩ : ∃ z : nS, z = s1 σ1 (6, q3, 0) 9 ((σ1.1 (6, q3, 0) 9) - ((σ1.1 (10, q1, 0) 6) - v2)) := ⟨_, rfl⟩
    have hp := hp σ7 eσ7
    refine zp_X3_9 (v := ((σ1.1 (6, q3, 0) 9) - ((σ1.1 (10, q1, 0) 6) - v2))) M u_hin3 hW hS hm_q3 (M.hts _ u_fl_X4_107) dX4_failLeg_25 (fun H locs hW hS => ?_)
    rw [← eσ7] at hW
    refine z_al_n M dX4_failLeg_28 rfl hl 0 rfl ?_
    refine z_al_n M dX4_failLeg_29 rfl hl 2 rfl ?_
    refine zg_X1_1 M u_hin1 hW hm_q1 (M.hts _ u_fl_X4_187) dX4_failLeg_30 ?_
    obtain ⟨σ8, eσ8⟩ : ∃ z : nS, z = s1 σ7 (6, q3, 0) 6 (σ7.1 (10, q1, 0) 1) := ⟨_, rfl⟩
    have hp := hp σ8 eσ8
    refine zp_X3_6 (v := (σ7.1 (10, q1, 0) 1)) M u_hin3 hW hS hm_q3 (M.hts _ u_fl_X4_94) dX4_failLeg_33 (fun H locs hW hS => ?_)
    rw [← eσ8] at hW
    refine z_al_n M dX4_failLeg_36 rfl hl 0 rfl ?_
    refine zi_const M 1 dX4_failLeg_37 rfl ?_
    obtain ⟨σ9, eσ9⟩ : ∃ z : nS, z = s1 σ8 (6, q3, 0) 10 1 := ⟨_, rfl⟩
    have hp := hp σ9 eσ9
    refine zp_X3_10 (v := 1) M u_hin3 hW hS hm_q3 (M.hts _ u_fl_X4_97) (hv := by decide) dX4_failLeg_38 (fun H locs hW hS => ?_)
    rw [← eσ9] at hW
    refine z_al_n M dX4_failLeg_41 rfl hl 2 rfl ?_
    refine z_il_n M dX4_failLeg_42 rfl hl 3 rfl ?_
    obtain ⟨σ10, eσ10⟩ : ∃ z : nS, z = s1 σ9 (10, q1, 0) 6 v2 := ⟨_, rfl⟩
    have hp := hp σ10 eσ10
    refine zp_X1_6 (v := v2) M u_hin1 hW hS hm_q1 (M.hts _ u_fl_X4_192) dX4_failLeg_43 (fun H locs hW hS => ?_)
    rw [← eσ10] at hW
    refine z_al_n M dX4_failLeg_46 rfl hl 2 rfl ?_
    refine z_al_n M dX4_failLeg_47 rfl hl 2 rfl ?_
    refine zg_X1_1 M u_hin1 hW hm_q1 (M.hts _ u_fl_X4_187) dX4_failLeg_48 ?_
    obtain ⟨σ11, eσ11⟩ : ∃ z : nS, z = s1 σ10 (10, q1, 0) 5 (σ10.1 (10, q1, 0) 1) := ⟨_, rfl⟩
    have hp := hp σ11 eσ11
    refine zp_X1_5 (v := (σ10.1 (10, q1, 0) 1)) M u_hin1 hW hS hm_q1 (M.hts _ u_fl_X4_188) dX4_failLeg_51 (fun H locs hW hS => ?_)
    rw [← eσ11] at hW
    refine z_al_n M dX4_failLeg_54 rfl hl 2 rfl ?_
    refine zi_const M 1 dX4_failLeg_55 rfl ?_
    obtain ⟨σ12, eσ12⟩ : ∃ z : nS, z = s1 σ11 (10, q1, 0) 7 1 := ⟨_, rfl⟩
    have hp := hp σ12 eσ12
    refine zp_X1_7 (v := 1) M u_hin1 hW hS hm_q1 (M.hts _ u_fl_X4_195) (hv := by decide) dX4_failLeg_56 (fun H locs hW hS => ?_)
    rw [← eσ12] at hW
    exact zr_v M hr hlocks σ12 rfl ⟨hp, hW⟩ hS dX4_failLeg_59
def P_X4_next_L28 (K : List nKey) (k : Int → nS → Prop) (v1 : Int) (v2 : Int) : Nat → Int → Int → Int → Int → nS → Prop
  | 0 => fun _ _ _ _ _ => False
  | n + 1 => fun v3 v4 v5 v6 σ =>
    ((w (σ.1 (0, 0, 0) 6) ≤ w v6 → k v3 σ) ∧ (w v6 < w (σ.1 (0, 0, 0) 6) → P_X4_riderAt K σ v6 (fun r3 σ2 => ((r3 = none → ∀ x5 : Int, x5 = v6 + 1 → (P_X4_next_L28 K k v1 v2 n) v3 v4 v5 x5 σ2) ∧ (∀ q4 : Nat, r3 = some q4 → (6, q4, 0) ∈ K ∧ P_X3_carries K σ2 q4 v1 (fun r7 σ6 => ((w r7 ≠ 0 → P_X4_thereFrom K σ6 q4 v2 (fun r10 σ9 => ((w r10 = (-1) → ∀ x12 : Int, x12 = v6 + 1 → (P_X4_next_L28 K k v1 v2 n) v3 v4 v5 x12 σ9) ∧ (w r10 ≠ (-1) → ((w r10 ≤ w (σ9.1 (6, q4, 0) 3) → ((w (σ9.1 (6, q4, 0) 8) ≠ w v4 → ((w v3 = (-1) → ∀ x16 : Int, x16 = (σ9.1 (6, q4, 0) 8) → ∀ x17 : Int, x17 = v6 + 1 → (P_X4_next_L28 K k v1 v2 n) v6 x16 r10 x17 σ9) ∧ (w v3 ≠ (-1) → ((w (σ9.1 (6, q4, 0) 8) < w v4 → ∀ x19 : Int, x19 = (σ9.1 (6, q4, 0) 8) → ∀ x20 : Int, x20 = v6 + 1 → (P_X4_next_L28 K k v1 v2 n) v6 x19 r10 x20 σ9) ∧ (w v4 ≤ w (σ9.1 (6, q4, 0) 8) → (((0 : Int) = 0 → ∀ x22 : Int, x22 = v6 + 1 → (P_X4_next_L28 K k v1 v2 n) v3 v4 v5 x22 σ9) ∧ ((0 : Int) ≠ 0 → ((w v5 ≤ w r10 → ∀ x24 : Int, x24 = v6 + 1 → (P_X4_next_L28 K k v1 v2 n) v3 v4 v5 x24 σ9) ∧ (w r10 < w v5 → ∀ x25 : Int, x25 = (σ9.1 (6, q4, 0) 8) → ∀ x26 : Int, x26 = v6 + 1 → (P_X4_next_L28 K k v1 v2 n) v6 x25 r10 x26 σ9))))))))) ∧ (w (σ9.1 (6, q4, 0) 8) = w v4 → ((w v3 = (-1) → ∀ x28 : Int, x28 = (σ9.1 (6, q4, 0) 8) → ∀ x29 : Int, x29 = v6 + 1 → (P_X4_next_L28 K k v1 v2 n) v6 x28 r10 x29 σ9) ∧ (w v3 ≠ (-1) → ((w (σ9.1 (6, q4, 0) 8) < w v4 → ∀ x31 : Int, x31 = (σ9.1 (6, q4, 0) 8) → ∀ x32 : Int, x32 = v6 + 1 → (P_X4_next_L28 K k v1 v2 n) v6 x31 r10 x32 σ9) ∧ (w v4 ≤ w (σ9.1 (6, q4, 0) 8) → (((1 : Int) = 0 → ∀ x34 : Int, x34 = v6 + 1 → (P_X4_next_L28 K k v1 v2 n) v3 v4 v5 x34 σ9) ∧ ((1 : Int) ≠ 0 → ((w v5 ≤ w r10 → ∀ x36 : Int, x36 = v6 + 1 → (P_X4_next_L28 K k v1 v2 n) v3 v4 v5 x36 σ9) ∧ (w r10 < w v5 → ∀ x37 : Int, x37 = (σ9.1 (6, q4, 0) 8) → ∀ x38 : Int, x38 = v6 + 1 → (P_X4_next_L28 K k v1 v2 n) v6 x37 r10 x38 σ9))))))))))) ∧ (w (σ9.1 (6, q4, 0) 3) < w r10 → ∀ x39 : Int, x39 = v6 + 1 → (P_X4_next_L28 K k v1 v2 n) v3 v4 v5 x39 σ9)))))) ∧ (w r7 = 0 → ∀ x40 : Int, x40 = v6 + 1 → (P_X4_next_L28 K k v1 v2 n) v3 v4 v5 x40 σ6))))))))
def P_X4_next (K : List nKey) (σ : nS) (v1 : Int) (v2 : Int) (k : Int → nS → Prop) : Prop :=
  P_X4_isKind K σ v1 (fun r42 σ41 => ((w r42 = 0 → k (-1) σ41) ∧ (w r42 ≠ 0 → P_X4_isPlace K σ41 v2 (fun r45 σ44 => ((w r45 ≠ 0 → ∃ f47 : Nat, P_X4_next_L28 K k v1 v2 f47 (-1) 0 0 0 σ44) ∧ (w r45 = 0 → k (-1) σ44))))))
def rmX4_next : Room := { frames := 3, cells := 0, slots := 0, locals := 67 }
set_option maxHeartbeats 4000000 in
set_option maxRecDepth 100000 in
theorem w_X4_next {l : Launch} {D : va_G} {ca : Nat → ClassId} {K : List nKey} {ad : nKey → Nat} {σ : nS} {sz : Nat} (hKC : KC K) {v1 : Int} {v2 : Int} {k : Int → nS → Prop} (hp : P_X4_next K σ v1 v2 k) : Met l yX4_next (Cond.code yX4_next cX4_next 10 (some .int) :: UW) rmX4_next (ZP D ca [.ref (ad (0, 0, 0)), .int (iN v1), .int (iN v2)] (ZB D K ad ca σ sz)) (ZQi D K ad ca sz k) 0 0 (FA K ad sz) := by
  refine z_start (cc := cX4_next) (maxL := 10) (ret := (some .int)) (own := RX4) (K := K) (ad := ad) (σ := σ) (Qc := fun sz => ZQi D K ad ca sz k) (by decide) rfl (Nat.le_of_ble_eq_true rfl) ?_
  intro p e s m args below meth c M hr hlocks hW ls hl
  have hS : va_S (FA K ad s.heap.size) s.heap s.heap [] := va_S.rf
  have hA : ∀ q : Nat, s.heap.size ≤ q → FA K ad s.heap.size q := fun q h => Or.inr h
  replace hl : lv_has ls 10 [(0, .ref (ad (0, 0, 0))), (1, .int (iN v1)), (2, .int (iN v2))] := hl
  unfold P_X4_next at hp
  have hL28 : ∀ (f28 : Nat) (v3 : Int) (v4 : Int) (v5 : Int) (v6 : Int) (σ : nS) (H : Heap) (locs : List Loc) (ls : Array Slot), P_X4_next_L28 K k v1 v2 f28 v3 v4 v5 v6 σ → XW D (FA K ad s.heap.size) K ad (cR ca ad σ) H → va_S (FA K ad s.heap.size) s.heap H locs → lv_has ls 10 [(0, .ref (ad (0, 0, 0))), (1, .int (iN v1)), (2, .int (iN v2)), (3, .int (iN v3)), (4, .int (iN v4)), (5, .int (iN v5)), (6, .int (iN v6))] → W p l e rmX4_next s m args below meth c H locs 0 0 (MQ below (ZQi D K ad ca s.heap.size k) args s 0 0 (FA K ad s.heap.size)) (F0 m 28 ls []) := by
    intro f28
    induction f28 with
    | zero =>
      intro v3 v4 v5 v6 σ H locs ls  hp
      exact hp.elim
    | succ f28 ih28 =>
      intro v3 v4 v5 v6 σ H locs ls  hp hW hS hl
      refine z_il M dX4_next_28 hl 6 rfl ?_
      refine z_al_n M dX4_next_30 rfl hl 0 rfl ?_
      refine zg_X4_6 M u_hin4 hW hKC.k0 (M.hts _ u_fl_X4_39) dX4_next_31 ?_
      refine zw_ge M (tgt := 154) dX4_next_34 (by decide) rfl rfl (fun c1 => ?_) (fun c1 => ?_)
      · have hp := hp.1 c1
        refine z_il_n M dX4_next_154 rfl hl 3 rfl ?_
        exact zr_i M hr hlocks (v3, σ) rfl ⟨hp, hW⟩ hS dX4_next_155
      · have hp := hp.2 c1
        refine z_al_n M dX4_next_37 rfl hl 0 rfl ?_
        refine z_il M dX4_next_38 hl 6 rfl ?_
        have hfa := hW.fa hS hA
        refine zc_VU (As := [.int (iN v6)]) (rest := []) M (w_X4_riderAt hKC  hp) (cuV M 1 u_co_X4_riderAt u_ml_X4_55 u_ini_X4 u_in_X4_riderAt u_se_X4_riderAt (by decide +kernel) rfl rfl ⟨Nat.le_of_ble_eq_true rfl, Nat.le_of_ble_eq_true rfl⟩) (z_recv M hW hKC.k0 rfl rfl) ⟨rfl, hW.weaken (fun _ _ => trivial)⟩ rfl hl rfl (Nat.le_of_ble_eq_true rfl) ⟨Nat.zero_le _, Nat.zero_le _⟩ dX4_next_40 hS hfa (fun u H locs hw _ _ hS => ?_)
        obtain ⟨r3, σ2⟩ := u
        obtain ⟨hp, hW2⟩ := hw
        have hW := hW2.weaken hfa
        try dsimp only at hp
        rcases r3 with _ | q4
        · refine W.eq (g2 := F0 m 43 ls (.null :: [])) rfl ?_
          have hp := hp.1 rfl
          refine z_asn M [(7, .null), (0, .ref (ad (0, 0, 0))), (1, .int (iN v1)), (2, .int (iN v2)), (3, .int (iN v3)), (4, .int (iN v4)), (5, .int (iN v5)), (6, .int (iN v6))] dX4_next_43 hl (by decide) rfl (fun ls hl => ?_)
          refine z_aln M dX4_next_45 hl 0 rfl ?_
          refine z_ifnN M (tgt := 148) dX4_next_47 (by decide) ?_
          obtain ⟨x5, ex5⟩ : ∃ z : Int, z = v6 + 1 := ⟨_, rfl⟩
          have hp := hp x5 ex5
          refine z_inc M [(6, .int (iN x5)), (7, .null), (0, .ref (ad (0, 0, 0))), (1, .int (iN v1)), (2, .int (iN v2)), (3, .int (iN v3)), (4, .int (iN v4)), (5, .int (iN v5))] x5 dX4_next_148 hl 7 rfl ex5.symm (by decide) rfl (fun ls hl => ?_)
          refine zg M (tgt := 28) dX4_next_151 (by decide) ?_
          exact ih28 v3 v4 v5 x5 σ2 _ _ _  hp hW hS (lv_sub hl [2, 3, 4, 5, 6, 7, 0] rfl)
        · refine W.eq (g2 := F0 m 43 ls (.ref (ad (6, q4, 0)) :: [])) rfl ?_
          obtain ⟨hm_q4, hp⟩ := hp.2 q4 rfl
          refine z_as M [(7, .ref (ad (6, q4, 0))), (0, .ref (ad (0, 0, 0))), (1, .int (iN v1)), (2, .int (iN v2)), (3, .int (iN v3)), (4, .int (iN v4)), (5, .int (iN v5)), (6, .int (iN v6))] dX4_next_43 hl (by decide) rfl (fun ls hl => ?_)
          refine z_al M dX4_next_45 hl 0 rfl ?_
          refine z_ifn M dX4_next_47 ?_
          refine z_al M dX4_next_50 hl 0 rfl ?_
          refine z_il_n M dX4_next_52 rfl hl 2 rfl ?_
          have hfa := hW.fa hS hA
          refine zc_VU (As := [.int (iN v1)]) (rest := []) M (w_X3_carries hKC hm_q4 hp) (cuV M 1 u_co_X3_carries u_ml_X4_121 u_ini_X3 u_in_X3_carries u_se_X3_carries (by decide +kernel) rfl rfl ⟨Nat.le_of_ble_eq_true rfl, Nat.le_of_ble_eq_true rfl⟩) (z_recv M hW hm_q4 rfl rfl) ⟨rfl, hW.weaken (fun _ _ => trivial)⟩ rfl hl rfl (Nat.le_of_ble_eq_true rfl) ⟨Nat.zero_le _, Nat.zero_le _⟩ dX4_next_53 hS hfa (fun u H locs hw _ _ hS => ?_)
          obtain ⟨r7, σ6⟩ := u
          obtain ⟨hp, hW2⟩ := hw
          have hW := hW2.weaken hfa
          try dsimp only at hp
          refine zv_ne M (tgt := 62) dX4_next_56 (by decide) rfl (fun c8 => ?_) (fun c8 => ?_)
          · have hp := hp.1 c8
            refine z_al_n M dX4_next_62 rfl hl 1 rfl ?_
            refine z_al M dX4_next_63 hl 0 rfl ?_
            refine z_il_n M dX4_next_65 rfl hl 3 rfl ?_
            have hfa := hW.fa hS hA
            refine zc_VU (As := [.ref (ad (6, q4, 0)), .int (iN v2)]) (rest := []) M (w_X4_thereFrom hKC hm_q4 hp) (cuV M 2 u_co_X4_thereFrom u_ml_X4_207 u_ini_X4 u_in_X4_thereFrom u_se_X4_thereFrom (by decide +kernel) rfl rfl ⟨Nat.le_of_ble_eq_true rfl, Nat.le_of_ble_eq_true rfl⟩) (z_recv M hW hKC.k0 rfl rfl) ⟨rfl, hW.weaken (fun _ _ => trivial)⟩ rfl hl rfl (Nat.le_of_ble_eq_true rfl) ⟨Nat.zero_le _, Nat.zero_le _⟩ dX4_next_66 hS hfa (fun u H locs hw _ _ hS => ?_)
            obtain ⟨r10, σ9⟩ := u
            obtain ⟨hp, hW2⟩ := hw
            have hW := hW2.weaken hfa
            try dsimp only at hp
            refine z_is M [(8, .int (iN r10)), (7, .ref (ad (6, q4, 0))), (0, .ref (ad (0, 0, 0))), (1, .int (iN v1)), (2, .int (iN v2)), (3, .int (iN v3)), (4, .int (iN v4)), (5, .int (iN v5)), (6, .int (iN v6))] dX4_next_69 hl (by decide) rfl (fun ls hl => ?_)
            refine z_il M dX4_next_71 hl 0 rfl ?_
            refine zi_const M (-1) dX4_next_73 rfl ?_
            refine zw_eq M (tgt := 148) dX4_next_74 (by decide) rfl (w_of ⟨by decide, by decide⟩) (fun c11 => ?_) (fun c11 => ?_)
            · have hp := hp.1 c11
              obtain ⟨x12, ex12⟩ : ∃ z : Int, z = v6 + 1 := ⟨_, rfl⟩
              have hp := hp x12 ex12
              refine z_inc M [(6, .int (iN x12)), (8, .int (iN r10)), (7, .ref (ad (6, q4, 0))), (0, .ref (ad (0, 0, 0))), (1, .int (iN v1)), (2, .int (iN v2)), (3, .int (iN v3)), (4, .int (iN v4)), (5, .int (iN v5))] x12 dX4_next_148 hl 8 rfl ex12.symm (by decide) rfl (fun ls hl => ?_)
              refine zg M (tgt := 28) dX4_next_151 (by decide) ?_
              exact ih28 v3 v4 v5 x12 σ9 _ _ _  hp hW hS (lv_sub hl [3, 4, 5, 6, 7, 8, 0] rfl)
            · have hp := hp.2 c11
              refine z_il M dX4_next_77 hl 0 rfl ?_
              refine z_al M dX4_next_79 hl 1 rfl ?_
              refine zg_X3_3 M u_hin3 hW hm_q4 (M.hts _ u_fl_X4_211) dX4_next_81 ?_
              refine zw_le M (tgt := 90) dX4_next_84 (by decide) rfl rfl (fun c13 => ?_) (fun c13 => ?_)
              · have hp := hp.1 c13
                refine z_al M dX4_next_90 hl 1 rfl ?_
                refine zg_X3_8 M u_hin3 hW hm_q4 (M.hts _ u_fl_X4_104) dX4_next_92 ?_
                refine z_il M dX4_next_95 hl 6 rfl ?_
                refine zw_ne M (tgt := 104) dX4_next_97 (by decide) rfl rfl (fun c14 => ?_) (fun c14 => ?_)
                · have hp := hp.1 c14
                  refine zi_const M 0 dX4_next_104 rfl ?_
                  refine z_is M [(9, .int (iN 0)), (8, .int (iN r10)), (7, .ref (ad (6, q4, 0))), (0, .ref (ad (0, 0, 0))), (1, .int (iN v1)), (2, .int (iN v2)), (3, .int (iN v3)), (4, .int (iN v4)), (5, .int (iN v5)), (6, .int (iN v6))] dX4_next_105 hl (by decide) rfl (fun ls hl => ?_)
                  refine z_il_n M dX4_next_107 rfl hl 6 rfl ?_
                  refine zi_const M (-1) dX4_next_108 rfl ?_
                  refine zw_eq M (tgt := 134) dX4_next_109 (by decide) rfl (w_of ⟨by decide, by decide⟩) (fun c15 => ?_) (fun c15 => ?_)
                  · have hp := hp.1 c15
                    refine z_il M dX4_next_134 hl 9 rfl ?_
                    refine z_is_n M [(3, .int (iN v6)), (9, .int (iN 0)), (8, .int (iN r10)), (7, .ref (ad (6, q4, 0))), (0, .ref (ad (0, 0, 0))), (1, .int (iN v1)), (2, .int (iN v2)), (4, .int (iN v4)), (5, .int (iN v5)), (6, .int (iN v6))] dX4_next_136 rfl hl (by decide) rfl (fun ls hl => ?_)
                    refine z_al M dX4_next_137 hl 3 rfl ?_
                    refine zg_X3_8 M u_hin3 hW hm_q4 (M.hts _ u_fl_X4_104) dX4_next_139 ?_
                    refine zi_nm (fun x16 ex16 => ?_)
                    have hp := hp x16 ex16
                    refine z_is M [(4, .int (iN x16)), (3, .int (iN v6)), (9, .int (iN 0)), (8, .int (iN r10)), (7, .ref (ad (6, q4, 0))), (0, .ref (ad (0, 0, 0))), (1, .int (iN v1)), (2, .int (iN v2)), (5, .int (iN v5)), (6, .int (iN v6))] dX4_next_142 hl (by decide) rfl (fun ls hl => ?_)
                    refine z_il M dX4_next_144 hl 3 rfl ?_
                    refine z_is M [(5, .int (iN r10)), (4, .int (iN x16)), (3, .int (iN v6)), (9, .int (iN 0)), (8, .int (iN r10)), (7, .ref (ad (6, q4, 0))), (0, .ref (ad (0, 0, 0))), (1, .int (iN v1)), (2, .int (iN v2)), (6, .int (iN v6))] dX4_next_146 hl (by decide) rfl (fun ls hl => ?_)
                    obtain ⟨x17, ex17⟩ : ∃ z : Int, z = v6 + 1 := ⟨_, rfl⟩
                    have hp := hp x17 ex17
                    refine z_inc M [(6, .int (iN x17)), (5, .int (iN r10)), (4, .int (iN x16)), (3, .int (iN v6)), (9, .int (iN 0)), (8, .int (iN r10)), (7, .ref (ad (6, q4, 0))), (0, .ref (ad (0, 0, 0))), (1, .int (iN v1)), (2, .int (iN v2))] x17 dX4_next_148 hl 9 rfl ex17.symm (by decide) rfl (fun ls hl => ?_)
                    refine zg M (tgt := 28) dX4_next_151 (by decide) ?_
                    exact ih28 v6 x16 r10 x17 σ9 _ _ _  hp hW hS (lv_sub hl [7, 8, 9, 3, 2, 1, 0] rfl)
                  · have hp := hp.2 c15
                    refine z_al M dX4_next_112 hl 2 rfl ?_
                    refine zg_X3_8 M u_hin3 hW hm_q4 (M.hts _ u_fl_X4_104) dX4_next_114 ?_
                    refine z_il M dX4_next_117 hl 7 rfl ?_
                    refine zw_lt M (tgt := 134) dX4_next_119 (by decide) rfl rfl (fun c18 => ?_) (fun c18 => ?_)
                    · have hp := hp.1 c18
                      refine z_il M dX4_next_134 hl 9 rfl ?_
                      refine z_is_n M [(3, .int (iN v6)), (9, .int (iN 0)), (8, .int (iN r10)), (7, .ref (ad (6, q4, 0))), (0, .ref (ad (0, 0, 0))), (1, .int (iN v1)), (2, .int (iN v2)), (4, .int (iN v4)), (5, .int (iN v5)), (6, .int (iN v6))] dX4_next_136 rfl hl (by decide) rfl (fun ls hl => ?_)
                      refine z_al M dX4_next_137 hl 3 rfl ?_
                      refine zg_X3_8 M u_hin3 hW hm_q4 (M.hts _ u_fl_X4_104) dX4_next_139 ?_
                      refine zi_nm (fun x19 ex19 => ?_)
                      have hp := hp x19 ex19
                      refine z_is M [(4, .int (iN x19)), (3, .int (iN v6)), (9, .int (iN 0)), (8, .int (iN r10)), (7, .ref (ad (6, q4, 0))), (0, .ref (ad (0, 0, 0))), (1, .int (iN v1)), (2, .int (iN v2)), (5, .int (iN v5)), (6, .int (iN v6))] dX4_next_142 hl (by decide) rfl (fun ls hl => ?_)
                      refine z_il M dX4_next_144 hl 3 rfl ?_
                      refine z_is M [(5, .int (iN r10)), (4, .int (iN x19)), (3, .int (iN v6)), (9, .int (iN 0)), (8, .int (iN r10)), (7, .ref (ad (6, q4, 0))), (0, .ref (ad (0, 0, 0))), (1, .int (iN v1)), (2, .int (iN v2)), (6, .int (iN v6))] dX4_next_146 hl (by decide) rfl (fun ls hl => ?_)
                      obtain ⟨x20, ex20⟩ : ∃ z : Int, z = v6 + 1 := ⟨_, rfl⟩
                      have hp := hp x20 ex20
                      refine z_inc M [(6, .int (iN x20)), (5, .int (iN r10)), (4, .int (iN x19)), (3, .int (iN v6)), (9, .int (iN 0)), (8, .int (iN r10)), (7, .ref (ad (6, q4, 0))), (0, .ref (ad (0, 0, 0))), (1, .int (iN v1)), (2, .int (iN v2))] x20 dX4_next_148 hl 9 rfl ex20.symm (by decide) rfl (fun ls hl => ?_)
                      refine zg M (tgt := 28) dX4_next_151 (by decide) ?_
                      exact ih28 v6 x19 r10 x20 σ9 _ _ _  hp hW hS (lv_sub hl [7, 8, 9, 3, 2, 1, 0] rfl)
                    · have hp := hp.2 c18
                      refine z_il M dX4_next_122 hl 0 rfl ?_
                      refine zv_eq M (tgt := 148) dX4_next_124 (by decide) (w_of ⟨by decide, by decide⟩) (fun c21 => ?_) (fun c21 => ?_)
                      · have hp := hp.1 c21
                        obtain ⟨x22, ex22⟩ : ∃ z : Int, z = v6 + 1 := ⟨_, rfl⟩
                        have hp := hp x22 ex22
                        refine z_inc M [(6, .int (iN x22)), (9, .int (iN 0)), (8, .int (iN r10)), (7, .ref (ad (6, q4, 0))), (0, .ref (ad (0, 0, 0))), (1, .int (iN v1)), (2, .int (iN v2)), (3, .int (iN v3)), (4, .int (iN v4)), (5, .int (iN v5))] x22 dX4_next_148 hl 9 rfl ex22.symm (by decide) rfl (fun ls hl => ?_)
                        refine zg M (tgt := 28) dX4_next_151 (by decide) ?_
                        exact ih28 v3 v4 v5 x22 σ9 _ _ _  hp hW hS (lv_sub hl [4, 5, 6, 7, 8, 9, 0] rfl)
                      · have hp := hp.2 c21
                        refine z_il M dX4_next_127 hl 1 rfl ?_
                        refine z_il M dX4_next_129 hl 8 rfl ?_
                        refine zw_ge M (tgt := 148) dX4_next_131 (by decide) rfl rfl (fun c23 => ?_) (fun c23 => ?_)
                        · have hp := hp.1 c23
                          obtain ⟨x24, ex24⟩ : ∃ z : Int, z = v6 + 1 := ⟨_, rfl⟩
                          have hp := hp x24 ex24
                          refine z_inc M [(6, .int (iN x24)), (9, .int (iN 0)), (8, .int (iN r10)), (7, .ref (ad (6, q4, 0))), (0, .ref (ad (0, 0, 0))), (1, .int (iN v1)), (2, .int (iN v2)), (3, .int (iN v3)), (4, .int (iN v4)), (5, .int (iN v5))] x24 dX4_next_148 hl 9 rfl ex24.symm (by decide) rfl (fun ls hl => ?_)
                          refine zg M (tgt := 28) dX4_next_151 (by decide) ?_
                          exact ih28 v3 v4 v5 x24 σ9 _ _ _  hp hW hS (lv_sub hl [4, 5, 6, 7, 8, 9, 0] rfl)
                        · have hp := hp.2 c23
                          refine z_il M dX4_next_134 hl 9 rfl ?_
                          refine z_is_n M [(3, .int (iN v6)), (9, .int (iN 0)), (8, .int (iN r10)), (7, .ref (ad (6, q4, 0))), (0, .ref (ad (0, 0, 0))), (1, .int (iN v1)), (2, .int (iN v2)), (4, .int (iN v4)), (5, .int (iN v5)), (6, .int (iN v6))] dX4_next_136 rfl hl (by decide) rfl (fun ls hl => ?_)
                          refine z_al M dX4_next_137 hl 3 rfl ?_
                          refine zg_X3_8 M u_hin3 hW hm_q4 (M.hts _ u_fl_X4_104) dX4_next_139 ?_
                          refine zi_nm (fun x25 ex25 => ?_)
                          have hp := hp x25 ex25
                          refine z_is M [(4, .int (iN x25)), (3, .int (iN v6)), (9, .int (iN 0)), (8, .int (iN r10)), (7, .ref (ad (6, q4, 0))), (0, .ref (ad (0, 0, 0))), (1, .int (iN v1)), (2, .int (iN v2)), (5, .int (iN v5)), (6, .int (iN v6))] dX4_next_142 hl (by decide) rfl (fun ls hl => ?_)
                          refine z_il M dX4_next_144 hl 3 rfl ?_
                          refine z_is M [(5, .int (iN r10)), (4, .int (iN x25)), (3, .int (iN v6)), (9, .int (iN 0)), (8, .int (iN r10)), (7, .ref (ad (6, q4, 0))), (0, .ref (ad (0, 0, 0))), (1, .int (iN v1)), (2, .int (iN v2)), (6, .int (iN v6))] dX4_next_146 hl (by decide) rfl (fun ls hl => ?_)
                          obtain ⟨x26, ex26⟩ : ∃ z : Int, z = v6 + 1 := ⟨_, rfl⟩
                          have hp := hp x26 ex26
                          refine z_inc M [(6, .int (iN x26)), (5, .int (iN r10)), (4, .int (iN x25)), (3, .int (iN v6)), (9, .int (iN 0)), (8, .int (iN r10)), (7, .ref (ad (6, q4, 0))), (0, .ref (ad (0, 0, 0))), (1, .int (iN v1)), (2, .int (iN v2))] x26 dX4_next_148 hl 9 rfl ex26.symm (by decide) rfl (fun ls hl => ?_)
                          refine zg M (tgt := 28) dX4_next_151 (by decide) ?_
                          exact ih28 v6 x25 r10 x26 σ9 _ _ _  hp hW hS (lv_sub hl [7, 8, 9, 3, 2, 1, 0] rfl)
                · have hp := hp.2 c14
                  refine zi_const M 1 dX4_next_100 rfl ?_
                  refine zg M (tgt := 105) dX4_next_101 (by decide) ?_
                  refine z_is M [(9, .int (iN 1)), (8, .int (iN r10)), (7, .ref (ad (6, q4, 0))), (0, .ref (ad (0, 0, 0))), (1, .int (iN v1)), (2, .int (iN v2)), (3, .int (iN v3)), (4, .int (iN v4)), (5, .int (iN v5)), (6, .int (iN v6))] dX4_next_105 hl (by decide) rfl (fun ls hl => ?_)
                  refine z_il_n M dX4_next_107 rfl hl 6 rfl ?_
                  refine zi_const M (-1) dX4_next_108 rfl ?_
                  refine zw_eq M (tgt := 134) dX4_next_109 (by decide) rfl (w_of ⟨by decide, by decide⟩) (fun c27 => ?_) (fun c27 => ?_)
                  · have hp := hp.1 c27
                    refine z_il M dX4_next_134 hl 9 rfl ?_
                    refine z_is_n M [(3, .int (iN v6)), (9, .int (iN 1)), (8, .int (iN r10)), (7, .ref (ad (6, q4, 0))), (0, .ref (ad (0, 0, 0))), (1, .int (iN v1)), (2, .int (iN v2)), (4, .int (iN v4)), (5, .int (iN v5)), (6, .int (iN v6))] dX4_next_136 rfl hl (by decide) rfl (fun ls hl => ?_)
                    refine z_al M dX4_next_137 hl 3 rfl ?_
                    refine zg_X3_8 M u_hin3 hW hm_q4 (M.hts _ u_fl_X4_104) dX4_next_139 ?_
                    refine zi_nm (fun x28 ex28 => ?_)
                    have hp := hp x28 ex28
                    refine z_is M [(4, .int (iN x28)), (3, .int (iN v6)), (9, .int (iN 1)), (8, .int (iN r10)), (7, .ref (ad (6, q4, 0))), (0, .ref (ad (0, 0, 0))), (1, .int (iN v1)), (2, .int (iN v2)), (5, .int (iN v5)), (6, .int (iN v6))] dX4_next_142 hl (by decide) rfl (fun ls hl => ?_)
                    refine z_il M dX4_next_144 hl 3 rfl ?_
                    refine z_is M [(5, .int (iN r10)), (4, .int (iN x28)), (3, .int (iN v6)), (9, .int (iN 1)), (8, .int (iN r10)), (7, .ref (ad (6, q4, 0))), (0, .ref (ad (0, 0, 0))), (1, .int (iN v1)), (2, .int (iN v2)), (6, .int (iN v6))] dX4_next_146 hl (by decide) rfl (fun ls hl => ?_)
                    obtain ⟨x29, ex29⟩ : ∃ z : Int, z = v6 + 1 := ⟨_, rfl⟩
                    have hp := hp x29 ex29
                    refine z_inc M [(6, .int (iN x29)), (5, .int (iN r10)), (4, .int (iN x28)), (3, .int (iN v6)), (9, .int (iN 1)), (8, .int (iN r10)), (7, .ref (ad (6, q4, 0))), (0, .ref (ad (0, 0, 0))), (1, .int (iN v1)), (2, .int (iN v2))] x29 dX4_next_148 hl 9 rfl ex29.symm (by decide) rfl (fun ls hl => ?_)
                    refine zg M (tgt := 28) dX4_next_151 (by decide) ?_
                    exact ih28 v6 x28 r10 x29 σ9 _ _ _  hp hW hS (lv_sub hl [7, 8, 9, 3, 2, 1, 0] rfl)
                  · have hp := hp.2 c27
                    refine z_al M dX4_next_112 hl 2 rfl ?_
                    refine zg_X3_8 M u_hin3 hW hm_q4 (M.hts _ u_fl_X4_104) dX4_next_114 ?_
                    refine z_il M dX4_next_117 hl 7 rfl ?_
                    refine zw_lt M (tgt := 134) dX4_next_119 (by decide) rfl rfl (fun c30 => ?_) (fun c30 => ?_)
                    · have hp := hp.1 c30
                      refine z_il M dX4_next_134 hl 9 rfl ?_
                      refine z_is_n M [(3, .int (iN v6)), (9, .int (iN 1)), (8, .int (iN r10)), (7, .ref (ad (6, q4, 0))), (0, .ref (ad (0, 0, 0))), (1, .int (iN v1)), (2, .int (iN v2)), (4, .int (iN v4)), (5, .int (iN v5)), (6, .int (iN v6))] dX4_next_136 rfl hl (by decide) rfl (fun ls hl => ?_)
                      refine z_al M dX4_next_137 hl 3 rfl ?_
                      refine zg_X3_8 M u_hin3 hW hm_q4 (M.hts _ u_fl_X4_104) dX4_next_139 ?_
                      refine zi_nm (fun x31 ex31 => ?_)
                      have hp := hp x31 ex31
                      refine z_is M [(4, .int (iN x31)), (3, .int (iN v6)), (9, .int (iN 1)), (8, .int (iN r10)), (7, .ref (ad (6, q4, 0))), (0, .ref (ad (0, 0, 0))), (1, .int (iN v1)), (2, .int (iN v2)), (5, .int (iN v5)), (6, .int (iN v6))] dX4_next_142 hl (by decide) rfl (fun ls hl => ?_)
                      refine z_il M dX4_next_144 hl 3 rfl ?_
                      refine z_is M [(5, .int (iN r10)), (4, .int (iN x31)), (3, .int (iN v6)), (9, .int (iN 1)), (8, .int (iN r10)), (7, .ref (ad (6, q4, 0))), (0, .ref (ad (0, 0, 0))), (1, .int (iN v1)), (2, .int (iN v2)), (6, .int (iN v6))] dX4_next_146 hl (by decide) rfl (fun ls hl => ?_)
                      obtain ⟨x32, ex32⟩ : ∃ z : Int, z = v6 + 1 := ⟨_, rfl⟩
                      have hp := hp x32 ex32
                      refine z_inc M [(6, .int (iN x32)), (5, .int (iN r10)), (4, .int (iN x31)), (3, .int (iN v6)), (9, .int (iN 1)), (8, .int (iN r10)), (7, .ref (ad (6, q4, 0))), (0, .ref (ad (0, 0, 0))), (1, .int (iN v1)), (2, .int (iN v2))] x32 dX4_next_148 hl 9 rfl ex32.symm (by decide) rfl (fun ls hl => ?_)
                      refine zg M (tgt := 28) dX4_next_151 (by decide) ?_
                      exact ih28 v6 x31 r10 x32 σ9 _ _ _  hp hW hS (lv_sub hl [7, 8, 9, 3, 2, 1, 0] rfl)
                    · have hp := hp.2 c30
                      refine z_il M dX4_next_122 hl 0 rfl ?_
                      refine zv_eq M (tgt := 148) dX4_next_124 (by decide) (w_of ⟨by decide, by decide⟩) (fun c33 => ?_) (fun c33 => ?_)
                      · have hp := hp.1 c33
                        obtain ⟨x34, ex34⟩ : ∃ z : Int, z = v6 + 1 := ⟨_, rfl⟩
                        have hp := hp x34 ex34
                        refine z_inc M [(6, .int (iN x34)), (9, .int (iN 1)), (8, .int (iN r10)), (7, .ref (ad (6, q4, 0))), (0, .ref (ad (0, 0, 0))), (1, .int (iN v1)), (2, .int (iN v2)), (3, .int (iN v3)), (4, .int (iN v4)), (5, .int (iN v5))] x34 dX4_next_148 hl 9 rfl ex34.symm (by decide) rfl (fun ls hl => ?_)
                        refine zg M (tgt := 28) dX4_next_151 (by decide) ?_
                        exact ih28 v3 v4 v5 x34 σ9 _ _ _  hp hW hS (lv_sub hl [4, 5, 6, 7, 8, 9, 0] rfl)
                      · have hp := hp.2 c33
                        refine z_il M dX4_next_127 hl 1 rfl ?_
                        refine z_il M dX4_next_129 hl 8 rfl ?_
                        refine zw_ge M (tgt := 148) dX4_next_131 (by decide) rfl rfl (fun c35 => ?_) (fun c35 => ?_)
                        · have hp := hp.1 c35
                          obtain ⟨x36, ex36⟩ : ∃ z : Int, z = v6 + 1 := ⟨_, rfl⟩
                          have hp := hp x36 ex36
                          refine z_inc M [(6, .int (iN x36)), (9, .int (iN 1)), (8, .int (iN r10)), (7, .ref (ad (6, q4, 0))), (0, .ref (ad (0, 0, 0))), (1, .int (iN v1)), (2, .int (iN v2)), (3, .int (iN v3)), (4, .int (iN v4)), (5, .int (iN v5))] x36 dX4_next_148 hl 9 rfl ex36.symm (by decide) rfl (fun ls hl => ?_)
                          refine zg M (tgt := 28) dX4_next_151 (by decide) ?_
                          exact ih28 v3 v4 v5 x36 σ9 _ _ _  hp hW hS (lv_sub hl [4, 5, 6, 7, 8, 9, 0] rfl)
                        · have hp := hp.2 c35
                          refine z_il M dX4_next_134 hl 9 rfl ?_
                          refine z_is_n M [(3, .int (iN v6)), (9, .int (iN 1)), (8, .int (iN r10)), (7, .ref (ad (6, q4, 0))), (0, .ref (ad (0, 0, 0))), (1, .int (iN v1)), (2, .int (iN v2)), (4, .int (iN v4)), (5, .int (iN v5)), (6, .int (iN v6))] dX4_next_136 rfl hl (by decide) rfl (fun ls hl => ?_)
                          refine z_al M dX4_next_137 hl 3 rfl ?_
                          refine zg_X3_8 M u_hin3 hW hm_q4 (M.hts _ u_fl_X4_104) dX4_next_139 ?_
                          refine zi_nm (fun x37 ex37 => ?_)
                          have hp := hp x37 ex37
                          refine z_is M [(4, .int (iN x37)), (3, .int (iN v6)), (9, .int (iN 1)), (8, .int (iN r10)), (7, .ref (ad (6, q4, 0))), (0, .ref (ad (0, 0, 0))), (1, .int (iN v1)), (2, .int (iN v2)), (5, .int (iN v5)), (6, .int (iN v6))] dX4_next_142 hl (by decide) rfl (fun ls hl => ?_)
                          refine z_il M dX4_next_144 hl 3 rfl ?_
                          refine z_is M [(5, .int (iN r10)), (4, .int (iN x37)), (3, .int (iN v6)), (9, .int (iN 1)), (8, .int (iN r10)), (7, .ref (ad (6, q4, 0))), (0, .ref (ad (0, 0, 0))), (1, .int (iN v1)), (2, .int (iN v2)), (6, .int (iN v6))] dX4_next_146 hl (by decide) rfl (fun ls hl => ?_)
                          obtain ⟨x38, ex38⟩ : ∃ z : Int, z = v6 + 1 := ⟨_, rfl⟩
                          have hp := hp x38 ex38
                          refine z_inc M [(6, .int (iN x38)), (5, .int (iN r10)), (4, .int (iN x37)), (3, .int (iN v6)), (9, .int (iN 1)), (8, .int (iN r10)), (7, .ref (ad (6, q4, 0))), (0, .ref (ad (0, 0, 0))), (1, .int (iN v1)), (2, .int (iN v2))] x38 dX4_next_148 hl 9 rfl ex38.symm (by decide) rfl (fun ls hl => ?_)
                          refine zg M (tgt := 28) dX4_next_151 (by decide) ?_
                          exact ih28 v6 x37 r10 x38 σ9 _ _ _  hp hW hS (lv_sub hl [7, 8, 9, 3, 2, 1, 0] rfl)
              · have hp := hp.2 c13
                refine zg M (tgt := 148) dX4_next_87 (by decide) ?_
                obtain ⟨x39, ex39⟩ : ∃ z : Int, z = v6 + 1 := ⟨_, rfl⟩
                have hp := hp x39 ex39
                refine z_inc M [(6, .int (iN x39)), (8, .int (iN r10)), (7, .ref (ad (6, q4, 0))), (0, .ref (ad (0, 0, 0))), (1, .int (iN v1)), (2, .int (iN v2)), (3, .int (iN v3)), (4, .int (iN v4)), (5, .int (iN v5))] x39 dX4_next_148 hl 8 rfl ex39.symm (by decide) rfl (fun ls hl => ?_)
                refine zg M (tgt := 28) dX4_next_151 (by decide) ?_
                exact ih28 v3 v4 v5 x39 σ9 _ _ _  hp hW hS (lv_sub hl [3, 4, 5, 6, 7, 8, 0] rfl)
          · have hp := hp.2 c8
            refine zg M (tgt := 148) dX4_next_59 (by decide) ?_
            obtain ⟨x40, ex40⟩ : ∃ z : Int, z = v6 + 1 := ⟨_, rfl⟩
            have hp := hp x40 ex40
            refine z_inc M [(6, .int (iN x40)), (7, .ref (ad (6, q4, 0))), (0, .ref (ad (0, 0, 0))), (1, .int (iN v1)), (2, .int (iN v2)), (3, .int (iN v3)), (4, .int (iN v4)), (5, .int (iN v5))] x40 dX4_next_148 hl 7 rfl ex40.symm (by decide) rfl (fun ls hl => ?_)
            refine zg M (tgt := 28) dX4_next_151 (by decide) ?_
            exact ih28 v3 v4 v5 x40 σ6 _ _ _  hp hW hS (lv_sub hl [2, 3, 4, 5, 6, 7, 0] rfl)
  refine z_il_n M dX4_next_0 rfl hl 1 rfl ?_
  have hfa := hW.fa hS hA
  refine zc_SU (As := [.int (iN v1)]) (rest := []) M (w_X4_isKind hKC  hp) (cuS M 1 u_co_X4_isKind u_ml_X4_118 u_ini_X4 u_st_X4_isKind (by decide +kernel) rfl rfl ⟨Nat.le_of_ble_eq_true rfl, Nat.le_of_ble_eq_true rfl⟩) ⟨rfl, hW.weaken (fun _ _ => trivial)⟩ rfl hl rfl (Nat.le_of_ble_eq_true rfl) ⟨Nat.zero_le _, Nat.zero_le _⟩ dX4_next_1 hS hfa (fun u H locs hw _ _ hS => ?_)
  obtain ⟨r42, σ41⟩ := u
  obtain ⟨hp, hW2⟩ := hw
  have hW := hW2.weaken hfa
  try dsimp only at hp
  refine zv_eq M (tgt := 15) dX4_next_4 (by decide) rfl (fun c43 => ?_) (fun c43 => ?_)
  · have hp := hp.1 c43
    refine zi_const M (-1) dX4_next_15 rfl ?_
    exact zr_i M hr hlocks ((-1), σ41) rfl ⟨hp, hW⟩ hS dX4_next_16
  · have hp := hp.2 c43
    refine z_al_n M dX4_next_7 rfl hl 0 rfl ?_
    refine z_il_n M dX4_next_8 rfl hl 2 rfl ?_
    have hfa := hW.fa hS hA
    refine zc_VU (As := [.int (iN v2)]) (rest := []) M (w_X4_isPlace hKC  hp) (cuV M 1 u_co_X4_isPlace u_ml_X4_51 u_ini_X4 u_in_X4_isPlace u_se_X4_isPlace (by decide +kernel) rfl rfl ⟨Nat.le_of_ble_eq_true rfl, Nat.le_of_ble_eq_true rfl⟩) (z_recv M hW hKC.k0 rfl rfl) ⟨rfl, hW.weaken (fun _ _ => trivial)⟩ rfl hl rfl (Nat.le_of_ble_eq_true rfl) ⟨Nat.zero_le _, Nat.zero_le _⟩ dX4_next_9 hS hfa (fun u H locs hw _ _ hS => ?_)
    obtain ⟨r45, σ44⟩ := u
    obtain ⟨hp, hW2⟩ := hw
    have hW := hW2.weaken hfa
    try dsimp only at hp
    refine zv_ne M (tgt := 17) dX4_next_12 (by decide) rfl (fun c46 => ?_) (fun c46 => ?_)
    · have hp := hp.1 c46
      refine zi_const M (-1) dX4_next_17 rfl ?_
      refine z_is_n M [(3, .int (iN (-1))), (0, .ref (ad (0, 0, 0))), (1, .int (iN v1)), (2, .int (iN v2))] dX4_next_18 rfl hl (by decide) rfl (fun ls hl => ?_)
      refine zi_const M 0 dX4_next_19 rfl ?_
      refine z_is M [(4, .int (iN 0)), (3, .int (iN (-1))), (0, .ref (ad (0, 0, 0))), (1, .int (iN v1)), (2, .int (iN v2))] dX4_next_20 hl (by decide) rfl (fun ls hl => ?_)
      refine zi_const M 0 dX4_next_22 rfl ?_
      refine z_is M [(5, .int (iN 0)), (4, .int (iN 0)), (3, .int (iN (-1))), (0, .ref (ad (0, 0, 0))), (1, .int (iN v1)), (2, .int (iN v2))] dX4_next_23 hl (by decide) rfl (fun ls hl => ?_)
      refine zi_const M 0 dX4_next_25 rfl ?_
      refine z_is M [(6, .int (iN 0)), (5, .int (iN 0)), (4, .int (iN 0)), (3, .int (iN (-1))), (0, .ref (ad (0, 0, 0))), (1, .int (iN v1)), (2, .int (iN v2))] dX4_next_26 hl (by decide) rfl (fun ls hl => ?_)
      obtain ⟨f47, hp⟩ := hp
      exact hL28 f47 (-1) 0 0 0 σ44 _ _ _  hp hW hS (lv_sub hl [4, 5, 6, 3, 2, 1, 0] rfl)
    · have hp := hp.2 c46
      refine zi_const M (-1) dX4_next_15 rfl ?_
      exact zr_i M hr hlocks ((-1), σ44) rfl ⟨hp, hW⟩ hS dX4_next_16
