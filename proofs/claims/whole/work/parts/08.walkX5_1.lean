def P_X5_rest (K : List nKey) (σ : nS) (v1 : Int) (k : Int → nS → Prop) : Prop :=
  ∀ σ1 : nS, σ1 = s1 σ (11, 0, 0) 24 0 → P_X5_in K σ1 v1 0 600 (fun r3 σ2 => ((w r3 ≠ 0 → ∀ x5 : Int, x5 = (σ2.1 (11, 0, 0) 13) → ∀ σ6 : nS, σ6 = s1 σ2 (11, 0, 0) 13 v1 → k x5 σ6) ∧ (w r3 = 0 → k (-1) σ2)))
def rmX5_rest : Room := { frames := 1, cells := 0, slots := 0, locals := 22 }
set_option maxHeartbeats 4000000 in
set_option maxRecDepth 100000 in
theorem w_X5_rest {l : Launch} {D : va_G} {ca : Nat → ClassId} {K : List nKey} {ad : nKey → Nat} {σ : nS} {sz : Nat} (hKC : KC K) {v1 : Int} {k : Int → nS → Prop} (hp : P_X5_rest K σ v1 k) : Met l yX5_rest (Cond.code yX5_rest cX5_rest 3 (some .int) :: UW) rmX5_rest (ZP D ca [.ref (ad (11, 0, 0)), .int (iN v1)] (ZB D K ad ca σ sz)) (ZQi D K ad ca sz k) 0 0 (FA K ad sz) := by
  refine z_start (cc := cX5_rest) (maxL := 3) (ret := (some .int)) (own := RX5) (K := K) (ad := ad) (σ := σ) (Qc := fun sz => ZQi D K ad ca sz k) (by decide) rfl (Nat.le_of_ble_eq_true rfl) ?_
  intro p e s m args below meth c M hr hlocks hW ls hl
  have hS : va_S (FA K ad s.heap.size) s.heap s.heap [] := va_S.rf
  have hA : ∀ q : Nat, s.heap.size ≤ q → FA K ad s.heap.size q := fun q h => Or.inr h
  replace hl : lv_has ls 3 [(0, .ref (ad (11, 0, 0))), (1, .int (iN v1))] := hl
  unfold P_X5_rest at hp
  refine z_al_n M dX5_rest_0 rfl hl 0 rfl ?_
  refine zi_const M 0 dX5_rest_1 rfl ?_
  obtain ⟨σ1, eσ1⟩ : ∃ z : nS, z = s1 σ (11, 0, 0) 24 0 := ⟨_, rfl⟩
  have hp := hp σ1 eσ1
  refine zp_X5_24 (v := 0) M u_hin5 hW hS hKC.k11 (M.hts _ u_fl_X5_102) dX5_rest_2 (fun H locs hW hS => ?_)
  rw [← eσ1] at hW
  refine z_il_n M dX5_rest_5 rfl hl 1 rfl ?_
  refine zi_const M 0 dX5_rest_6 rfl ?_
  refine zi_si M 600 dX5_rest_7 (by decide +kernel) ?_
  have hfa := hW.fa hS hA
  refine zc_SU (As := [.int (iN v1), .int (iN 0), .int (iN 600)]) (rest := []) M (w_X5_in hKC  hp) (cuS M 3 u_co_X5_in u_ml_X5_108 u_ini_X5 u_st_X5_in (by decide +kernel) rfl rfl ⟨Nat.le_of_ble_eq_true rfl, Nat.le_of_ble_eq_true rfl⟩) ⟨rfl, hW.weaken (fun _ _ => trivial)⟩ rfl hl rfl (Nat.le_of_ble_eq_true rfl) ⟨Nat.zero_le _, Nat.zero_le _⟩ dX5_rest_10 hS hfa (fun u H locs hw _ _ hS => ?_)
  obtain ⟨r3, σ2⟩ := u
  obtain ⟨hp, hW2⟩ := hw
  have hW := hW2.weaken hfa
  try dsimp only at hp
  refine zv_ne M (tgt := 18) dX5_rest_13 (by decide) rfl (fun c4 => ?_) (fun c4 => ?_)
  · have hp := hp.1 c4
    refine z_al_n M dX5_rest_18 rfl hl 0 rfl ?_
    refine zg_X5_13 M u_hin5 hW hKC.k11 (M.hts _ u_fl_X5_44) dX5_rest_19 ?_
    refine zi_nm (fun x5 ex5 => ?_)
    have hp := hp x5 ex5
    refine z_is_n M [(2, .int (iN x5)), (0, .ref (ad (11, 0, 0))), (1, .int (iN v1))] dX5_rest_22 rfl hl (by decide) rfl (fun ls hl => ?_)
    refine z_al_n M dX5_rest_23 rfl hl 1 rfl ?_
    refine z_il_n M dX5_rest_24 rfl hl 2 rfl ?_
    obtain ⟨σ6, eσ6⟩ : ∃ z : nS, z = s1 σ2 (11, 0, 0) 13 v1 := ⟨_, rfl⟩
    have hp := hp σ6 eσ6
    refine zp_X5_13 (v := v1) M u_hin5 hW hS hKC.k11 (M.hts _ u_fl_X5_44) dX5_rest_25 (fun H locs hW hS => ?_)
    rw [← eσ6] at hW
    refine z_il_n M dX5_rest_28 rfl hl 0 rfl ?_
    exact zr_i M hr hlocks (x5, σ6) rfl ⟨hp, hW⟩ hS dX5_rest_29
  · have hp := hp.2 c4
    refine zi_const M (-1) dX5_rest_16 rfl ?_
    exact zr_i M hr hlocks ((-1), σ2) rfl ⟨hp, hW⟩ hS dX5_rest_17
def P_X5_wayOf_L91 (K : List nKey) (k : Int → nS → Prop) (kb67 : Int → nS → Prop) (kb79 : Int → Int → nS → Prop) (v1 : Int) (v3 : Int) : Nat → Int → Int → Int → nS → Prop
  | 0 => fun _ _ _ _ => False
  | n + 1 => fun v4 v5 v6 σ =>
    ((w (σ.1 (11, 0, 0) 1) ≤ w v6 → ∀ x2 : Int, x2 = v5 + 1 → kb79 v4 x2 σ) ∧ (w v6 < w (σ.1 (11, 0, 0) 1) → 0 ≤ ((8 * v5) + v6) ∧ ((8 * v5) + v6) < 64 ∧ ∀ x5 : Int, x5 = (σ.1 (12, 0, 0) (((8 * v5) + v6)).toNat) → ((w x5 = 0 → ∀ x7 : Int, x7 = v6 + 1 → (P_X5_wayOf_L91 K k kb67 kb79 v1 v3 n) v4 v5 x7 σ) ∧ (w x5 ≠ 0 → 0 ≤ v1 ∧ v1 < 6 ∧ ((w (andI (shrI (σ.1 (12, 2, 0) (v1).toNat) v5) 1) = 0 → ∀ x11 : Int, x11 = v6 + 1 → (P_X5_wayOf_L91 K k kb67 kb79 v1 v3 n) v4 v5 x11 σ) ∧ (w (andI (shrI (σ.1 (12, 2, 0) (v1).toNat) v5) 1) ≠ 0 → 0 ≤ v1 ∧ v1 < 6 ∧ ((w (andI (shrI (σ.1 (12, 2, 0) (v1).toNat) v6) 1) = 0 → ∀ x15 : Int, x15 = v6 + 1 → (P_X5_wayOf_L91 K k kb67 kb79 v1 v3 n) v4 v5 x15 σ) ∧ (w (andI (shrI (σ.1 (12, 2, 0) (v1).toNat) v6) 1) ≠ 0 → 0 ≤ v5 ∧ v5 < 8 ∧ ((w (σ.1 (12, 19, 0) (v5).toNat) ≠ 1000000 → 0 ≤ v5 ∧ v5 < 8 ∧ 0 ≤ v6 ∧ v6 < 8 ∧ ((w (σ.1 (12, 19, 0) (v6).toNat) ≤ w ((σ.1 (12, 19, 0) (v5).toNat) + x5) → ∀ x24 : Int, x24 = v6 + 1 → (P_X5_wayOf_L91 K k kb67 kb79 v1 v3 n) v4 v5 x24 σ) ∧ (w ((σ.1 (12, 19, 0) (v5).toNat) + x5) < w (σ.1 (12, 19, 0) (v6).toNat) → 0 ≤ v5 ∧ v5 < 8 ∧ 0 ≤ v6 ∧ v6 < 8 ∧ ∀ σ27 : nS, σ27 = s1 σ (12, 19, 0) (v6).toNat ((σ.1 (12, 19, 0) (v5).toNat) + x5) → ∀ x30 : Int, x30 = v6 + 1 → (P_X5_wayOf_L91 K k kb67 kb79 v1 v3 n) v4 v5 x30 σ27))) ∧ (w (σ.1 (12, 19, 0) (v5).toNat) = 1000000 → ∀ x31 : Int, x31 = v6 + 1 → (P_X5_wayOf_L91 K k kb67 kb79 v1 v3 n) v4 v5 x31 σ))))))))))
def P_X5_wayOf_L79 (K : List nKey) (k : Int → nS → Prop) (kb67 : Int → nS → Prop) (v1 : Int) (v3 : Int) : Nat → Int → Int → nS → Prop
  | 0 => fun _ _ _ => False
  | n + 1 => fun v4 v5 σ =>
    ((w (σ.1 (11, 0, 0) 1) ≤ w v5 → ∀ x33 : Int, x33 = v4 + 1 → kb67 x33 σ) ∧ (w v5 < w (σ.1 (11, 0, 0) 1) → ∃ f34 : Nat, P_X5_wayOf_L91 K k kb67 (P_X5_wayOf_L79 K k kb67 v1 v3 n) v1 v3 f34 v4 v5 0 σ))
def P_X5_wayOf_L67 (K : List nKey) (k : Int → nS → Prop) (v1 : Int) (v3 : Int) : Nat → Int → nS → Prop
  | 0 => fun _ _ => False
  | n + 1 => fun v4 σ =>
    ((w (σ.1 (11, 0, 0) 1) ≤ w v4 → 0 ≤ v3 ∧ v3 < 8 ∧ k (σ.1 (12, 19, 0) (v3).toNat) σ) ∧ (w v4 < w (σ.1 (11, 0, 0) 1) → ∃ f38 : Nat, P_X5_wayOf_L79 K k (P_X5_wayOf_L67 K k v1 v3 n) v1 v3 f38 v4 0 σ))
def P_X5_wayOf_L32 (K : List nKey) (k : Int → nS → Prop) (v1 : Int) (v2 : Int) (v3 : Int) : Nat → Int → nS → Prop
  | 0 => fun _ _ => False
  | n + 1 => fun v4 σ =>
    ((8 ≤ w v4 → ∃ f40 : Nat, P_X5_wayOf_L67 K k v1 v3 f40 1 σ) ∧ (w v4 < 8 → ((w v4 ≠ w v2 → 0 ≤ v4 ∧ v4 < 8 ∧ ∀ σ42 : nS, σ42 = s1 σ (12, 19, 0) (v4).toNat 1000000 → ∀ x45 : Int, x45 = v4 + 1 → (P_X5_wayOf_L32 K k v1 v2 v3 n) x45 σ42) ∧ (w v4 = w v2 → 0 ≤ v4 ∧ v4 < 8 ∧ ∀ σ46 : nS, σ46 = s1 σ (12, 19, 0) (v4).toNat 0 → ∀ x49 : Int, x49 = v4 + 1 → (P_X5_wayOf_L32 K k v1 v2 v3 n) x49 σ46))))
def P_X5_wayOf (K : List nKey) (σ : nS) (v1 : Int) (v2 : Int) (v3 : Int) (k : Int → nS → Prop) : Prop :=
  0 ≤ v1 ∧ v1 < 6 ∧ ((w (andI (shrI (σ.1 (12, 2, 0) (v1).toNat) v2) 1) = 0 → k 1000000 σ) ∧ (w (andI (shrI (σ.1 (12, 2, 0) (v1).toNat) v2) 1) ≠ 0 → 0 ≤ v1 ∧ v1 < 6 ∧ ((w (andI (shrI (σ.1 (12, 2, 0) (v1).toNat) v3) 1) ≠ 0 → ∃ f56 : Nat, P_X5_wayOf_L32 K k v1 v2 v3 f56 0 σ) ∧ (w (andI (shrI (σ.1 (12, 2, 0) (v1).toNat) v3) 1) = 0 → k 1000000 σ))))
def rmX5_wayOf : Room := { frames := 0, cells := 0, slots := 0, locals := 0 }
set_option maxHeartbeats 4000000 in
set_option maxRecDepth 100000 in
theorem w_X5_wayOf {l : Launch} {D : va_G} {ca : Nat → ClassId} {K : List nKey} {ad : nKey → Nat} {σ : nS} {sz : Nat} (hKC : KC K) {v1 : Int} {v2 : Int} {v3 : Int} {k : Int → nS → Prop} (hp : P_X5_wayOf K σ v1 v2 v3 k) : Met l yX5_wayOf (Cond.code yX5_wayOf cX5_wayOf 8 (some .int) :: UW) rmX5_wayOf (ZP D ca [.ref (ad (11, 0, 0)), .int (iN v1), .int (iN v2), .int (iN v3)] (ZB D K ad ca σ sz)) (ZQi D K ad ca sz k) 0 0 (FA K ad sz) := by
  refine z_start (cc := cX5_wayOf) (maxL := 8) (ret := (some .int)) (own := RX5) (K := K) (ad := ad) (σ := σ) (Qc := fun sz => ZQi D K ad ca sz k) (by decide) rfl (Nat.le_of_ble_eq_true rfl) ?_
  intro p e s m args below meth c M hr hlocks hW ls hl
  have hS : va_S (FA K ad s.heap.size) s.heap s.heap [] := va_S.rf
  have hA : ∀ q : Nat, s.heap.size ≤ q → FA K ad s.heap.size q := fun q h => Or.inr h
  replace hl : lv_has ls 8 [(0, .ref (ad (11, 0, 0))), (1, .int (iN v1)), (2, .int (iN v2)), (3, .int (iN v3))] := hl
  unfold P_X5_wayOf at hp
  have hL67 : ∀ (f67 : Nat) (v4 : Int) (σ : nS) (H : Heap) (locs : List Loc) (ls : Array Slot), P_X5_wayOf_L67 K k v1 v3 f67 v4 σ → XW D (FA K ad s.heap.size) K ad (cR ca ad σ) H → va_S (FA K ad s.heap.size) s.heap H locs → lv_has ls 8 [(0, .ref (ad (11, 0, 0))), (1, .int (iN v1)), (3, .int (iN v3)), (4, .int (iN v4))] → W p l e rmX5_wayOf s m args below meth c H locs 0 0 (MQ below (ZQi D K ad ca s.heap.size k) args s 0 0 (FA K ad s.heap.size)) (F0 m 67 ls []) := by
    intro f67
    induction f67 with
    | zero =>
      intro v4 σ H locs ls  hp
      exact hp.elim
    | succ f67 ih67 =>
      intro v4 σ H locs ls  hp hW hS hl
      have hL79 : ∀ (f79 : Nat) (v4 : Int) (v5 : Int) (σ : nS) (H : Heap) (locs : List Loc) (ls : Array Slot), P_X5_wayOf_L79 K k (P_X5_wayOf_L67 K k v1 v3 f67) v1 v3 f79 v4 v5 σ → XW D (FA K ad s.heap.size) K ad (cR ca ad σ) H → va_S (FA K ad s.heap.size) s.heap H locs → lv_has ls 8 [(0, .ref (ad (11, 0, 0))), (1, .int (iN v1)), (3, .int (iN v3)), (4, .int (iN v4)), (5, .int (iN v5))] → W p l e rmX5_wayOf s m args below meth c H locs 0 0 (MQ below (ZQi D K ad ca s.heap.size k) args s 0 0 (FA K ad s.heap.size)) (F0 m 79 ls []) := by
        intro f79
        induction f79 with
        | zero =>
          intro v4 v5 σ H locs ls  hp
          exact hp.elim
        | succ f79 ih79 =>
          intro v4 v5 σ H locs ls  hp hW hS hl
          have hL91 : ∀ (f91 : Nat) (v4 : Int) (v5 : Int) (v6 : Int) (σ : nS) (H : Heap) (locs : List Loc) (ls : Array Slot), P_X5_wayOf_L91 K k (P_X5_wayOf_L67 K k v1 v3 f67) (P_X5_wayOf_L79 K k (P_X5_wayOf_L67 K k v1 v3 f67) v1 v3 f79) v1 v3 f91 v4 v5 v6 σ → XW D (FA K ad s.heap.size) K ad (cR ca ad σ) H → va_S (FA K ad s.heap.size) s.heap H locs → lv_has ls 8 [(0, .ref (ad (11, 0, 0))), (1, .int (iN v1)), (3, .int (iN v3)), (4, .int (iN v4)), (5, .int (iN v5)), (6, .int (iN v6))] → W p l e rmX5_wayOf s m args below meth c H locs 0 0 (MQ below (ZQi D K ad ca s.heap.size k) args s 0 0 (FA K ad s.heap.size)) (F0 m 91 ls []) := by
            intro f91
            induction f91 with
            | zero =>
              intro v4 v5 v6 σ H locs ls  hp
              exact hp.elim
            | succ f91 ih91 =>
              intro v4 v5 v6 σ H locs ls  hp hW hS hl
              refine z_il M dX5_wayOf_91 hl 5 rfl ?_
              refine z_al_n M dX5_wayOf_93 rfl hl 0 rfl ?_
              refine zg_X5_1 M u_hin5 hW hKC.k11 (M.hts _ u_fl_X5_105) dX5_wayOf_94 ?_
              refine zw_ge M (tgt := 206) dX5_wayOf_97 (by decide) rfl rfl (fun c1 => ?_) (fun c1 => ?_)
              · have hp := hp.1 c1
                obtain ⟨x2, ex2⟩ : ∃ z : Int, z = v5 + 1 := ⟨_, rfl⟩
                have hp := hp x2 ex2
                refine z_inc M [(5, .int (iN x2)), (0, .ref (ad (11, 0, 0))), (1, .int (iN v1)), (3, .int (iN v3)), (4, .int (iN v4)), (6, .int (iN v6))] x2 dX5_wayOf_206 hl 4 rfl ex2.symm (by decide) rfl (fun ls hl => ?_)
                refine zg M (tgt := 79) dX5_wayOf_209 (by decide) ?_
                exact ih79 v4 x2 σ _ _ _  hp hW hS (lv_sub hl [1, 2, 3, 4, 0] rfl)
              · have hp := hp.2 c1
                refine z_al_n M dX5_wayOf_100 rfl hl 0 rfl ?_
                refine zg_X5_0 M u_hin5 hW hKC.k11 (M.hts _ u_fl_X5_9) dX5_wayOf_101 ?_
                refine zi_bi M 8 dX5_wayOf_104 (by decide +kernel) ?_
                refine z_il M dX5_wayOf_106 hl 4 rfl ?_
                refine zi_mul M dX5_wayOf_108 ?_
                refine z_il M dX5_wayOf_109 hl 5 rfl ?_
                refine zi_add M dX5_wayOf_111 ?_
                obtain ⟨h3, h4, hp⟩ := hp
                refine za_i (n := 64) M hW (hKC.k12 (by decide)) (fun _ _ => rfl) h3 h4 (by decide) dX5_wayOf_112 ?_
                refine zi_nm (fun x5 ex5 => ?_)
                have hp := hp x5 ex5
                refine z_is M [(7, .int (iN x5)), (0, .ref (ad (11, 0, 0))), (1, .int (iN v1)), (3, .int (iN v3)), (4, .int (iN v4)), (5, .int (iN v5)), (6, .int (iN v6))] dX5_wayOf_113 hl (by decide) rfl (fun ls hl => ?_)
                refine z_il M dX5_wayOf_115 hl 0 rfl ?_
                refine zv_eq M (tgt := 200) dX5_wayOf_117 (by decide) rfl (fun c6 => ?_) (fun c6 => ?_)
                · have hp := hp.1 c6
                  obtain ⟨x7, ex7⟩ : ∃ z : Int, z = v6 + 1 := ⟨_, rfl⟩
                  have hp := hp x7 ex7
                  refine z_inc M [(6, .int (iN x7)), (7, .int (iN x5)), (0, .ref (ad (11, 0, 0))), (1, .int (iN v1)), (3, .int (iN v3)), (4, .int (iN v4)), (5, .int (iN v5))] x7 dX5_wayOf_200 hl 6 rfl ex7.symm (by decide) rfl (fun ls hl => ?_)
                  refine zg M (tgt := 91) dX5_wayOf_203 (by decide) ?_
                  exact ih91 v4 v5 x7 σ _ _ _  hp hW hS (lv_sub hl [2, 3, 4, 5, 6, 0] rfl)
                · have hp := hp.2 c6
                  refine z_al_n M dX5_wayOf_120 rfl hl 1 rfl ?_
                  refine zg_X5_3 M u_hin5 hW hKC.k11 (M.hts _ u_fl_X5_16) dX5_wayOf_121 ?_
                  refine z_il_n M dX5_wayOf_124 rfl hl 2 rfl ?_
                  obtain ⟨h8, h9, hp⟩ := hp
                  refine za_i (n := 6) M hW (hKC.k12 (by decide)) (fun _ _ => rfl) h8 h9 (by decide) dX5_wayOf_125 ?_
                  refine z_il M dX5_wayOf_126 hl 5 rfl ?_
                  refine zo_shr M dX5_wayOf_128 ?_
                  refine zi_const M 1 dX5_wayOf_129 rfl ?_
                  refine zo_and M dX5_wayOf_130 ?_
                  refine zv_eq M (tgt := 200) dX5_wayOf_131 (by decide) rfl (fun c10 => ?_) (fun c10 => ?_)
                  · have hp := hp.1 c10
                    obtain ⟨x11, ex11⟩ : ∃ z : Int, z = v6 + 1 := ⟨_, rfl⟩
                    have hp := hp x11 ex11
                    refine z_inc M [(6, .int (iN x11)), (7, .int (iN x5)), (0, .ref (ad (11, 0, 0))), (1, .int (iN v1)), (3, .int (iN v3)), (4, .int (iN v4)), (5, .int (iN v5))] x11 dX5_wayOf_200 hl 6 rfl ex11.symm (by decide) rfl (fun ls hl => ?_)
                    refine zg M (tgt := 91) dX5_wayOf_203 (by decide) ?_
                    exact ih91 v4 v5 x11 σ _ _ _  hp hW hS (lv_sub hl [2, 3, 4, 5, 6, 0] rfl)
                  · have hp := hp.2 c10
                    refine z_al_n M dX5_wayOf_134 rfl hl 1 rfl ?_
                    refine zg_X5_3 M u_hin5 hW hKC.k11 (M.hts _ u_fl_X5_16) dX5_wayOf_135 ?_
                    refine z_il_n M dX5_wayOf_138 rfl hl 2 rfl ?_
                    obtain ⟨h12, h13, hp⟩ := hp
                    refine za_i (n := 6) M hW (hKC.k12 (by decide)) (fun _ _ => rfl) h12 h13 (by decide) dX5_wayOf_139 ?_
                    refine z_il M dX5_wayOf_140 hl 6 rfl ?_
                    refine zo_shr M dX5_wayOf_142 ?_
                    refine zi_const M 1 dX5_wayOf_143 rfl ?_
                    refine zo_and M dX5_wayOf_144 ?_
                    refine zv_eq M (tgt := 200) dX5_wayOf_145 (by decide) rfl (fun c14 => ?_) (fun c14 => ?_)
                    · have hp := hp.1 c14
                      obtain ⟨x15, ex15⟩ : ∃ z : Int, z = v6 + 1 := ⟨_, rfl⟩
                      have hp := hp x15 ex15
                      refine z_inc M [(6, .int (iN x15)), (7, .int (iN x5)), (0, .ref (ad (11, 0, 0))), (1, .int (iN v1)), (3, .int (iN v3)), (4, .int (iN v4)), (5, .int (iN v5))] x15 dX5_wayOf_200 hl 6 rfl ex15.symm (by decide) rfl (fun ls hl => ?_)
                      refine zg M (tgt := 91) dX5_wayOf_203 (by decide) ?_
                      exact ih91 v4 v5 x15 σ _ _ _  hp hW hS (lv_sub hl [2, 3, 4, 5, 6, 0] rfl)
                    · have hp := hp.2 c14
                      refine z_al_n M dX5_wayOf_148 rfl hl 1 rfl ?_
                      refine zg_X5_25 M u_hin5 hW hKC.k11 (M.hts _ u_fl_X5_75) dX5_wayOf_149 ?_
                      refine z_il M dX5_wayOf_152 hl 5 rfl ?_
                      obtain ⟨h16, h17, hp⟩ := hp
                      refine za_i (n := 8) M hW (hKC.k12 (by decide)) (fun _ _ => rfl) h16 h17 (by decide) dX5_wayOf_154 ?_
                      refine zi_ldc M 1000000 (M.hts _ u_k_X5_122) dX5_wayOf_155 ?_
                      refine zw_ne M (tgt := 163) dX5_wayOf_157 (by decide) rfl (w_of ⟨by decide, by decide⟩) (fun c18 => ?_) (fun c18 => ?_)
                      · have hp := hp.1 c18
                        refine z_al_n M dX5_wayOf_163 rfl hl 1 rfl ?_
                        refine zg_X5_25 M u_hin5 hW hKC.k11 (M.hts _ u_fl_X5_75) dX5_wayOf_164 ?_
                        refine z_il M dX5_wayOf_167 hl 5 rfl ?_
                        obtain ⟨h19, h20, hp⟩ := hp
                        refine za_i (n := 8) M hW (hKC.k12 (by decide)) (fun _ _ => rfl) h19 h20 (by decide) dX5_wayOf_169 ?_
                        refine z_il M dX5_wayOf_170 hl 0 rfl ?_
                        refine zi_add M dX5_wayOf_172 ?_
                        refine z_al_n M dX5_wayOf_173 rfl hl 1 rfl ?_
                        refine zg_X5_25 M u_hin5 hW hKC.k11 (M.hts _ u_fl_X5_75) dX5_wayOf_174 ?_
                        refine z_il M dX5_wayOf_177 hl 6 rfl ?_
                        obtain ⟨h21, h22, hp⟩ := hp
                        refine za_i (n := 8) M hW (hKC.k12 (by decide)) (fun _ _ => rfl) h21 h22 (by decide) dX5_wayOf_179 ?_
                        refine zw_ge M (tgt := 200) dX5_wayOf_180 (by decide) rfl rfl (fun c23 => ?_) (fun c23 => ?_)
                        · have hp := hp.1 c23
                          obtain ⟨x24, ex24⟩ : ∃ z : Int, z = v6 + 1 := ⟨_, rfl⟩
                          have hp := hp x24 ex24
                          refine z_inc M [(6, .int (iN x24)), (7, .int (iN x5)), (0, .ref (ad (11, 0, 0))), (1, .int (iN v1)), (3, .int (iN v3)), (4, .int (iN v4)), (5, .int (iN v5))] x24 dX5_wayOf_200 hl 6 rfl ex24.symm (by decide) rfl (fun ls hl => ?_)
                          refine zg M (tgt := 91) dX5_wayOf_203 (by decide) ?_
                          exact ih91 v4 v5 x24 σ _ _ _  hp hW hS (lv_sub hl [2, 3, 4, 5, 6, 0] rfl)
                        · have hp := hp.2 c23
                          refine z_al_n M dX5_wayOf_183 rfl hl 1 rfl ?_
                          refine zg_X5_25 M u_hin5 hW hKC.k11 (M.hts _ u_fl_X5_75) dX5_wayOf_184 ?_
                          refine z_il M dX5_wayOf_187 hl 6 rfl ?_
                          refine z_al_n M dX5_wayOf_189 rfl hl 1 rfl ?_
                          refine zg_X5_25 M u_hin5 hW hKC.k11 (M.hts _ u_fl_X5_75) dX5_wayOf_190 ?_
                          refine z_il M dX5_wayOf_193 hl 5 rfl ?_
                          obtain ⟨h25, h26, hp⟩ := hp
                          refine za_i (n := 8) M hW (hKC.k12 (by decide)) (fun _ _ => rfl) h25 h26 (by decide) dX5_wayOf_195 ?_
                          refine z_il M dX5_wayOf_196 hl 0 rfl ?_
                          refine zi_add M dX5_wayOf_198 ?_
                          obtain ⟨h28, h29, hp⟩ := hp
                          obtain ⟨σ27, eσ27⟩ : ∃ z : nS, z = s1 σ (12, 19, 0) (v6).toNat ((σ.1 (12, 19, 0) (v5).toNat) + x5) := ⟨_, rfl⟩
                          have hp := hp σ27 eσ27
                          refine zs_i (n := 8) M hW hS (hKC.k12 (by decide)) (fun _ _ => rfl) h28 h29 (by decide) dX5_wayOf_199 (fun H locs hW hS => ?_)
                          rw [← eσ27] at hW
                          obtain ⟨x30, ex30⟩ : ∃ z : Int, z = v6 + 1 := ⟨_, rfl⟩
                          have hp := hp x30 ex30
                          refine z_inc M [(6, .int (iN x30)), (7, .int (iN x5)), (0, .ref (ad (11, 0, 0))), (1, .int (iN v1)), (3, .int (iN v3)), (4, .int (iN v4)), (5, .int (iN v5))] x30 dX5_wayOf_200 hl 6 rfl ex30.symm (by decide) rfl (fun ls hl => ?_)
                          refine zg M (tgt := 91) dX5_wayOf_203 (by decide) ?_
                          exact ih91 v4 v5 x30 σ27 _ _ _  hp hW hS (lv_sub hl [2, 3, 4, 5, 6, 0] rfl)
                      · have hp := hp.2 c18
                        refine zg M (tgt := 200) dX5_wayOf_160 (by decide) ?_
                        obtain ⟨x31, ex31⟩ : ∃ z : Int, z = v6 + 1 := ⟨_, rfl⟩
                        have hp := hp x31 ex31
                        refine z_inc M [(6, .int (iN x31)), (7, .int (iN x5)), (0, .ref (ad (11, 0, 0))), (1, .int (iN v1)), (3, .int (iN v3)), (4, .int (iN v4)), (5, .int (iN v5))] x31 dX5_wayOf_200 hl 6 rfl ex31.symm (by decide) rfl (fun ls hl => ?_)
                        refine zg M (tgt := 91) dX5_wayOf_203 (by decide) ?_
                        exact ih91 v4 v5 x31 σ _ _ _  hp hW hS (lv_sub hl [2, 3, 4, 5, 6, 0] rfl)
          refine z_il M dX5_wayOf_79 hl 4 rfl ?_
          refine z_al_n M dX5_wayOf_81 rfl hl 0 rfl ?_
          refine zg_X5_1 M u_hin5 hW hKC.k11 (M.hts _ u_fl_X5_105) dX5_wayOf_82 ?_
          refine zw_ge M (tgt := 212) dX5_wayOf_85 (by decide) rfl rfl (fun c32 => ?_) (fun c32 => ?_)
          · have hp := hp.1 c32
            obtain ⟨x33, ex33⟩ : ∃ z : Int, z = v4 + 1 := ⟨_, rfl⟩
            have hp := hp x33 ex33
            refine z_inc M [(4, .int (iN x33)), (0, .ref (ad (11, 0, 0))), (1, .int (iN v1)), (3, .int (iN v3)), (5, .int (iN v5))] x33 dX5_wayOf_212 hl 3 rfl ex33.symm (by decide) rfl (fun ls hl => ?_)
            refine zg M (tgt := 67) dX5_wayOf_215 (by decide) ?_
            exact ih67 x33 σ _ _ _  hp hW hS (lv_sub hl [1, 2, 3, 0] rfl)
          · have hp := hp.2 c32
            refine zi_const M 0 dX5_wayOf_88 rfl ?_
            refine z_is M [(6, .int (iN 0)), (0, .ref (ad (11, 0, 0))), (1, .int (iN v1)), (3, .int (iN v3)), (4, .int (iN v4)), (5, .int (iN v5))] dX5_wayOf_89 hl (by decide) rfl (fun ls hl => ?_)
            obtain ⟨f34, hp⟩ := hp
            exact hL91 f34 v4 v5 0 σ _ _ _  hp hW hS (lv_sub hl [1, 2, 3, 4, 5, 0] rfl)
      refine z_il M dX5_wayOf_67 hl 3 rfl ?_
      refine z_al_n M dX5_wayOf_69 rfl hl 0 rfl ?_
      refine zg_X5_1 M u_hin5 hW hKC.k11 (M.hts _ u_fl_X5_105) dX5_wayOf_70 ?_
      refine zw_ge M (tgt := 218) dX5_wayOf_73 (by decide) rfl rfl (fun c35 => ?_) (fun c35 => ?_)
      · have hp := hp.1 c35
        refine z_al_n M dX5_wayOf_218 rfl hl 0 rfl ?_
        refine zg_X5_25 M u_hin5 hW hKC.k11 (M.hts _ u_fl_X5_75) dX5_wayOf_219 ?_
        refine z_il_n M dX5_wayOf_222 rfl hl 2 rfl ?_
        obtain ⟨h36, h37, hp⟩ := hp
        refine za_i (n := 8) M hW (hKC.k12 (by decide)) (fun _ _ => rfl) h36 h37 (by decide) dX5_wayOf_223 ?_
        exact zr_i M hr hlocks ((σ.1 (12, 19, 0) (v3).toNat), σ) rfl ⟨hp, hW⟩ hS dX5_wayOf_224
      · have hp := hp.2 c35
        refine zi_const M 0 dX5_wayOf_76 rfl ?_
        refine z_is M [(5, .int (iN 0)), (0, .ref (ad (11, 0, 0))), (1, .int (iN v1)), (3, .int (iN v3)), (4, .int (iN v4))] dX5_wayOf_77 hl (by decide) rfl (fun ls hl => ?_)
        obtain ⟨f38, hp⟩ := hp
        exact hL79 f38 v4 0 σ _ _ _  hp hW hS (lv_sub hl [1, 2, 3, 4, 0] rfl)
  have hL32 : ∀ (f32 : Nat) (v4 : Int) (σ : nS) (H : Heap) (locs : List Loc) (ls : Array Slot), P_X5_wayOf_L32 K k v1 v2 v3 f32 v4 σ → XW D (FA K ad s.heap.size) K ad (cR ca ad σ) H → va_S (FA K ad s.heap.size) s.heap H locs → lv_has ls 8 [(0, .ref (ad (11, 0, 0))), (1, .int (iN v1)), (2, .int (iN v2)), (3, .int (iN v3)), (4, .int (iN v4))] → W p l e rmX5_wayOf s m args below meth c H locs 0 0 (MQ below (ZQi D K ad ca s.heap.size k) args s 0 0 (FA K ad s.heap.size)) (F0 m 32 ls []) := by
    intro f32
    induction f32 with
    | zero =>
      intro v4 σ H locs ls  hp
      exact hp.elim
    | succ f32 ih32 =>
      intro v4 σ H locs ls  hp hW hS hl
      refine z_il M dX5_wayOf_32 hl 4 rfl ?_
      refine zi_bi M 8 dX5_wayOf_34 (by decide +kernel) ?_
      refine zw_ge M (tgt := 64) dX5_wayOf_36 (by decide) rfl (w_of ⟨by decide, by decide⟩) (fun c39 => ?_) (fun c39 => ?_)
      · have hp := hp.1 c39
        refine zi_const M 1 dX5_wayOf_64 rfl ?_
        refine z_is M [(4, .int (iN 1)), (0, .ref (ad (11, 0, 0))), (1, .int (iN v1)), (2, .int (iN v2)), (3, .int (iN v3))] dX5_wayOf_65 hl (by decide) rfl (fun ls hl => ?_)
        obtain ⟨f40, hp⟩ := hp
        exact hL67 f40 1 σ _ _ _  hp hW hS (lv_sub hl [1, 2, 4, 0] rfl)
      · have hp := hp.2 c39
        refine z_al_n M dX5_wayOf_39 rfl hl 0 rfl ?_
        refine zg_X5_25 M u_hin5 hW hKC.k11 (M.hts _ u_fl_X5_75) dX5_wayOf_40 ?_
        refine z_il M dX5_wayOf_43 hl 4 rfl ?_
        refine z_il M dX5_wayOf_45 hl 4 rfl ?_
        refine z_il_n M dX5_wayOf_47 rfl hl 2 rfl ?_
        refine zw_ne M (tgt := 55) dX5_wayOf_48 (by decide) rfl rfl (fun c41 => ?_) (fun c41 => ?_)
        · have hp := hp.1 c41
          refine zi_ldc M 1000000 (M.hts _ u_k_X5_122) dX5_wayOf_55 ?_
          obtain ⟨h43, h44, hp⟩ := hp
          obtain ⟨σ42, eσ42⟩ : ∃ z : nS, z = s1 σ (12, 19, 0) (v4).toNat 1000000 := ⟨_, rfl⟩
          have hp := hp σ42 eσ42
          refine zs_i (n := 8) M hW hS (hKC.k12 (by decide)) (fun _ _ => rfl) h43 h44 (by decide) dX5_wayOf_57 (fun H locs hW hS => ?_)
          rw [← eσ42] at hW
          obtain ⟨x45, ex45⟩ : ∃ z : Int, z = v4 + 1 := ⟨_, rfl⟩
          have hp := hp x45 ex45
          refine z_inc M [(4, .int (iN x45)), (0, .ref (ad (11, 0, 0))), (1, .int (iN v1)), (2, .int (iN v2)), (3, .int (iN v3))] x45 dX5_wayOf_58 hl 4 rfl ex45.symm (by decide) rfl (fun ls hl => ?_)
          refine zg M (tgt := 32) dX5_wayOf_61 (by decide) ?_
          exact ih32 x45 σ42 _ _ _  hp hW hS (lv_sub hl [1, 2, 3, 4, 0] rfl)
        · have hp := hp.2 c41
          refine zi_const M 0 dX5_wayOf_51 rfl ?_
          refine zg M (tgt := 57) dX5_wayOf_52 (by decide) ?_
          obtain ⟨h47, h48, hp⟩ := hp
          obtain ⟨σ46, eσ46⟩ : ∃ z : nS, z = s1 σ (12, 19, 0) (v4).toNat 0 := ⟨_, rfl⟩
          have hp := hp σ46 eσ46
          refine zs_i (n := 8) M hW hS (hKC.k12 (by decide)) (fun _ _ => rfl) h47 h48 (by decide) dX5_wayOf_57 (fun H locs hW hS => ?_)
          rw [← eσ46] at hW
          obtain ⟨x49, ex49⟩ : ∃ z : Int, z = v4 + 1 := ⟨_, rfl⟩
          have hp := hp x49 ex49
          refine z_inc M [(4, .int (iN x49)), (0, .ref (ad (11, 0, 0))), (1, .int (iN v1)), (2, .int (iN v2)), (3, .int (iN v3))] x49 dX5_wayOf_58 hl 4 rfl ex49.symm (by decide) rfl (fun ls hl => ?_)
          refine zg M (tgt := 32) dX5_wayOf_61 (by decide) ?_
          exact ih32 x49 σ46 _ _ _  hp hW hS (lv_sub hl [1, 2, 3, 4, 0] rfl)
  refine z_al_n M dX5_wayOf_0 rfl hl 0 rfl ?_
  refine zg_X5_3 M u_hin5 hW hKC.k11 (M.hts _ u_fl_X5_16) dX5_wayOf_1 ?_
  refine z_il_n M dX5_wayOf_4 rfl hl 1 rfl ?_
  obtain ⟨h50, h51, hp⟩ := hp
  refine za_i (n := 6) M hW (hKC.k12 (by decide)) (fun _ _ => rfl) h50 h51 (by decide) dX5_wayOf_5 ?_
  refine z_il_n M dX5_wayOf_6 rfl hl 2 rfl ?_
  refine zo_shr M dX5_wayOf_7 ?_
  refine zi_const M 1 dX5_wayOf_8 rfl ?_
  refine zo_and M dX5_wayOf_9 ?_
  refine zv_eq M (tgt := 26) dX5_wayOf_10 (by decide) rfl (fun c52 => ?_) (fun c52 => ?_)
  · have hp := hp.1 c52
    refine zi_ldc M 1000000 (M.hts _ u_k_X5_122) dX5_wayOf_26 ?_
    exact zr_i M hr hlocks (1000000, σ) rfl ⟨hp, hW⟩ hS dX5_wayOf_28
  · have hp := hp.2 c52
    refine z_al_n M dX5_wayOf_13 rfl hl 0 rfl ?_
    refine zg_X5_3 M u_hin5 hW hKC.k11 (M.hts _ u_fl_X5_16) dX5_wayOf_14 ?_
    refine z_il_n M dX5_wayOf_17 rfl hl 1 rfl ?_
    obtain ⟨h53, h54, hp⟩ := hp
    refine za_i (n := 6) M hW (hKC.k12 (by decide)) (fun _ _ => rfl) h53 h54 (by decide) dX5_wayOf_18 ?_
    refine z_il_n M dX5_wayOf_19 rfl hl 3 rfl ?_
    refine zo_shr M dX5_wayOf_20 ?_
    refine zi_const M 1 dX5_wayOf_21 rfl ?_
    refine zo_and M dX5_wayOf_22 ?_
    refine zv_ne M (tgt := 29) dX5_wayOf_23 (by decide) rfl (fun c55 => ?_) (fun c55 => ?_)
    · have hp := hp.1 c55
      refine zi_const M 0 dX5_wayOf_29 rfl ?_
      refine z_is M [(4, .int (iN 0)), (0, .ref (ad (11, 0, 0))), (1, .int (iN v1)), (2, .int (iN v2)), (3, .int (iN v3))] dX5_wayOf_30 hl (by decide) rfl (fun ls hl => ?_)
      obtain ⟨f56, hp⟩ := hp
      exact hL32 f56 0 σ _ _ _  hp hW hS (lv_sub hl [1, 2, 3, 4, 0] rfl)
    · have hp := hp.2 c55
      refine zi_ldc M 1000000 (M.hts _ u_k_X5_122) dX5_wayOf_26 ?_
      exact zr_i M hr hlocks (1000000, σ) rfl ⟨hp, hW⟩ hS dX5_wayOf_28
def P_X5_way (K : List nKey) (σ : nS) (v1 : Int) (v2 : Int) (v3 : Int) (k : Int → nS → Prop) : Prop :=
  ∀ σ1 : nS, σ1 = s1 σ (11, 0, 0) 24 0 → P_X5_isRider K σ1 v1 (fun r3 σ2 => ((w r3 = 0 → k (-1) σ2) ∧ (w r3 ≠ 0 → P_X5_isPlace K σ2 v2 (fun r6 σ5 => ((w r6 = 0 → k (-1) σ5) ∧ (w r6 ≠ 0 → P_X5_isPlace K σ5 v3 (fun r9 σ8 => ((w r9 ≠ 0 → P_X5_wayOf K σ8 v1 v2 v3 (fun r12 σ11 => ((w r12 ≠ 1000000 → k r12 σ11) ∧ (w r12 = 1000000 → k (-1) σ11)))) ∧ (w r9 = 0 → k (-1) σ8)))))))))
def rmX5_way : Room := { frames := 2, cells := 0, slots := 0, locals := 43 }
set_option maxHeartbeats 4000000 in
set_option maxRecDepth 100000 in
theorem w_X5_way {l : Launch} {D : va_G} {ca : Nat → ClassId} {K : List nKey} {ad : nKey → Nat} {σ : nS} {sz : Nat} (hKC : KC K) {v1 : Int} {v2 : Int} {v3 : Int} {k : Int → nS → Prop} (hp : P_X5_way K σ v1 v2 v3 k) : Met l yX5_way (Cond.code yX5_way cX5_way 5 (some .int) :: UW) rmX5_way (ZP D ca [.ref (ad (11, 0, 0)), .int (iN v1), .int (iN v2), .int (iN v3)] (ZB D K ad ca σ sz)) (ZQi D K ad ca sz k) 0 0 (FA K ad sz) := by
  refine z_start (cc := cX5_way) (maxL := 5) (ret := (some .int)) (own := RX5) (K := K) (ad := ad) (σ := σ) (Qc := fun sz => ZQi D K ad ca sz k) (by decide) rfl (Nat.le_of_ble_eq_true rfl) ?_
  intro p e s m args below meth c M hr hlocks hW ls hl
  have hS : va_S (FA K ad s.heap.size) s.heap s.heap [] := va_S.rf
  have hA : ∀ q : Nat, s.heap.size ≤ q → FA K ad s.heap.size q := fun q h => Or.inr h
  replace hl : lv_has ls 5 [(0, .ref (ad (11, 0, 0))), (1, .int (iN v1)), (2, .int (iN v2)), (3, .int (iN v3))] := hl
  unfold P_X5_way at hp
  refine z_al_n M dX5_way_0 rfl hl 0 rfl ?_
  refine zi_const M 0 dX5_way_1 rfl ?_
  obtain ⟨σ1, eσ1⟩ : ∃ z : nS, z = s1 σ (11, 0, 0) 24 0 := ⟨_, rfl⟩
  have hp := hp σ1 eσ1
  refine zp_X5_24 (v := 0) M u_hin5 hW hS hKC.k11 (M.hts _ u_fl_X5_102) dX5_way_2 (fun H locs hW hS => ?_)
  rw [← eσ1] at hW
  refine z_al_n M dX5_way_5 rfl hl 0 rfl ?_
  refine z_il_n M dX5_way_6 rfl hl 1 rfl ?_
  have hfa := hW.fa hS hA
  refine zc_VU (As := [.int (iN v1)]) (rest := []) M (w_X5_isRider hKC  hp) (cuV M 1 u_co_X5_isRider u_ml_X5_123 u_ini_X5 u_in_X5_isRider u_se_X5_isRider (by decide +kernel) rfl rfl ⟨Nat.le_of_ble_eq_true rfl, Nat.le_of_ble_eq_true rfl⟩) (z_recv M hW hKC.k11 rfl rfl) ⟨rfl, hW.weaken (fun _ _ => trivial)⟩ rfl hl rfl (Nat.le_of_ble_eq_true rfl) ⟨Nat.zero_le _, Nat.zero_le _⟩ dX5_way_7 hS hfa (fun u H locs hw _ _ hS => ?_)
  obtain ⟨r3, σ2⟩ := u
  obtain ⟨hp, hW2⟩ := hw
  have hW := hW2.weaken hfa
  try dsimp only at hp
  refine zv_eq M (tgt := 29) dX5_way_10 (by decide) rfl (fun c4 => ?_) (fun c4 => ?_)
  · have hp := hp.1 c4
    refine zi_const M (-1) dX5_way_29 rfl ?_
    exact zr_i M hr hlocks ((-1), σ2) rfl ⟨hp, hW⟩ hS dX5_way_30
  · have hp := hp.2 c4
    refine z_al_n M dX5_way_13 rfl hl 0 rfl ?_
    refine z_il_n M dX5_way_14 rfl hl 2 rfl ?_
    have hfa := hW.fa hS hA
    refine zc_VU (As := [.int (iN v2)]) (rest := []) M (w_X5_isPlace hKC  hp) (cuV M 1 u_co_X5_isPlace u_ml_X5_118 u_ini_X5 u_in_X5_isPlace u_se_X5_isPlace (by decide +kernel) rfl rfl ⟨Nat.le_of_ble_eq_true rfl, Nat.le_of_ble_eq_true rfl⟩) (z_recv M hW hKC.k11 rfl rfl) ⟨rfl, hW.weaken (fun _ _ => trivial)⟩ rfl hl rfl (Nat.le_of_ble_eq_true rfl) ⟨Nat.zero_le _, Nat.zero_le _⟩ dX5_way_15 hS hfa (fun u H locs hw _ _ hS => ?_)
    obtain ⟨r6, σ5⟩ := u
    obtain ⟨hp, hW2⟩ := hw
    have hW := hW2.weaken hfa
    try dsimp only at hp
    refine zv_eq M (tgt := 29) dX5_way_18 (by decide) rfl (fun c7 => ?_) (fun c7 => ?_)
    · have hp := hp.1 c7
      refine zi_const M (-1) dX5_way_29 rfl ?_
      exact zr_i M hr hlocks ((-1), σ5) rfl ⟨hp, hW⟩ hS dX5_way_30
    · have hp := hp.2 c7
      refine z_al_n M dX5_way_21 rfl hl 0 rfl ?_
      refine z_il_n M dX5_way_22 rfl hl 3 rfl ?_
      have hfa := hW.fa hS hA
      refine zc_VU (As := [.int (iN v3)]) (rest := []) M (w_X5_isPlace hKC  hp) (cuV M 1 u_co_X5_isPlace u_ml_X5_118 u_ini_X5 u_in_X5_isPlace u_se_X5_isPlace (by decide +kernel) rfl rfl ⟨Nat.le_of_ble_eq_true rfl, Nat.le_of_ble_eq_true rfl⟩) (z_recv M hW hKC.k11 rfl rfl) ⟨rfl, hW.weaken (fun _ _ => trivial)⟩ rfl hl rfl (Nat.le_of_ble_eq_true rfl) ⟨Nat.zero_le _, Nat.zero_le _⟩ dX5_way_23 hS hfa (fun u H locs hw _ _ hS => ?_)
      obtain ⟨r9, σ8⟩ := u
      obtain ⟨hp, hW2⟩ := hw
      have hW := hW2.weaken hfa
      try dsimp only at hp
      refine zv_ne M (tgt := 31) dX5_way_26 (by decide) rfl (fun c10 => ?_) (fun c10 => ?_)
      · have hp := hp.1 c10
        refine z_al_n M dX5_way_31 rfl hl 0 rfl ?_
        refine z_il_n M dX5_way_32 rfl hl 1 rfl ?_
        refine z_il_n M dX5_way_33 rfl hl 2 rfl ?_
        refine z_il_n M dX5_way_34 rfl hl 3 rfl ?_
        have hfa := hW.fa hS hA
        refine zc_VU (As := [.int (iN v1), .int (iN v2), .int (iN v3)]) (rest := []) M (w_X5_wayOf hKC  hp) (cuV M 3 u_co_X5_wayOf u_ml_X5_126 u_ini_X5 u_in_X5_wayOf u_se_X5_wayOf (by decide +kernel) rfl rfl ⟨Nat.le_of_ble_eq_true rfl, Nat.le_of_ble_eq_true rfl⟩) (z_recv M hW hKC.k11 rfl rfl) ⟨rfl, hW.weaken (fun _ _ => trivial)⟩ rfl hl rfl (Nat.le_of_ble_eq_true rfl) ⟨Nat.zero_le _, Nat.zero_le _⟩ dX5_way_35 hS hfa (fun u H locs hw _ _ hS => ?_)
        obtain ⟨r12, σ11⟩ := u
        obtain ⟨hp, hW2⟩ := hw
        have hW := hW2.weaken hfa
        try dsimp only at hp
        refine z_is M [(4, .int (iN r12)), (0, .ref (ad (11, 0, 0))), (1, .int (iN v1)), (2, .int (iN v2)), (3, .int (iN v3))] dX5_way_38 hl (by decide) rfl (fun ls hl => ?_)
        refine z_il M dX5_way_40 hl 0 rfl ?_
        refine zi_ldc M 1000000 (M.hts _ u_k_X5_122) dX5_way_42 ?_
        refine zw_ne M (tgt := 51) dX5_way_44 (by decide) rfl (w_of ⟨by decide, by decide⟩) (fun c13 => ?_) (fun c13 => ?_)
        · have hp := hp.1 c13
          refine z_il M dX5_way_51 hl 0 rfl ?_
          exact zr_i M hr hlocks (r12, σ11) rfl ⟨hp, hW⟩ hS dX5_way_53
        · have hp := hp.2 c13
          refine zi_const M (-1) dX5_way_47 rfl ?_
          refine zg M (tgt := 53) dX5_way_48 (by decide) ?_
          exact zr_i M hr hlocks ((-1), σ11) rfl ⟨hp, hW⟩ hS dX5_way_53
      · have hp := hp.2 c10
        refine zi_const M (-1) dX5_way_29 rfl ?_
        exact zr_i M hr hlocks ((-1), σ8) rfl ⟨hp, hW⟩ hS dX5_way_30
def P_X5_endOf (K : List nKey) (σ : nS) (v1 : Int) (k : Int → nS → Prop) : Prop :=
  0 ≤ v1 ∧ v1 < 40 ∧ 0 ≤ ((8 * (((24 * v1) + (σ.1 (12, 18, 0) (v1).toNat)) - 1)) + 4) ∧ ((8 * (((24 * v1) + (σ.1 (12, 18, 0) (v1).toNat)) - 1)) + 4) < 7680 ∧ k (σ.1 (12, 17, 0) (((8 * (((24 * v1) + (σ.1 (12, 18, 0) (v1).toNat)) - 1)) + 4)).toNat) σ
def rmX5_endOf : Room := { frames := 0, cells := 0, slots := 0, locals := 0 }
set_option maxHeartbeats 4000000 in
set_option maxRecDepth 100000 in
theorem w_X5_endOf {l : Launch} {D : va_G} {ca : Nat → ClassId} {K : List nKey} {ad : nKey → Nat} {σ : nS} {sz : Nat} (hKC : KC K) {v1 : Int} {k : Int → nS → Prop} (hp : P_X5_endOf K σ v1 k) : Met l yX5_endOf (Cond.code yX5_endOf cX5_endOf 2 (some .int) :: UW) rmX5_endOf (ZP D ca [.ref (ad (11, 0, 0)), .int (iN v1)] (ZB D K ad ca σ sz)) (ZQi D K ad ca sz k) 0 0 (FA K ad sz) := by
  refine z_start (cc := cX5_endOf) (maxL := 2) (ret := (some .int)) (own := RX5) (K := K) (ad := ad) (σ := σ) (Qc := fun sz => ZQi D K ad ca sz k) (by decide) rfl (Nat.le_of_ble_eq_true rfl) ?_
  intro p e s m args below meth c M hr hlocks hW ls hl
  have hS : va_S (FA K ad s.heap.size) s.heap s.heap [] := va_S.rf
  have hA : ∀ q : Nat, s.heap.size ≤ q → FA K ad s.heap.size q := fun q h => Or.inr h
  replace hl : lv_has ls 2 [(0, .ref (ad (11, 0, 0))), (1, .int (iN v1))] := hl
  unfold P_X5_endOf at hp
  refine z_al_n M dX5_endOf_0 rfl hl 0 rfl ?_
  refine zg_X5_22 M u_hin5 hW hKC.k11 (M.hts _ u_fl_X5_69) dX5_endOf_1 ?_
  refine zi_bi M 8 dX5_endOf_4 (by decide +kernel) ?_
  refine zi_bi M 24 dX5_endOf_6 (by decide +kernel) ?_
  refine z_il_n M dX5_endOf_8 rfl hl 1 rfl ?_
  refine zi_mul M dX5_endOf_9 ?_
  refine z_al_n M dX5_endOf_10 rfl hl 0 rfl ?_
  refine zg_X5_23 M u_hin5 hW hKC.k11 (M.hts _ u_fl_X5_72) dX5_endOf_11 ?_
  refine z_il_n M dX5_endOf_14 rfl hl 1 rfl ?_
  obtain ⟨h1, h2, hp⟩ := hp
  refine za_i (n := 40) M hW (hKC.k12 (by decide)) (fun _ _ => rfl) h1 h2 (by decide) dX5_endOf_15 ?_
  refine zi_add M dX5_endOf_16 ?_
  refine zi_const M 1 dX5_endOf_17 rfl ?_
  refine zi_sub M dX5_endOf_18 ?_
  refine zi_mul M dX5_endOf_19 ?_
  refine zi_const M 4 dX5_endOf_20 rfl ?_
  refine zi_add M dX5_endOf_21 ?_
  obtain ⟨h3, h4, hp⟩ := hp
  refine za_i (n := 7680) M hW (hKC.k12 (by decide)) (fun _ _ => rfl) h3 h4 (by decide) dX5_endOf_22 ?_
  exact zr_i M hr hlocks ((σ.1 (12, 17, 0) (((8 * (((24 * v1) + (σ.1 (12, 18, 0) (v1).toNat)) - 1)) + 4)).toNat), σ) rfl ⟨hp, hW⟩ hS dX5_endOf_23
def P_X5_count_L126 (K : List nKey) (k : Int → nS → Prop) : Nat → Int → Int → nS → Prop
  | 0 => fun _ _ _ => False
  | n + 1 => fun v2 v3 σ =>
    ((w (σ.1 (11, 0, 0) 20) ≤ w v3 → k v2 σ) ∧ (w v3 < w (σ.1 (11, 0, 0) 20) → 0 ≤ v3 ∧ v3 < 40 ∧ ((w (σ.1 (12, 16, 0) (v3).toNat) ≠ 1 → ∀ x5 : Int, x5 = v3 + 1 → (P_X5_count_L126 K k n) v2 x5 σ) ∧ (w (σ.1 (12, 16, 0) (v3).toNat) = 1 → P_X5_endOf K σ v3 (fun r7 σ6 => 0 ≤ v3 ∧ v3 < 40 ∧ 0 ≤ v3 ∧ v3 < 40 ∧ ((w (r7 - (σ6.1 (12, 14, 0) (v3).toNat)) ≤ w (σ6.1 (12, 15, 0) (v3).toNat) → ∀ x13 : Int, x13 = v3 + 1 → (P_X5_count_L126 K k n) v2 x13 σ6) ∧ (w (σ6.1 (12, 15, 0) (v3).toNat) < w (r7 - (σ6.1 (12, 14, 0) (v3).toNat)) → ∀ x14 : Int, x14 = v2 + 1 → ∀ x15 : Int, x15 = v3 + 1 → (P_X5_count_L126 K k n) x14 x15 σ6)))))))
def P_X5_count_L95 (K : List nKey) (k : Int → nS → Prop) : Nat → Int → Int → nS → Prop
  | 0 => fun _ _ _ => False
  | n + 1 => fun v2 v3 σ =>
    ((w (σ.1 (11, 0, 0) 20) ≤ w v3 → k v2 σ) ∧ (w v3 < w (σ.1 (11, 0, 0) 20) → 0 ≤ v3 ∧ v3 < 40 ∧ ((w (σ.1 (12, 16, 0) (v3).toNat) ≠ 2 → ∀ x20 : Int, x20 = v3 + 1 → (P_X5_count_L95 K k n) v2 x20 σ) ∧ (w (σ.1 (12, 16, 0) (v3).toNat) = 2 → ∀ x21 : Int, x21 = v2 + 1 → ∀ x22 : Int, x22 = v3 + 1 → (P_X5_count_L95 K k n) x21 x22 σ))))
def P_X5_count_L65 (K : List nKey) (k : Int → nS → Prop) : Nat → Int → Int → nS → Prop
  | 0 => fun _ _ _ => False
  | n + 1 => fun v2 v3 σ =>
    ((w (σ.1 (11, 0, 0) 20) ≤ w v3 → k v2 σ) ∧ (w v3 < w (σ.1 (11, 0, 0) 20) → 0 ≤ v3 ∧ v3 < 40 ∧ ((w (σ.1 (12, 16, 0) (v3).toNat) ≤ 0 → ∀ x27 : Int, x27 = v3 + 1 → (P_X5_count_L65 K k n) v2 x27 σ) ∧ (0 < w (σ.1 (12, 16, 0) (v3).toNat) → ∀ x28 : Int, x28 = v2 + 1 → ∀ x29 : Int, x29 = v3 + 1 → (P_X5_count_L65 K k n) x28 x29 σ))))
def P_X5_count (K : List nKey) (σ : nS) (v1 : Int) (k : Int → nS → Prop) : Prop :=
  ∀ σ30 : nS, σ30 = s1 σ (11, 0, 0) 24 0 → ((w v1 = 0 → k (σ30.1 (11, 0, 0) 1) σ30) ∧ (w v1 = 1 → k (σ30.1 (11, 0, 0) 12) σ30) ∧ (w v1 = 2 → k (σ30.1 (11, 0, 0) 20) σ30) ∧ (w v1 = 3 → ∃ f31 : Nat, P_X5_count_L65 K k f31 0 0 σ30) ∧ (w v1 = 4 → ∃ f32 : Nat, P_X5_count_L95 K k f32 0 0 σ30) ∧ (w v1 = 5 → ∃ f33 : Nat, P_X5_count_L126 K k f33 0 0 σ30) ∧ (w v1 < 0 ∨ 5 < w v1 → k (-1) σ30))
def rmX5_count : Room := { frames := 1, cells := 0, slots := 0, locals := 21 }
set_option maxHeartbeats 4000000 in
set_option maxRecDepth 100000 in
theorem w_X5_count {l : Launch} {D : va_G} {ca : Nat → ClassId} {K : List nKey} {ad : nKey → Nat} {σ : nS} {sz : Nat} (hKC : KC K) {v1 : Int} {k : Int → nS → Prop} (hp : P_X5_count K σ v1 k) : Met l yX5_count (Cond.code yX5_count cX5_count 4 (some .int) :: UW) rmX5_count (ZP D ca [.ref (ad (11, 0, 0)), .int (iN v1)] (ZB D K ad ca σ sz)) (ZQi D K ad ca sz k) 0 0 (FA K ad sz) := by
  refine z_start (cc := cX5_count) (maxL := 4) (ret := (some .int)) (own := RX5) (K := K) (ad := ad) (σ := σ) (Qc := fun sz => ZQi D K ad ca sz k) (by decide) rfl (Nat.le_of_ble_eq_true rfl) ?_
  intro p e s m args below meth c M hr hlocks hW ls hl
  have hS : va_S (FA K ad s.heap.size) s.heap s.heap [] := va_S.rf
  have hA : ∀ q : Nat, s.heap.size ≤ q → FA K ad s.heap.size q := fun q h => Or.inr h
  replace hl : lv_has ls 4 [(0, .ref (ad (11, 0, 0))), (1, .int (iN v1))] := hl
  unfold P_X5_count at hp
  have hL126 : ∀ (f126 : Nat) (v2 : Int) (v3 : Int) (σ : nS) (H : Heap) (locs : List Loc) (ls : Array Slot), P_X5_count_L126 K k f126 v2 v3 σ → XW D (FA K ad s.heap.size) K ad (cR ca ad σ) H → va_S (FA K ad s.heap.size) s.heap H locs → lv_has ls 4 [(0, .ref (ad (11, 0, 0))), (2, .int (iN v2)), (3, .int (iN v3))] → W p l e rmX5_count s m args below meth c H locs 0 0 (MQ below (ZQi D K ad ca s.heap.size k) args s 0 0 (FA K ad s.heap.size)) (F0 m 126 ls []) := by
    intro f126
    induction f126 with
    | zero =>
      intro v2 v3 σ H locs ls  hp
      exact hp.elim
    | succ f126 ih126 =>
      intro v2 v3 σ H locs ls  hp hW hS hl
      refine z_il_n M dX5_count_126 rfl hl 2 rfl ?_
      refine z_al_n M dX5_count_127 rfl hl 0 rfl ?_
      refine zg_X5_20 M u_hin5 hW hKC.k11 (M.hts _ u_fl_X5_115) dX5_count_128 ?_
      refine zw_ge M (tgt := 174) dX5_count_131 (by decide) rfl rfl (fun c1 => ?_) (fun c1 => ?_)
      · have hp := hp.1 c1
        refine z_il_n M dX5_count_174 rfl hl 1 rfl ?_
        exact zr_i M hr hlocks (v2, σ) rfl ⟨hp, hW⟩ hS dX5_count_175
      · have hp := hp.2 c1
        refine z_al_n M dX5_count_134 rfl hl 0 rfl ?_
        refine zg_X5_19 M u_hin5 hW hKC.k11 (M.hts _ u_fl_X5_63) dX5_count_135 ?_
        refine z_il_n M dX5_count_138 rfl hl 2 rfl ?_
        obtain ⟨h2, h3, hp⟩ := hp
        refine za_i (n := 40) M hW (hKC.k12 (by decide)) (fun _ _ => rfl) h2 h3 (by decide) dX5_count_139 ?_
        refine zi_const M 1 dX5_count_140 rfl ?_
        refine zw_ne M (tgt := 168) dX5_count_141 (by decide) rfl (w_of ⟨by decide, by decide⟩) (fun c4 => ?_) (fun c4 => ?_)
        · have hp := hp.1 c4
          obtain ⟨x5, ex5⟩ : ∃ z : Int, z = v3 + 1 := ⟨_, rfl⟩
          have hp := hp x5 ex5
          refine z_inc M [(3, .int (iN x5)), (0, .ref (ad (11, 0, 0))), (2, .int (iN v2))] x5 dX5_count_168 hl 2 rfl ex5.symm (by decide) rfl (fun ls hl => ?_)
          refine zg M (tgt := 126) dX5_count_171 (by decide) ?_
          exact ih126 v2 x5 σ _ _ _  hp hW hS (lv_sub hl [1, 2, 0] rfl)
        · have hp := hp.2 c4
          refine z_al_n M dX5_count_144 rfl hl 0 rfl ?_
          refine z_il_n M dX5_count_145 rfl hl 2 rfl ?_
          have hfa := hW.fa hS hA
          refine zc_VU (As := [.int (iN v3)]) (rest := []) M (w_X5_endOf hKC  hp) (cuV M 1 u_co_X5_endOf u_ml_X5_130 u_ini_X5 u_in_X5_endOf u_se_X5_endOf (by decide +kernel) rfl rfl ⟨Nat.le_of_ble_eq_true rfl, Nat.le_of_ble_eq_true rfl⟩) (z_recv M hW hKC.k11 rfl rfl) ⟨rfl, hW.weaken (fun _ _ => trivial)⟩ rfl hl rfl (Nat.le_of_ble_eq_true rfl) ⟨Nat.zero_le _, Nat.zero_le _⟩ dX5_count_146 hS hfa (fun u H locs hw _ _ hS => ?_)
          obtain ⟨r7, σ6⟩ := u
          obtain ⟨hp, hW2⟩ := hw
          have hW := hW2.weaken hfa
          try dsimp only at hp
          refine z_al_n M dX5_count_149 rfl hl 0 rfl ?_
          refine zg_X5_17 M u_hin5 hW hKC.k11 (M.hts _ u_fl_X5_57) dX5_count_150 ?_
          refine z_il_n M dX5_count_153 rfl hl 2 rfl ?_
          obtain ⟨h8, h9, hp⟩ := hp
          refine za_i (n := 40) M hW (hKC.k12 (by decide)) (fun _ _ => rfl) h8 h9 (by decide) dX5_count_154 ?_
          refine zi_sub M dX5_count_155 ?_
          refine z_al_n M dX5_count_156 rfl hl 0 rfl ?_
          refine zg_X5_18 M u_hin5 hW hKC.k11 (M.hts _ u_fl_X5_60) dX5_count_157 ?_
          refine z_il_n M dX5_count_160 rfl hl 2 rfl ?_
          obtain ⟨h10, h11, hp⟩ := hp
          refine za_i (n := 40) M hW (hKC.k12 (by decide)) (fun _ _ => rfl) h10 h11 (by decide) dX5_count_161 ?_
          refine zw_le M (tgt := 168) dX5_count_162 (by decide) rfl rfl (fun c12 => ?_) (fun c12 => ?_)
          · have hp := hp.1 c12
            obtain ⟨x13, ex13⟩ : ∃ z : Int, z = v3 + 1 := ⟨_, rfl⟩
            have hp := hp x13 ex13
            refine z_inc M [(3, .int (iN x13)), (0, .ref (ad (11, 0, 0))), (2, .int (iN v2))] x13 dX5_count_168 hl 2 rfl ex13.symm (by decide) rfl (fun ls hl => ?_)
            refine zg M (tgt := 126) dX5_count_171 (by decide) ?_
            exact ih126 v2 x13 σ6 _ _ _  hp hW hS (lv_sub hl [1, 2, 0] rfl)
          · have hp := hp.2 c12
            obtain ⟨x14, ex14⟩ : ∃ z : Int, z = v2 + 1 := ⟨_, rfl⟩
            have hp := hp x14 ex14
            refine z_inc M [(2, .int (iN x14)), (0, .ref (ad (11, 0, 0))), (3, .int (iN v3))] x14 dX5_count_165 hl 1 rfl ex14.symm (by decide) rfl (fun ls hl => ?_)
            obtain ⟨x15, ex15⟩ : ∃ z : Int, z = v3 + 1 := ⟨_, rfl⟩
            have hp := hp x15 ex15
            refine z_inc M [(3, .int (iN x15)), (2, .int (iN x14)), (0, .ref (ad (11, 0, 0)))] x15 dX5_count_168 hl 2 rfl ex15.symm (by decide) rfl (fun ls hl => ?_)
            refine zg M (tgt := 126) dX5_count_171 (by decide) ?_
            exact ih126 x14 x15 σ6 _ _ _  hp hW hS (lv_sub hl [2, 1, 0] rfl)
  have hL95 : ∀ (f95 : Nat) (v2 : Int) (v3 : Int) (σ : nS) (H : Heap) (locs : List Loc) (ls : Array Slot), P_X5_count_L95 K k f95 v2 v3 σ → XW D (FA K ad s.heap.size) K ad (cR ca ad σ) H → va_S (FA K ad s.heap.size) s.heap H locs → lv_has ls 4 [(0, .ref (ad (11, 0, 0))), (2, .int (iN v2)), (3, .int (iN v3))] → W p l e rmX5_count s m args below meth c H locs 0 0 (MQ below (ZQi D K ad ca s.heap.size k) args s 0 0 (FA K ad s.heap.size)) (F0 m 95 ls []) := by
    intro f95
    induction f95 with
    | zero =>
      intro v2 v3 σ H locs ls  hp
      exact hp.elim
    | succ f95 ih95 =>
      intro v2 v3 σ H locs ls  hp hW hS hl
      refine z_il_n M dX5_count_95 rfl hl 2 rfl ?_
      refine z_al_n M dX5_count_96 rfl hl 0 rfl ?_
      refine zg_X5_20 M u_hin5 hW hKC.k11 (M.hts _ u_fl_X5_115) dX5_count_97 ?_
      refine zw_ge M (tgt := 122) dX5_count_100 (by decide) rfl rfl (fun c16 => ?_) (fun c16 => ?_)
      · have hp := hp.1 c16
        refine z_il_n M dX5_count_122 rfl hl 1 rfl ?_
        exact zr_i M hr hlocks (v2, σ) rfl ⟨hp, hW⟩ hS dX5_count_123
      · have hp := hp.2 c16
        refine z_al_n M dX5_count_103 rfl hl 0 rfl ?_
        refine zg_X5_19 M u_hin5 hW hKC.k11 (M.hts _ u_fl_X5_63) dX5_count_104 ?_
        refine z_il_n M dX5_count_107 rfl hl 2 rfl ?_
        obtain ⟨h17, h18, hp⟩ := hp
        refine za_i (n := 40) M hW (hKC.k12 (by decide)) (fun _ _ => rfl) h17 h18 (by decide) dX5_count_108 ?_
        refine zi_const M 2 dX5_count_109 rfl ?_
        refine zw_ne M (tgt := 116) dX5_count_110 (by decide) rfl (w_of ⟨by decide, by decide⟩) (fun c19 => ?_) (fun c19 => ?_)
        · have hp := hp.1 c19
          obtain ⟨x20, ex20⟩ : ∃ z : Int, z = v3 + 1 := ⟨_, rfl⟩
          have hp := hp x20 ex20
          refine z_inc M [(3, .int (iN x20)), (0, .ref (ad (11, 0, 0))), (2, .int (iN v2))] x20 dX5_count_116 hl 2 rfl ex20.symm (by decide) rfl (fun ls hl => ?_)
          refine zg M (tgt := 95) dX5_count_119 (by decide) ?_
          exact ih95 v2 x20 σ _ _ _  hp hW hS (lv_sub hl [1, 2, 0] rfl)
        · have hp := hp.2 c19
          obtain ⟨x21, ex21⟩ : ∃ z : Int, z = v2 + 1 := ⟨_, rfl⟩
          have hp := hp x21 ex21
          refine z_inc M [(2, .int (iN x21)), (0, .ref (ad (11, 0, 0))), (3, .int (iN v3))] x21 dX5_count_113 hl 1 rfl ex21.symm (by decide) rfl (fun ls hl => ?_)
          obtain ⟨x22, ex22⟩ : ∃ z : Int, z = v3 + 1 := ⟨_, rfl⟩
          have hp := hp x22 ex22
          refine z_inc M [(3, .int (iN x22)), (2, .int (iN x21)), (0, .ref (ad (11, 0, 0)))] x22 dX5_count_116 hl 2 rfl ex22.symm (by decide) rfl (fun ls hl => ?_)
          refine zg M (tgt := 95) dX5_count_119 (by decide) ?_
          exact ih95 x21 x22 σ _ _ _  hp hW hS (lv_sub hl [2, 1, 0] rfl)
  have hL65 : ∀ (f65 : Nat) (v2 : Int) (v3 : Int) (σ : nS) (H : Heap) (locs : List Loc) (ls : Array Slot), P_X5_count_L65 K k f65 v2 v3 σ → XW D (FA K ad s.heap.size) K ad (cR ca ad σ) H → va_S (FA K ad s.heap.size) s.heap H locs → lv_has ls 4 [(0, .ref (ad (11, 0, 0))), (2, .int (iN v2)), (3, .int (iN v3))] → W p l e rmX5_count s m args below meth c H locs 0 0 (MQ below (ZQi D K ad ca s.heap.size k) args s 0 0 (FA K ad s.heap.size)) (F0 m 65 ls []) := by
    intro f65
    induction f65 with
    | zero =>
      intro v2 v3 σ H locs ls  hp
      exact hp.elim
    | succ f65 ih65 =>
      intro v2 v3 σ H locs ls  hp hW hS hl
      refine z_il_n M dX5_count_65 rfl hl 2 rfl ?_
      refine z_al_n M dX5_count_66 rfl hl 0 rfl ?_
      refine zg_X5_20 M u_hin5 hW hKC.k11 (M.hts _ u_fl_X5_115) dX5_count_67 ?_
      refine zw_ge M (tgt := 91) dX5_count_70 (by decide) rfl rfl (fun c23 => ?_) (fun c23 => ?_)
      · have hp := hp.1 c23
        refine z_il_n M dX5_count_91 rfl hl 1 rfl ?_
        exact zr_i M hr hlocks (v2, σ) rfl ⟨hp, hW⟩ hS dX5_count_92
      · have hp := hp.2 c23
        refine z_al_n M dX5_count_73 rfl hl 0 rfl ?_
        refine zg_X5_19 M u_hin5 hW hKC.k11 (M.hts _ u_fl_X5_63) dX5_count_74 ?_
        refine z_il_n M dX5_count_77 rfl hl 2 rfl ?_
        obtain ⟨h24, h25, hp⟩ := hp
        refine za_i (n := 40) M hW (hKC.k12 (by decide)) (fun _ _ => rfl) h24 h25 (by decide) dX5_count_78 ?_
        refine zv_le M (tgt := 85) dX5_count_79 (by decide) rfl (fun c26 => ?_) (fun c26 => ?_)
        · have hp := hp.1 c26
          obtain ⟨x27, ex27⟩ : ∃ z : Int, z = v3 + 1 := ⟨_, rfl⟩
          have hp := hp x27 ex27
          refine z_inc M [(3, .int (iN x27)), (0, .ref (ad (11, 0, 0))), (2, .int (iN v2))] x27 dX5_count_85 hl 2 rfl ex27.symm (by decide) rfl (fun ls hl => ?_)
          refine zg M (tgt := 65) dX5_count_88 (by decide) ?_
          exact ih65 v2 x27 σ _ _ _  hp hW hS (lv_sub hl [1, 2, 0] rfl)
        · have hp := hp.2 c26
          obtain ⟨x28, ex28⟩ : ∃ z : Int, z = v2 + 1 := ⟨_, rfl⟩
          have hp := hp x28 ex28
          refine z_inc M [(2, .int (iN x28)), (0, .ref (ad (11, 0, 0))), (3, .int (iN v3))] x28 dX5_count_82 hl 1 rfl ex28.symm (by decide) rfl (fun ls hl => ?_)
          obtain ⟨x29, ex29⟩ : ∃ z : Int, z = v3 + 1 := ⟨_, rfl⟩
          have hp := hp x29 ex29
          refine z_inc M [(3, .int (iN x29)), (2, .int (iN x28)), (0, .ref (ad (11, 0, 0)))] x29 dX5_count_85 hl 2 rfl ex29.symm (by decide) rfl (fun ls hl => ?_)
          refine zg M (tgt := 65) dX5_count_88 (by decide) ?_
          exact ih65 x28 x29 σ _ _ _  hp hW hS (lv_sub hl [2, 1, 0] rfl)
  refine z_al_n M dX5_count_0 rfl hl 0 rfl ?_
  refine zi_const M 0 dX5_count_1 rfl ?_
  obtain ⟨σ30, eσ30⟩ : ∃ z : nS, z = s1 σ (11, 0, 0) 24 0 := ⟨_, rfl⟩
  have hp := hp σ30 eσ30
  refine zp_X5_24 (v := 0) M u_hin5 hW hS hKC.k11 (M.hts _ u_fl_X5_102) dX5_count_2 (fun H locs hW hS => ?_)
  rw [← eσ30] at hW
  refine zi_const M 0 dX5_count_5 rfl ?_
  refine z_is_n M [(2, .int (iN 0)), (0, .ref (ad (11, 0, 0))), (1, .int (iN v1))] dX5_count_6 rfl hl (by decide) rfl (fun ls hl => ?_)
  refine z_il_n M dX5_count_7 rfl hl 2 rfl ?_
  by_cases c8_0 : w v1 = 0
  · have hp := hp.1 c8_0
    refine z_tin M (off := 40) (tgt := 48) 0 dX5_count_8 c8_0 (by decide) (by decide) rfl (by decide) ?_
    refine z_al_n M dX5_count_48 rfl hl 1 rfl ?_
    refine zg_X5_1 M u_hin5 hW hKC.k11 (M.hts _ u_fl_X5_105) dX5_count_49 ?_
    exact zr_i M hr hlocks ((σ30.1 (11, 0, 0) 1), σ30) rfl ⟨hp, hW⟩ hS dX5_count_52
  · by_cases c8_1 : w v1 = 1
    · have hp := hp.2.1 c8_1
      refine z_tin M (off := 45) (tgt := 53) 1 dX5_count_8 c8_1 (by decide) (by decide) rfl (by decide) ?_
      refine z_al_n M dX5_count_53 rfl hl 1 rfl ?_
      refine zg_X5_12 M u_hin5 hW hKC.k11 (M.hts _ u_fl_X5_112) dX5_count_54 ?_
      exact zr_i M hr hlocks ((σ30.1 (11, 0, 0) 12), σ30) rfl ⟨hp, hW⟩ hS dX5_count_57
    · by_cases c8_2 : w v1 = 2
      · have hp := hp.2.2.1 c8_2
        refine z_tin M (off := 50) (tgt := 58) 2 dX5_count_8 c8_2 (by decide) (by decide) rfl (by decide) ?_
        refine z_al_n M dX5_count_58 rfl hl 1 rfl ?_
        refine zg_X5_20 M u_hin5 hW hKC.k11 (M.hts _ u_fl_X5_115) dX5_count_59 ?_
        exact zr_i M hr hlocks ((σ30.1 (11, 0, 0) 20), σ30) rfl ⟨hp, hW⟩ hS dX5_count_62
      · by_cases c8_3 : w v1 = 3
        · have hp := hp.2.2.2.1 c8_3
          refine z_tin M (off := 55) (tgt := 63) 3 dX5_count_8 c8_3 (by decide) (by decide) rfl (by decide) ?_
          refine zi_const M 0 dX5_count_63 rfl ?_
          refine z_is_n M [(3, .int (iN 0)), (2, .int (iN 0)), (0, .ref (ad (11, 0, 0))), (1, .int (iN v1))] dX5_count_64 rfl hl (by decide) rfl (fun ls hl => ?_)
          obtain ⟨f31, hp⟩ := hp
          exact hL65 f31 0 0 σ30 _ _ _  hp hW hS (lv_sub hl [2, 1, 0] rfl)
        · by_cases c8_4 : w v1 = 4
          · have hp := hp.2.2.2.2.1 c8_4
            refine z_tin M (off := 85) (tgt := 93) 4 dX5_count_8 c8_4 (by decide) (by decide) rfl (by decide) ?_
            refine zi_const M 0 dX5_count_93 rfl ?_
            refine z_is_n M [(3, .int (iN 0)), (2, .int (iN 0)), (0, .ref (ad (11, 0, 0))), (1, .int (iN v1))] dX5_count_94 rfl hl (by decide) rfl (fun ls hl => ?_)
            obtain ⟨f32, hp⟩ := hp
            exact hL95 f32 0 0 σ30 _ _ _  hp hW hS (lv_sub hl [2, 1, 0] rfl)
          · by_cases c8_5 : w v1 = 5
            · have hp := hp.2.2.2.2.2.1 c8_5
              refine z_tin M (off := 116) (tgt := 124) 5 dX5_count_8 c8_5 (by decide) (by decide) rfl (by decide) ?_
              refine zi_const M 0 dX5_count_124 rfl ?_
              refine z_is_n M [(3, .int (iN 0)), (2, .int (iN 0)), (0, .ref (ad (11, 0, 0))), (1, .int (iN v1))] dX5_count_125 rfl hl (by decide) rfl (fun ls hl => ?_)
              obtain ⟨f33, hp⟩ := hp
              exact hL126 f33 0 0 σ30 _ _ _  hp hW hS (lv_sub hl [2, 1, 0] rfl)
            · have c8_o : w v1 < 0 ∨ 5 < w v1 := by omega
              have hp := hp.2.2.2.2.2.2 c8_o
              refine z_tout M (tgt := 176) dX5_count_8 c8_o (by decide) ?_
              refine zi_const M (-1) dX5_count_176 rfl ?_
              exact zr_i M hr hlocks ((-1), σ30) rfl ⟨hp, hW⟩ hS dX5_count_177
def P_X5_of (K : List nKey) (σ : nS) (v1 : Int) (v2 : Int) (k : Int → nS → Prop) : Prop :=
  ∀ σ1 : nS, σ1 = s1 σ (11, 0, 0) 24 0 → P_X5_isRider K σ1 v1 (fun r3 σ2 => ((w r3 = 0 → ∀ σ5 : nS, σ5 = s1 σ2 (11, 0, 0) 24 1 → k 0 σ5) ∧ (w r3 ≠ 0 → P_X5_in K σ2 v2 0 6 (fun r7 σ6 => ((w r7 ≠ 0 → ((w v2 = 0 → 0 ≤ v1 ∧ v1 < 6 ∧ k (σ6.1 (12, 1, 0) (v1).toNat) σ6) ∧ (w v2 = 1 → 0 ≤ v1 ∧ v1 < 6 ∧ k (σ6.1 (12, 6, 0) (v1).toNat) σ6) ∧ (w v2 = 2 → 0 ≤ v1 ∧ v1 < 6 ∧ ((w (σ6.1 (12, 8, 0) (v1).toNat) = 0 → 0 ≤ v1 ∧ v1 < 6 ∧ k (σ6.1 (12, 7, 0) (v1).toNat) σ6) ∧ (w (σ6.1 (12, 8, 0) (v1).toNat) ≠ 0 → k (-1) σ6))) ∧ (w v2 = 3 → 0 ≤ v1 ∧ v1 < 6 ∧ k (σ6.1 (12, 9, 0) (v1).toNat) σ6) ∧ (w v2 = 4 → 0 ≤ v1 ∧ v1 < 6 ∧ k (σ6.1 (12, 10, 0) (v1).toNat) σ6) ∧ (w v2 = 5 → 0 ≤ v1 ∧ v1 < 6 ∧ k (σ6.1 (12, 2, 0) (v1).toNat) σ6) ∧ (w v2 < 0 ∨ 5 < w v2 → 0 ≤ v1 ∧ v1 < 6 ∧ k (σ6.1 (12, 5, 0) (v1).toNat) σ6))) ∧ (w r7 = 0 → ∀ σ26 : nS, σ26 = s1 σ6 (11, 0, 0) 24 1 → k 0 σ26))))))
def rmX5_of : Room := { frames := 2, cells := 0, slots := 0, locals := 43 }
set_option maxHeartbeats 4000000 in
set_option maxRecDepth 100000 in
theorem w_X5_of {l : Launch} {D : va_G} {ca : Nat → ClassId} {K : List nKey} {ad : nKey → Nat} {σ : nS} {sz : Nat} (hKC : KC K) {v1 : Int} {v2 : Int} {k : Int → nS → Prop} (hp : P_X5_of K σ v1 v2 k) : Met l yX5_of (Cond.code yX5_of cX5_of 3 (some .int) :: UW) rmX5_of (ZP D ca [.ref (ad (11, 0, 0)), .int (iN v1), .int (iN v2)] (ZB D K ad ca σ sz)) (ZQi D K ad ca sz k) 0 0 (FA K ad sz) := by
  refine z_start (cc := cX5_of) (maxL := 3) (ret := (some .int)) (own := RX5) (K := K) (ad := ad) (σ := σ) (Qc := fun sz => ZQi D K ad ca sz k) (by decide) rfl (Nat.le_of_ble_eq_true rfl) ?_
  intro p e s m args below meth c M hr hlocks hW ls hl
  have hS : va_S (FA K ad s.heap.size) s.heap s.heap [] := va_S.rf
  have hA : ∀ q : Nat, s.heap.size ≤ q → FA K ad s.heap.size q := fun q h => Or.inr h
  replace hl : lv_has ls 3 [(0, .ref (ad (11, 0, 0))), (1, .int (iN v1)), (2, .int (iN v2))] := hl
  unfold P_X5_of at hp
  refine z_al_n M dX5_of_0 rfl hl 0 rfl ?_
  refine zi_const M 0 dX5_of_1 rfl ?_
  obtain ⟨σ1, eσ1⟩ : ∃ z : nS, z = s1 σ (11, 0, 0) 24 0 := ⟨_, rfl⟩
  have hp := hp σ1 eσ1
  refine zp_X5_24 (v := 0) M u_hin5 hW hS hKC.k11 (M.hts _ u_fl_X5_102) dX5_of_2 (fun H locs hW hS => ?_)
  rw [← eσ1] at hW
  refine z_al_n M dX5_of_5 rfl hl 0 rfl ?_
  refine z_il_n M dX5_of_6 rfl hl 1 rfl ?_
  have hfa := hW.fa hS hA
  refine zc_VU (As := [.int (iN v1)]) (rest := []) M (w_X5_isRider hKC  hp) (cuV M 1 u_co_X5_isRider u_ml_X5_123 u_ini_X5 u_in_X5_isRider u_se_X5_isRider (by decide +kernel) rfl rfl ⟨Nat.le_of_ble_eq_true rfl, Nat.le_of_ble_eq_true rfl⟩) (z_recv M hW hKC.k11 rfl rfl) ⟨rfl, hW.weaken (fun _ _ => trivial)⟩ rfl hl rfl (Nat.le_of_ble_eq_true rfl) ⟨Nat.zero_le _, Nat.zero_le _⟩ dX5_of_7 hS hfa (fun u H locs hw _ _ hS => ?_)
  obtain ⟨r3, σ2⟩ := u
  obtain ⟨hp, hW2⟩ := hw
  have hW := hW2.weaken hfa
  try dsimp only at hp
  refine zv_eq M (tgt := 23) dX5_of_10 (by decide) rfl (fun c4 => ?_) (fun c4 => ?_)
  · have hp := hp.1 c4
    refine z_al_n M dX5_of_23 rfl hl 0 rfl ?_
    refine zi_const M 1 dX5_of_24 rfl ?_
    obtain ⟨σ5, eσ5⟩ : ∃ z : nS, z = s1 σ2 (11, 0, 0) 24 1 := ⟨_, rfl⟩
    have hp := hp σ5 eσ5
    refine zp_X5_24 (v := 1) M u_hin5 hW hS hKC.k11 (M.hts _ u_fl_X5_102) dX5_of_25 (fun H locs hW hS => ?_)
    rw [← eσ5] at hW
    refine zi_const M 0 dX5_of_28 rfl ?_
    exact zr_i M hr hlocks (0, σ5) rfl ⟨hp, hW⟩ hS dX5_of_29
  · have hp := hp.2 c4
    refine z_il_n M dX5_of_13 rfl hl 2 rfl ?_
    refine zi_const M 0 dX5_of_14 rfl ?_
    refine zi_bi M 6 dX5_of_15 (by decide +kernel) ?_
    have hfa := hW.fa hS hA
    refine zc_SU (As := [.int (iN v2), .int (iN 0), .int (iN 6)]) (rest := []) M (w_X5_in hKC  hp) (cuS M 3 u_co_X5_in u_ml_X5_108 u_ini_X5 u_st_X5_in (by decide +kernel) rfl rfl ⟨Nat.le_of_ble_eq_true rfl, Nat.le_of_ble_eq_true rfl⟩) ⟨rfl, hW.weaken (fun _ _ => trivial)⟩ rfl hl rfl (Nat.le_of_ble_eq_true rfl) ⟨Nat.zero_le _, Nat.zero_le _⟩ dX5_of_17 hS hfa (fun u H locs hw _ _ hS => ?_)
    obtain ⟨r7, σ6⟩ := u
    obtain ⟨hp, hW2⟩ := hw
    have hW := hW2.weaken hfa
    try dsimp only at hp
    refine zv_ne M (tgt := 30) dX5_of_20 (by decide) rfl (fun c8 => ?_) (fun c8 => ?_)
    · have hp := hp.1 c8
      refine z_il_n M dX5_of_30 rfl hl 2 rfl ?_
      by_cases c31_0 : w v2 = 0
      · have hp := hp.1 c31_0
        refine z_tin M (off := 37) (tgt := 68) 0 dX5_of_31 c31_0 (by decide) (by decide) rfl (by decide) ?_
        refine z_al_n M dX5_of_68 rfl hl 0 rfl ?_
        refine zg_X5_2 M u_hin5 hW hKC.k11 (M.hts _ u_fl_X5_13) dX5_of_69 ?_
        refine z_il_n M dX5_of_72 rfl hl 1 rfl ?_
        obtain ⟨h9, h10, hp⟩ := hp
        refine za_i (n := 6) M hW (hKC.k12 (by decide)) (fun _ _ => rfl) h9 h10 (by decide) dX5_of_73 ?_
        exact zr_i M hr hlocks ((σ6.1 (12, 1, 0) (v1).toNat), σ6) rfl ⟨hp, hW⟩ hS dX5_of_74
      · by_cases c31_1 : w v2 = 1
        · have hp := hp.2.1 c31_1
          refine z_tin M (off := 44) (tgt := 75) 1 dX5_of_31 c31_1 (by decide) (by decide) rfl (by decide) ?_
          refine z_al_n M dX5_of_75 rfl hl 0 rfl ?_
          refine zg_X5_7 M u_hin5 hW hKC.k11 (M.hts _ u_fl_X5_28) dX5_of_76 ?_
          refine z_il_n M dX5_of_79 rfl hl 1 rfl ?_
          obtain ⟨h11, h12, hp⟩ := hp
          refine za_i (n := 6) M hW (hKC.k12 (by decide)) (fun _ _ => rfl) h11 h12 (by decide) dX5_of_80 ?_
          exact zr_i M hr hlocks ((σ6.1 (12, 6, 0) (v1).toNat), σ6) rfl ⟨hp, hW⟩ hS dX5_of_81
        · by_cases c31_2 : w v2 = 2
          · have hp := hp.2.2.1 c31_2
            refine z_tin M (off := 51) (tgt := 82) 2 dX5_of_31 c31_2 (by decide) (by decide) rfl (by decide) ?_
            refine z_al_n M dX5_of_82 rfl hl 0 rfl ?_
            refine zg_X5_9 M u_hin5 hW hKC.k11 (M.hts _ u_fl_X5_34) dX5_of_83 ?_
            refine z_il_n M dX5_of_86 rfl hl 1 rfl ?_
            obtain ⟨h13, h14, hp⟩ := hp
            refine za_z (n := 6) M hW (hKC.k12 (by decide)) (fun _ _ => rfl) h13 h14 (by decide) dX5_of_87 ?_
            refine zv_eq M (tgt := 95) dX5_of_88 (by decide) rfl (fun c15 => ?_) (fun c15 => ?_)
            · have hp := hp.1 c15
              refine z_al_n M dX5_of_95 rfl hl 0 rfl ?_
              refine zg_X5_8 M u_hin5 hW hKC.k11 (M.hts _ u_fl_X5_31) dX5_of_96 ?_
              refine z_il_n M dX5_of_99 rfl hl 1 rfl ?_
              obtain ⟨h16, h17, hp⟩ := hp
              refine za_i (n := 6) M hW (hKC.k12 (by decide)) (fun _ _ => rfl) h16 h17 (by decide) dX5_of_100 ?_
              exact zr_i M hr hlocks ((σ6.1 (12, 7, 0) (v1).toNat), σ6) rfl ⟨hp, hW⟩ hS dX5_of_101
            · have hp := hp.2 c15
              refine zi_const M (-1) dX5_of_91 rfl ?_
              refine zg M (tgt := 101) dX5_of_92 (by decide) ?_
              exact zr_i M hr hlocks ((-1), σ6) rfl ⟨hp, hW⟩ hS dX5_of_101
          · by_cases c31_3 : w v2 = 3
            · have hp := hp.2.2.2.1 c31_3
              refine z_tin M (off := 71) (tgt := 102) 3 dX5_of_31 c31_3 (by decide) (by decide) rfl (by decide) ?_
              refine z_al_n M dX5_of_102 rfl hl 0 rfl ?_
              refine zg_X5_10 M u_hin5 hW hKC.k11 (M.hts _ u_fl_X5_38) dX5_of_103 ?_
              refine z_il_n M dX5_of_106 rfl hl 1 rfl ?_
              obtain ⟨h18, h19, hp⟩ := hp
              refine za_i (n := 6) M hW (hKC.k12 (by decide)) (fun _ _ => rfl) h18 h19 (by decide) dX5_of_107 ?_
              exact zr_i M hr hlocks ((σ6.1 (12, 9, 0) (v1).toNat), σ6) rfl ⟨hp, hW⟩ hS dX5_of_108
            · by_cases c31_4 : w v2 = 4
              · have hp := hp.2.2.2.2.1 c31_4
                refine z_tin M (off := 78) (tgt := 109) 4 dX5_of_31 c31_4 (by decide) (by decide) rfl (by decide) ?_
                refine z_al_n M dX5_of_109 rfl hl 0 rfl ?_
                refine zg_X5_11 M u_hin5 hW hKC.k11 (M.hts _ u_fl_X5_41) dX5_of_110 ?_
                refine z_il_n M dX5_of_113 rfl hl 1 rfl ?_
                obtain ⟨h20, h21, hp⟩ := hp
                refine za_i (n := 6) M hW (hKC.k12 (by decide)) (fun _ _ => rfl) h20 h21 (by decide) dX5_of_114 ?_
                exact zr_i M hr hlocks ((σ6.1 (12, 10, 0) (v1).toNat), σ6) rfl ⟨hp, hW⟩ hS dX5_of_115
              · by_cases c31_5 : w v2 = 5
                · have hp := hp.2.2.2.2.2.1 c31_5
                  refine z_tin M (off := 85) (tgt := 116) 5 dX5_of_31 c31_5 (by decide) (by decide) rfl (by decide) ?_
                  refine z_al_n M dX5_of_116 rfl hl 0 rfl ?_
                  refine zg_X5_3 M u_hin5 hW hKC.k11 (M.hts _ u_fl_X5_16) dX5_of_117 ?_
                  refine z_il_n M dX5_of_120 rfl hl 1 rfl ?_
                  obtain ⟨h22, h23, hp⟩ := hp
                  refine za_i (n := 6) M hW (hKC.k12 (by decide)) (fun _ _ => rfl) h22 h23 (by decide) dX5_of_121 ?_
                  exact zr_i M hr hlocks ((σ6.1 (12, 2, 0) (v1).toNat), σ6) rfl ⟨hp, hW⟩ hS dX5_of_122
                · have c31_o : w v2 < 0 ∨ 5 < w v2 := by omega
                  have hp := hp.2.2.2.2.2.2 c31_o
                  refine z_tout M (tgt := 123) dX5_of_31 c31_o (by decide) ?_
                  refine z_al_n M dX5_of_123 rfl hl 0 rfl ?_
                  refine zg_X5_6 M u_hin5 hW hKC.k11 (M.hts _ u_fl_X5_25) dX5_of_124 ?_
                  refine z_il_n M dX5_of_127 rfl hl 1 rfl ?_
                  obtain ⟨h24, h25, hp⟩ := hp
                  refine za_i (n := 6) M hW (hKC.k12 (by decide)) (fun _ _ => rfl) h24 h25 (by decide) dX5_of_128 ?_
                  exact zr_i M hr hlocks ((σ6.1 (12, 5, 0) (v1).toNat), σ6) rfl ⟨hp, hW⟩ hS dX5_of_129
    · have hp := hp.2 c8
      refine z_al_n M dX5_of_23 rfl hl 0 rfl ?_
      refine zi_const M 1 dX5_of_24 rfl ?_
      obtain ⟨σ26, eσ26⟩ : ∃ z : nS, z = s1 σ6 (11, 0, 0) 24 1 := ⟨_, rfl⟩
      have hp := hp σ26 eσ26
      refine zp_X5_24 (v := 1) M u_hin5 hW hS hKC.k11 (M.hts _ u_fl_X5_102) dX5_of_25 (fun H locs hW hS => ?_)
      rw [← eσ26] at hW
      refine zi_const M 0 dX5_of_28 rfl ?_
      exact zr_i M hr hlocks (0, σ26) rfl ⟨hp, hW⟩ hS dX5_of_29
def P_X5_mayCarry (K : List nKey) (σ : nS) (v1 : Int) (v2 : Int) (k : Int → nS → Prop) : Prop :=
  0 ≤ v1 ∧ v1 < 6 ∧ ((w (σ.1 (12, 8, 0) (v1).toNat) ≠ 0 → k 0 σ) ∧ (w (σ.1 (12, 8, 0) (v1).toNat) = 0 → 0 ≤ v1 ∧ v1 < 6 ∧ ((w (andI (shrI (σ.1 (12, 5, 0) (v1).toNat) v2) 1) ≠ 1 → k 0 σ) ∧ (w (andI (shrI (σ.1 (12, 5, 0) (v1).toNat) v2) 1) = 1 → k 1 σ))))
def rmX5_mayCarry : Room := { frames := 0, cells := 0, slots := 0, locals := 0 }
set_option maxHeartbeats 4000000 in
set_option maxRecDepth 100000 in
theorem w_X5_mayCarry {l : Launch} {D : va_G} {ca : Nat → ClassId} {K : List nKey} {ad : nKey → Nat} {σ : nS} {sz : Nat} (hKC : KC K) {v1 : Int} {v2 : Int} {k : Int → nS → Prop} (hp : P_X5_mayCarry K σ v1 v2 k) : Met l yX5_mayCarry (Cond.code yX5_mayCarry cX5_mayCarry 3 (some .boolean) :: UW) rmX5_mayCarry (ZP D ca [.ref (ad (11, 0, 0)), .int (iN v1), .int (iN v2)] (ZB D K ad ca σ sz)) (ZQi D K ad ca sz k) 0 0 (FA K ad sz) := by
  refine z_start (cc := cX5_mayCarry) (maxL := 3) (ret := (some .boolean)) (own := RX5) (K := K) (ad := ad) (σ := σ) (Qc := fun sz => ZQi D K ad ca sz k) (by decide) rfl (Nat.le_of_ble_eq_true rfl) ?_
  intro p e s m args below meth c M hr hlocks hW ls hl
  have hS : va_S (FA K ad s.heap.size) s.heap s.heap [] := va_S.rf
  have hA : ∀ q : Nat, s.heap.size ≤ q → FA K ad s.heap.size q := fun q h => Or.inr h
  replace hl : lv_has ls 3 [(0, .ref (ad (11, 0, 0))), (1, .int (iN v1)), (2, .int (iN v2))] := hl
  unfold P_X5_mayCarry at hp
  refine z_al_n M dX5_mayCarry_0 rfl hl 0 rfl ?_
  refine zg_X5_9 M u_hin5 hW hKC.k11 (M.hts _ u_fl_X5_34) dX5_mayCarry_1 ?_
  refine z_il_n M dX5_mayCarry_4 rfl hl 1 rfl ?_
  obtain ⟨h1, h2, hp⟩ := hp
  refine za_z (n := 6) M hW (hKC.k12 (by decide)) (fun _ _ => rfl) h1 h2 (by decide) dX5_mayCarry_5 ?_
  refine zv_ne M (tgt := 27) dX5_mayCarry_6 (by decide) rfl (fun c3 => ?_) (fun c3 => ?_)
  · have hp := hp.1 c3
    refine zi_const M 0 dX5_mayCarry_27 rfl ?_
    exact zr_z M hr hlocks (0, σ) (by decide) rfl ⟨hp, hW⟩ hS dX5_mayCarry_28
  · have hp := hp.2 c3
    refine z_al_n M dX5_mayCarry_9 rfl hl 0 rfl ?_
    refine zg_X5_6 M u_hin5 hW hKC.k11 (M.hts _ u_fl_X5_25) dX5_mayCarry_10 ?_
    refine z_il_n M dX5_mayCarry_13 rfl hl 1 rfl ?_
    obtain ⟨h4, h5, hp⟩ := hp
    refine za_i (n := 6) M hW (hKC.k12 (by decide)) (fun _ _ => rfl) h4 h5 (by decide) dX5_mayCarry_14 ?_
    refine z_il_n M dX5_mayCarry_15 rfl hl 2 rfl ?_
    refine zo_shr M dX5_mayCarry_16 ?_
    refine zi_const M 1 dX5_mayCarry_17 rfl ?_
    refine zo_and M dX5_mayCarry_18 ?_
    refine zi_const M 1 dX5_mayCarry_19 rfl ?_
    refine zw_ne M (tgt := 27) dX5_mayCarry_20 (by decide) rfl (w_of ⟨by decide, by decide⟩) (fun c6 => ?_) (fun c6 => ?_)
    · have hp := hp.1 c6
      refine zi_const M 0 dX5_mayCarry_27 rfl ?_
      exact zr_z M hr hlocks (0, σ) (by decide) rfl ⟨hp, hW⟩ hS dX5_mayCarry_28
    · have hp := hp.2 c6
      refine zi_const M 1 dX5_mayCarry_23 rfl ?_
      refine zg M (tgt := 28) dX5_mayCarry_24 (by decide) ?_
      exact zr_z M hr hlocks (1, σ) (by decide) rfl ⟨hp, hW⟩ hS dX5_mayCarry_28
def P_X5_onDuty_L5 (K : List nKey) (k : Int → nS → Prop) (v1 : Int) (v2 : Int) : Nat → Int → Int → nS → Prop
  | 0 => fun _ _ _ => False
  | n + 1 => fun v3 v4 σ =>
    ((w (σ.1 (11, 0, 0) 12) ≤ w v4 → k v3 σ) ∧ (w v4 < w (σ.1 (11, 0, 0) 12) → P_X5_mayCarry K σ v4 v2 (fun r3 σ2 => ((w r3 = 0 → ∀ x5 : Int, x5 = v4 + 1 → (P_X5_onDuty_L5 K k v1 v2 n) v3 x5 σ2) ∧ (w r3 ≠ 0 → 0 ≤ v4 ∧ v4 < 6 ∧ 0 ≤ v4 ∧ v4 < 6 ∧ P_X5_in K σ2 v1 (σ2.1 (12, 3, 0) (v4).toNat) (σ2.1 (12, 4, 0) (v4).toNat) (fun r11 σ10 => ((w r11 = 0 → ∀ x13 : Int, x13 = v4 + 1 → (P_X5_onDuty_L5 K k v1 v2 n) v3 x13 σ10) ∧ (w r11 ≠ 0 → ∀ x14 : Int, x14 = v3 + 1 → ∀ x15 : Int, x15 = v4 + 1 → (P_X5_onDuty_L5 K k v1 v2 n) x14 x15 σ10))))))))
def P_X5_onDuty (K : List nKey) (σ : nS) (v1 : Int) (v2 : Int) (k : Int → nS → Prop) : Prop :=
  ∃ f16 : Nat, P_X5_onDuty_L5 K k v1 v2 f16 0 0 σ
def rmX5_onDuty : Room := { frames := 1, cells := 0, slots := 0, locals := 22 }
set_option maxHeartbeats 4000000 in
set_option maxRecDepth 100000 in
theorem w_X5_onDuty {l : Launch} {D : va_G} {ca : Nat → ClassId} {K : List nKey} {ad : nKey → Nat} {σ : nS} {sz : Nat} (hKC : KC K) {v1 : Int} {v2 : Int} {k : Int → nS → Prop} (hp : P_X5_onDuty K σ v1 v2 k) : Met l yX5_onDuty (Cond.code yX5_onDuty cX5_onDuty 5 (some .int) :: UW) rmX5_onDuty (ZP D ca [.ref (ad (11, 0, 0)), .int (iN v1), .int (iN v2)] (ZB D K ad ca σ sz)) (ZQi D K ad ca sz k) 0 0 (FA K ad sz) := by
  refine z_start (cc := cX5_onDuty) (maxL := 5) (ret := (some .int)) (own := RX5) (K := K) (ad := ad) (σ := σ) (Qc := fun sz => ZQi D K ad ca sz k) (by decide) rfl (Nat.le_of_ble_eq_true rfl) ?_
  intro p e s m args below meth c M hr hlocks hW ls hl
  have hS : va_S (FA K ad s.heap.size) s.heap s.heap [] := va_S.rf
  have hA : ∀ q : Nat, s.heap.size ≤ q → FA K ad s.heap.size q := fun q h => Or.inr h
  replace hl : lv_has ls 5 [(0, .ref (ad (11, 0, 0))), (1, .int (iN v1)), (2, .int (iN v2))] := hl
  unfold P_X5_onDuty at hp
  have hL5 : ∀ (f5 : Nat) (v3 : Int) (v4 : Int) (σ : nS) (H : Heap) (locs : List Loc) (ls : Array Slot), P_X5_onDuty_L5 K k v1 v2 f5 v3 v4 σ → XW D (FA K ad s.heap.size) K ad (cR ca ad σ) H → va_S (FA K ad s.heap.size) s.heap H locs → lv_has ls 5 [(0, .ref (ad (11, 0, 0))), (1, .int (iN v1)), (2, .int (iN v2)), (3, .int (iN v3)), (4, .int (iN v4))] → W p l e rmX5_onDuty s m args below meth c H locs 0 0 (MQ below (ZQi D K ad ca s.heap.size k) args s 0 0 (FA K ad s.heap.size)) (F0 m 5 ls []) := by
    intro f5
    induction f5 with
    | zero =>
      intro v3 v4 σ H locs ls  hp
      exact hp.elim
    | succ f5 ih5 =>
      intro v3 v4 σ H locs ls  hp hW hS hl
      refine z_il M dX5_onDuty_5 hl 4 rfl ?_
      refine z_al_n M dX5_onDuty_7 rfl hl 0 rfl ?_
      refine zg_X5_12 M u_hin5 hW hKC.k11 (M.hts _ u_fl_X5_112) dX5_onDuty_8 ?_
      refine zw_ge M (tgt := 54) dX5_onDuty_11 (by decide) rfl rfl (fun c1 => ?_) (fun c1 => ?_)
      · have hp := hp.1 c1
        refine z_il_n M dX5_onDuty_54 rfl hl 3 rfl ?_
        exact zr_i M hr hlocks (v3, σ) rfl ⟨hp, hW⟩ hS dX5_onDuty_55
      · have hp := hp.2 c1
        refine z_al_n M dX5_onDuty_14 rfl hl 0 rfl ?_
        refine z_il M dX5_onDuty_15 hl 4 rfl ?_
        refine z_il_n M dX5_onDuty_17 rfl hl 2 rfl ?_
        have hfa := hW.fa hS hA
        refine zc_VU (As := [.int (iN v4), .int (iN v2)]) (rest := []) M (w_X5_mayCarry hKC  hp) (cuV M 2 u_co_X5_mayCarry u_ml_X5_134 u_ini_X5 u_in_X5_mayCarry u_se_X5_mayCarry (by decide +kernel) rfl rfl ⟨Nat.le_of_ble_eq_true rfl, Nat.le_of_ble_eq_true rfl⟩) (z_recv M hW hKC.k11 rfl rfl) ⟨rfl, hW.weaken (fun _ _ => trivial)⟩ rfl hl rfl (Nat.le_of_ble_eq_true rfl) ⟨Nat.zero_le _, Nat.zero_le _⟩ dX5_onDuty_18 hS hfa (fun u H locs hw _ _ hS => ?_)
        obtain ⟨r3, σ2⟩ := u
        obtain ⟨hp, hW2⟩ := hw
        have hW := hW2.weaken hfa
        try dsimp only at hp
        refine zv_eq M (tgt := 48) dX5_onDuty_21 (by decide) rfl (fun c4 => ?_) (fun c4 => ?_)
        · have hp := hp.1 c4
          obtain ⟨x5, ex5⟩ : ∃ z : Int, z = v4 + 1 := ⟨_, rfl⟩
          have hp := hp x5 ex5
          refine z_inc M [(4, .int (iN x5)), (0, .ref (ad (11, 0, 0))), (1, .int (iN v1)), (2, .int (iN v2)), (3, .int (iN v3))] x5 dX5_onDuty_48 hl 4 rfl ex5.symm (by decide) rfl (fun ls hl => ?_)
          refine zg M (tgt := 5) dX5_onDuty_51 (by decide) ?_
          exact ih5 v3 x5 σ2 _ _ _  hp hW hS (lv_sub hl [1, 2, 3, 4, 0] rfl)
        · have hp := hp.2 c4
          refine z_il_n M dX5_onDuty_24 rfl hl 1 rfl ?_
          refine z_al_n M dX5_onDuty_25 rfl hl 0 rfl ?_
          refine zg_X5_4 M u_hin5 hW hKC.k11 (M.hts _ u_fl_X5_19) dX5_onDuty_26 ?_
          refine z_il M dX5_onDuty_29 hl 4 rfl ?_
          obtain ⟨h6, h7, hp⟩ := hp
          refine za_i (n := 6) M hW (hKC.k12 (by decide)) (fun _ _ => rfl) h6 h7 (by decide) dX5_onDuty_31 ?_
          refine z_al_n M dX5_onDuty_32 rfl hl 0 rfl ?_
          refine zg_X5_5 M u_hin5 hW hKC.k11 (M.hts _ u_fl_X5_22) dX5_onDuty_33 ?_
          refine z_il M dX5_onDuty_36 hl 4 rfl ?_
          obtain ⟨h8, h9, hp⟩ := hp
          refine za_i (n := 6) M hW (hKC.k12 (by decide)) (fun _ _ => rfl) h8 h9 (by decide) dX5_onDuty_38 ?_
          have hfa := hW.fa hS hA
          refine zc_SU (As := [.int (iN v1), .int (iN (σ2.1 (12, 3, 0) (v4).toNat)), .int (iN (σ2.1 (12, 4, 0) (v4).toNat))]) (rest := []) M (w_X5_in hKC  hp) (cuS M 3 u_co_X5_in u_ml_X5_108 u_ini_X5 u_st_X5_in (by decide +kernel) rfl rfl ⟨Nat.le_of_ble_eq_true rfl, Nat.le_of_ble_eq_true rfl⟩) ⟨rfl, hW.weaken (fun _ _ => trivial)⟩ rfl hl rfl (Nat.le_of_ble_eq_true rfl) ⟨Nat.zero_le _, Nat.zero_le _⟩ dX5_onDuty_39 hS hfa (fun u H locs hw _ _ hS => ?_)
          obtain ⟨r11, σ10⟩ := u
          obtain ⟨hp, hW2⟩ := hw
          have hW := hW2.weaken hfa
          try dsimp only at hp
          refine zv_eq M (tgt := 48) dX5_onDuty_42 (by decide) rfl (fun c12 => ?_) (fun c12 => ?_)
          · have hp := hp.1 c12
            obtain ⟨x13, ex13⟩ : ∃ z : Int, z = v4 + 1 := ⟨_, rfl⟩
            have hp := hp x13 ex13
            refine z_inc M [(4, .int (iN x13)), (0, .ref (ad (11, 0, 0))), (1, .int (iN v1)), (2, .int (iN v2)), (3, .int (iN v3))] x13 dX5_onDuty_48 hl 4 rfl ex13.symm (by decide) rfl (fun ls hl => ?_)
            refine zg M (tgt := 5) dX5_onDuty_51 (by decide) ?_
            exact ih5 v3 x13 σ10 _ _ _  hp hW hS (lv_sub hl [1, 2, 3, 4, 0] rfl)
          · have hp := hp.2 c12
            obtain ⟨x14, ex14⟩ : ∃ z : Int, z = v3 + 1 := ⟨_, rfl⟩
            have hp := hp x14 ex14
            refine z_inc M [(3, .int (iN x14)), (0, .ref (ad (11, 0, 0))), (1, .int (iN v1)), (2, .int (iN v2)), (4, .int (iN v4))] x14 dX5_onDuty_45 hl 3 rfl ex14.symm (by decide) rfl (fun ls hl => ?_)
            obtain ⟨x15, ex15⟩ : ∃ z : Int, z = v4 + 1 := ⟨_, rfl⟩
            have hp := hp x15 ex15
            refine z_inc M [(4, .int (iN x15)), (3, .int (iN x14)), (0, .ref (ad (11, 0, 0))), (1, .int (iN v1)), (2, .int (iN v2))] x15 dX5_onDuty_48 hl 4 rfl ex15.symm (by decide) rfl (fun ls hl => ?_)
            refine zg M (tgt := 5) dX5_onDuty_51 (by decide) ?_
            exact ih5 x14 x15 σ10 _ _ _  hp hW hS (lv_sub hl [2, 3, 4, 1, 0] rfl)
  refine zi_const M 0 dX5_onDuty_0 rfl ?_
  refine z_is_n M [(3, .int (iN 0)), (0, .ref (ad (11, 0, 0))), (1, .int (iN v1)), (2, .int (iN v2))] dX5_onDuty_1 rfl hl (by decide) rfl (fun ls hl => ?_)
  refine zi_const M 0 dX5_onDuty_2 rfl ?_
  refine z_is M [(4, .int (iN 0)), (3, .int (iN 0)), (0, .ref (ad (11, 0, 0))), (1, .int (iN v1)), (2, .int (iN v2))] dX5_onDuty_3 hl (by decide) rfl (fun ls hl => ?_)
  obtain ⟨f16, hp⟩ := hp
  exact hL5 f16 0 0 σ _ _ _  hp hW hS (lv_sub hl [2, 3, 4, 1, 0] rfl)
