def P_X3_isOnDuty (K : List nKey) (σ : nS) (q0 : Nat) (v1 : Int) (k : Int → nS → Prop) : Prop :=
  ((w v1 < w (σ.1 (6, q0, 0) 2) → k 0 σ) ∧ (w (σ.1 (6, q0, 0) 2) ≤ w v1 → ((w (σ.1 (6, q0, 0) 3) < w v1 → k 0 σ) ∧ (w v1 ≤ w (σ.1 (6, q0, 0) 3) → k 1 σ))))
def rmX3_isOnDuty : Room := { frames := 0, cells := 0, slots := 0, locals := 0 }
set_option maxHeartbeats 4000000 in
set_option maxRecDepth 100000 in
theorem w_X3_isOnDuty {l : Launch} {D : va_G} {ca : Nat → ClassId} {K : List nKey} {ad : nKey → Nat} {σ : nS} {sz : Nat} (hKC : KC K) {q0 : Nat} {v1 : Int} (hm_q0 : (6, q0, 0) ∈ K) {k : Int → nS → Prop} (hp : P_X3_isOnDuty K σ q0 v1 k) : Met l yX3_isOnDuty (Cond.code yX3_isOnDuty cX3_isOnDuty 2 (some .boolean) :: UW) rmX3_isOnDuty (ZP D ca [.ref (ad (6, q0, 0)), .int (iN v1)] (ZB D K ad ca σ sz)) (ZQi D K ad ca sz k) 0 0 (FA K ad sz) := by
  refine z_start (cc := cX3_isOnDuty) (maxL := 2) (ret := (some .boolean)) (own := RX3) (K := K) (ad := ad) (σ := σ) (Qc := fun sz => ZQi D K ad ca sz k) (by decide) rfl (Nat.le_of_ble_eq_true rfl) ?_
  intro p e s m args below meth c M hr hlocks hW ls hl
  have hS : va_S (FA K ad s.heap.size) s.heap s.heap [] := va_S.rf
  have hA : ∀ q : Nat, s.heap.size ≤ q → FA K ad s.heap.size q := fun q h => Or.inr h
  replace hl : lv_has ls 2 [(0, .ref (ad (6, q0, 0))), (1, .int (iN v1))] := hl
  unfold P_X3_isOnDuty at hp
  refine z_al_n M dX3_isOnDuty_0 rfl hl 0 rfl ?_
  refine zg_X3_2 M u_hin3 hW hm_q0 (M.hts _ u_fl_X3_32) dX3_isOnDuty_1 ?_
  refine z_il_n M dX3_isOnDuty_4 rfl hl 1 rfl ?_
  refine zw_gt M (tgt := 20) dX3_isOnDuty_5 (by decide) rfl rfl (fun c1 => ?_) (fun c1 => ?_)
  · have hp := hp.1 c1
    refine zi_const M 0 dX3_isOnDuty_20 rfl ?_
    exact zr_z M hr hlocks (0, σ) (by decide) rfl ⟨hp, hW⟩ hS dX3_isOnDuty_21
  · have hp := hp.2 c1
    refine z_il_n M dX3_isOnDuty_8 rfl hl 1 rfl ?_
    refine z_al_n M dX3_isOnDuty_9 rfl hl 0 rfl ?_
    refine zg_X3_3 M u_hin3 hW hm_q0 (M.hts _ u_fl_X3_35) dX3_isOnDuty_10 ?_
    refine zw_gt M (tgt := 20) dX3_isOnDuty_13 (by decide) rfl rfl (fun c2 => ?_) (fun c2 => ?_)
    · have hp := hp.1 c2
      refine zi_const M 0 dX3_isOnDuty_20 rfl ?_
      exact zr_z M hr hlocks (0, σ) (by decide) rfl ⟨hp, hW⟩ hS dX3_isOnDuty_21
    · have hp := hp.2 c2
      refine zi_const M 1 dX3_isOnDuty_16 rfl ?_
      refine zg M (tgt := 21) dX3_isOnDuty_17 (by decide) ?_
      exact zr_z M hr hlocks (1, σ) (by decide) rfl ⟨hp, hW⟩ hS dX3_isOnDuty_21
def P_X3_shortenWays_L31 (K : List nKey) (k : nS → Prop) (kb2 : Int → nS → Prop) (kb10 : Int → Int → nS → Prop) (q0 : Nat) : Nat → Int → Int → Int → Int → nS → Prop
  | 0 => fun _ _ _ _ _ => False
  | n + 1 => fun v1 v2 v3 v4 σ =>
    ((w v3 = (-1) → ∀ x2 : Int, x2 = v2 + 1 → kb10 v1 x2 σ) ∧ (w v3 ≠ (-1) → ((8 ≤ w v4 → ∀ x4 : Int, x4 = v2 + 1 → kb10 v1 x4 σ) ∧ (w v4 < 8 → 0 ≤ ((v1 * 8) + v4) ∧ ((v1 * 8) + v4) < 64 ∧ ∀ x7 : Int, x7 = (σ.1 (7, q0, 0) (((v1 * 8) + v4)).toNat) → 0 ≤ ((v2 * 8) + v4) ∧ ((v2 * 8) + v4) < 64 ∧ ∀ x10 : Int, x10 = (σ.1 (7, q0, 0) (((v2 * 8) + v4)).toNat) → ((w x7 = (-1) → ∀ x12 : Int, x12 = v4 + 1 → (P_X3_shortenWays_L31 K k kb2 kb10 q0 n) v1 v2 v3 x12 σ) ∧ (w x7 ≠ (-1) → ((w x10 = (-1) → 0 ≤ ((v2 * 8) + v4) ∧ ((v2 * 8) + v4) < 64 ∧ ∀ σ14 : nS, σ14 = s1 σ (7, q0, 0) (((v2 * 8) + v4)).toNat (v3 + x7) → ∀ x17 : Int, x17 = v4 + 1 → (P_X3_shortenWays_L31 K k kb2 kb10 q0 n) v1 v2 v3 x17 σ14) ∧ (w x10 ≠ (-1) → ((w x10 ≤ w (v3 + x7) → ∀ x19 : Int, x19 = v4 + 1 → (P_X3_shortenWays_L31 K k kb2 kb10 q0 n) v1 v2 v3 x19 σ) ∧ (w (v3 + x7) < w x10 → 0 ≤ ((v2 * 8) + v4) ∧ ((v2 * 8) + v4) < 64 ∧ ∀ σ20 : nS, σ20 = s1 σ (7, q0, 0) (((v2 * 8) + v4)).toNat (v3 + x7) → ∀ x23 : Int, x23 = v4 + 1 → (P_X3_shortenWays_L31 K k kb2 kb10 q0 n) v1 v2 v3 x23 σ20))))))))))
def P_X3_shortenWays_L10 (K : List nKey) (k : nS → Prop) (kb2 : Int → nS → Prop) (q0 : Nat) : Nat → Int → Int → nS → Prop
  | 0 => fun _ _ _ => False
  | n + 1 => fun v1 v2 σ =>
    ((8 ≤ w v2 → ∀ x25 : Int, x25 = v1 + 1 → kb2 x25 σ) ∧ (w v2 < 8 → 0 ≤ ((v2 * 8) + v1) ∧ ((v2 * 8) + v1) < 64 ∧ ∀ x28 : Int, x28 = (σ.1 (7, q0, 0) (((v2 * 8) + v1)).toNat) → ∃ f29 : Nat, P_X3_shortenWays_L31 K k kb2 (P_X3_shortenWays_L10 K k kb2 q0 n) q0 f29 v1 v2 x28 0 σ))
def P_X3_shortenWays_L2 (K : List nKey) (k : nS → Prop) (q0 : Nat) : Nat → Int → nS → Prop
  | 0 => fun _ _ => False
  | n + 1 => fun v1 σ =>
    ((8 ≤ w v1 → k σ) ∧ (w v1 < 8 → ∃ f31 : Nat, P_X3_shortenWays_L10 K k (P_X3_shortenWays_L2 K k q0 n) q0 f31 v1 0 σ))
def P_X3_shortenWays (K : List nKey) (σ : nS) (q0 : Nat) (k : nS → Prop) : Prop :=
  ∃ f32 : Nat, P_X3_shortenWays_L2 K k q0 f32 0 σ
def rmX3_shortenWays : Room := { frames := 0, cells := 0, slots := 0, locals := 0 }
set_option maxHeartbeats 4000000 in
set_option maxRecDepth 100000 in
theorem w_X3_shortenWays {l : Launch} {D : va_G} {ca : Nat → ClassId} {K : List nKey} {ad : nKey → Nat} {σ : nS} {sz : Nat} (hKC : KC K) {q0 : Nat} (hm_q0 : (6, q0, 0) ∈ K) {k : nS → Prop} (hp : P_X3_shortenWays K σ q0 k) : Met l yX3_shortenWays (Cond.code yX3_shortenWays cX3_shortenWays 7 none :: UW) rmX3_shortenWays (ZP D ca [.ref (ad (6, q0, 0))] (ZB D K ad ca σ sz)) (ZQv D K ad ca sz k) 0 0 (FA K ad sz) := by
  refine z_start (cc := cX3_shortenWays) (maxL := 7) (ret := none) (own := RX3) (K := K) (ad := ad) (σ := σ) (Qc := fun sz => ZQv D K ad ca sz k) (by decide) rfl (Nat.le_of_ble_eq_true rfl) ?_
  intro p e s m args below meth c M hr hlocks hW ls hl
  have hS : va_S (FA K ad s.heap.size) s.heap s.heap [] := va_S.rf
  have hA : ∀ q : Nat, s.heap.size ≤ q → FA K ad s.heap.size q := fun q h => Or.inr h
  replace hl : lv_has ls 7 [(0, .ref (ad (6, q0, 0)))] := hl
  unfold P_X3_shortenWays at hp
  have hL2 : ∀ (f2 : Nat) (v1 : Int) (σ : nS) (H : Heap) (locs : List Loc) (ls : Array Slot), P_X3_shortenWays_L2 K k q0 f2 v1 σ → XW D (FA K ad s.heap.size) K ad (cR ca ad σ) H → va_S (FA K ad s.heap.size) s.heap H locs → lv_has ls 7 [(0, .ref (ad (6, q0, 0))), (1, .int (iN v1))] → W p l e rmX3_shortenWays s m args below meth c H locs 0 0 (MQ below (ZQv D K ad ca s.heap.size k) args s 0 0 (FA K ad s.heap.size)) (F0 m 2 ls []) := by
    intro f2
    induction f2 with
    | zero =>
      intro v1 σ H locs ls  hp
      exact hp.elim
    | succ f2 ih2 =>
      intro v1 σ H locs ls  hp hW hS hl
      have hL10 : ∀ (f10 : Nat) (v1 : Int) (v2 : Int) (σ : nS) (H : Heap) (locs : List Loc) (ls : Array Slot), P_X3_shortenWays_L10 K k (P_X3_shortenWays_L2 K k q0 f2) q0 f10 v1 v2 σ → XW D (FA K ad s.heap.size) K ad (cR ca ad σ) H → va_S (FA K ad s.heap.size) s.heap H locs → lv_has ls 7 [(0, .ref (ad (6, q0, 0))), (1, .int (iN v1)), (2, .int (iN v2))] → W p l e rmX3_shortenWays s m args below meth c H locs 0 0 (MQ below (ZQv D K ad ca s.heap.size k) args s 0 0 (FA K ad s.heap.size)) (F0 m 10 ls []) := by
        intro f10
        induction f10 with
        | zero =>
          intro v1 v2 σ H locs ls  hp
          exact hp.elim
        | succ f10 ih10 =>
          intro v1 v2 σ H locs ls  hp hW hS hl
          have hL31 : ∀ (f31 : Nat) (v1 : Int) (v2 : Int) (v3 : Int) (v4 : Int) (σ : nS) (H : Heap) (locs : List Loc) (ls : Array Slot), P_X3_shortenWays_L31 K k (P_X3_shortenWays_L2 K k q0 f2) (P_X3_shortenWays_L10 K k (P_X3_shortenWays_L2 K k q0 f2) q0 f10) q0 f31 v1 v2 v3 v4 σ → XW D (FA K ad s.heap.size) K ad (cR ca ad σ) H → va_S (FA K ad s.heap.size) s.heap H locs → lv_has ls 7 [(0, .ref (ad (6, q0, 0))), (1, .int (iN v1)), (2, .int (iN v2)), (3, .int (iN v3)), (4, .int (iN v4))] → W p l e rmX3_shortenWays s m args below meth c H locs 0 0 (MQ below (ZQv D K ad ca s.heap.size k) args s 0 0 (FA K ad s.heap.size)) (F0 m 31 ls []) := by
            intro f31
            induction f31 with
            | zero =>
              intro v1 v2 v3 v4 σ H locs ls  hp
              exact hp.elim
            | succ f31 ih31 =>
              intro v1 v2 v3 v4 σ H locs ls  hp hW hS hl
              refine z_il_n M dX3_shortenWays_31 rfl hl 3 rfl ?_
              refine zi_const M (-1) dX3_shortenWays_32 rfl ?_
              refine zw_eq M (tgt := 114) dX3_shortenWays_33 (by decide) rfl (w_of ⟨by decide, by decide⟩) (fun c1 => ?_) (fun c1 => ?_)
              · have hp := hp.1 c1
                obtain ⟨x2, ex2⟩ : ∃ z : Int, z = v2 + 1 := ⟨_, rfl⟩
                have hp := hp x2 ex2
                refine z_inc M [(2, .int (iN x2)), (0, .ref (ad (6, q0, 0))), (1, .int (iN v1)), (3, .int (iN v3)), (4, .int (iN v4))] x2 dX3_shortenWays_114 hl 2 rfl ex2.symm (by decide) rfl (fun ls hl => ?_)
                refine zg M (tgt := 10) dX3_shortenWays_117 (by decide) ?_
                exact ih10 v1 x2 σ _ _ _  hp hW hS (lv_sub hl [1, 2, 0] rfl)
              · have hp := hp.2 c1
                refine z_il M dX3_shortenWays_36 hl 4 rfl ?_
                refine zi_bi M 8 dX3_shortenWays_38 (by decide +kernel) ?_
                refine zw_ge M (tgt := 114) dX3_shortenWays_40 (by decide) rfl (w_of ⟨by decide, by decide⟩) (fun c3 => ?_) (fun c3 => ?_)
                · have hp := hp.1 c3
                  obtain ⟨x4, ex4⟩ : ∃ z : Int, z = v2 + 1 := ⟨_, rfl⟩
                  have hp := hp x4 ex4
                  refine z_inc M [(2, .int (iN x4)), (0, .ref (ad (6, q0, 0))), (1, .int (iN v1)), (3, .int (iN v3)), (4, .int (iN v4))] x4 dX3_shortenWays_114 hl 2 rfl ex4.symm (by decide) rfl (fun ls hl => ?_)
                  refine zg M (tgt := 10) dX3_shortenWays_117 (by decide) ?_
                  exact ih10 v1 x4 σ _ _ _  hp hW hS (lv_sub hl [1, 2, 0] rfl)
                · have hp := hp.2 c3
                  refine z_al_n M dX3_shortenWays_43 rfl hl 0 rfl ?_
                  refine zg_X3_5 M u_hin3 hW hm_q0 (M.hts _ u_fl_X3_9) dX3_shortenWays_44 ?_
                  refine z_il_n M dX3_shortenWays_47 rfl hl 1 rfl ?_
                  refine zi_bi M 8 dX3_shortenWays_48 (by decide +kernel) ?_
                  refine zi_mul M dX3_shortenWays_50 ?_
                  refine z_il M dX3_shortenWays_51 hl 4 rfl ?_
                  refine zi_add M dX3_shortenWays_53 ?_
                  obtain ⟨h5, h6, hp⟩ := hp
                  refine za_i (n := 64) M hW (hKC.k7 hm_q0) (fun _ _ => rfl) h5 h6 (by decide) dX3_shortenWays_54 ?_
                  refine zi_nm (fun x7 ex7 => ?_)
                  have hp := hp x7 ex7
                  refine z_is M [(5, .int (iN x7)), (0, .ref (ad (6, q0, 0))), (1, .int (iN v1)), (2, .int (iN v2)), (3, .int (iN v3)), (4, .int (iN v4))] dX3_shortenWays_55 hl (by decide) rfl (fun ls hl => ?_)
                  refine z_al_n M dX3_shortenWays_57 rfl hl 1 rfl ?_
                  refine zg_X3_5 M u_hin3 hW hm_q0 (M.hts _ u_fl_X3_9) dX3_shortenWays_58 ?_
                  refine z_il_n M dX3_shortenWays_61 rfl hl 3 rfl ?_
                  refine zi_bi M 8 dX3_shortenWays_62 (by decide +kernel) ?_
                  refine zi_mul M dX3_shortenWays_64 ?_
                  refine z_il M dX3_shortenWays_65 hl 5 rfl ?_
                  refine zi_add M dX3_shortenWays_67 ?_
                  obtain ⟨h8, h9, hp⟩ := hp
                  refine za_i (n := 64) M hW (hKC.k7 hm_q0) (fun _ _ => rfl) h8 h9 (by decide) dX3_shortenWays_68 ?_
                  refine zi_nm (fun x10 ex10 => ?_)
                  have hp := hp x10 ex10
                  refine z_is M [(6, .int (iN x10)), (5, .int (iN x7)), (0, .ref (ad (6, q0, 0))), (1, .int (iN v1)), (2, .int (iN v2)), (3, .int (iN v3)), (4, .int (iN v4))] dX3_shortenWays_69 hl (by decide) rfl (fun ls hl => ?_)
                  refine z_il M dX3_shortenWays_71 hl 1 rfl ?_
                  refine zi_const M (-1) dX3_shortenWays_73 rfl ?_
                  refine zw_eq M (tgt := 108) dX3_shortenWays_74 (by decide) rfl (w_of ⟨by decide, by decide⟩) (fun c11 => ?_) (fun c11 => ?_)
                  · have hp := hp.1 c11
                    obtain ⟨x12, ex12⟩ : ∃ z : Int, z = v4 + 1 := ⟨_, rfl⟩
                    have hp := hp x12 ex12
                    refine z_inc M [(4, .int (iN x12)), (6, .int (iN x10)), (5, .int (iN x7)), (0, .ref (ad (6, q0, 0))), (1, .int (iN v1)), (2, .int (iN v2)), (3, .int (iN v3))] x12 dX3_shortenWays_108 hl 6 rfl ex12.symm (by decide) rfl (fun ls hl => ?_)
                    refine zg M (tgt := 31) dX3_shortenWays_111 (by decide) ?_
                    exact ih31 v1 v2 v3 x12 σ _ _ _  hp hW hS (lv_sub hl [3, 4, 5, 6, 0] rfl)
                  · have hp := hp.2 c11
                    refine z_il M dX3_shortenWays_77 hl 0 rfl ?_
                    refine zi_const M (-1) dX3_shortenWays_79 rfl ?_
                    refine zw_eq M (tgt := 92) dX3_shortenWays_80 (by decide) rfl (w_of ⟨by decide, by decide⟩) (fun c13 => ?_) (fun c13 => ?_)
                    · have hp := hp.1 c13
                      refine z_al_n M dX3_shortenWays_92 rfl hl 2 rfl ?_
                      refine zg_X3_5 M u_hin3 hW hm_q0 (M.hts _ u_fl_X3_9) dX3_shortenWays_93 ?_
                      refine z_il_n M dX3_shortenWays_96 rfl hl 4 rfl ?_
                      refine zi_bi M 8 dX3_shortenWays_97 (by decide +kernel) ?_
                      refine zi_mul M dX3_shortenWays_99 ?_
                      refine z_il M dX3_shortenWays_100 hl 6 rfl ?_
                      refine zi_add M dX3_shortenWays_102 ?_
                      refine z_il_n M dX3_shortenWays_103 rfl hl 5 rfl ?_
                      refine z_il M dX3_shortenWays_104 hl 1 rfl ?_
                      refine zi_add M dX3_shortenWays_106 ?_
                      obtain ⟨h15, h16, hp⟩ := hp
                      obtain ⟨σ14, eσ14⟩ : ∃ z : nS, z = s1 σ (7, q0, 0) (((v2 * 8) + v4)).toNat (v3 + x7) := ⟨_, rfl⟩
                      have hp := hp σ14 eσ14
                      refine zs_i (n := 64) M hW hS (hKC.k7 hm_q0) (fun _ _ => rfl) h15 h16 (by decide) dX3_shortenWays_107 (fun H locs hW hS => ?_)
                      rw [← eσ14] at hW
                      obtain ⟨x17, ex17⟩ : ∃ z : Int, z = v4 + 1 := ⟨_, rfl⟩
                      have hp := hp x17 ex17
                      refine z_inc M [(4, .int (iN x17)), (6, .int (iN x10)), (5, .int (iN x7)), (0, .ref (ad (6, q0, 0))), (1, .int (iN v1)), (2, .int (iN v2)), (3, .int (iN v3))] x17 dX3_shortenWays_108 hl 6 rfl ex17.symm (by decide) rfl (fun ls hl => ?_)
                      refine zg M (tgt := 31) dX3_shortenWays_111 (by decide) ?_
                      exact ih31 v1 v2 v3 x17 σ14 _ _ _  hp hW hS (lv_sub hl [3, 4, 5, 6, 0] rfl)
                    · have hp := hp.2 c13
                      refine z_il_n M dX3_shortenWays_83 rfl hl 5 rfl ?_
                      refine z_il M dX3_shortenWays_84 hl 1 rfl ?_
                      refine zi_add M dX3_shortenWays_86 ?_
                      refine z_il M dX3_shortenWays_87 hl 0 rfl ?_
                      refine zw_ge M (tgt := 108) dX3_shortenWays_89 (by decide) rfl rfl (fun c18 => ?_) (fun c18 => ?_)
                      · have hp := hp.1 c18
                        obtain ⟨x19, ex19⟩ : ∃ z : Int, z = v4 + 1 := ⟨_, rfl⟩
                        have hp := hp x19 ex19
                        refine z_inc M [(4, .int (iN x19)), (6, .int (iN x10)), (5, .int (iN x7)), (0, .ref (ad (6, q0, 0))), (1, .int (iN v1)), (2, .int (iN v2)), (3, .int (iN v3))] x19 dX3_shortenWays_108 hl 6 rfl ex19.symm (by decide) rfl (fun ls hl => ?_)
                        refine zg M (tgt := 31) dX3_shortenWays_111 (by decide) ?_
                        exact ih31 v1 v2 v3 x19 σ _ _ _  hp hW hS (lv_sub hl [3, 4, 5, 6, 0] rfl)
                      · have hp := hp.2 c18
                        refine z_al_n M dX3_shortenWays_92 rfl hl 2 rfl ?_
                        refine zg_X3_5 M u_hin3 hW hm_q0 (M.hts _ u_fl_X3_9) dX3_shortenWays_93 ?_
                        refine z_il_n M dX3_shortenWays_96 rfl hl 4 rfl ?_
                        refine zi_bi M 8 dX3_shortenWays_97 (by decide +kernel) ?_
                        refine zi_mul M dX3_shortenWays_99 ?_
                        refine z_il M dX3_shortenWays_100 hl 6 rfl ?_
                        refine zi_add M dX3_shortenWays_102 ?_
                        refine z_il_n M dX3_shortenWays_103 rfl hl 5 rfl ?_
                        refine z_il M dX3_shortenWays_104 hl 1 rfl ?_
                        refine zi_add M dX3_shortenWays_106 ?_
                        obtain ⟨h21, h22, hp⟩ := hp
                        obtain ⟨σ20, eσ20⟩ : ∃ z : nS, z = s1 σ (7, q0, 0) (((v2 * 8) + v4)).toNat (v3 + x7) := ⟨_, rfl⟩
                        have hp := hp σ20 eσ20
                        refine zs_i (n := 64) M hW hS (hKC.k7 hm_q0) (fun _ _ => rfl) h21 h22 (by decide) dX3_shortenWays_107 (fun H locs hW hS => ?_)
                        rw [← eσ20] at hW
                        obtain ⟨x23, ex23⟩ : ∃ z : Int, z = v4 + 1 := ⟨_, rfl⟩
                        have hp := hp x23 ex23
                        refine z_inc M [(4, .int (iN x23)), (6, .int (iN x10)), (5, .int (iN x7)), (0, .ref (ad (6, q0, 0))), (1, .int (iN v1)), (2, .int (iN v2)), (3, .int (iN v3))] x23 dX3_shortenWays_108 hl 6 rfl ex23.symm (by decide) rfl (fun ls hl => ?_)
                        refine zg M (tgt := 31) dX3_shortenWays_111 (by decide) ?_
                        exact ih31 v1 v2 v3 x23 σ20 _ _ _  hp hW hS (lv_sub hl [3, 4, 5, 6, 0] rfl)
          refine z_il_n M dX3_shortenWays_10 rfl hl 2 rfl ?_
          refine zi_bi M 8 dX3_shortenWays_11 (by decide +kernel) ?_
          refine zw_ge M (tgt := 120) dX3_shortenWays_13 (by decide) rfl (w_of ⟨by decide, by decide⟩) (fun c24 => ?_) (fun c24 => ?_)
          · have hp := hp.1 c24
            obtain ⟨x25, ex25⟩ : ∃ z : Int, z = v1 + 1 := ⟨_, rfl⟩
            have hp := hp x25 ex25
            refine z_inc M [(1, .int (iN x25)), (0, .ref (ad (6, q0, 0))), (2, .int (iN v2))] x25 dX3_shortenWays_120 hl 1 rfl ex25.symm (by decide) rfl (fun ls hl => ?_)
            refine zg M (tgt := 2) dX3_shortenWays_123 (by decide) ?_
            exact ih2 x25 σ _ _ _  hp hW hS (lv_sub hl [1, 0] rfl)
          · have hp := hp.2 c24
            refine z_al_n M dX3_shortenWays_16 rfl hl 0 rfl ?_
            refine zg_X3_5 M u_hin3 hW hm_q0 (M.hts _ u_fl_X3_9) dX3_shortenWays_17 ?_
            refine z_il_n M dX3_shortenWays_20 rfl hl 2 rfl ?_
            refine zi_bi M 8 dX3_shortenWays_21 (by decide +kernel) ?_
            refine zi_mul M dX3_shortenWays_23 ?_
            refine z_il_n M dX3_shortenWays_24 rfl hl 1 rfl ?_
            refine zi_add M dX3_shortenWays_25 ?_
            obtain ⟨h26, h27, hp⟩ := hp
            refine za_i (n := 64) M hW (hKC.k7 hm_q0) (fun _ _ => rfl) h26 h27 (by decide) dX3_shortenWays_26 ?_
            refine zi_nm (fun x28 ex28 => ?_)
            have hp := hp x28 ex28
            refine z_is_n M [(3, .int (iN x28)), (0, .ref (ad (6, q0, 0))), (1, .int (iN v1)), (2, .int (iN v2))] dX3_shortenWays_27 rfl hl (by decide) rfl (fun ls hl => ?_)
            refine zi_const M 0 dX3_shortenWays_28 rfl ?_
            refine z_is M [(4, .int (iN 0)), (3, .int (iN x28)), (0, .ref (ad (6, q0, 0))), (1, .int (iN v1)), (2, .int (iN v2))] dX3_shortenWays_29 hl (by decide) rfl (fun ls hl => ?_)
            obtain ⟨f29, hp⟩ := hp
            exact hL31 f29 v1 v2 x28 0 σ _ _ _  hp hW hS (lv_sub hl [2, 3, 4, 1, 0] rfl)
      refine z_il_n M dX3_shortenWays_2 rfl hl 1 rfl ?_
      refine zi_bi M 8 dX3_shortenWays_3 (by decide +kernel) ?_
      refine zw_ge M (tgt := 126) dX3_shortenWays_5 (by decide) rfl (w_of ⟨by decide, by decide⟩) (fun c30 => ?_) (fun c30 => ?_)
      · have hp := hp.1 c30
        exact zr_v M hr hlocks σ rfl ⟨hp, hW⟩ hS dX3_shortenWays_126
      · have hp := hp.2 c30
        refine zi_const M 0 dX3_shortenWays_8 rfl ?_
        refine z_is_n M [(2, .int (iN 0)), (0, .ref (ad (6, q0, 0))), (1, .int (iN v1))] dX3_shortenWays_9 rfl hl (by decide) rfl (fun ls hl => ?_)
        obtain ⟨f31, hp⟩ := hp
        exact hL10 f31 v1 0 σ _ _ _  hp hW hS (lv_sub hl [1, 2, 0] rfl)
  refine zi_const M 0 dX3_shortenWays_0 rfl ?_
  refine z_is_n M [(1, .int (iN 0)), (0, .ref (ad (6, q0, 0)))] dX3_shortenWays_1 rfl hl (by decide) rfl (fun ls hl => ?_)
  obtain ⟨f32, hp⟩ := hp
  exact hL2 f32 0 σ _ _ _  hp hW hS (lv_sub hl [1, 0] rfl)
def P_X2_legAt (K : List nKey) (σ : nS) (q0 : Nat) (v1 : Int) (k : Option Nat → nS → Prop) : Prop :=
  ((w v1 < 0 → k none σ) ∧ (0 ≤ w v1 → ((w (σ.1 (8, q0, 0) 6) ≤ w v1 → k none σ) ∧ (w v1 < w (σ.1 (8, q0, 0) 6) → ((18 ≤ w v1 → k none σ) ∧ (w v1 < 18 → 0 ≤ v1 ∧ v1 < 18 ∧ ((σ.2 (9, q0, 0) (v1).toNat = none → k none σ) ∧ (∀ q6 : Nat, σ.2 (9, q0, 0) (v1).toNat = some q6 → (10, q6, 0) ∈ K ∧ k (some q6) σ))))))))
def rmX2_legAt : Room := { frames := 0, cells := 0, slots := 0, locals := 0 }
set_option maxHeartbeats 4000000 in
set_option maxRecDepth 100000 in
theorem w_X2_legAt {l : Launch} {D : va_G} {ca : Nat → ClassId} {K : List nKey} {ad : nKey → Nat} {σ : nS} {sz : Nat} (hKC : KC K) {q0 : Nat} {v1 : Int} (hm_q0 : (8, q0, 0) ∈ K) {k : Option Nat → nS → Prop} (hp : P_X2_legAt K σ q0 v1 k) : Met l yX2_legAt (Cond.code yX2_legAt cX2_legAt 2 (some (.object "NightRiders$Leg")) :: UW) rmX2_legAt (ZP D ca [.ref (ad (8, q0, 0)), .int (iN v1)] (ZB D K ad ca σ sz)) (ZQq D K ad ca sz 10 k) 0 0 (FA K ad sz) := by
  refine z_start (cc := cX2_legAt) (maxL := 2) (ret := (some (.object "NightRiders$Leg"))) (own := RX2) (K := K) (ad := ad) (σ := σ) (Qc := fun sz => ZQq D K ad ca sz 10 k) (by decide) rfl (Nat.le_of_ble_eq_true rfl) ?_
  intro p e s m args below meth c M hr hlocks hW ls hl
  have hS : va_S (FA K ad s.heap.size) s.heap s.heap [] := va_S.rf
  have hA : ∀ q : Nat, s.heap.size ≤ q → FA K ad s.heap.size q := fun q h => Or.inr h
  replace hl : lv_has ls 2 [(0, .ref (ad (8, q0, 0))), (1, .int (iN v1))] := hl
  unfold P_X2_legAt at hp
  refine z_il_n M dX2_legAt_0 rfl hl 1 rfl ?_
  refine zv_lt M (tgt := 27) dX2_legAt_1 (by decide) rfl (fun c1 => ?_) (fun c1 => ?_)
  · have hp := hp.1 c1
    refine z_null M dX2_legAt_27 ?_
    exact zr_q M hr hlocks (none, σ) (Or.inl rfl) rfl ⟨hp, hW⟩ hS dX2_legAt_28
  · have hp := hp.2 c1
    refine z_il_n M dX2_legAt_4 rfl hl 1 rfl ?_
    refine z_al_n M dX2_legAt_5 rfl hl 0 rfl ?_
    refine zg_X2_6 M u_hin2 hW hm_q0 (M.hts _ u_fl_X2_17) dX2_legAt_6 ?_
    refine zw_ge M (tgt := 27) dX2_legAt_9 (by decide) rfl rfl (fun c2 => ?_) (fun c2 => ?_)
    · have hp := hp.1 c2
      refine z_null M dX2_legAt_27 ?_
      exact zr_q M hr hlocks (none, σ) (Or.inl rfl) rfl ⟨hp, hW⟩ hS dX2_legAt_28
    · have hp := hp.2 c2
      refine z_il_n M dX2_legAt_12 rfl hl 1 rfl ?_
      refine zi_bi M 18 dX2_legAt_13 (by decide +kernel) ?_
      refine zw_ge M (tgt := 27) dX2_legAt_15 (by decide) rfl (w_of ⟨by decide, by decide⟩) (fun c3 => ?_) (fun c3 => ?_)
      · have hp := hp.1 c3
        refine z_null M dX2_legAt_27 ?_
        exact zr_q M hr hlocks (none, σ) (Or.inl rfl) rfl ⟨hp, hW⟩ hS dX2_legAt_28
      · have hp := hp.2 c3
        refine z_al_n M dX2_legAt_18 rfl hl 0 rfl ?_
        refine zg_X2_5 M u_hin2 hW hm_q0 (M.hts _ u_fl_X2_11) dX2_legAt_19 ?_
        refine z_il_n M dX2_legAt_22 rfl hl 1 rfl ?_
        obtain ⟨h4, h5, hp⟩ := hp
        refine za_q (n := 18) (t0 := 4) (kd := 10) M hW (hKC.k9 hm_q0) (fun _ _ => rfl) rfl h4 h5 (by decide) dX2_legAt_23 ?_
        generalize hg : σ.2 (9, q0, 0) (v1).toNat = r at hp ⊢
        rcases r with _ | q6
        · refine W.eq (g2 := F0 m 24 ls (.null :: [])) rfl ?_
          have hp := hp.1 rfl
          refine zg M (tgt := 28) dX2_legAt_24 (by decide) ?_
          exact zr_q M hr hlocks (none, σ) (Or.inl rfl) rfl ⟨hp, hW⟩ hS dX2_legAt_28
        · refine W.eq (g2 := F0 m 24 ls (.ref (ad (10, q6, 0)) :: [])) rfl ?_
          obtain ⟨hm_q6, hp⟩ := hp.2 q6 rfl
          refine zg M (tgt := 28) dX2_legAt_24 (by decide) ?_
          exact zr_q M hr hlocks (some q6, σ) (Or.inr ⟨_, rfl⟩) rfl ⟨hp, hW⟩ hS dX2_legAt_28
def P_X2_addLeg (K : List nKey) (σ : nS) (q0 : Nat) (q1 : Nat) (k : nS → Prop) : Prop :=
  ((w (σ.1 (8, q0, 0) 6) < 0 → k σ) ∧ (0 ≤ w (σ.1 (8, q0, 0) 6) → ((18 ≤ w (σ.1 (8, q0, 0) 6) → k σ) ∧ (w (σ.1 (8, q0, 0) 6) < 18 → 0 ≤ (σ.1 (8, q0, 0) 6) ∧ (σ.1 (8, q0, 0) 6) < 18 ∧ ∀ σ5 : nS, σ5 = s2 σ (9, q0, 0) ((σ.1 (8, q0, 0) 6)).toNat (some q1) → ∀ σ6 : nS, σ6 = s1 σ5 (8, q0, 0) 6 ((σ5.1 (8, q0, 0) 6) + 1) → k σ6))))
def rmX2_addLeg : Room := { frames := 0, cells := 0, slots := 0, locals := 0 }
set_option maxHeartbeats 4000000 in
set_option maxRecDepth 100000 in
theorem w_X2_addLeg {l : Launch} {D : va_G} {ca : Nat → ClassId} {K : List nKey} {ad : nKey → Nat} {σ : nS} {sz : Nat} (hKC : KC K) {q0 : Nat} {q1 : Nat} (hm_q0 : (8, q0, 0) ∈ K) (hm_q1 : (10, q1, 0) ∈ K) {k : nS → Prop} (hp : P_X2_addLeg K σ q0 q1 k) : Met l yX2_addLeg (Cond.code yX2_addLeg cX2_addLeg 2 none :: UW) rmX2_addLeg (ZP D ca [.ref (ad (8, q0, 0)), .ref (ad (10, q1, 0))] (ZB D K ad ca σ sz)) (ZQv D K ad ca sz k) 0 0 (FA K ad sz) := by
  refine z_start (cc := cX2_addLeg) (maxL := 2) (ret := none) (own := RX2) (K := K) (ad := ad) (σ := σ) (Qc := fun sz => ZQv D K ad ca sz k) (by decide) rfl (Nat.le_of_ble_eq_true rfl) ?_
  intro p e s m args below meth c M hr hlocks hW ls hl
  have hS : va_S (FA K ad s.heap.size) s.heap s.heap [] := va_S.rf
  have hA : ∀ q : Nat, s.heap.size ≤ q → FA K ad s.heap.size q := fun q h => Or.inr h
  replace hl : lv_has ls 2 [(0, .ref (ad (8, q0, 0))), (1, .ref (ad (10, q1, 0)))] := hl
  unfold P_X2_addLeg at hp
  refine z_al_n M dX2_addLeg_0 rfl hl 0 rfl ?_
  refine zg_X2_6 M u_hin2 hW hm_q0 (M.hts _ u_fl_X2_17) dX2_addLeg_1 ?_
  refine zv_lt M (tgt := 36) dX2_addLeg_4 (by decide) rfl (fun c1 => ?_) (fun c1 => ?_)
  · have hp := hp.1 c1
    exact zr_v M hr hlocks σ rfl ⟨hp, hW⟩ hS dX2_addLeg_36
  · have hp := hp.2 c1
    refine z_al_n M dX2_addLeg_7 rfl hl 0 rfl ?_
    refine zg_X2_6 M u_hin2 hW hm_q0 (M.hts _ u_fl_X2_17) dX2_addLeg_8 ?_
    refine zi_bi M 18 dX2_addLeg_11 (by decide +kernel) ?_
    refine zw_ge M (tgt := 36) dX2_addLeg_13 (by decide) rfl (w_of ⟨by decide, by decide⟩) (fun c2 => ?_) (fun c2 => ?_)
    · have hp := hp.1 c2
      exact zr_v M hr hlocks σ rfl ⟨hp, hW⟩ hS dX2_addLeg_36
    · have hp := hp.2 c2
      refine z_al_n M dX2_addLeg_16 rfl hl 0 rfl ?_
      refine zg_X2_5 M u_hin2 hW hm_q0 (M.hts _ u_fl_X2_11) dX2_addLeg_17 ?_
      refine z_al_n M dX2_addLeg_20 rfl hl 0 rfl ?_
      refine zg_X2_6 M u_hin2 hW hm_q0 (M.hts _ u_fl_X2_17) dX2_addLeg_21 ?_
      refine z_al_n M dX2_addLeg_24 rfl hl 1 rfl ?_
      obtain ⟨h3, h4, hp⟩ := hp
      obtain ⟨σ5, eσ5⟩ : ∃ z : nS, z = s2 σ (9, q0, 0) ((σ.1 (8, q0, 0) 6)).toNat (some q1) := ⟨_, rfl⟩
      have hp := hp σ5 eσ5
      refine zs_q (n := 18) (t0 := 4) (kd := 10) (ci := 1) M hW hS (hKC.k9 hm_q0) (fun _ _ => rfl) rfl hm_q1 rfl rfl h3 h4 (by decide) dX2_addLeg_25 (fun H locs hW hS => ?_)
      rw [← eσ5] at hW
      refine z_al_n M dX2_addLeg_26 rfl hl 0 rfl ?_
      refine z_dup M dX2_addLeg_27 rfl ?_
      refine zg_X2_6 M u_hin2 hW hm_q0 (M.hts _ u_fl_X2_17) dX2_addLeg_28 ?_
      refine zi_const M 1 dX2_addLeg_31 rfl ?_
      refine zi_add M dX2_addLeg_32 ?_
      obtain ⟨σ6, eσ6⟩ : ∃ z : nS, z = s1 σ5 (8, q0, 0) 6 ((σ5.1 (8, q0, 0) 6) + 1) := ⟨_, rfl⟩
      have hp := hp σ6 eσ6
      refine zp_X2_6 (v := ((σ5.1 (8, q0, 0) 6) + 1)) M u_hin2 hW hS hm_q0 (M.hts _ u_fl_X2_17) dX2_addLeg_33 (fun H locs hW hS => ?_)
      rw [← eσ6] at hW
      exact zr_v M hr hlocks σ6 rfl ⟨hp, hW⟩ hS dX2_addLeg_36
def P_X2_lastEnd (K : List nKey) (σ : nS) (q0 : Nat) (k : Int → nS → Prop) : Prop :=
  P_X2_legAt K σ q0 ((σ.1 (8, q0, 0) 6) - 1) (fun r2 σ1 => ((r2 = none → k (-1) σ1) ∧ (∀ q3 : Nat, r2 = some q3 → (10, q3, 0) ∈ K ∧ k (σ1.1 (10, q3, 0) 6) σ1)))
def rmX2_lastEnd : Room := { frames := 1, cells := 0, slots := 0, locals := 21 }
set_option maxHeartbeats 4000000 in
set_option maxRecDepth 100000 in
theorem w_X2_lastEnd {l : Launch} {D : va_G} {ca : Nat → ClassId} {K : List nKey} {ad : nKey → Nat} {σ : nS} {sz : Nat} (hKC : KC K) {q0 : Nat} (hm_q0 : (8, q0, 0) ∈ K) {k : Int → nS → Prop} (hp : P_X2_lastEnd K σ q0 k) : Met l yX2_lastEnd (Cond.code yX2_lastEnd cX2_lastEnd 2 (some .int) :: UW) rmX2_lastEnd (ZP D ca [.ref (ad (8, q0, 0))] (ZB D K ad ca σ sz)) (ZQi D K ad ca sz k) 0 0 (FA K ad sz) := by
  refine z_start (cc := cX2_lastEnd) (maxL := 2) (ret := (some .int)) (own := RX2) (K := K) (ad := ad) (σ := σ) (Qc := fun sz => ZQi D K ad ca sz k) (by decide) rfl (Nat.le_of_ble_eq_true rfl) ?_
  intro p e s m args below meth c M hr hlocks hW ls hl
  have hS : va_S (FA K ad s.heap.size) s.heap s.heap [] := va_S.rf
  have hA : ∀ q : Nat, s.heap.size ≤ q → FA K ad s.heap.size q := fun q h => Or.inr h
  replace hl : lv_has ls 2 [(0, .ref (ad (8, q0, 0)))] := hl
  unfold P_X2_lastEnd at hp
  refine z_al_n M dX2_lastEnd_0 rfl hl 0 rfl ?_
  refine z_al_n M dX2_lastEnd_1 rfl hl 0 rfl ?_
  refine zg_X2_6 M u_hin2 hW hm_q0 (M.hts _ u_fl_X2_17) dX2_lastEnd_2 ?_
  refine zi_const M 1 dX2_lastEnd_5 rfl ?_
  refine zi_sub M dX2_lastEnd_6 ?_
  have hfa := hW.fa hS hA
  refine zc_VU (As := [.int (iN ((σ.1 (8, q0, 0) 6) - 1))]) (rest := []) M (w_X2_legAt hKC hm_q0 hp) (cuV M 1 u_co_X2_legAt u_ml_X2_43 u_ini_X2 u_in_X2_legAt u_se_X2_legAt (by decide +kernel) rfl rfl ⟨Nat.le_of_ble_eq_true rfl, Nat.le_of_ble_eq_true rfl⟩) (z_recv M hW hm_q0 rfl rfl) ⟨rfl, hW.weaken (fun _ _ => trivial)⟩ rfl hl rfl (Nat.le_of_ble_eq_true rfl) ⟨Nat.zero_le _, Nat.zero_le _⟩ dX2_lastEnd_7 hS hfa (fun u H locs hw _ _ hS => ?_)
  obtain ⟨r2, σ1⟩ := u
  obtain ⟨hp, hW2⟩ := hw
  have hW := hW2.weaken hfa
  try dsimp only at hp
  rcases r2 with _ | q3
  · refine W.eq (g2 := F0 m 10 ls (.null :: [])) rfl ?_
    have hp := hp.1 rfl
    refine z_asn_n M [(1, .null), (0, .ref (ad (8, q0, 0)))] dX2_lastEnd_10 rfl hl (by decide) rfl (fun ls hl => ?_)
    refine z_aln_n M dX2_lastEnd_11 rfl hl 0 rfl ?_
    refine z_ifnnN M dX2_lastEnd_12 ?_
    refine zi_const M (-1) dX2_lastEnd_15 rfl ?_
    refine zg M (tgt := 23) dX2_lastEnd_16 (by decide) ?_
    exact zr_i M hr hlocks ((-1), σ1) rfl ⟨hp, hW⟩ hS dX2_lastEnd_23
  · refine W.eq (g2 := F0 m 10 ls (.ref (ad (10, q3, 0)) :: [])) rfl ?_
    obtain ⟨hm_q3, hp⟩ := hp.2 q3 rfl
    refine z_as_n M [(1, .ref (ad (10, q3, 0))), (0, .ref (ad (8, q0, 0)))] dX2_lastEnd_10 rfl hl (by decide) rfl (fun ls hl => ?_)
    refine z_al_n M dX2_lastEnd_11 rfl hl 0 rfl ?_
    refine z_ifnn M (tgt := 19) dX2_lastEnd_12 (by decide) ?_
    refine z_al_n M dX2_lastEnd_19 rfl hl 0 rfl ?_
    refine zg_X1_6 M u_hin1 hW hm_q3 (M.hts _ u_fl_X2_47) dX2_lastEnd_20 ?_
    exact zr_i M hr hlocks ((σ1.1 (10, q3, 0) 6), σ1) rfl ⟨hp, hW⟩ hS dX2_lastEnd_23
def P_X2_cameWarm (K : List nKey) (σ : nS) (q0 : Nat) (k : Int → nS → Prop) : Prop :=
  ((w (σ.1 (8, q0, 0) 7) = 0 → k 0 σ) ∧ (w (σ.1 (8, q0, 0) 7) ≠ 0 → ((w (σ.1 (8, q0, 0) 8) ≠ 0 → k 0 σ) ∧ (w (σ.1 (8, q0, 0) 8) = 0 → P_X2_lastEnd K σ q0 (fun r4 σ3 => ((w (r4 - (σ3.1 (8, q0, 0) 3)) ≤ w (σ3.1 (8, q0, 0) 4) → k 0 σ3) ∧ (w (σ3.1 (8, q0, 0) 4) < w (r4 - (σ3.1 (8, q0, 0) 3)) → k 1 σ3)))))))
def rmX2_cameWarm : Room := { frames := 2, cells := 0, slots := 0, locals := 42 }
set_option maxHeartbeats 4000000 in
set_option maxRecDepth 100000 in
theorem w_X2_cameWarm {l : Launch} {D : va_G} {ca : Nat → ClassId} {K : List nKey} {ad : nKey → Nat} {σ : nS} {sz : Nat} (hKC : KC K) {q0 : Nat} (hm_q0 : (8, q0, 0) ∈ K) {k : Int → nS → Prop} (hp : P_X2_cameWarm K σ q0 k) : Met l yX2_cameWarm (Cond.code yX2_cameWarm cX2_cameWarm 1 (some .boolean) :: UW) rmX2_cameWarm (ZP D ca [.ref (ad (8, q0, 0))] (ZB D K ad ca σ sz)) (ZQi D K ad ca sz k) 0 0 (FA K ad sz) := by
  refine z_start (cc := cX2_cameWarm) (maxL := 1) (ret := (some .boolean)) (own := RX2) (K := K) (ad := ad) (σ := σ) (Qc := fun sz => ZQi D K ad ca sz k) (by decide) rfl (Nat.le_of_ble_eq_true rfl) ?_
  intro p e s m args below meth c M hr hlocks hW ls hl
  have hS : va_S (FA K ad s.heap.size) s.heap s.heap [] := va_S.rf
  have hA : ∀ q : Nat, s.heap.size ≤ q → FA K ad s.heap.size q := fun q h => Or.inr h
  replace hl : lv_has ls 1 [(0, .ref (ad (8, q0, 0)))] := hl
  unfold P_X2_cameWarm at hp
  refine z_al_n M dX2_cameWarm_0 rfl hl 0 rfl ?_
  refine zg_X2_7 M u_hin2 hW hm_q0 (M.hts _ u_fl_X2_21) dX2_cameWarm_1 ?_
  refine zv_eq M (tgt := 34) dX2_cameWarm_4 (by decide) rfl (fun c1 => ?_) (fun c1 => ?_)
  · have hp := hp.1 c1
    refine zi_const M 0 dX2_cameWarm_34 rfl ?_
    exact zr_z M hr hlocks (0, σ) (by decide) rfl ⟨hp, hW⟩ hS dX2_cameWarm_35
  · have hp := hp.2 c1
    refine z_al_n M dX2_cameWarm_7 rfl hl 0 rfl ?_
    refine zg_X2_8 M u_hin2 hW hm_q0 (M.hts _ u_fl_X2_25) dX2_cameWarm_8 ?_
    refine zv_ne M (tgt := 34) dX2_cameWarm_11 (by decide) rfl (fun c2 => ?_) (fun c2 => ?_)
    · have hp := hp.1 c2
      refine zi_const M 0 dX2_cameWarm_34 rfl ?_
      exact zr_z M hr hlocks (0, σ) (by decide) rfl ⟨hp, hW⟩ hS dX2_cameWarm_35
    · have hp := hp.2 c2
      refine z_al_n M dX2_cameWarm_14 rfl hl 0 rfl ?_
      have hfa := hW.fa hS hA
      refine zc_VU (As := []) (rest := []) M (w_X2_lastEnd hKC hm_q0 hp) (cuV M 0 u_co_X2_lastEnd u_ml_X2_50 u_ini_X2 u_in_X2_lastEnd u_se_X2_lastEnd (by decide +kernel) rfl rfl ⟨Nat.le_of_ble_eq_true rfl, Nat.le_of_ble_eq_true rfl⟩) (z_recv M hW hm_q0 rfl rfl) ⟨rfl, hW.weaken (fun _ _ => trivial)⟩ rfl hl rfl (Nat.le_of_ble_eq_true rfl) ⟨Nat.zero_le _, Nat.zero_le _⟩ dX2_cameWarm_15 hS hfa (fun u H locs hw _ _ hS => ?_)
      obtain ⟨r4, σ3⟩ := u
      obtain ⟨hp, hW2⟩ := hw
      have hW := hW2.weaken hfa
      try dsimp only at hp
      refine z_al_n M dX2_cameWarm_18 rfl hl 0 rfl ?_
      refine zg_X2_3 M u_hin2 hW hm_q0 (M.hts _ u_fl_X2_37) dX2_cameWarm_19 ?_
      refine zi_sub M dX2_cameWarm_22 ?_
      refine z_al_n M dX2_cameWarm_23 rfl hl 0 rfl ?_
      refine zg_X2_4 M u_hin2 hW hm_q0 (M.hts _ u_fl_X2_40) dX2_cameWarm_24 ?_
      refine zw_le M (tgt := 34) dX2_cameWarm_27 (by decide) rfl rfl (fun c5 => ?_) (fun c5 => ?_)
      · have hp := hp.1 c5
        refine zi_const M 0 dX2_cameWarm_34 rfl ?_
        exact zr_z M hr hlocks (0, σ3) (by decide) rfl ⟨hp, hW⟩ hS dX2_cameWarm_35
      · have hp := hp.2 c5
        refine zi_const M 1 dX2_cameWarm_30 rfl ?_
        refine zg M (tgt := 35) dX2_cameWarm_31 (by decide) ?_
        exact zr_z M hr hlocks (1, σ3) (by decide) rfl ⟨hp, hW⟩ hS dX2_cameWarm_35
def P_X0_open (K : List nKey) (σ : nS) (q0 : Nat) (v1 : Int) (v2 : Int) (v3 : Int) (v4 : Int) (k : nS → Prop) : Prop :=
  ((w v1 < 0 → k σ) ∧ (0 ≤ w v1 → ((3 ≤ w v1 → k σ) ∧ (w v1 < 3 → 0 ≤ v1 ∧ v1 < 3 ∧ ∀ σ3 : nS, σ3 = s1 σ (5, q0, 0) (v1).toNat v2 → 0 ≤ v1 ∧ v1 < 3 ∧ ∀ σ6 : nS, σ6 = s1 σ3 (5, q0, 1) (v1).toNat v3 → 0 ≤ v1 ∧ v1 < 3 ∧ ∀ σ9 : nS, σ9 = s1 σ6 (5, q0, 3) (v1).toNat v4 → k σ9))))
def rmX0_open : Room := { frames := 0, cells := 0, slots := 0, locals := 0 }
set_option maxHeartbeats 4000000 in
set_option maxRecDepth 100000 in
theorem w_X0_open {l : Launch} {D : va_G} {ca : Nat → ClassId} {K : List nKey} {ad : nKey → Nat} {σ : nS} {sz : Nat} (hKC : KC K) {q0 : Nat} {v1 : Int} {v2 : Int} {v3 : Int} {v4 : Int} (hm_q0 : q0 < 2) {k : nS → Prop} (hp : P_X0_open K σ q0 v1 v2 v3 v4 k) : Met l yX0_open (Cond.code yX0_open cX0_open 5 none :: UW) rmX0_open (ZP D ca [.ref (ad (4, q0, 0)), .int (iN v1), .int (iN v2), .int (iN v3), .int (iN v4)] (ZB D K ad ca σ sz)) (ZQv D K ad ca sz k) 0 0 (FA K ad sz) := by
  refine z_start (cc := cX0_open) (maxL := 5) (ret := none) (own := RX0) (K := K) (ad := ad) (σ := σ) (Qc := fun sz => ZQv D K ad ca sz k) (by decide) rfl (Nat.le_of_ble_eq_true rfl) ?_
  intro p e s m args below meth c M hr hlocks hW ls hl
  have hS : va_S (FA K ad s.heap.size) s.heap s.heap [] := va_S.rf
  have hA : ∀ q : Nat, s.heap.size ≤ q → FA K ad s.heap.size q := fun q h => Or.inr h
  replace hl : lv_has ls 5 [(0, .ref (ad (4, q0, 0))), (1, .int (iN v1)), (2, .int (iN v2)), (3, .int (iN v3)), (4, .int (iN v4))] := hl
  unfold P_X0_open at hp
  refine z_il_n M dX0_open_0 rfl hl 1 rfl ?_
  refine zv_lt M (tgt := 31) dX0_open_1 (by decide) rfl (fun c1 => ?_) (fun c1 => ?_)
  · have hp := hp.1 c1
    exact zr_v M hr hlocks σ rfl ⟨hp, hW⟩ hS dX0_open_31
  · have hp := hp.2 c1
    refine z_il_n M dX0_open_4 rfl hl 1 rfl ?_
    refine zi_const M 3 dX0_open_5 rfl ?_
    refine zw_ge M (tgt := 31) dX0_open_6 (by decide) rfl (w_of ⟨by decide, by decide⟩) (fun c2 => ?_) (fun c2 => ?_)
    · have hp := hp.1 c2
      exact zr_v M hr hlocks σ rfl ⟨hp, hW⟩ hS dX0_open_31
    · have hp := hp.2 c2
      refine z_al_n M dX0_open_9 rfl hl 0 rfl ?_
      refine zg_X0_0 M u_hin0 hW (hKC.k4 hm_q0) (M.hts _ u_fl_X0_9) dX0_open_10 ?_
      refine z_il_n M dX0_open_13 rfl hl 1 rfl ?_
      refine z_il_n M dX0_open_14 rfl hl 2 rfl ?_
      obtain ⟨h4, h5, hp⟩ := hp
      obtain ⟨σ3, eσ3⟩ : ∃ z : nS, z = s1 σ (5, q0, 0) (v1).toNat v2 := ⟨_, rfl⟩
      have hp := hp σ3 eσ3
      refine zs_i (n := 3) M hW hS (hKC.k5 hm_q0 (by decide)) (fun _ _ => rfl) h4 h5 (by decide) dX0_open_15 (fun H locs hW hS => ?_)
      rw [← eσ3] at hW
      refine z_al_n M dX0_open_16 rfl hl 0 rfl ?_
      refine zg_X0_1 M u_hin0 hW (hKC.k4 hm_q0) (M.hts _ u_fl_X0_15) dX0_open_17 ?_
      refine z_il_n M dX0_open_20 rfl hl 1 rfl ?_
      refine z_il_n M dX0_open_21 rfl hl 3 rfl ?_
      obtain ⟨h7, h8, hp⟩ := hp
      obtain ⟨σ6, eσ6⟩ : ∃ z : nS, z = s1 σ3 (5, q0, 1) (v1).toNat v3 := ⟨_, rfl⟩
      have hp := hp σ6 eσ6
      refine zs_i (n := 3) M hW hS (hKC.k5 hm_q0 (by decide)) (fun _ _ => rfl) h7 h8 (by decide) dX0_open_22 (fun H locs hW hS => ?_)
      rw [← eσ6] at hW
      refine z_al_n M dX0_open_23 rfl hl 0 rfl ?_
      refine zg_X0_3 M u_hin0 hW (hKC.k4 hm_q0) (M.hts _ u_fl_X0_21) dX0_open_24 ?_
      refine z_il_n M dX0_open_27 rfl hl 1 rfl ?_
      refine z_il M dX0_open_28 hl 4 rfl ?_
      obtain ⟨h10, h11, hp⟩ := hp
      obtain ⟨σ9, eσ9⟩ : ∃ z : nS, z = s1 σ6 (5, q0, 3) (v1).toNat v4 := ⟨_, rfl⟩
      have hp := hp σ9 eσ9
      refine zs_i (n := 3) M hW hS (hKC.k5 hm_q0 (by decide)) (fun _ _ => rfl) h10 h11 (by decide) dX0_open_30 (fun H locs hW hS => ?_)
      rw [← eσ9] at hW
      exact zr_v M hr hlocks σ9 rfl ⟨hp, hW⟩ hS dX0_open_31
def P_X0_close (K : List nKey) (σ : nS) (q0 : Nat) (v1 : Int) (v2 : Int) (v3 : Int) (k : nS → Prop) : Prop :=
  ((w v1 < 0 → k σ) ∧ (0 ≤ w v1 → ((3 ≤ w v1 → k σ) ∧ (w v1 < 3 → 0 ≤ v1 ∧ v1 < 3 ∧ ∀ σ3 : nS, σ3 = s1 σ (5, q0, 2) (v1).toNat v2 → 0 ≤ v1 ∧ v1 < 3 ∧ ∀ σ6 : nS, σ6 = s1 σ3 (5, q0, 4) (v1).toNat v3 → ∀ σ9 : nS, σ9 = s1 σ6 (4, q0, 0) 5 (v1 + 1) → k σ9))))
def rmX0_close : Room := { frames := 0, cells := 0, slots := 0, locals := 0 }
set_option maxHeartbeats 4000000 in
set_option maxRecDepth 100000 in
theorem w_X0_close {l : Launch} {D : va_G} {ca : Nat → ClassId} {K : List nKey} {ad : nKey → Nat} {σ : nS} {sz : Nat} (hKC : KC K) {q0 : Nat} {v1 : Int} {v2 : Int} {v3 : Int} (hm_q0 : q0 < 2) {k : nS → Prop} (hp : P_X0_close K σ q0 v1 v2 v3 k) : Met l yX0_close (Cond.code yX0_close cX0_close 4 none :: UW) rmX0_close (ZP D ca [.ref (ad (4, q0, 0)), .int (iN v1), .int (iN v2), .int (iN v3)] (ZB D K ad ca σ sz)) (ZQv D K ad ca sz k) 0 0 (FA K ad sz) := by
  refine z_start (cc := cX0_close) (maxL := 4) (ret := none) (own := RX0) (K := K) (ad := ad) (σ := σ) (Qc := fun sz => ZQv D K ad ca sz k) (by decide) rfl (Nat.le_of_ble_eq_true rfl) ?_
  intro p e s m args below meth c M hr hlocks hW ls hl
  have hS : va_S (FA K ad s.heap.size) s.heap s.heap [] := va_S.rf
  have hA : ∀ q : Nat, s.heap.size ≤ q → FA K ad s.heap.size q := fun q h => Or.inr h
  replace hl : lv_has ls 4 [(0, .ref (ad (4, q0, 0))), (1, .int (iN v1)), (2, .int (iN v2)), (3, .int (iN v3))] := hl
  unfold P_X0_close at hp
  refine z_il_n M dX0_close_0 rfl hl 1 rfl ?_
  refine zv_lt M (tgt := 30) dX0_close_1 (by decide) rfl (fun c1 => ?_) (fun c1 => ?_)
  · have hp := hp.1 c1
    exact zr_v M hr hlocks σ rfl ⟨hp, hW⟩ hS dX0_close_30
  · have hp := hp.2 c1
    refine z_il_n M dX0_close_4 rfl hl 1 rfl ?_
    refine zi_const M 3 dX0_close_5 rfl ?_
    refine zw_ge M (tgt := 30) dX0_close_6 (by decide) rfl (w_of ⟨by decide, by decide⟩) (fun c2 => ?_) (fun c2 => ?_)
    · have hp := hp.1 c2
      exact zr_v M hr hlocks σ rfl ⟨hp, hW⟩ hS dX0_close_30
    · have hp := hp.2 c2
      refine z_al_n M dX0_close_9 rfl hl 0 rfl ?_
      refine zg_X0_2 M u_hin0 hW (hKC.k4 hm_q0) (M.hts _ u_fl_X0_18) dX0_close_10 ?_
      refine z_il_n M dX0_close_13 rfl hl 1 rfl ?_
      refine z_il_n M dX0_close_14 rfl hl 2 rfl ?_
      obtain ⟨h4, h5, hp⟩ := hp
      obtain ⟨σ3, eσ3⟩ : ∃ z : nS, z = s1 σ (5, q0, 2) (v1).toNat v2 := ⟨_, rfl⟩
      have hp := hp σ3 eσ3
      refine zs_i (n := 3) M hW hS (hKC.k5 hm_q0 (by decide)) (fun _ _ => rfl) h4 h5 (by decide) dX0_close_15 (fun H locs hW hS => ?_)
      rw [← eσ3] at hW
      refine z_al_n M dX0_close_16 rfl hl 0 rfl ?_
      refine zg_X0_4 M u_hin0 hW (hKC.k4 hm_q0) (M.hts _ u_fl_X0_24) dX0_close_17 ?_
      refine z_il_n M dX0_close_20 rfl hl 1 rfl ?_
      refine z_il_n M dX0_close_21 rfl hl 3 rfl ?_
      obtain ⟨h7, h8, hp⟩ := hp
      obtain ⟨σ6, eσ6⟩ : ∃ z : nS, z = s1 σ3 (5, q0, 4) (v1).toNat v3 := ⟨_, rfl⟩
      have hp := hp σ6 eσ6
      refine zs_i (n := 3) M hW hS (hKC.k5 hm_q0 (by decide)) (fun _ _ => rfl) h7 h8 (by decide) dX0_close_22 (fun H locs hW hS => ?_)
      rw [← eσ6] at hW
      refine z_al_n M dX0_close_23 rfl hl 0 rfl ?_
      refine z_il_n M dX0_close_24 rfl hl 1 rfl ?_
      refine zi_const M 1 dX0_close_25 rfl ?_
      refine zi_add M dX0_close_26 ?_
      obtain ⟨σ9, eσ9⟩ : ∃ z : nS, z = s1 σ6 (4, q0, 0) 5 (v1 + 1) := ⟨_, rfl⟩
      have hp := hp σ9 eσ9
      refine zp_X0_5 (v := (v1 + 1)) M u_hin0 hW hS (hKC.k4 hm_q0) (M.hts _ u_fl_X0_27) dX0_close_27 (fun H locs hW hS => ?_)
      rw [← eσ9] at hW
      exact zr_v M hr hlocks σ9 rfl ⟨hp, hW⟩ hS dX0_close_30
