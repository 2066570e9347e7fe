def LawOK (Inv : List nKey → nS → Prop) : Prop := OK_place Inv ∧ OK_road Inv ∧ OK_rider Inv ∧ OK_rest Inv ∧ OK_count Inv ∧ OK_way Inv ∧ OK_of Inv ∧ OK_duty Inv ∧ OK_bare Inv ∧ OK_call Inv ∧ OK_best Inv ∧ OK_send Inv ∧ OK_told Inv ∧ OK_leg Inv ∧ OK_hand Inv ∧ OK_fail Inv ∧ OK_next Inv
section ZLL
variable {p : Program} {l : Launch} {e : Env} {s : State} {m : MethodId} {args : Array Value} {below : List Frame} {meth : Method} {c : Code} {Q : State → Prop}
variable {D : va_G} {ca : Nat → ClassId} {b L : Nat} {xs : Nat → Int32} {Inv : List nKey → nS → Prop}
set_option maxHeartbeats 1000000 in
theorem law_loop (M : MF p s m args c cL_law 7 RL D ca) (hfl : l.stackTraces = false) (hlX : lX s) (hX : LCx s b L xs) (hok : LawOK Inv) (hend : ∀ (H : Heap) (locs : List Loc) (ls : Array Slot) (cells slots : Nat), va_S (lAs s) s.heap H locs → cells ≤ 601024 → slots ≤ 7293034 → W p l e room_1 s m args below meth c H locs cells slots Q (F0 m 838 ls [])) :
    ∀ (f j : Nat) (K : List nKey) (ad : nKey → Nat) (σ : nS) (H : Heap) (locs : List Loc) (ls : Array Slot), L < 6 * (j + f) + 6 → 6 * j ≤ L + 6 → KC K → KS K → (13, 0, 0) ∈ K → Inv K σ → XW D (lAs s) K ad (cR ca ad σ) H → va_S (lAs s) s.heap H locs → lv_has ls 7 (lLv b ad (6 * (j : Int))) → W p l e room_1 s m args below meth c H locs (46 + 4 * j) (8400 + 100 * j) Q (F0 m 23 ls []) := by
  intro f
  induction f with
  | zero =>
    intro j K ad σ H locs ls hm hj hKC hKS h13 hI hW hS hl
    have hL := hX.2.2
    refine z_il M dL_law_23 hl 4 rfl ?_
    refine z_al_n M dL_law_25 rfl hl 0 rfl ?_
    refine va_slen M.hx M.hb hX.1 hX.2.1 (Nat.not_le.mpr hX.2.1) hS dL_law_26 ?_
    rw [show Int32.ofNat L = iN (L : Int) from (iN_nat L).symm]
    refine zi_bi M 6 dL_law_27 (by decide +kernel) ?_
    refine zi_sub M dL_law_29 ?_
    refine zw_gt M (tgt := 838) dL_law_30 (by decide) (w_of ⟨by omega, by omega⟩) (w_of ⟨by omega, by omega⟩) (fun h => ?_) (fun h => absurd h (by omega))
    exact hend _ _ _ _ _ hS (by omega) (by omega)
  | succ f ih =>
    intro j K ad σ H locs ls hm hj hKC hKS h13 hI hW hS hl
    have hL := hX.2.2
    refine z_il M dL_law_23 hl 4 rfl ?_
    refine z_al_n M dL_law_25 rfl hl 0 rfl ?_
    refine va_slen M.hx M.hb hX.1 hX.2.1 (Nat.not_le.mpr hX.2.1) hS dL_law_26 ?_
    rw [show Int32.ofNat L = iN (L : Int) from (iN_nat L).symm]
    refine zi_bi M 6 dL_law_27 (by decide +kernel) ?_
    refine zi_sub M dL_law_29 ?_
    refine zw_gt M (tgt := 838) dL_law_30 (by decide) (w_of ⟨by omega, by omega⟩) (w_of ⟨by omega, by omega⟩) (fun h => ?_) (fun h => ?_)
    · exact hend _ _ _ _ _ hS (by omega) (by omega)
    have hi1 : 6 * (j : Int) + 6 ≤ L := by omega
    have kk : LKK Inv p l e s m args below meth c ca D b (6 * (j : Int)) (46 + 4 * j) (8400 + 100 * j) Q := by
      intro K ad σ H locs ls hKC hKS h13 hI hW hS hl
      refine z_inc M [(4, .int (iN (6 * ((j + 1 : Nat) : Int)))), (0, .ref b), (1, .ref (ad (0, 0, 0))), (2, .ref (ad (11, 0, 0))), (3, .ref (ad (13, 0, 0)))] (6 * ((j + 1 : Nat) : Int)) dL_law_832 hl 4 rfl (by omega) (by decide) rfl (fun ls hl => ?_)
      refine zg M (tgt := 23) dL_law_835 (by decide) ?_
      refine W.widen (k := 46 + 4 * (j + 1)) (n := 8400 + 100 * (j + 1)) (by omega) (by omega) ?_
      exact ih (j + 1) K ad σ _ _ _ (by omega) (by omega) hKC hKS h13 hI hW hS (lv_sub hl [1, 2, 3, 4, 0] rfl)
    refine z_al_n M dL_law_33 rfl hl 0 rfl ?_
    refine z_il M dL_law_34 hl 4 rfl ?_
    refine z_scr M hX hS (v := (xs (6 * (j : Int)).toNat).toInt) (by omega) (by omega) dL_law_36 rfl ?_
    refine zi_bi M 31 dL_law_37 (by decide +kernel) ?_
    refine zo_and M dL_law_39 ?_
    generalize andI (xs (6 * (j : Int)).toNat).toInt 31 = g
    by_cases c0 : w g = 0
    · refine z_tin M (off := 84) (tgt := 124) 0 dL_law_40 c0 (by decide) (by decide) rfl (by decide) ?_
      exact law_place M hfl hlX hX (by omega) hi1 hKC hKS h13  (hok.1 K σ  hKC hKS h13  hI) hW hS hl (by omega) (by omega) kk
    by_cases c1 : w g = 1
    · refine z_tin M (off := 97) (tgt := 137) 1 dL_law_40 c1 (by decide) (by decide) rfl (by decide) ?_
      exact law_road M hfl hlX hX (by omega) hi1 hKC hKS h13 rfl rfl rfl (hok.2.1 K σ _ _ _ hKC hKS h13 (iR_toInt _) (iR_toInt _) (iR_toInt _) hI) hW hS hl (by omega) (by omega) kk
    by_cases c2 : w g = 2
    · refine z_tin M (off := 146) (tgt := 186) 2 dL_law_40 c2 (by decide) (by decide) rfl (by decide) ?_
      exact law_rider M hfl hlX hX (by omega) hi1 hKC hKS h13 rfl rfl rfl rfl rfl (hok.2.2.1 K σ _ _ _ _ _ hKC hKS h13 (iR_toInt _) (iR_toInt _) (iR_toInt _) (iR_toInt _) (iR_toInt _) hI) hW hS hl (by omega) (by omega) kk
    by_cases c3 : w g = 3
    · refine z_tin M (off := 219) (tgt := 259) 3 dL_law_40 c3 (by decide) (by decide) rfl (by decide) ?_
      exact law_rest M hfl hlX hX (by omega) hi1 hKC hKS h13 rfl (hok.2.2.2.1 K σ _ hKC hKS h13 (iR_toInt _) hI) hW hS hl (by omega) (by omega) kk
    by_cases c4 : w g = 4
    · refine z_tin M (off := 244) (tgt := 284) 4 dL_law_40 c4 (by decide) (by decide) rfl (by decide) ?_
      exact law_count M hfl hlX hX (by omega) hi1 hKC hKS h13 rfl (hok.2.2.2.2.1 K σ _ hKC hKS h13 (iR_toInt _) hI) hW hS hl (by omega) (by omega) kk
    by_cases c5 : w g = 5
    · refine z_tin M (off := 269) (tgt := 309) 5 dL_law_40 c5 (by decide) (by decide) rfl (by decide) ?_
      exact law_way M hfl hlX hX (by omega) hi1 hKC hKS h13 rfl rfl rfl (hok.2.2.2.2.2.1 K σ _ _ _ hKC hKS h13 (iR_toInt _) (iR_toInt _) (iR_toInt _) hI) hW hS hl (by omega) (by omega) kk
    by_cases c6 : w g = 6
    · refine z_tin M (off := 318) (tgt := 358) 6 dL_law_40 c6 (by decide) (by decide) rfl (by decide) ?_
      exact law_of M hfl hlX hX (by omega) hi1 hKC hKS h13 rfl rfl (hok.2.2.2.2.2.2.1 K σ _ _ hKC hKS h13 (iR_toInt _) (iR_toInt _) hI) hW hS hl (by omega) (by omega) kk
    by_cases c7 : w g = 7
    · refine z_tin M (off := 386) (tgt := 426) 7 dL_law_40 c7 (by decide) (by decide) rfl (by decide) ?_
      exact law_duty M hfl hlX hX (by omega) hi1 hKC hKS h13 rfl rfl (hok.2.2.2.2.2.2.2.1 K σ _ _ hKC hKS h13 (iR_toInt _) (iR_toInt _) hI) hW hS hl (by omega) (by omega) kk
    by_cases c8 : w g = 8
    · refine z_tin M (off := 423) (tgt := 463) 8 dL_law_40 c8 (by decide) (by decide) rfl (by decide) ?_
      exact law_bare M hfl hlX hX (by omega) hi1 hKC hKS h13 rfl rfl (hok.2.2.2.2.2.2.2.2.1 K σ _ _ hKC hKS h13 (iR_toInt _) (iR_toInt _) hI) hW hS hl (by omega) (by omega) kk
    by_cases c9 : w g = 9
    · refine z_tin M (off := 460) (tgt := 500) 9 dL_law_40 c9 (by decide) (by decide) rfl (by decide) ?_
      exact law_call M hfl hlX hX (by omega) hi1 hKC hKS h13 rfl rfl rfl rfl rfl (hok.2.2.2.2.2.2.2.2.2.1 K σ _ _ _ _ _ hKC hKS h13 (iR_toInt _) (iR_toInt _) (iR_toInt _) (iR_toInt _) (iR_toInt _) hI) hW hS hl (by omega) (by omega) kk
    by_cases c10 : w g = 10
    · refine z_tin M (off := 533) (tgt := 573) 10 dL_law_40 c10 (by decide) (by decide) rfl (by decide) ?_
      exact law_best M hfl hlX hX (by omega) hi1 hKC hKS h13 rfl (hok.2.2.2.2.2.2.2.2.2.2.1 K σ _ hKC hKS h13 (iR_toInt _) hI) hW hS hl (by omega) (by omega) kk
    by_cases c11 : w g = 11
    · refine z_tin M (off := 558) (tgt := 598) 11 dL_law_40 c11 (by decide) (by decide) rfl (by decide) ?_
      exact law_send M hfl hlX hX (by omega) hi1 hKC hKS h13 rfl (hok.2.2.2.2.2.2.2.2.2.2.2.1 K σ _ hKC hKS h13 (iR_toInt _) hI) hW hS hl (by omega) (by omega) kk
    by_cases c12 : w g = 12
    · refine z_tin M (off := 583) (tgt := 623) 12 dL_law_40 c12 (by decide) (by decide) rfl (by decide) ?_
      exact law_told M hfl hlX hX (by omega) hi1 hKC hKS h13 rfl rfl (hok.2.2.2.2.2.2.2.2.2.2.2.2.1 K σ _ _ hKC hKS h13 (iR_toInt _) (iR_toInt _) hI) hW hS hl (by omega) (by omega) kk
    by_cases c13 : w g = 13
    · refine z_tin M (off := 620) (tgt := 660) 13 dL_law_40 c13 (by decide) (by decide) rfl (by decide) ?_
      exact law_leg M hfl hlX hX (by omega) hi1 hKC hKS h13 rfl rfl rfl (hok.2.2.2.2.2.2.2.2.2.2.2.2.2.1 K σ _ _ _ hKC hKS h13 (iR_toInt _) (iR_toInt _) (iR_toInt _) hI) hW hS hl (by omega) (by omega) kk
    by_cases c14 : w g = 14
    · refine z_tin M (off := 669) (tgt := 709) 14 dL_law_40 c14 (by decide) (by decide) rfl (by decide) ?_
      exact law_hand M hfl hlX hX (by omega) hi1 hKC hKS h13 rfl rfl (hok.2.2.2.2.2.2.2.2.2.2.2.2.2.2.1 K σ _ _ hKC hKS h13 (iR_toInt _) (iR_toInt _) hI) hW hS hl (by omega) (by omega) kk
    by_cases c15 : w g = 15
    · refine z_tin M (off := 706) (tgt := 746) 15 dL_law_40 c15 (by decide) (by decide) rfl (by decide) ?_
      exact law_fail M hfl hlX hX (by omega) hi1 hKC hKS h13 rfl rfl rfl (hok.2.2.2.2.2.2.2.2.2.2.2.2.2.2.2.1 K σ _ _ _ hKC hKS h13 (iR_toInt _) (iR_toInt _) (iR_toInt _) hI) hW hS hl (by omega) (by omega) kk
    by_cases c16 : w g = 16
    · refine z_tin M (off := 755) (tgt := 795) 16 dL_law_40 c16 (by decide) (by decide) rfl (by decide) ?_
      exact law_next M hfl hlX hX (by omega) hi1 hKC hKS h13 rfl rfl (hok.2.2.2.2.2.2.2.2.2.2.2.2.2.2.2.2 K σ _ _ hKC hKS h13 (iR_toInt _) (iR_toInt _) hI) hW hS hl (by omega) (by omega) kk
    refine z_tout M (tgt := 832) dL_law_40 (by omega) (by decide) ?_
    refine W.widen (k := 46 + 4 * j + 4) (n := 8400 + 100 * j + 100) (by omega) (by omega) ?_
    exact kk _ _ _ _ _ _ hKC hKS h13 hI hW hS hl
end ZLL
