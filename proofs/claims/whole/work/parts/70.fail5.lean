/-! fail: the model's leg fails, search, ride -/
/-- the model behind the leg's failing -/
def FM (σ0 : nS) (c m i n : Nat) (v : Int) (σa σ : nS) : Prop :=
  σ.2 = σa.2 ∧ (∀ κ : nKey, (∀ k, k < 11 ∨ k = 17 ∨ k = 18 → 6 ≤ k → κ ≠ (12, k, 0)) → σ.1 κ = σa.1 κ) ∧ ∀ k, k < 19 → σ.1 (12, k, 0) = (fS σ0 c m i n v).1 (12, k, 0)
set_option maxHeartbeats 2000000 in
theorem x5_failF {K K1 : List nKey} {σ0 σa σ : nS} {P R C c m i n : Nat} {v : Int} {ch : List Ky} {k : Int → nS → Prop} (h : IV K σ0 P R C) (hs : IV K (fS σ0 c m i n v) P R C) (hc : c < C) (hm : LM σ0 c = m) (hi : i < m) (n3 : LI σ0 P R c i n) (hv : 0 ≤ v ∧ v ≤ 4319) (ha12 : ∀ k, k < 19 → σa.1 (12, k, 0) = σ0.1 (12, k, 0)) (ha11 : ∀ j, j ≠ 24 → j ≠ 34 → σa.1 (11, 0, 0) j = σ0.1 (11, 0, 0) j) (hMC : MC σ0 c m (m - 1 - i) σa σ)
    (hch : ch = List.foldl (min5 (dat (fS σ0 c m i n v)) (dst (fS σ0 c m i n v)) (dF (fS σ0 c m i n v)) (ML σ0 c i 1).toNat v) [] (en R (dcy (fS σ0 c m i n v) (σ0.1 (12, 11, 0) c)) (dat (fS σ0 c m i n v)) (dst (fS σ0 c m i n v)) (dbb (fS σ0 c m i n v)) (dF (fS σ0 c m i n v)) (σ0.1 (12, 13, 0) c).toNat (ML σ0 c i 1).toNat v (List.range P) 3 []))
    (hy : 0 < ch.length → ∀ σ31 σB0, FM σ0 c m i n v σa σ31 → Eqv σ31 σB0 → Bst5 R P (dat (fS σ0 c m i n v)) (dst (fS σ0 c m i n v)) (dF (fS σ0 c m i n v)) (ML σ0 c i 1).toNat v σB0 ch → P_X5_ride K1 σB0 (c : Int) ((ML σ0 c i 1).toNat : Int) (fun σ45 => P_X5_endOf K1 σ45 (c : Int) (fun r47 σ46 => k r47 σ46)))
    (hn : ¬ 0 < ch.length → ∀ σ31 σB0, FM σ0 c m i n v σa σ31 → Eqv σ31 σB0 → k (-2) (s1 σB0 (12, 16, 0) c 2)) : P_X5_fail_L130 K1 k (c : Int) (i : Int) v 1 (8 * ((24 * (c : Int)) + (i : Int))) (i : Int) σ := by
  obtain ⟨m', e1, e2, e3, -⟩ := h.call hc
  have : m' = m := by omega
  subst this
  obtain ⟨⟨a1, a1', a1''⟩, ⟨p8, r6, c40⟩, -⟩ := id h.1
  obtain ⟨-, -, -, c13, -⟩ := h.2.2.2.1 c hc
  have hd5 := hs.d5 (σ0.1 (12, 11, 0) c)
  obtain ⟨rr, err⟩ : ∃ rr, rr = (ML σ0 c i 0).toNat := ⟨_, rfl⟩
  have hrd : (rr : Int) = ML σ0 c i 0 := by have := n3.2.1; omega
  have hrR : rr < 6 := by have := n3.2.1; omega
  have n31 := n3.2.2.1
  have hx : ((ML σ0 c i 1).toNat : Int) = ML σ0 c i 1 := by omega
  have hg : ((σ0.1 (12, 13, 0) c).toNat : Int) = σ0.1 (12, 13, 0) c := by omega
  have hxP : (ML σ0 c i 1).toNat < P := by omega
  have hgP : (σ0.1 (12, 13, 0) c).toNat < P := by omega
  have c4 : c < 40 := by omega
  clear h hs n3
  obtain ⟨h1, h2, h3⟩ := hMC
  have hu : ∀ κ : nKey, κ ≠ (12, 6, 0) → κ ≠ (12, 7, 0) → κ ≠ (12, 9, 0) → κ ≠ (12, 10, 0) → σ.1 κ = σa.1 κ := h2
  have h17 : σ.1 (12, 17, 0) = σ0.1 (12, 17, 0) := by rw [hu _ (by simp) (by simp) (by simp) (by simp), ha12 17 (by decide)]
  obtain ⟨B, hB⟩ : ∃ B : Nat, B = 8 * (24 * c + i) := ⟨_, rfl⟩
  have hB' : 8 * ((24 * (c : Int)) + (i : Int)) = (B : Int) := by omega
  have hBl : B + 8 ≤ 7680 := by omega
  have hl : ∀ f, ML σ0 c i f = σ0.1 (12, 17, 0) (B + f) := fun f => by unfold ML; rw [← hB]
  rw [hB']
  unfold P_X5_fail_L130
  rw [w0 (x := (i : Int)) (by omega) (by omega)]
  refine ⟨fun _ => ⟨by omega, by omega, fun σ2 e2 => ⟨by omega, by omega, fun x7 e7 => ?_⟩⟩, fun q => absurd q (by omega)⟩
  rw [Int.toNat_natCast] at e2
  have s2' : σ2.1 (12, 17, 0) = σ0.1 (12, 17, 0) := by rw [e2, s1_k (by simp), h17]
  have e7' : x7 = (rr : Int) := by rw [e7, s2', Int.toNat_natCast, hrd, hl]; rfl
  subst e7'
  clear e7
  simp only [Int.toNat_natCast]
  rw [show ((B : Int) + 1).toNat = B + 1 by omega, show ((B : Int) + 2).toNat = B + 2 by omega, show ((B : Int) + 4).toNat = B + 4 by omega, show ((B : Int) + 5).toNat = B + 5 by omega]
  refine ⟨by omega, by omega, by omega, by omega, by omega, by omega, fun σ12 e12 => ⟨by omega, by omega, by omega, by omega, fun σ17 e17 => ⟨by omega, by omega, fun σ20 e20 => ⟨by omega, by omega, fun σ23 e23 => ⟨by omega, by omega, by omega, by omega, fun σ28 e28 => ⟨by omega, by omega, fun σ31 e31 => ?_⟩⟩⟩⟩⟩⟩
  have t2 : σ2.1 (12, 10, 0) rr = dM σ0 c m' (σ0.1 (12, 10, 0)) (m' - 1 - i) rr := by rw [e2, s1_k (by simp)]; exact (h3 rr).2.2.2
  rw [t2, s2', ← hl] at e12
  have s12 : σ12.1 (12, 17, 0) = σ0.1 (12, 17, 0) := by rw [e12, s1_k (by simp), s2']
  rw [s12, ← hl] at e17
  have s23 : ∀ z, σ23.1 (12, 17, 0) z = if z = B + 2 then ML σ0 c i 1 else if z = B + 4 then v else if z = B + 5 then 1 else σ0.1 (12, 17, 0) z := fun z => by
    by_cases z5 : z = B + 5
    · rw [e23, z5, s1_at, if_neg (by omega), if_neg (by omega), if_pos rfl]
    · rw [e23, s1_i z5, if_neg z5]
      by_cases z4 : z = B + 4
      · rw [e20, z4, s1_at, if_neg (by omega), if_pos rfl]
      · rw [e20, s1_i z4, if_neg z4]
        by_cases z2 : z = B + 2
        · rw [e17, z2, s1_at, if_pos rfl]
        · rw [e17, s1_i z2, if_neg z2, s12]
  have t23 : σ23.1 (12, 17, 0) (B + 1) = ML σ0 c i 1 := by rw [s23, if_neg (by omega), if_neg (by omega), if_neg (by omega), hl]
  rw [t23] at e28
  have hFM : FM σ0 c m' i n v σa σ31 := by
    refine ⟨by rw [e31, s1_2, e28, s1_2, e23, s1_2, e20, s1_2, e17, s1_2, e12, s1_2, e2, s1_2, h1], fun κ hκ => ?_, fun k hk => ?_⟩
    · have q6 := hκ 6 (by omega) (by omega)
      have q7 := hκ 7 (by omega) (by omega)
      have q8 := hκ 8 (by omega) (by omega)
      have q9 := hκ 9 (by omega) (by omega)
      have q10 := hκ 10 (by omega) (by omega)
      have q17 := hκ 17 (by omega) (by omega)
      have q18 := hκ 18 (by omega) (by omega)
      rw [e31, s1_k q8, e28, s1_k q6, e23, s1_k q17, e20, s1_k q17, e17, s1_k q17, e12, s1_k q10, e2, s1_k q18]
      exact hu κ q6 q7 q9 q10
    · by_cases k6 : k = 6
      · subst k6
        funext z
        rw [fS_c6, ← err, e31, s1_k (by simp), e28]
        by_cases e : z = rr
        · rw [if_pos e, e, s1_at]
        · rw [if_neg e, s1_i e, e23, s1_k (by simp), e20, s1_k (by simp), e17, s1_k (by simp), e12, s1_k (by simp), e2, s1_k (by simp)]; exact (h3 z).1
      · by_cases k7 : k = 7
        · subst k7
          funext z
          rw [fS_c7, e31, s1_k (by simp), e28, s1_k (by simp), e23, s1_k (by simp), e20, s1_k (by simp), e17, s1_k (by simp), e12, s1_k (by simp), e2, s1_k (by simp)]; exact (h3 z).2.1
        · by_cases k8 : k = 8
          · subst k8
            funext z
            rw [fS_c8, ← err, e31]
            by_cases e : z = rr
            · rw [if_pos e, e, s1_at]
            · rw [if_neg e, s1_i e, e28, s1_k (by simp), e23, s1_k (by simp), e20, s1_k (by simp), e17, s1_k (by simp), e12, s1_k (by simp), e2, s1_k (by simp), hu _ (by simp) (by simp) (by simp) (by simp), ha12 8 (by decide)]
          · by_cases k9 : k = 9
            · subst k9
              funext z
              rw [fS_c9, e31, s1_k (by simp), e28, s1_k (by simp), e23, s1_k (by simp), e20, s1_k (by simp), e17, s1_k (by simp), e12, s1_k (by simp), e2, s1_k (by simp)]; exact (h3 z).2.2.1
            · by_cases k10 : k = 10
              · subst k10
                funext z
                rw [fS_cA, ← err, e31, s1_k (by simp), e28, s1_k (by simp), e23, s1_k (by simp), e20, s1_k (by simp), e17, s1_k (by simp), e12]
                by_cases e : z = rr
                · rw [if_pos e, e, s1_at]
                · rw [if_neg e, s1_i e, e2, s1_k (by simp)]; exact (h3 z).2.2.2
              · by_cases k17 : k = 17
                · subst k17
                  funext z
                  rw [fS_cL, ← hB, e31, s1_k (by simp), e28, s1_k (by simp), s23]
                · by_cases k18 : k = 18
                  · subst k18
                    funext z
                    rw [fS_cM, e31, s1_k (by simp), e28, s1_k (by simp), e23, s1_k (by simp), e20, s1_k (by simp), e17, s1_k (by simp), e12, s1_k (by simp), e2]
                    by_cases e : z = c
                    · rw [if_pos e, e, s1_at]
                    · rw [if_neg e, s1_i e, hu _ (by simp) (by simp) (by simp) (by simp), ha12 18 (by decide)]
                  · rw [fS_12 (by omega), e31, s1_k (by simp; exact k8), e28, s1_k (by simp; exact k6), e23, s1_k (by simp; exact k17), e20, s1_k (by simp; exact k17), e17, s1_k (by simp; exact k17), e12, s1_k (by simp; exact k10), e2, s1_k (by simp; exact k18), hu _ (by simp; exact k6) (by simp; exact k7) (by simp; exact k9) (by simp; exact k10), ha12 k hk]
  clear e2 e12 e17 e20 e23 e28 e31 s2' t2 s12 s23 t23 h17 h3 h2 hu h1
  obtain ⟨f1, f2, f3⟩ := id hFM
  have f11 : ∀ j, j ≠ 24 → j ≠ 34 → σ31.1 (11, 0, 0) j = (fS σ0 c m' i n v).1 (11, 0, 0) j := fun j j1 j2 => by rw [f2 _ (fun k _ _ => by simp), ha11 j j1 j2, fS_11]
  have f17 : σ31.1 (12, 17, 0) (B + 1) = ML σ0 c i 1 := by
    rw [f3 17 (by decide), fS_cL, if_neg (by omega), if_neg (by omega), if_neg (by omega), hl]
  have hd := hd5.cong (f11 1 (by decide) (by decide)) (f11 12 (by decide) (by decide)) (fun k hk => f3 k (by omega))
  rw [f3 11 (by decide), f3 13 (by decide), fS_12 (k := 11) (by decide), fS_12 (k := 13) (by decide), f17, ← hx, ← hg]
  refine ⟨by omega, by omega, by omega, by omega, by omega, by omega, x5_findBest hxP hv hgP hd (fun σB0 ch' hch' heB hbB => ?_)⟩
  have hcc : ch' = ch := by rw [hch', hch]
  subst hcc
  have g17 : σB0.1 (12, 17, 0) (B + 1) = ML σ0 c i 1 := by rw [heB.k12 (by decide), f17]
  rw [g17, ← hx]
  refine br10 (fun hl' => ⟨by omega, by omega, hy hl' σ31 σB0 hFM heB hbB⟩) (fun hl' => ⟨by omega, by omega, fun σ48 e48 => ?_⟩)
  subst e48
  exact hn hl' σ31 σB0 hFM heB
/-- the class's ride to its end -/
theorem x4_rideE {K : List nKey} {σ9 : nS} {R P c m : Nat} {ls : List Lg} {k : Int → nS → List nKey → Prop} (r6 : R ≤ 6) (h06 : σ9.1 (0, 0, 0) 6 = R) (hrid : ∀ r, r < R → σ9.2 (2, 0, 0) r = some r ∧ (6, r, 0) ∈ K) (h86 : σ9.1 (8, c, 0) 6 = (m : Int)) (hcl : CLs K σ9) (hl : 1 ≤ ls.length) (hmn : m + ls.length ≤ 18) (hb1 : vll R P ls) (hb2 : ls.length ≤ 3) (hb3 : σ9.1 (4, 1, 0) 5 = (ls.length : Int)) (hb4 : Ls4 σ9 1 ls) {ll : Lg} (hll : ls[ls.length - 1]? = some ll)
    (hk : ∀ σA K', XR K σ9 R c m ls ls.length K' σA → k ll.2.2.2.2 σA K') : P_X4_rideChosen K σ9 c (fun σ10 K2 => ∀ K : List nKey, K = K2 → P_X2_lastEnd K σ10 c (fun r12 σ11 => k r12 σ11 K)) := by
  refine ⟨ls.length + 1, x4_ride2 (K0 := K) (σ0 := σ9) (R := R) (P := P) (m := m) (ls := ls) hb2 hmn hb1 r6 h06 hrid hb3 hb4 (fun σA K' hXR => ?_) ls.length 0 σ9 K (by omega) (XR_0 h86 hcl)⟩
  intro K'' eK''
  subst eK''
  have hk' := hk σA K'' hXR
  obtain ⟨x1, x2, ⟨x3, x3'⟩, x4, x5, -⟩ := hXR
  obtain ⟨nn, n1, n2, n3, n4⟩ := x5 (ls.length - 1) ll (by omega) hll
  refine x2_lastEnd (m := m + ls.length) (n := nn) (by rw [x3]) (by omega) (by omega) (by rw [show m + ls.length - 1 = m + (ls.length - 1) by omega]; exact n1) n2 ?_
  have hend : σA.1 (10, nn, 0) 6 = ll.2.2.2.2 := by rw [n4]; rfl
  rw [hend]
  exact hk'
/-- the model's ride to its end -/
theorem x5_rideE {K : List nKey} {σ9 : nS} {R P c m : Nat} {ls : List Lg} {v3 : Int} {k : Int → nS → Prop} (c4 : c < 40) (r6 : R ≤ 6) (hl : 1 ≤ ls.length) (hmn : m + ls.length ≤ 18) (hb1 : vll R P ls) (hb2 : ls.length ≤ 3) (hb3 : σ9.1 (11, 0, 0) 34 = (ls.length : Int)) (hb4 : Ls5 σ9 24 ls) (h18 : σ9.1 (12, 18, 0) c = (m : Int)) (hchain : ∀ (j : Nat) (l l' : Lg), ls[j]? = some l → ls[j + 1]? = some l' → l'.2.1 = l.2.2.1) (hfirst : ∀ l, ls[0]? = some l → v3 = (l.2.1 : Int)) {ll : Lg} (hll : ls[ls.length - 1]? = some ll)
    (hk : ∀ σB, XM σ9 c m ls ls.length σB → k ll.2.2.2.2 σB) : P_X5_ride K σ9 (c : Int) v3 (fun σ45 => P_X5_endOf K σ45 (c : Int) (fun r47 σ46 => k r47 σ46)) := by
  refine ⟨ls.length + 1, x5_ride5 (σ0 := σ9) (R := R) (P := P) (m := m) (ls := ls) c4 hb2 hmn hb1 r6 hb3 hb4 (fun σB hXM => ?_) hchain ls.length 0 _ σ9 (by omega) hfirst (XM_0 h18)⟩
  have hk' := hk σB hXM
  obtain ⟨m1, m2, ⟨m3, m3'⟩, m4, m5⟩ := hXM
  refine x5_endOf (m := m + ls.length) c4 m3 (by omega) (by omega) ?_
  have := (m5 (ls.length - 1) ll (by omega) hll).2.2.2.2.1
  rw [show m + (ls.length - 1) = m + ls.length - 1 by omega] at this
  rw [this]
  exact hk'
