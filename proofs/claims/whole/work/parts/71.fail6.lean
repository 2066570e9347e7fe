/-! fail: both sides -/
theorem IV.IX {K : List nKey} {σ : nS} {P R C c m : Nat} (h : IV K σ P R C) (hc : c < C) (hm : LM σ c = m) (h1 : 1 ≤ m) (hlat : σ.1 (11, 0, 0) 21 = (c : Int)) : IX K σ P R C c m := by
  obtain ⟨m', e1, e2, e3, e4, e5⟩ := h.call hc
  have : m' = m := by omega
  subst this
  obtain ⟨hA, hB, hR, hC, hKI, hZ, hL, hD, hT⟩ := h
  obtain ⟨q1, ⟨b0, b1, b2, b3, b4, b6, b7, b8⟩, c12, c13, c14, c15, -⟩ := hC c hc
  have s1' : σ.1 (12, 16, 0) c = 1 ∨ σ.1 (12, 16, 0) c = 2 := by rcases e5 with e5 | e5 <;> omega
  exact ⟨hA, hB, hR, fun c' hc' _ => hC c' hc', ⟨q1, ⟨b0, b1, b2, b3, b4, by rw [b7, if_neg (by omega)], b8⟩, c12, c13, c14, c15, s1'⟩, hKI, hZ, hL, hD, ⟨hm, e3⟩, hlat⟩
theorem Dat4.cong {K : List nKey} {R P : Nat} {cy : Nat → Bool} {at0 : Nat → Nat} {st bb : Nat → Int} {F E : Nat → Nat → Nat → Int} {kind : Int} {σ σ' : nS} (h : Dat4 K R P cy at0 st bb F E kind σ) (e2 : σ'.2 = σ.2) (e : ∀ κ : nKey, κ.1 < 11 → σ'.1 κ = σ.1 κ) : Dat4 K R P cy at0 st bb F E kind σ' := by
  unfold Dat4 Mat at h ⊢
  rw [e2, e (0, 0, 0) (by simp)]
  have e6 : ∀ r, σ'.1 (6, r, 0) = σ.1 (6, r, 0) := fun r => e _ (by simp)
  have e7 : ∀ r, σ'.1 (7, r, 0) = σ.1 (7, r, 0) := fun r => e _ (by simp)
  simp only [e6, e7]
  exact h
/-- the state behind a call's loss -/
def loS (σ : nS) (c : Nat) : nS := s1 (s1 σ (8, c, 0) 8 1) (12, 16, 0) c 2
section LO
variable {σ : nS} {c : Nat}
theorem loS_k {κ : nKey} (a : κ ≠ (8, c, 0)) (b : κ ≠ (12, 16, 0)) : (loS σ c).1 κ = σ.1 κ := by
  unfold loS
  rw [s1_k b, s1_k a]
theorem loS_2 : (loS σ c).2 = σ.2 := rfl
theorem loS_8 {i : Nat} (hi : i ≠ 8) : (loS σ c).1 (8, c, 0) i = σ.1 (8, c, 0) i := by
  unfold loS
  rw [s1_k (by simp), s1_i hi]
theorem loS_88 : (loS σ c).1 (8, c, 0) 8 = 1 := by
  unfold loS
  rw [s1_k (by simp), s1_at]
theorem loS_16 {i : Nat} (hi : i ≠ c) : (loS σ c).1 (12, 16, 0) i = σ.1 (12, 16, 0) i := by
  unfold loS
  rw [s1_i hi, s1_k (by simp)]
theorem loS_16c : (loS σ c).1 (12, 16, 0) c = 2 := by
  unfold loS
  rw [s1_at]
theorem loS_12 {k : Nat} (hk : k ≠ 16) : (loS σ c).1 (12, k, 0) = σ.1 (12, k, 0) := loS_k (by simp) (by simp; exact hk)
theorem loS_LM {c' : Nat} : LM (loS σ c) c' = LM σ c' := by unfold LM; rw [loS_12 (by decide)]
theorem loS_ML {c' i f : Nat} : ML (loS σ c) c' i f = ML σ c' i f := by unfold ML; rw [loS_12 (by decide)]
end LO
set_option maxHeartbeats 1000000 in
theorem lo_IV {K : List nKey} {σ : nS} {P R C c : Nat} (h : IV K σ P R C) (hc : c < C) (h1 : 1 ≤ LM σ c) : IV K (loS σ c) P R C := by
  obtain ⟨hA, hB, hR, hC, hKI, hZ, hL, hD, hT⟩ := h
  refine ⟨?_, fun z hz => ?_, fun r hr => ?_, fun c' hc' => ?_, hKI, ⟨fun r hr hr6 => ?_, fun c' hc' hc4 => ?_⟩, fun c' hc' i' hi' => ?_, fun c1 i1 c2 i2 n' hc1 hc2 hi1 hi2 hs1 hs2 => ?_, fun l hl => ?_⟩
  · unfold AI at hA ⊢
    rw [loS_k (κ := (11, 0, 0)) (by simp) (by simp), loS_k (κ := (0, 0, 0)) (by simp) (by simp)]
    exact hA
  · rw [loS_k (κ := (1, 0, 0)) (by simp) (by simp), loS_12 (by decide)]; exact hB z hz
  · have := hR r hr
    unfold RI Mat at this ⊢
    rw [loS_2, loS_k (κ := (6, r, 0)) (by simp) (by simp), loS_k (κ := (7, r, 0)) (by simp) (by simp), loS_12 (k := 0) (by decide), loS_12 (k := 1) (by decide), loS_12 (k := 2) (by decide), loS_12 (k := 3) (by decide), loS_12 (k := 4) (by decide), loS_12 (k := 5) (by decide), loS_12 (k := 6) (by decide), loS_12 (k := 7) (by decide), loS_12 (k := 8) (by decide), loS_12 (k := 9) (by decide), loS_12 (k := 10) (by decide)]
    exact this
  · have := hC c' hc'
    unfold CI at this ⊢
    rw [loS_2, loS_12 (k := 11) (by decide), loS_12 (k := 12) (by decide), loS_12 (k := 13) (by decide), loS_12 (k := 14) (by decide), loS_12 (k := 15) (by decide), loS_12 (k := 18) (by decide), loS_LM]
    by_cases e : c' = c
    · subst e
      obtain ⟨q1, ⟨q2, q3, q4, q5, q6, q7, q8, q9⟩, q10, q11, q12, q13, q14, q15⟩ := this
      rw [loS_8 (i := 0) (by decide), loS_8 (i := 1) (by decide), loS_8 (i := 2) (by decide), loS_8 (i := 3) (by decide), loS_8 (i := 4) (by decide), loS_8 (i := 6) (by decide), loS_8 (i := 7) (by decide), loS_88, loS_16c]
      refine ⟨q1, ⟨q2, q3, q4, q5, q6, q7, ?_, by rw [if_pos rfl]⟩, q10, q11, q12, q13, Or.inr ⟨Or.inr rfl, h1⟩, q15⟩
      rw [q8, if_neg (by rcases q14 with q14 | q14 <;> omega), if_neg (by decide)]
    · rw [loS_k (κ := (8, c', 0)) (by simp; exact e) (by simp), loS_16 e]
      exact this
  · rw [loS_12 (by decide), loS_12 (by decide), loS_12 (by decide)]; exact hZ.1 r hr hr6
  · rw [loS_LM, loS_16 (by omega)]; exact hZ.2 c' hc' hc4
  · rw [loS_LM] at hi'
    obtain ⟨n', g1, g2, g3⟩ := hL c' hc' i' hi'
    refine ⟨n', g1, g2, ?_⟩
    unfold LI at g3 ⊢
    simp only [loS_ML]
    rw [loS_k (κ := (10, n', 0)) (by simp) (by simp)]
    exact g3
  · rw [loS_LM] at hi1 hi2
    exact hD c1 i1 c2 i2 n' hc1 hc2 hi1 hi2 hs1 hs2
  · rw [loS_k (κ := (11, 0, 0)) (by simp) (by simp)] at hl
    have := hT l hl
    unfold nF4 at this ⊢
    simp only [loS_LM, loS_ML]
    rw [loS_12 (by decide)]
    exact this
/-- where there is no chain: both sides' cells -/
theorem lo_eqv {σ0 σ' σ13 σ19 σ1 σ31 σB0 : nS} {c m i n : Nat} {v : Int} (s2 : σ'.2 = σ0.2) (slt : ∀ κ : nKey, κ.1 < 11 → σ'.1 κ = (fS σ0 c m i n v).1 κ) (sge : ∀ κ : nKey, 11 ≤ κ.1 → σ'.1 κ = σ0.1 κ) (he : Eqv σ' σ13) (e19 : σ19 = s1 σ13 (8, c, 0) 8 1) (e1 : σ1 = s1 σ19 (11, 0, 0) 24 0) (hF : FM σ0 c m i n v σ1 σ31) (heB : Eqv σ31 σB0) : Eqv (loS (fS σ0 c m i n v) c) (s1 σB0 (12, 16, 0) c 2) := by
  obtain ⟨f1, f2, f3⟩ := hF
  refine ⟨by rw [s1_2, heB.1, f1, e1, s1_2, e19, s1_2, he.1, s2]; rfl, fun κ z hs => ?_⟩
  by_cases k16 : κ = (12, 16, 0) ∧ z = c
  · obtain ⟨rfl, rfl⟩ := k16
    rw [s1_at, loS_16c]
  have l1 : (s1 σB0 (12, 16, 0) c 2).1 κ z = σ31.1 κ z := by
    rw [s1_1, if_neg k16]
    exact heB.2 κ z hs
  rw [l1]
  have r1 : (loS (fS σ0 c m i n v) c).1 κ z = (s1 (fS σ0 c m i n v) (8, c, 0) 8 1).1 κ z := by
    unfold loS
    rw [s1_1, if_neg k16]
  rw [r1]
  by_cases k12 : ∃ k, k < 19 ∧ κ = (12, k, 0)
  · obtain ⟨k, hk, rfl⟩ := k12
    rw [f3 k hk, s1_k (by simp)]
  · have no : ∀ k, k < 19 → κ ≠ (12, k, 0) := fun k hk e => k12 ⟨k, hk, e⟩
    rw [f2 κ (fun k h1 _ => no k (by omega)), e1]
    have l2 : (s1 σ19 (11, 0, 0) 24 0).1 κ z = σ19.1 κ z := by
      rw [s1_1, if_neg (fun q => hs (by unfold Scr; rw [q.1, q.2]; simp))]
    rw [l2, e19]
    by_cases k8 : κ = (8, c, 0) ∧ z = 8
    · obtain ⟨rfl, rfl⟩ := k8
      rw [s1_at, s1_at]
    · rw [s1_1, if_neg k8, s1_1, if_neg k8, he.2 κ z hs]
      by_cases h11 : κ.1 < 11
      · rw [slt κ h11]
      · rw [sge κ (by omega), fS_k (fun r e => by rw [e] at h11; simp at h11) (fun e => by rw [e] at h11; simp at h11) (fun e => by rw [e] at h11; simp at h11) (fun k h1 _ => no k (by omega))]
set_option maxHeartbeats 1000000 in
/-- where there is one: both sides' cells behind both rides -/
theorem fS_RF {K K' : List nKey} {σ0 σ' σ13 σA σ1 σ31 σB0 σB : nS} {R c m i n : Nat} {v : Int} {ls : List Lg} (s2 : σ'.2 = σ0.2) (slt : ∀ κ : nKey, κ.1 < 11 → σ'.1 κ = (fS σ0 c m i n v).1 κ) (he : Eqv σ' σ13) (hXR : XR K σ13 R c (i + 1) ls ls.length K' σA) (y11 : ∀ j, j ≠ 24 → j ≠ 34 → σA.1 (11, 0, 0) j = σ0.1 (11, 0, 0) j) (e1 : σ1 = s1 σA (11, 0, 0) 24 0) (hF : FM σ0 c m i n v σ1 σ31) (heB : Eqv σ31 σB0) (hXM : XM σB0 c (i + 1) ls ls.length σB) : RF K (fS σ0 c m i n v) R c (i + 1) ls K' σB := by
  obtain ⟨f1, f2, f3⟩ := hF
  have m1' := hXM.1.2
  have w11 : ∀ j, j ≠ 24 → j ≠ 34 → σB0.1 (11, 0, 0) j = σ0.1 (11, 0, 0) j := fun j j1 j2 => by rw [heB.k11 j1 j2, f2 _ (fun k _ _ => by simp), e1, s1_i j1, y11 j j1 j2]
  refine RF_of hXR hXM (fun κ q1 q4 q5 => ?_) ?_ (fun κ q1 q4 q5 => ?_) (by rw [heB.1, f1, e1]; rfl) ?_ (fun k hk _ => ?_) (fun κ a b => rfl) rfl (fun j h1 h2 => ?_) ?_
  · funext z
    rw [he.2 κ z (by unfold Scr; omega), slt κ q1]
  · rw [he.1, s2]; rfl
  · funext z
    rw [heB.2 κ z (by unfold Scr; omega), f2 κ (fun k _ _ e => by rw [e] at q1; simp at q1), e1, s1_k (fun e => by rw [e] at q1; simp at q1)]
  · rw [fS_11, w11 13 (by decide) (by decide)]
  · rw [heB.k12 hk, f3 k hk]
  · rw [m1' _ (by simp) (by simp) (by simp) (by simp) (by simp) (by simp), w11 j h1 h2, fS_11]
  · rw [m1' _ (by simp) (by simp) (by simp) (by simp) (by simp) (by simp), heB.k12 (by decide), f3 16 (by decide)]
