/-! behind a leg's failing the invariant holds -/
section FI
variable {σ : nS} {c m i n : Nat} {v : Int}
theorem fS_ML {c' i' f : Nat} (hf : f < 8) (hi' : i' < 24) (hi : i < 24) (hne : ¬ (c' = c ∧ i' = i)) : ML (fS σ c m i n v) c' i' f = ML σ c' i' f := by
  unfold ML
  rw [fS_cL, if_neg (by omega), if_neg (by omega), if_neg (by omega)]
theorem fS_MLi {f : Nat} (hf : f < 8) : ML (fS σ c m i n v) c i f = if f = 2 then ML σ c i 1 else if f = 4 then v else if f = 5 then 1 else ML σ c i f := by
  unfold ML
  rw [fS_cL]
  by_cases h2 : f = 2
  · subst h2; rw [if_pos rfl, if_pos rfl]
  · rw [if_neg (by omega), if_neg h2]
    by_cases h4 : f = 4
    · subst h4; rw [if_pos rfl, if_pos rfl]
    · rw [if_neg (by omega), if_neg h4]
      by_cases h5 : f = 5
      · subst h5; rw [if_pos rfl, if_pos rfl]
      · rw [if_neg (by omega), if_neg h5]
theorem fS_LM {c' : Nat} (hne : c' ≠ c) : LM (fS σ c m i n v) c' = LM σ c' := by
  unfold LM
  rw [fS_cM, if_neg hne]
theorem fS_LMc : LM (fS σ c m i n v) c = (i : Int) + 1 := by
  unfold LM
  rw [fS_cM, if_pos rfl]
theorem fS_nF {R : Nat} (hr : (ML σ c i 0).toNat < R) (h0 : σ.1 (12, 8, 0) (ML σ c i 0).toNat = 0) : nF4 σ R + 1 ≤ nF4 (fS σ c m i n v) R := by
  unfold nF4
  refine cu_lt R (fun b _ hb => ?_) ⟨_, hr, ?_, ?_⟩
  · have hb := of_decide_eq_true hb
    refine decide_eq_true ?_
    rw [fS_c8]
    split
    · rfl
    · exact hb
  · refine decide_eq_true ?_
    rw [fS_c8, if_pos rfl]
  · refine decide_eq_false ?_
    rw [h0]; decide
end FI
set_option maxHeartbeats 1000000 in
theorem fS_RI {K : List nKey} {σ : nS} {P R C c m i n : Nat} {v : Int} (h : IV K σ P R C) (hc : c < C) (hm : LM σ c = m) (hi : i < m) (n3 : LI σ P R c i n) {r : Nat} (hr : r < R) : RI K (fS σ c m i n v) P r := by
  obtain ⟨m', e1, e2, e3, e4, -⟩ := h.call hc
  have : m' = m := by omega
  subst this
  obtain ⟨g0, ⟨b0, b1, b2, b3, b4, b6, b7, b8, b9, b10⟩, g1, g2, g3, g4, g5, g6, g7⟩ := h.2.2.1 r hr
  clear h
  have n31 := n3.2.2.1
  have rg : ∀ j, j < m' - 1 - i → (0 ≤ ML σ c (m' - 1 - j) 6 ∧ ML σ c (m' - 1 - j) 6 < P) ∧ (0 ≤ ML σ c (m' - 1 - j) 7 ∧ ML σ c (m' - 1 - j) 7 ≤ 4919) := fun j hj => by
    obtain ⟨n', -, -, n6⟩ := e4 (m' - 1 - j) (by omega)
    exact n6.2.2.2.2.2
  have eA : dA σ c m' (fun r => σ.1 (6, r, 0) 6) (m' - 1 - i) r = dA σ c m' (σ.1 (12, 6, 0)) (m' - 1 - i) r := dU_congr b6 _
  have eB : dB σ c m' (fun r => σ.1 (6, r, 0) 7) (m' - 1 - i) r = dB σ c m' (σ.1 (12, 7, 0)) (m' - 1 - i) r := dU_congr b7 _
  have eQ : dQ σ c m' (fun r => σ.1 (6, r, 0) 8) (m' - 1 - i) r = dQ σ c m' (σ.1 (12, 9, 0)) (m' - 1 - i) r := dU_congr b8 _
  have eM : dM σ c m' (fun r => σ.1 (6, r, 0) 9) (m' - 1 - i) r = dM σ c m' (σ.1 (12, 10, 0)) (m' - 1 - i) r := dU_congr b9 _
  refine ⟨⟨by rw [fS_2]; exact g0.1, g0.2⟩, ⟨?_, ?_, ?_, ?_, ?_, ?_, ?_, ?_, ?_, ?_⟩, ?_, ?_, ?_, ?_, ?_, ?_, ?_⟩
  · rw [fS_6o (by decide) (by decide) (by decide) (by decide) (by decide), fS_12 (by decide)]; exact b0
  · rw [fS_6o (by decide) (by decide) (by decide) (by decide) (by decide), fS_12 (by decide)]; exact b1
  · rw [fS_6o (by decide) (by decide) (by decide) (by decide) (by decide), fS_12 (by decide)]; exact b2
  · rw [fS_6o (by decide) (by decide) (by decide) (by decide) (by decide), fS_12 (by decide)]; exact b3
  · rw [fS_6o (by decide) (by decide) (by decide) (by decide) (by decide), fS_12 (by decide)]; exact b4
  · rw [fS_66, fS_c6, eA]
  · rw [fS_67, fS_c7, eB]
  · rw [fS_68, fS_c9, eQ]
  · rw [fS_69, fS_cA, eM]
    split
    · omega
    · rfl
  · rw [fS_6A, fS_c8, b10]
  · rw [fS_12 (by decide)]; exact g1
  · rw [fS_12 (by decide)]; exact g2
  · rw [fS_12 (by decide)]; exact g3
  · rw [fS_c6]
    split
    · exact n31
    · exact dU_prop (p := fun x => 0 ≤ x ∧ x < (P : Int)) g4 _ (fun j x hj _ => (rg j hj).1)
  · rw [fS_c7]
    exact dU_prop (p := fun x => 0 ≤ x ∧ x ≤ 4919) g5 _ (fun j x hj _ => (rg j hj).2)
  · rw [fS_c8]
    split
    · exact Or.inr rfl
    · exact g6
  · rw [fS_12 (k := 2) (by decide), fS_12 (k := 0) (by decide)]
    intro x y hx hy
    rw [fS_k (κ := (7, r, 0)) (fun r => by simp) (by simp) (by simp) (fun k _ _ => by simp)]
    exact g7 x y hx hy
set_option maxHeartbeats 1000000 in
theorem fS_IV {K : List nKey} {σ : nS} {P R C c m i n : Nat} {v : Int} (h : IV K σ P R C) (hc : c < C) (hm : LM σ c = m) (hi : i < m) (n1 : σ.2 (9, c, 0) i = some n) (n3 : LI σ P R c i n) (hv : ML σ c i 3 ≤ v ∧ v ≤ ML σ c i 4) (hlat : σ.1 (11, 0, 0) 21 = (c : Int)) (h0 : σ.1 (12, 8, 0) (ML σ c i 0).toNat = 0) : IV K (fS σ c m i n v) P R C := by
  have hRI : ∀ r, r < R → RI K (fS σ c m i n v) P r := fun r hr => fS_RI h hc hm hi n3 hr
  have hnF : nF4 σ R + 1 ≤ nF4 (fS σ c m i n v) R := fS_nF (by have := n3.2.1; omega) h0
  obtain ⟨m', e1, e2, e3, e4, -⟩ := h.call hc
  have : m' = m := by omega
  subst this
  obtain ⟨hA, hB, -, hC, hKI, hZ, hL, hD, hT⟩ := h
  have hLM18 : ∀ c', c' < C → LM σ c' ≤ 18 := fun c' hc' => (hC c' hc').2.2.2.2.2.2.2
  refine ⟨?_, fun z hz => ?_, hRI, fun c' hc' => ?_, hKI, ⟨fun r hr hr6 => ?_, fun c' hc' hc4 => ?_⟩, fun c' hc' i' hi' => ?_, fun c1 i1 c2 i2 n' hc1 hc2 hi1 hi2 hs1 hs2 => ?_, fun l hl => ?_⟩
  · unfold AI at hA ⊢
    rw [fS_11, fS_k (κ := (0, 0, 0)) (fun r => by simp) (by simp) (by simp) (fun k _ _ => by simp)]
    exact hA
  · rw [fS_k (κ := (1, 0, 0)) (fun r => by simp) (by simp) (by simp) (fun k _ _ => by simp), fS_12 (by decide)]; exact hB z hz
  · have := hC c' hc'
    unfold CI at this ⊢
    rw [fS_2, fS_12 (k := 11) (by decide), fS_12 (k := 12) (by decide), fS_12 (k := 13) (by decide), fS_12 (k := 14) (by decide), fS_12 (k := 15) (by decide), fS_12 (k := 16) (by decide)]
    by_cases e : c' = c
    · subst e
      obtain ⟨q1, ⟨q2, q3, q4, q5, q6, q7, q8, q9⟩, q10, q11, q12, q13, q14, q15⟩ := this
      have f8 : ∀ z, z ≠ 6 → (fS σ c' m' i n v).1 (8, c', 0) z = σ.1 (8, c', 0) z := fun z hz => by rw [fS_8, if_neg hz]
      have f86 : (fS σ c' m' i n v).1 (8, c', 0) 6 = (i : Int) + 1 := by rw [fS_8, if_pos rfl]
      have f18 : (fS σ c' m' i n v).1 (12, 18, 0) c' = (i : Int) + 1 := fS_LMc
      rw [f8 0 (by decide), f8 1 (by decide), f8 2 (by decide), f8 3 (by decide), f8 4 (by decide), f86, f8 7 (by decide), f8 8 (by decide), fS_LMc, f18]
      exact ⟨q1, ⟨q2, q3, q4, q5, q6, rfl, q8, q9⟩, q10, q11, q12, q13, by omega, by omega⟩
    · rw [fS_k (κ := (8, c', 0)) (fun r => by simp) (by simp; exact e) (by simp) (fun k _ _ => by simp), fS_LM e, fS_cM, if_neg e]
      exact this
  · obtain ⟨z8, z9, z10⟩ := hZ.1 r hr hr6
    have hrr : ¬ r = (ML σ c i 0).toNat := by have := n3.2.1; omega
    have hout : ∀ j, j < m' - 1 - i → dR σ c m' j ≠ r := fun j hj => by
      obtain ⟨n', -, -, n6⟩ := e4 (m' - 1 - j) (by omega)
      have := n6.2.1
      unfold dR; omega
    rw [fS_c8, fS_c9, fS_cA, if_neg hrr, if_neg hrr]
    unfold dQ dM
    rw [dU_out _ hout, dU_out _ hout]
    exact ⟨z8, z9, z10⟩
  · rw [fS_LM (by omega), fS_12 (by decide)]; exact hZ.2 c' hc' hc4
  · by_cases e : c' = c ∧ i' = i
    · obtain ⟨e, e'⟩ := e
      subst e; subst e'
      obtain ⟨n', g1, g2, g3⟩ := hL c' hc' i' (by omega)
      have : n' = n := by rw [n1] at g1; cases g1; rfl
      subst this
      refine ⟨n', g1, g2, ?_⟩
      obtain ⟨⟨l0, l1, l5, l2, l6, l7, l3, l4⟩, s0, s1', s2', s3', s4', s5'⟩ := g3
      unfold LI
      rw [fS_10, fS_10, fS_10, fS_10, fS_10, fS_10, fS_10, fS_10, fS_MLi (f := 0) (by decide), fS_MLi (f := 1) (by decide), fS_MLi (f := 2) (by decide), fS_MLi (f := 3) (by decide), fS_MLi (f := 4) (by decide), fS_MLi (f := 5) (by decide), fS_MLi (f := 6) (by decide), fS_MLi (f := 7) (by decide)]
      simp only [reduceIte, Nat.reduceEqDiff, Nat.succ_ne_self]
      exact ⟨⟨l0, l1, trivial, l2, trivial, trivial, l3, l4⟩, s0, s1', by omega, Or.inr trivial, s4', s5'⟩
    · have hi2 : (i' : Int) < LM σ c' := by
        by_cases e' : c' = c
        · subst e'; rw [fS_LMc] at hi'; omega
        · rw [fS_LM e'] at hi'; exact hi'
      obtain ⟨n', g1, g2, g3⟩ := hL c' hc' i' hi2
      have hnn : n' ≠ n := fun q => by
        subst q
        exact e (hD c' i' c i n' hc' hc hi2 (by omega) g1 n1)
      have := hLM18 c' hc'
      refine ⟨n', g1, g2, ?_⟩
      unfold LI at g3 ⊢
      rw [fS_k (κ := (10, n', 0)) (fun r => by simp) (by simp) (by simp; exact hnn) (fun k _ _ => by simp), fS_ML (f := 0) (by decide) (by omega) (by omega) e, fS_ML (f := 1) (by decide) (by omega) (by omega) e, fS_ML (f := 2) (by decide) (by omega) (by omega) e, fS_ML (f := 3) (by decide) (by omega) (by omega) e, fS_ML (f := 4) (by decide) (by omega) (by omega) e, fS_ML (f := 5) (by decide) (by omega) (by omega) e, fS_ML (f := 6) (by decide) (by omega) (by omega) e, fS_ML (f := 7) (by decide) (by omega) (by omega) e]
      exact g3
  · have old : ∀ c', c' < C → ∀ i' : Nat, (i' : Int) < LM (fS σ c m' i n v) c' → (i' : Int) < LM σ c' := fun c' _ i' hi' => by
      by_cases e' : c' = c
      · subst e'; rw [fS_LMc] at hi'; omega
      · rw [fS_LM e'] at hi'; exact hi'
    exact hD c1 i1 c2 i2 n' hc1 hc2 (old c1 hc1 i1 hi1) (old c2 hc2 i2 hi2) hs1 hs2
  · rw [fS_11, hlat] at hl
    have hlc : l = c := by omega
    subst hlc
    have ht := (hT l hlat).1
    rw [fS_LMc]
    refine ⟨by omega, fun i' hi' hall => ?_⟩
    have := hall i (by omega) (by omega)
    rw [fS_MLi (by decide), if_neg (by decide), if_neg (by decide), if_pos rfl] at this
    exact absurd this (by decide)
