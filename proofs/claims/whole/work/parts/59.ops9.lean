set_option maxHeartbeats 8000000 in
theorem ok_call : OK_call Inv := by
  intro K σ v1 v2 v3 v4 v5 hKC hKS h13 i1 i2 i3 i4 i5 hI
  obtain ⟨P, R, C, h⟩ := hI
  obtain ⟨hA, hB, hR, hC, hKI, hZ, hL, hD, hT⟩ := id h
  obtain ⟨⟨a1, a1', a1''⟩, ⟨p8, r6, c40⟩, ⟨a3, a3', a3''⟩, a4, a7⟩ := id hA
  have bad : ¬ (C < 40 ∧ (0 ≤ v1 ∧ v1 ≤ 3) ∧ (0 ≤ v2 ∧ v2 < P) ∧ (0 ≤ v3 ∧ v3 < P) ∧ v2 ≠ v3 ∧ (0 ≤ v4 ∧ v4 ≤ 4319) ∧ (1 ≤ v5 ∧ v5 ≤ 2000)) → P_X5_call K σ v1 v2 v3 v4 v5 (fun r2 σ2 => w (-1) = w r2 ∧ Inv K σ2) := fun hn => by
    intro σ1 e1
    have e : Eqv σ σ1 := by rw [e1]; exact Eqv.s1 scr24
    have hI1 : Inv K σ1 := ⟨P, R, C, h.eqv e⟩
    have d : σ1.1 (11, 0, 0) 1 = P := (e.k11 (by decide) (by decide)).trans a1
    have d2 : σ1.1 (11, 0, 0) 20 = C := (e.k11 (by decide) (by decide)).trans a1''
    refine x5_in (br01 (fun q1 => x5_isPlace i2 (by omega) (br01 (fun q2 => x5_isPlace i3 (by omega) (br01 (fun q3 => ⟨fun _ => ⟨rfl, hI1⟩, fun q4 => x5_in (br01 (fun q5 => x5_in (br01 (fun q6 => ?_) (fun _ => ⟨rfl, hI1⟩))) (fun _ => ⟨rfl, hI1⟩))⟩) (fun _ => ⟨rfl, hI1⟩))) (fun _ => ⟨rfl, hI1⟩))) (fun _ => ⟨rfl, hI1⟩))
    rw [d2, w0 (x := (C : Int)) (by omega) (by omega)]
    rw [w_of i2, w_of i3] at q4
    rw [w_of i1, w0 (x := 0) (by decide) (by decide), w0 (x := 3) (by decide) (by decide)] at q1
    rw [w_of i4, w0 (x := 0) (by decide) (by decide), w0 (x := 4319) (by decide) (by decide)] at q5
    rw [w_of i5, w0 (x := 1) (by decide) (by decide), w0 (x := 2000) (by decide) (by decide)] at q6
    exact ⟨fun q7 => absurd ⟨by omega, q1, by omega, by omega, q4, q5, q6⟩ hn, fun _ => ⟨rfl, hI1⟩⟩
  unfold P_X4_call
  rw [a3'', w0 (x := (C : Int)) (by omega) (by omega)]
  refine ⟨fun q => bad (fun z => by omega), fun q0 => x4_isKind i1 (br01 (fun q1 => x4_isPlace i2 (by omega) (br01 (fun q2 => x4_isPlace i3 (by omega) (br01 (fun q3 => ?_) (fun q3 => bad (fun z => q3 (by omega))))) (fun q2 => bad (fun z => q2 (by omega))))) (fun q1 => bad (fun z => q1 z.2.1)))⟩
  rw [w_of i2, w_of i3, w_of i5]
  refine ⟨fun q4 => x4_isMinute i4 (br01 (fun q5 => ⟨fun q6 => bad (fun z => by omega), fun q6 => ⟨fun q7 => ?_, fun q7 => bad (fun z => by omega)⟩⟩) (fun q5 => bad (fun z => q5 z.2.2.2.2.2.1))), fun q4 => bad (fun z => z.2.2.2.2.1 q4)⟩
  refine ⟨C, fun hm => absurd (hKI.2.2.2.1 C hm) (Nat.lt_irrefl C), fun hm => absurd (hKI.2.2.2.2 C hm) (Nat.lt_irrefl C), hKI.1, fun σ18 e18 K2 eK2 K' eK' => ⟨by omega, by omega, fun σ21 e21 σ22 e22 => ?_⟩⟩
  have m8 : σ18.1 (8, C, 0) = nF [v1, v2, v3, v4, v5, 0, 0, 0, 0] := by
    rw [e18]
    show kup σ.1 (8, C, 0) (nF [v1, v2, v3, v4, v5, 0, 0, 0, 0]) (8, C, 0) = _
    rw [kup_s]
  have mk : ∀ κ : nKey, κ ≠ (8, C, 0) → σ18.1 κ = σ.1 κ := fun κ h1 => by
    rw [e18]
    show kup σ.1 (8, C, 0) (nF [v1, v2, v3, v4, v5, 0, 0, 0, 0]) κ = _
    rw [kup_k h1]
  have m9 : σ18.2 (9, C, 0) = fun _ => none := by
    rw [e18]
    show kup σ.2 (9, C, 0) (fun _ => none) (9, C, 0) = _
    rw [kup_s]
  have mk2 : ∀ κ : nKey, κ ≠ (9, C, 0) → σ18.2 κ = σ.2 κ := fun κ h1 => by
    rw [e18]
    show kup σ.2 (9, C, 0) (fun _ => none) κ = _
    rw [kup_k h1]
  have n21 : σ21.1 (0, 0, 0) 7 = C := by rw [e21, s2_1, mk _ (by simp)]; exact a3''
  rw [a3'', Int.toNat_natCast] at e21
  rw [n21] at e22
  intro σ1 e1
  have r22 : σ22.1 (0, 0, 0) 7 - 1 = (C : Int) := by rw [e22, s1_at]; omega
  have g2 : ∀ κ j, κ ≠ (9, C, 0) → σ1.2 κ j = if κ = (3, 0, 0) ∧ j = C then some C else σ.2 κ j := fun κ j hκ => by
    rw [e1, s1_2, e22, s1_2, e21, s2_2, mk2 κ hκ]
  have g29 : ∀ j, σ1.2 (9, C, 0) j = none := fun j => by rw [e1, s1_2, e22, s1_2, e21, s2_2, m9]; simp
  have gk : ∀ κ : nKey, κ ≠ (8, C, 0) → κ ≠ (0, 0, 0) → κ ≠ (11, 0, 0) → σ1.1 κ = σ.1 κ := fun κ h1 h2 h3 => by rw [e1, s1_k h3, e22, s1_k h2, e21, s2_1, mk κ h1]
  have g8 : σ1.1 (8, C, 0) = nF [v1, v2, v3, v4, v5, 0, 0, 0, 0] := by rw [e1, s1_k (by simp), e22, s1_k (by simp), e21, s2_1, m8]
  have g0 : ∀ i, i ≠ 7 → σ1.1 (0, 0, 0) i = σ.1 (0, 0, 0) i := fun i hi => by rw [e1, s1_k (by simp), e22, s1_i hi, e21, s2_1, mk _ (by simp)]
  have g07 : σ1.1 (0, 0, 0) 7 = ((C + 1 : Nat) : Int) := by rw [e1, s1_k (by simp), e22, s1_at]; rfl
  have g11 : ∀ i, i ≠ 24 → σ1.1 (11, 0, 0) i = σ.1 (11, 0, 0) i := fun i hi => by rw [e1, s1_i hi, e22, s1_k (by simp), e21, s2_1, mk _ (by simp)]
  have d : σ1.1 (11, 0, 0) 1 = P := (g11 1 (by decide)).trans a1
  have d2 : σ1.1 (11, 0, 0) 20 = C := (g11 20 (by decide)).trans a1''
  refine x5_in (br01 (fun _ => x5_isPlace i2 (by omega) (br01 (fun _ => x5_isPlace i3 (by omega) (br01 (fun _ => ⟨fun z => ?_, fun _ => x5_in (br01 (fun _ => x5_in (br01 (fun _ => ?_) (fun z => absurd ?_ z))) (fun z => absurd ?_ z))⟩) (fun z => absurd (by omega) z))) (fun z => absurd (by omega) z))) (fun z => absurd ?_ z))
  · rw [w_of i2, w_of i3] at z; exact absurd z q4
  · clear bad
    rw [d2, w0 (x := (C : Int)) (by omega) (by omega)]
    refine ⟨fun _ => ⟨by omega, by omega, fun σ19 e19 => ?_⟩, fun z => absurd z (by omega)⟩
    have d19 : σ19.1 (11, 0, 0) 20 = C := by rw [e19, s1_k (by simp)]; exact d2
    rw [d19]
    refine ⟨by omega, by omega, fun σ22 e22 => ?_⟩
    have d22 : σ22.1 (11, 0, 0) 20 = C := by rw [e22, s1_k (by simp)]; exact d19
    rw [d22]
    refine ⟨by omega, by omega, fun σ25 e25 => ?_⟩
    have d25 : σ25.1 (11, 0, 0) 20 = C := by rw [e25, s1_k (by simp)]; exact d22
    rw [d25]
    refine ⟨by omega, by omega, fun σ28 e28 => ?_⟩
    have d28 : σ28.1 (11, 0, 0) 20 = C := by rw [e28, s1_k (by simp)]; exact d25
    rw [d28]
    refine ⟨by omega, by omega, fun σ31 e31 σ34 e34 => ?_⟩
    have d31 : σ31.1 (11, 0, 0) 20 = C := by rw [e31, s1_k (by simp)]; exact d28
    rw [d31] at e34
    simp only [Int.toNat_natCast] at e19 e22 e25 e28 e31
    have d34 : σ34.1 (11, 0, 0) 20 = ((C + 1 : Nat) : Int) := by rw [e34, s1_at]; rfl
    have f2 : σ34.2 = σ1.2 := by rw [e34, s1_2, e31, s1_2, e28, s1_2, e25, s1_2, e22, s1_2, e19, s1_2]
    have fk : ∀ κ : nKey, κ ≠ (11, 0, 0) → (∀ k, 11 ≤ k → k < 16 → κ ≠ (12, k, 0)) → σ34.1 κ = σ1.1 κ := fun κ h1 h2 => by
      rw [e34, s1_k h1, e31, s1_k (h2 15 (by omega) (by omega)), e28, s1_k (h2 14 (by omega) (by omega)), e25, s1_k (h2 13 (by omega) (by omega)), e22, s1_k (h2 12 (by omega) (by omega)), e19, s1_k (h2 11 (by omega) (by omega))]
    have fi : ∀ k i, i ≠ C → σ34.1 (12, k, 0) i = σ1.1 (12, k, 0) i := fun k i hi => by
      rw [e34, s1_k (by simp), e31, s1_i hi, e28, s1_i hi, e25, s1_i hi, e22, s1_i hi, e19, s1_i hi]
    have f11 : ∀ i, i ≠ 20 → σ34.1 (11, 0, 0) i = σ1.1 (11, 0, 0) i := fun i hi => by
      rw [e34, s1_i hi, e31, s1_k (by simp), e28, s1_k (by simp), e25, s1_k (by simp), e22, s1_k (by simp), e19, s1_k (by simp)]
    have w1 : σ34.1 (12, 11, 0) C = v1 := by rw [e34, s1_k (by simp), e31, s1_k (by simp), e28, s1_k (by simp), e25, s1_k (by simp), e22, s1_k (by simp), e19, s1_at]
    have w2 : σ34.1 (12, 12, 0) C = v2 := by rw [e34, s1_k (by simp), e31, s1_k (by simp), e28, s1_k (by simp), e25, s1_k (by simp), e22, s1_at]
    have w3 : σ34.1 (12, 13, 0) C = v3 := by rw [e34, s1_k (by simp), e31, s1_k (by simp), e28, s1_k (by simp), e25, s1_at]
    have w4 : σ34.1 (12, 14, 0) C = v4 := by rw [e34, s1_k (by simp), e31, s1_k (by simp), e28, s1_at]
    have w5 : σ34.1 (12, 15, 0) C = v5 := by rw [e34, s1_k (by simp), e31, s1_at]
    obtain ⟨z16, z18⟩ := hZ.2 C (Nat.le_refl _) (by omega)
    unfold LM at z18
    have tk : ∀ k, (k < 11 ∨ 16 ≤ k) → σ34.1 (12, k, 0) = σ.1 (12, k, 0) := fun k hk => by rw [fk _ (by simp) (fun k' h1 h2 => by simp; omega), gk _ (by simp) (by simp) (by simp)]
    have ti : ∀ k i, i ≠ C → σ34.1 (12, k, 0) i = σ.1 (12, k, 0) i := fun k i hi => by rw [fi k i hi, gk _ (by simp) (by simp) (by simp)]
    have t6 : ∀ r, σ34.1 (6, r, 0) = σ.1 (6, r, 0) := fun r => by rw [fk _ (by simp) (fun k h1 h2 => by simp), gk _ (by simp) (by simp) (by simp)]
    have t7 : ∀ r, σ34.1 (7, r, 0) = σ.1 (7, r, 0) := fun r => by rw [fk _ (by simp) (fun k h1 h2 => by simp), gk _ (by simp) (by simp) (by simp)]
    have t8 : ∀ r, r ≠ C → σ34.1 (8, r, 0) = σ.1 (8, r, 0) := fun r hr => by rw [fk _ (by simp) (fun k h1 h2 => by simp), gk _ (by simp; exact hr) (by simp) (by simp)]
    have t8C : σ34.1 (8, C, 0) = nF [v1, v2, v3, v4, v5, 0, 0, 0, 0] := by rw [fk _ (by simp) (fun k h1 h2 => by simp), g8]
    have t10 : ∀ r, σ34.1 (10, r, 0) = σ.1 (10, r, 0) := fun r => by rw [fk _ (by simp) (fun k h1 h2 => by simp), gk _ (by simp) (by simp) (by simp)]
    have t1 : σ34.1 (1, 0, 0) = σ.1 (1, 0, 0) := by rw [fk _ (by simp) (fun k h1 h2 => by simp), gk _ (by simp) (by simp) (by simp)]
    have t00 : σ34.1 (0, 0, 0) = σ1.1 (0, 0, 0) := fk _ (by simp) (fun k h1 h2 => by simp)
    have T2 : ∀ j, σ34.2 (2, 0, 0) j = σ.2 (2, 0, 0) j := fun j => by rw [f2, g2 _ _ (by simp)]; simp
    have T3 : ∀ j, σ34.2 (3, 0, 0) j = if j = C then some C else σ.2 (3, 0, 0) j := fun j => by rw [f2, g2 _ _ (by simp)]; simp
    have T9 : ∀ c j, c ≠ C → σ34.2 (9, c, 0) j = σ.2 (9, c, 0) j := fun c j hc => by rw [f2, g2 _ _ (by simp; exact hc)]; simp
    have T9C : ∀ j, σ34.2 (9, C, 0) j = none := fun j => by rw [f2]; exact g29 j
    have hKin : ∀ κ, κ ∈ K' ↔ (κ ∈ K ∨ κ = (8, C, 0) ∨ κ = (9, C, 0)) := fun κ => by rw [eK', eK2]; simp [or_assoc]
    have hLM : ∀ c, LM σ34 c = LM σ c := fun c => by unfold LM; rw [tk 18 (by omega)]
    have hML : ∀ c i f, ML σ34 c i f = ML σ c i f := fun c i f => by unfold ML; rw [tk 17 (by omega)]
    refine ⟨by rw [r22, d34]; exact w_cong (by omega), P, R, C + 1, ?_, fun i hi => ?_, fun r hr => ?_, fun c hc => ?_, ⟨⟨fun j q hq => ?_, fun j q hq => ?_, fun c j q hc hq => ?_⟩, fun q hq => ?_, fun q hq => ?_, fun q hq => ?_, fun q hq => ?_⟩, ⟨fun r hr hr6 => ?_, fun c hc hc4 => ?_⟩, fun c hc i hi => ?_, fun c i c' i' n hc hc' hi hi' hs hs' => ?_, ?_⟩
    · unfold AI at hA ⊢
      rw [t00, f11 1 (by decide), f11 12 (by decide), f11 13 (by decide), f11 21 (by decide), g11 1 (by decide), g11 12 (by decide), g11 13 (by decide), g11 21 (by decide), g0 5 (by decide), g0 6 (by decide), g0 8 (by decide), g0 9 (by decide), d34, g07]
      exact ⟨⟨a1, a1', rfl⟩, ⟨p8, r6, by omega⟩, ⟨a3, a3', rfl⟩, a4, ⟨a7.1, a7.2.1, by omega⟩⟩
    · rw [t1, tk 0 (by omega)]; exact hB i hi
    · have := hR r hr
      unfold RI Mat at this ⊢
      rw [T2, t6, t7, tk 0 (by omega), tk 1 (by omega), tk 2 (by omega), tk 3 (by omega), tk 4 (by omega), tk 5 (by omega), tk 6 (by omega), tk 7 (by omega), tk 8 (by omega), tk 9 (by omega), tk 10 (by omega), hKin]
      exact ⟨⟨this.1.1, Or.inl this.1.2⟩, this.2⟩
    · by_cases e : c = C
      · subst e
        unfold CI
        rw [T3, t8C, w1, w2, w3, w4, w5, tk 16 (by omega), tk 18 (by omega), hKin, hLM, z16, z18, if_pos rfl]
        unfold LM
        rw [z18]
        exact ⟨⟨rfl, Or.inr (Or.inl rfl)⟩, ⟨rfl, rfl, rfl, rfl, rfl, rfl, rfl, rfl⟩, by omega, by omega, by omega, by omega, Or.inl ⟨rfl, rfl⟩, by decide⟩
      · have := hC c (by omega)
        unfold CI at this ⊢
        rw [T3, t8 c e, ti 11 c e, ti 12 c e, ti 13 c e, ti 14 c e, ti 15 c e, ti 16 c e, ti 18 c e, hKin, hLM, if_neg e]
        exact ⟨⟨this.1.1, Or.inl this.1.2⟩, this.2⟩
    · rw [T2] at hq; rw [hKin]; exact Or.inl (hKI.1.1 j q hq)
    · rw [T3] at hq
      rw [hKin]
      by_cases e : j = C
      · rw [if_pos e] at hq; cases hq; simp
      · rw [if_neg e] at hq; exact Or.inl (hKI.1.2.1 j q hq)
    · rw [hKin] at hc ⊢
      by_cases e : c = C
      · rw [e, T9C] at hq; cases hq
      · rw [T9 c j e] at hq
        exact Or.inl (hKI.1.2.2 c j q (by
          rcases hc with h | h | h
          · exact h
          · simp at h
          · simp at h; exact absurd h e) hq)
    · rw [hKin] at hq
      rcases hq with h | h | h
      · exact hKI.2.1 q h
      · simp at h
      · simp at h
    · rw [hKin] at hq
      rcases hq with h | h | h
      · exact hKI.2.2.1 q h
      · simp at h
      · simp at h
    · rw [hKin] at hq
      rcases hq with h | h | h
      · exact Nat.lt_succ_of_lt (hKI.2.2.2.1 q h)
      · simp at h; rw [h]; exact Nat.lt_succ_self C
      · simp at h
    · rw [hKin] at hq
      rcases hq with h | h | h
      · exact Nat.lt_succ_of_lt (hKI.2.2.2.2 q h)
      · simp at h
      · simp at h; rw [h]; exact Nat.lt_succ_self C
    · rw [tk 8 (by omega), tk 9 (by omega), tk 10 (by omega)]; exact hZ.1 r hr hr6
    · rw [hLM, tk 16 (by omega)]; exact hZ.2 c (by omega) hc4
    · rw [hLM] at hi
      by_cases e : c = C
      · subst e; unfold LM at hi; omega
      · obtain ⟨n, n1, n2, n3⟩ := hL c (by omega) i hi
        refine ⟨n, by rw [T9 c i e]; exact n1, by rw [hKin]; exact Or.inl n2, ?_⟩
        unfold LI at n3 ⊢
        simp only [hML]
        rw [t10]; exact n3
    · rw [hLM] at hi hi'
      have e : c ≠ C := fun e => by subst e; unfold LM at hi; omega
      have e' : c' ≠ C := fun e => by subst e; unfold LM at hi'; omega
      rw [T9 c i e] at hs
      rw [T9 c' i' e'] at hs'
      exact hD c i c' i' n (by omega) (by omega) hi hi' hs hs'
    · intro l hl
      rw [f11 21 (by decide), g11 21 (by decide)] at hl
      have := hT l hl
      unfold nF4 at this ⊢
      simp only [hLM, hML]
      rw [tk 8 (by omega)]; exact this
  · rw [w_of i5, w0 (x := 1) (by decide) (by decide), w0 (x := 2000) (by decide) (by decide)]; exact ⟨q6, q7⟩
  · rw [w_of i4, w0 (x := 0) (by decide) (by decide), w0 (x := 4319) (by decide) (by decide)]; exact q5
  · rw [w_of i1, w0 (x := 0) (by decide) (by decide), w0 (x := 3) (by decide) (by decide)]; exact q1
