theorem kup_k {α : Type} {f : nKey → α} {k j : nKey} {v : α} (h : j ≠ k) : kup f k v j = f j := kup_n h
set_option maxHeartbeats 8000000 in
theorem ok_rider : OK_rider Inv := by
  intro K σ v1 v2 v3 v4 v5 hKC hKS h13 i1 i2 i3 i4 i5 hI
  obtain ⟨P, R, C, h⟩ := hI
  obtain ⟨hA, hB, hR, hC, hKI, hZ, hL, hD, hT⟩ := id h
  obtain ⟨⟨a1, a1', a1''⟩, ⟨p8, r6, c40⟩, ⟨a3, a3', a3''⟩, a4, a7⟩ := id hA
  have hsh := shl_pl P (by omega)
  have hpow : ((2 ^ P : Nat) : Int) ≤ 256 := by
    have : 2 ^ P ≤ 2 ^ 8 := Nat.pow_le_pow_right (by decide) p8
    omega
  have hpow0 : 0 ≤ ((2 ^ P : Nat) : Int) := Int.natCast_nonneg _
  have h16 : w (shlI 1 4) = 16 := (shl_pl 4 (by decide)).1
  have bad : ¬ (R < 6 ∧ (0 ≤ v1 ∧ v1 < P) ∧ (0 ≤ v2 ∧ v2 < w (shlI 1 P)) ∧ bt v2 v1 ∧ (0 ≤ v3 ∧ v3 ≤ 4319) ∧ (0 ≤ v4 ∧ v4 ≤ 4319) ∧ v3 ≤ v4 ∧ (0 ≤ v5 ∧ v5 < 16)) → P_X5_rider K σ v1 v2 v3 v4 v5 (fun r2 σ2 => w (-1) = w r2 ∧ Inv K σ2) := fun hn => by
    intro σ1 e1
    have e : Eqv σ σ1 := by rw [e1]; exact Eqv.s1 scr24
    have hI1 : Inv K σ1 := ⟨P, R, C, h.eqv e⟩
    have d : σ1.1 (11, 0, 0) 1 = P := (e.k11 (by decide) (by decide)).trans a1
    have d2 : σ1.1 (11, 0, 0) 12 = R := (e.k11 (by decide) (by decide)).trans a1'
    refine x5_isPlace i1 (by omega) (br01 (fun q1 => x5_in (br01 (fun q2 => br_bt (fun q3 => x5_in (br01 (fun q4 => x5_in (br01 (fun q5 => x5_in (br01 (fun q6 => ?_) (fun _ => ⟨rfl, hI1⟩))) (fun _ => ⟨rfl, hI1⟩))) (fun _ => ⟨rfl, hI1⟩))) (fun _ => ⟨rfl, hI1⟩)) (fun _ => ⟨rfl, hI1⟩))) (fun _ => ⟨rfl, hI1⟩))
    rw [d2, w0 (x := (R : Int)) (by omega) (by omega)]
    refine ⟨fun q7 => absurd ⟨by omega, by omega, ?_, q3, ?_⟩ hn, fun _ => ⟨rfl, hI1⟩⟩
    · rw [d, hsh.2, w_of i2, w0 (x := 0) (by decide) (by decide), w0 (x := ((2 ^ P : Nat) : Int) - 1) (by omega) (by omega)] at q2
      rw [hsh.1]; omega
    · rw [w_of i3, w0 (x := 0) (by decide) (by decide), w0 (x := 4319) (by decide) (by decide)] at q4
      rw [w_of i4, w_of i3, w0 (x := 4319) (by decide) (by decide)] at q5
      rw [w_of i5, w0 (x := 0) (by decide) (by decide), w0 (x := 15) (by decide) (by decide)] at q6
      omega
  unfold P_X4_rider
  rw [a3', w0 (x := (R : Int)) (by omega) (by omega)]
  refine ⟨fun q => bad (fun z => by omega), fun q0 => x4_isPlace i1 (by omega) (br01 (fun q1 => x4_areBits i2 (br01 (fun q2 => x4_hasBit (br10 (fun q3 => x4_isMinute i3 (br01 (fun q4 => x4_isMinute i4 (br01 (fun q5 => ?_) (fun q5 => bad (fun z => q5 z.2.2.2.2.2.1)))) (fun q4 => bad (fun z => q4 z.2.2.2.2.1)))) (fun q3 => bad (fun z => q3 z.2.2.2.1)))) (fun q2 => bad (fun z => q2 (by rw [a3]; exact z.2.2.1))))) (fun q1 => bad (fun z => q1 (by omega))))⟩
  rw [a3] at q2
  rw [w_of i3, w_of i4]
  refine ⟨fun q6 => bad (fun z => by omega), fun q6 => x4_areBits i5 (br10 (fun q7 => ?_) (fun q7 => bad (fun z => q7 (by rw [h16]; exact z.2.2.2.2.2.2.2))))⟩
  rw [h16] at q7
  refine ⟨R, fun hm => absurd (hKI.2.1 R hm) (Nat.lt_irrefl R), fun hm => absurd (hKI.2.2.1 R hm) (Nat.lt_irrefl R), hKI.1, fun σ22 e22 K2 eK2 K' eK' => ?_⟩
  have m6 : σ22.1 (6, R, 0) = nF [v1, v2, v3, v4, v5, 0, v1, v3, 0, 0, 0] := by
    rw [e22]
    show kup (kup σ.1 (6, R, 0) (nF [v1, v2, v3, v4, v5, 0, v1, v3, 0, 0, 0])) (7, R, 0) (fun _ => 0) (6, R, 0) = _
    rw [kup_k (by simp), kup_s]
  have mk : ∀ κ : nKey, κ ≠ (6, R, 0) → κ ≠ (7, R, 0) → σ22.1 κ = σ.1 κ := fun κ h1 h2 => by
    rw [e22]
    show kup (kup σ.1 (6, R, 0) (nF [v1, v2, v3, v4, v5, 0, v1, v3, 0, 0, 0])) (7, R, 0) (fun _ => 0) κ = _
    rw [kup_k h2, kup_k h1]
  have m2 : σ22.2 = σ.2 := by rw [e22]; rfl
  have hbt : ∀ x : Nat, (P : Int) ≤ x → x < 8 → ¬ bt v2 x := fun x hx hx8 => bt_pl (n := P) ⟨by omega, by omega⟩ q2.1 q2.2 hx (by omega)
  refine x4_settleWays (E := eE v2 (σ.1 (1, 0, 0))) ⟨by rw [mk _ (by simp) (by simp)]; omega, fun i hi => by rw [mk _ (by simp) (by simp)]; have := hB i hi; omega, fun x hx hx8 => ?_, ?_⟩ (fun σ23 o23 hm23 => ?_)
  · rw [m6]; rw [mk _ (by simp) (by simp), a3] at hx; exact hbt x hx hx8
  · rw [m6, mk (1, 0, 0) (by simp) (by simp)]; rfl
  have n0 : σ23.1 (0, 0, 0) 6 = R := by rw [o23.2 _ _ (by simp), mk _ (by simp) (by simp)]; exact a3'
  rw [n0]
  refine ⟨by omega, by omega, fun σ26 e26 σ27 e27 => ?_⟩
  intro σ1 e1
  -- the state behind the class's part and the model's first step
  have s2R : σ1.2 = σ26.2 := by rw [e1, s1_2, e27, s1_2]
  have g2 : ∀ κ j, σ1.2 κ j = if κ = (2, 0, 0) ∧ j = R then some R else σ.2 κ j := fun κ j => by
    rw [s2R, e26, s2_2, o23.1, m2]; simp
  have gk : ∀ κ : nKey, κ ≠ (6, R, 0) → κ ≠ (7, R, 0) → κ ≠ (0, 0, 0) → κ ≠ (11, 0, 0) → σ1.1 κ = σ.1 κ := fun κ h1 h2 h3 h4 => by
    rw [e1, s1_k h4, e27, s1_k h3, e26, s2_1, o23.at h2, mk κ h1 h2]
  have g0 : ∀ i, i ≠ 6 → σ1.1 (0, 0, 0) i = σ.1 (0, 0, 0) i := fun i hi => by rw [e1, s1_k (by simp), e27, s1_i hi, e26, s2_1, o23.at (by simp), mk _ (by simp) (by simp)]
  have g06 : σ1.1 (0, 0, 0) 6 = ((R + 1 : Nat) : Int) := by rw [e1, s1_k (by simp), e27, s1_at, e26, s2_1, n0]; rfl
  have g11 : ∀ i, i ≠ 24 → σ1.1 (11, 0, 0) i = σ.1 (11, 0, 0) i := fun i hi => by rw [e1, s1_i hi, e27, s1_k (by simp), e26, s2_1, o23.at (by simp), mk _ (by simp) (by simp)]
  have g6 : σ1.1 (6, R, 0) = nF [v1, v2, v3, v4, v5, 0, v1, v3, 0, 0, 0] := by rw [e1, s1_k (by simp), e27, s1_k (by simp), e26, s2_1, o23.at (by simp), m6]
  have g7 : Mat σ1 R (fl 8 (eE v2 (σ.1 (1, 0, 0)))) := fun x y hx hy => by rw [e1, s1_k (by simp), e27, s1_k (by simp), e26, s2_1]; exact hm23 x y hx hy
  have d : σ1.1 (11, 0, 0) 1 = P := (g11 1 (by decide)).trans a1
  have d2 : σ1.1 (11, 0, 0) 12 = R := (g11 12 (by decide)).trans a1'
  have r27 : σ27.1 (0, 0, 0) 6 - 1 = (R : Int) := by rw [e27, s1_at, e26, s2_1, n0]; omega
  refine x5_isPlace i1 (by omega) (br01 (fun _ => x5_in (br01 (fun _ => br_bt (fun _ => x5_in (br01 (fun _ => x5_in (br01 (fun _ => x5_in (br01 (fun _ => ?_) (fun z => absurd ?_ z))) (fun z => absurd ?_ z))) (fun z => absurd ?_ z))) (fun z => absurd q3 z)) (fun z => absurd ?_ z))) (fun z => absurd (by omega) z))
  · clear bad hsh hpow hpow0 h16
    rw [d2, w0 (x := (R : Int)) (by omega) (by omega)]
    refine ⟨fun _ => ⟨by omega, by omega, fun σ19 e19 => ?_⟩, fun z => absurd z (by omega)⟩
    have d19 : σ19.1 (11, 0, 0) 12 = R := by rw [e19, s1_k (by simp)]; exact d2
    rw [d19]
    refine ⟨by omega, by omega, fun σ22 e22 => ?_⟩
    have d22 : σ22.1 (11, 0, 0) 12 = R := by rw [e22, s1_k (by simp)]; exact d19
    rw [d22]
    refine ⟨by omega, by omega, fun σ25 e25 => ?_⟩
    have d25 : σ25.1 (11, 0, 0) 12 = R := by rw [e25, s1_k (by simp)]; exact d22
    rw [d25]
    refine ⟨by omega, by omega, fun σ28 e28 => ?_⟩
    have d28 : σ28.1 (11, 0, 0) 12 = R := by rw [e28, s1_k (by simp)]; exact d25
    rw [d28]
    refine ⟨by omega, by omega, fun σ31 e31 => ?_⟩
    have d31 : σ31.1 (11, 0, 0) 12 = R := by rw [e31, s1_k (by simp)]; exact d28
    rw [d31]
    refine ⟨by omega, by omega, fun σ34 e34 => ?_⟩
    have d34 : σ34.1 (11, 0, 0) 12 = R := by rw [e34, s1_k (by simp)]; exact d31
    rw [d34]
    refine ⟨by omega, by omega, fun σ37 e37 σ40 e40 => ?_⟩
    have d37 : σ37.1 (11, 0, 0) 12 = R := by rw [e37, s1_k (by simp)]; exact d34
    rw [d37] at e40
    simp only [Int.toNat_natCast] at e19 e22 e25 e28 e31 e34 e37
    have d40 : σ40.1 (11, 0, 0) 12 = ((R + 1 : Nat) : Int) := by rw [e40, s1_at]; rfl
    have f2 : σ40.2 = σ1.2 := by rw [e40, s1_2, e37, s1_2, e34, s1_2, e31, s1_2, e28, s1_2, e25, s1_2, e22, s1_2, e19, s1_2]
    have fk : ∀ κ : nKey, κ ≠ (11, 0, 0) → (∀ k, 1 ≤ k → k < 8 → κ ≠ (12, k, 0)) → σ40.1 κ = σ1.1 κ := fun κ h1 h2 => by
      rw [e40, s1_k h1, e37, s1_k (h2 7 (by omega) (by omega)), e34, s1_k (h2 6 (by omega) (by omega)), e31, s1_k (h2 5 (by omega) (by omega)), e28, s1_k (h2 4 (by omega) (by omega)), e25, s1_k (h2 3 (by omega) (by omega)), e22, s1_k (h2 2 (by omega) (by omega)), e19, s1_k (h2 1 (by omega) (by omega))]
    have fi : ∀ k i, i ≠ R → σ40.1 (12, k, 0) i = σ1.1 (12, k, 0) i := fun k i hi => by
      rw [e40, s1_k (by simp), e37, s1_i hi, e34, s1_i hi, e31, s1_i hi, e28, s1_i hi, e25, s1_i hi, e22, s1_i hi, e19, s1_i hi]
    have f11 : ∀ i, i ≠ 12 → σ40.1 (11, 0, 0) i = σ1.1 (11, 0, 0) i := fun i hi => by
      rw [e40, s1_i hi, e37, s1_k (by simp), e34, s1_k (by simp), e31, s1_k (by simp), e28, s1_k (by simp), e25, s1_k (by simp), e22, s1_k (by simp), e19, s1_k (by simp)]
    have w1 : σ40.1 (12, 1, 0) R = v1 := by rw [e40, s1_k (by simp), e37, s1_k (by simp), e34, s1_k (by simp), e31, s1_k (by simp), e28, s1_k (by simp), e25, s1_k (by simp), e22, s1_k (by simp), e19, s1_at]
    have w2 : σ40.1 (12, 2, 0) R = v2 := by rw [e40, s1_k (by simp), e37, s1_k (by simp), e34, s1_k (by simp), e31, s1_k (by simp), e28, s1_k (by simp), e25, s1_k (by simp), e22, s1_at]
    have w3 : σ40.1 (12, 3, 0) R = v3 := by rw [e40, s1_k (by simp), e37, s1_k (by simp), e34, s1_k (by simp), e31, s1_k (by simp), e28, s1_k (by simp), e25, s1_at]
    have w4 : σ40.1 (12, 4, 0) R = v4 := by rw [e40, s1_k (by simp), e37, s1_k (by simp), e34, s1_k (by simp), e31, s1_k (by simp), e28, s1_at]
    have w5 : σ40.1 (12, 5, 0) R = v5 := by rw [e40, s1_k (by simp), e37, s1_k (by simp), e34, s1_k (by simp), e31, s1_at]
    have w6 : σ40.1 (12, 6, 0) R = v1 := by rw [e40, s1_k (by simp), e37, s1_k (by simp), e34, s1_at]
    have w7 : σ40.1 (12, 7, 0) R = v3 := by rw [e40, s1_k (by simp), e37, s1_at]
    obtain ⟨z8, z9, z10⟩ := hZ.1 R (Nat.le_refl _) (by omega)
    have t0 : σ40.1 (12, 0, 0) = σ.1 (12, 0, 0) := by rw [fk _ (by simp) (fun k h1 h2 => by simp; omega), gk _ (by simp) (by simp) (by simp) (by simp)]
    have tk : ∀ k, 8 ≤ k → σ40.1 (12, k, 0) = σ.1 (12, k, 0) := fun k hk => by rw [fk _ (by simp) (fun k' h1 h2 => by simp; omega), gk _ (by simp) (by simp) (by simp) (by simp)]
    have ti : ∀ k i, i ≠ R → σ40.1 (12, k, 0) i = σ.1 (12, k, 0) i := fun k i hi => by rw [fi k i hi, gk _ (by simp) (by simp) (by simp) (by simp)]
    have t6 : ∀ r, r ≠ R → σ40.1 (6, r, 0) = σ.1 (6, r, 0) := fun r hr => by rw [fk _ (by simp) (fun k h1 h2 => by simp), gk _ (by simp; exact hr) (by simp) (by simp) (by simp)]
    have t7 : ∀ r, r ≠ R → σ40.1 (7, r, 0) = σ.1 (7, r, 0) := fun r hr => by rw [fk _ (by simp) (fun k h1 h2 => by simp), gk _ (by simp) (by simp; exact hr) (by simp) (by simp)]
    have t8 : ∀ r, σ40.1 (8, r, 0) = σ.1 (8, r, 0) := fun r => by rw [fk _ (by simp) (fun k h1 h2 => by simp), gk _ (by simp) (by simp) (by simp) (by simp)]
    have t10 : ∀ r, σ40.1 (10, r, 0) = σ.1 (10, r, 0) := fun r => by rw [fk _ (by simp) (fun k h1 h2 => by simp), gk _ (by simp) (by simp) (by simp) (by simp)]
    have t1 : σ40.1 (1, 0, 0) = σ.1 (1, 0, 0) := by rw [fk _ (by simp) (fun k h1 h2 => by simp), gk _ (by simp) (by simp) (by simp) (by simp)]
    have t00 : σ40.1 (0, 0, 0) = σ1.1 (0, 0, 0) := fk _ (by simp) (fun k h1 h2 => by simp)
    have T2 : ∀ κ j, σ40.2 κ j = if κ = (2, 0, 0) ∧ j = R then some R else σ.2 κ j := fun κ j => by rw [f2]; exact g2 κ j
    have T3 : ∀ j, σ40.2 (3, 0, 0) j = σ.2 (3, 0, 0) j := fun j => by rw [T2]; simp
    have T9 : ∀ c j, σ40.2 (9, c, 0) j = σ.2 (9, c, 0) j := fun c j => by rw [T2]; simp
    have hKin : ∀ κ, κ ∈ K' ↔ (κ ∈ K ∨ κ = (6, R, 0) ∨ κ = (7, R, 0)) := fun κ => by rw [eK', eK2]; simp [or_assoc]
    refine ⟨by rw [r27, d40]; exact w_cong (by omega), P, R + 1, C, ?_, fun i hi => ?_, fun r hr => ?_, fun c hc => ?_, ⟨⟨fun j q hq => ?_, fun j q hq => ?_, fun c j q hc hq => ?_⟩, fun q hq => ?_, fun q hq => ?_, fun q hq => ?_, fun q hq => ?_⟩, ⟨fun r hr hr6 => ?_, fun c hc => ?_⟩, fun c hc i hi => ?_, ?_, ?_⟩
    · unfold AI at hA ⊢
      rw [t00, f11 1 (by decide), f11 13 (by decide), f11 20 (by decide), f11 21 (by decide), g11 1 (by decide), g11 13 (by decide), g11 20 (by decide), g11 21 (by decide), g0 5 (by decide), g0 7 (by decide), g0 8 (by decide), g0 9 (by decide), d40, g06]
      exact ⟨⟨a1, rfl, a1''⟩, ⟨p8, by omega, c40⟩, ⟨a3, rfl, a3''⟩, a4, a7⟩
    · rw [t1, t0]; exact hB i hi
    · by_cases e : r = R
      · subst e
        refine ⟨⟨by rw [T2]; simp, by rw [hKin]; simp⟩, ?_, fun x hx hx8 => by rw [w2]; exact hbt x (by omega) hx8, by rw [w3]; omega, by rw [w4]; omega, by rw [w6]; omega, by rw [w7]; omega, by rw [tk 8 (by omega), z8]; simp, ?_⟩
        · rw [fk (6, r, 0) (by simp) (fun k h1 h2 => by simp), g6, w1, w2, w3, w4, w5, w6, w7, tk 8 (by omega), tk 9 (by omega), tk 10 (by omega), z8, z9, z10]
          exact ⟨rfl, rfl, rfl, rfl, rfl, rfl, rfl, rfl, rfl, rfl⟩
        · rw [w2, t0]
          intro x y hx hy
          rw [fk (7, r, 0) (by simp) (fun k h1 h2 => by simp), g7 x y hx hy, fl_cong (D := eE v2 (σ.1 (1, 0, 0))) (D' := eE v2 (σ.1 (12, 0, 0))) (fun x y hx hy => hB.roads hx hy v2) 8 (Nat.le_refl _) x y hx hy]
      · have := hR r (by omega)
        unfold RI Mat at this ⊢
        rw [T2, t6 r e, t7 r e, ti 1 r e, ti 2 r e, ti 3 r e, ti 4 r e, ti 5 r e, ti 6 r e, ti 7 r e, ti 8 r e, ti 9 r e, ti 10 r e, t0, hKin, if_neg (by simp; exact e)]
        exact ⟨⟨this.1.1, Or.inl this.1.2⟩, this.2⟩
    · have := hC c hc
      unfold CI LM at this ⊢
      rw [T3, t8, tk 11 (by omega), tk 12 (by omega), tk 13 (by omega), tk 14 (by omega), tk 15 (by omega), tk 16 (by omega), tk 18 (by omega), hKin]
      exact ⟨⟨this.1.1, Or.inl this.1.2⟩, this.2⟩
    · rw [T2] at hq
      rw [hKin]
      by_cases e : j = R
      · rw [if_pos ⟨rfl, e⟩] at hq; cases hq; simp
      · rw [if_neg (by simp; exact e)] at hq; exact Or.inl (hKI.1.1 j q hq)
    · rw [T3] at hq; rw [hKin]; exact Or.inl (hKI.1.2.1 j q hq)
    · rw [T9] at hq; rw [hKin] at hc ⊢
      exact Or.inl (hKI.1.2.2 c j q (by
        rcases hc with h | h | h
        · exact h
        · simp at h
        · simp at h) hq)
    · rw [hKin] at hq
      rcases hq with h | h | h
      · exact Nat.lt_succ_of_lt (hKI.2.1 q h)
      · simp at h; rw [h]; exact Nat.lt_succ_self R
      · simp at h
    · rw [hKin] at hq
      rcases hq with h | h | h
      · exact Nat.lt_succ_of_lt (hKI.2.2.1 q h)
      · simp at h
      · simp at h; rw [h]; exact Nat.lt_succ_self R
    · rw [hKin] at hq
      rcases hq with h | h | h
      · exact hKI.2.2.2.1 q h
      · simp at h
      · simp at h
    · rw [hKin] at hq
      rcases hq with h | h | h
      · exact hKI.2.2.2.2 q h
      · simp at h
      · simp at h
    · rw [tk 8 (by omega), tk 9 (by omega), tk 10 (by omega)]; exact hZ.1 r (by omega) hr6
    · unfold LM
      rw [tk 16 (by omega), tk 18 (by omega)]; exact hZ.2 c hc
    · unfold LM at hi
      rw [tk 18 (by omega)] at hi
      obtain ⟨n, n1, n2, n3⟩ := hL c hc i hi
      refine ⟨n, by rw [T9]; exact n1, by rw [hKin]; exact Or.inl n2, ?_⟩
      have n3 := n3.mono (Nat.le_refl P) (show R ≤ R + 1 by omega)
      unfold LI ML at n3 ⊢
      rw [t10, tk 17 (by omega)]; exact n3
    · unfold LD LM at hD ⊢
      simp only [T9]
      rw [tk 18 (by omega)]; exact hD
    · intro l hl
      rw [f11 21 (by decide), g11 21 (by decide)] at hl
      have := hT l hl
      have hnf : nF4 σ40 (R + 1) = nF4 σ R := by
        unfold nF4
        rw [tk 8 (by omega)]
        show cu _ R + (if decide (σ.1 (12, 8, 0) R = 1) = true then 1 else 0) = _
        rw [z8]; simp
      unfold ML LM at this ⊢
      rw [hnf, tk 8 (by omega), tk 17 (by omega), tk 18 (by omega)]; exact this
  · rw [w_of i5, w0 (x := 0) (by decide) (by decide), w0 (x := 15) (by decide) (by decide)]; omega
  · rw [w_of i4, w_of i3, w0 (x := 4319) (by decide) (by decide)]; omega
  · rw [w_of i3, w0 (x := 0) (by decide) (by decide), w0 (x := 4319) (by decide) (by decide)]; omega
  · rw [d, hsh.2, w_of i2, w0 (x := 0) (by decide) (by decide), w0 (x := ((2 ^ P : Nat) : Int) - 1) (by omega) (by omega)]
    rw [hsh.1] at q2; omega
