theorem fl_cong {D D' : Nat → Nat → Int} (h : ∀ x y, x < 8 → y < 8 → D x y = D' x y) : ∀ n, n ≤ 8 → ∀ x y, x < 8 → y < 8 → fl n D x y = fl n D' x y := by
  intro n
  induction n with
  | zero => intro _ x y hx hy; exact h x y hx hy
  | succ n ih =>
    intro hn x y hx hy
    have i := ih (by omega)
    unfold fl fstep
    rw [i x y hx hy, i x n hx (by omega), i n y (by omega) hy]
theorem Mat.cong {σ : nS} {q : Nat} {D D' : Nat → Nat → Int} (h : ∀ x y, x < 8 → y < 8 → D x y = D' x y) (hm : Mat σ q (fl 8 D)) : Mat σ q (fl 8 D') := fun x y hx hy => by rw [hm x y hx hy, fl_cong h 8 (Nat.le_refl _) x y hx hy]
/-- nothing but ways change -/
def Only7 (σ σ' : nS) : Prop := σ'.2 = σ.2 ∧ ∀ κ : nKey, κ.1 ≠ 7 → σ'.1 κ = σ.1 κ
theorem x4_road61 {K : List nKey} {R : Nat} {k : Int → nS → Prop} {E : Nat → Nat → Nat → Int} (r6 : R ≤ 6) :
    ∀ (m j : Nat) (σ : nS), j + m = R → σ.1 (0, 0, 0) 6 = R → (∀ r, r < R → σ.2 (2, 0, 0) r = some r ∧ (6, r, 0) ∈ K ∧ ctx4 σ r (E r)) → (∀ r, r < j → Mat σ r (fl 8 (E r))) → (∀ σ', Only7 σ σ' → (∀ r, r < R → Mat σ' r (fl 8 (E r))) → k 1 σ') → P_X4_road_L61 K k (m + 1) (j : Int) σ := by
  intro m
  induction m with
  | zero =>
    intro j σ hj hR hr hm hk
    unfold P_X4_road_L61
    rw [hR, w0 (x := (R : Int)) (by omega) (by omega), w0 (x := (j : Int)) (by omega) (by omega)]
    exact ⟨fun _ => hk σ ⟨rfl, fun _ _ => rfl⟩ (fun r hr' => hm r (by omega)), fun h => absurd h (by omega)⟩
  | succ m ih =>
    intro j σ hj hR hr hm hk
    obtain ⟨h1, h2, h3⟩ := hr j (by omega)
    unfold P_X4_road_L61
    rw [hR, w0 (x := (R : Int)) (by omega) (by omega), w0 (x := (j : Int)) (by omega) (by omega)]
    refine ⟨fun h => absurd h (by omega), fun _ => x4_riderAt hR r6 (by omega) h1 h2 ⟨(fun e => by cases e), fun q4 e => ?_⟩⟩
    cases e
    refine ⟨h2, x4_settleWays h3 (fun σ6 o6 hm6 x7 ex => ?_)⟩
    subst ex
    have ho : Only7 σ σ6 := ⟨o6.1, fun κ hκ => o6.at (fun e => by rw [e] at hκ; exact hκ rfl)⟩
    refine ih (j + 1) σ6 (by omega) (by rw [ho.2 (0, 0, 0) (by decide)]; exact hR) (fun r hr' => ?_) (fun r hr' => ?_) (fun σ' o' h' => hk σ' ⟨o'.1.trans ho.1, fun κ hκ => (o'.2 κ hκ).trans (ho.2 κ hκ)⟩ h')
    · obtain ⟨g1, g2, g3⟩ := hr r hr'
      refine ⟨by rw [ho.1]; exact g1, g2, ?_⟩
      unfold ctx4 at g3 ⊢
      rw [ho.2 (0, 0, 0) (by decide), ho.2 (1, 0, 0) (by decide), ho.2 (6, r, 0) (by simp)]
      exact g3
    · by_cases e : r = j
      · rw [e]; exact hm6
      · intro x y hx hy
        rw [o6.2 (7, r, 0) _ (by simp; omega)]
        exact hm r (by omega) x y hx hy
theorem ok_road : OK_road Inv := by
  intro K σ v1 v2 v3 hKC hKS h13 i1 i2 i3 hI
  obtain ⟨P, R, C, h⟩ := hI
  obtain ⟨hA, hB, hR, hC, hKI, hZ, hL, hD, hT⟩ := id h
  obtain ⟨⟨a1, a1', a1''⟩, ⟨p8, r6, c40⟩, ⟨a3, a3', a3''⟩, a4, a7⟩ := id hA
  have bad : ¬ ((0 ≤ v1 ∧ v1 < P) ∧ (0 ≤ v2 ∧ v2 < P) ∧ v1 ≠ v2 ∧ (0 ≤ v3 ∧ v3 ≤ 600)) → P_X5_road K σ v1 v2 v3 (fun r2 σ2 => w 0 = w r2 ∧ Inv K σ2) := fun hn => by
    intro σ1 e1
    have e : Eqv σ σ1 := by rw [e1]; exact Eqv.s1 scr24
    have hI1 : Inv K σ1 := ⟨P, R, C, h.eqv e⟩
    have d : σ1.1 (11, 0, 0) 1 = P := (e.k11 (by decide) (by decide)).trans a1
    refine x5_isPlace i1 (by omega) (br01 (fun q1 => x5_isPlace i2 (by omega) (br01 (fun q2 => ⟨fun _ => ⟨rfl, hI1⟩, fun q3 => x5_in (br10 (fun q4 => absurd ⟨by omega, by omega, ?_, ?_⟩ hn) (fun _ => ⟨rfl, hI1⟩))⟩) (fun _ => ⟨rfl, hI1⟩))) (fun _ => ⟨rfl, hI1⟩))
    · rw [w_of i1, w_of i2] at q3; exact q3
    · rw [w_of i3, w0 (x := 0) (by decide) (by decide), w0 (x := 600) (by decide) (by decide)] at q4; exact q4
  unfold P_X4_road
  refine x4_isPlace i1 (by omega) (br01 (fun q1 => x4_isPlace i2 (by omega) (br01 (fun q2 => ?_) (fun q2 => bad (fun z => q2 (by omega))))) (fun q1 => bad (fun z => q1 (by omega))))
  rw [w_of i1, w_of i2, w_of i3]
  refine ⟨fun q3 => bad (fun z => z.2.2.1 q3), fun q3 => ⟨fun q4 => bad (fun z => by omega), fun q4 => ⟨fun q5 => ?_, fun q5 => bad (fun z => by omega)⟩⟩⟩
  obtain ⟨a, rfl⟩ : ∃ a : Nat, v1 = a := ⟨v1.toNat, by omega⟩
  obtain ⟨b, rfl⟩ : ∃ b : Nat, v2 = b := ⟨v2.toNat, by omega⟩
  rw [tn8', tn8']
  refine ⟨by omega, by omega, fun σ17 e17 => ⟨by omega, by omega, fun σ20 e20 => ⟨R + 1, ?_⟩⟩⟩
  have g2 : σ20.2 = σ.2 := by rw [e20, s1_2, e17, s1_2]
  have gk : ∀ κ : nKey, κ ≠ (1, 0, 0) → σ20.1 κ = σ.1 κ := fun κ hκ => by rw [e20, s1_k hκ, e17, s1_k hκ]
  have g1 : ∀ i, σ20.1 (1, 0, 0) i = if i = 8 * b + a then v3 else if i = 8 * a + b then v3 else σ.1 (1, 0, 0) i := fun i => by
    rw [e20, s1_1, e17, s1_1]; simp
  have hr1 : ∀ i, i < 64 → 0 ≤ σ20.1 (1, 0, 0) i ∧ σ20.1 (1, 0, 0) i ≤ 600 := fun i hi => by
    have := hB i hi
    rw [g1]; split
    · omega
    · split <;> omega
  refine x4_road61 (E := fun r => eE (σ20.1 (6, r, 0) 1) (σ20.1 (1, 0, 0))) r6 R 0 σ20 (by omega) (by rw [gk _ (by decide)]; exact a3') (fun r hr => ?_) (fun r hr => absurd hr (Nat.not_lt_zero r)) (fun σ' o' hm' => ?_)
  · obtain ⟨⟨hs2, hK⟩, ⟨b0, b1, -⟩, hbt, -⟩ := hR r hr
    refine ⟨by rw [g2]; exact hs2, hK, by rw [gk _ (by decide)]; omega, hr1, fun x hx hx8 => ?_, rfl⟩
    rw [gk (6, r, 0) (by simp), b1]
    rw [gk _ (by decide)] at hx
    exact hbt x (by omega) hx8
  · intro σ1 e1
    have d : σ1.1 (11, 0, 0) 1 = P := by rw [e1, s1_i (by decide), o'.2 _ (by decide), gk _ (by decide)]; exact a1
    refine x5_isPlace i1 (by omega) (br01 (fun _ => x5_isPlace i2 (by omega) (br01 (fun _ => ⟨fun q => ?_, fun q => x5_in (br10 (fun _ => ⟨by omega, by omega, fun σ12 e12 => ⟨by omega, by omega, fun σ15 e15 => ⟨rfl, P, R, C, ?_⟩⟩⟩) (fun q4 => absurd ?_ q4))⟩) (fun q => absurd (by omega) q))) (fun q => absurd (by omega) q))
    · rw [w_of i1, w_of i2] at q; exact absurd q q3
    · rw [tn8] at e12 e15
      have f2 : σ15.2 = σ.2 := by rw [e15, s1_2, e12, s1_2, e1, s1_2, o'.1, g2]
      have fk : ∀ κ : nKey, κ ≠ (1, 0, 0) → κ ≠ (12, 0, 0) → κ.1 ≠ 7 → κ ≠ (11, 0, 0) → σ15.1 κ = σ.1 κ := fun κ h1 h2 h3 h4 => by rw [e15, s1_k h2, e12, s1_k h2, e1, s1_k h4, o'.2 κ h3, gk κ h1]
      have f11 : ∀ i, i ≠ 24 → σ15.1 (11, 0, 0) i = σ.1 (11, 0, 0) i := fun i hi => by rw [e15, s1_k (by simp), e12, s1_k (by simp), e1, s1_i hi, o'.2 _ (by decide), gk _ (by decide)]
      have f12 : ∀ i, σ15.1 (12, 0, 0) i = if i = 8 * b + a then v3 else if i = 8 * a + b then v3 else σ.1 (12, 0, 0) i := fun i => by
        rw [e15, s1_1, e12, s1_1, e1, s1_k (by simp), o'.2 _ (by decide), gk _ (by decide)]; simp
      have f1 : σ15.1 (1, 0, 0) = σ20.1 (1, 0, 0) := by rw [e15, s1_k (by simp), e12, s1_k (by simp), e1, s1_k (by simp), o'.2 _ (by decide)]
      have hroad : ∀ i, i < 64 → σ15.1 (1, 0, 0) i = σ15.1 (12, 0, 0) i := fun i hi => by rw [f1, g1, f12, (hB i hi).1]
      have f7 : ∀ q, σ15.1 (7, q, 0) = σ'.1 (7, q, 0) := fun q => by rw [e15, s1_k (by simp), e12, s1_k (by simp), e1, s1_k (by simp)]
      have k6 : ∀ r, σ15.1 (6, r, 0) = σ.1 (6, r, 0) := fun r => fk _ (by simp) (by simp) (by simp) (by simp)
      have k8 : ∀ r, σ15.1 (8, r, 0) = σ.1 (8, r, 0) := fun r => fk _ (by simp) (by simp) (by simp) (by simp)
      have k10 : ∀ r, σ15.1 (10, r, 0) = σ.1 (10, r, 0) := fun r => fk _ (by simp) (by simp) (by simp) (by simp)
      have k12 : ∀ n, n ≠ 0 → σ15.1 (12, n, 0) = σ.1 (12, n, 0) := fun n hn => fk _ (by simp) (by simp; exact hn) (by simp) (by simp)
      refine ⟨?_, fun i hi => ⟨hroad i hi, ?_⟩, fun r hr => ?_, fun c hc => ?_, ?_, ?_, ?_, ?_, ?_⟩
      · unfold AI at hA ⊢
        rw [f11 1 (by decide), f11 12 (by decide), f11 13 (by decide), f11 20 (by decide), f11 21 (by decide), fk (0, 0, 0) (by simp) (by simp) (by simp) (by simp)]
        exact hA
      · rw [← hroad i hi, f1]; exact hr1 i hi
      · obtain ⟨h0, hf, h1, h2, h3, h4, h5, h6, h7⟩ := hR r hr
        unfold RI
        rw [f2, k6, k12 1 (by decide), k12 2 (by decide), k12 3 (by decide), k12 4 (by decide), k12 5 (by decide), k12 6 (by decide), k12 7 (by decide), k12 8 (by decide), k12 9 (by decide), k12 10 (by decide)]
        refine ⟨h0, hf, h1, h2, h3, h4, h5, h6, ?_⟩
        have := hm' r hr
        intro x y hx hy
        rw [f7, this x y hx hy, fl_cong (D := eE (σ20.1 (6, r, 0) 1) (σ20.1 (1, 0, 0))) (D' := eE (σ.1 (12, 2, 0) r) (σ15.1 (12, 0, 0))) (fun x y hx hy => ?_) 8 (Nat.le_refl _) x y hx hy]
        rw [gk (6, r, 0) (by simp), hf.2.1]
        unfold eE
        rw [← f1, hroad (8 * x + y) (by omega)]
      · have := hC c hc
        unfold CI LM at this ⊢
        rw [f2, k8, k12 11 (by decide), k12 12 (by decide), k12 13 (by decide), k12 14 (by decide), k12 15 (by decide), k12 16 (by decide), k12 18 (by decide)]
        exact this
      · unfold KI CLs at hKI ⊢; rw [f2]; exact hKI
      · unfold ZI LM at hZ ⊢
        rw [k12 8 (by decide), k12 9 (by decide), k12 10 (by decide), k12 16 (by decide), k12 18 (by decide)]; exact hZ
      · unfold LA LI ML LM at hL ⊢
        rw [f2, k12 17 (by decide), k12 18 (by decide)]
        simp only [k10]; exact hL
      · unfold LD LM at hD ⊢
        rw [f2, k12 18 (by decide)]; exact hD
      · unfold TL nF4 ML LM at hT ⊢
        rw [f11 21 (by decide), k12 8 (by decide), k12 17 (by decide), k12 18 (by decide)]; exact hT
    · rw [w_of i3, w0 (x := 0) (by decide) (by decide), w0 (x := 600) (by decide) (by decide)]; omega
