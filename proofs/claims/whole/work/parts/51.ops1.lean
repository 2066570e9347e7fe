theorem scr24 : Scr (11, 0, 0) 24 := Or.inr (Or.inr (Or.inr (Or.inl ⟨rfl, Or.inl rfl⟩)))
theorem ok_rest : OK_rest Inv := by
  intro K σ v1 hKC hKS h13 i1 hI
  obtain ⟨P, R, C, h⟩ := hI
  obtain ⟨hA, hrest⟩ := id h
  obtain ⟨a1, a2, a3, ⟨a4, a5, a6⟩, a7⟩ := id hA
  unfold P_X4_rest
  rw [w_of i1]
  have bad : ¬ (0 ≤ v1 ∧ v1 ≤ 600) → P_X5_rest K σ v1 (fun r2 σ2 => w (-1) = w r2 ∧ Inv K σ2) := fun hn => by
    intro σ1 e1
    refine x5_in (br10 (fun hc => absurd ?_ hn) (fun _ => ⟨rfl, P, R, C, h.eqv (by rw [e1]; exact Eqv.s1 scr24)⟩))
    rw [w_of i1, w0 (x := 0) (by decide) (by decide), w0 (x := 600) (by decide) (by decide)] at hc
    exact hc
  refine ⟨fun h1 => bad (by omega), fun h1 => ⟨fun h2 x3 e3 σ4 e4 => ?_, fun h2 => bad (by omega)⟩⟩
  intro σ1 e1
  refine x5_in (br10 (fun hc x5 e5 σ6 e6 => ?_) (fun hc => absurd ?_ hc))
  · refine ⟨?_, P, R, C, ?_⟩
    · rw [e3, e5, e1, s1_i (by decide), e4, s1_k (by simp), a4]
    · have g0 : ∀ i, i ≠ 8 → σ6.1 (0, 0, 0) i = σ.1 (0, 0, 0) i := fun i hi => by rw [e6, s1_k (by simp), e1, s1_k (by simp), e4, s1_i hi]
      have g11 : ∀ i, i ≠ 13 → i ≠ 24 → σ6.1 (11, 0, 0) i = σ.1 (11, 0, 0) i := fun i h1 h2 => by rw [e6, s1_i h1, e1, s1_i h2, e4, s1_k (by simp)]
      have gk : ∀ a b c, a ≠ 0 → a ≠ 11 → σ6.1 (a, b, c) = σ.1 (a, b, c) := fun a b c h1 h2 => by rw [e6, s1_k (by simp [h2]), e1, s1_k (by simp [h2]), e4, s1_k (by simp [h1])]
      have g2 : σ6.2 = σ.2 := by rw [e6, s1_2, e1, s1_2, e4, s1_2]
      have n8 : σ6.1 (0, 0, 0) 8 = v1 := by rw [e6, s1_k (by simp), e1, s1_k (by simp), e4, s1_at]
      have n13 : σ6.1 (11, 0, 0) 13 = v1 := by rw [e6, s1_at]
      refine ⟨?_, ?_⟩
      · unfold AI at hA ⊢
        rw [g11 1 (by decide) (by decide), g11 12 (by decide) (by decide), g11 20 (by decide) (by decide), g11 21 (by decide) (by decide), g0 5 (by decide), g0 6 (by decide), g0 7 (by decide), g0 9 (by decide), n8, n13]
        exact ⟨a1, a2, a3, ⟨rfl, h1, h2⟩, a7⟩
      · unfold BI RI CI KI CLs ZI LA LD TL LI nF4 Mat ML LM at hrest ⊢
        rw [g2]
        simp only [gk 1 0 0 (by decide) (by decide), gk 12 _ 0 (by decide) (by decide), gk 6 _ 0 (by decide) (by decide), gk 7 _ 0 (by decide) (by decide), gk 8 _ 0 (by decide) (by decide), gk 10 _ 0 (by decide) (by decide), g11 21 (by decide) (by decide)]
        exact hrest
  · rw [w_of i1, w0 (x := 0) (by decide) (by decide), w0 (x := 600) (by decide) (by decide)]
    exact ⟨h1, h2⟩
theorem RI.mono {K : List nKey} {σ : nS} {P P' r : Nat} (hP : P ≤ P') (h : RI K σ P r) : RI K σ P' r := by
  obtain ⟨h0, h1, h2, h3, h4, h5, h6, h7, h8⟩ := h
  exact ⟨h0, h1, fun x hx => h2 x (by omega), h3, h4, ⟨h5.1, by omega⟩, h6, h7, h8⟩
theorem CI.mono {K : List nKey} {σ : nS} {P P' c : Nat} (hP : P ≤ P') (h : CI K σ P c) : CI K σ P' c := by
  obtain ⟨h0, h1, h2, h3, h4⟩ := h
  exact ⟨h0, h1, ⟨h2.1, by omega⟩, ⟨h3.1, by omega⟩, h4⟩
theorem LI.mono {σ : nS} {P P' R R' c i n : Nat} (hP : P ≤ P') (hR : R ≤ R') (h : LI σ P R c i n) : LI σ P' R' c i n := by
  obtain ⟨h0, h1, h2, h3, h4, h5, h6⟩ := h
  exact ⟨h0, ⟨h1.1, by omega⟩, ⟨h2.1, by omega⟩, h3, h4, ⟨h5.1, by omega⟩, h6⟩
theorem ok_place : OK_place Inv := by
  intro K σ hKC hKS h13 hI
  obtain ⟨P, R, C, h⟩ := hI
  obtain ⟨hA, hrest⟩ := id h
  obtain ⟨⟨a1, a1', a1''⟩, a2, ⟨a3, a3'⟩, a4, a7⟩ := id hA
  unfold P_X4_place
  rw [a3, w0 (x := (P : Int)) (by omega) (by omega)]
  refine ⟨fun h1 σ2 e2 => ?_, fun h1 => ?_⟩
  · intro σ1 e1
    have b1 : σ1.1 (11, 0, 0) 1 = P := by rw [e1, s1_i (by decide), e2, s1_k (by simp), a1]
    rw [b1, w0 (x := (P : Int)) (by omega) (by omega)]
    refine ⟨fun h2 σ3 e3 => ?_, fun h2 => absurd h2 (by omega)⟩
    have g0 : ∀ i, i ≠ 5 → σ3.1 (0, 0, 0) i = σ.1 (0, 0, 0) i := fun i hi => by rw [e3, s1_k (by simp), e1, s1_k (by simp), e2, s1_i hi]
    have g11 : ∀ i, i ≠ 1 → i ≠ 24 → σ3.1 (11, 0, 0) i = σ.1 (11, 0, 0) i := fun i h1 h2 => by rw [e3, s1_i h1, e1, s1_i h2, e2, s1_k (by simp)]
    have gk : ∀ a b c, a ≠ 0 → a ≠ 11 → σ3.1 (a, b, c) = σ.1 (a, b, c) := fun a b c h1 h2 => by rw [e3, s1_k (by simp [h2]), e1, s1_k (by simp [h2]), e2, s1_k (by simp [h1])]
    have g2 : σ3.2 = σ.2 := by rw [e3, s1_2, e1, s1_2, e2, s1_2]
    have n5 : σ3.1 (0, 0, 0) 5 = ((P + 1 : Nat) : Int) := by rw [e3, s1_k (by simp), e1, s1_k (by simp), e2, s1_at]; rfl
    have n1 : σ3.1 (11, 0, 0) 1 = ((P + 1 : Nat) : Int) := by rw [e3, s1_at]; rfl
    refine ⟨by rw [n1, e2, s1_at]; rfl, P + 1, R, C, ?_, ?_⟩
    · unfold AI at hA ⊢
      rw [g11 12 (by decide) (by decide), g11 13 (by decide) (by decide), g11 20 (by decide) (by decide), g11 21 (by decide) (by decide), g0 8 (by decide), g0 6 (by decide), g0 7 (by decide), g0 9 (by decide), n5, n1]
      exact ⟨⟨rfl, a1', a1''⟩, ⟨by omega, a2.2⟩, ⟨rfl, a3'⟩, a4, a7⟩
    · obtain ⟨hB, hR, hC, hK, hZ, hL, hD, hT⟩ := hrest
      have hrest' : BI σ ∧ (∀ r, r < R → RI K σ (P + 1) r) ∧ (∀ c, c < C → CI K σ (P + 1) c) ∧ KI K σ R C ∧ ZI σ R C ∧ LA K σ (P + 1) R C ∧ LD σ C ∧ TL σ R := ⟨hB, fun r hr => (hR r hr).mono (by omega), fun c hc => (hC c hc).mono (by omega), hK, hZ, fun c hc i hi => by
        obtain ⟨n, q1, q2, q3⟩ := hL c hc i hi
        exact ⟨n, q1, q2, q3.mono (by omega) (Nat.le_refl _)⟩, hD, hT⟩
      clear hB hR hC hK hZ hL hD hT
      unfold BI RI CI KI CLs ZI LA LD TL LI nF4 Mat ML LM at hrest' ⊢
      rw [g2]
      simp only [gk 1 0 0 (by decide) (by decide), gk 12 _ 0 (by decide) (by decide), gk 6 _ 0 (by decide) (by decide), gk 7 _ 0 (by decide) (by decide), gk 8 _ 0 (by decide) (by decide), gk 10 _ 0 (by decide) (by decide), g11 21 (by decide) (by decide)]
      exact hrest'
  · intro σ1 e1
    have b1 : σ1.1 (11, 0, 0) 1 = P := by rw [e1, s1_i (by decide), a1]
    rw [b1, w0 (x := (P : Int)) (by omega) (by omega)]
    exact ⟨fun h2 => absurd h2 (by omega), fun _ => ⟨rfl, P, R, C, h.eqv (by rw [e1]; exact Eqv.s1 scr24)⟩⟩
theorem ok_way : OK_way Inv := by
  intro K σ v1 v2 v3 hKC hKS h13 i1 i2 i3 hI
  obtain ⟨P, R, C, h⟩ := hI
  have hA := h.1
  obtain ⟨⟨a1, a1', a1''⟩, ⟨p8, r6, c40⟩, ⟨a3, a3', a3''⟩, a4, a7⟩ := id hA
  have hbad : ∀ σ1, Eqv σ σ1 → ¬ ((0 ≤ v1 ∧ v1 < R) ∧ (0 ≤ v2 ∧ v2 < P) ∧ (0 ≤ v3 ∧ v3 < P)) → P_X5_way K σ1 v1 v2 v3 (fun r2 σ2 => w (-1) = w r2 ∧ Inv K σ2) := fun σ1 e1 hn => by
    intro σ2 e2
    have e : Eqv σ σ2 := e1.tr (by rw [e2]; exact Eqv.s1 scr24)
    have hI2 : Inv K σ2 := ⟨P, R, C, h.eqv e⟩
    have b1 : σ2.1 (11, 0, 0) 1 = P := (e.k11 (by decide) (by decide)).trans a1
    have b2 : σ2.1 (11, 0, 0) 12 = R := (e.k11 (by decide) (by decide)).trans a1'
    refine x5_isRider i1 (by omega) (br01 (fun h1 => x5_isPlace i2 (by omega) (br01 (fun h2 => x5_isPlace i3 (by omega) (br10 (fun h3 => absurd ?_ hn) (fun _ => ⟨rfl, hI2⟩))) (fun _ => ⟨rfl, hI2⟩))) (fun _ => ⟨rfl, hI2⟩))
    rw [b2] at h1
    rw [b1] at h2 h3
    exact ⟨h1, h2, h3⟩
  unfold P_X4_way
  by_cases hr : 0 ≤ v1 ∧ v1 < R
  · obtain ⟨r, rfl⟩ : ∃ r : Nat, v1 = r := ⟨v1.toNat, by omega⟩
    obtain ⟨⟨hs2, hK⟩, -, -, -, -, -, -, -, hm⟩ := h.2.2.1 r (by omega)
    refine x4_riderAt a3' r6 (by omega) hs2 hK ⟨(fun e => by cases e), fun q3 e => ?_⟩
    cases e
    refine ⟨hK, ?_⟩
    by_cases hp : (0 ≤ v2 ∧ v2 < P) ∧ (0 ≤ v3 ∧ v3 < P)
    · obtain ⟨x, rfl⟩ : ∃ x : Nat, v2 = x := ⟨v2.toNat, by omega⟩
      obtain ⟨y, rfl⟩ : ∃ y : Nat, v3 = y := ⟨v3.toNat, by omega⟩
      refine x4_wayOf (F := dF σ r) a3 p8 (by omega) (by omega) hm ?_
      intro σ2 e2
      have e : Eqv σ σ2 := by rw [e2]; exact Eqv.s1 scr24
      have hI2 : Inv K σ2 := ⟨P, R, C, h.eqv e⟩
      have b1 : σ2.1 (11, 0, 0) 1 = P := (e.k11 (by decide) (by decide)).trans a1
      have b2 : σ2.1 (11, 0, 0) 12 = R := (e.k11 (by decide) (by decide)).trans a1'
      have hd := ((h.d5 0).eqv e).2.2.2.2 r (by omega)
      have FF := hd.2.2.2.2.2.1.1 x y (by omega) (by omega)
      refine x5_isRider i1 (by omega) (br01 (fun _ => x5_isPlace i2 (by omega) (br01 (fun _ => x5_isPlace i3 (by omega) (br10 (fun _ => ?_) (fun hn => absurd (by omega) hn))) (fun hn => absurd (by omega) hn))) (fun hn => absurd (by omega) hn))
      refine x5_wayOf hd.2.2.2.2.2.1 hd.2.2.2.2.1 p8 (by omega) (by omega) (by omega) hd.2.2.2.2.2.2 (fun σ3 o3 => ?_)
      have hI3 := hI2.eqv (o3.eqv (scr19 (by omega)))
      rw [w0 (x := dF σ r x y) (by omega) (by omega)]
      refine ⟨fun hf => ⟨by rw [enc_i hf], hI3⟩, fun hf => ⟨by rw [hf]; rfl, hI3⟩⟩
    · unfold P_X4_wayOf
      refine x4_isPlace i2 (by omega) (br01 (fun h2 => x4_isPlace i3 (by omega) (br01 (fun h3 => absurd ⟨by omega, by omega⟩ hp) (fun _ => hbad σ Eqv.rf (fun q => hp q.2)))) (fun _ => hbad σ Eqv.rf (fun q => hp q.2)))
  · exact x4_riderAt_no i1 a3' r6 hr ⟨fun _ => hbad σ Eqv.rf (fun q => hr q.1), fun q3 e => by cases e⟩
