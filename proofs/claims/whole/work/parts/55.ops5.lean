theorem x4_requestAt {K : List nKey} {σ : nS} {c C : Nat} {k : Option Nat → nS → Prop} (hC : σ.1 (0, 0, 0) 7 = C) (hC4 : C ≤ 40) (hc : c < C) (hs : σ.2 (3, 0, 0) c = some c) (hK : (8, c, 0) ∈ K) (h : k (some c) σ) : P_X4_requestAt K σ (c : Int) k := by
  unfold P_X4_requestAt
  rw [hC, w0 (x := (c : Int)) (by omega) (by omega), w0 (x := (C : Int)) (by omega) (by omega)]
  simp only [Int.toNat_natCast]
  rw [hs]
  refine ⟨fun h => absurd h (by omega), fun _ => ⟨fun h => absurd h (by omega), fun _ => ⟨fun h => absurd h (by omega), fun _ => ⟨by omega, by omega, (fun h => by cases h), fun q6 e => ?_⟩⟩⟩⟩
  cases e
  exact ⟨hK, h⟩
theorem x4_requestAt_no {K : List nKey} {σ : nS} {v : Int} {C : Nat} {k : Option Nat → nS → Prop} (hv : iR v) (hC : σ.1 (0, 0, 0) 7 = C) (hC4 : C ≤ 40) (hn : ¬ (0 ≤ v ∧ v < C)) (h : k none σ) : P_X4_requestAt K σ v k := by
  unfold P_X4_requestAt
  rw [hC, w_of hv, w0 (x := (C : Int)) (by omega) (by omega)]
  exact ⟨fun _ => h, fun h0 => ⟨fun _ => h, fun h1 => absurd ⟨h0, h1⟩ hn⟩⟩
theorem x2_legAt {K : List nKey} {σ : nS} {q i n : Nat} {k : Option Nat → nS → Prop} (h18 : σ.1 (8, q, 0) 6 ≤ 18) (hi : (i : Int) < σ.1 (8, q, 0) 6) (hs : σ.2 (9, q, 0) i = some n) (hK : (10, n, 0) ∈ K) (h : k (some n) σ) : P_X2_legAt K σ q (i : Int) k := by
  unfold P_X2_legAt
  rw [w0 (x := (i : Int)) (by omega) (by omega), w0 (x := σ.1 (8, q, 0) 6) (by omega) (by omega)]
  simp only [Int.toNat_natCast]
  rw [hs]
  refine ⟨fun h => absurd h (by omega), fun _ => ⟨fun h => absurd h (by omega), fun _ => ⟨fun h => absurd h (by omega), fun _ => ⟨by omega, by omega, (fun h => by cases h), fun q6 e => ?_⟩⟩⟩⟩
  cases e
  exact ⟨hK, h⟩
theorem x2_legAt_no {K : List nKey} {σ : nS} {q : Nat} {v : Int} {k : Option Nat → nS → Prop} (hv : iR v) (h0 : 0 ≤ σ.1 (8, q, 0) 6) (h18 : σ.1 (8, q, 0) 6 ≤ 18) (hn : ¬ (0 ≤ v ∧ v < σ.1 (8, q, 0) 6)) (h : k none σ) : P_X2_legAt K σ q v k := by
  unfold P_X2_legAt
  rw [w_of hv, w0 (x := σ.1 (8, q, 0) 6) (by omega) (by omega)]
  exact ⟨fun _ => h, fun h0 => ⟨fun _ => h, fun h1 => absurd ⟨h0, h1⟩ hn⟩⟩
theorem x2_lastEnd {K : List nKey} {σ : nS} {q m n : Nat} {k : Int → nS → Prop} (hm : σ.1 (8, q, 0) 6 = m) (h1 : 1 ≤ m) (h18 : m ≤ 18) (hs : σ.2 (9, q, 0) (m - 1) = some n) (hK : (10, n, 0) ∈ K) (h : k (σ.1 (10, n, 0) 6) σ) : P_X2_lastEnd K σ q k := by
  unfold P_X2_lastEnd
  have e : σ.1 (8, q, 0) 6 - 1 = ((m - 1 : Nat) : Int) := by omega
  rw [e]
  refine x2_legAt (by omega) (by omega) hs hK ⟨(fun e => by cases e), fun q3 e => ?_⟩
  cases e
  exact ⟨hK, h⟩
theorem x2_lastEnd_no {K : List nKey} {σ : nS} {q : Nat} {k : Int → nS → Prop} (hm : σ.1 (8, q, 0) 6 = 0) (h : k (-1) σ) : P_X2_lastEnd K σ q k := by
  unfold P_X2_lastEnd
  exact x2_legAt_no ⟨by omega, by omega⟩ (by omega) (by omega) (by omega) ⟨fun _ => h, fun q3 e => by cases e⟩
theorem x5_endOf {K : List nKey} {σ : nS} {c m : Nat} {k : Int → nS → Prop} (hc : c < 40) (hm : LM σ c = m) (h1 : 1 ≤ m) (h18 : m ≤ 24) (h : k (ML σ c (m - 1) 4) σ) : P_X5_endOf K σ (c : Int) k := by
  unfold P_X5_endOf
  simp only [Int.toNat_natCast]
  unfold LM at hm
  rw [hm]
  refine ⟨by omega, by omega, by omega, by omega, ?_⟩
  rw [show (8 * (24 * (c : Int) + (m : Int) - 1) + 4).toNat = 8 * (24 * c + (m - 1)) + 4 by omega]
  exact h
/-- what is known of a call and of its last leg -/
theorem IV.call {K : List nKey} {σ : nS} {P R C : Nat} (h : IV K σ P R C) {c : Nat} (hc : c < C) : ∃ m : Nat, LM σ c = m ∧ m ≤ 18 ∧ σ.1 (8, c, 0) 6 = m ∧ (∀ i, i < m → ∃ n, σ.2 (9, c, 0) i = some n ∧ (10, n, 0) ∈ K ∧ LI σ P R c i n) ∧ ((σ.1 (12, 16, 0) c = 0 ∧ m = 0) ∨ ((σ.1 (12, 16, 0) c = 1 ∨ σ.1 (12, 16, 0) c = 2) ∧ 1 ≤ m)) := by
  obtain ⟨-, ⟨-, -, -, -, -, b6, -⟩, -, -, -, -, hs, h18⟩ := h.2.2.2.1 c hc
  have h0 : 0 ≤ LM σ c := by rcases hs with hs | hs <;> omega
  refine ⟨(LM σ c).toNat, by omega, by omega, by unfold LM at *; omega, fun i hi => h.2.2.2.2.2.2.1 c hc i (by omega), ?_⟩
  rcases hs with hs | hs
  · exact Or.inl ⟨hs.1, by omega⟩
  · exact Or.inr ⟨hs.1, by omega⟩
theorem IV.lend {K : List nKey} {σ : nS} {P R C : Nat} (h : IV K σ P R C) {c m : Nat} (hc : c < C) (hm : LM σ c = m) (h1 : 1 ≤ m) {k : Int → nS → Prop} (hk : k (ML σ c (m - 1) 4) σ) : P_X2_lastEnd K σ c k := by
  obtain ⟨m', e1, e2, e3, e4, -⟩ := h.call hc
  have : m' = m := by omega
  subst this
  obtain ⟨n, n1, n2, n3⟩ := e4 (m' - 1) (by omega)
  refine x2_lastEnd e3 h1 e2 n1 n2 ?_
  rw [n3.1.2.2.2.2.1]
  exact hk
abbrev cSent (σ : nS) (c : Nat) : Bool := decide (0 < σ.1 (12, 16, 0) c)
abbrev cLost (σ : nS) (c : Nat) : Bool := decide (σ.1 (12, 16, 0) c = 2)
abbrev cWarm (σ : nS) (c : Nat) : Bool := decide (σ.1 (12, 16, 0) c = 1 ∧ σ.1 (12, 15, 0) c < ML σ c ((LM σ c).toNat - 1) 4 - σ.1 (12, 14, 0) c)
theorem x4_counted {K : List nKey} {σ : nS} {P R C : Nat} {k : Int → nS → Prop} (h : IV K σ P R C) {v : Int} {p : Nat → Bool} (hp : (v = 3 ∧ p = cSent σ) ∨ (v = 4 ∧ p = cLost σ) ∨ (v = 5 ∧ p = cWarm σ)) {c : Nat} (hc : c < C) (hk : k (b2i (p c = true)) σ) : P_X4_isCounted K σ c v k := by
  obtain ⟨m, e1, e2, e3, e4, e5⟩ := h.call hc
  obtain ⟨-, ⟨b0, b1, b2, b3, b4, b6, b7, b8⟩, -, -, c14, c15, -, -⟩ := h.2.2.2.1 c hc
  have hst : σ.1 (12, 16, 0) c = 0 ∨ σ.1 (12, 16, 0) c = 1 ∨ σ.1 (12, 16, 0) c = 2 := by rcases e5 with e5 | e5 <;> omega
  unfold P_X4_isCounted
  rw [w0 (x := v) (by omega) (by omega), b7, b8]
  refine ⟨fun q => ⟨by split <;> simp, ?_⟩, fun q => ⟨by split <;> simp, ?_⟩, fun q q' => ?_⟩
  · have e : p = cSent σ := by rcases hp with ⟨-, e⟩ | ⟨e, -⟩ | ⟨e, -⟩; exact e; omega; omega
    rw [e] at hk
    split
    · rw [b2i_f (by simp; omega)] at hk; exact hk
    · rw [b2i_t (by simp; omega)] at hk; exact hk
  · have e : p = cLost σ := by rcases hp with ⟨e, -⟩ | ⟨-, e⟩ | ⟨e, -⟩; omega; exact e; omega
    rw [e] at hk
    split
    · rw [b2i_t (by simp; omega)] at hk; exact hk
    · rw [b2i_f (by simp; omega)] at hk; exact hk
  · have e : p = cWarm σ := by rcases hp with ⟨e, -⟩ | ⟨e, -⟩ | ⟨-, e⟩; omega; omega; exact e
    rw [e] at hk
    unfold P_X2_cameWarm
    rw [b7, b8]
    have no : ¬ σ.1 (12, 16, 0) c = 1 → k 0 σ := fun hn => by
      rw [b2i_f (by simp; omega)] at hk; exact hk
    rcases hst with hs | hs | hs
    · rw [hs]
      exact ⟨fun _ => ⟨Or.inl rfl, no (by omega)⟩, fun q => absurd (by decide) q⟩
    · rw [hs]
      refine ⟨fun q => absurd q (by decide), fun _ => ⟨fun q => absurd (by decide) q, fun _ => ?_⟩⟩
      have h1 : 1 ≤ m := by rcases e5 with e5 | e5 <;> omega
      obtain ⟨n, n1, n2, n3⟩ := e4 (m - 1) (by omega)
      have hr := n3.2.2.2.1
      refine h.lend hc e1 h1 ?_
      rw [b3, b4, w0 (x := σ.1 (12, 15, 0) c) (by omega) (by omega), w0 (x := ML σ c (m - 1) 4 - σ.1 (12, 14, 0) c) (by omega) (by omega)]
      have hm : (LM σ c).toNat - 1 = m - 1 := by omega
      refine ⟨fun q => ⟨Or.inl rfl, ?_⟩, fun q => ⟨Or.inr rfl, ?_⟩⟩
      · rw [b2i_f (by simp only [cWarm, decide_eq_true_eq, hm]; omega)] at hk; exact hk
      · rw [b2i_t (by simp only [cWarm, decide_eq_true_eq, hm]; omega)] at hk; exact hk
    · rw [hs]
      exact ⟨fun q => absurd q (by decide), fun _ => ⟨fun _ => ⟨Or.inl rfl, no (by omega)⟩, fun q => absurd q (by decide)⟩⟩
theorem x4_count4 {K : List nKey} {σ : nS} {P R C : Nat} {k : Int → nS → Prop} (h : IV K σ P R C) {v : Int} {p : Nat → Bool} (hp : (v = 3 ∧ p = cSent σ) ∨ (v = 4 ∧ p = cLost σ) ∨ (v = 5 ∧ p = cWarm σ)) :
    ∀ (f j : Nat) (acc : Int), j + f = C → k (acc + cntI p j f) σ → P_X4_countRequests_L4 K k v (f + 1) acc (j : Int) σ := by
  obtain ⟨a3, a3', a3''⟩ := h.1.2.2.1
  have c40 := h.1.2.1.2.2
  intro f
  induction f with
  | zero =>
    intro j acc hj hk
    unfold P_X4_countRequests_L4
    rw [a3'', w0 (x := (C : Int)) (by omega) (by omega), w0 (x := (j : Int)) (by omega) (by omega)]
    refine ⟨fun _ => ?_, fun h => absurd h (by omega)⟩
    simpa [cntI] using hk
  | succ f ih =>
    intro j acc hj hk
    obtain ⟨⟨hs2, hK⟩, -⟩ := h.2.2.2.1 j (by omega)
    unfold P_X4_countRequests_L4
    rw [a3'', w0 (x := (C : Int)) (by omega) (by omega), w0 (x := (j : Int)) (by omega) (by omega)]
    unfold cntI at hk
    refine ⟨fun h => absurd h (by omega), fun _ => x4_requestAt a3'' c40 (by omega) hs2 hK ⟨(fun e => by cases e), fun q4 e => ?_⟩⟩
    cases e
    refine ⟨hK, x4_counted h hp (by omega) (br01 (fun hc x10 e10 x11 e11 => ?_) (fun hc x9 e9 => ?_))⟩
    · subst e10; subst e11
      rw [if_pos hc] at hk
      refine ih (j + 1) (acc + 1) (by omega) ?_
      rw [show acc + 1 + cntI p (j + 1) f = acc + (1 + cntI p (j + 1) f) by omega]
      exact hk
    · subst e9
      rw [if_neg hc] at hk
      refine ih (j + 1) acc (by omega) ?_
      simpa using hk
theorem x5_count3 {K : List nKey} {σ : nS} {P R C : Nat} {k : Int → nS → Prop} (h : IV K σ P R C) :
    ∀ (f j : Nat) (acc : Int), j + f = C → k (acc + cntI (cSent σ) j f) σ → P_X5_count_L65 K k (f + 1) acc (j : Int) σ := by
  have a1 := h.1.1.2.2
  have c40 := h.1.2.1.2.2
  intro f
  induction f with
  | zero =>
    intro j acc hj hk
    unfold P_X5_count_L65
    rw [a1, w0 (x := (C : Int)) (by omega) (by omega), w0 (x := (j : Int)) (by omega) (by omega)]
    refine ⟨fun _ => ?_, fun h => absurd h (by omega)⟩
    simpa [cntI] using hk
  | succ f ih =>
    intro j acc hj hk
    obtain ⟨m, e1, e2, e3, e4, e5⟩ := h.call (c := j) (by omega)
    unfold P_X5_count_L65
    simp only [Int.toNat_natCast]
    rw [a1, w0 (x := (C : Int)) (by omega) (by omega), w0 (x := (j : Int)) (by omega) (by omega), w0 (x := σ.1 (12, 16, 0) j) (by omega) (by omega)]
    unfold cntI at hk
    refine ⟨fun h => absurd h (by omega), fun _ => ⟨by omega, by omega, fun q x27 ex => ?_, fun q x28 e28 x29 ex => ?_⟩⟩
    · subst ex
      rw [if_neg (by simp; omega)] at hk
      exact ih (j + 1) acc (by omega) (by simpa using hk)
    · subst e28; subst ex
      rw [if_pos (by simp; omega)] at hk
      refine ih (j + 1) (acc + 1) (by omega) ?_
      rw [show acc + 1 + cntI (cSent σ) (j + 1) f = acc + (1 + cntI (cSent σ) (j + 1) f) by omega]
      exact hk
theorem x5_count4 {K : List nKey} {σ : nS} {P R C : Nat} {k : Int → nS → Prop} (h : IV K σ P R C) :
    ∀ (f j : Nat) (acc : Int), j + f = C → k (acc + cntI (cLost σ) j f) σ → P_X5_count_L95 K k (f + 1) acc (j : Int) σ := by
  have a1 := h.1.1.2.2
  have c40 := h.1.2.1.2.2
  intro f
  induction f with
  | zero =>
    intro j acc hj hk
    unfold P_X5_count_L95
    rw [a1, w0 (x := (C : Int)) (by omega) (by omega), w0 (x := (j : Int)) (by omega) (by omega)]
    refine ⟨fun _ => ?_, fun h => absurd h (by omega)⟩
    simpa [cntI] using hk
  | succ f ih =>
    intro j acc hj hk
    obtain ⟨m, e1, e2, e3, e4, e5⟩ := h.call (c := j) (by omega)
    unfold P_X5_count_L95
    simp only [Int.toNat_natCast]
    rw [a1, w0 (x := (C : Int)) (by omega) (by omega), w0 (x := (j : Int)) (by omega) (by omega), w0 (x := σ.1 (12, 16, 0) j) (by omega) (by omega)]
    unfold cntI at hk
    refine ⟨fun h => absurd h (by omega), fun _ => ⟨by omega, by omega, fun q x27 ex => ?_, fun q x28 e28 x29 ex => ?_⟩⟩
    · subst ex
      rw [if_neg (by simp; omega)] at hk
      exact ih (j + 1) acc (by omega) (by simpa using hk)
    · subst e28; subst ex
      rw [if_pos (by simp; omega)] at hk
      refine ih (j + 1) (acc + 1) (by omega) ?_
      rw [show acc + 1 + cntI (cLost σ) (j + 1) f = acc + (1 + cntI (cLost σ) (j + 1) f) by omega]
      exact hk
theorem x5_count5 {K : List nKey} {σ : nS} {P R C : Nat} {k : Int → nS → Prop} (h : IV K σ P R C) :
    ∀ (f j : Nat) (acc : Int), j + f = C → k (acc + cntI (cWarm σ) j f) σ → P_X5_count_L126 K k (f + 1) acc (j : Int) σ := by
  have a1 := h.1.1.2.2
  have c40 := h.1.2.1.2.2
  intro f
  induction f with
  | zero =>
    intro j acc hj hk
    unfold P_X5_count_L126
    rw [a1, w0 (x := (C : Int)) (by omega) (by omega), w0 (x := (j : Int)) (by omega) (by omega)]
    refine ⟨fun _ => ?_, fun h => absurd h (by omega)⟩
    simpa [cntI] using hk
  | succ f ih =>
    intro j acc hj hk
    obtain ⟨m, e1, e2, e3, e4, e5⟩ := h.call (c := j) (by omega)
    obtain ⟨-, -, -, -, c14, c15, -, -⟩ := h.2.2.2.1 j (by omega)
    unfold P_X5_count_L126
    simp only [Int.toNat_natCast]
    rw [a1, w0 (x := (C : Int)) (by omega) (by omega), w0 (x := (j : Int)) (by omega) (by omega), w0 (x := σ.1 (12, 16, 0) j) (by omega) (by omega)]
    unfold cntI at hk
    refine ⟨fun h => absurd h (by omega), fun _ => ⟨by omega, by omega, fun q x5 ex => ?_, fun q => ?_⟩⟩
    · subst ex
      rw [if_neg (by simp; omega)] at hk
      exact ih (j + 1) acc (by omega) (by simpa using hk)
    · have h1 : 1 ≤ m := by rcases e5 with e5 | e5 <;> omega
      obtain ⟨n, n1, n2, n3⟩ := e4 (m - 1) (by omega)
      have hr := n3.2.2.2.1
      have hm : (LM σ j).toNat - 1 = m - 1 := by omega
      refine x5_endOf (by omega) e1 h1 (by omega) ⟨by omega, by omega, by omega, by omega, ?_⟩
      rw [w0 (x := σ.1 (12, 15, 0) j) (by omega) (by omega), w0 (x := ML σ j (m - 1) 4 - σ.1 (12, 14, 0) j) (by omega) (by omega)]
      refine ⟨fun q2 x13 ex => ?_, fun q2 x14 e14 x15 ex => ?_⟩
      · subst ex
        rw [if_neg (by simp only [cWarm, decide_eq_true_eq, hm]; omega)] at hk
        exact ih (j + 1) acc (by omega) (by simpa using hk)
      · subst e14; subst ex
        rw [if_pos (by simp only [cWarm, decide_eq_true_eq, hm]; omega)] at hk
        refine ih (j + 1) (acc + 1) (by omega) ?_
        rw [show acc + 1 + cntI (cWarm σ) (j + 1) f = acc + (1 + cntI (cWarm σ) (j + 1) f) by omega]
        exact hk
theorem ok_count : OK_count Inv := by
  intro K σ v1 hKC hKS h13 i1 hI
  obtain ⟨P, R, C, h⟩ := hI
  obtain ⟨⟨a1, a1', a1''⟩, ⟨p8, r6, c40⟩, ⟨a3, a3', a3''⟩, a4, a7⟩ := id h.1
  have go : ∀ x, (v1 = 0 → x = (P : Int)) → (v1 = 1 → x = (R : Int)) → (v1 = 2 → x = (C : Int)) → (v1 = 3 → x = 0 + cntI (cSent σ) 0 C) → (v1 = 4 → x = 0 + cntI (cLost σ) 0 C) → (v1 = 5 → x = 0 + cntI (cWarm σ) 0 C) → (v1 < 0 ∨ 5 < v1 → x = -1) → P_X5_count K σ v1 (fun r2 σ2 => w x = w r2 ∧ Inv K σ2) := fun x g0 g1 g2 g3 g4 g5 g6 => by
    intro σ1 e1
    have e : Eqv σ σ1 := by rw [e1]; exact Eqv.s1 scr24
    have h1 := h.eqv e
    have hI1 : Inv K σ1 := ⟨P, R, C, h1⟩
    obtain ⟨⟨d1, d1', d1''⟩, -⟩ := id h1.1
    have f16 : σ1.1 (12, 16, 0) = σ.1 (12, 16, 0) := e.k12 (by decide)
    have f15 : σ1.1 (12, 15, 0) = σ.1 (12, 15, 0) := e.k12 (by decide)
    have f14 : σ1.1 (12, 14, 0) = σ.1 (12, 14, 0) := e.k12 (by decide)
    have f17 : σ1.1 (12, 17, 0) = σ.1 (12, 17, 0) := e.k12 (by decide)
    have f18 : σ1.1 (12, 18, 0) = σ.1 (12, 18, 0) := e.k12 (by decide)
    have q3 : cSent σ1 = cSent σ := by funext c; unfold cSent; rw [f16]
    have q4 : cLost σ1 = cLost σ := by funext c; unfold cLost; rw [f16]
    have q5 : cWarm σ1 = cWarm σ := by funext c; unfold cWarm ML LM; rw [f14, f15, f16, f17, f18]
    rw [w_of i1]
    refine ⟨fun q => ⟨by rw [g0 q, d1], hI1⟩, fun q => ⟨by rw [g1 q, d1'], hI1⟩, fun q => ⟨by rw [g2 q, d1''], hI1⟩, fun q => ⟨C + 1, x5_count3 h1 C 0 0 (by omega) ⟨by rw [g3 q, q3], hI1⟩⟩, fun q => ⟨C + 1, x5_count4 h1 C 0 0 (by omega) ⟨by rw [g4 q, q4], hI1⟩⟩, fun q => ⟨C + 1, x5_count5 h1 C 0 0 (by omega) ⟨by rw [g5 q, q5], hI1⟩⟩, fun q => ⟨by rw [g6 q], hI1⟩⟩
  unfold P_X4_count
  rw [w_of i1, a3, a3', a3'']
  refine ⟨fun q => ?_, fun q => ?_, fun q => ?_, fun q => ?_, fun q => ?_, fun q => ?_, fun q => ?_⟩
  · exact go P (fun _ => rfl) (fun _ => by omega) (fun _ => by omega) (fun _ => by omega) (fun _ => by omega) (fun _ => by omega) (fun _ => by omega)
  · exact go R (fun _ => by omega) (fun _ => rfl) (fun _ => by omega) (fun _ => by omega) (fun _ => by omega) (fun _ => by omega) (fun _ => by omega)
  · exact go C (fun _ => by omega) (fun _ => by omega) (fun _ => rfl) (fun _ => by omega) (fun _ => by omega) (fun _ => by omega) (fun _ => by omega)
  · exact ⟨C + 1, x4_count4 h (Or.inl ⟨q, rfl⟩) C 0 0 (by omega) (go _ (fun _ => by omega) (fun _ => by omega) (fun _ => by omega) (fun _ => rfl) (fun _ => by omega) (fun _ => by omega) (fun _ => by omega))⟩
  · exact ⟨C + 1, x4_count4 h (Or.inr (Or.inl ⟨q, rfl⟩)) C 0 0 (by omega) (go _ (fun _ => by omega) (fun _ => by omega) (fun _ => by omega) (fun _ => by omega) (fun _ => rfl) (fun _ => by omega) (fun _ => by omega))⟩
  · exact ⟨C + 1, x4_count4 h (Or.inr (Or.inr ⟨q, rfl⟩)) C 0 0 (by omega) (go _ (fun _ => by omega) (fun _ => by omega) (fun _ => by omega) (fun _ => by omega) (fun _ => by omega) (fun _ => rfl) (fun _ => by omega))⟩
  · exact go (-1) (fun _ => by omega) (fun _ => by omega) (fun _ => by omega) (fun _ => by omega) (fun _ => by omega) (fun _ => by omega) (fun _ => rfl)
