/-- from a call's number: there is such a call, or there is none -/
theorem IV.req {K : List nKey} {σ : nS} {P R C : Nat} (h : IV K σ P R C) {v : Int} (hv : iR v) {k : Option Nat → nS → Prop} (hno : ¬ (0 ≤ v ∧ v < C) → k none σ) (hk : ∀ c : Nat, v = c → c < C → (8, c, 0) ∈ K → k (some c) σ) : P_X4_requestAt K σ v k := by
  obtain ⟨a3, a3', a3''⟩ := h.1.2.2.1
  have c40 := h.1.2.1.2.2
  by_cases hc : 0 ≤ v ∧ v < C
  · obtain ⟨c, rfl⟩ : ∃ c : Nat, v = c := ⟨v.toNat, by omega⟩
    obtain ⟨⟨hs2, hK⟩, -⟩ := h.2.2.2.1 c (by omega)
    exact x4_requestAt a3'' c40 (by omega) hs2 hK (hk c rfl (by omega) hK)
  · exact x4_requestAt_no hv a3'' c40 hc (hno hc)
theorem ok_told : OK_told Inv := by
  intro K σ v1 v2 hKC hKS h13 i1 i2 hI
  obtain ⟨P, R, C, h⟩ := hI
  obtain ⟨⟨a1, a1', a1''⟩, ⟨p8, r6, c40⟩, -⟩ := id h.1
  unfold P_X4_told
  refine h.req i1 (fun hn => ⟨fun _ => ?_, fun q e => by cases e⟩) (fun c e hc hK => ⟨(fun e => by cases e), fun q e2 => ?_⟩)
  · intro σ1 e1
    have e : Eqv σ σ1 := by rw [e1]; exact Eqv.s1 scr24
    have d : σ1.1 (11, 0, 0) 20 = C := (e.k11 (by decide) (by decide)).trans a1''
    exact x5_isCall i1 (by omega) (br10 (fun q => absurd (by omega) hn) (fun _ => ⟨rfl, P, R, C, h.eqv e⟩))
  · cases e2
    subst e
    refine ⟨hK, ?_⟩
    obtain ⟨m, e1, e2, e3, e4, e5⟩ := h.call hc
    obtain ⟨-, ⟨b0, b1, b2, b3, b4, b6, b7, b8⟩, -⟩ := h.2.2.2.1 c hc
    have go : ∀ x, (x = if v2 = 0 then σ.1 (12, 11, 0) c else if v2 = 1 then σ.1 (12, 12, 0) c else if v2 = 2 then σ.1 (12, 13, 0) c else if v2 = 3 then σ.1 (12, 14, 0) c else if v2 = 4 then σ.1 (12, 15, 0) c else if v2 = 5 then σ.1 (12, 16, 0) c else if v2 = 6 then LM σ c else if v2 = 7 then (if σ.1 (12, 16, 0) c = 1 then ML σ c (m - 1) 4 else -1) else -1) → P_X5_told K σ c v2 (fun r2 σ2 => w x = w r2 ∧ Inv K σ2) := fun x hx => by
      intro σ1 q1
      have e : Eqv σ σ1 := by rw [q1]; exact Eqv.s1 scr24
      have h1 := h.eqv e
      have hI1 : Inv K σ1 := ⟨P, R, C, h1⟩
      have d : σ1.1 (11, 0, 0) 20 = C := (e.k11 (by decide) (by decide)).trans a1''
      refine x5_isCall i1 (by omega) (br10 (fun _ => ?_) (fun q => absurd (by omega) q))
      simp only [Int.toNat_natCast]
      rw [w_of i2, e.k12 (k := 11) (by decide), e.k12 (k := 12) (by decide), e.k12 (k := 13) (by decide), e.k12 (k := 14) (by decide), e.k12 (k := 15) (by decide), e.k12 (k := 16) (by decide), e.k12 (k := 18) (by decide)]
      refine ⟨fun q => ⟨by omega, by omega, by rw [hx]; simp [q], hI1⟩, fun q => ⟨by omega, by omega, by rw [hx]; simp [q], hI1⟩, fun q => ⟨by omega, by omega, by rw [hx]; simp [q], hI1⟩, fun q => ⟨by omega, by omega, by rw [hx]; simp [q], hI1⟩, fun q => ⟨by omega, by omega, by rw [hx]; simp [q], hI1⟩, fun q => ⟨by omega, by omega, by rw [hx]; simp [q], hI1⟩, fun q => ⟨by omega, by omega, by rw [hx]; simp [q], hI1⟩, fun q => ⟨by omega, by omega, ?_⟩, fun q => ⟨by rw [hx, if_neg (by omega), if_neg (by omega), if_neg (by omega), if_neg (by omega), if_neg (by omega), if_neg (by omega), if_neg (by omega), if_neg (by omega)], hI1⟩⟩
      rw [w0 (x := σ.1 (12, 16, 0) c) (by omega) (by omega)]
      refine ⟨fun q2 => ⟨by rw [hx]; simp [q, q2], hI1⟩, fun q2 => ?_⟩
      have f18 : LM σ1 c = m := by unfold LM at *; rw [e.k12 (k := 18) (by decide)]; exact e1
      refine x5_endOf (by omega) f18 (by omega) (by omega) ⟨?_, hI1⟩
      unfold ML
      rw [e.k12 (k := 17) (by decide), hx]
      simp [q, q2]
    rw [w_of i2, b0, b1, b2, b3, b4, b6, b7, b8]
    refine ⟨fun q => go _ (by simp [q]), fun q => go _ (by simp [q]), fun q => go _ (by simp [q]), fun q => go _ (by simp [q]), fun q => go _ (by simp [q]), fun q => ?_, fun q => go _ (by simp [q]), fun q => ?_, fun q => go _ (by rw [if_neg (by omega), if_neg (by omega), if_neg (by omega), if_neg (by omega), if_neg (by omega), if_neg (by omega), if_neg (by omega), if_neg (by omega)])⟩
    · rcases e5 with ⟨s0, -⟩ | ⟨s0 | s0, -⟩ <;> rw [s0]
      · exact ⟨fun _ => ⟨fun _ => go _ (by simp [q, s0]), fun z => absurd (by decide) z⟩, fun z => absurd (by decide) z⟩
      · exact ⟨fun _ => ⟨fun z => absurd z (by decide), fun _ => go _ (by simp [q, s0])⟩, fun z => absurd (by decide) z⟩
      · exact ⟨fun z => absurd z (by decide), fun _ => go _ (by simp [q, s0])⟩
    · rcases e5 with ⟨s0, m0⟩ | ⟨s0 | s0, m1⟩
      · rw [s0]
        exact ⟨fun _ => x2_lastEnd_no (by rw [e3]; omega) (go _ (by simp [q, s0])), fun z => absurd (by decide) z⟩
      · rw [s0]
        exact ⟨fun _ => h.lend hc e1 m1 (go _ (by simp [q, s0])), fun z => absurd (by decide) z⟩
      · rw [s0]
        exact ⟨fun z => absurd z (by decide), fun _ => go _ (by simp [q, s0])⟩
theorem ok_leg : OK_leg Inv := by
  intro K σ v1 v2 v3 hKC hKS h13 i1 i2 i3 hI
  obtain ⟨P, R, C, h⟩ := hI
  obtain ⟨⟨a1, a1', a1''⟩, ⟨p8, r6, c40⟩, -⟩ := id h.1
  have bad : ∀ (hn : ¬ ((0 ≤ v1 ∧ v1 < C) ∧ (0 ≤ v2 ∧ v2 < LM σ v1.toNat) ∧ (0 ≤ v3 ∧ v3 ≤ 5))), P_X5_leg K σ v1 v2 v3 (fun r2 σ2 => w (-1) = w r2 ∧ Inv K σ2) := fun hn => by
    intro σ1 q1
    have e : Eqv σ σ1 := by rw [q1]; exact Eqv.s1 scr24
    have hI1 : Inv K σ1 := ⟨P, R, C, h.eqv e⟩
    have d : σ1.1 (11, 0, 0) 20 = C := (e.k11 (by decide) (by decide)).trans a1''
    refine x5_isCall i1 (by omega) (br01 (fun q => ⟨by omega, by omega, x5_in (br01 (fun q2 => x5_in (br01 (fun q3 => absurd ⟨by omega, ?_, ?_⟩ hn) (fun _ => ⟨rfl, hI1⟩))) (fun _ => ⟨rfl, hI1⟩))⟩) (fun _ => ⟨rfl, hI1⟩))
    · obtain ⟨m, e1, e2, -⟩ := h.call (c := v1.toNat) (by omega)
      rw [e.k12 (k := 18) (by decide)] at q2
      unfold LM at e1 ⊢
      rw [e1] at q2 ⊢
      rw [w_of i2, w0 (x := 0) (by decide) (by decide), w0 (x := (m : Int) - 1) (by omega) (by omega)] at q2
      omega
    · rw [w_of i3, w0 (x := 0) (by decide) (by decide), w0 (x := 5) (by decide) (by decide)] at q3; exact q3
  unfold P_X4_leg
  refine h.req i1 (fun hn => ⟨fun _ => bad (fun q => hn q.1), fun q e => by cases e⟩) (fun c e hc hK => ⟨(fun e => by cases e), fun q e2 => ?_⟩)
  cases e2
  subst e
  simp only [Int.toNat_natCast] at bad
  refine ⟨hK, ?_⟩
  obtain ⟨m, e1, e2, e3, e4, e5⟩ := h.call hc
  by_cases hi : 0 ≤ v2 ∧ v2 < m
  · obtain ⟨i, rfl⟩ : ∃ i : Nat, v2 = i := ⟨v2.toNat, by omega⟩
    obtain ⟨n, n1, n2, ⟨l0, l1, l5, l2, l6, l7, l3, l4⟩, n4⟩ := e4 i (by omega)
    refine x2_legAt (by omega) (by omega) n1 n2 ⟨(fun e => by cases e), fun q6 e => ?_⟩
    cases e
    refine ⟨n2, ?_⟩
    rw [l0, l1, l5, l2, l6, l7, w_of i3]
    have go : ∀ f : Nat, f ≤ 5 → v3 = f → P_X5_leg K σ c i v3 (fun r2 σ2 => w (ML σ c i f) = w r2 ∧ Inv K σ2) := fun f hf hv => by
      intro σ1 q1
      have e : Eqv σ σ1 := by rw [q1]; exact Eqv.s1 scr24
      have hI1 : Inv K σ1 := ⟨P, R, C, h.eqv e⟩
      have d : σ1.1 (11, 0, 0) 20 = C := (e.k11 (by decide) (by decide)).trans a1''
      refine x5_isCall i1 (by omega) (br01 (fun q => ⟨by omega, by omega, x5_in (br01 (fun q2 => x5_in (br01 (fun q3 => ⟨by omega, by omega, ?_, hI1⟩) (fun q3 => absurd ?_ q3))) (fun q2 => absurd ?_ q2))⟩) (fun q => absurd (by omega) q))
      · rw [hv, show (8 * (24 * (c : Int) + (i : Int)) + (f : Int)).toNat = 8 * (24 * c + i) + f by omega, e.k12 (k := 17) (by decide)]
      · rw [w_of i3, w0 (x := 0) (by decide) (by decide), w0 (x := 5) (by decide) (by decide)]; omega
      · simp only [Int.toNat_natCast]
        rw [e.k12 (k := 18) (by decide)]
        unfold LM at e1
        rw [e1, w_of i2, w0 (x := 0) (by decide) (by decide), w0 (x := (m : Int) - 1) (by omega) (by omega)]
        omega
    refine ⟨fun q => go 0 (by omega) q, fun q => go 1 (by omega) q, fun q => go 2 (by omega) q, fun q => go 3 (by omega) q, fun q => go 4 (by omega) q, fun q => ?_, fun q => bad (fun z => by omega)⟩
    have h5 := go 5 (by omega) q
    rcases n4.2.2.2.1 with z | z <;> rw [z] at h5 ⊢
    · exact ⟨fun _ => h5, fun q => absurd (by decide) q⟩
    · exact ⟨fun q => absurd q (by decide), fun _ => h5⟩
  · refine x2_legAt_no i2 (by omega) (by omega) (by omega) ⟨fun _ => bad (fun q => hi (by omega)), fun q6 e => by cases e⟩
/-- the latest leg that began by a minute, from the front -/
def hnd (σ : nS) (c : Nat) (v : Int) : Nat → Int
  | 0 => -2
  | m + 1 => if ML σ c m 3 ≤ v then ML σ c m 0 else hnd σ c v m
theorem x4_hand45 {K : List nKey} {σ : nS} {P R C : Nat} {k : Int → nS → Prop} (h : IV K σ P R C) {v : Int} (hv : iR v) {c m : Nat} (hc : c < C) (hm : LM σ c = m) :
    ∀ (j : Nat), j ≤ m → k (hnd σ c v j) σ → P_X4_hand_L45 K k v (j + 1) c ((j : Int) - 1) σ := by
  obtain ⟨m', e1, e2, e3, e4, -⟩ := h.call hc
  have : m' = m := by omega
  subst this
  intro j
  induction j with
  | zero =>
    intro _ hk
    unfold P_X4_hand_L45
    exact ⟨fun _ => hk, fun q => absurd q (by decide)⟩
  | succ j ih =>
    intro hj hk
    obtain ⟨n, n1, n2, ⟨l0, l1, l5, l2, l6, l7, l3, l4⟩, n4⟩ := e4 j (by omega)
    unfold hnd at hk
    unfold P_X4_hand_L45
    rw [show ((j + 1 : Nat) : Int) - 1 = (j : Int) by omega, w0 (x := (j : Int)) (by omega) (by omega)]
    refine ⟨fun q => absurd q (by omega), fun _ => x2_legAt (by omega) (by omega) n1 n2 ⟨(fun e => by cases e), fun q6 e => ?_⟩⟩
    cases e
    have := n4.2.2.1
    refine ⟨n2, ?_⟩
    rw [l2, l0, w_of hv, w0 (x := ML σ c j 3) (by omega) (by omega)]
    refine ⟨fun q x7 ex => ?_, fun q => ?_⟩
    · subst ex
      rw [if_neg (by omega)] at hk
      exact ih (by omega) hk
    · rw [if_pos q] at hk; exact hk
theorem x5_hand53 {K : List nKey} {σ : nS} {P R C : Nat} {k : Int → nS → Prop} (h : IV K σ P R C) {v : Int} (hv : iR v) {c m : Nat} (hc : c < C) (hm : LM σ c = m) :
    ∀ (f j : Nat), j + f = m → k (hnd σ c v m) σ → P_X5_hand_L53 K k c v (f + 1) (hnd σ c v j) (j : Int) σ := by
  have c40 := h.1.2.1.2.2
  obtain ⟨m', e1, e2, e3, e4, -⟩ := h.call hc
  have : m' = m := by omega
  subst this
  intro f
  induction f with
  | zero =>
    intro j hj hk
    have hj' : j = m' := by omega
    subst hj'
    unfold P_X5_hand_L53
    simp only [Int.toNat_natCast]
    unfold LM at hm
    rw [hm, w0 (x := (j : Int)) (by omega) (by omega)]
    exact ⟨by omega, by omega, fun _ => hk, fun q => absurd q (by omega)⟩
  | succ f ih =>
    intro j hj hk
    have ihj := ih (j + 1) (by omega) hk
    obtain ⟨n, n1, n2, n3, n4⟩ := e4 j (by omega)
    have hr := n4.2.2.1
    have hm' := hm
    unfold LM at hm
    unfold P_X5_hand_L53
    simp only [Int.toNat_natCast]
    rw [hm, w0 (x := (j : Int)) (by omega) (by omega), w0 (x := (m' : Int)) (by omega) (by omega), show (8 * (24 * (c : Int) + (j : Int)) + 3).toNat = 8 * (24 * c + j) + 3 by omega, show (8 * (24 * (c : Int) + (j : Int))).toNat = 8 * (24 * c + j) + 0 by omega, w_of hv, w0 (x := ML σ c j 3) (by omega) (by omega)]
    unfold hnd at ihj
    refine ⟨by omega, by omega, fun q => absurd q (by omega), fun _ => ⟨by omega, by omega, fun q x7 ex => ?_, fun q => ⟨by omega, by omega, fun x10 e10 x11 ex => ?_⟩⟩⟩
    · subst ex
      rw [if_neg (by omega)] at ihj
      exact ihj
    · subst ex; subst e10
      rw [if_pos q] at ihj
      exact ihj
theorem ok_hand : OK_hand Inv := by
  intro K σ v1 v2 hKC hKS h13 i1 i2 hI
  obtain ⟨P, R, C, h⟩ := hI
  obtain ⟨⟨a1, a1', a1''⟩, ⟨p8, r6, c40⟩, -⟩ := id h.1
  have bad : ∀ (hn : ¬ ((0 ≤ v1 ∧ v1 < C) ∧ σ.1 (12, 16, 0) v1.toNat ≠ 0 ∧ (0 ≤ v2 ∧ v2 ≤ 4319))), P_X5_hand K σ v1 v2 (fun r2 σ2 => w (-1) = w r2 ∧ Inv K σ2) := fun hn => by
    intro σ1 q1
    have e : Eqv σ σ1 := by rw [q1]; exact Eqv.s1 scr24
    have hI1 : Inv K σ1 := ⟨P, R, C, h.eqv e⟩
    have d : σ1.1 (11, 0, 0) 20 = C := (e.k11 (by decide) (by decide)).trans a1''
    refine x5_isCall i1 (by omega) (br01 (fun q => ⟨by omega, by omega, fun _ => ⟨rfl, hI1⟩, fun q2 => x5_in (br10 (fun q3 => absurd ⟨by omega, ?_, ?_⟩ hn) (fun _ => ⟨rfl, hI1⟩))⟩) (fun _ => ⟨rfl, hI1⟩))
    · rw [e.k12 (k := 16) (by decide)] at q2
      exact fun z => q2 (by rw [z]; decide)
    · rw [w_of i2, w0 (x := 0) (by decide) (by decide), w0 (x := 4319) (by decide) (by decide)] at q3; exact q3
  unfold P_X4_hand
  refine h.req i1 (fun hn => ⟨fun _ => bad (fun q => hn q.1), fun q e => by cases e⟩) (fun c e hc hK => ⟨(fun e => by cases e), fun q e2 => ?_⟩)
  cases e2
  subst e
  simp only [Int.toNat_natCast] at bad
  refine ⟨hK, ?_⟩
  obtain ⟨m, e1, e2, e3, e4, e5⟩ := h.call hc
  obtain ⟨-, ⟨b0, b1, b2, b3, b4, b6, b7, b8⟩, -⟩ := h.2.2.2.1 c hc
  rw [b7]
  rcases e5 with ⟨s0, m0⟩ | ⟨s0, m1⟩
  · rw [if_pos s0]
    exact ⟨fun _ => bad (fun q => q.2.1 s0), fun q => absurd (by decide) q⟩
  · rw [if_neg (by omega)]
    refine ⟨fun q => absurd q (by decide), fun _ => x4_isMinute i2 (br10 (fun hm => ?_) (fun hm => bad (fun q => hm q.2.2)))⟩
    obtain ⟨n, n1, n2, n3⟩ := e4 (m - 1) (by omega)
    have hr := n3.2.2.2.1
    refine h.lend hc e1 m1 ?_
    have go : ∀ x, (v2 ≤ ML σ c (m - 1) 4 → x = hnd σ c v2 m) → (ML σ c (m - 1) 4 < v2 → x = -3) → P_X5_hand K σ c v2 (fun r2 σ2 => w x = w r2 ∧ Inv K σ2) := fun x g1 g2 => by
      intro σ1 q1
      have e : Eqv σ σ1 := by rw [q1]; exact Eqv.s1 scr24
      have h1 := h.eqv e
      have hI1 : Inv K σ1 := ⟨P, R, C, h1⟩
      have d : σ1.1 (11, 0, 0) 20 = C := (e.k11 (by decide) (by decide)).trans a1''
      have f17 : σ1.1 (12, 17, 0) = σ.1 (12, 17, 0) := e.k12 (by decide)
      have f18 : LM σ1 c = m := by unfold LM at *; rw [e.k12 (k := 18) (by decide)]; exact e1
      have fm : ML σ1 c (m - 1) 4 = ML σ c (m - 1) 4 := by unfold ML; rw [f17]
      have fh : ∀ j, hnd σ1 c v2 j = hnd σ c v2 j := fun j => by
        induction j with
        | zero => rfl
        | succ j ih => unfold hnd ML; rw [f17, ih]
      refine x5_isCall i1 (by omega) (br01 (fun q => ⟨by omega, by omega, fun q2 => ?_, fun q2 => x5_in (br10 (fun q3 => x5_endOf (by omega) f18 m1 (by omega) ?_) (fun q3 => absurd ?_ q3))⟩) (fun q => absurd (by omega) q))
      · simp only [Int.toNat_natCast] at q2
        rw [e.k12 (k := 16) (by decide), w0 (x := σ.1 (12, 16, 0) c) (by omega) (by omega)] at q2
        omega
      · rw [fm, w_of i2, w0 (x := ML σ c (m - 1) 4) (by omega) (by omega)]
        refine ⟨fun q4 => ⟨m + 1, x5_hand53 h1 i2 hc f18 m 0 (by omega) ⟨by rw [fh, g1 q4], hI1⟩⟩, fun q4 => ⟨by rw [g2 q4], hI1⟩⟩
      · rw [w_of i2, w0 (x := 0) (by decide) (by decide), w0 (x := 4319) (by decide) (by decide)]; exact hm
    rw [w_of i2, w0 (x := ML σ c (m - 1) 4) (by omega) (by omega)]
    refine ⟨fun q x18 ex => ⟨m + 1, ?_⟩, fun q => go _ (fun z => by omega) (fun _ => rfl)⟩
    rw [ex, e3]
    exact x4_hand45 h i2 hc e1 m (Nat.le_refl _) (go _ (fun _ => rfl) (fun z => by omega))
theorem ok_best : OK_best Inv := by
  intro K σ v1 hKC hKS h13 i1 hI
  obtain ⟨P, R, C, h⟩ := hI
  obtain ⟨⟨a1, a1', a1''⟩, ⟨p8, r6, c40⟩, -⟩ := id h.1
  unfold P_X4_best
  refine h.req i1 (fun hn => ⟨fun _ => ?_, fun q e => by cases e⟩) (fun c e hc hK => ⟨(fun e => by cases e), fun q e2 => ?_⟩)
  · intro σ1 q1
    have e : Eqv σ σ1 := by rw [q1]; exact Eqv.s1 scr24
    have d : σ1.1 (11, 0, 0) 20 = C := (e.k11 (by decide) (by decide)).trans a1''
    exact x5_isCall i1 (by omega) (br01 (fun q => absurd (by omega) hn) (fun _ => ⟨rfl, P, R, C, h.eqv e⟩))
  cases e2
  subst e
  refine ⟨hK, ?_⟩
  obtain ⟨m, e1, e2, e3, e4, e5⟩ := h.call hc
  obtain ⟨-, ⟨b0, b1, b2, b3, b4, b6, b7, b8⟩, c12, c13, c14, -⟩ := h.2.2.2.1 c hc
  have hx : ((σ.1 (12, 12, 0) c).toNat : Int) = σ.1 (12, 12, 0) c := by omega
  have hg : ((σ.1 (12, 13, 0) c).toNat : Int) = σ.1 (12, 13, 0) c := by omega
  rw [b7, b1, b3]
  rcases e5 with ⟨s0, m0⟩ | ⟨s0, m1⟩
  · rw [if_pos s0]
    refine ⟨fun q => absurd (by decide) q, fun _ => ?_⟩
    rw [← hx]
    refine x4_findChain (x0 := (σ.1 (12, 12, 0) c).toNat) (t0 := σ.1 (12, 14, 0) c) (goal := (σ.1 (12, 13, 0) c).toNat) (by omega) c14 (by omega) (h.d4 (σ.1 (12, 11, 0) c)) b0 (by rw [b2, hg]) (fun σ1 ch hch he hb => ?_)
    -- the model finds the same
    have go : ∀ x, (ch = [] → x = -1) → (ch ≠ [] → x = ed (dat σ) (dst σ) (dF σ) (σ.1 (12, 12, 0) c).toNat (σ.1 (12, 14, 0) c) ch) → P_X5_best K σ1 c (fun r2 σ2 => w x = w r2 ∧ Inv K σ2) := fun x g1 g2 => by
      intro σ2 q2
      have e : Eqv σ σ2 := he.tr (by rw [q2]; exact Eqv.s1 scr24)
      have d : σ2.1 (11, 0, 0) 20 = C := (e.k11 (by decide) (by decide)).trans a1''
      refine x5_isCall i1 (by omega) (br01 (fun q => ⟨by omega, by omega, fun q2 => ?_, fun q2 => ⟨by omega, by omega, by omega, by omega, by omega, by omega, by omega, by omega, ?_⟩⟩) (fun q => absurd (by omega) q))
      · simp only [Int.toNat_natCast] at q2
        rw [e.k12 (k := 16) (by decide), s0] at q2
        exact absurd q2 (by decide)
      · simp only [Int.toNat_natCast]
        rw [e.k12 (k := 11) (by decide), e.k12 (k := 12) (by decide), e.k12 (k := 14) (by decide), e.k12 (k := 13) (by decide), ← hx, ← hg]
        refine x5_findBest (x0 := (σ.1 (12, 12, 0) c).toNat) (t0 := σ.1 (12, 14, 0) c) (goal := (σ.1 (12, 13, 0) c).toNat) (by omega) c14 (by omega) ((h.d5 (σ.1 (12, 11, 0) c)).eqv e) (fun σ3 ch' hch' he' hb' => ?_)
        have hcc : ch' = ch := by rw [hch', hch]
        subst hcc
        have hI3 : Inv K σ3 := ⟨P, R, C, (h.eqv e).eqv he'⟩
        obtain ⟨hb1, hb2, hb3, hb4⟩ := hb'
        refine br10 (fun hl => ?_) (fun hl => ⟨by rw [g1 (List.length_eq_zero_iff.mp (by omega))], hI3⟩)
        have hne : ch' ≠ [] := fun z => by subst z; simp at hl
        obtain ⟨l, hl1, hl2, -⟩ := legs_last (at0 := dat σ) (st := dst σ) (F := dF σ) (x0 := (σ.1 (12, 12, 0) c).toNat) (t0 := σ.1 (12, 14, 0) c) hne
        rw [hb3, show ((ch'.length : Int) - 1).toNat = ch'.length - 1 by omega, (hb4 _ _ hl1).2.2.2, hl2]
        exact ⟨by omega, by omega, by rw [g2 hne], hI3⟩
    obtain ⟨hb1, hb2, hb3, hb4⟩ := hb
    refine br10 (fun hl => ?_) (fun hl => go _ (fun _ => rfl) (fun z => absurd (List.length_eq_zero_iff.mp (by omega)) z))
    have hne : ch ≠ [] := fun z => by subst z; simp at hl
    refine x0_lastEnd hb2 hb3 hb4 ?_
    rw [if_neg hne]
    exact go _ (fun z => absurd z hne) (fun _ => rfl)
  · rw [if_neg (by omega)]
    refine ⟨fun _ => ?_, fun q => absurd q (by decide)⟩
    intro σ2 q2
    have e : Eqv σ σ2 := by rw [q2]; exact Eqv.s1 scr24
    have d : σ2.1 (11, 0, 0) 20 = C := (e.k11 (by decide) (by decide)).trans a1''
    refine x5_isCall i1 (by omega) (br01 (fun q => ⟨by omega, by omega, fun _ => ⟨rfl, P, R, C, h.eqv e⟩, fun q2 => ?_⟩) (fun q => absurd (by omega) q))
    simp only [Int.toNat_natCast] at q2
    rw [e.k12 (k := 16) (by decide), w0 (x := σ.1 (12, 16, 0) c) (by omega) (by omega)] at q2
    omega
