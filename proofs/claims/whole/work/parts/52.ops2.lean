/-- counting -/
def cntI (p : Nat → Bool) : Nat → Nat → Int
  | _, 0 => 0
  | j, m + 1 => (if p j then 1 else 0) + cntI p (j + 1) m
theorem cntI_rng (p : Nat → Bool) : ∀ m j, 0 ≤ cntI p j m ∧ cntI p j m ≤ m := by
  intro m
  induction m with
  | zero => intro j; simp [cntI]
  | succ m ih => intro j; have := ih (j + 1); unfold cntI; split <;> omega
theorem w_cong {a b : Int} (h : a = b) : w a = w b := by rw [h]
abbrev dty (σ : nS) (kind m : Int) (r : Nat) : Bool := dcy σ kind r && decide (σ.1 (12, 3, 0) r ≤ m ∧ m ≤ σ.1 (12, 4, 0) r)
theorem x4_onDuty {K : List nKey} {σ : nS} {r : Nat} {m : Int} {k : Int → nS → Prop} (hm : iR m) (h2 : 0 ≤ σ.1 (6, r, 0) 2 ∧ σ.1 (6, r, 0) 2 ≤ 4319) (h3 : 0 ≤ σ.1 (6, r, 0) 3 ∧ σ.1 (6, r, 0) 3 ≤ 4319) (h : k (b2i (σ.1 (6, r, 0) 2 ≤ m ∧ m ≤ σ.1 (6, r, 0) 3)) σ) : P_X3_isOnDuty K σ r m k := by
  unfold P_X3_isOnDuty
  rw [w_of hm, w0 (x := σ.1 (6, r, 0) 2) (by omega) (by omega), w0 (x := σ.1 (6, r, 0) 3) (by omega) (by omega)]
  refine ⟨fun a => ?_, fun a => ⟨fun b => ?_, fun b => ?_⟩⟩
  · rw [b2i_f (by omega)] at h; exact h
  · rw [b2i_f (by omega)] at h; exact h
  · rw [b2i_t ⟨a, b⟩] at h; exact h
theorem x4_duty21 {K : List nKey} {σ : nS} {P R C : Nat} {kind m : Int} {k : Int → nS → Prop} (h : IV K σ P R C) (hm : iR m) :
    ∀ (f j : Nat) (acc : Int), j + f = R → k (acc + cntI (dty σ kind m) j f) σ → P_X4_duty_L21 K k m kind (f + 1) acc (j : Int) σ := by
  obtain ⟨a3, a3', a3''⟩ := h.1.2.2.1
  have r6 := h.1.2.1.2.1
  intro f
  induction f with
  | zero =>
    intro j acc hj hk
    unfold P_X4_duty_L21
    rw [a3', w0 (x := (R : Int)) (by omega) (by omega), w0 (x := (j : Int)) (by omega) (by omega)]
    refine ⟨fun _ => ?_, fun h => absurd h (by omega)⟩
    simpa [cntI] using hk
  | succ f ih =>
    intro j acc hj hk
    obtain ⟨⟨hs2, hK⟩, ⟨b0, b1, b2, b3, b4, b6, b7, b8, b9, b10⟩, -, c3, c4, -, -, c8, -⟩ := h.2.2.1 j (by omega)
    obtain ⟨-, ⟨hcy, hfl⟩, -⟩ := (h.d4 kind).2.2.2.2 j (by omega)
    unfold P_X4_duty_L21
    rw [a3', w0 (x := (R : Int)) (by omega) (by omega), w0 (x := (j : Int)) (by omega) (by omega)]
    refine ⟨fun h => absurd h (by omega), fun _ => x4_riderAt a3' r6 (by omega) hs2 hK ⟨(fun e => by cases e), fun q4 e => ?_⟩⟩
    cases e
    unfold cntI at hk
    refine ⟨hK, x4_carries hcy hfl (br01 (fun hc => x4_onDuty hm (by omega) (by omega) (br01 (fun hd x14 e14 x15 e15 => ?_) (fun hd x13 e13 => ?_))) (fun hc x9 e9 => ?_))⟩
    · subst e14; subst e15
      refine ih (j + 1) (acc + 1) (by omega) ?_
      rw [b2, b3] at hd
      have : dty σ kind m j = true := by unfold dty; rw [hc, decide_eq_true hd]; rfl
      rw [if_pos this] at hk
      rw [show acc + 1 + cntI (dty σ kind m) (j + 1) f = acc + (1 + cntI (dty σ kind m) (j + 1) f) by omega]
      exact hk
    · subst e13
      refine ih (j + 1) acc (by omega) ?_
      rw [b2, b3] at hd
      have : dty σ kind m j = false := by unfold dty; rw [decide_eq_false hd]; simp
      rw [this] at hk
      simpa using hk
    · subst e9
      refine ih (j + 1) acc (by omega) ?_
      have : dty σ kind m j = false := by
        unfold dty
        cases g : dcy σ kind j with
        | true => exact absurd g hc
        | false => rfl
      rw [this] at hk
      simpa using hk
theorem x5_duty5 {K : List nKey} {σ : nS} {P R C : Nat} {kind m : Int} {k : Int → nS → Prop} (h : IV K σ P R C) (hm : iR m) :
    ∀ (f j : Nat) (acc : Int), j + f = R → k (acc + cntI (dty σ kind m) j f) σ → P_X5_onDuty_L5 K k m kind (f + 1) acc (j : Int) σ := by
  have a1 := h.1.1.2.1
  have r6 := h.1.2.1.2.1
  intro f
  induction f with
  | zero =>
    intro j acc hj hk
    unfold P_X5_onDuty_L5
    rw [a1, w0 (x := (R : Int)) (by omega) (by omega), w0 (x := (j : Int)) (by omega) (by omega)]
    refine ⟨fun _ => ?_, fun h => absurd h (by omega)⟩
    simpa [cntI] using hk
  | succ f ih =>
    intro j acc hj hk
    obtain ⟨-, -, -, c3, c4, -, -, c8, -⟩ := h.2.2.1 j (by omega)
    obtain ⟨⟨hcy, hfl⟩, -⟩ := (h.d5 kind).2.2.2.2 j (by omega)
    unfold P_X5_onDuty_L5
    rw [a1, w0 (x := (R : Int)) (by omega) (by omega), w0 (x := (j : Int)) (by omega) (by omega)]
    unfold cntI at hk
    refine ⟨fun h => absurd h (by omega), fun _ => x5_mayCarry (by omega) hcy hfl (br01 (fun hc => ⟨by omega, by omega, by omega, by omega, x5_in (br01 (fun hd x14 e14 x15 e15 => ?_) (fun hd x13 e13 => ?_))⟩) (fun hc x5 e5 => ?_))⟩
    · subst e14; subst e15
      refine ih (j + 1) (acc + 1) (by omega) ?_
      simp only [Int.toNat_natCast] at hd
      rw [w_of hm, w0 (x := σ.1 (12, 3, 0) j) (by omega) (by omega), w0 (x := σ.1 (12, 4, 0) j) (by omega) (by omega)] at hd
      have : dty σ kind m j = true := by unfold dty; rw [hc, decide_eq_true hd]; rfl
      rw [if_pos this] at hk
      rw [show acc + 1 + cntI (dty σ kind m) (j + 1) f = acc + (1 + cntI (dty σ kind m) (j + 1) f) by omega]
      exact hk
    · subst e13
      refine ih (j + 1) acc (by omega) ?_
      simp only [Int.toNat_natCast] at hd
      rw [w_of hm, w0 (x := σ.1 (12, 3, 0) j) (by omega) (by omega), w0 (x := σ.1 (12, 4, 0) j) (by omega) (by omega)] at hd
      have : dty σ kind m j = false := by unfold dty; rw [decide_eq_false hd]; simp
      rw [this] at hk
      simpa using hk
    · subst e5
      refine ih (j + 1) acc (by omega) ?_
      have : dty σ kind m j = false := by
        unfold dty
        cases g : dcy σ kind j with
        | true => exact absurd g hc
        | false => rfl
      rw [this] at hk
      simpa using hk
theorem dty_eqv {σ σ' : nS} (e : Eqv σ σ') (kind m : Int) : dty σ' kind m = dty σ kind m := by
  funext r
  unfold dty dcy
  rw [e.k12 (k := 8) (by decide), e.k12 (k := 5) (by decide), e.k12 (k := 3) (by decide), e.k12 (k := 4) (by decide)]
theorem ok_duty : OK_duty Inv := by
  intro K σ v1 v2 hKC hKS h13 i1 i2 hI
  obtain ⟨P, R, C, h⟩ := hI
  have bad : ¬ ((0 ≤ v1 ∧ v1 ≤ 4319) ∧ (0 ≤ v2 ∧ v2 ≤ 3)) → P_X5_duty K σ v1 v2 (fun r2 σ2 => w (-1) = w r2 ∧ Inv K σ2) := fun hn => by
    intro σ1 e1
    have hI1 : Inv K σ1 := ⟨P, R, C, h.eqv (by rw [e1]; exact Eqv.s1 scr24)⟩
    refine x5_in (br01 (fun h1 => x5_in (br01 (fun h2 => absurd ⟨?_, ?_⟩ hn) (fun _ => ⟨rfl, hI1⟩))) (fun _ => ⟨rfl, hI1⟩))
    · rw [w_of i1, w0 (x := 0) (by decide) (by decide), w0 (x := 4319) (by decide) (by decide)] at h1; exact h1
    · rw [w_of i2, w0 (x := 0) (by decide) (by decide), w0 (x := 3) (by decide) (by decide)] at h2; exact h2
  unfold P_X4_duty
  refine x4_isMinute i1 (br01 (fun h1 => x4_isKind i2 (br10 (fun h2 => ⟨R + 1, ?_⟩) (fun h2 => bad (fun q => h2 q.2)))) (fun h1 => bad (fun q => h1 q.1)))
  refine x4_duty21 h i1 R 0 0 (by omega) ?_
  intro σ1 e1
  have e : Eqv σ σ1 := by rw [e1]; exact Eqv.s1 scr24
  refine x5_in (br01 (fun _ => x5_in (br01 (fun _ => ⟨R + 1, ?_⟩) (fun hn => absurd ?_ hn))) (fun hn => absurd ?_ hn))
  · refine x5_duty5 (h.eqv e) i1 R 0 0 (by omega) ⟨?_, P, R, C, h.eqv e⟩
    rw [dty_eqv e]
  · rw [w_of i2, w0 (x := 0) (by decide) (by decide), w0 (x := 3) (by decide) (by decide)]; exact h2
  · rw [w_of i1, w0 (x := 0) (by decide) (by decide), w0 (x := 4319) (by decide) (by decide)]; exact h1
theorem ok_of : OK_of Inv := by
  intro K σ v1 v2 hKC hKS h13 i1 i2 hI
  obtain ⟨P, R, C, h⟩ := hI
  have hA := h.1
  obtain ⟨⟨a1, a1', a1''⟩, ⟨p8, r6, c40⟩, ⟨a3, a3', a3''⟩, a4, a7⟩ := id hA
  -- it throws
  have thr : ¬ ((0 ≤ v1 ∧ v1 < R) ∧ (0 ≤ v2 ∧ v2 ≤ 6)) → P_X5_of K σ v1 v2 (fun r2 σ2 => P_X5_thrown K σ2 (fun r3 σ3 => w r3 = w 1 ∧ (w 1 = 0 → w (σ3.1 (13, 0, 0) 0) = w r2) ∧ Inv K σ3)) := fun hn => by
    intro σ1 e1
    have e : Eqv σ σ1 := by rw [e1]; exact Eqv.s1 scr24
    have b2 : σ1.1 (11, 0, 0) 12 = R := (e.k11 (by decide) (by decide)).trans a1'
    have fin : ∀ σ5, σ5 = s1 σ1 (11, 0, 0) 24 1 → P_X5_thrown K σ5 (fun r3 σ3 => w r3 = w 1 ∧ (w 1 = 0 → w (σ3.1 (13, 0, 0) 0) = w 0) ∧ Inv K σ3) := fun σ5 e5 => by
      unfold P_X5_thrown
      refine ⟨by rw [e5, s1_at], fun h => absurd h (by decide), P, R, C, (h.eqv e).eqv (by rw [e5]; exact Eqv.s1 scr24)⟩
    refine x5_isRider i1 (by omega) (br01 (fun h1 => x5_in (br10 (fun h2 => absurd ⟨?_, ?_⟩ hn) (fun _ σ26 e26 => fin σ26 e26))) (fun _ σ5 e5 => fin σ5 e5))
    · rw [b2] at h1; exact h1
    · rw [w_of i2, w0 (x := 0) (by decide) (by decide), w0 (x := 6) (by decide) (by decide)] at h2; exact h2
  unfold P_L_of P_X4_of
  by_cases hr : 0 ≤ v1 ∧ v1 < R
  · obtain ⟨r, rfl⟩ : ∃ r : Nat, v1 = r := ⟨v1.toNat, by omega⟩
    obtain ⟨⟨hs2, hK⟩, ⟨b0, b1, b2, b3, b4, b6, b7, b8, b9, b10⟩, -, c3, c4, -, -, c8, -⟩ := h.2.2.1 r (by omega)
    refine x4_riderAt a3' r6 (by omega) hs2 hK ⟨(fun e => by cases e), fun q3 e => ?_⟩
    cases e
    refine ⟨hK, ?_⟩
    rw [b10, w_of i2]
    -- it answers x
    have ans : ∀ (x : Int), (0 ≤ v2 ∧ v2 ≤ 6) → (x = if v2 = 0 then σ.1 (12, 1, 0) r else if v2 = 1 then σ.1 (12, 6, 0) r else if v2 = 2 then (if σ.1 (12, 8, 0) r = 0 then σ.1 (12, 7, 0) r else -1) else if v2 = 3 then σ.1 (12, 9, 0) r else if v2 = 4 then σ.1 (12, 10, 0) r else if v2 = 5 then σ.1 (12, 2, 0) r else σ.1 (12, 5, 0) r) → ∀ σ2, σ2 = s1 σ (13, 0, 0) 0 x → P_X5_of K σ2 r v2 (fun r2 σ2 => P_X5_thrown K σ2 (fun r3 σ3 => w r3 = w 0 ∧ (w 0 = 0 → w (σ3.1 (13, 0, 0) 0) = w r2) ∧ Inv K σ3)) := fun x hv hx σ2 e2 => by
      intro σ1 e1
      have e : Eqv σ σ1 := (show Eqv σ σ2 by rw [e2]; exact Eqv.s1 (Or.inr (Or.inr (Or.inr (Or.inr rfl))))).tr (by rw [e1]; exact Eqv.s1 scr24)
      have d2 : σ1.1 (11, 0, 0) 12 = R := (e.k11 (by decide) (by decide)).trans a1'
      have d24 : σ1.1 (11, 0, 0) 24 = 0 := by rw [e1, s1_at]
      have d13 : σ1.1 (13, 0, 0) 0 = x := by rw [e1, s1_k (by simp), e2, s1_at]
      have fin : ∀ y, y = x → P_X5_thrown K σ1 (fun r3 σ3 => w r3 = w 0 ∧ (w 0 = 0 → w (σ3.1 (13, 0, 0) 0) = w y) ∧ Inv K σ3) := fun y hy => by
        unfold P_X5_thrown
        exact ⟨by rw [d24], fun _ => by rw [d13, hy], P, R, C, h.eqv e⟩
      refine x5_isRider i1 (by omega) (br01 (fun _ => x5_in (br10 (fun _ => ?_) (fun hn => absurd ?_ hn))) (fun hn => absurd (by omega) hn))
      · simp only [Int.toNat_natCast]
        rw [w_of i2, e.k12 (k := 1) (by decide), e.k12 (k := 6) (by decide), e.k12 (k := 8) (by decide), e.k12 (k := 7) (by decide), e.k12 (k := 9) (by decide), e.k12 (k := 10) (by decide), e.k12 (k := 2) (by decide), e.k12 (k := 5) (by decide), w0 (x := σ.1 (12, 8, 0) r) (by omega) (by omega)]
        refine ⟨fun q => ⟨by omega, by omega, fin _ (by rw [hx]; simp [q])⟩, fun q => ⟨by omega, by omega, fin _ (by rw [hx]; simp [q])⟩, fun q => ⟨by omega, by omega, fun f => ⟨by omega, by omega, fin _ (by rw [hx]; simp [q, f])⟩, fun f => fin _ (by rw [hx]; simp [q, f])⟩, fun q => ⟨by omega, by omega, fin _ (by rw [hx]; simp [q])⟩, fun q => ⟨by omega, by omega, fin _ (by rw [hx]; simp [q])⟩, fun q => ⟨by omega, by omega, fin _ (by rw [hx]; simp [q])⟩, fun q => ⟨by omega, by omega, fin _ ?_⟩⟩
        have : v2 = 6 := by omega
        rw [hx]; simp [this]
      · rw [w_of i2, w0 (x := 0) (by decide) (by decide), w0 (x := 6) (by decide) (by decide)]; exact hv
    rw [w0 (x := σ.1 (12, 8, 0) r) (by omega) (by omega)]
    refine ⟨fun q => ans _ (by omega) (by rw [b0]; simp [q]), fun q => ans _ (by omega) (by rw [b6]; simp [q]), fun q => ⟨fun f => ans _ (by omega) (by rw [b7]; simp [q, f]), fun f => ans _ (by omega) (by simp [q, f])⟩, fun q => ans _ (by omega) (by rw [b8]; simp [q]), fun q => ans _ (by omega) (by rw [b9]; simp [q]), fun q => ans _ (by omega) (by rw [b1]; simp [q]), fun q => ans _ (by omega) (by rw [b4]; simp [q]), fun q => thr (fun z => by omega)⟩
  · exact x4_riderAt_no i1 a3' r6 hr ⟨fun _ => thr (fun q => hr q.1), fun q3 e => by cases e⟩
