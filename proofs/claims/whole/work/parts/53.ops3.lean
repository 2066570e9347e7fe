theorem cntI_zero {p : Nat → Bool} : ∀ m j, cntI p j m = 0 ↔ ∀ i, j ≤ i → i < j + m → p i = false := by
  intro m
  induction m with
  | zero => intro j; simp [cntI]; intro i h1 h2; omega
  | succ m ih =>
    intro j
    have hr := cntI_rng p m (j + 1)
    unfold cntI
    cases h : p j with
    | true =>
      simp
      constructor
      · intro q; omega
      · intro q; have := q j (Nat.le_refl _) (by omega); rw [h] at this; cases this
    | false =>
      simp
      rw [ih]
      constructor
      · intro q i h1 h2
        by_cases e : i = j
        · rw [e]; exact h
        · exact q i (by omega) (by omega)
      · intro q i h1 h2; exact q i (by omega) (by omega)
/-- the last minute of those on duty -/
def lsp (σ : nS) (kind m : Int) (R : Nat) (L : Int) : Prop := (L = -1 ∧ ∀ r, r < R → dty σ kind m r = false) ∨ (∃ r, r < R ∧ dty σ kind m r = true ∧ L = σ.1 (12, 4, 0) r ∧ ∀ r', r' < R → dty σ kind m r' = true → σ.1 (12, 4, 0) r' ≤ L)
theorem x4_last {K : List nKey} {σ : nS} {P R C : Nat} {kind m : Int} {k : Int → nS → Prop} (h : IV K σ P R C) (hm : iR m) :
    ∀ (f j : Nat) (acc : Int), j + f = R → lsp σ kind m j acc → (∀ L, lsp σ kind m R L → k L σ) → P_X4_lastOnDuty_L5 K k m kind (f + 1) acc (j : Int) σ := by
  obtain ⟨a3, a3', a3''⟩ := h.1.2.2.1
  have r6 := h.1.2.1.2.1
  intro f
  induction f with
  | zero =>
    intro j acc hj hs hk
    unfold P_X4_lastOnDuty_L5
    rw [a3', w0 (x := (R : Int)) (by omega) (by omega), w0 (x := (j : Int)) (by omega) (by omega)]
    refine ⟨fun _ => hk acc ?_, fun h => absurd h (by omega)⟩
    rw [show R = j by omega]; exact hs
  | succ f ih =>
    intro j acc hj hs hk
    obtain ⟨⟨hs2, hK⟩, ⟨b0, b1, b2, b3, b4, b6, b7, b8, b9, b10⟩, -, c3, c4, -, -, c8, -⟩ := h.2.2.1 j (by omega)
    obtain ⟨-, ⟨hcy, hfl⟩, -⟩ := (h.d4 kind).2.2.2.2 j (by omega)
    have skip : dty σ kind m j = false → P_X4_lastOnDuty_L5 K k m kind (f + 1) acc ((j : Int) + 1) σ := fun hno => by
      refine ih (j + 1) acc (by omega) ?_ hk
      rcases hs with ⟨e, q⟩ | ⟨r, q1, q2, q3, q4⟩
      · refine Or.inl ⟨e, fun r hr => ?_⟩
        by_cases e : r = j
        · rw [e]; exact hno
        · exact q r (by omega)
      · refine Or.inr ⟨r, by omega, q2, q3, fun r' hr' hd => ?_⟩
        by_cases e : r' = j
        · rw [e, hno] at hd; cases hd
        · exact q4 r' (by omega) hd
    unfold P_X4_lastOnDuty_L5
    rw [a3', w0 (x := (R : Int)) (by omega) (by omega), w0 (x := (j : Int)) (by omega) (by omega)]
    refine ⟨fun h => absurd h (by omega), fun _ => x4_riderAt a3' r6 (by omega) hs2 hK ⟨(fun e => by cases e), fun q4 e => ?_⟩⟩
    cases e
    refine ⟨hK, x4_carries hcy hfl (br01 (fun hc => x4_onDuty hm (by omega) (by omega) (br01 (fun hd x14 e14 x15 e15 => ?_) (fun hd x13 e13 => ?_))) (fun hc x9 e9 => ?_))⟩
    · subst e15
      rw [b2, b3] at hd
      have hdt : dty σ kind m j = true := by unfold dty; rw [hc, decide_eq_true hd]; rfl
      have hacc : -1 ≤ acc ∧ acc ≤ 4319 := by
        rcases hs with ⟨e, -⟩ | ⟨r, q1, -, q3, -⟩
        · omega
        · obtain ⟨-, -, -, -, d4, -⟩ := h.2.2.1 r (by omega)
          omega
      rw [b3, mxI_mx (by omega) (by omega)] at e14
      subst e14
      refine ih (j + 1) _ (by omega) ?_ hk
      unfold mx
      rcases hs with ⟨e, q⟩ | ⟨r, q1, q2, q3, q4⟩
      · rw [if_pos (by omega)]
        refine Or.inr ⟨j, by omega, hdt, rfl, fun r' hr' hd' => ?_⟩
        by_cases e : r' = j
        · rw [e]; exact Int.le_refl _
        · rw [q r' (by omega)] at hd'; cases hd'
      · split
        · refine Or.inr ⟨j, by omega, hdt, rfl, fun r' hr' hd' => ?_⟩
          by_cases e : r' = j
          · rw [e]; exact Int.le_refl _
          · have := q4 r' (by omega) hd'; omega
        · refine Or.inr ⟨r, by omega, q2, q3, fun r' hr' hd' => ?_⟩
          by_cases e : r' = j
          · rw [e]; omega
          · exact q4 r' (by omega) hd'
    · subst e13
      rw [b2, b3] at hd
      exact skip (by unfold dty; rw [decide_eq_false hd]; simp)
    · subst e9
      refine skip ?_
      unfold dty
      cases g : dcy σ kind j with
      | true => exact absurd g hc
      | false => rfl
def psd (σ : nS) (R : Nat) (m : Int) : Nat := cu (fun r => decide (σ.1 (12, 4, 0) r < m)) R
/-- how far the leaps have come -/
def bsp (σ : nS) (kind : Int) (R : Nat) (v1 m : Int) (t : Nat) : Prop := v1 ≤ m ∧ m ≤ 4320 ∧ (∀ x, v1 ≤ x → x < m → cntI (dty σ kind x) 0 R ≠ 0) ∧ (cntI (dty σ kind m) 0 R = 0 ∨ t ≤ psd σ R m)
theorem cu_all {P : Nat → Bool} : ∀ n, n ≤ cu P n → ∀ b, b < n → P b = true := by
  intro n
  induction n with
  | zero => intro _ b hb; omega
  | succ n ih =>
    intro h b hb
    have hn := cu_bound P n
    unfold cu at h
    cases hp : P n with
    | false => rw [hp] at h; simp at h; omega
    | true =>
      rw [hp] at h
      simp at h
      by_cases e : b = n
      · rw [e]; exact hp
      · exact ih h b (by omega)
theorem x4_bare21 {K : List nKey} {σ : nS} {P R C : Nat} {kind v1 : Int} {k : Int → nS → Prop} (h : IV K σ P R C) (h0 : 0 ≤ v1) (hk : ∀ m, v1 ≤ m → m ≤ 4320 → (∀ x, v1 ≤ x → x < m → cntI (dty σ kind x) 0 R ≠ 0) → cntI (dty σ kind m) 0 R = 0 → k (if m ≤ 4319 then m else -1) σ) :
    ∀ (f t : Nat) (m : Int), t + f = 6 → bsp σ kind R v1 m t → P_X4_bare_L21 K k kind (f + 1) m (t : Int) σ := by
  have r6 := h.1.2.1.2.1
  intro f
  induction f with
  | zero =>
    intro t m ht hb
    obtain ⟨b1, b2, b3, b4⟩ := hb
    have hz : cntI (dty σ kind m) 0 R = 0 := by
      rcases b4 with b4 | b4
      · exact b4
      · have := cu_bound (fun r => decide (σ.1 (12, 4, 0) r < m)) R
        unfold psd at b4
        have hall := cu_all (P := fun r => decide (σ.1 (12, 4, 0) r < m)) R (by omega)
        rw [cntI_zero]
        intro i _ hi
        have := of_decide_eq_true (hall i (by omega))
        unfold dty
        rw [decide_eq_false (show ¬ (σ.1 (12, 3, 0) i ≤ m ∧ m ≤ σ.1 (12, 4, 0) i) by omega)]
        simp
    have hkk := hk m b1 b2 b3 hz
    unfold P_X4_bare_L21
    rw [w0 (x := (t : Int)) (by omega) (by omega)]
    refine ⟨fun _ => x4_isMinute ⟨by omega, by omega⟩ (br01 (fun hm => ?_) (fun hm => ?_)), fun h => absurd h (by omega)⟩
    · rw [if_pos hm.2] at hkk; exact hkk
    · rw [if_neg (by omega)] at hkk; exact hkk
  | succ f ih =>
    intro t m ht hb
    obtain ⟨b1, b2, b3, b4⟩ := hb
    unfold P_X4_bare_L21
    rw [w0 (x := (t : Int)) (by omega) (by omega)]
    refine ⟨fun h => absurd h (by omega), fun _ => ⟨R + 1, x4_last h ⟨by omega, by omega⟩ R 0 (-1) (by omega) (Or.inl ⟨rfl, fun r hr => absurd hr (Nat.not_lt_zero r)⟩) (fun L hL x7 e7 x8 e8 => ?_)⟩⟩
    subst e8
    rcases hL with ⟨e, q⟩ | ⟨r, q1, q2, q3, q4⟩
    · have e7' : x7 = m := by rw [e7, e, mxI_mx (by omega) (by omega)]; unfold mx; split <;> omega
      rw [e7']
      exact ih (t + 1) m (by omega) ⟨b1, b2, b3, Or.inl (by rw [cntI_zero]; exact fun i _ hi => q i (by omega))⟩
    · obtain ⟨-, -, -, d3, d4, -⟩ := h.2.2.1 r q1
      have hon : σ.1 (12, 3, 0) r ≤ m ∧ m ≤ σ.1 (12, 4, 0) r := by
        unfold dty at q2
        rw [Bool.and_eq_true] at q2
        exact of_decide_eq_true q2.2
      have hcy : dcy σ kind r = true := by
        unfold dty at q2
        rw [Bool.and_eq_true] at q2
        exact q2.1
      have e7' : x7 = 1 + L := by rw [e7, mxI_mx (by omega) (by omega)]; unfold mx; split <;> omega
      rw [e7']
      refine ih (t + 1) (1 + L) (by omega) ⟨by omega, by omega, fun x hx1 hx2 => ?_, ?_⟩
      · by_cases hxm : x < m
        · exact b3 x hx1 hxm
        · intro hz
          rw [cntI_zero] at hz
          have := hz r (Nat.zero_le _) (by omega)
          unfold dty at this
          rw [hcy, decide_eq_true (show σ.1 (12, 3, 0) r ≤ x ∧ x ≤ σ.1 (12, 4, 0) r by omega)] at this
          cases this
      · right
        have hlt : psd σ R m < psd σ R (1 + L) := by
          refine cu_lt R (fun b _ hb => ?_) ⟨r, q1, ?_, ?_⟩
          · exact decide_eq_true (by have := of_decide_eq_true hb; omega)
          · exact decide_eq_true (by omega)
          · exact decide_eq_false (by omega)
        rcases b4 with b4 | b4
        · rw [cntI_zero] at b4
          rw [b4 r (Nat.zero_le _) (by omega)] at q2
          cases q2
        · omega
theorem x5_bare29 {K : List nKey} {P R C : Nat} {kind e : Int} {k : Int → nS → Prop} :
    ∀ (f : Nat) (m : Int) (σ : nS), IV K σ P R C → 0 ≤ m → m + f = e → e ≤ 4320 → (∀ x, m ≤ x → x < e → cntI (dty σ kind x) 0 R ≠ 0) → cntI (dty σ kind e) 0 R = 0 → k (if e ≤ 4319 then e else -1) σ → P_X5_bare_L29 K k kind (f + 1) m σ := by
  intro f
  induction f with
  | zero =>
    intro m σ h h0 hm he hb hz hk
    have hm' : m = e := by omega
    subst hm'
    unfold P_X5_bare_L29
    rw [w0 (x := m) (by omega) (by omega)]
    refine ⟨fun q => ?_, fun q => ⟨R + 1, x5_duty5 h ⟨by omega, by omega⟩ R 0 0 (by omega) ?_⟩⟩
    · rw [if_neg (by omega)] at hk; exact hk
    · rw [hz]
      rw [if_pos q] at hk
      exact ⟨fun q => absurd rfl q, fun _ => hk⟩
  | succ f ih =>
    intro m σ h h0 hm he hb hz hk
    have r6 := h.1.2.1.2.1
    unfold P_X5_bare_L29
    rw [w0 (x := m) (by omega) (by omega)]
    refine ⟨fun q => absurd q (by omega), fun q => ⟨R + 1, x5_duty5 h ⟨by omega, by omega⟩ R 0 0 (by omega) ?_⟩⟩
    have hne := hb m (Int.le_refl _) (by omega)
    have hr := cntI_rng (dty σ kind m) R 0
    rw [w0 (x := 0 + cntI (dty σ kind m) 0 R) (by omega) (by omega)]
    refine ⟨fun _ x5 ex => ?_, fun q => absurd q (by omega)⟩
    subst ex
    exact ih (m + 1) σ h (by omega) (by omega) he (fun x h1 h2 => hb x (by omega) h2) hz hk
theorem ok_bare : OK_bare Inv := by
  intro K σ v1 v2 hKC hKS h13 i1 i2 hI
  obtain ⟨P, R, C, h⟩ := hI
  have bad : ¬ ((0 ≤ v1 ∧ v1 ≤ 4319) ∧ (0 ≤ v2 ∧ v2 ≤ 3)) → P_X5_bare K σ v1 v2 (fun r2 σ2 => w (-1) = w r2 ∧ Inv K σ2) := fun hn => by
    intro σ1 e1
    have hI1 : Inv K σ1 := ⟨P, R, C, h.eqv (by rw [e1]; exact Eqv.s1 scr24)⟩
    refine x5_in (br01 (fun h1 => x5_in (br10 (fun h2 => absurd ⟨?_, ?_⟩ hn) (fun _ => ⟨rfl, hI1⟩))) (fun _ => ⟨rfl, hI1⟩))
    · rw [w_of i1, w0 (x := 0) (by decide) (by decide), w0 (x := 4319) (by decide) (by decide)] at h1; exact h1
    · rw [w_of i2, w0 (x := 0) (by decide) (by decide), w0 (x := 3) (by decide) (by decide)] at h2; exact h2
  unfold P_X4_bare
  refine x4_isMinute i1 (br01 (fun h1 => x4_isKind i2 (br10 (fun h2 => ⟨6 + 1, ?_⟩) (fun h2 => bad (fun q => h2 q.2)))) (fun h1 => bad (fun q => h1 q.1)))
  refine x4_bare21 h h1.1 (fun m m1 m2 m3 m4 => ?_) 6 0 v1 (by omega) ⟨Int.le_refl _, by omega, fun x h1 h2 => by omega, Or.inr (Nat.zero_le _)⟩
  intro σ1 e1
  have e : Eqv σ σ1 := by rw [e1]; exact Eqv.s1 scr24
  refine x5_in (br01 (fun _ => x5_in (br10 (fun _ => ⟨(m - v1).toNat + 1, ?_⟩) (fun hn => absurd ?_ hn))) (fun hn => absurd ?_ hn))
  · refine x5_bare29 (e := m) (m - v1).toNat v1 σ1 (h.eqv e) h1.1 (by omega) m2 (fun x q1 q2 => ?_) ?_ ⟨rfl, P, R, C, h.eqv e⟩
    · rw [dty_eqv e]; exact m3 x q1 q2
    · rw [dty_eqv e]; exact m4
  · rw [w_of i2, w0 (x := 0) (by decide) (by decide), w0 (x := 3) (by decide) (by decide)]; exact h2
  · rw [w_of i1, w0 (x := 0) (by decide) (by decide), w0 (x := 4319) (by decide) (by decide)]; exact h1
