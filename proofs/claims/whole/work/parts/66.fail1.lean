/-! fail: whether a leg may fail -/
abbrev unf (σ : nS) (c i m : Nat) : Prop := ∀ j, i ≤ j → j < m → ML σ c j 5 = 0
theorem x4_may31 {K : List nKey} {σ : nS} {P R C c m : Nat} {k : Int → nS → Prop} (h : IV K σ P R C) (hc : c < C) (hm : LM σ c = m) :
    ∀ f j, j + f = m → (unf σ c j m → k 1 σ) → (¬ unf σ c j m → k 0 σ) → P_X4_mayFail_L31 K k c (f + 1) (j : Int) σ := by
  obtain ⟨m', e1, e2, e3, e4, -⟩ := h.call hc
  have : m' = m := by omega
  subst this
  clear h
  intro f
  induction f with
  | zero =>
    intro j hj hy hn
    unfold P_X4_mayFail_L31
    rw [e3, w0 (x := (j : Int)) (by omega) (by omega), w0 (x := (m' : Int)) (by omega) (by omega)]
    exact ⟨fun _ => hy (fun j' h1 h2 => absurd h2 (by omega)), fun q => absurd q (by omega)⟩
  | succ f ih =>
    intro j hj hy hn
    obtain ⟨n, n1, n2, ⟨l0, l1, l5, l2, l6, l7, l3, l4⟩, n4⟩ := e4 j (by omega)
    have n45 := n4.2.2.2.1
    unfold P_X4_mayFail_L31
    rw [e3, w0 (x := (j : Int)) (by omega) (by omega), w0 (x := (m' : Int)) (by omega) (by omega)]
    refine ⟨fun q => absurd q (by omega), fun _ => x2_legAt (by omega) (by omega) n1 n2 ⟨(fun e => by cases e), fun q4 e => ?_⟩⟩
    cases e
    refine ⟨n2, ?_⟩
    rw [l7]
    rcases n45 with z | z <;> rw [z]
    · refine ⟨fun _ x7 ex => ?_, fun q => absurd (by decide) q⟩
      subst ex
      refine ih (j + 1) (by omega) (fun q => hy (fun j' h1 h2 => ?_)) (fun q => hn (fun q' => q (fun j' h1 h2 => q' j' (by omega) h2)))
      by_cases e : j' = j
      · rw [e]; exact z
      · exact q j' (by omega) h2
    · refine ⟨fun q => absurd q (by decide), fun _ => hn (fun q => ?_)⟩
      have := q j (Nat.le_refl _) (by omega)
      omega
theorem x4_mayFail {K : List nKey} {σ : nS} {P R C c m : Nat} {v2 v3 : Int} {k : Int → nS → Prop} (h : IV K σ P R C) (hc : c < C) (hm : LM σ c = m) (i2 : iR v2) (i3 : iR v3)
    (hy : ∀ i : Nat, v2 = i → i < m → ML σ c i 3 ≤ v3 → v3 ≤ ML σ c i 4 → unf σ c i m → k 1 σ) (hn : ¬ (0 ≤ v2 ∧ v2 < m ∧ ML σ c v2.toNat 3 ≤ v3 ∧ v3 ≤ ML σ c v2.toNat 4 ∧ unf σ c v2.toNat m) → k 0 σ) : P_X4_mayFail K σ c v2 v3 k := by
  obtain ⟨m', e1, e2, e3, e4, -⟩ := h.call hc
  have : m' = m := by omega
  subst this
  unfold P_X4_mayFail
  by_cases hi : 0 ≤ v2 ∧ v2 < m'
  · obtain ⟨i, rfl⟩ : ∃ i : Nat, v2 = i := ⟨v2.toNat, by omega⟩
    rw [Int.toNat_natCast] at hn
    obtain ⟨n, n1, n2, ⟨l0, l1, l5, l2, l6, l7, l3, l4⟩, n4⟩ := e4 i (by omega)
    have n34 := n4.2.2.1
    refine x2_legAt (by omega) (by omega) n1 n2 ⟨(fun e => by cases e), fun q4 e => ?_⟩
    cases e
    refine ⟨n2, ?_⟩
    rw [l2, l6, w_of i3, w0 (x := ML σ c i 3) (by omega) (by omega), w0 (x := ML σ c i 4) (by omega) (by omega)]
    refine ⟨fun q => hn (fun z => by omega), fun q1 => ⟨fun q2 => ⟨m' - i + 1, x4_may31 h hc hm (m' - i) i (by omega) (fun q3 => hy i rfl (by omega) q1 q2 q3) (fun q3 => hn (fun z => q3 z.2.2.2.2))⟩, fun q => hn (fun z => by omega)⟩⟩
  · exact x2_legAt_no i2 (by omega) (by omega) (by omega) ⟨fun _ => hn (fun z => hi ⟨z.1, z.2.1⟩), fun q6 e => by cases e⟩
/-! legs that are not ridden, from the last one on -/
def dU (rd : Nat → Nat) (g : Nat → Int → Int) (A0 : Nat → Int) : Nat → Nat → Int
  | 0 => A0
  | j + 1 => fun r => if r = rd j then g j (dU rd g A0 j r) else dU rd g A0 j r
theorem dU_congr {rd : Nat → Nat} {g : Nat → Int → Int} {A0 B0 : Nat → Int} {r : Nat} (h : A0 r = B0 r) : ∀ j, dU rd g A0 j r = dU rd g B0 j r := by
  intro j
  induction j with
  | zero => exact h
  | succ j ih => unfold dU; rw [ih]
theorem dU_prop {rd : Nat → Nat} {g : Nat → Int → Int} {A0 : Nat → Int} {r : Nat} {p : Int → Prop} (h : p (A0 r)) : ∀ d, (∀ j x, j < d → p x → p (g j x)) → p (dU rd g A0 d r) := by
  intro d
  induction d with
  | zero => intro _; exact h
  | succ d ih =>
    intro hg
    have h1 := ih (fun j x hj => hg j x (by omega))
    unfold dU
    by_cases e : r = rd d
    · rw [if_pos e]; exact hg d _ (by omega) h1
    · rw [if_neg e]; exact h1
theorem dU_out {rd : Nat → Nat} {g : Nat → Int → Int} {A0 : Nat → Int} {r : Nat} : ∀ d, (∀ j, j < d → rd j ≠ r) → dU rd g A0 d r = A0 r := by
  intro d
  induction d with
  | zero => intro _; rfl
  | succ d ih =>
    intro hg
    have h1 := ih (fun j hj => hg j (by omega))
    unfold dU
    rw [if_neg (fun e => hg d (by omega) e.symm), h1]
abbrev dR (σ : nS) (c m : Nat) (j : Nat) : Nat := (ML σ c (m - 1 - j) 0).toNat
abbrev dA (σ : nS) (c m : Nat) (A0 : Nat → Int) : Nat → Nat → Int := dU (dR σ c m) (fun j _ => ML σ c (m - 1 - j) 6) A0
abbrev dB (σ : nS) (c m : Nat) (A0 : Nat → Int) : Nat → Nat → Int := dU (dR σ c m) (fun j _ => ML σ c (m - 1 - j) 7) A0
abbrev dQ (σ : nS) (c m : Nat) (A0 : Nat → Int) : Nat → Nat → Int := dU (dR σ c m) (fun _ x => x - 1) A0
abbrev dM (σ : nS) (c m : Nat) (A0 : Nat → Int) : Nat → Nat → Int := dU (dR σ c m) (fun j x => x - (ML σ c (m - 1 - j) 4 - ML σ c (m - 1 - j) 3)) A0
theorem dU_s {rd : Nat → Nat} {g : Nat → Int → Int} {A0 : Nat → Int} {j r : Nat} : dU rd g A0 (j + 1) r = if r = rd j then g j (dU rd g A0 j r) else dU rd g A0 j r := rfl
/-- the class behind d of them -/
def DC (σ0 : nS) (c m d : Nat) (σ : nS) : Prop :=
  σ.2 = σ0.2 ∧ (∀ κ : nKey, (∀ r, κ ≠ (6, r, 0)) → σ.1 κ = σ0.1 κ) ∧
  ∀ r, σ.1 (6, r, 0) 6 = dA σ0 c m (fun r => σ0.1 (6, r, 0) 6) d r ∧ σ.1 (6, r, 0) 7 = dB σ0 c m (fun r => σ0.1 (6, r, 0) 7) d r ∧ σ.1 (6, r, 0) 8 = dQ σ0 c m (fun r => σ0.1 (6, r, 0) 8) d r ∧ σ.1 (6, r, 0) 9 = dM σ0 c m (fun r => σ0.1 (6, r, 0) 9) d r ∧ ∀ z, z ≠ 6 → z ≠ 7 → z ≠ 8 → z ≠ 9 → σ.1 (6, r, 0) z = σ0.1 (6, r, 0) z
set_option maxHeartbeats 1000000 in
theorem x4_drop7 {K : List nKey} {σ0 : nS} {P R C c m i : Nat} {k : nS → Prop} (h : IV K σ0 P R C) (hc : c < C) (hm : LM σ0 c = m) (hi : i < m) (hk : ∀ σ, DC σ0 c m (m - 1 - i) σ → k (s1 σ (8, c, 0) 6 ((i : Int) + 1))) :
    ∀ f d σ, d + f = m - 1 - i → DC σ0 c m d σ → P_X4_dropLegsBehind_L7 K k c (i : Int) (f + 1) ((m - 1 - d : Nat) : Int) σ := by
  obtain ⟨m', e1, e2, e3, e4, -⟩ := h.call hc
  have : m' = m := by omega
  subst this
  obtain ⟨-, ⟨p8, r6, c40⟩, ⟨a3, a3', a3''⟩, -⟩ := id h.1
  have hR := h.2.2.1
  clear h
  intro f
  induction f with
  | zero =>
    intro d σ hd hx
    have hd' : d = m' - 1 - i := by omega
    unfold P_X4_dropLegsBehind_L7
    rw [w0 (x := ((m' - 1 - d : Nat) : Int)) (by omega) (by omega), w0 (x := (i : Int)) (by omega) (by omega)]
    refine ⟨fun _ σ2 e2 => ?_, fun q => absurd q (by omega)⟩
    rw [e2]
    exact hk σ (by rw [← hd']; exact hx)
  | succ f ih =>
    intro d σ hd hx
    obtain ⟨h1, h2, h3⟩ := hx
    obtain ⟨n, n1, n2, ⟨l0, l1, l5, l2, l6, l7, l3, l4⟩, n4⟩ := e4 (m' - 1 - d) (by omega)
    have hrd : ((dR σ0 c m' d : Nat) : Int) = ML σ0 c (m' - 1 - d) 0 := by have := n4.1; unfold dR; omega
    have hrR : dR σ0 c m' d < R := by have := n4.1; omega
    obtain ⟨⟨r2, rK⟩, -⟩ := hR _ hrR
    have c8 : σ.1 (8, c, 0) 6 = (m' : Int) := by rw [h2 _ (by simp)]; exact e3
    have c10 : σ.1 (10, n, 0) = σ0.1 (10, n, 0) := h2 _ (by simp)
    have c0 : σ.1 (0, 0, 0) 6 = R := by rw [h2 _ (by simp)]; exact a3'
    unfold P_X4_dropLegsBehind_L7
    rw [w0 (x := ((m' - 1 - d : Nat) : Int)) (by omega) (by omega), w0 (x := (i : Int)) (by omega) (by omega)]
    refine ⟨fun q => absurd q (by omega), fun _ => x2_legAt (by omega) (by omega) (by rw [h1]; exact n1) n2 ⟨(fun e => by cases e), fun q5 e => ?_⟩⟩
    cases e
    refine ⟨n2, ?_⟩
    rw [c10, l0, ← hrd]
    refine x4_riderAt c0 r6 hrR (by rw [h1]; exact r2) rK ⟨(fun e => by cases e), fun q9 e => ?_⟩
    cases e
    refine ⟨rK, fun σ11 e11 σ12 e12 σ13 e13 σ14 e14 x15 ex => ?_⟩
    rw [c10, l3] at e11
    have t12 : σ11.1 (10, n, 0) = σ0.1 (10, n, 0) := by rw [e11, s1_k (by simp), c10]
    rw [t12, l4] at e12
    have t14 : σ13.1 (10, n, 0) = σ0.1 (10, n, 0) := by rw [e13, s1_k (by simp), e12, s1_k (by simp), t12]
    rw [t14, l6, l2] at e14
    obtain ⟨p6, p7, p8', p9, po⟩ := h3 (dR σ0 c m' d)
    have t13 : σ12.1 (6, dR σ0 c m' d, 0) 8 = dQ σ0 c m' (fun r => σ0.1 (6, r, 0) 8) d (dR σ0 c m' d) := by rw [e12, s1_i (by decide), e11, s1_i (by decide)]; exact p8'
    rw [t13] at e13
    have t9 : σ13.1 (6, dR σ0 c m' d, 0) 9 = dM σ0 c m' (fun r => σ0.1 (6, r, 0) 9) d (dR σ0 c m' d) := by rw [e13, s1_i (by decide), e12, s1_i (by decide), e11, s1_i (by decide)]; exact p9
    rw [t9] at e14
    have ex' : x15 = ((m' - 1 - (d + 1) : Nat) : Int) := by omega
    rw [ex']
    refine ih (d + 1) σ14 (by omega) ⟨by rw [e14, s1_2, e13, s1_2, e12, s1_2, e11, s1_2, h1], fun κ hκ => ?_, fun r => ?_⟩
    · rw [e14, s1_k (hκ _), e13, s1_k (hκ _), e12, s1_k (hκ _), e11, s1_k (hκ _)]; exact h2 κ hκ
    · unfold dA dB dQ dM
      rw [dU_s, dU_s, dU_s, dU_s]
      by_cases e : r = dR σ0 c m' d
      · rw [if_pos e, if_pos e, if_pos e, if_pos e]
        rw [e]
        refine ⟨?_, ?_, ?_, ?_, fun z z6 z7 z8 z9 => ?_⟩
        · rw [e14, s1_i (by decide), e13, s1_i (by decide), e12, s1_i (by decide), e11, s1_at]
        · rw [e14, s1_i (by decide), e13, s1_i (by decide), e12, s1_at]
        · rw [e14, s1_i (by decide), e13, s1_at]
        · rw [e14, s1_at]
        · rw [e14, s1_i z9, e13, s1_i z8, e12, s1_i z7, e11, s1_i z6]; exact po z z6 z7 z8 z9
      · rw [if_neg e, if_neg e, if_neg e, if_neg e]
        have hne : ((6, r, 0) : nKey) ≠ (6, dR σ0 c m' d, 0) := fun q => e (by simpa using q)
        rw [e14, s1_k hne, e13, s1_k hne, e12, s1_k hne, e11, s1_k hne]
        exact h3 r
