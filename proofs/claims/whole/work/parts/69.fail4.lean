/-! fail: the model -/
def Good (σ : nS) (C : Nat) (v1 v2 v3 : Int) : Prop := (0 ≤ v1 ∧ v1 < C) ∧ v1 = σ.1 (11, 0, 0) 21 ∧ (0 ≤ v2 ∧ v2 < LM σ v1.toNat) ∧ (ML σ v1.toNat v2.toNat 3 ≤ v3 ∧ v3 ≤ ML σ v1.toNat v2.toNat 4) ∧ unf σ v1.toNat v2.toNat (LM σ v1.toNat).toNat
theorem x5_fail80 {K : List nKey} {σ : nS} {k : Int → nS → Prop} {c m : Nat} {v2 v3 v4 : Int} (c4 : c < 40) (hm : LM σ c = m) (h18 : m ≤ 18) (h5 : ∀ j, j < m → ML σ c j 5 = 0 ∨ ML σ c j 5 = 1) (hy : ∃ f, P_X5_fail_L130 K k (c : Int) v2 v3 f v4 ((m : Int) - 1) σ) :
    ∀ f j, j + f = m → unf σ c j m → P_X5_fail_L80 K k (c : Int) v2 v3 (f + 1) v4 (j : Int) σ := by
  unfold LM at hm
  intro f
  induction f with
  | zero =>
    intro j hj hu
    unfold P_X5_fail_L80
    simp only [Int.toNat_natCast]
    rw [hm, w0 (x := (j : Int)) (by omega) (by omega), w0 (x := (m : Int)) (by omega) (by omega)]
    refine ⟨by omega, by omega, fun _ => ⟨by omega, by omega, fun x85 ex => ?_⟩, fun q => absurd q (by omega)⟩
    subst ex
    exact hy
  | succ f ih =>
    intro j hj hu
    have hz := hu j (Nat.le_refl _) (by omega)
    unfold P_X5_fail_L80
    simp only [Int.toNat_natCast]
    rw [hm, w0 (x := (j : Int)) (by omega) (by omega), w0 (x := (m : Int)) (by omega) (by omega), show (8 * (24 * (c : Int) + (j : Int)) + 5).toNat = 8 * (24 * c + j) + 5 by omega]
    unfold ML at hz
    rw [hz]
    refine ⟨by omega, by omega, fun q => absurd q (by omega), fun _ => ⟨by omega, by omega, fun _ x90 ex => ?_, fun q => absurd q (by decide)⟩⟩
    subst ex
    exact ih (j + 1) (by omega) (fun j' h1 h2 => hu j' (by omega) h2)
theorem x5_fail80n {K : List nKey} {σ : nS} {k : Int → nS → Prop} {c m : Nat} {v2 v3 v4 : Int} (c4 : c < 40) (hm : LM σ c = m) (h18 : m ≤ 18) (h5 : ∀ j, j < m → ML σ c j 5 = 0 ∨ ML σ c j 5 = 1) (hk : k (-1) σ) :
    ∀ f j, j + f = m → ¬ unf σ c j m → P_X5_fail_L80 K k (c : Int) v2 v3 (f + 1) v4 (j : Int) σ := by
  unfold LM at hm
  intro f
  induction f with
  | zero => intro j hj hu; exact absurd (fun j' h1 h2 => absurd h2 (by omega)) hu
  | succ f ih =>
    intro j hj hu
    have hz := h5 j (by omega)
    unfold P_X5_fail_L80
    simp only [Int.toNat_natCast]
    rw [hm, w0 (x := (j : Int)) (by omega) (by omega), w0 (x := (m : Int)) (by omega) (by omega), show (8 * (24 * (c : Int) + (j : Int)) + 5).toNat = 8 * (24 * c + j) + 5 by omega]
    rcases hz with z | z
    · have z' := z
      unfold ML at z
      rw [z]
      refine ⟨by omega, by omega, fun q => absurd q (by omega), fun _ => ⟨by omega, by omega, fun _ x90 ex => ?_, fun q => absurd q (by decide)⟩⟩
      subst ex
      refine ih (j + 1) (by omega) (fun q => hu (fun j' h1 h2 => ?_))
      by_cases e : j' = j
      · rw [e]; exact z'
      · exact q j' (by omega) h2
    · unfold ML at z
      rw [z]
      exact ⟨by omega, by omega, fun q => absurd q (by omega), fun _ => ⟨by omega, by omega, fun q => absurd (by decide) q, fun _ => hk⟩⟩
set_option maxHeartbeats 1000000 in
theorem x5_failT {K K1 : List nKey} {σ σa : nS} {P R C : Nat} {v1 v2 v3 : Int} {k : Int → nS → Prop} (h : IV K σ P R C) (i1 : iR v1) (i2 : iR v2) (i3 : iR v3) (y12 : ∀ k, k < 19 → σa.1 (12, k, 0) = σ.1 (12, k, 0)) (y11 : ∀ i, i ≠ 24 → i ≠ 34 → σa.1 (11, 0, 0) i = σ.1 (11, 0, 0) i)
    (hno : ∀ σ1, σ1 = s1 σa (11, 0, 0) 24 0 → ¬ Good σ C v1 v2 v3 → k (-1) σ1) (hyes : ∀ σ1, σ1 = s1 σa (11, 0, 0) 24 0 → Good σ C v1 v2 v3 → ∃ f, P_X5_fail_L130 K1 k v1 v2 v3 f (8 * ((24 * v1) + v2)) (LM σ v1.toNat - 1) σ1) : P_X5_fail K1 σa v1 v2 v3 k := by
  obtain ⟨⟨a1, a1', a1''⟩, ⟨p8, r6, c40⟩, -, -, a7⟩ := id h.1
  intro σ1 q1
  have g12 : ∀ k, k < 19 → σ1.1 (12, k, 0) = σ.1 (12, k, 0) := fun k hk => by rw [q1, s1_k (by simp), y12 k hk]
  have g11 : ∀ i, i ≠ 24 → i ≠ 34 → σ1.1 (11, 0, 0) i = σ.1 (11, 0, 0) i := fun i h1 h2 => by rw [q1, s1_i h1, y11 i h1 h2]
  have d : σ1.1 (11, 0, 0) 20 = C := (g11 20 (by decide) (by decide)).trans a1''
  have d21 : σ1.1 (11, 0, 0) 21 = σ.1 (11, 0, 0) 21 := g11 21 (by decide) (by decide)
  have no := hno σ1 q1
  have yes := hyes σ1 q1
  clear hno hyes
  refine x5_isCall i1 (by omega) (br01 (fun hq => ?_) (fun hq => no (fun z => hq (by have := z.1; omega))))
  rw [d21, w_of i1, w0 (x := σ.1 (11, 0, 0) 21) (by omega) (by omega)]
  refine ⟨fun q => no (fun z => q z.2.1), fun ql => ⟨by omega, by omega, ?_⟩⟩
  obtain ⟨c, rfl⟩ : ∃ c : Nat, v1 = c := ⟨v1.toNat, by omega⟩
  have hc : c < C := by omega
  obtain ⟨m, e1, e2, e3, e4, -⟩ := h.call hc
  simp only [Int.toNat_natCast]
  have f18 : σ1.1 (12, 18, 0) c = (m : Int) := by rw [g12 18 (by decide)]; exact e1
  rw [f18]
  unfold Good at no yes
  simp only [Int.toNat_natCast] at no yes
  rw [e1, Int.toNat_natCast] at no yes
  refine x5_in (br10 (fun q2 => ?_) (fun q2 => no (fun z => q2 ?_)))
  rotate_left
  · rw [w_of i2, w0 (x := 0) (by decide) (by decide), w0 (x := (m : Int) - 1) (by omega) (by omega)]; have := z.2.2.1; omega
  rw [w_of i2, w0 (x := 0) (by decide) (by decide), w0 (x := (m : Int) - 1) (by omega) (by omega)] at q2
  obtain ⟨i, rfl⟩ : ∃ i : Nat, v2 = i := ⟨v2.toNat, by omega⟩
  obtain ⟨n, n1, n2, n3⟩ := e4 i (by omega)
  have n34 := n3.2.2.2.1
  simp only [Int.toNat_natCast] at no yes
  intro x101 e101
  rw [show (x101 + 3).toNat = 8 * (24 * c + i) + 3 by omega, show (x101 + 4).toNat = 8 * (24 * c + i) + 4 by omega, g12 17 (by decide)]
  subst e101
  refine ⟨by omega, by omega, by omega, by omega, x5_in (br10 (fun q3 => ?_) (fun q3 => no (fun z => q3 ?_)))⟩
  rotate_left
  · rw [w_of i3, w0 (x := ML σ c i 3) (by omega) (by omega), w0 (x := ML σ c i 4) (by omega) (by omega)]; exact z.2.2.2.1
  rw [w_of i3, w0 (x := ML σ c i 3) (by omega) (by omega), w0 (x := ML σ c i 4) (by omega) (by omega)] at q3
  have hML : ∀ j f, ML σ1 c j f = ML σ c j f := fun j f => by unfold ML; rw [g12 17 (by decide)]
  have h5 : ∀ j, j < m → ML σ1 c j 5 = 0 ∨ ML σ1 c j 5 = 1 := fun j hj => by
    obtain ⟨n', -, -, n6⟩ := e4 j hj
    rw [hML]; exact n6.2.2.2.2.1
  have hun : ∀ j, unf σ1 c j m ↔ unf σ c j m := fun j => ⟨fun q j' h1 h2 => by rw [← hML]; exact q j' h1 h2, fun q j' h1 h2 => by rw [hML]; exact q j' h1 h2⟩
  by_cases hu : unf σ c i m
  · exact ⟨m - i + 1, x5_fail80 (by omega) f18 e2 h5 (yes ⟨⟨by omega, by omega⟩, ql, ⟨by omega, by omega⟩, q3, hu⟩) (m - i) i (by omega) ((hun i).mpr hu)⟩
  · exact ⟨m - i + 1, x5_fail80n (by omega) f18 e2 h5 (no (fun z => hu z.2.2.2.2)) (m - i) i (by omega) (fun q => hu ((hun i).mp q))⟩
/-- the model behind d legs that are not ridden -/
def MC (σ0 : nS) (c m d : Nat) (σa σ : nS) : Prop :=
  σ.2 = σa.2 ∧ (∀ κ : nKey, κ ≠ (12, 6, 0) → κ ≠ (12, 7, 0) → κ ≠ (12, 9, 0) → κ ≠ (12, 10, 0) → σ.1 κ = σa.1 κ) ∧
  ∀ r, σ.1 (12, 6, 0) r = dA σ0 c m (σ0.1 (12, 6, 0)) d r ∧ σ.1 (12, 7, 0) r = dB σ0 c m (σ0.1 (12, 7, 0)) d r ∧ σ.1 (12, 9, 0) r = dQ σ0 c m (σ0.1 (12, 9, 0)) d r ∧ σ.1 (12, 10, 0) r = dM σ0 c m (σ0.1 (12, 10, 0)) d r
set_option maxHeartbeats 1000000 in
theorem x5_drop130 {K K1 : List nKey} {σ0 σa : nS} {P R C c m i : Nat} {v3 v4 : Int} {k : Int → nS → Prop} (h : IV K σ0 P R C) (hc : c < C) (hm : LM σ0 c = m) (hi : i < m) (ha : σa.1 (12, 17, 0) = σ0.1 (12, 17, 0)) (hk : ∀ σ, MC σ0 c m (m - 1 - i) σa σ → P_X5_fail_L130 K1 k (c : Int) (i : Int) v3 1 v4 (i : Int) σ) :
    ∀ f d σ, d + f = m - 1 - i → MC σ0 c m d σa σ → P_X5_fail_L130 K1 k (c : Int) (i : Int) v3 (f + 1) v4 ((m - 1 - d : Nat) : Int) σ := by
  obtain ⟨m', e1, e2, e3, e4, -⟩ := h.call hc
  have : m' = m := by omega
  subst this
  obtain ⟨-, ⟨p8, r6, c40⟩, -⟩ := id h.1
  clear h
  intro f
  induction f with
  | zero =>
    intro d σ hd hx
    have hd' : d = m' - 1 - i := by omega
    rw [show m' - 1 - d = i by omega]
    exact hk σ (by rw [← hd']; exact hx)
  | succ f ih =>
    intro d σ hd hx
    obtain ⟨h1, h2, h3⟩ := hx
    obtain ⟨n, n1, n2, -, n4⟩ := e4 (m' - 1 - d) (by omega)
    have hrd : ((dR σ0 c m' d : Nat) : Int) = ML σ0 c (m' - 1 - d) 0 := by have := n4.1; unfold dR; omega
    have hrR : dR σ0 c m' d < 6 := by have := n4.1; omega
    have h17 : σ.1 (12, 17, 0) = σ0.1 (12, 17, 0) := by rw [h2 _ (by simp) (by simp) (by simp) (by simp), ha]
    obtain ⟨B, hB⟩ : ∃ B : Nat, B = 8 * (24 * c + (m' - 1 - d)) := ⟨_, rfl⟩
    have hBl : B + 8 ≤ 7680 := by omega
    unfold P_X5_fail_L130
    rw [w0 (x := ((m' - 1 - d : Nat) : Int)) (by omega) (by omega), w0 (x := (i : Int)) (by omega) (by omega)]
    refine ⟨fun q => absurd q (by omega), fun _ x51 e51 => ?_⟩
    have e51' : x51 = (B : Int) := by rw [e51, hB]; omega
    subst e51'
    clear e51
    refine ⟨by omega, by omega, fun x54 e54 => ?_⟩
    have e54' : x54 = ((dR σ0 c m' d : Nat) : Int) := by
      rw [e54, hrd, h17, Int.toNat_natCast]
      unfold ML
      rw [← hB, Nat.add_zero]
    subst e54'
    clear e54
    have hl : ∀ f, ML σ0 c (m' - 1 - d) f = σ0.1 (12, 17, 0) (B + f) := fun f => by unfold ML; rw [← hB]
    simp only [Int.toNat_natCast]
    rw [show ((B : Int) + 6).toNat = B + 6 by omega, show ((B : Int) + 7).toNat = B + 7 by omega, show ((B : Int) + 3).toNat = B + 3 by omega, show ((B : Int) + 4).toNat = B + 4 by omega]
    refine ⟨by omega, by omega, by omega, by omega, fun σ57 e57 => ⟨by omega, by omega, by omega, by omega, fun σ62 e62 => ⟨by omega, by omega, by omega, by omega, fun σ67 e67 => ⟨by omega, by omega, by omega, by omega, by omega, by omega, by omega, by omega, fun σ76 e76 x79 ex => ?_⟩⟩⟩⟩
    obtain ⟨p6, p7, p9, p10⟩ := h3 (dR σ0 c m' d)
    rw [h17, ← hl] at e57
    have s57 : σ57.1 (12, 17, 0) = σ0.1 (12, 17, 0) := by rw [e57, s1_k (by simp), h17]
    rw [s57, ← hl] at e62
    have s62 : σ62.1 (12, 9, 0) (dR σ0 c m' d) = dQ σ0 c m' (σ0.1 (12, 9, 0)) d (dR σ0 c m' d) := by rw [e62, s1_k (by simp), e57, s1_k (by simp)]; exact p9
    rw [s62] at e67
    have s67 : σ67.1 (12, 17, 0) = σ0.1 (12, 17, 0) := by rw [e67, s1_k (by simp), e62, s1_k (by simp), s57]
    have t67 : σ67.1 (12, 10, 0) (dR σ0 c m' d) = dM σ0 c m' (σ0.1 (12, 10, 0)) d (dR σ0 c m' d) := by rw [e67, s1_k (by simp), e62, s1_k (by simp), e57, s1_k (by simp)]; exact p10
    rw [t67, s67, ← hl, ← hl] at e76
    have ex' : x79 = ((m' - 1 - (d + 1) : Nat) : Int) := by omega
    rw [ex']
    refine ih (d + 1) σ76 (by omega) ⟨by rw [e76, s1_2, e67, s1_2, e62, s1_2, e57, s1_2, h1], fun κ k6 k7 k9 k10 => ?_, fun r => ?_⟩
    · rw [e76, s1_k k10, e67, s1_k k9, e62, s1_k k7, e57, s1_k k6]; exact h2 κ k6 k7 k9 k10
    · unfold dA dB dQ dM
      rw [dU_s, dU_s, dU_s, dU_s]
      by_cases e : r = dR σ0 c m' d
      · rw [if_pos e, if_pos e, if_pos e, if_pos e]
        rw [e]
        refine ⟨?_, ?_, ?_, ?_⟩
        · rw [e76, s1_k (by simp), e67, s1_k (by simp), e62, s1_k (by simp), e57, s1_at]
        · rw [e76, s1_k (by simp), e67, s1_k (by simp), e62, s1_at]
        · rw [e76, s1_k (by simp), e67, s1_at]
        · rw [e76, s1_at]
      · rw [if_neg e, if_neg e, if_neg e, if_neg e]
        obtain ⟨q6, q7, q9, q10⟩ := h3 r
        refine ⟨?_, ?_, ?_, ?_⟩
        · rw [e76, s1_k (by simp), e67, s1_k (by simp), e62, s1_k (by simp), e57, s1_i e]; exact q6
        · rw [e76, s1_k (by simp), e67, s1_k (by simp), e62, s1_i e, e57, s1_k (by simp)]; exact q7
        · rw [e76, s1_k (by simp), e67, s1_i e, e62, s1_k (by simp), e57, s1_k (by simp)]; exact q9
        · rw [e76, s1_i e, e67, s1_k (by simp), e62, s1_k (by simp), e57, s1_k (by simp)]; exact q10
