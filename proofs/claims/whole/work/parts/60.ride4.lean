theorem fresh10 (K : List nKey) : ∃ n, (10, n, 0) ∉ K := by
  have h : ∀ L : List nKey, ∃ N, ∀ κ, κ ∈ L → κ.2.1 < N := by
    intro L
    induction L with
    | nil => exact ⟨0, fun κ h => by cases h⟩
    | cons a L ih =>
      obtain ⟨N, hN⟩ := ih
      refine ⟨N + a.2.1 + 1, fun κ h => ?_⟩
      rcases List.mem_cons.mp h with e | h
      · rw [e]; omega
      · have := hN κ h; omega
  obtain ⟨N, hN⟩ := h K
  exact ⟨N, fun hm => Nat.lt_irrefl N (hN _ hm)⟩
/-! the riders' data while a chain is ridden -/
def hov (ls : List Lg) (j : Nat) : Int := match ls[j + 1]? with
  | some l => l.2.2.2.1
  | none => (match ls[j]? with
    | some l => l.2.2.2.2
    | none => 0)
def rdU (g : Nat → Lg → Int → Int) (ls : List Lg) (A0 : Nat → Int) : Nat → Nat → Int
  | 0 => A0
  | j + 1 => fun r => match ls[j]? with
    | some l => if r = l.1 then g j l (rdU g ls A0 j r) else rdU g ls A0 j r
    | none => rdU g ls A0 j r
abbrev rdA (ls : List Lg) (A0 : Nat → Int) : Nat → Nat → Int := rdU (fun _ l _ => (l.2.2.1 : Int)) ls A0
abbrev rdB (rest : Int) (ls : List Lg) (A0 : Nat → Int) : Nat → Nat → Int := rdU (fun j _ _ => hov ls j + rest) ls A0
abbrev rdQ (ls : List Lg) (A0 : Nat → Int) : Nat → Nat → Int := rdU (fun _ _ x => x + 1) ls A0
abbrev rdM (ls : List Lg) (A0 : Nat → Int) : Nat → Nat → Int := rdU (fun _ l x => x + (l.2.2.2.2 - l.2.2.2.1)) ls A0
theorem rdU_s {g : Nat → Lg → Int → Int} {ls : List Lg} {A0 : Nat → Int} {j : Nat} {l : Lg} (h : ls[j]? = some l) (r : Nat) : rdU g ls A0 (j + 1) r = if r = l.1 then g j l (rdU g ls A0 j r) else rdU g ls A0 j r := by
  show (match ls[j]? with | some l => _ | none => _) = _
  rw [h]
/-- behind j legs of the class's ride -/
def XR (K0 : List nKey) (σ0 : nS) (R c m : Nat) (ls : List Lg) (j : Nat) (K : List nKey) (σ : nS) : Prop :=
  (∀ κ : nKey, κ.1 ≠ 6 → κ ≠ (8, c, 0) → (κ ∈ K0 ∨ κ.1 ≠ 10) → σ.1 κ = σ0.1 κ) ∧
  (∀ r, r < R → σ.1 (6, r, 0) 6 = rdA ls (fun r => σ0.1 (6, r, 0) 6) j r ∧ σ.1 (6, r, 0) 7 = rdB (σ0.1 (0, 0, 0) 8) ls (fun r => σ0.1 (6, r, 0) 7) j r ∧ σ.1 (6, r, 0) 8 = rdQ ls (fun r => σ0.1 (6, r, 0) 8) j r ∧ σ.1 (6, r, 0) 9 = rdM ls (fun r => σ0.1 (6, r, 0) 9) j r ∧ ∀ i, i ≠ 6 → i ≠ 7 → i ≠ 8 → i ≠ 9 → σ.1 (6, r, 0) i = σ0.1 (6, r, 0) i) ∧
  (σ.1 (8, c, 0) 6 = ((m + j : Nat) : Int) ∧ ∀ i, i ≠ 6 → σ.1 (8, c, 0) i = σ0.1 (8, c, 0) i) ∧
  (∀ κ i, ¬ (κ = (9, c, 0) ∧ m ≤ i ∧ i < m + j) → σ.2 κ i = σ0.2 κ i) ∧
  (∀ i l, i < j → ls[i]? = some l → ∃ n, σ.2 (9, c, 0) (m + i) = some n ∧ (10, n, 0) ∈ K ∧ (10, n, 0) ∉ K0 ∧ σ.1 (10, n, 0) = nF [(l.1 : Int), (l.2.1 : Int), l.2.2.2.1, rdA ls (fun r => σ0.1 (6, r, 0) 6) i l.1, rdB (σ0.1 (0, 0, 0) 8) ls (fun r => σ0.1 (6, r, 0) 7) i l.1, (l.2.2.1 : Int), l.2.2.2.2, 0]) ∧
  (∀ i i' n, i < j → i' < j → σ.2 (9, c, 0) (m + i) = some n → σ.2 (9, c, 0) (m + i') = some n → i = i') ∧
  ((∀ κ, κ ∈ K0 → κ ∈ K) ∧ ∀ κ, κ ∈ K → κ ∈ K0 ∨ κ.1 = 10) ∧ CLs K σ
theorem x4_ride2 {K0 : List nKey} {σ0 : nS} {R P c m : Nat} {ls : List Lg} {k : nS → List nKey → Prop} (hn3 : ls.length ≤ 3) (hmn : m + ls.length ≤ 18) (hv : vll R P ls) (r6 : R ≤ 6) (hR : σ0.1 (0, 0, 0) 6 = R) (hrid : ∀ r, r < R → σ0.2 (2, 0, 0) r = some r ∧ (6, r, 0) ∈ K0) (hlen : σ0.1 (4, 1, 0) 5 = (ls.length : Int)) (hls : Ls4 σ0 1 ls) (hk : ∀ σ K, XR K0 σ0 R c m ls ls.length K σ → k σ K) :
    ∀ (f j : Nat) (σ : nS) (K : List nKey), j + f = ls.length → XR K0 σ0 R c m ls j K σ → P_X4_rideChosen_L2 k c (f + 1) j (j : Int) σ K := by
  intro f
  induction f with
  | zero =>
    intro j σ K hj hx
    have hj' : j = ls.length := by omega
    have hl : σ.1 (4, 1, 0) 5 = (ls.length : Int) := by rw [hx.1 _ (by simp) (by simp) (Or.inr (by simp))]; exact hlen
    unfold P_X4_rideChosen_L2
    rw [hl, w0 (x := (j : Int)) (by omega) (by omega), w0 (x := (ls.length : Int)) (by omega) (by omega)]
    exact ⟨fun _ => hk σ K (by rw [← hj']; exact hx), fun h => absurd h (by omega)⟩
  | succ f ih =>
    intro j σ K hj hx
    obtain ⟨h1, h2, h3, h4, h5, h6, h7, h8⟩ := hx
    have hl : σ.1 (4, 1, 0) 5 = (ls.length : Int) := by rw [h1 _ (by simp) (by simp) (Or.inr (by simp))]; exact hlen
    obtain ⟨l, hlj⟩ : ∃ l, ls[j]? = some l := ⟨_, List.getElem?_eq_getElem (by omega)⟩
    have hvl := hv l (List.mem_of_getElem? hlj)
    have c5 : ∀ f' i, σ.1 (5, 1, f') i = σ0.1 (5, 1, f') i := fun f' i => by rw [h1 _ (by simp) (by simp) (Or.inr (by simp))]
    obtain ⟨s0, s1', s2', s3', s4'⟩ := hls j l hlj
    have hRσ : σ.1 (0, 0, 0) 6 = R := by rw [h1 _ (by simp) (by simp) (Or.inr (by simp))]; exact hR
    obtain ⟨r2, rK⟩ := hrid l.1 hvl.1
    have r2σ : σ.2 (2, 0, 0) l.1 = some l.1 := by rw [h4 _ _ (by simp)]; exact r2
    obtain ⟨q6, q7, q8, q9, qo⟩ := h2 l.1 hvl.1
    unfold P_X4_rideChosen_L2
    rw [hl, w0 (x := (j : Int)) (by omega) (by omega), w0 (x := (ls.length : Int)) (by omega) (by omega)]
    simp only [Int.toNat_natCast]
    rw [c5 0 j, s0]
    refine ⟨fun h => absurd h (by omega), fun _ => ⟨fun h => absurd h (by omega), fun _ => ⟨by omega, by omega, x4_riderAt hRσ r6 hvl.1 r2σ (h7.1 _ rK) ⟨(fun e => by cases e), fun q e => ?_⟩⟩⟩⟩
    cases e
    obtain ⟨n, hn⟩ := fresh10 K
    refine ⟨h7.1 _ rK, by omega, by omega, fun x11 e11 => ⟨by omega, by omega, fun x14 e14 => ⟨by omega, by omega, fun x17 e17 => ⟨by omega, by omega, by omega, by omega, by omega, n, hn, h8, fun σ23 e23 K2 eK2 K' eK' => ?_⟩⟩⟩⟩
    rw [c5 3 j, s3'] at e11
    rw [c5 4 j, s4'] at e14
    rw [c5 2 j, s2'] at e17
    rw [c5 0 j, s0, c5 1 j, s1'] at e23
    subst e11; subst e14; subst e17
    have m10 : σ23.1 (10, n, 0) = nF [(l.1 : Int), (l.2.1 : Int), l.2.2.2.1, σ.1 (6, l.1, 0) 6, σ.1 (6, l.1, 0) 7, (l.2.2.1 : Int), l.2.2.2.2, 0] := by
      rw [e23]
      show kup σ.1 (10, n, 0) _ (10, n, 0) = _
      rw [kup_s]
    have mk : ∀ κ : nKey, κ ≠ (10, n, 0) → σ23.1 κ = σ.1 κ := fun κ hκ => by
      rw [e23]
      show kup σ.1 (10, n, 0) _ κ = _
      rw [kup_k hκ]
    have m2 : σ23.2 = σ.2 := by rw [e23]; rfl
    have a6 : σ23.1 (8, c, 0) 6 = ((m + j : Nat) : Int) := by rw [mk _ (by simp)]; exact h3.1
    unfold P_X2_addLeg
    rw [a6, w0 (x := ((m + j : Nat) : Int)) (by omega) (by omega)]
    refine ⟨fun h => absurd h (by omega), fun _ => ⟨fun h => absurd h (by omega), fun _ => ⟨by omega, by omega, fun σ5 e5 σ6 e6 σ25 e25 => ?_⟩⟩⟩
    simp only [Int.toNat_natCast] at e5
    -- when the box is handed on
    have hho : ∀ (k' : Int → nS → Prop), k' (hov ls j) σ25 → P_X0_handsOn K' σ25 1 (j : Int) k' := fun k' hk' => by
      have z4 : σ25.1 (4, 1, 0) 5 = (ls.length : Int) := by rw [e25, s1_k (by simp), e6, s1_k (by simp), e5, s2_1, mk _ (by simp)]; exact hl
      have z5 : ∀ f' i, σ25.1 (5, 1, f') i = σ0.1 (5, 1, f') i := fun f' i => by rw [e25, s1_k (by simp), e6, s1_k (by simp), e5, s2_1, mk _ (by simp)]; exact c5 f' i
      have last : ls.length ≤ j + 1 → ∀ (k'' : Int → nS → Prop), k'' (hov ls j) σ25 → P_X0_lastEnd K' σ25 1 k'' := fun hle k'' hk'' => by
        have hjl : j = ls.length - 1 := by omega
        unfold P_X0_lastEnd
        rw [z4, w0 (x := (ls.length : Int)) (by omega) (by omega)]
        refine ⟨fun h => absurd h (by omega), fun _ => ⟨fun h => absurd h (by omega), fun _ => ⟨by omega, by omega, ?_⟩⟩⟩
        rw [show ((ls.length : Int) - 1).toNat = j by omega, z5, s4']
        have : hov ls j = l.2.2.2.2 := by unfold hov; rw [List.getElem?_eq_none (by omega), hlj]
        rw [this] at hk''; exact hk''
      unfold P_X0_handsOn
      rw [z4, w0 (x := (j : Int)) (by omega) (by omega), w0 (x := (j : Int) + 1) (by omega) (by omega), w0 (x := (ls.length : Int)) (by omega) (by omega)]
      refine ⟨fun h => absurd h (by omega), fun _ => ⟨fun h => last (by omega) _ hk', fun h => ⟨fun h' => absurd h' (by omega), fun _ => ⟨by omega, by omega, ?_⟩⟩⟩⟩
      obtain ⟨l', hl'⟩ : ∃ l, ls[j + 1]? = some l := ⟨_, List.getElem?_eq_getElem (by omega)⟩
      rw [show ((j : Int) + 1).toNat = j + 1 by omega, z5, (hls _ _ hl').2.2.2.1]
      have : hov ls j = l'.2.2.2.1 := by unfold hov; rw [hl']
      rw [this] at hk'; exact hk'
    refine hho _ (fun σ28 e28 σ29 e29 σ30 e30 x31 ex => ?_)
    subst ex
    refine ih (j + 1) σ30 K' (by omega) ?_
    have hKin : ∀ κ, κ ∈ K' ↔ (κ ∈ K ∨ κ = (10, n, 0)) := fun κ => by rw [eK', eK2]; simp
    have hnK0 : (10, n, 0) ∉ K0 := fun h => hn (h7.1 _ h)
    have g : ∀ κ : nKey, κ ≠ (6, l.1, 0) → κ ≠ (8, c, 0) → κ ≠ (10, n, 0) → σ30.1 κ = σ.1 κ := fun κ a b d => by
      rw [e30, s1_k a, e29, s1_k a, e28, s1_k a, e25, s1_k a, e6, s1_k b, e5, s2_1, mk κ d]
    have g10 : σ30.1 (10, n, 0) = σ23.1 (10, n, 0) := by rw [e30, s1_k (by simp), e29, s1_k (by simp), e28, s1_k (by simp), e25, s1_k (by simp), e6, s1_k (by simp), e5, s2_1]
    have b6 : σ6.1 (6, l.1, 0) = σ.1 (6, l.1, 0) := by rw [e6, s1_k (by simp), e5, s2_1, mk _ (by simp)]
    have b0 : σ25.1 (0, 0, 0) 8 = σ0.1 (0, 0, 0) 8 := by rw [e25, s1_k (by simp), e6, s1_k (by simp), e5, s2_1, mk _ (by simp), h1 _ (by simp) (by simp) (Or.inr (by simp))]
    have g66 : σ30.1 (6, l.1, 0) 6 = (l.2.2.1 : Int) := by rw [e30, s1_i (by decide), e29, s1_i (by decide), e28, s1_i (by decide), e25, s1_at]
    have g67 : σ30.1 (6, l.1, 0) 7 = hov ls j + σ0.1 (0, 0, 0) 8 := by rw [e30, s1_i (by decide), e29, s1_i (by decide), e28, s1_at, b0]
    have g68 : σ30.1 (6, l.1, 0) 8 = σ.1 (6, l.1, 0) 8 + 1 := by rw [e30, s1_i (by decide), e29, s1_at, e28, s1_i (by decide), e25, s1_i (by decide), b6]
    have g69 : σ30.1 (6, l.1, 0) 9 = σ.1 (6, l.1, 0) 9 + (l.2.2.2.2 - l.2.2.2.1) := by rw [e30, s1_at, e29, s1_i (by decide), e28, s1_i (by decide), e25, s1_i (by decide), b6]
    have g6o : ∀ i, i ≠ 6 → i ≠ 7 → i ≠ 8 → i ≠ 9 → σ30.1 (6, l.1, 0) i = σ.1 (6, l.1, 0) i := fun i a b d e => by rw [e30, s1_i e, e29, s1_i d, e28, s1_i b, e25, s1_i a, b6]
    have t2 : ∀ κ i, σ30.2 κ i = if κ = (9, c, 0) ∧ i = m + j then some n else σ.2 κ i := fun κ i => by
      rw [e30, s1_2, e29, s1_2, e28, s1_2, e25, s1_2, e6, s1_2, e5, s2_2, m2]
    refine ⟨fun κ a b d => ?_, fun r hr => ?_, ⟨?_, fun i hi => ?_⟩, fun κ i hκ => ?_, fun i l' hi hl' => ?_, fun i i' n' hi hi' hs hs' => ?_, ⟨fun κ hκ => by rw [hKin]; exact Or.inl (h7.1 κ hκ), fun κ hκ => ?_⟩, ⟨fun j' q hq => ?_, fun j' q hq => ?_, fun c' j' q hc' hq => ?_⟩⟩
    · rw [g κ (fun e => by rw [e] at a; exact a rfl) b (fun e => by rw [e] at d; rcases d with d | d; exact hnK0 d; exact d rfl)]
      exact h1 κ a b d
    · obtain ⟨p6, p7, p8, p9, po⟩ := h2 r hr
      unfold rdA at p6 ⊢
      unfold rdB at p7 ⊢
      unfold rdQ at p8 ⊢
      unfold rdM at p9 ⊢
      rw [rdU_s hlj, rdU_s hlj, rdU_s hlj, rdU_s hlj]
      by_cases e : r = l.1
      · subst e
        rw [if_pos rfl, if_pos rfl, if_pos rfl, if_pos rfl, g66, g67, g68, g69, p8, p9]
        exact ⟨rfl, rfl, rfl, rfl, fun i a b d e => (g6o i a b d e).trans (po i a b d e)⟩
      · rw [if_neg e, if_neg e, if_neg e, if_neg e, g _ (by simp; exact e) (by simp) (by simp)]
        exact ⟨p6, p7, p8, p9, po⟩
    · rw [e30, s1_k (by simp), e29, s1_k (by simp), e28, s1_k (by simp), e25, s1_k (by simp), e6, s1_at, e5, s2_1, a6]
      omega
    · rw [e30, s1_k (by simp), e29, s1_k (by simp), e28, s1_k (by simp), e25, s1_k (by simp), e6, s1_i hi, e5, s2_1, mk _ (by simp)]
      exact h3.2 i hi
    · rw [t2, if_neg (fun q => hκ ⟨q.1, by omega, by omega⟩)]
      exact h4 κ i (fun q => hκ ⟨q.1, q.2.1, by omega⟩)
    · by_cases e : i = j
      · subst e
        cases hlj.symm.trans hl'
        refine ⟨n, by rw [t2]; simp, by rw [hKin]; simp, hnK0, ?_⟩
        rw [g10, m10, q6, q7]
      · obtain ⟨n', n1, n2, n3, n4⟩ := h5 i l' (by omega) hl'
        refine ⟨n', by rw [t2, if_neg (by simp; omega)]; exact n1, by rw [hKin]; exact Or.inl n2, n3, ?_⟩
        rw [g _ (by simp) (by simp) (fun e => by rw [e] at n2; exact hn n2)]
        exact n4
    · rw [t2] at hs hs'
      have hex : ∀ i, i < j → ∀ n'', σ.2 (9, c, 0) (m + i) = some n'' → (10, n'', 0) ∈ K := fun i hi n'' hn'' => by
        obtain ⟨l'', hl''⟩ : ∃ l, ls[i]? = some l := ⟨_, List.getElem?_eq_getElem (by omega)⟩
        obtain ⟨n', n1, n2, -⟩ := h5 i l'' hi hl''
        rw [n1] at hn''; cases hn''; exact n2
      by_cases e : i = j
      · by_cases e' : i' = j
        · omega
        · rw [if_pos (by simp; omega)] at hs
          rw [if_neg (by simp; omega)] at hs'
          cases hs
          exact absurd (hex i' (by omega) n hs') hn
      · rw [if_neg (by simp; omega)] at hs
        by_cases e' : i' = j
        · rw [if_pos (by simp; omega)] at hs'
          cases hs'
          exact absurd (hex i (by omega) n hs) hn
        · rw [if_neg (by simp; omega)] at hs'
          exact h6 i i' n' (by omega) (by omega) hs hs'
    · rw [hKin] at hκ
      rcases hκ with h | h
      · exact h7.2 κ h
      · right; rw [h]
    · rw [t2, if_neg (by simp)] at hq; rw [hKin]; exact Or.inl (h8.1 j' q hq)
    · rw [t2, if_neg (by simp)] at hq; rw [hKin]; exact Or.inl (h8.2.1 j' q hq)
    · rw [t2] at hq
      rw [hKin] at hc' ⊢
      by_cases e : (9, c', 0) = ((9, c, 0) : nKey) ∧ j' = m + j
      · rw [if_pos e] at hq; cases hq; exact Or.inr rfl
      · rw [if_neg e] at hq
        refine Or.inl (h8.2.2 c' j' q ?_ hq)
        rcases hc' with h | h
        · exact h
        · simp at h
