theorem rdU_congr {g : Nat → Lg → Int → Int} {ls : List Lg} {A0 B0 : Nat → Int} {R : Nat} (h : ∀ r, r < R → A0 r = B0 r) (hv : ∀ l ∈ ls, l.1 < R) : ∀ j r, r < R → rdU g ls A0 j r = rdU g ls B0 j r := by
  intro j
  induction j with
  | zero => intro r hr; exact h r hr
  | succ j ih =>
    intro r hr
    cases hl : ls[j]? with
    | none => show (match ls[j]? with | some l => _ | none => _) = (match ls[j]? with | some l => _ | none => _); rw [hl]; exact ih r hr
    | some l => rw [rdU_s hl, rdU_s hl, ih r hr]
theorem rdU_prop {g : Nat → Lg → Int → Int} {ls : List Lg} {A0 : Nat → Int} {p : Int → Prop} {R : Nat} (h : ∀ r, r < R → p (A0 r)) (hg : ∀ j l x, ls[j]? = some l → p x → p (g j l x)) : ∀ j r, r < R → p (rdU g ls A0 j r) := by
  intro j
  induction j with
  | zero => intro r hr; exact h r hr
  | succ j ih =>
    intro r hr
    cases hl : ls[j]? with
    | none => show p (match ls[j]? with | some l => _ | none => _); rw [hl]; exact ih r hr
    | some l =>
      rw [rdU_s hl]
      split
      · exact hg j l _ hl (ih r hr)
      · exact ih r hr
theorem rdU_out {g : Nat → Lg → Int → Int} {ls : List Lg} {A0 : Nat → Int} {r : Nat} (h : ∀ l ∈ ls, l.1 ≠ r) : ∀ j, rdU g ls A0 j r = A0 r := by
  intro j
  induction j with
  | zero => rfl
  | succ j ih =>
    cases hl : ls[j]? with
    | none => show (match ls[j]? with | some l => _ | none => _) = _; rw [hl]; exact ih
    | some l => rw [rdU_s hl, if_neg (fun e => h l (List.mem_of_getElem? hl) e.symm), ih]
theorem hov_rng {R P : Nat} {ls : List Lg} (hv : vll R P ls) (j : Nat) : 0 ≤ hov ls j ∧ hov ls j ≤ 4319 := by
  unfold hov
  cases h : ls[j + 1]? with
  | some l => have := hv l (List.mem_of_getElem? h); simp only; omega
  | none =>
    cases h' : ls[j]? with
    | some l => have := hv l (List.mem_of_getElem? h'); simp only; omega
    | none => simp only; omega
/-- behind both rides, against the state ahead of them (class cells and model cells) -/
def RF (K0 : List nKey) (σ0 : nS) (R c m : Nat) (ls : List Lg) (K : List nKey) (σ : nS) : Prop :=
  (∀ κ : nKey, (κ.1 = 0 ∨ κ.1 = 1 ∨ κ.1 = 7 ∨ (κ.1 = 8 ∧ κ ≠ (8, c, 0)) ∨ (κ.1 = 10 ∧ κ ∈ K0)) → σ.1 κ = σ0.1 κ) ∧
  (∀ r, r < R → σ.1 (6, r, 0) 6 = rdA ls (fun r => σ0.1 (6, r, 0) 6) ls.length r ∧ σ.1 (6, r, 0) 7 = rdB (σ0.1 (0, 0, 0) 8) ls (fun r => σ0.1 (6, r, 0) 7) ls.length r ∧ σ.1 (6, r, 0) 8 = rdQ ls (fun r => σ0.1 (6, r, 0) 8) ls.length r ∧ σ.1 (6, r, 0) 9 = rdM ls (fun r => σ0.1 (6, r, 0) 9) ls.length r ∧ ∀ i, i ≠ 6 → i ≠ 7 → i ≠ 8 → i ≠ 9 → σ.1 (6, r, 0) i = σ0.1 (6, r, 0) i) ∧
  (σ.1 (8, c, 0) 6 = ((m + ls.length : Nat) : Int) ∧ ∀ i, i ≠ 6 → σ.1 (8, c, 0) i = σ0.1 (8, c, 0) i) ∧
  (∀ κ i, ¬ (κ = (9, c, 0) ∧ m ≤ i ∧ i < m + ls.length) → σ.2 κ i = σ0.2 κ i) ∧
  (∀ i l, i < ls.length → ls[i]? = some l → ∃ n, σ.2 (9, c, 0) (m + i) = some n ∧ (10, n, 0) ∈ K ∧ (10, n, 0) ∉ K0 ∧ σ.1 (10, n, 0) = nF [(l.1 : Int), (l.2.1 : Int), l.2.2.2.1, rdA ls (fun r => σ0.1 (6, r, 0) 6) i l.1, rdB (σ0.1 (0, 0, 0) 8) ls (fun r => σ0.1 (6, r, 0) 7) i l.1, (l.2.2.1 : Int), l.2.2.2.2, 0]) ∧
  (∀ i i' n, i < ls.length → i' < ls.length → σ.2 (9, c, 0) (m + i) = some n → σ.2 (9, c, 0) (m + i') = some n → i = i') ∧
  (((∀ κ, κ ∈ K0 → κ ∈ K) ∧ ∀ κ, κ ∈ K → κ ∈ K0 ∨ κ.1 = 10) ∧ CLs K σ) ∧
  ((∀ i, i ≠ 24 → i ≠ 34 → σ.1 (11, 0, 0) i = σ0.1 (11, 0, 0) i) ∧ ∀ k, k < 17 → k ≠ 6 → k ≠ 7 → k ≠ 9 → k ≠ 10 → σ.1 (12, k, 0) = σ0.1 (12, k, 0)) ∧
  (∀ r, σ.1 (12, 6, 0) r = rdA ls (σ0.1 (12, 6, 0)) ls.length r ∧ σ.1 (12, 7, 0) r = rdB (σ0.1 (11, 0, 0) 13) ls (σ0.1 (12, 7, 0)) ls.length r ∧ σ.1 (12, 9, 0) r = rdQ ls (σ0.1 (12, 9, 0)) ls.length r ∧ σ.1 (12, 10, 0) r = rdM ls (σ0.1 (12, 10, 0)) ls.length r) ∧
  (σ.1 (12, 18, 0) c = ((m + ls.length : Nat) : Int) ∧ ∀ i, i ≠ c → σ.1 (12, 18, 0) i = σ0.1 (12, 18, 0) i) ∧
  (∀ z, ¬ (8 * (24 * c + m) ≤ z ∧ z < 8 * (24 * c + m + ls.length)) → σ.1 (12, 17, 0) z = σ0.1 (12, 17, 0) z) ∧
  (∀ i l, i < ls.length → ls[i]? = some l → ML σ c (m + i) 0 = (l.1 : Int) ∧ ML σ c (m + i) 1 = (l.2.1 : Int) ∧ ML σ c (m + i) 2 = (l.2.2.1 : Int) ∧ ML σ c (m + i) 3 = l.2.2.2.1 ∧ ML σ c (m + i) 4 = l.2.2.2.2 ∧ ML σ c (m + i) 5 = 0 ∧ ML σ c (m + i) 6 = rdA ls (σ0.1 (12, 6, 0)) i l.1 ∧ ML σ c (m + i) 7 = rdB (σ0.1 (11, 0, 0) 13) ls (σ0.1 (12, 7, 0)) i l.1)
/-- what the state ahead of both rides fulfils: the invariant, but for the call's own count of legs -/
def IX (K : List nKey) (σ : nS) (P R C c m : Nat) : Prop :=
  AI σ P R C ∧ BI σ ∧ (∀ r, r < R → RI K σ P r) ∧ (∀ c', c' < C → c' ≠ c → CI K σ P c') ∧
  ((σ.2 (3, 0, 0) c = some c ∧ (8, c, 0) ∈ K) ∧ (σ.1 (8, c, 0) 0 = σ.1 (12, 11, 0) c ∧ σ.1 (8, c, 0) 1 = σ.1 (12, 12, 0) c ∧ σ.1 (8, c, 0) 2 = σ.1 (12, 13, 0) c ∧ σ.1 (8, c, 0) 3 = σ.1 (12, 14, 0) c ∧ σ.1 (8, c, 0) 4 = σ.1 (12, 15, 0) c ∧ σ.1 (8, c, 0) 7 = 1 ∧ σ.1 (8, c, 0) 8 = (if σ.1 (12, 16, 0) c = 2 then 1 else 0)) ∧ (0 ≤ σ.1 (12, 12, 0) c ∧ σ.1 (12, 12, 0) c < P) ∧ (0 ≤ σ.1 (12, 13, 0) c ∧ σ.1 (12, 13, 0) c < P) ∧ (0 ≤ σ.1 (12, 14, 0) c ∧ σ.1 (12, 14, 0) c ≤ 4319) ∧ (1 ≤ σ.1 (12, 15, 0) c ∧ σ.1 (12, 15, 0) c ≤ 2000) ∧ (σ.1 (12, 16, 0) c = 1 ∨ σ.1 (12, 16, 0) c = 2)) ∧
  KI K σ R C ∧ ZI σ R C ∧ LA K σ P R C ∧ LD σ C ∧ (LM σ c = m ∧ σ.1 (8, c, 0) 6 = m) ∧ σ.1 (11, 0, 0) 21 = c
set_option maxHeartbeats 4000000 in
theorem ride_IV {K0 K : List nKey} {σ0 σ : nS} {P R C c m : Nat} {ls : List Lg} (hc : c < C) (h : IX K0 σ0 P R C c m) (hv : vll R P ls) (hn1 : 1 ≤ ls.length) (h18 : m + ls.length ≤ 18) (hF : (m + ls.length : Int) ≤ 3 * (nF4 σ0 R : Int) + 3) (hcy : ∀ l ∈ ls, σ0.1 (12, 8, 0) l.1 = 0) (htail : m = 0 ∨ ML σ0 c (m - 1) 5 = 1) (hr : RF K0 σ0 R c m ls K σ) : IV K σ P R C := by
  obtain ⟨hA, hB, hR, hC, ⟨hc1, hc2, hc3, hc4, hc5, hc6, hc7⟩, hKI, hZ, hL, hD, ⟨hm, hm'⟩, hlat⟩ := h
  obtain ⟨r1, r2, ⟨r3, r3'⟩, r4, r5, r6, ⟨⟨r7, r7'⟩, r8⟩, ⟨r9, r9'⟩, r10, ⟨r11, r11'⟩, r12, r13⟩ := hr
  have hvr : ∀ l ∈ ls, l.1 < R := fun l hl => (hv l hl).1
  have hrest : σ0.1 (0, 0, 0) 8 = σ0.1 (11, 0, 0) 13 := hA.2.2.2.1.1
  have hrest0 := hA.2.2.2.1.2
  have eqA : ∀ j r, r < R → rdA ls (fun r => σ0.1 (6, r, 0) 6) j r = rdA ls (σ0.1 (12, 6, 0)) j r := rdU_congr (fun r hr => (hR r hr).2.1.2.2.2.2.2.1) hvr
  have eqB : ∀ j r, r < R → rdB (σ0.1 (0, 0, 0) 8) ls (fun r => σ0.1 (6, r, 0) 7) j r = rdB (σ0.1 (11, 0, 0) 13) ls (σ0.1 (12, 7, 0)) j r := by
    rw [hrest]; exact rdU_congr (fun r hr => (hR r hr).2.1.2.2.2.2.2.2.1) hvr
  have eqQ : ∀ j r, r < R → rdQ ls (fun r => σ0.1 (6, r, 0) 8) j r = rdQ ls (σ0.1 (12, 9, 0)) j r := rdU_congr (fun r hr => (hR r hr).2.1.2.2.2.2.2.2.2.1) hvr
  have eqM : ∀ j r, r < R → rdM ls (fun r => σ0.1 (6, r, 0) 9) j r = rdM ls (σ0.1 (12, 10, 0)) j r := rdU_congr (fun r hr => (hR r hr).2.1.2.2.2.2.2.2.2.2.1) hvr
  have rgA : ∀ j r, r < R → 0 ≤ rdA ls (σ0.1 (12, 6, 0)) j r ∧ rdA ls (σ0.1 (12, 6, 0)) j r < P := rdU_prop (p := fun x => 0 ≤ x ∧ x < (P : Int)) (fun r hr => (hR r hr).2.2.2.2.2.1) (fun j l x hl _ => by have := hv l (List.mem_of_getElem? hl); show 0 ≤ (l.2.2.1 : Int) ∧ (l.2.2.1 : Int) < P; omega)
  have rgB : ∀ j r, r < R → 0 ≤ rdB (σ0.1 (11, 0, 0) 13) ls (σ0.1 (12, 7, 0)) j r ∧ rdB (σ0.1 (11, 0, 0) 13) ls (σ0.1 (12, 7, 0)) j r ≤ 4919 := rdU_prop (p := fun x => 0 ≤ x ∧ x ≤ 4919) (fun r hr => (hR r hr).2.2.2.2.2.2.1) (fun j l x hl _ => by have := hov_rng hv j; show 0 ≤ hov ls j + σ0.1 (11, 0, 0) 13 ∧ hov ls j + σ0.1 (11, 0, 0) 13 ≤ 4919; omega)
  have hLM : ∀ c', c' ≠ c → LM σ c' = LM σ0 c' := fun c' e => r11' c' e
  have hMLo : ∀ (c' i f : Nat), f < 8 → c' ≠ c → (i : Int) < 18 → ML σ c' i f = ML σ0 c' i f := fun c' i f hf e hi => r12 _ (by omega)
  have hMLm : ∀ (i f : Nat), f < 8 → i < m → ML σ c i f = ML σ0 c i f := fun i f hf hi => r12 _ (by omega)
  have h18' : ∀ c', c' < C → c' ≠ c → LM σ0 c' ≤ 18 := fun c' hc' e => (hC c' hc' e).2.2.2.2.2.2.2
  refine ⟨?_, fun i hi => ?_, fun r hr => ?_, fun c' hc' => ?_, ⟨r8, fun q hq => ?_, fun q hq => ?_, fun q hq => ?_, fun q hq => ?_⟩, ⟨fun r hr hr6 => ?_, fun c' hc' hc4' => ?_⟩, fun c' hc' i hi => ?_, fun c1 i1 c2 i2 n hc1' hc2' hi1 hi2 hs1 hs2 => ?_, fun l hl => ?_⟩
  · unfold AI at hA ⊢
    rw [r9 1 (by decide) (by decide), r9 12 (by decide) (by decide), r9 13 (by decide) (by decide), r9 20 (by decide) (by decide), r9 21 (by decide) (by decide), r1 _ (Or.inl rfl)]
    exact hA
  · rw [r1 (1, 0, 0) (Or.inr (Or.inl rfl)), r9' 0 (by decide) (by decide) (by decide) (by decide) (by decide)]; exact hB i hi
  · obtain ⟨g0, ⟨b0, b1, b2, b3, b4, b6, b7, b8, b9, b10⟩, g1, g2, g3, g4, g5, g6, g7⟩ := hR r hr
    obtain ⟨p6, p7, p8, p9, po⟩ := r2 r hr
    obtain ⟨m6, m7, m9, m10⟩ := r10 r
    have k8 := r9' 8 (by decide) (by decide) (by decide) (by decide) (by decide)
    have k2 := r9' 2 (by decide) (by decide) (by decide) (by decide) (by decide)
    have k0 := r9' 0 (by decide) (by decide) (by decide) (by decide) (by decide)
    have k3 := r9' 3 (by decide) (by decide) (by decide) (by decide) (by decide)
    have k4 := r9' 4 (by decide) (by decide) (by decide) (by decide) (by decide)
    refine ⟨⟨by rw [r4 _ _ (by simp)]; exact g0.1, r7 _ g0.2⟩, ⟨?_, ?_, ?_, ?_, ?_, ?_, ?_, ?_, ?_, ?_⟩, ?_, ?_, ?_, ?_, ?_, ?_, ?_⟩
    · rw [po 0 (by decide) (by decide) (by decide) (by decide), r9' 1 (by decide) (by decide) (by decide) (by decide) (by decide)]; exact b0
    · rw [po 1 (by decide) (by decide) (by decide) (by decide), k2]; exact b1
    · rw [po 2 (by decide) (by decide) (by decide) (by decide), k3]; exact b2
    · rw [po 3 (by decide) (by decide) (by decide) (by decide), k4]; exact b3
    · rw [po 4 (by decide) (by decide) (by decide) (by decide), r9' 5 (by decide) (by decide) (by decide) (by decide) (by decide)]; exact b4
    · rw [p6, m6]; exact eqA _ r hr
    · rw [p7, m7]; exact eqB _ r hr
    · rw [p8, m9]; exact eqQ _ r hr
    · rw [p9, m10]; exact eqM _ r hr
    · rw [po 10 (by decide) (by decide) (by decide) (by decide), k8]; exact b10
    · rw [k2]; exact g1
    · rw [k3]; exact g2
    · rw [k4]; exact g3
    · rw [m6]; exact rgA _ r hr
    · rw [m7]; exact rgB _ r hr
    · rw [k8]; exact g6
    · rw [k2, k0]
      intro x y hx hy
      rw [r1 (7, r, 0) (Or.inr (Or.inr (Or.inl rfl)))]
      exact g7 x y hx hy
  · have kk : ∀ k, 11 ≤ k → k < 17 → σ.1 (12, k, 0) = σ0.1 (12, k, 0) := fun k a b => r9' k b (by omega) (by omega) (by omega) (by omega)
    by_cases e : c' = c
    · subst e
      obtain ⟨b0, b1, b2, b3, b4, b7, b8⟩ := hc2
      unfold CI
      rw [r4 _ _ (by simp), kk 11 (by omega) (by omega), kk 12 (by omega) (by omega), kk 13 (by omega) (by omega), kk 14 (by omega) (by omega), kk 15 (by omega) (by omega), kk 16 (by omega) (by omega), r3, r3' 0 (by decide), r3' 1 (by decide), r3' 2 (by decide), r3' 3 (by decide), r3' 4 (by decide), r3' 7 (by decide), r3' 8 (by decide), r11, b7, b8]
      unfold LM
      rw [r11]
      exact ⟨⟨hc1.1, r7 _ hc1.2⟩, ⟨b0, b1, b2, b3, b4, rfl, by rw [if_neg (by omega)], rfl⟩, hc3, hc4, hc5, hc6, Or.inr ⟨hc7, by omega⟩, by omega⟩
    · have := hC c' hc' e
      unfold CI at this ⊢
      rw [hLM c' e, r4 _ _ (by simp), kk 11 (by omega) (by omega), kk 12 (by omega) (by omega), kk 13 (by omega) (by omega), kk 14 (by omega) (by omega), kk 15 (by omega) (by omega), kk 16 (by omega) (by omega), r1 (8, c', 0) (Or.inr (Or.inr (Or.inr (Or.inl ⟨rfl, by simp; exact e⟩)))), r11' c' e]
      exact ⟨⟨this.1.1, r7 _ this.1.2⟩, this.2⟩
  · rcases r7' _ hq with h | h
    · exact hKI.2.1 q h
    · simp at h
  · rcases r7' _ hq with h | h
    · exact hKI.2.2.1 q h
    · simp at h
  · rcases r7' _ hq with h | h
    · exact hKI.2.2.2.1 q h
    · simp at h
  · rcases r7' _ hq with h | h
    · exact hKI.2.2.2.2 q h
    · simp at h
  · obtain ⟨m6, m7, m9, m10⟩ := r10 r
    obtain ⟨z8, z9, z10⟩ := hZ.1 r hr hr6
    have hout : ∀ l ∈ ls, l.1 ≠ r := fun l hl e => by have := hvr l hl; omega
    rw [r9' 8 (by decide) (by decide) (by decide) (by decide) (by decide), m9, m10]
    unfold rdQ rdM
    rw [rdU_out hout, rdU_out hout]
    exact ⟨z8, z9, z10⟩
  · rw [hLM c' (by omega), r9' 16 (by decide) (by decide) (by decide) (by decide) (by decide)]; exact hZ.2 c' hc' hc4'
  · by_cases e : c' = c
    · subst e
      unfold LM at hi
      rw [r11] at hi
      by_cases him : i < m
      · obtain ⟨n, n1, n2, n3⟩ := hL c' hc' i (by omega)
        refine ⟨n, by rw [r4 _ _ (by simp; omega)]; exact n1, r7 _ n2, ?_⟩
        unfold LI at n3 ⊢
        rw [r1 (10, n, 0) (Or.inr (Or.inr (Or.inr (Or.inr ⟨rfl, n2⟩)))), hMLm i 0 (by omega) him, hMLm i 1 (by omega) him, hMLm i 2 (by omega) him, hMLm i 3 (by omega) him, hMLm i 4 (by omega) him, hMLm i 5 (by omega) him, hMLm i 6 (by omega) him, hMLm i 7 (by omega) him]
        exact n3
      · obtain ⟨q, rfl⟩ : ∃ q, i = m + q := ⟨i - m, by omega⟩
        obtain ⟨l, hl⟩ : ∃ l, ls[q]? = some l := ⟨_, List.getElem?_eq_getElem (by omega)⟩
        obtain ⟨n, n1, n2, n3, n4⟩ := r5 q l (by omega) hl
        obtain ⟨w0', w1', w2', w3', w4', w5', w6', w7'⟩ := r13 q l (by omega) hl
        have hvl := hv l (List.mem_of_getElem? hl)
        refine ⟨n, n1, n2, ?_⟩
        unfold LI
        rw [w0', w1', w2', w3', w4', w5', w6', w7', n4]
        have a6 := rgA q l.1 hvl.1
        have a7 := rgB q l.1 hvl.1
        exact ⟨⟨rfl, rfl, rfl, rfl, rfl, rfl, eqA q l.1 hvl.1, eqB q l.1 hvl.1⟩, by omega, by omega, by omega, Or.inl rfl, a6, a7⟩
    · rw [hLM c' e] at hi
      have := h18' c' hc' e
      obtain ⟨n, n1, n2, n3⟩ := hL c' hc' i hi
      refine ⟨n, by rw [r4 _ _ (by simp; omega)]; exact n1, r7 _ n2, ?_⟩
      unfold LI at n3 ⊢
      rw [r1 (10, n, 0) (Or.inr (Or.inr (Or.inr (Or.inr ⟨rfl, n2⟩)))), hMLo c' i 0 (by omega) e (by omega), hMLo c' i 1 (by omega) e (by omega), hMLo c' i 2 (by omega) e (by omega), hMLo c' i 3 (by omega) e (by omega), hMLo c' i 4 (by omega) e (by omega), hMLo c' i 5 (by omega) e (by omega), hMLo c' i 6 (by omega) e (by omega), hMLo c' i 7 (by omega) e (by omega)]
      exact n3
  · -- a leg's cell is of one leg alone
    have old : ∀ (c' i : Nat), c' < C → (i : Int) < LM σ c' → ¬ (c' = c ∧ m ≤ i) → σ.2 (9, c', 0) i = some n → (i : Int) < LM σ0 c' ∧ σ0.2 (9, c', 0) i = some n ∧ (10, n, 0) ∈ K0 := fun c' i hc' hi hno hs => by
      have e1 : σ.2 (9, c', 0) i = σ0.2 (9, c', 0) i := r4 _ _ (fun q => hno ⟨by have := q.1; simp at this; exact this, q.2.1⟩)
      rw [e1] at hs
      have hi0 : (i : Int) < LM σ0 c' := by
        by_cases e : c' = c
        · subst e; rw [hm]; omega
        · rw [← hLM c' e]; exact hi
      obtain ⟨n', n1, n2, -⟩ := hL c' hc' i hi0
      rw [n1] at hs
      cases hs
      exact ⟨hi0, n1, n2⟩
    have new : ∀ (c' i : Nat), (i : Int) < LM σ c' → (c' = c ∧ m ≤ i) → σ.2 (9, c', 0) i = some n → (10, n, 0) ∉ K0 := fun c' i hi hyes hs => by
      obtain ⟨e, hmi⟩ := hyes
      subst e
      unfold LM at hi
      rw [r11] at hi
      obtain ⟨q, rfl⟩ : ∃ q, i = m + q := ⟨i - m, by omega⟩
      obtain ⟨l, hl⟩ : ∃ l, ls[q]? = some l := ⟨_, List.getElem?_eq_getElem (by omega)⟩
      obtain ⟨n', n1, n2, n3, n4⟩ := r5 q l (by omega) hl
      rw [n1] at hs
      cases hs
      exact n3
    by_cases q1 : c1 = c ∧ m ≤ i1
    · by_cases q2 : c2 = c ∧ m ≤ i2
      · obtain ⟨e1, f1⟩ := q1
        obtain ⟨e2, f2⟩ := q2
        subst e1; subst e2
        unfold LM at hi1 hi2
        rw [r11] at hi1 hi2
        have := r6 (i1 - m) (i2 - m) n (by omega) (by omega) (by rw [show m + (i1 - m) = i1 by omega]; exact hs1) (by rw [show m + (i2 - m) = i2 by omega]; exact hs2)
        exact ⟨rfl, by omega⟩
      · exact absurd (old c2 i2 hc2' hi2 q2 hs2).2.2 (new c1 i1 hi1 q1 hs1)
    · by_cases q2 : c2 = c ∧ m ≤ i2
      · exact absurd (old c1 i1 hc1' hi1 q1 hs1).2.2 (new c2 i2 hi2 q2 hs2)
      · obtain ⟨a1, a2, -⟩ := old c1 i1 hc1' hi1 q1 hs1
        obtain ⟨b1, b2, -⟩ := old c2 i2 hc2' hi2 q2 hs2
        exact hD c1 i1 c2 i2 n hc1' hc2' a1 b1 a2 b2
  · rw [r9 21 (by decide) (by decide), hlat] at hl
    have hlc : l = c := by omega
    subst hlc
    have k8 := r9' 8 (by decide) (by decide) (by decide) (by decide) (by decide)
    have hnf : nF4 σ R = nF4 σ0 R := by unfold nF4; rw [k8]
    unfold LM
    rw [r11, hnf, k8]
    refine ⟨by omega, fun i hi hall => ?_⟩
    by_cases him : i < m
    · have h5 := hall (m - 1) (by omega) (by omega)
      rw [hMLm (m - 1) 5 (by omega) (by omega)] at h5
      rcases htail with h | h
      · omega
      · rw [h] at h5; cases h5
    · obtain ⟨q, rfl⟩ : ∃ q, i = m + q := ⟨i - m, by omega⟩
      obtain ⟨l', hl'⟩ : ∃ l, ls[q]? = some l := ⟨_, List.getElem?_eq_getElem (by omega)⟩
      rw [(r13 q l' (by omega) hl').1]
      simp only [Int.toNat_natCast]
      exact hcy l' (List.mem_of_getElem? hl')
