/-! send: the state that both sides come to, its parts -/
def sdS (σ : nS) (c : Nat) : nS := s1 (s1 (s1 (s1 σ (8, c, 0) 7 1) (0, 0, 0) 9 (c : Int)) (12, 16, 0) c 1) (11, 0, 0) 21 (c : Int)
section SD
variable {σ : nS} {c : Nat}
theorem sdS_k {κ : nKey} (a : κ ≠ (8, c, 0)) (b : κ ≠ (0, 0, 0)) (d : κ ≠ (12, 16, 0)) (e : κ ≠ (11, 0, 0)) : (sdS σ c).1 κ = σ.1 κ := by
  unfold sdS
  rw [s1_k e, s1_k d, s1_k b, s1_k a]
theorem sdS_2 : (sdS σ c).2 = σ.2 := rfl
theorem sdS_0 {i : Nat} (hi : i ≠ 9) : (sdS σ c).1 (0, 0, 0) i = σ.1 (0, 0, 0) i := by
  unfold sdS
  rw [s1_k (by simp), s1_k (by simp), s1_i hi, s1_k (by simp)]
theorem sdS_09 : (sdS σ c).1 (0, 0, 0) 9 = (c : Int) := by
  unfold sdS
  rw [s1_k (by simp), s1_k (by simp), s1_at]
theorem sdS_8 {i : Nat} (hi : i ≠ 7) : (sdS σ c).1 (8, c, 0) i = σ.1 (8, c, 0) i := by
  unfold sdS
  rw [s1_k (by simp), s1_k (by simp), s1_k (by simp), s1_i hi]
theorem sdS_87 : (sdS σ c).1 (8, c, 0) 7 = 1 := by
  unfold sdS
  rw [s1_k (by simp), s1_k (by simp), s1_k (by simp), s1_at]
theorem sdS_11 {i : Nat} (hi : i ≠ 21) : (sdS σ c).1 (11, 0, 0) i = σ.1 (11, 0, 0) i := by
  unfold sdS
  rw [s1_i hi, s1_k (by simp), s1_k (by simp), s1_k (by simp)]
theorem sdS_1121 : (sdS σ c).1 (11, 0, 0) 21 = (c : Int) := by
  unfold sdS
  rw [s1_at]
theorem sdS_16 {i : Nat} (hi : i ≠ c) : (sdS σ c).1 (12, 16, 0) i = σ.1 (12, 16, 0) i := by
  unfold sdS
  rw [s1_k (by simp), s1_i hi, s1_k (by simp), s1_k (by simp)]
theorem sdS_16c : (sdS σ c).1 (12, 16, 0) c = 1 := by
  unfold sdS
  rw [s1_k (by simp), s1_at]
theorem sdS_12 {k : Nat} (hk : k ≠ 16) : (sdS σ c).1 (12, k, 0) = σ.1 (12, k, 0) := sdS_k (by simp) (by simp) (by simp; exact hk) (by simp)
end SD
set_option maxHeartbeats 2000000 in
theorem sd_IX {K : List nKey} {σ : nS} {P R C c : Nat} (h : IV K σ P R C) (hc : c < C) (s0 : σ.1 (12, 16, 0) c = 0) : IX K (sdS σ c) P R C c 0 := by
  obtain ⟨hA, hB, hR, hC, hKI, hZ, hL, hD, hT⟩ := id h
  obtain ⟨m, e1, e2, e3, -, e5⟩ := h.call hc
  obtain ⟨⟨hs3, hK⟩, ⟨b0, b1, b2, b3, b4, b6, b7, b8⟩, c12, c13, c14, c15, -⟩ := hC c hc
  have hm : m = 0 := by rcases e5 with e5 | e5 <;> omega
  subst hm
  clear h e5 hT
  refine ⟨?_, fun i hi => ?_, fun r hr => ?_, fun c' hc' hne' => ?_, ⟨⟨hs3, hK⟩, ⟨?_, ?_, ?_, ?_, ?_, sdS_87, ?_⟩, ?_, ?_, ?_, ?_, Or.inl sdS_16c⟩, hKI, ⟨fun r hr hr6 => ?_, fun c' hc' hc4 => ?_⟩, ?_, ?_, ⟨?_, ?_⟩, sdS_1121⟩
  · unfold AI at hA ⊢
    rw [sdS_11 (by decide), sdS_11 (by decide), sdS_11 (by decide), sdS_11 (by decide), sdS_0 (by decide), sdS_0 (by decide), sdS_0 (by decide), sdS_0 (by decide), sdS_09, sdS_1121]
    exact ⟨hA.1, hA.2.1, hA.2.2.1, hA.2.2.2.1, rfl, by omega, by omega⟩
  · rw [sdS_k (by simp) (by simp) (by simp) (by simp), sdS_12 (by decide)]; exact hB i hi
  · have := hR r hr
    unfold RI Mat at this ⊢
    rw [sdS_k (κ := (6, r, 0)) (by simp) (by simp) (by simp) (by simp), sdS_k (κ := (7, r, 0)) (by simp) (by simp) (by simp) (by simp), sdS_12 (k := 0) (by decide), sdS_12 (k := 1) (by decide), sdS_12 (k := 2) (by decide), sdS_12 (k := 3) (by decide), sdS_12 (k := 4) (by decide), sdS_12 (k := 5) (by decide), sdS_12 (k := 6) (by decide), sdS_12 (k := 7) (by decide), sdS_12 (k := 8) (by decide), sdS_12 (k := 9) (by decide), sdS_12 (k := 10) (by decide)]
    exact this
  · have := hC c' hc'
    unfold CI LM at this ⊢
    rw [sdS_k (κ := (8, c', 0)) (by simp; exact hne') (by simp) (by simp) (by simp), sdS_12 (k := 11) (by decide), sdS_12 (k := 12) (by decide), sdS_12 (k := 13) (by decide), sdS_12 (k := 14) (by decide), sdS_12 (k := 15) (by decide), sdS_12 (k := 18) (by decide), sdS_16 hne']
    exact this
  · rw [sdS_8 (by decide), sdS_12 (by decide)]; exact b0
  · rw [sdS_8 (by decide), sdS_12 (by decide)]; exact b1
  · rw [sdS_8 (by decide), sdS_12 (by decide)]; exact b2
  · rw [sdS_8 (by decide), sdS_12 (by decide)]; exact b3
  · rw [sdS_8 (by decide), sdS_12 (by decide)]; exact b4
  · rw [sdS_8 (by decide), b8, if_neg (by omega), sdS_16c, if_neg (by decide)]
  · rw [sdS_12 (by decide)]; exact c12
  · rw [sdS_12 (by decide)]; exact c13
  · rw [sdS_12 (by decide)]; exact c14
  · rw [sdS_12 (by decide)]; exact c15
  · rw [sdS_12 (by decide), sdS_12 (by decide), sdS_12 (by decide)]; exact hZ.1 r hr hr6
  · unfold LM
    rw [sdS_12 (k := 18) (by decide), sdS_16 (by omega)]; exact hZ.2 c' hc' hc4
  · unfold LA LI ML LM at hL ⊢
    rw [sdS_12 (k := 17) (by decide), sdS_12 (k := 18) (by decide)]
    intro c' hc' i hi
    obtain ⟨n, g1, g2, g3⟩ := hL c' hc' i hi
    exact ⟨n, g1, g2, by rw [sdS_k (κ := (10, n, 0)) (by simp) (by simp) (by simp) (by simp)]; exact g3⟩
  · unfold LD LM at hD ⊢
    rw [sdS_12 (k := 18) (by decide)]; exact hD
  · unfold LM at e1 ⊢
    rw [sdS_12 (k := 18) (by decide)]; exact e1
  · rw [sdS_8 (by decide)]; exact e3
set_option maxHeartbeats 2000000 in
theorem sd_RF {K K' : List nKey} {σ σ4 σ9 σA σ1 σB0 σB σ25 : nS} {R c : Nat} {ls : List Lg} (he : Eqv σ σ4) (e9 : σ9 = s1 (s1 σ4 (8, c, 0) 7 1) (0, 0, 0) 9 (c : Int)) (hXR : XR K σ9 R c 0 ls ls.length K' σA) (y12 : ∀ k, k < 19 → σA.1 (12, k, 0) = σ.1 (12, k, 0)) (y11 : ∀ i, i ≠ 24 → i ≠ 34 → σA.1 (11, 0, 0) i = σ.1 (11, 0, 0) i) (q1 : σ1 = s1 σA (11, 0, 0) 24 0) (heB : Eqv σ1 σB0) (hXM : XM σB0 c 0 ls ls.length σB) (e25 : σ25 = s1 (s1 σB (12, 16, 0) c 1) (11, 0, 0) 21 (c : Int)) : RF K (sdS σ c) R c 0 ls K' σ25 := by
  have g11 : ∀ i, i ≠ 24 → i ≠ 34 → σ1.1 (11, 0, 0) i = σ.1 (11, 0, 0) i := fun i h1 h2 => by rw [q1, s1_i h1, y11 i h1 h2]
  have g12 : ∀ k, k < 19 → σ1.1 (12, k, 0) = σ.1 (12, k, 0) := fun k hk => by rw [q1, s1_k (by simp), y12 k hk]
  have w12 : ∀ k, k < 19 → σB0.1 (12, k, 0) = σ.1 (12, k, 0) := fun k hk => by rw [heB.k12 hk, g12 k hk]
  have w11 : ∀ i, i ≠ 24 → i ≠ 34 → σB0.1 (11, 0, 0) i = σ.1 (11, 0, 0) i := fun i h1 h2 => by rw [heB.k11 h1 h2, g11 i h1 h2]
  have m1' := hXM.1.2
  refine RF_of hXR hXM (fun κ q1 q4 q5 => ?_) ?_ (fun κ q1' q4 q5 => ?_) (by rw [heB.1, q1]; rfl) ?_ (fun k hk hk16 => ?_) (fun κ a b => ?_) (by rw [e25, s1_2, s1_2]) (fun i h1 h2 => ?_) ?_
  · funext i
    have e4 : σ4.1 κ i = σ.1 κ i := he.2 _ _ (by unfold Scr; omega)
    rw [e9]
    by_cases k8 : κ = (8, c, 0)
    · subst k8
      rw [s1_k (by simp)]
      by_cases k7 : i = 7
      · subst k7; rw [s1_at, sdS_87]
      · rw [s1_i k7, sdS_8 k7, e4]
    · by_cases k0 : κ = (0, 0, 0)
      · subst k0
        by_cases k9 : i = 9
        · subst k9; rw [s1_at, sdS_09]
        · rw [s1_i k9, s1_k (by simp), sdS_0 k9, e4]
      · rw [s1_k k0, s1_k k8, sdS_k k8 k0 (fun e => by rw [e] at q1; simp at q1) (fun e => by rw [e] at q1; simp at q1), e4]
  · rw [e9, s1_2, s1_2, he.1]; rfl
  · have : σB0.1 κ = σ1.1 κ := funext fun i => heB.2 _ _ (by unfold Scr; omega)
    rw [this, q1, s1_k (fun e => by rw [e] at q1'; simp at q1')]
  · rw [sdS_11 (by decide), w11 13 (by decide) (by decide)]
  · rw [sdS_12 hk16, w12 k hk]
  · rw [e25, s1_k (fun e => by rw [e] at a; exact a rfl), s1_k b]
  · by_cases k21 : i = 21
    · subst k21; rw [e25, s1_at, sdS_1121]
    · rw [e25, s1_i k21, s1_k (by simp), m1' _ (by simp) (by simp) (by simp) (by simp) (by simp) (by simp), w11 i h1 h2, sdS_11 k21]
  · funext i
    rw [e25, s1_k (by simp)]
    by_cases kc : i = c
    · subst kc; rw [s1_at, sdS_16c]
    · rw [s1_i kc, m1' _ (by simp) (by simp) (by simp) (by simp) (by simp) (by simp), w12 16 (by decide), sdS_16 kc]
/-- of the best chain: its legs -/
theorem ch_legs {R P : Nat} {cy : Nat → Bool} {at0 : Nat → Nat} {st bb : Nat → Int} {F : Nat → Nat → Nat → Int} {goal x0 : Nat} {t0 : Int} {c : List Ky} (hc : c = List.foldl (min5 at0 st F x0 t0) [] (en R cy at0 st bb F goal x0 t0 (List.range P) 3 [])) (hl : 0 < c.length) : ∃ ls, ls = legs at0 st F x0 t0 c ∧ ls.length = c.length ∧ (∃ ll, ls[ls.length - 1]? = some ll) ∧ (∀ l ∈ ls, cy l.1 = true) ∧ (∀ (j : Nat) (l l' : Lg), ls[j]? = some l → ls[j + 1]? = some l' → l'.2.1 = l.2.2.1) ∧ (∀ l, ls[0]? = some l → (x0 : Int) = (l.2.1 : Int)) := by
  have hlen : (legs at0 st F x0 t0 c).length = c.length := by rw [legs_len]
  refine ⟨_, rfl, hlen, ⟨_, List.getElem?_eq_getElem (by omega)⟩, best_cy hc, fun j l l' q q' => legs_chain q q', fun l q => ?_⟩
  have := legs_from q
  simp at this
  omega
