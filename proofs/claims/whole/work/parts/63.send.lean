theorem en_cy {R : Nat} {cy : Nat → Bool} {at0 : Nat → Nat} {st bb : Nat → Int} {F : Nat → Nat → Nat → Int} {goal x0 : Nat} {t0 : Int} {ps : List Nat} : ∀ d pre c, (∀ q ∈ pre, cy q.1 = true) → c ∈ en R cy at0 st bb F goal x0 t0 ps d pre → ∀ q ∈ c, cy q.1 = true := by
  intro d
  induction d with
  | zero => intro pre c _ h; simp [en] at h
  | succ d ih =>
    intro pre c hp h
    simp only [en, List.mem_flatMap, List.mem_range] at h
    obtain ⟨r, hr, h⟩ := h
    obtain ⟨hok, h⟩ := mem_if h
    have hcy : cy r = true := by
      cases g : cy r with
      | true => rfl
      | false => unfold okr at hok; rw [g] at hok; simp at hok
    rw [List.mem_flatMap] at h
    obtain ⟨y, hy, h⟩ := h
    have h := (mem_if h).2
    have hp' : ∀ q ∈ pre ++ [(r, y)], cy q.1 = true := fun q hq => by
      rcases List.mem_append.mp hq with h | h
      · exact hp q h
      · simp at h; rw [h]; exact hcy
    by_cases e : y = goal
    · rw [if_pos e] at h
      simp at h
      rw [h]; exact hp'
    · rw [if_neg e] at h
      exact ih _ c hp' h
theorem best_cy {R P : Nat} {cy : Nat → Bool} {at0 : Nat → Nat} {st bb : Nat → Int} {F : Nat → Nat → Nat → Int} {goal x0 : Nat} {t0 : Int} {c : List Ky} (hc : c = List.foldl (min5 at0 st F x0 t0) [] (en R cy at0 st bb F goal x0 t0 (List.range P) 3 [])) : ∀ l ∈ legs at0 st F x0 t0 c, cy l.1 = true := by
  intro l hl
  obtain ⟨j, hj⟩ := List.getElem?_of_mem hl
  have hk := legs_key hj
  have hm := (fold5 (at0 := at0) (st := st) (F := F) (x0 := x0) (t0 := t0) (en R cy at0 st bb F goal x0 t0 (List.range P) 3 []) [] (fun c h => by obtain ⟨k, ks, e, -⟩ := en_form _ _ _ h; rw [e]; simp)).1
  rw [← hc] at hm
  rcases hm with h | h
  · rw [h] at hk; simp at hk
  · exact en_cy 3 [] c (fun q hq => by cases hq) h _ (List.mem_of_getElem? hk)
theorem legs_chain {at0 : Nat → Nat} {st : Nat → Int} {F : Nat → Nat → Nat → Int} {x : Nat} {t : Int} {c : List Ky} {j : Nat} {l l' : Lg} (h : (legs at0 st F x t c)[j]? = some l) (h' : (legs at0 st F x t c)[j + 1]? = some l') : l'.2.1 = l.2.2.1 := by
  have h1 := legs_from h'
  have h2 := legs_key h
  rw [List.getElem?_cons_succ, List.getElem?_map, h2] at h1
  simpa using h1.symm
theorem Dat5.cong {R P : Nat} {cy : Nat → Bool} {at0 : Nat → Nat} {st bb : Nat → Int} {F E : Nat → Nat → Nat → Int} {kind : Int} {σ σ' : nS} (h : Dat5 R P cy at0 st bb F E kind σ) (e1 : σ'.1 (11, 0, 0) 1 = σ.1 (11, 0, 0) 1) (e2 : σ'.1 (11, 0, 0) 12 = σ.1 (11, 0, 0) 12) (e : ∀ k, k < 9 → σ'.1 (12, k, 0) = σ.1 (12, k, 0)) : Dat5 R P cy at0 st bb F E kind σ' := by
  unfold Dat5 ctx5 at h ⊢
  rw [e1, e2, e 8 (by decide), e 5 (by decide), e 6 (by decide), e 7 (by decide), e 3 (by decide), e 4 (by decide), e 0 (by decide), e 2 (by decide)]
  exact h
/-- both rides, one behind the other, from one chain: what the state is then, against a state σs that has the class's cells of the one start and the model's of the other -/
theorem RF_of {K0 K : List nKey} {σs σ9 σA σB0 σB σF : nS} {R c m : Nat} {ls : List Lg} (hA : XR K0 σ9 R c m ls ls.length K σA) (hB : XM σB0 c m ls ls.length σB)
    (h9 : ∀ κ : nKey, κ.1 < 11 → κ.1 ≠ 4 → κ.1 ≠ 5 → σ9.1 κ = σs.1 κ) (h92 : σ9.2 = σs.2)
    (hB0 : ∀ κ : nKey, κ.1 < 11 → κ.1 ≠ 4 → κ.1 ≠ 5 → σB0.1 κ = σA.1 κ) (hB02 : σB0.2 = σA.2)
    (hs11 : σs.1 (11, 0, 0) 13 = σB0.1 (11, 0, 0) 13) (hs12 : ∀ k, k < 19 → k ≠ 16 → σs.1 (12, k, 0) = σB0.1 (12, k, 0))
    (hF : ∀ κ : nKey, κ.1 ≠ 11 → κ ≠ (12, 16, 0) → σF.1 κ = σB.1 κ) (hF2 : σF.2 = σB.2) (hF11 : ∀ i, i ≠ 24 → i ≠ 34 → σF.1 (11, 0, 0) i = σs.1 (11, 0, 0) i) (hF16 : σF.1 (12, 16, 0) = σs.1 (12, 16, 0)) : RF K0 σs R c m ls K σF := by
  obtain ⟨a1, a2, ⟨a3, a3'⟩, a4, a5, a6, a7, a8⟩ := hA
  obtain ⟨⟨b1, b1'⟩, b2, ⟨b3, b3'⟩, b4, b5⟩ := hB
  have cl : ∀ κ : nKey, κ.1 < 11 → κ.1 ≠ 4 → κ.1 ≠ 5 → σF.1 κ = σA.1 κ := fun κ h h4 h5 => by
    have n12 : ∀ k, κ ≠ (12, k, 0) := fun k e => by rw [e] at h; simp at h
    rw [hF κ (by omega) (n12 16), b1' κ (n12 17) (n12 18) (n12 6) (n12 7) (n12 9) (n12 10), hB0 κ h h4 h5]
  have c2 : σF.2 = σA.2 := by rw [hF2, b1, hB02]
  have s6 : ∀ r i, σ9.1 (6, r, 0) i = σs.1 (6, r, 0) i := fun r i => by rw [h9 _ (by simp) (by simp) (by simp)]
  have s0 : σ9.1 (0, 0, 0) 8 = σs.1 (0, 0, 0) 8 := by rw [h9 _ (by simp) (by simp) (by simp)]
  have s12 : ∀ k, k < 16 → σB0.1 (12, k, 0) = σs.1 (12, k, 0) := fun k h => (hs12 k (by omega) (by omega)).symm
  simp only [s6, s0] at a2 a5
  rw [s12 6 (by decide), s12 7 (by decide), ← hs11] at b5
  rw [s12 6 (by decide), s12 7 (by decide), s12 9 (by decide), s12 10 (by decide), ← hs11] at b2
  refine ⟨fun κ hκ => ?_, fun r hr => ?_, ⟨?_, fun i hi => ?_⟩, fun κ i hκ => ?_, fun i l hi hl => ?_, fun i i' n hi hi' hs hs' => ?_, ⟨a7, ?_⟩, ⟨hF11, fun k hk k6 k7 k9 k10 => ?_⟩, fun r => ?_, ⟨?_, fun i hi => ?_⟩, fun z hz => ?_, fun i l hi hl => ?_⟩
  · have hlt : κ.1 < 11 ∧ κ.1 ≠ 4 ∧ κ.1 ≠ 5 ∧ κ.1 ≠ 6 := by omega
    rw [cl κ hlt.1 hlt.2.1 hlt.2.2.1, a1 κ hlt.2.2.2 (fun e => by subst e; simp at hκ) (by
      rcases hκ with h | h | h | h | h
      · exact Or.inr (by omega)
      · exact Or.inr (by omega)
      · exact Or.inr (by omega)
      · exact Or.inr (by omega)
      · exact Or.inl h.2), h9 κ hlt.1 hlt.2.1 hlt.2.2.1]
  · rw [cl _ (by simp) (by simp) (by simp)]; exact a2 r hr
  · rw [cl _ (by simp) (by simp) (by simp)]; exact a3
  · rw [cl _ (by simp) (by simp) (by simp), a3' i hi, h9 _ (by simp) (by simp) (by simp)]
  · rw [c2, a4 κ i hκ, h92]
  · obtain ⟨n, n1, n2, n3, n4⟩ := a5 i l hi hl
    exact ⟨n, by rw [c2]; exact n1, n2, n3, by rw [cl _ (by simp) (by simp) (by simp)]; exact n4⟩
  · rw [c2] at hs hs'; exact a6 i i' n hi hi' hs hs'
  · unfold CLs at a8 ⊢; rw [c2]; exact a8
  · by_cases e : k = 16
    · subst e; exact hF16
    · rw [hF _ (by simp) (by simp; exact e), b1' _ (by simp; omega) (by simp; omega) (by simp; exact k6) (by simp; exact k7) (by simp; exact k9) (by simp; exact k10), hs12 k (by omega) e]
  · rw [hF _ (by simp) (by simp), hF _ (by simp) (by simp), hF _ (by simp) (by simp), hF _ (by simp) (by simp)]; exact b2 r
  · rw [hF _ (by simp) (by simp)]; exact b3
  · rw [hF _ (by simp) (by simp), b3' i hi, hs12 18 (by decide) (by decide)]
  · rw [hF _ (by simp) (by simp), b4 z hz, hs12 17 (by decide) (by decide)]
  · unfold ML
    rw [hF _ (by simp) (by simp)]
    exact b5 i l hi hl
theorem XR_0 {K : List nKey} {σ : nS} {R c m : Nat} {ls : List Lg} (hm : σ.1 (8, c, 0) 6 = (m : Int)) (hcl : CLs K σ) : XR K σ R c m ls 0 K σ :=
  ⟨fun _ _ _ _ => rfl, fun r _ => ⟨rfl, rfl, rfl, rfl, fun _ _ _ _ _ => rfl⟩, ⟨hm, fun _ _ => rfl⟩, fun _ _ _ => rfl, fun i l hi => absurd hi (Nat.not_lt_zero i), fun i i' n hi => absurd hi (Nat.not_lt_zero i), ⟨fun _ h => h, fun _ h => Or.inl h⟩, hcl⟩
theorem XM_0 {σ : nS} {c m : Nat} {ls : List Lg} (hm : σ.1 (12, 18, 0) c = (m : Int)) : XM σ c m ls 0 σ :=
  ⟨⟨rfl, fun _ _ _ _ _ _ _ => rfl⟩, fun r => ⟨rfl, rfl, rfl, rfl⟩, ⟨hm, fun _ _ => rfl⟩, fun _ _ => rfl, fun i l hi => absurd hi (Nat.not_lt_zero i)⟩
