/-- behind j legs of the model's ride -/
def XM (σ0 : nS) (c m : Nat) (ls : List Lg) (j : Nat) (σ : nS) : Prop :=
  (σ.2 = σ0.2 ∧ ∀ κ : nKey, κ ≠ (12, 17, 0) → κ ≠ (12, 18, 0) → κ ≠ (12, 6, 0) → κ ≠ (12, 7, 0) → κ ≠ (12, 9, 0) → κ ≠ (12, 10, 0) → σ.1 κ = σ0.1 κ) ∧
  (∀ r, σ.1 (12, 6, 0) r = rdA ls (σ0.1 (12, 6, 0)) j r ∧ σ.1 (12, 7, 0) r = rdB (σ0.1 (11, 0, 0) 13) ls (σ0.1 (12, 7, 0)) j r ∧ σ.1 (12, 9, 0) r = rdQ ls (σ0.1 (12, 9, 0)) j r ∧ σ.1 (12, 10, 0) r = rdM ls (σ0.1 (12, 10, 0)) j r) ∧
  (σ.1 (12, 18, 0) c = ((m + j : Nat) : Int) ∧ ∀ i, i ≠ c → σ.1 (12, 18, 0) i = σ0.1 (12, 18, 0) i) ∧
  (∀ z, ¬ (8 * (24 * c + m) ≤ z ∧ z < 8 * (24 * c + m + j)) → σ.1 (12, 17, 0) z = σ0.1 (12, 17, 0) z) ∧
  (∀ i l, i < j → ls[i]? = some l → ML σ c (m + i) 0 = (l.1 : Int) ∧ ML σ c (m + i) 1 = (l.2.1 : Int) ∧ ML σ c (m + i) 2 = (l.2.2.1 : Int) ∧ ML σ c (m + i) 3 = l.2.2.2.1 ∧ ML σ c (m + i) 4 = l.2.2.2.2 ∧ ML σ c (m + i) 5 = 0 ∧ ML σ c (m + i) 6 = rdA ls (σ0.1 (12, 6, 0)) i l.1 ∧ ML σ c (m + i) 7 = rdB (σ0.1 (11, 0, 0) 13) ls (σ0.1 (12, 7, 0)) i l.1)
theorem x5_ride5 {K : List nKey} {σ0 : nS} {R P c m : Nat} {ls : List Lg} {k : nS → Prop} (hc : c < 40) (hn3 : ls.length ≤ 3) (hmn : m + ls.length ≤ 18) (hv : vll R P ls) (r6 : R ≤ 6) (hmany : σ0.1 (11, 0, 0) 34 = (ls.length : Int)) (hls : Ls5 σ0 24 ls) (hk : ∀ σ, XM σ0 c m ls ls.length σ → k σ) (hch : ∀ (j : Nat) (l l' : Lg), ls[j]? = some l → ls[j + 1]? = some l' → l'.2.1 = l.2.2.1) :
    ∀ (f j : Nat) (v3 : Int) (σ : nS), j + f = ls.length → (∀ l, ls[j]? = some l → v3 = (l.2.1 : Int)) → XM σ0 c m ls j σ → P_X5_ride_L5 K k (c : Int) (f + 1) v3 (j : Int) σ := by
  intro f
  induction f with
  | zero =>
    intro j v3 σ hj _ hx
    have hj' : j = ls.length := by omega
    have hl : σ.1 (11, 0, 0) 34 = (ls.length : Int) := by rw [hx.1.2 _ (by simp) (by simp) (by simp) (by simp) (by simp) (by simp)]; exact hmany
    unfold P_X5_ride_L5
    rw [hl, w0 (x := (j : Int)) (by omega) (by omega), w0 (x := (ls.length : Int)) (by omega) (by omega)]
    exact ⟨fun _ => hk σ (by rw [← hj']; exact hx), fun h => absurd h (by omega)⟩
  | succ f ih =>
    intro j v3 σ hj hv3 hx
    obtain ⟨⟨h1, h1'⟩, h2, ⟨h3, h3'⟩, h4, h5⟩ := hx
    have fx : ∀ κ : nKey, κ ≠ (12, 17, 0) → κ ≠ (12, 18, 0) → κ ≠ (12, 6, 0) → κ ≠ (12, 7, 0) → κ ≠ (12, 9, 0) → κ ≠ (12, 10, 0) → σ.1 κ = σ0.1 κ := h1'
    have hl : σ.1 (11, 0, 0) 34 = (ls.length : Int) := by rw [h1' _ (by simp) (by simp) (by simp) (by simp) (by simp) (by simp)]; exact hmany
    obtain ⟨l, hlj⟩ : ∃ l, ls[j]? = some l := ⟨_, List.getElem?_eq_getElem (by omega)⟩
    have hvl := hv l (List.mem_of_getElem? hlj)
    obtain ⟨s0, s1', s2', s3'⟩ := hls j l hlj
    have b24 : σ.1 (12, 24, 0) = σ0.1 (12, 24, 0) := h1' _ (by simp) (by simp) (by simp) (by simp) (by simp) (by simp)
    have hv3' := hv3 l hlj
    subst hv3'
    unfold P_X5_ride_L5
    rw [hl, w0 (x := (j : Int)) (by omega) (by omega), w0 (x := (ls.length : Int)) (by omega) (by omega)]
    simp only [Int.toNat_natCast]
    rw [b24, s0, h3]
    refine ⟨fun h => absurd h (by omega), fun _ => ⟨by omega, by omega, fun x4 e4 => ⟨by omega, by omega, fun x7 e7 => ?_⟩⟩⟩
    subst e4
    obtain ⟨B, hB⟩ : ∃ B : Nat, B = 8 * (24 * c + (m + j)) := ⟨_, rfl⟩
    have e7' : x7 = (B : Int) := by rw [e7, hB]; omega
    have hBl : B + 8 ≤ 7680 := by omega
    subst e7'
    clear e7
    simp only [Int.toNat_natCast]
    rw [show ((B : Int) + 1).toNat = B + 1 by omega, show ((B : Int) + 2).toNat = B + 2 by omega, show ((B : Int) + 3).toNat = B + 3 by omega, show ((B : Int) + 4).toNat = B + 4 by omega, show ((B : Int) + 5).toNat = B + 5 by omega, show ((B : Int) + 6).toNat = B + 6 by omega, show ((B : Int) + 7).toNat = B + 7 by omega]
    refine ⟨by omega, by omega, fun σ8 e8 => ⟨by omega, by omega, fun σ11 e11 => ⟨by omega, by omega, by omega, by omega, fun σ16 e16 => ⟨by omega, by omega, by omega, by omega, fun σ21 e21 => ⟨by omega, by omega, by omega, by omega, fun σ26 e26 => ⟨by omega, by omega, fun σ29 e29 => ⟨by omega, by omega, by omega, by omega, fun σ34 e34 => ⟨by omega, by omega, by omega, by omega, fun σ39 e39 => ⟨by omega, by omega, by omega, by omega, fun σ44 e44 => ⟨by omega, by omega, fun x49 e49 => ⟨by omega, by omega, fun σ50 e50 => ?_⟩⟩⟩⟩⟩⟩⟩⟩⟩⟩⟩
    have y11 : σ11.1 (12, 25, 0) j = (l.2.2.1 : Int) := by rw [e11, s1_k (by simp), e8, s1_k (by simp), h1' _ (by simp) (by simp) (by simp) (by simp) (by simp) (by simp)]; exact s1'
    rw [y11] at e16
    have y16 : σ16.1 (12, 26, 0) j = l.2.2.2.1 := by rw [e16, s1_k (by simp), e11, s1_k (by simp), e8, s1_k (by simp), h1' _ (by simp) (by simp) (by simp) (by simp) (by simp) (by simp)]; exact s2'
    rw [y16] at e21
    have y21 : σ21.1 (12, 27, 0) j = l.2.2.2.2 := by rw [e21, s1_k (by simp), e16, s1_k (by simp), e11, s1_k (by simp), e8, s1_k (by simp), h1' _ (by simp) (by simp) (by simp) (by simp) (by simp) (by simp)]; exact s3'
    rw [y21] at e26
    have u29 : ∀ κ : nKey, κ ≠ (12, 17, 0) → σ29.1 κ = σ.1 κ := fun κ a => by rw [e29, s1_k a, e26, s1_k a, e21, s1_k a, e16, s1_k a, e11, s1_k a, e8, s1_k a]
    rw [u29 _ (by simp), (h2 l.1).1] at e34
    have u34 : ∀ κ : nKey, κ ≠ (12, 17, 0) → σ34.1 κ = σ.1 κ := fun κ a => by rw [e34, s1_k a, u29 κ a]
    rw [u34 _ (by simp), (h2 l.1).2.1] at e39
    have u39 : ∀ κ : nKey, κ ≠ (12, 17, 0) → σ39.1 κ = σ.1 κ := fun κ a => by rw [e39, s1_k a, u34 κ a]
    rw [u39 _ (by simp), h3] at e44
    have y44 : σ44.1 (12, 25, 0) j = (l.2.2.1 : Int) := by rw [e44, s1_k (by simp), u39 _ (by simp), h1' _ (by simp) (by simp) (by simp) (by simp) (by simp) (by simp)]; exact s1'
    rw [y44] at e49
    subst e49
    have u50 : ∀ κ : nKey, κ ≠ (12, 17, 0) → κ ≠ (12, 18, 0) → κ ≠ (12, 6, 0) → σ50.1 κ = σ.1 κ := fun κ a b d => by rw [e50, s1_k d, e44, s1_k b, u39 κ a]
    have i50 : ∀ f', σ50.1 (12, 24 + f', 0) = σ0.1 (12, 24 + f', 0) := fun f' => by rw [u50 _ (by simp; omega) (by simp; omega) (by simp; omega)]; exact h1' _ (by simp; omega) (by simp; omega) (by simp; omega) (by simp; omega) (by simp; omega) (by simp; omega)
    have hl50 : σ50.1 (11, 0, 0) 34 = (ls.length : Int) := by rw [u50 _ (by simp) (by simp) (by simp)]; exact hl
    have r50 : σ50.1 (11, 0, 0) 13 = σ0.1 (11, 0, 0) 13 := by rw [u50 _ (by simp) (by simp) (by simp), h1' _ (by simp) (by simp) (by simp) (by simp) (by simp) (by simp)]
    have blk : σ39.1 (12, 17, 0) = σ50.1 (12, 17, 0) := by rw [e50, s1_k (by simp), e44, s1_k (by simp)]
    have fin : ∀ σa σb σc, σa = s1 σ50 (12, 7, 0) l.1 (hov ls j + σ0.1 (11, 0, 0) 13) → σb = s1 σa (12, 9, 0) l.1 (σa.1 (12, 9, 0) l.1 + 1) → σc = s1 σb (12, 10, 0) l.1 (σb.1 (12, 10, 0) l.1 + (σb.1 (12, 27, 0) j - σb.1 (12, 26, 0) j)) → P_X5_ride_L5 K k (c : Int) (f + 1) (l.2.2.1 : Int) ((j : Int) + 1) σc := fun σa σb σc ea eb ec => by
      have p9 : σa.1 (12, 9, 0) l.1 = rdQ ls (σ0.1 (12, 9, 0)) j l.1 := by rw [ea, s1_k (by simp), u50 _ (by simp) (by simp) (by simp)]; exact (h2 l.1).2.2.1
      have p10 : σb.1 (12, 10, 0) l.1 = rdM ls (σ0.1 (12, 10, 0)) j l.1 := by rw [eb, s1_k (by simp), ea, s1_k (by simp), u50 _ (by simp) (by simp) (by simp)]; exact (h2 l.1).2.2.2
      have p27 : σb.1 (12, 27, 0) j = l.2.2.2.2 := by rw [eb, s1_k (by simp), ea, s1_k (by simp), i50 3]; exact s3'
      have p26 : σb.1 (12, 26, 0) j = l.2.2.2.1 := by rw [eb, s1_k (by simp), ea, s1_k (by simp), i50 2]; exact s2'
      rw [p9] at eb
      rw [p10, p27, p26] at ec
      have z17 : σc.1 (12, 17, 0) = σ39.1 (12, 17, 0) := by rw [ec, s1_k (by simp), eb, s1_k (by simp), ea, s1_k (by simp), blk]
      have zo : ∀ z, ¬ (B ≤ z ∧ z < B + 8) → σ39.1 (12, 17, 0) z = σ.1 (12, 17, 0) z := fun z hz => by
        rw [e39, s1_i (by omega), e34, s1_i (by omega), e29, s1_i (by omega), e26, s1_i (by omega), e21, s1_i (by omega), e16, s1_i (by omega), e11, s1_i (by omega), e8, s1_i (by omega)]
      refine ih (j + 1) _ σc (by omega) (fun l' hl' => by rw [hch j l l' hlj hl']) ⟨⟨?_, fun κ a b d e g h => ?_⟩, fun r => ?_, ⟨?_, fun i hi => ?_⟩, fun z hz => ?_, fun i l' hi hl' => ?_⟩
      · rw [ec, s1_2, eb, s1_2, ea, s1_2, e50, s1_2, e44, s1_2, e39, s1_2, e34, s1_2, e29, s1_2, e26, s1_2, e21, s1_2, e16, s1_2, e11, s1_2, e8, s1_2]; exact h1
      · rw [ec, s1_k h, eb, s1_k g, ea, s1_k e, u50 κ a b d]; exact h1' κ a b d e g h
      · obtain ⟨g6, g7, g9, g10⟩ := h2 r
        unfold rdA at g6 ⊢
        unfold rdB at g7 ⊢
        unfold rdQ at g9 ⊢
        unfold rdM at g10 ⊢
        rw [rdU_s hlj, rdU_s hlj, rdU_s hlj, rdU_s hlj]
        by_cases er : r = l.1
        · subst er
          rw [if_pos rfl, if_pos rfl, if_pos rfl, if_pos rfl]
          refine ⟨?_, ?_, ?_, ?_⟩
          · rw [ec, s1_k (by simp), eb, s1_k (by simp), ea, s1_k (by simp), e50, s1_at]
          · rw [ec, s1_k (by simp), eb, s1_k (by simp), ea, s1_at]
          · rw [ec, s1_k (by simp), eb, s1_at]
          · rw [ec, s1_at]
        · rw [if_neg er, if_neg er, if_neg er, if_neg er]
          refine ⟨?_, ?_, ?_, ?_⟩
          · rw [ec, s1_k (by simp), eb, s1_k (by simp), ea, s1_k (by simp), e50, s1_i er, e44, s1_k (by simp), u39 _ (by simp)]; exact g6
          · rw [ec, s1_k (by simp), eb, s1_k (by simp), ea, s1_i er, u50 _ (by simp) (by simp) (by simp)]; exact g7
          · rw [ec, s1_k (by simp), eb, s1_i er, ea, s1_k (by simp), u50 _ (by simp) (by simp) (by simp)]; exact g9
          · rw [ec, s1_i er, eb, s1_k (by simp), ea, s1_k (by simp), u50 _ (by simp) (by simp) (by simp)]; exact g10
      · rw [ec, s1_k (by simp), eb, s1_k (by simp), ea, s1_k (by simp), e50, s1_k (by simp), e44, s1_at]; omega
      · rw [ec, s1_k (by simp), eb, s1_k (by simp), ea, s1_k (by simp), e50, s1_k (by simp), e44, s1_i hi, u39 _ (by simp)]; exact h3' i hi
      · rw [z17, zo z (by omega)]; exact h4 z (by omega)
      · unfold ML
        rw [z17]
        by_cases ei : i = j
        · subst ei
          cases hlj.symm.trans hl'
          rw [← hB]
          refine ⟨?_, ?_, ?_, ?_, ?_, ?_, ?_, ?_⟩
          · rw [e39, s1_i (by omega), e34, s1_i (by omega), e29, s1_i (by omega), e26, s1_i (by omega), e21, s1_i (by omega), e16, s1_i (by omega), e11, s1_i (by omega), e8, Nat.add_zero, s1_at]
          · rw [e39, s1_i (by omega), e34, s1_i (by omega), e29, s1_i (by omega), e26, s1_i (by omega), e21, s1_i (by omega), e16, s1_i (by omega), e11, s1_at]
          · rw [e39, s1_i (by omega), e34, s1_i (by omega), e29, s1_i (by omega), e26, s1_i (by omega), e21, s1_i (by omega), e16, s1_at]
          · rw [e39, s1_i (by omega), e34, s1_i (by omega), e29, s1_i (by omega), e26, s1_i (by omega), e21, s1_at]
          · rw [e39, s1_i (by omega), e34, s1_i (by omega), e29, s1_i (by omega), e26, s1_at]
          · rw [e39, s1_i (by omega), e34, s1_i (by omega), e29, s1_at]
          · rw [e39, s1_i (by omega), e34, s1_at]
          · rw [e39, s1_at]
        · have := h5 i l' (by omega) hl'
          unfold ML at this
          rw [zo _ (by omega), zo _ (by omega), zo _ (by omega), zo _ (by omega), zo _ (by omega), zo _ (by omega), zo _ (by omega), zo _ (by omega)]
          exact this
    rw [hl50, w0 (x := (ls.length : Int)) (by omega) (by omega), w0 (x := (j : Int) + 1) (by omega) (by omega)]
    refine ⟨fun hlast => ⟨by omega, by omega, by omega, by omega, fun σ56 e56 => ⟨by omega, by omega, by omega, by omega, fun σ61 e61 => ⟨by omega, by omega, by omega, by omega, by omega, by omega, by omega, by omega, fun σ70 e70 x73 ex => ?_⟩⟩⟩, fun hmore => ⟨by omega, by omega, by omega, by omega, fun σ76 e76 => ⟨by omega, by omega, by omega, by omega, fun σ81 e81 => ⟨by omega, by omega, by omega, by omega, by omega, by omega, by omega, by omega, fun σ90 e90 x93 ex => ?_⟩⟩⟩⟩
    · subst ex
      refine fin σ56 σ61 σ70 ?_ e61 e70
      have : hov ls j = l.2.2.2.2 := by unfold hov; rw [List.getElem?_eq_none (by omega), hlj]
      rw [e56, r50, this, i50 3, s3']
    · subst ex
      refine fin σ76 σ81 σ90 ?_ e81 e90
      obtain ⟨l', hl'⟩ : ∃ l, ls[j + 1]? = some l := ⟨_, List.getElem?_eq_getElem (by omega)⟩
      have : hov ls j = l'.2.2.2.1 := by unfold hov; rw [hl']
      rw [e76, r50, this, i50 2, show ((j : Int) + 1).toNat = j + 1 by omega, (hls _ _ hl').2.2.1]
