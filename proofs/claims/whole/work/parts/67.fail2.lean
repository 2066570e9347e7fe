/-! the state behind a leg's failing, both sides' cells in one -/
def fS (σ : nS) (c m i n : Nat) (v : Int) : nS :=
  (fun κ z => if κ.1 = 6 ∧ κ.2.2 = 0 then
      (if z = 6 then (if κ.2.1 = (ML σ c i 0).toNat then ML σ c i 1 else dA σ c m (fun r => σ.1 (6, r, 0) 6) (m - 1 - i) κ.2.1)
       else if z = 7 then dB σ c m (fun r => σ.1 (6, r, 0) 7) (m - 1 - i) κ.2.1
       else if z = 8 then dQ σ c m (fun r => σ.1 (6, r, 0) 8) (m - 1 - i) κ.2.1
       else if z = 9 then (if κ.2.1 = (ML σ c i 0).toNat then dM σ c m (fun r => σ.1 (6, r, 0) 9) (m - 1 - i) κ.2.1 - (ML σ c i 4 - v) else dM σ c m (fun r => σ.1 (6, r, 0) 9) (m - 1 - i) κ.2.1)
       else if z = 10 then (if κ.2.1 = (ML σ c i 0).toNat then 1 else σ.1 κ z)
       else σ.1 κ z)
    else if κ = (8, c, 0) then (if z = 6 then (i : Int) + 1 else σ.1 κ z)
    else if κ = (10, n, 0) then (if z = 5 then ML σ c i 1 else if z = 6 then v else if z = 7 then 1 else σ.1 κ z)
    else if κ = (12, 6, 0) then (if z = (ML σ c i 0).toNat then ML σ c i 1 else dA σ c m (σ.1 (12, 6, 0)) (m - 1 - i) z)
    else if κ = (12, 7, 0) then dB σ c m (σ.1 (12, 7, 0)) (m - 1 - i) z
    else if κ = (12, 8, 0) then (if z = (ML σ c i 0).toNat then 1 else σ.1 κ z)
    else if κ = (12, 9, 0) then dQ σ c m (σ.1 (12, 9, 0)) (m - 1 - i) z
    else if κ = (12, 10, 0) then (if z = (ML σ c i 0).toNat then dM σ c m (σ.1 (12, 10, 0)) (m - 1 - i) z + (v - ML σ c i 4) else dM σ c m (σ.1 (12, 10, 0)) (m - 1 - i) z)
    else if κ = (12, 17, 0) then (if z = 8 * (24 * c + i) + 2 then ML σ c i 1 else if z = 8 * (24 * c + i) + 4 then v else if z = 8 * (24 * c + i) + 5 then 1 else σ.1 κ z)
    else if κ = (12, 18, 0) then (if z = c then (i : Int) + 1 else σ.1 κ z)
    else σ.1 κ z, σ.2)
section FS
variable {σ : nS} {c m i n : Nat} {v : Int}
theorem fS_2 : (fS σ c m i n v).2 = σ.2 := rfl
theorem fS_k {κ : nKey} (a : ∀ r, κ ≠ (6, r, 0)) (b : κ ≠ (8, c, 0)) (d : κ ≠ (10, n, 0)) (e : ∀ k, k < 11 ∨ k = 17 ∨ k = 18 → 6 ≤ k → κ ≠ (12, k, 0)) : (fS σ c m i n v).1 κ = σ.1 κ := by
  funext z
  have a' : ¬ (κ.1 = 6 ∧ κ.2.2 = 0) := fun q => a κ.2.1 (by obtain ⟨x, y, w⟩ := κ; simp at q ⊢; exact q)
  show (if κ.1 = 6 ∧ κ.2.2 = 0 then _ else _) = _
  rw [if_neg a', if_neg b, if_neg d, if_neg (e 6 (by omega) (by omega)), if_neg (e 7 (by omega) (by omega)), if_neg (e 8 (by omega) (by omega)), if_neg (e 9 (by omega) (by omega)), if_neg (e 10 (by omega) (by omega)), if_neg (e 17 (by omega) (by omega)), if_neg (e 18 (by omega) (by omega))]
theorem fS_66 {r : Nat} : (fS σ c m i n v).1 (6, r, 0) 6 = if r = (ML σ c i 0).toNat then ML σ c i 1 else dA σ c m (fun r => σ.1 (6, r, 0) 6) (m - 1 - i) r := by
  unfold fS
  dsimp only
  rw [if_pos ⟨rfl, rfl⟩, if_pos rfl]
theorem fS_67 {r : Nat} : (fS σ c m i n v).1 (6, r, 0) 7 = dB σ c m (fun r => σ.1 (6, r, 0) 7) (m - 1 - i) r := by
  unfold fS
  dsimp only
  rw [if_pos ⟨rfl, rfl⟩, if_neg (by decide), if_pos rfl]
theorem fS_68 {r : Nat} : (fS σ c m i n v).1 (6, r, 0) 8 = dQ σ c m (fun r => σ.1 (6, r, 0) 8) (m - 1 - i) r := by
  unfold fS
  dsimp only
  rw [if_pos ⟨rfl, rfl⟩, if_neg (by decide), if_neg (by decide), if_pos rfl]
theorem fS_69 {r : Nat} : (fS σ c m i n v).1 (6, r, 0) 9 = if r = (ML σ c i 0).toNat then dM σ c m (fun r => σ.1 (6, r, 0) 9) (m - 1 - i) r - (ML σ c i 4 - v) else dM σ c m (fun r => σ.1 (6, r, 0) 9) (m - 1 - i) r := by
  unfold fS
  dsimp only
  rw [if_pos ⟨rfl, rfl⟩, if_neg (by decide), if_neg (by decide), if_neg (by decide), if_pos rfl]
theorem fS_6A {r : Nat} : (fS σ c m i n v).1 (6, r, 0) 10 = if r = (ML σ c i 0).toNat then 1 else σ.1 (6, r, 0) 10 := by
  unfold fS
  dsimp only
  rw [if_pos ⟨rfl, rfl⟩, if_neg (by decide), if_neg (by decide), if_neg (by decide), if_neg (by decide), if_pos rfl]
theorem fS_6o {r z : Nat} (a : z ≠ 6) (b : z ≠ 7) (d : z ≠ 8) (e : z ≠ 9) (f : z ≠ 10) : (fS σ c m i n v).1 (6, r, 0) z = σ.1 (6, r, 0) z := by
  unfold fS
  dsimp only
  rw [if_pos ⟨rfl, rfl⟩, if_neg a, if_neg b, if_neg d, if_neg e, if_neg f]
theorem fS_8 {z : Nat} : (fS σ c m i n v).1 (8, c, 0) z = if z = 6 then (i : Int) + 1 else σ.1 (8, c, 0) z := by
  unfold fS
  dsimp only
  rw [if_neg (by simp), if_pos rfl]
theorem fS_10 {z : Nat} : (fS σ c m i n v).1 (10, n, 0) z = if z = 5 then ML σ c i 1 else if z = 6 then v else if z = 7 then 1 else σ.1 (10, n, 0) z := by
  unfold fS
  dsimp only
  rw [if_neg (by simp), if_neg (by simp), if_pos rfl]
theorem fS_c6 {z : Nat} : (fS σ c m i n v).1 (12, 6, 0) z = if z = (ML σ c i 0).toNat then ML σ c i 1 else dA σ c m (σ.1 (12, 6, 0)) (m - 1 - i) z := by
  unfold fS
  dsimp only
  rw [if_neg (by simp), if_neg (by simp), if_neg (by simp), if_pos rfl]
theorem fS_c7 {z : Nat} : (fS σ c m i n v).1 (12, 7, 0) z = dB σ c m (σ.1 (12, 7, 0)) (m - 1 - i) z := by
  unfold fS
  dsimp only
  rw [if_neg (by simp), if_neg (by simp), if_neg (by simp), if_neg (by simp), if_pos rfl]
theorem fS_c8 {z : Nat} : (fS σ c m i n v).1 (12, 8, 0) z = if z = (ML σ c i 0).toNat then 1 else σ.1 (12, 8, 0) z := by
  unfold fS
  dsimp only
  rw [if_neg (by simp), if_neg (by simp), if_neg (by simp), if_neg (by simp), if_neg (by simp), if_pos rfl]
theorem fS_c9 {z : Nat} : (fS σ c m i n v).1 (12, 9, 0) z = dQ σ c m (σ.1 (12, 9, 0)) (m - 1 - i) z := by
  unfold fS
  dsimp only
  rw [if_neg (by simp), if_neg (by simp), if_neg (by simp), if_neg (by simp), if_neg (by simp), if_neg (by simp), if_pos rfl]
theorem fS_cA {z : Nat} : (fS σ c m i n v).1 (12, 10, 0) z = if z = (ML σ c i 0).toNat then dM σ c m (σ.1 (12, 10, 0)) (m - 1 - i) z + (v - ML σ c i 4) else dM σ c m (σ.1 (12, 10, 0)) (m - 1 - i) z := by
  unfold fS
  dsimp only
  rw [if_neg (by simp), if_neg (by simp), if_neg (by simp), if_neg (by simp), if_neg (by simp), if_neg (by simp), if_neg (by simp), if_pos rfl]
theorem fS_cL {z : Nat} : (fS σ c m i n v).1 (12, 17, 0) z = if z = 8 * (24 * c + i) + 2 then ML σ c i 1 else if z = 8 * (24 * c + i) + 4 then v else if z = 8 * (24 * c + i) + 5 then 1 else σ.1 (12, 17, 0) z := by
  unfold fS
  dsimp only
  rw [if_neg (by simp), if_neg (by simp), if_neg (by simp), if_neg (by simp), if_neg (by simp), if_neg (by simp), if_neg (by simp), if_neg (by simp), if_pos rfl]
theorem fS_cM {z : Nat} : (fS σ c m i n v).1 (12, 18, 0) z = if z = c then (i : Int) + 1 else σ.1 (12, 18, 0) z := by
  unfold fS
  dsimp only
  rw [if_neg (by simp), if_neg (by simp), if_neg (by simp), if_neg (by simp), if_neg (by simp), if_neg (by simp), if_neg (by simp), if_neg (by simp), if_neg (by simp), if_pos rfl]
theorem fS_12 {k : Nat} (hk : k < 6 ∨ (10 < k ∧ k < 17) ∨ 18 < k) : (fS σ c m i n v).1 (12, k, 0) = σ.1 (12, k, 0) := fS_k (fun r => by simp) (by simp) (by simp) (fun k' h1 h2 e => by simp at e; omega)
theorem fS_11 : (fS σ c m i n v).1 (11, 0, 0) = σ.1 (11, 0, 0) := fS_k (fun r => by simp) (by simp) (by simp) (fun k' h1 h2 e => by simp at e)
end FS
set_option maxHeartbeats 1000000 in
/-- the class drops the legs behind and lets the leg fail -/
theorem x4_failC {K : List nKey} {σ : nS} {P R C c m i n : Nat} {v : Int} {k : nS → Prop} (h : IV K σ P R C) (hc : c < C) (hm : LM σ c = m) (hi : i < m) (n1 : σ.2 (9, c, 0) i = some n) (n2 : (10, n, 0) ∈ K) (n3 : LI σ P R c i n)
    (hk : ∀ σ', σ'.2 = σ.2 → (∀ κ : nKey, κ.1 < 11 → σ'.1 κ = (fS σ c m i n v).1 κ) → (∀ κ : nKey, 11 ≤ κ.1 → σ'.1 κ = σ.1 κ) → k σ') : P_X4_dropLegsBehind K σ c (i : Int) (fun σ11 => P_X4_failLeg K σ11 n v k) := by
  obtain ⟨m', e1, e2, e3, -⟩ := h.call hc
  have : m' = m := by omega
  subst this
  obtain ⟨-, ⟨p8, r6, c40⟩, ⟨a3, a3', a3''⟩, -⟩ := id h.1
  have hR := h.2.2.1
  have hrd : (((ML σ c i 0).toNat : Nat) : Int) = ML σ c i 0 := by have := n3.2.1; omega
  have hrR : (ML σ c i 0).toNat < R := by have := n3.2.1; omega
  obtain ⟨⟨r2, rK⟩, -⟩ := hR _ hrR
  obtain ⟨⟨l0, l1, l5, l2, l6, l7, l3, l4⟩, -⟩ := n3
  intro x16 ex
  have ex' : x16 = ((m' - 1 - 0 : Nat) : Int) := by rw [ex, e3]; omega
  rw [ex']
  refine ⟨m' - 1 - i + 1, x4_drop7 h hc hm hi (fun σd hd => ?_) (m' - 1 - i) 0 σ (by omega) ⟨rfl, fun _ _ => rfl, fun r => ⟨rfl, rfl, rfl, rfl, fun _ _ _ _ _ => rfl⟩⟩⟩
  clear h hR
  obtain ⟨h1, h2, h3⟩ := hd
  obtain ⟨σe, ee⟩ : ∃ σe, σe = s1 σd (8, c, 0) 6 ((i : Int) + 1) := ⟨_, rfl⟩
  rw [← ee]
  have c10 : σe.1 (10, n, 0) = σ.1 (10, n, 0) := by rw [ee, s1_k (by simp)]; exact h2 _ (by simp)
  have c0 : σe.1 (0, 0, 0) 6 = R := by rw [ee, s1_k (by simp), h2 _ (by simp)]; exact a3'
  have ce2 : σe.2 = σ.2 := by rw [ee, s1_2, h1]
  have ce6 : ∀ r, σe.1 (6, r, 0) = σd.1 (6, r, 0) := fun r => by rw [ee, s1_k (by simp)]
  have ceo : ∀ κ : nKey, (∀ r, κ ≠ (6, r, 0)) → κ ≠ (8, c, 0) → σe.1 κ = σ.1 κ := fun κ a b => by rw [ee, s1_k b]; exact h2 κ a
  have ce8 : ∀ z, σe.1 (8, c, 0) z = if z = 6 then (i : Int) + 1 else σ.1 (8, c, 0) z := fun z => by
    by_cases e : z = 6
    · rw [if_pos e, e, ee, s1_at]
    · rw [if_neg e, ee, s1_i e, h2 _ (by simp)]
  unfold P_X4_failLeg
  rw [c10, l0, ← hrd]
  refine x4_riderAt c0 r6 hrR (by rw [ce2]; exact r2) rK ⟨(fun e => by cases e), fun q9 e => ?_⟩
  cases e
  obtain ⟨rr, err⟩ : ∃ rr, rr = (ML σ c i 0).toNat := ⟨_, rfl⟩
  rw [← err]
  rw [← err] at rK hrR
  refine ⟨rK, fun σ7 e7 σ8 e8 σ9 e9 σ10 e10 σ11 e11 σ12 e12 => ?_⟩
  rw [c10, l6, ce6, (h3 rr).2.2.2.1] at e7
  have t7 : σ7.1 (10, n, 0) 1 = ML σ c i 1 := by rw [e7, s1_k (by simp), c10, l1]
  rw [t7] at e8
  have t10 : σ10.1 (10, n, 0) 1 = ML σ c i 1 := by rw [e10, s1_i (by decide), e9, s1_k (by simp), e8, s1_k (by simp), t7]
  rw [t10] at e11
  have u6 : ∀ κ : nKey, κ ≠ (6, rr, 0) → κ ≠ (10, n, 0) → σ12.1 κ = σe.1 κ := fun κ a b => by rw [e12, s1_k b, e11, s1_k b, e10, s1_k b, e9, s1_k a, e8, s1_k a, e7, s1_k a]
  have u12 : ∀ z, σ12.1 (6, rr, 0) z = σ9.1 (6, rr, 0) z := fun z => by rw [e12, s1_k (by simp), e11, s1_k (by simp), e10, s1_k (by simp)]
  refine hk σ12 (by rw [e12, s1_2, e11, s1_2, e10, s1_2, e9, s1_2, e8, s1_2, e7, s1_2, ce2]) (fun κ hκ => ?_) (fun κ hκ => ?_)
  · by_cases k6 : ∃ r, κ = (6, r, 0)
    · obtain ⟨r, rfl⟩ := k6
      obtain ⟨p6, p7, p8', p9, po⟩ := h3 r
      have q : ∀ z, σ12.1 (6, r, 0) z = if r = rr then (if z = 10 then 1 else if z = 6 then ML σ c i 1 else if z = 9 then σd.1 (6, rr, 0) 9 - (ML σ c i 4 - v) else σd.1 (6, r, 0) z) else σd.1 (6, r, 0) z := fun z => by
        by_cases e : r = rr
        · subst e
          rw [if_pos rfl, u12, e9]
          by_cases z10 : z = 10
          · subst z10; rw [if_pos rfl, s1_at]
          · rw [if_neg z10, s1_i z10, e8]
            by_cases z6 : z = 6
            · subst z6; rw [if_pos rfl, s1_at]
            · rw [if_neg z6, s1_i z6, e7]
              by_cases z9 : z = 9
              · subst z9; rw [if_pos rfl, s1_at, p9]
              · rw [if_neg z9, s1_i z9, ce6]
        · rw [if_neg e, u6 _ (by simp; exact e) (by simp), ce6]
      funext z
      by_cases e : r = rr
      · rw [q, if_pos e]
        by_cases z10 : z = 10
        · subst z10; rw [if_pos rfl, fS_6A, ← err, if_pos e]
        · rw [if_neg z10]
          by_cases z6 : z = 6
          · subst z6; rw [if_pos rfl, fS_66, ← err, if_pos e]
          · rw [if_neg z6]
            by_cases z9 : z = 9
            · subst z9; rw [if_pos rfl, fS_69, ← err, if_pos e, ← e, p9]
            · rw [if_neg z9]
              by_cases z7 : z = 7
              · subst z7; rw [fS_67, p7]
              · by_cases z8 : z = 8
                · subst z8; rw [fS_68, p8']
                · rw [fS_6o z6 z7 z8 z9 z10, po z z6 z7 z8 z9]
      · rw [q, if_neg e]
        by_cases z10 : z = 10
        · subst z10; rw [fS_6A, ← err, if_neg e, po 10 (by decide) (by decide) (by decide) (by decide)]
        · by_cases z6 : z = 6
          · subst z6; rw [fS_66, ← err, if_neg e, p6]
          · by_cases z9 : z = 9
            · subst z9; rw [fS_69, ← err, if_neg e, p9]
            · by_cases z7 : z = 7
              · subst z7; rw [fS_67, p7]
              · by_cases z8 : z = 8
                · subst z8; rw [fS_68, p8']
                · rw [fS_6o z6 z7 z8 z9 z10, po z z6 z7 z8 z9]
    · have k6' : ∀ r, κ ≠ (6, r, 0) := fun r e => k6 ⟨r, e⟩
      by_cases k10 : κ = (10, n, 0)
      · subst k10
        funext z
        rw [fS_10, e12]
        by_cases z7 : z = 7
        · subst z7; rw [s1_at, if_neg (by decide), if_neg (by decide), if_pos rfl]
        · rw [s1_i z7, e11]
          by_cases z5 : z = 5
          · subst z5; rw [s1_at, if_pos rfl]
          · rw [s1_i z5, e10, if_neg z5]
            by_cases z6 : z = 6
            · subst z6; rw [s1_at, if_pos rfl]
            · rw [s1_i z6, if_neg z6, if_neg z7, e9, s1_k (by simp), e8, s1_k (by simp), e7, s1_k (by simp), c10]
      · rw [u6 κ (k6' rr) k10]
        by_cases k8 : κ = (8, c, 0)
        · subst k8
          funext z
          rw [fS_8, ce8]
        · rw [ceo κ k6' k8, fS_k k6' k8 k10 (fun k' _ _ e => by rw [e] at hκ; simp at hκ)]
  · have k6' : ∀ r, κ ≠ (6, r, 0) := fun r e => by rw [e] at hκ; simp at hκ
    rw [u6 κ (k6' rr) (fun e => by rw [e] at hκ; simp at hκ), ceo κ k6' (fun e => by rw [e] at hκ; simp at hκ)]
