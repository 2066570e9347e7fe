theorem scr5 {a b i : Nat} : Scr (5, a, b) i := Or.inr (Or.inl rfl)
theorem scr4 {a b i : Nat} : Scr (4, a, b) i := Or.inl rfl
theorem x0_take2 {K : List nKey} {k : nS → Prop} :
    ∀ (m j : Nat) (σ : nS), j + m = 3 → (∀ f q, f < 5 → q < j → σ.1 (5, 1, f) q = σ.1 (5, 0, f) q) → (∀ σ', Eqv σ σ' → (∀ f q, f < 5 → q < 3 → σ'.1 (5, 1, f) q = σ.1 (5, 0, f) q) → σ'.1 (4, 1, 0) 5 = σ.1 (4, 0, 0) 5 → (∀ κ z, κ ≠ (4, 1, 0) → (∀ f, f < 5 → κ ≠ (5, 1, f)) → σ'.1 κ z = σ.1 κ z) → k σ') → P_X0_take_L2 K k 1 0 (m + 1) (j : Int) σ := by
  intro m
  induction m with
  | zero =>
    intro j σ hj hc hk
    have hj' : j = 3 := by omega
    subst hj'
    unfold P_X0_take_L2
    rw [w0 (x := ((3 : Nat) : Int)) (by omega) (by omega)]
    refine ⟨fun _ σ2 e => ?_, fun h => absurd h (by omega)⟩
    refine hk σ2 (by rw [e]; exact Eqv.s1 scr4) (fun f q hf hq => ?_) (by rw [e, s1_at]) (fun κ z h1 h2 => by rw [e, s1_k h1])
    rw [e, s1_k (by simp)]; exact hc f q hf hq
  | succ m ih =>
    intro j σ hj hc hk
    unfold P_X0_take_L2
    simp only [Int.toNat_natCast]
    rw [w0 (x := (j : Int)) (by omega) (by omega)]
    refine ⟨fun h => absurd h (by omega), fun _ => ⟨by omega, by omega, by omega, by omega, fun σ5 e5 => ⟨by omega, by omega, by omega, by omega, fun σ10 e10 => ⟨by omega, by omega, by omega, by omega, fun σ15 e15 => ⟨by omega, by omega, by omega, by omega, fun σ20 e20 => ⟨by omega, by omega, by omega, by omega, fun σ25 e25 x28 ex => ?_⟩⟩⟩⟩⟩⟩
    subst ex
    have hoth : ∀ κ z, (∀ f, f < 5 → κ ≠ (5, 1, f)) → σ25.1 κ z = σ.1 κ z := fun κ z h => by
      rw [e25, s1_k (h 4 (by omega)), e20, s1_k (h 3 (by omega)), e15, s1_k (h 2 (by omega)), e10, s1_k (h 1 (by omega)), e5, s1_k (h 0 (by omega))]
    have h0 : ∀ f z, σ25.1 (5, 0, f) z = σ.1 (5, 0, f) z := fun f z => hoth _ _ (fun g hg => by simp)
    have b1 : σ5.1 (5, 0, 1) j = σ.1 (5, 0, 1) j := by rw [e5, s1_k (by simp)]
    have b2 : σ10.1 (5, 0, 2) j = σ.1 (5, 0, 2) j := by rw [e10, s1_k (by simp), e5, s1_k (by simp)]
    have b3 : σ15.1 (5, 0, 3) j = σ.1 (5, 0, 3) j := by rw [e15, s1_k (by simp), e10, s1_k (by simp), e5, s1_k (by simp)]
    have b4 : σ20.1 (5, 0, 4) j = σ.1 (5, 0, 4) j := by rw [e20, s1_k (by simp), e15, s1_k (by simp), e10, s1_k (by simp), e5, s1_k (by simp)]
    rw [b1] at e10
    rw [b2] at e15
    rw [b3] at e20
    rw [b4] at e25
    have hE : Eqv σ σ25 := by
      rw [e25, e20, e15, e10, e5]
      exact ((((Eqv.s1 scr5).tr (Eqv.s1 scr5)).tr (Eqv.s1 scr5)).tr (Eqv.s1 scr5)).tr (Eqv.s1 scr5)
    refine ih (j + 1) σ25 (by omega) (fun f q hf hq => ?_) (fun σ' hE' hc' hl' ho' => hk σ' (hE.tr hE') (fun f q hf hq => (hc' f q hf hq).trans (h0 f q)) (hl'.trans (hoth _ _ (fun g hg => by simp))) (fun κ z h1 h2 => (ho' κ z h1 h2).trans (hoth κ z h2)))
    rw [h0]
    by_cases e : q = j
    · subst e
      rcases (show f = 0 ∨ f = 1 ∨ f = 2 ∨ f = 3 ∨ f = 4 by omega) with rfl | rfl | rfl | rfl | rfl
      · rw [e25, s1_k (by simp), e20, s1_k (by simp), e15, s1_k (by simp), e10, s1_k (by simp), e5, s1_at]
      · rw [e25, s1_k (by simp), e20, s1_k (by simp), e15, s1_k (by simp), e10, s1_at]
      · rw [e25, s1_k (by simp), e20, s1_k (by simp), e15, s1_at]
      · rw [e25, s1_k (by simp), e20, s1_at]
      · rw [e25, s1_at]
    · rw [e25, s1_i e, e20, s1_i e, e15, s1_i e, e10, s1_i e, e5, s1_i e]
      exact hc f q hf (by omega)
theorem x0_take {K : List nKey} {σ : nS} {k : nS → Prop} (hk : ∀ σ', Eqv σ σ' → (∀ f q, f < 5 → q < 3 → σ'.1 (5, 1, f) q = σ.1 (5, 0, f) q) → σ'.1 (4, 1, 0) 5 = σ.1 (4, 0, 0) 5 → (∀ κ z, κ ≠ (4, 1, 0) → (∀ f, f < 5 → κ ≠ (5, 1, f)) → σ'.1 κ z = σ.1 κ z) → k σ') : P_X0_take K σ 1 0 k :=
  ⟨3 + 1, x0_take2 3 0 σ (by omega) (fun f q _ hq => absurd hq (Nat.not_lt_zero q)) hk⟩
section T4S
variable {R P : Nat} {cy : Nat → Bool} {at0 : Nat → Nat} {st bb : Nat → Int} {F E : Nat → Nat → Nat → Int} {goal x0 : Nat} {t0 kind : Int}
theorem x4_keep {K : List nKey} {σ : nS} {k : nS → Prop} {c b : List Ky} (hne : c ≠ []) (h3 : c.length ≤ 3) (hvc : vll R P (legs at0 st F x0 t0 c)) (hl : σ.1 (4, 0, 0) 5 = (c.length : Int)) (hc : Ls4 σ 0 (legs at0 st F x0 t0 c)) (hb : Bst4 R P at0 st F x0 t0 σ b)
    (hk : ∀ σ', Eqv σ σ' → (∀ κ z, κ ≠ (4, 1, 0) → (∀ f, f < 5 → κ ≠ (5, 1, f)) → σ'.1 κ z = σ.1 κ z) → Bst4 R P at0 st F x0 t0 σ' (kep4 at0 st F x0 t0 b c) → k σ') : P_X4_keepIfBetter K σ k := by
  obtain ⟨b1, b2, b3, b4⟩ := id hb
  have hrc := ed_rng hne hvc
  have take : kpr at0 st F x0 t0 b c = true → P_X0_take K σ 1 0 k := fun hkp => x0_take (fun σ' e' hcp hl' ho' => by
    refine hk σ' e' ho' ?_
    unfold kep4
    rw [if_pos hkp]
    exact ⟨hvc, h3, hl'.trans hl, hc.of (fun f j hf hj => hcp f j hf (by rw [legs_len] at hj; omega))⟩)
  have keep : kpr at0 st F x0 t0 b c = false → k σ := fun hkp => by
    refine hk σ Eqv.rf (fun _ _ _ _ => rfl) ?_
    unfold kep4
    rw [hkp]
    exact hb
  unfold P_X4_keepIfBetter
  refine x0_lastEnd (at0 := at0) (st := st) (F := F) (x0 := x0) (t0 := t0) h3 hl hc (x0_lastEnd b2 b3 b4 ?_)
  rw [if_neg hne]
  by_cases hbe : b = []
  · rw [if_pos hbe]
    refine ⟨fun _ => take ?_, fun h => absurd (by decide) h⟩
    subst hbe; rfl
  · have hrb := ed_rng hbe b1
    have hbi : b.isEmpty = false := by cases b with
      | nil => exact absurd rfl hbe
      | cons _ _ => rfl
    rw [if_neg hbe, hl, b3, w0 (x := ed at0 st F x0 t0 b) (by omega) (by omega), w0 (x := ed at0 st F x0 t0 c) (by omega) (by omega), w0 (x := (c.length : Int)) (by omega) (by omega), w0 (x := (b.length : Int)) (by omega) (by omega)]
    have hkp : kpr at0 st F x0 t0 b c = (decide (ed at0 st F x0 t0 c < ed at0 st F x0 t0 b) || (decide (ed at0 st F x0 t0 c = ed at0 st F x0 t0 b) && decide (c.length < b.length))) := by
      unfold kpr; rw [hbi]; simp
    refine ⟨fun h => absurd h (by omega), fun _ => ⟨fun h => take (by rw [hkp]; simp; omega), fun h => ⟨fun h2 => keep (by rw [hkp]; simp; omega), fun h2 => ⟨fun h3 => keep (by rw [hkp]; simp; omega), fun h3 => take (by rw [hkp]; simp; omega)⟩⟩⟩⟩
def Pre4 (at0 : Nat → Nat) (st : Nat → Int) (F : Nat → Nat → Nat → Int) (goal x0 : Nat) (t0 kind : Int) (σ : nS) (pre : List Ky) : Prop := Ls4 σ 0 (legs at0 st F x0 t0 pre) ∧ σ.1 (4, 0, 0) 6 = kind ∧ σ.1 (4, 0, 0) 7 = (goal : Int)
/-- a leg that has begun -/
def Op4 (σ : nS) (i r x : Nat) (s : Int) : Prop := σ.1 (5, 0, 0) i = (r : Int) ∧ σ.1 (5, 0, 1) i = (x : Int) ∧ σ.1 (5, 0, 3) i = s
def T4 (K : List nKey) (R P : Nat) (cy : Nat → Bool) (at0 : Nat → Nat) (st bb : Nat → Int) (F E : Nat → Nat → Nat → Int) (goal x0 : Nat) (t0 kind : Int) (d : Nat) (rc : nS → Int → Int → Int → (nS → Prop) → Prop) : Prop :=
  ∀ (pre : List Ky) (σ : nS) (b : List Ky) (k : nS → Prop), pre.length + d = 3 → vll R P (legs at0 st F x0 t0 pre) → Dat4 K R P cy at0 st bb F E kind σ → Pre4 at0 st F goal x0 t0 kind σ pre → Bst4 R P at0 st F x0 t0 σ b →
    (∀ σ', Eqv σ σ' → Pre4 at0 st F goal x0 t0 kind σ' pre → Bst4 R P at0 st F x0 t0 σ' (List.foldl (kep4 at0 st F x0 t0) b (en R cy at0 st bb F goal x0 t0 (ps4 goal P) d pre)) → k σ') → rc σ (pre.length : Int) ((lo at0 st F x0 t0 pre).1 : Int) (lo at0 st F x0 t0 pre).2 k
theorem t4_end {K : List nKey} {rc : nS → Int → Int → Int → (nS → Prop) → Prop} {k : nS → Prop} {d : Nat} {pre : List Ky} {r y : Nat} {b : List Ky} {σ : nS} (hx0 : x0 < P) (ht0 : 0 ≤ t0 ∧ t0 ≤ 4319) (hg : goal < P) (hrc : d ≠ 0 → T4 K R P cy at0 st bb F E goal x0 t0 kind d rc) (hlen : pre.length + (d + 1) = 3) (hv : vll R P (legs at0 st F x0 t0 pre)) (hd : Dat4 K R P cy at0 st bb F E kind σ) (hp : Pre4 at0 st F goal x0 t0 kind σ pre) (hb : Bst4 R P at0 st F x0 t0 σ b) (hr : r < R) (hy : y < P) (hgd : y = goal ∨ d ≠ 0) (hs0 : 0 ≤ sx at0 st F (lo at0 st F x0 t0 pre).1 (lo at0 st F x0 t0 pre).2 r ∧ sx at0 st F (lo at0 st F x0 t0 pre).1 (lo at0 st F x0 t0 pre).2 r ≤ 200000) (hop : Op4 σ pre.length r (lo at0 st F x0 t0 pre).1 (sx at0 st F (lo at0 st F x0 t0 pre).1 (lo at0 st F x0 t0 pre).2 r))
    (hk : ∀ σ', Eqv σ σ' → Pre4 at0 st F goal x0 t0 kind σ' pre → Op4 σ' pre.length r (lo at0 st F x0 t0 pre).1 (sx at0 st F (lo at0 st F x0 t0 pre).1 (lo at0 st F x0 t0 pre).2 r) → Bst4 R P at0 st F x0 t0 σ' (List.foldl (kep4 at0 st F x0 t0) b (gP R cy at0 st bb F goal x0 t0 (ps4 goal P) d pre r y)) → k σ') :
    P_X4_tryEnd K rc σ (pre.length : Int) r (sx at0 st F (lo at0 st F x0 t0 pre).1 (lo at0 st F x0 t0 pre).2 r) (y : Int) k := by
  obtain ⟨x1, t1, t2⟩ := lo_rng hv hx0 ht0
  obtain ⟨hR1, hP1, hR6, hP8, hrr⟩ := id hd
  obtain ⟨-, -, -, -, ⟨hbb, hb0, hb1⟩, hm, hF⟩ := hrr r hr
  have hsn : okp at0 st bb F x0 t0 pre r y = (seenB x0 pre y && decide (F r (lo at0 st F x0 t0 pre).1 y ≠ 1000000) && decide (sx at0 st F (lo at0 st F x0 t0 pre).1 (lo at0 st F x0 t0 pre).2 r + F r (lo at0 st F x0 t0 pre).1 y ≤ bb r)) := rfl
  have FF := hF.1 (lo at0 st F x0 t0 pre).1 y (by omega) (by omega)
  have legsn : legs at0 st F x0 t0 (pre ++ [(r, y)]) = legs at0 st F x0 t0 pre ++ [(r, (lo at0 st F x0 t0 pre).1, y, sx at0 st F (lo at0 st F x0 t0 pre).1 (lo at0 st F x0 t0 pre).2 r, sx at0 st F (lo at0 st F x0 t0 pre).1 (lo at0 st F x0 t0 pre).2 r + F r (lo at0 st F x0 t0 pre).1 y)] := by rw [legs_app]; rfl
  have lon : lo at0 st F x0 t0 (pre ++ [(r, y)]) = (y, sx at0 st F (lo at0 st F x0 t0 pre).1 (lo at0 st F x0 t0 pre).2 r + F r (lo at0 st F x0 t0 pre).1 y) := by rw [lo_app]; rfl
  have hcome := fun (k' : Int → nS → Prop) (h : k' (b2i (seenB x0 pre y = false)) σ) => x0_comes (K := K) (k := k') (y := y) (by omega) (by omega) hP8 hv x1 hp.1 hop.2.1 (pre.length + 1) 0 (by omega) (fun z hz => by simp at hz) h
  have hno : okp at0 st bb F x0 t0 pre r y = false → k σ := fun e => by
    refine hk σ Eqv.rf hp hop ?_
    unfold gP
    rw [e]; exact hb
  generalize hxx : (lo at0 st F x0 t0 pre).1 = x at *
  generalize htt : (lo at0 st F x0 t0 pre).2 = t at *
  generalize hss : sx at0 st F x t r = s at *
  unfold P_X4_tryEnd P_X0_fromOf
  rw [w0 (x := (pre.length : Int)) (by omega) (by omega)]
  refine ⟨fun h => absurd h (by omega), fun _ => ⟨fun h => absurd h (by omega), fun _ => ⟨by omega, by omega, ?_⟩⟩⟩
  simp only [Int.toNat_natCast]
  rw [hop.2.1]
  refine x4_wayOf hP1 hP8 x1 hy hm ?_
  have r1 := enc_r FF.1 (by omega)
  rw [w0 (x := enc (F r x y)) (by omega) (by omega)]
  refine ⟨fun h => hno (by rw [hsn, decide_eq_false (show ¬ (F r x y ≠ 1000000) from fun q => q ((enc_n FF.1).mp h))]; simp), fun h => ?_⟩
  have hfin : F r x y ≠ 1000000 := fun e => h ((enc_n FF.1).mpr e)
  rw [enc_i hfin, hbb, w0 (x := bb r) (by omega) (by omega), w0 (x := s + F r x y) (by omega) (by omega)]
  refine ⟨fun hlt => hno (by rw [hsn, decide_eq_false (show ¬ (s + F r x y ≤ bb r) by omega)]; simp), fun hle => ⟨pre.length + 1 + 1, hcome _ (br01 (fun hsb => hno (by rw [hsn, hsb]; rfl)) (fun hsb => ?_))⟩⟩
  have hsb' : seenB x0 pre y = true := by
    cases g : seenB x0 pre y with
    | true => rfl
    | false => exact absurd g hsb
  have hok : okp at0 st bb F x0 t0 pre r y = true := by rw [hsn, hsb', decide_eq_true hfin, decide_eq_true hle]; rfl
  have hv' : vll R P (legs at0 st F x0 t0 (pre ++ [(r, y)])) := by
    rw [legsn]
    intro l hl
    rcases List.mem_append.mp hl with h | h
    · exact hv l h
    · simp at h; subst h
      refine ⟨hr, x1, hy, ?_, ?_, ?_⟩ <;> simp only <;> omega
  unfold P_X0_close
  rw [w0 (x := (pre.length : Int)) (by omega) (by omega)]
  refine ⟨fun h => absurd h (by omega), fun _ => ⟨fun h => absurd h (by omega), fun _ => ⟨by omega, by omega, fun σ3 e3 => ⟨by omega, by omega, fun σ6 e6 σ9 e9 => ?_⟩⟩⟩⟩
  simp only [Int.toNat_natCast] at e3 e6
  have hE9 : Eqv σ σ9 := by rw [e9, e6, e3]; exact ((Eqv.s1 scr5).tr (Eqv.s1 scr5)).tr (Eqv.s1 scr4)
  have hoth : ∀ κ z, κ ≠ (5, 0, 2) → κ ≠ (5, 0, 4) → κ ≠ (4, 0, 0) → σ9.1 κ z = σ.1 κ z := fun κ z h1 h2 h3 => by rw [e9, s1_k h3, e6, s1_k h2, e3, s1_k h1]
  have hz : ∀ f q, q ≠ pre.length → σ9.1 (5, 0, f) q = σ.1 (5, 0, f) q := fun f q hq => by rw [e9, s1_k (by simp), e6, s1_i hq, e3, s1_i hq]
  have hp9 : Pre4 at0 st F goal x0 t0 kind σ9 pre := ⟨hp.1.of (fun f j hf hj => hz f j (by rw [legs_len] at hj; omega)), by rw [e9, s1_i (by decide), e6, s1_k (by simp), e3, s1_k (by simp)]; exact hp.2.1, by rw [e9, s1_i (by decide), e6, s1_k (by simp), e3, s1_k (by simp)]; exact hp.2.2⟩
  have hop9 : Op4 σ9 pre.length r x s := ⟨(hoth _ _ (by simp) (by simp) (by simp)).trans hop.1, (hoth _ _ (by simp) (by simp) (by simp)).trans hop.2.1, (hoth _ _ (by simp) (by simp) (by simp)).trans hop.2.2⟩
  have hb9 : Bst4 R P at0 st F x0 t0 σ9 b := ⟨hb.1, hb.2.1, (hoth _ _ (by simp) (by simp) (by simp)).trans hb.2.2.1, hb.2.2.2.of (fun f j hf _ => hoth _ _ (by simp) (by simp) (by simp))⟩
  have hd9 := hd.eqv hE9
  have hl9 : σ9.1 (4, 0, 0) 5 = ((pre.length : Int) + 1) := by rw [e9, s1_at]
  have hls9 : Ls4 σ9 0 (legs at0 st F x0 t0 (pre ++ [(r, y)])) := by
    rw [legsn]
    intro j l hj
    by_cases e : j < pre.length
    · rw [List.getElem?_append_left (by rw [legs_len]; exact e)] at hj
      exact hp9.1 j l hj
    · have hjl := (List.getElem?_eq_some_iff.mp hj).1
      rw [List.length_append, legs_len] at hjl
      have e' : j = pre.length := by simp at hjl; omega
      subst e'
      rw [List.getElem?_append_right (by rw [legs_len]; omega), legs_len] at hj
      simp at hj
      subst hj
      refine ⟨hop9.1, hop9.2.1, ?_, hop9.2.2, ?_⟩
      · rw [e9, s1_k (by simp), e6, s1_k (by simp), e3, s1_at]
      · rw [e9, s1_k (by simp), e6, s1_at]
  show (w (y : Int) ≠ w (σ9.1 (4, 0, 0) 7) → rc σ9 ((pre.length : Int) + 1) (y : Int) (s + F r x y) k) ∧ (w (y : Int) = w (σ9.1 (4, 0, 0) 7) → P_X4_keepIfBetter K σ9 k)
  rw [hp9.2.2, w0 (x := (y : Int)) (by omega) (by omega), w0 (x := (goal : Int)) (by omega) (by omega)]
  refine ⟨fun hyg => ?_, fun hyg => ?_⟩
  · have hyg' : y ≠ goal := by omega
    have hcall := hrc (hgd.resolve_left hyg') (pre ++ [(r, y)]) σ9 b k (by simp; omega) hv' hd9 ⟨hls9, hp9.2⟩ hb9 (fun σ' e' h' b' => ?_)
    · rw [lon] at hcall
      simp only [List.length_append, List.length_singleton] at hcall
      exact hcall
    · have hh := h'.1
      rw [legsn] at hh
      have hl := hh pre.length _ (by rw [List.getElem?_append_right (by rw [legs_len]; exact Nat.le_refl _), legs_len]; simp; rfl)
      refine hk σ' (hE9.tr e') ⟨fun j l hj => hh j l (by rw [List.getElem?_append_left (List.getElem?_eq_some_iff.mp hj).1]; exact hj), h'.2⟩ ⟨hl.1, hl.2.1, hl.2.2.2.1⟩ ?_
      unfold gP
      rw [if_pos hok, if_neg hyg']
      exact b'
  · have hyg' : y = goal := by omega
    refine x4_keep (c := pre ++ [(r, y)]) (by simp) (by simp; omega) hv' (by rw [hl9]; simp) hls9 hb9 (fun σ' e' ho' b' => ?_)
    refine hk σ' (hE9.tr e') ⟨hp9.1.of (fun f j hf _ => ho' _ _ (by simp) (fun g hg => by simp)), (ho' _ _ (by simp) (fun g hg => by simp)).trans hp9.2.1, (ho' _ _ (by simp) (fun g hg => by simp)).trans hp9.2.2⟩ ⟨(ho' _ _ (by simp) (fun g hg => by simp)).trans hop9.1, (ho' _ _ (by simp) (fun g hg => by simp)).trans hop9.2.1, (ho' _ _ (by simp) (fun g hg => by simp)).trans hop9.2.2⟩ ?_
    unfold gP
    rw [if_pos hok, if_pos hyg']
    exact b'
end T4S
