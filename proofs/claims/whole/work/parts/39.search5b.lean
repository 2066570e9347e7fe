def SeenOk (x0 : Nat) (seen : Int) (pre : List Ky) : Prop := 0 ≤ seen ∧ seen < 256 ∧ ∀ y : Nat, y < 8 → (bt seen y ↔ (y = x0 ∨ ∃ q ∈ pre, q.2 = y))
def T5 (R P : Nat) (cy : Nat → Bool) (at0 : Nat → Nat) (st bb : Nat → Int) (F E : Nat → Nat → Nat → Int) (goal x0 : Nat) (t0 kind : Int) (d : Nat) (rc : nS → Int → Int → Int → Int → Int → Int → (nS → Prop) → Prop) : Prop :=
  ∀ (pre : List Ky) (σ : nS) (b : List Ky) (seen : Int) (k : nS → Prop), pre.length + d = 3 → vll R P (legs at0 st F x0 t0 pre) → Dat5 R P cy at0 st bb F E kind σ → Ls5 σ 20 (legs at0 st F x0 t0 pre) → Bst5 R P at0 st F x0 t0 σ b → SeenOk x0 seen pre →
    (∀ σ', Eqv σ σ' → Ls5 σ' 20 (legs at0 st F x0 t0 pre) → Bst5 R P at0 st F x0 t0 σ' (List.foldl (min5 at0 st F x0 t0) b (en R cy at0 st bb F goal x0 t0 (List.range P) d pre)) → k σ') → rc σ (pre.length : Int) kind ((lo at0 st F x0 t0 pre).1 : Int) (lo at0 st F x0 t0 pre).2 (goal : Int) seen k
section T5S
variable {R P : Nat} {cy : Nat → Bool} {at0 : Nat → Nat} {st bb : Nat → Int} {F E : Nat → Nat → Nat → Int} {goal x0 : Nat} {t0 kind : Int}
theorem x5_copy {K : List nKey} {rc : nS → Int → Int → Int → Int → Int → Int → (nS → Prop) → Prop} {k : nS → Prop} {kb3 : Int → nS → Prop} {kb153 : Int → Int → Int → nS → Prop} {v2 v3 v4 v5 v6 v7 v10 v11 : Int} {i : Nat} (hi : i < 3) {ls : List Lg} (hl : ls.length = i + 1) :
    ∀ (m j : Nat) (σ : nS), j + m = i + 1 → Ls5 σ 20 ls → (∀ q l, q < j → ls[q]? = some l → S5 σ 24 q l) → (∀ σ', Eqv σ σ' → (∀ κ z, (∀ f, f < 4 → κ ≠ (12, 24 + f, 0)) → σ'.1 κ z = σ.1 κ z) → Ls5 σ' 24 ls → kb153 v7 v10 (v11 + 1) σ') → P_X5_tryLeg_L316 K rc k kb3 kb153 (i : Int) v2 v3 v4 v5 v6 (m + 1) v7 v10 v11 (j : Int) σ := by
  intro m
  induction m with
  | zero =>
    intro j σ hj h20 h24 hk
    unfold P_X5_tryLeg_L316
    rw [w0 (x := (j : Int)) (by omega) (by omega), w0 (x := (i : Int)) (by omega) (by omega)]
    refine ⟨fun _ x2 e => ?_, fun h => absurd h (by omega)⟩
    subst e
    exact hk σ Eqv.rf (fun _ _ _ => rfl) (fun q l hq => h24 q l (by have := (List.getElem?_eq_some_iff.mp hq).1; omega) hq)
  | succ m ih =>
    intro j σ hj h20 h24 hk
    unfold P_X5_tryLeg_L316
    simp only [Int.toNat_natCast]
    rw [w0 (x := (j : Int)) (by omega) (by omega), w0 (x := (i : Int)) (by omega) (by omega)]
    refine ⟨fun h => absurd h (by omega), fun _ => ⟨by omega, by omega, by omega, by omega, fun σ5 e5 => ⟨by omega, by omega, by omega, by omega, fun σ10 e10 => ⟨by omega, by omega, by omega, by omega, fun σ15 e15 => ⟨by omega, by omega, by omega, by omega, fun σ20 e20 x23 ex => ?_⟩⟩⟩⟩⟩
    subst ex
    obtain ⟨l, hlj⟩ : ∃ l, ls[j]? = some l := ⟨_, List.getElem?_eq_getElem (by omega)⟩
    obtain ⟨a0, a1, a2, a3⟩ := h20 j l hlj
    have b1 : σ5.1 (12, 21, 0) j = (l.2.2.1 : Int) := by rw [e5, s1_k (by simp)]; exact a1
    have b2 : σ10.1 (12, 22, 0) j = l.2.2.2.1 := by rw [e10, s1_k (by simp), e5, s1_k (by simp)]; exact a2
    have b3 : σ15.1 (12, 23, 0) j = l.2.2.2.2 := by rw [e15, s1_k (by simp), e10, s1_k (by simp), e5, s1_k (by simp)]; exact a3
    rw [a0] at e5
    rw [b1] at e10
    rw [b2] at e15
    rw [b3] at e20
    have hoth : ∀ κ z, (∀ f, f < 4 → κ ≠ (12, 24 + f, 0)) → σ20.1 κ z = σ.1 κ z := fun κ z h => by
      rw [e20, s1_k (h 3 (by omega)), e15, s1_k (h 2 (by omega)), e10, s1_k (h 1 (by omega)), e5, s1_k (h 0 (by omega))]
    have hz : ∀ q, q ≠ j → ∀ f, f < 4 → σ20.1 (12, 24 + f, 0) q = σ.1 (12, 24 + f, 0) q := fun q hq f hf => by
      rw [e20, s1_i hq, e15, s1_i hq, e10, s1_i hq, e5, s1_i hq]
    have hE : Eqv σ σ20 := by
      rw [e20, e15, e10, e5]
      exact (((Eqv.s1 (scr19 (by omega) _)).tr (Eqv.s1 (scr19 (by omega) _))).tr (Eqv.s1 (scr19 (by omega) _))).tr (Eqv.s1 (scr19 (by omega) _))
    refine ih (j + 1) σ20 (by omega) (h20.of (fun f z hf _ => hoth _ _ (fun g hg => by simp; omega))) (fun q l' hq hql => ?_) (fun σ' hE' ho' h => hk σ' (hE.tr hE') (fun κ z h => (ho' κ z h).trans (hoth κ z h)) h)
    by_cases e : q = j
    · subst e
      cases hlj.symm.trans hql
      refine ⟨?_, ?_, ?_, ?_⟩
      · rw [e20, s1_k (by simp), e15, s1_k (by simp), e10, s1_k (by simp), e5, s1_at]
      · rw [e20, s1_k (by simp), e15, s1_k (by simp), e10, s1_at]
      · rw [e20, s1_k (by simp), e15, s1_at]
      · rw [e20, s1_at]
    · exact (h24 q l' (by omega) hql).of (fun f hf => hz q e f hf)
theorem Bst5.of {σ σ' : nS} {b : List Ky} (h : Bst5 R P at0 st F x0 t0 σ b) (e1 : σ'.1 (11, 0, 0) 34 = σ.1 (11, 0, 0) 34) (e2 : ∀ f j, f < 4 → σ'.1 (12, 24 + f, 0) j = σ.1 (12, 24 + f, 0) j) : Bst5 R P at0 st F x0 t0 σ' b := ⟨h.1, h.2.1, e1.trans h.2.2.1, h.2.2.2.of (fun f j hf _ => e2 f j hf)⟩
/-- an inner leg's or the last leg's place is tried -/
theorem t5_188 {K : List nKey} {rc : nS → Int → Int → Int → Int → Int → Int → (nS → Prop) → Prop} {k : nS → Prop} {kb3 : Int → nS → Prop} {kb153 : Int → Int → Int → nS → Prop} {d : Nat} {pre : List Ky} {r y : Nat} {seen : Int} {b : List Ky} {σ : nS} (hx0 : x0 < P) (ht0 : 0 ≤ t0 ∧ t0 ≤ 4319) (hg : goal < P) (hrc : d ≠ 0 → T5 R P cy at0 st bb F E goal x0 t0 kind d rc) (hlen : pre.length + (d + 1) = 3) (hv : vll R P (legs at0 st F x0 t0 pre)) (hd : Dat5 R P cy at0 st bb F E kind σ) (h20 : Ls5 σ 20 (legs at0 st F x0 t0 pre)) (hb : Bst5 R P at0 st F x0 t0 σ b) (hs : SeenOk x0 seen pre) (hr : r < R) (hy : y < P) (hys : ¬ bt seen y) (hgd : y = goal ∨ d ≠ 0) (hs0 : 0 ≤ sx at0 st F (lo at0 st F x0 t0 pre).1 (lo at0 st F x0 t0 pre).2 r ∧ sx at0 st F (lo at0 st F x0 t0 pre).1 (lo at0 st F x0 t0 pre).2 r ≤ 200000)
    (hk : ∀ σ', Eqv σ σ' → Ls5 σ' 20 (legs at0 st F x0 t0 pre) → Bst5 R P at0 st F x0 t0 σ' (List.foldl (min5 at0 st F x0 t0) b (if okp at0 st bb F x0 t0 pre r y then (if y = goal then [pre ++ [(r, y)]] else en R cy at0 st bb F goal x0 t0 (List.range P) d (pre ++ [(r, y)])) else [])) → kb153 (r : Int) (sx at0 st F (lo at0 st F x0 t0 pre).1 (lo at0 st F x0 t0 pre).2 r) ((y : Int) + 1) σ') :
    P_X5_tryLeg_L188 K rc k kb3 kb153 (pre.length : Int) kind ((lo at0 st F x0 t0 pre).1 : Int) (lo at0 st F x0 t0 pre).2 (goal : Int) seen (r : Int) (sx at0 st F (lo at0 st F x0 t0 pre).1 (lo at0 st F x0 t0 pre).2 r) (y : Int) σ := by
  obtain ⟨x1, t1, t2⟩ := lo_rng hv hx0 ht0
  obtain ⟨hR1, hP1, hR6, hP8, hrr⟩ := id hd
  obtain ⟨-, -, -, ⟨hbb, hb0, hb1⟩, hctx, hF, hpl⟩ := hrr r hr
  have hyn : okp at0 st bb F x0 t0 pre r y = (decide (F r (lo at0 st F x0 t0 pre).1 y ≠ 1000000) && decide (sx at0 st F (lo at0 st F x0 t0 pre).1 (lo at0 st F x0 t0 pre).2 r + F r (lo at0 st F x0 t0 pre).1 y ≤ bb r)) := by
    have hns : ¬ (y = x0 ∨ ∃ q ∈ pre, q.2 = y) := fun h => hys ((hs.2.2 y (by omega)).mpr h)
    have e1 : decide (x0 ≠ y) = true := decide_eq_true (fun e => hns (Or.inl e.symm))
    have e2 : pre.all (fun q => decide (q.2 ≠ y)) = true := List.all_eq_true.mpr (fun q hq => decide_eq_true (fun e => hns (Or.inr ⟨q, hq, e⟩)))
    unfold okp
    rw [e1, e2]
    simp
  have FF := hF.1 (lo at0 st F x0 t0 pre).1 y (by omega) (by omega)
  have legsn : legs at0 st F x0 t0 (pre ++ [(r, y)]) = legs at0 st F x0 t0 pre ++ [(r, (lo at0 st F x0 t0 pre).1, y, sx at0 st F (lo at0 st F x0 t0 pre).1 (lo at0 st F x0 t0 pre).2 r, sx at0 st F (lo at0 st F x0 t0 pre).1 (lo at0 st F x0 t0 pre).2 r + F r (lo at0 st F x0 t0 pre).1 y)] := by rw [legs_app]; rfl
  have lon : lo at0 st F x0 t0 (pre ++ [(r, y)]) = (y, sx at0 st F (lo at0 st F x0 t0 pre).1 (lo at0 st F x0 t0 pre).2 r + F r (lo at0 st F x0 t0 pre).1 y) := by rw [lo_app]; rfl
  generalize hxx : (lo at0 st F x0 t0 pre).1 = x at *
  generalize htt : (lo at0 st F x0 t0 pre).2 = t at *
  generalize hss : sx at0 st F x t r = s at *
  unfold P_X5_tryLeg_L188
  simp only [Int.toNat_natCast]
  refine x5_wayOf hF hctx hP8 (by omega) x1 hy hpl (fun σ24 ho => ?_)
  have hE24 : Eqv σ σ24 := ho.eqv (scr19 (by omega))
  have hd24 := hd.eqv hE24
  have h20' : Ls5 σ24 20 (legs at0 st F x0 t0 pre) := h20.of (fun f j hf _ => ho.2 _ _ (by simp; omega))
  have hb24 : Bst5 R P at0 st F x0 t0 σ24 b := hb.of (ho.2 _ _ (by simp)) (fun f j hf => ho.2 _ _ (by simp; omega))
  have hno : okp at0 st bb F x0 t0 pre r y = false → kb153 (r : Int) s ((y : Int) + 1) σ24 := fun e => by
    refine hk σ24 hE24 h20' ?_
    rw [e]; exact hb24
  have hbb24 : σ24.1 (12, 4, 0) r = bb r := (hd24.2.2.2.2 r hr).2.2.2.1.1
  rw [w0 (x := F r x y) (by omega) (by omega), w0 (x := s + F r x y) (by omega) (by omega), hbb24, w0 (x := bb r) (by omega) (by omega), w0 (x := (y : Int)) (by omega) (by omega)]
  refine ⟨fun hinf x27 ex => ?_, fun hfin => ⟨by omega, by omega, fun hle => ⟨by omega, by omega, fun σ31 e31 => ⟨by omega, by omega, fun σ34 e34 => ⟨by omega, by omega, fun σ37 e37 => ⟨by omega, by omega, fun σ40 e40 => ?_⟩⟩⟩⟩, fun hlt x52 ex => ?_⟩⟩
  · subst ex
    exact hno (by rw [hyn, decide_eq_false (fun q => q hinf)]; rfl)
  · have hok : okp at0 st bb F x0 t0 pre r y = true := by rw [hyn, decide_eq_true hfin, decide_eq_true hle]; rfl
    rw [hok] at hk
    have hv' : vll R P (legs at0 st F x0 t0 (pre ++ [(r, y)])) := by
      rw [legsn]
      intro l hl
      rcases List.mem_append.mp hl with h | h
      · exact hv l h
      · simp at h; subst h
        refine ⟨hr, x1, hy, ?_, ?_, ?_⟩ <;> simp only <;> omega
    have hE40 : Eqv σ24 σ40 := by
      rw [e40, e37, e34, e31]
      exact (((Eqv.s1 (scr19 (by omega) _)).tr (Eqv.s1 (scr19 (by omega) _))).tr (Eqv.s1 (scr19 (by omega) _))).tr (Eqv.s1 (scr19 (by omega) _))
    have hoth : ∀ κ z, (∀ f, f < 4 → κ ≠ (12, 20 + f, 0)) → σ40.1 κ z = σ24.1 κ z := fun κ z h => by
      rw [e40, s1_k (h 3 (by omega)), e37, s1_k (h 2 (by omega)), e34, s1_k (h 1 (by omega)), e31, s1_k (h 0 (by omega))]
    have hz : ∀ q, q ≠ pre.length → ∀ f, f < 4 → σ40.1 (12, 20 + f, 0) q = σ24.1 (12, 20 + f, 0) q := fun q hq f hf => by
      rw [e40, s1_i hq, e37, s1_i hq, e34, s1_i hq, e31, s1_i hq]
    have h20pre : Ls5 σ40 20 (legs at0 st F x0 t0 pre) := h20'.of (fun f j hf hj => hz j (by rw [legs_len] at hj; omega) f hf)
    have h20n : Ls5 σ40 20 (legs at0 st F x0 t0 (pre ++ [(r, y)])) := by
      rw [legsn]
      intro j l hj
      by_cases e : j < pre.length
      · rw [List.getElem?_append_left (by rw [legs_len]; exact e)] at hj
        exact h20pre j l hj
      · have hjl := (List.getElem?_eq_some_iff.mp hj).1
        rw [List.length_append, legs_len] at hjl
        have e' : j = pre.length := by simp at hjl; omega
        subst e'
        rw [List.getElem?_append_right (by rw [legs_len]; omega), legs_len] at hj
        simp at hj
        subst hj
        refine ⟨?_, ?_, ?_, ?_⟩
        · rw [e40, s1_k (by simp), e37, s1_k (by simp), e34, s1_k (by simp), e31, s1_at]
        · rw [e40, s1_k (by simp), e37, s1_k (by simp), e34, s1_at]
        · rw [e40, s1_k (by simp), e37, s1_at]
        · rw [e40, s1_at]
    have hb40 : Bst5 R P at0 st F x0 t0 σ40 b := hb24.of (hoth _ _ (fun f hf => by simp)) (fun f j hf => hoth _ _ (fun g hg => by simp; omega))
    have hd40 := hd24.eqv hE40
    refine ⟨fun hgl => ?_, fun hgl => ?_⟩
    · have hyg : y = goal := by
        rw [w0 (x := (goal : Int)) (by omega) (by omega)] at hgl
        omega
      rw [if_pos rfl, if_pos hyg] at hk
      refine x5_isBetter (c := pre ++ [(r, y)]) (n := pre.length + 1) (by simp) (by simp) (by simp; omega) hv' hR6 hP8 h20n hb40 (br10 (fun hbt => ?_) (fun hbt x49 ex => ?_))
      · intro σ47 e47
        have hE47 : Eqv σ40 σ47 := by rw [e47]; exact Eqv.s1 (Or.inr (Or.inr (Or.inr (Or.inl ⟨rfl, Or.inr rfl⟩))))
        refine ⟨pre.length + 1 + 1, x5_copy (by omega) (ls := legs at0 st F x0 t0 (pre ++ [(r, y)])) (by rw [legs_len]; simp) (pre.length + 1) 0 σ47 (by omega) ?_ (fun q l hq => absurd hq (Nat.not_lt_zero q)) (fun σ' hE' ho' h24 => ?_)⟩
        · rw [e47]; exact h20n.of (fun f j hf _ => by rw [s1_k (by simp)])
        · refine hk σ' (((hE24.tr hE40).tr hE47).tr hE') ?_ ?_
          · refine h20pre.of (fun f j hf _ => ?_)
            rw [ho' _ _ (fun g hg => by simp; omega), e47, s1_k (by simp)]
          · show Bst5 R P at0 st F x0 t0 σ' (min5 at0 st F x0 t0 b (pre ++ [(r, y)]))
            unfold min5
            rw [if_pos hbt]
            refine ⟨hv', by simp; omega, ?_, h24⟩
            rw [ho' _ _ (fun g hg => by simp), e47, s1_at]
            simp
      · subst ex
        refine hk σ40 (hE24.tr hE40) h20pre ?_
        show Bst5 R P at0 st F x0 t0 σ40 (min5 at0 st F x0 t0 b (pre ++ [(r, y)]))
        unfold min5
        rw [if_neg hbt]
        exact hb40
    · have hyg : y ≠ goal := fun e => by subst e; rw [w0 (x := (y : Int)) (by omega) (by omega)] at hgl; exact hgl rfl
      have hd0 : d ≠ 0 := hgd.resolve_left hyg
      rw [if_pos rfl, if_neg hyg] at hk
      have hso := bt_or hs.1 hs.2.1 (p := (y : Int)) (by omega) (by omega)
      have hcall := hrc hd0 (pre ++ [(r, y)]) σ40 b (orI seen (shlI 1 y)) (fun σ50 => ∀ x51 : Int, x51 = (y : Int) + 1 → kb153 (r : Int) s x51 σ50) (by simp; omega) hv' hd40 h20n hb40 ⟨hso.1, hso.2.1, fun z hz => by
        rw [hso.2.2 z (by omega) (by omega), hs.2.2 z hz]
        simp only [List.mem_append, List.mem_singleton]
        constructor
        · rintro ((h | ⟨q, h1, h2⟩) | h)
          · exact Or.inl h
          · exact Or.inr ⟨q, Or.inl h1, h2⟩
          · exact Or.inr ⟨(r, y), Or.inr rfl, by simp only; omega⟩
        · rintro (h | ⟨q, h1 | h1, h2⟩)
          · exact Or.inl (Or.inl h)
          · exact Or.inl (Or.inr ⟨q, h1, h2⟩)
          · subst h1; simp only at h2; exact Or.inr (by omega)⟩ (fun σ' hE' h20f hbf x51 ex => ?_)
      · rw [lon] at hcall
        simp only [List.length_append, List.length_singleton] at hcall
        exact hcall
      · subst ex
        refine hk σ' ((hE24.tr hE40).tr hE') ?_ hbf
        rw [legsn] at h20f
        exact fun j l hj => h20f j l (by rw [List.getElem?_append_left (List.getElem?_eq_some_iff.mp hj).1]; exact hj)
  · subst ex
    exact hno (by rw [hyn, decide_eq_false (show ¬ (s + F r x y ≤ bb r) by omega)]; simp)
end T5S
