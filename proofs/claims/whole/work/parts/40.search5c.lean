section T5T
variable {R P : Nat} {cy : Nat → Bool} {at0 : Nat → Nat} {st bb : Nat → Int} {F E : Nat → Nat → Nat → Int} {goal x0 : Nat} {t0 kind : Int}
/-- the chains behind a rider and a place -/
abbrev gP (R : Nat) (cy : Nat → Bool) (at0 : Nat → Nat) (st bb : Nat → Int) (F : Nat → Nat → Nat → Int) (goal x0 : Nat) (t0 : Int) (ps : List Nat) (d : Nat) (pre : List Ky) (r y : Nat) : List (List Ky) := if okp at0 st bb F x0 t0 pre r y then (if y = goal then [pre ++ [(r, y)]] else en R cy at0 st bb F goal x0 t0 ps d (pre ++ [(r, y)])) else []
theorem t5_153 {K : List nKey} {rc : nS → Int → Int → Int → Int → Int → Int → (nS → Prop) → Prop} {k : nS → Prop} {kb3 : Int → nS → Prop} {d : Nat} {pre : List Ky} {r : Nat} {seen : Int} (hx0 : x0 < P) (ht0 : 0 ≤ t0 ∧ t0 ≤ 4319) (hg : goal < P) (hrc : d ≠ 0 → T5 R P cy at0 st bb F E goal x0 t0 kind d rc) (hlen : pre.length + (d + 1) = 3) (hv : vll R P (legs at0 st F x0 t0 pre)) (hs : SeenOk x0 seen pre) (hr : r < R) (hs0 : 0 ≤ sx at0 st F (lo at0 st F x0 t0 pre).1 (lo at0 st F x0 t0 pre).2 r ∧ sx at0 st F (lo at0 st F x0 t0 pre).1 (lo at0 st F x0 t0 pre).2 r ≤ 200000) :
    ∀ (m y : Nat) (σ : nS) (b : List Ky), y + m = P → Dat5 R P cy at0 st bb F E kind σ → Ls5 σ 20 (legs at0 st F x0 t0 pre) → Bst5 R P at0 st F x0 t0 σ b →
    (∀ σ', Eqv σ σ' → Ls5 σ' 20 (legs at0 st F x0 t0 pre) → Bst5 R P at0 st F x0 t0 σ' (List.foldl (min5 at0 st F x0 t0) b ((List.range' y m).flatMap (gP R cy at0 st bb F goal x0 t0 (List.range P) d pre r))) → kb3 ((r : Int) + 1) σ') →
    P_X5_tryLeg_L153 K rc k kb3 (pre.length : Int) kind ((lo at0 st F x0 t0 pre).1 : Int) (lo at0 st F x0 t0 pre).2 (goal : Int) seen (m + 1) (r : Int) (sx at0 st F (lo at0 st F x0 t0 pre).1 (lo at0 st F x0 t0 pre).2 r) (y : Int) σ := by
  intro m
  induction m with
  | zero =>
    intro y σ b hy hd h20 hb hk
    have hP8 := hd.2.2.2.1
    unfold P_X5_tryLeg_L153
    rw [hd.2.1, w0 (x := (P : Int)) (by omega) (by omega), w0 (x := (y : Int)) (by omega) (by omega)]
    exact ⟨fun _ x54 e => by subst e; exact hk σ Eqv.rf h20 hb, fun h => absurd h (by omega)⟩
  | succ m ih =>
    intro y σ b hy hd h20 hb hk
    have hP8 := hd.2.2.2.1
    rw [List.range'_succ, List.flatMap_cons, List.foldl_append] at hk
    have next : ∀ σ', Eqv σ σ' → Ls5 σ' 20 (legs at0 st F x0 t0 pre) → Bst5 R P at0 st F x0 t0 σ' (List.foldl (min5 at0 st F x0 t0) b (gP R cy at0 st bb F goal x0 t0 (List.range P) d pre r y)) → P_X5_tryLeg_L153 K rc k kb3 (pre.length : Int) kind ((lo at0 st F x0 t0 pre).1 : Int) (lo at0 st F x0 t0 pre).2 (goal : Int) seen (m + 1) (r : Int) (sx at0 st F (lo at0 st F x0 t0 pre).1 (lo at0 st F x0 t0 pre).2 r) ((y : Int) + 1) σ' := fun σ' e' h' b' => ih (y + 1) σ' _ (by omega) (hd.eqv e') h' b' (fun σ'' e'' h'' b'' => hk σ'' (e'.tr e'') h'' b'')
    have skip : gP R cy at0 st bb F goal x0 t0 (List.range P) d pre r y = [] → P_X5_tryLeg_L153 K rc k kb3 (pre.length : Int) kind ((lo at0 st F x0 t0 pre).1 : Int) (lo at0 st F x0 t0 pre).2 (goal : Int) seen (m + 1) (r : Int) (sx at0 st F (lo at0 st F x0 t0 pre).1 (lo at0 st F x0 t0 pre).2 r) ((y : Int) + 1) σ := fun e => next σ Eqv.rf h20 (by rw [e]; exact hb)
    unfold P_X5_tryLeg_L153
    rw [hd.2.1, w0 (x := (P : Int)) (by omega) (by omega), w0 (x := (y : Int)) (by omega) (by omega), w0 (x := (goal : Int)) (by omega) (by omega), w0 (x := (pre.length : Int)) (by omega) (by omega)]
    refine ⟨fun h => absurd h (by omega), fun _ => br_bt1' (fun hbs x56 ex => ?_) (fun hbs => ⟨fun e => ?_, fun e => ⟨fun e2 => ?_, fun e2 x59 ex => ?_⟩⟩)⟩
    · subst ex
      refine skip ?_
      have : okp at0 st bb F x0 t0 pre r y = false := by
        unfold okp
        rcases (hs.2.2 y (by omega)).mp hbs with h | ⟨q, h1, h2⟩
        · rw [decide_eq_false (show ¬ (x0 ≠ y) from fun q => q h.symm)]; simp
        · have : pre.all (fun q => decide (q.2 ≠ y)) = false := by
            cases g : pre.all (fun q => decide (q.2 ≠ y)) with
            | false => rfl
            | true => exact absurd h2 (of_decide_eq_true (List.all_eq_true.mp g q h1))
          rw [this]; simp
      unfold gP
      rw [this]; rfl
    · exact t5_188 hx0 ht0 hg hrc hlen hv hd h20 hb hs hr (by omega) hbs (Or.inl (by omega)) hs0 (fun σ' e' h' b' => next σ' e' h' b')
    · exact t5_188 hx0 ht0 hg hrc hlen hv hd h20 hb hs hr (by omega) hbs (Or.inr (by omega)) hs0 (fun σ' e' h' b' => next σ' e' h' b')
    · subst ex
      refine skip ?_
      have hd0 : d = 0 := by omega
      unfold gP
      rw [if_neg (show ¬ y = goal by omega), hd0]
      simp [en]
/-- the chains behind a rider -/
abbrev gR (R : Nat) (cy : Nat → Bool) (at0 : Nat → Nat) (st bb : Nat → Int) (F : Nat → Nat → Nat → Int) (goal x0 : Nat) (t0 : Int) (ps : List Nat) (d : Nat) (pre : List Ky) (r : Nat) : List (List Ky) := if okr cy at0 st bb F x0 t0 pre r then ps.flatMap (gP R cy at0 st bb F goal x0 t0 ps d pre r) else []
theorem sx_rng {x : Nat} {t : Int} {r : Nat} (ht : 0 ≤ t ∧ t ≤ 4319) (hs : 0 ≤ st r ∧ st r ≤ 4919) (hF : 0 ≤ F r (at0 r) x ∧ F r (at0 r) x ≤ 153600) : 0 ≤ sx at0 st F x t r ∧ sx at0 st F x t r ≤ 200000 := by
  unfold sx mx
  split <;> omega
theorem t5_18 {K : List nKey} {rc : nS → Int → Int → Int → Int → Int → Int → (nS → Prop) → Prop} {k : nS → Prop} {kb3 : Int → nS → Prop} {d : Nat} {pre : List Ky} {r : Nat} {seen : Int} {b : List Ky} {σ : nS} (hx0 : x0 < P) (ht0 : 0 ≤ t0 ∧ t0 ≤ 4319) (hg : goal < P) (hrc : d ≠ 0 → T5 R P cy at0 st bb F E goal x0 t0 kind d rc) (hlen : pre.length + (d + 1) = 3) (hv : vll R P (legs at0 st F x0 t0 pre)) (hs : SeenOk x0 seen pre) (hr : r < R) (hd : Dat5 R P cy at0 st bb F E kind σ) (h20 : Ls5 σ 20 (legs at0 st F x0 t0 pre)) (hb : Bst5 R P at0 st F x0 t0 σ b)
    (hk : ∀ σ', Eqv σ σ' → Ls5 σ' 20 (legs at0 st F x0 t0 pre) → Bst5 R P at0 st F x0 t0 σ' (List.foldl (min5 at0 st F x0 t0) b (gR R cy at0 st bb F goal x0 t0 (List.range P) d pre r)) → kb3 ((r : Int) + 1) σ') :
    ∀ (m j : Nat), j + m = pre.length → P_X5_tryLeg_L18 K rc k kb3 (pre.length : Int) kind ((lo at0 st F x0 t0 pre).1 : Int) (lo at0 st F x0 t0 pre).2 (goal : Int) seen (m + 1) (r : Int) (b2i ((pre.take j).all (fun q => decide (q.1 ≠ r)) = true)) (j : Int) σ := by
  obtain ⟨x1, t1, t2⟩ := lo_rng hv hx0 ht0
  obtain ⟨hR1, hP1, hR6, hP8, hrr⟩ := id hd
  obtain ⟨⟨hcy, hfl⟩, ⟨hat, hat8⟩, ⟨hst, hf0, hf1, hu0, hu1⟩, ⟨hbb, hb0, hb1⟩, hctx, hF, hpl⟩ := hrr r hr
  have hst0 : 0 ≤ st r ∧ st r ≤ 4919 := by rw [← hst]; unfold mx; split <;> omega
  have hno : ∀ σ', Eqv σ σ' → Ls5 σ' 20 (legs at0 st F x0 t0 pre) → Bst5 R P at0 st F x0 t0 σ' b → okr cy at0 st bb F x0 t0 pre r = false → kb3 ((r : Int) + 1) σ' := fun σ' e h h' e2 => hk σ' e h (by unfold gR; rw [e2]; exact h')
  intro m
  induction m with
  | zero =>
    intro j hj
    have hj' : j = pre.length := by omega
    subst hj'
    rw [List.take_of_length_le (Nat.le_refl _)]
    unfold P_X5_tryLeg_L18
    rw [w0 (x := (pre.length : Int)) (by omega) (by omega)]
    refine ⟨fun _ => br01 (fun hall => ?_) (fun hall x62 ex => ?_), fun h => absurd h (by omega)⟩
    · refine x5_mayCarry (by omega) hcy hfl (br10 (fun hc => ⟨by omega, by omega, ?_⟩) (fun hc x86 ex => ?_))
      · have FF := hF.1 (at0 r) (lo at0 st F x0 t0 pre).1 (by omega) (by omega)
        simp only [Int.toNat_natCast]
        rw [hat]
        refine x5_wayOf hF hctx hP8 (by omega) hat8 x1 hpl (fun σ68 ho => ?_)
        have hE68 : Eqv σ σ68 := ho.eqv (scr19 (by omega))
        have hd68 := hd.eqv hE68
        have h20' : Ls5 σ68 20 (legs at0 st F x0 t0 pre) := h20.of (fun f j hf _ => ho.2 _ _ (by simp; omega))
        have hb68 : Bst5 R P at0 st F x0 t0 σ68 b := hb.of (ho.2 _ _ (by simp)) (fun f j hf => ho.2 _ _ (by simp; omega))
        rw [w0 (x := F r (at0 r) (lo at0 st F x0 t0 pre).1) (by omega) (by omega)]
        refine ⟨fun hfin => ⟨by omega, by omega, by omega, by omega, fun x75 e75 => ?_⟩, fun hinf x85 ex => ?_⟩
        · have hsr := sx_rng (at0 := at0) (F := F) (x := (lo at0 st F x0 t0 pre).1) (t := (lo at0 st F x0 t0 pre).2) ⟨t1, t2⟩ hst0 ⟨FF.1, by omega⟩
          have e75' : x75 = sx at0 st F (lo at0 st F x0 t0 pre).1 (lo at0 st F x0 t0 pre).2 r := by
            obtain ⟨-, -, ⟨g1, g2, g3, g4, g5⟩, -⟩ := hd68.2.2.2.2 r hr
            rw [e75, mxI_mx (a := σ68.1 (12, 7, 0) r) (by omega) (by omega), g1, mxI_mx (by omega) (by omega)]
            rfl
          subst e75'
          have go : lastb bb pre (sx at0 st F (lo at0 st F x0 t0 pre).1 (lo at0 st F x0 t0 pre).2 r) = true → ∃ f77 : Nat, P_X5_tryLeg_L153 K rc k kb3 (pre.length : Int) kind ((lo at0 st F x0 t0 pre).1 : Int) (lo at0 st F x0 t0 pre).2 (goal : Int) seen f77 (r : Int) (sx at0 st F (lo at0 st F x0 t0 pre).1 (lo at0 st F x0 t0 pre).2 r) 0 σ68 := fun hlb => by
            have hok : okr cy at0 st bb F x0 t0 pre r = true := by
              unfold okr
              rw [hc, hall, hlb, decide_eq_true hfin]; rfl
            refine ⟨P + 1, t5_153 hx0 ht0 hg hrc hlen hv hs hr hsr P 0 σ68 b (by omega) hd68 h20' hb68 (fun σ' e' h' b' => hk σ' (hE68.tr e') h' ?_)⟩
            unfold gR
            rw [hok, List.range_eq_range']
            rw [List.range_eq_range'] at b'
            exact b'
          refine ⟨fun hi => go ?_, fun hi => ⟨by omega, by omega, ?_⟩⟩
          · have : pre = [] := List.length_eq_zero_iff.mp (by omega)
            subst this; rfl
          · have hne : pre ≠ [] := fun e => by subst e; simp at hi
            obtain ⟨l, hl, -, -, q, hq1, hq2⟩ := legs_last (at0 := at0) (st := st) (F := F) (x0 := x0) (t0 := t0) hne
            have hvl := hv l (List.mem_of_getElem? hl)
            have hl20 := (h20' _ _ hl).1
            have hbl := (hd68.2.2.2.2 l.1 hvl.1).2.2.2.1
            rw [show ((pre.length : Int) - 1).toNat = pre.length - 1 by omega, hl20]
            simp only [Int.toNat_natCast]
            rw [hbl.1, w0 (x := sx at0 st F (lo at0 st F x0 t0 pre).1 (lo at0 st F x0 t0 pre).2 r) (by omega) (by omega), w0 (x := bb l.1) (by omega) (by omega)]
            have hlb : lastb bb pre (sx at0 st F (lo at0 st F x0 t0 pre).1 (lo at0 st F x0 t0 pre).2 r) = decide (sx at0 st F (lo at0 st F x0 t0 pre).1 (lo at0 st F x0 t0 pre).2 r ≤ bb l.1) := by
              unfold lastb; rw [hq1, ← hq2]
            refine ⟨by omega, by omega, fun h => go (by rw [hlb]; exact decide_eq_true h), fun h x84 ex => ?_⟩
            subst ex
            refine hno σ68 hE68 h20' hb68 ?_
            unfold okr
            rw [hlb, decide_eq_false (show ¬ (sx at0 st F (lo at0 st F x0 t0 pre).1 (lo at0 st F x0 t0 pre).2 r ≤ bb l.1) by omega)]; simp
        · subst ex
          refine hno σ68 hE68 h20' hb68 ?_
          unfold okr
          rw [decide_eq_false (show ¬ (F r (at0 r) (lo at0 st F x0 t0 pre).1 ≠ 1000000) from fun q => q hinf)]; simp
      · subst ex
        refine hno σ Eqv.rf h20 hb ?_
        unfold okr
        cases h : cy r with
        | true => exact absurd h hc
        | false => simp
    · subst ex
      refine hno σ Eqv.rf h20 hb ?_
      unfold okr
      cases h : pre.all (fun q => decide (q.1 ≠ r)) with
      | true => exact absurd h hall
      | false => simp
  | succ m ih =>
    intro j hj
    have ihj := ih (j + 1) (by omega)
    obtain ⟨l, hl⟩ : ∃ l, (legs at0 st F x0 t0 pre)[j]? = some l := ⟨_, List.getElem?_eq_getElem (by rw [legs_len]; omega)⟩
    have hkey := legs_key hl
    have hvl := hv l (List.mem_of_getElem? hl)
    have h20l := (h20 j l hl).1
    have htk : pre.take (j + 1) = pre.take j ++ [(l.1, l.2.2.1)] := by rw [List.take_succ, hkey]; rfl
    rw [htk, List.all_append] at ihj
    unfold P_X5_tryLeg_L18
    rw [w0 (x := (pre.length : Int)) (by omega) (by omega), w0 (x := (j : Int)) (by omega) (by omega)]
    refine ⟨fun h => absurd h (by omega), fun _ => br01 (fun hall => ⟨by omega, by omega, ?_⟩) (fun hall x88 ex => ?_)⟩
    · simp only [Int.toNat_natCast]
      rw [h20l, w0 (x := (l.1 : Int)) (by omega) (by omega), w0 (x := (r : Int)) (by omega) (by omega)]
      rw [hall] at ihj
      refine ⟨fun e x92 ex => ?_, fun e x93 ex => ?_⟩
      · subst ex
        rw [b2i_f (by simp; omega)] at ihj
        exact ihj
      · subst ex
        rw [b2i_t (by simp; omega)] at ihj
        exact ihj
    · subst ex
      rw [b2i_f (by simp only [Bool.and_eq_true]; exact fun h => hall h.1)] at ihj
      exact ihj
theorem t5_3 {K : List nKey} {rc : nS → Int → Int → Int → Int → Int → Int → (nS → Prop) → Prop} {k : nS → Prop} {d : Nat} {pre : List Ky} {seen : Int} (hx0 : x0 < P) (ht0 : 0 ≤ t0 ∧ t0 ≤ 4319) (hg : goal < P) (hrc : d ≠ 0 → T5 R P cy at0 st bb F E goal x0 t0 kind d rc) (hlen : pre.length + (d + 1) = 3) (hv : vll R P (legs at0 st F x0 t0 pre)) (hs : SeenOk x0 seen pre) :
    ∀ (m r : Nat) (σ : nS) (b : List Ky), r + m = R → Dat5 R P cy at0 st bb F E kind σ → Ls5 σ 20 (legs at0 st F x0 t0 pre) → Bst5 R P at0 st F x0 t0 σ b →
    (∀ σ', Eqv σ σ' → Ls5 σ' 20 (legs at0 st F x0 t0 pre) → Bst5 R P at0 st F x0 t0 σ' (List.foldl (min5 at0 st F x0 t0) b ((List.range' r m).flatMap (gR R cy at0 st bb F goal x0 t0 (List.range P) d pre))) → k σ') →
    P_X5_tryLeg_L3 K rc k (pre.length : Int) kind ((lo at0 st F x0 t0 pre).1 : Int) (lo at0 st F x0 t0 pre).2 (goal : Int) seen (m + 1) (r : Int) σ := by
  intro m
  induction m with
  | zero =>
    intro r σ b hr hd h20 hb hk
    have hR6 := hd.2.2.1
    unfold P_X5_tryLeg_L3
    rw [hd.1, w0 (x := (R : Int)) (by omega) (by omega), w0 (x := (r : Int)) (by omega) (by omega)]
    exact ⟨fun _ => hk σ Eqv.rf h20 hb, fun h => absurd h (by omega)⟩
  | succ m ih =>
    intro r σ b hr hd h20 hb hk
    have hR6 := hd.2.2.1
    rw [List.range'_succ, List.flatMap_cons, List.foldl_append] at hk
    unfold P_X5_tryLeg_L3
    rw [hd.1, w0 (x := (R : Int)) (by omega) (by omega), w0 (x := (r : Int)) (by omega) (by omega)]
    refine ⟨fun h => absurd h (by omega), fun _ => ⟨pre.length + 1, ?_⟩⟩
    have := t5_18 (K := K) (rc := rc) (k := k) (kb3 := P_X5_tryLeg_L3 K rc k (pre.length : Int) kind ((lo at0 st F x0 t0 pre).1 : Int) (lo at0 st F x0 t0 pre).2 (goal : Int) seen (m + 1)) hx0 ht0 hg hrc hlen hv hs (by omega) hd h20 hb (fun σ' e' h' b' => ih (r + 1) σ' _ (by omega) (hd.eqv e') h' b' (fun σ'' e'' h'' b'' => hk σ'' (e'.tr e'') h'' b'')) pre.length 0 (by omega)
    rw [List.take_zero, b2i_t (by rfl)] at this
    exact this
theorem t5_all {K : List nKey} (hx0 : x0 < P) (ht0 : 0 ≤ t0 ∧ t0 ≤ 4319) (hg : goal < P) : ∀ d, T5 R P cy at0 st bb F E goal x0 t0 kind (d + 1) (P_X5_tryLegD K (d + 1)) := by
  intro d
  induction d with
  | zero =>
    intro pre σ b seen k hlen hv hd h20 hb hs hk
    refine ⟨R + 1, t5_3 hx0 ht0 hg (fun h => absurd rfl h) hlen hv hs R 0 σ b (by omega) hd h20 hb (fun σ' e' h' b' => hk σ' e' h' ?_)⟩
    rw [← List.range_eq_range'] at b'
    exact b'
  | succ d ih =>
    intro pre σ b seen k hlen hv hd h20 hb hs hk
    refine ⟨R + 1, t5_3 hx0 ht0 hg (fun _ => ih) hlen hv hs R 0 σ b (by omega) hd h20 hb (fun σ' e' h' b' => hk σ' e' h' ?_)⟩
    rw [← List.range_eq_range'] at b'
    exact b'
/-- the best chain of the model -/
theorem x5_findBest {K : List nKey} {σ : nS} {k : Int → nS → Prop} (hx0 : x0 < P) (ht0 : 0 ≤ t0 ∧ t0 ≤ 4319) (hg : goal < P) (hd : Dat5 R P cy at0 st bb F E kind σ) (hk : ∀ (σ' : nS) (c : List Ky), c = List.foldl (min5 at0 st F x0 t0) [] (en R cy at0 st bb F goal x0 t0 (List.range P) 3 []) → Eqv σ σ' → Bst5 R P at0 st F x0 t0 σ' c → k (b2i (0 < c.length)) σ') : P_X5_findBest K σ kind (x0 : Int) t0 (goal : Int) k := by
  unfold P_X5_findBest
  intro σ1 e1
  have hP8 := hd.2.2.2.1
  have hE1 : Eqv σ σ1 := by rw [e1]; exact Eqv.s1 (Or.inr (Or.inr (Or.inr (Or.inl ⟨rfl, Or.inr rfl⟩))))
  have ho := bt_one (p := (x0 : Int)) (by omega) (by omega)
  refine t5_all hx0 ht0 hg 2 [] σ1 [] (shlI 1 x0) _ rfl (fun l h => by cases h) (hd.eqv hE1) (fun j l h => by simp [legs] at h) ⟨fun l h => (by cases h), by simp, by rw [e1, s1_at]; rfl, fun j l h => by simp [legs] at h⟩ ⟨ho.1, ho.2.1, fun y hy => by
    rw [ho.2.2 y (by omega) (by omega)]
    simp
    omega⟩ (fun σ2 e2 h2 b2 => ?_)
  have hk2 := hk σ2 _ rfl (hE1.tr e2) b2
  generalize hc : List.foldl (min5 at0 st F x0 t0) [] (en R cy at0 st bb F goal x0 t0 (List.range P) 3 []) = c at *
  have hl := b2.2.2.1
  have h3 := b2.2.1
  rw [hl, w0 (x := (c.length : Int)) (by omega) (by omega)]
  refine ⟨fun h => ?_, fun h => ?_⟩
  · rw [b2i_f (by omega)] at hk2; exact hk2
  · rw [b2i_t (by omega)] at hk2; exact hk2
end T5T
