section T4T
variable {R P : Nat} {cy : Nat → Bool} {at0 : Nat → Nat} {st bb : Nat → Int} {F E : Nat → Nat → Nat → Int} {goal x0 : Nat} {t0 kind : Int}
theorem foldl_keep (b : List Ky) : ∀ (l : List (List Ky)), (∀ c ∈ l, kpr at0 st F x0 t0 b c = false) → List.foldl (kep4 at0 st F x0 t0) b l = b := by
  intro l
  induction l with
  | nil => intro _; rfl
  | cons c l ih =>
    intro h
    rw [List.foldl_cons]
    have : kep4 at0 st F x0 t0 b c = b := by unfold kep4; rw [h c List.mem_cons_self]; rfl
    rw [this]
    exact ih (fun c' hc => h c' (List.mem_cons_of_mem _ hc))
theorem mx_le (a b : Int) : a ≤ mx a b ∧ b ≤ mx a b := by unfold mx; split <;> omega
theorem mx_comm (a b : Int) : mx a b = mx b a := by unfold mx; split <;> split <;> omega
theorem en_ed {ps : List Nat} (hps : ∀ y ∈ ps, y < 8) (hF : ∀ r x y, r < R → x < 8 → y < 8 → 0 ≤ F r x y) : ∀ d pre c, (lo at0 st F x0 t0 pre).1 < 8 → c ∈ en R cy at0 st bb F goal x0 t0 ps d pre → (lo at0 st F x0 t0 pre).2 ≤ ed at0 st F x0 t0 c := by
  intro d
  induction d with
  | zero => intro pre c _ h; simp [en] at h
  | succ d ih =>
    intro pre c hx h
    simp only [en, List.mem_flatMap, List.mem_range] at h
    obtain ⟨r, hr, h⟩ := h
    have h := (mem_if h).2
    rw [List.mem_flatMap] at h
    obtain ⟨y, hy, h⟩ := h
    have h := (mem_if h).2
    have hlo : lo at0 st F x0 t0 (pre ++ [(r, y)]) = (y, sx at0 st F (lo at0 st F x0 t0 pre).1 (lo at0 st F x0 t0 pre).2 r + F r (lo at0 st F x0 t0 pre).1 y) := by rw [lo_app]; rfl
    have h1 : (lo at0 st F x0 t0 pre).2 ≤ sx at0 st F (lo at0 st F x0 t0 pre).1 (lo at0 st F x0 t0 pre).2 r := (mx_le _ _).1
    have h2 := hF r _ y hr hx (hps y hy)
    by_cases e : y = goal
    · rw [if_pos e] at h
      simp at h
      subst h
      unfold ed
      rw [hlo]
      simp only
      omega
    · rw [if_neg e] at h
      have := ih (pre ++ [(r, y)]) c (by rw [hlo]; exact hps y hy) h
      rw [hlo] at this
      simp only at this
      omega
theorem gR_late {ps : List Nat} (hps : ∀ y ∈ ps, y < 8) (hF : ∀ r x y, r < R → x < 8 → y < 8 → 0 ≤ F r x y ∧ (x ≠ y → 1 ≤ F r x y)) {d : Nat} {pre : List Ky} {r : Nat} {b c : List Ky} (hr : r < R) (hx : (lo at0 st F x0 t0 pre).1 < 8) (hb : b ≠ []) (hs : ed at0 st F x0 t0 b ≤ sx at0 st F (lo at0 st F x0 t0 pre).1 (lo at0 st F x0 t0 pre).2 r) (hc : c ∈ gR R cy at0 st bb F goal x0 t0 ps d pre r) : kpr at0 st F x0 t0 b c = false := by
  have h := (mem_if hc).2
  rw [List.mem_flatMap] at h
  obtain ⟨y, hy, h⟩ := h
  obtain ⟨hok, h⟩ := mem_if h
  have hlo : lo at0 st F x0 t0 (pre ++ [(r, y)]) = (y, sx at0 st F (lo at0 st F x0 t0 pre).1 (lo at0 st F x0 t0 pre).2 r + F r (lo at0 st F x0 t0 pre).1 y) := by rw [lo_app]; rfl
  have hsn : okp at0 st bb F x0 t0 pre r y = (seenB x0 pre y && decide (F r (lo at0 st F x0 t0 pre).1 y ≠ 1000000) && decide (sx at0 st F (lo at0 st F x0 t0 pre).1 (lo at0 st F x0 t0 pre).2 r + F r (lo at0 st F x0 t0 pre).1 y ≤ bb r)) := rfl
  rw [hsn] at hok
  have hsb : seenB x0 pre y = true := by
    cases g : seenB x0 pre y with
    | true => rfl
    | false => rw [g] at hok; cases hok
  have hne := seenB_f.mp hsb _ (List.mem_of_getElem? (lo_from (at0 := at0) (st := st) (F := F) (x := x0) (t := t0)))
  have h1 := (hF r _ y hr hx (hps y hy)).2 hne
  have hed : sx at0 st F (lo at0 st F x0 t0 pre).1 (lo at0 st F x0 t0 pre).2 r + F r (lo at0 st F x0 t0 pre).1 y ≤ ed at0 st F x0 t0 c := by
    by_cases e : y = goal
    · rw [if_pos e] at h
      simp at h
      subst h
      unfold ed
      rw [hlo]
      exact Int.le_refl _
    · rw [if_neg e] at h
      have := en_ed hps (fun r x y a b c => (hF r x y a b c).1) d (pre ++ [(r, y)]) c (by rw [hlo]; exact hps y hy) h
      rw [hlo] at this
      exact this
  have hbi : b.isEmpty = false := by cases b with
    | nil => exact absurd rfl hb
    | cons _ _ => rfl
  unfold kpr
  rw [hbi]
  simp
  omega
theorem t4_25 {K : List nKey} {rc : nS → Int → Int → Int → (nS → Prop) → Prop} {k : nS → Prop} {d : Nat} {pre : List Ky} {r : Nat} (hx0 : x0 < P) (ht0 : 0 ≤ t0 ∧ t0 ≤ 4319) (hg : goal < P) (hrc : d ≠ 0 → T4 K R P cy at0 st bb F E goal x0 t0 kind d rc) (hlen : pre.length + (d + 1) = 3) (hv : vll R P (legs at0 st F x0 t0 pre)) (hr : r < R) (hd0 : d ≠ 0) (hs0 : 0 ≤ sx at0 st F (lo at0 st F x0 t0 pre).1 (lo at0 st F x0 t0 pre).2 r ∧ sx at0 st F (lo at0 st F x0 t0 pre).1 (lo at0 st F x0 t0 pre).2 r ≤ 200000) :
    ∀ (m y : Nat) (σ : nS) (b : List Ky), y + m = P → Dat4 K R P cy at0 st bb F E kind σ → Pre4 at0 st F goal x0 t0 kind σ pre → Bst4 R P at0 st F x0 t0 σ b → Op4 σ pre.length r (lo at0 st F x0 t0 pre).1 (sx at0 st F (lo at0 st F x0 t0 pre).1 (lo at0 st F x0 t0 pre).2 r) →
    (∀ σ', Eqv σ σ' → Pre4 at0 st F goal x0 t0 kind σ' pre → Bst4 R P at0 st F x0 t0 σ' (List.foldl (kep4 at0 st F x0 t0) b (((List.range' y m).filter (fun z => decide (z ≠ goal))).flatMap (gP R cy at0 st bb F goal x0 t0 (ps4 goal P) d pre r))) → k σ') →
    P_X4_tryEnds_L25 K rc k (pre.length : Int) r (sx at0 st F (lo at0 st F x0 t0 pre).1 (lo at0 st F x0 t0 pre).2 r) (m + 1) (y : Int) σ := by
  intro m
  induction m with
  | zero =>
    intro y σ b hy hd hp hb hop hk
    have hP8 := hd.2.2.2.1
    unfold P_X4_tryEnds_L25
    rw [hd.2.1, w0 (x := (P : Int)) (by omega) (by omega), w0 (x := (y : Int)) (by omega) (by omega)]
    exact ⟨fun _ => hk σ Eqv.rf hp hb, fun h => absurd h (by omega)⟩
  | succ m ih =>
    intro y σ b hy hd hp hb hop hk
    have hP8 := hd.2.2.2.1
    rw [List.range'_succ] at hk
    unfold P_X4_tryEnds_L25
    rw [hd.2.1, hp.2.2, w0 (x := (P : Int)) (by omega) (by omega), w0 (x := (y : Int)) (by omega) (by omega), w0 (x := (goal : Int)) (by omega) (by omega)]
    refine ⟨fun h => absurd h (by omega), fun _ => ⟨fun e x3 ex => ?_, fun e => ?_⟩⟩
    · subst ex
      rw [List.filter_cons_of_neg (by simp; omega)] at hk
      exact ih (y + 1) σ b (by omega) hd hp hb hop hk
    · rw [List.filter_cons_of_pos (by simp; omega), List.flatMap_cons, List.foldl_append] at hk
      refine t4_end hx0 ht0 hg hrc hlen hv hd hp hb hr (by omega) (Or.inr hd0) hs0 hop (fun σ' e' hp' hop' hb' x5 ex => ?_)
      subst ex
      exact ih (y + 1) σ' _ (by omega) (hd.eqv e') hp' hb' hop' (fun σ'' e'' hp'' hb'' => hk σ'' (e'.tr e'') hp'' hb'')
theorem fm_nil {α β : Type} (g : α → List β) : ∀ (l : List α), (∀ a ∈ l, g a = []) → l.flatMap g = [] := by
  intro l
  induction l with
  | nil => intro _; rfl
  | cons a l ih => intro h; rw [List.flatMap_cons, h a List.mem_cons_self, ih (fun b hb => h b (List.mem_cons_of_mem _ hb))]; rfl
theorem t4_ends {K : List nKey} {rc : nS → Int → Int → Int → (nS → Prop) → Prop} {k : nS → Prop} {d : Nat} {pre : List Ky} {r : Nat} {b : List Ky} {σ : nS} (hx0 : x0 < P) (ht0 : 0 ≤ t0 ∧ t0 ≤ 4319) (hg : goal < P) (hrc : d ≠ 0 → T4 K R P cy at0 st bb F E goal x0 t0 kind d rc) (hlen : pre.length + (d + 1) = 3) (hv : vll R P (legs at0 st F x0 t0 pre)) (hr : r < R) (hs0 : 0 ≤ sx at0 st F (lo at0 st F x0 t0 pre).1 (lo at0 st F x0 t0 pre).2 r ∧ sx at0 st F (lo at0 st F x0 t0 pre).1 (lo at0 st F x0 t0 pre).2 r ≤ 200000) (hd : Dat4 K R P cy at0 st bb F E kind σ) (hp : Pre4 at0 st F goal x0 t0 kind σ pre) (hb : Bst4 R P at0 st F x0 t0 σ b) (hop : Op4 σ pre.length r (lo at0 st F x0 t0 pre).1 (sx at0 st F (lo at0 st F x0 t0 pre).1 (lo at0 st F x0 t0 pre).2 r))
    (hk : ∀ σ', Eqv σ σ' → Pre4 at0 st F goal x0 t0 kind σ' pre → Bst4 R P at0 st F x0 t0 σ' (List.foldl (kep4 at0 st F x0 t0) b ((ps4 goal P).flatMap (gP R cy at0 st bb F goal x0 t0 (ps4 goal P) d pre r))) → k σ') :
    P_X4_tryEnds K rc σ (pre.length : Int) r (sx at0 st F (lo at0 st F x0 t0 pre).1 (lo at0 st F x0 t0 pre).2 r) k := by
  unfold P_X4_tryEnds
  rw [hp.2.2]
  rw [List.flatMap_cons, List.foldl_append] at hk
  refine t4_end hx0 ht0 hg hrc hlen hv hd hp hb hr hg (Or.inl rfl) hs0 hop (fun σ6 e6 hp6 hop6 hb6 => ?_)
  rw [w0 (x := (pre.length : Int) + 1) (by omega) (by omega)]
  refine ⟨fun h => ⟨P + 1, ?_⟩, fun h => ?_⟩
  · refine t4_25 hx0 ht0 hg hrc hlen hv hr (by omega) hs0 P 0 σ6 _ (by omega) (hd.eqv e6) hp6 hb6 hop6 (fun σ' e' hp' hb' => hk σ' (e6.tr e') hp' ?_)
    rw [← List.range_eq_range'] at hb'
    exact hb'
  · have hd0 : d = 0 := by omega
    refine hk σ6 e6 hp6 ?_
    rw [fm_nil _ _ (fun y hy => ?_)]
    · exact hb6
    · have hyg : y ≠ goal := by simpa using (List.mem_filter.mp hy).2
      unfold gP
      rw [if_neg hyg, hd0]
      simp [en]
theorem t4_13 {K : List nKey} {rc : nS → Int → Int → Int → (nS → Prop) → Prop} {k : nS → Prop} {d : Nat} {pre : List Ky} (hx0 : x0 < P) (ht0 : 0 ≤ t0 ∧ t0 ≤ 4319) (hg : goal < P) (hrc : d ≠ 0 → T4 K R P cy at0 st bb F E goal x0 t0 kind d rc) (hlen : pre.length + (d + 1) = 3) (hv : vll R P (legs at0 st F x0 t0 pre)) :
    ∀ (m r : Nat) (σ : nS) (b : List Ky), r + m = R → Dat4 K R P cy at0 st bb F E kind σ → Pre4 at0 st F goal x0 t0 kind σ pre → Bst4 R P at0 st F x0 t0 σ b →
    (∀ σ', Eqv σ σ' → Pre4 at0 st F goal x0 t0 kind σ' pre → Bst4 R P at0 st F x0 t0 σ' (List.foldl (kep4 at0 st F x0 t0) b ((List.range' r m).flatMap (gR R cy at0 st bb F goal x0 t0 (ps4 goal P) d pre))) → k σ') →
    P_X4_tryRiders_L13 K rc k (pre.length : Int) ((lo at0 st F x0 t0 pre).1 : Int) (lo at0 st F x0 t0 pre).2 (m + 1) (r : Int) σ := by
  intro m
  induction m with
  | zero =>
    intro r σ b hr hd hp hb hk
    have hR6 := hd.2.2.1
    unfold P_X4_tryRiders_L13
    rw [hd.1, w0 (x := (R : Int)) (by omega) (by omega), w0 (x := (r : Int)) (by omega) (by omega)]
    exact ⟨fun _ => hk σ Eqv.rf hp hb, fun h => absurd h (by omega)⟩
  | succ m ih =>
    intro r σ b hr hd hp hb hk
    obtain ⟨x1, t1, t2⟩ := lo_rng hv hx0 ht0
    obtain ⟨hR1, hP1, hR6, hP8, hrr⟩ := id hd
    obtain ⟨⟨hs2, hK⟩, ⟨hcy, hfl⟩, ⟨hat, hat8⟩, hst, ⟨hbb, hb0, hb1⟩, hm, hF⟩ := hrr r (by omega)
    have hst0 : 0 ≤ st r ∧ st r ≤ 4919 := by rw [← hst.1]; unfold mx; split <;> omega
    have FF := hF.1 (at0 r) (lo at0 st F x0 t0 pre).1 (by omega) (by omega)
    rw [List.range'_succ, List.flatMap_cons, List.foldl_append] at hk
    have next : ∀ σ', Eqv σ σ' → Pre4 at0 st F goal x0 t0 kind σ' pre → Bst4 R P at0 st F x0 t0 σ' (List.foldl (kep4 at0 st F x0 t0) b (gR R cy at0 st bb F goal x0 t0 (ps4 goal P) d pre r)) → P_X4_tryRiders_L13 K rc k (pre.length : Int) ((lo at0 st F x0 t0 pre).1 : Int) (lo at0 st F x0 t0 pre).2 (m + 1) ((r : Int) + 1) σ' := fun σ' e' h' b' => ih (r + 1) σ' _ (by omega) (hd.eqv e') h' b' (fun σ'' e'' h'' b'' => hk σ'' (e'.tr e'') h'' b'')
    have skip : okr cy at0 st bb F x0 t0 pre r = false → P_X4_tryRiders_L13 K rc k (pre.length : Int) ((lo at0 st F x0 t0 pre).1 : Int) (lo at0 st F x0 t0 pre).2 (m + 1) ((r : Int) + 1) σ := fun e => next σ Eqv.rf hp (by unfold gR; rw [e]; exact hb)
    have hFa : ∀ r x y, r < R → x < 8 → y < 8 → 0 ≤ F r x y ∧ (x ≠ y → 1 ≤ F r x y) := fun r x y a1 a2 a3 => by
      have := ((hrr r a1).2.2.2.2.2.2.1 x y a2 a3)
      exact ⟨this.1, this.2.2.1⟩
    unfold P_X4_tryRiders_L13
    rw [hd.1, w0 (x := (R : Int)) (by omega) (by omega), w0 (x := (r : Int)) (by omega) (by omega)]
    refine ⟨fun h => absurd h (by omega), fun _ => x4_riderAt hR1 hR6 (by omega) hs2 hK ⟨(fun e => by cases e), fun q4 eq => ?_⟩⟩
    cases eq
    refine ⟨hK, ?_⟩
    rw [hp.2.1]
    refine x4_carries hcy hfl (br01 (fun hc => ⟨pre.length + 1, ?_⟩) (fun hc x9 ex => ?_))
    · refine x0_ridden (r := r) (by omega) (by omega) hR6 hv hp.1 pre.length 0 (by omega) (by simp) (br01 (fun hrid x29 ex => ?_) (fun hrid => ?_))
      · subst ex
        refine skip ?_
        unfold okr
        rw [hrid]; simp
      · have hall : pre.all (fun q => decide (q.1 ≠ r)) = true := by
          cases g : pre.all (fun q => decide (q.1 ≠ r)) with
          | true => rfl
          | false => exact absurd g hrid
        refine x4_thereFrom hP1 hP8 x1 hat hat8 hm hF hst (fun x15 e15 => ?_)
        by_cases hinf : F r (at0 r) (lo at0 st F x0 t0 pre).1 = 1000000
        · rw [if_pos hinf]
          refine ⟨fun _ x17 ex => ?_, fun h => absurd (by decide) h⟩
          subst ex
          refine skip ?_
          unfold okr
          rw [decide_eq_false (show ¬ (F r (at0 r) (lo at0 st F x0 t0 pre).1 ≠ 1000000) from fun q => q hinf)]; simp
        · have hsr := sx_rng (at0 := at0) (F := F) (x := (lo at0 st F x0 t0 pre).1) (t := (lo at0 st F x0 t0 pre).2) ⟨t1, t2⟩ hst0 ⟨FF.1, by omega⟩
          rw [if_neg hinf] at e15 ⊢
          have e15' : x15 = sx at0 st F (lo at0 st F x0 t0 pre).1 (lo at0 st F x0 t0 pre).2 r := by
            rw [e15, mxI_mx (by omega) (by omega), mx_comm]; rfl
          rw [w0 (x := st r + F r (at0 r) (lo at0 st F x0 t0 pre).1) (by omega) (by omega)]
          refine ⟨fun h => absurd h (by omega), fun _ => ?_⟩
          rw [e15']
          refine x4_isTooLate (b := b) hsr hb (br10 (fun hlate x21 ex => ?_) (fun hlate => ?_))
          · subst ex
            refine next σ Eqv.rf hp ?_
            rw [foldl_keep b _ (fun c hc => gR_late (fun y hy => by
              simp only [ps4, List.mem_cons, List.mem_filter, List.mem_range] at hy
              omega) hFa (by omega) (by omega) hlate.1 hlate.2 hc)]
            exact hb
          · refine x4_waits (pre := pre) (by omega) hsr hv hd hp.1 (br01 (fun hw => ?_) (fun hw x25 ex => ?_))
            · have hok : okr cy at0 st bb F x0 t0 pre r = true := by
                unfold okr
                rw [hc, hall, hw, decide_eq_true hinf]; rfl
              unfold P_X0_open
              rw [w0 (x := (pre.length : Int)) (by omega) (by omega)]
              refine ⟨fun h => absurd h (by omega), fun _ => ⟨fun h => absurd h (by omega), fun _ => ⟨by omega, by omega, fun σ3 e3 => ⟨by omega, by omega, fun σ6 e6 => ⟨by omega, by omega, fun σ9 e9 => ?_⟩⟩⟩⟩⟩
              simp only [Int.toNat_natCast] at e3 e6 e9
              have hE9 : Eqv σ σ9 := by rw [e9, e6, e3]; exact ((Eqv.s1 scr5).tr (Eqv.s1 scr5)).tr (Eqv.s1 scr5)
              have hoth : ∀ κ z, (∀ f, f < 5 → κ ≠ (5, 0, f)) → σ9.1 κ z = σ.1 κ z := fun κ z h => by rw [e9, s1_k (h 3 (by omega)), e6, s1_k (h 1 (by omega)), e3, s1_k (h 0 (by omega))]
              have hz : ∀ f q, q ≠ pre.length → σ9.1 (5, 0, f) q = σ.1 (5, 0, f) q := fun f q hq => by rw [e9, s1_i hq, e6, s1_i hq, e3, s1_i hq]
              have hp9 : Pre4 at0 st F goal x0 t0 kind σ9 pre := ⟨hp.1.of (fun f j hf hj => hz f j (by rw [legs_len] at hj; omega)), (hoth _ _ (fun g hg => by simp)).trans hp.2.1, (hoth _ _ (fun g hg => by simp)).trans hp.2.2⟩
              have hb9 : Bst4 R P at0 st F x0 t0 σ9 b := ⟨hb.1, hb.2.1, (hoth _ _ (fun g hg => by simp)).trans hb.2.2.1, hb.2.2.2.of (fun f j hf _ => hoth _ _ (fun g hg => by simp))⟩
              refine t4_ends hx0 ht0 hg hrc hlen hv (by omega) hsr (hd.eqv hE9) hp9 hb9 ⟨?_, ?_, ?_⟩ (fun σ27 e27 hp27 hb27 x28 ex => ?_)
              · rw [e9, s1_k (by simp), e6, s1_k (by simp), e3, s1_at]
              · rw [e9, s1_k (by simp), e6, s1_at]
              · rw [e9, s1_at]
              · subst ex
                refine next σ27 (hE9.tr e27) hp27 ?_
                unfold gR
                rw [hok]
                exact hb27
            · subst ex
              refine skip ?_
              unfold okr
              cases g : lastb bb pre (sx at0 st F (lo at0 st F x0 t0 pre).1 (lo at0 st F x0 t0 pre).2 r) with
              | true => exact absurd g hw
              | false => simp
    · subst ex
      refine skip ?_
      unfold okr
      cases h : cy r with
      | true => exact absurd h hc
      | false => simp
theorem t4_all {K : List nKey} (hx0 : x0 < P) (ht0 : 0 ≤ t0 ∧ t0 ≤ 4319) (hg : goal < P) : ∀ d, T4 K R P cy at0 st bb F E goal x0 t0 kind (d + 1) (P_X4_tryRidersD K (d + 1)) := by
  intro d
  induction d with
  | zero =>
    intro pre σ b k hlen hv hd hp hb hk
    refine ⟨fun h => absurd h (by rw [w0 (by omega) (by omega)]; omega), fun _ => ⟨fun _ => ⟨R + 1, t4_13 hx0 ht0 hg (fun h => absurd rfl h) hlen hv R 0 σ b (by omega) hd hp hb (fun σ' e' h' b' => hk σ' e' h' ?_)⟩, fun h => absurd h (by rw [w0 (by omega) (by omega)]; omega)⟩⟩
    rw [← List.range_eq_range'] at b'
    exact b'
  | succ d ih =>
    intro pre σ b k hlen hv hd hp hb hk
    refine ⟨fun h => absurd h (by rw [w0 (by omega) (by omega)]; omega), fun _ => ⟨fun _ => ⟨R + 1, t4_13 hx0 ht0 hg (fun _ => ih) hlen hv R 0 σ b (by omega) hd hp hb (fun σ' e' h' b' => hk σ' e' h' ?_)⟩, fun h => absurd h (by rw [w0 (by omega) (by omega)]; omega)⟩⟩
    rw [← List.range_eq_range'] at b'
    exact b'
/-- the best chain of the class: the model's -/
theorem x4_findChain {K : List nKey} {σ : nS} {q : Nat} {k : Int → nS → Prop} (hx0 : x0 < P) (ht0 : 0 ≤ t0 ∧ t0 ≤ 4319) (hg : goal < P) (hd : Dat4 K R P cy at0 st bb F E kind σ) (h0 : σ.1 (8, q, 0) 0 = kind) (h2 : σ.1 (8, q, 0) 2 = (goal : Int)) (hk : ∀ (σ' : nS) (c : List Ky), c = List.foldl (min5 at0 st F x0 t0) [] (en R cy at0 st bb F goal x0 t0 (List.range P) 3 []) → Eqv σ σ' → Bst4 R P at0 st F x0 t0 σ' c → k (b2i (0 < c.length)) σ') : P_X4_findChain K σ q (x0 : Int) t0 k := by
  unfold P_X4_findChain
  intro σ1 e1 σ2 e2 σ3 e3
  have hE : Eqv σ σ3 := by rw [e3, e2, e1]; exact ((Eqv.s1 scr4).tr (Eqv.s1 scr4)).tr (Eqv.s1 scr4)
  refine t4_all hx0 ht0 hg 2 [] σ3 [] _ rfl (fun l h => by cases h) (hd.eqv hE) ⟨fun j l h => by simp [legs] at h, ?_, ?_⟩ ⟨fun l h => (by cases h), by simp, by rw [e3, s1_at]; rfl, fun j l h => by simp [legs] at h⟩ (fun σ4 e4 hp4 hb4 => ?_)
  · rw [e3, s1_k (by simp), e2, s1_i (by decide), e1, s1_at, h0]
  · rw [e3, s1_k (by simp), e2, s1_at, e1, s1_k (by simp), h2]
  · rw [best_eq hg] at hb4
    have hk2 := hk σ4 _ rfl (hE.tr e4) hb4
    generalize hc : List.foldl (min5 at0 st F x0 t0) [] (en R cy at0 st bb F goal x0 t0 (List.range P) 3 []) = c at *
    have hl := hb4.2.2.1
    have h3 := hb4.2.1
    rw [hl, w0 (x := (c.length : Int)) (by omega) (by omega)]
    refine ⟨fun h => ?_, fun h => ?_⟩
    · rw [b2i_f (by omega)] at hk2; exact hk2
    · rw [b2i_t (by omega)] at hk2; exact hk2
end T4T
