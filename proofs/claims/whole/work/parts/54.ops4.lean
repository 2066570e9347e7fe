/-! next -/
abbrev nth (σ : nS) (x r : Nat) : Int := dst σ r + dF σ r (dat σ r) x
abbrev ncd (σ : nS) (kind : Int) (x r : Nat) : Bool := dcy σ kind r && decide (dF σ r (dat σ r) x ≠ 1000000) && decide (nth σ x r ≤ dbb σ r)
def nst (σ : nS) (kind : Int) (x : Nat) (s : Int × Int) (r : Nat) : Int × Int := if ncd σ kind x r then (if s.1 = -1 ∨ w (σ.1 (12, 9, 0) r) < w (σ.1 (12, 9, 0) s.1.toNat) ∨ (w (σ.1 (12, 9, 0) r) = w (σ.1 (12, 9, 0) s.1.toNat) ∧ nth σ x r < s.2) then ((r : Int), nth σ x r) else s) else s
def nfo (σ : nS) (kind : Int) (x : Nat) : Int × Int → Nat → Nat → Int × Int
  | s, _, 0 => s
  | s, j, m + 1 => nfo σ kind x (nst σ kind x s j) (j + 1) m
theorem nfo_eqv {σ σ' : nS} (e : Eqv σ σ') (kind : Int) (x : Nat) : nfo σ' kind x = nfo σ kind x := by
  have hs : nst σ' kind x = nst σ kind x := by
    funext s r
    unfold nst ncd nth dcy dst dF dat dbb dE
    rw [e.k12 (k := 9) (by decide), e.k12 (k := 8) (by decide), e.k12 (k := 5) (by decide), e.k12 (k := 7) (by decide), e.k12 (k := 3) (by decide), e.k12 (k := 4) (by decide), e.k12 (k := 6) (by decide), e.k12 (k := 2) (by decide), e.k12 (k := 0) (by decide)]
  funext s j m
  induction m generalizing s j with
  | zero => rfl
  | succ m ih => unfold nfo; rw [hs, ih]
def nok (R : Nat) (s : Int × Int) : Prop := (s.1 = -1 ∨ (0 ≤ s.1 ∧ s.1 < R)) ∧ 0 ≤ s.2 ∧ s.2 ≤ 200000
theorem x5_next32 {K : List nKey} {P R C x : Nat} {kind : Int} {k : Int → nS → Prop} (hx : x < P) :
    ∀ (m j : Nat) (σ : nS) (s : Int × Int), IV K σ P R C → j + m = R → nok R s → (∀ σ', Eqv σ σ' → k (nfo σ kind x s j m).1 σ') → P_X5_next_L32 K k kind (x : Int) (m + 1) s.1 s.2 (j : Int) σ := by
  intro m
  induction m with
  | zero =>
    intro j σ s h hj hn hk
    have a1 := h.1.1.2.1
    have r6 := h.1.2.1.2.1
    unfold P_X5_next_L32
    rw [a1, w0 (x := (R : Int)) (by omega) (by omega), w0 (x := (j : Int)) (by omega) (by omega)]
    exact ⟨fun _ => hk σ Eqv.rf, fun h => absurd h (by omega)⟩
  | succ m ih =>
    intro j σ s h hj hn hk
    have a1 := h.1.1.2.1
    have r6 := h.1.2.1.2.1
    have p8 := h.1.2.1.1
    obtain ⟨⟨hcy, hfl⟩, ⟨hat, hat8⟩, ⟨hst, hf0, hf1, hu0, hu1⟩, ⟨hbb, hb0, hb1⟩, hctx, hF, hpl⟩ := (h.d5 kind).2.2.2.2 j (by omega)
    have FF := hF.1 (dat σ j) x (by omega) (by omega)
    have next : ∀ σ' (s' : Int × Int), Eqv σ σ' → s' = nst σ kind x s j → nok R s' → P_X5_next_L32 K k kind (x : Int) (m + 1) s'.1 s'.2 ((j : Int) + 1) σ' := fun σ' s' e es hn' => ih (j + 1) σ' s' (h.eqv e) (by omega) hn' (fun σ'' e'' => by
      have := hk σ'' (e.tr e'')
      unfold nfo at this
      rw [nfo_eqv e, es]
      exact this)
    unfold P_X5_next_L32
    simp only [Int.toNat_natCast]
    rw [a1, w0 (x := (R : Int)) (by omega) (by omega), w0 (x := (j : Int)) (by omega) (by omega), hat]
    refine ⟨fun h => absurd h (by omega), fun _ => ⟨by omega, by omega, x5_wayOf hF hctx p8 (by omega) hat8 hx hpl (fun σ4 o4 => ?_)⟩⟩
    have e4 := o4.eqv (scr19 (by omega))
    have h4 := h.eqv e4
    obtain ⟨⟨hcy', hfl'⟩, -⟩ := ((h.d5 kind).eqv e4).2.2.2.2 j (by omega)
    have q7 : σ4.1 (12, 7, 0) = σ.1 (12, 7, 0) := e4.k12 (by decide)
    have q3 : σ4.1 (12, 3, 0) = σ.1 (12, 3, 0) := e4.k12 (by decide)
    have q4 : σ4.1 (12, 4, 0) = σ.1 (12, 4, 0) := e4.k12 (by decide)
    have q9 : σ4.1 (12, 9, 0) = σ.1 (12, 9, 0) := e4.k12 (by decide)
    refine x5_mayCarry (by omega) hcy' hfl' (br01 (fun hc => ?_) (fun hc x9 ex => ?_))
    · rw [w0 (x := dF σ j (dat σ j) x) (by omega) (by omega)]
      refine ⟨fun hfin => ⟨by omega, by omega, by omega, by omega, fun x15 e15 => ⟨by omega, by omega, ?_⟩⟩, fun hinf x37 ex => ?_⟩
      · have e15' : x15 = nth σ x j := by
          rw [e15, q7, q3, mxI_mx (by omega) (by omega)]
        subst e15'
        have hd0 : 0 ≤ dst σ j ∧ dst σ j ≤ 4919 := by unfold dst mx; split <;> omega
        have hn0 : 0 ≤ nth σ x j ∧ nth σ x j ≤ 200000 := by unfold nth; omega
        rw [q4, q9, w0 (x := nth σ x j) (by omega) (by omega), w0 (x := σ.1 (12, 4, 0) j) (by omega) (by omega), w0 (x := s.1) (by have := hn.1; omega) (by have := hn.1; omega), w0 (x := s.2) (by have := hn.2; omega) (by have := hn.2; omega)]
        have okn : nok R ((j : Int), nth σ x j) := ⟨Or.inr ⟨by simp only; omega, by simp only; omega⟩, hn0.1, hn0.2⟩
        refine ⟨fun hlt x19 ex => ?_, fun hle => ?_⟩
        · subst ex
          refine next σ4 s e4 ?_ hn
          unfold nst ncd
          rw [decide_eq_false (show ¬ (nth σ x j ≤ dbb σ j) by unfold dbb; omega)]
          simp
        · have hcd : ncd σ kind x j = true := by
            unfold ncd
            rw [hc, decide_eq_true hfin, decide_eq_true (show nth σ x j ≤ dbb σ j by unfold dbb; omega)]
            rfl
          have hns : nst σ kind x s j = if s.1 = -1 ∨ w (σ.1 (12, 9, 0) j) < w (σ.1 (12, 9, 0) s.1.toNat) ∨ (w (σ.1 (12, 9, 0) j) = w (σ.1 (12, 9, 0) s.1.toNat) ∧ nth σ x j < s.2) then ((j : Int), nth σ x j) else s := by
            unfold nst; rw [if_pos hcd]
          refine ⟨fun hm1 x21 ex => ?_, fun hm1 => ?_⟩
          · subst ex
            exact next σ4 ((j : Int), nth σ x j) e4 (by rw [hns, if_pos (Or.inl hm1)]) okn
          · have hs1 := hn.1.resolve_left hm1
            refine ⟨by omega, by omega, by omega, by omega, fun hlt x27 ex => ?_, fun hle2 => ⟨by omega, by omega, by omega, by omega, fun hne x33 ex => ?_, fun he => ⟨fun hlt2 x35 ex => ?_, fun hle3 x36 ex => ?_⟩⟩⟩
            · subst ex
              refine next σ4 s e4 ?_ hn
              rw [hns, if_neg (by omega)]
            · subst ex
              exact next σ4 ((j : Int), nth σ x j) e4 (by rw [hns, if_pos (by omega)]) okn
            · subst ex
              exact next σ4 ((j : Int), nth σ x j) e4 (by rw [hns, if_pos (by omega)]) okn
            · subst ex
              refine next σ4 s e4 ?_ hn
              rw [hns, if_neg (by omega)]
      · subst ex
        refine next σ4 s e4 ?_ hn
        unfold nst ncd
        rw [decide_eq_false (show ¬ (dF σ j (dat σ j) x ≠ 1000000) from fun q => q hinf)]
        simp
    · subst ex
      refine next σ4 s e4 ?_ hn
      unfold nst ncd
      cases g : dcy σ kind j with
      | true => exact absurd g hc
      | false => simp
theorem x4_next28 {K : List nKey} {P R C x : Nat} {kind : Int} {k : Int → nS → Prop} {σ : nS} (hx : x < P) (h : IV K σ P R C) :
    ∀ (m j : Nat) (s : Int × Int) (v4 : Int), j + m = R → nok R s → (s.1 ≠ -1 → v4 = σ.1 (12, 9, 0) s.1.toNat) → k (nfo σ kind x s j m).1 σ → P_X4_next_L28 K k kind (x : Int) (m + 1) s.1 v4 s.2 (j : Int) σ := by
  obtain ⟨a3, a3', a3''⟩ := h.1.2.2.1
  have r6 := h.1.2.1.2.1
  have p8 := h.1.2.1.1
  intro m
  induction m with
  | zero =>
    intro j s v4 hj hn hv hk
    unfold P_X4_next_L28
    rw [a3', w0 (x := (R : Int)) (by omega) (by omega), w0 (x := (j : Int)) (by omega) (by omega)]
    exact ⟨fun _ => hk, fun h => absurd h (by omega)⟩
  | succ m ih =>
    intro j s v4 hj hn hv hk
    obtain ⟨⟨hs2, hK⟩, ⟨hcy, hfl⟩, ⟨hat, hat8⟩, hst, ⟨hbb, hb0, hb1⟩, hm, hF⟩ := (h.d4 kind).2.2.2.2 j (by omega)
    obtain ⟨-, ⟨b0, b1, b2, b3, b4, b6, b7, b8, b9, b10⟩, -⟩ := h.2.2.1 j (by omega)
    have FF := hF.1 (dat σ j) x (by omega) (by omega)
    unfold nfo at hk
    have skip : nst σ kind x s j = s → P_X4_next_L28 K k kind (x : Int) (m + 1) s.1 v4 s.2 ((j : Int) + 1) σ := fun e => ih (j + 1) s v4 (by omega) hn hv (by rw [e] at hk; exact hk)
    unfold P_X4_next_L28
    rw [a3', w0 (x := (R : Int)) (by omega) (by omega), w0 (x := (j : Int)) (by omega) (by omega)]
    refine ⟨fun h => absurd h (by omega), fun _ => x4_riderAt a3' r6 (by omega) hs2 hK ⟨(fun e => by cases e), fun q4 e => ?_⟩⟩
    cases e
    refine ⟨hK, x4_carries hcy hfl (br10 (fun hc => ?_) (fun hc x40 ex => ?_))⟩
    · refine x4_thereFrom a3 p8 hx hat hat8 hm hF hst ?_
      by_cases hinf : dF σ j (dat σ j) x = 1000000
      · rw [if_pos hinf]
        refine ⟨fun _ x12 ex => ?_, fun h => absurd (by decide) h⟩
        subst ex
        refine skip ?_
        unfold nst ncd
        rw [decide_eq_false (show ¬ (dF σ j (dat σ j) x ≠ 1000000) from fun q => q hinf)]
        simp
      · rw [if_neg hinf]
        have hd0 : 0 ≤ dst σ j ∧ dst σ j ≤ 4919 := by rw [← hst.1]; unfold mx; split <;> omega
        have hn0 : 0 ≤ nth σ x j ∧ nth σ x j ≤ 200000 := by unfold nth; omega
        show (w (nth σ x j) = -1 → _) ∧ (w (nth σ x j) ≠ -1 → _)
        rw [w0 (x := nth σ x j) (by omega) (by omega), hbb, w0 (x := dbb σ j) (by omega) (by omega), b8, w0 (x := s.1) (by have := hn.1; omega) (by have := hn.1; omega), w0 (x := s.2) (by have := hn.2; omega) (by have := hn.2; omega)]
        have okn : nok R ((j : Int), nth σ x j) := ⟨Or.inr ⟨by simp only; omega, by simp only; omega⟩, hn0.1, hn0.2⟩
        have upd : nst σ kind x s j = ((j : Int), nth σ x j) → ∀ v, v = σ.1 (12, 9, 0) j → P_X4_next_L28 K k kind (x : Int) (m + 1) (j : Int) v (nth σ x j) ((j : Int) + 1) σ := fun e v ev => ih (j + 1) ((j : Int), nth σ x j) v (by omega) okn (fun _ => by rw [ev]; simp) (by rw [e] at hk; exact hk)
        refine ⟨fun h => absurd h (by omega), fun _ => ⟨fun hle => ?_, fun hlt x39 ex => ?_⟩⟩
        · have hcd : ncd σ kind x j = true := by
            unfold ncd
            rw [hc, decide_eq_true hinf, decide_eq_true hle]
            rfl
          have hns : nst σ kind x s j = if s.1 = -1 ∨ w (σ.1 (12, 9, 0) j) < w (σ.1 (12, 9, 0) s.1.toNat) ∨ (w (σ.1 (12, 9, 0) j) = w (σ.1 (12, 9, 0) s.1.toNat) ∧ nth σ x j < s.2) then ((j : Int), nth σ x j) else s := by
            unfold nst; rw [if_pos hcd]
          refine ⟨fun hne => ⟨fun hm1 x16 e16 x17 ex => ?_, fun hm1 => ⟨fun hl x19 e19 x20 ex => ?_, fun hl => ⟨fun _ x22 ex => ?_, fun q => absurd rfl q⟩⟩⟩, fun he => ⟨fun hm1 x28 e28 x29 ex => ?_, fun hm1 => ⟨fun hl x31 e31 x32 ex => ?_, fun hl => ⟨fun q => absurd q (by decide), fun _ => ⟨fun hl2 x36 ex => ?_, fun hl2 x37 e37 x38 ex => ?_⟩⟩⟩⟩⟩
          · subst ex
            exact upd (by rw [hns, if_pos (Or.inl hm1)]) x16 e16
          · subst ex
            rw [hv hm1] at hl
            exact upd (by rw [hns, if_pos (by omega)]) x19 e19
          · subst ex
            rw [hv hm1] at hl hne
            exact skip (by rw [hns, if_neg (by omega)])
          · subst ex
            exact upd (by rw [hns, if_pos (Or.inl hm1)]) x28 e28
          · subst ex
            rw [hv hm1] at hl
            exact upd (by rw [hns, if_pos (by omega)]) x31 e31
          · subst ex
            rw [hv hm1] at hl he
            exact skip (by rw [hns, if_neg (by omega)])
          · subst ex
            rw [hv hm1] at hl he
            exact upd (by rw [hns, if_pos (by omega)]) x37 e37
        · subst ex
          refine skip ?_
          unfold nst ncd
          rw [decide_eq_false (show ¬ (nth σ x j ≤ dbb σ j) by omega)]
          simp
    · subst ex
      refine skip ?_
      unfold nst ncd
      cases g : dcy σ kind j with
      | true => exact absurd g hc
      | false => simp
theorem ok_next : OK_next Inv := by
  intro K σ v1 v2 hKC hKS h13 i1 i2 hI
  obtain ⟨P, R, C, h⟩ := hI
  obtain ⟨⟨a1, a1', a1''⟩, ⟨p8, r6, c40⟩, ⟨a3, a3', a3''⟩, a4, a7⟩ := id h.1
  have bad : ¬ ((0 ≤ v1 ∧ v1 ≤ 3) ∧ (0 ≤ v2 ∧ v2 < P)) → P_X5_next K σ v1 v2 (fun r2 σ2 => w (-1) = w r2 ∧ Inv K σ2) := fun hn => by
    intro σ1 e1
    have e : Eqv σ σ1 := by rw [e1]; exact Eqv.s1 scr24
    have hI1 : Inv K σ1 := ⟨P, R, C, h.eqv e⟩
    have b1 : σ1.1 (11, 0, 0) 1 = P := (e.k11 (by decide) (by decide)).trans a1
    refine x5_in (br01 (fun h1 => x5_isPlace i2 (by omega) (br10 (fun h2 => absurd ⟨?_, ?_⟩ hn) (fun _ => ⟨rfl, hI1⟩))) (fun _ => ⟨rfl, hI1⟩))
    · rw [w_of i1, w0 (x := 0) (by decide) (by decide), w0 (x := 3) (by decide) (by decide)] at h1; exact h1
    · rw [b1] at h2; exact h2
  unfold P_X4_next
  refine x4_isKind i1 (br01 (fun h1 => x4_isPlace i2 (by omega) (br10 (fun h2 => ⟨R + 1, ?_⟩) (fun h2 => bad (fun q => h2 (by omega))))) (fun h1 => bad (fun q => h1 q.1)))
  rw [a3] at h2
  obtain ⟨x, rfl⟩ : ∃ x : Nat, v2 = x := ⟨v2.toNat, by omega⟩
  refine x4_next28 (s := (-1, 0)) (x := x) (by omega) h R 0 0 (by omega) ⟨Or.inl rfl, by decide, by decide⟩ (fun q => absurd rfl q) ?_
  intro σ1 e1
  have e : Eqv σ σ1 := by rw [e1]; exact Eqv.s1 scr24
  have b1 : σ1.1 (11, 0, 0) 1 = P := (e.k11 (by decide) (by decide)).trans a1
  refine x5_in (br01 (fun _ => x5_isPlace i2 (by omega) (br10 (fun _ => ⟨R + 1, ?_⟩) (fun hn => absurd (by omega) hn))) (fun hn => absurd ?_ hn))
  · refine x5_next32 (s := (-1, 0)) (x := x) (by omega) R 0 σ1 (h.eqv e) (by omega) ⟨Or.inl rfl, by decide, by decide⟩ (fun σ' e' => ⟨?_, P, R, C, (h.eqv e).eqv e'⟩)
    rw [nfo_eqv e]
  · rw [w_of i1, w0 (x := 0) (by decide) (by decide), w0 (x := 3) (by decide) (by decide)]; exact h1
