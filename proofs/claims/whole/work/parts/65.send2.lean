set_option maxHeartbeats 2000000 in
/-- the model's send, where there is a chain -/
theorem x5_send_y {K K' : List nKey} {σ σA : nS} {P R C c : Nat} {ch : List Ky} {ls : List Lg} {k : Int → nS → Prop} (h : IV K σ P R C) (hc : c < C) (s0 : σ.1 (12, 16, 0) c = 0) (m0 : LM σ c = 0) (y12 : ∀ k, k < 19 → σA.1 (12, k, 0) = σ.1 (12, k, 0)) (y11 : ∀ i, i ≠ 24 → i ≠ 34 → σA.1 (11, 0, 0) i = σ.1 (11, 0, 0) i)
    (hch : ch = List.foldl (min5 (dat σ) (dst σ) (dF σ) (σ.1 (12, 12, 0) c).toNat (σ.1 (12, 14, 0) c)) [] (en R (dcy σ (σ.1 (12, 11, 0) c)) (dat σ) (dst σ) (dbb σ) (dF σ) (σ.1 (12, 13, 0) c).toNat (σ.1 (12, 12, 0) c).toNat (σ.1 (12, 14, 0) c) (List.range P) 3 [])) (hls : ls = legs (dat σ) (dst σ) (dF σ) (σ.1 (12, 12, 0) c).toNat (σ.1 (12, 14, 0) c) ch) (hlen : ls.length = ch.length) (hl : 0 < ch.length)
    (hchain : ∀ (j : Nat) (l l' : Lg), ls[j]? = some l → ls[j + 1]? = some l' → l'.2.1 = l.2.2.1) (hfirst : ∀ l, ls[0]? = some l → ((σ.1 (12, 12, 0) c).toNat : Int) = (l.2.1 : Int)) {ll : Lg} (hll : ls[ls.length - 1]? = some ll)
    (hk : ∀ σ1 σB0 σB σ25, σ1 = s1 σA (11, 0, 0) 24 0 → Eqv σ1 σB0 → XM σB0 c 0 ls ls.length σB → σ25 = s1 (s1 σB (12, 16, 0) c 1) (11, 0, 0) 21 (c : Int) → k ll.2.2.2.2 σ25) : P_X5_send K' σA (c : Int) k := by
  obtain ⟨⟨a1, a1', a1''⟩, ⟨p8, r6, c40⟩, -⟩ := id h.1
  obtain ⟨-, -, c12, c13, c14, -⟩ := h.2.2.2.1 c hc
  have hd5 := h.d5 (σ.1 (12, 11, 0) c)
  clear h
  have hx : ((σ.1 (12, 12, 0) c).toNat : Int) = σ.1 (12, 12, 0) c := by omega
  have hg : ((σ.1 (12, 13, 0) c).toNat : Int) = σ.1 (12, 13, 0) c := by omega
  have hxP : (σ.1 (12, 12, 0) c).toNat < P := by omega
  have hgP : (σ.1 (12, 13, 0) c).toNat < P := by omega
  intro σ1 q1
  have g12 : ∀ k, k < 19 → σ1.1 (12, k, 0) = σ.1 (12, k, 0) := fun k hk => by rw [q1, s1_k (by simp), y12 k hk]
  have g11 : ∀ i, i ≠ 24 → i ≠ 34 → σ1.1 (11, 0, 0) i = σ.1 (11, 0, 0) i := fun i h1 h2 => by rw [q1, s1_i h1, y11 i h1 h2]
  have d : σ1.1 (11, 0, 0) 20 = C := (g11 20 (by decide) (by decide)).trans a1''
  have hd1 := hd5.cong (g11 1 (by decide) (by decide)) (g11 12 (by decide) (by decide)) (fun k hk => g12 k (by omega))
  have hcI : iR (c : Int) := ⟨by omega, by omega⟩
  have c4 : c < 40 := by omega
  refine x5_isCall hcI (by omega) (br01 (fun _ => ⟨by omega, by omega, fun q2 => ?_, fun _ => ⟨by omega, by omega, by omega, by omega, by omega, by omega, by omega, by omega, ?_⟩⟩) (fun q => absurd (by omega) q))
  · simp only [Int.toNat_natCast] at q2
    rw [g12 16 (by decide), s0] at q2
    exact absurd q2 (by decide)
  simp only [Int.toNat_natCast]
  rw [g12 11 (by decide), g12 12 (by decide), g12 14 (by decide), g12 13 (by decide), ← hx, ← hg]
  clear y12 y11 hd5
  refine x5_findBest hxP c14 hgP hd1 (fun σB0 ch' hch' heB hbB => ?_)
  have hcc : ch' = ch := by rw [hch', hch]
  subst hcc
  obtain ⟨hB1, hB2, hB3, hB4⟩ := hbB
  rw [← hls] at hB1 hB4
  rw [← hlen] at hB2 hB3
  have w18 : σB0.1 (12, 18, 0) c = ((0 : Nat) : Int) := by rw [heB.k12 (k := 18) (by decide), g12 18 (by decide)]; exact m0
  have w12 : σB0.1 (12, 12, 0) = σ.1 (12, 12, 0) := by rw [heB.k12 (k := 12) (by decide), g12 12 (by decide)]
  refine br10 (fun _ => ⟨by omega, by omega, ?_⟩) (fun z => absurd hl z)
  rw [w12, ← hx]
  have l1 : 1 ≤ ls.length := by omega
  clear g12 g11 hd1 hch hch' hls
  refine ⟨ls.length + 1, x5_ride5 (σ0 := σB0) (R := R) (P := P) (m := 0) (ls := ls) c4 hB2 (by omega) hB1 r6 hB3 hB4 (fun σB hXM => ?_) hchain ls.length 0 _ σB0 (by omega) hfirst (XM_0 w18)⟩
  refine ⟨by omega, by omega, fun σ22 e22 σ25 e25 => ?_⟩
  have hk' := hk σ1 σB0 σB σ25 q1 heB hXM (by rw [e25, e22])
  obtain ⟨m1, m2, ⟨m3, m3'⟩, m4, m5⟩ := hXM
  have f25 : ∀ κ : nKey, κ ≠ (11, 0, 0) → κ ≠ (12, 16, 0) → σ25.1 κ = σB.1 κ := fun κ a b => by rw [e25, s1_k a, e22, s1_k b]
  refine x5_endOf (m := ls.length) c4 (by unfold LM; rw [f25 _ (by simp) (by simp), m3]; omega) l1 (by omega) ?_
  have := (m5 (ls.length - 1) ll (by omega) hll).2.2.2.2.1
  unfold ML at this ⊢
  rw [f25 _ (by simp) (by simp)]
  rw [show 0 + (ls.length - 1) = ls.length - 1 by omega] at this
  rw [this]
  exact hk'
set_option maxHeartbeats 2000000 in
/-- the model's send, where there is none -/
theorem x5_send_n {K : List nKey} {σ σ4 : nS} {P R C c : Nat} {ch : List Ky} (h : IV K σ P R C) (hc : c < C) (s0 : σ.1 (12, 16, 0) c = 0) (he : Eqv σ σ4)
    (hch : ch = List.foldl (min5 (dat σ) (dst σ) (dF σ) (σ.1 (12, 12, 0) c).toNat (σ.1 (12, 14, 0) c)) [] (en R (dcy σ (σ.1 (12, 11, 0) c)) (dat σ) (dst σ) (dbb σ) (dF σ) (σ.1 (12, 13, 0) c).toNat (σ.1 (12, 12, 0) c).toNat (σ.1 (12, 14, 0) c) (List.range P) 3 [])) (hl : ¬ 0 < ch.length) : P_X5_send K σ4 (c : Int) (fun r2 σ2 => w (-1) = w r2 ∧ Inv K σ2) := by
  obtain ⟨⟨a1, a1', a1''⟩, ⟨p8, r6, c40⟩, -⟩ := id h.1
  obtain ⟨-, -, c12, c13, c14, -⟩ := h.2.2.2.1 c hc
  have hd5 := h.d5 (σ.1 (12, 11, 0) c)
  have hx : ((σ.1 (12, 12, 0) c).toNat : Int) = σ.1 (12, 12, 0) c := by omega
  have hg : ((σ.1 (12, 13, 0) c).toNat : Int) = σ.1 (12, 13, 0) c := by omega
  have hxP : (σ.1 (12, 12, 0) c).toNat < P := by omega
  have hgP : (σ.1 (12, 13, 0) c).toNat < P := by omega
  intro σ1 q1
  have e : Eqv σ σ1 := he.tr (by rw [q1]; exact Eqv.s1 scr24)
  have d : σ1.1 (11, 0, 0) 20 = C := (e.k11 (by decide) (by decide)).trans a1''
  have hcI : iR (c : Int) := ⟨by omega, by omega⟩
  have c4 : c < 40 := by omega
  have hI := h.eqv e
  clear h
  refine x5_isCall hcI (by omega) (br01 (fun _ => ⟨by omega, by omega, fun q2 => ?_, fun _ => ⟨by omega, by omega, by omega, by omega, by omega, by omega, by omega, by omega, ?_⟩⟩) (fun q => absurd (by omega) q))
  · simp only [Int.toNat_natCast] at q2
    rw [e.k12 (k := 16) (by decide), s0] at q2
    exact absurd q2 (by decide)
  simp only [Int.toNat_natCast]
  rw [e.k12 (k := 11) (by decide), e.k12 (k := 12) (by decide), e.k12 (k := 14) (by decide), e.k12 (k := 13) (by decide), ← hx, ← hg]
  refine x5_findBest hxP c14 hgP (hd5.eqv e) (fun σ3 ch' hch' he' hb' => ?_)
  have hcc : ch' = ch := by rw [hch', hch]
  subst hcc
  exact br10 (fun z => absurd z hl) (fun _ => ⟨trivial, P, R, C, hI.eqv he'⟩)
set_option maxHeartbeats 2000000 in
/-- the class's send, where there is a chain, from behind the search on -/
theorem x4_send_y {K : List nKey} {σ σ4 : nS} {P R C c : Nat} {ls : List Lg} {k : Int → nS → List nKey → Prop} (h : IV K σ P R C) (hc : c < C) (m0 : LM σ c = 0) (he : Eqv σ σ4) (hl : 1 ≤ ls.length) (hb1 : vll R P ls) (hb2 : ls.length ≤ 3) (hb3 : σ4.1 (4, 1, 0) 5 = (ls.length : Int)) (hb4 : Ls4 σ4 1 ls) {ll : Lg} (hll : ls[ls.length - 1]? = some ll)
    (hk : ∀ σ9 σA K', σ9 = s1 (s1 σ4 (8, c, 0) 7 1) (0, 0, 0) 9 (c : Int) → XR K σ9 R c 0 ls ls.length K' σA → k ll.2.2.2.2 σA K') :
    ∀ σ8 : nS, σ8 = s1 σ4 (8, c, 0) 7 1 → ∀ σ9 : nS, σ9 = s1 σ8 (0, 0, 0) 9 (c : Int) → P_X4_rideChosen K σ9 c (fun σ10 K2 => ∀ K : List nKey, K = K2 → P_X2_lastEnd K σ10 c (fun r12 σ11 => k r12 σ11 K)) := by
  obtain ⟨hA, hB, hR, hC, hKI, -⟩ := id h
  obtain ⟨-, ⟨p8, r6, c40⟩, ⟨a3, a3', a3''⟩, -⟩ := hA
  obtain ⟨m, e1, e2, e3, -⟩ := h.call hc
  have hm : m = 0 := by omega
  subst hm
  clear h
  intro σ8 e8 σ9 e9
  have u9 : ∀ κ : nKey, κ ≠ (8, c, 0) → κ ≠ (0, 0, 0) → σ9.1 κ = σ4.1 κ := fun κ a b => by rw [e9, s1_k b, e8, s1_k a]
  have s9 : σ9.2 = σ.2 := by rw [e9, s1_2, e8, s1_2, he.1]
  have z06 : σ9.1 (0, 0, 0) 6 = R := by rw [e9, s1_i (by decide), e8, s1_k (by simp), he.kk (by simp)]; exact a3'
  have z86 : σ9.1 (8, c, 0) 6 = ((0 : Nat) : Int) := by rw [e9, s1_k (by simp), e8, s1_i (by decide), he.kk (by simp)]; exact e3
  refine ⟨ls.length + 1, x4_ride2 (K0 := K) (σ0 := σ9) (R := R) (P := P) (m := 0) (ls := ls) hb2 (by omega) hb1 r6 z06 (fun r hr => by rw [s9]; exact (hR r hr).1) (by rw [u9 _ (by simp) (by simp)]; exact hb3) (hb4.of (fun f j _ _ => by rw [u9 _ (by simp) (by simp)])) (fun σA K' hXR => ?_) ls.length 0 σ9 K (by omega) (XR_0 z86 (by unfold CLs; rw [s9]; exact hKI.1))⟩
  intro K'' eK''
  subst eK''
  have hk' := hk σ9 σA K'' (by rw [e9, e8]) hXR
  obtain ⟨x1, x2, ⟨x3, x3'⟩, x4, x5, -⟩ := hXR
  obtain ⟨nn, n1, n2, n3, n4⟩ := x5 (ls.length - 1) ll (by omega) hll
  refine x2_lastEnd (m := ls.length) (n := nn) (by rw [x3]; omega) hl (by omega) (by rw [show ls.length - 1 = 0 + (ls.length - 1) by omega]; exact n1) n2 ?_
  have hend : σA.1 (10, nn, 0) 6 = ll.2.2.2.2 := by rw [n4]; rfl
  rw [hend]
  exact hk'
set_option maxHeartbeats 2000000 in
theorem ok_send : OK_send Inv := by
  intro K σ v1 hKC hKS h13 i1 hI
  obtain ⟨P, R, C, h⟩ := hI
  obtain ⟨⟨a1, a1', a1''⟩, ⟨p8, r6, c40⟩, -⟩ := id h.1
  unfold P_X4_send
  refine h.req i1 (fun hn => ⟨fun _ => ?_, fun q e => by cases e⟩) (fun c e hc hK => ⟨(fun e => by cases e), fun q e2 => ?_⟩)
  · intro σ1 q1
    have e : Eqv σ σ1 := by rw [q1]; exact Eqv.s1 scr24
    have d : σ1.1 (11, 0, 0) 20 = C := (e.k11 (by decide) (by decide)).trans a1''
    exact x5_isCall i1 (by omega) (br01 (fun q => absurd (by omega) hn) (fun _ => ⟨rfl, P, R, C, h.eqv e⟩))
  cases e2
  subst e
  refine ⟨hK, ?_⟩
  obtain ⟨m, e1, e2, e3, e4, e5⟩ := h.call hc
  obtain ⟨-, ⟨b0, b1, b2, b3, b4, b6, b7, b8⟩, c12, c13, c14, c15, -⟩ := h.2.2.2.1 c hc
  have hx : ((σ.1 (12, 12, 0) c).toNat : Int) = σ.1 (12, 12, 0) c := by omega
  have hg : ((σ.1 (12, 13, 0) c).toNat : Int) = σ.1 (12, 13, 0) c := by omega
  rw [b7, b1, b3]
  rcases e5 with ⟨s0, m0⟩ | ⟨s0, m1⟩
  rotate_left
  · rw [if_neg (by omega)]
    refine ⟨fun _ => ?_, fun q => absurd q (by decide)⟩
    intro σ2 q2
    have e : Eqv σ σ2 := by rw [q2]; exact Eqv.s1 scr24
    have d : σ2.1 (11, 0, 0) 20 = C := (e.k11 (by decide) (by decide)).trans a1''
    refine x5_isCall i1 (by omega) (br01 (fun q => ⟨by omega, by omega, fun _ => ⟨rfl, P, R, C, h.eqv e⟩, fun q2 => ?_⟩) (fun q => absurd (by omega) q))
    simp only [Int.toNat_natCast] at q2
    rw [e.k12 (k := 16) (by decide), w0 (x := σ.1 (12, 16, 0) c) (by omega) (by omega)] at q2
    omega
  subst m0
  have hM0 : LM σ c = 0 := e1
  rw [if_pos s0]
  refine ⟨fun q => absurd (by decide) q, fun _ => ?_⟩
  rw [← hx]
  have hxP : (σ.1 (12, 12, 0) c).toNat < P := by omega
  have hgP : (σ.1 (12, 13, 0) c).toNat < P := by omega
  refine x4_findChain hxP c14 hgP (h.d4 (σ.1 (12, 11, 0) c)) b0 (by rw [b2, hg]) (fun σ4 ch hch he hb => ?_)
  obtain ⟨hb1, hb2, hb3, hb4⟩ := hb
  refine br10 (fun hl => ?_) (fun hl => x5_send_n h hc s0 he hch hl)
  obtain ⟨ls, hls, hlen, ⟨ll, hll⟩, hcy, hchain, hfirst⟩ := ch_legs hch hl
  rw [← hls] at hb1 hb4
  rw [← hlen] at hb2 hb3
  have hl1 : 1 ≤ ls.length := by omega
  refine x4_send_y h hc hM0 he hl1 hb1 hb2 hb3 hb4 hll (fun σ9 σA K' e9 hXR => ?_)
  have y12 : ∀ k, k < 19 → σA.1 (12, k, 0) = σ.1 (12, k, 0) := fun k hk => by rw [hXR.1 _ (by simp) (by simp) (Or.inr (by simp)), e9, s1_k (by simp), s1_k (by simp), he.k12 hk]
  have y11 : ∀ i, i ≠ 24 → i ≠ 34 → σA.1 (11, 0, 0) i = σ.1 (11, 0, 0) i := fun i h1 h2 => by rw [hXR.1 _ (by simp) (by simp) (Or.inr (by simp)), e9, s1_k (by simp), s1_k (by simp), he.k11 h1 h2]
  refine x5_send_y h hc s0 hM0 y12 y11 hch hls hlen hl hchain hfirst hll (fun σ1 σB0 σB σ25 q1 heB hXM e25 => ⟨rfl, P, R, C, ?_⟩)
  refine ride_IV hc (sd_IX h hc s0) hb1 hl1 (by omega) (by omega) (fun l hl' => ?_) (Or.inl rfl) (sd_RF he e9 hXR y12 y11 q1 heB hXM e25)
  rw [sdS_12 (by decide)]
  exact (of_decide_eq_true (hcy l hl')).1
