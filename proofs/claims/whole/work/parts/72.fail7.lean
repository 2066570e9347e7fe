/-! fail: the whole -/
theorem fail_no {K : List nKey} {σ : nS} {P R C : Nat} {v1 v2 v3 : Int} (h : IV K σ P R C) (i1 : iR v1) (i2 : iR v2) (i3 : iR v3) (hn : ¬ Good σ C v1 v2 v3) : P_X5_fail K σ v1 v2 v3 (fun r2 σ2 => w (-1) = w r2 ∧ Inv K σ2) :=
  x5_failT h i1 i2 i3 (fun _ _ => rfl) (fun _ _ _ => rfl) (fun σ1 q1 _ => ⟨rfl, P, R, C, h.eqv (by rw [q1]; exact Eqv.s1 scr24)⟩) (fun σ1 q1 hg => absurd hg hn)
set_option maxHeartbeats 2000000 in
/-- where there is no chain -/
theorem fail_lost {K : List nKey} {σ σ' σ13 σ19 : nS} {P R C c m i n : Nat} {v : Int} {ch : List Ky} (h : IV K σ P R C) (hs : IV K (fS σ c m i n v) P R C) (hg : Good σ C (c : Int) (i : Int) v) (i1 : iR (c : Int)) (i2 : iR (i : Int)) (i3 : iR v) (hc : c < C) (hm : LM σ c = m) (hi : i < m) (n3 : LI σ P R c i n) (hv : 0 ≤ v ∧ v ≤ 4319) (s2 : σ'.2 = σ.2) (slt : ∀ κ : nKey, κ.1 < 11 → σ'.1 κ = (fS σ c m i n v).1 κ) (sge : ∀ κ : nKey, 11 ≤ κ.1 → σ'.1 κ = σ.1 κ) (he : Eqv σ' σ13) (e19 : σ19 = s1 σ13 (8, c, 0) 8 1)
    (hch : ch = List.foldl (min5 (dat (fS σ c m i n v)) (dst (fS σ c m i n v)) (dF (fS σ c m i n v)) (ML σ c i 1).toNat v) [] (en R (dcy (fS σ c m i n v) (σ.1 (12, 11, 0) c)) (dat (fS σ c m i n v)) (dst (fS σ c m i n v)) (dbb (fS σ c m i n v)) (dF (fS σ c m i n v)) (σ.1 (12, 13, 0) c).toNat (ML σ c i 1).toNat v (List.range P) 3 [])) (hl : ¬ 0 < ch.length) : P_X5_fail K σ19 (c : Int) (i : Int) v (fun r2 σ2 => w (-2) = w r2 ∧ Inv K σ2) := by
  have y12 : ∀ k, k < 19 → σ19.1 (12, k, 0) = σ.1 (12, k, 0) := fun k hk => by rw [e19, s1_k (by simp), he.k12 hk, sge _ (by simp)]
  have y11 : ∀ j, j ≠ 24 → j ≠ 34 → σ19.1 (11, 0, 0) j = σ.1 (11, 0, 0) j := fun j j1 j2 => by rw [e19, s1_k (by simp), he.k11 j1 j2, sge _ (by simp)]
  refine x5_failT h i1 i2 i3 y12 y11 (fun _ _ hng => absurd hg hng) (fun σ1 q1 _ => ?_)
  have a12 : ∀ k, k < 19 → σ1.1 (12, k, 0) = σ.1 (12, k, 0) := fun k hk => by rw [q1, s1_k (by simp), y12 k hk]
  have a11 : ∀ j, j ≠ 24 → j ≠ 34 → σ1.1 (11, 0, 0) j = σ.1 (11, 0, 0) j := fun j j1 j2 => by rw [q1, s1_i j1, y11 j j1 j2]
  rw [Int.toNat_natCast, hm, show (m : Int) - 1 = ((m - 1 - 0 : Nat) : Int) by omega]
  refine ⟨m - 1 - i + 1, x5_drop130 h hc hm hi (a12 17 (by decide)) (fun σd hMC => x5_failF h hs hc hm hi n3 hv a12 a11 hMC hch (fun hl' => absurd hl' hl) (fun _ σ31 σB0 hFM heB => ⟨rfl, P, R, C, ?_⟩)) (m - 1 - i) 0 σ1 (by omega) ⟨rfl, fun _ _ _ _ _ => rfl, fun r => ⟨?_, ?_, ?_, ?_⟩⟩⟩
  · rw [a12 6 (by decide)]; rfl
  · rw [a12 7 (by decide)]; rfl
  · rw [a12 9 (by decide)]; rfl
  · rw [a12 10 (by decide)]; rfl
  · exact (lo_IV hs hc (by rw [fS_LMc]; omega)).eqv (lo_eqv s2 slt sge he e19 q1 hFM heB)
set_option maxHeartbeats 2000000 in
/-- where there is one -/
theorem fail_ride {K : List nKey} {σ σ' σ13 : nS} {P R C c m i n : Nat} {v : Int} {ch : List Ky} (h : IV K σ P R C) (hs : IV K (fS σ c m i n v) P R C) (hg : Good σ C (c : Int) (i : Int) v) (i1 : iR (c : Int)) (i2 : iR (i : Int)) (i3 : iR v) (hc : c < C) (hm : LM σ c = m) (hi : i < m) (n3 : LI σ P R c i n) (hv : 0 ≤ v ∧ v ≤ 4319) (hlat : σ.1 (11, 0, 0) 21 = (c : Int)) (h0 : σ.1 (12, 8, 0) (ML σ c i 0).toNat = 0) (s2 : σ'.2 = σ.2) (slt : ∀ κ : nKey, κ.1 < 11 → σ'.1 κ = (fS σ c m i n v).1 κ) (sge : ∀ κ : nKey, 11 ≤ κ.1 → σ'.1 κ = σ.1 κ) (he : Eqv σ' σ13)
    (hch : ch = List.foldl (min5 (dat (fS σ c m i n v)) (dst (fS σ c m i n v)) (dF (fS σ c m i n v)) (ML σ c i 1).toNat v) [] (en R (dcy (fS σ c m i n v) (σ.1 (12, 11, 0) c)) (dat (fS σ c m i n v)) (dst (fS σ c m i n v)) (dbb (fS σ c m i n v)) (dF (fS σ c m i n v)) (σ.1 (12, 13, 0) c).toNat (ML σ c i 1).toNat v (List.range P) 3 [])) (hl : 0 < ch.length) (hb : Bst4 R P (dat (fS σ c m i n v)) (dst (fS σ c m i n v)) (dF (fS σ c m i n v)) (ML σ c i 1).toNat v σ13 ch) :
    P_X4_rideChosen K σ13 c (fun σ10 K2 => ∀ K : List nKey, K = K2 → P_X2_lastEnd K σ10 c (fun r12 σ11 => P_X5_fail K σ11 (c : Int) (i : Int) v (fun r2 σ2 => w r12 = w r2 ∧ Inv K σ2))) := by
  obtain ⟨ls, hls, hlen, ⟨ll, hll⟩, hcy, hchain, hfirst⟩ := ch_legs hch hl
  obtain ⟨hb1, hb2, hb3, hb4⟩ := hb
  rw [← hls] at hb1 hb4
  rw [← hlen] at hb2 hb3
  have hl1 : 1 ≤ ls.length := by omega
  obtain ⟨⟨a1, a1', a1''⟩, ⟨p8, r6, c40⟩, ⟨a3, a3', a3''⟩, -⟩ := id h.1
  have hT := (h.2.2.2.2.2.2.2.2 c hlat).1
  have hrR : (ML σ c i 0).toNat < R := by have := n3.2.1; omega
  have hnF : nF4 σ R + 1 ≤ nF4 (fS σ c m i n v) R := fS_nF hrR h0
  have hcy8 : ∀ l ∈ ls, (fS σ c m i n v).1 (12, 8, 0) l.1 = 0 := fun l hl' => (of_decide_eq_true (hcy l hl')).1
  have hn5 : nF4 (fS σ c m i n v) R ≤ R - 1 := by
    have hlm := List.mem_of_getElem? hll
    refine cu_miss R ll.1 (hb1 ll hlm).1 (decide_eq_false ?_)
    rw [hcy8 ll hlm]; decide
  have hmn : i + 1 + ls.length ≤ 18 := by omega
  have hIX : IX K (fS σ c m i n v) P R C c (i + 1) := hs.IX hc (by rw [fS_LMc]; rfl) (by omega) (by rw [fS_11]; exact hlat)
  have h06 : σ13.1 (0, 0, 0) 6 = R := by rw [he.kk (by simp), slt _ (by simp), fS_k (fun r => by simp) (by simp) (by simp) (fun k _ _ => by simp)]; exact a3'
  have h86 : σ13.1 (8, c, 0) 6 = ((i + 1 : Nat) : Int) := by rw [he.kk (by simp), slt _ (by simp), fS_8, if_pos rfl]; rfl
  have hcl : CLs K σ13 := by
    have := h.2.2.2.2.1.1
    unfold CLs at this ⊢
    rw [he.1, s2]; exact this
  have hrid : ∀ r, r < R → σ13.2 (2, 0, 0) r = some r ∧ (6, r, 0) ∈ K := fun r hr => by rw [he.1, s2]; exact (h.2.2.1 r hr).1
  refine x4_rideE (k := fun r12 σ11 K => P_X5_fail K σ11 (c : Int) (i : Int) v (fun r2 σ2 => w r12 = w r2 ∧ Inv K σ2)) r6 h06 hrid h86 hcl hl1 hmn hb1 hb2 hb3 hb4 hll (fun σA K' hXR => ?_)
  clear h06 h86 hcl hrid hb3 hb4
  have y12 : ∀ k, k < 19 → σA.1 (12, k, 0) = σ.1 (12, k, 0) := fun k hk => by rw [hXR.1 _ (by simp) (by simp) (Or.inr (by simp)), he.k12 hk, sge _ (by simp)]
  have y11 : ∀ j, j ≠ 24 → j ≠ 34 → σA.1 (11, 0, 0) j = σ.1 (11, 0, 0) j := fun j j1 j2 => by rw [hXR.1 _ (by simp) (by simp) (Or.inr (by simp)), he.k11 j1 j2, sge _ (by simp)]
  refine x5_failT h i1 i2 i3 y12 y11 (fun _ _ hng => absurd hg hng) (fun σ1 q1 _ => ?_)
  have a12 : ∀ k, k < 19 → σ1.1 (12, k, 0) = σ.1 (12, k, 0) := fun k hk => by rw [q1, s1_k (by simp), y12 k hk]
  have a11 : ∀ j, j ≠ 24 → j ≠ 34 → σ1.1 (11, 0, 0) j = σ.1 (11, 0, 0) j := fun j j1 j2 => by rw [q1, s1_i j1, y11 j j1 j2]
  rw [Int.toNat_natCast, hm, show (m : Int) - 1 = ((m - 1 - 0 : Nat) : Int) by omega]
  refine ⟨m - 1 - i + 1, x5_drop130 h hc hm hi (a12 17 (by decide)) (fun σd hMC => x5_failF h hs hc hm hi n3 hv a12 a11 hMC hch (fun _ σ31 σB0 hFM heB hB => ?_) (fun hl' => absurd hl hl')) (m - 1 - i) 0 σ1 (by omega) ⟨rfl, fun _ _ _ _ _ => rfl, fun r => ⟨?_, ?_, ?_, ?_⟩⟩⟩
  · obtain ⟨hB1, hB2, hB3, hB4⟩ := hB
    rw [← hls] at hB1 hB4
    rw [← hlen] at hB2 hB3
    have h18 : σB0.1 (12, 18, 0) c = ((i + 1 : Nat) : Int) := by rw [heB.k12 (by decide), hFM.2.2 18 (by decide), fS_cM, if_pos rfl]; rfl
    refine x5_rideE (by omega) r6 hl1 hmn hB1 hB2 hB3 hB4 h18 hchain hfirst hll (fun σB hXM => ⟨rfl, P, R, C, ?_⟩)
    refine ride_IV hc hIX hb1 hl1 hmn (by omega) hcy8 (Or.inr ?_) (fS_RF s2 slt he hXR y11 q1 hFM heB hXM)
    rw [show i + 1 - 1 = i by omega, fS_MLi (by decide), if_neg (by decide), if_neg (by decide), if_pos rfl]
  · rw [a12 6 (by decide)]; rfl
  · rw [a12 7 (by decide)]; rfl
  · rw [a12 9 (by decide)]; rfl
  · rw [a12 10 (by decide)]; rfl
set_option maxHeartbeats 2000000 in
theorem ok_fail : OK_fail Inv := by
  intro K σ v1 v2 v3 hKC hKS h13 i1 i2 i3 hI
  obtain ⟨P, R, C, h⟩ := hI
  obtain ⟨⟨a1, a1', a1''⟩, ⟨p8, r6, c40⟩, -, -, a7⟩ := id h.1
  unfold P_X4_fail
  refine h.req i1 (fun hn => ⟨fun _ => fail_no h i1 i2 i3 (fun z => hn z.1), fun q e => by cases e⟩) (fun c e hc hK => ⟨(fun e => by cases e), fun q e2 => ?_⟩)
  cases e2
  subst e
  refine ⟨hK, ?_⟩
  obtain ⟨m, e1, e2, e3, e4, e5⟩ := h.call hc
  rw [a7.1, w_of i1, w0 (x := σ.1 (11, 0, 0) 21) (by omega) (by omega)]
  refine ⟨fun q => fail_no h i1 i2 i3 (fun z => q z.2.1), fun ql => ?_⟩
  have hlat : σ.1 (11, 0, 0) 21 = (c : Int) := ql.symm
  refine x4_mayFail h hc e1 i2 i3 (fun i ei hi q3 q4 hu => ⟨fun _ => ?_, fun q => absurd q (by decide)⟩) (fun hn => ⟨fun q => absurd (by decide) q, fun _ => fail_no h i1 i2 i3 (fun z => hn ?_)⟩)
  rotate_left
  · obtain ⟨z1, z2, z3, z4, z5⟩ := z
    simp only [Int.toNat_natCast] at z3 z4 z5
    rw [e1] at z3 z5
    simp only [Int.toNat_natCast] at z5
    exact ⟨z3.1, z3.2, z4.1, z4.2, z5⟩
  subst ei
  have hg : Good σ C (c : Int) (i : Int) v3 := by
    unfold Good
    simp only [Int.toNat_natCast]
    rw [e1, Int.toNat_natCast]
    exact ⟨⟨by omega, by omega⟩, ql, ⟨by omega, by omega⟩, ⟨q3, q4⟩, hu⟩
  obtain ⟨n, n1, n2, n3⟩ := e4 i hi
  have n34 := n3.2.2.2.1
  have n31 := n3.2.2.1
  have hv : 0 ≤ v3 ∧ v3 ≤ 4319 := by omega
  have h0 : σ.1 (12, 8, 0) (ML σ c i 0).toNat = 0 := (h.2.2.2.2.2.2.2.2 c hlat).2 i (by omega) (fun j h1 h2 => hu j h1 (by omega))
  have hs : IV K (fS σ c m i n v3) P R C := fS_IV h hc e1 hi n1 n3 ⟨q3, q4⟩ hlat h0
  obtain ⟨-, ⟨b0, b1, b2, b3, b4, b6, b7, b8⟩, c12, c13, -⟩ := h.2.2.2.1 c hc
  have hx : ((ML σ c i 1).toNat : Int) = ML σ c i 1 := by omega
  have hgl : ((σ.1 (12, 13, 0) c).toNat : Int) = σ.1 (12, 13, 0) c := by omega
  have hxP : (ML σ c i 1).toNat < P := by omega
  have hgP : (σ.1 (12, 13, 0) c).toNat < P := by omega
  refine x2_legAt (by omega) (by omega) n1 n2 ⟨(fun e => by cases e), fun q10 e => ?_⟩
  cases e
  refine ⟨n2, x4_failC h hc e1 hi n1 n2 n3 (fun σ' s2 slt sge => ?_)⟩
  have f1 : σ'.1 (10, n, 0) 1 = ((ML σ c i 1).toNat : Int) := by rw [slt _ (by simp), fS_10, if_neg (by decide), if_neg (by decide), if_neg (by decide), hx]; exact n3.1.2.1
  have f80 : σ'.1 (8, c, 0) 0 = σ.1 (12, 11, 0) c := by rw [slt _ (by simp), fS_8, if_neg (by decide)]; exact b0
  have f82 : σ'.1 (8, c, 0) 2 = ((σ.1 (12, 13, 0) c).toNat : Int) := by rw [slt _ (by simp), fS_8, if_neg (by decide), hgl]; exact b2
  rw [f1]
  refine x4_findChain hxP hv hgP ((hs.d4 (σ.1 (12, 11, 0) c)).cong (by rw [s2]; rfl) slt) f80 f82 (fun σ13 ch hch he hb => ?_)
  refine br10 (fun hl => fail_ride h hs hg i1 i2 i3 hc e1 hi n3 hv hlat h0 s2 slt sge he hch hl hb) (fun hl σ19 e19 => fail_lost h hs hg i1 i2 i3 hc e1 hi n3 hv s2 slt sge he e19 hch hl)
