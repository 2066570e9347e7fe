def nF (l : List Int) : Nat → Int := fun k => l.getD k 0
def mkLeg (σ : nS) (n : Nat) (v1 v2 v3 v4 v5 v6 v7 : Int) : nS := (kup σ.1 (10, n, 0) (nF [v1, v2, v4, v6, v7, v3, v5, 0]), σ.2)
def mkReq (σ : nS) (n : Nat) (v1 v2 v3 v4 v5 : Int) : nS := (kup σ.1 (8, n, 0) (nF [v1, v2, v3, v4, v5, 0, 0, 0, 0]), kup σ.2 (9, n, 0) (fun _ => none))
def mkRid (σ : nS) (n : Nat) (v1 v2 v3 v4 v5 : Int) : nS := (kup (kup σ.1 (6, n, 0) (nF [v1, v2, v3, v4, v5, 0, v1, v3, 0, 0, 0])) (7, n, 0) (fun _ => 0), σ.2)
theorem va_P2 {D : va_G} {q b : Nat} {e1 e2 : va_E} {H : Heap} (h : va_P D vwCl [(q, e1), (b, e2)] H) : va_at D vwCl (q, e1) H ∧ va_at D vwCl (b, e2) H := ⟨h 0 _ rfl, h 1 _ rfl⟩
/-- the keyed cells behind a constructor's call: what it may write is the new cell and what is newer -/
theorem zk_keep {D : va_G} {A : Nat → Prop} {K : List nKey} {ad : nKey → Nat} {ct : nKey → va_E} {H H1 : Heap} {q : Nat} {e : va_E} (hP : va_P D vwCl (xl K ad ct ++ [(q, e)]) H) (hD : va_D A (xl K ad ct ++ [(q, e)])) (hk : ∀ x : Nat, x < H.size → ¬ va_A [(q, e)] H.size x → H1[x]? = H[x]?) : XW D A K ad ct H1 ∧ (∀ κ, κ ∈ K → ad κ ≠ q) ∧ (∀ κ, κ ∈ K → ad κ < H.size) := by
  have hW := XW.pre hP hD
  have hlen : (xl K ad ct ++ [(q, e)])[K.length]? = some (q, e) := by
    rw [List.getElem?_append_right (by unfold xl; rw [List.length_map]; exact Nat.le_refl _)]
    unfold xl
    rw [List.length_map, Nat.sub_self]
    rfl
  have hne : ∀ κ, κ ∈ K → ad κ ≠ q := by
    intro κ hκ he
    obtain ⟨i, hi, hi2⟩ := xl_get (ad := ad) (ct := ct) hκ
    have hil := (List.getElem?_eq_some_iff.mp hi).1
    have := hD.1 i K.length (ad κ, ct κ) (q, e) (by rw [List.getElem?_append_left (by unfold xl; rw [List.length_map]; exact hil)]; exact hi2) hlen he
    omega
  refine ⟨hW.kept (fun κ hκ => hk _ (hW.lt hκ) ?_), hne, fun κ hκ => hW.lt hκ⟩
  rintro (⟨k, e', h⟩ | h)
  · have h1 := (List.getElem?_eq_some_iff.mp h).1
    have : k = 0 := by simp at h1; omega
    subst this
    cases h
    exact hne κ hκ rfl
  · exact absurd (hW.lt hκ) (by omega)
theorem KC.a10 {K : List nKey} (h : KC K) (n : Nat) : KC (K ++ [(10, n, 0)]) := by
  obtain ⟨⟨a, b, c, d⟩, e, f, g, i, j, k⟩ := h
  have m : ∀ κ, κ ∈ K → κ ∈ K ++ [(10, n, 0)] := fun κ h => List.mem_append_left _ h
  have r : ∀ κ, κ ∈ K ++ [(10, n, 0)] → κ ∈ K ∨ κ = (10, n, 0) := fun κ h => by simpa using h
  refine ⟨⟨m _ a, m _ b, m _ c, m _ d⟩, fun z hz => m _ (e z hz), fun z f' hz hf => m _ (f z f' hz hf), fun q hq => ?_, fun q hq => ?_, m _ j, fun k' hk => m _ (k k' hk)⟩
  · rcases r _ hq with h | h
    · exact m _ (g q h)
    · simp at h
  · rcases r _ hq with h | h
    · exact m _ (i q h)
    · simp at h
theorem KC.a89 {K : List nKey} (h : KC K) (n : Nat) : KC (K ++ [(8, n, 0)] ++ [(9, n, 0)]) := by
  obtain ⟨⟨a, b, c, d⟩, e, f, g, i, j, k⟩ := h
  have m : ∀ κ, κ ∈ K → κ ∈ K ++ [(8, n, 0)] ++ [(9, n, 0)] := fun κ h => List.mem_append_left _ (List.mem_append_left _ h)
  have r : ∀ κ, κ ∈ K ++ [(8, n, 0)] ++ [(9, n, 0)] → κ ∈ K ∨ κ = (8, n, 0) ∨ κ = (9, n, 0) := fun κ h => by simpa [or_assoc] using h
  refine ⟨⟨m _ a, m _ b, m _ c, m _ d⟩, fun z hz => m _ (e z hz), fun z f' hz hf => m _ (f z f' hz hf), fun q hq => ?_, fun q hq => ?_, m _ j, fun k' hk => m _ (k k' hk)⟩
  · rcases r _ hq with h | h | h
    · exact m _ (g q h)
    · simp at h
    · simp at h
  · rcases r _ hq with h | h | h
    · exact m _ (i q h)
    · simp only [Prod.mk.injEq, true_and, and_true] at h
      subst h
      exact List.mem_append_right _ (List.mem_singleton.mpr rfl)
    · simp at h
theorem KC.a67 {K : List nKey} (h : KC K) (n : Nat) : KC (K ++ [(6, n, 0)] ++ [(7, n, 0)]) := by
  obtain ⟨⟨a, b, c, d⟩, e, f, g, i, j, k⟩ := h
  have m : ∀ κ, κ ∈ K → κ ∈ K ++ [(6, n, 0)] ++ [(7, n, 0)] := fun κ h => List.mem_append_left _ (List.mem_append_left _ h)
  have r : ∀ κ, κ ∈ K ++ [(6, n, 0)] ++ [(7, n, 0)] → κ ∈ K ∨ κ = (6, n, 0) ∨ κ = (7, n, 0) := fun κ h => by simpa [or_assoc] using h
  refine ⟨⟨m _ a, m _ b, m _ c, m _ d⟩, fun z hz => m _ (e z hz), fun z f' hz hf => m _ (f z f' hz hf), fun q hq => ?_, fun q hq => ?_, m _ j, fun k' hk => m _ (k k' hk)⟩
  · rcases r _ hq with h | h | h
    · exact m _ (g q h)
    · simp only [Prod.mk.injEq, true_and, and_true] at h
      subst h
      exact List.mem_append_right _ (List.mem_singleton.mpr rfl)
    · simp at h
  · rcases r _ hq with h | h | h
    · exact m _ (i q h)
    · simp at h
    · simp at h
theorem KS.a10 {K : List nKey} (h : KS K) (n : Nat) : KS (K ++ [(10, n, 0)]) := by
  intro κ hκ
  rcases List.mem_append.mp hκ with g | g
  · exact h κ g
  · rw [List.mem_singleton.mp g]
    exact Or.inr (Or.inr (Or.inr (Or.inr (Or.inr (Or.inr (Or.inr (Or.inr (Or.inr (Or.inr (Or.inl ⟨n, rfl⟩))))))))))
theorem KS.a89 {K : List nKey} (h : KS K) (n : Nat) : KS (K ++ [(8, n, 0)] ++ [(9, n, 0)]) := by
  intro κ hκ
  rcases List.mem_append.mp hκ with g | g
  · rcases List.mem_append.mp g with g | g
    · exact h κ g
    · rw [List.mem_singleton.mp g]
      exact Or.inr (Or.inr (Or.inr (Or.inr (Or.inr (Or.inr (Or.inr (Or.inr (Or.inl ⟨n, rfl⟩))))))))
  · rw [List.mem_singleton.mp g]
    exact Or.inr (Or.inr (Or.inr (Or.inr (Or.inr (Or.inr (Or.inr (Or.inr (Or.inr (Or.inl ⟨n, rfl⟩)))))))))
theorem KS.a67 {K : List nKey} (h : KS K) (n : Nat) : KS (K ++ [(6, n, 0)] ++ [(7, n, 0)]) := by
  intro κ hκ
  rcases List.mem_append.mp hκ with g | g
  · rcases List.mem_append.mp g with g | g
    · exact h κ g
    · rw [List.mem_singleton.mp g]
      exact Or.inr (Or.inr (Or.inr (Or.inr (Or.inr (Or.inr (Or.inl ⟨n, rfl⟩))))))
  · rw [List.mem_singleton.mp g]
    exact Or.inr (Or.inr (Or.inr (Or.inr (Or.inr (Or.inr (Or.inr (Or.inl ⟨n, rfl⟩)))))))
theorem zk_Leg {D : va_G} {ca : Nat → ClassId} {A : Nat → Prop} {K : List nKey} {ad : nKey → Nat} {σ : nS} {H H1 : Heap} {q : Nat} {u : Nat → Nat} {v1 v2 v3 v4 v5 v6 v7 : Int} (n : Nat) (hKS : KS K) (hKC : KC K) (hcl : CLs K σ) (hn1 : (10, n, 0) ∉ K) (hP : va_P D vwCl (xl K ad (cR ca ad σ) ++ [(q, .inr (1, [.int (iN 0), .int (iN 0), .int (iN 0), .int (iN 0), .int (iN 0), .int (iN 0), .int (iN 0), .int (iN 0)]))]) H) (hD : va_D A (xl K ad (cR ca ad σ) ++ [(q, .inr (1, [.int (iN 0), .int (iN 0), .int (iN 0), .int (iN 0), .int (iN 0), .int (iN 0), .int (iN 0), .int (iN 0)]))])) (hfa : ∀ x, va_A [(q, .inr (1, [.int (iN 0), .int (iN 0), .int (iN 0), .int (iN 0), .int (iN 0), .int (iN 0), .int (iN 0), .int (iN 0)]))] H.size x → A x) (hk : ∀ x : Nat, x < H.size → ¬ va_A [(q, .inr (1, [.int (iN 0), .int (iN 0), .int (iN 0), .int (iN 0), .int (iN 0), .int (iN 0), .int (iN 0), .int (iN 0)]))] H.size x → H1[x]? = H[x]?) (hw : va_P D vwCl [(q, .inr (1, [.int (iN v1), .int (iN v2), .int (iN v4), .int (iN v6), .int (iN v7), .int (iN v3), .int (iN v5), .int (iN 0)]))] H1 ∧ va_D (va_A [(q, .inr (1, [.int (iN 0), .int (iN 0), .int (iN 0), .int (iN 0), .int (iN 0), .int (iN 0), .int (iN 0), .int (iN 0)]))] H.size) [(q, .inr (1, [.int (iN v1), .int (iN v2), .int (iN v4), .int (iN v6), .int (iN v7), .int (iN v3), .int (iN v5), .int (iN 0)]))]) : ∃ ad' : nKey → Nat, (∀ κ, κ ∈ K → ad' κ = ad κ) ∧ ad' (10, n, 0) = q ∧ XW D A (K ++ [(10, n, 0)]) ad' (cR ca ad' (mkLeg σ n v1 v2 v3 v4 v5 v6 v7)) H1 := by
  obtain ⟨hW, hne, hlt⟩ := zk_keep hP hD hk
  obtain ⟨hw1, hw2⟩ := hw
  have ne1 : ∀ κ : nKey, κ ∈ K → κ ≠ (10, n, 0) := fun κ h e => hn1 (by rw [← e]; exact h)
  refine ⟨kup ad (10, n, 0) q, fun κ hκ => kup_n (ne1 κ hκ), kup_s _ _ _, ?_⟩
  have h1 := hW.add hn1 (hw1 0 _ rfl) hne (hfa q (Or.inl ⟨0, _, rfl⟩))
  refine h1.congr (fun _ _ => rfl) (fun κ hκ => ?_)
  rcases List.mem_append.mp hκ with g | g
  · have gn : κ ≠ (10, n, 0) := ne1 κ g
    rw [kup_n gn]
    exact cR_ext (σ' := mkLeg σ n v1 v2 v3 v4 v5 v6 v7) hKS hKC hcl (fun j hj => kup_n (ne1 j hj)) (fun j hj => kup_n (ne1 j hj)) (fun j hj => rfl) κ g
  · rw [List.mem_singleton.mp g, kup_s]
    simp [cR, cE, fX1, kup, mkLeg, nF]
theorem zk_Req {D : va_G} {ca : Nat → ClassId} {A : Nat → Prop} {K : List nKey} {ad : nKey → Nat} {σ : nS} {H H1 : Heap} {q : Nat} {u : Nat → Nat} {v1 v2 v3 v4 v5 : Int} (n : Nat) (hKS : KS K) (hKC : KC K) (hcl : CLs K σ) (hn1 : (8, n, 0) ∉ K) (hn2 : (9, n, 0) ∉ K) (hP : va_P D vwCl (xl K ad (cR ca ad σ) ++ [(q, .inr (2, [.int (iN 0), .int (iN 0), .int (iN 0), .int (iN 0), .int (iN 0), .null, .int (iN 0), .int (iN 0), .int (iN 0)]))]) H) (hD : va_D A (xl K ad (cR ca ad σ) ++ [(q, .inr (2, [.int (iN 0), .int (iN 0), .int (iN 0), .int (iN 0), .int (iN 0), .null, .int (iN 0), .int (iN 0), .int (iN 0)]))])) (hfa : ∀ x, va_A [(q, .inr (2, [.int (iN 0), .int (iN 0), .int (iN 0), .int (iN 0), .int (iN 0), .null, .int (iN 0), .int (iN 0), .int (iN 0)]))] H.size x → A x) (hk : ∀ x : Nat, x < H.size → ¬ va_A [(q, .inr (2, [.int (iN 0), .int (iN 0), .int (iN 0), .int (iN 0), .int (iN 0), .null, .int (iN 0), .int (iN 0), .int (iN 0)]))] H.size x → H1[x]? = H[x]?) (hw : va_P D vwCl [(q, .inr (2, [.int (iN v1), .int (iN v2), .int (iN v3), .int (iN v4), .int (iN v5), .ref (u 0), .int (iN 0), .int (iN 0), .int (iN 0)])), ((u 0), .inl (ca 4, 18, .inr (.inr (.inr (.inr (fun _ => none))))))] H1 ∧ va_D (va_A [(q, .inr (2, [.int (iN 0), .int (iN 0), .int (iN 0), .int (iN 0), .int (iN 0), .null, .int (iN 0), .int (iN 0), .int (iN 0)]))] H.size) [(q, .inr (2, [.int (iN v1), .int (iN v2), .int (iN v3), .int (iN v4), .int (iN v5), .ref (u 0), .int (iN 0), .int (iN 0), .int (iN 0)])), ((u 0), .inl (ca 4, 18, .inr (.inr (.inr (.inr (fun _ => none))))))]) : ∃ ad' : nKey → Nat, (∀ κ, κ ∈ K → ad' κ = ad κ) ∧ ad' (8, n, 0) = q ∧ XW D A (K ++ [(8, n, 0)] ++ [(9, n, 0)]) ad' (cR ca ad' (mkReq σ n v1 v2 v3 v4 v5)) H1 := by
  obtain ⟨hW, hne, hlt⟩ := zk_keep hP hD hk
  obtain ⟨hw1, hw2⟩ := hw
  have ne1 : ∀ κ : nKey, κ ∈ K → κ ≠ (8, n, 0) := fun κ h e => hn1 (by rw [← e]; exact h)
  have ne2 : ∀ κ : nKey, κ ∈ K → κ ≠ (9, n, 0) := fun κ h e => hn2 (by rw [← e]; exact h)
  have n12 : ((9, n, 0) : nKey) ≠ (8, n, 0) := by simp
  have hb : ∀ κ, κ ∈ K → ad κ ≠ u 0 := fun κ hκ e => by
    rcases hw2.2 1 _ rfl with ⟨k, e', h⟩ | h
    · have h1 := (List.getElem?_eq_some_iff.mp h).1
      have : k = 0 := by simp at h1; omega
      subst this
      have h2 : q = u 0 := congrArg Prod.fst (Option.some.inj h)
      exact hne κ hκ (e.trans h2.symm)
    · have := hlt κ hκ
      rw [e] at this
      exact absurd this (by exact Nat.not_lt.mpr h)
  have hqb : q ≠ u 0 := fun e => by
    have := hw2.1 0 1 _ _ rfl rfl e
    omega
  refine ⟨kup (kup ad (8, n, 0) q) (9, n, 0) (u 0), fun κ hκ => by rw [kup_n (ne2 κ hκ), kup_n (ne1 κ hκ)], by rw [kup_n n12.symm, kup_s], ?_⟩
  have h1 := hW.add hn1 (hw1 0 _ rfl) hne (hfa q (Or.inl ⟨0, _, rfl⟩))
  have h2 := h1.add (κ := (9, n, 0)) (q := u 0) (e := .inl (ca 4, 18, .inr (.inr (.inr (.inr (fun _ => none)))))) (fun h => by
    rcases List.mem_append.mp h with g | g
    · exact hn2 g
    · exact n12 (List.mem_singleton.mp g)) (hw1 1 _ rfl) (fun j hj => by
    rcases List.mem_append.mp hj with g | g
    · rw [kup_n (ne1 j g)]; exact hb j g
    · rw [List.mem_singleton.mp g, kup_s]; exact hqb) (hfa _ (hw2.2 1 _ rfl))
  refine h2.congr (fun _ _ => rfl) (fun κ hκ => ?_)
  rcases List.mem_append.mp hκ with g | g
  · rcases List.mem_append.mp g with g | g
    · have gn1 : κ ≠ (8, n, 0) := ne1 κ g
      have gn2 : κ ≠ (9, n, 0) := ne2 κ g
      rw [kup_n gn2, kup_n gn1]
      exact cR_ext (σ' := mkReq σ n v1 v2 v3 v4 v5) hKS hKC hcl (fun j hj => by rw [kup_n (ne2 j hj), kup_n (ne1 j hj)]) (fun j hj => by
        have j1 : j ≠ (8, n, 0) := ne1 j hj
        have j2 : j ≠ (9, n, 0) := ne2 j hj
        simp [mkReq, kup, j1, j2]) (fun j hj => by
        have j1 : j ≠ (8, n, 0) := ne1 j hj
        have j2 : j ≠ (9, n, 0) := ne2 j hj
        simp [mkReq, kup, j1, j2]) κ g
    · rw [List.mem_singleton.mp g, kup_n n12.symm, kup_s]
      simp [cR, cE, fX2, kup, mkReq, nF]
  · rw [List.mem_singleton.mp g, kup_s]
    simp [cR, cE, kup, mkReq, nF]
    try rfl
theorem zk_Rid {D : va_G} {ca : Nat → ClassId} {A : Nat → Prop} {K : List nKey} {ad : nKey → Nat} {σ : nS} {H H1 : Heap} {q : Nat} {u : Nat → Nat} {v1 v2 v3 v4 v5 : Int} (n : Nat) (hKS : KS K) (hKC : KC K) (hcl : CLs K σ) (hn1 : (6, n, 0) ∉ K) (hn2 : (7, n, 0) ∉ K) (hP : va_P D vwCl (xl K ad (cR ca ad σ) ++ [(q, .inr (3, [.int (iN 0), .int (iN 0), .int (iN 0), .int (iN 0), .int (iN 0), .null, .int (iN 0), .int (iN 0), .int (iN 0), .int (iN 0), .int (iN 0)]))]) H) (hD : va_D A (xl K ad (cR ca ad σ) ++ [(q, .inr (3, [.int (iN 0), .int (iN 0), .int (iN 0), .int (iN 0), .int (iN 0), .null, .int (iN 0), .int (iN 0), .int (iN 0), .int (iN 0), .int (iN 0)]))])) (hfa : ∀ x, va_A [(q, .inr (3, [.int (iN 0), .int (iN 0), .int (iN 0), .int (iN 0), .int (iN 0), .null, .int (iN 0), .int (iN 0), .int (iN 0), .int (iN 0), .int (iN 0)]))] H.size x → A x) (hk : ∀ x : Nat, x < H.size → ¬ va_A [(q, .inr (3, [.int (iN 0), .int (iN 0), .int (iN 0), .int (iN 0), .int (iN 0), .null, .int (iN 0), .int (iN 0), .int (iN 0), .int (iN 0), .int (iN 0)]))] H.size x → H1[x]? = H[x]?) (hw : va_P D vwCl [(q, .inr (3, [.int (iN v1), .int (iN v2), .int (iN v3), .int (iN v4), .int (iN v5), .ref (u 0), .int (iN v1), .int (iN v3), .int (iN 0), .int (iN 0), .int (iN 0)])), ((u 0), .inl (ca 0, 64, .inl (fun _ => iN 0)))] H1 ∧ va_D (va_A [(q, .inr (3, [.int (iN 0), .int (iN 0), .int (iN 0), .int (iN 0), .int (iN 0), .null, .int (iN 0), .int (iN 0), .int (iN 0), .int (iN 0), .int (iN 0)]))] H.size) [(q, .inr (3, [.int (iN v1), .int (iN v2), .int (iN v3), .int (iN v4), .int (iN v5), .ref (u 0), .int (iN v1), .int (iN v3), .int (iN 0), .int (iN 0), .int (iN 0)])), ((u 0), .inl (ca 0, 64, .inl (fun _ => iN 0)))]) : ∃ ad' : nKey → Nat, (∀ κ, κ ∈ K → ad' κ = ad κ) ∧ ad' (6, n, 0) = q ∧ XW D A (K ++ [(6, n, 0)] ++ [(7, n, 0)]) ad' (cR ca ad' (mkRid σ n v1 v2 v3 v4 v5)) H1 := by
  obtain ⟨hW, hne, hlt⟩ := zk_keep hP hD hk
  obtain ⟨hw1, hw2⟩ := hw
  have ne1 : ∀ κ : nKey, κ ∈ K → κ ≠ (6, n, 0) := fun κ h e => hn1 (by rw [← e]; exact h)
  have ne2 : ∀ κ : nKey, κ ∈ K → κ ≠ (7, n, 0) := fun κ h e => hn2 (by rw [← e]; exact h)
  have n12 : ((7, n, 0) : nKey) ≠ (6, n, 0) := by simp
  have hb : ∀ κ, κ ∈ K → ad κ ≠ u 0 := fun κ hκ e => by
    rcases hw2.2 1 _ rfl with ⟨k, e', h⟩ | h
    · have h1 := (List.getElem?_eq_some_iff.mp h).1
      have : k = 0 := by simp at h1; omega
      subst this
      have h2 : q = u 0 := congrArg Prod.fst (Option.some.inj h)
      exact hne κ hκ (e.trans h2.symm)
    · have := hlt κ hκ
      rw [e] at this
      exact absurd this (by exact Nat.not_lt.mpr h)
  have hqb : q ≠ u 0 := fun e => by
    have := hw2.1 0 1 _ _ rfl rfl e
    omega
  refine ⟨kup (kup ad (6, n, 0) q) (7, n, 0) (u 0), fun κ hκ => by rw [kup_n (ne2 κ hκ), kup_n (ne1 κ hκ)], by rw [kup_n n12.symm, kup_s], ?_⟩
  have h1 := hW.add hn1 (hw1 0 _ rfl) hne (hfa q (Or.inl ⟨0, _, rfl⟩))
  have h2 := h1.add (κ := (7, n, 0)) (q := u 0) (e := .inl (ca 0, 64, .inl (fun _ => iN 0))) (fun h => by
    rcases List.mem_append.mp h with g | g
    · exact hn2 g
    · exact n12 (List.mem_singleton.mp g)) (hw1 1 _ rfl) (fun j hj => by
    rcases List.mem_append.mp hj with g | g
    · rw [kup_n (ne1 j g)]; exact hb j g
    · rw [List.mem_singleton.mp g, kup_s]; exact hqb) (hfa _ (hw2.2 1 _ rfl))
  refine h2.congr (fun _ _ => rfl) (fun κ hκ => ?_)
  rcases List.mem_append.mp hκ with g | g
  · rcases List.mem_append.mp g with g | g
    · have gn1 : κ ≠ (6, n, 0) := ne1 κ g
      have gn2 : κ ≠ (7, n, 0) := ne2 κ g
      rw [kup_n gn2, kup_n gn1]
      exact cR_ext (σ' := mkRid σ n v1 v2 v3 v4 v5) hKS hKC hcl (fun j hj => by rw [kup_n (ne2 j hj), kup_n (ne1 j hj)]) (fun j hj => by
        have j1 : j ≠ (6, n, 0) := ne1 j hj
        have j2 : j ≠ (7, n, 0) := ne2 j hj
        simp [mkRid, kup, j1, j2]) (fun j hj => by
        have j1 : j ≠ (6, n, 0) := ne1 j hj
        have j2 : j ≠ (7, n, 0) := ne2 j hj
        simp [mkRid, kup, j1, j2]) κ g
    · rw [List.mem_singleton.mp g, kup_n n12.symm, kup_s]
      simp [cR, cE, fX3, kup, mkRid, nF]
  · rw [List.mem_singleton.mp g, kup_s]
    simp [cR, cE, kup, mkRid, nF]
    try rfl
theorem zk_last {D : va_G} {A : Nat → Prop} {ws : va_W} {q : Nat} {e : va_E} {H H0 : Heap} {locs : List Loc} (hP : va_P D vwCl (ws ++ [(q, e)]) H) (hD : va_D A (ws ++ [(q, e)])) (hS : va_S A H0 H locs) (hA : ∀ q, H0.size ≤ q → A q) : va_P D vwCl [(q, e)] H ∧ ∀ x, va_A [(q, e)] H.size x → A x := by
  have hlast : (ws ++ [(q, e)])[ws.length]? = some (q, e) := by simp
  constructor
  · intro k x hx
    have h1 := (List.getElem?_eq_some_iff.mp hx).1
    have : k = 0 := by simp at h1; omega
    subst this
    cases hx
    exact hP _ _ hlast
  · rintro x (⟨k, e', h⟩ | h)
    · have h1 := (List.getElem?_eq_some_iff.mp h).1
      have : k = 0 := by simp at h1; omega
      subst this
      cases h
      exact hD.2 _ _ hlast
    · exact hA x (Nat.le_trans hS.1 h)
/-- the end of a method that makes objects -/
def ZEa {S : Type} (D : va_G) (K : List nKey) (ad : nKey → Nat) (ca : Nat → ClassId) (sz : Nat) (k : S → nS → List nKey → Prop) : (S × nS × List nKey × (nKey → Nat)) → Heap → Prop := fun u H => k u.1 u.2.1 u.2.2.1 ∧ (∀ κ, κ ∈ K → κ ∈ u.2.2.1 ∧ u.2.2.2 κ = ad κ) ∧ KC u.2.2.1 ∧ KS u.2.2.1 ∧ XW D (FA K ad sz) u.2.2.1 u.2.2.2 (cR ca u.2.2.2 u.2.1) H
abbrev ZAi (D : va_G) (K : List nKey) (ad : nKey → Nat) (ca : Nat → ClassId) (sz : Nat) (k : Int → nS → List nKey → Prop) : Array Value → State → Outcome → State → Prop := ZU (S := Int × nS × List nKey × (nKey → Nat)) (fun u => some (.int (iN u.1))) (ZEa D K ad ca sz k) (FA K ad sz)
abbrev ZAv (D : va_G) (K : List nKey) (ad : nKey → Nat) (ca : Nat → ClassId) (sz : Nat) (k : nS → List nKey → Prop) : Array Value → State → Outcome → State → Prop := ZU (S := Unit × nS × List nKey × (nKey → Nat)) (fun _ => none) (ZEa D K ad ca sz (fun _ => k)) (FA K ad sz)
