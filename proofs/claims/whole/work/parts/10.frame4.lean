theorem z_caI {D : va_G} {ca : Nat → ClassId} {s : State} {cA : ClassId} (hK : va_K D vwCl (tysL ca) s) (h : va_K D vwCl (tysL ca ++ [(cA, .int)]) s) : cA = ca 0 := by
  have h1 := va_nm_int (hK.2 0 _ rfl).2
  have h2 := va_nm_int (h.2 6 _ rfl).2
  exact Option.some.inj (h2.symm.trans h1)
theorem z_caZ {D : va_G} {ca : Nat → ClassId} {s : State} {cA : ClassId} (hK : va_K D vwCl (tysL ca) s) (h : va_K D vwCl (tysL ca ++ [(cA, .boolean)]) s) : cA = ca 1 := by
  have h1 := va_nm_boolean (hK.2 1 _ rfl).2
  have h2 := va_nm_boolean (h.2 6 _ rfl).2
  exact Option.some.inj (h2.symm.trans h1)
theorem z_caJ {D : va_G} {ca : Nat → ClassId} {s : State} {cA : ClassId} (hK : va_K D vwCl (tysL ca) s) (h : va_K D vwCl (tysL ca ++ [(cA, .long)]) s) : cA = ca 5 := by
  have h1 := va_nm_long (hK.2 5 _ rfl).2
  have h2 := va_nm_long (h.2 6 _ rfl).2
  exact Option.some.inj (h2.symm.trans h1)
theorem z_caO {D : va_G} {ca : Nat → ClassId} {s : State} {cA : ClassId} {C : String} (t : Nat) (hK : va_K D vwCl (tysL ca) s) (ht : (tysL ca)[t]? = some (ca t, .object C)) (h : va_K D vwCl (tysL ca ++ [(cA, .object C)]) s) : cA = ca t := by
  obtain ⟨_, _, _, _, _, h1⟩ := (hK.2 t _ ht).2
  obtain ⟨_, _, _, _, _, h2⟩ := (h.2 6 _ rfl).2
  exact Option.some.inj (h2.symm.trans h1)
theorem va_D1 {A : Nat → Prop} {q : Nat × va_E} (h : A q.1) : va_D A [q] := by
  refine ⟨fun i j p r hi hj _ => ?_, fun k r hk => ?_⟩
  · have h1 := (List.getElem?_eq_some_iff.mp hi).1
    have h2 := (List.getElem?_eq_some_iff.mp hj).1
    simp at h1 h2
    omega
  · have h1 := (List.getElem?_eq_some_iff.mp hk).1
    have : k = 0 := by simp at h1; omega
    subst this
    cases hk
    exact h
/-- the keyed part of a list of cells -/
theorem XW.pre {D : va_G} {A : Nat → Prop} {K : List nKey} {ad : nKey → Nat} {ct : nKey → va_E} {H : Heap} {r : va_W} (hP : va_P D vwCl (xl K ad ct ++ r) H) (hD : va_D A (xl K ad ct ++ r)) : XW D A K ad ct H := by
  have g : ∀ (i : Nat) (q : Nat × va_E), (xl K ad ct)[i]? = some q → (xl K ad ct ++ r)[i]? = some q := fun i q hi => by
    rw [List.getElem?_append_left (List.getElem?_eq_some_iff.mp hi).1]; exact hi
  exact ⟨fun i q hi => hP i q (g i q hi), fun i j p q hi hj e => hD.1 i j p q (g i p hi) (g j q hj) e, fun i q hi => hD.2 i q (g i q hi)⟩
/-- one cell more under a new key -/
theorem XW.add {D : va_G} {A : Nat → Prop} {K : List nKey} {ad : nKey → Nat} {ct : nKey → va_E} {H : Heap} {κ : nKey} {q : Nat} {e : va_E} (h : XW D A K ad ct H) (hk : κ ∉ K) (hat : va_at D vwCl (q, e) H) (hq : ∀ j, j ∈ K → ad j ≠ q) (hA : A q) : XW D A (K ++ [κ]) (kup ad κ q) (kup ct κ e) H := by
  have e1 := xl_push (ad := ad) (ct := ct) hk q e
  have hlast : ∀ (k : Nat) (x : Nat × va_E), [(q, e)][k]? = some x → x = (q, e) := fun k x hx => by
    have h1 := (List.getElem?_eq_some_iff.mp hx).1
    have : k = 0 := by simp at h1; omega
    subst this
    exact (Option.some.inj hx).symm
  constructor
  · rw [← e1]
    refine va_P.app h.1 (fun k x hx => ?_)
    rw [hlast k x hx]; exact hat
  · rw [← e1]
    refine va_D.app h.2 (va_D1 hA) (fun i j x y hx hy hxy => ?_)
    obtain ⟨k, hk', -, rfl⟩ := xl_of hx
    rw [hlast j y hy] at hxy
    exact hq k hk' hxy
/-- which references are there, and which keys -/
def CLs (K : List nKey) (σ : nS) : Prop := (∀ j q, σ.2 (2, 0, 0) j = some q → (6, q, 0) ∈ K) ∧ (∀ j q, σ.2 (3, 0, 0) j = some q → (8, q, 0) ∈ K) ∧ (∀ c j q, (9, c, 0) ∈ K → σ.2 (9, c, 0) j = some q → (10, q, 0) ∈ K)
def KS (K : List nKey) : Prop := ∀ κ, κ ∈ K → κ = (0, 0, 0) ∨ κ = (1, 0, 0) ∨ κ = (2, 0, 0) ∨ κ = (3, 0, 0) ∨ (∃ z, z < 2 ∧ κ = (4, z, 0)) ∨ (∃ z f, z < 2 ∧ f < 5 ∧ κ = (5, z, f)) ∨ (∃ q, κ = (6, q, 0)) ∨ (∃ q, κ = (7, q, 0)) ∨ (∃ q, κ = (8, q, 0)) ∨ (∃ q, κ = (9, q, 0)) ∨ (∃ q, κ = (10, q, 0)) ∨ κ = (11, 0, 0) ∨ (∃ k, k < 28 ∧ κ = (12, k, 0)) ∨ κ = (13, 0, 0)
theorem cR_ext {ca : Nat → ClassId} {K : List nKey} {ad ad' : nKey → Nat} {σ σ' : nS} (hKS : KS K) (hKC : KC K) (hcl : CLs K σ) (ha : ∀ κ, κ ∈ K → ad' κ = ad κ) (h1 : ∀ κ, κ ∈ K → σ'.1 κ = σ.1 κ) (h2 : ∀ κ, κ ∈ K → σ'.2 κ = σ.2 κ) : ∀ κ, κ ∈ K → cR ca ad' σ' κ = cR ca ad σ κ := by
  intro κ hκ
  have rr : ∀ (kd : Nat) (r : Nat → Option Nat), (∀ j q, r j = some q → (kd, q, 0) ∈ K) → zRefs ad' kd r = zRefs ad kd r := by
    intro kd r h
    funext j
    unfold zRefs
    cases hr : r j with
    | none => rfl
    | some q => exact congrArg some (ha _ (h j q hr))
  unfold cR
  rw [h1 κ hκ, h2 κ hκ]
  rcases hKS κ hκ with rfl | rfl | rfl | rfl | ⟨z, hz, rfl⟩ | ⟨z, f, hz, hf, rfl⟩ | ⟨q, rfl⟩ | ⟨q, rfl⟩ | ⟨q, rfl⟩ | ⟨q, rfl⟩ | ⟨q, rfl⟩ | rfl | ⟨k, hk, rfl⟩ | rfl
  · simp only [cE, fX4, ha _ hKC.k1, ha _ hKC.k2, ha _ hKC.k3, ha _ (hKC.k4 z_lt0), ha _ (hKC.k4 z_lt1)]
  · rfl
  · simp only [cE, rr 6 _ hcl.1]
  · simp only [cE, rr 8 _ hcl.2.1]
  · simp only [cE, fX0, ha _ (hKC.k5 hz (show 0 < 5 by decide)), ha _ (hKC.k5 hz (show 1 < 5 by decide)), ha _ (hKC.k5 hz (show 2 < 5 by decide)), ha _ (hKC.k5 hz (show 3 < 5 by decide)), ha _ (hKC.k5 hz (show 4 < 5 by decide))]
  · rfl
  · simp only [cE, fX3, ha _ (hKC.k7 hκ)]
  · rfl
  · simp only [cE, fX2, ha _ (hKC.k9 hκ)]
  · simp only [cE, rr 10 _ (fun j q' => hcl.2.2 q j q' hκ)]
  · rfl
  · simp only [cE, fX5, ha _ (hKC.k12 (show 0 < 28 by decide)), ha _ (hKC.k12 (show 1 < 28 by decide)), ha _ (hKC.k12 (show 2 < 28 by decide)), ha _ (hKC.k12 (show 3 < 28 by decide)), ha _ (hKC.k12 (show 4 < 28 by decide)), ha _ (hKC.k12 (show 5 < 28 by decide)), ha _ (hKC.k12 (show 6 < 28 by decide)), ha _ (hKC.k12 (show 7 < 28 by decide)), ha _ (hKC.k12 (show 8 < 28 by decide)), ha _ (hKC.k12 (show 9 < 28 by decide)), ha _ (hKC.k12 (show 10 < 28 by decide)), ha _ (hKC.k12 (show 11 < 28 by decide)), ha _ (hKC.k12 (show 12 < 28 by decide)), ha _ (hKC.k12 (show 13 < 28 by decide)), ha _ (hKC.k12 (show 14 < 28 by decide)), ha _ (hKC.k12 (show 15 < 28 by decide)), ha _ (hKC.k12 (show 16 < 28 by decide)), ha _ (hKC.k12 (show 17 < 28 by decide)), ha _ (hKC.k12 (show 18 < 28 by decide)), ha _ (hKC.k12 (show 19 < 28 by decide)), ha _ (hKC.k12 (show 20 < 28 by decide)), ha _ (hKC.k12 (show 21 < 28 by decide)), ha _ (hKC.k12 (show 22 < 28 by decide)), ha _ (hKC.k12 (show 23 < 28 by decide)), ha _ (hKC.k12 (show 24 < 28 by decide)), ha _ (hKC.k12 (show 25 < 28 by decide)), ha _ (hKC.k12 (show 26 < 28 by decide)), ha _ (hKC.k12 (show 27 < 28 by decide))]
  · rfl
  · rfl
section ZI
variable {p : Program} {l : Launch} {e : Env} {R : Room} {s : State} {m : MethodId} {args : Array Value} {below : List Frame} {meth : Method} {c : Code} {H : Heap} {locs : List Loc} {cells slots : Nat} {Q : State → Prop}
variable {cc : ByteArray} {pc : Nat} {ls : Array Slot} {rest : List Value} {D : va_G} {ca : Nat → ClassId} {A : Nat → Prop} {H0 : Heap} {nL : Nat} {own : String} {K : List nKey} {ad : nKey → Nat} {ct : nKey → va_E} {σ : nS} {κ : nKey} {ws : va_W}
theorem zn_int (M : MF p s m args c cc nL own D ca) (hP : va_P D vwCl ws H) (hD : va_D A ws) (hS : va_S A H0 H locs) (hA : ∀ q, H0.size ≤ q → A q) (N : Nat) (hN : N < 2000000) (hcells : cells + 1 ≤ R.cells) (hslots : slots + N ≤ R.slots) (hdg : decode cc pc = .ok (.newarray .int, 2)) (kk : ∀ (q : Nat) (H1 : Heap), va_P D vwCl (ws ++ [(q, .inl (ca 0, N, .inl (fun _ => iN 0)))]) H1 → va_D A (ws ++ [(q, .inl (ca 0, N, .inl (fun _ => iN 0)))]) → va_S A H0 H1 locs → W p l e R s m args below meth c H1 locs (cells + 1) (slots + N) Q (F0 m (pc + 2) ls (.ref q :: rest))) : W p l e R s m args below meth c H locs cells slots Q (F0 m pc ls (.int (iN (N : Int)) :: rest)) := by
  refine va_newa (ty := .int) (a0 := (N, .inl (fun _ => iN 0))) (N' := N) (atype := .int) M.hx M.hb (M.hts _ u_ar_int) rfl M.hK hP hD hS hA (fun cA => rfl) (by rw [iN_nat]; exact nI_pos (by omega)) (by rw [iN_nat]; exact nI_clamp (by omega)) (by show N * 4 ≤ _; omega) hcells hslots hdg (fun q cA H1 hK2 hP2 hD2 hS2 => ?_)
  have := z_caI M.hK hK2
  subst this
  exact kk q H1 hP2 hD2 hS2
theorem zn_bool (M : MF p s m args c cc nL own D ca) (hP : va_P D vwCl ws H) (hD : va_D A ws) (hS : va_S A H0 H locs) (hA : ∀ q, H0.size ≤ q → A q) (N : Nat) (hN : N < 2000000) (hcells : cells + 1 ≤ R.cells) (hslots : slots + N ≤ R.slots) (hdg : decode cc pc = .ok (.newarray .boolean, 2)) (kk : ∀ (q : Nat) (H1 : Heap), va_P D vwCl (ws ++ [(q, .inl (ca 1, N, .inl (fun _ => iN 0)))]) H1 → va_D A (ws ++ [(q, .inl (ca 1, N, .inl (fun _ => iN 0)))]) → va_S A H0 H1 locs → W p l e R s m args below meth c H1 locs (cells + 1) (slots + N) Q (F0 m (pc + 2) ls (.ref q :: rest))) : W p l e R s m args below meth c H locs cells slots Q (F0 m pc ls (.int (iN (N : Int)) :: rest)) := by
  refine va_newa (ty := .boolean) (a0 := (N, .inl (fun _ => iN 0))) (N' := N) (atype := .boolean) M.hx M.hb (M.hts _ u_ar_boolean) rfl M.hK hP hD hS hA (fun cA => rfl) (by rw [iN_nat]; exact nI_pos (by omega)) (by rw [iN_nat]; exact nI_clamp (by omega)) (by show N * 1 ≤ _; omega) hcells hslots hdg (fun q cA H1 hK2 hP2 hD2 hS2 => ?_)
  have := z_caZ M.hK hK2
  subst this
  exact kk q H1 hP2 hD2 hS2
theorem zn_ref (M : MF p s m args c cc nL own D ca) {C : String} {index : Nat} (t : Nat) (ht : (tysL ca)[t]? = some (ca t, .object C)) (hcl : (Cond.classLink own index C).before args s = true) (hAO : va_AO C s) (hP : va_P D vwCl ws H) (hD : va_D A ws) (hS : va_S A H0 H locs) (hA : ∀ q, H0.size ≤ q → A q) (N : Nat) (hN : N < 2000000) (hcells : cells + 1 ≤ R.cells) (hslots : slots + N ≤ R.slots) (hdg : decode cc pc = .ok (.anewarray index, 3)) (kk : ∀ (q : Nat) (H1 : Heap), va_P D vwCl (ws ++ [(q, .inl (ca t, N, .inr (.inr (.inr (.inr (fun _ => none))))))]) H1 → va_D A (ws ++ [(q, .inl (ca t, N, .inr (.inr (.inr (.inr (fun _ => none))))))]) → va_S A H0 H1 locs → W p l e R s m args below meth c H1 locs (cells + 1) (slots + N) Q (F0 m (pc + 3) ls (.ref q :: rest))) : W p l e R s m args below meth c H locs cells slots Q (F0 m pc ls (.int (iN (N : Int)) :: rest)) := by
  refine va_newq (N' := N) M.hx M.hb M.hown hcl hAO M.hK hP hD hS hA (by rw [iN_nat]; exact nI_pos (by omega)) (by rw [iN_nat]; exact nI_clamp (by omega)) (by omega) hcells hslots hdg (fun q cA H1 hK2 hP2 hD2 hS2 => ?_)
  have := z_caO t M.hK ht hK2
  subst this
  exact kk q H1 hP2 hD2 hS2
theorem z_startC {y : MethodName} {rm : Room} {maxL : Nat} {av : List Value} {sz mc ms : Nat} {S : Type} {Wf : Nat → S → Heap → Prop} {h0 : Nat} {e0 : va_E} (hy : plainName y.cls = true) (ho : y.cls = own) (hi : y.name = "<init>") (hlen : (lg_sl av).length ≤ maxL) (body : ∀ (p : Program) (e : Env) (s : State) (m : MethodId) (args : Array Value) (below : List Frame) (meth : Method) (c : Code), MF p s m args c cc maxL own D ca → meth.sig.returnType = none → meth.locks = false → meth.name = "<init>" → va_P D vwCl [(h0, e0)] s.heap → ∀ ls, lv_has ls maxL (lv_args 0 av) → W p l e rm s m args below meth c s.heap [] 0 0 (MQ below (ZU (fun _ => none) (Wf s.heap.size) (va_A [(h0, e0)] s.heap.size)) args s mc ms (va_A [(h0, e0)] s.heap.size)) (F0 m 0 ls [])) : Met l y (Cond.code y cc maxL none :: UW) rm (ZP D ca av (fun H => H.size = sz ∧ va_P D vwCl [(h0, e0)] H)) (ZU (fun _ => none) (Wf sz) (va_A [(h0, e0)] sz)) mc ms (va_A [(h0, e0)] sz) := by
  refine Met.ofW (cc := cc) (maxL := maxL) (ret := none) hy rfl ?_
  intro p e s m args below meth c s₁ B hml hv
  obtain ⟨hav, ⟨rfl, hW⟩, hZ⟩ := hv
  have hts := atoms_spec (ws := Cond.code y cc maxL none :: UW) B.pre
  refine z_entry hav hlen (fun ls hl => ?_)
  exact body p e s m args below meth c ⟨⟨B.exec, B.bytes, hml, by rw [← ho]; exact findClass_of_methodNamed B.named, fun w hw => hts w (List.mem_cons_of_mem _ hw)⟩, hZ⟩ B.returns B.notSynchronized ((name_of_methodNamed B.named B.method).1.trans hi) hW ls hl
end ZI
