/-- a bit of a number -/
abbrev bt (a b : Int) : Prop := andI (shrI a b) 1 = 1
theorem and1 (x : Int) : andI x 1 = 0 ∨ andI x 1 = 1 := by
  unfold andI
  have e : iN x &&& iN 1 = ⟨⟨(iN x).toBitVec &&& 1#32⟩⟩ := rfl
  rw [e, BitVec.and_one_eq_setWidth_ofBool_getLsbD]
  cases (iN x).toBitVec.getLsbD 0
  · left; decide
  · right; decide
theorem w_and1 (x : Int) : w (andI x 1) = andI x 1 := by
  rcases and1 x with h | h <;> rw [h] <;> decide
theorem bt_0 {a b : Int} (h : ¬ bt a b) : andI (shrI a b) 1 = 0 := (and1 _).resolve_right h
theorem x4_hasBit {K : List nKey} {σ : nS} {a b : Int} {k : Int → nS → Prop} (h : k (b2i (bt a b)) σ) : P_X4_hasBit K σ a b k := by
  unfold P_X4_hasBit
  rw [w_and1]
  refine ⟨fun h1 => ?_, fun h1 => ?_⟩
  · rw [b2i_f h1] at h; exact h
  · rw [b2i_t h1] at h; exact h
theorem br_bt {a b : Int} {A B : Prop} (h1 : bt a b → B) (h2 : ¬ bt a b → A) : ((w (andI (shrI a b) 1) = 0 → A) ∧ (w (andI (shrI a b) 1) ≠ 0 → B)) := by
  rw [w_and1]
  refine ⟨fun h => h2 (fun e => by rw [e] at h; cases h), fun h => h1 ((and1 _).resolve_left h)⟩
theorem br_btn {a b : Int} {A B : Prop} (h1 : bt a b → B) (h2 : ¬ bt a b → A) : ((w (andI (shrI a b) 1) ≠ 0 → B) ∧ (w (andI (shrI a b) 1) = 0 → A)) := ⟨(br_bt h1 h2).2, (br_bt h1 h2).1⟩
theorem br_bt1 {a b : Int} {A B : Prop} (h1 : bt a b → B) (h2 : ¬ bt a b → A) : ((w (andI (shrI a b) 1) ≠ 1 → A) ∧ (w (andI (shrI a b) 1) = 1 → B)) := by
  rw [w_and1]
  exact ⟨h2, h1⟩
theorem br_bt1' {a b : Int} {A B : Prop} (h1 : bt a b → B) (h2 : ¬ bt a b → A) : ((w (andI (shrI a b) 1) = 1 → B) ∧ (w (andI (shrI a b) 1) ≠ 1 → A)) := by
  rw [w_and1]
  exact ⟨h1, h2⟩
/-- an area has places that there are alone -/
theorem bits_pl : ∀ n, n < 9 → ∀ a, a < 2 ^ n → ∀ p, p < 8 → n ≤ p → ¬ bt (a : Nat) (p : Nat) := by decide +kernel
theorem shl_pl : ∀ n, n < 9 → w (shlI 1 (n : Nat)) = ((2 ^ n : Nat) : Int) ∧ shlI 1 (n : Nat) = ((2 ^ n : Nat) : Int) := by decide +kernel
theorem bt_pl {n a p : Int} (hn : 0 ≤ n ∧ n ≤ 8) (h0 : 0 ≤ a) (h1 : a < w (shlI 1 n)) (hp : n ≤ p) (hp8 : p < 8) : ¬ bt a p := by
  have e := shl_pl n.toNat (by omega)
  rw [show ((n.toNat : Nat) : Int) = n by omega] at e
  rw [e.1] at h1
  have := bits_pl n.toNat (by omega) a.toNat (by omega) p.toNat (by omega) (by omega)
  rwa [show ((a.toNat : Nat) : Int) = a by omega, show ((p.toNat : Nat) : Int) = p by omega] at this
theorem bits_or : ∀ s, s < 256 → ∀ p, p < 8 → orI (s : Nat) (shlI 1 (p : Nat)) < 256 ∧ 0 ≤ orI (s : Nat) (shlI 1 (p : Nat)) ∧ ∀ q, q < 8 → (bt (orI (s : Nat) (shlI 1 (p : Nat))) (q : Nat) ↔ (bt (s : Nat) (q : Nat) ∨ q = p)) := by decide +kernel
theorem bits_one : ∀ p, p < 8 → shlI 1 (p : Nat) < 256 ∧ 0 ≤ shlI 1 (p : Nat) ∧ ∀ q, q < 8 → (bt (shlI 1 (p : Nat)) (q : Nat) ↔ q = p) := by decide +kernel
theorem bt_or {s p : Int} (h0 : 0 ≤ s) (h1 : s < 256) (hp0 : 0 ≤ p) (hp : p < 8) : 0 ≤ orI s (shlI 1 p) ∧ orI s (shlI 1 p) < 256 ∧ ∀ q : Int, 0 ≤ q → q < 8 → (bt (orI s (shlI 1 p)) q ↔ (bt s q ∨ q = p)) := by
  have h := bits_or s.toNat (by omega) p.toNat (by omega)
  rw [show ((s.toNat : Nat) : Int) = s by omega, show ((p.toNat : Nat) : Int) = p by omega] at h
  refine ⟨h.2.1, h.1, fun q q0 q1 => ?_⟩
  have g := h.2.2 q.toNat (by omega)
  rw [show ((q.toNat : Nat) : Int) = q by omega] at g
  rw [g]
  have : q.toNat = p.toNat ↔ q = p := by omega
  rw [this]
theorem bt_one {p : Int} (hp0 : 0 ≤ p) (hp : p < 8) : 0 ≤ shlI 1 p ∧ shlI 1 p < 256 ∧ ∀ q : Int, 0 ≤ q → q < 8 → (bt (shlI 1 p) q ↔ q = p) := by
  have h := bits_one p.toNat (by omega)
  rw [show ((p.toNat : Nat) : Int) = p by omega] at h
  refine ⟨h.2.1, h.1, fun q q0 q1 => ?_⟩
  have g := h.2.2 q.toNat (by omega)
  rw [show ((q.toNat : Nat) : Int) = q by omega] at g
  rw [g]
  omega
