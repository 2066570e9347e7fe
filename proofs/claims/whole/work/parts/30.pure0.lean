/-! the pure side: no machine any more; numbers, states (σ) and lists of keys (K) -/
theorem w0 {x : Int} (h0 : -2147483648 ≤ x) (h1 : x ≤ 2147483647) : w x = x := w_of ⟨h0, by omega⟩
theorem w_lo (x : Int) : -2147483648 ≤ w x := (w_R x).1
theorem w_hi (x : Int) : w x ≤ 2147483647 := by have := (w_R x).2; omega
theorem s1_2 (σ : nS) (κ : nKey) (k : Nat) (v : Int) : (s1 σ κ k v).2 = σ.2 := rfl
theorem s2_1 (σ : nS) (κ : nKey) (k : Nat) (v : Option Nat) : (s2 σ κ k v).1 = σ.1 := rfl
theorem s1_1 (σ : nS) (κ : nKey) (k : Nat) (v : Int) (j : nKey) (i : Nat) : (s1 σ κ k v).1 j i = if j = κ ∧ i = k then v else σ.1 j i := by
  unfold s1 kup upI
  by_cases h : j = κ
  · subst h
    simp
  · simp [h]
theorem s2_2 (σ : nS) (κ : nKey) (k : Nat) (v : Option Nat) (j : nKey) (i : Nat) : (s2 σ κ k v).2 j i = if j = κ ∧ i = k then v else σ.2 j i := by
  unfold s2 kup va_up
  by_cases h : j = κ
  · subst h
    simp
  · simp [h]
theorem s1_at (σ : nS) (κ : nKey) (k : Nat) (v : Int) : (s1 σ κ k v).1 κ k = v := by rw [s1_1]; simp
theorem s1_k {σ : nS} {κ : nKey} {k : Nat} {v : Int} {j : nKey} (h : j ≠ κ) : (s1 σ κ k v).1 j = σ.1 j := by
  funext i
  rw [s1_1]; simp [h]
theorem s1_i {σ : nS} {κ : nKey} {k : Nat} {v : Int} {j : nKey} {i : Nat} (h : i ≠ k) : (s1 σ κ k v).1 j i = σ.1 j i := by rw [s1_1]; simp [h]
/-- what an operation may write and nobody reads later -/
def Scr (κ : nKey) (i : Nat) : Prop := κ.1 = 4 ∨ κ.1 = 5 ∨ (κ.1 = 12 ∧ 19 ≤ κ.2.1) ∨ (κ.1 = 11 ∧ (i = 24 ∨ i = 34)) ∨ κ.1 = 13
def Eqv (σ σ' : nS) : Prop := σ'.2 = σ.2 ∧ ∀ κ i, ¬ Scr κ i → σ'.1 κ i = σ.1 κ i
theorem Eqv.rf {σ : nS} : Eqv σ σ := ⟨rfl, fun _ _ _ => rfl⟩
theorem Eqv.tr {a b c : nS} (h : Eqv a b) (g : Eqv b c) : Eqv a c := ⟨g.1.trans h.1, fun κ i hs => (g.2 κ i hs).trans (h.2 κ i hs)⟩
theorem Eqv.s1 {σ : nS} {κ : nKey} {k : Nat} {v : Int} (h : Scr κ k) : Eqv σ (s1 σ κ k v) := ⟨rfl, fun j i hs => by
  rw [s1_1]
  by_cases e : j = κ ∧ i = k
  · rw [e.1, e.2] at hs; exact absurd h hs
  · rw [if_neg e]⟩
theorem Eqv.sym {a b : nS} (h : Eqv a b) : Eqv b a := ⟨h.1.symm, fun κ i hs => (h.2 κ i hs).symm⟩
/-! tests -/
theorem x5_in {K : List nKey} {σ : nS} {v lo hi : Int} {k : Int → nS → Prop} (h : k (b2i (w lo ≤ w v ∧ w v ≤ w hi)) σ) : P_X5_in K σ v lo hi k := by
  unfold P_X5_in
  refine ⟨fun h1 => ?_, fun h1 => ⟨fun h2 => ?_, fun h2 => ?_⟩⟩
  · rw [b2i_f (by omega)] at h; exact h
  · rw [b2i_f (by omega)] at h; exact h
  · rw [b2i_t ⟨h1, h2⟩] at h; exact h
theorem b2i_01 (c : Prop) [Decidable c] : b2i c = 0 ∨ b2i c = 1 := by unfold b2i; split <;> simp
theorem w_b2i (c : Prop) [Decidable c] : w (b2i c) = b2i c := w_of (b2i_r c)
theorem b2i_eq0 {c : Prop} [Decidable c] : b2i c = 0 ↔ ¬ c := by unfold b2i; split <;> simp_all
theorem b2i_ne0 {c : Prop} [Decidable c] : b2i c ≠ 0 ↔ c := by unfold b2i; split <;> simp_all
/-- a test's two ways on -/
theorem br01 {c : Prop} [Decidable c] {A B : Prop} (h1 : c → B) (h2 : ¬ c → A) : ((w (b2i c) = 0 → A) ∧ (w (b2i c) ≠ 0 → B)) := by
  rw [w_b2i]
  exact ⟨fun h => h2 (b2i_eq0.mp h), fun h => h1 (b2i_ne0.mp h)⟩
theorem br10 {c : Prop} [Decidable c] {A B : Prop} (h1 : c → B) (h2 : ¬ c → A) : ((w (b2i c) ≠ 0 → B) ∧ (w (b2i c) = 0 → A)) := by
  rw [w_b2i]
  exact ⟨fun h => h1 (b2i_ne0.mp h), fun h => h2 (b2i_eq0.mp h)⟩
theorem x5_isPlace {K : List nKey} {σ : nS} {v : Int} {k : Int → nS → Prop} (hv : iR v) (hp : 0 ≤ σ.1 (11, 0, 0) 1 ∧ σ.1 (11, 0, 0) 1 ≤ 8) (h : k (b2i (0 ≤ v ∧ v < σ.1 (11, 0, 0) 1)) σ) : P_X5_isPlace K σ v k := by
  unfold P_X5_isPlace
  refine x5_in ⟨b2i_01 _, ?_⟩
  rw [w_of hv, w0 (x := 0) (by decide) (by decide), w0 (x := σ.1 (11, 0, 0) 1 - 1) (by omega) (by omega)]
  have e : (0 ≤ v ∧ v ≤ σ.1 (11, 0, 0) 1 - 1) ↔ (0 ≤ v ∧ v < σ.1 (11, 0, 0) 1) := by omega
  simp only [e]
  exact h
theorem x5_isRider {K : List nKey} {σ : nS} {v : Int} {k : Int → nS → Prop} (hv : iR v) (hp : 0 ≤ σ.1 (11, 0, 0) 12 ∧ σ.1 (11, 0, 0) 12 ≤ 6) (h : k (b2i (0 ≤ v ∧ v < σ.1 (11, 0, 0) 12)) σ) : P_X5_isRider K σ v k := by
  unfold P_X5_isRider
  refine x5_in ⟨b2i_01 _, ?_⟩
  rw [w_of hv, w0 (x := 0) (by decide) (by decide), w0 (x := σ.1 (11, 0, 0) 12 - 1) (by omega) (by omega)]
  have e : (0 ≤ v ∧ v ≤ σ.1 (11, 0, 0) 12 - 1) ↔ (0 ≤ v ∧ v < σ.1 (11, 0, 0) 12) := by omega
  simp only [e]
  exact h
theorem x5_isCall {K : List nKey} {σ : nS} {v : Int} {k : Int → nS → Prop} (hv : iR v) (hp : 0 ≤ σ.1 (11, 0, 0) 20 ∧ σ.1 (11, 0, 0) 20 ≤ 40) (h : k (b2i (0 ≤ v ∧ v < σ.1 (11, 0, 0) 20)) σ) : P_X5_isCall K σ v k := by
  unfold P_X5_isCall
  refine x5_in ⟨b2i_01 _, ?_⟩
  rw [w_of hv, w0 (x := 0) (by decide) (by decide), w0 (x := σ.1 (11, 0, 0) 20 - 1) (by omega) (by omega)]
  have e : (0 ≤ v ∧ v ≤ σ.1 (11, 0, 0) 20 - 1) ↔ (0 ≤ v ∧ v < σ.1 (11, 0, 0) 20) := by omega
  simp only [e]
  exact h
theorem x4_isMinute {K : List nKey} {σ : nS} {v : Int} {k : Int → nS → Prop} (hv : iR v) (h : k (b2i (0 ≤ v ∧ v ≤ 4319)) σ) : P_X4_isMinute K σ v k := by
  unfold P_X4_isMinute
  rw [w_of hv]
  refine ⟨fun h1 => ?_, fun h1 => ⟨fun h2 => ?_, fun h2 => ?_⟩⟩
  · rw [b2i_f (by omega)] at h; exact h
  · rw [b2i_f (by omega)] at h; exact h
  · rw [b2i_t (by omega)] at h; exact h
theorem x4_isKind {K : List nKey} {σ : nS} {v : Int} {k : Int → nS → Prop} (hv : iR v) (h : k (b2i (0 ≤ v ∧ v ≤ 3)) σ) : P_X4_isKind K σ v k := by
  unfold P_X4_isKind
  rw [w_of hv]
  refine ⟨fun h1 => ?_, fun h1 => ⟨fun h2 => ?_, fun h2 => ?_⟩⟩
  · rw [b2i_f (by omega)] at h; exact h
  · rw [b2i_f (by omega)] at h; exact h
  · rw [b2i_t (by omega)] at h; exact h
theorem x4_isPlace {K : List nKey} {σ : nS} {v : Int} {k : Int → nS → Prop} (hv : iR v) (hp : 0 ≤ σ.1 (0, 0, 0) 5 ∧ σ.1 (0, 0, 0) 5 ≤ 8) (h : k (b2i (0 ≤ v ∧ v < σ.1 (0, 0, 0) 5)) σ) : P_X4_isPlace K σ v k := by
  unfold P_X4_isPlace
  rw [w_of hv, w0 (x := σ.1 (0, 0, 0) 5) (by omega) (by omega)]
  refine ⟨fun h1 => ?_, fun h1 => ⟨fun h2 => ?_, fun h2 => ⟨fun h3 => ?_, fun h3 => ?_⟩⟩⟩
  · rw [b2i_f (by omega)] at h; exact h
  · rw [b2i_f (by omega)] at h; exact h
  · rw [b2i_f (by omega)] at h; exact h
  · rw [b2i_t (by omega)] at h; exact h
theorem x4_areBits {K : List nKey} {σ : nS} {v n : Int} {k : Int → nS → Prop} (hv : iR v) (h : k (b2i (0 ≤ v ∧ v < w (shlI 1 n))) σ) : P_X4_areBits K σ v n k := by
  unfold P_X4_areBits
  rw [w_of hv]
  refine ⟨fun h1 => ?_, fun h1 => ⟨fun h2 => ?_, fun h2 => ?_⟩⟩
  · rw [b2i_f (by omega)] at h; exact h
  · rw [b2i_f (by omega)] at h; exact h
  · rw [b2i_t (by omega)] at h; exact h
