/-! the invariant: the class's cells against the model's -/
abbrev ML (σ : nS) (c i f : Nat) : Int := σ.1 (12, 17, 0) (8 * (24 * c + i) + f)
abbrev LM (σ : nS) (c : Nat) : Int := σ.1 (12, 18, 0) c
def RI (K : List nKey) (σ : nS) (P r : Nat) : Prop :=
  (σ.2 (2, 0, 0) r = some r ∧ (6, r, 0) ∈ K) ∧
  (σ.1 (6, r, 0) 0 = σ.1 (12, 1, 0) r ∧ σ.1 (6, r, 0) 1 = σ.1 (12, 2, 0) r ∧ σ.1 (6, r, 0) 2 = σ.1 (12, 3, 0) r ∧ σ.1 (6, r, 0) 3 = σ.1 (12, 4, 0) r ∧ σ.1 (6, r, 0) 4 = σ.1 (12, 5, 0) r ∧ σ.1 (6, r, 0) 6 = σ.1 (12, 6, 0) r ∧ σ.1 (6, r, 0) 7 = σ.1 (12, 7, 0) r ∧ σ.1 (6, r, 0) 8 = σ.1 (12, 9, 0) r ∧ σ.1 (6, r, 0) 9 = σ.1 (12, 10, 0) r ∧ σ.1 (6, r, 0) 10 = σ.1 (12, 8, 0) r) ∧
  (∀ x : Nat, P ≤ x → x < 8 → ¬ bt (σ.1 (12, 2, 0) r) x) ∧ (0 ≤ σ.1 (12, 3, 0) r ∧ σ.1 (12, 3, 0) r ≤ 4319) ∧ (0 ≤ σ.1 (12, 4, 0) r ∧ σ.1 (12, 4, 0) r ≤ 4319) ∧ (0 ≤ σ.1 (12, 6, 0) r ∧ σ.1 (12, 6, 0) r < P) ∧ (0 ≤ σ.1 (12, 7, 0) r ∧ σ.1 (12, 7, 0) r ≤ 4919) ∧ (σ.1 (12, 8, 0) r = 0 ∨ σ.1 (12, 8, 0) r = 1) ∧
  Mat σ r (fl 8 (eE (σ.1 (12, 2, 0) r) (σ.1 (12, 0, 0))))
def CI (K : List nKey) (σ : nS) (P c : Nat) : Prop :=
  (σ.2 (3, 0, 0) c = some c ∧ (8, c, 0) ∈ K) ∧
  (σ.1 (8, c, 0) 0 = σ.1 (12, 11, 0) c ∧ σ.1 (8, c, 0) 1 = σ.1 (12, 12, 0) c ∧ σ.1 (8, c, 0) 2 = σ.1 (12, 13, 0) c ∧ σ.1 (8, c, 0) 3 = σ.1 (12, 14, 0) c ∧ σ.1 (8, c, 0) 4 = σ.1 (12, 15, 0) c ∧ σ.1 (8, c, 0) 6 = σ.1 (12, 18, 0) c ∧ σ.1 (8, c, 0) 7 = (if σ.1 (12, 16, 0) c = 0 then 0 else 1) ∧ σ.1 (8, c, 0) 8 = (if σ.1 (12, 16, 0) c = 2 then 1 else 0)) ∧
  (0 ≤ σ.1 (12, 12, 0) c ∧ σ.1 (12, 12, 0) c < P) ∧ (0 ≤ σ.1 (12, 13, 0) c ∧ σ.1 (12, 13, 0) c < P) ∧ (0 ≤ σ.1 (12, 14, 0) c ∧ σ.1 (12, 14, 0) c ≤ 4319) ∧ (1 ≤ σ.1 (12, 15, 0) c ∧ σ.1 (12, 15, 0) c ≤ 2000) ∧
  ((σ.1 (12, 16, 0) c = 0 ∧ LM σ c = 0) ∨ ((σ.1 (12, 16, 0) c = 1 ∨ σ.1 (12, 16, 0) c = 2) ∧ 1 ≤ LM σ c)) ∧ LM σ c ≤ 18
def LI (σ : nS) (P R c i n : Nat) : Prop :=
  (σ.1 (10, n, 0) 0 = ML σ c i 0 ∧ σ.1 (10, n, 0) 1 = ML σ c i 1 ∧ σ.1 (10, n, 0) 5 = ML σ c i 2 ∧ σ.1 (10, n, 0) 2 = ML σ c i 3 ∧ σ.1 (10, n, 0) 6 = ML σ c i 4 ∧ σ.1 (10, n, 0) 7 = ML σ c i 5 ∧ σ.1 (10, n, 0) 3 = ML σ c i 6 ∧ σ.1 (10, n, 0) 4 = ML σ c i 7) ∧
  (0 ≤ ML σ c i 0 ∧ ML σ c i 0 < R) ∧ (0 ≤ ML σ c i 1 ∧ ML σ c i 1 < P) ∧ (0 ≤ ML σ c i 3 ∧ ML σ c i 3 ≤ ML σ c i 4 ∧ ML σ c i 4 ≤ 4319) ∧ (ML σ c i 5 = 0 ∨ ML σ c i 5 = 1) ∧ (0 ≤ ML σ c i 6 ∧ ML σ c i 6 < P) ∧ (0 ≤ ML σ c i 7 ∧ ML σ c i 7 ≤ 4919)
/-- how many riders have failed -/
def nF4 (σ : nS) (R : Nat) : Nat := cu (fun r => decide (σ.1 (12, 8, 0) r = 1)) R
/-- of the call that was sent last -/
def TL (σ : nS) (R : Nat) : Prop := ∀ l : Nat, σ.1 (11, 0, 0) 21 = l → LM σ l ≤ 3 * (nF4 σ R : Int) + 3 ∧ ∀ i : Nat, (i : Int) < LM σ l → (∀ j : Nat, i ≤ j → (j : Int) < LM σ l → ML σ l j 5 = 0) → σ.1 (12, 8, 0) (ML σ l i 0).toNat = 0
def AI (σ : nS) (P R C : Nat) : Prop :=
  (σ.1 (11, 0, 0) 1 = P ∧ σ.1 (11, 0, 0) 12 = R ∧ σ.1 (11, 0, 0) 20 = C) ∧ (P ≤ 8 ∧ R ≤ 6 ∧ C ≤ 40) ∧ (σ.1 (0, 0, 0) 5 = P ∧ σ.1 (0, 0, 0) 6 = R ∧ σ.1 (0, 0, 0) 7 = C) ∧ (σ.1 (0, 0, 0) 8 = σ.1 (11, 0, 0) 13 ∧ 0 ≤ σ.1 (11, 0, 0) 13 ∧ σ.1 (11, 0, 0) 13 ≤ 600) ∧ (σ.1 (0, 0, 0) 9 = σ.1 (11, 0, 0) 21 ∧ -1 ≤ σ.1 (11, 0, 0) 21 ∧ σ.1 (11, 0, 0) 21 < C)
def BI (σ : nS) : Prop := ∀ i, i < 64 → σ.1 (1, 0, 0) i = σ.1 (12, 0, 0) i ∧ 0 ≤ σ.1 (12, 0, 0) i ∧ σ.1 (12, 0, 0) i ≤ 600
def KI (K : List nKey) (σ : nS) (R C : Nat) : Prop := CLs K σ ∧ (∀ q, (6, q, 0) ∈ K → q < R) ∧ (∀ q, (7, q, 0) ∈ K → q < R) ∧ (∀ q, (8, q, 0) ∈ K → q < C) ∧ (∀ q, (9, q, 0) ∈ K → q < C)
def ZI (σ : nS) (R C : Nat) : Prop := (∀ r, R ≤ r → r < 6 → σ.1 (12, 8, 0) r = 0 ∧ σ.1 (12, 9, 0) r = 0 ∧ σ.1 (12, 10, 0) r = 0) ∧ (∀ c, C ≤ c → c < 40 → σ.1 (12, 16, 0) c = 0 ∧ LM σ c = 0)
def LA (K : List nKey) (σ : nS) (P R C : Nat) : Prop := ∀ c, c < C → ∀ i : Nat, (i : Int) < LM σ c → ∃ n, σ.2 (9, c, 0) i = some n ∧ (10, n, 0) ∈ K ∧ LI σ P R c i n
def LD (σ : nS) (C : Nat) : Prop := ∀ (c i c' i' n : Nat), c < C → c' < C → (i : Int) < LM σ c → (i' : Int) < LM σ c' → σ.2 (9, c, 0) i = some n → σ.2 (9, c', 0) i' = some n → c = c' ∧ i = i'
def IV (K : List nKey) (σ : nS) (P R C : Nat) : Prop := AI σ P R C ∧ BI σ ∧ (∀ r, r < R → RI K σ P r) ∧ (∀ c, c < C → CI K σ P c) ∧ KI K σ R C ∧ ZI σ R C ∧ LA K σ P R C ∧ LD σ C ∧ TL σ R
def Inv (K : List nKey) (σ : nS) : Prop := ∃ P R C : Nat, IV K σ P R C
theorem IV.eqv {K : List nKey} {σ σ' : nS} {P R C : Nat} (h : IV K σ P R C) (e : Eqv σ σ') : IV K σ' P R C := by
  have e6 : ∀ r, σ'.1 (6, r, 0) = σ.1 (6, r, 0) := fun r => e.kk (by simp)
  have e7 : ∀ r, σ'.1 (7, r, 0) = σ.1 (7, r, 0) := fun r => e.kk (by simp)
  have e8 : ∀ r, σ'.1 (8, r, 0) = σ.1 (8, r, 0) := fun r => e.kk (by simp)
  have e10 : ∀ r, σ'.1 (10, r, 0) = σ.1 (10, r, 0) := fun r => e.kk (by simp)
  unfold IV AI BI RI CI KI CLs ZI LA LD TL LI nF4 Mat ML LM at h ⊢
  rw [e.1, e.kk (c := 0) (a := 0) (b := 0) (by simp), e.kk (c := 1) (a := 0) (b := 0) (by simp)]
  simp only [e6, e7, e8, e10, e.k11 (i := 1) (by decide) (by decide), e.k11 (i := 12) (by decide) (by decide), e.k11 (i := 13) (by decide) (by decide), e.k11 (i := 20) (by decide) (by decide), e.k11 (i := 21) (by decide) (by decide), e.k12 (k := 0) (by decide), e.k12 (k := 1) (by decide), e.k12 (k := 2) (by decide), e.k12 (k := 3) (by decide), e.k12 (k := 4) (by decide), e.k12 (k := 5) (by decide), e.k12 (k := 6) (by decide), e.k12 (k := 7) (by decide), e.k12 (k := 8) (by decide), e.k12 (k := 9) (by decide), e.k12 (k := 10) (by decide), e.k12 (k := 11) (by decide), e.k12 (k := 12) (by decide), e.k12 (k := 13) (by decide), e.k12 (k := 14) (by decide), e.k12 (k := 15) (by decide), e.k12 (k := 16) (by decide), e.k12 (k := 17) (by decide), e.k12 (k := 18) (by decide)]
  exact h
theorem Inv.eqv {K : List nKey} {σ σ' : nS} (h : Inv K σ) (e : Eqv σ σ') : Inv K σ' := by
  obtain ⟨P, R, C, h⟩ := h
  exact ⟨P, R, C, h.eqv e⟩
theorem inv_start : Inv lK0 lσ0 := by
  refine ⟨0, 0, 0, ⟨⟨rfl, rfl, rfl⟩, ⟨by omega, by omega, by omega⟩, ⟨rfl, rfl, rfl⟩, ⟨rfl, by decide, by decide⟩, ⟨rfl, by decide, by decide⟩⟩, fun i hi => ⟨rfl, by show (0 : Int) ≤ 0; omega, by show (0 : Int) ≤ 600; omega⟩, fun r h => absurd h (Nat.not_lt_zero r), fun r h => absurd h (Nat.not_lt_zero r), ⟨⟨(fun j q h => by cases h), (fun j q h => by cases h), (fun c j q _ h => by cases h)⟩, fun q h => ?_, fun q h => ?_, fun q h => ?_, fun q h => ?_⟩, ⟨fun r _ _ => ⟨rfl, rfl, rfl⟩, fun c _ _ => ⟨rfl, rfl⟩⟩, fun c h => absurd h (Nat.not_lt_zero c), fun c i c' i' n h => absurd h (Nat.not_lt_zero c), fun l h => ?_⟩
  · simp [lK0] at h
  · simp [lK0] at h
  · simp [lK0] at h
  · simp [lK0] at h
  · have : (-1 : Int) = l := h
    omega
/-- what the searches read, out of the state -/
abbrev dcy (σ : nS) (kind : Int) (r : Nat) : Bool := decide (σ.1 (12, 8, 0) r = 0 ∧ bt (σ.1 (12, 5, 0) r) kind)
abbrev dat (σ : nS) (r : Nat) : Nat := (σ.1 (12, 6, 0) r).toNat
abbrev dst (σ : nS) (r : Nat) : Int := mx (σ.1 (12, 7, 0) r) (σ.1 (12, 3, 0) r)
abbrev dbb (σ : nS) (r : Nat) : Int := σ.1 (12, 4, 0) r
abbrev dE (σ : nS) (r : Nat) : Nat → Nat → Int := eE (σ.1 (12, 2, 0) r) (σ.1 (12, 0, 0))
abbrev dF (σ : nS) (r : Nat) : Nat → Nat → Int := fl 8 (dE σ r)
theorem IV.d5 {K : List nKey} {σ : nS} {P R C : Nat} (h : IV K σ P R C) (kind : Int) : Dat5 R P (dcy σ kind) (dat σ) (dst σ) (dbb σ) (dF σ) (dE σ) kind σ := by
  obtain ⟨hA, hB, hR, -⟩ := h
  refine ⟨hA.1.2.1, hA.1.1, hA.2.1.2.1, hA.2.1.1, fun r hr => ?_⟩
  obtain ⟨-, -, h1, h2, h3, h4, h5, h6, h7⟩ := hR r hr
  exact ⟨⟨decide_eq_true_iff, h6⟩, ⟨by unfold dat; omega, by unfold dat; omega⟩, ⟨rfl, h5.1, h5.2, h2.1, h2.2⟩, ⟨rfl, h3.1, h3.2⟩, ⟨hA.1.1, fun i hi => (hB i hi).2, rfl⟩, eE_F (fun i hi => (hB i hi).2), h1⟩
theorem BI.roads {σ : nS} (h : BI σ) {x y : Nat} (hx : x < 8) (hy : y < 8) (a : Int) : eE a (σ.1 (1, 0, 0)) x y = eE a (σ.1 (12, 0, 0)) x y := by
  unfold eE
  rw [(h (8 * x + y) (by omega)).1]
theorem IV.d4 {K : List nKey} {σ : nS} {P R C : Nat} (h : IV K σ P R C) (kind : Int) : Dat4 K R P (dcy σ kind) (dat σ) (dst σ) (dbb σ) (dF σ) (dE σ) kind σ := by
  obtain ⟨hA, hB, hR, -⟩ := h
  refine ⟨hA.2.2.1.2.1, hA.2.2.1.1, hA.2.1.2.1, hA.2.1.1, fun r hr => ?_⟩
  obtain ⟨h0, ⟨a0, a1, a2, a3, a4, a6, a7, a8, a9, a10⟩, h1, h2, h3, h4, h5, h6, h7⟩ := hR r hr
  refine ⟨h0, ⟨?_, by rw [a10]; exact h6⟩, ⟨by rw [a6]; unfold dat; omega, by unfold dat; omega⟩, ⟨by rw [a7, a2], by omega, by omega, by omega, by omega⟩, ⟨by rw [a3], by unfold dbb; omega, by unfold dbb; omega⟩, h7, eE_F (fun i hi => (hB i hi).2)⟩
  rw [a10, a4]
  exact decide_eq_true_iff
