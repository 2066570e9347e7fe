/-! the class's search -/
def S4 (σ : nS) (z j : Nat) (l : Lg) : Prop := σ.1 (5, z, 0) j = (l.1 : Int) ∧ σ.1 (5, z, 1) j = (l.2.1 : Int) ∧ σ.1 (5, z, 2) j = (l.2.2.1 : Int) ∧ σ.1 (5, z, 3) j = l.2.2.2.1 ∧ σ.1 (5, z, 4) j = l.2.2.2.2
def Ls4 (σ : nS) (z : Nat) (ls : List Lg) : Prop := ∀ j l, ls[j]? = some l → S4 σ z j l
theorem S4.of {σ σ' : nS} {z z' j : Nat} {l : Lg} (h : S4 σ z j l) (e : ∀ f, f < 5 → σ'.1 (5, z', f) j = σ.1 (5, z, f) j) : S4 σ' z' j l := by
  obtain ⟨h0, h1, h2, h3, h4⟩ := h
  exact ⟨(e 0 (by omega)).trans h0, (e 1 (by omega)).trans h1, (e 2 (by omega)).trans h2, (e 3 (by omega)).trans h3, (e 4 (by omega)).trans h4⟩
theorem Ls4.of {σ σ' : nS} {z z' : Nat} {ls : List Lg} (h : Ls4 σ z ls) (e : ∀ f j, f < 5 → j < ls.length → σ'.1 (5, z', f) j = σ.1 (5, z, f) j) : Ls4 σ' z' ls := fun j l hj => (h j l hj).of (fun f hf => e f j hf (List.getElem?_eq_some_iff.mp hj).1)
def Dat4 (K : List nKey) (R P : Nat) (cy : Nat → Bool) (at0 : Nat → Nat) (st bb : Nat → Int) (F E : Nat → Nat → Nat → Int) (kind : Int) (σ : nS) : Prop :=
  σ.1 (0, 0, 0) 6 = R ∧ σ.1 (0, 0, 0) 5 = P ∧ R ≤ 6 ∧ P ≤ 8 ∧ ∀ r, r < R → (σ.2 (2, 0, 0) r = some r ∧ (6, r, 0) ∈ K) ∧ ((cy r = true ↔ (σ.1 (6, r, 0) 10 = 0 ∧ bt (σ.1 (6, r, 0) 4) kind)) ∧ (σ.1 (6, r, 0) 10 = 0 ∨ σ.1 (6, r, 0) 10 = 1)) ∧ (σ.1 (6, r, 0) 6 = at0 r ∧ at0 r < P) ∧ (mx (σ.1 (6, r, 0) 7) (σ.1 (6, r, 0) 2) = st r ∧ 0 ≤ σ.1 (6, r, 0) 7 ∧ σ.1 (6, r, 0) 7 ≤ 4919 ∧ 0 ≤ σ.1 (6, r, 0) 2 ∧ σ.1 (6, r, 0) 2 ≤ 4319) ∧ (σ.1 (6, r, 0) 3 = bb r ∧ 0 ≤ bb r ∧ bb r ≤ 4319) ∧ Mat σ r (F r) ∧ FI 8 (E r) (F r)
theorem Dat4.eqv {K : List nKey} {R P : Nat} {cy : Nat → Bool} {at0 : Nat → Nat} {st bb : Nat → Int} {F E : Nat → Nat → Nat → Int} {kind : Int} {σ σ' : nS} (h : Dat4 K R P cy at0 st bb F E kind σ) (e : Eqv σ σ') : Dat4 K R P cy at0 st bb F E kind σ' := by
  have e6 : ∀ r, σ'.1 (6, r, 0) = σ.1 (6, r, 0) := fun r => e.kk (by simp)
  have e7 : ∀ r, σ'.1 (7, r, 0) = σ.1 (7, r, 0) := fun r => e.kk (by simp)
  unfold Dat4 Mat at h ⊢
  rw [e.kk (c := 0) (by simp), e.1]
  simp only [e6, e7]
  exact h
theorem x4_riderAt {K : List nKey} {σ : nS} {r R : Nat} {k : Option Nat → nS → Prop} (hR : σ.1 (0, 0, 0) 6 = R) (hR6 : R ≤ 6) (hr : r < R) (hs : σ.2 (2, 0, 0) r = some r) (hK : (6, r, 0) ∈ K) (h : k (some r) σ) : P_X4_riderAt K σ (r : Int) k := by
  unfold P_X4_riderAt
  rw [hR, w0 (x := (r : Int)) (by omega) (by omega), w0 (x := (R : Int)) (by omega) (by omega)]
  simp only [Int.toNat_natCast]
  rw [hs]
  refine ⟨fun h => absurd h (by omega), fun _ => ⟨fun h => absurd h (by omega), fun _ => ⟨fun h => absurd h (by omega), fun _ => ⟨by omega, by omega, (fun h => by cases h), fun q6 e => ?_⟩⟩⟩⟩
  cases e
  exact ⟨hK, h⟩
theorem x4_riderAt_no {K : List nKey} {σ : nS} {v : Int} {R : Nat} {k : Option Nat → nS → Prop} (hv : iR v) (hR : σ.1 (0, 0, 0) 6 = R) (hR6 : R ≤ 6) (hn : ¬ (0 ≤ v ∧ v < R)) (h : k none σ) : P_X4_riderAt K σ v k := by
  unfold P_X4_riderAt
  rw [hR, w_of hv, w0 (x := (R : Int)) (by omega) (by omega)]
  exact ⟨fun _ => h, fun h0 => ⟨fun _ => h, fun h1 => absurd ⟨h0, h1⟩ hn⟩⟩
theorem x4_carries {K : List nKey} {σ : nS} {r : Nat} {kind : Int} {c : Bool} {k : Int → nS → Prop} (hc : c = true ↔ (σ.1 (6, r, 0) 10 = 0 ∧ bt (σ.1 (6, r, 0) 4) kind)) (hf : σ.1 (6, r, 0) 10 = 0 ∨ σ.1 (6, r, 0) 10 = 1) (h : k (b2i (c = true)) σ) : P_X3_carries K σ r kind k := by
  unfold P_X3_carries
  rw [w0 (x := σ.1 (6, r, 0) 10) (by omega) (by omega)]
  refine ⟨fun h1 => ?_, fun h1 => x4_hasBit (br01 (fun h2 => ?_) (fun h2 => ?_))⟩
  · rw [b2i_f (fun e => h1 (hc.mp e).1)] at h; exact h
  · rw [b2i_t (hc.mpr ⟨h1, h2⟩)] at h; exact h
  · rw [b2i_f (fun e => h2 (hc.mp e).2)] at h; exact h
theorem x4_wayOf {K : List nKey} {σ : nS} {r P x y : Nat} {F : Nat → Nat → Int} {k : Int → nS → Prop} (hP : σ.1 (0, 0, 0) 5 = P) (hP8 : P ≤ 8) (hx : x < P) (hy : y < P) (hm : Mat σ r F) (h : k (enc (F x y)) σ) : P_X4_wayOf K σ r (x : Int) (y : Int) k := by
  unfold P_X4_wayOf
  refine x4_isPlace ⟨by omega, by omega⟩ (by omega) (br01 (fun _ => x4_isPlace ⟨by omega, by omega⟩ (by omega) (br01 (fun _ => ⟨by omega, by omega, ?_⟩) (fun hn => absurd (by omega) hn))) (fun hn => absurd (by omega) hn))
  rw [tn8', hm x y (by omega) (by omega)]
  exact h
theorem x4_thereFrom {K : List nKey} {σ : nS} {r P x a : Nat} {F E : Nat → Nat → Int} {s : Int} {k : Int → nS → Prop} (hP : σ.1 (0, 0, 0) 5 = P) (hP8 : P ≤ 8) (hx : x < P) (ha : σ.1 (6, r, 0) 6 = a) (haP : a < P) (hm : Mat σ r F) (hF : FI 8 E F) (hs : mx (σ.1 (6, r, 0) 7) (σ.1 (6, r, 0) 2) = s ∧ 0 ≤ σ.1 (6, r, 0) 7 ∧ σ.1 (6, r, 0) 7 ≤ 4919 ∧ 0 ≤ σ.1 (6, r, 0) 2 ∧ σ.1 (6, r, 0) 2 ≤ 4319) (h : k (if F a x = 1000000 then -1 else s + F a x) σ) : P_X4_thereFrom K σ r (x : Int) k := by
  have FF := hF.1 a x (by omega) (by omega)
  unfold P_X4_thereFrom
  rw [ha]
  refine x4_wayOf hP hP8 haP hx hm ?_
  have r1 := enc_r FF.1 (by omega)
  rw [w0 (x := enc (F a x)) (by omega) (by omega)]
  refine ⟨fun h1 => ?_, fun h1 => ?_⟩
  · have hn : F a x ≠ 1000000 := fun e => h1 ((enc_n FF.1).mpr e)
    rw [if_neg hn] at h
    rw [mxI_mx (by omega) (by omega), hs.1, enc_i hn]
    exact h
  · rw [if_pos ((enc_n FF.1).mp h1)] at h
    exact h
section S4S
variable {R P : Nat} {cy : Nat → Bool} {at0 : Nat → Nat} {st bb : Nat → Int} {F E : Nat → Nat → Nat → Int} {goal x0 : Nat} {t0 kind : Int}
def Bst4 (R P : Nat) (at0 : Nat → Nat) (st : Nat → Int) (F : Nat → Nat → Nat → Int) (x0 : Nat) (t0 : Int) (σ : nS) (c : List Ky) : Prop := vll R P (legs at0 st F x0 t0 c) ∧ c.length ≤ 3 ∧ σ.1 (4, 1, 0) 5 = (c.length : Int) ∧ Ls4 σ 1 (legs at0 st F x0 t0 c)
theorem ed_rng {c : List Ky} (hc : c ≠ []) (hv : vll R P (legs at0 st F x0 t0 c)) : 0 ≤ ed at0 st F x0 t0 c ∧ ed at0 st F x0 t0 c ≤ 4319 := by
  obtain ⟨l, hl, he, -⟩ := legs_last (at0 := at0) (st := st) (F := F) (x0 := x0) (t0 := t0) hc
  have := hv l (List.mem_of_getElem? hl)
  rw [← he]
  omega
theorem x0_lastEnd {K : List nKey} {σ : nS} {z : Nat} {c : List Ky} {k : Int → nS → Prop} (h3 : c.length ≤ 3) (hl : σ.1 (4, z, 0) 5 = (c.length : Int)) (hs : Ls4 σ z (legs at0 st F x0 t0 c)) (h : k (if c = [] then -1 else ed at0 st F x0 t0 c) σ) : P_X0_lastEnd K σ z k := by
  unfold P_X0_lastEnd
  rw [hl, w0 (x := (c.length : Int)) (by omega) (by omega)]
  refine ⟨fun h1 => ?_, fun h1 => ⟨fun h2 => absurd h2 (by omega), fun _ => ⟨by omega, by omega, ?_⟩⟩⟩
  · rw [if_pos (List.length_eq_zero_iff.mp (by omega))] at h
    exact h
  · have hc : c ≠ [] := fun e => by subst e; simp at h1
    obtain ⟨l, hl', he, -⟩ := legs_last (at0 := at0) (st := st) (F := F) (x0 := x0) (t0 := t0) hc
    rw [if_neg hc, ← he, ← (hs _ _ hl').2.2.2.2] at h
    rw [show ((c.length : Int) - 1).toNat = c.length - 1 by omega]
    exact h
theorem x4_isTooLate {K : List nKey} {σ : nS} {b : List Ky} {s : Int} {k : Int → nS → Prop} (hs : 0 ≤ s ∧ s ≤ 200000) (hb : Bst4 R P at0 st F x0 t0 σ b) (h : k (b2i (b ≠ [] ∧ ed at0 st F x0 t0 b ≤ s)) σ) : P_X4_isTooLate K σ s k := by
  obtain ⟨b1, b2, b3, b4⟩ := hb
  unfold P_X4_isTooLate
  rw [b3, w0 (x := (b.length : Int)) (by omega) (by omega), w0 (x := s) (by omega) (by omega)]
  refine ⟨fun h1 => ?_, fun h1 => ?_⟩
  · have : b = [] := List.length_eq_zero_iff.mp (by omega)
    rw [b2i_f (fun q => q.1 this)] at h
    exact h
  · have hb : b ≠ [] := fun e => by subst e; simp at h1
    have hr := ed_rng hb b1
    refine x0_lastEnd b2 b3 b4 ?_
    rw [if_neg hb, w0 (x := ed at0 st F x0 t0 b) (by omega) (by omega)]
    refine ⟨fun h2 => ?_, fun h2 => ?_⟩
    · rw [b2i_f (fun q => by omega)] at h; exact h
    · rw [b2i_t ⟨hb, h2⟩] at h; exact h
theorem x4_waits {K : List nKey} {σ : nS} {pre : List Ky} {s : Int} {k : Int → nS → Prop} (h3 : pre.length ≤ 3) (hs : 0 ≤ s ∧ s ≤ 200000) (hv : vll R P (legs at0 st F x0 t0 pre)) (hd : Dat4 K R P cy at0 st bb F E kind σ) (hp : Ls4 σ 0 (legs at0 st F x0 t0 pre)) (h : k (b2i (lastb bb pre s = true)) σ) : P_X4_waitsUntil K σ ((pre.length : Int) - 1) s k := by
  unfold P_X4_waitsUntil
  rw [w0 (x := (pre.length : Int) - 1) (by omega) (by omega), w0 (x := s) (by omega) (by omega)]
  refine ⟨fun h1 => ?_, fun h1 => ⟨fun h2 => ⟨by omega, by omega, ?_⟩, fun h2 => absurd h2 (by omega)⟩⟩
  · have : pre = [] := List.length_eq_zero_iff.mp (by omega)
    subst this
    rw [b2i_t (by rfl)] at h; exact h
  · have hne : pre ≠ [] := fun e => by subst e; simp at h1
    obtain ⟨l, hl, -, -, q, hq1, hq2⟩ := legs_last (at0 := at0) (st := st) (F := F) (x0 := x0) (t0 := t0) hne
    have hvl := hv l (List.mem_of_getElem? hl)
    have hl0 := (hp _ _ hl).1
    obtain ⟨hR, hP, hR6, hP8, hrr⟩ := hd
    obtain ⟨⟨g1, g2⟩, -, -, -, ⟨g3, g4, g5⟩, -⟩ := hrr l.1 hvl.1
    rw [show ((pre.length : Int) - 1).toNat = pre.length - 1 by omega, hl0]
    have hlb : lastb bb pre s = decide (s ≤ bb l.1) := by unfold lastb; rw [hq1, ← hq2]
    refine x4_riderAt hR hR6 hvl.1 g1 g2 ⟨(fun e => by cases e), fun q7 e => ?_⟩
    cases e
    refine ⟨g2, ?_⟩
    rw [g3, w0 (x := bb l.1) (by omega) (by omega)]
    rw [hlb] at h
    refine ⟨fun h4 => ?_, fun h4 => ?_⟩
    · rw [b2i_f (by simp; omega)] at h; exact h
    · rw [b2i_t (by simp; omega)] at h; exact h
theorem x0_ridden {K : List nKey} {σ : nS} {pre : List Ky} {r : Nat} {k : Int → nS → Prop} (h3 : pre.length ≤ 3) (hr : r < 6) (hR6 : R ≤ 6) (hv : vll R P (legs at0 st F x0 t0 pre)) (hp : Ls4 σ 0 (legs at0 st F x0 t0 pre)) :
    ∀ (m j : Nat), j + m = pre.length → (pre.take j).all (fun q => decide (q.1 ≠ r)) = true → k (b2i (pre.all (fun q => decide (q.1 ≠ r)) = false)) σ → P_X0_isRiddenBy_L2 K k 0 (r : Int) (pre.length : Int) (m + 1) (j : Int) σ := by
  intro m
  induction m with
  | zero =>
    intro j hj ht h
    have hj' : j = pre.length := by omega
    subst hj'
    rw [List.take_of_length_le (Nat.le_refl _)] at ht
    unfold P_X0_isRiddenBy_L2
    rw [w0 (x := (pre.length : Int)) (by omega) (by omega)]
    refine ⟨fun _ => ?_, fun h => absurd h (by omega)⟩
    rw [b2i_f (by rw [ht]; simp)] at h; exact h
  | succ m ih =>
    intro j hj ht h
    obtain ⟨l, hl⟩ : ∃ l, (legs at0 st F x0 t0 pre)[j]? = some l := ⟨_, List.getElem?_eq_getElem (by rw [legs_len]; omega)⟩
    have hkey := legs_key hl
    have hvl := hv l (List.mem_of_getElem? hl)
    have hl0 := (hp j l hl).1
    unfold P_X0_isRiddenBy_L2
    simp only [Int.toNat_natCast]
    rw [w0 (x := (pre.length : Int)) (by omega) (by omega), w0 (x := (j : Int)) (by omega) (by omega), hl0, w0 (x := (l.1 : Int)) (by omega) (by omega), w0 (x := (r : Int)) (by omega) (by omega)]
    refine ⟨fun h => absurd h (by omega), fun _ => ⟨fun h => absurd h (by omega), fun _ => ⟨by omega, by omega, fun hne x6 ex => ?_, fun he => ?_⟩⟩⟩
    · subst ex
      refine ih (j + 1) (by omega) ?_ h
      rw [List.take_succ, hkey, List.all_append, ht]
      simp; omega
    · rw [b2i_t] at h
      · exact h
      · cases g : pre.all (fun q => decide (q.1 ≠ r)) with
        | false => rfl
        | true =>
          have := of_decide_eq_true (List.all_eq_true.mp g _ (List.mem_of_getElem? hkey))
          simp at this; omega
theorem legs_from {pre : List Ky} : ∀ {x : Nat} {t : Int} {j : Nat} {l : Lg}, (legs at0 st F x t pre)[j]? = some l → (x :: pre.map (·.2))[j]? = some l.2.1 := by
  induction pre with
  | nil => intro x t j l h; simp [legs] at h
  | cons q c ih =>
    intro x t j l h
    obtain ⟨r, y⟩ := q
    cases j with
    | zero => simp [legs] at h; subst h; rfl
    | succ j =>
      simp only [legs, List.getElem?_cons_succ, List.map_cons] at h ⊢
      exact ih h
theorem lo_from {pre : List Ky} : ∀ {x : Nat} {t : Int}, (x :: pre.map (·.2))[pre.length]? = some (lo at0 st F x t pre).1 := by
  induction pre with
  | nil => intro x t; rfl
  | cons q c ih => intro x t; obtain ⟨r, y⟩ := q; simp only [lo, List.length_cons, List.map_cons, List.getElem?_cons_succ]; exact ih
/-- the places that the chain has been at -/
def seenB (x0 : Nat) (pre : List Ky) (y : Nat) : Bool := decide (x0 ≠ y) && pre.all (fun q => decide (q.2 ≠ y))
theorem seenB_f {pre : List Ky} {y : Nat} : seenB x0 pre y = true ↔ ∀ z ∈ (x0 :: pre.map (·.2)), z ≠ y := by
  unfold seenB
  rw [Bool.and_eq_true, decide_eq_true_eq, List.all_eq_true]
  constructor
  · rintro ⟨h1, h2⟩ z hz
    rcases List.mem_cons.mp hz with h | h
    · rw [h]; exact h1
    · obtain ⟨q, hq, e⟩ := List.mem_map.mp h
      rw [← e]; exact of_decide_eq_true (h2 q hq)
  · intro h
    exact ⟨h x0 List.mem_cons_self, fun q hq => decide_eq_true (h q.2 (List.mem_cons_of_mem _ (List.mem_map.mpr ⟨q, hq, rfl⟩)))⟩
theorem x0_comes {K : List nKey} {σ : nS} {pre : List Ky} {y : Nat} {k : Int → nS → Prop} (h3 : pre.length < 3) (hy : y < 8) (hP8 : P ≤ 8) (hv : vll R P (legs at0 st F x0 t0 pre)) (hx : (lo at0 st F x0 t0 pre).1 < P) (hp : Ls4 σ 0 (legs at0 st F x0 t0 pre)) (ho : σ.1 (5, 0, 1) pre.length = ((lo at0 st F x0 t0 pre).1 : Int)) :
    ∀ (m j : Nat), j + m = pre.length + 1 → (∀ z ∈ (x0 :: pre.map (·.2)).take j, z ≠ y) → k (b2i (seenB x0 pre y = false)) σ → P_X0_comesFrom_L2 K k 0 (y : Int) ((pre.length : Int) + 1) (m + 1) (j : Int) σ := by
  intro m
  induction m with
  | zero =>
    intro j hj ht h
    have hj' : j = pre.length + 1 := by omega
    subst hj'
    rw [List.take_of_length_le (by simp)] at ht
    unfold P_X0_comesFrom_L2
    rw [w0 (x := (pre.length : Int) + 1) (by omega) (by omega), w0 (x := ((pre.length + 1 : Nat) : Int)) (by omega) (by omega)]
    refine ⟨fun _ => ?_, fun h => absurd h (by omega)⟩
    rw [b2i_f (by rw [seenB_f.mpr ht]; simp)] at h; exact h
  | succ m ih =>
    intro j hj ht h
    obtain ⟨f, hf, hf8, hfe⟩ : ∃ f, (x0 :: pre.map (·.2))[j]? = some f ∧ f < 8 ∧ σ.1 (5, 0, 1) j = (f : Int) := by
      by_cases e : j = pre.length
      · subst e
        exact ⟨_, lo_from, by omega, ho⟩
      · obtain ⟨l, hl⟩ : ∃ l, (legs at0 st F x0 t0 pre)[j]? = some l := ⟨_, List.getElem?_eq_getElem (by rw [legs_len]; omega)⟩
        have hvl := hv l (List.mem_of_getElem? hl)
        exact ⟨_, legs_from hl, by omega, (hp j l hl).2.1⟩
    unfold P_X0_comesFrom_L2
    simp only [Int.toNat_natCast]
    rw [w0 (x := (pre.length : Int) + 1) (by omega) (by omega), w0 (x := (j : Int)) (by omega) (by omega), hfe, w0 (x := (f : Int)) (by omega) (by omega), w0 (x := (y : Int)) (by omega) (by omega)]
    refine ⟨fun h => absurd h (by omega), fun _ => ⟨fun h => absurd h (by omega), fun _ => ⟨by omega, by omega, fun hne x6 ex => ?_, fun he => ?_⟩⟩⟩
    · subst ex
      refine ih (j + 1) (by omega) ?_ h
      rw [List.take_succ, hf]
      intro z hz
      rcases List.mem_append.mp hz with h | h
      · exact ht z h
      · simp at h; omega
    · rw [b2i_t] at h
      · exact h
      · cases g : seenB x0 pre y with
        | false => rfl
        | true =>
          have := seenB_f.mp g f (List.mem_of_getElem? hf)
          omega
end S4S
