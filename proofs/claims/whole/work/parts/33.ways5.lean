/-! the model's way: rounds over all roads from one place, against the matrix -/
def cu (P : Nat → Bool) : Nat → Nat
  | 0 => 0
  | n + 1 => cu P n + if P n then 1 else 0
theorem cu_le {P Q : Nat → Bool} : ∀ n, (∀ b, b < n → Q b = true → P b = true) → cu Q n ≤ cu P n := by
  intro n
  induction n with
  | zero => intro _; exact Nat.le_refl _
  | succ n ih =>
    intro h
    have h1 := ih (fun b hb => h b (by omega))
    have h2 := h n (by omega)
    unfold cu
    cases hq : Q n with
    | true => rw [h2 hq]; simp; exact h1
    | false => simp; omega
theorem cu_lt {P Q : Nat → Bool} : ∀ n, (∀ b, b < n → Q b = true → P b = true) → (∃ b, b < n ∧ P b = true ∧ Q b = false) → cu Q n < cu P n := by
  intro n
  induction n with
  | zero => rintro _ ⟨b, hb, _⟩; omega
  | succ n ih =>
    rintro h ⟨b, hb, hp, hq⟩
    unfold cu
    by_cases e : b = n
    · subst e
      have h1 := cu_le (P := P) (Q := Q) b (fun c hc => h c (by omega))
      rw [hp, hq]
      simp
      omega
    · have h1 := ih (fun c hc => h c (by omega)) ⟨b, by omega, hp, hq⟩
      have h2 := h n (by omega)
      cases hq' : Q n with
      | true => rw [h2 hq']; simp; exact h1
      | false => simp; omega
theorem cu_bound (P : Nat → Bool) : ∀ n, cu P n ≤ n := by
  intro n
  induction n with
  | zero => exact Nat.le_refl _
  | succ n ih => unfold cu; split <;> omega
theorem cu_miss {P : Nat → Bool} : ∀ n a, a < n → P a = false → cu P n ≤ n - 1 := by
  intro n
  induction n with
  | zero => intro a h; omega
  | succ n ih =>
    intro a ha hp
    unfold cu
    by_cases e : a = n
    · subst e
      rw [hp]
      have := cu_bound P a
      simp
      omega
    · have := ih a (by omega) hp
      split <;> omega
theorem cu_zero {P : Nat → Bool} : ∀ n, cu P n = 0 → ∀ b, b < n → P b = false := by
  intro n
  induction n with
  | zero => intro _ b hb; omega
  | succ n ih =>
    intro h b hb
    unfold cu at h
    by_cases e : b = n
    · subst e
      cases hp : P b with
      | true => rw [hp] at h; simp at h
      | false => rfl
    · exact ih (by omega) b (by omega)
/-- within a round that began with f0, behind the roads ahead of (x, y) -/
def RV (F : Nat → Nat → Int) (a n : Nat) (E : Nat → Nat → Int) (f0 : Nat → Int) (x y : Nat) (f : Nat → Int) : Prop :=
  (∀ b, b < 8 → F a b ≤ f b ∧ f b ≤ f0 b ∧ f b ≤ 1000000) ∧ ∀ x' y', (x' < x ∨ (x' = x ∧ y' < y)) → x' < n → y' < n → f y' ≤ f0 x' + E x' y'
theorem RV_step {F E : Nat → Nat → Int} {a n x y : Nat} {f0 f f' : Nat → Int} (hF : FI 8 E F) (ha : a < 8) (hn : n ≤ 8) (hx : x < n) (hy : y < n) (h : RV F a n E f0 x y f) (h1 : ∀ z, z < 8 → z ≠ y → f' z = f z) (h2 : f' y = if f x + E x y < f y then f x + E x y else f y) : RV F a n E f0 x (y + 1) f' := by
  obtain ⟨g, r⟩ := h
  have t := hF.2.1 x a y (by omega) ha (by omega)
  have le := (hF.1 x y (by omega) (by omega)).2.2.2
  have gx := g x (by omega)
  have gy := g y (by omega)
  have hy1 : f' y ≤ f y ∧ f' y ≤ f x + E x y ∧ F a y ≤ f' y := by rw [h2]; split <;> omega
  refine ⟨fun b hb => ?_, fun x' y' hxy hx' hy' => ?_⟩
  · by_cases e : b = y
    · subst e
      omega
    · rw [h1 b hb e]; exact g b hb
  · by_cases e : y' = y
    · subst e
      by_cases e2 : x' = x
      · subst e2
        omega
      · have := r x' y' (by omega) hx' hy'
        omega
    · rw [h1 y' (by omega) e]
      exact r x' y' (by omega) hx' hy'
theorem RV_row {F E : Nat → Nat → Int} {a n x : Nat} {f0 f : Nat → Int} (h : RV F a n E f0 x n f) : RV F a n E f0 (x + 1) 0 f := ⟨h.1, fun x' y' hxy hx' hy' => h.2 x' y' (by omega) hx' hy'⟩
theorem RV_begin {F E : Nat → Nat → Int} {a n : Nat} {f0 : Nat → Int} (h : ∀ b, b < 8 → F a b ≤ f0 b ∧ f0 b ≤ 1000000) : RV F a n E f0 0 0 f0 := ⟨fun b hb => ⟨(h b hb).1, Int.le_refl _, (h b hb).2⟩, fun x' y' hxy => by omega⟩
def un (F : Nat → Nat → Int) (a : Nat) (f : Nat → Int) (n : Nat) : Nat := cu (fun b => decide (f b ≠ F a b)) n
theorem un_min {F : Nat → Nat → Int} {a n : Nat} {f : Nat → Int} : ∀ (t : Nat), (∃ b, b < n ∧ f b ≠ F a b ∧ F a b ≤ t) → (∀ b, b < n → 0 ≤ F a b) → ∃ b, b < n ∧ f b ≠ F a b ∧ ∀ c, c < n → f c ≠ F a c → F a b ≤ F a c := by
  intro t
  induction t with
  | zero =>
    rintro ⟨b, hb, hne, hle⟩ h0
    exact ⟨b, hb, hne, fun c hc _ => by have := h0 c hc; omega⟩
  | succ t ih =>
    rintro ⟨b, hb, hne, hle⟩ h0
    by_cases h : ∃ c, c < n ∧ f c ≠ F a c ∧ F a c ≤ t
    · exact ih h h0
    · refine ⟨b, hb, hne, fun c hc hcn => ?_⟩
      by_cases h2 : F a c ≤ t
      · exact absurd ⟨c, hc, hcn, h2⟩ h
      · omega
theorem un_round {F E : Nat → Nat → Int} {a n : Nat} {f0 f : Nat → Int} (hF : FI 8 E F) (h0 : RD0 E) (hn : n ≤ 8) (ha : a < n) (haa : E a a = 0) (hout : ∀ x y, x < 8 → y < 8 → n ≤ x → E x y = 1000000) (hs : ∀ b, b < 8 → F a b ≤ f0 b ∧ f0 b ≤ 1000000) (hfa : f0 a = 0) (h : RV F a n E f0 n 0 f) : f a = 0 ∧ (un F a f0 n ≠ 0 → un F a f n < un F a f0 n) ∧ (un F a f0 n = 0 → un F a f n = 0) := by
  have ha8 : a < 8 := by omega
  have fa0 : F a a = 0 := by
    have := hF.1 a a ha8 ha8
    omega
  have keep : ∀ b, b < n → f0 b = F a b → f b = F a b := fun b hb e => by
    have := h.1 b (by omega)
    omega
  have mono : ∀ b, b < n → decide (f b ≠ F a b) = true → decide (f0 b ≠ F a b) = true := fun b hb hd => by
    rw [decide_eq_true_eq] at hd ⊢
    exact fun e => hd (keep b hb e)
  refine ⟨by rw [keep a ha (hfa.trans fa0.symm), fa0], fun hne => ?_, fun he => ?_⟩
  · refine cu_lt n mono ?_
    have hex : ∃ b, b < n ∧ f0 b ≠ F a b ∧ F a b ≤ (1000000 : Nat) := by
      refine Classical.byContradiction fun hno => hne ?_
      have : ∀ b, b < n → f0 b = F a b := fun b hb => Classical.byContradiction fun e => hno ⟨b, hb, e, by have := hs b (by omega); omega⟩
      have hz : ∀ m, m ≤ n → cu (fun b => decide (f0 b ≠ F a b)) m = 0 := by
        intro m
        induction m with
        | zero => intro _; rfl
        | succ m ih => intro hm; unfold cu; rw [ih (by omega)]; simp [this m (by omega)]
      exact hz n (Nat.le_refl _)
    obtain ⟨b, hb, hbn, hmin⟩ := un_min _ hex (fun b hb => (hF.1 a b ha8 (by omega)).1)
    have hba : a ≠ b := fun e => hbn (by rw [← e, hfa, fa0])
    have hlt : F a b < 1000000 := by
      have := hs b (by omega)
      omega
    obtain ⟨c, c8, cb, ce, cl⟩ := hF.2.2.1 a b ha8 (by omega) hba hlt
    have hcn : c < n := Nat.lt_of_not_le fun hle => by have := hout c b c8 (by omega) hle; omega
    have e1 := (h0 c b c8 (by omega)).2.2 cb
    have hc : f0 c = F a c := Classical.byContradiction fun e => by have := hmin c hcn e; omega
    have hr := h.2 c b (Or.inl hcn) hcn hb
    have := h.1 b (by omega)
    refine ⟨b, hb, ?_, ?_⟩
    · rw [decide_eq_true_eq]; exact hbn
    · rw [decide_eq_false_iff_not]; intro e; apply e; omega
  · have : ∀ b, b < n → f0 b = F a b := fun b hb => by
      have := cu_zero n he b hb
      rw [decide_eq_false_iff_not] at this
      exact Classical.not_not.mp this
    have hz : ∀ m, m ≤ n → cu (fun b => decide (f b ≠ F a b)) m = 0 := by
      intro m
      induction m with
      | zero => intro _; rfl
      | succ m ih => intro hm; unfold cu; rw [ih (by omega)]; simp [keep m (by omega) (this m (by omega))]
    exact hz n (Nat.le_refl _)
