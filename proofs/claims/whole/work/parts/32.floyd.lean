/-! shortest ways: matrices of minutes, 1000000 for none -/
def fstep (k : Nat) (D : Nat → Nat → Int) : Nat → Nat → Int := fun x y => if D x k + D k y < D x y then D x k + D k y else D x y
def fl : Nat → (Nat → Nat → Int) → Nat → Nat → Int
  | 0, D => D
  | n + 1, D => fstep n (fl n D)
/-- single roads -/
def RD0 (E : Nat → Nat → Int) : Prop := ∀ x y, x < 8 → y < 8 → 0 ≤ E x y ∧ (E x y = 1000000 ∨ E x y ≤ 600) ∧ (x ≠ y → 1 ≤ E x y)
/-- what holds of the matrix after n places -/
def FI (n : Nat) (E D : Nat → Nat → Int) : Prop :=
  (∀ x y, x < 8 → y < 8 → 0 ≤ D x y ∧ (D x y = 1000000 ∨ D x y ≤ 600 * 2 ^ n) ∧ (x ≠ y → 1 ≤ D x y) ∧ D x y ≤ E x y) ∧
  (∀ c x y, c < n → x < 8 → y < 8 → D x y ≤ D x c + D c y) ∧
  (∀ x y, x < 8 → y < 8 → x ≠ y → D x y < 1000000 → ∃ c, c < 8 ∧ c ≠ y ∧ E c y < 1000000 ∧ D x c + E c y ≤ D x y) ∧
  (∀ x, x < 8 → (∀ y, y < 8 → E x y = 1000000) → ∀ y, y < 8 → D x y = 1000000) ∧
  (∀ y, y < 8 → (∀ x, x < 8 → E x y = 1000000) → ∀ x, x < 8 → D x y = 1000000)
theorem pow600 : ∀ n, n < 9 → 600 * (2 : Int) ^ n ≤ 153600 := by decide
theorem FI_0 {E : Nat → Nat → Int} (h0 : RD0 E) (hd : ∀ x, x < 8 → E x x = 0 ∨ E x x = 1000000) (hx : ∀ x, x < 8 → E x x = 1000000 → ∀ y, y < 8 → E x y = 1000000) : FI 0 E E := by
  refine ⟨fun x y hx hy => ⟨(h0 x y hx hy).1, ?_, (h0 x y hx hy).2.2, Int.le_refl _⟩, fun c x y hc => absurd hc (Nat.not_lt_zero c), fun x y hx' hy hne hlt => ?_, fun x _ h => h, fun y _ h => h⟩
  · rcases (h0 x y hx hy).2.1 with h | h
    · exact Or.inl h
    · exact Or.inr (by omega)
  · have hxx : E x x = 0 := by
      rcases hd x hx' with h | h
      · exact h
      · have := hx x hx' h y hy
        omega
    exact ⟨x, hx', hne, hlt, by omega⟩
theorem FI_s {n : Nat} {E D : Nat → Nat → Int} (hn : n < 8) (h0 : RD0 E) (h : FI n E D) : FI (n + 1) E (fstep n D) := by
  obtain ⟨a, t, q, o1, o2⟩ := h
  have hp := pow600 n (by omega)
  have e2 : (600 : Int) * 2 ^ (n + 1) = 2 * (600 * 2 ^ n) := by rw [Int.pow_succ]; omega
  have le1 : ∀ x y, x < 8 → y < 8 → fstep n D x y ≤ D x y := fun x y _ _ => by unfold fstep; split <;> omega
  have le2 : ∀ x y, x < 8 → y < 8 → fstep n D x y ≤ D x n + D n y := fun x y _ _ => by unfold fstep; split <;> omega
  have or2 : ∀ x y, fstep n D x y = D x y ∨ (fstep n D x y = D x n + D n y ∧ D x n + D n y < D x y) := fun x y => by
    unfold fstep; split
    · right; exact ⟨rfl, by assumption⟩
    · left; rfl
  refine ⟨fun x y hx hy => ?_, fun c x y hc hx hy => ?_, fun x y hx hy hne hlt => ?_, fun x hx h y hy => ?_, fun y hy h x hx => ?_⟩
  · obtain ⟨b0, b1, b2, b3⟩ := a x y hx hy
    obtain ⟨c0, c1, c2, c3⟩ := a x n hx hn
    obtain ⟨d0, d1, d2, d3⟩ := a n y hn hy
    rcases or2 x y with e | ⟨e, l⟩
    · rw [e]
      exact ⟨b0, by omega, b2, b3⟩
    · rw [e]
      refine ⟨by omega, by omega, fun hne => ?_, by omega⟩
      by_cases hxn : x = n
      · have : n ≠ y := fun h => hne (hxn.trans h)
        have := d2 this
        omega
      · have := c2 hxn
        omega
  · have nn0 := (a n n hn hn).1
    by_cases hcn : c = n
    · subst hcn
      have e1 : fstep c D x c = D x c := by
        rcases or2 x c with e | ⟨e, l⟩
        · exact e
        · omega
      have e3 : fstep c D c y = D c y := by
        rcases or2 c y with e | ⟨e, l⟩
        · exact e
        · omega
      rw [e1, e3]
      exact le2 x y hx hy
    · have hc' : c < n := by omega
      have hc8 : c < 8 := by omega
      have l1 := le1 x y hx hy
      have l2 := le2 x y hx hy
      have t1 := t c x y hc' hx hy
      have t2 := t c n y hc' hn hy
      have t3 := t c x n hc' hx hn
      have p1 := (a n c hn hc8).1
      have p2 := (a c n hc8 hn).1
      rcases or2 x c with e | ⟨e, l⟩ <;> rcases or2 c y with f | ⟨f, m⟩ <;> rw [e, f] <;> omega
  · have lq : ∀ z, z < 8 → z ≠ y → D z y < 1000000 → ∃ c, c < 8 ∧ c ≠ y ∧ E c y < 1000000 ∧ D z c + E c y ≤ D z y := fun z hz hzy hl => q z y hz hy hzy hl
    rcases or2 x y with e | ⟨e, l⟩
    · rw [e] at hlt ⊢
      obtain ⟨c, c8, cy, ce, cl⟩ := lq x hx hne hlt
      have := le1 x c hx c8
      exact ⟨c, c8, cy, ce, by omega⟩
    · rw [e] at hlt ⊢
      have x0 := (a x n hx hn).1
      by_cases hny : n = y
      · subst hny
        have := (a n n hn hn).1
        omega
      · obtain ⟨c, c8, cy, ce, cl⟩ := lq n hn hny (by omega)
        have := le2 x c hx c8
        exact ⟨c, c8, cy, ce, by omega⟩
  · rcases or2 x y with e | ⟨e, l⟩
    · rw [e]; exact o1 x hx h y hy
    · have := o1 x hx h n hn
      have := o1 x hx h y hy
      have := (a n y hn hy).1
      omega
  · rcases or2 x y with e | ⟨e, l⟩
    · rw [e]; exact o2 y hy h x hx
    · have := o2 y hy h n hn
      have := o2 y hy h x hx
      have := (a x n hx hn).1
      omega
theorem FI_n {E : Nat → Nat → Int} (h0 : RD0 E) (hd : ∀ x, x < 8 → E x x = 0 ∨ E x x = 1000000) (hx : ∀ x, x < 8 → E x x = 1000000 → ∀ y, y < 8 → E x y = 1000000) : ∀ n, n ≤ 8 → FI n E (fl n E) := by
  intro n
  induction n with
  | zero => intro _; exact FI_0 h0 hd hx
  | succ n ih => intro hn; exact FI_s (by omega) h0 (ih (by omega))
