/-! chains as lists of (rider, place where its leg ends) -/
abbrev Ky : Type := Nat × Nat
abbrev Lg : Type := Nat × Nat × Nat × Int × Int
def mx (a b : Int) : Int := if a < b then b else a
section SR
variable (R : Nat) (cy : Nat → Bool) (at0 : Nat → Nat) (st bb : Nat → Int) (F : Nat → Nat → Nat → Int) (goal : Nat) (x0 : Nat) (t0 : Int)
/-- when the rider r would start a leg at x for a box that is there at t -/
def sx (x : Nat) (t : Int) (r : Nat) : Int := mx t (st r + F r (at0 r) x)
def legs : Nat → Int → List Ky → List Lg
  | _, _, [] => []
  | x, t, (r, y) :: ks => (r, x, y, sx at0 st F x t r, sx at0 st F x t r + F r x y) :: legs y (sx at0 st F x t r + F r x y) ks
def lo : Nat → Int → List Ky → Nat × Int
  | x, t, [] => (x, t)
  | x, t, (r, y) :: ks => lo y (sx at0 st F x t r + F r x y) ks
theorem legs_app (a b : List Ky) : ∀ x t, legs at0 st F x t (a ++ b) = legs at0 st F x t a ++ legs at0 st F (lo at0 st F x t a).1 (lo at0 st F x t a).2 b := by
  induction a with
  | nil => intro x t; rfl
  | cons q a ih => intro x t; obtain ⟨r, y⟩ := q; simp only [List.cons_append, legs, lo]; rw [ih]
theorem lo_app (a b : List Ky) : ∀ x t, lo at0 st F x t (a ++ b) = lo at0 st F (lo at0 st F x t a).1 (lo at0 st F x t a).2 b := by
  induction a with
  | nil => intro x t; rfl
  | cons q a ih => intro x t; obtain ⟨r, y⟩ := q; simp only [List.cons_append, lo]; rw [ih]
theorem legs_len (a : List Ky) : ∀ x t, (legs at0 st F x t a).length = a.length := by
  induction a with
  | nil => intro x t; rfl
  | cons q a ih => intro x t; obtain ⟨r, y⟩ := q; simp [legs, ih]
/-- the end of a chain -/
def ed (c : List Ky) : Int := (lo at0 st F x0 t0 c).2
def lastb (pre : List Ky) (s : Int) : Bool := match pre.getLast? with
  | none => true
  | some q => decide (s ≤ bb q.1)
def okr (pre : List Ky) (r : Nat) : Bool := cy r && pre.all (fun q => decide (q.1 ≠ r)) && decide (F r (at0 r) (lo at0 st F x0 t0 pre).1 ≠ 1000000) && lastb bb pre (sx at0 st F (lo at0 st F x0 t0 pre).1 (lo at0 st F x0 t0 pre).2 r)
def okp (pre : List Ky) (r y : Nat) : Bool := decide (x0 ≠ y) && pre.all (fun q => decide (q.2 ≠ y)) && decide (F r (lo at0 st F x0 t0 pre).1 y ≠ 1000000) && decide (sx at0 st F (lo at0 st F x0 t0 pre).1 (lo at0 st F x0 t0 pre).2 r + F r (lo at0 st F x0 t0 pre).1 y ≤ bb r)
/-- all chains that begin so, in the order of the riders and of ps -/
def en (ps : List Nat) : Nat → List Ky → List (List Ky)
  | 0, _ => []
  | d + 1, pre => (List.range R).flatMap (fun r => if okr cy at0 st bb F x0 t0 pre r then ps.flatMap (fun y => if okp at0 st bb F x0 t0 pre r y then (if y = goal then [pre ++ [(r, y)]] else en ps d (pre ++ [(r, y)])) else []) else [])
def lxk : List Ky → List Ky → Bool
  | (r, y) :: a, (r', y') :: b => decide (r < r') || (decide (r = r') && (decide (y < y') || (decide (y = y') && lxk a b)))
  | _, _ => false
def btr (b c : List Ky) : Bool := b.isEmpty || decide (ed at0 st F x0 t0 c < ed at0 st F x0 t0 b) || (decide (ed at0 st F x0 t0 c = ed at0 st F x0 t0 b) && (decide (c.length < b.length) || (decide (c.length = b.length) && lxk c b)))
def kpr (b c : List Ky) : Bool := b.isEmpty || decide (ed at0 st F x0 t0 c < ed at0 st F x0 t0 b) || (decide (ed at0 st F x0 t0 c = ed at0 st F x0 t0 b) && decide (c.length < b.length))
def min5 (b c : List Ky) : List Ky := if btr at0 st F x0 t0 b c then c else b
def kep4 (b c : List Ky) : List Ky := if kpr at0 st F x0 t0 b c then c else b
end SR
theorem foldl_fm {α β γ : Type} (f : γ → β → γ) (g : α → List β) : ∀ (l : List α) (b : γ), List.foldl f b (l.flatMap g) = List.foldl (fun b a => List.foldl f b (g a)) b l := by
  intro l
  induction l with
  | nil => intro b; rfl
  | cons a l ih => intro b; rw [List.flatMap_cons, List.foldl_append, ih]; rfl
theorem lxk_irr : ∀ a, lxk a a = false := by
  intro a
  induction a with
  | nil => rfl
  | cons q a ih => obtain ⟨r, y⟩ := q; simp [lxk, ih]
theorem lxk_tot : ∀ a b : List Ky, a.length = b.length → lxk a b = false → lxk b a = false → a = b := by
  intro a
  induction a with
  | nil => intro b h _ _; cases b with
    | nil => rfl
    | cons _ _ => cases h
  | cons q a ih =>
    intro b h h1 h2
    cases b with
    | nil => cases h
    | cons q' b =>
      obtain ⟨r, y⟩ := q
      obtain ⟨r', y'⟩ := q'
      simp only [lxk, Bool.or_eq_false_iff, decide_eq_false_iff_not, Bool.and_eq_false_iff] at h1 h2
      have er : r = r' := by omega
      subst er
      have ey : y = y' := by
        rcases h1.2 with h | h
        · exact absurd rfl h
        · rcases h2.2 with g | g
          · exact absurd rfl g
          · omega
      subst ey
      have e1 : lxk a b = false := by
        rcases h1.2 with h | h
        · exact absurd rfl h
        · rcases h.2 with g | g
          · exact absurd rfl g
          · exact g
      have e2 : lxk b a = false := by
        rcases h2.2 with h | h
        · exact absurd rfl h
        · rcases h.2 with g | g
          · exact absurd rfl g
          · exact g
      rw [ih b (by simpa using h) e1 e2]
theorem lxk_trans : ∀ a b c : List Ky, lxk a b = true → lxk b c = true → lxk a c = true := by
  intro a
  induction a with
  | nil => intro b c h; simp [lxk] at h
  | cons q a ih =>
    intro b c h1 h2
    cases b with
    | nil => simp [lxk] at h2
    | cons q' b =>
      cases c with
      | nil => simp [lxk] at h2
      | cons q'' c =>
        obtain ⟨r, y⟩ := q
        obtain ⟨r', y'⟩ := q'
        obtain ⟨r'', y''⟩ := q''
        simp only [lxk, Bool.or_eq_true, decide_eq_true_eq, Bool.and_eq_true] at h1 h2 ⊢
        rcases h1 with h1 | ⟨h1, h1' | ⟨h1', h1''⟩⟩ <;> rcases h2 with h2 | ⟨h2, h2' | ⟨h2', h2''⟩⟩
        · left; omega
        · left; omega
        · left; omega
        · left; omega
        · right; exact ⟨by omega, Or.inl (by omega)⟩
        · right; exact ⟨by omega, Or.inl (by omega)⟩
        · left; omega
        · right; exact ⟨by omega, Or.inl (by omega)⟩
        · right; exact ⟨by omega, Or.inr ⟨by omega, ih b c h1'' h2''⟩⟩
