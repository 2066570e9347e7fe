/-! the model's search -/
theorem mxI_mx {a b : Int} (ha : -2147483648 ≤ a ∧ a ≤ 2147483647) (hb : -2147483648 ≤ b ∧ b ≤ 2147483647) : mxI a b = mx a b := by
  unfold mxI mx
  rw [w0 ha.1 ha.2, w0 hb.1 hb.2]
def vll (R P : Nat) (ls : List Lg) : Prop := ∀ l ∈ ls, l.1 < R ∧ l.2.1 < P ∧ l.2.2.1 < P ∧ 0 ≤ l.2.2.2.1 ∧ l.2.2.2.1 ≤ l.2.2.2.2 ∧ l.2.2.2.2 ≤ 4319
def S5 (σ : nS) (base j : Nat) (l : Lg) : Prop := σ.1 (12, base, 0) j = (l.1 : Int) ∧ σ.1 (12, base + 1, 0) j = (l.2.2.1 : Int) ∧ σ.1 (12, base + 2, 0) j = l.2.2.2.1 ∧ σ.1 (12, base + 3, 0) j = l.2.2.2.2
def Ls5 (σ : nS) (base : Nat) (ls : List Lg) : Prop := ∀ j l, ls[j]? = some l → S5 σ base j l
theorem S5.of {σ σ' : nS} {base j : Nat} {l : Lg} (h : S5 σ base j l) (e : ∀ f, f < 4 → σ'.1 (12, base + f, 0) j = σ.1 (12, base + f, 0) j) : S5 σ' base j l := by
  obtain ⟨h0, h1, h2, h3⟩ := h
  exact ⟨(e 0 (by omega)).trans h0, (e 1 (by omega)).trans h1, (e 2 (by omega)).trans h2, (e 3 (by omega)).trans h3⟩
theorem Ls5.of {σ σ' : nS} {base : Nat} {ls : List Lg} (h : Ls5 σ base ls) (e : ∀ f j, f < 4 → j < ls.length → σ'.1 (12, base + f, 0) j = σ.1 (12, base + f, 0) j) : Ls5 σ' base ls := fun j l hj => (h j l hj).of (fun f hf => e f j hf (List.getElem?_eq_some_iff.mp hj).1)
/-- what the searches read of the model -/
def Dat5 (R P : Nat) (cy : Nat → Bool) (at0 : Nat → Nat) (st bb : Nat → Int) (F E : Nat → Nat → Nat → Int) (kind : Int) (σ : nS) : Prop :=
  σ.1 (11, 0, 0) 12 = R ∧ σ.1 (11, 0, 0) 1 = P ∧ R ≤ 6 ∧ P ≤ 8 ∧ ∀ r, r < R → ((cy r = true ↔ (σ.1 (12, 8, 0) r = 0 ∧ bt (σ.1 (12, 5, 0) r) kind)) ∧ (σ.1 (12, 8, 0) r = 0 ∨ σ.1 (12, 8, 0) r = 1)) ∧ (σ.1 (12, 6, 0) r = at0 r ∧ at0 r < P) ∧ (mx (σ.1 (12, 7, 0) r) (σ.1 (12, 3, 0) r) = st r ∧ 0 ≤ σ.1 (12, 7, 0) r ∧ σ.1 (12, 7, 0) r ≤ 4919 ∧ 0 ≤ σ.1 (12, 3, 0) r ∧ σ.1 (12, 3, 0) r ≤ 4319) ∧ (σ.1 (12, 4, 0) r = bb r ∧ 0 ≤ bb r ∧ bb r ≤ 4319) ∧ ctx5 σ P r (E r) ∧ FI 8 (E r) (F r) ∧ (∀ x : Nat, P ≤ x → x < 8 → ¬ bt (σ.1 (12, 2, 0) r) x)
theorem scr_no {κ : nKey} {i : Nat} (h : ¬ (κ.1 = 4 ∨ κ.1 = 5 ∨ (κ.1 = 12 ∧ 19 ≤ κ.2.1) ∨ (κ.1 = 11 ∧ (i = 24 ∨ i = 34)) ∨ κ.1 = 13)) : ¬ Scr κ i := h
theorem Eqv.k12 {σ σ' : nS} (e : Eqv σ σ') {k : Nat} (hk : k < 19) : σ'.1 (12, k, 0) = σ.1 (12, k, 0) := funext fun i => e.2 _ _ (by unfold Scr; simp; omega)
theorem Eqv.k11 {σ σ' : nS} (e : Eqv σ σ') {i : Nat} (h1 : i ≠ 24) (h2 : i ≠ 34) : σ'.1 (11, 0, 0) i = σ.1 (11, 0, 0) i := e.2 _ _ (by unfold Scr; simp; omega)
theorem Eqv.kk {σ σ' : nS} (e : Eqv σ σ') {c a b : Nat} (hc : c = 0 ∨ c = 1 ∨ c = 2 ∨ c = 3 ∨ c = 6 ∨ c = 7 ∨ c = 8 ∨ c = 9 ∨ c = 10) : σ'.1 (c, a, b) = σ.1 (c, a, b) := funext fun i => e.2 _ _ (by unfold Scr; simp; omega)
theorem Dat5.eqv {R P : Nat} {cy : Nat → Bool} {at0 : Nat → Nat} {st bb : Nat → Int} {F E : Nat → Nat → Nat → Int} {kind : Int} {σ σ' : nS} (h : Dat5 R P cy at0 st bb F E kind σ) (e : Eqv σ σ') : Dat5 R P cy at0 st bb F E kind σ' := by
  unfold Dat5 ctx5 at h ⊢
  rw [e.k11 (i := 12) (by decide) (by decide), e.k11 (i := 1) (by decide) (by decide), e.k12 (k := 8) (by decide), e.k12 (k := 5) (by decide), e.k12 (k := 6) (by decide), e.k12 (k := 7) (by decide), e.k12 (k := 3) (by decide), e.k12 (k := 4) (by decide), e.k12 (k := 0) (by decide), e.k12 (k := 2) (by decide)]
  exact h
theorem x5_mayCarry {K : List nKey} {σ : nS} {r : Nat} {kind : Int} {c : Bool} {k : Int → nS → Prop} (hr : r < 6) (hc : c = true ↔ (σ.1 (12, 8, 0) r = 0 ∧ bt (σ.1 (12, 5, 0) r) kind)) (hf : σ.1 (12, 8, 0) r = 0 ∨ σ.1 (12, 8, 0) r = 1) (h : k (b2i (c = true)) σ) : P_X5_mayCarry K σ (r : Int) kind k := by
  unfold P_X5_mayCarry
  simp only [Int.toNat_natCast]
  rw [w0 (x := σ.1 (12, 8, 0) r) (by omega) (by omega)]
  refine ⟨by omega, by omega, fun h1 => ?_, fun h1 => ⟨by omega, by omega, br_bt1 (fun h2 => ?_) (fun h2 => ?_)⟩⟩
  · rw [b2i_f (fun e => h1 (hc.mp e).1)] at h; exact h
  · rw [b2i_t (hc.mpr ⟨h1, h2⟩)] at h; exact h
  · rw [b2i_f (fun e => h2 (hc.mp e).2)] at h; exact h
section S5S
variable {R P : Nat} {cy : Nat → Bool} {at0 : Nat → Nat} {st bb : Nat → Int} {F E : Nat → Nat → Nat → Int} {goal x0 : Nat} {t0 kind : Int}
def Bst5 (R P : Nat) (at0 : Nat → Nat) (st : Nat → Int) (F : Nat → Nat → Nat → Int) (x0 : Nat) (t0 : Int) (σ : nS) (c : List Ky) : Prop := vll R P (legs at0 st F x0 t0 c) ∧ c.length ≤ 3 ∧ σ.1 (11, 0, 0) 34 = (c.length : Int) ∧ Ls5 σ 24 (legs at0 st F x0 t0 c)
theorem legs_key {c : List Ky} : ∀ {x : Nat} {t : Int} {j : Nat} {l : Lg}, (legs at0 st F x t c)[j]? = some l → c[j]? = some (l.1, l.2.2.1) := by
  induction c with
  | nil => intro x t j l h; simp [legs] at h
  | cons q c ih =>
    intro x t j l h
    obtain ⟨r, y⟩ := q
    cases j with
    | zero => simp [legs] at h; subst h; rfl
    | succ j => simp only [legs, List.getElem?_cons_succ] at h ⊢; exact ih h
theorem legs_last {c : List Ky} (hc : c ≠ []) : ∃ l, (legs at0 st F x0 t0 c)[c.length - 1]? = some l ∧ l.2.2.2.2 = ed at0 st F x0 t0 c ∧ l.2.2.1 = (lo at0 st F x0 t0 c).1 ∧ ∃ q, c.getLast? = some q ∧ q.1 = l.1 := by
  obtain ⟨a, q, e⟩ : ∃ a q, c = a ++ [q] := ⟨c.dropLast, c.getLast hc, (List.dropLast_concat_getLast hc).symm⟩
  subst e
  obtain ⟨r, y⟩ := q
  refine ⟨(r, (lo at0 st F x0 t0 a).1, y, sx at0 st F (lo at0 st F x0 t0 a).1 (lo at0 st F x0 t0 a).2 r, sx at0 st F (lo at0 st F x0 t0 a).1 (lo at0 st F x0 t0 a).2 r + F r (lo at0 st F x0 t0 a).1 y), ?_, ?_, ?_, (r, y), by simp, rfl⟩
  · rw [legs_app, List.getElem?_append_right (by rw [legs_len]; simp), legs_len]
    simp [legs]
  · unfold ed; rw [lo_app]; rfl
  · rw [lo_app]; rfl
theorem lo_rng {c : List Ky} (hv : vll R P (legs at0 st F x0 t0 c)) (hx : x0 < P) (ht : 0 ≤ t0 ∧ t0 ≤ 4319) : (lo at0 st F x0 t0 c).1 < P ∧ 0 ≤ (lo at0 st F x0 t0 c).2 ∧ (lo at0 st F x0 t0 c).2 ≤ 4319 := by
  by_cases hc : c = []
  · subst hc; exact ⟨hx, ht.1, ht.2⟩
  · obtain ⟨l, hl, he, hy, -⟩ := legs_last (at0 := at0) (st := st) (F := F) (x0 := x0) (t0 := t0) hc
    have := hv l (List.mem_of_getElem? hl)
    unfold ed at he
    rw [← he, ← hy]
    omega
theorem x5_lex {K : List nKey} {k : Int → nS → Prop} {c b : List Ky} (hlen : c.length = b.length) (h3 : c.length ≤ 3) (hvc : vll R P (legs at0 st F x0 t0 c)) (hvb : vll R P (legs at0 st F x0 t0 b)) (hR : R ≤ 6) (hP : P ≤ 8) {σ : nS} (hc : Ls5 σ 20 (legs at0 st F x0 t0 c)) (hb : Ls5 σ 24 (legs at0 st F x0 t0 b)) :
    ∀ (m j : Nat), j + m = c.length → k (b2i (lxk (c.drop j) (b.drop j) = true)) σ → P_X5_isBetter_L71 K k (c.length : Int) (m + 1) (j : Int) σ := by
  intro m
  induction m with
  | zero =>
    intro j hj hk
    have hj' : j = c.length := by omega
    unfold P_X5_isBetter_L71
    rw [w0 (x := (j : Int)) (by omega) (by omega), w0 (x := (c.length : Int)) (by omega) (by omega)]
    refine ⟨fun _ => ?_, fun h => absurd h (by omega)⟩
    rw [List.drop_eq_nil_of_le (by omega), b2i_f (by simp [lxk])] at hk
    exact hk
  | succ m ih =>
    intro j hj hk
    obtain ⟨l, hl⟩ : ∃ l, (legs at0 st F x0 t0 c)[j]? = some l := ⟨_, List.getElem?_eq_getElem (by rw [legs_len]; omega)⟩
    obtain ⟨l', hl'⟩ : ∃ l, (legs at0 st F x0 t0 b)[j]? = some l := ⟨_, List.getElem?_eq_getElem (by rw [legs_len]; omega)⟩
    have k1 := legs_key hl
    have k2 := legs_key hl'
    have d1 : c.drop j = (l.1, l.2.2.1) :: c.drop (j + 1) := by rw [List.drop_eq_getElem_cons (by omega)]; congr 1; exact Option.some.inj ((List.getElem?_eq_getElem _).symm.trans k1)
    have d2 : b.drop j = (l'.1, l'.2.2.1) :: b.drop (j + 1) := by rw [List.drop_eq_getElem_cons (by omega)]; congr 1; exact Option.some.inj ((List.getElem?_eq_getElem _).symm.trans k2)
    rw [d1, d2] at hk
    have v1 := hvc l (List.mem_of_getElem? hl)
    have v2 := hvb l' (List.mem_of_getElem? hl')
    obtain ⟨a1, a2, -, -⟩ := hc j l hl
    obtain ⟨b1, b2, -, -⟩ := hb j l' hl'
    unfold P_X5_isBetter_L71
    simp only [Int.toNat_natCast]
    rw [w0 (x := (j : Int)) (by omega) (by omega), w0 (x := (c.length : Int)) (by omega) (by omega), a1, b1, a2, b2, w0 (x := (l.1 : Int)) (by omega) (by omega), w0 (x := (l'.1 : Int)) (by omega) (by omega), w0 (x := (l.2.2.1 : Int)) (by omega) (by omega), w0 (x := (l'.2.2.1 : Int)) (by omega) (by omega)]
    refine ⟨fun h => absurd h (by omega), fun _ => ⟨by omega, by omega, by omega, by omega, fun e => ⟨by omega, by omega, by omega, by omega, fun e2 x12 ex => ?_, fun e2 => ⟨by omega, by omega, by omega, by omega, fun h => ?_, fun h => ?_⟩⟩, fun e => ⟨by omega, by omega, by omega, by omega, fun h => ?_, fun h => ?_⟩⟩⟩
    · subst ex
      refine ih (j + 1) (by omega) ?_
      have e' : l.1 = l'.1 := by omega
      have e2' : l.2.2.1 = l'.2.2.1 := by omega
      have : lxk ((l.1, l.2.2.1) :: c.drop (j + 1)) ((l'.1, l'.2.2.1) :: b.drop (j + 1)) = lxk (c.drop (j + 1)) (b.drop (j + 1)) := by simp [lxk, e', e2']
      rw [this] at hk; exact hk
    · rw [b2i_f (by simp only [lxk, Bool.or_eq_true, decide_eq_true_eq, Bool.and_eq_true]; omega)] at hk; exact hk
    · rw [b2i_t (by simp only [lxk, Bool.or_eq_true, decide_eq_true_eq, Bool.and_eq_true]; right; exact ⟨by omega, Or.inl (by omega)⟩)] at hk; exact hk
    · rw [b2i_f (by simp only [lxk, Bool.or_eq_true, decide_eq_true_eq, Bool.and_eq_true]; omega)] at hk; exact hk
    · rw [b2i_t (by simp only [lxk, Bool.or_eq_true, decide_eq_true_eq, Bool.and_eq_true]; left; omega)] at hk; exact hk
theorem x5_isBetter {K : List nKey} {k : Int → nS → Prop} {c b : List Ky} {n : Nat} (hn : n = c.length) (hne : c ≠ []) (h3 : c.length ≤ 3) (hvc : vll R P (legs at0 st F x0 t0 c)) (hR : R ≤ 6) (hP : P ≤ 8) {σ : nS} (hc : Ls5 σ 20 (legs at0 st F x0 t0 c)) (hb : Bst5 R P at0 st F x0 t0 σ b) (hk : k (b2i (btr at0 st F x0 t0 b c = true)) σ) : P_X5_isBetter K σ (n : Int) k := by
  subst hn
  obtain ⟨b1, b2, b3, b4⟩ := hb
  unfold P_X5_isBetter
  rw [b3, w0 (x := (b.length : Int)) (by omega) (by omega), w0 (x := (c.length : Int)) (by omega) (by omega)]
  refine ⟨fun hb0 => ?_, fun hb0 => ?_⟩
  · have hbe : b ≠ [] := fun e => by subst e; exact hb0 rfl
    have hbi : b.isEmpty = false := by cases b with
      | nil => exact absurd rfl hbe
      | cons _ _ => rfl
    have cl : 1 ≤ c.length := List.length_pos_iff.mpr hne
    have bl : 1 ≤ b.length := List.length_pos_iff.mpr hbe
    obtain ⟨l, hl, he, -⟩ := legs_last (at0 := at0) (st := st) (F := F) (x0 := x0) (t0 := t0) hne
    obtain ⟨l', hl', he', -⟩ := legs_last (at0 := at0) (st := st) (F := F) (x0 := x0) (t0 := t0) hbe
    have v1 := hvc l (List.mem_of_getElem? hl)
    have v2 := b1 l' (List.mem_of_getElem? hl')
    have q1 := (hc _ _ hl).2.2.2
    have q2 := (b4 _ _ hl').2.2.2
    refine ⟨by omega, by omega, fun x26 e26 => ⟨by omega, by omega, fun x29 e29 => ?_⟩⟩
    rw [show ((c.length : Int) - 1).toNat = c.length - 1 by omega, q1, he] at e26
    rw [show ((b.length : Int) - 1).toNat = b.length - 1 by omega, q2, he'] at e29
    rw [w0 (x := x26) (by omega) (by omega), w0 (x := x29) (by omega) (by omega)]
    have hbt : btr at0 st F x0 t0 b c = (decide (x26 < x29) || (decide (x26 = x29) && (decide (c.length < b.length) || (decide (c.length = b.length) && lxk c b)))) := by
      unfold btr; rw [hbi, e26, e29]; simp
    rw [hbt] at hk
    refine ⟨fun e => ⟨fun e2 => ?_, fun e2 => ⟨fun h => ?_, fun h => ?_⟩⟩, fun e => ⟨fun h => ?_, fun h => ?_⟩⟩
    · refine ⟨c.length + 1, x5_lex (by omega) h3 hvc b1 hR hP hc b4 c.length 0 (by omega) ?_⟩
      have : (decide (x26 < x29) || (decide (x26 = x29) && (decide (c.length < b.length) || (decide (c.length = b.length) && lxk c b)))) = lxk c b := by
        have e2' : c.length = b.length := by omega
        simp [e, e2']
      rw [this] at hk; exact hk
    · rw [b2i_f (by simp only [Bool.or_eq_true, decide_eq_true_eq, Bool.and_eq_true]; omega)] at hk; exact hk
    · rw [b2i_t (by simp only [Bool.or_eq_true, decide_eq_true_eq, Bool.and_eq_true]; right; exact ⟨e, Or.inl (by omega)⟩)] at hk; exact hk
    · rw [b2i_f (by simp only [Bool.or_eq_true, decide_eq_true_eq, Bool.and_eq_true]; omega)] at hk; exact hk
    · rw [b2i_t (by simp only [Bool.or_eq_true, decide_eq_true_eq, Bool.and_eq_true]; left; omega)] at hk; exact hk
  · have hbe : b = [] := List.length_eq_zero_iff.mp (by omega)
    subst hbe
    rw [b2i_t (by simp [btr])] at hk; exact hk
end S5S
