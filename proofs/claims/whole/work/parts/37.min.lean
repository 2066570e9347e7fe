theorem lxk_pre : ∀ (p a b : List Ky), lxk (p ++ a) (p ++ b) = lxk a b := by
  intro p
  induction p with
  | nil => intro a b; rfl
  | cons q p ih => intro a b; obtain ⟨r, y⟩ := q; simp [lxk, ih]
theorem lxk_asym {a b : List Ky} (h : lxk a b = true) : lxk b a = false := by
  cases g : lxk b a with
  | false => rfl
  | true => have := lxk_trans a b a h g; rw [lxk_irr] at this; cases this
section MN
variable {R : Nat} {cy : Nat → Bool} {at0 : Nat → Nat} {st bb : Nat → Int} {F : Nat → Nat → Nat → Int} {goal : Nat} {x0 : Nat} {t0 : Int}
theorem en_mem {ps qs : List Nat} (h : ∀ y, y ∈ ps ↔ y ∈ qs) : ∀ d pre c, c ∈ en R cy at0 st bb F goal x0 t0 ps d pre ↔ c ∈ en R cy at0 st bb F goal x0 t0 qs d pre := by
  intro d
  induction d with
  | zero => intro pre c; simp [en]
  | succ d ih =>
    intro pre c
    simp only [en, List.mem_flatMap]
    refine exists_congr fun r => and_congr_right fun _ => ?_
    split
    · simp only [List.mem_flatMap]
      refine exists_congr fun y => ?_
      rw [h y]
      refine and_congr_right fun _ => ?_
      split
      · split
        · exact Iff.rfl
        · exact ih _ _
      · exact Iff.rfl
    · exact Iff.rfl
theorem en_form {ps : List Nat} : ∀ d pre c, c ∈ en R cy at0 st bb F goal x0 t0 ps d pre → ∃ k ks, c = pre ++ k :: ks ∧ (k :: ks).length ≤ d := by
  intro d
  induction d with
  | zero => intro pre c h; simp [en] at h
  | succ d ih =>
    intro pre c h
    simp only [en, List.mem_flatMap] at h
    obtain ⟨r, -, h⟩ := h
    split at h
    · simp only [List.mem_flatMap] at h
      obtain ⟨y, -, h⟩ := h
      split at h
      · split at h
        · simp at h
          exact ⟨(r, y), [], h, by simp⟩
        · obtain ⟨k, ks, e, l⟩ := ih _ _ h
          refine ⟨(r, y), k :: ks, by rw [e]; simp, ?_⟩
          simp only [List.length_cons] at l ⊢
          omega
      · simp at h
    · simp at h
theorem pw_if {α : Type} {Rl : α → α → Prop} {c : Bool} {l : List α} (h : c = true → l.Pairwise Rl) : (if c then l else []).Pairwise Rl := by
  cases c with
  | true => exact h rfl
  | false => exact List.Pairwise.nil
theorem mem_if {α : Type} {c : Bool} {l : List α} {a : α} (h : a ∈ (if c then l else [])) : c = true ∧ a ∈ l := by
  cases c with
  | true => exact ⟨rfl, h⟩
  | false => cases h
abbrev ps4 (goal P : Nat) : List Nat := goal :: (List.range P).filter (fun y => decide (y ≠ goal))
theorem en_pw {P : Nat} : ∀ d pre, (en R cy at0 st bb F goal x0 t0 (ps4 goal P) d pre).Pairwise (fun a b => a.length = b.length → lxk a b = true) := by
  intro d
  induction d with
  | zero => intro pre; simp [en]
  | succ d ih =>
    intro pre
    unfold en
    rw [List.pairwise_flatMap]
    refine ⟨fun r _ => pw_if fun _ => ?_, ?_⟩
    · rw [List.pairwise_flatMap]
      refine ⟨fun y _ => pw_if fun _ => ?_, ?_⟩
      · by_cases e : y = goal
        · rw [if_pos e]; exact List.pairwise_singleton _ _
        · rw [if_neg e]; exact ih _
      · rw [List.pairwise_cons]
        have key : ∀ y, y ≠ goal → ∀ c, c ∈ (if okp at0 st bb F x0 t0 pre r y then (if y = goal then [pre ++ [(r, y)]] else en R cy at0 st bb F goal x0 t0 (ps4 goal P) d (pre ++ [(r, y)])) else []) → ∃ k ks, c = pre ++ (r, y) :: k :: ks := fun y hy c hc => by
          have := (mem_if hc).2
          rw [if_neg hy] at this
          obtain ⟨k, ks, e, -⟩ := en_form _ _ _ this
          exact ⟨k, ks, by rw [e]; simp⟩
        refine ⟨fun y hy c hc c' hc' hl => ?_, ?_⟩
        · obtain ⟨k, ks, e⟩ := key y (by simpa using (List.mem_filter.mp hy).2) c' hc'
          have := (mem_if hc).2
          rw [if_pos rfl] at this
          simp at this
          rw [this, e] at hl
          simp at hl
        · have : ((List.range P).filter (fun y => decide (y ≠ goal))).Pairwise (fun a b => a < b) := List.Pairwise.filter _ List.pairwise_lt_range
          refine List.Pairwise.imp_of_mem (fun {y y'} hy hy' hlt c hc c' hc' hl => ?_) this
          obtain ⟨k, ks, e⟩ := key y (by simpa using (List.mem_filter.mp hy).2) c hc
          obtain ⟨k', ks', e'⟩ := key y' (by simpa using (List.mem_filter.mp hy').2) c' hc'
          rw [e, e', lxk_pre]
          simp [lxk, hlt]
    · refine List.Pairwise.imp (fun {r r'} hlt c hc c' hc' hl => ?_) (List.pairwise_lt_range (n := R))
      have key : ∀ r c, c ∈ (if okr cy at0 st bb F x0 t0 pre r then (ps4 goal P).flatMap (fun y => if okp at0 st bb F x0 t0 pre r y then (if y = goal then [pre ++ [(r, y)]] else en R cy at0 st bb F goal x0 t0 (ps4 goal P) d (pre ++ [(r, y)])) else []) else []) → ∃ y ks, c = pre ++ (r, y) :: ks := fun r c hc => by
        have h := (mem_if hc).2
        rw [List.mem_flatMap] at h
        obtain ⟨y, -, h⟩ := h
        have h := (mem_if h).2
        by_cases e : y = goal
        · rw [if_pos e] at h
          simp at h
          exact ⟨y, [], h⟩
        · rw [if_neg e] at h
          obtain ⟨k, ks, e, -⟩ := en_form _ _ _ h
          exact ⟨y, k :: ks, by rw [e]; simp⟩
      obtain ⟨y, ks, e⟩ := key r c hc
      obtain ⟨y', ks', e'⟩ := key r' c' hc'
      rw [e, e', lxk_pre]
      simp [lxk, hlt]
/-- no better than m -/
abbrev nb (at0 : Nat → Nat) (st : Nat → Int) (F : Nat → Nat → Nat → Int) (x0 : Nat) (t0 : Int) (m c : List Ky) : Prop := btr at0 st F x0 t0 m c = false
theorem nb_iff {m c : List Ky} (hm : m ≠ []) : nb at0 st F x0 t0 m c ↔ (ed at0 st F x0 t0 m ≤ ed at0 st F x0 t0 c ∧ (ed at0 st F x0 t0 c = ed at0 st F x0 t0 m → m.length ≤ c.length ∧ (c.length = m.length → lxk c m = false))) := by
  unfold nb btr
  have : m.isEmpty = false := by cases m with
    | nil => exact absurd rfl hm
    | cons _ _ => rfl
  rw [this]
  simp only [Bool.false_or, Bool.or_eq_false_iff, Bool.and_eq_false_iff, decide_eq_false_iff_not]
  constructor
  · rintro ⟨h1, h2⟩
    refine ⟨by omega, fun e => ?_⟩
    rcases h2 with h2 | ⟨h2, h3⟩
    · exact absurd e h2
    · exact ⟨by omega, fun el => h3.resolve_left (fun q => q el)⟩
  · rintro ⟨h1, h2⟩
    refine ⟨by omega, ?_⟩
    by_cases e : ed at0 st F x0 t0 c = ed at0 st F x0 t0 m
    · obtain ⟨h3, h4⟩ := h2 e
      refine Or.inr ⟨by omega, ?_⟩
      by_cases el : c.length = m.length
      · exact Or.inr (h4 el)
      · exact Or.inl el
    · exact Or.inl e
theorem nb_trans {a b c : List Ky} (ha : a ≠ []) (hb : b ≠ []) (h1 : nb at0 st F x0 t0 a b) (h2 : nb at0 st F x0 t0 b c) : nb at0 st F x0 t0 a c := by
  rw [nb_iff ha] at h1 ⊢
  rw [nb_iff hb] at h2
  refine ⟨by omega, fun e => ?_⟩
  have e1 : ed at0 st F x0 t0 b = ed at0 st F x0 t0 a := by omega
  have e2 : ed at0 st F x0 t0 c = ed at0 st F x0 t0 b := by omega
  obtain ⟨l1, k1⟩ := h1.2 e1
  obtain ⟨l2, k2⟩ := h2.2 e2
  refine ⟨by omega, fun el => ?_⟩
  have f1 : b.length = a.length := by omega
  have f2 : c.length = b.length := by omega
  have g1 := k1 f1
  have g2 := k2 f2
  cases g : lxk c a with
  | false => rfl
  | true =>
    cases g3 : lxk a b with
    | true => rw [lxk_trans c a b g g3] at g2; cases g2
    | false =>
      have := lxk_tot a b f1.symm g3 g1
      subst this
      rw [g] at g2; cases g2
theorem nb_self {m : List Ky} (hm : m ≠ []) : nb at0 st F x0 t0 m m := by
  rw [nb_iff hm]
  exact ⟨Int.le_refl _, fun _ => ⟨Nat.le_refl _, fun _ => lxk_irr m⟩⟩
theorem nb_ne {m c : List Ky} (h : nb at0 st F x0 t0 m c) : m ≠ [] := fun e => by subst e; simp [nb, btr] at h
theorem fold5 : ∀ (E : List (List Ky)) (b : List Ky), (∀ c ∈ E, c ≠ []) → (List.foldl (min5 at0 st F x0 t0) b E = b ∨ List.foldl (min5 at0 st F x0 t0) b E ∈ E) ∧ (∀ c ∈ E, nb at0 st F x0 t0 (List.foldl (min5 at0 st F x0 t0) b E) c) ∧ (b ≠ [] → nb at0 st F x0 t0 (List.foldl (min5 at0 st F x0 t0) b E) b) := by
  intro E
  induction E with
  | nil => intro b _; exact ⟨Or.inl rfl, (fun c h => by cases h), fun h => nb_self h⟩
  | cons c E ih =>
    intro b hne
    rw [List.foldl_cons]
    obtain ⟨i1, i2, i3⟩ := ih (min5 at0 st F x0 t0 b c) (fun c' h => hne c' (List.mem_cons_of_mem _ h))
    have hc := hne c List.mem_cons_self
    cases g : btr at0 st F x0 t0 b c with
    | true =>
      have e : min5 at0 st F x0 t0 b c = c := by unfold min5; rw [g]; rfl
      rw [e] at i1 i2 i3 ⊢
      refine ⟨Or.inr ?_, fun c' h => ?_, fun hb => ?_⟩
      · rcases i1 with h | h
        · rw [h]; exact List.mem_cons_self
        · exact List.mem_cons_of_mem _ h
      · rcases List.mem_cons.mp h with rfl | h
        · exact i3 hc
        · exact i2 c' h
      · refine nb_trans (nb_ne (i3 hc)) hc (i3 hc) ?_
        rw [nb_iff hc]
        simp only [btr, Bool.or_eq_true, Bool.and_eq_true, decide_eq_true_eq] at g
        have hbe : b.isEmpty = false := by cases b with
          | nil => exact absurd rfl hb
          | cons _ _ => rfl
        rw [hbe] at g
        rcases g with (g | g) | ⟨g, g2⟩
        · cases g
        · exact ⟨by omega, fun e => by omega⟩
        · refine ⟨by omega, fun _ => ?_⟩
          rcases g2 with g2 | ⟨g2, g3⟩
          · exact ⟨by omega, fun e => by omega⟩
          · exact ⟨by omega, fun _ => lxk_asym g3⟩
    | false =>
      have e : min5 at0 st F x0 t0 b c = b := by unfold min5; rw [g]; rfl
      rw [e] at i1 i2 i3 ⊢
      have hb : b ≠ [] := nb_ne (c := c) g
      refine ⟨?_, fun c' h => ?_, i3⟩
      · rcases i1 with h | h
        · exact Or.inl h
        · exact Or.inr (List.mem_cons_of_mem _ h)
      · rcases List.mem_cons.mp h with rfl | h
        · exact nb_trans (nb_ne (i3 hb)) hb (i3 hb) g
        · exact i2 c' h
theorem fold4 : ∀ (E : List (List Ky)) (b : List Ky), (∀ c ∈ E, c ≠ []) → E.Pairwise (fun a b => a.length = b.length → lxk a b = true) → (b = [] ∨ ∀ c ∈ E, b.length = c.length → lxk b c = true) → (List.foldl (kep4 at0 st F x0 t0) b E = b ∨ List.foldl (kep4 at0 st F x0 t0) b E ∈ E) ∧ (∀ c ∈ E, nb at0 st F x0 t0 (List.foldl (kep4 at0 st F x0 t0) b E) c) ∧ (b ≠ [] → nb at0 st F x0 t0 (List.foldl (kep4 at0 st F x0 t0) b E) b) := by
  intro E
  induction E with
  | nil => intro b _ _ _; exact ⟨Or.inl rfl, (fun c h => by cases h), fun h => nb_self h⟩
  | cons c E ih =>
    intro b hne hpw hb0
    rw [List.pairwise_cons] at hpw
    rw [List.foldl_cons]
    have hc := hne c List.mem_cons_self
    have hne' : ∀ c' ∈ E, c' ≠ [] := fun c' h => hne c' (List.mem_cons_of_mem _ h)
    cases g : kpr at0 st F x0 t0 b c with
    | true =>
      have e : kep4 at0 st F x0 t0 b c = c := by unfold kep4; rw [g]; rfl
      rw [e]
      obtain ⟨i1, i2, i3⟩ := ih c hne' hpw.2 (Or.inr hpw.1)
      refine ⟨Or.inr ?_, fun c' h => ?_, fun hb => ?_⟩
      · rcases i1 with h | h
        · rw [h]; exact List.mem_cons_self
        · exact List.mem_cons_of_mem _ h
      · rcases List.mem_cons.mp h with rfl | h
        · exact i3 hc
        · exact i2 c' h
      · refine nb_trans (nb_ne (i3 hc)) hc (i3 hc) ?_
        rw [nb_iff hc]
        simp only [kpr, Bool.or_eq_true, Bool.and_eq_true, decide_eq_true_eq] at g
        have hbe : b.isEmpty = false := by cases b with
          | nil => exact absurd rfl hb
          | cons _ _ => rfl
        rw [hbe] at g
        rcases g with (g | g) | ⟨g, g2⟩
        · cases g
        · exact ⟨by omega, fun e => by omega⟩
        · exact ⟨by omega, fun _ => ⟨by omega, fun e => by omega⟩⟩
    | false =>
      have e : kep4 at0 st F x0 t0 b c = b := by unfold kep4; rw [g]; rfl
      rw [e]
      have hb : b ≠ [] := fun e => by subst e; simp [kpr] at g
      have hbl := hb0.resolve_left hb
      obtain ⟨i1, i2, i3⟩ := ih b hne' hpw.2 (Or.inr (fun c' h => hbl c' (List.mem_cons_of_mem _ h)))
      refine ⟨?_, fun c' h => ?_, i3⟩
      · rcases i1 with h | h
        · exact Or.inl h
        · exact Or.inr (List.mem_cons_of_mem _ h)
      · rcases List.mem_cons.mp h with rfl | h
        · refine nb_trans (nb_ne (i3 hb)) hb (i3 hb) ?_
          rw [nb_iff hb]
          simp only [kpr, Bool.or_eq_false_iff, Bool.and_eq_false_iff, decide_eq_false_iff_not] at g
          obtain ⟨⟨-, g1⟩, g2⟩ := g
          refine ⟨by omega, fun e => ?_⟩
          have gl : ¬ c'.length < b.length := g2.resolve_left (fun q => q e)
          exact ⟨by omega, fun el => lxk_asym (hbl c' List.mem_cons_self el.symm)⟩
        · exact i2 c' h
/-- both searches come to one chain -/
theorem best_eq {P : Nat} (hg : goal < P) : List.foldl (kep4 at0 st F x0 t0) [] (en R cy at0 st bb F goal x0 t0 (ps4 goal P) 3 []) = List.foldl (min5 at0 st F x0 t0) [] (en R cy at0 st bb F goal x0 t0 (List.range P) 3 []) := by
  have hm : ∀ c, c ∈ en R cy at0 st bb F goal x0 t0 (ps4 goal P) 3 [] ↔ c ∈ en R cy at0 st bb F goal x0 t0 (List.range P) 3 [] := fun c => en_mem (fun y => by
    simp only [ps4, List.mem_cons, List.mem_filter, List.mem_range, decide_eq_true_eq]
    omega) 3 [] c
  have hne : ∀ (ps : List Nat) c, c ∈ en R cy at0 st bb F goal x0 t0 ps 3 [] → c ≠ [] := fun ps c h => by
    obtain ⟨k, ks, e, -⟩ := en_form _ _ _ h
    rw [e]; simp
  obtain ⟨a1, a2, -⟩ := fold4 (at0 := at0) (st := st) (F := F) (x0 := x0) (t0 := t0) _ [] (hne _) (en_pw (P := P) (cy := cy) (bb := bb) (goal := goal) (R := R) 3 []) (Or.inl rfl)
  obtain ⟨b1, b2, -⟩ := fold5 (at0 := at0) (st := st) (F := F) (x0 := x0) (t0 := t0) (en R cy at0 st bb F goal x0 t0 (List.range P) 3 []) [] (hne _)
  generalize hE4 : en R cy at0 st bb F goal x0 t0 (ps4 goal P) 3 [] = E4 at *
  generalize hE5 : en R cy at0 st bb F goal x0 t0 (List.range P) 3 [] = E5 at *
  generalize hm4 : List.foldl (kep4 at0 st F x0 t0) [] E4 = m4 at *
  generalize hm5 : List.foldl (min5 at0 st F x0 t0) [] E5 = m5 at *
  rcases a1 with h4 | h4
  · rcases b1 with h5 | h5
    · rw [h4, h5]
    · exact absurd h4 (nb_ne (a2 m5 ((hm m5).mpr h5)))
  · have n5 : m5 ≠ [] := nb_ne (b2 m4 ((hm m4).mp h4))
    have h5 : m5 ∈ E5 := b1.resolve_left n5
    have q1 := b2 m4 ((hm m4).mp h4)
    have q2 := a2 m5 ((hm m5).mpr h5)
    have n4 : m4 ≠ [] := nb_ne q2
    rw [nb_iff n5] at q1
    rw [nb_iff n4] at q2
    obtain ⟨l1, k1⟩ := q1.2 (by omega)
    obtain ⟨l2, k2⟩ := q2.2 (by omega)
    exact lxk_tot m4 m5 (by omega) (k1 (by omega)) (k2 (by omega))
end MN
