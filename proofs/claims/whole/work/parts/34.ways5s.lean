/-- nothing but a cell changes -/
def OnlyK (κ : nKey) (σ σ' : nS) : Prop := σ'.2 = σ.2 ∧ ∀ j i, j ≠ κ → σ'.1 j i = σ.1 j i
theorem OnlyK.rf {κ : nKey} {σ : nS} : OnlyK κ σ σ := ⟨rfl, fun _ _ _ => rfl⟩
theorem OnlyK.tr {κ : nKey} {a b c : nS} (h : OnlyK κ a b) (g : OnlyK κ b c) : OnlyK κ a c := ⟨g.1.trans h.1, fun j i hj => (g.2 j i hj).trans (h.2 j i hj)⟩
theorem OnlyK.s1 {κ : nKey} {σ : nS} {k : Nat} {v : Int} : OnlyK κ σ (s1 σ κ k v) := ⟨rfl, fun j i hj => by rw [s1_k hj]⟩
theorem OnlyK.at {κ j : nKey} {σ σ' : nS} (h : OnlyK κ σ σ') (hj : j ≠ κ) : σ'.1 j = σ.1 j := funext fun i => h.2 j i hj
theorem OnlyK.eqv {κ : nKey} {σ σ' : nS} (h : OnlyK κ σ σ') (hs : ∀ i, Scr κ i) : Eqv σ σ' := ⟨h.1, fun j i hj => h.2 j i (fun e => hj (by rw [e]; exact hs i))⟩
theorem scr19 {k : Nat} (hk : 19 ≤ k) (i : Nat) : Scr (12, k, 0) i := Or.inr (Or.inr (Or.inl ⟨rfl, hk⟩))
def eE (area : Int) (road : Nat → Int) (x y : Nat) : Int := if bt area x ∧ bt area y then (if x = y then 0 else if road (8 * x + y) = 0 then 1000000 else road (8 * x + y)) else 1000000
def ctx5 (σ : nS) (n r : Nat) (E : Nat → Nat → Int) : Prop := σ.1 (11, 0, 0) 1 = n ∧ (∀ i, i < 64 → 0 ≤ σ.1 (12, 0, 0) i ∧ σ.1 (12, 0, 0) i ≤ 600) ∧ E = eE (σ.1 (12, 2, 0) r) (σ.1 (12, 0, 0))
theorem ctx5.only {σ σ' : nS} {n r : Nat} {E : Nat → Nat → Int} (h : ctx5 σ n r E) (o : OnlyK (12, 19, 0) σ σ') : ctx5 σ' n r E := by
  unfold ctx5 at h ⊢
  rw [o.at (j := (11, 0, 0)) (by decide), o.at (j := (12, 0, 0)) (by decide), o.at (j := (12, 2, 0)) (by decide)]
  exact h
theorem eE_0 {area : Int} {road : Nat → Int} {x y : Nat} (hr : ∀ i, i < 64 → 0 ≤ road i ∧ road i ≤ 600) (hx : x < 8) (hy : y < 8) : 0 ≤ eE area road x y ∧ (eE area road x y = 1000000 ∨ eE area road x y ≤ 600) ∧ (x ≠ y → 1 ≤ eE area road x y) := by
  have := hr (8 * x + y) (by omega)
  unfold eE
  split
  · split
    · exact ⟨by omega, Or.inr (by omega), fun h => absurd (by assumption) h⟩
    · split <;> exact ⟨by omega, by omega, fun _ => by omega⟩
  · exact ⟨by omega, Or.inl rfl, fun _ => by omega⟩
theorem eE_rd {area : Int} {road : Nat → Int} (hr : ∀ i, i < 64 → 0 ≤ road i ∧ road i ≤ 600) : RD0 (eE area road) := fun x y hx hy => eE_0 hr hx hy
theorem eE_d {area : Int} {road : Nat → Int} : ∀ x, x < 8 → eE area road x x = 0 ∨ eE area road x x = 1000000 := fun x _ => by
  unfold eE
  split <;> simp
theorem eE_x {area : Int} {road : Nat → Int} : ∀ x, x < 8 → eE area road x x = 1000000 → ∀ y, y < 8 → eE area road x y = 1000000 := fun x _ h y _ => by
  unfold eE at h ⊢
  by_cases hb : bt area x
  · simp [hb] at h
  · simp [hb]
theorem eE_F {area : Int} {road : Nat → Int} (hr : ∀ i, i < 64 → 0 ≤ road i ∧ road i ≤ 600) : FI 8 (eE area road) (fl 8 (eE area road)) := FI_n (eE_rd hr) eE_d eE_x 8 (Nat.le_refl _)
theorem tn8 (x y : Nat) : (8 * (x : Int) + (y : Int)).toNat = 8 * x + y := by omega
theorem w5_91 {K : List nKey} {k : Int → nS → Prop} {kb67 : Int → nS → Prop} {kb79 : Int → Int → nS → Prop} {r n a x : Nat} {v3 v4 : Int} {E F : Nat → Nat → Int} {f0 : Nat → Int} (hF : FI 8 E F) (hn : n ≤ 8) (hr : r < 6) (ha : a < 8) (hx : x < n) :
    ∀ (m y : Nat) (σ : nS), y + m = n → ctx5 σ n r E → RV F a n E f0 x y (σ.1 (12, 19, 0)) → (∀ σ', OnlyK (12, 19, 0) σ σ' → RV F a n E f0 x n (σ'.1 (12, 19, 0)) → kb79 v4 ((x : Int) + 1) σ') → P_X5_wayOf_L91 K k kb67 kb79 (r : Int) v3 (m + 1) v4 (x : Int) (y : Int) σ := by
  intro m
  induction m with
  | zero =>
    intro y σ hy hc hv hk
    have hy' : y = n := by omega
    subst hy'
    unfold P_X5_wayOf_L91
    rw [hc.1, w0 (x := (y : Int)) (by omega) (by omega)]
    exact ⟨fun _ x2 e => by subst e; exact hk σ OnlyK.rf hv, fun h => absurd h (by omega)⟩
  | succ m ih =>
    intro y σ hy hc hv hk
    have next : ∀ σ', OnlyK (12, 19, 0) σ σ' → RV F a n E f0 x (y + 1) (σ'.1 (12, 19, 0)) → P_X5_wayOf_L91 K k kb67 kb79 (r : Int) v3 (m + 1) v4 (x : Int) ((y : Int) + 1) σ' := fun σ' ho hr' => ih (y + 1) σ' (by omega) (hc.only ho) hr' (fun σ'' ho' hr'' => hk σ'' (ho.tr ho') hr'')
    obtain ⟨c1, c2, c3⟩ := hc
    have hroad := c2 (8 * x + y) (by omega)
    have hfx := hv.1 x (by omega)
    have hfy := hv.1 y (by omega)
    have hF0 := (hF.1 a x ha (by omega)).1
    have hF0y := (hF.1 a y ha (by omega)).1
    have skip : ¬ (σ.1 (12, 19, 0) x + E x y < σ.1 (12, 19, 0) y) → P_X5_wayOf_L91 K k kb67 kb79 (r : Int) v3 (m + 1) v4 (x : Int) ((y : Int) + 1) σ := fun hno => next σ OnlyK.rf (RV_step hF ha hn hx (by omega) hv (fun _ _ _ => rfl) (by rw [if_neg hno]))
    have hE : E x y = if bt (σ.1 (12, 2, 0) r) x ∧ bt (σ.1 (12, 2, 0) r) y then (if x = y then 0 else if σ.1 (12, 0, 0) (8 * x + y) = 0 then 1000000 else σ.1 (12, 0, 0) (8 * x + y)) else 1000000 := by rw [c3]; rfl
    unfold P_X5_wayOf_L91
    rw [c1, w0 (x := (y : Int)) (by omega) (by omega), w0 (x := (n : Int)) (by omega) (by omega)]
    refine ⟨fun h => absurd h (by omega), fun _ => ⟨by omega, by omega, fun x5 e5 => ?_⟩⟩
    rw [tn8] at e5
    rw [← e5] at hroad hE
    rw [w0 (x := x5) (by omega) (by omega)]
    simp only [Int.toNat_natCast]
    refine ⟨fun h x7 e7 => ?_, fun hx5 => ⟨by omega, by omega, br_bt (fun hbx => ⟨by omega, by omega, br_bt (fun hby => ⟨by omega, by omega, ?_⟩) (fun hby x15 e15 => ?_)⟩) (fun hbx x11 e11 => ?_)⟩⟩
    · subst e7
      refine skip ?_
      rw [hE]
      split
      · split
        · rename_i e; subst e; omega
        · omega
      · omega
    · rw [if_pos ⟨hbx, hby⟩, if_neg hx5] at hE
      rw [w0 (x := σ.1 (12, 19, 0) x) (by omega) (by omega), w0 (x := σ.1 (12, 19, 0) y) (by omega) (by omega), w0 (x := σ.1 (12, 19, 0) x + x5) (by omega) (by omega)]
      refine ⟨fun hfar => ⟨by omega, by omega, by omega, by omega, fun hle x24 e24 => ?_, fun hlt => ⟨by omega, by omega, by omega, by omega, fun σ27 e27 x30 e30 => ?_⟩⟩, fun hfar x31 e31 => ?_⟩
      · subst e24
        refine skip ?_
        rw [hE]
        split
        · rename_i e; subst e; omega
        · omega
      · subst e30
        have hne : x ≠ y := fun e => by subst e; omega
        rw [if_neg hne] at hE
        subst e27
        refine next _ OnlyK.s1 (RV_step hF ha hn hx (by omega) hv (fun z _ hz => by rw [s1_i hz]) ?_)
        rw [s1_at, hE, if_pos hlt]
      · subst e31
        refine skip ?_
        have : 0 ≤ E x y := by rw [hE]; split <;> omega
        omega
    · subst e15
      refine skip ?_
      rw [hE, if_neg (fun h => hby h.2)]
      omega
    · subst e11
      refine skip ?_
      rw [hE, if_neg (fun h => hbx h.1)]
      omega
theorem w5_79 {K : List nKey} {k : Int → nS → Prop} {kb67 : Int → nS → Prop} {r n a : Nat} {v3 v4 : Int} {E F : Nat → Nat → Int} {f0 : Nat → Int} (hF : FI 8 E F) (hn : n ≤ 8) (hr : r < 6) (ha : a < 8) :
    ∀ (m x : Nat) (σ : nS), x + m = n → ctx5 σ n r E → RV F a n E f0 x 0 (σ.1 (12, 19, 0)) → (∀ σ', OnlyK (12, 19, 0) σ σ' → RV F a n E f0 n 0 (σ'.1 (12, 19, 0)) → kb67 (v4 + 1) σ') → P_X5_wayOf_L79 K k kb67 (r : Int) v3 (m + 1) v4 (x : Int) σ := by
  intro m
  induction m with
  | zero =>
    intro x σ hx hc hv hk
    have hx' : x = n := by omega
    subst hx'
    unfold P_X5_wayOf_L79
    rw [hc.1, w0 (x := (x : Int)) (by omega) (by omega)]
    exact ⟨fun _ x2 e => by subst e; exact hk σ OnlyK.rf hv, fun h => absurd h (by omega)⟩
  | succ m ih =>
    intro x σ hx hc hv hk
    unfold P_X5_wayOf_L79
    rw [hc.1, w0 (x := (x : Int)) (by omega) (by omega), w0 (x := (n : Int)) (by omega) (by omega)]
    refine ⟨fun h => absurd h (by omega), fun _ => ⟨n + 1, ?_⟩⟩
    refine w5_91 hF hn hr ha (by omega) n 0 σ (by omega) hc hv (fun σ' ho hr' => ?_)
    exact ih (x + 1) σ' (by omega) (hc.only ho) (RV_row hr') (fun σ'' ho' hr'' => hk σ'' (ho.tr ho') hr'')
theorem w5_67 {K : List nKey} {k : Int → nS → Prop} {r n a c : Nat} {E F : Nat → Nat → Int} (hF : FI 8 E F) (h0 : RD0 E) (hn : n ≤ 8) (hr : r < 6) (ha : a < n) (haa : E a a = 0) (hc8 : c < n) (hout : ∀ x y, x < 8 → y < 8 → n ≤ x → E x y = 1000000) :
    ∀ (m v : Nat) (σ : nS), v + m = n → 1 ≤ v → ctx5 σ n r E → (∀ b, b < 8 → F a b ≤ σ.1 (12, 19, 0) b ∧ σ.1 (12, 19, 0) b ≤ 1000000) → σ.1 (12, 19, 0) a = 0 → un F a (σ.1 (12, 19, 0)) n ≤ m → (∀ σ', OnlyK (12, 19, 0) σ σ' → k (F a c) σ') → P_X5_wayOf_L67 K k (r : Int) (c : Int) (m + 1) (v : Int) σ := by
  intro m
  induction m with
  | zero =>
    intro v σ hv h1 hc hs hfa hu hk
    have hv' : v = n := by omega
    subst hv'
    unfold P_X5_wayOf_L67
    rw [hc.1, w0 (x := (v : Int)) (by omega) (by omega)]
    refine ⟨fun _ => ⟨by omega, by omega, ?_⟩, fun h => absurd h (by omega)⟩
    have := cu_zero v (Nat.le_zero.mp hu) c hc8
    rw [decide_eq_false_iff_not] at this
    simp only [Int.toNat_natCast]
    rw [Classical.not_not.mp this]
    exact hk σ OnlyK.rf
  | succ m ih =>
    intro v σ hv h1 hc hs hfa hu hk
    unfold P_X5_wayOf_L67
    rw [hc.1, w0 (x := (v : Int)) (by omega) (by omega), w0 (x := (n : Int)) (by omega) (by omega)]
    refine ⟨fun h => absurd h (by omega), fun _ => ⟨n + 1, ?_⟩⟩
    refine w5_79 (f0 := σ.1 (12, 19, 0)) hF hn hr (by omega) n 0 σ (by omega) hc (RV_begin hs) (fun σ' ho hr' => ?_)
    obtain ⟨g1, g2, g3⟩ := un_round hF h0 hn ha haa hout hs hfa hr'
    refine ih (v + 1) σ' (by omega) (by omega) (hc.only ho) (fun b hb => ⟨(hr'.1 b hb).1, (hr'.1 b hb).2.2⟩) g1 ?_ (fun σ'' ho' => hk σ'' (ho.tr ho'))
    by_cases hz : un F a (σ.1 (12, 19, 0)) n = 0
    · have := g3 hz
      omega
    · have := g2 hz
      omega
theorem w5_32 {K : List nKey} {k : Int → nS → Prop} {r n a c : Nat} {v1 v3 : Int} {E F : Nat → Nat → Int} (ha8 : a < 8) :
    ∀ (m v : Nat) (σ : nS), v + m = 8 → (∀ b, b < v → σ.1 (12, 19, 0) b = if b = a then 0 else 1000000) → (∀ σ', OnlyK (12, 19, 0) σ σ' → (∀ b, b < 8 → σ'.1 (12, 19, 0) b = if b = a then 0 else 1000000) → ∃ f, P_X5_wayOf_L67 K k v1 v3 f 1 σ') → P_X5_wayOf_L32 K k v1 (a : Int) v3 (m + 1) (v : Int) σ := by
  intro m
  induction m with
  | zero =>
    intro v σ hv hb hk
    have hv' : v = 8 := by omega
    subst hv'
    unfold P_X5_wayOf_L32
    rw [w0 (x := ((8 : Nat) : Int)) (by omega) (by omega)]
    exact ⟨fun _ => hk σ OnlyK.rf hb, fun h => absurd h (by omega)⟩
  | succ m ih =>
    intro v σ hv hb hk
    unfold P_X5_wayOf_L32
    rw [w0 (x := (v : Int)) (by omega) (by omega), w0 (x := (a : Int)) (by omega) (by omega)]
    simp only [Int.toNat_natCast]
    refine ⟨fun h => absurd h (by omega), fun _ => ⟨fun hne => ⟨by omega, by omega, fun σ42 e42 x45 e45 => ?_⟩, fun he => ⟨by omega, by omega, fun σ46 e46 x49 e49 => ?_⟩⟩⟩
    · subst e45
      have ho : OnlyK (12, 19, 0) σ σ42 := by rw [e42]; exact OnlyK.s1
      refine ih (v + 1) σ42 (by omega) (fun b hbv => ?_) (fun σ'' ho' h => hk σ'' (ho.tr ho') h)
      rw [e42]
      by_cases e : b = v
      · subst e
        rw [s1_at, if_neg (by omega)]
      · rw [s1_i e]; exact hb b (by omega)
    · subst e49
      have ho : OnlyK (12, 19, 0) σ σ46 := by rw [e46]; exact OnlyK.s1
      refine ih (v + 1) σ46 (by omega) (fun b hbv => ?_) (fun σ'' ho' h => hk σ'' (ho.tr ho') h)
      rw [e46]
      by_cases e : b = v
      · subst e
        rw [s1_at, if_pos (by omega)]
      · rw [s1_i e]; exact hb b (by omega)
/-- the model's way, by the matrix -/
theorem x5_wayOf {K : List nKey} {σ : nS} {k : Int → nS → Prop} {r n a c : Nat} {E F : Nat → Nat → Int} (hF : FI 8 E F) (hc : ctx5 σ n r E) (hn : n ≤ 8) (hr : r < 6) (ha : a < n) (hcn : c < n) (hpl : ∀ x, n ≤ x → x < 8 → ¬ bt (σ.1 (12, 2, 0) r) x) (hk : ∀ σ', OnlyK (12, 19, 0) σ σ' → k (F a c) σ') : P_X5_wayOf K σ (r : Int) (a : Int) (c : Int) k := by
  obtain ⟨c1, c2, c3⟩ := hc
  have h0 : RD0 E := by rw [c3]; exact eE_rd c2
  have hinf : (¬ bt (σ.1 (12, 2, 0) r) a ∨ ¬ bt (σ.1 (12, 2, 0) r) c) → F a c = 1000000 := by
    rintro (h | h)
    · exact hF.2.2.2.1 a (by omega) (fun y hy => by rw [c3]; unfold eE; rw [if_neg (fun q => h q.1)]) c (by omega)
    · exact hF.2.2.2.2 c (by omega) (fun y hy => by rw [c3]; unfold eE; rw [if_neg (fun q => h q.2)]) a (by omega)
  have hFle : ∀ b, b < 8 → 0 ≤ F a b ∧ F a b ≤ 1000000 := fun b hb => by
    have := hF.1 a b (by omega) hb
    omega
  unfold P_X5_wayOf
  simp only [Int.toNat_natCast]
  refine ⟨by omega, by omega, br_bt (fun hba => ⟨by omega, by omega, br_btn (fun hbc => ⟨9, ?_⟩) (fun hbc => ?_)⟩) (fun hba => ?_)⟩
  · have haa : E a a = 0 := by rw [c3]; unfold eE; rw [if_pos ⟨hba, hba⟩, if_pos rfl]
    have faa : F a a = 0 := by
      have := hF.1 a a (by omega) (by omega)
      omega
    refine w5_32 (r := r) (n := n) (c := c) (E := E) (F := F) (by omega) 8 0 σ (by omega) (fun b hb => absurd hb (Nat.not_lt_zero b)) (fun σ' ho hf => ⟨n - 1 + 1, ?_⟩)
    refine w5_67 hF h0 hn hr ha haa hcn (fun x y hx hy hxn => ?_) (n - 1) 1 σ' (by omega) (Nat.le_refl _) (ctx5.only ⟨c1, c2, c3⟩ ho) (fun b hb => ?_) ?_ ?_ (fun σ'' ho' => hk σ'' (ho.tr ho'))
    · rw [c3]; unfold eE; rw [if_neg (fun q => hpl x hxn hx q.1)]
    · rw [hf b hb]
      have := hFle b hb
      split
      · rename_i e; subst e; omega
      · omega
    · rw [hf a (by omega), if_pos rfl]
    · refine cu_miss n a ha ?_
      rw [decide_eq_false_iff_not, hf a (by omega), if_pos rfl, faa]
      simp
  · rw [← hinf (Or.inr hbc)]; exact hk σ OnlyK.rf
  · rw [← hinf (Or.inl hba)]; exact hk σ OnlyK.rf
