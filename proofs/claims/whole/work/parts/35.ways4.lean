/-! the class's ways of a rider -/
def enc (x : Int) : Int := if x = 1000000 then -1 else x
def Mat (σ : nS) (q : Nat) (F : Nat → Nat → Int) : Prop := ∀ x y, x < 8 → y < 8 → σ.1 (7, q, 0) (8 * x + y) = enc (F x y)
theorem enc_n {x : Int} (h : 0 ≤ x) : enc x = -1 ↔ x = 1000000 := by unfold enc; split <;> omega
theorem enc_r {x : Int} (h : 0 ≤ x) (h1 : x ≤ 1000000) : -1 ≤ enc x ∧ enc x ≤ 1000000 := by unfold enc; split <;> omega
theorem enc_i {x : Int} (h : x ≠ 1000000) : enc x = x := by unfold enc; rw [if_neg h]
theorem tn8' (x y : Nat) : ((x : Int) * 8 + (y : Int)).toNat = 8 * x + y := by omega
theorem x4_roadWithin {K : List nKey} {σ : nS} {k : Int → nS → Prop} {area : Int} {x y : Nat} (hp : 0 ≤ σ.1 (0, 0, 0) 5 ∧ σ.1 (0, 0, 0) 5 ≤ 8) (hr : ∀ i, i < 64 → 0 ≤ σ.1 (1, 0, 0) i ∧ σ.1 (1, 0, 0) i ≤ 600) (hpl : ∀ x : Nat, σ.1 (0, 0, 0) 5 ≤ x → x < 8 → ¬ bt area x) (hx : x < 8) (hy : y < 8) (h : k (enc (eE area (σ.1 (1, 0, 0)) x y)) σ) : P_X4_roadWithin K σ area (x : Int) (y : Int) k := by
  have h1 : (¬ bt area x ∨ ¬ bt area y) → k (-1) σ := fun hn => by
    have e : enc (eE area (σ.1 (1, 0, 0)) x y) = -1 := by
      unfold eE
      rw [if_neg (fun q => hn.elim (fun a => a q.1) (fun a => a q.2))]
      rfl
    rw [e] at h; exact h
  unfold P_X4_roadWithin
  refine x4_isPlace ⟨by omega, by omega⟩ hp (br01 (fun hpx => x4_isPlace ⟨by omega, by omega⟩ hp (br01 (fun hpy => x4_hasBit (br01 (fun hbx => x4_hasBit (br10 (fun hby => ?_) (fun hn => h1 (Or.inr hn)))) (fun hn => h1 (Or.inl hn)))) (fun hn => h1 (Or.inr (hpl y (by omega) hy))))) (fun hn => h1 (Or.inl (hpl x (by omega) hx))))
  rw [w0 (x := (x : Int)) (by omega) (by omega), w0 (x := (y : Int)) (by omega) (by omega), tn8']
  have hrr := hr (8 * x + y) (by omega)
  refine ⟨fun hne => ⟨by omega, by omega, fun x16 e16 => ?_⟩, fun he => ?_⟩
  · rw [← e16] at hrr
    rw [w0 (x := x16) (by omega) (by omega)]
    unfold eE at h
    rw [if_pos ⟨hbx, hby⟩, if_neg (by omega), ← e16] at h
    refine ⟨fun h16 => ?_, fun h16 => ?_⟩
    · rw [if_neg h16, enc_i (by omega)] at h; exact h
    · rw [if_pos h16] at h; exact h
  · have he' : x = y := by omega
    unfold eE at h
    rw [if_pos ⟨hbx, hby⟩, if_pos he'] at h
    exact h
def ctx4 (σ : nS) (q : Nat) (E : Nat → Nat → Int) : Prop := (0 ≤ σ.1 (0, 0, 0) 5 ∧ σ.1 (0, 0, 0) 5 ≤ 8) ∧ (∀ i, i < 64 → 0 ≤ σ.1 (1, 0, 0) i ∧ σ.1 (1, 0, 0) i ≤ 600) ∧ (∀ x : Nat, σ.1 (0, 0, 0) 5 ≤ x → x < 8 → ¬ bt (σ.1 (6, q, 0) 1) x) ∧ E = eE (σ.1 (6, q, 0) 1) (σ.1 (1, 0, 0))
theorem ctx4.only {σ σ' : nS} {q : Nat} {E : Nat → Nat → Int} (h : ctx4 σ q E) (o : OnlyK (7, q, 0) σ σ') : ctx4 σ' q E := by
  unfold ctx4 at h ⊢
  rw [o.at (j := (0, 0, 0)) (by simp), o.at (j := (1, 0, 0)) (by simp), o.at (j := (6, q, 0)) (by simp)]
  exact h
theorem sh31 {K : List nKey} {k : nS → Prop} {kb2 : Int → nS → Prop} {kb10 : Int → Int → nS → Prop} {q n a : Nat} {E D : Nat → Nat → Int} (hD : FI n E D) (hn : n < 8) (ha : a < 8) :
    ∀ (m b : Nat) (σ : nS), b + m = 8 → (∀ x y, x < 8 → y < 8 → σ.1 (7, q, 0) (8 * x + y) = enc (if 8 * x + y < 8 * a + b then fstep n D x y else D x y)) → (∀ σ', OnlyK (7, q, 0) σ σ' → (∀ x y, x < 8 → y < 8 → σ'.1 (7, q, 0) (8 * x + y) = enc (if 8 * x + y < 8 * (a + 1) then fstep n D x y else D x y)) → kb10 n ((a : Int) + 1) σ') → P_X3_shortenWays_L31 K k kb2 kb10 q (m + 1) (n : Int) (a : Int) (enc (D a n)) (b : Int) σ := by
  intro m
  have hp := pow600 n (by omega)
  have DA := hD.1 a n ha hn
  have pos : 0 ≤ (600 : Int) * 2 ^ n := by
    have : 0 < (2 : Int) ^ n := Int.pow_pos (by decide)
    omega
  induction m with
  | zero =>
    intro b σ hb hm hk
    have hb' : b = 8 := by omega
    subst hb'
    have fin : kb10 n ((a : Int) + 1) σ := hk σ OnlyK.rf hm
    unfold P_X3_shortenWays_L31
    rw [w0 (x := ((8 : Nat) : Int)) (by omega) (by omega)]
    exact ⟨fun _ x2 e => by subst e; exact fin, fun _ => ⟨fun _ x4 e => by subst e; exact fin, fun h => absurd h (by omega)⟩⟩
  | succ m ih =>
    intro b σ hb hm hk
    have DB := hD.1 n b hn (by omega)
    have DC := hD.1 a b ha (by omega)
    have e1 := hm a b ha (by omega)
    rw [if_neg (by omega)] at e1
    have e2 : σ.1 (7, q, 0) (8 * n + b) = enc (D n b) := by
      rw [hm n b hn (by omega)]
      split
      · congr 1
        unfold fstep
        rw [if_neg]
        have := (hD.1 n n hn hn).1
        omega
      · rfl
    have fa : fstep n D a b = if D a n + D n b < D a b then D a n + D n b else D a b := rfl
    have skip : ¬ (D a n + D n b < D a b) → P_X3_shortenWays_L31 K k kb2 kb10 q (m + 1) (n : Int) (a : Int) (enc (D a n)) ((b : Int) + 1) σ := fun hno => by
      refine ih (b + 1) σ (by omega) (fun x y hx hy => ?_) (fun σ' ho h => hk σ' ho h)
      rw [hm x y hx hy]
      by_cases e : 8 * x + y = 8 * a + b
      · have ex : x = a := by omega
        have ey : y = b := by omega
        subst ex; subst ey
        rw [if_neg (by omega), if_pos (by omega), fa, if_neg hno]
      · congr 1
        by_cases h : 8 * x + y < 8 * a + b
        · rw [if_pos h, if_pos (by omega)]
        · rw [if_neg h, if_neg (by omega)]
    have upd : D a n + D n b < D a b → ∀ σ', σ' = s1 σ (7, q, 0) (8 * a + b) (enc (D a n) + enc (D n b)) → P_X3_shortenWays_L31 K k kb2 kb10 q (m + 1) (n : Int) (a : Int) (enc (D a n)) ((b : Int) + 1) σ' := fun hlt σ' es => by
      have ho : OnlyK (7, q, 0) σ σ' := by rw [es]; exact OnlyK.s1
      refine ih (b + 1) σ' (by omega) (fun x y hx hy => ?_) (fun σ'' ho' h => hk σ'' (ho.tr ho') h)
      by_cases e : 8 * x + y = 8 * a + b
      · have ex : x = a := by omega
        have ey : y = b := by omega
        subst ex; subst ey
        rw [es, s1_at, if_pos (by omega), fa, if_pos hlt, enc_i (by omega), enc_i (by omega), enc_i (by omega)]
      · rw [es, s1_i e, hm x y hx hy]
        congr 1
        by_cases h : 8 * x + y < 8 * a + b
        · rw [if_pos h, if_pos (by omega)]
        · rw [if_neg h, if_neg (by omega)]
    have r1 := enc_r DA.1 (by omega)
    have r2 := enc_r DB.1 (by omega)
    have r3 := enc_r DC.1 (by omega)
    unfold P_X3_shortenWays_L31
    rw [w0 (x := (b : Int)) (by omega) (by omega), w0 (x := enc (D a n)) (by omega) (by omega), tn8', tn8', e1, e2]
    refine ⟨fun h x2 e => ?_, fun hA => ⟨fun h => absurd h (by omega), fun _ => ⟨by omega, by omega, fun x7 e7 => ⟨by omega, by omega, fun x10 e10 => ?_⟩⟩⟩⟩
    · subst e
      have hinf := (enc_n DA.1).mp h
      refine hk σ OnlyK.rf (fun x y hx hy => ?_)
      rw [hm x y hx hy]
      congr 1
      by_cases h1 : 8 * x + y < 8 * a + b
      · rw [if_pos h1, if_pos (by omega)]
      · rw [if_neg h1]
        by_cases h2 : 8 * x + y < 8 * (a + 1)
        · have ex : x = a := by omega
          subst ex
          rw [if_pos h2]
          unfold fstep
          rw [if_neg]
          have := (hD.1 n y hn hy).1
          have := (hD.1 x y hx hy)
          omega
        · rw [if_neg h2]
    · have hA' : D a n ≠ 1000000 := fun e => hA ((enc_n DA.1).mpr e)
      subst e7; subst e10
      rw [w0 (x := enc (D n b)) (by omega) (by omega), w0 (x := enc (D a b)) (by omega) (by omega), w0 (x := enc (D a n) + enc (D n b)) (by omega) (by omega)]
      refine ⟨fun h x12 e => ?_, fun hB => ⟨fun h => ⟨by omega, by omega, fun σ14 es x17 e => ?_⟩, fun hC => ⟨fun h x19 e => ?_, fun h => ⟨by omega, by omega, fun σ20 es x23 e => ?_⟩⟩⟩⟩
      · subst e
        have := (enc_n DB.1).mp h
        exact skip (by omega)
      · subst e
        have hB' : D n b ≠ 1000000 := fun e => hB ((enc_n DB.1).mpr e)
        have := (enc_n DC.1).mp h
        exact upd (by omega) σ14 es
      · subst e
        have hB' : D n b ≠ 1000000 := fun e => hB ((enc_n DB.1).mpr e)
        have hC' : D a b ≠ 1000000 := fun e => hC ((enc_n DC.1).mpr e)
        rw [enc_i hA', enc_i hB', enc_i hC'] at h
        exact skip (by omega)
      · subst e
        have hB' : D n b ≠ 1000000 := fun e => hB ((enc_n DB.1).mpr e)
        have hC' : D a b ≠ 1000000 := fun e => hC ((enc_n DC.1).mpr e)
        rw [enc_i hA', enc_i hB', enc_i hC'] at h
        exact upd (by omega) σ20 es
theorem sh10 {K : List nKey} {k : nS → Prop} {kb2 : Int → nS → Prop} {q n : Nat} {E D : Nat → Nat → Int} (hD : FI n E D) (hn : n < 8) :
    ∀ (m a : Nat) (σ : nS), a + m = 8 → (∀ x y, x < 8 → y < 8 → σ.1 (7, q, 0) (8 * x + y) = enc (if 8 * x + y < 8 * a then fstep n D x y else D x y)) → (∀ σ', OnlyK (7, q, 0) σ σ' → Mat σ' q (fstep n D) → kb2 ((n : Int) + 1) σ') → P_X3_shortenWays_L10 K k kb2 q (m + 1) (n : Int) (a : Int) σ := by
  intro m
  induction m with
  | zero =>
    intro a σ ha hm hk
    have ha' : a = 8 := by omega
    subst ha'
    unfold P_X3_shortenWays_L10
    rw [w0 (x := ((8 : Nat) : Int)) (by omega) (by omega)]
    exact ⟨fun _ x2 e => by subst e; exact hk σ OnlyK.rf (fun x y hx hy => by rw [hm x y hx hy, if_pos (by omega)]), fun h => absurd h (by omega)⟩
  | succ m ih =>
    intro a σ ha hm hk
    unfold P_X3_shortenWays_L10
    rw [w0 (x := (a : Int)) (by omega) (by omega), tn8']
    refine ⟨fun h => absurd h (by omega), fun _ => ⟨by omega, by omega, fun x28 e => ⟨8 + 1, ?_⟩⟩⟩
    rw [hm a n (by omega) hn, if_neg (by omega)] at e
    subst e
    refine sh31 hD hn (by omega) 8 0 σ (by omega) (fun x y hx hy => by rw [hm x y hx hy]; rfl) (fun σ' ho h => ?_)
    exact ih (a + 1) σ' (by omega) h (fun σ'' ho' h' => hk σ'' (ho.tr ho') h')
theorem sh2 {K : List nKey} {k : nS → Prop} {q : Nat} {E : Nat → Nat → Int} (hD : ∀ n, n ≤ 8 → FI n E (fl n E)) :
    ∀ (m n : Nat) (σ : nS), n + m = 8 → Mat σ q (fl n E) → (∀ σ', OnlyK (7, q, 0) σ σ' → Mat σ' q (fl 8 E) → k σ') → P_X3_shortenWays_L2 K k q (m + 1) (n : Int) σ := by
  intro m
  induction m with
  | zero =>
    intro n σ hn hm hk
    have hn' : n = 8 := by omega
    subst hn'
    unfold P_X3_shortenWays_L2
    rw [w0 (x := ((8 : Nat) : Int)) (by omega) (by omega)]
    exact ⟨fun _ => hk σ OnlyK.rf hm, fun h => absurd h (by omega)⟩
  | succ m ih =>
    intro n σ hn hm hk
    unfold P_X3_shortenWays_L2
    rw [w0 (x := (n : Int)) (by omega) (by omega)]
    refine ⟨fun h => absurd h (by omega), fun _ => ⟨8 + 1, ?_⟩⟩
    refine sh10 (hD n (by omega)) (by omega) 8 0 σ (by omega) (fun x y hx hy => by rw [hm x y hx hy, if_neg (by omega)]) (fun σ' ho h => ?_)
    exact ih (n + 1) σ' (by omega) h (fun σ'' ho' h' => hk σ'' (ho.tr ho') h')
theorem se10 {K : List nKey} {k : nS → Prop} {kb2 : Int → nS → Prop} {q x : Nat} {E : Nat → Nat → Int} (hx : x < 8) :
    ∀ (m y : Nat) (σ : nS), y + m = 8 → ctx4 σ q E → (∀ a b, a < 8 → b < 8 → 8 * a + b < 8 * x + y → σ.1 (7, q, 0) (8 * a + b) = enc (E a b)) → (∀ σ', OnlyK (7, q, 0) σ σ' → (∀ a b, a < 8 → b < 8 → 8 * a + b < 8 * (x + 1) → σ'.1 (7, q, 0) (8 * a + b) = enc (E a b)) → kb2 ((x : Int) + 1) σ') → P_X4_settleWays_L10 K k kb2 q (m + 1) (x : Int) (y : Int) σ := by
  intro m
  induction m with
  | zero =>
    intro y σ hy hc hm hk
    have hy' : y = 8 := by omega
    subst hy'
    unfold P_X4_settleWays_L10
    rw [w0 (x := ((8 : Nat) : Int)) (by omega) (by omega)]
    exact ⟨fun _ x2 e => by subst e; exact hk σ OnlyK.rf hm, fun h => absurd h (by omega)⟩
  | succ m ih =>
    intro y σ hy hc hm hk
    unfold P_X4_settleWays_L10
    rw [w0 (x := (y : Int)) (by omega) (by omega), tn8']
    refine ⟨fun h => absurd h (by omega), fun _ => ?_⟩
    refine x4_roadWithin hc.1 hc.2.1 hc.2.2.1 hx (by omega) ⟨by omega, by omega, fun σ5 es x8 e => ?_⟩
    subst e
    have ho : OnlyK (7, q, 0) σ σ5 := by rw [es]; exact OnlyK.s1
    refine ih (y + 1) σ5 (by omega) (hc.only ho) (fun a b ha hb hab => ?_) (fun σ'' ho' h' => hk σ'' (ho.tr ho') h')
    by_cases e : 8 * a + b = 8 * x + y
    · have ea : a = x := by omega
      have eb : b = y := by omega
      subst ea; subst eb
      rw [es, s1_at, hc.2.2.2]
    · rw [es, s1_i e]
      exact hm a b ha hb (by omega)
theorem se2 {K : List nKey} {k : nS → Prop} {q : Nat} {E : Nat → Nat → Int} :
    ∀ (m x : Nat) (σ : nS), x + m = 8 → ctx4 σ q E → (∀ a b, a < 8 → b < 8 → 8 * a + b < 8 * x → σ.1 (7, q, 0) (8 * a + b) = enc (E a b)) → (∀ σ', OnlyK (7, q, 0) σ σ' → Mat σ' q (fl 8 E) → k σ') → P_X4_settleWays_L2 K k q (m + 1) (x : Int) σ := by
  intro m
  induction m with
  | zero =>
    intro x σ hx hc hm hk
    have hx' : x = 8 := by omega
    subst hx'
    unfold P_X4_settleWays_L2
    rw [w0 (x := ((8 : Nat) : Int)) (by omega) (by omega)]
    refine ⟨fun _ => ⟨8 + 1, ?_⟩, fun h => absurd h (by omega)⟩
    have h0 : RD0 E := by rw [hc.2.2.2]; exact eE_rd hc.2.1
    exact sh2 (fun n hn => FI_n h0 (by rw [hc.2.2.2]; exact eE_d) (by rw [hc.2.2.2]; exact eE_x) n hn) 8 0 σ (by omega) (fun x y hx hy => hm x y hx hy (by omega)) hk
  | succ m ih =>
    intro x σ hx hc hm hk
    unfold P_X4_settleWays_L2
    rw [w0 (x := (x : Int)) (by omega) (by omega)]
    refine ⟨fun h => absurd h (by omega), fun _ => ⟨8 + 1, ?_⟩⟩
    exact se10 (by omega) 8 0 σ (by omega) hc (fun a b ha hb hab => hm a b ha hb (by omega)) (fun σ' ho h => ih (x + 1) σ' (by omega) (hc.only ho) h (fun σ'' ho' h' => hk σ'' (ho.tr ho') h'))
/-- a rider's ways are settled: the cell of its ways alone changes -/
theorem x4_settleWays {K : List nKey} {σ : nS} {k : nS → Prop} {q : Nat} {E : Nat → Nat → Int} (hc : ctx4 σ q E) (hk : ∀ σ', OnlyK (7, q, 0) σ σ' → Mat σ' q (fl 8 E) → k σ') : P_X4_settleWays K σ q k :=
  ⟨8 + 1, se2 8 0 σ (by omega) hc (fun a b _ _ h => by omega) hk⟩
