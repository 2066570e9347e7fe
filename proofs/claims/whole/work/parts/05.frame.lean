/-! numbers: ints of the machine as whole numbers -/
def iN (z : Int) : Int32 := Int32.ofInt z
def iR (z : Int) : Prop := -2147483648 ≤ z ∧ z < 2147483648
theorem iN_add (a b : Int) : iN a + iN b = iN (a + b) := (Int32.ofInt_add a b).symm
theorem iN_sub (a b : Int) : iN a - iN b = iN (a - b) := (Int32.ofInt_sub a b).symm
theorem iN_mul (a b : Int) : iN a * iN b = iN (a * b) := (Int32.ofInt_mul a b).symm
theorem iN_to {z : Int} (h : iR z) : (iN z).toInt = z := by
  unfold iN
  rw [Int32.toInt_ofInt]
  obtain ⟨h1, h2⟩ := h
  have e := Int.bmod_def z (2 ^ 32)
  rw [e]
  omega
theorem iN_self (x : Int32) : iN x.toInt = x := by unfold iN; exact Int32.ofInt_toInt x
theorem iR_toInt (x : Int32) : iR x.toInt := ⟨by have := Int32.le_toInt x; simpa using this, by have := Int32.toInt_lt x; simpa using this⟩
theorem iN_lt {a b : Int} (ha : iR a) (hb : iR b) : iN a < iN b ↔ a < b := by rw [Int32.lt_iff_toInt_lt, iN_to ha, iN_to hb]
theorem iN_le {a b : Int} (ha : iR a) (hb : iR b) : iN a ≤ iN b ↔ a ≤ b := by rw [Int32.le_iff_toInt_le, iN_to ha, iN_to hb]
theorem iN_eq {a b : Int} (ha : iR a) (hb : iR b) : iN a = iN b ↔ a = b := ⟨fun h => by have := congrArg Int32.toInt h; rwa [iN_to ha, iN_to hb] at this, fun h => by rw [h]⟩
theorem iN_nat (n : Nat) : iN (n : Int) = nI n := by unfold iN nI; exact Int32.ofInt_eq_ofNat
theorem iN_clamp {z : Int} (h0 : 0 ≤ z) (h : z < 2147483648) : (iN z).toNatClampNeg = z.toNat := by
  have : z = ((z.toNat : Nat) : Int) := by omega
  rw [this, iN_nat, nI_clamp (by omega)]
  rfl
theorem iN_in {z : Int} {n : Nat} (h0 : 0 ≤ z) (h : z < n) (hn : n < 2147483648) : vp_in (iN z) n := by
  have e : z = ((z.toNat : Nat) : Int) := by omega
  rw [e, iN_nat]
  exact vp_in_nI (by omega) (by omega)
def b2i (c : Prop) [Decidable c] : Int := if c then 1 else 0
theorem b2i_t {c : Prop} [Decidable c] (h : c) : b2i c = 1 := if_pos h
theorem b2i_f {c : Prop} [Decidable c] (h : ¬ c) : b2i c = 0 := if_neg h
theorem b2i_r (c : Prop) [Decidable c] : iR (b2i c) := by unfold b2i iR; split <;> omega
/-! the world: cells by keys -/
abbrev nKey : Type := Nat × Nat × Nat
def kup {α : Type} (f : nKey → α) (k : nKey) (v : α) : nKey → α := fun j => if j = k then v else f j
theorem kup_s {α : Type} (f : nKey → α) (k : nKey) (v : α) : kup f k v k = v := if_pos rfl
theorem kup_n {α : Type} {f : nKey → α} {k j : nKey} {v : α} (h : j ≠ k) : kup f k v j = f j := if_neg h
def xl (K : List nKey) (ad : nKey → Nat) (ct : nKey → va_E) : va_W := K.map (fun k => (ad k, ct k))
def XW (D : va_G) (A : Nat → Prop) (K : List nKey) (ad : nKey → Nat) (ct : nKey → va_E) (H : Heap) : Prop := va_P D vwCl (xl K ad ct) H ∧ va_D A (xl K ad ct)
def FA (K : List nKey) (ad : nKey → Nat) (sz : Nat) : Nat → Prop := fun q => (∃ k, k ∈ K ∧ q = ad k) ∨ sz ≤ q
theorem xl_get {K : List nKey} {ad : nKey → Nat} {ct : nKey → va_E} {k : nKey} (h : k ∈ K) : ∃ i : Nat, K[i]? = some k ∧ (xl K ad ct)[i]? = some (ad k, ct k) := by
  obtain ⟨i, hi⟩ := List.getElem?_of_mem h
  exact ⟨i, hi, by unfold xl; rw [List.getElem?_map, hi]; rfl⟩
theorem xl_of {K : List nKey} {ad : nKey → Nat} {ct : nKey → va_E} {i : Nat} {q : Nat × va_E} (h : (xl K ad ct)[i]? = some q) : ∃ k, k ∈ K ∧ K[i]? = some k ∧ q = (ad k, ct k) := by
  unfold xl at h
  rw [List.getElem?_map] at h
  cases hk : K[i]? with
  | none => rw [hk] at h; cases h
  | some k => rw [hk] at h; exact ⟨k, List.mem_of_getElem? hk, rfl, (Option.some.inj h).symm⟩
theorem XW.at {D : va_G} {A : Nat → Prop} {K : List nKey} {ad : nKey → Nat} {ct : nKey → va_E} {H : Heap} (h : XW D A K ad ct H) {k : nKey} (hk : k ∈ K) : va_at D vwCl (ad k, ct k) H := by
  obtain ⟨i, -, hi⟩ := xl_get (ad := ad) (ct := ct) hk
  exact h.1 i _ hi
theorem XW.lt {D : va_G} {A : Nat → Prop} {K : List nKey} {ad : nKey → Nat} {ct : nKey → va_E} {H : Heap} (h : XW D A K ad ct H) {k : nKey} (hk : k ∈ K) : ad k < H.size := (h.at hk).lt
theorem XW.A {D : va_G} {A : Nat → Prop} {K : List nKey} {ad : nKey → Nat} {ct : nKey → va_E} {H : Heap} (h : XW D A K ad ct H) {k : nKey} (hk : k ∈ K) : A (ad k) := by
  obtain ⟨i, -, hi⟩ := xl_get (ad := ad) (ct := ct) hk
  exact h.2.2 i _ hi
theorem XW.inj {D : va_G} {A : Nat → Prop} {K : List nKey} {ad : nKey → Nat} {ct : nKey → va_E} {H : Heap} (h : XW D A K ad ct H) {j k : nKey} (hj : j ∈ K) (hk : k ∈ K) (e : ad j = ad k) : j = k := by
  obtain ⟨i, hi, gi⟩ := xl_get (ad := ad) (ct := ct) hj
  obtain ⟨i2, hi2, gi2⟩ := xl_get (ad := ad) (ct := ct) hk
  have := h.2.1 i i2 _ _ gi gi2 e
  subst this
  exact Option.some.inj (hi.symm.trans hi2)
theorem XW.weaken {D : va_G} {A B : Nat → Prop} {K : List nKey} {ad : nKey → Nat} {ct : nKey → va_E} {H : Heap} (h : XW D A K ad ct H) (hAB : ∀ q, A q → B q) : XW D B K ad ct H := ⟨h.1, h.2.weaken (fun _ _ _ q => hAB _ q)⟩
theorem XW.congr {D : va_G} {A : Nat → Prop} {K : List nKey} {ad ad' : nKey → Nat} {ct ct' : nKey → va_E} {H : Heap} (h : XW D A K ad ct H) (ha : ∀ k, k ∈ K → ad' k = ad k) (hc : ∀ k, k ∈ K → ct' k = ct k) : XW D A K ad' ct' H := by
  have e : xl K ad' ct' = xl K ad ct := List.map_congr_left (fun k hk => by rw [ha k hk, hc k hk])
  unfold XW
  rw [e]
  exact h
theorem XW.kept {D : va_G} {A : Nat → Prop} {K : List nKey} {ad : nKey → Nat} {ct : nKey → va_E} {H H1 : Heap} (h : XW D A K ad ct H) (hq : ∀ k, k ∈ K → H1[ad k]? = H[ad k]?) : XW D A K ad ct H1 := by
  refine ⟨h.1.kept (fun i q hi => ?_), h.2⟩
  obtain ⟨k, hk, -, rfl⟩ := xl_of hi
  exact hq k hk
theorem XW.nodup {D : va_G} {A : Nat → Prop} {K : List nKey} {ad : nKey → Nat} {ct : nKey → va_E} {H : Heap} (h : XW D A K ad ct H) : ∀ (i j : Nat) (k : nKey), K[i]? = some k → K[j]? = some k → i = j := by
  intro i j k hi hj
  refine h.2.1 i j (ad k, ct k) (ad k, ct k) ?_ ?_ rfl
  · unfold xl; rw [List.getElem?_map, hi]; rfl
  · unfold xl; rw [List.getElem?_map, hj]; rfl
theorem xl_set {D : va_G} {A : Nat → Prop} {K : List nKey} {ad : nKey → Nat} {ct : nKey → va_E} {H : Heap} (h : XW D A K ad ct H) {k : nKey} {i : Nat} (hi : K[i]? = some k) (e : va_E) : (xl K ad ct).set i (ad k, e) = xl K ad (kup ct k e) := by
  refine List.ext_getElem? fun j => ?_
  unfold xl
  rw [List.getElem?_set, List.getElem?_map, List.getElem?_map]
  by_cases hij : i = j
  · subst hij
    rw [if_pos rfl, if_pos (by rw [List.length_map]; exact (List.getElem?_eq_some_iff.mp hi).1), hi]
    simp [kup]
  · rw [if_neg hij]
    cases hj : K[j]? with
    | none => rfl
    | some k' =>
      have : k' ≠ k := fun e => hij (h.nodup i j k hi (by rw [hj, e]))
      simp [kup, this]
theorem xl_push {K : List nKey} {ad : nKey → Nat} {ct : nKey → va_E} {k : nKey} (hk : k ∉ K) (q : Nat) (e : va_E) : xl K ad ct ++ [(q, e)] = xl (K ++ [k]) (kup ad k q) (kup ct k e) := by
  unfold xl
  rw [List.map_append]
  congr 1
  · refine List.map_congr_left (fun j hj => ?_)
    have : j ≠ k := fun e => hk (e ▸ hj)
    rw [kup_n this, kup_n this]
  · simp [kup]
theorem XW.sub {D : va_G} {A : Nat → Prop} {K : List nKey} {ad : nKey → Nat} {ct : nKey → va_E} {H : Heap} (h : XW D A K ad ct H) (p : nKey → Bool) : XW D A (K.filter p) ad ct H := by
  have hn : K.Nodup := by
    rw [List.nodup_iff_pairwise_ne] 
    refine List.pairwise_iff_getElem.mpr fun i j hi hj hij he => ?_
    have := h.nodup i j K[i] (List.getElem?_eq_getElem hi) (by rw [he]; exact List.getElem?_eq_getElem hj)
    omega
  have hn2 : (K.filter p).Nodup := hn.filter p
  refine ⟨fun i q hi => ?_, fun i j q r hi hj e => ?_, fun i q hi => ?_⟩
  · obtain ⟨k, hk, -, rfl⟩ := xl_of hi
    exact h.at (List.mem_filter.mp hk).1
  · obtain ⟨k, hk, hik, rfl⟩ := xl_of hi
    obtain ⟨k2, hk2, hik2, rfl⟩ := xl_of hj
    have e2 : k = k2 := h.inj (List.mem_filter.mp hk).1 (List.mem_filter.mp hk2).1 e
    subst e2
    obtain ⟨hi1, hi2⟩ := List.getElem?_eq_some_iff.mp hik
    obtain ⟨hj1, hj2⟩ := List.getElem?_eq_some_iff.mp hik2
    exact (List.getElem?_inj hi1 hn2).mp (hik.trans hik2.symm)
  · obtain ⟨k, hk, -, rfl⟩ := xl_of hi
    exact h.A (List.mem_filter.mp hk).1
theorem XW.fa {D : va_G} {A0 : Nat → Prop} {K : List nKey} {ad : nKey → Nat} {ct : nKey → va_E} {H H0 : Heap} {locs : List Loc} (h : XW D A0 K ad ct H) (hS : va_S A0 H0 H locs) (hA : ∀ q, H0.size ≤ q → A0 q) : ∀ q, FA K ad H.size q → A0 q := by
  intro q hq
  rcases hq with ⟨k, hk, rfl⟩ | hq
  · exact h.A hk
  · exact hA q (Nat.le_trans hS.1 hq)
theorem XW.self {D : va_G} {A : Nat → Prop} {K : List nKey} {ad : nKey → Nat} {ct : nKey → va_E} {H : Heap} {sz : Nat} (h : XW D A K ad ct H) : XW D (FA K ad sz) K ad ct H := by
  refine ⟨h.1, h.2.1, fun i q hi => ?_⟩
  obtain ⟨k, hk, -, rfl⟩ := xl_of hi
  exact Or.inl ⟨k, hk, rfl⟩
/-! what is known of the classes and of the tables all the time -/
def tysL (ca : Nat → ClassId) : List (ClassId × FieldType) := [(ca 0, .int), (ca 1, .boolean), (ca 2, .object "NightRiders$Rider"), (ca 3, .object "NightRiders$Request"), (ca 4, .object "NightRiders$Leg"), (ca 5, .long)]
def ZK (D : va_G) (ca : Nat → ClassId) (U : State) : Prop := va_K D vwCl (tysL ca) U ∧ va_Nw (.methodLinkNest RX3 47 yX4_hasBit RX4) U ∧ va_Nw (.methodLinkNest RX4 27 yX0_init RX4) U ∧ va_AO RX1 U ∧ va_AO RX2 U ∧ va_AO RX3 U
theorem ZK.moved {D : va_G} {ca : Nat → ClassId} {u U : State} (hW : u.WarmedH U.vm) (h : ZK D ca u) : ZK D ca U := ⟨va_K.moved hW.alike h.1, va_Nw.warmM hW h.2.1, va_Nw.warmM hW h.2.2.1, h.2.2.2.1.moved hW.alike, h.2.2.2.2.1.moved hW.alike, h.2.2.2.2.2.moved hW.alike⟩
theorem ZK.same {D : va_G} {ca : Nat → ClassId} {u U : State} (hv : u.vm = U.vm) (h : ZK D ca u) : ZK D ca U := by
  have ha : u.vm.Alike U.vm := by rw [hv]; exact Vm.Alike.refl U.vm
  exact ⟨va_K.moved ha h.1, va_Nw.same rfl hv h.2.1, va_Nw.same rfl hv h.2.2.1, h.2.2.2.1.moved ha, h.2.2.2.2.1.moved ha, h.2.2.2.2.2.moved ha⟩
def ZP (D : va_G) (ca : Nat → ClassId) (av : List Value) (B : Heap → Prop) : Array Value → State → Prop := va_Pc av (fun U => B U.heap ∧ ZK D ca U)
theorem zp_blind {D : va_G} {ca : Nat → ClassId} {av : List Value} {B : Heap → Prop} : FrameBlind (ZP D ca av B) := fun _ U _ _ q => ⟨q.1, q.2.1, q.2.2.same rfl⟩
def ZR (v : Option Value) : Array Value → State → Outcome → State → Prop := fun _ st o t => o = .returned v ∧ t.heap = st.heap
def ZU {S : Type} (vf : S → Option Value) (Wf : S → Heap → Prop) (A : Nat → Prop) : Array Value → State → Outcome → State → Prop := fun _ st o t => (∃ u : S, o = .returned (vf u) ∧ Wf u t.heap) ∧ va_F A st t
section ZF
variable {p : Program} {l : Launch} {e : Env} {R : Room} {s : State} {m : MethodId} {args : Array Value} {below : List Frame} {meth : Method} {c : Code} {H : Heap} {locs : List Loc} {cells slots : Nat} {Q : State → Prop}
variable {cc : ByteArray} {pc : Nat} {ls : Array Slot} {rest : List Value} {D : va_G} {ca : Nat → ClassId} {A : Nat → Prop} {H0 : Heap} {nL : Nat} {own : String} {K : List nKey} {ad : nKey → Nat} {ct : nKey → va_E} {κ : nKey}
/-- the machine's side of a walk -/
def MF (p : Program) (s : State) (m : MethodId) (args : Array Value) (c : Code) (cc : ByteArray) (nL : Nat) (own : String) (D : va_G) (ca : Nat → ClassId) : Prop := CallFix p m c cc nL s args UW own ∧ ZK D ca s
theorem MF.hx (M : MF p s m args c cc nL own D ca) : p.tables.exec = Jvm.exec := M.1.1
theorem MF.hb (M : MF p s m args c cc nL own D ca) : c.code = cc := M.1.2.1
theorem MF.hml (M : MF p s m args c cc nL own D ca) : c.maxLocals = nL := M.1.2.2.1
theorem MF.hown (M : MF p s m args c cc nL own D ca) : s.vm.findClass own = some m.cls := M.1.2.2.2.1
theorem MF.hts (M : MF p s m args c cc nL own D ca) : ∀ w ∈ UW, w.before args s = true := M.1.2.2.2.2
theorem MF.hK (M : MF p s m args c cc nL own D ca) : va_K D vwCl (tysL ca) s := M.2.1
/-! numbers on the stack -/
theorem zi_add (M : MF p s m args c cc nL own D ca) {a b : Int} (hdg : decode cc pc = .ok (.iadd, 1)) (k : W p l e R s m args below meth c H locs cells slots Q (F0 m (pc + 1) ls (.int (iN (a + b)) :: rest))) : W p l e R s m args below meth c H locs cells slots Q (F0 m pc ls (.int (iN b) :: .int (iN a) :: rest)) :=
  lv_iadd M.hx M.hb hdg (by rw [iN_add]; exact k)
theorem zi_sub (M : MF p s m args c cc nL own D ca) {a b : Int} (hdg : decode cc pc = .ok (.isub, 1)) (k : W p l e R s m args below meth c H locs cells slots Q (F0 m (pc + 1) ls (.int (iN (a - b)) :: rest))) : W p l e R s m args below meth c H locs cells slots Q (F0 m pc ls (.int (iN b) :: .int (iN a) :: rest)) :=
  lv_isub M.hx M.hb hdg (by rw [iN_sub]; exact k)
theorem zi_mul (M : MF p s m args c cc nL own D ca) {a b : Int} (hdg : decode cc pc = .ok (.imul, 1)) (k : W p l e R s m args below meth c H locs cells slots Q (F0 m (pc + 1) ls (.int (iN (a * b)) :: rest))) : W p l e R s m args below meth c H locs cells slots Q (F0 m pc ls (.int (iN b) :: .int (iN a) :: rest)) :=
  lv_imul M.hx M.hb hdg (by rw [iN_mul]; exact k)
theorem zi_const (M : MF p s m args c cc nL own D ca) {n : Int} (v : Int) (hdg : decode cc pc = .ok (.iconst n, 1)) (hv : n = v) (k : W p l e R s m args below meth c H locs cells slots Q (F0 m (pc + 1) ls (.int (iN v) :: rest))) : W p l e R s m args below meth c H locs cells slots Q (F0 m pc ls rest) :=
  lv_iconst (v := iN v) M.hx M.hb hdg (by rw [hv]; rfl) k
theorem zi_bi (M : MF p s m args c cc nL own D ca) {n : Int} (v : Int) (hdg : decode cc pc = .ok (.bipush n, 2)) (hv : (Int8.ofInt n).toInt32 = iN v) (k : W p l e R s m args below meth c H locs cells slots Q (F0 m (pc + 2) ls (.int (iN v) :: rest))) : W p l e R s m args below meth c H locs cells slots Q (F0 m pc ls rest) :=
  lv_bipush (v := iN v) M.hx M.hb hdg hv k
theorem zi_si (M : MF p s m args c cc nL own D ca) {n : Int} (v : Int) (hdg : decode cc pc = .ok (.sipush n, 3)) (hv : (Int16.ofInt n).toInt32 = iN v) (k : W p l e R s m args below meth c H locs cells slots Q (F0 m (pc + 3) ls (.int (iN v) :: rest))) : W p l e R s m args below meth c H locs cells slots Q (F0 m pc ls rest) :=
  lv_sipush (v := iN v) M.hx M.hb hdg hv k
/-! branches -/
theorem zj_lt (M : MF p s m args c cc nL own D ca) {a b off : Int} {tgt : Nat} (hdg : decode cc pc = .ok (.if_icmp .lt off, 3)) (ht : (pc : Int) + off = (tgt : Int)) (ha : iR a) (hb : iR b) (k1 : a < b → W p l e R s m args below meth c H locs cells slots Q (F0 m tgt ls rest)) (k2 : b ≤ a → W p l e R s m args below meth c H locs cells slots Q (F0 m (pc + 3) ls rest)) : W p l e R s m args below meth c H locs cells slots Q (F0 m pc ls (.int (iN b) :: .int (iN a) :: rest)) :=
  lv_icmp_lt M.hx M.hb hdg ht (fun h => k1 ((iN_lt ha hb).mp h)) (fun h => k2 (Int.not_lt.mp (fun q => h ((iN_lt ha hb).mpr q))))
theorem zj_ge (M : MF p s m args c cc nL own D ca) {a b off : Int} {tgt : Nat} (hdg : decode cc pc = .ok (.if_icmp .ge off, 3)) (ht : (pc : Int) + off = (tgt : Int)) (ha : iR a) (hb : iR b) (k1 : b ≤ a → W p l e R s m args below meth c H locs cells slots Q (F0 m tgt ls rest)) (k2 : a < b → W p l e R s m args below meth c H locs cells slots Q (F0 m (pc + 3) ls rest)) : W p l e R s m args below meth c H locs cells slots Q (F0 m pc ls (.int (iN b) :: .int (iN a) :: rest)) :=
  lv_icmp_ge M.hx M.hb hdg ht (fun h => k1 ((iN_le hb ha).mp h)) (fun h => k2 (Int.not_le.mp (fun q => h ((iN_le hb ha).mpr q))))
theorem zj_gt (M : MF p s m args c cc nL own D ca) {a b off : Int} {tgt : Nat} (hdg : decode cc pc = .ok (.if_icmp .gt off, 3)) (ht : (pc : Int) + off = (tgt : Int)) (ha : iR a) (hb : iR b) (k1 : b < a → W p l e R s m args below meth c H locs cells slots Q (F0 m tgt ls rest)) (k2 : a ≤ b → W p l e R s m args below meth c H locs cells slots Q (F0 m (pc + 3) ls rest)) : W p l e R s m args below meth c H locs cells slots Q (F0 m pc ls (.int (iN b) :: .int (iN a) :: rest)) :=
  lv_icmp_gt M.hx M.hb hdg ht (fun h => k1 ((iN_lt hb ha).mp h)) (fun h => k2 (Int.not_lt.mp (fun q => h ((iN_lt hb ha).mpr q))))
theorem zj_le (M : MF p s m args c cc nL own D ca) {a b off : Int} {tgt : Nat} (hdg : decode cc pc = .ok (.if_icmp .le off, 3)) (ht : (pc : Int) + off = (tgt : Int)) (ha : iR a) (hb : iR b) (k1 : a ≤ b → W p l e R s m args below meth c H locs cells slots Q (F0 m tgt ls rest)) (k2 : b < a → W p l e R s m args below meth c H locs cells slots Q (F0 m (pc + 3) ls rest)) : W p l e R s m args below meth c H locs cells slots Q (F0 m pc ls (.int (iN b) :: .int (iN a) :: rest)) :=
  lv_icmp_le M.hx M.hb hdg ht (fun h => k1 ((iN_le ha hb).mp h)) (fun h => k2 (Int.not_le.mp (fun q => h ((iN_le ha hb).mpr q))))
theorem zj_eq (M : MF p s m args c cc nL own D ca) {a b off : Int} {tgt : Nat} (hdg : decode cc pc = .ok (.if_icmp .eq off, 3)) (ht : (pc : Int) + off = (tgt : Int)) (ha : iR a) (hb : iR b) (k1 : a = b → W p l e R s m args below meth c H locs cells slots Q (F0 m tgt ls rest)) (k2 : a ≠ b → W p l e R s m args below meth c H locs cells slots Q (F0 m (pc + 3) ls rest)) : W p l e R s m args below meth c H locs cells slots Q (F0 m pc ls (.int (iN b) :: .int (iN a) :: rest)) :=
  lv_icmp_eq M.hx M.hb hdg ht (fun h => k1 ((iN_eq ha hb).mp h)) (fun h => k2 (fun q => h ((iN_eq ha hb).mpr q)))
theorem zj_ne (M : MF p s m args c cc nL own D ca) {a b off : Int} {tgt : Nat} (hdg : decode cc pc = .ok (.if_icmp .ne off, 3)) (ht : (pc : Int) + off = (tgt : Int)) (ha : iR a) (hb : iR b) (k1 : a ≠ b → W p l e R s m args below meth c H locs cells slots Q (F0 m tgt ls rest)) (k2 : a = b → W p l e R s m args below meth c H locs cells slots Q (F0 m (pc + 3) ls rest)) : W p l e R s m args below meth c H locs cells slots Q (F0 m pc ls (.int (iN b) :: .int (iN a) :: rest)) :=
  lv_icmp_ne M.hx M.hb hdg ht (fun h => k1 (fun q => h ((iN_eq ha hb).mpr q))) (fun h => k2 ((iN_eq ha hb).mp h))
end ZF
