theorem guL_of : GoodIn UW (va_wsS RL 48 yL_of (Cond.codeWith yL_of cL_of 5 (some .int) [(0, 10, 13, 13)] :: UW)) := fun w hw => by
  have hu : w ∈ UW := by
    simp only [va_wsS, List.mem_append, List.mem_cons, List.not_mem_nil, or_false] at hw
    rcases hw with (rfl | rfl | rfl) | rfl | hw
    · exact u_ml_L_48
    · exact u_st_L_of
    · exact u_ini_L
    · exact u_cw_L_of
    · exact hw
  exact ⟨hu, good_of_word (UW_good hu)⟩
/-- the script -/
def LCx (s : State) (b L : Nat) (xs : Nat → Int32) : Prop := va_X b L xs s s.heap ∧ b < s.heap.size ∧ L ≤ 3072
abbrev lAs (s : State) : Nat → Prop := fun q => s.heap.size ≤ q
abbrev lLv (b : Nat) (ad : nKey → Nat) (i : Int) : List (Nat × Value) := [(0, .ref b), (1, .ref (ad (0, 0, 0))), (2, .ref (ad (11, 0, 0))), (3, .ref (ad (13, 0, 0))), (4, .int (iN i))]
def lX (s : State) : Prop := ZX s ∧ vx_Zq Bundle.tN "UNASSIGNED_STACK" Bundle.steD (lAs s) s s.heap ∧ vx_Zq Bundle.tN "SUPPRESSED_SENTINEL" Bundle.listD (lAs s) s s.heap
/-- an operation's end: back at the loop's step -/
def LKK (Inv : List nKey → nS → Prop) (p : Program) (l : Launch) (e : Env) (s : State) (m : MethodId) (args : Array Value) (below : List Frame) (meth : Method) (c : Code) (ca : Nat → ClassId) (D : va_G) (b : Nat) (i : Int) (cells slots : Nat) (Q : State → Prop) : Prop :=
  ∀ (K : List nKey) (ad : nKey → Nat) (σ : nS) (H : Heap) (locs : List Loc) (ls : Array Slot), KC K → KS K → (13, 0, 0) ∈ K → Inv K σ → XW D (lAs s) K ad (cR ca ad σ) H → va_S (lAs s) s.heap H locs → lv_has ls 7 (lLv b ad i) → W p l e room_1 s m args below meth c H locs (cells + 4) (slots + 100) Q (F0 m 832 ls [])
section ZL
variable {p : Program} {l : Launch} {e : Env} {s : State} {m : MethodId} {args : Array Value} {below : List Frame} {meth : Method} {c : Code} {H : Heap} {locs : List Loc} {cells slots : Nat} {Q : State → Prop}
variable {R : Room} {pc : Nat} {ls : Array Slot} {rest : List Value} {D : va_G} {ca : Nat → ClassId} {K : List nKey} {ad : nKey → Nat} {σ : nS} {b L : Nat} {xs : Nat → Int32} {i : Int} {Inv : List nKey → nS → Prop}
theorem z_scr (M : MF p s m args c cL_law 7 RL D ca) (hX : LCx s b L xs) (hS : va_S (lAs s) s.heap H locs) {z v : Int} (h0 : 0 ≤ z) (h1 : z < L) (hdg : decode cL_law pc = .ok (.iaload, 1)) (hv : v = (xs z.toNat).toInt) (kk : W p l e R s m args below meth c H locs cells slots Q (F0 m (pc + 1) ls (.int (iN v) :: rest))) : W p l e R s m args below meth c H locs cells slots Q (F0 m pc ls (.int (iN z) :: .ref b :: rest)) := by
  have hL := hX.2.2
  refine va_sld M.hx M.hb hX.1 hX.2.1 (Nat.not_le.mpr hX.2.1) hS (iN_in h0 h1 (by omega)) hdg ?_
  rw [iN_clamp h0 (by omega), ← iN_self (xs z.toNat), ← hv]
  exact kk
theorem z_lcmp (M : MF p s m args c cL_law 7 RL D ca) {x : Int64} (hdg : decode cL_law pc = .ok (.lcmp, 1)) (kk : W p l e R s m args below meth c H locs cells slots Q (F0 m (pc + 1) ls (.int (iN 0) :: rest))) : W p l e R s m args below meth c H locs cells slots Q (F0 m pc ls (.long x :: .long x :: rest)) := by
  refine W.lcmp M.hx M.hb hdg ?_
  rw [show lg_cmp x x = iN 0 from by simp [lg_cmp]; rfl]
  exact kk
def OK_place (Inv : List nKey → nS → Prop) : Prop := ∀ (K : List nKey) (σ : nS), KC K → KS K → (13, 0, 0) ∈ K → Inv K σ → P_X4_place K σ (fun r1 σ1 => P_X5_place K σ1 (fun r2 σ2 => w r1 = w r2 ∧ Inv K σ2))
set_option maxHeartbeats 1000000 in
theorem law_place (M : MF p s m args c cL_law 7 RL D ca) (hfl : l.stackTraces = false) (hlX : lX s) (hX : LCx s b L xs) (hi0 : 0 ≤ i) (hi1 : i + 6 ≤ L) (hKC : KC K) (hKS : KS K) (h13 : (13, 0, 0) ∈ K) (hp : P_X4_place K σ (fun r1 σ1 => P_X5_place K σ1 (fun r2 σ2 => w r1 = w r2 ∧ Inv K σ2))) (hW : XW D (lAs s) K ad (cR ca ad σ) H) (hS : va_S (lAs s) s.heap H locs) (hl : lv_has ls 7 (lLv b ad i)) (hc1 : cells + 4 ≤ 601024) (hs1 : slots + 100 ≤ 7293034) (kk : LKK Inv p l e s m args below meth c ca D b i cells slots Q) : W p l e room_1 s m args below meth c H locs cells slots Q (F0 m 124 ls []) := by
  have hA : ∀ q : Nat, s.heap.size ≤ q → lAs s q := fun q h => h
  refine z_al_n M dL_law_124 rfl hl 1 rfl ?_
  have hfa := hW.fa hS hA
  refine zc_VU (As := []) (rest := []) M (w_X4_place hKC hp) (cuV M 0 u_co_X4_place u_ml_L_19 u_ini_X4 u_in_X4_place u_se_X4_place (by decide +kernel) rfl rfl ⟨Nat.le_of_ble_eq_true rfl, Nat.le_of_ble_eq_true rfl⟩) (z_recv M hW hKC.k0 rfl rfl) ⟨rfl, hW.weaken (fun _ _ => trivial)⟩ rfl hl rfl (Nat.le_of_ble_eq_true rfl) ⟨by show _ ≤ 601024; omega, by show _ ≤ 7293034; omega⟩ dL_law_125 hS hfa (fun u H locs hw _ _ hS => ?_)
  obtain ⟨r1, σ1⟩ := u
  obtain ⟨hp, hW2⟩ := hw
  have hW := hW2.weaken hfa
  try dsimp only at hp
  refine z_al_n M dL_law_128 rfl hl 2 rfl ?_
  have hfa := hW.fa hS hA
  refine zc_VU (As := []) (rest := [.int (iN r1)]) M (w_X5_place hKC hp) (cuV M 0 u_co_X5_place u_ml_L_23 u_ini_X5 u_in_X5_place u_se_X5_place (by decide +kernel) rfl rfl ⟨Nat.le_of_ble_eq_true rfl, Nat.le_of_ble_eq_true rfl⟩) (z_recv M hW hKC.k11 rfl rfl) ⟨rfl, hW.weaken (fun _ _ => trivial)⟩ rfl hl rfl (Nat.le_of_ble_eq_true rfl) ⟨by show _ ≤ 601024; omega, by show _ ≤ 7293034; omega⟩ dL_law_129 hS hfa (fun u H locs hw _ _ hS => ?_)
  obtain ⟨r2, σ2⟩ := u
  obtain ⟨hp, hW2⟩ := hw
  have hW := hW2.weaken hfa
  try dsimp only at hp
  refine zw_eq M (tgt := 832) dL_law_132 (by decide) rfl rfl (fun h => ?_) (fun h => absurd hp.1 h)
  refine W.widen (k := cells + 4) (n := slots + 100) (by omega) (by omega) ?_
  exact kk _ _ _ _ _ _ hKC hKS h13 hp.2 hW hS hl
def OK_road (Inv : List nKey → nS → Prop) : Prop := ∀ (K : List nKey) (σ : nS) (v1 v2 v3 : Int), KC K → KS K → (13, 0, 0) ∈ K → iR v1 → iR v2 → iR v3 → Inv K σ → P_X4_road K σ v1 v2 v3 (fun r1 σ1 => P_X5_road K σ1 v1 v2 v3 (fun r2 σ2 => w r1 = w r2 ∧ Inv K σ2))
set_option maxHeartbeats 1000000 in
theorem law_road (M : MF p s m args c cL_law 7 RL D ca) (hfl : l.stackTraces = false) (hlX : lX s) (hX : LCx s b L xs) (hi0 : 0 ≤ i) (hi1 : i + 6 ≤ L) (hKC : KC K) (hKS : KS K) (h13 : (13, 0, 0) ∈ K) {v1 v2 v3 : Int} (e1 : v1 = (xs (i + 1).toNat).toInt) (e2 : v2 = (xs (i + 2).toNat).toInt) (e3 : v3 = (xs (i + 3).toNat).toInt) (hp : P_X4_road K σ v1 v2 v3 (fun r1 σ1 => P_X5_road K σ1 v1 v2 v3 (fun r2 σ2 => w r1 = w r2 ∧ Inv K σ2))) (hW : XW D (lAs s) K ad (cR ca ad σ) H) (hS : va_S (lAs s) s.heap H locs) (hl : lv_has ls 7 (lLv b ad i)) (hc1 : cells + 4 ≤ 601024) (hs1 : slots + 100 ≤ 7293034) (kk : LKK Inv p l e s m args below meth c ca D b i cells slots Q) : W p l e room_1 s m args below meth c H locs cells slots Q (F0 m 137 ls []) := by
  have hA : ∀ q : Nat, s.heap.size ≤ q → lAs s q := fun q h => h
  refine z_al_n M dL_law_137 rfl hl 1 rfl ?_
  refine z_al_n M dL_law_138 rfl hl 0 rfl ?_
  refine z_il M dL_law_139 hl 4 rfl ?_
  refine zi_const M 1 dL_law_141 rfl ?_
  refine zi_add M dL_law_142 ?_
  refine z_scr M hX hS (v := v1) (by omega) (by omega) dL_law_143 e1 ?_
  refine z_al_n M dL_law_144 rfl hl 0 rfl ?_
  refine z_il M dL_law_145 hl 4 rfl ?_
  refine zi_const M 2 dL_law_147 rfl ?_
  refine zi_add M dL_law_148 ?_
  refine z_scr M hX hS (v := v2) (by omega) (by omega) dL_law_149 e2 ?_
  refine z_al_n M dL_law_150 rfl hl 0 rfl ?_
  refine z_il M dL_law_151 hl 4 rfl ?_
  refine zi_const M 3 dL_law_153 rfl ?_
  refine zi_add M dL_law_154 ?_
  refine z_scr M hX hS (v := v3) (by omega) (by omega) dL_law_155 e3 ?_
  have hfa := hW.fa hS hA
  refine zc_VU (As := [.int (iN v1), .int (iN v2), .int (iN v3)]) (rest := []) M (w_X4_road hKC hp) (cuV M 3 u_co_X4_road u_ml_L_24 u_ini_X4 u_in_X4_road u_se_X4_road (by decide +kernel) rfl rfl ⟨Nat.le_of_ble_eq_true rfl, Nat.le_of_ble_eq_true rfl⟩) (z_recv M hW hKC.k0 rfl rfl) ⟨rfl, hW.weaken (fun _ _ => trivial)⟩ rfl hl rfl (Nat.le_of_ble_eq_true rfl) ⟨by show _ ≤ 601024; omega, by show _ ≤ 7293034; omega⟩ dL_law_156 hS hfa (fun u H locs hw _ _ hS => ?_)
  obtain ⟨r1, σ1⟩ := u
  obtain ⟨hp, hW2⟩ := hw
  have hW := hW2.weaken hfa
  try dsimp only at hp
  refine z_al_n M dL_law_159 rfl hl 2 rfl ?_
  refine z_al_n M dL_law_160 rfl hl 0 rfl ?_
  refine z_il M dL_law_161 hl 4 rfl ?_
  refine zi_const M 1 dL_law_163 rfl ?_
  refine zi_add M dL_law_164 ?_
  refine z_scr M hX hS (v := v1) (by omega) (by omega) dL_law_165 e1 ?_
  refine z_al_n M dL_law_166 rfl hl 0 rfl ?_
  refine z_il M dL_law_167 hl 4 rfl ?_
  refine zi_const M 2 dL_law_169 rfl ?_
  refine zi_add M dL_law_170 ?_
  refine z_scr M hX hS (v := v2) (by omega) (by omega) dL_law_171 e2 ?_
  refine z_al_n M dL_law_172 rfl hl 0 rfl ?_
  refine z_il M dL_law_173 hl 4 rfl ?_
  refine zi_const M 3 dL_law_175 rfl ?_
  refine zi_add M dL_law_176 ?_
  refine z_scr M hX hS (v := v3) (by omega) (by omega) dL_law_177 e3 ?_
  have hfa := hW.fa hS hA
  refine zc_VU (As := [.int (iN v1), .int (iN v2), .int (iN v3)]) (rest := [.int (iN r1)]) M (w_X5_road hKC hp) (cuV M 3 u_co_X5_road u_ml_L_28 u_ini_X5 u_in_X5_road u_se_X5_road (by decide +kernel) rfl rfl ⟨Nat.le_of_ble_eq_true rfl, Nat.le_of_ble_eq_true rfl⟩) (z_recv M hW hKC.k11 rfl rfl) ⟨rfl, hW.weaken (fun _ _ => trivial)⟩ rfl hl rfl (Nat.le_of_ble_eq_true rfl) ⟨by show _ ≤ 601024; omega, by show _ ≤ 7293034; omega⟩ dL_law_178 hS hfa (fun u H locs hw _ _ hS => ?_)
  obtain ⟨r2, σ2⟩ := u
  obtain ⟨hp, hW2⟩ := hw
  have hW := hW2.weaken hfa
  try dsimp only at hp
  refine zw_eq M (tgt := 832) dL_law_181 (by decide) rfl rfl (fun h => ?_) (fun h => absurd hp.1 h)
  refine W.widen (k := cells + 4) (n := slots + 100) (by omega) (by omega) ?_
  exact kk _ _ _ _ _ _ hKC hKS h13 hp.2 hW hS hl
def OK_rider (Inv : List nKey → nS → Prop) : Prop := ∀ (K : List nKey) (σ : nS) (v1 v2 v3 v4 v5 : Int), KC K → KS K → (13, 0, 0) ∈ K → iR v1 → iR v2 → iR v3 → iR v4 → iR v5 → Inv K σ → P_X4_rider K σ v1 v2 v3 v4 v5 (fun r1 σ1 K1 => P_X5_rider K1 σ1 v1 v2 v3 v4 v5 (fun r2 σ2 => w r1 = w r2 ∧ Inv K1 σ2))
set_option maxHeartbeats 1000000 in
theorem law_rider (M : MF p s m args c cL_law 7 RL D ca) (hfl : l.stackTraces = false) (hlX : lX s) (hX : LCx s b L xs) (hi0 : 0 ≤ i) (hi1 : i + 6 ≤ L) (hKC : KC K) (hKS : KS K) (h13 : (13, 0, 0) ∈ K) {v1 v2 v3 v4 v5 : Int} (e1 : v1 = (xs (i + 1).toNat).toInt) (e2 : v2 = (xs (i + 2).toNat).toInt) (e3 : v3 = (xs (i + 3).toNat).toInt) (e4 : v4 = (xs (i + 4).toNat).toInt) (e5 : v5 = (xs (i + 5).toNat).toInt) (hp : P_X4_rider K σ v1 v2 v3 v4 v5 (fun r1 σ1 K1 => P_X5_rider K1 σ1 v1 v2 v3 v4 v5 (fun r2 σ2 => w r1 = w r2 ∧ Inv K1 σ2))) (hW : XW D (lAs s) K ad (cR ca ad σ) H) (hS : va_S (lAs s) s.heap H locs) (hl : lv_has ls 7 (lLv b ad i)) (hc1 : cells + 4 ≤ 601024) (hs1 : slots + 100 ≤ 7293034) (kk : LKK Inv p l e s m args below meth c ca D b i cells slots Q) : W p l e room_1 s m args below meth c H locs cells slots Q (F0 m 186 ls []) := by
  have hA : ∀ q : Nat, s.heap.size ≤ q → lAs s q := fun q h => h
  refine z_al_n M dL_law_186 rfl hl 1 rfl ?_
  refine z_al_n M dL_law_187 rfl hl 0 rfl ?_
  refine z_il M dL_law_188 hl 4 rfl ?_
  refine zi_const M 1 dL_law_190 rfl ?_
  refine zi_add M dL_law_191 ?_
  refine z_scr M hX hS (v := v1) (by omega) (by omega) dL_law_192 e1 ?_
  refine z_al_n M dL_law_193 rfl hl 0 rfl ?_
  refine z_il M dL_law_194 hl 4 rfl ?_
  refine zi_const M 2 dL_law_196 rfl ?_
  refine zi_add M dL_law_197 ?_
  refine z_scr M hX hS (v := v2) (by omega) (by omega) dL_law_198 e2 ?_
  refine z_al_n M dL_law_199 rfl hl 0 rfl ?_
  refine z_il M dL_law_200 hl 4 rfl ?_
  refine zi_const M 3 dL_law_202 rfl ?_
  refine zi_add M dL_law_203 ?_
  refine z_scr M hX hS (v := v3) (by omega) (by omega) dL_law_204 e3 ?_
  refine z_al_n M dL_law_205 rfl hl 0 rfl ?_
  refine z_il M dL_law_206 hl 4 rfl ?_
  refine zi_const M 4 dL_law_208 rfl ?_
  refine zi_add M dL_law_209 ?_
  refine z_scr M hX hS (v := v4) (by omega) (by omega) dL_law_210 e4 ?_
  refine z_al_n M dL_law_211 rfl hl 0 rfl ?_
  refine z_il M dL_law_212 hl 4 rfl ?_
  refine zi_const M 5 dL_law_214 rfl ?_
  refine zi_add M dL_law_215 ?_
  refine z_scr M hX hS (v := v5) (by omega) (by omega) dL_law_216 e5 ?_
  have hfa := hW.fa hS hA
  refine zc_VU (As := [.int (iN v1), .int (iN v2), .int (iN v3), .int (iN v4), .int (iN v5)]) (rest := []) M (w_X4_rider hKC hKS hp) (cuV M 5 u_co_X4_rider u_ml_L_29 u_ini_X4 u_in_X4_rider u_se_X4_rider (by decide +kernel) rfl rfl ⟨Nat.le_of_ble_eq_true rfl, Nat.le_of_ble_eq_true rfl⟩) (z_recv M hW hKC.k0 rfl rfl) ⟨rfl, hW.weaken (fun _ _ => trivial)⟩ rfl hl rfl (Nat.le_of_ble_eq_true rfl) ⟨by show _ ≤ 601024; omega, by show _ ≤ 7293034; omega⟩ dL_law_217 hS hfa (fun u H locs hw _ _ hS => ?_)
  obtain ⟨r1, σ1, K1, ad1⟩ := u
  obtain ⟨hp, hx, hKC1, hKS1, hW2⟩ := hw
  have hW := hW2.weaken hfa
  try dsimp only at hp hx hKC1 hKS1
  replace h13 := hx _ h13
  replace hl : lv_has ls 7 (lLv b ad1 i) := by unfold lLv; rw [(hx _ hKC.k0).2, (hx _ hKC.k11).2, h13.2]; exact hl
  replace h13 := h13.1
  replace hKC := hKC1
  replace hKS := hKS1
  refine z_al_n M dL_law_220 rfl hl 2 rfl ?_
  refine z_al_n M dL_law_221 rfl hl 0 rfl ?_
  refine z_il M dL_law_222 hl 4 rfl ?_
  refine zi_const M 1 dL_law_224 rfl ?_
  refine zi_add M dL_law_225 ?_
  refine z_scr M hX hS (v := v1) (by omega) (by omega) dL_law_226 e1 ?_
  refine z_al_n M dL_law_227 rfl hl 0 rfl ?_
  refine z_il M dL_law_228 hl 4 rfl ?_
  refine zi_const M 2 dL_law_230 rfl ?_
  refine zi_add M dL_law_231 ?_
  refine z_scr M hX hS (v := v2) (by omega) (by omega) dL_law_232 e2 ?_
  refine z_al_n M dL_law_233 rfl hl 0 rfl ?_
  refine z_il M dL_law_234 hl 4 rfl ?_
  refine zi_const M 3 dL_law_236 rfl ?_
  refine zi_add M dL_law_237 ?_
  refine z_scr M hX hS (v := v3) (by omega) (by omega) dL_law_238 e3 ?_
  refine z_al_n M dL_law_239 rfl hl 0 rfl ?_
  refine z_il M dL_law_240 hl 4 rfl ?_
  refine zi_const M 4 dL_law_242 rfl ?_
  refine zi_add M dL_law_243 ?_
  refine z_scr M hX hS (v := v4) (by omega) (by omega) dL_law_244 e4 ?_
  refine z_al_n M dL_law_245 rfl hl 0 rfl ?_
  refine z_il M dL_law_246 hl 4 rfl ?_
  refine zi_const M 5 dL_law_248 rfl ?_
  refine zi_add M dL_law_249 ?_
  refine z_scr M hX hS (v := v5) (by omega) (by omega) dL_law_250 e5 ?_
  have hfa := hW.fa hS hA
  refine zc_VU (As := [.int (iN v1), .int (iN v2), .int (iN v3), .int (iN v4), .int (iN v5)]) (rest := [.int (iN r1)]) M (w_X5_rider hKC hp) (cuV M 5 u_co_X5_rider u_ml_L_33 u_ini_X5 u_in_X5_rider u_se_X5_rider (by decide +kernel) rfl rfl ⟨Nat.le_of_ble_eq_true rfl, Nat.le_of_ble_eq_true rfl⟩) (z_recv M hW hKC.k11 rfl rfl) ⟨rfl, hW.weaken (fun _ _ => trivial)⟩ rfl hl rfl (Nat.le_of_ble_eq_true rfl) ⟨by show _ ≤ 601024; omega, by show _ ≤ 7293034; omega⟩ dL_law_251 hS hfa (fun u H locs hw _ _ hS => ?_)
  obtain ⟨r2, σ2⟩ := u
  obtain ⟨hp, hW2⟩ := hw
  have hW := hW2.weaken hfa
  try dsimp only at hp
  refine zw_eq M (tgt := 832) dL_law_254 (by decide) rfl rfl (fun h => ?_) (fun h => absurd hp.1 h)
  refine W.widen (k := cells + 4) (n := slots + 100) (by omega) (by omega) ?_
  exact kk _ _ _ _ _ _ hKC hKS h13 hp.2 hW hS hl
def OK_rest (Inv : List nKey → nS → Prop) : Prop := ∀ (K : List nKey) (σ : nS) (v1 : Int), KC K → KS K → (13, 0, 0) ∈ K → iR v1 → Inv K σ → P_X4_rest K σ v1 (fun r1 σ1 => P_X5_rest K σ1 v1 (fun r2 σ2 => w r1 = w r2 ∧ Inv K σ2))
set_option maxHeartbeats 1000000 in
theorem law_rest (M : MF p s m args c cL_law 7 RL D ca) (hfl : l.stackTraces = false) (hlX : lX s) (hX : LCx s b L xs) (hi0 : 0 ≤ i) (hi1 : i + 6 ≤ L) (hKC : KC K) (hKS : KS K) (h13 : (13, 0, 0) ∈ K) {v1 : Int} (e1 : v1 = (xs (i + 1).toNat).toInt) (hp : P_X4_rest K σ v1 (fun r1 σ1 => P_X5_rest K σ1 v1 (fun r2 σ2 => w r1 = w r2 ∧ Inv K σ2))) (hW : XW D (lAs s) K ad (cR ca ad σ) H) (hS : va_S (lAs s) s.heap H locs) (hl : lv_has ls 7 (lLv b ad i)) (hc1 : cells + 4 ≤ 601024) (hs1 : slots + 100 ≤ 7293034) (kk : LKK Inv p l e s m args below meth c ca D b i cells slots Q) : W p l e room_1 s m args below meth c H locs cells slots Q (F0 m 259 ls []) := by
  have hA : ∀ q : Nat, s.heap.size ≤ q → lAs s q := fun q h => h
  refine z_al_n M dL_law_259 rfl hl 1 rfl ?_
  refine z_al_n M dL_law_260 rfl hl 0 rfl ?_
  refine z_il M dL_law_261 hl 4 rfl ?_
  refine zi_const M 1 dL_law_263 rfl ?_
  refine zi_add M dL_law_264 ?_
  refine z_scr M hX hS (v := v1) (by omega) (by omega) dL_law_265 e1 ?_
  have hfa := hW.fa hS hA
  refine zc_VU (As := [.int (iN v1)]) (rest := []) M (w_X4_rest hKC hp) (cuV M 1 u_co_X4_rest u_ml_L_34 u_ini_X4 u_in_X4_rest u_se_X4_rest (by decide +kernel) rfl rfl ⟨Nat.le_of_ble_eq_true rfl, Nat.le_of_ble_eq_true rfl⟩) (z_recv M hW hKC.k0 rfl rfl) ⟨rfl, hW.weaken (fun _ _ => trivial)⟩ rfl hl rfl (Nat.le_of_ble_eq_true rfl) ⟨by show _ ≤ 601024; omega, by show _ ≤ 7293034; omega⟩ dL_law_266 hS hfa (fun u H locs hw _ _ hS => ?_)
  obtain ⟨r1, σ1⟩ := u
  obtain ⟨hp, hW2⟩ := hw
  have hW := hW2.weaken hfa
  try dsimp only at hp
  refine z_al_n M dL_law_269 rfl hl 2 rfl ?_
  refine z_al_n M dL_law_270 rfl hl 0 rfl ?_
  refine z_il M dL_law_271 hl 4 rfl ?_
  refine zi_const M 1 dL_law_273 rfl ?_
  refine zi_add M dL_law_274 ?_
  refine z_scr M hX hS (v := v1) (by omega) (by omega) dL_law_275 e1 ?_
  have hfa := hW.fa hS hA
  refine zc_VU (As := [.int (iN v1)]) (rest := [.int (iN r1)]) M (w_X5_rest hKC hp) (cuV M 1 u_co_X5_rest u_ml_L_38 u_ini_X5 u_in_X5_rest u_se_X5_rest (by decide +kernel) rfl rfl ⟨Nat.le_of_ble_eq_true rfl, Nat.le_of_ble_eq_true rfl⟩) (z_recv M hW hKC.k11 rfl rfl) ⟨rfl, hW.weaken (fun _ _ => trivial)⟩ rfl hl rfl (Nat.le_of_ble_eq_true rfl) ⟨by show _ ≤ 601024; omega, by show _ ≤ 7293034; omega⟩ dL_law_276 hS hfa (fun u H locs hw _ _ hS => ?_)
  obtain ⟨r2, σ2⟩ := u
  obtain ⟨hp, hW2⟩ := hw
  have hW := hW2.weaken hfa
  try dsimp only at hp
  refine zw_eq M (tgt := 832) dL_law_279 (by decide) rfl rfl (fun h => ?_) (fun h => absurd hp.1 h)
  refine W.widen (k := cells + 4) (n := slots + 100) (by omega) (by omega) ?_
  exact kk _ _ _ _ _ _ hKC hKS h13 hp.2 hW hS hl
def OK_count (Inv : List nKey → nS → Prop) : Prop := ∀ (K : List nKey) (σ : nS) (v1 : Int), KC K → KS K → (13, 0, 0) ∈ K → iR v1 → Inv K σ → P_X4_count K σ v1 (fun r1 σ1 => P_X5_count K σ1 v1 (fun r2 σ2 => w r1 = w r2 ∧ Inv K σ2))
set_option maxHeartbeats 1000000 in
theorem law_count (M : MF p s m args c cL_law 7 RL D ca) (hfl : l.stackTraces = false) (hlX : lX s) (hX : LCx s b L xs) (hi0 : 0 ≤ i) (hi1 : i + 6 ≤ L) (hKC : KC K) (hKS : KS K) (h13 : (13, 0, 0) ∈ K) {v1 : Int} (e1 : v1 = (xs (i + 1).toNat).toInt) (hp : P_X4_count K σ v1 (fun r1 σ1 => P_X5_count K σ1 v1 (fun r2 σ2 => w r1 = w r2 ∧ Inv K σ2))) (hW : XW D (lAs s) K ad (cR ca ad σ) H) (hS : va_S (lAs s) s.heap H locs) (hl : lv_has ls 7 (lLv b ad i)) (hc1 : cells + 4 ≤ 601024) (hs1 : slots + 100 ≤ 7293034) (kk : LKK Inv p l e s m args below meth c ca D b i cells slots Q) : W p l e room_1 s m args below meth c H locs cells slots Q (F0 m 284 ls []) := by
  have hA : ∀ q : Nat, s.heap.size ≤ q → lAs s q := fun q h => h
  refine z_al_n M dL_law_284 rfl hl 1 rfl ?_
  refine z_al_n M dL_law_285 rfl hl 0 rfl ?_
  refine z_il M dL_law_286 hl 4 rfl ?_
  refine zi_const M 1 dL_law_288 rfl ?_
  refine zi_add M dL_law_289 ?_
  refine z_scr M hX hS (v := v1) (by omega) (by omega) dL_law_290 e1 ?_
  have hfa := hW.fa hS hA
  refine zc_VU (As := [.int (iN v1)]) (rest := []) M (w_X4_count hKC hp) (cuV M 1 u_co_X4_count u_ml_L_39 u_ini_X4 u_in_X4_count u_se_X4_count (by decide +kernel) rfl rfl ⟨Nat.le_of_ble_eq_true rfl, Nat.le_of_ble_eq_true rfl⟩) (z_recv M hW hKC.k0 rfl rfl) ⟨rfl, hW.weaken (fun _ _ => trivial)⟩ rfl hl rfl (Nat.le_of_ble_eq_true rfl) ⟨by show _ ≤ 601024; omega, by show _ ≤ 7293034; omega⟩ dL_law_291 hS hfa (fun u H locs hw _ _ hS => ?_)
  obtain ⟨r1, σ1⟩ := u
  obtain ⟨hp, hW2⟩ := hw
  have hW := hW2.weaken hfa
  try dsimp only at hp
  refine z_al_n M dL_law_294 rfl hl 2 rfl ?_
  refine z_al_n M dL_law_295 rfl hl 0 rfl ?_
  refine z_il M dL_law_296 hl 4 rfl ?_
  refine zi_const M 1 dL_law_298 rfl ?_
  refine zi_add M dL_law_299 ?_
  refine z_scr M hX hS (v := v1) (by omega) (by omega) dL_law_300 e1 ?_
  have hfa := hW.fa hS hA
  refine zc_VU (As := [.int (iN v1)]) (rest := [.int (iN r1)]) M (w_X5_count hKC hp) (cuV M 1 u_co_X5_count u_ml_L_42 u_ini_X5 u_in_X5_count u_se_X5_count (by decide +kernel) rfl rfl ⟨Nat.le_of_ble_eq_true rfl, Nat.le_of_ble_eq_true rfl⟩) (z_recv M hW hKC.k11 rfl rfl) ⟨rfl, hW.weaken (fun _ _ => trivial)⟩ rfl hl rfl (Nat.le_of_ble_eq_true rfl) ⟨by show _ ≤ 601024; omega, by show _ ≤ 7293034; omega⟩ dL_law_301 hS hfa (fun u H locs hw _ _ hS => ?_)
  obtain ⟨r2, σ2⟩ := u
  obtain ⟨hp, hW2⟩ := hw
  have hW := hW2.weaken hfa
  try dsimp only at hp
  refine zw_eq M (tgt := 832) dL_law_304 (by decide) rfl rfl (fun h => ?_) (fun h => absurd hp.1 h)
  refine W.widen (k := cells + 4) (n := slots + 100) (by omega) (by omega) ?_
  exact kk _ _ _ _ _ _ hKC hKS h13 hp.2 hW hS hl
def OK_way (Inv : List nKey → nS → Prop) : Prop := ∀ (K : List nKey) (σ : nS) (v1 v2 v3 : Int), KC K → KS K → (13, 0, 0) ∈ K → iR v1 → iR v2 → iR v3 → Inv K σ → P_X4_way K σ v1 v2 v3 (fun r1 σ1 => P_X5_way K σ1 v1 v2 v3 (fun r2 σ2 => w r1 = w r2 ∧ Inv K σ2))
set_option maxHeartbeats 1000000 in
theorem law_way (M : MF p s m args c cL_law 7 RL D ca) (hfl : l.stackTraces = false) (hlX : lX s) (hX : LCx s b L xs) (hi0 : 0 ≤ i) (hi1 : i + 6 ≤ L) (hKC : KC K) (hKS : KS K) (h13 : (13, 0, 0) ∈ K) {v1 v2 v3 : Int} (e1 : v1 = (xs (i + 1).toNat).toInt) (e2 : v2 = (xs (i + 2).toNat).toInt) (e3 : v3 = (xs (i + 3).toNat).toInt) (hp : P_X4_way K σ v1 v2 v3 (fun r1 σ1 => P_X5_way K σ1 v1 v2 v3 (fun r2 σ2 => w r1 = w r2 ∧ Inv K σ2))) (hW : XW D (lAs s) K ad (cR ca ad σ) H) (hS : va_S (lAs s) s.heap H locs) (hl : lv_has ls 7 (lLv b ad i)) (hc1 : cells + 4 ≤ 601024) (hs1 : slots + 100 ≤ 7293034) (kk : LKK Inv p l e s m args below meth c ca D b i cells slots Q) : W p l e room_1 s m args below meth c H locs cells slots Q (F0 m 309 ls []) := by
  have hA : ∀ q : Nat, s.heap.size ≤ q → lAs s q := fun q h => h
  refine z_al_n M dL_law_309 rfl hl 1 rfl ?_
  refine z_al_n M dL_law_310 rfl hl 0 rfl ?_
  refine z_il M dL_law_311 hl 4 rfl ?_
  refine zi_const M 1 dL_law_313 rfl ?_
  refine zi_add M dL_law_314 ?_
  refine z_scr M hX hS (v := v1) (by omega) (by omega) dL_law_315 e1 ?_
  refine z_al_n M dL_law_316 rfl hl 0 rfl ?_
  refine z_il M dL_law_317 hl 4 rfl ?_
  refine zi_const M 2 dL_law_319 rfl ?_
  refine zi_add M dL_law_320 ?_
  refine z_scr M hX hS (v := v2) (by omega) (by omega) dL_law_321 e2 ?_
  refine z_al_n M dL_law_322 rfl hl 0 rfl ?_
  refine z_il M dL_law_323 hl 4 rfl ?_
  refine zi_const M 3 dL_law_325 rfl ?_
  refine zi_add M dL_law_326 ?_
  refine z_scr M hX hS (v := v3) (by omega) (by omega) dL_law_327 e3 ?_
  have hfa := hW.fa hS hA
  refine zc_VU (As := [.int (iN v1), .int (iN v2), .int (iN v3)]) (rest := []) M (w_X4_way hKC hp) (cuV M 3 u_co_X4_way u_ml_L_43 u_ini_X4 u_in_X4_way u_se_X4_way (by decide +kernel) rfl rfl ⟨Nat.le_of_ble_eq_true rfl, Nat.le_of_ble_eq_true rfl⟩) (z_recv M hW hKC.k0 rfl rfl) ⟨rfl, hW.weaken (fun _ _ => trivial)⟩ rfl hl rfl (Nat.le_of_ble_eq_true rfl) ⟨by show _ ≤ 601024; omega, by show _ ≤ 7293034; omega⟩ dL_law_328 hS hfa (fun u H locs hw _ _ hS => ?_)
  obtain ⟨r1, σ1⟩ := u
  obtain ⟨hp, hW2⟩ := hw
  have hW := hW2.weaken hfa
  try dsimp only at hp
  refine z_al_n M dL_law_331 rfl hl 2 rfl ?_
  refine z_al_n M dL_law_332 rfl hl 0 rfl ?_
  refine z_il M dL_law_333 hl 4 rfl ?_
  refine zi_const M 1 dL_law_335 rfl ?_
  refine zi_add M dL_law_336 ?_
  refine z_scr M hX hS (v := v1) (by omega) (by omega) dL_law_337 e1 ?_
  refine z_al_n M dL_law_338 rfl hl 0 rfl ?_
  refine z_il M dL_law_339 hl 4 rfl ?_
  refine zi_const M 2 dL_law_341 rfl ?_
  refine zi_add M dL_law_342 ?_
  refine z_scr M hX hS (v := v2) (by omega) (by omega) dL_law_343 e2 ?_
  refine z_al_n M dL_law_344 rfl hl 0 rfl ?_
  refine z_il M dL_law_345 hl 4 rfl ?_
  refine zi_const M 3 dL_law_347 rfl ?_
  refine zi_add M dL_law_348 ?_
  refine z_scr M hX hS (v := v3) (by omega) (by omega) dL_law_349 e3 ?_
  have hfa := hW.fa hS hA
  refine zc_VU (As := [.int (iN v1), .int (iN v2), .int (iN v3)]) (rest := [.int (iN r1)]) M (w_X5_way hKC hp) (cuV M 3 u_co_X5_way u_ml_L_47 u_ini_X5 u_in_X5_way u_se_X5_way (by decide +kernel) rfl rfl ⟨Nat.le_of_ble_eq_true rfl, Nat.le_of_ble_eq_true rfl⟩) (z_recv M hW hKC.k11 rfl rfl) ⟨rfl, hW.weaken (fun _ _ => trivial)⟩ rfl hl rfl (Nat.le_of_ble_eq_true rfl) ⟨by show _ ≤ 601024; omega, by show _ ≤ 7293034; omega⟩ dL_law_350 hS hfa (fun u H locs hw _ _ hS => ?_)
  obtain ⟨r2, σ2⟩ := u
  obtain ⟨hp, hW2⟩ := hw
  have hW := hW2.weaken hfa
  try dsimp only at hp
  refine zw_eq M (tgt := 832) dL_law_353 (by decide) rfl rfl (fun h => ?_) (fun h => absurd hp.1 h)
  refine W.widen (k := cells + 4) (n := slots + 100) (by omega) (by omega) ?_
  exact kk _ _ _ _ _ _ hKC hKS h13 hp.2 hW hS hl
def OK_of (Inv : List nKey → nS → Prop) : Prop := ∀ (K : List nKey) (σ : nS) (v1 v2 : Int), KC K → KS K → (13, 0, 0) ∈ K → iR v1 → iR v2 → Inv K σ → P_L_of K σ v1 v2 (fun r1 σ1 => P_X5_of K σ1 v1 v2 (fun r2 σ2 => P_X5_thrown K σ2 (fun r3 σ3 => w r3 = w r1 ∧ (w r1 = 0 → w (σ3.1 (13, 0, 0) 0) = w r2) ∧ Inv K σ3)))
set_option maxHeartbeats 1000000 in
theorem law_of (M : MF p s m args c cL_law 7 RL D ca) (hfl : l.stackTraces = false) (hlX : lX s) (hX : LCx s b L xs) (hi0 : 0 ≤ i) (hi1 : i + 6 ≤ L) (hKC : KC K) (hKS : KS K) (h13 : (13, 0, 0) ∈ K) {v1 v2 : Int} (e1 : v1 = (xs (i + 1).toNat).toInt) (e2 : v2 = (xs (i + 2).toNat).toInt) (hp : P_L_of K σ v1 v2 (fun r1 σ1 => P_X5_of K σ1 v1 v2 (fun r2 σ2 => P_X5_thrown K σ2 (fun r3 σ3 => w r3 = w r1 ∧ (w r1 = 0 → w (σ3.1 (13, 0, 0) 0) = w r2) ∧ Inv K σ3)))) (hW : XW D (lAs s) K ad (cR ca ad σ) H) (hS : va_S (lAs s) s.heap H locs) (hl : lv_has ls 7 (lLv b ad i)) (hc1 : cells + 4 ≤ 601024) (hs1 : slots + 100 ≤ 7293034) (kk : LKK Inv p l e s m args below meth c ca D b i cells slots Q) : W p l e room_1 s m args below meth c H locs cells slots Q (F0 m 358 ls []) := by
  have hA : ∀ q : Nat, s.heap.size ≤ q → lAs s q := fun q h => h
  refine z_al_n M dL_law_358 rfl hl 1 rfl ?_
  refine z_al_n M dL_law_359 rfl hl 0 rfl ?_
  refine z_il M dL_law_360 hl 4 rfl ?_
  refine zi_const M 1 dL_law_362 rfl ?_
  refine zi_add M dL_law_363 ?_
  refine z_scr M hX hS (v := v1) (by omega) (by omega) dL_law_364 e1 ?_
  refine z_al_n M dL_law_365 rfl hl 0 rfl ?_
  refine z_il M dL_law_366 hl 4 rfl ?_
  refine zi_const M 2 dL_law_368 rfl ?_
  refine zi_add M dL_law_369 ?_
  refine z_scr M hX hS (v := v2) (by omega) (by omega) dL_law_370 e2 ?_
  refine z_al_n M dL_law_371 rfl hl 3 rfl ?_
  have hfa := hW.fa hS hA
  refine zc_up (zc_of (vx_runSW (As := [.ref (ad (0, 0, 0)), .int (iN v1), .int (iN v2), .ref (ad (13, 0, 0))]) (rest := []) M.1 (w_L_of (sz := H.size) hfl hKC h13 hp) (vx_cwSW (Ts := UW) 4 M.hts guL_of rfl rfl rfl (by decide +kernel) ⟨Nat.le_of_ble_eq_true rfl, Nat.le_of_ble_eq_true rfl⟩) ⟨zpx_blind, fun U hu hV => ⟨rfl, ⟨by rw [hu], by rw [hu]; exact hW.weaken (fun _ _ => trivial)⟩, ZK.moved hV M.2, ZX.moved hV hlX.1, by rw [hu]; exact (vx_Zq.moved hV.alike (hlX.2.1.kept hS.2.1)).narrow hfa, by rw [hu]; exact (vx_Zq.moved hV.alike (hlX.2.2.kept hS.2.1)).narrow hfa⟩⟩ rfl rfl hl.1 rfl (Nat.le_of_ble_eq_true rfl) dL_law_372 ⟨by show _ ≤ 601024; omega, by show _ ≤ 7293034; omega⟩)) hS hfa (fun u H locs hw _ _ hS => ?_)
  obtain ⟨r1, σ1⟩ := u
  obtain ⟨hp, hW2⟩ := hw
  have hW := hW2.weaken hfa
  try dsimp only at hp
  refine W.eq (g2 := F0 m 375 ls (.int (iN r1) :: [])) rfl ?_
  refine z_is M ((5, .int (iN r1)) :: lLv b ad i) dL_law_375 hl (by decide) rfl (fun ls hl => ?_)
  refine z_al_n M dL_law_377 rfl hl 3 rfl ?_
  refine z_al_n M dL_law_378 rfl hl 1 rfl ?_
  refine z_il M dL_law_379 hl 5 rfl ?_
  refine zi_const M 1 dL_law_381 rfl ?_
  refine zi_add M dL_law_382 ?_
  refine z_scr M hX hS (v := v1) (by omega) (by omega) dL_law_383 e1 ?_
  refine z_al_n M dL_law_384 rfl hl 1 rfl ?_
  refine z_il M dL_law_385 hl 5 rfl ?_
  refine zi_const M 2 dL_law_387 rfl ?_
  refine zi_add M dL_law_388 ?_
  refine z_scr M hX hS (v := v2) (by omega) (by omega) dL_law_389 e2 ?_
  have hfa := hW.fa hS hA
  refine zc_VU (As := [.int (iN v1), .int (iN v2)]) (rest := []) M (w_X5_of hKC hp) (cuV M 2 u_co_X5_of u_ml_L_53 u_ini_X5 u_in_X5_of u_se_X5_of (by decide +kernel) rfl rfl ⟨Nat.le_of_ble_eq_true rfl, Nat.le_of_ble_eq_true rfl⟩) (z_recv M hW hKC.k11 rfl rfl) ⟨rfl, hW.weaken (fun _ _ => trivial)⟩ rfl hl rfl (Nat.le_of_ble_eq_true rfl) ⟨by show _ ≤ 601024; omega, by show _ ≤ 7293034; omega⟩ dL_law_390 hS hfa (fun u H locs hw _ _ hS => ?_)
  obtain ⟨r2, σ2⟩ := u
  obtain ⟨hp, hW2⟩ := hw
  have hW := hW2.weaken hfa
  try dsimp only at hp
  refine z_is M ((6, .int (iN r2)) :: (5, .int (iN r1)) :: lLv b ad i) dL_law_393 hl (by decide) rfl (fun ls hl => ?_)
  refine z_al_n M dL_law_395 rfl hl 4 rfl ?_
  have hfa := hW.fa hS hA
  refine zc_VU (As := []) (rest := []) M (w_X5_thrown hKC hp) (cuV M 0 u_co_X5_thrown u_ml_L_54 u_ini_X5 u_in_X5_thrown u_se_X5_thrown (by decide +kernel) rfl rfl ⟨Nat.le_of_ble_eq_true rfl, Nat.le_of_ble_eq_true rfl⟩) (z_recv M hW hKC.k11 rfl rfl) ⟨rfl, hW.weaken (fun _ _ => trivial)⟩ rfl hl rfl (Nat.le_of_ble_eq_true rfl) ⟨by show _ ≤ 601024; omega, by show _ ≤ 7293034; omega⟩ dL_law_396 hS hfa (fun u H locs hw _ _ hS => ?_)
  obtain ⟨r3, σ3⟩ := u
  obtain ⟨hp, hW2⟩ := hw
  have hW := hW2.weaken hfa
  try dsimp only at hp
  refine z_il M dL_law_399 hl 1 rfl ?_
  refine zw_eq M (tgt := 406) dL_law_401 (by decide) rfl rfl (fun h => ?_) (fun h => absurd hp.1 h)
  have hfin : W p l e room_1 s m args below meth c H locs (cells + 1) (slots + 6) Q (F0 m 832 ls []) := by
    refine W.widen (k := cells + 4) (n := slots + 100) (by omega) (by omega) ?_
    exact kk _ _ _ _ _ _ hKC hKS h13 hp.2.2 hW hS (lv_sub hl [2, 3, 4, 5, 6] rfl)
  refine z_il M dL_law_406 hl 1 rfl ?_
  refine zv_ne M (tgt := 423) dL_law_408 (by decide) rfl (fun h => ?_) (fun h => ?_)
  · exact zg M (tgt := 832) dL_law_423 (by decide) hfin
  · refine z_al_n M dL_law_411 rfl hl 5 rfl ?_
    refine zi_const M 0 dL_law_412 rfl ?_
    refine z_lald (n := 1) M hW h13 (fun _ _ => rfl) (by decide) (by decide) (by decide) dL_law_413 ?_
    refine z_il M dL_law_414 hl 0 rfl ?_
    refine lv_i2l M.hx M.hb dL_law_416 rfl ?_
    rw [show iN (σ3.1 (13, 0, 0) (0 : Int).toNat) = iN r2 from by have := congrArg iN (hp.2.1 h); rwa [w_iN, w_iN] at this]
    refine z_lcmp M dL_law_417 ?_
    refine zv_eq M (tgt := 423) dL_law_418 (by decide) (w_of ⟨by decide, by decide⟩) (fun h => ?_) (fun h => absurd rfl h)
    exact zg M (tgt := 832) dL_law_423 (by decide) hfin
def OK_duty (Inv : List nKey → nS → Prop) : Prop := ∀ (K : List nKey) (σ : nS) (v1 v2 : Int), KC K → KS K → (13, 0, 0) ∈ K → iR v1 → iR v2 → Inv K σ → P_X4_duty K σ v1 v2 (fun r1 σ1 => P_X5_duty K σ1 v1 v2 (fun r2 σ2 => w r1 = w r2 ∧ Inv K σ2))
set_option maxHeartbeats 1000000 in
theorem law_duty (M : MF p s m args c cL_law 7 RL D ca) (hfl : l.stackTraces = false) (hlX : lX s) (hX : LCx s b L xs) (hi0 : 0 ≤ i) (hi1 : i + 6 ≤ L) (hKC : KC K) (hKS : KS K) (h13 : (13, 0, 0) ∈ K) {v1 v2 : Int} (e1 : v1 = (xs (i + 1).toNat).toInt) (e2 : v2 = (xs (i + 2).toNat).toInt) (hp : P_X4_duty K σ v1 v2 (fun r1 σ1 => P_X5_duty K σ1 v1 v2 (fun r2 σ2 => w r1 = w r2 ∧ Inv K σ2))) (hW : XW D (lAs s) K ad (cR ca ad σ) H) (hS : va_S (lAs s) s.heap H locs) (hl : lv_has ls 7 (lLv b ad i)) (hc1 : cells + 4 ≤ 601024) (hs1 : slots + 100 ≤ 7293034) (kk : LKK Inv p l e s m args below meth c ca D b i cells slots Q) : W p l e room_1 s m args below meth c H locs cells slots Q (F0 m 426 ls []) := by
  have hA : ∀ q : Nat, s.heap.size ≤ q → lAs s q := fun q h => h
  refine z_al_n M dL_law_426 rfl hl 1 rfl ?_
  refine z_al_n M dL_law_427 rfl hl 0 rfl ?_
  refine z_il M dL_law_428 hl 4 rfl ?_
  refine zi_const M 1 dL_law_430 rfl ?_
  refine zi_add M dL_law_431 ?_
  refine z_scr M hX hS (v := v1) (by omega) (by omega) dL_law_432 e1 ?_
  refine z_al_n M dL_law_433 rfl hl 0 rfl ?_
  refine z_il M dL_law_434 hl 4 rfl ?_
  refine zi_const M 2 dL_law_436 rfl ?_
  refine zi_add M dL_law_437 ?_
  refine z_scr M hX hS (v := v2) (by omega) (by omega) dL_law_438 e2 ?_
  have hfa := hW.fa hS hA
  refine zc_VU (As := [.int (iN v1), .int (iN v2)]) (rest := []) M (w_X4_duty hKC hp) (cuV M 2 u_co_X4_duty u_ml_L_57 u_ini_X4 u_in_X4_duty u_se_X4_duty (by decide +kernel) rfl rfl ⟨Nat.le_of_ble_eq_true rfl, Nat.le_of_ble_eq_true rfl⟩) (z_recv M hW hKC.k0 rfl rfl) ⟨rfl, hW.weaken (fun _ _ => trivial)⟩ rfl hl rfl (Nat.le_of_ble_eq_true rfl) ⟨by show _ ≤ 601024; omega, by show _ ≤ 7293034; omega⟩ dL_law_439 hS hfa (fun u H locs hw _ _ hS => ?_)
  obtain ⟨r1, σ1⟩ := u
  obtain ⟨hp, hW2⟩ := hw
  have hW := hW2.weaken hfa
  try dsimp only at hp
  refine z_al_n M dL_law_442 rfl hl 2 rfl ?_
  refine z_al_n M dL_law_443 rfl hl 0 rfl ?_
  refine z_il M dL_law_444 hl 4 rfl ?_
  refine zi_const M 1 dL_law_446 rfl ?_
  refine zi_add M dL_law_447 ?_
  refine z_scr M hX hS (v := v1) (by omega) (by omega) dL_law_448 e1 ?_
  refine z_al_n M dL_law_449 rfl hl 0 rfl ?_
  refine z_il M dL_law_450 hl 4 rfl ?_
  refine zi_const M 2 dL_law_452 rfl ?_
  refine zi_add M dL_law_453 ?_
  refine z_scr M hX hS (v := v2) (by omega) (by omega) dL_law_454 e2 ?_
  have hfa := hW.fa hS hA
  refine zc_VU (As := [.int (iN v1), .int (iN v2)]) (rest := [.int (iN r1)]) M (w_X5_duty hKC hp) (cuV M 2 u_co_X5_duty u_ml_L_60 u_ini_X5 u_in_X5_duty u_se_X5_duty (by decide +kernel) rfl rfl ⟨Nat.le_of_ble_eq_true rfl, Nat.le_of_ble_eq_true rfl⟩) (z_recv M hW hKC.k11 rfl rfl) ⟨rfl, hW.weaken (fun _ _ => trivial)⟩ rfl hl rfl (Nat.le_of_ble_eq_true rfl) ⟨by show _ ≤ 601024; omega, by show _ ≤ 7293034; omega⟩ dL_law_455 hS hfa (fun u H locs hw _ _ hS => ?_)
  obtain ⟨r2, σ2⟩ := u
  obtain ⟨hp, hW2⟩ := hw
  have hW := hW2.weaken hfa
  try dsimp only at hp
  refine zw_eq M (tgt := 832) dL_law_458 (by decide) rfl rfl (fun h => ?_) (fun h => absurd hp.1 h)
  refine W.widen (k := cells + 4) (n := slots + 100) (by omega) (by omega) ?_
  exact kk _ _ _ _ _ _ hKC hKS h13 hp.2 hW hS hl
def OK_bare (Inv : List nKey → nS → Prop) : Prop := ∀ (K : List nKey) (σ : nS) (v1 v2 : Int), KC K → KS K → (13, 0, 0) ∈ K → iR v1 → iR v2 → Inv K σ → P_X4_bare K σ v1 v2 (fun r1 σ1 => P_X5_bare K σ1 v1 v2 (fun r2 σ2 => w r1 = w r2 ∧ Inv K σ2))
set_option maxHeartbeats 1000000 in
theorem law_bare (M : MF p s m args c cL_law 7 RL D ca) (hfl : l.stackTraces = false) (hlX : lX s) (hX : LCx s b L xs) (hi0 : 0 ≤ i) (hi1 : i + 6 ≤ L) (hKC : KC K) (hKS : KS K) (h13 : (13, 0, 0) ∈ K) {v1 v2 : Int} (e1 : v1 = (xs (i + 1).toNat).toInt) (e2 : v2 = (xs (i + 2).toNat).toInt) (hp : P_X4_bare K σ v1 v2 (fun r1 σ1 => P_X5_bare K σ1 v1 v2 (fun r2 σ2 => w r1 = w r2 ∧ Inv K σ2))) (hW : XW D (lAs s) K ad (cR ca ad σ) H) (hS : va_S (lAs s) s.heap H locs) (hl : lv_has ls 7 (lLv b ad i)) (hc1 : cells + 4 ≤ 601024) (hs1 : slots + 100 ≤ 7293034) (kk : LKK Inv p l e s m args below meth c ca D b i cells slots Q) : W p l e room_1 s m args below meth c H locs cells slots Q (F0 m 463 ls []) := by
  have hA : ∀ q : Nat, s.heap.size ≤ q → lAs s q := fun q h => h
  refine z_al_n M dL_law_463 rfl hl 1 rfl ?_
  refine z_al_n M dL_law_464 rfl hl 0 rfl ?_
  refine z_il M dL_law_465 hl 4 rfl ?_
  refine zi_const M 1 dL_law_467 rfl ?_
  refine zi_add M dL_law_468 ?_
  refine z_scr M hX hS (v := v1) (by omega) (by omega) dL_law_469 e1 ?_
  refine z_al_n M dL_law_470 rfl hl 0 rfl ?_
  refine z_il M dL_law_471 hl 4 rfl ?_
  refine zi_const M 2 dL_law_473 rfl ?_
  refine zi_add M dL_law_474 ?_
  refine z_scr M hX hS (v := v2) (by omega) (by omega) dL_law_475 e2 ?_
  have hfa := hW.fa hS hA
  refine zc_VU (As := [.int (iN v1), .int (iN v2)]) (rest := []) M (w_X4_bare hKC hp) (cuV M 2 u_co_X4_bare u_ml_L_61 u_ini_X4 u_in_X4_bare u_se_X4_bare (by decide +kernel) rfl rfl ⟨Nat.le_of_ble_eq_true rfl, Nat.le_of_ble_eq_true rfl⟩) (z_recv M hW hKC.k0 rfl rfl) ⟨rfl, hW.weaken (fun _ _ => trivial)⟩ rfl hl rfl (Nat.le_of_ble_eq_true rfl) ⟨by show _ ≤ 601024; omega, by show _ ≤ 7293034; omega⟩ dL_law_476 hS hfa (fun u H locs hw _ _ hS => ?_)
  obtain ⟨r1, σ1⟩ := u
  obtain ⟨hp, hW2⟩ := hw
  have hW := hW2.weaken hfa
  try dsimp only at hp
  refine z_al_n M dL_law_479 rfl hl 2 rfl ?_
  refine z_al_n M dL_law_480 rfl hl 0 rfl ?_
  refine z_il M dL_law_481 hl 4 rfl ?_
  refine zi_const M 1 dL_law_483 rfl ?_
  refine zi_add M dL_law_484 ?_
  refine z_scr M hX hS (v := v1) (by omega) (by omega) dL_law_485 e1 ?_
  refine z_al_n M dL_law_486 rfl hl 0 rfl ?_
  refine z_il M dL_law_487 hl 4 rfl ?_
  refine zi_const M 2 dL_law_489 rfl ?_
  refine zi_add M dL_law_490 ?_
  refine z_scr M hX hS (v := v2) (by omega) (by omega) dL_law_491 e2 ?_
  have hfa := hW.fa hS hA
  refine zc_VU (As := [.int (iN v1), .int (iN v2)]) (rest := [.int (iN r1)]) M (w_X5_bare hKC hp) (cuV M 2 u_co_X5_bare u_ml_L_64 u_ini_X5 u_in_X5_bare u_se_X5_bare (by decide +kernel) rfl rfl ⟨Nat.le_of_ble_eq_true rfl, Nat.le_of_ble_eq_true rfl⟩) (z_recv M hW hKC.k11 rfl rfl) ⟨rfl, hW.weaken (fun _ _ => trivial)⟩ rfl hl rfl (Nat.le_of_ble_eq_true rfl) ⟨by show _ ≤ 601024; omega, by show _ ≤ 7293034; omega⟩ dL_law_492 hS hfa (fun u H locs hw _ _ hS => ?_)
  obtain ⟨r2, σ2⟩ := u
  obtain ⟨hp, hW2⟩ := hw
  have hW := hW2.weaken hfa
  try dsimp only at hp
  refine zw_eq M (tgt := 832) dL_law_495 (by decide) rfl rfl (fun h => ?_) (fun h => absurd hp.1 h)
  refine W.widen (k := cells + 4) (n := slots + 100) (by omega) (by omega) ?_
  exact kk _ _ _ _ _ _ hKC hKS h13 hp.2 hW hS hl
def OK_call (Inv : List nKey → nS → Prop) : Prop := ∀ (K : List nKey) (σ : nS) (v1 v2 v3 v4 v5 : Int), KC K → KS K → (13, 0, 0) ∈ K → iR v1 → iR v2 → iR v3 → iR v4 → iR v5 → Inv K σ → P_X4_call K σ v1 v2 v3 v4 v5 (fun r1 σ1 K1 => P_X5_call K1 σ1 v1 v2 v3 v4 v5 (fun r2 σ2 => w r1 = w r2 ∧ Inv K1 σ2))
set_option maxHeartbeats 1000000 in
theorem law_call (M : MF p s m args c cL_law 7 RL D ca) (hfl : l.stackTraces = false) (hlX : lX s) (hX : LCx s b L xs) (hi0 : 0 ≤ i) (hi1 : i + 6 ≤ L) (hKC : KC K) (hKS : KS K) (h13 : (13, 0, 0) ∈ K) {v1 v2 v3 v4 v5 : Int} (e1 : v1 = (xs (i + 1).toNat).toInt) (e2 : v2 = (xs (i + 2).toNat).toInt) (e3 : v3 = (xs (i + 3).toNat).toInt) (e4 : v4 = (xs (i + 4).toNat).toInt) (e5 : v5 = (xs (i + 5).toNat).toInt) (hp : P_X4_call K σ v1 v2 v3 v4 v5 (fun r1 σ1 K1 => P_X5_call K1 σ1 v1 v2 v3 v4 v5 (fun r2 σ2 => w r1 = w r2 ∧ Inv K1 σ2))) (hW : XW D (lAs s) K ad (cR ca ad σ) H) (hS : va_S (lAs s) s.heap H locs) (hl : lv_has ls 7 (lLv b ad i)) (hc1 : cells + 4 ≤ 601024) (hs1 : slots + 100 ≤ 7293034) (kk : LKK Inv p l e s m args below meth c ca D b i cells slots Q) : W p l e room_1 s m args below meth c H locs cells slots Q (F0 m 500 ls []) := by
  have hA : ∀ q : Nat, s.heap.size ≤ q → lAs s q := fun q h => h
  refine z_al_n M dL_law_500 rfl hl 1 rfl ?_
  refine z_al_n M dL_law_501 rfl hl 0 rfl ?_
  refine z_il M dL_law_502 hl 4 rfl ?_
  refine zi_const M 1 dL_law_504 rfl ?_
  refine zi_add M dL_law_505 ?_
  refine z_scr M hX hS (v := v1) (by omega) (by omega) dL_law_506 e1 ?_
  refine z_al_n M dL_law_507 rfl hl 0 rfl ?_
  refine z_il M dL_law_508 hl 4 rfl ?_
  refine zi_const M 2 dL_law_510 rfl ?_
  refine zi_add M dL_law_511 ?_
  refine z_scr M hX hS (v := v2) (by omega) (by omega) dL_law_512 e2 ?_
  refine z_al_n M dL_law_513 rfl hl 0 rfl ?_
  refine z_il M dL_law_514 hl 4 rfl ?_
  refine zi_const M 3 dL_law_516 rfl ?_
  refine zi_add M dL_law_517 ?_
  refine z_scr M hX hS (v := v3) (by omega) (by omega) dL_law_518 e3 ?_
  refine z_al_n M dL_law_519 rfl hl 0 rfl ?_
  refine z_il M dL_law_520 hl 4 rfl ?_
  refine zi_const M 4 dL_law_522 rfl ?_
  refine zi_add M dL_law_523 ?_
  refine z_scr M hX hS (v := v4) (by omega) (by omega) dL_law_524 e4 ?_
  refine z_al_n M dL_law_525 rfl hl 0 rfl ?_
  refine z_il M dL_law_526 hl 4 rfl ?_
  refine zi_const M 5 dL_law_528 rfl ?_
  refine zi_add M dL_law_529 ?_
  refine z_scr M hX hS (v := v5) (by omega) (by omega) dL_law_530 e5 ?_
  have hfa := hW.fa hS hA
  refine zc_VU (As := [.int (iN v1), .int (iN v2), .int (iN v3), .int (iN v4), .int (iN v5)]) (rest := []) M (w_X4_call hKC hKS hp) (cuV M 5 u_co_X4_call u_ml_L_65 u_ini_X4 u_in_X4_call u_se_X4_call (by decide +kernel) rfl rfl ⟨Nat.le_of_ble_eq_true rfl, Nat.le_of_ble_eq_true rfl⟩) (z_recv M hW hKC.k0 rfl rfl) ⟨rfl, hW.weaken (fun _ _ => trivial)⟩ rfl hl rfl (Nat.le_of_ble_eq_true rfl) ⟨by show _ ≤ 601024; omega, by show _ ≤ 7293034; omega⟩ dL_law_531 hS hfa (fun u H locs hw _ _ hS => ?_)
  obtain ⟨r1, σ1, K1, ad1⟩ := u
  obtain ⟨hp, hx, hKC1, hKS1, hW2⟩ := hw
  have hW := hW2.weaken hfa
  try dsimp only at hp hx hKC1 hKS1
  replace h13 := hx _ h13
  replace hl : lv_has ls 7 (lLv b ad1 i) := by unfold lLv; rw [(hx _ hKC.k0).2, (hx _ hKC.k11).2, h13.2]; exact hl
  replace h13 := h13.1
  replace hKC := hKC1
  replace hKS := hKS1
  refine z_al_n M dL_law_534 rfl hl 2 rfl ?_
  refine z_al_n M dL_law_535 rfl hl 0 rfl ?_
  refine z_il M dL_law_536 hl 4 rfl ?_
  refine zi_const M 1 dL_law_538 rfl ?_
  refine zi_add M dL_law_539 ?_
  refine z_scr M hX hS (v := v1) (by omega) (by omega) dL_law_540 e1 ?_
  refine z_al_n M dL_law_541 rfl hl 0 rfl ?_
  refine z_il M dL_law_542 hl 4 rfl ?_
  refine zi_const M 2 dL_law_544 rfl ?_
  refine zi_add M dL_law_545 ?_
  refine z_scr M hX hS (v := v2) (by omega) (by omega) dL_law_546 e2 ?_
  refine z_al_n M dL_law_547 rfl hl 0 rfl ?_
  refine z_il M dL_law_548 hl 4 rfl ?_
  refine zi_const M 3 dL_law_550 rfl ?_
  refine zi_add M dL_law_551 ?_
  refine z_scr M hX hS (v := v3) (by omega) (by omega) dL_law_552 e3 ?_
  refine z_al_n M dL_law_553 rfl hl 0 rfl ?_
  refine z_il M dL_law_554 hl 4 rfl ?_
  refine zi_const M 4 dL_law_556 rfl ?_
  refine zi_add M dL_law_557 ?_
  refine z_scr M hX hS (v := v4) (by omega) (by omega) dL_law_558 e4 ?_
  refine z_al_n M dL_law_559 rfl hl 0 rfl ?_
  refine z_il M dL_law_560 hl 4 rfl ?_
  refine zi_const M 5 dL_law_562 rfl ?_
  refine zi_add M dL_law_563 ?_
  refine z_scr M hX hS (v := v5) (by omega) (by omega) dL_law_564 e5 ?_
  have hfa := hW.fa hS hA
  refine zc_VU (As := [.int (iN v1), .int (iN v2), .int (iN v3), .int (iN v4), .int (iN v5)]) (rest := [.int (iN r1)]) M (w_X5_call hKC hp) (cuV M 5 u_co_X5_call u_ml_L_68 u_ini_X5 u_in_X5_call u_se_X5_call (by decide +kernel) rfl rfl ⟨Nat.le_of_ble_eq_true rfl, Nat.le_of_ble_eq_true rfl⟩) (z_recv M hW hKC.k11 rfl rfl) ⟨rfl, hW.weaken (fun _ _ => trivial)⟩ rfl hl rfl (Nat.le_of_ble_eq_true rfl) ⟨by show _ ≤ 601024; omega, by show _ ≤ 7293034; omega⟩ dL_law_565 hS hfa (fun u H locs hw _ _ hS => ?_)
  obtain ⟨r2, σ2⟩ := u
  obtain ⟨hp, hW2⟩ := hw
  have hW := hW2.weaken hfa
  try dsimp only at hp
  refine zw_eq M (tgt := 832) dL_law_568 (by decide) rfl rfl (fun h => ?_) (fun h => absurd hp.1 h)
  refine W.widen (k := cells + 4) (n := slots + 100) (by omega) (by omega) ?_
  exact kk _ _ _ _ _ _ hKC hKS h13 hp.2 hW hS hl
def OK_best (Inv : List nKey → nS → Prop) : Prop := ∀ (K : List nKey) (σ : nS) (v1 : Int), KC K → KS K → (13, 0, 0) ∈ K → iR v1 → Inv K σ → P_X4_best K σ v1 (fun r1 σ1 => P_X5_best K σ1 v1 (fun r2 σ2 => w r1 = w r2 ∧ Inv K σ2))
set_option maxHeartbeats 1000000 in
theorem law_best (M : MF p s m args c cL_law 7 RL D ca) (hfl : l.stackTraces = false) (hlX : lX s) (hX : LCx s b L xs) (hi0 : 0 ≤ i) (hi1 : i + 6 ≤ L) (hKC : KC K) (hKS : KS K) (h13 : (13, 0, 0) ∈ K) {v1 : Int} (e1 : v1 = (xs (i + 1).toNat).toInt) (hp : P_X4_best K σ v1 (fun r1 σ1 => P_X5_best K σ1 v1 (fun r2 σ2 => w r1 = w r2 ∧ Inv K σ2))) (hW : XW D (lAs s) K ad (cR ca ad σ) H) (hS : va_S (lAs s) s.heap H locs) (hl : lv_has ls 7 (lLv b ad i)) (hc1 : cells + 4 ≤ 601024) (hs1 : slots + 100 ≤ 7293034) (kk : LKK Inv p l e s m args below meth c ca D b i cells slots Q) : W p l e room_1 s m args below meth c H locs cells slots Q (F0 m 573 ls []) := by
  have hA : ∀ q : Nat, s.heap.size ≤ q → lAs s q := fun q h => h
  refine z_al_n M dL_law_573 rfl hl 1 rfl ?_
  refine z_al_n M dL_law_574 rfl hl 0 rfl ?_
  refine z_il M dL_law_575 hl 4 rfl ?_
  refine zi_const M 1 dL_law_577 rfl ?_
  refine zi_add M dL_law_578 ?_
  refine z_scr M hX hS (v := v1) (by omega) (by omega) dL_law_579 e1 ?_
  have hfa := hW.fa hS hA
  refine zc_VU (As := [.int (iN v1)]) (rest := []) M (w_X4_best hKC hp) (cuV M 1 u_co_X4_best u_ml_L_69 u_ini_X4 u_in_X4_best u_se_X4_best (by decide +kernel) rfl rfl ⟨Nat.le_of_ble_eq_true rfl, Nat.le_of_ble_eq_true rfl⟩) (z_recv M hW hKC.k0 rfl rfl) ⟨rfl, hW.weaken (fun _ _ => trivial)⟩ rfl hl rfl (Nat.le_of_ble_eq_true rfl) ⟨by show _ ≤ 601024; omega, by show _ ≤ 7293034; omega⟩ dL_law_580 hS hfa (fun u H locs hw _ _ hS => ?_)
  obtain ⟨r1, σ1⟩ := u
  obtain ⟨hp, hW2⟩ := hw
  have hW := hW2.weaken hfa
  try dsimp only at hp
  refine z_al_n M dL_law_583 rfl hl 2 rfl ?_
  refine z_al_n M dL_law_584 rfl hl 0 rfl ?_
  refine z_il M dL_law_585 hl 4 rfl ?_
  refine zi_const M 1 dL_law_587 rfl ?_
  refine zi_add M dL_law_588 ?_
  refine z_scr M hX hS (v := v1) (by omega) (by omega) dL_law_589 e1 ?_
  have hfa := hW.fa hS hA
  refine zc_VU (As := [.int (iN v1)]) (rest := [.int (iN r1)]) M (w_X5_best hKC hp) (cuV M 1 u_co_X5_best u_ml_L_72 u_ini_X5 u_in_X5_best u_se_X5_best (by decide +kernel) rfl rfl ⟨Nat.le_of_ble_eq_true rfl, Nat.le_of_ble_eq_true rfl⟩) (z_recv M hW hKC.k11 rfl rfl) ⟨rfl, hW.weaken (fun _ _ => trivial)⟩ rfl hl rfl (Nat.le_of_ble_eq_true rfl) ⟨by show _ ≤ 601024; omega, by show _ ≤ 7293034; omega⟩ dL_law_590 hS hfa (fun u H locs hw _ _ hS => ?_)
  obtain ⟨r2, σ2⟩ := u
  obtain ⟨hp, hW2⟩ := hw
  have hW := hW2.weaken hfa
  try dsimp only at hp
  refine zw_eq M (tgt := 832) dL_law_593 (by decide) rfl rfl (fun h => ?_) (fun h => absurd hp.1 h)
  refine W.widen (k := cells + 4) (n := slots + 100) (by omega) (by omega) ?_
  exact kk _ _ _ _ _ _ hKC hKS h13 hp.2 hW hS hl
def OK_send (Inv : List nKey → nS → Prop) : Prop := ∀ (K : List nKey) (σ : nS) (v1 : Int), KC K → KS K → (13, 0, 0) ∈ K → iR v1 → Inv K σ → P_X4_send K σ v1 (fun r1 σ1 K1 => P_X5_send K1 σ1 v1 (fun r2 σ2 => w r1 = w r2 ∧ Inv K1 σ2))
set_option maxHeartbeats 1000000 in
theorem law_send (M : MF p s m args c cL_law 7 RL D ca) (hfl : l.stackTraces = false) (hlX : lX s) (hX : LCx s b L xs) (hi0 : 0 ≤ i) (hi1 : i + 6 ≤ L) (hKC : KC K) (hKS : KS K) (h13 : (13, 0, 0) ∈ K) {v1 : Int} (e1 : v1 = (xs (i + 1).toNat).toInt) (hp : P_X4_send K σ v1 (fun r1 σ1 K1 => P_X5_send K1 σ1 v1 (fun r2 σ2 => w r1 = w r2 ∧ Inv K1 σ2))) (hW : XW D (lAs s) K ad (cR ca ad σ) H) (hS : va_S (lAs s) s.heap H locs) (hl : lv_has ls 7 (lLv b ad i)) (hc1 : cells + 4 ≤ 601024) (hs1 : slots + 100 ≤ 7293034) (kk : LKK Inv p l e s m args below meth c ca D b i cells slots Q) : W p l e room_1 s m args below meth c H locs cells slots Q (F0 m 598 ls []) := by
  have hA : ∀ q : Nat, s.heap.size ≤ q → lAs s q := fun q h => h
  refine z_al_n M dL_law_598 rfl hl 1 rfl ?_
  refine z_al_n M dL_law_599 rfl hl 0 rfl ?_
  refine z_il M dL_law_600 hl 4 rfl ?_
  refine zi_const M 1 dL_law_602 rfl ?_
  refine zi_add M dL_law_603 ?_
  refine z_scr M hX hS (v := v1) (by omega) (by omega) dL_law_604 e1 ?_
  have hfa := hW.fa hS hA
  refine zc_VU (As := [.int (iN v1)]) (rest := []) M (w_X4_send hKC hKS hp) (cuV M 1 u_co_X4_send u_ml_L_73 u_ini_X4 u_in_X4_send u_se_X4_send (by decide +kernel) rfl rfl ⟨Nat.le_of_ble_eq_true rfl, Nat.le_of_ble_eq_true rfl⟩) (z_recv M hW hKC.k0 rfl rfl) ⟨rfl, hW.weaken (fun _ _ => trivial)⟩ rfl hl rfl (Nat.le_of_ble_eq_true rfl) ⟨by show _ ≤ 601024; omega, by show _ ≤ 7293034; omega⟩ dL_law_605 hS hfa (fun u H locs hw _ _ hS => ?_)
  obtain ⟨r1, σ1, K1, ad1⟩ := u
  obtain ⟨hp, hx, hKC1, hKS1, hW2⟩ := hw
  have hW := hW2.weaken hfa
  try dsimp only at hp hx hKC1 hKS1
  replace h13 := hx _ h13
  replace hl : lv_has ls 7 (lLv b ad1 i) := by unfold lLv; rw [(hx _ hKC.k0).2, (hx _ hKC.k11).2, h13.2]; exact hl
  replace h13 := h13.1
  replace hKC := hKC1
  replace hKS := hKS1
  refine z_al_n M dL_law_608 rfl hl 2 rfl ?_
  refine z_al_n M dL_law_609 rfl hl 0 rfl ?_
  refine z_il M dL_law_610 hl 4 rfl ?_
  refine zi_const M 1 dL_law_612 rfl ?_
  refine zi_add M dL_law_613 ?_
  refine z_scr M hX hS (v := v1) (by omega) (by omega) dL_law_614 e1 ?_
  have hfa := hW.fa hS hA
  refine zc_VU (As := [.int (iN v1)]) (rest := [.int (iN r1)]) M (w_X5_send hKC hp) (cuV M 1 u_co_X5_send u_ml_L_76 u_ini_X5 u_in_X5_send u_se_X5_send (by decide +kernel) rfl rfl ⟨Nat.le_of_ble_eq_true rfl, Nat.le_of_ble_eq_true rfl⟩) (z_recv M hW hKC.k11 rfl rfl) ⟨rfl, hW.weaken (fun _ _ => trivial)⟩ rfl hl rfl (Nat.le_of_ble_eq_true rfl) ⟨by show _ ≤ 601024; omega, by show _ ≤ 7293034; omega⟩ dL_law_615 hS hfa (fun u H locs hw _ _ hS => ?_)
  obtain ⟨r2, σ2⟩ := u
  obtain ⟨hp, hW2⟩ := hw
  have hW := hW2.weaken hfa
  try dsimp only at hp
  refine zw_eq M (tgt := 832) dL_law_618 (by decide) rfl rfl (fun h => ?_) (fun h => absurd hp.1 h)
  refine W.widen (k := cells + 4) (n := slots + 100) (by omega) (by omega) ?_
  exact kk _ _ _ _ _ _ hKC hKS h13 hp.2 hW hS hl
def OK_told (Inv : List nKey → nS → Prop) : Prop := ∀ (K : List nKey) (σ : nS) (v1 v2 : Int), KC K → KS K → (13, 0, 0) ∈ K → iR v1 → iR v2 → Inv K σ → P_X4_told K σ v1 v2 (fun r1 σ1 => P_X5_told K σ1 v1 v2 (fun r2 σ2 => w r1 = w r2 ∧ Inv K σ2))
set_option maxHeartbeats 1000000 in
theorem law_told (M : MF p s m args c cL_law 7 RL D ca) (hfl : l.stackTraces = false) (hlX : lX s) (hX : LCx s b L xs) (hi0 : 0 ≤ i) (hi1 : i + 6 ≤ L) (hKC : KC K) (hKS : KS K) (h13 : (13, 0, 0) ∈ K) {v1 v2 : Int} (e1 : v1 = (xs (i + 1).toNat).toInt) (e2 : v2 = (xs (i + 2).toNat).toInt) (hp : P_X4_told K σ v1 v2 (fun r1 σ1 => P_X5_told K σ1 v1 v2 (fun r2 σ2 => w r1 = w r2 ∧ Inv K σ2))) (hW : XW D (lAs s) K ad (cR ca ad σ) H) (hS : va_S (lAs s) s.heap H locs) (hl : lv_has ls 7 (lLv b ad i)) (hc1 : cells + 4 ≤ 601024) (hs1 : slots + 100 ≤ 7293034) (kk : LKK Inv p l e s m args below meth c ca D b i cells slots Q) : W p l e room_1 s m args below meth c H locs cells slots Q (F0 m 623 ls []) := by
  have hA : ∀ q : Nat, s.heap.size ≤ q → lAs s q := fun q h => h
  refine z_al_n M dL_law_623 rfl hl 1 rfl ?_
  refine z_al_n M dL_law_624 rfl hl 0 rfl ?_
  refine z_il M dL_law_625 hl 4 rfl ?_
  refine zi_const M 1 dL_law_627 rfl ?_
  refine zi_add M dL_law_628 ?_
  refine z_scr M hX hS (v := v1) (by omega) (by omega) dL_law_629 e1 ?_
  refine z_al_n M dL_law_630 rfl hl 0 rfl ?_
  refine z_il M dL_law_631 hl 4 rfl ?_
  refine zi_const M 2 dL_law_633 rfl ?_
  refine zi_add M dL_law_634 ?_
  refine z_scr M hX hS (v := v2) (by omega) (by omega) dL_law_635 e2 ?_
  have hfa := hW.fa hS hA
  refine zc_VU (As := [.int (iN v1), .int (iN v2)]) (rest := []) M (w_X4_told hKC hp) (cuV M 2 u_co_X4_told u_ml_L_77 u_ini_X4 u_in_X4_told u_se_X4_told (by decide +kernel) rfl rfl ⟨Nat.le_of_ble_eq_true rfl, Nat.le_of_ble_eq_true rfl⟩) (z_recv M hW hKC.k0 rfl rfl) ⟨rfl, hW.weaken (fun _ _ => trivial)⟩ rfl hl rfl (Nat.le_of_ble_eq_true rfl) ⟨by show _ ≤ 601024; omega, by show _ ≤ 7293034; omega⟩ dL_law_636 hS hfa (fun u H locs hw _ _ hS => ?_)
  obtain ⟨r1, σ1⟩ := u
  obtain ⟨hp, hW2⟩ := hw
  have hW := hW2.weaken hfa
  try dsimp only at hp
  refine z_al_n M dL_law_639 rfl hl 2 rfl ?_
  refine z_al_n M dL_law_640 rfl hl 0 rfl ?_
  refine z_il M dL_law_641 hl 4 rfl ?_
  refine zi_const M 1 dL_law_643 rfl ?_
  refine zi_add M dL_law_644 ?_
  refine z_scr M hX hS (v := v1) (by omega) (by omega) dL_law_645 e1 ?_
  refine z_al_n M dL_law_646 rfl hl 0 rfl ?_
  refine z_il M dL_law_647 hl 4 rfl ?_
  refine zi_const M 2 dL_law_649 rfl ?_
  refine zi_add M dL_law_650 ?_
  refine z_scr M hX hS (v := v2) (by omega) (by omega) dL_law_651 e2 ?_
  have hfa := hW.fa hS hA
  refine zc_VU (As := [.int (iN v1), .int (iN v2)]) (rest := [.int (iN r1)]) M (w_X5_told hKC hp) (cuV M 2 u_co_X5_told u_ml_L_80 u_ini_X5 u_in_X5_told u_se_X5_told (by decide +kernel) rfl rfl ⟨Nat.le_of_ble_eq_true rfl, Nat.le_of_ble_eq_true rfl⟩) (z_recv M hW hKC.k11 rfl rfl) ⟨rfl, hW.weaken (fun _ _ => trivial)⟩ rfl hl rfl (Nat.le_of_ble_eq_true rfl) ⟨by show _ ≤ 601024; omega, by show _ ≤ 7293034; omega⟩ dL_law_652 hS hfa (fun u H locs hw _ _ hS => ?_)
  obtain ⟨r2, σ2⟩ := u
  obtain ⟨hp, hW2⟩ := hw
  have hW := hW2.weaken hfa
  try dsimp only at hp
  refine zw_eq M (tgt := 832) dL_law_655 (by decide) rfl rfl (fun h => ?_) (fun h => absurd hp.1 h)
  refine W.widen (k := cells + 4) (n := slots + 100) (by omega) (by omega) ?_
  exact kk _ _ _ _ _ _ hKC hKS h13 hp.2 hW hS hl
def OK_leg (Inv : List nKey → nS → Prop) : Prop := ∀ (K : List nKey) (σ : nS) (v1 v2 v3 : Int), KC K → KS K → (13, 0, 0) ∈ K → iR v1 → iR v2 → iR v3 → Inv K σ → P_X4_leg K σ v1 v2 v3 (fun r1 σ1 => P_X5_leg K σ1 v1 v2 v3 (fun r2 σ2 => w r1 = w r2 ∧ Inv K σ2))
set_option maxHeartbeats 1000000 in
theorem law_leg (M : MF p s m args c cL_law 7 RL D ca) (hfl : l.stackTraces = false) (hlX : lX s) (hX : LCx s b L xs) (hi0 : 0 ≤ i) (hi1 : i + 6 ≤ L) (hKC : KC K) (hKS : KS K) (h13 : (13, 0, 0) ∈ K) {v1 v2 v3 : Int} (e1 : v1 = (xs (i + 1).toNat).toInt) (e2 : v2 = (xs (i + 2).toNat).toInt) (e3 : v3 = (xs (i + 3).toNat).toInt) (hp : P_X4_leg K σ v1 v2 v3 (fun r1 σ1 => P_X5_leg K σ1 v1 v2 v3 (fun r2 σ2 => w r1 = w r2 ∧ Inv K σ2))) (hW : XW D (lAs s) K ad (cR ca ad σ) H) (hS : va_S (lAs s) s.heap H locs) (hl : lv_has ls 7 (lLv b ad i)) (hc1 : cells + 4 ≤ 601024) (hs1 : slots + 100 ≤ 7293034) (kk : LKK Inv p l e s m args below meth c ca D b i cells slots Q) : W p l e room_1 s m args below meth c H locs cells slots Q (F0 m 660 ls []) := by
  have hA : ∀ q : Nat, s.heap.size ≤ q → lAs s q := fun q h => h
  refine z_al_n M dL_law_660 rfl hl 1 rfl ?_
  refine z_al_n M dL_law_661 rfl hl 0 rfl ?_
  refine z_il M dL_law_662 hl 4 rfl ?_
  refine zi_const M 1 dL_law_664 rfl ?_
  refine zi_add M dL_law_665 ?_
  refine z_scr M hX hS (v := v1) (by omega) (by omega) dL_law_666 e1 ?_
  refine z_al_n M dL_law_667 rfl hl 0 rfl ?_
  refine z_il M dL_law_668 hl 4 rfl ?_
  refine zi_const M 2 dL_law_670 rfl ?_
  refine zi_add M dL_law_671 ?_
  refine z_scr M hX hS (v := v2) (by omega) (by omega) dL_law_672 e2 ?_
  refine z_al_n M dL_law_673 rfl hl 0 rfl ?_
  refine z_il M dL_law_674 hl 4 rfl ?_
  refine zi_const M 3 dL_law_676 rfl ?_
  refine zi_add M dL_law_677 ?_
  refine z_scr M hX hS (v := v3) (by omega) (by omega) dL_law_678 e3 ?_
  have hfa := hW.fa hS hA
  refine zc_VU (As := [.int (iN v1), .int (iN v2), .int (iN v3)]) (rest := []) M (w_X4_leg hKC hp) (cuV M 3 u_co_X4_leg u_ml_L_81 u_ini_X4 u_in_X4_leg u_se_X4_leg (by decide +kernel) rfl rfl ⟨Nat.le_of_ble_eq_true rfl, Nat.le_of_ble_eq_true rfl⟩) (z_recv M hW hKC.k0 rfl rfl) ⟨rfl, hW.weaken (fun _ _ => trivial)⟩ rfl hl rfl (Nat.le_of_ble_eq_true rfl) ⟨by show _ ≤ 601024; omega, by show _ ≤ 7293034; omega⟩ dL_law_679 hS hfa (fun u H locs hw _ _ hS => ?_)
  obtain ⟨r1, σ1⟩ := u
  obtain ⟨hp, hW2⟩ := hw
  have hW := hW2.weaken hfa
  try dsimp only at hp
  refine z_al_n M dL_law_682 rfl hl 2 rfl ?_
  refine z_al_n M dL_law_683 rfl hl 0 rfl ?_
  refine z_il M dL_law_684 hl 4 rfl ?_
  refine zi_const M 1 dL_law_686 rfl ?_
  refine zi_add M dL_law_687 ?_
  refine z_scr M hX hS (v := v1) (by omega) (by omega) dL_law_688 e1 ?_
  refine z_al_n M dL_law_689 rfl hl 0 rfl ?_
  refine z_il M dL_law_690 hl 4 rfl ?_
  refine zi_const M 2 dL_law_692 rfl ?_
  refine zi_add M dL_law_693 ?_
  refine z_scr M hX hS (v := v2) (by omega) (by omega) dL_law_694 e2 ?_
  refine z_al_n M dL_law_695 rfl hl 0 rfl ?_
  refine z_il M dL_law_696 hl 4 rfl ?_
  refine zi_const M 3 dL_law_698 rfl ?_
  refine zi_add M dL_law_699 ?_
  refine z_scr M hX hS (v := v3) (by omega) (by omega) dL_law_700 e3 ?_
  have hfa := hW.fa hS hA
  refine zc_VU (As := [.int (iN v1), .int (iN v2), .int (iN v3)]) (rest := [.int (iN r1)]) M (w_X5_leg hKC hp) (cuV M 3 u_co_X5_leg u_ml_L_84 u_ini_X5 u_in_X5_leg u_se_X5_leg (by decide +kernel) rfl rfl ⟨Nat.le_of_ble_eq_true rfl, Nat.le_of_ble_eq_true rfl⟩) (z_recv M hW hKC.k11 rfl rfl) ⟨rfl, hW.weaken (fun _ _ => trivial)⟩ rfl hl rfl (Nat.le_of_ble_eq_true rfl) ⟨by show _ ≤ 601024; omega, by show _ ≤ 7293034; omega⟩ dL_law_701 hS hfa (fun u H locs hw _ _ hS => ?_)
  obtain ⟨r2, σ2⟩ := u
  obtain ⟨hp, hW2⟩ := hw
  have hW := hW2.weaken hfa
  try dsimp only at hp
  refine zw_eq M (tgt := 832) dL_law_704 (by decide) rfl rfl (fun h => ?_) (fun h => absurd hp.1 h)
  refine W.widen (k := cells + 4) (n := slots + 100) (by omega) (by omega) ?_
  exact kk _ _ _ _ _ _ hKC hKS h13 hp.2 hW hS hl
def OK_hand (Inv : List nKey → nS → Prop) : Prop := ∀ (K : List nKey) (σ : nS) (v1 v2 : Int), KC K → KS K → (13, 0, 0) ∈ K → iR v1 → iR v2 → Inv K σ → P_X4_hand K σ v1 v2 (fun r1 σ1 => P_X5_hand K σ1 v1 v2 (fun r2 σ2 => w r1 = w r2 ∧ Inv K σ2))
set_option maxHeartbeats 1000000 in
theorem law_hand (M : MF p s m args c cL_law 7 RL D ca) (hfl : l.stackTraces = false) (hlX : lX s) (hX : LCx s b L xs) (hi0 : 0 ≤ i) (hi1 : i + 6 ≤ L) (hKC : KC K) (hKS : KS K) (h13 : (13, 0, 0) ∈ K) {v1 v2 : Int} (e1 : v1 = (xs (i + 1).toNat).toInt) (e2 : v2 = (xs (i + 2).toNat).toInt) (hp : P_X4_hand K σ v1 v2 (fun r1 σ1 => P_X5_hand K σ1 v1 v2 (fun r2 σ2 => w r1 = w r2 ∧ Inv K σ2))) (hW : XW D (lAs s) K ad (cR ca ad σ) H) (hS : va_S (lAs s) s.heap H locs) (hl : lv_has ls 7 (lLv b ad i)) (hc1 : cells + 4 ≤ 601024) (hs1 : slots + 100 ≤ 7293034) (kk : LKK Inv p l e s m args below meth c ca D b i cells slots Q) : W p l e room_1 s m args below meth c H locs cells slots Q (F0 m 709 ls []) := by
  have hA : ∀ q : Nat, s.heap.size ≤ q → lAs s q := fun q h => h
  refine z_al_n M dL_law_709 rfl hl 1 rfl ?_
  refine z_al_n M dL_law_710 rfl hl 0 rfl ?_
  refine z_il M dL_law_711 hl 4 rfl ?_
  refine zi_const M 1 dL_law_713 rfl ?_
  refine zi_add M dL_law_714 ?_
  refine z_scr M hX hS (v := v1) (by omega) (by omega) dL_law_715 e1 ?_
  refine z_al_n M dL_law_716 rfl hl 0 rfl ?_
  refine z_il M dL_law_717 hl 4 rfl ?_
  refine zi_const M 2 dL_law_719 rfl ?_
  refine zi_add M dL_law_720 ?_
  refine z_scr M hX hS (v := v2) (by omega) (by omega) dL_law_721 e2 ?_
  have hfa := hW.fa hS hA
  refine zc_VU (As := [.int (iN v1), .int (iN v2)]) (rest := []) M (w_X4_hand hKC hp) (cuV M 2 u_co_X4_hand u_ml_L_85 u_ini_X4 u_in_X4_hand u_se_X4_hand (by decide +kernel) rfl rfl ⟨Nat.le_of_ble_eq_true rfl, Nat.le_of_ble_eq_true rfl⟩) (z_recv M hW hKC.k0 rfl rfl) ⟨rfl, hW.weaken (fun _ _ => trivial)⟩ rfl hl rfl (Nat.le_of_ble_eq_true rfl) ⟨by show _ ≤ 601024; omega, by show _ ≤ 7293034; omega⟩ dL_law_722 hS hfa (fun u H locs hw _ _ hS => ?_)
  obtain ⟨r1, σ1⟩ := u
  obtain ⟨hp, hW2⟩ := hw
  have hW := hW2.weaken hfa
  try dsimp only at hp
  refine z_al_n M dL_law_725 rfl hl 2 rfl ?_
  refine z_al_n M dL_law_726 rfl hl 0 rfl ?_
  refine z_il M dL_law_727 hl 4 rfl ?_
  refine zi_const M 1 dL_law_729 rfl ?_
  refine zi_add M dL_law_730 ?_
  refine z_scr M hX hS (v := v1) (by omega) (by omega) dL_law_731 e1 ?_
  refine z_al_n M dL_law_732 rfl hl 0 rfl ?_
  refine z_il M dL_law_733 hl 4 rfl ?_
  refine zi_const M 2 dL_law_735 rfl ?_
  refine zi_add M dL_law_736 ?_
  refine z_scr M hX hS (v := v2) (by omega) (by omega) dL_law_737 e2 ?_
  have hfa := hW.fa hS hA
  refine zc_VU (As := [.int (iN v1), .int (iN v2)]) (rest := [.int (iN r1)]) M (w_X5_hand hKC hp) (cuV M 2 u_co_X5_hand u_ml_L_88 u_ini_X5 u_in_X5_hand u_se_X5_hand (by decide +kernel) rfl rfl ⟨Nat.le_of_ble_eq_true rfl, Nat.le_of_ble_eq_true rfl⟩) (z_recv M hW hKC.k11 rfl rfl) ⟨rfl, hW.weaken (fun _ _ => trivial)⟩ rfl hl rfl (Nat.le_of_ble_eq_true rfl) ⟨by show _ ≤ 601024; omega, by show _ ≤ 7293034; omega⟩ dL_law_738 hS hfa (fun u H locs hw _ _ hS => ?_)
  obtain ⟨r2, σ2⟩ := u
  obtain ⟨hp, hW2⟩ := hw
  have hW := hW2.weaken hfa
  try dsimp only at hp
  refine zw_eq M (tgt := 832) dL_law_741 (by decide) rfl rfl (fun h => ?_) (fun h => absurd hp.1 h)
  refine W.widen (k := cells + 4) (n := slots + 100) (by omega) (by omega) ?_
  exact kk _ _ _ _ _ _ hKC hKS h13 hp.2 hW hS hl
def OK_fail (Inv : List nKey → nS → Prop) : Prop := ∀ (K : List nKey) (σ : nS) (v1 v2 v3 : Int), KC K → KS K → (13, 0, 0) ∈ K → iR v1 → iR v2 → iR v3 → Inv K σ → P_X4_fail K σ v1 v2 v3 (fun r1 σ1 K1 => P_X5_fail K1 σ1 v1 v2 v3 (fun r2 σ2 => w r1 = w r2 ∧ Inv K1 σ2))
set_option maxHeartbeats 1000000 in
theorem law_fail (M : MF p s m args c cL_law 7 RL D ca) (hfl : l.stackTraces = false) (hlX : lX s) (hX : LCx s b L xs) (hi0 : 0 ≤ i) (hi1 : i + 6 ≤ L) (hKC : KC K) (hKS : KS K) (h13 : (13, 0, 0) ∈ K) {v1 v2 v3 : Int} (e1 : v1 = (xs (i + 1).toNat).toInt) (e2 : v2 = (xs (i + 2).toNat).toInt) (e3 : v3 = (xs (i + 3).toNat).toInt) (hp : P_X4_fail K σ v1 v2 v3 (fun r1 σ1 K1 => P_X5_fail K1 σ1 v1 v2 v3 (fun r2 σ2 => w r1 = w r2 ∧ Inv K1 σ2))) (hW : XW D (lAs s) K ad (cR ca ad σ) H) (hS : va_S (lAs s) s.heap H locs) (hl : lv_has ls 7 (lLv b ad i)) (hc1 : cells + 4 ≤ 601024) (hs1 : slots + 100 ≤ 7293034) (kk : LKK Inv p l e s m args below meth c ca D b i cells slots Q) : W p l e room_1 s m args below meth c H locs cells slots Q (F0 m 746 ls []) := by
  have hA : ∀ q : Nat, s.heap.size ≤ q → lAs s q := fun q h => h
  refine z_al_n M dL_law_746 rfl hl 1 rfl ?_
  refine z_al_n M dL_law_747 rfl hl 0 rfl ?_
  refine z_il M dL_law_748 hl 4 rfl ?_
  refine zi_const M 1 dL_law_750 rfl ?_
  refine zi_add M dL_law_751 ?_
  refine z_scr M hX hS (v := v1) (by omega) (by omega) dL_law_752 e1 ?_
  refine z_al_n M dL_law_753 rfl hl 0 rfl ?_
  refine z_il M dL_law_754 hl 4 rfl ?_
  refine zi_const M 2 dL_law_756 rfl ?_
  refine zi_add M dL_law_757 ?_
  refine z_scr M hX hS (v := v2) (by omega) (by omega) dL_law_758 e2 ?_
  refine z_al_n M dL_law_759 rfl hl 0 rfl ?_
  refine z_il M dL_law_760 hl 4 rfl ?_
  refine zi_const M 3 dL_law_762 rfl ?_
  refine zi_add M dL_law_763 ?_
  refine z_scr M hX hS (v := v3) (by omega) (by omega) dL_law_764 e3 ?_
  have hfa := hW.fa hS hA
  refine zc_VU (As := [.int (iN v1), .int (iN v2), .int (iN v3)]) (rest := []) M (w_X4_fail hKC hKS hp) (cuV M 3 u_co_X4_fail u_ml_L_89 u_ini_X4 u_in_X4_fail u_se_X4_fail (by decide +kernel) rfl rfl ⟨Nat.le_of_ble_eq_true rfl, Nat.le_of_ble_eq_true rfl⟩) (z_recv M hW hKC.k0 rfl rfl) ⟨rfl, hW.weaken (fun _ _ => trivial)⟩ rfl hl rfl (Nat.le_of_ble_eq_true rfl) ⟨by show _ ≤ 601024; omega, by show _ ≤ 7293034; omega⟩ dL_law_765 hS hfa (fun u H locs hw _ _ hS => ?_)
  obtain ⟨r1, σ1, K1, ad1⟩ := u
  obtain ⟨hp, hx, hKC1, hKS1, hW2⟩ := hw
  have hW := hW2.weaken hfa
  try dsimp only at hp hx hKC1 hKS1
  replace h13 := hx _ h13
  replace hl : lv_has ls 7 (lLv b ad1 i) := by unfold lLv; rw [(hx _ hKC.k0).2, (hx _ hKC.k11).2, h13.2]; exact hl
  replace h13 := h13.1
  replace hKC := hKC1
  replace hKS := hKS1
  refine z_al_n M dL_law_768 rfl hl 2 rfl ?_
  refine z_al_n M dL_law_769 rfl hl 0 rfl ?_
  refine z_il M dL_law_770 hl 4 rfl ?_
  refine zi_const M 1 dL_law_772 rfl ?_
  refine zi_add M dL_law_773 ?_
  refine z_scr M hX hS (v := v1) (by omega) (by omega) dL_law_774 e1 ?_
  refine z_al_n M dL_law_775 rfl hl 0 rfl ?_
  refine z_il M dL_law_776 hl 4 rfl ?_
  refine zi_const M 2 dL_law_778 rfl ?_
  refine zi_add M dL_law_779 ?_
  refine z_scr M hX hS (v := v2) (by omega) (by omega) dL_law_780 e2 ?_
  refine z_al_n M dL_law_781 rfl hl 0 rfl ?_
  refine z_il M dL_law_782 hl 4 rfl ?_
  refine zi_const M 3 dL_law_784 rfl ?_
  refine zi_add M dL_law_785 ?_
  refine z_scr M hX hS (v := v3) (by omega) (by omega) dL_law_786 e3 ?_
  have hfa := hW.fa hS hA
  refine zc_VU (As := [.int (iN v1), .int (iN v2), .int (iN v3)]) (rest := [.int (iN r1)]) M (w_X5_fail hKC hp) (cuV M 3 u_co_X5_fail u_ml_L_92 u_ini_X5 u_in_X5_fail u_se_X5_fail (by decide +kernel) rfl rfl ⟨Nat.le_of_ble_eq_true rfl, Nat.le_of_ble_eq_true rfl⟩) (z_recv M hW hKC.k11 rfl rfl) ⟨rfl, hW.weaken (fun _ _ => trivial)⟩ rfl hl rfl (Nat.le_of_ble_eq_true rfl) ⟨by show _ ≤ 601024; omega, by show _ ≤ 7293034; omega⟩ dL_law_787 hS hfa (fun u H locs hw _ _ hS => ?_)
  obtain ⟨r2, σ2⟩ := u
  obtain ⟨hp, hW2⟩ := hw
  have hW := hW2.weaken hfa
  try dsimp only at hp
  refine zw_eq M (tgt := 832) dL_law_790 (by decide) rfl rfl (fun h => ?_) (fun h => absurd hp.1 h)
  refine W.widen (k := cells + 4) (n := slots + 100) (by omega) (by omega) ?_
  exact kk _ _ _ _ _ _ hKC hKS h13 hp.2 hW hS hl
def OK_next (Inv : List nKey → nS → Prop) : Prop := ∀ (K : List nKey) (σ : nS) (v1 v2 : Int), KC K → KS K → (13, 0, 0) ∈ K → iR v1 → iR v2 → Inv K σ → P_X4_next K σ v1 v2 (fun r1 σ1 => P_X5_next K σ1 v1 v2 (fun r2 σ2 => w r1 = w r2 ∧ Inv K σ2))
set_option maxHeartbeats 1000000 in
theorem law_next (M : MF p s m args c cL_law 7 RL D ca) (hfl : l.stackTraces = false) (hlX : lX s) (hX : LCx s b L xs) (hi0 : 0 ≤ i) (hi1 : i + 6 ≤ L) (hKC : KC K) (hKS : KS K) (h13 : (13, 0, 0) ∈ K) {v1 v2 : Int} (e1 : v1 = (xs (i + 1).toNat).toInt) (e2 : v2 = (xs (i + 2).toNat).toInt) (hp : P_X4_next K σ v1 v2 (fun r1 σ1 => P_X5_next K σ1 v1 v2 (fun r2 σ2 => w r1 = w r2 ∧ Inv K σ2))) (hW : XW D (lAs s) K ad (cR ca ad σ) H) (hS : va_S (lAs s) s.heap H locs) (hl : lv_has ls 7 (lLv b ad i)) (hc1 : cells + 4 ≤ 601024) (hs1 : slots + 100 ≤ 7293034) (kk : LKK Inv p l e s m args below meth c ca D b i cells slots Q) : W p l e room_1 s m args below meth c H locs cells slots Q (F0 m 795 ls []) := by
  have hA : ∀ q : Nat, s.heap.size ≤ q → lAs s q := fun q h => h
  refine z_al_n M dL_law_795 rfl hl 1 rfl ?_
  refine z_al_n M dL_law_796 rfl hl 0 rfl ?_
  refine z_il M dL_law_797 hl 4 rfl ?_
  refine zi_const M 1 dL_law_799 rfl ?_
  refine zi_add M dL_law_800 ?_
  refine z_scr M hX hS (v := v1) (by omega) (by omega) dL_law_801 e1 ?_
  refine z_al_n M dL_law_802 rfl hl 0 rfl ?_
  refine z_il M dL_law_803 hl 4 rfl ?_
  refine zi_const M 2 dL_law_805 rfl ?_
  refine zi_add M dL_law_806 ?_
  refine z_scr M hX hS (v := v2) (by omega) (by omega) dL_law_807 e2 ?_
  have hfa := hW.fa hS hA
  refine zc_VU (As := [.int (iN v1), .int (iN v2)]) (rest := []) M (w_X4_next hKC hp) (cuV M 2 u_co_X4_next u_ml_L_93 u_ini_X4 u_in_X4_next u_se_X4_next (by decide +kernel) rfl rfl ⟨Nat.le_of_ble_eq_true rfl, Nat.le_of_ble_eq_true rfl⟩) (z_recv M hW hKC.k0 rfl rfl) ⟨rfl, hW.weaken (fun _ _ => trivial)⟩ rfl hl rfl (Nat.le_of_ble_eq_true rfl) ⟨by show _ ≤ 601024; omega, by show _ ≤ 7293034; omega⟩ dL_law_808 hS hfa (fun u H locs hw _ _ hS => ?_)
  obtain ⟨r1, σ1⟩ := u
  obtain ⟨hp, hW2⟩ := hw
  have hW := hW2.weaken hfa
  try dsimp only at hp
  refine z_al_n M dL_law_811 rfl hl 2 rfl ?_
  refine z_al_n M dL_law_812 rfl hl 0 rfl ?_
  refine z_il M dL_law_813 hl 4 rfl ?_
  refine zi_const M 1 dL_law_815 rfl ?_
  refine zi_add M dL_law_816 ?_
  refine z_scr M hX hS (v := v1) (by omega) (by omega) dL_law_817 e1 ?_
  refine z_al_n M dL_law_818 rfl hl 0 rfl ?_
  refine z_il M dL_law_819 hl 4 rfl ?_
  refine zi_const M 2 dL_law_821 rfl ?_
  refine zi_add M dL_law_822 ?_
  refine z_scr M hX hS (v := v2) (by omega) (by omega) dL_law_823 e2 ?_
  have hfa := hW.fa hS hA
  refine zc_VU (As := [.int (iN v1), .int (iN v2)]) (rest := [.int (iN r1)]) M (w_X5_next hKC hp) (cuV M 2 u_co_X5_next u_ml_L_96 u_ini_X5 u_in_X5_next u_se_X5_next (by decide +kernel) rfl rfl ⟨Nat.le_of_ble_eq_true rfl, Nat.le_of_ble_eq_true rfl⟩) (z_recv M hW hKC.k11 rfl rfl) ⟨rfl, hW.weaken (fun _ _ => trivial)⟩ rfl hl rfl (Nat.le_of_ble_eq_true rfl) ⟨by show _ ≤ 601024; omega, by show _ ≤ 7293034; omega⟩ dL_law_824 hS hfa (fun u H locs hw _ _ hS => ?_)
  obtain ⟨r2, σ2⟩ := u
  obtain ⟨hp, hW2⟩ := hw
  have hW := hW2.weaken hfa
  try dsimp only at hp
  refine zw_eq M (tgt := 832) dL_law_827 (by decide) rfl rfl (fun h => ?_) (fun h => absurd hp.1 h)
  refine W.widen (k := cells + 4) (n := slots + 100) (by omega) (by omega) ?_
  exact kk _ _ _ _ _ _ hKC hKS h13 hp.2 hW hS hl
end ZL
