theorem u_cw_L_of : Cond.codeWith yL_of cL_of 5 (some .int) [(0, 10, 13, 13)] ∈ UW := UW_in (i := 486) (by decide +kernel) (by decide +kernel)
theorem u_cl_L_13 : Cond.classLink RL 13 nSE ∈ UW := UW_in (i := 487) (by decide +kernel) (by decide +kernel)
section ZY
variable {p : Program} {l : Launch} {e : Env} {R : Room} {s : State} {m : MethodId} {args : Array Value} {below : List Frame} {meth : Method} {c : Code} {H : Heap} {locs : List Loc} {cells slots : Nat} {Q : State → Prop}
variable {cc : ByteArray} {pc : Nat} {ls : Array Slot} {rest : List Value} {D : va_G} {ca : Nat → ClassId} {A : Nat → Prop} {H0 : Heap} {nL : Nat} {own : String} {K : List nKey} {ad : nKey → Nat} {σ : nS} {κ : nKey}
theorem z_last (M : MF p s m args c cc nL own D ca) {ct : nKey → va_E} (hW : XW D A K ad ct H) (hS : va_S A H0 H locs) (hκ : κ ∈ K) {n : Nat} {a : Nat → Int} (he : ct κ = .inl (ca 5, n, .inr (.inl (fun j => (iN (a j)).toInt64)))) {i x : Int} (h0 : 0 ≤ i) (h1 : i < n) (hn : n < 2147483648) (hdg : decode cc pc = .ok (.lastore, 1)) (kk : ∀ (H1 : Heap) (locs1 : List Loc), XW D A K ad (kup ct κ (.inl (ca 5, n, .inr (.inl (fun j => (iN (upI a i.toNat x j)).toInt64))))) H1 → va_S A H0 H1 locs1 → W p l e R s m args below meth c H1 locs1 cells slots Q (F0 m (pc + 1) ls rest)) : W p l e R s m args below meth c H locs cells slots Q (F0 m pc ls (.long (iN x).toInt64 :: .int (iN i) :: .ref (ad κ) :: rest)) := by
  obtain ⟨j, hj0, hj⟩ := xl_get (ad := ad) (ct := ct) hκ
  refine va_last M.hx M.hb M.hK hW.1 hW.2 hS j 5 (by rw [hj, he]) rfl (iN_in h0 h1 hn) hdg (fun H1 locs1 hP hD hS => ?_)
  have ef : (vp_updL (fun j => (iN (a j)).toInt64) (iN i).toNatClampNeg (iN x).toInt64) = fun j => (iN (upI a i.toNat x j)).toInt64 := by
    rw [iN_clamp h0 (by omega)]
    funext q
    unfold vp_updL upI
    by_cases hq : q = i.toNat
    · rw [if_pos hq, if_pos hq]
    · rw [if_neg hq, if_neg hq]
  rw [ef] at hP hD
  rw [xl_set hW hj0] at hP hD
  exact kk H1 locs1 ⟨hP, hD⟩ hS
theorem z_lald (M : MF p s m args c cc nL own D ca) (hW : XW D A K ad (cR ca ad σ) H) (hκ : κ ∈ K) {n : Nat} (he : ∀ f r, cE ca ad κ f r = .inl (ca 5, n, .inr (.inl (fun j => (iN (f j)).toInt64)))) {i : Int} (h0 : 0 ≤ i) (h1 : i < n) (hn : n < 2147483648) (hdg : decode cc pc = .ok (.laload, 1)) (kk : W p l e R s m args below meth c H locs cells slots Q (F0 m (pc + 1) ls (.long (iN (σ.1 κ i.toNat)).toInt64 :: rest))) : W p l e R s m args below meth c H locs cells slots Q (F0 m pc ls (.int (iN i) :: .ref (ad κ) :: rest)) := by
  obtain ⟨j, -, hj⟩ := xl_get (ad := ad) (ct := cR ca ad σ) hκ
  refine va_lald M.hx M.hb M.hK hW.1 j 5 (by rw [hj, show cR ca ad σ κ = _ from he _ _]) rfl (iN_in h0 h1 hn) hdg ?_
  rw [iN_clamp h0 (by omega)]
  exact kk
theorem zs_l (M : MF p s m args c cc nL own D ca) (hW : XW D A K ad (cR ca ad σ) H) (hS : va_S A H0 H locs) (hκ : κ ∈ K) {n : Nat} (he : ∀ f r, cE ca ad κ f r = .inl (ca 5, n, .inr (.inl (fun j => (iN (f j)).toInt64)))) {i x : Int} (h0 : 0 ≤ i) (h1 : i < n) (hn : n < 2147483648) (hdg : decode cc pc = .ok (.lastore, 1)) (kk : ∀ (H1 : Heap) (locs1 : List Loc), XW D A K ad (cR ca ad (s1 σ κ i.toNat x)) H1 → va_S A H0 H1 locs1 → W p l e R s m args below meth c H1 locs1 cells slots Q (F0 m (pc + 1) ls rest)) : W p l e R s m args below meth c H locs cells slots Q (F0 m pc ls (.long (iN x).toInt64 :: .int (iN i) :: .ref (ad κ) :: rest)) := z_last M hW hS hκ (he _ _) h0 h1 hn hdg (fun H1 locs1 hW1 hS1 => kk H1 locs1 (hW1.to (by rw [← he _ (σ.2 κ)]; exact cR_1 ca ad σ κ _ _)) hS1)
theorem zcx_up {S : Type} {vf : S → Option Value} {Wf : S → Heap → Prop} {A1 : Nat → Prop} {XC : String → State → State → Prop} {st0 : List Value} {mc ms : Nat} (hr : vx_Run p l e R s m args below meth c H locs cells slots mc ms (F0 m pc ls st0) rest (fun st o t => (∃ u : S, o = .returned (vf u) ∧ Wf u t.heap) ∧ va_F A1 st t) XC A1) (hxc : ∀ E st t, XC E st t → va_F A1 st t) (hS : va_S A H0 H locs) (hf : ∀ q, A1 q → A q)
    (kx : ∀ (E : String) (ce : Cell) (q9 : Addr) (st t : State) (locs1 : List Loc), XC E st t → st.heap = H → va_S A H0 t.heap locs1 → t.heap[q9]? = some ce → ce.vm = .none → s.vm.findClass E = some ce.cls → vx_W p l e R s m args below meth c t.heap locs1 (cells + mc) (slots + ms) Q (F0 m pc ls rest) q9)
    (kk : ∀ (u : S) (H1 : Heap) (locs1 : List Loc), Wf u H1 → va_S A H0 H1 locs1 → W p l e R s m args below meth c H1 locs1 (cells + mc) (slots + ms) Q (F0 m (pc + 3) ls ((vf u).toList ++ rest))) : W p l e R s m args below meth c H locs cells slots Q (F0 m pc ls st0) := by
  intro T hT X
  have hput : ∀ (t : State) (L : List Loc), H.size ≤ t.heap.size → (∀ q : Nat, q < H.size → ¬ A1 q → t.heap[q]? = H[q]?) → (∀ q ∈ L, A1 q.base) → va_S A H0 t.heap (locs ++ L) := fun t L hz hk hL =>
    ⟨Nat.le_trans hS.1 hz, fun q h1 h2 => by rw [hk q (Nat.lt_of_lt_of_le h1 hS.1) (fun z => h2 (hf q z))]; exact hS.2.1 q h1 h2, fun q hq => by
      rcases List.mem_append.mp hq with h | h
      · exact hS.2.2 q h
      · exact hf _ (hL q h)⟩
  rcases hr T hT X with ⟨v, st₀, t, T', L, h0, X', hL, e1, e2, ⟨⟨u, hv, hw⟩, hz, hk⟩, st⟩ | ⟨q, st₀, t, T', L, E, ce, h0, X', hL, e1, e2, hx, hce, hcv, hcl, st⟩
  · cases hv
    rw [h0] at hz hk
    obtain ⟨t2, a1, b1⟩ := kk u t.heap (locs ++ L) hw (hput t L hz hk hL) T' e1 X'
    exact ⟨t2, st t2 a1, b1⟩
  · obtain ⟨hz, hk⟩ := hxc _ _ _ hx
    rw [h0] at hz hk
    obtain ⟨t2, a1, b1⟩ := kx E ce q st₀ t (locs ++ L) hx h0 (hput t L hz hk hL) hce hcv hcl T' e1 X'
    exact ⟨t2, st.trans a1, b1⟩
end ZY
def P_L_of (K : List nKey) (σ : nS) (v1 v2 : Int) (k : Int → nS → Prop) : Prop :=
  P_X4_of K σ v1 v2 (fun r σ1 => ∀ σ2 : nS, σ2 = s1 σ1 (13, 0, 0) 0 r → k 0 σ2) (fun σ1 => k 1 σ1)
def rmL_of : Room := { frames := 22, cells := 1, slots := 6, locals := 340 }
set_option maxHeartbeats 1000000 in
theorem w_L_of {l : Launch} (hfl : l.stackTraces = false) {D : va_G} {ca : Nat → ClassId} {K : List nKey} {ad : nKey → Nat} {σ : nS} {sz : Nat} (hKC : KC K) (h13 : (13, 0, 0) ∈ K) {v1 v2 : Int} {k : Int → nS → Prop} (hp : P_L_of K σ v1 v2 k) : Met l yL_of (Cond.codeWith yL_of cL_of 5 (some .int) [(0, 10, 13, 13)] :: UW) rmL_of (ZPX D ca [.ref (ad (0, 0, 0)), .int (iN v1), .int (iN v2), .ref (ad (13, 0, 0))] (ZB D K ad ca σ sz) (FA K ad sz)) (ZQi D K ad ca sz k) 1 6 (FA K ad sz) := by
  refine va_MetW (cc := cL_of) (maxL := 5) (ret := some .int) (hh := [(0, 10, 13, 13)]) (by decide) rfl ?_
  intro p e s m args below meth c s₁ B hml hv
  obtain ⟨hav, ⟨rfl, hW0⟩, hZ, hX, hU, hN⟩ := hv
  have hts := atoms_spec (ws := Cond.codeWith yL_of cL_of 5 (some .int) [(0, 10, 13, 13)] :: UW) B.pre
  have htab : c.exceptionTable.toList = tableOf [(0, 10, 13, 13)] := vx_table (x := yL_of) B (hts _ List.mem_cons_self)
  have M : MF p s m args c cL_of 5 RL D ca := ⟨⟨B.exec, B.bytes, hml, findClass_of_methodNamed B.named, fun w hw => hts w (List.mem_cons_of_mem _ hw)⟩, hZ⟩
  have hr := B.returns
  have hlocks := B.notSynchronized
  refine z_entry hav (Nat.le_of_ble_eq_true rfl) (fun ls hl => ?_)
  have hW : XW D (FA K ad s.heap.size) K ad (cR ca ad σ) s.heap := hW0.self
  have hS : va_S (FA K ad s.heap.size) s.heap s.heap [] := va_S.rf
  have hA : ∀ q : Nat, s.heap.size ≤ q → FA K ad s.heap.size q := fun q h => Or.inr h
  replace hl : lv_has ls 5 [(0, .ref (ad (0, 0, 0))), (1, .int (iN v1)), (2, .int (iN v2)), (3, .ref (ad (13, 0, 0)))] := hl
  refine z_al_n M dL_of_0 rfl hl 3 rfl ?_
  refine zi_const M 0 dL_of_1 rfl ?_
  refine z_al_n M dL_of_2 rfl hl 0 rfl ?_
  refine z_il_n M dL_of_3 rfl hl 1 rfl ?_
  refine z_il_n M dL_of_4 rfl hl 2 rfl ?_
  refine zcx_up (vx_runV (As := [.int (iN v1), .int (iN v2)]) (rest := [.int (iN 0), .ref (ad (13, 0, 0))]) M.1 (w_X4_of hfl hKC hp) (cuV M 2 u_co_X4_of u_ml_L_7 u_ini_X4 u_in_X4_of u_se_X4_of (by decide +kernel) rfl rfl ⟨Nat.le_of_ble_eq_true rfl, Nat.le_of_ble_eq_true rfl⟩)
    ⟨zpx_blind, z_recv M hW hKC.k0 rfl rfl, fun U hu hV => ⟨rfl, ⟨by rw [hu], by rw [hu]; exact hW0⟩, ZK.moved hV M.2, ZX.moved hV hX, by rw [hu]; exact vx_Zq.moved hV.alike hU, by rw [hu]; exact vx_Zq.moved hV.alike hN⟩⟩
    rfl rfl hl.1 rfl (lv_room (by simp [Value.category])) dL_of_5 ⟨Nat.le_refl 1, Nat.le_refl 6⟩) (fun E st t h => h.2.choose_spec.2.2) hS (fun q h => h) (fun E ce q9 st t locs1 hx h0 hS hce hcv hcl => ?_) (fun u H locs hw hS => ?_)
  · obtain ⟨rfl, σ1, hp, hW, -⟩ := hx
    refine vx_catch (own := RL) (name := nSE) M.hown [] ⟨0, 10, 13, 13⟩ [] htab (fun z hz => nomatch hz) (by decide) (by decide) (M.hts _ u_cl_L_13) (va_Nw.use rfl (hX.1 _ (by simp [oxB]))) hce hcv hcl ?_
    refine z_as M [(4, .ref q9), (0, .ref (ad (0, 0, 0))), (1, .int (iN v1)), (2, .int (iN v2)), (3, .ref (ad (13, 0, 0)))] dL_of_13 hl (by decide) rfl (fun ls hl => ?_)
    refine zi_const M 1 dL_of_15 rfl ?_
    exact zr_i M hr hlocks (1, σ1) rfl ⟨hp, hW⟩ hS dL_of_16
  · obtain ⟨r, σ1⟩ := u
    obtain ⟨hp, hW⟩ := hw
    try dsimp only at hp
    refine lv_i2l M.hx M.hb dL_of_8 rfl ?_
    obtain ⟨σ2, e2⟩ : ∃ z : nS, z = s1 σ1 (13, 0, 0) 0 r := ⟨_, rfl⟩
    have hp := hp σ2 e2
    refine zs_l (n := 1) M hW hS h13 (fun _ _ => rfl) (by decide) (by decide) (by decide) dL_of_9 (fun H locs hW hS => ?_)
    rw [show (0 : Int).toNat = 0 from rfl, ← e2] at hW
    refine zg M (tgt := 17) dL_of_10 (by decide) ?_
    refine zi_const M 0 dL_of_17 rfl ?_
    exact zr_i M hr hlocks (0, σ2) rfl ⟨hp, hW⟩ hS dL_of_18
