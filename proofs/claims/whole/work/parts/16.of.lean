/-- what a throwing method asks of the start; what holds where it has thrown -/
def ZPX (D : va_G) (ca : Nat → ClassId) (av : List Value) (B : Heap → Prop) (A : Nat → Prop) : Array Value → State → Prop := va_Pc av (fun U => B U.heap ∧ ZK D ca U ∧ ZX U ∧ vx_Zq Bundle.tN "UNASSIGNED_STACK" Bundle.steD A U U.heap ∧ vx_Zq Bundle.tN "SUPPRESSED_SENTINEL" Bundle.listD A U U.heap)
theorem zpx_blind {D : va_G} {ca : Nat → ClassId} {av : List Value} {B : Heap → Prop} {A : Nat → Prop} : FrameBlind (ZPX D ca av B A) := fun _ U _ _ q => ⟨q.1, q.2.1, q.2.2.1.same rfl, ZX.same (u := U) rfl q.2.2.2.1, vx_Zq.moved (Vm.Alike.refl U.vm) q.2.2.2.2.1, vx_Zq.moved (Vm.Alike.refl U.vm) q.2.2.2.2.2⟩
def ZXC (D : va_G) (K : List nKey) (ad : nKey → Nat) (ca : Nat → ClassId) (sz : Nat) (kx : nS → Prop) : String → State → State → Prop := fun E st t => E = nSE ∧ ∃ σ' : nS, kx σ' ∧ XW D (FA K ad sz) K ad (cR ca ad σ') t.heap ∧ va_F (FA K ad sz) st t
section ZX1
variable {l : Launch} {D : va_G} {ca : Nat → ClassId} {K : List nKey} {ad : nKey → Nat} {σ : nS} {own : String}
theorem z_startX {y : MethodName} {cc : ByteArray} {rm : Room} {maxL : Nat} {ret : Option FieldType} {av : List Value} {sz mc ms : Nat} {Qc : Nat → Array Value → State → Outcome → State → Prop} {XC : Nat → String → State → State → Prop} (hy : plainName y.cls = true) (ho : y.cls = own) (hlen : (lg_sl av).length ≤ maxL) (body : ∀ (p : Program) (e : Env) (s : State) (m : MethodId) (args : Array Value) (below : List Frame) (meth : Method) (c : Code), MF p s m args c cc maxL own D ca → meth.sig.returnType = ret → meth.locks = false → (∀ x ∈ c.exceptionTable.toList, False) → ZX s → vx_Zq Bundle.tN "UNASSIGNED_STACK" Bundle.steD (FA K ad s.heap.size) s s.heap → vx_Zq Bundle.tN "SUPPRESSED_SENTINEL" Bundle.listD (FA K ad s.heap.size) s s.heap → XW D (FA K ad s.heap.size) K ad (cR ca ad σ) s.heap → ∀ ls, lv_has ls maxL (lv_args 0 av) → W p l e rm s m args below meth c s.heap [] 0 0 (vx_MQ below (Qc s.heap.size) (XC s.heap.size) args s mc ms (FA K ad s.heap.size)) (F0 m 0 ls [])) : vx_Met l y (Cond.code y cc maxL ret :: UW) rm (ZPX D ca av (ZB D K ad ca σ sz) (FA K ad sz)) (Qc sz) (XC sz) mc ms (FA K ad sz) := by
  refine vx_ofW (cc := cc) (maxL := maxL) (ret := ret) hy rfl ?_
  intro p e s m args below meth c s₁ B hml ht hv
  obtain ⟨hav, ⟨rfl, hW⟩, hZ, hX, hU, hN⟩ := hv
  have hts := atoms_spec (ws := Cond.code y cc maxL ret :: UW) B.pre
  refine z_entry hav hlen (fun ls hl => ?_)
  exact body p e s m args below meth c ⟨⟨B.exec, B.bytes, hml, by rw [← ho]; exact findClass_of_methodNamed B.named, fun w hw => hts w (List.mem_cons_of_mem _ hw)⟩, hZ⟩ B.returns B.notSynchronized ht hX hU hN hW.self ls hl
end ZX1
def P_X4_of (K : List nKey) (σ : nS) (v1 : Int) (v2 : Int) (k : Int → nS → Prop) (kx : nS → Prop) : Prop :=
  P_X4_riderAt K σ v1 (fun r2 σ1 => ((r2 = none → kx σ1) ∧ (∀ q3 : Nat, r2 = some q3 → (6, q3, 0) ∈ K ∧ ((w v2 = 0 → k (σ1.1 (6, q3, 0) 0) σ1) ∧ (w v2 = 1 → k (σ1.1 (6, q3, 0) 6) σ1) ∧ (w v2 = 2 → ((w (σ1.1 (6, q3, 0) 10) = 0 → k (σ1.1 (6, q3, 0) 7) σ1) ∧ (w (σ1.1 (6, q3, 0) 10) ≠ 0 → k (-1) σ1))) ∧ (w v2 = 3 → k (σ1.1 (6, q3, 0) 8) σ1) ∧ (w v2 = 4 → k (σ1.1 (6, q3, 0) 9) σ1) ∧ (w v2 = 5 → k (σ1.1 (6, q3, 0) 1) σ1) ∧ (w v2 = 6 → k (σ1.1 (6, q3, 0) 4) σ1) ∧ (w v2 < 0 ∨ 6 < w v2 → kx σ1)))))
def rmX4_of : Room := { frames := 20, cells := 1, slots := 6, locals := 300 }
set_option maxHeartbeats 4000000 in
set_option maxRecDepth 100000 in
theorem w_X4_of {l : Launch} (hfl : l.stackTraces = false) {D : va_G} {ca : Nat → ClassId} {K : List nKey} {ad : nKey → Nat} {σ : nS} {sz : Nat} (hKC : KC K) {v1 v2 : Int} {k : Int → nS → Prop} {kx : nS → Prop} (hp : P_X4_of K σ v1 v2 k kx) : vx_Met l yX4_of (Cond.code yX4_of cX4_of 4 (some .int) :: UW) rmX4_of (ZPX D ca [.ref (ad (0, 0, 0)), .int (iN v1), .int (iN v2)] (ZB D K ad ca σ sz) (FA K ad sz)) (ZQi D K ad ca sz k) (ZXC D K ad ca sz kx) 1 6 (FA K ad sz) := by
  refine z_startX (cc := cX4_of) (maxL := 4) (ret := (some .int)) (own := RX4) (K := K) (ad := ad) (σ := σ) (Qc := fun sz => ZQi D K ad ca sz k) (XC := fun sz => ZXC D K ad ca sz kx) (by decide) rfl (Nat.le_of_ble_eq_true rfl) ?_
  intro p e s m args below meth c M hr hlocks ht hZ hU hN hW ls hl
  have hS : va_S (FA K ad s.heap.size) s.heap s.heap [] := va_S.rf
  have hA : ∀ q : Nat, s.heap.size ≤ q → FA K ad s.heap.size q := fun q h => Or.inr h
  replace hl : lv_has ls 4 [(0, .ref (ad (0, 0, 0))), (1, .int (iN v1)), (2, .int (iN v2))] := hl
  unfold P_X4_of at hp
  refine z_al_n M dX4_of_0 rfl hl 0 rfl ?_
  refine z_il_n M dX4_of_1 rfl hl 1 rfl ?_
  have hfa := hW.fa hS hA
  refine zc_VU (As := [.int (iN v1)]) (rest := []) M (w_X4_riderAt hKC  hp) (cuV M 1 u_co_X4_riderAt u_ml_X4_55 u_ini_X4 u_in_X4_riderAt u_se_X4_riderAt (by decide +kernel) rfl rfl ⟨Nat.le_of_ble_eq_true rfl, Nat.le_of_ble_eq_true rfl⟩) (z_recv M hW hKC.k0 rfl rfl) ⟨rfl, hW.weaken (fun _ _ => trivial)⟩ rfl hl rfl (Nat.le_of_ble_eq_true rfl) ⟨Nat.zero_le _, Nat.zero_le _⟩ dX4_of_2 hS hfa (fun u H locs hw _ _ hS => ?_)
  obtain ⟨r2, σ1⟩ := u
  obtain ⟨hp, hW2⟩ := hw
  have hW := hW2.weaken hfa
  try dsimp only at hp
  rcases r2 with _ | q3
  · refine W.eq (g2 := F0 m 5 ls (.null :: [])) rfl ?_
    have hp := hp.1 rfl
    refine z_asn_n M [(3, .null), (0, .ref (ad (0, 0, 0))), (1, .int (iN v1)), (2, .int (iN v2))] dX4_of_5 rfl hl (by decide) rfl (fun ls hl => ?_)
    refine z_aln_n M dX4_of_6 rfl hl 0 rfl ?_
    refine z_ifnnN M dX4_of_7 ?_
    obtain ⟨sa, hstr⟩ := hZ.2.1
    exact ox_throw M hfl hstr hZ hU hN hS hl.1 dX4_of_10 dX4_of_13 dX4_of_14 dX4_of_16 dX4_of_19 (fun x hx => (ht x hx).elim) (Nat.le_of_ble_eq_true rfl) (by show _ ≤ 300; simp [Value.category]) (Nat.le_refl 1) (Nat.le_refl 6) hlocks (fun t h1 h2 => ⟨rfl, σ1, hp, ⟨hW.1.kept (fun k x hx => h2 x.1 (hW.1 k x hx).lt), hW.2⟩, Nat.le_trans hS.1 h1, fun q q1 q2 => (h2 q (Nat.lt_of_lt_of_le q1 hS.1)).trans (hS.2.1 q q1 q2)⟩) hS.2.2 (Nat.le_refl 1) (Nat.le_refl 6)
  · refine W.eq (g2 := F0 m 5 ls (.ref (ad (6, q3, 0)) :: [])) rfl ?_
    obtain ⟨hm_q3, hp⟩ := hp.2 q3 rfl
    refine z_as_n M [(3, .ref (ad (6, q3, 0))), (0, .ref (ad (0, 0, 0))), (1, .int (iN v1)), (2, .int (iN v2))] dX4_of_5 rfl hl (by decide) rfl (fun ls hl => ?_)
    refine z_al_n M dX4_of_6 rfl hl 0 rfl ?_
    refine z_ifnn M (tgt := 20) dX4_of_7 (by decide) ?_
    refine z_il_n M dX4_of_20 rfl hl 3 rfl ?_
    by_cases c21_0 : w v2 = 0
    · have hp := hp.1 c21_0
      refine z_tin M (off := 43) (tgt := 64) 0 dX4_of_21 c21_0 (by decide) (by decide) rfl (by decide) ?_
      refine z_al_n M dX4_of_64 rfl hl 0 rfl ?_
      refine zg_X3_0 M u_hin3 hW hm_q3 (M.hts _ u_fl_X4_91) dX4_of_65 ?_
      refine vx_ret ?_
      refine W.widen (k := 1) (n := 6) (Nat.zero_le _) (Nat.zero_le _) ?_
      exact zr_i M hr hlocks ((σ1.1 (6, q3, 0) 0), σ1) rfl ⟨hp, hW⟩ hS dX4_of_68
    · by_cases c21_1 : w v2 = 1
      · have hp := hp.2.1 c21_1
        refine z_tin M (off := 48) (tgt := 69) 1 dX4_of_21 c21_1 (by decide) (by decide) rfl (by decide) ?_
        refine z_al_n M dX4_of_69 rfl hl 0 rfl ?_
        refine zg_X3_6 M u_hin3 hW hm_q3 (M.hts _ u_fl_X4_94) dX4_of_70 ?_
        refine vx_ret ?_
        refine W.widen (k := 1) (n := 6) (Nat.zero_le _) (Nat.zero_le _) ?_
        exact zr_i M hr hlocks ((σ1.1 (6, q3, 0) 6), σ1) rfl ⟨hp, hW⟩ hS dX4_of_73
      · by_cases c21_2 : w v2 = 2
        · have hp := hp.2.2.1 c21_2
          refine z_tin M (off := 53) (tgt := 74) 2 dX4_of_21 c21_2 (by decide) (by decide) rfl (by decide) ?_
          refine z_al_n M dX4_of_74 rfl hl 0 rfl ?_
          refine zg_X3_10 M u_hin3 hW hm_q3 (M.hts _ u_fl_X4_97) dX4_of_75 ?_
          refine zv_eq M (tgt := 85) dX4_of_78 (by decide) rfl (fun c4 => ?_) (fun c4 => ?_)
          · have hp := hp.1 c4
            refine z_al_n M dX4_of_85 rfl hl 0 rfl ?_
            refine zg_X3_7 M u_hin3 hW hm_q3 (M.hts _ u_fl_X4_101) dX4_of_86 ?_
            refine vx_ret ?_
            refine W.widen (k := 1) (n := 6) (Nat.zero_le _) (Nat.zero_le _) ?_
            exact zr_i M hr hlocks ((σ1.1 (6, q3, 0) 7), σ1) rfl ⟨hp, hW⟩ hS dX4_of_89
          · have hp := hp.2 c4
            refine zi_const M (-1) dX4_of_81 rfl ?_
            refine zg M (tgt := 89) dX4_of_82 (by decide) ?_
            refine vx_ret ?_
            refine W.widen (k := 1) (n := 6) (Nat.zero_le _) (Nat.zero_le _) ?_
            exact zr_i M hr hlocks ((-1), σ1) rfl ⟨hp, hW⟩ hS dX4_of_89
        · by_cases c21_3 : w v2 = 3
          · have hp := hp.2.2.2.1 c21_3
            refine z_tin M (off := 69) (tgt := 90) 3 dX4_of_21 c21_3 (by decide) (by decide) rfl (by decide) ?_
            refine z_al_n M dX4_of_90 rfl hl 0 rfl ?_
            refine zg_X3_8 M u_hin3 hW hm_q3 (M.hts _ u_fl_X4_104) dX4_of_91 ?_
            refine vx_ret ?_
            refine W.widen (k := 1) (n := 6) (Nat.zero_le _) (Nat.zero_le _) ?_
            exact zr_i M hr hlocks ((σ1.1 (6, q3, 0) 8), σ1) rfl ⟨hp, hW⟩ hS dX4_of_94
          · by_cases c21_4 : w v2 = 4
            · have hp := hp.2.2.2.2.1 c21_4
              refine z_tin M (off := 74) (tgt := 95) 4 dX4_of_21 c21_4 (by decide) (by decide) rfl (by decide) ?_
              refine z_al_n M dX4_of_95 rfl hl 0 rfl ?_
              refine zg_X3_9 M u_hin3 hW hm_q3 (M.hts _ u_fl_X4_107) dX4_of_96 ?_
              refine vx_ret ?_
              refine W.widen (k := 1) (n := 6) (Nat.zero_le _) (Nat.zero_le _) ?_
              exact zr_i M hr hlocks ((σ1.1 (6, q3, 0) 9), σ1) rfl ⟨hp, hW⟩ hS dX4_of_99
            · by_cases c21_5 : w v2 = 5
              · have hp := hp.2.2.2.2.2.1 c21_5
                refine z_tin M (off := 79) (tgt := 100) 5 dX4_of_21 c21_5 (by decide) (by decide) rfl (by decide) ?_
                refine z_al_n M dX4_of_100 rfl hl 0 rfl ?_
                refine zg_X3_1 M u_hin3 hW hm_q3 (M.hts _ u_fl_X4_110) dX4_of_101 ?_
                refine vx_ret ?_
                refine W.widen (k := 1) (n := 6) (Nat.zero_le _) (Nat.zero_le _) ?_
                exact zr_i M hr hlocks ((σ1.1 (6, q3, 0) 1), σ1) rfl ⟨hp, hW⟩ hS dX4_of_104
              · by_cases c21_6 : w v2 = 6
                · have hp := hp.2.2.2.2.2.2.1 c21_6
                  refine z_tin M (off := 84) (tgt := 105) 6 dX4_of_21 c21_6 (by decide) (by decide) rfl (by decide) ?_
                  refine z_al_n M dX4_of_105 rfl hl 0 rfl ?_
                  refine zg_X3_4 M u_hin3 hW hm_q3 (M.hts _ u_fl_X4_113) dX4_of_106 ?_
                  refine vx_ret ?_
                  refine W.widen (k := 1) (n := 6) (Nat.zero_le _) (Nat.zero_le _) ?_
                  exact zr_i M hr hlocks ((σ1.1 (6, q3, 0) 4), σ1) rfl ⟨hp, hW⟩ hS dX4_of_109
                · have c21_o : w v2 < 0 ∨ 6 < w v2 := by omega
                  have hp := hp.2.2.2.2.2.2.2 c21_o
                  refine z_tout M (tgt := 110) dX4_of_21 c21_o (by decide) ?_
                  obtain ⟨sa, hstr⟩ := hZ.2.2
                  exact ox_throw M hfl hstr hZ hU hN hS hl.1 dX4_of_110 dX4_of_113 dX4_of_114 dX4_of_116 dX4_of_119 (fun x hx => (ht x hx).elim) (Nat.le_of_ble_eq_true rfl) (by show _ ≤ 300; simp [Value.category]) (Nat.le_refl 1) (Nat.le_refl 6) hlocks (fun t h1 h2 => ⟨rfl, σ1, hp, ⟨hW.1.kept (fun k x hx => h2 x.1 (hW.1 k x hx).lt), hW.2⟩, Nat.le_trans hS.1 h1, fun q q1 q2 => (h2 q (Nat.lt_of_lt_of_le q1 hS.1)).trans (hS.2.1 q q1 q2)⟩) hS.2.2 (Nat.le_refl 1) (Nat.le_refl 6)
