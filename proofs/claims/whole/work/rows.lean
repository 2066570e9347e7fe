section
-- ===== PART A: goes FIRST, ahead of the names: the tables' words, and 'selects' of the private methods out of them =====
/-- a private method of a class that the tables say can be made, by its rows of tables_1 -/
def lw_okq (q : MethodName × Nat) : Prop := (q.1.cls ≠ "java/lang/invoke/MethodHandle" ∧ q.1.cls ≠ "java/lang/invoke/VarHandle") ∧ Cond.instantiable q.1.cls q.2 ∈ tables_1 ∧ Cond.privateMethod q.1 ∈ tables_1 ∧ Cond.instanceMethod q.1 ∈ tables_1
theorem lw_p0 : lw_okq (⟨"NightRiders", "isPlace", "(I)Z"⟩, 10) := ⟨⟨by decide +kernel, by decide +kernel⟩, List.mem_of_getElem? (i := 13) (by decide +kernel), List.mem_of_getElem? (i := 104) (by decide +kernel), List.mem_of_getElem? (i := 105) (by decide +kernel)⟩
theorem lw_p1 : lw_okq (⟨"NightRiders", "riderAt", "(I)LNightRiders$Rider;"⟩, 10) := ⟨⟨by decide +kernel, by decide +kernel⟩, List.mem_of_getElem? (i := 13) (by decide +kernel), List.mem_of_getElem? (i := 108) (by decide +kernel), List.mem_of_getElem? (i := 109) (by decide +kernel)⟩
theorem lw_p2 : lw_okq (⟨"NightRiders", "settleWays", "(LNightRiders$Rider;)V"⟩, 10) := ⟨⟨by decide +kernel, by decide +kernel⟩, List.mem_of_getElem? (i := 13) (by decide +kernel), List.mem_of_getElem? (i := 112) (by decide +kernel), List.mem_of_getElem? (i := 113) (by decide +kernel)⟩
theorem lw_p3 : lw_okq (⟨"NightRiders", "roadWithin", "(III)I"⟩, 10) := ⟨⟨by decide +kernel, by decide +kernel⟩, List.mem_of_getElem? (i := 13) (by decide +kernel), List.mem_of_getElem? (i := 116) (by decide +kernel), List.mem_of_getElem? (i := 117) (by decide +kernel)⟩
theorem lw_p4 : lw_okq (⟨"NightRiders", "countRequests", "(I)I"⟩, 10) := ⟨⟨by decide +kernel, by decide +kernel⟩, List.mem_of_getElem? (i := 13) (by decide +kernel), List.mem_of_getElem? (i := 195) (by decide +kernel), List.mem_of_getElem? (i := 196) (by decide +kernel)⟩
theorem lw_p5 : lw_okq (⟨"NightRiders", "requestAt", "(I)LNightRiders$Request;"⟩, 10) := ⟨⟨by decide +kernel, by decide +kernel⟩, List.mem_of_getElem? (i := 13) (by decide +kernel), List.mem_of_getElem? (i := 199) (by decide +kernel), List.mem_of_getElem? (i := 200) (by decide +kernel)⟩
theorem lw_p6 : lw_okq (⟨"NightRiders", "wayOf", "(LNightRiders$Rider;II)I"⟩, 10) := ⟨⟨by decide +kernel, by decide +kernel⟩, List.mem_of_getElem? (i := 13) (by decide +kernel), List.mem_of_getElem? (i := 222) (by decide +kernel), List.mem_of_getElem? (i := 223) (by decide +kernel)⟩
theorem lw_p7 : lw_okq (⟨"NightRiders", "lastOnDuty", "(II)I"⟩, 10) := ⟨⟨by decide +kernel, by decide +kernel⟩, List.mem_of_getElem? (i := 13) (by decide +kernel), List.mem_of_getElem? (i := 246) (by decide +kernel), List.mem_of_getElem? (i := 247) (by decide +kernel)⟩
theorem lw_p8 : lw_okq (⟨"NightRiders", "findChain", "(LNightRiders$Request;II)Z"⟩, 10) := ⟨⟨by decide +kernel, by decide +kernel⟩, List.mem_of_getElem? (i := 13) (by decide +kernel), List.mem_of_getElem? (i := 304) (by decide +kernel), List.mem_of_getElem? (i := 305) (by decide +kernel)⟩
theorem lw_p9 : lw_okq (⟨"NightRiders", "tryRiders", "(III)V"⟩, 10) := ⟨⟨by decide +kernel, by decide +kernel⟩, List.mem_of_getElem? (i := 13) (by decide +kernel), List.mem_of_getElem? (i := 308) (by decide +kernel), List.mem_of_getElem? (i := 309) (by decide +kernel)⟩
theorem lw_p10 : lw_okq (⟨"NightRiders", "thereFrom", "(LNightRiders$Rider;I)I"⟩, 10) := ⟨⟨by decide +kernel, by decide +kernel⟩, List.mem_of_getElem? (i := 13) (by decide +kernel), List.mem_of_getElem? (i := 316) (by decide +kernel), List.mem_of_getElem? (i := 317) (by decide +kernel)⟩
theorem lw_p11 : lw_okq (⟨"NightRiders", "isTooLate", "(I)Z"⟩, 10) := ⟨⟨by decide +kernel, by decide +kernel⟩, List.mem_of_getElem? (i := 13) (by decide +kernel), List.mem_of_getElem? (i := 320) (by decide +kernel), List.mem_of_getElem? (i := 321) (by decide +kernel)⟩
theorem lw_p12 : lw_okq (⟨"NightRiders", "waitsUntil", "(II)Z"⟩, 10) := ⟨⟨by decide +kernel, by decide +kernel⟩, List.mem_of_getElem? (i := 13) (by decide +kernel), List.mem_of_getElem? (i := 328) (by decide +kernel), List.mem_of_getElem? (i := 329) (by decide +kernel)⟩
theorem lw_p13 : lw_okq (⟨"NightRiders", "tryEnds", "(ILNightRiders$Rider;I)V"⟩, 10) := ⟨⟨by decide +kernel, by decide +kernel⟩, List.mem_of_getElem? (i := 13) (by decide +kernel), List.mem_of_getElem? (i := 336) (by decide +kernel), List.mem_of_getElem? (i := 337) (by decide +kernel)⟩
theorem lw_p14 : lw_okq (⟨"NightRiders", "tryEnd", "(ILNightRiders$Rider;II)V"⟩, 10) := ⟨⟨by decide +kernel, by decide +kernel⟩, List.mem_of_getElem? (i := 13) (by decide +kernel), List.mem_of_getElem? (i := 340) (by decide +kernel), List.mem_of_getElem? (i := 341) (by decide +kernel)⟩
theorem lw_p15 : lw_okq (⟨"NightRiders", "keepIfBetter", "()V"⟩, 10) := ⟨⟨by decide +kernel, by decide +kernel⟩, List.mem_of_getElem? (i := 13) (by decide +kernel), List.mem_of_getElem? (i := 356) (by decide +kernel), List.mem_of_getElem? (i := 357) (by decide +kernel)⟩
def lw_privs_1 : List (MethodName × Nat) := [(⟨"NightRiders", "isPlace", "(I)Z"⟩, 10), (⟨"NightRiders", "riderAt", "(I)LNightRiders$Rider;"⟩, 10), (⟨"NightRiders", "settleWays", "(LNightRiders$Rider;)V"⟩, 10), (⟨"NightRiders", "roadWithin", "(III)I"⟩, 10), (⟨"NightRiders", "countRequests", "(I)I"⟩, 10), (⟨"NightRiders", "requestAt", "(I)LNightRiders$Request;"⟩, 10), (⟨"NightRiders", "wayOf", "(LNightRiders$Rider;II)I"⟩, 10), (⟨"NightRiders", "lastOnDuty", "(II)I"⟩, 10), (⟨"NightRiders", "findChain", "(LNightRiders$Request;II)Z"⟩, 10), (⟨"NightRiders", "tryRiders", "(III)V"⟩, 10), (⟨"NightRiders", "thereFrom", "(LNightRiders$Rider;I)I"⟩, 10), (⟨"NightRiders", "isTooLate", "(I)Z"⟩, 10), (⟨"NightRiders", "waitsUntil", "(II)Z"⟩, 10), (⟨"NightRiders", "tryEnds", "(ILNightRiders$Rider;I)V"⟩, 10), (⟨"NightRiders", "tryEnd", "(ILNightRiders$Rider;II)V"⟩, 10), (⟨"NightRiders", "keepIfBetter", "()V"⟩, 10)]
theorem lw_r1 : ∀ q ∈ lw_privs_1, lw_okq q := List.forall_mem_cons.mpr ⟨lw_p0, List.forall_mem_cons.mpr ⟨lw_p1, List.forall_mem_cons.mpr ⟨lw_p2, List.forall_mem_cons.mpr ⟨lw_p3, List.forall_mem_cons.mpr ⟨lw_p4, List.forall_mem_cons.mpr ⟨lw_p5, List.forall_mem_cons.mpr ⟨lw_p6, List.forall_mem_cons.mpr ⟨lw_p7, List.forall_mem_cons.mpr ⟨lw_p8, List.forall_mem_cons.mpr ⟨lw_p9, List.forall_mem_cons.mpr ⟨lw_p10, List.forall_mem_cons.mpr ⟨lw_p11, List.forall_mem_cons.mpr ⟨lw_p12, List.forall_mem_cons.mpr ⟨lw_p13, List.forall_mem_cons.mpr ⟨lw_p14, List.forall_mem_cons.mpr ⟨lw_p15, fun _ h => absurd h List.not_mem_nil⟩⟩⟩⟩⟩⟩⟩⟩⟩⟩⟩⟩⟩⟩⟩⟩
theorem lw_p16 : lw_okq (⟨"NightRiders", "rideChosen", "(LNightRiders$Request;)V"⟩, 10) := ⟨⟨by decide +kernel, by decide +kernel⟩, List.mem_of_getElem? (i := 13) (by decide +kernel), List.mem_of_getElem? (i := 368) (by decide +kernel), List.mem_of_getElem? (i := 369) (by decide +kernel)⟩
theorem lw_p17 : lw_okq (⟨"NightRiders", "dropLegsBehind", "(LNightRiders$Request;I)V"⟩, 10) := ⟨⟨by decide +kernel, by decide +kernel⟩, List.mem_of_getElem? (i := 13) (by decide +kernel), List.mem_of_getElem? (i := 442) (by decide +kernel), List.mem_of_getElem? (i := 443) (by decide +kernel)⟩
theorem lw_p18 : lw_okq (⟨"NightRiders", "failLeg", "(LNightRiders$Leg;I)V"⟩, 10) := ⟨⟨by decide +kernel, by decide +kernel⟩, List.mem_of_getElem? (i := 13) (by decide +kernel), List.mem_of_getElem? (i := 446) (by decide +kernel), List.mem_of_getElem? (i := 447) (by decide +kernel)⟩
theorem lw_p19 : lw_okq (⟨"java/lang/Throwable", "fillInStackTrace", "(I)Ljava/lang/Throwable;"⟩, 6) := ⟨⟨by decide +kernel, by decide +kernel⟩, List.mem_of_getElem? (i := 498) (by decide +kernel), List.mem_of_getElem? (i := 496) (by decide +kernel), List.mem_of_getElem? (i := 497) (by decide +kernel)⟩
theorem lw_p20 : lw_okq (⟨"NightRidersModel", "isPlace", "(I)Z"⟩, 35) := ⟨⟨by decide +kernel, by decide +kernel⟩, List.mem_of_getElem? (i := 529) (by decide +kernel), List.mem_of_getElem? (i := 654) (by decide +kernel), List.mem_of_getElem? (i := 655) (by decide +kernel)⟩
theorem lw_p21 : lw_okq (⟨"NightRidersModel", "isRider", "(I)Z"⟩, 35) := ⟨⟨by decide +kernel, by decide +kernel⟩, List.mem_of_getElem? (i := 529) (by decide +kernel), List.mem_of_getElem? (i := 673) (by decide +kernel), List.mem_of_getElem? (i := 674) (by decide +kernel)⟩
theorem lw_p22 : lw_okq (⟨"NightRidersModel", "wayOf", "(III)I"⟩, 35) := ⟨⟨by decide +kernel, by decide +kernel⟩, List.mem_of_getElem? (i := 529) (by decide +kernel), List.mem_of_getElem? (i := 677) (by decide +kernel), List.mem_of_getElem? (i := 678) (by decide +kernel)⟩
theorem lw_p23 : lw_okq (⟨"NightRidersModel", "endOf", "(I)I"⟩, 35) := ⟨⟨by decide +kernel, by decide +kernel⟩, List.mem_of_getElem? (i := 529) (by decide +kernel), List.mem_of_getElem? (i := 686) (by decide +kernel), List.mem_of_getElem? (i := 687) (by decide +kernel)⟩
theorem lw_p24 : lw_okq (⟨"NightRidersModel", "onDuty", "(II)I"⟩, 35) := ⟨⟨by decide +kernel, by decide +kernel⟩, List.mem_of_getElem? (i := 529) (by decide +kernel), List.mem_of_getElem? (i := 698) (by decide +kernel), List.mem_of_getElem? (i := 699) (by decide +kernel)⟩
theorem lw_p25 : lw_okq (⟨"NightRidersModel", "mayCarry", "(II)Z"⟩, 35) := ⟨⟨by decide +kernel, by decide +kernel⟩, List.mem_of_getElem? (i := 529) (by decide +kernel), List.mem_of_getElem? (i := 702) (by decide +kernel), List.mem_of_getElem? (i := 703) (by decide +kernel)⟩
theorem lw_p26 : lw_okq (⟨"NightRidersModel", "isCall", "(I)Z"⟩, 35) := ⟨⟨by decide +kernel, by decide +kernel⟩, List.mem_of_getElem? (i := 529) (by decide +kernel), List.mem_of_getElem? (i := 718) (by decide +kernel), List.mem_of_getElem? (i := 719) (by decide +kernel)⟩
theorem lw_p27 : lw_okq (⟨"NightRidersModel", "findBest", "(IIII)Z"⟩, 35) := ⟨⟨by decide +kernel, by decide +kernel⟩, List.mem_of_getElem? (i := 529) (by decide +kernel), List.mem_of_getElem? (i := 722) (by decide +kernel), List.mem_of_getElem? (i := 723) (by decide +kernel)⟩
theorem lw_p28 : lw_okq (⟨"NightRidersModel", "tryLeg", "(IIIIII)V"⟩, 35) := ⟨⟨by decide +kernel, by decide +kernel⟩, List.mem_of_getElem? (i := 529) (by decide +kernel), List.mem_of_getElem? (i := 726) (by decide +kernel), List.mem_of_getElem? (i := 727) (by decide +kernel)⟩
theorem lw_p29 : lw_okq (⟨"NightRidersModel", "isBetter", "(I)Z"⟩, 35) := ⟨⟨by decide +kernel, by decide +kernel⟩, List.mem_of_getElem? (i := 529) (by decide +kernel), List.mem_of_getElem? (i := 731) (by decide +kernel), List.mem_of_getElem? (i := 732) (by decide +kernel)⟩
theorem lw_p30 : lw_okq (⟨"NightRidersModel", "ride", "(II)V"⟩, 35) := ⟨⟨by decide +kernel, by decide +kernel⟩, List.mem_of_getElem? (i := 529) (by decide +kernel), List.mem_of_getElem? (i := 739) (by decide +kernel), List.mem_of_getElem? (i := 740) (by decide +kernel)⟩
def lw_privs_2 : List (MethodName × Nat) := [(⟨"NightRiders", "rideChosen", "(LNightRiders$Request;)V"⟩, 10), (⟨"NightRiders", "dropLegsBehind", "(LNightRiders$Request;I)V"⟩, 10), (⟨"NightRiders", "failLeg", "(LNightRiders$Leg;I)V"⟩, 10), (⟨"java/lang/Throwable", "fillInStackTrace", "(I)Ljava/lang/Throwable;"⟩, 6), (⟨"NightRidersModel", "isPlace", "(I)Z"⟩, 35), (⟨"NightRidersModel", "isRider", "(I)Z"⟩, 35), (⟨"NightRidersModel", "wayOf", "(III)I"⟩, 35), (⟨"NightRidersModel", "endOf", "(I)I"⟩, 35), (⟨"NightRidersModel", "onDuty", "(II)I"⟩, 35), (⟨"NightRidersModel", "mayCarry", "(II)Z"⟩, 35), (⟨"NightRidersModel", "isCall", "(I)Z"⟩, 35), (⟨"NightRidersModel", "findBest", "(IIII)Z"⟩, 35), (⟨"NightRidersModel", "tryLeg", "(IIIIII)V"⟩, 35), (⟨"NightRidersModel", "isBetter", "(I)Z"⟩, 35), (⟨"NightRidersModel", "ride", "(II)V"⟩, 35)]
theorem lw_r2 : ∀ q ∈ lw_privs_2, lw_okq q := List.forall_mem_cons.mpr ⟨lw_p16, List.forall_mem_cons.mpr ⟨lw_p17, List.forall_mem_cons.mpr ⟨lw_p18, List.forall_mem_cons.mpr ⟨lw_p19, List.forall_mem_cons.mpr ⟨lw_p20, List.forall_mem_cons.mpr ⟨lw_p21, List.forall_mem_cons.mpr ⟨lw_p22, List.forall_mem_cons.mpr ⟨lw_p23, List.forall_mem_cons.mpr ⟨lw_p24, List.forall_mem_cons.mpr ⟨lw_p25, List.forall_mem_cons.mpr ⟨lw_p26, List.forall_mem_cons.mpr ⟨lw_p27, List.forall_mem_cons.mpr ⟨lw_p28, List.forall_mem_cons.mpr ⟨lw_p29, List.forall_mem_cons.mpr ⟨lw_p30, fun _ h => absurd h List.not_mem_nil⟩⟩⟩⟩⟩⟩⟩⟩⟩⟩⟩⟩⟩⟩⟩
def lw_privs : List (MethodName × Nat) := lw_privs_1 ++ (lw_privs_2)
def lw_tbl : List Cond := k2_sels lw_privs ++ tables_1
theorem lw_privs_ok : ∀ q ∈ lw_privs, lw_okq q := by
  show ∀ q ∈ lw_privs_1 ++ (lw_privs_2), lw_okq q
  exact List.forall_mem_append.mpr ⟨lw_r1, lw_r2⟩
end
section
/-! ===== BEGIN words of one list among another's, by their places ===== -/
theorem goodIn_r {big : List Cond} (ws : List Cond) (ps : List Nat) (hp : ws = ps.filterMap (fun i => big[i]?)) (h : ws.all goodWord = true) : GoodIn big ws := by
  intro w hw
  have h1 := List.all_eq_true.mp h w hw
  rw [hp] at hw
  obtain ⟨i, -, hi⟩ := List.mem_filterMap.mp hw
  have hm : w ∈ big := by first | exact List.mem_of_getElem? hi | exact List.getElem?_mem hi
  exact ⟨hm, good_of_word h1⟩
theorem goodIn_app {big a b : List Cond} (ha : GoodIn big a) (hb : GoodIn big b) : GoodIn big (a ++ b) := fun w h => (List.mem_append.mp h).elim (ha w) (hb w)
theorem goodIn_ca {big a b : List Cond} {c : Cond} (ha : GoodIn big (c :: a)) (hb : GoodIn big b) : GoodIn big (c :: (a ++ b)) := fun w h => (List.mem_cons.mp h).elim (fun e => ha w (List.mem_cons.mpr (Or.inl e))) (fun h => (List.mem_append.mp h).elim (fun h => ha w (List.mem_cons.mpr (Or.inr h))) (hb w))
theorem goodIn_sub {big ws : List Cond} (hm : ∀ w ∈ ws, w ∈ big) (h : ws.all goodWord = true) : GoodIn big ws := fun w hw => ⟨hm w hw, good_of_word (List.all_eq_true.mp h w hw)⟩
/-! ===== END ===== -/

/-! ===== BEGIN exceptions that leave a method, and their catching by the caller (launches without stack traces) ===== -/
section VXA
/-! The laws vx_back, vx_callV, vx_callS, vx_callSW, vx_throw0, vx_throwS follow proofs of the library, with one case more: JvmDerived/Free/Laws.lean (Back.of_free), Shelf42/LK1.lean (callV, callS), Shelf/KitTraced.lean (throwNew0V, throwNewS). -/
/-- where a method has thrown q: the class by its name, the cell, what was written, the world -/
def vx_T (XC : String → State → State → Prop) (st : State) (q : Addr) (t : State) (mc ms : Nat) (free : Addr → Prop) : Prop :=
  ∃ (E : String) (ce : Cell) (L : List Loc), XC E st t ∧ t.heap[q]? = some ce ∧ ce.vm = .none ∧ st.vm.findClass E = some ce.cls ∧ st.WarmedH t.vm ∧ st.sameButNew ({ t with vm := st.vm } : State) L mc ms ∧ ∀ z ∈ L, free z.base
def vx_Q (Qc : Array Value → State → Outcome → State → Prop) (XC : String → State → State → Prop) (mc ms : Nat) (free : Addr → Prop) : Array Value → State → Outcome → State → Prop := fun a st o t =>
  (Qc a st o t ∧ ∃ L, FrameEnd st o t L mc ms ∧ ∀ q ∈ L, free q.base) ∨ ∃ q, o = .threw q ∧ vx_T XC st q t mc ms free
/-- a callee that returns or throws -/
def vx_Met (l : Launch) (y : MethodName) (ws : List Cond) (rm : Room) (Pc : Array Value → State → Prop) (Qc : Array Value → State → Outcome → State → Prop) (XC : String → State → State → Prop) (mc ms : Nat) (free : Addr → Prop) : Prop :=
  MetFree l y (headSpec ws rm) Pc (fun _ _ _ _ _ => True) (vx_Q Qc XC mc ms free)
def vx_Post (XC : String → State → State → Prop) (mc ms : Nat) (free : Addr → Prop) : Pt → Array Value → Addr → Pt → Prop := fun A a q B =>
  ∃ (g : JFrame) (mk : MethodId) (t : State) (L : List Loc) (E : String) (ce : Cell), B.U.heap = t.heap ∧ B.U.vm = t.vm ∧ XC E (A.U.calling g mk a) t ∧ t.heap[q]? = some ce ∧ ce.vm = .none ∧ A.U.vm.findClass E = some ce.cls ∧ B.locs = A.locs ++ L ∧ (∀ z ∈ L, free z.base) ∧ B.cells = A.cells + mc ∧ B.slots = A.slots + ms
def vx_Back (l : Launch) (R : Room) (p : Program) (e : Env) (below : List Frame) (s : State) (sargs : Array Value) (y : MethodName) (len W9 : Nat)
    (Pre : Pt → Array Value → Prop) (Post : Pt → Array Value → Option Value → Pt → Prop) (PostX : Pt → Array Value → Addr → Pt → Prop) : Prop :=
  ∀ (m : MethodId) (meth : Method) (c : Code) (A : Pt) (g : JFrame) (ig : Instr) (mk : MethodId) (a : Array Value),
    Stand p l e R s m sargs below meth c A.U A.locs A.cells A.slots → g.method = m → g.locals.size = c.maxLocals → decode c.code g.pc = .ok (ig, len) →
    2 * g.monitorRoom + (g.stack.map fun v => v.category).sum ≤ W9 → A.U.methodNamed? y = some mk → Pre A a →
    (∃ (v : Option Value) (B : Pt), Stand p l e R s m sargs below meth c B.U B.locs B.cells B.slots ∧ Post A a v B ∧
      Steps p.tables e below (doInvoke e (A.U.setTop g) [] mk a).1 (B.U.setTop { g with pc := g.pc + len, stack := v.toList ++ g.stack })) ∨
    (∃ (q : Addr) (B : Pt), Stand p l e R s m sargs below meth c B.U B.locs B.cells B.slots ∧ PostX A a q B ∧
      Steps p.tables e below (doInvoke e (A.U.setTop g) [] mk a).1 ((B.U.setTop g).pushFrame (.throwing q)))
section Payer
variable {l : Launch} {R : Room} {p : Program} {e : Env} {below : List Frame} {s : State} {sargs : Array Value} {y : MethodName} {len W9 : Nat}
theorem vx_back {ws : List Cond} {rm : Room} {Pc : Array Value → State → Prop} {Qc : Array Value → State → Outcome → State → Prop} {XC : String → State → State → Prop} {mc ms : Nat} {free : Addr → Prop} {bytes : ByteArray} {maxL : Nat} {ret : Option FieldType}
    (hM : vx_Met l y ws rm Pc Qc XC mc ms free) (hblind : FrameBlind Pc) (hrc : rm.cells = mc) (hrs : rm.slots = ms)
    (hframes : rm.frames + 1 ≤ R.frames) (hlocals : W9 + (maxL + 11) + rm.locals ≤ R.locals)
    (hws : ∀ w ∈ ws, ∀ a' U, s.WarmedH U.vm → w.before a' U = true) (hcode : Cond.code y bytes maxL ret ∈ ws) (hinit : ∀ a' U, s.WarmedH U.vm → (Cond.initialized y.cls).before a' U = true) :
    vx_Back l R p e below s sargs y len W9 (PreOf R mc ms Pc) (PostOf Qc mc ms free) (vx_Post XC mc ms free) := by
  intro m meth c A g ig mk a X hg hsize hdg hW hn hp
  have h1 : (headSpec ws rm).pre.before a A.U = true := atoms_intro fun w hw => hws w hw _ _ X.warmed
  have h2 : (Cond.code y bytes maxL ret).before a A.U = true := hws _ hcode _ _ X.warmed
  have h3 : (Cond.initialized y.cls).before a A.U = true := hinit _ _ X.warmed
  have h4 : A.cells + (headSpec ws rm).room.cells ≤ R.cells := by rw [show (headSpec ws rm).room.cells = mc from hrc]; exact hp.1
  have h5 : A.slots + (headSpec ws rm).room.slots ≤ R.slots := by rw [show (headSpec ws rm).room.slots = ms from hrs]; exact hp.2.1
  have hPc : Pc a (A.U.calling g mk a) := hblind _ _ _ _ hp.2.2
  obtain ⟨U, Ls, c0, s0⟩ := A
  dsimp only [Pt.U, Pt.locs, Pt.cells, Pt.slots] at h1 h2 h3 h4 h5 X hn hPc ⊢
  obtain ⟨methY, cY, hmY, hcY, -, hlY, -, -, -, -⟩ := Cond.code_spec hn h2
  obtain ⟨kY, hkY, -⟩ := className_of_methodNamed hn
  have hinitY : kY.init = .initialized := Cond.initialized_spec (findClass_of_methodNamed hn) hkY h3
  have h : At U g.method c below := by rw [hg]; exact X.here
  have hlocals9 : W9 + (maxL + 11) + (headSpec ws rm).room.locals ≤ R.locals := hlocals
  have happ : (headSpec ws rm).appliesLoose y e.platform (U.calling g mk a) = true :=
    Spec.appliesLoose_calling (g := g) h hdg hn hkY hinitY
      (X.room_calling (g := g) (R' := (headSpec ws rm).room) hsize hmY hcY hframes (by rw [hlY]; omega) h4 h5) h1
  obtain ⟨mid, hmid⟩ := h.above
  have hfr : (U.setTop g).frames = (.java g :: mid) ++ below := by rw [State.frames_setTop' g h.top, hmid]; rfl
  obtain ⟨o, s₂, hsteps, -, hend, hq⟩ := Steps.callFree hM p X.admits X.cas X.clock (acts := []) hfr happ hPc trivial
  have hq' : vx_Q Qc XC mc ms free a (U.calling g mk a) o s₂ := hq
  rw [State.frames_setTop' g h.top] at hend
  obtain ⟨g₀, hg0⟩ := Option.isSome_iff_exists.mp h.top
  obtain ⟨r, hr⟩ := State.topJava?_eq_some.mp hg0
  have hr' : (({ U with heap := s₂.heap, slotsUsed := s₂.slotsUsed } : State).setVm s₂.vm).frames = .java g₀ :: r := hr
  rcases hq' with ⟨hqc, L, hfe, hL⟩ | ⟨q, rfl, E, ce, L, hx, hce, hcv, hcl, hW₂, hsm, hL⟩
  · obtain ⟨⟨v, rfl⟩, hW₂, e2, q2, q3, q4, q5, q6⟩ := id hfe
    have e3 : s₂ = ({ (U.calling g mk a).setFrames s₂.frames with heap := s₂.heap, slotsUsed := s₂.slotsUsed } : State).setVm s₂.vm := by
      have : s₂ = ({ s₂ with vm := (U.calling g mk a).vm } : State).setVm s₂.vm := rfl
      rw [e2] at this
      exact this
    obtain ⟨c₂, i₂, len₂, hc₂, hd₂, hf₂⟩ := hend
    have hW' : U.WarmedH s₂.vm := hW₂
    have hcc : c₂ = c := by
      have h1 : s₂.code? g.method = U.code? g.method := by
        rw [State.code?_eq, State.code?_eq, hW'.alike.method?]
      exact Option.some.inj (hc₂.symm.trans (h1.trans h.code))
    subst hcc
    have hlen : len₂ = len := by rw [hdg] at hd₂; cases hd₂; rfl
    subst hlen
    have hs₂ : s₂ = (({ U with heap := s₂.heap, slotsUsed := s₂.slotsUsed } : State).setVm s₂.vm).setTop { g with pc := g.pc + len₂, stack := v.toList ++ g.stack } := by
      refine e3.trans ?_
      rw [hf₂, State.calling_eq h.top, State.setFrames_setFrames, State.setTop_of_frames _ hr', hr]
      rfl
    have hsame : U.sameButNew ({ U with heap := s₂.heap, slotsUsed := s₂.slotsUsed } : State) L mc ms := by
      refine ⟨?_, q2, q3, q4, q5, q6⟩
      obtain ⟨t, ht, -⟩ := State.frames_cons hr
      show ({ U with heap := s₂.heap, slotsUsed := s₂.slotsUsed } : State) = { U.setFrames U.frames with heap := s₂.heap, slotsUsed := s₂.slotsUsed }
      rw [State.setFrames_self ht]
    subst hg
    refine Or.inl ⟨v, ⟨(({ U with heap := s₂.heap, slotsUsed := s₂.slotsUsed } : State).setVm s₂.vm), Ls ++ L, c0 + mc, s0 + ms⟩,
      ⟨X.admits, X.cas, X.clock, X.frames, X.room, X.hears, X.method, X.code, (X.here.setHeapUsed s₂.heap s₂.slotsUsed).setVm hW'.alike, X.tail, State.WarmedH.trans X.warmed hW', X.limits, X.bytes, X.same.trans (hsame.setVm s.vm)⟩,
      ⟨g, mk, s₂, L, rfl, rfl, hqc, rfl, hL, rfl, rfl⟩, ?_⟩
    show Steps p.tables e below _ ((({ U with heap := s₂.heap, slotsUsed := s₂.slotsUsed } : State).setVm s₂.vm).setTop { g with pc := g.pc + len₂, stack := v.toList ++ g.stack })
    rw [← hs₂]
    exact hsteps
  · obtain ⟨e2, q2, q3, q4, q5, q6⟩ := id hsm
    have e3 : s₂ = ({ (U.calling g mk a).setFrames s₂.frames with heap := s₂.heap, slotsUsed := s₂.slotsUsed } : State).setVm s₂.vm := by
      have : s₂ = ({ s₂ with vm := (U.calling g mk a).vm } : State).setVm s₂.vm := rfl
      rw [e2] at this
      exact this
    have hf₂ : s₂.frames = .throwing q :: .java g :: U.frames.tail := hend
    have hW' : U.WarmedH s₂.vm := hW₂
    have hs₂ : s₂ = ((({ U with heap := s₂.heap, slotsUsed := s₂.slotsUsed } : State).setVm s₂.vm).setTop g).pushFrame (.throwing q) := by
      refine e3.trans ?_
      rw [hf₂, State.calling_eq h.top, State.setFrames_setFrames, State.pushFrame, State.frames_setTop _ hr', State.setTop_of_frames _ hr', State.setFrames_setFrames, hr]
      rfl
    have hsame : U.sameButNew ({ U with heap := s₂.heap, slotsUsed := s₂.slotsUsed } : State) L mc ms := by
      refine ⟨?_, q2, q3, q4, q5, q6⟩
      obtain ⟨t, ht, -⟩ := State.frames_cons hr
      show ({ U with heap := s₂.heap, slotsUsed := s₂.slotsUsed } : State) = { U.setFrames U.frames with heap := s₂.heap, slotsUsed := s₂.slotsUsed }
      rw [State.setFrames_self ht]
    subst hg
    refine Or.inr ⟨q, ⟨(({ U with heap := s₂.heap, slotsUsed := s₂.slotsUsed } : State).setVm s₂.vm), Ls ++ L, c0 + mc, s0 + ms⟩,
      ⟨X.admits, X.cas, X.clock, X.frames, X.room, X.hears, X.method, X.code, (X.here.setHeapUsed s₂.heap s₂.slotsUsed).setVm hW'.alike, X.tail, State.WarmedH.trans X.warmed hW', X.limits, X.bytes, X.same.trans (hsame.setVm s.vm)⟩,
      ⟨g, mk, s₂, L, E, ce, rfl, rfl, hx, hce, hcv, hcl, rfl, hL, rfl, rfl⟩, ?_⟩
    show Steps p.tables e below _ (((({ U with heap := s₂.heap, slotsUsed := s₂.slotsUsed } : State).setVm s₂.vm).setTop g).pushFrame (.throwing q))
    rw [← hs₂]
    exact hsteps
end Payer
section Calls
variable {p : Program} {l : Launch} {e : Env} {R : Room} {s : State} {m : MethodId} {args : Array Value} {below : List Frame} {meth : Method} {c : Code} {T : State} {locs : List Loc} {cells slots : Nat}
theorem vx_callV (X : Stand p l e R s m args below meth c T locs cells slots) (hexec : p.tables.exec = Jvm.exec) {own C : String} {index : Nat} {y : MethodName} {bytes : ByteArray} {maxL : Nat} {ret : Option FieldType}
    (hown : s.vm.findClass own = some m.cls) (hlink : (Cond.methodLink own index y).before args s = true) (hinst : (Cond.instanceMethod y).before args s = true) (hsel : (Cond.selects C y y).before args s = true)
    (hcode : (Cond.code y bytes maxL ret).before args s = true) (hy : y.cls ≠ "java/lang/invoke/MethodHandle" ∧ y.cls ≠ "java/lang/invoke/VarHandle")
    {W9 : Nat} {Pre : Pt → Array Value → Prop} {Post : Pt → Array Value → Option Value → Pt → Prop} {PostX : Pt → Array Value → Addr → Pt → Prop} (hK : vx_Back l R p e below s args y 3 W9 Pre Post PostX)
    {b : Addr} {cellB : Cell} (hcell : T.heap[b]? = some cellB) (hobj : cellB.vm.isStatics = false) (hcls : s.vm.findClass C = some cellB.cls)
    {g : JFrame} (hg : g.method = m) (hsize : g.locals.size = c.maxLocals) {argsL rest : List Value} (hlen : ∀ sig, parseMethodDescriptor y.desc = some sig → argsL.length = sig.parameters.length)
    (hstack : g.stack = argsL.reverse ++ .ref b :: rest) (hW : 2 * g.monitorRoom + (rest.map fun v => v.category).sum ≤ W9) (hdg : decode c.code g.pc = .ok (.invokevirtual index, 3))
    (hpre : ∀ vm₁, s.WarmedH vm₁ → Pre ⟨T.setVm vm₁, locs, cells, slots⟩ (Value.ref b :: argsL).toArray) :
    (∃ (v : Option Value) (vm₁ : Vm) (B : Pt), s.WarmedH vm₁ ∧ Stand p l e R s m args below meth c B.U B.locs B.cells B.slots ∧ Post ⟨T.setVm vm₁, locs, cells, slots⟩ (Value.ref b :: argsL).toArray v B ∧
      ∀ target, Steps p.tables e below (B.U.setTop { g with pc := g.pc + 3, stack := v.toList ++ rest }) target → Steps p.tables e below (T.setTop g) target) ∨
    (∃ (q : Addr) (vm₁ : Vm) (B : Pt), s.WarmedH vm₁ ∧ Stand p l e R s m args below meth c B.U B.locs B.cells B.slots ∧ PostX ⟨T.setVm vm₁, locs, cells, slots⟩ (Value.ref b :: argsL).toArray q B ∧
      Steps p.tables e below (T.setTop g) ((B.U.setTop { g with stack := rest }).pushFrame (.throwing q))) := by
  obtain ⟨mk, methM, hnamed, hmethM, hstM, habM⟩ := Cond.instanceMethod_spec hinst
  obtain ⟨methM', cM, hmethM', -, -, -, -, -, -, hsigM⟩ := Cond.code_spec hnamed hcode
  cases hmethM.symm.trans hmethM'
  obtain ⟨c2, r2, m2, q1, q2, q3, q4, kP, hkP, hkPi⟩ := Cond.selects_spec hsel
  cases hcls.symm.trans q1
  cases (State.methodFound?_of_named hnamed hy).symm.trans q2
  cases hnamed.symm.trans q3
  have hselP : selectMethod e.platform s.vm cellB.cls mk = .method mk := by rw [Launch.admits_selectMethod X.admits]; exact q4
  obtain ⟨vm₁, X₁, hstep₁⟩ := X.invokevirtual hexec hown hlink hnamed hmethM hstM hkP hkPi hy (a := b) (cell := cellB) hcell
    (fun z h => by rw [h] at hobj; cases hobj) hselP hmethM habM hkP hkPi (g := g) hg (argsL := argsL) (rest := rest) (hlen _ hsigM) hstack hdg
  rcases hK m meth c ⟨T.setVm vm₁, locs, cells, slots⟩ { g with stack := rest } (.invokevirtual index) mk (Value.ref b :: argsL).toArray X₁ hg hsize hdg hW (X₁.named hnamed) (hpre vm₁ X₁.warmed) with ⟨v, B, X', hpost, hsteps⟩ | ⟨q, B, X', hpost, hsteps⟩
  · exact Or.inl ⟨v, vm₁, B, X₁.warmed, X', hpost, fun target h => hstep₁ _ fun acts => by rw [doInvoke_state]; exact hsteps.trans h⟩
  · exact Or.inr ⟨q, vm₁, B, X₁.warmed, X', hpost, hstep₁ _ fun acts => by rw [doInvoke_state]; exact hsteps⟩
theorem vx_callS (X : Stand p l e R s m args below meth c T locs cells slots) (hexec : p.tables.exec = Jvm.exec) {own : String} {index : Nat} {y : MethodName} {bytes : ByteArray} {maxL : Nat} {ret : Option FieldType}
    (hown : s.vm.findClass own = some m.cls) (hlink : (Cond.methodLink own index y).before args s = true) (hstat : (Cond.static y).before args s = true) (hinit : (Cond.initialized y.cls).before args s = true)
    (hcode : (Cond.code y bytes maxL ret).before args s = true) (hy : y.cls ≠ "java/lang/invoke/MethodHandle" ∧ y.cls ≠ "java/lang/invoke/VarHandle")
    {W9 : Nat} {Pre : Pt → Array Value → Prop} {Post : Pt → Array Value → Option Value → Pt → Prop} {PostX : Pt → Array Value → Addr → Pt → Prop} (hK : vx_Back l R p e below s args y 3 W9 Pre Post PostX)
    {g : JFrame} (hg : g.method = m) (hsize : g.locals.size = c.maxLocals) {argsL rest : List Value} (hlen : ∀ sig, parseMethodDescriptor y.desc = some sig → argsL.length = sig.parameters.length)
    (hstack : g.stack = argsL.reverse ++ rest) (hW : 2 * g.monitorRoom + (rest.map fun v => v.category).sum ≤ W9) (hdg : decode c.code g.pc = .ok (.invokestatic index, 3))
    (hpre : ∀ vm₁, s.WarmedH vm₁ → Pre ⟨T.setVm vm₁, locs, cells, slots⟩ argsL.toArray) :
    (∃ (v : Option Value) (vm₁ : Vm) (B : Pt), s.WarmedH vm₁ ∧ Stand p l e R s m args below meth c B.U B.locs B.cells B.slots ∧ Post ⟨T.setVm vm₁, locs, cells, slots⟩ argsL.toArray v B ∧
      ∀ target, Steps p.tables e below (B.U.setTop { g with pc := g.pc + 3, stack := v.toList ++ rest }) target → Steps p.tables e below (T.setTop g) target) ∨
    (∃ (q : Addr) (vm₁ : Vm) (B : Pt), s.WarmedH vm₁ ∧ Stand p l e R s m args below meth c B.U B.locs B.cells B.slots ∧ PostX ⟨T.setVm vm₁, locs, cells, slots⟩ argsL.toArray q B ∧
      Steps p.tables e below (T.setTop g) ((B.U.setTop { g with stack := rest }).pushFrame (.throwing q))) := by
  obtain ⟨mk, hnamed⟩ := Cond.code_named hcode
  obtain ⟨methM, cM, hmethM, -, -, -, -, -, -, hsigM⟩ := Cond.code_spec hnamed hcode
  have hstatic : methM.isStatic = true := Cond.static_spec hnamed hmethM hstat
  obtain ⟨kP, hkP, -⟩ := className_of_methodNamed hnamed
  have hinitP : kP.init = .initialized := Cond.initialized_spec (findClass_of_methodNamed hnamed) hkP hinit
  obtain ⟨vm₁, X₁, hstep₁⟩ := X.invokestatic hexec hown hlink hnamed hmethM hstatic hkP hinitP hy (g := g) hg (argsL := argsL) (rest := rest) (hlen _ hsigM) hstack hdg
  rcases hK m meth c ⟨T.setVm vm₁, locs, cells, slots⟩ { g with stack := rest } (.invokestatic index) mk argsL.toArray X₁ hg hsize hdg hW (X₁.named hnamed) (hpre vm₁ X₁.warmed) with ⟨v, B, X', hpost, hsteps⟩ | ⟨q, B, X', hpost, hsteps⟩
  · exact Or.inl ⟨v, vm₁, B, X₁.warmed, X', hpost, fun target h => hstep₁ _ fun acts => by rw [doInvoke_state]; exact hsteps.trans h⟩
  · exact Or.inr ⟨q, vm₁, B, X₁.warmed, X', hpost, hstep₁ _ fun acts => by rw [doInvoke_state]; exact hsteps⟩
end Calls
theorem vx_cls {s : State} {T : State} {vm₁ : Vm} {E : String} {k : ClassId} (hW : s.WarmedH vm₁) (h : (T.setVm vm₁).vm.findClass E = some k) : s.vm.findClass E = some k := by
  have h1 : vm₁.findClass E = some k := h
  rw [hW.alike.findClass] at h1
  exact h1
/-- the method's frame g, with q thrown over it -/
def vx_W (p : Program) (l : Launch) (e : Env) (R : Room) (s : State) (m : MethodId) (args : Array Value) (below : List Frame) (meth : Method) (c : Code) (H : Heap) (locs : List Loc) (cells slots : Nat) (Q : State → Prop) (g : JFrame) (q : Addr) : Prop :=
  ∀ T : State, T.heap = H → Stand p l e R s m args below meth c T locs cells slots → ∃ t, Steps p.tables e below ((T.setTop g).pushFrame (.throwing q)) t ∧ Q t
def vx_Run (p : Program) (l : Launch) (e : Env) (R : Room) (s : State) (m : MethodId) (args : Array Value) (below : List Frame) (meth : Method) (c : Code) (H : Heap) (locs : List Loc) (cells slots mc ms : Nat) (g : JFrame) (rest : List Value) (Qa : State → Outcome → State → Prop) (XC : String → State → State → Prop) (free : Addr → Prop) : Prop :=
  ∀ T : State, T.heap = H → Stand p l e R s m args below meth c T locs cells slots →
    (∃ (v : Option Value) (st₀ t T' : State) (L : List Loc), st₀.heap = H ∧ Stand p l e R s m args below meth c T' (locs ++ L) (cells + mc) (slots + ms) ∧ (∀ q ∈ L, free q.base) ∧ T'.heap = t.heap ∧ T'.vm = t.vm ∧ Qa st₀ (.returned v) t ∧
      Goes p e below T g T' { g with pc := g.pc + 3, stack := v.toList ++ rest }) ∨
    (∃ (q : Addr) (st₀ t T' : State) (L : List Loc) (E : String) (ce : Cell), st₀.heap = H ∧ Stand p l e R s m args below meth c T' (locs ++ L) (cells + mc) (slots + ms) ∧ (∀ z ∈ L, free z.base) ∧ T'.heap = t.heap ∧ T'.vm = t.vm ∧ XC E st₀ t ∧ t.heap[q]? = some ce ∧ ce.vm = .none ∧ s.vm.findClass E = some ce.cls ∧
      Steps p.tables e below (T.setTop g) ((T'.setTop { g with stack := rest }).pushFrame (.throwing q)))
def vx_X {S : Type} (px : S → Prop) (B : String → S → State → Prop) (A : Nat → Prop) : String → State → State → Prop := fun E st t => ∃ u : S, px u ∧ B E u t ∧ va_F A st t
section Runs
variable {p : Program} {l : Launch} {e : Env} {R : Room} {s : State} {m : MethodId} {args : Array Value} {below : List Frame} {meth : Method} {c : Code} {H : Heap} {locs : List Loc} {cells slots : Nat}
variable {y : MethodName} {bytes cc : ByteArray} {maxL nL mc ms n index : Nat} {ret : Option FieldType} {ws : List Cond} {rm : Room} {Pc : Array Value → State → Prop} {Qc : Array Value → State → Outcome → State → Prop} {XC : String → State → State → Prop} {free : Addr → Prop} {Ts : List Cond} {own C : String} {b : Addr} {As rest : List Value} {g : JFrame}
theorem vx_callBack (cb : CallB R s args own index y bytes maxL ret ws rm mc ms n) (hM : vx_Met l y ws rm Pc Qc XC mc ms free) (hbl : FrameBlind Pc) : vx_Back l R p e below s args y 3 8 (PreOf R mc ms Pc) (PostOf Qc mc ms free) (vx_Post XC mc ms free) := by
  obtain ⟨hrc, hrs, hfr, hlo, hws, hcw, -, hini, -⟩ := cb
  exact vx_back (bytes := bytes) (maxL := maxL) (ret := ret) hM hbl hrc hrs hfr hlo hws hcw (fun a' U hW => word_at hW (Or.inl (by first | rfl | simp [Cond.onTables, Cond.keeps, Cond.steady])) hini)
theorem vx_runV (S : CallFix p m c cc nL s args Ts own) (hM : vx_Met l y ws rm Pc Qc XC mc ms free) (cw : CallW R s args own C index y bytes maxL ret ws rm mc ms n) (hp : PreV s H C b Pc As)
    (hg : g.method = m) (hn : As.length = n) (hsize : g.locals.size = nL) (hstack : g.stack = As.reverse ++ .ref b :: rest) (hW : 2 * g.monitorRoom + (rest.map fun v => v.category).sum ≤ 8) (hdg : decode cc g.pc = .ok (.invokevirtual index, 3)) (hf : cells + mc ≤ R.cells ∧ slots + ms ≤ R.slots) :
    vx_Run p l e R s m args below meth c H locs cells slots mc ms g rest (Qc (Value.ref b :: As).toArray) XC free := by
  have hK : vx_Back l R p e below s args y 3 8 (PreOf R mc ms Pc) (PostOf Qc mc ms free) (vx_Post XC mc ms free) := vx_callBack cw.1 hM hp.1
  obtain ⟨⟨-, -, -, -, -, -, hcode, -, hy, hlen, hl⟩, hin, hse⟩ := cw
  obtain ⟨hx, hb, hml, ho, -⟩ := S
  obtain ⟨-, ⟨cellB, hcB, hoB, hclB⟩, hPc⟩ := hp
  intro T hT X
  rcases vx_callV X hx (C := C) (bytes := bytes) (maxL := maxL) (ret := ret) ho hl hin hse hcode hy hK (by rw [hT]; exact hcB) hoB hclB hg (hsize.trans hml.symm) (argsL := As) (rest := rest) (fun sig h => hn.trans (hlen sig h)) hstack hW (by rw [hb]; exact hdg)
    (fun vm₁ hW₁ => ⟨hf.1, hf.2, hPc (T.setVm vm₁) hT hW₁⟩) with ⟨v, vm₁, ⟨U', l2, c2, s2⟩, hW₁, X', ⟨g', mk, t, L, e1, e2, hq, h1, hL, h2, h3⟩, st⟩ | ⟨q, vm₁, ⟨U', l2, c2, s2⟩, hW₁, X', ⟨g', mk, t, L, E, ce, e1, e2, hq, hce, hcv, hcl, h1, hL, h2, h3⟩, st⟩
  · dsimp only [Pt.U, Pt.locs, Pt.cells, Pt.slots] at X' e1 e2 h1 h2 h3 st
    subst h1; subst h2; subst h3
    exact Or.inl ⟨v, (T.setVm vm₁).calling g' mk (Value.ref b :: As).toArray, t, U', L, hT, X', hL, e1, e2, hq, st⟩
  · dsimp only [Pt.U, Pt.locs, Pt.cells, Pt.slots] at X' e1 e2 h1 h2 h3 st hcl
    subst h1; subst h2; subst h3
    exact Or.inr ⟨q, (T.setVm vm₁).calling g' mk (Value.ref b :: As).toArray, t, U', L, E, ce, hT, X', hL, e1, e2, hq, hce, hcv, vx_cls hW₁ hcl, st⟩
theorem vx_runS (S : CallFix p m c cc nL s args Ts own) (hM : vx_Met l y ws rm Pc Qc XC mc ms free) (cw : CallB R s args own index y bytes maxL ret ws rm mc ms n ∧ (Cond.static y).before args s = true) (hp : PreS s H Pc As)
    (hg : g.method = m) (hn : As.length = n) (hsize : g.locals.size = nL) (hstack : g.stack = As.reverse ++ rest) (hW : 2 * g.monitorRoom + (rest.map fun v => v.category).sum ≤ 8) (hdg : decode cc g.pc = .ok (.invokestatic index, 3)) (hf : cells + mc ≤ R.cells ∧ slots + ms ≤ R.slots) :
    vx_Run p l e R s m args below meth c H locs cells slots mc ms g rest (Qc As.toArray) XC free := by
  have hK : vx_Back l R p e below s args y 3 8 (PreOf R mc ms Pc) (PostOf Qc mc ms free) (vx_Post XC mc ms free) := vx_callBack cw.1 hM hp.1
  obtain ⟨⟨-, -, -, -, -, -, hcode, hini, hy, hlen, hl⟩, hstt⟩ := cw
  obtain ⟨hx, hb, hml, ho, -⟩ := S
  intro T hT X
  rcases vx_callS X hx (bytes := bytes) (maxL := maxL) (ret := ret) ho hl hstt hini hcode hy hK hg (hsize.trans hml.symm) (argsL := As) (rest := rest) (fun sig h => hn.trans (hlen sig h)) hstack hW (by rw [hb]; exact hdg)
    (fun vm₁ hW₁ => ⟨hf.1, hf.2, hp.2 (T.setVm vm₁) hT hW₁⟩) with ⟨v, vm₁, ⟨U', l2, c2, s2⟩, hW₁, X', ⟨g', mk, t, L, e1, e2, hq, h1, hL, h2, h3⟩, st⟩ | ⟨q, vm₁, ⟨U', l2, c2, s2⟩, hW₁, X', ⟨g', mk, t, L, E, ce, e1, e2, hq, hce, hcv, hcl, h1, hL, h2, h3⟩, st⟩
  · dsimp only [Pt.U, Pt.locs, Pt.cells, Pt.slots] at X' e1 e2 h1 h2 h3 st
    subst h1; subst h2; subst h3
    exact Or.inl ⟨v, (T.setVm vm₁).calling g' mk As.toArray, t, U', L, hT, X', hL, e1, e2, hq, st⟩
  · dsimp only [Pt.U, Pt.locs, Pt.cells, Pt.slots] at X' e1 e2 h1 h2 h3 st hcl
    subst h1; subst h2; subst h3
    exact Or.inr ⟨q, (T.setVm vm₁).calling g' mk As.toArray, t, U', L, E, ce, hT, X', hL, e1, e2, hq, hce, hcv, vx_cls hW₁ hcl, st⟩
end Runs
section Rows
variable {p : Program} {l : Launch} {e : Env} {R : Room} {s : State} {m : MethodId} {args : Array Value} {below : List Frame} {meth : Method} {c : Code} {H : Heap} {locs : List Loc} {cells slots : Nat} {Q : State → Prop}
variable {mc ms : Nat} {free : Addr → Prop} {A0 A1 : Nat → Prop} {H0 : Heap} {a : Array Value} {pc : Nat} {ls : Array Slot} {st0 rest : List Value}
theorem vx_keep {st₀ t T' : State} {L : List Loc} (h0 : st₀.heap = H) (e1 : T'.heap = t.heap) (hS : va_S A0 H0 H locs) (hA : ∀ q, q < H.size → A1 q → A0 q) (hf : ∀ q, free q → A0 q) (hL : ∀ q ∈ L, free q.base) (hF : va_F A1 st₀ t) :
    H.size ≤ T'.heap.size ∧ (∀ q : Nat, q < H.size → ¬ A1 q → T'.heap[q]? = H[q]?) ∧ va_S A0 H0 T'.heap (locs ++ L) := by
  obtain ⟨hz, hk⟩ := hF
  rw [h0] at hz hk
  exact ⟨by rw [e1]; exact hz, fun q h1 h2 => by rw [e1]; exact hk q h1 h2,
    ⟨Nat.le_trans hS.1 (by rw [e1]; exact hz), fun q h1 h2 => by rw [e1, hk q (Nat.lt_of_lt_of_le h1 hS.1) (fun z => h2 (hA q (Nat.lt_of_lt_of_le h1 hS.1) z))]; exact hS.2.1 q h1 h2, fun q hq => by
      rcases List.mem_append.mp hq with h | h
      · exact hS.2.2 q h
      · exact hf _ (hL q h)⟩⟩
theorem vx_calli {S SX : Type} {post : Int32 → S → Prop} {px : SX → Prop} {B : S → State → Prop} {BX : String → SX → State → Prop} {AX : Nat → Prop} (hr : vx_Run p l e R s m args below meth c H locs cells slots mc ms (F0 m pc ls st0) rest (va_Qi post B A1 a) (vx_X px BX AX) free) (hS : va_S A0 H0 H locs) (hA : ∀ q, q < H.size → A1 q → A0 q) (hf : ∀ q, free q → A0 q) (hAX : ∀ q, q < H.size → AX q → A0 q)
    (kx : ∀ (E : String) (ce : Cell) (q9 : Addr) (u : SX) (t : State) (H1 : Heap) (locs1 : List Loc), t.heap = H1 → s.vm.Alike t.vm → px u → BX E u t → H.size ≤ H1.size → (∀ q : Nat, q < H.size → ¬ AX q → H1[q]? = H[q]?) → va_S A0 H0 H1 locs1 → H1[q9]? = some ce → ce.vm = .none → s.vm.findClass E = some ce.cls → vx_W p l e R s m args below meth c H1 locs1 (cells + mc) (slots + ms) Q (F0 m pc ls rest) q9)
    (kk : ∀ (r : Int32) (u : S) (t : State) (H1 : Heap) (locs1 : List Loc), t.heap = H1 → s.vm.Alike t.vm → post r u → B u t → H.size ≤ H1.size → (∀ q : Nat, q < H.size → ¬ A1 q → H1[q]? = H[q]?) → va_S A0 H0 H1 locs1 → W p l e R s m args below meth c H1 locs1 (cells + mc) (slots + ms) Q (F0 m (pc + 3) ls (.int r :: rest))) : W p l e R s m args below meth c H locs cells slots Q (F0 m pc ls st0) := by
  intro T hT X
  rcases hr T hT X with ⟨v, st₀, t, T', L, h0, X', hL, e1, e2, ⟨⟨r, u, hv, hp, hb⟩, hF⟩, st⟩ | ⟨q, st₀, t, T', L, E, ce, h0, X', hL, e1, e2, ⟨u, hp, hb, hF⟩, hce, hcv, hcl, st⟩
  · cases hv
    obtain ⟨k1, k2, k3⟩ := vx_keep h0 e1 hS hA hf hL hF
    obtain ⟨t2, a1, b1⟩ := kk r u t T'.heap (locs ++ L) e1.symm (by rw [← e2]; exact X'.warmed.alike) hp hb k1 k2 k3 T' rfl X'
    exact ⟨t2, st t2 a1, b1⟩
  · obtain ⟨k1, k2, k3⟩ := vx_keep h0 e1 hS hAX hf hL hF
    obtain ⟨t2, a1, b1⟩ := kx E ce q u t T'.heap (locs ++ L) e1.symm (by rw [← e2]; exact X'.warmed.alike) hp hb k1 k2 k3 (by rw [e1]; exact hce) hcv hcl T' rfl X'
    exact ⟨t2, st.trans a1, b1⟩
theorem vx_calll {S SX : Type} {post : Int64 → S → Prop} {px : SX → Prop} {B : S → State → Prop} {BX : String → SX → State → Prop} {AX : Nat → Prop} (hr : vx_Run p l e R s m args below meth c H locs cells slots mc ms (F0 m pc ls st0) rest (va_Ql post B A1 a) (vx_X px BX AX) free) (hS : va_S A0 H0 H locs) (hA : ∀ q, q < H.size → A1 q → A0 q) (hf : ∀ q, free q → A0 q) (hAX : ∀ q, q < H.size → AX q → A0 q)
    (kx : ∀ (E : String) (ce : Cell) (q9 : Addr) (u : SX) (t : State) (H1 : Heap) (locs1 : List Loc), t.heap = H1 → s.vm.Alike t.vm → px u → BX E u t → H.size ≤ H1.size → (∀ q : Nat, q < H.size → ¬ AX q → H1[q]? = H[q]?) → va_S A0 H0 H1 locs1 → H1[q9]? = some ce → ce.vm = .none → s.vm.findClass E = some ce.cls → vx_W p l e R s m args below meth c H1 locs1 (cells + mc) (slots + ms) Q (F0 m pc ls rest) q9)
    (kk : ∀ (r : Int64) (u : S) (t : State) (H1 : Heap) (locs1 : List Loc), t.heap = H1 → s.vm.Alike t.vm → post r u → B u t → H.size ≤ H1.size → (∀ q : Nat, q < H.size → ¬ A1 q → H1[q]? = H[q]?) → va_S A0 H0 H1 locs1 → W p l e R s m args below meth c H1 locs1 (cells + mc) (slots + ms) Q (F0 m (pc + 3) ls (.long r :: rest))) : W p l e R s m args below meth c H locs cells slots Q (F0 m pc ls st0) := by
  intro T hT X
  rcases hr T hT X with ⟨v, st₀, t, T', L, h0, X', hL, e1, e2, ⟨⟨r, u, hv, hp, hb⟩, hF⟩, st⟩ | ⟨q, st₀, t, T', L, E, ce, h0, X', hL, e1, e2, ⟨u, hp, hb, hF⟩, hce, hcv, hcl, st⟩
  · cases hv
    obtain ⟨k1, k2, k3⟩ := vx_keep h0 e1 hS hA hf hL hF
    obtain ⟨t2, a1, b1⟩ := kk r u t T'.heap (locs ++ L) e1.symm (by rw [← e2]; exact X'.warmed.alike) hp hb k1 k2 k3 T' rfl X'
    exact ⟨t2, st t2 a1, b1⟩
  · obtain ⟨k1, k2, k3⟩ := vx_keep h0 e1 hS hAX hf hL hF
    obtain ⟨t2, a1, b1⟩ := kx E ce q u t T'.heap (locs ++ L) e1.symm (by rw [← e2]; exact X'.warmed.alike) hp hb k1 k2 k3 (by rw [e1]; exact hce) hcv hcl T' rfl X'
    exact ⟨t2, st.trans a1, b1⟩
theorem vx_callf {S SX : Type} {post : UInt32 → S → Prop} {px : SX → Prop} {B : S → State → Prop} {BX : String → SX → State → Prop} {AX : Nat → Prop} (hr : vx_Run p l e R s m args below meth c H locs cells slots mc ms (F0 m pc ls st0) rest (va_Qf post B A1 a) (vx_X px BX AX) free) (hS : va_S A0 H0 H locs) (hA : ∀ q, q < H.size → A1 q → A0 q) (hf : ∀ q, free q → A0 q) (hAX : ∀ q, q < H.size → AX q → A0 q)
    (kx : ∀ (E : String) (ce : Cell) (q9 : Addr) (u : SX) (t : State) (H1 : Heap) (locs1 : List Loc), t.heap = H1 → s.vm.Alike t.vm → px u → BX E u t → H.size ≤ H1.size → (∀ q : Nat, q < H.size → ¬ AX q → H1[q]? = H[q]?) → va_S A0 H0 H1 locs1 → H1[q9]? = some ce → ce.vm = .none → s.vm.findClass E = some ce.cls → vx_W p l e R s m args below meth c H1 locs1 (cells + mc) (slots + ms) Q (F0 m pc ls rest) q9)
    (kk : ∀ (r : UInt32) (u : S) (t : State) (H1 : Heap) (locs1 : List Loc), t.heap = H1 → s.vm.Alike t.vm → post r u → B u t → H.size ≤ H1.size → (∀ q : Nat, q < H.size → ¬ A1 q → H1[q]? = H[q]?) → va_S A0 H0 H1 locs1 → W p l e R s m args below meth c H1 locs1 (cells + mc) (slots + ms) Q (F0 m (pc + 3) ls (.float r :: rest))) : W p l e R s m args below meth c H locs cells slots Q (F0 m pc ls st0) := by
  intro T hT X
  rcases hr T hT X with ⟨v, st₀, t, T', L, h0, X', hL, e1, e2, ⟨⟨r, u, hv, hp, hb⟩, hF⟩, st⟩ | ⟨q, st₀, t, T', L, E, ce, h0, X', hL, e1, e2, ⟨u, hp, hb, hF⟩, hce, hcv, hcl, st⟩
  · cases hv
    obtain ⟨k1, k2, k3⟩ := vx_keep h0 e1 hS hA hf hL hF
    obtain ⟨t2, a1, b1⟩ := kk r u t T'.heap (locs ++ L) e1.symm (by rw [← e2]; exact X'.warmed.alike) hp hb k1 k2 k3 T' rfl X'
    exact ⟨t2, st t2 a1, b1⟩
  · obtain ⟨k1, k2, k3⟩ := vx_keep h0 e1 hS hAX hf hL hF
    obtain ⟨t2, a1, b1⟩ := kx E ce q u t T'.heap (locs ++ L) e1.symm (by rw [← e2]; exact X'.warmed.alike) hp hb k1 k2 k3 (by rw [e1]; exact hce) hcv hcl T' rfl X'
    exact ⟨t2, st.trans a1, b1⟩
theorem vx_calld {S SX : Type} {post : UInt64 → S → Prop} {px : SX → Prop} {B : S → State → Prop} {BX : String → SX → State → Prop} {AX : Nat → Prop} (hr : vx_Run p l e R s m args below meth c H locs cells slots mc ms (F0 m pc ls st0) rest (va_Qd post B A1 a) (vx_X px BX AX) free) (hS : va_S A0 H0 H locs) (hA : ∀ q, q < H.size → A1 q → A0 q) (hf : ∀ q, free q → A0 q) (hAX : ∀ q, q < H.size → AX q → A0 q)
    (kx : ∀ (E : String) (ce : Cell) (q9 : Addr) (u : SX) (t : State) (H1 : Heap) (locs1 : List Loc), t.heap = H1 → s.vm.Alike t.vm → px u → BX E u t → H.size ≤ H1.size → (∀ q : Nat, q < H.size → ¬ AX q → H1[q]? = H[q]?) → va_S A0 H0 H1 locs1 → H1[q9]? = some ce → ce.vm = .none → s.vm.findClass E = some ce.cls → vx_W p l e R s m args below meth c H1 locs1 (cells + mc) (slots + ms) Q (F0 m pc ls rest) q9)
    (kk : ∀ (r : UInt64) (u : S) (t : State) (H1 : Heap) (locs1 : List Loc), t.heap = H1 → s.vm.Alike t.vm → post r u → B u t → H.size ≤ H1.size → (∀ q : Nat, q < H.size → ¬ A1 q → H1[q]? = H[q]?) → va_S A0 H0 H1 locs1 → W p l e R s m args below meth c H1 locs1 (cells + mc) (slots + ms) Q (F0 m (pc + 3) ls (.double r :: rest))) : W p l e R s m args below meth c H locs cells slots Q (F0 m pc ls st0) := by
  intro T hT X
  rcases hr T hT X with ⟨v, st₀, t, T', L, h0, X', hL, e1, e2, ⟨⟨r, u, hv, hp, hb⟩, hF⟩, st⟩ | ⟨q, st₀, t, T', L, E, ce, h0, X', hL, e1, e2, ⟨u, hp, hb, hF⟩, hce, hcv, hcl, st⟩
  · cases hv
    obtain ⟨k1, k2, k3⟩ := vx_keep h0 e1 hS hA hf hL hF
    obtain ⟨t2, a1, b1⟩ := kk r u t T'.heap (locs ++ L) e1.symm (by rw [← e2]; exact X'.warmed.alike) hp hb k1 k2 k3 T' rfl X'
    exact ⟨t2, st t2 a1, b1⟩
  · obtain ⟨k1, k2, k3⟩ := vx_keep h0 e1 hS hAX hf hL hF
    obtain ⟨t2, a1, b1⟩ := kx E ce q u t T'.heap (locs ++ L) e1.symm (by rw [← e2]; exact X'.warmed.alike) hp hb k1 k2 k3 (by rw [e1]; exact hce) hcv hcl T' rfl X'
    exact ⟨t2, st.trans a1, b1⟩
theorem vx_callv {S SX : Type} {post : S → Prop} {px : SX → Prop} {B : S → State → Prop} {BX : String → SX → State → Prop} {AX : Nat → Prop} (hr : vx_Run p l e R s m args below meth c H locs cells slots mc ms (F0 m pc ls st0) rest (va_Qv post B A1 a) (vx_X px BX AX) free) (hS : va_S A0 H0 H locs) (hA : ∀ q, q < H.size → A1 q → A0 q) (hf : ∀ q, free q → A0 q) (hAX : ∀ q, q < H.size → AX q → A0 q)
    (kx : ∀ (E : String) (ce : Cell) (q9 : Addr) (u : SX) (t : State) (H1 : Heap) (locs1 : List Loc), t.heap = H1 → s.vm.Alike t.vm → px u → BX E u t → H.size ≤ H1.size → (∀ q : Nat, q < H.size → ¬ AX q → H1[q]? = H[q]?) → va_S A0 H0 H1 locs1 → H1[q9]? = some ce → ce.vm = .none → s.vm.findClass E = some ce.cls → vx_W p l e R s m args below meth c H1 locs1 (cells + mc) (slots + ms) Q (F0 m pc ls rest) q9)
    (kk : ∀ (u : S) (t : State) (H1 : Heap) (locs1 : List Loc), t.heap = H1 → s.vm.Alike t.vm → post u → B u t → H.size ≤ H1.size → (∀ q : Nat, q < H.size → ¬ A1 q → H1[q]? = H[q]?) → va_S A0 H0 H1 locs1 → W p l e R s m args below meth c H1 locs1 (cells + mc) (slots + ms) Q (F0 m (pc + 3) ls (rest))) : W p l e R s m args below meth c H locs cells slots Q (F0 m pc ls st0) := by
  intro T hT X
  rcases hr T hT X with ⟨v, st₀, t, T', L, h0, X', hL, e1, e2, ⟨⟨u, hv, hp, hb⟩, hF⟩, st⟩ | ⟨q, st₀, t, T', L, E, ce, h0, X', hL, e1, e2, ⟨u, hp, hb, hF⟩, hce, hcv, hcl, st⟩
  · cases hv
    obtain ⟨k1, k2, k3⟩ := vx_keep h0 e1 hS hA hf hL hF
    obtain ⟨t2, a1, b1⟩ := kk u t T'.heap (locs ++ L) e1.symm (by rw [← e2]; exact X'.warmed.alike) hp hb k1 k2 k3 T' rfl X'
    exact ⟨t2, st t2 a1, b1⟩
  · obtain ⟨k1, k2, k3⟩ := vx_keep h0 e1 hS hAX hf hL hF
    obtain ⟨t2, a1, b1⟩ := kx E ce q u t T'.heap (locs ++ L) e1.symm (by rw [← e2]; exact X'.warmed.alike) hp hb k1 k2 k3 (by rw [e1]; exact hce) hcv hcl T' rfl X'
    exact ⟨t2, st.trans a1, b1⟩
/-- caught by the row x of this method's table; the rows ahead don't take it -/
theorem vx_catch {own name : String} {E : String} {ce : Cell} {q : Addr} (hown : s.vm.findClass own = some m.cls) (pre : List ExceptionTableEntry) (x : ExceptionTableEntry) (suf : List ExceptionTableEntry) (hsplit : c.exceptionTable.toList = pre ++ x :: suf)
    (hpass : ∀ z ∈ pre, covers z pc = false ∨ (z.catchType ≠ 0 ∧ ∃ nm : String, (Cond.classLink own z.catchType nm).before args s = true ∧ va_Nc E nm s)) (hx : covers x pc = true) (h0 : x.catchType ≠ 0)
    (hlink : (Cond.classLink own x.catchType name).before args s = true) (hcast : (Cond.castable E name).before args s = true) (hcell : H[q]? = some ce) (hv : ce.vm = .none) (hcl : s.vm.findClass E = some ce.cls)
    (kk : W p l e R s m args below meth c H locs cells slots Q (F0 m x.handlerPc ls [.ref q])) : vx_W p l e R s m args below meth c H locs cells slots Q (F0 m pc ls rest) q := by
  intro T hT X
  have hpl : e.platform.magicAccessors = ({} : Platform).magicAccessors := by rw [X.admits.platform]
  obtain ⟨c3, c4, hc3, hc4, hasg⟩ := Cond.castable_spec hcast
  cases Option.some.inj (hc3.symm.trans hcl)
  obtain ⟨c5, hc5, hcl5⟩ := Cond.classLink_spec hown hlink e.platform hpl
  cases Option.some.inj (hc4.symm.trans hc5)
  obtain ⟨vm', X', st⟩ := X.thenCaughtThrough q (g := F0 m pc ls rest) rfl (Steps.refl _) (by rw [hT]; exact hcell) (by rw [hv]; rfl) (by obtain ⟨k9, h9, -⟩ := Vm.findClass_spec hcl; exact ⟨k9, h9⟩) pre x suf hsplit
    (fun z hz => by
      rcases hpass z hz with h | ⟨hz0, nm, hl1, hn1⟩
      · exact Or.inl h
      · obtain ⟨c6, hc6, hcl6⟩ := Cond.classLink_spec hown hl1 e.platform hpl
        obtain ⟨a8, b8, h1, h2, h3⟩ := hn1
        cases Option.some.inj (h1.symm.trans hcl)
        cases Option.some.inj (h2.symm.trans hc6)
        exact Or.inr ⟨hz0, _, hcl6, h3⟩) hx (Or.inr ⟨h0, c4, hcl5, hasg⟩)
  obtain ⟨t, a1, b1⟩ := kk (T.setVm vm') hT X'
  exact ⟨t, st.trans a1, b1⟩
end Rows
section Ends
variable {p : Program} {l : Launch} {e : Env} {R : Room} {s : State} {m : MethodId} {args : Array Value} {below : List Frame} {meth : Method} {c : Code} {H : Heap} {locs : List Loc} {cells slots : Nat} {Q : State → Prop}
variable {mc ms : Nat} {free : Addr → Prop} {A0 A1 : Nat → Prop} {H0 : Heap} {a : Array Value} {ls : Array Slot} {st0 rest : List Value}
variable {Qc : Array Value → State → Outcome → State → Prop} {XC : String → State → State → Prop}
/-- what a body that may throw owes at its end -/
def vx_MQ (below : List Frame) (Qc : Array Value → State → Outcome → State → Prop) (XC : String → State → State → Prop) (a : Array Value) (s : State) (mc ms : Nat) (free : Addr → Prop) : State → Prop := fun t =>
  ∃ o, t.status = .running ∧ Ended t below o ∧ vx_Q Qc XC mc ms free a s o t
theorem vx_ret {g : JFrame} {mc ms : Nat} (k : W p l e R s m args below meth c H locs cells slots (MQ below Qc args s mc ms free) g) : W p l e R s m args below meth c H locs cells slots (vx_MQ below Qc XC args s mc ms free) g := by
  intro T hT X
  obtain ⟨t, a1, o, b1, b2, b3, b4⟩ := k T hT X
  exact ⟨t, a1, o, b1, b2, Or.inl ⟨b3, b4⟩⟩
/-- not caught here: it goes on to the caller -/
theorem vx_widen {g : JFrame} {q : Addr} {k n : Nat} (h1 : cells ≤ k) (h2 : slots ≤ n) (kk : vx_W p l e R s m args below meth c H locs k n Q g q) : vx_W p l e R s m args below meth c H locs cells slots Q g q := fun T hT X => kk T hT (stand_widen X h1 h2)
theorem vx_out {pc : Nat} {E : String} {ce : Cell} {q : Addr} {mc ms : Nat} (hout : ∀ x ∈ c.exceptionTable.toList, covers x pc = false) (hlocks : meth.locks = false) (hcell : H[q]? = some ce) (hv : ce.vm = .none) (hcl : s.vm.findClass E = some ce.cls)
    (hx : ∀ t : State, t.heap = H → s.vm.Alike t.vm → XC E s t) (hf : ∀ z ∈ locs, free z.base) (hc : cells ≤ mc) (hs : slots ≤ ms) :
    vx_W p l e R s m args below meth c H locs cells slots (vx_MQ below Qc XC args s mc ms free) (F0 m pc ls rest) q := by
  intro T hT X
  obtain ⟨st1, hrun, hend, hW, hsm⟩ := X.leaveThrown q (g := F0 m pc ls rest) rfl rfl rfl hout hlocks
  have hcell9 : (T.setFrames (.throwing q :: below)).heap[q]? = some ce := by
    show T.heap[q]? = some ce
    rw [hT]; exact hcell
  exact ⟨_, st1, .threw q, hrun, hend, Or.inr ⟨q, rfl, E, ce, locs, hx _ hT hW.alike, hcell9, hv, hcl, hW, hsm.mono hc hs, hf⟩⟩
theorem vx_frame {U : State} {k n : Nat} (h : s.sameButNew ({ U with vm := s.vm } : State) locs k n) : s.heap.size ≤ U.heap.size ∧ ∀ q : Nat, q < s.heap.size → (∀ z ∈ locs, z.base ≠ q) → U.heap[q]? = s.heap[q]? := by
  obtain ⟨-, h2, -, -, -, h6⟩ := h
  refine ⟨h2, fun q hq hz => ?_⟩
  obtain ⟨c9, e1, e2, e3, e4⟩ := h6 q _ (Array.getElem?_eq_getElem hq)
  have hs : c9.slots = (s.heap[q]).slots := Array.ext_getElem? fun i => e4 i fun hm => hz _ hm rfl
  have h9 : c9 = s.heap[q] := by
    rw [hs] at e2
    exact e2
  have e5 : U.heap[q]? = some c9 := e1
  rw [e5, h9, Array.getElem?_eq_getElem hq]
/-- the words of a throw but the four that speak of the heap -/
def vx_no (w : Cond) : Bool := decide (w ≠ .isRef (.static Bundle.tN "UNASSIGNED_STACK" Bundle.steD)) && decide (w ≠ .isRef (.static Bundle.tN "SUPPRESSED_SENTINEL" Bundle.listD)) && decide (w ≠ .laysStatic Bundle.tN "UNASSIGNED_STACK" Bundle.steD) && decide (w ≠ .laysStatic Bundle.tN "SUPPRESSED_SENTINEL" Bundle.listD)
def vx_at0 (own : String) (ic : Nat) (X : String) (names : List String) : List Cond := (Bundle.ownAtoms0 own ic X names).filter vx_no
def vx_atS (own : String) (ic : Nat) (X : String) (names : List String) : List Cond := (Bundle.ownAtoms own ic X names).filter vx_no
/-- a word that the tables alone decide, or a good one -/
def vx_ot (w : Cond) : Bool := w.onTables || goodWord w
theorem vx_ot_at {args a' : Array Value} {s U : State} {w : Cond} (hW : s.WarmedH U.vm) (hvm : s.vm = U.vm) (hg : vx_ot w = true) (h : w.before args s = true) : w.before a' U = true := by
  simp only [vx_ot, Bool.or_eq_true] at hg
  rcases hg with hg | hg
  · exact va_tabs hg hvm h
  · exact word_at hW (good_of_word hg) h
/-- a list's words: the good ones out of the method's own list, the others by premises of their own -/
theorem vx_hat {args : Array Value} {s : State} {L B : List Cond} (h1 : ∀ w ∈ L.filter goodWord, w.before args s = true) (h2 : ∀ w ∈ L.filter (fun w => !goodWord w), w ∈ B) (h3 : ∀ w ∈ B, w.before args s = true) : ∀ w ∈ L, w.before args s = true := by
  intro w hw
  by_cases g : goodWord w = true
  · exact h1 w (List.mem_filter.mpr ⟨hw, g⟩)
  · refine h3 w (h2 w (List.mem_filter.mpr ⟨hw, ?_⟩))
    show (!goodWord w) = true
    cases hgw : goodWord w
    · rfl
    · exact absurd hgw g
theorem vx_c {args : Array Value} {s : State} {w : Cond} {B : List Cond} (h : w.before args s = true) (t : ∀ w ∈ B, w.before args s = true) : ∀ w' ∈ w :: B, w'.before args s = true := fun w' h' => (List.mem_cons.mp h').elim (fun e => by rw [e]; exact h) (t w')
theorem vx_n {args : Array Value} {s : State} : ∀ w ∈ ([] : List Cond), w.before args s = true := fun _ h => nomatch h
theorem vx_own {args : Array Value} {s : State} {L : List Cond} (h1 : ∀ w ∈ L.filter vx_no, w.before args s = true)
    (hU : (Cond.isRef (.static Bundle.tN "UNASSIGNED_STACK" Bundle.steD)).before args s = true) (hN : (Cond.isRef (.static Bundle.tN "SUPPRESSED_SENTINEL" Bundle.listD)).before args s = true)
    (lU : (Cond.laysStatic Bundle.tN "UNASSIGNED_STACK" Bundle.steD).before args s = true) (lN : (Cond.laysStatic Bundle.tN "SUPPRESSED_SENTINEL" Bundle.listD).before args s = true) : ∀ w ∈ L, w.before args s = true := by
  intro w hw
  by_cases e1 : w = .isRef (.static Bundle.tN "UNASSIGNED_STACK" Bundle.steD)
  · rw [e1]; exact hU
  · by_cases e2 : w = .isRef (.static Bundle.tN "SUPPRESSED_SENTINEL" Bundle.listD)
    · rw [e2]; exact hN
    · by_cases e3 : w = .laysStatic Bundle.tN "UNASSIGNED_STACK" Bundle.steD
      · rw [e3]; exact lU
      · by_cases e4 : w = .laysStatic Bundle.tN "SUPPRESSED_SENTINEL" Bundle.listD
        · rw [e4]; exact lN
        · exact h1 w (List.mem_filter.mpr ⟨hw, by unfold vx_no; rw [decide_eq_true e1, decide_eq_true e2, decide_eq_true e3, decide_eq_true e4]; rfl⟩)
/-- where a static field lies, its class's statics cell in H -/
def vx_L (C n d : String) (A : Nat → Prop) (U : State) (H : Heap) : Prop := ∃ (c : ClassId) (k : Class) (i : Nat) (f : Field) (a : Nat) (cell : Cell), U.vm.findClass C = some c ∧ U.fieldFound? C n d = some (c, k, i, f) ∧ f.isStatic = true ∧ k.statics = some a ∧ H[a]? = some cell ∧ cell.vm.isStatics = true ∧ cell.cls = c ∧ f.slot < cell.slots.size ∧ k.staticTypes[f.slot]? = some f.type ∧ ¬ A a
theorem vx_L.moved {C n d : String} {A : Nat → Prop} {u U : State} {H : Heap} (hvm : u.vm.Alike U.vm) (h : vx_L C n d A u H) : vx_L C n d A U H := by
  obtain ⟨c, k, i, f, a, cell, h1, h2, h3, h4, h5, h6, h7, h8, h9, h10⟩ := h
  obtain ⟨k', hi', he⟩ := State.fieldFound?_setVm hvm h2
  exact ⟨c, k', i, f, a, cell, by rw [hvm.findClass]; exact h1, hi', h3, by rw [he]; exact h4, h5, h6, h7, h8, by rw [he]; exact h9, h10⟩
theorem vx_L.kept {C n d : String} {A : Nat → Prop} {U : State} {H H1 : Heap} (h : vx_L C n d A U H) (hq : ∀ a : Nat, a < H.size → ¬ A a → H1[a]? = H[a]?) : vx_L C n d A U H1 := by
  obtain ⟨c, k, i, f, a, cell, h1, h2, h3, h4, h5, h6, h7, h8, h9, h10⟩ := h
  exact ⟨c, k, i, f, a, cell, h1, h2, h3, h4, by rw [hq a (Array.getElem?_eq_some_iff.mp h5).1 h10]; exact h5, h6, h7, h8, h9, h10⟩
theorem vx_L.narrow {C n d : String} {A B : Nat → Prop} {U : State} {H : Heap} (h : vx_L C n d A U H) (hAB : ∀ q, B q → A q) : vx_L C n d B U H := by
  obtain ⟨c, k, i, f, a, cell, h1, h2, h3, h4, h5, h6, h7, h8, h9, h10⟩ := h
  exact ⟨c, k, i, f, a, cell, h1, h2, h3, h4, h5, h6, h7, h8, h9, fun z => h10 (hAB _ z)⟩
theorem vx_L.word {C n d : String} {A : Nat → Prop} {s : State} {args : Array Value} (h : vx_L C n d A s s.heap) : (Cond.laysStatic C n d).before args s = true := by
  obtain ⟨c, k, i, f, a, cell, h1, h2, h3, h4, h5, h6, h7, h8, h9, -⟩ := h
  show (Cond.laysStatic C n d).holds args s none s [] = true
  exact Cond.laysStatic_of h1 h2 h3 h4 h5 h6 h7 h8 h9
/-- .. and what it holds: null or some reference -/
def vx_Zq (C n d : String) (A : Nat → Prop) (U : State) (H : Heap) : Prop := va_Zq C n d A U H ∧ vx_L C n d A U H
theorem vx_Zq.moved {C n d : String} {A : Nat → Prop} {u U : State} {H : Heap} (hvm : u.vm.Alike U.vm) (h : vx_Zq C n d A u H) : vx_Zq C n d A U H := ⟨va_Zq.moved hvm h.1, vx_L.moved hvm h.2⟩
theorem vx_Zq.kept {C n d : String} {A : Nat → Prop} {U : State} {H H1 : Heap} (h : vx_Zq C n d A U H) (hq : ∀ a : Nat, a < H.size → ¬ A a → H1[a]? = H[a]?) : vx_Zq C n d A U H1 := ⟨va_Zq.kept h.1 hq, vx_L.kept h.2 hq⟩
theorem vx_Zq.narrow {C n d : String} {A B : Nat → Prop} {U : State} {H : Heap} (h : vx_Zq C n d A U H) (hAB : ∀ q, B q → A q) : vx_Zq C n d B U H := ⟨va_Zq.narrow h.1 hAB, vx_L.narrow h.2 hAB⟩
theorem vx_Zqof {args : Array Value} {s : State} {C n d : String} {A : Nat → Prop} (hl : (Cond.laysStatic C n d).before args s = true) (hini : (Cond.initialized C).before args s = true) (h : (Cond.isRef (.static C n d)).before args s = true) (hA : ∀ a : Nat, a < s.heap.size → ¬ A a) : vx_Zq C n d A s s.heap := by
  refine ⟨va_Zqof hl hini h hA, ?_⟩
  obtain ⟨c, k, i, f, a, cell, h1, h2, h3, h4, h5, h6, h7, h8, h9⟩ := Cond.laysStatic_spec hl
  exact ⟨c, k, i, f, a, cell, h1, h2, h3, h4, h5, h6, h7, h8, h9, hA a (Array.getElem?_eq_some_iff.mp h5).1⟩
theorem vx_isRef {C n d : String} {v : Value} {A : Nat → Prop} {s : State} {args : Array Value} (h : va_Z C n d v A s s.heap) (hv : v.isRef = true) : (Cond.isRef (.static C n d)).before args s = true := by
  obtain ⟨cf, kf, fi, f, a, cell, h1, h2, h3, h4, h5, h6, h7, -⟩ := h
  have he : (Term.static C n d).eval args s none [] s = some v := by
    simp [Term.eval, State.fieldNamed?, h1, h2, h4, h5, h6, h7]
  simp only [Cond.before, Cond.holds, Cond.value, he]
  cases v <;> simp_all [Value.isRef]
theorem vx_isRefq {C n d : String} {A : Nat → Prop} {s : State} {args : Array Value} (h : va_Zq C n d A s s.heap) : (Cond.isRef (.static C n d)).before args s = true := by
  rcases h with h | ⟨t, h⟩
  · exact vx_isRef h rfl
  · exact vx_isRef h rfl
/-- the same frame, seen from here: as if the method were called anew in this heap -/
theorem vx_rebase {T : State} (X : Stand p l e R s m args below meth c T locs cells slots) {R' : Room} (hf : R'.frames ≤ R.frames) (hl : R'.locals ≤ R.locals) (hc : cells + R'.cells ≤ R.cells) (hs : slots + R'.slots ≤ R.slots) :
    Stand p l e R' ((T.setVm s.vm).setFrames (.invoking m args :: below)) m args below meth c T [] 0 0 := by
  have htop : (T.setVm s.vm).topJava?.isSome := X.here.top
  have hF : ((T.setVm s.vm).setFrames (.invoking m args :: below)).frames = .invoking m args :: below := State.frames_setFrames _ (State.cur_lt_of_top htop)
  obtain ⟨g₀, hg0⟩ := Option.isSome_iff_exists.mp htop
  obtain ⟨r, hr⟩ := State.topJava?_eq_some.mp hg0
  have hl9 : e.platform.stackLimits (T.setVm s.vm).me = e.platform.stackLimits s.me := X.limits
  have hb9 : (T.setVm s.vm).me.stackBytes = s.me.stackBytes := X.bytes
  refine ⟨X.admits, X.cas, X.clock, hF, ?_, X.hears, X.method, X.code, X.here, X.tail, X.warmed, ?_, ?_, ?_⟩
  · have h := X.room
    have hU : ((T.setVm s.vm).setFrames (.invoking m args :: below)).localsInUse = s.localsInUse := by
      rw [State.localsInUse_invoking hF (meth := meth) (c := c) X.method X.code, State.localsInUse_invoking X.frames X.method X.code]
    simp only [State.hasRoom, Bool.and_eq_true, decide_eq_true_eq] at h ⊢
    obtain ⟨⟨⟨⟨h1, h2, h3, h4, h5, h6⟩, h7⟩, h8⟩, h9⟩ := h
    rw [X.frames, List.length_cons] at h2 h3
    have q1 := X.heapSize
    have q2 := X.used
    simp only [hF, hU, List.length_cons, State.stackLimits_setFrames, State.stackBytes_setFrames, hl9, hb9]
    refine ⟨⟨⟨⟨by omega, by omega, by omega, by omega, by omega, h6⟩, ?_⟩, ?_⟩, X.book⟩
    · show T.heap.size + R'.cells ≤ e.platform.maxCells
      omega
    · show T.slotsUsed + R'.slots ≤ e.platform.maxSlots
      omega
  · rw [State.stackLimits_setFrames]; rfl
  · rw [State.stackBytes_setFrames]; rfl
  · refine ⟨?_, Nat.le_refl _, Nat.le_refl _, ?_, ?_, fun a c9 h9 => ⟨c9, h9, rfl, rfl, fun _ _ => rfl⟩⟩
    · obtain ⟨t, ht, -⟩ := State.frames_cons hr
      show T.setVm s.vm = { ((T.setVm s.vm).setFrames (.invoking m args :: below)).setFrames (T.setVm s.vm).frames with heap := T.heap, slotsUsed := T.slotsUsed }
      rw [State.setFrames_setFrames, State.setFrames_self ht]
      rfl
    · show T.slotsUsed = T.slotsUsed + ((T.heap.toList.drop T.heap.size).map (·.slots.size)).sum
      rw [List.drop_eq_nil_of_le (Nat.le_of_eq Array.length_toList)]
      rfl
    · show ((T.heap.toList.drop T.heap.size).map (·.slots.size)).sum ≤ 0
      rw [List.drop_eq_nil_of_le (Nat.le_of_eq Array.length_toList)]
      exact Nat.le_refl _
/-- 'throw new E()': new; dup; invokespecial; athrow -/
theorem vx_throw0 {cc : ByteArray} {pc : Nat} (hexec : p.tables.exec = Jvm.exec) (hb : c.code = cc) (hl : l.stackTraces = false) {own cls : String} {names : List String} {ik ic mc ms : Nat} {A : Nat → Prop}
    (hown : s.vm.findClass own = some m.cls) (hcls : Bundle.fit cls = true) (hnames : ∀ n ∈ names, Bundle.fit n = true)
    (hk : (Cond.classLink own ik cls).before args s = true) (hini : (Cond.initialized cls).before args s = true) (hat : ∀ w ∈ vx_at0 own ic cls names, w.before args s = true)
    (hgood : ∀ w ∈ Cond.classLink own ik cls :: Cond.initialized cls :: vx_at0 own ic cls names, vx_ot w = true)
    (hU : vx_Zq Bundle.tN "UNASSIGNED_STACK" Bundle.steD A s s.heap) (hN : vx_Zq Bundle.tN "SUPPRESSED_SENTINEL" Bundle.listD A s s.heap) (hS : va_S A s.heap H locs) (hsize : ls.size = c.maxLocals)
    (d0 : decode cc pc = .ok (.new ik, 3)) (d3 : decode cc (pc + 3) = .ok (.dup, 1)) (d4 : decode cc (pc + 4) = .ok (.invokespecial ic, 3)) (d7 : decode cc (pc + 7) = .ok (.athrow, 1))
    (hout : ∀ x ∈ c.exceptionTable.toList, covers x (pc + 7) = false)
    (hRframes : names.length + 3 < R.frames) (hRlocals : (rest.map fun v => v.category).sum + (13 * (names.length + 1) + 42) ≤ R.locals) (hRcells : cells + 1 ≤ R.cells) (hRslots : slots + 6 ≤ R.slots) (hlocks : meth.locks = false)
    (hx : ∀ t : State, s.vm.Alike t.vm → H.size ≤ t.heap.size → (∀ q : Nat, q < H.size → t.heap[q]? = H[q]?) → XC cls s t)
    (hf : ∀ z ∈ locs, free z.base) (hc : cells + 1 ≤ mc) (hs : slots + 6 ≤ ms) :
    W p l e R s m args below meth c H locs cells slots (vx_MQ below Qc XC args s mc ms free) (F0 m pc ls rest) := by
  intro T hT X
  have htr : e.platform.stackTraces = false := (show e.platform.stackTraces = l.stackTraces by rw [X.admits.platform]).trans hl
  have Y := vx_rebase X (R' := { frames := R.frames, locals := R.locals, cells := 1, slots := 6 }) (Nat.le_refl _) (Nat.le_refl _) hRcells hRslots
  obtain ⟨s', hA⟩ : ∃ z, z = (T.setVm s.vm).setFrames (.invoking m args :: below) := ⟨_, rfl⟩
  rw [← hA] at Y
  have hvm : s'.vm = s.vm := by rw [hA]; rfl
  have hhp : s'.heap = H := by rw [hA]; exact hT
  have hW0 : s.WarmedH s'.vm := by rw [hvm]; exact State.WarmedH.refl s
  have hat' : ∀ w ∈ vx_at0 own ic cls names, w.before args s' = true := fun w hw => vx_ot_at hW0 hvm.symm (hgood w (List.mem_cons_of_mem _ (List.mem_cons_of_mem _ hw))) (hat w hw)
  have hk' : (Cond.classLink own ik cls).before args s' = true := vx_ot_at hW0 hvm.symm (hgood _ List.mem_cons_self) hk
  have hini' : (Cond.initialized cls).before args s' = true := vx_ot_at hW0 hvm.symm (hgood _ (List.mem_cons_of_mem _ List.mem_cons_self)) hini
  have hU' : vx_Zq Bundle.tN "UNASSIGNED_STACK" Bundle.steD A s' s'.heap := by rw [hhp]; exact vx_Zq.moved hW0.alike (hU.kept hS.2.1)
  have hN' : vx_Zq Bundle.tN "SUPPRESSED_SENTINEL" Bundle.listD A s' s'.heap := by rw [hhp]; exact vx_Zq.moved hW0.alike (hN.kept hS.2.1)
  have h : ∀ w ∈ Bundle.ownAtoms0 own ic cls names, w.before args s' = true := vx_own hat' (vx_isRefq hU'.1) (vx_isRefq hN'.1) hU'.2.word hN'.2.word
  have hown' : s'.vm.findClass own = some m.cls := by rw [hvm]; exact hown
  have hins : (Cond.instantiable cls 6).before args s' = true := h _ (by simp [Bundle.ownAtoms0])
  obtain ⟨vm₁, cX, kX, hfX, hkX, -, -, X₁, st1⟩ := Y.newCold hexec (own := own) (C := cls) (index := ik) (n := 6) hown' hk' hins hini'
    (g := F0 m pc ls rest) rfl (by rw [hb]; exact d0) (Nat.le_refl _) (Nat.le_refl _)
  generalize hT1 : (T.setVm vm₁).pushCell { cls := cX, slots := kX.instanceTypes.map defaultValue, vm := .none } = T1 at X₁ st1
  have hcat : (Value.ref T.heap.size).category = 1 := rfl
  have hcellA : T1.heap[T.heap.size]? = some (freshCell cX kX) := by rw [← hT1]; exact State.heap_pushCell_size _ _
  have d3' : decode c.code (pc + 3) = .ok (.dup, 1) := by rw [hb]; exact d3
  obtain ⟨U, hsteps, hrun, hend, hW, hsame, ce, hce, hO⟩ := X₁.ctorThrow0 hexec htr (own := own) (cls := cls) (names := names) (ic := ic) hown' hcls hnames h (fun x hx => nomatch hx) hfX hkX hcellA (by rw [hhp, hT]; exact Nat.le_refl _)
    (g := { method := m, pc := pc + 4, locals := ls, stack := .ref T.heap.size :: .ref T.heap.size :: rest, locked := none }) rfl hsize rfl rfl (rest := rest) rfl
    (by rw [hb]; exact d4) (by rw [hb]; exact d7) hout hRframes (by simp only [List.map_cons, List.sum_cons, hcat]; omega) hlocks
  obtain ⟨f1, f2⟩ := vx_frame hsame
  rw [hhp] at f1 f2
  have hWs : s.WarmedH U.vm := State.WarmedH.trans hW0 hW
  have hcl : s.vm.findClass cls = some ce.cls := by
    have h9 := hO.cls
    rw [hvm] at h9
    exact h9
  have hall : s.sameButNew ({ U with vm := s.vm } : State) locs mc ms := by
    subst hA
    obtain ⟨e1, e2⟩ := hsame
    rw [State.setFrames_setFrames] at e1
    have h2 : (T.setVm s.vm).sameButNew ({ U with vm := s.vm } : State) [] (0 + 1) (0 + 6) := ⟨e1, e2⟩
    have h3 := X.same.trans h2
    rw [List.append_nil] at h3
    exact h3.mono hc hs
  refine ⟨U, ?_, .threw T.heap.size, hrun, hend, Or.inr ⟨T.heap.size, rfl, cls, ce, locs, hx U hWs.alike f1 (fun q hq => f2 q hq (fun z hz => nomatch hz)), hce, hO.vm, hcl, hWs, hall, hf⟩⟩
  refine st1 _ ?_
  show Steps p.tables e below (T1.setTop { method := m, pc := pc + 3, locals := ls, stack := .ref T.heap.size :: rest, locked := none }) _
  jvm_step X₁.here [X₁.here.top, hexec, d3', Value.category]
  exact hsteps
/-- 'throw new E("text")': new; dup; ldc; invokespecial; athrow -/
theorem vx_throwS {cc : ByteArray} {pc : Nat} (hexec : p.tables.exec = Jvm.exec) (hb : c.code = cc) (hl : l.stackTraces = false) {own cls text : String} {names : List String} {ik is ic mc ms sa : Nat} {A : Nat → Prop}
    (hown : s.vm.findClass own = some m.cls) (hcls : Bundle.fit cls = true) (hnames : ∀ n ∈ names, Bundle.fit n = true)
    (hk : (Cond.classLink own ik cls).before args s = true) (hini : (Cond.initialized cls).before args s = true) (hstr : vk_R own is text sa s) (hat : ∀ w ∈ vx_atS own ic cls names, w.before args s = true)
    (hgood : ∀ w ∈ Cond.classLink own ik cls :: Cond.initialized cls :: vx_atS own ic cls names, vx_ot w = true)
    (hU : vx_Zq Bundle.tN "UNASSIGNED_STACK" Bundle.steD A s s.heap) (hN : vx_Zq Bundle.tN "SUPPRESSED_SENTINEL" Bundle.listD A s s.heap) (hS : va_S A s.heap H locs) (hsize : ls.size = c.maxLocals)
    (d0 : decode cc pc = .ok (.new ik, 3)) (d3 : decode cc (pc + 3) = .ok (.dup, 1)) (d4 : decode cc (pc + 4) = .ok (.ldc is, 2)) (d6 : decode cc (pc + 6) = .ok (.invokespecial ic, 3)) (d9 : decode cc (pc + 9) = .ok (.athrow, 1))
    (hout : ∀ x ∈ c.exceptionTable.toList, covers x (pc + 9) = false)
    (hRframes : names.length + 3 < R.frames) (hRlocals : (rest.map fun v => v.category).sum + (13 * (names.length + 1) + 43) ≤ R.locals) (hRcells : cells + 1 ≤ R.cells) (hRslots : slots + 6 ≤ R.slots) (hlocks : meth.locks = false)
    (hx : ∀ t : State, s.vm.Alike t.vm → H.size ≤ t.heap.size → (∀ q : Nat, q < H.size → t.heap[q]? = H[q]?) → XC cls s t)
    (hf : ∀ z ∈ locs, free z.base) (hc : cells + 1 ≤ mc) (hs : slots + 6 ≤ ms) :
    W p l e R s m args below meth c H locs cells slots (vx_MQ below Qc XC args s mc ms free) (F0 m pc ls rest) := by
  intro T hT X
  have htr : e.platform.stackTraces = false := (show e.platform.stackTraces = l.stackTraces by rw [X.admits.platform]).trans hl
  have Y := vx_rebase X (R' := { frames := R.frames, locals := R.locals, cells := 1, slots := 6 }) (Nat.le_refl _) (Nat.le_refl _) hRcells hRslots
  obtain ⟨s', hA⟩ : ∃ z, z = (T.setVm s.vm).setFrames (.invoking m args :: below) := ⟨_, rfl⟩
  rw [← hA] at Y
  have hvm : s'.vm = s.vm := by rw [hA]; rfl
  have hhp : s'.heap = H := by rw [hA]; exact hT
  have hW0 : s.WarmedH s'.vm := by rw [hvm]; exact State.WarmedH.refl s
  have hat' : ∀ w ∈ vx_atS own ic cls names, w.before args s' = true := fun w hw => vx_ot_at hW0 hvm.symm (hgood w (List.mem_cons_of_mem _ (List.mem_cons_of_mem _ hw))) (hat w hw)
  have hk' : (Cond.classLink own ik cls).before args s' = true := vx_ot_at hW0 hvm.symm (hgood _ List.mem_cons_self) hk
  have hini' : (Cond.initialized cls).before args s' = true := vx_ot_at hW0 hvm.symm (hgood _ (List.mem_cons_of_mem _ List.mem_cons_self)) hini
  have hU' : vx_Zq Bundle.tN "UNASSIGNED_STACK" Bundle.steD A s' s'.heap := by rw [hhp]; exact vx_Zq.moved hW0.alike (hU.kept hS.2.1)
  have hN' : vx_Zq Bundle.tN "SUPPRESSED_SENTINEL" Bundle.listD A s' s'.heap := by rw [hhp]; exact vx_Zq.moved hW0.alike (hN.kept hS.2.1)
  have h : ∀ w ∈ Bundle.ownAtoms own ic cls names, w.before args s' = true := vx_own hat' (vx_isRefq hU'.1) (vx_isRefq hN'.1) hU'.2.word hN'.2.word
  have hown' : s'.vm.findClass own = some m.cls := by rw [hvm]; exact hown
  have hins : (Cond.instantiable cls 6).before args s' = true := h _ (by simp [Bundle.ownAtoms])
  obtain ⟨vm₁, cX, kX, hfX, hkX, -, -, X₁, st1⟩ := Y.newCold hexec (own := own) (C := cls) (index := ik) (n := 6) hown' hk' hins hini'
    (g := F0 m pc ls rest) rfl (by rw [hb]; exact d0) (Nat.le_refl _) (Nat.le_refl _)
  generalize hT1 : (T.setVm vm₁).pushCell { cls := cX, slots := kX.instanceTypes.map defaultValue, vm := .none } = T1 at X₁ st1
  have hcat : (Value.ref T.heap.size).category = 1 := rfl
  have hcellA : T1.heap[T.heap.size]? = some (freshCell cX kX) := by rw [← hT1]; exact State.heap_pushCell_size _ _
  have d3' : decode c.code (pc + 3) = .ok (.dup, 1) := by rw [hb]; exact d3
  have d4' : decode c.code (pc + 4) = .ok (.ldc is, 2) := by rw [hb]; exact d4
  have hstr' : vk_R own is text sa s' := vk_R.warm hW0 hstr
  obtain ⟨U, hsteps, hrun, hend, hW, hsame, ce, hce, hO⟩ := X₁.ctorThrowS hexec htr (own := own) (cls := cls) (names := names) (ic := ic) hown' hcls hnames h (fun x hx => nomatch hx) hfX hkX hcellA (by rw [hhp, hT]; exact Nat.le_refl _) (msg := .ref sa) rfl
    (g := { method := m, pc := pc + 6, locals := ls, stack := .ref sa :: .ref T.heap.size :: .ref T.heap.size :: rest, locked := none }) rfl hsize rfl rfl (rest := rest) rfl
    (by rw [hb]; exact d6) (by rw [hb]; exact d9) hout hRframes (by simp only [List.map_cons, List.sum_cons, hcat]; omega) hlocks
  obtain ⟨f1, f2⟩ := vx_frame hsame
  rw [hhp] at f1 f2
  have hWs : s.WarmedH U.vm := State.WarmedH.trans hW0 hW
  have hcl : s.vm.findClass cls = some ce.cls := by
    have h9 := hO.cls
    rw [hvm] at h9
    exact h9
  have hall : s.sameButNew ({ U with vm := s.vm } : State) locs mc ms := by
    subst hA
    obtain ⟨e1, e2⟩ := hsame
    rw [State.setFrames_setFrames] at e1
    have h2 : (T.setVm s.vm).sameButNew ({ U with vm := s.vm } : State) [] (0 + 1) (0 + 6) := ⟨e1, e2⟩
    have h3 := X.same.trans h2
    rw [List.append_nil] at h3
    exact h3.mono hc hs
  refine ⟨U, ?_, .threw T.heap.size, hrun, hend, Or.inr ⟨T.heap.size, rfl, cls, ce, locs, hx U hWs.alike f1 (fun q hq => f2 q hq (fun z hz => nomatch hz)), hce, hO.vm, hcl, hWs, hall, hf⟩⟩
  refine st1 _ ?_
  show Steps p.tables e below (T1.setTop { method := m, pc := pc + 3, locals := ls, stack := .ref T.heap.size :: rest, locked := none }) _
  jvm_step X₁.here [X₁.here.top, hexec, d3', Value.category]
  exact X₁.ldcString hexec (own := own) (text := text) (index := is) (a := sa) hown' hstr'.1 hstr'.2
    (g := { method := m, pc := pc + 4, locals := ls, stack := .ref T.heap.size :: .ref T.heap.size :: rest, locked := none }) rfl d4' _ hsteps
/-- 'throw new E("text")', the text by a wide index -/
theorem vx_throwSW {cc : ByteArray} {pc : Nat} (hexec : p.tables.exec = Jvm.exec) (hb : c.code = cc) (hl : l.stackTraces = false) {own cls text : String} {names : List String} {ik is ic mc ms sa : Nat} {A : Nat → Prop}
    (hown : s.vm.findClass own = some m.cls) (hcls : Bundle.fit cls = true) (hnames : ∀ n ∈ names, Bundle.fit n = true)
    (hk : (Cond.classLink own ik cls).before args s = true) (hini : (Cond.initialized cls).before args s = true) (hstr : vk_R own is text sa s) (hat : ∀ w ∈ vx_atS own ic cls names, w.before args s = true)
    (hgood : ∀ w ∈ Cond.classLink own ik cls :: Cond.initialized cls :: vx_atS own ic cls names, vx_ot w = true)
    (hU : vx_Zq Bundle.tN "UNASSIGNED_STACK" Bundle.steD A s s.heap) (hN : vx_Zq Bundle.tN "SUPPRESSED_SENTINEL" Bundle.listD A s s.heap) (hS : va_S A s.heap H locs) (hsize : ls.size = c.maxLocals)
    (d0 : decode cc pc = .ok (.new ik, 3)) (d3 : decode cc (pc + 3) = .ok (.dup, 1)) (d4 : decode cc (pc + 4) = .ok (.ldc_w is, 3)) (d7 : decode cc (pc + 7) = .ok (.invokespecial ic, 3)) (d10 : decode cc (pc + 10) = .ok (.athrow, 1))
    (hout : ∀ x ∈ c.exceptionTable.toList, covers x (pc + 10) = false)
    (hRframes : names.length + 3 < R.frames) (hRlocals : (rest.map fun v => v.category).sum + (13 * (names.length + 1) + 43) ≤ R.locals) (hRcells : cells + 1 ≤ R.cells) (hRslots : slots + 6 ≤ R.slots) (hlocks : meth.locks = false)
    (hx : ∀ t : State, s.vm.Alike t.vm → H.size ≤ t.heap.size → (∀ q : Nat, q < H.size → t.heap[q]? = H[q]?) → XC cls s t)
    (hf : ∀ z ∈ locs, free z.base) (hc : cells + 1 ≤ mc) (hs : slots + 6 ≤ ms) :
    W p l e R s m args below meth c H locs cells slots (vx_MQ below Qc XC args s mc ms free) (F0 m pc ls rest) := by
  intro T hT X
  have htr : e.platform.stackTraces = false := (show e.platform.stackTraces = l.stackTraces by rw [X.admits.platform]).trans hl
  have Y := vx_rebase X (R' := { frames := R.frames, locals := R.locals, cells := 1, slots := 6 }) (Nat.le_refl _) (Nat.le_refl _) hRcells hRslots
  obtain ⟨s', hA⟩ : ∃ z, z = (T.setVm s.vm).setFrames (.invoking m args :: below) := ⟨_, rfl⟩
  rw [← hA] at Y
  have hvm : s'.vm = s.vm := by rw [hA]; rfl
  have hhp : s'.heap = H := by rw [hA]; exact hT
  have hW0 : s.WarmedH s'.vm := by rw [hvm]; exact State.WarmedH.refl s
  have hat' : ∀ w ∈ vx_atS own ic cls names, w.before args s' = true := fun w hw => vx_ot_at hW0 hvm.symm (hgood w (List.mem_cons_of_mem _ (List.mem_cons_of_mem _ hw))) (hat w hw)
  have hk' : (Cond.classLink own ik cls).before args s' = true := vx_ot_at hW0 hvm.symm (hgood _ List.mem_cons_self) hk
  have hini' : (Cond.initialized cls).before args s' = true := vx_ot_at hW0 hvm.symm (hgood _ (List.mem_cons_of_mem _ List.mem_cons_self)) hini
  have hU' : vx_Zq Bundle.tN "UNASSIGNED_STACK" Bundle.steD A s' s'.heap := by rw [hhp]; exact vx_Zq.moved hW0.alike (hU.kept hS.2.1)
  have hN' : vx_Zq Bundle.tN "SUPPRESSED_SENTINEL" Bundle.listD A s' s'.heap := by rw [hhp]; exact vx_Zq.moved hW0.alike (hN.kept hS.2.1)
  have h : ∀ w ∈ Bundle.ownAtoms own ic cls names, w.before args s' = true := vx_own hat' (vx_isRefq hU'.1) (vx_isRefq hN'.1) hU'.2.word hN'.2.word
  have hown' : s'.vm.findClass own = some m.cls := by rw [hvm]; exact hown
  have hins : (Cond.instantiable cls 6).before args s' = true := h _ (by simp [Bundle.ownAtoms])
  obtain ⟨vm₁, cX, kX, hfX, hkX, -, -, X₁, st1⟩ := Y.newCold hexec (own := own) (C := cls) (index := ik) (n := 6) hown' hk' hins hini'
    (g := F0 m pc ls rest) rfl (by rw [hb]; exact d0) (Nat.le_refl _) (Nat.le_refl _)
  generalize hT1 : (T.setVm vm₁).pushCell { cls := cX, slots := kX.instanceTypes.map defaultValue, vm := .none } = T1 at X₁ st1
  have hcat : (Value.ref T.heap.size).category = 1 := rfl
  have hcellA : T1.heap[T.heap.size]? = some (freshCell cX kX) := by rw [← hT1]; exact State.heap_pushCell_size _ _
  have d3' : decode c.code (pc + 3) = .ok (.dup, 1) := by rw [hb]; exact d3
  have d4' : decode c.code (pc + 4) = .ok (.ldc_w is, 3) := by rw [hb]; exact d4
  have hstr' : vk_R own is text sa s' := vk_R.warm hW0 hstr
  obtain ⟨U, hsteps, hrun, hend, hW, hsame, ce, hce, hO⟩ := X₁.ctorThrowS hexec htr (own := own) (cls := cls) (names := names) (ic := ic) hown' hcls hnames h (fun x hx => nomatch hx) hfX hkX hcellA (by rw [hhp, hT]; exact Nat.le_refl _) (msg := .ref sa) rfl
    (g := { method := m, pc := pc + 7, locals := ls, stack := .ref sa :: .ref T.heap.size :: .ref T.heap.size :: rest, locked := none }) rfl hsize rfl rfl (rest := rest) rfl
    (by rw [hb]; exact d7) (by rw [hb]; exact d10) hout hRframes (by simp only [List.map_cons, List.sum_cons, hcat]; omega) hlocks
  obtain ⟨f1, f2⟩ := vx_frame hsame
  rw [hhp] at f1 f2
  have hWs : s.WarmedH U.vm := State.WarmedH.trans hW0 hW
  have hcl : s.vm.findClass cls = some ce.cls := by
    have h9 := hO.cls
    rw [hvm] at h9
    exact h9
  have hall : s.sameButNew ({ U with vm := s.vm } : State) locs mc ms := by
    subst hA
    obtain ⟨e1, e2⟩ := hsame
    rw [State.setFrames_setFrames] at e1
    have h2 : (T.setVm s.vm).sameButNew ({ U with vm := s.vm } : State) [] (0 + 1) (0 + 6) := ⟨e1, e2⟩
    have h3 := X.same.trans h2
    rw [List.append_nil] at h3
    exact h3.mono hc hs
  refine ⟨U, ?_, .threw T.heap.size, hrun, hend, Or.inr ⟨T.heap.size, rfl, cls, ce, locs, hx U hWs.alike f1 (fun q hq => f2 q hq (fun z hz => nomatch hz)), hce, hO.vm, hcl, hWs, hall, hf⟩⟩
  refine st1 _ ?_
  show Steps p.tables e below (T1.setTop { method := m, pc := pc + 3, locals := ls, stack := .ref T.heap.size :: rest, locked := none }) _
  jvm_step X₁.here [X₁.here.top, hexec, d3', Value.category]
  exact X₁.ldcStringW hexec (own := own) (text := text) (index := is) (a := sa) hown' hstr'.1 hstr'.2
    (g := { method := m, pc := pc + 4, locals := ls, stack := .ref T.heap.size :: .ref T.heap.size :: rest, locked := none }) rfl d4' _ hsteps
end Ends
section Bodies
variable {l : Launch}
theorem vx_ofW {y : MethodName} {ws ws' : List Cond} {rm : Room} {Pc : Array Value → State → Prop} {Qc : Array Value → State → Outcome → State → Prop} {XC : String → State → State → Prop} {mc ms : Nat} {free : Addr → Prop} {cc : ByteArray} {maxL : Nat} {ret : Option FieldType}
    (hy : plainName y.cls = true) (hw : ws = Cond.code y cc maxL ret :: ws')
    (body : ∀ p e s m args below meth c s₁, BodyLoose p l y (headSpec ws rm) cc maxL ret e s m args below meth c s₁ → c.maxLocals = maxL → (∀ x ∈ c.exceptionTable.toList, False) → Pc args s →
      W p l e (headSpec ws rm).room s m args below meth c s.heap [] 0 0 (vx_MQ below Qc XC args s mc ms free) (entryFrame m args maxL)) : vx_Met l y ws rm Pc Qc XC mc ms free := by
  refine MetFree.of_bodyS (code := cc) (maxLocals := maxL) (ret := ret) hy ?_ ?_
  · intro args s m h hn
    obtain ⟨meth, c, h1, h2, h3, h4, h5, h6, -, -⟩ := Cond.code_spec hn (atoms_spec (ws := ws) h _ (by rw [hw]; exact List.mem_cons_self))
    exact ⟨meth, c, h1, h2, h3, h4, h5, h6⟩
  · intro p e s m args below meth c s₁ B hml hP _
    have hh0 : s₁.heap = s.heap := by rw [B.state]; rfl
    have ht : ∀ x ∈ c.exceptionTable.toList, False := by
      obtain ⟨meth9, c9, h1, h2, -, -, -, -, h7, -⟩ := Cond.code_spec B.named (atoms_spec (ws := ws) B.pre _ (by rw [hw]; exact List.mem_cons_self))
      cases Option.some.inj (h1.symm.trans B.method)
      cases Option.some.inj (h2.symm.trans (Stand.of_body B).code)
      intro x hx
      rw [Array.isEmpty_iff.mp h7] at hx
      cases hx
    obtain ⟨t, a1, o, b1, b2, b3⟩ := body p e s m args below meth c s₁ B hml ht hP s₁ hh0 (Stand.of_body B)
    exact ⟨t, o, a1, b1, b2, b3⟩
/-- the table of a body with handlers -/
theorem vx_table {p : Program} {x y : MethodName} {S : Spec} {cc bytes : ByteArray} {maxL maxL' : Nat} {ret ret' : Option FieldType} {e : Env} {s s₁ : State} {m : MethodId} {args : Array Value} {below : List Frame} {meth : Method} {c : Code} {hh : List (Nat × Nat × Nat × Nat)}
    (B : BodyLoose p l y S cc maxL ret e s m args below meth c s₁) (h : (Cond.codeWith y bytes maxL' ret' hh).before args s = true) : c.exceptionTable.toList = tableOf hh := by
  obtain ⟨m9, meth9, c9, hn9, h1, h2, -, -, h6, -⟩ := Cond.codeWith_spec h
  cases Option.some.inj (hn9.symm.trans B.named)
  cases Option.some.inj (h1.symm.trans B.method)
  cases Option.some.inj (h2.symm.trans (Stand.of_body B).code)
  rw [← h6, table_eq]
end Bodies
end VXA
/-! ===== END ===== -/
/-! ===== BEGIN a static call of a method with an exception table ===== -/
section VXS
variable {p : Program} {l : Launch} {e : Env} {R : Room} {s : State} {m : MethodId} {args : Array Value} {below : List Frame} {meth : Method} {c : Code} {T : State} {H : Heap} {locs : List Loc} {cells slots : Nat}
abbrev vx_CSW (R : Room) (s : State) (args : Array Value) (own : String) (index : Nat) (y : MethodName) (bytes : ByteArray) (maxL : Nat) (ret : Option FieldType) (hh : List (Nat × Nat × Nat × Nat)) (ws : List Cond) (rm : Room) (mc ms n : Nat) : Prop :=
  (rm.cells = mc ∧ rm.slots = ms ∧ rm.frames + 1 ≤ R.frames ∧ 8 + (maxL + 11) + rm.locals ≤ R.locals ∧ (∀ w ∈ ws, ∀ (a' : Array Value) (U : State), s.WarmedH U.vm → w.before a' U = true) ∧ Cond.codeWith y bytes maxL ret hh ∈ ws) ∧
  (Cond.codeWith y bytes maxL ret hh).before args s = true ∧ (Cond.initialized y.cls).before args s = true ∧ (y.cls ≠ "java/lang/invoke/MethodHandle" ∧ y.cls ≠ "java/lang/invoke/VarHandle") ∧
  (∀ sig, parseMethodDescriptor y.desc = some sig → n = sig.parameters.length) ∧ (Cond.methodLink own index y).before args s = true ∧ (Cond.static y).before args s = true
theorem vx_cwSW {own : String} {index maxL mc ms : Nat} {y : MethodName} {bytes : ByteArray} {ret : Option FieldType} {hh : List (Nat × Nat × Nat × Nat)} {Ts ws ws' : List Cond} {rm : Room} (n : Nat) (ht : ∀ w ∈ Ts, w.before args s = true) (hT : GoodIn Ts (va_wsS own index y ws)) (hw : ws = Cond.codeWith y bytes maxL ret hh :: ws') (hrc : rm.cells = mc) (hrs : rm.slots = ms)
    (hd : y.cls ≠ "java/lang/invoke/MethodHandle" ∧ y.cls ≠ "java/lang/invoke/VarHandle" ∧ (parseMethodDescriptor y.desc).map (fun d => d.parameters.length) = some n) (hR : rm.frames + 1 ≤ R.frames ∧ 8 + (maxL + 11) + rm.locals ≤ R.locals) :
    vx_CSW R s args own index y bytes maxL ret hh ws rm mc ms n := by
  have ok : ∀ w ∈ va_wsS own index y ws, w.before args s = true := fun w h => ht w (hT w h).1
  have hG : GoodIn Ts ws := fun w h => hT w (by unfold va_wsS; exact List.mem_append_right _ h)
  have hc : Cond.codeWith y bytes maxL ret hh ∈ ws := by rw [hw]; exact List.mem_cons_self
  refine ⟨⟨hrc, hrs, hR.1, hR.2, pay_in ht hG, hc⟩, ht _ (hG _ hc).1, ok _ (by simp [va_wsS]), ⟨hd.1, hd.2.1⟩, fun sig h => ?_, ok _ (by simp [va_wsS]), ok _ (by simp [va_wsS])⟩
  have h2 := hd.2.2
  rw [h] at h2
  exact (Option.some.inj h2).symm
theorem vx_callSW (X : Stand p l e R s m args below meth c T locs cells slots) (hexec : p.tables.exec = Jvm.exec) {own : String} {index : Nat} {y : MethodName} {bytes : ByteArray} {maxL : Nat} {ret : Option FieldType} {hh : List (Nat × Nat × Nat × Nat)}
    (hown : s.vm.findClass own = some m.cls) (hlink : (Cond.methodLink own index y).before args s = true) (hstat : (Cond.static y).before args s = true) (hinit : (Cond.initialized y.cls).before args s = true)
    (hcode : (Cond.codeWith y bytes maxL ret hh).before args s = true) (hy : y.cls ≠ "java/lang/invoke/MethodHandle" ∧ y.cls ≠ "java/lang/invoke/VarHandle")
    {W9 : Nat} {Pre : Pt → Array Value → Prop} {Post : Pt → Array Value → Option Value → Pt → Prop} (hK : Back l R p e below s args y 3 W9 Pre Post)
    {g : JFrame} (hg : g.method = m) (hsize : g.locals.size = c.maxLocals) {argsL rest : List Value} (hlen : ∀ sig, parseMethodDescriptor y.desc = some sig → argsL.length = sig.parameters.length)
    (hstack : g.stack = argsL.reverse ++ rest) (hW : 2 * g.monitorRoom + (rest.map fun v => v.category).sum ≤ W9) (hdg : decode c.code g.pc = .ok (.invokestatic index, 3))
    (hpre : ∀ vm₁, s.WarmedH vm₁ → Pre ⟨T.setVm vm₁, locs, cells, slots⟩ argsL.toArray) :
    ∃ (v : Option Value) (vm₁ : Vm) (B : Pt), s.WarmedH vm₁ ∧ Stand p l e R s m args below meth c B.U B.locs B.cells B.slots ∧ Post ⟨T.setVm vm₁, locs, cells, slots⟩ argsL.toArray v B ∧
      ∀ target, Steps p.tables e below (B.U.setTop { g with pc := g.pc + 3, stack := v.toList ++ rest }) target → Steps p.tables e below (T.setTop g) target := by
  obtain ⟨mk, methM, cM, hnamed, hmethM, -, -, -, -, -, -, hsigM⟩ := Cond.codeWith_spec hcode
  have hstatic : methM.isStatic = true := Cond.static_spec hnamed hmethM hstat
  obtain ⟨kP, hkP, -⟩ := className_of_methodNamed hnamed
  have hinitP : kP.init = .initialized := Cond.initialized_spec (findClass_of_methodNamed hnamed) hkP hinit
  obtain ⟨vm₁, X₁, hstep₁⟩ := X.invokestatic hexec hown hlink hnamed hmethM hstatic hkP hinitP hy (g := g) hg (argsL := argsL) (rest := rest) (hlen _ hsigM) hstack hdg
  obtain ⟨v, B, X', hpost, hsteps⟩ := hK m meth c ⟨T.setVm vm₁, locs, cells, slots⟩ { g with stack := rest } (.invokestatic index) mk argsL.toArray X₁ hg hsize hdg hW (X₁.named hnamed) (hpre vm₁ X₁.warmed)
  exact ⟨v, vm₁, B, X₁.warmed, X', hpost, fun target h => hstep₁ _ fun acts => by rw [doInvoke_state]; exact hsteps.trans h⟩
theorem vx_runSW {y : MethodName} {bytes cc : ByteArray} {maxL nL mc ms n index : Nat} {ret : Option FieldType} {hh : List (Nat × Nat × Nat × Nat)} {ws : List Cond} {rm : Room} {Pc : Array Value → State → Prop} {Qc : Array Value → State → Outcome → State → Prop} {free : Addr → Prop} {Ts : List Cond} {own : String} {As rest : List Value} {g : JFrame}
    (S : CallFix p m c cc nL s args Ts own) (hM : Met l y ws rm Pc Qc mc ms free) (cw : vx_CSW R s args own index y bytes maxL ret hh ws rm mc ms n) (hp : PreS s H Pc As)
    (hg : g.method = m) (hn : As.length = n) (hsize : g.locals.size = nL) (hstack : g.stack = As.reverse ++ rest) (hW : 2 * g.monitorRoom + (rest.map fun v => v.category).sum ≤ 8) (hdg : decode cc g.pc = .ok (.invokestatic index, 3)) (hf : cells + mc ≤ R.cells ∧ slots + ms ≤ R.slots) :
    va_Run p l e R s m args below meth c H locs cells slots mc ms g rest (Qc As.toArray) (free) := by
  obtain ⟨⟨hrc, hrs, hfr, hlo, hws, hcw⟩, hcode, hini, hy, hlen, hl, hstt⟩ := cw
  have hK : Back l R p e below s args y 3 8 (PreOf R mc ms Pc) (PostOf Qc mc ms free) := va_backW (hh := hh) (bytes := bytes) (maxL := maxL) (ret := ret) hM hp.1 hrc hrs hfr hlo hws hcw (fun a' U hW => word_at hW (Or.inl (by first | rfl | simp [Cond.onTables, Cond.keeps, Cond.steady])) hini)
  obtain ⟨hx, hb, hml, ho, -⟩ := S
  intro T hT X
  obtain ⟨v, vm₁, ⟨U', l2, c2, s2⟩, hW₁, X', ⟨g', mk, t, L, e1, e2, hq, h1, hL, h2, h3⟩, st⟩ := vx_callSW X hx (hh := hh) (bytes := bytes) (maxL := maxL) (ret := ret) ho hl hstt hini hcode hy hK hg (hsize.trans hml.symm) (argsL := As) (rest := rest) (fun sig h => hn.trans (hlen sig h)) hstack hW (by rw [hb]; exact hdg)
    (fun vm₁ hW₁ => ⟨hf.1, hf.2, hp.2 (T.setVm vm₁) hT hW₁⟩)
  dsimp only [Pt.U, Pt.locs, Pt.cells, Pt.slots] at X' e1 e2 h1 h2 h3 st
  subst h1; subst h2; subst h3
  exact ⟨v, (T.setVm vm₁).calling g' mk As.toArray, t, U', L, hT, X', hL, e1, e2, hq, st⟩
/-- not caught here, past rows that name other classes: it goes on to the caller -/
theorem vx_outP {p : Program} {l : Launch} {e : Env} {R : Room} {s : State} {m : MethodId} {args : Array Value} {below : List Frame} {meth : Method} {c : Code} {H : Heap} {locs : List Loc} {cells slots : Nat} {free : Addr → Prop} {ls : Array Slot} {rest : List Value} {Qc : Array Value → State → Outcome → State → Prop} {XC : String → State → State → Prop}
    {pc : Nat} {own E : String} {ce : Cell} {q : Addr} {mc ms : Nat} (hown : s.vm.findClass own = some m.cls) (hlocks : meth.locks = false)
    (hpass : ∀ z ∈ c.exceptionTable.toList, covers z pc = false ∨ (z.catchType ≠ 0 ∧ ∃ nm : String, (Cond.classLink own z.catchType nm).before args s = true ∧ va_Nc E nm s)) (hcell : H[q]? = some ce) (hv : ce.vm = .none) (hcl : s.vm.findClass E = some ce.cls)
    (hx : ∀ t : State, t.heap = H → s.vm.Alike t.vm → XC E s t) (hf : ∀ z ∈ locs, free z.base) (hc : cells ≤ mc) (hs : slots ≤ ms) :
    vx_W p l e R s m args below meth c H locs cells slots (vx_MQ below Qc XC args s mc ms free) (F0 m pc ls rest) q := by
  intro T hT X
  have hpl : e.platform.magicAccessors = ({} : Platform).magicAccessors := by rw [X.admits.platform]
  obtain ⟨vm', hW', X', st⟩ := X.outThrough hlocks q (g := F0 m pc ls rest) rfl rfl rfl (cell := ce) (by rw [hT]; exact hcell) (by rw [hv]; rfl)
    (by obtain ⟨k9, h9, -⟩ := Vm.findClass_spec hcl; exact ⟨k9, h9⟩) (fun z hz => by
      rcases hpass z hz with h | ⟨hz0, nm, hl1, hn1⟩
      · exact Or.inl h
      · obtain ⟨c6, hc6, hcl6⟩ := Cond.classLink_spec hown hl1 e.platform hpl
        obtain ⟨a8, b8, h1, h2, h3⟩ := hn1
        cases Option.some.inj (h1.symm.trans hcl)
        cases Option.some.inj (h2.symm.trans hc6)
        exact Or.inr ⟨hz0, _, hcl6, h3⟩)
  obtain ⟨g₀, hfr⟩ := X'.frames_eq
  have hcell9 : ((T.setVm vm').setFrames (.throwing q :: below)).heap[q]? = some ce := by
    show T.heap[q]? = some ce
    rw [hT]; exact hcell
  have hend : Ended ((T.setVm vm').setFrames (.throwing q :: below)) below (.threw q) := State.frames_setFrames _ (State.cur_lt_of_frames hfr)
  refine ⟨(T.setVm vm').setFrames (.throwing q :: below), ?_, .threw q, X'.here.running, hend, Or.inr ⟨q, rfl, E, ce, locs, hx _ hT (X'.ends _).1.alike, hcell9, hv, hcl, (X'.ends _).1, (X'.ends _).2.mono hc hs, hf⟩⟩
  rw [X.pushThrowing_eq]
  exact st
/-- a thing of a world lies in the heap -/
theorem vx_lt {D : va_G} {cl : List vw_C} {ws : va_W} {H1 : Heap} (h : va_P D cl ws H1) {k : Nat} {q : Nat × va_E} (hk : ws[k]? = some q) : q.1 < H1.size := (h k q hk).lt
end VXS
/-! ===== END ===== -/
/-! ===== BEGIN methods with a table of their own: called by a name, returning or throwing ===== -/
section VXH
/-! vx_backW, vx_callVX, vx_callSX, vx_callVW, vx_runVW, vx_runVX, vx_runSX, vx_ofWH follow the same proofs as their sisters above (Free/Laws.lean, Shelf42/LK1.lean); vx_outP calls Shelf42/NT130.lean (outThrough). -/
section
variable {l : Launch} {R : Room} {p : Program} {e : Env} {below : List Frame} {s : State} {sargs : Array Value} {y : MethodName} {len W9 : Nat}
theorem vx_backW {ws : List Cond} {rm : Room} {Pc : Array Value → State → Prop} {Qc : Array Value → State → Outcome → State → Prop} {XC : String → State → State → Prop} {mc ms : Nat} {free : Addr → Prop} {bytes : ByteArray} {maxL : Nat} {ret : Option FieldType} {hh : List (Nat × Nat × Nat × Nat)}
    (hM : vx_Met l y ws rm Pc Qc XC mc ms free) (hblind : FrameBlind Pc) (hrc : rm.cells = mc) (hrs : rm.slots = ms)
    (hframes : rm.frames + 1 ≤ R.frames) (hlocals : W9 + (maxL + 11) + rm.locals ≤ R.locals)
    (hws : ∀ w ∈ ws, ∀ a' U, s.WarmedH U.vm → w.before a' U = true) (hcode : Cond.codeWith y bytes maxL ret hh ∈ ws) (hinit : ∀ a' U, s.WarmedH U.vm → (Cond.initialized y.cls).before a' U = true) :
    vx_Back l R p e below s sargs y len W9 (PreOf R mc ms Pc) (PostOf Qc mc ms free) (vx_Post XC mc ms free) := by
  intro m meth c A g ig mk a X hg hsize hdg hW hn hp
  have h1 : (headSpec ws rm).pre.before a A.U = true := atoms_intro fun w hw => hws w hw _ _ X.warmed
  have h2 : (Cond.codeWith y bytes maxL ret hh).before a A.U = true := hws _ hcode _ _ X.warmed
  have h3 : (Cond.initialized y.cls).before a A.U = true := hinit _ _ X.warmed
  have h4 : A.cells + (headSpec ws rm).room.cells ≤ R.cells := by rw [show (headSpec ws rm).room.cells = mc from hrc]; exact hp.1
  have h5 : A.slots + (headSpec ws rm).room.slots ≤ R.slots := by rw [show (headSpec ws rm).room.slots = ms from hrs]; exact hp.2.1
  have hPc : Pc a (A.U.calling g mk a) := hblind _ _ _ _ hp.2.2
  obtain ⟨U, Ls, c0, s0⟩ := A
  dsimp only [Pt.U, Pt.locs, Pt.cells, Pt.slots] at h1 h2 h3 h4 h5 X hn hPc ⊢
  obtain ⟨m9, methY, cY, hn9, hmY, hcY, -, hlY, -⟩ := Cond.codeWith_spec h2
  cases Option.some.inj (hn9.symm.trans hn)
  obtain ⟨kY, hkY, -⟩ := className_of_methodNamed hn
  have hinitY : kY.init = .initialized := Cond.initialized_spec (findClass_of_methodNamed hn) hkY h3
  have h : At U g.method c below := by rw [hg]; exact X.here
  have hlocals9 : W9 + (maxL + 11) + (headSpec ws rm).room.locals ≤ R.locals := hlocals
  have happ : (headSpec ws rm).appliesLoose y e.platform (U.calling g mk a) = true :=
    Spec.appliesLoose_calling (g := g) h hdg hn hkY hinitY
      (X.room_calling (g := g) (R' := (headSpec ws rm).room) hsize hmY hcY hframes (by rw [hlY]; omega) h4 h5) h1
  obtain ⟨mid, hmid⟩ := h.above
  have hfr : (U.setTop g).frames = (.java g :: mid) ++ below := by rw [State.frames_setTop' g h.top, hmid]; rfl
  obtain ⟨o, s₂, hsteps, -, hend, hq⟩ := Steps.callFree hM p X.admits X.cas X.clock (acts := []) hfr happ hPc trivial
  have hq' : vx_Q Qc XC mc ms free a (U.calling g mk a) o s₂ := hq
  rw [State.frames_setTop' g h.top] at hend
  obtain ⟨g₀, hg0⟩ := Option.isSome_iff_exists.mp h.top
  obtain ⟨r, hr⟩ := State.topJava?_eq_some.mp hg0
  have hr' : (({ U with heap := s₂.heap, slotsUsed := s₂.slotsUsed } : State).setVm s₂.vm).frames = .java g₀ :: r := hr
  rcases hq' with ⟨hqc, L, hfe, hL⟩ | ⟨q, rfl, E, ce, L, hx, hce, hcv, hcl, hW₂, hsm, hL⟩
  · obtain ⟨⟨v, rfl⟩, hW₂, e2, q2, q3, q4, q5, q6⟩ := id hfe
    have e3 : s₂ = ({ (U.calling g mk a).setFrames s₂.frames with heap := s₂.heap, slotsUsed := s₂.slotsUsed } : State).setVm s₂.vm := by
      have : s₂ = ({ s₂ with vm := (U.calling g mk a).vm } : State).setVm s₂.vm := rfl
      rw [e2] at this
      exact this
    obtain ⟨c₂, i₂, len₂, hc₂, hd₂, hf₂⟩ := hend
    have hW' : U.WarmedH s₂.vm := hW₂
    have hcc : c₂ = c := by
      have h1 : s₂.code? g.method = U.code? g.method := by
        rw [State.code?_eq, State.code?_eq, hW'.alike.method?]
      exact Option.some.inj (hc₂.symm.trans (h1.trans h.code))
    subst hcc
    have hlen : len₂ = len := by rw [hdg] at hd₂; cases hd₂; rfl
    subst hlen
    have hs₂ : s₂ = (({ U with heap := s₂.heap, slotsUsed := s₂.slotsUsed } : State).setVm s₂.vm).setTop { g with pc := g.pc + len₂, stack := v.toList ++ g.stack } := by
      refine e3.trans ?_
      rw [hf₂, State.calling_eq h.top, State.setFrames_setFrames, State.setTop_of_frames _ hr', hr]
      rfl
    have hsame : U.sameButNew ({ U with heap := s₂.heap, slotsUsed := s₂.slotsUsed } : State) L mc ms := by
      refine ⟨?_, q2, q3, q4, q5, q6⟩
      obtain ⟨t, ht, -⟩ := State.frames_cons hr
      show ({ U with heap := s₂.heap, slotsUsed := s₂.slotsUsed } : State) = { U.setFrames U.frames with heap := s₂.heap, slotsUsed := s₂.slotsUsed }
      rw [State.setFrames_self ht]
    subst hg
    refine Or.inl ⟨v, ⟨(({ U with heap := s₂.heap, slotsUsed := s₂.slotsUsed } : State).setVm s₂.vm), Ls ++ L, c0 + mc, s0 + ms⟩,
      ⟨X.admits, X.cas, X.clock, X.frames, X.room, X.hears, X.method, X.code, (X.here.setHeapUsed s₂.heap s₂.slotsUsed).setVm hW'.alike, X.tail, State.WarmedH.trans X.warmed hW', X.limits, X.bytes, X.same.trans (hsame.setVm s.vm)⟩,
      ⟨g, mk, s₂, L, rfl, rfl, hqc, rfl, hL, rfl, rfl⟩, ?_⟩
    show Steps p.tables e below _ ((({ U with heap := s₂.heap, slotsUsed := s₂.slotsUsed } : State).setVm s₂.vm).setTop { g with pc := g.pc + len₂, stack := v.toList ++ g.stack })
    rw [← hs₂]
    exact hsteps
  · obtain ⟨e2, q2, q3, q4, q5, q6⟩ := id hsm
    have e3 : s₂ = ({ (U.calling g mk a).setFrames s₂.frames with heap := s₂.heap, slotsUsed := s₂.slotsUsed } : State).setVm s₂.vm := by
      have : s₂ = ({ s₂ with vm := (U.calling g mk a).vm } : State).setVm s₂.vm := rfl
      rw [e2] at this
      exact this
    have hf₂ : s₂.frames = .throwing q :: .java g :: U.frames.tail := hend
    have hW' : U.WarmedH s₂.vm := hW₂
    have hs₂ : s₂ = ((({ U with heap := s₂.heap, slotsUsed := s₂.slotsUsed } : State).setVm s₂.vm).setTop g).pushFrame (.throwing q) := by
      refine e3.trans ?_
      rw [hf₂, State.calling_eq h.top, State.setFrames_setFrames, State.pushFrame, State.frames_setTop _ hr', State.setTop_of_frames _ hr', State.setFrames_setFrames, hr]
      rfl
    have hsame : U.sameButNew ({ U with heap := s₂.heap, slotsUsed := s₂.slotsUsed } : State) L mc ms := by
      refine ⟨?_, q2, q3, q4, q5, q6⟩
      obtain ⟨t, ht, -⟩ := State.frames_cons hr
      show ({ U with heap := s₂.heap, slotsUsed := s₂.slotsUsed } : State) = { U.setFrames U.frames with heap := s₂.heap, slotsUsed := s₂.slotsUsed }
      rw [State.setFrames_self ht]
    subst hg
    refine Or.inr ⟨q, ⟨(({ U with heap := s₂.heap, slotsUsed := s₂.slotsUsed } : State).setVm s₂.vm), Ls ++ L, c0 + mc, s0 + ms⟩,
      ⟨X.admits, X.cas, X.clock, X.frames, X.room, X.hears, X.method, X.code, (X.here.setHeapUsed s₂.heap s₂.slotsUsed).setVm hW'.alike, X.tail, State.WarmedH.trans X.warmed hW', X.limits, X.bytes, X.same.trans (hsame.setVm s.vm)⟩,
      ⟨g, mk, s₂, L, E, ce, rfl, rfl, hx, hce, hcv, hcl, rfl, hL, rfl, rfl⟩, ?_⟩
    show Steps p.tables e below _ (((({ U with heap := s₂.heap, slotsUsed := s₂.slotsUsed } : State).setVm s₂.vm).setTop g).pushFrame (.throwing q))
    rw [← hs₂]
    exact hsteps
end
variable {p : Program} {l : Launch} {e : Env} {R : Room} {s : State} {m : MethodId} {args : Array Value} {below : List Frame} {meth : Method} {c : Code} {T : State} {H : Heap} {locs : List Loc} {cells slots : Nat}
theorem vx_callVX (X : Stand p l e R s m args below meth c T locs cells slots) (hexec : p.tables.exec = Jvm.exec) {own C : String} {index : Nat} {y : MethodName} {bytes : ByteArray} {maxL : Nat} {ret : Option FieldType} {hh : List (Nat × Nat × Nat × Nat)}
    (hown : s.vm.findClass own = some m.cls) (hlink : (Cond.methodLink own index y).before args s = true) (hinst : (Cond.instanceMethod y).before args s = true) (hsel : (Cond.selects C y y).before args s = true)
    (hcode : (Cond.codeWith y bytes maxL ret hh).before args s = true) (hy : y.cls ≠ "java/lang/invoke/MethodHandle" ∧ y.cls ≠ "java/lang/invoke/VarHandle")
    {W9 : Nat} {Pre : Pt → Array Value → Prop} {Post : Pt → Array Value → Option Value → Pt → Prop} {PostX : Pt → Array Value → Addr → Pt → Prop} (hK : vx_Back l R p e below s args y 3 W9 Pre Post PostX)
    {b : Addr} {cellB : Cell} (hcell : T.heap[b]? = some cellB) (hobj : cellB.vm.isStatics = false) (hcls : s.vm.findClass C = some cellB.cls)
    {g : JFrame} (hg : g.method = m) (hsize : g.locals.size = c.maxLocals) {argsL rest : List Value} (hlen : ∀ sig, parseMethodDescriptor y.desc = some sig → argsL.length = sig.parameters.length)
    (hstack : g.stack = argsL.reverse ++ .ref b :: rest) (hW : 2 * g.monitorRoom + (rest.map fun v => v.category).sum ≤ W9) (hdg : decode c.code g.pc = .ok (.invokevirtual index, 3))
    (hpre : ∀ vm₁, s.WarmedH vm₁ → Pre ⟨T.setVm vm₁, locs, cells, slots⟩ (Value.ref b :: argsL).toArray) :
    (∃ (v : Option Value) (vm₁ : Vm) (B : Pt), s.WarmedH vm₁ ∧ Stand p l e R s m args below meth c B.U B.locs B.cells B.slots ∧ Post ⟨T.setVm vm₁, locs, cells, slots⟩ (Value.ref b :: argsL).toArray v B ∧
      ∀ target, Steps p.tables e below (B.U.setTop { g with pc := g.pc + 3, stack := v.toList ++ rest }) target → Steps p.tables e below (T.setTop g) target) ∨
    (∃ (q : Addr) (vm₁ : Vm) (B : Pt), s.WarmedH vm₁ ∧ Stand p l e R s m args below meth c B.U B.locs B.cells B.slots ∧ PostX ⟨T.setVm vm₁, locs, cells, slots⟩ (Value.ref b :: argsL).toArray q B ∧
      Steps p.tables e below (T.setTop g) ((B.U.setTop { g with stack := rest }).pushFrame (.throwing q))) := by
  obtain ⟨mk, methM, hnamed, hmethM, hstM, habM⟩ := Cond.instanceMethod_spec hinst
  obtain ⟨m8, methM', cM, hn8, hmethM', -, -, -, -, -, -, hsigM⟩ := Cond.codeWith_spec hcode
  cases Option.some.inj (hn8.symm.trans hnamed)
  cases hmethM.symm.trans hmethM'
  obtain ⟨c2, r2, m2, q1, q2, q3, q4, kP, hkP, hkPi⟩ := Cond.selects_spec hsel
  cases hcls.symm.trans q1
  cases (State.methodFound?_of_named hnamed hy).symm.trans q2
  cases hnamed.symm.trans q3
  have hselP : selectMethod e.platform s.vm cellB.cls mk = .method mk := by rw [Launch.admits_selectMethod X.admits]; exact q4
  obtain ⟨vm₁, X₁, hstep₁⟩ := X.invokevirtual hexec hown hlink hnamed hmethM hstM hkP hkPi hy (a := b) (cell := cellB) hcell
    (fun z h => by rw [h] at hobj; cases hobj) hselP hmethM habM hkP hkPi (g := g) hg (argsL := argsL) (rest := rest) (hlen _ hsigM) hstack hdg
  rcases hK m meth c ⟨T.setVm vm₁, locs, cells, slots⟩ { g with stack := rest } (.invokevirtual index) mk (Value.ref b :: argsL).toArray X₁ hg hsize hdg hW (X₁.named hnamed) (hpre vm₁ X₁.warmed) with ⟨v, B, X', hpost, hsteps⟩ | ⟨q, B, X', hpost, hsteps⟩
  · exact Or.inl ⟨v, vm₁, B, X₁.warmed, X', hpost, fun target h => hstep₁ _ fun acts => by rw [doInvoke_state]; exact hsteps.trans h⟩
  · exact Or.inr ⟨q, vm₁, B, X₁.warmed, X', hpost, hstep₁ _ fun acts => by rw [doInvoke_state]; exact hsteps⟩
theorem vx_callSX (X : Stand p l e R s m args below meth c T locs cells slots) (hexec : p.tables.exec = Jvm.exec) {own : String} {index : Nat} {y : MethodName} {bytes : ByteArray} {maxL : Nat} {ret : Option FieldType} {hh : List (Nat × Nat × Nat × Nat)}
    (hown : s.vm.findClass own = some m.cls) (hlink : (Cond.methodLink own index y).before args s = true) (hstat : (Cond.static y).before args s = true) (hinit : (Cond.initialized y.cls).before args s = true)
    (hcode : (Cond.codeWith y bytes maxL ret hh).before args s = true) (hy : y.cls ≠ "java/lang/invoke/MethodHandle" ∧ y.cls ≠ "java/lang/invoke/VarHandle")
    {W9 : Nat} {Pre : Pt → Array Value → Prop} {Post : Pt → Array Value → Option Value → Pt → Prop} {PostX : Pt → Array Value → Addr → Pt → Prop} (hK : vx_Back l R p e below s args y 3 W9 Pre Post PostX)
    {g : JFrame} (hg : g.method = m) (hsize : g.locals.size = c.maxLocals) {argsL rest : List Value} (hlen : ∀ sig, parseMethodDescriptor y.desc = some sig → argsL.length = sig.parameters.length)
    (hstack : g.stack = argsL.reverse ++ rest) (hW : 2 * g.monitorRoom + (rest.map fun v => v.category).sum ≤ W9) (hdg : decode c.code g.pc = .ok (.invokestatic index, 3))
    (hpre : ∀ vm₁, s.WarmedH vm₁ → Pre ⟨T.setVm vm₁, locs, cells, slots⟩ argsL.toArray) :
    (∃ (v : Option Value) (vm₁ : Vm) (B : Pt), s.WarmedH vm₁ ∧ Stand p l e R s m args below meth c B.U B.locs B.cells B.slots ∧ Post ⟨T.setVm vm₁, locs, cells, slots⟩ argsL.toArray v B ∧
      ∀ target, Steps p.tables e below (B.U.setTop { g with pc := g.pc + 3, stack := v.toList ++ rest }) target → Steps p.tables e below (T.setTop g) target) ∨
    (∃ (q : Addr) (vm₁ : Vm) (B : Pt), s.WarmedH vm₁ ∧ Stand p l e R s m args below meth c B.U B.locs B.cells B.slots ∧ PostX ⟨T.setVm vm₁, locs, cells, slots⟩ argsL.toArray q B ∧
      Steps p.tables e below (T.setTop g) ((B.U.setTop { g with stack := rest }).pushFrame (.throwing q))) := by
  obtain ⟨mk, methM, cM, hnamed, hmethM, -, -, -, -, -, -, hsigM⟩ := Cond.codeWith_spec hcode
  have hstatic : methM.isStatic = true := Cond.static_spec hnamed hmethM hstat
  obtain ⟨kP, hkP, -⟩ := className_of_methodNamed hnamed
  have hinitP : kP.init = .initialized := Cond.initialized_spec (findClass_of_methodNamed hnamed) hkP hinit
  obtain ⟨vm₁, X₁, hstep₁⟩ := X.invokestatic hexec hown hlink hnamed hmethM hstatic hkP hinitP hy (g := g) hg (argsL := argsL) (rest := rest) (hlen _ hsigM) hstack hdg
  rcases hK m meth c ⟨T.setVm vm₁, locs, cells, slots⟩ { g with stack := rest } (.invokestatic index) mk argsL.toArray X₁ hg hsize hdg hW (X₁.named hnamed) (hpre vm₁ X₁.warmed) with ⟨v, B, X', hpost, hsteps⟩ | ⟨q, B, X', hpost, hsteps⟩
  · exact Or.inl ⟨v, vm₁, B, X₁.warmed, X', hpost, fun target h => hstep₁ _ fun acts => by rw [doInvoke_state]; exact hsteps.trans h⟩
  · exact Or.inr ⟨q, vm₁, B, X₁.warmed, X', hpost, hstep₁ _ fun acts => by rw [doInvoke_state]; exact hsteps⟩
theorem vx_callVW (X : Stand p l e R s m args below meth c T locs cells slots) (hexec : p.tables.exec = Jvm.exec) {own C : String} {index : Nat} {y : MethodName} {bytes : ByteArray} {maxL : Nat} {ret : Option FieldType} {hh : List (Nat × Nat × Nat × Nat)}
    (hown : s.vm.findClass own = some m.cls) (hlink : (Cond.methodLink own index y).before args s = true) (hinst : (Cond.instanceMethod y).before args s = true) (hsel : (Cond.selects C y y).before args s = true)
    (hcode : (Cond.codeWith y bytes maxL ret hh).before args s = true) (hy : y.cls ≠ "java/lang/invoke/MethodHandle" ∧ y.cls ≠ "java/lang/invoke/VarHandle")
    {W9 : Nat} {Pre : Pt → Array Value → Prop} {Post : Pt → Array Value → Option Value → Pt → Prop} (hK : Back l R p e below s args y 3 W9 Pre Post)
    {b : Addr} {cellB : Cell} (hcell : T.heap[b]? = some cellB) (hobj : cellB.vm.isStatics = false) (hcls : s.vm.findClass C = some cellB.cls)
    {g : JFrame} (hg : g.method = m) (hsize : g.locals.size = c.maxLocals) {argsL rest : List Value} (hlen : ∀ sig, parseMethodDescriptor y.desc = some sig → argsL.length = sig.parameters.length)
    (hstack : g.stack = argsL.reverse ++ .ref b :: rest) (hW : 2 * g.monitorRoom + (rest.map fun v => v.category).sum ≤ W9) (hdg : decode c.code g.pc = .ok (.invokevirtual index, 3))
    (hpre : ∀ vm₁, s.WarmedH vm₁ → Pre ⟨T.setVm vm₁, locs, cells, slots⟩ (Value.ref b :: argsL).toArray) :
    ∃ (v : Option Value) (vm₁ : Vm) (B : Pt), s.WarmedH vm₁ ∧ Stand p l e R s m args below meth c B.U B.locs B.cells B.slots ∧ Post ⟨T.setVm vm₁, locs, cells, slots⟩ (Value.ref b :: argsL).toArray v B ∧
      ∀ target, Steps p.tables e below (B.U.setTop { g with pc := g.pc + 3, stack := v.toList ++ rest }) target → Steps p.tables e below (T.setTop g) target := by
  obtain ⟨mk, methM, hnamed, hmethM, hstM, habM⟩ := Cond.instanceMethod_spec hinst
  obtain ⟨m8, methM', cM, hn8, hmethM', -, -, -, -, -, -, hsigM⟩ := Cond.codeWith_spec hcode
  cases Option.some.inj (hn8.symm.trans hnamed)
  cases hmethM.symm.trans hmethM'
  obtain ⟨c2, r2, m2, q1, q2, q3, q4, kP, hkP, hkPi⟩ := Cond.selects_spec hsel
  cases hcls.symm.trans q1
  cases (State.methodFound?_of_named hnamed hy).symm.trans q2
  cases hnamed.symm.trans q3
  have hselP : selectMethod e.platform s.vm cellB.cls mk = .method mk := by rw [Launch.admits_selectMethod X.admits]; exact q4
  obtain ⟨vm₁, X₁, hstep₁⟩ := X.invokevirtual hexec hown hlink hnamed hmethM hstM hkP hkPi hy (a := b) (cell := cellB) hcell
    (fun z h => by rw [h] at hobj; cases hobj) hselP hmethM habM hkP hkPi (g := g) hg (argsL := argsL) (rest := rest) (hlen _ hsigM) hstack hdg
  obtain ⟨v, B, X', hpost, hsteps⟩ := hK m meth c ⟨T.setVm vm₁, locs, cells, slots⟩ { g with stack := rest } (.invokevirtual index) mk (Value.ref b :: argsL).toArray X₁ hg hsize hdg hW (X₁.named hnamed) (hpre vm₁ X₁.warmed)
  exact ⟨v, vm₁, B, X₁.warmed, X', hpost, fun target h => hstep₁ _ fun acts => by rw [doInvoke_state]; exact hsteps.trans h⟩
abbrev vx_CVW (R : Room) (s : State) (args : Array Value) (own C : String) (index : Nat) (y : MethodName) (bytes : ByteArray) (maxL : Nat) (ret : Option FieldType) (hh : List (Nat × Nat × Nat × Nat)) (ws : List Cond) (rm : Room) (mc ms n : Nat) : Prop :=
  (rm.cells = mc ∧ rm.slots = ms ∧ rm.frames + 1 ≤ R.frames ∧ 8 + (maxL + 11) + rm.locals ≤ R.locals ∧ (∀ w ∈ ws, ∀ (a' : Array Value) (U : State), s.WarmedH U.vm → w.before a' U = true) ∧ Cond.codeWith y bytes maxL ret hh ∈ ws) ∧
  (Cond.codeWith y bytes maxL ret hh).before args s = true ∧ (Cond.initialized y.cls).before args s = true ∧ (y.cls ≠ "java/lang/invoke/MethodHandle" ∧ y.cls ≠ "java/lang/invoke/VarHandle") ∧
  (∀ sig, parseMethodDescriptor y.desc = some sig → n = sig.parameters.length) ∧ (Cond.methodLink own index y).before args s = true ∧ (Cond.instanceMethod y).before args s = true ∧ (Cond.selects C y y).before args s = true
theorem vx_cwVW {own C : String} {index maxL mc ms : Nat} {y : MethodName} {bytes : ByteArray} {ret : Option FieldType} {hh : List (Nat × Nat × Nat × Nat)} {Ts ws ws' : List Cond} {rm : Room} (n : Nat) (ht : ∀ w ∈ Ts, w.before args s = true) (hT : GoodIn Ts (wsV own index C y ws)) (hw : ws = Cond.codeWith y bytes maxL ret hh :: ws') (hrc : rm.cells = mc) (hrs : rm.slots = ms)
    (hd : y.cls = C ∧ y.cls ≠ "java/lang/invoke/MethodHandle" ∧ y.cls ≠ "java/lang/invoke/VarHandle" ∧ (parseMethodDescriptor y.desc).map (fun d => d.parameters.length) = some n) (hR : rm.frames + 1 ≤ R.frames ∧ 8 + (maxL + 11) + rm.locals ≤ R.locals) :
    vx_CVW R s args own C index y bytes maxL ret hh ws rm mc ms n := by
  obtain ⟨hC, hd⟩ := hd
  subst hC
  have ok : ∀ w ∈ wsV own index y.cls y ws, w.before args s = true := fun w h => ht w (hT w h).1
  have hG : GoodIn Ts ws := fun w h => hT w (by unfold wsV; exact List.mem_append_right _ h)
  have hc : Cond.codeWith y bytes maxL ret hh ∈ ws := by rw [hw]; exact List.mem_cons_self
  refine ⟨⟨hrc, hrs, hR.1, hR.2, pay_in ht hG, hc⟩, ht _ (hG _ hc).1, ok _ (by simp [wsV]), ⟨hd.1, hd.2.1⟩, fun sig h => ?_, ok _ (by simp [wsV]), ok _ (by simp [wsV]), ok _ (by simp [wsV])⟩
  have h2 := hd.2.2
  rw [h] at h2
  exact (Option.some.inj h2).symm
theorem vx_runVW {y : MethodName} {bytes cc : ByteArray} {maxL nL mc ms n index : Nat} {ret : Option FieldType} {hh : List (Nat × Nat × Nat × Nat)} {ws : List Cond} {rm : Room} {Pc : Array Value → State → Prop} {Qc : Array Value → State → Outcome → State → Prop} {free : Addr → Prop} {Ts : List Cond} {own C : String} {b : Addr} {As rest : List Value} {g : JFrame}
    (S : CallFix p m c cc nL s args Ts own) (hM : Met l y ws rm Pc Qc mc ms free) (cw : vx_CVW R s args own C index y bytes maxL ret hh ws rm mc ms n) (hp : PreV s H C b Pc As)
    (hg : g.method = m) (hn : As.length = n) (hsize : g.locals.size = nL) (hstack : g.stack = As.reverse ++ .ref b :: rest) (hW : 2 * g.monitorRoom + (rest.map fun v => v.category).sum ≤ 8) (hdg : decode cc g.pc = .ok (.invokevirtual index, 3)) (hf : cells + mc ≤ R.cells ∧ slots + ms ≤ R.slots) :
    va_Run p l e R s m args below meth c H locs cells slots mc ms g rest (Qc (Value.ref b :: As).toArray) free := by
  obtain ⟨⟨hrc, hrs, hfr, hlo, hws, hcw⟩, hcode, hini, hy, hlen, hl, hin, hse⟩ := cw
  have hK : Back l R p e below s args y 3 8 (PreOf R mc ms Pc) (PostOf Qc mc ms free) := va_backW (hh := hh) (bytes := bytes) (maxL := maxL) (ret := ret) hM hp.1 hrc hrs hfr hlo hws hcw (fun a' U hW => word_at hW (Or.inl (by first | rfl | simp [Cond.onTables, Cond.keeps, Cond.steady])) hini)
  obtain ⟨hx, hb, hml, ho, -⟩ := S
  obtain ⟨-, ⟨cellB, hcB, hoB, hclB⟩, hPc⟩ := hp
  intro T hT X
  obtain ⟨v, vm₁, ⟨U', l2, c2, s2⟩, hW₁, X', ⟨g', mk, t, L, e1, e2, hq, h1, hL, h2, h3⟩, st⟩ := vx_callVW X hx (C := C) (hh := hh) (bytes := bytes) (maxL := maxL) (ret := ret) ho hl hin hse hcode hy hK (by rw [hT]; exact hcB) hoB hclB hg (hsize.trans hml.symm) (argsL := As) (rest := rest) (fun sig h => hn.trans (hlen sig h)) hstack hW (by rw [hb]; exact hdg)
    (fun vm₁ hW₁ => ⟨hf.1, hf.2, hPc (T.setVm vm₁) hT hW₁⟩)
  dsimp only [Pt.U, Pt.locs, Pt.cells, Pt.slots] at X' e1 e2 h1 h2 h3 st
  subst h1; subst h2; subst h3
  exact ⟨v, (T.setVm vm₁).calling g' mk (Value.ref b :: As).toArray, t, U', L, hT, X', hL, e1, e2, hq, st⟩
section
variable {y : MethodName} {bytes cc : ByteArray} {maxL nL mc ms n index : Nat} {ret : Option FieldType} {ws : List Cond} {rm : Room} {Pc : Array Value → State → Prop} {Qc : Array Value → State → Outcome → State → Prop} {XC : String → State → State → Prop} {free : Addr → Prop} {Ts : List Cond} {own C : String} {b : Addr} {As rest : List Value} {g : JFrame}
theorem vx_runVX {hh : List (Nat × Nat × Nat × Nat)} (S : CallFix p m c cc nL s args Ts own) (hM : vx_Met l y ws rm Pc Qc XC mc ms free) (cw : vx_CVW R s args own C index y bytes maxL ret hh ws rm mc ms n) (hp : PreV s H C b Pc As)
    (hg : g.method = m) (hn : As.length = n) (hsize : g.locals.size = nL) (hstack : g.stack = As.reverse ++ .ref b :: rest) (hW : 2 * g.monitorRoom + (rest.map fun v => v.category).sum ≤ 8) (hdg : decode cc g.pc = .ok (.invokevirtual index, 3)) (hf : cells + mc ≤ R.cells ∧ slots + ms ≤ R.slots) :
    vx_Run p l e R s m args below meth c H locs cells slots mc ms g rest (Qc (Value.ref b :: As).toArray) XC free := by
  obtain ⟨⟨hrc, hrs, hfr, hlo, hws, hcw⟩, hcode, hini, hy, hlen, hl, hin, hse⟩ := cw
  have hK : vx_Back l R p e below s args y 3 8 (PreOf R mc ms Pc) (PostOf Qc mc ms free) (vx_Post XC mc ms free) := vx_backW (hh := hh) (bytes := bytes) (maxL := maxL) (ret := ret) hM hp.1 hrc hrs hfr hlo hws hcw (fun a' U hW => word_at hW (Or.inl (by first | rfl | simp [Cond.onTables, Cond.keeps, Cond.steady])) hini)
  obtain ⟨hx, hb, hml, ho, -⟩ := S
  obtain ⟨-, ⟨cellB, hcB, hoB, hclB⟩, hPc⟩ := hp
  intro T hT X
  rcases vx_callVX X hx (C := C) (hh := hh) (bytes := bytes) (maxL := maxL) (ret := ret) ho hl hin hse hcode hy hK (by rw [hT]; exact hcB) hoB hclB hg (hsize.trans hml.symm) (argsL := As) (rest := rest) (fun sig h => hn.trans (hlen sig h)) hstack hW (by rw [hb]; exact hdg)
    (fun vm₁ hW₁ => ⟨hf.1, hf.2, hPc (T.setVm vm₁) hT hW₁⟩) with ⟨v, vm₁, ⟨U', l2, c2, s2⟩, hW₁, X', ⟨g', mk, t, L, e1, e2, hq, h1, hL, h2, h3⟩, st⟩ | ⟨q, vm₁, ⟨U', l2, c2, s2⟩, hW₁, X', ⟨g', mk, t, L, E, ce, e1, e2, hq, hce, hcv, hcl, h1, hL, h2, h3⟩, st⟩
  · dsimp only [Pt.U, Pt.locs, Pt.cells, Pt.slots] at X' e1 e2 h1 h2 h3 st
    subst h1; subst h2; subst h3
    exact Or.inl ⟨v, (T.setVm vm₁).calling g' mk (Value.ref b :: As).toArray, t, U', L, hT, X', hL, e1, e2, hq, st⟩
  · dsimp only [Pt.U, Pt.locs, Pt.cells, Pt.slots] at X' e1 e2 h1 h2 h3 st hcl
    subst h1; subst h2; subst h3
    exact Or.inr ⟨q, (T.setVm vm₁).calling g' mk (Value.ref b :: As).toArray, t, U', L, E, ce, hT, X', hL, e1, e2, hq, hce, hcv, vx_cls hW₁ hcl, st⟩
theorem vx_runSX {hh : List (Nat × Nat × Nat × Nat)} (S : CallFix p m c cc nL s args Ts own) (hM : vx_Met l y ws rm Pc Qc XC mc ms free) (cw : vx_CSW R s args own index y bytes maxL ret hh ws rm mc ms n) (hp : PreS s H Pc As)
    (hg : g.method = m) (hn : As.length = n) (hsize : g.locals.size = nL) (hstack : g.stack = As.reverse ++ rest) (hW : 2 * g.monitorRoom + (rest.map fun v => v.category).sum ≤ 8) (hdg : decode cc g.pc = .ok (.invokestatic index, 3)) (hf : cells + mc ≤ R.cells ∧ slots + ms ≤ R.slots) :
    vx_Run p l e R s m args below meth c H locs cells slots mc ms g rest (Qc As.toArray) XC free := by
  obtain ⟨⟨hrc, hrs, hfr, hlo, hws, hcw⟩, hcode, hini, hy, hlen, hl, hstt⟩ := cw
  have hK : vx_Back l R p e below s args y 3 8 (PreOf R mc ms Pc) (PostOf Qc mc ms free) (vx_Post XC mc ms free) := vx_backW (hh := hh) (bytes := bytes) (maxL := maxL) (ret := ret) hM hp.1 hrc hrs hfr hlo hws hcw (fun a' U hW => word_at hW (Or.inl (by first | rfl | simp [Cond.onTables, Cond.keeps, Cond.steady])) hini)
  obtain ⟨hx, hb, hml, ho, -⟩ := S
  intro T hT X
  rcases vx_callSX X hx (hh := hh) (bytes := bytes) (maxL := maxL) (ret := ret) ho hl hstt hini hcode hy hK hg (hsize.trans hml.symm) (argsL := As) (rest := rest) (fun sig h => hn.trans (hlen sig h)) hstack hW (by rw [hb]; exact hdg)
    (fun vm₁ hW₁ => ⟨hf.1, hf.2, hp.2 (T.setVm vm₁) hT hW₁⟩) with ⟨v, vm₁, ⟨U', l2, c2, s2⟩, hW₁, X', ⟨g', mk, t, L, e1, e2, hq, h1, hL, h2, h3⟩, st⟩ | ⟨q, vm₁, ⟨U', l2, c2, s2⟩, hW₁, X', ⟨g', mk, t, L, E, ce, e1, e2, hq, hce, hcv, hcl, h1, hL, h2, h3⟩, st⟩
  · dsimp only [Pt.U, Pt.locs, Pt.cells, Pt.slots] at X' e1 e2 h1 h2 h3 st
    subst h1; subst h2; subst h3
    exact Or.inl ⟨v, (T.setVm vm₁).calling g' mk As.toArray, t, U', L, hT, X', hL, e1, e2, hq, st⟩
  · dsimp only [Pt.U, Pt.locs, Pt.cells, Pt.slots] at X' e1 e2 h1 h2 h3 st hcl
    subst h1; subst h2; subst h3
    exact Or.inr ⟨q, (T.setVm vm₁).calling g' mk As.toArray, t, U', L, E, ce, hT, X', hL, e1, e2, hq, hce, hcv, vx_cls hW₁ hcl, st⟩
end
end VXH
theorem vx_ofWH {l : Launch} {y : MethodName} {ws ws' : List Cond} {rm : Room} {Pc : Array Value → State → Prop} {Qc : Array Value → State → Outcome → State → Prop} {XC : String → State → State → Prop} {mc ms : Nat} {free : Addr → Prop} {cc : ByteArray} {maxL : Nat} {ret : Option FieldType} {hh : List (Nat × Nat × Nat × Nat)}
    (hy : plainName y.cls = true) (hw : ws = Cond.codeWith y cc maxL ret hh :: ws')
    (body : ∀ p e s m args below meth c s₁, BodyLoose p l y (headSpec ws rm) cc maxL ret e s m args below meth c s₁ → c.maxLocals = maxL → Pc args s →
      W p l e (headSpec ws rm).room s m args below meth c s.heap [] 0 0 (vx_MQ below Qc XC args s mc ms free) (entryFrame m args maxL)) : vx_Met l y ws rm Pc Qc XC mc ms free := by
  refine MetFree.of_bodyS (code := cc) (maxLocals := maxL) (ret := ret) hy ?_ ?_
  · intro args s m h hn
    obtain ⟨m9, meth, c, hn9, h1, h2, h3, h4, -, h5, h6, -⟩ := Cond.codeWith_spec (atoms_spec (ws := ws) h _ (by rw [hw]; exact List.mem_cons_self))
    cases hn.symm.trans hn9
    exact ⟨meth, c, h1, h2, h3, h4, h5, h6⟩
  · intro p e s m args below meth c s₁ B hml hP _
    have hh0 : s₁.heap = s.heap := by rw [B.state]; rfl
    obtain ⟨t, a1, o, b1, b2, b3⟩ := body p e s m args below meth c s₁ B hml hP s₁ hh0 (Stand.of_body B)
    exact ⟨t, o, a1, b1, b2, b3⟩
/-! ===== END ===== -/
end
section
/-! ===== BEGIN printed: names, fields, word lists, decode rows ===== -/
def RX0 : String := "NightRiders$Chain"
def TX0 : u_T := fun k => match k with
  | 0 => ("NightRiders$Chain", "riders", "[I", true)
  | 1 => ("NightRiders$Chain", "froms", "[I", true)
  | 2 => ("NightRiders$Chain", "tos", "[I", true)
  | 3 => ("NightRiders$Chain", "starts", "[I", true)
  | 4 => ("NightRiders$Chain", "ends", "[I", true)
  | 5 => ("NightRiders$Chain", "length", "I", false)
  | 6 => ("NightRiders$Chain", "kind", "I", false)
  | _ => ("NightRiders$Chain", "goal", "I", false)
def tyX0 : Nat → FieldType := fun k => match k with
  | 0 => .array .int
  | 1 => .array .int
  | 2 => .array .int
  | 3 => .array .int
  | 4 => .array .int
  | 5 => .int
  | 6 => .int
  | _ => .int
abbrev wsX00 : List Cond := u_ws RX0 TX0 8
theorem nmX0 : ∀ a, a < 8 → ∀ b, b < 8 → a ≠ b → (TX0 a).2.1 ≠ (TX0 b).2.1 := by decide +kernel
theorem tyX0_ok : ∀ k, k < 8 → parseFieldDescriptor (TX0 k).2.2.1 = some (tyX0 k) := by decide +kernel
abbrev cX0_init : ByteArray := prog_2_method_1_code
def yX0_init : MethodName := ⟨RX0, "<init>", "()V"⟩
abbrev cX0_open : ByteArray := prog_2_method_2_code
def yX0_open : MethodName := ⟨RX0, "open", "(IIII)V"⟩
abbrev cX0_close : ByteArray := prog_2_method_3_code
def yX0_close : MethodName := ⟨RX0, "close", "(III)V"⟩
abbrev cX0_isRiddenBy : ByteArray := prog_2_method_4_code
def yX0_isRiddenBy : MethodName := ⟨RX0, "isRiddenBy", "(II)Z"⟩
abbrev cX0_comesFrom : ByteArray := prog_2_method_5_code
def yX0_comesFrom : MethodName := ⟨RX0, "comesFrom", "(II)Z"⟩
abbrev cX0_fromOf : ByteArray := prog_2_method_6_code
def yX0_fromOf : MethodName := ⟨RX0, "fromOf", "(I)I"⟩
abbrev cX0_lastEnd : ByteArray := prog_2_method_7_code
def yX0_lastEnd : MethodName := ⟨RX0, "lastEnd", "()I"⟩
abbrev cX0_handsOn : ByteArray := prog_2_method_8_code
def yX0_handsOn : MethodName := ⟨RX0, "handsOn", "(I)I"⟩
abbrev cX0_take : ByteArray := prog_2_method_9_code
def yX0_take : MethodName := ⟨RX0, "take", "(LNightRiders$Chain;)V"⟩
def RX1 : String := "NightRiders$Leg"
def TX1 : u_T := fun k => match k with
  | 0 => ("NightRiders$Leg", "rider", "I", true)
  | 1 => ("NightRiders$Leg", "from", "I", true)
  | 2 => ("NightRiders$Leg", "starts", "I", true)
  | 3 => ("NightRiders$Leg", "atAhead", "I", true)
  | 4 => ("NightRiders$Leg", "freeAhead", "I", true)
  | 5 => ("NightRiders$Leg", "to", "I", false)
  | 6 => ("NightRiders$Leg", "ends", "I", false)
  | _ => ("NightRiders$Leg", "failed", "Z", false)
def tyX1 : Nat → FieldType := fun k => match k with
  | 0 => .int
  | 1 => .int
  | 2 => .int
  | 3 => .int
  | 4 => .int
  | 5 => .int
  | 6 => .int
  | _ => .boolean
abbrev wsX10 : List Cond := u_ws RX1 TX1 8
theorem nmX1 : ∀ a, a < 8 → ∀ b, b < 8 → a ≠ b → (TX1 a).2.1 ≠ (TX1 b).2.1 := by decide +kernel
theorem tyX1_ok : ∀ k, k < 8 → parseFieldDescriptor (TX1 k).2.2.1 = some (tyX1 k) := by decide +kernel
abbrev cX1_init : ByteArray := prog_3_method_1_code
def yX1_init : MethodName := ⟨RX1, "<init>", "(IIIIIII)V"⟩
def RX2 : String := "NightRiders$Request"
def TX2 : u_T := fun k => match k with
  | 0 => ("NightRiders$Request", "kind", "I", true)
  | 1 => ("NightRiders$Request", "from", "I", true)
  | 2 => ("NightRiders$Request", "to", "I", true)
  | 3 => ("NightRiders$Request", "ready", "I", true)
  | 4 => ("NightRiders$Request", "cold", "I", true)
  | 5 => ("NightRiders$Request", "legs", "[LNightRiders$Leg;", true)
  | 6 => ("NightRiders$Request", "legCount", "I", false)
  | 7 => ("NightRiders$Request", "sent", "Z", false)
  | _ => ("NightRiders$Request", "lost", "Z", false)
def tyX2 : Nat → FieldType := fun k => match k with
  | 0 => .int
  | 1 => .int
  | 2 => .int
  | 3 => .int
  | 4 => .int
  | 5 => .array (.object "NightRiders$Leg")
  | 6 => .int
  | 7 => .boolean
  | _ => .boolean
abbrev wsX20 : List Cond := u_ws RX2 TX2 9
theorem nmX2 : ∀ a, a < 9 → ∀ b, b < 9 → a ≠ b → (TX2 a).2.1 ≠ (TX2 b).2.1 := by decide +kernel
theorem tyX2_ok : ∀ k, k < 9 → parseFieldDescriptor (TX2 k).2.2.1 = some (tyX2 k) := by decide +kernel
abbrev cX2_init : ByteArray := prog_4_method_1_code
def yX2_init : MethodName := ⟨RX2, "<init>", "(IIIII)V"⟩
abbrev cX2_legAt : ByteArray := prog_4_method_2_code
def yX2_legAt : MethodName := ⟨RX2, "legAt", "(I)LNightRiders$Leg;"⟩
abbrev cX2_addLeg : ByteArray := prog_4_method_3_code
def yX2_addLeg : MethodName := ⟨RX2, "addLeg", "(LNightRiders$Leg;)V"⟩
abbrev cX2_lastEnd : ByteArray := prog_4_method_4_code
def yX2_lastEnd : MethodName := ⟨RX2, "lastEnd", "()I"⟩
abbrev cX2_cameWarm : ByteArray := prog_4_method_5_code
def yX2_cameWarm : MethodName := ⟨RX2, "cameWarm", "()Z"⟩
def RX3 : String := "NightRiders$Rider"
def TX3 : u_T := fun k => match k with
  | 0 => ("NightRiders$Rider", "home", "I", true)
  | 1 => ("NightRiders$Rider", "area", "I", true)
  | 2 => ("NightRiders$Rider", "dutyFrom", "I", true)
  | 3 => ("NightRiders$Rider", "dutyTo", "I", true)
  | 4 => ("NightRiders$Rider", "kinds", "I", true)
  | 5 => ("NightRiders$Rider", "ways", "[I", true)
  | 6 => ("NightRiders$Rider", "at", "I", false)
  | 7 => ("NightRiders$Rider", "free", "I", false)
  | 8 => ("NightRiders$Rider", "legsRidden", "I", false)
  | 9 => ("NightRiders$Rider", "boxMinutes", "I", false)
  | _ => ("NightRiders$Rider", "failed", "Z", false)
def tyX3 : Nat → FieldType := fun k => match k with
  | 0 => .int
  | 1 => .int
  | 2 => .int
  | 3 => .int
  | 4 => .int
  | 5 => .array .int
  | 6 => .int
  | 7 => .int
  | 8 => .int
  | 9 => .int
  | _ => .boolean
abbrev wsX30 : List Cond := u_ws RX3 TX3 11
theorem nmX3 : ∀ a, a < 11 → ∀ b, b < 11 → a ≠ b → (TX3 a).2.1 ≠ (TX3 b).2.1 := by decide +kernel
theorem tyX3_ok : ∀ k, k < 11 → parseFieldDescriptor (TX3 k).2.2.1 = some (tyX3 k) := by decide +kernel
abbrev cX3_init : ByteArray := prog_5_method_1_code
def yX3_init : MethodName := ⟨RX3, "<init>", "(IIIII)V"⟩
abbrev cX3_carries : ByteArray := prog_5_method_2_code
def yX3_carries : MethodName := ⟨RX3, "carries", "(I)Z"⟩
abbrev cX3_isOnDuty : ByteArray := prog_5_method_3_code
def yX3_isOnDuty : MethodName := ⟨RX3, "isOnDuty", "(I)Z"⟩
abbrev cX3_shortenWays : ByteArray := prog_5_method_4_code
def yX3_shortenWays : MethodName := ⟨RX3, "shortenWays", "()V"⟩
def RX4 : String := "NightRiders"
def TX4 : u_T := fun k => match k with
  | 0 => ("NightRiders", "roads", "[I", true)
  | 1 => ("NightRiders", "riders", "[LNightRiders$Rider;", true)
  | 2 => ("NightRiders", "requests", "[LNightRiders$Request;", true)
  | 3 => ("NightRiders", "trial", "LNightRiders$Chain;", true)
  | 4 => ("NightRiders", "chosen", "LNightRiders$Chain;", true)
  | 5 => ("NightRiders", "placeCount", "I", false)
  | 6 => ("NightRiders", "riderCount", "I", false)
  | 7 => ("NightRiders", "requestCount", "I", false)
  | 8 => ("NightRiders", "resting", "I", false)
  | _ => ("NightRiders", "lastSent", "I", false)
def tyX4 : Nat → FieldType := fun k => match k with
  | 0 => .array .int
  | 1 => .array (.object "NightRiders$Rider")
  | 2 => .array (.object "NightRiders$Request")
  | 3 => .object "NightRiders$Chain"
  | 4 => .object "NightRiders$Chain"
  | 5 => .int
  | 6 => .int
  | 7 => .int
  | 8 => .int
  | _ => .int
abbrev wsX40 : List Cond := u_ws RX4 TX4 10
theorem nmX4 : ∀ a, a < 10 → ∀ b, b < 10 → a ≠ b → (TX4 a).2.1 ≠ (TX4 b).2.1 := by decide +kernel
theorem tyX4_ok : ∀ k, k < 10 → parseFieldDescriptor (TX4 k).2.2.1 = some (tyX4 k) := by decide +kernel
abbrev cX4_init : ByteArray := prog_1_method_1_code
def yX4_init : MethodName := ⟨RX4, "<init>", "()V"⟩
abbrev cX4_place : ByteArray := prog_1_method_2_code
def yX4_place : MethodName := ⟨RX4, "place", "()I"⟩
abbrev cX4_road : ByteArray := prog_1_method_3_code
def yX4_road : MethodName := ⟨RX4, "road", "(III)Z"⟩
abbrev cX4_rider : ByteArray := prog_1_method_4_code
def yX4_rider : MethodName := ⟨RX4, "rider", "(IIIII)I"⟩
abbrev cX4_rest : ByteArray := prog_1_method_5_code
def yX4_rest : MethodName := ⟨RX4, "rest", "(I)I"⟩
abbrev cX4_count : ByteArray := prog_1_method_6_code
def yX4_count : MethodName := ⟨RX4, "count", "(I)I"⟩
abbrev cX4_way : ByteArray := prog_1_method_7_code
def yX4_way : MethodName := ⟨RX4, "way", "(III)I"⟩
abbrev cX4_of : ByteArray := prog_1_method_8_code
def yX4_of : MethodName := ⟨RX4, "of", "(II)I"⟩
abbrev cX4_duty : ByteArray := prog_1_method_9_code
def yX4_duty : MethodName := ⟨RX4, "duty", "(II)I"⟩
abbrev cX4_bare : ByteArray := prog_1_method_10_code
def yX4_bare : MethodName := ⟨RX4, "bare", "(II)I"⟩
abbrev cX4_call : ByteArray := prog_1_method_11_code
def yX4_call : MethodName := ⟨RX4, "call", "(IIIII)I"⟩
abbrev cX4_best : ByteArray := prog_1_method_12_code
def yX4_best : MethodName := ⟨RX4, "best", "(I)I"⟩
abbrev cX4_send : ByteArray := prog_1_method_13_code
def yX4_send : MethodName := ⟨RX4, "send", "(I)I"⟩
abbrev cX4_told : ByteArray := prog_1_method_14_code
def yX4_told : MethodName := ⟨RX4, "told", "(II)I"⟩
abbrev cX4_leg : ByteArray := prog_1_method_15_code
def yX4_leg : MethodName := ⟨RX4, "leg", "(III)I"⟩
abbrev cX4_hand : ByteArray := prog_1_method_16_code
def yX4_hand : MethodName := ⟨RX4, "hand", "(II)I"⟩
abbrev cX4_fail : ByteArray := prog_1_method_17_code
def yX4_fail : MethodName := ⟨RX4, "fail", "(III)I"⟩
abbrev cX4_next : ByteArray := prog_1_method_18_code
def yX4_next : MethodName := ⟨RX4, "next", "(II)I"⟩
abbrev cX4_isMinute : ByteArray := prog_1_method_19_code
def yX4_isMinute : MethodName := ⟨RX4, "isMinute", "(I)Z"⟩
abbrev cX4_isKind : ByteArray := prog_1_method_20_code
def yX4_isKind : MethodName := ⟨RX4, "isKind", "(I)Z"⟩
abbrev cX4_isPlace : ByteArray := prog_1_method_21_code
def yX4_isPlace : MethodName := ⟨RX4, "isPlace", "(I)Z"⟩
abbrev cX4_areBits : ByteArray := prog_1_method_22_code
def yX4_areBits : MethodName := ⟨RX4, "areBits", "(II)Z"⟩
abbrev cX4_hasBit : ByteArray := prog_1_method_23_code
def yX4_hasBit : MethodName := ⟨RX4, "hasBit", "(II)Z"⟩
abbrev cX4_riderAt : ByteArray := prog_1_method_24_code
def yX4_riderAt : MethodName := ⟨RX4, "riderAt", "(I)LNightRiders$Rider;"⟩
abbrev cX4_requestAt : ByteArray := prog_1_method_25_code
def yX4_requestAt : MethodName := ⟨RX4, "requestAt", "(I)LNightRiders$Request;"⟩
abbrev cX4_wayOf : ByteArray := prog_1_method_26_code
def yX4_wayOf : MethodName := ⟨RX4, "wayOf", "(LNightRiders$Rider;II)I"⟩
abbrev cX4_settleWays : ByteArray := prog_1_method_27_code
def yX4_settleWays : MethodName := ⟨RX4, "settleWays", "(LNightRiders$Rider;)V"⟩
abbrev cX4_roadWithin : ByteArray := prog_1_method_28_code
def yX4_roadWithin : MethodName := ⟨RX4, "roadWithin", "(III)I"⟩
abbrev cX4_thereFrom : ByteArray := prog_1_method_29_code
def yX4_thereFrom : MethodName := ⟨RX4, "thereFrom", "(LNightRiders$Rider;I)I"⟩
abbrev cX4_countRequests : ByteArray := prog_1_method_30_code
def yX4_countRequests : MethodName := ⟨RX4, "countRequests", "(I)I"⟩
abbrev cX4_isCounted : ByteArray := prog_1_method_31_code
def yX4_isCounted : MethodName := ⟨RX4, "isCounted", "(LNightRiders$Request;I)Z"⟩
abbrev cX4_lastOnDuty : ByteArray := prog_1_method_32_code
def yX4_lastOnDuty : MethodName := ⟨RX4, "lastOnDuty", "(II)I"⟩
abbrev cX4_findChain : ByteArray := prog_1_method_33_code
def yX4_findChain : MethodName := ⟨RX4, "findChain", "(LNightRiders$Request;II)Z"⟩
abbrev cX4_tryRiders : ByteArray := prog_1_method_34_code
def yX4_tryRiders : MethodName := ⟨RX4, "tryRiders", "(III)V"⟩
abbrev cX4_isTooLate : ByteArray := prog_1_method_35_code
def yX4_isTooLate : MethodName := ⟨RX4, "isTooLate", "(I)Z"⟩
abbrev cX4_waitsUntil : ByteArray := prog_1_method_36_code
def yX4_waitsUntil : MethodName := ⟨RX4, "waitsUntil", "(II)Z"⟩
abbrev cX4_tryEnds : ByteArray := prog_1_method_37_code
def yX4_tryEnds : MethodName := ⟨RX4, "tryEnds", "(ILNightRiders$Rider;I)V"⟩
abbrev cX4_tryEnd : ByteArray := prog_1_method_38_code
def yX4_tryEnd : MethodName := ⟨RX4, "tryEnd", "(ILNightRiders$Rider;II)V"⟩
abbrev cX4_keepIfBetter : ByteArray := prog_1_method_39_code
def yX4_keepIfBetter : MethodName := ⟨RX4, "keepIfBetter", "()V"⟩
abbrev cX4_rideChosen : ByteArray := prog_1_method_40_code
def yX4_rideChosen : MethodName := ⟨RX4, "rideChosen", "(LNightRiders$Request;)V"⟩
abbrev cX4_mayFail : ByteArray := prog_1_method_41_code
def yX4_mayFail : MethodName := ⟨RX4, "mayFail", "(LNightRiders$Request;II)Z"⟩
abbrev cX4_dropLegsBehind : ByteArray := prog_1_method_42_code
def yX4_dropLegsBehind : MethodName := ⟨RX4, "dropLegsBehind", "(LNightRiders$Request;I)V"⟩
abbrev cX4_failLeg : ByteArray := prog_1_method_43_code
def yX4_failLeg : MethodName := ⟨RX4, "failLeg", "(LNightRiders$Leg;I)V"⟩
def RX5 : String := "NightRidersModel"
def TX5 : u_T := fun k => match k with
  | 0 => ("NightRidersModel", "roads", "[I", true)
  | 1 => ("NightRidersModel", "places", "I", false)
  | 2 => ("NightRidersModel", "home", "[I", true)
  | 3 => ("NightRidersModel", "area", "[I", true)
  | 4 => ("NightRidersModel", "dutyFrom", "[I", true)
  | 5 => ("NightRidersModel", "dutyTo", "[I", true)
  | 6 => ("NightRidersModel", "kinds", "[I", true)
  | 7 => ("NightRidersModel", "at", "[I", true)
  | 8 => ("NightRidersModel", "free", "[I", true)
  | 9 => ("NightRidersModel", "failed", "[Z", true)
  | 10 => ("NightRidersModel", "rode", "[I", true)
  | 11 => ("NightRidersModel", "minutes", "[I", true)
  | 12 => ("NightRidersModel", "riders", "I", false)
  | 13 => ("NightRidersModel", "rest", "I", false)
  | 14 => ("NightRidersModel", "kind", "[I", true)
  | 15 => ("NightRidersModel", "from", "[I", true)
  | 16 => ("NightRidersModel", "to", "[I", true)
  | 17 => ("NightRidersModel", "ready", "[I", true)
  | 18 => ("NightRidersModel", "cold", "[I", true)
  | 19 => ("NightRidersModel", "state", "[I", true)
  | 20 => ("NightRidersModel", "calls", "I", false)
  | 21 => ("NightRidersModel", "latest", "I", false)
  | 22 => ("NightRidersModel", "legs", "[I", true)
  | 23 => ("NightRidersModel", "legMany", "[I", true)
  | 24 => ("NightRidersModel", "thrown", "I", false)
  | 25 => ("NightRidersModel", "far", "[I", true)
  | 26 => ("NightRidersModel", "tryRider", "[I", true)
  | 27 => ("NightRidersModel", "tryPlace", "[I", true)
  | 28 => ("NightRidersModel", "tryStart", "[I", true)
  | 29 => ("NightRidersModel", "tryEnd", "[I", true)
  | 30 => ("NightRidersModel", "bestRider", "[I", true)
  | 31 => ("NightRidersModel", "bestPlace", "[I", true)
  | 32 => ("NightRidersModel", "bestStart", "[I", true)
  | 33 => ("NightRidersModel", "bestEnd", "[I", true)
  | _ => ("NightRidersModel", "bestMany", "I", false)
def tyX5 : Nat → FieldType := fun k => match k with
  | 0 => .array .int
  | 1 => .int
  | 2 => .array .int
  | 3 => .array .int
  | 4 => .array .int
  | 5 => .array .int
  | 6 => .array .int
  | 7 => .array .int
  | 8 => .array .int
  | 9 => .array .boolean
  | 10 => .array .int
  | 11 => .array .int
  | 12 => .int
  | 13 => .int
  | 14 => .array .int
  | 15 => .array .int
  | 16 => .array .int
  | 17 => .array .int
  | 18 => .array .int
  | 19 => .array .int
  | 20 => .int
  | 21 => .int
  | 22 => .array .int
  | 23 => .array .int
  | 24 => .int
  | 25 => .array .int
  | 26 => .array .int
  | 27 => .array .int
  | 28 => .array .int
  | 29 => .array .int
  | 30 => .array .int
  | 31 => .array .int
  | 32 => .array .int
  | 33 => .array .int
  | _ => .int
abbrev wsX50 : List Cond := u_ws RX5 TX5 35
theorem nmX5 : ∀ a, a < 35 → ∀ b, b < 35 → a ≠ b → (TX5 a).2.1 ≠ (TX5 b).2.1 := by decide +kernel
theorem tyX5_ok : ∀ k, k < 35 → parseFieldDescriptor (TX5 k).2.2.1 = some (tyX5 k) := by decide +kernel
abbrev cX5_init : ByteArray := prog_7_method_1_code
def yX5_init : MethodName := ⟨RX5, "<init>", "()V"⟩
abbrev cX5_thrown : ByteArray := prog_7_method_2_code
def yX5_thrown : MethodName := ⟨RX5, "thrown", "()I"⟩
abbrev cX5_in : ByteArray := prog_7_method_3_code
def yX5_in : MethodName := ⟨RX5, "in", "(III)Z"⟩
abbrev cX5_isPlace : ByteArray := prog_7_method_4_code
def yX5_isPlace : MethodName := ⟨RX5, "isPlace", "(I)Z"⟩
abbrev cX5_isRider : ByteArray := prog_7_method_5_code
def yX5_isRider : MethodName := ⟨RX5, "isRider", "(I)Z"⟩
abbrev cX5_isCall : ByteArray := prog_7_method_6_code
def yX5_isCall : MethodName := ⟨RX5, "isCall", "(I)Z"⟩
abbrev cX5_place : ByteArray := prog_7_method_7_code
def yX5_place : MethodName := ⟨RX5, "place", "()I"⟩
abbrev cX5_road : ByteArray := prog_7_method_8_code
def yX5_road : MethodName := ⟨RX5, "road", "(III)Z"⟩
abbrev cX5_rider : ByteArray := prog_7_method_9_code
def yX5_rider : MethodName := ⟨RX5, "rider", "(IIIII)I"⟩
abbrev cX5_rest : ByteArray := prog_7_method_10_code
def yX5_rest : MethodName := ⟨RX5, "rest", "(I)I"⟩
abbrev cX5_wayOf : ByteArray := prog_7_method_11_code
def yX5_wayOf : MethodName := ⟨RX5, "wayOf", "(III)I"⟩
abbrev cX5_way : ByteArray := prog_7_method_12_code
def yX5_way : MethodName := ⟨RX5, "way", "(III)I"⟩
abbrev cX5_endOf : ByteArray := prog_7_method_13_code
def yX5_endOf : MethodName := ⟨RX5, "endOf", "(I)I"⟩
abbrev cX5_count : ByteArray := prog_7_method_14_code
def yX5_count : MethodName := ⟨RX5, "count", "(I)I"⟩
abbrev cX5_of : ByteArray := prog_7_method_15_code
def yX5_of : MethodName := ⟨RX5, "of", "(II)I"⟩
abbrev cX5_mayCarry : ByteArray := prog_7_method_16_code
def yX5_mayCarry : MethodName := ⟨RX5, "mayCarry", "(II)Z"⟩
abbrev cX5_onDuty : ByteArray := prog_7_method_17_code
def yX5_onDuty : MethodName := ⟨RX5, "onDuty", "(II)I"⟩
abbrev cX5_duty : ByteArray := prog_7_method_18_code
def yX5_duty : MethodName := ⟨RX5, "duty", "(II)I"⟩
abbrev cX5_bare : ByteArray := prog_7_method_19_code
def yX5_bare : MethodName := ⟨RX5, "bare", "(II)I"⟩
abbrev cX5_isBetter : ByteArray := prog_7_method_20_code
def yX5_isBetter : MethodName := ⟨RX5, "isBetter", "(I)Z"⟩
abbrev cX5_tryLeg : ByteArray := prog_7_method_21_code
def yX5_tryLeg : MethodName := ⟨RX5, "tryLeg", "(IIIIII)V"⟩
abbrev cX5_findBest : ByteArray := prog_7_method_22_code
def yX5_findBest : MethodName := ⟨RX5, "findBest", "(IIII)Z"⟩
abbrev cX5_ride : ByteArray := prog_7_method_23_code
def yX5_ride : MethodName := ⟨RX5, "ride", "(II)V"⟩
abbrev cX5_call : ByteArray := prog_7_method_24_code
def yX5_call : MethodName := ⟨RX5, "call", "(IIIII)I"⟩
abbrev cX5_best : ByteArray := prog_7_method_25_code
def yX5_best : MethodName := ⟨RX5, "best", "(I)I"⟩
abbrev cX5_send : ByteArray := prog_7_method_26_code
def yX5_send : MethodName := ⟨RX5, "send", "(I)I"⟩
abbrev cX5_told : ByteArray := prog_7_method_27_code
def yX5_told : MethodName := ⟨RX5, "told", "(II)I"⟩
abbrev cX5_leg : ByteArray := prog_7_method_28_code
def yX5_leg : MethodName := ⟨RX5, "leg", "(III)I"⟩
abbrev cX5_hand : ByteArray := prog_7_method_29_code
def yX5_hand : MethodName := ⟨RX5, "hand", "(II)I"⟩
abbrev cX5_fail : ByteArray := prog_7_method_30_code
def yX5_fail : MethodName := ⟨RX5, "fail", "(III)I"⟩
abbrev cX5_next : ByteArray := prog_7_method_31_code
def yX5_next : MethodName := ⟨RX5, "next", "(II)I"⟩
def RJx145de : String := "java/io/Serializable"
def TJx145de : u_T := fun k => match k with
  | _ => ("", "", "", false)
def tyJx145de : Nat → FieldType := fun k => match k with
  | _ => .int
abbrev wsJx145de0 : List Cond := u_ws RJx145de TJx145de 0
theorem nmJx145de : ∀ a, a < 0 → ∀ b, b < 0 → a ≠ b → (TJx145de a).2.1 ≠ (TJx145de b).2.1 := by decide +kernel
theorem tyJx145de_ok : ∀ k, k < 0 → parseFieldDescriptor (TJx145de k).2.2.1 = some (tyJx145de k) := by decide +kernel
def RJ9 : String := "java/lang/Math"
def TJ9 : u_T := fun k => match k with
  | _ => ("", "", "", false)
def tyJ9 : Nat → FieldType := fun k => match k with
  | _ => .int
abbrev wsJ90 : List Cond := u_ws RJ9 TJ9 0
theorem nmJ9 : ∀ a, a < 0 → ∀ b, b < 0 → a ≠ b → (TJ9 a).2.1 ≠ (TJ9 b).2.1 := by decide +kernel
theorem tyJ9_ok : ∀ k, k < 0 → parseFieldDescriptor (TJ9 k).2.2.1 = some (tyJ9 k) := by decide +kernel
abbrev cJ9_max_7cf53 : ByteArray := prog_10_method_65_code
def yJ9_max_7cf53 : MethodName := ⟨RJ9, "max", "(II)I"⟩
def RJ0 : String := "java/lang/String"
def TJ0 : u_T := fun k => match k with
  | _ => ("", "", "", false)
def tyJ0 : Nat → FieldType := fun k => match k with
  | _ => .int
abbrev wsJ00 : List Cond := u_ws RJ0 TJ0 0
theorem nmJ0 : ∀ a, a < 0 → ∀ b, b < 0 → a ≠ b → (TJ0 a).2.1 ≠ (TJ0 b).2.1 := by decide +kernel
theorem tyJ0_ok : ∀ k, k < 0 → parseFieldDescriptor (TJ0 k).2.2.1 = some (tyJ0 k) := by decide +kernel
def RL : String := "NightRidersLaw"
abbrev cL_of : ByteArray := method_3_code
def yL_of : MethodName := ⟨RL, "of", "(LNightRiders;II[J)I"⟩
abbrev cL_law : ByteArray := code
def yL_law : MethodName := ⟨RL, "law", "([I)Z"⟩
def wsX0_init : List Cond := .code yX0_init cX0_init 1 none :: ([.methodLink RX0 3 objectInit, .instanceMethod objectInit, .code objectInit ⟨#[0xb1]⟩ 1 none, .arrayClass .int, .fieldLink RX0 9 "NightRiders$Chain" "riders" "[I", .fieldLink RX0 15 "NightRiders$Chain" "froms" "[I", .fieldLink RX0 18 "NightRiders$Chain" "tos" "[I", .fieldLink RX0 21 "NightRiders$Chain" "starts" "[I", .fieldLink RX0 24 "NightRiders$Chain" "ends" "[I", .fieldLink RX0 27 "NightRiders$Chain" "length" "I", .fieldLink RX0 31 "NightRiders$Chain" "kind" "I", .fieldLink RX0 34 "NightRiders$Chain" "goal" "I"] ++ wsX00)
def wsX0_open : List Cond := .code yX0_open cX0_open 5 none :: ([.fieldLink RX0 9 "NightRiders$Chain" "riders" "[I", .fieldLink RX0 15 "NightRiders$Chain" "froms" "[I", .fieldLink RX0 21 "NightRiders$Chain" "starts" "[I"] ++ wsX00)
def wsX0_close : List Cond := .code yX0_close cX0_close 4 none :: ([.fieldLink RX0 18 "NightRiders$Chain" "tos" "[I", .fieldLink RX0 24 "NightRiders$Chain" "ends" "[I", .fieldLink RX0 27 "NightRiders$Chain" "length" "I"] ++ wsX00)
def wsX0_isRiddenBy : List Cond := .code yX0_isRiddenBy cX0_isRiddenBy 4 (some .boolean) :: ([.fieldLink RX0 9 "NightRiders$Chain" "riders" "[I"] ++ wsX00)
def wsX0_comesFrom : List Cond := .code yX0_comesFrom cX0_comesFrom 4 (some .boolean) :: ([.fieldLink RX0 15 "NightRiders$Chain" "froms" "[I"] ++ wsX00)
def wsX0_fromOf : List Cond := .code yX0_fromOf cX0_fromOf 2 (some .int) :: ([.fieldLink RX0 15 "NightRiders$Chain" "froms" "[I"] ++ wsX00)
def wsX0_lastEnd : List Cond := .code yX0_lastEnd cX0_lastEnd 1 (some .int) :: ([.fieldLink RX0 27 "NightRiders$Chain" "length" "I", .fieldLink RX0 24 "NightRiders$Chain" "ends" "[I"] ++ wsX00)
def wsX0_handsOn : List Cond := .code yX0_handsOn cX0_handsOn 2 (some .int) :: ([.fieldLink RX0 27 "NightRiders$Chain" "length" "I", .fieldLink RX0 21 "NightRiders$Chain" "starts" "[I", .methodLink RX0 37 yX0_lastEnd, .instanceMethod yX0_lastEnd, .selects RX0 yX0_lastEnd yX0_lastEnd, .initialized RX0, .code yX0_lastEnd cX0_lastEnd 1 (some .int), .fieldLink RX0 24 "NightRiders$Chain" "ends" "[I"] ++ wsX00)
def wsX0_take : List Cond := .code yX0_take cX0_take 3 none :: ([.fieldLink RX0 9 "NightRiders$Chain" "riders" "[I", .fieldLink RX0 15 "NightRiders$Chain" "froms" "[I", .fieldLink RX0 18 "NightRiders$Chain" "tos" "[I", .fieldLink RX0 21 "NightRiders$Chain" "starts" "[I", .fieldLink RX0 24 "NightRiders$Chain" "ends" "[I", .fieldLink RX0 27 "NightRiders$Chain" "length" "I"] ++ wsX00)
def wsX1_init : List Cond := .code yX1_init cX1_init 8 none :: ([.methodLink RX1 1 objectInit, .instanceMethod objectInit, .code objectInit ⟨#[0xb1]⟩ 1 none, .fieldLink RX1 7 "NightRiders$Leg" "failed" "Z", .fieldLink RX1 13 "NightRiders$Leg" "rider" "I", .fieldLink RX1 17 "NightRiders$Leg" "from" "I", .fieldLink RX1 20 "NightRiders$Leg" "to" "I", .fieldLink RX1 23 "NightRiders$Leg" "starts" "I", .fieldLink RX1 26 "NightRiders$Leg" "ends" "I", .fieldLink RX1 29 "NightRiders$Leg" "atAhead" "I", .fieldLink RX1 32 "NightRiders$Leg" "freeAhead" "I"] ++ wsX10)
def wsX2_init : List Cond := .code yX2_init cX2_init 6 none :: ([.methodLink RX2 3 objectInit, .instanceMethod objectInit, .code objectInit ⟨#[0xb1]⟩ 1 none, .classLink RX2 9 RX1, .fieldLink RX2 11 "NightRiders$Request" "legs" "[LNightRiders$Leg;", .fieldLink RX2 17 "NightRiders$Request" "legCount" "I", .fieldLink RX2 21 "NightRiders$Request" "sent" "Z", .fieldLink RX2 25 "NightRiders$Request" "lost" "Z", .fieldLink RX2 28 "NightRiders$Request" "kind" "I", .fieldLink RX2 31 "NightRiders$Request" "from" "I", .fieldLink RX2 34 "NightRiders$Request" "to" "I", .fieldLink RX2 37 "NightRiders$Request" "ready" "I", .fieldLink RX2 40 "NightRiders$Request" "cold" "I"] ++ wsX20)
def wsX2_legAt : List Cond := .code yX2_legAt cX2_legAt 2 (some (.object "NightRiders$Leg")) :: ([.fieldLink RX2 17 "NightRiders$Request" "legCount" "I", .fieldLink RX2 11 "NightRiders$Request" "legs" "[LNightRiders$Leg;"] ++ wsX20)
def wsX2_addLeg : List Cond := .code yX2_addLeg cX2_addLeg 2 none :: ([.fieldLink RX2 17 "NightRiders$Request" "legCount" "I", .fieldLink RX2 11 "NightRiders$Request" "legs" "[LNightRiders$Leg;"] ++ wsX20)
def wsX2_lastEnd : List Cond := .code yX2_lastEnd cX2_lastEnd 2 (some .int) :: ([.fieldLink RX2 17 "NightRiders$Request" "legCount" "I", .fieldLink RX2 47 "NightRiders$Leg" "ends" "I", .methodLink RX2 43 yX2_legAt, .instanceMethod yX2_legAt, .selects RX2 yX2_legAt yX2_legAt, .initialized RX2, .code yX2_legAt cX2_legAt 2 (some (.object "NightRiders$Leg")), .fieldLink RX2 11 "NightRiders$Request" "legs" "[LNightRiders$Leg;"] ++ wsX20 ++ wsX10)
def wsX2_cameWarm : List Cond := .code yX2_cameWarm cX2_cameWarm 1 (some .boolean) :: ([.fieldLink RX2 21 "NightRiders$Request" "sent" "Z", .fieldLink RX2 25 "NightRiders$Request" "lost" "Z", .fieldLink RX2 37 "NightRiders$Request" "ready" "I", .fieldLink RX2 40 "NightRiders$Request" "cold" "I", .methodLink RX2 50 yX2_lastEnd, .instanceMethod yX2_lastEnd, .selects RX2 yX2_lastEnd yX2_lastEnd, .initialized RX2, .code yX2_lastEnd cX2_lastEnd 2 (some .int), .fieldLink RX2 17 "NightRiders$Request" "legCount" "I", .fieldLink RX2 47 "NightRiders$Leg" "ends" "I", .methodLink RX2 43 yX2_legAt, .instanceMethod yX2_legAt, .selects RX2 yX2_legAt yX2_legAt, .code yX2_legAt cX2_legAt 2 (some (.object "NightRiders$Leg")), .fieldLink RX2 11 "NightRiders$Request" "legs" "[LNightRiders$Leg;"] ++ wsX20 ++ wsX10)
def wsX3_init : List Cond := .code yX3_init cX3_init 6 none :: ([.methodLink RX3 3 objectInit, .instanceMethod objectInit, .code objectInit ⟨#[0xb1]⟩ 1 none, .arrayClass .int, .fieldLink RX3 9 "NightRiders$Rider" "ways" "[I", .fieldLink RX3 15 "NightRiders$Rider" "legsRidden" "I", .fieldLink RX3 19 "NightRiders$Rider" "boxMinutes" "I", .fieldLink RX3 22 "NightRiders$Rider" "failed" "Z", .fieldLink RX3 26 "NightRiders$Rider" "home" "I", .fieldLink RX3 29 "NightRiders$Rider" "area" "I", .fieldLink RX3 32 "NightRiders$Rider" "dutyFrom" "I", .fieldLink RX3 35 "NightRiders$Rider" "dutyTo" "I", .fieldLink RX3 38 "NightRiders$Rider" "kinds" "I", .fieldLink RX3 41 "NightRiders$Rider" "at" "I", .fieldLink RX3 44 "NightRiders$Rider" "free" "I"] ++ wsX30)
def wsX4_hasBit : List Cond := .code yX4_hasBit cX4_hasBit 2 (some .boolean) :: ([])
def wsX3_carries : List Cond := .code yX3_carries cX3_carries 2 (some .boolean) :: ([.fieldLink RX3 22 "NightRiders$Rider" "failed" "Z", .fieldLink RX3 38 "NightRiders$Rider" "kinds" "I", .static yX4_hasBit, .initialized RX4, .code yX4_hasBit cX4_hasBit 2 (some .boolean)] ++ wsX30)
def wsX3_isOnDuty : List Cond := .code yX3_isOnDuty cX3_isOnDuty 2 (some .boolean) :: ([.fieldLink RX3 32 "NightRiders$Rider" "dutyFrom" "I", .fieldLink RX3 35 "NightRiders$Rider" "dutyTo" "I"] ++ wsX30)
def wsX3_shortenWays : List Cond := .code yX3_shortenWays cX3_shortenWays 7 none :: ([.fieldLink RX3 9 "NightRiders$Rider" "ways" "[I"] ++ wsX30)
def wsX4_init_r1 : List Cond := [Cond.methodLink RX4 3 objectInit, Cond.instanceMethod objectInit, Cond.code objectInit ⟨#[0xb1]⟩ 1 none, Cond.arrayClass .int, Cond.fieldLink RX4 9 "NightRiders" "roads" "[I", Cond.classLink RX4 13 RX3, Cond.fieldLink RX4 15 "NightRiders" "riders" "[LNightRiders$Rider;", Cond.classLink RX4 19 RX2, Cond.fieldLink RX4 21 "NightRiders" "requests" "[LNightRiders$Request;", Cond.classLink RX4 25 RX0, Cond.instantiable RX0 8, Cond.initialized RX0, Cond.fieldLink RX4 28 "NightRiders" "trial" "LNightRiders$Chain;", Cond.fieldLink RX4 32 "NightRiders" "chosen" "LNightRiders$Chain;", Cond.fieldLink RX4 35 "NightRiders" "placeCount" "I", Cond.fieldLink RX4 39 "NightRiders" "riderCount" "I", Cond.fieldLink RX4 42 "NightRiders" "requestCount" "I", Cond.fieldLink RX4 45 "NightRiders" "resting" "I", Cond.fieldLink RX4 48 "NightRiders" "lastSent" "I", Cond.instanceMethod yX0_init, Cond.code yX0_init cX0_init 1 none, Cond.methodLink RX0 3 objectInit, Cond.fieldLink RX0 9 "NightRiders$Chain" "riders" "[I", Cond.fieldLink RX0 15 "NightRiders$Chain" "froms" "[I"]
def wsX4_init_r2 : List Cond := [Cond.fieldLink RX0 18 "NightRiders$Chain" "tos" "[I", Cond.fieldLink RX0 21 "NightRiders$Chain" "starts" "[I", Cond.fieldLink RX0 24 "NightRiders$Chain" "ends" "[I", Cond.fieldLink RX0 27 "NightRiders$Chain" "length" "I", Cond.fieldLink RX0 31 "NightRiders$Chain" "kind" "I", Cond.fieldLink RX0 34 "NightRiders$Chain" "goal" "I"]
def wsX4_init : List Cond := .code yX4_init cX4_init 1 none :: ((wsX4_init_r1 ++ wsX4_init_r2) ++ wsX40 ++ wsX00)
def wsX4_place : List Cond := .code yX4_place cX4_place 1 (some .int) :: ([.fieldLink RX4 35 "NightRiders" "placeCount" "I"] ++ wsX40)
def wsX4_isPlace : List Cond := .code yX4_isPlace cX4_isPlace 2 (some .boolean) :: ([.fieldLink RX4 35 "NightRiders" "placeCount" "I"] ++ wsX40)
def wsX4_riderAt : List Cond := .code yX4_riderAt cX4_riderAt 2 (some (.object "NightRiders$Rider")) :: ([.fieldLink RX4 39 "NightRiders" "riderCount" "I", .fieldLink RX4 15 "NightRiders" "riders" "[LNightRiders$Rider;"] ++ wsX40)
def wsX4_roadWithin : List Cond := .code yX4_roadWithin cX4_roadWithin 5 (some .int) :: ([.fieldLink RX4 9 "NightRiders" "roads" "[I", .methodLink RX4 51 yX4_isPlace, .instanceMethod yX4_isPlace, .selects RX4 yX4_isPlace yX4_isPlace, .initialized RX4, .code yX4_isPlace cX4_isPlace 2 (some .boolean), .fieldLink RX4 35 "NightRiders" "placeCount" "I", .methodLink RX4 67 yX4_hasBit, .static yX4_hasBit, .code yX4_hasBit cX4_hasBit 2 (some .boolean)] ++ wsX40)
def wsX4_settleWays : List Cond := .code yX4_settleWays cX4_settleWays 4 none :: ([.fieldLink RX4 214 "NightRiders$Rider" "ways" "[I", .fieldLink RX4 110 "NightRiders$Rider" "area" "I", .methodLink RX4 217 yX4_roadWithin, .instanceMethod yX4_roadWithin, .selects RX4 yX4_roadWithin yX4_roadWithin, .initialized RX4, .code yX4_roadWithin cX4_roadWithin 5 (some .int), .fieldLink RX4 9 "NightRiders" "roads" "[I", .methodLink RX4 51 yX4_isPlace, .instanceMethod yX4_isPlace, .selects RX4 yX4_isPlace yX4_isPlace, .code yX4_isPlace cX4_isPlace 2 (some .boolean), .fieldLink RX4 35 "NightRiders" "placeCount" "I", .methodLink RX4 67 yX4_hasBit, .static yX4_hasBit, .code yX4_hasBit cX4_hasBit 2 (some .boolean), .methodLink RX4 221 yX3_shortenWays, .instanceMethod yX3_shortenWays, .selects RX3 yX3_shortenWays yX3_shortenWays, .initialized RX3, .code yX3_shortenWays cX3_shortenWays 7 none, .fieldLink RX3 9 "NightRiders$Rider" "ways" "[I"] ++ wsX30 ++ wsX40)
def wsX4_road_r1 : List Cond := [Cond.fieldLink RX4 9 "NightRiders" "roads" "[I", Cond.fieldLink RX4 39 "NightRiders" "riderCount" "I", Cond.methodLink RX4 51 yX4_isPlace, Cond.instanceMethod yX4_isPlace, Cond.selects RX4 yX4_isPlace yX4_isPlace, Cond.initialized RX4, Cond.code yX4_isPlace cX4_isPlace 2 (some .boolean), Cond.fieldLink RX4 35 "NightRiders" "placeCount" "I", Cond.methodLink RX4 55 yX4_riderAt, Cond.instanceMethod yX4_riderAt, Cond.selects RX4 yX4_riderAt yX4_riderAt, Cond.code yX4_riderAt cX4_riderAt 2 (some (.object "NightRiders$Rider")), Cond.fieldLink RX4 15 "NightRiders" "riders" "[LNightRiders$Rider;", Cond.methodLink RX4 59 yX4_settleWays, Cond.instanceMethod yX4_settleWays, Cond.selects RX4 yX4_settleWays yX4_settleWays, Cond.code yX4_settleWays cX4_settleWays 4 none, Cond.fieldLink RX4 214 "NightRiders$Rider" "ways" "[I", Cond.fieldLink RX4 110 "NightRiders$Rider" "area" "I", Cond.methodLink RX4 217 yX4_roadWithin, Cond.instanceMethod yX4_roadWithin, Cond.selects RX4 yX4_roadWithin yX4_roadWithin, Cond.code yX4_roadWithin cX4_roadWithin 5 (some .int), Cond.methodLink RX4 67 yX4_hasBit]
def wsX4_road_r2 : List Cond := [Cond.static yX4_hasBit, Cond.code yX4_hasBit cX4_hasBit 2 (some .boolean), Cond.methodLink RX4 221 yX3_shortenWays, Cond.instanceMethod yX3_shortenWays, Cond.selects RX3 yX3_shortenWays yX3_shortenWays, Cond.initialized RX3, Cond.code yX3_shortenWays cX3_shortenWays 7 none, Cond.fieldLink RX3 9 "NightRiders$Rider" "ways" "[I"]
def wsX4_road : List Cond := .code yX4_road cX4_road 6 (some .boolean) :: ((wsX4_road_r1 ++ wsX4_road_r2) ++ wsX40 ++ wsX30)
def wsX4_areBits : List Cond := .code yX4_areBits cX4_areBits 2 (some .boolean) :: ([])
def wsX4_isMinute : List Cond := .code yX4_isMinute cX4_isMinute 1 (some .boolean) :: ([])
def wsX4_rider_r1 : List Cond := [Cond.fieldLink RX4 39 "NightRiders" "riderCount" "I", Cond.fieldLink RX4 35 "NightRiders" "placeCount" "I", Cond.classLink RX4 13 RX3, Cond.instantiable RX3 11, Cond.initialized RX3, Cond.fieldLink RX4 15 "NightRiders" "riders" "[LNightRiders$Rider;", Cond.methodLink RX4 51 yX4_isPlace, Cond.instanceMethod yX4_isPlace, Cond.selects RX4 yX4_isPlace yX4_isPlace, Cond.initialized RX4, Cond.code yX4_isPlace cX4_isPlace 2 (some .boolean), Cond.methodLink RX4 63 yX4_areBits, Cond.static yX4_areBits, Cond.code yX4_areBits cX4_areBits 2 (some .boolean), Cond.methodLink RX4 67 yX4_hasBit, Cond.static yX4_hasBit, Cond.code yX4_hasBit cX4_hasBit 2 (some .boolean), Cond.methodLink RX4 70 yX4_isMinute, Cond.static yX4_isMinute, Cond.code yX4_isMinute cX4_isMinute 1 (some .boolean), Cond.methodLink RX4 73 yX3_init, Cond.instanceMethod yX3_init, Cond.code yX3_init cX3_init 6 none, Cond.methodLink RX3 3 objectInit]
def wsX4_rider_r2 : List Cond := [Cond.instanceMethod objectInit, Cond.code objectInit ⟨#[0xb1]⟩ 1 none, Cond.arrayClass .int, Cond.fieldLink RX3 9 "NightRiders$Rider" "ways" "[I", Cond.fieldLink RX3 15 "NightRiders$Rider" "legsRidden" "I", Cond.fieldLink RX3 19 "NightRiders$Rider" "boxMinutes" "I", Cond.fieldLink RX3 22 "NightRiders$Rider" "failed" "Z", Cond.fieldLink RX3 26 "NightRiders$Rider" "home" "I", Cond.fieldLink RX3 29 "NightRiders$Rider" "area" "I", Cond.fieldLink RX3 32 "NightRiders$Rider" "dutyFrom" "I", Cond.fieldLink RX3 35 "NightRiders$Rider" "dutyTo" "I", Cond.fieldLink RX3 38 "NightRiders$Rider" "kinds" "I", Cond.fieldLink RX3 41 "NightRiders$Rider" "at" "I", Cond.fieldLink RX3 44 "NightRiders$Rider" "free" "I", Cond.methodLink RX4 59 yX4_settleWays, Cond.instanceMethod yX4_settleWays, Cond.selects RX4 yX4_settleWays yX4_settleWays, Cond.code yX4_settleWays cX4_settleWays 4 none, Cond.fieldLink RX4 214 "NightRiders$Rider" "ways" "[I", Cond.fieldLink RX4 110 "NightRiders$Rider" "area" "I", Cond.methodLink RX4 217 yX4_roadWithin, Cond.instanceMethod yX4_roadWithin, Cond.selects RX4 yX4_roadWithin yX4_roadWithin, Cond.code yX4_roadWithin cX4_roadWithin 5 (some .int)]
def wsX4_rider_r3 : List Cond := [Cond.fieldLink RX4 9 "NightRiders" "roads" "[I", Cond.methodLink RX4 221 yX3_shortenWays, Cond.instanceMethod yX3_shortenWays, Cond.selects RX3 yX3_shortenWays yX3_shortenWays, Cond.code yX3_shortenWays cX3_shortenWays 7 none]
def wsX4_rider : List Cond := .code yX4_rider cX4_rider 7 (some .int) :: ((wsX4_rider_r1 ++ (wsX4_rider_r2 ++ wsX4_rider_r3)) ++ wsX40 ++ wsX30)
def wsX4_rest : List Cond := .code yX4_rest cX4_rest 3 (some .int) :: ([.fieldLink RX4 45 "NightRiders" "resting" "I"] ++ wsX40)
def wsX4_requestAt : List Cond := .code yX4_requestAt cX4_requestAt 2 (some (.object "NightRiders$Request")) :: ([.fieldLink RX4 42 "NightRiders" "requestCount" "I", .fieldLink RX4 21 "NightRiders" "requests" "[LNightRiders$Request;"] ++ wsX40)
def wsX4_isCounted : List Cond := .code yX4_isCounted cX4_isCounted 2 (some .boolean) :: ([.fieldLink RX4 141 "NightRiders$Request" "sent" "Z", .fieldLink RX4 172 "NightRiders$Request" "lost" "Z", .methodLink RX4 231 yX2_cameWarm, .instanceMethod yX2_cameWarm, .selects RX2 yX2_cameWarm yX2_cameWarm, .initialized RX2, .code yX2_cameWarm cX2_cameWarm 1 (some .boolean), .fieldLink RX2 21 "NightRiders$Request" "sent" "Z", .fieldLink RX2 25 "NightRiders$Request" "lost" "Z", .fieldLink RX2 37 "NightRiders$Request" "ready" "I", .fieldLink RX2 40 "NightRiders$Request" "cold" "I", .methodLink RX2 50 yX2_lastEnd, .instanceMethod yX2_lastEnd, .selects RX2 yX2_lastEnd yX2_lastEnd, .code yX2_lastEnd cX2_lastEnd 2 (some .int), .fieldLink RX2 17 "NightRiders$Request" "legCount" "I", .fieldLink RX2 47 "NightRiders$Leg" "ends" "I", .methodLink RX2 43 yX2_legAt, .instanceMethod yX2_legAt, .selects RX2 yX2_legAt yX2_legAt, .code yX2_legAt cX2_legAt 2 (some (.object "NightRiders$Leg")), .fieldLink RX2 11 "NightRiders$Request" "legs" "[LNightRiders$Leg;"] ++ wsX20 ++ wsX10)
def wsX4_countRequests_r1 : List Cond := [Cond.fieldLink RX4 42 "NightRiders" "requestCount" "I", Cond.methodLink RX4 137 yX4_requestAt, Cond.instanceMethod yX4_requestAt, Cond.selects RX4 yX4_requestAt yX4_requestAt, Cond.initialized RX4, Cond.code yX4_requestAt cX4_requestAt 2 (some (.object "NightRiders$Request")), Cond.fieldLink RX4 21 "NightRiders" "requests" "[LNightRiders$Request;", Cond.methodLink RX4 227 yX4_isCounted, Cond.static yX4_isCounted, Cond.code yX4_isCounted cX4_isCounted 2 (some .boolean), Cond.fieldLink RX4 141 "NightRiders$Request" "sent" "Z", Cond.fieldLink RX4 172 "NightRiders$Request" "lost" "Z", Cond.methodLink RX4 231 yX2_cameWarm, Cond.instanceMethod yX2_cameWarm, Cond.selects RX2 yX2_cameWarm yX2_cameWarm, Cond.initialized RX2, Cond.code yX2_cameWarm cX2_cameWarm 1 (some .boolean), Cond.fieldLink RX2 21 "NightRiders$Request" "sent" "Z", Cond.fieldLink RX2 25 "NightRiders$Request" "lost" "Z", Cond.fieldLink RX2 37 "NightRiders$Request" "ready" "I", Cond.fieldLink RX2 40 "NightRiders$Request" "cold" "I", Cond.methodLink RX2 50 yX2_lastEnd, Cond.instanceMethod yX2_lastEnd, Cond.selects RX2 yX2_lastEnd yX2_lastEnd]
def wsX4_countRequests_r2 : List Cond := [Cond.code yX2_lastEnd cX2_lastEnd 2 (some .int), Cond.fieldLink RX2 17 "NightRiders$Request" "legCount" "I", Cond.fieldLink RX2 47 "NightRiders$Leg" "ends" "I", Cond.methodLink RX2 43 yX2_legAt, Cond.instanceMethod yX2_legAt, Cond.selects RX2 yX2_legAt yX2_legAt, Cond.code yX2_legAt cX2_legAt 2 (some (.object "NightRiders$Leg")), Cond.fieldLink RX2 11 "NightRiders$Request" "legs" "[LNightRiders$Leg;"]
def wsX4_countRequests : List Cond := .code yX4_countRequests cX4_countRequests 5 (some .int) :: ((wsX4_countRequests_r1 ++ wsX4_countRequests_r2) ++ wsX40 ++ wsX20 ++ wsX10)
def wsX4_count_r1 : List Cond := [Cond.fieldLink RX4 35 "NightRiders" "placeCount" "I", Cond.fieldLink RX4 39 "NightRiders" "riderCount" "I", Cond.fieldLink RX4 42 "NightRiders" "requestCount" "I", Cond.methodLink RX4 76 yX4_countRequests, Cond.instanceMethod yX4_countRequests, Cond.selects RX4 yX4_countRequests yX4_countRequests, Cond.initialized RX4, Cond.code yX4_countRequests cX4_countRequests 5 (some .int), Cond.methodLink RX4 137 yX4_requestAt, Cond.instanceMethod yX4_requestAt, Cond.selects RX4 yX4_requestAt yX4_requestAt, Cond.code yX4_requestAt cX4_requestAt 2 (some (.object "NightRiders$Request")), Cond.fieldLink RX4 21 "NightRiders" "requests" "[LNightRiders$Request;", Cond.methodLink RX4 227 yX4_isCounted, Cond.static yX4_isCounted, Cond.code yX4_isCounted cX4_isCounted 2 (some .boolean), Cond.fieldLink RX4 141 "NightRiders$Request" "sent" "Z", Cond.fieldLink RX4 172 "NightRiders$Request" "lost" "Z", Cond.methodLink RX4 231 yX2_cameWarm, Cond.instanceMethod yX2_cameWarm, Cond.selects RX2 yX2_cameWarm yX2_cameWarm, Cond.initialized RX2, Cond.code yX2_cameWarm cX2_cameWarm 1 (some .boolean), Cond.fieldLink RX2 21 "NightRiders$Request" "sent" "Z"]
def wsX4_count_r2 : List Cond := [Cond.fieldLink RX2 25 "NightRiders$Request" "lost" "Z", Cond.fieldLink RX2 37 "NightRiders$Request" "ready" "I", Cond.fieldLink RX2 40 "NightRiders$Request" "cold" "I", Cond.methodLink RX2 50 yX2_lastEnd, Cond.instanceMethod yX2_lastEnd, Cond.selects RX2 yX2_lastEnd yX2_lastEnd, Cond.code yX2_lastEnd cX2_lastEnd 2 (some .int), Cond.fieldLink RX2 17 "NightRiders$Request" "legCount" "I", Cond.fieldLink RX2 47 "NightRiders$Leg" "ends" "I", Cond.methodLink RX2 43 yX2_legAt, Cond.instanceMethod yX2_legAt, Cond.selects RX2 yX2_legAt yX2_legAt, Cond.code yX2_legAt cX2_legAt 2 (some (.object "NightRiders$Leg")), Cond.fieldLink RX2 11 "NightRiders$Request" "legs" "[LNightRiders$Leg;"]
def wsX4_count : List Cond := .code yX4_count cX4_count 2 (some .int) :: ((wsX4_count_r1 ++ wsX4_count_r2) ++ wsX40 ++ wsX20 ++ wsX10)
def wsX4_wayOf : List Cond := .code yX4_wayOf cX4_wayOf 4 (some .int) :: ([.fieldLink RX4 214 "NightRiders$Rider" "ways" "[I", .methodLink RX4 51 yX4_isPlace, .instanceMethod yX4_isPlace, .selects RX4 yX4_isPlace yX4_isPlace, .initialized RX4, .code yX4_isPlace cX4_isPlace 2 (some .boolean), .fieldLink RX4 35 "NightRiders" "placeCount" "I"] ++ wsX30 ++ wsX40)
def wsX4_way : List Cond := .code yX4_way cX4_way 5 (some .int) :: ([.methodLink RX4 55 yX4_riderAt, .instanceMethod yX4_riderAt, .selects RX4 yX4_riderAt yX4_riderAt, .initialized RX4, .code yX4_riderAt cX4_riderAt 2 (some (.object "NightRiders$Rider")), .fieldLink RX4 39 "NightRiders" "riderCount" "I", .fieldLink RX4 15 "NightRiders" "riders" "[LNightRiders$Rider;", .methodLink RX4 80 yX4_wayOf, .instanceMethod yX4_wayOf, .selects RX4 yX4_wayOf yX4_wayOf, .code yX4_wayOf cX4_wayOf 4 (some .int), .fieldLink RX4 214 "NightRiders$Rider" "ways" "[I", .methodLink RX4 51 yX4_isPlace, .instanceMethod yX4_isPlace, .selects RX4 yX4_isPlace yX4_isPlace, .code yX4_isPlace cX4_isPlace 2 (some .boolean), .fieldLink RX4 35 "NightRiders" "placeCount" "I"] ++ wsX40 ++ wsX30)
def wsX4_of : List Cond := .code yX4_of cX4_of 4 (some .int) :: ([.classLink RX4 84 "java/util/NoSuchElementException", .initialized "java/util/NoSuchElementException", .fieldLink RX4 91 "NightRiders$Rider" "home" "I", .fieldLink RX4 94 "NightRiders$Rider" "at" "I", .fieldLink RX4 97 "NightRiders$Rider" "failed" "Z", .fieldLink RX4 101 "NightRiders$Rider" "free" "I", .fieldLink RX4 104 "NightRiders$Rider" "legsRidden" "I", .fieldLink RX4 107 "NightRiders$Rider" "boxMinutes" "I", .fieldLink RX4 110 "NightRiders$Rider" "area" "I", .fieldLink RX4 113 "NightRiders$Rider" "kinds" "I", .methodLink RX4 55 yX4_riderAt, .instanceMethod yX4_riderAt, .selects RX4 yX4_riderAt yX4_riderAt, .initialized RX4, .code yX4_riderAt cX4_riderAt 2 (some (.object "NightRiders$Rider")), .fieldLink RX4 39 "NightRiders" "riderCount" "I", .fieldLink RX4 15 "NightRiders" "riders" "[LNightRiders$Rider;"] ++ wsX30 ++ wsX40 ++ (vx_atS RX4 88 "java/util/NoSuchElementException" ["java/lang/RuntimeException", "java/lang/Exception"]).filter goodWord)
def wsX4_isKind : List Cond := .code yX4_isKind cX4_isKind 1 (some .boolean) :: ([])
def wsX4_duty_r1 : List Cond := [Cond.fieldLink RX4 39 "NightRiders" "riderCount" "I", Cond.methodLink RX4 70 yX4_isMinute, Cond.static yX4_isMinute, Cond.initialized RX4, Cond.code yX4_isMinute cX4_isMinute 1 (some .boolean), Cond.methodLink RX4 118 yX4_isKind, Cond.static yX4_isKind, Cond.code yX4_isKind cX4_isKind 1 (some .boolean), Cond.methodLink RX4 55 yX4_riderAt, Cond.instanceMethod yX4_riderAt, Cond.selects RX4 yX4_riderAt yX4_riderAt, Cond.code yX4_riderAt cX4_riderAt 2 (some (.object "NightRiders$Rider")), Cond.fieldLink RX4 15 "NightRiders" "riders" "[LNightRiders$Rider;", Cond.methodLink RX4 121 yX3_carries, Cond.instanceMethod yX3_carries, Cond.selects RX3 yX3_carries yX3_carries, Cond.initialized RX3, Cond.code yX3_carries cX3_carries 2 (some .boolean), Cond.fieldLink RX3 22 "NightRiders$Rider" "failed" "Z", Cond.fieldLink RX3 38 "NightRiders$Rider" "kinds" "I", Cond.static yX4_hasBit, Cond.code yX4_hasBit cX4_hasBit 2 (some .boolean), Cond.methodLink RX4 124 yX3_isOnDuty, Cond.instanceMethod yX3_isOnDuty]
def wsX4_duty_r2 : List Cond := [Cond.selects RX3 yX3_isOnDuty yX3_isOnDuty, Cond.code yX3_isOnDuty cX3_isOnDuty 2 (some .boolean), Cond.fieldLink RX3 32 "NightRiders$Rider" "dutyFrom" "I", Cond.fieldLink RX3 35 "NightRiders$Rider" "dutyTo" "I"]
def wsX4_duty : List Cond := .code yX4_duty cX4_duty 6 (some .int) :: ((wsX4_duty_r1 ++ wsX4_duty_r2) ++ wsX40 ++ wsX30)
def wsX4_lastOnDuty_r1 : List Cond := [Cond.fieldLink RX4 39 "NightRiders" "riderCount" "I", Cond.fieldLink RX4 211 "NightRiders$Rider" "dutyTo" "I", Cond.methodLink RX4 131 Lib.Math.max.name, Cond.static Lib.Math.max.name, Cond.initialized "java/lang/Math", Cond.code Lib.Math.max.name Lib.Math.max.code 2 (some .int), Cond.methodLink RX4 55 yX4_riderAt, Cond.instanceMethod yX4_riderAt, Cond.selects RX4 yX4_riderAt yX4_riderAt, Cond.initialized RX4, Cond.code yX4_riderAt cX4_riderAt 2 (some (.object "NightRiders$Rider")), Cond.fieldLink RX4 15 "NightRiders" "riders" "[LNightRiders$Rider;", Cond.methodLink RX4 121 yX3_carries, Cond.instanceMethod yX3_carries, Cond.selects RX3 yX3_carries yX3_carries, Cond.initialized RX3, Cond.code yX3_carries cX3_carries 2 (some .boolean), Cond.fieldLink RX3 22 "NightRiders$Rider" "failed" "Z", Cond.fieldLink RX3 38 "NightRiders$Rider" "kinds" "I", Cond.static yX4_hasBit, Cond.code yX4_hasBit cX4_hasBit 2 (some .boolean), Cond.methodLink RX4 124 yX3_isOnDuty, Cond.instanceMethod yX3_isOnDuty, Cond.selects RX3 yX3_isOnDuty yX3_isOnDuty]
def wsX4_lastOnDuty_r2 : List Cond := [Cond.code yX3_isOnDuty cX3_isOnDuty 2 (some .boolean), Cond.fieldLink RX3 32 "NightRiders$Rider" "dutyFrom" "I", Cond.fieldLink RX3 35 "NightRiders$Rider" "dutyTo" "I"]
def wsX4_lastOnDuty : List Cond := .code yX4_lastOnDuty cX4_lastOnDuty 6 (some .int) :: ((wsX4_lastOnDuty_r1 ++ wsX4_lastOnDuty_r2) ++ wsX40 ++ wsX30)
def wsX4_bare_r1 : List Cond := [Cond.methodLink RX4 131 Lib.Math.max.name, Cond.static Lib.Math.max.name, Cond.initialized "java/lang/Math", Cond.code Lib.Math.max.name Lib.Math.max.code 2 (some .int), Cond.methodLink RX4 70 yX4_isMinute, Cond.static yX4_isMinute, Cond.initialized RX4, Cond.code yX4_isMinute cX4_isMinute 1 (some .boolean), Cond.methodLink RX4 118 yX4_isKind, Cond.static yX4_isKind, Cond.code yX4_isKind cX4_isKind 1 (some .boolean), Cond.methodLink RX4 127 yX4_lastOnDuty, Cond.instanceMethod yX4_lastOnDuty, Cond.selects RX4 yX4_lastOnDuty yX4_lastOnDuty, Cond.code yX4_lastOnDuty cX4_lastOnDuty 6 (some .int), Cond.fieldLink RX4 39 "NightRiders" "riderCount" "I", Cond.fieldLink RX4 211 "NightRiders$Rider" "dutyTo" "I", Cond.methodLink RX4 55 yX4_riderAt, Cond.instanceMethod yX4_riderAt, Cond.selects RX4 yX4_riderAt yX4_riderAt, Cond.code yX4_riderAt cX4_riderAt 2 (some (.object "NightRiders$Rider")), Cond.fieldLink RX4 15 "NightRiders" "riders" "[LNightRiders$Rider;", Cond.methodLink RX4 121 yX3_carries, Cond.instanceMethod yX3_carries]
def wsX4_bare_r2 : List Cond := [Cond.selects RX3 yX3_carries yX3_carries, Cond.initialized RX3, Cond.code yX3_carries cX3_carries 2 (some .boolean), Cond.fieldLink RX3 22 "NightRiders$Rider" "failed" "Z", Cond.fieldLink RX3 38 "NightRiders$Rider" "kinds" "I", Cond.static yX4_hasBit, Cond.code yX4_hasBit cX4_hasBit 2 (some .boolean), Cond.methodLink RX4 124 yX3_isOnDuty, Cond.instanceMethod yX3_isOnDuty, Cond.selects RX3 yX3_isOnDuty yX3_isOnDuty, Cond.code yX3_isOnDuty cX3_isOnDuty 2 (some .boolean), Cond.fieldLink RX3 32 "NightRiders$Rider" "dutyFrom" "I", Cond.fieldLink RX3 35 "NightRiders$Rider" "dutyTo" "I"]
def wsX4_bare : List Cond := .code yX4_bare cX4_bare 5 (some .int) :: ((wsX4_bare_r1 ++ wsX4_bare_r2) ++ wsX40 ++ wsX30)
def wsX4_call_r1 : List Cond := [Cond.fieldLink RX4 42 "NightRiders" "requestCount" "I", Cond.fieldLink RX4 21 "NightRiders" "requests" "[LNightRiders$Request;", Cond.classLink RX4 19 RX2, Cond.instantiable RX2 9, Cond.initialized RX2, Cond.methodLink RX4 118 yX4_isKind, Cond.static yX4_isKind, Cond.initialized RX4, Cond.code yX4_isKind cX4_isKind 1 (some .boolean), Cond.methodLink RX4 51 yX4_isPlace, Cond.instanceMethod yX4_isPlace, Cond.selects RX4 yX4_isPlace yX4_isPlace, Cond.code yX4_isPlace cX4_isPlace 2 (some .boolean), Cond.fieldLink RX4 35 "NightRiders" "placeCount" "I", Cond.methodLink RX4 70 yX4_isMinute, Cond.static yX4_isMinute, Cond.code yX4_isMinute cX4_isMinute 1 (some .boolean), Cond.methodLink RX4 136 yX2_init, Cond.instanceMethod yX2_init, Cond.code yX2_init cX2_init 6 none, Cond.methodLink RX2 3 objectInit, Cond.instanceMethod objectInit, Cond.code objectInit ⟨#[0xb1]⟩ 1 none, Cond.classLink RX2 9 RX1]
def wsX4_call_r2 : List Cond := [Cond.fieldLink RX2 11 "NightRiders$Request" "legs" "[LNightRiders$Leg;", Cond.fieldLink RX2 17 "NightRiders$Request" "legCount" "I", Cond.fieldLink RX2 21 "NightRiders$Request" "sent" "Z", Cond.fieldLink RX2 25 "NightRiders$Request" "lost" "Z", Cond.fieldLink RX2 28 "NightRiders$Request" "kind" "I", Cond.fieldLink RX2 31 "NightRiders$Request" "from" "I", Cond.fieldLink RX2 34 "NightRiders$Request" "to" "I", Cond.fieldLink RX2 37 "NightRiders$Request" "ready" "I", Cond.fieldLink RX2 40 "NightRiders$Request" "cold" "I"]
def wsX4_call : List Cond := .code yX4_call cX4_call 6 (some .int) :: ((wsX4_call_r1 ++ wsX4_call_r2) ++ wsX40 ++ wsX20)
def wsX4_keepIfBetter : List Cond := .code yX4_keepIfBetter cX4_keepIfBetter 3 none :: ([.fieldLink RX4 28 "NightRiders" "trial" "LNightRiders$Chain;", .fieldLink RX4 32 "NightRiders" "chosen" "LNightRiders$Chain;", .fieldLink RX4 239 "NightRiders$Chain" "length" "I", .methodLink RX4 154 yX0_lastEnd, .instanceMethod yX0_lastEnd, .selects RX0 yX0_lastEnd yX0_lastEnd, .initialized RX0, .code yX0_lastEnd cX0_lastEnd 1 (some .int), .fieldLink RX0 27 "NightRiders$Chain" "length" "I", .fieldLink RX0 24 "NightRiders$Chain" "ends" "[I", .methodLink RX4 281 yX0_take, .instanceMethod yX0_take, .selects RX0 yX0_take yX0_take, .code yX0_take cX0_take 3 none, .fieldLink RX0 9 "NightRiders$Chain" "riders" "[I", .fieldLink RX0 15 "NightRiders$Chain" "froms" "[I", .fieldLink RX0 18 "NightRiders$Chain" "tos" "[I", .fieldLink RX0 21 "NightRiders$Chain" "starts" "[I"] ++ wsX40 ++ wsX00)
def wsX4_thereFrom : List Cond := .code yX4_thereFrom cX4_thereFrom 4 (some .int) :: ([.fieldLink RX4 94 "NightRiders$Rider" "at" "I", .fieldLink RX4 101 "NightRiders$Rider" "free" "I", .fieldLink RX4 224 "NightRiders$Rider" "dutyFrom" "I", .methodLink RX4 131 Lib.Math.max.name, .static Lib.Math.max.name, .initialized "java/lang/Math", .code Lib.Math.max.name Lib.Math.max.code 2 (some .int), .methodLink RX4 80 yX4_wayOf, .instanceMethod yX4_wayOf, .selects RX4 yX4_wayOf yX4_wayOf, .initialized RX4, .code yX4_wayOf cX4_wayOf 4 (some .int), .fieldLink RX4 214 "NightRiders$Rider" "ways" "[I", .methodLink RX4 51 yX4_isPlace, .instanceMethod yX4_isPlace, .selects RX4 yX4_isPlace yX4_isPlace, .code yX4_isPlace cX4_isPlace 2 (some .boolean), .fieldLink RX4 35 "NightRiders" "placeCount" "I"] ++ wsX30 ++ wsX40)
def wsX4_isTooLate : List Cond := .code yX4_isTooLate cX4_isTooLate 2 (some .boolean) :: ([.fieldLink RX4 32 "NightRiders" "chosen" "LNightRiders$Chain;", .fieldLink RX4 239 "NightRiders$Chain" "length" "I", .methodLink RX4 154 yX0_lastEnd, .instanceMethod yX0_lastEnd, .selects RX0 yX0_lastEnd yX0_lastEnd, .initialized RX0, .code yX0_lastEnd cX0_lastEnd 1 (some .int), .fieldLink RX0 27 "NightRiders$Chain" "length" "I", .fieldLink RX0 24 "NightRiders$Chain" "ends" "[I"] ++ wsX40 ++ wsX00)
def wsX4_waitsUntil : List Cond := .code yX4_waitsUntil cX4_waitsUntil 4 (some .boolean) :: ([.fieldLink RX4 28 "NightRiders" "trial" "LNightRiders$Chain;", .fieldLink RX4 263 "NightRiders$Chain" "riders" "[I", .fieldLink RX4 211 "NightRiders$Rider" "dutyTo" "I", .methodLink RX4 55 yX4_riderAt, .instanceMethod yX4_riderAt, .selects RX4 yX4_riderAt yX4_riderAt, .initialized RX4, .code yX4_riderAt cX4_riderAt 2 (some (.object "NightRiders$Rider")), .fieldLink RX4 39 "NightRiders" "riderCount" "I", .fieldLink RX4 15 "NightRiders" "riders" "[LNightRiders$Rider;"] ++ wsX40 ++ wsX00 ++ wsX30)
def wsX4_tryEnd_r1 : List Cond := [Cond.fieldLink RX4 28 "NightRiders" "trial" "LNightRiders$Chain;", Cond.fieldLink RX4 211 "NightRiders$Rider" "dutyTo" "I", Cond.fieldLink RX4 236 "NightRiders$Chain" "goal" "I", Cond.methodLink RX4 269 yX0_fromOf, Cond.instanceMethod yX0_fromOf, Cond.selects RX0 yX0_fromOf yX0_fromOf, Cond.initialized RX0, Cond.code yX0_fromOf cX0_fromOf 2 (some .int), Cond.fieldLink RX0 15 "NightRiders$Chain" "froms" "[I", Cond.methodLink RX4 80 yX4_wayOf, Cond.instanceMethod yX4_wayOf, Cond.selects RX4 yX4_wayOf yX4_wayOf, Cond.initialized RX4, Cond.code yX4_wayOf cX4_wayOf 4 (some .int), Cond.fieldLink RX4 214 "NightRiders$Rider" "ways" "[I", Cond.methodLink RX4 51 yX4_isPlace, Cond.instanceMethod yX4_isPlace, Cond.selects RX4 yX4_isPlace yX4_isPlace, Cond.code yX4_isPlace cX4_isPlace 2 (some .boolean), Cond.fieldLink RX4 35 "NightRiders" "placeCount" "I", Cond.methodLink RX4 272 yX0_comesFrom, Cond.instanceMethod yX0_comesFrom, Cond.selects RX0 yX0_comesFrom yX0_comesFrom, Cond.code yX0_comesFrom cX0_comesFrom 4 (some .boolean)]
def wsX4_tryEnd_r2 : List Cond := [Cond.methodLink RX4 275 yX0_close, Cond.instanceMethod yX0_close, Cond.selects RX0 yX0_close yX0_close, Cond.code yX0_close cX0_close 4 none, Cond.fieldLink RX0 18 "NightRiders$Chain" "tos" "[I", Cond.fieldLink RX0 24 "NightRiders$Chain" "ends" "[I", Cond.fieldLink RX0 27 "NightRiders$Chain" "length" "I", Cond.methodLink RX4 278 yX4_keepIfBetter, Cond.instanceMethod yX4_keepIfBetter, Cond.selects RX4 yX4_keepIfBetter yX4_keepIfBetter, Cond.code yX4_keepIfBetter cX4_keepIfBetter 3 none, Cond.fieldLink RX4 32 "NightRiders" "chosen" "LNightRiders$Chain;", Cond.fieldLink RX4 239 "NightRiders$Chain" "length" "I", Cond.methodLink RX4 154 yX0_lastEnd, Cond.instanceMethod yX0_lastEnd, Cond.selects RX0 yX0_lastEnd yX0_lastEnd, Cond.code yX0_lastEnd cX0_lastEnd 1 (some .int), Cond.methodLink RX4 281 yX0_take, Cond.instanceMethod yX0_take, Cond.selects RX0 yX0_take yX0_take, Cond.code yX0_take cX0_take 3 none, Cond.fieldLink RX0 9 "NightRiders$Chain" "riders" "[I", Cond.fieldLink RX0 21 "NightRiders$Chain" "starts" "[I", Cond.methodLink RX4 242 yX4_tryRiders]
def wsX4_tryEnd_r3 : List Cond := [Cond.instanceMethod yX4_tryRiders, Cond.selects RX4 yX4_tryRiders yX4_tryRiders, Cond.code yX4_tryEnds cX4_tryEnds 5 none, Cond.methodLink RX4 265 yX4_tryEnd, Cond.instanceMethod yX4_tryEnd, Cond.selects RX4 yX4_tryEnd yX4_tryEnd, Cond.code yX4_tryRiders cX4_tryRiders 8 none, Cond.fieldLink RX4 39 "NightRiders" "riderCount" "I", Cond.fieldLink RX4 235 "NightRiders$Chain" "kind" "I", Cond.methodLink RX4 131 Lib.Math.max.name, Cond.static Lib.Math.max.name, Cond.initialized "java/lang/Math", Cond.code Lib.Math.max.name Lib.Math.max.code 2 (some .int), Cond.methodLink RX4 55 yX4_riderAt, Cond.instanceMethod yX4_riderAt, Cond.selects RX4 yX4_riderAt yX4_riderAt, Cond.code yX4_riderAt cX4_riderAt 2 (some (.object "NightRiders$Rider")), Cond.fieldLink RX4 15 "NightRiders" "riders" "[LNightRiders$Rider;", Cond.methodLink RX4 121 yX3_carries, Cond.instanceMethod yX3_carries, Cond.selects RX3 yX3_carries yX3_carries, Cond.initialized RX3, Cond.code yX3_carries cX3_carries 2 (some .boolean), Cond.fieldLink RX3 22 "NightRiders$Rider" "failed" "Z"]
def wsX4_tryEnd_r4 : List Cond := [Cond.fieldLink RX3 38 "NightRiders$Rider" "kinds" "I", Cond.static yX4_hasBit, Cond.code yX4_hasBit cX4_hasBit 2 (some .boolean), Cond.methodLink RX4 246 yX0_isRiddenBy, Cond.instanceMethod yX0_isRiddenBy, Cond.selects RX0 yX0_isRiddenBy yX0_isRiddenBy, Cond.code yX0_isRiddenBy cX0_isRiddenBy 4 (some .boolean), Cond.methodLink RX4 207 yX4_thereFrom, Cond.instanceMethod yX4_thereFrom, Cond.selects RX4 yX4_thereFrom yX4_thereFrom, Cond.code yX4_thereFrom cX4_thereFrom 4 (some .int), Cond.fieldLink RX4 94 "NightRiders$Rider" "at" "I", Cond.fieldLink RX4 101 "NightRiders$Rider" "free" "I", Cond.fieldLink RX4 224 "NightRiders$Rider" "dutyFrom" "I", Cond.methodLink RX4 249 yX4_isTooLate, Cond.instanceMethod yX4_isTooLate, Cond.selects RX4 yX4_isTooLate yX4_isTooLate, Cond.code yX4_isTooLate cX4_isTooLate 2 (some .boolean), Cond.methodLink RX4 252 yX4_waitsUntil, Cond.instanceMethod yX4_waitsUntil, Cond.selects RX4 yX4_waitsUntil yX4_waitsUntil, Cond.code yX4_waitsUntil cX4_waitsUntil 4 (some .boolean), Cond.fieldLink RX4 263 "NightRiders$Chain" "riders" "[I", Cond.methodLink RX4 255 yX0_open]
def wsX4_tryEnd_r5 : List Cond := [Cond.instanceMethod yX0_open, Cond.selects RX0 yX0_open yX0_open, Cond.code yX0_open cX0_open 5 none, Cond.methodLink RX4 259 yX4_tryEnds, Cond.instanceMethod yX4_tryEnds, Cond.selects RX4 yX4_tryEnds yX4_tryEnds]
def wsX4_tryEnd : List Cond := .code yX4_tryEnd cX4_tryEnd 6 none :: ((wsX4_tryEnd_r1 ++ (wsX4_tryEnd_r2 ++ (wsX4_tryEnd_r3 ++ (wsX4_tryEnd_r4 ++ wsX4_tryEnd_r5)))) ++ wsX40 ++ wsX30 ++ wsX00)
def wsX4_tryEnds_r1 : List Cond := [Cond.fieldLink RX4 28 "NightRiders" "trial" "LNightRiders$Chain;", Cond.fieldLink RX4 236 "NightRiders$Chain" "goal" "I", Cond.fieldLink RX4 35 "NightRiders" "placeCount" "I", Cond.methodLink RX4 265 yX4_tryEnd, Cond.instanceMethod yX4_tryEnd, Cond.selects RX4 yX4_tryEnd yX4_tryEnd, Cond.initialized RX4, Cond.code yX4_tryEnd cX4_tryEnd 6 none, Cond.fieldLink RX4 211 "NightRiders$Rider" "dutyTo" "I", Cond.methodLink RX4 269 yX0_fromOf, Cond.instanceMethod yX0_fromOf, Cond.selects RX0 yX0_fromOf yX0_fromOf, Cond.initialized RX0, Cond.code yX0_fromOf cX0_fromOf 2 (some .int), Cond.fieldLink RX0 15 "NightRiders$Chain" "froms" "[I", Cond.methodLink RX4 80 yX4_wayOf, Cond.instanceMethod yX4_wayOf, Cond.selects RX4 yX4_wayOf yX4_wayOf, Cond.code yX4_wayOf cX4_wayOf 4 (some .int), Cond.fieldLink RX4 214 "NightRiders$Rider" "ways" "[I", Cond.methodLink RX4 51 yX4_isPlace, Cond.instanceMethod yX4_isPlace, Cond.selects RX4 yX4_isPlace yX4_isPlace, Cond.code yX4_isPlace cX4_isPlace 2 (some .boolean)]
def wsX4_tryEnds_r2 : List Cond := [Cond.methodLink RX4 272 yX0_comesFrom, Cond.instanceMethod yX0_comesFrom, Cond.selects RX0 yX0_comesFrom yX0_comesFrom, Cond.code yX0_comesFrom cX0_comesFrom 4 (some .boolean), Cond.methodLink RX4 275 yX0_close, Cond.instanceMethod yX0_close, Cond.selects RX0 yX0_close yX0_close, Cond.code yX0_close cX0_close 4 none, Cond.fieldLink RX0 18 "NightRiders$Chain" "tos" "[I", Cond.fieldLink RX0 24 "NightRiders$Chain" "ends" "[I", Cond.fieldLink RX0 27 "NightRiders$Chain" "length" "I", Cond.methodLink RX4 278 yX4_keepIfBetter, Cond.instanceMethod yX4_keepIfBetter, Cond.selects RX4 yX4_keepIfBetter yX4_keepIfBetter, Cond.code yX4_keepIfBetter cX4_keepIfBetter 3 none, Cond.fieldLink RX4 32 "NightRiders" "chosen" "LNightRiders$Chain;", Cond.fieldLink RX4 239 "NightRiders$Chain" "length" "I", Cond.methodLink RX4 154 yX0_lastEnd, Cond.instanceMethod yX0_lastEnd, Cond.selects RX0 yX0_lastEnd yX0_lastEnd, Cond.code yX0_lastEnd cX0_lastEnd 1 (some .int), Cond.methodLink RX4 281 yX0_take, Cond.instanceMethod yX0_take, Cond.selects RX0 yX0_take yX0_take]
def wsX4_tryEnds_r3 : List Cond := [Cond.code yX0_take cX0_take 3 none, Cond.fieldLink RX0 9 "NightRiders$Chain" "riders" "[I", Cond.fieldLink RX0 21 "NightRiders$Chain" "starts" "[I", Cond.methodLink RX4 242 yX4_tryRiders, Cond.instanceMethod yX4_tryRiders, Cond.selects RX4 yX4_tryRiders yX4_tryRiders, Cond.code yX4_tryRiders cX4_tryRiders 8 none, Cond.fieldLink RX4 39 "NightRiders" "riderCount" "I", Cond.fieldLink RX4 235 "NightRiders$Chain" "kind" "I", Cond.methodLink RX4 131 Lib.Math.max.name, Cond.static Lib.Math.max.name, Cond.initialized "java/lang/Math", Cond.code Lib.Math.max.name Lib.Math.max.code 2 (some .int), Cond.methodLink RX4 55 yX4_riderAt, Cond.instanceMethod yX4_riderAt, Cond.selects RX4 yX4_riderAt yX4_riderAt, Cond.code yX4_riderAt cX4_riderAt 2 (some (.object "NightRiders$Rider")), Cond.fieldLink RX4 15 "NightRiders" "riders" "[LNightRiders$Rider;", Cond.methodLink RX4 121 yX3_carries, Cond.instanceMethod yX3_carries, Cond.selects RX3 yX3_carries yX3_carries, Cond.initialized RX3, Cond.code yX3_carries cX3_carries 2 (some .boolean), Cond.fieldLink RX3 22 "NightRiders$Rider" "failed" "Z"]
def wsX4_tryEnds_r4 : List Cond := [Cond.fieldLink RX3 38 "NightRiders$Rider" "kinds" "I", Cond.static yX4_hasBit, Cond.code yX4_hasBit cX4_hasBit 2 (some .boolean), Cond.methodLink RX4 246 yX0_isRiddenBy, Cond.instanceMethod yX0_isRiddenBy, Cond.selects RX0 yX0_isRiddenBy yX0_isRiddenBy, Cond.code yX0_isRiddenBy cX0_isRiddenBy 4 (some .boolean), Cond.methodLink RX4 207 yX4_thereFrom, Cond.instanceMethod yX4_thereFrom, Cond.selects RX4 yX4_thereFrom yX4_thereFrom, Cond.code yX4_thereFrom cX4_thereFrom 4 (some .int), Cond.fieldLink RX4 94 "NightRiders$Rider" "at" "I", Cond.fieldLink RX4 101 "NightRiders$Rider" "free" "I", Cond.fieldLink RX4 224 "NightRiders$Rider" "dutyFrom" "I", Cond.methodLink RX4 249 yX4_isTooLate, Cond.instanceMethod yX4_isTooLate, Cond.selects RX4 yX4_isTooLate yX4_isTooLate, Cond.code yX4_isTooLate cX4_isTooLate 2 (some .boolean), Cond.methodLink RX4 252 yX4_waitsUntil, Cond.instanceMethod yX4_waitsUntil, Cond.selects RX4 yX4_waitsUntil yX4_waitsUntil, Cond.code yX4_waitsUntil cX4_waitsUntil 4 (some .boolean), Cond.fieldLink RX4 263 "NightRiders$Chain" "riders" "[I", Cond.methodLink RX4 255 yX0_open]
def wsX4_tryEnds_r5 : List Cond := [Cond.instanceMethod yX0_open, Cond.selects RX0 yX0_open yX0_open, Cond.code yX0_open cX0_open 5 none, Cond.methodLink RX4 259 yX4_tryEnds, Cond.instanceMethod yX4_tryEnds, Cond.selects RX4 yX4_tryEnds yX4_tryEnds]
def wsX4_tryEnds : List Cond := .code yX4_tryEnds cX4_tryEnds 5 none :: ((wsX4_tryEnds_r1 ++ (wsX4_tryEnds_r2 ++ (wsX4_tryEnds_r3 ++ (wsX4_tryEnds_r4 ++ wsX4_tryEnds_r5)))) ++ wsX40 ++ wsX30 ++ wsX00)
def wsX4_tryRiders_r1 : List Cond := [Cond.fieldLink RX4 39 "NightRiders" "riderCount" "I", Cond.fieldLink RX4 28 "NightRiders" "trial" "LNightRiders$Chain;", Cond.fieldLink RX4 235 "NightRiders$Chain" "kind" "I", Cond.methodLink RX4 131 Lib.Math.max.name, Cond.static Lib.Math.max.name, Cond.initialized "java/lang/Math", Cond.code Lib.Math.max.name Lib.Math.max.code 2 (some .int), Cond.methodLink RX4 55 yX4_riderAt, Cond.instanceMethod yX4_riderAt, Cond.selects RX4 yX4_riderAt yX4_riderAt, Cond.initialized RX4, Cond.code yX4_riderAt cX4_riderAt 2 (some (.object "NightRiders$Rider")), Cond.fieldLink RX4 15 "NightRiders" "riders" "[LNightRiders$Rider;", Cond.methodLink RX4 121 yX3_carries, Cond.instanceMethod yX3_carries, Cond.selects RX3 yX3_carries yX3_carries, Cond.initialized RX3, Cond.code yX3_carries cX3_carries 2 (some .boolean), Cond.fieldLink RX3 22 "NightRiders$Rider" "failed" "Z", Cond.fieldLink RX3 38 "NightRiders$Rider" "kinds" "I", Cond.static yX4_hasBit, Cond.code yX4_hasBit cX4_hasBit 2 (some .boolean), Cond.methodLink RX4 246 yX0_isRiddenBy, Cond.instanceMethod yX0_isRiddenBy]
def wsX4_tryRiders_r2 : List Cond := [Cond.selects RX0 yX0_isRiddenBy yX0_isRiddenBy, Cond.initialized RX0, Cond.code yX0_isRiddenBy cX0_isRiddenBy 4 (some .boolean), Cond.fieldLink RX0 9 "NightRiders$Chain" "riders" "[I", Cond.methodLink RX4 207 yX4_thereFrom, Cond.instanceMethod yX4_thereFrom, Cond.selects RX4 yX4_thereFrom yX4_thereFrom, Cond.code yX4_thereFrom cX4_thereFrom 4 (some .int), Cond.fieldLink RX4 94 "NightRiders$Rider" "at" "I", Cond.fieldLink RX4 101 "NightRiders$Rider" "free" "I", Cond.fieldLink RX4 224 "NightRiders$Rider" "dutyFrom" "I", Cond.methodLink RX4 80 yX4_wayOf, Cond.instanceMethod yX4_wayOf, Cond.selects RX4 yX4_wayOf yX4_wayOf, Cond.code yX4_wayOf cX4_wayOf 4 (some .int), Cond.fieldLink RX4 214 "NightRiders$Rider" "ways" "[I", Cond.methodLink RX4 51 yX4_isPlace, Cond.instanceMethod yX4_isPlace, Cond.selects RX4 yX4_isPlace yX4_isPlace, Cond.code yX4_isPlace cX4_isPlace 2 (some .boolean), Cond.fieldLink RX4 35 "NightRiders" "placeCount" "I", Cond.methodLink RX4 249 yX4_isTooLate, Cond.instanceMethod yX4_isTooLate, Cond.selects RX4 yX4_isTooLate yX4_isTooLate]
def wsX4_tryRiders_r3 : List Cond := [Cond.code yX4_isTooLate cX4_isTooLate 2 (some .boolean), Cond.fieldLink RX4 32 "NightRiders" "chosen" "LNightRiders$Chain;", Cond.fieldLink RX4 239 "NightRiders$Chain" "length" "I", Cond.methodLink RX4 154 yX0_lastEnd, Cond.instanceMethod yX0_lastEnd, Cond.selects RX0 yX0_lastEnd yX0_lastEnd, Cond.code yX0_lastEnd cX0_lastEnd 1 (some .int), Cond.fieldLink RX0 27 "NightRiders$Chain" "length" "I", Cond.fieldLink RX0 24 "NightRiders$Chain" "ends" "[I", Cond.methodLink RX4 252 yX4_waitsUntil, Cond.instanceMethod yX4_waitsUntil, Cond.selects RX4 yX4_waitsUntil yX4_waitsUntil, Cond.code yX4_waitsUntil cX4_waitsUntil 4 (some .boolean), Cond.fieldLink RX4 263 "NightRiders$Chain" "riders" "[I", Cond.fieldLink RX4 211 "NightRiders$Rider" "dutyTo" "I", Cond.methodLink RX4 255 yX0_open, Cond.instanceMethod yX0_open, Cond.selects RX0 yX0_open yX0_open, Cond.code yX0_open cX0_open 5 none, Cond.fieldLink RX0 15 "NightRiders$Chain" "froms" "[I", Cond.fieldLink RX0 21 "NightRiders$Chain" "starts" "[I", Cond.methodLink RX4 259 yX4_tryEnds, Cond.instanceMethod yX4_tryEnds, Cond.selects RX4 yX4_tryEnds yX4_tryEnds]
def wsX4_tryRiders_r4 : List Cond := [Cond.code yX4_tryEnd cX4_tryEnd 6 none, Cond.fieldLink RX4 236 "NightRiders$Chain" "goal" "I", Cond.methodLink RX4 269 yX0_fromOf, Cond.instanceMethod yX0_fromOf, Cond.selects RX0 yX0_fromOf yX0_fromOf, Cond.code yX0_fromOf cX0_fromOf 2 (some .int), Cond.methodLink RX4 272 yX0_comesFrom, Cond.instanceMethod yX0_comesFrom, Cond.selects RX0 yX0_comesFrom yX0_comesFrom, Cond.code yX0_comesFrom cX0_comesFrom 4 (some .boolean), Cond.methodLink RX4 275 yX0_close, Cond.instanceMethod yX0_close, Cond.selects RX0 yX0_close yX0_close, Cond.code yX0_close cX0_close 4 none, Cond.fieldLink RX0 18 "NightRiders$Chain" "tos" "[I", Cond.methodLink RX4 278 yX4_keepIfBetter, Cond.instanceMethod yX4_keepIfBetter, Cond.selects RX4 yX4_keepIfBetter yX4_keepIfBetter, Cond.code yX4_keepIfBetter cX4_keepIfBetter 3 none, Cond.methodLink RX4 281 yX0_take, Cond.instanceMethod yX0_take, Cond.selects RX0 yX0_take yX0_take, Cond.code yX0_take cX0_take 3 none, Cond.methodLink RX4 242 yX4_tryRiders]
def wsX4_tryRiders_r5 : List Cond := [Cond.instanceMethod yX4_tryRiders, Cond.selects RX4 yX4_tryRiders yX4_tryRiders, Cond.code yX4_tryEnds cX4_tryEnds 5 none, Cond.methodLink RX4 265 yX4_tryEnd, Cond.instanceMethod yX4_tryEnd, Cond.selects RX4 yX4_tryEnd yX4_tryEnd]
def wsX4_tryRiders : List Cond := .code yX4_tryRiders cX4_tryRiders 8 none :: ((wsX4_tryRiders_r1 ++ (wsX4_tryRiders_r2 ++ (wsX4_tryRiders_r3 ++ (wsX4_tryRiders_r4 ++ wsX4_tryRiders_r5)))) ++ wsX40 ++ wsX30 ++ wsX00)
def wsX4_findChain_r1 : List Cond := [Cond.fieldLink RX4 28 "NightRiders" "trial" "LNightRiders$Chain;", Cond.fieldLink RX4 163 "NightRiders$Request" "kind" "I", Cond.fieldLink RX4 235 "NightRiders$Chain" "kind" "I", Cond.fieldLink RX4 166 "NightRiders$Request" "to" "I", Cond.fieldLink RX4 236 "NightRiders$Chain" "goal" "I", Cond.fieldLink RX4 32 "NightRiders" "chosen" "LNightRiders$Chain;", Cond.fieldLink RX4 239 "NightRiders$Chain" "length" "I", Cond.methodLink RX4 242 yX4_tryRiders, Cond.instanceMethod yX4_tryRiders, Cond.selects RX4 yX4_tryRiders yX4_tryRiders, Cond.initialized RX4, Cond.code yX4_tryRiders cX4_tryRiders 8 none, Cond.fieldLink RX4 39 "NightRiders" "riderCount" "I", Cond.methodLink RX4 131 Lib.Math.max.name, Cond.static Lib.Math.max.name, Cond.initialized "java/lang/Math", Cond.code Lib.Math.max.name Lib.Math.max.code 2 (some .int), Cond.methodLink RX4 55 yX4_riderAt, Cond.instanceMethod yX4_riderAt, Cond.selects RX4 yX4_riderAt yX4_riderAt, Cond.code yX4_riderAt cX4_riderAt 2 (some (.object "NightRiders$Rider")), Cond.fieldLink RX4 15 "NightRiders" "riders" "[LNightRiders$Rider;", Cond.methodLink RX4 121 yX3_carries, Cond.instanceMethod yX3_carries]
def wsX4_findChain_r2 : List Cond := [Cond.selects RX3 yX3_carries yX3_carries, Cond.initialized RX3, Cond.code yX3_carries cX3_carries 2 (some .boolean), Cond.fieldLink RX3 22 "NightRiders$Rider" "failed" "Z", Cond.fieldLink RX3 38 "NightRiders$Rider" "kinds" "I", Cond.static yX4_hasBit, Cond.code yX4_hasBit cX4_hasBit 2 (some .boolean), Cond.methodLink RX4 246 yX0_isRiddenBy, Cond.instanceMethod yX0_isRiddenBy, Cond.selects RX0 yX0_isRiddenBy yX0_isRiddenBy, Cond.initialized RX0, Cond.code yX0_isRiddenBy cX0_isRiddenBy 4 (some .boolean), Cond.fieldLink RX0 9 "NightRiders$Chain" "riders" "[I", Cond.methodLink RX4 207 yX4_thereFrom, Cond.instanceMethod yX4_thereFrom, Cond.selects RX4 yX4_thereFrom yX4_thereFrom, Cond.code yX4_thereFrom cX4_thereFrom 4 (some .int), Cond.fieldLink RX4 94 "NightRiders$Rider" "at" "I", Cond.fieldLink RX4 101 "NightRiders$Rider" "free" "I", Cond.fieldLink RX4 224 "NightRiders$Rider" "dutyFrom" "I", Cond.methodLink RX4 80 yX4_wayOf, Cond.instanceMethod yX4_wayOf, Cond.selects RX4 yX4_wayOf yX4_wayOf, Cond.code yX4_wayOf cX4_wayOf 4 (some .int)]
def wsX4_findChain_r3 : List Cond := [Cond.fieldLink RX4 214 "NightRiders$Rider" "ways" "[I", Cond.methodLink RX4 51 yX4_isPlace, Cond.instanceMethod yX4_isPlace, Cond.selects RX4 yX4_isPlace yX4_isPlace, Cond.code yX4_isPlace cX4_isPlace 2 (some .boolean), Cond.fieldLink RX4 35 "NightRiders" "placeCount" "I", Cond.methodLink RX4 249 yX4_isTooLate, Cond.instanceMethod yX4_isTooLate, Cond.selects RX4 yX4_isTooLate yX4_isTooLate, Cond.code yX4_isTooLate cX4_isTooLate 2 (some .boolean), Cond.methodLink RX4 154 yX0_lastEnd, Cond.instanceMethod yX0_lastEnd, Cond.selects RX0 yX0_lastEnd yX0_lastEnd, Cond.code yX0_lastEnd cX0_lastEnd 1 (some .int), Cond.fieldLink RX0 27 "NightRiders$Chain" "length" "I", Cond.fieldLink RX0 24 "NightRiders$Chain" "ends" "[I", Cond.methodLink RX4 252 yX4_waitsUntil, Cond.instanceMethod yX4_waitsUntil, Cond.selects RX4 yX4_waitsUntil yX4_waitsUntil, Cond.code yX4_waitsUntil cX4_waitsUntil 4 (some .boolean), Cond.fieldLink RX4 263 "NightRiders$Chain" "riders" "[I", Cond.fieldLink RX4 211 "NightRiders$Rider" "dutyTo" "I", Cond.methodLink RX4 255 yX0_open, Cond.instanceMethod yX0_open]
def wsX4_findChain_r4 : List Cond := [Cond.selects RX0 yX0_open yX0_open, Cond.code yX0_open cX0_open 5 none, Cond.fieldLink RX0 15 "NightRiders$Chain" "froms" "[I", Cond.fieldLink RX0 21 "NightRiders$Chain" "starts" "[I", Cond.methodLink RX4 259 yX4_tryEnds, Cond.instanceMethod yX4_tryEnds, Cond.selects RX4 yX4_tryEnds yX4_tryEnds, Cond.code yX4_tryEnd cX4_tryEnd 6 none, Cond.methodLink RX4 269 yX0_fromOf, Cond.instanceMethod yX0_fromOf, Cond.selects RX0 yX0_fromOf yX0_fromOf, Cond.code yX0_fromOf cX0_fromOf 2 (some .int), Cond.methodLink RX4 272 yX0_comesFrom, Cond.instanceMethod yX0_comesFrom, Cond.selects RX0 yX0_comesFrom yX0_comesFrom, Cond.code yX0_comesFrom cX0_comesFrom 4 (some .boolean), Cond.methodLink RX4 275 yX0_close, Cond.instanceMethod yX0_close, Cond.selects RX0 yX0_close yX0_close, Cond.code yX0_close cX0_close 4 none, Cond.fieldLink RX0 18 "NightRiders$Chain" "tos" "[I", Cond.methodLink RX4 278 yX4_keepIfBetter, Cond.instanceMethod yX4_keepIfBetter, Cond.selects RX4 yX4_keepIfBetter yX4_keepIfBetter]
def wsX4_findChain_r5 : List Cond := [Cond.code yX4_keepIfBetter cX4_keepIfBetter 3 none, Cond.methodLink RX4 281 yX0_take, Cond.instanceMethod yX0_take, Cond.selects RX0 yX0_take yX0_take, Cond.code yX0_take cX0_take 3 none, Cond.code yX4_tryEnds cX4_tryEnds 5 none, Cond.methodLink RX4 265 yX4_tryEnd, Cond.instanceMethod yX4_tryEnd, Cond.selects RX4 yX4_tryEnd yX4_tryEnd]
def wsX4_findChain : List Cond := .code yX4_findChain cX4_findChain 4 (some .boolean) :: ((wsX4_findChain_r1 ++ (wsX4_findChain_r2 ++ (wsX4_findChain_r3 ++ (wsX4_findChain_r4 ++ wsX4_findChain_r5)))) ++ wsX40 ++ wsX20 ++ wsX00 ++ wsX30)
def wsX4_best_r1 : List Cond := [Cond.fieldLink RX4 141 "NightRiders$Request" "sent" "Z", Cond.fieldLink RX4 144 "NightRiders$Request" "from" "I", Cond.fieldLink RX4 147 "NightRiders$Request" "ready" "I", Cond.fieldLink RX4 32 "NightRiders" "chosen" "LNightRiders$Chain;", Cond.methodLink RX4 137 yX4_requestAt, Cond.instanceMethod yX4_requestAt, Cond.selects RX4 yX4_requestAt yX4_requestAt, Cond.initialized RX4, Cond.code yX4_requestAt cX4_requestAt 2 (some (.object "NightRiders$Request")), Cond.fieldLink RX4 42 "NightRiders" "requestCount" "I", Cond.fieldLink RX4 21 "NightRiders" "requests" "[LNightRiders$Request;", Cond.methodLink RX4 150 yX4_findChain, Cond.instanceMethod yX4_findChain, Cond.selects RX4 yX4_findChain yX4_findChain, Cond.code yX4_findChain cX4_findChain 4 (some .boolean), Cond.fieldLink RX4 28 "NightRiders" "trial" "LNightRiders$Chain;", Cond.fieldLink RX4 163 "NightRiders$Request" "kind" "I", Cond.fieldLink RX4 235 "NightRiders$Chain" "kind" "I", Cond.fieldLink RX4 166 "NightRiders$Request" "to" "I", Cond.fieldLink RX4 236 "NightRiders$Chain" "goal" "I", Cond.fieldLink RX4 239 "NightRiders$Chain" "length" "I", Cond.methodLink RX4 242 yX4_tryRiders, Cond.instanceMethod yX4_tryRiders, Cond.selects RX4 yX4_tryRiders yX4_tryRiders]
def wsX4_best_r2 : List Cond := [Cond.code yX4_tryRiders cX4_tryRiders 8 none, Cond.fieldLink RX4 39 "NightRiders" "riderCount" "I", Cond.methodLink RX4 131 Lib.Math.max.name, Cond.static Lib.Math.max.name, Cond.initialized "java/lang/Math", Cond.code Lib.Math.max.name Lib.Math.max.code 2 (some .int), Cond.methodLink RX4 55 yX4_riderAt, Cond.instanceMethod yX4_riderAt, Cond.selects RX4 yX4_riderAt yX4_riderAt, Cond.code yX4_riderAt cX4_riderAt 2 (some (.object "NightRiders$Rider")), Cond.fieldLink RX4 15 "NightRiders" "riders" "[LNightRiders$Rider;", Cond.methodLink RX4 121 yX3_carries, Cond.instanceMethod yX3_carries, Cond.selects RX3 yX3_carries yX3_carries, Cond.initialized RX3, Cond.code yX3_carries cX3_carries 2 (some .boolean), Cond.fieldLink RX3 22 "NightRiders$Rider" "failed" "Z", Cond.fieldLink RX3 38 "NightRiders$Rider" "kinds" "I", Cond.static yX4_hasBit, Cond.code yX4_hasBit cX4_hasBit 2 (some .boolean), Cond.methodLink RX4 246 yX0_isRiddenBy, Cond.instanceMethod yX0_isRiddenBy, Cond.selects RX0 yX0_isRiddenBy yX0_isRiddenBy, Cond.initialized RX0]
def wsX4_best_r3 : List Cond := [Cond.code yX0_isRiddenBy cX0_isRiddenBy 4 (some .boolean), Cond.fieldLink RX0 9 "NightRiders$Chain" "riders" "[I", Cond.methodLink RX4 207 yX4_thereFrom, Cond.instanceMethod yX4_thereFrom, Cond.selects RX4 yX4_thereFrom yX4_thereFrom, Cond.code yX4_thereFrom cX4_thereFrom 4 (some .int), Cond.fieldLink RX4 94 "NightRiders$Rider" "at" "I", Cond.fieldLink RX4 101 "NightRiders$Rider" "free" "I", Cond.fieldLink RX4 224 "NightRiders$Rider" "dutyFrom" "I", Cond.methodLink RX4 80 yX4_wayOf, Cond.instanceMethod yX4_wayOf, Cond.selects RX4 yX4_wayOf yX4_wayOf, Cond.code yX4_wayOf cX4_wayOf 4 (some .int), Cond.fieldLink RX4 214 "NightRiders$Rider" "ways" "[I", Cond.methodLink RX4 51 yX4_isPlace, Cond.instanceMethod yX4_isPlace, Cond.selects RX4 yX4_isPlace yX4_isPlace, Cond.code yX4_isPlace cX4_isPlace 2 (some .boolean), Cond.fieldLink RX4 35 "NightRiders" "placeCount" "I", Cond.methodLink RX4 249 yX4_isTooLate, Cond.instanceMethod yX4_isTooLate, Cond.selects RX4 yX4_isTooLate yX4_isTooLate, Cond.code yX4_isTooLate cX4_isTooLate 2 (some .boolean), Cond.methodLink RX4 154 yX0_lastEnd]
def wsX4_best_r4 : List Cond := [Cond.instanceMethod yX0_lastEnd, Cond.selects RX0 yX0_lastEnd yX0_lastEnd, Cond.code yX0_lastEnd cX0_lastEnd 1 (some .int), Cond.fieldLink RX0 27 "NightRiders$Chain" "length" "I", Cond.fieldLink RX0 24 "NightRiders$Chain" "ends" "[I", Cond.methodLink RX4 252 yX4_waitsUntil, Cond.instanceMethod yX4_waitsUntil, Cond.selects RX4 yX4_waitsUntil yX4_waitsUntil, Cond.code yX4_waitsUntil cX4_waitsUntil 4 (some .boolean), Cond.fieldLink RX4 263 "NightRiders$Chain" "riders" "[I", Cond.fieldLink RX4 211 "NightRiders$Rider" "dutyTo" "I", Cond.methodLink RX4 255 yX0_open, Cond.instanceMethod yX0_open, Cond.selects RX0 yX0_open yX0_open, Cond.code yX0_open cX0_open 5 none, Cond.fieldLink RX0 15 "NightRiders$Chain" "froms" "[I", Cond.fieldLink RX0 21 "NightRiders$Chain" "starts" "[I", Cond.methodLink RX4 259 yX4_tryEnds, Cond.instanceMethod yX4_tryEnds, Cond.selects RX4 yX4_tryEnds yX4_tryEnds, Cond.code yX4_tryEnd cX4_tryEnd 6 none, Cond.methodLink RX4 269 yX0_fromOf, Cond.instanceMethod yX0_fromOf, Cond.selects RX0 yX0_fromOf yX0_fromOf]
def wsX4_best_r5 : List Cond := [Cond.code yX0_fromOf cX0_fromOf 2 (some .int), Cond.methodLink RX4 272 yX0_comesFrom, Cond.instanceMethod yX0_comesFrom, Cond.selects RX0 yX0_comesFrom yX0_comesFrom, Cond.code yX0_comesFrom cX0_comesFrom 4 (some .boolean), Cond.methodLink RX4 275 yX0_close, Cond.instanceMethod yX0_close, Cond.selects RX0 yX0_close yX0_close, Cond.code yX0_close cX0_close 4 none, Cond.fieldLink RX0 18 "NightRiders$Chain" "tos" "[I", Cond.methodLink RX4 278 yX4_keepIfBetter, Cond.instanceMethod yX4_keepIfBetter, Cond.selects RX4 yX4_keepIfBetter yX4_keepIfBetter, Cond.code yX4_keepIfBetter cX4_keepIfBetter 3 none, Cond.methodLink RX4 281 yX0_take, Cond.instanceMethod yX0_take, Cond.selects RX0 yX0_take yX0_take, Cond.code yX0_take cX0_take 3 none, Cond.code yX4_tryEnds cX4_tryEnds 5 none, Cond.methodLink RX4 265 yX4_tryEnd, Cond.instanceMethod yX4_tryEnd, Cond.selects RX4 yX4_tryEnd yX4_tryEnd]
def wsX4_best : List Cond := .code yX4_best cX4_best 3 (some .int) :: ((wsX4_best_r1 ++ (wsX4_best_r2 ++ (wsX4_best_r3 ++ (wsX4_best_r4 ++ wsX4_best_r5)))) ++ wsX20 ++ wsX40 ++ wsX00 ++ wsX30)
def wsX4_rideChosen_r1 : List Cond := [Cond.fieldLink RX4 32 "NightRiders" "chosen" "LNightRiders$Chain;", Cond.fieldLink RX4 239 "NightRiders$Chain" "length" "I", Cond.fieldLink RX4 263 "NightRiders$Chain" "riders" "[I", Cond.fieldLink RX4 285 "NightRiders$Chain" "starts" "[I", Cond.fieldLink RX4 287 "NightRiders$Chain" "ends" "[I", Cond.fieldLink RX4 289 "NightRiders$Chain" "tos" "[I", Cond.classLink RX4 183 RX1, Cond.instantiable RX1 8, Cond.initialized RX1, Cond.fieldLink RX4 292 "NightRiders$Chain" "froms" "[I", Cond.fieldLink RX4 94 "NightRiders$Rider" "at" "I", Cond.fieldLink RX4 101 "NightRiders$Rider" "free" "I", Cond.fieldLink RX4 45 "NightRiders" "resting" "I", Cond.fieldLink RX4 104 "NightRiders$Rider" "legsRidden" "I", Cond.fieldLink RX4 107 "NightRiders$Rider" "boxMinutes" "I", Cond.methodLink RX4 55 yX4_riderAt, Cond.instanceMethod yX4_riderAt, Cond.selects RX4 yX4_riderAt yX4_riderAt, Cond.initialized RX4, Cond.code yX4_riderAt cX4_riderAt 2 (some (.object "NightRiders$Rider")), Cond.fieldLink RX4 39 "NightRiders" "riderCount" "I", Cond.fieldLink RX4 15 "NightRiders" "riders" "[LNightRiders$Rider;", Cond.methodLink RX4 295 yX1_init, Cond.instanceMethod yX1_init]
def wsX4_rideChosen_r2 : List Cond := [Cond.code yX1_init cX1_init 8 none, Cond.methodLink RX1 1 objectInit, Cond.instanceMethod objectInit, Cond.code objectInit ⟨#[0xb1]⟩ 1 none, Cond.fieldLink RX1 7 "NightRiders$Leg" "failed" "Z", Cond.fieldLink RX1 13 "NightRiders$Leg" "rider" "I", Cond.fieldLink RX1 17 "NightRiders$Leg" "from" "I", Cond.fieldLink RX1 20 "NightRiders$Leg" "to" "I", Cond.fieldLink RX1 23 "NightRiders$Leg" "starts" "I", Cond.fieldLink RX1 26 "NightRiders$Leg" "ends" "I", Cond.fieldLink RX1 29 "NightRiders$Leg" "atAhead" "I", Cond.fieldLink RX1 32 "NightRiders$Leg" "freeAhead" "I", Cond.methodLink RX4 298 yX2_addLeg, Cond.instanceMethod yX2_addLeg, Cond.selects RX2 yX2_addLeg yX2_addLeg, Cond.initialized RX2, Cond.code yX2_addLeg cX2_addLeg 2 none, Cond.fieldLink RX2 17 "NightRiders$Request" "legCount" "I", Cond.fieldLink RX2 11 "NightRiders$Request" "legs" "[LNightRiders$Leg;", Cond.methodLink RX4 302 yX0_handsOn, Cond.instanceMethod yX0_handsOn, Cond.selects RX0 yX0_handsOn yX0_handsOn, Cond.initialized RX0, Cond.code yX0_handsOn cX0_handsOn 2 (some .int)]
def wsX4_rideChosen_r3 : List Cond := [Cond.fieldLink RX0 27 "NightRiders$Chain" "length" "I", Cond.fieldLink RX0 21 "NightRiders$Chain" "starts" "[I", Cond.methodLink RX0 37 yX0_lastEnd, Cond.instanceMethod yX0_lastEnd, Cond.selects RX0 yX0_lastEnd yX0_lastEnd, Cond.code yX0_lastEnd cX0_lastEnd 1 (some .int), Cond.fieldLink RX0 24 "NightRiders$Chain" "ends" "[I"]
def wsX4_rideChosen : List Cond := .code yX4_rideChosen cX4_rideChosen 7 none :: ((wsX4_rideChosen_r1 ++ (wsX4_rideChosen_r2 ++ wsX4_rideChosen_r3)) ++ wsX40 ++ wsX00 ++ wsX10 ++ wsX30 ++ wsX20)
def wsX4_send_r1 : List Cond := [Cond.fieldLink RX4 141 "NightRiders$Request" "sent" "Z", Cond.fieldLink RX4 144 "NightRiders$Request" "from" "I", Cond.fieldLink RX4 147 "NightRiders$Request" "ready" "I", Cond.fieldLink RX4 48 "NightRiders" "lastSent" "I", Cond.methodLink RX4 137 yX4_requestAt, Cond.instanceMethod yX4_requestAt, Cond.selects RX4 yX4_requestAt yX4_requestAt, Cond.initialized RX4, Cond.code yX4_requestAt cX4_requestAt 2 (some (.object "NightRiders$Request")), Cond.fieldLink RX4 42 "NightRiders" "requestCount" "I", Cond.fieldLink RX4 21 "NightRiders" "requests" "[LNightRiders$Request;", Cond.methodLink RX4 150 yX4_findChain, Cond.instanceMethod yX4_findChain, Cond.selects RX4 yX4_findChain yX4_findChain, Cond.code yX4_findChain cX4_findChain 4 (some .boolean), Cond.fieldLink RX4 28 "NightRiders" "trial" "LNightRiders$Chain;", Cond.fieldLink RX4 163 "NightRiders$Request" "kind" "I", Cond.fieldLink RX4 235 "NightRiders$Chain" "kind" "I", Cond.fieldLink RX4 166 "NightRiders$Request" "to" "I", Cond.fieldLink RX4 236 "NightRiders$Chain" "goal" "I", Cond.fieldLink RX4 32 "NightRiders" "chosen" "LNightRiders$Chain;", Cond.fieldLink RX4 239 "NightRiders$Chain" "length" "I", Cond.methodLink RX4 242 yX4_tryRiders, Cond.instanceMethod yX4_tryRiders]
def wsX4_send_r2 : List Cond := [Cond.selects RX4 yX4_tryRiders yX4_tryRiders, Cond.code yX4_tryRiders cX4_tryRiders 8 none, Cond.fieldLink RX4 39 "NightRiders" "riderCount" "I", Cond.methodLink RX4 131 Lib.Math.max.name, Cond.static Lib.Math.max.name, Cond.initialized "java/lang/Math", Cond.code Lib.Math.max.name Lib.Math.max.code 2 (some .int), Cond.methodLink RX4 55 yX4_riderAt, Cond.instanceMethod yX4_riderAt, Cond.selects RX4 yX4_riderAt yX4_riderAt, Cond.code yX4_riderAt cX4_riderAt 2 (some (.object "NightRiders$Rider")), Cond.fieldLink RX4 15 "NightRiders" "riders" "[LNightRiders$Rider;", Cond.methodLink RX4 121 yX3_carries, Cond.instanceMethod yX3_carries, Cond.selects RX3 yX3_carries yX3_carries, Cond.initialized RX3, Cond.code yX3_carries cX3_carries 2 (some .boolean), Cond.fieldLink RX3 22 "NightRiders$Rider" "failed" "Z", Cond.fieldLink RX3 38 "NightRiders$Rider" "kinds" "I", Cond.static yX4_hasBit, Cond.code yX4_hasBit cX4_hasBit 2 (some .boolean), Cond.methodLink RX4 246 yX0_isRiddenBy, Cond.instanceMethod yX0_isRiddenBy, Cond.selects RX0 yX0_isRiddenBy yX0_isRiddenBy]
def wsX4_send_r3 : List Cond := [Cond.initialized RX0, Cond.code yX0_isRiddenBy cX0_isRiddenBy 4 (some .boolean), Cond.fieldLink RX0 9 "NightRiders$Chain" "riders" "[I", Cond.methodLink RX4 207 yX4_thereFrom, Cond.instanceMethod yX4_thereFrom, Cond.selects RX4 yX4_thereFrom yX4_thereFrom, Cond.code yX4_thereFrom cX4_thereFrom 4 (some .int), Cond.fieldLink RX4 94 "NightRiders$Rider" "at" "I", Cond.fieldLink RX4 101 "NightRiders$Rider" "free" "I", Cond.fieldLink RX4 224 "NightRiders$Rider" "dutyFrom" "I", Cond.methodLink RX4 80 yX4_wayOf, Cond.instanceMethod yX4_wayOf, Cond.selects RX4 yX4_wayOf yX4_wayOf, Cond.code yX4_wayOf cX4_wayOf 4 (some .int), Cond.fieldLink RX4 214 "NightRiders$Rider" "ways" "[I", Cond.methodLink RX4 51 yX4_isPlace, Cond.instanceMethod yX4_isPlace, Cond.selects RX4 yX4_isPlace yX4_isPlace, Cond.code yX4_isPlace cX4_isPlace 2 (some .boolean), Cond.fieldLink RX4 35 "NightRiders" "placeCount" "I", Cond.methodLink RX4 249 yX4_isTooLate, Cond.instanceMethod yX4_isTooLate, Cond.selects RX4 yX4_isTooLate yX4_isTooLate, Cond.code yX4_isTooLate cX4_isTooLate 2 (some .boolean)]
def wsX4_send_r4 : List Cond := [Cond.methodLink RX4 154 yX0_lastEnd, Cond.instanceMethod yX0_lastEnd, Cond.selects RX0 yX0_lastEnd yX0_lastEnd, Cond.code yX0_lastEnd cX0_lastEnd 1 (some .int), Cond.fieldLink RX0 27 "NightRiders$Chain" "length" "I", Cond.fieldLink RX0 24 "NightRiders$Chain" "ends" "[I", Cond.methodLink RX4 252 yX4_waitsUntil, Cond.instanceMethod yX4_waitsUntil, Cond.selects RX4 yX4_waitsUntil yX4_waitsUntil, Cond.code yX4_waitsUntil cX4_waitsUntil 4 (some .boolean), Cond.fieldLink RX4 263 "NightRiders$Chain" "riders" "[I", Cond.fieldLink RX4 211 "NightRiders$Rider" "dutyTo" "I", Cond.methodLink RX4 255 yX0_open, Cond.instanceMethod yX0_open, Cond.selects RX0 yX0_open yX0_open, Cond.code yX0_open cX0_open 5 none, Cond.fieldLink RX0 15 "NightRiders$Chain" "froms" "[I", Cond.fieldLink RX0 21 "NightRiders$Chain" "starts" "[I", Cond.methodLink RX4 259 yX4_tryEnds, Cond.instanceMethod yX4_tryEnds, Cond.selects RX4 yX4_tryEnds yX4_tryEnds, Cond.code yX4_tryEnd cX4_tryEnd 6 none, Cond.methodLink RX4 269 yX0_fromOf, Cond.instanceMethod yX0_fromOf]
def wsX4_send_r5 : List Cond := [Cond.selects RX0 yX0_fromOf yX0_fromOf, Cond.code yX0_fromOf cX0_fromOf 2 (some .int), Cond.methodLink RX4 272 yX0_comesFrom, Cond.instanceMethod yX0_comesFrom, Cond.selects RX0 yX0_comesFrom yX0_comesFrom, Cond.code yX0_comesFrom cX0_comesFrom 4 (some .boolean), Cond.methodLink RX4 275 yX0_close, Cond.instanceMethod yX0_close, Cond.selects RX0 yX0_close yX0_close, Cond.code yX0_close cX0_close 4 none, Cond.fieldLink RX0 18 "NightRiders$Chain" "tos" "[I", Cond.methodLink RX4 278 yX4_keepIfBetter, Cond.instanceMethod yX4_keepIfBetter, Cond.selects RX4 yX4_keepIfBetter yX4_keepIfBetter, Cond.code yX4_keepIfBetter cX4_keepIfBetter 3 none, Cond.methodLink RX4 281 yX0_take, Cond.instanceMethod yX0_take, Cond.selects RX0 yX0_take yX0_take, Cond.code yX0_take cX0_take 3 none, Cond.code yX4_tryEnds cX4_tryEnds 5 none, Cond.methodLink RX4 265 yX4_tryEnd, Cond.instanceMethod yX4_tryEnd, Cond.selects RX4 yX4_tryEnd yX4_tryEnd, Cond.methodLink RX4 158 yX4_rideChosen]
def wsX4_send_r6 : List Cond := [Cond.instanceMethod yX4_rideChosen, Cond.selects RX4 yX4_rideChosen yX4_rideChosen, Cond.code yX4_rideChosen cX4_rideChosen 7 none, Cond.fieldLink RX4 285 "NightRiders$Chain" "starts" "[I", Cond.fieldLink RX4 287 "NightRiders$Chain" "ends" "[I", Cond.fieldLink RX4 289 "NightRiders$Chain" "tos" "[I", Cond.classLink RX4 183 RX1, Cond.instantiable RX1 8, Cond.initialized RX1, Cond.fieldLink RX4 292 "NightRiders$Chain" "froms" "[I", Cond.fieldLink RX4 45 "NightRiders" "resting" "I", Cond.fieldLink RX4 104 "NightRiders$Rider" "legsRidden" "I", Cond.fieldLink RX4 107 "NightRiders$Rider" "boxMinutes" "I", Cond.methodLink RX4 295 yX1_init, Cond.instanceMethod yX1_init, Cond.code yX1_init cX1_init 8 none, Cond.methodLink RX1 1 objectInit, Cond.instanceMethod objectInit, Cond.code objectInit ⟨#[0xb1]⟩ 1 none, Cond.fieldLink RX1 7 "NightRiders$Leg" "failed" "Z", Cond.fieldLink RX1 13 "NightRiders$Leg" "rider" "I", Cond.fieldLink RX1 17 "NightRiders$Leg" "from" "I", Cond.fieldLink RX1 20 "NightRiders$Leg" "to" "I", Cond.fieldLink RX1 23 "NightRiders$Leg" "starts" "I"]
def wsX4_send_r7 : List Cond := [Cond.fieldLink RX1 26 "NightRiders$Leg" "ends" "I", Cond.fieldLink RX1 29 "NightRiders$Leg" "atAhead" "I", Cond.fieldLink RX1 32 "NightRiders$Leg" "freeAhead" "I", Cond.methodLink RX4 298 yX2_addLeg, Cond.instanceMethod yX2_addLeg, Cond.selects RX2 yX2_addLeg yX2_addLeg, Cond.initialized RX2, Cond.code yX2_addLeg cX2_addLeg 2 none, Cond.fieldLink RX2 17 "NightRiders$Request" "legCount" "I", Cond.fieldLink RX2 11 "NightRiders$Request" "legs" "[LNightRiders$Leg;", Cond.methodLink RX4 302 yX0_handsOn, Cond.instanceMethod yX0_handsOn, Cond.selects RX0 yX0_handsOn yX0_handsOn, Cond.code yX0_handsOn cX0_handsOn 2 (some .int), Cond.methodLink RX0 37 yX0_lastEnd, Cond.methodLink RX4 162 yX2_lastEnd, Cond.instanceMethod yX2_lastEnd, Cond.selects RX2 yX2_lastEnd yX2_lastEnd, Cond.code yX2_lastEnd cX2_lastEnd 2 (some .int), Cond.fieldLink RX2 47 "NightRiders$Leg" "ends" "I", Cond.methodLink RX2 43 yX2_legAt, Cond.instanceMethod yX2_legAt, Cond.selects RX2 yX2_legAt yX2_legAt, Cond.code yX2_legAt cX2_legAt 2 (some (.object "NightRiders$Leg"))]
def wsX4_send : List Cond := .code yX4_send cX4_send 3 (some .int) :: ((wsX4_send_r1 ++ (wsX4_send_r2 ++ (wsX4_send_r3 ++ (wsX4_send_r4 ++ (wsX4_send_r5 ++ (wsX4_send_r6 ++ wsX4_send_r7)))))) ++ wsX20 ++ wsX40 ++ wsX00 ++ wsX30 ++ wsX10)
def wsX4_told_r1 : List Cond := [Cond.fieldLink RX4 163 "NightRiders$Request" "kind" "I", Cond.fieldLink RX4 144 "NightRiders$Request" "from" "I", Cond.fieldLink RX4 166 "NightRiders$Request" "to" "I", Cond.fieldLink RX4 147 "NightRiders$Request" "ready" "I", Cond.fieldLink RX4 169 "NightRiders$Request" "cold" "I", Cond.fieldLink RX4 172 "NightRiders$Request" "lost" "Z", Cond.fieldLink RX4 141 "NightRiders$Request" "sent" "Z", Cond.fieldLink RX4 175 "NightRiders$Request" "legCount" "I", Cond.methodLink RX4 137 yX4_requestAt, Cond.instanceMethod yX4_requestAt, Cond.selects RX4 yX4_requestAt yX4_requestAt, Cond.initialized RX4, Cond.code yX4_requestAt cX4_requestAt 2 (some (.object "NightRiders$Request")), Cond.fieldLink RX4 42 "NightRiders" "requestCount" "I", Cond.fieldLink RX4 21 "NightRiders" "requests" "[LNightRiders$Request;", Cond.methodLink RX4 162 yX2_lastEnd, Cond.instanceMethod yX2_lastEnd, Cond.selects RX2 yX2_lastEnd yX2_lastEnd, Cond.initialized RX2, Cond.code yX2_lastEnd cX2_lastEnd 2 (some .int), Cond.fieldLink RX2 17 "NightRiders$Request" "legCount" "I", Cond.fieldLink RX2 47 "NightRiders$Leg" "ends" "I", Cond.methodLink RX2 43 yX2_legAt, Cond.instanceMethod yX2_legAt]
def wsX4_told_r2 : List Cond := [Cond.selects RX2 yX2_legAt yX2_legAt, Cond.code yX2_legAt cX2_legAt 2 (some (.object "NightRiders$Leg")), Cond.fieldLink RX2 11 "NightRiders$Request" "legs" "[LNightRiders$Leg;"]
def wsX4_told : List Cond := .code yX4_told cX4_told 4 (some .int) :: ((wsX4_told_r1 ++ wsX4_told_r2) ++ wsX20 ++ wsX40 ++ wsX10)
def wsX4_leg : List Cond := .code yX4_leg cX4_leg 6 (some .int) :: ([.fieldLink RX4 182 "NightRiders$Leg" "rider" "I", .fieldLink RX4 187 "NightRiders$Leg" "from" "I", .fieldLink RX4 188 "NightRiders$Leg" "to" "I", .fieldLink RX4 189 "NightRiders$Leg" "starts" "I", .fieldLink RX4 192 "NightRiders$Leg" "ends" "I", .fieldLink RX4 195 "NightRiders$Leg" "failed" "Z", .methodLink RX4 137 yX4_requestAt, .instanceMethod yX4_requestAt, .selects RX4 yX4_requestAt yX4_requestAt, .initialized RX4, .code yX4_requestAt cX4_requestAt 2 (some (.object "NightRiders$Request")), .fieldLink RX4 42 "NightRiders" "requestCount" "I", .fieldLink RX4 21 "NightRiders" "requests" "[LNightRiders$Request;", .methodLink RX4 178 yX2_legAt, .instanceMethod yX2_legAt, .selects RX2 yX2_legAt yX2_legAt, .initialized RX2, .code yX2_legAt cX2_legAt 2 (some (.object "NightRiders$Leg")), .fieldLink RX2 17 "NightRiders$Request" "legCount" "I", .fieldLink RX2 11 "NightRiders$Request" "legs" "[LNightRiders$Leg;"] ++ wsX10 ++ wsX40 ++ wsX20)
def wsX4_hand_r1 : List Cond := [Cond.fieldLink RX4 141 "NightRiders$Request" "sent" "Z", Cond.fieldLink RX4 175 "NightRiders$Request" "legCount" "I", Cond.fieldLink RX4 189 "NightRiders$Leg" "starts" "I", Cond.fieldLink RX4 182 "NightRiders$Leg" "rider" "I", Cond.methodLink RX4 137 yX4_requestAt, Cond.instanceMethod yX4_requestAt, Cond.selects RX4 yX4_requestAt yX4_requestAt, Cond.initialized RX4, Cond.code yX4_requestAt cX4_requestAt 2 (some (.object "NightRiders$Request")), Cond.fieldLink RX4 42 "NightRiders" "requestCount" "I", Cond.fieldLink RX4 21 "NightRiders" "requests" "[LNightRiders$Request;", Cond.methodLink RX4 70 yX4_isMinute, Cond.static yX4_isMinute, Cond.code yX4_isMinute cX4_isMinute 1 (some .boolean), Cond.methodLink RX4 162 yX2_lastEnd, Cond.instanceMethod yX2_lastEnd, Cond.selects RX2 yX2_lastEnd yX2_lastEnd, Cond.initialized RX2, Cond.code yX2_lastEnd cX2_lastEnd 2 (some .int), Cond.fieldLink RX2 17 "NightRiders$Request" "legCount" "I", Cond.fieldLink RX2 47 "NightRiders$Leg" "ends" "I", Cond.methodLink RX2 43 yX2_legAt, Cond.instanceMethod yX2_legAt, Cond.selects RX2 yX2_legAt yX2_legAt]
def wsX4_hand_r2 : List Cond := [Cond.code yX2_legAt cX2_legAt 2 (some (.object "NightRiders$Leg")), Cond.fieldLink RX2 11 "NightRiders$Request" "legs" "[LNightRiders$Leg;", Cond.methodLink RX4 178 yX2_legAt]
def wsX4_hand : List Cond := .code yX4_hand cX4_hand 6 (some .int) :: ((wsX4_hand_r1 ++ wsX4_hand_r2) ++ wsX20 ++ wsX10 ++ wsX40)
def wsX4_mayFail : List Cond := .code yX4_mayFail cX4_mayFail 6 (some .boolean) :: ([.fieldLink RX4 189 "NightRiders$Leg" "starts" "I", .fieldLink RX4 192 "NightRiders$Leg" "ends" "I", .fieldLink RX4 175 "NightRiders$Request" "legCount" "I", .fieldLink RX4 195 "NightRiders$Leg" "failed" "Z", .methodLink RX4 178 yX2_legAt, .instanceMethod yX2_legAt, .selects RX2 yX2_legAt yX2_legAt, .initialized RX2, .code yX2_legAt cX2_legAt 2 (some (.object "NightRiders$Leg")), .fieldLink RX2 17 "NightRiders$Request" "legCount" "I", .fieldLink RX2 11 "NightRiders$Request" "legs" "[LNightRiders$Leg;"] ++ wsX10 ++ wsX20)
def wsX4_dropLegsBehind : List Cond := .code yX4_dropLegsBehind cX4_dropLegsBehind 6 none :: ([.fieldLink RX4 175 "NightRiders$Request" "legCount" "I", .fieldLink RX4 182 "NightRiders$Leg" "rider" "I", .fieldLink RX4 305 "NightRiders$Leg" "atAhead" "I", .fieldLink RX4 94 "NightRiders$Rider" "at" "I", .fieldLink RX4 308 "NightRiders$Leg" "freeAhead" "I", .fieldLink RX4 101 "NightRiders$Rider" "free" "I", .fieldLink RX4 104 "NightRiders$Rider" "legsRidden" "I", .fieldLink RX4 107 "NightRiders$Rider" "boxMinutes" "I", .fieldLink RX4 192 "NightRiders$Leg" "ends" "I", .fieldLink RX4 189 "NightRiders$Leg" "starts" "I", .methodLink RX4 178 yX2_legAt, .instanceMethod yX2_legAt, .selects RX2 yX2_legAt yX2_legAt, .initialized RX2, .code yX2_legAt cX2_legAt 2 (some (.object "NightRiders$Leg")), .fieldLink RX2 17 "NightRiders$Request" "legCount" "I", .fieldLink RX2 11 "NightRiders$Request" "legs" "[LNightRiders$Leg;", .methodLink RX4 55 yX4_riderAt, .instanceMethod yX4_riderAt, .selects RX4 yX4_riderAt yX4_riderAt, .initialized RX4, .code yX4_riderAt cX4_riderAt 2 (some (.object "NightRiders$Rider")), .fieldLink RX4 39 "NightRiders" "riderCount" "I", .fieldLink RX4 15 "NightRiders" "riders" "[LNightRiders$Rider;"] ++ wsX20 ++ wsX10 ++ wsX30 ++ wsX40)
def wsX4_failLeg : List Cond := .code yX4_failLeg cX4_failLeg 4 none :: ([.fieldLink RX4 182 "NightRiders$Leg" "rider" "I", .fieldLink RX4 107 "NightRiders$Rider" "boxMinutes" "I", .fieldLink RX4 192 "NightRiders$Leg" "ends" "I", .fieldLink RX4 187 "NightRiders$Leg" "from" "I", .fieldLink RX4 94 "NightRiders$Rider" "at" "I", .fieldLink RX4 97 "NightRiders$Rider" "failed" "Z", .fieldLink RX4 188 "NightRiders$Leg" "to" "I", .fieldLink RX4 195 "NightRiders$Leg" "failed" "Z", .methodLink RX4 55 yX4_riderAt, .instanceMethod yX4_riderAt, .selects RX4 yX4_riderAt yX4_riderAt, .initialized RX4, .code yX4_riderAt cX4_riderAt 2 (some (.object "NightRiders$Rider")), .fieldLink RX4 39 "NightRiders" "riderCount" "I", .fieldLink RX4 15 "NightRiders" "riders" "[LNightRiders$Rider;"] ++ wsX10 ++ wsX30 ++ wsX40)
def wsX4_fail_r1 : List Cond := [Cond.fieldLink RX4 48 "NightRiders" "lastSent" "I", Cond.fieldLink RX4 187 "NightRiders$Leg" "from" "I", Cond.fieldLink RX4 172 "NightRiders$Request" "lost" "Z", Cond.methodLink RX4 137 yX4_requestAt, Cond.instanceMethod yX4_requestAt, Cond.selects RX4 yX4_requestAt yX4_requestAt, Cond.initialized RX4, Cond.code yX4_requestAt cX4_requestAt 2 (some (.object "NightRiders$Request")), Cond.fieldLink RX4 42 "NightRiders" "requestCount" "I", Cond.fieldLink RX4 21 "NightRiders" "requests" "[LNightRiders$Request;", Cond.methodLink RX4 196 yX4_mayFail, Cond.static yX4_mayFail, Cond.code yX4_mayFail cX4_mayFail 6 (some .boolean), Cond.fieldLink RX4 189 "NightRiders$Leg" "starts" "I", Cond.fieldLink RX4 192 "NightRiders$Leg" "ends" "I", Cond.fieldLink RX4 175 "NightRiders$Request" "legCount" "I", Cond.fieldLink RX4 195 "NightRiders$Leg" "failed" "Z", Cond.methodLink RX4 178 yX2_legAt, Cond.instanceMethod yX2_legAt, Cond.selects RX2 yX2_legAt yX2_legAt, Cond.initialized RX2, Cond.code yX2_legAt cX2_legAt 2 (some (.object "NightRiders$Leg")), Cond.fieldLink RX2 17 "NightRiders$Request" "legCount" "I", Cond.fieldLink RX2 11 "NightRiders$Request" "legs" "[LNightRiders$Leg;"]
def wsX4_fail_r2 : List Cond := [Cond.methodLink RX4 199 yX4_dropLegsBehind, Cond.instanceMethod yX4_dropLegsBehind, Cond.selects RX4 yX4_dropLegsBehind yX4_dropLegsBehind, Cond.code yX4_dropLegsBehind cX4_dropLegsBehind 6 none, Cond.fieldLink RX4 182 "NightRiders$Leg" "rider" "I", Cond.fieldLink RX4 305 "NightRiders$Leg" "atAhead" "I", Cond.fieldLink RX4 94 "NightRiders$Rider" "at" "I", Cond.fieldLink RX4 308 "NightRiders$Leg" "freeAhead" "I", Cond.fieldLink RX4 101 "NightRiders$Rider" "free" "I", Cond.fieldLink RX4 104 "NightRiders$Rider" "legsRidden" "I", Cond.fieldLink RX4 107 "NightRiders$Rider" "boxMinutes" "I", Cond.methodLink RX4 55 yX4_riderAt, Cond.instanceMethod yX4_riderAt, Cond.selects RX4 yX4_riderAt yX4_riderAt, Cond.code yX4_riderAt cX4_riderAt 2 (some (.object "NightRiders$Rider")), Cond.fieldLink RX4 39 "NightRiders" "riderCount" "I", Cond.fieldLink RX4 15 "NightRiders" "riders" "[LNightRiders$Rider;", Cond.methodLink RX4 203 yX4_failLeg, Cond.instanceMethod yX4_failLeg, Cond.selects RX4 yX4_failLeg yX4_failLeg, Cond.code yX4_failLeg cX4_failLeg 4 none, Cond.fieldLink RX4 97 "NightRiders$Rider" "failed" "Z", Cond.fieldLink RX4 188 "NightRiders$Leg" "to" "I", Cond.methodLink RX4 150 yX4_findChain]
def wsX4_fail_r3 : List Cond := [Cond.instanceMethod yX4_findChain, Cond.selects RX4 yX4_findChain yX4_findChain, Cond.code yX4_findChain cX4_findChain 4 (some .boolean), Cond.fieldLink RX4 28 "NightRiders" "trial" "LNightRiders$Chain;", Cond.fieldLink RX4 163 "NightRiders$Request" "kind" "I", Cond.fieldLink RX4 235 "NightRiders$Chain" "kind" "I", Cond.fieldLink RX4 166 "NightRiders$Request" "to" "I", Cond.fieldLink RX4 236 "NightRiders$Chain" "goal" "I", Cond.fieldLink RX4 32 "NightRiders" "chosen" "LNightRiders$Chain;", Cond.fieldLink RX4 239 "NightRiders$Chain" "length" "I", Cond.methodLink RX4 242 yX4_tryRiders, Cond.instanceMethod yX4_tryRiders, Cond.selects RX4 yX4_tryRiders yX4_tryRiders, Cond.code yX4_tryRiders cX4_tryRiders 8 none, Cond.methodLink RX4 131 Lib.Math.max.name, Cond.static Lib.Math.max.name, Cond.initialized "java/lang/Math", Cond.code Lib.Math.max.name Lib.Math.max.code 2 (some .int), Cond.methodLink RX4 121 yX3_carries, Cond.instanceMethod yX3_carries, Cond.selects RX3 yX3_carries yX3_carries, Cond.initialized RX3, Cond.code yX3_carries cX3_carries 2 (some .boolean), Cond.fieldLink RX3 22 "NightRiders$Rider" "failed" "Z"]
def wsX4_fail_r4 : List Cond := [Cond.fieldLink RX3 38 "NightRiders$Rider" "kinds" "I", Cond.static yX4_hasBit, Cond.code yX4_hasBit cX4_hasBit 2 (some .boolean), Cond.methodLink RX4 246 yX0_isRiddenBy, Cond.instanceMethod yX0_isRiddenBy, Cond.selects RX0 yX0_isRiddenBy yX0_isRiddenBy, Cond.initialized RX0, Cond.code yX0_isRiddenBy cX0_isRiddenBy 4 (some .boolean), Cond.fieldLink RX0 9 "NightRiders$Chain" "riders" "[I", Cond.methodLink RX4 207 yX4_thereFrom, Cond.instanceMethod yX4_thereFrom, Cond.selects RX4 yX4_thereFrom yX4_thereFrom, Cond.code yX4_thereFrom cX4_thereFrom 4 (some .int), Cond.fieldLink RX4 224 "NightRiders$Rider" "dutyFrom" "I", Cond.methodLink RX4 80 yX4_wayOf, Cond.instanceMethod yX4_wayOf, Cond.selects RX4 yX4_wayOf yX4_wayOf, Cond.code yX4_wayOf cX4_wayOf 4 (some .int), Cond.fieldLink RX4 214 "NightRiders$Rider" "ways" "[I", Cond.methodLink RX4 51 yX4_isPlace, Cond.instanceMethod yX4_isPlace, Cond.selects RX4 yX4_isPlace yX4_isPlace, Cond.code yX4_isPlace cX4_isPlace 2 (some .boolean), Cond.fieldLink RX4 35 "NightRiders" "placeCount" "I"]
def wsX4_fail_r5 : List Cond := [Cond.methodLink RX4 249 yX4_isTooLate, Cond.instanceMethod yX4_isTooLate, Cond.selects RX4 yX4_isTooLate yX4_isTooLate, Cond.code yX4_isTooLate cX4_isTooLate 2 (some .boolean), Cond.methodLink RX4 154 yX0_lastEnd, Cond.instanceMethod yX0_lastEnd, Cond.selects RX0 yX0_lastEnd yX0_lastEnd, Cond.code yX0_lastEnd cX0_lastEnd 1 (some .int), Cond.fieldLink RX0 27 "NightRiders$Chain" "length" "I", Cond.fieldLink RX0 24 "NightRiders$Chain" "ends" "[I", Cond.methodLink RX4 252 yX4_waitsUntil, Cond.instanceMethod yX4_waitsUntil, Cond.selects RX4 yX4_waitsUntil yX4_waitsUntil, Cond.code yX4_waitsUntil cX4_waitsUntil 4 (some .boolean), Cond.fieldLink RX4 263 "NightRiders$Chain" "riders" "[I", Cond.fieldLink RX4 211 "NightRiders$Rider" "dutyTo" "I", Cond.methodLink RX4 255 yX0_open, Cond.instanceMethod yX0_open, Cond.selects RX0 yX0_open yX0_open, Cond.code yX0_open cX0_open 5 none, Cond.fieldLink RX0 15 "NightRiders$Chain" "froms" "[I", Cond.fieldLink RX0 21 "NightRiders$Chain" "starts" "[I", Cond.methodLink RX4 259 yX4_tryEnds, Cond.instanceMethod yX4_tryEnds]
def wsX4_fail_r6 : List Cond := [Cond.selects RX4 yX4_tryEnds yX4_tryEnds, Cond.code yX4_tryEnd cX4_tryEnd 6 none, Cond.methodLink RX4 269 yX0_fromOf, Cond.instanceMethod yX0_fromOf, Cond.selects RX0 yX0_fromOf yX0_fromOf, Cond.code yX0_fromOf cX0_fromOf 2 (some .int), Cond.methodLink RX4 272 yX0_comesFrom, Cond.instanceMethod yX0_comesFrom, Cond.selects RX0 yX0_comesFrom yX0_comesFrom, Cond.code yX0_comesFrom cX0_comesFrom 4 (some .boolean), Cond.methodLink RX4 275 yX0_close, Cond.instanceMethod yX0_close, Cond.selects RX0 yX0_close yX0_close, Cond.code yX0_close cX0_close 4 none, Cond.fieldLink RX0 18 "NightRiders$Chain" "tos" "[I", Cond.methodLink RX4 278 yX4_keepIfBetter, Cond.instanceMethod yX4_keepIfBetter, Cond.selects RX4 yX4_keepIfBetter yX4_keepIfBetter, Cond.code yX4_keepIfBetter cX4_keepIfBetter 3 none, Cond.methodLink RX4 281 yX0_take, Cond.instanceMethod yX0_take, Cond.selects RX0 yX0_take yX0_take, Cond.code yX0_take cX0_take 3 none, Cond.code yX4_tryEnds cX4_tryEnds 5 none]
def wsX4_fail_r7 : List Cond := [Cond.methodLink RX4 265 yX4_tryEnd, Cond.instanceMethod yX4_tryEnd, Cond.selects RX4 yX4_tryEnd yX4_tryEnd, Cond.methodLink RX4 158 yX4_rideChosen, Cond.instanceMethod yX4_rideChosen, Cond.selects RX4 yX4_rideChosen yX4_rideChosen, Cond.code yX4_rideChosen cX4_rideChosen 7 none, Cond.fieldLink RX4 285 "NightRiders$Chain" "starts" "[I", Cond.fieldLink RX4 287 "NightRiders$Chain" "ends" "[I", Cond.fieldLink RX4 289 "NightRiders$Chain" "tos" "[I", Cond.classLink RX4 183 RX1, Cond.instantiable RX1 8, Cond.initialized RX1, Cond.fieldLink RX4 292 "NightRiders$Chain" "froms" "[I", Cond.fieldLink RX4 45 "NightRiders" "resting" "I", Cond.methodLink RX4 295 yX1_init, Cond.instanceMethod yX1_init, Cond.code yX1_init cX1_init 8 none, Cond.methodLink RX1 1 objectInit, Cond.instanceMethod objectInit, Cond.code objectInit ⟨#[0xb1]⟩ 1 none, Cond.fieldLink RX1 7 "NightRiders$Leg" "failed" "Z", Cond.fieldLink RX1 13 "NightRiders$Leg" "rider" "I", Cond.fieldLink RX1 17 "NightRiders$Leg" "from" "I"]
def wsX4_fail_r8 : List Cond := [Cond.fieldLink RX1 20 "NightRiders$Leg" "to" "I", Cond.fieldLink RX1 23 "NightRiders$Leg" "starts" "I", Cond.fieldLink RX1 26 "NightRiders$Leg" "ends" "I", Cond.fieldLink RX1 29 "NightRiders$Leg" "atAhead" "I", Cond.fieldLink RX1 32 "NightRiders$Leg" "freeAhead" "I", Cond.methodLink RX4 298 yX2_addLeg, Cond.instanceMethod yX2_addLeg, Cond.selects RX2 yX2_addLeg yX2_addLeg, Cond.code yX2_addLeg cX2_addLeg 2 none, Cond.methodLink RX4 302 yX0_handsOn, Cond.instanceMethod yX0_handsOn, Cond.selects RX0 yX0_handsOn yX0_handsOn, Cond.code yX0_handsOn cX0_handsOn 2 (some .int), Cond.methodLink RX0 37 yX0_lastEnd, Cond.methodLink RX4 162 yX2_lastEnd, Cond.instanceMethod yX2_lastEnd, Cond.selects RX2 yX2_lastEnd yX2_lastEnd, Cond.code yX2_lastEnd cX2_lastEnd 2 (some .int), Cond.fieldLink RX2 47 "NightRiders$Leg" "ends" "I", Cond.methodLink RX2 43 yX2_legAt]
def wsX4_fail : List Cond := .code yX4_fail cX4_fail 6 (some .int) :: ((wsX4_fail_r1 ++ (wsX4_fail_r2 ++ (wsX4_fail_r3 ++ (wsX4_fail_r4 ++ (wsX4_fail_r5 ++ (wsX4_fail_r6 ++ (wsX4_fail_r7 ++ wsX4_fail_r8))))))) ++ wsX40 ++ wsX10 ++ wsX20 ++ wsX30 ++ wsX00)
def wsX4_next_r1 : List Cond := [Cond.fieldLink RX4 39 "NightRiders" "riderCount" "I", Cond.fieldLink RX4 211 "NightRiders$Rider" "dutyTo" "I", Cond.fieldLink RX4 104 "NightRiders$Rider" "legsRidden" "I", Cond.methodLink RX4 118 yX4_isKind, Cond.static yX4_isKind, Cond.initialized RX4, Cond.code yX4_isKind cX4_isKind 1 (some .boolean), Cond.methodLink RX4 51 yX4_isPlace, Cond.instanceMethod yX4_isPlace, Cond.selects RX4 yX4_isPlace yX4_isPlace, Cond.code yX4_isPlace cX4_isPlace 2 (some .boolean), Cond.fieldLink RX4 35 "NightRiders" "placeCount" "I", Cond.methodLink RX4 55 yX4_riderAt, Cond.instanceMethod yX4_riderAt, Cond.selects RX4 yX4_riderAt yX4_riderAt, Cond.code yX4_riderAt cX4_riderAt 2 (some (.object "NightRiders$Rider")), Cond.fieldLink RX4 15 "NightRiders" "riders" "[LNightRiders$Rider;", Cond.methodLink RX4 121 yX3_carries, Cond.instanceMethod yX3_carries, Cond.selects RX3 yX3_carries yX3_carries, Cond.initialized RX3, Cond.code yX3_carries cX3_carries 2 (some .boolean), Cond.fieldLink RX3 22 "NightRiders$Rider" "failed" "Z", Cond.fieldLink RX3 38 "NightRiders$Rider" "kinds" "I"]
def wsX4_next_r2 : List Cond := [Cond.static yX4_hasBit, Cond.code yX4_hasBit cX4_hasBit 2 (some .boolean), Cond.methodLink RX4 207 yX4_thereFrom, Cond.instanceMethod yX4_thereFrom, Cond.selects RX4 yX4_thereFrom yX4_thereFrom, Cond.code yX4_thereFrom cX4_thereFrom 4 (some .int), Cond.fieldLink RX4 94 "NightRiders$Rider" "at" "I", Cond.fieldLink RX4 101 "NightRiders$Rider" "free" "I", Cond.fieldLink RX4 224 "NightRiders$Rider" "dutyFrom" "I", Cond.methodLink RX4 131 Lib.Math.max.name, Cond.static Lib.Math.max.name, Cond.initialized "java/lang/Math", Cond.code Lib.Math.max.name Lib.Math.max.code 2 (some .int), Cond.methodLink RX4 80 yX4_wayOf, Cond.instanceMethod yX4_wayOf, Cond.selects RX4 yX4_wayOf yX4_wayOf, Cond.code yX4_wayOf cX4_wayOf 4 (some .int), Cond.fieldLink RX4 214 "NightRiders$Rider" "ways" "[I"]
def wsX4_next : List Cond := .code yX4_next cX4_next 10 (some .int) :: ((wsX4_next_r1 ++ wsX4_next_r2) ++ wsX40 ++ wsX30)
def wsX5_init_r1 : List Cond := [Cond.methodLink RX5 1 objectInit, Cond.instanceMethod objectInit, Cond.code objectInit ⟨#[0xb1]⟩ 1 none, Cond.arrayClass .int, Cond.fieldLink RX5 9 "NightRidersModel" "roads" "[I", Cond.fieldLink RX5 13 "NightRidersModel" "home" "[I", Cond.fieldLink RX5 16 "NightRidersModel" "area" "[I", Cond.fieldLink RX5 19 "NightRidersModel" "dutyFrom" "[I", Cond.fieldLink RX5 22 "NightRidersModel" "dutyTo" "[I", Cond.fieldLink RX5 25 "NightRidersModel" "kinds" "[I", Cond.fieldLink RX5 28 "NightRidersModel" "at" "[I", Cond.fieldLink RX5 31 "NightRidersModel" "free" "[I", Cond.arrayClass .boolean, Cond.fieldLink RX5 34 "NightRidersModel" "failed" "[Z", Cond.fieldLink RX5 38 "NightRidersModel" "rode" "[I", Cond.fieldLink RX5 41 "NightRidersModel" "minutes" "[I", Cond.fieldLink RX5 44 "NightRidersModel" "rest" "I", Cond.fieldLink RX5 48 "NightRidersModel" "kind" "[I", Cond.fieldLink RX5 51 "NightRidersModel" "from" "[I", Cond.fieldLink RX5 54 "NightRidersModel" "to" "[I", Cond.fieldLink RX5 57 "NightRidersModel" "ready" "[I", Cond.fieldLink RX5 60 "NightRidersModel" "cold" "[I", Cond.fieldLink RX5 63 "NightRidersModel" "state" "[I", Cond.fieldLink RX5 66 "NightRidersModel" "latest" "I"]
def wsX5_init_r2 : List Cond := [Cond.fieldLink RX5 69 "NightRidersModel" "legs" "[I", Cond.fieldLink RX5 72 "NightRidersModel" "legMany" "[I", Cond.fieldLink RX5 75 "NightRidersModel" "far" "[I", Cond.fieldLink RX5 78 "NightRidersModel" "tryRider" "[I", Cond.fieldLink RX5 81 "NightRidersModel" "tryPlace" "[I", Cond.fieldLink RX5 84 "NightRidersModel" "tryStart" "[I", Cond.fieldLink RX5 87 "NightRidersModel" "tryEnd" "[I", Cond.fieldLink RX5 90 "NightRidersModel" "bestRider" "[I", Cond.fieldLink RX5 93 "NightRidersModel" "bestPlace" "[I", Cond.fieldLink RX5 96 "NightRidersModel" "bestStart" "[I", Cond.fieldLink RX5 99 "NightRidersModel" "bestEnd" "[I"]
def wsX5_init : List Cond := .code yX5_init cX5_init 1 none :: ((wsX5_init_r1 ++ wsX5_init_r2) ++ wsX50)
def wsX5_thrown : List Cond := .code yX5_thrown cX5_thrown 1 (some .int) :: ([.fieldLink RX5 102 "NightRidersModel" "thrown" "I"] ++ wsX50)
def wsX5_in : List Cond := .code yX5_in cX5_in 3 (some .boolean) :: ([])
def wsX5_isPlace : List Cond := .code yX5_isPlace cX5_isPlace 2 (some .boolean) :: ([.fieldLink RX5 105 "NightRidersModel" "places" "I", .methodLink RX5 108 yX5_in, .static yX5_in, .initialized RX5, .code yX5_in cX5_in 3 (some .boolean)] ++ wsX50)
def wsX5_isRider : List Cond := .code yX5_isRider cX5_isRider 2 (some .boolean) :: ([.fieldLink RX5 112 "NightRidersModel" "riders" "I", .methodLink RX5 108 yX5_in, .static yX5_in, .initialized RX5, .code yX5_in cX5_in 3 (some .boolean)] ++ wsX50)
def wsX5_isCall : List Cond := .code yX5_isCall cX5_isCall 2 (some .boolean) :: ([.fieldLink RX5 115 "NightRidersModel" "calls" "I", .methodLink RX5 108 yX5_in, .static yX5_in, .initialized RX5, .code yX5_in cX5_in 3 (some .boolean)] ++ wsX50)
def wsX5_place : List Cond := .code yX5_place cX5_place 1 (some .int) :: ([.fieldLink RX5 102 "NightRidersModel" "thrown" "I", .fieldLink RX5 105 "NightRidersModel" "places" "I"] ++ wsX50)
def wsX5_road : List Cond := .code yX5_road cX5_road 4 (some .boolean) :: ([.fieldLink RX5 102 "NightRidersModel" "thrown" "I", .fieldLink RX5 9 "NightRidersModel" "roads" "[I", .methodLink RX5 118 yX5_isPlace, .instanceMethod yX5_isPlace, .selects RX5 yX5_isPlace yX5_isPlace, .initialized RX5, .code yX5_isPlace cX5_isPlace 2 (some .boolean), .fieldLink RX5 105 "NightRidersModel" "places" "I", .methodLink RX5 108 yX5_in, .static yX5_in, .code yX5_in cX5_in 3 (some .boolean)] ++ wsX50)
def wsX5_rider : List Cond := .code yX5_rider cX5_rider 6 (some .int) :: ([.fieldLink RX5 102 "NightRidersModel" "thrown" "I", .fieldLink RX5 105 "NightRidersModel" "places" "I", .fieldLink RX5 112 "NightRidersModel" "riders" "I", .fieldLink RX5 13 "NightRidersModel" "home" "[I", .fieldLink RX5 16 "NightRidersModel" "area" "[I", .fieldLink RX5 19 "NightRidersModel" "dutyFrom" "[I", .fieldLink RX5 22 "NightRidersModel" "dutyTo" "[I", .fieldLink RX5 25 "NightRidersModel" "kinds" "[I", .fieldLink RX5 28 "NightRidersModel" "at" "[I", .fieldLink RX5 31 "NightRidersModel" "free" "[I", .methodLink RX5 118 yX5_isPlace, .instanceMethod yX5_isPlace, .selects RX5 yX5_isPlace yX5_isPlace, .initialized RX5, .code yX5_isPlace cX5_isPlace 2 (some .boolean), .methodLink RX5 108 yX5_in, .static yX5_in, .code yX5_in cX5_in 3 (some .boolean)] ++ wsX50)
def wsX5_rest : List Cond := .code yX5_rest cX5_rest 3 (some .int) :: ([.fieldLink RX5 102 "NightRidersModel" "thrown" "I", .fieldLink RX5 44 "NightRidersModel" "rest" "I", .methodLink RX5 108 yX5_in, .static yX5_in, .initialized RX5, .code yX5_in cX5_in 3 (some .boolean)] ++ wsX50)
def wsX5_wayOf : List Cond := .code yX5_wayOf cX5_wayOf 8 (some .int) :: ([.fieldLink RX5 16 "NightRidersModel" "area" "[I", .constant RX5 122 (1000000), .fieldLink RX5 75 "NightRidersModel" "far" "[I", .fieldLink RX5 105 "NightRidersModel" "places" "I", .fieldLink RX5 9 "NightRidersModel" "roads" "[I"] ++ wsX50)
def wsX5_way : List Cond := .code yX5_way cX5_way 5 (some .int) :: ([.fieldLink RX5 102 "NightRidersModel" "thrown" "I", .constant RX5 122 (1000000), .methodLink RX5 123 yX5_isRider, .instanceMethod yX5_isRider, .selects RX5 yX5_isRider yX5_isRider, .initialized RX5, .code yX5_isRider cX5_isRider 2 (some .boolean), .fieldLink RX5 112 "NightRidersModel" "riders" "I", .methodLink RX5 108 yX5_in, .static yX5_in, .code yX5_in cX5_in 3 (some .boolean), .methodLink RX5 118 yX5_isPlace, .instanceMethod yX5_isPlace, .selects RX5 yX5_isPlace yX5_isPlace, .code yX5_isPlace cX5_isPlace 2 (some .boolean), .fieldLink RX5 105 "NightRidersModel" "places" "I", .methodLink RX5 126 yX5_wayOf, .instanceMethod yX5_wayOf, .selects RX5 yX5_wayOf yX5_wayOf, .code yX5_wayOf cX5_wayOf 8 (some .int), .fieldLink RX5 16 "NightRidersModel" "area" "[I", .fieldLink RX5 75 "NightRidersModel" "far" "[I", .fieldLink RX5 9 "NightRidersModel" "roads" "[I"] ++ wsX50)
def wsX5_endOf : List Cond := .code yX5_endOf cX5_endOf 2 (some .int) :: ([.fieldLink RX5 69 "NightRidersModel" "legs" "[I", .fieldLink RX5 72 "NightRidersModel" "legMany" "[I"] ++ wsX50)
def wsX5_count : List Cond := .code yX5_count cX5_count 4 (some .int) :: ([.fieldLink RX5 102 "NightRidersModel" "thrown" "I", .fieldLink RX5 105 "NightRidersModel" "places" "I", .fieldLink RX5 112 "NightRidersModel" "riders" "I", .fieldLink RX5 115 "NightRidersModel" "calls" "I", .fieldLink RX5 63 "NightRidersModel" "state" "[I", .fieldLink RX5 57 "NightRidersModel" "ready" "[I", .fieldLink RX5 60 "NightRidersModel" "cold" "[I", .methodLink RX5 130 yX5_endOf, .instanceMethod yX5_endOf, .selects RX5 yX5_endOf yX5_endOf, .initialized RX5, .code yX5_endOf cX5_endOf 2 (some .int), .fieldLink RX5 69 "NightRidersModel" "legs" "[I", .fieldLink RX5 72 "NightRidersModel" "legMany" "[I"] ++ wsX50)
def wsX5_of : List Cond := .code yX5_of cX5_of 3 (some .int) :: ([.fieldLink RX5 102 "NightRidersModel" "thrown" "I", .fieldLink RX5 13 "NightRidersModel" "home" "[I", .fieldLink RX5 28 "NightRidersModel" "at" "[I", .fieldLink RX5 34 "NightRidersModel" "failed" "[Z", .fieldLink RX5 31 "NightRidersModel" "free" "[I", .fieldLink RX5 38 "NightRidersModel" "rode" "[I", .fieldLink RX5 41 "NightRidersModel" "minutes" "[I", .fieldLink RX5 16 "NightRidersModel" "area" "[I", .fieldLink RX5 25 "NightRidersModel" "kinds" "[I", .methodLink RX5 123 yX5_isRider, .instanceMethod yX5_isRider, .selects RX5 yX5_isRider yX5_isRider, .initialized RX5, .code yX5_isRider cX5_isRider 2 (some .boolean), .fieldLink RX5 112 "NightRidersModel" "riders" "I", .methodLink RX5 108 yX5_in, .static yX5_in, .code yX5_in cX5_in 3 (some .boolean)] ++ wsX50)
def wsX5_mayCarry : List Cond := .code yX5_mayCarry cX5_mayCarry 3 (some .boolean) :: ([.fieldLink RX5 34 "NightRidersModel" "failed" "[Z", .fieldLink RX5 25 "NightRidersModel" "kinds" "[I"] ++ wsX50)
def wsX5_onDuty : List Cond := .code yX5_onDuty cX5_onDuty 5 (some .int) :: ([.fieldLink RX5 112 "NightRidersModel" "riders" "I", .fieldLink RX5 19 "NightRidersModel" "dutyFrom" "[I", .fieldLink RX5 22 "NightRidersModel" "dutyTo" "[I", .methodLink RX5 134 yX5_mayCarry, .instanceMethod yX5_mayCarry, .selects RX5 yX5_mayCarry yX5_mayCarry, .initialized RX5, .code yX5_mayCarry cX5_mayCarry 3 (some .boolean), .fieldLink RX5 34 "NightRidersModel" "failed" "[Z", .fieldLink RX5 25 "NightRidersModel" "kinds" "[I", .methodLink RX5 108 yX5_in, .static yX5_in, .code yX5_in cX5_in 3 (some .boolean)] ++ wsX50)
def wsX5_duty : List Cond := .code yX5_duty cX5_duty 3 (some .int) :: ([.fieldLink RX5 102 "NightRidersModel" "thrown" "I", .methodLink RX5 108 yX5_in, .static yX5_in, .initialized RX5, .code yX5_in cX5_in 3 (some .boolean), .methodLink RX5 138 yX5_onDuty, .instanceMethod yX5_onDuty, .selects RX5 yX5_onDuty yX5_onDuty, .code yX5_onDuty cX5_onDuty 5 (some .int), .fieldLink RX5 112 "NightRidersModel" "riders" "I", .fieldLink RX5 19 "NightRidersModel" "dutyFrom" "[I", .fieldLink RX5 22 "NightRidersModel" "dutyTo" "[I", .methodLink RX5 134 yX5_mayCarry, .instanceMethod yX5_mayCarry, .selects RX5 yX5_mayCarry yX5_mayCarry, .code yX5_mayCarry cX5_mayCarry 3 (some .boolean), .fieldLink RX5 34 "NightRidersModel" "failed" "[Z", .fieldLink RX5 25 "NightRidersModel" "kinds" "[I"] ++ wsX50)
def wsX5_bare : List Cond := .code yX5_bare cX5_bare 4 (some .int) :: ([.fieldLink RX5 102 "NightRidersModel" "thrown" "I", .methodLink RX5 108 yX5_in, .static yX5_in, .initialized RX5, .code yX5_in cX5_in 3 (some .boolean), .methodLink RX5 138 yX5_onDuty, .instanceMethod yX5_onDuty, .selects RX5 yX5_onDuty yX5_onDuty, .code yX5_onDuty cX5_onDuty 5 (some .int), .fieldLink RX5 112 "NightRidersModel" "riders" "I", .fieldLink RX5 19 "NightRidersModel" "dutyFrom" "[I", .fieldLink RX5 22 "NightRidersModel" "dutyTo" "[I", .methodLink RX5 134 yX5_mayCarry, .instanceMethod yX5_mayCarry, .selects RX5 yX5_mayCarry yX5_mayCarry, .code yX5_mayCarry cX5_mayCarry 3 (some .boolean), .fieldLink RX5 34 "NightRidersModel" "failed" "[Z", .fieldLink RX5 25 "NightRidersModel" "kinds" "[I"] ++ wsX50)
def wsX5_isBetter : List Cond := .code yX5_isBetter cX5_isBetter 5 (some .boolean) :: ([.fieldLink RX5 142 "NightRidersModel" "bestMany" "I", .fieldLink RX5 87 "NightRidersModel" "tryEnd" "[I", .fieldLink RX5 99 "NightRidersModel" "bestEnd" "[I", .fieldLink RX5 78 "NightRidersModel" "tryRider" "[I", .fieldLink RX5 90 "NightRidersModel" "bestRider" "[I", .fieldLink RX5 81 "NightRidersModel" "tryPlace" "[I", .fieldLink RX5 93 "NightRidersModel" "bestPlace" "[I"] ++ wsX50)
def wsX5_tryLeg_r1 : List Cond := [Cond.fieldLink RX5 112 "NightRidersModel" "riders" "I", Cond.fieldLink RX5 78 "NightRidersModel" "tryRider" "[I", Cond.fieldLink RX5 28 "NightRidersModel" "at" "[I", Cond.constant RX5 122 (1000000), Cond.fieldLink RX5 31 "NightRidersModel" "free" "[I", Cond.fieldLink RX5 19 "NightRidersModel" "dutyFrom" "[I", Cond.methodLink RX5 145 Lib.Math.max.name, Cond.static Lib.Math.max.name, Cond.initialized "java/lang/Math", Cond.code Lib.Math.max.name Lib.Math.max.code 2 (some .int), Cond.fieldLink RX5 22 "NightRidersModel" "dutyTo" "[I", Cond.fieldLink RX5 105 "NightRidersModel" "places" "I", Cond.fieldLink RX5 81 "NightRidersModel" "tryPlace" "[I", Cond.fieldLink RX5 84 "NightRidersModel" "tryStart" "[I", Cond.fieldLink RX5 87 "NightRidersModel" "tryEnd" "[I", Cond.fieldLink RX5 142 "NightRidersModel" "bestMany" "I", Cond.fieldLink RX5 90 "NightRidersModel" "bestRider" "[I", Cond.fieldLink RX5 93 "NightRidersModel" "bestPlace" "[I", Cond.fieldLink RX5 96 "NightRidersModel" "bestStart" "[I", Cond.fieldLink RX5 99 "NightRidersModel" "bestEnd" "[I", Cond.methodLink RX5 134 yX5_mayCarry, Cond.instanceMethod yX5_mayCarry, Cond.selects RX5 yX5_mayCarry yX5_mayCarry, Cond.initialized RX5]
def wsX5_tryLeg_r2 : List Cond := [Cond.code yX5_mayCarry cX5_mayCarry 3 (some .boolean), Cond.fieldLink RX5 34 "NightRidersModel" "failed" "[Z", Cond.fieldLink RX5 25 "NightRidersModel" "kinds" "[I", Cond.methodLink RX5 126 yX5_wayOf, Cond.instanceMethod yX5_wayOf, Cond.selects RX5 yX5_wayOf yX5_wayOf, Cond.code yX5_wayOf cX5_wayOf 8 (some .int), Cond.fieldLink RX5 16 "NightRidersModel" "area" "[I", Cond.fieldLink RX5 75 "NightRidersModel" "far" "[I", Cond.fieldLink RX5 9 "NightRidersModel" "roads" "[I", Cond.methodLink RX5 150 yX5_tryLeg, Cond.instanceMethod yX5_tryLeg, Cond.selects RX5 yX5_tryLeg yX5_tryLeg, Cond.methodLink RX5 154 yX5_isBetter, Cond.instanceMethod yX5_isBetter, Cond.selects RX5 yX5_isBetter yX5_isBetter, Cond.code yX5_isBetter cX5_isBetter 5 (some .boolean)]
def wsX5_tryLeg : List Cond := .code yX5_tryLeg cX5_tryLeg 14 none :: ((wsX5_tryLeg_r1 ++ wsX5_tryLeg_r2) ++ wsX50)
def wsX5_findBest_r1 : List Cond := [Cond.fieldLink RX5 142 "NightRidersModel" "bestMany" "I", Cond.methodLink RX5 150 yX5_tryLeg, Cond.instanceMethod yX5_tryLeg, Cond.selects RX5 yX5_tryLeg yX5_tryLeg, Cond.initialized RX5, Cond.code yX5_tryLeg cX5_tryLeg 14 none, Cond.fieldLink RX5 112 "NightRidersModel" "riders" "I", Cond.fieldLink RX5 78 "NightRidersModel" "tryRider" "[I", Cond.fieldLink RX5 28 "NightRidersModel" "at" "[I", Cond.constant RX5 122 (1000000), Cond.fieldLink RX5 31 "NightRidersModel" "free" "[I", Cond.fieldLink RX5 19 "NightRidersModel" "dutyFrom" "[I", Cond.methodLink RX5 145 Lib.Math.max.name, Cond.static Lib.Math.max.name, Cond.initialized "java/lang/Math", Cond.code Lib.Math.max.name Lib.Math.max.code 2 (some .int), Cond.fieldLink RX5 22 "NightRidersModel" "dutyTo" "[I", Cond.fieldLink RX5 105 "NightRidersModel" "places" "I", Cond.fieldLink RX5 81 "NightRidersModel" "tryPlace" "[I", Cond.fieldLink RX5 84 "NightRidersModel" "tryStart" "[I", Cond.fieldLink RX5 87 "NightRidersModel" "tryEnd" "[I", Cond.fieldLink RX5 90 "NightRidersModel" "bestRider" "[I", Cond.fieldLink RX5 93 "NightRidersModel" "bestPlace" "[I", Cond.fieldLink RX5 96 "NightRidersModel" "bestStart" "[I"]
def wsX5_findBest_r2 : List Cond := [Cond.fieldLink RX5 99 "NightRidersModel" "bestEnd" "[I", Cond.methodLink RX5 134 yX5_mayCarry, Cond.instanceMethod yX5_mayCarry, Cond.selects RX5 yX5_mayCarry yX5_mayCarry, Cond.code yX5_mayCarry cX5_mayCarry 3 (some .boolean), Cond.fieldLink RX5 34 "NightRidersModel" "failed" "[Z", Cond.fieldLink RX5 25 "NightRidersModel" "kinds" "[I", Cond.methodLink RX5 126 yX5_wayOf, Cond.instanceMethod yX5_wayOf, Cond.selects RX5 yX5_wayOf yX5_wayOf, Cond.code yX5_wayOf cX5_wayOf 8 (some .int), Cond.fieldLink RX5 16 "NightRidersModel" "area" "[I", Cond.fieldLink RX5 75 "NightRidersModel" "far" "[I", Cond.fieldLink RX5 9 "NightRidersModel" "roads" "[I", Cond.methodLink RX5 154 yX5_isBetter, Cond.instanceMethod yX5_isBetter, Cond.selects RX5 yX5_isBetter yX5_isBetter, Cond.code yX5_isBetter cX5_isBetter 5 (some .boolean)]
def wsX5_findBest : List Cond := .code yX5_findBest cX5_findBest 5 (some .boolean) :: ((wsX5_findBest_r1 ++ wsX5_findBest_r2) ++ wsX50)
def wsX5_ride : List Cond := .code yX5_ride cX5_ride 7 none :: ([.fieldLink RX5 142 "NightRidersModel" "bestMany" "I", .fieldLink RX5 90 "NightRidersModel" "bestRider" "[I", .fieldLink RX5 72 "NightRidersModel" "legMany" "[I", .fieldLink RX5 69 "NightRidersModel" "legs" "[I", .fieldLink RX5 93 "NightRidersModel" "bestPlace" "[I", .fieldLink RX5 96 "NightRidersModel" "bestStart" "[I", .fieldLink RX5 99 "NightRidersModel" "bestEnd" "[I", .fieldLink RX5 28 "NightRidersModel" "at" "[I", .fieldLink RX5 31 "NightRidersModel" "free" "[I", .fieldLink RX5 44 "NightRidersModel" "rest" "I", .fieldLink RX5 38 "NightRidersModel" "rode" "[I", .fieldLink RX5 41 "NightRidersModel" "minutes" "[I"] ++ wsX50)
def wsX5_call : List Cond := .code yX5_call cX5_call 6 (some .int) :: ([.fieldLink RX5 102 "NightRidersModel" "thrown" "I", .fieldLink RX5 115 "NightRidersModel" "calls" "I", .fieldLink RX5 48 "NightRidersModel" "kind" "[I", .fieldLink RX5 51 "NightRidersModel" "from" "[I", .fieldLink RX5 54 "NightRidersModel" "to" "[I", .fieldLink RX5 57 "NightRidersModel" "ready" "[I", .fieldLink RX5 60 "NightRidersModel" "cold" "[I", .methodLink RX5 108 yX5_in, .static yX5_in, .initialized RX5, .code yX5_in cX5_in 3 (some .boolean), .methodLink RX5 118 yX5_isPlace, .instanceMethod yX5_isPlace, .selects RX5 yX5_isPlace yX5_isPlace, .code yX5_isPlace cX5_isPlace 2 (some .boolean), .fieldLink RX5 105 "NightRidersModel" "places" "I"] ++ wsX50)
def wsX5_best_r1 : List Cond := [Cond.fieldLink RX5 102 "NightRidersModel" "thrown" "I", Cond.fieldLink RX5 63 "NightRidersModel" "state" "[I", Cond.fieldLink RX5 48 "NightRidersModel" "kind" "[I", Cond.fieldLink RX5 51 "NightRidersModel" "from" "[I", Cond.fieldLink RX5 57 "NightRidersModel" "ready" "[I", Cond.fieldLink RX5 54 "NightRidersModel" "to" "[I", Cond.fieldLink RX5 99 "NightRidersModel" "bestEnd" "[I", Cond.fieldLink RX5 142 "NightRidersModel" "bestMany" "I", Cond.methodLink RX5 157 yX5_isCall, Cond.instanceMethod yX5_isCall, Cond.selects RX5 yX5_isCall yX5_isCall, Cond.initialized RX5, Cond.code yX5_isCall cX5_isCall 2 (some .boolean), Cond.fieldLink RX5 115 "NightRidersModel" "calls" "I", Cond.methodLink RX5 108 yX5_in, Cond.static yX5_in, Cond.code yX5_in cX5_in 3 (some .boolean), Cond.methodLink RX5 160 yX5_findBest, Cond.instanceMethod yX5_findBest, Cond.selects RX5 yX5_findBest yX5_findBest, Cond.code yX5_findBest cX5_findBest 5 (some .boolean), Cond.methodLink RX5 150 yX5_tryLeg, Cond.instanceMethod yX5_tryLeg, Cond.selects RX5 yX5_tryLeg yX5_tryLeg]
def wsX5_best_r2 : List Cond := [Cond.code yX5_tryLeg cX5_tryLeg 14 none, Cond.fieldLink RX5 112 "NightRidersModel" "riders" "I", Cond.fieldLink RX5 78 "NightRidersModel" "tryRider" "[I", Cond.fieldLink RX5 28 "NightRidersModel" "at" "[I", Cond.constant RX5 122 (1000000), Cond.fieldLink RX5 31 "NightRidersModel" "free" "[I", Cond.fieldLink RX5 19 "NightRidersModel" "dutyFrom" "[I", Cond.methodLink RX5 145 Lib.Math.max.name, Cond.static Lib.Math.max.name, Cond.initialized "java/lang/Math", Cond.code Lib.Math.max.name Lib.Math.max.code 2 (some .int), Cond.fieldLink RX5 22 "NightRidersModel" "dutyTo" "[I", Cond.fieldLink RX5 105 "NightRidersModel" "places" "I", Cond.fieldLink RX5 81 "NightRidersModel" "tryPlace" "[I", Cond.fieldLink RX5 84 "NightRidersModel" "tryStart" "[I", Cond.fieldLink RX5 87 "NightRidersModel" "tryEnd" "[I", Cond.fieldLink RX5 90 "NightRidersModel" "bestRider" "[I", Cond.fieldLink RX5 93 "NightRidersModel" "bestPlace" "[I", Cond.fieldLink RX5 96 "NightRidersModel" "bestStart" "[I", Cond.methodLink RX5 134 yX5_mayCarry, Cond.instanceMethod yX5_mayCarry, Cond.selects RX5 yX5_mayCarry yX5_mayCarry, Cond.code yX5_mayCarry cX5_mayCarry 3 (some .boolean), Cond.fieldLink RX5 34 "NightRidersModel" "failed" "[Z"]
def wsX5_best_r3 : List Cond := [Cond.fieldLink RX5 25 "NightRidersModel" "kinds" "[I", Cond.methodLink RX5 126 yX5_wayOf, Cond.instanceMethod yX5_wayOf, Cond.selects RX5 yX5_wayOf yX5_wayOf, Cond.code yX5_wayOf cX5_wayOf 8 (some .int), Cond.fieldLink RX5 16 "NightRidersModel" "area" "[I", Cond.fieldLink RX5 75 "NightRidersModel" "far" "[I", Cond.fieldLink RX5 9 "NightRidersModel" "roads" "[I", Cond.methodLink RX5 154 yX5_isBetter, Cond.instanceMethod yX5_isBetter, Cond.selects RX5 yX5_isBetter yX5_isBetter, Cond.code yX5_isBetter cX5_isBetter 5 (some .boolean)]
def wsX5_best : List Cond := .code yX5_best cX5_best 2 (some .int) :: ((wsX5_best_r1 ++ (wsX5_best_r2 ++ wsX5_best_r3)) ++ wsX50)
def wsX5_send_r1 : List Cond := [Cond.fieldLink RX5 102 "NightRidersModel" "thrown" "I", Cond.fieldLink RX5 63 "NightRidersModel" "state" "[I", Cond.fieldLink RX5 48 "NightRidersModel" "kind" "[I", Cond.fieldLink RX5 51 "NightRidersModel" "from" "[I", Cond.fieldLink RX5 57 "NightRidersModel" "ready" "[I", Cond.fieldLink RX5 54 "NightRidersModel" "to" "[I", Cond.fieldLink RX5 66 "NightRidersModel" "latest" "I", Cond.methodLink RX5 157 yX5_isCall, Cond.instanceMethod yX5_isCall, Cond.selects RX5 yX5_isCall yX5_isCall, Cond.initialized RX5, Cond.code yX5_isCall cX5_isCall 2 (some .boolean), Cond.fieldLink RX5 115 "NightRidersModel" "calls" "I", Cond.methodLink RX5 108 yX5_in, Cond.static yX5_in, Cond.code yX5_in cX5_in 3 (some .boolean), Cond.methodLink RX5 160 yX5_findBest, Cond.instanceMethod yX5_findBest, Cond.selects RX5 yX5_findBest yX5_findBest, Cond.code yX5_findBest cX5_findBest 5 (some .boolean), Cond.fieldLink RX5 142 "NightRidersModel" "bestMany" "I", Cond.methodLink RX5 150 yX5_tryLeg, Cond.instanceMethod yX5_tryLeg, Cond.selects RX5 yX5_tryLeg yX5_tryLeg]
def wsX5_send_r2 : List Cond := [Cond.code yX5_tryLeg cX5_tryLeg 14 none, Cond.fieldLink RX5 112 "NightRidersModel" "riders" "I", Cond.fieldLink RX5 78 "NightRidersModel" "tryRider" "[I", Cond.fieldLink RX5 28 "NightRidersModel" "at" "[I", Cond.constant RX5 122 (1000000), Cond.fieldLink RX5 31 "NightRidersModel" "free" "[I", Cond.fieldLink RX5 19 "NightRidersModel" "dutyFrom" "[I", Cond.methodLink RX5 145 Lib.Math.max.name, Cond.static Lib.Math.max.name, Cond.initialized "java/lang/Math", Cond.code Lib.Math.max.name Lib.Math.max.code 2 (some .int), Cond.fieldLink RX5 22 "NightRidersModel" "dutyTo" "[I", Cond.fieldLink RX5 105 "NightRidersModel" "places" "I", Cond.fieldLink RX5 81 "NightRidersModel" "tryPlace" "[I", Cond.fieldLink RX5 84 "NightRidersModel" "tryStart" "[I", Cond.fieldLink RX5 87 "NightRidersModel" "tryEnd" "[I", Cond.fieldLink RX5 90 "NightRidersModel" "bestRider" "[I", Cond.fieldLink RX5 93 "NightRidersModel" "bestPlace" "[I", Cond.fieldLink RX5 96 "NightRidersModel" "bestStart" "[I", Cond.fieldLink RX5 99 "NightRidersModel" "bestEnd" "[I", Cond.methodLink RX5 134 yX5_mayCarry, Cond.instanceMethod yX5_mayCarry, Cond.selects RX5 yX5_mayCarry yX5_mayCarry, Cond.code yX5_mayCarry cX5_mayCarry 3 (some .boolean)]
def wsX5_send_r3 : List Cond := [Cond.fieldLink RX5 34 "NightRidersModel" "failed" "[Z", Cond.fieldLink RX5 25 "NightRidersModel" "kinds" "[I", Cond.methodLink RX5 126 yX5_wayOf, Cond.instanceMethod yX5_wayOf, Cond.selects RX5 yX5_wayOf yX5_wayOf, Cond.code yX5_wayOf cX5_wayOf 8 (some .int), Cond.fieldLink RX5 16 "NightRidersModel" "area" "[I", Cond.fieldLink RX5 75 "NightRidersModel" "far" "[I", Cond.fieldLink RX5 9 "NightRidersModel" "roads" "[I", Cond.methodLink RX5 154 yX5_isBetter, Cond.instanceMethod yX5_isBetter, Cond.selects RX5 yX5_isBetter yX5_isBetter, Cond.code yX5_isBetter cX5_isBetter 5 (some .boolean), Cond.methodLink RX5 164 yX5_ride, Cond.instanceMethod yX5_ride, Cond.selects RX5 yX5_ride yX5_ride, Cond.code yX5_ride cX5_ride 7 none, Cond.fieldLink RX5 72 "NightRidersModel" "legMany" "[I", Cond.fieldLink RX5 69 "NightRidersModel" "legs" "[I", Cond.fieldLink RX5 44 "NightRidersModel" "rest" "I", Cond.fieldLink RX5 38 "NightRidersModel" "rode" "[I", Cond.fieldLink RX5 41 "NightRidersModel" "minutes" "[I", Cond.methodLink RX5 130 yX5_endOf, Cond.instanceMethod yX5_endOf]
def wsX5_send_r4 : List Cond := [Cond.selects RX5 yX5_endOf yX5_endOf, Cond.code yX5_endOf cX5_endOf 2 (some .int)]
def wsX5_send : List Cond := .code yX5_send cX5_send 2 (some .int) :: ((wsX5_send_r1 ++ (wsX5_send_r2 ++ (wsX5_send_r3 ++ wsX5_send_r4))) ++ wsX50)
def wsX5_told : List Cond := .code yX5_told cX5_told 3 (some .int) :: ([.fieldLink RX5 102 "NightRidersModel" "thrown" "I", .fieldLink RX5 48 "NightRidersModel" "kind" "[I", .fieldLink RX5 51 "NightRidersModel" "from" "[I", .fieldLink RX5 54 "NightRidersModel" "to" "[I", .fieldLink RX5 57 "NightRidersModel" "ready" "[I", .fieldLink RX5 60 "NightRidersModel" "cold" "[I", .fieldLink RX5 63 "NightRidersModel" "state" "[I", .fieldLink RX5 72 "NightRidersModel" "legMany" "[I", .methodLink RX5 157 yX5_isCall, .instanceMethod yX5_isCall, .selects RX5 yX5_isCall yX5_isCall, .initialized RX5, .code yX5_isCall cX5_isCall 2 (some .boolean), .fieldLink RX5 115 "NightRidersModel" "calls" "I", .methodLink RX5 108 yX5_in, .static yX5_in, .code yX5_in cX5_in 3 (some .boolean), .methodLink RX5 130 yX5_endOf, .instanceMethod yX5_endOf, .selects RX5 yX5_endOf yX5_endOf, .code yX5_endOf cX5_endOf 2 (some .int), .fieldLink RX5 69 "NightRidersModel" "legs" "[I"] ++ wsX50)
def wsX5_leg : List Cond := .code yX5_leg cX5_leg 4 (some .int) :: ([.fieldLink RX5 102 "NightRidersModel" "thrown" "I", .fieldLink RX5 72 "NightRidersModel" "legMany" "[I", .fieldLink RX5 69 "NightRidersModel" "legs" "[I", .methodLink RX5 157 yX5_isCall, .instanceMethod yX5_isCall, .selects RX5 yX5_isCall yX5_isCall, .initialized RX5, .code yX5_isCall cX5_isCall 2 (some .boolean), .fieldLink RX5 115 "NightRidersModel" "calls" "I", .methodLink RX5 108 yX5_in, .static yX5_in, .code yX5_in cX5_in 3 (some .boolean)] ++ wsX50)
def wsX5_hand : List Cond := .code yX5_hand cX5_hand 5 (some .int) :: ([.fieldLink RX5 102 "NightRidersModel" "thrown" "I", .fieldLink RX5 63 "NightRidersModel" "state" "[I", .fieldLink RX5 72 "NightRidersModel" "legMany" "[I", .fieldLink RX5 69 "NightRidersModel" "legs" "[I", .methodLink RX5 157 yX5_isCall, .instanceMethod yX5_isCall, .selects RX5 yX5_isCall yX5_isCall, .initialized RX5, .code yX5_isCall cX5_isCall 2 (some .boolean), .fieldLink RX5 115 "NightRidersModel" "calls" "I", .methodLink RX5 108 yX5_in, .static yX5_in, .code yX5_in cX5_in 3 (some .boolean), .methodLink RX5 130 yX5_endOf, .instanceMethod yX5_endOf, .selects RX5 yX5_endOf yX5_endOf, .code yX5_endOf cX5_endOf 2 (some .int)] ++ wsX50)
def wsX5_fail_r1 : List Cond := [Cond.fieldLink RX5 102 "NightRidersModel" "thrown" "I", Cond.fieldLink RX5 66 "NightRidersModel" "latest" "I", Cond.fieldLink RX5 72 "NightRidersModel" "legMany" "[I", Cond.fieldLink RX5 69 "NightRidersModel" "legs" "[I", Cond.fieldLink RX5 28 "NightRidersModel" "at" "[I", Cond.fieldLink RX5 31 "NightRidersModel" "free" "[I", Cond.fieldLink RX5 38 "NightRidersModel" "rode" "[I", Cond.fieldLink RX5 41 "NightRidersModel" "minutes" "[I", Cond.fieldLink RX5 34 "NightRidersModel" "failed" "[Z", Cond.fieldLink RX5 48 "NightRidersModel" "kind" "[I", Cond.fieldLink RX5 54 "NightRidersModel" "to" "[I", Cond.fieldLink RX5 63 "NightRidersModel" "state" "[I", Cond.methodLink RX5 157 yX5_isCall, Cond.instanceMethod yX5_isCall, Cond.selects RX5 yX5_isCall yX5_isCall, Cond.initialized RX5, Cond.code yX5_isCall cX5_isCall 2 (some .boolean), Cond.fieldLink RX5 115 "NightRidersModel" "calls" "I", Cond.methodLink RX5 108 yX5_in, Cond.static yX5_in, Cond.code yX5_in cX5_in 3 (some .boolean), Cond.methodLink RX5 160 yX5_findBest, Cond.instanceMethod yX5_findBest, Cond.selects RX5 yX5_findBest yX5_findBest]
def wsX5_fail_r2 : List Cond := [Cond.code yX5_findBest cX5_findBest 5 (some .boolean), Cond.fieldLink RX5 142 "NightRidersModel" "bestMany" "I", Cond.methodLink RX5 150 yX5_tryLeg, Cond.instanceMethod yX5_tryLeg, Cond.selects RX5 yX5_tryLeg yX5_tryLeg, Cond.code yX5_tryLeg cX5_tryLeg 14 none, Cond.fieldLink RX5 112 "NightRidersModel" "riders" "I", Cond.fieldLink RX5 78 "NightRidersModel" "tryRider" "[I", Cond.constant RX5 122 (1000000), Cond.fieldLink RX5 19 "NightRidersModel" "dutyFrom" "[I", Cond.methodLink RX5 145 Lib.Math.max.name, Cond.static Lib.Math.max.name, Cond.initialized "java/lang/Math", Cond.code Lib.Math.max.name Lib.Math.max.code 2 (some .int), Cond.fieldLink RX5 22 "NightRidersModel" "dutyTo" "[I", Cond.fieldLink RX5 105 "NightRidersModel" "places" "I", Cond.fieldLink RX5 81 "NightRidersModel" "tryPlace" "[I", Cond.fieldLink RX5 84 "NightRidersModel" "tryStart" "[I", Cond.fieldLink RX5 87 "NightRidersModel" "tryEnd" "[I", Cond.fieldLink RX5 90 "NightRidersModel" "bestRider" "[I", Cond.fieldLink RX5 93 "NightRidersModel" "bestPlace" "[I", Cond.fieldLink RX5 96 "NightRidersModel" "bestStart" "[I", Cond.fieldLink RX5 99 "NightRidersModel" "bestEnd" "[I", Cond.methodLink RX5 134 yX5_mayCarry]
def wsX5_fail_r3 : List Cond := [Cond.instanceMethod yX5_mayCarry, Cond.selects RX5 yX5_mayCarry yX5_mayCarry, Cond.code yX5_mayCarry cX5_mayCarry 3 (some .boolean), Cond.fieldLink RX5 25 "NightRidersModel" "kinds" "[I", Cond.methodLink RX5 126 yX5_wayOf, Cond.instanceMethod yX5_wayOf, Cond.selects RX5 yX5_wayOf yX5_wayOf, Cond.code yX5_wayOf cX5_wayOf 8 (some .int), Cond.fieldLink RX5 16 "NightRidersModel" "area" "[I", Cond.fieldLink RX5 75 "NightRidersModel" "far" "[I", Cond.fieldLink RX5 9 "NightRidersModel" "roads" "[I", Cond.methodLink RX5 154 yX5_isBetter, Cond.instanceMethod yX5_isBetter, Cond.selects RX5 yX5_isBetter yX5_isBetter, Cond.code yX5_isBetter cX5_isBetter 5 (some .boolean), Cond.methodLink RX5 164 yX5_ride, Cond.instanceMethod yX5_ride, Cond.selects RX5 yX5_ride yX5_ride, Cond.code yX5_ride cX5_ride 7 none, Cond.fieldLink RX5 44 "NightRidersModel" "rest" "I", Cond.methodLink RX5 130 yX5_endOf, Cond.instanceMethod yX5_endOf, Cond.selects RX5 yX5_endOf yX5_endOf, Cond.code yX5_endOf cX5_endOf 2 (some .int)]
def wsX5_fail : List Cond := .code yX5_fail cX5_fail 8 (some .int) :: ((wsX5_fail_r1 ++ (wsX5_fail_r2 ++ wsX5_fail_r3)) ++ wsX50)
def wsX5_next_r1 : List Cond := [Cond.fieldLink RX5 102 "NightRidersModel" "thrown" "I", Cond.fieldLink RX5 112 "NightRidersModel" "riders" "I", Cond.fieldLink RX5 28 "NightRidersModel" "at" "[I", Cond.constant RX5 122 (1000000), Cond.fieldLink RX5 31 "NightRidersModel" "free" "[I", Cond.fieldLink RX5 19 "NightRidersModel" "dutyFrom" "[I", Cond.methodLink RX5 145 Lib.Math.max.name, Cond.static Lib.Math.max.name, Cond.initialized "java/lang/Math", Cond.code Lib.Math.max.name Lib.Math.max.code 2 (some .int), Cond.fieldLink RX5 22 "NightRidersModel" "dutyTo" "[I", Cond.fieldLink RX5 38 "NightRidersModel" "rode" "[I", Cond.methodLink RX5 108 yX5_in, Cond.static yX5_in, Cond.initialized RX5, Cond.code yX5_in cX5_in 3 (some .boolean), Cond.methodLink RX5 118 yX5_isPlace, Cond.instanceMethod yX5_isPlace, Cond.selects RX5 yX5_isPlace yX5_isPlace, Cond.code yX5_isPlace cX5_isPlace 2 (some .boolean), Cond.fieldLink RX5 105 "NightRidersModel" "places" "I", Cond.methodLink RX5 126 yX5_wayOf, Cond.instanceMethod yX5_wayOf, Cond.selects RX5 yX5_wayOf yX5_wayOf]
def wsX5_next_r2 : List Cond := [Cond.code yX5_wayOf cX5_wayOf 8 (some .int), Cond.fieldLink RX5 16 "NightRidersModel" "area" "[I", Cond.fieldLink RX5 75 "NightRidersModel" "far" "[I", Cond.fieldLink RX5 9 "NightRidersModel" "roads" "[I", Cond.methodLink RX5 134 yX5_mayCarry, Cond.instanceMethod yX5_mayCarry, Cond.selects RX5 yX5_mayCarry yX5_mayCarry, Cond.code yX5_mayCarry cX5_mayCarry 3 (some .boolean), Cond.fieldLink RX5 34 "NightRidersModel" "failed" "[Z", Cond.fieldLink RX5 25 "NightRidersModel" "kinds" "[I"]
def wsX5_next : List Cond := .code yX5_next cX5_next 8 (some .int) :: ((wsX5_next_r1 ++ wsX5_next_r2) ++ wsX50)
def wsJ9_max_7cf53 : List Cond := .code yJ9_max_7cf53 cJ9_max_7cf53 2 (some .int) :: ([])
def wsL_of : List Cond := .codeWith yL_of cL_of 5 (some .int) [(0, 10, 13, 13)] :: ([.classLink RL 13 "java/util/NoSuchElementException", .methodLink RL 7 yX4_of, .instanceMethod yX4_of, .selects RX4 yX4_of yX4_of, .initialized RX4, .code yX4_of cX4_of 4 (some .int), .classLink RX4 84 "java/util/NoSuchElementException", .initialized "java/util/NoSuchElementException", .fieldLink RX4 91 "NightRiders$Rider" "home" "I", .fieldLink RX4 94 "NightRiders$Rider" "at" "I", .fieldLink RX4 97 "NightRiders$Rider" "failed" "Z", .fieldLink RX4 101 "NightRiders$Rider" "free" "I", .fieldLink RX4 104 "NightRiders$Rider" "legsRidden" "I", .fieldLink RX4 107 "NightRiders$Rider" "boxMinutes" "I", .fieldLink RX4 110 "NightRiders$Rider" "area" "I", .fieldLink RX4 113 "NightRiders$Rider" "kinds" "I", .methodLink RX4 55 yX4_riderAt, .instanceMethod yX4_riderAt, .selects RX4 yX4_riderAt yX4_riderAt, .code yX4_riderAt cX4_riderAt 2 (some (.object "NightRiders$Rider")), .fieldLink RX4 39 "NightRiders" "riderCount" "I", .fieldLink RX4 15 "NightRiders" "riders" "[LNightRiders$Rider;"] ++ wsX30 ++ wsX40 ++ (vx_atS RX4 88 "java/util/NoSuchElementException" ["java/lang/RuntimeException", "java/lang/Exception"]).filter goodWord)
def wsL_law0_r1 : List Cond := [Cond.classLink RL 8 RX4, Cond.instantiable RX4 10, Cond.initialized RX4, Cond.classLink RL 16 RX5, Cond.instantiable RX5 35, Cond.initialized RX5, Cond.arrayClass .long, Cond.methodLink RL 15 yX4_init, Cond.instanceMethod yX4_init, Cond.code yX4_init cX4_init 1 none, Cond.methodLink RX4 3 objectInit, Cond.instanceMethod objectInit, Cond.code objectInit ⟨#[0xb1]⟩ 1 none, Cond.arrayClass .int, Cond.fieldLink RX4 9 "NightRiders" "roads" "[I", Cond.classLink RX4 13 RX3, Cond.fieldLink RX4 15 "NightRiders" "riders" "[LNightRiders$Rider;", Cond.classLink RX4 19 RX2, Cond.fieldLink RX4 21 "NightRiders" "requests" "[LNightRiders$Request;", Cond.classLink RX4 25 RX0, Cond.instantiable RX0 8, Cond.initialized RX0, Cond.fieldLink RX4 28 "NightRiders" "trial" "LNightRiders$Chain;", Cond.fieldLink RX4 32 "NightRiders" "chosen" "LNightRiders$Chain;"]
def wsL_law0_r2 : List Cond := [Cond.fieldLink RX4 35 "NightRiders" "placeCount" "I", Cond.fieldLink RX4 39 "NightRiders" "riderCount" "I", Cond.fieldLink RX4 42 "NightRiders" "requestCount" "I", Cond.fieldLink RX4 45 "NightRiders" "resting" "I", Cond.fieldLink RX4 48 "NightRiders" "lastSent" "I", Cond.instanceMethod yX0_init, Cond.code yX0_init cX0_init 1 none, Cond.methodLink RX0 3 objectInit, Cond.fieldLink RX0 9 "NightRiders$Chain" "riders" "[I", Cond.fieldLink RX0 15 "NightRiders$Chain" "froms" "[I", Cond.fieldLink RX0 18 "NightRiders$Chain" "tos" "[I", Cond.fieldLink RX0 21 "NightRiders$Chain" "starts" "[I", Cond.fieldLink RX0 24 "NightRiders$Chain" "ends" "[I", Cond.fieldLink RX0 27 "NightRiders$Chain" "length" "I", Cond.fieldLink RX0 31 "NightRiders$Chain" "kind" "I", Cond.fieldLink RX0 34 "NightRiders$Chain" "goal" "I", Cond.methodLink RL 18 yX5_init, Cond.instanceMethod yX5_init, Cond.code yX5_init cX5_init 1 none, Cond.methodLink RX5 1 objectInit, Cond.fieldLink RX5 9 "NightRidersModel" "roads" "[I", Cond.fieldLink RX5 13 "NightRidersModel" "home" "[I", Cond.fieldLink RX5 16 "NightRidersModel" "area" "[I", Cond.fieldLink RX5 19 "NightRidersModel" "dutyFrom" "[I"]
def wsL_law0_r3 : List Cond := [Cond.fieldLink RX5 22 "NightRidersModel" "dutyTo" "[I", Cond.fieldLink RX5 25 "NightRidersModel" "kinds" "[I", Cond.fieldLink RX5 28 "NightRidersModel" "at" "[I", Cond.fieldLink RX5 31 "NightRidersModel" "free" "[I", Cond.arrayClass .boolean, Cond.fieldLink RX5 34 "NightRidersModel" "failed" "[Z", Cond.fieldLink RX5 38 "NightRidersModel" "rode" "[I", Cond.fieldLink RX5 41 "NightRidersModel" "minutes" "[I", Cond.fieldLink RX5 44 "NightRidersModel" "rest" "I", Cond.fieldLink RX5 48 "NightRidersModel" "kind" "[I", Cond.fieldLink RX5 51 "NightRidersModel" "from" "[I", Cond.fieldLink RX5 54 "NightRidersModel" "to" "[I", Cond.fieldLink RX5 57 "NightRidersModel" "ready" "[I", Cond.fieldLink RX5 60 "NightRidersModel" "cold" "[I", Cond.fieldLink RX5 63 "NightRidersModel" "state" "[I", Cond.fieldLink RX5 66 "NightRidersModel" "latest" "I", Cond.fieldLink RX5 69 "NightRidersModel" "legs" "[I", Cond.fieldLink RX5 72 "NightRidersModel" "legMany" "[I", Cond.fieldLink RX5 75 "NightRidersModel" "far" "[I", Cond.fieldLink RX5 78 "NightRidersModel" "tryRider" "[I", Cond.fieldLink RX5 81 "NightRidersModel" "tryPlace" "[I", Cond.fieldLink RX5 84 "NightRidersModel" "tryStart" "[I", Cond.fieldLink RX5 87 "NightRidersModel" "tryEnd" "[I", Cond.fieldLink RX5 90 "NightRidersModel" "bestRider" "[I"]
def wsL_law0_r4 : List Cond := [Cond.fieldLink RX5 93 "NightRidersModel" "bestPlace" "[I", Cond.fieldLink RX5 96 "NightRidersModel" "bestStart" "[I", Cond.fieldLink RX5 99 "NightRidersModel" "bestEnd" "[I", Cond.methodLink RL 19 yX4_place, Cond.instanceMethod yX4_place, Cond.selects RX4 yX4_place yX4_place, Cond.code yX4_place cX4_place 1 (some .int), Cond.methodLink RL 23 yX5_place, Cond.instanceMethod yX5_place, Cond.selects RX5 yX5_place yX5_place, Cond.code yX5_place cX5_place 1 (some .int), Cond.fieldLink RX5 102 "NightRidersModel" "thrown" "I", Cond.fieldLink RX5 105 "NightRidersModel" "places" "I", Cond.methodLink RL 24 yX4_road, Cond.instanceMethod yX4_road, Cond.selects RX4 yX4_road yX4_road, Cond.code yX4_road cX4_road 6 (some .boolean), Cond.methodLink RX4 51 yX4_isPlace, Cond.instanceMethod yX4_isPlace, Cond.selects RX4 yX4_isPlace yX4_isPlace, Cond.code yX4_isPlace cX4_isPlace 2 (some .boolean), Cond.methodLink RX4 55 yX4_riderAt, Cond.instanceMethod yX4_riderAt, Cond.selects RX4 yX4_riderAt yX4_riderAt]
def wsL_law0_r5 : List Cond := [Cond.code yX4_riderAt cX4_riderAt 2 (some (.object "NightRiders$Rider")), Cond.methodLink RX4 59 yX4_settleWays, Cond.instanceMethod yX4_settleWays, Cond.selects RX4 yX4_settleWays yX4_settleWays, Cond.code yX4_settleWays cX4_settleWays 4 none, Cond.fieldLink RX4 214 "NightRiders$Rider" "ways" "[I", Cond.fieldLink RX4 110 "NightRiders$Rider" "area" "I", Cond.methodLink RX4 217 yX4_roadWithin, Cond.instanceMethod yX4_roadWithin, Cond.selects RX4 yX4_roadWithin yX4_roadWithin, Cond.code yX4_roadWithin cX4_roadWithin 5 (some .int), Cond.methodLink RX4 67 yX4_hasBit, Cond.static yX4_hasBit, Cond.code yX4_hasBit cX4_hasBit 2 (some .boolean), Cond.methodLink RX4 221 yX3_shortenWays, Cond.instanceMethod yX3_shortenWays, Cond.selects RX3 yX3_shortenWays yX3_shortenWays, Cond.initialized RX3, Cond.code yX3_shortenWays cX3_shortenWays 7 none, Cond.fieldLink RX3 9 "NightRiders$Rider" "ways" "[I", Cond.methodLink RL 28 yX5_road, Cond.instanceMethod yX5_road, Cond.selects RX5 yX5_road yX5_road, Cond.code yX5_road cX5_road 4 (some .boolean)]
def wsL_law0_r6 : List Cond := [Cond.methodLink RX5 118 yX5_isPlace, Cond.instanceMethod yX5_isPlace, Cond.selects RX5 yX5_isPlace yX5_isPlace, Cond.code yX5_isPlace cX5_isPlace 2 (some .boolean), Cond.methodLink RX5 108 yX5_in, Cond.static yX5_in, Cond.code yX5_in cX5_in 3 (some .boolean), Cond.methodLink RL 29 yX4_rider, Cond.instanceMethod yX4_rider, Cond.selects RX4 yX4_rider yX4_rider, Cond.code yX4_rider cX4_rider 7 (some .int), Cond.instantiable RX3 11, Cond.methodLink RX4 63 yX4_areBits, Cond.static yX4_areBits, Cond.code yX4_areBits cX4_areBits 2 (some .boolean), Cond.methodLink RX4 70 yX4_isMinute, Cond.static yX4_isMinute, Cond.code yX4_isMinute cX4_isMinute 1 (some .boolean), Cond.methodLink RX4 73 yX3_init, Cond.instanceMethod yX3_init, Cond.code yX3_init cX3_init 6 none, Cond.methodLink RX3 3 objectInit, Cond.fieldLink RX3 15 "NightRiders$Rider" "legsRidden" "I", Cond.fieldLink RX3 19 "NightRiders$Rider" "boxMinutes" "I"]
def wsL_law0_r7 : List Cond := [Cond.fieldLink RX3 22 "NightRiders$Rider" "failed" "Z", Cond.fieldLink RX3 26 "NightRiders$Rider" "home" "I", Cond.fieldLink RX3 29 "NightRiders$Rider" "area" "I", Cond.fieldLink RX3 32 "NightRiders$Rider" "dutyFrom" "I", Cond.fieldLink RX3 35 "NightRiders$Rider" "dutyTo" "I", Cond.fieldLink RX3 38 "NightRiders$Rider" "kinds" "I", Cond.fieldLink RX3 41 "NightRiders$Rider" "at" "I", Cond.fieldLink RX3 44 "NightRiders$Rider" "free" "I", Cond.methodLink RL 33 yX5_rider, Cond.instanceMethod yX5_rider, Cond.selects RX5 yX5_rider yX5_rider, Cond.code yX5_rider cX5_rider 6 (some .int), Cond.fieldLink RX5 112 "NightRidersModel" "riders" "I", Cond.methodLink RL 34 yX4_rest, Cond.instanceMethod yX4_rest, Cond.selects RX4 yX4_rest yX4_rest, Cond.code yX4_rest cX4_rest 3 (some .int), Cond.methodLink RL 38 yX5_rest, Cond.instanceMethod yX5_rest, Cond.selects RX5 yX5_rest yX5_rest, Cond.code yX5_rest cX5_rest 3 (some .int), Cond.methodLink RL 39 yX4_count, Cond.instanceMethod yX4_count, Cond.selects RX4 yX4_count yX4_count]
def wsL_law0_r8 : List Cond := [Cond.code yX4_count cX4_count 2 (some .int), Cond.methodLink RX4 76 yX4_countRequests, Cond.instanceMethod yX4_countRequests, Cond.selects RX4 yX4_countRequests yX4_countRequests, Cond.code yX4_countRequests cX4_countRequests 5 (some .int), Cond.methodLink RX4 137 yX4_requestAt, Cond.instanceMethod yX4_requestAt, Cond.selects RX4 yX4_requestAt yX4_requestAt, Cond.code yX4_requestAt cX4_requestAt 2 (some (.object "NightRiders$Request")), Cond.methodLink RX4 227 yX4_isCounted, Cond.static yX4_isCounted, Cond.code yX4_isCounted cX4_isCounted 2 (some .boolean), Cond.fieldLink RX4 141 "NightRiders$Request" "sent" "Z", Cond.fieldLink RX4 172 "NightRiders$Request" "lost" "Z", Cond.methodLink RX4 231 yX2_cameWarm, Cond.instanceMethod yX2_cameWarm, Cond.selects RX2 yX2_cameWarm yX2_cameWarm, Cond.initialized RX2, Cond.code yX2_cameWarm cX2_cameWarm 1 (some .boolean), Cond.fieldLink RX2 21 "NightRiders$Request" "sent" "Z", Cond.fieldLink RX2 25 "NightRiders$Request" "lost" "Z", Cond.fieldLink RX2 37 "NightRiders$Request" "ready" "I", Cond.fieldLink RX2 40 "NightRiders$Request" "cold" "I", Cond.methodLink RX2 50 yX2_lastEnd]
def wsL_law0_r9 : List Cond := [Cond.instanceMethod yX2_lastEnd, Cond.selects RX2 yX2_lastEnd yX2_lastEnd, Cond.code yX2_lastEnd cX2_lastEnd 2 (some .int), Cond.fieldLink RX2 17 "NightRiders$Request" "legCount" "I", Cond.fieldLink RX2 47 "NightRiders$Leg" "ends" "I", Cond.methodLink RX2 43 yX2_legAt, Cond.instanceMethod yX2_legAt, Cond.selects RX2 yX2_legAt yX2_legAt, Cond.code yX2_legAt cX2_legAt 2 (some (.object "NightRiders$Leg")), Cond.fieldLink RX2 11 "NightRiders$Request" "legs" "[LNightRiders$Leg;", Cond.methodLink RL 42 yX5_count, Cond.instanceMethod yX5_count, Cond.selects RX5 yX5_count yX5_count, Cond.code yX5_count cX5_count 4 (some .int), Cond.fieldLink RX5 115 "NightRidersModel" "calls" "I", Cond.methodLink RX5 130 yX5_endOf, Cond.instanceMethod yX5_endOf, Cond.selects RX5 yX5_endOf yX5_endOf, Cond.code yX5_endOf cX5_endOf 2 (some .int), Cond.methodLink RL 43 yX4_way, Cond.instanceMethod yX4_way, Cond.selects RX4 yX4_way yX4_way, Cond.code yX4_way cX4_way 5 (some .int), Cond.methodLink RX4 80 yX4_wayOf]
def wsL_law0_r10 : List Cond := [Cond.instanceMethod yX4_wayOf, Cond.selects RX4 yX4_wayOf yX4_wayOf, Cond.code yX4_wayOf cX4_wayOf 4 (some .int), Cond.methodLink RL 47 yX5_way, Cond.instanceMethod yX5_way, Cond.selects RX5 yX5_way yX5_way, Cond.code yX5_way cX5_way 5 (some .int), Cond.constant RX5 122 (1000000), Cond.methodLink RX5 123 yX5_isRider, Cond.instanceMethod yX5_isRider, Cond.selects RX5 yX5_isRider yX5_isRider, Cond.code yX5_isRider cX5_isRider 2 (some .boolean), Cond.methodLink RX5 126 yX5_wayOf, Cond.instanceMethod yX5_wayOf, Cond.selects RX5 yX5_wayOf yX5_wayOf, Cond.code yX5_wayOf cX5_wayOf 8 (some .int), Cond.methodLink RL 48 yL_of, Cond.static yL_of, Cond.initialized RL, Cond.codeWith yL_of cL_of 5 (some .int) [(0, 10, 13, 13)], Cond.classLink RL 13 "java/util/NoSuchElementException", Cond.methodLink RL 7 yX4_of, Cond.instanceMethod yX4_of, Cond.selects RX4 yX4_of yX4_of]
def wsL_law0_r11 : List Cond := [Cond.code yX4_of cX4_of 4 (some .int), Cond.classLink RX4 84 "java/util/NoSuchElementException", Cond.initialized "java/util/NoSuchElementException", Cond.fieldLink RX4 91 "NightRiders$Rider" "home" "I", Cond.fieldLink RX4 94 "NightRiders$Rider" "at" "I", Cond.fieldLink RX4 97 "NightRiders$Rider" "failed" "Z", Cond.fieldLink RX4 101 "NightRiders$Rider" "free" "I", Cond.fieldLink RX4 104 "NightRiders$Rider" "legsRidden" "I", Cond.fieldLink RX4 107 "NightRiders$Rider" "boxMinutes" "I", Cond.fieldLink RX4 113 "NightRiders$Rider" "kinds" "I", Cond.methodLink RL 53 yX5_of, Cond.instanceMethod yX5_of, Cond.selects RX5 yX5_of yX5_of, Cond.code yX5_of cX5_of 3 (some .int), Cond.methodLink RL 54 yX5_thrown, Cond.instanceMethod yX5_thrown, Cond.selects RX5 yX5_thrown yX5_thrown, Cond.code yX5_thrown cX5_thrown 1 (some .int), Cond.methodLink RL 57 yX4_duty, Cond.instanceMethod yX4_duty, Cond.selects RX4 yX4_duty yX4_duty, Cond.code yX4_duty cX4_duty 6 (some .int), Cond.methodLink RX4 118 yX4_isKind, Cond.static yX4_isKind]
def wsL_law0_r12 : List Cond := [Cond.code yX4_isKind cX4_isKind 1 (some .boolean), Cond.methodLink RX4 121 yX3_carries, Cond.instanceMethod yX3_carries, Cond.selects RX3 yX3_carries yX3_carries, Cond.code yX3_carries cX3_carries 2 (some .boolean), Cond.methodLink RX4 124 yX3_isOnDuty, Cond.instanceMethod yX3_isOnDuty, Cond.selects RX3 yX3_isOnDuty yX3_isOnDuty, Cond.code yX3_isOnDuty cX3_isOnDuty 2 (some .boolean), Cond.methodLink RL 60 yX5_duty, Cond.instanceMethod yX5_duty, Cond.selects RX5 yX5_duty yX5_duty, Cond.code yX5_duty cX5_duty 3 (some .int), Cond.methodLink RX5 138 yX5_onDuty, Cond.instanceMethod yX5_onDuty, Cond.selects RX5 yX5_onDuty yX5_onDuty, Cond.code yX5_onDuty cX5_onDuty 5 (some .int), Cond.methodLink RX5 134 yX5_mayCarry, Cond.instanceMethod yX5_mayCarry, Cond.selects RX5 yX5_mayCarry yX5_mayCarry, Cond.code yX5_mayCarry cX5_mayCarry 3 (some .boolean), Cond.methodLink RL 61 yX4_bare, Cond.instanceMethod yX4_bare, Cond.selects RX4 yX4_bare yX4_bare]
def wsL_law0_r13 : List Cond := [Cond.code yX4_bare cX4_bare 5 (some .int), Cond.methodLink RX4 131 Lib.Math.max.name, Cond.static Lib.Math.max.name, Cond.initialized "java/lang/Math", Cond.code Lib.Math.max.name Lib.Math.max.code 2 (some .int), Cond.methodLink RX4 127 yX4_lastOnDuty, Cond.instanceMethod yX4_lastOnDuty, Cond.selects RX4 yX4_lastOnDuty yX4_lastOnDuty, Cond.code yX4_lastOnDuty cX4_lastOnDuty 6 (some .int), Cond.fieldLink RX4 211 "NightRiders$Rider" "dutyTo" "I", Cond.methodLink RL 64 yX5_bare, Cond.instanceMethod yX5_bare, Cond.selects RX5 yX5_bare yX5_bare, Cond.code yX5_bare cX5_bare 4 (some .int), Cond.methodLink RL 65 yX4_call, Cond.instanceMethod yX4_call, Cond.selects RX4 yX4_call yX4_call, Cond.code yX4_call cX4_call 6 (some .int), Cond.instantiable RX2 9, Cond.methodLink RX4 136 yX2_init, Cond.instanceMethod yX2_init, Cond.code yX2_init cX2_init 6 none, Cond.methodLink RX2 3 objectInit, Cond.classLink RX2 9 RX1]
def wsL_law0_r14 : List Cond := [Cond.fieldLink RX2 28 "NightRiders$Request" "kind" "I", Cond.fieldLink RX2 31 "NightRiders$Request" "from" "I", Cond.fieldLink RX2 34 "NightRiders$Request" "to" "I", Cond.methodLink RL 68 yX5_call, Cond.instanceMethod yX5_call, Cond.selects RX5 yX5_call yX5_call, Cond.code yX5_call cX5_call 6 (some .int), Cond.methodLink RL 69 yX4_best, Cond.instanceMethod yX4_best, Cond.selects RX4 yX4_best yX4_best, Cond.code yX4_best cX4_best 3 (some .int), Cond.fieldLink RX4 144 "NightRiders$Request" "from" "I", Cond.fieldLink RX4 147 "NightRiders$Request" "ready" "I", Cond.methodLink RX4 150 yX4_findChain, Cond.instanceMethod yX4_findChain, Cond.selects RX4 yX4_findChain yX4_findChain, Cond.code yX4_findChain cX4_findChain 4 (some .boolean), Cond.fieldLink RX4 163 "NightRiders$Request" "kind" "I", Cond.fieldLink RX4 235 "NightRiders$Chain" "kind" "I", Cond.fieldLink RX4 166 "NightRiders$Request" "to" "I", Cond.fieldLink RX4 236 "NightRiders$Chain" "goal" "I", Cond.fieldLink RX4 239 "NightRiders$Chain" "length" "I", Cond.methodLink RX4 242 yX4_tryRiders, Cond.instanceMethod yX4_tryRiders]
def wsL_law0_r15 : List Cond := [Cond.selects RX4 yX4_tryRiders yX4_tryRiders, Cond.code yX4_tryRiders cX4_tryRiders 8 none, Cond.methodLink RX4 246 yX0_isRiddenBy, Cond.instanceMethod yX0_isRiddenBy, Cond.selects RX0 yX0_isRiddenBy yX0_isRiddenBy, Cond.code yX0_isRiddenBy cX0_isRiddenBy 4 (some .boolean), Cond.methodLink RX4 207 yX4_thereFrom, Cond.instanceMethod yX4_thereFrom, Cond.selects RX4 yX4_thereFrom yX4_thereFrom, Cond.code yX4_thereFrom cX4_thereFrom 4 (some .int), Cond.fieldLink RX4 224 "NightRiders$Rider" "dutyFrom" "I", Cond.methodLink RX4 249 yX4_isTooLate, Cond.instanceMethod yX4_isTooLate, Cond.selects RX4 yX4_isTooLate yX4_isTooLate, Cond.code yX4_isTooLate cX4_isTooLate 2 (some .boolean), Cond.methodLink RX4 154 yX0_lastEnd, Cond.instanceMethod yX0_lastEnd, Cond.selects RX0 yX0_lastEnd yX0_lastEnd, Cond.code yX0_lastEnd cX0_lastEnd 1 (some .int), Cond.methodLink RX4 252 yX4_waitsUntil, Cond.instanceMethod yX4_waitsUntil, Cond.selects RX4 yX4_waitsUntil yX4_waitsUntil, Cond.code yX4_waitsUntil cX4_waitsUntil 4 (some .boolean), Cond.fieldLink RX4 263 "NightRiders$Chain" "riders" "[I"]
def wsL_law0_r16 : List Cond := [Cond.methodLink RX4 255 yX0_open, Cond.instanceMethod yX0_open, Cond.selects RX0 yX0_open yX0_open, Cond.code yX0_open cX0_open 5 none, Cond.methodLink RX4 259 yX4_tryEnds, Cond.instanceMethod yX4_tryEnds, Cond.selects RX4 yX4_tryEnds yX4_tryEnds, Cond.code yX4_tryEnd cX4_tryEnd 6 none, Cond.methodLink RX4 269 yX0_fromOf, Cond.instanceMethod yX0_fromOf, Cond.selects RX0 yX0_fromOf yX0_fromOf, Cond.code yX0_fromOf cX0_fromOf 2 (some .int), Cond.methodLink RX4 272 yX0_comesFrom, Cond.instanceMethod yX0_comesFrom, Cond.selects RX0 yX0_comesFrom yX0_comesFrom, Cond.code yX0_comesFrom cX0_comesFrom 4 (some .boolean), Cond.methodLink RX4 275 yX0_close, Cond.instanceMethod yX0_close, Cond.selects RX0 yX0_close yX0_close, Cond.code yX0_close cX0_close 4 none, Cond.methodLink RX4 278 yX4_keepIfBetter, Cond.instanceMethod yX4_keepIfBetter, Cond.selects RX4 yX4_keepIfBetter yX4_keepIfBetter, Cond.code yX4_keepIfBetter cX4_keepIfBetter 3 none]
def wsL_law0_r17 : List Cond := [Cond.methodLink RX4 281 yX0_take, Cond.instanceMethod yX0_take, Cond.selects RX0 yX0_take yX0_take, Cond.code yX0_take cX0_take 3 none, Cond.code yX4_tryEnds cX4_tryEnds 5 none, Cond.methodLink RX4 265 yX4_tryEnd, Cond.instanceMethod yX4_tryEnd, Cond.selects RX4 yX4_tryEnd yX4_tryEnd, Cond.methodLink RL 72 yX5_best, Cond.instanceMethod yX5_best, Cond.selects RX5 yX5_best yX5_best, Cond.code yX5_best cX5_best 2 (some .int), Cond.fieldLink RX5 142 "NightRidersModel" "bestMany" "I", Cond.methodLink RX5 157 yX5_isCall, Cond.instanceMethod yX5_isCall, Cond.selects RX5 yX5_isCall yX5_isCall, Cond.code yX5_isCall cX5_isCall 2 (some .boolean), Cond.methodLink RX5 160 yX5_findBest, Cond.instanceMethod yX5_findBest, Cond.selects RX5 yX5_findBest yX5_findBest, Cond.code yX5_findBest cX5_findBest 5 (some .boolean), Cond.methodLink RX5 150 yX5_tryLeg, Cond.instanceMethod yX5_tryLeg, Cond.selects RX5 yX5_tryLeg yX5_tryLeg]
def wsL_law0_r18 : List Cond := [Cond.code yX5_tryLeg cX5_tryLeg 14 none, Cond.methodLink RX5 145 Lib.Math.max.name, Cond.methodLink RX5 154 yX5_isBetter, Cond.instanceMethod yX5_isBetter, Cond.selects RX5 yX5_isBetter yX5_isBetter, Cond.code yX5_isBetter cX5_isBetter 5 (some .boolean), Cond.methodLink RL 73 yX4_send, Cond.instanceMethod yX4_send, Cond.selects RX4 yX4_send yX4_send, Cond.code yX4_send cX4_send 3 (some .int), Cond.methodLink RX4 158 yX4_rideChosen, Cond.instanceMethod yX4_rideChosen, Cond.selects RX4 yX4_rideChosen yX4_rideChosen, Cond.code yX4_rideChosen cX4_rideChosen 7 none, Cond.fieldLink RX4 285 "NightRiders$Chain" "starts" "[I", Cond.fieldLink RX4 287 "NightRiders$Chain" "ends" "[I", Cond.fieldLink RX4 289 "NightRiders$Chain" "tos" "[I", Cond.classLink RX4 183 RX1, Cond.instantiable RX1 8, Cond.initialized RX1, Cond.fieldLink RX4 292 "NightRiders$Chain" "froms" "[I", Cond.methodLink RX4 295 yX1_init, Cond.instanceMethod yX1_init, Cond.code yX1_init cX1_init 8 none]
def wsL_law0_r19 : List Cond := [Cond.methodLink RX1 1 objectInit, Cond.fieldLink RX1 7 "NightRiders$Leg" "failed" "Z", Cond.fieldLink RX1 13 "NightRiders$Leg" "rider" "I", Cond.fieldLink RX1 17 "NightRiders$Leg" "from" "I", Cond.fieldLink RX1 20 "NightRiders$Leg" "to" "I", Cond.fieldLink RX1 23 "NightRiders$Leg" "starts" "I", Cond.fieldLink RX1 26 "NightRiders$Leg" "ends" "I", Cond.fieldLink RX1 29 "NightRiders$Leg" "atAhead" "I", Cond.fieldLink RX1 32 "NightRiders$Leg" "freeAhead" "I", Cond.methodLink RX4 298 yX2_addLeg, Cond.instanceMethod yX2_addLeg, Cond.selects RX2 yX2_addLeg yX2_addLeg, Cond.code yX2_addLeg cX2_addLeg 2 none, Cond.methodLink RX4 302 yX0_handsOn, Cond.instanceMethod yX0_handsOn, Cond.selects RX0 yX0_handsOn yX0_handsOn, Cond.code yX0_handsOn cX0_handsOn 2 (some .int), Cond.methodLink RX0 37 yX0_lastEnd, Cond.methodLink RX4 162 yX2_lastEnd, Cond.methodLink RL 76 yX5_send, Cond.instanceMethod yX5_send, Cond.selects RX5 yX5_send yX5_send, Cond.code yX5_send cX5_send 2 (some .int), Cond.methodLink RX5 164 yX5_ride]
def wsL_law0_r20 : List Cond := [Cond.instanceMethod yX5_ride, Cond.selects RX5 yX5_ride yX5_ride, Cond.code yX5_ride cX5_ride 7 none, Cond.methodLink RL 77 yX4_told, Cond.instanceMethod yX4_told, Cond.selects RX4 yX4_told yX4_told, Cond.code yX4_told cX4_told 4 (some .int), Cond.fieldLink RX4 169 "NightRiders$Request" "cold" "I", Cond.fieldLink RX4 175 "NightRiders$Request" "legCount" "I", Cond.methodLink RL 80 yX5_told, Cond.instanceMethod yX5_told, Cond.selects RX5 yX5_told yX5_told, Cond.code yX5_told cX5_told 3 (some .int), Cond.methodLink RL 81 yX4_leg, Cond.instanceMethod yX4_leg, Cond.selects RX4 yX4_leg yX4_leg, Cond.code yX4_leg cX4_leg 6 (some .int), Cond.fieldLink RX4 182 "NightRiders$Leg" "rider" "I", Cond.fieldLink RX4 187 "NightRiders$Leg" "from" "I", Cond.fieldLink RX4 188 "NightRiders$Leg" "to" "I", Cond.fieldLink RX4 189 "NightRiders$Leg" "starts" "I", Cond.fieldLink RX4 192 "NightRiders$Leg" "ends" "I", Cond.fieldLink RX4 195 "NightRiders$Leg" "failed" "Z", Cond.methodLink RX4 178 yX2_legAt]
def wsL_law0_r21 : List Cond := [Cond.methodLink RL 84 yX5_leg, Cond.instanceMethod yX5_leg, Cond.selects RX5 yX5_leg yX5_leg, Cond.code yX5_leg cX5_leg 4 (some .int), Cond.methodLink RL 85 yX4_hand, Cond.instanceMethod yX4_hand, Cond.selects RX4 yX4_hand yX4_hand, Cond.code yX4_hand cX4_hand 6 (some .int), Cond.methodLink RL 88 yX5_hand, Cond.instanceMethod yX5_hand, Cond.selects RX5 yX5_hand yX5_hand, Cond.code yX5_hand cX5_hand 5 (some .int), Cond.methodLink RL 89 yX4_fail, Cond.instanceMethod yX4_fail, Cond.selects RX4 yX4_fail yX4_fail, Cond.code yX4_fail cX4_fail 6 (some .int), Cond.methodLink RX4 196 yX4_mayFail, Cond.static yX4_mayFail, Cond.code yX4_mayFail cX4_mayFail 6 (some .boolean), Cond.methodLink RX4 199 yX4_dropLegsBehind, Cond.instanceMethod yX4_dropLegsBehind, Cond.selects RX4 yX4_dropLegsBehind yX4_dropLegsBehind, Cond.code yX4_dropLegsBehind cX4_dropLegsBehind 6 none, Cond.fieldLink RX4 305 "NightRiders$Leg" "atAhead" "I"]
def wsL_law0_r22 : List Cond := [Cond.fieldLink RX4 308 "NightRiders$Leg" "freeAhead" "I", Cond.methodLink RX4 203 yX4_failLeg, Cond.instanceMethod yX4_failLeg, Cond.selects RX4 yX4_failLeg yX4_failLeg, Cond.code yX4_failLeg cX4_failLeg 4 none, Cond.methodLink RL 92 yX5_fail, Cond.instanceMethod yX5_fail, Cond.selects RX5 yX5_fail yX5_fail, Cond.code yX5_fail cX5_fail 8 (some .int), Cond.methodLink RL 93 yX4_next, Cond.instanceMethod yX4_next, Cond.selects RX4 yX4_next yX4_next, Cond.code yX4_next cX4_next 10 (some .int), Cond.methodLink RL 96 yX5_next, Cond.instanceMethod yX5_next, Cond.selects RX5 yX5_next yX5_next, Cond.code yX5_next cX5_next 8 (some .int)]
def wsL_law0 : List Cond := (wsL_law0_r1 ++ (wsL_law0_r2 ++ (wsL_law0_r3 ++ (wsL_law0_r4 ++ (wsL_law0_r5 ++ (wsL_law0_r6 ++ (wsL_law0_r7 ++ (wsL_law0_r8 ++ (wsL_law0_r9 ++ (wsL_law0_r10 ++ (wsL_law0_r11 ++ (wsL_law0_r12 ++ (wsL_law0_r13 ++ (wsL_law0_r14 ++ (wsL_law0_r15 ++ (wsL_law0_r16 ++ (wsL_law0_r17 ++ (wsL_law0_r18 ++ (wsL_law0_r19 ++ (wsL_law0_r20 ++ (wsL_law0_r21 ++ wsL_law0_r22))))))))))))))))))))) ++ wsX40 ++ wsX50 ++ wsX00 ++ wsX30 ++ wsX20 ++ wsX10 ++ ([] : List Cond)
def wsL_law : List Cond := wsL_law0 ++ (vx_atS RX4 88 "java/util/NoSuchElementException" ["java/lang/RuntimeException", "java/lang/Exception"]).filter goodWord
set_option maxRecDepth 20000 in
theorem wsL_law_in0 : ∀ w ∈ wsL_law0, w ∈ lw_tbl := fun w h => (goodIn_p wsL_law0 [47, 50, 59, 563, 129, 679, 133, 137, 141, 145, 149, 152, 156, 683, 687, 690, 160, 163, 166, 170, 694, 220, 698, 224, 228, 232, 235, 239, 243, 247, 715, 719, 251, 255, 702, 706, 710, 491, 723, 675, 259, 262, 266, 271, 727, 731, 735, 275, 282, 279, 739, 286, 290, 743, 333, 337, 341, 345, 349, 353, 357, 361, 365, 373, 377, 381, 385, 389, 393, 369, 747, 751, 755, 759, 764, 397, 401, 406, 445, 449, 768, 772, 455, 776, 459, 780, 464, 784, 468, 471, 475, 479, 788, 483, 792] (by decide +kernel) (by decide +kernel) w h).1
theorem wsL_law_x0 : ∀ w ∈ (vx_atS RX4 88 "java/util/NoSuchElementException" ["java/lang/RuntimeException", "java/lang/Exception"]).filter goodWord, w ∈ lw_tbl := by decide +kernel
theorem wsL_law_in : ∀ w ∈ wsL_law, w ∈ lw_tbl := fun w h => (List.mem_append.mp h).elim (fun h => wsL_law_in0 w h) (fun h => wsL_law_x0 w h)
theorem inlX0 : ∀ w ∈ wsX00, w ∈ wsL_law := fun _ h => List.mem_append_left _ (List.mem_append_left _ (List.mem_append_left _ (List.mem_append_left _ (List.mem_append_left _ (List.mem_append_right _ h)))))
theorem inX0 : ∀ w ∈ wsX00, w ∈ lw_tbl := fun w h => wsL_law_in w (inlX0 w h)
theorem inlX1 : ∀ w ∈ wsX10, w ∈ wsL_law := fun _ h => List.mem_append_left _ (List.mem_append_left _ (List.mem_append_right _ h))
theorem inX1 : ∀ w ∈ wsX10, w ∈ lw_tbl := fun w h => wsL_law_in w (inlX1 w h)
theorem inlX2 : ∀ w ∈ wsX20, w ∈ wsL_law := fun _ h => List.mem_append_left _ (List.mem_append_left _ (List.mem_append_left _ (List.mem_append_right _ h)))
theorem inX2 : ∀ w ∈ wsX20, w ∈ lw_tbl := fun w h => wsL_law_in w (inlX2 w h)
theorem inlX3 : ∀ w ∈ wsX30, w ∈ wsL_law := fun _ h => List.mem_append_left _ (List.mem_append_left _ (List.mem_append_left _ (List.mem_append_left _ (List.mem_append_right _ h))))
theorem inX3 : ∀ w ∈ wsX30, w ∈ lw_tbl := fun w h => wsL_law_in w (inlX3 w h)
theorem inlX4 : ∀ w ∈ wsX40, w ∈ wsL_law := fun _ h => List.mem_append_left _ (List.mem_append_left _ (List.mem_append_left _ (List.mem_append_left _ (List.mem_append_left _ (List.mem_append_left _ (List.mem_append_left _ (List.mem_append_right _ h)))))))
theorem inX4 : ∀ w ∈ wsX40, w ∈ lw_tbl := fun w h => wsL_law_in w (inlX4 w h)
theorem inlX5 : ∀ w ∈ wsX50, w ∈ wsL_law := fun _ h => List.mem_append_left _ (List.mem_append_left _ (List.mem_append_left _ (List.mem_append_left _ (List.mem_append_left _ (List.mem_append_left _ (List.mem_append_right _ h))))))
theorem inX5 : ∀ w ∈ wsX50, w ∈ lw_tbl := fun w h => wsL_law_in w (inlX5 w h)
theorem inJx145de : ∀ w ∈ wsJx145de0, w ∈ lw_tbl := by decide +kernel
theorem inJ9 : ∀ w ∈ wsJ90, w ∈ lw_tbl := by decide +kernel
theorem inJ0 : ∀ w ∈ wsJ00, w ∈ lw_tbl := by decide +kernel
set_option maxRecDepth 20000 in
theorem ggX0_handsOn_X0_lastEnd : GoodIn wsX0_handsOn wsX0_lastEnd := goodIn_r _ [7, 1, 8, 9, 10, 11, 12, 13, 14, 15, 16] (by decide +kernel) (by decide +kernel)
set_option maxRecDepth 20000 in
theorem gX0_handsOn_X0_lastEnd : GoodIn wsX0_handsOn (wsV RX0 37 RX0 yX0_lastEnd wsX0_lastEnd) := goodIn_app (goodIn_of _ (by decide +kernel)) ggX0_handsOn_X0_lastEnd
set_option maxRecDepth 20000 in
theorem ggX2_lastEnd_X2_legAt : GoodIn wsX2_lastEnd wsX2_legAt := goodIn_r _ [7, 1, 8, 9, 10, 11, 12, 13, 14, 15, 16, 17] (by decide +kernel) (by decide +kernel)
set_option maxRecDepth 20000 in
theorem gX2_lastEnd_X2_legAt : GoodIn wsX2_lastEnd (wsV RX2 43 RX2 yX2_legAt wsX2_legAt) := goodIn_app (goodIn_of _ (by decide +kernel)) ggX2_lastEnd_X2_legAt
set_option maxRecDepth 20000 in
theorem ggX2_cameWarm_X2_lastEnd : GoodIn wsX2_cameWarm wsX2_lastEnd := goodIn_r _ [9, 10, 11, 12, 13, 14, 8, 15, 16, 17, 18, 19, 20, 21, 22, 23, 24, 25, 26, 27, 28, 29, 30, 31, 32, 33] (by decide +kernel) (by decide +kernel)
set_option maxRecDepth 20000 in
theorem gX2_cameWarm_X2_lastEnd : GoodIn wsX2_cameWarm (wsV RX2 50 RX2 yX2_lastEnd wsX2_lastEnd) := goodIn_app (goodIn_of _ (by decide +kernel)) ggX2_cameWarm_X2_lastEnd
set_option maxRecDepth 20000 in
theorem ggX3_carries_X4_hasBit : GoodIn wsX3_carries wsX4_hasBit := goodIn_r _ [5] (by decide +kernel) (by decide +kernel)
set_option maxRecDepth 20000 in
theorem gX3_carries_X4_hasBit_n47 : GoodIn wsX3_carries (wsX4_hasBit) := ggX3_carries_X4_hasBit
set_option maxRecDepth 20000 in
theorem ggX4_init_X0_init : GoodIn wsX4_init wsX0_init := goodIn_r _ [21, 22, 2, 3, 4, 23, 24, 25, 26, 27, 28, 29, 30, 41, 42, 43, 44, 45, 46, 47, 48] (by decide +kernel) (by decide +kernel)
set_option maxRecDepth 20000 in
theorem gX4_init_X0_init_n27 : GoodIn wsX4_init (wsX0_init) := ggX4_init_X0_init
set_option maxRecDepth 20000 in
theorem ggX4_road_X4_isPlace : GoodIn wsX4_road wsX4_isPlace := goodIn_r _ [7, 8, 33, 34, 35, 36, 37, 38, 39, 40, 41, 42] (by decide +kernel) (by decide +kernel)
set_option maxRecDepth 20000 in
theorem gX4_road_X4_isPlace : GoodIn wsX4_road (wsV RX4 51 RX4 yX4_isPlace wsX4_isPlace) := goodIn_app (goodIn_of _ (by decide +kernel)) ggX4_road_X4_isPlace
set_option maxRecDepth 20000 in
theorem ggX4_road_X4_riderAt : GoodIn wsX4_road wsX4_riderAt := goodIn_r _ [12, 2, 13, 33, 34, 35, 36, 37, 38, 39, 40, 41, 42] (by decide +kernel) (by decide +kernel)
set_option maxRecDepth 20000 in
theorem gX4_road_X4_riderAt : GoodIn wsX4_road (wsV RX4 55 RX4 yX4_riderAt wsX4_riderAt) := goodIn_app (goodIn_of _ (by decide +kernel)) ggX4_road_X4_riderAt
set_option maxRecDepth 20000 in
theorem ggX4_road_X4_settleWays : GoodIn wsX4_road wsX4_settleWays := goodIn_r _ [17, 18, 19, 20, 21, 22, 6, 23, 1, 3, 4, 5, 7, 8, 24, 25, 26, 27, 28, 29, 30, 31, 32, 43, 44, 45, 46, 47, 48, 49, 50, 51, 52, 53, 33, 34, 35, 36, 37, 38, 39, 40, 41, 42] (by decide +kernel) (by decide +kernel)
set_option maxRecDepth 20000 in
theorem gX4_road_X4_settleWays : GoodIn wsX4_road (wsV RX4 59 RX4 yX4_settleWays wsX4_settleWays) := goodIn_app (goodIn_of _ (by decide +kernel)) ggX4_road_X4_settleWays
set_option maxRecDepth 20000 in
theorem ggX4_rider_X4_isPlace : GoodIn wsX4_rider wsX4_isPlace := goodIn_r _ [11, 2, 54, 55, 56, 57, 58, 59, 60, 61, 62, 63] (by decide +kernel) (by decide +kernel)
set_option maxRecDepth 20000 in
theorem gX4_rider_X4_isPlace : GoodIn wsX4_rider (wsV RX4 51 RX4 yX4_isPlace wsX4_isPlace) := goodIn_app (goodIn_of _ (by decide +kernel)) ggX4_rider_X4_isPlace
set_option maxRecDepth 20000 in
theorem ggX4_rider_X4_areBits : GoodIn wsX4_rider wsX4_areBits := goodIn_r _ [14] (by decide +kernel) (by decide +kernel)
set_option maxRecDepth 20000 in
theorem gX4_rider_X4_areBits : GoodIn wsX4_rider (va_wsS RX4 63 yX4_areBits wsX4_areBits) := goodIn_app (goodIn_of _ (by decide +kernel)) ggX4_rider_X4_areBits
set_option maxRecDepth 20000 in
theorem ggX4_rider_X4_hasBit : GoodIn wsX4_rider wsX4_hasBit := goodIn_r _ [17] (by decide +kernel) (by decide +kernel)
set_option maxRecDepth 20000 in
theorem gX4_rider_X4_hasBit : GoodIn wsX4_rider (va_wsS RX4 67 yX4_hasBit wsX4_hasBit) := goodIn_app (goodIn_of _ (by decide +kernel)) ggX4_rider_X4_hasBit
set_option maxRecDepth 20000 in
theorem ggX4_rider_X4_isMinute : GoodIn wsX4_rider wsX4_isMinute := goodIn_r _ [20] (by decide +kernel) (by decide +kernel)
set_option maxRecDepth 20000 in
theorem gX4_rider_X4_isMinute : GoodIn wsX4_rider (va_wsS RX4 70 yX4_isMinute wsX4_isMinute) := goodIn_app (goodIn_of _ (by decide +kernel)) ggX4_rider_X4_isMinute
set_option maxRecDepth 20000 in
theorem ggX4_rider_X3_init : GoodIn wsX4_rider wsX3_init := goodIn_r _ [23, 24, 25, 26, 27, 28, 29, 30, 31, 32, 33, 34, 35, 36, 37, 38, 64, 65, 66, 67, 68, 69, 70, 71, 72, 73, 74] (by decide +kernel) (by decide +kernel)
set_option maxRecDepth 20000 in
theorem gX4_rider_X3_init : GoodIn wsX4_rider (wsX3_init) := ggX4_rider_X3_init
set_option maxRecDepth 20000 in
theorem ggX4_rider_X4_settleWays : GoodIn wsX4_rider wsX4_settleWays := goodIn_r _ [42, 43, 44, 45, 46, 47, 10, 48, 49, 7, 8, 9, 11, 2, 15, 16, 17, 50, 51, 52, 5, 53, 28, 64, 65, 66, 67, 68, 69, 70, 71, 72, 73, 74, 54, 55, 56, 57, 58, 59, 60, 61, 62, 63] (by decide +kernel) (by decide +kernel)
set_option maxRecDepth 20000 in
theorem gX4_rider_X4_settleWays : GoodIn wsX4_rider (wsV RX4 59 RX4 yX4_settleWays wsX4_settleWays) := goodIn_app (goodIn_of _ (by decide +kernel)) ggX4_rider_X4_settleWays
set_option maxRecDepth 20000 in
theorem ggX4_count_X4_countRequests : GoodIn wsX4_count wsX4_countRequests := goodIn_r _ [8, 3, 9, 10, 11, 7, 12, 13, 14, 15, 16, 17, 18, 19, 20, 21, 22, 23, 24, 25, 26, 27, 28, 29, 30, 31, 32, 33, 34, 35, 36, 37, 38, 39, 40, 41, 42, 43, 44, 45, 46, 47, 48, 49, 50, 51, 52, 53, 54, 55, 56, 57, 58, 59, 60, 61, 62, 63, 64, 65] (by decide +kernel) (by decide +kernel)
set_option maxRecDepth 20000 in
theorem gX4_count_X4_countRequests : GoodIn wsX4_count (wsV RX4 76 RX4 yX4_countRequests wsX4_countRequests) := goodIn_app (goodIn_of _ (by decide +kernel)) ggX4_count_X4_countRequests
set_option maxRecDepth 20000 in
theorem ggX4_way_X4_riderAt : GoodIn wsX4_way wsX4_riderAt := goodIn_r _ [5, 6, 7, 18, 19, 20, 21, 22, 23, 24, 25, 26, 27] (by decide +kernel) (by decide +kernel)
set_option maxRecDepth 20000 in
theorem gX4_way_X4_riderAt : GoodIn wsX4_way (wsV RX4 55 RX4 yX4_riderAt wsX4_riderAt) := goodIn_app (goodIn_of _ (by decide +kernel)) ggX4_way_X4_riderAt
set_option maxRecDepth 20000 in
theorem ggX4_way_X4_wayOf : GoodIn wsX4_way wsX4_wayOf := goodIn_r _ [11, 12, 13, 14, 15, 4, 16, 17, 28, 29, 30, 31, 32, 33, 34, 35, 36, 37, 38, 18, 19, 20, 21, 22, 23, 24, 25, 26, 27] (by decide +kernel) (by decide +kernel)
set_option maxRecDepth 20000 in
theorem gX4_way_X4_wayOf : GoodIn wsX4_way (wsV RX4 80 RX4 yX4_wayOf wsX4_wayOf) := goodIn_app (goodIn_of _ (by decide +kernel)) ggX4_way_X4_wayOf
set_option maxRecDepth 20000 in
theorem ggX4_of_X4_riderAt : GoodIn wsX4_of wsX4_riderAt := goodIn_r _ [15, 16, 17, 29, 30, 31, 32, 33, 34, 35, 36, 37, 38] (by decide +kernel) (by decide +kernel)
set_option maxRecDepth 20000 in
theorem gX4_of_X4_riderAt : GoodIn wsX4_of (wsV RX4 55 RX4 yX4_riderAt wsX4_riderAt) := goodIn_app (goodIn_of _ (by decide +kernel)) ggX4_of_X4_riderAt
set_option maxRecDepth 20000 in
theorem ggX4_duty_X4_isMinute : GoodIn wsX4_duty wsX4_isMinute := goodIn_r _ [5] (by decide +kernel) (by decide +kernel)
set_option maxRecDepth 20000 in
theorem gX4_duty_X4_isMinute : GoodIn wsX4_duty (va_wsS RX4 70 yX4_isMinute wsX4_isMinute) := goodIn_app (goodIn_of _ (by decide +kernel)) ggX4_duty_X4_isMinute
set_option maxRecDepth 20000 in
theorem ggX4_duty_X4_isKind : GoodIn wsX4_duty wsX4_isKind := goodIn_r _ [8] (by decide +kernel) (by decide +kernel)
set_option maxRecDepth 20000 in
theorem gX4_duty_X4_isKind : GoodIn wsX4_duty (va_wsS RX4 118 yX4_isKind wsX4_isKind) := goodIn_app (goodIn_of _ (by decide +kernel)) ggX4_duty_X4_isKind
set_option maxRecDepth 20000 in
theorem ggX4_duty_X4_riderAt : GoodIn wsX4_duty wsX4_riderAt := goodIn_r _ [12, 1, 13, 29, 30, 31, 32, 33, 34, 35, 36, 37, 38] (by decide +kernel) (by decide +kernel)
set_option maxRecDepth 20000 in
theorem gX4_duty_X4_riderAt : GoodIn wsX4_duty (wsV RX4 55 RX4 yX4_riderAt wsX4_riderAt) := goodIn_app (goodIn_of _ (by decide +kernel)) ggX4_duty_X4_riderAt
set_option maxRecDepth 20000 in
theorem ggX4_duty_X3_carries : GoodIn wsX4_duty wsX3_carries := goodIn_r _ [18, 19, 20, 21, 4, 22, 39, 40, 41, 42, 43, 44, 45, 46, 47, 48, 49] (by decide +kernel) (by decide +kernel)
set_option maxRecDepth 20000 in
theorem gX4_duty_X3_carries : GoodIn wsX4_duty (wsV RX4 121 RX3 yX3_carries wsX3_carries) := goodIn_app (goodIn_of _ (by decide +kernel)) ggX4_duty_X3_carries
set_option maxRecDepth 20000 in
theorem ggX4_duty_X3_isOnDuty : GoodIn wsX4_duty wsX3_isOnDuty := goodIn_r _ [26, 27, 28, 39, 40, 41, 42, 43, 44, 45, 46, 47, 48, 49] (by decide +kernel) (by decide +kernel)
set_option maxRecDepth 20000 in
theorem gX4_duty_X3_isOnDuty : GoodIn wsX4_duty (wsV RX4 124 RX3 yX3_isOnDuty wsX3_isOnDuty) := goodIn_app (goodIn_of _ (by decide +kernel)) ggX4_duty_X3_isOnDuty
set_option maxRecDepth 20000 in
theorem ggX4_bare_X4_isMinute : GoodIn wsX4_bare wsX4_isMinute := goodIn_r _ [8] (by decide +kernel) (by decide +kernel)
set_option maxRecDepth 20000 in
theorem gX4_bare_X4_isMinute : GoodIn wsX4_bare (va_wsS RX4 70 yX4_isMinute wsX4_isMinute) := goodIn_app (goodIn_of _ (by decide +kernel)) ggX4_bare_X4_isMinute
set_option maxRecDepth 20000 in
theorem ggX4_bare_X4_isKind : GoodIn wsX4_bare wsX4_isKind := goodIn_r _ [11] (by decide +kernel) (by decide +kernel)
set_option maxRecDepth 20000 in
theorem gX4_bare_X4_isKind : GoodIn wsX4_bare (va_wsS RX4 118 yX4_isKind wsX4_isKind) := goodIn_app (goodIn_of _ (by decide +kernel)) ggX4_bare_X4_isKind
set_option maxRecDepth 20000 in
theorem ggX4_bare_X4_lastOnDuty : GoodIn wsX4_bare wsX4_lastOnDuty := goodIn_r _ [15, 16, 17, 1, 2, 3, 4, 18, 19, 20, 7, 21, 22, 23, 24, 25, 26, 27, 28, 29, 30, 31, 32, 33, 34, 35, 36, 37, 38, 39, 40, 41, 42, 43, 44, 45, 46, 47, 48, 49, 50, 51, 52, 53, 54, 55, 56, 57, 58] (by decide +kernel) (by decide +kernel)
set_option maxRecDepth 20000 in
theorem gX4_bare_X4_lastOnDuty : GoodIn wsX4_bare (wsV RX4 127 RX4 yX4_lastOnDuty wsX4_lastOnDuty) := goodIn_app (goodIn_of _ (by decide +kernel)) ggX4_bare_X4_lastOnDuty
set_option maxRecDepth 20000 in
theorem ggX4_call_X4_isKind : GoodIn wsX4_call wsX4_isKind := goodIn_r _ [9] (by decide +kernel) (by decide +kernel)
set_option maxRecDepth 20000 in
theorem gX4_call_X4_isKind : GoodIn wsX4_call (va_wsS RX4 118 yX4_isKind wsX4_isKind) := goodIn_app (goodIn_of _ (by decide +kernel)) ggX4_call_X4_isKind
set_option maxRecDepth 20000 in
theorem ggX4_call_X4_isPlace : GoodIn wsX4_call wsX4_isPlace := goodIn_r _ [13, 14, 34, 35, 36, 37, 38, 39, 40, 41, 42, 43] (by decide +kernel) (by decide +kernel)
set_option maxRecDepth 20000 in
theorem gX4_call_X4_isPlace : GoodIn wsX4_call (wsV RX4 51 RX4 yX4_isPlace wsX4_isPlace) := goodIn_app (goodIn_of _ (by decide +kernel)) ggX4_call_X4_isPlace
set_option maxRecDepth 20000 in
theorem ggX4_call_X4_isMinute : GoodIn wsX4_call wsX4_isMinute := goodIn_r _ [17] (by decide +kernel) (by decide +kernel)
set_option maxRecDepth 20000 in
theorem gX4_call_X4_isMinute : GoodIn wsX4_call (va_wsS RX4 70 yX4_isMinute wsX4_isMinute) := goodIn_app (goodIn_of _ (by decide +kernel)) ggX4_call_X4_isMinute
set_option maxRecDepth 20000 in
theorem ggX4_call_X2_init : GoodIn wsX4_call wsX2_init := goodIn_r _ [20, 21, 22, 23, 24, 25, 26, 27, 28, 29, 30, 31, 32, 33, 44, 45, 46, 47, 48, 49, 50, 51, 52] (by decide +kernel) (by decide +kernel)
set_option maxRecDepth 20000 in
theorem gX4_call_X2_init : GoodIn wsX4_call (wsX2_init) := ggX4_call_X2_init
set_option maxRecDepth 20000 in
theorem ggX4_best_X4_requestAt : GoodIn wsX4_best wsX4_requestAt := goodIn_r _ [9, 10, 11, 128, 129, 130, 131, 132, 133, 134, 135, 136, 137] (by decide +kernel) (by decide +kernel)
set_option maxRecDepth 20000 in
theorem gX4_best_X4_requestAt : GoodIn wsX4_best (wsV RX4 137 RX4 yX4_requestAt wsX4_requestAt) := goodIn_app (goodIn_of _ (by decide +kernel)) ggX4_best_X4_requestAt
set_option maxRecDepth 20000 in
theorem ggX4_best_X4_findChain : GoodIn wsX4_best wsX4_findChain := goodIn_r _ [15, 16, 17, 18, 19, 20, 4, 21, 22, 23, 24, 8, 25, 26, 27, 28, 29, 30, 31, 32, 33, 34, 35, 36, 37, 38, 39, 40, 41, 42, 43, 44, 45, 46, 47, 48, 49, 50, 51, 52, 53, 54, 55, 56, 57, 58, 59, 60, 61, 62, 63, 64, 65, 66, 67, 68, 69, 70, 71, 72, 73, 74, 75, 76, 77, 78, 79, 80, 81, 82, 83, 84, 85, 86, 87, 88, 89, 90, 91, 92, 93, 94, 95, 96, 97, 98, 99, 100, 101, 102, 103, 104, 105, 106, 107, 108, 109, 110, 111, 112, 113, 114, 115, 116, 117, 118, 128, 129, 130, 131, 132, 133, 134, 135, 136, 137, 119, 120, 121, 122, 123, 124, 125, 126, 127, 138, 139, 140, 141, 142, 143, 144, 145, 146, 147, 148, 149, 150, 151, 152, 153, 154, 155, 156] (by decide +kernel) (by decide +kernel)
set_option maxRecDepth 20000 in
theorem gX4_best_X4_findChain : GoodIn wsX4_best (wsV RX4 150 RX4 yX4_findChain wsX4_findChain) := goodIn_app (goodIn_of _ (by decide +kernel)) ggX4_best_X4_findChain
set_option maxRecDepth 20000 in
theorem ggX4_best_X0_lastEnd : GoodIn wsX4_best wsX0_lastEnd := goodIn_r _ [75, 76, 77, 138, 139, 140, 141, 142, 143, 144, 145] (by decide +kernel) (by decide +kernel)
set_option maxRecDepth 20000 in
theorem gX4_best_X0_lastEnd : GoodIn wsX4_best (wsV RX4 154 RX0 yX0_lastEnd wsX0_lastEnd) := goodIn_app (goodIn_of _ (by decide +kernel)) ggX4_best_X0_lastEnd
set_option maxRecDepth 20000 in
theorem ggX4_send_X4_requestAt : GoodIn wsX4_send wsX4_requestAt := goodIn_r _ [9, 10, 11, 178, 179, 180, 181, 182, 183, 184, 185, 186, 187] (by decide +kernel) (by decide +kernel)
set_option maxRecDepth 20000 in
theorem gX4_send_X4_requestAt : GoodIn wsX4_send (wsV RX4 137 RX4 yX4_requestAt wsX4_requestAt) := goodIn_app (goodIn_of _ (by decide +kernel)) ggX4_send_X4_requestAt
set_option maxRecDepth 20000 in
theorem ggX4_send_X4_findChain : GoodIn wsX4_send wsX4_findChain := goodIn_r _ [15, 16, 17, 18, 19, 20, 21, 22, 23, 24, 25, 8, 26, 27, 28, 29, 30, 31, 32, 33, 34, 35, 36, 37, 38, 39, 40, 41, 42, 43, 44, 45, 46, 47, 48, 49, 50, 51, 52, 53, 54, 55, 56, 57, 58, 59, 60, 61, 62, 63, 64, 65, 66, 67, 68, 69, 70, 71, 72, 73, 74, 75, 76, 77, 78, 79, 80, 81, 82, 83, 84, 85, 86, 87, 88, 89, 90, 91, 92, 93, 94, 95, 96, 97, 98, 99, 100, 101, 102, 103, 104, 105, 106, 107, 108, 109, 110, 111, 112, 113, 114, 115, 116, 117, 118, 119, 178, 179, 180, 181, 182, 183, 184, 185, 186, 187, 169, 170, 171, 172, 173, 174, 175, 176, 177, 188, 189, 190, 191, 192, 193, 194, 195, 196, 197, 198, 199, 200, 201, 202, 203, 204, 205, 206] (by decide +kernel) (by decide +kernel)
set_option maxRecDepth 20000 in
theorem gX4_send_X4_findChain : GoodIn wsX4_send (wsV RX4 150 RX4 yX4_findChain wsX4_findChain) := goodIn_app (goodIn_of _ (by decide +kernel)) ggX4_send_X4_findChain
set_option maxRecDepth 20000 in
theorem ggX4_send_X4_rideChosen : GoodIn wsX4_send wsX4_rideChosen := goodIn_r _ [123, 21, 22, 83, 124, 125, 126, 127, 128, 129, 130, 56, 57, 131, 132, 133, 32, 33, 34, 8, 35, 27, 36, 134, 135, 136, 137, 138, 139, 140, 141, 142, 143, 144, 145, 146, 147, 148, 149, 150, 151, 152, 153, 154, 155, 156, 157, 49, 158, 77, 90, 159, 74, 75, 76, 78, 178, 179, 180, 181, 182, 183, 184, 185, 186, 187, 188, 189, 190, 191, 192, 193, 194, 195, 207, 208, 209, 210, 211, 212, 213, 214, 196, 197, 198, 199, 200, 201, 202, 203, 204, 205, 206, 169, 170, 171, 172, 173, 174, 175, 176, 177] (by decide +kernel) (by decide +kernel)
set_option maxRecDepth 20000 in
theorem gX4_send_X4_rideChosen : GoodIn wsX4_send (wsV RX4 158 RX4 yX4_rideChosen wsX4_rideChosen) := goodIn_app (goodIn_of _ (by decide +kernel)) ggX4_send_X4_rideChosen
set_option maxRecDepth 20000 in
theorem ggX4_send_X2_lastEnd : GoodIn wsX4_send wsX2_lastEnd := goodIn_r _ [163, 153, 164, 165, 166, 167, 151, 168, 154, 169, 170, 171, 172, 173, 174, 175, 176, 177, 207, 208, 209, 210, 211, 212, 213, 214] (by decide +kernel) (by decide +kernel)
set_option maxRecDepth 20000 in
theorem gX4_send_X2_lastEnd : GoodIn wsX4_send (wsV RX4 162 RX2 yX2_lastEnd wsX2_lastEnd) := goodIn_app (goodIn_of _ (by decide +kernel)) ggX4_send_X2_lastEnd
set_option maxRecDepth 20000 in
theorem ggX4_told_X4_requestAt : GoodIn wsX4_told wsX4_requestAt := goodIn_r _ [13, 14, 15, 37, 38, 39, 40, 41, 42, 43, 44, 45, 46] (by decide +kernel) (by decide +kernel)
set_option maxRecDepth 20000 in
theorem gX4_told_X4_requestAt : GoodIn wsX4_told (wsV RX4 137 RX4 yX4_requestAt wsX4_requestAt) := goodIn_app (goodIn_of _ (by decide +kernel)) ggX4_told_X4_requestAt
set_option maxRecDepth 20000 in
theorem ggX4_told_X2_lastEnd : GoodIn wsX4_told wsX2_lastEnd := goodIn_r _ [20, 21, 22, 23, 24, 25, 19, 26, 27, 28, 29, 30, 31, 32, 33, 34, 35, 36, 47, 48, 49, 50, 51, 52, 53, 54] (by decide +kernel) (by decide +kernel)
set_option maxRecDepth 20000 in
theorem gX4_told_X2_lastEnd : GoodIn wsX4_told (wsV RX4 162 RX2 yX2_lastEnd wsX2_lastEnd) := goodIn_app (goodIn_of _ (by decide +kernel)) ggX4_told_X2_lastEnd
set_option maxRecDepth 20000 in
theorem ggX4_leg_X4_requestAt : GoodIn wsX4_leg wsX4_requestAt := goodIn_r _ [11, 12, 13, 29, 30, 31, 32, 33, 34, 35, 36, 37, 38] (by decide +kernel) (by decide +kernel)
set_option maxRecDepth 20000 in
theorem gX4_leg_X4_requestAt : GoodIn wsX4_leg (wsV RX4 137 RX4 yX4_requestAt wsX4_requestAt) := goodIn_app (goodIn_of _ (by decide +kernel)) ggX4_leg_X4_requestAt
set_option maxRecDepth 20000 in
theorem ggX4_leg_X2_legAt : GoodIn wsX4_leg wsX2_legAt := goodIn_r _ [18, 19, 20, 39, 40, 41, 42, 43, 44, 45, 46, 47] (by decide +kernel) (by decide +kernel)
set_option maxRecDepth 20000 in
theorem gX4_leg_X2_legAt : GoodIn wsX4_leg (wsV RX4 178 RX2 yX2_legAt wsX2_legAt) := goodIn_app (goodIn_of _ (by decide +kernel)) ggX4_leg_X2_legAt
set_option maxRecDepth 20000 in
theorem ggX4_hand_X4_requestAt : GoodIn wsX4_hand wsX4_requestAt := goodIn_r _ [9, 10, 11, 45, 46, 47, 48, 49, 50, 51, 52, 53, 54] (by decide +kernel) (by decide +kernel)
set_option maxRecDepth 20000 in
theorem gX4_hand_X4_requestAt : GoodIn wsX4_hand (wsV RX4 137 RX4 yX4_requestAt wsX4_requestAt) := goodIn_app (goodIn_of _ (by decide +kernel)) ggX4_hand_X4_requestAt
set_option maxRecDepth 20000 in
theorem ggX4_hand_X4_isMinute : GoodIn wsX4_hand wsX4_isMinute := goodIn_r _ [14] (by decide +kernel) (by decide +kernel)
set_option maxRecDepth 20000 in
theorem gX4_hand_X4_isMinute : GoodIn wsX4_hand (va_wsS RX4 70 yX4_isMinute wsX4_isMinute) := goodIn_app (goodIn_of _ (by decide +kernel)) ggX4_hand_X4_isMinute
set_option maxRecDepth 20000 in
theorem ggX4_hand_X2_lastEnd : GoodIn wsX4_hand wsX2_lastEnd := goodIn_r _ [19, 20, 21, 22, 23, 24, 18, 25, 26, 28, 29, 30, 31, 32, 33, 34, 35, 36, 37, 38, 39, 40, 41, 42, 43, 44] (by decide +kernel) (by decide +kernel)
set_option maxRecDepth 20000 in
theorem gX4_hand_X2_lastEnd : GoodIn wsX4_hand (wsV RX4 162 RX2 yX2_lastEnd wsX2_lastEnd) := goodIn_app (goodIn_of _ (by decide +kernel)) ggX4_hand_X2_lastEnd
set_option maxRecDepth 20000 in
theorem ggX4_hand_X2_legAt : GoodIn wsX4_hand wsX2_legAt := goodIn_r _ [25, 20, 26, 28, 29, 30, 31, 32, 33, 34, 35, 36] (by decide +kernel) (by decide +kernel)
set_option maxRecDepth 20000 in
theorem gX4_hand_X2_legAt : GoodIn wsX4_hand (wsV RX4 178 RX2 yX2_legAt wsX2_legAt) := goodIn_app (goodIn_of _ (by decide +kernel)) ggX4_hand_X2_legAt
set_option maxRecDepth 20000 in
theorem ggX4_fail_X4_requestAt : GoodIn wsX4_fail wsX4_requestAt := goodIn_r _ [8, 9, 10, 189, 190, 191, 192, 193, 194, 195, 196, 197, 198] (by decide +kernel) (by decide +kernel)
set_option maxRecDepth 20000 in
theorem gX4_fail_X4_requestAt : GoodIn wsX4_fail (wsV RX4 137 RX4 yX4_requestAt wsX4_requestAt) := goodIn_app (goodIn_of _ (by decide +kernel)) ggX4_fail_X4_requestAt
set_option maxRecDepth 20000 in
theorem ggX4_fail_X4_mayFail : GoodIn wsX4_fail wsX4_mayFail := goodIn_r _ [13, 14, 15, 16, 17, 18, 19, 20, 21, 22, 23, 24, 199, 200, 201, 202, 203, 204, 205, 206, 207, 208, 209, 210, 211, 212, 213, 214, 215] (by decide +kernel) (by decide +kernel)
set_option maxRecDepth 20000 in
theorem gX4_fail_X4_mayFail : GoodIn wsX4_fail (va_wsS RX4 196 yX4_mayFail wsX4_mayFail) := goodIn_app (goodIn_of _ (by decide +kernel)) ggX4_fail_X4_mayFail
set_option maxRecDepth 20000 in
theorem ggX4_fail_X2_legAt : GoodIn wsX4_fail wsX2_legAt := goodIn_r _ [22, 23, 24, 207, 208, 209, 210, 211, 212, 213, 214, 215] (by decide +kernel) (by decide +kernel)
set_option maxRecDepth 20000 in
theorem gX4_fail_X2_legAt : GoodIn wsX4_fail (wsV RX4 178 RX2 yX2_legAt wsX2_legAt) := goodIn_app (goodIn_of _ (by decide +kernel)) ggX4_fail_X2_legAt
set_option maxRecDepth 20000 in
theorem ggX4_fail_X4_dropLegsBehind : GoodIn wsX4_fail wsX4_dropLegsBehind := goodIn_r _ [28, 16, 29, 30, 31, 32, 33, 34, 35, 15, 14, 18, 19, 20, 21, 22, 23, 24, 36, 37, 38, 7, 39, 40, 41, 207, 208, 209, 210, 211, 212, 213, 214, 215, 199, 200, 201, 202, 203, 204, 205, 206, 216, 217, 218, 219, 220, 221, 222, 223, 224, 225, 226, 189, 190, 191, 192, 193, 194, 195, 196, 197, 198] (by decide +kernel) (by decide +kernel)
set_option maxRecDepth 20000 in
theorem gX4_fail_X4_dropLegsBehind : GoodIn wsX4_fail (wsV RX4 199 RX4 yX4_dropLegsBehind wsX4_dropLegsBehind) := goodIn_app (goodIn_of _ (by decide +kernel)) ggX4_fail_X4_dropLegsBehind
set_option maxRecDepth 20000 in
theorem ggX4_fail_X4_failLeg : GoodIn wsX4_fail wsX4_failLeg := goodIn_r _ [45, 29, 35, 15, 2, 31, 46, 47, 17, 36, 37, 38, 7, 39, 40, 41, 199, 200, 201, 202, 203, 204, 205, 206, 216, 217, 218, 219, 220, 221, 222, 223, 224, 225, 226, 189, 190, 191, 192, 193, 194, 195, 196, 197, 198] (by decide +kernel) (by decide +kernel)
set_option maxRecDepth 20000 in
theorem gX4_fail_X4_failLeg : GoodIn wsX4_fail (wsV RX4 203 RX4 yX4_failLeg wsX4_failLeg) := goodIn_app (goodIn_of _ (by decide +kernel)) ggX4_fail_X4_failLeg
set_option maxRecDepth 20000 in
theorem ggX4_fail_X4_findChain : GoodIn wsX4_fail wsX4_findChain := goodIn_r _ [51, 52, 53, 54, 55, 56, 57, 58, 59, 60, 61, 7, 62, 40, 63, 64, 65, 66, 36, 37, 38, 39, 41, 67, 68, 69, 70, 71, 72, 73, 74, 75, 76, 77, 78, 79, 80, 81, 82, 83, 84, 85, 31, 33, 86, 87, 88, 89, 90, 91, 92, 93, 94, 95, 96, 97, 98, 99, 100, 101, 102, 103, 104, 105, 106, 107, 108, 109, 110, 111, 112, 113, 114, 115, 116, 117, 118, 119, 120, 121, 122, 123, 124, 125, 126, 127, 128, 129, 130, 131, 132, 133, 134, 135, 136, 137, 138, 139, 140, 141, 142, 143, 144, 145, 146, 147, 189, 190, 191, 192, 193, 194, 195, 196, 197, 198, 207, 208, 209, 210, 211, 212, 213, 214, 215, 227, 228, 229, 230, 231, 232, 233, 234, 216, 217, 218, 219, 220, 221, 222, 223, 224, 225, 226] (by decide +kernel) (by decide +kernel)
set_option maxRecDepth 20000 in
theorem gX4_fail_X4_findChain : GoodIn wsX4_fail (wsV RX4 150 RX4 yX4_findChain wsX4_findChain) := goodIn_app (goodIn_of _ (by decide +kernel)) ggX4_fail_X4_findChain
set_option maxRecDepth 20000 in
theorem ggX4_fail_X4_rideChosen : GoodIn wsX4_fail wsX4_rideChosen := goodIn_r _ [151, 57, 58, 111, 152, 153, 154, 155, 156, 157, 158, 31, 33, 159, 34, 35, 36, 37, 38, 7, 39, 40, 41, 160, 161, 162, 163, 164, 165, 166, 167, 168, 169, 170, 171, 172, 173, 174, 175, 176, 21, 177, 23, 24, 178, 179, 180, 79, 181, 105, 118, 182, 102, 103, 104, 106, 189, 190, 191, 192, 193, 194, 195, 196, 197, 198, 227, 228, 229, 230, 231, 232, 233, 234, 199, 200, 201, 202, 203, 204, 205, 206, 216, 217, 218, 219, 220, 221, 222, 223, 224, 225, 226, 207, 208, 209, 210, 211, 212, 213, 214, 215] (by decide +kernel) (by decide +kernel)
set_option maxRecDepth 20000 in
theorem gX4_fail_X4_rideChosen : GoodIn wsX4_fail (wsV RX4 158 RX4 yX4_rideChosen wsX4_rideChosen) := goodIn_app (goodIn_of _ (by decide +kernel)) ggX4_fail_X4_rideChosen
set_option maxRecDepth 20000 in
theorem ggX4_fail_X2_lastEnd : GoodIn wsX4_fail wsX2_lastEnd := goodIn_r _ [186, 23, 187, 188, 19, 20, 21, 22, 24, 207, 208, 209, 210, 211, 212, 213, 214, 215, 199, 200, 201, 202, 203, 204, 205, 206] (by decide +kernel) (by decide +kernel)
set_option maxRecDepth 20000 in
theorem gX4_fail_X2_lastEnd : GoodIn wsX4_fail (wsV RX4 162 RX2 yX2_lastEnd wsX2_lastEnd) := goodIn_app (goodIn_of _ (by decide +kernel)) ggX4_fail_X2_lastEnd
set_option maxRecDepth 20000 in
theorem ggX4_next_X4_isKind : GoodIn wsX4_next wsX4_isKind := goodIn_r _ [7] (by decide +kernel) (by decide +kernel)
set_option maxRecDepth 20000 in
theorem gX4_next_X4_isKind : GoodIn wsX4_next (va_wsS RX4 118 yX4_isKind wsX4_isKind) := goodIn_app (goodIn_of _ (by decide +kernel)) ggX4_next_X4_isKind
set_option maxRecDepth 20000 in
theorem ggX4_next_X4_isPlace : GoodIn wsX4_next wsX4_isPlace := goodIn_r _ [11, 12, 43, 44, 45, 46, 47, 48, 49, 50, 51, 52] (by decide +kernel) (by decide +kernel)
set_option maxRecDepth 20000 in
theorem gX4_next_X4_isPlace : GoodIn wsX4_next (wsV RX4 51 RX4 yX4_isPlace wsX4_isPlace) := goodIn_app (goodIn_of _ (by decide +kernel)) ggX4_next_X4_isPlace
set_option maxRecDepth 20000 in
theorem ggX4_next_X4_riderAt : GoodIn wsX4_next wsX4_riderAt := goodIn_r _ [16, 1, 17, 43, 44, 45, 46, 47, 48, 49, 50, 51, 52] (by decide +kernel) (by decide +kernel)
set_option maxRecDepth 20000 in
theorem gX4_next_X4_riderAt : GoodIn wsX4_next (wsV RX4 55 RX4 yX4_riderAt wsX4_riderAt) := goodIn_app (goodIn_of _ (by decide +kernel)) ggX4_next_X4_riderAt
set_option maxRecDepth 20000 in
theorem ggX4_next_X3_carries : GoodIn wsX4_next wsX3_carries := goodIn_r _ [22, 23, 24, 25, 6, 26, 53, 54, 55, 56, 57, 58, 59, 60, 61, 62, 63] (by decide +kernel) (by decide +kernel)
set_option maxRecDepth 20000 in
theorem gX4_next_X3_carries : GoodIn wsX4_next (wsV RX4 121 RX3 yX3_carries wsX3_carries) := goodIn_app (goodIn_of _ (by decide +kernel)) ggX4_next_X3_carries
set_option maxRecDepth 20000 in
theorem ggX4_next_X4_thereFrom : GoodIn wsX4_next wsX4_thereFrom := goodIn_r _ [30, 31, 32, 33, 34, 35, 36, 37, 38, 39, 40, 6, 41, 42, 8, 9, 10, 11, 12, 53, 54, 55, 56, 57, 58, 59, 60, 61, 62, 63, 43, 44, 45, 46, 47, 48, 49, 50, 51, 52] (by decide +kernel) (by decide +kernel)
set_option maxRecDepth 20000 in
theorem gX4_next_X4_thereFrom : GoodIn wsX4_next (wsV RX4 207 RX4 yX4_thereFrom wsX4_thereFrom) := goodIn_app (goodIn_of _ (by decide +kernel)) ggX4_next_X4_thereFrom
set_option maxRecDepth 20000 in
theorem ggX4_wayOf_X4_isPlace : GoodIn wsX4_wayOf wsX4_isPlace := goodIn_r _ [6, 7, 19, 20, 21, 22, 23, 24, 25, 26, 27, 28] (by decide +kernel) (by decide +kernel)
set_option maxRecDepth 20000 in
theorem gX4_wayOf_X4_isPlace : GoodIn wsX4_wayOf (wsV RX4 51 RX4 yX4_isPlace wsX4_isPlace) := goodIn_app (goodIn_of _ (by decide +kernel)) ggX4_wayOf_X4_isPlace
set_option maxRecDepth 20000 in
theorem ggX4_settleWays_X4_roadWithin : GoodIn wsX4_settleWays wsX4_roadWithin := goodIn_r _ [7, 8, 9, 10, 11, 6, 12, 13, 14, 15, 16, 34, 35, 36, 37, 38, 39, 40, 41, 42, 43] (by decide +kernel) (by decide +kernel)
set_option maxRecDepth 20000 in
theorem gX4_settleWays_X4_roadWithin : GoodIn wsX4_settleWays (wsV RX4 217 RX4 yX4_roadWithin wsX4_roadWithin) := goodIn_app (goodIn_of _ (by decide +kernel)) ggX4_settleWays_X4_roadWithin
set_option maxRecDepth 20000 in
theorem ggX4_settleWays_X3_shortenWays : GoodIn wsX4_settleWays wsX3_shortenWays := goodIn_r _ [21, 22, 23, 24, 25, 26, 27, 28, 29, 30, 31, 32, 33] (by decide +kernel) (by decide +kernel)
set_option maxRecDepth 20000 in
theorem gX4_settleWays_X3_shortenWays : GoodIn wsX4_settleWays (wsV RX4 221 RX3 yX3_shortenWays wsX3_shortenWays) := goodIn_app (goodIn_of _ (by decide +kernel)) ggX4_settleWays_X3_shortenWays
set_option maxRecDepth 20000 in
theorem ggX4_roadWithin_X4_isPlace : GoodIn wsX4_roadWithin wsX4_isPlace := goodIn_r _ [6, 7, 11, 12, 13, 14, 15, 16, 17, 18, 19, 20] (by decide +kernel) (by decide +kernel)
set_option maxRecDepth 20000 in
theorem gX4_roadWithin_X4_isPlace : GoodIn wsX4_roadWithin (wsV RX4 51 RX4 yX4_isPlace wsX4_isPlace) := goodIn_app (goodIn_of _ (by decide +kernel)) ggX4_roadWithin_X4_isPlace
set_option maxRecDepth 20000 in
theorem ggX4_roadWithin_X4_hasBit : GoodIn wsX4_roadWithin wsX4_hasBit := goodIn_r _ [10] (by decide +kernel) (by decide +kernel)
set_option maxRecDepth 20000 in
theorem gX4_roadWithin_X4_hasBit : GoodIn wsX4_roadWithin (va_wsS RX4 67 yX4_hasBit wsX4_hasBit) := goodIn_app (goodIn_of _ (by decide +kernel)) ggX4_roadWithin_X4_hasBit
set_option maxRecDepth 20000 in
theorem ggX4_thereFrom_X4_wayOf : GoodIn wsX4_thereFrom wsX4_wayOf := goodIn_r _ [12, 13, 14, 15, 16, 11, 17, 18, 19, 20, 21, 22, 23, 24, 25, 26, 27, 28, 29, 30, 31, 32, 33, 34, 35, 36, 37, 38, 39] (by decide +kernel) (by decide +kernel)
set_option maxRecDepth 20000 in
theorem gX4_thereFrom_X4_wayOf : GoodIn wsX4_thereFrom (wsV RX4 80 RX4 yX4_wayOf wsX4_wayOf) := goodIn_app (goodIn_of _ (by decide +kernel)) ggX4_thereFrom_X4_wayOf
set_option maxRecDepth 20000 in
theorem ggX4_countRequests_X4_requestAt : GoodIn wsX4_countRequests wsX4_requestAt := goodIn_r _ [6, 1, 7, 33, 34, 35, 36, 37, 38, 39, 40, 41, 42] (by decide +kernel) (by decide +kernel)
set_option maxRecDepth 20000 in
theorem gX4_countRequests_X4_requestAt : GoodIn wsX4_countRequests (wsV RX4 137 RX4 yX4_requestAt wsX4_requestAt) := goodIn_app (goodIn_of _ (by decide +kernel)) ggX4_countRequests_X4_requestAt
set_option maxRecDepth 20000 in
theorem ggX4_countRequests_X4_isCounted : GoodIn wsX4_countRequests wsX4_isCounted := goodIn_r _ [10, 11, 12, 13, 14, 15, 16, 17, 18, 19, 20, 21, 22, 23, 24, 25, 26, 27, 28, 29, 30, 31, 32, 43, 44, 45, 46, 47, 48, 49, 50, 51, 52, 53, 54, 55, 56, 57, 58, 59] (by decide +kernel) (by decide +kernel)
set_option maxRecDepth 20000 in
theorem gX4_countRequests_X4_isCounted : GoodIn wsX4_countRequests (va_wsS RX4 227 yX4_isCounted wsX4_isCounted) := goodIn_app (goodIn_of _ (by decide +kernel)) ggX4_countRequests_X4_isCounted
set_option maxRecDepth 20000 in
theorem ggX4_isCounted_X2_cameWarm : GoodIn wsX4_isCounted wsX2_cameWarm := goodIn_r _ [7, 8, 9, 10, 11, 12, 13, 14, 6, 15, 16, 17, 18, 19, 20, 21, 22, 23, 24, 25, 26, 27, 28, 29, 30, 31, 32, 33, 34, 35, 36, 37, 38, 39] (by decide +kernel) (by decide +kernel)
set_option maxRecDepth 20000 in
theorem gX4_isCounted_X2_cameWarm : GoodIn wsX4_isCounted (wsV RX4 231 RX2 yX2_cameWarm wsX2_cameWarm) := goodIn_app (goodIn_of _ (by decide +kernel)) ggX4_isCounted_X2_cameWarm
set_option maxRecDepth 20000 in
theorem ggX4_lastOnDuty_X4_riderAt : GoodIn wsX4_lastOnDuty wsX4_riderAt := goodIn_r _ [11, 1, 12, 28, 29, 30, 31, 32, 33, 34, 35, 36, 37] (by decide +kernel) (by decide +kernel)
set_option maxRecDepth 20000 in
theorem gX4_lastOnDuty_X4_riderAt : GoodIn wsX4_lastOnDuty (wsV RX4 55 RX4 yX4_riderAt wsX4_riderAt) := goodIn_app (goodIn_of _ (by decide +kernel)) ggX4_lastOnDuty_X4_riderAt
set_option maxRecDepth 20000 in
theorem ggX4_lastOnDuty_X3_carries : GoodIn wsX4_lastOnDuty wsX3_carries := goodIn_r _ [17, 18, 19, 20, 10, 21, 38, 39, 40, 41, 42, 43, 44, 45, 46, 47, 48] (by decide +kernel) (by decide +kernel)
set_option maxRecDepth 20000 in
theorem gX4_lastOnDuty_X3_carries : GoodIn wsX4_lastOnDuty (wsV RX4 121 RX3 yX3_carries wsX3_carries) := goodIn_app (goodIn_of _ (by decide +kernel)) ggX4_lastOnDuty_X3_carries
set_option maxRecDepth 20000 in
theorem ggX4_lastOnDuty_X3_isOnDuty : GoodIn wsX4_lastOnDuty wsX3_isOnDuty := goodIn_r _ [25, 26, 27, 38, 39, 40, 41, 42, 43, 44, 45, 46, 47, 48] (by decide +kernel) (by decide +kernel)
set_option maxRecDepth 20000 in
theorem gX4_lastOnDuty_X3_isOnDuty : GoodIn wsX4_lastOnDuty (wsV RX4 124 RX3 yX3_isOnDuty wsX3_isOnDuty) := goodIn_app (goodIn_of _ (by decide +kernel)) ggX4_lastOnDuty_X3_isOnDuty
set_option maxRecDepth 20000 in
theorem ggX4_findChain_X4_tryRiders : GoodIn wsX4_findChain wsX4_tryRiders := goodIn_r _ [12, 13, 1, 3, 14, 15, 16, 17, 18, 19, 20, 11, 21, 22, 23, 24, 25, 26, 27, 28, 29, 30, 31, 32, 33, 34, 35, 36, 37, 38, 39, 40, 41, 42, 43, 44, 45, 46, 47, 48, 49, 50, 51, 52, 53, 54, 55, 56, 57, 58, 6, 7, 59, 60, 61, 62, 63, 64, 65, 66, 67, 68, 69, 70, 71, 72, 73, 74, 75, 76, 77, 78, 79, 80, 5, 81, 82, 83, 84, 85, 86, 87, 88, 89, 90, 91, 92, 93, 94, 95, 96, 97, 98, 99, 100, 101, 8, 9, 10, 102, 103, 104, 105, 106, 107, 108, 109, 110, 111, 112, 113, 114, 115, 133, 134, 135, 136, 137, 138, 139, 140, 141, 142, 143, 125, 126, 127, 128, 129, 130, 131, 132] (by decide +kernel) (by decide +kernel)
set_option maxRecDepth 20000 in
theorem gX4_findChain_X4_tryRiders : GoodIn wsX4_findChain (wsV RX4 242 RX4 yX4_tryRiders wsX4_tryRiders) := goodIn_app (goodIn_of _ (by decide +kernel)) ggX4_findChain_X4_tryRiders
set_option maxRecDepth 20000 in
theorem ggX4_tryRiders_X4_riderAt : GoodIn wsX4_tryRiders wsX4_riderAt := goodIn_r _ [12, 1, 13, 103, 104, 105, 106, 107, 108, 109, 110, 111, 112] (by decide +kernel) (by decide +kernel)
set_option maxRecDepth 20000 in
theorem gX4_tryRiders_X4_riderAt : GoodIn wsX4_tryRiders (wsV RX4 55 RX4 yX4_riderAt wsX4_riderAt) := goodIn_app (goodIn_of _ (by decide +kernel)) ggX4_tryRiders_X4_riderAt
set_option maxRecDepth 20000 in
theorem ggX4_tryRiders_X3_carries : GoodIn wsX4_tryRiders wsX3_carries := goodIn_r _ [18, 19, 20, 21, 11, 22, 113, 114, 115, 116, 117, 118, 119, 120, 121, 122, 123] (by decide +kernel) (by decide +kernel)
set_option maxRecDepth 20000 in
theorem gX4_tryRiders_X3_carries : GoodIn wsX4_tryRiders (wsV RX4 121 RX3 yX3_carries wsX3_carries) := goodIn_app (goodIn_of _ (by decide +kernel)) ggX4_tryRiders_X3_carries
set_option maxRecDepth 20000 in
theorem ggX4_tryRiders_X0_isRiddenBy : GoodIn wsX4_tryRiders wsX0_isRiddenBy := goodIn_r _ [27, 28, 124, 125, 126, 127, 128, 129, 130, 131] (by decide +kernel) (by decide +kernel)
set_option maxRecDepth 20000 in
theorem gX4_tryRiders_X0_isRiddenBy : GoodIn wsX4_tryRiders (wsV RX4 246 RX0 yX0_isRiddenBy wsX0_isRiddenBy) := goodIn_app (goodIn_of _ (by decide +kernel)) ggX4_tryRiders_X0_isRiddenBy
set_option maxRecDepth 20000 in
theorem ggX4_tryRiders_X4_thereFrom : GoodIn wsX4_tryRiders wsX4_thereFrom := goodIn_r _ [32, 33, 34, 35, 4, 5, 6, 7, 36, 37, 38, 11, 39, 40, 41, 42, 43, 44, 45, 113, 114, 115, 116, 117, 118, 119, 120, 121, 122, 123, 103, 104, 105, 106, 107, 108, 109, 110, 111, 112] (by decide +kernel) (by decide +kernel)
set_option maxRecDepth 20000 in
theorem gX4_tryRiders_X4_thereFrom : GoodIn wsX4_tryRiders (wsV RX4 207 RX4 yX4_thereFrom wsX4_thereFrom) := goodIn_app (goodIn_of _ (by decide +kernel)) ggX4_tryRiders_X4_thereFrom
set_option maxRecDepth 20000 in
theorem ggX4_tryRiders_X4_isTooLate : GoodIn wsX4_tryRiders wsX4_isTooLate := goodIn_r _ [49, 50, 51, 52, 53, 54, 26, 55, 56, 57, 103, 104, 105, 106, 107, 108, 109, 110, 111, 112, 124, 125, 126, 127, 128, 129, 130, 131] (by decide +kernel) (by decide +kernel)
set_option maxRecDepth 20000 in
theorem gX4_tryRiders_X4_isTooLate : GoodIn wsX4_tryRiders (wsV RX4 249 RX4 yX4_isTooLate wsX4_isTooLate) := goodIn_app (goodIn_of _ (by decide +kernel)) ggX4_tryRiders_X4_isTooLate
set_option maxRecDepth 20000 in
theorem ggX4_tryRiders_X4_waitsUntil : GoodIn wsX4_tryRiders wsX4_waitsUntil := goodIn_r _ [61, 2, 62, 63, 8, 9, 10, 11, 12, 1, 13, 103, 104, 105, 106, 107, 108, 109, 110, 111, 112, 124, 125, 126, 127, 128, 129, 130, 131, 113, 114, 115, 116, 117, 118, 119, 120, 121, 122, 123] (by decide +kernel) (by decide +kernel)
set_option maxRecDepth 20000 in
theorem gX4_tryRiders_X4_waitsUntil : GoodIn wsX4_tryRiders (wsV RX4 252 RX4 yX4_waitsUntil wsX4_waitsUntil) := goodIn_app (goodIn_of _ (by decide +kernel)) ggX4_tryRiders_X4_waitsUntil
set_option maxRecDepth 20000 in
theorem ggX4_tryRiders_X0_open : GoodIn wsX4_tryRiders wsX0_open := goodIn_r _ [67, 28, 68, 69, 124, 125, 126, 127, 128, 129, 130, 131] (by decide +kernel) (by decide +kernel)
set_option maxRecDepth 20000 in
theorem gX4_tryRiders_X0_open : GoodIn wsX4_tryRiders (wsV RX4 255 RX0 yX0_open wsX0_open) := goodIn_app (goodIn_of _ (by decide +kernel)) ggX4_tryRiders_X0_open
set_option maxRecDepth 20000 in
theorem ggX4_tryRiders_X4_tryEnds : GoodIn wsX4_tryRiders wsX4_tryEnds := goodIn_r _ [99, 2, 74, 45, 100, 101, 102, 11, 73, 63, 75, 76, 77, 26, 78, 68, 36, 37, 38, 39, 40, 41, 42, 43, 44, 79, 80, 81, 82, 83, 84, 85, 86, 87, 57, 56, 88, 89, 90, 91, 50, 51, 52, 53, 54, 55, 92, 93, 94, 95, 28, 69, 96, 97, 98, 0, 1, 3, 4, 5, 6, 7, 8, 9, 10, 12, 13, 14, 15, 16, 17, 18, 19, 20, 21, 22, 23, 24, 25, 27, 29, 30, 31, 32, 33, 34, 35, 46, 47, 48, 49, 58, 59, 60, 61, 62, 64, 65, 66, 67, 70, 71, 72, 103, 104, 105, 106, 107, 108, 109, 110, 111, 112, 113, 114, 115, 116, 117, 118, 119, 120, 121, 122, 123, 124, 125, 126, 127, 128, 129, 130, 131] (by decide +kernel) (by decide +kernel)
set_option maxRecDepth 20000 in
theorem gX4_tryRiders_X4_tryEnds : GoodIn wsX4_tryRiders (wsV RX4 259 RX4 yX4_tryEnds wsX4_tryEnds) := goodIn_app (goodIn_of _ (by decide +kernel)) ggX4_tryRiders_X4_tryEnds
set_option maxRecDepth 20000 in
theorem ggX4_isTooLate_X0_lastEnd : GoodIn wsX4_isTooLate wsX0_lastEnd := goodIn_r _ [7, 8, 9, 20, 21, 22, 23, 24, 25, 26, 27] (by decide +kernel) (by decide +kernel)
set_option maxRecDepth 20000 in
theorem gX4_isTooLate_X0_lastEnd : GoodIn wsX4_isTooLate (wsV RX4 154 RX0 yX0_lastEnd wsX0_lastEnd) := goodIn_app (goodIn_of _ (by decide +kernel)) ggX4_isTooLate_X0_lastEnd
set_option maxRecDepth 20000 in
theorem ggX4_waitsUntil_X4_riderAt : GoodIn wsX4_waitsUntil wsX4_riderAt := goodIn_r _ [8, 9, 10, 11, 12, 13, 14, 15, 16, 17, 18, 19, 20] (by decide +kernel) (by decide +kernel)
set_option maxRecDepth 20000 in
theorem gX4_waitsUntil_X4_riderAt : GoodIn wsX4_waitsUntil (wsV RX4 55 RX4 yX4_riderAt wsX4_riderAt) := goodIn_app (goodIn_of _ (by decide +kernel)) ggX4_waitsUntil_X4_riderAt
set_option maxRecDepth 20000 in
theorem ggX4_tryEnds_X4_tryEnd : GoodIn wsX4_tryEnds wsX4_tryEnd := goodIn_r _ [8, 1, 9, 2, 10, 11, 12, 13, 14, 15, 16, 17, 18, 7, 19, 20, 21, 22, 23, 24, 3, 25, 26, 27, 28, 29, 30, 31, 32, 33, 34, 35, 36, 37, 38, 39, 40, 41, 42, 43, 44, 45, 46, 47, 48, 49, 50, 51, 52, 53, 54, 0, 4, 5, 6, 55, 56, 57, 58, 59, 60, 61, 62, 63, 64, 65, 66, 67, 68, 69, 70, 71, 72, 73, 74, 75, 76, 77, 78, 79, 80, 81, 82, 83, 84, 85, 86, 87, 88, 89, 90, 91, 92, 93, 94, 95, 96, 97, 98, 99, 100, 101, 102, 103, 104, 105, 106, 107, 108, 109, 110, 111, 112, 113, 114, 115, 116, 117, 118, 119, 120, 121, 122, 123, 124, 125, 126, 127, 128, 129, 130, 131] (by decide +kernel) (by decide +kernel)
set_option maxRecDepth 20000 in
theorem gX4_tryEnds_X4_tryEnd : GoodIn wsX4_tryEnds (wsV RX4 265 RX4 yX4_tryEnd wsX4_tryEnd) := goodIn_app (goodIn_of _ (by decide +kernel)) ggX4_tryEnds_X4_tryEnd
set_option maxRecDepth 20000 in
theorem ggX4_tryEnd_X0_fromOf : GoodIn wsX4_tryEnd wsX0_fromOf := goodIn_r _ [8, 9, 124, 125, 126, 127, 128, 129, 130, 131] (by decide +kernel) (by decide +kernel)
set_option maxRecDepth 20000 in
theorem gX4_tryEnd_X0_fromOf : GoodIn wsX4_tryEnd (wsV RX4 269 RX0 yX0_fromOf wsX0_fromOf) := goodIn_app (goodIn_of _ (by decide +kernel)) ggX4_tryEnd_X0_fromOf
set_option maxRecDepth 20000 in
theorem ggX4_tryEnd_X4_wayOf : GoodIn wsX4_tryEnd wsX4_wayOf := goodIn_r _ [14, 15, 16, 17, 18, 13, 19, 20, 113, 114, 115, 116, 117, 118, 119, 120, 121, 122, 123, 103, 104, 105, 106, 107, 108, 109, 110, 111, 112] (by decide +kernel) (by decide +kernel)
set_option maxRecDepth 20000 in
theorem gX4_tryEnd_X4_wayOf : GoodIn wsX4_tryEnd (wsV RX4 80 RX4 yX4_wayOf wsX4_wayOf) := goodIn_app (goodIn_of _ (by decide +kernel)) ggX4_tryEnd_X4_wayOf
set_option maxRecDepth 20000 in
theorem ggX4_tryEnd_X0_comesFrom : GoodIn wsX4_tryEnd wsX0_comesFrom := goodIn_r _ [24, 9, 124, 125, 126, 127, 128, 129, 130, 131] (by decide +kernel) (by decide +kernel)
set_option maxRecDepth 20000 in
theorem gX4_tryEnd_X0_comesFrom : GoodIn wsX4_tryEnd (wsV RX4 272 RX0 yX0_comesFrom wsX0_comesFrom) := goodIn_app (goodIn_of _ (by decide +kernel)) ggX4_tryEnd_X0_comesFrom
set_option maxRecDepth 20000 in
theorem ggX4_tryEnd_X0_close : GoodIn wsX4_tryEnd wsX0_close := goodIn_r _ [28, 29, 30, 31, 124, 125, 126, 127, 128, 129, 130, 131] (by decide +kernel) (by decide +kernel)
set_option maxRecDepth 20000 in
theorem gX4_tryEnd_X0_close : GoodIn wsX4_tryEnd (wsV RX4 275 RX0 yX0_close wsX0_close) := goodIn_app (goodIn_of _ (by decide +kernel)) ggX4_tryEnd_X0_close
set_option maxRecDepth 20000 in
theorem ggX4_tryEnd_X4_keepIfBetter : GoodIn wsX4_tryEnd wsX4_keepIfBetter := goodIn_r _ [35, 1, 36, 37, 38, 39, 40, 7, 41, 31, 30, 42, 43, 44, 45, 46, 9, 29, 47, 103, 104, 105, 106, 107, 108, 109, 110, 111, 112, 124, 125, 126, 127, 128, 129, 130, 131] (by decide +kernel) (by decide +kernel)
set_option maxRecDepth 20000 in
theorem gX4_tryEnd_X4_keepIfBetter : GoodIn wsX4_tryEnd (wsV RX4 278 RX4 yX4_keepIfBetter wsX4_keepIfBetter) := goodIn_app (goodIn_of _ (by decide +kernel)) ggX4_tryEnd_X4_keepIfBetter
set_option maxRecDepth 20000 in
theorem ggX4_tryEnd_X4_tryRiders : GoodIn wsX4_tryEnd wsX4_tryRiders := goodIn_r _ [55, 56, 1, 57, 58, 59, 60, 61, 62, 63, 64, 13, 65, 66, 67, 68, 69, 70, 71, 72, 73, 74, 75, 76, 77, 78, 7, 79, 46, 80, 81, 82, 83, 84, 85, 86, 10, 11, 12, 14, 15, 16, 17, 18, 19, 20, 87, 88, 89, 90, 36, 37, 38, 39, 40, 41, 31, 30, 91, 92, 93, 94, 95, 2, 96, 97, 98, 99, 9, 47, 100, 101, 102, 0, 3, 4, 5, 6, 8, 21, 22, 23, 24, 25, 26, 27, 28, 29, 32, 33, 34, 35, 42, 43, 44, 45, 48, 49, 50, 51, 52, 53, 54, 103, 104, 105, 106, 107, 108, 109, 110, 111, 112, 113, 114, 115, 116, 117, 118, 119, 120, 121, 122, 123, 124, 125, 126, 127, 128, 129, 130, 131] (by decide +kernel) (by decide +kernel)
set_option maxRecDepth 20000 in
theorem gX4_tryEnd_X4_tryRiders : GoodIn wsX4_tryEnd (wsV RX4 242 RX4 yX4_tryRiders wsX4_tryRiders) := goodIn_app (goodIn_of _ (by decide +kernel)) ggX4_tryEnd_X4_tryRiders
set_option maxRecDepth 20000 in
theorem ggX4_keepIfBetter_X0_lastEnd : GoodIn wsX4_keepIfBetter wsX0_lastEnd := goodIn_r _ [8, 9, 10, 29, 30, 31, 32, 33, 34, 35, 36] (by decide +kernel) (by decide +kernel)
set_option maxRecDepth 20000 in
theorem gX4_keepIfBetter_X0_lastEnd : GoodIn wsX4_keepIfBetter (wsV RX4 154 RX0 yX0_lastEnd wsX0_lastEnd) := goodIn_app (goodIn_of _ (by decide +kernel)) ggX4_keepIfBetter_X0_lastEnd
set_option maxRecDepth 20000 in
theorem ggX4_keepIfBetter_X0_take : GoodIn wsX4_keepIfBetter wsX0_take := goodIn_r _ [14, 15, 16, 17, 18, 10, 9, 29, 30, 31, 32, 33, 34, 35, 36] (by decide +kernel) (by decide +kernel)
set_option maxRecDepth 20000 in
theorem gX4_keepIfBetter_X0_take : GoodIn wsX4_keepIfBetter (wsV RX4 281 RX0 yX0_take wsX0_take) := goodIn_app (goodIn_of _ (by decide +kernel)) ggX4_keepIfBetter_X0_take
set_option maxRecDepth 20000 in
theorem ggX4_rideChosen_X4_riderAt : GoodIn wsX4_rideChosen wsX4_riderAt := goodIn_r _ [20, 21, 22, 56, 57, 58, 59, 60, 61, 62, 63, 64, 65] (by decide +kernel) (by decide +kernel)
set_option maxRecDepth 20000 in
theorem gX4_rideChosen_X4_riderAt : GoodIn wsX4_rideChosen (wsV RX4 55 RX4 yX4_riderAt wsX4_riderAt) := goodIn_app (goodIn_of _ (by decide +kernel)) ggX4_rideChosen_X4_riderAt
set_option maxRecDepth 20000 in
theorem ggX4_rideChosen_X1_init : GoodIn wsX4_rideChosen wsX1_init := goodIn_r _ [25, 26, 27, 28, 29, 30, 31, 32, 33, 34, 35, 36, 74, 75, 76, 77, 78, 79, 80, 81] (by decide +kernel) (by decide +kernel)
set_option maxRecDepth 20000 in
theorem gX4_rideChosen_X1_init : GoodIn wsX4_rideChosen (wsX1_init) := ggX4_rideChosen_X1_init
set_option maxRecDepth 20000 in
theorem ggX4_rideChosen_X2_addLeg : GoodIn wsX4_rideChosen wsX2_addLeg := goodIn_r _ [41, 42, 43, 93, 94, 95, 96, 97, 98, 99, 100, 101] (by decide +kernel) (by decide +kernel)
set_option maxRecDepth 20000 in
theorem gX4_rideChosen_X2_addLeg : GoodIn wsX4_rideChosen (wsV RX4 298 RX2 yX2_addLeg wsX2_addLeg) := goodIn_app (goodIn_of _ (by decide +kernel)) ggX4_rideChosen_X2_addLeg
set_option maxRecDepth 20000 in
theorem ggX4_rideChosen_X0_handsOn : GoodIn wsX4_rideChosen wsX0_handsOn := goodIn_r _ [48, 49, 50, 51, 52, 53, 47, 54, 55, 66, 67, 68, 69, 70, 71, 72, 73] (by decide +kernel) (by decide +kernel)
set_option maxRecDepth 20000 in
theorem gX4_rideChosen_X0_handsOn : GoodIn wsX4_rideChosen (wsV RX4 302 RX0 yX0_handsOn wsX0_handsOn) := goodIn_app (goodIn_of _ (by decide +kernel)) ggX4_rideChosen_X0_handsOn
set_option maxRecDepth 20000 in
theorem ggX4_mayFail_X2_legAt : GoodIn wsX4_mayFail wsX2_legAt := goodIn_r _ [9, 10, 11, 20, 21, 22, 23, 24, 25, 26, 27, 28] (by decide +kernel) (by decide +kernel)
set_option maxRecDepth 20000 in
theorem gX4_mayFail_X2_legAt : GoodIn wsX4_mayFail (wsV RX4 178 RX2 yX2_legAt wsX2_legAt) := goodIn_app (goodIn_of _ (by decide +kernel)) ggX4_mayFail_X2_legAt
set_option maxRecDepth 20000 in
theorem ggX4_dropLegsBehind_X2_legAt : GoodIn wsX4_dropLegsBehind wsX2_legAt := goodIn_r _ [15, 16, 17, 25, 26, 27, 28, 29, 30, 31, 32, 33] (by decide +kernel) (by decide +kernel)
set_option maxRecDepth 20000 in
theorem gX4_dropLegsBehind_X2_legAt : GoodIn wsX4_dropLegsBehind (wsV RX4 178 RX2 yX2_legAt wsX2_legAt) := goodIn_app (goodIn_of _ (by decide +kernel)) ggX4_dropLegsBehind_X2_legAt
set_option maxRecDepth 20000 in
theorem ggX4_dropLegsBehind_X4_riderAt : GoodIn wsX4_dropLegsBehind wsX4_riderAt := goodIn_r _ [22, 23, 24, 53, 54, 55, 56, 57, 58, 59, 60, 61, 62] (by decide +kernel) (by decide +kernel)
set_option maxRecDepth 20000 in
theorem gX4_dropLegsBehind_X4_riderAt : GoodIn wsX4_dropLegsBehind (wsV RX4 55 RX4 yX4_riderAt wsX4_riderAt) := goodIn_app (goodIn_of _ (by decide +kernel)) ggX4_dropLegsBehind_X4_riderAt
set_option maxRecDepth 20000 in
theorem ggX4_failLeg_X4_riderAt : GoodIn wsX4_failLeg wsX4_riderAt := goodIn_r _ [13, 14, 15, 35, 36, 37, 38, 39, 40, 41, 42, 43, 44] (by decide +kernel) (by decide +kernel)
set_option maxRecDepth 20000 in
theorem gX4_failLeg_X4_riderAt : GoodIn wsX4_failLeg (wsV RX4 55 RX4 yX4_riderAt wsX4_riderAt) := goodIn_app (goodIn_of _ (by decide +kernel)) ggX4_failLeg_X4_riderAt
set_option maxRecDepth 20000 in
theorem ggX5_isPlace_X5_in : GoodIn wsX5_isPlace wsX5_in := goodIn_r _ [5] (by decide +kernel) (by decide +kernel)
set_option maxRecDepth 20000 in
theorem gX5_isPlace_X5_in : GoodIn wsX5_isPlace (va_wsS RX5 108 yX5_in wsX5_in) := goodIn_app (goodIn_of _ (by decide +kernel)) ggX5_isPlace_X5_in
set_option maxRecDepth 20000 in
theorem ggX5_isRider_X5_in : GoodIn wsX5_isRider wsX5_in := goodIn_r _ [5] (by decide +kernel) (by decide +kernel)
set_option maxRecDepth 20000 in
theorem gX5_isRider_X5_in : GoodIn wsX5_isRider (va_wsS RX5 108 yX5_in wsX5_in) := goodIn_app (goodIn_of _ (by decide +kernel)) ggX5_isRider_X5_in
set_option maxRecDepth 20000 in
theorem ggX5_isCall_X5_in : GoodIn wsX5_isCall wsX5_in := goodIn_r _ [5] (by decide +kernel) (by decide +kernel)
set_option maxRecDepth 20000 in
theorem gX5_isCall_X5_in : GoodIn wsX5_isCall (va_wsS RX5 108 yX5_in wsX5_in) := goodIn_app (goodIn_of _ (by decide +kernel)) ggX5_isCall_X5_in
set_option maxRecDepth 20000 in
theorem ggX5_road_X5_isPlace : GoodIn wsX5_road wsX5_isPlace := goodIn_r _ [7, 8, 9, 10, 6, 11, 12, 13, 14, 15, 16, 17, 18, 19, 20, 21, 22, 23, 24, 25, 26, 27, 28, 29, 30, 31, 32, 33, 34, 35, 36, 37, 38, 39, 40, 41, 42, 43, 44, 45, 46] (by decide +kernel) (by decide +kernel)
set_option maxRecDepth 20000 in
theorem gX5_road_X5_isPlace : GoodIn wsX5_road (wsV RX5 118 RX5 yX5_isPlace wsX5_isPlace) := goodIn_app (goodIn_of _ (by decide +kernel)) ggX5_road_X5_isPlace
set_option maxRecDepth 20000 in
theorem ggX5_road_X5_in : GoodIn wsX5_road wsX5_in := goodIn_r _ [11] (by decide +kernel) (by decide +kernel)
set_option maxRecDepth 20000 in
theorem gX5_road_X5_in : GoodIn wsX5_road (va_wsS RX5 108 yX5_in wsX5_in) := goodIn_app (goodIn_of _ (by decide +kernel)) ggX5_road_X5_in
set_option maxRecDepth 20000 in
theorem ggX5_rider_X5_isPlace : GoodIn wsX5_rider wsX5_isPlace := goodIn_r _ [15, 2, 16, 17, 14, 18, 19, 20, 21, 22, 23, 24, 25, 26, 27, 28, 29, 30, 31, 32, 33, 34, 35, 36, 37, 38, 39, 40, 41, 42, 43, 44, 45, 46, 47, 48, 49, 50, 51, 52, 53] (by decide +kernel) (by decide +kernel)
set_option maxRecDepth 20000 in
theorem gX5_rider_X5_isPlace : GoodIn wsX5_rider (wsV RX5 118 RX5 yX5_isPlace wsX5_isPlace) := goodIn_app (goodIn_of _ (by decide +kernel)) ggX5_rider_X5_isPlace
set_option maxRecDepth 20000 in
theorem ggX5_rider_X5_in : GoodIn wsX5_rider wsX5_in := goodIn_r _ [18] (by decide +kernel) (by decide +kernel)
set_option maxRecDepth 20000 in
theorem gX5_rider_X5_in : GoodIn wsX5_rider (va_wsS RX5 108 yX5_in wsX5_in) := goodIn_app (goodIn_of _ (by decide +kernel)) ggX5_rider_X5_in
set_option maxRecDepth 20000 in
theorem ggX5_rest_X5_in : GoodIn wsX5_rest wsX5_in := goodIn_r _ [6] (by decide +kernel) (by decide +kernel)
set_option maxRecDepth 20000 in
theorem gX5_rest_X5_in : GoodIn wsX5_rest (va_wsS RX5 108 yX5_in wsX5_in) := goodIn_app (goodIn_of _ (by decide +kernel)) ggX5_rest_X5_in
set_option maxRecDepth 20000 in
theorem ggX5_way_X5_isRider : GoodIn wsX5_way wsX5_isRider := goodIn_r _ [7, 8, 9, 10, 6, 11, 24, 25, 26, 27, 28, 29, 30, 31, 32, 33, 34, 35, 36, 37, 38, 39, 40, 41, 42, 43, 44, 45, 46, 47, 48, 49, 50, 51, 52, 53, 54, 55, 56, 57, 58] (by decide +kernel) (by decide +kernel)
set_option maxRecDepth 20000 in
theorem gX5_way_X5_isRider : GoodIn wsX5_way (wsV RX5 123 RX5 yX5_isRider wsX5_isRider) := goodIn_app (goodIn_of _ (by decide +kernel)) ggX5_way_X5_isRider
set_option maxRecDepth 20000 in
theorem ggX5_way_X5_isPlace : GoodIn wsX5_way wsX5_isPlace := goodIn_r _ [15, 16, 9, 10, 6, 11, 24, 25, 26, 27, 28, 29, 30, 31, 32, 33, 34, 35, 36, 37, 38, 39, 40, 41, 42, 43, 44, 45, 46, 47, 48, 49, 50, 51, 52, 53, 54, 55, 56, 57, 58] (by decide +kernel) (by decide +kernel)
set_option maxRecDepth 20000 in
theorem gX5_way_X5_isPlace : GoodIn wsX5_way (wsV RX5 118 RX5 yX5_isPlace wsX5_isPlace) := goodIn_app (goodIn_of _ (by decide +kernel)) ggX5_way_X5_isPlace
set_option maxRecDepth 20000 in
theorem ggX5_way_X5_wayOf : GoodIn wsX5_way wsX5_wayOf := goodIn_r _ [20, 21, 2, 22, 16, 23, 24, 25, 26, 27, 28, 29, 30, 31, 32, 33, 34, 35, 36, 37, 38, 39, 40, 41, 42, 43, 44, 45, 46, 47, 48, 49, 50, 51, 52, 53, 54, 55, 56, 57, 58] (by decide +kernel) (by decide +kernel)
set_option maxRecDepth 20000 in
theorem gX5_way_X5_wayOf : GoodIn wsX5_way (wsV RX5 126 RX5 yX5_wayOf wsX5_wayOf) := goodIn_app (goodIn_of _ (by decide +kernel)) ggX5_way_X5_wayOf
set_option maxRecDepth 20000 in
theorem ggX5_count_X5_endOf : GoodIn wsX5_count wsX5_endOf := goodIn_r _ [12, 13, 14, 15, 16, 17, 18, 19, 20, 21, 22, 23, 24, 25, 26, 27, 28, 29, 30, 31, 32, 33, 34, 35, 36, 37, 38, 39, 40, 41, 42, 43, 44, 45, 46, 47, 48, 49] (by decide +kernel) (by decide +kernel)
set_option maxRecDepth 20000 in
theorem gX5_count_X5_endOf : GoodIn wsX5_count (wsV RX5 130 RX5 yX5_endOf wsX5_endOf) := goodIn_app (goodIn_of _ (by decide +kernel)) ggX5_count_X5_endOf
set_option maxRecDepth 20000 in
theorem ggX5_of_X5_isRider : GoodIn wsX5_of wsX5_isRider := goodIn_r _ [14, 15, 16, 17, 13, 18, 19, 20, 21, 22, 23, 24, 25, 26, 27, 28, 29, 30, 31, 32, 33, 34, 35, 36, 37, 38, 39, 40, 41, 42, 43, 44, 45, 46, 47, 48, 49, 50, 51, 52, 53] (by decide +kernel) (by decide +kernel)
set_option maxRecDepth 20000 in
theorem gX5_of_X5_isRider : GoodIn wsX5_of (wsV RX5 123 RX5 yX5_isRider wsX5_isRider) := goodIn_app (goodIn_of _ (by decide +kernel)) ggX5_of_X5_isRider
set_option maxRecDepth 20000 in
theorem ggX5_of_X5_in : GoodIn wsX5_of wsX5_in := goodIn_r _ [18] (by decide +kernel) (by decide +kernel)
set_option maxRecDepth 20000 in
theorem gX5_of_X5_in : GoodIn wsX5_of (va_wsS RX5 108 yX5_in wsX5_in) := goodIn_app (goodIn_of _ (by decide +kernel)) ggX5_of_X5_in
set_option maxRecDepth 20000 in
theorem ggX5_onDuty_X5_mayCarry : GoodIn wsX5_onDuty wsX5_mayCarry := goodIn_r _ [8, 9, 10, 14, 15, 16, 17, 18, 19, 20, 21, 22, 23, 24, 25, 26, 27, 28, 29, 30, 31, 32, 33, 34, 35, 36, 37, 38, 39, 40, 41, 42, 43, 44, 45, 46, 47, 48] (by decide +kernel) (by decide +kernel)
set_option maxRecDepth 20000 in
theorem gX5_onDuty_X5_mayCarry : GoodIn wsX5_onDuty (wsV RX5 134 RX5 yX5_mayCarry wsX5_mayCarry) := goodIn_app (goodIn_of _ (by decide +kernel)) ggX5_onDuty_X5_mayCarry
set_option maxRecDepth 20000 in
theorem ggX5_onDuty_X5_in : GoodIn wsX5_onDuty wsX5_in := goodIn_r _ [13] (by decide +kernel) (by decide +kernel)
set_option maxRecDepth 20000 in
theorem gX5_onDuty_X5_in : GoodIn wsX5_onDuty (va_wsS RX5 108 yX5_in wsX5_in) := goodIn_app (goodIn_of _ (by decide +kernel)) ggX5_onDuty_X5_in
set_option maxRecDepth 20000 in
theorem ggX5_duty_X5_in : GoodIn wsX5_duty wsX5_in := goodIn_r _ [5] (by decide +kernel) (by decide +kernel)
set_option maxRecDepth 20000 in
theorem gX5_duty_X5_in : GoodIn wsX5_duty (va_wsS RX5 108 yX5_in wsX5_in) := goodIn_app (goodIn_of _ (by decide +kernel)) ggX5_duty_X5_in
set_option maxRecDepth 20000 in
theorem ggX5_duty_X5_onDuty : GoodIn wsX5_duty wsX5_onDuty := goodIn_r _ [9, 10, 11, 12, 13, 14, 15, 4, 16, 17, 18, 2, 3, 5, 19, 20, 21, 22, 23, 24, 25, 26, 27, 28, 29, 30, 31, 32, 33, 34, 35, 36, 37, 38, 39, 40, 41, 42, 43, 44, 45, 46, 47, 48, 49, 50, 51, 52, 53] (by decide +kernel) (by decide +kernel)
set_option maxRecDepth 20000 in
theorem gX5_duty_X5_onDuty : GoodIn wsX5_duty (wsV RX5 138 RX5 yX5_onDuty wsX5_onDuty) := goodIn_app (goodIn_of _ (by decide +kernel)) ggX5_duty_X5_onDuty
set_option maxRecDepth 20000 in
theorem ggX5_bare_X5_in : GoodIn wsX5_bare wsX5_in := goodIn_r _ [5] (by decide +kernel) (by decide +kernel)
set_option maxRecDepth 20000 in
theorem gX5_bare_X5_in : GoodIn wsX5_bare (va_wsS RX5 108 yX5_in wsX5_in) := goodIn_app (goodIn_of _ (by decide +kernel)) ggX5_bare_X5_in
set_option maxRecDepth 20000 in
theorem ggX5_bare_X5_onDuty : GoodIn wsX5_bare wsX5_onDuty := goodIn_r _ [9, 10, 11, 12, 13, 14, 15, 4, 16, 17, 18, 2, 3, 5, 19, 20, 21, 22, 23, 24, 25, 26, 27, 28, 29, 30, 31, 32, 33, 34, 35, 36, 37, 38, 39, 40, 41, 42, 43, 44, 45, 46, 47, 48, 49, 50, 51, 52, 53] (by decide +kernel) (by decide +kernel)
set_option maxRecDepth 20000 in
theorem gX5_bare_X5_onDuty : GoodIn wsX5_bare (wsV RX5 138 RX5 yX5_onDuty wsX5_onDuty) := goodIn_app (goodIn_of _ (by decide +kernel)) ggX5_bare_X5_onDuty
set_option maxRecDepth 20000 in
theorem ggX5_tryLeg_X5_mayCarry : GoodIn wsX5_tryLeg wsX5_mayCarry := goodIn_r _ [25, 26, 27, 42, 43, 44, 45, 46, 47, 48, 49, 50, 51, 52, 53, 54, 55, 56, 57, 58, 59, 60, 61, 62, 63, 64, 65, 66, 67, 68, 69, 70, 71, 72, 73, 74, 75, 76] (by decide +kernel) (by decide +kernel)
set_option maxRecDepth 20000 in
theorem gX5_tryLeg_X5_mayCarry : GoodIn wsX5_tryLeg (wsV RX5 134 RX5 yX5_mayCarry wsX5_mayCarry) := goodIn_app (goodIn_of _ (by decide +kernel)) ggX5_tryLeg_X5_mayCarry
set_option maxRecDepth 20000 in
theorem ggX5_tryLeg_X5_wayOf : GoodIn wsX5_tryLeg wsX5_wayOf := goodIn_r _ [31, 32, 4, 33, 12, 34, 42, 43, 44, 45, 46, 47, 48, 49, 50, 51, 52, 53, 54, 55, 56, 57, 58, 59, 60, 61, 62, 63, 64, 65, 66, 67, 68, 69, 70, 71, 72, 73, 74, 75, 76] (by decide +kernel) (by decide +kernel)
set_option maxRecDepth 20000 in
theorem gX5_tryLeg_X5_wayOf : GoodIn wsX5_tryLeg (wsV RX5 126 RX5 yX5_wayOf wsX5_wayOf) := goodIn_app (goodIn_of _ (by decide +kernel)) ggX5_tryLeg_X5_wayOf
set_option maxRecDepth 20000 in
theorem ggX5_tryLeg_X5_tryLeg : GoodIn wsX5_tryLeg wsX5_tryLeg := goodIn_r _ [0, 1, 2, 3, 4, 5, 6, 7, 8, 9, 10, 11, 12, 13, 14, 15, 16, 17, 18, 19, 20, 21, 22, 23, 24, 25, 26, 27, 28, 29, 30, 31, 32, 33, 34, 35, 36, 37, 38, 39, 40, 41, 42, 43, 44, 45, 46, 47, 48, 49, 50, 51, 52, 53, 54, 55, 56, 57, 58, 59, 60, 61, 62, 63, 64, 65, 66, 67, 68, 69, 70, 71, 72, 73, 74, 75, 76] (by decide +kernel) (by decide +kernel)
set_option maxRecDepth 20000 in
theorem gX5_tryLeg_X5_tryLeg : GoodIn wsX5_tryLeg (wsV RX5 150 RX5 yX5_tryLeg wsX5_tryLeg) := goodIn_app (goodIn_of _ (by decide +kernel)) ggX5_tryLeg_X5_tryLeg
set_option maxRecDepth 20000 in
theorem ggX5_tryLeg_X5_isBetter : GoodIn wsX5_tryLeg wsX5_isBetter := goodIn_r _ [41, 16, 15, 20, 2, 17, 13, 18, 42, 43, 44, 45, 46, 47, 48, 49, 50, 51, 52, 53, 54, 55, 56, 57, 58, 59, 60, 61, 62, 63, 64, 65, 66, 67, 68, 69, 70, 71, 72, 73, 74, 75, 76] (by decide +kernel) (by decide +kernel)
set_option maxRecDepth 20000 in
theorem gX5_tryLeg_X5_isBetter : GoodIn wsX5_tryLeg (wsV RX5 154 RX5 yX5_isBetter wsX5_isBetter) := goodIn_app (goodIn_of _ (by decide +kernel)) ggX5_tryLeg_X5_isBetter
set_option maxRecDepth 20000 in
theorem ggX5_findBest_X5_tryLeg : GoodIn wsX5_findBest wsX5_tryLeg := goodIn_r _ [6, 7, 8, 9, 10, 11, 12, 13, 14, 15, 16, 17, 18, 19, 20, 21, 1, 22, 23, 24, 25, 26, 27, 28, 5, 29, 30, 31, 32, 33, 34, 35, 36, 37, 38, 2, 3, 4, 39, 40, 41, 42, 43, 44, 45, 46, 47, 48, 49, 50, 51, 52, 53, 54, 55, 56, 57, 58, 59, 60, 61, 62, 63, 64, 65, 66, 67, 68, 69, 70, 71, 72, 73, 74, 75, 76, 77] (by decide +kernel) (by decide +kernel)
set_option maxRecDepth 20000 in
theorem gX5_findBest_X5_tryLeg : GoodIn wsX5_findBest (wsV RX5 150 RX5 yX5_tryLeg wsX5_tryLeg) := goodIn_app (goodIn_of _ (by decide +kernel)) ggX5_findBest_X5_tryLeg
set_option maxRecDepth 20000 in
theorem ggX5_call_X5_in : GoodIn wsX5_call wsX5_in := goodIn_r _ [11] (by decide +kernel) (by decide +kernel)
set_option maxRecDepth 20000 in
theorem gX5_call_X5_in : GoodIn wsX5_call (va_wsS RX5 108 yX5_in wsX5_in) := goodIn_app (goodIn_of _ (by decide +kernel)) ggX5_call_X5_in
set_option maxRecDepth 20000 in
theorem ggX5_call_X5_isPlace : GoodIn wsX5_call wsX5_isPlace := goodIn_r _ [15, 16, 8, 9, 10, 11, 17, 18, 19, 20, 21, 22, 23, 24, 25, 26, 27, 28, 29, 30, 31, 32, 33, 34, 35, 36, 37, 38, 39, 40, 41, 42, 43, 44, 45, 46, 47, 48, 49, 50, 51] (by decide +kernel) (by decide +kernel)
set_option maxRecDepth 20000 in
theorem gX5_call_X5_isPlace : GoodIn wsX5_call (wsV RX5 118 RX5 yX5_isPlace wsX5_isPlace) := goodIn_app (goodIn_of _ (by decide +kernel)) ggX5_call_X5_isPlace
set_option maxRecDepth 20000 in
theorem ggX5_best_X5_isCall : GoodIn wsX5_best wsX5_isCall := goodIn_r _ [13, 14, 15, 16, 12, 17, 61, 62, 63, 64, 65, 66, 67, 68, 69, 70, 71, 72, 73, 74, 75, 76, 77, 78, 79, 80, 81, 82, 83, 84, 85, 86, 87, 88, 89, 90, 91, 92, 93, 94, 95] (by decide +kernel) (by decide +kernel)
set_option maxRecDepth 20000 in
theorem gX5_best_X5_isCall : GoodIn wsX5_best (wsV RX5 157 RX5 yX5_isCall wsX5_isCall) := goodIn_app (goodIn_of _ (by decide +kernel)) ggX5_best_X5_isCall
set_option maxRecDepth 20000 in
theorem ggX5_best_X5_findBest : GoodIn wsX5_best wsX5_findBest := goodIn_r _ [21, 8, 22, 23, 24, 12, 25, 26, 27, 28, 29, 30, 31, 32, 33, 34, 35, 36, 37, 38, 39, 40, 41, 42, 43, 7, 44, 45, 46, 47, 48, 49, 50, 51, 52, 53, 54, 55, 56, 57, 58, 59, 60, 61, 62, 63, 64, 65, 66, 67, 68, 69, 70, 71, 72, 73, 74, 75, 76, 77, 78, 79, 80, 81, 82, 83, 84, 85, 86, 87, 88, 89, 90, 91, 92, 93, 94, 95] (by decide +kernel) (by decide +kernel)
set_option maxRecDepth 20000 in
theorem gX5_best_X5_findBest : GoodIn wsX5_best (wsV RX5 160 RX5 yX5_findBest wsX5_findBest) := goodIn_app (goodIn_of _ (by decide +kernel)) ggX5_best_X5_findBest
set_option maxRecDepth 20000 in
theorem ggX5_send_X5_isCall : GoodIn wsX5_send wsX5_isCall := goodIn_r _ [12, 13, 14, 15, 11, 16, 75, 76, 77, 78, 79, 80, 81, 82, 83, 84, 85, 86, 87, 88, 89, 90, 91, 92, 93, 94, 95, 96, 97, 98, 99, 100, 101, 102, 103, 104, 105, 106, 107, 108, 109] (by decide +kernel) (by decide +kernel)
set_option maxRecDepth 20000 in
theorem gX5_send_X5_isCall : GoodIn wsX5_send (wsV RX5 157 RX5 yX5_isCall wsX5_isCall) := goodIn_app (goodIn_of _ (by decide +kernel)) ggX5_send_X5_isCall
set_option maxRecDepth 20000 in
theorem ggX5_send_X5_findBest : GoodIn wsX5_send wsX5_findBest := goodIn_r _ [20, 21, 22, 23, 24, 11, 25, 26, 27, 28, 29, 30, 31, 32, 33, 34, 35, 36, 37, 38, 39, 40, 41, 42, 43, 44, 45, 46, 47, 48, 49, 50, 51, 52, 53, 54, 55, 56, 57, 58, 59, 60, 61, 75, 76, 77, 78, 79, 80, 81, 82, 83, 84, 85, 86, 87, 88, 89, 90, 91, 92, 93, 94, 95, 96, 97, 98, 99, 100, 101, 102, 103, 104, 105, 106, 107, 108, 109] (by decide +kernel) (by decide +kernel)
set_option maxRecDepth 20000 in
theorem gX5_send_X5_findBest : GoodIn wsX5_send (wsV RX5 160 RX5 yX5_findBest wsX5_findBest) := goodIn_app (goodIn_of _ (by decide +kernel)) ggX5_send_X5_findBest
set_option maxRecDepth 20000 in
theorem ggX5_send_X5_ride : GoodIn wsX5_send wsX5_ride := goodIn_r _ [65, 21, 41, 66, 67, 42, 43, 44, 28, 30, 68, 69, 70, 75, 76, 77, 78, 79, 80, 81, 82, 83, 84, 85, 86, 87, 88, 89, 90, 91, 92, 93, 94, 95, 96, 97, 98, 99, 100, 101, 102, 103, 104, 105, 106, 107, 108, 109] (by decide +kernel) (by decide +kernel)
set_option maxRecDepth 20000 in
theorem gX5_send_X5_ride : GoodIn wsX5_send (wsV RX5 164 RX5 yX5_ride wsX5_ride) := goodIn_app (goodIn_of _ (by decide +kernel)) ggX5_send_X5_ride
set_option maxRecDepth 20000 in
theorem ggX5_send_X5_endOf : GoodIn wsX5_send wsX5_endOf := goodIn_r _ [74, 67, 66, 75, 76, 77, 78, 79, 80, 81, 82, 83, 84, 85, 86, 87, 88, 89, 90, 91, 92, 93, 94, 95, 96, 97, 98, 99, 100, 101, 102, 103, 104, 105, 106, 107, 108, 109] (by decide +kernel) (by decide +kernel)
set_option maxRecDepth 20000 in
theorem gX5_send_X5_endOf : GoodIn wsX5_send (wsV RX5 130 RX5 yX5_endOf wsX5_endOf) := goodIn_app (goodIn_of _ (by decide +kernel)) ggX5_send_X5_endOf
set_option maxRecDepth 20000 in
theorem ggX5_told_X5_isCall : GoodIn wsX5_told wsX5_isCall := goodIn_r _ [13, 14, 15, 16, 12, 17, 23, 24, 25, 26, 27, 28, 29, 30, 31, 32, 33, 34, 35, 36, 37, 38, 39, 40, 41, 42, 43, 44, 45, 46, 47, 48, 49, 50, 51, 52, 53, 54, 55, 56, 57] (by decide +kernel) (by decide +kernel)
set_option maxRecDepth 20000 in
theorem gX5_told_X5_isCall : GoodIn wsX5_told (wsV RX5 157 RX5 yX5_isCall wsX5_isCall) := goodIn_app (goodIn_of _ (by decide +kernel)) ggX5_told_X5_isCall
set_option maxRecDepth 20000 in
theorem ggX5_told_X5_endOf : GoodIn wsX5_told wsX5_endOf := goodIn_r _ [21, 22, 8, 23, 24, 25, 26, 27, 28, 29, 30, 31, 32, 33, 34, 35, 36, 37, 38, 39, 40, 41, 42, 43, 44, 45, 46, 47, 48, 49, 50, 51, 52, 53, 54, 55, 56, 57] (by decide +kernel) (by decide +kernel)
set_option maxRecDepth 20000 in
theorem gX5_told_X5_endOf : GoodIn wsX5_told (wsV RX5 130 RX5 yX5_endOf wsX5_endOf) := goodIn_app (goodIn_of _ (by decide +kernel)) ggX5_told_X5_endOf
set_option maxRecDepth 20000 in
theorem ggX5_leg_X5_isCall : GoodIn wsX5_leg wsX5_isCall := goodIn_r _ [8, 9, 10, 11, 7, 12, 13, 14, 15, 16, 17, 18, 19, 20, 21, 22, 23, 24, 25, 26, 27, 28, 29, 30, 31, 32, 33, 34, 35, 36, 37, 38, 39, 40, 41, 42, 43, 44, 45, 46, 47] (by decide +kernel) (by decide +kernel)
set_option maxRecDepth 20000 in
theorem gX5_leg_X5_isCall : GoodIn wsX5_leg (wsV RX5 157 RX5 yX5_isCall wsX5_isCall) := goodIn_app (goodIn_of _ (by decide +kernel)) ggX5_leg_X5_isCall
set_option maxRecDepth 20000 in
theorem ggX5_leg_X5_in : GoodIn wsX5_leg wsX5_in := goodIn_r _ [12] (by decide +kernel) (by decide +kernel)
set_option maxRecDepth 20000 in
theorem gX5_leg_X5_in : GoodIn wsX5_leg (va_wsS RX5 108 yX5_in wsX5_in) := goodIn_app (goodIn_of _ (by decide +kernel)) ggX5_leg_X5_in
set_option maxRecDepth 20000 in
theorem ggX5_hand_X5_isCall : GoodIn wsX5_hand wsX5_isCall := goodIn_r _ [9, 10, 11, 12, 8, 13, 18, 19, 20, 21, 22, 23, 24, 25, 26, 27, 28, 29, 30, 31, 32, 33, 34, 35, 36, 37, 38, 39, 40, 41, 42, 43, 44, 45, 46, 47, 48, 49, 50, 51, 52] (by decide +kernel) (by decide +kernel)
set_option maxRecDepth 20000 in
theorem gX5_hand_X5_isCall : GoodIn wsX5_hand (wsV RX5 157 RX5 yX5_isCall wsX5_isCall) := goodIn_app (goodIn_of _ (by decide +kernel)) ggX5_hand_X5_isCall
set_option maxRecDepth 20000 in
theorem ggX5_hand_X5_in : GoodIn wsX5_hand wsX5_in := goodIn_r _ [13] (by decide +kernel) (by decide +kernel)
set_option maxRecDepth 20000 in
theorem gX5_hand_X5_in : GoodIn wsX5_hand (va_wsS RX5 108 yX5_in wsX5_in) := goodIn_app (goodIn_of _ (by decide +kernel)) ggX5_hand_X5_in
set_option maxRecDepth 20000 in
theorem ggX5_hand_X5_endOf : GoodIn wsX5_hand wsX5_endOf := goodIn_r _ [17, 4, 3, 18, 19, 20, 21, 22, 23, 24, 25, 26, 27, 28, 29, 30, 31, 32, 33, 34, 35, 36, 37, 38, 39, 40, 41, 42, 43, 44, 45, 46, 47, 48, 49, 50, 51, 52] (by decide +kernel) (by decide +kernel)
set_option maxRecDepth 20000 in
theorem gX5_hand_X5_endOf : GoodIn wsX5_hand (wsV RX5 130 RX5 yX5_endOf wsX5_endOf) := goodIn_app (goodIn_of _ (by decide +kernel)) ggX5_hand_X5_endOf
set_option maxRecDepth 20000 in
theorem ggX5_fail_X5_isCall : GoodIn wsX5_fail wsX5_isCall := goodIn_r _ [17, 18, 19, 20, 16, 21, 73, 74, 75, 76, 77, 78, 79, 80, 81, 82, 83, 84, 85, 86, 87, 88, 89, 90, 91, 92, 93, 94, 95, 96, 97, 98, 99, 100, 101, 102, 103, 104, 105, 106, 107] (by decide +kernel) (by decide +kernel)
set_option maxRecDepth 20000 in
theorem gX5_fail_X5_isCall : GoodIn wsX5_fail (wsV RX5 157 RX5 yX5_isCall wsX5_isCall) := goodIn_app (goodIn_of _ (by decide +kernel)) ggX5_fail_X5_isCall
set_option maxRecDepth 20000 in
theorem ggX5_fail_X5_in : GoodIn wsX5_fail wsX5_in := goodIn_r _ [21] (by decide +kernel) (by decide +kernel)
set_option maxRecDepth 20000 in
theorem gX5_fail_X5_in : GoodIn wsX5_fail (va_wsS RX5 108 yX5_in wsX5_in) := goodIn_app (goodIn_of _ (by decide +kernel)) ggX5_fail_X5_in
set_option maxRecDepth 20000 in
theorem ggX5_fail_X5_findBest : GoodIn wsX5_fail wsX5_findBest := goodIn_r _ [25, 26, 27, 28, 29, 16, 30, 31, 32, 5, 33, 6, 34, 35, 36, 37, 38, 39, 40, 41, 42, 43, 44, 45, 46, 47, 48, 49, 50, 51, 9, 52, 53, 54, 55, 56, 57, 58, 59, 60, 61, 62, 63, 73, 74, 75, 76, 77, 78, 79, 80, 81, 82, 83, 84, 85, 86, 87, 88, 89, 90, 91, 92, 93, 94, 95, 96, 97, 98, 99, 100, 101, 102, 103, 104, 105, 106, 107] (by decide +kernel) (by decide +kernel)
set_option maxRecDepth 20000 in
theorem gX5_fail_X5_findBest : GoodIn wsX5_fail (wsV RX5 160 RX5 yX5_findBest wsX5_findBest) := goodIn_app (goodIn_of _ (by decide +kernel)) ggX5_fail_X5_findBest
set_option maxRecDepth 20000 in
theorem ggX5_fail_X5_ride : GoodIn wsX5_fail wsX5_ride := goodIn_r _ [67, 26, 44, 3, 4, 45, 46, 47, 5, 6, 68, 7, 8, 73, 74, 75, 76, 77, 78, 79, 80, 81, 82, 83, 84, 85, 86, 87, 88, 89, 90, 91, 92, 93, 94, 95, 96, 97, 98, 99, 100, 101, 102, 103, 104, 105, 106, 107] (by decide +kernel) (by decide +kernel)
set_option maxRecDepth 20000 in
theorem gX5_fail_X5_ride : GoodIn wsX5_fail (wsV RX5 164 RX5 yX5_ride wsX5_ride) := goodIn_app (goodIn_of _ (by decide +kernel)) ggX5_fail_X5_ride
set_option maxRecDepth 20000 in
theorem ggX5_fail_X5_endOf : GoodIn wsX5_fail wsX5_endOf := goodIn_r _ [72, 4, 3, 73, 74, 75, 76, 77, 78, 79, 80, 81, 82, 83, 84, 85, 86, 87, 88, 89, 90, 91, 92, 93, 94, 95, 96, 97, 98, 99, 100, 101, 102, 103, 104, 105, 106, 107] (by decide +kernel) (by decide +kernel)
set_option maxRecDepth 20000 in
theorem gX5_fail_X5_endOf : GoodIn wsX5_fail (wsV RX5 130 RX5 yX5_endOf wsX5_endOf) := goodIn_app (goodIn_of _ (by decide +kernel)) ggX5_fail_X5_endOf
set_option maxRecDepth 20000 in
theorem ggX5_next_X5_in : GoodIn wsX5_next wsX5_in := goodIn_r _ [16] (by decide +kernel) (by decide +kernel)
set_option maxRecDepth 20000 in
theorem gX5_next_X5_in : GoodIn wsX5_next (va_wsS RX5 108 yX5_in wsX5_in) := goodIn_app (goodIn_of _ (by decide +kernel)) ggX5_next_X5_in
set_option maxRecDepth 20000 in
theorem ggX5_next_X5_isPlace : GoodIn wsX5_next wsX5_isPlace := goodIn_r _ [20, 21, 13, 14, 15, 16, 35, 36, 37, 38, 39, 40, 41, 42, 43, 44, 45, 46, 47, 48, 49, 50, 51, 52, 53, 54, 55, 56, 57, 58, 59, 60, 61, 62, 63, 64, 65, 66, 67, 68, 69] (by decide +kernel) (by decide +kernel)
set_option maxRecDepth 20000 in
theorem gX5_next_X5_isPlace : GoodIn wsX5_next (wsV RX5 118 RX5 yX5_isPlace wsX5_isPlace) := goodIn_app (goodIn_of _ (by decide +kernel)) ggX5_next_X5_isPlace
set_option maxRecDepth 20000 in
theorem ggX5_next_X5_wayOf : GoodIn wsX5_next wsX5_wayOf := goodIn_r _ [25, 26, 4, 27, 21, 28, 35, 36, 37, 38, 39, 40, 41, 42, 43, 44, 45, 46, 47, 48, 49, 50, 51, 52, 53, 54, 55, 56, 57, 58, 59, 60, 61, 62, 63, 64, 65, 66, 67, 68, 69] (by decide +kernel) (by decide +kernel)
set_option maxRecDepth 20000 in
theorem gX5_next_X5_wayOf : GoodIn wsX5_next (wsV RX5 126 RX5 yX5_wayOf wsX5_wayOf) := goodIn_app (goodIn_of _ (by decide +kernel)) ggX5_next_X5_wayOf
set_option maxRecDepth 20000 in
theorem ggX5_next_X5_mayCarry : GoodIn wsX5_next wsX5_mayCarry := goodIn_r _ [32, 33, 34, 35, 36, 37, 38, 39, 40, 41, 42, 43, 44, 45, 46, 47, 48, 49, 50, 51, 52, 53, 54, 55, 56, 57, 58, 59, 60, 61, 62, 63, 64, 65, 66, 67, 68, 69] (by decide +kernel) (by decide +kernel)
set_option maxRecDepth 20000 in
theorem gX5_next_X5_mayCarry : GoodIn wsX5_next (wsV RX5 134 RX5 yX5_mayCarry wsX5_mayCarry) := goodIn_app (goodIn_of _ (by decide +kernel)) ggX5_next_X5_mayCarry
set_option maxRecDepth 20000 in
theorem ggL_of_X4_of : GoodIn wsL_of wsX4_of := goodIn_ca (goodIn_r _ [6, 7, 8, 9, 10, 11, 12, 13, 14, 15, 16, 17, 18, 19, 5, 20, 21, 22, 23, 24, 25, 26, 27, 28, 29, 30, 31, 32, 33, 34, 35, 36, 37, 38, 39, 40, 41, 42, 43] (by decide +kernel) (by decide +kernel)) (goodIn_sub (fun _ h => List.mem_cons_of_mem _ (List.mem_append_right _ h)) (by decide +kernel))
set_option maxRecDepth 20000 in
theorem gL_of_X4_of : GoodIn wsL_of (wsV RL 7 RX4 yX4_of wsX4_of) := goodIn_app (goodIn_of _ (by decide +kernel)) ggL_of_X4_of
set_option maxRecDepth 20000 in
theorem ggL_law_X4_init : GoodIn wsL_law wsX4_init := goodIn_r _ [9, 10, 11, 12, 13, 14, 15, 16, 17, 18, 19, 20, 21, 22, 23, 24, 25, 26, 27, 28, 29, 30, 31, 32, 33, 34, 35, 36, 37, 38, 39, 521, 522, 523, 524, 525, 526, 527, 528, 529, 530, 566, 567, 568, 569, 570, 571, 572, 573] (by decide +kernel) (by decide +kernel)
set_option maxRecDepth 20000 in
theorem gL_law_X4_init : GoodIn wsL_law (wsX4_init) := ggL_law_X4_init
set_option maxRecDepth 20000 in
theorem ggL_law_X5_init : GoodIn wsL_law wsX5_init := goodIn_r _ [42, 43, 11, 12, 13, 44, 45, 46, 47, 48, 49, 50, 51, 52, 53, 54, 55, 56, 57, 58, 59, 60, 61, 62, 63, 64, 65, 66, 67, 68, 69, 70, 71, 72, 73, 74, 531, 532, 533, 534, 535, 536, 537, 538, 539, 540, 541, 542, 543, 544, 545, 546, 547, 548, 549, 550, 551, 552, 553, 554, 555, 556, 557, 558, 559, 560, 561, 562, 563, 564, 565] (by decide +kernel) (by decide +kernel)
set_option maxRecDepth 20000 in
theorem gL_law_X5_init : GoodIn wsL_law (wsX5_init) := ggL_law_X5_init
set_option maxRecDepth 20000 in
theorem ggL_law_X4_place : GoodIn wsL_law wsX4_place := goodIn_r _ [78, 24, 521, 522, 523, 524, 525, 526, 527, 528, 529, 530] (by decide +kernel) (by decide +kernel)
set_option maxRecDepth 20000 in
theorem gL_law_X4_place : GoodIn wsL_law (wsV RL 19 RX4 yX4_place wsX4_place) := goodIn_app (goodIn_of _ (by decide +kernel)) ggL_law_X4_place
set_option maxRecDepth 20000 in
theorem ggL_law_X5_place : GoodIn wsL_law wsX5_place := goodIn_r _ [82, 83, 84, 531, 532, 533, 534, 535, 536, 537, 538, 539, 540, 541, 542, 543, 544, 545, 546, 547, 548, 549, 550, 551, 552, 553, 554, 555, 556, 557, 558, 559, 560, 561, 562, 563, 564, 565] (by decide +kernel) (by decide +kernel)
set_option maxRecDepth 20000 in
theorem gL_law_X5_place : GoodIn wsL_law (wsV RL 23 RX5 yX5_place wsX5_place) := goodIn_app (goodIn_of _ (by decide +kernel)) ggL_law_X5_place
set_option maxRecDepth 20000 in
theorem ggL_law_X4_road : GoodIn wsL_law wsX4_road := goodIn_r _ [88, 14, 25, 89, 90, 91, 2, 92, 24, 93, 94, 95, 96, 16, 97, 98, 99, 100, 101, 102, 103, 104, 105, 106, 107, 108, 109, 110, 111, 112, 113, 114, 115, 521, 522, 523, 524, 525, 526, 527, 528, 529, 530, 574, 575, 576, 577, 578, 579, 580, 581, 582, 583, 584] (by decide +kernel) (by decide +kernel)
set_option maxRecDepth 20000 in
theorem gL_law_X4_road : GoodIn wsL_law (wsV RL 24 RX4 yX4_road wsX4_road) := goodIn_app (goodIn_of _ (by decide +kernel)) ggL_law_X4_road
set_option maxRecDepth 20000 in
theorem ggL_law_X5_road : GoodIn wsL_law wsX5_road := goodIn_r _ [119, 83, 44, 120, 121, 122, 5, 123, 84, 124, 125, 126, 531, 532, 533, 534, 535, 536, 537, 538, 539, 540, 541, 542, 543, 544, 545, 546, 547, 548, 549, 550, 551, 552, 553, 554, 555, 556, 557, 558, 559, 560, 561, 562, 563, 564, 565] (by decide +kernel) (by decide +kernel)
set_option maxRecDepth 20000 in
theorem gL_law_X5_road : GoodIn wsL_law (wsV RL 28 RX5 yX5_road wsX5_road) := goodIn_app (goodIn_of _ (by decide +kernel)) ggL_law_X5_road
set_option maxRecDepth 20000 in
theorem ggL_law_X4_rider : GoodIn wsL_law wsX4_rider := goodIn_r _ [130, 25, 24, 15, 131, 113, 16, 89, 90, 91, 2, 92, 132, 133, 134, 107, 108, 109, 135, 136, 137, 138, 139, 140, 141, 11, 12, 13, 115, 142, 143, 144, 145, 146, 147, 148, 149, 150, 151, 97, 98, 99, 100, 101, 102, 103, 104, 105, 106, 14, 110, 111, 112, 114, 521, 522, 523, 524, 525, 526, 527, 528, 529, 530, 574, 575, 576, 577, 578, 579, 580, 581, 582, 583, 584] (by decide +kernel) (by decide +kernel)
set_option maxRecDepth 20000 in
theorem gL_law_X4_rider : GoodIn wsL_law (wsV RL 29 RX4 yX4_rider wsX4_rider) := goodIn_app (goodIn_of _ (by decide +kernel)) ggL_law_X4_rider
set_option maxRecDepth 20000 in
theorem ggL_law_X5_rider : GoodIn wsL_law wsX5_rider := goodIn_r _ [155, 83, 84, 156, 45, 46, 47, 48, 49, 50, 51, 120, 121, 122, 5, 123, 124, 125, 126, 531, 532, 533, 534, 535, 536, 537, 538, 539, 540, 541, 542, 543, 544, 545, 546, 547, 548, 549, 550, 551, 552, 553, 554, 555, 556, 557, 558, 559, 560, 561, 562, 563, 564, 565] (by decide +kernel) (by decide +kernel)
set_option maxRecDepth 20000 in
theorem gL_law_X5_rider : GoodIn wsL_law (wsV RL 33 RX5 yX5_rider wsX5_rider) := goodIn_app (goodIn_of _ (by decide +kernel)) ggL_law_X5_rider
set_option maxRecDepth 20000 in
theorem ggL_law_X4_rest : GoodIn wsL_law wsX4_rest := goodIn_r _ [160, 27, 521, 522, 523, 524, 525, 526, 527, 528, 529, 530] (by decide +kernel) (by decide +kernel)
set_option maxRecDepth 20000 in
theorem gL_law_X4_rest : GoodIn wsL_law (wsV RL 34 RX4 yX4_rest wsX4_rest) := goodIn_app (goodIn_of _ (by decide +kernel)) ggL_law_X4_rest
set_option maxRecDepth 20000 in
theorem ggL_law_X5_rest : GoodIn wsL_law wsX5_rest := goodIn_r _ [164, 83, 56, 124, 125, 5, 126, 531, 532, 533, 534, 535, 536, 537, 538, 539, 540, 541, 542, 543, 544, 545, 546, 547, 548, 549, 550, 551, 552, 553, 554, 555, 556, 557, 558, 559, 560, 561, 562, 563, 564, 565] (by decide +kernel) (by decide +kernel)
set_option maxRecDepth 20000 in
theorem gL_law_X5_rest : GoodIn wsL_law (wsV RL 38 RX5 yX5_rest wsX5_rest) := goodIn_app (goodIn_of _ (by decide +kernel)) ggL_law_X5_rest
set_option maxRecDepth 20000 in
theorem ggL_law_X4_count : GoodIn wsL_law wsX4_count := goodIn_r _ [168, 24, 25, 26, 169, 170, 171, 2, 172, 173, 174, 175, 176, 18, 177, 178, 179, 180, 181, 182, 183, 184, 185, 186, 187, 188, 189, 190, 191, 192, 193, 194, 195, 196, 197, 198, 199, 200, 201, 521, 522, 523, 524, 525, 526, 527, 528, 529, 530, 585, 586, 587, 588, 589, 590, 591, 592, 593, 594, 595, 596, 597, 598, 599, 600, 601] (by decide +kernel) (by decide +kernel)
set_option maxRecDepth 20000 in
theorem gL_law_X4_count : GoodIn wsL_law (wsV RL 39 RX4 yX4_count wsX4_count) := goodIn_app (goodIn_of _ (by decide +kernel)) ggL_law_X4_count
set_option maxRecDepth 20000 in
theorem ggL_law_X5_count : GoodIn wsL_law wsX5_count := goodIn_r _ [205, 83, 84, 156, 206, 62, 60, 61, 207, 208, 209, 5, 210, 64, 65, 531, 532, 533, 534, 535, 536, 537, 538, 539, 540, 541, 542, 543, 544, 545, 546, 547, 548, 549, 550, 551, 552, 553, 554, 555, 556, 557, 558, 559, 560, 561, 562, 563, 564, 565] (by decide +kernel) (by decide +kernel)
set_option maxRecDepth 20000 in
theorem gL_law_X5_count : GoodIn wsL_law (wsV RL 42 RX5 yX5_count wsX5_count) := goodIn_app (goodIn_of _ (by decide +kernel)) ggL_law_X5_count
set_option maxRecDepth 20000 in
theorem ggL_law_X4_way : GoodIn wsL_law wsX4_way := goodIn_r _ [214, 93, 94, 95, 2, 96, 25, 16, 215, 216, 217, 218, 101, 89, 90, 91, 92, 24, 521, 522, 523, 524, 525, 526, 527, 528, 529, 530, 574, 575, 576, 577, 578, 579, 580, 581, 582, 583, 584] (by decide +kernel) (by decide +kernel)
set_option maxRecDepth 20000 in
theorem gL_law_X4_way : GoodIn wsL_law (wsV RL 43 RX4 yX4_way wsX4_way) := goodIn_app (goodIn_of _ (by decide +kernel)) ggL_law_X4_way
set_option maxRecDepth 20000 in
theorem ggL_law_X5_way : GoodIn wsL_law wsX5_way := goodIn_r _ [222, 83, 223, 224, 225, 226, 5, 227, 156, 124, 125, 126, 120, 121, 122, 123, 84, 228, 229, 230, 231, 46, 66, 44, 531, 532, 533, 534, 535, 536, 537, 538, 539, 540, 541, 542, 543, 544, 545, 546, 547, 548, 549, 550, 551, 552, 553, 554, 555, 556, 557, 558, 559, 560, 561, 562, 563, 564, 565] (by decide +kernel) (by decide +kernel)
set_option maxRecDepth 20000 in
theorem gL_law_X5_way : GoodIn wsL_law (wsV RL 47 RX5 yX5_way wsX5_way) := goodIn_app (goodIn_of _ (by decide +kernel)) ggL_law_X5_way
set_option maxRecDepth 20000 in
theorem ggL_law_L_of : GoodIn wsL_law wsL_of := goodIn_ca (goodIn_r _ [235, 236, 237, 238, 239, 2, 240, 241, 242, 243, 244, 245, 246, 247, 248, 102, 249, 93, 94, 95, 96, 25, 16, 574, 575, 576, 577, 578, 579, 580, 581, 582, 583, 584, 521, 522, 523, 524, 525, 526, 527, 528, 529, 530] (by decide +kernel) (by decide +kernel)) (goodIn_sub (fun _ h => List.mem_append_right _ h) (by decide +kernel))
set_option maxRecDepth 20000 in
theorem gL_law_L_of : GoodIn wsL_law (va_wsS RL 48 yL_of wsL_of) := goodIn_app (goodIn_of _ (by decide +kernel)) ggL_law_L_of
set_option maxRecDepth 20000 in
theorem ggL_law_X5_of : GoodIn wsL_law wsX5_of := goodIn_r _ [253, 83, 45, 50, 53, 51, 54, 55, 46, 49, 224, 225, 226, 5, 227, 156, 124, 125, 126, 531, 532, 533, 534, 535, 536, 537, 538, 539, 540, 541, 542, 543, 544, 545, 546, 547, 548, 549, 550, 551, 552, 553, 554, 555, 556, 557, 558, 559, 560, 561, 562, 563, 564, 565] (by decide +kernel) (by decide +kernel)
set_option maxRecDepth 20000 in
theorem gL_law_X5_of : GoodIn wsL_law (wsV RL 53 RX5 yX5_of wsX5_of) := goodIn_app (goodIn_of _ (by decide +kernel)) ggL_law_X5_of
set_option maxRecDepth 20000 in
theorem ggL_law_X5_thrown : GoodIn wsL_law wsX5_thrown := goodIn_r _ [257, 83, 531, 532, 533, 534, 535, 536, 537, 538, 539, 540, 541, 542, 543, 544, 545, 546, 547, 548, 549, 550, 551, 552, 553, 554, 555, 556, 557, 558, 559, 560, 561, 562, 563, 564, 565] (by decide +kernel) (by decide +kernel)
set_option maxRecDepth 20000 in
theorem gL_law_X5_thrown : GoodIn wsL_law (wsV RL 54 RX5 yX5_thrown wsX5_thrown) := goodIn_app (goodIn_of _ (by decide +kernel)) ggL_law_X5_thrown
set_option maxRecDepth 20000 in
theorem ggL_law_X4_duty : GoodIn wsL_law wsX4_duty := goodIn_r _ [261, 25, 135, 136, 2, 137, 262, 263, 264, 93, 94, 95, 96, 16, 265, 266, 267, 113, 268, 144, 149, 108, 109, 269, 270, 271, 272, 147, 148, 521, 522, 523, 524, 525, 526, 527, 528, 529, 530, 574, 575, 576, 577, 578, 579, 580, 581, 582, 583, 584] (by decide +kernel) (by decide +kernel)
set_option maxRecDepth 20000 in
theorem gL_law_X4_duty : GoodIn wsL_law (wsV RL 57 RX4 yX4_duty wsX4_duty) := goodIn_app (goodIn_of _ (by decide +kernel)) ggL_law_X4_duty
set_option maxRecDepth 20000 in
theorem ggL_law_X5_duty : GoodIn wsL_law wsX5_duty := goodIn_r _ [276, 83, 124, 125, 5, 126, 277, 278, 279, 280, 156, 47, 48, 281, 282, 283, 284, 53, 49, 531, 532, 533, 534, 535, 536, 537, 538, 539, 540, 541, 542, 543, 544, 545, 546, 547, 548, 549, 550, 551, 552, 553, 554, 555, 556, 557, 558, 559, 560, 561, 562, 563, 564, 565] (by decide +kernel) (by decide +kernel)
set_option maxRecDepth 20000 in
theorem gL_law_X5_duty : GoodIn wsL_law (wsV RL 60 RX5 yX5_duty wsX5_duty) := goodIn_app (goodIn_of _ (by decide +kernel)) ggL_law_X5_duty
set_option maxRecDepth 20000 in
theorem ggL_law_X4_bare : GoodIn wsL_law wsX4_bare := goodIn_r _ [288, 289, 290, 291, 292, 135, 136, 2, 137, 262, 263, 264, 293, 294, 295, 296, 25, 297, 93, 94, 95, 96, 16, 265, 266, 267, 113, 268, 144, 149, 108, 109, 269, 270, 271, 272, 147, 148, 521, 522, 523, 524, 525, 526, 527, 528, 529, 530, 574, 575, 576, 577, 578, 579, 580, 581, 582, 583, 584] (by decide +kernel) (by decide +kernel)
set_option maxRecDepth 20000 in
theorem gL_law_X4_bare : GoodIn wsL_law (wsV RL 61 RX4 yX4_bare wsX4_bare) := goodIn_app (goodIn_of _ (by decide +kernel)) ggL_law_X4_bare
set_option maxRecDepth 20000 in
theorem ggL_law_X5_bare : GoodIn wsL_law wsX5_bare := goodIn_r _ [301, 83, 124, 125, 5, 126, 277, 278, 279, 280, 156, 47, 48, 281, 282, 283, 284, 53, 49, 531, 532, 533, 534, 535, 536, 537, 538, 539, 540, 541, 542, 543, 544, 545, 546, 547, 548, 549, 550, 551, 552, 553, 554, 555, 556, 557, 558, 559, 560, 561, 562, 563, 564, 565] (by decide +kernel) (by decide +kernel)
set_option maxRecDepth 20000 in
theorem gL_law_X5_bare : GoodIn wsL_law (wsV RL 64 RX5 yX5_bare wsX5_bare) := goodIn_app (goodIn_of _ (by decide +kernel)) ggL_law_X5_bare
set_option maxRecDepth 20000 in
theorem ggL_law_X4_call : GoodIn wsL_law wsX4_call := goodIn_r _ [305, 26, 18, 17, 306, 185, 262, 263, 2, 264, 89, 90, 91, 92, 24, 135, 136, 137, 307, 308, 309, 310, 11, 12, 311, 201, 195, 187, 188, 312, 313, 314, 189, 190, 521, 522, 523, 524, 525, 526, 527, 528, 529, 530, 585, 586, 587, 588, 589, 590, 591, 592, 593] (by decide +kernel) (by decide +kernel)
set_option maxRecDepth 20000 in
theorem gL_law_X4_call : GoodIn wsL_law (wsV RL 65 RX4 yX4_call wsX4_call) := goodIn_app (goodIn_of _ (by decide +kernel)) ggL_law_X4_call
set_option maxRecDepth 20000 in
theorem ggL_law_X5_call : GoodIn wsL_law wsX5_call := goodIn_r _ [318, 83, 206, 57, 58, 59, 60, 61, 124, 125, 5, 126, 120, 121, 122, 123, 84, 531, 532, 533, 534, 535, 536, 537, 538, 539, 540, 541, 542, 543, 544, 545, 546, 547, 548, 549, 550, 551, 552, 553, 554, 555, 556, 557, 558, 559, 560, 561, 562, 563, 564, 565] (by decide +kernel) (by decide +kernel)
set_option maxRecDepth 20000 in
theorem gL_law_X5_call : GoodIn wsL_law (wsV RL 68 RX5 yX5_call wsX5_call) := goodIn_app (goodIn_of _ (by decide +kernel)) ggL_law_X5_call
set_option maxRecDepth 20000 in
theorem ggL_law_X4_best : GoodIn wsL_law wsX4_best := goodIn_r _ [322, 180, 323, 324, 23, 173, 174, 175, 2, 176, 26, 18, 325, 326, 327, 328, 22, 329, 330, 331, 332, 333, 334, 335, 336, 337, 25, 289, 290, 291, 292, 93, 94, 95, 96, 16, 265, 266, 267, 113, 268, 144, 149, 108, 109, 338, 339, 340, 21, 341, 32, 342, 343, 344, 345, 244, 246, 346, 215, 216, 217, 218, 101, 89, 90, 91, 92, 24, 347, 348, 349, 350, 351, 352, 353, 354, 37, 36, 355, 356, 357, 358, 359, 297, 360, 361, 362, 363, 33, 35, 364, 365, 366, 367, 368, 369, 370, 371, 372, 373, 374, 375, 376, 377, 378, 379, 34, 380, 381, 382, 383, 384, 385, 386, 387, 388, 389, 390, 391, 585, 586, 587, 588, 589, 590, 591, 592, 593, 521, 522, 523, 524, 525, 526, 527, 528, 529, 530, 566, 567, 568, 569, 570, 571, 572, 573, 574, 575, 576, 577, 578, 579, 580, 581, 582, 583, 584] (by decide +kernel) (by decide +kernel)
set_option maxRecDepth 20000 in
theorem gL_law_X4_best : GoodIn wsL_law (wsV RL 69 RX4 yX4_best wsX4_best) := goodIn_app (goodIn_of _ (by decide +kernel)) ggL_law_X4_best
set_option maxRecDepth 20000 in
theorem ggL_law_X5_best : GoodIn wsL_law wsX5_best := goodIn_r _ [395, 83, 62, 57, 58, 60, 59, 74, 396, 397, 398, 399, 5, 400, 206, 124, 125, 126, 401, 402, 403, 404, 405, 406, 407, 408, 156, 67, 50, 223, 51, 47, 409, 290, 291, 292, 48, 84, 68, 69, 70, 71, 72, 73, 281, 282, 283, 284, 53, 49, 228, 229, 230, 231, 46, 66, 44, 410, 411, 412, 413, 531, 532, 533, 534, 535, 536, 537, 538, 539, 540, 541, 542, 543, 544, 545, 546, 547, 548, 549, 550, 551, 552, 553, 554, 555, 556, 557, 558, 559, 560, 561, 562, 563, 564, 565] (by decide +kernel) (by decide +kernel)
set_option maxRecDepth 20000 in
theorem gL_law_X5_best : GoodIn wsL_law (wsV RL 72 RX5 yX5_best wsX5_best) := goodIn_app (goodIn_of _ (by decide +kernel)) ggL_law_X5_best
set_option maxRecDepth 20000 in
theorem ggL_law_X4_send : GoodIn wsL_law wsX4_send := goodIn_r _ [417, 180, 323, 324, 28, 173, 174, 175, 2, 176, 26, 18, 325, 326, 327, 328, 22, 329, 330, 331, 332, 23, 333, 334, 335, 336, 337, 25, 289, 290, 291, 292, 93, 94, 95, 96, 16, 265, 266, 267, 113, 268, 144, 149, 108, 109, 338, 339, 340, 21, 341, 32, 342, 343, 344, 345, 244, 246, 346, 215, 216, 217, 218, 101, 89, 90, 91, 92, 24, 347, 348, 349, 350, 351, 352, 353, 354, 37, 36, 355, 356, 357, 358, 359, 297, 360, 361, 362, 363, 33, 35, 364, 365, 366, 367, 368, 369, 370, 371, 372, 373, 374, 375, 376, 377, 378, 379, 34, 380, 381, 382, 383, 384, 385, 386, 387, 388, 389, 390, 391, 418, 419, 420, 421, 422, 423, 424, 425, 426, 427, 428, 27, 247, 248, 429, 430, 431, 432, 11, 12, 433, 434, 435, 436, 437, 438, 439, 440, 441, 442, 443, 185, 444, 195, 201, 445, 446, 447, 448, 449, 450, 192, 193, 194, 196, 197, 198, 199, 200, 585, 586, 587, 588, 589, 590, 591, 592, 593, 521, 522, 523, 524, 525, 526, 527, 528, 529, 530, 566, 567, 568, 569, 570, 571, 572, 573, 574, 575, 576, 577, 578, 579, 580, 581, 582, 583, 584, 594, 595, 596, 597, 598, 599, 600, 601] (by decide +kernel) (by decide +kernel)
set_option maxRecDepth 20000 in
theorem gL_law_X4_send : GoodIn wsL_law (wsV RL 73 RX4 yX4_send wsX4_send) := goodIn_app (goodIn_of _ (by decide +kernel)) ggL_law_X4_send
set_option maxRecDepth 20000 in
theorem ggL_law_X5_send : GoodIn wsL_law wsX5_send := goodIn_r _ [454, 83, 62, 57, 58, 60, 59, 63, 397, 398, 399, 5, 400, 206, 124, 125, 126, 401, 402, 403, 404, 396, 405, 406, 407, 408, 156, 67, 50, 223, 51, 47, 409, 290, 291, 292, 48, 84, 68, 69, 70, 71, 72, 73, 74, 281, 282, 283, 284, 53, 49, 228, 229, 230, 231, 46, 66, 44, 410, 411, 412, 413, 455, 456, 457, 458, 65, 64, 56, 54, 55, 207, 208, 209, 210, 531, 532, 533, 534, 535, 536, 537, 538, 539, 540, 541, 542, 543, 544, 545, 546, 547, 548, 549, 550, 551, 552, 553, 554, 555, 556, 557, 558, 559, 560, 561, 562, 563, 564, 565] (by decide +kernel) (by decide +kernel)
set_option maxRecDepth 20000 in
theorem gL_law_X5_send : GoodIn wsL_law (wsV RL 76 RX5 yX5_send wsX5_send) := goodIn_app (goodIn_of _ (by decide +kernel)) ggL_law_X5_send
set_option maxRecDepth 20000 in
theorem ggL_law_X4_told : GoodIn wsL_law wsX4_told := goodIn_r _ [462, 329, 323, 331, 324, 463, 181, 180, 464, 173, 174, 175, 2, 176, 26, 18, 450, 192, 193, 185, 194, 195, 196, 197, 198, 199, 200, 201, 585, 586, 587, 588, 589, 590, 591, 592, 593, 521, 522, 523, 524, 525, 526, 527, 528, 529, 530, 594, 595, 596, 597, 598, 599, 600, 601] (by decide +kernel) (by decide +kernel)
set_option maxRecDepth 20000 in
theorem gL_law_X4_told : GoodIn wsL_law (wsV RL 77 RX4 yX4_told wsX4_told) := goodIn_app (goodIn_of _ (by decide +kernel)) ggL_law_X4_told
set_option maxRecDepth 20000 in
theorem ggL_law_X5_told : GoodIn wsL_law wsX5_told := goodIn_r _ [468, 83, 57, 58, 59, 60, 61, 62, 65, 397, 398, 399, 5, 400, 206, 124, 125, 126, 207, 208, 209, 210, 64, 531, 532, 533, 534, 535, 536, 537, 538, 539, 540, 541, 542, 543, 544, 545, 546, 547, 548, 549, 550, 551, 552, 553, 554, 555, 556, 557, 558, 559, 560, 561, 562, 563, 564, 565] (by decide +kernel) (by decide +kernel)
set_option maxRecDepth 20000 in
theorem gL_law_X5_told : GoodIn wsL_law (wsV RL 80 RX5 yX5_told wsX5_told) := goodIn_app (goodIn_of _ (by decide +kernel)) ggL_law_X5_told
set_option maxRecDepth 20000 in
theorem ggL_law_X4_leg : GoodIn wsL_law wsX4_leg := goodIn_r _ [472, 473, 474, 475, 476, 477, 478, 173, 174, 175, 2, 176, 26, 18, 479, 198, 199, 185, 200, 195, 201, 594, 595, 596, 597, 598, 599, 600, 601, 521, 522, 523, 524, 525, 526, 527, 528, 529, 530, 585, 586, 587, 588, 589, 590, 591, 592, 593] (by decide +kernel) (by decide +kernel)
set_option maxRecDepth 20000 in
theorem gL_law_X4_leg : GoodIn wsL_law (wsV RL 81 RX4 yX4_leg wsX4_leg) := goodIn_app (goodIn_of _ (by decide +kernel)) ggL_law_X4_leg
set_option maxRecDepth 20000 in
theorem ggL_law_X5_leg : GoodIn wsL_law wsX5_leg := goodIn_r _ [483, 83, 65, 64, 397, 398, 399, 5, 400, 206, 124, 125, 126, 531, 532, 533, 534, 535, 536, 537, 538, 539, 540, 541, 542, 543, 544, 545, 546, 547, 548, 549, 550, 551, 552, 553, 554, 555, 556, 557, 558, 559, 560, 561, 562, 563, 564, 565] (by decide +kernel) (by decide +kernel)
set_option maxRecDepth 20000 in
theorem gL_law_X5_leg : GoodIn wsL_law (wsV RL 84 RX5 yX5_leg wsX5_leg) := goodIn_app (goodIn_of _ (by decide +kernel)) ggL_law_X5_leg
set_option maxRecDepth 20000 in
theorem ggL_law_X4_hand : GoodIn wsL_law wsX4_hand := goodIn_r _ [487, 180, 464, 476, 473, 173, 174, 175, 2, 176, 26, 18, 135, 136, 137, 450, 192, 193, 185, 194, 195, 196, 197, 198, 199, 200, 201, 479, 585, 586, 587, 588, 589, 590, 591, 592, 593, 594, 595, 596, 597, 598, 599, 600, 601, 521, 522, 523, 524, 525, 526, 527, 528, 529, 530] (by decide +kernel) (by decide +kernel)
set_option maxRecDepth 20000 in
theorem gL_law_X4_hand : GoodIn wsL_law (wsV RL 85 RX4 yX4_hand wsX4_hand) := goodIn_app (goodIn_of _ (by decide +kernel)) ggL_law_X4_hand
set_option maxRecDepth 20000 in
theorem ggL_law_X5_hand : GoodIn wsL_law wsX5_hand := goodIn_r _ [491, 83, 62, 65, 64, 397, 398, 399, 5, 400, 206, 124, 125, 126, 207, 208, 209, 210, 531, 532, 533, 534, 535, 536, 537, 538, 539, 540, 541, 542, 543, 544, 545, 546, 547, 548, 549, 550, 551, 552, 553, 554, 555, 556, 557, 558, 559, 560, 561, 562, 563, 564, 565] (by decide +kernel) (by decide +kernel)
set_option maxRecDepth 20000 in
theorem gL_law_X5_hand : GoodIn wsL_law (wsV RL 88 RX5 yX5_hand wsX5_hand) := goodIn_app (goodIn_of _ (by decide +kernel)) ggL_law_X5_hand
set_option maxRecDepth 20000 in
theorem ggL_law_X4_fail : GoodIn wsL_law wsX4_fail := goodIn_r _ [495, 28, 474, 181, 173, 174, 175, 2, 176, 26, 18, 496, 497, 498, 476, 477, 464, 478, 479, 198, 199, 185, 200, 195, 201, 499, 500, 501, 502, 473, 503, 244, 504, 246, 247, 248, 93, 94, 95, 96, 25, 16, 505, 506, 507, 508, 245, 475, 325, 326, 327, 328, 22, 329, 330, 331, 332, 23, 333, 334, 335, 336, 337, 289, 290, 291, 292, 265, 266, 267, 113, 268, 144, 149, 108, 109, 338, 339, 340, 21, 341, 32, 342, 343, 344, 345, 346, 215, 216, 217, 218, 101, 89, 90, 91, 92, 24, 347, 348, 349, 350, 351, 352, 353, 354, 37, 36, 355, 356, 357, 358, 359, 297, 360, 361, 362, 363, 33, 35, 364, 365, 366, 367, 368, 369, 370, 371, 372, 373, 374, 375, 376, 377, 378, 379, 34, 380, 381, 382, 383, 384, 385, 386, 387, 388, 389, 390, 391, 418, 419, 420, 421, 422, 423, 424, 425, 426, 427, 428, 27, 429, 430, 431, 432, 11, 12, 433, 434, 435, 436, 437, 438, 439, 440, 441, 442, 443, 444, 445, 446, 447, 448, 449, 450, 192, 193, 194, 196, 197, 521, 522, 523, 524, 525, 526, 527, 528, 529, 530, 594, 595, 596, 597, 598, 599, 600, 601, 585, 586, 587, 588, 589, 590, 591, 592, 593, 574, 575, 576, 577, 578, 579, 580, 581, 582, 583, 584, 566, 567, 568, 569, 570, 571, 572, 573] (by decide +kernel) (by decide +kernel)
set_option maxRecDepth 20000 in
theorem gL_law_X4_fail : GoodIn wsL_law (wsV RL 89 RX4 yX4_fail wsX4_fail) := goodIn_app (goodIn_of _ (by decide +kernel)) ggL_law_X4_fail
set_option maxRecDepth 20000 in
theorem ggL_law_X5_fail : GoodIn wsL_law wsX5_fail := goodIn_r _ [512, 83, 63, 65, 64, 50, 51, 54, 55, 53, 57, 59, 62, 397, 398, 399, 5, 400, 206, 124, 125, 126, 401, 402, 403, 404, 396, 405, 406, 407, 408, 156, 67, 223, 47, 409, 290, 291, 292, 48, 84, 68, 69, 70, 71, 72, 73, 74, 281, 282, 283, 284, 49, 228, 229, 230, 231, 46, 66, 44, 410, 411, 412, 413, 455, 456, 457, 458, 56, 207, 208, 209, 210, 531, 532, 533, 534, 535, 536, 537, 538, 539, 540, 541, 542, 543, 544, 545, 546, 547, 548, 549, 550, 551, 552, 553, 554, 555, 556, 557, 558, 559, 560, 561, 562, 563, 564, 565] (by decide +kernel) (by decide +kernel)
set_option maxRecDepth 20000 in
theorem gL_law_X5_fail : GoodIn wsL_law (wsV RL 92 RX5 yX5_fail wsX5_fail) := goodIn_app (goodIn_of _ (by decide +kernel)) ggL_law_X5_fail
set_option maxRecDepth 20000 in
theorem ggL_law_X4_next : GoodIn wsL_law wsX4_next := goodIn_r _ [516, 25, 297, 247, 262, 263, 2, 264, 89, 90, 91, 92, 24, 93, 94, 95, 96, 16, 265, 266, 267, 113, 268, 144, 149, 108, 109, 342, 343, 344, 345, 244, 246, 346, 289, 290, 291, 292, 215, 216, 217, 218, 101, 521, 522, 523, 524, 525, 526, 527, 528, 529, 530, 574, 575, 576, 577, 578, 579, 580, 581, 582, 583, 584] (by decide +kernel) (by decide +kernel)
set_option maxRecDepth 20000 in
theorem gL_law_X4_next : GoodIn wsL_law (wsV RL 93 RX4 yX4_next wsX4_next) := goodIn_app (goodIn_of _ (by decide +kernel)) ggL_law_X4_next
set_option maxRecDepth 20000 in
theorem ggL_law_X5_next : GoodIn wsL_law wsX5_next := goodIn_r _ [520, 83, 156, 50, 223, 51, 47, 409, 290, 291, 292, 48, 54, 124, 125, 5, 126, 120, 121, 122, 123, 84, 228, 229, 230, 231, 46, 66, 44, 281, 282, 283, 284, 53, 49, 531, 532, 533, 534, 535, 536, 537, 538, 539, 540, 541, 542, 543, 544, 545, 546, 547, 548, 549, 550, 551, 552, 553, 554, 555, 556, 557, 558, 559, 560, 561, 562, 563, 564, 565] (by decide +kernel) (by decide +kernel)
set_option maxRecDepth 20000 in
theorem gL_law_X5_next : GoodIn wsL_law (wsV RL 96 RX5 yX5_next wsX5_next) := goodIn_app (goodIn_of _ (by decide +kernel)) ggL_law_X5_next
abbrev vwCl : List vw_C := [(RX0, TX0, 8), (RX1, TX1, 8), (RX2, TX2, 9), (RX3, TX3, 11), (RX4, TX4, 10), (RX5, TX5, 35)]
end
section
theorem dX0_init_0 : decode cX0_init 0 = .ok (.aload_n 0, 1) := by decide +kernel
theorem dX0_init_1 : decode cX0_init 1 = .ok (.invokespecial 3, 3) := by decide +kernel
theorem dX0_init_4 : decode cX0_init 4 = .ok (.aload_n 0, 1) := by decide +kernel
theorem dX0_init_5 : decode cX0_init 5 = .ok (.iconst 3, 1) := by decide +kernel
theorem dX0_init_6 : decode cX0_init 6 = .ok (.newarray .int, 2) := by decide +kernel
theorem dX0_init_8 : decode cX0_init 8 = .ok (.putfield 9, 3) := by decide +kernel
theorem dX0_init_11 : decode cX0_init 11 = .ok (.aload_n 0, 1) := by decide +kernel
theorem dX0_init_12 : decode cX0_init 12 = .ok (.iconst 3, 1) := by decide +kernel
theorem dX0_init_13 : decode cX0_init 13 = .ok (.newarray .int, 2) := by decide +kernel
theorem dX0_init_15 : decode cX0_init 15 = .ok (.putfield 15, 3) := by decide +kernel
theorem dX0_init_18 : decode cX0_init 18 = .ok (.aload_n 0, 1) := by decide +kernel
theorem dX0_init_19 : decode cX0_init 19 = .ok (.iconst 3, 1) := by decide +kernel
theorem dX0_init_20 : decode cX0_init 20 = .ok (.newarray .int, 2) := by decide +kernel
theorem dX0_init_22 : decode cX0_init 22 = .ok (.putfield 18, 3) := by decide +kernel
theorem dX0_init_25 : decode cX0_init 25 = .ok (.aload_n 0, 1) := by decide +kernel
theorem dX0_init_26 : decode cX0_init 26 = .ok (.iconst 3, 1) := by decide +kernel
theorem dX0_init_27 : decode cX0_init 27 = .ok (.newarray .int, 2) := by decide +kernel
theorem dX0_init_29 : decode cX0_init 29 = .ok (.putfield 21, 3) := by decide +kernel
theorem dX0_init_32 : decode cX0_init 32 = .ok (.aload_n 0, 1) := by decide +kernel
theorem dX0_init_33 : decode cX0_init 33 = .ok (.iconst 3, 1) := by decide +kernel
theorem dX0_init_34 : decode cX0_init 34 = .ok (.newarray .int, 2) := by decide +kernel
theorem dX0_init_36 : decode cX0_init 36 = .ok (.putfield 24, 3) := by decide +kernel
theorem dX0_init_39 : decode cX0_init 39 = .ok (.aload_n 0, 1) := by decide +kernel
theorem dX0_init_40 : decode cX0_init 40 = .ok (.iconst 0, 1) := by decide +kernel
theorem dX0_init_41 : decode cX0_init 41 = .ok (.putfield 27, 3) := by decide +kernel
theorem dX0_init_44 : decode cX0_init 44 = .ok (.aload_n 0, 1) := by decide +kernel
theorem dX0_init_45 : decode cX0_init 45 = .ok (.iconst 0, 1) := by decide +kernel
theorem dX0_init_46 : decode cX0_init 46 = .ok (.putfield 31, 3) := by decide +kernel
theorem dX0_init_49 : decode cX0_init 49 = .ok (.aload_n 0, 1) := by decide +kernel
theorem dX0_init_50 : decode cX0_init 50 = .ok (.iconst 0, 1) := by decide +kernel
theorem dX0_init_51 : decode cX0_init 51 = .ok (.putfield 34, 3) := by decide +kernel
theorem dX0_init_54 : decode cX0_init 54 = .ok (.return_, 1) := by decide +kernel
theorem dX0_open_0 : decode cX0_open 0 = .ok (.iload_n 1, 1) := by decide +kernel
theorem dX0_open_1 : decode cX0_open 1 = .ok (.ifCond .lt 30, 3) := by decide +kernel
theorem dX0_open_4 : decode cX0_open 4 = .ok (.iload_n 1, 1) := by decide +kernel
theorem dX0_open_5 : decode cX0_open 5 = .ok (.iconst 3, 1) := by decide +kernel
theorem dX0_open_6 : decode cX0_open 6 = .ok (.if_icmp .ge 25, 3) := by decide +kernel
theorem dX0_open_9 : decode cX0_open 9 = .ok (.aload_n 0, 1) := by decide +kernel
theorem dX0_open_10 : decode cX0_open 10 = .ok (.getfield 9, 3) := by decide +kernel
theorem dX0_open_13 : decode cX0_open 13 = .ok (.iload_n 1, 1) := by decide +kernel
theorem dX0_open_14 : decode cX0_open 14 = .ok (.iload_n 2, 1) := by decide +kernel
theorem dX0_open_15 : decode cX0_open 15 = .ok (.iastore, 1) := by decide +kernel
theorem dX0_open_16 : decode cX0_open 16 = .ok (.aload_n 0, 1) := by decide +kernel
theorem dX0_open_17 : decode cX0_open 17 = .ok (.getfield 15, 3) := by decide +kernel
theorem dX0_open_20 : decode cX0_open 20 = .ok (.iload_n 1, 1) := by decide +kernel
theorem dX0_open_21 : decode cX0_open 21 = .ok (.iload_n 3, 1) := by decide +kernel
theorem dX0_open_22 : decode cX0_open 22 = .ok (.iastore, 1) := by decide +kernel
theorem dX0_open_23 : decode cX0_open 23 = .ok (.aload_n 0, 1) := by decide +kernel
theorem dX0_open_24 : decode cX0_open 24 = .ok (.getfield 21, 3) := by decide +kernel
theorem dX0_open_27 : decode cX0_open 27 = .ok (.iload_n 1, 1) := by decide +kernel
theorem dX0_open_28 : decode cX0_open 28 = .ok (.iload 4, 2) := by decide +kernel
theorem dX0_open_30 : decode cX0_open 30 = .ok (.iastore, 1) := by decide +kernel
theorem dX0_open_31 : decode cX0_open 31 = .ok (.return_, 1) := by decide +kernel
theorem dX0_close_0 : decode cX0_close 0 = .ok (.iload_n 1, 1) := by decide +kernel
theorem dX0_close_1 : decode cX0_close 1 = .ok (.ifCond .lt 29, 3) := by decide +kernel
theorem dX0_close_4 : decode cX0_close 4 = .ok (.iload_n 1, 1) := by decide +kernel
theorem dX0_close_5 : decode cX0_close 5 = .ok (.iconst 3, 1) := by decide +kernel
theorem dX0_close_6 : decode cX0_close 6 = .ok (.if_icmp .ge 24, 3) := by decide +kernel
theorem dX0_close_9 : decode cX0_close 9 = .ok (.aload_n 0, 1) := by decide +kernel
theorem dX0_close_10 : decode cX0_close 10 = .ok (.getfield 18, 3) := by decide +kernel
theorem dX0_close_13 : decode cX0_close 13 = .ok (.iload_n 1, 1) := by decide +kernel
theorem dX0_close_14 : decode cX0_close 14 = .ok (.iload_n 2, 1) := by decide +kernel
theorem dX0_close_15 : decode cX0_close 15 = .ok (.iastore, 1) := by decide +kernel
theorem dX0_close_16 : decode cX0_close 16 = .ok (.aload_n 0, 1) := by decide +kernel
theorem dX0_close_17 : decode cX0_close 17 = .ok (.getfield 24, 3) := by decide +kernel
theorem dX0_close_20 : decode cX0_close 20 = .ok (.iload_n 1, 1) := by decide +kernel
theorem dX0_close_21 : decode cX0_close 21 = .ok (.iload_n 3, 1) := by decide +kernel
theorem dX0_close_22 : decode cX0_close 22 = .ok (.iastore, 1) := by decide +kernel
theorem dX0_close_23 : decode cX0_close 23 = .ok (.aload_n 0, 1) := by decide +kernel
theorem dX0_close_24 : decode cX0_close 24 = .ok (.iload_n 1, 1) := by decide +kernel
theorem dX0_close_25 : decode cX0_close 25 = .ok (.iconst 1, 1) := by decide +kernel
theorem dX0_close_26 : decode cX0_close 26 = .ok (.iadd, 1) := by decide +kernel
theorem dX0_close_27 : decode cX0_close 27 = .ok (.putfield 27, 3) := by decide +kernel
theorem dX0_close_30 : decode cX0_close 30 = .ok (.return_, 1) := by decide +kernel
theorem dX0_isRiddenBy_0 : decode cX0_isRiddenBy 0 = .ok (.iconst 0, 1) := by decide +kernel
theorem dX0_isRiddenBy_1 : decode cX0_isRiddenBy 1 = .ok (.istore_n 3, 1) := by decide +kernel
theorem dX0_isRiddenBy_2 : decode cX0_isRiddenBy 2 = .ok (.iload_n 3, 1) := by decide +kernel
theorem dX0_isRiddenBy_3 : decode cX0_isRiddenBy 3 = .ok (.iload_n 2, 1) := by decide +kernel
theorem dX0_isRiddenBy_4 : decode cX0_isRiddenBy 4 = .ok (.if_icmp .ge 26, 3) := by decide +kernel
theorem dX0_isRiddenBy_7 : decode cX0_isRiddenBy 7 = .ok (.iload_n 3, 1) := by decide +kernel
theorem dX0_isRiddenBy_8 : decode cX0_isRiddenBy 8 = .ok (.iconst 3, 1) := by decide +kernel
theorem dX0_isRiddenBy_9 : decode cX0_isRiddenBy 9 = .ok (.if_icmp .ge 21, 3) := by decide +kernel
theorem dX0_isRiddenBy_12 : decode cX0_isRiddenBy 12 = .ok (.aload_n 0, 1) := by decide +kernel
theorem dX0_isRiddenBy_13 : decode cX0_isRiddenBy 13 = .ok (.getfield 9, 3) := by decide +kernel
theorem dX0_isRiddenBy_16 : decode cX0_isRiddenBy 16 = .ok (.iload_n 3, 1) := by decide +kernel
theorem dX0_isRiddenBy_17 : decode cX0_isRiddenBy 17 = .ok (.iaload, 1) := by decide +kernel
theorem dX0_isRiddenBy_18 : decode cX0_isRiddenBy 18 = .ok (.iload_n 1, 1) := by decide +kernel
theorem dX0_isRiddenBy_19 : decode cX0_isRiddenBy 19 = .ok (.if_icmp .ne 5, 3) := by decide +kernel
theorem dX0_isRiddenBy_22 : decode cX0_isRiddenBy 22 = .ok (.iconst 1, 1) := by decide +kernel
theorem dX0_isRiddenBy_23 : decode cX0_isRiddenBy 23 = .ok (.ireturn, 1) := by decide +kernel
theorem dX0_isRiddenBy_24 : decode cX0_isRiddenBy 24 = .ok (.iinc 3 1, 3) := by decide +kernel
theorem dX0_isRiddenBy_27 : decode cX0_isRiddenBy 27 = .ok (.goto (-25), 3) := by decide +kernel
theorem dX0_isRiddenBy_30 : decode cX0_isRiddenBy 30 = .ok (.iconst 0, 1) := by decide +kernel
theorem dX0_isRiddenBy_31 : decode cX0_isRiddenBy 31 = .ok (.ireturn, 1) := by decide +kernel
theorem dX0_comesFrom_0 : decode cX0_comesFrom 0 = .ok (.iconst 0, 1) := by decide +kernel
theorem dX0_comesFrom_1 : decode cX0_comesFrom 1 = .ok (.istore_n 3, 1) := by decide +kernel
theorem dX0_comesFrom_2 : decode cX0_comesFrom 2 = .ok (.iload_n 3, 1) := by decide +kernel
theorem dX0_comesFrom_3 : decode cX0_comesFrom 3 = .ok (.iload_n 2, 1) := by decide +kernel
theorem dX0_comesFrom_4 : decode cX0_comesFrom 4 = .ok (.if_icmp .ge 26, 3) := by decide +kernel
theorem dX0_comesFrom_7 : decode cX0_comesFrom 7 = .ok (.iload_n 3, 1) := by decide +kernel
theorem dX0_comesFrom_8 : decode cX0_comesFrom 8 = .ok (.iconst 3, 1) := by decide +kernel
theorem dX0_comesFrom_9 : decode cX0_comesFrom 9 = .ok (.if_icmp .ge 21, 3) := by decide +kernel
theorem dX0_comesFrom_12 : decode cX0_comesFrom 12 = .ok (.aload_n 0, 1) := by decide +kernel
theorem dX0_comesFrom_13 : decode cX0_comesFrom 13 = .ok (.getfield 15, 3) := by decide +kernel
theorem dX0_comesFrom_16 : decode cX0_comesFrom 16 = .ok (.iload_n 3, 1) := by decide +kernel
theorem dX0_comesFrom_17 : decode cX0_comesFrom 17 = .ok (.iaload, 1) := by decide +kernel
theorem dX0_comesFrom_18 : decode cX0_comesFrom 18 = .ok (.iload_n 1, 1) := by decide +kernel
theorem dX0_comesFrom_19 : decode cX0_comesFrom 19 = .ok (.if_icmp .ne 5, 3) := by decide +kernel
theorem dX0_comesFrom_22 : decode cX0_comesFrom 22 = .ok (.iconst 1, 1) := by decide +kernel
theorem dX0_comesFrom_23 : decode cX0_comesFrom 23 = .ok (.ireturn, 1) := by decide +kernel
theorem dX0_comesFrom_24 : decode cX0_comesFrom 24 = .ok (.iinc 3 1, 3) := by decide +kernel
theorem dX0_comesFrom_27 : decode cX0_comesFrom 27 = .ok (.goto (-25), 3) := by decide +kernel
theorem dX0_comesFrom_30 : decode cX0_comesFrom 30 = .ok (.iconst 0, 1) := by decide +kernel
theorem dX0_comesFrom_31 : decode cX0_comesFrom 31 = .ok (.ireturn, 1) := by decide +kernel
theorem dX0_fromOf_0 : decode cX0_fromOf 0 = .ok (.iload_n 1, 1) := by decide +kernel
theorem dX0_fromOf_1 : decode cX0_fromOf 1 = .ok (.ifCond .lt 17, 3) := by decide +kernel
theorem dX0_fromOf_4 : decode cX0_fromOf 4 = .ok (.iload_n 1, 1) := by decide +kernel
theorem dX0_fromOf_5 : decode cX0_fromOf 5 = .ok (.iconst 3, 1) := by decide +kernel
theorem dX0_fromOf_6 : decode cX0_fromOf 6 = .ok (.if_icmp .ge 12, 3) := by decide +kernel
theorem dX0_fromOf_9 : decode cX0_fromOf 9 = .ok (.aload_n 0, 1) := by decide +kernel
theorem dX0_fromOf_10 : decode cX0_fromOf 10 = .ok (.getfield 15, 3) := by decide +kernel
theorem dX0_fromOf_13 : decode cX0_fromOf 13 = .ok (.iload_n 1, 1) := by decide +kernel
theorem dX0_fromOf_14 : decode cX0_fromOf 14 = .ok (.iaload, 1) := by decide +kernel
theorem dX0_fromOf_15 : decode cX0_fromOf 15 = .ok (.goto 4, 3) := by decide +kernel
theorem dX0_fromOf_18 : decode cX0_fromOf 18 = .ok (.iconst (-1), 1) := by decide +kernel
theorem dX0_fromOf_19 : decode cX0_fromOf 19 = .ok (.ireturn, 1) := by decide +kernel
theorem dX0_lastEnd_0 : decode cX0_lastEnd 0 = .ok (.aload_n 0, 1) := by decide +kernel
theorem dX0_lastEnd_1 : decode cX0_lastEnd 1 = .ok (.getfield 27, 3) := by decide +kernel
theorem dX0_lastEnd_4 : decode cX0_lastEnd 4 = .ok (.iconst 1, 1) := by decide +kernel
theorem dX0_lastEnd_5 : decode cX0_lastEnd 5 = .ok (.if_icmp .lt 25, 3) := by decide +kernel
theorem dX0_lastEnd_8 : decode cX0_lastEnd 8 = .ok (.aload_n 0, 1) := by decide +kernel
theorem dX0_lastEnd_9 : decode cX0_lastEnd 9 = .ok (.getfield 27, 3) := by decide +kernel
theorem dX0_lastEnd_12 : decode cX0_lastEnd 12 = .ok (.iconst 3, 1) := by decide +kernel
theorem dX0_lastEnd_13 : decode cX0_lastEnd 13 = .ok (.if_icmp .gt 17, 3) := by decide +kernel
theorem dX0_lastEnd_16 : decode cX0_lastEnd 16 = .ok (.aload_n 0, 1) := by decide +kernel
theorem dX0_lastEnd_17 : decode cX0_lastEnd 17 = .ok (.getfield 24, 3) := by decide +kernel
theorem dX0_lastEnd_20 : decode cX0_lastEnd 20 = .ok (.aload_n 0, 1) := by decide +kernel
theorem dX0_lastEnd_21 : decode cX0_lastEnd 21 = .ok (.getfield 27, 3) := by decide +kernel
theorem dX0_lastEnd_24 : decode cX0_lastEnd 24 = .ok (.iconst 1, 1) := by decide +kernel
theorem dX0_lastEnd_25 : decode cX0_lastEnd 25 = .ok (.isub, 1) := by decide +kernel
theorem dX0_lastEnd_26 : decode cX0_lastEnd 26 = .ok (.iaload, 1) := by decide +kernel
theorem dX0_lastEnd_27 : decode cX0_lastEnd 27 = .ok (.goto 4, 3) := by decide +kernel
theorem dX0_lastEnd_30 : decode cX0_lastEnd 30 = .ok (.iconst (-1), 1) := by decide +kernel
theorem dX0_lastEnd_31 : decode cX0_lastEnd 31 = .ok (.ireturn, 1) := by decide +kernel
theorem dX0_handsOn_0 : decode cX0_handsOn 0 = .ok (.iload_n 1, 1) := by decide +kernel
theorem dX0_handsOn_1 : decode cX0_handsOn 1 = .ok (.ifCond .lt 31, 3) := by decide +kernel
theorem dX0_handsOn_4 : decode cX0_handsOn 4 = .ok (.iload_n 1, 1) := by decide +kernel
theorem dX0_handsOn_5 : decode cX0_handsOn 5 = .ok (.iconst 1, 1) := by decide +kernel
theorem dX0_handsOn_6 : decode cX0_handsOn 6 = .ok (.iadd, 1) := by decide +kernel
theorem dX0_handsOn_7 : decode cX0_handsOn 7 = .ok (.aload_n 0, 1) := by decide +kernel
theorem dX0_handsOn_8 : decode cX0_handsOn 8 = .ok (.getfield 27, 3) := by decide +kernel
theorem dX0_handsOn_11 : decode cX0_handsOn 11 = .ok (.if_icmp .ge 21, 3) := by decide +kernel
theorem dX0_handsOn_14 : decode cX0_handsOn 14 = .ok (.iload_n 1, 1) := by decide +kernel
theorem dX0_handsOn_15 : decode cX0_handsOn 15 = .ok (.iconst 1, 1) := by decide +kernel
theorem dX0_handsOn_16 : decode cX0_handsOn 16 = .ok (.iadd, 1) := by decide +kernel
theorem dX0_handsOn_17 : decode cX0_handsOn 17 = .ok (.iconst 3, 1) := by decide +kernel
theorem dX0_handsOn_18 : decode cX0_handsOn 18 = .ok (.if_icmp .ge 14, 3) := by decide +kernel
theorem dX0_handsOn_21 : decode cX0_handsOn 21 = .ok (.aload_n 0, 1) := by decide +kernel
theorem dX0_handsOn_22 : decode cX0_handsOn 22 = .ok (.getfield 21, 3) := by decide +kernel
theorem dX0_handsOn_25 : decode cX0_handsOn 25 = .ok (.iload_n 1, 1) := by decide +kernel
theorem dX0_handsOn_26 : decode cX0_handsOn 26 = .ok (.iconst 1, 1) := by decide +kernel
theorem dX0_handsOn_27 : decode cX0_handsOn 27 = .ok (.iadd, 1) := by decide +kernel
theorem dX0_handsOn_28 : decode cX0_handsOn 28 = .ok (.iaload, 1) := by decide +kernel
theorem dX0_handsOn_29 : decode cX0_handsOn 29 = .ok (.goto 7, 3) := by decide +kernel
theorem dX0_handsOn_32 : decode cX0_handsOn 32 = .ok (.aload_n 0, 1) := by decide +kernel
theorem dX0_handsOn_33 : decode cX0_handsOn 33 = .ok (.invokevirtual 37, 3) := by decide +kernel
theorem dX0_handsOn_36 : decode cX0_handsOn 36 = .ok (.ireturn, 1) := by decide +kernel
theorem dX0_take_0 : decode cX0_take 0 = .ok (.iconst 0, 1) := by decide +kernel
theorem dX0_take_1 : decode cX0_take 1 = .ok (.istore_n 2, 1) := by decide +kernel
theorem dX0_take_2 : decode cX0_take 2 = .ok (.iload_n 2, 1) := by decide +kernel
theorem dX0_take_3 : decode cX0_take 3 = .ok (.iconst 3, 1) := by decide +kernel
theorem dX0_take_4 : decode cX0_take 4 = .ok (.if_icmp .ge 69, 3) := by decide +kernel
theorem dX0_take_7 : decode cX0_take 7 = .ok (.aload_n 0, 1) := by decide +kernel
theorem dX0_take_8 : decode cX0_take 8 = .ok (.getfield 9, 3) := by decide +kernel
theorem dX0_take_11 : decode cX0_take 11 = .ok (.iload_n 2, 1) := by decide +kernel
theorem dX0_take_12 : decode cX0_take 12 = .ok (.aload_n 1, 1) := by decide +kernel
theorem dX0_take_13 : decode cX0_take 13 = .ok (.getfield 9, 3) := by decide +kernel
theorem dX0_take_16 : decode cX0_take 16 = .ok (.iload_n 2, 1) := by decide +kernel
theorem dX0_take_17 : decode cX0_take 17 = .ok (.iaload, 1) := by decide +kernel
theorem dX0_take_18 : decode cX0_take 18 = .ok (.iastore, 1) := by decide +kernel
theorem dX0_take_19 : decode cX0_take 19 = .ok (.aload_n 0, 1) := by decide +kernel
theorem dX0_take_20 : decode cX0_take 20 = .ok (.getfield 15, 3) := by decide +kernel
theorem dX0_take_23 : decode cX0_take 23 = .ok (.iload_n 2, 1) := by decide +kernel
theorem dX0_take_24 : decode cX0_take 24 = .ok (.aload_n 1, 1) := by decide +kernel
theorem dX0_take_25 : decode cX0_take 25 = .ok (.getfield 15, 3) := by decide +kernel
theorem dX0_take_28 : decode cX0_take 28 = .ok (.iload_n 2, 1) := by decide +kernel
theorem dX0_take_29 : decode cX0_take 29 = .ok (.iaload, 1) := by decide +kernel
theorem dX0_take_30 : decode cX0_take 30 = .ok (.iastore, 1) := by decide +kernel
theorem dX0_take_31 : decode cX0_take 31 = .ok (.aload_n 0, 1) := by decide +kernel
theorem dX0_take_32 : decode cX0_take 32 = .ok (.getfield 18, 3) := by decide +kernel
theorem dX0_take_35 : decode cX0_take 35 = .ok (.iload_n 2, 1) := by decide +kernel
theorem dX0_take_36 : decode cX0_take 36 = .ok (.aload_n 1, 1) := by decide +kernel
theorem dX0_take_37 : decode cX0_take 37 = .ok (.getfield 18, 3) := by decide +kernel
theorem dX0_take_40 : decode cX0_take 40 = .ok (.iload_n 2, 1) := by decide +kernel
theorem dX0_take_41 : decode cX0_take 41 = .ok (.iaload, 1) := by decide +kernel
theorem dX0_take_42 : decode cX0_take 42 = .ok (.iastore, 1) := by decide +kernel
theorem dX0_take_43 : decode cX0_take 43 = .ok (.aload_n 0, 1) := by decide +kernel
theorem dX0_take_44 : decode cX0_take 44 = .ok (.getfield 21, 3) := by decide +kernel
theorem dX0_take_47 : decode cX0_take 47 = .ok (.iload_n 2, 1) := by decide +kernel
theorem dX0_take_48 : decode cX0_take 48 = .ok (.aload_n 1, 1) := by decide +kernel
theorem dX0_take_49 : decode cX0_take 49 = .ok (.getfield 21, 3) := by decide +kernel
theorem dX0_take_52 : decode cX0_take 52 = .ok (.iload_n 2, 1) := by decide +kernel
theorem dX0_take_53 : decode cX0_take 53 = .ok (.iaload, 1) := by decide +kernel
theorem dX0_take_54 : decode cX0_take 54 = .ok (.iastore, 1) := by decide +kernel
theorem dX0_take_55 : decode cX0_take 55 = .ok (.aload_n 0, 1) := by decide +kernel
theorem dX0_take_56 : decode cX0_take 56 = .ok (.getfield 24, 3) := by decide +kernel
theorem dX0_take_59 : decode cX0_take 59 = .ok (.iload_n 2, 1) := by decide +kernel
theorem dX0_take_60 : decode cX0_take 60 = .ok (.aload_n 1, 1) := by decide +kernel
theorem dX0_take_61 : decode cX0_take 61 = .ok (.getfield 24, 3) := by decide +kernel
theorem dX0_take_64 : decode cX0_take 64 = .ok (.iload_n 2, 1) := by decide +kernel
theorem dX0_take_65 : decode cX0_take 65 = .ok (.iaload, 1) := by decide +kernel
theorem dX0_take_66 : decode cX0_take 66 = .ok (.iastore, 1) := by decide +kernel
theorem dX0_take_67 : decode cX0_take 67 = .ok (.iinc 2 1, 3) := by decide +kernel
theorem dX0_take_70 : decode cX0_take 70 = .ok (.goto (-68), 3) := by decide +kernel
theorem dX0_take_73 : decode cX0_take 73 = .ok (.aload_n 0, 1) := by decide +kernel
theorem dX0_take_74 : decode cX0_take 74 = .ok (.aload_n 1, 1) := by decide +kernel
theorem dX0_take_75 : decode cX0_take 75 = .ok (.getfield 27, 3) := by decide +kernel
theorem dX0_take_78 : decode cX0_take 78 = .ok (.putfield 27, 3) := by decide +kernel
theorem dX0_take_81 : decode cX0_take 81 = .ok (.return_, 1) := by decide +kernel
theorem dX1_init_0 : decode cX1_init 0 = .ok (.aload_n 0, 1) := by decide +kernel
theorem dX1_init_1 : decode cX1_init 1 = .ok (.invokespecial 1, 3) := by decide +kernel
theorem dX1_init_4 : decode cX1_init 4 = .ok (.aload_n 0, 1) := by decide +kernel
theorem dX1_init_5 : decode cX1_init 5 = .ok (.iconst 0, 1) := by decide +kernel
theorem dX1_init_6 : decode cX1_init 6 = .ok (.putfield 7, 3) := by decide +kernel
theorem dX1_init_9 : decode cX1_init 9 = .ok (.aload_n 0, 1) := by decide +kernel
theorem dX1_init_10 : decode cX1_init 10 = .ok (.iload_n 1, 1) := by decide +kernel
theorem dX1_init_11 : decode cX1_init 11 = .ok (.putfield 13, 3) := by decide +kernel
theorem dX1_init_14 : decode cX1_init 14 = .ok (.aload_n 0, 1) := by decide +kernel
theorem dX1_init_15 : decode cX1_init 15 = .ok (.iload_n 2, 1) := by decide +kernel
theorem dX1_init_16 : decode cX1_init 16 = .ok (.putfield 17, 3) := by decide +kernel
theorem dX1_init_19 : decode cX1_init 19 = .ok (.aload_n 0, 1) := by decide +kernel
theorem dX1_init_20 : decode cX1_init 20 = .ok (.iload_n 3, 1) := by decide +kernel
theorem dX1_init_21 : decode cX1_init 21 = .ok (.putfield 20, 3) := by decide +kernel
theorem dX1_init_24 : decode cX1_init 24 = .ok (.aload_n 0, 1) := by decide +kernel
theorem dX1_init_25 : decode cX1_init 25 = .ok (.iload 4, 2) := by decide +kernel
theorem dX1_init_27 : decode cX1_init 27 = .ok (.putfield 23, 3) := by decide +kernel
theorem dX1_init_30 : decode cX1_init 30 = .ok (.aload_n 0, 1) := by decide +kernel
theorem dX1_init_31 : decode cX1_init 31 = .ok (.iload 5, 2) := by decide +kernel
theorem dX1_init_33 : decode cX1_init 33 = .ok (.putfield 26, 3) := by decide +kernel
theorem dX1_init_36 : decode cX1_init 36 = .ok (.aload_n 0, 1) := by decide +kernel
theorem dX1_init_37 : decode cX1_init 37 = .ok (.iload 6, 2) := by decide +kernel
theorem dX1_init_39 : decode cX1_init 39 = .ok (.putfield 29, 3) := by decide +kernel
theorem dX1_init_42 : decode cX1_init 42 = .ok (.aload_n 0, 1) := by decide +kernel
theorem dX1_init_43 : decode cX1_init 43 = .ok (.iload 7, 2) := by decide +kernel
theorem dX1_init_45 : decode cX1_init 45 = .ok (.putfield 32, 3) := by decide +kernel
theorem dX1_init_48 : decode cX1_init 48 = .ok (.return_, 1) := by decide +kernel
theorem dX2_init_0 : decode cX2_init 0 = .ok (.aload_n 0, 1) := by decide +kernel
theorem dX2_init_1 : decode cX2_init 1 = .ok (.invokespecial 3, 3) := by decide +kernel
theorem dX2_init_4 : decode cX2_init 4 = .ok (.aload_n 0, 1) := by decide +kernel
theorem dX2_init_5 : decode cX2_init 5 = .ok (.bipush 18, 2) := by decide +kernel
theorem dX2_init_7 : decode cX2_init 7 = .ok (.anewarray 9, 3) := by decide +kernel
theorem dX2_init_10 : decode cX2_init 10 = .ok (.putfield 11, 3) := by decide +kernel
theorem dX2_init_13 : decode cX2_init 13 = .ok (.aload_n 0, 1) := by decide +kernel
theorem dX2_init_14 : decode cX2_init 14 = .ok (.iconst 0, 1) := by decide +kernel
theorem dX2_init_15 : decode cX2_init 15 = .ok (.putfield 17, 3) := by decide +kernel
theorem dX2_init_18 : decode cX2_init 18 = .ok (.aload_n 0, 1) := by decide +kernel
theorem dX2_init_19 : decode cX2_init 19 = .ok (.iconst 0, 1) := by decide +kernel
theorem dX2_init_20 : decode cX2_init 20 = .ok (.putfield 21, 3) := by decide +kernel
theorem dX2_init_23 : decode cX2_init 23 = .ok (.aload_n 0, 1) := by decide +kernel
theorem dX2_init_24 : decode cX2_init 24 = .ok (.iconst 0, 1) := by decide +kernel
theorem dX2_init_25 : decode cX2_init 25 = .ok (.putfield 25, 3) := by decide +kernel
theorem dX2_init_28 : decode cX2_init 28 = .ok (.aload_n 0, 1) := by decide +kernel
theorem dX2_init_29 : decode cX2_init 29 = .ok (.iload_n 1, 1) := by decide +kernel
theorem dX2_init_30 : decode cX2_init 30 = .ok (.putfield 28, 3) := by decide +kernel
theorem dX2_init_33 : decode cX2_init 33 = .ok (.aload_n 0, 1) := by decide +kernel
theorem dX2_init_34 : decode cX2_init 34 = .ok (.iload_n 2, 1) := by decide +kernel
theorem dX2_init_35 : decode cX2_init 35 = .ok (.putfield 31, 3) := by decide +kernel
theorem dX2_init_38 : decode cX2_init 38 = .ok (.aload_n 0, 1) := by decide +kernel
theorem dX2_init_39 : decode cX2_init 39 = .ok (.iload_n 3, 1) := by decide +kernel
theorem dX2_init_40 : decode cX2_init 40 = .ok (.putfield 34, 3) := by decide +kernel
theorem dX2_init_43 : decode cX2_init 43 = .ok (.aload_n 0, 1) := by decide +kernel
theorem dX2_init_44 : decode cX2_init 44 = .ok (.iload 4, 2) := by decide +kernel
theorem dX2_init_46 : decode cX2_init 46 = .ok (.putfield 37, 3) := by decide +kernel
theorem dX2_init_49 : decode cX2_init 49 = .ok (.aload_n 0, 1) := by decide +kernel
theorem dX2_init_50 : decode cX2_init 50 = .ok (.iload 5, 2) := by decide +kernel
theorem dX2_init_52 : decode cX2_init 52 = .ok (.putfield 40, 3) := by decide +kernel
theorem dX2_init_55 : decode cX2_init 55 = .ok (.return_, 1) := by decide +kernel
theorem dX2_legAt_0 : decode cX2_legAt 0 = .ok (.iload_n 1, 1) := by decide +kernel
theorem dX2_legAt_1 : decode cX2_legAt 1 = .ok (.ifCond .lt 26, 3) := by decide +kernel
theorem dX2_legAt_4 : decode cX2_legAt 4 = .ok (.iload_n 1, 1) := by decide +kernel
theorem dX2_legAt_5 : decode cX2_legAt 5 = .ok (.aload_n 0, 1) := by decide +kernel
theorem dX2_legAt_6 : decode cX2_legAt 6 = .ok (.getfield 17, 3) := by decide +kernel
theorem dX2_legAt_9 : decode cX2_legAt 9 = .ok (.if_icmp .ge 18, 3) := by decide +kernel
theorem dX2_legAt_12 : decode cX2_legAt 12 = .ok (.iload_n 1, 1) := by decide +kernel
theorem dX2_legAt_13 : decode cX2_legAt 13 = .ok (.bipush 18, 2) := by decide +kernel
theorem dX2_legAt_15 : decode cX2_legAt 15 = .ok (.if_icmp .ge 12, 3) := by decide +kernel
theorem dX2_legAt_18 : decode cX2_legAt 18 = .ok (.aload_n 0, 1) := by decide +kernel
theorem dX2_legAt_19 : decode cX2_legAt 19 = .ok (.getfield 11, 3) := by decide +kernel
theorem dX2_legAt_22 : decode cX2_legAt 22 = .ok (.iload_n 1, 1) := by decide +kernel
theorem dX2_legAt_23 : decode cX2_legAt 23 = .ok (.aaload, 1) := by decide +kernel
theorem dX2_legAt_24 : decode cX2_legAt 24 = .ok (.goto 4, 3) := by decide +kernel
theorem dX2_legAt_27 : decode cX2_legAt 27 = .ok (.aconst_null, 1) := by decide +kernel
theorem dX2_legAt_28 : decode cX2_legAt 28 = .ok (.areturn, 1) := by decide +kernel
theorem dX2_addLeg_0 : decode cX2_addLeg 0 = .ok (.aload_n 0, 1) := by decide +kernel
theorem dX2_addLeg_1 : decode cX2_addLeg 1 = .ok (.getfield 17, 3) := by decide +kernel
theorem dX2_addLeg_4 : decode cX2_addLeg 4 = .ok (.ifCond .lt 32, 3) := by decide +kernel
theorem dX2_addLeg_7 : decode cX2_addLeg 7 = .ok (.aload_n 0, 1) := by decide +kernel
theorem dX2_addLeg_8 : decode cX2_addLeg 8 = .ok (.getfield 17, 3) := by decide +kernel
theorem dX2_addLeg_11 : decode cX2_addLeg 11 = .ok (.bipush 18, 2) := by decide +kernel
theorem dX2_addLeg_13 : decode cX2_addLeg 13 = .ok (.if_icmp .ge 23, 3) := by decide +kernel
theorem dX2_addLeg_16 : decode cX2_addLeg 16 = .ok (.aload_n 0, 1) := by decide +kernel
theorem dX2_addLeg_17 : decode cX2_addLeg 17 = .ok (.getfield 11, 3) := by decide +kernel
theorem dX2_addLeg_20 : decode cX2_addLeg 20 = .ok (.aload_n 0, 1) := by decide +kernel
theorem dX2_addLeg_21 : decode cX2_addLeg 21 = .ok (.getfield 17, 3) := by decide +kernel
theorem dX2_addLeg_24 : decode cX2_addLeg 24 = .ok (.aload_n 1, 1) := by decide +kernel
theorem dX2_addLeg_25 : decode cX2_addLeg 25 = .ok (.aastore, 1) := by decide +kernel
theorem dX2_addLeg_26 : decode cX2_addLeg 26 = .ok (.aload_n 0, 1) := by decide +kernel
theorem dX2_addLeg_27 : decode cX2_addLeg 27 = .ok (.dup, 1) := by decide +kernel
theorem dX2_addLeg_28 : decode cX2_addLeg 28 = .ok (.getfield 17, 3) := by decide +kernel
theorem dX2_addLeg_31 : decode cX2_addLeg 31 = .ok (.iconst 1, 1) := by decide +kernel
theorem dX2_addLeg_32 : decode cX2_addLeg 32 = .ok (.iadd, 1) := by decide +kernel
theorem dX2_addLeg_33 : decode cX2_addLeg 33 = .ok (.putfield 17, 3) := by decide +kernel
theorem dX2_addLeg_36 : decode cX2_addLeg 36 = .ok (.return_, 1) := by decide +kernel
theorem dX2_lastEnd_0 : decode cX2_lastEnd 0 = .ok (.aload_n 0, 1) := by decide +kernel
theorem dX2_lastEnd_1 : decode cX2_lastEnd 1 = .ok (.aload_n 0, 1) := by decide +kernel
theorem dX2_lastEnd_2 : decode cX2_lastEnd 2 = .ok (.getfield 17, 3) := by decide +kernel
theorem dX2_lastEnd_5 : decode cX2_lastEnd 5 = .ok (.iconst 1, 1) := by decide +kernel
theorem dX2_lastEnd_6 : decode cX2_lastEnd 6 = .ok (.isub, 1) := by decide +kernel
theorem dX2_lastEnd_7 : decode cX2_lastEnd 7 = .ok (.invokevirtual 43, 3) := by decide +kernel
theorem dX2_lastEnd_10 : decode cX2_lastEnd 10 = .ok (.astore_n 1, 1) := by decide +kernel
theorem dX2_lastEnd_11 : decode cX2_lastEnd 11 = .ok (.aload_n 1, 1) := by decide +kernel
theorem dX2_lastEnd_12 : decode cX2_lastEnd 12 = .ok (.ifnonnull 7, 3) := by decide +kernel
theorem dX2_lastEnd_15 : decode cX2_lastEnd 15 = .ok (.iconst (-1), 1) := by decide +kernel
theorem dX2_lastEnd_16 : decode cX2_lastEnd 16 = .ok (.goto 7, 3) := by decide +kernel
theorem dX2_lastEnd_19 : decode cX2_lastEnd 19 = .ok (.aload_n 1, 1) := by decide +kernel
theorem dX2_lastEnd_20 : decode cX2_lastEnd 20 = .ok (.getfield 47, 3) := by decide +kernel
theorem dX2_lastEnd_23 : decode cX2_lastEnd 23 = .ok (.ireturn, 1) := by decide +kernel
theorem dX2_cameWarm_0 : decode cX2_cameWarm 0 = .ok (.aload_n 0, 1) := by decide +kernel
theorem dX2_cameWarm_1 : decode cX2_cameWarm 1 = .ok (.getfield 21, 3) := by decide +kernel
theorem dX2_cameWarm_4 : decode cX2_cameWarm 4 = .ok (.ifCond .eq 30, 3) := by decide +kernel
theorem dX2_cameWarm_7 : decode cX2_cameWarm 7 = .ok (.aload_n 0, 1) := by decide +kernel
theorem dX2_cameWarm_8 : decode cX2_cameWarm 8 = .ok (.getfield 25, 3) := by decide +kernel
theorem dX2_cameWarm_11 : decode cX2_cameWarm 11 = .ok (.ifCond .ne 23, 3) := by decide +kernel
theorem dX2_cameWarm_14 : decode cX2_cameWarm 14 = .ok (.aload_n 0, 1) := by decide +kernel
theorem dX2_cameWarm_15 : decode cX2_cameWarm 15 = .ok (.invokevirtual 50, 3) := by decide +kernel
theorem dX2_cameWarm_18 : decode cX2_cameWarm 18 = .ok (.aload_n 0, 1) := by decide +kernel
theorem dX2_cameWarm_19 : decode cX2_cameWarm 19 = .ok (.getfield 37, 3) := by decide +kernel
theorem dX2_cameWarm_22 : decode cX2_cameWarm 22 = .ok (.isub, 1) := by decide +kernel
theorem dX2_cameWarm_23 : decode cX2_cameWarm 23 = .ok (.aload_n 0, 1) := by decide +kernel
theorem dX2_cameWarm_24 : decode cX2_cameWarm 24 = .ok (.getfield 40, 3) := by decide +kernel
theorem dX2_cameWarm_27 : decode cX2_cameWarm 27 = .ok (.if_icmp .le 7, 3) := by decide +kernel
theorem dX2_cameWarm_30 : decode cX2_cameWarm 30 = .ok (.iconst 1, 1) := by decide +kernel
theorem dX2_cameWarm_31 : decode cX2_cameWarm 31 = .ok (.goto 4, 3) := by decide +kernel
theorem dX2_cameWarm_34 : decode cX2_cameWarm 34 = .ok (.iconst 0, 1) := by decide +kernel
theorem dX2_cameWarm_35 : decode cX2_cameWarm 35 = .ok (.ireturn, 1) := by decide +kernel
theorem dX3_init_0 : decode cX3_init 0 = .ok (.aload_n 0, 1) := by decide +kernel
theorem dX3_init_1 : decode cX3_init 1 = .ok (.invokespecial 3, 3) := by decide +kernel
theorem dX3_init_4 : decode cX3_init 4 = .ok (.aload_n 0, 1) := by decide +kernel
theorem dX3_init_5 : decode cX3_init 5 = .ok (.bipush 64, 2) := by decide +kernel
theorem dX3_init_7 : decode cX3_init 7 = .ok (.newarray .int, 2) := by decide +kernel
theorem dX3_init_9 : decode cX3_init 9 = .ok (.putfield 9, 3) := by decide +kernel
theorem dX3_init_12 : decode cX3_init 12 = .ok (.aload_n 0, 1) := by decide +kernel
theorem dX3_init_13 : decode cX3_init 13 = .ok (.iconst 0, 1) := by decide +kernel
theorem dX3_init_14 : decode cX3_init 14 = .ok (.putfield 15, 3) := by decide +kernel
theorem dX3_init_17 : decode cX3_init 17 = .ok (.aload_n 0, 1) := by decide +kernel
theorem dX3_init_18 : decode cX3_init 18 = .ok (.iconst 0, 1) := by decide +kernel
theorem dX3_init_19 : decode cX3_init 19 = .ok (.putfield 19, 3) := by decide +kernel
theorem dX3_init_22 : decode cX3_init 22 = .ok (.aload_n 0, 1) := by decide +kernel
theorem dX3_init_23 : decode cX3_init 23 = .ok (.iconst 0, 1) := by decide +kernel
theorem dX3_init_24 : decode cX3_init 24 = .ok (.putfield 22, 3) := by decide +kernel
theorem dX3_init_27 : decode cX3_init 27 = .ok (.aload_n 0, 1) := by decide +kernel
theorem dX3_init_28 : decode cX3_init 28 = .ok (.iload_n 1, 1) := by decide +kernel
theorem dX3_init_29 : decode cX3_init 29 = .ok (.putfield 26, 3) := by decide +kernel
theorem dX3_init_32 : decode cX3_init 32 = .ok (.aload_n 0, 1) := by decide +kernel
theorem dX3_init_33 : decode cX3_init 33 = .ok (.iload_n 2, 1) := by decide +kernel
theorem dX3_init_34 : decode cX3_init 34 = .ok (.putfield 29, 3) := by decide +kernel
theorem dX3_init_37 : decode cX3_init 37 = .ok (.aload_n 0, 1) := by decide +kernel
theorem dX3_init_38 : decode cX3_init 38 = .ok (.iload_n 3, 1) := by decide +kernel
theorem dX3_init_39 : decode cX3_init 39 = .ok (.putfield 32, 3) := by decide +kernel
theorem dX3_init_42 : decode cX3_init 42 = .ok (.aload_n 0, 1) := by decide +kernel
theorem dX3_init_43 : decode cX3_init 43 = .ok (.iload 4, 2) := by decide +kernel
theorem dX3_init_45 : decode cX3_init 45 = .ok (.putfield 35, 3) := by decide +kernel
theorem dX3_init_48 : decode cX3_init 48 = .ok (.aload_n 0, 1) := by decide +kernel
theorem dX3_init_49 : decode cX3_init 49 = .ok (.iload 5, 2) := by decide +kernel
theorem dX3_init_51 : decode cX3_init 51 = .ok (.putfield 38, 3) := by decide +kernel
theorem dX3_init_54 : decode cX3_init 54 = .ok (.aload_n 0, 1) := by decide +kernel
theorem dX3_init_55 : decode cX3_init 55 = .ok (.iload_n 1, 1) := by decide +kernel
theorem dX3_init_56 : decode cX3_init 56 = .ok (.putfield 41, 3) := by decide +kernel
theorem dX3_init_59 : decode cX3_init 59 = .ok (.aload_n 0, 1) := by decide +kernel
theorem dX3_init_60 : decode cX3_init 60 = .ok (.iload_n 3, 1) := by decide +kernel
theorem dX3_init_61 : decode cX3_init 61 = .ok (.putfield 44, 3) := by decide +kernel
theorem dX3_init_64 : decode cX3_init 64 = .ok (.return_, 1) := by decide +kernel
theorem dX3_carries_0 : decode cX3_carries 0 = .ok (.aload_n 0, 1) := by decide +kernel
theorem dX3_carries_1 : decode cX3_carries 1 = .ok (.getfield 22, 3) := by decide +kernel
theorem dX3_carries_4 : decode cX3_carries 4 = .ok (.ifCond .ne 18, 3) := by decide +kernel
theorem dX3_carries_7 : decode cX3_carries 7 = .ok (.aload_n 0, 1) := by decide +kernel
theorem dX3_carries_8 : decode cX3_carries 8 = .ok (.getfield 38, 3) := by decide +kernel
theorem dX3_carries_11 : decode cX3_carries 11 = .ok (.iload_n 1, 1) := by decide +kernel
theorem dX3_carries_12 : decode cX3_carries 12 = .ok (.invokestatic 47, 3) := by decide +kernel
theorem dX3_carries_15 : decode cX3_carries 15 = .ok (.ifCond .eq 7, 3) := by decide +kernel
theorem dX3_carries_18 : decode cX3_carries 18 = .ok (.iconst 1, 1) := by decide +kernel
theorem dX3_carries_19 : decode cX3_carries 19 = .ok (.goto 4, 3) := by decide +kernel
theorem dX3_carries_22 : decode cX3_carries 22 = .ok (.iconst 0, 1) := by decide +kernel
theorem dX3_carries_23 : decode cX3_carries 23 = .ok (.ireturn, 1) := by decide +kernel
theorem dX3_isOnDuty_0 : decode cX3_isOnDuty 0 = .ok (.aload_n 0, 1) := by decide +kernel
theorem dX3_isOnDuty_1 : decode cX3_isOnDuty 1 = .ok (.getfield 32, 3) := by decide +kernel
theorem dX3_isOnDuty_4 : decode cX3_isOnDuty 4 = .ok (.iload_n 1, 1) := by decide +kernel
theorem dX3_isOnDuty_5 : decode cX3_isOnDuty 5 = .ok (.if_icmp .gt 15, 3) := by decide +kernel
theorem dX3_isOnDuty_8 : decode cX3_isOnDuty 8 = .ok (.iload_n 1, 1) := by decide +kernel
theorem dX3_isOnDuty_9 : decode cX3_isOnDuty 9 = .ok (.aload_n 0, 1) := by decide +kernel
theorem dX3_isOnDuty_10 : decode cX3_isOnDuty 10 = .ok (.getfield 35, 3) := by decide +kernel
theorem dX3_isOnDuty_13 : decode cX3_isOnDuty 13 = .ok (.if_icmp .gt 7, 3) := by decide +kernel
theorem dX3_isOnDuty_16 : decode cX3_isOnDuty 16 = .ok (.iconst 1, 1) := by decide +kernel
theorem dX3_isOnDuty_17 : decode cX3_isOnDuty 17 = .ok (.goto 4, 3) := by decide +kernel
theorem dX3_isOnDuty_20 : decode cX3_isOnDuty 20 = .ok (.iconst 0, 1) := by decide +kernel
theorem dX3_isOnDuty_21 : decode cX3_isOnDuty 21 = .ok (.ireturn, 1) := by decide +kernel
theorem dX3_shortenWays_0 : decode cX3_shortenWays 0 = .ok (.iconst 0, 1) := by decide +kernel
theorem dX3_shortenWays_1 : decode cX3_shortenWays 1 = .ok (.istore_n 1, 1) := by decide +kernel
theorem dX3_shortenWays_2 : decode cX3_shortenWays 2 = .ok (.iload_n 1, 1) := by decide +kernel
theorem dX3_shortenWays_3 : decode cX3_shortenWays 3 = .ok (.bipush 8, 2) := by decide +kernel
theorem dX3_shortenWays_5 : decode cX3_shortenWays 5 = .ok (.if_icmp .ge 121, 3) := by decide +kernel
theorem dX3_shortenWays_8 : decode cX3_shortenWays 8 = .ok (.iconst 0, 1) := by decide +kernel
theorem dX3_shortenWays_9 : decode cX3_shortenWays 9 = .ok (.istore_n 2, 1) := by decide +kernel
theorem dX3_shortenWays_10 : decode cX3_shortenWays 10 = .ok (.iload_n 2, 1) := by decide +kernel
theorem dX3_shortenWays_11 : decode cX3_shortenWays 11 = .ok (.bipush 8, 2) := by decide +kernel
theorem dX3_shortenWays_13 : decode cX3_shortenWays 13 = .ok (.if_icmp .ge 107, 3) := by decide +kernel
theorem dX3_shortenWays_16 : decode cX3_shortenWays 16 = .ok (.aload_n 0, 1) := by decide +kernel
theorem dX3_shortenWays_17 : decode cX3_shortenWays 17 = .ok (.getfield 9, 3) := by decide +kernel
theorem dX3_shortenWays_20 : decode cX3_shortenWays 20 = .ok (.iload_n 2, 1) := by decide +kernel
theorem dX3_shortenWays_21 : decode cX3_shortenWays 21 = .ok (.bipush 8, 2) := by decide +kernel
theorem dX3_shortenWays_23 : decode cX3_shortenWays 23 = .ok (.imul, 1) := by decide +kernel
theorem dX3_shortenWays_24 : decode cX3_shortenWays 24 = .ok (.iload_n 1, 1) := by decide +kernel
theorem dX3_shortenWays_25 : decode cX3_shortenWays 25 = .ok (.iadd, 1) := by decide +kernel
theorem dX3_shortenWays_26 : decode cX3_shortenWays 26 = .ok (.iaload, 1) := by decide +kernel
theorem dX3_shortenWays_27 : decode cX3_shortenWays 27 = .ok (.istore_n 3, 1) := by decide +kernel
theorem dX3_shortenWays_28 : decode cX3_shortenWays 28 = .ok (.iconst 0, 1) := by decide +kernel
theorem dX3_shortenWays_29 : decode cX3_shortenWays 29 = .ok (.istore 4, 2) := by decide +kernel
theorem dX3_shortenWays_31 : decode cX3_shortenWays 31 = .ok (.iload_n 3, 1) := by decide +kernel
theorem dX3_shortenWays_32 : decode cX3_shortenWays 32 = .ok (.iconst (-1), 1) := by decide +kernel
theorem dX3_shortenWays_33 : decode cX3_shortenWays 33 = .ok (.if_icmp .eq 81, 3) := by decide +kernel
theorem dX3_shortenWays_36 : decode cX3_shortenWays 36 = .ok (.iload 4, 2) := by decide +kernel
theorem dX3_shortenWays_38 : decode cX3_shortenWays 38 = .ok (.bipush 8, 2) := by decide +kernel
theorem dX3_shortenWays_40 : decode cX3_shortenWays 40 = .ok (.if_icmp .ge 74, 3) := by decide +kernel
theorem dX3_shortenWays_43 : decode cX3_shortenWays 43 = .ok (.aload_n 0, 1) := by decide +kernel
theorem dX3_shortenWays_44 : decode cX3_shortenWays 44 = .ok (.getfield 9, 3) := by decide +kernel
theorem dX3_shortenWays_47 : decode cX3_shortenWays 47 = .ok (.iload_n 1, 1) := by decide +kernel
theorem dX3_shortenWays_48 : decode cX3_shortenWays 48 = .ok (.bipush 8, 2) := by decide +kernel
theorem dX3_shortenWays_50 : decode cX3_shortenWays 50 = .ok (.imul, 1) := by decide +kernel
theorem dX3_shortenWays_51 : decode cX3_shortenWays 51 = .ok (.iload 4, 2) := by decide +kernel
theorem dX3_shortenWays_53 : decode cX3_shortenWays 53 = .ok (.iadd, 1) := by decide +kernel
theorem dX3_shortenWays_54 : decode cX3_shortenWays 54 = .ok (.iaload, 1) := by decide +kernel
theorem dX3_shortenWays_55 : decode cX3_shortenWays 55 = .ok (.istore 5, 2) := by decide +kernel
theorem dX3_shortenWays_57 : decode cX3_shortenWays 57 = .ok (.aload_n 0, 1) := by decide +kernel
theorem dX3_shortenWays_58 : decode cX3_shortenWays 58 = .ok (.getfield 9, 3) := by decide +kernel
theorem dX3_shortenWays_61 : decode cX3_shortenWays 61 = .ok (.iload_n 2, 1) := by decide +kernel
theorem dX3_shortenWays_62 : decode cX3_shortenWays 62 = .ok (.bipush 8, 2) := by decide +kernel
theorem dX3_shortenWays_64 : decode cX3_shortenWays 64 = .ok (.imul, 1) := by decide +kernel
theorem dX3_shortenWays_65 : decode cX3_shortenWays 65 = .ok (.iload 4, 2) := by decide +kernel
theorem dX3_shortenWays_67 : decode cX3_shortenWays 67 = .ok (.iadd, 1) := by decide +kernel
theorem dX3_shortenWays_68 : decode cX3_shortenWays 68 = .ok (.iaload, 1) := by decide +kernel
theorem dX3_shortenWays_69 : decode cX3_shortenWays 69 = .ok (.istore 6, 2) := by decide +kernel
theorem dX3_shortenWays_71 : decode cX3_shortenWays 71 = .ok (.iload 5, 2) := by decide +kernel
theorem dX3_shortenWays_73 : decode cX3_shortenWays 73 = .ok (.iconst (-1), 1) := by decide +kernel
theorem dX3_shortenWays_74 : decode cX3_shortenWays 74 = .ok (.if_icmp .eq 34, 3) := by decide +kernel
theorem dX3_shortenWays_77 : decode cX3_shortenWays 77 = .ok (.iload 6, 2) := by decide +kernel
theorem dX3_shortenWays_79 : decode cX3_shortenWays 79 = .ok (.iconst (-1), 1) := by decide +kernel
theorem dX3_shortenWays_80 : decode cX3_shortenWays 80 = .ok (.if_icmp .eq 12, 3) := by decide +kernel
theorem dX3_shortenWays_83 : decode cX3_shortenWays 83 = .ok (.iload_n 3, 1) := by decide +kernel
theorem dX3_shortenWays_84 : decode cX3_shortenWays 84 = .ok (.iload 5, 2) := by decide +kernel
theorem dX3_shortenWays_86 : decode cX3_shortenWays 86 = .ok (.iadd, 1) := by decide +kernel
theorem dX3_shortenWays_87 : decode cX3_shortenWays 87 = .ok (.iload 6, 2) := by decide +kernel
theorem dX3_shortenWays_89 : decode cX3_shortenWays 89 = .ok (.if_icmp .ge 19, 3) := by decide +kernel
theorem dX3_shortenWays_92 : decode cX3_shortenWays 92 = .ok (.aload_n 0, 1) := by decide +kernel
theorem dX3_shortenWays_93 : decode cX3_shortenWays 93 = .ok (.getfield 9, 3) := by decide +kernel
theorem dX3_shortenWays_96 : decode cX3_shortenWays 96 = .ok (.iload_n 2, 1) := by decide +kernel
theorem dX3_shortenWays_97 : decode cX3_shortenWays 97 = .ok (.bipush 8, 2) := by decide +kernel
theorem dX3_shortenWays_99 : decode cX3_shortenWays 99 = .ok (.imul, 1) := by decide +kernel
theorem dX3_shortenWays_100 : decode cX3_shortenWays 100 = .ok (.iload 4, 2) := by decide +kernel
theorem dX3_shortenWays_102 : decode cX3_shortenWays 102 = .ok (.iadd, 1) := by decide +kernel
theorem dX3_shortenWays_103 : decode cX3_shortenWays 103 = .ok (.iload_n 3, 1) := by decide +kernel
theorem dX3_shortenWays_104 : decode cX3_shortenWays 104 = .ok (.iload 5, 2) := by decide +kernel
theorem dX3_shortenWays_106 : decode cX3_shortenWays 106 = .ok (.iadd, 1) := by decide +kernel
theorem dX3_shortenWays_107 : decode cX3_shortenWays 107 = .ok (.iastore, 1) := by decide +kernel
theorem dX3_shortenWays_108 : decode cX3_shortenWays 108 = .ok (.iinc 4 1, 3) := by decide +kernel
theorem dX3_shortenWays_111 : decode cX3_shortenWays 111 = .ok (.goto (-80), 3) := by decide +kernel
theorem dX3_shortenWays_114 : decode cX3_shortenWays 114 = .ok (.iinc 2 1, 3) := by decide +kernel
theorem dX3_shortenWays_117 : decode cX3_shortenWays 117 = .ok (.goto (-107), 3) := by decide +kernel
theorem dX3_shortenWays_120 : decode cX3_shortenWays 120 = .ok (.iinc 1 1, 3) := by decide +kernel
theorem dX3_shortenWays_123 : decode cX3_shortenWays 123 = .ok (.goto (-121), 3) := by decide +kernel
theorem dX3_shortenWays_126 : decode cX3_shortenWays 126 = .ok (.return_, 1) := by decide +kernel
theorem dJ9_max_7cf53_0 : decode cJ9_max_7cf53 0 = .ok (.iload_n 0, 1) := by decide +kernel
theorem dJ9_max_7cf53_1 : decode cJ9_max_7cf53 1 = .ok (.iload_n 1, 1) := by decide +kernel
theorem dJ9_max_7cf53_2 : decode cJ9_max_7cf53 2 = .ok (.if_icmp .lt 7, 3) := by decide +kernel
theorem dJ9_max_7cf53_5 : decode cJ9_max_7cf53 5 = .ok (.iload_n 0, 1) := by decide +kernel
theorem dJ9_max_7cf53_6 : decode cJ9_max_7cf53 6 = .ok (.goto 4, 3) := by decide +kernel
theorem dJ9_max_7cf53_9 : decode cJ9_max_7cf53 9 = .ok (.iload_n 1, 1) := by decide +kernel
theorem dJ9_max_7cf53_10 : decode cJ9_max_7cf53 10 = .ok (.ireturn, 1) := by decide +kernel
end
section
theorem dX4_init_0 : decode cX4_init 0 = .ok (.aload_n 0, 1) := by decide +kernel
theorem dX4_init_1 : decode cX4_init 1 = .ok (.invokespecial 3, 3) := by decide +kernel
theorem dX4_init_4 : decode cX4_init 4 = .ok (.aload_n 0, 1) := by decide +kernel
theorem dX4_init_5 : decode cX4_init 5 = .ok (.bipush 64, 2) := by decide +kernel
theorem dX4_init_7 : decode cX4_init 7 = .ok (.newarray .int, 2) := by decide +kernel
theorem dX4_init_9 : decode cX4_init 9 = .ok (.putfield 9, 3) := by decide +kernel
theorem dX4_init_12 : decode cX4_init 12 = .ok (.aload_n 0, 1) := by decide +kernel
theorem dX4_init_13 : decode cX4_init 13 = .ok (.bipush 6, 2) := by decide +kernel
theorem dX4_init_15 : decode cX4_init 15 = .ok (.anewarray 13, 3) := by decide +kernel
theorem dX4_init_18 : decode cX4_init 18 = .ok (.putfield 15, 3) := by decide +kernel
theorem dX4_init_21 : decode cX4_init 21 = .ok (.aload_n 0, 1) := by decide +kernel
theorem dX4_init_22 : decode cX4_init 22 = .ok (.bipush 40, 2) := by decide +kernel
theorem dX4_init_24 : decode cX4_init 24 = .ok (.anewarray 19, 3) := by decide +kernel
theorem dX4_init_27 : decode cX4_init 27 = .ok (.putfield 21, 3) := by decide +kernel
theorem dX4_init_30 : decode cX4_init 30 = .ok (.aload_n 0, 1) := by decide +kernel
theorem dX4_init_31 : decode cX4_init 31 = .ok (.new 25, 3) := by decide +kernel
theorem dX4_init_34 : decode cX4_init 34 = .ok (.dup, 1) := by decide +kernel
theorem dX4_init_35 : decode cX4_init 35 = .ok (.invokespecial 27, 3) := by decide +kernel
theorem dX4_init_38 : decode cX4_init 38 = .ok (.putfield 28, 3) := by decide +kernel
theorem dX4_init_41 : decode cX4_init 41 = .ok (.aload_n 0, 1) := by decide +kernel
theorem dX4_init_42 : decode cX4_init 42 = .ok (.new 25, 3) := by decide +kernel
theorem dX4_init_45 : decode cX4_init 45 = .ok (.dup, 1) := by decide +kernel
theorem dX4_init_46 : decode cX4_init 46 = .ok (.invokespecial 27, 3) := by decide +kernel
theorem dX4_init_49 : decode cX4_init 49 = .ok (.putfield 32, 3) := by decide +kernel
theorem dX4_init_52 : decode cX4_init 52 = .ok (.aload_n 0, 1) := by decide +kernel
theorem dX4_init_53 : decode cX4_init 53 = .ok (.iconst 0, 1) := by decide +kernel
theorem dX4_init_54 : decode cX4_init 54 = .ok (.putfield 35, 3) := by decide +kernel
theorem dX4_init_57 : decode cX4_init 57 = .ok (.aload_n 0, 1) := by decide +kernel
theorem dX4_init_58 : decode cX4_init 58 = .ok (.iconst 0, 1) := by decide +kernel
theorem dX4_init_59 : decode cX4_init 59 = .ok (.putfield 39, 3) := by decide +kernel
theorem dX4_init_62 : decode cX4_init 62 = .ok (.aload_n 0, 1) := by decide +kernel
theorem dX4_init_63 : decode cX4_init 63 = .ok (.iconst 0, 1) := by decide +kernel
theorem dX4_init_64 : decode cX4_init 64 = .ok (.putfield 42, 3) := by decide +kernel
theorem dX4_init_67 : decode cX4_init 67 = .ok (.aload_n 0, 1) := by decide +kernel
theorem dX4_init_68 : decode cX4_init 68 = .ok (.bipush 30, 2) := by decide +kernel
theorem dX4_init_70 : decode cX4_init 70 = .ok (.putfield 45, 3) := by decide +kernel
theorem dX4_init_73 : decode cX4_init 73 = .ok (.aload_n 0, 1) := by decide +kernel
theorem dX4_init_74 : decode cX4_init 74 = .ok (.iconst (-1), 1) := by decide +kernel
theorem dX4_init_75 : decode cX4_init 75 = .ok (.putfield 48, 3) := by decide +kernel
theorem dX4_init_78 : decode cX4_init 78 = .ok (.return_, 1) := by decide +kernel
theorem dX4_place_0 : decode cX4_place 0 = .ok (.aload_n 0, 1) := by decide +kernel
theorem dX4_place_1 : decode cX4_place 1 = .ok (.getfield 35, 3) := by decide +kernel
theorem dX4_place_4 : decode cX4_place 4 = .ok (.bipush 8, 2) := by decide +kernel
theorem dX4_place_6 : decode cX4_place 6 = .ok (.if_icmp .lt 5, 3) := by decide +kernel
theorem dX4_place_9 : decode cX4_place 9 = .ok (.iconst (-1), 1) := by decide +kernel
theorem dX4_place_10 : decode cX4_place 10 = .ok (.ireturn, 1) := by decide +kernel
theorem dX4_place_11 : decode cX4_place 11 = .ok (.aload_n 0, 1) := by decide +kernel
theorem dX4_place_12 : decode cX4_place 12 = .ok (.dup, 1) := by decide +kernel
theorem dX4_place_13 : decode cX4_place 13 = .ok (.getfield 35, 3) := by decide +kernel
theorem dX4_place_16 : decode cX4_place 16 = .ok (.iconst 1, 1) := by decide +kernel
theorem dX4_place_17 : decode cX4_place 17 = .ok (.iadd, 1) := by decide +kernel
theorem dX4_place_18 : decode cX4_place 18 = .ok (.putfield 35, 3) := by decide +kernel
theorem dX4_place_21 : decode cX4_place 21 = .ok (.aload_n 0, 1) := by decide +kernel
theorem dX4_place_22 : decode cX4_place 22 = .ok (.getfield 35, 3) := by decide +kernel
theorem dX4_place_25 : decode cX4_place 25 = .ok (.iconst 1, 1) := by decide +kernel
theorem dX4_place_26 : decode cX4_place 26 = .ok (.isub, 1) := by decide +kernel
theorem dX4_place_27 : decode cX4_place 27 = .ok (.ireturn, 1) := by decide +kernel
theorem dX4_road_0 : decode cX4_road 0 = .ok (.aload_n 0, 1) := by decide +kernel
theorem dX4_road_1 : decode cX4_road 1 = .ok (.iload_n 1, 1) := by decide +kernel
theorem dX4_road_2 : decode cX4_road 2 = .ok (.invokevirtual 51, 3) := by decide +kernel
theorem dX4_road_5 : decode cX4_road 5 = .ok (.ifCond .eq 27, 3) := by decide +kernel
theorem dX4_road_8 : decode cX4_road 8 = .ok (.aload_n 0, 1) := by decide +kernel
theorem dX4_road_9 : decode cX4_road 9 = .ok (.iload_n 2, 1) := by decide +kernel
theorem dX4_road_10 : decode cX4_road 10 = .ok (.invokevirtual 51, 3) := by decide +kernel
theorem dX4_road_13 : decode cX4_road 13 = .ok (.ifCond .eq 19, 3) := by decide +kernel
theorem dX4_road_16 : decode cX4_road 16 = .ok (.iload_n 1, 1) := by decide +kernel
theorem dX4_road_17 : decode cX4_road 17 = .ok (.iload_n 2, 1) := by decide +kernel
theorem dX4_road_18 : decode cX4_road 18 = .ok (.if_icmp .eq 14, 3) := by decide +kernel
theorem dX4_road_21 : decode cX4_road 21 = .ok (.iload_n 3, 1) := by decide +kernel
theorem dX4_road_22 : decode cX4_road 22 = .ok (.ifCond .lt 10, 3) := by decide +kernel
theorem dX4_road_25 : decode cX4_road 25 = .ok (.iload_n 3, 1) := by decide +kernel
theorem dX4_road_26 : decode cX4_road 26 = .ok (.sipush 600, 3) := by decide +kernel
theorem dX4_road_29 : decode cX4_road 29 = .ok (.if_icmp .le 5, 3) := by decide +kernel
theorem dX4_road_32 : decode cX4_road 32 = .ok (.iconst 0, 1) := by decide +kernel
theorem dX4_road_33 : decode cX4_road 33 = .ok (.ireturn, 1) := by decide +kernel
theorem dX4_road_34 : decode cX4_road 34 = .ok (.aload_n 0, 1) := by decide +kernel
theorem dX4_road_35 : decode cX4_road 35 = .ok (.getfield 9, 3) := by decide +kernel
theorem dX4_road_38 : decode cX4_road 38 = .ok (.iload_n 1, 1) := by decide +kernel
theorem dX4_road_39 : decode cX4_road 39 = .ok (.bipush 8, 2) := by decide +kernel
theorem dX4_road_41 : decode cX4_road 41 = .ok (.imul, 1) := by decide +kernel
theorem dX4_road_42 : decode cX4_road 42 = .ok (.iload_n 2, 1) := by decide +kernel
theorem dX4_road_43 : decode cX4_road 43 = .ok (.iadd, 1) := by decide +kernel
theorem dX4_road_44 : decode cX4_road 44 = .ok (.iload_n 3, 1) := by decide +kernel
theorem dX4_road_45 : decode cX4_road 45 = .ok (.iastore, 1) := by decide +kernel
theorem dX4_road_46 : decode cX4_road 46 = .ok (.aload_n 0, 1) := by decide +kernel
theorem dX4_road_47 : decode cX4_road 47 = .ok (.getfield 9, 3) := by decide +kernel
theorem dX4_road_50 : decode cX4_road 50 = .ok (.iload_n 2, 1) := by decide +kernel
theorem dX4_road_51 : decode cX4_road 51 = .ok (.bipush 8, 2) := by decide +kernel
theorem dX4_road_53 : decode cX4_road 53 = .ok (.imul, 1) := by decide +kernel
theorem dX4_road_54 : decode cX4_road 54 = .ok (.iload_n 1, 1) := by decide +kernel
theorem dX4_road_55 : decode cX4_road 55 = .ok (.iadd, 1) := by decide +kernel
theorem dX4_road_56 : decode cX4_road 56 = .ok (.iload_n 3, 1) := by decide +kernel
theorem dX4_road_57 : decode cX4_road 57 = .ok (.iastore, 1) := by decide +kernel
theorem dX4_road_58 : decode cX4_road 58 = .ok (.iconst 0, 1) := by decide +kernel
theorem dX4_road_59 : decode cX4_road 59 = .ok (.istore 4, 2) := by decide +kernel
theorem dX4_road_61 : decode cX4_road 61 = .ok (.iload 4, 2) := by decide +kernel
theorem dX4_road_63 : decode cX4_road 63 = .ok (.aload_n 0, 1) := by decide +kernel
theorem dX4_road_64 : decode cX4_road 64 = .ok (.getfield 39, 3) := by decide +kernel
theorem dX4_road_67 : decode cX4_road 67 = .ok (.if_icmp .ge 28, 3) := by decide +kernel
theorem dX4_road_70 : decode cX4_road 70 = .ok (.aload_n 0, 1) := by decide +kernel
theorem dX4_road_71 : decode cX4_road 71 = .ok (.iload 4, 2) := by decide +kernel
theorem dX4_road_73 : decode cX4_road 73 = .ok (.invokevirtual 55, 3) := by decide +kernel
theorem dX4_road_76 : decode cX4_road 76 = .ok (.astore 5, 2) := by decide +kernel
theorem dX4_road_78 : decode cX4_road 78 = .ok (.aload 5, 2) := by decide +kernel
theorem dX4_road_80 : decode cX4_road 80 = .ok (.ifnull 9, 3) := by decide +kernel
theorem dX4_road_83 : decode cX4_road 83 = .ok (.aload_n 0, 1) := by decide +kernel
theorem dX4_road_84 : decode cX4_road 84 = .ok (.aload 5, 2) := by decide +kernel
theorem dX4_road_86 : decode cX4_road 86 = .ok (.invokevirtual 59, 3) := by decide +kernel
theorem dX4_road_89 : decode cX4_road 89 = .ok (.iinc 4 1, 3) := by decide +kernel
theorem dX4_road_92 : decode cX4_road 92 = .ok (.goto (-31), 3) := by decide +kernel
theorem dX4_road_95 : decode cX4_road 95 = .ok (.iconst 1, 1) := by decide +kernel
theorem dX4_road_96 : decode cX4_road 96 = .ok (.ireturn, 1) := by decide +kernel
theorem dX4_rider_0 : decode cX4_rider 0 = .ok (.aload_n 0, 1) := by decide +kernel
theorem dX4_rider_1 : decode cX4_rider 1 = .ok (.getfield 39, 3) := by decide +kernel
theorem dX4_rider_4 : decode cX4_rider 4 = .ok (.bipush 6, 2) := by decide +kernel
theorem dX4_rider_6 : decode cX4_rider 6 = .ok (.if_icmp .ge 30, 3) := by decide +kernel
theorem dX4_rider_9 : decode cX4_rider 9 = .ok (.aload_n 0, 1) := by decide +kernel
theorem dX4_rider_10 : decode cX4_rider 10 = .ok (.iload_n 1, 1) := by decide +kernel
theorem dX4_rider_11 : decode cX4_rider 11 = .ok (.invokevirtual 51, 3) := by decide +kernel
theorem dX4_rider_14 : decode cX4_rider 14 = .ok (.ifCond .eq 22, 3) := by decide +kernel
theorem dX4_rider_17 : decode cX4_rider 17 = .ok (.iload_n 2, 1) := by decide +kernel
theorem dX4_rider_18 : decode cX4_rider 18 = .ok (.aload_n 0, 1) := by decide +kernel
theorem dX4_rider_19 : decode cX4_rider 19 = .ok (.getfield 35, 3) := by decide +kernel
theorem dX4_rider_22 : decode cX4_rider 22 = .ok (.invokestatic 63, 3) := by decide +kernel
theorem dX4_rider_25 : decode cX4_rider 25 = .ok (.ifCond .eq 11, 3) := by decide +kernel
theorem dX4_rider_28 : decode cX4_rider 28 = .ok (.iload_n 2, 1) := by decide +kernel
theorem dX4_rider_29 : decode cX4_rider 29 = .ok (.iload_n 1, 1) := by decide +kernel
theorem dX4_rider_30 : decode cX4_rider 30 = .ok (.invokestatic 67, 3) := by decide +kernel
theorem dX4_rider_33 : decode cX4_rider 33 = .ok (.ifCond .ne 5, 3) := by decide +kernel
theorem dX4_rider_36 : decode cX4_rider 36 = .ok (.iconst (-1), 1) := by decide +kernel
theorem dX4_rider_37 : decode cX4_rider 37 = .ok (.ireturn, 1) := by decide +kernel
theorem dX4_rider_38 : decode cX4_rider 38 = .ok (.iload_n 3, 1) := by decide +kernel
theorem dX4_rider_39 : decode cX4_rider 39 = .ok (.invokestatic 70, 3) := by decide +kernel
theorem dX4_rider_42 : decode cX4_rider 42 = .ok (.ifCond .eq 26, 3) := by decide +kernel
theorem dX4_rider_45 : decode cX4_rider 45 = .ok (.iload 4, 2) := by decide +kernel
theorem dX4_rider_47 : decode cX4_rider 47 = .ok (.invokestatic 70, 3) := by decide +kernel
theorem dX4_rider_50 : decode cX4_rider 50 = .ok (.ifCond .eq 18, 3) := by decide +kernel
theorem dX4_rider_53 : decode cX4_rider 53 = .ok (.iload_n 3, 1) := by decide +kernel
theorem dX4_rider_54 : decode cX4_rider 54 = .ok (.iload 4, 2) := by decide +kernel
theorem dX4_rider_56 : decode cX4_rider 56 = .ok (.if_icmp .gt 12, 3) := by decide +kernel
theorem dX4_rider_59 : decode cX4_rider 59 = .ok (.iload 5, 2) := by decide +kernel
theorem dX4_rider_61 : decode cX4_rider 61 = .ok (.iconst 4, 1) := by decide +kernel
theorem dX4_rider_62 : decode cX4_rider 62 = .ok (.invokestatic 63, 3) := by decide +kernel
theorem dX4_rider_65 : decode cX4_rider 65 = .ok (.ifCond .ne 5, 3) := by decide +kernel
theorem dX4_rider_68 : decode cX4_rider 68 = .ok (.iconst (-1), 1) := by decide +kernel
theorem dX4_rider_69 : decode cX4_rider 69 = .ok (.ireturn, 1) := by decide +kernel
theorem dX4_rider_70 : decode cX4_rider 70 = .ok (.new 13, 3) := by decide +kernel
theorem dX4_rider_73 : decode cX4_rider 73 = .ok (.dup, 1) := by decide +kernel
theorem dX4_rider_74 : decode cX4_rider 74 = .ok (.iload_n 1, 1) := by decide +kernel
theorem dX4_rider_75 : decode cX4_rider 75 = .ok (.iload_n 2, 1) := by decide +kernel
theorem dX4_rider_76 : decode cX4_rider 76 = .ok (.iload_n 3, 1) := by decide +kernel
theorem dX4_rider_77 : decode cX4_rider 77 = .ok (.iload 4, 2) := by decide +kernel
theorem dX4_rider_79 : decode cX4_rider 79 = .ok (.iload 5, 2) := by decide +kernel
theorem dX4_rider_81 : decode cX4_rider 81 = .ok (.invokespecial 73, 3) := by decide +kernel
theorem dX4_rider_84 : decode cX4_rider 84 = .ok (.astore 6, 2) := by decide +kernel
theorem dX4_rider_86 : decode cX4_rider 86 = .ok (.aload_n 0, 1) := by decide +kernel
theorem dX4_rider_87 : decode cX4_rider 87 = .ok (.aload 6, 2) := by decide +kernel
theorem dX4_rider_89 : decode cX4_rider 89 = .ok (.invokevirtual 59, 3) := by decide +kernel
theorem dX4_rider_92 : decode cX4_rider 92 = .ok (.aload_n 0, 1) := by decide +kernel
theorem dX4_rider_93 : decode cX4_rider 93 = .ok (.getfield 15, 3) := by decide +kernel
theorem dX4_rider_96 : decode cX4_rider 96 = .ok (.aload_n 0, 1) := by decide +kernel
theorem dX4_rider_97 : decode cX4_rider 97 = .ok (.getfield 39, 3) := by decide +kernel
theorem dX4_rider_100 : decode cX4_rider 100 = .ok (.aload 6, 2) := by decide +kernel
theorem dX4_rider_102 : decode cX4_rider 102 = .ok (.aastore, 1) := by decide +kernel
theorem dX4_rider_103 : decode cX4_rider 103 = .ok (.aload_n 0, 1) := by decide +kernel
theorem dX4_rider_104 : decode cX4_rider 104 = .ok (.dup, 1) := by decide +kernel
theorem dX4_rider_105 : decode cX4_rider 105 = .ok (.getfield 39, 3) := by decide +kernel
theorem dX4_rider_108 : decode cX4_rider 108 = .ok (.iconst 1, 1) := by decide +kernel
theorem dX4_rider_109 : decode cX4_rider 109 = .ok (.iadd, 1) := by decide +kernel
theorem dX4_rider_110 : decode cX4_rider 110 = .ok (.putfield 39, 3) := by decide +kernel
theorem dX4_rider_113 : decode cX4_rider 113 = .ok (.aload_n 0, 1) := by decide +kernel
theorem dX4_rider_114 : decode cX4_rider 114 = .ok (.getfield 39, 3) := by decide +kernel
theorem dX4_rider_117 : decode cX4_rider 117 = .ok (.iconst 1, 1) := by decide +kernel
theorem dX4_rider_118 : decode cX4_rider 118 = .ok (.isub, 1) := by decide +kernel
theorem dX4_rider_119 : decode cX4_rider 119 = .ok (.ireturn, 1) := by decide +kernel
theorem dX4_rest_0 : decode cX4_rest 0 = .ok (.iload_n 1, 1) := by decide +kernel
theorem dX4_rest_1 : decode cX4_rest 1 = .ok (.ifCond .lt 10, 3) := by decide +kernel
theorem dX4_rest_4 : decode cX4_rest 4 = .ok (.iload_n 1, 1) := by decide +kernel
theorem dX4_rest_5 : decode cX4_rest 5 = .ok (.sipush 600, 3) := by decide +kernel
theorem dX4_rest_8 : decode cX4_rest 8 = .ok (.if_icmp .le 5, 3) := by decide +kernel
theorem dX4_rest_11 : decode cX4_rest 11 = .ok (.iconst (-1), 1) := by decide +kernel
theorem dX4_rest_12 : decode cX4_rest 12 = .ok (.ireturn, 1) := by decide +kernel
theorem dX4_rest_13 : decode cX4_rest 13 = .ok (.aload_n 0, 1) := by decide +kernel
theorem dX4_rest_14 : decode cX4_rest 14 = .ok (.getfield 45, 3) := by decide +kernel
theorem dX4_rest_17 : decode cX4_rest 17 = .ok (.istore_n 2, 1) := by decide +kernel
theorem dX4_rest_18 : decode cX4_rest 18 = .ok (.aload_n 0, 1) := by decide +kernel
theorem dX4_rest_19 : decode cX4_rest 19 = .ok (.iload_n 1, 1) := by decide +kernel
theorem dX4_rest_20 : decode cX4_rest 20 = .ok (.putfield 45, 3) := by decide +kernel
theorem dX4_rest_23 : decode cX4_rest 23 = .ok (.iload_n 2, 1) := by decide +kernel
theorem dX4_rest_24 : decode cX4_rest 24 = .ok (.ireturn, 1) := by decide +kernel
theorem dX4_count_0 : decode cX4_count 0 = .ok (.iload_n 1, 1) := by decide +kernel
theorem dX4_count_1 : decode cX4_count 1 = .ok (.tableswitch 60 0 5 #[39, 44, 49, 54, 54, 54], 39) := by decide +kernel
theorem dX4_count_40 : decode cX4_count 40 = .ok (.aload_n 0, 1) := by decide +kernel
theorem dX4_count_41 : decode cX4_count 41 = .ok (.getfield 35, 3) := by decide +kernel
theorem dX4_count_44 : decode cX4_count 44 = .ok (.ireturn, 1) := by decide +kernel
theorem dX4_count_45 : decode cX4_count 45 = .ok (.aload_n 0, 1) := by decide +kernel
theorem dX4_count_46 : decode cX4_count 46 = .ok (.getfield 39, 3) := by decide +kernel
theorem dX4_count_49 : decode cX4_count 49 = .ok (.ireturn, 1) := by decide +kernel
theorem dX4_count_50 : decode cX4_count 50 = .ok (.aload_n 0, 1) := by decide +kernel
theorem dX4_count_51 : decode cX4_count 51 = .ok (.getfield 42, 3) := by decide +kernel
theorem dX4_count_54 : decode cX4_count 54 = .ok (.ireturn, 1) := by decide +kernel
theorem dX4_count_55 : decode cX4_count 55 = .ok (.aload_n 0, 1) := by decide +kernel
theorem dX4_count_56 : decode cX4_count 56 = .ok (.iload_n 1, 1) := by decide +kernel
theorem dX4_count_57 : decode cX4_count 57 = .ok (.invokevirtual 76, 3) := by decide +kernel
theorem dX4_count_60 : decode cX4_count 60 = .ok (.ireturn, 1) := by decide +kernel
theorem dX4_count_61 : decode cX4_count 61 = .ok (.iconst (-1), 1) := by decide +kernel
theorem dX4_count_62 : decode cX4_count 62 = .ok (.ireturn, 1) := by decide +kernel
theorem dX4_way_0 : decode cX4_way 0 = .ok (.aload_n 0, 1) := by decide +kernel
theorem dX4_way_1 : decode cX4_way 1 = .ok (.iload_n 1, 1) := by decide +kernel
theorem dX4_way_2 : decode cX4_way 2 = .ok (.invokevirtual 55, 3) := by decide +kernel
theorem dX4_way_5 : decode cX4_way 5 = .ok (.astore 4, 2) := by decide +kernel
theorem dX4_way_7 : decode cX4_way 7 = .ok (.aload 4, 2) := by decide +kernel
theorem dX4_way_9 : decode cX4_way 9 = .ok (.ifnonnull 7, 3) := by decide +kernel
theorem dX4_way_12 : decode cX4_way 12 = .ok (.iconst (-1), 1) := by decide +kernel
theorem dX4_way_13 : decode cX4_way 13 = .ok (.goto 11, 3) := by decide +kernel
theorem dX4_way_16 : decode cX4_way 16 = .ok (.aload_n 0, 1) := by decide +kernel
theorem dX4_way_17 : decode cX4_way 17 = .ok (.aload 4, 2) := by decide +kernel
theorem dX4_way_19 : decode cX4_way 19 = .ok (.iload_n 2, 1) := by decide +kernel
theorem dX4_way_20 : decode cX4_way 20 = .ok (.iload_n 3, 1) := by decide +kernel
theorem dX4_way_21 : decode cX4_way 21 = .ok (.invokevirtual 80, 3) := by decide +kernel
theorem dX4_way_24 : decode cX4_way 24 = .ok (.ireturn, 1) := by decide +kernel
theorem dX4_of_0 : decode cX4_of 0 = .ok (.aload_n 0, 1) := by decide +kernel
theorem dX4_of_1 : decode cX4_of 1 = .ok (.iload_n 1, 1) := by decide +kernel
theorem dX4_of_2 : decode cX4_of 2 = .ok (.invokevirtual 55, 3) := by decide +kernel
theorem dX4_of_5 : decode cX4_of 5 = .ok (.astore_n 3, 1) := by decide +kernel
theorem dX4_of_6 : decode cX4_of 6 = .ok (.aload_n 3, 1) := by decide +kernel
theorem dX4_of_7 : decode cX4_of 7 = .ok (.ifnonnull 13, 3) := by decide +kernel
theorem dX4_of_10 : decode cX4_of 10 = .ok (.new 84, 3) := by decide +kernel
theorem dX4_of_13 : decode cX4_of 13 = .ok (.dup, 1) := by decide +kernel
theorem dX4_of_14 : decode cX4_of 14 = .ok (.ldc 86, 2) := by decide +kernel
theorem dX4_of_16 : decode cX4_of 16 = .ok (.invokespecial 88, 3) := by decide +kernel
theorem dX4_of_19 : decode cX4_of 19 = .ok (.athrow, 1) := by decide +kernel
theorem dX4_of_20 : decode cX4_of 20 = .ok (.iload_n 2, 1) := by decide +kernel
theorem dX4_of_21 : decode cX4_of 21 = .ok (.tableswitch 89 0 6 #[43, 48, 53, 69, 74, 79, 84], 43) := by decide +kernel
theorem dX4_of_64 : decode cX4_of 64 = .ok (.aload_n 3, 1) := by decide +kernel
theorem dX4_of_65 : decode cX4_of 65 = .ok (.getfield 91, 3) := by decide +kernel
theorem dX4_of_68 : decode cX4_of 68 = .ok (.ireturn, 1) := by decide +kernel
theorem dX4_of_69 : decode cX4_of 69 = .ok (.aload_n 3, 1) := by decide +kernel
theorem dX4_of_70 : decode cX4_of 70 = .ok (.getfield 94, 3) := by decide +kernel
theorem dX4_of_73 : decode cX4_of 73 = .ok (.ireturn, 1) := by decide +kernel
theorem dX4_of_74 : decode cX4_of 74 = .ok (.aload_n 3, 1) := by decide +kernel
theorem dX4_of_75 : decode cX4_of 75 = .ok (.getfield 97, 3) := by decide +kernel
theorem dX4_of_78 : decode cX4_of 78 = .ok (.ifCond .eq 7, 3) := by decide +kernel
theorem dX4_of_81 : decode cX4_of 81 = .ok (.iconst (-1), 1) := by decide +kernel
theorem dX4_of_82 : decode cX4_of 82 = .ok (.goto 7, 3) := by decide +kernel
theorem dX4_of_85 : decode cX4_of 85 = .ok (.aload_n 3, 1) := by decide +kernel
theorem dX4_of_86 : decode cX4_of 86 = .ok (.getfield 101, 3) := by decide +kernel
theorem dX4_of_89 : decode cX4_of 89 = .ok (.ireturn, 1) := by decide +kernel
theorem dX4_of_90 : decode cX4_of 90 = .ok (.aload_n 3, 1) := by decide +kernel
theorem dX4_of_91 : decode cX4_of 91 = .ok (.getfield 104, 3) := by decide +kernel
theorem dX4_of_94 : decode cX4_of 94 = .ok (.ireturn, 1) := by decide +kernel
theorem dX4_of_95 : decode cX4_of 95 = .ok (.aload_n 3, 1) := by decide +kernel
theorem dX4_of_96 : decode cX4_of 96 = .ok (.getfield 107, 3) := by decide +kernel
theorem dX4_of_99 : decode cX4_of 99 = .ok (.ireturn, 1) := by decide +kernel
theorem dX4_of_100 : decode cX4_of 100 = .ok (.aload_n 3, 1) := by decide +kernel
theorem dX4_of_101 : decode cX4_of 101 = .ok (.getfield 110, 3) := by decide +kernel
theorem dX4_of_104 : decode cX4_of 104 = .ok (.ireturn, 1) := by decide +kernel
theorem dX4_of_105 : decode cX4_of 105 = .ok (.aload_n 3, 1) := by decide +kernel
theorem dX4_of_106 : decode cX4_of 106 = .ok (.getfield 113, 3) := by decide +kernel
theorem dX4_of_109 : decode cX4_of 109 = .ok (.ireturn, 1) := by decide +kernel
theorem dX4_of_110 : decode cX4_of 110 = .ok (.new 84, 3) := by decide +kernel
theorem dX4_of_113 : decode cX4_of 113 = .ok (.dup, 1) := by decide +kernel
theorem dX4_of_114 : decode cX4_of 114 = .ok (.ldc 116, 2) := by decide +kernel
theorem dX4_of_116 : decode cX4_of 116 = .ok (.invokespecial 88, 3) := by decide +kernel
theorem dX4_of_119 : decode cX4_of 119 = .ok (.athrow, 1) := by decide +kernel
theorem dX4_duty_0 : decode cX4_duty 0 = .ok (.iload_n 1, 1) := by decide +kernel
theorem dX4_duty_1 : decode cX4_duty 1 = .ok (.invokestatic 70, 3) := by decide +kernel
theorem dX4_duty_4 : decode cX4_duty 4 = .ok (.ifCond .eq 10, 3) := by decide +kernel
theorem dX4_duty_7 : decode cX4_duty 7 = .ok (.iload_n 2, 1) := by decide +kernel
theorem dX4_duty_8 : decode cX4_duty 8 = .ok (.invokestatic 118, 3) := by decide +kernel
theorem dX4_duty_11 : decode cX4_duty 11 = .ok (.ifCond .ne 5, 3) := by decide +kernel
theorem dX4_duty_14 : decode cX4_duty 14 = .ok (.iconst (-1), 1) := by decide +kernel
theorem dX4_duty_15 : decode cX4_duty 15 = .ok (.ireturn, 1) := by decide +kernel
theorem dX4_duty_16 : decode cX4_duty 16 = .ok (.iconst 0, 1) := by decide +kernel
theorem dX4_duty_17 : decode cX4_duty 17 = .ok (.istore_n 3, 1) := by decide +kernel
theorem dX4_duty_18 : decode cX4_duty 18 = .ok (.iconst 0, 1) := by decide +kernel
theorem dX4_duty_19 : decode cX4_duty 19 = .ok (.istore 4, 2) := by decide +kernel
theorem dX4_duty_21 : decode cX4_duty 21 = .ok (.iload 4, 2) := by decide +kernel
theorem dX4_duty_23 : decode cX4_duty 23 = .ok (.aload_n 0, 1) := by decide +kernel
theorem dX4_duty_24 : decode cX4_duty 24 = .ok (.getfield 39, 3) := by decide +kernel
theorem dX4_duty_27 : decode cX4_duty 27 = .ok (.if_icmp .ge 43, 3) := by decide +kernel
theorem dX4_duty_30 : decode cX4_duty 30 = .ok (.aload_n 0, 1) := by decide +kernel
theorem dX4_duty_31 : decode cX4_duty 31 = .ok (.iload 4, 2) := by decide +kernel
theorem dX4_duty_33 : decode cX4_duty 33 = .ok (.invokevirtual 55, 3) := by decide +kernel
theorem dX4_duty_36 : decode cX4_duty 36 = .ok (.astore 5, 2) := by decide +kernel
theorem dX4_duty_38 : decode cX4_duty 38 = .ok (.aload 5, 2) := by decide +kernel
theorem dX4_duty_40 : decode cX4_duty 40 = .ok (.ifnull 24, 3) := by decide +kernel
theorem dX4_duty_43 : decode cX4_duty 43 = .ok (.aload 5, 2) := by decide +kernel
theorem dX4_duty_45 : decode cX4_duty 45 = .ok (.iload_n 2, 1) := by decide +kernel
theorem dX4_duty_46 : decode cX4_duty 46 = .ok (.invokevirtual 121, 3) := by decide +kernel
theorem dX4_duty_49 : decode cX4_duty 49 = .ok (.ifCond .eq 15, 3) := by decide +kernel
theorem dX4_duty_52 : decode cX4_duty 52 = .ok (.aload 5, 2) := by decide +kernel
theorem dX4_duty_54 : decode cX4_duty 54 = .ok (.iload_n 1, 1) := by decide +kernel
theorem dX4_duty_55 : decode cX4_duty 55 = .ok (.invokevirtual 124, 3) := by decide +kernel
theorem dX4_duty_58 : decode cX4_duty 58 = .ok (.ifCond .eq 6, 3) := by decide +kernel
theorem dX4_duty_61 : decode cX4_duty 61 = .ok (.iinc 3 1, 3) := by decide +kernel
theorem dX4_duty_64 : decode cX4_duty 64 = .ok (.iinc 4 1, 3) := by decide +kernel
theorem dX4_duty_67 : decode cX4_duty 67 = .ok (.goto (-46), 3) := by decide +kernel
theorem dX4_duty_70 : decode cX4_duty 70 = .ok (.iload_n 3, 1) := by decide +kernel
theorem dX4_duty_71 : decode cX4_duty 71 = .ok (.ireturn, 1) := by decide +kernel
theorem dX4_bare_0 : decode cX4_bare 0 = .ok (.iload_n 1, 1) := by decide +kernel
theorem dX4_bare_1 : decode cX4_bare 1 = .ok (.invokestatic 70, 3) := by decide +kernel
theorem dX4_bare_4 : decode cX4_bare 4 = .ok (.ifCond .eq 10, 3) := by decide +kernel
theorem dX4_bare_7 : decode cX4_bare 7 = .ok (.iload_n 2, 1) := by decide +kernel
theorem dX4_bare_8 : decode cX4_bare 8 = .ok (.invokestatic 118, 3) := by decide +kernel
theorem dX4_bare_11 : decode cX4_bare 11 = .ok (.ifCond .ne 5, 3) := by decide +kernel
theorem dX4_bare_14 : decode cX4_bare 14 = .ok (.iconst (-1), 1) := by decide +kernel
theorem dX4_bare_15 : decode cX4_bare 15 = .ok (.ireturn, 1) := by decide +kernel
theorem dX4_bare_16 : decode cX4_bare 16 = .ok (.iload_n 1, 1) := by decide +kernel
theorem dX4_bare_17 : decode cX4_bare 17 = .ok (.istore_n 3, 1) := by decide +kernel
theorem dX4_bare_18 : decode cX4_bare 18 = .ok (.iconst 0, 1) := by decide +kernel
theorem dX4_bare_19 : decode cX4_bare 19 = .ok (.istore 4, 2) := by decide +kernel
theorem dX4_bare_21 : decode cX4_bare 21 = .ok (.iload 4, 2) := by decide +kernel
theorem dX4_bare_23 : decode cX4_bare 23 = .ok (.bipush 6, 2) := by decide +kernel
theorem dX4_bare_25 : decode cX4_bare 25 = .ok (.if_icmp .ge 22, 3) := by decide +kernel
theorem dX4_bare_28 : decode cX4_bare 28 = .ok (.iload_n 3, 1) := by decide +kernel
theorem dX4_bare_29 : decode cX4_bare 29 = .ok (.iconst 1, 1) := by decide +kernel
theorem dX4_bare_30 : decode cX4_bare 30 = .ok (.aload_n 0, 1) := by decide +kernel
theorem dX4_bare_31 : decode cX4_bare 31 = .ok (.iload_n 3, 1) := by decide +kernel
theorem dX4_bare_32 : decode cX4_bare 32 = .ok (.iload_n 2, 1) := by decide +kernel
theorem dX4_bare_33 : decode cX4_bare 33 = .ok (.invokevirtual 127, 3) := by decide +kernel
theorem dX4_bare_36 : decode cX4_bare 36 = .ok (.iadd, 1) := by decide +kernel
theorem dX4_bare_37 : decode cX4_bare 37 = .ok (.invokestatic 131, 3) := by decide +kernel
theorem dX4_bare_40 : decode cX4_bare 40 = .ok (.istore_n 3, 1) := by decide +kernel
theorem dX4_bare_41 : decode cX4_bare 41 = .ok (.iinc 4 1, 3) := by decide +kernel
theorem dX4_bare_44 : decode cX4_bare 44 = .ok (.goto (-23), 3) := by decide +kernel
theorem dX4_bare_47 : decode cX4_bare 47 = .ok (.iload_n 3, 1) := by decide +kernel
theorem dX4_bare_48 : decode cX4_bare 48 = .ok (.invokestatic 70, 3) := by decide +kernel
theorem dX4_bare_51 : decode cX4_bare 51 = .ok (.ifCond .eq 7, 3) := by decide +kernel
theorem dX4_bare_54 : decode cX4_bare 54 = .ok (.iload_n 3, 1) := by decide +kernel
theorem dX4_bare_55 : decode cX4_bare 55 = .ok (.goto 4, 3) := by decide +kernel
theorem dX4_bare_58 : decode cX4_bare 58 = .ok (.iconst (-1), 1) := by decide +kernel
theorem dX4_bare_59 : decode cX4_bare 59 = .ok (.ireturn, 1) := by decide +kernel
theorem dX4_call_0 : decode cX4_call 0 = .ok (.aload_n 0, 1) := by decide +kernel
theorem dX4_call_1 : decode cX4_call 1 = .ok (.getfield 42, 3) := by decide +kernel
theorem dX4_call_4 : decode cX4_call 4 = .ok (.bipush 40, 2) := by decide +kernel
theorem dX4_call_6 : decode cX4_call 6 = .ok (.if_icmp .ge 31, 3) := by decide +kernel
theorem dX4_call_9 : decode cX4_call 9 = .ok (.iload_n 1, 1) := by decide +kernel
theorem dX4_call_10 : decode cX4_call 10 = .ok (.invokestatic 118, 3) := by decide +kernel
theorem dX4_call_13 : decode cX4_call 13 = .ok (.ifCond .eq 24, 3) := by decide +kernel
theorem dX4_call_16 : decode cX4_call 16 = .ok (.aload_n 0, 1) := by decide +kernel
theorem dX4_call_17 : decode cX4_call 17 = .ok (.iload_n 2, 1) := by decide +kernel
theorem dX4_call_18 : decode cX4_call 18 = .ok (.invokevirtual 51, 3) := by decide +kernel
theorem dX4_call_21 : decode cX4_call 21 = .ok (.ifCond .eq 16, 3) := by decide +kernel
theorem dX4_call_24 : decode cX4_call 24 = .ok (.aload_n 0, 1) := by decide +kernel
theorem dX4_call_25 : decode cX4_call 25 = .ok (.iload_n 3, 1) := by decide +kernel
theorem dX4_call_26 : decode cX4_call 26 = .ok (.invokevirtual 51, 3) := by decide +kernel
theorem dX4_call_29 : decode cX4_call 29 = .ok (.ifCond .eq 8, 3) := by decide +kernel
theorem dX4_call_32 : decode cX4_call 32 = .ok (.iload_n 2, 1) := by decide +kernel
theorem dX4_call_33 : decode cX4_call 33 = .ok (.iload_n 3, 1) := by decide +kernel
theorem dX4_call_34 : decode cX4_call 34 = .ok (.if_icmp .ne 5, 3) := by decide +kernel
theorem dX4_call_37 : decode cX4_call 37 = .ok (.iconst (-1), 1) := by decide +kernel
theorem dX4_call_38 : decode cX4_call 38 = .ok (.ireturn, 1) := by decide +kernel
theorem dX4_call_39 : decode cX4_call 39 = .ok (.iload 4, 2) := by decide +kernel
theorem dX4_call_41 : decode cX4_call 41 = .ok (.invokestatic 70, 3) := by decide +kernel
theorem dX4_call_44 : decode cX4_call 44 = .ok (.ifCond .eq 17, 3) := by decide +kernel
theorem dX4_call_47 : decode cX4_call 47 = .ok (.iload 5, 2) := by decide +kernel
theorem dX4_call_49 : decode cX4_call 49 = .ok (.iconst 1, 1) := by decide +kernel
theorem dX4_call_50 : decode cX4_call 50 = .ok (.if_icmp .lt 11, 3) := by decide +kernel
theorem dX4_call_53 : decode cX4_call 53 = .ok (.iload 5, 2) := by decide +kernel
theorem dX4_call_55 : decode cX4_call 55 = .ok (.sipush 2000, 3) := by decide +kernel
theorem dX4_call_58 : decode cX4_call 58 = .ok (.if_icmp .le 5, 3) := by decide +kernel
theorem dX4_call_61 : decode cX4_call 61 = .ok (.iconst (-1), 1) := by decide +kernel
theorem dX4_call_62 : decode cX4_call 62 = .ok (.ireturn, 1) := by decide +kernel
theorem dX4_call_63 : decode cX4_call 63 = .ok (.aload_n 0, 1) := by decide +kernel
theorem dX4_call_64 : decode cX4_call 64 = .ok (.getfield 21, 3) := by decide +kernel
theorem dX4_call_67 : decode cX4_call 67 = .ok (.aload_n 0, 1) := by decide +kernel
theorem dX4_call_68 : decode cX4_call 68 = .ok (.getfield 42, 3) := by decide +kernel
theorem dX4_call_71 : decode cX4_call 71 = .ok (.new 19, 3) := by decide +kernel
theorem dX4_call_74 : decode cX4_call 74 = .ok (.dup, 1) := by decide +kernel
theorem dX4_call_75 : decode cX4_call 75 = .ok (.iload_n 1, 1) := by decide +kernel
theorem dX4_call_76 : decode cX4_call 76 = .ok (.iload_n 2, 1) := by decide +kernel
theorem dX4_call_77 : decode cX4_call 77 = .ok (.iload_n 3, 1) := by decide +kernel
theorem dX4_call_78 : decode cX4_call 78 = .ok (.iload 4, 2) := by decide +kernel
theorem dX4_call_80 : decode cX4_call 80 = .ok (.iload 5, 2) := by decide +kernel
theorem dX4_call_82 : decode cX4_call 82 = .ok (.invokespecial 136, 3) := by decide +kernel
theorem dX4_call_85 : decode cX4_call 85 = .ok (.aastore, 1) := by decide +kernel
theorem dX4_call_86 : decode cX4_call 86 = .ok (.aload_n 0, 1) := by decide +kernel
theorem dX4_call_87 : decode cX4_call 87 = .ok (.dup, 1) := by decide +kernel
theorem dX4_call_88 : decode cX4_call 88 = .ok (.getfield 42, 3) := by decide +kernel
theorem dX4_call_91 : decode cX4_call 91 = .ok (.iconst 1, 1) := by decide +kernel
theorem dX4_call_92 : decode cX4_call 92 = .ok (.iadd, 1) := by decide +kernel
theorem dX4_call_93 : decode cX4_call 93 = .ok (.putfield 42, 3) := by decide +kernel
theorem dX4_call_96 : decode cX4_call 96 = .ok (.aload_n 0, 1) := by decide +kernel
theorem dX4_call_97 : decode cX4_call 97 = .ok (.getfield 42, 3) := by decide +kernel
theorem dX4_call_100 : decode cX4_call 100 = .ok (.iconst 1, 1) := by decide +kernel
theorem dX4_call_101 : decode cX4_call 101 = .ok (.isub, 1) := by decide +kernel
theorem dX4_call_102 : decode cX4_call 102 = .ok (.ireturn, 1) := by decide +kernel
theorem dX4_best_0 : decode cX4_best 0 = .ok (.aload_n 0, 1) := by decide +kernel
theorem dX4_best_1 : decode cX4_best 1 = .ok (.iload_n 1, 1) := by decide +kernel
theorem dX4_best_2 : decode cX4_best 2 = .ok (.invokevirtual 137, 3) := by decide +kernel
theorem dX4_best_5 : decode cX4_best 5 = .ok (.astore_n 2, 1) := by decide +kernel
theorem dX4_best_6 : decode cX4_best 6 = .ok (.aload_n 2, 1) := by decide +kernel
theorem dX4_best_7 : decode cX4_best 7 = .ok (.ifnull 26, 3) := by decide +kernel
theorem dX4_best_10 : decode cX4_best 10 = .ok (.aload_n 2, 1) := by decide +kernel
theorem dX4_best_11 : decode cX4_best 11 = .ok (.getfield 141, 3) := by decide +kernel
theorem dX4_best_14 : decode cX4_best 14 = .ok (.ifCond .ne 19, 3) := by decide +kernel
theorem dX4_best_17 : decode cX4_best 17 = .ok (.aload_n 0, 1) := by decide +kernel
theorem dX4_best_18 : decode cX4_best 18 = .ok (.aload_n 2, 1) := by decide +kernel
theorem dX4_best_19 : decode cX4_best 19 = .ok (.aload_n 2, 1) := by decide +kernel
theorem dX4_best_20 : decode cX4_best 20 = .ok (.getfield 144, 3) := by decide +kernel
theorem dX4_best_23 : decode cX4_best 23 = .ok (.aload_n 2, 1) := by decide +kernel
theorem dX4_best_24 : decode cX4_best 24 = .ok (.getfield 147, 3) := by decide +kernel
theorem dX4_best_27 : decode cX4_best 27 = .ok (.invokevirtual 150, 3) := by decide +kernel
theorem dX4_best_30 : decode cX4_best 30 = .ok (.ifCond .ne 5, 3) := by decide +kernel
theorem dX4_best_33 : decode cX4_best 33 = .ok (.iconst (-1), 1) := by decide +kernel
theorem dX4_best_34 : decode cX4_best 34 = .ok (.ireturn, 1) := by decide +kernel
theorem dX4_best_35 : decode cX4_best 35 = .ok (.aload_n 0, 1) := by decide +kernel
theorem dX4_best_36 : decode cX4_best 36 = .ok (.getfield 32, 3) := by decide +kernel
theorem dX4_best_39 : decode cX4_best 39 = .ok (.invokevirtual 154, 3) := by decide +kernel
theorem dX4_best_42 : decode cX4_best 42 = .ok (.ireturn, 1) := by decide +kernel
theorem dX4_send_0 : decode cX4_send 0 = .ok (.aload_n 0, 1) := by decide +kernel
theorem dX4_send_1 : decode cX4_send 1 = .ok (.iload_n 1, 1) := by decide +kernel
theorem dX4_send_2 : decode cX4_send 2 = .ok (.invokevirtual 137, 3) := by decide +kernel
theorem dX4_send_5 : decode cX4_send 5 = .ok (.astore_n 2, 1) := by decide +kernel
theorem dX4_send_6 : decode cX4_send 6 = .ok (.aload_n 2, 1) := by decide +kernel
theorem dX4_send_7 : decode cX4_send 7 = .ok (.ifnull 26, 3) := by decide +kernel
theorem dX4_send_10 : decode cX4_send 10 = .ok (.aload_n 2, 1) := by decide +kernel
theorem dX4_send_11 : decode cX4_send 11 = .ok (.getfield 141, 3) := by decide +kernel
theorem dX4_send_14 : decode cX4_send 14 = .ok (.ifCond .ne 19, 3) := by decide +kernel
theorem dX4_send_17 : decode cX4_send 17 = .ok (.aload_n 0, 1) := by decide +kernel
theorem dX4_send_18 : decode cX4_send 18 = .ok (.aload_n 2, 1) := by decide +kernel
theorem dX4_send_19 : decode cX4_send 19 = .ok (.aload_n 2, 1) := by decide +kernel
theorem dX4_send_20 : decode cX4_send 20 = .ok (.getfield 144, 3) := by decide +kernel
theorem dX4_send_23 : decode cX4_send 23 = .ok (.aload_n 2, 1) := by decide +kernel
theorem dX4_send_24 : decode cX4_send 24 = .ok (.getfield 147, 3) := by decide +kernel
theorem dX4_send_27 : decode cX4_send 27 = .ok (.invokevirtual 150, 3) := by decide +kernel
theorem dX4_send_30 : decode cX4_send 30 = .ok (.ifCond .ne 5, 3) := by decide +kernel
theorem dX4_send_33 : decode cX4_send 33 = .ok (.iconst (-1), 1) := by decide +kernel
theorem dX4_send_34 : decode cX4_send 34 = .ok (.ireturn, 1) := by decide +kernel
theorem dX4_send_35 : decode cX4_send 35 = .ok (.aload_n 2, 1) := by decide +kernel
theorem dX4_send_36 : decode cX4_send 36 = .ok (.iconst 1, 1) := by decide +kernel
theorem dX4_send_37 : decode cX4_send 37 = .ok (.putfield 141, 3) := by decide +kernel
theorem dX4_send_40 : decode cX4_send 40 = .ok (.aload_n 0, 1) := by decide +kernel
theorem dX4_send_41 : decode cX4_send 41 = .ok (.iload_n 1, 1) := by decide +kernel
theorem dX4_send_42 : decode cX4_send 42 = .ok (.putfield 48, 3) := by decide +kernel
theorem dX4_send_45 : decode cX4_send 45 = .ok (.aload_n 0, 1) := by decide +kernel
theorem dX4_send_46 : decode cX4_send 46 = .ok (.aload_n 2, 1) := by decide +kernel
theorem dX4_send_47 : decode cX4_send 47 = .ok (.invokevirtual 158, 3) := by decide +kernel
theorem dX4_send_50 : decode cX4_send 50 = .ok (.aload_n 2, 1) := by decide +kernel
theorem dX4_send_51 : decode cX4_send 51 = .ok (.invokevirtual 162, 3) := by decide +kernel
theorem dX4_send_54 : decode cX4_send 54 = .ok (.ireturn, 1) := by decide +kernel
theorem dX4_told_0 : decode cX4_told 0 = .ok (.aload_n 0, 1) := by decide +kernel
theorem dX4_told_1 : decode cX4_told 1 = .ok (.iload_n 1, 1) := by decide +kernel
theorem dX4_told_2 : decode cX4_told 2 = .ok (.invokevirtual 137, 3) := by decide +kernel
theorem dX4_told_5 : decode cX4_told 5 = .ok (.astore_n 3, 1) := by decide +kernel
theorem dX4_told_6 : decode cX4_told 6 = .ok (.aload_n 3, 1) := by decide +kernel
theorem dX4_told_7 : decode cX4_told 7 = .ok (.ifnonnull 5, 3) := by decide +kernel
theorem dX4_told_10 : decode cX4_told 10 = .ok (.iconst (-1), 1) := by decide +kernel
theorem dX4_told_11 : decode cX4_told 11 = .ok (.ireturn, 1) := by decide +kernel
theorem dX4_told_12 : decode cX4_told 12 = .ok (.iload_n 2, 1) := by decide +kernel
theorem dX4_told_13 : decode cX4_told 13 = .ok (.tableswitch 117 0 7 #[47, 52, 57, 62, 67, 72, 96, 101], 47) := by decide +kernel
theorem dX4_told_60 : decode cX4_told 60 = .ok (.aload_n 3, 1) := by decide +kernel
theorem dX4_told_61 : decode cX4_told 61 = .ok (.getfield 163, 3) := by decide +kernel
theorem dX4_told_64 : decode cX4_told 64 = .ok (.ireturn, 1) := by decide +kernel
theorem dX4_told_65 : decode cX4_told 65 = .ok (.aload_n 3, 1) := by decide +kernel
theorem dX4_told_66 : decode cX4_told 66 = .ok (.getfield 144, 3) := by decide +kernel
theorem dX4_told_69 : decode cX4_told 69 = .ok (.ireturn, 1) := by decide +kernel
theorem dX4_told_70 : decode cX4_told 70 = .ok (.aload_n 3, 1) := by decide +kernel
theorem dX4_told_71 : decode cX4_told 71 = .ok (.getfield 166, 3) := by decide +kernel
theorem dX4_told_74 : decode cX4_told 74 = .ok (.ireturn, 1) := by decide +kernel
theorem dX4_told_75 : decode cX4_told 75 = .ok (.aload_n 3, 1) := by decide +kernel
theorem dX4_told_76 : decode cX4_told 76 = .ok (.getfield 147, 3) := by decide +kernel
theorem dX4_told_79 : decode cX4_told 79 = .ok (.ireturn, 1) := by decide +kernel
theorem dX4_told_80 : decode cX4_told 80 = .ok (.aload_n 3, 1) := by decide +kernel
theorem dX4_told_81 : decode cX4_told 81 = .ok (.getfield 169, 3) := by decide +kernel
theorem dX4_told_84 : decode cX4_told 84 = .ok (.ireturn, 1) := by decide +kernel
theorem dX4_told_85 : decode cX4_told 85 = .ok (.aload_n 3, 1) := by decide +kernel
theorem dX4_told_86 : decode cX4_told 86 = .ok (.getfield 172, 3) := by decide +kernel
theorem dX4_told_89 : decode cX4_told 89 = .ok (.ifCond .eq 7, 3) := by decide +kernel
theorem dX4_told_92 : decode cX4_told 92 = .ok (.iconst 2, 1) := by decide +kernel
theorem dX4_told_93 : decode cX4_told 93 = .ok (.goto 15, 3) := by decide +kernel
theorem dX4_told_96 : decode cX4_told 96 = .ok (.aload_n 3, 1) := by decide +kernel
theorem dX4_told_97 : decode cX4_told 97 = .ok (.getfield 141, 3) := by decide +kernel
theorem dX4_told_100 : decode cX4_told 100 = .ok (.ifCond .eq 7, 3) := by decide +kernel
theorem dX4_told_103 : decode cX4_told 103 = .ok (.iconst 1, 1) := by decide +kernel
theorem dX4_told_104 : decode cX4_told 104 = .ok (.goto 4, 3) := by decide +kernel
theorem dX4_told_107 : decode cX4_told 107 = .ok (.iconst 0, 1) := by decide +kernel
theorem dX4_told_108 : decode cX4_told 108 = .ok (.ireturn, 1) := by decide +kernel
theorem dX4_told_109 : decode cX4_told 109 = .ok (.aload_n 3, 1) := by decide +kernel
theorem dX4_told_110 : decode cX4_told 110 = .ok (.getfield 175, 3) := by decide +kernel
theorem dX4_told_113 : decode cX4_told 113 = .ok (.ireturn, 1) := by decide +kernel
theorem dX4_told_114 : decode cX4_told 114 = .ok (.aload_n 3, 1) := by decide +kernel
theorem dX4_told_115 : decode cX4_told 115 = .ok (.getfield 172, 3) := by decide +kernel
theorem dX4_told_118 : decode cX4_told 118 = .ok (.ifCond .eq 7, 3) := by decide +kernel
theorem dX4_told_121 : decode cX4_told 121 = .ok (.iconst (-1), 1) := by decide +kernel
theorem dX4_told_122 : decode cX4_told 122 = .ok (.goto 7, 3) := by decide +kernel
theorem dX4_told_125 : decode cX4_told 125 = .ok (.aload_n 3, 1) := by decide +kernel
theorem dX4_told_126 : decode cX4_told 126 = .ok (.invokevirtual 162, 3) := by decide +kernel
theorem dX4_told_129 : decode cX4_told 129 = .ok (.ireturn, 1) := by decide +kernel
theorem dX4_told_130 : decode cX4_told 130 = .ok (.iconst (-1), 1) := by decide +kernel
theorem dX4_told_131 : decode cX4_told 131 = .ok (.ireturn, 1) := by decide +kernel
theorem dX4_leg_0 : decode cX4_leg 0 = .ok (.aload_n 0, 1) := by decide +kernel
theorem dX4_leg_1 : decode cX4_leg 1 = .ok (.iload_n 1, 1) := by decide +kernel
theorem dX4_leg_2 : decode cX4_leg 2 = .ok (.invokevirtual 137, 3) := by decide +kernel
theorem dX4_leg_5 : decode cX4_leg 5 = .ok (.astore 4, 2) := by decide +kernel
theorem dX4_leg_7 : decode cX4_leg 7 = .ok (.aload 4, 2) := by decide +kernel
theorem dX4_leg_9 : decode cX4_leg 9 = .ok (.ifnonnull 7, 3) := by decide +kernel
theorem dX4_leg_12 : decode cX4_leg 12 = .ok (.aconst_null, 1) := by decide +kernel
theorem dX4_leg_13 : decode cX4_leg 13 = .ok (.goto 9, 3) := by decide +kernel
end
section
theorem dX4_leg_16 : decode cX4_leg 16 = .ok (.aload 4, 2) := by decide +kernel
theorem dX4_leg_18 : decode cX4_leg 18 = .ok (.iload_n 2, 1) := by decide +kernel
theorem dX4_leg_19 : decode cX4_leg 19 = .ok (.invokevirtual 178, 3) := by decide +kernel
theorem dX4_leg_22 : decode cX4_leg 22 = .ok (.astore 5, 2) := by decide +kernel
theorem dX4_leg_24 : decode cX4_leg 24 = .ok (.aload 5, 2) := by decide +kernel
theorem dX4_leg_26 : decode cX4_leg 26 = .ok (.ifnonnull 5, 3) := by decide +kernel
theorem dX4_leg_29 : decode cX4_leg 29 = .ok (.iconst (-1), 1) := by decide +kernel
theorem dX4_leg_30 : decode cX4_leg 30 = .ok (.ireturn, 1) := by decide +kernel
theorem dX4_leg_31 : decode cX4_leg 31 = .ok (.iload_n 3, 1) := by decide +kernel
theorem dX4_leg_32 : decode cX4_leg 32 = .ok (.tableswitch 84 0 5 #[40, 46, 52, 58, 64, 70], 40) := by decide +kernel
theorem dX4_leg_72 : decode cX4_leg 72 = .ok (.aload 5, 2) := by decide +kernel
theorem dX4_leg_74 : decode cX4_leg 74 = .ok (.getfield 182, 3) := by decide +kernel
theorem dX4_leg_77 : decode cX4_leg 77 = .ok (.ireturn, 1) := by decide +kernel
theorem dX4_leg_78 : decode cX4_leg 78 = .ok (.aload 5, 2) := by decide +kernel
theorem dX4_leg_80 : decode cX4_leg 80 = .ok (.getfield 187, 3) := by decide +kernel
theorem dX4_leg_83 : decode cX4_leg 83 = .ok (.ireturn, 1) := by decide +kernel
theorem dX4_leg_84 : decode cX4_leg 84 = .ok (.aload 5, 2) := by decide +kernel
theorem dX4_leg_86 : decode cX4_leg 86 = .ok (.getfield 188, 3) := by decide +kernel
theorem dX4_leg_89 : decode cX4_leg 89 = .ok (.ireturn, 1) := by decide +kernel
theorem dX4_leg_90 : decode cX4_leg 90 = .ok (.aload 5, 2) := by decide +kernel
theorem dX4_leg_92 : decode cX4_leg 92 = .ok (.getfield 189, 3) := by decide +kernel
theorem dX4_leg_95 : decode cX4_leg 95 = .ok (.ireturn, 1) := by decide +kernel
theorem dX4_leg_96 : decode cX4_leg 96 = .ok (.aload 5, 2) := by decide +kernel
theorem dX4_leg_98 : decode cX4_leg 98 = .ok (.getfield 192, 3) := by decide +kernel
theorem dX4_leg_101 : decode cX4_leg 101 = .ok (.ireturn, 1) := by decide +kernel
theorem dX4_leg_102 : decode cX4_leg 102 = .ok (.aload 5, 2) := by decide +kernel
theorem dX4_leg_104 : decode cX4_leg 104 = .ok (.getfield 195, 3) := by decide +kernel
theorem dX4_leg_107 : decode cX4_leg 107 = .ok (.ifCond .eq 7, 3) := by decide +kernel
theorem dX4_leg_110 : decode cX4_leg 110 = .ok (.iconst 1, 1) := by decide +kernel
theorem dX4_leg_111 : decode cX4_leg 111 = .ok (.goto 4, 3) := by decide +kernel
theorem dX4_leg_114 : decode cX4_leg 114 = .ok (.iconst 0, 1) := by decide +kernel
theorem dX4_leg_115 : decode cX4_leg 115 = .ok (.ireturn, 1) := by decide +kernel
theorem dX4_leg_116 : decode cX4_leg 116 = .ok (.iconst (-1), 1) := by decide +kernel
theorem dX4_leg_117 : decode cX4_leg 117 = .ok (.ireturn, 1) := by decide +kernel
theorem dX4_hand_0 : decode cX4_hand 0 = .ok (.aload_n 0, 1) := by decide +kernel
theorem dX4_hand_1 : decode cX4_hand 1 = .ok (.iload_n 1, 1) := by decide +kernel
theorem dX4_hand_2 : decode cX4_hand 2 = .ok (.invokevirtual 137, 3) := by decide +kernel
theorem dX4_hand_5 : decode cX4_hand 5 = .ok (.astore_n 3, 1) := by decide +kernel
theorem dX4_hand_6 : decode cX4_hand 6 = .ok (.aload_n 3, 1) := by decide +kernel
theorem dX4_hand_7 : decode cX4_hand 7 = .ok (.ifnull 17, 3) := by decide +kernel
theorem dX4_hand_10 : decode cX4_hand 10 = .ok (.aload_n 3, 1) := by decide +kernel
theorem dX4_hand_11 : decode cX4_hand 11 = .ok (.getfield 141, 3) := by decide +kernel
theorem dX4_hand_14 : decode cX4_hand 14 = .ok (.ifCond .eq 10, 3) := by decide +kernel
theorem dX4_hand_17 : decode cX4_hand 17 = .ok (.iload_n 2, 1) := by decide +kernel
theorem dX4_hand_18 : decode cX4_hand 18 = .ok (.invokestatic 70, 3) := by decide +kernel
theorem dX4_hand_21 : decode cX4_hand 21 = .ok (.ifCond .ne 5, 3) := by decide +kernel
theorem dX4_hand_24 : decode cX4_hand 24 = .ok (.iconst (-1), 1) := by decide +kernel
theorem dX4_hand_25 : decode cX4_hand 25 = .ok (.ireturn, 1) := by decide +kernel
theorem dX4_hand_26 : decode cX4_hand 26 = .ok (.iload_n 2, 1) := by decide +kernel
theorem dX4_hand_27 : decode cX4_hand 27 = .ok (.aload_n 3, 1) := by decide +kernel
theorem dX4_hand_28 : decode cX4_hand 28 = .ok (.invokevirtual 162, 3) := by decide +kernel
theorem dX4_hand_31 : decode cX4_hand 31 = .ok (.if_icmp .le 6, 3) := by decide +kernel
theorem dX4_hand_34 : decode cX4_hand 34 = .ok (.bipush (-3), 2) := by decide +kernel
theorem dX4_hand_36 : decode cX4_hand 36 = .ok (.ireturn, 1) := by decide +kernel
theorem dX4_hand_37 : decode cX4_hand 37 = .ok (.aload_n 3, 1) := by decide +kernel
theorem dX4_hand_38 : decode cX4_hand 38 = .ok (.getfield 175, 3) := by decide +kernel
theorem dX4_hand_41 : decode cX4_hand 41 = .ok (.iconst 1, 1) := by decide +kernel
theorem dX4_hand_42 : decode cX4_hand 42 = .ok (.isub, 1) := by decide +kernel
theorem dX4_hand_43 : decode cX4_hand 43 = .ok (.istore 4, 2) := by decide +kernel
theorem dX4_hand_45 : decode cX4_hand 45 = .ok (.iload 4, 2) := by decide +kernel
theorem dX4_hand_47 : decode cX4_hand 47 = .ok (.ifCond .lt 37, 3) := by decide +kernel
theorem dX4_hand_50 : decode cX4_hand 50 = .ok (.aload_n 3, 1) := by decide +kernel
theorem dX4_hand_51 : decode cX4_hand 51 = .ok (.iload 4, 2) := by decide +kernel
theorem dX4_hand_53 : decode cX4_hand 53 = .ok (.invokevirtual 178, 3) := by decide +kernel
theorem dX4_hand_56 : decode cX4_hand 56 = .ok (.astore 5, 2) := by decide +kernel
theorem dX4_hand_58 : decode cX4_hand 58 = .ok (.aload 5, 2) := by decide +kernel
theorem dX4_hand_60 : decode cX4_hand 60 = .ok (.ifnull 18, 3) := by decide +kernel
theorem dX4_hand_63 : decode cX4_hand 63 = .ok (.aload 5, 2) := by decide +kernel
theorem dX4_hand_65 : decode cX4_hand 65 = .ok (.getfield 189, 3) := by decide +kernel
theorem dX4_hand_68 : decode cX4_hand 68 = .ok (.iload_n 2, 1) := by decide +kernel
theorem dX4_hand_69 : decode cX4_hand 69 = .ok (.if_icmp .gt 9, 3) := by decide +kernel
theorem dX4_hand_72 : decode cX4_hand 72 = .ok (.aload 5, 2) := by decide +kernel
theorem dX4_hand_74 : decode cX4_hand 74 = .ok (.getfield 182, 3) := by decide +kernel
theorem dX4_hand_77 : decode cX4_hand 77 = .ok (.ireturn, 1) := by decide +kernel
theorem dX4_hand_78 : decode cX4_hand 78 = .ok (.iinc 4 (-1), 3) := by decide +kernel
theorem dX4_hand_81 : decode cX4_hand 81 = .ok (.goto (-36), 3) := by decide +kernel
theorem dX4_hand_84 : decode cX4_hand 84 = .ok (.bipush (-2), 2) := by decide +kernel
theorem dX4_hand_86 : decode cX4_hand 86 = .ok (.ireturn, 1) := by decide +kernel
theorem dX4_fail_0 : decode cX4_fail 0 = .ok (.aload_n 0, 1) := by decide +kernel
theorem dX4_fail_1 : decode cX4_fail 1 = .ok (.iload_n 1, 1) := by decide +kernel
theorem dX4_fail_2 : decode cX4_fail 2 = .ok (.invokevirtual 137, 3) := by decide +kernel
theorem dX4_fail_5 : decode cX4_fail 5 = .ok (.astore 4, 2) := by decide +kernel
theorem dX4_fail_7 : decode cX4_fail 7 = .ok (.aload 4, 2) := by decide +kernel
theorem dX4_fail_9 : decode cX4_fail 9 = .ok (.ifnull 21, 3) := by decide +kernel
theorem dX4_fail_12 : decode cX4_fail 12 = .ok (.iload_n 1, 1) := by decide +kernel
theorem dX4_fail_13 : decode cX4_fail 13 = .ok (.aload_n 0, 1) := by decide +kernel
theorem dX4_fail_14 : decode cX4_fail 14 = .ok (.getfield 48, 3) := by decide +kernel
theorem dX4_fail_17 : decode cX4_fail 17 = .ok (.if_icmp .ne 13, 3) := by decide +kernel
theorem dX4_fail_20 : decode cX4_fail 20 = .ok (.aload 4, 2) := by decide +kernel
theorem dX4_fail_22 : decode cX4_fail 22 = .ok (.iload_n 2, 1) := by decide +kernel
theorem dX4_fail_23 : decode cX4_fail 23 = .ok (.iload_n 3, 1) := by decide +kernel
theorem dX4_fail_24 : decode cX4_fail 24 = .ok (.invokestatic 196, 3) := by decide +kernel
theorem dX4_fail_27 : decode cX4_fail 27 = .ok (.ifCond .ne 5, 3) := by decide +kernel
theorem dX4_fail_30 : decode cX4_fail 30 = .ok (.iconst (-1), 1) := by decide +kernel
theorem dX4_fail_31 : decode cX4_fail 31 = .ok (.ireturn, 1) := by decide +kernel
theorem dX4_fail_32 : decode cX4_fail 32 = .ok (.aload 4, 2) := by decide +kernel
theorem dX4_fail_34 : decode cX4_fail 34 = .ok (.iload_n 2, 1) := by decide +kernel
theorem dX4_fail_35 : decode cX4_fail 35 = .ok (.invokevirtual 178, 3) := by decide +kernel
theorem dX4_fail_38 : decode cX4_fail 38 = .ok (.astore 5, 2) := by decide +kernel
theorem dX4_fail_40 : decode cX4_fail 40 = .ok (.aload 5, 2) := by decide +kernel
theorem dX4_fail_42 : decode cX4_fail 42 = .ok (.ifnonnull 5, 3) := by decide +kernel
theorem dX4_fail_45 : decode cX4_fail 45 = .ok (.iconst (-1), 1) := by decide +kernel
theorem dX4_fail_46 : decode cX4_fail 46 = .ok (.ireturn, 1) := by decide +kernel
theorem dX4_fail_47 : decode cX4_fail 47 = .ok (.aload_n 0, 1) := by decide +kernel
theorem dX4_fail_48 : decode cX4_fail 48 = .ok (.aload 4, 2) := by decide +kernel
theorem dX4_fail_50 : decode cX4_fail 50 = .ok (.iload_n 2, 1) := by decide +kernel
theorem dX4_fail_51 : decode cX4_fail 51 = .ok (.invokevirtual 199, 3) := by decide +kernel
theorem dX4_fail_54 : decode cX4_fail 54 = .ok (.aload_n 0, 1) := by decide +kernel
theorem dX4_fail_55 : decode cX4_fail 55 = .ok (.aload 5, 2) := by decide +kernel
theorem dX4_fail_57 : decode cX4_fail 57 = .ok (.iload_n 3, 1) := by decide +kernel
theorem dX4_fail_58 : decode cX4_fail 58 = .ok (.invokevirtual 203, 3) := by decide +kernel
theorem dX4_fail_61 : decode cX4_fail 61 = .ok (.aload_n 0, 1) := by decide +kernel
theorem dX4_fail_62 : decode cX4_fail 62 = .ok (.aload 4, 2) := by decide +kernel
theorem dX4_fail_64 : decode cX4_fail 64 = .ok (.aload 5, 2) := by decide +kernel
theorem dX4_fail_66 : decode cX4_fail 66 = .ok (.getfield 187, 3) := by decide +kernel
theorem dX4_fail_69 : decode cX4_fail 69 = .ok (.iload_n 3, 1) := by decide +kernel
theorem dX4_fail_70 : decode cX4_fail 70 = .ok (.invokevirtual 150, 3) := by decide +kernel
theorem dX4_fail_73 : decode cX4_fail 73 = .ok (.ifCond .ne 12, 3) := by decide +kernel
theorem dX4_fail_76 : decode cX4_fail 76 = .ok (.aload 4, 2) := by decide +kernel
theorem dX4_fail_78 : decode cX4_fail 78 = .ok (.iconst 1, 1) := by decide +kernel
theorem dX4_fail_79 : decode cX4_fail 79 = .ok (.putfield 172, 3) := by decide +kernel
theorem dX4_fail_82 : decode cX4_fail 82 = .ok (.bipush (-2), 2) := by decide +kernel
theorem dX4_fail_84 : decode cX4_fail 84 = .ok (.ireturn, 1) := by decide +kernel
theorem dX4_fail_85 : decode cX4_fail 85 = .ok (.aload_n 0, 1) := by decide +kernel
theorem dX4_fail_86 : decode cX4_fail 86 = .ok (.aload 4, 2) := by decide +kernel
theorem dX4_fail_88 : decode cX4_fail 88 = .ok (.invokevirtual 158, 3) := by decide +kernel
theorem dX4_fail_91 : decode cX4_fail 91 = .ok (.aload 4, 2) := by decide +kernel
theorem dX4_fail_93 : decode cX4_fail 93 = .ok (.invokevirtual 162, 3) := by decide +kernel
theorem dX4_fail_96 : decode cX4_fail 96 = .ok (.ireturn, 1) := by decide +kernel
theorem dX4_next_0 : decode cX4_next 0 = .ok (.iload_n 1, 1) := by decide +kernel
theorem dX4_next_1 : decode cX4_next 1 = .ok (.invokestatic 118, 3) := by decide +kernel
theorem dX4_next_4 : decode cX4_next 4 = .ok (.ifCond .eq 11, 3) := by decide +kernel
theorem dX4_next_7 : decode cX4_next 7 = .ok (.aload_n 0, 1) := by decide +kernel
theorem dX4_next_8 : decode cX4_next 8 = .ok (.iload_n 2, 1) := by decide +kernel
theorem dX4_next_9 : decode cX4_next 9 = .ok (.invokevirtual 51, 3) := by decide +kernel
theorem dX4_next_12 : decode cX4_next 12 = .ok (.ifCond .ne 5, 3) := by decide +kernel
theorem dX4_next_15 : decode cX4_next 15 = .ok (.iconst (-1), 1) := by decide +kernel
theorem dX4_next_16 : decode cX4_next 16 = .ok (.ireturn, 1) := by decide +kernel
theorem dX4_next_17 : decode cX4_next 17 = .ok (.iconst (-1), 1) := by decide +kernel
theorem dX4_next_18 : decode cX4_next 18 = .ok (.istore_n 3, 1) := by decide +kernel
theorem dX4_next_19 : decode cX4_next 19 = .ok (.iconst 0, 1) := by decide +kernel
theorem dX4_next_20 : decode cX4_next 20 = .ok (.istore 4, 2) := by decide +kernel
theorem dX4_next_22 : decode cX4_next 22 = .ok (.iconst 0, 1) := by decide +kernel
theorem dX4_next_23 : decode cX4_next 23 = .ok (.istore 5, 2) := by decide +kernel
theorem dX4_next_25 : decode cX4_next 25 = .ok (.iconst 0, 1) := by decide +kernel
theorem dX4_next_26 : decode cX4_next 26 = .ok (.istore 6, 2) := by decide +kernel
theorem dX4_next_28 : decode cX4_next 28 = .ok (.iload 6, 2) := by decide +kernel
theorem dX4_next_30 : decode cX4_next 30 = .ok (.aload_n 0, 1) := by decide +kernel
theorem dX4_next_31 : decode cX4_next 31 = .ok (.getfield 39, 3) := by decide +kernel
theorem dX4_next_34 : decode cX4_next 34 = .ok (.if_icmp .ge 120, 3) := by decide +kernel
theorem dX4_next_37 : decode cX4_next 37 = .ok (.aload_n 0, 1) := by decide +kernel
theorem dX4_next_38 : decode cX4_next 38 = .ok (.iload 6, 2) := by decide +kernel
theorem dX4_next_40 : decode cX4_next 40 = .ok (.invokevirtual 55, 3) := by decide +kernel
theorem dX4_next_43 : decode cX4_next 43 = .ok (.astore 7, 2) := by decide +kernel
theorem dX4_next_45 : decode cX4_next 45 = .ok (.aload 7, 2) := by decide +kernel
theorem dX4_next_47 : decode cX4_next 47 = .ok (.ifnull 101, 3) := by decide +kernel
theorem dX4_next_50 : decode cX4_next 50 = .ok (.aload 7, 2) := by decide +kernel
theorem dX4_next_52 : decode cX4_next 52 = .ok (.iload_n 1, 1) := by decide +kernel
theorem dX4_next_53 : decode cX4_next 53 = .ok (.invokevirtual 121, 3) := by decide +kernel
theorem dX4_next_56 : decode cX4_next 56 = .ok (.ifCond .ne 6, 3) := by decide +kernel
theorem dX4_next_59 : decode cX4_next 59 = .ok (.goto 89, 3) := by decide +kernel
theorem dX4_next_62 : decode cX4_next 62 = .ok (.aload_n 0, 1) := by decide +kernel
theorem dX4_next_63 : decode cX4_next 63 = .ok (.aload 7, 2) := by decide +kernel
theorem dX4_next_65 : decode cX4_next 65 = .ok (.iload_n 2, 1) := by decide +kernel
theorem dX4_next_66 : decode cX4_next 66 = .ok (.invokevirtual 207, 3) := by decide +kernel
theorem dX4_next_69 : decode cX4_next 69 = .ok (.istore 8, 2) := by decide +kernel
theorem dX4_next_71 : decode cX4_next 71 = .ok (.iload 8, 2) := by decide +kernel
theorem dX4_next_73 : decode cX4_next 73 = .ok (.iconst (-1), 1) := by decide +kernel
theorem dX4_next_74 : decode cX4_next 74 = .ok (.if_icmp .eq 74, 3) := by decide +kernel
theorem dX4_next_77 : decode cX4_next 77 = .ok (.iload 8, 2) := by decide +kernel
theorem dX4_next_79 : decode cX4_next 79 = .ok (.aload 7, 2) := by decide +kernel
theorem dX4_next_81 : decode cX4_next 81 = .ok (.getfield 211, 3) := by decide +kernel
theorem dX4_next_84 : decode cX4_next 84 = .ok (.if_icmp .le 6, 3) := by decide +kernel
theorem dX4_next_87 : decode cX4_next 87 = .ok (.goto 61, 3) := by decide +kernel
theorem dX4_next_90 : decode cX4_next 90 = .ok (.aload 7, 2) := by decide +kernel
theorem dX4_next_92 : decode cX4_next 92 = .ok (.getfield 104, 3) := by decide +kernel
theorem dX4_next_95 : decode cX4_next 95 = .ok (.iload 4, 2) := by decide +kernel
theorem dX4_next_97 : decode cX4_next 97 = .ok (.if_icmp .ne 7, 3) := by decide +kernel
theorem dX4_next_100 : decode cX4_next 100 = .ok (.iconst 1, 1) := by decide +kernel
theorem dX4_next_101 : decode cX4_next 101 = .ok (.goto 4, 3) := by decide +kernel
theorem dX4_next_104 : decode cX4_next 104 = .ok (.iconst 0, 1) := by decide +kernel
theorem dX4_next_105 : decode cX4_next 105 = .ok (.istore 9, 2) := by decide +kernel
theorem dX4_next_107 : decode cX4_next 107 = .ok (.iload_n 3, 1) := by decide +kernel
theorem dX4_next_108 : decode cX4_next 108 = .ok (.iconst (-1), 1) := by decide +kernel
theorem dX4_next_109 : decode cX4_next 109 = .ok (.if_icmp .eq 25, 3) := by decide +kernel
theorem dX4_next_112 : decode cX4_next 112 = .ok (.aload 7, 2) := by decide +kernel
theorem dX4_next_114 : decode cX4_next 114 = .ok (.getfield 104, 3) := by decide +kernel
theorem dX4_next_117 : decode cX4_next 117 = .ok (.iload 4, 2) := by decide +kernel
theorem dX4_next_119 : decode cX4_next 119 = .ok (.if_icmp .lt 15, 3) := by decide +kernel
theorem dX4_next_122 : decode cX4_next 122 = .ok (.iload 9, 2) := by decide +kernel
theorem dX4_next_124 : decode cX4_next 124 = .ok (.ifCond .eq 24, 3) := by decide +kernel
theorem dX4_next_127 : decode cX4_next 127 = .ok (.iload 8, 2) := by decide +kernel
theorem dX4_next_129 : decode cX4_next 129 = .ok (.iload 5, 2) := by decide +kernel
theorem dX4_next_131 : decode cX4_next 131 = .ok (.if_icmp .ge 17, 3) := by decide +kernel
theorem dX4_next_134 : decode cX4_next 134 = .ok (.iload 6, 2) := by decide +kernel
theorem dX4_next_136 : decode cX4_next 136 = .ok (.istore_n 3, 1) := by decide +kernel
theorem dX4_next_137 : decode cX4_next 137 = .ok (.aload 7, 2) := by decide +kernel
theorem dX4_next_139 : decode cX4_next 139 = .ok (.getfield 104, 3) := by decide +kernel
theorem dX4_next_142 : decode cX4_next 142 = .ok (.istore 4, 2) := by decide +kernel
theorem dX4_next_144 : decode cX4_next 144 = .ok (.iload 8, 2) := by decide +kernel
theorem dX4_next_146 : decode cX4_next 146 = .ok (.istore 5, 2) := by decide +kernel
theorem dX4_next_148 : decode cX4_next 148 = .ok (.iinc 6 1, 3) := by decide +kernel
theorem dX4_next_151 : decode cX4_next 151 = .ok (.goto (-123), 3) := by decide +kernel
theorem dX4_next_154 : decode cX4_next 154 = .ok (.iload_n 3, 1) := by decide +kernel
theorem dX4_next_155 : decode cX4_next 155 = .ok (.ireturn, 1) := by decide +kernel
theorem dX4_isMinute_0 : decode cX4_isMinute 0 = .ok (.iload_n 0, 1) := by decide +kernel
theorem dX4_isMinute_1 : decode cX4_isMinute 1 = .ok (.ifCond .lt 14, 3) := by decide +kernel
theorem dX4_isMinute_4 : decode cX4_isMinute 4 = .ok (.iload_n 0, 1) := by decide +kernel
theorem dX4_isMinute_5 : decode cX4_isMinute 5 = .ok (.sipush 4320, 3) := by decide +kernel
theorem dX4_isMinute_8 : decode cX4_isMinute 8 = .ok (.if_icmp .ge 7, 3) := by decide +kernel
theorem dX4_isMinute_11 : decode cX4_isMinute 11 = .ok (.iconst 1, 1) := by decide +kernel
theorem dX4_isMinute_12 : decode cX4_isMinute 12 = .ok (.goto 4, 3) := by decide +kernel
theorem dX4_isMinute_15 : decode cX4_isMinute 15 = .ok (.iconst 0, 1) := by decide +kernel
theorem dX4_isMinute_16 : decode cX4_isMinute 16 = .ok (.ireturn, 1) := by decide +kernel
theorem dX4_isKind_0 : decode cX4_isKind 0 = .ok (.iload_n 0, 1) := by decide +kernel
theorem dX4_isKind_1 : decode cX4_isKind 1 = .ok (.ifCond .lt 12, 3) := by decide +kernel
theorem dX4_isKind_4 : decode cX4_isKind 4 = .ok (.iload_n 0, 1) := by decide +kernel
theorem dX4_isKind_5 : decode cX4_isKind 5 = .ok (.iconst 4, 1) := by decide +kernel
theorem dX4_isKind_6 : decode cX4_isKind 6 = .ok (.if_icmp .ge 7, 3) := by decide +kernel
theorem dX4_isKind_9 : decode cX4_isKind 9 = .ok (.iconst 1, 1) := by decide +kernel
theorem dX4_isKind_10 : decode cX4_isKind 10 = .ok (.goto 4, 3) := by decide +kernel
theorem dX4_isKind_13 : decode cX4_isKind 13 = .ok (.iconst 0, 1) := by decide +kernel
theorem dX4_isKind_14 : decode cX4_isKind 14 = .ok (.ireturn, 1) := by decide +kernel
theorem dX4_isPlace_0 : decode cX4_isPlace 0 = .ok (.iload_n 1, 1) := by decide +kernel
theorem dX4_isPlace_1 : decode cX4_isPlace 1 = .ok (.ifCond .lt 21, 3) := by decide +kernel
theorem dX4_isPlace_4 : decode cX4_isPlace 4 = .ok (.iload_n 1, 1) := by decide +kernel
theorem dX4_isPlace_5 : decode cX4_isPlace 5 = .ok (.aload_n 0, 1) := by decide +kernel
theorem dX4_isPlace_6 : decode cX4_isPlace 6 = .ok (.getfield 35, 3) := by decide +kernel
theorem dX4_isPlace_9 : decode cX4_isPlace 9 = .ok (.if_icmp .ge 13, 3) := by decide +kernel
theorem dX4_isPlace_12 : decode cX4_isPlace 12 = .ok (.iload_n 1, 1) := by decide +kernel
theorem dX4_isPlace_13 : decode cX4_isPlace 13 = .ok (.bipush 8, 2) := by decide +kernel
theorem dX4_isPlace_15 : decode cX4_isPlace 15 = .ok (.if_icmp .ge 7, 3) := by decide +kernel
theorem dX4_isPlace_18 : decode cX4_isPlace 18 = .ok (.iconst 1, 1) := by decide +kernel
theorem dX4_isPlace_19 : decode cX4_isPlace 19 = .ok (.goto 4, 3) := by decide +kernel
theorem dX4_isPlace_22 : decode cX4_isPlace 22 = .ok (.iconst 0, 1) := by decide +kernel
theorem dX4_isPlace_23 : decode cX4_isPlace 23 = .ok (.ireturn, 1) := by decide +kernel
theorem dX4_areBits_0 : decode cX4_areBits 0 = .ok (.iload_n 0, 1) := by decide +kernel
theorem dX4_areBits_1 : decode cX4_areBits 1 = .ok (.ifCond .lt 14, 3) := by decide +kernel
theorem dX4_areBits_4 : decode cX4_areBits 4 = .ok (.iload_n 0, 1) := by decide +kernel
theorem dX4_areBits_5 : decode cX4_areBits 5 = .ok (.iconst 1, 1) := by decide +kernel
theorem dX4_areBits_6 : decode cX4_areBits 6 = .ok (.iload_n 1, 1) := by decide +kernel
theorem dX4_areBits_7 : decode cX4_areBits 7 = .ok (.ishl, 1) := by decide +kernel
theorem dX4_areBits_8 : decode cX4_areBits 8 = .ok (.if_icmp .ge 7, 3) := by decide +kernel
theorem dX4_areBits_11 : decode cX4_areBits 11 = .ok (.iconst 1, 1) := by decide +kernel
theorem dX4_areBits_12 : decode cX4_areBits 12 = .ok (.goto 4, 3) := by decide +kernel
theorem dX4_areBits_15 : decode cX4_areBits 15 = .ok (.iconst 0, 1) := by decide +kernel
theorem dX4_areBits_16 : decode cX4_areBits 16 = .ok (.ireturn, 1) := by decide +kernel
theorem dX4_hasBit_0 : decode cX4_hasBit 0 = .ok (.iload_n 0, 1) := by decide +kernel
theorem dX4_hasBit_1 : decode cX4_hasBit 1 = .ok (.iload_n 1, 1) := by decide +kernel
theorem dX4_hasBit_2 : decode cX4_hasBit 2 = .ok (.ishr, 1) := by decide +kernel
theorem dX4_hasBit_3 : decode cX4_hasBit 3 = .ok (.iconst 1, 1) := by decide +kernel
theorem dX4_hasBit_4 : decode cX4_hasBit 4 = .ok (.iand, 1) := by decide +kernel
theorem dX4_hasBit_5 : decode cX4_hasBit 5 = .ok (.iconst 1, 1) := by decide +kernel
theorem dX4_hasBit_6 : decode cX4_hasBit 6 = .ok (.if_icmp .ne 7, 3) := by decide +kernel
theorem dX4_hasBit_9 : decode cX4_hasBit 9 = .ok (.iconst 1, 1) := by decide +kernel
theorem dX4_hasBit_10 : decode cX4_hasBit 10 = .ok (.goto 4, 3) := by decide +kernel
theorem dX4_hasBit_13 : decode cX4_hasBit 13 = .ok (.iconst 0, 1) := by decide +kernel
theorem dX4_hasBit_14 : decode cX4_hasBit 14 = .ok (.ireturn, 1) := by decide +kernel
theorem dX4_riderAt_0 : decode cX4_riderAt 0 = .ok (.iload_n 1, 1) := by decide +kernel
theorem dX4_riderAt_1 : decode cX4_riderAt 1 = .ok (.ifCond .lt 26, 3) := by decide +kernel
theorem dX4_riderAt_4 : decode cX4_riderAt 4 = .ok (.iload_n 1, 1) := by decide +kernel
theorem dX4_riderAt_5 : decode cX4_riderAt 5 = .ok (.aload_n 0, 1) := by decide +kernel
theorem dX4_riderAt_6 : decode cX4_riderAt 6 = .ok (.getfield 39, 3) := by decide +kernel
theorem dX4_riderAt_9 : decode cX4_riderAt 9 = .ok (.if_icmp .ge 18, 3) := by decide +kernel
theorem dX4_riderAt_12 : decode cX4_riderAt 12 = .ok (.iload_n 1, 1) := by decide +kernel
theorem dX4_riderAt_13 : decode cX4_riderAt 13 = .ok (.bipush 6, 2) := by decide +kernel
theorem dX4_riderAt_15 : decode cX4_riderAt 15 = .ok (.if_icmp .ge 12, 3) := by decide +kernel
theorem dX4_riderAt_18 : decode cX4_riderAt 18 = .ok (.aload_n 0, 1) := by decide +kernel
theorem dX4_riderAt_19 : decode cX4_riderAt 19 = .ok (.getfield 15, 3) := by decide +kernel
theorem dX4_riderAt_22 : decode cX4_riderAt 22 = .ok (.iload_n 1, 1) := by decide +kernel
theorem dX4_riderAt_23 : decode cX4_riderAt 23 = .ok (.aaload, 1) := by decide +kernel
theorem dX4_riderAt_24 : decode cX4_riderAt 24 = .ok (.goto 4, 3) := by decide +kernel
theorem dX4_riderAt_27 : decode cX4_riderAt 27 = .ok (.aconst_null, 1) := by decide +kernel
theorem dX4_riderAt_28 : decode cX4_riderAt 28 = .ok (.areturn, 1) := by decide +kernel
theorem dX4_requestAt_0 : decode cX4_requestAt 0 = .ok (.iload_n 1, 1) := by decide +kernel
theorem dX4_requestAt_1 : decode cX4_requestAt 1 = .ok (.ifCond .lt 26, 3) := by decide +kernel
theorem dX4_requestAt_4 : decode cX4_requestAt 4 = .ok (.iload_n 1, 1) := by decide +kernel
theorem dX4_requestAt_5 : decode cX4_requestAt 5 = .ok (.aload_n 0, 1) := by decide +kernel
theorem dX4_requestAt_6 : decode cX4_requestAt 6 = .ok (.getfield 42, 3) := by decide +kernel
theorem dX4_requestAt_9 : decode cX4_requestAt 9 = .ok (.if_icmp .ge 18, 3) := by decide +kernel
theorem dX4_requestAt_12 : decode cX4_requestAt 12 = .ok (.iload_n 1, 1) := by decide +kernel
theorem dX4_requestAt_13 : decode cX4_requestAt 13 = .ok (.bipush 40, 2) := by decide +kernel
theorem dX4_requestAt_15 : decode cX4_requestAt 15 = .ok (.if_icmp .ge 12, 3) := by decide +kernel
theorem dX4_requestAt_18 : decode cX4_requestAt 18 = .ok (.aload_n 0, 1) := by decide +kernel
theorem dX4_requestAt_19 : decode cX4_requestAt 19 = .ok (.getfield 21, 3) := by decide +kernel
theorem dX4_requestAt_22 : decode cX4_requestAt 22 = .ok (.iload_n 1, 1) := by decide +kernel
theorem dX4_requestAt_23 : decode cX4_requestAt 23 = .ok (.aaload, 1) := by decide +kernel
theorem dX4_requestAt_24 : decode cX4_requestAt 24 = .ok (.goto 4, 3) := by decide +kernel
theorem dX4_requestAt_27 : decode cX4_requestAt 27 = .ok (.aconst_null, 1) := by decide +kernel
theorem dX4_requestAt_28 : decode cX4_requestAt 28 = .ok (.areturn, 1) := by decide +kernel
theorem dX4_wayOf_0 : decode cX4_wayOf 0 = .ok (.aload_n 0, 1) := by decide +kernel
theorem dX4_wayOf_1 : decode cX4_wayOf 1 = .ok (.iload_n 2, 1) := by decide +kernel
theorem dX4_wayOf_2 : decode cX4_wayOf 2 = .ok (.invokevirtual 51, 3) := by decide +kernel
theorem dX4_wayOf_5 : decode cX4_wayOf 5 = .ok (.ifCond .eq 25, 3) := by decide +kernel
theorem dX4_wayOf_8 : decode cX4_wayOf 8 = .ok (.aload_n 0, 1) := by decide +kernel
theorem dX4_wayOf_9 : decode cX4_wayOf 9 = .ok (.iload_n 3, 1) := by decide +kernel
theorem dX4_wayOf_10 : decode cX4_wayOf 10 = .ok (.invokevirtual 51, 3) := by decide +kernel
theorem dX4_wayOf_13 : decode cX4_wayOf 13 = .ok (.ifCond .eq 17, 3) := by decide +kernel
theorem dX4_wayOf_16 : decode cX4_wayOf 16 = .ok (.aload_n 1, 1) := by decide +kernel
theorem dX4_wayOf_17 : decode cX4_wayOf 17 = .ok (.getfield 214, 3) := by decide +kernel
theorem dX4_wayOf_20 : decode cX4_wayOf 20 = .ok (.iload_n 2, 1) := by decide +kernel
theorem dX4_wayOf_21 : decode cX4_wayOf 21 = .ok (.bipush 8, 2) := by decide +kernel
theorem dX4_wayOf_23 : decode cX4_wayOf 23 = .ok (.imul, 1) := by decide +kernel
theorem dX4_wayOf_24 : decode cX4_wayOf 24 = .ok (.iload_n 3, 1) := by decide +kernel
theorem dX4_wayOf_25 : decode cX4_wayOf 25 = .ok (.iadd, 1) := by decide +kernel
theorem dX4_wayOf_26 : decode cX4_wayOf 26 = .ok (.iaload, 1) := by decide +kernel
theorem dX4_wayOf_27 : decode cX4_wayOf 27 = .ok (.goto 4, 3) := by decide +kernel
theorem dX4_wayOf_30 : decode cX4_wayOf 30 = .ok (.iconst (-1), 1) := by decide +kernel
theorem dX4_wayOf_31 : decode cX4_wayOf 31 = .ok (.ireturn, 1) := by decide +kernel
theorem dX4_settleWays_0 : decode cX4_settleWays 0 = .ok (.iconst 0, 1) := by decide +kernel
theorem dX4_settleWays_1 : decode cX4_settleWays 1 = .ok (.istore_n 2, 1) := by decide +kernel
theorem dX4_settleWays_2 : decode cX4_settleWays 2 = .ok (.iload_n 2, 1) := by decide +kernel
theorem dX4_settleWays_3 : decode cX4_settleWays 3 = .ok (.bipush 8, 2) := by decide +kernel
theorem dX4_settleWays_5 : decode cX4_settleWays 5 = .ok (.if_icmp .ge 44, 3) := by decide +kernel
theorem dX4_settleWays_8 : decode cX4_settleWays 8 = .ok (.iconst 0, 1) := by decide +kernel
theorem dX4_settleWays_9 : decode cX4_settleWays 9 = .ok (.istore_n 3, 1) := by decide +kernel
theorem dX4_settleWays_10 : decode cX4_settleWays 10 = .ok (.iload_n 3, 1) := by decide +kernel
theorem dX4_settleWays_11 : decode cX4_settleWays 11 = .ok (.bipush 8, 2) := by decide +kernel
theorem dX4_settleWays_13 : decode cX4_settleWays 13 = .ok (.if_icmp .ge 30, 3) := by decide +kernel
theorem dX4_settleWays_16 : decode cX4_settleWays 16 = .ok (.aload_n 1, 1) := by decide +kernel
theorem dX4_settleWays_17 : decode cX4_settleWays 17 = .ok (.getfield 214, 3) := by decide +kernel
theorem dX4_settleWays_20 : decode cX4_settleWays 20 = .ok (.iload_n 2, 1) := by decide +kernel
theorem dX4_settleWays_21 : decode cX4_settleWays 21 = .ok (.bipush 8, 2) := by decide +kernel
theorem dX4_settleWays_23 : decode cX4_settleWays 23 = .ok (.imul, 1) := by decide +kernel
theorem dX4_settleWays_24 : decode cX4_settleWays 24 = .ok (.iload_n 3, 1) := by decide +kernel
theorem dX4_settleWays_25 : decode cX4_settleWays 25 = .ok (.iadd, 1) := by decide +kernel
theorem dX4_settleWays_26 : decode cX4_settleWays 26 = .ok (.aload_n 0, 1) := by decide +kernel
theorem dX4_settleWays_27 : decode cX4_settleWays 27 = .ok (.aload_n 1, 1) := by decide +kernel
theorem dX4_settleWays_28 : decode cX4_settleWays 28 = .ok (.getfield 110, 3) := by decide +kernel
theorem dX4_settleWays_31 : decode cX4_settleWays 31 = .ok (.iload_n 2, 1) := by decide +kernel
theorem dX4_settleWays_32 : decode cX4_settleWays 32 = .ok (.iload_n 3, 1) := by decide +kernel
theorem dX4_settleWays_33 : decode cX4_settleWays 33 = .ok (.invokevirtual 217, 3) := by decide +kernel
theorem dX4_settleWays_36 : decode cX4_settleWays 36 = .ok (.iastore, 1) := by decide +kernel
theorem dX4_settleWays_37 : decode cX4_settleWays 37 = .ok (.iinc 3 1, 3) := by decide +kernel
theorem dX4_settleWays_40 : decode cX4_settleWays 40 = .ok (.goto (-30), 3) := by decide +kernel
theorem dX4_settleWays_43 : decode cX4_settleWays 43 = .ok (.iinc 2 1, 3) := by decide +kernel
theorem dX4_settleWays_46 : decode cX4_settleWays 46 = .ok (.goto (-44), 3) := by decide +kernel
theorem dX4_settleWays_49 : decode cX4_settleWays 49 = .ok (.aload_n 1, 1) := by decide +kernel
theorem dX4_settleWays_50 : decode cX4_settleWays 50 = .ok (.invokevirtual 221, 3) := by decide +kernel
theorem dX4_settleWays_53 : decode cX4_settleWays 53 = .ok (.return_, 1) := by decide +kernel
theorem dX4_roadWithin_0 : decode cX4_roadWithin 0 = .ok (.aload_n 0, 1) := by decide +kernel
theorem dX4_roadWithin_1 : decode cX4_roadWithin 1 = .ok (.iload_n 2, 1) := by decide +kernel
theorem dX4_roadWithin_2 : decode cX4_roadWithin 2 = .ok (.invokevirtual 51, 3) := by decide +kernel
theorem dX4_roadWithin_5 : decode cX4_roadWithin 5 = .ok (.ifCond .eq 27, 3) := by decide +kernel
theorem dX4_roadWithin_8 : decode cX4_roadWithin 8 = .ok (.aload_n 0, 1) := by decide +kernel
theorem dX4_roadWithin_9 : decode cX4_roadWithin 9 = .ok (.iload_n 3, 1) := by decide +kernel
theorem dX4_roadWithin_10 : decode cX4_roadWithin 10 = .ok (.invokevirtual 51, 3) := by decide +kernel
theorem dX4_roadWithin_13 : decode cX4_roadWithin 13 = .ok (.ifCond .eq 19, 3) := by decide +kernel
theorem dX4_roadWithin_16 : decode cX4_roadWithin 16 = .ok (.iload_n 1, 1) := by decide +kernel
theorem dX4_roadWithin_17 : decode cX4_roadWithin 17 = .ok (.iload_n 2, 1) := by decide +kernel
theorem dX4_roadWithin_18 : decode cX4_roadWithin 18 = .ok (.invokestatic 67, 3) := by decide +kernel
theorem dX4_roadWithin_21 : decode cX4_roadWithin 21 = .ok (.ifCond .eq 11, 3) := by decide +kernel
theorem dX4_roadWithin_24 : decode cX4_roadWithin 24 = .ok (.iload_n 1, 1) := by decide +kernel
theorem dX4_roadWithin_25 : decode cX4_roadWithin 25 = .ok (.iload_n 3, 1) := by decide +kernel
theorem dX4_roadWithin_26 : decode cX4_roadWithin 26 = .ok (.invokestatic 67, 3) := by decide +kernel
theorem dX4_roadWithin_29 : decode cX4_roadWithin 29 = .ok (.ifCond .ne 5, 3) := by decide +kernel
theorem dX4_roadWithin_32 : decode cX4_roadWithin 32 = .ok (.iconst (-1), 1) := by decide +kernel
theorem dX4_roadWithin_33 : decode cX4_roadWithin 33 = .ok (.ireturn, 1) := by decide +kernel
theorem dX4_roadWithin_34 : decode cX4_roadWithin 34 = .ok (.iload_n 2, 1) := by decide +kernel
theorem dX4_roadWithin_35 : decode cX4_roadWithin 35 = .ok (.iload_n 3, 1) := by decide +kernel
theorem dX4_roadWithin_36 : decode cX4_roadWithin 36 = .ok (.if_icmp .ne 5, 3) := by decide +kernel
theorem dX4_roadWithin_39 : decode cX4_roadWithin 39 = .ok (.iconst 0, 1) := by decide +kernel
theorem dX4_roadWithin_40 : decode cX4_roadWithin 40 = .ok (.ireturn, 1) := by decide +kernel
theorem dX4_roadWithin_41 : decode cX4_roadWithin 41 = .ok (.aload_n 0, 1) := by decide +kernel
theorem dX4_roadWithin_42 : decode cX4_roadWithin 42 = .ok (.getfield 9, 3) := by decide +kernel
theorem dX4_roadWithin_45 : decode cX4_roadWithin 45 = .ok (.iload_n 2, 1) := by decide +kernel
theorem dX4_roadWithin_46 : decode cX4_roadWithin 46 = .ok (.bipush 8, 2) := by decide +kernel
theorem dX4_roadWithin_48 : decode cX4_roadWithin 48 = .ok (.imul, 1) := by decide +kernel
theorem dX4_roadWithin_49 : decode cX4_roadWithin 49 = .ok (.iload_n 3, 1) := by decide +kernel
theorem dX4_roadWithin_50 : decode cX4_roadWithin 50 = .ok (.iadd, 1) := by decide +kernel
theorem dX4_roadWithin_51 : decode cX4_roadWithin 51 = .ok (.iaload, 1) := by decide +kernel
theorem dX4_roadWithin_52 : decode cX4_roadWithin 52 = .ok (.istore 4, 2) := by decide +kernel
theorem dX4_roadWithin_54 : decode cX4_roadWithin 54 = .ok (.iload 4, 2) := by decide +kernel
theorem dX4_roadWithin_56 : decode cX4_roadWithin 56 = .ok (.ifCond .ne 7, 3) := by decide +kernel
theorem dX4_roadWithin_59 : decode cX4_roadWithin 59 = .ok (.iconst (-1), 1) := by decide +kernel
theorem dX4_roadWithin_60 : decode cX4_roadWithin 60 = .ok (.goto 5, 3) := by decide +kernel
theorem dX4_roadWithin_63 : decode cX4_roadWithin 63 = .ok (.iload 4, 2) := by decide +kernel
theorem dX4_roadWithin_65 : decode cX4_roadWithin 65 = .ok (.ireturn, 1) := by decide +kernel
theorem dX4_thereFrom_0 : decode cX4_thereFrom 0 = .ok (.aload_n 0, 1) := by decide +kernel
theorem dX4_thereFrom_1 : decode cX4_thereFrom 1 = .ok (.aload_n 1, 1) := by decide +kernel
theorem dX4_thereFrom_2 : decode cX4_thereFrom 2 = .ok (.aload_n 1, 1) := by decide +kernel
theorem dX4_thereFrom_3 : decode cX4_thereFrom 3 = .ok (.getfield 94, 3) := by decide +kernel
theorem dX4_thereFrom_6 : decode cX4_thereFrom 6 = .ok (.iload_n 2, 1) := by decide +kernel
theorem dX4_thereFrom_7 : decode cX4_thereFrom 7 = .ok (.invokevirtual 80, 3) := by decide +kernel
theorem dX4_thereFrom_10 : decode cX4_thereFrom 10 = .ok (.istore_n 3, 1) := by decide +kernel
theorem dX4_thereFrom_11 : decode cX4_thereFrom 11 = .ok (.iload_n 3, 1) := by decide +kernel
theorem dX4_thereFrom_12 : decode cX4_thereFrom 12 = .ok (.iconst (-1), 1) := by decide +kernel
theorem dX4_thereFrom_13 : decode cX4_thereFrom 13 = .ok (.if_icmp .ne 7, 3) := by decide +kernel
theorem dX4_thereFrom_16 : decode cX4_thereFrom 16 = .ok (.iconst (-1), 1) := by decide +kernel
theorem dX4_thereFrom_17 : decode cX4_thereFrom 17 = .ok (.goto 16, 3) := by decide +kernel
theorem dX4_thereFrom_20 : decode cX4_thereFrom 20 = .ok (.aload_n 1, 1) := by decide +kernel
theorem dX4_thereFrom_21 : decode cX4_thereFrom 21 = .ok (.getfield 101, 3) := by decide +kernel
theorem dX4_thereFrom_24 : decode cX4_thereFrom 24 = .ok (.aload_n 1, 1) := by decide +kernel
theorem dX4_thereFrom_25 : decode cX4_thereFrom 25 = .ok (.getfield 224, 3) := by decide +kernel
theorem dX4_thereFrom_28 : decode cX4_thereFrom 28 = .ok (.invokestatic 131, 3) := by decide +kernel
theorem dX4_thereFrom_31 : decode cX4_thereFrom 31 = .ok (.iload_n 3, 1) := by decide +kernel
theorem dX4_thereFrom_32 : decode cX4_thereFrom 32 = .ok (.iadd, 1) := by decide +kernel
theorem dX4_thereFrom_33 : decode cX4_thereFrom 33 = .ok (.ireturn, 1) := by decide +kernel
theorem dX4_countRequests_0 : decode cX4_countRequests 0 = .ok (.iconst 0, 1) := by decide +kernel
theorem dX4_countRequests_1 : decode cX4_countRequests 1 = .ok (.istore_n 2, 1) := by decide +kernel
theorem dX4_countRequests_2 : decode cX4_countRequests 2 = .ok (.iconst 0, 1) := by decide +kernel
theorem dX4_countRequests_3 : decode cX4_countRequests 3 = .ok (.istore_n 3, 1) := by decide +kernel
theorem dX4_countRequests_4 : decode cX4_countRequests 4 = .ok (.iload_n 3, 1) := by decide +kernel
theorem dX4_countRequests_5 : decode cX4_countRequests 5 = .ok (.aload_n 0, 1) := by decide +kernel
theorem dX4_countRequests_6 : decode cX4_countRequests 6 = .ok (.getfield 42, 3) := by decide +kernel
theorem dX4_countRequests_9 : decode cX4_countRequests 9 = .ok (.if_icmp .ge 33, 3) := by decide +kernel
theorem dX4_countRequests_12 : decode cX4_countRequests 12 = .ok (.aload_n 0, 1) := by decide +kernel
theorem dX4_countRequests_13 : decode cX4_countRequests 13 = .ok (.iload_n 3, 1) := by decide +kernel
theorem dX4_countRequests_14 : decode cX4_countRequests 14 = .ok (.invokevirtual 137, 3) := by decide +kernel
theorem dX4_countRequests_17 : decode cX4_countRequests 17 = .ok (.astore 4, 2) := by decide +kernel
theorem dX4_countRequests_19 : decode cX4_countRequests 19 = .ok (.aload 4, 2) := by decide +kernel
theorem dX4_countRequests_21 : decode cX4_countRequests 21 = .ok (.ifnull 15, 3) := by decide +kernel
theorem dX4_countRequests_24 : decode cX4_countRequests 24 = .ok (.aload 4, 2) := by decide +kernel
theorem dX4_countRequests_26 : decode cX4_countRequests 26 = .ok (.iload_n 1, 1) := by decide +kernel
theorem dX4_countRequests_27 : decode cX4_countRequests 27 = .ok (.invokestatic 227, 3) := by decide +kernel
theorem dX4_countRequests_30 : decode cX4_countRequests 30 = .ok (.ifCond .eq 6, 3) := by decide +kernel
theorem dX4_countRequests_33 : decode cX4_countRequests 33 = .ok (.iinc 2 1, 3) := by decide +kernel
theorem dX4_countRequests_36 : decode cX4_countRequests 36 = .ok (.iinc 3 1, 3) := by decide +kernel
theorem dX4_countRequests_39 : decode cX4_countRequests 39 = .ok (.goto (-35), 3) := by decide +kernel
theorem dX4_countRequests_42 : decode cX4_countRequests 42 = .ok (.iload_n 2, 1) := by decide +kernel
theorem dX4_countRequests_43 : decode cX4_countRequests 43 = .ok (.ireturn, 1) := by decide +kernel
theorem dX4_isCounted_0 : decode cX4_isCounted 0 = .ok (.iload_n 1, 1) := by decide +kernel
theorem dX4_isCounted_1 : decode cX4_isCounted 1 = .ok (.lookupswitch 37 #[(3, 27), (4, 32)], 27) := by decide +kernel
theorem dX4_isCounted_28 : decode cX4_isCounted 28 = .ok (.aload_n 0, 1) := by decide +kernel
theorem dX4_isCounted_29 : decode cX4_isCounted 29 = .ok (.getfield 141, 3) := by decide +kernel
theorem dX4_isCounted_32 : decode cX4_isCounted 32 = .ok (.ireturn, 1) := by decide +kernel
theorem dX4_isCounted_33 : decode cX4_isCounted 33 = .ok (.aload_n 0, 1) := by decide +kernel
theorem dX4_isCounted_34 : decode cX4_isCounted 34 = .ok (.getfield 172, 3) := by decide +kernel
theorem dX4_isCounted_37 : decode cX4_isCounted 37 = .ok (.ireturn, 1) := by decide +kernel
theorem dX4_isCounted_38 : decode cX4_isCounted 38 = .ok (.aload_n 0, 1) := by decide +kernel
theorem dX4_isCounted_39 : decode cX4_isCounted 39 = .ok (.invokevirtual 231, 3) := by decide +kernel
theorem dX4_isCounted_42 : decode cX4_isCounted 42 = .ok (.ireturn, 1) := by decide +kernel
theorem dX4_lastOnDuty_0 : decode cX4_lastOnDuty 0 = .ok (.iconst (-1), 1) := by decide +kernel
theorem dX4_lastOnDuty_1 : decode cX4_lastOnDuty 1 = .ok (.istore_n 3, 1) := by decide +kernel
theorem dX4_lastOnDuty_2 : decode cX4_lastOnDuty 2 = .ok (.iconst 0, 1) := by decide +kernel
theorem dX4_lastOnDuty_3 : decode cX4_lastOnDuty 3 = .ok (.istore 4, 2) := by decide +kernel
theorem dX4_lastOnDuty_5 : decode cX4_lastOnDuty 5 = .ok (.iload 4, 2) := by decide +kernel
theorem dX4_lastOnDuty_7 : decode cX4_lastOnDuty 7 = .ok (.aload_n 0, 1) := by decide +kernel
theorem dX4_lastOnDuty_8 : decode cX4_lastOnDuty 8 = .ok (.getfield 39, 3) := by decide +kernel
theorem dX4_lastOnDuty_11 : decode cX4_lastOnDuty 11 = .ok (.if_icmp .ge 50, 3) := by decide +kernel
theorem dX4_lastOnDuty_14 : decode cX4_lastOnDuty 14 = .ok (.aload_n 0, 1) := by decide +kernel
theorem dX4_lastOnDuty_15 : decode cX4_lastOnDuty 15 = .ok (.iload 4, 2) := by decide +kernel
theorem dX4_lastOnDuty_17 : decode cX4_lastOnDuty 17 = .ok (.invokevirtual 55, 3) := by decide +kernel
theorem dX4_lastOnDuty_20 : decode cX4_lastOnDuty 20 = .ok (.astore 5, 2) := by decide +kernel
theorem dX4_lastOnDuty_22 : decode cX4_lastOnDuty 22 = .ok (.aload 5, 2) := by decide +kernel
theorem dX4_lastOnDuty_24 : decode cX4_lastOnDuty 24 = .ok (.ifnull 31, 3) := by decide +kernel
theorem dX4_lastOnDuty_27 : decode cX4_lastOnDuty 27 = .ok (.aload 5, 2) := by decide +kernel
theorem dX4_lastOnDuty_29 : decode cX4_lastOnDuty 29 = .ok (.iload_n 2, 1) := by decide +kernel
theorem dX4_lastOnDuty_30 : decode cX4_lastOnDuty 30 = .ok (.invokevirtual 121, 3) := by decide +kernel
theorem dX4_lastOnDuty_33 : decode cX4_lastOnDuty 33 = .ok (.ifCond .eq 22, 3) := by decide +kernel
theorem dX4_lastOnDuty_36 : decode cX4_lastOnDuty 36 = .ok (.aload 5, 2) := by decide +kernel
theorem dX4_lastOnDuty_38 : decode cX4_lastOnDuty 38 = .ok (.iload_n 1, 1) := by decide +kernel
theorem dX4_lastOnDuty_39 : decode cX4_lastOnDuty 39 = .ok (.invokevirtual 124, 3) := by decide +kernel
theorem dX4_lastOnDuty_42 : decode cX4_lastOnDuty 42 = .ok (.ifCond .eq 13, 3) := by decide +kernel
theorem dX4_lastOnDuty_45 : decode cX4_lastOnDuty 45 = .ok (.iload_n 3, 1) := by decide +kernel
theorem dX4_lastOnDuty_46 : decode cX4_lastOnDuty 46 = .ok (.aload 5, 2) := by decide +kernel
theorem dX4_lastOnDuty_48 : decode cX4_lastOnDuty 48 = .ok (.getfield 211, 3) := by decide +kernel
theorem dX4_lastOnDuty_51 : decode cX4_lastOnDuty 51 = .ok (.invokestatic 131, 3) := by decide +kernel
theorem dX4_lastOnDuty_54 : decode cX4_lastOnDuty 54 = .ok (.istore_n 3, 1) := by decide +kernel
theorem dX4_lastOnDuty_55 : decode cX4_lastOnDuty 55 = .ok (.iinc 4 1, 3) := by decide +kernel
theorem dX4_lastOnDuty_58 : decode cX4_lastOnDuty 58 = .ok (.goto (-53), 3) := by decide +kernel
theorem dX4_lastOnDuty_61 : decode cX4_lastOnDuty 61 = .ok (.iload_n 3, 1) := by decide +kernel
theorem dX4_lastOnDuty_62 : decode cX4_lastOnDuty 62 = .ok (.ireturn, 1) := by decide +kernel
theorem dX4_findChain_0 : decode cX4_findChain 0 = .ok (.aload_n 0, 1) := by decide +kernel
theorem dX4_findChain_1 : decode cX4_findChain 1 = .ok (.getfield 28, 3) := by decide +kernel
theorem dX4_findChain_4 : decode cX4_findChain 4 = .ok (.aload_n 1, 1) := by decide +kernel
theorem dX4_findChain_5 : decode cX4_findChain 5 = .ok (.getfield 163, 3) := by decide +kernel
theorem dX4_findChain_8 : decode cX4_findChain 8 = .ok (.putfield 235, 3) := by decide +kernel
theorem dX4_findChain_11 : decode cX4_findChain 11 = .ok (.aload_n 0, 1) := by decide +kernel
theorem dX4_findChain_12 : decode cX4_findChain 12 = .ok (.getfield 28, 3) := by decide +kernel
theorem dX4_findChain_15 : decode cX4_findChain 15 = .ok (.aload_n 1, 1) := by decide +kernel
theorem dX4_findChain_16 : decode cX4_findChain 16 = .ok (.getfield 166, 3) := by decide +kernel
theorem dX4_findChain_19 : decode cX4_findChain 19 = .ok (.putfield 236, 3) := by decide +kernel
theorem dX4_findChain_22 : decode cX4_findChain 22 = .ok (.aload_n 0, 1) := by decide +kernel
theorem dX4_findChain_23 : decode cX4_findChain 23 = .ok (.getfield 32, 3) := by decide +kernel
theorem dX4_findChain_26 : decode cX4_findChain 26 = .ok (.iconst 0, 1) := by decide +kernel
theorem dX4_findChain_27 : decode cX4_findChain 27 = .ok (.putfield 239, 3) := by decide +kernel
theorem dX4_findChain_30 : decode cX4_findChain 30 = .ok (.aload_n 0, 1) := by decide +kernel
theorem dX4_findChain_31 : decode cX4_findChain 31 = .ok (.iconst 0, 1) := by decide +kernel
theorem dX4_findChain_32 : decode cX4_findChain 32 = .ok (.iload_n 2, 1) := by decide +kernel
theorem dX4_findChain_33 : decode cX4_findChain 33 = .ok (.iload_n 3, 1) := by decide +kernel
theorem dX4_findChain_34 : decode cX4_findChain 34 = .ok (.invokevirtual 242, 3) := by decide +kernel
theorem dX4_findChain_37 : decode cX4_findChain 37 = .ok (.aload_n 0, 1) := by decide +kernel
theorem dX4_findChain_38 : decode cX4_findChain 38 = .ok (.getfield 32, 3) := by decide +kernel
theorem dX4_findChain_41 : decode cX4_findChain 41 = .ok (.getfield 239, 3) := by decide +kernel
theorem dX4_findChain_44 : decode cX4_findChain 44 = .ok (.ifCond .le 7, 3) := by decide +kernel
theorem dX4_findChain_47 : decode cX4_findChain 47 = .ok (.iconst 1, 1) := by decide +kernel
theorem dX4_findChain_48 : decode cX4_findChain 48 = .ok (.goto 4, 3) := by decide +kernel
theorem dX4_findChain_51 : decode cX4_findChain 51 = .ok (.iconst 0, 1) := by decide +kernel
theorem dX4_findChain_52 : decode cX4_findChain 52 = .ok (.ireturn, 1) := by decide +kernel
theorem dX4_tryRiders_0 : decode cX4_tryRiders 0 = .ok (.iload_n 1, 1) := by decide +kernel
theorem dX4_tryRiders_1 : decode cX4_tryRiders 1 = .ok (.ifCond .lt 8, 3) := by decide +kernel
theorem dX4_tryRiders_4 : decode cX4_tryRiders 4 = .ok (.iload_n 1, 1) := by decide +kernel
theorem dX4_tryRiders_5 : decode cX4_tryRiders 5 = .ok (.iconst 3, 1) := by decide +kernel
theorem dX4_tryRiders_6 : decode cX4_tryRiders 6 = .ok (.if_icmp .lt 4, 3) := by decide +kernel
theorem dX4_tryRiders_9 : decode cX4_tryRiders 9 = .ok (.return_, 1) := by decide +kernel
theorem dX4_tryRiders_10 : decode cX4_tryRiders 10 = .ok (.iconst 0, 1) := by decide +kernel
theorem dX4_tryRiders_11 : decode cX4_tryRiders 11 = .ok (.istore 4, 2) := by decide +kernel
theorem dX4_tryRiders_13 : decode cX4_tryRiders 13 = .ok (.iload 4, 2) := by decide +kernel
theorem dX4_tryRiders_15 : decode cX4_tryRiders 15 = .ok (.aload_n 0, 1) := by decide +kernel
end
section
theorem dX4_tryRiders_16 : decode cX4_tryRiders 16 = .ok (.getfield 39, 3) := by decide +kernel
theorem dX4_tryRiders_19 : decode cX4_tryRiders 19 = .ok (.if_icmp .ge 119, 3) := by decide +kernel
theorem dX4_tryRiders_22 : decode cX4_tryRiders 22 = .ok (.aload_n 0, 1) := by decide +kernel
theorem dX4_tryRiders_23 : decode cX4_tryRiders 23 = .ok (.iload 4, 2) := by decide +kernel
theorem dX4_tryRiders_25 : decode cX4_tryRiders 25 = .ok (.invokevirtual 55, 3) := by decide +kernel
theorem dX4_tryRiders_28 : decode cX4_tryRiders 28 = .ok (.astore 5, 2) := by decide +kernel
theorem dX4_tryRiders_30 : decode cX4_tryRiders 30 = .ok (.aload 5, 2) := by decide +kernel
theorem dX4_tryRiders_32 : decode cX4_tryRiders 32 = .ok (.ifnull 100, 3) := by decide +kernel
theorem dX4_tryRiders_35 : decode cX4_tryRiders 35 = .ok (.aload 5, 2) := by decide +kernel
theorem dX4_tryRiders_37 : decode cX4_tryRiders 37 = .ok (.aload_n 0, 1) := by decide +kernel
theorem dX4_tryRiders_38 : decode cX4_tryRiders 38 = .ok (.getfield 28, 3) := by decide +kernel
theorem dX4_tryRiders_41 : decode cX4_tryRiders 41 = .ok (.getfield 235, 3) := by decide +kernel
theorem dX4_tryRiders_44 : decode cX4_tryRiders 44 = .ok (.invokevirtual 121, 3) := by decide +kernel
theorem dX4_tryRiders_47 : decode cX4_tryRiders 47 = .ok (.ifCond .eq 85, 3) := by decide +kernel
theorem dX4_tryRiders_50 : decode cX4_tryRiders 50 = .ok (.aload_n 0, 1) := by decide +kernel
theorem dX4_tryRiders_51 : decode cX4_tryRiders 51 = .ok (.getfield 28, 3) := by decide +kernel
theorem dX4_tryRiders_54 : decode cX4_tryRiders 54 = .ok (.iload 4, 2) := by decide +kernel
theorem dX4_tryRiders_56 : decode cX4_tryRiders 56 = .ok (.iload_n 1, 1) := by decide +kernel
theorem dX4_tryRiders_57 : decode cX4_tryRiders 57 = .ok (.invokevirtual 246, 3) := by decide +kernel
theorem dX4_tryRiders_60 : decode cX4_tryRiders 60 = .ok (.ifCond .eq 6, 3) := by decide +kernel
theorem dX4_tryRiders_63 : decode cX4_tryRiders 63 = .ok (.goto 69, 3) := by decide +kernel
theorem dX4_tryRiders_66 : decode cX4_tryRiders 66 = .ok (.aload_n 0, 1) := by decide +kernel
theorem dX4_tryRiders_67 : decode cX4_tryRiders 67 = .ok (.aload 5, 2) := by decide +kernel
theorem dX4_tryRiders_69 : decode cX4_tryRiders 69 = .ok (.iload_n 2, 1) := by decide +kernel
theorem dX4_tryRiders_70 : decode cX4_tryRiders 70 = .ok (.invokevirtual 207, 3) := by decide +kernel
theorem dX4_tryRiders_73 : decode cX4_tryRiders 73 = .ok (.istore 6, 2) := by decide +kernel
theorem dX4_tryRiders_75 : decode cX4_tryRiders 75 = .ok (.iload 6, 2) := by decide +kernel
theorem dX4_tryRiders_77 : decode cX4_tryRiders 77 = .ok (.iload_n 3, 1) := by decide +kernel
theorem dX4_tryRiders_78 : decode cX4_tryRiders 78 = .ok (.invokestatic 131, 3) := by decide +kernel
theorem dX4_tryRiders_81 : decode cX4_tryRiders 81 = .ok (.istore 7, 2) := by decide +kernel
theorem dX4_tryRiders_83 : decode cX4_tryRiders 83 = .ok (.iload 6, 2) := by decide +kernel
theorem dX4_tryRiders_85 : decode cX4_tryRiders 85 = .ok (.iconst (-1), 1) := by decide +kernel
theorem dX4_tryRiders_86 : decode cX4_tryRiders 86 = .ok (.if_icmp .eq 46, 3) := by decide +kernel
theorem dX4_tryRiders_89 : decode cX4_tryRiders 89 = .ok (.aload_n 0, 1) := by decide +kernel
theorem dX4_tryRiders_90 : decode cX4_tryRiders 90 = .ok (.iload 7, 2) := by decide +kernel
theorem dX4_tryRiders_92 : decode cX4_tryRiders 92 = .ok (.invokevirtual 249, 3) := by decide +kernel
theorem dX4_tryRiders_95 : decode cX4_tryRiders 95 = .ok (.ifCond .ne 37, 3) := by decide +kernel
theorem dX4_tryRiders_98 : decode cX4_tryRiders 98 = .ok (.aload_n 0, 1) := by decide +kernel
theorem dX4_tryRiders_99 : decode cX4_tryRiders 99 = .ok (.iload_n 1, 1) := by decide +kernel
theorem dX4_tryRiders_100 : decode cX4_tryRiders 100 = .ok (.iconst 1, 1) := by decide +kernel
theorem dX4_tryRiders_101 : decode cX4_tryRiders 101 = .ok (.isub, 1) := by decide +kernel
theorem dX4_tryRiders_102 : decode cX4_tryRiders 102 = .ok (.iload 7, 2) := by decide +kernel
theorem dX4_tryRiders_104 : decode cX4_tryRiders 104 = .ok (.invokevirtual 252, 3) := by decide +kernel
theorem dX4_tryRiders_107 : decode cX4_tryRiders 107 = .ok (.ifCond .eq 25, 3) := by decide +kernel
theorem dX4_tryRiders_110 : decode cX4_tryRiders 110 = .ok (.aload_n 0, 1) := by decide +kernel
theorem dX4_tryRiders_111 : decode cX4_tryRiders 111 = .ok (.getfield 28, 3) := by decide +kernel
theorem dX4_tryRiders_114 : decode cX4_tryRiders 114 = .ok (.iload_n 1, 1) := by decide +kernel
theorem dX4_tryRiders_115 : decode cX4_tryRiders 115 = .ok (.iload 4, 2) := by decide +kernel
theorem dX4_tryRiders_117 : decode cX4_tryRiders 117 = .ok (.iload_n 2, 1) := by decide +kernel
theorem dX4_tryRiders_118 : decode cX4_tryRiders 118 = .ok (.iload 7, 2) := by decide +kernel
theorem dX4_tryRiders_120 : decode cX4_tryRiders 120 = .ok (.invokevirtual 255, 3) := by decide +kernel
theorem dX4_tryRiders_123 : decode cX4_tryRiders 123 = .ok (.aload_n 0, 1) := by decide +kernel
theorem dX4_tryRiders_124 : decode cX4_tryRiders 124 = .ok (.iload_n 1, 1) := by decide +kernel
theorem dX4_tryRiders_125 : decode cX4_tryRiders 125 = .ok (.aload 5, 2) := by decide +kernel
theorem dX4_tryRiders_127 : decode cX4_tryRiders 127 = .ok (.iload 7, 2) := by decide +kernel
theorem dX4_tryRiders_129 : decode cX4_tryRiders 129 = .ok (.invokevirtual 259, 3) := by decide +kernel
theorem dX4_tryRiders_132 : decode cX4_tryRiders 132 = .ok (.iinc 4 1, 3) := by decide +kernel
theorem dX4_tryRiders_135 : decode cX4_tryRiders 135 = .ok (.goto (-122), 3) := by decide +kernel
theorem dX4_tryRiders_138 : decode cX4_tryRiders 138 = .ok (.return_, 1) := by decide +kernel
theorem dX4_isTooLate_0 : decode cX4_isTooLate 0 = .ok (.aload_n 0, 1) := by decide +kernel
theorem dX4_isTooLate_1 : decode cX4_isTooLate 1 = .ok (.getfield 32, 3) := by decide +kernel
theorem dX4_isTooLate_4 : decode cX4_isTooLate 4 = .ok (.getfield 239, 3) := by decide +kernel
theorem dX4_isTooLate_7 : decode cX4_isTooLate 7 = .ok (.ifCond .le 18, 3) := by decide +kernel
theorem dX4_isTooLate_10 : decode cX4_isTooLate 10 = .ok (.iload_n 1, 1) := by decide +kernel
theorem dX4_isTooLate_11 : decode cX4_isTooLate 11 = .ok (.aload_n 0, 1) := by decide +kernel
theorem dX4_isTooLate_12 : decode cX4_isTooLate 12 = .ok (.getfield 32, 3) := by decide +kernel
theorem dX4_isTooLate_15 : decode cX4_isTooLate 15 = .ok (.invokevirtual 154, 3) := by decide +kernel
theorem dX4_isTooLate_18 : decode cX4_isTooLate 18 = .ok (.if_icmp .lt 7, 3) := by decide +kernel
theorem dX4_isTooLate_21 : decode cX4_isTooLate 21 = .ok (.iconst 1, 1) := by decide +kernel
theorem dX4_isTooLate_22 : decode cX4_isTooLate 22 = .ok (.goto 4, 3) := by decide +kernel
theorem dX4_isTooLate_25 : decode cX4_isTooLate 25 = .ok (.iconst 0, 1) := by decide +kernel
theorem dX4_isTooLate_26 : decode cX4_isTooLate 26 = .ok (.ireturn, 1) := by decide +kernel
theorem dX4_waitsUntil_0 : decode cX4_waitsUntil 0 = .ok (.iload_n 1, 1) := by decide +kernel
theorem dX4_waitsUntil_1 : decode cX4_waitsUntil 1 = .ok (.ifCond .lt 8, 3) := by decide +kernel
theorem dX4_waitsUntil_4 : decode cX4_waitsUntil 4 = .ok (.iload_n 1, 1) := by decide +kernel
theorem dX4_waitsUntil_5 : decode cX4_waitsUntil 5 = .ok (.iconst 3, 1) := by decide +kernel
theorem dX4_waitsUntil_6 : decode cX4_waitsUntil 6 = .ok (.if_icmp .lt 5, 3) := by decide +kernel
theorem dX4_waitsUntil_9 : decode cX4_waitsUntil 9 = .ok (.iconst 1, 1) := by decide +kernel
theorem dX4_waitsUntil_10 : decode cX4_waitsUntil 10 = .ok (.ireturn, 1) := by decide +kernel
theorem dX4_waitsUntil_11 : decode cX4_waitsUntil 11 = .ok (.aload_n 0, 1) := by decide +kernel
theorem dX4_waitsUntil_12 : decode cX4_waitsUntil 12 = .ok (.aload_n 0, 1) := by decide +kernel
theorem dX4_waitsUntil_13 : decode cX4_waitsUntil 13 = .ok (.getfield 28, 3) := by decide +kernel
theorem dX4_waitsUntil_16 : decode cX4_waitsUntil 16 = .ok (.getfield 263, 3) := by decide +kernel
theorem dX4_waitsUntil_19 : decode cX4_waitsUntil 19 = .ok (.iload_n 1, 1) := by decide +kernel
theorem dX4_waitsUntil_20 : decode cX4_waitsUntil 20 = .ok (.iaload, 1) := by decide +kernel
theorem dX4_waitsUntil_21 : decode cX4_waitsUntil 21 = .ok (.invokevirtual 55, 3) := by decide +kernel
theorem dX4_waitsUntil_24 : decode cX4_waitsUntil 24 = .ok (.astore_n 3, 1) := by decide +kernel
theorem dX4_waitsUntil_25 : decode cX4_waitsUntil 25 = .ok (.aload_n 3, 1) := by decide +kernel
theorem dX4_waitsUntil_26 : decode cX4_waitsUntil 26 = .ok (.ifnull 15, 3) := by decide +kernel
theorem dX4_waitsUntil_29 : decode cX4_waitsUntil 29 = .ok (.iload_n 2, 1) := by decide +kernel
theorem dX4_waitsUntil_30 : decode cX4_waitsUntil 30 = .ok (.aload_n 3, 1) := by decide +kernel
theorem dX4_waitsUntil_31 : decode cX4_waitsUntil 31 = .ok (.getfield 211, 3) := by decide +kernel
theorem dX4_waitsUntil_34 : decode cX4_waitsUntil 34 = .ok (.if_icmp .gt 7, 3) := by decide +kernel
theorem dX4_waitsUntil_37 : decode cX4_waitsUntil 37 = .ok (.iconst 1, 1) := by decide +kernel
theorem dX4_waitsUntil_38 : decode cX4_waitsUntil 38 = .ok (.goto 4, 3) := by decide +kernel
theorem dX4_waitsUntil_41 : decode cX4_waitsUntil 41 = .ok (.iconst 0, 1) := by decide +kernel
theorem dX4_waitsUntil_42 : decode cX4_waitsUntil 42 = .ok (.ireturn, 1) := by decide +kernel
theorem dX4_tryEnds_0 : decode cX4_tryEnds 0 = .ok (.aload_n 0, 1) := by decide +kernel
theorem dX4_tryEnds_1 : decode cX4_tryEnds 1 = .ok (.iload_n 1, 1) := by decide +kernel
theorem dX4_tryEnds_2 : decode cX4_tryEnds 2 = .ok (.aload_n 2, 1) := by decide +kernel
theorem dX4_tryEnds_3 : decode cX4_tryEnds 3 = .ok (.iload_n 3, 1) := by decide +kernel
theorem dX4_tryEnds_4 : decode cX4_tryEnds 4 = .ok (.aload_n 0, 1) := by decide +kernel
theorem dX4_tryEnds_5 : decode cX4_tryEnds 5 = .ok (.getfield 28, 3) := by decide +kernel
theorem dX4_tryEnds_8 : decode cX4_tryEnds 8 = .ok (.getfield 236, 3) := by decide +kernel
theorem dX4_tryEnds_11 : decode cX4_tryEnds 11 = .ok (.invokevirtual 265, 3) := by decide +kernel
theorem dX4_tryEnds_14 : decode cX4_tryEnds 14 = .ok (.iload_n 1, 1) := by decide +kernel
theorem dX4_tryEnds_15 : decode cX4_tryEnds 15 = .ok (.iconst 1, 1) := by decide +kernel
theorem dX4_tryEnds_16 : decode cX4_tryEnds 16 = .ok (.iadd, 1) := by decide +kernel
theorem dX4_tryEnds_17 : decode cX4_tryEnds 17 = .ok (.iconst 3, 1) := by decide +kernel
theorem dX4_tryEnds_18 : decode cX4_tryEnds 18 = .ok (.if_icmp .lt 4, 3) := by decide +kernel
theorem dX4_tryEnds_21 : decode cX4_tryEnds 21 = .ok (.return_, 1) := by decide +kernel
theorem dX4_tryEnds_22 : decode cX4_tryEnds 22 = .ok (.iconst 0, 1) := by decide +kernel
theorem dX4_tryEnds_23 : decode cX4_tryEnds 23 = .ok (.istore 4, 2) := by decide +kernel
theorem dX4_tryEnds_25 : decode cX4_tryEnds 25 = .ok (.iload 4, 2) := by decide +kernel
theorem dX4_tryEnds_27 : decode cX4_tryEnds 27 = .ok (.aload_n 0, 1) := by decide +kernel
theorem dX4_tryEnds_28 : decode cX4_tryEnds 28 = .ok (.getfield 35, 3) := by decide +kernel
theorem dX4_tryEnds_31 : decode cX4_tryEnds 31 = .ok (.if_icmp .ge 30, 3) := by decide +kernel
theorem dX4_tryEnds_34 : decode cX4_tryEnds 34 = .ok (.iload 4, 2) := by decide +kernel
theorem dX4_tryEnds_36 : decode cX4_tryEnds 36 = .ok (.aload_n 0, 1) := by decide +kernel
theorem dX4_tryEnds_37 : decode cX4_tryEnds 37 = .ok (.getfield 28, 3) := by decide +kernel
theorem dX4_tryEnds_40 : decode cX4_tryEnds 40 = .ok (.getfield 236, 3) := by decide +kernel
theorem dX4_tryEnds_43 : decode cX4_tryEnds 43 = .ok (.if_icmp .eq 12, 3) := by decide +kernel
theorem dX4_tryEnds_46 : decode cX4_tryEnds 46 = .ok (.aload_n 0, 1) := by decide +kernel
theorem dX4_tryEnds_47 : decode cX4_tryEnds 47 = .ok (.iload_n 1, 1) := by decide +kernel
theorem dX4_tryEnds_48 : decode cX4_tryEnds 48 = .ok (.aload_n 2, 1) := by decide +kernel
theorem dX4_tryEnds_49 : decode cX4_tryEnds 49 = .ok (.iload_n 3, 1) := by decide +kernel
theorem dX4_tryEnds_50 : decode cX4_tryEnds 50 = .ok (.iload 4, 2) := by decide +kernel
theorem dX4_tryEnds_52 : decode cX4_tryEnds 52 = .ok (.invokevirtual 265, 3) := by decide +kernel
theorem dX4_tryEnds_55 : decode cX4_tryEnds 55 = .ok (.iinc 4 1, 3) := by decide +kernel
theorem dX4_tryEnds_58 : decode cX4_tryEnds 58 = .ok (.goto (-33), 3) := by decide +kernel
theorem dX4_tryEnds_61 : decode cX4_tryEnds 61 = .ok (.return_, 1) := by decide +kernel
theorem dX4_tryEnd_0 : decode cX4_tryEnd 0 = .ok (.aload_n 0, 1) := by decide +kernel
theorem dX4_tryEnd_1 : decode cX4_tryEnd 1 = .ok (.aload_n 2, 1) := by decide +kernel
theorem dX4_tryEnd_2 : decode cX4_tryEnd 2 = .ok (.aload_n 0, 1) := by decide +kernel
theorem dX4_tryEnd_3 : decode cX4_tryEnd 3 = .ok (.getfield 28, 3) := by decide +kernel
theorem dX4_tryEnd_6 : decode cX4_tryEnd 6 = .ok (.iload_n 1, 1) := by decide +kernel
theorem dX4_tryEnd_7 : decode cX4_tryEnd 7 = .ok (.invokevirtual 269, 3) := by decide +kernel
theorem dX4_tryEnd_10 : decode cX4_tryEnd 10 = .ok (.iload 4, 2) := by decide +kernel
theorem dX4_tryEnd_12 : decode cX4_tryEnd 12 = .ok (.invokevirtual 80, 3) := by decide +kernel
theorem dX4_tryEnd_15 : decode cX4_tryEnd 15 = .ok (.istore 5, 2) := by decide +kernel
theorem dX4_tryEnd_17 : decode cX4_tryEnd 17 = .ok (.iload 5, 2) := by decide +kernel
theorem dX4_tryEnd_19 : decode cX4_tryEnd 19 = .ok (.iconst (-1), 1) := by decide +kernel
theorem dX4_tryEnd_20 : decode cX4_tryEnd 20 = .ok (.if_icmp .eq 29, 3) := by decide +kernel
theorem dX4_tryEnd_23 : decode cX4_tryEnd 23 = .ok (.iload_n 3, 1) := by decide +kernel
theorem dX4_tryEnd_24 : decode cX4_tryEnd 24 = .ok (.iload 5, 2) := by decide +kernel
theorem dX4_tryEnd_26 : decode cX4_tryEnd 26 = .ok (.iadd, 1) := by decide +kernel
theorem dX4_tryEnd_27 : decode cX4_tryEnd 27 = .ok (.aload_n 2, 1) := by decide +kernel
theorem dX4_tryEnd_28 : decode cX4_tryEnd 28 = .ok (.getfield 211, 3) := by decide +kernel
theorem dX4_tryEnd_31 : decode cX4_tryEnd 31 = .ok (.if_icmp .gt 18, 3) := by decide +kernel
theorem dX4_tryEnd_34 : decode cX4_tryEnd 34 = .ok (.aload_n 0, 1) := by decide +kernel
theorem dX4_tryEnd_35 : decode cX4_tryEnd 35 = .ok (.getfield 28, 3) := by decide +kernel
theorem dX4_tryEnd_38 : decode cX4_tryEnd 38 = .ok (.iload 4, 2) := by decide +kernel
theorem dX4_tryEnd_40 : decode cX4_tryEnd 40 = .ok (.iload_n 1, 1) := by decide +kernel
theorem dX4_tryEnd_41 : decode cX4_tryEnd 41 = .ok (.iconst 1, 1) := by decide +kernel
theorem dX4_tryEnd_42 : decode cX4_tryEnd 42 = .ok (.iadd, 1) := by decide +kernel
theorem dX4_tryEnd_43 : decode cX4_tryEnd 43 = .ok (.invokevirtual 272, 3) := by decide +kernel
theorem dX4_tryEnd_46 : decode cX4_tryEnd 46 = .ok (.ifCond .eq 4, 3) := by decide +kernel
theorem dX4_tryEnd_49 : decode cX4_tryEnd 49 = .ok (.return_, 1) := by decide +kernel
theorem dX4_tryEnd_50 : decode cX4_tryEnd 50 = .ok (.aload_n 0, 1) := by decide +kernel
theorem dX4_tryEnd_51 : decode cX4_tryEnd 51 = .ok (.getfield 28, 3) := by decide +kernel
theorem dX4_tryEnd_54 : decode cX4_tryEnd 54 = .ok (.iload_n 1, 1) := by decide +kernel
theorem dX4_tryEnd_55 : decode cX4_tryEnd 55 = .ok (.iload 4, 2) := by decide +kernel
theorem dX4_tryEnd_57 : decode cX4_tryEnd 57 = .ok (.iload_n 3, 1) := by decide +kernel
theorem dX4_tryEnd_58 : decode cX4_tryEnd 58 = .ok (.iload 5, 2) := by decide +kernel
theorem dX4_tryEnd_60 : decode cX4_tryEnd 60 = .ok (.iadd, 1) := by decide +kernel
theorem dX4_tryEnd_61 : decode cX4_tryEnd 61 = .ok (.invokevirtual 275, 3) := by decide +kernel
theorem dX4_tryEnd_64 : decode cX4_tryEnd 64 = .ok (.iload 4, 2) := by decide +kernel
theorem dX4_tryEnd_66 : decode cX4_tryEnd 66 = .ok (.aload_n 0, 1) := by decide +kernel
theorem dX4_tryEnd_67 : decode cX4_tryEnd 67 = .ok (.getfield 28, 3) := by decide +kernel
theorem dX4_tryEnd_70 : decode cX4_tryEnd 70 = .ok (.getfield 236, 3) := by decide +kernel
theorem dX4_tryEnd_73 : decode cX4_tryEnd 73 = .ok (.if_icmp .ne 10, 3) := by decide +kernel
theorem dX4_tryEnd_76 : decode cX4_tryEnd 76 = .ok (.aload_n 0, 1) := by decide +kernel
theorem dX4_tryEnd_77 : decode cX4_tryEnd 77 = .ok (.invokevirtual 278, 3) := by decide +kernel
theorem dX4_tryEnd_80 : decode cX4_tryEnd 80 = .ok (.goto 16, 3) := by decide +kernel
theorem dX4_tryEnd_83 : decode cX4_tryEnd 83 = .ok (.aload_n 0, 1) := by decide +kernel
theorem dX4_tryEnd_84 : decode cX4_tryEnd 84 = .ok (.iload_n 1, 1) := by decide +kernel
theorem dX4_tryEnd_85 : decode cX4_tryEnd 85 = .ok (.iconst 1, 1) := by decide +kernel
theorem dX4_tryEnd_86 : decode cX4_tryEnd 86 = .ok (.iadd, 1) := by decide +kernel
theorem dX4_tryEnd_87 : decode cX4_tryEnd 87 = .ok (.iload 4, 2) := by decide +kernel
theorem dX4_tryEnd_89 : decode cX4_tryEnd 89 = .ok (.iload_n 3, 1) := by decide +kernel
theorem dX4_tryEnd_90 : decode cX4_tryEnd 90 = .ok (.iload 5, 2) := by decide +kernel
theorem dX4_tryEnd_92 : decode cX4_tryEnd 92 = .ok (.iadd, 1) := by decide +kernel
theorem dX4_tryEnd_93 : decode cX4_tryEnd 93 = .ok (.invokevirtual 242, 3) := by decide +kernel
theorem dX4_tryEnd_96 : decode cX4_tryEnd 96 = .ok (.return_, 1) := by decide +kernel
theorem dX4_keepIfBetter_0 : decode cX4_keepIfBetter 0 = .ok (.aload_n 0, 1) := by decide +kernel
theorem dX4_keepIfBetter_1 : decode cX4_keepIfBetter 1 = .ok (.getfield 28, 3) := by decide +kernel
theorem dX4_keepIfBetter_4 : decode cX4_keepIfBetter 4 = .ok (.invokevirtual 154, 3) := by decide +kernel
theorem dX4_keepIfBetter_7 : decode cX4_keepIfBetter 7 = .ok (.istore_n 1, 1) := by decide +kernel
theorem dX4_keepIfBetter_8 : decode cX4_keepIfBetter 8 = .ok (.aload_n 0, 1) := by decide +kernel
theorem dX4_keepIfBetter_9 : decode cX4_keepIfBetter 9 = .ok (.getfield 32, 3) := by decide +kernel
theorem dX4_keepIfBetter_12 : decode cX4_keepIfBetter 12 = .ok (.invokevirtual 154, 3) := by decide +kernel
theorem dX4_keepIfBetter_15 : decode cX4_keepIfBetter 15 = .ok (.istore_n 2, 1) := by decide +kernel
theorem dX4_keepIfBetter_16 : decode cX4_keepIfBetter 16 = .ok (.iload_n 2, 1) := by decide +kernel
theorem dX4_keepIfBetter_17 : decode cX4_keepIfBetter 17 = .ok (.iconst (-1), 1) := by decide +kernel
theorem dX4_keepIfBetter_18 : decode cX4_keepIfBetter 18 = .ok (.if_icmp .eq 30, 3) := by decide +kernel
theorem dX4_keepIfBetter_21 : decode cX4_keepIfBetter 21 = .ok (.iload_n 1, 1) := by decide +kernel
theorem dX4_keepIfBetter_22 : decode cX4_keepIfBetter 22 = .ok (.iload_n 2, 1) := by decide +kernel
theorem dX4_keepIfBetter_23 : decode cX4_keepIfBetter 23 = .ok (.if_icmp .lt 25, 3) := by decide +kernel
theorem dX4_keepIfBetter_26 : decode cX4_keepIfBetter 26 = .ok (.iload_n 1, 1) := by decide +kernel
theorem dX4_keepIfBetter_27 : decode cX4_keepIfBetter 27 = .ok (.iload_n 2, 1) := by decide +kernel
theorem dX4_keepIfBetter_28 : decode cX4_keepIfBetter 28 = .ok (.if_icmp .ne 31, 3) := by decide +kernel
theorem dX4_keepIfBetter_31 : decode cX4_keepIfBetter 31 = .ok (.aload_n 0, 1) := by decide +kernel
theorem dX4_keepIfBetter_32 : decode cX4_keepIfBetter 32 = .ok (.getfield 28, 3) := by decide +kernel
theorem dX4_keepIfBetter_35 : decode cX4_keepIfBetter 35 = .ok (.getfield 239, 3) := by decide +kernel
theorem dX4_keepIfBetter_38 : decode cX4_keepIfBetter 38 = .ok (.aload_n 0, 1) := by decide +kernel
theorem dX4_keepIfBetter_39 : decode cX4_keepIfBetter 39 = .ok (.getfield 32, 3) := by decide +kernel
theorem dX4_keepIfBetter_42 : decode cX4_keepIfBetter 42 = .ok (.getfield 239, 3) := by decide +kernel
theorem dX4_keepIfBetter_45 : decode cX4_keepIfBetter 45 = .ok (.if_icmp .ge 14, 3) := by decide +kernel
theorem dX4_keepIfBetter_48 : decode cX4_keepIfBetter 48 = .ok (.aload_n 0, 1) := by decide +kernel
theorem dX4_keepIfBetter_49 : decode cX4_keepIfBetter 49 = .ok (.getfield 32, 3) := by decide +kernel
theorem dX4_keepIfBetter_52 : decode cX4_keepIfBetter 52 = .ok (.aload_n 0, 1) := by decide +kernel
theorem dX4_keepIfBetter_53 : decode cX4_keepIfBetter 53 = .ok (.getfield 28, 3) := by decide +kernel
theorem dX4_keepIfBetter_56 : decode cX4_keepIfBetter 56 = .ok (.invokevirtual 281, 3) := by decide +kernel
theorem dX4_keepIfBetter_59 : decode cX4_keepIfBetter 59 = .ok (.return_, 1) := by decide +kernel
theorem dX4_rideChosen_0 : decode cX4_rideChosen 0 = .ok (.iconst 0, 1) := by decide +kernel
theorem dX4_rideChosen_1 : decode cX4_rideChosen 1 = .ok (.istore_n 2, 1) := by decide +kernel
theorem dX4_rideChosen_2 : decode cX4_rideChosen 2 = .ok (.iload_n 2, 1) := by decide +kernel
theorem dX4_rideChosen_3 : decode cX4_rideChosen 3 = .ok (.aload_n 0, 1) := by decide +kernel
theorem dX4_rideChosen_4 : decode cX4_rideChosen 4 = .ok (.getfield 32, 3) := by decide +kernel
theorem dX4_rideChosen_7 : decode cX4_rideChosen 7 = .ok (.getfield 239, 3) := by decide +kernel
theorem dX4_rideChosen_10 : decode cX4_rideChosen 10 = .ok (.if_icmp .ge 158, 3) := by decide +kernel
theorem dX4_rideChosen_13 : decode cX4_rideChosen 13 = .ok (.iload_n 2, 1) := by decide +kernel
theorem dX4_rideChosen_14 : decode cX4_rideChosen 14 = .ok (.iconst 3, 1) := by decide +kernel
theorem dX4_rideChosen_15 : decode cX4_rideChosen 15 = .ok (.if_icmp .ge 153, 3) := by decide +kernel
theorem dX4_rideChosen_18 : decode cX4_rideChosen 18 = .ok (.aload_n 0, 1) := by decide +kernel
theorem dX4_rideChosen_19 : decode cX4_rideChosen 19 = .ok (.aload_n 0, 1) := by decide +kernel
theorem dX4_rideChosen_20 : decode cX4_rideChosen 20 = .ok (.getfield 32, 3) := by decide +kernel
theorem dX4_rideChosen_23 : decode cX4_rideChosen 23 = .ok (.getfield 263, 3) := by decide +kernel
theorem dX4_rideChosen_26 : decode cX4_rideChosen 26 = .ok (.iload_n 2, 1) := by decide +kernel
theorem dX4_rideChosen_27 : decode cX4_rideChosen 27 = .ok (.iaload, 1) := by decide +kernel
theorem dX4_rideChosen_28 : decode cX4_rideChosen 28 = .ok (.invokevirtual 55, 3) := by decide +kernel
theorem dX4_rideChosen_31 : decode cX4_rideChosen 31 = .ok (.astore_n 3, 1) := by decide +kernel
theorem dX4_rideChosen_32 : decode cX4_rideChosen 32 = .ok (.aload_n 3, 1) := by decide +kernel
theorem dX4_rideChosen_33 : decode cX4_rideChosen 33 = .ok (.ifnonnull 6, 3) := by decide +kernel
theorem dX4_rideChosen_36 : decode cX4_rideChosen 36 = .ok (.goto 126, 3) := by decide +kernel
theorem dX4_rideChosen_39 : decode cX4_rideChosen 39 = .ok (.aload_n 0, 1) := by decide +kernel
theorem dX4_rideChosen_40 : decode cX4_rideChosen 40 = .ok (.getfield 32, 3) := by decide +kernel
theorem dX4_rideChosen_43 : decode cX4_rideChosen 43 = .ok (.getfield 285, 3) := by decide +kernel
theorem dX4_rideChosen_46 : decode cX4_rideChosen 46 = .ok (.iload_n 2, 1) := by decide +kernel
theorem dX4_rideChosen_47 : decode cX4_rideChosen 47 = .ok (.iaload, 1) := by decide +kernel
theorem dX4_rideChosen_48 : decode cX4_rideChosen 48 = .ok (.istore 4, 2) := by decide +kernel
theorem dX4_rideChosen_50 : decode cX4_rideChosen 50 = .ok (.aload_n 0, 1) := by decide +kernel
theorem dX4_rideChosen_51 : decode cX4_rideChosen 51 = .ok (.getfield 32, 3) := by decide +kernel
theorem dX4_rideChosen_54 : decode cX4_rideChosen 54 = .ok (.getfield 287, 3) := by decide +kernel
theorem dX4_rideChosen_57 : decode cX4_rideChosen 57 = .ok (.iload_n 2, 1) := by decide +kernel
theorem dX4_rideChosen_58 : decode cX4_rideChosen 58 = .ok (.iaload, 1) := by decide +kernel
theorem dX4_rideChosen_59 : decode cX4_rideChosen 59 = .ok (.istore 5, 2) := by decide +kernel
theorem dX4_rideChosen_61 : decode cX4_rideChosen 61 = .ok (.aload_n 0, 1) := by decide +kernel
theorem dX4_rideChosen_62 : decode cX4_rideChosen 62 = .ok (.getfield 32, 3) := by decide +kernel
theorem dX4_rideChosen_65 : decode cX4_rideChosen 65 = .ok (.getfield 289, 3) := by decide +kernel
theorem dX4_rideChosen_68 : decode cX4_rideChosen 68 = .ok (.iload_n 2, 1) := by decide +kernel
theorem dX4_rideChosen_69 : decode cX4_rideChosen 69 = .ok (.iaload, 1) := by decide +kernel
theorem dX4_rideChosen_70 : decode cX4_rideChosen 70 = .ok (.istore 6, 2) := by decide +kernel
theorem dX4_rideChosen_72 : decode cX4_rideChosen 72 = .ok (.aload_n 1, 1) := by decide +kernel
theorem dX4_rideChosen_73 : decode cX4_rideChosen 73 = .ok (.new 183, 3) := by decide +kernel
theorem dX4_rideChosen_76 : decode cX4_rideChosen 76 = .ok (.dup, 1) := by decide +kernel
theorem dX4_rideChosen_77 : decode cX4_rideChosen 77 = .ok (.aload_n 0, 1) := by decide +kernel
theorem dX4_rideChosen_78 : decode cX4_rideChosen 78 = .ok (.getfield 32, 3) := by decide +kernel
theorem dX4_rideChosen_81 : decode cX4_rideChosen 81 = .ok (.getfield 263, 3) := by decide +kernel
theorem dX4_rideChosen_84 : decode cX4_rideChosen 84 = .ok (.iload_n 2, 1) := by decide +kernel
theorem dX4_rideChosen_85 : decode cX4_rideChosen 85 = .ok (.iaload, 1) := by decide +kernel
theorem dX4_rideChosen_86 : decode cX4_rideChosen 86 = .ok (.aload_n 0, 1) := by decide +kernel
theorem dX4_rideChosen_87 : decode cX4_rideChosen 87 = .ok (.getfield 32, 3) := by decide +kernel
theorem dX4_rideChosen_90 : decode cX4_rideChosen 90 = .ok (.getfield 292, 3) := by decide +kernel
theorem dX4_rideChosen_93 : decode cX4_rideChosen 93 = .ok (.iload_n 2, 1) := by decide +kernel
theorem dX4_rideChosen_94 : decode cX4_rideChosen 94 = .ok (.iaload, 1) := by decide +kernel
theorem dX4_rideChosen_95 : decode cX4_rideChosen 95 = .ok (.iload 6, 2) := by decide +kernel
theorem dX4_rideChosen_97 : decode cX4_rideChosen 97 = .ok (.iload 4, 2) := by decide +kernel
theorem dX4_rideChosen_99 : decode cX4_rideChosen 99 = .ok (.iload 5, 2) := by decide +kernel
theorem dX4_rideChosen_101 : decode cX4_rideChosen 101 = .ok (.aload_n 3, 1) := by decide +kernel
theorem dX4_rideChosen_102 : decode cX4_rideChosen 102 = .ok (.getfield 94, 3) := by decide +kernel
theorem dX4_rideChosen_105 : decode cX4_rideChosen 105 = .ok (.aload_n 3, 1) := by decide +kernel
theorem dX4_rideChosen_106 : decode cX4_rideChosen 106 = .ok (.getfield 101, 3) := by decide +kernel
theorem dX4_rideChosen_109 : decode cX4_rideChosen 109 = .ok (.invokespecial 295, 3) := by decide +kernel
theorem dX4_rideChosen_112 : decode cX4_rideChosen 112 = .ok (.invokevirtual 298, 3) := by decide +kernel
theorem dX4_rideChosen_115 : decode cX4_rideChosen 115 = .ok (.aload_n 3, 1) := by decide +kernel
theorem dX4_rideChosen_116 : decode cX4_rideChosen 116 = .ok (.iload 6, 2) := by decide +kernel
theorem dX4_rideChosen_118 : decode cX4_rideChosen 118 = .ok (.putfield 94, 3) := by decide +kernel
theorem dX4_rideChosen_121 : decode cX4_rideChosen 121 = .ok (.aload_n 3, 1) := by decide +kernel
theorem dX4_rideChosen_122 : decode cX4_rideChosen 122 = .ok (.aload_n 0, 1) := by decide +kernel
theorem dX4_rideChosen_123 : decode cX4_rideChosen 123 = .ok (.getfield 32, 3) := by decide +kernel
theorem dX4_rideChosen_126 : decode cX4_rideChosen 126 = .ok (.iload_n 2, 1) := by decide +kernel
theorem dX4_rideChosen_127 : decode cX4_rideChosen 127 = .ok (.invokevirtual 302, 3) := by decide +kernel
theorem dX4_rideChosen_130 : decode cX4_rideChosen 130 = .ok (.aload_n 0, 1) := by decide +kernel
theorem dX4_rideChosen_131 : decode cX4_rideChosen 131 = .ok (.getfield 45, 3) := by decide +kernel
theorem dX4_rideChosen_134 : decode cX4_rideChosen 134 = .ok (.iadd, 1) := by decide +kernel
theorem dX4_rideChosen_135 : decode cX4_rideChosen 135 = .ok (.putfield 101, 3) := by decide +kernel
theorem dX4_rideChosen_138 : decode cX4_rideChosen 138 = .ok (.aload_n 3, 1) := by decide +kernel
theorem dX4_rideChosen_139 : decode cX4_rideChosen 139 = .ok (.dup, 1) := by decide +kernel
theorem dX4_rideChosen_140 : decode cX4_rideChosen 140 = .ok (.getfield 104, 3) := by decide +kernel
theorem dX4_rideChosen_143 : decode cX4_rideChosen 143 = .ok (.iconst 1, 1) := by decide +kernel
theorem dX4_rideChosen_144 : decode cX4_rideChosen 144 = .ok (.iadd, 1) := by decide +kernel
theorem dX4_rideChosen_145 : decode cX4_rideChosen 145 = .ok (.putfield 104, 3) := by decide +kernel
theorem dX4_rideChosen_148 : decode cX4_rideChosen 148 = .ok (.aload_n 3, 1) := by decide +kernel
theorem dX4_rideChosen_149 : decode cX4_rideChosen 149 = .ok (.dup, 1) := by decide +kernel
theorem dX4_rideChosen_150 : decode cX4_rideChosen 150 = .ok (.getfield 107, 3) := by decide +kernel
theorem dX4_rideChosen_153 : decode cX4_rideChosen 153 = .ok (.iload 5, 2) := by decide +kernel
theorem dX4_rideChosen_155 : decode cX4_rideChosen 155 = .ok (.iload 4, 2) := by decide +kernel
theorem dX4_rideChosen_157 : decode cX4_rideChosen 157 = .ok (.isub, 1) := by decide +kernel
theorem dX4_rideChosen_158 : decode cX4_rideChosen 158 = .ok (.iadd, 1) := by decide +kernel
theorem dX4_rideChosen_159 : decode cX4_rideChosen 159 = .ok (.putfield 107, 3) := by decide +kernel
theorem dX4_rideChosen_162 : decode cX4_rideChosen 162 = .ok (.iinc 2 1, 3) := by decide +kernel
theorem dX4_rideChosen_165 : decode cX4_rideChosen 165 = .ok (.goto (-163), 3) := by decide +kernel
theorem dX4_rideChosen_168 : decode cX4_rideChosen 168 = .ok (.return_, 1) := by decide +kernel
theorem dX4_mayFail_0 : decode cX4_mayFail 0 = .ok (.aload_n 0, 1) := by decide +kernel
theorem dX4_mayFail_1 : decode cX4_mayFail 1 = .ok (.iload_n 1, 1) := by decide +kernel
theorem dX4_mayFail_2 : decode cX4_mayFail 2 = .ok (.invokevirtual 178, 3) := by decide +kernel
theorem dX4_mayFail_5 : decode cX4_mayFail 5 = .ok (.astore_n 3, 1) := by decide +kernel
theorem dX4_mayFail_6 : decode cX4_mayFail 6 = .ok (.aload_n 3, 1) := by decide +kernel
theorem dX4_mayFail_7 : decode cX4_mayFail 7 = .ok (.ifnull 19, 3) := by decide +kernel
theorem dX4_mayFail_10 : decode cX4_mayFail 10 = .ok (.iload_n 2, 1) := by decide +kernel
theorem dX4_mayFail_11 : decode cX4_mayFail 11 = .ok (.aload_n 3, 1) := by decide +kernel
theorem dX4_mayFail_12 : decode cX4_mayFail 12 = .ok (.getfield 189, 3) := by decide +kernel
theorem dX4_mayFail_15 : decode cX4_mayFail 15 = .ok (.if_icmp .lt 11, 3) := by decide +kernel
theorem dX4_mayFail_18 : decode cX4_mayFail 18 = .ok (.iload_n 2, 1) := by decide +kernel
theorem dX4_mayFail_19 : decode cX4_mayFail 19 = .ok (.aload_n 3, 1) := by decide +kernel
theorem dX4_mayFail_20 : decode cX4_mayFail 20 = .ok (.getfield 192, 3) := by decide +kernel
theorem dX4_mayFail_23 : decode cX4_mayFail 23 = .ok (.if_icmp .le 5, 3) := by decide +kernel
theorem dX4_mayFail_26 : decode cX4_mayFail 26 = .ok (.iconst 0, 1) := by decide +kernel
theorem dX4_mayFail_27 : decode cX4_mayFail 27 = .ok (.ireturn, 1) := by decide +kernel
theorem dX4_mayFail_28 : decode cX4_mayFail 28 = .ok (.iload_n 1, 1) := by decide +kernel
theorem dX4_mayFail_29 : decode cX4_mayFail 29 = .ok (.istore 4, 2) := by decide +kernel
theorem dX4_mayFail_31 : decode cX4_mayFail 31 = .ok (.iload 4, 2) := by decide +kernel
theorem dX4_mayFail_33 : decode cX4_mayFail 33 = .ok (.aload_n 0, 1) := by decide +kernel
theorem dX4_mayFail_34 : decode cX4_mayFail 34 = .ok (.getfield 175, 3) := by decide +kernel
theorem dX4_mayFail_37 : decode cX4_mayFail 37 = .ok (.if_icmp .ge 32, 3) := by decide +kernel
theorem dX4_mayFail_40 : decode cX4_mayFail 40 = .ok (.aload_n 0, 1) := by decide +kernel
theorem dX4_mayFail_41 : decode cX4_mayFail 41 = .ok (.iload 4, 2) := by decide +kernel
theorem dX4_mayFail_43 : decode cX4_mayFail 43 = .ok (.invokevirtual 178, 3) := by decide +kernel
theorem dX4_mayFail_46 : decode cX4_mayFail 46 = .ok (.astore 5, 2) := by decide +kernel
theorem dX4_mayFail_48 : decode cX4_mayFail 48 = .ok (.aload 5, 2) := by decide +kernel
theorem dX4_mayFail_50 : decode cX4_mayFail 50 = .ok (.ifnull 13, 3) := by decide +kernel
theorem dX4_mayFail_53 : decode cX4_mayFail 53 = .ok (.aload 5, 2) := by decide +kernel
theorem dX4_mayFail_55 : decode cX4_mayFail 55 = .ok (.getfield 195, 3) := by decide +kernel
theorem dX4_mayFail_58 : decode cX4_mayFail 58 = .ok (.ifCond .eq 5, 3) := by decide +kernel
theorem dX4_mayFail_61 : decode cX4_mayFail 61 = .ok (.iconst 0, 1) := by decide +kernel
theorem dX4_mayFail_62 : decode cX4_mayFail 62 = .ok (.ireturn, 1) := by decide +kernel
theorem dX4_mayFail_63 : decode cX4_mayFail 63 = .ok (.iinc 4 1, 3) := by decide +kernel
theorem dX4_mayFail_66 : decode cX4_mayFail 66 = .ok (.goto (-35), 3) := by decide +kernel
theorem dX4_mayFail_69 : decode cX4_mayFail 69 = .ok (.iconst 1, 1) := by decide +kernel
theorem dX4_mayFail_70 : decode cX4_mayFail 70 = .ok (.ireturn, 1) := by decide +kernel
theorem dX4_dropLegsBehind_0 : decode cX4_dropLegsBehind 0 = .ok (.aload_n 1, 1) := by decide +kernel
theorem dX4_dropLegsBehind_1 : decode cX4_dropLegsBehind 1 = .ok (.getfield 175, 3) := by decide +kernel
theorem dX4_dropLegsBehind_4 : decode cX4_dropLegsBehind 4 = .ok (.iconst 1, 1) := by decide +kernel
theorem dX4_dropLegsBehind_5 : decode cX4_dropLegsBehind 5 = .ok (.isub, 1) := by decide +kernel
theorem dX4_dropLegsBehind_6 : decode cX4_dropLegsBehind 6 = .ok (.istore_n 3, 1) := by decide +kernel
theorem dX4_dropLegsBehind_7 : decode cX4_dropLegsBehind 7 = .ok (.iload_n 3, 1) := by decide +kernel
theorem dX4_dropLegsBehind_8 : decode cX4_dropLegsBehind 8 = .ok (.iload_n 2, 1) := by decide +kernel
theorem dX4_dropLegsBehind_9 : decode cX4_dropLegsBehind 9 = .ok (.if_icmp .le 93, 3) := by decide +kernel
theorem dX4_dropLegsBehind_12 : decode cX4_dropLegsBehind 12 = .ok (.aload_n 1, 1) := by decide +kernel
theorem dX4_dropLegsBehind_13 : decode cX4_dropLegsBehind 13 = .ok (.iload_n 3, 1) := by decide +kernel
theorem dX4_dropLegsBehind_14 : decode cX4_dropLegsBehind 14 = .ok (.invokevirtual 178, 3) := by decide +kernel
theorem dX4_dropLegsBehind_17 : decode cX4_dropLegsBehind 17 = .ok (.astore 4, 2) := by decide +kernel
theorem dX4_dropLegsBehind_19 : decode cX4_dropLegsBehind 19 = .ok (.aload 4, 2) := by decide +kernel
theorem dX4_dropLegsBehind_21 : decode cX4_dropLegsBehind 21 = .ok (.ifnonnull 7, 3) := by decide +kernel
theorem dX4_dropLegsBehind_24 : decode cX4_dropLegsBehind 24 = .ok (.aconst_null, 1) := by decide +kernel
theorem dX4_dropLegsBehind_25 : decode cX4_dropLegsBehind 25 = .ok (.goto 12, 3) := by decide +kernel
theorem dX4_dropLegsBehind_28 : decode cX4_dropLegsBehind 28 = .ok (.aload_n 0, 1) := by decide +kernel
theorem dX4_dropLegsBehind_29 : decode cX4_dropLegsBehind 29 = .ok (.aload 4, 2) := by decide +kernel
theorem dX4_dropLegsBehind_31 : decode cX4_dropLegsBehind 31 = .ok (.getfield 182, 3) := by decide +kernel
theorem dX4_dropLegsBehind_34 : decode cX4_dropLegsBehind 34 = .ok (.invokevirtual 55, 3) := by decide +kernel
theorem dX4_dropLegsBehind_37 : decode cX4_dropLegsBehind 37 = .ok (.astore 5, 2) := by decide +kernel
theorem dX4_dropLegsBehind_39 : decode cX4_dropLegsBehind 39 = .ok (.aload 5, 2) := by decide +kernel
theorem dX4_dropLegsBehind_41 : decode cX4_dropLegsBehind 41 = .ok (.ifnull 55, 3) := by decide +kernel
theorem dX4_dropLegsBehind_44 : decode cX4_dropLegsBehind 44 = .ok (.aload 5, 2) := by decide +kernel
theorem dX4_dropLegsBehind_46 : decode cX4_dropLegsBehind 46 = .ok (.aload 4, 2) := by decide +kernel
theorem dX4_dropLegsBehind_48 : decode cX4_dropLegsBehind 48 = .ok (.getfield 305, 3) := by decide +kernel
theorem dX4_dropLegsBehind_51 : decode cX4_dropLegsBehind 51 = .ok (.putfield 94, 3) := by decide +kernel
theorem dX4_dropLegsBehind_54 : decode cX4_dropLegsBehind 54 = .ok (.aload 5, 2) := by decide +kernel
theorem dX4_dropLegsBehind_56 : decode cX4_dropLegsBehind 56 = .ok (.aload 4, 2) := by decide +kernel
theorem dX4_dropLegsBehind_58 : decode cX4_dropLegsBehind 58 = .ok (.getfield 308, 3) := by decide +kernel
theorem dX4_dropLegsBehind_61 : decode cX4_dropLegsBehind 61 = .ok (.putfield 101, 3) := by decide +kernel
theorem dX4_dropLegsBehind_64 : decode cX4_dropLegsBehind 64 = .ok (.aload 5, 2) := by decide +kernel
theorem dX4_dropLegsBehind_66 : decode cX4_dropLegsBehind 66 = .ok (.dup, 1) := by decide +kernel
theorem dX4_dropLegsBehind_67 : decode cX4_dropLegsBehind 67 = .ok (.getfield 104, 3) := by decide +kernel
theorem dX4_dropLegsBehind_70 : decode cX4_dropLegsBehind 70 = .ok (.iconst 1, 1) := by decide +kernel
theorem dX4_dropLegsBehind_71 : decode cX4_dropLegsBehind 71 = .ok (.isub, 1) := by decide +kernel
theorem dX4_dropLegsBehind_72 : decode cX4_dropLegsBehind 72 = .ok (.putfield 104, 3) := by decide +kernel
theorem dX4_dropLegsBehind_75 : decode cX4_dropLegsBehind 75 = .ok (.aload 5, 2) := by decide +kernel
theorem dX4_dropLegsBehind_77 : decode cX4_dropLegsBehind 77 = .ok (.dup, 1) := by decide +kernel
theorem dX4_dropLegsBehind_78 : decode cX4_dropLegsBehind 78 = .ok (.getfield 107, 3) := by decide +kernel
theorem dX4_dropLegsBehind_81 : decode cX4_dropLegsBehind 81 = .ok (.aload 4, 2) := by decide +kernel
theorem dX4_dropLegsBehind_83 : decode cX4_dropLegsBehind 83 = .ok (.getfield 192, 3) := by decide +kernel
theorem dX4_dropLegsBehind_86 : decode cX4_dropLegsBehind 86 = .ok (.aload 4, 2) := by decide +kernel
theorem dX4_dropLegsBehind_88 : decode cX4_dropLegsBehind 88 = .ok (.getfield 189, 3) := by decide +kernel
theorem dX4_dropLegsBehind_91 : decode cX4_dropLegsBehind 91 = .ok (.isub, 1) := by decide +kernel
theorem dX4_dropLegsBehind_92 : decode cX4_dropLegsBehind 92 = .ok (.isub, 1) := by decide +kernel
theorem dX4_dropLegsBehind_93 : decode cX4_dropLegsBehind 93 = .ok (.putfield 107, 3) := by decide +kernel
theorem dX4_dropLegsBehind_96 : decode cX4_dropLegsBehind 96 = .ok (.iinc 3 (-1), 3) := by decide +kernel
theorem dX4_dropLegsBehind_99 : decode cX4_dropLegsBehind 99 = .ok (.goto (-92), 3) := by decide +kernel
theorem dX4_dropLegsBehind_102 : decode cX4_dropLegsBehind 102 = .ok (.aload_n 1, 1) := by decide +kernel
theorem dX4_dropLegsBehind_103 : decode cX4_dropLegsBehind 103 = .ok (.iload_n 2, 1) := by decide +kernel
theorem dX4_dropLegsBehind_104 : decode cX4_dropLegsBehind 104 = .ok (.iconst 1, 1) := by decide +kernel
theorem dX4_dropLegsBehind_105 : decode cX4_dropLegsBehind 105 = .ok (.iadd, 1) := by decide +kernel
theorem dX4_dropLegsBehind_106 : decode cX4_dropLegsBehind 106 = .ok (.putfield 175, 3) := by decide +kernel
theorem dX4_dropLegsBehind_109 : decode cX4_dropLegsBehind 109 = .ok (.return_, 1) := by decide +kernel
theorem dX4_failLeg_0 : decode cX4_failLeg 0 = .ok (.aload_n 0, 1) := by decide +kernel
theorem dX4_failLeg_1 : decode cX4_failLeg 1 = .ok (.aload_n 1, 1) := by decide +kernel
theorem dX4_failLeg_2 : decode cX4_failLeg 2 = .ok (.getfield 182, 3) := by decide +kernel
theorem dX4_failLeg_5 : decode cX4_failLeg 5 = .ok (.invokevirtual 55, 3) := by decide +kernel
theorem dX4_failLeg_8 : decode cX4_failLeg 8 = .ok (.astore_n 3, 1) := by decide +kernel
theorem dX4_failLeg_9 : decode cX4_failLeg 9 = .ok (.aload_n 3, 1) := by decide +kernel
theorem dX4_failLeg_10 : decode cX4_failLeg 10 = .ok (.ifnull 31, 3) := by decide +kernel
theorem dX4_failLeg_13 : decode cX4_failLeg 13 = .ok (.aload_n 3, 1) := by decide +kernel
theorem dX4_failLeg_14 : decode cX4_failLeg 14 = .ok (.dup, 1) := by decide +kernel
theorem dX4_failLeg_15 : decode cX4_failLeg 15 = .ok (.getfield 107, 3) := by decide +kernel
theorem dX4_failLeg_18 : decode cX4_failLeg 18 = .ok (.aload_n 1, 1) := by decide +kernel
theorem dX4_failLeg_19 : decode cX4_failLeg 19 = .ok (.getfield 192, 3) := by decide +kernel
theorem dX4_failLeg_22 : decode cX4_failLeg 22 = .ok (.iload_n 2, 1) := by decide +kernel
theorem dX4_failLeg_23 : decode cX4_failLeg 23 = .ok (.isub, 1) := by decide +kernel
theorem dX4_failLeg_24 : decode cX4_failLeg 24 = .ok (.isub, 1) := by decide +kernel
theorem dX4_failLeg_25 : decode cX4_failLeg 25 = .ok (.putfield 107, 3) := by decide +kernel
theorem dX4_failLeg_28 : decode cX4_failLeg 28 = .ok (.aload_n 3, 1) := by decide +kernel
theorem dX4_failLeg_29 : decode cX4_failLeg 29 = .ok (.aload_n 1, 1) := by decide +kernel
theorem dX4_failLeg_30 : decode cX4_failLeg 30 = .ok (.getfield 187, 3) := by decide +kernel
theorem dX4_failLeg_33 : decode cX4_failLeg 33 = .ok (.putfield 94, 3) := by decide +kernel
theorem dX4_failLeg_36 : decode cX4_failLeg 36 = .ok (.aload_n 3, 1) := by decide +kernel
theorem dX4_failLeg_37 : decode cX4_failLeg 37 = .ok (.iconst 1, 1) := by decide +kernel
theorem dX4_failLeg_38 : decode cX4_failLeg 38 = .ok (.putfield 97, 3) := by decide +kernel
theorem dX4_failLeg_41 : decode cX4_failLeg 41 = .ok (.aload_n 1, 1) := by decide +kernel
theorem dX4_failLeg_42 : decode cX4_failLeg 42 = .ok (.iload_n 2, 1) := by decide +kernel
theorem dX4_failLeg_43 : decode cX4_failLeg 43 = .ok (.putfield 192, 3) := by decide +kernel
theorem dX4_failLeg_46 : decode cX4_failLeg 46 = .ok (.aload_n 1, 1) := by decide +kernel
theorem dX4_failLeg_47 : decode cX4_failLeg 47 = .ok (.aload_n 1, 1) := by decide +kernel
theorem dX4_failLeg_48 : decode cX4_failLeg 48 = .ok (.getfield 187, 3) := by decide +kernel
theorem dX4_failLeg_51 : decode cX4_failLeg 51 = .ok (.putfield 188, 3) := by decide +kernel
theorem dX4_failLeg_54 : decode cX4_failLeg 54 = .ok (.aload_n 1, 1) := by decide +kernel
theorem dX4_failLeg_55 : decode cX4_failLeg 55 = .ok (.iconst 1, 1) := by decide +kernel
theorem dX4_failLeg_56 : decode cX4_failLeg 56 = .ok (.putfield 195, 3) := by decide +kernel
theorem dX4_failLeg_59 : decode cX4_failLeg 59 = .ok (.return_, 1) := by decide +kernel
end
section
theorem dX5_init_0 : decode cX5_init 0 = .ok (.aload_n 0, 1) := by decide +kernel
theorem dX5_init_1 : decode cX5_init 1 = .ok (.invokespecial 1, 3) := by decide +kernel
theorem dX5_init_4 : decode cX5_init 4 = .ok (.aload_n 0, 1) := by decide +kernel
theorem dX5_init_5 : decode cX5_init 5 = .ok (.bipush 64, 2) := by decide +kernel
theorem dX5_init_7 : decode cX5_init 7 = .ok (.newarray .int, 2) := by decide +kernel
theorem dX5_init_9 : decode cX5_init 9 = .ok (.putfield 9, 3) := by decide +kernel
theorem dX5_init_12 : decode cX5_init 12 = .ok (.aload_n 0, 1) := by decide +kernel
theorem dX5_init_13 : decode cX5_init 13 = .ok (.bipush 6, 2) := by decide +kernel
theorem dX5_init_15 : decode cX5_init 15 = .ok (.newarray .int, 2) := by decide +kernel
theorem dX5_init_17 : decode cX5_init 17 = .ok (.putfield 13, 3) := by decide +kernel
theorem dX5_init_20 : decode cX5_init 20 = .ok (.aload_n 0, 1) := by decide +kernel
theorem dX5_init_21 : decode cX5_init 21 = .ok (.bipush 6, 2) := by decide +kernel
theorem dX5_init_23 : decode cX5_init 23 = .ok (.newarray .int, 2) := by decide +kernel
theorem dX5_init_25 : decode cX5_init 25 = .ok (.putfield 16, 3) := by decide +kernel
theorem dX5_init_28 : decode cX5_init 28 = .ok (.aload_n 0, 1) := by decide +kernel
theorem dX5_init_29 : decode cX5_init 29 = .ok (.bipush 6, 2) := by decide +kernel
theorem dX5_init_31 : decode cX5_init 31 = .ok (.newarray .int, 2) := by decide +kernel
theorem dX5_init_33 : decode cX5_init 33 = .ok (.putfield 19, 3) := by decide +kernel
theorem dX5_init_36 : decode cX5_init 36 = .ok (.aload_n 0, 1) := by decide +kernel
theorem dX5_init_37 : decode cX5_init 37 = .ok (.bipush 6, 2) := by decide +kernel
theorem dX5_init_39 : decode cX5_init 39 = .ok (.newarray .int, 2) := by decide +kernel
theorem dX5_init_41 : decode cX5_init 41 = .ok (.putfield 22, 3) := by decide +kernel
theorem dX5_init_44 : decode cX5_init 44 = .ok (.aload_n 0, 1) := by decide +kernel
theorem dX5_init_45 : decode cX5_init 45 = .ok (.bipush 6, 2) := by decide +kernel
theorem dX5_init_47 : decode cX5_init 47 = .ok (.newarray .int, 2) := by decide +kernel
theorem dX5_init_49 : decode cX5_init 49 = .ok (.putfield 25, 3) := by decide +kernel
theorem dX5_init_52 : decode cX5_init 52 = .ok (.aload_n 0, 1) := by decide +kernel
theorem dX5_init_53 : decode cX5_init 53 = .ok (.bipush 6, 2) := by decide +kernel
theorem dX5_init_55 : decode cX5_init 55 = .ok (.newarray .int, 2) := by decide +kernel
theorem dX5_init_57 : decode cX5_init 57 = .ok (.putfield 28, 3) := by decide +kernel
theorem dX5_init_60 : decode cX5_init 60 = .ok (.aload_n 0, 1) := by decide +kernel
theorem dX5_init_61 : decode cX5_init 61 = .ok (.bipush 6, 2) := by decide +kernel
theorem dX5_init_63 : decode cX5_init 63 = .ok (.newarray .int, 2) := by decide +kernel
theorem dX5_init_65 : decode cX5_init 65 = .ok (.putfield 31, 3) := by decide +kernel
theorem dX5_init_68 : decode cX5_init 68 = .ok (.aload_n 0, 1) := by decide +kernel
theorem dX5_init_69 : decode cX5_init 69 = .ok (.bipush 6, 2) := by decide +kernel
theorem dX5_init_71 : decode cX5_init 71 = .ok (.newarray .boolean, 2) := by decide +kernel
theorem dX5_init_73 : decode cX5_init 73 = .ok (.putfield 34, 3) := by decide +kernel
theorem dX5_init_76 : decode cX5_init 76 = .ok (.aload_n 0, 1) := by decide +kernel
theorem dX5_init_77 : decode cX5_init 77 = .ok (.bipush 6, 2) := by decide +kernel
theorem dX5_init_79 : decode cX5_init 79 = .ok (.newarray .int, 2) := by decide +kernel
theorem dX5_init_81 : decode cX5_init 81 = .ok (.putfield 38, 3) := by decide +kernel
theorem dX5_init_84 : decode cX5_init 84 = .ok (.aload_n 0, 1) := by decide +kernel
theorem dX5_init_85 : decode cX5_init 85 = .ok (.bipush 6, 2) := by decide +kernel
theorem dX5_init_87 : decode cX5_init 87 = .ok (.newarray .int, 2) := by decide +kernel
theorem dX5_init_89 : decode cX5_init 89 = .ok (.putfield 41, 3) := by decide +kernel
theorem dX5_init_92 : decode cX5_init 92 = .ok (.aload_n 0, 1) := by decide +kernel
theorem dX5_init_93 : decode cX5_init 93 = .ok (.bipush 30, 2) := by decide +kernel
theorem dX5_init_95 : decode cX5_init 95 = .ok (.putfield 44, 3) := by decide +kernel
theorem dX5_init_98 : decode cX5_init 98 = .ok (.aload_n 0, 1) := by decide +kernel
theorem dX5_init_99 : decode cX5_init 99 = .ok (.bipush 40, 2) := by decide +kernel
theorem dX5_init_101 : decode cX5_init 101 = .ok (.newarray .int, 2) := by decide +kernel
theorem dX5_init_103 : decode cX5_init 103 = .ok (.putfield 48, 3) := by decide +kernel
theorem dX5_init_106 : decode cX5_init 106 = .ok (.aload_n 0, 1) := by decide +kernel
theorem dX5_init_107 : decode cX5_init 107 = .ok (.bipush 40, 2) := by decide +kernel
theorem dX5_init_109 : decode cX5_init 109 = .ok (.newarray .int, 2) := by decide +kernel
theorem dX5_init_111 : decode cX5_init 111 = .ok (.putfield 51, 3) := by decide +kernel
theorem dX5_init_114 : decode cX5_init 114 = .ok (.aload_n 0, 1) := by decide +kernel
theorem dX5_init_115 : decode cX5_init 115 = .ok (.bipush 40, 2) := by decide +kernel
theorem dX5_init_117 : decode cX5_init 117 = .ok (.newarray .int, 2) := by decide +kernel
theorem dX5_init_119 : decode cX5_init 119 = .ok (.putfield 54, 3) := by decide +kernel
theorem dX5_init_122 : decode cX5_init 122 = .ok (.aload_n 0, 1) := by decide +kernel
theorem dX5_init_123 : decode cX5_init 123 = .ok (.bipush 40, 2) := by decide +kernel
theorem dX5_init_125 : decode cX5_init 125 = .ok (.newarray .int, 2) := by decide +kernel
theorem dX5_init_127 : decode cX5_init 127 = .ok (.putfield 57, 3) := by decide +kernel
theorem dX5_init_130 : decode cX5_init 130 = .ok (.aload_n 0, 1) := by decide +kernel
theorem dX5_init_131 : decode cX5_init 131 = .ok (.bipush 40, 2) := by decide +kernel
theorem dX5_init_133 : decode cX5_init 133 = .ok (.newarray .int, 2) := by decide +kernel
theorem dX5_init_135 : decode cX5_init 135 = .ok (.putfield 60, 3) := by decide +kernel
theorem dX5_init_138 : decode cX5_init 138 = .ok (.aload_n 0, 1) := by decide +kernel
theorem dX5_init_139 : decode cX5_init 139 = .ok (.bipush 40, 2) := by decide +kernel
theorem dX5_init_141 : decode cX5_init 141 = .ok (.newarray .int, 2) := by decide +kernel
theorem dX5_init_143 : decode cX5_init 143 = .ok (.putfield 63, 3) := by decide +kernel
theorem dX5_init_146 : decode cX5_init 146 = .ok (.aload_n 0, 1) := by decide +kernel
theorem dX5_init_147 : decode cX5_init 147 = .ok (.iconst (-1), 1) := by decide +kernel
theorem dX5_init_148 : decode cX5_init 148 = .ok (.putfield 66, 3) := by decide +kernel
theorem dX5_init_151 : decode cX5_init 151 = .ok (.aload_n 0, 1) := by decide +kernel
theorem dX5_init_152 : decode cX5_init 152 = .ok (.sipush 7680, 3) := by decide +kernel
theorem dX5_init_155 : decode cX5_init 155 = .ok (.newarray .int, 2) := by decide +kernel
theorem dX5_init_157 : decode cX5_init 157 = .ok (.putfield 69, 3) := by decide +kernel
theorem dX5_init_160 : decode cX5_init 160 = .ok (.aload_n 0, 1) := by decide +kernel
theorem dX5_init_161 : decode cX5_init 161 = .ok (.bipush 40, 2) := by decide +kernel
theorem dX5_init_163 : decode cX5_init 163 = .ok (.newarray .int, 2) := by decide +kernel
theorem dX5_init_165 : decode cX5_init 165 = .ok (.putfield 72, 3) := by decide +kernel
theorem dX5_init_168 : decode cX5_init 168 = .ok (.aload_n 0, 1) := by decide +kernel
theorem dX5_init_169 : decode cX5_init 169 = .ok (.bipush 8, 2) := by decide +kernel
theorem dX5_init_171 : decode cX5_init 171 = .ok (.newarray .int, 2) := by decide +kernel
theorem dX5_init_173 : decode cX5_init 173 = .ok (.putfield 75, 3) := by decide +kernel
theorem dX5_init_176 : decode cX5_init 176 = .ok (.aload_n 0, 1) := by decide +kernel
theorem dX5_init_177 : decode cX5_init 177 = .ok (.iconst 3, 1) := by decide +kernel
theorem dX5_init_178 : decode cX5_init 178 = .ok (.newarray .int, 2) := by decide +kernel
theorem dX5_init_180 : decode cX5_init 180 = .ok (.putfield 78, 3) := by decide +kernel
theorem dX5_init_183 : decode cX5_init 183 = .ok (.aload_n 0, 1) := by decide +kernel
theorem dX5_init_184 : decode cX5_init 184 = .ok (.iconst 3, 1) := by decide +kernel
theorem dX5_init_185 : decode cX5_init 185 = .ok (.newarray .int, 2) := by decide +kernel
theorem dX5_init_187 : decode cX5_init 187 = .ok (.putfield 81, 3) := by decide +kernel
theorem dX5_init_190 : decode cX5_init 190 = .ok (.aload_n 0, 1) := by decide +kernel
theorem dX5_init_191 : decode cX5_init 191 = .ok (.iconst 3, 1) := by decide +kernel
theorem dX5_init_192 : decode cX5_init 192 = .ok (.newarray .int, 2) := by decide +kernel
theorem dX5_init_194 : decode cX5_init 194 = .ok (.putfield 84, 3) := by decide +kernel
theorem dX5_init_197 : decode cX5_init 197 = .ok (.aload_n 0, 1) := by decide +kernel
theorem dX5_init_198 : decode cX5_init 198 = .ok (.iconst 3, 1) := by decide +kernel
theorem dX5_init_199 : decode cX5_init 199 = .ok (.newarray .int, 2) := by decide +kernel
theorem dX5_init_201 : decode cX5_init 201 = .ok (.putfield 87, 3) := by decide +kernel
theorem dX5_init_204 : decode cX5_init 204 = .ok (.aload_n 0, 1) := by decide +kernel
theorem dX5_init_205 : decode cX5_init 205 = .ok (.iconst 3, 1) := by decide +kernel
theorem dX5_init_206 : decode cX5_init 206 = .ok (.newarray .int, 2) := by decide +kernel
theorem dX5_init_208 : decode cX5_init 208 = .ok (.putfield 90, 3) := by decide +kernel
theorem dX5_init_211 : decode cX5_init 211 = .ok (.aload_n 0, 1) := by decide +kernel
theorem dX5_init_212 : decode cX5_init 212 = .ok (.iconst 3, 1) := by decide +kernel
theorem dX5_init_213 : decode cX5_init 213 = .ok (.newarray .int, 2) := by decide +kernel
theorem dX5_init_215 : decode cX5_init 215 = .ok (.putfield 93, 3) := by decide +kernel
theorem dX5_init_218 : decode cX5_init 218 = .ok (.aload_n 0, 1) := by decide +kernel
theorem dX5_init_219 : decode cX5_init 219 = .ok (.iconst 3, 1) := by decide +kernel
theorem dX5_init_220 : decode cX5_init 220 = .ok (.newarray .int, 2) := by decide +kernel
theorem dX5_init_222 : decode cX5_init 222 = .ok (.putfield 96, 3) := by decide +kernel
theorem dX5_init_225 : decode cX5_init 225 = .ok (.aload_n 0, 1) := by decide +kernel
theorem dX5_init_226 : decode cX5_init 226 = .ok (.iconst 3, 1) := by decide +kernel
theorem dX5_init_227 : decode cX5_init 227 = .ok (.newarray .int, 2) := by decide +kernel
theorem dX5_init_229 : decode cX5_init 229 = .ok (.putfield 99, 3) := by decide +kernel
theorem dX5_init_232 : decode cX5_init 232 = .ok (.return_, 1) := by decide +kernel
theorem dX5_thrown_0 : decode cX5_thrown 0 = .ok (.aload_n 0, 1) := by decide +kernel
theorem dX5_thrown_1 : decode cX5_thrown 1 = .ok (.getfield 102, 3) := by decide +kernel
theorem dX5_thrown_4 : decode cX5_thrown 4 = .ok (.ireturn, 1) := by decide +kernel
theorem dX5_in_0 : decode cX5_in 0 = .ok (.iload_n 0, 1) := by decide +kernel
theorem dX5_in_1 : decode cX5_in 1 = .ok (.iload_n 1, 1) := by decide +kernel
theorem dX5_in_2 : decode cX5_in 2 = .ok (.if_icmp .lt 12, 3) := by decide +kernel
theorem dX5_in_5 : decode cX5_in 5 = .ok (.iload_n 0, 1) := by decide +kernel
theorem dX5_in_6 : decode cX5_in 6 = .ok (.iload_n 2, 1) := by decide +kernel
theorem dX5_in_7 : decode cX5_in 7 = .ok (.if_icmp .gt 7, 3) := by decide +kernel
theorem dX5_in_10 : decode cX5_in 10 = .ok (.iconst 1, 1) := by decide +kernel
theorem dX5_in_11 : decode cX5_in 11 = .ok (.goto 4, 3) := by decide +kernel
theorem dX5_in_14 : decode cX5_in 14 = .ok (.iconst 0, 1) := by decide +kernel
theorem dX5_in_15 : decode cX5_in 15 = .ok (.ireturn, 1) := by decide +kernel
theorem dX5_isPlace_0 : decode cX5_isPlace 0 = .ok (.iload_n 1, 1) := by decide +kernel
theorem dX5_isPlace_1 : decode cX5_isPlace 1 = .ok (.iconst 0, 1) := by decide +kernel
theorem dX5_isPlace_2 : decode cX5_isPlace 2 = .ok (.aload_n 0, 1) := by decide +kernel
theorem dX5_isPlace_3 : decode cX5_isPlace 3 = .ok (.getfield 105, 3) := by decide +kernel
theorem dX5_isPlace_6 : decode cX5_isPlace 6 = .ok (.iconst 1, 1) := by decide +kernel
theorem dX5_isPlace_7 : decode cX5_isPlace 7 = .ok (.isub, 1) := by decide +kernel
theorem dX5_isPlace_8 : decode cX5_isPlace 8 = .ok (.invokestatic 108, 3) := by decide +kernel
theorem dX5_isPlace_11 : decode cX5_isPlace 11 = .ok (.ireturn, 1) := by decide +kernel
theorem dX5_isRider_0 : decode cX5_isRider 0 = .ok (.iload_n 1, 1) := by decide +kernel
theorem dX5_isRider_1 : decode cX5_isRider 1 = .ok (.iconst 0, 1) := by decide +kernel
theorem dX5_isRider_2 : decode cX5_isRider 2 = .ok (.aload_n 0, 1) := by decide +kernel
theorem dX5_isRider_3 : decode cX5_isRider 3 = .ok (.getfield 112, 3) := by decide +kernel
theorem dX5_isRider_6 : decode cX5_isRider 6 = .ok (.iconst 1, 1) := by decide +kernel
theorem dX5_isRider_7 : decode cX5_isRider 7 = .ok (.isub, 1) := by decide +kernel
theorem dX5_isRider_8 : decode cX5_isRider 8 = .ok (.invokestatic 108, 3) := by decide +kernel
theorem dX5_isRider_11 : decode cX5_isRider 11 = .ok (.ireturn, 1) := by decide +kernel
theorem dX5_isCall_0 : decode cX5_isCall 0 = .ok (.iload_n 1, 1) := by decide +kernel
theorem dX5_isCall_1 : decode cX5_isCall 1 = .ok (.iconst 0, 1) := by decide +kernel
theorem dX5_isCall_2 : decode cX5_isCall 2 = .ok (.aload_n 0, 1) := by decide +kernel
theorem dX5_isCall_3 : decode cX5_isCall 3 = .ok (.getfield 115, 3) := by decide +kernel
theorem dX5_isCall_6 : decode cX5_isCall 6 = .ok (.iconst 1, 1) := by decide +kernel
theorem dX5_isCall_7 : decode cX5_isCall 7 = .ok (.isub, 1) := by decide +kernel
theorem dX5_isCall_8 : decode cX5_isCall 8 = .ok (.invokestatic 108, 3) := by decide +kernel
theorem dX5_isCall_11 : decode cX5_isCall 11 = .ok (.ireturn, 1) := by decide +kernel
theorem dX5_place_0 : decode cX5_place 0 = .ok (.aload_n 0, 1) := by decide +kernel
theorem dX5_place_1 : decode cX5_place 1 = .ok (.iconst 0, 1) := by decide +kernel
theorem dX5_place_2 : decode cX5_place 2 = .ok (.putfield 102, 3) := by decide +kernel
theorem dX5_place_5 : decode cX5_place 5 = .ok (.aload_n 0, 1) := by decide +kernel
theorem dX5_place_6 : decode cX5_place 6 = .ok (.getfield 105, 3) := by decide +kernel
theorem dX5_place_9 : decode cX5_place 9 = .ok (.bipush 8, 2) := by decide +kernel
theorem dX5_place_11 : decode cX5_place 11 = .ok (.if_icmp .ne 5, 3) := by decide +kernel
theorem dX5_place_14 : decode cX5_place 14 = .ok (.iconst (-1), 1) := by decide +kernel
theorem dX5_place_15 : decode cX5_place 15 = .ok (.ireturn, 1) := by decide +kernel
theorem dX5_place_16 : decode cX5_place 16 = .ok (.aload_n 0, 1) := by decide +kernel
theorem dX5_place_17 : decode cX5_place 17 = .ok (.dup, 1) := by decide +kernel
theorem dX5_place_18 : decode cX5_place 18 = .ok (.getfield 105, 3) := by decide +kernel
theorem dX5_place_21 : decode cX5_place 21 = .ok (.iconst 1, 1) := by decide +kernel
theorem dX5_place_22 : decode cX5_place 22 = .ok (.iadd, 1) := by decide +kernel
theorem dX5_place_23 : decode cX5_place 23 = .ok (.putfield 105, 3) := by decide +kernel
theorem dX5_place_26 : decode cX5_place 26 = .ok (.aload_n 0, 1) := by decide +kernel
theorem dX5_place_27 : decode cX5_place 27 = .ok (.getfield 105, 3) := by decide +kernel
theorem dX5_place_30 : decode cX5_place 30 = .ok (.iconst 1, 1) := by decide +kernel
theorem dX5_place_31 : decode cX5_place 31 = .ok (.isub, 1) := by decide +kernel
theorem dX5_place_32 : decode cX5_place 32 = .ok (.ireturn, 1) := by decide +kernel
theorem dX5_road_0 : decode cX5_road 0 = .ok (.aload_n 0, 1) := by decide +kernel
theorem dX5_road_1 : decode cX5_road 1 = .ok (.iconst 0, 1) := by decide +kernel
theorem dX5_road_2 : decode cX5_road 2 = .ok (.putfield 102, 3) := by decide +kernel
theorem dX5_road_5 : decode cX5_road 5 = .ok (.aload_n 0, 1) := by decide +kernel
theorem dX5_road_6 : decode cX5_road 6 = .ok (.iload_n 1, 1) := by decide +kernel
theorem dX5_road_7 : decode cX5_road 7 = .ok (.invokevirtual 118, 3) := by decide +kernel
theorem dX5_road_10 : decode cX5_road 10 = .ok (.ifCond .eq 27, 3) := by decide +kernel
theorem dX5_road_13 : decode cX5_road 13 = .ok (.aload_n 0, 1) := by decide +kernel
theorem dX5_road_14 : decode cX5_road 14 = .ok (.iload_n 2, 1) := by decide +kernel
theorem dX5_road_15 : decode cX5_road 15 = .ok (.invokevirtual 118, 3) := by decide +kernel
theorem dX5_road_18 : decode cX5_road 18 = .ok (.ifCond .eq 19, 3) := by decide +kernel
theorem dX5_road_21 : decode cX5_road 21 = .ok (.iload_n 1, 1) := by decide +kernel
theorem dX5_road_22 : decode cX5_road 22 = .ok (.iload_n 2, 1) := by decide +kernel
theorem dX5_road_23 : decode cX5_road 23 = .ok (.if_icmp .eq 14, 3) := by decide +kernel
theorem dX5_road_26 : decode cX5_road 26 = .ok (.iload_n 3, 1) := by decide +kernel
theorem dX5_road_27 : decode cX5_road 27 = .ok (.iconst 0, 1) := by decide +kernel
theorem dX5_road_28 : decode cX5_road 28 = .ok (.sipush 600, 3) := by decide +kernel
theorem dX5_road_31 : decode cX5_road 31 = .ok (.invokestatic 108, 3) := by decide +kernel
theorem dX5_road_34 : decode cX5_road 34 = .ok (.ifCond .ne 5, 3) := by decide +kernel
theorem dX5_road_37 : decode cX5_road 37 = .ok (.iconst 0, 1) := by decide +kernel
theorem dX5_road_38 : decode cX5_road 38 = .ok (.ireturn, 1) := by decide +kernel
theorem dX5_road_39 : decode cX5_road 39 = .ok (.aload_n 0, 1) := by decide +kernel
theorem dX5_road_40 : decode cX5_road 40 = .ok (.getfield 9, 3) := by decide +kernel
theorem dX5_road_43 : decode cX5_road 43 = .ok (.bipush 8, 2) := by decide +kernel
theorem dX5_road_45 : decode cX5_road 45 = .ok (.iload_n 1, 1) := by decide +kernel
theorem dX5_road_46 : decode cX5_road 46 = .ok (.imul, 1) := by decide +kernel
theorem dX5_road_47 : decode cX5_road 47 = .ok (.iload_n 2, 1) := by decide +kernel
theorem dX5_road_48 : decode cX5_road 48 = .ok (.iadd, 1) := by decide +kernel
theorem dX5_road_49 : decode cX5_road 49 = .ok (.iload_n 3, 1) := by decide +kernel
theorem dX5_road_50 : decode cX5_road 50 = .ok (.iastore, 1) := by decide +kernel
theorem dX5_road_51 : decode cX5_road 51 = .ok (.aload_n 0, 1) := by decide +kernel
theorem dX5_road_52 : decode cX5_road 52 = .ok (.getfield 9, 3) := by decide +kernel
theorem dX5_road_55 : decode cX5_road 55 = .ok (.bipush 8, 2) := by decide +kernel
theorem dX5_road_57 : decode cX5_road 57 = .ok (.iload_n 2, 1) := by decide +kernel
theorem dX5_road_58 : decode cX5_road 58 = .ok (.imul, 1) := by decide +kernel
theorem dX5_road_59 : decode cX5_road 59 = .ok (.iload_n 1, 1) := by decide +kernel
theorem dX5_road_60 : decode cX5_road 60 = .ok (.iadd, 1) := by decide +kernel
theorem dX5_road_61 : decode cX5_road 61 = .ok (.iload_n 3, 1) := by decide +kernel
theorem dX5_road_62 : decode cX5_road 62 = .ok (.iastore, 1) := by decide +kernel
theorem dX5_road_63 : decode cX5_road 63 = .ok (.iconst 1, 1) := by decide +kernel
theorem dX5_road_64 : decode cX5_road 64 = .ok (.ireturn, 1) := by decide +kernel
theorem dX5_rider_0 : decode cX5_rider 0 = .ok (.aload_n 0, 1) := by decide +kernel
theorem dX5_rider_1 : decode cX5_rider 1 = .ok (.iconst 0, 1) := by decide +kernel
theorem dX5_rider_2 : decode cX5_rider 2 = .ok (.putfield 102, 3) := by decide +kernel
theorem dX5_rider_5 : decode cX5_rider 5 = .ok (.aload_n 0, 1) := by decide +kernel
theorem dX5_rider_6 : decode cX5_rider 6 = .ok (.iload_n 1, 1) := by decide +kernel
theorem dX5_rider_7 : decode cX5_rider 7 = .ok (.invokevirtual 118, 3) := by decide +kernel
theorem dX5_rider_10 : decode cX5_rider 10 = .ok (.ifCond .eq 70, 3) := by decide +kernel
theorem dX5_rider_13 : decode cX5_rider 13 = .ok (.iload_n 2, 1) := by decide +kernel
theorem dX5_rider_14 : decode cX5_rider 14 = .ok (.iconst 0, 1) := by decide +kernel
theorem dX5_rider_15 : decode cX5_rider 15 = .ok (.iconst 1, 1) := by decide +kernel
theorem dX5_rider_16 : decode cX5_rider 16 = .ok (.aload_n 0, 1) := by decide +kernel
theorem dX5_rider_17 : decode cX5_rider 17 = .ok (.getfield 105, 3) := by decide +kernel
theorem dX5_rider_20 : decode cX5_rider 20 = .ok (.ishl, 1) := by decide +kernel
theorem dX5_rider_21 : decode cX5_rider 21 = .ok (.iconst 1, 1) := by decide +kernel
theorem dX5_rider_22 : decode cX5_rider 22 = .ok (.isub, 1) := by decide +kernel
theorem dX5_rider_23 : decode cX5_rider 23 = .ok (.invokestatic 108, 3) := by decide +kernel
theorem dX5_rider_26 : decode cX5_rider 26 = .ok (.ifCond .eq 54, 3) := by decide +kernel
theorem dX5_rider_29 : decode cX5_rider 29 = .ok (.iload_n 2, 1) := by decide +kernel
theorem dX5_rider_30 : decode cX5_rider 30 = .ok (.iload_n 1, 1) := by decide +kernel
theorem dX5_rider_31 : decode cX5_rider 31 = .ok (.ishr, 1) := by decide +kernel
theorem dX5_rider_32 : decode cX5_rider 32 = .ok (.iconst 1, 1) := by decide +kernel
theorem dX5_rider_33 : decode cX5_rider 33 = .ok (.iand, 1) := by decide +kernel
theorem dX5_rider_34 : decode cX5_rider 34 = .ok (.ifCond .eq 46, 3) := by decide +kernel
theorem dX5_rider_37 : decode cX5_rider 37 = .ok (.iload_n 3, 1) := by decide +kernel
theorem dX5_rider_38 : decode cX5_rider 38 = .ok (.iconst 0, 1) := by decide +kernel
theorem dX5_rider_39 : decode cX5_rider 39 = .ok (.sipush 4319, 3) := by decide +kernel
theorem dX5_rider_42 : decode cX5_rider 42 = .ok (.invokestatic 108, 3) := by decide +kernel
theorem dX5_rider_45 : decode cX5_rider 45 = .ok (.ifCond .eq 35, 3) := by decide +kernel
theorem dX5_rider_48 : decode cX5_rider 48 = .ok (.iload 4, 2) := by decide +kernel
theorem dX5_rider_50 : decode cX5_rider 50 = .ok (.iload_n 3, 1) := by decide +kernel
theorem dX5_rider_51 : decode cX5_rider 51 = .ok (.sipush 4319, 3) := by decide +kernel
theorem dX5_rider_54 : decode cX5_rider 54 = .ok (.invokestatic 108, 3) := by decide +kernel
theorem dX5_rider_57 : decode cX5_rider 57 = .ok (.ifCond .eq 23, 3) := by decide +kernel
theorem dX5_rider_60 : decode cX5_rider 60 = .ok (.iload 5, 2) := by decide +kernel
theorem dX5_rider_62 : decode cX5_rider 62 = .ok (.iconst 0, 1) := by decide +kernel
theorem dX5_rider_63 : decode cX5_rider 63 = .ok (.bipush 15, 2) := by decide +kernel
theorem dX5_rider_65 : decode cX5_rider 65 = .ok (.invokestatic 108, 3) := by decide +kernel
theorem dX5_rider_68 : decode cX5_rider 68 = .ok (.ifCond .eq 12, 3) := by decide +kernel
theorem dX5_rider_71 : decode cX5_rider 71 = .ok (.aload_n 0, 1) := by decide +kernel
theorem dX5_rider_72 : decode cX5_rider 72 = .ok (.getfield 112, 3) := by decide +kernel
theorem dX5_rider_75 : decode cX5_rider 75 = .ok (.bipush 6, 2) := by decide +kernel
theorem dX5_rider_77 : decode cX5_rider 77 = .ok (.if_icmp .ne 5, 3) := by decide +kernel
theorem dX5_rider_80 : decode cX5_rider 80 = .ok (.iconst (-1), 1) := by decide +kernel
theorem dX5_rider_81 : decode cX5_rider 81 = .ok (.ireturn, 1) := by decide +kernel
theorem dX5_rider_82 : decode cX5_rider 82 = .ok (.aload_n 0, 1) := by decide +kernel
theorem dX5_rider_83 : decode cX5_rider 83 = .ok (.getfield 13, 3) := by decide +kernel
theorem dX5_rider_86 : decode cX5_rider 86 = .ok (.aload_n 0, 1) := by decide +kernel
theorem dX5_rider_87 : decode cX5_rider 87 = .ok (.getfield 112, 3) := by decide +kernel
theorem dX5_rider_90 : decode cX5_rider 90 = .ok (.iload_n 1, 1) := by decide +kernel
theorem dX5_rider_91 : decode cX5_rider 91 = .ok (.iastore, 1) := by decide +kernel
theorem dX5_rider_92 : decode cX5_rider 92 = .ok (.aload_n 0, 1) := by decide +kernel
theorem dX5_rider_93 : decode cX5_rider 93 = .ok (.getfield 16, 3) := by decide +kernel
theorem dX5_rider_96 : decode cX5_rider 96 = .ok (.aload_n 0, 1) := by decide +kernel
theorem dX5_rider_97 : decode cX5_rider 97 = .ok (.getfield 112, 3) := by decide +kernel
theorem dX5_rider_100 : decode cX5_rider 100 = .ok (.iload_n 2, 1) := by decide +kernel
theorem dX5_rider_101 : decode cX5_rider 101 = .ok (.iastore, 1) := by decide +kernel
theorem dX5_rider_102 : decode cX5_rider 102 = .ok (.aload_n 0, 1) := by decide +kernel
theorem dX5_rider_103 : decode cX5_rider 103 = .ok (.getfield 19, 3) := by decide +kernel
theorem dX5_rider_106 : decode cX5_rider 106 = .ok (.aload_n 0, 1) := by decide +kernel
theorem dX5_rider_107 : decode cX5_rider 107 = .ok (.getfield 112, 3) := by decide +kernel
theorem dX5_rider_110 : decode cX5_rider 110 = .ok (.iload_n 3, 1) := by decide +kernel
theorem dX5_rider_111 : decode cX5_rider 111 = .ok (.iastore, 1) := by decide +kernel
theorem dX5_rider_112 : decode cX5_rider 112 = .ok (.aload_n 0, 1) := by decide +kernel
theorem dX5_rider_113 : decode cX5_rider 113 = .ok (.getfield 22, 3) := by decide +kernel
theorem dX5_rider_116 : decode cX5_rider 116 = .ok (.aload_n 0, 1) := by decide +kernel
theorem dX5_rider_117 : decode cX5_rider 117 = .ok (.getfield 112, 3) := by decide +kernel
theorem dX5_rider_120 : decode cX5_rider 120 = .ok (.iload 4, 2) := by decide +kernel
theorem dX5_rider_122 : decode cX5_rider 122 = .ok (.iastore, 1) := by decide +kernel
theorem dX5_rider_123 : decode cX5_rider 123 = .ok (.aload_n 0, 1) := by decide +kernel
theorem dX5_rider_124 : decode cX5_rider 124 = .ok (.getfield 25, 3) := by decide +kernel
theorem dX5_rider_127 : decode cX5_rider 127 = .ok (.aload_n 0, 1) := by decide +kernel
theorem dX5_rider_128 : decode cX5_rider 128 = .ok (.getfield 112, 3) := by decide +kernel
theorem dX5_rider_131 : decode cX5_rider 131 = .ok (.iload 5, 2) := by decide +kernel
theorem dX5_rider_133 : decode cX5_rider 133 = .ok (.iastore, 1) := by decide +kernel
theorem dX5_rider_134 : decode cX5_rider 134 = .ok (.aload_n 0, 1) := by decide +kernel
theorem dX5_rider_135 : decode cX5_rider 135 = .ok (.getfield 28, 3) := by decide +kernel
theorem dX5_rider_138 : decode cX5_rider 138 = .ok (.aload_n 0, 1) := by decide +kernel
theorem dX5_rider_139 : decode cX5_rider 139 = .ok (.getfield 112, 3) := by decide +kernel
theorem dX5_rider_142 : decode cX5_rider 142 = .ok (.iload_n 1, 1) := by decide +kernel
theorem dX5_rider_143 : decode cX5_rider 143 = .ok (.iastore, 1) := by decide +kernel
theorem dX5_rider_144 : decode cX5_rider 144 = .ok (.aload_n 0, 1) := by decide +kernel
theorem dX5_rider_145 : decode cX5_rider 145 = .ok (.getfield 31, 3) := by decide +kernel
theorem dX5_rider_148 : decode cX5_rider 148 = .ok (.aload_n 0, 1) := by decide +kernel
theorem dX5_rider_149 : decode cX5_rider 149 = .ok (.getfield 112, 3) := by decide +kernel
theorem dX5_rider_152 : decode cX5_rider 152 = .ok (.iload_n 3, 1) := by decide +kernel
theorem dX5_rider_153 : decode cX5_rider 153 = .ok (.iastore, 1) := by decide +kernel
theorem dX5_rider_154 : decode cX5_rider 154 = .ok (.aload_n 0, 1) := by decide +kernel
theorem dX5_rider_155 : decode cX5_rider 155 = .ok (.dup, 1) := by decide +kernel
theorem dX5_rider_156 : decode cX5_rider 156 = .ok (.getfield 112, 3) := by decide +kernel
theorem dX5_rider_159 : decode cX5_rider 159 = .ok (.iconst 1, 1) := by decide +kernel
theorem dX5_rider_160 : decode cX5_rider 160 = .ok (.iadd, 1) := by decide +kernel
theorem dX5_rider_161 : decode cX5_rider 161 = .ok (.putfield 112, 3) := by decide +kernel
theorem dX5_rider_164 : decode cX5_rider 164 = .ok (.aload_n 0, 1) := by decide +kernel
theorem dX5_rider_165 : decode cX5_rider 165 = .ok (.getfield 112, 3) := by decide +kernel
theorem dX5_rider_168 : decode cX5_rider 168 = .ok (.iconst 1, 1) := by decide +kernel
theorem dX5_rider_169 : decode cX5_rider 169 = .ok (.isub, 1) := by decide +kernel
theorem dX5_rider_170 : decode cX5_rider 170 = .ok (.ireturn, 1) := by decide +kernel
theorem dX5_rest_0 : decode cX5_rest 0 = .ok (.aload_n 0, 1) := by decide +kernel
theorem dX5_rest_1 : decode cX5_rest 1 = .ok (.iconst 0, 1) := by decide +kernel
theorem dX5_rest_2 : decode cX5_rest 2 = .ok (.putfield 102, 3) := by decide +kernel
theorem dX5_rest_5 : decode cX5_rest 5 = .ok (.iload_n 1, 1) := by decide +kernel
theorem dX5_rest_6 : decode cX5_rest 6 = .ok (.iconst 0, 1) := by decide +kernel
theorem dX5_rest_7 : decode cX5_rest 7 = .ok (.sipush 600, 3) := by decide +kernel
theorem dX5_rest_10 : decode cX5_rest 10 = .ok (.invokestatic 108, 3) := by decide +kernel
theorem dX5_rest_13 : decode cX5_rest 13 = .ok (.ifCond .ne 5, 3) := by decide +kernel
theorem dX5_rest_16 : decode cX5_rest 16 = .ok (.iconst (-1), 1) := by decide +kernel
theorem dX5_rest_17 : decode cX5_rest 17 = .ok (.ireturn, 1) := by decide +kernel
theorem dX5_rest_18 : decode cX5_rest 18 = .ok (.aload_n 0, 1) := by decide +kernel
theorem dX5_rest_19 : decode cX5_rest 19 = .ok (.getfield 44, 3) := by decide +kernel
theorem dX5_rest_22 : decode cX5_rest 22 = .ok (.istore_n 2, 1) := by decide +kernel
theorem dX5_rest_23 : decode cX5_rest 23 = .ok (.aload_n 0, 1) := by decide +kernel
theorem dX5_rest_24 : decode cX5_rest 24 = .ok (.iload_n 1, 1) := by decide +kernel
theorem dX5_rest_25 : decode cX5_rest 25 = .ok (.putfield 44, 3) := by decide +kernel
theorem dX5_rest_28 : decode cX5_rest 28 = .ok (.iload_n 2, 1) := by decide +kernel
theorem dX5_rest_29 : decode cX5_rest 29 = .ok (.ireturn, 1) := by decide +kernel
theorem dX5_wayOf_0 : decode cX5_wayOf 0 = .ok (.aload_n 0, 1) := by decide +kernel
theorem dX5_wayOf_1 : decode cX5_wayOf 1 = .ok (.getfield 16, 3) := by decide +kernel
theorem dX5_wayOf_4 : decode cX5_wayOf 4 = .ok (.iload_n 1, 1) := by decide +kernel
theorem dX5_wayOf_5 : decode cX5_wayOf 5 = .ok (.iaload, 1) := by decide +kernel
theorem dX5_wayOf_6 : decode cX5_wayOf 6 = .ok (.iload_n 2, 1) := by decide +kernel
theorem dX5_wayOf_7 : decode cX5_wayOf 7 = .ok (.ishr, 1) := by decide +kernel
theorem dX5_wayOf_8 : decode cX5_wayOf 8 = .ok (.iconst 1, 1) := by decide +kernel
theorem dX5_wayOf_9 : decode cX5_wayOf 9 = .ok (.iand, 1) := by decide +kernel
theorem dX5_wayOf_10 : decode cX5_wayOf 10 = .ok (.ifCond .eq 16, 3) := by decide +kernel
theorem dX5_wayOf_13 : decode cX5_wayOf 13 = .ok (.aload_n 0, 1) := by decide +kernel
theorem dX5_wayOf_14 : decode cX5_wayOf 14 = .ok (.getfield 16, 3) := by decide +kernel
theorem dX5_wayOf_17 : decode cX5_wayOf 17 = .ok (.iload_n 1, 1) := by decide +kernel
theorem dX5_wayOf_18 : decode cX5_wayOf 18 = .ok (.iaload, 1) := by decide +kernel
theorem dX5_wayOf_19 : decode cX5_wayOf 19 = .ok (.iload_n 3, 1) := by decide +kernel
theorem dX5_wayOf_20 : decode cX5_wayOf 20 = .ok (.ishr, 1) := by decide +kernel
theorem dX5_wayOf_21 : decode cX5_wayOf 21 = .ok (.iconst 1, 1) := by decide +kernel
theorem dX5_wayOf_22 : decode cX5_wayOf 22 = .ok (.iand, 1) := by decide +kernel
theorem dX5_wayOf_23 : decode cX5_wayOf 23 = .ok (.ifCond .ne 6, 3) := by decide +kernel
theorem dX5_wayOf_26 : decode cX5_wayOf 26 = .ok (.ldc 122, 2) := by decide +kernel
theorem dX5_wayOf_28 : decode cX5_wayOf 28 = .ok (.ireturn, 1) := by decide +kernel
theorem dX5_wayOf_29 : decode cX5_wayOf 29 = .ok (.iconst 0, 1) := by decide +kernel
theorem dX5_wayOf_30 : decode cX5_wayOf 30 = .ok (.istore 4, 2) := by decide +kernel
theorem dX5_wayOf_32 : decode cX5_wayOf 32 = .ok (.iload 4, 2) := by decide +kernel
theorem dX5_wayOf_34 : decode cX5_wayOf 34 = .ok (.bipush 8, 2) := by decide +kernel
theorem dX5_wayOf_36 : decode cX5_wayOf 36 = .ok (.if_icmp .ge 28, 3) := by decide +kernel
theorem dX5_wayOf_39 : decode cX5_wayOf 39 = .ok (.aload_n 0, 1) := by decide +kernel
theorem dX5_wayOf_40 : decode cX5_wayOf 40 = .ok (.getfield 75, 3) := by decide +kernel
theorem dX5_wayOf_43 : decode cX5_wayOf 43 = .ok (.iload 4, 2) := by decide +kernel
theorem dX5_wayOf_45 : decode cX5_wayOf 45 = .ok (.iload 4, 2) := by decide +kernel
theorem dX5_wayOf_47 : decode cX5_wayOf 47 = .ok (.iload_n 2, 1) := by decide +kernel
theorem dX5_wayOf_48 : decode cX5_wayOf 48 = .ok (.if_icmp .ne 7, 3) := by decide +kernel
theorem dX5_wayOf_51 : decode cX5_wayOf 51 = .ok (.iconst 0, 1) := by decide +kernel
theorem dX5_wayOf_52 : decode cX5_wayOf 52 = .ok (.goto 5, 3) := by decide +kernel
theorem dX5_wayOf_55 : decode cX5_wayOf 55 = .ok (.ldc 122, 2) := by decide +kernel
theorem dX5_wayOf_57 : decode cX5_wayOf 57 = .ok (.iastore, 1) := by decide +kernel
theorem dX5_wayOf_58 : decode cX5_wayOf 58 = .ok (.iinc 4 1, 3) := by decide +kernel
theorem dX5_wayOf_61 : decode cX5_wayOf 61 = .ok (.goto (-29), 3) := by decide +kernel
theorem dX5_wayOf_64 : decode cX5_wayOf 64 = .ok (.iconst 1, 1) := by decide +kernel
theorem dX5_wayOf_65 : decode cX5_wayOf 65 = .ok (.istore 4, 2) := by decide +kernel
theorem dX5_wayOf_67 : decode cX5_wayOf 67 = .ok (.iload 4, 2) := by decide +kernel
theorem dX5_wayOf_69 : decode cX5_wayOf 69 = .ok (.aload_n 0, 1) := by decide +kernel
theorem dX5_wayOf_70 : decode cX5_wayOf 70 = .ok (.getfield 105, 3) := by decide +kernel
theorem dX5_wayOf_73 : decode cX5_wayOf 73 = .ok (.if_icmp .ge 145, 3) := by decide +kernel
theorem dX5_wayOf_76 : decode cX5_wayOf 76 = .ok (.iconst 0, 1) := by decide +kernel
theorem dX5_wayOf_77 : decode cX5_wayOf 77 = .ok (.istore 5, 2) := by decide +kernel
theorem dX5_wayOf_79 : decode cX5_wayOf 79 = .ok (.iload 5, 2) := by decide +kernel
theorem dX5_wayOf_81 : decode cX5_wayOf 81 = .ok (.aload_n 0, 1) := by decide +kernel
theorem dX5_wayOf_82 : decode cX5_wayOf 82 = .ok (.getfield 105, 3) := by decide +kernel
theorem dX5_wayOf_85 : decode cX5_wayOf 85 = .ok (.if_icmp .ge 127, 3) := by decide +kernel
theorem dX5_wayOf_88 : decode cX5_wayOf 88 = .ok (.iconst 0, 1) := by decide +kernel
theorem dX5_wayOf_89 : decode cX5_wayOf 89 = .ok (.istore 6, 2) := by decide +kernel
theorem dX5_wayOf_91 : decode cX5_wayOf 91 = .ok (.iload 6, 2) := by decide +kernel
theorem dX5_wayOf_93 : decode cX5_wayOf 93 = .ok (.aload_n 0, 1) := by decide +kernel
theorem dX5_wayOf_94 : decode cX5_wayOf 94 = .ok (.getfield 105, 3) := by decide +kernel
theorem dX5_wayOf_97 : decode cX5_wayOf 97 = .ok (.if_icmp .ge 109, 3) := by decide +kernel
theorem dX5_wayOf_100 : decode cX5_wayOf 100 = .ok (.aload_n 0, 1) := by decide +kernel
theorem dX5_wayOf_101 : decode cX5_wayOf 101 = .ok (.getfield 9, 3) := by decide +kernel
theorem dX5_wayOf_104 : decode cX5_wayOf 104 = .ok (.bipush 8, 2) := by decide +kernel
theorem dX5_wayOf_106 : decode cX5_wayOf 106 = .ok (.iload 5, 2) := by decide +kernel
theorem dX5_wayOf_108 : decode cX5_wayOf 108 = .ok (.imul, 1) := by decide +kernel
theorem dX5_wayOf_109 : decode cX5_wayOf 109 = .ok (.iload 6, 2) := by decide +kernel
theorem dX5_wayOf_111 : decode cX5_wayOf 111 = .ok (.iadd, 1) := by decide +kernel
theorem dX5_wayOf_112 : decode cX5_wayOf 112 = .ok (.iaload, 1) := by decide +kernel
theorem dX5_wayOf_113 : decode cX5_wayOf 113 = .ok (.istore 7, 2) := by decide +kernel
theorem dX5_wayOf_115 : decode cX5_wayOf 115 = .ok (.iload 7, 2) := by decide +kernel
theorem dX5_wayOf_117 : decode cX5_wayOf 117 = .ok (.ifCond .eq 83, 3) := by decide +kernel
theorem dX5_wayOf_120 : decode cX5_wayOf 120 = .ok (.aload_n 0, 1) := by decide +kernel
theorem dX5_wayOf_121 : decode cX5_wayOf 121 = .ok (.getfield 16, 3) := by decide +kernel
theorem dX5_wayOf_124 : decode cX5_wayOf 124 = .ok (.iload_n 1, 1) := by decide +kernel
theorem dX5_wayOf_125 : decode cX5_wayOf 125 = .ok (.iaload, 1) := by decide +kernel
theorem dX5_wayOf_126 : decode cX5_wayOf 126 = .ok (.iload 5, 2) := by decide +kernel
theorem dX5_wayOf_128 : decode cX5_wayOf 128 = .ok (.ishr, 1) := by decide +kernel
theorem dX5_wayOf_129 : decode cX5_wayOf 129 = .ok (.iconst 1, 1) := by decide +kernel
theorem dX5_wayOf_130 : decode cX5_wayOf 130 = .ok (.iand, 1) := by decide +kernel
theorem dX5_wayOf_131 : decode cX5_wayOf 131 = .ok (.ifCond .eq 69, 3) := by decide +kernel
theorem dX5_wayOf_134 : decode cX5_wayOf 134 = .ok (.aload_n 0, 1) := by decide +kernel
theorem dX5_wayOf_135 : decode cX5_wayOf 135 = .ok (.getfield 16, 3) := by decide +kernel
theorem dX5_wayOf_138 : decode cX5_wayOf 138 = .ok (.iload_n 1, 1) := by decide +kernel
theorem dX5_wayOf_139 : decode cX5_wayOf 139 = .ok (.iaload, 1) := by decide +kernel
theorem dX5_wayOf_140 : decode cX5_wayOf 140 = .ok (.iload 6, 2) := by decide +kernel
theorem dX5_wayOf_142 : decode cX5_wayOf 142 = .ok (.ishr, 1) := by decide +kernel
theorem dX5_wayOf_143 : decode cX5_wayOf 143 = .ok (.iconst 1, 1) := by decide +kernel
theorem dX5_wayOf_144 : decode cX5_wayOf 144 = .ok (.iand, 1) := by decide +kernel
theorem dX5_wayOf_145 : decode cX5_wayOf 145 = .ok (.ifCond .eq 55, 3) := by decide +kernel
theorem dX5_wayOf_148 : decode cX5_wayOf 148 = .ok (.aload_n 0, 1) := by decide +kernel
theorem dX5_wayOf_149 : decode cX5_wayOf 149 = .ok (.getfield 75, 3) := by decide +kernel
theorem dX5_wayOf_152 : decode cX5_wayOf 152 = .ok (.iload 5, 2) := by decide +kernel
theorem dX5_wayOf_154 : decode cX5_wayOf 154 = .ok (.iaload, 1) := by decide +kernel
theorem dX5_wayOf_155 : decode cX5_wayOf 155 = .ok (.ldc 122, 2) := by decide +kernel
theorem dX5_wayOf_157 : decode cX5_wayOf 157 = .ok (.if_icmp .ne 6, 3) := by decide +kernel
theorem dX5_wayOf_160 : decode cX5_wayOf 160 = .ok (.goto 40, 3) := by decide +kernel
theorem dX5_wayOf_163 : decode cX5_wayOf 163 = .ok (.aload_n 0, 1) := by decide +kernel
theorem dX5_wayOf_164 : decode cX5_wayOf 164 = .ok (.getfield 75, 3) := by decide +kernel
theorem dX5_wayOf_167 : decode cX5_wayOf 167 = .ok (.iload 5, 2) := by decide +kernel
theorem dX5_wayOf_169 : decode cX5_wayOf 169 = .ok (.iaload, 1) := by decide +kernel
theorem dX5_wayOf_170 : decode cX5_wayOf 170 = .ok (.iload 7, 2) := by decide +kernel
theorem dX5_wayOf_172 : decode cX5_wayOf 172 = .ok (.iadd, 1) := by decide +kernel
theorem dX5_wayOf_173 : decode cX5_wayOf 173 = .ok (.aload_n 0, 1) := by decide +kernel
theorem dX5_wayOf_174 : decode cX5_wayOf 174 = .ok (.getfield 75, 3) := by decide +kernel
theorem dX5_wayOf_177 : decode cX5_wayOf 177 = .ok (.iload 6, 2) := by decide +kernel
theorem dX5_wayOf_179 : decode cX5_wayOf 179 = .ok (.iaload, 1) := by decide +kernel
theorem dX5_wayOf_180 : decode cX5_wayOf 180 = .ok (.if_icmp .ge 20, 3) := by decide +kernel
theorem dX5_wayOf_183 : decode cX5_wayOf 183 = .ok (.aload_n 0, 1) := by decide +kernel
theorem dX5_wayOf_184 : decode cX5_wayOf 184 = .ok (.getfield 75, 3) := by decide +kernel
theorem dX5_wayOf_187 : decode cX5_wayOf 187 = .ok (.iload 6, 2) := by decide +kernel
theorem dX5_wayOf_189 : decode cX5_wayOf 189 = .ok (.aload_n 0, 1) := by decide +kernel
theorem dX5_wayOf_190 : decode cX5_wayOf 190 = .ok (.getfield 75, 3) := by decide +kernel
theorem dX5_wayOf_193 : decode cX5_wayOf 193 = .ok (.iload 5, 2) := by decide +kernel
theorem dX5_wayOf_195 : decode cX5_wayOf 195 = .ok (.iaload, 1) := by decide +kernel
theorem dX5_wayOf_196 : decode cX5_wayOf 196 = .ok (.iload 7, 2) := by decide +kernel
theorem dX5_wayOf_198 : decode cX5_wayOf 198 = .ok (.iadd, 1) := by decide +kernel
theorem dX5_wayOf_199 : decode cX5_wayOf 199 = .ok (.iastore, 1) := by decide +kernel
theorem dX5_wayOf_200 : decode cX5_wayOf 200 = .ok (.iinc 6 1, 3) := by decide +kernel
theorem dX5_wayOf_203 : decode cX5_wayOf 203 = .ok (.goto (-112), 3) := by decide +kernel
theorem dX5_wayOf_206 : decode cX5_wayOf 206 = .ok (.iinc 5 1, 3) := by decide +kernel
theorem dX5_wayOf_209 : decode cX5_wayOf 209 = .ok (.goto (-130), 3) := by decide +kernel
theorem dX5_wayOf_212 : decode cX5_wayOf 212 = .ok (.iinc 4 1, 3) := by decide +kernel
theorem dX5_wayOf_215 : decode cX5_wayOf 215 = .ok (.goto (-148), 3) := by decide +kernel
theorem dX5_wayOf_218 : decode cX5_wayOf 218 = .ok (.aload_n 0, 1) := by decide +kernel
theorem dX5_wayOf_219 : decode cX5_wayOf 219 = .ok (.getfield 75, 3) := by decide +kernel
theorem dX5_wayOf_222 : decode cX5_wayOf 222 = .ok (.iload_n 3, 1) := by decide +kernel
theorem dX5_wayOf_223 : decode cX5_wayOf 223 = .ok (.iaload, 1) := by decide +kernel
theorem dX5_wayOf_224 : decode cX5_wayOf 224 = .ok (.ireturn, 1) := by decide +kernel
theorem dX5_way_0 : decode cX5_way 0 = .ok (.aload_n 0, 1) := by decide +kernel
theorem dX5_way_1 : decode cX5_way 1 = .ok (.iconst 0, 1) := by decide +kernel
theorem dX5_way_2 : decode cX5_way 2 = .ok (.putfield 102, 3) := by decide +kernel
theorem dX5_way_5 : decode cX5_way 5 = .ok (.aload_n 0, 1) := by decide +kernel
theorem dX5_way_6 : decode cX5_way 6 = .ok (.iload_n 1, 1) := by decide +kernel
theorem dX5_way_7 : decode cX5_way 7 = .ok (.invokevirtual 123, 3) := by decide +kernel
theorem dX5_way_10 : decode cX5_way 10 = .ok (.ifCond .eq 19, 3) := by decide +kernel
theorem dX5_way_13 : decode cX5_way 13 = .ok (.aload_n 0, 1) := by decide +kernel
theorem dX5_way_14 : decode cX5_way 14 = .ok (.iload_n 2, 1) := by decide +kernel
theorem dX5_way_15 : decode cX5_way 15 = .ok (.invokevirtual 118, 3) := by decide +kernel
theorem dX5_way_18 : decode cX5_way 18 = .ok (.ifCond .eq 11, 3) := by decide +kernel
theorem dX5_way_21 : decode cX5_way 21 = .ok (.aload_n 0, 1) := by decide +kernel
theorem dX5_way_22 : decode cX5_way 22 = .ok (.iload_n 3, 1) := by decide +kernel
theorem dX5_way_23 : decode cX5_way 23 = .ok (.invokevirtual 118, 3) := by decide +kernel
theorem dX5_way_26 : decode cX5_way 26 = .ok (.ifCond .ne 5, 3) := by decide +kernel
theorem dX5_way_29 : decode cX5_way 29 = .ok (.iconst (-1), 1) := by decide +kernel
theorem dX5_way_30 : decode cX5_way 30 = .ok (.ireturn, 1) := by decide +kernel
theorem dX5_way_31 : decode cX5_way 31 = .ok (.aload_n 0, 1) := by decide +kernel
theorem dX5_way_32 : decode cX5_way 32 = .ok (.iload_n 1, 1) := by decide +kernel
theorem dX5_way_33 : decode cX5_way 33 = .ok (.iload_n 2, 1) := by decide +kernel
theorem dX5_way_34 : decode cX5_way 34 = .ok (.iload_n 3, 1) := by decide +kernel
theorem dX5_way_35 : decode cX5_way 35 = .ok (.invokevirtual 126, 3) := by decide +kernel
theorem dX5_way_38 : decode cX5_way 38 = .ok (.istore 4, 2) := by decide +kernel
theorem dX5_way_40 : decode cX5_way 40 = .ok (.iload 4, 2) := by decide +kernel
theorem dX5_way_42 : decode cX5_way 42 = .ok (.ldc 122, 2) := by decide +kernel
theorem dX5_way_44 : decode cX5_way 44 = .ok (.if_icmp .ne 7, 3) := by decide +kernel
theorem dX5_way_47 : decode cX5_way 47 = .ok (.iconst (-1), 1) := by decide +kernel
theorem dX5_way_48 : decode cX5_way 48 = .ok (.goto 5, 3) := by decide +kernel
theorem dX5_way_51 : decode cX5_way 51 = .ok (.iload 4, 2) := by decide +kernel
theorem dX5_way_53 : decode cX5_way 53 = .ok (.ireturn, 1) := by decide +kernel
theorem dX5_endOf_0 : decode cX5_endOf 0 = .ok (.aload_n 0, 1) := by decide +kernel
theorem dX5_endOf_1 : decode cX5_endOf 1 = .ok (.getfield 69, 3) := by decide +kernel
theorem dX5_endOf_4 : decode cX5_endOf 4 = .ok (.bipush 8, 2) := by decide +kernel
theorem dX5_endOf_6 : decode cX5_endOf 6 = .ok (.bipush 24, 2) := by decide +kernel
theorem dX5_endOf_8 : decode cX5_endOf 8 = .ok (.iload_n 1, 1) := by decide +kernel
theorem dX5_endOf_9 : decode cX5_endOf 9 = .ok (.imul, 1) := by decide +kernel
theorem dX5_endOf_10 : decode cX5_endOf 10 = .ok (.aload_n 0, 1) := by decide +kernel
theorem dX5_endOf_11 : decode cX5_endOf 11 = .ok (.getfield 72, 3) := by decide +kernel
theorem dX5_endOf_14 : decode cX5_endOf 14 = .ok (.iload_n 1, 1) := by decide +kernel
theorem dX5_endOf_15 : decode cX5_endOf 15 = .ok (.iaload, 1) := by decide +kernel
theorem dX5_endOf_16 : decode cX5_endOf 16 = .ok (.iadd, 1) := by decide +kernel
theorem dX5_endOf_17 : decode cX5_endOf 17 = .ok (.iconst 1, 1) := by decide +kernel
theorem dX5_endOf_18 : decode cX5_endOf 18 = .ok (.isub, 1) := by decide +kernel
end
section
theorem dX5_endOf_19 : decode cX5_endOf 19 = .ok (.imul, 1) := by decide +kernel
theorem dX5_endOf_20 : decode cX5_endOf 20 = .ok (.iconst 4, 1) := by decide +kernel
theorem dX5_endOf_21 : decode cX5_endOf 21 = .ok (.iadd, 1) := by decide +kernel
theorem dX5_endOf_22 : decode cX5_endOf 22 = .ok (.iaload, 1) := by decide +kernel
theorem dX5_endOf_23 : decode cX5_endOf 23 = .ok (.ireturn, 1) := by decide +kernel
theorem dX5_count_0 : decode cX5_count 0 = .ok (.aload_n 0, 1) := by decide +kernel
theorem dX5_count_1 : decode cX5_count 1 = .ok (.iconst 0, 1) := by decide +kernel
theorem dX5_count_2 : decode cX5_count 2 = .ok (.putfield 102, 3) := by decide +kernel
theorem dX5_count_5 : decode cX5_count 5 = .ok (.iconst 0, 1) := by decide +kernel
theorem dX5_count_6 : decode cX5_count 6 = .ok (.istore_n 2, 1) := by decide +kernel
theorem dX5_count_7 : decode cX5_count 7 = .ok (.iload_n 1, 1) := by decide +kernel
theorem dX5_count_8 : decode cX5_count 8 = .ok (.tableswitch 168 0 5 #[40, 45, 50, 55, 85, 116], 40) := by decide +kernel
theorem dX5_count_48 : decode cX5_count 48 = .ok (.aload_n 0, 1) := by decide +kernel
theorem dX5_count_49 : decode cX5_count 49 = .ok (.getfield 105, 3) := by decide +kernel
theorem dX5_count_52 : decode cX5_count 52 = .ok (.ireturn, 1) := by decide +kernel
theorem dX5_count_53 : decode cX5_count 53 = .ok (.aload_n 0, 1) := by decide +kernel
theorem dX5_count_54 : decode cX5_count 54 = .ok (.getfield 112, 3) := by decide +kernel
theorem dX5_count_57 : decode cX5_count 57 = .ok (.ireturn, 1) := by decide +kernel
theorem dX5_count_58 : decode cX5_count 58 = .ok (.aload_n 0, 1) := by decide +kernel
theorem dX5_count_59 : decode cX5_count 59 = .ok (.getfield 115, 3) := by decide +kernel
theorem dX5_count_62 : decode cX5_count 62 = .ok (.ireturn, 1) := by decide +kernel
theorem dX5_count_63 : decode cX5_count 63 = .ok (.iconst 0, 1) := by decide +kernel
theorem dX5_count_64 : decode cX5_count 64 = .ok (.istore_n 3, 1) := by decide +kernel
theorem dX5_count_65 : decode cX5_count 65 = .ok (.iload_n 3, 1) := by decide +kernel
theorem dX5_count_66 : decode cX5_count 66 = .ok (.aload_n 0, 1) := by decide +kernel
theorem dX5_count_67 : decode cX5_count 67 = .ok (.getfield 115, 3) := by decide +kernel
theorem dX5_count_70 : decode cX5_count 70 = .ok (.if_icmp .ge 21, 3) := by decide +kernel
theorem dX5_count_73 : decode cX5_count 73 = .ok (.aload_n 0, 1) := by decide +kernel
theorem dX5_count_74 : decode cX5_count 74 = .ok (.getfield 63, 3) := by decide +kernel
theorem dX5_count_77 : decode cX5_count 77 = .ok (.iload_n 3, 1) := by decide +kernel
theorem dX5_count_78 : decode cX5_count 78 = .ok (.iaload, 1) := by decide +kernel
theorem dX5_count_79 : decode cX5_count 79 = .ok (.ifCond .le 6, 3) := by decide +kernel
theorem dX5_count_82 : decode cX5_count 82 = .ok (.iinc 2 1, 3) := by decide +kernel
theorem dX5_count_85 : decode cX5_count 85 = .ok (.iinc 3 1, 3) := by decide +kernel
theorem dX5_count_88 : decode cX5_count 88 = .ok (.goto (-23), 3) := by decide +kernel
theorem dX5_count_91 : decode cX5_count 91 = .ok (.iload_n 2, 1) := by decide +kernel
theorem dX5_count_92 : decode cX5_count 92 = .ok (.ireturn, 1) := by decide +kernel
theorem dX5_count_93 : decode cX5_count 93 = .ok (.iconst 0, 1) := by decide +kernel
theorem dX5_count_94 : decode cX5_count 94 = .ok (.istore_n 3, 1) := by decide +kernel
theorem dX5_count_95 : decode cX5_count 95 = .ok (.iload_n 3, 1) := by decide +kernel
theorem dX5_count_96 : decode cX5_count 96 = .ok (.aload_n 0, 1) := by decide +kernel
theorem dX5_count_97 : decode cX5_count 97 = .ok (.getfield 115, 3) := by decide +kernel
theorem dX5_count_100 : decode cX5_count 100 = .ok (.if_icmp .ge 22, 3) := by decide +kernel
theorem dX5_count_103 : decode cX5_count 103 = .ok (.aload_n 0, 1) := by decide +kernel
theorem dX5_count_104 : decode cX5_count 104 = .ok (.getfield 63, 3) := by decide +kernel
theorem dX5_count_107 : decode cX5_count 107 = .ok (.iload_n 3, 1) := by decide +kernel
theorem dX5_count_108 : decode cX5_count 108 = .ok (.iaload, 1) := by decide +kernel
theorem dX5_count_109 : decode cX5_count 109 = .ok (.iconst 2, 1) := by decide +kernel
theorem dX5_count_110 : decode cX5_count 110 = .ok (.if_icmp .ne 6, 3) := by decide +kernel
theorem dX5_count_113 : decode cX5_count 113 = .ok (.iinc 2 1, 3) := by decide +kernel
theorem dX5_count_116 : decode cX5_count 116 = .ok (.iinc 3 1, 3) := by decide +kernel
theorem dX5_count_119 : decode cX5_count 119 = .ok (.goto (-24), 3) := by decide +kernel
theorem dX5_count_122 : decode cX5_count 122 = .ok (.iload_n 2, 1) := by decide +kernel
theorem dX5_count_123 : decode cX5_count 123 = .ok (.ireturn, 1) := by decide +kernel
theorem dX5_count_124 : decode cX5_count 124 = .ok (.iconst 0, 1) := by decide +kernel
theorem dX5_count_125 : decode cX5_count 125 = .ok (.istore_n 3, 1) := by decide +kernel
theorem dX5_count_126 : decode cX5_count 126 = .ok (.iload_n 3, 1) := by decide +kernel
theorem dX5_count_127 : decode cX5_count 127 = .ok (.aload_n 0, 1) := by decide +kernel
theorem dX5_count_128 : decode cX5_count 128 = .ok (.getfield 115, 3) := by decide +kernel
theorem dX5_count_131 : decode cX5_count 131 = .ok (.if_icmp .ge 43, 3) := by decide +kernel
theorem dX5_count_134 : decode cX5_count 134 = .ok (.aload_n 0, 1) := by decide +kernel
theorem dX5_count_135 : decode cX5_count 135 = .ok (.getfield 63, 3) := by decide +kernel
theorem dX5_count_138 : decode cX5_count 138 = .ok (.iload_n 3, 1) := by decide +kernel
theorem dX5_count_139 : decode cX5_count 139 = .ok (.iaload, 1) := by decide +kernel
theorem dX5_count_140 : decode cX5_count 140 = .ok (.iconst 1, 1) := by decide +kernel
theorem dX5_count_141 : decode cX5_count 141 = .ok (.if_icmp .ne 27, 3) := by decide +kernel
theorem dX5_count_144 : decode cX5_count 144 = .ok (.aload_n 0, 1) := by decide +kernel
theorem dX5_count_145 : decode cX5_count 145 = .ok (.iload_n 3, 1) := by decide +kernel
theorem dX5_count_146 : decode cX5_count 146 = .ok (.invokevirtual 130, 3) := by decide +kernel
theorem dX5_count_149 : decode cX5_count 149 = .ok (.aload_n 0, 1) := by decide +kernel
theorem dX5_count_150 : decode cX5_count 150 = .ok (.getfield 57, 3) := by decide +kernel
theorem dX5_count_153 : decode cX5_count 153 = .ok (.iload_n 3, 1) := by decide +kernel
theorem dX5_count_154 : decode cX5_count 154 = .ok (.iaload, 1) := by decide +kernel
theorem dX5_count_155 : decode cX5_count 155 = .ok (.isub, 1) := by decide +kernel
theorem dX5_count_156 : decode cX5_count 156 = .ok (.aload_n 0, 1) := by decide +kernel
theorem dX5_count_157 : decode cX5_count 157 = .ok (.getfield 60, 3) := by decide +kernel
theorem dX5_count_160 : decode cX5_count 160 = .ok (.iload_n 3, 1) := by decide +kernel
theorem dX5_count_161 : decode cX5_count 161 = .ok (.iaload, 1) := by decide +kernel
theorem dX5_count_162 : decode cX5_count 162 = .ok (.if_icmp .le 6, 3) := by decide +kernel
theorem dX5_count_165 : decode cX5_count 165 = .ok (.iinc 2 1, 3) := by decide +kernel
theorem dX5_count_168 : decode cX5_count 168 = .ok (.iinc 3 1, 3) := by decide +kernel
theorem dX5_count_171 : decode cX5_count 171 = .ok (.goto (-45), 3) := by decide +kernel
theorem dX5_count_174 : decode cX5_count 174 = .ok (.iload_n 2, 1) := by decide +kernel
theorem dX5_count_175 : decode cX5_count 175 = .ok (.ireturn, 1) := by decide +kernel
theorem dX5_count_176 : decode cX5_count 176 = .ok (.iconst (-1), 1) := by decide +kernel
theorem dX5_count_177 : decode cX5_count 177 = .ok (.ireturn, 1) := by decide +kernel
theorem dX5_of_0 : decode cX5_of 0 = .ok (.aload_n 0, 1) := by decide +kernel
theorem dX5_of_1 : decode cX5_of 1 = .ok (.iconst 0, 1) := by decide +kernel
theorem dX5_of_2 : decode cX5_of 2 = .ok (.putfield 102, 3) := by decide +kernel
theorem dX5_of_5 : decode cX5_of 5 = .ok (.aload_n 0, 1) := by decide +kernel
theorem dX5_of_6 : decode cX5_of 6 = .ok (.iload_n 1, 1) := by decide +kernel
theorem dX5_of_7 : decode cX5_of 7 = .ok (.invokevirtual 123, 3) := by decide +kernel
theorem dX5_of_10 : decode cX5_of 10 = .ok (.ifCond .eq 13, 3) := by decide +kernel
theorem dX5_of_13 : decode cX5_of 13 = .ok (.iload_n 2, 1) := by decide +kernel
theorem dX5_of_14 : decode cX5_of 14 = .ok (.iconst 0, 1) := by decide +kernel
theorem dX5_of_15 : decode cX5_of 15 = .ok (.bipush 6, 2) := by decide +kernel
theorem dX5_of_17 : decode cX5_of 17 = .ok (.invokestatic 108, 3) := by decide +kernel
theorem dX5_of_20 : decode cX5_of 20 = .ok (.ifCond .ne 10, 3) := by decide +kernel
theorem dX5_of_23 : decode cX5_of 23 = .ok (.aload_n 0, 1) := by decide +kernel
theorem dX5_of_24 : decode cX5_of 24 = .ok (.iconst 1, 1) := by decide +kernel
theorem dX5_of_25 : decode cX5_of 25 = .ok (.putfield 102, 3) := by decide +kernel
theorem dX5_of_28 : decode cX5_of 28 = .ok (.iconst 0, 1) := by decide +kernel
theorem dX5_of_29 : decode cX5_of 29 = .ok (.ireturn, 1) := by decide +kernel
theorem dX5_of_30 : decode cX5_of 30 = .ok (.iload_n 2, 1) := by decide +kernel
theorem dX5_of_31 : decode cX5_of 31 = .ok (.tableswitch 92 0 5 #[37, 44, 51, 71, 78, 85], 37) := by decide +kernel
theorem dX5_of_68 : decode cX5_of 68 = .ok (.aload_n 0, 1) := by decide +kernel
theorem dX5_of_69 : decode cX5_of 69 = .ok (.getfield 13, 3) := by decide +kernel
theorem dX5_of_72 : decode cX5_of 72 = .ok (.iload_n 1, 1) := by decide +kernel
theorem dX5_of_73 : decode cX5_of 73 = .ok (.iaload, 1) := by decide +kernel
theorem dX5_of_74 : decode cX5_of 74 = .ok (.ireturn, 1) := by decide +kernel
theorem dX5_of_75 : decode cX5_of 75 = .ok (.aload_n 0, 1) := by decide +kernel
theorem dX5_of_76 : decode cX5_of 76 = .ok (.getfield 28, 3) := by decide +kernel
theorem dX5_of_79 : decode cX5_of 79 = .ok (.iload_n 1, 1) := by decide +kernel
theorem dX5_of_80 : decode cX5_of 80 = .ok (.iaload, 1) := by decide +kernel
theorem dX5_of_81 : decode cX5_of 81 = .ok (.ireturn, 1) := by decide +kernel
theorem dX5_of_82 : decode cX5_of 82 = .ok (.aload_n 0, 1) := by decide +kernel
theorem dX5_of_83 : decode cX5_of 83 = .ok (.getfield 34, 3) := by decide +kernel
theorem dX5_of_86 : decode cX5_of 86 = .ok (.iload_n 1, 1) := by decide +kernel
theorem dX5_of_87 : decode cX5_of 87 = .ok (.baload, 1) := by decide +kernel
theorem dX5_of_88 : decode cX5_of 88 = .ok (.ifCond .eq 7, 3) := by decide +kernel
theorem dX5_of_91 : decode cX5_of 91 = .ok (.iconst (-1), 1) := by decide +kernel
theorem dX5_of_92 : decode cX5_of 92 = .ok (.goto 9, 3) := by decide +kernel
theorem dX5_of_95 : decode cX5_of 95 = .ok (.aload_n 0, 1) := by decide +kernel
theorem dX5_of_96 : decode cX5_of 96 = .ok (.getfield 31, 3) := by decide +kernel
theorem dX5_of_99 : decode cX5_of 99 = .ok (.iload_n 1, 1) := by decide +kernel
theorem dX5_of_100 : decode cX5_of 100 = .ok (.iaload, 1) := by decide +kernel
theorem dX5_of_101 : decode cX5_of 101 = .ok (.ireturn, 1) := by decide +kernel
theorem dX5_of_102 : decode cX5_of 102 = .ok (.aload_n 0, 1) := by decide +kernel
theorem dX5_of_103 : decode cX5_of 103 = .ok (.getfield 38, 3) := by decide +kernel
theorem dX5_of_106 : decode cX5_of 106 = .ok (.iload_n 1, 1) := by decide +kernel
theorem dX5_of_107 : decode cX5_of 107 = .ok (.iaload, 1) := by decide +kernel
theorem dX5_of_108 : decode cX5_of 108 = .ok (.ireturn, 1) := by decide +kernel
theorem dX5_of_109 : decode cX5_of 109 = .ok (.aload_n 0, 1) := by decide +kernel
theorem dX5_of_110 : decode cX5_of 110 = .ok (.getfield 41, 3) := by decide +kernel
theorem dX5_of_113 : decode cX5_of 113 = .ok (.iload_n 1, 1) := by decide +kernel
theorem dX5_of_114 : decode cX5_of 114 = .ok (.iaload, 1) := by decide +kernel
theorem dX5_of_115 : decode cX5_of 115 = .ok (.ireturn, 1) := by decide +kernel
theorem dX5_of_116 : decode cX5_of 116 = .ok (.aload_n 0, 1) := by decide +kernel
theorem dX5_of_117 : decode cX5_of 117 = .ok (.getfield 16, 3) := by decide +kernel
theorem dX5_of_120 : decode cX5_of 120 = .ok (.iload_n 1, 1) := by decide +kernel
theorem dX5_of_121 : decode cX5_of 121 = .ok (.iaload, 1) := by decide +kernel
theorem dX5_of_122 : decode cX5_of 122 = .ok (.ireturn, 1) := by decide +kernel
theorem dX5_of_123 : decode cX5_of 123 = .ok (.aload_n 0, 1) := by decide +kernel
theorem dX5_of_124 : decode cX5_of 124 = .ok (.getfield 25, 3) := by decide +kernel
theorem dX5_of_127 : decode cX5_of 127 = .ok (.iload_n 1, 1) := by decide +kernel
theorem dX5_of_128 : decode cX5_of 128 = .ok (.iaload, 1) := by decide +kernel
theorem dX5_of_129 : decode cX5_of 129 = .ok (.ireturn, 1) := by decide +kernel
theorem dX5_mayCarry_0 : decode cX5_mayCarry 0 = .ok (.aload_n 0, 1) := by decide +kernel
theorem dX5_mayCarry_1 : decode cX5_mayCarry 1 = .ok (.getfield 34, 3) := by decide +kernel
theorem dX5_mayCarry_4 : decode cX5_mayCarry 4 = .ok (.iload_n 1, 1) := by decide +kernel
theorem dX5_mayCarry_5 : decode cX5_mayCarry 5 = .ok (.baload, 1) := by decide +kernel
theorem dX5_mayCarry_6 : decode cX5_mayCarry 6 = .ok (.ifCond .ne 21, 3) := by decide +kernel
theorem dX5_mayCarry_9 : decode cX5_mayCarry 9 = .ok (.aload_n 0, 1) := by decide +kernel
theorem dX5_mayCarry_10 : decode cX5_mayCarry 10 = .ok (.getfield 25, 3) := by decide +kernel
theorem dX5_mayCarry_13 : decode cX5_mayCarry 13 = .ok (.iload_n 1, 1) := by decide +kernel
theorem dX5_mayCarry_14 : decode cX5_mayCarry 14 = .ok (.iaload, 1) := by decide +kernel
theorem dX5_mayCarry_15 : decode cX5_mayCarry 15 = .ok (.iload_n 2, 1) := by decide +kernel
theorem dX5_mayCarry_16 : decode cX5_mayCarry 16 = .ok (.ishr, 1) := by decide +kernel
theorem dX5_mayCarry_17 : decode cX5_mayCarry 17 = .ok (.iconst 1, 1) := by decide +kernel
theorem dX5_mayCarry_18 : decode cX5_mayCarry 18 = .ok (.iand, 1) := by decide +kernel
theorem dX5_mayCarry_19 : decode cX5_mayCarry 19 = .ok (.iconst 1, 1) := by decide +kernel
theorem dX5_mayCarry_20 : decode cX5_mayCarry 20 = .ok (.if_icmp .ne 7, 3) := by decide +kernel
theorem dX5_mayCarry_23 : decode cX5_mayCarry 23 = .ok (.iconst 1, 1) := by decide +kernel
theorem dX5_mayCarry_24 : decode cX5_mayCarry 24 = .ok (.goto 4, 3) := by decide +kernel
theorem dX5_mayCarry_27 : decode cX5_mayCarry 27 = .ok (.iconst 0, 1) := by decide +kernel
theorem dX5_mayCarry_28 : decode cX5_mayCarry 28 = .ok (.ireturn, 1) := by decide +kernel
theorem dX5_onDuty_0 : decode cX5_onDuty 0 = .ok (.iconst 0, 1) := by decide +kernel
theorem dX5_onDuty_1 : decode cX5_onDuty 1 = .ok (.istore_n 3, 1) := by decide +kernel
theorem dX5_onDuty_2 : decode cX5_onDuty 2 = .ok (.iconst 0, 1) := by decide +kernel
theorem dX5_onDuty_3 : decode cX5_onDuty 3 = .ok (.istore 4, 2) := by decide +kernel
theorem dX5_onDuty_5 : decode cX5_onDuty 5 = .ok (.iload 4, 2) := by decide +kernel
theorem dX5_onDuty_7 : decode cX5_onDuty 7 = .ok (.aload_n 0, 1) := by decide +kernel
theorem dX5_onDuty_8 : decode cX5_onDuty 8 = .ok (.getfield 112, 3) := by decide +kernel
theorem dX5_onDuty_11 : decode cX5_onDuty 11 = .ok (.if_icmp .ge 43, 3) := by decide +kernel
theorem dX5_onDuty_14 : decode cX5_onDuty 14 = .ok (.aload_n 0, 1) := by decide +kernel
theorem dX5_onDuty_15 : decode cX5_onDuty 15 = .ok (.iload 4, 2) := by decide +kernel
theorem dX5_onDuty_17 : decode cX5_onDuty 17 = .ok (.iload_n 2, 1) := by decide +kernel
theorem dX5_onDuty_18 : decode cX5_onDuty 18 = .ok (.invokevirtual 134, 3) := by decide +kernel
theorem dX5_onDuty_21 : decode cX5_onDuty 21 = .ok (.ifCond .eq 27, 3) := by decide +kernel
theorem dX5_onDuty_24 : decode cX5_onDuty 24 = .ok (.iload_n 1, 1) := by decide +kernel
theorem dX5_onDuty_25 : decode cX5_onDuty 25 = .ok (.aload_n 0, 1) := by decide +kernel
theorem dX5_onDuty_26 : decode cX5_onDuty 26 = .ok (.getfield 19, 3) := by decide +kernel
theorem dX5_onDuty_29 : decode cX5_onDuty 29 = .ok (.iload 4, 2) := by decide +kernel
theorem dX5_onDuty_31 : decode cX5_onDuty 31 = .ok (.iaload, 1) := by decide +kernel
theorem dX5_onDuty_32 : decode cX5_onDuty 32 = .ok (.aload_n 0, 1) := by decide +kernel
theorem dX5_onDuty_33 : decode cX5_onDuty 33 = .ok (.getfield 22, 3) := by decide +kernel
theorem dX5_onDuty_36 : decode cX5_onDuty 36 = .ok (.iload 4, 2) := by decide +kernel
theorem dX5_onDuty_38 : decode cX5_onDuty 38 = .ok (.iaload, 1) := by decide +kernel
theorem dX5_onDuty_39 : decode cX5_onDuty 39 = .ok (.invokestatic 108, 3) := by decide +kernel
theorem dX5_onDuty_42 : decode cX5_onDuty 42 = .ok (.ifCond .eq 6, 3) := by decide +kernel
theorem dX5_onDuty_45 : decode cX5_onDuty 45 = .ok (.iinc 3 1, 3) := by decide +kernel
theorem dX5_onDuty_48 : decode cX5_onDuty 48 = .ok (.iinc 4 1, 3) := by decide +kernel
theorem dX5_onDuty_51 : decode cX5_onDuty 51 = .ok (.goto (-46), 3) := by decide +kernel
theorem dX5_onDuty_54 : decode cX5_onDuty 54 = .ok (.iload_n 3, 1) := by decide +kernel
theorem dX5_onDuty_55 : decode cX5_onDuty 55 = .ok (.ireturn, 1) := by decide +kernel
theorem dX5_duty_0 : decode cX5_duty 0 = .ok (.aload_n 0, 1) := by decide +kernel
theorem dX5_duty_1 : decode cX5_duty 1 = .ok (.iconst 0, 1) := by decide +kernel
theorem dX5_duty_2 : decode cX5_duty 2 = .ok (.putfield 102, 3) := by decide +kernel
theorem dX5_duty_5 : decode cX5_duty 5 = .ok (.iload_n 1, 1) := by decide +kernel
theorem dX5_duty_6 : decode cX5_duty 6 = .ok (.iconst 0, 1) := by decide +kernel
theorem dX5_duty_7 : decode cX5_duty 7 = .ok (.sipush 4319, 3) := by decide +kernel
theorem dX5_duty_10 : decode cX5_duty 10 = .ok (.invokestatic 108, 3) := by decide +kernel
theorem dX5_duty_13 : decode cX5_duty 13 = .ok (.ifCond .eq 21, 3) := by decide +kernel
theorem dX5_duty_16 : decode cX5_duty 16 = .ok (.iload_n 2, 1) := by decide +kernel
theorem dX5_duty_17 : decode cX5_duty 17 = .ok (.iconst 0, 1) := by decide +kernel
theorem dX5_duty_18 : decode cX5_duty 18 = .ok (.iconst 3, 1) := by decide +kernel
theorem dX5_duty_19 : decode cX5_duty 19 = .ok (.invokestatic 108, 3) := by decide +kernel
theorem dX5_duty_22 : decode cX5_duty 22 = .ok (.ifCond .eq 12, 3) := by decide +kernel
theorem dX5_duty_25 : decode cX5_duty 25 = .ok (.aload_n 0, 1) := by decide +kernel
theorem dX5_duty_26 : decode cX5_duty 26 = .ok (.iload_n 1, 1) := by decide +kernel
theorem dX5_duty_27 : decode cX5_duty 27 = .ok (.iload_n 2, 1) := by decide +kernel
theorem dX5_duty_28 : decode cX5_duty 28 = .ok (.invokevirtual 138, 3) := by decide +kernel
theorem dX5_duty_31 : decode cX5_duty 31 = .ok (.goto 4, 3) := by decide +kernel
theorem dX5_duty_34 : decode cX5_duty 34 = .ok (.iconst (-1), 1) := by decide +kernel
theorem dX5_duty_35 : decode cX5_duty 35 = .ok (.ireturn, 1) := by decide +kernel
theorem dX5_bare_0 : decode cX5_bare 0 = .ok (.aload_n 0, 1) := by decide +kernel
theorem dX5_bare_1 : decode cX5_bare 1 = .ok (.iconst 0, 1) := by decide +kernel
theorem dX5_bare_2 : decode cX5_bare 2 = .ok (.putfield 102, 3) := by decide +kernel
theorem dX5_bare_5 : decode cX5_bare 5 = .ok (.iload_n 1, 1) := by decide +kernel
theorem dX5_bare_6 : decode cX5_bare 6 = .ok (.iconst 0, 1) := by decide +kernel
theorem dX5_bare_7 : decode cX5_bare 7 = .ok (.sipush 4319, 3) := by decide +kernel
theorem dX5_bare_10 : decode cX5_bare 10 = .ok (.invokestatic 108, 3) := by decide +kernel
theorem dX5_bare_13 : decode cX5_bare 13 = .ok (.ifCond .eq 12, 3) := by decide +kernel
theorem dX5_bare_16 : decode cX5_bare 16 = .ok (.iload_n 2, 1) := by decide +kernel
theorem dX5_bare_17 : decode cX5_bare 17 = .ok (.iconst 0, 1) := by decide +kernel
theorem dX5_bare_18 : decode cX5_bare 18 = .ok (.iconst 3, 1) := by decide +kernel
theorem dX5_bare_19 : decode cX5_bare 19 = .ok (.invokestatic 108, 3) := by decide +kernel
theorem dX5_bare_22 : decode cX5_bare 22 = .ok (.ifCond .ne 5, 3) := by decide +kernel
theorem dX5_bare_25 : decode cX5_bare 25 = .ok (.iconst (-1), 1) := by decide +kernel
theorem dX5_bare_26 : decode cX5_bare 26 = .ok (.ireturn, 1) := by decide +kernel
theorem dX5_bare_27 : decode cX5_bare 27 = .ok (.iload_n 1, 1) := by decide +kernel
theorem dX5_bare_28 : decode cX5_bare 28 = .ok (.istore_n 3, 1) := by decide +kernel
theorem dX5_bare_29 : decode cX5_bare 29 = .ok (.iload_n 3, 1) := by decide +kernel
theorem dX5_bare_30 : decode cX5_bare 30 = .ok (.sipush 4319, 3) := by decide +kernel
theorem dX5_bare_33 : decode cX5_bare 33 = .ok (.if_icmp .gt 20, 3) := by decide +kernel
theorem dX5_bare_36 : decode cX5_bare 36 = .ok (.aload_n 0, 1) := by decide +kernel
theorem dX5_bare_37 : decode cX5_bare 37 = .ok (.iload_n 3, 1) := by decide +kernel
theorem dX5_bare_38 : decode cX5_bare 38 = .ok (.iload_n 2, 1) := by decide +kernel
theorem dX5_bare_39 : decode cX5_bare 39 = .ok (.invokevirtual 138, 3) := by decide +kernel
theorem dX5_bare_42 : decode cX5_bare 42 = .ok (.ifCond .ne 5, 3) := by decide +kernel
theorem dX5_bare_45 : decode cX5_bare 45 = .ok (.iload_n 3, 1) := by decide +kernel
theorem dX5_bare_46 : decode cX5_bare 46 = .ok (.ireturn, 1) := by decide +kernel
theorem dX5_bare_47 : decode cX5_bare 47 = .ok (.iinc 3 1, 3) := by decide +kernel
theorem dX5_bare_50 : decode cX5_bare 50 = .ok (.goto (-21), 3) := by decide +kernel
theorem dX5_bare_53 : decode cX5_bare 53 = .ok (.iconst (-1), 1) := by decide +kernel
theorem dX5_bare_54 : decode cX5_bare 54 = .ok (.ireturn, 1) := by decide +kernel
theorem dX5_isBetter_0 : decode cX5_isBetter 0 = .ok (.aload_n 0, 1) := by decide +kernel
theorem dX5_isBetter_1 : decode cX5_isBetter 1 = .ok (.getfield 142, 3) := by decide +kernel
theorem dX5_isBetter_4 : decode cX5_isBetter 4 = .ok (.ifCond .ne 5, 3) := by decide +kernel
theorem dX5_isBetter_7 : decode cX5_isBetter 7 = .ok (.iconst 1, 1) := by decide +kernel
theorem dX5_isBetter_8 : decode cX5_isBetter 8 = .ok (.ireturn, 1) := by decide +kernel
theorem dX5_isBetter_9 : decode cX5_isBetter 9 = .ok (.aload_n 0, 1) := by decide +kernel
theorem dX5_isBetter_10 : decode cX5_isBetter 10 = .ok (.getfield 87, 3) := by decide +kernel
theorem dX5_isBetter_13 : decode cX5_isBetter 13 = .ok (.iload_n 1, 1) := by decide +kernel
theorem dX5_isBetter_14 : decode cX5_isBetter 14 = .ok (.iconst 1, 1) := by decide +kernel
theorem dX5_isBetter_15 : decode cX5_isBetter 15 = .ok (.isub, 1) := by decide +kernel
theorem dX5_isBetter_16 : decode cX5_isBetter 16 = .ok (.iaload, 1) := by decide +kernel
theorem dX5_isBetter_17 : decode cX5_isBetter 17 = .ok (.istore_n 2, 1) := by decide +kernel
theorem dX5_isBetter_18 : decode cX5_isBetter 18 = .ok (.aload_n 0, 1) := by decide +kernel
theorem dX5_isBetter_19 : decode cX5_isBetter 19 = .ok (.getfield 99, 3) := by decide +kernel
theorem dX5_isBetter_22 : decode cX5_isBetter 22 = .ok (.aload_n 0, 1) := by decide +kernel
theorem dX5_isBetter_23 : decode cX5_isBetter 23 = .ok (.getfield 142, 3) := by decide +kernel
theorem dX5_isBetter_26 : decode cX5_isBetter 26 = .ok (.iconst 1, 1) := by decide +kernel
theorem dX5_isBetter_27 : decode cX5_isBetter 27 = .ok (.isub, 1) := by decide +kernel
theorem dX5_isBetter_28 : decode cX5_isBetter 28 = .ok (.iaload, 1) := by decide +kernel
theorem dX5_isBetter_29 : decode cX5_isBetter 29 = .ok (.istore_n 3, 1) := by decide +kernel
theorem dX5_isBetter_30 : decode cX5_isBetter 30 = .ok (.iload_n 2, 1) := by decide +kernel
theorem dX5_isBetter_31 : decode cX5_isBetter 31 = .ok (.iload_n 3, 1) := by decide +kernel
theorem dX5_isBetter_32 : decode cX5_isBetter 32 = .ok (.if_icmp .eq 14, 3) := by decide +kernel
theorem dX5_isBetter_35 : decode cX5_isBetter 35 = .ok (.iload_n 2, 1) := by decide +kernel
theorem dX5_isBetter_36 : decode cX5_isBetter 36 = .ok (.iload_n 3, 1) := by decide +kernel
theorem dX5_isBetter_37 : decode cX5_isBetter 37 = .ok (.if_icmp .ge 7, 3) := by decide +kernel
theorem dX5_isBetter_40 : decode cX5_isBetter 40 = .ok (.iconst 1, 1) := by decide +kernel
theorem dX5_isBetter_41 : decode cX5_isBetter 41 = .ok (.goto 4, 3) := by decide +kernel
theorem dX5_isBetter_44 : decode cX5_isBetter 44 = .ok (.iconst 0, 1) := by decide +kernel
theorem dX5_isBetter_45 : decode cX5_isBetter 45 = .ok (.ireturn, 1) := by decide +kernel
theorem dX5_isBetter_46 : decode cX5_isBetter 46 = .ok (.iload_n 1, 1) := by decide +kernel
theorem dX5_isBetter_47 : decode cX5_isBetter 47 = .ok (.aload_n 0, 1) := by decide +kernel
theorem dX5_isBetter_48 : decode cX5_isBetter 48 = .ok (.getfield 142, 3) := by decide +kernel
theorem dX5_isBetter_51 : decode cX5_isBetter 51 = .ok (.if_icmp .eq 17, 3) := by decide +kernel
theorem dX5_isBetter_54 : decode cX5_isBetter 54 = .ok (.iload_n 1, 1) := by decide +kernel
theorem dX5_isBetter_55 : decode cX5_isBetter 55 = .ok (.aload_n 0, 1) := by decide +kernel
theorem dX5_isBetter_56 : decode cX5_isBetter 56 = .ok (.getfield 142, 3) := by decide +kernel
theorem dX5_isBetter_59 : decode cX5_isBetter 59 = .ok (.if_icmp .ge 7, 3) := by decide +kernel
theorem dX5_isBetter_62 : decode cX5_isBetter 62 = .ok (.iconst 1, 1) := by decide +kernel
theorem dX5_isBetter_63 : decode cX5_isBetter 63 = .ok (.goto 4, 3) := by decide +kernel
theorem dX5_isBetter_66 : decode cX5_isBetter 66 = .ok (.iconst 0, 1) := by decide +kernel
theorem dX5_isBetter_67 : decode cX5_isBetter 67 = .ok (.ireturn, 1) := by decide +kernel
theorem dX5_isBetter_68 : decode cX5_isBetter 68 = .ok (.iconst 0, 1) := by decide +kernel
theorem dX5_isBetter_69 : decode cX5_isBetter 69 = .ok (.istore 4, 2) := by decide +kernel
theorem dX5_isBetter_71 : decode cX5_isBetter 71 = .ok (.iload 4, 2) := by decide +kernel
theorem dX5_isBetter_73 : decode cX5_isBetter 73 = .ok (.iload_n 1, 1) := by decide +kernel
theorem dX5_isBetter_74 : decode cX5_isBetter 74 = .ok (.if_icmp .ge 89, 3) := by decide +kernel
theorem dX5_isBetter_77 : decode cX5_isBetter 77 = .ok (.aload_n 0, 1) := by decide +kernel
theorem dX5_isBetter_78 : decode cX5_isBetter 78 = .ok (.getfield 78, 3) := by decide +kernel
theorem dX5_isBetter_81 : decode cX5_isBetter 81 = .ok (.iload 4, 2) := by decide +kernel
theorem dX5_isBetter_83 : decode cX5_isBetter 83 = .ok (.iaload, 1) := by decide +kernel
theorem dX5_isBetter_84 : decode cX5_isBetter 84 = .ok (.aload_n 0, 1) := by decide +kernel
theorem dX5_isBetter_85 : decode cX5_isBetter 85 = .ok (.getfield 90, 3) := by decide +kernel
theorem dX5_isBetter_88 : decode cX5_isBetter 88 = .ok (.iload 4, 2) := by decide +kernel
theorem dX5_isBetter_90 : decode cX5_isBetter 90 = .ok (.iaload, 1) := by decide +kernel
theorem dX5_isBetter_91 : decode cX5_isBetter 91 = .ok (.if_icmp .eq 26, 3) := by decide +kernel
theorem dX5_isBetter_94 : decode cX5_isBetter 94 = .ok (.aload_n 0, 1) := by decide +kernel
theorem dX5_isBetter_95 : decode cX5_isBetter 95 = .ok (.getfield 78, 3) := by decide +kernel
theorem dX5_isBetter_98 : decode cX5_isBetter 98 = .ok (.iload 4, 2) := by decide +kernel
theorem dX5_isBetter_100 : decode cX5_isBetter 100 = .ok (.iaload, 1) := by decide +kernel
theorem dX5_isBetter_101 : decode cX5_isBetter 101 = .ok (.aload_n 0, 1) := by decide +kernel
theorem dX5_isBetter_102 : decode cX5_isBetter 102 = .ok (.getfield 90, 3) := by decide +kernel
theorem dX5_isBetter_105 : decode cX5_isBetter 105 = .ok (.iload 4, 2) := by decide +kernel
theorem dX5_isBetter_107 : decode cX5_isBetter 107 = .ok (.iaload, 1) := by decide +kernel
theorem dX5_isBetter_108 : decode cX5_isBetter 108 = .ok (.if_icmp .ge 7, 3) := by decide +kernel
theorem dX5_isBetter_111 : decode cX5_isBetter 111 = .ok (.iconst 1, 1) := by decide +kernel
theorem dX5_isBetter_112 : decode cX5_isBetter 112 = .ok (.goto 4, 3) := by decide +kernel
theorem dX5_isBetter_115 : decode cX5_isBetter 115 = .ok (.iconst 0, 1) := by decide +kernel
theorem dX5_isBetter_116 : decode cX5_isBetter 116 = .ok (.ireturn, 1) := by decide +kernel
theorem dX5_isBetter_117 : decode cX5_isBetter 117 = .ok (.aload_n 0, 1) := by decide +kernel
theorem dX5_isBetter_118 : decode cX5_isBetter 118 = .ok (.getfield 81, 3) := by decide +kernel
theorem dX5_isBetter_121 : decode cX5_isBetter 121 = .ok (.iload 4, 2) := by decide +kernel
theorem dX5_isBetter_123 : decode cX5_isBetter 123 = .ok (.iaload, 1) := by decide +kernel
theorem dX5_isBetter_124 : decode cX5_isBetter 124 = .ok (.aload_n 0, 1) := by decide +kernel
theorem dX5_isBetter_125 : decode cX5_isBetter 125 = .ok (.getfield 93, 3) := by decide +kernel
theorem dX5_isBetter_128 : decode cX5_isBetter 128 = .ok (.iload 4, 2) := by decide +kernel
theorem dX5_isBetter_130 : decode cX5_isBetter 130 = .ok (.iaload, 1) := by decide +kernel
theorem dX5_isBetter_131 : decode cX5_isBetter 131 = .ok (.if_icmp .eq 26, 3) := by decide +kernel
theorem dX5_isBetter_134 : decode cX5_isBetter 134 = .ok (.aload_n 0, 1) := by decide +kernel
theorem dX5_isBetter_135 : decode cX5_isBetter 135 = .ok (.getfield 81, 3) := by decide +kernel
theorem dX5_isBetter_138 : decode cX5_isBetter 138 = .ok (.iload 4, 2) := by decide +kernel
theorem dX5_isBetter_140 : decode cX5_isBetter 140 = .ok (.iaload, 1) := by decide +kernel
theorem dX5_isBetter_141 : decode cX5_isBetter 141 = .ok (.aload_n 0, 1) := by decide +kernel
theorem dX5_isBetter_142 : decode cX5_isBetter 142 = .ok (.getfield 93, 3) := by decide +kernel
theorem dX5_isBetter_145 : decode cX5_isBetter 145 = .ok (.iload 4, 2) := by decide +kernel
theorem dX5_isBetter_147 : decode cX5_isBetter 147 = .ok (.iaload, 1) := by decide +kernel
theorem dX5_isBetter_148 : decode cX5_isBetter 148 = .ok (.if_icmp .ge 7, 3) := by decide +kernel
theorem dX5_isBetter_151 : decode cX5_isBetter 151 = .ok (.iconst 1, 1) := by decide +kernel
theorem dX5_isBetter_152 : decode cX5_isBetter 152 = .ok (.goto 4, 3) := by decide +kernel
theorem dX5_isBetter_155 : decode cX5_isBetter 155 = .ok (.iconst 0, 1) := by decide +kernel
theorem dX5_isBetter_156 : decode cX5_isBetter 156 = .ok (.ireturn, 1) := by decide +kernel
theorem dX5_isBetter_157 : decode cX5_isBetter 157 = .ok (.iinc 4 1, 3) := by decide +kernel
theorem dX5_isBetter_160 : decode cX5_isBetter 160 = .ok (.goto (-89), 3) := by decide +kernel
theorem dX5_isBetter_163 : decode cX5_isBetter 163 = .ok (.iconst 0, 1) := by decide +kernel
theorem dX5_isBetter_164 : decode cX5_isBetter 164 = .ok (.ireturn, 1) := by decide +kernel
theorem dX5_tryLeg_0 : decode cX5_tryLeg 0 = .ok (.iconst 0, 1) := by decide +kernel
theorem dX5_tryLeg_1 : decode cX5_tryLeg 1 = .ok (.istore 7, 2) := by decide +kernel
theorem dX5_tryLeg_3 : decode cX5_tryLeg 3 = .ok (.iload 7, 2) := by decide +kernel
theorem dX5_tryLeg_5 : decode cX5_tryLeg 5 = .ok (.aload_n 0, 1) := by decide +kernel
theorem dX5_tryLeg_6 : decode cX5_tryLeg 6 = .ok (.getfield 112, 3) := by decide +kernel
theorem dX5_tryLeg_9 : decode cX5_tryLeg 9 = .ok (.if_icmp .ge 387, 3) := by decide +kernel
theorem dX5_tryLeg_12 : decode cX5_tryLeg 12 = .ok (.iconst 1, 1) := by decide +kernel
theorem dX5_tryLeg_13 : decode cX5_tryLeg 13 = .ok (.istore 8, 2) := by decide +kernel
theorem dX5_tryLeg_15 : decode cX5_tryLeg 15 = .ok (.iconst 0, 1) := by decide +kernel
theorem dX5_tryLeg_16 : decode cX5_tryLeg 16 = .ok (.istore 9, 2) := by decide +kernel
theorem dX5_tryLeg_18 : decode cX5_tryLeg 18 = .ok (.iload 9, 2) := by decide +kernel
theorem dX5_tryLeg_20 : decode cX5_tryLeg 20 = .ok (.iload_n 1, 1) := by decide +kernel
theorem dX5_tryLeg_21 : decode cX5_tryLeg 21 = .ok (.if_icmp .ge 33, 3) := by decide +kernel
theorem dX5_tryLeg_24 : decode cX5_tryLeg 24 = .ok (.iload 8, 2) := by decide +kernel
theorem dX5_tryLeg_26 : decode cX5_tryLeg 26 = .ok (.ifCond .eq 19, 3) := by decide +kernel
theorem dX5_tryLeg_29 : decode cX5_tryLeg 29 = .ok (.aload_n 0, 1) := by decide +kernel
theorem dX5_tryLeg_30 : decode cX5_tryLeg 30 = .ok (.getfield 78, 3) := by decide +kernel
theorem dX5_tryLeg_33 : decode cX5_tryLeg 33 = .ok (.iload 9, 2) := by decide +kernel
theorem dX5_tryLeg_35 : decode cX5_tryLeg 35 = .ok (.iaload, 1) := by decide +kernel
theorem dX5_tryLeg_36 : decode cX5_tryLeg 36 = .ok (.iload 7, 2) := by decide +kernel
theorem dX5_tryLeg_38 : decode cX5_tryLeg 38 = .ok (.if_icmp .eq 7, 3) := by decide +kernel
theorem dX5_tryLeg_41 : decode cX5_tryLeg 41 = .ok (.iconst 1, 1) := by decide +kernel
theorem dX5_tryLeg_42 : decode cX5_tryLeg 42 = .ok (.goto 4, 3) := by decide +kernel
theorem dX5_tryLeg_45 : decode cX5_tryLeg 45 = .ok (.iconst 0, 1) := by decide +kernel
theorem dX5_tryLeg_46 : decode cX5_tryLeg 46 = .ok (.istore 8, 2) := by decide +kernel
theorem dX5_tryLeg_48 : decode cX5_tryLeg 48 = .ok (.iinc 9 1, 3) := by decide +kernel
theorem dX5_tryLeg_51 : decode cX5_tryLeg 51 = .ok (.goto (-33), 3) := by decide +kernel
theorem dX5_tryLeg_54 : decode cX5_tryLeg 54 = .ok (.iload 8, 2) := by decide +kernel
theorem dX5_tryLeg_56 : decode cX5_tryLeg 56 = .ok (.ifCond .eq 334, 3) := by decide +kernel
theorem dX5_tryLeg_59 : decode cX5_tryLeg 59 = .ok (.aload_n 0, 1) := by decide +kernel
theorem dX5_tryLeg_60 : decode cX5_tryLeg 60 = .ok (.iload 7, 2) := by decide +kernel
theorem dX5_tryLeg_62 : decode cX5_tryLeg 62 = .ok (.iload_n 2, 1) := by decide +kernel
theorem dX5_tryLeg_63 : decode cX5_tryLeg 63 = .ok (.invokevirtual 134, 3) := by decide +kernel
theorem dX5_tryLeg_66 : decode cX5_tryLeg 66 = .ok (.ifCond .ne 6, 3) := by decide +kernel
theorem dX5_tryLeg_69 : decode cX5_tryLeg 69 = .ok (.goto 321, 3) := by decide +kernel
theorem dX5_tryLeg_72 : decode cX5_tryLeg 72 = .ok (.aload_n 0, 1) := by decide +kernel
theorem dX5_tryLeg_73 : decode cX5_tryLeg 73 = .ok (.iload 7, 2) := by decide +kernel
theorem dX5_tryLeg_75 : decode cX5_tryLeg 75 = .ok (.aload_n 0, 1) := by decide +kernel
theorem dX5_tryLeg_76 : decode cX5_tryLeg 76 = .ok (.getfield 28, 3) := by decide +kernel
theorem dX5_tryLeg_79 : decode cX5_tryLeg 79 = .ok (.iload 7, 2) := by decide +kernel
theorem dX5_tryLeg_81 : decode cX5_tryLeg 81 = .ok (.iaload, 1) := by decide +kernel
theorem dX5_tryLeg_82 : decode cX5_tryLeg 82 = .ok (.iload_n 3, 1) := by decide +kernel
theorem dX5_tryLeg_83 : decode cX5_tryLeg 83 = .ok (.invokevirtual 126, 3) := by decide +kernel
theorem dX5_tryLeg_86 : decode cX5_tryLeg 86 = .ok (.istore 9, 2) := by decide +kernel
theorem dX5_tryLeg_88 : decode cX5_tryLeg 88 = .ok (.iload 9, 2) := by decide +kernel
theorem dX5_tryLeg_90 : decode cX5_tryLeg 90 = .ok (.ldc 122, 2) := by decide +kernel
theorem dX5_tryLeg_92 : decode cX5_tryLeg 92 = .ok (.if_icmp .ne 6, 3) := by decide +kernel
theorem dX5_tryLeg_95 : decode cX5_tryLeg 95 = .ok (.goto 295, 3) := by decide +kernel
theorem dX5_tryLeg_98 : decode cX5_tryLeg 98 = .ok (.iload 4, 2) := by decide +kernel
theorem dX5_tryLeg_100 : decode cX5_tryLeg 100 = .ok (.aload_n 0, 1) := by decide +kernel
theorem dX5_tryLeg_101 : decode cX5_tryLeg 101 = .ok (.getfield 31, 3) := by decide +kernel
theorem dX5_tryLeg_104 : decode cX5_tryLeg 104 = .ok (.iload 7, 2) := by decide +kernel
theorem dX5_tryLeg_106 : decode cX5_tryLeg 106 = .ok (.iaload, 1) := by decide +kernel
theorem dX5_tryLeg_107 : decode cX5_tryLeg 107 = .ok (.aload_n 0, 1) := by decide +kernel
theorem dX5_tryLeg_108 : decode cX5_tryLeg 108 = .ok (.getfield 19, 3) := by decide +kernel
theorem dX5_tryLeg_111 : decode cX5_tryLeg 111 = .ok (.iload 7, 2) := by decide +kernel
theorem dX5_tryLeg_113 : decode cX5_tryLeg 113 = .ok (.iaload, 1) := by decide +kernel
theorem dX5_tryLeg_114 : decode cX5_tryLeg 114 = .ok (.invokestatic 145, 3) := by decide +kernel
theorem dX5_tryLeg_117 : decode cX5_tryLeg 117 = .ok (.iload 9, 2) := by decide +kernel
theorem dX5_tryLeg_119 : decode cX5_tryLeg 119 = .ok (.iadd, 1) := by decide +kernel
theorem dX5_tryLeg_120 : decode cX5_tryLeg 120 = .ok (.invokestatic 145, 3) := by decide +kernel
theorem dX5_tryLeg_123 : decode cX5_tryLeg 123 = .ok (.istore 10, 2) := by decide +kernel
theorem dX5_tryLeg_125 : decode cX5_tryLeg 125 = .ok (.iload_n 1, 1) := by decide +kernel
theorem dX5_tryLeg_126 : decode cX5_tryLeg 126 = .ok (.ifCond .le 24, 3) := by decide +kernel
theorem dX5_tryLeg_129 : decode cX5_tryLeg 129 = .ok (.iload 10, 2) := by decide +kernel
theorem dX5_tryLeg_131 : decode cX5_tryLeg 131 = .ok (.aload_n 0, 1) := by decide +kernel
theorem dX5_tryLeg_132 : decode cX5_tryLeg 132 = .ok (.getfield 22, 3) := by decide +kernel
theorem dX5_tryLeg_135 : decode cX5_tryLeg 135 = .ok (.aload_n 0, 1) := by decide +kernel
theorem dX5_tryLeg_136 : decode cX5_tryLeg 136 = .ok (.getfield 78, 3) := by decide +kernel
theorem dX5_tryLeg_139 : decode cX5_tryLeg 139 = .ok (.iload_n 1, 1) := by decide +kernel
theorem dX5_tryLeg_140 : decode cX5_tryLeg 140 = .ok (.iconst 1, 1) := by decide +kernel
theorem dX5_tryLeg_141 : decode cX5_tryLeg 141 = .ok (.isub, 1) := by decide +kernel
theorem dX5_tryLeg_142 : decode cX5_tryLeg 142 = .ok (.iaload, 1) := by decide +kernel
theorem dX5_tryLeg_143 : decode cX5_tryLeg 143 = .ok (.iaload, 1) := by decide +kernel
theorem dX5_tryLeg_144 : decode cX5_tryLeg 144 = .ok (.if_icmp .le 6, 3) := by decide +kernel
theorem dX5_tryLeg_147 : decode cX5_tryLeg 147 = .ok (.goto 243, 3) := by decide +kernel
theorem dX5_tryLeg_150 : decode cX5_tryLeg 150 = .ok (.iconst 0, 1) := by decide +kernel
theorem dX5_tryLeg_151 : decode cX5_tryLeg 151 = .ok (.istore 11, 2) := by decide +kernel
theorem dX5_tryLeg_153 : decode cX5_tryLeg 153 = .ok (.iload 11, 2) := by decide +kernel
theorem dX5_tryLeg_155 : decode cX5_tryLeg 155 = .ok (.aload_n 0, 1) := by decide +kernel
theorem dX5_tryLeg_156 : decode cX5_tryLeg 156 = .ok (.getfield 105, 3) := by decide +kernel
theorem dX5_tryLeg_159 : decode cX5_tryLeg 159 = .ok (.if_icmp .ge 231, 3) := by decide +kernel
theorem dX5_tryLeg_162 : decode cX5_tryLeg 162 = .ok (.iload 6, 2) := by decide +kernel
theorem dX5_tryLeg_164 : decode cX5_tryLeg 164 = .ok (.iload 11, 2) := by decide +kernel
theorem dX5_tryLeg_166 : decode cX5_tryLeg 166 = .ok (.ishr, 1) := by decide +kernel
theorem dX5_tryLeg_167 : decode cX5_tryLeg 167 = .ok (.iconst 1, 1) := by decide +kernel
theorem dX5_tryLeg_168 : decode cX5_tryLeg 168 = .ok (.iand, 1) := by decide +kernel
theorem dX5_tryLeg_169 : decode cX5_tryLeg 169 = .ok (.iconst 1, 1) := by decide +kernel
theorem dX5_tryLeg_170 : decode cX5_tryLeg 170 = .ok (.if_icmp .eq 214, 3) := by decide +kernel
theorem dX5_tryLeg_173 : decode cX5_tryLeg 173 = .ok (.iload 11, 2) := by decide +kernel
theorem dX5_tryLeg_175 : decode cX5_tryLeg 175 = .ok (.iload 5, 2) := by decide +kernel
theorem dX5_tryLeg_177 : decode cX5_tryLeg 177 = .ok (.if_icmp .eq 11, 3) := by decide +kernel
theorem dX5_tryLeg_180 : decode cX5_tryLeg 180 = .ok (.iload_n 1, 1) := by decide +kernel
theorem dX5_tryLeg_181 : decode cX5_tryLeg 181 = .ok (.iconst 2, 1) := by decide +kernel
theorem dX5_tryLeg_182 : decode cX5_tryLeg 182 = .ok (.if_icmp .ne 6, 3) := by decide +kernel
theorem dX5_tryLeg_185 : decode cX5_tryLeg 185 = .ok (.goto 199, 3) := by decide +kernel
theorem dX5_tryLeg_188 : decode cX5_tryLeg 188 = .ok (.aload_n 0, 1) := by decide +kernel
theorem dX5_tryLeg_189 : decode cX5_tryLeg 189 = .ok (.iload 7, 2) := by decide +kernel
theorem dX5_tryLeg_191 : decode cX5_tryLeg 191 = .ok (.iload_n 3, 1) := by decide +kernel
theorem dX5_tryLeg_192 : decode cX5_tryLeg 192 = .ok (.iload 11, 2) := by decide +kernel
theorem dX5_tryLeg_194 : decode cX5_tryLeg 194 = .ok (.invokevirtual 126, 3) := by decide +kernel
theorem dX5_tryLeg_197 : decode cX5_tryLeg 197 = .ok (.istore 12, 2) := by decide +kernel
theorem dX5_tryLeg_199 : decode cX5_tryLeg 199 = .ok (.iload 12, 2) := by decide +kernel
theorem dX5_tryLeg_201 : decode cX5_tryLeg 201 = .ok (.ldc 122, 2) := by decide +kernel
theorem dX5_tryLeg_203 : decode cX5_tryLeg 203 = .ok (.if_icmp .eq 181, 3) := by decide +kernel
theorem dX5_tryLeg_206 : decode cX5_tryLeg 206 = .ok (.iload 10, 2) := by decide +kernel
theorem dX5_tryLeg_208 : decode cX5_tryLeg 208 = .ok (.iload 12, 2) := by decide +kernel
theorem dX5_tryLeg_210 : decode cX5_tryLeg 210 = .ok (.iadd, 1) := by decide +kernel
theorem dX5_tryLeg_211 : decode cX5_tryLeg 211 = .ok (.aload_n 0, 1) := by decide +kernel
theorem dX5_tryLeg_212 : decode cX5_tryLeg 212 = .ok (.getfield 22, 3) := by decide +kernel
theorem dX5_tryLeg_215 : decode cX5_tryLeg 215 = .ok (.iload 7, 2) := by decide +kernel
theorem dX5_tryLeg_217 : decode cX5_tryLeg 217 = .ok (.iaload, 1) := by decide +kernel
theorem dX5_tryLeg_218 : decode cX5_tryLeg 218 = .ok (.if_icmp .le 6, 3) := by decide +kernel
theorem dX5_tryLeg_221 : decode cX5_tryLeg 221 = .ok (.goto 163, 3) := by decide +kernel
theorem dX5_tryLeg_224 : decode cX5_tryLeg 224 = .ok (.aload_n 0, 1) := by decide +kernel
theorem dX5_tryLeg_225 : decode cX5_tryLeg 225 = .ok (.getfield 78, 3) := by decide +kernel
theorem dX5_tryLeg_228 : decode cX5_tryLeg 228 = .ok (.iload_n 1, 1) := by decide +kernel
theorem dX5_tryLeg_229 : decode cX5_tryLeg 229 = .ok (.iload 7, 2) := by decide +kernel
theorem dX5_tryLeg_231 : decode cX5_tryLeg 231 = .ok (.iastore, 1) := by decide +kernel
theorem dX5_tryLeg_232 : decode cX5_tryLeg 232 = .ok (.aload_n 0, 1) := by decide +kernel
theorem dX5_tryLeg_233 : decode cX5_tryLeg 233 = .ok (.getfield 81, 3) := by decide +kernel
theorem dX5_tryLeg_236 : decode cX5_tryLeg 236 = .ok (.iload_n 1, 1) := by decide +kernel
theorem dX5_tryLeg_237 : decode cX5_tryLeg 237 = .ok (.iload 11, 2) := by decide +kernel
theorem dX5_tryLeg_239 : decode cX5_tryLeg 239 = .ok (.iastore, 1) := by decide +kernel
theorem dX5_tryLeg_240 : decode cX5_tryLeg 240 = .ok (.aload_n 0, 1) := by decide +kernel
theorem dX5_tryLeg_241 : decode cX5_tryLeg 241 = .ok (.getfield 84, 3) := by decide +kernel
theorem dX5_tryLeg_244 : decode cX5_tryLeg 244 = .ok (.iload_n 1, 1) := by decide +kernel
theorem dX5_tryLeg_245 : decode cX5_tryLeg 245 = .ok (.iload 10, 2) := by decide +kernel
theorem dX5_tryLeg_247 : decode cX5_tryLeg 247 = .ok (.iastore, 1) := by decide +kernel
theorem dX5_tryLeg_248 : decode cX5_tryLeg 248 = .ok (.aload_n 0, 1) := by decide +kernel
theorem dX5_tryLeg_249 : decode cX5_tryLeg 249 = .ok (.getfield 87, 3) := by decide +kernel
theorem dX5_tryLeg_252 : decode cX5_tryLeg 252 = .ok (.iload_n 1, 1) := by decide +kernel
theorem dX5_tryLeg_253 : decode cX5_tryLeg 253 = .ok (.iload 10, 2) := by decide +kernel
theorem dX5_tryLeg_255 : decode cX5_tryLeg 255 = .ok (.iload 12, 2) := by decide +kernel
theorem dX5_tryLeg_257 : decode cX5_tryLeg 257 = .ok (.iadd, 1) := by decide +kernel
theorem dX5_tryLeg_258 : decode cX5_tryLeg 258 = .ok (.iastore, 1) := by decide +kernel
theorem dX5_tryLeg_259 : decode cX5_tryLeg 259 = .ok (.iload 11, 2) := by decide +kernel
theorem dX5_tryLeg_261 : decode cX5_tryLeg 261 = .ok (.iload 5, 2) := by decide +kernel
theorem dX5_tryLeg_263 : decode cX5_tryLeg 263 = .ok (.if_icmp .eq 30, 3) := by decide +kernel
theorem dX5_tryLeg_266 : decode cX5_tryLeg 266 = .ok (.aload_n 0, 1) := by decide +kernel
theorem dX5_tryLeg_267 : decode cX5_tryLeg 267 = .ok (.iload_n 1, 1) := by decide +kernel
theorem dX5_tryLeg_268 : decode cX5_tryLeg 268 = .ok (.iconst 1, 1) := by decide +kernel
theorem dX5_tryLeg_269 : decode cX5_tryLeg 269 = .ok (.iadd, 1) := by decide +kernel
theorem dX5_tryLeg_270 : decode cX5_tryLeg 270 = .ok (.iload_n 2, 1) := by decide +kernel
theorem dX5_tryLeg_271 : decode cX5_tryLeg 271 = .ok (.iload 11, 2) := by decide +kernel
theorem dX5_tryLeg_273 : decode cX5_tryLeg 273 = .ok (.iload 10, 2) := by decide +kernel
theorem dX5_tryLeg_275 : decode cX5_tryLeg 275 = .ok (.iload 12, 2) := by decide +kernel
theorem dX5_tryLeg_277 : decode cX5_tryLeg 277 = .ok (.iadd, 1) := by decide +kernel
theorem dX5_tryLeg_278 : decode cX5_tryLeg 278 = .ok (.iload 5, 2) := by decide +kernel
theorem dX5_tryLeg_280 : decode cX5_tryLeg 280 = .ok (.iload 6, 2) := by decide +kernel
theorem dX5_tryLeg_282 : decode cX5_tryLeg 282 = .ok (.iconst 1, 1) := by decide +kernel
theorem dX5_tryLeg_283 : decode cX5_tryLeg 283 = .ok (.iload 11, 2) := by decide +kernel
theorem dX5_tryLeg_285 : decode cX5_tryLeg 285 = .ok (.ishl, 1) := by decide +kernel
theorem dX5_tryLeg_286 : decode cX5_tryLeg 286 = .ok (.ior, 1) := by decide +kernel
theorem dX5_tryLeg_287 : decode cX5_tryLeg 287 = .ok (.invokevirtual 150, 3) := by decide +kernel
theorem dX5_tryLeg_290 : decode cX5_tryLeg 290 = .ok (.goto 94, 3) := by decide +kernel
theorem dX5_tryLeg_293 : decode cX5_tryLeg 293 = .ok (.aload_n 0, 1) := by decide +kernel
theorem dX5_tryLeg_294 : decode cX5_tryLeg 294 = .ok (.iload_n 1, 1) := by decide +kernel
theorem dX5_tryLeg_295 : decode cX5_tryLeg 295 = .ok (.iconst 1, 1) := by decide +kernel
end
section
theorem dX5_tryLeg_296 : decode cX5_tryLeg 296 = .ok (.iadd, 1) := by decide +kernel
theorem dX5_tryLeg_297 : decode cX5_tryLeg 297 = .ok (.invokevirtual 154, 3) := by decide +kernel
theorem dX5_tryLeg_300 : decode cX5_tryLeg 300 = .ok (.ifCond .ne 6, 3) := by decide +kernel
theorem dX5_tryLeg_303 : decode cX5_tryLeg 303 = .ok (.goto 81, 3) := by decide +kernel
theorem dX5_tryLeg_306 : decode cX5_tryLeg 306 = .ok (.aload_n 0, 1) := by decide +kernel
theorem dX5_tryLeg_307 : decode cX5_tryLeg 307 = .ok (.iload_n 1, 1) := by decide +kernel
theorem dX5_tryLeg_308 : decode cX5_tryLeg 308 = .ok (.iconst 1, 1) := by decide +kernel
theorem dX5_tryLeg_309 : decode cX5_tryLeg 309 = .ok (.iadd, 1) := by decide +kernel
theorem dX5_tryLeg_310 : decode cX5_tryLeg 310 = .ok (.putfield 142, 3) := by decide +kernel
theorem dX5_tryLeg_313 : decode cX5_tryLeg 313 = .ok (.iconst 0, 1) := by decide +kernel
theorem dX5_tryLeg_314 : decode cX5_tryLeg 314 = .ok (.istore 13, 2) := by decide +kernel
theorem dX5_tryLeg_316 : decode cX5_tryLeg 316 = .ok (.iload 13, 2) := by decide +kernel
theorem dX5_tryLeg_318 : decode cX5_tryLeg 318 = .ok (.iload_n 1, 1) := by decide +kernel
theorem dX5_tryLeg_319 : decode cX5_tryLeg 319 = .ok (.if_icmp .gt 65, 3) := by decide +kernel
theorem dX5_tryLeg_322 : decode cX5_tryLeg 322 = .ok (.aload_n 0, 1) := by decide +kernel
theorem dX5_tryLeg_323 : decode cX5_tryLeg 323 = .ok (.getfield 90, 3) := by decide +kernel
theorem dX5_tryLeg_326 : decode cX5_tryLeg 326 = .ok (.iload 13, 2) := by decide +kernel
theorem dX5_tryLeg_328 : decode cX5_tryLeg 328 = .ok (.aload_n 0, 1) := by decide +kernel
theorem dX5_tryLeg_329 : decode cX5_tryLeg 329 = .ok (.getfield 78, 3) := by decide +kernel
theorem dX5_tryLeg_332 : decode cX5_tryLeg 332 = .ok (.iload 13, 2) := by decide +kernel
theorem dX5_tryLeg_334 : decode cX5_tryLeg 334 = .ok (.iaload, 1) := by decide +kernel
theorem dX5_tryLeg_335 : decode cX5_tryLeg 335 = .ok (.iastore, 1) := by decide +kernel
theorem dX5_tryLeg_336 : decode cX5_tryLeg 336 = .ok (.aload_n 0, 1) := by decide +kernel
theorem dX5_tryLeg_337 : decode cX5_tryLeg 337 = .ok (.getfield 93, 3) := by decide +kernel
theorem dX5_tryLeg_340 : decode cX5_tryLeg 340 = .ok (.iload 13, 2) := by decide +kernel
theorem dX5_tryLeg_342 : decode cX5_tryLeg 342 = .ok (.aload_n 0, 1) := by decide +kernel
theorem dX5_tryLeg_343 : decode cX5_tryLeg 343 = .ok (.getfield 81, 3) := by decide +kernel
theorem dX5_tryLeg_346 : decode cX5_tryLeg 346 = .ok (.iload 13, 2) := by decide +kernel
theorem dX5_tryLeg_348 : decode cX5_tryLeg 348 = .ok (.iaload, 1) := by decide +kernel
theorem dX5_tryLeg_349 : decode cX5_tryLeg 349 = .ok (.iastore, 1) := by decide +kernel
theorem dX5_tryLeg_350 : decode cX5_tryLeg 350 = .ok (.aload_n 0, 1) := by decide +kernel
theorem dX5_tryLeg_351 : decode cX5_tryLeg 351 = .ok (.getfield 96, 3) := by decide +kernel
theorem dX5_tryLeg_354 : decode cX5_tryLeg 354 = .ok (.iload 13, 2) := by decide +kernel
theorem dX5_tryLeg_356 : decode cX5_tryLeg 356 = .ok (.aload_n 0, 1) := by decide +kernel
theorem dX5_tryLeg_357 : decode cX5_tryLeg 357 = .ok (.getfield 84, 3) := by decide +kernel
theorem dX5_tryLeg_360 : decode cX5_tryLeg 360 = .ok (.iload 13, 2) := by decide +kernel
theorem dX5_tryLeg_362 : decode cX5_tryLeg 362 = .ok (.iaload, 1) := by decide +kernel
theorem dX5_tryLeg_363 : decode cX5_tryLeg 363 = .ok (.iastore, 1) := by decide +kernel
theorem dX5_tryLeg_364 : decode cX5_tryLeg 364 = .ok (.aload_n 0, 1) := by decide +kernel
theorem dX5_tryLeg_365 : decode cX5_tryLeg 365 = .ok (.getfield 99, 3) := by decide +kernel
theorem dX5_tryLeg_368 : decode cX5_tryLeg 368 = .ok (.iload 13, 2) := by decide +kernel
theorem dX5_tryLeg_370 : decode cX5_tryLeg 370 = .ok (.aload_n 0, 1) := by decide +kernel
theorem dX5_tryLeg_371 : decode cX5_tryLeg 371 = .ok (.getfield 87, 3) := by decide +kernel
theorem dX5_tryLeg_374 : decode cX5_tryLeg 374 = .ok (.iload 13, 2) := by decide +kernel
theorem dX5_tryLeg_376 : decode cX5_tryLeg 376 = .ok (.iaload, 1) := by decide +kernel
theorem dX5_tryLeg_377 : decode cX5_tryLeg 377 = .ok (.iastore, 1) := by decide +kernel
theorem dX5_tryLeg_378 : decode cX5_tryLeg 378 = .ok (.iinc 13 1, 3) := by decide +kernel
theorem dX5_tryLeg_381 : decode cX5_tryLeg 381 = .ok (.goto (-65), 3) := by decide +kernel
theorem dX5_tryLeg_384 : decode cX5_tryLeg 384 = .ok (.iinc 11 1, 3) := by decide +kernel
theorem dX5_tryLeg_387 : decode cX5_tryLeg 387 = .ok (.goto (-234), 3) := by decide +kernel
theorem dX5_tryLeg_390 : decode cX5_tryLeg 390 = .ok (.iinc 7 1, 3) := by decide +kernel
theorem dX5_tryLeg_393 : decode cX5_tryLeg 393 = .ok (.goto (-390), 3) := by decide +kernel
theorem dX5_tryLeg_396 : decode cX5_tryLeg 396 = .ok (.return_, 1) := by decide +kernel
theorem dX5_findBest_0 : decode cX5_findBest 0 = .ok (.aload_n 0, 1) := by decide +kernel
theorem dX5_findBest_1 : decode cX5_findBest 1 = .ok (.iconst 0, 1) := by decide +kernel
theorem dX5_findBest_2 : decode cX5_findBest 2 = .ok (.putfield 142, 3) := by decide +kernel
theorem dX5_findBest_5 : decode cX5_findBest 5 = .ok (.aload_n 0, 1) := by decide +kernel
theorem dX5_findBest_6 : decode cX5_findBest 6 = .ok (.iconst 0, 1) := by decide +kernel
theorem dX5_findBest_7 : decode cX5_findBest 7 = .ok (.iload_n 1, 1) := by decide +kernel
theorem dX5_findBest_8 : decode cX5_findBest 8 = .ok (.iload_n 2, 1) := by decide +kernel
theorem dX5_findBest_9 : decode cX5_findBest 9 = .ok (.iload_n 3, 1) := by decide +kernel
theorem dX5_findBest_10 : decode cX5_findBest 10 = .ok (.iload 4, 2) := by decide +kernel
theorem dX5_findBest_12 : decode cX5_findBest 12 = .ok (.iconst 1, 1) := by decide +kernel
theorem dX5_findBest_13 : decode cX5_findBest 13 = .ok (.iload_n 2, 1) := by decide +kernel
theorem dX5_findBest_14 : decode cX5_findBest 14 = .ok (.ishl, 1) := by decide +kernel
theorem dX5_findBest_15 : decode cX5_findBest 15 = .ok (.invokevirtual 150, 3) := by decide +kernel
theorem dX5_findBest_18 : decode cX5_findBest 18 = .ok (.aload_n 0, 1) := by decide +kernel
theorem dX5_findBest_19 : decode cX5_findBest 19 = .ok (.getfield 142, 3) := by decide +kernel
theorem dX5_findBest_22 : decode cX5_findBest 22 = .ok (.ifCond .le 7, 3) := by decide +kernel
theorem dX5_findBest_25 : decode cX5_findBest 25 = .ok (.iconst 1, 1) := by decide +kernel
theorem dX5_findBest_26 : decode cX5_findBest 26 = .ok (.goto 4, 3) := by decide +kernel
theorem dX5_findBest_29 : decode cX5_findBest 29 = .ok (.iconst 0, 1) := by decide +kernel
theorem dX5_findBest_30 : decode cX5_findBest 30 = .ok (.ireturn, 1) := by decide +kernel
theorem dX5_ride_0 : decode cX5_ride 0 = .ok (.iload_n 2, 1) := by decide +kernel
theorem dX5_ride_1 : decode cX5_ride 1 = .ok (.istore_n 3, 1) := by decide +kernel
theorem dX5_ride_2 : decode cX5_ride 2 = .ok (.iconst 0, 1) := by decide +kernel
theorem dX5_ride_3 : decode cX5_ride 3 = .ok (.istore 4, 2) := by decide +kernel
theorem dX5_ride_5 : decode cX5_ride 5 = .ok (.iload 4, 2) := by decide +kernel
theorem dX5_ride_7 : decode cX5_ride 7 = .ok (.aload_n 0, 1) := by decide +kernel
theorem dX5_ride_8 : decode cX5_ride 8 = .ok (.getfield 142, 3) := by decide +kernel
theorem dX5_ride_11 : decode cX5_ride 11 = .ok (.if_icmp .ge 249, 3) := by decide +kernel
theorem dX5_ride_14 : decode cX5_ride 14 = .ok (.aload_n 0, 1) := by decide +kernel
theorem dX5_ride_15 : decode cX5_ride 15 = .ok (.getfield 90, 3) := by decide +kernel
theorem dX5_ride_18 : decode cX5_ride 18 = .ok (.iload 4, 2) := by decide +kernel
theorem dX5_ride_20 : decode cX5_ride 20 = .ok (.iaload, 1) := by decide +kernel
theorem dX5_ride_21 : decode cX5_ride 21 = .ok (.istore 5, 2) := by decide +kernel
theorem dX5_ride_23 : decode cX5_ride 23 = .ok (.bipush 8, 2) := by decide +kernel
theorem dX5_ride_25 : decode cX5_ride 25 = .ok (.bipush 24, 2) := by decide +kernel
theorem dX5_ride_27 : decode cX5_ride 27 = .ok (.iload_n 1, 1) := by decide +kernel
theorem dX5_ride_28 : decode cX5_ride 28 = .ok (.imul, 1) := by decide +kernel
theorem dX5_ride_29 : decode cX5_ride 29 = .ok (.aload_n 0, 1) := by decide +kernel
theorem dX5_ride_30 : decode cX5_ride 30 = .ok (.getfield 72, 3) := by decide +kernel
theorem dX5_ride_33 : decode cX5_ride 33 = .ok (.iload_n 1, 1) := by decide +kernel
theorem dX5_ride_34 : decode cX5_ride 34 = .ok (.iaload, 1) := by decide +kernel
theorem dX5_ride_35 : decode cX5_ride 35 = .ok (.iadd, 1) := by decide +kernel
theorem dX5_ride_36 : decode cX5_ride 36 = .ok (.imul, 1) := by decide +kernel
theorem dX5_ride_37 : decode cX5_ride 37 = .ok (.istore 6, 2) := by decide +kernel
theorem dX5_ride_39 : decode cX5_ride 39 = .ok (.aload_n 0, 1) := by decide +kernel
theorem dX5_ride_40 : decode cX5_ride 40 = .ok (.getfield 69, 3) := by decide +kernel
theorem dX5_ride_43 : decode cX5_ride 43 = .ok (.iload 6, 2) := by decide +kernel
theorem dX5_ride_45 : decode cX5_ride 45 = .ok (.iload 5, 2) := by decide +kernel
theorem dX5_ride_47 : decode cX5_ride 47 = .ok (.iastore, 1) := by decide +kernel
theorem dX5_ride_48 : decode cX5_ride 48 = .ok (.aload_n 0, 1) := by decide +kernel
theorem dX5_ride_49 : decode cX5_ride 49 = .ok (.getfield 69, 3) := by decide +kernel
theorem dX5_ride_52 : decode cX5_ride 52 = .ok (.iload 6, 2) := by decide +kernel
theorem dX5_ride_54 : decode cX5_ride 54 = .ok (.iconst 1, 1) := by decide +kernel
theorem dX5_ride_55 : decode cX5_ride 55 = .ok (.iadd, 1) := by decide +kernel
theorem dX5_ride_56 : decode cX5_ride 56 = .ok (.iload_n 3, 1) := by decide +kernel
theorem dX5_ride_57 : decode cX5_ride 57 = .ok (.iastore, 1) := by decide +kernel
theorem dX5_ride_58 : decode cX5_ride 58 = .ok (.aload_n 0, 1) := by decide +kernel
theorem dX5_ride_59 : decode cX5_ride 59 = .ok (.getfield 69, 3) := by decide +kernel
theorem dX5_ride_62 : decode cX5_ride 62 = .ok (.iload 6, 2) := by decide +kernel
theorem dX5_ride_64 : decode cX5_ride 64 = .ok (.iconst 2, 1) := by decide +kernel
theorem dX5_ride_65 : decode cX5_ride 65 = .ok (.iadd, 1) := by decide +kernel
theorem dX5_ride_66 : decode cX5_ride 66 = .ok (.aload_n 0, 1) := by decide +kernel
theorem dX5_ride_67 : decode cX5_ride 67 = .ok (.getfield 93, 3) := by decide +kernel
theorem dX5_ride_70 : decode cX5_ride 70 = .ok (.iload 4, 2) := by decide +kernel
theorem dX5_ride_72 : decode cX5_ride 72 = .ok (.iaload, 1) := by decide +kernel
theorem dX5_ride_73 : decode cX5_ride 73 = .ok (.iastore, 1) := by decide +kernel
theorem dX5_ride_74 : decode cX5_ride 74 = .ok (.aload_n 0, 1) := by decide +kernel
theorem dX5_ride_75 : decode cX5_ride 75 = .ok (.getfield 69, 3) := by decide +kernel
theorem dX5_ride_78 : decode cX5_ride 78 = .ok (.iload 6, 2) := by decide +kernel
theorem dX5_ride_80 : decode cX5_ride 80 = .ok (.iconst 3, 1) := by decide +kernel
theorem dX5_ride_81 : decode cX5_ride 81 = .ok (.iadd, 1) := by decide +kernel
theorem dX5_ride_82 : decode cX5_ride 82 = .ok (.aload_n 0, 1) := by decide +kernel
theorem dX5_ride_83 : decode cX5_ride 83 = .ok (.getfield 96, 3) := by decide +kernel
theorem dX5_ride_86 : decode cX5_ride 86 = .ok (.iload 4, 2) := by decide +kernel
theorem dX5_ride_88 : decode cX5_ride 88 = .ok (.iaload, 1) := by decide +kernel
theorem dX5_ride_89 : decode cX5_ride 89 = .ok (.iastore, 1) := by decide +kernel
theorem dX5_ride_90 : decode cX5_ride 90 = .ok (.aload_n 0, 1) := by decide +kernel
theorem dX5_ride_91 : decode cX5_ride 91 = .ok (.getfield 69, 3) := by decide +kernel
theorem dX5_ride_94 : decode cX5_ride 94 = .ok (.iload 6, 2) := by decide +kernel
theorem dX5_ride_96 : decode cX5_ride 96 = .ok (.iconst 4, 1) := by decide +kernel
theorem dX5_ride_97 : decode cX5_ride 97 = .ok (.iadd, 1) := by decide +kernel
theorem dX5_ride_98 : decode cX5_ride 98 = .ok (.aload_n 0, 1) := by decide +kernel
theorem dX5_ride_99 : decode cX5_ride 99 = .ok (.getfield 99, 3) := by decide +kernel
theorem dX5_ride_102 : decode cX5_ride 102 = .ok (.iload 4, 2) := by decide +kernel
theorem dX5_ride_104 : decode cX5_ride 104 = .ok (.iaload, 1) := by decide +kernel
theorem dX5_ride_105 : decode cX5_ride 105 = .ok (.iastore, 1) := by decide +kernel
theorem dX5_ride_106 : decode cX5_ride 106 = .ok (.aload_n 0, 1) := by decide +kernel
theorem dX5_ride_107 : decode cX5_ride 107 = .ok (.getfield 69, 3) := by decide +kernel
theorem dX5_ride_110 : decode cX5_ride 110 = .ok (.iload 6, 2) := by decide +kernel
theorem dX5_ride_112 : decode cX5_ride 112 = .ok (.iconst 5, 1) := by decide +kernel
theorem dX5_ride_113 : decode cX5_ride 113 = .ok (.iadd, 1) := by decide +kernel
theorem dX5_ride_114 : decode cX5_ride 114 = .ok (.iconst 0, 1) := by decide +kernel
theorem dX5_ride_115 : decode cX5_ride 115 = .ok (.iastore, 1) := by decide +kernel
theorem dX5_ride_116 : decode cX5_ride 116 = .ok (.aload_n 0, 1) := by decide +kernel
theorem dX5_ride_117 : decode cX5_ride 117 = .ok (.getfield 69, 3) := by decide +kernel
theorem dX5_ride_120 : decode cX5_ride 120 = .ok (.iload 6, 2) := by decide +kernel
theorem dX5_ride_122 : decode cX5_ride 122 = .ok (.bipush 6, 2) := by decide +kernel
theorem dX5_ride_124 : decode cX5_ride 124 = .ok (.iadd, 1) := by decide +kernel
theorem dX5_ride_125 : decode cX5_ride 125 = .ok (.aload_n 0, 1) := by decide +kernel
theorem dX5_ride_126 : decode cX5_ride 126 = .ok (.getfield 28, 3) := by decide +kernel
theorem dX5_ride_129 : decode cX5_ride 129 = .ok (.iload 5, 2) := by decide +kernel
theorem dX5_ride_131 : decode cX5_ride 131 = .ok (.iaload, 1) := by decide +kernel
theorem dX5_ride_132 : decode cX5_ride 132 = .ok (.iastore, 1) := by decide +kernel
theorem dX5_ride_133 : decode cX5_ride 133 = .ok (.aload_n 0, 1) := by decide +kernel
theorem dX5_ride_134 : decode cX5_ride 134 = .ok (.getfield 69, 3) := by decide +kernel
theorem dX5_ride_137 : decode cX5_ride 137 = .ok (.iload 6, 2) := by decide +kernel
theorem dX5_ride_139 : decode cX5_ride 139 = .ok (.bipush 7, 2) := by decide +kernel
theorem dX5_ride_141 : decode cX5_ride 141 = .ok (.iadd, 1) := by decide +kernel
theorem dX5_ride_142 : decode cX5_ride 142 = .ok (.aload_n 0, 1) := by decide +kernel
theorem dX5_ride_143 : decode cX5_ride 143 = .ok (.getfield 31, 3) := by decide +kernel
theorem dX5_ride_146 : decode cX5_ride 146 = .ok (.iload 5, 2) := by decide +kernel
theorem dX5_ride_148 : decode cX5_ride 148 = .ok (.iaload, 1) := by decide +kernel
theorem dX5_ride_149 : decode cX5_ride 149 = .ok (.iastore, 1) := by decide +kernel
theorem dX5_ride_150 : decode cX5_ride 150 = .ok (.aload_n 0, 1) := by decide +kernel
theorem dX5_ride_151 : decode cX5_ride 151 = .ok (.getfield 72, 3) := by decide +kernel
theorem dX5_ride_154 : decode cX5_ride 154 = .ok (.iload_n 1, 1) := by decide +kernel
theorem dX5_ride_155 : decode cX5_ride 155 = .ok (.dup2, 1) := by decide +kernel
theorem dX5_ride_156 : decode cX5_ride 156 = .ok (.iaload, 1) := by decide +kernel
theorem dX5_ride_157 : decode cX5_ride 157 = .ok (.iconst 1, 1) := by decide +kernel
theorem dX5_ride_158 : decode cX5_ride 158 = .ok (.iadd, 1) := by decide +kernel
theorem dX5_ride_159 : decode cX5_ride 159 = .ok (.iastore, 1) := by decide +kernel
theorem dX5_ride_160 : decode cX5_ride 160 = .ok (.aload_n 0, 1) := by decide +kernel
theorem dX5_ride_161 : decode cX5_ride 161 = .ok (.getfield 93, 3) := by decide +kernel
theorem dX5_ride_164 : decode cX5_ride 164 = .ok (.iload 4, 2) := by decide +kernel
theorem dX5_ride_166 : decode cX5_ride 166 = .ok (.iaload, 1) := by decide +kernel
theorem dX5_ride_167 : decode cX5_ride 167 = .ok (.istore_n 3, 1) := by decide +kernel
theorem dX5_ride_168 : decode cX5_ride 168 = .ok (.aload_n 0, 1) := by decide +kernel
theorem dX5_ride_169 : decode cX5_ride 169 = .ok (.getfield 28, 3) := by decide +kernel
theorem dX5_ride_172 : decode cX5_ride 172 = .ok (.iload 5, 2) := by decide +kernel
theorem dX5_ride_174 : decode cX5_ride 174 = .ok (.iload_n 3, 1) := by decide +kernel
theorem dX5_ride_175 : decode cX5_ride 175 = .ok (.iastore, 1) := by decide +kernel
theorem dX5_ride_176 : decode cX5_ride 176 = .ok (.aload_n 0, 1) := by decide +kernel
theorem dX5_ride_177 : decode cX5_ride 177 = .ok (.getfield 31, 3) := by decide +kernel
theorem dX5_ride_180 : decode cX5_ride 180 = .ok (.iload 5, 2) := by decide +kernel
theorem dX5_ride_182 : decode cX5_ride 182 = .ok (.iload 4, 2) := by decide +kernel
theorem dX5_ride_184 : decode cX5_ride 184 = .ok (.iconst 1, 1) := by decide +kernel
theorem dX5_ride_185 : decode cX5_ride 185 = .ok (.iadd, 1) := by decide +kernel
theorem dX5_ride_186 : decode cX5_ride 186 = .ok (.aload_n 0, 1) := by decide +kernel
theorem dX5_ride_187 : decode cX5_ride 187 = .ok (.getfield 142, 3) := by decide +kernel
theorem dX5_ride_190 : decode cX5_ride 190 = .ok (.if_icmp .ge 15, 3) := by decide +kernel
theorem dX5_ride_193 : decode cX5_ride 193 = .ok (.aload_n 0, 1) := by decide +kernel
theorem dX5_ride_194 : decode cX5_ride 194 = .ok (.getfield 96, 3) := by decide +kernel
theorem dX5_ride_197 : decode cX5_ride 197 = .ok (.iload 4, 2) := by decide +kernel
theorem dX5_ride_199 : decode cX5_ride 199 = .ok (.iconst 1, 1) := by decide +kernel
theorem dX5_ride_200 : decode cX5_ride 200 = .ok (.iadd, 1) := by decide +kernel
theorem dX5_ride_201 : decode cX5_ride 201 = .ok (.iaload, 1) := by decide +kernel
theorem dX5_ride_202 : decode cX5_ride 202 = .ok (.goto 10, 3) := by decide +kernel
theorem dX5_ride_205 : decode cX5_ride 205 = .ok (.aload_n 0, 1) := by decide +kernel
theorem dX5_ride_206 : decode cX5_ride 206 = .ok (.getfield 99, 3) := by decide +kernel
theorem dX5_ride_209 : decode cX5_ride 209 = .ok (.iload 4, 2) := by decide +kernel
theorem dX5_ride_211 : decode cX5_ride 211 = .ok (.iaload, 1) := by decide +kernel
theorem dX5_ride_212 : decode cX5_ride 212 = .ok (.aload_n 0, 1) := by decide +kernel
theorem dX5_ride_213 : decode cX5_ride 213 = .ok (.getfield 44, 3) := by decide +kernel
theorem dX5_ride_216 : decode cX5_ride 216 = .ok (.iadd, 1) := by decide +kernel
theorem dX5_ride_217 : decode cX5_ride 217 = .ok (.iastore, 1) := by decide +kernel
theorem dX5_ride_218 : decode cX5_ride 218 = .ok (.aload_n 0, 1) := by decide +kernel
theorem dX5_ride_219 : decode cX5_ride 219 = .ok (.getfield 38, 3) := by decide +kernel
theorem dX5_ride_222 : decode cX5_ride 222 = .ok (.iload 5, 2) := by decide +kernel
theorem dX5_ride_224 : decode cX5_ride 224 = .ok (.dup2, 1) := by decide +kernel
theorem dX5_ride_225 : decode cX5_ride 225 = .ok (.iaload, 1) := by decide +kernel
theorem dX5_ride_226 : decode cX5_ride 226 = .ok (.iconst 1, 1) := by decide +kernel
theorem dX5_ride_227 : decode cX5_ride 227 = .ok (.iadd, 1) := by decide +kernel
theorem dX5_ride_228 : decode cX5_ride 228 = .ok (.iastore, 1) := by decide +kernel
theorem dX5_ride_229 : decode cX5_ride 229 = .ok (.aload_n 0, 1) := by decide +kernel
theorem dX5_ride_230 : decode cX5_ride 230 = .ok (.getfield 41, 3) := by decide +kernel
theorem dX5_ride_233 : decode cX5_ride 233 = .ok (.iload 5, 2) := by decide +kernel
theorem dX5_ride_235 : decode cX5_ride 235 = .ok (.dup2, 1) := by decide +kernel
theorem dX5_ride_236 : decode cX5_ride 236 = .ok (.iaload, 1) := by decide +kernel
theorem dX5_ride_237 : decode cX5_ride 237 = .ok (.aload_n 0, 1) := by decide +kernel
theorem dX5_ride_238 : decode cX5_ride 238 = .ok (.getfield 99, 3) := by decide +kernel
theorem dX5_ride_241 : decode cX5_ride 241 = .ok (.iload 4, 2) := by decide +kernel
theorem dX5_ride_243 : decode cX5_ride 243 = .ok (.iaload, 1) := by decide +kernel
theorem dX5_ride_244 : decode cX5_ride 244 = .ok (.aload_n 0, 1) := by decide +kernel
theorem dX5_ride_245 : decode cX5_ride 245 = .ok (.getfield 96, 3) := by decide +kernel
theorem dX5_ride_248 : decode cX5_ride 248 = .ok (.iload 4, 2) := by decide +kernel
theorem dX5_ride_250 : decode cX5_ride 250 = .ok (.iaload, 1) := by decide +kernel
theorem dX5_ride_251 : decode cX5_ride 251 = .ok (.isub, 1) := by decide +kernel
theorem dX5_ride_252 : decode cX5_ride 252 = .ok (.iadd, 1) := by decide +kernel
theorem dX5_ride_253 : decode cX5_ride 253 = .ok (.iastore, 1) := by decide +kernel
theorem dX5_ride_254 : decode cX5_ride 254 = .ok (.iinc 4 1, 3) := by decide +kernel
theorem dX5_ride_257 : decode cX5_ride 257 = .ok (.goto (-252), 3) := by decide +kernel
theorem dX5_ride_260 : decode cX5_ride 260 = .ok (.return_, 1) := by decide +kernel
theorem dX5_call_0 : decode cX5_call 0 = .ok (.aload_n 0, 1) := by decide +kernel
theorem dX5_call_1 : decode cX5_call 1 = .ok (.iconst 0, 1) := by decide +kernel
theorem dX5_call_2 : decode cX5_call 2 = .ok (.putfield 102, 3) := by decide +kernel
theorem dX5_call_5 : decode cX5_call 5 = .ok (.iload_n 1, 1) := by decide +kernel
theorem dX5_call_6 : decode cX5_call 6 = .ok (.iconst 0, 1) := by decide +kernel
theorem dX5_call_7 : decode cX5_call 7 = .ok (.iconst 3, 1) := by decide +kernel
theorem dX5_call_8 : decode cX5_call 8 = .ok (.invokestatic 108, 3) := by decide +kernel
theorem dX5_call_11 : decode cX5_call 11 = .ok (.ifCond .eq 57, 3) := by decide +kernel
theorem dX5_call_14 : decode cX5_call 14 = .ok (.aload_n 0, 1) := by decide +kernel
theorem dX5_call_15 : decode cX5_call 15 = .ok (.iload_n 2, 1) := by decide +kernel
theorem dX5_call_16 : decode cX5_call 16 = .ok (.invokevirtual 118, 3) := by decide +kernel
theorem dX5_call_19 : decode cX5_call 19 = .ok (.ifCond .eq 49, 3) := by decide +kernel
theorem dX5_call_22 : decode cX5_call 22 = .ok (.aload_n 0, 1) := by decide +kernel
theorem dX5_call_23 : decode cX5_call 23 = .ok (.iload_n 3, 1) := by decide +kernel
theorem dX5_call_24 : decode cX5_call 24 = .ok (.invokevirtual 118, 3) := by decide +kernel
theorem dX5_call_27 : decode cX5_call 27 = .ok (.ifCond .eq 41, 3) := by decide +kernel
theorem dX5_call_30 : decode cX5_call 30 = .ok (.iload_n 2, 1) := by decide +kernel
theorem dX5_call_31 : decode cX5_call 31 = .ok (.iload_n 3, 1) := by decide +kernel
theorem dX5_call_32 : decode cX5_call 32 = .ok (.if_icmp .eq 36, 3) := by decide +kernel
theorem dX5_call_35 : decode cX5_call 35 = .ok (.iload 4, 2) := by decide +kernel
theorem dX5_call_37 : decode cX5_call 37 = .ok (.iconst 0, 1) := by decide +kernel
theorem dX5_call_38 : decode cX5_call 38 = .ok (.sipush 4319, 3) := by decide +kernel
theorem dX5_call_41 : decode cX5_call 41 = .ok (.invokestatic 108, 3) := by decide +kernel
theorem dX5_call_44 : decode cX5_call 44 = .ok (.ifCond .eq 24, 3) := by decide +kernel
theorem dX5_call_47 : decode cX5_call 47 = .ok (.iload 5, 2) := by decide +kernel
theorem dX5_call_49 : decode cX5_call 49 = .ok (.iconst 1, 1) := by decide +kernel
theorem dX5_call_50 : decode cX5_call 50 = .ok (.sipush 2000, 3) := by decide +kernel
theorem dX5_call_53 : decode cX5_call 53 = .ok (.invokestatic 108, 3) := by decide +kernel
theorem dX5_call_56 : decode cX5_call 56 = .ok (.ifCond .eq 12, 3) := by decide +kernel
theorem dX5_call_59 : decode cX5_call 59 = .ok (.aload_n 0, 1) := by decide +kernel
theorem dX5_call_60 : decode cX5_call 60 = .ok (.getfield 115, 3) := by decide +kernel
theorem dX5_call_63 : decode cX5_call 63 = .ok (.bipush 40, 2) := by decide +kernel
theorem dX5_call_65 : decode cX5_call 65 = .ok (.if_icmp .ne 5, 3) := by decide +kernel
theorem dX5_call_68 : decode cX5_call 68 = .ok (.iconst (-1), 1) := by decide +kernel
theorem dX5_call_69 : decode cX5_call 69 = .ok (.ireturn, 1) := by decide +kernel
theorem dX5_call_70 : decode cX5_call 70 = .ok (.aload_n 0, 1) := by decide +kernel
theorem dX5_call_71 : decode cX5_call 71 = .ok (.getfield 48, 3) := by decide +kernel
theorem dX5_call_74 : decode cX5_call 74 = .ok (.aload_n 0, 1) := by decide +kernel
theorem dX5_call_75 : decode cX5_call 75 = .ok (.getfield 115, 3) := by decide +kernel
theorem dX5_call_78 : decode cX5_call 78 = .ok (.iload_n 1, 1) := by decide +kernel
theorem dX5_call_79 : decode cX5_call 79 = .ok (.iastore, 1) := by decide +kernel
theorem dX5_call_80 : decode cX5_call 80 = .ok (.aload_n 0, 1) := by decide +kernel
theorem dX5_call_81 : decode cX5_call 81 = .ok (.getfield 51, 3) := by decide +kernel
theorem dX5_call_84 : decode cX5_call 84 = .ok (.aload_n 0, 1) := by decide +kernel
theorem dX5_call_85 : decode cX5_call 85 = .ok (.getfield 115, 3) := by decide +kernel
theorem dX5_call_88 : decode cX5_call 88 = .ok (.iload_n 2, 1) := by decide +kernel
theorem dX5_call_89 : decode cX5_call 89 = .ok (.iastore, 1) := by decide +kernel
theorem dX5_call_90 : decode cX5_call 90 = .ok (.aload_n 0, 1) := by decide +kernel
theorem dX5_call_91 : decode cX5_call 91 = .ok (.getfield 54, 3) := by decide +kernel
theorem dX5_call_94 : decode cX5_call 94 = .ok (.aload_n 0, 1) := by decide +kernel
theorem dX5_call_95 : decode cX5_call 95 = .ok (.getfield 115, 3) := by decide +kernel
theorem dX5_call_98 : decode cX5_call 98 = .ok (.iload_n 3, 1) := by decide +kernel
theorem dX5_call_99 : decode cX5_call 99 = .ok (.iastore, 1) := by decide +kernel
theorem dX5_call_100 : decode cX5_call 100 = .ok (.aload_n 0, 1) := by decide +kernel
theorem dX5_call_101 : decode cX5_call 101 = .ok (.getfield 57, 3) := by decide +kernel
theorem dX5_call_104 : decode cX5_call 104 = .ok (.aload_n 0, 1) := by decide +kernel
theorem dX5_call_105 : decode cX5_call 105 = .ok (.getfield 115, 3) := by decide +kernel
theorem dX5_call_108 : decode cX5_call 108 = .ok (.iload 4, 2) := by decide +kernel
theorem dX5_call_110 : decode cX5_call 110 = .ok (.iastore, 1) := by decide +kernel
theorem dX5_call_111 : decode cX5_call 111 = .ok (.aload_n 0, 1) := by decide +kernel
theorem dX5_call_112 : decode cX5_call 112 = .ok (.getfield 60, 3) := by decide +kernel
theorem dX5_call_115 : decode cX5_call 115 = .ok (.aload_n 0, 1) := by decide +kernel
theorem dX5_call_116 : decode cX5_call 116 = .ok (.getfield 115, 3) := by decide +kernel
theorem dX5_call_119 : decode cX5_call 119 = .ok (.iload 5, 2) := by decide +kernel
theorem dX5_call_121 : decode cX5_call 121 = .ok (.iastore, 1) := by decide +kernel
theorem dX5_call_122 : decode cX5_call 122 = .ok (.aload_n 0, 1) := by decide +kernel
theorem dX5_call_123 : decode cX5_call 123 = .ok (.dup, 1) := by decide +kernel
theorem dX5_call_124 : decode cX5_call 124 = .ok (.getfield 115, 3) := by decide +kernel
theorem dX5_call_127 : decode cX5_call 127 = .ok (.iconst 1, 1) := by decide +kernel
theorem dX5_call_128 : decode cX5_call 128 = .ok (.iadd, 1) := by decide +kernel
theorem dX5_call_129 : decode cX5_call 129 = .ok (.putfield 115, 3) := by decide +kernel
theorem dX5_call_132 : decode cX5_call 132 = .ok (.aload_n 0, 1) := by decide +kernel
theorem dX5_call_133 : decode cX5_call 133 = .ok (.getfield 115, 3) := by decide +kernel
theorem dX5_call_136 : decode cX5_call 136 = .ok (.iconst 1, 1) := by decide +kernel
theorem dX5_call_137 : decode cX5_call 137 = .ok (.isub, 1) := by decide +kernel
theorem dX5_call_138 : decode cX5_call 138 = .ok (.ireturn, 1) := by decide +kernel
theorem dX5_best_0 : decode cX5_best 0 = .ok (.aload_n 0, 1) := by decide +kernel
theorem dX5_best_1 : decode cX5_best 1 = .ok (.iconst 0, 1) := by decide +kernel
theorem dX5_best_2 : decode cX5_best 2 = .ok (.putfield 102, 3) := by decide +kernel
theorem dX5_best_5 : decode cX5_best 5 = .ok (.aload_n 0, 1) := by decide +kernel
theorem dX5_best_6 : decode cX5_best 6 = .ok (.iload_n 1, 1) := by decide +kernel
theorem dX5_best_7 : decode cX5_best 7 = .ok (.invokevirtual 157, 3) := by decide +kernel
theorem dX5_best_10 : decode cX5_best 10 = .ok (.ifCond .eq 43, 3) := by decide +kernel
theorem dX5_best_13 : decode cX5_best 13 = .ok (.aload_n 0, 1) := by decide +kernel
theorem dX5_best_14 : decode cX5_best 14 = .ok (.getfield 63, 3) := by decide +kernel
theorem dX5_best_17 : decode cX5_best 17 = .ok (.iload_n 1, 1) := by decide +kernel
theorem dX5_best_18 : decode cX5_best 18 = .ok (.iaload, 1) := by decide +kernel
theorem dX5_best_19 : decode cX5_best 19 = .ok (.ifCond .gt 34, 3) := by decide +kernel
theorem dX5_best_22 : decode cX5_best 22 = .ok (.aload_n 0, 1) := by decide +kernel
theorem dX5_best_23 : decode cX5_best 23 = .ok (.aload_n 0, 1) := by decide +kernel
theorem dX5_best_24 : decode cX5_best 24 = .ok (.getfield 48, 3) := by decide +kernel
theorem dX5_best_27 : decode cX5_best 27 = .ok (.iload_n 1, 1) := by decide +kernel
theorem dX5_best_28 : decode cX5_best 28 = .ok (.iaload, 1) := by decide +kernel
theorem dX5_best_29 : decode cX5_best 29 = .ok (.aload_n 0, 1) := by decide +kernel
theorem dX5_best_30 : decode cX5_best 30 = .ok (.getfield 51, 3) := by decide +kernel
theorem dX5_best_33 : decode cX5_best 33 = .ok (.iload_n 1, 1) := by decide +kernel
theorem dX5_best_34 : decode cX5_best 34 = .ok (.iaload, 1) := by decide +kernel
theorem dX5_best_35 : decode cX5_best 35 = .ok (.aload_n 0, 1) := by decide +kernel
theorem dX5_best_36 : decode cX5_best 36 = .ok (.getfield 57, 3) := by decide +kernel
theorem dX5_best_39 : decode cX5_best 39 = .ok (.iload_n 1, 1) := by decide +kernel
theorem dX5_best_40 : decode cX5_best 40 = .ok (.iaload, 1) := by decide +kernel
theorem dX5_best_41 : decode cX5_best 41 = .ok (.aload_n 0, 1) := by decide +kernel
theorem dX5_best_42 : decode cX5_best 42 = .ok (.getfield 54, 3) := by decide +kernel
theorem dX5_best_45 : decode cX5_best 45 = .ok (.iload_n 1, 1) := by decide +kernel
theorem dX5_best_46 : decode cX5_best 46 = .ok (.iaload, 1) := by decide +kernel
theorem dX5_best_47 : decode cX5_best 47 = .ok (.invokevirtual 160, 3) := by decide +kernel
theorem dX5_best_50 : decode cX5_best 50 = .ok (.ifCond .ne 5, 3) := by decide +kernel
theorem dX5_best_53 : decode cX5_best 53 = .ok (.iconst (-1), 1) := by decide +kernel
theorem dX5_best_54 : decode cX5_best 54 = .ok (.ireturn, 1) := by decide +kernel
theorem dX5_best_55 : decode cX5_best 55 = .ok (.aload_n 0, 1) := by decide +kernel
theorem dX5_best_56 : decode cX5_best 56 = .ok (.getfield 99, 3) := by decide +kernel
theorem dX5_best_59 : decode cX5_best 59 = .ok (.aload_n 0, 1) := by decide +kernel
theorem dX5_best_60 : decode cX5_best 60 = .ok (.getfield 142, 3) := by decide +kernel
theorem dX5_best_63 : decode cX5_best 63 = .ok (.iconst 1, 1) := by decide +kernel
theorem dX5_best_64 : decode cX5_best 64 = .ok (.isub, 1) := by decide +kernel
theorem dX5_best_65 : decode cX5_best 65 = .ok (.iaload, 1) := by decide +kernel
theorem dX5_best_66 : decode cX5_best 66 = .ok (.ireturn, 1) := by decide +kernel
theorem dX5_send_0 : decode cX5_send 0 = .ok (.aload_n 0, 1) := by decide +kernel
theorem dX5_send_1 : decode cX5_send 1 = .ok (.iconst 0, 1) := by decide +kernel
theorem dX5_send_2 : decode cX5_send 2 = .ok (.putfield 102, 3) := by decide +kernel
theorem dX5_send_5 : decode cX5_send 5 = .ok (.aload_n 0, 1) := by decide +kernel
theorem dX5_send_6 : decode cX5_send 6 = .ok (.iload_n 1, 1) := by decide +kernel
theorem dX5_send_7 : decode cX5_send 7 = .ok (.invokevirtual 157, 3) := by decide +kernel
theorem dX5_send_10 : decode cX5_send 10 = .ok (.ifCond .eq 43, 3) := by decide +kernel
theorem dX5_send_13 : decode cX5_send 13 = .ok (.aload_n 0, 1) := by decide +kernel
theorem dX5_send_14 : decode cX5_send 14 = .ok (.getfield 63, 3) := by decide +kernel
theorem dX5_send_17 : decode cX5_send 17 = .ok (.iload_n 1, 1) := by decide +kernel
theorem dX5_send_18 : decode cX5_send 18 = .ok (.iaload, 1) := by decide +kernel
theorem dX5_send_19 : decode cX5_send 19 = .ok (.ifCond .gt 34, 3) := by decide +kernel
theorem dX5_send_22 : decode cX5_send 22 = .ok (.aload_n 0, 1) := by decide +kernel
theorem dX5_send_23 : decode cX5_send 23 = .ok (.aload_n 0, 1) := by decide +kernel
theorem dX5_send_24 : decode cX5_send 24 = .ok (.getfield 48, 3) := by decide +kernel
theorem dX5_send_27 : decode cX5_send 27 = .ok (.iload_n 1, 1) := by decide +kernel
theorem dX5_send_28 : decode cX5_send 28 = .ok (.iaload, 1) := by decide +kernel
theorem dX5_send_29 : decode cX5_send 29 = .ok (.aload_n 0, 1) := by decide +kernel
theorem dX5_send_30 : decode cX5_send 30 = .ok (.getfield 51, 3) := by decide +kernel
theorem dX5_send_33 : decode cX5_send 33 = .ok (.iload_n 1, 1) := by decide +kernel
theorem dX5_send_34 : decode cX5_send 34 = .ok (.iaload, 1) := by decide +kernel
theorem dX5_send_35 : decode cX5_send 35 = .ok (.aload_n 0, 1) := by decide +kernel
theorem dX5_send_36 : decode cX5_send 36 = .ok (.getfield 57, 3) := by decide +kernel
theorem dX5_send_39 : decode cX5_send 39 = .ok (.iload_n 1, 1) := by decide +kernel
theorem dX5_send_40 : decode cX5_send 40 = .ok (.iaload, 1) := by decide +kernel
theorem dX5_send_41 : decode cX5_send 41 = .ok (.aload_n 0, 1) := by decide +kernel
theorem dX5_send_42 : decode cX5_send 42 = .ok (.getfield 54, 3) := by decide +kernel
theorem dX5_send_45 : decode cX5_send 45 = .ok (.iload_n 1, 1) := by decide +kernel
theorem dX5_send_46 : decode cX5_send 46 = .ok (.iaload, 1) := by decide +kernel
theorem dX5_send_47 : decode cX5_send 47 = .ok (.invokevirtual 160, 3) := by decide +kernel
theorem dX5_send_50 : decode cX5_send 50 = .ok (.ifCond .ne 5, 3) := by decide +kernel
theorem dX5_send_53 : decode cX5_send 53 = .ok (.iconst (-1), 1) := by decide +kernel
theorem dX5_send_54 : decode cX5_send 54 = .ok (.ireturn, 1) := by decide +kernel
theorem dX5_send_55 : decode cX5_send 55 = .ok (.aload_n 0, 1) := by decide +kernel
theorem dX5_send_56 : decode cX5_send 56 = .ok (.iload_n 1, 1) := by decide +kernel
theorem dX5_send_57 : decode cX5_send 57 = .ok (.aload_n 0, 1) := by decide +kernel
theorem dX5_send_58 : decode cX5_send 58 = .ok (.getfield 51, 3) := by decide +kernel
theorem dX5_send_61 : decode cX5_send 61 = .ok (.iload_n 1, 1) := by decide +kernel
theorem dX5_send_62 : decode cX5_send 62 = .ok (.iaload, 1) := by decide +kernel
theorem dX5_send_63 : decode cX5_send 63 = .ok (.invokevirtual 164, 3) := by decide +kernel
theorem dX5_send_66 : decode cX5_send 66 = .ok (.aload_n 0, 1) := by decide +kernel
theorem dX5_send_67 : decode cX5_send 67 = .ok (.getfield 63, 3) := by decide +kernel
theorem dX5_send_70 : decode cX5_send 70 = .ok (.iload_n 1, 1) := by decide +kernel
theorem dX5_send_71 : decode cX5_send 71 = .ok (.iconst 1, 1) := by decide +kernel
theorem dX5_send_72 : decode cX5_send 72 = .ok (.iastore, 1) := by decide +kernel
theorem dX5_send_73 : decode cX5_send 73 = .ok (.aload_n 0, 1) := by decide +kernel
theorem dX5_send_74 : decode cX5_send 74 = .ok (.iload_n 1, 1) := by decide +kernel
theorem dX5_send_75 : decode cX5_send 75 = .ok (.putfield 66, 3) := by decide +kernel
theorem dX5_send_78 : decode cX5_send 78 = .ok (.aload_n 0, 1) := by decide +kernel
theorem dX5_send_79 : decode cX5_send 79 = .ok (.iload_n 1, 1) := by decide +kernel
theorem dX5_send_80 : decode cX5_send 80 = .ok (.invokevirtual 130, 3) := by decide +kernel
theorem dX5_send_83 : decode cX5_send 83 = .ok (.ireturn, 1) := by decide +kernel
theorem dX5_told_0 : decode cX5_told 0 = .ok (.aload_n 0, 1) := by decide +kernel
theorem dX5_told_1 : decode cX5_told 1 = .ok (.iconst 0, 1) := by decide +kernel
theorem dX5_told_2 : decode cX5_told 2 = .ok (.putfield 102, 3) := by decide +kernel
theorem dX5_told_5 : decode cX5_told 5 = .ok (.aload_n 0, 1) := by decide +kernel
theorem dX5_told_6 : decode cX5_told 6 = .ok (.iload_n 1, 1) := by decide +kernel
theorem dX5_told_7 : decode cX5_told 7 = .ok (.invokevirtual 157, 3) := by decide +kernel
theorem dX5_told_10 : decode cX5_told 10 = .ok (.ifCond .ne 5, 3) := by decide +kernel
theorem dX5_told_13 : decode cX5_told 13 = .ok (.iconst (-1), 1) := by decide +kernel
theorem dX5_told_14 : decode cX5_told 14 = .ok (.ireturn, 1) := by decide +kernel
theorem dX5_told_15 : decode cX5_told 15 = .ok (.iload_n 2, 1) := by decide +kernel
theorem dX5_told_16 : decode cX5_told 16 = .ok (.tableswitch 117 0 7 #[48, 55, 62, 69, 76, 83, 90, 97], 48) := by decide +kernel
theorem dX5_told_64 : decode cX5_told 64 = .ok (.aload_n 0, 1) := by decide +kernel
theorem dX5_told_65 : decode cX5_told 65 = .ok (.getfield 48, 3) := by decide +kernel
theorem dX5_told_68 : decode cX5_told 68 = .ok (.iload_n 1, 1) := by decide +kernel
theorem dX5_told_69 : decode cX5_told 69 = .ok (.iaload, 1) := by decide +kernel
theorem dX5_told_70 : decode cX5_told 70 = .ok (.ireturn, 1) := by decide +kernel
theorem dX5_told_71 : decode cX5_told 71 = .ok (.aload_n 0, 1) := by decide +kernel
theorem dX5_told_72 : decode cX5_told 72 = .ok (.getfield 51, 3) := by decide +kernel
theorem dX5_told_75 : decode cX5_told 75 = .ok (.iload_n 1, 1) := by decide +kernel
theorem dX5_told_76 : decode cX5_told 76 = .ok (.iaload, 1) := by decide +kernel
theorem dX5_told_77 : decode cX5_told 77 = .ok (.ireturn, 1) := by decide +kernel
theorem dX5_told_78 : decode cX5_told 78 = .ok (.aload_n 0, 1) := by decide +kernel
theorem dX5_told_79 : decode cX5_told 79 = .ok (.getfield 54, 3) := by decide +kernel
theorem dX5_told_82 : decode cX5_told 82 = .ok (.iload_n 1, 1) := by decide +kernel
theorem dX5_told_83 : decode cX5_told 83 = .ok (.iaload, 1) := by decide +kernel
theorem dX5_told_84 : decode cX5_told 84 = .ok (.ireturn, 1) := by decide +kernel
theorem dX5_told_85 : decode cX5_told 85 = .ok (.aload_n 0, 1) := by decide +kernel
theorem dX5_told_86 : decode cX5_told 86 = .ok (.getfield 57, 3) := by decide +kernel
theorem dX5_told_89 : decode cX5_told 89 = .ok (.iload_n 1, 1) := by decide +kernel
theorem dX5_told_90 : decode cX5_told 90 = .ok (.iaload, 1) := by decide +kernel
theorem dX5_told_91 : decode cX5_told 91 = .ok (.ireturn, 1) := by decide +kernel
theorem dX5_told_92 : decode cX5_told 92 = .ok (.aload_n 0, 1) := by decide +kernel
theorem dX5_told_93 : decode cX5_told 93 = .ok (.getfield 60, 3) := by decide +kernel
theorem dX5_told_96 : decode cX5_told 96 = .ok (.iload_n 1, 1) := by decide +kernel
theorem dX5_told_97 : decode cX5_told 97 = .ok (.iaload, 1) := by decide +kernel
theorem dX5_told_98 : decode cX5_told 98 = .ok (.ireturn, 1) := by decide +kernel
theorem dX5_told_99 : decode cX5_told 99 = .ok (.aload_n 0, 1) := by decide +kernel
theorem dX5_told_100 : decode cX5_told 100 = .ok (.getfield 63, 3) := by decide +kernel
theorem dX5_told_103 : decode cX5_told 103 = .ok (.iload_n 1, 1) := by decide +kernel
theorem dX5_told_104 : decode cX5_told 104 = .ok (.iaload, 1) := by decide +kernel
theorem dX5_told_105 : decode cX5_told 105 = .ok (.ireturn, 1) := by decide +kernel
theorem dX5_told_106 : decode cX5_told 106 = .ok (.aload_n 0, 1) := by decide +kernel
theorem dX5_told_107 : decode cX5_told 107 = .ok (.getfield 72, 3) := by decide +kernel
theorem dX5_told_110 : decode cX5_told 110 = .ok (.iload_n 1, 1) := by decide +kernel
theorem dX5_told_111 : decode cX5_told 111 = .ok (.iaload, 1) := by decide +kernel
theorem dX5_told_112 : decode cX5_told 112 = .ok (.ireturn, 1) := by decide +kernel
theorem dX5_told_113 : decode cX5_told 113 = .ok (.aload_n 0, 1) := by decide +kernel
theorem dX5_told_114 : decode cX5_told 114 = .ok (.getfield 63, 3) := by decide +kernel
theorem dX5_told_117 : decode cX5_told 117 = .ok (.iload_n 1, 1) := by decide +kernel
theorem dX5_told_118 : decode cX5_told 118 = .ok (.iaload, 1) := by decide +kernel
theorem dX5_told_119 : decode cX5_told 119 = .ok (.iconst 1, 1) := by decide +kernel
theorem dX5_told_120 : decode cX5_told 120 = .ok (.if_icmp .ne 11, 3) := by decide +kernel
theorem dX5_told_123 : decode cX5_told 123 = .ok (.aload_n 0, 1) := by decide +kernel
theorem dX5_told_124 : decode cX5_told 124 = .ok (.iload_n 1, 1) := by decide +kernel
theorem dX5_told_125 : decode cX5_told 125 = .ok (.invokevirtual 130, 3) := by decide +kernel
theorem dX5_told_128 : decode cX5_told 128 = .ok (.goto 4, 3) := by decide +kernel
theorem dX5_told_131 : decode cX5_told 131 = .ok (.iconst (-1), 1) := by decide +kernel
theorem dX5_told_132 : decode cX5_told 132 = .ok (.ireturn, 1) := by decide +kernel
theorem dX5_told_133 : decode cX5_told 133 = .ok (.iconst (-1), 1) := by decide +kernel
theorem dX5_told_134 : decode cX5_told 134 = .ok (.ireturn, 1) := by decide +kernel
theorem dX5_leg_0 : decode cX5_leg 0 = .ok (.aload_n 0, 1) := by decide +kernel
theorem dX5_leg_1 : decode cX5_leg 1 = .ok (.iconst 0, 1) := by decide +kernel
theorem dX5_leg_2 : decode cX5_leg 2 = .ok (.putfield 102, 3) := by decide +kernel
theorem dX5_leg_5 : decode cX5_leg 5 = .ok (.aload_n 0, 1) := by decide +kernel
theorem dX5_leg_6 : decode cX5_leg 6 = .ok (.iload_n 1, 1) := by decide +kernel
theorem dX5_leg_7 : decode cX5_leg 7 = .ok (.invokevirtual 157, 3) := by decide +kernel
theorem dX5_leg_10 : decode cX5_leg 10 = .ok (.ifCond .eq 47, 3) := by decide +kernel
theorem dX5_leg_13 : decode cX5_leg 13 = .ok (.iload_n 2, 1) := by decide +kernel
theorem dX5_leg_14 : decode cX5_leg 14 = .ok (.iconst 0, 1) := by decide +kernel
theorem dX5_leg_15 : decode cX5_leg 15 = .ok (.aload_n 0, 1) := by decide +kernel
theorem dX5_leg_16 : decode cX5_leg 16 = .ok (.getfield 72, 3) := by decide +kernel
theorem dX5_leg_19 : decode cX5_leg 19 = .ok (.iload_n 1, 1) := by decide +kernel
theorem dX5_leg_20 : decode cX5_leg 20 = .ok (.iaload, 1) := by decide +kernel
theorem dX5_leg_21 : decode cX5_leg 21 = .ok (.iconst 1, 1) := by decide +kernel
theorem dX5_leg_22 : decode cX5_leg 22 = .ok (.isub, 1) := by decide +kernel
theorem dX5_leg_23 : decode cX5_leg 23 = .ok (.invokestatic 108, 3) := by decide +kernel
theorem dX5_leg_26 : decode cX5_leg 26 = .ok (.ifCond .eq 31, 3) := by decide +kernel
theorem dX5_leg_29 : decode cX5_leg 29 = .ok (.iload_n 3, 1) := by decide +kernel
theorem dX5_leg_30 : decode cX5_leg 30 = .ok (.iconst 0, 1) := by decide +kernel
theorem dX5_leg_31 : decode cX5_leg 31 = .ok (.iconst 5, 1) := by decide +kernel
theorem dX5_leg_32 : decode cX5_leg 32 = .ok (.invokestatic 108, 3) := by decide +kernel
theorem dX5_leg_35 : decode cX5_leg 35 = .ok (.ifCond .eq 22, 3) := by decide +kernel
theorem dX5_leg_38 : decode cX5_leg 38 = .ok (.aload_n 0, 1) := by decide +kernel
theorem dX5_leg_39 : decode cX5_leg 39 = .ok (.getfield 69, 3) := by decide +kernel
theorem dX5_leg_42 : decode cX5_leg 42 = .ok (.bipush 8, 2) := by decide +kernel
theorem dX5_leg_44 : decode cX5_leg 44 = .ok (.bipush 24, 2) := by decide +kernel
theorem dX5_leg_46 : decode cX5_leg 46 = .ok (.iload_n 1, 1) := by decide +kernel
theorem dX5_leg_47 : decode cX5_leg 47 = .ok (.imul, 1) := by decide +kernel
theorem dX5_leg_48 : decode cX5_leg 48 = .ok (.iload_n 2, 1) := by decide +kernel
theorem dX5_leg_49 : decode cX5_leg 49 = .ok (.iadd, 1) := by decide +kernel
theorem dX5_leg_50 : decode cX5_leg 50 = .ok (.imul, 1) := by decide +kernel
theorem dX5_leg_51 : decode cX5_leg 51 = .ok (.iload_n 3, 1) := by decide +kernel
theorem dX5_leg_52 : decode cX5_leg 52 = .ok (.iadd, 1) := by decide +kernel
theorem dX5_leg_53 : decode cX5_leg 53 = .ok (.iaload, 1) := by decide +kernel
theorem dX5_leg_54 : decode cX5_leg 54 = .ok (.goto 4, 3) := by decide +kernel
theorem dX5_leg_57 : decode cX5_leg 57 = .ok (.iconst (-1), 1) := by decide +kernel
end
section
theorem dX5_leg_58 : decode cX5_leg 58 = .ok (.ireturn, 1) := by decide +kernel
theorem dX5_hand_0 : decode cX5_hand 0 = .ok (.aload_n 0, 1) := by decide +kernel
theorem dX5_hand_1 : decode cX5_hand 1 = .ok (.iconst 0, 1) := by decide +kernel
theorem dX5_hand_2 : decode cX5_hand 2 = .ok (.putfield 102, 3) := by decide +kernel
theorem dX5_hand_5 : decode cX5_hand 5 = .ok (.aload_n 0, 1) := by decide +kernel
theorem dX5_hand_6 : decode cX5_hand 6 = .ok (.iload_n 1, 1) := by decide +kernel
theorem dX5_hand_7 : decode cX5_hand 7 = .ok (.invokevirtual 157, 3) := by decide +kernel
theorem dX5_hand_10 : decode cX5_hand 10 = .ok (.ifCond .eq 23, 3) := by decide +kernel
theorem dX5_hand_13 : decode cX5_hand 13 = .ok (.aload_n 0, 1) := by decide +kernel
theorem dX5_hand_14 : decode cX5_hand 14 = .ok (.getfield 63, 3) := by decide +kernel
theorem dX5_hand_17 : decode cX5_hand 17 = .ok (.iload_n 1, 1) := by decide +kernel
theorem dX5_hand_18 : decode cX5_hand 18 = .ok (.iaload, 1) := by decide +kernel
theorem dX5_hand_19 : decode cX5_hand 19 = .ok (.ifCond .eq 14, 3) := by decide +kernel
theorem dX5_hand_22 : decode cX5_hand 22 = .ok (.iload_n 2, 1) := by decide +kernel
theorem dX5_hand_23 : decode cX5_hand 23 = .ok (.iconst 0, 1) := by decide +kernel
theorem dX5_hand_24 : decode cX5_hand 24 = .ok (.sipush 4319, 3) := by decide +kernel
theorem dX5_hand_27 : decode cX5_hand 27 = .ok (.invokestatic 108, 3) := by decide +kernel
theorem dX5_hand_30 : decode cX5_hand 30 = .ok (.ifCond .ne 5, 3) := by decide +kernel
theorem dX5_hand_33 : decode cX5_hand 33 = .ok (.iconst (-1), 1) := by decide +kernel
theorem dX5_hand_34 : decode cX5_hand 34 = .ok (.ireturn, 1) := by decide +kernel
theorem dX5_hand_35 : decode cX5_hand 35 = .ok (.iload_n 2, 1) := by decide +kernel
theorem dX5_hand_36 : decode cX5_hand 36 = .ok (.aload_n 0, 1) := by decide +kernel
theorem dX5_hand_37 : decode cX5_hand 37 = .ok (.iload_n 1, 1) := by decide +kernel
theorem dX5_hand_38 : decode cX5_hand 38 = .ok (.invokevirtual 130, 3) := by decide +kernel
theorem dX5_hand_41 : decode cX5_hand 41 = .ok (.if_icmp .le 6, 3) := by decide +kernel
theorem dX5_hand_44 : decode cX5_hand 44 = .ok (.bipush (-3), 2) := by decide +kernel
theorem dX5_hand_46 : decode cX5_hand 46 = .ok (.ireturn, 1) := by decide +kernel
theorem dX5_hand_47 : decode cX5_hand 47 = .ok (.bipush (-2), 2) := by decide +kernel
theorem dX5_hand_49 : decode cX5_hand 49 = .ok (.istore_n 3, 1) := by decide +kernel
theorem dX5_hand_50 : decode cX5_hand 50 = .ok (.iconst 0, 1) := by decide +kernel
theorem dX5_hand_51 : decode cX5_hand 51 = .ok (.istore 4, 2) := by decide +kernel
theorem dX5_hand_53 : decode cX5_hand 53 = .ok (.iload 4, 2) := by decide +kernel
theorem dX5_hand_55 : decode cX5_hand 55 = .ok (.aload_n 0, 1) := by decide +kernel
theorem dX5_hand_56 : decode cX5_hand 56 = .ok (.getfield 72, 3) := by decide +kernel
theorem dX5_hand_59 : decode cX5_hand 59 = .ok (.iload_n 1, 1) := by decide +kernel
theorem dX5_hand_60 : decode cX5_hand 60 = .ok (.iaload, 1) := by decide +kernel
theorem dX5_hand_61 : decode cX5_hand 61 = .ok (.if_icmp .ge 46, 3) := by decide +kernel
theorem dX5_hand_64 : decode cX5_hand 64 = .ok (.aload_n 0, 1) := by decide +kernel
theorem dX5_hand_65 : decode cX5_hand 65 = .ok (.getfield 69, 3) := by decide +kernel
theorem dX5_hand_68 : decode cX5_hand 68 = .ok (.bipush 8, 2) := by decide +kernel
theorem dX5_hand_70 : decode cX5_hand 70 = .ok (.bipush 24, 2) := by decide +kernel
theorem dX5_hand_72 : decode cX5_hand 72 = .ok (.iload_n 1, 1) := by decide +kernel
theorem dX5_hand_73 : decode cX5_hand 73 = .ok (.imul, 1) := by decide +kernel
theorem dX5_hand_74 : decode cX5_hand 74 = .ok (.iload 4, 2) := by decide +kernel
theorem dX5_hand_76 : decode cX5_hand 76 = .ok (.iadd, 1) := by decide +kernel
theorem dX5_hand_77 : decode cX5_hand 77 = .ok (.imul, 1) := by decide +kernel
theorem dX5_hand_78 : decode cX5_hand 78 = .ok (.iconst 3, 1) := by decide +kernel
theorem dX5_hand_79 : decode cX5_hand 79 = .ok (.iadd, 1) := by decide +kernel
theorem dX5_hand_80 : decode cX5_hand 80 = .ok (.iaload, 1) := by decide +kernel
theorem dX5_hand_81 : decode cX5_hand 81 = .ok (.iload_n 2, 1) := by decide +kernel
theorem dX5_hand_82 : decode cX5_hand 82 = .ok (.if_icmp .gt 19, 3) := by decide +kernel
theorem dX5_hand_85 : decode cX5_hand 85 = .ok (.aload_n 0, 1) := by decide +kernel
theorem dX5_hand_86 : decode cX5_hand 86 = .ok (.getfield 69, 3) := by decide +kernel
theorem dX5_hand_89 : decode cX5_hand 89 = .ok (.bipush 8, 2) := by decide +kernel
theorem dX5_hand_91 : decode cX5_hand 91 = .ok (.bipush 24, 2) := by decide +kernel
theorem dX5_hand_93 : decode cX5_hand 93 = .ok (.iload_n 1, 1) := by decide +kernel
theorem dX5_hand_94 : decode cX5_hand 94 = .ok (.imul, 1) := by decide +kernel
theorem dX5_hand_95 : decode cX5_hand 95 = .ok (.iload 4, 2) := by decide +kernel
theorem dX5_hand_97 : decode cX5_hand 97 = .ok (.iadd, 1) := by decide +kernel
theorem dX5_hand_98 : decode cX5_hand 98 = .ok (.imul, 1) := by decide +kernel
theorem dX5_hand_99 : decode cX5_hand 99 = .ok (.iaload, 1) := by decide +kernel
theorem dX5_hand_100 : decode cX5_hand 100 = .ok (.istore_n 3, 1) := by decide +kernel
theorem dX5_hand_101 : decode cX5_hand 101 = .ok (.iinc 4 1, 3) := by decide +kernel
theorem dX5_hand_104 : decode cX5_hand 104 = .ok (.goto (-51), 3) := by decide +kernel
theorem dX5_hand_107 : decode cX5_hand 107 = .ok (.iload_n 3, 1) := by decide +kernel
theorem dX5_hand_108 : decode cX5_hand 108 = .ok (.ireturn, 1) := by decide +kernel
theorem dX5_fail_0 : decode cX5_fail 0 = .ok (.aload_n 0, 1) := by decide +kernel
theorem dX5_fail_1 : decode cX5_fail 1 = .ok (.iconst 0, 1) := by decide +kernel
theorem dX5_fail_2 : decode cX5_fail 2 = .ok (.putfield 102, 3) := by decide +kernel
theorem dX5_fail_5 : decode cX5_fail 5 = .ok (.aload_n 0, 1) := by decide +kernel
theorem dX5_fail_6 : decode cX5_fail 6 = .ok (.iload_n 1, 1) := by decide +kernel
theorem dX5_fail_7 : decode cX5_fail 7 = .ok (.invokevirtual 157, 3) := by decide +kernel
theorem dX5_fail_10 : decode cX5_fail 10 = .ok (.ifCond .eq 27, 3) := by decide +kernel
theorem dX5_fail_13 : decode cX5_fail 13 = .ok (.iload_n 1, 1) := by decide +kernel
theorem dX5_fail_14 : decode cX5_fail 14 = .ok (.aload_n 0, 1) := by decide +kernel
theorem dX5_fail_15 : decode cX5_fail 15 = .ok (.getfield 66, 3) := by decide +kernel
theorem dX5_fail_18 : decode cX5_fail 18 = .ok (.if_icmp .ne 19, 3) := by decide +kernel
theorem dX5_fail_21 : decode cX5_fail 21 = .ok (.iload_n 2, 1) := by decide +kernel
theorem dX5_fail_22 : decode cX5_fail 22 = .ok (.iconst 0, 1) := by decide +kernel
theorem dX5_fail_23 : decode cX5_fail 23 = .ok (.aload_n 0, 1) := by decide +kernel
theorem dX5_fail_24 : decode cX5_fail 24 = .ok (.getfield 72, 3) := by decide +kernel
theorem dX5_fail_27 : decode cX5_fail 27 = .ok (.iload_n 1, 1) := by decide +kernel
theorem dX5_fail_28 : decode cX5_fail 28 = .ok (.iaload, 1) := by decide +kernel
theorem dX5_fail_29 : decode cX5_fail 29 = .ok (.iconst 1, 1) := by decide +kernel
theorem dX5_fail_30 : decode cX5_fail 30 = .ok (.isub, 1) := by decide +kernel
theorem dX5_fail_31 : decode cX5_fail 31 = .ok (.invokestatic 108, 3) := by decide +kernel
theorem dX5_fail_34 : decode cX5_fail 34 = .ok (.ifCond .ne 5, 3) := by decide +kernel
theorem dX5_fail_37 : decode cX5_fail 37 = .ok (.iconst (-1), 1) := by decide +kernel
theorem dX5_fail_38 : decode cX5_fail 38 = .ok (.ireturn, 1) := by decide +kernel
theorem dX5_fail_39 : decode cX5_fail 39 = .ok (.bipush 8, 2) := by decide +kernel
theorem dX5_fail_41 : decode cX5_fail 41 = .ok (.bipush 24, 2) := by decide +kernel
theorem dX5_fail_43 : decode cX5_fail 43 = .ok (.iload_n 1, 1) := by decide +kernel
theorem dX5_fail_44 : decode cX5_fail 44 = .ok (.imul, 1) := by decide +kernel
theorem dX5_fail_45 : decode cX5_fail 45 = .ok (.iload_n 2, 1) := by decide +kernel
theorem dX5_fail_46 : decode cX5_fail 46 = .ok (.iadd, 1) := by decide +kernel
theorem dX5_fail_47 : decode cX5_fail 47 = .ok (.imul, 1) := by decide +kernel
theorem dX5_fail_48 : decode cX5_fail 48 = .ok (.istore 4, 2) := by decide +kernel
theorem dX5_fail_50 : decode cX5_fail 50 = .ok (.iload_n 3, 1) := by decide +kernel
theorem dX5_fail_51 : decode cX5_fail 51 = .ok (.aload_n 0, 1) := by decide +kernel
theorem dX5_fail_52 : decode cX5_fail 52 = .ok (.getfield 69, 3) := by decide +kernel
theorem dX5_fail_55 : decode cX5_fail 55 = .ok (.iload 4, 2) := by decide +kernel
theorem dX5_fail_57 : decode cX5_fail 57 = .ok (.iconst 3, 1) := by decide +kernel
theorem dX5_fail_58 : decode cX5_fail 58 = .ok (.iadd, 1) := by decide +kernel
theorem dX5_fail_59 : decode cX5_fail 59 = .ok (.iaload, 1) := by decide +kernel
theorem dX5_fail_60 : decode cX5_fail 60 = .ok (.aload_n 0, 1) := by decide +kernel
theorem dX5_fail_61 : decode cX5_fail 61 = .ok (.getfield 69, 3) := by decide +kernel
theorem dX5_fail_64 : decode cX5_fail 64 = .ok (.iload 4, 2) := by decide +kernel
theorem dX5_fail_66 : decode cX5_fail 66 = .ok (.iconst 4, 1) := by decide +kernel
theorem dX5_fail_67 : decode cX5_fail 67 = .ok (.iadd, 1) := by decide +kernel
theorem dX5_fail_68 : decode cX5_fail 68 = .ok (.iaload, 1) := by decide +kernel
theorem dX5_fail_69 : decode cX5_fail 69 = .ok (.invokestatic 108, 3) := by decide +kernel
theorem dX5_fail_72 : decode cX5_fail 72 = .ok (.ifCond .ne 5, 3) := by decide +kernel
theorem dX5_fail_75 : decode cX5_fail 75 = .ok (.iconst (-1), 1) := by decide +kernel
theorem dX5_fail_76 : decode cX5_fail 76 = .ok (.ireturn, 1) := by decide +kernel
theorem dX5_fail_77 : decode cX5_fail 77 = .ok (.iload_n 2, 1) := by decide +kernel
theorem dX5_fail_78 : decode cX5_fail 78 = .ok (.istore 5, 2) := by decide +kernel
theorem dX5_fail_80 : decode cX5_fail 80 = .ok (.iload 5, 2) := by decide +kernel
theorem dX5_fail_82 : decode cX5_fail 82 = .ok (.aload_n 0, 1) := by decide +kernel
theorem dX5_fail_83 : decode cX5_fail 83 = .ok (.getfield 72, 3) := by decide +kernel
theorem dX5_fail_86 : decode cX5_fail 86 = .ok (.iload_n 1, 1) := by decide +kernel
theorem dX5_fail_87 : decode cX5_fail 87 = .ok (.iaload, 1) := by decide +kernel
theorem dX5_fail_88 : decode cX5_fail 88 = .ok (.if_icmp .ge 32, 3) := by decide +kernel
theorem dX5_fail_91 : decode cX5_fail 91 = .ok (.aload_n 0, 1) := by decide +kernel
theorem dX5_fail_92 : decode cX5_fail 92 = .ok (.getfield 69, 3) := by decide +kernel
theorem dX5_fail_95 : decode cX5_fail 95 = .ok (.bipush 8, 2) := by decide +kernel
theorem dX5_fail_97 : decode cX5_fail 97 = .ok (.bipush 24, 2) := by decide +kernel
theorem dX5_fail_99 : decode cX5_fail 99 = .ok (.iload_n 1, 1) := by decide +kernel
theorem dX5_fail_100 : decode cX5_fail 100 = .ok (.imul, 1) := by decide +kernel
theorem dX5_fail_101 : decode cX5_fail 101 = .ok (.iload 5, 2) := by decide +kernel
theorem dX5_fail_103 : decode cX5_fail 103 = .ok (.iadd, 1) := by decide +kernel
theorem dX5_fail_104 : decode cX5_fail 104 = .ok (.imul, 1) := by decide +kernel
theorem dX5_fail_105 : decode cX5_fail 105 = .ok (.iconst 5, 1) := by decide +kernel
theorem dX5_fail_106 : decode cX5_fail 106 = .ok (.iadd, 1) := by decide +kernel
theorem dX5_fail_107 : decode cX5_fail 107 = .ok (.iaload, 1) := by decide +kernel
theorem dX5_fail_108 : decode cX5_fail 108 = .ok (.iconst 1, 1) := by decide +kernel
theorem dX5_fail_109 : decode cX5_fail 109 = .ok (.if_icmp .ne 5, 3) := by decide +kernel
theorem dX5_fail_112 : decode cX5_fail 112 = .ok (.iconst (-1), 1) := by decide +kernel
theorem dX5_fail_113 : decode cX5_fail 113 = .ok (.ireturn, 1) := by decide +kernel
theorem dX5_fail_114 : decode cX5_fail 114 = .ok (.iinc 5 1, 3) := by decide +kernel
theorem dX5_fail_117 : decode cX5_fail 117 = .ok (.goto (-37), 3) := by decide +kernel
theorem dX5_fail_120 : decode cX5_fail 120 = .ok (.aload_n 0, 1) := by decide +kernel
theorem dX5_fail_121 : decode cX5_fail 121 = .ok (.getfield 72, 3) := by decide +kernel
theorem dX5_fail_124 : decode cX5_fail 124 = .ok (.iload_n 1, 1) := by decide +kernel
theorem dX5_fail_125 : decode cX5_fail 125 = .ok (.iaload, 1) := by decide +kernel
theorem dX5_fail_126 : decode cX5_fail 126 = .ok (.iconst 1, 1) := by decide +kernel
theorem dX5_fail_127 : decode cX5_fail 127 = .ok (.isub, 1) := by decide +kernel
theorem dX5_fail_128 : decode cX5_fail 128 = .ok (.istore 5, 2) := by decide +kernel
theorem dX5_fail_130 : decode cX5_fail 130 = .ok (.iload 5, 2) := by decide +kernel
theorem dX5_fail_132 : decode cX5_fail 132 = .ok (.iload_n 2, 1) := by decide +kernel
theorem dX5_fail_133 : decode cX5_fail 133 = .ok (.if_icmp .le 104, 3) := by decide +kernel
theorem dX5_fail_136 : decode cX5_fail 136 = .ok (.bipush 8, 2) := by decide +kernel
theorem dX5_fail_138 : decode cX5_fail 138 = .ok (.bipush 24, 2) := by decide +kernel
theorem dX5_fail_140 : decode cX5_fail 140 = .ok (.iload_n 1, 1) := by decide +kernel
theorem dX5_fail_141 : decode cX5_fail 141 = .ok (.imul, 1) := by decide +kernel
theorem dX5_fail_142 : decode cX5_fail 142 = .ok (.iload 5, 2) := by decide +kernel
theorem dX5_fail_144 : decode cX5_fail 144 = .ok (.iadd, 1) := by decide +kernel
theorem dX5_fail_145 : decode cX5_fail 145 = .ok (.imul, 1) := by decide +kernel
theorem dX5_fail_146 : decode cX5_fail 146 = .ok (.istore 6, 2) := by decide +kernel
theorem dX5_fail_148 : decode cX5_fail 148 = .ok (.aload_n 0, 1) := by decide +kernel
theorem dX5_fail_149 : decode cX5_fail 149 = .ok (.getfield 69, 3) := by decide +kernel
theorem dX5_fail_152 : decode cX5_fail 152 = .ok (.iload 6, 2) := by decide +kernel
theorem dX5_fail_154 : decode cX5_fail 154 = .ok (.iaload, 1) := by decide +kernel
theorem dX5_fail_155 : decode cX5_fail 155 = .ok (.istore 7, 2) := by decide +kernel
theorem dX5_fail_157 : decode cX5_fail 157 = .ok (.aload_n 0, 1) := by decide +kernel
theorem dX5_fail_158 : decode cX5_fail 158 = .ok (.getfield 28, 3) := by decide +kernel
theorem dX5_fail_161 : decode cX5_fail 161 = .ok (.iload 7, 2) := by decide +kernel
theorem dX5_fail_163 : decode cX5_fail 163 = .ok (.aload_n 0, 1) := by decide +kernel
theorem dX5_fail_164 : decode cX5_fail 164 = .ok (.getfield 69, 3) := by decide +kernel
theorem dX5_fail_167 : decode cX5_fail 167 = .ok (.iload 6, 2) := by decide +kernel
theorem dX5_fail_169 : decode cX5_fail 169 = .ok (.bipush 6, 2) := by decide +kernel
theorem dX5_fail_171 : decode cX5_fail 171 = .ok (.iadd, 1) := by decide +kernel
theorem dX5_fail_172 : decode cX5_fail 172 = .ok (.iaload, 1) := by decide +kernel
theorem dX5_fail_173 : decode cX5_fail 173 = .ok (.iastore, 1) := by decide +kernel
theorem dX5_fail_174 : decode cX5_fail 174 = .ok (.aload_n 0, 1) := by decide +kernel
theorem dX5_fail_175 : decode cX5_fail 175 = .ok (.getfield 31, 3) := by decide +kernel
theorem dX5_fail_178 : decode cX5_fail 178 = .ok (.iload 7, 2) := by decide +kernel
theorem dX5_fail_180 : decode cX5_fail 180 = .ok (.aload_n 0, 1) := by decide +kernel
theorem dX5_fail_181 : decode cX5_fail 181 = .ok (.getfield 69, 3) := by decide +kernel
theorem dX5_fail_184 : decode cX5_fail 184 = .ok (.iload 6, 2) := by decide +kernel
theorem dX5_fail_186 : decode cX5_fail 186 = .ok (.bipush 7, 2) := by decide +kernel
theorem dX5_fail_188 : decode cX5_fail 188 = .ok (.iadd, 1) := by decide +kernel
theorem dX5_fail_189 : decode cX5_fail 189 = .ok (.iaload, 1) := by decide +kernel
theorem dX5_fail_190 : decode cX5_fail 190 = .ok (.iastore, 1) := by decide +kernel
theorem dX5_fail_191 : decode cX5_fail 191 = .ok (.aload_n 0, 1) := by decide +kernel
theorem dX5_fail_192 : decode cX5_fail 192 = .ok (.getfield 38, 3) := by decide +kernel
theorem dX5_fail_195 : decode cX5_fail 195 = .ok (.iload 7, 2) := by decide +kernel
theorem dX5_fail_197 : decode cX5_fail 197 = .ok (.dup2, 1) := by decide +kernel
theorem dX5_fail_198 : decode cX5_fail 198 = .ok (.iaload, 1) := by decide +kernel
theorem dX5_fail_199 : decode cX5_fail 199 = .ok (.iconst 1, 1) := by decide +kernel
theorem dX5_fail_200 : decode cX5_fail 200 = .ok (.isub, 1) := by decide +kernel
theorem dX5_fail_201 : decode cX5_fail 201 = .ok (.iastore, 1) := by decide +kernel
theorem dX5_fail_202 : decode cX5_fail 202 = .ok (.aload_n 0, 1) := by decide +kernel
theorem dX5_fail_203 : decode cX5_fail 203 = .ok (.getfield 41, 3) := by decide +kernel
theorem dX5_fail_206 : decode cX5_fail 206 = .ok (.iload 7, 2) := by decide +kernel
theorem dX5_fail_208 : decode cX5_fail 208 = .ok (.dup2, 1) := by decide +kernel
theorem dX5_fail_209 : decode cX5_fail 209 = .ok (.iaload, 1) := by decide +kernel
theorem dX5_fail_210 : decode cX5_fail 210 = .ok (.aload_n 0, 1) := by decide +kernel
theorem dX5_fail_211 : decode cX5_fail 211 = .ok (.getfield 69, 3) := by decide +kernel
theorem dX5_fail_214 : decode cX5_fail 214 = .ok (.iload 6, 2) := by decide +kernel
theorem dX5_fail_216 : decode cX5_fail 216 = .ok (.iconst 4, 1) := by decide +kernel
theorem dX5_fail_217 : decode cX5_fail 217 = .ok (.iadd, 1) := by decide +kernel
theorem dX5_fail_218 : decode cX5_fail 218 = .ok (.iaload, 1) := by decide +kernel
theorem dX5_fail_219 : decode cX5_fail 219 = .ok (.aload_n 0, 1) := by decide +kernel
theorem dX5_fail_220 : decode cX5_fail 220 = .ok (.getfield 69, 3) := by decide +kernel
theorem dX5_fail_223 : decode cX5_fail 223 = .ok (.iload 6, 2) := by decide +kernel
theorem dX5_fail_225 : decode cX5_fail 225 = .ok (.iconst 3, 1) := by decide +kernel
theorem dX5_fail_226 : decode cX5_fail 226 = .ok (.iadd, 1) := by decide +kernel
theorem dX5_fail_227 : decode cX5_fail 227 = .ok (.iaload, 1) := by decide +kernel
theorem dX5_fail_228 : decode cX5_fail 228 = .ok (.isub, 1) := by decide +kernel
theorem dX5_fail_229 : decode cX5_fail 229 = .ok (.isub, 1) := by decide +kernel
theorem dX5_fail_230 : decode cX5_fail 230 = .ok (.iastore, 1) := by decide +kernel
theorem dX5_fail_231 : decode cX5_fail 231 = .ok (.iinc 5 (-1), 3) := by decide +kernel
theorem dX5_fail_234 : decode cX5_fail 234 = .ok (.goto (-104), 3) := by decide +kernel
theorem dX5_fail_237 : decode cX5_fail 237 = .ok (.aload_n 0, 1) := by decide +kernel
theorem dX5_fail_238 : decode cX5_fail 238 = .ok (.getfield 72, 3) := by decide +kernel
theorem dX5_fail_241 : decode cX5_fail 241 = .ok (.iload_n 1, 1) := by decide +kernel
theorem dX5_fail_242 : decode cX5_fail 242 = .ok (.iload_n 2, 1) := by decide +kernel
theorem dX5_fail_243 : decode cX5_fail 243 = .ok (.iconst 1, 1) := by decide +kernel
theorem dX5_fail_244 : decode cX5_fail 244 = .ok (.iadd, 1) := by decide +kernel
theorem dX5_fail_245 : decode cX5_fail 245 = .ok (.iastore, 1) := by decide +kernel
theorem dX5_fail_246 : decode cX5_fail 246 = .ok (.aload_n 0, 1) := by decide +kernel
theorem dX5_fail_247 : decode cX5_fail 247 = .ok (.getfield 69, 3) := by decide +kernel
theorem dX5_fail_250 : decode cX5_fail 250 = .ok (.iload 4, 2) := by decide +kernel
theorem dX5_fail_252 : decode cX5_fail 252 = .ok (.iaload, 1) := by decide +kernel
theorem dX5_fail_253 : decode cX5_fail 253 = .ok (.istore 5, 2) := by decide +kernel
theorem dX5_fail_255 : decode cX5_fail 255 = .ok (.aload_n 0, 1) := by decide +kernel
theorem dX5_fail_256 : decode cX5_fail 256 = .ok (.getfield 41, 3) := by decide +kernel
theorem dX5_fail_259 : decode cX5_fail 259 = .ok (.iload 5, 2) := by decide +kernel
theorem dX5_fail_261 : decode cX5_fail 261 = .ok (.dup2, 1) := by decide +kernel
theorem dX5_fail_262 : decode cX5_fail 262 = .ok (.iaload, 1) := by decide +kernel
theorem dX5_fail_263 : decode cX5_fail 263 = .ok (.iload_n 3, 1) := by decide +kernel
theorem dX5_fail_264 : decode cX5_fail 264 = .ok (.aload_n 0, 1) := by decide +kernel
theorem dX5_fail_265 : decode cX5_fail 265 = .ok (.getfield 69, 3) := by decide +kernel
theorem dX5_fail_268 : decode cX5_fail 268 = .ok (.iload 4, 2) := by decide +kernel
theorem dX5_fail_270 : decode cX5_fail 270 = .ok (.iconst 4, 1) := by decide +kernel
theorem dX5_fail_271 : decode cX5_fail 271 = .ok (.iadd, 1) := by decide +kernel
theorem dX5_fail_272 : decode cX5_fail 272 = .ok (.iaload, 1) := by decide +kernel
theorem dX5_fail_273 : decode cX5_fail 273 = .ok (.isub, 1) := by decide +kernel
theorem dX5_fail_274 : decode cX5_fail 274 = .ok (.iadd, 1) := by decide +kernel
theorem dX5_fail_275 : decode cX5_fail 275 = .ok (.iastore, 1) := by decide +kernel
theorem dX5_fail_276 : decode cX5_fail 276 = .ok (.aload_n 0, 1) := by decide +kernel
theorem dX5_fail_277 : decode cX5_fail 277 = .ok (.getfield 69, 3) := by decide +kernel
theorem dX5_fail_280 : decode cX5_fail 280 = .ok (.iload 4, 2) := by decide +kernel
theorem dX5_fail_282 : decode cX5_fail 282 = .ok (.iconst 2, 1) := by decide +kernel
theorem dX5_fail_283 : decode cX5_fail 283 = .ok (.iadd, 1) := by decide +kernel
theorem dX5_fail_284 : decode cX5_fail 284 = .ok (.aload_n 0, 1) := by decide +kernel
theorem dX5_fail_285 : decode cX5_fail 285 = .ok (.getfield 69, 3) := by decide +kernel
theorem dX5_fail_288 : decode cX5_fail 288 = .ok (.iload 4, 2) := by decide +kernel
theorem dX5_fail_290 : decode cX5_fail 290 = .ok (.iconst 1, 1) := by decide +kernel
theorem dX5_fail_291 : decode cX5_fail 291 = .ok (.iadd, 1) := by decide +kernel
theorem dX5_fail_292 : decode cX5_fail 292 = .ok (.iaload, 1) := by decide +kernel
theorem dX5_fail_293 : decode cX5_fail 293 = .ok (.iastore, 1) := by decide +kernel
theorem dX5_fail_294 : decode cX5_fail 294 = .ok (.aload_n 0, 1) := by decide +kernel
theorem dX5_fail_295 : decode cX5_fail 295 = .ok (.getfield 69, 3) := by decide +kernel
theorem dX5_fail_298 : decode cX5_fail 298 = .ok (.iload 4, 2) := by decide +kernel
theorem dX5_fail_300 : decode cX5_fail 300 = .ok (.iconst 4, 1) := by decide +kernel
theorem dX5_fail_301 : decode cX5_fail 301 = .ok (.iadd, 1) := by decide +kernel
theorem dX5_fail_302 : decode cX5_fail 302 = .ok (.iload_n 3, 1) := by decide +kernel
theorem dX5_fail_303 : decode cX5_fail 303 = .ok (.iastore, 1) := by decide +kernel
theorem dX5_fail_304 : decode cX5_fail 304 = .ok (.aload_n 0, 1) := by decide +kernel
theorem dX5_fail_305 : decode cX5_fail 305 = .ok (.getfield 69, 3) := by decide +kernel
theorem dX5_fail_308 : decode cX5_fail 308 = .ok (.iload 4, 2) := by decide +kernel
theorem dX5_fail_310 : decode cX5_fail 310 = .ok (.iconst 5, 1) := by decide +kernel
theorem dX5_fail_311 : decode cX5_fail 311 = .ok (.iadd, 1) := by decide +kernel
theorem dX5_fail_312 : decode cX5_fail 312 = .ok (.iconst 1, 1) := by decide +kernel
theorem dX5_fail_313 : decode cX5_fail 313 = .ok (.iastore, 1) := by decide +kernel
theorem dX5_fail_314 : decode cX5_fail 314 = .ok (.aload_n 0, 1) := by decide +kernel
theorem dX5_fail_315 : decode cX5_fail 315 = .ok (.getfield 28, 3) := by decide +kernel
theorem dX5_fail_318 : decode cX5_fail 318 = .ok (.iload 5, 2) := by decide +kernel
theorem dX5_fail_320 : decode cX5_fail 320 = .ok (.aload_n 0, 1) := by decide +kernel
theorem dX5_fail_321 : decode cX5_fail 321 = .ok (.getfield 69, 3) := by decide +kernel
theorem dX5_fail_324 : decode cX5_fail 324 = .ok (.iload 4, 2) := by decide +kernel
theorem dX5_fail_326 : decode cX5_fail 326 = .ok (.iconst 1, 1) := by decide +kernel
theorem dX5_fail_327 : decode cX5_fail 327 = .ok (.iadd, 1) := by decide +kernel
theorem dX5_fail_328 : decode cX5_fail 328 = .ok (.iaload, 1) := by decide +kernel
theorem dX5_fail_329 : decode cX5_fail 329 = .ok (.iastore, 1) := by decide +kernel
theorem dX5_fail_330 : decode cX5_fail 330 = .ok (.aload_n 0, 1) := by decide +kernel
theorem dX5_fail_331 : decode cX5_fail 331 = .ok (.getfield 34, 3) := by decide +kernel
theorem dX5_fail_334 : decode cX5_fail 334 = .ok (.iload 5, 2) := by decide +kernel
theorem dX5_fail_336 : decode cX5_fail 336 = .ok (.iconst 1, 1) := by decide +kernel
theorem dX5_fail_337 : decode cX5_fail 337 = .ok (.bastore, 1) := by decide +kernel
theorem dX5_fail_338 : decode cX5_fail 338 = .ok (.aload_n 0, 1) := by decide +kernel
theorem dX5_fail_339 : decode cX5_fail 339 = .ok (.aload_n 0, 1) := by decide +kernel
theorem dX5_fail_340 : decode cX5_fail 340 = .ok (.getfield 48, 3) := by decide +kernel
theorem dX5_fail_343 : decode cX5_fail 343 = .ok (.iload_n 1, 1) := by decide +kernel
theorem dX5_fail_344 : decode cX5_fail 344 = .ok (.iaload, 1) := by decide +kernel
theorem dX5_fail_345 : decode cX5_fail 345 = .ok (.aload_n 0, 1) := by decide +kernel
theorem dX5_fail_346 : decode cX5_fail 346 = .ok (.getfield 69, 3) := by decide +kernel
theorem dX5_fail_349 : decode cX5_fail 349 = .ok (.iload 4, 2) := by decide +kernel
theorem dX5_fail_351 : decode cX5_fail 351 = .ok (.iconst 1, 1) := by decide +kernel
theorem dX5_fail_352 : decode cX5_fail 352 = .ok (.iadd, 1) := by decide +kernel
theorem dX5_fail_353 : decode cX5_fail 353 = .ok (.iaload, 1) := by decide +kernel
theorem dX5_fail_354 : decode cX5_fail 354 = .ok (.iload_n 3, 1) := by decide +kernel
theorem dX5_fail_355 : decode cX5_fail 355 = .ok (.aload_n 0, 1) := by decide +kernel
theorem dX5_fail_356 : decode cX5_fail 356 = .ok (.getfield 54, 3) := by decide +kernel
theorem dX5_fail_359 : decode cX5_fail 359 = .ok (.iload_n 1, 1) := by decide +kernel
theorem dX5_fail_360 : decode cX5_fail 360 = .ok (.iaload, 1) := by decide +kernel
theorem dX5_fail_361 : decode cX5_fail 361 = .ok (.invokevirtual 160, 3) := by decide +kernel
theorem dX5_fail_364 : decode cX5_fail 364 = .ok (.ifCond .ne 13, 3) := by decide +kernel
theorem dX5_fail_367 : decode cX5_fail 367 = .ok (.aload_n 0, 1) := by decide +kernel
theorem dX5_fail_368 : decode cX5_fail 368 = .ok (.getfield 63, 3) := by decide +kernel
theorem dX5_fail_371 : decode cX5_fail 371 = .ok (.iload_n 1, 1) := by decide +kernel
theorem dX5_fail_372 : decode cX5_fail 372 = .ok (.iconst 2, 1) := by decide +kernel
theorem dX5_fail_373 : decode cX5_fail 373 = .ok (.iastore, 1) := by decide +kernel
theorem dX5_fail_374 : decode cX5_fail 374 = .ok (.bipush (-2), 2) := by decide +kernel
theorem dX5_fail_376 : decode cX5_fail 376 = .ok (.ireturn, 1) := by decide +kernel
theorem dX5_fail_377 : decode cX5_fail 377 = .ok (.aload_n 0, 1) := by decide +kernel
theorem dX5_fail_378 : decode cX5_fail 378 = .ok (.iload_n 1, 1) := by decide +kernel
theorem dX5_fail_379 : decode cX5_fail 379 = .ok (.aload_n 0, 1) := by decide +kernel
theorem dX5_fail_380 : decode cX5_fail 380 = .ok (.getfield 69, 3) := by decide +kernel
theorem dX5_fail_383 : decode cX5_fail 383 = .ok (.iload 4, 2) := by decide +kernel
theorem dX5_fail_385 : decode cX5_fail 385 = .ok (.iconst 1, 1) := by decide +kernel
theorem dX5_fail_386 : decode cX5_fail 386 = .ok (.iadd, 1) := by decide +kernel
theorem dX5_fail_387 : decode cX5_fail 387 = .ok (.iaload, 1) := by decide +kernel
theorem dX5_fail_388 : decode cX5_fail 388 = .ok (.invokevirtual 164, 3) := by decide +kernel
theorem dX5_fail_391 : decode cX5_fail 391 = .ok (.aload_n 0, 1) := by decide +kernel
theorem dX5_fail_392 : decode cX5_fail 392 = .ok (.iload_n 1, 1) := by decide +kernel
theorem dX5_fail_393 : decode cX5_fail 393 = .ok (.invokevirtual 130, 3) := by decide +kernel
theorem dX5_fail_396 : decode cX5_fail 396 = .ok (.ireturn, 1) := by decide +kernel
theorem dX5_next_0 : decode cX5_next 0 = .ok (.aload_n 0, 1) := by decide +kernel
theorem dX5_next_1 : decode cX5_next 1 = .ok (.iconst 0, 1) := by decide +kernel
theorem dX5_next_2 : decode cX5_next 2 = .ok (.putfield 102, 3) := by decide +kernel
theorem dX5_next_5 : decode cX5_next 5 = .ok (.iload_n 1, 1) := by decide +kernel
theorem dX5_next_6 : decode cX5_next 6 = .ok (.iconst 0, 1) := by decide +kernel
theorem dX5_next_7 : decode cX5_next 7 = .ok (.iconst 3, 1) := by decide +kernel
theorem dX5_next_8 : decode cX5_next 8 = .ok (.invokestatic 108, 3) := by decide +kernel
theorem dX5_next_11 : decode cX5_next 11 = .ok (.ifCond .eq 11, 3) := by decide +kernel
theorem dX5_next_14 : decode cX5_next 14 = .ok (.aload_n 0, 1) := by decide +kernel
theorem dX5_next_15 : decode cX5_next 15 = .ok (.iload_n 2, 1) := by decide +kernel
theorem dX5_next_16 : decode cX5_next 16 = .ok (.invokevirtual 118, 3) := by decide +kernel
theorem dX5_next_19 : decode cX5_next 19 = .ok (.ifCond .ne 5, 3) := by decide +kernel
theorem dX5_next_22 : decode cX5_next 22 = .ok (.iconst (-1), 1) := by decide +kernel
theorem dX5_next_23 : decode cX5_next 23 = .ok (.ireturn, 1) := by decide +kernel
theorem dX5_next_24 : decode cX5_next 24 = .ok (.iconst (-1), 1) := by decide +kernel
theorem dX5_next_25 : decode cX5_next 25 = .ok (.istore_n 3, 1) := by decide +kernel
theorem dX5_next_26 : decode cX5_next 26 = .ok (.iconst 0, 1) := by decide +kernel
theorem dX5_next_27 : decode cX5_next 27 = .ok (.istore 4, 2) := by decide +kernel
theorem dX5_next_29 : decode cX5_next 29 = .ok (.iconst 0, 1) := by decide +kernel
theorem dX5_next_30 : decode cX5_next 30 = .ok (.istore 5, 2) := by decide +kernel
theorem dX5_next_32 : decode cX5_next 32 = .ok (.iload 5, 2) := by decide +kernel
theorem dX5_next_34 : decode cX5_next 34 = .ok (.aload_n 0, 1) := by decide +kernel
theorem dX5_next_35 : decode cX5_next 35 = .ok (.getfield 112, 3) := by decide +kernel
theorem dX5_next_38 : decode cX5_next 38 = .ok (.if_icmp .ge 133, 3) := by decide +kernel
theorem dX5_next_41 : decode cX5_next 41 = .ok (.aload_n 0, 1) := by decide +kernel
theorem dX5_next_42 : decode cX5_next 42 = .ok (.iload 5, 2) := by decide +kernel
theorem dX5_next_44 : decode cX5_next 44 = .ok (.aload_n 0, 1) := by decide +kernel
theorem dX5_next_45 : decode cX5_next 45 = .ok (.getfield 28, 3) := by decide +kernel
theorem dX5_next_48 : decode cX5_next 48 = .ok (.iload 5, 2) := by decide +kernel
theorem dX5_next_50 : decode cX5_next 50 = .ok (.iaload, 1) := by decide +kernel
theorem dX5_next_51 : decode cX5_next 51 = .ok (.iload_n 2, 1) := by decide +kernel
theorem dX5_next_52 : decode cX5_next 52 = .ok (.invokevirtual 126, 3) := by decide +kernel
theorem dX5_next_55 : decode cX5_next 55 = .ok (.istore 6, 2) := by decide +kernel
theorem dX5_next_57 : decode cX5_next 57 = .ok (.aload_n 0, 1) := by decide +kernel
theorem dX5_next_58 : decode cX5_next 58 = .ok (.iload 5, 2) := by decide +kernel
theorem dX5_next_60 : decode cX5_next 60 = .ok (.iload_n 1, 1) := by decide +kernel
theorem dX5_next_61 : decode cX5_next 61 = .ok (.invokevirtual 134, 3) := by decide +kernel
theorem dX5_next_64 : decode cX5_next 64 = .ok (.ifCond .eq 101, 3) := by decide +kernel
theorem dX5_next_67 : decode cX5_next 67 = .ok (.iload 6, 2) := by decide +kernel
theorem dX5_next_69 : decode cX5_next 69 = .ok (.ldc 122, 2) := by decide +kernel
theorem dX5_next_71 : decode cX5_next 71 = .ok (.if_icmp .ne 6, 3) := by decide +kernel
theorem dX5_next_74 : decode cX5_next 74 = .ok (.goto 91, 3) := by decide +kernel
theorem dX5_next_77 : decode cX5_next 77 = .ok (.aload_n 0, 1) := by decide +kernel
theorem dX5_next_78 : decode cX5_next 78 = .ok (.getfield 31, 3) := by decide +kernel
theorem dX5_next_81 : decode cX5_next 81 = .ok (.iload 5, 2) := by decide +kernel
theorem dX5_next_83 : decode cX5_next 83 = .ok (.iaload, 1) := by decide +kernel
theorem dX5_next_84 : decode cX5_next 84 = .ok (.aload_n 0, 1) := by decide +kernel
theorem dX5_next_85 : decode cX5_next 85 = .ok (.getfield 19, 3) := by decide +kernel
theorem dX5_next_88 : decode cX5_next 88 = .ok (.iload 5, 2) := by decide +kernel
theorem dX5_next_90 : decode cX5_next 90 = .ok (.iaload, 1) := by decide +kernel
theorem dX5_next_91 : decode cX5_next 91 = .ok (.invokestatic 145, 3) := by decide +kernel
theorem dX5_next_94 : decode cX5_next 94 = .ok (.iload 6, 2) := by decide +kernel
theorem dX5_next_96 : decode cX5_next 96 = .ok (.iadd, 1) := by decide +kernel
theorem dX5_next_97 : decode cX5_next 97 = .ok (.istore 7, 2) := by decide +kernel
theorem dX5_next_99 : decode cX5_next 99 = .ok (.iload 7, 2) := by decide +kernel
theorem dX5_next_101 : decode cX5_next 101 = .ok (.aload_n 0, 1) := by decide +kernel
theorem dX5_next_102 : decode cX5_next 102 = .ok (.getfield 22, 3) := by decide +kernel
theorem dX5_next_105 : decode cX5_next 105 = .ok (.iload 5, 2) := by decide +kernel
theorem dX5_next_107 : decode cX5_next 107 = .ok (.iaload, 1) := by decide +kernel
theorem dX5_next_108 : decode cX5_next 108 = .ok (.if_icmp .gt 57, 3) := by decide +kernel
theorem dX5_next_111 : decode cX5_next 111 = .ok (.iload_n 3, 1) := by decide +kernel
theorem dX5_next_112 : decode cX5_next 112 = .ok (.iconst (-1), 1) := by decide +kernel
theorem dX5_next_113 : decode cX5_next 113 = .ok (.if_icmp .eq 45, 3) := by decide +kernel
theorem dX5_next_116 : decode cX5_next 116 = .ok (.aload_n 0, 1) := by decide +kernel
theorem dX5_next_117 : decode cX5_next 117 = .ok (.getfield 38, 3) := by decide +kernel
theorem dX5_next_120 : decode cX5_next 120 = .ok (.iload 5, 2) := by decide +kernel
theorem dX5_next_122 : decode cX5_next 122 = .ok (.iaload, 1) := by decide +kernel
theorem dX5_next_123 : decode cX5_next 123 = .ok (.aload_n 0, 1) := by decide +kernel
theorem dX5_next_124 : decode cX5_next 124 = .ok (.getfield 38, 3) := by decide +kernel
theorem dX5_next_127 : decode cX5_next 127 = .ok (.iload_n 3, 1) := by decide +kernel
theorem dX5_next_128 : decode cX5_next 128 = .ok (.iaload, 1) := by decide +kernel
theorem dX5_next_129 : decode cX5_next 129 = .ok (.if_icmp .gt 36, 3) := by decide +kernel
theorem dX5_next_132 : decode cX5_next 132 = .ok (.aload_n 0, 1) := by decide +kernel
theorem dX5_next_133 : decode cX5_next 133 = .ok (.getfield 38, 3) := by decide +kernel
theorem dX5_next_136 : decode cX5_next 136 = .ok (.iload 5, 2) := by decide +kernel
theorem dX5_next_138 : decode cX5_next 138 = .ok (.iaload, 1) := by decide +kernel
theorem dX5_next_139 : decode cX5_next 139 = .ok (.aload_n 0, 1) := by decide +kernel
theorem dX5_next_140 : decode cX5_next 140 = .ok (.getfield 38, 3) := by decide +kernel
theorem dX5_next_143 : decode cX5_next 143 = .ok (.iload_n 3, 1) := by decide +kernel
theorem dX5_next_144 : decode cX5_next 144 = .ok (.iaload, 1) := by decide +kernel
theorem dX5_next_145 : decode cX5_next 145 = .ok (.if_icmp .ne 13, 3) := by decide +kernel
theorem dX5_next_148 : decode cX5_next 148 = .ok (.iload 7, 2) := by decide +kernel
theorem dX5_next_150 : decode cX5_next 150 = .ok (.iload 4, 2) := by decide +kernel
theorem dX5_next_152 : decode cX5_next 152 = .ok (.if_icmp .lt 6, 3) := by decide +kernel
theorem dX5_next_155 : decode cX5_next 155 = .ok (.goto 10, 3) := by decide +kernel
theorem dX5_next_158 : decode cX5_next 158 = .ok (.iload 5, 2) := by decide +kernel
theorem dX5_next_160 : decode cX5_next 160 = .ok (.istore_n 3, 1) := by decide +kernel
theorem dX5_next_161 : decode cX5_next 161 = .ok (.iload 7, 2) := by decide +kernel
theorem dX5_next_163 : decode cX5_next 163 = .ok (.istore 4, 2) := by decide +kernel
theorem dX5_next_165 : decode cX5_next 165 = .ok (.iinc 5 1, 3) := by decide +kernel
theorem dX5_next_168 : decode cX5_next 168 = .ok (.goto (-136), 3) := by decide +kernel
theorem dX5_next_171 : decode cX5_next 171 = .ok (.iload_n 3, 1) := by decide +kernel
theorem dX5_next_172 : decode cX5_next 172 = .ok (.ireturn, 1) := by decide +kernel
end
section
theorem dL_of_0 : decode cL_of 0 = .ok (.aload_n 3, 1) := by decide +kernel
theorem dL_of_1 : decode cL_of 1 = .ok (.iconst 0, 1) := by decide +kernel
theorem dL_of_2 : decode cL_of 2 = .ok (.aload_n 0, 1) := by decide +kernel
theorem dL_of_3 : decode cL_of 3 = .ok (.iload_n 1, 1) := by decide +kernel
theorem dL_of_4 : decode cL_of 4 = .ok (.iload_n 2, 1) := by decide +kernel
theorem dL_of_5 : decode cL_of 5 = .ok (.invokevirtual 7, 3) := by decide +kernel
theorem dL_of_8 : decode cL_of 8 = .ok (.i2l, 1) := by decide +kernel
theorem dL_of_9 : decode cL_of 9 = .ok (.lastore, 1) := by decide +kernel
theorem dL_of_10 : decode cL_of 10 = .ok (.goto 7, 3) := by decide +kernel
theorem dL_of_13 : decode cL_of 13 = .ok (.astore 4, 2) := by decide +kernel
theorem dL_of_15 : decode cL_of 15 = .ok (.iconst 1, 1) := by decide +kernel
theorem dL_of_16 : decode cL_of 16 = .ok (.ireturn, 1) := by decide +kernel
theorem dL_of_17 : decode cL_of 17 = .ok (.iconst 0, 1) := by decide +kernel
theorem dL_of_18 : decode cL_of 18 = .ok (.ireturn, 1) := by decide +kernel
theorem dL_law_0 : decode cL_law 0 = .ok (.new 8, 3) := by decide +kernel
theorem dL_law_3 : decode cL_law 3 = .ok (.dup, 1) := by decide +kernel
theorem dL_law_4 : decode cL_law 4 = .ok (.invokespecial 15, 3) := by decide +kernel
theorem dL_law_7 : decode cL_law 7 = .ok (.astore_n 1, 1) := by decide +kernel
theorem dL_law_8 : decode cL_law 8 = .ok (.new 16, 3) := by decide +kernel
theorem dL_law_11 : decode cL_law 11 = .ok (.dup, 1) := by decide +kernel
theorem dL_law_12 : decode cL_law 12 = .ok (.invokespecial 18, 3) := by decide +kernel
theorem dL_law_15 : decode cL_law 15 = .ok (.astore_n 2, 1) := by decide +kernel
theorem dL_law_16 : decode cL_law 16 = .ok (.iconst 1, 1) := by decide +kernel
theorem dL_law_17 : decode cL_law 17 = .ok (.newarray .long, 2) := by decide +kernel
theorem dL_law_19 : decode cL_law 19 = .ok (.astore_n 3, 1) := by decide +kernel
theorem dL_law_20 : decode cL_law 20 = .ok (.iconst 0, 1) := by decide +kernel
theorem dL_law_21 : decode cL_law 21 = .ok (.istore 4, 2) := by decide +kernel
theorem dL_law_23 : decode cL_law 23 = .ok (.iload 4, 2) := by decide +kernel
theorem dL_law_25 : decode cL_law 25 = .ok (.aload_n 0, 1) := by decide +kernel
theorem dL_law_26 : decode cL_law 26 = .ok (.arraylength, 1) := by decide +kernel
theorem dL_law_27 : decode cL_law 27 = .ok (.bipush 6, 2) := by decide +kernel
theorem dL_law_29 : decode cL_law 29 = .ok (.isub, 1) := by decide +kernel
theorem dL_law_30 : decode cL_law 30 = .ok (.if_icmp .gt 808, 3) := by decide +kernel
theorem dL_law_33 : decode cL_law 33 = .ok (.aload_n 0, 1) := by decide +kernel
theorem dL_law_34 : decode cL_law 34 = .ok (.iload 4, 2) := by decide +kernel
theorem dL_law_36 : decode cL_law 36 = .ok (.iaload, 1) := by decide +kernel
theorem dL_law_37 : decode cL_law 37 = .ok (.bipush 31, 2) := by decide +kernel
theorem dL_law_39 : decode cL_law 39 = .ok (.iand, 1) := by decide +kernel
theorem dL_law_40 : decode cL_law 40 = .ok (.tableswitch 792 0 16 #[84, 97, 146, 219, 244, 269, 318, 386, 423, 460, 533, 558, 583, 620, 669, 706, 755], 84) := by decide +kernel
theorem dL_law_124 : decode cL_law 124 = .ok (.aload_n 1, 1) := by decide +kernel
theorem dL_law_125 : decode cL_law 125 = .ok (.invokevirtual 19, 3) := by decide +kernel
theorem dL_law_128 : decode cL_law 128 = .ok (.aload_n 2, 1) := by decide +kernel
theorem dL_law_129 : decode cL_law 129 = .ok (.invokevirtual 23, 3) := by decide +kernel
theorem dL_law_132 : decode cL_law 132 = .ok (.if_icmp .eq 700, 3) := by decide +kernel
theorem dL_law_135 : decode cL_law 135 = .ok (.iconst 0, 1) := by decide +kernel
theorem dL_law_136 : decode cL_law 136 = .ok (.ireturn, 1) := by decide +kernel
theorem dL_law_137 : decode cL_law 137 = .ok (.aload_n 1, 1) := by decide +kernel
theorem dL_law_138 : decode cL_law 138 = .ok (.aload_n 0, 1) := by decide +kernel
theorem dL_law_139 : decode cL_law 139 = .ok (.iload 4, 2) := by decide +kernel
theorem dL_law_141 : decode cL_law 141 = .ok (.iconst 1, 1) := by decide +kernel
theorem dL_law_142 : decode cL_law 142 = .ok (.iadd, 1) := by decide +kernel
theorem dL_law_143 : decode cL_law 143 = .ok (.iaload, 1) := by decide +kernel
theorem dL_law_144 : decode cL_law 144 = .ok (.aload_n 0, 1) := by decide +kernel
theorem dL_law_145 : decode cL_law 145 = .ok (.iload 4, 2) := by decide +kernel
theorem dL_law_147 : decode cL_law 147 = .ok (.iconst 2, 1) := by decide +kernel
theorem dL_law_148 : decode cL_law 148 = .ok (.iadd, 1) := by decide +kernel
theorem dL_law_149 : decode cL_law 149 = .ok (.iaload, 1) := by decide +kernel
theorem dL_law_150 : decode cL_law 150 = .ok (.aload_n 0, 1) := by decide +kernel
theorem dL_law_151 : decode cL_law 151 = .ok (.iload 4, 2) := by decide +kernel
theorem dL_law_153 : decode cL_law 153 = .ok (.iconst 3, 1) := by decide +kernel
theorem dL_law_154 : decode cL_law 154 = .ok (.iadd, 1) := by decide +kernel
theorem dL_law_155 : decode cL_law 155 = .ok (.iaload, 1) := by decide +kernel
theorem dL_law_156 : decode cL_law 156 = .ok (.invokevirtual 24, 3) := by decide +kernel
theorem dL_law_159 : decode cL_law 159 = .ok (.aload_n 2, 1) := by decide +kernel
theorem dL_law_160 : decode cL_law 160 = .ok (.aload_n 0, 1) := by decide +kernel
theorem dL_law_161 : decode cL_law 161 = .ok (.iload 4, 2) := by decide +kernel
theorem dL_law_163 : decode cL_law 163 = .ok (.iconst 1, 1) := by decide +kernel
theorem dL_law_164 : decode cL_law 164 = .ok (.iadd, 1) := by decide +kernel
theorem dL_law_165 : decode cL_law 165 = .ok (.iaload, 1) := by decide +kernel
theorem dL_law_166 : decode cL_law 166 = .ok (.aload_n 0, 1) := by decide +kernel
theorem dL_law_167 : decode cL_law 167 = .ok (.iload 4, 2) := by decide +kernel
theorem dL_law_169 : decode cL_law 169 = .ok (.iconst 2, 1) := by decide +kernel
theorem dL_law_170 : decode cL_law 170 = .ok (.iadd, 1) := by decide +kernel
theorem dL_law_171 : decode cL_law 171 = .ok (.iaload, 1) := by decide +kernel
theorem dL_law_172 : decode cL_law 172 = .ok (.aload_n 0, 1) := by decide +kernel
theorem dL_law_173 : decode cL_law 173 = .ok (.iload 4, 2) := by decide +kernel
theorem dL_law_175 : decode cL_law 175 = .ok (.iconst 3, 1) := by decide +kernel
theorem dL_law_176 : decode cL_law 176 = .ok (.iadd, 1) := by decide +kernel
theorem dL_law_177 : decode cL_law 177 = .ok (.iaload, 1) := by decide +kernel
theorem dL_law_178 : decode cL_law 178 = .ok (.invokevirtual 28, 3) := by decide +kernel
theorem dL_law_181 : decode cL_law 181 = .ok (.if_icmp .eq 651, 3) := by decide +kernel
theorem dL_law_184 : decode cL_law 184 = .ok (.iconst 0, 1) := by decide +kernel
theorem dL_law_185 : decode cL_law 185 = .ok (.ireturn, 1) := by decide +kernel
theorem dL_law_186 : decode cL_law 186 = .ok (.aload_n 1, 1) := by decide +kernel
theorem dL_law_187 : decode cL_law 187 = .ok (.aload_n 0, 1) := by decide +kernel
theorem dL_law_188 : decode cL_law 188 = .ok (.iload 4, 2) := by decide +kernel
theorem dL_law_190 : decode cL_law 190 = .ok (.iconst 1, 1) := by decide +kernel
theorem dL_law_191 : decode cL_law 191 = .ok (.iadd, 1) := by decide +kernel
theorem dL_law_192 : decode cL_law 192 = .ok (.iaload, 1) := by decide +kernel
theorem dL_law_193 : decode cL_law 193 = .ok (.aload_n 0, 1) := by decide +kernel
theorem dL_law_194 : decode cL_law 194 = .ok (.iload 4, 2) := by decide +kernel
theorem dL_law_196 : decode cL_law 196 = .ok (.iconst 2, 1) := by decide +kernel
theorem dL_law_197 : decode cL_law 197 = .ok (.iadd, 1) := by decide +kernel
theorem dL_law_198 : decode cL_law 198 = .ok (.iaload, 1) := by decide +kernel
theorem dL_law_199 : decode cL_law 199 = .ok (.aload_n 0, 1) := by decide +kernel
theorem dL_law_200 : decode cL_law 200 = .ok (.iload 4, 2) := by decide +kernel
theorem dL_law_202 : decode cL_law 202 = .ok (.iconst 3, 1) := by decide +kernel
theorem dL_law_203 : decode cL_law 203 = .ok (.iadd, 1) := by decide +kernel
theorem dL_law_204 : decode cL_law 204 = .ok (.iaload, 1) := by decide +kernel
theorem dL_law_205 : decode cL_law 205 = .ok (.aload_n 0, 1) := by decide +kernel
theorem dL_law_206 : decode cL_law 206 = .ok (.iload 4, 2) := by decide +kernel
theorem dL_law_208 : decode cL_law 208 = .ok (.iconst 4, 1) := by decide +kernel
theorem dL_law_209 : decode cL_law 209 = .ok (.iadd, 1) := by decide +kernel
theorem dL_law_210 : decode cL_law 210 = .ok (.iaload, 1) := by decide +kernel
theorem dL_law_211 : decode cL_law 211 = .ok (.aload_n 0, 1) := by decide +kernel
theorem dL_law_212 : decode cL_law 212 = .ok (.iload 4, 2) := by decide +kernel
theorem dL_law_214 : decode cL_law 214 = .ok (.iconst 5, 1) := by decide +kernel
theorem dL_law_215 : decode cL_law 215 = .ok (.iadd, 1) := by decide +kernel
theorem dL_law_216 : decode cL_law 216 = .ok (.iaload, 1) := by decide +kernel
theorem dL_law_217 : decode cL_law 217 = .ok (.invokevirtual 29, 3) := by decide +kernel
theorem dL_law_220 : decode cL_law 220 = .ok (.aload_n 2, 1) := by decide +kernel
theorem dL_law_221 : decode cL_law 221 = .ok (.aload_n 0, 1) := by decide +kernel
theorem dL_law_222 : decode cL_law 222 = .ok (.iload 4, 2) := by decide +kernel
theorem dL_law_224 : decode cL_law 224 = .ok (.iconst 1, 1) := by decide +kernel
theorem dL_law_225 : decode cL_law 225 = .ok (.iadd, 1) := by decide +kernel
theorem dL_law_226 : decode cL_law 226 = .ok (.iaload, 1) := by decide +kernel
theorem dL_law_227 : decode cL_law 227 = .ok (.aload_n 0, 1) := by decide +kernel
theorem dL_law_228 : decode cL_law 228 = .ok (.iload 4, 2) := by decide +kernel
theorem dL_law_230 : decode cL_law 230 = .ok (.iconst 2, 1) := by decide +kernel
theorem dL_law_231 : decode cL_law 231 = .ok (.iadd, 1) := by decide +kernel
theorem dL_law_232 : decode cL_law 232 = .ok (.iaload, 1) := by decide +kernel
theorem dL_law_233 : decode cL_law 233 = .ok (.aload_n 0, 1) := by decide +kernel
theorem dL_law_234 : decode cL_law 234 = .ok (.iload 4, 2) := by decide +kernel
theorem dL_law_236 : decode cL_law 236 = .ok (.iconst 3, 1) := by decide +kernel
theorem dL_law_237 : decode cL_law 237 = .ok (.iadd, 1) := by decide +kernel
theorem dL_law_238 : decode cL_law 238 = .ok (.iaload, 1) := by decide +kernel
theorem dL_law_239 : decode cL_law 239 = .ok (.aload_n 0, 1) := by decide +kernel
theorem dL_law_240 : decode cL_law 240 = .ok (.iload 4, 2) := by decide +kernel
theorem dL_law_242 : decode cL_law 242 = .ok (.iconst 4, 1) := by decide +kernel
theorem dL_law_243 : decode cL_law 243 = .ok (.iadd, 1) := by decide +kernel
theorem dL_law_244 : decode cL_law 244 = .ok (.iaload, 1) := by decide +kernel
theorem dL_law_245 : decode cL_law 245 = .ok (.aload_n 0, 1) := by decide +kernel
theorem dL_law_246 : decode cL_law 246 = .ok (.iload 4, 2) := by decide +kernel
theorem dL_law_248 : decode cL_law 248 = .ok (.iconst 5, 1) := by decide +kernel
theorem dL_law_249 : decode cL_law 249 = .ok (.iadd, 1) := by decide +kernel
theorem dL_law_250 : decode cL_law 250 = .ok (.iaload, 1) := by decide +kernel
theorem dL_law_251 : decode cL_law 251 = .ok (.invokevirtual 33, 3) := by decide +kernel
theorem dL_law_254 : decode cL_law 254 = .ok (.if_icmp .eq 578, 3) := by decide +kernel
theorem dL_law_257 : decode cL_law 257 = .ok (.iconst 0, 1) := by decide +kernel
theorem dL_law_258 : decode cL_law 258 = .ok (.ireturn, 1) := by decide +kernel
end
section
theorem dL_law_259 : decode cL_law 259 = .ok (.aload_n 1, 1) := by decide +kernel
theorem dL_law_260 : decode cL_law 260 = .ok (.aload_n 0, 1) := by decide +kernel
theorem dL_law_261 : decode cL_law 261 = .ok (.iload 4, 2) := by decide +kernel
theorem dL_law_263 : decode cL_law 263 = .ok (.iconst 1, 1) := by decide +kernel
theorem dL_law_264 : decode cL_law 264 = .ok (.iadd, 1) := by decide +kernel
theorem dL_law_265 : decode cL_law 265 = .ok (.iaload, 1) := by decide +kernel
theorem dL_law_266 : decode cL_law 266 = .ok (.invokevirtual 34, 3) := by decide +kernel
theorem dL_law_269 : decode cL_law 269 = .ok (.aload_n 2, 1) := by decide +kernel
theorem dL_law_270 : decode cL_law 270 = .ok (.aload_n 0, 1) := by decide +kernel
theorem dL_law_271 : decode cL_law 271 = .ok (.iload 4, 2) := by decide +kernel
theorem dL_law_273 : decode cL_law 273 = .ok (.iconst 1, 1) := by decide +kernel
theorem dL_law_274 : decode cL_law 274 = .ok (.iadd, 1) := by decide +kernel
theorem dL_law_275 : decode cL_law 275 = .ok (.iaload, 1) := by decide +kernel
theorem dL_law_276 : decode cL_law 276 = .ok (.invokevirtual 38, 3) := by decide +kernel
theorem dL_law_279 : decode cL_law 279 = .ok (.if_icmp .eq 553, 3) := by decide +kernel
theorem dL_law_282 : decode cL_law 282 = .ok (.iconst 0, 1) := by decide +kernel
theorem dL_law_283 : decode cL_law 283 = .ok (.ireturn, 1) := by decide +kernel
theorem dL_law_284 : decode cL_law 284 = .ok (.aload_n 1, 1) := by decide +kernel
theorem dL_law_285 : decode cL_law 285 = .ok (.aload_n 0, 1) := by decide +kernel
theorem dL_law_286 : decode cL_law 286 = .ok (.iload 4, 2) := by decide +kernel
theorem dL_law_288 : decode cL_law 288 = .ok (.iconst 1, 1) := by decide +kernel
theorem dL_law_289 : decode cL_law 289 = .ok (.iadd, 1) := by decide +kernel
theorem dL_law_290 : decode cL_law 290 = .ok (.iaload, 1) := by decide +kernel
theorem dL_law_291 : decode cL_law 291 = .ok (.invokevirtual 39, 3) := by decide +kernel
theorem dL_law_294 : decode cL_law 294 = .ok (.aload_n 2, 1) := by decide +kernel
theorem dL_law_295 : decode cL_law 295 = .ok (.aload_n 0, 1) := by decide +kernel
theorem dL_law_296 : decode cL_law 296 = .ok (.iload 4, 2) := by decide +kernel
theorem dL_law_298 : decode cL_law 298 = .ok (.iconst 1, 1) := by decide +kernel
theorem dL_law_299 : decode cL_law 299 = .ok (.iadd, 1) := by decide +kernel
theorem dL_law_300 : decode cL_law 300 = .ok (.iaload, 1) := by decide +kernel
theorem dL_law_301 : decode cL_law 301 = .ok (.invokevirtual 42, 3) := by decide +kernel
theorem dL_law_304 : decode cL_law 304 = .ok (.if_icmp .eq 528, 3) := by decide +kernel
theorem dL_law_307 : decode cL_law 307 = .ok (.iconst 0, 1) := by decide +kernel
theorem dL_law_308 : decode cL_law 308 = .ok (.ireturn, 1) := by decide +kernel
theorem dL_law_309 : decode cL_law 309 = .ok (.aload_n 1, 1) := by decide +kernel
theorem dL_law_310 : decode cL_law 310 = .ok (.aload_n 0, 1) := by decide +kernel
theorem dL_law_311 : decode cL_law 311 = .ok (.iload 4, 2) := by decide +kernel
theorem dL_law_313 : decode cL_law 313 = .ok (.iconst 1, 1) := by decide +kernel
theorem dL_law_314 : decode cL_law 314 = .ok (.iadd, 1) := by decide +kernel
theorem dL_law_315 : decode cL_law 315 = .ok (.iaload, 1) := by decide +kernel
theorem dL_law_316 : decode cL_law 316 = .ok (.aload_n 0, 1) := by decide +kernel
theorem dL_law_317 : decode cL_law 317 = .ok (.iload 4, 2) := by decide +kernel
theorem dL_law_319 : decode cL_law 319 = .ok (.iconst 2, 1) := by decide +kernel
theorem dL_law_320 : decode cL_law 320 = .ok (.iadd, 1) := by decide +kernel
theorem dL_law_321 : decode cL_law 321 = .ok (.iaload, 1) := by decide +kernel
theorem dL_law_322 : decode cL_law 322 = .ok (.aload_n 0, 1) := by decide +kernel
theorem dL_law_323 : decode cL_law 323 = .ok (.iload 4, 2) := by decide +kernel
theorem dL_law_325 : decode cL_law 325 = .ok (.iconst 3, 1) := by decide +kernel
theorem dL_law_326 : decode cL_law 326 = .ok (.iadd, 1) := by decide +kernel
theorem dL_law_327 : decode cL_law 327 = .ok (.iaload, 1) := by decide +kernel
theorem dL_law_328 : decode cL_law 328 = .ok (.invokevirtual 43, 3) := by decide +kernel
theorem dL_law_331 : decode cL_law 331 = .ok (.aload_n 2, 1) := by decide +kernel
theorem dL_law_332 : decode cL_law 332 = .ok (.aload_n 0, 1) := by decide +kernel
theorem dL_law_333 : decode cL_law 333 = .ok (.iload 4, 2) := by decide +kernel
theorem dL_law_335 : decode cL_law 335 = .ok (.iconst 1, 1) := by decide +kernel
theorem dL_law_336 : decode cL_law 336 = .ok (.iadd, 1) := by decide +kernel
theorem dL_law_337 : decode cL_law 337 = .ok (.iaload, 1) := by decide +kernel
theorem dL_law_338 : decode cL_law 338 = .ok (.aload_n 0, 1) := by decide +kernel
theorem dL_law_339 : decode cL_law 339 = .ok (.iload 4, 2) := by decide +kernel
theorem dL_law_341 : decode cL_law 341 = .ok (.iconst 2, 1) := by decide +kernel
theorem dL_law_342 : decode cL_law 342 = .ok (.iadd, 1) := by decide +kernel
theorem dL_law_343 : decode cL_law 343 = .ok (.iaload, 1) := by decide +kernel
theorem dL_law_344 : decode cL_law 344 = .ok (.aload_n 0, 1) := by decide +kernel
theorem dL_law_345 : decode cL_law 345 = .ok (.iload 4, 2) := by decide +kernel
theorem dL_law_347 : decode cL_law 347 = .ok (.iconst 3, 1) := by decide +kernel
theorem dL_law_348 : decode cL_law 348 = .ok (.iadd, 1) := by decide +kernel
theorem dL_law_349 : decode cL_law 349 = .ok (.iaload, 1) := by decide +kernel
theorem dL_law_350 : decode cL_law 350 = .ok (.invokevirtual 47, 3) := by decide +kernel
theorem dL_law_353 : decode cL_law 353 = .ok (.if_icmp .eq 479, 3) := by decide +kernel
theorem dL_law_356 : decode cL_law 356 = .ok (.iconst 0, 1) := by decide +kernel
theorem dL_law_357 : decode cL_law 357 = .ok (.ireturn, 1) := by decide +kernel
theorem dL_law_358 : decode cL_law 358 = .ok (.aload_n 1, 1) := by decide +kernel
theorem dL_law_359 : decode cL_law 359 = .ok (.aload_n 0, 1) := by decide +kernel
theorem dL_law_360 : decode cL_law 360 = .ok (.iload 4, 2) := by decide +kernel
theorem dL_law_362 : decode cL_law 362 = .ok (.iconst 1, 1) := by decide +kernel
theorem dL_law_363 : decode cL_law 363 = .ok (.iadd, 1) := by decide +kernel
theorem dL_law_364 : decode cL_law 364 = .ok (.iaload, 1) := by decide +kernel
theorem dL_law_365 : decode cL_law 365 = .ok (.aload_n 0, 1) := by decide +kernel
theorem dL_law_366 : decode cL_law 366 = .ok (.iload 4, 2) := by decide +kernel
theorem dL_law_368 : decode cL_law 368 = .ok (.iconst 2, 1) := by decide +kernel
theorem dL_law_369 : decode cL_law 369 = .ok (.iadd, 1) := by decide +kernel
theorem dL_law_370 : decode cL_law 370 = .ok (.iaload, 1) := by decide +kernel
theorem dL_law_371 : decode cL_law 371 = .ok (.aload_n 3, 1) := by decide +kernel
theorem dL_law_372 : decode cL_law 372 = .ok (.invokestatic 48, 3) := by decide +kernel
theorem dL_law_375 : decode cL_law 375 = .ok (.istore 5, 2) := by decide +kernel
theorem dL_law_377 : decode cL_law 377 = .ok (.aload_n 2, 1) := by decide +kernel
theorem dL_law_378 : decode cL_law 378 = .ok (.aload_n 0, 1) := by decide +kernel
theorem dL_law_379 : decode cL_law 379 = .ok (.iload 4, 2) := by decide +kernel
theorem dL_law_381 : decode cL_law 381 = .ok (.iconst 1, 1) := by decide +kernel
theorem dL_law_382 : decode cL_law 382 = .ok (.iadd, 1) := by decide +kernel
theorem dL_law_383 : decode cL_law 383 = .ok (.iaload, 1) := by decide +kernel
theorem dL_law_384 : decode cL_law 384 = .ok (.aload_n 0, 1) := by decide +kernel
theorem dL_law_385 : decode cL_law 385 = .ok (.iload 4, 2) := by decide +kernel
theorem dL_law_387 : decode cL_law 387 = .ok (.iconst 2, 1) := by decide +kernel
theorem dL_law_388 : decode cL_law 388 = .ok (.iadd, 1) := by decide +kernel
theorem dL_law_389 : decode cL_law 389 = .ok (.iaload, 1) := by decide +kernel
theorem dL_law_390 : decode cL_law 390 = .ok (.invokevirtual 53, 3) := by decide +kernel
theorem dL_law_393 : decode cL_law 393 = .ok (.istore 6, 2) := by decide +kernel
theorem dL_law_395 : decode cL_law 395 = .ok (.aload_n 2, 1) := by decide +kernel
theorem dL_law_396 : decode cL_law 396 = .ok (.invokevirtual 54, 3) := by decide +kernel
theorem dL_law_399 : decode cL_law 399 = .ok (.iload 5, 2) := by decide +kernel
theorem dL_law_401 : decode cL_law 401 = .ok (.if_icmp .eq 5, 3) := by decide +kernel
theorem dL_law_404 : decode cL_law 404 = .ok (.iconst 0, 1) := by decide +kernel
theorem dL_law_405 : decode cL_law 405 = .ok (.ireturn, 1) := by decide +kernel
theorem dL_law_406 : decode cL_law 406 = .ok (.iload 5, 2) := by decide +kernel
theorem dL_law_408 : decode cL_law 408 = .ok (.ifCond .ne 15, 3) := by decide +kernel
theorem dL_law_411 : decode cL_law 411 = .ok (.aload_n 3, 1) := by decide +kernel
theorem dL_law_412 : decode cL_law 412 = .ok (.iconst 0, 1) := by decide +kernel
theorem dL_law_413 : decode cL_law 413 = .ok (.laload, 1) := by decide +kernel
theorem dL_law_414 : decode cL_law 414 = .ok (.iload 6, 2) := by decide +kernel
theorem dL_law_416 : decode cL_law 416 = .ok (.i2l, 1) := by decide +kernel
theorem dL_law_417 : decode cL_law 417 = .ok (.lcmp, 1) := by decide +kernel
theorem dL_law_418 : decode cL_law 418 = .ok (.ifCond .eq 5, 3) := by decide +kernel
theorem dL_law_421 : decode cL_law 421 = .ok (.iconst 0, 1) := by decide +kernel
theorem dL_law_422 : decode cL_law 422 = .ok (.ireturn, 1) := by decide +kernel
theorem dL_law_423 : decode cL_law 423 = .ok (.goto 409, 3) := by decide +kernel
theorem dL_law_426 : decode cL_law 426 = .ok (.aload_n 1, 1) := by decide +kernel
theorem dL_law_427 : decode cL_law 427 = .ok (.aload_n 0, 1) := by decide +kernel
theorem dL_law_428 : decode cL_law 428 = .ok (.iload 4, 2) := by decide +kernel
theorem dL_law_430 : decode cL_law 430 = .ok (.iconst 1, 1) := by decide +kernel
theorem dL_law_431 : decode cL_law 431 = .ok (.iadd, 1) := by decide +kernel
theorem dL_law_432 : decode cL_law 432 = .ok (.iaload, 1) := by decide +kernel
theorem dL_law_433 : decode cL_law 433 = .ok (.aload_n 0, 1) := by decide +kernel
theorem dL_law_434 : decode cL_law 434 = .ok (.iload 4, 2) := by decide +kernel
theorem dL_law_436 : decode cL_law 436 = .ok (.iconst 2, 1) := by decide +kernel
theorem dL_law_437 : decode cL_law 437 = .ok (.iadd, 1) := by decide +kernel
theorem dL_law_438 : decode cL_law 438 = .ok (.iaload, 1) := by decide +kernel
theorem dL_law_439 : decode cL_law 439 = .ok (.invokevirtual 57, 3) := by decide +kernel
theorem dL_law_442 : decode cL_law 442 = .ok (.aload_n 2, 1) := by decide +kernel
theorem dL_law_443 : decode cL_law 443 = .ok (.aload_n 0, 1) := by decide +kernel
theorem dL_law_444 : decode cL_law 444 = .ok (.iload 4, 2) := by decide +kernel
theorem dL_law_446 : decode cL_law 446 = .ok (.iconst 1, 1) := by decide +kernel
theorem dL_law_447 : decode cL_law 447 = .ok (.iadd, 1) := by decide +kernel
theorem dL_law_448 : decode cL_law 448 = .ok (.iaload, 1) := by decide +kernel
theorem dL_law_449 : decode cL_law 449 = .ok (.aload_n 0, 1) := by decide +kernel
theorem dL_law_450 : decode cL_law 450 = .ok (.iload 4, 2) := by decide +kernel
theorem dL_law_452 : decode cL_law 452 = .ok (.iconst 2, 1) := by decide +kernel
theorem dL_law_453 : decode cL_law 453 = .ok (.iadd, 1) := by decide +kernel
theorem dL_law_454 : decode cL_law 454 = .ok (.iaload, 1) := by decide +kernel
theorem dL_law_455 : decode cL_law 455 = .ok (.invokevirtual 60, 3) := by decide +kernel
end
section
theorem dL_law_458 : decode cL_law 458 = .ok (.if_icmp .eq 374, 3) := by decide +kernel
theorem dL_law_461 : decode cL_law 461 = .ok (.iconst 0, 1) := by decide +kernel
theorem dL_law_462 : decode cL_law 462 = .ok (.ireturn, 1) := by decide +kernel
theorem dL_law_463 : decode cL_law 463 = .ok (.aload_n 1, 1) := by decide +kernel
theorem dL_law_464 : decode cL_law 464 = .ok (.aload_n 0, 1) := by decide +kernel
theorem dL_law_465 : decode cL_law 465 = .ok (.iload 4, 2) := by decide +kernel
theorem dL_law_467 : decode cL_law 467 = .ok (.iconst 1, 1) := by decide +kernel
theorem dL_law_468 : decode cL_law 468 = .ok (.iadd, 1) := by decide +kernel
theorem dL_law_469 : decode cL_law 469 = .ok (.iaload, 1) := by decide +kernel
theorem dL_law_470 : decode cL_law 470 = .ok (.aload_n 0, 1) := by decide +kernel
theorem dL_law_471 : decode cL_law 471 = .ok (.iload 4, 2) := by decide +kernel
theorem dL_law_473 : decode cL_law 473 = .ok (.iconst 2, 1) := by decide +kernel
theorem dL_law_474 : decode cL_law 474 = .ok (.iadd, 1) := by decide +kernel
theorem dL_law_475 : decode cL_law 475 = .ok (.iaload, 1) := by decide +kernel
theorem dL_law_476 : decode cL_law 476 = .ok (.invokevirtual 61, 3) := by decide +kernel
theorem dL_law_479 : decode cL_law 479 = .ok (.aload_n 2, 1) := by decide +kernel
theorem dL_law_480 : decode cL_law 480 = .ok (.aload_n 0, 1) := by decide +kernel
theorem dL_law_481 : decode cL_law 481 = .ok (.iload 4, 2) := by decide +kernel
theorem dL_law_483 : decode cL_law 483 = .ok (.iconst 1, 1) := by decide +kernel
theorem dL_law_484 : decode cL_law 484 = .ok (.iadd, 1) := by decide +kernel
theorem dL_law_485 : decode cL_law 485 = .ok (.iaload, 1) := by decide +kernel
theorem dL_law_486 : decode cL_law 486 = .ok (.aload_n 0, 1) := by decide +kernel
theorem dL_law_487 : decode cL_law 487 = .ok (.iload 4, 2) := by decide +kernel
theorem dL_law_489 : decode cL_law 489 = .ok (.iconst 2, 1) := by decide +kernel
theorem dL_law_490 : decode cL_law 490 = .ok (.iadd, 1) := by decide +kernel
theorem dL_law_491 : decode cL_law 491 = .ok (.iaload, 1) := by decide +kernel
theorem dL_law_492 : decode cL_law 492 = .ok (.invokevirtual 64, 3) := by decide +kernel
theorem dL_law_495 : decode cL_law 495 = .ok (.if_icmp .eq 337, 3) := by decide +kernel
theorem dL_law_498 : decode cL_law 498 = .ok (.iconst 0, 1) := by decide +kernel
theorem dL_law_499 : decode cL_law 499 = .ok (.ireturn, 1) := by decide +kernel
theorem dL_law_500 : decode cL_law 500 = .ok (.aload_n 1, 1) := by decide +kernel
theorem dL_law_501 : decode cL_law 501 = .ok (.aload_n 0, 1) := by decide +kernel
theorem dL_law_502 : decode cL_law 502 = .ok (.iload 4, 2) := by decide +kernel
theorem dL_law_504 : decode cL_law 504 = .ok (.iconst 1, 1) := by decide +kernel
theorem dL_law_505 : decode cL_law 505 = .ok (.iadd, 1) := by decide +kernel
theorem dL_law_506 : decode cL_law 506 = .ok (.iaload, 1) := by decide +kernel
theorem dL_law_507 : decode cL_law 507 = .ok (.aload_n 0, 1) := by decide +kernel
theorem dL_law_508 : decode cL_law 508 = .ok (.iload 4, 2) := by decide +kernel
theorem dL_law_510 : decode cL_law 510 = .ok (.iconst 2, 1) := by decide +kernel
theorem dL_law_511 : decode cL_law 511 = .ok (.iadd, 1) := by decide +kernel
theorem dL_law_512 : decode cL_law 512 = .ok (.iaload, 1) := by decide +kernel
theorem dL_law_513 : decode cL_law 513 = .ok (.aload_n 0, 1) := by decide +kernel
theorem dL_law_514 : decode cL_law 514 = .ok (.iload 4, 2) := by decide +kernel
theorem dL_law_516 : decode cL_law 516 = .ok (.iconst 3, 1) := by decide +kernel
theorem dL_law_517 : decode cL_law 517 = .ok (.iadd, 1) := by decide +kernel
theorem dL_law_518 : decode cL_law 518 = .ok (.iaload, 1) := by decide +kernel
theorem dL_law_519 : decode cL_law 519 = .ok (.aload_n 0, 1) := by decide +kernel
theorem dL_law_520 : decode cL_law 520 = .ok (.iload 4, 2) := by decide +kernel
theorem dL_law_522 : decode cL_law 522 = .ok (.iconst 4, 1) := by decide +kernel
theorem dL_law_523 : decode cL_law 523 = .ok (.iadd, 1) := by decide +kernel
theorem dL_law_524 : decode cL_law 524 = .ok (.iaload, 1) := by decide +kernel
theorem dL_law_525 : decode cL_law 525 = .ok (.aload_n 0, 1) := by decide +kernel
theorem dL_law_526 : decode cL_law 526 = .ok (.iload 4, 2) := by decide +kernel
theorem dL_law_528 : decode cL_law 528 = .ok (.iconst 5, 1) := by decide +kernel
theorem dL_law_529 : decode cL_law 529 = .ok (.iadd, 1) := by decide +kernel
theorem dL_law_530 : decode cL_law 530 = .ok (.iaload, 1) := by decide +kernel
theorem dL_law_531 : decode cL_law 531 = .ok (.invokevirtual 65, 3) := by decide +kernel
theorem dL_law_534 : decode cL_law 534 = .ok (.aload_n 2, 1) := by decide +kernel
theorem dL_law_535 : decode cL_law 535 = .ok (.aload_n 0, 1) := by decide +kernel
theorem dL_law_536 : decode cL_law 536 = .ok (.iload 4, 2) := by decide +kernel
theorem dL_law_538 : decode cL_law 538 = .ok (.iconst 1, 1) := by decide +kernel
theorem dL_law_539 : decode cL_law 539 = .ok (.iadd, 1) := by decide +kernel
theorem dL_law_540 : decode cL_law 540 = .ok (.iaload, 1) := by decide +kernel
theorem dL_law_541 : decode cL_law 541 = .ok (.aload_n 0, 1) := by decide +kernel
theorem dL_law_542 : decode cL_law 542 = .ok (.iload 4, 2) := by decide +kernel
theorem dL_law_544 : decode cL_law 544 = .ok (.iconst 2, 1) := by decide +kernel
theorem dL_law_545 : decode cL_law 545 = .ok (.iadd, 1) := by decide +kernel
theorem dL_law_546 : decode cL_law 546 = .ok (.iaload, 1) := by decide +kernel
theorem dL_law_547 : decode cL_law 547 = .ok (.aload_n 0, 1) := by decide +kernel
theorem dL_law_548 : decode cL_law 548 = .ok (.iload 4, 2) := by decide +kernel
theorem dL_law_550 : decode cL_law 550 = .ok (.iconst 3, 1) := by decide +kernel
theorem dL_law_551 : decode cL_law 551 = .ok (.iadd, 1) := by decide +kernel
theorem dL_law_552 : decode cL_law 552 = .ok (.iaload, 1) := by decide +kernel
theorem dL_law_553 : decode cL_law 553 = .ok (.aload_n 0, 1) := by decide +kernel
theorem dL_law_554 : decode cL_law 554 = .ok (.iload 4, 2) := by decide +kernel
theorem dL_law_556 : decode cL_law 556 = .ok (.iconst 4, 1) := by decide +kernel
theorem dL_law_557 : decode cL_law 557 = .ok (.iadd, 1) := by decide +kernel
theorem dL_law_558 : decode cL_law 558 = .ok (.iaload, 1) := by decide +kernel
theorem dL_law_559 : decode cL_law 559 = .ok (.aload_n 0, 1) := by decide +kernel
theorem dL_law_560 : decode cL_law 560 = .ok (.iload 4, 2) := by decide +kernel
theorem dL_law_562 : decode cL_law 562 = .ok (.iconst 5, 1) := by decide +kernel
theorem dL_law_563 : decode cL_law 563 = .ok (.iadd, 1) := by decide +kernel
theorem dL_law_564 : decode cL_law 564 = .ok (.iaload, 1) := by decide +kernel
theorem dL_law_565 : decode cL_law 565 = .ok (.invokevirtual 68, 3) := by decide +kernel
theorem dL_law_568 : decode cL_law 568 = .ok (.if_icmp .eq 264, 3) := by decide +kernel
theorem dL_law_571 : decode cL_law 571 = .ok (.iconst 0, 1) := by decide +kernel
theorem dL_law_572 : decode cL_law 572 = .ok (.ireturn, 1) := by decide +kernel
theorem dL_law_573 : decode cL_law 573 = .ok (.aload_n 1, 1) := by decide +kernel
theorem dL_law_574 : decode cL_law 574 = .ok (.aload_n 0, 1) := by decide +kernel
theorem dL_law_575 : decode cL_law 575 = .ok (.iload 4, 2) := by decide +kernel
theorem dL_law_577 : decode cL_law 577 = .ok (.iconst 1, 1) := by decide +kernel
theorem dL_law_578 : decode cL_law 578 = .ok (.iadd, 1) := by decide +kernel
theorem dL_law_579 : decode cL_law 579 = .ok (.iaload, 1) := by decide +kernel
theorem dL_law_580 : decode cL_law 580 = .ok (.invokevirtual 69, 3) := by decide +kernel
theorem dL_law_583 : decode cL_law 583 = .ok (.aload_n 2, 1) := by decide +kernel
theorem dL_law_584 : decode cL_law 584 = .ok (.aload_n 0, 1) := by decide +kernel
theorem dL_law_585 : decode cL_law 585 = .ok (.iload 4, 2) := by decide +kernel
theorem dL_law_587 : decode cL_law 587 = .ok (.iconst 1, 1) := by decide +kernel
theorem dL_law_588 : decode cL_law 588 = .ok (.iadd, 1) := by decide +kernel
theorem dL_law_589 : decode cL_law 589 = .ok (.iaload, 1) := by decide +kernel
theorem dL_law_590 : decode cL_law 590 = .ok (.invokevirtual 72, 3) := by decide +kernel
theorem dL_law_593 : decode cL_law 593 = .ok (.if_icmp .eq 239, 3) := by decide +kernel
theorem dL_law_596 : decode cL_law 596 = .ok (.iconst 0, 1) := by decide +kernel
theorem dL_law_597 : decode cL_law 597 = .ok (.ireturn, 1) := by decide +kernel
theorem dL_law_598 : decode cL_law 598 = .ok (.aload_n 1, 1) := by decide +kernel
theorem dL_law_599 : decode cL_law 599 = .ok (.aload_n 0, 1) := by decide +kernel
theorem dL_law_600 : decode cL_law 600 = .ok (.iload 4, 2) := by decide +kernel
theorem dL_law_602 : decode cL_law 602 = .ok (.iconst 1, 1) := by decide +kernel
theorem dL_law_603 : decode cL_law 603 = .ok (.iadd, 1) := by decide +kernel
theorem dL_law_604 : decode cL_law 604 = .ok (.iaload, 1) := by decide +kernel
theorem dL_law_605 : decode cL_law 605 = .ok (.invokevirtual 73, 3) := by decide +kernel
theorem dL_law_608 : decode cL_law 608 = .ok (.aload_n 2, 1) := by decide +kernel
theorem dL_law_609 : decode cL_law 609 = .ok (.aload_n 0, 1) := by decide +kernel
theorem dL_law_610 : decode cL_law 610 = .ok (.iload 4, 2) := by decide +kernel
theorem dL_law_612 : decode cL_law 612 = .ok (.iconst 1, 1) := by decide +kernel
theorem dL_law_613 : decode cL_law 613 = .ok (.iadd, 1) := by decide +kernel
theorem dL_law_614 : decode cL_law 614 = .ok (.iaload, 1) := by decide +kernel
theorem dL_law_615 : decode cL_law 615 = .ok (.invokevirtual 76, 3) := by decide +kernel
theorem dL_law_618 : decode cL_law 618 = .ok (.if_icmp .eq 214, 3) := by decide +kernel
theorem dL_law_621 : decode cL_law 621 = .ok (.iconst 0, 1) := by decide +kernel
theorem dL_law_622 : decode cL_law 622 = .ok (.ireturn, 1) := by decide +kernel
theorem dL_law_623 : decode cL_law 623 = .ok (.aload_n 1, 1) := by decide +kernel
theorem dL_law_624 : decode cL_law 624 = .ok (.aload_n 0, 1) := by decide +kernel
theorem dL_law_625 : decode cL_law 625 = .ok (.iload 4, 2) := by decide +kernel
theorem dL_law_627 : decode cL_law 627 = .ok (.iconst 1, 1) := by decide +kernel
theorem dL_law_628 : decode cL_law 628 = .ok (.iadd, 1) := by decide +kernel
theorem dL_law_629 : decode cL_law 629 = .ok (.iaload, 1) := by decide +kernel
theorem dL_law_630 : decode cL_law 630 = .ok (.aload_n 0, 1) := by decide +kernel
theorem dL_law_631 : decode cL_law 631 = .ok (.iload 4, 2) := by decide +kernel
theorem dL_law_633 : decode cL_law 633 = .ok (.iconst 2, 1) := by decide +kernel
theorem dL_law_634 : decode cL_law 634 = .ok (.iadd, 1) := by decide +kernel
theorem dL_law_635 : decode cL_law 635 = .ok (.iaload, 1) := by decide +kernel
theorem dL_law_636 : decode cL_law 636 = .ok (.invokevirtual 77, 3) := by decide +kernel
theorem dL_law_639 : decode cL_law 639 = .ok (.aload_n 2, 1) := by decide +kernel
theorem dL_law_640 : decode cL_law 640 = .ok (.aload_n 0, 1) := by decide +kernel
theorem dL_law_641 : decode cL_law 641 = .ok (.iload 4, 2) := by decide +kernel
theorem dL_law_643 : decode cL_law 643 = .ok (.iconst 1, 1) := by decide +kernel
theorem dL_law_644 : decode cL_law 644 = .ok (.iadd, 1) := by decide +kernel
theorem dL_law_645 : decode cL_law 645 = .ok (.iaload, 1) := by decide +kernel
theorem dL_law_646 : decode cL_law 646 = .ok (.aload_n 0, 1) := by decide +kernel
end
section
theorem dL_law_647 : decode cL_law 647 = .ok (.iload 4, 2) := by decide +kernel
theorem dL_law_649 : decode cL_law 649 = .ok (.iconst 2, 1) := by decide +kernel
theorem dL_law_650 : decode cL_law 650 = .ok (.iadd, 1) := by decide +kernel
theorem dL_law_651 : decode cL_law 651 = .ok (.iaload, 1) := by decide +kernel
theorem dL_law_652 : decode cL_law 652 = .ok (.invokevirtual 80, 3) := by decide +kernel
theorem dL_law_655 : decode cL_law 655 = .ok (.if_icmp .eq 177, 3) := by decide +kernel
theorem dL_law_658 : decode cL_law 658 = .ok (.iconst 0, 1) := by decide +kernel
theorem dL_law_659 : decode cL_law 659 = .ok (.ireturn, 1) := by decide +kernel
theorem dL_law_660 : decode cL_law 660 = .ok (.aload_n 1, 1) := by decide +kernel
theorem dL_law_661 : decode cL_law 661 = .ok (.aload_n 0, 1) := by decide +kernel
theorem dL_law_662 : decode cL_law 662 = .ok (.iload 4, 2) := by decide +kernel
theorem dL_law_664 : decode cL_law 664 = .ok (.iconst 1, 1) := by decide +kernel
theorem dL_law_665 : decode cL_law 665 = .ok (.iadd, 1) := by decide +kernel
theorem dL_law_666 : decode cL_law 666 = .ok (.iaload, 1) := by decide +kernel
theorem dL_law_667 : decode cL_law 667 = .ok (.aload_n 0, 1) := by decide +kernel
theorem dL_law_668 : decode cL_law 668 = .ok (.iload 4, 2) := by decide +kernel
theorem dL_law_670 : decode cL_law 670 = .ok (.iconst 2, 1) := by decide +kernel
theorem dL_law_671 : decode cL_law 671 = .ok (.iadd, 1) := by decide +kernel
theorem dL_law_672 : decode cL_law 672 = .ok (.iaload, 1) := by decide +kernel
theorem dL_law_673 : decode cL_law 673 = .ok (.aload_n 0, 1) := by decide +kernel
theorem dL_law_674 : decode cL_law 674 = .ok (.iload 4, 2) := by decide +kernel
theorem dL_law_676 : decode cL_law 676 = .ok (.iconst 3, 1) := by decide +kernel
theorem dL_law_677 : decode cL_law 677 = .ok (.iadd, 1) := by decide +kernel
theorem dL_law_678 : decode cL_law 678 = .ok (.iaload, 1) := by decide +kernel
theorem dL_law_679 : decode cL_law 679 = .ok (.invokevirtual 81, 3) := by decide +kernel
theorem dL_law_682 : decode cL_law 682 = .ok (.aload_n 2, 1) := by decide +kernel
theorem dL_law_683 : decode cL_law 683 = .ok (.aload_n 0, 1) := by decide +kernel
theorem dL_law_684 : decode cL_law 684 = .ok (.iload 4, 2) := by decide +kernel
theorem dL_law_686 : decode cL_law 686 = .ok (.iconst 1, 1) := by decide +kernel
theorem dL_law_687 : decode cL_law 687 = .ok (.iadd, 1) := by decide +kernel
theorem dL_law_688 : decode cL_law 688 = .ok (.iaload, 1) := by decide +kernel
theorem dL_law_689 : decode cL_law 689 = .ok (.aload_n 0, 1) := by decide +kernel
theorem dL_law_690 : decode cL_law 690 = .ok (.iload 4, 2) := by decide +kernel
theorem dL_law_692 : decode cL_law 692 = .ok (.iconst 2, 1) := by decide +kernel
theorem dL_law_693 : decode cL_law 693 = .ok (.iadd, 1) := by decide +kernel
theorem dL_law_694 : decode cL_law 694 = .ok (.iaload, 1) := by decide +kernel
theorem dL_law_695 : decode cL_law 695 = .ok (.aload_n 0, 1) := by decide +kernel
theorem dL_law_696 : decode cL_law 696 = .ok (.iload 4, 2) := by decide +kernel
theorem dL_law_698 : decode cL_law 698 = .ok (.iconst 3, 1) := by decide +kernel
theorem dL_law_699 : decode cL_law 699 = .ok (.iadd, 1) := by decide +kernel
theorem dL_law_700 : decode cL_law 700 = .ok (.iaload, 1) := by decide +kernel
theorem dL_law_701 : decode cL_law 701 = .ok (.invokevirtual 84, 3) := by decide +kernel
theorem dL_law_704 : decode cL_law 704 = .ok (.if_icmp .eq 128, 3) := by decide +kernel
theorem dL_law_707 : decode cL_law 707 = .ok (.iconst 0, 1) := by decide +kernel
theorem dL_law_708 : decode cL_law 708 = .ok (.ireturn, 1) := by decide +kernel
theorem dL_law_709 : decode cL_law 709 = .ok (.aload_n 1, 1) := by decide +kernel
theorem dL_law_710 : decode cL_law 710 = .ok (.aload_n 0, 1) := by decide +kernel
theorem dL_law_711 : decode cL_law 711 = .ok (.iload 4, 2) := by decide +kernel
theorem dL_law_713 : decode cL_law 713 = .ok (.iconst 1, 1) := by decide +kernel
theorem dL_law_714 : decode cL_law 714 = .ok (.iadd, 1) := by decide +kernel
theorem dL_law_715 : decode cL_law 715 = .ok (.iaload, 1) := by decide +kernel
theorem dL_law_716 : decode cL_law 716 = .ok (.aload_n 0, 1) := by decide +kernel
theorem dL_law_717 : decode cL_law 717 = .ok (.iload 4, 2) := by decide +kernel
theorem dL_law_719 : decode cL_law 719 = .ok (.iconst 2, 1) := by decide +kernel
theorem dL_law_720 : decode cL_law 720 = .ok (.iadd, 1) := by decide +kernel
theorem dL_law_721 : decode cL_law 721 = .ok (.iaload, 1) := by decide +kernel
theorem dL_law_722 : decode cL_law 722 = .ok (.invokevirtual 85, 3) := by decide +kernel
theorem dL_law_725 : decode cL_law 725 = .ok (.aload_n 2, 1) := by decide +kernel
theorem dL_law_726 : decode cL_law 726 = .ok (.aload_n 0, 1) := by decide +kernel
theorem dL_law_727 : decode cL_law 727 = .ok (.iload 4, 2) := by decide +kernel
theorem dL_law_729 : decode cL_law 729 = .ok (.iconst 1, 1) := by decide +kernel
theorem dL_law_730 : decode cL_law 730 = .ok (.iadd, 1) := by decide +kernel
theorem dL_law_731 : decode cL_law 731 = .ok (.iaload, 1) := by decide +kernel
theorem dL_law_732 : decode cL_law 732 = .ok (.aload_n 0, 1) := by decide +kernel
theorem dL_law_733 : decode cL_law 733 = .ok (.iload 4, 2) := by decide +kernel
theorem dL_law_735 : decode cL_law 735 = .ok (.iconst 2, 1) := by decide +kernel
theorem dL_law_736 : decode cL_law 736 = .ok (.iadd, 1) := by decide +kernel
theorem dL_law_737 : decode cL_law 737 = .ok (.iaload, 1) := by decide +kernel
theorem dL_law_738 : decode cL_law 738 = .ok (.invokevirtual 88, 3) := by decide +kernel
theorem dL_law_741 : decode cL_law 741 = .ok (.if_icmp .eq 91, 3) := by decide +kernel
theorem dL_law_744 : decode cL_law 744 = .ok (.iconst 0, 1) := by decide +kernel
theorem dL_law_745 : decode cL_law 745 = .ok (.ireturn, 1) := by decide +kernel
theorem dL_law_746 : decode cL_law 746 = .ok (.aload_n 1, 1) := by decide +kernel
theorem dL_law_747 : decode cL_law 747 = .ok (.aload_n 0, 1) := by decide +kernel
theorem dL_law_748 : decode cL_law 748 = .ok (.iload 4, 2) := by decide +kernel
theorem dL_law_750 : decode cL_law 750 = .ok (.iconst 1, 1) := by decide +kernel
theorem dL_law_751 : decode cL_law 751 = .ok (.iadd, 1) := by decide +kernel
theorem dL_law_752 : decode cL_law 752 = .ok (.iaload, 1) := by decide +kernel
theorem dL_law_753 : decode cL_law 753 = .ok (.aload_n 0, 1) := by decide +kernel
theorem dL_law_754 : decode cL_law 754 = .ok (.iload 4, 2) := by decide +kernel
theorem dL_law_756 : decode cL_law 756 = .ok (.iconst 2, 1) := by decide +kernel
theorem dL_law_757 : decode cL_law 757 = .ok (.iadd, 1) := by decide +kernel
theorem dL_law_758 : decode cL_law 758 = .ok (.iaload, 1) := by decide +kernel
theorem dL_law_759 : decode cL_law 759 = .ok (.aload_n 0, 1) := by decide +kernel
theorem dL_law_760 : decode cL_law 760 = .ok (.iload 4, 2) := by decide +kernel
theorem dL_law_762 : decode cL_law 762 = .ok (.iconst 3, 1) := by decide +kernel
theorem dL_law_763 : decode cL_law 763 = .ok (.iadd, 1) := by decide +kernel
theorem dL_law_764 : decode cL_law 764 = .ok (.iaload, 1) := by decide +kernel
theorem dL_law_765 : decode cL_law 765 = .ok (.invokevirtual 89, 3) := by decide +kernel
theorem dL_law_768 : decode cL_law 768 = .ok (.aload_n 2, 1) := by decide +kernel
theorem dL_law_769 : decode cL_law 769 = .ok (.aload_n 0, 1) := by decide +kernel
theorem dL_law_770 : decode cL_law 770 = .ok (.iload 4, 2) := by decide +kernel
theorem dL_law_772 : decode cL_law 772 = .ok (.iconst 1, 1) := by decide +kernel
theorem dL_law_773 : decode cL_law 773 = .ok (.iadd, 1) := by decide +kernel
theorem dL_law_774 : decode cL_law 774 = .ok (.iaload, 1) := by decide +kernel
theorem dL_law_775 : decode cL_law 775 = .ok (.aload_n 0, 1) := by decide +kernel
theorem dL_law_776 : decode cL_law 776 = .ok (.iload 4, 2) := by decide +kernel
theorem dL_law_778 : decode cL_law 778 = .ok (.iconst 2, 1) := by decide +kernel
theorem dL_law_779 : decode cL_law 779 = .ok (.iadd, 1) := by decide +kernel
theorem dL_law_780 : decode cL_law 780 = .ok (.iaload, 1) := by decide +kernel
theorem dL_law_781 : decode cL_law 781 = .ok (.aload_n 0, 1) := by decide +kernel
theorem dL_law_782 : decode cL_law 782 = .ok (.iload 4, 2) := by decide +kernel
theorem dL_law_784 : decode cL_law 784 = .ok (.iconst 3, 1) := by decide +kernel
theorem dL_law_785 : decode cL_law 785 = .ok (.iadd, 1) := by decide +kernel
theorem dL_law_786 : decode cL_law 786 = .ok (.iaload, 1) := by decide +kernel
theorem dL_law_787 : decode cL_law 787 = .ok (.invokevirtual 92, 3) := by decide +kernel
theorem dL_law_790 : decode cL_law 790 = .ok (.if_icmp .eq 42, 3) := by decide +kernel
theorem dL_law_793 : decode cL_law 793 = .ok (.iconst 0, 1) := by decide +kernel
theorem dL_law_794 : decode cL_law 794 = .ok (.ireturn, 1) := by decide +kernel
theorem dL_law_795 : decode cL_law 795 = .ok (.aload_n 1, 1) := by decide +kernel
theorem dL_law_796 : decode cL_law 796 = .ok (.aload_n 0, 1) := by decide +kernel
theorem dL_law_797 : decode cL_law 797 = .ok (.iload 4, 2) := by decide +kernel
theorem dL_law_799 : decode cL_law 799 = .ok (.iconst 1, 1) := by decide +kernel
theorem dL_law_800 : decode cL_law 800 = .ok (.iadd, 1) := by decide +kernel
theorem dL_law_801 : decode cL_law 801 = .ok (.iaload, 1) := by decide +kernel
theorem dL_law_802 : decode cL_law 802 = .ok (.aload_n 0, 1) := by decide +kernel
theorem dL_law_803 : decode cL_law 803 = .ok (.iload 4, 2) := by decide +kernel
theorem dL_law_805 : decode cL_law 805 = .ok (.iconst 2, 1) := by decide +kernel
theorem dL_law_806 : decode cL_law 806 = .ok (.iadd, 1) := by decide +kernel
theorem dL_law_807 : decode cL_law 807 = .ok (.iaload, 1) := by decide +kernel
theorem dL_law_808 : decode cL_law 808 = .ok (.invokevirtual 93, 3) := by decide +kernel
theorem dL_law_811 : decode cL_law 811 = .ok (.aload_n 2, 1) := by decide +kernel
theorem dL_law_812 : decode cL_law 812 = .ok (.aload_n 0, 1) := by decide +kernel
theorem dL_law_813 : decode cL_law 813 = .ok (.iload 4, 2) := by decide +kernel
theorem dL_law_815 : decode cL_law 815 = .ok (.iconst 1, 1) := by decide +kernel
theorem dL_law_816 : decode cL_law 816 = .ok (.iadd, 1) := by decide +kernel
theorem dL_law_817 : decode cL_law 817 = .ok (.iaload, 1) := by decide +kernel
theorem dL_law_818 : decode cL_law 818 = .ok (.aload_n 0, 1) := by decide +kernel
theorem dL_law_819 : decode cL_law 819 = .ok (.iload 4, 2) := by decide +kernel
theorem dL_law_821 : decode cL_law 821 = .ok (.iconst 2, 1) := by decide +kernel
theorem dL_law_822 : decode cL_law 822 = .ok (.iadd, 1) := by decide +kernel
theorem dL_law_823 : decode cL_law 823 = .ok (.iaload, 1) := by decide +kernel
theorem dL_law_824 : decode cL_law 824 = .ok (.invokevirtual 96, 3) := by decide +kernel
theorem dL_law_827 : decode cL_law 827 = .ok (.if_icmp .eq 5, 3) := by decide +kernel
theorem dL_law_830 : decode cL_law 830 = .ok (.iconst 0, 1) := by decide +kernel
theorem dL_law_831 : decode cL_law 831 = .ok (.ireturn, 1) := by decide +kernel
theorem dL_law_832 : decode cL_law 832 = .ok (.iinc 4 6, 3) := by decide +kernel
theorem dL_law_835 : decode cL_law 835 = .ok (.goto (-812), 3) := by decide +kernel
theorem dL_law_838 : decode cL_law 838 = .ok (.iconst 1, 1) := by decide +kernel
theorem dL_law_839 : decode cL_law 839 = .ok (.ireturn, 1) := by decide +kernel
end
