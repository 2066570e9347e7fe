section
-- ===== PART A: goes FIRST, ahead of the names: the tables' words, and 'selects' of the private methods out of them =====
/-- a private method of a class that the tables say can be made, by its rows of tables_1 -/
def lw_okq (q : MethodName × Nat) : Prop := (q.1.cls ≠ "java/lang/invoke/MethodHandle" ∧ q.1.cls ≠ "java/lang/invoke/VarHandle") ∧ Cond.instantiable q.1.cls q.2 ∈ tables_1 ∧ Cond.privateMethod q.1 ∈ tables_1 ∧ Cond.instanceMethod q.1 ∈ tables_1
theorem lw_p0 : lw_okq (⟨"NightRiders", "isPlace", "(I)Z"⟩, 10) := ⟨⟨by decide +kernel, by decide +kernel⟩, List.mem_of_getElem? (i := 13) (by decide +kernel), List.mem_of_getElem? (i := 104) (by decide +kernel), List.mem_of_getElem? (i := 105) (by decide +kernel)⟩
theorem lw_p1 : lw_okq (⟨"NightRiders", "riderAt", "(I)LNightRiders$Rider;"⟩, 10) := ⟨⟨by decide +kernel, by decide +kernel⟩, List.mem_of_getElem? (i := 13) (by decide +kernel), List.mem_of_getElem? (i := 108) (by decide +kernel), List.mem_of_getElem? (i := 109) (by decide +kernel)⟩
theorem lw_p2 : lw_okq (⟨"NightRiders", "settleWays", "(LNightRiders$Rider;)V"⟩, 10) := ⟨⟨by decide +kernel, by decide +kernel⟩, List.mem_of_getElem? (i := 13) (by decide +kernel), List.mem_of_getElem? (i := 112) (by decide +kernel), List.mem_of_getElem? (i := 113) (by decide +kernel)⟩
theorem lw_p3 : lw_okq (⟨"NightRiders", "roadWithin", "(III)I"⟩, 10) := ⟨⟨by decide +kernel, by decide +kernel⟩, List.mem_of_getElem? (i := 13) (by decide +kernel), List.mem_of_getElem? (i := 116) (by decide +kernel), List.mem_of_getElem? (i := 117) (by decide +kernel)⟩
theorem lw_p4 : lw_okq (⟨"NightRiders", "countRequests", "(I)I"⟩, 10) := ⟨⟨by decide +kernel, by decide +kernel⟩, List.mem_of_getElem? (i := 13) (by decide +kernel), List.mem_of_getElem? (i := 195) (by decide +kernel), List.mem_of_getElem? (i := 196) (by decide +kernel)⟩
theorem lw_p5 : lw_okq (⟨"NightRiders", "requestAt", "(I)LNightRiders$Request;"⟩, 10) := ⟨⟨by decide +kernel, by decide +kernel⟩, List.mem_of_getElem? (i := 13) (by decide +kernel), List.mem_of_getElem? (i := 199) (by decide +kernel), List.mem_of_getElem? (i := 200) (by decide +kernel)⟩
theorem lw_p6 : lw_okq (⟨"NightRiders", "wayOf", "(LNightRiders$Rider;II)I"⟩, 10) := ⟨⟨by decide +kernel, by decide +kernel⟩, List.mem_of_getElem? (i := 13) (by decide +kernel), List.mem_of_getElem? (i := 222) (by decide +kernel), List.mem_of_getElem? (i := 223) (by decide +kernel)⟩
theorem lw_p7 : lw_okq (⟨"NightRiders", "lastOnDuty", "(II)I"⟩, 10) := ⟨⟨by decide +kernel, by decide +kernel⟩, List.mem_of_getElem? (i := 13) (by decide +kernel), List.mem_of_getElem? (i := 246) (by decide +kernel), List.mem_of_getElem? (i := 247) (by decide +kernel)⟩
theorem lw_p8 : lw_okq (⟨"NightRiders", "findChain", "(LNightRiders$Request;II)Z"⟩, 10) := ⟨⟨by decide +kernel, by decide +kernel⟩, List.mem_of_getElem? (i := 13) (by decide +kernel), List.mem_of_getElem? (i := 304) (by decide +kernel), List.mem_of_getElem? (i := 305) (by decide +kernel)⟩
theorem lw_p9 : lw_okq (⟨"NightRiders", "tryRiders", "(III)V"⟩, 10) := ⟨⟨by decide +kernel, by decide +kernel⟩, List.mem_of_getElem? (i := 13) (by decide +kernel), List.mem_of_getElem? (i := 308) (by decide +kernel), List.mem_of_getElem? (i := 309) (by decide +kernel)⟩
theorem lw_p10 : lw_okq (⟨"NightRiders", "thereFrom", "(LNightRiders$Rider;I)I"⟩, 10) := ⟨⟨by decide +kernel, by decide +kernel⟩, List.mem_of_getElem? (i := 13) (by decide +kernel), List.mem_of_getElem? (i := 316) (by decide +kernel), List.mem_of_getElem? (i := 317) (by decide +kernel)⟩
theorem lw_p11 : lw_okq (⟨"NightRiders", "isTooLate", "(I)Z"⟩, 10) := ⟨⟨by decide +kernel, by decide +kernel⟩, List.mem_of_getElem? (i := 13) (by decide +kernel), List.mem_of_getElem? (i := 320) (by decide +kernel), List.mem_of_getElem? (i := 321) (by decide +kernel)⟩
theorem lw_p12 : lw_okq (⟨"NightRiders", "waitsUntil", "(II)Z"⟩, 10) := ⟨⟨by decide +kernel, by decide +kernel⟩, List.mem_of_getElem? (i := 13) (by decide +kernel), List.mem_of_getElem? (i := 328) (by decide +kernel), List.mem_of_getElem? (i := 329) (by decide +kernel)⟩
theorem lw_p13 : lw_okq (⟨"NightRiders", "tryEnds", "(ILNightRiders$Rider;I)V"⟩, 10) := ⟨⟨by decide +kernel, by decide +kernel⟩, List.mem_of_getElem? (i := 13) (by decide +kernel), List.mem_of_getElem? (i := 336) (by decide +kernel), List.mem_of_getElem? (i := 337) (by decide +kernel)⟩
theorem lw_p14 : lw_okq (⟨"NightRiders", "tryEnd", "(ILNightRiders$Rider;II)V"⟩, 10) := ⟨⟨by decide +kernel, by decide +kernel⟩, List.mem_of_getElem? (i := 13) (by decide +kernel), List.mem_of_getElem? (i := 340) (by decide +kernel), List.mem_of_getElem? (i := 341) (by decide +kernel)⟩
theorem lw_p15 : lw_okq (⟨"NightRiders", "keepIfBetter", "()V"⟩, 10) := ⟨⟨by decide +kernel, by decide +kernel⟩, List.mem_of_getElem? (i := 13) (by decide +kernel), List.mem_of_getElem? (i := 356) (by decide +kernel), List.mem_of_getElem? (i := 357) (by decide +kernel)⟩
def lw_privs_1 : List (MethodName × Nat) := [(⟨"NightRiders", "isPlace", "(I)Z"⟩, 10), (⟨"NightRiders", "riderAt", "(I)LNightRiders$Rider;"⟩, 10), (⟨"NightRiders", "settleWays", "(LNightRiders$Rider;)V"⟩, 10), (⟨"NightRiders", "roadWithin", "(III)I"⟩, 10), (⟨"NightRiders", "countRequests", "(I)I"⟩, 10), (⟨"NightRiders", "requestAt", "(I)LNightRiders$Request;"⟩, 10), (⟨"NightRiders", "wayOf", "(LNightRiders$Rider;II)I"⟩, 10), (⟨"NightRiders", "lastOnDuty", "(II)I"⟩, 10), (⟨"NightRiders", "findChain", "(LNightRiders$Request;II)Z"⟩, 10), (⟨"NightRiders", "tryRiders", "(III)V"⟩, 10), (⟨"NightRiders", "thereFrom", "(LNightRiders$Rider;I)I"⟩, 10), (⟨"NightRiders", "isTooLate", "(I)Z"⟩, 10), (⟨"NightRiders", "waitsUntil", "(II)Z"⟩, 10), (⟨"NightRiders", "tryEnds", "(ILNightRiders$Rider;I)V"⟩, 10), (⟨"NightRiders", "tryEnd", "(ILNightRiders$Rider;II)V"⟩, 10), (⟨"NightRiders", "keepIfBetter", "()V"⟩, 10)]
theorem lw_r1 : ∀ q ∈ lw_privs_1, lw_okq q := List.forall_mem_cons.mpr ⟨lw_p0, List.forall_mem_cons.mpr ⟨lw_p1, List.forall_mem_cons.mpr ⟨lw_p2, List.forall_mem_cons.mpr ⟨lw_p3, List.forall_mem_cons.mpr ⟨lw_p4, List.forall_mem_cons.mpr ⟨lw_p5, List.forall_mem_cons.mpr ⟨lw_p6, List.forall_mem_cons.mpr ⟨lw_p7, List.forall_mem_cons.mpr ⟨lw_p8, List.forall_mem_cons.mpr ⟨lw_p9, List.forall_mem_cons.mpr ⟨lw_p10, List.forall_mem_cons.mpr ⟨lw_p11, List.forall_mem_cons.mpr ⟨lw_p12, List.forall_mem_cons.mpr ⟨lw_p13, List.forall_mem_cons.mpr ⟨lw_p14, List.forall_mem_cons.mpr ⟨lw_p15, fun _ h => absurd h List.not_mem_nil⟩⟩⟩⟩⟩⟩⟩⟩⟩⟩⟩⟩⟩⟩⟩⟩
theorem lw_p16 : lw_okq (⟨"NightRiders", "rideChosen", "(LNightRiders$Request;)V"⟩, 10) := ⟨⟨by decide +kernel, by decide +kernel⟩, List.mem_of_getElem? (i := 13) (by decide +kernel), List.mem_of_getElem? (i := 368) (by decide +kernel), List.mem_of_getElem? (i := 369) (by decide +kernel)⟩
theorem lw_p17 : lw_okq (⟨"NightRiders", "dropLegsBehind", "(LNightRiders$Request;I)V"⟩, 10) := ⟨⟨by decide +kernel, by decide +kernel⟩, List.mem_of_getElem? (i := 13) (by decide +kernel), List.mem_of_getElem? (i := 442) (by decide +kernel), List.mem_of_getElem? (i := 443) (by decide +kernel)⟩
theorem lw_p18 : lw_okq (⟨"NightRiders", "failLeg", "(LNightRiders$Leg;I)V"⟩, 10) := ⟨⟨by decide +kernel, by decide +kernel⟩, List.mem_of_getElem? (i := 13) (by decide +kernel), List.mem_of_getElem? (i := 446) (by decide +kernel), List.mem_of_getElem? (i := 447) (by decide +kernel)⟩
theorem lw_p19 : lw_okq (⟨"java/lang/Throwable", "fillInStackTrace", "(I)Ljava/lang/Throwable;"⟩, 6) := ⟨⟨by decide +kernel, by decide +kernel⟩, List.mem_of_getElem? (i := 498) (by decide +kernel), List.mem_of_getElem? (i := 496) (by decide +kernel), List.mem_of_getElem? (i := 497) (by decide +kernel)⟩
theorem lw_p20 : lw_okq (⟨"NightRidersModel", "isPlace", "(I)Z"⟩, 35) := ⟨⟨by decide +kernel, by decide +kernel⟩, List.mem_of_getElem? (i := 529) (by decide +kernel), List.mem_of_getElem? (i := 654) (by decide +kernel), List.mem_of_getElem? (i := 655) (by decide +kernel)⟩
theorem lw_p21 : lw_okq (⟨"NightRidersModel", "isRider", "(I)Z"⟩, 35) := ⟨⟨by decide +kernel, by decide +kernel⟩, List.mem_of_getElem? (i := 529) (by decide +kernel), List.mem_of_getElem? (i := 673) (by decide +kernel), List.mem_of_getElem? (i := 674) (by decide +kernel)⟩
theorem lw_p22 : lw_okq (⟨"NightRidersModel", "wayOf", "(III)I"⟩, 35) := ⟨⟨by decide +kernel, by decide +kernel⟩, List.mem_of_getElem? (i := 529) (by decide +kernel), List.mem_of_getElem? (i := 677) (by decide +kernel), List.mem_of_getElem? (i := 678) (by decide +kernel)⟩
theorem lw_p23 : lw_okq (⟨"NightRidersModel", "endOf", "(I)I"⟩, 35) := ⟨⟨by decide +kernel, by decide +kernel⟩, List.mem_of_getElem? (i := 529) (by decide +kernel), List.mem_of_getElem? (i := 686) (by decide +kernel), List.mem_of_getElem? (i := 687) (by decide +kernel)⟩
theorem lw_p24 : lw_okq (⟨"NightRidersModel", "onDuty", "(II)I"⟩, 35) := ⟨⟨by decide +kernel, by decide +kernel⟩, List.mem_of_getElem? (i := 529) (by decide +kernel), List.mem_of_getElem? (i := 698) (by decide +kernel), List.mem_of_getElem? (i := 699) (by decide +kernel)⟩
theorem lw_p25 : lw_okq (⟨"NightRidersModel", "mayCarry", "(II)Z"⟩, 35) := ⟨⟨by decide +kernel, by decide +kernel⟩, List.mem_of_getElem? (i := 529) (by decide +kernel), List.mem_of_getElem? (i := 702) (by decide +kernel), List.mem_of_getElem? (i := 703) (by decide +kernel)⟩
theorem lw_p26 : lw_okq (⟨"NightRidersModel", "isCall", "(I)Z"⟩, 35) := ⟨⟨by decide +kernel, by decide +kernel⟩, List.mem_of_getElem? (i := 529) (by decide +kernel), List.mem_of_getElem? (i := 718) (by decide +kernel), List.mem_of_getElem? (i := 719) (by decide +kernel)⟩
theorem lw_p27 : lw_okq (⟨"NightRidersModel", "findBest", "(IIII)Z"⟩, 35) := ⟨⟨by decide +kernel, by decide +kernel⟩, List.mem_of_getElem? (i := 529) (by decide +kernel), List.mem_of_getElem? (i := 722) (by decide +kernel), List.mem_of_getElem? (i := 723) (by decide +kernel)⟩
theorem lw_p28 : lw_okq (⟨"NightRidersModel", "tryLeg", "(IIIIII)V"⟩, 35) := ⟨⟨by decide +kernel, by decide +kernel⟩, List.mem_of_getElem? (i := 529) (by decide +kernel), List.mem_of_getElem? (i := 726) (by decide +kernel), List.mem_of_getElem? (i := 727) (by decide +kernel)⟩
theorem lw_p29 : lw_okq (⟨"NightRidersModel", "isBetter", "(I)Z"⟩, 35) := ⟨⟨by decide +kernel, by decide +kernel⟩, List.mem_of_getElem? (i := 529) (by decide +kernel), List.mem_of_getElem? (i := 731) (by decide +kernel), List.mem_of_getElem? (i := 732) (by decide +kernel)⟩
theorem lw_p30 : lw_okq (⟨"NightRidersModel", "ride", "(II)V"⟩, 35) := ⟨⟨by decide +kernel, by decide +kernel⟩, List.mem_of_getElem? (i := 529) (by decide +kernel), List.mem_of_getElem? (i := 739) (by decide +kernel), List.mem_of_getElem? (i := 740) (by decide +kernel)⟩
def lw_privs_2 : List (MethodName × Nat) := [(⟨"NightRiders", "rideChosen", "(LNightRiders$Request;)V"⟩, 10), (⟨"NightRiders", "dropLegsBehind", "(LNightRiders$Request;I)V"⟩, 10), (⟨"NightRiders", "failLeg", "(LNightRiders$Leg;I)V"⟩, 10), (⟨"java/lang/Throwable", "fillInStackTrace", "(I)Ljava/lang/Throwable;"⟩, 6), (⟨"NightRidersModel", "isPlace", "(I)Z"⟩, 35), (⟨"NightRidersModel", "isRider", "(I)Z"⟩, 35), (⟨"NightRidersModel", "wayOf", "(III)I"⟩, 35), (⟨"NightRidersModel", "endOf", "(I)I"⟩, 35), (⟨"NightRidersModel", "onDuty", "(II)I"⟩, 35), (⟨"NightRidersModel", "mayCarry", "(II)Z"⟩, 35), (⟨"NightRidersModel", "isCall", "(I)Z"⟩, 35), (⟨"NightRidersModel", "findBest", "(IIII)Z"⟩, 35), (⟨"NightRidersModel", "tryLeg", "(IIIIII)V"⟩, 35), (⟨"NightRidersModel", "isBetter", "(I)Z"⟩, 35), (⟨"NightRidersModel", "ride", "(II)V"⟩, 35)]
theorem lw_r2 : ∀ q ∈ lw_privs_2, lw_okq q := List.forall_mem_cons.mpr ⟨lw_p16, List.forall_mem_cons.mpr ⟨lw_p17, List.forall_mem_cons.mpr ⟨lw_p18, List.forall_mem_cons.mpr ⟨lw_p19, List.forall_mem_cons.mpr ⟨lw_p20, List.forall_mem_cons.mpr ⟨lw_p21, List.forall_mem_cons.mpr ⟨lw_p22, List.forall_mem_cons.mpr ⟨lw_p23, List.forall_mem_cons.mpr ⟨lw_p24, List.forall_mem_cons.mpr ⟨lw_p25, List.forall_mem_cons.mpr ⟨lw_p26, List.forall_mem_cons.mpr ⟨lw_p27, List.forall_mem_cons.mpr ⟨lw_p28, List.forall_mem_cons.mpr ⟨lw_p29, List.forall_mem_cons.mpr ⟨lw_p30, fun _ h => absurd h List.not_mem_nil⟩⟩⟩⟩⟩⟩⟩⟩⟩⟩⟩⟩⟩⟩⟩
def lw_privs : List (MethodName × Nat) := lw_privs_1 ++ (lw_privs_2)
def lw_tbl : List Cond := k2_sels lw_privs ++ tables_1
theorem lw_privs_ok : ∀ q ∈ lw_privs, lw_okq q := by
  show ∀ q ∈ lw_privs_1 ++ (lw_privs_2), lw_okq q
  exact List.forall_mem_append.mpr ⟨lw_r1, lw_r2⟩
end
section
/-! ===== BEGIN words of one list among another's, by their places ===== -/
theorem goodIn_r {big : List Cond} (ws : List Cond) (ps : List Nat) (hp : ws = ps.filterMap (fun i => big[i]?)) (h : ws.all goodWord = true) : GoodIn big ws := by
  intro w hw
  have h1 := List.all_eq_true.mp h w hw
  rw [hp] at hw
  obtain ⟨i, -, hi⟩ := List.mem_filterMap.mp hw
  have hm : w ∈ big := by first | exact List.mem_of_getElem? hi | exact List.getElem?_mem hi
  exact ⟨hm, good_of_word h1⟩
theorem goodIn_app {big a b : List Cond} (ha : GoodIn big a) (hb : GoodIn big b) : GoodIn big (a ++ b) := fun w h => (List.mem_append.mp h).elim (ha w) (hb w)
theorem goodIn_ca {big a b : List Cond} {c : Cond} (ha : GoodIn big (c :: a)) (hb : GoodIn big b) : GoodIn big (c :: (a ++ b)) := fun w h => (List.mem_cons.mp h).elim (fun e => ha w (List.mem_cons.mpr (Or.inl e))) (fun h => (List.mem_append.mp h).elim (fun h => ha w (List.mem_cons.mpr (Or.inr h))) (hb w))
theorem goodIn_sub {big ws : List Cond} (hm : ∀ w ∈ ws, w ∈ big) (h : ws.all goodWord = true) : GoodIn big ws := fun w hw => ⟨hm w hw, good_of_word (List.all_eq_true.mp h w hw)⟩
/-! ===== END ===== -/

/-! ===== BEGIN exceptions that leave a method, and their catching by the caller (launches without stack traces) ===== -/
section VXA
/-! The laws vx_back, vx_callV, vx_callS, vx_callSW, vx_throw0, vx_throwS follow proofs of the library, with one case more: JvmDerived/Free/Laws.lean (Back.of_free), Shelf42/LK1.lean (callV, callS), Shelf/KitTraced.lean (throwNew0V, throwNewS). -/
/-- where a method has thrown q: the class by its name, the cell, what was written, the world -/
def vx_T (XC : String → State → State → Prop) (st : State) (q : Addr) (t : State) (mc ms : Nat) (free : Addr → Prop) : Prop :=
  ∃ (E : String) (ce : Cell) (L : List Loc), XC E st t ∧ t.heap[q]? = some ce ∧ ce.vm = .none ∧ st.vm.findClass E = some ce.cls ∧ st.WarmedH t.vm ∧ st.sameButNew ({ t with vm := st.vm } : State) L mc ms ∧ ∀ z ∈ L, free z.base
def vx_Q (Qc : Array Value → State → Outcome → State → Prop) (XC : String → State → State → Prop) (mc ms : Nat) (free : Addr → Prop) : Array Value → State → Outcome → State → Prop := fun a st o t =>
  (Qc a st o t ∧ ∃ L, FrameEnd st o t L mc ms ∧ ∀ q ∈ L, free q.base) ∨ ∃ q, o = .threw q ∧ vx_T XC st q t mc ms free
/-- a callee that returns or throws -/
def vx_Met (l : Launch) (y : MethodName) (ws : List Cond) (rm : Room) (Pc : Array Value → State → Prop) (Qc : Array Value → State → Outcome → State → Prop) (XC : String → State → State → Prop) (mc ms : Nat) (free : Addr → Prop) : Prop :=
  MetFree l y (headSpec ws rm) Pc (fun _ _ _ _ _ => True) (vx_Q Qc XC mc ms free)
def vx_Post (XC : String → State → State → Prop) (mc ms : Nat) (free : Addr → Prop) : Pt → Array Value → Addr → Pt → Prop := fun A a q B =>
  ∃ (g : JFrame) (mk : MethodId) (t : State) (L : List Loc) (E : String) (ce : Cell), B.U.heap = t.heap ∧ B.U.vm = t.vm ∧ XC E (A.U.calling g mk a) t ∧ t.heap[q]? = some ce ∧ ce.vm = .none ∧ A.U.vm.findClass E = some ce.cls ∧ B.locs = A.locs ++ L ∧ (∀ z ∈ L, free z.base) ∧ B.cells = A.cells + mc ∧ B.slots = A.slots + ms
def vx_Back (l : Launch) (R : Room) (p : Program) (e : Env) (below : List Frame) (s : State) (sargs : Array Value) (y : MethodName) (len W9 : Nat)
    (Pre : Pt → Array Value → Prop) (Post : Pt → Array Value → Option Value → Pt → Prop) (PostX : Pt → Array Value → Addr → Pt → Prop) : Prop :=
  ∀ (m : MethodId) (meth : Method) (c : Code) (A : Pt) (g : JFrame) (ig : Instr) (mk : MethodId) (a : Array Value),
    Stand p l e R s m sargs below meth c A.U A.locs A.cells A.slots → g.method = m → g.locals.size = c.maxLocals → decode c.code g.pc = .ok (ig, len) →
    2 * g.monitorRoom + (g.stack.map fun v => v.category).sum ≤ W9 → A.U.methodNamed? y = some mk → Pre A a →
    (∃ (v : Option Value) (B : Pt), Stand p l e R s m sargs below meth c B.U B.locs B.cells B.slots ∧ Post A a v B ∧
      Steps p.tables e below (doInvoke e (A.U.setTop g) [] mk a).1 (B.U.setTop { g with pc := g.pc + len, stack := v.toList ++ g.stack })) ∨
    (∃ (q : Addr) (B : Pt), Stand p l e R s m sargs below meth c B.U B.locs B.cells B.slots ∧ PostX A a q B ∧
      Steps p.tables e below (doInvoke e (A.U.setTop g) [] mk a).1 ((B.U.setTop g).pushFrame (.throwing q)))
section Payer
variable {l : Launch} {R : Room} {p : Program} {e : Env} {below : List Frame} {s : State} {sargs : Array Value} {y : MethodName} {len W9 : Nat}
theorem vx_back {ws : List Cond} {rm : Room} {Pc : Array Value → State → Prop} {Qc : Array Value → State → Outcome → State → Prop} {XC : String → State → State → Prop} {mc ms : Nat} {free : Addr → Prop} {bytes : ByteArray} {maxL : Nat} {ret : Option FieldType}
    (hM : vx_Met l y ws rm Pc Qc XC mc ms free) (hblind : FrameBlind Pc) (hrc : rm.cells = mc) (hrs : rm.slots = ms)
    (hframes : rm.frames + 1 ≤ R.frames) (hlocals : W9 + (maxL + 11) + rm.locals ≤ R.locals)
    (hws : ∀ w ∈ ws, ∀ a' U, s.WarmedH U.vm → w.before a' U = true) (hcode : Cond.code y bytes maxL ret ∈ ws) (hinit : ∀ a' U, s.WarmedH U.vm → (Cond.initialized y.cls).before a' U = true) :
    vx_Back l R p e below s sargs y len W9 (PreOf R mc ms Pc) (PostOf Qc mc ms free) (vx_Post XC mc ms free) := by
  intro m meth c A g ig mk a X hg hsize hdg hW hn hp
  have h1 : (headSpec ws rm).pre.before a A.U = true := atoms_intro fun w hw => hws w hw _ _ X.warmed
  have h2 : (Cond.code y bytes maxL ret).before a A.U = true := hws _ hcode _ _ X.warmed
  have h3 : (Cond.initialized y.cls).before a A.U = true := hinit _ _ X.warmed
  have h4 : A.cells + (headSpec ws rm).room.cells ≤ R.cells := by rw [show (headSpec ws rm).room.cells = mc from hrc]; exact hp.1
  have h5 : A.slots + (headSpec ws rm).room.slots ≤ R.slots := by rw [show (headSpec ws rm).room.slots = ms from hrs]; exact hp.2.1
  have hPc : Pc a (A.U.calling g mk a) := hblind _ _ _ _ hp.2.2
  obtain ⟨U, Ls, c0, s0⟩ := A
  dsimp only [Pt.U, Pt.locs, Pt.cells, Pt.slots] at h1 h2 h3 h4 h5 X hn hPc ⊢
  obtain ⟨methY, cY, hmY, hcY, -, hlY, -, -, -, -⟩ := Cond.code_spec hn h2
  obtain ⟨kY, hkY, -⟩ := className_of_methodNamed hn
  have hinitY : kY.init = .initialized := Cond.initialized_spec (findClass_of_methodNamed hn) hkY h3
  have h : At U g.method c below := by rw [hg]; exact X.here
  have hlocals9 : W9 + (maxL + 11) + (headSpec ws rm).room.locals ≤ R.locals := hlocals
  have happ : (headSpec ws rm).appliesLoose y e.platform (U.calling g mk a) = true :=
    Spec.appliesLoose_calling (g := g) h hdg hn hkY hinitY
      (X.room_calling (g := g) (R' := (headSpec ws rm).room) hsize hmY hcY hframes (by rw [hlY]; omega) h4 h5) h1
  obtain ⟨mid, hmid⟩ := h.above
  have hfr : (U.setTop g).frames = (.java g :: mid) ++ below := by rw [State.frames_setTop' g h.top, hmid]; rfl
  obtain ⟨o, s₂, hsteps, -, hend, hq⟩ := Steps.callFree hM p X.admits X.cas X.clock (acts := []) hfr happ hPc trivial
  have hq' : vx_Q Qc XC mc ms free a (U.calling g mk a) o s₂ := hq
  rw [State.frames_setTop' g h.top] at hend
  obtain ⟨g₀, hg0⟩ := Option.isSome_iff_exists.mp h.top
  obtain ⟨r, hr⟩ := State.topJava?_eq_some.mp hg0
  have hr' : (({ U with heap := s₂.heap, slotsUsed := s₂.slotsUsed } : State).setVm s₂.vm).frames = .java g₀ :: r := hr
  rcases hq' with ⟨hqc, L, hfe, hL⟩ | ⟨q, rfl, E, ce, L, hx, hce, hcv, hcl, hW₂, hsm, hL⟩
  · obtain ⟨⟨v, rfl⟩, hW₂, e2, q2, q3, q4, q5, q6⟩ := id hfe
    have e3 : s₂ = ({ (U.calling g mk a).setFrames s₂.frames with heap := s₂.heap, slotsUsed := s₂.slotsUsed } : State).setVm s₂.vm := by
      have : s₂ = ({ s₂ with vm := (U.calling g mk a).vm } : State).setVm s₂.vm := rfl
      rw [e2] at this
      exact this
    obtain ⟨c₂, i₂, len₂, hc₂, hd₂, hf₂⟩ := hend
    have hW' : U.WarmedH s₂.vm := hW₂
    have hcc : c₂ = c := by
      have h1 : s₂.code? g.method = U.code? g.method := by
        rw [State.code?_eq, State.code?_eq, hW'.alike.method?]
      exact Option.some.inj (hc₂.symm.trans (h1.trans h.code))
    subst hcc
    have hlen : len₂ = len := by rw [hdg] at hd₂; cases hd₂; rfl
    subst hlen
    have hs₂ : s₂ = (({ U with heap := s₂.heap, slotsUsed := s₂.slotsUsed } : State).setVm s₂.vm).setTop { g with pc := g.pc + len₂, stack := v.toList ++ g.stack } := by
      refine e3.trans ?_
      rw [hf₂, State.calling_eq h.top, State.setFrames_setFrames, State.setTop_of_frames _ hr', hr]
      rfl
    have hsame : U.sameButNew ({ U with heap := s₂.heap, slotsUsed := s₂.slotsUsed } : State) L mc ms := by
      refine ⟨?_, q2, q3, q4, q5, q6⟩
      obtain ⟨t, ht, -⟩ := State.frames_cons hr
      show ({ U with heap := s₂.heap, slotsUsed := s₂.slotsUsed } : State) = { U.setFrames U.frames with heap := s₂.heap, slotsUsed := s₂.slotsUsed }
      rw [State.setFrames_self ht]
    subst hg
    refine Or.inl ⟨v, ⟨(({ U with heap := s₂.heap, slotsUsed := s₂.slotsUsed } : State).setVm s₂.vm), Ls ++ L, c0 + mc, s0 + ms⟩,
      ⟨X.admits, X.cas, X.clock, X.frames, X.room, X.hears, X.method, X.code, (X.here.setHeapUsed s₂.heap s₂.slotsUsed).setVm hW'.alike, X.tail, State.WarmedH.trans X.warmed hW', X.limits, X.bytes, X.same.trans (hsame.setVm s.vm)⟩,
      ⟨g, mk, s₂, L, rfl, rfl, hqc, rfl, hL, rfl, rfl⟩, ?_⟩
    show Steps p.tables e below _ ((({ U with heap := s₂.heap, slotsUsed := s₂.slotsUsed } : State).setVm s₂.vm).setTop { g with pc := g.pc + len₂, stack := v.toList ++ g.stack })
    rw [← hs₂]
    exact hsteps
  · obtain ⟨e2, q2, q3, q4, q5, q6⟩ := id hsm
    have e3 : s₂ = ({ (U.calling g mk a).setFrames s₂.frames with heap := s₂.heap, slotsUsed := s₂.slotsUsed } : State).setVm s₂.vm := by
      have : s₂ = ({ s₂ with vm := (U.calling g mk a).vm } : State).setVm s₂.vm := rfl
      rw [e2] at this
      exact this
    have hf₂ : s₂.frames = .throwing q :: .java g :: U.frames.tail := hend
    have hW' : U.WarmedH s₂.vm := hW₂
    have hs₂ : s₂ = ((({ U with heap := s₂.heap, slotsUsed := s₂.slotsUsed } : State).setVm s₂.vm).setTop g).pushFrame (.throwing q) := by
      refine e3.trans ?_
      rw [hf₂, State.calling_eq h.top, State.setFrames_setFrames, State.pushFrame, State.frames_setTop _ hr', State.setTop_of_frames _ hr', State.setFrames_setFrames, hr]
      rfl
    have hsame : U.sameButNew ({ U with heap := s₂.heap, slotsUsed := s₂.slotsUsed } : State) L mc ms := by
      refine ⟨?_, q2, q3, q4, q5, q6⟩
      obtain ⟨t, ht, -⟩ := State.frames_cons hr
      show ({ U with heap := s₂.heap, slotsUsed := s₂.slotsUsed } : State) = { U.setFrames U.frames with heap := s₂.heap, slotsUsed := s₂.slotsUsed }
      rw [State.setFrames_self ht]
    subst hg
    refine Or.inr ⟨q, ⟨(({ U with heap := s₂.heap, slotsUsed := s₂.slotsUsed } : State).setVm s₂.vm), Ls ++ L, c0 + mc, s0 + ms⟩,
      ⟨X.admits, X.cas, X.clock, X.frames, X.room, X.hears, X.method, X.code, (X.here.setHeapUsed s₂.heap s₂.slotsUsed).setVm hW'.alike, X.tail, State.WarmedH.trans X.warmed hW', X.limits, X.bytes, X.same.trans (hsame.setVm s.vm)⟩,
      ⟨g, mk, s₂, L, E, ce, rfl, rfl, hx, hce, hcv, hcl, rfl, hL, rfl, rfl⟩, ?_⟩
    show Steps p.tables e below _ (((({ U with heap := s₂.heap, slotsUsed := s₂.slotsUsed } : State).setVm s₂.vm).setTop g).pushFrame (.throwing q))
    rw [← hs₂]
    exact hsteps
end Payer
section Calls
variable {p : Program} {l : Launch} {e : Env} {R : Room} {s : State} {m : MethodId} {args : Array Value} {below : List Frame} {meth : Method} {c : Code} {T : State} {locs : List Loc} {cells slots : Nat}
theorem vx_callV (X : Stand p l e R s m args below meth c T locs cells slots) (hexec : p.tables.exec = Jvm.exec) {own C : String} {index : Nat} {y : MethodName} {bytes : ByteArray} {maxL : Nat} {ret : Option FieldType}
    (hown : s.vm.findClass own = some m.cls) (hlink : (Cond.methodLink own index y).before args s = true) (hinst : (Cond.instanceMethod y).before args s = true) (hsel : (Cond.selects C y y).before args s = true)
    (hcode : (Cond.code y bytes maxL ret).before args s = true) (hy : y.cls ≠ "java/lang/invoke/MethodHandle" ∧ y.cls ≠ "java/lang/invoke/VarHandle")
    {W9 : Nat} {Pre : Pt → Array Value → Prop} {Post : Pt → Array Value → Option Value → Pt → Prop} {PostX : Pt → Array Value → Addr → Pt → Prop} (hK : vx_Back l R p e below s args y 3 W9 Pre Post PostX)
    {b : Addr} {cellB : Cell} (hcell : T.heap[b]? = some cellB) (hobj : cellB.vm.isStatics = false) (hcls : s.vm.findClass C = some cellB.cls)
    {g : JFrame} (hg : g.method = m) (hsize : g.locals.size = c.maxLocals) {argsL rest : List Value} (hlen : ∀ sig, parseMethodDescriptor y.desc = some sig → argsL.length = sig.parameters.length)
    (hstack : g.stack = argsL.reverse ++ .ref b :: rest) (hW : 2 * g.monitorRoom + (rest.map fun v => v.category).sum ≤ W9) (hdg : decode c.code g.pc = .ok (.invokevirtual index, 3))
    (hpre : ∀ vm₁, s.WarmedH vm₁ → Pre ⟨T.setVm vm₁, locs, cells, slots⟩ (Value.ref b :: argsL).toArray) :
    (∃ (v : Option Value) (vm₁ : Vm) (B : Pt), s.WarmedH vm₁ ∧ Stand p l e R s m args below meth c B.U B.locs B.cells B.slots ∧ Post ⟨T.setVm vm₁, locs, cells, slots⟩ (Value.ref b :: argsL).toArray v B ∧
      ∀ target, Steps p.tables e below (B.U.setTop { g with pc := g.pc + 3, stack := v.toList ++ rest }) target → Steps p.tables e below (T.setTop g) target) ∨
    (∃ (q : Addr) (vm₁ : Vm) (B : Pt), s.WarmedH vm₁ ∧ Stand p l e R s m args below meth c B.U B.locs B.cells B.slots ∧ PostX ⟨T.setVm vm₁, locs, cells, slots⟩ (Value.ref b :: argsL).toArray q B ∧
      Steps p.tables e below (T.setTop g) ((B.U.setTop { g with stack := rest }).pushFrame (.throwing q))) := by
  obtain ⟨mk, methM, hnamed, hmethM, hstM, habM⟩ := Cond.instanceMethod_spec hinst
  obtain ⟨methM', cM, hmethM', -, -, -, -, -, -, hsigM⟩ := Cond.code_spec hnamed hcode
  cases hmethM.symm.trans hmethM'
  obtain ⟨c2, r2, m2, q1, q2, q3, q4, kP, hkP, hkPi⟩ := Cond.selects_spec hsel
  cases hcls.symm.trans q1
  cases (State.methodFound?_of_named hnamed hy).symm.trans q2
  cases hnamed.symm.trans q3
  have hselP : selectMethod e.platform s.vm cellB.cls mk = .method mk := by rw [Launch.admits_selectMethod X.admits]; exact q4
  obtain ⟨vm₁, X₁, hstep₁⟩ := X.invokevirtual hexec hown hlink hnamed hmethM hstM hkP hkPi hy (a := b) (cell := cellB) hcell
    (fun z h => by rw [h] at hobj; cases hobj) hselP hmethM habM hkP hkPi (g := g) hg (argsL := argsL) (rest := rest) (hlen _ hsigM) hstack hdg
  rcases hK m meth c ⟨T.setVm vm₁, locs, cells, slots⟩ { g with stack := rest } (.invokevirtual index) mk (Value.ref b :: argsL).toArray X₁ hg hsize hdg hW (X₁.named hnamed) (hpre vm₁ X₁.warmed) with ⟨v, B, X', hpost, hsteps⟩ | ⟨q, B, X', hpost, hsteps⟩
  · exact Or.inl ⟨v, vm₁, B, X₁.warmed, X', hpost, fun target h => hstep₁ _ fun acts => by rw [doInvoke_state]; exact hsteps.trans h⟩
  · exact Or.inr ⟨q, vm₁, B, X₁.warmed, X', hpost, hstep₁ _ fun acts => by rw [doInvoke_state]; exact hsteps⟩
theorem vx_callS (X : Stand p l e R s m args below meth c T locs cells slots) (hexec : p.tables.exec = Jvm.exec) {own : String} {index : Nat} {y : MethodName} {bytes : ByteArray} {maxL : Nat} {ret : Option FieldType}
    (hown : s.vm.findClass own = some m.cls) (hlink : (Cond.methodLink own index y).before args s = true) (hstat : (Cond.static y).before args s = true) (hinit : (Cond.initialized y.cls).before args s = true)
    (hcode : (Cond.code y bytes maxL ret).before args s = true) (hy : y.cls ≠ "java/lang/invoke/MethodHandle" ∧ y.cls ≠ "java/lang/invoke/VarHandle")
    {W9 : Nat} {Pre : Pt → Array Value → Prop} {Post : Pt → Array Value → Option Value → Pt → Prop} {PostX : Pt → Array Value → Addr → Pt → Prop} (hK : vx_Back l R p e below s args y 3 W9 Pre Post PostX)
    {g : JFrame} (hg : g.method = m) (hsize : g.locals.size = c.maxLocals) {argsL rest : List Value} (hlen : ∀ sig, parseMethodDescriptor y.desc = some sig → argsL.length = sig.parameters.length)
    (hstack : g.stack = argsL.reverse ++ rest) (hW : 2 * g.monitorRoom + (rest.map fun v => v.category).sum ≤ W9) (hdg : decode c.code g.pc = .ok (.invokestatic index, 3))
    (hpre : ∀ vm₁, s.WarmedH vm₁ → Pre ⟨T.setVm vm₁, locs, cells, slots⟩ argsL.toArray) :
    (∃ (v : Option Value) (vm₁ : Vm) (B : Pt), s.WarmedH vm₁ ∧ Stand p l e R s m args below meth c B.U B.locs B.cells B.slots ∧ Post ⟨T.setVm vm₁, locs, cells, slots⟩ argsL.toArray v B ∧
      ∀ target, Steps p.tables e below (B.U.setTop { g with pc := g.pc + 3, stack := v.toList ++ rest }) target → Steps p.tables e below (T.setTop g) target) ∨
    (∃ (q : Addr) (vm₁ : Vm) (B : Pt), s.WarmedH vm₁ ∧ Stand p l e R s m args below meth c B.U B.locs B.cells B.slots ∧ PostX ⟨T.setVm vm₁, locs, cells, slots⟩ argsL.toArray q B ∧
      Steps p.tables e below (T.setTop g) ((B.U.setTop { g with stack := rest }).pushFrame (.throwing q))) := by
  obtain ⟨mk, hnamed⟩ := Cond.code_named hcode
  obtain ⟨methM, cM, hmethM, -, -, -, -, -, -, hsigM⟩ := Cond.code_spec hnamed hcode
  have hstatic : methM.isStatic = true := Cond.static_spec hnamed hmethM hstat
  obtain ⟨kP, hkP, -⟩ := className_of_methodNamed hnamed
  have hinitP : kP.init = .initialized := Cond.initialized_spec (findClass_of_methodNamed hnamed) hkP hinit
  obtain ⟨vm₁, X₁, hstep₁⟩ := X.invokestatic hexec hown hlink hnamed hmethM hstatic hkP hinitP hy (g := g) hg (argsL := argsL) (rest := rest) (hlen _ hsigM) hstack hdg
  rcases hK m meth c ⟨T.setVm vm₁, locs, cells, slots⟩ { g with stack := rest } (.invokestatic index) mk argsL.toArray X₁ hg hsize hdg hW (X₁.named hnamed) (hpre vm₁ X₁.warmed) with ⟨v, B, X', hpost, hsteps⟩ | ⟨q, B, X', hpost, hsteps⟩
  · exact Or.inl ⟨v, vm₁, B, X₁.warmed, X', hpost, fun target h => hstep₁ _ fun acts => by rw [doInvoke_state]; exact hsteps.trans h⟩
  · exact Or.inr ⟨q, vm₁, B, X₁.warmed, X', hpost, hstep₁ _ fun acts => by rw [doInvoke_state]; exact hsteps⟩
end Calls
theorem vx_cls {s : State} {T : State} {vm₁ : Vm} {E : String} {k : ClassId} (hW : s.WarmedH vm₁) (h : (T.setVm vm₁).vm.findClass E = some k) : s.vm.findClass E = some k := by
  have h1 : vm₁.findClass E = some k := h
  rw [hW.alike.findClass] at h1
  exact h1
/-- the method's frame g, with q thrown over it -/
def vx_W (p : Program) (l : Launch) (e : Env) (R : Room) (s : State) (m : MethodId) (args : Array Value) (below : List Frame) (meth : Method) (c : Code) (H : Heap) (locs : List Loc) (cells slots : Nat) (Q : State → Prop) (g : JFrame) (q : Addr) : Prop :=
  ∀ T : State, T.heap = H → Stand p l e R s m args below meth c T locs cells slots → ∃ t, Steps p.tables e below ((T.setTop g).pushFrame (.throwing q)) t ∧ Q t
def vx_Run (p : Program) (l : Launch) (e : Env) (R : Room) (s : State) (m : MethodId) (args : Array Value) (below : List Frame) (meth : Method) (c : Code) (H : Heap) (locs : List Loc) (cells slots mc ms : Nat) (g : JFrame) (rest : List Value) (Qa : State → Outcome → State → Prop) (XC : String → State → State → Prop) (free : Addr → Prop) : Prop :=
  ∀ T : State, T.heap = H → Stand p l e R s m args below meth c T locs cells slots →
    (∃ (v : Option Value) (st₀ t T' : State) (L : List Loc), st₀.heap = H ∧ Stand p l e R s m args below meth c T' (locs ++ L) (cells + mc) (slots + ms) ∧ (∀ q ∈ L, free q.base) ∧ T'.heap = t.heap ∧ T'.vm = t.vm ∧ Qa st₀ (.returned v) t ∧
      Goes p e below T g T' { g with pc := g.pc + 3, stack := v.toList ++ rest }) ∨
    (∃ (q : Addr) (st₀ t T' : State) (L : List Loc) (E : String) (ce : Cell), st₀.heap = H ∧ Stand p l e R s m args below meth c T' (locs ++ L) (cells + mc) (slots + ms) ∧ (∀ z ∈ L, free z.base) ∧ T'.heap = t.heap ∧ T'.vm = t.vm ∧ XC E st₀ t ∧ t.heap[q]? = some ce ∧ ce.vm = .none ∧ s.vm.findClass E = some ce.cls ∧
      Steps p.tables e below (T.setTop g) ((T'.setTop { g with stack := rest }).pushFrame (.throwing q)))
def vx_X {S : Type} (px : S → Prop) (B : String → S → State → Prop) (A : Nat → Prop) : String → State → State → Prop := fun E st t => ∃ u : S, px u ∧ B E u t ∧ va_F A st t
section Runs
variable {p : Program} {l : Launch} {e : Env} {R : Room} {s : State} {m : MethodId} {args : Array Value} {below : List Frame} {meth : Method} {c : Code} {H : Heap} {locs : List Loc} {cells slots : Nat}
variable {y : MethodName} {bytes cc : ByteArray} {maxL nL mc ms n index : Nat} {ret : Option FieldType} {ws : List Cond} {rm : Room} {Pc : Array Value → State → Prop} {Qc : Array Value → State → Outcome → State → Prop} {XC : String → State → State → Prop} {free : Addr → Prop} {Ts : List Cond} {own C : String} {b : Addr} {As rest : List Value} {g : JFrame}
theorem vx_callBack (cb : CallB R s args own index y bytes maxL ret ws rm mc ms n) (hM : vx_Met l y ws rm Pc Qc XC mc ms free) (hbl : FrameBlind Pc) : vx_Back l R p e below s args y 3 8 (PreOf R mc ms Pc) (PostOf Qc mc ms free) (vx_Post XC mc ms free) := by
  obtain ⟨hrc, hrs, hfr, hlo, hws, hcw, -, hini, -⟩ := cb
  exact vx_back (bytes := bytes) (maxL := maxL) (ret := ret) hM hbl hrc hrs hfr hlo hws hcw (fun a' U hW => word_at hW (Or.inl (by first | rfl | simp [Cond.onTables, Cond.keeps, Cond.steady])) hini)
theorem vx_runV (S : CallFix p m c cc nL s args Ts own) (hM : vx_Met l y ws rm Pc Qc XC mc ms free) (cw : CallW R s args own C index y bytes maxL ret ws rm mc ms n) (hp : PreV s H C b Pc As)
    (hg : g.method = m) (hn : As.length = n) (hsize : g.locals.size = nL) (hstack : g.stack = As.reverse ++ .ref b :: rest) (hW : 2 * g.monitorRoom + (rest.map fun v => v.category).sum ≤ 8) (hdg : decode cc g.pc = .ok (.invokevirtual index, 3)) (hf : cells + mc ≤ R.cells ∧ slots + ms ≤ R.slots) :
    vx_Run p l e R s m args below meth c H locs cells slots mc ms g rest (Qc (Value.ref b :: As).toArray) XC free := by
  have hK : vx_Back l R p e below s args y 3 8 (PreOf R mc ms Pc) (PostOf Qc mc ms free) (vx_Post XC mc ms free) := vx_callBack cw.1 hM hp.1
  obtain ⟨⟨-, -, -, -, -, -, hcode, -, hy, hlen, hl⟩, hin, hse⟩ := cw
  obtain ⟨hx, hb, hml, ho, -⟩ := S
  obtain ⟨-, ⟨cellB, hcB, hoB, hclB⟩, hPc⟩ := hp
  intro T hT X
  rcases vx_callV X hx (C := C) (bytes := bytes) (maxL := maxL) (ret := ret) ho hl hin hse hcode hy hK (by rw [hT]; exact hcB) hoB hclB hg (hsize.trans hml.symm) (argsL := As) (rest := rest) (fun sig h => hn.trans (hlen sig h)) hstack hW (by rw [hb]; exact hdg)
    (fun vm₁ hW₁ => ⟨hf.1, hf.2, hPc (T.setVm vm₁) hT hW₁⟩) with ⟨v, vm₁, ⟨U', l2, c2, s2⟩, hW₁, X', ⟨g', mk, t, L, e1, e2, hq, h1, hL, h2, h3⟩, st⟩ | ⟨q, vm₁, ⟨U', l2, c2, s2⟩, hW₁, X', ⟨g', mk, t, L, E, ce, e1, e2, hq, hce, hcv, hcl, h1, hL, h2, h3⟩, st⟩
  · dsimp only [Pt.U, Pt.locs, Pt.cells, Pt.slots] at X' e1 e2 h1 h2 h3 st
    subst h1; subst h2; subst h3
    exact Or.inl ⟨v, (T.setVm vm₁).calling g' mk (Value.ref b :: As).toArray, t, U', L, hT, X', hL, e1, e2, hq, st⟩
  · dsimp only [Pt.U, Pt.locs, Pt.cells, Pt.slots] at X' e1 e2 h1 h2 h3 st hcl
    subst h1; subst h2; subst h3
    exact Or.inr ⟨q, (T.setVm vm₁).calling g' mk (Value.ref b :: As).toArray, t, U', L, E, ce, hT, X', hL, e1, e2, hq, hce, hcv, vx_cls hW₁ hcl, st⟩
theorem vx_runS (S : CallFix p m c cc nL s args Ts own) (hM : vx_Met l y ws rm Pc Qc XC mc ms free) (cw : CallB R s args own index y bytes maxL ret ws rm mc ms n ∧ (Cond.static y).before args s = true) (hp : PreS s H Pc As)
    (hg : g.method = m) (hn : As.length = n) (hsize : g.locals.size = nL) (hstack : g.stack = As.reverse ++ rest) (hW : 2 * g.monitorRoom + (rest.map fun v => v.category).sum ≤ 8) (hdg : decode cc g.pc = .ok (.invokestatic index, 3)) (hf : cells + mc ≤ R.cells ∧ slots + ms ≤ R.slots) :
    vx_Run p l e R s m args below meth c H locs cells slots mc ms g rest (Qc As.toArray) XC free := by
  have hK : vx_Back l R p e below s args y 3 8 (PreOf R mc ms Pc) (PostOf Qc mc ms free) (vx_Post XC mc ms free) := vx_callBack cw.1 hM hp.1
  obtain ⟨⟨-, -, -, -, -, -, hcode, hini, hy, hlen, hl⟩, hstt⟩ := cw
  obtain ⟨hx, hb, hml, ho, -⟩ := S
  intro T hT X
  rcases vx_callS X hx (bytes := bytes) (maxL := maxL) (ret := ret) ho hl hstt hini hcode hy hK hg (hsize.trans hml.symm) (argsL := As) (rest := rest) (fun sig h => hn.trans (hlen sig h)) hstack hW (by rw [hb]; exact hdg)
    (fun vm₁ hW₁ => ⟨hf.1, hf.2, hp.2 (T.setVm vm₁) hT hW₁⟩) with ⟨v, vm₁, ⟨U', l2, c2, s2⟩, hW₁, X', ⟨g', mk, t, L, e1, e2, hq, h1, hL, h2, h3⟩, st⟩ | ⟨q, vm₁, ⟨U', l2, c2, s2⟩, hW₁, X', ⟨g', mk, t, L, E, ce, e1, e2, hq, hce, hcv, hcl, h1, hL, h2, h3⟩, st⟩
  · dsimp only [Pt.U, Pt.locs, Pt.cells, Pt.slots] at X' e1 e2 h1 h2 h3 st
    subst h1; subst h2; subst h3
    exact Or.inl ⟨v, (T.setVm vm₁).calling g' mk As.toArray, t, U', L, hT, X', hL, e1, e2, hq, st⟩
  · dsimp only [Pt.U, Pt.locs, Pt.cells, Pt.slots] at X' e1 e2 h1 h2 h3 st hcl
    subst h1; subst h2; subst h3
    exact Or.inr ⟨q, (T.setVm vm₁).calling g' mk As.toArray, t, U', L, E, ce, hT, X', hL, e1, e2, hq, hce, hcv, vx_cls hW₁ hcl, st⟩
end Runs
section Rows
variable {p : Program} {l : Launch} {e : Env} {R : Room} {s : State} {m : MethodId} {args : Array Value} {below : List Frame} {meth : Method} {c : Code} {H : Heap} {locs : List Loc} {cells slots : Nat} {Q : State → Prop}
variable {mc ms : Nat} {free : Addr → Prop} {A0 A1 : Nat → Prop} {H0 : Heap} {a : Array Value} {pc : Nat} {ls : Array Slot} {st0 rest : List Value}
theorem vx_keep {st₀ t T' : State} {L : List Loc} (h0 : st₀.heap = H) (e1 : T'.heap = t.heap) (hS : va_S A0 H0 H locs) (hA : ∀ q, q < H.size → A1 q → A0 q) (hf : ∀ q, free q → A0 q) (hL : ∀ q ∈ L, free q.base) (hF : va_F A1 st₀ t) :
    H.size ≤ T'.heap.size ∧ (∀ q : Nat, q < H.size → ¬ A1 q → T'.heap[q]? = H[q]?) ∧ va_S A0 H0 T'.heap (locs ++ L) := by
  obtain ⟨hz, hk⟩ := hF
  rw [h0] at hz hk
  exact ⟨by rw [e1]; exact hz, fun q h1 h2 => by rw [e1]; exact hk q h1 h2,
    ⟨Nat.le_trans hS.1 (by rw [e1]; exact hz), fun q h1 h2 => by rw [e1, hk q (Nat.lt_of_lt_of_le h1 hS.1) (fun z => h2 (hA q (Nat.lt_of_lt_of_le h1 hS.1) z))]; exact hS.2.1 q h1 h2, fun q hq => by
      rcases List.mem_append.mp hq with h | h
      · exact hS.2.2 q h
      · exact hf _ (hL q h)⟩⟩
theorem vx_calli {S SX : Type} {post : Int32 → S → Prop} {px : SX → Prop} {B : S → State → Prop} {BX : String → SX → State → Prop} {AX : Nat → Prop} (hr : vx_Run p l e R s m args below meth c H locs cells slots mc ms (F0 m pc ls st0) rest (va_Qi post B A1 a) (vx_X px BX AX) free) (hS : va_S A0 H0 H locs) (hA : ∀ q, q < H.size → A1 q → A0 q) (hf : ∀ q, free q → A0 q) (hAX : ∀ q, q < H.size → AX q → A0 q)
    (kx : ∀ (E : String) (ce : Cell) (q9 : Addr) (u : SX) (t : State) (H1 : Heap) (locs1 : List Loc), t.heap = H1 → s.vm.Alike t.vm → px u → BX E u t → H.size ≤ H1.size → (∀ q : Nat, q < H.size → ¬ AX q → H1[q]? = H[q]?) → va_S A0 H0 H1 locs1 → H1[q9]? = some ce → ce.vm = .none → s.vm.findClass E = some ce.cls → vx_W p l e R s m args below meth c H1 locs1 (cells + mc) (slots + ms) Q (F0 m pc ls rest) q9)
    (kk : ∀ (r : Int32) (u : S) (t : State) (H1 : Heap) (locs1 : List Loc), t.heap = H1 → s.vm.Alike t.vm → post r u → B u t → H.size ≤ H1.size → (∀ q : Nat, q < H.size → ¬ A1 q → H1[q]? = H[q]?) → va_S A0 H0 H1 locs1 → W p l e R s m args below meth c H1 locs1 (cells + mc) (slots + ms) Q (F0 m (pc + 3) ls (.int r :: rest))) : W p l e R s m args below meth c H locs cells slots Q (F0 m pc ls st0) := by
  intro T hT X
  rcases hr T hT X with ⟨v, st₀, t, T', L, h0, X', hL, e1, e2, ⟨⟨r, u, hv, hp, hb⟩, hF⟩, st⟩ | ⟨q, st₀, t, T', L, E, ce, h0, X', hL, e1, e2, ⟨u, hp, hb, hF⟩, hce, hcv, hcl, st⟩
  · cases hv
    obtain ⟨k1, k2, k3⟩ := vx_keep h0 e1 hS hA hf hL hF
    obtain ⟨t2, a1, b1⟩ := kk r u t T'.heap (locs ++ L) e1.symm (by rw [← e2]; exact X'.warmed.alike) hp hb k1 k2 k3 T' rfl X'
    exact ⟨t2, st t2 a1, b1⟩
  · obtain ⟨k1, k2, k3⟩ := vx_keep h0 e1 hS hAX hf hL hF
    obtain ⟨t2, a1, b1⟩ := kx E ce q u t T'.heap (locs ++ L) e1.symm (by rw [← e2]; exact X'.warmed.alike) hp hb k1 k2 k3 (by rw [e1]; exact hce) hcv hcl T' rfl X'
    exact ⟨t2, st.trans a1, b1⟩
theorem vx_calll {S SX : Type} {post : Int64 → S → Prop} {px : SX → Prop} {B : S → State → Prop} {BX : String → SX → State → Prop} {AX : Nat → Prop} (hr : vx_Run p l e R s m args below meth c H locs cells slots mc ms (F0 m pc ls st0) rest (va_Ql post B A1 a) (vx_X px BX AX) free) (hS : va_S A0 H0 H locs) (hA : ∀ q, q < H.size → A1 q → A0 q) (hf : ∀ q, free q → A0 q) (hAX : ∀ q, q < H.size → AX q → A0 q)
    (kx : ∀ (E : String) (ce : Cell) (q9 : Addr) (u : SX) (t : State) (H1 : Heap) (locs1 : List Loc), t.heap = H1 → s.vm.Alike t.vm → px u → BX E u t → H.size ≤ H1.size → (∀ q : Nat, q < H.size → ¬ AX q → H1[q]? = H[q]?) → va_S A0 H0 H1 locs1 → H1[q9]? = some ce → ce.vm = .none → s.vm.findClass E = some ce.cls → vx_W p l e R s m args below meth c H1 locs1 (cells + mc) (slots + ms) Q (F0 m pc ls rest) q9)
    (kk : ∀ (r : Int64) (u : S) (t : State) (H1 : Heap) (locs1 : List Loc), t.heap = H1 → s.vm.Alike t.vm → post r u → B u t → H.size ≤ H1.size → (∀ q : Nat, q < H.size → ¬ A1 q → H1[q]? = H[q]?) → va_S A0 H0 H1 locs1 → W p l e R s m args below meth c H1 locs1 (cells + mc) (slots + ms) Q (F0 m (pc + 3) ls (.long r :: rest))) : W p l e R s m args below meth c H locs cells slots Q (F0 m pc ls st0) := by
  intro T hT X
  rcases hr T hT X with ⟨v, st₀, t, T', L, h0, X', hL, e1, e2, ⟨⟨r, u, hv, hp, hb⟩, hF⟩, st⟩ | ⟨q, st₀, t, T', L, E, ce, h0, X', hL, e1, e2, ⟨u, hp, hb, hF⟩, hce, hcv, hcl, st⟩
  · cases hv
    obtain ⟨k1, k2, k3⟩ := vx_keep h0 e1 hS hA hf hL hF
    obtain ⟨t2, a1, b1⟩ := kk r u t T'.heap (locs ++ L) e1.symm (by rw [← e2]; exact X'.warmed.alike) hp hb k1 k2 k3 T' rfl X'
    exact ⟨t2, st t2 a1, b1⟩
  · obtain ⟨k1, k2, k3⟩ := vx_keep h0 e1 hS hAX hf hL hF
    obtain ⟨t2, a1, b1⟩ := kx E ce q u t T'.heap (locs ++ L) e1.symm (by rw [← e2]; exact X'.warmed.alike) hp hb k1 k2 k3 (by rw [e1]; exact hce) hcv hcl T' rfl X'
    exact ⟨t2, st.trans a1, b1⟩
theorem vx_callf {S SX : Type} {post : UInt32 → S → Prop} {px : SX → Prop} {B : S → State → Prop} {BX : String → SX → State → Prop} {AX : Nat → Prop} (hr : vx_Run p l e R s m args below meth c H locs cells slots mc ms (F0 m pc ls st0) rest (va_Qf post B A1 a) (vx_X px BX AX) free) (hS : va_S A0 H0 H locs) (hA : ∀ q, q < H.size → A1 q → A0 q) (hf : ∀ q, free q → A0 q) (hAX : ∀ q, q < H.size → AX q → A0 q)
    (kx : ∀ (E : String) (ce : Cell) (q9 : Addr) (u : SX) (t : State) (H1 : Heap) (locs1 : List Loc), t.heap = H1 → s.vm.Alike t.vm → px u → BX E u t → H.size ≤ H1.size → (∀ q : Nat, q < H.size → ¬ AX q → H1[q]? = H[q]?) → va_S A0 H0 H1 locs1 → H1[q9]? = some ce → ce.vm = .none → s.vm.findClass E = some ce.cls → vx_W p l e R s m args below meth c H1 locs1 (cells + mc) (slots + ms) Q (F0 m pc ls rest) q9)
    (kk : ∀ (r : UInt32) (u : S) (t : State) (H1 : Heap) (locs1 : List Loc), t.heap = H1 → s.vm.Alike t.vm → post r u → B u t → H.size ≤ H1.size → (∀ q : Nat, q < H.size → ¬ A1 q → H1[q]? = H[q]?) → va_S A0 H0 H1 locs1 → W p l e R s m args below meth c H1 locs1 (cells + mc) (slots + ms) Q (F0 m (pc + 3) ls (.float r :: rest))) : W p l e R s m args below meth c H locs cells slots Q (F0 m pc ls st0) := by
  intro T hT X
  rcases hr T hT X with ⟨v, st₀, t, T', L, h0, X', hL, e1, e2, ⟨⟨r, u, hv, hp, hb⟩, hF⟩, st⟩ | ⟨q, st₀, t, T', L, E, ce, h0, X', hL, e1, e2, ⟨u, hp, hb, hF⟩, hce, hcv, hcl, st⟩
  · cases hv
    obtain ⟨k1, k2, k3⟩ := vx_keep h0 e1 hS hA hf hL hF
    obtain ⟨t2, a1, b1⟩ := kk r u t T'.heap (locs ++ L) e1.symm (by rw [← e2]; exact X'.warmed.alike) hp hb k1 k2 k3 T' rfl X'
    exact ⟨t2, st t2 a1, b1⟩
  · obtain ⟨k1, k2, k3⟩ := vx_keep h0 e1 hS hAX hf hL hF
    obtain ⟨t2, a1, b1⟩ := kx E ce q u t T'.heap (locs ++ L) e1.symm (by rw [← e2]; exact X'.warmed.alike) hp hb k1 k2 k3 (by rw [e1]; exact hce) hcv hcl T' rfl X'
    exact ⟨t2, st.trans a1, b1⟩
theorem vx_calld {S SX : Type} {post : UInt64 → S → Prop} {px : SX → Prop} {B : S → State → Prop} {BX : String → SX → State → Prop} {AX : Nat → Prop} (hr : vx_Run p l e R s m args below meth c H locs cells slots mc ms (F0 m pc ls st0) rest (va_Qd post B A1 a) (vx_X px BX AX) free) (hS : va_S A0 H0 H locs) (hA : ∀ q, q < H.size → A1 q → A0 q) (hf : ∀ q, free q → A0 q) (hAX : ∀ q, q < H.size → AX q → A0 q)
    (kx : ∀ (E : String) (ce : Cell) (q9 : Addr) (u : SX) (t : State) (H1 : Heap) (locs1 : List Loc), t.heap = H1 → s.vm.Alike t.vm → px u → BX E u t → H.size ≤ H1.size → (∀ q : Nat, q < H.size → ¬ AX q → H1[q]? = H[q]?) → va_S A0 H0 H1 locs1 → H1[q9]? = some ce → ce.vm = .none → s.vm.findClass E = some ce.cls → vx_W p l e R s m args below meth c H1 locs1 (cells + mc) (slots + ms) Q (F0 m pc ls rest) q9)
    (kk : ∀ (r : UInt64) (u : S) (t : State) (H1 : Heap) (locs1 : List Loc), t.heap = H1 → s.vm.Alike t.vm → post r u → B u t → H.size ≤ H1.size → (∀ q : Nat, q < H.size → ¬ A1 q → H1[q]? = H[q]?) → va_S A0 H0 H1 locs1 → W p l e R s m args below meth c H1 locs1 (cells + mc) (slots + ms) Q (F0 m (pc + 3) ls (.double r :: rest))) : W p l e R s m args below meth c H locs cells slots Q (F0 m pc ls st0) := by
  intro T hT X
  rcases hr T hT X with ⟨v, st₀, t, T', L, h0, X', hL, e1, e2, ⟨⟨r, u, hv, hp, hb⟩, hF⟩, st⟩ | ⟨q, st₀, t, T', L, E, ce, h0, X', hL, e1, e2, ⟨u, hp, hb, hF⟩, hce, hcv, hcl, st⟩
  · cases hv
    obtain ⟨k1, k2, k3⟩ := vx_keep h0 e1 hS hA hf hL hF
    obtain ⟨t2, a1, b1⟩ := kk r u t T'.heap (locs ++ L) e1.symm (by rw [← e2]; exact X'.warmed.alike) hp hb k1 k2 k3 T' rfl X'
    exact ⟨t2, st t2 a1, b1⟩
  · obtain ⟨k1, k2, k3⟩ := vx_keep h0 e1 hS hAX hf hL hF
    obtain ⟨t2, a1, b1⟩ := kx E ce q u t T'.heap (locs ++ L) e1.symm (by rw [← e2]; exact X'.warmed.alike) hp hb k1 k2 k3 (by rw [e1]; exact hce) hcv hcl T' rfl X'
    exact ⟨t2, st.trans a1, b1⟩
theorem vx_callv {S SX : Type} {post : S → Prop} {px : SX → Prop} {B : S → State → Prop} {BX : String → SX → State → Prop} {AX : Nat → Prop} (hr : vx_Run p l e R s m args below meth c H locs cells slots mc ms (F0 m pc ls st0) rest (va_Qv post B A1 a) (vx_X px BX AX) free) (hS : va_S A0 H0 H locs) (hA : ∀ q, q < H.size → A1 q → A0 q) (hf : ∀ q, free q → A0 q) (hAX : ∀ q, q < H.size → AX q → A0 q)
    (kx : ∀ (E : String) (ce : Cell) (q9 : Addr) (u : SX) (t : State) (H1 : Heap) (locs1 : List Loc), t.heap = H1 → s.vm.Alike t.vm → px u → BX E u t → H.size ≤ H1.size → (∀ q : Nat, q < H.size → ¬ AX q → H1[q]? = H[q]?) → va_S A0 H0 H1 locs1 → H1[q9]? = some ce → ce.vm = .none → s.vm.findClass E = some ce.cls → vx_W p l e R s m args below meth c H1 locs1 (cells + mc) (slots + ms) Q (F0 m pc ls rest) q9)
    (kk : ∀ (u : S) (t : State) (H1 : Heap) (locs1 : List Loc), t.heap = H1 → s.vm.Alike t.vm → post u → B u t → H.size ≤ H1.size → (∀ q : Nat, q < H.size → ¬ A1 q → H1[q]? = H[q]?) → va_S A0 H0 H1 locs1 → W p l e R s m args below meth c H1 locs1 (cells + mc) (slots + ms) Q (F0 m (pc + 3) ls (rest))) : W p l e R s m args below meth c H locs cells slots Q (F0 m pc ls st0) := by
  intro T hT X
  rcases hr T hT X with ⟨v, st₀, t, T', L, h0, X', hL, e1, e2, ⟨⟨u, hv, hp, hb⟩, hF⟩, st⟩ | ⟨q, st₀, t, T', L, E, ce, h0, X', hL, e1, e2, ⟨u, hp, hb, hF⟩, hce, hcv, hcl, st⟩
  · cases hv
    obtain ⟨k1, k2, k3⟩ := vx_keep h0 e1 hS hA hf hL hF
    obtain ⟨t2, a1, b1⟩ := kk u t T'.heap (locs ++ L) e1.symm (by rw [← e2]; exact X'.warmed.alike) hp hb k1 k2 k3 T' rfl X'
    exact ⟨t2, st t2 a1, b1⟩
  · obtain ⟨k1, k2, k3⟩ := vx_keep h0 e1 hS hAX hf hL hF
    obtain ⟨t2, a1, b1⟩ := kx E ce q u t T'.heap (locs ++ L) e1.symm (by rw [← e2]; exact X'.warmed.alike) hp hb k1 k2 k3 (by rw [e1]; exact hce) hcv hcl T' rfl X'
    exact ⟨t2, st.trans a1, b1⟩
/-- caught by the row x of this method's table; the rows ahead don't take it -/
theorem vx_catch {own name : String} {E : String} {ce : Cell} {q : Addr} (hown : s.vm.findClass own = some m.cls) (pre : List ExceptionTableEntry) (x : ExceptionTableEntry) (suf : List ExceptionTableEntry) (hsplit : c.exceptionTable.toList = pre ++ x :: suf)
    (hpass : ∀ z ∈ pre, covers z pc = false ∨ (z.catchType ≠ 0 ∧ ∃ nm : String, (Cond.classLink own z.catchType nm).before args s = true ∧ va_Nc E nm s)) (hx : covers x pc = true) (h0 : x.catchType ≠ 0)
    (hlink : (Cond.classLink own x.catchType name).before args s = true) (hcast : (Cond.castable E name).before args s = true) (hcell : H[q]? = some ce) (hv : ce.vm = .none) (hcl : s.vm.findClass E = some ce.cls)
    (kk : W p l e R s m args below meth c H locs cells slots Q (F0 m x.handlerPc ls [.ref q])) : vx_W p l e R s m args below meth c H locs cells slots Q (F0 m pc ls rest) q := by
  intro T hT X
  have hpl : e.platform.magicAccessors = ({} : Platform).magicAccessors := by rw [X.admits.platform]
  obtain ⟨c3, c4, hc3, hc4, hasg⟩ := Cond.castable_spec hcast
  cases Option.some.inj (hc3.symm.trans hcl)
  obtain ⟨c5, hc5, hcl5⟩ := Cond.classLink_spec hown hlink e.platform hpl
  cases Option.some.inj (hc4.symm.trans hc5)
  obtain ⟨vm', X', st⟩ := X.thenCaughtThrough q (g := F0 m pc ls rest) rfl (Steps.refl _) (by rw [hT]; exact hcell) (by rw [hv]; rfl) (by obtain ⟨k9, h9, -⟩ := Vm.findClass_spec hcl; exact ⟨k9, h9⟩) pre x suf hsplit
    (fun z hz => by
      rcases hpass z hz with h | ⟨hz0, nm, hl1, hn1⟩
      · exact Or.inl h
      · obtain ⟨c6, hc6, hcl6⟩ := Cond.classLink_spec hown hl1 e.platform hpl
        obtain ⟨a8, b8, h1, h2, h3⟩ := hn1
        cases Option.some.inj (h1.symm.trans hcl)
        cases Option.some.inj (h2.symm.trans hc6)
        exact Or.inr ⟨hz0, _, hcl6, h3⟩) hx (Or.inr ⟨h0, c4, hcl5, hasg⟩)
  obtain ⟨t, a1, b1⟩ := kk (T.setVm vm') hT X'
  exact ⟨t, st.trans a1, b1⟩
end Rows
section Ends
variable {p : Program} {l : Launch} {e : Env} {R : Room} {s : State} {m : MethodId} {args : Array Value} {below : List Frame} {meth : Method} {c : Code} {H : Heap} {locs : List Loc} {cells slots : Nat} {Q : State → Prop}
variable {mc ms : Nat} {free : Addr → Prop} {A0 A1 : Nat → Prop} {H0 : Heap} {a : Array Value} {ls : Array Slot} {st0 rest : List Value}
variable {Qc : Array Value → State → Outcome → State → Prop} {XC : String → State → State → Prop}
/-- what a body that may throw owes at its end -/
def vx_MQ (below : List Frame) (Qc : Array Value → State → Outcome → State → Prop) (XC : String → State → State → Prop) (a : Array Value) (s : State) (mc ms : Nat) (free : Addr → Prop) : State → Prop := fun t =>
  ∃ o, t.status = .running ∧ Ended t below o ∧ vx_Q Qc XC mc ms free a s o t
theorem vx_ret {g : JFrame} {mc ms : Nat} (k : W p l e R s m args below meth c H locs cells slots (MQ below Qc args s mc ms free) g) : W p l e R s m args below meth c H locs cells slots (vx_MQ below Qc XC args s mc ms free) g := by
  intro T hT X
  obtain ⟨t, a1, o, b1, b2, b3, b4⟩ := k T hT X
  exact ⟨t, a1, o, b1, b2, Or.inl ⟨b3, b4⟩⟩
/-- not caught here: it goes on to the caller -/
theorem vx_widen {g : JFrame} {q : Addr} {k n : Nat} (h1 : cells ≤ k) (h2 : slots ≤ n) (kk : vx_W p l e R s m args below meth c H locs k n Q g q) : vx_W p l e R s m args below meth c H locs cells slots Q g q := fun T hT X => kk T hT (stand_widen X h1 h2)
theorem vx_out {pc : Nat} {E : String} {ce : Cell} {q : Addr} {mc ms : Nat} (hout : ∀ x ∈ c.exceptionTable.toList, covers x pc = false) (hlocks : meth.locks = false) (hcell : H[q]? = some ce) (hv : ce.vm = .none) (hcl : s.vm.findClass E = some ce.cls)
    (hx : ∀ t : State, t.heap = H → s.vm.Alike t.vm → XC E s t) (hf : ∀ z ∈ locs, free z.base) (hc : cells ≤ mc) (hs : slots ≤ ms) :
    vx_W p l e R s m args below meth c H locs cells slots (vx_MQ below Qc XC args s mc ms free) (F0 m pc ls rest) q := by
  intro T hT X
  obtain ⟨st1, hrun, hend, hW, hsm⟩ := X.leaveThrown q (g := F0 m pc ls rest) rfl rfl rfl hout hlocks
  have hcell9 : (T.setFrames (.throwing q :: below)).heap[q]? = some ce := by
    show T.heap[q]? = some ce
    rw [hT]; exact hcell
  exact ⟨_, st1, .threw q, hrun, hend, Or.inr ⟨q, rfl, E, ce, locs, hx _ hT hW.alike, hcell9, hv, hcl, hW, hsm.mono hc hs, hf⟩⟩
theorem vx_frame {U : State} {k n : Nat} (h : s.sameButNew ({ U with vm := s.vm } : State) locs k n) : s.heap.size ≤ U.heap.size ∧ ∀ q : Nat, q < s.heap.size → (∀ z ∈ locs, z.base ≠ q) → U.heap[q]? = s.heap[q]? := by
  obtain ⟨-, h2, -, -, -, h6⟩ := h
  refine ⟨h2, fun q hq hz => ?_⟩
  obtain ⟨c9, e1, e2, e3, e4⟩ := h6 q _ (Array.getElem?_eq_getElem hq)
  have hs : c9.slots = (s.heap[q]).slots := Array.ext_getElem? fun i => e4 i fun hm => hz _ hm rfl
  have h9 : c9 = s.heap[q] := by
    rw [hs] at e2
    exact e2
  have e5 : U.heap[q]? = some c9 := e1
  rw [e5, h9, Array.getElem?_eq_getElem hq]
/-- the words of a throw but the four that speak of the heap -/
def vx_no (w : Cond) : Bool := decide (w ≠ .isRef (.static Bundle.tN "UNASSIGNED_STACK" Bundle.steD)) && decide (w ≠ .isRef (.static Bundle.tN "SUPPRESSED_SENTINEL" Bundle.listD)) && decide (w ≠ .laysStatic Bundle.tN "UNASSIGNED_STACK" Bundle.steD) && decide (w ≠ .laysStatic Bundle.tN "SUPPRESSED_SENTINEL" Bundle.listD)
def vx_at0 (own : String) (ic : Nat) (X : String) (names : List String) : List Cond := (Bundle.ownAtoms0 own ic X names).filter vx_no
def vx_atS (own : String) (ic : Nat) (X : String) (names : List String) : List Cond := (Bundle.ownAtoms own ic X names).filter vx_no
/-- a word that the tables alone decide, or a good one -/
def vx_ot (w : Cond) : Bool := w.onTables || goodWord w
theorem vx_ot_at {args a' : Array Value} {s U : State} {w : Cond} (hW : s.WarmedH U.vm) (hvm : s.vm = U.vm) (hg : vx_ot w = true) (h : w.before args s = true) : w.before a' U = true := by
  simp only [vx_ot, Bool.or_eq_true] at hg
  rcases hg with hg | hg
  · exact va_tabs hg hvm h
  · exact word_at hW (good_of_word hg) h
/-- a list's words: the good ones out of the method's own list, the others by premises of their own -/
theorem vx_hat {args : Array Value} {s : State} {L B : List Cond} (h1 : ∀ w ∈ L.filter goodWord, w.before args s = true) (h2 : ∀ w ∈ L.filter (fun w => !goodWord w), w ∈ B) (h3 : ∀ w ∈ B, w.before args s = true) : ∀ w ∈ L, w.before args s = true := by
  intro w hw
  by_cases g : goodWord w = true
  · exact h1 w (List.mem_filter.mpr ⟨hw, g⟩)
  · refine h3 w (h2 w (List.mem_filter.mpr ⟨hw, ?_⟩))
    show (!goodWord w) = true
    cases hgw : goodWord w
    · rfl
    · exact absurd hgw g
theorem vx_c {args : Array Value} {s : State} {w : Cond} {B : List Cond} (h : w.before args s = true) (t : ∀ w ∈ B, w.before args s = true) : ∀ w' ∈ w :: B, w'.before args s = true := fun w' h' => (List.mem_cons.mp h').elim (fun e => by rw [e]; exact h) (t w')
theorem vx_n {args : Array Value} {s : State} : ∀ w ∈ ([] : List Cond), w.before args s = true := fun _ h => nomatch h
theorem vx_own {args : Array Value} {s : State} {L : List Cond} (h1 : ∀ w ∈ L.filter vx_no, w.before args s = true)
    (hU : (Cond.isRef (.static Bundle.tN "UNASSIGNED_STACK" Bundle.steD)).before args s = true) (hN : (Cond.isRef (.static Bundle.tN "SUPPRESSED_SENTINEL" Bundle.listD)).before args s = true)
    (lU : (Cond.laysStatic Bundle.tN "UNASSIGNED_STACK" Bundle.steD).before args s = true) (lN : (Cond.laysStatic Bundle.tN "SUPPRESSED_SENTINEL" Bundle.listD).before args s = true) : ∀ w ∈ L, w.before args s = true := by
  intro w hw
  by_cases e1 : w = .isRef (.static Bundle.tN "UNASSIGNED_STACK" Bundle.steD)
  · rw [e1]; exact hU
  · by_cases e2 : w = .isRef (.static Bundle.tN "SUPPRESSED_SENTINEL" Bundle.listD)
    · rw [e2]; exact hN
    · by_cases e3 : w = .laysStatic Bundle.tN "UNASSIGNED_STACK" Bundle.steD
      · rw [e3]; exact lU
      · by_cases e4 : w = .laysStatic Bundle.tN "SUPPRESSED_SENTINEL" Bundle.listD
        · rw [e4]; exact lN
        · exact h1 w (List.mem_filter.mpr ⟨hw, by unfold vx_no; rw [decide_eq_true e1, decide_eq_true e2, decide_eq_true e3, decide_eq_true e4]; rfl⟩)
/-- where a static field lies, its class's statics cell in H -/
def vx_L (C n d : String) (A : Nat → Prop) (U : State) (H : Heap) : Prop := ∃ (c : ClassId) (k : Class) (i : Nat) (f : Field) (a : Nat) (cell : Cell), U.vm.findClass C = some c ∧ U.fieldFound? C n d = some (c, k, i, f) ∧ f.isStatic = true ∧ k.statics = some a ∧ H[a]? = some cell ∧ cell.vm.isStatics = true ∧ cell.cls = c ∧ f.slot < cell.slots.size ∧ k.staticTypes[f.slot]? = some f.type ∧ ¬ A a
theorem vx_L.moved {C n d : String} {A : Nat → Prop} {u U : State} {H : Heap} (hvm : u.vm.Alike U.vm) (h : vx_L C n d A u H) : vx_L C n d A U H := by
  obtain ⟨c, k, i, f, a, cell, h1, h2, h3, h4, h5, h6, h7, h8, h9, h10⟩ := h
  obtain ⟨k', hi', he⟩ := State.fieldFound?_setVm hvm h2
  exact ⟨c, k', i, f, a, cell, by rw [hvm.findClass]; exact h1, hi', h3, by rw [he]; exact h4, h5, h6, h7, h8, by rw [he]; exact h9, h10⟩
theorem vx_L.kept {C n d : String} {A : Nat → Prop} {U : State} {H H1 : Heap} (h : vx_L C n d A U H) (hq : ∀ a : Nat, a < H.size → ¬ A a → H1[a]? = H[a]?) : vx_L C n d A U H1 := by
  obtain ⟨c, k, i, f, a, cell, h1, h2, h3, h4, h5, h6, h7, h8, h9, h10⟩ := h
  exact ⟨c, k, i, f, a, cell, h1, h2, h3, h4, by rw [hq a (Array.getElem?_eq_some_iff.mp h5).1 h10]; exact h5, h6, h7, h8, h9, h10⟩
theorem vx_L.narrow {C n d : String} {A B : Nat → Prop} {U : State} {H : Heap} (h : vx_L C n d A U H) (hAB : ∀ q, B q → A q) : vx_L C n d B U H := by
  obtain ⟨c, k, i, f, a, cell, h1, h2, h3, h4, h5, h6, h7, h8, h9, h10⟩ := h
  exact ⟨c, k, i, f, a, cell, h1, h2, h3, h4, h5, h6, h7, h8, h9, fun z => h10 (hAB _ z)⟩
theorem vx_L.word {C n d : String} {A : Nat → Prop} {s : State} {args : Array Value} (h : vx_L C n d A s s.heap) : (Cond.laysStatic C n d).before args s = true := by
  obtain ⟨c, k, i, f, a, cell, h1, h2, h3, h4, h5, h6, h7, h8, h9, -⟩ := h
  show (Cond.laysStatic C n d).holds args s none s [] = true
  exact Cond.laysStatic_of h1 h2 h3 h4 h5 h6 h7 h8 h9
/-- .. and what it holds: null or some reference -/
def vx_Zq (C n d : String) (A : Nat → Prop) (U : State) (H : Heap) : Prop := va_Zq C n d A U H ∧ vx_L C n d A U H
theorem vx_Zq.moved {C n d : String} {A : Nat → Prop} {u U : State} {H : Heap} (hvm : u.vm.Alike U.vm) (h : vx_Zq C n d A u H) : vx_Zq C n d A U H := ⟨va_Zq.moved hvm h.1, vx_L.moved hvm h.2⟩
theorem vx_Zq.kept {C n d : String} {A : Nat → Prop} {U : State} {H H1 : Heap} (h : vx_Zq C n d A U H) (hq : ∀ a : Nat, a < H.size → ¬ A a → H1[a]? = H[a]?) : vx_Zq C n d A U H1 := ⟨va_Zq.kept h.1 hq, vx_L.kept h.2 hq⟩
theorem vx_Zq.narrow {C n d : String} {A B : Nat → Prop} {U : State} {H : Heap} (h : vx_Zq C n d A U H) (hAB : ∀ q, B q → A q) : vx_Zq C n d B U H := ⟨va_Zq.narrow h.1 hAB, vx_L.narrow h.2 hAB⟩
theorem vx_Zqof {args : Array Value} {s : State} {C n d : String} {A : Nat → Prop} (hl : (Cond.laysStatic C n d).before args s = true) (hini : (Cond.initialized C).before args s = true) (h : (Cond.isRef (.static C n d)).before args s = true) (hA : ∀ a : Nat, a < s.heap.size → ¬ A a) : vx_Zq C n d A s s.heap := by
  refine ⟨va_Zqof hl hini h hA, ?_⟩
  obtain ⟨c, k, i, f, a, cell, h1, h2, h3, h4, h5, h6, h7, h8, h9⟩ := Cond.laysStatic_spec hl
  exact ⟨c, k, i, f, a, cell, h1, h2, h3, h4, h5, h6, h7, h8, h9, hA a (Array.getElem?_eq_some_iff.mp h5).1⟩
theorem vx_isRef {C n d : String} {v : Value} {A : Nat → Prop} {s : State} {args : Array Value} (h : va_Z C n d v A s s.heap) (hv : v.isRef = true) : (Cond.isRef (.static C n d)).before args s = true := by
  obtain ⟨cf, kf, fi, f, a, cell, h1, h2, h3, h4, h5, h6, h7, -⟩ := h
  have he : (Term.static C n d).eval args s none [] s = some v := by
    simp [Term.eval, State.fieldNamed?, h1, h2, h4, h5, h6, h7]
  simp only [Cond.before, Cond.holds, Cond.value, he]
  cases v <;> simp_all [Value.isRef]
theorem vx_isRefq {C n d : String} {A : Nat → Prop} {s : State} {args : Array Value} (h : va_Zq C n d A s s.heap) : (Cond.isRef (.static C n d)).before args s = true := by
  rcases h with h | ⟨t, h⟩
  · exact vx_isRef h rfl
  · exact vx_isRef h rfl
/-- the same frame, seen from here: as if the method were called anew in this heap -/
theorem vx_rebase {T : State} (X : Stand p l e R s m args below meth c T locs cells slots) {R' : Room} (hf : R'.frames ≤ R.frames) (hl : R'.locals ≤ R.locals) (hc : cells + R'.cells ≤ R.cells) (hs : slots + R'.slots ≤ R.slots) :
    Stand p l e R' ((T.setVm s.vm).setFrames (.invoking m args :: below)) m args below meth c T [] 0 0 := by
  have htop : (T.setVm s.vm).topJava?.isSome := X.here.top
  have hF : ((T.setVm s.vm).setFrames (.invoking m args :: below)).frames = .invoking m args :: below := State.frames_setFrames _ (State.cur_lt_of_top htop)
  obtain ⟨g₀, hg0⟩ := Option.isSome_iff_exists.mp htop
  obtain ⟨r, hr⟩ := State.topJava?_eq_some.mp hg0
  have hl9 : e.platform.stackLimits (T.setVm s.vm).me = e.platform.stackLimits s.me := X.limits
  have hb9 : (T.setVm s.vm).me.stackBytes = s.me.stackBytes := X.bytes
  refine ⟨X.admits, X.cas, X.clock, hF, ?_, X.hears, X.method, X.code, X.here, X.tail, X.warmed, ?_, ?_, ?_⟩
  · have h := X.room
    have hU : ((T.setVm s.vm).setFrames (.invoking m args :: below)).localsInUse = s.localsInUse := by
      rw [State.localsInUse_invoking hF (meth := meth) (c := c) X.method X.code, State.localsInUse_invoking X.frames X.method X.code]
    simp only [State.hasRoom, Bool.and_eq_true, decide_eq_true_eq] at h ⊢
    obtain ⟨⟨⟨⟨h1, h2, h3, h4, h5, h6⟩, h7⟩, h8⟩, h9⟩ := h
    rw [X.frames, List.length_cons] at h2 h3
    have q1 := X.heapSize
    have q2 := X.used
    simp only [hF, hU, List.length_cons, State.stackLimits_setFrames, State.stackBytes_setFrames, hl9, hb9]
    refine ⟨⟨⟨⟨by omega, by omega, by omega, by omega, by omega, h6⟩, ?_⟩, ?_⟩, X.book⟩
    · show T.heap.size + R'.cells ≤ e.platform.maxCells
      omega
    · show T.slotsUsed + R'.slots ≤ e.platform.maxSlots
      omega
  · rw [State.stackLimits_setFrames]; rfl
  · rw [State.stackBytes_setFrames]; rfl
  · refine ⟨?_, Nat.le_refl _, Nat.le_refl _, ?_, ?_, fun a c9 h9 => ⟨c9, h9, rfl, rfl, fun _ _ => rfl⟩⟩
    · obtain ⟨t, ht, -⟩ := State.frames_cons hr
      show T.setVm s.vm = { ((T.setVm s.vm).setFrames (.invoking m args :: below)).setFrames (T.setVm s.vm).frames with heap := T.heap, slotsUsed := T.slotsUsed }
      rw [State.setFrames_setFrames, State.setFrames_self ht]
      rfl
    · show T.slotsUsed = T.slotsUsed + ((T.heap.toList.drop T.heap.size).map (·.slots.size)).sum
      rw [List.drop_eq_nil_of_le (Nat.le_of_eq Array.length_toList)]
      rfl
    · show ((T.heap.toList.drop T.heap.size).map (·.slots.size)).sum ≤ 0
      rw [List.drop_eq_nil_of_le (Nat.le_of_eq Array.length_toList)]
      exact Nat.le_refl _
/-- 'throw new E()': new; dup; invokespecial; athrow -/
theorem vx_throw0 {cc : ByteArray} {pc : Nat} (hexec : p.tables.exec = Jvm.exec) (hb : c.code = cc) (hl : l.stackTraces = false) {own cls : String} {names : List String} {ik ic mc ms : Nat} {A : Nat → Prop}
    (hown : s.vm.findClass own = some m.cls) (hcls : Bundle.fit cls = true) (hnames : ∀ n ∈ names, Bundle.fit n = true)
    (hk : (Cond.classLink own ik cls).before args s = true) (hini : (Cond.initialized cls).before args s = true) (hat : ∀ w ∈ vx_at0 own ic cls names, w.before args s = true)
    (hgood : ∀ w ∈ Cond.classLink own ik cls :: Cond.initialized cls :: vx_at0 own ic cls names, vx_ot w = true)
    (hU : vx_Zq Bundle.tN "UNASSIGNED_STACK" Bundle.steD A s s.heap) (hN : vx_Zq Bundle.tN "SUPPRESSED_SENTINEL" Bundle.listD A s s.heap) (hS : va_S A s.heap H locs) (hsize : ls.size = c.maxLocals)
    (d0 : decode cc pc = .ok (.new ik, 3)) (d3 : decode cc (pc + 3) = .ok (.dup, 1)) (d4 : decode cc (pc + 4) = .ok (.invokespecial ic, 3)) (d7 : decode cc (pc + 7) = .ok (.athrow, 1))
    (hout : ∀ x ∈ c.exceptionTable.toList, covers x (pc + 7) = false)
    (hRframes : names.length + 3 < R.frames) (hRlocals : (rest.map fun v => v.category).sum + (13 * (names.length + 1) + 42) ≤ R.locals) (hRcells : cells + 1 ≤ R.cells) (hRslots : slots + 6 ≤ R.slots) (hlocks : meth.locks = false)
    (hx : ∀ t : State, s.vm.Alike t.vm → H.size ≤ t.heap.size → (∀ q : Nat, q < H.size → t.heap[q]? = H[q]?) → XC cls s t)
    (hf : ∀ z ∈ locs, free z.base) (hc : cells + 1 ≤ mc) (hs : slots + 6 ≤ ms) :
    W p l e R s m args below meth c H locs cells slots (vx_MQ below Qc XC args s mc ms free) (F0 m pc ls rest) := by
  intro T hT X
  have htr : e.platform.stackTraces = false := (show e.platform.stackTraces = l.stackTraces by rw [X.admits.platform]).trans hl
  have Y := vx_rebase X (R' := { frames := R.frames, locals := R.locals, cells := 1, slots := 6 }) (Nat.le_refl _) (Nat.le_refl _) hRcells hRslots
  obtain ⟨s', hA⟩ : ∃ z, z = (T.setVm s.vm).setFrames (.invoking m args :: below) := ⟨_, rfl⟩
  rw [← hA] at Y
  have hvm : s'.vm = s.vm := by rw [hA]; rfl
  have hhp : s'.heap = H := by rw [hA]; exact hT
  have hW0 : s.WarmedH s'.vm := by rw [hvm]; exact State.WarmedH.refl s
  have hat' : ∀ w ∈ vx_at0 own ic cls names, w.before args s' = true := fun w hw => vx_ot_at hW0 hvm.symm (hgood w (List.mem_cons_of_mem _ (List.mem_cons_of_mem _ hw))) (hat w hw)
  have hk' : (Cond.classLink own ik cls).before args s' = true := vx_ot_at hW0 hvm.symm (hgood _ List.mem_cons_self) hk
  have hini' : (Cond.initialized cls).before args s' = true := vx_ot_at hW0 hvm.symm (hgood _ (List.mem_cons_of_mem _ List.mem_cons_self)) hini
  have hU' : vx_Zq Bundle.tN "UNASSIGNED_STACK" Bundle.steD A s' s'.heap := by rw [hhp]; exact vx_Zq.moved hW0.alike (hU.kept hS.2.1)
  have hN' : vx_Zq Bundle.tN "SUPPRESSED_SENTINEL" Bundle.listD A s' s'.heap := by rw [hhp]; exact vx_Zq.moved hW0.alike (hN.kept hS.2.1)
  have h : ∀ w ∈ Bundle.ownAtoms0 own ic cls names, w.before args s' = true := vx_own hat' (vx_isRefq hU'.1) (vx_isRefq hN'.1) hU'.2.word hN'.2.word
  have hown' : s'.vm.findClass own = some m.cls := by rw [hvm]; exact hown
  have hins : (Cond.instantiable cls 6).before args s' = true := h _ (by simp [Bundle.ownAtoms0])
  obtain ⟨vm₁, cX, kX, hfX, hkX, -, -, X₁, st1⟩ := Y.newCold hexec (own := own) (C := cls) (index := ik) (n := 6) hown' hk' hins hini'
    (g := F0 m pc ls rest) rfl (by rw [hb]; exact d0) (Nat.le_refl _) (Nat.le_refl _)
  generalize hT1 : (T.setVm vm₁).pushCell { cls := cX, slots := kX.instanceTypes.map defaultValue, vm := .none } = T1 at X₁ st1
  have hcat : (Value.ref T.heap.size).category = 1 := rfl
  have hcellA : T1.heap[T.heap.size]? = some (freshCell cX kX) := by rw [← hT1]; exact State.heap_pushCell_size _ _
  have d3' : decode c.code (pc + 3) = .ok (.dup, 1) := by rw [hb]; exact d3
  obtain ⟨U, hsteps, hrun, hend, hW, hsame, ce, hce, hO⟩ := X₁.ctorThrow0 hexec htr (own := own) (cls := cls) (names := names) (ic := ic) hown' hcls hnames h (fun x hx => nomatch hx) hfX hkX hcellA (by rw [hhp, hT]; exact Nat.le_refl _)
    (g := { method := m, pc := pc + 4, locals := ls, stack := .ref T.heap.size :: .ref T.heap.size :: rest, locked := none }) rfl hsize rfl rfl (rest := rest) rfl
    (by rw [hb]; exact d4) (by rw [hb]; exact d7) hout hRframes (by simp only [List.map_cons, List.sum_cons, hcat]; omega) hlocks
  obtain ⟨f1, f2⟩ := vx_frame hsame
  rw [hhp] at f1 f2
  have hWs : s.WarmedH U.vm := State.WarmedH.trans hW0 hW
  have hcl : s.vm.findClass cls = some ce.cls := by
    have h9 := hO.cls
    rw [hvm] at h9
    exact h9
  have hall : s.sameButNew ({ U with vm := s.vm } : State) locs mc ms := by
    subst hA
    obtain ⟨e1, e2⟩ := hsame
    rw [State.setFrames_setFrames] at e1
    have h2 : (T.setVm s.vm).sameButNew ({ U with vm := s.vm } : State) [] (0 + 1) (0 + 6) := ⟨e1, e2⟩
    have h3 := X.same.trans h2
    rw [List.append_nil] at h3
    exact h3.mono hc hs
  refine ⟨U, ?_, .threw T.heap.size, hrun, hend, Or.inr ⟨T.heap.size, rfl, cls, ce, locs, hx U hWs.alike f1 (fun q hq => f2 q hq (fun z hz => nomatch hz)), hce, hO.vm, hcl, hWs, hall, hf⟩⟩
  refine st1 _ ?_
  show Steps p.tables e below (T1.setTop { method := m, pc := pc + 3, locals := ls, stack := .ref T.heap.size :: rest, locked := none }) _
  jvm_step X₁.here [X₁.here.top, hexec, d3', Value.category]
  exact hsteps
/-- 'throw new E("text")': new; dup; ldc; invokespecial; athrow -/
theorem vx_throwS {cc : ByteArray} {pc : Nat} (hexec : p.tables.exec = Jvm.exec) (hb : c.code = cc) (hl : l.stackTraces = false) {own cls text : String} {names : List String} {ik is ic mc ms sa : Nat} {A : Nat → Prop}
    (hown : s.vm.findClass own = some m.cls) (hcls : Bundle.fit cls = true) (hnames : ∀ n ∈ names, Bundle.fit n = true)
    (hk : (Cond.classLink own ik cls).before args s = true) (hini : (Cond.initialized cls).before args s = true) (hstr : vk_R own is text sa s) (hat : ∀ w ∈ vx_atS own ic cls names, w.before args s = true)
    (hgood : ∀ w ∈ Cond.classLink own ik cls :: Cond.initialized cls :: vx_atS own ic cls names, vx_ot w = true)
    (hU : vx_Zq Bundle.tN "UNASSIGNED_STACK" Bundle.steD A s s.heap) (hN : vx_Zq Bundle.tN "SUPPRESSED_SENTINEL" Bundle.listD A s s.heap) (hS : va_S A s.heap H locs) (hsize : ls.size = c.maxLocals)
    (d0 : decode cc pc = .ok (.new ik, 3)) (d3 : decode cc (pc + 3) = .ok (.dup, 1)) (d4 : decode cc (pc + 4) = .ok (.ldc is, 2)) (d6 : decode cc (pc + 6) = .ok (.invokespecial ic, 3)) (d9 : decode cc (pc + 9) = .ok (.athrow, 1))
    (hout : ∀ x ∈ c.exceptionTable.toList, covers x (pc + 9) = false)
    (hRframes : names.length + 3 < R.frames) (hRlocals : (rest.map fun v => v.category).sum + (13 * (names.length + 1) + 43) ≤ R.locals) (hRcells : cells + 1 ≤ R.cells) (hRslots : slots + 6 ≤ R.slots) (hlocks : meth.locks = false)
    (hx : ∀ t : State, s.vm.Alike t.vm → H.size ≤ t.heap.size → (∀ q : Nat, q < H.size → t.heap[q]? = H[q]?) → XC cls s t)
    (hf : ∀ z ∈ locs, free z.base) (hc : cells + 1 ≤ mc) (hs : slots + 6 ≤ ms) :
    W p l e R s m args below meth c H locs cells slots (vx_MQ below Qc XC args s mc ms free) (F0 m pc ls rest) := by
  intro T hT X
  have htr : e.platform.stackTraces = false := (show e.platform.stackTraces = l.stackTraces by rw [X.admits.platform]).trans hl
  have Y := vx_rebase X (R' := { frames := R.frames, locals := R.locals, cells := 1, slots := 6 }) (Nat.le_refl _) (Nat.le_refl _) hRcells hRslots
  obtain ⟨s', hA⟩ : ∃ z, z = (T.setVm s.vm).setFrames (.invoking m args :: below) := ⟨_, rfl⟩
  rw [← hA] at Y
  have hvm : s'.vm = s.vm := by rw [hA]; rfl
  have hhp : s'.heap = H := by rw [hA]; exact hT
  have hW0 : s.WarmedH s'.vm := by rw [hvm]; exact State.WarmedH.refl s
  have hat' : ∀ w ∈ vx_atS own ic cls names, w.before args s' = true := fun w hw => vx_ot_at hW0 hvm.symm (hgood w (List.mem_cons_of_mem _ (List.mem_cons_of_mem _ hw))) (hat w hw)
  have hk' : (Cond.classLink own ik cls).before args s' = true := vx_ot_at hW0 hvm.symm (hgood _ List.mem_cons_self) hk
  have hini' : (Cond.initialized cls).before args s' = true := vx_ot_at hW0 hvm.symm (hgood _ (List.mem_cons_of_mem _ List.mem_cons_self)) hini
  have hU' : vx_Zq Bundle.tN "UNASSIGNED_STACK" Bundle.steD A s' s'.heap := by rw [hhp]; exact vx_Zq.moved hW0.alike (hU.kept hS.2.1)
  have hN' : vx_Zq Bundle.tN "SUPPRESSED_SENTINEL" Bundle.listD A s' s'.heap := by rw [hhp]; exact vx_Zq.moved hW0.alike (hN.kept hS.2.1)
  have h : ∀ w ∈ Bundle.ownAtoms own ic cls names, w.before args s' = true := vx_own hat' (vx_isRefq hU'.1) (vx_isRefq hN'.1) hU'.2.word hN'.2.word
  have hown' : s'.vm.findClass own = some m.cls := by rw [hvm]; exact hown
  have hins : (Cond.instantiable cls 6).before args s' = true := h _ (by simp [Bundle.ownAtoms])
  obtain ⟨vm₁, cX, kX, hfX, hkX, -, -, X₁, st1⟩ := Y.newCold hexec (own := own) (C := cls) (index := ik) (n := 6) hown' hk' hins hini'
    (g := F0 m pc ls rest) rfl (by rw [hb]; exact d0) (Nat.le_refl _) (Nat.le_refl _)
  generalize hT1 : (T.setVm vm₁).pushCell { cls := cX, slots := kX.instanceTypes.map defaultValue, vm := .none } = T1 at X₁ st1
  have hcat : (Value.ref T.heap.size).category = 1 := rfl
  have hcellA : T1.heap[T.heap.size]? = some (freshCell cX kX) := by rw [← hT1]; exact State.heap_pushCell_size _ _
  have d3' : decode c.code (pc + 3) = .ok (.dup, 1) := by rw [hb]; exact d3
  have d4' : decode c.code (pc + 4) = .ok (.ldc is, 2) := by rw [hb]; exact d4
  have hstr' : vk_R own is text sa s' := vk_R.warm hW0 hstr
  obtain ⟨U, hsteps, hrun, hend, hW, hsame, ce, hce, hO⟩ := X₁.ctorThrowS hexec htr (own := own) (cls := cls) (names := names) (ic := ic) hown' hcls hnames h (fun x hx => nomatch hx) hfX hkX hcellA (by rw [hhp, hT]; exact Nat.le_refl _) (msg := .ref sa) rfl
    (g := { method := m, pc := pc + 6, locals := ls, stack := .ref sa :: .ref T.heap.size :: .ref T.heap.size :: rest, locked := none }) rfl hsize rfl rfl (rest := rest) rfl
    (by rw [hb]; exact d6) (by rw [hb]; exact d9) hout hRframes (by simp only [List.map_cons, List.sum_cons, hcat]; omega) hlocks
  obtain ⟨f1, f2⟩ := vx_frame hsame
  rw [hhp] at f1 f2
  have hWs : s.WarmedH U.vm := State.WarmedH.trans hW0 hW
  have hcl : s.vm.findClass cls = some ce.cls := by
    have h9 := hO.cls
    rw [hvm] at h9
    exact h9
  have hall : s.sameButNew ({ U with vm := s.vm } : State) locs mc ms := by
    subst hA
    obtain ⟨e1, e2⟩ := hsame
    rw [State.setFrames_setFrames] at e1
    have h2 : (T.setVm s.vm).sameButNew ({ U with vm := s.vm } : State) [] (0 + 1) (0 + 6) := ⟨e1, e2⟩
    have h3 := X.same.trans h2
    rw [List.append_nil] at h3
    exact h3.mono hc hs
  refine ⟨U, ?_, .threw T.heap.size, hrun, hend, Or.inr ⟨T.heap.size, rfl, cls, ce, locs, hx U hWs.alike f1 (fun q hq => f2 q hq (fun z hz => nomatch hz)), hce, hO.vm, hcl, hWs, hall, hf⟩⟩
  refine st1 _ ?_
  show Steps p.tables e below (T1.setTop { method := m, pc := pc + 3, locals := ls, stack := .ref T.heap.size :: rest, locked := none }) _
  jvm_step X₁.here [X₁.here.top, hexec, d3', Value.category]
  exact X₁.ldcString hexec (own := own) (text := text) (index := is) (a := sa) hown' hstr'.1 hstr'.2
    (g := { method := m, pc := pc + 4, locals := ls, stack := .ref T.heap.size :: .ref T.heap.size :: rest, locked := none }) rfl d4' _ hsteps
/-- 'throw new E("text")', the text by a wide index -/
theorem vx_throwSW {cc : ByteArray} {pc : Nat} (hexec : p.tables.exec = Jvm.exec) (hb : c.code = cc) (hl : l.stackTraces = false) {own cls text : String} {names : List String} {ik is ic mc ms sa : Nat} {A : Nat → Prop}
    (hown : s.vm.findClass own = some m.cls) (hcls : Bundle.fit cls = true) (hnames : ∀ n ∈ names, Bundle.fit n = true)
    (hk : (Cond.classLink own ik cls).before args s = true) (hini : (Cond.initialized cls).before args s = true) (hstr : vk_R own is text sa s) (hat : ∀ w ∈ vx_atS own ic cls names, w.before args s = true)
    (hgood : ∀ w ∈ Cond.classLink own ik cls :: Cond.initialized cls :: vx_atS own ic cls names, vx_ot w = true)
    (hU : vx_Zq Bundle.tN "UNASSIGNED_STACK" Bundle.steD A s s.heap) (hN : vx_Zq Bundle.tN "SUPPRESSED_SENTINEL" Bundle.listD A s s.heap) (hS : va_S A s.heap H locs) (hsize : ls.size = c.maxLocals)
    (d0 : decode cc pc = .ok (.new ik, 3)) (d3 : decode cc (pc + 3) = .ok (.dup, 1)) (d4 : decode cc (pc + 4) = .ok (.ldc_w is, 3)) (d7 : decode cc (pc + 7) = .ok (.invokespecial ic, 3)) (d10 : decode cc (pc + 10) = .ok (.athrow, 1))
    (hout : ∀ x ∈ c.exceptionTable.toList, covers x (pc + 10) = false)
    (hRframes : names.length + 3 < R.frames) (hRlocals : (rest.map fun v => v.category).sum + (13 * (names.length + 1) + 43) ≤ R.locals) (hRcells : cells + 1 ≤ R.cells) (hRslots : slots + 6 ≤ R.slots) (hlocks : meth.locks = false)
    (hx : ∀ t : State, s.vm.Alike t.vm → H.size ≤ t.heap.size → (∀ q : Nat, q < H.size → t.heap[q]? = H[q]?) → XC cls s t)
    (hf : ∀ z ∈ locs, free z.base) (hc : cells + 1 ≤ mc) (hs : slots + 6 ≤ ms) :
    W p l e R s m args below meth c H locs cells slots (vx_MQ below Qc XC args s mc ms free) (F0 m pc ls rest) := by
  intro T hT X
  have htr : e.platform.stackTraces = false := (show e.platform.stackTraces = l.stackTraces by rw [X.admits.platform]).trans hl
  have Y := vx_rebase X (R' := { frames := R.frames, locals := R.locals, cells := 1, slots := 6 }) (Nat.le_refl _) (Nat.le_refl _) hRcells hRslots
  obtain ⟨s', hA⟩ : ∃ z, z = (T.setVm s.vm).setFrames (.invoking m args :: below) := ⟨_, rfl⟩
  rw [← hA] at Y
  have hvm : s'.vm = s.vm := by rw [hA]; rfl
  have hhp : s'.heap = H := by rw [hA]; exact hT
  have hW0 : s.WarmedH s'.vm := by rw [hvm]; exact State.WarmedH.refl s
  have hat' : ∀ w ∈ vx_atS own ic cls names, w.before args s' = true := fun w hw => vx_ot_at hW0 hvm.symm (hgood w (List.mem_cons_of_mem _ (List.mem_cons_of_mem _ hw))) (hat w hw)
  have hk' : (Cond.classLink own ik cls).before args s' = true := vx_ot_at hW0 hvm.symm (hgood _ List.mem_cons_self) hk
  have hini' : (Cond.initialized cls).before args s' = true := vx_ot_at hW0 hvm.symm (hgood _ (List.mem_cons_of_mem _ List.mem_cons_self)) hini
  have hU' : vx_Zq Bundle.tN "UNASSIGNED_STACK" Bundle.steD A s' s'.heap := by rw [hhp]; exact vx_Zq.moved hW0.alike (hU.kept hS.2.1)
  have hN' : vx_Zq Bundle.tN "SUPPRESSED_SENTINEL" Bundle.listD A s' s'.heap := by rw [hhp]; exact vx_Zq.moved hW0.alike (hN.kept hS.2.1)
  have h : ∀ w ∈ Bundle.ownAtoms own ic cls names, w.before args s' = true := vx_own hat' (vx_isRefq hU'.1) (vx_isRefq hN'.1) hU'.2.word hN'.2.word
  have hown' : s'.vm.findClass own = some m.cls := by rw [hvm]; exact hown
  have hins : (Cond.instantiable cls 6).before args s' = true := h _ (by simp [Bundle.ownAtoms])
  obtain ⟨vm₁, cX, kX, hfX, hkX, -, -, X₁, st1⟩ := Y.newCold hexec (own := own) (C := cls) (index := ik) (n := 6) hown' hk' hins hini'
    (g := F0 m pc ls rest) rfl (by rw [hb]; exact d0) (Nat.le_refl _) (Nat.le_refl _)
  generalize hT1 : (T.setVm vm₁).pushCell { cls := cX, slots := kX.instanceTypes.map defaultValue, vm := .none } = T1 at X₁ st1
  have hcat : (Value.ref T.heap.size).category = 1 := rfl
  have hcellA : T1.heap[T.heap.size]? = some (freshCell cX kX) := by rw [← hT1]; exact State.heap_pushCell_size _ _
  have d3' : decode c.code (pc + 3) = .ok (.dup, 1) := by rw [hb]; exact d3
  have d4' : decode c.code (pc + 4) = .ok (.ldc_w is, 3) := by rw [hb]; exact d4
  have hstr' : vk_R own is text sa s' := vk_R.warm hW0 hstr
  obtain ⟨U, hsteps, hrun, hend, hW, hsame, ce, hce, hO⟩ := X₁.ctorThrowS hexec htr (own := own) (cls := cls) (names := names) (ic := ic) hown' hcls hnames h (fun x hx => nomatch hx) hfX hkX hcellA (by rw [hhp, hT]; exact Nat.le_refl _) (msg := .ref sa) rfl
    (g := { method := m, pc := pc + 7, locals := ls, stack := .ref sa :: .ref T.heap.size :: .ref T.heap.size :: rest, locked := none }) rfl hsize rfl rfl (rest := rest) rfl
    (by rw [hb]; exact d7) (by rw [hb]; exact d10) hout hRframes (by simp only [List.map_cons, List.sum_cons, hcat]; omega) hlocks
  obtain ⟨f1, f2⟩ := vx_frame hsame
  rw [hhp] at f1 f2
  have hWs : s.WarmedH U.vm := State.WarmedH.trans hW0 hW
  have hcl : s.vm.findClass cls = some ce.cls := by
    have h9 := hO.cls
    rw [hvm] at h9
    exact h9
  have hall : s.sameButNew ({ U with vm := s.vm } : State) locs mc ms := by
    subst hA
    obtain ⟨e1, e2⟩ := hsame
    rw [State.setFrames_setFrames] at e1
    have h2 : (T.setVm s.vm).sameButNew ({ U with vm := s.vm } : State) [] (0 + 1) (0 + 6) := ⟨e1, e2⟩
    have h3 := X.same.trans h2
    rw [List.append_nil] at h3
    exact h3.mono hc hs
  refine ⟨U, ?_, .threw T.heap.size, hrun, hend, Or.inr ⟨T.heap.size, rfl, cls, ce, locs, hx U hWs.alike f1 (fun q hq => f2 q hq (fun z hz => nomatch hz)), hce, hO.vm, hcl, hWs, hall, hf⟩⟩
  refine st1 _ ?_
  show Steps p.tables e below (T1.setTop { method := m, pc := pc + 3, locals := ls, stack := .ref T.heap.size :: rest, locked := none }) _
  jvm_step X₁.here [X₁.here.top, hexec, d3', Value.category]
  exact X₁.ldcStringW hexec (own := own) (text := text) (index := is) (a := sa) hown' hstr'.1 hstr'.2
    (g := { method := m, pc := pc + 4, locals := ls, stack := .ref T.heap.size :: .ref T.heap.size :: rest, locked := none }) rfl d4' _ hsteps
end Ends
section Bodies
variable {l : Launch}
theorem vx_ofW {y : MethodName} {ws ws' : List Cond} {rm : Room} {Pc : Array Value → State → Prop} {Qc : Array Value → State → Outcome → State → Prop} {XC : String → State → State → Prop} {mc ms : Nat} {free : Addr → Prop} {cc : ByteArray} {maxL : Nat} {ret : Option FieldType}
    (hy : plainName y.cls = true) (hw : ws = Cond.code y cc maxL ret :: ws')
    (body : ∀ p e s m args below meth c s₁, BodyLoose p l y (headSpec ws rm) cc maxL ret e s m args below meth c s₁ → c.maxLocals = maxL → (∀ x ∈ c.exceptionTable.toList, False) → Pc args s →
      W p l e (headSpec ws rm).room s m args below meth c s.heap [] 0 0 (vx_MQ below Qc XC args s mc ms free) (entryFrame m args maxL)) : vx_Met l y ws rm Pc Qc XC mc ms free := by
  refine MetFree.of_bodyS (code := cc) (maxLocals := maxL) (ret := ret) hy ?_ ?_
  · intro args s m h hn
    obtain ⟨meth, c, h1, h2, h3, h4, h5, h6, -, -⟩ := Cond.code_spec hn (atoms_spec (ws := ws) h _ (by rw [hw]; exact List.mem_cons_self))
    exact ⟨meth, c, h1, h2, h3, h4, h5, h6⟩
  · intro p e s m args below meth c s₁ B hml hP _
    have hh0 : s₁.heap = s.heap := by rw [B.state]; rfl
    have ht : ∀ x ∈ c.exceptionTable.toList, False := by
      obtain ⟨meth9, c9, h1, h2, -, -, -, -, h7, -⟩ := Cond.code_spec B.named (atoms_spec (ws := ws) B.pre _ (by rw [hw]; exact List.mem_cons_self))
      cases Option.some.inj (h1.symm.trans B.method)
      cases Option.some.inj (h2.symm.trans (Stand.of_body B).code)
      intro x hx
      rw [Array.isEmpty_iff.mp h7] at hx
      cases hx
    obtain ⟨t, a1, o, b1, b2, b3⟩ := body p e s m args below meth c s₁ B hml ht hP s₁ hh0 (Stand.of_body B)
    exact ⟨t, o, a1, b1, b2, b3⟩
/-- the table of a body with handlers -/
theorem vx_table {p : Program} {x y : MethodName} {S : Spec} {cc bytes : ByteArray} {maxL maxL' : Nat} {ret ret' : Option FieldType} {e : Env} {s s₁ : State} {m : MethodId} {args : Array Value} {below : List Frame} {meth : Method} {c : Code} {hh : List (Nat × Nat × Nat × Nat)}
    (B : BodyLoose p l y S cc maxL ret e s m args below meth c s₁) (h : (Cond.codeWith y bytes maxL' ret' hh).before args s = true) : c.exceptionTable.toList = tableOf hh := by
  obtain ⟨m9, meth9, c9, hn9, h1, h2, -, -, h6, -⟩ := Cond.codeWith_spec h
  cases Option.some.inj (hn9.symm.trans B.named)
  cases Option.some.inj (h1.symm.trans B.method)
  cases Option.some.inj (h2.symm.trans (Stand.of_body B).code)
  rw [← h6, table_eq]
end Bodies
end VXA
/-! ===== END ===== -/
/-! ===== BEGIN a static call of a method with an exception table ===== -/
section VXS
variable {p : Program} {l : Launch} {e : Env} {R : Room} {s : State} {m : MethodId} {args : Array Value} {below : List Frame} {meth : Method} {c : Code} {T : State} {H : Heap} {locs : List Loc} {cells slots : Nat}
abbrev vx_CSW (R : Room) (s : State) (args : Array Value) (own : String) (index : Nat) (y : MethodName) (bytes : ByteArray) (maxL : Nat) (ret : Option FieldType) (hh : List (Nat × Nat × Nat × Nat)) (ws : List Cond) (rm : Room) (mc ms n : Nat) : Prop :=
  (rm.cells = mc ∧ rm.slots = ms ∧ rm.frames + 1 ≤ R.frames ∧ 8 + (maxL + 11) + rm.locals ≤ R.locals ∧ (∀ w ∈ ws, ∀ (a' : Array Value) (U : State), s.WarmedH U.vm → w.before a' U = true) ∧ Cond.codeWith y bytes maxL ret hh ∈ ws) ∧
  (Cond.codeWith y bytes maxL ret hh).before args s = true ∧ (Cond.initialized y.cls).before args s = true ∧ (y.cls ≠ "java/lang/invoke/MethodHandle" ∧ y.cls ≠ "java/lang/invoke/VarHandle") ∧
  (∀ sig, parseMethodDescriptor y.desc = some sig → n = sig.parameters.length) ∧ (Cond.methodLink own index y).before args s = true ∧ (Cond.static y).before args s = true
theorem vx_cwSW {own : String} {index maxL mc ms : Nat} {y : MethodName} {bytes : ByteArray} {ret : Option FieldType} {hh : List (Nat × Nat × Nat × Nat)} {Ts ws ws' : List Cond} {rm : Room} (n : Nat) (ht : ∀ w ∈ Ts, w.before args s = true) (hT : GoodIn Ts (va_wsS own index y ws)) (hw : ws = Cond.codeWith y bytes maxL ret hh :: ws') (hrc : rm.cells = mc) (hrs : rm.slots = ms)
    (hd : y.cls ≠ "java/lang/invoke/MethodHandle" ∧ y.cls ≠ "java/lang/invoke/VarHandle" ∧ (parseMethodDescriptor y.desc).map (fun d => d.parameters.length) = some n) (hR : rm.frames + 1 ≤ R.frames ∧ 8 + (maxL + 11) + rm.locals ≤ R.locals) :
    vx_CSW R s args own index y bytes maxL ret hh ws rm mc ms n := by
  have ok : ∀ w ∈ va_wsS own index y ws, w.before args s = true := fun w h => ht w (hT w h).1
  have hG : GoodIn Ts ws := fun w h => hT w (by unfold va_wsS; exact List.mem_append_right _ h)
  have hc : Cond.codeWith y bytes maxL ret hh ∈ ws := by rw [hw]; exact List.mem_cons_self
  refine ⟨⟨hrc, hrs, hR.1, hR.2, pay_in ht hG, hc⟩, ht _ (hG _ hc).1, ok _ (by simp [va_wsS]), ⟨hd.1, hd.2.1⟩, fun sig h => ?_, ok _ (by simp [va_wsS]), ok _ (by simp [va_wsS])⟩
  have h2 := hd.2.2
  rw [h] at h2
  exact (Option.some.inj h2).symm
theorem vx_callSW (X : Stand p l e R s m args below meth c T locs cells slots) (hexec : p.tables.exec = Jvm.exec) {own : String} {index : Nat} {y : MethodName} {bytes : ByteArray} {maxL : Nat} {ret : Option FieldType} {hh : List (Nat × Nat × Nat × Nat)}
    (hown : s.vm.findClass own = some m.cls) (hlink : (Cond.methodLink own index y).before args s = true) (hstat : (Cond.static y).before args s = true) (hinit : (Cond.initialized y.cls).before args s = true)
    (hcode : (Cond.codeWith y bytes maxL ret hh).before args s = true) (hy : y.cls ≠ "java/lang/invoke/MethodHandle" ∧ y.cls ≠ "java/lang/invoke/VarHandle")
    {W9 : Nat} {Pre : Pt → Array Value → Prop} {Post : Pt → Array Value → Option Value → Pt → Prop} (hK : Back l R p e below s args y 3 W9 Pre Post)
    {g : JFrame} (hg : g.method = m) (hsize : g.locals.size = c.maxLocals) {argsL rest : List Value} (hlen : ∀ sig, parseMethodDescriptor y.desc = some sig → argsL.length = sig.parameters.length)
    (hstack : g.stack = argsL.reverse ++ rest) (hW : 2 * g.monitorRoom + (rest.map fun v => v.category).sum ≤ W9) (hdg : decode c.code g.pc = .ok (.invokestatic index, 3))
    (hpre : ∀ vm₁, s.WarmedH vm₁ → Pre ⟨T.setVm vm₁, locs, cells, slots⟩ argsL.toArray) :
    ∃ (v : Option Value) (vm₁ : Vm) (B : Pt), s.WarmedH vm₁ ∧ Stand p l e R s m args below meth c B.U B.locs B.cells B.slots ∧ Post ⟨T.setVm vm₁, locs, cells, slots⟩ argsL.toArray v B ∧
      ∀ target, Steps p.tables e below (B.U.setTop { g with pc := g.pc + 3, stack := v.toList ++ rest }) target → Steps p.tables e below (T.setTop g) target := by
  obtain ⟨mk, methM, cM, hnamed, hmethM, -, -, -, -, -, -, hsigM⟩ := Cond.codeWith_spec hcode
  have hstatic : methM.isStatic = true := Cond.static_spec hnamed hmethM hstat
  obtain ⟨kP, hkP, -⟩ := className_of_methodNamed hnamed
  have hinitP : kP.init = .initialized := Cond.initialized_spec (findClass_of_methodNamed hnamed) hkP hinit
  obtain ⟨vm₁, X₁, hstep₁⟩ := X.invokestatic hexec hown hlink hnamed hmethM hstatic hkP hinitP hy (g := g) hg (argsL := argsL) (rest := rest) (hlen _ hsigM) hstack hdg
  obtain ⟨v, B, X', hpost, hsteps⟩ := hK m meth c ⟨T.setVm vm₁, locs, cells, slots⟩ { g with stack := rest } (.invokestatic index) mk argsL.toArray X₁ hg hsize hdg hW (X₁.named hnamed) (hpre vm₁ X₁.warmed)
  exact ⟨v, vm₁, B, X₁.warmed, X', hpost, fun target h => hstep₁ _ fun acts => by rw [doInvoke_state]; exact hsteps.trans h⟩
theorem vx_runSW {y : MethodName} {bytes cc : ByteArray} {maxL nL mc ms n index : Nat} {ret : Option FieldType} {hh : List (Nat × Nat × Nat × Nat)} {ws : List Cond} {rm : Room} {Pc : Array Value → State → Prop} {Qc : Array Value → State → Outcome → State → Prop} {free : Addr → Prop} {Ts : List Cond} {own : String} {As rest : List Value} {g : JFrame}
    (S : CallFix p m c cc nL s args Ts own) (hM : Met l y ws rm Pc Qc mc ms free) (cw : vx_CSW R s args own index y bytes maxL ret hh ws rm mc ms n) (hp : PreS s H Pc As)
    (hg : g.method = m) (hn : As.length = n) (hsize : g.locals.size = nL) (hstack : g.stack = As.reverse ++ rest) (hW : 2 * g.monitorRoom + (rest.map fun v => v.category).sum ≤ 8) (hdg : decode cc g.pc = .ok (.invokestatic index, 3)) (hf : cells + mc ≤ R.cells ∧ slots + ms ≤ R.slots) :
    va_Run p l e R s m args below meth c H locs cells slots mc ms g rest (Qc As.toArray) (free) := by
  obtain ⟨⟨hrc, hrs, hfr, hlo, hws, hcw⟩, hcode, hini, hy, hlen, hl, hstt⟩ := cw
  have hK : Back l R p e below s args y 3 8 (PreOf R mc ms Pc) (PostOf Qc mc ms free) := va_backW (hh := hh) (bytes := bytes) (maxL := maxL) (ret := ret) hM hp.1 hrc hrs hfr hlo hws hcw (fun a' U hW => word_at hW (Or.inl (by first | rfl | simp [Cond.onTables, Cond.keeps, Cond.steady])) hini)
  obtain ⟨hx, hb, hml, ho, -⟩ := S
  intro T hT X
  obtain ⟨v, vm₁, ⟨U', l2, c2, s2⟩, hW₁, X', ⟨g', mk, t, L, e1, e2, hq, h1, hL, h2, h3⟩, st⟩ := vx_callSW X hx (hh := hh) (bytes := bytes) (maxL := maxL) (ret := ret) ho hl hstt hini hcode hy hK hg (hsize.trans hml.symm) (argsL := As) (rest := rest) (fun sig h => hn.trans (hlen sig h)) hstack hW (by rw [hb]; exact hdg)
    (fun vm₁ hW₁ => ⟨hf.1, hf.2, hp.2 (T.setVm vm₁) hT hW₁⟩)
  dsimp only [Pt.U, Pt.locs, Pt.cells, Pt.slots] at X' e1 e2 h1 h2 h3 st
  subst h1; subst h2; subst h3
  exact ⟨v, (T.setVm vm₁).calling g' mk As.toArray, t, U', L, hT, X', hL, e1, e2, hq, st⟩
/-- not caught here, past rows that name other classes: it goes on to the caller -/
theorem vx_outP {p : Program} {l : Launch} {e : Env} {R : Room} {s : State} {m : MethodId} {args : Array Value} {below : List Frame} {meth : Method} {c : Code} {H : Heap} {locs : List Loc} {cells slots : Nat} {free : Addr → Prop} {ls : Array Slot} {rest : List Value} {Qc : Array Value → State → Outcome → State → Prop} {XC : String → State → State → Prop}
    {pc : Nat} {own E : String} {ce : Cell} {q : Addr} {mc ms : Nat} (hown : s.vm.findClass own = some m.cls) (hlocks : meth.locks = false)
    (hpass : ∀ z ∈ c.exceptionTable.toList, covers z pc = false ∨ (z.catchType ≠ 0 ∧ ∃ nm : String, (Cond.classLink own z.catchType nm).before args s = true ∧ va_Nc E nm s)) (hcell : H[q]? = some ce) (hv : ce.vm = .none) (hcl : s.vm.findClass E = some ce.cls)
    (hx : ∀ t : State, t.heap = H → s.vm.Alike t.vm → XC E s t) (hf : ∀ z ∈ locs, free z.base) (hc : cells ≤ mc) (hs : slots ≤ ms) :
    vx_W p l e R s m args below meth c H locs cells slots (vx_MQ below Qc XC args s mc ms free) (F0 m pc ls rest) q := by
  intro T hT X
  have hpl : e.platform.magicAccessors = ({} : Platform).magicAccessors := by rw [X.admits.platform]
  obtain ⟨vm', hW', X', st⟩ := X.outThrough hlocks q (g := F0 m pc ls rest) rfl rfl rfl (cell := ce) (by rw [hT]; exact hcell) (by rw [hv]; rfl)
    (by obtain ⟨k9, h9, -⟩ := Vm.findClass_spec hcl; exact ⟨k9, h9⟩) (fun z hz => by
      rcases hpass z hz with h | ⟨hz0, nm, hl1, hn1⟩
      · exact Or.inl h
      · obtain ⟨c6, hc6, hcl6⟩ := Cond.classLink_spec hown hl1 e.platform hpl
        obtain ⟨a8, b8, h1, h2, h3⟩ := hn1
        cases Option.some.inj (h1.symm.trans hcl)
        cases Option.some.inj (h2.symm.trans hc6)
        exact Or.inr ⟨hz0, _, hcl6, h3⟩)
  obtain ⟨g₀, hfr⟩ := X'.frames_eq
  have hcell9 : ((T.setVm vm').setFrames (.throwing q :: below)).heap[q]? = some ce := by
    show T.heap[q]? = some ce
    rw [hT]; exact hcell
  have hend : Ended ((T.setVm vm').setFrames (.throwing q :: below)) below (.threw q) := State.frames_setFrames _ (State.cur_lt_of_frames hfr)
  refine ⟨(T.setVm vm').setFrames (.throwing q :: below), ?_, .threw q, X'.here.running, hend, Or.inr ⟨q, rfl, E, ce, locs, hx _ hT (X'.ends _).1.alike, hcell9, hv, hcl, (X'.ends _).1, (X'.ends _).2.mono hc hs, hf⟩⟩
  rw [X.pushThrowing_eq]
  exact st
/-- a thing of a world lies in the heap -/
theorem vx_lt {D : va_G} {cl : List vw_C} {ws : va_W} {H1 : Heap} (h : va_P D cl ws H1) {k : Nat} {q : Nat × va_E} (hk : ws[k]? = some q) : q.1 < H1.size := (h k q hk).lt
end VXS
/-! ===== END ===== -/
/-! ===== BEGIN methods with a table of their own: called by a name, returning or throwing ===== -/
section VXH
/-! vx_backW, vx_callVX, vx_callSX, vx_callVW, vx_runVW, vx_runVX, vx_runSX, vx_ofWH follow the same proofs as their sisters above (Free/Laws.lean, Shelf42/LK1.lean); vx_outP calls Shelf42/NT130.lean (outThrough). -/
section
variable {l : Launch} {R : Room} {p : Program} {e : Env} {below : List Frame} {s : State} {sargs : Array Value} {y : MethodName} {len W9 : Nat}
theorem vx_backW {ws : List Cond} {rm : Room} {Pc : Array Value → State → Prop} {Qc : Array Value → State → Outcome → State → Prop} {XC : String → State → State → Prop} {mc ms : Nat} {free : Addr → Prop} {bytes : ByteArray} {maxL : Nat} {ret : Option FieldType} {hh : List (Nat × Nat × Nat × Nat)}
    (hM : vx_Met l y ws rm Pc Qc XC mc ms free) (hblind : FrameBlind Pc) (hrc : rm.cells = mc) (hrs : rm.slots = ms)
    (hframes : rm.frames + 1 ≤ R.frames) (hlocals : W9 + (maxL + 11) + rm.locals ≤ R.locals)
    (hws : ∀ w ∈ ws, ∀ a' U, s.WarmedH U.vm → w.before a' U = true) (hcode : Cond.codeWith y bytes maxL ret hh ∈ ws) (hinit : ∀ a' U, s.WarmedH U.vm → (Cond.initialized y.cls).before a' U = true) :
    vx_Back l R p e below s sargs y len W9 (PreOf R mc ms Pc) (PostOf Qc mc ms free) (vx_Post XC mc ms free) := by
  intro m meth c A g ig mk a X hg hsize hdg hW hn hp
  have h1 : (headSpec ws rm).pre.before a A.U = true := atoms_intro fun w hw => hws w hw _ _ X.warmed
  have h2 : (Cond.codeWith y bytes maxL ret hh).before a A.U = true := hws _ hcode _ _ X.warmed
  have h3 : (Cond.initialized y.cls).before a A.U = true := hinit _ _ X.warmed
  have h4 : A.cells + (headSpec ws rm).room.cells ≤ R.cells := by rw [show (headSpec ws rm).room.cells = mc from hrc]; exact hp.1
  have h5 : A.slots + (headSpec ws rm).room.slots ≤ R.slots := by rw [show (headSpec ws rm).room.slots = ms from hrs]; exact hp.2.1
  have hPc : Pc a (A.U.calling g mk a) := hblind _ _ _ _ hp.2.2
  obtain ⟨U, Ls, c0, s0⟩ := A
  dsimp only [Pt.U, Pt.locs, Pt.cells, Pt.slots] at h1 h2 h3 h4 h5 X hn hPc ⊢
  obtain ⟨m9, methY, cY, hn9, hmY, hcY, -, hlY, -⟩ := Cond.codeWith_spec h2
  cases Option.some.inj (hn9.symm.trans hn)
  obtain ⟨kY, hkY, -⟩ := className_of_methodNamed hn
  have hinitY : kY.init = .initialized := Cond.initialized_spec (findClass_of_methodNamed hn) hkY h3
  have h : At U g.method c below := by rw [hg]; exact X.here
  have hlocals9 : W9 + (maxL + 11) + (headSpec ws rm).room.locals ≤ R.locals := hlocals
  have happ : (headSpec ws rm).appliesLoose y e.platform (U.calling g mk a) = true :=
    Spec.appliesLoose_calling (g := g) h hdg hn hkY hinitY
      (X.room_calling (g := g) (R' := (headSpec ws rm).room) hsize hmY hcY hframes (by rw [hlY]; omega) h4 h5) h1
  obtain ⟨mid, hmid⟩ := h.above
  have hfr : (U.setTop g).frames = (.java g :: mid) ++ below := by rw [State.frames_setTop' g h.top, hmid]; rfl
  obtain ⟨o, s₂, hsteps, -, hend, hq⟩ := Steps.callFree hM p X.admits X.cas X.clock (acts := []) hfr happ hPc trivial
  have hq' : vx_Q Qc XC mc ms free a (U.calling g mk a) o s₂ := hq
  rw [State.frames_setTop' g h.top] at hend
  obtain ⟨g₀, hg0⟩ := Option.isSome_iff_exists.mp h.top
  obtain ⟨r, hr⟩ := State.topJava?_eq_some.mp hg0
  have hr' : (({ U with heap := s₂.heap, slotsUsed := s₂.slotsUsed } : State).setVm s₂.vm).frames = .java g₀ :: r := hr
  rcases hq' with ⟨hqc, L, hfe, hL⟩ | ⟨q, rfl, E, ce, L, hx, hce, hcv, hcl, hW₂, hsm, hL⟩
  · obtain ⟨⟨v, rfl⟩, hW₂, e2, q2, q3, q4, q5, q6⟩ := id hfe
    have e3 : s₂ = ({ (U.calling g mk a).setFrames s₂.frames with heap := s₂.heap, slotsUsed := s₂.slotsUsed } : State).setVm s₂.vm := by
      have : s₂ = ({ s₂ with vm := (U.calling g mk a).vm } : State).setVm s₂.vm := rfl
      rw [e2] at this
      exact this
    obtain ⟨c₂, i₂, len₂, hc₂, hd₂, hf₂⟩ := hend
    have hW' : U.WarmedH s₂.vm := hW₂
    have hcc : c₂ = c := by
      have h1 : s₂.code? g.method = U.code? g.method := by
        rw [State.code?_eq, State.code?_eq, hW'.alike.method?]
      exact Option.some.inj (hc₂.symm.trans (h1.trans h.code))
    subst hcc
    have hlen : len₂ = len := by rw [hdg] at hd₂; cases hd₂; rfl
    subst hlen
    have hs₂ : s₂ = (({ U with heap := s₂.heap, slotsUsed := s₂.slotsUsed } : State).setVm s₂.vm).setTop { g with pc := g.pc + len₂, stack := v.toList ++ g.stack } := by
      refine e3.trans ?_
      rw [hf₂, State.calling_eq h.top, State.setFrames_setFrames, State.setTop_of_frames _ hr', hr]
      rfl
    have hsame : U.sameButNew ({ U with heap := s₂.heap, slotsUsed := s₂.slotsUsed } : State) L mc ms := by
      refine ⟨?_, q2, q3, q4, q5, q6⟩
      obtain ⟨t, ht, -⟩ := State.frames_cons hr
      show ({ U with heap := s₂.heap, slotsUsed := s₂.slotsUsed } : State) = { U.setFrames U.frames with heap := s₂.heap, slotsUsed := s₂.slotsUsed }
      rw [State.setFrames_self ht]
    subst hg
    refine Or.inl ⟨v, ⟨(({ U with heap := s₂.heap, slotsUsed := s₂.slotsUsed } : State).setVm s₂.vm), Ls ++ L, c0 + mc, s0 + ms⟩,
      ⟨X.admits, X.cas, X.clock, X.frames, X.room, X.hears, X.method, X.code, (X.here.setHeapUsed s₂.heap s₂.slotsUsed).setVm hW'.alike, X.tail, State.WarmedH.trans X.warmed hW', X.limits, X.bytes, X.same.trans (hsame.setVm s.vm)⟩,
      ⟨g, mk, s₂, L, rfl, rfl, hqc, rfl, hL, rfl, rfl⟩, ?_⟩
    show Steps p.tables e below _ ((({ U with heap := s₂.heap, slotsUsed := s₂.slotsUsed } : State).setVm s₂.vm).setTop { g with pc := g.pc + len₂, stack := v.toList ++ g.stack })
    rw [← hs₂]
    exact hsteps
  · obtain ⟨e2, q2, q3, q4, q5, q6⟩ := id hsm
    have e3 : s₂ = ({ (U.calling g mk a).setFrames s₂.frames with heap := s₂.heap, slotsUsed := s₂.slotsUsed } : State).setVm s₂.vm := by
      have : s₂ = ({ s₂ with vm := (U.calling g mk a).vm } : State).setVm s₂.vm := rfl
      rw [e2] at this
      exact this
    have hf₂ : s₂.frames = .throwing q :: .java g :: U.frames.tail := hend
    have hW' : U.WarmedH s₂.vm := hW₂
    have hs₂ : s₂ = ((({ U with heap := s₂.heap, slotsUsed := s₂.slotsUsed } : State).setVm s₂.vm).setTop g).pushFrame (.throwing q) := by
      refine e3.trans ?_
      rw [hf₂, State.calling_eq h.top, State.setFrames_setFrames, State.pushFrame, State.frames_setTop _ hr', State.setTop_of_frames _ hr', State.setFrames_setFrames, hr]
      rfl
    have hsame : U.sameButNew ({ U with heap := s₂.heap, slotsUsed := s₂.slotsUsed } : State) L mc ms := by
      refine ⟨?_, q2, q3, q4, q5, q6⟩
      obtain ⟨t, ht, -⟩ := State.frames_cons hr
      show ({ U with heap := s₂.heap, slotsUsed := s₂.slotsUsed } : State) = { U.setFrames U.frames with heap := s₂.heap, slotsUsed := s₂.slotsUsed }
      rw [State.setFrames_self ht]
    subst hg
    refine Or.inr ⟨q, ⟨(({ U with heap := s₂.heap, slotsUsed := s₂.slotsUsed } : State).setVm s₂.vm), Ls ++ L, c0 + mc, s0 + ms⟩,
      ⟨X.admits, X.cas, X.clock, X.frames, X.room, X.hears, X.method, X.code, (X.here.setHeapUsed s₂.heap s₂.slotsUsed).setVm hW'.alike, X.tail, State.WarmedH.trans X.warmed hW', X.limits, X.bytes, X.same.trans (hsame.setVm s.vm)⟩,
      ⟨g, mk, s₂, L, E, ce, rfl, rfl, hx, hce, hcv, hcl, rfl, hL, rfl, rfl⟩, ?_⟩
    show Steps p.tables e below _ (((({ U with heap := s₂.heap, slotsUsed := s₂.slotsUsed } : State).setVm s₂.vm).setTop g).pushFrame (.throwing q))
    rw [← hs₂]
    exact hsteps
end
variable {p : Program} {l : Launch} {e : Env} {R : Room} {s : State} {m : MethodId} {args : Array Value} {below : List Frame} {meth : Method} {c : Code} {T : State} {H : Heap} {locs : List Loc} {cells slots : Nat}
theorem vx_callVX (X : Stand p l e R s m args below meth c T locs cells slots) (hexec : p.tables.exec = Jvm.exec) {own C : String} {index : Nat} {y : MethodName} {bytes : ByteArray} {maxL : Nat} {ret : Option FieldType} {hh : List (Nat × Nat × Nat × Nat)}
    (hown : s.vm.findClass own = some m.cls) (hlink : (Cond.methodLink own index y).before args s = true) (hinst : (Cond.instanceMethod y).before args s = true) (hsel : (Cond.selects C y y).before args s = true)
    (hcode : (Cond.codeWith y bytes maxL ret hh).before args s = true) (hy : y.cls ≠ "java/lang/invoke/MethodHandle" ∧ y.cls ≠ "java/lang/invoke/VarHandle")
    {W9 : Nat} {Pre : Pt → Array Value → Prop} {Post : Pt → Array Value → Option Value → Pt → Prop} {PostX : Pt → Array Value → Addr → Pt → Prop} (hK : vx_Back l R p e below s args y 3 W9 Pre Post PostX)
    {b : Addr} {cellB : Cell} (hcell : T.heap[b]? = some cellB) (hobj : cellB.vm.isStatics = false) (hcls : s.vm.findClass C = some cellB.cls)
    {g : JFrame} (hg : g.method = m) (hsize : g.locals.size = c.maxLocals) {argsL rest : List Value} (hlen : ∀ sig, parseMethodDescriptor y.desc = some sig → argsL.length = sig.parameters.length)
    (hstack : g.stack = argsL.reverse ++ .ref b :: rest) (hW : 2 * g.monitorRoom + (rest.map fun v => v.category).sum ≤ W9) (hdg : decode c.code g.pc = .ok (.invokevirtual index, 3))
    (hpre : ∀ vm₁, s.WarmedH vm₁ → Pre ⟨T.setVm vm₁, locs, cells, slots⟩ (Value.ref b :: argsL).toArray) :
    (∃ (v : Option Value) (vm₁ : Vm) (B : Pt), s.WarmedH vm₁ ∧ Stand p l e R s m args below meth c B.U B.locs B.cells B.slots ∧ Post ⟨T.setVm vm₁, locs, cells, slots⟩ (Value.ref b :: argsL).toArray v B ∧
      ∀ target, Steps p.tables e below (B.U.setTop { g with pc := g.pc + 3, stack := v.toList ++ rest }) target → Steps p.tables e below (T.setTop g) target) ∨
    (∃ (q : Addr) (vm₁ : Vm) (B : Pt), s.WarmedH vm₁ ∧ Stand p l e R s m args below meth c B.U B.locs B.cells B.slots ∧ PostX ⟨T.setVm vm₁, locs, cells, slots⟩ (Value.ref b :: argsL).toArray q B ∧
      Steps p.tables e below (T.setTop g) ((B.U.setTop { g with stack := rest }).pushFrame (.throwing q))) := by
  obtain ⟨mk, methM, hnamed, hmethM, hstM, habM⟩ := Cond.instanceMethod_spec hinst
  obtain ⟨m8, methM', cM, hn8, hmethM', -, -, -, -, -, -, hsigM⟩ := Cond.codeWith_spec hcode
  cases Option.some.inj (hn8.symm.trans hnamed)
  cases hmethM.symm.trans hmethM'
  obtain ⟨c2, r2, m2, q1, q2, q3, q4, kP, hkP, hkPi⟩ := Cond.selects_spec hsel
  cases hcls.symm.trans q1
  cases (State.methodFound?_of_named hnamed hy).symm.trans q2
  cases hnamed.symm.trans q3
  have hselP : selectMethod e.platform s.vm cellB.cls mk = .method mk := by rw [Launch.admits_selectMethod X.admits]; exact q4
  obtain ⟨vm₁, X₁, hstep₁⟩ := X.invokevirtual hexec hown hlink hnamed hmethM hstM hkP hkPi hy (a := b) (cell := cellB) hcell
    (fun z h => by rw [h] at hobj; cases hobj) hselP hmethM habM hkP hkPi (g := g) hg (argsL := argsL) (rest := rest) (hlen _ hsigM) hstack hdg
  rcases hK m meth c ⟨T.setVm vm₁, locs, cells, slots⟩ { g with stack := rest } (.invokevirtual index) mk (Value.ref b :: argsL).toArray X₁ hg hsize hdg hW (X₁.named hnamed) (hpre vm₁ X₁.warmed) with ⟨v, B, X', hpost, hsteps⟩ | ⟨q, B, X', hpost, hsteps⟩
  · exact Or.inl ⟨v, vm₁, B, X₁.warmed, X', hpost, fun target h => hstep₁ _ fun acts => by rw [doInvoke_state]; exact hsteps.trans h⟩
  · exact Or.inr ⟨q, vm₁, B, X₁.warmed, X', hpost, hstep₁ _ fun acts => by rw [doInvoke_state]; exact hsteps⟩
theorem vx_callSX (X : Stand p l e R s m args below meth c T locs cells slots) (hexec : p.tables.exec = Jvm.exec) {own : String} {index : Nat} {y : MethodName} {bytes : ByteArray} {maxL : Nat} {ret : Option FieldType} {hh : List (Nat × Nat × Nat × Nat)}
    (hown : s.vm.findClass own = some m.cls) (hlink : (Cond.methodLink own index y).before args s = true) (hstat : (Cond.static y).before args s = true) (hinit : (Cond.initialized y.cls).before args s = true)
    (hcode : (Cond.codeWith y bytes maxL ret hh).before args s = true) (hy : y.cls ≠ "java/lang/invoke/MethodHandle" ∧ y.cls ≠ "java/lang/invoke/VarHandle")
    {W9 : Nat} {Pre : Pt → Array Value → Prop} {Post : Pt → Array Value → Option Value → Pt → Prop} {PostX : Pt → Array Value → Addr → Pt → Prop} (hK : vx_Back l R p e below s args y 3 W9 Pre Post PostX)
    {g : JFrame} (hg : g.method = m) (hsize : g.locals.size = c.maxLocals) {argsL rest : List Value} (hlen : ∀ sig, parseMethodDescriptor y.desc = some sig → argsL.length = sig.parameters.length)
    (hstack : g.stack = argsL.reverse ++ rest) (hW : 2 * g.monitorRoom + (rest.map fun v => v.category).sum ≤ W9) (hdg : decode c.code g.pc = .ok (.invokestatic index, 3))
    (hpre : ∀ vm₁, s.WarmedH vm₁ → Pre ⟨T.setVm vm₁, locs, cells, slots⟩ argsL.toArray) :
    (∃ (v : Option Value) (vm₁ : Vm) (B : Pt), s.WarmedH vm₁ ∧ Stand p l e R s m args below meth c B.U B.locs B.cells B.slots ∧ Post ⟨T.setVm vm₁, locs, cells, slots⟩ argsL.toArray v B ∧
      ∀ target, Steps p.tables e below (B.U.setTop { g with pc := g.pc + 3, stack := v.toList ++ rest }) target → Steps p.tables e below (T.setTop g) target) ∨
    (∃ (q : Addr) (vm₁ : Vm) (B : Pt), s.WarmedH vm₁ ∧ Stand p l e R s m args below meth c B.U B.locs B.cells B.slots ∧ PostX ⟨T.setVm vm₁, locs, cells, slots⟩ argsL.toArray q B ∧
      Steps p.tables e below (T.setTop g) ((B.U.setTop { g with stack := rest }).pushFrame (.throwing q))) := by
  obtain ⟨mk, methM, cM, hnamed, hmethM, -, -, -, -, -, -, hsigM⟩ := Cond.codeWith_spec hcode
  have hstatic : methM.isStatic = true := Cond.static_spec hnamed hmethM hstat
  obtain ⟨kP, hkP, -⟩ := className_of_methodNamed hnamed
  have hinitP : kP.init = .initialized := Cond.initialized_spec (findClass_of_methodNamed hnamed) hkP hinit
  obtain ⟨vm₁, X₁, hstep₁⟩ := X.invokestatic hexec hown hlink hnamed hmethM hstatic hkP hinitP hy (g := g) hg (argsL := argsL) (rest := rest) (hlen _ hsigM) hstack hdg
  rcases hK m meth c ⟨T.setVm vm₁, locs, cells, slots⟩ { g with stack := rest } (.invokestatic index) mk argsL.toArray X₁ hg hsize hdg hW (X₁.named hnamed) (hpre vm₁ X₁.warmed) with ⟨v, B, X', hpost, hsteps⟩ | ⟨q, B, X', hpost, hsteps⟩
  · exact Or.inl ⟨v, vm₁, B, X₁.warmed, X', hpost, fun target h => hstep₁ _ fun acts => by rw [doInvoke_state]; exact hsteps.trans h⟩
  · exact Or.inr ⟨q, vm₁, B, X₁.warmed, X', hpost, hstep₁ _ fun acts => by rw [doInvoke_state]; exact hsteps⟩
theorem vx_callVW (X : Stand p l e R s m args below meth c T locs cells slots) (hexec : p.tables.exec = Jvm.exec) {own C : String} {index : Nat} {y : MethodName} {bytes : ByteArray} {maxL : Nat} {ret : Option FieldType} {hh : List (Nat × Nat × Nat × Nat)}
    (hown : s.vm.findClass own = some m.cls) (hlink : (Cond.methodLink own index y).before args s = true) (hinst : (Cond.instanceMethod y).before args s = true) (hsel : (Cond.selects C y y).before args s = true)
    (hcode : (Cond.codeWith y bytes maxL ret hh).before args s = true) (hy : y.cls ≠ "java/lang/invoke/MethodHandle" ∧ y.cls ≠ "java/lang/invoke/VarHandle")
    {W9 : Nat} {Pre : Pt → Array Value → Prop} {Post : Pt → Array Value → Option Value → Pt → Prop} (hK : Back l R p e below s args y 3 W9 Pre Post)
    {b : Addr} {cellB : Cell} (hcell : T.heap[b]? = some cellB) (hobj : cellB.vm.isStatics = false) (hcls : s.vm.findClass C = some cellB.cls)
    {g : JFrame} (hg : g.method = m) (hsize : g.locals.size = c.maxLocals) {argsL rest : List Value} (hlen : ∀ sig, parseMethodDescriptor y.desc = some sig → argsL.length = sig.parameters.length)
    (hstack : g.stack = argsL.reverse ++ .ref b :: rest) (hW : 2 * g.monitorRoom + (rest.map fun v => v.category).sum ≤ W9) (hdg : decode c.code g.pc = .ok (.invokevirtual index, 3))
    (hpre : ∀ vm₁, s.WarmedH vm₁ → Pre ⟨T.setVm vm₁, locs, cells, slots⟩ (Value.ref b :: argsL).toArray) :
    ∃ (v : Option Value) (vm₁ : Vm) (B : Pt), s.WarmedH vm₁ ∧ Stand p l e R s m args below meth c B.U B.locs B.cells B.slots ∧ Post ⟨T.setVm vm₁, locs, cells, slots⟩ (Value.ref b :: argsL).toArray v B ∧
      ∀ target, Steps p.tables e below (B.U.setTop { g with pc := g.pc + 3, stack := v.toList ++ rest }) target → Steps p.tables e below (T.setTop g) target := by
  obtain ⟨mk, methM, hnamed, hmethM, hstM, habM⟩ := Cond.instanceMethod_spec hinst
  obtain ⟨m8, methM', cM, hn8, hmethM', -, -, -, -, -, -, hsigM⟩ := Cond.codeWith_spec hcode
  cases Option.some.inj (hn8.symm.trans hnamed)
  cases hmethM.symm.trans hmethM'
  obtain ⟨c2, r2, m2, q1, q2, q3, q4, kP, hkP, hkPi⟩ := Cond.selects_spec hsel
  cases hcls.symm.trans q1
  cases (State.methodFound?_of_named hnamed hy).symm.trans q2
  cases hnamed.symm.trans q3
  have hselP : selectMethod e.platform s.vm cellB.cls mk = .method mk := by rw [Launch.admits_selectMethod X.admits]; exact q4
  obtain ⟨vm₁, X₁, hstep₁⟩ := X.invokevirtual hexec hown hlink hnamed hmethM hstM hkP hkPi hy (a := b) (cell := cellB) hcell
    (fun z h => by rw [h] at hobj; cases hobj) hselP hmethM habM hkP hkPi (g := g) hg (argsL := argsL) (rest := rest) (hlen _ hsigM) hstack hdg
  obtain ⟨v, B, X', hpost, hsteps⟩ := hK m meth c ⟨T.setVm vm₁, locs, cells, slots⟩ { g with stack := rest } (.invokevirtual index) mk (Value.ref b :: argsL).toArray X₁ hg hsize hdg hW (X₁.named hnamed) (hpre vm₁ X₁.warmed)
  exact ⟨v, vm₁, B, X₁.warmed, X', hpost, fun target h => hstep₁ _ fun acts => by rw [doInvoke_state]; exact hsteps.trans h⟩
abbrev vx_CVW (R : Room) (s : State) (args : Array Value) (own C : String) (index : Nat) (y : MethodName) (bytes : ByteArray) (maxL : Nat) (ret : Option FieldType) (hh : List (Nat × Nat × Nat × Nat)) (ws : List Cond) (rm : Room) (mc ms n : Nat) : Prop :=
  (rm.cells = mc ∧ rm.slots = ms ∧ rm.frames + 1 ≤ R.frames ∧ 8 + (maxL + 11) + rm.locals ≤ R.locals ∧ (∀ w ∈ ws, ∀ (a' : Array Value) (U : State), s.WarmedH U.vm → w.before a' U = true) ∧ Cond.codeWith y bytes maxL ret hh ∈ ws) ∧
  (Cond.codeWith y bytes maxL ret hh).before args s = true ∧ (Cond.initialized y.cls).before args s = true ∧ (y.cls ≠ "java/lang/invoke/MethodHandle" ∧ y.cls ≠ "java/lang/invoke/VarHandle") ∧
  (∀ sig, parseMethodDescriptor y.desc = some sig → n = sig.parameters.length) ∧ (Cond.methodLink own index y).before args s = true ∧ (Cond.instanceMethod y).before args s = true ∧ (Cond.selects C y y).before args s = true
theorem vx_cwVW {own C : String} {index maxL mc ms : Nat} {y : MethodName} {bytes : ByteArray} {ret : Option FieldType} {hh : List (Nat × Nat × Nat × Nat)} {Ts ws ws' : List Cond} {rm : Room} (n : Nat) (ht : ∀ w ∈ Ts, w.before args s = true) (hT : GoodIn Ts (wsV own index C y ws)) (hw : ws = Cond.codeWith y bytes maxL ret hh :: ws') (hrc : rm.cells = mc) (hrs : rm.slots = ms)
    (hd : y.cls = C ∧ y.cls ≠ "java/lang/invoke/MethodHandle" ∧ y.cls ≠ "java/lang/invoke/VarHandle" ∧ (parseMethodDescriptor y.desc).map (fun d => d.parameters.length) = some n) (hR : rm.frames + 1 ≤ R.frames ∧ 8 + (maxL + 11) + rm.locals ≤ R.locals) :
    vx_CVW R s args own C index y bytes maxL ret hh ws rm mc ms n := by
  obtain ⟨hC, hd⟩ := hd
  subst hC
  have ok : ∀ w ∈ wsV own index y.cls y ws, w.before args s = true := fun w h => ht w (hT w h).1
  have hG : GoodIn Ts ws := fun w h => hT w (by unfold wsV; exact List.mem_append_right _ h)
  have hc : Cond.codeWith y bytes maxL ret hh ∈ ws := by rw [hw]; exact List.mem_cons_self
  refine ⟨⟨hrc, hrs, hR.1, hR.2, pay_in ht hG, hc⟩, ht _ (hG _ hc).1, ok _ (by simp [wsV]), ⟨hd.1, hd.2.1⟩, fun sig h => ?_, ok _ (by simp [wsV]), ok _ (by simp [wsV]), ok _ (by simp [wsV])⟩
  have h2 := hd.2.2
  rw [h] at h2
  exact (Option.some.inj h2).symm
theorem vx_runVW {y : MethodName} {bytes cc : ByteArray} {maxL nL mc ms n index : Nat} {ret : Option FieldType} {hh : List (Nat × Nat × Nat × Nat)} {ws : List Cond} {rm : Room} {Pc : Array Value → State → Prop} {Qc : Array Value → State → Outcome → State → Prop} {free : Addr → Prop} {Ts : List Cond} {own C : String} {b : Addr} {As rest : List Value} {g : JFrame}
    (S : CallFix p m c cc nL s args Ts own) (hM : Met l y ws rm Pc Qc mc ms free) (cw : vx_CVW R s args own C index y bytes maxL ret hh ws rm mc ms n) (hp : PreV s H C b Pc As)
    (hg : g.method = m) (hn : As.length = n) (hsize : g.locals.size = nL) (hstack : g.stack = As.reverse ++ .ref b :: rest) (hW : 2 * g.monitorRoom + (rest.map fun v => v.category).sum ≤ 8) (hdg : decode cc g.pc = .ok (.invokevirtual index, 3)) (hf : cells + mc ≤ R.cells ∧ slots + ms ≤ R.slots) :
    va_Run p l e R s m args below meth c H locs cells slots mc ms g rest (Qc (Value.ref b :: As).toArray) free := by
  obtain ⟨⟨hrc, hrs, hfr, hlo, hws, hcw⟩, hcode, hini, hy, hlen, hl, hin, hse⟩ := cw
  have hK : Back l R p e below s args y 3 8 (PreOf R mc ms Pc) (PostOf Qc mc ms free) := va_backW (hh := hh) (bytes := bytes) (maxL := maxL) (ret := ret) hM hp.1 hrc hrs hfr hlo hws hcw (fun a' U hW => word_at hW (Or.inl (by first | rfl | simp [Cond.onTables, Cond.keeps, Cond.steady])) hini)
  obtain ⟨hx, hb, hml, ho, -⟩ := S
  obtain ⟨-, ⟨cellB, hcB, hoB, hclB⟩, hPc⟩ := hp
  intro T hT X
  obtain ⟨v, vm₁, ⟨U', l2, c2, s2⟩, hW₁, X', ⟨g', mk, t, L, e1, e2, hq, h1, hL, h2, h3⟩, st⟩ := vx_callVW X hx (C := C) (hh := hh) (bytes := bytes) (maxL := maxL) (ret := ret) ho hl hin hse hcode hy hK (by rw [hT]; exact hcB) hoB hclB hg (hsize.trans hml.symm) (argsL := As) (rest := rest) (fun sig h => hn.trans (hlen sig h)) hstack hW (by rw [hb]; exact hdg)
    (fun vm₁ hW₁ => ⟨hf.1, hf.2, hPc (T.setVm vm₁) hT hW₁⟩)
  dsimp only [Pt.U, Pt.locs, Pt.cells, Pt.slots] at X' e1 e2 h1 h2 h3 st
  subst h1; subst h2; subst h3
  exact ⟨v, (T.setVm vm₁).calling g' mk (Value.ref b :: As).toArray, t, U', L, hT, X', hL, e1, e2, hq, st⟩
section
variable {y : MethodName} {bytes cc : ByteArray} {maxL nL mc ms n index : Nat} {ret : Option FieldType} {ws : List Cond} {rm : Room} {Pc : Array Value → State → Prop} {Qc : Array Value → State → Outcome → State → Prop} {XC : String → State → State → Prop} {free : Addr → Prop} {Ts : List Cond} {own C : String} {b : Addr} {As rest : List Value} {g : JFrame}
theorem vx_runVX {hh : List (Nat × Nat × Nat × Nat)} (S : CallFix p m c cc nL s args Ts own) (hM : vx_Met l y ws rm Pc Qc XC mc ms free) (cw : vx_CVW R s args own C index y bytes maxL ret hh ws rm mc ms n) (hp : PreV s H C b Pc As)
    (hg : g.method = m) (hn : As.length = n) (hsize : g.locals.size = nL) (hstack : g.stack = As.reverse ++ .ref b :: rest) (hW : 2 * g.monitorRoom + (rest.map fun v => v.category).sum ≤ 8) (hdg : decode cc g.pc = .ok (.invokevirtual index, 3)) (hf : cells + mc ≤ R.cells ∧ slots + ms ≤ R.slots) :
    vx_Run p l e R s m args below meth c H locs cells slots mc ms g rest (Qc (Value.ref b :: As).toArray) XC free := by
  obtain ⟨⟨hrc, hrs, hfr, hlo, hws, hcw⟩, hcode, hini, hy, hlen, hl, hin, hse⟩ := cw
  have hK : vx_Back l R p e below s args y 3 8 (PreOf R mc ms Pc) (PostOf Qc mc ms free) (vx_Post XC mc ms free) := vx_backW (hh := hh) (bytes := bytes) (maxL := maxL) (ret := ret) hM hp.1 hrc hrs hfr hlo hws hcw (fun a' U hW => word_at hW (Or.inl (by first | rfl | simp [Cond.onTables, Cond.keeps, Cond.steady])) hini)
  obtain ⟨hx, hb, hml, ho, -⟩ := S
  obtain ⟨-, ⟨cellB, hcB, hoB, hclB⟩, hPc⟩ := hp
  intro T hT X
  rcases vx_callVX X hx (C := C) (hh := hh) (bytes := bytes) (maxL := maxL) (ret := ret) ho hl hin hse hcode hy hK (by rw [hT]; exact hcB) hoB hclB hg (hsize.trans hml.symm) (argsL := As) (rest := rest) (fun sig h => hn.trans (hlen sig h)) hstack hW (by rw [hb]; exact hdg)
    (fun vm₁ hW₁ => ⟨hf.1, hf.2, hPc (T.setVm vm₁) hT hW₁⟩) with ⟨v, vm₁, ⟨U', l2, c2, s2⟩, hW₁, X', ⟨g', mk, t, L, e1, e2, hq, h1, hL, h2, h3⟩, st⟩ | ⟨q, vm₁, ⟨U', l2, c2, s2⟩, hW₁, X', ⟨g', mk, t, L, E, ce, e1, e2, hq, hce, hcv, hcl, h1, hL, h2, h3⟩, st⟩
  · dsimp only [Pt.U, Pt.locs, Pt.cells, Pt.slots] at X' e1 e2 h1 h2 h3 st
    subst h1; subst h2; subst h3
    exact Or.inl ⟨v, (T.setVm vm₁).calling g' mk (Value.ref b :: As).toArray, t, U', L, hT, X', hL, e1, e2, hq, st⟩
  · dsimp only [Pt.U, Pt.locs, Pt.cells, Pt.slots] at X' e1 e2 h1 h2 h3 st hcl
    subst h1; subst h2; subst h3
    exact Or.inr ⟨q, (T.setVm vm₁).calling g' mk (Value.ref b :: As).toArray, t, U', L, E, ce, hT, X', hL, e1, e2, hq, hce, hcv, vx_cls hW₁ hcl, st⟩
theorem vx_runSX {hh : List (Nat × Nat × Nat × Nat)} (S : CallFix p m c cc nL s args Ts own) (hM : vx_Met l y ws rm Pc Qc XC mc ms free) (cw : vx_CSW R s args own index y bytes maxL ret hh ws rm mc ms n) (hp : PreS s H Pc As)
    (hg : g.method = m) (hn : As.length = n) (hsize : g.locals.size = nL) (hstack : g.stack = As.reverse ++ rest) (hW : 2 * g.monitorRoom + (rest.map fun v => v.category).sum ≤ 8) (hdg : decode cc g.pc = .ok (.invokestatic index, 3)) (hf : cells + mc ≤ R.cells ∧ slots + ms ≤ R.slots) :
    vx_Run p l e R s m args below meth c H locs cells slots mc ms g rest (Qc As.toArray) XC free := by
  obtain ⟨⟨hrc, hrs, hfr, hlo, hws, hcw⟩, hcode, hini, hy, hlen, hl, hstt⟩ := cw
  have hK : vx_Back l R p e below s args y 3 8 (PreOf R mc ms Pc) (PostOf Qc mc ms free) (vx_Post XC mc ms free) := vx_backW (hh := hh) (bytes := bytes) (maxL := maxL) (ret := ret) hM hp.1 hrc hrs hfr hlo hws hcw (fun a' U hW => word_at hW (Or.inl (by first | rfl | simp [Cond.onTables, Cond.keeps, Cond.steady])) hini)
  obtain ⟨hx, hb, hml, ho, -⟩ := S
  intro T hT X
  rcases vx_callSX X hx (hh := hh) (bytes := bytes) (maxL := maxL) (ret := ret) ho hl hstt hini hcode hy hK hg (hsize.trans hml.symm) (argsL := As) (rest := rest) (fun sig h => hn.trans (hlen sig h)) hstack hW (by rw [hb]; exact hdg)
    (fun vm₁ hW₁ => ⟨hf.1, hf.2, hp.2 (T.setVm vm₁) hT hW₁⟩) with ⟨v, vm₁, ⟨U', l2, c2, s2⟩, hW₁, X', ⟨g', mk, t, L, e1, e2, hq, h1, hL, h2, h3⟩, st⟩ | ⟨q, vm₁, ⟨U', l2, c2, s2⟩, hW₁, X', ⟨g', mk, t, L, E, ce, e1, e2, hq, hce, hcv, hcl, h1, hL, h2, h3⟩, st⟩
  · dsimp only [Pt.U, Pt.locs, Pt.cells, Pt.slots] at X' e1 e2 h1 h2 h3 st
    subst h1; subst h2; subst h3
    exact Or.inl ⟨v, (T.setVm vm₁).calling g' mk As.toArray, t, U', L, hT, X', hL, e1, e2, hq, st⟩
  · dsimp only [Pt.U, Pt.locs, Pt.cells, Pt.slots] at X' e1 e2 h1 h2 h3 st hcl
    subst h1; subst h2; subst h3
    exact Or.inr ⟨q, (T.setVm vm₁).calling g' mk As.toArray, t, U', L, E, ce, hT, X', hL, e1, e2, hq, hce, hcv, vx_cls hW₁ hcl, st⟩
end
end VXH
theorem vx_ofWH {l : Launch} {y : MethodName} {ws ws' : List Cond} {rm : Room} {Pc : Array Value → State → Prop} {Qc : Array Value → State → Outcome → State → Prop} {XC : String → State → State → Prop} {mc ms : Nat} {free : Addr → Prop} {cc : ByteArray} {maxL : Nat} {ret : Option FieldType} {hh : List (Nat × Nat × Nat × Nat)}
    (hy : plainName y.cls = true) (hw : ws = Cond.codeWith y cc maxL ret hh :: ws')
    (body : ∀ p e s m args below meth c s₁, BodyLoose p l y (headSpec ws rm) cc maxL ret e s m args below meth c s₁ → c.maxLocals = maxL → Pc args s →
      W p l e (headSpec ws rm).room s m args below meth c s.heap [] 0 0 (vx_MQ below Qc XC args s mc ms free) (entryFrame m args maxL)) : vx_Met l y ws rm Pc Qc XC mc ms free := by
  refine MetFree.of_bodyS (code := cc) (maxLocals := maxL) (ret := ret) hy ?_ ?_
  · intro args s m h hn
    obtain ⟨m9, meth, c, hn9, h1, h2, h3, h4, -, h5, h6, -⟩ := Cond.codeWith_spec (atoms_spec (ws := ws) h _ (by rw [hw]; exact List.mem_cons_self))
    cases hn.symm.trans hn9
    exact ⟨meth, c, h1, h2, h3, h4, h5, h6⟩
  · intro p e s m args below meth c s₁ B hml hP _
    have hh0 : s₁.heap = s.heap := by rw [B.state]; rfl
    obtain ⟨t, a1, o, b1, b2, b3⟩ := body p e s m args below meth c s₁ B hml hP s₁ hh0 (Stand.of_body B)
    exact ⟨t, o, a1, b1, b2, b3⟩
/-! ===== END ===== -/
end
section
/-! ===== BEGIN printed: names, fields, word lists, decode rows ===== -/
def RX0 : String := "NightRiders$Chain"
def TX0 : u_T := fun k => match k with
  | 0 => ("NightRiders$Chain", "riders", "[I", true)
  | 1 => ("NightRiders$Chain", "froms", "[I", true)
  | 2 => ("NightRiders$Chain", "tos", "[I", true)
  | 3 => ("NightRiders$Chain", "starts", "[I", true)
  | 4 => ("NightRiders$Chain", "ends", "[I", true)
  | 5 => ("NightRiders$Chain", "length", "I", false)
  | 6 => ("NightRiders$Chain", "kind", "I", false)
  | _ => ("NightRiders$Chain", "goal", "I", false)
def tyX0 : Nat → FieldType := fun k => match k with
  | 0 => .array .int
  | 1 => .array .int
  | 2 => .array .int
  | 3 => .array .int
  | 4 => .array .int
  | 5 => .int
  | 6 => .int
  | _ => .int
abbrev wsX00 : List Cond := u_ws RX0 TX0 8
theorem nmX0 : ∀ a, a < 8 → ∀ b, b < 8 → a ≠ b → (TX0 a).2.1 ≠ (TX0 b).2.1 := by decide +kernel
theorem tyX0_ok : ∀ k, k < 8 → parseFieldDescriptor (TX0 k).2.2.1 = some (tyX0 k) := by decide +kernel
abbrev cX0_init : ByteArray := prog_2_method_1_code
def yX0_init : MethodName := ⟨RX0, "<init>", "()V"⟩
abbrev cX0_open : ByteArray := prog_2_method_2_code
def yX0_open : MethodName := ⟨RX0, "open", "(IIII)V"⟩
abbrev cX0_close : ByteArray := prog_2_method_3_code
def yX0_close : MethodName := ⟨RX0, "close", "(III)V"⟩
abbrev cX0_isRiddenBy : ByteArray := prog_2_method_4_code
def yX0_isRiddenBy : MethodName := ⟨RX0, "isRiddenBy", "(II)Z"⟩
abbrev cX0_comesFrom : ByteArray := prog_2_method_5_code
def yX0_comesFrom : MethodName := ⟨RX0, "comesFrom", "(II)Z"⟩
abbrev cX0_fromOf : ByteArray := prog_2_method_6_code
def yX0_fromOf : MethodName := ⟨RX0, "fromOf", "(I)I"⟩
abbrev cX0_lastEnd : ByteArray := prog_2_method_7_code
def yX0_lastEnd : MethodName := ⟨RX0, "lastEnd", "()I"⟩
abbrev cX0_handsOn : ByteArray := prog_2_method_8_code
def yX0_handsOn : MethodName := ⟨RX0, "handsOn", "(I)I"⟩
abbrev cX0_take : ByteArray := prog_2_method_9_code
def yX0_take : MethodName := ⟨RX0, "take", "(LNightRiders$Chain;)V"⟩
def RX1 : String := "NightRiders$Leg"
def TX1 : u_T := fun k => match k with
  | 0 => ("NightRiders$Leg", "rider", "I", true)
  | 1 => ("NightRiders$Leg", "from", "I", true)
  | 2 => ("NightRiders$Leg", "starts", "I", true)
  | 3 => ("NightRiders$Leg", "atAhead", "I", true)
  | 4 => ("NightRiders$Leg", "freeAhead", "I", true)
  | 5 => ("NightRiders$Leg", "to", "I", false)
  | 6 => ("NightRiders$Leg", "ends", "I", false)
  | _ => ("NightRiders$Leg", "failed", "Z", false)
def tyX1 : Nat → FieldType := fun k => match k with
  | 0 => .int
  | 1 => .int
  | 2 => .int
  | 3 => .int
  | 4 => .int
  | 5 => .int
  | 6 => .int
  | _ => .boolean
abbrev wsX10 : List Cond := u_ws RX1 TX1 8
theorem nmX1 : ∀ a, a < 8 → ∀ b, b < 8 → a ≠ b → (TX1 a).2.1 ≠ (TX1 b).2.1 := by decide +kernel
theorem tyX1_ok : ∀ k, k < 8 → parseFieldDescriptor (TX1 k).2.2.1 = some (tyX1 k) := by decide +kernel
abbrev cX1_init : ByteArray := prog_3_method_1_code
def yX1_init : MethodName := ⟨RX1, "<init>", "(IIIIIII)V"⟩
def RX2 : String := "NightRiders$Request"
def TX2 : u_T := fun k => match k with
  | 0 => ("NightRiders$Request", "kind", "I", true)
  | 1 => ("NightRiders$Request", "from", "I", true)
  | 2 => ("NightRiders$Request", "to", "I", true)
  | 3 => ("NightRiders$Request", "ready", "I", true)
  | 4 => ("NightRiders$Request", "cold", "I", true)
  | 5 => ("NightRiders$Request", "legs", "[LNightRiders$Leg;", true)
  | 6 => ("NightRiders$Request", "legCount", "I", false)
  | 7 => ("NightRiders$Request", "sent", "Z", false)
  | _ => ("NightRiders$Request", "lost", "Z", false)
def tyX2 : Nat → FieldType := fun k => match k with
  | 0 => .int
  | 1 => .int
  | 2 => .int
  | 3 => .int
  | 4 => .int
  | 5 => .array (.object "NightRiders$Leg")
  | 6 => .int
  | 7 => .boolean
  | _ => .boolean
abbrev wsX20 : List Cond := u_ws RX2 TX2 9
theorem nmX2 : ∀ a, a < 9 → ∀ b, b < 9 → a ≠ b → (TX2 a).2.1 ≠ (TX2 b).2.1 := by decide +kernel
theorem tyX2_ok : ∀ k, k < 9 → parseFieldDescriptor (TX2 k).2.2.1 = some (tyX2 k) := by decide +kernel
abbrev cX2_init : ByteArray := prog_4_method_1_code
def yX2_init : MethodName := ⟨RX2, "<init>", "(IIIII)V"⟩
abbrev cX2_legAt : ByteArray := prog_4_method_2_code
def yX2_legAt : MethodName := ⟨RX2, "legAt", "(I)LNightRiders$Leg;"⟩
abbrev cX2_addLeg : ByteArray := prog_4_method_3_code
def yX2_addLeg : MethodName := ⟨RX2, "addLeg", "(LNightRiders$Leg;)V"⟩
abbrev cX2_lastEnd : ByteArray := prog_4_method_4_code
def yX2_lastEnd : MethodName := ⟨RX2, "lastEnd", "()I"⟩
abbrev cX2_cameWarm : ByteArray := prog_4_method_5_code
def yX2_cameWarm : MethodName := ⟨RX2, "cameWarm", "()Z"⟩
def RX3 : String := "NightRiders$Rider"
def TX3 : u_T := fun k => match k with
  | 0 => ("NightRiders$Rider", "home", "I", true)
  | 1 => ("NightRiders$Rider", "area", "I", true)
  | 2 => ("NightRiders$Rider", "dutyFrom", "I", true)
  | 3 => ("NightRiders$Rider", "dutyTo", "I", true)
  | 4 => ("NightRiders$Rider", "kinds", "I", true)
  | 5 => ("NightRiders$Rider", "ways", "[I", true)
  | 6 => ("NightRiders$Rider", "at", "I", false)
  | 7 => ("NightRiders$Rider", "free", "I", false)
  | 8 => ("NightRiders$Rider", "legsRidden", "I", false)
  | 9 => ("NightRiders$Rider", "boxMinutes", "I", false)
  | _ => ("NightRiders$Rider", "failed", "Z", false)
def tyX3 : Nat → FieldType := fun k => match k with
  | 0 => .int
  | 1 => .int
  | 2 => .int
  | 3 => .int
  | 4 => .int
  | 5 => .array .int
  | 6 => .int
  | 7 => .int
  | 8 => .int
  | 9 => .int
  | _ => .boolean
abbrev wsX30 : List Cond := u_ws RX3 TX3 11
theorem nmX3 : ∀ a, a < 11 → ∀ b, b < 11 → a ≠ b → (TX3 a).2.1 ≠ (TX3 b).2.1 := by decide +kernel
theorem tyX3_ok : ∀ k, k < 11 → parseFieldDescriptor (TX3 k).2.2.1 = some (tyX3 k) := by decide +kernel
abbrev cX3_init : ByteArray := prog_5_method_1_code
def yX3_init : MethodName := ⟨RX3, "<init>", "(IIIII)V"⟩
abbrev cX3_carries : ByteArray := prog_5_method_2_code
def yX3_carries : MethodName := ⟨RX3, "carries", "(I)Z"⟩
abbrev cX3_isOnDuty : ByteArray := prog_5_method_3_code
def yX3_isOnDuty : MethodName := ⟨RX3, "isOnDuty", "(I)Z"⟩
abbrev cX3_shortenWays : ByteArray := prog_5_method_4_code
def yX3_shortenWays : MethodName := ⟨RX3, "shortenWays", "()V"⟩
def RX4 : String := "NightRiders"
def TX4 : u_T := fun k => match k with
  | 0 => ("NightRiders", "roads", "[I", true)
  | 1 => ("NightRiders", "riders", "[LNightRiders$Rider;", true)
  | 2 => ("NightRiders", "requests", "[LNightRiders$Request;", true)
  | 3 => ("NightRiders", "trial", "LNightRiders$Chain;", true)
  | 4 => ("NightRiders", "chosen", "LNightRiders$Chain;", true)
  | 5 => ("NightRiders", "placeCount", "I", false)
  | 6 => ("NightRiders", "riderCount", "I", false)
  | 7 => ("NightRiders", "requestCount", "I", false)
  | 8 => ("NightRiders", "resting", "I", false)
  | _ => ("NightRiders", "lastSent", "I", false)
def tyX4 : Nat → FieldType := fun k => match k with
  | 0 => .array .int
  | 1 => .array (.object "NightRiders$Rider")
  | 2 => .array (.object "NightRiders$Request")
  | 3 => .object "NightRiders$Chain"
  | 4 => .object "NightRiders$Chain"
  | 5 => .int
  | 6 => .int
  | 7 => .int
  | 8 => .int
  | _ => .int
abbrev wsX40 : List Cond := u_ws RX4 TX4 10
theorem nmX4 : ∀ a, a < 10 → ∀ b, b < 10 → a ≠ b → (TX4 a).2.1 ≠ (TX4 b).2.1 := by decide +kernel
theorem tyX4_ok : ∀ k, k < 10 → parseFieldDescriptor (TX4 k).2.2.1 = some (tyX4 k) := by decide +kernel
abbrev cX4_init : ByteArray := prog_1_method_1_code
def yX4_init : MethodName := ⟨RX4, "<init>", "()V"⟩
abbrev cX4_place : ByteArray := prog_1_method_2_code
def yX4_place : MethodName := ⟨RX4, "place", "()I"⟩
abbrev cX4_road : ByteArray := prog_1_method_3_code
def yX4_road : MethodName := ⟨RX4, "road", "(III)Z"⟩
abbrev cX4_rider : ByteArray := prog_1_method_4_code
def yX4_rider : MethodName := ⟨RX4, "rider", "(IIIII)I"⟩
abbrev cX4_rest : ByteArray := prog_1_method_5_code
def yX4_rest : MethodName := ⟨RX4, "rest", "(I)I"⟩
abbrev cX4_count : ByteArray := prog_1_method_6_code
def yX4_count : MethodName := ⟨RX4, "count", "(I)I"⟩
abbrev cX4_way : ByteArray := prog_1_method_7_code
def yX4_way : MethodName := ⟨RX4, "way", "(III)I"⟩
abbrev cX4_of : ByteArray := prog_1_method_8_code
def yX4_of : MethodName := ⟨RX4, "of", "(II)I"⟩
abbrev cX4_duty : ByteArray := prog_1_method_9_code
def yX4_duty : MethodName := ⟨RX4, "duty", "(II)I"⟩
abbrev cX4_bare : ByteArray := prog_1_method_10_code
def yX4_bare : MethodName := ⟨RX4, "bare", "(II)I"⟩
abbrev cX4_call : ByteArray := prog_1_method_11_code
def yX4_call : MethodName := ⟨RX4, "call", "(IIIII)I"⟩
abbrev cX4_best : ByteArray := prog_1_method_12_code
def yX4_best : MethodName := ⟨RX4, "best", "(I)I"⟩
abbrev cX4_send : ByteArray := prog_1_method_13_code
def yX4_send : MethodName := ⟨RX4, "send", "(I)I"⟩
abbrev cX4_told : ByteArray := prog_1_method_14_code
def yX4_told : MethodName := ⟨RX4, "told", "(II)I"⟩
abbrev cX4_leg : ByteArray := prog_1_method_15_code
def yX4_leg : MethodName := ⟨RX4, "leg", "(III)I"⟩
abbrev cX4_hand : ByteArray := prog_1_method_16_code
def yX4_hand : MethodName := ⟨RX4, "hand", "(II)I"⟩
abbrev cX4_fail : ByteArray := prog_1_method_17_code
def yX4_fail : MethodName := ⟨RX4, "fail", "(III)I"⟩
abbrev cX4_next : ByteArray := prog_1_method_18_code
def yX4_next : MethodName := ⟨RX4, "next", "(II)I"⟩
abbrev cX4_isMinute : ByteArray := prog_1_method_19_code
def yX4_isMinute : MethodName := ⟨RX4, "isMinute", "(I)Z"⟩
abbrev cX4_isKind : ByteArray := prog_1_method_20_code
def yX4_isKind : MethodName := ⟨RX4, "isKind", "(I)Z"⟩
abbrev cX4_isPlace : ByteArray := prog_1_method_21_code
def yX4_isPlace : MethodName := ⟨RX4, "isPlace", "(I)Z"⟩
abbrev cX4_areBits : ByteArray := prog_1_method_22_code
def yX4_areBits : MethodName := ⟨RX4, "areBits", "(II)Z"⟩
abbrev cX4_hasBit : ByteArray := prog_1_method_23_code
def yX4_hasBit : MethodName := ⟨RX4, "hasBit", "(II)Z"⟩
abbrev cX4_riderAt : ByteArray := prog_1_method_24_code
def yX4_riderAt : MethodName := ⟨RX4, "riderAt", "(I)LNightRiders$Rider;"⟩
abbrev cX4_requestAt : ByteArray := prog_1_method_25_code
def yX4_requestAt : MethodName := ⟨RX4, "requestAt", "(I)LNightRiders$Request;"⟩
abbrev cX4_wayOf : ByteArray := prog_1_method_26_code
def yX4_wayOf : MethodName := ⟨RX4, "wayOf", "(LNightRiders$Rider;II)I"⟩
abbrev cX4_settleWays : ByteArray := prog_1_method_27_code
def yX4_settleWays : MethodName := ⟨RX4, "settleWays", "(LNightRiders$Rider;)V"⟩
abbrev cX4_roadWithin : ByteArray := prog_1_method_28_code
def yX4_roadWithin : MethodName := ⟨RX4, "roadWithin", "(III)I"⟩
abbrev cX4_thereFrom : ByteArray := prog_1_method_29_code
def yX4_thereFrom : MethodName := ⟨RX4, "thereFrom", "(LNightRiders$Rider;I)I"⟩
abbrev cX4_countRequests : ByteArray := prog_1_method_30_code
def yX4_countRequests : MethodName := ⟨RX4, "countRequests", "(I)I"⟩
abbrev cX4_isCounted : ByteArray := prog_1_method_31_code
def yX4_isCounted : MethodName := ⟨RX4, "isCounted", "(LNightRiders$Request;I)Z"⟩
abbrev cX4_lastOnDuty : ByteArray := prog_1_method_32_code
def yX4_lastOnDuty : MethodName := ⟨RX4, "lastOnDuty", "(II)I"⟩
abbrev cX4_findChain : ByteArray := prog_1_method_33_code
def yX4_findChain : MethodName := ⟨RX4, "findChain", "(LNightRiders$Request;II)Z"⟩
abbrev cX4_tryRiders : ByteArray := prog_1_method_34_code
def yX4_tryRiders : MethodName := ⟨RX4, "tryRiders", "(III)V"⟩
abbrev cX4_isTooLate : ByteArray := prog_1_method_35_code
def yX4_isTooLate : MethodName := ⟨RX4, "isTooLate", "(I)Z"⟩
abbrev cX4_waitsUntil : ByteArray := prog_1_method_36_code
def yX4_waitsUntil : MethodName := ⟨RX4, "waitsUntil", "(II)Z"⟩
abbrev cX4_tryEnds : ByteArray := prog_1_method_37_code
def yX4_tryEnds : MethodName := ⟨RX4, "tryEnds", "(ILNightRiders$Rider;I)V"⟩
abbrev cX4_tryEnd : ByteArray := prog_1_method_38_code
def yX4_tryEnd : MethodName := ⟨RX4, "tryEnd", "(ILNightRiders$Rider;II)V"⟩
abbrev cX4_keepIfBetter : ByteArray := prog_1_method_39_code
def yX4_keepIfBetter : MethodName := ⟨RX4, "keepIfBetter", "()V"⟩
abbrev cX4_rideChosen : ByteArray := prog_1_method_40_code
def yX4_rideChosen : MethodName := ⟨RX4, "rideChosen", "(LNightRiders$Request;)V"⟩
abbrev cX4_mayFail : ByteArray := prog_1_method_41_code
def yX4_mayFail : MethodName := ⟨RX4, "mayFail", "(LNightRiders$Request;II)Z"⟩
abbrev cX4_dropLegsBehind : ByteArray := prog_1_method_42_code
def yX4_dropLegsBehind : MethodName := ⟨RX4, "dropLegsBehind", "(LNightRiders$Request;I)V"⟩
abbrev cX4_failLeg : ByteArray := prog_1_method_43_code
def yX4_failLeg : MethodName := ⟨RX4, "failLeg", "(LNightRiders$Leg;I)V"⟩
def RX5 : String := "NightRidersModel"
def TX5 : u_T := fun k => match k with
  | 0 => ("NightRidersModel", "roads", "[I", true)
  | 1 => ("NightRidersModel", "places", "I", false)
  | 2 => ("NightRidersModel", "home", "[I", true)
  | 3 => ("NightRidersModel", "area", "[I", true)
  | 4 => ("NightRidersModel", "dutyFrom", "[I", true)
  | 5 => ("NightRidersModel", "dutyTo", "[I", true)
  | 6 => ("NightRidersModel", "kinds", "[I", true)
  | 7 => ("NightRidersModel", "at", "[I", true)
  | 8 => ("NightRidersModel", "free", "[I", true)
  | 9 => ("NightRidersModel", "failed", "[Z", true)
  | 10 => ("NightRidersModel", "rode", "[I", true)
  | 11 => ("NightRidersModel", "minutes", "[I", true)
  | 12 => ("NightRidersModel", "riders", "I", false)
  | 13 => ("NightRidersModel", "rest", "I", false)
  | 14 => ("NightRidersModel", "kind", "[I", true)
  | 15 => ("NightRidersModel", "from", "[I", true)
  | 16 => ("NightRidersModel", "to", "[I", true)
  | 17 => ("NightRidersModel", "ready", "[I", true)
  | 18 => ("NightRidersModel", "cold", "[I", true)
  | 19 => ("NightRidersModel", "state", "[I", true)
  | 20 => ("NightRidersModel", "calls", "I", false)
  | 21 => ("NightRidersModel", "latest", "I", false)
  | 22 => ("NightRidersModel", "legs", "[I", true)
  | 23 => ("NightRidersModel", "legMany", "[I", true)
  | 24 => ("NightRidersModel", "thrown", "I", false)
  | 25 => ("NightRidersModel", "far", "[I", true)
  | 26 => ("NightRidersModel", "tryRider", "[I", true)
  | 27 => ("NightRidersModel", "tryPlace", "[I", true)
  | 28 => ("NightRidersModel", "tryStart", "[I", true)
  | 29 => ("NightRidersModel", "tryEnd", "[I", true)
  | 30 => ("NightRidersModel", "bestRider", "[I", true)
  | 31 => ("NightRidersModel", "bestPlace", "[I", true)
  | 32 => ("NightRidersModel", "bestStart", "[I", true)
  | 33 => ("NightRidersModel", "bestEnd", "[I", true)
  | _ => ("NightRidersModel", "bestMany", "I", false)
def tyX5 : Nat → FieldType := fun k => match k with
  | 0 => .array .int
  | 1 => .int
  | 2 => .array .int
  | 3 => .array .int
  | 4 => .array .int
  | 5 => .array .int
  | 6 => .array .int
  | 7 => .array .int
  | 8 => .array .int
  | 9 => .array .boolean
  | 10 => .array .int
  | 11 => .array .int
  | 12 => .int
  | 13 => .int
  | 14 => .array .int
  | 15 => .array .int
  | 16 => .array .int
  | 17 => .array .int
  | 18 => .array .int
  | 19 => .array .int
  | 20 => .int
  | 21 => .int
  | 22 => .array .int
  | 23 => .array .int
  | 24 => .int
  | 25 => .array .int
  | 26 => .array .int
  | 27 => .array .int
  | 28 => .array .int
  | 29 => .array .int
  | 30 => .array .int
  | 31 => .array .int
  | 32 => .array .int
  | 33 => .array .int
  | _ => .int
abbrev wsX50 : List Cond := u_ws RX5 TX5 35
theorem nmX5 : ∀ a, a < 35 → ∀ b, b < 35 → a ≠ b → (TX5 a).2.1 ≠ (TX5 b).2.1 := by decide +kernel
theorem tyX5_ok : ∀ k, k < 35 → parseFieldDescriptor (TX5 k).2.2.1 = some (tyX5 k) := by decide +kernel
abbrev cX5_init : ByteArray := prog_7_method_1_code
def yX5_init : MethodName := ⟨RX5, "<init>", "()V"⟩
abbrev cX5_thrown : ByteArray := prog_7_method_2_code
def yX5_thrown : MethodName := ⟨RX5, "thrown", "()I"⟩
abbrev cX5_in : ByteArray := prog_7_method_3_code
def yX5_in : MethodName := ⟨RX5, "in", "(III)Z"⟩
abbrev cX5_isPlace : ByteArray := prog_7_method_4_code
def yX5_isPlace : MethodName := ⟨RX5, "isPlace", "(I)Z"⟩
abbrev cX5_isRider : ByteArray := prog_7_method_5_code
def yX5_isRider : MethodName := ⟨RX5, "isRider", "(I)Z"⟩
abbrev cX5_isCall : ByteArray := prog_7_method_6_code
def yX5_isCall : MethodName := ⟨RX5, "isCall", "(I)Z"⟩
abbrev cX5_place : ByteArray := prog_7_method_7_code
def yX5_place : MethodName := ⟨RX5, "place", "()I"⟩
abbrev cX5_road : ByteArray := prog_7_method_8_code
def yX5_road : MethodName := ⟨RX5, "road", "(III)Z"⟩
abbrev cX5_rider : ByteArray := prog_7_method_9_code
def yX5_rider : MethodName := ⟨RX5, "rider", "(IIIII)I"⟩
abbrev cX5_rest : ByteArray := prog_7_method_10_code
def yX5_rest : MethodName := ⟨RX5, "rest", "(I)I"⟩
abbrev cX5_wayOf : ByteArray := prog_7_method_11_code
def yX5_wayOf : MethodName := ⟨RX5, "wayOf", "(III)I"⟩
abbrev cX5_way : ByteArray := prog_7_method_12_code
def yX5_way : MethodName := ⟨RX5, "way", "(III)I"⟩
abbrev cX5_endOf : ByteArray := prog_7_method_13_code
def yX5_endOf : MethodName := ⟨RX5, "endOf", "(I)I"⟩
abbrev cX5_count : ByteArray := prog_7_method_14_code
def yX5_count : MethodName := ⟨RX5, "count", "(I)I"⟩
abbrev cX5_of : ByteArray := prog_7_method_15_code
def yX5_of : MethodName := ⟨RX5, "of", "(II)I"⟩
abbrev cX5_mayCarry : ByteArray := prog_7_method_16_code
def yX5_mayCarry : MethodName := ⟨RX5, "mayCarry", "(II)Z"⟩
abbrev cX5_onDuty : ByteArray := prog_7_method_17_code
def yX5_onDuty : MethodName := ⟨RX5, "onDuty", "(II)I"⟩
abbrev cX5_duty : ByteArray := prog_7_method_18_code
def yX5_duty : MethodName := ⟨RX5, "duty", "(II)I"⟩
abbrev cX5_bare : ByteArray := prog_7_method_19_code
def yX5_bare : MethodName := ⟨RX5, "bare", "(II)I"⟩
abbrev cX5_isBetter : ByteArray := prog_7_method_20_code
def yX5_isBetter : MethodName := ⟨RX5, "isBetter", "(I)Z"⟩
abbrev cX5_tryLeg : ByteArray := prog_7_method_21_code
def yX5_tryLeg : MethodName := ⟨RX5, "tryLeg", "(IIIIII)V"⟩
abbrev cX5_findBest : ByteArray := prog_7_method_22_code
def yX5_findBest : MethodName := ⟨RX5, "findBest", "(IIII)Z"⟩
abbrev cX5_ride : ByteArray := prog_7_method_23_code
def yX5_ride : MethodName := ⟨RX5, "ride", "(II)V"⟩
abbrev cX5_call : ByteArray := prog_7_method_24_code
def yX5_call : MethodName := ⟨RX5, "call", "(IIIII)I"⟩
abbrev cX5_best : ByteArray := prog_7_method_25_code
def yX5_best : MethodName := ⟨RX5, "best", "(I)I"⟩
abbrev cX5_send : ByteArray := prog_7_method_26_code
def yX5_send : MethodName := ⟨RX5, "send", "(I)I"⟩
abbrev cX5_told : ByteArray := prog_7_method_27_code
def yX5_told : MethodName := ⟨RX5, "told", "(II)I"⟩
abbrev cX5_leg : ByteArray := prog_7_method_28_code
def yX5_leg : MethodName := ⟨RX5, "leg", "(III)I"⟩
abbrev cX5_hand : ByteArray := prog_7_method_29_code
def yX5_hand : MethodName := ⟨RX5, "hand", "(II)I"⟩
abbrev cX5_fail : ByteArray := prog_7_method_30_code
def yX5_fail : MethodName := ⟨RX5, "fail", "(III)I"⟩
abbrev cX5_next : ByteArray := prog_7_method_31_code
def yX5_next : MethodName := ⟨RX5, "next", "(II)I"⟩
def RJx145de : String := "java/io/Serializable"
def TJx145de : u_T := fun k => match k with
  | _ => ("", "", "", false)
def tyJx145de : Nat → FieldType := fun k => match k with
  | _ => .int
abbrev wsJx145de0 : List Cond := u_ws RJx145de TJx145de 0
theorem nmJx145de : ∀ a, a < 0 → ∀ b, b < 0 → a ≠ b → (TJx145de a).2.1 ≠ (TJx145de b).2.1 := by decide +kernel
theorem tyJx145de_ok : ∀ k, k < 0 → parseFieldDescriptor (TJx145de k).2.2.1 = some (tyJx145de k) := by decide +kernel
def RJ9 : String := "java/lang/Math"
def TJ9 : u_T := fun k => match k with
  | _ => ("", "", "", false)
def tyJ9 : Nat → FieldType := fun k => match k with
  | _ => .int
abbrev wsJ90 : List Cond := u_ws RJ9 TJ9 0
theorem nmJ9 : ∀ a, a < 0 → ∀ b, b < 0 → a ≠ b → (TJ9 a).2.1 ≠ (TJ9 b).2.1 := by decide +kernel
theorem tyJ9_ok : ∀ k, k < 0 → parseFieldDescriptor (TJ9 k).2.2.1 = some (tyJ9 k) := by decide +kernel
abbrev cJ9_max_7cf53 : ByteArray := prog_10_method_65_code
def yJ9_max_7cf53 : MethodName := ⟨RJ9, "max", "(II)I"⟩
def RJ0 : String := "java/lang/String"
def TJ0 : u_T := fun k => match k with
  | _ => ("", "", "", false)
def tyJ0 : Nat → FieldType := fun k => match k with
  | _ => .int
abbrev wsJ00 : List Cond := u_ws RJ0 TJ0 0
theorem nmJ0 : ∀ a, a < 0 → ∀ b, b < 0 → a ≠ b → (TJ0 a).2.1 ≠ (TJ0 b).2.1 := by decide +kernel
theorem tyJ0_ok : ∀ k, k < 0 → parseFieldDescriptor (TJ0 k).2.2.1 = some (tyJ0 k) := by decide +kernel
def RL : String := "NightRidersLaw"
abbrev cL_of : ByteArray := method_3_code
def yL_of : MethodName := ⟨RL, "of", "(LNightRiders;II[J)I"⟩
abbrev cL_law : ByteArray := code
def yL_law : MethodName := ⟨RL, "law", "([I)Z"⟩
def wsX0_init : List Cond := .code yX0_init cX0_init 1 none :: ([.methodLink RX0 3 objectInit, .instanceMethod objectInit, .code objectInit ⟨#[0xb1]⟩ 1 none, .arrayClass .int, .fieldLink RX0 9 "NightRiders$Chain" "riders" "[I", .fieldLink RX0 15 "NightRiders$Chain" "froms" "[I", .fieldLink RX0 18 "NightRiders$Chain" "tos" "[I", .fieldLink RX0 21 "NightRiders$Chain" "starts" "[I", .fieldLink RX0 24 "NightRiders$Chain" "ends" "[I", .fieldLink RX0 27 "NightRiders$Chain" "length" "I", .fieldLink RX0 31 "NightRiders$Chain" "kind" "I", .fieldLink RX0 34 "NightRiders$Chain" "goal" "I"] ++ wsX00)
def wsX0_open : List Cond := .code yX0_open cX0_open 5 none :: ([.fieldLink RX0 9 "NightRiders$Chain" "riders" "[I", .fieldLink RX0 15 "NightRiders$Chain" "froms" "[I", .fieldLink RX0 21 "NightRiders$Chain" "starts" "[I"] ++ wsX00)
def wsX0_close : List Cond := .code yX0_close cX0_close 4 none :: ([.fieldLink RX0 18 "NightRiders$Chain" "tos" "[I", .fieldLink RX0 24 "NightRiders$Chain" "ends" "[I", .fieldLink RX0 27 "NightRiders$Chain" "length" "I"] ++ wsX00)
def wsX0_isRiddenBy : List Cond := .code yX0_isRiddenBy cX0_isRiddenBy 4 (some .boolean) :: ([.fieldLink RX0 9 "NightRiders$Chain" "riders" "[I"] ++ wsX00)
def wsX0_comesFrom : List Cond := .code yX0_comesFrom cX0_comesFrom 4 (some .boolean) :: ([.fieldLink RX0 15 "NightRiders$Chain" "froms" "[I"] ++ wsX00)
def wsX0_fromOf : List Cond := .code yX0_fromOf cX0_fromOf 2 (some .int) :: ([.fieldLink RX0 15 "NightRiders$Chain" "froms" "[I"] ++ wsX00)
def wsX0_lastEnd : List Cond := .code yX0_lastEnd cX0_lastEnd 1 (some .int) :: ([.fieldLink RX0 27 "NightRiders$Chain" "length" "I", .fieldLink RX0 24 "NightRiders$Chain" "ends" "[I"] ++ wsX00)
def wsX0_handsOn : List Cond := .code yX0_handsOn cX0_handsOn 2 (some .int) :: ([.fieldLink RX0 27 "NightRiders$Chain" "length" "I", .fieldLink RX0 21 "NightRiders$Chain" "starts" "[I", .methodLink RX0 37 yX0_lastEnd, .instanceMethod yX0_lastEnd, .selects RX0 yX0_lastEnd yX0_lastEnd, .initialized RX0, .code yX0_lastEnd cX0_lastEnd 1 (some .int), .fieldLink RX0 24 "NightRiders$Chain" "ends" "[I"] ++ wsX00)
def wsX0_take : List Cond := .code yX0_take cX0_take 3 none :: ([.fieldLink RX0 9 "NightRiders$Chain" "riders" "[I", .fieldLink RX0 15 "NightRiders$Chain" "froms" "[I", .fieldLink RX0 18 "NightRiders$Chain" "tos" "[I", .fieldLink RX0 21 "NightRiders$Chain" "starts" "[I", .fieldLink RX0 24 "NightRiders$Chain" "ends" "[I", .fieldLink RX0 27 "NightRiders$Chain" "length" "I"] ++ wsX00)
def wsX1_init : List Cond := .code yX1_init cX1_init 8 none :: ([.methodLink RX1 1 objectInit, .instanceMethod objectInit, .code objectInit ⟨#[0xb1]⟩ 1 none, .fieldLink RX1 7 "NightRiders$Leg" "failed" "Z", .fieldLink RX1 13 "NightRiders$Leg" "rider" "I", .fieldLink RX1 17 "NightRiders$Leg" "from" "I", .fieldLink RX1 20 "NightRiders$Leg" "to" "I", .fieldLink RX1 23 "NightRiders$Leg" "starts" "I", .fieldLink RX1 26 "NightRiders$Leg" "ends" "I", .fieldLink RX1 29 "NightRiders$Leg" "atAhead" "I", .fieldLink RX1 32 "NightRiders$Leg" "freeAhead" "I"] ++ wsX10)
def wsX2_init : List Cond := .code yX2_init cX2_init 6 none :: ([.methodLink RX2 3 objectInit, .instanceMethod objectInit, .code objectInit ⟨#[0xb1]⟩ 1 none, .classLink RX2 9 RX1, .fieldLink RX2 11 "NightRiders$Request" "legs" "[LNightRiders$Leg;", .fieldLink RX2 17 "NightRiders$Request" "legCount" "I", .fieldLink RX2 21 "NightRiders$Request" "sent" "Z", .fieldLink RX2 25 "NightRiders$Request" "lost" "Z", .fieldLink RX2 28 "NightRiders$Request" "kind" "I", .fieldLink RX2 31 "NightRiders$Request" "from" "I", .fieldLink RX2 34 "NightRiders$Request" "to" "I", .fieldLink RX2 37 "NightRiders$Request" "ready" "I", .fieldLink RX2 40 "NightRiders$Request" "cold" "I"] ++ wsX20)
def wsX2_legAt : List Cond := .code yX2_legAt cX2_legAt 2 (some (.object "NightRiders$Leg")) :: ([.fieldLink RX2 17 "NightRiders$Request" "legCount" "I", .fieldLink RX2 11 "NightRiders$Request" "legs" "[LNightRiders$Leg;"] ++ wsX20)
def wsX2_addLeg : List Cond := .code yX2_addLeg cX2_addLeg 2 none :: ([.fieldLink RX2 17 "NightRiders$Request" "legCount" "I", .fieldLink RX2 11 "NightRiders$Request" "legs" "[LNightRiders$Leg;"] ++ wsX20)
def wsX2_lastEnd : List Cond := .code yX2_lastEnd cX2_lastEnd 2 (some .int) :: ([.fieldLink RX2 17 "NightRiders$Request" "legCount" "I", .fieldLink RX2 47 "NightRiders$Leg" "ends" "I", .methodLink RX2 43 yX2_legAt, .instanceMethod yX2_legAt, .selects RX2 yX2_legAt yX2_legAt, .initialized RX2, .code yX2_legAt cX2_legAt 2 (some (.object "NightRiders$Leg")), .fieldLink RX2 11 "NightRiders$Request" "legs" "[LNightRiders$Leg;"] ++ wsX20 ++ wsX10)
def wsX2_cameWarm : List Cond := .code yX2_cameWarm cX2_cameWarm 1 (some .boolean) :: ([.fieldLink RX2 21 "NightRiders$Request" "sent" "Z", .fieldLink RX2 25 "NightRiders$Request" "lost" "Z", .fieldLink RX2 37 "NightRiders$Request" "ready" "I", .fieldLink RX2 40 "NightRiders$Request" "cold" "I", .methodLink RX2 50 yX2_lastEnd, .instanceMethod yX2_lastEnd, .selects RX2 yX2_lastEnd yX2_lastEnd, .initialized RX2, .code yX2_lastEnd cX2_lastEnd 2 (some .int), .fieldLink RX2 17 "NightRiders$Request" "legCount" "I", .fieldLink RX2 47 "NightRiders$Leg" "ends" "I", .methodLink RX2 43 yX2_legAt, .instanceMethod yX2_legAt, .selects RX2 yX2_legAt yX2_legAt, .code yX2_legAt cX2_legAt 2 (some (.object "NightRiders$Leg")), .fieldLink RX2 11 "NightRiders$Request" "legs" "[LNightRiders$Leg;"] ++ wsX20 ++ wsX10)
def wsX3_init : List Cond := .code yX3_init cX3_init 6 none :: ([.methodLink RX3 3 objectInit, .instanceMethod objectInit, .code objectInit ⟨#[0xb1]⟩ 1 none, .arrayClass .int, .fieldLink RX3 9 "NightRiders$Rider" "ways" "[I", .fieldLink RX3 15 "NightRiders$Rider" "legsRidden" "I", .fieldLink RX3 19 "NightRiders$Rider" "boxMinutes" "I", .fieldLink RX3 22 "NightRiders$Rider" "failed" "Z", .fieldLink RX3 26 "NightRiders$Rider" "home" "I", .fieldLink RX3 29 "NightRiders$Rider" "area" "I", .fieldLink RX3 32 "NightRiders$Rider" "dutyFrom" "I", .fieldLink RX3 35 "NightRiders$Rider" "dutyTo" "I", .fieldLink RX3 38 "NightRiders$Rider" "kinds" "I", .fieldLink RX3 41 "NightRiders$Rider" "at" "I", .fieldLink RX3 44 "NightRiders$Rider" "free" "I"] ++ wsX30)
def wsX4_hasBit : List Cond := .code yX4_hasBit cX4_hasBit 2 (some .boolean) :: ([])
def wsX3_carries : List Cond := .code yX3_carries cX3_carries 2 (some .boolean) :: ([.fieldLink RX3 22 "NightRiders$Rider" "failed" "Z", .fieldLink RX3 38 "NightRiders$Rider" "kinds" "I", .static yX4_hasBit, .initialized RX4, .code yX4_hasBit cX4_hasBit 2 (some .boolean)] ++ wsX30)
def wsX3_isOnDuty : List Cond := .code yX3_isOnDuty cX3_isOnDuty 2 (some .boolean) :: ([.fieldLink RX3 32 "NightRiders$Rider" "dutyFrom" "I", .fieldLink RX3 35 "NightRiders$Rider" "dutyTo" "I"] ++ wsX30)
def wsX3_shortenWays : List Cond := .code yX3_shortenWays cX3_shortenWays 7 none :: ([.fieldLink RX3 9 "NightRiders$Rider" "ways" "[I"] ++ wsX30)
def wsX4_init_r1 : List Cond := [Cond.methodLink RX4 3 objectInit, Cond.instanceMethod objectInit, Cond.code objectInit ⟨#[0xb1]⟩ 1 none, Cond.arrayClass .int, Cond.fieldLink RX4 9 "NightRiders" "roads" "[I", Cond.classLink RX4 13 RX3, Cond.fieldLink RX4 15 "NightRiders" "riders" "[LNightRiders$Rider;", Cond.classLink RX4 19 RX2, Cond.fieldLink RX4 21 "NightRiders" "requests" "[LNightRiders$Request;", Cond.classLink RX4 25 RX0, Cond.instantiable RX0 8, Cond.initialized RX0, Cond.fieldLink RX4 28 "NightRiders" "trial" "LNightRiders$Chain;", Cond.fieldLink RX4 32 "NightRiders" "chosen" "LNightRiders$Chain;", Cond.fieldLink RX4 35 "NightRiders" "placeCount" "I", Cond.fieldLink RX4 39 "NightRiders" "riderCount" "I", Cond.fieldLink RX4 42 "NightRiders" "requestCount" "I", Cond.fieldLink RX4 45 "NightRiders" "resting" "I", Cond.fieldLink RX4 48 "NightRiders" "lastSent" "I", Cond.instanceMethod yX0_init, Cond.code yX0_init cX0_init 1 none, Cond.methodLink RX0 3 objectInit, Cond.fieldLink RX0 9 "NightRiders$Chain" "riders" "[I", Cond.fieldLink RX0 15 "NightRiders$Chain" "froms" "[I"]
def wsX4_init_r2 : List Cond := [Cond.fieldLink RX0 18 "NightRiders$Chain" "tos" "[I", Cond.fieldLink RX0 21 "NightRiders$Chain" "starts" "[I", Cond.fieldLink RX0 24 "NightRiders$Chain" "ends" "[I", Cond.fieldLink RX0 27 "NightRiders$Chain" "length" "I", Cond.fieldLink RX0 31 "NightRiders$Chain" "kind" "I", Cond.fieldLink RX0 34 "NightRiders$Chain" "goal" "I"]
def wsX4_init : List Cond := .code yX4_init cX4_init 1 none :: ((wsX4_init_r1 ++ wsX4_init_r2) ++ wsX40 ++ wsX00)
def wsX4_place : List Cond := .code yX4_place cX4_place 1 (some .int) :: ([.fieldLink RX4 35 "NightRiders" "placeCount" "I"] ++ wsX40)
def wsX4_isPlace : List Cond := .code yX4_isPlace cX4_isPlace 2 (some .boolean) :: ([.fieldLink RX4 35 "NightRiders" "placeCount" "I"] ++ wsX40)
def wsX4_riderAt : List Cond := .code yX4_riderAt cX4_riderAt 2 (some (.object "NightRiders$Rider")) :: ([.fieldLink RX4 39 "NightRiders" "riderCount" "I", .fieldLink RX4 15 "NightRiders" "riders" "[LNightRiders$Rider;"] ++ wsX40)
def wsX4_roadWithin : List Cond := .code yX4_roadWithin cX4_roadWithin 5 (some .int) :: ([.fieldLink RX4 9 "NightRiders" "roads" "[I", .methodLink RX4 51 yX4_isPlace, .instanceMethod yX4_isPlace, .selects RX4 yX4_isPlace yX4_isPlace, .initialized RX4, .code yX4_isPlace cX4_isPlace 2 (some .boolean), .fieldLink RX4 35 "NightRiders" "placeCount" "I", .methodLink RX4 67 yX4_hasBit, .static yX4_hasBit, .code yX4_hasBit cX4_hasBit 2 (some .boolean)] ++ wsX40)
def wsX4_settleWays : List Cond := .code yX4_settleWays cX4_settleWays 4 none :: ([.fieldLink RX4 214 "NightRiders$Rider" "ways" "[I", .fieldLink RX4 110 "NightRiders$Rider" "area" "I", .methodLink RX4 217 yX4_roadWithin, .instanceMethod yX4_roadWithin, .selects RX4 yX4_roadWithin yX4_roadWithin, .initialized RX4, .code yX4_roadWithin cX4_roadWithin 5 (some .int), .fieldLink RX4 9 "NightRiders" "roads" "[I", .methodLink RX4 51 yX4_isPlace, .instanceMethod yX4_isPlace, .selects RX4 yX4_isPlace yX4_isPlace, .code yX4_isPlace cX4_isPlace 2 (some .boolean), .fieldLink RX4 35 "NightRiders" "placeCount" "I", .methodLink RX4 67 yX4_hasBit, .static yX4_hasBit, .code yX4_hasBit cX4_hasBit 2 (some .boolean), .methodLink RX4 221 yX3_shortenWays, .instanceMethod yX3_shortenWays, .selects RX3 yX3_shortenWays yX3_shortenWays, .initialized RX3, .code yX3_shortenWays cX3_shortenWays 7 none, .fieldLink RX3 9 "NightRiders$Rider" "ways" "[I"] ++ wsX30 ++ wsX40)
def wsX4_road_r1 : List Cond := [Cond.fieldLink RX4 9 "NightRiders" "roads" "[I", Cond.fieldLink RX4 39 "NightRiders" "riderCount" "I", Cond.methodLink RX4 51 yX4_isPlace, Cond.instanceMethod yX4_isPlace, Cond.selects RX4 yX4_isPlace yX4_isPlace, Cond.initialized RX4, Cond.code yX4_isPlace cX4_isPlace 2 (some .boolean), Cond.fieldLink RX4 35 "NightRiders" "placeCount" "I", Cond.methodLink RX4 55 yX4_riderAt, Cond.instanceMethod yX4_riderAt, Cond.selects RX4 yX4_riderAt yX4_riderAt, Cond.code yX4_riderAt cX4_riderAt 2 (some (.object "NightRiders$Rider")), Cond.fieldLink RX4 15 "NightRiders" "riders" "[LNightRiders$Rider;", Cond.methodLink RX4 59 yX4_settleWays, Cond.instanceMethod yX4_settleWays, Cond.selects RX4 yX4_settleWays yX4_settleWays, Cond.code yX4_settleWays cX4_settleWays 4 none, Cond.fieldLink RX4 214 "NightRiders$Rider" "ways" "[I", Cond.fieldLink RX4 110 "NightRiders$Rider" "area" "I", Cond.methodLink RX4 217 yX4_roadWithin, Cond.instanceMethod yX4_roadWithin, Cond.selects RX4 yX4_roadWithin yX4_roadWithin, Cond.code yX4_roadWithin cX4_roadWithin 5 (some .int), Cond.methodLink RX4 67 yX4_hasBit]
def wsX4_road_r2 : List Cond := [Cond.static yX4_hasBit, Cond.code yX4_hasBit cX4_hasBit 2 (some .boolean), Cond.methodLink RX4 221 yX3_shortenWays, Cond.instanceMethod yX3_shortenWays, Cond.selects RX3 yX3_shortenWays yX3_shortenWays, Cond.initialized RX3, Cond.code yX3_shortenWays cX3_shortenWays 7 none, Cond.fieldLink RX3 9 "NightRiders$Rider" "ways" "[I"]
def wsX4_road : List Cond := .code yX4_road cX4_road 6 (some .boolean) :: ((wsX4_road_r1 ++ wsX4_road_r2) ++ wsX40 ++ wsX30)
def wsX4_areBits : List Cond := .code yX4_areBits cX4_areBits 2 (some .boolean) :: ([])
def wsX4_isMinute : List Cond := .code yX4_isMinute cX4_isMinute 1 (some .boolean) :: ([])
def wsX4_rider_r1 : List Cond := [Cond.fieldLink RX4 39 "NightRiders" "riderCount" "I", Cond.fieldLink RX4 35 "NightRiders" "placeCount" "I", Cond.classLink RX4 13 RX3, Cond.instantiable RX3 11, Cond.initialized RX3, Cond.fieldLink RX4 15 "NightRiders" "riders" "[LNightRiders$Rider;", Cond.methodLink RX4 51 yX4_isPlace, Cond.instanceMethod yX4_isPlace, Cond.selects RX4 yX4_isPlace yX4_isPlace, Cond.initialized RX4, Cond.code yX4_isPlace cX4_isPlace 2 (some .boolean), Cond.methodLink RX4 63 yX4_areBits, Cond.static yX4_areBits, Cond.code yX4_areBits cX4_areBits 2 (some .boolean), Cond.methodLink RX4 67 yX4_hasBit, Cond.static yX4_hasBit, Cond.code yX4_hasBit cX4_hasBit 2 (some .boolean), Cond.methodLink RX4 70 yX4_isMinute, Cond.static yX4_isMinute, Cond.code yX4_isMinute cX4_isMinute 1 (some .boolean), Cond.methodLink RX4 73 yX3_init, Cond.instanceMethod yX3_init, Cond.code yX3_init cX3_init 6 none, Cond.methodLink RX3 3 objectInit]
def wsX4_rider_r2 : List Cond := [Cond.instanceMethod objectInit, Cond.code objectInit ⟨#[0xb1]⟩ 1 none, Cond.arrayClass .int, Cond.fieldLink RX3 9 "NightRiders$Rider" "ways" "[I", Cond.fieldLink RX3 15 "NightRiders$Rider" "legsRidden" "I", Cond.fieldLink RX3 19 "NightRiders$Rider" "boxMinutes" "I", Cond.fieldLink RX3 22 "NightRiders$Rider" "failed" "Z", Cond.fieldLink RX3 26 "NightRiders$Rider" "home" "I", Cond.fieldLink RX3 29 "NightRiders$Rider" "area" "I", Cond.fieldLink RX3 32 "NightRiders$Rider" "dutyFrom" "I", Cond.fieldLink RX3 35 "NightRiders$Rider" "dutyTo" "I", Cond.fieldLink RX3 38 "NightRiders$Rider" "kinds" "I", Cond.fieldLink RX3 41 "NightRiders$Rider" "at" "I", Cond.fieldLink RX3 44 "NightRiders$Rider" "free" "I", Cond.methodLink RX4 59 yX4_settleWays, Cond.instanceMethod yX4_settleWays, Cond.selects RX4 yX4_settleWays yX4_settleWays, Cond.code yX4_settleWays cX4_settleWays 4 none, Cond.fieldLink RX4 214 "NightRiders$Rider" "ways" "[I", Cond.fieldLink RX4 110 "NightRiders$Rider" "area" "I", Cond.methodLink RX4 217 yX4_roadWithin, Cond.instanceMethod yX4_roadWithin, Cond.selects RX4 yX4_roadWithin yX4_roadWithin, Cond.code yX4_roadWithin cX4_roadWithin 5 (some .int)]
def wsX4_rider_r3 : List Cond := [Cond.fieldLink RX4 9 "NightRiders" "roads" "[I", Cond.methodLink RX4 221 yX3_shortenWays, Cond.instanceMethod yX3_shortenWays, Cond.selects RX3 yX3_shortenWays yX3_shortenWays, Cond.code yX3_shortenWays cX3_shortenWays 7 none]
def wsX4_rider : List Cond := .code yX4_rider cX4_rider 7 (some .int) :: ((wsX4_rider_r1 ++ (wsX4_rider_r2 ++ wsX4_rider_r3)) ++ wsX40 ++ wsX30)
def wsX4_rest : List Cond := .code yX4_rest cX4_rest 3 (some .int) :: ([.fieldLink RX4 45 "NightRiders" "resting" "I"] ++ wsX40)
def wsX4_requestAt : List Cond := .code yX4_requestAt cX4_requestAt 2 (some (.object "NightRiders$Request")) :: ([.fieldLink RX4 42 "NightRiders" "requestCount" "I", .fieldLink RX4 21 "NightRiders" "requests" "[LNightRiders$Request;"] ++ wsX40)
def wsX4_isCounted : List Cond := .code yX4_isCounted cX4_isCounted 2 (some .boolean) :: ([.fieldLink RX4 141 "NightRiders$Request" "sent" "Z", .fieldLink RX4 172 "NightRiders$Request" "lost" "Z", .methodLink RX4 231 yX2_cameWarm, .instanceMethod yX2_cameWarm, .selects RX2 yX2_cameWarm yX2_cameWarm, .initialized RX2, .code yX2_cameWarm cX2_cameWarm 1 (some .boolean), .fieldLink RX2 21 "NightRiders$Request" "sent" "Z", .fieldLink RX2 25 "NightRiders$Request" "lost" "Z", .fieldLink RX2 37 "NightRiders$Request" "ready" "I", .fieldLink RX2 40 "NightRiders$Request" "cold" "I", .methodLink RX2 50 yX2_lastEnd, .instanceMethod yX2_lastEnd, .selects RX2 yX2_lastEnd yX2_lastEnd, .code yX2_lastEnd cX2_lastEnd 2 (some .int), .fieldLink RX2 17 "NightRiders$Request" "legCount" "I", .fieldLink RX2 47 "NightRiders$Leg" "ends" "I", .methodLink RX2 43 yX2_legAt, .instanceMethod yX2_legAt, .selects RX2 yX2_legAt yX2_legAt, .code yX2_legAt cX2_legAt 2 (some (.object "NightRiders$Leg")), .fieldLink RX2 11 "NightRiders$Request" "legs" "[LNightRiders$Leg;"] ++ wsX20 ++ wsX10)
def wsX4_countRequests_r1 : List Cond := [Cond.fieldLink RX4 42 "NightRiders" "requestCount" "I", Cond.methodLink RX4 137 yX4_requestAt, Cond.instanceMethod yX4_requestAt, Cond.selects RX4 yX4_requestAt yX4_requestAt, Cond.initialized RX4, Cond.code yX4_requestAt cX4_requestAt 2 (some (.object "NightRiders$Request")), Cond.fieldLink RX4 21 "NightRiders" "requests" "[LNightRiders$Request;", Cond.methodLink RX4 227 yX4_isCounted, Cond.static yX4_isCounted, Cond.code yX4_isCounted cX4_isCounted 2 (some .boolean), Cond.fieldLink RX4 141 "NightRiders$Request" "sent" "Z", Cond.fieldLink RX4 172 "NightRiders$Request" "lost" "Z", Cond.methodLink RX4 231 yX2_cameWarm, Cond.instanceMethod yX2_cameWarm, Cond.selects RX2 yX2_cameWarm yX2_cameWarm, Cond.initialized RX2, Cond.code yX2_cameWarm cX2_cameWarm 1 (some .boolean), Cond.fieldLink RX2 21 "NightRiders$Request" "sent" "Z", Cond.fieldLink RX2 25 "NightRiders$Request" "lost" "Z", Cond.fieldLink RX2 37 "NightRiders$Request" "ready" "I", Cond.fieldLink RX2 40 "NightRiders$Request" "cold" "I", Cond.methodLink RX2 50 yX2_lastEnd, Cond.instanceMethod yX2_lastEnd, Cond.selects RX2 yX2_lastEnd yX2_lastEnd]
def wsX4_countRequests_r2 : List Cond := [Cond.code yX2_lastEnd cX2_lastEnd 2 (some .int), Cond.fieldLink RX2 17 "NightRiders$Request" "legCount" "I", Cond.fieldLink RX2 47 "NightRiders$Leg" "ends" "I", Cond.methodLink RX2 43 yX2_legAt, Cond.instanceMethod yX2_legAt, Cond.selects RX2 yX2_legAt yX2_legAt, Cond.code yX2_legAt cX2_legAt 2 (some (.object "NightRiders$Leg")), Cond.fieldLink RX2 11 "NightRiders$Request" "legs" "[LNightRiders$Leg;"]
def wsX4_countRequests : List Cond := .code yX4_countRequests cX4_countRequests 5 (some .int) :: ((wsX4_countRequests_r1 ++ wsX4_countRequests_r2) ++ wsX40 ++ wsX20 ++ wsX10)
def wsX4_count_r1 : List Cond := [Cond.fieldLink RX4 35 "NightRiders" "placeCount" "I", Cond.fieldLink RX4 39 "NightRiders" "riderCount" "I", Cond.fieldLink RX4 42 "NightRiders" "requestCount" "I", Cond.methodLink RX4 76 yX4_countRequests, Cond.instanceMethod yX4_countRequests, Cond.selects RX4 yX4_countRequests yX4_countRequests, Cond.initialized RX4, Cond.code yX4_countRequests cX4_countRequests 5 (some .int), Cond.methodLink RX4 137 yX4_requestAt, Cond.instanceMethod yX4_requestAt, Cond.selects RX4 yX4_requestAt yX4_requestAt, Cond.code yX4_requestAt cX4_requestAt 2 (some (.object "NightRiders$Request")), Cond.fieldLink RX4 21 "NightRiders" "requests" "[LNightRiders$Request;", Cond.methodLink RX4 227 yX4_isCounted, Cond.static yX4_isCounted, Cond.code yX4_isCounted cX4_isCounted 2 (some .boolean), Cond.fieldLink RX4 141 "NightRiders$Request" "sent" "Z", Cond.fieldLink RX4 172 "NightRiders$Request" "lost" "Z", Cond.methodLink RX4 231 yX2_cameWarm, Cond.instanceMethod yX2_cameWarm, Cond.selects RX2 yX2_cameWarm yX2_cameWarm, Cond.initialized RX2, Cond.code yX2_cameWarm cX2_cameWarm 1 (some .boolean), Cond.fieldLink RX2 21 "NightRiders$Request" "sent" "Z"]
def wsX4_count_r2 : List Cond := [Cond.fieldLink RX2 25 "NightRiders$Request" "lost" "Z", Cond.fieldLink RX2 37 "NightRiders$Request" "ready" "I", Cond.fieldLink RX2 40 "NightRiders$Request" "cold" "I", Cond.methodLink RX2 50 yX2_lastEnd, Cond.instanceMethod yX2_lastEnd, Cond.selects RX2 yX2_lastEnd yX2_lastEnd, Cond.code yX2_lastEnd cX2_lastEnd 2 (some .int), Cond.fieldLink RX2 17 "NightRiders$Request" "legCount" "I", Cond.fieldLink RX2 47 "NightRiders$Leg" "ends" "I", Cond.methodLink RX2 43 yX2_legAt, Cond.instanceMethod yX2_legAt, Cond.selects RX2 yX2_legAt yX2_legAt, Cond.code yX2_legAt cX2_legAt 2 (some (.object "NightRiders$Leg")), Cond.fieldLink RX2 11 "NightRiders$Request" "legs" "[LNightRiders$Leg;"]
def wsX4_count : List Cond := .code yX4_count cX4_count 2 (some .int) :: ((wsX4_count_r1 ++ wsX4_count_r2) ++ wsX40 ++ wsX20 ++ wsX10)
def wsX4_wayOf : List Cond := .code yX4_wayOf cX4_wayOf 4 (some .int) :: ([.fieldLink RX4 214 "NightRiders$Rider" "ways" "[I", .methodLink RX4 51 yX4_isPlace, .instanceMethod yX4_isPlace, .selects RX4 yX4_isPlace yX4_isPlace, .initialized RX4, .code yX4_isPlace cX4_isPlace 2 (some .boolean), .fieldLink RX4 35 "NightRiders" "placeCount" "I"] ++ wsX30 ++ wsX40)
def wsX4_way : List Cond := .code yX4_way cX4_way 5 (some .int) :: ([.methodLink RX4 55 yX4_riderAt, .instanceMethod yX4_riderAt, .selects RX4 yX4_riderAt yX4_riderAt, .initialized RX4, .code yX4_riderAt cX4_riderAt 2 (some (.object "NightRiders$Rider")), .fieldLink RX4 39 "NightRiders" "riderCount" "I", .fieldLink RX4 15 "NightRiders" "riders" "[LNightRiders$Rider;", .methodLink RX4 80 yX4_wayOf, .instanceMethod yX4_wayOf, .selects RX4 yX4_wayOf yX4_wayOf, .code yX4_wayOf cX4_wayOf 4 (some .int), .fieldLink RX4 214 "NightRiders$Rider" "ways" "[I", .methodLink RX4 51 yX4_isPlace, .instanceMethod yX4_isPlace, .selects RX4 yX4_isPlace yX4_isPlace, .code yX4_isPlace cX4_isPlace 2 (some .boolean), .fieldLink RX4 35 "NightRiders" "placeCount" "I"] ++ wsX40 ++ wsX30)
def wsX4_of : List Cond := .code yX4_of cX4_of 4 (some .int) :: ([.classLink RX4 84 "java/util/NoSuchElementException", .initialized "java/util/NoSuchElementException", .fieldLink RX4 91 "NightRiders$Rider" "home" "I", .fieldLink RX4 94 "NightRiders$Rider" "at" "I", .fieldLink RX4 97 "NightRiders$Rider" "failed" "Z", .fieldLink RX4 101 "NightRiders$Rider" "free" "I", .fieldLink RX4 104 "NightRiders$Rider" "legsRidden" "I", .fieldLink RX4 107 "NightRiders$Rider" "boxMinutes" "I", .fieldLink RX4 110 "NightRiders$Rider" "area" "I", .fieldLink RX4 113 "NightRiders$Rider" "kinds" "I", .methodLink RX4 55 yX4_riderAt, .instanceMethod yX4_riderAt, .selects RX4 yX4_riderAt yX4_riderAt, .initialized RX4, .code yX4_riderAt cX4_riderAt 2 (some (.object "NightRiders$Rider")), .fieldLink RX4 39 "NightRiders" "riderCount" "I", .fieldLink RX4 15 "NightRiders" "riders" "[LNightRiders$Rider;"] ++ wsX30 ++ wsX40 ++ (vx_atS RX4 88 "java/util/NoSuchElementException" ["java/lang/RuntimeException", "java/lang/Exception"]).filter goodWord)
def wsX4_isKind : List Cond := .code yX4_isKind cX4_isKind 1 (some .boolean) :: ([])
def wsX4_duty_r1 : List Cond := [Cond.fieldLink RX4 39 "NightRiders" "riderCount" "I", Cond.methodLink RX4 70 yX4_isMinute, Cond.static yX4_isMinute, Cond.initialized RX4, Cond.code yX4_isMinute cX4_isMinute 1 (some .boolean), Cond.methodLink RX4 118 yX4_isKind, Cond.static yX4_isKind, Cond.code yX4_isKind cX4_isKind 1 (some .boolean), Cond.methodLink RX4 55 yX4_riderAt, Cond.instanceMethod yX4_riderAt, Cond.selects RX4 yX4_riderAt yX4_riderAt, Cond.code yX4_riderAt cX4_riderAt 2 (some (.object "NightRiders$Rider")), Cond.fieldLink RX4 15 "NightRiders" "riders" "[LNightRiders$Rider;", Cond.methodLink RX4 121 yX3_carries, Cond.instanceMethod yX3_carries, Cond.selects RX3 yX3_carries yX3_carries, Cond.initialized RX3, Cond.code yX3_carries cX3_carries 2 (some .boolean), Cond.fieldLink RX3 22 "NightRiders$Rider" "failed" "Z", Cond.fieldLink RX3 38 "NightRiders$Rider" "kinds" "I", Cond.static yX4_hasBit, Cond.code yX4_hasBit cX4_hasBit 2 (some .boolean), Cond.methodLink RX4 124 yX3_isOnDuty, Cond.instanceMethod yX3_isOnDuty]
def wsX4_duty_r2 : List Cond := [Cond.selects RX3 yX3_isOnDuty yX3_isOnDuty, Cond.code yX3_isOnDuty cX3_isOnDuty 2 (some .boolean), Cond.fieldLink RX3 32 "NightRiders$Rider" "dutyFrom" "I", Cond.fieldLink RX3 35 "NightRiders$Rider" "dutyTo" "I"]
def wsX4_duty : List Cond := .code yX4_duty cX4_duty 6 (some .int) :: ((wsX4_duty_r1 ++ wsX4_duty_r2) ++ wsX40 ++ wsX30)
def wsX4_lastOnDuty_r1 : List Cond := [Cond.fieldLink RX4 39 "NightRiders" "riderCount" "I", Cond.fieldLink RX4 211 "NightRiders$Rider" "dutyTo" "I", Cond.methodLink RX4 131 Lib.Math.max.name, Cond.static Lib.Math.max.name, Cond.initialized "java/lang/Math", Cond.code Lib.Math.max.name Lib.Math.max.code 2 (some .int), Cond.methodLink RX4 55 yX4_riderAt, Cond.instanceMethod yX4_riderAt, Cond.selects RX4 yX4_riderAt yX4_riderAt, Cond.initialized RX4, Cond.code yX4_riderAt cX4_riderAt 2 (some (.object "NightRiders$Rider")), Cond.fieldLink RX4 15 "NightRiders" "riders" "[LNightRiders$Rider;", Cond.methodLink RX4 121 yX3_carries, Cond.instanceMethod yX3_carries, Cond.selects RX3 yX3_carries yX3_carries, Cond.initialized RX3, Cond.code yX3_carries cX3_carries 2 (some .boolean), Cond.fieldLink RX3 22 "NightRiders$Rider" "failed" "Z", Cond.fieldLink RX3 38 "NightRiders$Rider" "kinds" "I", Cond.static yX4_hasBit, Cond.code yX4_hasBit cX4_hasBit 2 (some .boolean), Cond.methodLink RX4 124 yX3_isOnDuty, Cond.instanceMethod yX3_isOnDuty, Cond.selects RX3 yX3_isOnDuty yX3_isOnDuty]
def wsX4_lastOnDuty_r2 : List Cond := [Cond.code yX3_isOnDuty cX3_isOnDuty 2 (some .boolean), Cond.fieldLink RX3 32 "NightRiders$Rider" "dutyFrom" "I", Cond.fieldLink RX3 35 "NightRiders$Rider" "dutyTo" "I"]
def wsX4_lastOnDuty : List Cond := .code yX4_lastOnDuty cX4_lastOnDuty 6 (some .int) :: ((wsX4_lastOnDuty_r1 ++ wsX4_lastOnDuty_r2) ++ wsX40 ++ wsX30)
def wsX4_bare_r1 : List Cond := [Cond.methodLink RX4 131 Lib.Math.max.name, Cond.static Lib.Math.max.name, Cond.initialized "java/lang/Math", Cond.code Lib.Math.max.name Lib.Math.max.code 2 (some .int), Cond.methodLink RX4 70 yX4_isMinute, Cond.static yX4_isMinute, Cond.initialized RX4, Cond.code yX4_isMinute cX4_isMinute 1 (some .boolean), Cond.methodLink RX4 118 yX4_isKind, Cond.static yX4_isKind, Cond.code yX4_isKind cX4_isKind 1 (some .boolean), Cond.methodLink RX4 127 yX4_lastOnDuty, Cond.instanceMethod yX4_lastOnDuty, Cond.selects RX4 yX4_lastOnDuty yX4_lastOnDuty, Cond.code yX4_lastOnDuty cX4_lastOnDuty 6 (some .int), Cond.fieldLink RX4 39 "NightRiders" "riderCount" "I", Cond.fieldLink RX4 211 "NightRiders$Rider" "dutyTo" "I", Cond.methodLink RX4 55 yX4_riderAt, Cond.instanceMethod yX4_riderAt, Cond.selects RX4 yX4_riderAt yX4_riderAt, Cond.code yX4_riderAt cX4_riderAt 2 (some (.object "NightRiders$Rider")), Cond.fieldLink RX4 15 "NightRiders" "riders" "[LNightRiders$Rider;", Cond.methodLink RX4 121 yX3_carries, Cond.instanceMethod yX3_carries]
def wsX4_bare_r2 : List Cond := [Cond.selects RX3 yX3_carries yX3_carries, Cond.initialized RX3, Cond.code yX3_carries cX3_carries 2 (some .boolean), Cond.fieldLink RX3 22 "NightRiders$Rider" "failed" "Z", Cond.fieldLink RX3 38 "NightRiders$Rider" "kinds" "I", Cond.static yX4_hasBit, Cond.code yX4_hasBit cX4_hasBit 2 (some .boolean), Cond.methodLink RX4 124 yX3_isOnDuty, Cond.instanceMethod yX3_isOnDuty, Cond.selects RX3 yX3_isOnDuty yX3_isOnDuty, Cond.code yX3_isOnDuty cX3_isOnDuty 2 (some .boolean), Cond.fieldLink RX3 32 "NightRiders$Rider" "dutyFrom" "I", Cond.fieldLink RX3 35 "NightRiders$Rider" "dutyTo" "I"]
def wsX4_bare : List Cond := .code yX4_bare cX4_bare 5 (some .int) :: ((wsX4_bare_r1 ++ wsX4_bare_r2) ++ wsX40 ++ wsX30)
def wsX4_call_r1 : List Cond := [Cond.fieldLink RX4 42 "NightRiders" "requestCount" "I", Cond.fieldLink RX4 21 "NightRiders" "requests" "[LNightRiders$Request;", Cond.classLink RX4 19 RX2, Cond.instantiable RX2 9, Cond.initialized RX2, Cond.methodLink RX4 118 yX4_isKind, Cond.static yX4_isKind, Cond.initialized RX4, Cond.code yX4_isKind cX4_isKind 1 (some .boolean), Cond.methodLink RX4 51 yX4_isPlace, Cond.instanceMethod yX4_isPlace, Cond.selects RX4 yX4_isPlace yX4_isPlace, Cond.code yX4_isPlace cX4_isPlace 2 (some .boolean), Cond.fieldLink RX4 35 "NightRiders" "placeCount" "I", Cond.methodLink RX4 70 yX4_isMinute, Cond.static yX4_isMinute, Cond.code yX4_isMinute cX4_isMinute 1 (some .boolean), Cond.methodLink RX4 136 yX2_init, Cond.instanceMethod yX2_init, Cond.code yX2_init cX2_init 6 none, Cond.methodLink RX2 3 objectInit, Cond.instanceMethod objectInit, Cond.code objectInit ⟨#[0xb1]⟩ 1 none, Cond.classLink RX2 9 RX1]
def wsX4_call_r2 : List Cond := [Cond.fieldLink RX2 11 "NightRiders$Request" "legs" "[LNightRiders$Leg;", Cond.fieldLink RX2 17 "NightRiders$Request" "legCount" "I", Cond.fieldLink RX2 21 "NightRiders$Request" "sent" "Z", Cond.fieldLink RX2 25 "NightRiders$Request" "lost" "Z", Cond.fieldLink RX2 28 "NightRiders$Request" "kind" "I", Cond.fieldLink RX2 31 "NightRiders$Request" "from" "I", Cond.fieldLink RX2 34 "NightRiders$Request" "to" "I", Cond.fieldLink RX2 37 "NightRiders$Request" "ready" "I", Cond.fieldLink RX2 40 "NightRiders$Request" "cold" "I"]
def wsX4_call : List Cond := .code yX4_call cX4_call 6 (some .int) :: ((wsX4_call_r1 ++ wsX4_call_r2) ++ wsX40 ++ wsX20)
def wsX4_keepIfBetter : List Cond := .code yX4_keepIfBetter cX4_keepIfBetter 3 none :: ([.fieldLink RX4 28 "NightRiders" "trial" "LNightRiders$Chain;", .fieldLink RX4 32 "NightRiders" "chosen" "LNightRiders$Chain;", .fieldLink RX4 239 "NightRiders$Chain" "length" "I", .methodLink RX4 154 yX0_lastEnd, .instanceMethod yX0_lastEnd, .selects RX0 yX0_lastEnd yX0_lastEnd, .initialized RX0, .code yX0_lastEnd cX0_lastEnd 1 (some .int), .fieldLink RX0 27 "NightRiders$Chain" "length" "I", .fieldLink RX0 24 "NightRiders$Chain" "ends" "[I", .methodLink RX4 281 yX0_take, .instanceMethod yX0_take, .selects RX0 yX0_take yX0_take, .code yX0_take cX0_take 3 none, .fieldLink RX0 9 "NightRiders$Chain" "riders" "[I", .fieldLink RX0 15 "NightRiders$Chain" "froms" "[I", .fieldLink RX0 18 "NightRiders$Chain" "tos" "[I", .fieldLink RX0 21 "NightRiders$Chain" "starts" "[I"] ++ wsX40 ++ wsX00)
def wsX4_thereFrom : List Cond := .code yX4_thereFrom cX4_thereFrom 4 (some .int) :: ([.fieldLink RX4 94 "NightRiders$Rider" "at" "I", .fieldLink RX4 101 "NightRiders$Rider" "free" "I", .fieldLink RX4 224 "NightRiders$Rider" "dutyFrom" "I", .methodLink RX4 131 Lib.Math.max.name, .static Lib.Math.max.name, .initialized "java/lang/Math", .code Lib.Math.max.name Lib.Math.max.code 2 (some .int), .methodLink RX4 80 yX4_wayOf, .instanceMethod yX4_wayOf, .selects RX4 yX4_wayOf yX4_wayOf, .initialized RX4, .code yX4_wayOf cX4_wayOf 4 (some .int), .fieldLink RX4 214 "NightRiders$Rider" "ways" "[I", .methodLink RX4 51 yX4_isPlace, .instanceMethod yX4_isPlace, .selects RX4 yX4_isPlace yX4_isPlace, .code yX4_isPlace cX4_isPlace 2 (some .boolean), .fieldLink RX4 35 "NightRiders" "placeCount" "I"] ++ wsX30 ++ wsX40)
def wsX4_isTooLate : List Cond := .code yX4_isTooLate cX4_isTooLate 2 (some .boolean) :: ([.fieldLink RX4 32 "NightRiders" "chosen" "LNightRiders$Chain;", .fieldLink RX4 239 "NightRiders$Chain" "length" "I", .methodLink RX4 154 yX0_lastEnd, .instanceMethod yX0_lastEnd, .selects RX0 yX0_lastEnd yX0_lastEnd, .initialized RX0, .code yX0_lastEnd cX0_lastEnd 1 (some .int), .fieldLink RX0 27 "NightRiders$Chain" "length" "I", .fieldLink RX0 24 "NightRiders$Chain" "ends" "[I"] ++ wsX40 ++ wsX00)
def wsX4_waitsUntil : List Cond := .code yX4_waitsUntil cX4_waitsUntil 4 (some .boolean) :: ([.fieldLink RX4 28 "NightRiders" "trial" "LNightRiders$Chain;", .fieldLink RX4 263 "NightRiders$Chain" "riders" "[I", .fieldLink RX4 211 "NightRiders$Rider" "dutyTo" "I", .methodLink RX4 55 yX4_riderAt, .instanceMethod yX4_riderAt, .selects RX4 yX4_riderAt yX4_riderAt, .initialized RX4, .code yX4_riderAt cX4_riderAt 2 (some (.object "NightRiders$Rider")), .fieldLink RX4 39 "NightRiders" "riderCount" "I", .fieldLink RX4 15 "NightRiders" "riders" "[LNightRiders$Rider;"] ++ wsX40 ++ wsX00 ++ wsX30)
def wsX4_tryEnd_r1 : List Cond := [Cond.fieldLink RX4 28 "NightRiders" "trial" "LNightRiders$Chain;", Cond.fieldLink RX4 211 "NightRiders$Rider" "dutyTo" "I", Cond.fieldLink RX4 236 "NightRiders$Chain" "goal" "I", Cond.methodLink RX4 269 yX0_fromOf, Cond.instanceMethod yX0_fromOf, Cond.selects RX0 yX0_fromOf yX0_fromOf, Cond.initialized RX0, Cond.code yX0_fromOf cX0_fromOf 2 (some .int), Cond.fieldLink RX0 15 "NightRiders$Chain" "froms" "[I", Cond.methodLink RX4 80 yX4_wayOf, Cond.instanceMethod yX4_wayOf, Cond.selects RX4 yX4_wayOf yX4_wayOf, Cond.initialized RX4, Cond.code yX4_wayOf cX4_wayOf 4 (some .int), Cond.fieldLink RX4 214 "NightRiders$Rider" "ways" "[I", Cond.methodLink RX4 51 yX4_isPlace, Cond.instanceMethod yX4_isPlace, Cond.selects RX4 yX4_isPlace yX4_isPlace, Cond.code yX4_isPlace cX4_isPlace 2 (some .boolean), Cond.fieldLink RX4 35 "NightRiders" "placeCount" "I", Cond.methodLink RX4 272 yX0_comesFrom, Cond.instanceMethod yX0_comesFrom, Cond.selects RX0 yX0_comesFrom yX0_comesFrom, Cond.code yX0_comesFrom cX0_comesFrom 4 (some .boolean)]
def wsX4_tryEnd_r2 : List Cond := [Cond.methodLink RX4 275 yX0_close, Cond.instanceMethod yX0_close, Cond.selects RX0 yX0_close yX0_close, Cond.code yX0_close cX0_close 4 none, Cond.fieldLink RX0 18 "NightRiders$Chain" "tos" "[I", Cond.fieldLink RX0 24 "NightRiders$Chain" "ends" "[I", Cond.fieldLink RX0 27 "NightRiders$Chain" "length" "I", Cond.methodLink RX4 278 yX4_keepIfBetter, Cond.instanceMethod yX4_keepIfBetter, Cond.selects RX4 yX4_keepIfBetter yX4_keepIfBetter, Cond.code yX4_keepIfBetter cX4_keepIfBetter 3 none, Cond.fieldLink RX4 32 "NightRiders" "chosen" "LNightRiders$Chain;", Cond.fieldLink RX4 239 "NightRiders$Chain" "length" "I", Cond.methodLink RX4 154 yX0_lastEnd, Cond.instanceMethod yX0_lastEnd, Cond.selects RX0 yX0_lastEnd yX0_lastEnd, Cond.code yX0_lastEnd cX0_lastEnd 1 (some .int), Cond.methodLink RX4 281 yX0_take, Cond.instanceMethod yX0_take, Cond.selects RX0 yX0_take yX0_take, Cond.code yX0_take cX0_take 3 none, Cond.fieldLink RX0 9 "NightRiders$Chain" "riders" "[I", Cond.fieldLink RX0 21 "NightRiders$Chain" "starts" "[I", Cond.methodLink RX4 242 yX4_tryRiders]
def wsX4_tryEnd_r3 : List Cond := [Cond.instanceMethod yX4_tryRiders, Cond.selects RX4 yX4_tryRiders yX4_tryRiders, Cond.code yX4_tryEnds cX4_tryEnds 5 none, Cond.methodLink RX4 265 yX4_tryEnd, Cond.instanceMethod yX4_tryEnd, Cond.selects RX4 yX4_tryEnd yX4_tryEnd, Cond.code yX4_tryRiders cX4_tryRiders 8 none, Cond.fieldLink RX4 39 "NightRiders" "riderCount" "I", Cond.fieldLink RX4 235 "NightRiders$Chain" "kind" "I", Cond.methodLink RX4 131 Lib.Math.max.name, Cond.static Lib.Math.max.name, Cond.initialized "java/lang/Math", Cond.code Lib.Math.max.name Lib.Math.max.code 2 (some .int), Cond.methodLink RX4 55 yX4_riderAt, Cond.instanceMethod yX4_riderAt, Cond.selects RX4 yX4_riderAt yX4_riderAt, Cond.code yX4_riderAt cX4_riderAt 2 (some (.object "NightRiders$Rider")), Cond.fieldLink RX4 15 "NightRiders" "riders" "[LNightRiders$Rider;", Cond.methodLink RX4 121 yX3_carries, Cond.instanceMethod yX3_carries, Cond.selects RX3 yX3_carries yX3_carries, Cond.initialized RX3, Cond.code yX3_carries cX3_carries 2 (some .boolean), Cond.fieldLink RX3 22 "NightRiders$Rider" "failed" "Z"]
def wsX4_tryEnd_r4 : List Cond := [Cond.fieldLink RX3 38 "NightRiders$Rider" "kinds" "I", Cond.static yX4_hasBit, Cond.code yX4_hasBit cX4_hasBit 2 (some .boolean), Cond.methodLink RX4 246 yX0_isRiddenBy, Cond.instanceMethod yX0_isRiddenBy, Cond.selects RX0 yX0_isRiddenBy yX0_isRiddenBy, Cond.code yX0_isRiddenBy cX0_isRiddenBy 4 (some .boolean), Cond.methodLink RX4 207 yX4_thereFrom, Cond.instanceMethod yX4_thereFrom, Cond.selects RX4 yX4_thereFrom yX4_thereFrom, Cond.code yX4_thereFrom cX4_thereFrom 4 (some .int), Cond.fieldLink RX4 94 "NightRiders$Rider" "at" "I", Cond.fieldLink RX4 101 "NightRiders$Rider" "free" "I", Cond.fieldLink RX4 224 "NightRiders$Rider" "dutyFrom" "I", Cond.methodLink RX4 249 yX4_isTooLate, Cond.instanceMethod yX4_isTooLate, Cond.selects RX4 yX4_isTooLate yX4_isTooLate, Cond.code yX4_isTooLate cX4_isTooLate 2 (some .boolean), Cond.methodLink RX4 252 yX4_waitsUntil, Cond.instanceMethod yX4_waitsUntil, Cond.selects RX4 yX4_waitsUntil yX4_waitsUntil, Cond.code yX4_waitsUntil cX4_waitsUntil 4 (some .boolean), Cond.fieldLink RX4 263 "NightRiders$Chain" "riders" "[I", Cond.methodLink RX4 255 yX0_open]
def wsX4_tryEnd_r5 : List Cond := [Cond.instanceMethod yX0_open, Cond.selects RX0 yX0_open yX0_open, Cond.code yX0_open cX0_open 5 none, Cond.methodLink RX4 259 yX4_tryEnds, Cond.instanceMethod yX4_tryEnds, Cond.selects RX4 yX4_tryEnds yX4_tryEnds]
def wsX4_tryEnd : List Cond := .code yX4_tryEnd cX4_tryEnd 6 none :: ((wsX4_tryEnd_r1 ++ (wsX4_tryEnd_r2 ++ (wsX4_tryEnd_r3 ++ (wsX4_tryEnd_r4 ++ wsX4_tryEnd_r5)))) ++ wsX40 ++ wsX30 ++ wsX00)
def wsX4_tryEnds_r1 : List Cond := [Cond.fieldLink RX4 28 "NightRiders" "trial" "LNightRiders$Chain;", Cond.fieldLink RX4 236 "NightRiders$Chain" "goal" "I", Cond.fieldLink RX4 35 "NightRiders" "placeCount" "I", Cond.methodLink RX4 265 yX4_tryEnd, Cond.instanceMethod yX4_tryEnd, Cond.selects RX4 yX4_tryEnd yX4_tryEnd, Cond.initialized RX4, Cond.code yX4_tryEnd cX4_tryEnd 6 none, Cond.fieldLink RX4 211 "NightRiders$Rider" "dutyTo" "I", Cond.methodLink RX4 269 yX0_fromOf, Cond.instanceMethod yX0_fromOf, Cond.selects RX0 yX0_fromOf yX0_fromOf, Cond.initialized RX0, Cond.code yX0_fromOf cX0_fromOf 2 (some .int), Cond.fieldLink RX0 15 "NightRiders$Chain" "froms" "[I", Cond.methodLink RX4 80 yX4_wayOf, Cond.instanceMethod yX4_wayOf, Cond.selects RX4 yX4_wayOf yX4_wayOf, Cond.code yX4_wayOf cX4_wayOf 4 (some .int), Cond.fieldLink RX4 214 "NightRiders$Rider" "ways" "[I", Cond.methodLink RX4 51 yX4_isPlace, Cond.instanceMethod yX4_isPlace, Cond.selects RX4 yX4_isPlace yX4_isPlace, Cond.code yX4_isPlace cX4_isPlace 2 (some .boolean)]
def wsX4_tryEnds_r2 : List Cond := [Cond.methodLink RX4 272 yX0_comesFrom, Cond.instanceMethod yX0_comesFrom, Cond.selects RX0 yX0_comesFrom yX0_comesFrom, Cond.code yX0_comesFrom cX0_comesFrom 4 (some .boolean), Cond.methodLink RX4 275 yX0_close, Cond.instanceMethod yX0_close, Cond.selects RX0 yX0_close yX0_close, Cond.code yX0_close cX0_close 4 none, Cond.fieldLink RX0 18 "NightRiders$Chain" "tos" "[I", Cond.fieldLink RX0 24 "NightRiders$Chain" "ends" "[I", Cond.fieldLink RX0 27 "NightRiders$Chain" "length" "I", Cond.methodLink RX4 278 yX4_keepIfBetter, Cond.instanceMethod yX4_keepIfBetter, Cond.selects RX4 yX4_keepIfBetter yX4_keepIfBetter, Cond.code yX4_keepIfBetter cX4_keepIfBetter 3 none, Cond.fieldLink RX4 32 "NightRiders" "chosen" "LNightRiders$Chain;", Cond.fieldLink RX4 239 "NightRiders$Chain" "length" "I", Cond.methodLink RX4 154 yX0_lastEnd, Cond.instanceMethod yX0_lastEnd, Cond.selects RX0 yX0_lastEnd yX0_lastEnd, Cond.code yX0_lastEnd cX0_lastEnd 1 (some .int), Cond.methodLink RX4 281 yX0_take, Cond.instanceMethod yX0_take, Cond.selects RX0 yX0_take yX0_take]
def wsX4_tryEnds_r3 : List Cond := [Cond.code yX0_take cX0_take 3 none, Cond.fieldLink RX0 9 "NightRiders$Chain" "riders" "[I", Cond.fieldLink RX0 21 "NightRiders$Chain" "starts" "[I", Cond.methodLink RX4 242 yX4_tryRiders, Cond.instanceMethod yX4_tryRiders, Cond.selects RX4 yX4_tryRiders yX4_tryRiders, Cond.code yX4_tryRiders cX4_tryRiders 8 none, Cond.fieldLink RX4 39 "NightRiders" "riderCount" "I", Cond.fieldLink RX4 235 "NightRiders$Chain" "kind" "I", Cond.methodLink RX4 131 Lib.Math.max.name, Cond.static Lib.Math.max.name, Cond.initialized "java/lang/Math", Cond.code Lib.Math.max.name Lib.Math.max.code 2 (some .int), Cond.methodLink RX4 55 yX4_riderAt, Cond.instanceMethod yX4_riderAt, Cond.selects RX4 yX4_riderAt yX4_riderAt, Cond.code yX4_riderAt cX4_riderAt 2 (some (.object "NightRiders$Rider")), Cond.fieldLink RX4 15 "NightRiders" "riders" "[LNightRiders$Rider;", Cond.methodLink RX4 121 yX3_carries, Cond.instanceMethod yX3_carries, Cond.selects RX3 yX3_carries yX3_carries, Cond.initialized RX3, Cond.code yX3_carries cX3_carries 2 (some .boolean), Cond.fieldLink RX3 22 "NightRiders$Rider" "failed" "Z"]
def wsX4_tryEnds_r4 : List Cond := [Cond.fieldLink RX3 38 "NightRiders$Rider" "kinds" "I", Cond.static yX4_hasBit, Cond.code yX4_hasBit cX4_hasBit 2 (some .boolean), Cond.methodLink RX4 246 yX0_isRiddenBy, Cond.instanceMethod yX0_isRiddenBy, Cond.selects RX0 yX0_isRiddenBy yX0_isRiddenBy, Cond.code yX0_isRiddenBy cX0_isRiddenBy 4 (some .boolean), Cond.methodLink RX4 207 yX4_thereFrom, Cond.instanceMethod yX4_thereFrom, Cond.selects RX4 yX4_thereFrom yX4_thereFrom, Cond.code yX4_thereFrom cX4_thereFrom 4 (some .int), Cond.fieldLink RX4 94 "NightRiders$Rider" "at" "I", Cond.fieldLink RX4 101 "NightRiders$Rider" "free" "I", Cond.fieldLink RX4 224 "NightRiders$Rider" "dutyFrom" "I", Cond.methodLink RX4 249 yX4_isTooLate, Cond.instanceMethod yX4_isTooLate, Cond.selects RX4 yX4_isTooLate yX4_isTooLate, Cond.code yX4_isTooLate cX4_isTooLate 2 (some .boolean), Cond.methodLink RX4 252 yX4_waitsUntil, Cond.instanceMethod yX4_waitsUntil, Cond.selects RX4 yX4_waitsUntil yX4_waitsUntil, Cond.code yX4_waitsUntil cX4_waitsUntil 4 (some .boolean), Cond.fieldLink RX4 263 "NightRiders$Chain" "riders" "[I", Cond.methodLink RX4 255 yX0_open]
def wsX4_tryEnds_r5 : List Cond := [Cond.instanceMethod yX0_open, Cond.selects RX0 yX0_open yX0_open, Cond.code yX0_open cX0_open 5 none, Cond.methodLink RX4 259 yX4_tryEnds, Cond.instanceMethod yX4_tryEnds, Cond.selects RX4 yX4_tryEnds yX4_tryEnds]
def wsX4_tryEnds : List Cond := .code yX4_tryEnds cX4_tryEnds 5 none :: ((wsX4_tryEnds_r1 ++ (wsX4_tryEnds_r2 ++ (wsX4_tryEnds_r3 ++ (wsX4_tryEnds_r4 ++ wsX4_tryEnds_r5)))) ++ wsX40 ++ wsX30 ++ wsX00)
def wsX4_tryRiders_r1 : List Cond := [Cond.fieldLink RX4 39 "NightRiders" "riderCount" "I", Cond.fieldLink RX4 28 "NightRiders" "trial" "LNightRiders$Chain;", Cond.fieldLink RX4 235 "NightRiders$Chain" "kind" "I", Cond.methodLink RX4 131 Lib.Math.max.name, Cond.static Lib.Math.max.name, Cond.initialized "java/lang/Math", Cond.code Lib.Math.max.name Lib.Math.max.code 2 (some .int), Cond.methodLink RX4 55 yX4_riderAt, Cond.instanceMethod yX4_riderAt, Cond.selects RX4 yX4_riderAt yX4_riderAt, Cond.initialized RX4, Cond.code yX4_riderAt cX4_riderAt 2 (some (.object "NightRiders$Rider")), Cond.fieldLink RX4 15 "NightRiders" "riders" "[LNightRiders$Rider;", Cond.methodLink RX4 121 yX3_carries, Cond.instanceMethod yX3_carries, Cond.selects RX3 yX3_carries yX3_carries, Cond.initialized RX3, Cond.code yX3_carries cX3_carries 2 (some .boolean), Cond.fieldLink RX3 22 "NightRiders$Rider" "failed" "Z", Cond.fieldLink RX3 38 "NightRiders$Rider" "kinds" "I", Cond.static yX4_hasBit, Cond.code yX4_hasBit cX4_hasBit 2 (some .boolean), Cond.methodLink RX4 246 yX0_isRiddenBy, Cond.instanceMethod yX0_isRiddenBy]
def wsX4_tryRiders_r2 : List Cond := [Cond.selects RX0 yX0_isRiddenBy yX0_isRiddenBy, Cond.initialized RX0, Cond.code yX0_isRiddenBy cX0_isRiddenBy 4 (some .boolean), Cond.fieldLink RX0 9 "NightRiders$Chain" "riders" "[I", Cond.methodLink RX4 207 yX4_thereFrom, Cond.instanceMethod yX4_thereFrom, Cond.selects RX4 yX4_thereFrom yX4_thereFrom, Cond.code yX4_thereFrom cX4_thereFrom 4 (some .int), Cond.fieldLink RX4 94 "NightRiders$Rider" "at" "I", Cond.fieldLink RX4 101 "NightRiders$Rider" "free" "I", Cond.fieldLink RX4 224 "NightRiders$Rider" "dutyFrom" "I", Cond.methodLink RX4 80 yX4_wayOf, Cond.instanceMethod yX4_wayOf, Cond.selects RX4 yX4_wayOf yX4_wayOf, Cond.code yX4_wayOf cX4_wayOf 4 (some .int), Cond.fieldLink RX4 214 "NightRiders$Rider" "ways" "[I", Cond.methodLink RX4 51 yX4_isPlace, Cond.instanceMethod yX4_isPlace, Cond.selects RX4 yX4_isPlace yX4_isPlace, Cond.code yX4_isPlace cX4_isPlace 2 (some .boolean), Cond.fieldLink RX4 35 "NightRiders" "placeCount" "I", Cond.methodLink RX4 249 yX4_isTooLate, Cond.instanceMethod yX4_isTooLate, Cond.selects RX4 yX4_isTooLate yX4_isTooLate]
def wsX4_tryRiders_r3 : List Cond := [Cond.code yX4_isTooLate cX4_isTooLate 2 (some .boolean), Cond.fieldLink RX4 32 "NightRiders" "chosen" "LNightRiders$Chain;", Cond.fieldLink RX4 239 "NightRiders$Chain" "length" "I", Cond.methodLink RX4 154 yX0_lastEnd, Cond.instanceMethod yX0_lastEnd, Cond.selects RX0 yX0_lastEnd yX0_lastEnd, Cond.code yX0_lastEnd cX0_lastEnd 1 (some .int), Cond.fieldLink RX0 27 "NightRiders$Chain" "length" "I", Cond.fieldLink RX0 24 "NightRiders$Chain" "ends" "[I", Cond.methodLink RX4 252 yX4_waitsUntil, Cond.instanceMethod yX4_waitsUntil, Cond.selects RX4 yX4_waitsUntil yX4_waitsUntil, Cond.code yX4_waitsUntil cX4_waitsUntil 4 (some .boolean), Cond.fieldLink RX4 263 "NightRiders$Chain" "riders" "[I", Cond.fieldLink RX4 211 "NightRiders$Rider" "dutyTo" "I", Cond.methodLink RX4 255 yX0_open, Cond.instanceMethod yX0_open, Cond.selects RX0 yX0_open yX0_open, Cond.code yX0_open cX0_open 5 none, Cond.fieldLink RX0 15 "NightRiders$Chain" "froms" "[I", Cond.fieldLink RX0 21 "NightRiders$Chain" "starts" "[I", Cond.methodLink RX4 259 yX4_tryEnds, Cond.instanceMethod yX4_tryEnds, Cond.selects RX4 yX4_tryEnds yX4_tryEnds]
def wsX4_tryRiders_r4 : List Cond := [Cond.code yX4_tryEnd cX4_tryEnd 6 none, Cond.fieldLink RX4 236 "NightRiders$Chain" "goal" "I", Cond.methodLink RX4 269 yX0_fromOf, Cond.instanceMethod yX0_fromOf, Cond.selects RX0 yX0_fromOf yX0_fromOf, Cond.code yX0_fromOf cX0_fromOf 2 (some .int), Cond.methodLink RX4 272 yX0_comesFrom, Cond.instanceMethod yX0_comesFrom, Cond.selects RX0 yX0_comesFrom yX0_comesFrom, Cond.code yX0_comesFrom cX0_comesFrom 4 (some .boolean), Cond.methodLink RX4 275 yX0_close, Cond.instanceMethod yX0_close, Cond.selects RX0 yX0_close yX0_close, Cond.code yX0_close cX0_close 4 none, Cond.fieldLink RX0 18 "NightRiders$Chain" "tos" "[I", Cond.methodLink RX4 278 yX4_keepIfBetter, Cond.instanceMethod yX4_keepIfBetter, Cond.selects RX4 yX4_keepIfBetter yX4_keepIfBetter, Cond.code yX4_keepIfBetter cX4_keepIfBetter 3 none, Cond.methodLink RX4 281 yX0_take, Cond.instanceMethod yX0_take, Cond.selects RX0 yX0_take yX0_take, Cond.code yX0_take cX0_take 3 none, Cond.methodLink RX4 242 yX4_tryRiders]
def wsX4_tryRiders_r5 : List Cond := [Cond.instanceMethod yX4_tryRiders, Cond.selects RX4 yX4_tryRiders yX4_tryRiders, Cond.code yX4_tryEnds cX4_tryEnds 5 none, Cond.methodLink RX4 265 yX4_tryEnd, Cond.instanceMethod yX4_tryEnd, Cond.selects RX4 yX4_tryEnd yX4_tryEnd]
def wsX4_tryRiders : List Cond := .code yX4_tryRiders cX4_tryRiders 8 none :: ((wsX4_tryRiders_r1 ++ (wsX4_tryRiders_r2 ++ (wsX4_tryRiders_r3 ++ (wsX4_tryRiders_r4 ++ wsX4_tryRiders_r5)))) ++ wsX40 ++ wsX30 ++ wsX00)
def wsX4_findChain_r1 : List Cond := [Cond.fieldLink RX4 28 "NightRiders" "trial" "LNightRiders$Chain;", Cond.fieldLink RX4 163 "NightRiders$Request" "kind" "I", Cond.fieldLink RX4 235 "NightRiders$Chain" "kind" "I", Cond.fieldLink RX4 166 "NightRiders$Request" "to" "I", Cond.fieldLink RX4 236 "NightRiders$Chain" "goal" "I", Cond.fieldLink RX4 32 "NightRiders" "chosen" "LNightRiders$Chain;", Cond.fieldLink RX4 239 "NightRiders$Chain" "length" "I", Cond.methodLink RX4 242 yX4_tryRiders, Cond.instanceMethod yX4_tryRiders, Cond.selects RX4 yX4_tryRiders yX4_tryRiders, Cond.initialized RX4, Cond.code yX4_tryRiders cX4_tryRiders 8 none, Cond.fieldLink RX4 39 "NightRiders" "riderCount" "I", Cond.methodLink RX4 131 Lib.Math.max.name, Cond.static Lib.Math.max.name, Cond.initialized "java/lang/Math", Cond.code Lib.Math.max.name Lib.Math.max.code 2 (some .int), Cond.methodLink RX4 55 yX4_riderAt, Cond.instanceMethod yX4_riderAt, Cond.selects RX4 yX4_riderAt yX4_riderAt, Cond.code yX4_riderAt cX4_riderAt 2 (some (.object "NightRiders$Rider")), Cond.fieldLink RX4 15 "NightRiders" "riders" "[LNightRiders$Rider;", Cond.methodLink RX4 121 yX3_carries, Cond.instanceMethod yX3_carries]
def wsX4_findChain_r2 : List Cond := [Cond.selects RX3 yX3_carries yX3_carries, Cond.initialized RX3, Cond.code yX3_carries cX3_carries 2 (some .boolean), Cond.fieldLink RX3 22 "NightRiders$Rider" "failed" "Z", Cond.fieldLink RX3 38 "NightRiders$Rider" "kinds" "I", Cond.static yX4_hasBit, Cond.code yX4_hasBit cX4_hasBit 2 (some .boolean), Cond.methodLink RX4 246 yX0_isRiddenBy, Cond.instanceMethod yX0_isRiddenBy, Cond.selects RX0 yX0_isRiddenBy yX0_isRiddenBy, Cond.initialized RX0, Cond.code yX0_isRiddenBy cX0_isRiddenBy 4 (some .boolean), Cond.fieldLink RX0 9 "NightRiders$Chain" "riders" "[I", Cond.methodLink RX4 207 yX4_thereFrom, Cond.instanceMethod yX4_thereFrom, Cond.selects RX4 yX4_thereFrom yX4_thereFrom, Cond.code yX4_thereFrom cX4_thereFrom 4 (some .int), Cond.fieldLink RX4 94 "NightRiders$Rider" "at" "I", Cond.fieldLink RX4 101 "NightRiders$Rider" "free" "I", Cond.fieldLink RX4 224 "NightRiders$Rider" "dutyFrom" "I", Cond.methodLink RX4 80 yX4_wayOf, Cond.instanceMethod yX4_wayOf, Cond.selects RX4 yX4_wayOf yX4_wayOf, Cond.code yX4_wayOf cX4_wayOf 4 (some .int)]
def wsX4_findChain_r3 : List Cond := [Cond.fieldLink RX4 214 "NightRiders$Rider" "ways" "[I", Cond.methodLink RX4 51 yX4_isPlace, Cond.instanceMethod yX4_isPlace, Cond.selects RX4 yX4_isPlace yX4_isPlace, Cond.code yX4_isPlace cX4_isPlace 2 (some .boolean), Cond.fieldLink RX4 35 "NightRiders" "placeCount" "I", Cond.methodLink RX4 249 yX4_isTooLate, Cond.instanceMethod yX4_isTooLate, Cond.selects RX4 yX4_isTooLate yX4_isTooLate, Cond.code yX4_isTooLate cX4_isTooLate 2 (some .boolean), Cond.methodLink RX4 154 yX0_lastEnd, Cond.instanceMethod yX0_lastEnd, Cond.selects RX0 yX0_lastEnd yX0_lastEnd, Cond.code yX0_lastEnd cX0_lastEnd 1 (some .int), Cond.fieldLink RX0 27 "NightRiders$Chain" "length" "I", Cond.fieldLink RX0 24 "NightRiders$Chain" "ends" "[I", Cond.methodLink RX4 252 yX4_waitsUntil, Cond.instanceMethod yX4_waitsUntil, Cond.selects RX4 yX4_waitsUntil yX4_waitsUntil, Cond.code yX4_waitsUntil cX4_waitsUntil 4 (some .boolean), Cond.fieldLink RX4 263 "NightRiders$Chain" "riders" "[I", Cond.fieldLink RX4 211 "NightRiders$Rider" "dutyTo" "I", Cond.methodLink RX4 255 yX0_open, Cond.instanceMethod yX0_open]
def wsX4_findChain_r4 : List Cond := [Cond.selects RX0 yX0_open yX0_open, Cond.code yX0_open cX0_open 5 none, Cond.fieldLink RX0 15 "NightRiders$Chain" "froms" "[I", Cond.fieldLink RX0 21 "NightRiders$Chain" "starts" "[I", Cond.methodLink RX4 259 yX4_tryEnds, Cond.instanceMethod yX4_tryEnds, Cond.selects RX4 yX4_tryEnds yX4_tryEnds, Cond.code yX4_tryEnd cX4_tryEnd 6 none, Cond.methodLink RX4 269 yX0_fromOf, Cond.instanceMethod yX0_fromOf, Cond.selects RX0 yX0_fromOf yX0_fromOf, Cond.code yX0_fromOf cX0_fromOf 2 (some .int), Cond.methodLink RX4 272 yX0_comesFrom, Cond.instanceMethod yX0_comesFrom, Cond.selects RX0 yX0_comesFrom yX0_comesFrom, Cond.code yX0_comesFrom cX0_comesFrom 4 (some .boolean), Cond.methodLink RX4 275 yX0_close, Cond.instanceMethod yX0_close, Cond.selects RX0 yX0_close yX0_close, Cond.code yX0_close cX0_close 4 none, Cond.fieldLink RX0 18 "NightRiders$Chain" "tos" "[I", Cond.methodLink RX4 278 yX4_keepIfBetter, Cond.instanceMethod yX4_keepIfBetter, Cond.selects RX4 yX4_keepIfBetter yX4_keepIfBetter]
def wsX4_findChain_r5 : List Cond := [Cond.code yX4_keepIfBetter cX4_keepIfBetter 3 none, Cond.methodLink RX4 281 yX0_take, Cond.instanceMethod yX0_take, Cond.selects RX0 yX0_take yX0_take, Cond.code yX0_take cX0_take 3 none, Cond.code yX4_tryEnds cX4_tryEnds 5 none, Cond.methodLink RX4 265 yX4_tryEnd, Cond.instanceMethod yX4_tryEnd, Cond.selects RX4 yX4_tryEnd yX4_tryEnd]
def wsX4_findChain : List Cond := .code yX4_findChain cX4_findChain 4 (some .boolean) :: ((wsX4_findChain_r1 ++ (wsX4_findChain_r2 ++ (wsX4_findChain_r3 ++ (wsX4_findChain_r4 ++ wsX4_findChain_r5)))) ++ wsX40 ++ wsX20 ++ wsX00 ++ wsX30)
def wsX4_best_r1 : List Cond := [Cond.fieldLink RX4 141 "NightRiders$Request" "sent" "Z", Cond.fieldLink RX4 144 "NightRiders$Request" "from" "I", Cond.fieldLink RX4 147 "NightRiders$Request" "ready" "I", Cond.fieldLink RX4 32 "NightRiders" "chosen" "LNightRiders$Chain;", Cond.methodLink RX4 137 yX4_requestAt, Cond.instanceMethod yX4_requestAt, Cond.selects RX4 yX4_requestAt yX4_requestAt, Cond.initialized RX4, Cond.code yX4_requestAt cX4_requestAt 2 (some (.object "NightRiders$Request")), Cond.fieldLink RX4 42 "NightRiders" "requestCount" "I", Cond.fieldLink RX4 21 "NightRiders" "requests" "[LNightRiders$Request;", Cond.methodLink RX4 150 yX4_findChain, Cond.instanceMethod yX4_findChain, Cond.selects RX4 yX4_findChain yX4_findChain, Cond.code yX4_findChain cX4_findChain 4 (some .boolean), Cond.fieldLink RX4 28 "NightRiders" "trial" "LNightRiders$Chain;", Cond.fieldLink RX4 163 "NightRiders$Request" "kind" "I", Cond.fieldLink RX4 235 "NightRiders$Chain" "kind" "I", Cond.fieldLink RX4 166 "NightRiders$Request" "to" "I", Cond.fieldLink RX4 236 "NightRiders$Chain" "goal" "I", Cond.fieldLink RX4 239 "NightRiders$Chain" "length" "I", Cond.methodLink RX4 242 yX4_tryRiders, Cond.instanceMethod yX4_tryRiders, Cond.selects RX4 yX4_tryRiders yX4_tryRiders]
def wsX4_best_r2 : List Cond := [Cond.code yX4_tryRiders cX4_tryRiders 8 none, Cond.fieldLink RX4 39 "NightRiders" "riderCount" "I", Cond.methodLink RX4 131 Lib.Math.max.name, Cond.static Lib.Math.max.name, Cond.initialized "java/lang/Math", Cond.code Lib.Math.max.name Lib.Math.max.code 2 (some .int), Cond.methodLink RX4 55 yX4_riderAt, Cond.instanceMethod yX4_riderAt, Cond.selects RX4 yX4_riderAt yX4_riderAt, Cond.code yX4_riderAt cX4_riderAt 2 (some (.object "NightRiders$Rider")), Cond.fieldLink RX4 15 "NightRiders" "riders" "[LNightRiders$Rider;", Cond.methodLink RX4 121 yX3_carries, Cond.instanceMethod yX3_carries, Cond.selects RX3 yX3_carries yX3_carries, Cond.initialized RX3, Cond.code yX3_carries cX3_carries 2 (some .boolean), Cond.fieldLink RX3 22 "NightRiders$Rider" "failed" "Z", Cond.fieldLink RX3 38 "NightRiders$Rider" "kinds" "I", Cond.static yX4_hasBit, Cond.code yX4_hasBit cX4_hasBit 2 (some .boolean), Cond.methodLink RX4 246 yX0_isRiddenBy, Cond.instanceMethod yX0_isRiddenBy, Cond.selects RX0 yX0_isRiddenBy yX0_isRiddenBy, Cond.initialized RX0]
def wsX4_best_r3 : List Cond := [Cond.code yX0_isRiddenBy cX0_isRiddenBy 4 (some .boolean), Cond.fieldLink RX0 9 "NightRiders$Chain" "riders" "[I", Cond.methodLink RX4 207 yX4_thereFrom, Cond.instanceMethod yX4_thereFrom, Cond.selects RX4 yX4_thereFrom yX4_thereFrom, Cond.code yX4_thereFrom cX4_thereFrom 4 (some .int), Cond.fieldLink RX4 94 "NightRiders$Rider" "at" "I", Cond.fieldLink RX4 101 "NightRiders$Rider" "free" "I", Cond.fieldLink RX4 224 "NightRiders$Rider" "dutyFrom" "I", Cond.methodLink RX4 80 yX4_wayOf, Cond.instanceMethod yX4_wayOf, Cond.selects RX4 yX4_wayOf yX4_wayOf, Cond.code yX4_wayOf cX4_wayOf 4 (some .int), Cond.fieldLink RX4 214 "NightRiders$Rider" "ways" "[I", Cond.methodLink RX4 51 yX4_isPlace, Cond.instanceMethod yX4_isPlace, Cond.selects RX4 yX4_isPlace yX4_isPlace, Cond.code yX4_isPlace cX4_isPlace 2 (some .boolean), Cond.fieldLink RX4 35 "NightRiders" "placeCount" "I", Cond.methodLink RX4 249 yX4_isTooLate, Cond.instanceMethod yX4_isTooLate, Cond.selects RX4 yX4_isTooLate yX4_isTooLate, Cond.code yX4_isTooLate cX4_isTooLate 2 (some .boolean), Cond.methodLink RX4 154 yX0_lastEnd]
def wsX4_best_r4 : List Cond := [Cond.instanceMethod yX0_lastEnd, Cond.selects RX0 yX0_lastEnd yX0_lastEnd, Cond.code yX0_lastEnd cX0_lastEnd 1 (some .int), Cond.fieldLink RX0 27 "NightRiders$Chain" "length" "I", Cond.fieldLink RX0 24 "NightRiders$Chain" "ends" "[I", Cond.methodLink RX4 252 yX4_waitsUntil, Cond.instanceMethod yX4_waitsUntil, Cond.selects RX4 yX4_waitsUntil yX4_waitsUntil, Cond.code yX4_waitsUntil cX4_waitsUntil 4 (some .boolean), Cond.fieldLink RX4 263 "NightRiders$Chain" "riders" "[I", Cond.fieldLink RX4 211 "NightRiders$Rider" "dutyTo" "I", Cond.methodLink RX4 255 yX0_open, Cond.instanceMethod yX0_open, Cond.selects RX0 yX0_open yX0_open, Cond.code yX0_open cX0_open 5 none, Cond.fieldLink RX0 15 "NightRiders$Chain" "froms" "[I", Cond.fieldLink RX0 21 "NightRiders$Chain" "starts" "[I", Cond.methodLink RX4 259 yX4_tryEnds, Cond.instanceMethod yX4_tryEnds, Cond.selects RX4 yX4_tryEnds yX4_tryEnds, Cond.code yX4_tryEnd cX4_tryEnd 6 none, Cond.methodLink RX4 269 yX0_fromOf, Cond.instanceMethod yX0_fromOf, Cond.selects RX0 yX0_fromOf yX0_fromOf]
def wsX4_best_r5 : List Cond := [Cond.code yX0_fromOf cX0_fromOf 2 (some .int), Cond.methodLink RX4 272 yX0_comesFrom, Cond.instanceMethod yX0_comesFrom, Cond.selects RX0 yX0_comesFrom yX0_comesFrom, Cond.code yX0_comesFrom cX0_comesFrom 4 (some .boolean), Cond.methodLink RX4 275 yX0_close, Cond.instanceMethod yX0_close, Cond.selects RX0 yX0_close yX0_close, Cond.code yX0_close cX0_close 4 none, Cond.fieldLink RX0 18 "NightRiders$Chain" "tos" "[I", Cond.methodLink RX4 278 yX4_keepIfBetter, Cond.instanceMethod yX4_keepIfBetter, Cond.selects RX4 yX4_keepIfBetter yX4_keepIfBetter, Cond.code yX4_keepIfBetter cX4_keepIfBetter 3 none, Cond.methodLink RX4 281 yX0_take, Cond.instanceMethod yX0_take, Cond.selects RX0 yX0_take yX0_take, Cond.code yX0_take cX0_take 3 none, Cond.code yX4_tryEnds cX4_tryEnds 5 none, Cond.methodLink RX4 265 yX4_tryEnd, Cond.instanceMethod yX4_tryEnd, Cond.selects RX4 yX4_tryEnd yX4_tryEnd]
def wsX4_best : List Cond := .code yX4_best cX4_best 3 (some .int) :: ((wsX4_best_r1 ++ (wsX4_best_r2 ++ (wsX4_best_r3 ++ (wsX4_best_r4 ++ wsX4_best_r5)))) ++ wsX20 ++ wsX40 ++ wsX00 ++ wsX30)
def wsX4_rideChosen_r1 : List Cond := [Cond.fieldLink RX4 32 "NightRiders" "chosen" "LNightRiders$Chain;", Cond.fieldLink RX4 239 "NightRiders$Chain" "length" "I", Cond.fieldLink RX4 263 "NightRiders$Chain" "riders" "[I", Cond.fieldLink RX4 285 "NightRiders$Chain" "starts" "[I", Cond.fieldLink RX4 287 "NightRiders$Chain" "ends" "[I", Cond.fieldLink RX4 289 "NightRiders$Chain" "tos" "[I", Cond.classLink RX4 183 RX1, Cond.instantiable RX1 8, Cond.initialized RX1, Cond.fieldLink RX4 292 "NightRiders$Chain" "froms" "[I", Cond.fieldLink RX4 94 "NightRiders$Rider" "at" "I", Cond.fieldLink RX4 101 "NightRiders$Rider" "free" "I", Cond.fieldLink RX4 45 "NightRiders" "resting" "I", Cond.fieldLink RX4 104 "NightRiders$Rider" "legsRidden" "I", Cond.fieldLink RX4 107 "NightRiders$Rider" "boxMinutes" "I", Cond.methodLink RX4 55 yX4_riderAt, Cond.instanceMethod yX4_riderAt, Cond.selects RX4 yX4_riderAt yX4_riderAt, Cond.initialized RX4, Cond.code yX4_riderAt cX4_riderAt 2 (some (.object "NightRiders$Rider")), Cond.fieldLink RX4 39 "NightRiders" "riderCount" "I", Cond.fieldLink RX4 15 "NightRiders" "riders" "[LNightRiders$Rider;", Cond.methodLink RX4 295 yX1_init, Cond.instanceMethod yX1_init]
def wsX4_rideChosen_r2 : List Cond := [Cond.code yX1_init cX1_init 8 none, Cond.methodLink RX1 1 objectInit, Cond.instanceMethod objectInit, Cond.code objectInit ⟨#[0xb1]⟩ 1 none, Cond.fieldLink RX1 7 "NightRiders$Leg" "failed" "Z", Cond.fieldLink RX1 13 "NightRiders$Leg" "rider" "I", Cond.fieldLink RX1 17 "NightRiders$Leg" "from" "I", Cond.fieldLink RX1 20 "NightRiders$Leg" "to" "I", Cond.fieldLink RX1 23 "NightRiders$Leg" "starts" "I", Cond.fieldLink RX1 26 "NightRiders$Leg" "ends" "I", Cond.fieldLink RX1 29 "NightRiders$Leg" "atAhead" "I", Cond.fieldLink RX1 32 "NightRiders$Leg" "freeAhead" "I", Cond.methodLink RX4 298 yX2_addLeg, Cond.instanceMethod yX2_addLeg, Cond.selects RX2 yX2_addLeg yX2_addLeg, Cond.initialized RX2, Cond.code yX2_addLeg cX2_addLeg 2 none, Cond.fieldLink RX2 17 "NightRiders$Request" "legCount" "I", Cond.fieldLink RX2 11 "NightRiders$Request" "legs" "[LNightRiders$Leg;", Cond.methodLink RX4 302 yX0_handsOn, Cond.instanceMethod yX0_handsOn, Cond.selects RX0 yX0_handsOn yX0_handsOn, Cond.initialized RX0, Cond.code yX0_handsOn cX0_handsOn 2 (some .int)]
def wsX4_rideChosen_r3 : List Cond := [Cond.fieldLink RX0 27 "NightRiders$Chain" "length" "I", Cond.fieldLink RX0 21 "NightRiders$Chain" "starts" "[I", Cond.methodLink RX0 37 yX0_lastEnd, Cond.instanceMethod yX0_lastEnd, Cond.selects RX0 yX0_lastEnd yX0_lastEnd, Cond.code yX0_lastEnd cX0_lastEnd 1 (some .int), Cond.fieldLink RX0 24 "NightRiders$Chain" "ends" "[I"]
def wsX4_rideChosen : List Cond := .code yX4_rideChosen cX4_rideChosen 7 none :: ((wsX4_rideChosen_r1 ++ (wsX4_rideChosen_r2 ++ wsX4_rideChosen_r3)) ++ wsX40 ++ wsX00 ++ wsX10 ++ wsX30 ++ wsX20)
def wsX4_send_r1 : List Cond := [Cond.fieldLink RX4 141 "NightRiders$Request" "sent" "Z", Cond.fieldLink RX4 144 "NightRiders$Request" "from" "I", Cond.fieldLink RX4 147 "NightRiders$Request" "ready" "I", Cond.fieldLink RX4 48 "NightRiders" "lastSent" "I", Cond.methodLink RX4 137 yX4_requestAt, Cond.instanceMethod yX4_requestAt, Cond.selects RX4 yX4_requestAt yX4_requestAt, Cond.initialized RX4, Cond.code yX4_requestAt cX4_requestAt 2 (some (.object "NightRiders$Request")), Cond.fieldLink RX4 42 "NightRiders" "requestCount" "I", Cond.fieldLink RX4 21 "NightRiders" "requests" "[LNightRiders$Request;", Cond.methodLink RX4 150 yX4_findChain, Cond.instanceMethod yX4_findChain, Cond.selects RX4 yX4_findChain yX4_findChain, Cond.code yX4_findChain cX4_findChain 4 (some .boolean), Cond.fieldLink RX4 28 "NightRiders" "trial" "LNightRiders$Chain;", Cond.fieldLink RX4 163 "NightRiders$Request" "kind" "I", Cond.fieldLink RX4 235 "NightRiders$Chain" "kind" "I", Cond.fieldLink RX4 166 "NightRiders$Request" "to" "I", Cond.fieldLink RX4 236 "NightRiders$Chain" "goal" "I", Cond.fieldLink RX4 32 "NightRiders" "chosen" "LNightRiders$Chain;", Cond.fieldLink RX4 239 "NightRiders$Chain" "length" "I", Cond.methodLink RX4 242 yX4_tryRiders, Cond.instanceMethod yX4_tryRiders]
def wsX4_send_r2 : List Cond := [Cond.selects RX4 yX4_tryRiders yX4_tryRiders, Cond.code yX4_tryRiders cX4_tryRiders 8 none, Cond.fieldLink RX4 39 "NightRiders" "riderCount" "I", Cond.methodLink RX4 131 Lib.Math.max.name, Cond.static Lib.Math.max.name, Cond.initialized "java/lang/Math", Cond.code Lib.Math.max.name Lib.Math.max.code 2 (some .int), Cond.methodLink RX4 55 yX4_riderAt, Cond.instanceMethod yX4_riderAt, Cond.selects RX4 yX4_riderAt yX4_riderAt, Cond.code yX4_riderAt cX4_riderAt 2 (some (.object "NightRiders$Rider")), Cond.fieldLink RX4 15 "NightRiders" "riders" "[LNightRiders$Rider;", Cond.methodLink RX4 121 yX3_carries, Cond.instanceMethod yX3_carries, Cond.selects RX3 yX3_carries yX3_carries, Cond.initialized RX3, Cond.code yX3_carries cX3_carries 2 (some .boolean), Cond.fieldLink RX3 22 "NightRiders$Rider" "failed" "Z", Cond.fieldLink RX3 38 "NightRiders$Rider" "kinds" "I", Cond.static yX4_hasBit, Cond.code yX4_hasBit cX4_hasBit 2 (some .boolean), Cond.methodLink RX4 246 yX0_isRiddenBy, Cond.instanceMethod yX0_isRiddenBy, Cond.selects RX0 yX0_isRiddenBy yX0_isRiddenBy]
def wsX4_send_r3 : List Cond := [Cond.initialized RX0, Cond.code yX0_isRiddenBy cX0_isRiddenBy 4 (some .boolean), Cond.fieldLink RX0 9 "NightRiders$Chain" "riders" "[I", Cond.methodLink RX4 207 yX4_thereFrom, Cond.instanceMethod yX4_thereFrom, Cond.selects RX4 yX4_thereFrom yX4_thereFrom, Cond.code yX4_thereFrom cX4_thereFrom 4 (some .int), Cond.fieldLink RX4 94 "NightRiders$Rider" "at" "I", Cond.fieldLink RX4 101 "NightRiders$Rider" "free" "I", Cond.fieldLink RX4 224 "NightRiders$Rider" "dutyFrom" "I", Cond.methodLink RX4 80 yX4_wayOf, Cond.instanceMethod yX4_wayOf, Cond.selects RX4 yX4_wayOf yX4_wayOf, Cond.code yX4_wayOf cX4_wayOf 4 (some .int), Cond.fieldLink RX4 214 "NightRiders$Rider" "ways" "[I", Cond.methodLink RX4 51 yX4_isPlace, Cond.instanceMethod yX4_isPlace, Cond.selects RX4 yX4_isPlace yX4_isPlace, Cond.code yX4_isPlace cX4_isPlace 2 (some .boolean), Cond.fieldLink RX4 35 "NightRiders" "placeCount" "I", Cond.methodLink RX4 249 yX4_isTooLate, Cond.instanceMethod yX4_isTooLate, Cond.selects RX4 yX4_isTooLate yX4_isTooLate, Cond.code yX4_isTooLate cX4_isTooLate 2 (some .boolean)]
def wsX4_send_r4 : List Cond := [Cond.methodLink RX4 154 yX0_lastEnd, Cond.instanceMethod yX0_lastEnd, Cond.selects RX0 yX0_lastEnd yX0_lastEnd, Cond.code yX0_lastEnd cX0_lastEnd 1 (some .int), Cond.fieldLink RX0 27 "NightRiders$Chain" "length" "I", Cond.fieldLink RX0 24 "NightRiders$Chain" "ends" "[I", Cond.methodLink RX4 252 yX4_waitsUntil, Cond.instanceMethod yX4_waitsUntil, Cond.selects RX4 yX4_waitsUntil yX4_waitsUntil, Cond.code yX4_waitsUntil cX4_waitsUntil 4 (some .boolean), Cond.fieldLink RX4 263 "NightRiders$Chain" "riders" "[I", Cond.fieldLink RX4 211 "NightRiders$Rider" "dutyTo" "I", Cond.methodLink RX4 255 yX0_open, Cond.instanceMethod yX0_open, Cond.selects RX0 yX0_open yX0_open, Cond.code yX0_open cX0_open 5 none, Cond.fieldLink RX0 15 "NightRiders$Chain" "froms" "[I", Cond.fieldLink RX0 21 "NightRiders$Chain" "starts" "[I", Cond.methodLink RX4 259 yX4_tryEnds, Cond.instanceMethod yX4_tryEnds, Cond.selects RX4 yX4_tryEnds yX4_tryEnds, Cond.code yX4_tryEnd cX4_tryEnd 6 none, Cond.methodLink RX4 269 yX0_fromOf, Cond.instanceMethod yX0_fromOf]
def wsX4_send_r5 : List Cond := [Cond.selects RX0 yX0_fromOf yX0_fromOf, Cond.code yX0_fromOf cX0_fromOf 2 (some .int), Cond.methodLink RX4 272 yX0_comesFrom, Cond.instanceMethod yX0_comesFrom, Cond.selects RX0 yX0_comesFrom yX0_comesFrom, Cond.code yX0_comesFrom cX0_comesFrom 4 (some .boolean), Cond.methodLink RX4 275 yX0_close, Cond.instanceMethod yX0_close, Cond.selects RX0 yX0_close yX0_close, Cond.code yX0_close cX0_close 4 none, Cond.fieldLink RX0 18 "NightRiders$Chain" "tos" "[I", Cond.methodLink RX4 278 yX4_keepIfBetter, Cond.instanceMethod yX4_keepIfBetter, Cond.selects RX4 yX4_keepIfBetter yX4_keepIfBetter, Cond.code yX4_keepIfBetter cX4_keepIfBetter 3 none, Cond.methodLink RX4 281 yX0_take, Cond.instanceMethod yX0_take, Cond.selects RX0 yX0_take yX0_take, Cond.code yX0_take cX0_take 3 none, Cond.code yX4_tryEnds cX4_tryEnds 5 none, Cond.methodLink RX4 265 yX4_tryEnd, Cond.instanceMethod yX4_tryEnd, Cond.selects RX4 yX4_tryEnd yX4_tryEnd, Cond.methodLink RX4 158 yX4_rideChosen]
def wsX4_send_r6 : List Cond := [Cond.instanceMethod yX4_rideChosen, Cond.selects RX4 yX4_rideChosen yX4_rideChosen, Cond.code yX4_rideChosen cX4_rideChosen 7 none, Cond.fieldLink RX4 285 "NightRiders$Chain" "starts" "[I", Cond.fieldLink RX4 287 "NightRiders$Chain" "ends" "[I", Cond.fieldLink RX4 289 "NightRiders$Chain" "tos" "[I", Cond.classLink RX4 183 RX1, Cond.instantiable RX1 8, Cond.initialized RX1, Cond.fieldLink RX4 292 "NightRiders$Chain" "froms" "[I", Cond.fieldLink RX4 45 "NightRiders" "resting" "I", Cond.fieldLink RX4 104 "NightRiders$Rider" "legsRidden" "I", Cond.fieldLink RX4 107 "NightRiders$Rider" "boxMinutes" "I", Cond.methodLink RX4 295 yX1_init, Cond.instanceMethod yX1_init, Cond.code yX1_init cX1_init 8 none, Cond.methodLink RX1 1 objectInit, Cond.instanceMethod objectInit, Cond.code objectInit ⟨#[0xb1]⟩ 1 none, Cond.fieldLink RX1 7 "NightRiders$Leg" "failed" "Z", Cond.fieldLink RX1 13 "NightRiders$Leg" "rider" "I", Cond.fieldLink RX1 17 "NightRiders$Leg" "from" "I", Cond.fieldLink RX1 20 "NightRiders$Leg" "to" "I", Cond.fieldLink RX1 23 "NightRiders$Leg" "starts" "I"]
def wsX4_send_r7 : List Cond := [Cond.fieldLink RX1 26 "NightRiders$Leg" "ends" "I", Cond.fieldLink RX1 29 "NightRiders$Leg" "atAhead" "I", Cond.fieldLink RX1 32 "NightRiders$Leg" "freeAhead" "I", Cond.methodLink RX4 298 yX2_addLeg, Cond.instanceMethod yX2_addLeg, Cond.selects RX2 yX2_addLeg yX2_addLeg, Cond.initialized RX2, Cond.code yX2_addLeg cX2_addLeg 2 none, Cond.fieldLink RX2 17 "NightRiders$Request" "legCount" "I", Cond.fieldLink RX2 11 "NightRiders$Request" "legs" "[LNightRiders$Leg;", Cond.methodLink RX4 302 yX0_handsOn, Cond.instanceMethod yX0_handsOn, Cond.selects RX0 yX0_handsOn yX0_handsOn, Cond.code yX0_handsOn cX0_handsOn 2 (some .int), Cond.methodLink RX0 37 yX0_lastEnd, Cond.methodLink RX4 162 yX2_lastEnd, Cond.instanceMethod yX2_lastEnd, Cond.selects RX2 yX2_lastEnd yX2_lastEnd, Cond.code yX2_lastEnd cX2_lastEnd 2 (some .int), Cond.fieldLink RX2 47 "NightRiders$Leg" "ends" "I", Cond.methodLink RX2 43 yX2_legAt, Cond.instanceMethod yX2_legAt, Cond.selects RX2 yX2_legAt yX2_legAt, Cond.code yX2_legAt cX2_legAt 2 (some (.object "NightRiders$Leg"))]
def wsX4_send : List Cond := .code yX4_send cX4_send 3 (some .int) :: ((wsX4_send_r1 ++ (wsX4_send_r2 ++ (wsX4_send_r3 ++ (wsX4_send_r4 ++ (wsX4_send_r5 ++ (wsX4_send_r6 ++ wsX4_send_r7)))))) ++ wsX20 ++ wsX40 ++ wsX00 ++ wsX30 ++ wsX10)
def wsX4_told_r1 : List Cond := [Cond.fieldLink RX4 163 "NightRiders$Request" "kind" "I", Cond.fieldLink RX4 144 "NightRiders$Request" "from" "I", Cond.fieldLink RX4 166 "NightRiders$Request" "to" "I", Cond.fieldLink RX4 147 "NightRiders$Request" "ready" "I", Cond.fieldLink RX4 169 "NightRiders$Request" "cold" "I", Cond.fieldLink RX4 172 "NightRiders$Request" "lost" "Z", Cond.fieldLink RX4 141 "NightRiders$Request" "sent" "Z", Cond.fieldLink RX4 175 "NightRiders$Request" "legCount" "I", Cond.methodLink RX4 137 yX4_requestAt, Cond.instanceMethod yX4_requestAt, Cond.selects RX4 yX4_requestAt yX4_requestAt, Cond.initialized RX4, Cond.code yX4_requestAt cX4_requestAt 2 (some (.object "NightRiders$Request")), Cond.fieldLink RX4 42 "NightRiders" "requestCount" "I", Cond.fieldLink RX4 21 "NightRiders" "requests" "[LNightRiders$Request;", Cond.methodLink RX4 162 yX2_lastEnd, Cond.instanceMethod yX2_lastEnd, Cond.selects RX2 yX2_lastEnd yX2_lastEnd, Cond.initialized RX2, Cond.code yX2_lastEnd cX2_lastEnd 2 (some .int), Cond.fieldLink RX2 17 "NightRiders$Request" "legCount" "I", Cond.fieldLink RX2 47 "NightRiders$Leg" "ends" "I", Cond.methodLink RX2 43 yX2_legAt, Cond.instanceMethod yX2_legAt]
def wsX4_told_r2 : List Cond := [Cond.selects RX2 yX2_legAt yX2_legAt, Cond.code yX2_legAt cX2_legAt 2 (some (.object "NightRiders$Leg")), Cond.fieldLink RX2 11 "NightRiders$Request" "legs" "[LNightRiders$Leg;"]
def wsX4_told : List Cond := .code yX4_told cX4_told 4 (some .int) :: ((wsX4_told_r1 ++ wsX4_told_r2) ++ wsX20 ++ wsX40 ++ wsX10)
def wsX4_leg : List Cond := .code yX4_leg cX4_leg 6 (some .int) :: ([.fieldLink RX4 182 "NightRiders$Leg" "rider" "I", .fieldLink RX4 187 "NightRiders$Leg" "from" "I", .fieldLink RX4 188 "NightRiders$Leg" "to" "I", .fieldLink RX4 189 "NightRiders$Leg" "starts" "I", .fieldLink RX4 192 "NightRiders$Leg" "ends" "I", .fieldLink RX4 195 "NightRiders$Leg" "failed" "Z", .methodLink RX4 137 yX4_requestAt, .instanceMethod yX4_requestAt, .selects RX4 yX4_requestAt yX4_requestAt, .initialized RX4, .code yX4_requestAt cX4_requestAt 2 (some (.object "NightRiders$Request")), .fieldLink RX4 42 "NightRiders" "requestCount" "I", .fieldLink RX4 21 "NightRiders" "requests" "[LNightRiders$Request;", .methodLink RX4 178 yX2_legAt, .instanceMethod yX2_legAt, .selects RX2 yX2_legAt yX2_legAt, .initialized RX2, .code yX2_legAt cX2_legAt 2 (some (.object "NightRiders$Leg")), .fieldLink RX2 17 "NightRiders$Request" "legCount" "I", .fieldLink RX2 11 "NightRiders$Request" "legs" "[LNightRiders$Leg;"] ++ wsX10 ++ wsX40 ++ wsX20)
def wsX4_hand_r1 : List Cond := [Cond.fieldLink RX4 141 "NightRiders$Request" "sent" "Z", Cond.fieldLink RX4 175 "NightRiders$Request" "legCount" "I", Cond.fieldLink RX4 189 "NightRiders$Leg" "starts" "I", Cond.fieldLink RX4 182 "NightRiders$Leg" "rider" "I", Cond.methodLink RX4 137 yX4_requestAt, Cond.instanceMethod yX4_requestAt, Cond.selects RX4 yX4_requestAt yX4_requestAt, Cond.initialized RX4, Cond.code yX4_requestAt cX4_requestAt 2 (some (.object "NightRiders$Request")), Cond.fieldLink RX4 42 "NightRiders" "requestCount" "I", Cond.fieldLink RX4 21 "NightRiders" "requests" "[LNightRiders$Request;", Cond.methodLink RX4 70 yX4_isMinute, Cond.static yX4_isMinute, Cond.code yX4_isMinute cX4_isMinute 1 (some .boolean), Cond.methodLink RX4 162 yX2_lastEnd, Cond.instanceMethod yX2_lastEnd, Cond.selects RX2 yX2_lastEnd yX2_lastEnd, Cond.initialized RX2, Cond.code yX2_lastEnd cX2_lastEnd 2 (some .int), Cond.fieldLink RX2 17 "NightRiders$Request" "legCount" "I", Cond.fieldLink RX2 47 "NightRiders$Leg" "ends" "I", Cond.methodLink RX2 43 yX2_legAt, Cond.instanceMethod yX2_legAt, Cond.selects RX2 yX2_legAt yX2_legAt]
def wsX4_hand_r2 : List Cond := [Cond.code yX2_legAt cX2_legAt 2 (some (.object "NightRiders$Leg")), Cond.fieldLink RX2 11 "NightRiders$Request" "legs" "[LNightRiders$Leg;", Cond.methodLink RX4 178 yX2_legAt]
def wsX4_hand : List Cond := .code yX4_hand cX4_hand 6 (some .int) :: ((wsX4_hand_r1 ++ wsX4_hand_r2) ++ wsX20 ++ wsX10 ++ wsX40)
def wsX4_mayFail : List Cond := .code yX4_mayFail cX4_mayFail 6 (some .boolean) :: ([.fieldLink RX4 189 "NightRiders$Leg" "starts" "I", .fieldLink RX4 192 "NightRiders$Leg" "ends" "I", .fieldLink RX4 175 "NightRiders$Request" "legCount" "I", .fieldLink RX4 195 "NightRiders$Leg" "failed" "Z", .methodLink RX4 178 yX2_legAt, .instanceMethod yX2_legAt, .selects RX2 yX2_legAt yX2_legAt, .initialized RX2, .code yX2_legAt cX2_legAt 2 (some (.object "NightRiders$Leg")), .fieldLink RX2 17 "NightRiders$Request" "legCount" "I", .fieldLink RX2 11 "NightRiders$Request" "legs" "[LNightRiders$Leg;"] ++ wsX10 ++ wsX20)
def wsX4_dropLegsBehind : List Cond := .code yX4_dropLegsBehind cX4_dropLegsBehind 6 none :: ([.fieldLink RX4 175 "NightRiders$Request" "legCount" "I", .fieldLink RX4 182 "NightRiders$Leg" "rider" "I", .fieldLink RX4 305 "NightRiders$Leg" "atAhead" "I", .fieldLink RX4 94 "NightRiders$Rider" "at" "I", .fieldLink RX4 308 "NightRiders$Leg" "freeAhead" "I", .fieldLink RX4 101 "NightRiders$Rider" "free" "I", .fieldLink RX4 104 "NightRiders$Rider" "legsRidden" "I", .fieldLink RX4 107 "NightRiders$Rider" "boxMinutes" "I", .fieldLink RX4 192 "NightRiders$Leg" "ends" "I", .fieldLink RX4 189 "NightRiders$Leg" "starts" "I", .methodLink RX4 178 yX2_legAt, .instanceMethod yX2_legAt, .selects RX2 yX2_legAt yX2_legAt, .initialized RX2, .code yX2_legAt cX2_legAt 2 (some (.object "NightRiders$Leg")), .fieldLink RX2 17 "NightRiders$Request" "legCount" "I", .fieldLink RX2 11 "NightRiders$Request" "legs" "[LNightRiders$Leg;", .methodLink RX4 55 yX4_riderAt, .instanceMethod yX4_riderAt, .selects RX4 yX4_riderAt yX4_riderAt, .initialized RX4, .code yX4_riderAt cX4_riderAt 2 (some (.object "NightRiders$Rider")), .fieldLink RX4 39 "NightRiders" "riderCount" "I", .fieldLink RX4 15 "NightRiders" "riders" "[LNightRiders$Rider;"] ++ wsX20 ++ wsX10 ++ wsX30 ++ wsX40)
def wsX4_failLeg : List Cond := .code yX4_failLeg cX4_failLeg 4 none :: ([.fieldLink RX4 182 "NightRiders$Leg" "rider" "I", .fieldLink RX4 107 "NightRiders$Rider" "boxMinutes" "I", .fieldLink RX4 192 "NightRiders$Leg" "ends" "I", .fieldLink RX4 187 "NightRiders$Leg" "from" "I", .fieldLink RX4 94 "NightRiders$Rider" "at" "I", .fieldLink RX4 97 "NightRiders$Rider" "failed" "Z", .fieldLink RX4 188 "NightRiders$Leg" "to" "I", .fieldLink RX4 195 "NightRiders$Leg" "failed" "Z", .methodLink RX4 55 yX4_riderAt, .instanceMethod yX4_riderAt, .selects RX4 yX4_riderAt yX4_riderAt, .initialized RX4, .code yX4_riderAt cX4_riderAt 2 (some (.object "NightRiders$Rider")), .fieldLink RX4 39 "NightRiders" "riderCount" "I", .fieldLink RX4 15 "NightRiders" "riders" "[LNightRiders$Rider;"] ++ wsX10 ++ wsX30 ++ wsX40)
def wsX4_fail_r1 : List Cond := [Cond.fieldLink RX4 48 "NightRiders" "lastSent" "I", Cond.fieldLink RX4 187 "NightRiders$Leg" "from" "I", Cond.fieldLink RX4 172 "NightRiders$Request" "lost" "Z", Cond.methodLink RX4 137 yX4_requestAt, Cond.instanceMethod yX4_requestAt, Cond.selects RX4 yX4_requestAt yX4_requestAt, Cond.initialized RX4, Cond.code yX4_requestAt cX4_requestAt 2 (some (.object "NightRiders$Request")), Cond.fieldLink RX4 42 "NightRiders" "requestCount" "I", Cond.fieldLink RX4 21 "NightRiders" "requests" "[LNightRiders$Request;", Cond.methodLink RX4 196 yX4_mayFail, Cond.static yX4_mayFail, Cond.code yX4_mayFail cX4_mayFail 6 (some .boolean), Cond.fieldLink RX4 189 "NightRiders$Leg" "starts" "I", Cond.fieldLink RX4 192 "NightRiders$Leg" "ends" "I", Cond.fieldLink RX4 175 "NightRiders$Request" "legCount" "I", Cond.fieldLink RX4 195 "NightRiders$Leg" "failed" "Z", Cond.methodLink RX4 178 yX2_legAt, Cond.instanceMethod yX2_legAt, Cond.selects RX2 yX2_legAt yX2_legAt, Cond.initialized RX2, Cond.code yX2_legAt cX2_legAt 2 (some (.object "NightRiders$Leg")), Cond.fieldLink RX2 17 "NightRiders$Request" "legCount" "I", Cond.fieldLink RX2 11 "NightRiders$Request" "legs" "[LNightRiders$Leg;"]
def wsX4_fail_r2 : List Cond := [Cond.methodLink RX4 199 yX4_dropLegsBehind, Cond.instanceMethod yX4_dropLegsBehind, Cond.selects RX4 yX4_dropLegsBehind yX4_dropLegsBehind, Cond.code yX4_dropLegsBehind cX4_dropLegsBehind 6 none, Cond.fieldLink RX4 182 "NightRiders$Leg" "rider" "I", Cond.fieldLink RX4 305 "NightRiders$Leg" "atAhead" "I", Cond.fieldLink RX4 94 "NightRiders$Rider" "at" "I", Cond.fieldLink RX4 308 "NightRiders$Leg" "freeAhead" "I", Cond.fieldLink RX4 101 "NightRiders$Rider" "free" "I", Cond.fieldLink RX4 104 "NightRiders$Rider" "legsRidden" "I", Cond.fieldLink RX4 107 "NightRiders$Rider" "boxMinutes" "I", Cond.methodLink RX4 55 yX4_riderAt, Cond.instanceMethod yX4_riderAt, Cond.selects RX4 yX4_riderAt yX4_riderAt, Cond.code yX4_riderAt cX4_riderAt 2 (some (.object "NightRiders$Rider")), Cond.fieldLink RX4 39 "NightRiders" "riderCount" "I", Cond.fieldLink RX4 15 "NightRiders" "riders" "[LNightRiders$Rider;", Cond.methodLink RX4 203 yX4_failLeg, Cond.instanceMethod yX4_failLeg, Cond.selects RX4 yX4_failLeg yX4_failLeg, Cond.code yX4_failLeg cX4_failLeg 4 none, Cond.fieldLink RX4 97 "NightRiders$Rider" "failed" "Z", Cond.fieldLink RX4 188 "NightRiders$Leg" "to" "I", Cond.methodLink RX4 150 yX4_findChain]
def wsX4_fail_r3 : List Cond := [Cond.instanceMethod yX4_findChain, Cond.selects RX4 yX4_findChain yX4_findChain, Cond.code yX4_findChain cX4_findChain 4 (some .boolean), Cond.fieldLink RX4 28 "NightRiders" "trial" "LNightRiders$Chain;", Cond.fieldLink RX4 163 "NightRiders$Request" "kind" "I", Cond.fieldLink RX4 235 "NightRiders$Chain" "kind" "I", Cond.fieldLink RX4 166 "NightRiders$Request" "to" "I", Cond.fieldLink RX4 236 "NightRiders$Chain" "goal" "I", Cond.fieldLink RX4 32 "NightRiders" "chosen" "LNightRiders$Chain;", Cond.fieldLink RX4 239 "NightRiders$Chain" "length" "I", Cond.methodLink RX4 242 yX4_tryRiders, Cond.instanceMethod yX4_tryRiders, Cond.selects RX4 yX4_tryRiders yX4_tryRiders, Cond.code yX4_tryRiders cX4_tryRiders 8 none, Cond.methodLink RX4 131 Lib.Math.max.name, Cond.static Lib.Math.max.name, Cond.initialized "java/lang/Math", Cond.code Lib.Math.max.name Lib.Math.max.code 2 (some .int), Cond.methodLink RX4 121 yX3_carries, Cond.instanceMethod yX3_carries, Cond.selects RX3 yX3_carries yX3_carries, Cond.initialized RX3, Cond.code yX3_carries cX3_carries 2 (some .boolean), Cond.fieldLink RX3 22 "NightRiders$Rider" "failed" "Z"]
def wsX4_fail_r4 : List Cond := [Cond.fieldLink RX3 38 "NightRiders$Rider" "kinds" "I", Cond.static yX4_hasBit, Cond.code yX4_hasBit cX4_hasBit 2 (some .boolean), Cond.methodLink RX4 246 yX0_isRiddenBy, Cond.instanceMethod yX0_isRiddenBy, Cond.selects RX0 yX0_isRiddenBy yX0_isRiddenBy, Cond.initialized RX0, Cond.code yX0_isRiddenBy cX0_isRiddenBy 4 (some .boolean), Cond.fieldLink RX0 9 "NightRiders$Chain" "riders" "[I", Cond.methodLink RX4 207 yX4_thereFrom, Cond.instanceMethod yX4_thereFrom, Cond.selects RX4 yX4_thereFrom yX4_thereFrom, Cond.code yX4_thereFrom cX4_thereFrom 4 (some .int), Cond.fieldLink RX4 224 "NightRiders$Rider" "dutyFrom" "I", Cond.methodLink RX4 80 yX4_wayOf, Cond.instanceMethod yX4_wayOf, Cond.selects RX4 yX4_wayOf yX4_wayOf, Cond.code yX4_wayOf cX4_wayOf 4 (some .int), Cond.fieldLink RX4 214 "NightRiders$Rider" "ways" "[I", Cond.methodLink RX4 51 yX4_isPlace, Cond.instanceMethod yX4_isPlace, Cond.selects RX4 yX4_isPlace yX4_isPlace, Cond.code yX4_isPlace cX4_isPlace 2 (some .boolean), Cond.fieldLink RX4 35 "NightRiders" "placeCount" "I"]
def wsX4_fail_r5 : List Cond := [Cond.methodLink RX4 249 yX4_isTooLate, Cond.instanceMethod yX4_isTooLate, Cond.selects RX4 yX4_isTooLate yX4_isTooLate, Cond.code yX4_isTooLate cX4_isTooLate 2 (some .boolean), Cond.methodLink RX4 154 yX0_lastEnd, Cond.instanceMethod yX0_lastEnd, Cond.selects RX0 yX0_lastEnd yX0_lastEnd, Cond.code yX0_lastEnd cX0_lastEnd 1 (some .int), Cond.fieldLink RX0 27 "NightRiders$Chain" "length" "I", Cond.fieldLink RX0 24 "NightRiders$Chain" "ends" "[I", Cond.methodLink RX4 252 yX4_waitsUntil, Cond.instanceMethod yX4_waitsUntil, Cond.selects RX4 yX4_waitsUntil yX4_waitsUntil, Cond.code yX4_waitsUntil cX4_waitsUntil 4 (some .boolean), Cond.fieldLink RX4 263 "NightRiders$Chain" "riders" "[I", Cond.fieldLink RX4 211 "NightRiders$Rider" "dutyTo" "I", Cond.methodLink RX4 255 yX0_open, Cond.instanceMethod yX0_open, Cond.selects RX0 yX0_open yX0_open, Cond.code yX0_open cX0_open 5 none, Cond.fieldLink RX0 15 "NightRiders$Chain" "froms" "[I", Cond.fieldLink RX0 21 "NightRiders$Chain" "starts" "[I", Cond.methodLink RX4 259 yX4_tryEnds, Cond.instanceMethod yX4_tryEnds]
def wsX4_fail_r6 : List Cond := [Cond.selects RX4 yX4_tryEnds yX4_tryEnds, Cond.code yX4_tryEnd cX4_tryEnd 6 none, Cond.methodLink RX4 269 yX0_fromOf, Cond.instanceMethod yX0_fromOf, Cond.selects RX0 yX0_fromOf yX0_fromOf, Cond.code yX0_fromOf cX0_fromOf 2 (some .int), Cond.methodLink RX4 272 yX0_comesFrom, Cond.instanceMethod yX0_comesFrom, Cond.selects RX0 yX0_comesFrom yX0_comesFrom, Cond.code yX0_comesFrom cX0_comesFrom 4 (some .boolean), Cond.methodLink RX4 275 yX0_close, Cond.instanceMethod yX0_close, Cond.selects RX0 yX0_close yX0_close, Cond.code yX0_close cX0_close 4 none, Cond.fieldLink RX0 18 "NightRiders$Chain" "tos" "[I", Cond.methodLink RX4 278 yX4_keepIfBetter, Cond.instanceMethod yX4_keepIfBetter, Cond.selects RX4 yX4_keepIfBetter yX4_keepIfBetter, Cond.code yX4_keepIfBetter cX4_keepIfBetter 3 none, Cond.methodLink RX4 281 yX0_take, Cond.instanceMethod yX0_take, Cond.selects RX0 yX0_take yX0_take, Cond.code yX0_take cX0_take 3 none, Cond.code yX4_tryEnds cX4_tryEnds 5 none]
def wsX4_fail_r7 : List Cond := [Cond.methodLink RX4 265 yX4_tryEnd, Cond.instanceMethod yX4_tryEnd, Cond.selects RX4 yX4_tryEnd yX4_tryEnd, Cond.methodLink RX4 158 yX4_rideChosen, Cond.instanceMethod yX4_rideChosen, Cond.selects RX4 yX4_rideChosen yX4_rideChosen, Cond.code yX4_rideChosen cX4_rideChosen 7 none, Cond.fieldLink RX4 285 "NightRiders$Chain" "starts" "[I", Cond.fieldLink RX4 287 "NightRiders$Chain" "ends" "[I", Cond.fieldLink RX4 289 "NightRiders$Chain" "tos" "[I", Cond.classLink RX4 183 RX1, Cond.instantiable RX1 8, Cond.initialized RX1, Cond.fieldLink RX4 292 "NightRiders$Chain" "froms" "[I", Cond.fieldLink RX4 45 "NightRiders" "resting" "I", Cond.methodLink RX4 295 yX1_init, Cond.instanceMethod yX1_init, Cond.code yX1_init cX1_init 8 none, Cond.methodLink RX1 1 objectInit, Cond.instanceMethod objectInit, Cond.code objectInit ⟨#[0xb1]⟩ 1 none, Cond.fieldLink RX1 7 "NightRiders$Leg" "failed" "Z", Cond.fieldLink RX1 13 "NightRiders$Leg" "rider" "I", Cond.fieldLink RX1 17 "NightRiders$Leg" "from" "I"]
def wsX4_fail_r8 : List Cond := [Cond.fieldLink RX1 20 "NightRiders$Leg" "to" "I", Cond.fieldLink RX1 23 "NightRiders$Leg" "starts" "I", Cond.fieldLink RX1 26 "NightRiders$Leg" "ends" "I", Cond.fieldLink RX1 29 "NightRiders$Leg" "atAhead" "I", Cond.fieldLink RX1 32 "NightRiders$Leg" "freeAhead" "I", Cond.methodLink RX4 298 yX2_addLeg, Cond.instanceMethod yX2_addLeg, Cond.selects RX2 yX2_addLeg yX2_addLeg, Cond.code yX2_addLeg cX2_addLeg 2 none, Cond.methodLink RX4 302 yX0_handsOn, Cond.instanceMethod yX0_handsOn, Cond.selects RX0 yX0_handsOn yX0_handsOn, Cond.code yX0_handsOn cX0_handsOn 2 (some .int), Cond.methodLink RX0 37 yX0_lastEnd, Cond.methodLink RX4 162 yX2_lastEnd, Cond.instanceMethod yX2_lastEnd, Cond.selects RX2 yX2_lastEnd yX2_lastEnd, Cond.code yX2_lastEnd cX2_lastEnd 2 (some .int), Cond.fieldLink RX2 47 "NightRiders$Leg" "ends" "I", Cond.methodLink RX2 43 yX2_legAt]
def wsX4_fail : List Cond := .code yX4_fail cX4_fail 6 (some .int) :: ((wsX4_fail_r1 ++ (wsX4_fail_r2 ++ (wsX4_fail_r3 ++ (wsX4_fail_r4 ++ (wsX4_fail_r5 ++ (wsX4_fail_r6 ++ (wsX4_fail_r7 ++ wsX4_fail_r8))))))) ++ wsX40 ++ wsX10 ++ wsX20 ++ wsX30 ++ wsX00)
def wsX4_next_r1 : List Cond := [Cond.fieldLink RX4 39 "NightRiders" "riderCount" "I", Cond.fieldLink RX4 211 "NightRiders$Rider" "dutyTo" "I", Cond.fieldLink RX4 104 "NightRiders$Rider" "legsRidden" "I", Cond.methodLink RX4 118 yX4_isKind, Cond.static yX4_isKind, Cond.initialized RX4, Cond.code yX4_isKind cX4_isKind 1 (some .boolean), Cond.methodLink RX4 51 yX4_isPlace, Cond.instanceMethod yX4_isPlace, Cond.selects RX4 yX4_isPlace yX4_isPlace, Cond.code yX4_isPlace cX4_isPlace 2 (some .boolean), Cond.fieldLink RX4 35 "NightRiders" "placeCount" "I", Cond.methodLink RX4 55 yX4_riderAt, Cond.instanceMethod yX4_riderAt, Cond.selects RX4 yX4_riderAt yX4_riderAt, Cond.code yX4_riderAt cX4_riderAt 2 (some (.object "NightRiders$Rider")), Cond.fieldLink RX4 15 "NightRiders" "riders" "[LNightRiders$Rider;", Cond.methodLink RX4 121 yX3_carries, Cond.instanceMethod yX3_carries, Cond.selects RX3 yX3_carries yX3_carries, Cond.initialized RX3, Cond.code yX3_carries cX3_carries 2 (some .boolean), Cond.fieldLink RX3 22 "NightRiders$Rider" "failed" "Z", Cond.fieldLink RX3 38 "NightRiders$Rider" "kinds" "I"]
def wsX4_next_r2 : List Cond := [Cond.static yX4_hasBit, Cond.code yX4_hasBit cX4_hasBit 2 (some .boolean), Cond.methodLink RX4 207 yX4_thereFrom, Cond.instanceMethod yX4_thereFrom, Cond.selects RX4 yX4_thereFrom yX4_thereFrom, Cond.code yX4_thereFrom cX4_thereFrom 4 (some .int), Cond.fieldLink RX4 94 "NightRiders$Rider" "at" "I", Cond.fieldLink RX4 101 "NightRiders$Rider" "free" "I", Cond.fieldLink RX4 224 "NightRiders$Rider" "dutyFrom" "I", Cond.methodLink RX4 131 Lib.Math.max.name, Cond.static Lib.Math.max.name, Cond.initialized "java/lang/Math", Cond.code Lib.Math.max.name Lib.Math.max.code 2 (some .int), Cond.methodLink RX4 80 yX4_wayOf, Cond.instanceMethod yX4_wayOf, Cond.selects RX4 yX4_wayOf yX4_wayOf, Cond.code yX4_wayOf cX4_wayOf 4 (some .int), Cond.fieldLink RX4 214 "NightRiders$Rider" "ways" "[I"]
def wsX4_next : List Cond := .code yX4_next cX4_next 10 (some .int) :: ((wsX4_next_r1 ++ wsX4_next_r2) ++ wsX40 ++ wsX30)
def wsX5_init_r1 : List Cond := [Cond.methodLink RX5 1 objectInit, Cond.instanceMethod objectInit, Cond.code objectInit ⟨#[0xb1]⟩ 1 none, Cond.arrayClass .int, Cond.fieldLink RX5 9 "NightRidersModel" "roads" "[I", Cond.fieldLink RX5 13 "NightRidersModel" "home" "[I", Cond.fieldLink RX5 16 "NightRidersModel" "area" "[I", Cond.fieldLink RX5 19 "NightRidersModel" "dutyFrom" "[I", Cond.fieldLink RX5 22 "NightRidersModel" "dutyTo" "[I", Cond.fieldLink RX5 25 "NightRidersModel" "kinds" "[I", Cond.fieldLink RX5 28 "NightRidersModel" "at" "[I", Cond.fieldLink RX5 31 "NightRidersModel" "free" "[I", Cond.arrayClass .boolean, Cond.fieldLink RX5 34 "NightRidersModel" "failed" "[Z", Cond.fieldLink RX5 38 "NightRidersModel" "rode" "[I", Cond.fieldLink RX5 41 "NightRidersModel" "minutes" "[I", Cond.fieldLink RX5 44 "NightRidersModel" "rest" "I", Cond.fieldLink RX5 48 "NightRidersModel" "kind" "[I", Cond.fieldLink RX5 51 "NightRidersModel" "from" "[I", Cond.fieldLink RX5 54 "NightRidersModel" "to" "[I", Cond.fieldLink RX5 57 "NightRidersModel" "ready" "[I", Cond.fieldLink RX5 60 "NightRidersModel" "cold" "[I", Cond.fieldLink RX5 63 "NightRidersModel" "state" "[I", Cond.fieldLink RX5 66 "NightRidersModel" "latest" "I"]
def wsX5_init_r2 : List Cond := [Cond.fieldLink RX5 69 "NightRidersModel" "legs" "[I", Cond.fieldLink RX5 72 "NightRidersModel" "legMany" "[I", Cond.fieldLink RX5 75 "NightRidersModel" "far" "[I", Cond.fieldLink RX5 78 "NightRidersModel" "tryRider" "[I", Cond.fieldLink RX5 81 "NightRidersModel" "tryPlace" "[I", Cond.fieldLink RX5 84 "NightRidersModel" "tryStart" "[I", Cond.fieldLink RX5 87 "NightRidersModel" "tryEnd" "[I", Cond.fieldLink RX5 90 "NightRidersModel" "bestRider" "[I", Cond.fieldLink RX5 93 "NightRidersModel" "bestPlace" "[I", Cond.fieldLink RX5 96 "NightRidersModel" "bestStart" "[I", Cond.fieldLink RX5 99 "NightRidersModel" "bestEnd" "[I"]
def wsX5_init : List Cond := .code yX5_init cX5_init 1 none :: ((wsX5_init_r1 ++ wsX5_init_r2) ++ wsX50)
def wsX5_thrown : List Cond := .code yX5_thrown cX5_thrown 1 (some .int) :: ([.fieldLink RX5 102 "NightRidersModel" "thrown" "I"] ++ wsX50)
def wsX5_in : List Cond := .code yX5_in cX5_in 3 (some .boolean) :: ([])
def wsX5_isPlace : List Cond := .code yX5_isPlace cX5_isPlace 2 (some .boolean) :: ([.fieldLink RX5 105 "NightRidersModel" "places" "I", .methodLink RX5 108 yX5_in, .static yX5_in, .initialized RX5, .code yX5_in cX5_in 3 (some .boolean)] ++ wsX50)
def wsX5_isRider : List Cond := .code yX5_isRider cX5_isRider 2 (some .boolean) :: ([.fieldLink RX5 112 "NightRidersModel" "riders" "I", .methodLink RX5 108 yX5_in, .static yX5_in, .initialized RX5, .code yX5_in cX5_in 3 (some .boolean)] ++ wsX50)
def wsX5_isCall : List Cond := .code yX5_isCall cX5_isCall 2 (some .boolean) :: ([.fieldLink RX5 115 "NightRidersModel" "calls" "I", .methodLink RX5 108 yX5_in, .static yX5_in, .initialized RX5, .code yX5_in cX5_in 3 (some .boolean)] ++ wsX50)
def wsX5_place : List Cond := .code yX5_place cX5_place 1 (some .int) :: ([.fieldLink RX5 102 "NightRidersModel" "thrown" "I", .fieldLink RX5 105 "NightRidersModel" "places" "I"] ++ wsX50)
def wsX5_road : List Cond := .code yX5_road cX5_road 4 (some .boolean) :: ([.fieldLink RX5 102 "NightRidersModel" "thrown" "I", .fieldLink RX5 9 "NightRidersModel" "roads" "[I", .methodLink RX5 118 yX5_isPlace, .instanceMethod yX5_isPlace, .selects RX5 yX5_isPlace yX5_isPlace, .initialized RX5, .code yX5_isPlace cX5_isPlace 2 (some .boolean), .fieldLink RX5 105 "NightRidersModel" "places" "I", .methodLink RX5 108 yX5_in, .static yX5_in, .code yX5_in cX5_in 3 (some .boolean)] ++ wsX50)
def wsX5_rider : List Cond := .code yX5_rider cX5_rider 6 (some .int) :: ([.fieldLink RX5 102 "NightRidersModel" "thrown" "I", .fieldLink RX5 105 "NightRidersModel" "places" "I", .fieldLink RX5 112 "NightRidersModel" "riders" "I", .fieldLink RX5 13 "NightRidersModel" "home" "[I", .fieldLink RX5 16 "NightRidersModel" "area" "[I", .fieldLink RX5 19 "NightRidersModel" "dutyFrom" "[I", .fieldLink RX5 22 "NightRidersModel" "dutyTo" "[I", .fieldLink RX5 25 "NightRidersModel" "kinds" "[I", .fieldLink RX5 28 "NightRidersModel" "at" "[I", .fieldLink RX5 31 "NightRidersModel" "free" "[I", .methodLink RX5 118 yX5_isPlace, .instanceMethod yX5_isPlace, .selects RX5 yX5_isPlace yX5_isPlace, .initialized RX5, .code yX5_isPlace cX5_isPlace 2 (some .boolean), .methodLink RX5 108 yX5_in, .static yX5_in, .code yX5_in cX5_in 3 (some .boolean)] ++ wsX50)
def wsX5_rest : List Cond := .code yX5_rest cX5_rest 3 (some .int) :: ([.fieldLink RX5 102 "NightRidersModel" "thrown" "I", .fieldLink RX5 44 "NightRidersModel" "rest" "I", .methodLink RX5 108 yX5_in, .static yX5_in, .initialized RX5, .code yX5_in cX5_in 3 (some .boolean)] ++ wsX50)
def wsX5_wayOf : List Cond := .code yX5_wayOf cX5_wayOf 8 (some .int) :: ([.fieldLink RX5 16 "NightRidersModel" "area" "[I", .constant RX5 122 (1000000), .fieldLink RX5 75 "NightRidersModel" "far" "[I", .fieldLink RX5 105 "NightRidersModel" "places" "I", .fieldLink RX5 9 "NightRidersModel" "roads" "[I"] ++ wsX50)
def wsX5_way : List Cond := .code yX5_way cX5_way 5 (some .int) :: ([.fieldLink RX5 102 "NightRidersModel" "thrown" "I", .constant RX5 122 (1000000), .methodLink RX5 123 yX5_isRider, .instanceMethod yX5_isRider, .selects RX5 yX5_isRider yX5_isRider, .initialized RX5, .code yX5_isRider cX5_isRider 2 (some .boolean), .fieldLink RX5 112 "NightRidersModel" "riders" "I", .methodLink RX5 108 yX5_in, .static yX5_in, .code yX5_in cX5_in 3 (some .boolean), .methodLink RX5 118 yX5_isPlace, .instanceMethod yX5_isPlace, .selects RX5 yX5_isPlace yX5_isPlace, .code yX5_isPlace cX5_isPlace 2 (some .boolean), .fieldLink RX5 105 "NightRidersModel" "places" "I", .methodLink RX5 126 yX5_wayOf, .instanceMethod yX5_wayOf, .selects RX5 yX5_wayOf yX5_wayOf, .code yX5_wayOf cX5_wayOf 8 (some .int), .fieldLink RX5 16 "NightRidersModel" "area" "[I", .fieldLink RX5 75 "NightRidersModel" "far" "[I", .fieldLink RX5 9 "NightRidersModel" "roads" "[I"] ++ wsX50)
def wsX5_endOf : List Cond := .code yX5_endOf cX5_endOf 2 (some .int) :: ([.fieldLink RX5 69 "NightRidersModel" "legs" "[I", .fieldLink RX5 72 "NightRidersModel" "legMany" "[I"] ++ wsX50)
def wsX5_count : List Cond := .code yX5_count cX5_count 4 (some .int) :: ([.fieldLink RX5 102 "NightRidersModel" "thrown" "I", .fieldLink RX5 105 "NightRidersModel" "places" "I", .fieldLink RX5 112 "NightRidersModel" "riders" "I", .fieldLink RX5 115 "NightRidersModel" "calls" "I", .fieldLink RX5 63 "NightRidersModel" "state" "[I", .fieldLink RX5 57 "NightRidersModel" "ready" "[I", .fieldLink RX5 60 "NightRidersModel" "cold" "[I", .methodLink RX5 130 yX5_endOf, .instanceMethod yX5_endOf, .selects RX5 yX5_endOf yX5_endOf, .initialized RX5, .code yX5_endOf cX5_endOf 2 (some .int), .fieldLink RX5 69 "NightRidersModel" "legs" "[I", .fieldLink RX5 72 "NightRidersModel" "legMany" "[I"] ++ wsX50)
def wsX5_of : List Cond := .code yX5_of cX5_of 3 (some .int) :: ([.fieldLink RX5 102 "NightRidersModel" "thrown" "I", .fieldLink RX5 13 "NightRidersModel" "home" "[I", .fieldLink RX5 28 "NightRidersModel" "at" "[I", .fieldLink RX5 34 "NightRidersModel" "failed" "[Z", .fieldLink RX5 31 "NightRidersModel" "free" "[I", .fieldLink RX5 38 "NightRidersModel" "rode" "[I", .fieldLink RX5 41 "NightRidersModel" "minutes" "[I", .fieldLink RX5 16 "NightRidersModel" "area" "[I", .fieldLink RX5 25 "NightRidersModel" "kinds" "[I", .methodLink RX5 123 yX5_isRider, .instanceMethod yX5_isRider, .selects RX5 yX5_isRider yX5_isRider, .initialized RX5, .code yX5_isRider cX5_isRider 2 (some .boolean), .fieldLink RX5 112 "NightRidersModel" "riders" "I", .methodLink RX5 108 yX5_in, .static yX5_in, .code yX5_in cX5_in 3 (some .boolean)] ++ wsX50)
def wsX5_mayCarry : List Cond := .code yX5_mayCarry cX5_mayCarry 3 (some .boolean) :: ([.fieldLink RX5 34 "NightRidersModel" "failed" "[Z", .fieldLink RX5 25 "NightRidersModel" "kinds" "[I"] ++ wsX50)
def wsX5_onDuty : List Cond := .code yX5_onDuty cX5_onDuty 5 (some .int) :: ([.fieldLink RX5 112 "NightRidersModel" "riders" "I", .fieldLink RX5 19 "NightRidersModel" "dutyFrom" "[I", .fieldLink RX5 22 "NightRidersModel" "dutyTo" "[I", .methodLink RX5 134 yX5_mayCarry, .instanceMethod yX5_mayCarry, .selects RX5 yX5_mayCarry yX5_mayCarry, .initialized RX5, .code yX5_mayCarry cX5_mayCarry 3 (some .boolean), .fieldLink RX5 34 "NightRidersModel" "failed" "[Z", .fieldLink RX5 25 "NightRidersModel" "kinds" "[I", .methodLink RX5 108 yX5_in, .static yX5_in, .code yX5_in cX5_in 3 (some .boolean)] ++ wsX50)
def wsX5_duty : List Cond := .code yX5_duty cX5_duty 3 (some .int) :: ([.fieldLink RX5 102 "NightRidersModel" "thrown" "I", .methodLink RX5 108 yX5_in, .static yX5_in, .initialized RX5, .code yX5_in cX5_in 3 (some .boolean), .methodLink RX5 138 yX5_onDuty, .instanceMethod yX5_onDuty, .selects RX5 yX5_onDuty yX5_onDuty, .code yX5_onDuty cX5_onDuty 5 (some .int), .fieldLink RX5 112 "NightRidersModel" "riders" "I", .fieldLink RX5 19 "NightRidersModel" "dutyFrom" "[I", .fieldLink RX5 22 "NightRidersModel" "dutyTo" "[I", .methodLink RX5 134 yX5_mayCarry, .instanceMethod yX5_mayCarry, .selects RX5 yX5_mayCarry yX5_mayCarry, .code yX5_mayCarry cX5_mayCarry 3 (some .boolean), .fieldLink RX5 34 "NightRidersModel" "failed" "[Z", .fieldLink RX5 25 "NightRidersModel" "kinds" "[I"] ++ wsX50)
def wsX5_bare : List Cond := .code yX5_bare cX5_bare 4 (some .int) :: ([.fieldLink RX5 102 "NightRidersModel" "thrown" "I", .methodLink RX5 108 yX5_in, .static yX5_in, .initialized RX5, .code yX5_in cX5_in 3 (some .boolean), .methodLink RX5 138 yX5_onDuty, .instanceMethod yX5_onDuty, .selects RX5 yX5_onDuty yX5_onDuty, .code yX5_onDuty cX5_onDuty 5 (some .int), .fieldLink RX5 112 "NightRidersModel" "riders" "I", .fieldLink RX5 19 "NightRidersModel" "dutyFrom" "[I", .fieldLink RX5 22 "NightRidersModel" "dutyTo" "[I", .methodLink RX5 134 yX5_mayCarry, .instanceMethod yX5_mayCarry, .selects RX5 yX5_mayCarry yX5_mayCarry, .code yX5_mayCarry cX5_mayCarry 3 (some .boolean), .fieldLink RX5 34 "NightRidersModel" "failed" "[Z", .fieldLink RX5 25 "NightRidersModel" "kinds" "[I"] ++ wsX50)
def wsX5_isBetter : List Cond := .code yX5_isBetter cX5_isBetter 5 (some .boolean) :: ([.fieldLink RX5 142 "NightRidersModel" "bestMany" "I", .fieldLink RX5 87 "NightRidersModel" "tryEnd" "[I", .fieldLink RX5 99 "NightRidersModel" "bestEnd" "[I", .fieldLink RX5 78 "NightRidersModel" "tryRider" "[I", .fieldLink RX5 90 "NightRidersModel" "bestRider" "[I", .fieldLink RX5 81 "NightRidersModel" "tryPlace" "[I", .fieldLink RX5 93 "NightRidersModel" "bestPlace" "[I"] ++ wsX50)
def wsX5_tryLeg_r1 : List Cond := [Cond.fieldLink RX5 112 "NightRidersModel" "riders" "I", Cond.fieldLink RX5 78 "NightRidersModel" "tryRider" "[I", Cond.fieldLink RX5 28 "NightRidersModel" "at" "[I", Cond.constant RX5 122 (1000000), Cond.fieldLink RX5 31 "NightRidersModel" "free" "[I", Cond.fieldLink RX5 19 "NightRidersModel" "dutyFrom" "[I", Cond.methodLink RX5 145 Lib.Math.max.name, Cond.static Lib.Math.max.name, Cond.initialized "java/lang/Math", Cond.code Lib.Math.max.name Lib.Math.max.code 2 (some .int), Cond.fieldLink RX5 22 "NightRidersModel" "dutyTo" "[I", Cond.fieldLink RX5 105 "NightRidersModel" "places" "I", Cond.fieldLink RX5 81 "NightRidersModel" "tryPlace" "[I", Cond.fieldLink RX5 84 "NightRidersModel" "tryStart" "[I", Cond.fieldLink RX5 87 "NightRidersModel" "tryEnd" "[I", Cond.fieldLink RX5 142 "NightRidersModel" "bestMany" "I", Cond.fieldLink RX5 90 "NightRidersModel" "bestRider" "[I", Cond.fieldLink RX5 93 "NightRidersModel" "bestPlace" "[I", Cond.fieldLink RX5 96 "NightRidersModel" "bestStart" "[I", Cond.fieldLink RX5 99 "NightRidersModel" "bestEnd" "[I", Cond.methodLink RX5 134 yX5_mayCarry, Cond.instanceMethod yX5_mayCarry, Cond.selects RX5 yX5_mayCarry yX5_mayCarry, Cond.initialized RX5]
def wsX5_tryLeg_r2 : List Cond := [Cond.code yX5_mayCarry cX5_mayCarry 3 (some .boolean), Cond.fieldLink RX5 34 "NightRidersModel" "failed" "[Z", Cond.fieldLink RX5 25 "NightRidersModel" "kinds" "[I", Cond.methodLink RX5 126 yX5_wayOf, Cond.instanceMethod yX5_wayOf, Cond.selects RX5 yX5_wayOf yX5_wayOf, Cond.code yX5_wayOf cX5_wayOf 8 (some .int), Cond.fieldLink RX5 16 "NightRidersModel" "area" "[I", Cond.fieldLink RX5 75 "NightRidersModel" "far" "[I", Cond.fieldLink RX5 9 "NightRidersModel" "roads" "[I", Cond.methodLink RX5 150 yX5_tryLeg, Cond.instanceMethod yX5_tryLeg, Cond.selects RX5 yX5_tryLeg yX5_tryLeg, Cond.methodLink RX5 154 yX5_isBetter, Cond.instanceMethod yX5_isBetter, Cond.selects RX5 yX5_isBetter yX5_isBetter, Cond.code yX5_isBetter cX5_isBetter 5 (some .boolean)]
def wsX5_tryLeg : List Cond := .code yX5_tryLeg cX5_tryLeg 14 none :: ((wsX5_tryLeg_r1 ++ wsX5_tryLeg_r2) ++ wsX50)
def wsX5_findBest_r1 : List Cond := [Cond.fieldLink RX5 142 "NightRidersModel" "bestMany" "I", Cond.methodLink RX5 150 yX5_tryLeg, Cond.instanceMethod yX5_tryLeg, Cond.selects RX5 yX5_tryLeg yX5_tryLeg, Cond.initialized RX5, Cond.code yX5_tryLeg cX5_tryLeg 14 none, Cond.fieldLink RX5 112 "NightRidersModel" "riders" "I", Cond.fieldLink RX5 78 "NightRidersModel" "tryRider" "[I", Cond.fieldLink RX5 28 "NightRidersModel" "at" "[I", Cond.constant RX5 122 (1000000), Cond.fieldLink RX5 31 "NightRidersModel" "free" "[I", Cond.fieldLink RX5 19 "NightRidersModel" "dutyFrom" "[I", Cond.methodLink RX5 145 Lib.Math.max.name, Cond.static Lib.Math.max.name, Cond.initialized "java/lang/Math", Cond.code Lib.Math.max.name Lib.Math.max.code 2 (some .int), Cond.fieldLink RX5 22 "NightRidersModel" "dutyTo" "[I", Cond.fieldLink RX5 105 "NightRidersModel" "places" "I", Cond.fieldLink RX5 81 "NightRidersModel" "tryPlace" "[I", Cond.fieldLink RX5 84 "NightRidersModel" "tryStart" "[I", Cond.fieldLink RX5 87 "NightRidersModel" "tryEnd" "[I", Cond.fieldLink RX5 90 "NightRidersModel" "bestRider" "[I", Cond.fieldLink RX5 93 "NightRidersModel" "bestPlace" "[I", Cond.fieldLink RX5 96 "NightRidersModel" "bestStart" "[I"]
def wsX5_findBest_r2 : List Cond := [Cond.fieldLink RX5 99 "NightRidersModel" "bestEnd" "[I", Cond.methodLink RX5 134 yX5_mayCarry, Cond.instanceMethod yX5_mayCarry, Cond.selects RX5 yX5_mayCarry yX5_mayCarry, Cond.code yX5_mayCarry cX5_mayCarry 3 (some .boolean), Cond.fieldLink RX5 34 "NightRidersModel" "failed" "[Z", Cond.fieldLink RX5 25 "NightRidersModel" "kinds" "[I", Cond.methodLink RX5 126 yX5_wayOf, Cond.instanceMethod yX5_wayOf, Cond.selects RX5 yX5_wayOf yX5_wayOf, Cond.code yX5_wayOf cX5_wayOf 8 (some .int), Cond.fieldLink RX5 16 "NightRidersModel" "area" "[I", Cond.fieldLink RX5 75 "NightRidersModel" "far" "[I", Cond.fieldLink RX5 9 "NightRidersModel" "roads" "[I", Cond.methodLink RX5 154 yX5_isBetter, Cond.instanceMethod yX5_isBetter, Cond.selects RX5 yX5_isBetter yX5_isBetter, Cond.code yX5_isBetter cX5_isBetter 5 (some .boolean)]
def wsX5_findBest : List Cond := .code yX5_findBest cX5_findBest 5 (some .boolean) :: ((wsX5_findBest_r1 ++ wsX5_findBest_r2) ++ wsX50)
def wsX5_ride : List Cond := .code yX5_ride cX5_ride 7 none :: ([.fieldLink RX5 142 "NightRidersModel" "bestMany" "I", .fieldLink RX5 90 "NightRidersModel" "bestRider" "[I", .fieldLink RX5 72 "NightRidersModel" "legMany" "[I", .fieldLink RX5 69 "NightRidersModel" "legs" "[I", .fieldLink RX5 93 "NightRidersModel" "bestPlace" "[I", .fieldLink RX5 96 "NightRidersModel" "bestStart" "[I", .fieldLink RX5 99 "NightRidersModel" "bestEnd" "[I", .fieldLink RX5 28 "NightRidersModel" "at" "[I", .fieldLink RX5 31 "NightRidersModel" "free" "[I", .fieldLink RX5 44 "NightRidersModel" "rest" "I", .fieldLink RX5 38 "NightRidersModel" "rode" "[I", .fieldLink RX5 41 "NightRidersModel" "minutes" "[I"] ++ wsX50)
def wsX5_call : List Cond := .code yX5_call cX5_call 6 (some .int) :: ([.fieldLink RX5 102 "NightRidersModel" "thrown" "I", .fieldLink RX5 115 "NightRidersModel" "calls" "I", .fieldLink RX5 48 "NightRidersModel" "kind" "[I", .fieldLink RX5 51 "NightRidersModel" "from" "[I", .fieldLink RX5 54 "NightRidersModel" "to" "[I", .fieldLink RX5 57 "NightRidersModel" "ready" "[I", .fieldLink RX5 60 "NightRidersModel" "cold" "[I", .methodLink RX5 108 yX5_in, .static yX5_in, .initialized RX5, .code yX5_in cX5_in 3 (some .boolean), .methodLink RX5 118 yX5_isPlace, .instanceMethod yX5_isPlace, .selects RX5 yX5_isPlace yX5_isPlace, .code yX5_isPlace cX5_isPlace 2 (some .boolean), .fieldLink RX5 105 "NightRidersModel" "places" "I"] ++ wsX50)
def wsX5_best_r1 : List Cond := [Cond.fieldLink RX5 102 "NightRidersModel" "thrown" "I", Cond.fieldLink RX5 63 "NightRidersModel" "state" "[I", Cond.fieldLink RX5 48 "NightRidersModel" "kind" "[I", Cond.fieldLink RX5 51 "NightRidersModel" "from" "[I", Cond.fieldLink RX5 57 "NightRidersModel" "ready" "[I", Cond.fieldLink RX5 54 "NightRidersModel" "to" "[I", Cond.fieldLink RX5 99 "NightRidersModel" "bestEnd" "[I", Cond.fieldLink RX5 142 "NightRidersModel" "bestMany" "I", Cond.methodLink RX5 157 yX5_isCall, Cond.instanceMethod yX5_isCall, Cond.selects RX5 yX5_isCall yX5_isCall, Cond.initialized RX5, Cond.code yX5_isCall cX5_isCall 2 (some .boolean), Cond.fieldLink RX5 115 "NightRidersModel" "calls" "I", Cond.methodLink RX5 108 yX5_in, Cond.static yX5_in, Cond.code yX5_in cX5_in 3 (some .boolean), Cond.methodLink RX5 160 yX5_findBest, Cond.instanceMethod yX5_findBest, Cond.selects RX5 yX5_findBest yX5_findBest, Cond.code yX5_findBest cX5_findBest 5 (some .boolean), Cond.methodLink RX5 150 yX5_tryLeg, Cond.instanceMethod yX5_tryLeg, Cond.selects RX5 yX5_tryLeg yX5_tryLeg]
def wsX5_best_r2 : List Cond := [Cond.code yX5_tryLeg cX5_tryLeg 14 none, Cond.fieldLink RX5 112 "NightRidersModel" "riders" "I", Cond.fieldLink RX5 78 "NightRidersModel" "tryRider" "[I", Cond.fieldLink RX5 28 "NightRidersModel" "at" "[I", Cond.constant RX5 122 (1000000), Cond.fieldLink RX5 31 "NightRidersModel" "free" "[I", Cond.fieldLink RX5 19 "NightRidersModel" "dutyFrom" "[I", Cond.methodLink RX5 145 Lib.Math.max.name, Cond.static Lib.Math.max.name, Cond.initialized "java/lang/Math", Cond.code Lib.Math.max.name Lib.Math.max.code 2 (some .int), Cond.fieldLink RX5 22 "NightRidersModel" "dutyTo" "[I", Cond.fieldLink RX5 105 "NightRidersModel" "places" "I", Cond.fieldLink RX5 81 "NightRidersModel" "tryPlace" "[I", Cond.fieldLink RX5 84 "NightRidersModel" "tryStart" "[I", Cond.fieldLink RX5 87 "NightRidersModel" "tryEnd" "[I", Cond.fieldLink RX5 90 "NightRidersModel" "bestRider" "[I", Cond.fieldLink RX5 93 "NightRidersModel" "bestPlace" "[I", Cond.fieldLink RX5 96 "NightRidersModel" "bestStart" "[I", Cond.methodLink RX5 134 yX5_mayCarry, Cond.instanceMethod yX5_mayCarry, Cond.selects RX5 yX5_mayCarry yX5_mayCarry, Cond.code yX5_mayCarry cX5_mayCarry 3 (some .boolean), Cond.fieldLink RX5 34 "NightRidersModel" "failed" "[Z"]
def wsX5_best_r3 : List Cond := [Cond.fieldLink RX5 25 "NightRidersModel" "kinds" "[I", Cond.methodLink RX5 126 yX5_wayOf, Cond.instanceMethod yX5_wayOf, Cond.selects RX5 yX5_wayOf yX5_wayOf, Cond.code yX5_wayOf cX5_wayOf 8 (some .int), Cond.fieldLink RX5 16 "NightRidersModel" "area" "[I", Cond.fieldLink RX5 75 "NightRidersModel" "far" "[I", Cond.fieldLink RX5 9 "NightRidersModel" "roads" "[I", Cond.methodLink RX5 154 yX5_isBetter, Cond.instanceMethod yX5_isBetter, Cond.selects RX5 yX5_isBetter yX5_isBetter, Cond.code yX5_isBetter cX5_isBetter 5 (some .boolean)]
def wsX5_best : List Cond := .code yX5_best cX5_best 2 (some .int) :: ((wsX5_best_r1 ++ (wsX5_best_r2 ++ wsX5_best_r3)) ++ wsX50)
def wsX5_send_r1 : List Cond := [Cond.fieldLink RX5 102 "NightRidersModel" "thrown" "I", Cond.fieldLink RX5 63 "NightRidersModel" "state" "[I", Cond.fieldLink RX5 48 "NightRidersModel" "kind" "[I", Cond.fieldLink RX5 51 "NightRidersModel" "from" "[I", Cond.fieldLink RX5 57 "NightRidersModel" "ready" "[I", Cond.fieldLink RX5 54 "NightRidersModel" "to" "[I", Cond.fieldLink RX5 66 "NightRidersModel" "latest" "I", Cond.methodLink RX5 157 yX5_isCall, Cond.instanceMethod yX5_isCall, Cond.selects RX5 yX5_isCall yX5_isCall, Cond.initialized RX5, Cond.code yX5_isCall cX5_isCall 2 (some .boolean), Cond.fieldLink RX5 115 "NightRidersModel" "calls" "I", Cond.methodLink RX5 108 yX5_in, Cond.static yX5_in, Cond.code yX5_in cX5_in 3 (some .boolean), Cond.methodLink RX5 160 yX5_findBest, Cond.instanceMethod yX5_findBest, Cond.selects RX5 yX5_findBest yX5_findBest, Cond.code yX5_findBest cX5_findBest 5 (some .boolean), Cond.fieldLink RX5 142 "NightRidersModel" "bestMany" "I", Cond.methodLink RX5 150 yX5_tryLeg, Cond.instanceMethod yX5_tryLeg, Cond.selects RX5 yX5_tryLeg yX5_tryLeg]
def wsX5_send_r2 : List Cond := [Cond.code yX5_tryLeg cX5_tryLeg 14 none, Cond.fieldLink RX5 112 "NightRidersModel" "riders" "I", Cond.fieldLink RX5 78 "NightRidersModel" "tryRider" "[I", Cond.fieldLink RX5 28 "NightRidersModel" "at" "[I", Cond.constant RX5 122 (1000000), Cond.fieldLink RX5 31 "NightRidersModel" "free" "[I", Cond.fieldLink RX5 19 "NightRidersModel" "dutyFrom" "[I", Cond.methodLink RX5 145 Lib.Math.max.name, Cond.static Lib.Math.max.name, Cond.initialized "java/lang/Math", Cond.code Lib.Math.max.name Lib.Math.max.code 2 (some .int), Cond.fieldLink RX5 22 "NightRidersModel" "dutyTo" "[I", Cond.fieldLink RX5 105 "NightRidersModel" "places" "I", Cond.fieldLink RX5 81 "NightRidersModel" "tryPlace" "[I", Cond.fieldLink RX5 84 "NightRidersModel" "tryStart" "[I", Cond.fieldLink RX5 87 "NightRidersModel" "tryEnd" "[I", Cond.fieldLink RX5 90 "NightRidersModel" "bestRider" "[I", Cond.fieldLink RX5 93 "NightRidersModel" "bestPlace" "[I", Cond.fieldLink RX5 96 "NightRidersModel" "bestStart" "[I", Cond.fieldLink RX5 99 "NightRidersModel" "bestEnd" "[I", Cond.methodLink RX5 134 yX5_mayCarry, Cond.instanceMethod yX5_mayCarry, Cond.selects RX5 yX5_mayCarry yX5_mayCarry, Cond.code yX5_mayCarry cX5_mayCarry 3 (some .boolean)]
def wsX5_send_r3 : List Cond := [Cond.fieldLink RX5 34 "NightRidersModel" "failed" "[Z", Cond.fieldLink RX5 25 "NightRidersModel" "kinds" "[I", Cond.methodLink RX5 126 yX5_wayOf, Cond.instanceMethod yX5_wayOf, Cond.selects RX5 yX5_wayOf yX5_wayOf, Cond.code yX5_wayOf cX5_wayOf 8 (some .int), Cond.fieldLink RX5 16 "NightRidersModel" "area" "[I", Cond.fieldLink RX5 75 "NightRidersModel" "far" "[I", Cond.fieldLink RX5 9 "NightRidersModel" "roads" "[I", Cond.methodLink RX5 154 yX5_isBetter, Cond.instanceMethod yX5_isBetter, Cond.selects RX5 yX5_isBetter yX5_isBetter, Cond.code yX5_isBetter cX5_isBetter 5 (some .boolean), Cond.methodLink RX5 164 yX5_ride, Cond.instanceMethod yX5_ride, Cond.selects RX5 yX5_ride yX5_ride, Cond.code yX5_ride cX5_ride 7 none, Cond.fieldLink RX5 72 "NightRidersModel" "legMany" "[I", Cond.fieldLink RX5 69 "NightRidersModel" "legs" "[I", Cond.fieldLink RX5 44 "NightRidersModel" "rest" "I", Cond.fieldLink RX5 38 "NightRidersModel" "rode" "[I", Cond.fieldLink RX5 41 "NightRidersModel" "minutes" "[I", Cond.methodLink RX5 130 yX5_endOf, Cond.instanceMethod yX5_endOf]
def wsX5_send_r4 : List Cond := [Cond.selects RX5 yX5_endOf yX5_endOf, Cond.code yX5_endOf cX5_endOf 2 (some .int)]
def wsX5_send : List Cond := .code yX5_send cX5_send 2 (some .int) :: ((wsX5_send_r1 ++ (wsX5_send_r2 ++ (wsX5_send_r3 ++ wsX5_send_r4))) ++ wsX50)
def wsX5_told : List Cond := .code yX5_told cX5_told 3 (some .int) :: ([.fieldLink RX5 102 "NightRidersModel" "thrown" "I", .fieldLink RX5 48 "NightRidersModel" "kind" "[I", .fieldLink RX5 51 "NightRidersModel" "from" "[I", .fieldLink RX5 54 "NightRidersModel" "to" "[I", .fieldLink RX5 57 "NightRidersModel" "ready" "[I", .fieldLink RX5 60 "NightRidersModel" "cold" "[I", .fieldLink RX5 63 "NightRidersModel" "state" "[I", .fieldLink RX5 72 "NightRidersModel" "legMany" "[I", .methodLink RX5 157 yX5_isCall, .instanceMethod yX5_isCall, .selects RX5 yX5_isCall yX5_isCall, .initialized RX5, .code yX5_isCall cX5_isCall 2 (some .boolean), .fieldLink RX5 115 "NightRidersModel" "calls" "I", .methodLink RX5 108 yX5_in, .static yX5_in, .code yX5_in cX5_in 3 (some .boolean), .methodLink RX5 130 yX5_endOf, .instanceMethod yX5_endOf, .selects RX5 yX5_endOf yX5_endOf, .code yX5_endOf cX5_endOf 2 (some .int), .fieldLink RX5 69 "NightRidersModel" "legs" "[I"] ++ wsX50)
def wsX5_leg : List Cond := .code yX5_leg cX5_leg 4 (some .int) :: ([.fieldLink RX5 102 "NightRidersModel" "thrown" "I", .fieldLink RX5 72 "NightRidersModel" "legMany" "[I", .fieldLink RX5 69 "NightRidersModel" "legs" "[I", .methodLink RX5 157 yX5_isCall, .instanceMethod yX5_isCall, .selects RX5 yX5_isCall yX5_isCall, .initialized RX5, .code yX5_isCall cX5_isCall 2 (some .boolean), .fieldLink RX5 115 "NightRidersModel" "calls" "I", .methodLink RX5 108 yX5_in, .static yX5_in, .code yX5_in cX5_in 3 (some .boolean)] ++ wsX50)
def wsX5_hand : List Cond := .code yX5_hand cX5_hand 5 (some .int) :: ([.fieldLink RX5 102 "NightRidersModel" "thrown" "I", .fieldLink RX5 63 "NightRidersModel" "state" "[I", .fieldLink RX5 72 "NightRidersModel" "legMany" "[I", .fieldLink RX5 69 "NightRidersModel" "legs" "[I", .methodLink RX5 157 yX5_isCall, .instanceMethod yX5_isCall, .selects RX5 yX5_isCall yX5_isCall, .initialized RX5, .code yX5_isCall cX5_isCall 2 (some .boolean), .fieldLink RX5 115 "NightRidersModel" "calls" "I", .methodLink RX5 108 yX5_in, .static yX5_in, .code yX5_in cX5_in 3 (some .boolean), .methodLink RX5 130 yX5_endOf, .instanceMethod yX5_endOf, .selects RX5 yX5_endOf yX5_endOf, .code yX5_endOf cX5_endOf 2 (some .int)] ++ wsX50)
def wsX5_fail_r1 : List Cond := [Cond.fieldLink RX5 102 "NightRidersModel" "thrown" "I", Cond.fieldLink RX5 66 "NightRidersModel" "latest" "I", Cond.fieldLink RX5 72 "NightRidersModel" "legMany" "[I", Cond.fieldLink RX5 69 "NightRidersModel" "legs" "[I", Cond.fieldLink RX5 28 "NightRidersModel" "at" "[I", Cond.fieldLink RX5 31 "NightRidersModel" "free" "[I", Cond.fieldLink RX5 38 "NightRidersModel" "rode" "[I", Cond.fieldLink RX5 41 "NightRidersModel" "minutes" "[I", Cond.fieldLink RX5 34 "NightRidersModel" "failed" "[Z", Cond.fieldLink RX5 48 "NightRidersModel" "kind" "[I", Cond.fieldLink RX5 54 "NightRidersModel" "to" "[I", Cond.fieldLink RX5 63 "NightRidersModel" "state" "[I", Cond.methodLink RX5 157 yX5_isCall, Cond.instanceMethod yX5_isCall, Cond.selects RX5 yX5_isCall yX5_isCall, Cond.initialized RX5, Cond.code yX5_isCall cX5_isCall 2 (some .boolean), Cond.fieldLink RX5 115 "NightRidersModel" "calls" "I", Cond.methodLink RX5 108 yX5_in, Cond.static yX5_in, Cond.code yX5_in cX5_in 3 (some .boolean), Cond.methodLink RX5 160 yX5_findBest, Cond.instanceMethod yX5_findBest, Cond.selects RX5 yX5_findBest yX5_findBest]
def wsX5_fail_r2 : List Cond := [Cond.code yX5_findBest cX5_findBest 5 (some .boolean), Cond.fieldLink RX5 142 "NightRidersModel" "bestMany" "I", Cond.methodLink RX5 150 yX5_tryLeg, Cond.instanceMethod yX5_tryLeg, Cond.selects RX5 yX5_tryLeg yX5_tryLeg, Cond.code yX5_tryLeg cX5_tryLeg 14 none, Cond.fieldLink RX5 112 "NightRidersModel" "riders" "I", Cond.fieldLink RX5 78 "NightRidersModel" "tryRider" "[I", Cond.constant RX5 122 (1000000), Cond.fieldLink RX5 19 "NightRidersModel" "dutyFrom" "[I", Cond.methodLink RX5 145 Lib.Math.max.name, Cond.static Lib.Math.max.name, Cond.initialized "java/lang/Math", Cond.code Lib.Math.max.name Lib.Math.max.code 2 (some .int), Cond.fieldLink RX5 22 "NightRidersModel" "dutyTo" "[I", Cond.fieldLink RX5 105 "NightRidersModel" "places" "I", Cond.fieldLink RX5 81 "NightRidersModel" "tryPlace" "[I", Cond.fieldLink RX5 84 "NightRidersModel" "tryStart" "[I", Cond.fieldLink RX5 87 "NightRidersModel" "tryEnd" "[I", Cond.fieldLink RX5 90 "NightRidersModel" "bestRider" "[I", Cond.fieldLink RX5 93 "NightRidersModel" "bestPlace" "[I", Cond.fieldLink RX5 96 "NightRidersModel" "bestStart" "[I", Cond.fieldLink RX5 99 "NightRidersModel" "bestEnd" "[I", Cond.methodLink RX5 134 yX5_mayCarry]
def wsX5_fail_r3 : List Cond := [Cond.instanceMethod yX5_mayCarry, Cond.selects RX5 yX5_mayCarry yX5_mayCarry, Cond.code yX5_mayCarry cX5_mayCarry 3 (some .boolean), Cond.fieldLink RX5 25 "NightRidersModel" "kinds" "[I", Cond.methodLink RX5 126 yX5_wayOf, Cond.instanceMethod yX5_wayOf, Cond.selects RX5 yX5_wayOf yX5_wayOf, Cond.code yX5_wayOf cX5_wayOf 8 (some .int), Cond.fieldLink RX5 16 "NightRidersModel" "area" "[I", Cond.fieldLink RX5 75 "NightRidersModel" "far" "[I", Cond.fieldLink RX5 9 "NightRidersModel" "roads" "[I", Cond.methodLink RX5 154 yX5_isBetter, Cond.instanceMethod yX5_isBetter, Cond.selects RX5 yX5_isBetter yX5_isBetter, Cond.code yX5_isBetter cX5_isBetter 5 (some .boolean), Cond.methodLink RX5 164 yX5_ride, Cond.instanceMethod yX5_ride, Cond.selects RX5 yX5_ride yX5_ride, Cond.code yX5_ride cX5_ride 7 none, Cond.fieldLink RX5 44 "NightRidersModel" "rest" "I", Cond.methodLink RX5 130 yX5_endOf, Cond.instanceMethod yX5_endOf, Cond.selects RX5 yX5_endOf yX5_endOf, Cond.code yX5_endOf cX5_endOf 2 (some .int)]
def wsX5_fail : List Cond := .code yX5_fail cX5_fail 8 (some .int) :: ((wsX5_fail_r1 ++ (wsX5_fail_r2 ++ wsX5_fail_r3)) ++ wsX50)
def wsX5_next_r1 : List Cond := [Cond.fieldLink RX5 102 "NightRidersModel" "thrown" "I", Cond.fieldLink RX5 112 "NightRidersModel" "riders" "I", Cond.fieldLink RX5 28 "NightRidersModel" "at" "[I", Cond.constant RX5 122 (1000000), Cond.fieldLink RX5 31 "NightRidersModel" "free" "[I", Cond.fieldLink RX5 19 "NightRidersModel" "dutyFrom" "[I", Cond.methodLink RX5 145 Lib.Math.max.name, Cond.static Lib.Math.max.name, Cond.initialized "java/lang/Math", Cond.code Lib.Math.max.name Lib.Math.max.code 2 (some .int), Cond.fieldLink RX5 22 "NightRidersModel" "dutyTo" "[I", Cond.fieldLink RX5 38 "NightRidersModel" "rode" "[I", Cond.methodLink RX5 108 yX5_in, Cond.static yX5_in, Cond.initialized RX5, Cond.code yX5_in cX5_in 3 (some .boolean), Cond.methodLink RX5 118 yX5_isPlace, Cond.instanceMethod yX5_isPlace, Cond.selects RX5 yX5_isPlace yX5_isPlace, Cond.code yX5_isPlace cX5_isPlace 2 (some .boolean), Cond.fieldLink RX5 105 "NightRidersModel" "places" "I", Cond.methodLink RX5 126 yX5_wayOf, Cond.instanceMethod yX5_wayOf, Cond.selects RX5 yX5_wayOf yX5_wayOf]
def wsX5_next_r2 : List Cond := [Cond.code yX5_wayOf cX5_wayOf 8 (some .int), Cond.fieldLink RX5 16 "NightRidersModel" "area" "[I", Cond.fieldLink RX5 75 "NightRidersModel" "far" "[I", Cond.fieldLink RX5 9 "NightRidersModel" "roads" "[I", Cond.methodLink RX5 134 yX5_mayCarry, Cond.instanceMethod yX5_mayCarry, Cond.selects RX5 yX5_mayCarry yX5_mayCarry, Cond.code yX5_mayCarry cX5_mayCarry 3 (some .boolean), Cond.fieldLink RX5 34 "NightRidersModel" "failed" "[Z", Cond.fieldLink RX5 25 "NightRidersModel" "kinds" "[I"]
def wsX5_next : List Cond := .code yX5_next cX5_next 8 (some .int) :: ((wsX5_next_r1 ++ wsX5_next_r2) ++ wsX50)
def wsJ9_max_7cf53 : List Cond := .code yJ9_max_7cf53 cJ9_max_7cf53 2 (some .int) :: ([])
def wsL_of : List Cond := .codeWith yL_of cL_of 5 (some .int) [(0, 10, 13, 13)] :: ([.classLink RL 13 "java/util/NoSuchElementException", .methodLink RL 7 yX4_of, .instanceMethod yX4_of, .selects RX4 yX4_of yX4_of, .initialized RX4, .code yX4_of cX4_of 4 (some .int), .classLink RX4 84 "java/util/NoSuchElementException", .initialized "java/util/NoSuchElementException", .fieldLink RX4 91 "NightRiders$Rider" "home" "I", .fieldLink RX4 94 "NightRiders$Rider" "at" "I", .fieldLink RX4 97 "NightRiders$Rider" "failed" "Z", .fieldLink RX4 101 "NightRiders$Rider" "free" "I", .fieldLink RX4 104 "NightRiders$Rider" "legsRidden" "I", .fieldLink RX4 107 "NightRiders$Rider" "boxMinutes" "I", .fieldLink RX4 110 "NightRiders$Rider" "area" "I", .fieldLink RX4 113 "NightRiders$Rider" "kinds" "I", .methodLink RX4 55 yX4_riderAt, .instanceMethod yX4_riderAt, .selects RX4 yX4_riderAt yX4_riderAt, .code yX4_riderAt cX4_riderAt 2 (some (.object "NightRiders$Rider")), .fieldLink RX4 39 "NightRiders" "riderCount" "I", .fieldLink RX4 15 "NightRiders" "riders" "[LNightRiders$Rider;"] ++ wsX30 ++ wsX40 ++ (vx_atS RX4 88 "java/util/NoSuchElementException" ["java/lang/RuntimeException", "java/lang/Exception"]).filter goodWord)
def wsL_law0_r1 : List Cond := [Cond.classLink RL 8 RX4, Cond.instantiable RX4 10, Cond.initialized RX4, Cond.classLink RL 16 RX5, Cond.instantiable RX5 35, Cond.initialized RX5, Cond.arrayClass .long, Cond.methodLink RL 15 yX4_init, Cond.instanceMethod yX4_init, Cond.code yX4_init cX4_init 1 none, Cond.methodLink RX4 3 objectInit, Cond.instanceMethod objectInit, Cond.code objectInit ⟨#[0xb1]⟩ 1 none, Cond.arrayClass .int, Cond.fieldLink RX4 9 "NightRiders" "roads" "[I", Cond.classLink RX4 13 RX3, Cond.fieldLink RX4 15 "NightRiders" "riders" "[LNightRiders$Rider;", Cond.classLink RX4 19 RX2, Cond.fieldLink RX4 21 "NightRiders" "requests" "[LNightRiders$Request;", Cond.classLink RX4 25 RX0, Cond.instantiable RX0 8, Cond.initialized RX0, Cond.fieldLink RX4 28 "NightRiders" "trial" "LNightRiders$Chain;", Cond.fieldLink RX4 32 "NightRiders" "chosen" "LNightRiders$Chain;"]
def wsL_law0_r2 : List Cond := [Cond.fieldLink RX4 35 "NightRiders" "placeCount" "I", Cond.fieldLink RX4 39 "NightRiders" "riderCount" "I", Cond.fieldLink RX4 42 "NightRiders" "requestCount" "I", Cond.fieldLink RX4 45 "NightRiders" "resting" "I", Cond.fieldLink RX4 48 "NightRiders" "lastSent" "I", Cond.instanceMethod yX0_init, Cond.code yX0_init cX0_init 1 none, Cond.methodLink RX0 3 objectInit, Cond.fieldLink RX0 9 "NightRiders$Chain" "riders" "[I", Cond.fieldLink RX0 15 "NightRiders$Chain" "froms" "[I", Cond.fieldLink RX0 18 "NightRiders$Chain" "tos" "[I", Cond.fieldLink RX0 21 "NightRiders$Chain" "starts" "[I", Cond.fieldLink RX0 24 "NightRiders$Chain" "ends" "[I", Cond.fieldLink RX0 27 "NightRiders$Chain" "length" "I", Cond.fieldLink RX0 31 "NightRiders$Chain" "kind" "I", Cond.fieldLink RX0 34 "NightRiders$Chain" "goal" "I", Cond.methodLink RL 18 yX5_init, Cond.instanceMethod yX5_init, Cond.code yX5_init cX5_init 1 none, Cond.methodLink RX5 1 objectInit, Cond.fieldLink RX5 9 "NightRidersModel" "roads" "[I", Cond.fieldLink RX5 13 "NightRidersModel" "home" "[I", Cond.fieldLink RX5 16 "NightRidersModel" "area" "[I", Cond.fieldLink RX5 19 "NightRidersModel" "dutyFrom" "[I"]
def wsL_law0_r3 : List Cond := [Cond.fieldLink RX5 22 "NightRidersModel" "dutyTo" "[I", Cond.fieldLink RX5 25 "NightRidersModel" "kinds" "[I", Cond.fieldLink RX5 28 "NightRidersModel" "at" "[I", Cond.fieldLink RX5 31 "NightRidersModel" "free" "[I", Cond.arrayClass .boolean, Cond.fieldLink RX5 34 "NightRidersModel" "failed" "[Z", Cond.fieldLink RX5 38 "NightRidersModel" "rode" "[I", Cond.fieldLink RX5 41 "NightRidersModel" "minutes" "[I", Cond.fieldLink RX5 44 "NightRidersModel" "rest" "I", Cond.fieldLink RX5 48 "NightRidersModel" "kind" "[I", Cond.fieldLink RX5 51 "NightRidersModel" "from" "[I", Cond.fieldLink RX5 54 "NightRidersModel" "to" "[I", Cond.fieldLink RX5 57 "NightRidersModel" "ready" "[I", Cond.fieldLink RX5 60 "NightRidersModel" "cold" "[I", Cond.fieldLink RX5 63 "NightRidersModel" "state" "[I", Cond.fieldLink RX5 66 "NightRidersModel" "latest" "I", Cond.fieldLink RX5 69 "NightRidersModel" "legs" "[I", Cond.fieldLink RX5 72 "NightRidersModel" "legMany" "[I", Cond.fieldLink RX5 75 "NightRidersModel" "far" "[I", Cond.fieldLink RX5 78 "NightRidersModel" "tryRider" "[I", Cond.fieldLink RX5 81 "NightRidersModel" "tryPlace" "[I", Cond.fieldLink RX5 84 "NightRidersModel" "tryStart" "[I", Cond.fieldLink RX5 87 "NightRidersModel" "tryEnd" "[I", Cond.fieldLink RX5 90 "NightRidersModel" "bestRider" "[I"]
def wsL_law0_r4 : List Cond := [Cond.fieldLink RX5 93 "NightRidersModel" "bestPlace" "[I", Cond.fieldLink RX5 96 "NightRidersModel" "bestStart" "[I", Cond.fieldLink RX5 99 "NightRidersModel" "bestEnd" "[I", Cond.methodLink RL 19 yX4_place, Cond.instanceMethod yX4_place, Cond.selects RX4 yX4_place yX4_place, Cond.code yX4_place cX4_place 1 (some .int), Cond.methodLink RL 23 yX5_place, Cond.instanceMethod yX5_place, Cond.selects RX5 yX5_place yX5_place, Cond.code yX5_place cX5_place 1 (some .int), Cond.fieldLink RX5 102 "NightRidersModel" "thrown" "I", Cond.fieldLink RX5 105 "NightRidersModel" "places" "I", Cond.methodLink RL 24 yX4_road, Cond.instanceMethod yX4_road, Cond.selects RX4 yX4_road yX4_road, Cond.code yX4_road cX4_road 6 (some .boolean), Cond.methodLink RX4 51 yX4_isPlace, Cond.instanceMethod yX4_isPlace, Cond.selects RX4 yX4_isPlace yX4_isPlace, Cond.code yX4_isPlace cX4_isPlace 2 (some .boolean), Cond.methodLink RX4 55 yX4_riderAt, Cond.instanceMethod yX4_riderAt, Cond.selects RX4 yX4_riderAt yX4_riderAt]
def wsL_law0_r5 : List Cond := [Cond.code yX4_riderAt cX4_riderAt 2 (some (.object "NightRiders$Rider")), Cond.methodLink RX4 59 yX4_settleWays, Cond.instanceMethod yX4_settleWays, Cond.selects RX4 yX4_settleWays yX4_settleWays, Cond.code yX4_settleWays cX4_settleWays 4 none, Cond.fieldLink RX4 214 "NightRiders$Rider" "ways" "[I", Cond.fieldLink RX4 110 "NightRiders$Rider" "area" "I", Cond.methodLink RX4 217 yX4_roadWithin, Cond.instanceMethod yX4_roadWithin, Cond.selects RX4 yX4_roadWithin yX4_roadWithin, Cond.code yX4_roadWithin cX4_roadWithin 5 (some .int), Cond.methodLink RX4 67 yX4_hasBit, Cond.static yX4_hasBit, Cond.code yX4_hasBit cX4_hasBit 2 (some .boolean), Cond.methodLink RX4 221 yX3_shortenWays, Cond.instanceMethod yX3_shortenWays, Cond.selects RX3 yX3_shortenWays yX3_shortenWays, Cond.initialized RX3, Cond.code yX3_shortenWays cX3_shortenWays 7 none, Cond.fieldLink RX3 9 "NightRiders$Rider" "ways" "[I", Cond.methodLink RL 28 yX5_road, Cond.instanceMethod yX5_road, Cond.selects RX5 yX5_road yX5_road, Cond.code yX5_road cX5_road 4 (some .boolean)]
def wsL_law0_r6 : List Cond := [Cond.methodLink RX5 118 yX5_isPlace, Cond.instanceMethod yX5_isPlace, Cond.selects RX5 yX5_isPlace yX5_isPlace, Cond.code yX5_isPlace cX5_isPlace 2 (some .boolean), Cond.methodLink RX5 108 yX5_in, Cond.static yX5_in, Cond.code yX5_in cX5_in 3 (some .boolean), Cond.methodLink RL 29 yX4_rider, Cond.instanceMethod yX4_rider, Cond.selects RX4 yX4_rider yX4_rider, Cond.code yX4_rider cX4_rider 7 (some .int), Cond.instantiable RX3 11, Cond.methodLink RX4 63 yX4_areBits, Cond.static yX4_areBits, Cond.code yX4_areBits cX4_areBits 2 (some .boolean), Cond.methodLink RX4 70 yX4_isMinute, Cond.static yX4_isMinute, Cond.code yX4_isMinute cX4_isMinute 1 (some .boolean), Cond.methodLink RX4 73 yX3_init, Cond.instanceMethod yX3_init, Cond.code yX3_init cX3_init 6 none, Cond.methodLink RX3 3 objectInit, Cond.fieldLink RX3 15 "NightRiders$Rider" "legsRidden" "I", Cond.fieldLink RX3 19 "NightRiders$Rider" "boxMinutes" "I"]
def wsL_law0_r7 : List Cond := [Cond.fieldLink RX3 22 "NightRiders$Rider" "failed" "Z", Cond.fieldLink RX3 26 "NightRiders$Rider" "home" "I", Cond.fieldLink RX3 29 "NightRiders$Rider" "area" "I", Cond.fieldLink RX3 32 "NightRiders$Rider" "dutyFrom" "I", Cond.fieldLink RX3 35 "NightRiders$Rider" "dutyTo" "I", Cond.fieldLink RX3 38 "NightRiders$Rider" "kinds" "I", Cond.fieldLink RX3 41 "NightRiders$Rider" "at" "I", Cond.fieldLink RX3 44 "NightRiders$Rider" "free" "I", Cond.methodLink RL 33 yX5_rider, Cond.instanceMethod yX5_rider, Cond.selects RX5 yX5_rider yX5_rider, Cond.code yX5_rider cX5_rider 6 (some .int), Cond.fieldLink RX5 112 "NightRidersModel" "riders" "I", Cond.methodLink RL 34 yX4_rest, Cond.instanceMethod yX4_rest, Cond.selects RX4 yX4_rest yX4_rest, Cond.code yX4_rest cX4_rest 3 (some .int), Cond.methodLink RL 38 yX5_rest, Cond.instanceMethod yX5_rest, Cond.selects RX5 yX5_rest yX5_rest, Cond.code yX5_rest cX5_rest 3 (some .int), Cond.methodLink RL 39 yX4_count, Cond.instanceMethod yX4_count, Cond.selects RX4 yX4_count yX4_count]
def wsL_law0_r8 : List Cond := [Cond.code yX4_count cX4_count 2 (some .int), Cond.methodLink RX4 76 yX4_countRequests, Cond.instanceMethod yX4_countRequests, Cond.selects RX4 yX4_countRequests yX4_countRequests, Cond.code yX4_countRequests cX4_countRequests 5 (some .int), Cond.methodLink RX4 137 yX4_requestAt, Cond.instanceMethod yX4_requestAt, Cond.selects RX4 yX4_requestAt yX4_requestAt, Cond.code yX4_requestAt cX4_requestAt 2 (some (.object "NightRiders$Request")), Cond.methodLink RX4 227 yX4_isCounted, Cond.static yX4_isCounted, Cond.code yX4_isCounted cX4_isCounted 2 (some .boolean), Cond.fieldLink RX4 141 "NightRiders$Request" "sent" "Z", Cond.fieldLink RX4 172 "NightRiders$Request" "lost" "Z", Cond.methodLink RX4 231 yX2_cameWarm, Cond.instanceMethod yX2_cameWarm, Cond.selects RX2 yX2_cameWarm yX2_cameWarm, Cond.initialized RX2, Cond.code yX2_cameWarm cX2_cameWarm 1 (some .boolean), Cond.fieldLink RX2 21 "NightRiders$Request" "sent" "Z", Cond.fieldLink RX2 25 "NightRiders$Request" "lost" "Z", Cond.fieldLink RX2 37 "NightRiders$Request" "ready" "I", Cond.fieldLink RX2 40 "NightRiders$Request" "cold" "I", Cond.methodLink RX2 50 yX2_lastEnd]
def wsL_law0_r9 : List Cond := [Cond.instanceMethod yX2_lastEnd, Cond.selects RX2 yX2_lastEnd yX2_lastEnd, Cond.code yX2_lastEnd cX2_lastEnd 2 (some .int), Cond.fieldLink RX2 17 "NightRiders$Request" "legCount" "I", Cond.fieldLink RX2 47 "NightRiders$Leg" "ends" "I", Cond.methodLink RX2 43 yX2_legAt, Cond.instanceMethod yX2_legAt, Cond.selects RX2 yX2_legAt yX2_legAt, Cond.code yX2_legAt cX2_legAt 2 (some (.object "NightRiders$Leg")), Cond.fieldLink RX2 11 "NightRiders$Request" "legs" "[LNightRiders$Leg;", Cond.methodLink RL 42 yX5_count, Cond.instanceMethod yX5_count, Cond.selects RX5 yX5_count yX5_count, Cond.code yX5_count cX5_count 4 (some .int), Cond.fieldLink RX5 115 "NightRidersModel" "calls" "I", Cond.methodLink RX5 130 yX5_endOf, Cond.instanceMethod yX5_endOf, Cond.selects RX5 yX5_endOf yX5_endOf, Cond.code yX5_endOf cX5_endOf 2 (some .int), Cond.methodLink RL 43 yX4_way, Cond.instanceMethod yX4_way, Cond.selects RX4 yX4_way yX4_way, Cond.code yX4_way cX4_way 5 (some .int), Cond.methodLink RX4 80 yX4_wayOf]
def wsL_law0_r10 : List Cond := [Cond.instanceMethod yX4_wayOf, Cond.selects RX4 yX4_wayOf yX4_wayOf, Cond.code yX4_wayOf cX4_wayOf 4 (some .int), Cond.methodLink RL 47 yX5_way, Cond.instanceMethod yX5_way, Cond.selects RX5 yX5_way yX5_way, Cond.code yX5_way cX5_way 5 (some .int), Cond.constant RX5 122 (1000000), Cond.methodLink RX5 123 yX5_isRider, Cond.instanceMethod yX5_isRider, Cond.selects RX5 yX5_isRider yX5_isRider, Cond.code yX5_isRider cX5_isRider 2 (some .boolean), Cond.methodLink RX5 126 yX5_wayOf, Cond.instanceMethod yX5_wayOf, Cond.selects RX5 yX5_wayOf yX5_wayOf, Cond.code yX5_wayOf cX5_wayOf 8 (some .int), Cond.methodLink RL 48 yL_of, Cond.static yL_of, Cond.initialized RL, Cond.codeWith yL_of cL_of 5 (some .int) [(0, 10, 13, 13)], Cond.classLink RL 13 "java/util/NoSuchElementException", Cond.methodLink RL 7 yX4_of, Cond.instanceMethod yX4_of, Cond.selects RX4 yX4_of yX4_of]
def wsL_law0_r11 : List Cond := [Cond.code yX4_of cX4_of 4 (some .int), Cond.classLink RX4 84 "java/util/NoSuchElementException", Cond.initialized "java/util/NoSuchElementException", Cond.fieldLink RX4 91 "NightRiders$Rider" "home" "I", Cond.fieldLink RX4 94 "NightRiders$Rider" "at" "I", Cond.fieldLink RX4 97 "NightRiders$Rider" "failed" "Z", Cond.fieldLink RX4 101 "NightRiders$Rider" "free" "I", Cond.fieldLink RX4 104 "NightRiders$Rider" "legsRidden" "I", Cond.fieldLink RX4 107 "NightRiders$Rider" "boxMinutes" "I", Cond.fieldLink RX4 113 "NightRiders$Rider" "kinds" "I", Cond.methodLink RL 53 yX5_of, Cond.instanceMethod yX5_of, Cond.selects RX5 yX5_of yX5_of, Cond.code yX5_of cX5_of 3 (some .int), Cond.methodLink RL 54 yX5_thrown, Cond.instanceMethod yX5_thrown, Cond.selects RX5 yX5_thrown yX5_thrown, Cond.code yX5_thrown cX5_thrown 1 (some .int), Cond.methodLink RL 57 yX4_duty, Cond.instanceMethod yX4_duty, Cond.selects RX4 yX4_duty yX4_duty, Cond.code yX4_duty cX4_duty 6 (some .int), Cond.methodLink RX4 118 yX4_isKind, Cond.static yX4_isKind]
def wsL_law0_r12 : List Cond := [Cond.code yX4_isKind cX4_isKind 1 (some .boolean), Cond.methodLink RX4 121 yX3_carries, Cond.instanceMethod yX3_carries, Cond.selects RX3 yX3_carries yX3_carries, Cond.code yX3_carries cX3_carries 2 (some .boolean), Cond.methodLink RX4 124 yX3_isOnDuty, Cond.instanceMethod yX3_isOnDuty, Cond.selects RX3 yX3_isOnDuty yX3_isOnDuty, Cond.code yX3_isOnDuty cX3_isOnDuty 2 (some .boolean), Cond.methodLink RL 60 yX5_duty, Cond.instanceMethod yX5_duty, Cond.selects RX5 yX5_duty yX5_duty, Cond.code yX5_duty cX5_duty 3 (some .int), Cond.methodLink RX5 138 yX5_onDuty, Cond.instanceMethod yX5_onDuty, Cond.selects RX5 yX5_onDuty yX5_onDuty, Cond.code yX5_onDuty cX5_onDuty 5 (some .int), Cond.methodLink RX5 134 yX5_mayCarry, Cond.instanceMethod yX5_mayCarry, Cond.selects RX5 yX5_mayCarry yX5_mayCarry, Cond.code yX5_mayCarry cX5_mayCarry 3 (some .boolean), Cond.methodLink RL 61 yX4_bare, Cond.instanceMethod yX4_bare, Cond.selects RX4 yX4_bare yX4_bare]
def wsL_law0_r13 : List Cond := [Cond.code yX4_bare cX4_bare 5 (some .int), Cond.methodLink RX4 131 Lib.Math.max.name, Cond.static Lib.Math.max.name, Cond.initialized "java/lang/Math", Cond.code Lib.Math.max.name Lib.Math.max.code 2 (some .int), Cond.methodLink RX4 127 yX4_lastOnDuty, Cond.instanceMethod yX4_lastOnDuty, Cond.selects RX4 yX4_lastOnDuty yX4_lastOnDuty, Cond.code yX4_lastOnDuty cX4_lastOnDuty 6 (some .int), Cond.fieldLink RX4 211 "NightRiders$Rider" "dutyTo" "I", Cond.methodLink RL 64 yX5_bare, Cond.instanceMethod yX5_bare, Cond.selects RX5 yX5_bare yX5_bare, Cond.code yX5_bare cX5_bare 4 (some .int), Cond.methodLink RL 65 yX4_call, Cond.instanceMethod yX4_call, Cond.selects RX4 yX4_call yX4_call, Cond.code yX4_call cX4_call 6 (some .int), Cond.instantiable RX2 9, Cond.methodLink RX4 136 yX2_init, Cond.instanceMethod yX2_init, Cond.code yX2_init cX2_init 6 none, Cond.methodLink RX2 3 objectInit, Cond.classLink RX2 9 RX1]
def wsL_law0_r14 : List Cond := [Cond.fieldLink RX2 28 "NightRiders$Request" "kind" "I", Cond.fieldLink RX2 31 "NightRiders$Request" "from" "I", Cond.fieldLink RX2 34 "NightRiders$Request" "to" "I", Cond.methodLink RL 68 yX5_call, Cond.instanceMethod yX5_call, Cond.selects RX5 yX5_call yX5_call, Cond.code yX5_call cX5_call 6 (some .int), Cond.methodLink RL 69 yX4_best, Cond.instanceMethod yX4_best, Cond.selects RX4 yX4_best yX4_best, Cond.code yX4_best cX4_best 3 (some .int), Cond.fieldLink RX4 144 "NightRiders$Request" "from" "I", Cond.fieldLink RX4 147 "NightRiders$Request" "ready" "I", Cond.methodLink RX4 150 yX4_findChain, Cond.instanceMethod yX4_findChain, Cond.selects RX4 yX4_findChain yX4_findChain, Cond.code yX4_findChain cX4_findChain 4 (some .boolean), Cond.fieldLink RX4 163 "NightRiders$Request" "kind" "I", Cond.fieldLink RX4 235 "NightRiders$Chain" "kind" "I", Cond.fieldLink RX4 166 "NightRiders$Request" "to" "I", Cond.fieldLink RX4 236 "NightRiders$Chain" "goal" "I", Cond.fieldLink RX4 239 "NightRiders$Chain" "length" "I", Cond.methodLink RX4 242 yX4_tryRiders, Cond.instanceMethod yX4_tryRiders]
def wsL_law0_r15 : List Cond := [Cond.selects RX4 yX4_tryRiders yX4_tryRiders, Cond.code yX4_tryRiders cX4_tryRiders 8 none, Cond.methodLink RX4 246 yX0_isRiddenBy, Cond.instanceMethod yX0_isRiddenBy, Cond.selects RX0 yX0_isRiddenBy yX0_isRiddenBy, Cond.code yX0_isRiddenBy cX0_isRiddenBy 4 (some .boolean), Cond.methodLink RX4 207 yX4_thereFrom, Cond.instanceMethod yX4_thereFrom, Cond.selects RX4 yX4_thereFrom yX4_thereFrom, Cond.code yX4_thereFrom cX4_thereFrom 4 (some .int), Cond.fieldLink RX4 224 "NightRiders$Rider" "dutyFrom" "I", Cond.methodLink RX4 249 yX4_isTooLate, Cond.instanceMethod yX4_isTooLate, Cond.selects RX4 yX4_isTooLate yX4_isTooLate, Cond.code yX4_isTooLate cX4_isTooLate 2 (some .boolean), Cond.methodLink RX4 154 yX0_lastEnd, Cond.instanceMethod yX0_lastEnd, Cond.selects RX0 yX0_lastEnd yX0_lastEnd, Cond.code yX0_lastEnd cX0_lastEnd 1 (some .int), Cond.methodLink RX4 252 yX4_waitsUntil, Cond.instanceMethod yX4_waitsUntil, Cond.selects RX4 yX4_waitsUntil yX4_waitsUntil, Cond.code yX4_waitsUntil cX4_waitsUntil 4 (some .boolean), Cond.fieldLink RX4 263 "NightRiders$Chain" "riders" "[I"]
def wsL_law0_r16 : List Cond := [Cond.methodLink RX4 255 yX0_open, Cond.instanceMethod yX0_open, Cond.selects RX0 yX0_open yX0_open, Cond.code yX0_open cX0_open 5 none, Cond.methodLink RX4 259 yX4_tryEnds, Cond.instanceMethod yX4_tryEnds, Cond.selects RX4 yX4_tryEnds yX4_tryEnds, Cond.code yX4_tryEnd cX4_tryEnd 6 none, Cond.methodLink RX4 269 yX0_fromOf, Cond.instanceMethod yX0_fromOf, Cond.selects RX0 yX0_fromOf yX0_fromOf, Cond.code yX0_fromOf cX0_fromOf 2 (some .int), Cond.methodLink RX4 272 yX0_comesFrom, Cond.instanceMethod yX0_comesFrom, Cond.selects RX0 yX0_comesFrom yX0_comesFrom, Cond.code yX0_comesFrom cX0_comesFrom 4 (some .boolean), Cond.methodLink RX4 275 yX0_close, Cond.instanceMethod yX0_close, Cond.selects RX0 yX0_close yX0_close, Cond.code yX0_close cX0_close 4 none, Cond.methodLink RX4 278 yX4_keepIfBetter, Cond.instanceMethod yX4_keepIfBetter, Cond.selects RX4 yX4_keepIfBetter yX4_keepIfBetter, Cond.code yX4_keepIfBetter cX4_keepIfBetter 3 none]
def wsL_law0_r17 : List Cond := [Cond.methodLink RX4 281 yX0_take, Cond.instanceMethod yX0_take, Cond.selects RX0 yX0_take yX0_take, Cond.code yX0_take cX0_take 3 none, Cond.code yX4_tryEnds cX4_tryEnds 5 none, Cond.methodLink RX4 265 yX4_tryEnd, Cond.instanceMethod yX4_tryEnd, Cond.selects RX4 yX4_tryEnd yX4_tryEnd, Cond.methodLink RL 72 yX5_best, Cond.instanceMethod yX5_best, Cond.selects RX5 yX5_best yX5_best, Cond.code yX5_best cX5_best 2 (some .int), Cond.fieldLink RX5 142 "NightRidersModel" "bestMany" "I", Cond.methodLink RX5 157 yX5_isCall, Cond.instanceMethod yX5_isCall, Cond.selects RX5 yX5_isCall yX5_isCall, Cond.code yX5_isCall cX5_isCall 2 (some .boolean), Cond.methodLink RX5 160 yX5_findBest, Cond.instanceMethod yX5_findBest, Cond.selects RX5 yX5_findBest yX5_findBest, Cond.code yX5_findBest cX5_findBest 5 (some .boolean), Cond.methodLink RX5 150 yX5_tryLeg, Cond.instanceMethod yX5_tryLeg, Cond.selects RX5 yX5_tryLeg yX5_tryLeg]
def wsL_law0_r18 : List Cond := [Cond.code yX5_tryLeg cX5_tryLeg 14 none, Cond.methodLink RX5 145 Lib.Math.max.name, Cond.methodLink RX5 154 yX5_isBetter, Cond.instanceMethod yX5_isBetter, Cond.selects RX5 yX5_isBetter yX5_isBetter, Cond.code yX5_isBetter cX5_isBetter 5 (some .boolean), Cond.methodLink RL 73 yX4_send, Cond.instanceMethod yX4_send, Cond.selects RX4 yX4_send yX4_send, Cond.code yX4_send cX4_send 3 (some .int), Cond.methodLink RX4 158 yX4_rideChosen, Cond.instanceMethod yX4_rideChosen, Cond.selects RX4 yX4_rideChosen yX4_rideChosen, Cond.code yX4_rideChosen cX4_rideChosen 7 none, Cond.fieldLink RX4 285 "NightRiders$Chain" "starts" "[I", Cond.fieldLink RX4 287 "NightRiders$Chain" "ends" "[I", Cond.fieldLink RX4 289 "NightRiders$Chain" "tos" "[I", Cond.classLink RX4 183 RX1, Cond.instantiable RX1 8, Cond.initialized RX1, Cond.fieldLink RX4 292 "NightRiders$Chain" "froms" "[I", Cond.methodLink RX4 295 yX1_init, Cond.instanceMethod yX1_init, Cond.code yX1_init cX1_init 8 none]
def wsL_law0_r19 : List Cond := [Cond.methodLink RX1 1 objectInit, Cond.fieldLink RX1 7 "NightRiders$Leg" "failed" "Z", Cond.fieldLink RX1 13 "NightRiders$Leg" "rider" "I", Cond.fieldLink RX1 17 "NightRiders$Leg" "from" "I", Cond.fieldLink RX1 20 "NightRiders$Leg" "to" "I", Cond.fieldLink RX1 23 "NightRiders$Leg" "starts" "I", Cond.fieldLink RX1 26 "NightRiders$Leg" "ends" "I", Cond.fieldLink RX1 29 "NightRiders$Leg" "atAhead" "I", Cond.fieldLink RX1 32 "NightRiders$Leg" "freeAhead" "I", Cond.methodLink RX4 298 yX2_addLeg, Cond.instanceMethod yX2_addLeg, Cond.selects RX2 yX2_addLeg yX2_addLeg, Cond.code yX2_addLeg cX2_addLeg 2 none, Cond.methodLink RX4 302 yX0_handsOn, Cond.instanceMethod yX0_handsOn, Cond.selects RX0 yX0_handsOn yX0_handsOn, Cond.code yX0_handsOn cX0_handsOn 2 (some .int), Cond.methodLink RX0 37 yX0_lastEnd, Cond.methodLink RX4 162 yX2_lastEnd, Cond.methodLink RL 76 yX5_send, Cond.instanceMethod yX5_send, Cond.selects RX5 yX5_send yX5_send, Cond.code yX5_send cX5_send 2 (some .int), Cond.methodLink RX5 164 yX5_ride]
def wsL_law0_r20 : List Cond := [Cond.instanceMethod yX5_ride, Cond.selects RX5 yX5_ride yX5_ride, Cond.code yX5_ride cX5_ride 7 none, Cond.methodLink RL 77 yX4_told, Cond.instanceMethod yX4_told, Cond.selects RX4 yX4_told yX4_told, Cond.code yX4_told cX4_told 4 (some .int), Cond.fieldLink RX4 169 "NightRiders$Request" "cold" "I", Cond.fieldLink RX4 175 "NightRiders$Request" "legCount" "I", Cond.methodLink RL 80 yX5_told, Cond.instanceMethod yX5_told, Cond.selects RX5 yX5_told yX5_told, Cond.code yX5_told cX5_told 3 (some .int), Cond.methodLink RL 81 yX4_leg, Cond.instanceMethod yX4_leg, Cond.selects RX4 yX4_leg yX4_leg, Cond.code yX4_leg cX4_leg 6 (some .int), Cond.fieldLink RX4 182 "NightRiders$Leg" "rider" "I", Cond.fieldLink RX4 187 "NightRiders$Leg" "from" "I", Cond.fieldLink RX4 188 "NightRiders$Leg" "to" "I", Cond.fieldLink RX4 189 "NightRiders$Leg" "starts" "I", Cond.fieldLink RX4 192 "NightRiders$Leg" "ends" "I", Cond.fieldLink RX4 195 "NightRiders$Leg" "failed" "Z", Cond.methodLink RX4 178 yX2_legAt]
def wsL_law0_r21 : List Cond := [Cond.methodLink RL 84 yX5_leg, Cond.instanceMethod yX5_leg, Cond.selects RX5 yX5_leg yX5_leg, Cond.code yX5_leg cX5_leg 4 (some .int), Cond.methodLink RL 85 yX4_hand, Cond.instanceMethod yX4_hand, Cond.selects RX4 yX4_hand yX4_hand, Cond.code yX4_hand cX4_hand 6 (some .int), Cond.methodLink RL 88 yX5_hand, Cond.instanceMethod yX5_hand, Cond.selects RX5 yX5_hand yX5_hand, Cond.code yX5_hand cX5_hand 5 (some .int), Cond.methodLink RL 89 yX4_fail, Cond.instanceMethod yX4_fail, Cond.selects RX4 yX4_fail yX4_fail, Cond.code yX4_fail cX4_fail 6 (some .int), Cond.methodLink RX4 196 yX4_mayFail, Cond.static yX4_mayFail, Cond.code yX4_mayFail cX4_mayFail 6 (some .boolean), Cond.methodLink RX4 199 yX4_dropLegsBehind, Cond.instanceMethod yX4_dropLegsBehind, Cond.selects RX4 yX4_dropLegsBehind yX4_dropLegsBehind, Cond.code yX4_dropLegsBehind cX4_dropLegsBehind 6 none, Cond.fieldLink RX4 305 "NightRiders$Leg" "atAhead" "I"]
def wsL_law0_r22 : List Cond := [Cond.fieldLink RX4 308 "NightRiders$Leg" "freeAhead" "I", Cond.methodLink RX4 203 yX4_failLeg, Cond.instanceMethod yX4_failLeg, Cond.selects RX4 yX4_failLeg yX4_failLeg, Cond.code yX4_failLeg cX4_failLeg 4 none, Cond.methodLink RL 92 yX5_fail, Cond.instanceMethod yX5_fail, Cond.selects RX5 yX5_fail yX5_fail, Cond.code yX5_fail cX5_fail 8 (some .int), Cond.methodLink RL 93 yX4_next, Cond.instanceMethod yX4_next, Cond.selects RX4 yX4_next yX4_next, Cond.code yX4_next cX4_next 10 (some .int), Cond.methodLink RL 96 yX5_next, Cond.instanceMethod yX5_next, Cond.selects RX5 yX5_next yX5_next, Cond.code yX5_next cX5_next 8 (some .int)]
def wsL_law0 : List Cond := (wsL_law0_r1 ++ (wsL_law0_r2 ++ (wsL_law0_r3 ++ (wsL_law0_r4 ++ (wsL_law0_r5 ++ (wsL_law0_r6 ++ (wsL_law0_r7 ++ (wsL_law0_r8 ++ (wsL_law0_r9 ++ (wsL_law0_r10 ++ (wsL_law0_r11 ++ (wsL_law0_r12 ++ (wsL_law0_r13 ++ (wsL_law0_r14 ++ (wsL_law0_r15 ++ (wsL_law0_r16 ++ (wsL_law0_r17 ++ (wsL_law0_r18 ++ (wsL_law0_r19 ++ (wsL_law0_r20 ++ (wsL_law0_r21 ++ wsL_law0_r22))))))))))))))))))))) ++ wsX40 ++ wsX50 ++ wsX00 ++ wsX30 ++ wsX20 ++ wsX10 ++ ([] : List Cond)
def wsL_law : List Cond := wsL_law0 ++ (vx_atS RX4 88 "java/util/NoSuchElementException" ["java/lang/RuntimeException", "java/lang/Exception"]).filter goodWord
abbrev vwCl : List vw_C := [(RX0, TX0, 8), (RX1, TX1, 8), (RX2, TX2, 9), (RX3, TX3, 11), (RX4, TX4, 10), (RX5, TX5, 35)]
end
section
def UW : List Cond := lw_tbl.filter goodWord
theorem UW_in {w : Cond} {i : Nat} (h : lw_tbl[i]? = some w) (hg : goodWord w = true) : w ∈ UW := List.mem_filter.mpr ⟨List.mem_of_getElem? h, hg⟩
theorem UW_good {w : Cond} (h : w ∈ UW) : goodWord w = true := (List.mem_filter.mp h).2
theorem UW_tbl {w : Cond} (h : w ∈ UW) : w ∈ lw_tbl := (List.mem_filter.mp h).1
theorem u_se_X4_isPlace : Cond.selects RX4 yX4_isPlace yX4_isPlace ∈ UW := UW_in (i := 0) (by decide +kernel) (by decide +kernel)
theorem u_se_X4_riderAt : Cond.selects RX4 yX4_riderAt yX4_riderAt ∈ UW := UW_in (i := 1) (by decide +kernel) (by decide +kernel)
theorem u_se_X4_settleWays : Cond.selects RX4 yX4_settleWays yX4_settleWays ∈ UW := UW_in (i := 2) (by decide +kernel) (by decide +kernel)
theorem u_se_X4_roadWithin : Cond.selects RX4 yX4_roadWithin yX4_roadWithin ∈ UW := UW_in (i := 3) (by decide +kernel) (by decide +kernel)
theorem u_se_X4_countRequests : Cond.selects RX4 yX4_countRequests yX4_countRequests ∈ UW := UW_in (i := 4) (by decide +kernel) (by decide +kernel)
theorem u_se_X4_requestAt : Cond.selects RX4 yX4_requestAt yX4_requestAt ∈ UW := UW_in (i := 5) (by decide +kernel) (by decide +kernel)
theorem u_se_X4_wayOf : Cond.selects RX4 yX4_wayOf yX4_wayOf ∈ UW := UW_in (i := 6) (by decide +kernel) (by decide +kernel)
theorem u_se_X4_lastOnDuty : Cond.selects RX4 yX4_lastOnDuty yX4_lastOnDuty ∈ UW := UW_in (i := 7) (by decide +kernel) (by decide +kernel)
theorem u_se_X4_findChain : Cond.selects RX4 yX4_findChain yX4_findChain ∈ UW := UW_in (i := 8) (by decide +kernel) (by decide +kernel)
theorem u_se_X4_tryRiders : Cond.selects RX4 yX4_tryRiders yX4_tryRiders ∈ UW := UW_in (i := 9) (by decide +kernel) (by decide +kernel)
theorem u_se_X4_thereFrom : Cond.selects RX4 yX4_thereFrom yX4_thereFrom ∈ UW := UW_in (i := 10) (by decide +kernel) (by decide +kernel)
theorem u_se_X4_isTooLate : Cond.selects RX4 yX4_isTooLate yX4_isTooLate ∈ UW := UW_in (i := 11) (by decide +kernel) (by decide +kernel)
theorem u_se_X4_waitsUntil : Cond.selects RX4 yX4_waitsUntil yX4_waitsUntil ∈ UW := UW_in (i := 12) (by decide +kernel) (by decide +kernel)
theorem u_se_X4_tryEnds : Cond.selects RX4 yX4_tryEnds yX4_tryEnds ∈ UW := UW_in (i := 13) (by decide +kernel) (by decide +kernel)
theorem u_se_X4_tryEnd : Cond.selects RX4 yX4_tryEnd yX4_tryEnd ∈ UW := UW_in (i := 14) (by decide +kernel) (by decide +kernel)
theorem u_se_X4_keepIfBetter : Cond.selects RX4 yX4_keepIfBetter yX4_keepIfBetter ∈ UW := UW_in (i := 15) (by decide +kernel) (by decide +kernel)
theorem u_se_X4_rideChosen : Cond.selects RX4 yX4_rideChosen yX4_rideChosen ∈ UW := UW_in (i := 16) (by decide +kernel) (by decide +kernel)
theorem u_se_X4_dropLegsBehind : Cond.selects RX4 yX4_dropLegsBehind yX4_dropLegsBehind ∈ UW := UW_in (i := 17) (by decide +kernel) (by decide +kernel)
theorem u_se_X4_failLeg : Cond.selects RX4 yX4_failLeg yX4_failLeg ∈ UW := UW_in (i := 18) (by decide +kernel) (by decide +kernel)
theorem u_se_X5_isPlace : Cond.selects RX5 yX5_isPlace yX5_isPlace ∈ UW := UW_in (i := 20) (by decide +kernel) (by decide +kernel)
theorem u_se_X5_isRider : Cond.selects RX5 yX5_isRider yX5_isRider ∈ UW := UW_in (i := 21) (by decide +kernel) (by decide +kernel)
theorem u_se_X5_wayOf : Cond.selects RX5 yX5_wayOf yX5_wayOf ∈ UW := UW_in (i := 22) (by decide +kernel) (by decide +kernel)
theorem u_se_X5_endOf : Cond.selects RX5 yX5_endOf yX5_endOf ∈ UW := UW_in (i := 23) (by decide +kernel) (by decide +kernel)
theorem u_se_X5_onDuty : Cond.selects RX5 yX5_onDuty yX5_onDuty ∈ UW := UW_in (i := 24) (by decide +kernel) (by decide +kernel)
theorem u_se_X5_mayCarry : Cond.selects RX5 yX5_mayCarry yX5_mayCarry ∈ UW := UW_in (i := 25) (by decide +kernel) (by decide +kernel)
theorem u_se_X5_isCall : Cond.selects RX5 yX5_isCall yX5_isCall ∈ UW := UW_in (i := 26) (by decide +kernel) (by decide +kernel)
theorem u_se_X5_findBest : Cond.selects RX5 yX5_findBest yX5_findBest ∈ UW := UW_in (i := 27) (by decide +kernel) (by decide +kernel)
theorem u_se_X5_tryLeg : Cond.selects RX5 yX5_tryLeg yX5_tryLeg ∈ UW := UW_in (i := 28) (by decide +kernel) (by decide +kernel)
theorem u_se_X5_isBetter : Cond.selects RX5 yX5_isBetter yX5_isBetter ∈ UW := UW_in (i := 29) (by decide +kernel) (by decide +kernel)
theorem u_se_X5_ride : Cond.selects RX5 yX5_ride yX5_ride ∈ UW := UW_in (i := 30) (by decide +kernel) (by decide +kernel)
theorem u_ini_L : Cond.initialized RL ∈ UW := UW_in (i := 31) (by decide +kernel) (by decide +kernel)
theorem u_ini_X4 : Cond.initialized RX4 ∈ UW := UW_in (i := 32) (by decide +kernel) (by decide +kernel)
theorem u_ini_X0 : Cond.initialized RX0 ∈ UW := UW_in (i := 33) (by decide +kernel) (by decide +kernel)
theorem u_ini_X5 : Cond.initialized RX5 ∈ UW := UW_in (i := 34) (by decide +kernel) (by decide +kernel)
theorem u_ini_X3 : Cond.initialized RX3 ∈ UW := UW_in (i := 35) (by decide +kernel) (by decide +kernel)
theorem u_ini_Math : Cond.initialized "java/lang/Math" ∈ UW := UW_in (i := 40) (by decide +kernel) (by decide +kernel)
theorem u_ini_X2 : Cond.initialized RX2 ∈ UW := UW_in (i := 41) (by decide +kernel) (by decide +kernel)
theorem u_ini_X1 : Cond.initialized RX1 ∈ UW := UW_in (i := 42) (by decide +kernel) (by decide +kernel)
theorem u_cl_L_8 : Cond.classLink RL 8 RX4 ∈ UW := UW_in (i := 43) (by decide +kernel) (by decide +kernel)
theorem u_inst_X4 : Cond.instantiable RX4 10 ∈ UW := UW_in (i := 44) (by decide +kernel) (by decide +kernel)
theorem u_ml_L_15 : Cond.methodLink RL 15 yX4_init ∈ UW := UW_in (i := 45) (by decide +kernel) (by decide +kernel)
theorem u_in_X4_init : Cond.instanceMethod yX4_init ∈ UW := UW_in (i := 46) (by decide +kernel) (by decide +kernel)
theorem u_co_X4_init : Cond.code yX4_init cX4_init 1 none ∈ UW := UW_in (i := 47) (by decide +kernel) (by decide +kernel)
theorem u_ml_X4_3 : Cond.methodLink RX4 3 objectInit ∈ UW := UW_in (i := 48) (by decide +kernel) (by decide +kernel)
theorem u_in_obj : Cond.instanceMethod objectInit ∈ UW := UW_in (i := 49) (by decide +kernel) (by decide +kernel)
theorem u_co_obj : Cond.code objectInit ⟨#[0xb1]⟩ 1 none ∈ UW := UW_in (i := 50) (by decide +kernel) (by decide +kernel)
theorem u_cl_X4_13 : Cond.classLink RX4 13 RX3 ∈ UW := UW_in (i := 51) (by decide +kernel) (by decide +kernel)
theorem u_cl_X4_19 : Cond.classLink RX4 19 RX2 ∈ UW := UW_in (i := 53) (by decide +kernel) (by decide +kernel)
theorem u_cl_X4_25 : Cond.classLink RX4 25 RX0 ∈ UW := UW_in (i := 55) (by decide +kernel) (by decide +kernel)
theorem u_inst_X0 : Cond.instantiable RX0 8 ∈ UW := UW_in (i := 56) (by decide +kernel) (by decide +kernel)
theorem u_in_X0_init : Cond.instanceMethod yX0_init ∈ UW := UW_in (i := 58) (by decide +kernel) (by decide +kernel)
theorem u_co_X0_init : Cond.code yX0_init cX0_init 1 none ∈ UW := UW_in (i := 59) (by decide +kernel) (by decide +kernel)
theorem u_ml_X0_3 : Cond.methodLink RX0 3 objectInit ∈ UW := UW_in (i := 60) (by decide +kernel) (by decide +kernel)
theorem u_fl_X0_9 : Cond.fieldLink RX0 9 "NightRiders$Chain" "riders" "[I" ∈ UW := UW_in (i := 61) (by decide +kernel) (by decide +kernel)
theorem u_fl_X4_263 : Cond.fieldLink RX4 263 "NightRiders$Chain" "riders" "[I" ∈ UW := UW_in (i := 62) (by decide +kernel) (by decide +kernel)
theorem u_fl_X0_15 : Cond.fieldLink RX0 15 "NightRiders$Chain" "froms" "[I" ∈ UW := UW_in (i := 63) (by decide +kernel) (by decide +kernel)
theorem u_fl_X4_292 : Cond.fieldLink RX4 292 "NightRiders$Chain" "froms" "[I" ∈ UW := UW_in (i := 64) (by decide +kernel) (by decide +kernel)
theorem u_fl_X0_18 : Cond.fieldLink RX0 18 "NightRiders$Chain" "tos" "[I" ∈ UW := UW_in (i := 65) (by decide +kernel) (by decide +kernel)
theorem u_fl_X4_289 : Cond.fieldLink RX4 289 "NightRiders$Chain" "tos" "[I" ∈ UW := UW_in (i := 66) (by decide +kernel) (by decide +kernel)
theorem u_fl_X0_21 : Cond.fieldLink RX0 21 "NightRiders$Chain" "starts" "[I" ∈ UW := UW_in (i := 67) (by decide +kernel) (by decide +kernel)
theorem u_fl_X4_285 : Cond.fieldLink RX4 285 "NightRiders$Chain" "starts" "[I" ∈ UW := UW_in (i := 68) (by decide +kernel) (by decide +kernel)
theorem u_fl_X0_24 : Cond.fieldLink RX0 24 "NightRiders$Chain" "ends" "[I" ∈ UW := UW_in (i := 69) (by decide +kernel) (by decide +kernel)
theorem u_fl_X4_287 : Cond.fieldLink RX4 287 "NightRiders$Chain" "ends" "[I" ∈ UW := UW_in (i := 70) (by decide +kernel) (by decide +kernel)
theorem u_fl_X0_27 : Cond.fieldLink RX0 27 "NightRiders$Chain" "length" "I" ∈ UW := UW_in (i := 71) (by decide +kernel) (by decide +kernel)
theorem u_fl_X4_239 : Cond.fieldLink RX4 239 "NightRiders$Chain" "length" "I" ∈ UW := UW_in (i := 72) (by decide +kernel) (by decide +kernel)
theorem u_fl_X0_31 : Cond.fieldLink RX0 31 "NightRiders$Chain" "kind" "I" ∈ UW := UW_in (i := 73) (by decide +kernel) (by decide +kernel)
theorem u_fl_X4_235 : Cond.fieldLink RX4 235 "NightRiders$Chain" "kind" "I" ∈ UW := UW_in (i := 74) (by decide +kernel) (by decide +kernel)
theorem u_fl_X0_34 : Cond.fieldLink RX0 34 "NightRiders$Chain" "goal" "I" ∈ UW := UW_in (i := 75) (by decide +kernel) (by decide +kernel)
theorem u_fl_X4_236 : Cond.fieldLink RX4 236 "NightRiders$Chain" "goal" "I" ∈ UW := UW_in (i := 76) (by decide +kernel) (by decide +kernel)
theorem u_ar_int : Cond.arrayClass .int ∈ UW := UW_in (i := 94) (by decide +kernel) (by decide +kernel)
theorem u_fl_X4_9 : Cond.fieldLink RX4 9 "NightRiders" "roads" "[I" ∈ UW := UW_in (i := 95) (by decide +kernel) (by decide +kernel)
theorem u_fl_X4_15 : Cond.fieldLink RX4 15 "NightRiders" "riders" "[LNightRiders$Rider;" ∈ UW := UW_in (i := 96) (by decide +kernel) (by decide +kernel)
theorem u_fl_X4_21 : Cond.fieldLink RX4 21 "NightRiders" "requests" "[LNightRiders$Request;" ∈ UW := UW_in (i := 97) (by decide +kernel) (by decide +kernel)
theorem u_fl_X4_28 : Cond.fieldLink RX4 28 "NightRiders" "trial" "LNightRiders$Chain;" ∈ UW := UW_in (i := 98) (by decide +kernel) (by decide +kernel)
theorem u_fl_X4_32 : Cond.fieldLink RX4 32 "NightRiders" "chosen" "LNightRiders$Chain;" ∈ UW := UW_in (i := 99) (by decide +kernel) (by decide +kernel)
theorem u_fl_X4_35 : Cond.fieldLink RX4 35 "NightRiders" "placeCount" "I" ∈ UW := UW_in (i := 100) (by decide +kernel) (by decide +kernel)
theorem u_fl_X4_39 : Cond.fieldLink RX4 39 "NightRiders" "riderCount" "I" ∈ UW := UW_in (i := 101) (by decide +kernel) (by decide +kernel)
theorem u_fl_X4_42 : Cond.fieldLink RX4 42 "NightRiders" "requestCount" "I" ∈ UW := UW_in (i := 102) (by decide +kernel) (by decide +kernel)
theorem u_fl_X4_45 : Cond.fieldLink RX4 45 "NightRiders" "resting" "I" ∈ UW := UW_in (i := 103) (by decide +kernel) (by decide +kernel)
theorem u_fl_X4_48 : Cond.fieldLink RX4 48 "NightRiders" "lastSent" "I" ∈ UW := UW_in (i := 104) (by decide +kernel) (by decide +kernel)
theorem u_ml_L_19 : Cond.methodLink RL 19 yX4_place ∈ UW := UW_in (i := 126) (by decide +kernel) (by decide +kernel)
theorem u_in_X4_place : Cond.instanceMethod yX4_place ∈ UW := UW_in (i := 127) (by decide +kernel) (by decide +kernel)
theorem u_se_X4_place : Cond.selects RX4 yX4_place yX4_place ∈ UW := UW_in (i := 128) (by decide +kernel) (by decide +kernel)
theorem u_co_X4_place : Cond.code yX4_place cX4_place 1 (some .int) ∈ UW := UW_in (i := 129) (by decide +kernel) (by decide +kernel)
theorem u_ml_L_24 : Cond.methodLink RL 24 yX4_road ∈ UW := UW_in (i := 130) (by decide +kernel) (by decide +kernel)
theorem u_in_X4_road : Cond.instanceMethod yX4_road ∈ UW := UW_in (i := 131) (by decide +kernel) (by decide +kernel)
theorem u_se_X4_road : Cond.selects RX4 yX4_road yX4_road ∈ UW := UW_in (i := 132) (by decide +kernel) (by decide +kernel)
theorem u_co_X4_road : Cond.code yX4_road cX4_road 6 (some .boolean) ∈ UW := UW_in (i := 133) (by decide +kernel) (by decide +kernel)
theorem u_ml_X4_51 : Cond.methodLink RX4 51 yX4_isPlace ∈ UW := UW_in (i := 134) (by decide +kernel) (by decide +kernel)
theorem u_in_X4_isPlace : Cond.instanceMethod yX4_isPlace ∈ UW := UW_in (i := 136) (by decide +kernel) (by decide +kernel)
theorem u_co_X4_isPlace : Cond.code yX4_isPlace cX4_isPlace 2 (some .boolean) ∈ UW := UW_in (i := 137) (by decide +kernel) (by decide +kernel)
theorem u_ml_X4_55 : Cond.methodLink RX4 55 yX4_riderAt ∈ UW := UW_in (i := 138) (by decide +kernel) (by decide +kernel)
theorem u_in_X4_riderAt : Cond.instanceMethod yX4_riderAt ∈ UW := UW_in (i := 140) (by decide +kernel) (by decide +kernel)
theorem u_co_X4_riderAt : Cond.code yX4_riderAt cX4_riderAt 2 (some (.object "NightRiders$Rider")) ∈ UW := UW_in (i := 141) (by decide +kernel) (by decide +kernel)
theorem u_ml_X4_59 : Cond.methodLink RX4 59 yX4_settleWays ∈ UW := UW_in (i := 142) (by decide +kernel) (by decide +kernel)
theorem u_in_X4_settleWays : Cond.instanceMethod yX4_settleWays ∈ UW := UW_in (i := 144) (by decide +kernel) (by decide +kernel)
theorem u_co_X4_settleWays : Cond.code yX4_settleWays cX4_settleWays 4 none ∈ UW := UW_in (i := 145) (by decide +kernel) (by decide +kernel)
theorem u_ml_X4_217 : Cond.methodLink RX4 217 yX4_roadWithin ∈ UW := UW_in (i := 146) (by decide +kernel) (by decide +kernel)
theorem u_in_X4_roadWithin : Cond.instanceMethod yX4_roadWithin ∈ UW := UW_in (i := 148) (by decide +kernel) (by decide +kernel)
theorem u_co_X4_roadWithin : Cond.code yX4_roadWithin cX4_roadWithin 5 (some .int) ∈ UW := UW_in (i := 149) (by decide +kernel) (by decide +kernel)
theorem u_ml_X4_67 : Cond.methodLink RX4 67 yX4_hasBit ∈ UW := UW_in (i := 150) (by decide +kernel) (by decide +kernel)
theorem u_st_X4_hasBit : Cond.static yX4_hasBit ∈ UW := UW_in (i := 151) (by decide +kernel) (by decide +kernel)
theorem u_co_X4_hasBit : Cond.code yX4_hasBit cX4_hasBit 2 (some .boolean) ∈ UW := UW_in (i := 152) (by decide +kernel) (by decide +kernel)
theorem u_ml_X4_221 : Cond.methodLink RX4 221 yX3_shortenWays ∈ UW := UW_in (i := 153) (by decide +kernel) (by decide +kernel)
theorem u_in_X3_shortenWays : Cond.instanceMethod yX3_shortenWays ∈ UW := UW_in (i := 154) (by decide +kernel) (by decide +kernel)
theorem u_se_X3_shortenWays : Cond.selects RX3 yX3_shortenWays yX3_shortenWays ∈ UW := UW_in (i := 155) (by decide +kernel) (by decide +kernel)
theorem u_co_X3_shortenWays : Cond.code yX3_shortenWays cX3_shortenWays 7 none ∈ UW := UW_in (i := 156) (by decide +kernel) (by decide +kernel)
theorem u_ml_L_29 : Cond.methodLink RL 29 yX4_rider ∈ UW := UW_in (i := 157) (by decide +kernel) (by decide +kernel)
theorem u_in_X4_rider : Cond.instanceMethod yX4_rider ∈ UW := UW_in (i := 158) (by decide +kernel) (by decide +kernel)
theorem u_se_X4_rider : Cond.selects RX4 yX4_rider yX4_rider ∈ UW := UW_in (i := 159) (by decide +kernel) (by decide +kernel)
theorem u_co_X4_rider : Cond.code yX4_rider cX4_rider 7 (some .int) ∈ UW := UW_in (i := 160) (by decide +kernel) (by decide +kernel)
theorem u_ml_X4_63 : Cond.methodLink RX4 63 yX4_areBits ∈ UW := UW_in (i := 161) (by decide +kernel) (by decide +kernel)
theorem u_st_X4_areBits : Cond.static yX4_areBits ∈ UW := UW_in (i := 162) (by decide +kernel) (by decide +kernel)
theorem u_co_X4_areBits : Cond.code yX4_areBits cX4_areBits 2 (some .boolean) ∈ UW := UW_in (i := 163) (by decide +kernel) (by decide +kernel)
theorem u_ml_X4_70 : Cond.methodLink RX4 70 yX4_isMinute ∈ UW := UW_in (i := 164) (by decide +kernel) (by decide +kernel)
theorem u_st_X4_isMinute : Cond.static yX4_isMinute ∈ UW := UW_in (i := 165) (by decide +kernel) (by decide +kernel)
theorem u_co_X4_isMinute : Cond.code yX4_isMinute cX4_isMinute 1 (some .boolean) ∈ UW := UW_in (i := 166) (by decide +kernel) (by decide +kernel)
theorem u_inst_X3 : Cond.instantiable RX3 11 ∈ UW := UW_in (i := 167) (by decide +kernel) (by decide +kernel)
theorem u_ml_X4_73 : Cond.methodLink RX4 73 yX3_init ∈ UW := UW_in (i := 168) (by decide +kernel) (by decide +kernel)
theorem u_in_X3_init : Cond.instanceMethod yX3_init ∈ UW := UW_in (i := 169) (by decide +kernel) (by decide +kernel)
theorem u_co_X3_init : Cond.code yX3_init cX3_init 6 none ∈ UW := UW_in (i := 170) (by decide +kernel) (by decide +kernel)
theorem u_ml_X3_3 : Cond.methodLink RX3 3 objectInit ∈ UW := UW_in (i := 171) (by decide +kernel) (by decide +kernel)
theorem u_fl_X3_26 : Cond.fieldLink RX3 26 "NightRiders$Rider" "home" "I" ∈ UW := UW_in (i := 172) (by decide +kernel) (by decide +kernel)
theorem u_fl_X4_91 : Cond.fieldLink RX4 91 "NightRiders$Rider" "home" "I" ∈ UW := UW_in (i := 173) (by decide +kernel) (by decide +kernel)
theorem u_fl_X3_29 : Cond.fieldLink RX3 29 "NightRiders$Rider" "area" "I" ∈ UW := UW_in (i := 174) (by decide +kernel) (by decide +kernel)
theorem u_fl_X4_110 : Cond.fieldLink RX4 110 "NightRiders$Rider" "area" "I" ∈ UW := UW_in (i := 175) (by decide +kernel) (by decide +kernel)
theorem u_fl_X3_32 : Cond.fieldLink RX3 32 "NightRiders$Rider" "dutyFrom" "I" ∈ UW := UW_in (i := 176) (by decide +kernel) (by decide +kernel)
theorem u_fl_X4_224 : Cond.fieldLink RX4 224 "NightRiders$Rider" "dutyFrom" "I" ∈ UW := UW_in (i := 177) (by decide +kernel) (by decide +kernel)
theorem u_fl_X3_35 : Cond.fieldLink RX3 35 "NightRiders$Rider" "dutyTo" "I" ∈ UW := UW_in (i := 178) (by decide +kernel) (by decide +kernel)
theorem u_fl_X4_211 : Cond.fieldLink RX4 211 "NightRiders$Rider" "dutyTo" "I" ∈ UW := UW_in (i := 179) (by decide +kernel) (by decide +kernel)
theorem u_fl_X3_38 : Cond.fieldLink RX3 38 "NightRiders$Rider" "kinds" "I" ∈ UW := UW_in (i := 180) (by decide +kernel) (by decide +kernel)
theorem u_fl_X4_113 : Cond.fieldLink RX4 113 "NightRiders$Rider" "kinds" "I" ∈ UW := UW_in (i := 181) (by decide +kernel) (by decide +kernel)
theorem u_fl_X3_9 : Cond.fieldLink RX3 9 "NightRiders$Rider" "ways" "[I" ∈ UW := UW_in (i := 182) (by decide +kernel) (by decide +kernel)
theorem u_fl_X4_214 : Cond.fieldLink RX4 214 "NightRiders$Rider" "ways" "[I" ∈ UW := UW_in (i := 183) (by decide +kernel) (by decide +kernel)
theorem u_fl_X3_41 : Cond.fieldLink RX3 41 "NightRiders$Rider" "at" "I" ∈ UW := UW_in (i := 184) (by decide +kernel) (by decide +kernel)
theorem u_fl_X4_94 : Cond.fieldLink RX4 94 "NightRiders$Rider" "at" "I" ∈ UW := UW_in (i := 185) (by decide +kernel) (by decide +kernel)
theorem u_fl_X3_44 : Cond.fieldLink RX3 44 "NightRiders$Rider" "free" "I" ∈ UW := UW_in (i := 186) (by decide +kernel) (by decide +kernel)
theorem u_fl_X4_101 : Cond.fieldLink RX4 101 "NightRiders$Rider" "free" "I" ∈ UW := UW_in (i := 187) (by decide +kernel) (by decide +kernel)
theorem u_fl_X3_15 : Cond.fieldLink RX3 15 "NightRiders$Rider" "legsRidden" "I" ∈ UW := UW_in (i := 188) (by decide +kernel) (by decide +kernel)
theorem u_fl_X4_104 : Cond.fieldLink RX4 104 "NightRiders$Rider" "legsRidden" "I" ∈ UW := UW_in (i := 189) (by decide +kernel) (by decide +kernel)
theorem u_fl_X3_19 : Cond.fieldLink RX3 19 "NightRiders$Rider" "boxMinutes" "I" ∈ UW := UW_in (i := 190) (by decide +kernel) (by decide +kernel)
theorem u_fl_X4_107 : Cond.fieldLink RX4 107 "NightRiders$Rider" "boxMinutes" "I" ∈ UW := UW_in (i := 191) (by decide +kernel) (by decide +kernel)
theorem u_fl_X3_22 : Cond.fieldLink RX3 22 "NightRiders$Rider" "failed" "Z" ∈ UW := UW_in (i := 192) (by decide +kernel) (by decide +kernel)
theorem u_fl_X4_97 : Cond.fieldLink RX4 97 "NightRiders$Rider" "failed" "Z" ∈ UW := UW_in (i := 193) (by decide +kernel) (by decide +kernel)
theorem u_ml_L_34 : Cond.methodLink RL 34 yX4_rest ∈ UW := UW_in (i := 217) (by decide +kernel) (by decide +kernel)
theorem u_in_X4_rest : Cond.instanceMethod yX4_rest ∈ UW := UW_in (i := 218) (by decide +kernel) (by decide +kernel)
theorem u_se_X4_rest : Cond.selects RX4 yX4_rest yX4_rest ∈ UW := UW_in (i := 219) (by decide +kernel) (by decide +kernel)
theorem u_co_X4_rest : Cond.code yX4_rest cX4_rest 3 (some .int) ∈ UW := UW_in (i := 220) (by decide +kernel) (by decide +kernel)
theorem u_ml_L_39 : Cond.methodLink RL 39 yX4_count ∈ UW := UW_in (i := 221) (by decide +kernel) (by decide +kernel)
theorem u_in_X4_count : Cond.instanceMethod yX4_count ∈ UW := UW_in (i := 222) (by decide +kernel) (by decide +kernel)
theorem u_se_X4_count : Cond.selects RX4 yX4_count yX4_count ∈ UW := UW_in (i := 223) (by decide +kernel) (by decide +kernel)
theorem u_co_X4_count : Cond.code yX4_count cX4_count 2 (some .int) ∈ UW := UW_in (i := 224) (by decide +kernel) (by decide +kernel)
theorem u_ml_X4_76 : Cond.methodLink RX4 76 yX4_countRequests ∈ UW := UW_in (i := 225) (by decide +kernel) (by decide +kernel)
theorem u_in_X4_countRequests : Cond.instanceMethod yX4_countRequests ∈ UW := UW_in (i := 227) (by decide +kernel) (by decide +kernel)
theorem u_co_X4_countRequests : Cond.code yX4_countRequests cX4_countRequests 5 (some .int) ∈ UW := UW_in (i := 228) (by decide +kernel) (by decide +kernel)
theorem u_ml_X4_137 : Cond.methodLink RX4 137 yX4_requestAt ∈ UW := UW_in (i := 229) (by decide +kernel) (by decide +kernel)
theorem u_in_X4_requestAt : Cond.instanceMethod yX4_requestAt ∈ UW := UW_in (i := 231) (by decide +kernel) (by decide +kernel)
theorem u_co_X4_requestAt : Cond.code yX4_requestAt cX4_requestAt 2 (some (.object "NightRiders$Request")) ∈ UW := UW_in (i := 232) (by decide +kernel) (by decide +kernel)
theorem u_ml_X4_227 : Cond.methodLink RX4 227 yX4_isCounted ∈ UW := UW_in (i := 233) (by decide +kernel) (by decide +kernel)
theorem u_st_X4_isCounted : Cond.static yX4_isCounted ∈ UW := UW_in (i := 234) (by decide +kernel) (by decide +kernel)
end
section
/-! numbers: ints of the machine as whole numbers -/
def iN (z : Int) : Int32 := Int32.ofInt z
def iR (z : Int) : Prop := -2147483648 ≤ z ∧ z < 2147483648
theorem iN_add (a b : Int) : iN a + iN b = iN (a + b) := (Int32.ofInt_add a b).symm
theorem iN_sub (a b : Int) : iN a - iN b = iN (a - b) := (Int32.ofInt_sub a b).symm
theorem iN_mul (a b : Int) : iN a * iN b = iN (a * b) := (Int32.ofInt_mul a b).symm
theorem iN_to {z : Int} (h : iR z) : (iN z).toInt = z := by
  unfold iN
  rw [Int32.toInt_ofInt]
  obtain ⟨h1, h2⟩ := h
  have e := Int.bmod_def z (2 ^ 32)
  rw [e]
  omega
theorem iN_self (x : Int32) : iN x.toInt = x := by unfold iN; exact Int32.ofInt_toInt x
theorem iR_toInt (x : Int32) : iR x.toInt := ⟨by have := Int32.le_toInt x; simpa using this, by have := Int32.toInt_lt x; simpa using this⟩
theorem iN_lt {a b : Int} (ha : iR a) (hb : iR b) : iN a < iN b ↔ a < b := by rw [Int32.lt_iff_toInt_lt, iN_to ha, iN_to hb]
theorem iN_le {a b : Int} (ha : iR a) (hb : iR b) : iN a ≤ iN b ↔ a ≤ b := by rw [Int32.le_iff_toInt_le, iN_to ha, iN_to hb]
theorem iN_eq {a b : Int} (ha : iR a) (hb : iR b) : iN a = iN b ↔ a = b := ⟨fun h => by have := congrArg Int32.toInt h; rwa [iN_to ha, iN_to hb] at this, fun h => by rw [h]⟩
theorem iN_nat (n : Nat) : iN (n : Int) = nI n := by unfold iN nI; exact Int32.ofInt_eq_ofNat
theorem iN_clamp {z : Int} (h0 : 0 ≤ z) (h : z < 2147483648) : (iN z).toNatClampNeg = z.toNat := by
  have : z = ((z.toNat : Nat) : Int) := by omega
  rw [this, iN_nat, nI_clamp (by omega)]
  rfl
theorem iN_in {z : Int} {n : Nat} (h0 : 0 ≤ z) (h : z < n) (hn : n < 2147483648) : vp_in (iN z) n := by
  have e : z = ((z.toNat : Nat) : Int) := by omega
  rw [e, iN_nat]
  exact vp_in_nI (by omega) (by omega)
def b2i (c : Prop) [Decidable c] : Int := if c then 1 else 0
theorem b2i_t {c : Prop} [Decidable c] (h : c) : b2i c = 1 := if_pos h
theorem b2i_f {c : Prop} [Decidable c] (h : ¬ c) : b2i c = 0 := if_neg h
theorem b2i_r (c : Prop) [Decidable c] : iR (b2i c) := by unfold b2i iR; split <;> omega
/-! the world: cells by keys -/
abbrev nKey : Type := Nat × Nat × Nat
def kup {α : Type} (f : nKey → α) (k : nKey) (v : α) : nKey → α := fun j => if j = k then v else f j
theorem kup_s {α : Type} (f : nKey → α) (k : nKey) (v : α) : kup f k v k = v := if_pos rfl
theorem kup_n {α : Type} {f : nKey → α} {k j : nKey} {v : α} (h : j ≠ k) : kup f k v j = f j := if_neg h
def xl (K : List nKey) (ad : nKey → Nat) (ct : nKey → va_E) : va_W := K.map (fun k => (ad k, ct k))
def XW (D : va_G) (A : Nat → Prop) (K : List nKey) (ad : nKey → Nat) (ct : nKey → va_E) (H : Heap) : Prop := va_P D vwCl (xl K ad ct) H ∧ va_D A (xl K ad ct)
def FA (K : List nKey) (ad : nKey → Nat) (sz : Nat) : Nat → Prop := fun q => (∃ k, k ∈ K ∧ q = ad k) ∨ sz ≤ q
theorem xl_get {K : List nKey} {ad : nKey → Nat} {ct : nKey → va_E} {k : nKey} (h : k ∈ K) : ∃ i : Nat, K[i]? = some k ∧ (xl K ad ct)[i]? = some (ad k, ct k) := by
  obtain ⟨i, hi⟩ := List.getElem?_of_mem h
  exact ⟨i, hi, by unfold xl; rw [List.getElem?_map, hi]; rfl⟩
theorem xl_of {K : List nKey} {ad : nKey → Nat} {ct : nKey → va_E} {i : Nat} {q : Nat × va_E} (h : (xl K ad ct)[i]? = some q) : ∃ k, k ∈ K ∧ K[i]? = some k ∧ q = (ad k, ct k) := by
  unfold xl at h
  rw [List.getElem?_map] at h
  cases hk : K[i]? with
  | none => rw [hk] at h; cases h
  | some k => rw [hk] at h; exact ⟨k, List.mem_of_getElem? hk, rfl, (Option.some.inj h).symm⟩
theorem XW.at {D : va_G} {A : Nat → Prop} {K : List nKey} {ad : nKey → Nat} {ct : nKey → va_E} {H : Heap} (h : XW D A K ad ct H) {k : nKey} (hk : k ∈ K) : va_at D vwCl (ad k, ct k) H := by
  obtain ⟨i, -, hi⟩ := xl_get (ad := ad) (ct := ct) hk
  exact h.1 i _ hi
theorem XW.lt {D : va_G} {A : Nat → Prop} {K : List nKey} {ad : nKey → Nat} {ct : nKey → va_E} {H : Heap} (h : XW D A K ad ct H) {k : nKey} (hk : k ∈ K) : ad k < H.size := (h.at hk).lt
theorem XW.A {D : va_G} {A : Nat → Prop} {K : List nKey} {ad : nKey → Nat} {ct : nKey → va_E} {H : Heap} (h : XW D A K ad ct H) {k : nKey} (hk : k ∈ K) : A (ad k) := by
  obtain ⟨i, -, hi⟩ := xl_get (ad := ad) (ct := ct) hk
  exact h.2.2 i _ hi
theorem XW.inj {D : va_G} {A : Nat → Prop} {K : List nKey} {ad : nKey → Nat} {ct : nKey → va_E} {H : Heap} (h : XW D A K ad ct H) {j k : nKey} (hj : j ∈ K) (hk : k ∈ K) (e : ad j = ad k) : j = k := by
  obtain ⟨i, hi, gi⟩ := xl_get (ad := ad) (ct := ct) hj
  obtain ⟨i2, hi2, gi2⟩ := xl_get (ad := ad) (ct := ct) hk
  have := h.2.1 i i2 _ _ gi gi2 e
  subst this
  exact Option.some.inj (hi.symm.trans hi2)
theorem XW.weaken {D : va_G} {A B : Nat → Prop} {K : List nKey} {ad : nKey → Nat} {ct : nKey → va_E} {H : Heap} (h : XW D A K ad ct H) (hAB : ∀ q, A q → B q) : XW D B K ad ct H := ⟨h.1, h.2.weaken (fun _ _ _ q => hAB _ q)⟩
theorem XW.congr {D : va_G} {A : Nat → Prop} {K : List nKey} {ad ad' : nKey → Nat} {ct ct' : nKey → va_E} {H : Heap} (h : XW D A K ad ct H) (ha : ∀ k, k ∈ K → ad' k = ad k) (hc : ∀ k, k ∈ K → ct' k = ct k) : XW D A K ad' ct' H := by
  have e : xl K ad' ct' = xl K ad ct := List.map_congr_left (fun k hk => by rw [ha k hk, hc k hk])
  unfold XW
  rw [e]
  exact h
theorem XW.kept {D : va_G} {A : Nat → Prop} {K : List nKey} {ad : nKey → Nat} {ct : nKey → va_E} {H H1 : Heap} (h : XW D A K ad ct H) (hq : ∀ k, k ∈ K → H1[ad k]? = H[ad k]?) : XW D A K ad ct H1 := by
  refine ⟨h.1.kept (fun i q hi => ?_), h.2⟩
  obtain ⟨k, hk, -, rfl⟩ := xl_of hi
  exact hq k hk
theorem XW.nodup {D : va_G} {A : Nat → Prop} {K : List nKey} {ad : nKey → Nat} {ct : nKey → va_E} {H : Heap} (h : XW D A K ad ct H) : ∀ (i j : Nat) (k : nKey), K[i]? = some k → K[j]? = some k → i = j := by
  intro i j k hi hj
  refine h.2.1 i j (ad k, ct k) (ad k, ct k) ?_ ?_ rfl
  · unfold xl; rw [List.getElem?_map, hi]; rfl
  · unfold xl; rw [List.getElem?_map, hj]; rfl
theorem xl_set {D : va_G} {A : Nat → Prop} {K : List nKey} {ad : nKey → Nat} {ct : nKey → va_E} {H : Heap} (h : XW D A K ad ct H) {k : nKey} {i : Nat} (hi : K[i]? = some k) (e : va_E) : (xl K ad ct).set i (ad k, e) = xl K ad (kup ct k e) := by
  refine List.ext_getElem? fun j => ?_
  unfold xl
  rw [List.getElem?_set, List.getElem?_map, List.getElem?_map]
  by_cases hij : i = j
  · subst hij
    rw [if_pos rfl, if_pos (by rw [List.length_map]; exact (List.getElem?_eq_some_iff.mp hi).1), hi]
    simp [kup]
  · rw [if_neg hij]
    cases hj : K[j]? with
    | none => rfl
    | some k' =>
      have : k' ≠ k := fun e => hij (h.nodup i j k hi (by rw [hj, e]))
      simp [kup, this]
theorem xl_push {K : List nKey} {ad : nKey → Nat} {ct : nKey → va_E} {k : nKey} (hk : k ∉ K) (q : Nat) (e : va_E) : xl K ad ct ++ [(q, e)] = xl (K ++ [k]) (kup ad k q) (kup ct k e) := by
  unfold xl
  rw [List.map_append]
  congr 1
  · refine List.map_congr_left (fun j hj => ?_)
    have : j ≠ k := fun e => hk (e ▸ hj)
    rw [kup_n this, kup_n this]
  · simp [kup]
theorem XW.sub {D : va_G} {A : Nat → Prop} {K : List nKey} {ad : nKey → Nat} {ct : nKey → va_E} {H : Heap} (h : XW D A K ad ct H) (p : nKey → Bool) : XW D A (K.filter p) ad ct H := by
  have hn : K.Nodup := by
    rw [List.nodup_iff_pairwise_ne] 
    refine List.pairwise_iff_getElem.mpr fun i j hi hj hij he => ?_
    have := h.nodup i j K[i] (List.getElem?_eq_getElem hi) (by rw [he]; exact List.getElem?_eq_getElem hj)
    omega
  have hn2 : (K.filter p).Nodup := hn.filter p
  refine ⟨fun i q hi => ?_, fun i j q r hi hj e => ?_, fun i q hi => ?_⟩
  · obtain ⟨k, hk, -, rfl⟩ := xl_of hi
    exact h.at (List.mem_filter.mp hk).1
  · obtain ⟨k, hk, hik, rfl⟩ := xl_of hi
    obtain ⟨k2, hk2, hik2, rfl⟩ := xl_of hj
    have e2 : k = k2 := h.inj (List.mem_filter.mp hk).1 (List.mem_filter.mp hk2).1 e
    subst e2
    obtain ⟨hi1, hi2⟩ := List.getElem?_eq_some_iff.mp hik
    obtain ⟨hj1, hj2⟩ := List.getElem?_eq_some_iff.mp hik2
    exact (List.getElem?_inj hi1 hn2).mp (hik.trans hik2.symm)
  · obtain ⟨k, hk, -, rfl⟩ := xl_of hi
    exact h.A (List.mem_filter.mp hk).1
theorem XW.fa {D : va_G} {A0 : Nat → Prop} {K : List nKey} {ad : nKey → Nat} {ct : nKey → va_E} {H H0 : Heap} {locs : List Loc} (h : XW D A0 K ad ct H) (hS : va_S A0 H0 H locs) (hA : ∀ q, H0.size ≤ q → A0 q) : ∀ q, FA K ad H.size q → A0 q := by
  intro q hq
  rcases hq with ⟨k, hk, rfl⟩ | hq
  · exact h.A hk
  · exact hA q (Nat.le_trans hS.1 hq)
theorem XW.self {D : va_G} {A : Nat → Prop} {K : List nKey} {ad : nKey → Nat} {ct : nKey → va_E} {H : Heap} {sz : Nat} (h : XW D A K ad ct H) : XW D (FA K ad sz) K ad ct H := by
  refine ⟨h.1, h.2.1, fun i q hi => ?_⟩
  obtain ⟨k, hk, -, rfl⟩ := xl_of hi
  exact Or.inl ⟨k, hk, rfl⟩
/-! what is known of the classes and of the tables all the time -/
def tysL (ca : Nat → ClassId) : List (ClassId × FieldType) := [(ca 0, .int), (ca 1, .boolean), (ca 2, .object "NightRiders$Rider"), (ca 3, .object "NightRiders$Request"), (ca 4, .object "NightRiders$Leg"), (ca 5, .long)]
def ZK (D : va_G) (ca : Nat → ClassId) (U : State) : Prop := va_K D vwCl (tysL ca) U ∧ va_Nw (.methodLinkNest RX3 47 yX4_hasBit RX4) U ∧ va_Nw (.methodLinkNest RX4 27 yX0_init RX4) U
theorem ZK.moved {D : va_G} {ca : Nat → ClassId} {u U : State} (hW : u.WarmedH U.vm) (h : ZK D ca u) : ZK D ca U := ⟨va_K.moved hW.alike h.1, va_Nw.warmM hW h.2.1, va_Nw.warmM hW h.2.2⟩
theorem ZK.same {D : va_G} {ca : Nat → ClassId} {u U : State} (hv : u.vm = U.vm) (h : ZK D ca u) : ZK D ca U := ⟨va_K.moved (by rw [hv]; exact Vm.Alike.refl U.vm) h.1, va_Nw.same rfl hv h.2.1, va_Nw.same rfl hv h.2.2⟩
def ZP (D : va_G) (ca : Nat → ClassId) (av : List Value) (B : Heap → Prop) : Array Value → State → Prop := va_Pc av (fun U => B U.heap ∧ ZK D ca U)
theorem zp_blind {D : va_G} {ca : Nat → ClassId} {av : List Value} {B : Heap → Prop} : FrameBlind (ZP D ca av B) := fun _ U _ _ q => ⟨q.1, q.2.1, q.2.2.same rfl⟩
def ZR (v : Option Value) : Array Value → State → Outcome → State → Prop := fun _ st o t => o = .returned v ∧ t.heap = st.heap
def ZU {S : Type} (vf : S → Option Value) (Wf : S → Heap → Prop) (A : Nat → Prop) : Array Value → State → Outcome → State → Prop := fun _ st o t => (∃ u : S, o = .returned (vf u) ∧ Wf u t.heap) ∧ va_F A st t
section ZF
variable {p : Program} {l : Launch} {e : Env} {R : Room} {s : State} {m : MethodId} {args : Array Value} {below : List Frame} {meth : Method} {c : Code} {H : Heap} {locs : List Loc} {cells slots : Nat} {Q : State → Prop}
variable {cc : ByteArray} {pc : Nat} {ls : Array Slot} {rest : List Value} {D : va_G} {ca : Nat → ClassId} {A : Nat → Prop} {H0 : Heap} {nL : Nat} {own : String} {K : List nKey} {ad : nKey → Nat} {ct : nKey → va_E} {κ : nKey}
/-- the machine's side of a walk -/
def MF (p : Program) (s : State) (m : MethodId) (args : Array Value) (c : Code) (cc : ByteArray) (nL : Nat) (own : String) (D : va_G) (ca : Nat → ClassId) : Prop := CallFix p m c cc nL s args UW own ∧ ZK D ca s
theorem MF.hx (M : MF p s m args c cc nL own D ca) : p.tables.exec = Jvm.exec := M.1.1
theorem MF.hb (M : MF p s m args c cc nL own D ca) : c.code = cc := M.1.2.1
theorem MF.hml (M : MF p s m args c cc nL own D ca) : c.maxLocals = nL := M.1.2.2.1
theorem MF.hown (M : MF p s m args c cc nL own D ca) : s.vm.findClass own = some m.cls := M.1.2.2.2.1
theorem MF.hts (M : MF p s m args c cc nL own D ca) : ∀ w ∈ UW, w.before args s = true := M.1.2.2.2.2
theorem MF.hK (M : MF p s m args c cc nL own D ca) : va_K D vwCl (tysL ca) s := M.2.1
/-! numbers on the stack -/
theorem zi_add (M : MF p s m args c cc nL own D ca) {a b : Int} (hdg : decode cc pc = .ok (.iadd, 1)) (k : W p l e R s m args below meth c H locs cells slots Q (F0 m (pc + 1) ls (.int (iN (a + b)) :: rest))) : W p l e R s m args below meth c H locs cells slots Q (F0 m pc ls (.int (iN b) :: .int (iN a) :: rest)) :=
  lv_iadd M.hx M.hb hdg (by rw [iN_add]; exact k)
theorem zi_sub (M : MF p s m args c cc nL own D ca) {a b : Int} (hdg : decode cc pc = .ok (.isub, 1)) (k : W p l e R s m args below meth c H locs cells slots Q (F0 m (pc + 1) ls (.int (iN (a - b)) :: rest))) : W p l e R s m args below meth c H locs cells slots Q (F0 m pc ls (.int (iN b) :: .int (iN a) :: rest)) :=
  lv_isub M.hx M.hb hdg (by rw [iN_sub]; exact k)
theorem zi_mul (M : MF p s m args c cc nL own D ca) {a b : Int} (hdg : decode cc pc = .ok (.imul, 1)) (k : W p l e R s m args below meth c H locs cells slots Q (F0 m (pc + 1) ls (.int (iN (a * b)) :: rest))) : W p l e R s m args below meth c H locs cells slots Q (F0 m pc ls (.int (iN b) :: .int (iN a) :: rest)) :=
  lv_imul M.hx M.hb hdg (by rw [iN_mul]; exact k)
theorem zi_const (M : MF p s m args c cc nL own D ca) {n : Int} (v : Int) (hdg : decode cc pc = .ok (.iconst n, 1)) (hv : n = v) (k : W p l e R s m args below meth c H locs cells slots Q (F0 m (pc + 1) ls (.int (iN v) :: rest))) : W p l e R s m args below meth c H locs cells slots Q (F0 m pc ls rest) :=
  lv_iconst (v := iN v) M.hx M.hb hdg (by rw [hv]; rfl) k
theorem zi_bi (M : MF p s m args c cc nL own D ca) {n : Int} (v : Int) (hdg : decode cc pc = .ok (.bipush n, 2)) (hv : (Int8.ofInt n).toInt32 = iN v) (k : W p l e R s m args below meth c H locs cells slots Q (F0 m (pc + 2) ls (.int (iN v) :: rest))) : W p l e R s m args below meth c H locs cells slots Q (F0 m pc ls rest) :=
  lv_bipush (v := iN v) M.hx M.hb hdg hv k
theorem zi_si (M : MF p s m args c cc nL own D ca) {n : Int} (v : Int) (hdg : decode cc pc = .ok (.sipush n, 3)) (hv : (Int16.ofInt n).toInt32 = iN v) (k : W p l e R s m args below meth c H locs cells slots Q (F0 m (pc + 3) ls (.int (iN v) :: rest))) : W p l e R s m args below meth c H locs cells slots Q (F0 m pc ls rest) :=
  lv_sipush (v := iN v) M.hx M.hb hdg hv k
/-! branches -/
theorem zj_lt (M : MF p s m args c cc nL own D ca) {a b off : Int} {tgt : Nat} (hdg : decode cc pc = .ok (.if_icmp .lt off, 3)) (ht : (pc : Int) + off = (tgt : Int)) (ha : iR a) (hb : iR b) (k1 : a < b → W p l e R s m args below meth c H locs cells slots Q (F0 m tgt ls rest)) (k2 : b ≤ a → W p l e R s m args below meth c H locs cells slots Q (F0 m (pc + 3) ls rest)) : W p l e R s m args below meth c H locs cells slots Q (F0 m pc ls (.int (iN b) :: .int (iN a) :: rest)) :=
  lv_icmp_lt M.hx M.hb hdg ht (fun h => k1 ((iN_lt ha hb).mp h)) (fun h => k2 (Int.not_lt.mp (fun q => h ((iN_lt ha hb).mpr q))))
theorem zj_ge (M : MF p s m args c cc nL own D ca) {a b off : Int} {tgt : Nat} (hdg : decode cc pc = .ok (.if_icmp .ge off, 3)) (ht : (pc : Int) + off = (tgt : Int)) (ha : iR a) (hb : iR b) (k1 : b ≤ a → W p l e R s m args below meth c H locs cells slots Q (F0 m tgt ls rest)) (k2 : a < b → W p l e R s m args below meth c H locs cells slots Q (F0 m (pc + 3) ls rest)) : W p l e R s m args below meth c H locs cells slots Q (F0 m pc ls (.int (iN b) :: .int (iN a) :: rest)) :=
  lv_icmp_ge M.hx M.hb hdg ht (fun h => k1 ((iN_le hb ha).mp h)) (fun h => k2 (Int.not_le.mp (fun q => h ((iN_le hb ha).mpr q))))
theorem zj_gt (M : MF p s m args c cc nL own D ca) {a b off : Int} {tgt : Nat} (hdg : decode cc pc = .ok (.if_icmp .gt off, 3)) (ht : (pc : Int) + off = (tgt : Int)) (ha : iR a) (hb : iR b) (k1 : b < a → W p l e R s m args below meth c H locs cells slots Q (F0 m tgt ls rest)) (k2 : a ≤ b → W p l e R s m args below meth c H locs cells slots Q (F0 m (pc + 3) ls rest)) : W p l e R s m args below meth c H locs cells slots Q (F0 m pc ls (.int (iN b) :: .int (iN a) :: rest)) :=
  lv_icmp_gt M.hx M.hb hdg ht (fun h => k1 ((iN_lt hb ha).mp h)) (fun h => k2 (Int.not_lt.mp (fun q => h ((iN_lt hb ha).mpr q))))
theorem zj_le (M : MF p s m args c cc nL own D ca) {a b off : Int} {tgt : Nat} (hdg : decode cc pc = .ok (.if_icmp .le off, 3)) (ht : (pc : Int) + off = (tgt : Int)) (ha : iR a) (hb : iR b) (k1 : a ≤ b → W p l e R s m args below meth c H locs cells slots Q (F0 m tgt ls rest)) (k2 : b < a → W p l e R s m args below meth c H locs cells slots Q (F0 m (pc + 3) ls rest)) : W p l e R s m args below meth c H locs cells slots Q (F0 m pc ls (.int (iN b) :: .int (iN a) :: rest)) :=
  lv_icmp_le M.hx M.hb hdg ht (fun h => k1 ((iN_le ha hb).mp h)) (fun h => k2 (Int.not_le.mp (fun q => h ((iN_le ha hb).mpr q))))
theorem zj_eq (M : MF p s m args c cc nL own D ca) {a b off : Int} {tgt : Nat} (hdg : decode cc pc = .ok (.if_icmp .eq off, 3)) (ht : (pc : Int) + off = (tgt : Int)) (ha : iR a) (hb : iR b) (k1 : a = b → W p l e R s m args below meth c H locs cells slots Q (F0 m tgt ls rest)) (k2 : a ≠ b → W p l e R s m args below meth c H locs cells slots Q (F0 m (pc + 3) ls rest)) : W p l e R s m args below meth c H locs cells slots Q (F0 m pc ls (.int (iN b) :: .int (iN a) :: rest)) :=
  lv_icmp_eq M.hx M.hb hdg ht (fun h => k1 ((iN_eq ha hb).mp h)) (fun h => k2 (fun q => h ((iN_eq ha hb).mpr q)))
theorem zj_ne (M : MF p s m args c cc nL own D ca) {a b off : Int} {tgt : Nat} (hdg : decode cc pc = .ok (.if_icmp .ne off, 3)) (ht : (pc : Int) + off = (tgt : Int)) (ha : iR a) (hb : iR b) (k1 : a ≠ b → W p l e R s m args below meth c H locs cells slots Q (F0 m tgt ls rest)) (k2 : a = b → W p l e R s m args below meth c H locs cells slots Q (F0 m (pc + 3) ls rest)) : W p l e R s m args below meth c H locs cells slots Q (F0 m pc ls (.int (iN b) :: .int (iN a) :: rest)) :=
  lv_icmp_ne M.hx M.hb hdg ht (fun h => k1 (fun q => h ((iN_eq ha hb).mpr q))) (fun h => k2 ((iN_eq ha hb).mp h))
end ZF
end
section
section ZG
variable {p : Program} {l : Launch} {e : Env} {R : Room} {s : State} {m : MethodId} {args : Array Value} {below : List Frame} {meth : Method} {c : Code} {H : Heap} {locs : List Loc} {cells slots : Nat} {Q : State → Prop}
variable {cc : ByteArray} {pc : Nat} {ls : Array Slot} {rest : List Value} {D : va_G} {ca : Nat → ClassId} {A : Nat → Prop} {H0 : Heap} {nL : Nat} {own : String} {K : List nKey} {ad : nKey → Nat} {ct : nKey → va_E} {κ : nKey}
theorem iR_0 : iR 0 := ⟨by decide, by decide⟩
theorem zz_eq (M : MF p s m args c cc nL own D ca) {a off : Int} {tgt : Nat} (hdg : decode cc pc = .ok (.ifCond .eq off, 3)) (ht : (pc : Int) + off = (tgt : Int)) (ha : iR a) (k1 : a = 0 → W p l e R s m args below meth c H locs cells slots Q (F0 m tgt ls rest)) (k2 : a ≠ 0 → W p l e R s m args below meth c H locs cells slots Q (F0 m (pc + 3) ls rest)) : W p l e R s m args below meth c H locs cells slots Q (F0 m pc ls (.int (iN a) :: rest)) :=
  lv_if_eq M.hx M.hb hdg ht (fun h => k1 ((iN_eq ha iR_0).mp h)) (fun h => k2 (fun q => h ((iN_eq ha iR_0).mpr q)))
theorem zz_ne (M : MF p s m args c cc nL own D ca) {a off : Int} {tgt : Nat} (hdg : decode cc pc = .ok (.ifCond .ne off, 3)) (ht : (pc : Int) + off = (tgt : Int)) (ha : iR a) (k1 : a ≠ 0 → W p l e R s m args below meth c H locs cells slots Q (F0 m tgt ls rest)) (k2 : a = 0 → W p l e R s m args below meth c H locs cells slots Q (F0 m (pc + 3) ls rest)) : W p l e R s m args below meth c H locs cells slots Q (F0 m pc ls (.int (iN a) :: rest)) :=
  lv_if_ne M.hx M.hb hdg ht (fun h => k1 (fun q => h ((iN_eq ha iR_0).mpr q))) (fun h => k2 ((iN_eq ha iR_0).mp h))
theorem zz_lt (M : MF p s m args c cc nL own D ca) {a off : Int} {tgt : Nat} (hdg : decode cc pc = .ok (.ifCond .lt off, 3)) (ht : (pc : Int) + off = (tgt : Int)) (ha : iR a) (k1 : a < 0 → W p l e R s m args below meth c H locs cells slots Q (F0 m tgt ls rest)) (k2 : 0 ≤ a → W p l e R s m args below meth c H locs cells slots Q (F0 m (pc + 3) ls rest)) : W p l e R s m args below meth c H locs cells slots Q (F0 m pc ls (.int (iN a) :: rest)) :=
  lv_if_lt M.hx M.hb hdg ht (fun h => k1 ((iN_lt ha iR_0).mp h)) (fun h => k2 (Int.not_lt.mp (fun q => h ((iN_lt ha iR_0).mpr q))))
theorem zz_ge (M : MF p s m args c cc nL own D ca) {a off : Int} {tgt : Nat} (hdg : decode cc pc = .ok (.ifCond .ge off, 3)) (ht : (pc : Int) + off = (tgt : Int)) (ha : iR a) (k1 : 0 ≤ a → W p l e R s m args below meth c H locs cells slots Q (F0 m tgt ls rest)) (k2 : a < 0 → W p l e R s m args below meth c H locs cells slots Q (F0 m (pc + 3) ls rest)) : W p l e R s m args below meth c H locs cells slots Q (F0 m pc ls (.int (iN a) :: rest)) :=
  lv_if_ge M.hx M.hb hdg ht (fun h => k1 ((iN_le iR_0 ha).mp h)) (fun h => k2 (Int.not_le.mp (fun q => h ((iN_le iR_0 ha).mpr q))))
theorem zz_gt (M : MF p s m args c cc nL own D ca) {a off : Int} {tgt : Nat} (hdg : decode cc pc = .ok (.ifCond .gt off, 3)) (ht : (pc : Int) + off = (tgt : Int)) (ha : iR a) (k1 : 0 < a → W p l e R s m args below meth c H locs cells slots Q (F0 m tgt ls rest)) (k2 : a ≤ 0 → W p l e R s m args below meth c H locs cells slots Q (F0 m (pc + 3) ls rest)) : W p l e R s m args below meth c H locs cells slots Q (F0 m pc ls (.int (iN a) :: rest)) :=
  lv_if_gt M.hx M.hb hdg ht (fun h => k1 ((iN_lt iR_0 ha).mp h)) (fun h => k2 (Int.not_lt.mp (fun q => h ((iN_lt iR_0 ha).mpr q))))
theorem zz_le (M : MF p s m args c cc nL own D ca) {a off : Int} {tgt : Nat} (hdg : decode cc pc = .ok (.ifCond .le off, 3)) (ht : (pc : Int) + off = (tgt : Int)) (ha : iR a) (k1 : a ≤ 0 → W p l e R s m args below meth c H locs cells slots Q (F0 m tgt ls rest)) (k2 : 0 < a → W p l e R s m args below meth c H locs cells slots Q (F0 m (pc + 3) ls rest)) : W p l e R s m args below meth c H locs cells slots Q (F0 m pc ls (.int (iN a) :: rest)) :=
  lv_if_le M.hx M.hb hdg ht (fun h => k1 ((iN_le ha iR_0).mp h)) (fun h => k2 (Int.not_le.mp (fun q => h ((iN_le ha iR_0).mpr q))))
theorem zb_eq (M : MF p s m args c cc nL own D ca) {b : Prop} [Decidable b] {off : Int} {tgt : Nat} (hdg : decode cc pc = .ok (.ifCond .eq off, 3)) (ht : (pc : Int) + off = (tgt : Int)) (k1 : ¬ b → W p l e R s m args below meth c H locs cells slots Q (F0 m tgt ls rest)) (k2 : b → W p l e R s m args below meth c H locs cells slots Q (F0 m (pc + 3) ls rest)) : W p l e R s m args below meth c H locs cells slots Q (F0 m pc ls (.int (iN (b2i b)) :: rest)) :=
  zz_eq M hdg ht (b2i_r b) (fun h => k1 (fun q => by rw [b2i_t q] at h; omega)) (fun h => k2 (by
    by_cases q : b
    · exact q
    · exact absurd (b2i_f q) h))
theorem zb_ne (M : MF p s m args c cc nL own D ca) {b : Prop} [Decidable b] {off : Int} {tgt : Nat} (hdg : decode cc pc = .ok (.ifCond .ne off, 3)) (ht : (pc : Int) + off = (tgt : Int)) (k1 : b → W p l e R s m args below meth c H locs cells slots Q (F0 m tgt ls rest)) (k2 : ¬ b → W p l e R s m args below meth c H locs cells slots Q (F0 m (pc + 3) ls rest)) : W p l e R s m args below meth c H locs cells slots Q (F0 m pc ls (.int (iN (b2i b)) :: rest)) :=
  zz_ne M hdg ht (b2i_r b) (fun h => k1 (by
    by_cases q : b
    · exact q
    · exact absurd (b2i_f q) h)) (fun h => k2 (fun q => by rw [b2i_t q] at h; omega))
theorem zg (M : MF p s m args c cc nL own D ca) {off : Int} {tgt : Nat} (hdg : decode cc pc = .ok (.goto off, 3)) (ht : (pc : Int) + off = (tgt : Int)) (k : W p l e R s m args below meth c H locs cells slots Q (F0 m tgt ls rest)) : W p l e R s m args below meth c H locs cells slots Q (F0 m pc ls rest) := lv_goto M.hx M.hb hdg ht k
theorem z_il_n (M : MF p s m args c cc nL own D ca) {lv : List (Nat × Value)} {k : Fin 4} {i : Nat} {x : Int32} (hdg : decode cc pc = .ok (.iload_n k, 1)) (hi : (k : Nat) = i) (h : lv_has ls nL lv) (j : Nat) (hj : lv[j]? = some (i, .int x)) (kk : W p l e R s m args below meth c H locs cells slots Q (F0 m (pc + 1) ls (.int x :: rest))) : W p l e R s m args below meth c H locs cells slots Q (F0 m pc ls rest) := lv_iload_n M.hx M.hb hdg hi (lv_at h j hj) kk
theorem z_il (M : MF p s m args c cc nL own D ca) {lv : List (Nat × Value)} {i : Nat} {x : Int32} (hdg : decode cc pc = .ok (.iload i, 2)) (h : lv_has ls nL lv) (j : Nat) (hj : lv[j]? = some (i, .int x)) (kk : W p l e R s m args below meth c H locs cells slots Q (F0 m (pc + 2) ls (.int x :: rest))) : W p l e R s m args below meth c H locs cells slots Q (F0 m pc ls rest) := lv_iload M.hx M.hb hdg (lv_at h j hj) kk
theorem z_al_n (M : MF p s m args c cc nL own D ca) {lv : List (Nat × Value)} {k : Fin 4} {i : Nat} {x : Nat} (hdg : decode cc pc = .ok (.aload_n k, 1)) (hi : (k : Nat) = i) (h : lv_has ls nL lv) (j : Nat) (hj : lv[j]? = some (i, .ref x)) (kk : W p l e R s m args below meth c H locs cells slots Q (F0 m (pc + 1) ls (.ref x :: rest))) : W p l e R s m args below meth c H locs cells slots Q (F0 m pc ls rest) := lv_aload_n M.hx M.hb hdg hi (lv_at h j hj) kk
theorem z_al (M : MF p s m args c cc nL own D ca) {lv : List (Nat × Value)} {i : Nat} {x : Nat} (hdg : decode cc pc = .ok (.aload i, 2)) (h : lv_has ls nL lv) (j : Nat) (hj : lv[j]? = some (i, .ref x)) (kk : W p l e R s m args below meth c H locs cells slots Q (F0 m (pc + 2) ls (.ref x :: rest))) : W p l e R s m args below meth c H locs cells slots Q (F0 m pc ls rest) := lv_aload M.hx M.hb hdg (lv_at h j hj) kk
theorem z_aln_n (M : MF p s m args c cc nL own D ca) {lv : List (Nat × Value)} {k : Fin 4} {i : Nat}  (hdg : decode cc pc = .ok (.aload_n k, 1)) (hi : (k : Nat) = i) (h : lv_has ls nL lv) (j : Nat) (hj : lv[j]? = some (i, .null)) (kk : W p l e R s m args below meth c H locs cells slots Q (F0 m (pc + 1) ls (.null :: rest))) : W p l e R s m args below meth c H locs cells slots Q (F0 m pc ls rest) := lv_aload_nN M.hx M.hb hdg hi (lv_at h j hj) kk
theorem z_aln (M : MF p s m args c cc nL own D ca) {lv : List (Nat × Value)} {i : Nat}  (hdg : decode cc pc = .ok (.aload i, 2)) (h : lv_has ls nL lv) (j : Nat) (hj : lv[j]? = some (i, .null)) (kk : W p l e R s m args below meth c H locs cells slots Q (F0 m (pc + 2) ls (.null :: rest))) : W p l e R s m args below meth c H locs cells slots Q (F0 m pc ls rest) := lv_aloadN M.hx M.hb hdg (lv_at h j hj) kk
theorem z_is_n (M : MF p s m args c cc nL own D ca) {lv : List (Nat × Value)} (lv' : List (Nat × Value)) {k : Fin 4} {i : Nat} {x : Int32} (hdg : decode cc pc = .ok (.istore_n k, 1)) (hi : (k : Nat) = i) (h : lv_has ls nL lv) (hn : i < nL) (hl : (i, Value.int x) :: lv.filter (fun q => !(q.1 == i) && !(q.1 + 1 == i && q.2.category == 2)) = lv') (kk : ∀ ls' : Array Slot, lv_has ls' nL lv' → W p l e R s m args below meth c H locs cells slots Q (F0 m (pc + 1) ls' rest)) : W p l e R s m args below meth c H locs cells slots Q (F0 m pc ls (.int x :: rest)) := lv_istore_n M.hx M.hb hdg hi h hn hl kk
theorem z_is (M : MF p s m args c cc nL own D ca) {lv : List (Nat × Value)} (lv' : List (Nat × Value)) {i : Nat} {x : Int32} (hdg : decode cc pc = .ok (.istore i, 2)) (h : lv_has ls nL lv) (hn : i < nL) (hl : (i, Value.int x) :: lv.filter (fun q => !(q.1 == i) && !(q.1 + 1 == i && q.2.category == 2)) = lv') (kk : ∀ ls' : Array Slot, lv_has ls' nL lv' → W p l e R s m args below meth c H locs cells slots Q (F0 m (pc + 2) ls' rest)) : W p l e R s m args below meth c H locs cells slots Q (F0 m pc ls (.int x :: rest)) := lv_istore M.hx M.hb hdg h hn hl kk
theorem z_as_n (M : MF p s m args c cc nL own D ca) {lv : List (Nat × Value)} (lv' : List (Nat × Value)) {k : Fin 4} {i : Nat} {x : Nat} (hdg : decode cc pc = .ok (.astore_n k, 1)) (hi : (k : Nat) = i) (h : lv_has ls nL lv) (hn : i < nL) (hl : (i, Value.ref x) :: lv.filter (fun q => !(q.1 == i) && !(q.1 + 1 == i && q.2.category == 2)) = lv') (kk : ∀ ls' : Array Slot, lv_has ls' nL lv' → W p l e R s m args below meth c H locs cells slots Q (F0 m (pc + 1) ls' rest)) : W p l e R s m args below meth c H locs cells slots Q (F0 m pc ls (.ref x :: rest)) := lv_astore_n M.hx M.hb hdg hi h hn hl kk
theorem z_as (M : MF p s m args c cc nL own D ca) {lv : List (Nat × Value)} (lv' : List (Nat × Value)) {i : Nat} {x : Nat} (hdg : decode cc pc = .ok (.astore i, 2)) (h : lv_has ls nL lv) (hn : i < nL) (hl : (i, Value.ref x) :: lv.filter (fun q => !(q.1 == i) && !(q.1 + 1 == i && q.2.category == 2)) = lv') (kk : ∀ ls' : Array Slot, lv_has ls' nL lv' → W p l e R s m args below meth c H locs cells slots Q (F0 m (pc + 2) ls' rest)) : W p l e R s m args below meth c H locs cells slots Q (F0 m pc ls (.ref x :: rest)) := lv_astore M.hx M.hb hdg h hn hl kk
theorem z_asn_n (M : MF p s m args c cc nL own D ca) {lv : List (Nat × Value)} (lv' : List (Nat × Value)) {k : Fin 4} {i : Nat}  (hdg : decode cc pc = .ok (.astore_n k, 1)) (hi : (k : Nat) = i) (h : lv_has ls nL lv) (hn : i < nL) (hl : (i, Value.null) :: lv.filter (fun q => !(q.1 == i) && !(q.1 + 1 == i && q.2.category == 2)) = lv') (kk : ∀ ls' : Array Slot, lv_has ls' nL lv' → W p l e R s m args below meth c H locs cells slots Q (F0 m (pc + 1) ls' rest)) : W p l e R s m args below meth c H locs cells slots Q (F0 m pc ls (.null :: rest)) := lv_astore_nN M.hx M.hb hdg hi h hn hl kk
theorem z_asn (M : MF p s m args c cc nL own D ca) {lv : List (Nat × Value)} (lv' : List (Nat × Value)) {i : Nat}  (hdg : decode cc pc = .ok (.astore i, 2)) (h : lv_has ls nL lv) (hn : i < nL) (hl : (i, Value.null) :: lv.filter (fun q => !(q.1 == i) && !(q.1 + 1 == i && q.2.category == 2)) = lv') (kk : ∀ ls' : Array Slot, lv_has ls' nL lv' → W p l e R s m args below meth c H locs cells slots Q (F0 m (pc + 2) ls' rest)) : W p l e R s m args below meth c H locs cells slots Q (F0 m pc ls (.null :: rest)) := lv_astoreN M.hx M.hb hdg h hn hl kk
theorem z_inc (M : MF p s m args c cc nL own D ca) {lv : List (Nat × Value)} (lv' : List (Nat × Value)) {i : Nat} {n x : Int} (v : Int) (hdg : decode cc pc = .ok (.iinc i n, 3)) (h : lv_has ls nL lv) (j : Nat) (hj : lv[j]? = some (i, .int (iN x))) (hv : x + n = v) (hn : i < nL) (hl : (i, Value.int (iN v)) :: lv.filter (fun q => !(q.1 == i) && !(q.1 + 1 == i && q.2.category == 2)) = lv') (kk : ∀ ls' : Array Slot, lv_has ls' nL lv' → W p l e R s m args below meth c H locs cells slots Q (F0 m (pc + 3) ls' rest)) : W p l e R s m args below meth c H locs cells slots Q (F0 m pc ls rest) := lv_iinc (k := j) M.hx M.hb hdg h hj (by rw [← hv, ← iN_add]; rfl) hn hl kk
theorem z_dup (M : MF p s m args c cc nL own D ca) {va : Value} (hdg : decode cc pc = .ok (.dup, 1)) (hva : va.category = 1) (k : W p l e R s m args below meth c H locs cells slots Q (F0 m (pc + 1) ls (va :: va :: rest))) : W p l e R s m args below meth c H locs cells slots Q (F0 m pc ls (va :: rest)) := lv_dup M.hx M.hb hdg hva k
theorem z_pop (M : MF p s m args c cc nL own D ca) {va : Value} (hdg : decode cc pc = .ok (.pop, 1)) (hva : va.category = 1) (k : W p l e R s m args below meth c H locs cells slots Q (F0 m (pc + 1) ls rest)) : W p l e R s m args below meth c H locs cells slots Q (F0 m pc ls (va :: rest)) := lv_pop M.hx M.hb hdg hva k
theorem z_dup2 (M : MF p s m args c cc nL own D ca) {va vb : Value} (hdg : decode cc pc = .ok (.dup2, 1)) (hva : va.category = 1) (hvb : vb.category = 1) (k : W p l e R s m args below meth c H locs cells slots Q (F0 m (pc + 1) ls (va :: vb :: va :: vb :: rest))) : W p l e R s m args below meth c H locs cells slots Q (F0 m pc ls (va :: vb :: rest)) := lv_dup2_11 M.hx M.hb hdg hva hvb k
theorem z_null (M : MF p s m args c cc nL own D ca) (hdg : decode cc pc = .ok (.aconst_null, 1)) (k : W p l e R s m args below meth c H locs cells slots Q (F0 m (pc + 1) ls (.null :: rest))) : W p l e R s m args below meth c H locs cells slots Q (F0 m pc ls rest) := lv_null M.hx M.hb hdg k
theorem z_ifnn (M : MF p s m args c cc nL own D ca) {x : Nat} {off : Int} {tgt : Nat} (hdg : decode cc pc = .ok (.ifnonnull off, 3)) (ht : (pc : Int) + off = (tgt : Int)) (k : W p l e R s m args below meth c H locs cells slots Q (F0 m tgt ls rest)) : W p l e R s m args below meth c H locs cells slots Q (F0 m pc ls (.ref x :: rest)) := lv_ifnonnull M.hx M.hb hdg ht k
theorem z_ifnnN (M : MF p s m args c cc nL own D ca) {off : Int} (hdg : decode cc pc = .ok (.ifnonnull off, 3)) (k : W p l e R s m args below meth c H locs cells slots Q (F0 m (pc + 3) ls rest)) : W p l e R s m args below meth c H locs cells slots Q (F0 m pc ls (.null :: rest)) := lv_ifnonnullN M.hx M.hb hdg k
theorem z_ifn (M : MF p s m args c cc nL own D ca) {x : Nat} {off : Int} (hdg : decode cc pc = .ok (.ifnull off, 3)) (k : W p l e R s m args below meth c H locs cells slots Q (F0 m (pc + 3) ls rest)) : W p l e R s m args below meth c H locs cells slots Q (F0 m pc ls (.ref x :: rest)) := lv_ifnull M.hx M.hb hdg k
theorem z_ifnN (M : MF p s m args c cc nL own D ca) {off : Int} {tgt : Nat} (hdg : decode cc pc = .ok (.ifnull off, 3)) (ht : (pc : Int) + off = (tgt : Int)) (k : W p l e R s m args below meth c H locs cells slots Q (F0 m tgt ls rest)) : W p l e R s m args below meth c H locs cells slots Q (F0 m pc ls (.null :: rest)) := lv_ifnullN M.hx M.hb hdg ht k
theorem z_get (M : MF p s m args c cc nL own D ca) {ref C : String} {T : u_T} {N ci index : Nat} (hin : ∀ w ∈ u_ws C T N, w ∈ UW) (hW : XW D A K ad ct H) (hκ : κ ∈ K) {fs : List Value} (he : ct κ = .inr (ci, fs)) (hc : vwCl[ci]? = some (C, T, N)) (k : Nat) (hk : k < N) (hlink : (Cond.fieldLink own index ref (T k).2.1 (T k).2.2.1).before args s = true) (hsame : ∀ x, s.fieldFound? (T k).1 (T k).2.1 (T k).2.2.1 = some x → s.fieldFound? ref (T k).2.1 (T k).2.2.1 = some x) {v : Value} (hv : fs[k]? = some v) (hdg : decode cc pc = .ok (.getfield index, 3)) (kk : W p l e R s m args below meth c H locs cells slots Q (F0 m (pc + 3) ls (v :: rest))) : W p l e R s m args below meth c H locs cells slots Q (F0 m pc ls (.ref (ad κ) :: rest)) := by
  obtain ⟨i, -, hi⟩ := xl_get (ad := ad) (ct := ct) hκ
  exact va_get M.hx M.hb M.hts hin M.hown M.hK hW.1 i (by rw [hi, he]) hc k hk hlink hsame hv hdg kk
theorem z_put (M : MF p s m args c cc nL own D ca) {ref C : String} {T : u_T} {N ci index : Nat} (hin : ∀ w ∈ u_ws C T N, w ∈ UW) (hW : XW D A K ad ct H) (hκ : κ ∈ K) {fs : List Value} (he : ct κ = .inr (ci, fs)) (hc : vwCl[ci]? = some (C, T, N)) (k : Nat) (hk : k < N) (hlink : (Cond.fieldLink own index ref (T k).2.1 (T k).2.2.1).before args s = true) (hsame : ∀ x, s.fieldFound? (T k).1 (T k).2.1 (T k).2.2.1 = some x → s.fieldFound? ref (T k).2.1 (T k).2.2.1 = some x) (ty0 : Nat → FieldType) (hty : ∀ k, k < N → parseFieldDescriptor (T k).2.2.1 = some (ty0 k)) (hnm : ∀ a, a < N → ∀ b, b < N → a ≠ b → (T a).2.1 ≠ (T b).2.1) (hS : va_S A H0 H locs) (hfin : (T k).2.2.2 = false) {ty : FieldType} {v : Value} (hd : parseFieldDescriptor (T k).2.2.1 = some ty) (hn : narrow ty v = v) (hfit : fits ty v = true) (hl : k < fs.length) (hdg : decode cc pc = .ok (.putfield index, 3)) (kk : ∀ (H1 : Heap) (locs1 : List Loc), XW D A K ad (kup ct κ (.inr (ci, fs.set k v))) H1 → va_S A H0 H1 locs1 → W p l e R s m args below meth c H1 locs1 cells slots Q (F0 m (pc + 3) ls rest)) : W p l e R s m args below meth c H locs cells slots Q (F0 m pc ls (v :: .ref (ad κ) :: rest)) := by
  obtain ⟨i, hi0, hi⟩ := xl_get (ad := ad) (ct := ct) hκ
  refine va_put M.hx M.hb M.hts hin ty0 hty hnm M.hown M.hK hW.1 hW.2 hS i (by rw [hi, he]) hc k hk hlink hsame hfin hd hn hfit hl hdg (fun H1 locs1 hP hD hS => ?_)
  have e := xl_set hW hi0 (.inr (ci, fs.set k v))
  rw [e] at hP hD
  exact kk H1 locs1 ⟨hP, hD⟩ hS
theorem z_putF (M : MF p s m args c cc nL own D ca) {ref C : String} {T : u_T} {N ci index : Nat} (hin : ∀ w ∈ u_ws C T N, w ∈ UW) (hW : XW D A K ad ct H) (hκ : κ ∈ K) {fs : List Value} (he : ct κ = .inr (ci, fs)) (hc : vwCl[ci]? = some (C, T, N)) (k : Nat) (hk : k < N) (hlink : (Cond.fieldLink own index ref (T k).2.1 (T k).2.2.1).before args s = true) (hsame : ∀ x, s.fieldFound? (T k).1 (T k).2.1 (T k).2.2.1 = some x → s.fieldFound? ref (T k).2.1 (T k).2.2.1 = some x) (ty0 : Nat → FieldType) (hty : ∀ k, k < N → parseFieldDescriptor (T k).2.2.1 = some (ty0 k)) (hnm : ∀ a, a < N → ∀ b, b < N → a ≠ b → (T a).2.1 ≠ (T b).2.1) (hS : va_S A H0 H locs) (hfin : (T k).2.2.2 = true) (hin2 : meth.name = "<init>") (hdecl : (T k).1 = own) {ty : FieldType} {v : Value} (hd : parseFieldDescriptor (T k).2.2.1 = some ty) (hn : narrow ty v = v) (hfit : fits ty v = true) (hl : k < fs.length) (hdg : decode cc pc = .ok (.putfield index, 3)) (kk : ∀ (H1 : Heap) (locs1 : List Loc), XW D A K ad (kup ct κ (.inr (ci, fs.set k v))) H1 → va_S A H0 H1 locs1 → W p l e R s m args below meth c H1 locs1 cells slots Q (F0 m (pc + 3) ls rest)) : W p l e R s m args below meth c H locs cells slots Q (F0 m pc ls (v :: .ref (ad κ) :: rest)) := by
  obtain ⟨i, hi0, hi⟩ := xl_get (ad := ad) (ct := ct) hκ
  refine va_putF M.hx M.hb M.hts hin ty0 hty hnm M.hown M.hK hW.1 hW.2 hS i (by rw [hi, he]) hc k hk hlink hsame hfin hin2 hdecl hd hn hfit hl hdg (fun H1 locs1 hP hD hS => ?_)
  have e := xl_set hW hi0 (.inr (ci, fs.set k v))
  rw [e] at hP hD
  exact kk H1 locs1 ⟨hP, hD⟩ hS
def upI (f : Nat → Int) (k : Nat) (v : Int) : Nat → Int := fun j => if j = k then v else f j
theorem z_iald (M : MF p s m args c cc nL own D ca) (hW : XW D A K ad ct H) (hκ : κ ∈ K) {n : Nat} {a : Nat → Int} (he : ct κ = .inl (ca 0, n, .inl (fun j => iN (a j)))) {i : Int} (h0 : 0 ≤ i) (h1 : i < n) (hn : n < 2147483648) (hdg : decode cc pc = .ok (.iaload, 1)) (kk : W p l e R s m args below meth c H locs cells slots Q (F0 m (pc + 1) ls (.int (iN (a i.toNat)) :: rest))) : W p l e R s m args below meth c H locs cells slots Q (F0 m pc ls (.int (iN i) :: .ref (ad κ) :: rest)) := by
  obtain ⟨j, -, hj⟩ := xl_get (ad := ad) (ct := ct) hκ
  refine va_iald M.hx M.hb M.hK hW.1 j 0 (by rw [hj, he]) rfl (iN_in h0 h1 hn) hdg ?_
  rw [iN_clamp h0 (by omega)]
  exact kk
theorem z_zald (M : MF p s m args c cc nL own D ca) (hW : XW D A K ad ct H) (hκ : κ ∈ K) {n : Nat} {a : Nat → Int} (he : ct κ = .inl (ca 1, n, .inl (fun j => iN (a j)))) {i : Int} (h0 : 0 ≤ i) (h1 : i < n) (hn : n < 2147483648) (hdg : decode cc pc = .ok (.baload, 1)) (kk : W p l e R s m args below meth c H locs cells slots Q (F0 m (pc + 1) ls (.int (iN (a i.toNat)) :: rest))) : W p l e R s m args below meth c H locs cells slots Q (F0 m pc ls (.int (iN i) :: .ref (ad κ) :: rest)) := by
  obtain ⟨j, -, hj⟩ := xl_get (ad := ad) (ct := ct) hκ
  refine va_zald M.hx M.hb M.hK hW.1 j 1 (by rw [hj, he]) rfl (iN_in h0 h1 hn) hdg ?_
  rw [iN_clamp h0 (by omega)]
  exact kk
theorem z_iast (M : MF p s m args c cc nL own D ca) (hW : XW D A K ad ct H) (hS : va_S A H0 H locs) (hκ : κ ∈ K) {n : Nat} {a : Nat → Int} (he : ct κ = .inl (ca 0, n, .inl (fun j => iN (a j)))) {i x : Int} (h0 : 0 ≤ i) (h1 : i < n) (hn : n < 2147483648) (hdg : decode cc pc = .ok (.iastore, 1)) (kk : ∀ (H1 : Heap) (locs1 : List Loc), XW D A K ad (kup ct κ (.inl (ca 0, n, .inl (fun j => iN (upI a i.toNat x j))))) H1 → va_S A H0 H1 locs1 → W p l e R s m args below meth c H1 locs1 cells slots Q (F0 m (pc + 1) ls rest)) : W p l e R s m args below meth c H locs cells slots Q (F0 m pc ls (.int (iN x) :: .int (iN i) :: .ref (ad κ) :: rest)) := by
  obtain ⟨j, hj0, hj⟩ := xl_get (ad := ad) (ct := ct) hκ
  refine va_iast M.hx M.hb M.hK hW.1 hW.2 hS j 0 (by rw [hj, he]) rfl (iN_in h0 h1 hn) hdg (fun H1 locs1 hP hD hS => ?_)
  have ef : (upd (fun j => iN (a j)) (iN i).toNatClampNeg (iN x)) = fun j => iN (upI a i.toNat x j) := by
    rw [iN_clamp h0 (by omega)]
    funext q
    unfold upd upI
    by_cases hq : q = i.toNat
    · rw [if_pos hq, if_pos hq]
    · rw [if_neg hq, if_neg hq]
  rw [ef] at hP hD
  rw [xl_set hW hj0] at hP hD
  exact kk H1 locs1 ⟨hP, hD⟩ hS
theorem z_zast (M : MF p s m args c cc nL own D ca) (hW : XW D A K ad ct H) (hS : va_S A H0 H locs) (hκ : κ ∈ K) {n : Nat} {a : Nat → Int} (he : ct κ = .inl (ca 1, n, .inl (fun j => iN (a j)))) {i x : Int} (h0 : 0 ≤ i) (h1 : i < n) (hn : n < 2147483648) (hx : x = 0 ∨ x = 1) (hdg : decode cc pc = .ok (.bastore, 1)) (kk : ∀ (H1 : Heap) (locs1 : List Loc), XW D A K ad (kup ct κ (.inl (ca 1, n, .inl (fun j => iN (upI a i.toNat x j))))) H1 → va_S A H0 H1 locs1 → W p l e R s m args below meth c H1 locs1 cells slots Q (F0 m (pc + 1) ls rest)) : W p l e R s m args below meth c H locs cells slots Q (F0 m pc ls (.int (iN x) :: .int (iN i) :: .ref (ad κ) :: rest)) := by
  obtain ⟨j, hj0, hj⟩ := xl_get (ad := ad) (ct := ct) hκ
  have en : vp_nar .boolean (iN x) = iN x := by rcases hx with rfl | rfl <;> decide +kernel
  refine va_zast M.hx M.hb M.hK hW.1 hW.2 hS j 1 (by rw [hj, he]) rfl (iN_in h0 h1 hn) hdg (fun H1 locs1 hP hD hS => ?_)
  have ef : (upd (fun j => iN (a j)) (iN i).toNatClampNeg (vp_nar .boolean (iN x))) = fun j => iN (upI a i.toNat x j) := by
    rw [iN_clamp h0 (by omega), en]
    funext q
    unfold upd upI
    by_cases hq : q = i.toNat
    · rw [if_pos hq, if_pos hq]
    · rw [if_neg hq, if_neg hq]
  rw [ef] at hP hD
  rw [xl_set hW hj0] at hP hD
  exact kk H1 locs1 ⟨hP, hD⟩ hS
theorem z_qald (M : MF p s m args c cc nL own D ca) (hW : XW D A K ad ct H) (hκ : κ ∈ K) {n t0 : Nat} {C : String} {f : Nat → Option Nat} (he : ct κ = .inl (ca t0, n, .inr (.inr (.inr (.inr f))))) (ht : (tysL ca)[t0]? = some (ca t0, .object C)) {i : Int} (h0 : 0 ≤ i) (h1 : i < n) (hn : n < 2147483648) (hdg : decode cc pc = .ok (.aaload, 1)) (kk : W p l e R s m args below meth c H locs cells slots Q (F0 m (pc + 1) ls (va_rf (f i.toNat) :: rest))) : W p l e R s m args below meth c H locs cells slots Q (F0 m pc ls (.int (iN i) :: .ref (ad κ) :: rest)) := by
  obtain ⟨j, -, hj⟩ := xl_get (ad := ad) (ct := ct) hκ
  refine va_aldq M.hx M.hb M.hK hW.1 j t0 (by rw [hj, he]) ht (iN_in h0 h1 hn) hdg ?_
  rw [iN_clamp h0 (by omega)]
  exact kk
theorem z_qast (M : MF p s m args c cc nL own D ca) (hW : XW D A K ad ct H) (hS : va_S A H0 H locs) (hκ : κ ∈ K) {n t0 ci : Nat} {r : vw_C} {f : Nat → Option Nat} (he : ct κ = .inl (ca t0, n, .inr (.inr (.inr (.inr f))))) (ht : (tysL ca)[t0]? = some (ca t0, .object r.1)) {κ2 : nKey} (hκ2 : κ2 ∈ K) {fs : List Value} (he2 : ct κ2 = .inr (ci, fs)) (hc : vwCl[ci]? = some r) {i : Int} (h0 : 0 ≤ i) (h1 : i < n) (hn : n < 2147483648) (hdg : decode cc pc = .ok (.aastore, 1)) (kk : ∀ (H1 : Heap) (locs1 : List Loc), XW D A K ad (kup ct κ (.inl (ca t0, n, .inr (.inr (.inr (.inr (va_up f i.toNat (some (ad κ2))))))))) H1 → va_S A H0 H1 locs1 → W p l e R s m args below meth c H1 locs1 cells slots Q (F0 m (pc + 1) ls rest)) : W p l e R s m args below meth c H locs cells slots Q (F0 m pc ls (.ref (ad κ2) :: .int (iN i) :: .ref (ad κ) :: rest)) := by
  obtain ⟨j, hj0, hj⟩ := xl_get (ad := ad) (ct := ct) hκ
  obtain ⟨j2, -, hj2⟩ := xl_get (ad := ad) (ct := ct) hκ2
  refine va_astq M.hx M.hb M.hK hW.1 hW.2 hS j t0 j2 ci (by rw [hj, he]) ht (by rw [hj2, he2]) hc (iN_in h0 h1 hn) hdg (fun H1 locs1 hP hD hS => ?_)
  rw [iN_clamp h0 (by omega)] at hP hD
  rw [xl_set hW hj0] at hP hD
  exact kk H1 locs1 ⟨hP, hD⟩ hS
theorem z_recv (M : MF p s m args c cc nL own D ca) (hW : XW D A K ad ct H) (hκ : κ ∈ K) {ci : Nat} {fs : List Value} (he : ct κ = .inr (ci, fs)) {q : vw_C} (hc : vwCl[ci]? = some q) : ∃ cell : Cell, H[ad κ]? = some cell ∧ cell.vm.isStatics = false ∧ s.vm.findClass q.1 = some cell.cls := by
  obtain ⟨j, -, hj⟩ := xl_get (ad := ad) (ct := ct) hκ
  exact va_recv M.hK hW.1 hc (by rw [hj, he])
theorem zc_of {g : JFrame} {Qa : State → Outcome → State → Prop} {free : Addr → Prop} {mc ms : Nat} (h : va_Run p l e R s m args below meth c H locs cells slots mc ms g rest Qa free) : CallRun p l e R s m args below meth c H locs cells slots mc ms g rest Qa free := by
  intro T hT X
  obtain ⟨v, st₀, t, T', L, h0, X', hL, e1, e2, hq, st⟩ := h T hT X
  exact ⟨v, st₀, t, T', L, h0, X', hL, e1, hq, st⟩
theorem zc_up {S : Type} {vf : S → Option Value} {Wf : S → Heap → Prop} {A1 : Nat → Prop} {g : JFrame} {mc ms : Nat} (hr : CallRun p l e R s m args below meth c H locs cells slots mc ms g rest (fun st o t => (∃ u : S, o = .returned (vf u) ∧ Wf u t.heap) ∧ va_F A1 st t) A1) (hS : va_S A H0 H locs) (hf : ∀ q, A1 q → A q) (kk : ∀ (u : S) (H1 : Heap) (locs1 : List Loc), Wf u H1 → H.size ≤ H1.size → (∀ q : Nat, q < H.size → ¬ A1 q → H1[q]? = H[q]?) → va_S A H0 H1 locs1 → W p l e R s m args below meth c H1 locs1 (cells + mc) (slots + ms) Q ({ g with pc := g.pc + 3, stack := (vf u).toList ++ rest })) : W p l e R s m args below meth c H locs cells slots Q (g) := by
  intro T hT X
  obtain ⟨v, st₀, t, T', L, h0, X', hL, e1, ⟨⟨u, hv, hw⟩, hz, hk⟩, st⟩ := hr T hT X
  cases hv
  rw [h0] at hz hk
  obtain ⟨t2, a1, b1⟩ := kk u t.heap (locs ++ L) hw hz hk
    ⟨Nat.le_trans hS.1 hz, fun q h1 h2 => by rw [hk q (Nat.lt_of_lt_of_le h1 hS.1) (fun z => h2 (hf q z))]; exact hS.2.1 q h1 h2, fun q hq => by
      rcases List.mem_append.mp hq with h | h
      · exact hS.2.2 q h
      · exact hf _ (hL q h)⟩ T' e1 X'
  exact ⟨t2, st t2 a1, b1⟩
theorem zc_VU (M : MF p s m args c cc nL own D ca) {y : MethodName} {bytes : ByteArray} {maxL n index mc ms : Nat} {ret : Option FieldType} {ws : List Cond} {rm : Room} {C : String} {b : Addr} {As : List Value} {B : Heap → Prop} {st0 : List Value} {S : Type} {vf : S → Option Value} {Wf : S → Heap → Prop} {A1 : Nat → Prop} {lv : List (Nat × Value)} (hM : Met l y ws rm (ZP D ca (.ref b :: As) B) (ZU vf Wf A1) mc ms A1) (cw : CallW R s args own C index y bytes maxL ret ws rm mc ms n) (hrv : ∃ cell : Cell, H[b]? = some cell ∧ cell.vm.isStatics = false ∧ s.vm.findClass C = some cell.cls) (hB : B H) (hn : As.length = n) (hsz : lv_has ls nL lv) (hst : st0 = As.reverse ++ .ref b :: rest) (hcat : (rest.map fun v => v.category).sum ≤ 8) (hroom : cells + mc ≤ R.cells ∧ slots + ms ≤ R.slots) (hdg : decode cc pc = .ok (.invokevirtual index, 3)) (hS : va_S A H0 H locs) (hf : ∀ q, A1 q → A q) (kk : ∀ (u : S) (H1 : Heap) (locs1 : List Loc), Wf u H1 → H.size ≤ H1.size → (∀ q : Nat, q < H.size → ¬ A1 q → H1[q]? = H[q]?) → va_S A H0 H1 locs1 → W p l e R s m args below meth c H1 locs1 (cells + mc) (slots + ms) Q (F0 m (pc + 3) ls ((vf u).toList ++ rest))) : W p l e R s m args below meth c H locs cells slots Q (F0 m pc ls st0) :=
  zc_up (W.runV M.1 hM cw ⟨zp_blind, hrv, fun U hU hW => ⟨rfl, by rw [hU]; exact hB, ZK.moved hW M.2⟩⟩ rfl hn hsz.1 hst (lv_room hcat) hdg hroom) hS hf kk
theorem zc_SU (M : MF p s m args c cc nL own D ca) {y : MethodName} {bytes : ByteArray} {maxL n index mc ms : Nat} {ret : Option FieldType} {ws : List Cond} {rm : Room} {C : String} {b : Addr} {As : List Value} {B : Heap → Prop} {st0 : List Value} {S : Type} {vf : S → Option Value} {Wf : S → Heap → Prop} {A1 : Nat → Prop} {lv : List (Nat × Value)} (hM : Met l y ws rm (ZP D ca As B) (ZU vf Wf A1) mc ms A1) (cw : CallB R s args own index y bytes maxL ret ws rm mc ms n ∧ (Cond.static y).before args s = true) (hB : B H) (hn : As.length = n) (hsz : lv_has ls nL lv) (hst : st0 = As.reverse ++ rest) (hcat : (rest.map fun v => v.category).sum ≤ 8) (hroom : cells + mc ≤ R.cells ∧ slots + ms ≤ R.slots) (hdg : decode cc pc = .ok (.invokestatic index, 3)) (hS : va_S A H0 H locs) (hf : ∀ q, A1 q → A q) (kk : ∀ (u : S) (H1 : Heap) (locs1 : List Loc), Wf u H1 → H.size ≤ H1.size → (∀ q : Nat, q < H.size → ¬ A1 q → H1[q]? = H[q]?) → va_S A H0 H1 locs1 → W p l e R s m args below meth c H1 locs1 (cells + mc) (slots + ms) Q (F0 m (pc + 3) ls ((vf u).toList ++ rest))) : W p l e R s m args below meth c H locs cells slots Q (F0 m pc ls st0) :=
  zc_up (W.runS M.1 hM cw ⟨zp_blind, fun U hU hW => ⟨rfl, by rw [hU]; exact hB, ZK.moved hW M.2⟩⟩ rfl hn hsz.1 hst (lv_room hcat) hdg hroom) hS hf kk
theorem zc_IU (M : MF p s m args c cc nL own D ca) {y : MethodName} {bytes : ByteArray} {maxL n index mc ms : Nat} {ret : Option FieldType} {ws : List Cond} {rm : Room} {C : String} {b : Addr} {As : List Value} {B : Heap → Prop} {st0 : List Value} {S : Type} {vf : S → Option Value} {Wf : S → Heap → Prop} {A1 : Nat → Prop} {lv : List (Nat × Value)} (hM : Met l y ws rm (ZP D ca (.ref b :: As) B) (ZU vf Wf A1) mc ms A1) (cw : CallB R s args own index y bytes maxL none ws rm mc ms n ∧ y.name = "<init>" ∧ (Cond.instanceMethod y).before args s = true) (hB : B H) (hn : As.length = n) (hsz : lv_has ls nL lv) (hst : st0 = As.reverse ++ .ref b :: rest) (hcat : (rest.map fun v => v.category).sum ≤ 8) (hroom : cells + mc ≤ R.cells ∧ slots + ms ≤ R.slots) (hdg : decode cc pc = .ok (.invokespecial index, 3)) (hS : va_S A H0 H locs) (hf : ∀ q, A1 q → A q) (kk : ∀ (u : S) (H1 : Heap) (locs1 : List Loc), Wf u H1 → H.size ≤ H1.size → (∀ q : Nat, q < H.size → ¬ A1 q → H1[q]? = H[q]?) → va_S A H0 H1 locs1 → W p l e R s m args below meth c H1 locs1 (cells + mc) (slots + ms) Q (F0 m (pc + 3) ls ((vf u).toList ++ rest))) : W p l e R s m args below meth c H locs cells slots Q (F0 m pc ls st0) :=
  zc_up (W.runI M.1 hM cw ⟨zp_blind, fun U hU hW => ⟨rfl, by rw [hU]; exact hB, ZK.moved hW M.2⟩⟩ rfl hn hsz.1 hst (lv_room hcat) hdg hroom) hS hf kk
theorem zc_SNU (M : MF p s m args c cc nL own D ca) {host : String} {y : MethodName} {bytes : ByteArray} {maxL n index mc ms : Nat} {ret : Option FieldType} {ws : List Cond} {rm : Room} {C : String} {b : Addr} {As : List Value} {B : Heap → Prop} {st0 : List Value} {S : Type} {vf : S → Option Value} {Wf : S → Heap → Prop} {A1 : Nat → Prop} {lv : List (Nat × Value)} (hM : Met l y ws rm (ZP D ca As B) (ZU vf Wf A1) mc ms A1) (cw : va_CN R s args own index y host bytes maxL ret ws rm mc ms n ∧ (Cond.static y).before args s = true) (hB : B H) (hn : As.length = n) (hsz : lv_has ls nL lv) (hst : st0 = As.reverse ++ rest) (hcat : (rest.map fun v => v.category).sum ≤ 8) (hroom : cells + mc ≤ R.cells ∧ slots + ms ≤ R.slots) (hdg : decode cc pc = .ok (.invokestatic index, 3)) (hS : va_S A H0 H locs) (hf : ∀ q, A1 q → A q) (kk : ∀ (u : S) (H1 : Heap) (locs1 : List Loc), Wf u H1 → H.size ≤ H1.size → (∀ q : Nat, q < H.size → ¬ A1 q → H1[q]? = H[q]?) → va_S A H0 H1 locs1 → W p l e R s m args below meth c H1 locs1 (cells + mc) (slots + ms) Q (F0 m (pc + 3) ls ((vf u).toList ++ rest))) : W p l e R s m args below meth c H locs cells slots Q (F0 m pc ls st0) :=
  zc_up (zc_of (va_runSN M.1 hM ⟨cw.1, cw.2, trivial⟩ ⟨zp_blind, fun U hU hW => ⟨rfl, by rw [hU]; exact hB, ZK.moved hW M.2⟩⟩ rfl hn hsz.1 hst (lv_room hcat) hdg hroom)) hS hf kk
theorem zc_INU (M : MF p s m args c cc nL own D ca) {host : String} {y : MethodName} {bytes : ByteArray} {maxL n index mc ms : Nat} {ret : Option FieldType} {ws : List Cond} {rm : Room} {C : String} {b : Addr} {As : List Value} {B : Heap → Prop} {st0 : List Value} {S : Type} {vf : S → Option Value} {Wf : S → Heap → Prop} {A1 : Nat → Prop} {lv : List (Nat × Value)} (hM : Met l y ws rm (ZP D ca (.ref b :: As) B) (ZU vf Wf A1) mc ms A1) (cw : va_CN R s args own index y host bytes maxL none ws rm mc ms n ∧ y.name = "<init>" ∧ (Cond.instanceMethod y).before args s = true) (hB : B H) (hn : As.length = n) (hsz : lv_has ls nL lv) (hst : st0 = As.reverse ++ .ref b :: rest) (hcat : (rest.map fun v => v.category).sum ≤ 8) (hroom : cells + mc ≤ R.cells ∧ slots + ms ≤ R.slots) (hdg : decode cc pc = .ok (.invokespecial index, 3)) (hS : va_S A H0 H locs) (hf : ∀ q, A1 q → A q) (kk : ∀ (u : S) (H1 : Heap) (locs1 : List Loc), Wf u H1 → H.size ≤ H1.size → (∀ q : Nat, q < H.size → ¬ A1 q → H1[q]? = H[q]?) → va_S A H0 H1 locs1 → W p l e R s m args below meth c H1 locs1 (cells + mc) (slots + ms) Q (F0 m (pc + 3) ls ((vf u).toList ++ rest))) : W p l e R s m args below meth c H locs cells slots Q (F0 m pc ls st0) :=
  zc_up (zc_of (va_runIN M.1 hM cw ⟨zp_blind, fun U hU hW => ⟨rfl, by rw [hU]; exact hB, ZK.moved hW M.2⟩⟩ rfl hn hsz.1 hst (lv_room hcat) hdg hroom)) hS hf kk
theorem GU {y : MethodName} {cc : ByteArray} {n : Nat} {r : Option FieldType} (h : Cond.code y cc n r ∈ UW) : GoodIn UW (Cond.code y cc n r :: UW) := fun w hw => by
  rcases List.mem_cons.mp hw with rfl | hw
  · exact ⟨h, good_of_word (UW_good h)⟩
  · exact ⟨hw, good_of_word (UW_good hw)⟩
theorem cuV (M : MF p s m args c cc nL own D ca) {C : String} {y : MethodName} {bytes : ByteArray} {maxL mc ms index : Nat} {ret : Option FieldType} {rm : Room} (n : Nat) (hco : Cond.code y bytes maxL ret ∈ UW) (hml : Cond.methodLink own index y ∈ UW) (hini : Cond.initialized y.cls ∈ UW) (him : Cond.instanceMethod y ∈ UW) (hse : Cond.selects C y y ∈ UW) (hd : y.cls ≠ "java/lang/invoke/MethodHandle" ∧ y.cls ≠ "java/lang/invoke/VarHandle" ∧ (parseMethodDescriptor y.desc).map (fun d => d.parameters.length) = some n) (hrc : rm.cells = mc) (hrs : rm.slots = ms) (hR : rm.frames + 1 ≤ R.frames ∧ 8 + (maxL + 11) + rm.locals ≤ R.locals) : CallW R s args own C index y bytes maxL ret (Cond.code y bytes maxL ret :: UW) rm mc ms n := ⟨callB_of n M.hts (GU hco) rfl hrc hrs (M.hts _ hini) (M.hts _ hml) hd hR, M.hts _ him, M.hts _ hse⟩
theorem cuS (M : MF p s m args c cc nL own D ca) {y : MethodName} {bytes : ByteArray} {maxL mc ms index : Nat} {ret : Option FieldType} {rm : Room} (n : Nat) (hco : Cond.code y bytes maxL ret ∈ UW) (hml : Cond.methodLink own index y ∈ UW) (hini : Cond.initialized y.cls ∈ UW) (hst : Cond.static y ∈ UW) (hd : y.cls ≠ "java/lang/invoke/MethodHandle" ∧ y.cls ≠ "java/lang/invoke/VarHandle" ∧ (parseMethodDescriptor y.desc).map (fun d => d.parameters.length) = some n) (hrc : rm.cells = mc) (hrs : rm.slots = ms) (hR : rm.frames + 1 ≤ R.frames ∧ 8 + (maxL + 11) + rm.locals ≤ R.locals) : CallB R s args own index y bytes maxL ret (Cond.code y bytes maxL ret :: UW) rm mc ms n ∧ (Cond.static y).before args s = true := ⟨callB_of n M.hts (GU hco) rfl hrc hrs (M.hts _ hini) (M.hts _ hml) hd hR, M.hts _ hst⟩
end ZG
end
section
/-! raw states: ints by key and place, references by key and place -/
abbrev nS : Type := (nKey → Nat → Int) × (nKey → Nat → Option Nat)
def w (z : Int) : Int := (iN z).toInt
theorem w_of {z : Int} (h : iR z) : w z = z := iN_to h
theorem w_R (z : Int) : iR (w z) := iR_toInt (iN z)
theorem w_iN (z : Int) : iN (w z) = iN z := iN_self (iN z)
def s1 (σ : nS) (κ : nKey) (k : Nat) (v : Int) : nS := (kup σ.1 κ (upI (σ.1 κ) k v), σ.2)
def s2 (σ : nS) (κ : nKey) (k : Nat) (v : Option Nat) : nS := (σ.1, kup σ.2 κ (va_up (σ.2 κ) k v))
def mLen (k : Nat) : Nat := match k with
  | 0 => 64
  | 1 => 6
  | 2 => 6
  | 3 => 6
  | 4 => 6
  | 5 => 6
  | 6 => 6
  | 7 => 6
  | 8 => 6
  | 9 => 6
  | 10 => 6
  | 11 => 40
  | 12 => 40
  | 13 => 40
  | 14 => 40
  | 15 => 40
  | 16 => 40
  | 17 => 7680
  | 18 => 40
  | 19 => 8
  | 20 => 3
  | 21 => 3
  | 22 => 3
  | 23 => 3
  | 24 => 3
  | 25 => 3
  | 26 => 3
  | _ => 3
def zRefs (ad : nKey → Nat) (kd : Nat) (r : Nat → Option Nat) : Nat → Option Nat := fun j => (r j).map (fun q => ad (kd, q, 0))
def fX0 (ad : nKey → Nat) (q : Nat) (f : Nat → Int) : List Value := [.ref (ad (5, q, 0)), .ref (ad (5, q, 1)), .ref (ad (5, q, 2)), .ref (ad (5, q, 3)), .ref (ad (5, q, 4)), .int (iN (f 5)), .int (iN (f 6)), .int (iN (f 7))]
def fX1 (ad : nKey → Nat) (q : Nat) (f : Nat → Int) : List Value := [.int (iN (f 0)), .int (iN (f 1)), .int (iN (f 2)), .int (iN (f 3)), .int (iN (f 4)), .int (iN (f 5)), .int (iN (f 6)), .int (iN (f 7))]
def fX2 (ad : nKey → Nat) (q : Nat) (f : Nat → Int) : List Value := [.int (iN (f 0)), .int (iN (f 1)), .int (iN (f 2)), .int (iN (f 3)), .int (iN (f 4)), .ref (ad (9, q, 0)), .int (iN (f 6)), .int (iN (f 7)), .int (iN (f 8))]
def fX3 (ad : nKey → Nat) (q : Nat) (f : Nat → Int) : List Value := [.int (iN (f 0)), .int (iN (f 1)), .int (iN (f 2)), .int (iN (f 3)), .int (iN (f 4)), .ref (ad (7, q, 0)), .int (iN (f 6)), .int (iN (f 7)), .int (iN (f 8)), .int (iN (f 9)), .int (iN (f 10))]
def fX4 (ad : nKey → Nat) (q : Nat) (f : Nat → Int) : List Value := [.ref (ad (1, 0, 0)), .ref (ad (2, 0, 0)), .ref (ad (3, 0, 0)), .ref (ad (4, 0, 0)), .ref (ad (4, 1, 0)), .int (iN (f 5)), .int (iN (f 6)), .int (iN (f 7)), .int (iN (f 8)), .int (iN (f 9))]
def fX5 (ad : nKey → Nat) (q : Nat) (f : Nat → Int) : List Value := [.ref (ad (12, 0, 0)), .int (iN (f 1)), .ref (ad (12, 1, 0)), .ref (ad (12, 2, 0)), .ref (ad (12, 3, 0)), .ref (ad (12, 4, 0)), .ref (ad (12, 5, 0)), .ref (ad (12, 6, 0)), .ref (ad (12, 7, 0)), .ref (ad (12, 8, 0)), .ref (ad (12, 9, 0)), .ref (ad (12, 10, 0)), .int (iN (f 12)), .int (iN (f 13)), .ref (ad (12, 11, 0)), .ref (ad (12, 12, 0)), .ref (ad (12, 13, 0)), .ref (ad (12, 14, 0)), .ref (ad (12, 15, 0)), .ref (ad (12, 16, 0)), .int (iN (f 20)), .int (iN (f 21)), .ref (ad (12, 17, 0)), .ref (ad (12, 18, 0)), .int (iN (f 24)), .ref (ad (12, 19, 0)), .ref (ad (12, 20, 0)), .ref (ad (12, 21, 0)), .ref (ad (12, 22, 0)), .ref (ad (12, 23, 0)), .ref (ad (12, 24, 0)), .ref (ad (12, 25, 0)), .ref (ad (12, 26, 0)), .ref (ad (12, 27, 0)), .int (iN (f 34))]
def cE (ca : Nat → ClassId) (ad : nKey → Nat) (κ : nKey) (f : Nat → Int) (r : Nat → Option Nat) : va_E := match κ.1 with
  | 0 => .inr (4, fX4 ad 0 f)
  | 1 => .inl (ca 0, 64, .inl (fun j => iN (f j)))
  | 2 => .inl (ca 2, 6, .inr (.inr (.inr (.inr (zRefs ad 6 r)))))
  | 3 => .inl (ca 3, 40, .inr (.inr (.inr (.inr (zRefs ad 8 r)))))
  | 4 => .inr (0, fX0 ad κ.2.1 f)
  | 5 => .inl (ca 0, 3, .inl (fun j => iN (f j)))
  | 6 => .inr (3, fX3 ad κ.2.1 f)
  | 7 => .inl (ca 0, 64, .inl (fun j => iN (f j)))
  | 8 => .inr (2, fX2 ad κ.2.1 f)
  | 9 => .inl (ca 4, 18, .inr (.inr (.inr (.inr (zRefs ad 10 r)))))
  | 10 => .inr (1, fX1 ad κ.2.1 f)
  | 11 => .inr (5, fX5 ad 0 f)
  | 12 => .inl (if κ.2.1 = 8 then ca 1 else ca 0, mLen κ.2.1, .inl (fun j => iN (f j)))
  | _ => .inl (ca 5, 1, .inr (.inl (fun j => (iN (f j)).toInt64)))
def cR (ca : Nat → ClassId) (ad : nKey → Nat) (σ : nS) : nKey → va_E := fun κ => cE ca ad κ (σ.1 κ) (σ.2 κ)
theorem cR_1 (ca : Nat → ClassId) (ad : nKey → Nat) (σ : nS) (κ : nKey) (k : Nat) (v : Int) : kup (cR ca ad σ) κ (cE ca ad κ (upI (σ.1 κ) k v) (σ.2 κ)) = cR ca ad (s1 σ κ k v) := by
  funext j
  unfold kup cR s1
  by_cases h : j = κ
  · subst h
    simp [kup]
  · simp [kup, h]
theorem cR_2 (ca : Nat → ClassId) (ad : nKey → Nat) (σ : nS) (κ : nKey) (k : Nat) (v : Option Nat) : kup (cR ca ad σ) κ (cE ca ad κ (σ.1 κ) (va_up (σ.2 κ) k v)) = cR ca ad (s2 σ κ k v) := by
  funext j
  unfold kup cR s2
  by_cases h : j = κ
  · subst h
    simp [kup]
  · simp [kup, h]
theorem XW.to {D : va_G} {A : Nat → Prop} {K : List nKey} {ad : nKey → Nat} {ct ct' : nKey → va_E} {H : Heap} (h : XW D A K ad ct H) (e : ct = ct') : XW D A K ad ct' H := e ▸ h
/-- which cells are there -/
def KC (K : List nKey) : Prop := ((0, 0, 0) ∈ K ∧ (1, 0, 0) ∈ K ∧ (2, 0, 0) ∈ K ∧ (3, 0, 0) ∈ K) ∧ (∀ z, z < 2 → (4, z, 0) ∈ K) ∧ (∀ z f, z < 2 → f < 5 → (5, z, f) ∈ K) ∧ (∀ q, (6, q, 0) ∈ K → (7, q, 0) ∈ K) ∧ (∀ q, (8, q, 0) ∈ K → (9, q, 0) ∈ K) ∧ (11, 0, 0) ∈ K ∧ (∀ k, k < 28 → (12, k, 0) ∈ K)
theorem KC.k0 {K : List nKey} (h : KC K) : (0, 0, 0) ∈ K := h.1.1
theorem KC.k1 {K : List nKey} (h : KC K) : (1, 0, 0) ∈ K := h.1.2.1
theorem KC.k2 {K : List nKey} (h : KC K) : (2, 0, 0) ∈ K := h.1.2.2.1
theorem KC.k3 {K : List nKey} (h : KC K) : (3, 0, 0) ∈ K := h.1.2.2.2
theorem KC.k4 {K : List nKey} (h : KC K) {z : Nat} (hz : z < 2) : (4, z, 0) ∈ K := h.2.1 z hz
theorem KC.k5 {K : List nKey} (h : KC K) {z f : Nat} (hz : z < 2) (hf : f < 5) : (5, z, f) ∈ K := h.2.2.1 z f hz hf
theorem KC.k7 {K : List nKey} (h : KC K) {q : Nat} (hq : (6, q, 0) ∈ K) : (7, q, 0) ∈ K := h.2.2.2.1 q hq
theorem KC.k9 {K : List nKey} (h : KC K) {q : Nat} (hq : (8, q, 0) ∈ K) : (9, q, 0) ∈ K := h.2.2.2.2.1 q hq
theorem KC.k11 {K : List nKey} (h : KC K) : (11, 0, 0) ∈ K := h.2.2.2.2.2.1
theorem KC.k12 {K : List nKey} (h : KC K) {k : Nat} (hk : k < 28) : (12, k, 0) ∈ K := h.2.2.2.2.2.2 k hk
def zrf (ad : nKey → Nat) (kd : Nat) (r : Option Nat) : Value := match r with
  | none => .null
  | some q => .ref (ad (kd, q, 0))
theorem zRefs_rf (ad : nKey → Nat) (kd : Nat) (r : Nat → Option Nat) (j : Nat) : va_rf (zRefs ad kd r j) = zrf ad kd (r j) := by
  unfold zRefs zrf
  cases r j <;> rfl
theorem zRefs_up (ad : nKey → Nat) (kd : Nat) (r : Nat → Option Nat) (j q : Nat) : va_up (zRefs ad kd r) j (some (ad (kd, q, 0))) = zRefs ad kd (va_up r j (some q)) := by
  funext i
  unfold zRefs va_up
  by_cases h : i = j <;> simp [h]
def mxI (a b : Int) : Int := if w a < w b then b else a
def andI (a b : Int) : Int := (iN a &&& iN b).toInt
def orI (a b : Int) : Int := (iN a ||| iN b).toInt
def shlI (a b : Int) : Int := (iN a <<< (iN b &&& 31)).toInt
def shrI (a b : Int) : Int := (iN a >>> (iN b &&& 31)).toInt
/-- a method's end -/
def ZB (D : va_G) (K : List nKey) (ad : nKey → Nat) (ca : Nat → ClassId) (σ : nS) (sz : Nat) : Heap → Prop := fun H => H.size = sz ∧ XW D (fun _ => True) K ad (cR ca ad σ) H
def ZE {S : Type} (D : va_G) (K : List nKey) (ad : nKey → Nat) (ca : Nat → ClassId) (sz : Nat) (pr : S → nS) (k : S → Prop) : S → Heap → Prop := fun u H => k u ∧ XW D (FA K ad sz) K ad (cR ca ad (pr u)) H
abbrev ZQi (D : va_G) (K : List nKey) (ad : nKey → Nat) (ca : Nat → ClassId) (sz : Nat) (k : Int → nS → Prop) : Array Value → State → Outcome → State → Prop := ZU (S := Int × nS) (fun u => some (.int (iN u.1))) (ZE D K ad ca sz (fun u => u.2) (fun u => k u.1 u.2)) (FA K ad sz)
abbrev ZQv (D : va_G) (K : List nKey) (ad : nKey → Nat) (ca : Nat → ClassId) (sz : Nat) (k : nS → Prop) : Array Value → State → Outcome → State → Prop := ZU (S := nS) (fun _ => none) (ZE D K ad ca sz (fun u => u) k) (FA K ad sz)
abbrev ZQq (D : va_G) (K : List nKey) (ad : nKey → Nat) (ca : Nat → ClassId) (sz kd : Nat) (k : Option Nat → nS → Prop) : Array Value → State → Outcome → State → Prop := ZU (S := Option Nat × nS) (fun u => some (zrf ad kd u.1)) (ZE D K ad ca sz (fun u => u.2) (fun u => k u.1 u.2)) (FA K ad sz)
section ZH
variable {p : Program} {l : Launch} {e : Env} {R : Room} {s : State} {m : MethodId} {args : Array Value} {below : List Frame} {meth : Method} {c : Code} {H : Heap} {locs : List Loc} {cells slots : Nat} {Q : State → Prop}
variable {cc : ByteArray} {pc : Nat} {ls : Array Slot} {rest : List Value} {D : va_G} {ca : Nat → ClassId} {A : Nat → Prop} {H0 : Heap} {nL : Nat} {own : String} {K : List nKey} {ad : nKey → Nat} {σ : nS} {κ : nKey}
theorem zw_eq (M : MF p s m args c cc nL own D ca) {a b a' b' off : Int} {tgt : Nat} (hdg : decode cc pc = .ok (.if_icmp .eq off, 3)) (ht : (pc : Int) + off = (tgt : Int)) (ha : w a = a') (hb : w b = b') (k1 : a' = b' → W p l e R s m args below meth c H locs cells slots Q (F0 m tgt ls rest)) (k2 : a' ≠ b' → W p l e R s m args below meth c H locs cells slots Q (F0 m (pc + 3) ls rest)) : W p l e R s m args below meth c H locs cells slots Q (F0 m pc ls (.int (iN b) :: .int (iN a) :: rest)) := by
  rw [← w_iN a, ← w_iN b, ha, hb]
  exact zj_eq M hdg ht (ha ▸ w_R a) (hb ▸ w_R b) k1 k2
theorem zv_eq (M : MF p s m args c cc nL own D ca) {a a' off : Int} {tgt : Nat} (hdg : decode cc pc = .ok (.ifCond .eq off, 3)) (ht : (pc : Int) + off = (tgt : Int)) (ha : w a = a') (k1 : a' = 0 → W p l e R s m args below meth c H locs cells slots Q (F0 m tgt ls rest)) (k2 : a' ≠ 0 → W p l e R s m args below meth c H locs cells slots Q (F0 m (pc + 3) ls rest)) : W p l e R s m args below meth c H locs cells slots Q (F0 m pc ls (.int (iN a) :: rest)) := by
  rw [← w_iN a, ha]
  exact zz_eq M hdg ht (ha ▸ w_R a) k1 k2
theorem zw_ne (M : MF p s m args c cc nL own D ca) {a b a' b' off : Int} {tgt : Nat} (hdg : decode cc pc = .ok (.if_icmp .ne off, 3)) (ht : (pc : Int) + off = (tgt : Int)) (ha : w a = a') (hb : w b = b') (k1 : a' ≠ b' → W p l e R s m args below meth c H locs cells slots Q (F0 m tgt ls rest)) (k2 : a' = b' → W p l e R s m args below meth c H locs cells slots Q (F0 m (pc + 3) ls rest)) : W p l e R s m args below meth c H locs cells slots Q (F0 m pc ls (.int (iN b) :: .int (iN a) :: rest)) := by
  rw [← w_iN a, ← w_iN b, ha, hb]
  exact zj_ne M hdg ht (ha ▸ w_R a) (hb ▸ w_R b) k1 k2
theorem zv_ne (M : MF p s m args c cc nL own D ca) {a a' off : Int} {tgt : Nat} (hdg : decode cc pc = .ok (.ifCond .ne off, 3)) (ht : (pc : Int) + off = (tgt : Int)) (ha : w a = a') (k1 : a' ≠ 0 → W p l e R s m args below meth c H locs cells slots Q (F0 m tgt ls rest)) (k2 : a' = 0 → W p l e R s m args below meth c H locs cells slots Q (F0 m (pc + 3) ls rest)) : W p l e R s m args below meth c H locs cells slots Q (F0 m pc ls (.int (iN a) :: rest)) := by
  rw [← w_iN a, ha]
  exact zz_ne M hdg ht (ha ▸ w_R a) k1 k2
theorem zw_lt (M : MF p s m args c cc nL own D ca) {a b a' b' off : Int} {tgt : Nat} (hdg : decode cc pc = .ok (.if_icmp .lt off, 3)) (ht : (pc : Int) + off = (tgt : Int)) (ha : w a = a') (hb : w b = b') (k1 : a' < b' → W p l e R s m args below meth c H locs cells slots Q (F0 m tgt ls rest)) (k2 : b' ≤ a' → W p l e R s m args below meth c H locs cells slots Q (F0 m (pc + 3) ls rest)) : W p l e R s m args below meth c H locs cells slots Q (F0 m pc ls (.int (iN b) :: .int (iN a) :: rest)) := by
  rw [← w_iN a, ← w_iN b, ha, hb]
  exact zj_lt M hdg ht (ha ▸ w_R a) (hb ▸ w_R b) k1 k2
theorem zv_lt (M : MF p s m args c cc nL own D ca) {a a' off : Int} {tgt : Nat} (hdg : decode cc pc = .ok (.ifCond .lt off, 3)) (ht : (pc : Int) + off = (tgt : Int)) (ha : w a = a') (k1 : a' < 0 → W p l e R s m args below meth c H locs cells slots Q (F0 m tgt ls rest)) (k2 : 0 ≤ a' → W p l e R s m args below meth c H locs cells slots Q (F0 m (pc + 3) ls rest)) : W p l e R s m args below meth c H locs cells slots Q (F0 m pc ls (.int (iN a) :: rest)) := by
  rw [← w_iN a, ha]
  exact zz_lt M hdg ht (ha ▸ w_R a) k1 k2
theorem zw_ge (M : MF p s m args c cc nL own D ca) {a b a' b' off : Int} {tgt : Nat} (hdg : decode cc pc = .ok (.if_icmp .ge off, 3)) (ht : (pc : Int) + off = (tgt : Int)) (ha : w a = a') (hb : w b = b') (k1 : b' ≤ a' → W p l e R s m args below meth c H locs cells slots Q (F0 m tgt ls rest)) (k2 : a' < b' → W p l e R s m args below meth c H locs cells slots Q (F0 m (pc + 3) ls rest)) : W p l e R s m args below meth c H locs cells slots Q (F0 m pc ls (.int (iN b) :: .int (iN a) :: rest)) := by
  rw [← w_iN a, ← w_iN b, ha, hb]
  exact zj_ge M hdg ht (ha ▸ w_R a) (hb ▸ w_R b) k1 k2
theorem zv_ge (M : MF p s m args c cc nL own D ca) {a a' off : Int} {tgt : Nat} (hdg : decode cc pc = .ok (.ifCond .ge off, 3)) (ht : (pc : Int) + off = (tgt : Int)) (ha : w a = a') (k1 : 0 ≤ a' → W p l e R s m args below meth c H locs cells slots Q (F0 m tgt ls rest)) (k2 : a' < 0 → W p l e R s m args below meth c H locs cells slots Q (F0 m (pc + 3) ls rest)) : W p l e R s m args below meth c H locs cells slots Q (F0 m pc ls (.int (iN a) :: rest)) := by
  rw [← w_iN a, ha]
  exact zz_ge M hdg ht (ha ▸ w_R a) k1 k2
theorem zw_gt (M : MF p s m args c cc nL own D ca) {a b a' b' off : Int} {tgt : Nat} (hdg : decode cc pc = .ok (.if_icmp .gt off, 3)) (ht : (pc : Int) + off = (tgt : Int)) (ha : w a = a') (hb : w b = b') (k1 : b' < a' → W p l e R s m args below meth c H locs cells slots Q (F0 m tgt ls rest)) (k2 : a' ≤ b' → W p l e R s m args below meth c H locs cells slots Q (F0 m (pc + 3) ls rest)) : W p l e R s m args below meth c H locs cells slots Q (F0 m pc ls (.int (iN b) :: .int (iN a) :: rest)) := by
  rw [← w_iN a, ← w_iN b, ha, hb]
  exact zj_gt M hdg ht (ha ▸ w_R a) (hb ▸ w_R b) k1 k2
theorem zv_gt (M : MF p s m args c cc nL own D ca) {a a' off : Int} {tgt : Nat} (hdg : decode cc pc = .ok (.ifCond .gt off, 3)) (ht : (pc : Int) + off = (tgt : Int)) (ha : w a = a') (k1 : 0 < a' → W p l e R s m args below meth c H locs cells slots Q (F0 m tgt ls rest)) (k2 : a' ≤ 0 → W p l e R s m args below meth c H locs cells slots Q (F0 m (pc + 3) ls rest)) : W p l e R s m args below meth c H locs cells slots Q (F0 m pc ls (.int (iN a) :: rest)) := by
  rw [← w_iN a, ha]
  exact zz_gt M hdg ht (ha ▸ w_R a) k1 k2
theorem zw_le (M : MF p s m args c cc nL own D ca) {a b a' b' off : Int} {tgt : Nat} (hdg : decode cc pc = .ok (.if_icmp .le off, 3)) (ht : (pc : Int) + off = (tgt : Int)) (ha : w a = a') (hb : w b = b') (k1 : a' ≤ b' → W p l e R s m args below meth c H locs cells slots Q (F0 m tgt ls rest)) (k2 : b' < a' → W p l e R s m args below meth c H locs cells slots Q (F0 m (pc + 3) ls rest)) : W p l e R s m args below meth c H locs cells slots Q (F0 m pc ls (.int (iN b) :: .int (iN a) :: rest)) := by
  rw [← w_iN a, ← w_iN b, ha, hb]
  exact zj_le M hdg ht (ha ▸ w_R a) (hb ▸ w_R b) k1 k2
theorem zv_le (M : MF p s m args c cc nL own D ca) {a a' off : Int} {tgt : Nat} (hdg : decode cc pc = .ok (.ifCond .le off, 3)) (ht : (pc : Int) + off = (tgt : Int)) (ha : w a = a') (k1 : a' ≤ 0 → W p l e R s m args below meth c H locs cells slots Q (F0 m tgt ls rest)) (k2 : 0 < a' → W p l e R s m args below meth c H locs cells slots Q (F0 m (pc + 3) ls rest)) : W p l e R s m args below meth c H locs cells slots Q (F0 m pc ls (.int (iN a) :: rest)) := by
  rw [← w_iN a, ha]
  exact zz_le M hdg ht (ha ▸ w_R a) k1 k2
theorem zo_and (M : MF p s m args c cc nL own D ca) {a b : Int} (hdg : decode cc pc = .ok (.iand, 1)) (k : W p l e R s m args below meth c H locs cells slots Q (F0 m (pc + 1) ls (.int (iN (andI a b)) :: rest))) : W p l e R s m args below meth c H locs cells slots Q (F0 m pc ls (.int (iN b) :: .int (iN a) :: rest)) := lv_iand M.hx M.hb hdg (by unfold andI at k; rw [iN_self] at k; exact k)
theorem zo_or (M : MF p s m args c cc nL own D ca) {a b : Int} (hdg : decode cc pc = .ok (.ior, 1)) (k : W p l e R s m args below meth c H locs cells slots Q (F0 m (pc + 1) ls (.int (iN (orI a b)) :: rest))) : W p l e R s m args below meth c H locs cells slots Q (F0 m pc ls (.int (iN b) :: .int (iN a) :: rest)) := lv_ior M.hx M.hb hdg (by unfold orI at k; rw [iN_self] at k; exact k)
theorem zo_shl (M : MF p s m args c cc nL own D ca) {a b : Int} (hdg : decode cc pc = .ok (.ishl, 1)) (k : W p l e R s m args below meth c H locs cells slots Q (F0 m (pc + 1) ls (.int (iN (shlI a b)) :: rest))) : W p l e R s m args below meth c H locs cells slots Q (F0 m pc ls (.int (iN b) :: .int (iN a) :: rest)) := lv_ishl M.hx M.hb hdg (by unfold shlI at k; rw [iN_self] at k; exact k)
theorem zo_shr (M : MF p s m args c cc nL own D ca) {a b : Int} (hdg : decode cc pc = .ok (.ishr, 1)) (k : W p l e R s m args below meth c H locs cells slots Q (F0 m (pc + 1) ls (.int (iN (shrI a b)) :: rest))) : W p l e R s m args below meth c H locs cells slots Q (F0 m pc ls (.int (iN b) :: .int (iN a) :: rest)) := lv_ishr M.hx M.hb hdg (by unfold shrI at k; rw [iN_self] at k; exact k)
theorem zi_ldc (M : MF p s m args c cc nL own D ca) {index : Nat} (v : Int) (hc : (Cond.constant own index (iN v)).before args s = true) (hdg : decode cc pc = .ok (.ldc index, 2)) (k : W p l e R s m args below meth c H locs cells slots Q (F0 m (pc + 2) ls (.int (iN v) :: rest))) : W p l e R s m args below meth c H locs cells slots Q (F0 m pc ls rest) := lv_ldc M.hx M.hb M.hown hc hdg k
theorem zi_nm {a : Int} (k : ∀ x, x = a → W p l e R s m args below meth c H locs cells slots Q (F0 m pc ls (.int (iN x) :: rest))) : W p l e R s m args below meth c H locs cells slots Q (F0 m pc ls (.int (iN a) :: rest)) := k a rfl
theorem zi_max (M : MF p s m args c cc nL own D ca) {lv : List (Nat × Value)} (hl : lv_has ls nL lv) {index : Nat} (hlink : (Cond.methodLink own index Lib.Math.max.name).before args s = true) (hstat : (Cond.static Lib.Math.max.name).before args s = true) (hini : (Cond.initialized "java/lang/Math").before args s = true) (hcode : (Cond.code Lib.Math.max.name Lib.Math.max.code 2 (some .int)).before args s = true) (hframes : 1 ≤ R.frames) (hlocals : (rest.map fun v => v.category).sum + 13 ≤ R.locals) (hc : cells ≤ R.cells) (hs : slots ≤ R.slots) {a b : Int} (hdg : decode cc pc = .ok (.invokestatic index, 3)) (kk : W p l e R s m args below meth c H locs cells slots Q (F0 m (pc + 3) ls (.int (iN (mxI a b)) :: rest))) : W p l e R s m args below meth c H locs cells slots Q (F0 m pc ls (.int (iN b) :: .int (iN a) :: rest)) := by
  refine va_mmax M.hx M.hb (by rw [M.hml, hl.1]) M.hown hlink hstat hini hcode hframes hlocals hc hs hdg ?_
  have e : (if iN a < iN b then iN b else iN a) = iN (mxI a b) := by
    unfold mxI w
    by_cases h : iN a < iN b
    · rw [if_pos h, if_pos (Int32.lt_iff_toInt_lt.mp h)]
    · rw [if_neg h, if_neg (fun q => h (Int32.lt_iff_toInt_lt.mpr q))]
  rw [e]
  exact kk
theorem z_tin (M : MF p s m args c cc nL own D ca) {dflt lo hi : Int} {offs : Array Int} {len : Nat} {x off : Int} {tgt : Nat} (i : Int) (hdg : decode cc pc = .ok (.tableswitch dflt lo hi offs, len)) (hx : w x = i) (h1 : lo ≤ i) (h2 : i ≤ hi) (ho : offs[(i - lo).toNat]? = some off) (ht : (pc : Int) + off = (tgt : Int)) (k : W p l e R s m args below meth c H locs cells slots Q (F0 m tgt ls rest)) : W p l e R s m args below meth c H locs cells slots Q (F0 m pc ls (.int (iN x) :: rest)) := lv_tableIn M.hx M.hb hdg (by show ¬ w x < lo; rw [hx]; omega) (by show ¬ hi < w x; rw [hx]; omega) (by show offs[(w x - lo).toNat]? = some off; rw [hx]; exact ho) ht k
theorem z_tout (M : MF p s m args c cc nL own D ca) {dflt lo hi : Int} {offs : Array Int} {len : Nat} {x : Int} {tgt : Nat} (hdg : decode cc pc = .ok (.tableswitch dflt lo hi offs, len)) (h : w x < lo ∨ hi < w x) (ht : (pc : Int) + dflt = (tgt : Int)) (k : W p l e R s m args below meth c H locs cells slots Q (F0 m tgt ls rest)) : W p l e R s m args below meth c H locs cells slots Q (F0 m pc ls (.int (iN x) :: rest)) := lv_tableOut M.hx M.hb hdg h ht k
theorem z_look (M : MF p s m args c cc nL own D ca) {dflt : Int} {ps : Array (Int × Int)} {len : Nat} {x off : Int} {tgt : Nat} (hdg : decode cc pc = .ok (.lookupswitch dflt ps, len)) (hp : (ps.toList.zip (ps.toList.drop 1)).all (fun (a, next) => a.1 < next.1) = true) (ho : Op.lookupswitch.offset ps.toList dflt (w x) = off) (ht : (pc : Int) + off = (tgt : Int)) (k : W p l e R s m args below meth c H locs cells slots Q (F0 m tgt ls rest)) : W p l e R s m args below meth c H locs cells slots Q (F0 m pc ls (.int (iN x) :: rest)) := lv_lookup M.hx M.hb hdg hp ho ht k
theorem zg_X0_0 (M : MF p s m args c cc nL own D ca) (hin : ∀ w ∈ u_ws RX0 TX0 8, w ∈ UW) (hW : XW D A K ad (cR ca ad σ) H) {q : Nat} (hκ : (4, q, 0) ∈ K) {index : Nat} (hf : (Cond.fieldLink own index "NightRiders$Chain" "riders" "[I").before args s = true) (hdg : decode cc pc = .ok (.getfield index, 3)) (kk : W p l e R s m args below meth c H locs cells slots Q (F0 m (pc + 3) ls (.ref (ad (5, q, 0)) :: rest))) : W p l e R s m args below meth c H locs cells slots Q (F0 m pc ls (.ref (ad (4, q, 0)) :: rest)) := z_get (ci := 0) (C := RX0) (T := TX0) (N := 8) (fs := fX0 ad q (σ.1 (4, q, 0))) M hin hW hκ rfl rfl 0 (by decide) hf (fun _ h => h) rfl hdg kk
theorem zg_X0_1 (M : MF p s m args c cc nL own D ca) (hin : ∀ w ∈ u_ws RX0 TX0 8, w ∈ UW) (hW : XW D A K ad (cR ca ad σ) H) {q : Nat} (hκ : (4, q, 0) ∈ K) {index : Nat} (hf : (Cond.fieldLink own index "NightRiders$Chain" "froms" "[I").before args s = true) (hdg : decode cc pc = .ok (.getfield index, 3)) (kk : W p l e R s m args below meth c H locs cells slots Q (F0 m (pc + 3) ls (.ref (ad (5, q, 1)) :: rest))) : W p l e R s m args below meth c H locs cells slots Q (F0 m pc ls (.ref (ad (4, q, 0)) :: rest)) := z_get (ci := 0) (C := RX0) (T := TX0) (N := 8) (fs := fX0 ad q (σ.1 (4, q, 0))) M hin hW hκ rfl rfl 1 (by decide) hf (fun _ h => h) rfl hdg kk
theorem zg_X0_2 (M : MF p s m args c cc nL own D ca) (hin : ∀ w ∈ u_ws RX0 TX0 8, w ∈ UW) (hW : XW D A K ad (cR ca ad σ) H) {q : Nat} (hκ : (4, q, 0) ∈ K) {index : Nat} (hf : (Cond.fieldLink own index "NightRiders$Chain" "tos" "[I").before args s = true) (hdg : decode cc pc = .ok (.getfield index, 3)) (kk : W p l e R s m args below meth c H locs cells slots Q (F0 m (pc + 3) ls (.ref (ad (5, q, 2)) :: rest))) : W p l e R s m args below meth c H locs cells slots Q (F0 m pc ls (.ref (ad (4, q, 0)) :: rest)) := z_get (ci := 0) (C := RX0) (T := TX0) (N := 8) (fs := fX0 ad q (σ.1 (4, q, 0))) M hin hW hκ rfl rfl 2 (by decide) hf (fun _ h => h) rfl hdg kk
theorem zg_X0_3 (M : MF p s m args c cc nL own D ca) (hin : ∀ w ∈ u_ws RX0 TX0 8, w ∈ UW) (hW : XW D A K ad (cR ca ad σ) H) {q : Nat} (hκ : (4, q, 0) ∈ K) {index : Nat} (hf : (Cond.fieldLink own index "NightRiders$Chain" "starts" "[I").before args s = true) (hdg : decode cc pc = .ok (.getfield index, 3)) (kk : W p l e R s m args below meth c H locs cells slots Q (F0 m (pc + 3) ls (.ref (ad (5, q, 3)) :: rest))) : W p l e R s m args below meth c H locs cells slots Q (F0 m pc ls (.ref (ad (4, q, 0)) :: rest)) := z_get (ci := 0) (C := RX0) (T := TX0) (N := 8) (fs := fX0 ad q (σ.1 (4, q, 0))) M hin hW hκ rfl rfl 3 (by decide) hf (fun _ h => h) rfl hdg kk
theorem zg_X0_4 (M : MF p s m args c cc nL own D ca) (hin : ∀ w ∈ u_ws RX0 TX0 8, w ∈ UW) (hW : XW D A K ad (cR ca ad σ) H) {q : Nat} (hκ : (4, q, 0) ∈ K) {index : Nat} (hf : (Cond.fieldLink own index "NightRiders$Chain" "ends" "[I").before args s = true) (hdg : decode cc pc = .ok (.getfield index, 3)) (kk : W p l e R s m args below meth c H locs cells slots Q (F0 m (pc + 3) ls (.ref (ad (5, q, 4)) :: rest))) : W p l e R s m args below meth c H locs cells slots Q (F0 m pc ls (.ref (ad (4, q, 0)) :: rest)) := z_get (ci := 0) (C := RX0) (T := TX0) (N := 8) (fs := fX0 ad q (σ.1 (4, q, 0))) M hin hW hκ rfl rfl 4 (by decide) hf (fun _ h => h) rfl hdg kk
theorem zg_X0_5 (M : MF p s m args c cc nL own D ca) (hin : ∀ w ∈ u_ws RX0 TX0 8, w ∈ UW) (hW : XW D A K ad (cR ca ad σ) H) {q : Nat} (hκ : (4, q, 0) ∈ K) {index : Nat} (hf : (Cond.fieldLink own index "NightRiders$Chain" "length" "I").before args s = true) (hdg : decode cc pc = .ok (.getfield index, 3)) (kk : W p l e R s m args below meth c H locs cells slots Q (F0 m (pc + 3) ls (.int (iN (σ.1 (4, q, 0) 5)) :: rest))) : W p l e R s m args below meth c H locs cells slots Q (F0 m pc ls (.ref (ad (4, q, 0)) :: rest)) := z_get (ci := 0) (C := RX0) (T := TX0) (N := 8) (fs := fX0 ad q (σ.1 (4, q, 0))) M hin hW hκ rfl rfl 5 (by decide) hf (fun _ h => h) rfl hdg kk
theorem zp_X0_5 (M : MF p s m args c cc nL own D ca) (hin : ∀ w ∈ u_ws RX0 TX0 8, w ∈ UW) (hW : XW D A K ad (cR ca ad σ) H) (hS : va_S A H0 H locs) {q : Nat} (hκ : (4, q, 0) ∈ K) {index : Nat} (hf : (Cond.fieldLink own index "NightRiders$Chain" "length" "I").before args s = true) {v : Int} (hdg : decode cc pc = .ok (.putfield index, 3)) (kk : ∀ (H1 : Heap) (locs1 : List Loc), XW D A K ad (cR ca ad (s1 σ (4, q, 0) 5 v)) H1 → va_S A H0 H1 locs1 → W p l e R s m args below meth c H1 locs1 cells slots Q (F0 m (pc + 3) ls rest)) : W p l e R s m args below meth c H locs cells slots Q (F0 m pc ls (.int (iN v) :: .ref (ad (4, q, 0)) :: rest)) := z_put (ci := 0) (C := RX0) (T := TX0) (N := 8) (fs := fX0 ad q (σ.1 (4, q, 0))) (ty := .int) M hin hW hκ rfl rfl 5 (by decide) hf (fun _ h => h) tyX0 tyX0_ok nmX0 hS rfl (by decide +kernel) rfl rfl (Nat.le_of_ble_eq_true rfl) hdg (fun H1 locs1 hW1 hS1 => kk H1 locs1 (hW1.to (cR_1 ca ad σ (4, q, 0) 5 v)) hS1)
theorem zg_X0_6 (M : MF p s m args c cc nL own D ca) (hin : ∀ w ∈ u_ws RX0 TX0 8, w ∈ UW) (hW : XW D A K ad (cR ca ad σ) H) {q : Nat} (hκ : (4, q, 0) ∈ K) {index : Nat} (hf : (Cond.fieldLink own index "NightRiders$Chain" "kind" "I").before args s = true) (hdg : decode cc pc = .ok (.getfield index, 3)) (kk : W p l e R s m args below meth c H locs cells slots Q (F0 m (pc + 3) ls (.int (iN (σ.1 (4, q, 0) 6)) :: rest))) : W p l e R s m args below meth c H locs cells slots Q (F0 m pc ls (.ref (ad (4, q, 0)) :: rest)) := z_get (ci := 0) (C := RX0) (T := TX0) (N := 8) (fs := fX0 ad q (σ.1 (4, q, 0))) M hin hW hκ rfl rfl 6 (by decide) hf (fun _ h => h) rfl hdg kk
theorem zp_X0_6 (M : MF p s m args c cc nL own D ca) (hin : ∀ w ∈ u_ws RX0 TX0 8, w ∈ UW) (hW : XW D A K ad (cR ca ad σ) H) (hS : va_S A H0 H locs) {q : Nat} (hκ : (4, q, 0) ∈ K) {index : Nat} (hf : (Cond.fieldLink own index "NightRiders$Chain" "kind" "I").before args s = true) {v : Int} (hdg : decode cc pc = .ok (.putfield index, 3)) (kk : ∀ (H1 : Heap) (locs1 : List Loc), XW D A K ad (cR ca ad (s1 σ (4, q, 0) 6 v)) H1 → va_S A H0 H1 locs1 → W p l e R s m args below meth c H1 locs1 cells slots Q (F0 m (pc + 3) ls rest)) : W p l e R s m args below meth c H locs cells slots Q (F0 m pc ls (.int (iN v) :: .ref (ad (4, q, 0)) :: rest)) := z_put (ci := 0) (C := RX0) (T := TX0) (N := 8) (fs := fX0 ad q (σ.1 (4, q, 0))) (ty := .int) M hin hW hκ rfl rfl 6 (by decide) hf (fun _ h => h) tyX0 tyX0_ok nmX0 hS rfl (by decide +kernel) rfl rfl (Nat.le_of_ble_eq_true rfl) hdg (fun H1 locs1 hW1 hS1 => kk H1 locs1 (hW1.to (cR_1 ca ad σ (4, q, 0) 6 v)) hS1)
theorem zg_X0_7 (M : MF p s m args c cc nL own D ca) (hin : ∀ w ∈ u_ws RX0 TX0 8, w ∈ UW) (hW : XW D A K ad (cR ca ad σ) H) {q : Nat} (hκ : (4, q, 0) ∈ K) {index : Nat} (hf : (Cond.fieldLink own index "NightRiders$Chain" "goal" "I").before args s = true) (hdg : decode cc pc = .ok (.getfield index, 3)) (kk : W p l e R s m args below meth c H locs cells slots Q (F0 m (pc + 3) ls (.int (iN (σ.1 (4, q, 0) 7)) :: rest))) : W p l e R s m args below meth c H locs cells slots Q (F0 m pc ls (.ref (ad (4, q, 0)) :: rest)) := z_get (ci := 0) (C := RX0) (T := TX0) (N := 8) (fs := fX0 ad q (σ.1 (4, q, 0))) M hin hW hκ rfl rfl 7 (by decide) hf (fun _ h => h) rfl hdg kk
theorem zp_X0_7 (M : MF p s m args c cc nL own D ca) (hin : ∀ w ∈ u_ws RX0 TX0 8, w ∈ UW) (hW : XW D A K ad (cR ca ad σ) H) (hS : va_S A H0 H locs) {q : Nat} (hκ : (4, q, 0) ∈ K) {index : Nat} (hf : (Cond.fieldLink own index "NightRiders$Chain" "goal" "I").before args s = true) {v : Int} (hdg : decode cc pc = .ok (.putfield index, 3)) (kk : ∀ (H1 : Heap) (locs1 : List Loc), XW D A K ad (cR ca ad (s1 σ (4, q, 0) 7 v)) H1 → va_S A H0 H1 locs1 → W p l e R s m args below meth c H1 locs1 cells slots Q (F0 m (pc + 3) ls rest)) : W p l e R s m args below meth c H locs cells slots Q (F0 m pc ls (.int (iN v) :: .ref (ad (4, q, 0)) :: rest)) := z_put (ci := 0) (C := RX0) (T := TX0) (N := 8) (fs := fX0 ad q (σ.1 (4, q, 0))) (ty := .int) M hin hW hκ rfl rfl 7 (by decide) hf (fun _ h => h) tyX0 tyX0_ok nmX0 hS rfl (by decide +kernel) rfl rfl (Nat.le_of_ble_eq_true rfl) hdg (fun H1 locs1 hW1 hS1 => kk H1 locs1 (hW1.to (cR_1 ca ad σ (4, q, 0) 7 v)) hS1)
theorem zg_X1_0 (M : MF p s m args c cc nL own D ca) (hin : ∀ w ∈ u_ws RX1 TX1 8, w ∈ UW) (hW : XW D A K ad (cR ca ad σ) H) {q : Nat} (hκ : (10, q, 0) ∈ K) {index : Nat} (hf : (Cond.fieldLink own index "NightRiders$Leg" "rider" "I").before args s = true) (hdg : decode cc pc = .ok (.getfield index, 3)) (kk : W p l e R s m args below meth c H locs cells slots Q (F0 m (pc + 3) ls (.int (iN (σ.1 (10, q, 0) 0)) :: rest))) : W p l e R s m args below meth c H locs cells slots Q (F0 m pc ls (.ref (ad (10, q, 0)) :: rest)) := z_get (ci := 1) (C := RX1) (T := TX1) (N := 8) (fs := fX1 ad q (σ.1 (10, q, 0))) M hin hW hκ rfl rfl 0 (by decide) hf (fun _ h => h) rfl hdg kk
theorem zg_X1_1 (M : MF p s m args c cc nL own D ca) (hin : ∀ w ∈ u_ws RX1 TX1 8, w ∈ UW) (hW : XW D A K ad (cR ca ad σ) H) {q : Nat} (hκ : (10, q, 0) ∈ K) {index : Nat} (hf : (Cond.fieldLink own index "NightRiders$Leg" "from" "I").before args s = true) (hdg : decode cc pc = .ok (.getfield index, 3)) (kk : W p l e R s m args below meth c H locs cells slots Q (F0 m (pc + 3) ls (.int (iN (σ.1 (10, q, 0) 1)) :: rest))) : W p l e R s m args below meth c H locs cells slots Q (F0 m pc ls (.ref (ad (10, q, 0)) :: rest)) := z_get (ci := 1) (C := RX1) (T := TX1) (N := 8) (fs := fX1 ad q (σ.1 (10, q, 0))) M hin hW hκ rfl rfl 1 (by decide) hf (fun _ h => h) rfl hdg kk
theorem zg_X1_2 (M : MF p s m args c cc nL own D ca) (hin : ∀ w ∈ u_ws RX1 TX1 8, w ∈ UW) (hW : XW D A K ad (cR ca ad σ) H) {q : Nat} (hκ : (10, q, 0) ∈ K) {index : Nat} (hf : (Cond.fieldLink own index "NightRiders$Leg" "starts" "I").before args s = true) (hdg : decode cc pc = .ok (.getfield index, 3)) (kk : W p l e R s m args below meth c H locs cells slots Q (F0 m (pc + 3) ls (.int (iN (σ.1 (10, q, 0) 2)) :: rest))) : W p l e R s m args below meth c H locs cells slots Q (F0 m pc ls (.ref (ad (10, q, 0)) :: rest)) := z_get (ci := 1) (C := RX1) (T := TX1) (N := 8) (fs := fX1 ad q (σ.1 (10, q, 0))) M hin hW hκ rfl rfl 2 (by decide) hf (fun _ h => h) rfl hdg kk
theorem zg_X1_3 (M : MF p s m args c cc nL own D ca) (hin : ∀ w ∈ u_ws RX1 TX1 8, w ∈ UW) (hW : XW D A K ad (cR ca ad σ) H) {q : Nat} (hκ : (10, q, 0) ∈ K) {index : Nat} (hf : (Cond.fieldLink own index "NightRiders$Leg" "atAhead" "I").before args s = true) (hdg : decode cc pc = .ok (.getfield index, 3)) (kk : W p l e R s m args below meth c H locs cells slots Q (F0 m (pc + 3) ls (.int (iN (σ.1 (10, q, 0) 3)) :: rest))) : W p l e R s m args below meth c H locs cells slots Q (F0 m pc ls (.ref (ad (10, q, 0)) :: rest)) := z_get (ci := 1) (C := RX1) (T := TX1) (N := 8) (fs := fX1 ad q (σ.1 (10, q, 0))) M hin hW hκ rfl rfl 3 (by decide) hf (fun _ h => h) rfl hdg kk
theorem zg_X1_4 (M : MF p s m args c cc nL own D ca) (hin : ∀ w ∈ u_ws RX1 TX1 8, w ∈ UW) (hW : XW D A K ad (cR ca ad σ) H) {q : Nat} (hκ : (10, q, 0) ∈ K) {index : Nat} (hf : (Cond.fieldLink own index "NightRiders$Leg" "freeAhead" "I").before args s = true) (hdg : decode cc pc = .ok (.getfield index, 3)) (kk : W p l e R s m args below meth c H locs cells slots Q (F0 m (pc + 3) ls (.int (iN (σ.1 (10, q, 0) 4)) :: rest))) : W p l e R s m args below meth c H locs cells slots Q (F0 m pc ls (.ref (ad (10, q, 0)) :: rest)) := z_get (ci := 1) (C := RX1) (T := TX1) (N := 8) (fs := fX1 ad q (σ.1 (10, q, 0))) M hin hW hκ rfl rfl 4 (by decide) hf (fun _ h => h) rfl hdg kk
theorem zg_X1_5 (M : MF p s m args c cc nL own D ca) (hin : ∀ w ∈ u_ws RX1 TX1 8, w ∈ UW) (hW : XW D A K ad (cR ca ad σ) H) {q : Nat} (hκ : (10, q, 0) ∈ K) {index : Nat} (hf : (Cond.fieldLink own index "NightRiders$Leg" "to" "I").before args s = true) (hdg : decode cc pc = .ok (.getfield index, 3)) (kk : W p l e R s m args below meth c H locs cells slots Q (F0 m (pc + 3) ls (.int (iN (σ.1 (10, q, 0) 5)) :: rest))) : W p l e R s m args below meth c H locs cells slots Q (F0 m pc ls (.ref (ad (10, q, 0)) :: rest)) := z_get (ci := 1) (C := RX1) (T := TX1) (N := 8) (fs := fX1 ad q (σ.1 (10, q, 0))) M hin hW hκ rfl rfl 5 (by decide) hf (fun _ h => h) rfl hdg kk
theorem zp_X1_5 (M : MF p s m args c cc nL own D ca) (hin : ∀ w ∈ u_ws RX1 TX1 8, w ∈ UW) (hW : XW D A K ad (cR ca ad σ) H) (hS : va_S A H0 H locs) {q : Nat} (hκ : (10, q, 0) ∈ K) {index : Nat} (hf : (Cond.fieldLink own index "NightRiders$Leg" "to" "I").before args s = true) {v : Int} (hdg : decode cc pc = .ok (.putfield index, 3)) (kk : ∀ (H1 : Heap) (locs1 : List Loc), XW D A K ad (cR ca ad (s1 σ (10, q, 0) 5 v)) H1 → va_S A H0 H1 locs1 → W p l e R s m args below meth c H1 locs1 cells slots Q (F0 m (pc + 3) ls rest)) : W p l e R s m args below meth c H locs cells slots Q (F0 m pc ls (.int (iN v) :: .ref (ad (10, q, 0)) :: rest)) := z_put (ci := 1) (C := RX1) (T := TX1) (N := 8) (fs := fX1 ad q (σ.1 (10, q, 0))) (ty := .int) M hin hW hκ rfl rfl 5 (by decide) hf (fun _ h => h) tyX1 tyX1_ok nmX1 hS rfl (by decide +kernel) rfl rfl (Nat.le_of_ble_eq_true rfl) hdg (fun H1 locs1 hW1 hS1 => kk H1 locs1 (hW1.to (cR_1 ca ad σ (10, q, 0) 5 v)) hS1)
theorem zg_X1_6 (M : MF p s m args c cc nL own D ca) (hin : ∀ w ∈ u_ws RX1 TX1 8, w ∈ UW) (hW : XW D A K ad (cR ca ad σ) H) {q : Nat} (hκ : (10, q, 0) ∈ K) {index : Nat} (hf : (Cond.fieldLink own index "NightRiders$Leg" "ends" "I").before args s = true) (hdg : decode cc pc = .ok (.getfield index, 3)) (kk : W p l e R s m args below meth c H locs cells slots Q (F0 m (pc + 3) ls (.int (iN (σ.1 (10, q, 0) 6)) :: rest))) : W p l e R s m args below meth c H locs cells slots Q (F0 m pc ls (.ref (ad (10, q, 0)) :: rest)) := z_get (ci := 1) (C := RX1) (T := TX1) (N := 8) (fs := fX1 ad q (σ.1 (10, q, 0))) M hin hW hκ rfl rfl 6 (by decide) hf (fun _ h => h) rfl hdg kk
theorem zp_X1_6 (M : MF p s m args c cc nL own D ca) (hin : ∀ w ∈ u_ws RX1 TX1 8, w ∈ UW) (hW : XW D A K ad (cR ca ad σ) H) (hS : va_S A H0 H locs) {q : Nat} (hκ : (10, q, 0) ∈ K) {index : Nat} (hf : (Cond.fieldLink own index "NightRiders$Leg" "ends" "I").before args s = true) {v : Int} (hdg : decode cc pc = .ok (.putfield index, 3)) (kk : ∀ (H1 : Heap) (locs1 : List Loc), XW D A K ad (cR ca ad (s1 σ (10, q, 0) 6 v)) H1 → va_S A H0 H1 locs1 → W p l e R s m args below meth c H1 locs1 cells slots Q (F0 m (pc + 3) ls rest)) : W p l e R s m args below meth c H locs cells slots Q (F0 m pc ls (.int (iN v) :: .ref (ad (10, q, 0)) :: rest)) := z_put (ci := 1) (C := RX1) (T := TX1) (N := 8) (fs := fX1 ad q (σ.1 (10, q, 0))) (ty := .int) M hin hW hκ rfl rfl 6 (by decide) hf (fun _ h => h) tyX1 tyX1_ok nmX1 hS rfl (by decide +kernel) rfl rfl (Nat.le_of_ble_eq_true rfl) hdg (fun H1 locs1 hW1 hS1 => kk H1 locs1 (hW1.to (cR_1 ca ad σ (10, q, 0) 6 v)) hS1)
theorem zg_X1_7 (M : MF p s m args c cc nL own D ca) (hin : ∀ w ∈ u_ws RX1 TX1 8, w ∈ UW) (hW : XW D A K ad (cR ca ad σ) H) {q : Nat} (hκ : (10, q, 0) ∈ K) {index : Nat} (hf : (Cond.fieldLink own index "NightRiders$Leg" "failed" "Z").before args s = true) (hdg : decode cc pc = .ok (.getfield index, 3)) (kk : W p l e R s m args below meth c H locs cells slots Q (F0 m (pc + 3) ls (.int (iN (σ.1 (10, q, 0) 7)) :: rest))) : W p l e R s m args below meth c H locs cells slots Q (F0 m pc ls (.ref (ad (10, q, 0)) :: rest)) := z_get (ci := 1) (C := RX1) (T := TX1) (N := 8) (fs := fX1 ad q (σ.1 (10, q, 0))) M hin hW hκ rfl rfl 7 (by decide) hf (fun _ h => h) rfl hdg kk
theorem zp_X1_7 (M : MF p s m args c cc nL own D ca) (hin : ∀ w ∈ u_ws RX1 TX1 8, w ∈ UW) (hW : XW D A K ad (cR ca ad σ) H) (hS : va_S A H0 H locs) {q : Nat} (hκ : (10, q, 0) ∈ K) {index : Nat} (hf : (Cond.fieldLink own index "NightRiders$Leg" "failed" "Z").before args s = true) {v : Int} (hv : v = 0 ∨ v = 1) (hdg : decode cc pc = .ok (.putfield index, 3)) (kk : ∀ (H1 : Heap) (locs1 : List Loc), XW D A K ad (cR ca ad (s1 σ (10, q, 0) 7 v)) H1 → va_S A H0 H1 locs1 → W p l e R s m args below meth c H1 locs1 cells slots Q (F0 m (pc + 3) ls rest)) : W p l e R s m args below meth c H locs cells slots Q (F0 m pc ls (.int (iN v) :: .ref (ad (10, q, 0)) :: rest)) := z_put (ci := 1) (C := RX1) (T := TX1) (N := 8) (fs := fX1 ad q (σ.1 (10, q, 0))) (ty := .boolean) M hin hW hκ rfl rfl 7 (by decide) hf (fun _ h => h) tyX1 tyX1_ok nmX1 hS rfl (by decide +kernel) (by rcases hv with rfl | rfl <;> rfl) (by rcases hv with rfl | rfl <;> rfl) (Nat.le_of_ble_eq_true rfl) hdg (fun H1 locs1 hW1 hS1 => kk H1 locs1 (hW1.to (cR_1 ca ad σ (10, q, 0) 7 v)) hS1)
theorem zg_X2_0 (M : MF p s m args c cc nL own D ca) (hin : ∀ w ∈ u_ws RX2 TX2 9, w ∈ UW) (hW : XW D A K ad (cR ca ad σ) H) {q : Nat} (hκ : (8, q, 0) ∈ K) {index : Nat} (hf : (Cond.fieldLink own index "NightRiders$Request" "kind" "I").before args s = true) (hdg : decode cc pc = .ok (.getfield index, 3)) (kk : W p l e R s m args below meth c H locs cells slots Q (F0 m (pc + 3) ls (.int (iN (σ.1 (8, q, 0) 0)) :: rest))) : W p l e R s m args below meth c H locs cells slots Q (F0 m pc ls (.ref (ad (8, q, 0)) :: rest)) := z_get (ci := 2) (C := RX2) (T := TX2) (N := 9) (fs := fX2 ad q (σ.1 (8, q, 0))) M hin hW hκ rfl rfl 0 (by decide) hf (fun _ h => h) rfl hdg kk
theorem zg_X2_1 (M : MF p s m args c cc nL own D ca) (hin : ∀ w ∈ u_ws RX2 TX2 9, w ∈ UW) (hW : XW D A K ad (cR ca ad σ) H) {q : Nat} (hκ : (8, q, 0) ∈ K) {index : Nat} (hf : (Cond.fieldLink own index "NightRiders$Request" "from" "I").before args s = true) (hdg : decode cc pc = .ok (.getfield index, 3)) (kk : W p l e R s m args below meth c H locs cells slots Q (F0 m (pc + 3) ls (.int (iN (σ.1 (8, q, 0) 1)) :: rest))) : W p l e R s m args below meth c H locs cells slots Q (F0 m pc ls (.ref (ad (8, q, 0)) :: rest)) := z_get (ci := 2) (C := RX2) (T := TX2) (N := 9) (fs := fX2 ad q (σ.1 (8, q, 0))) M hin hW hκ rfl rfl 1 (by decide) hf (fun _ h => h) rfl hdg kk
theorem zg_X2_2 (M : MF p s m args c cc nL own D ca) (hin : ∀ w ∈ u_ws RX2 TX2 9, w ∈ UW) (hW : XW D A K ad (cR ca ad σ) H) {q : Nat} (hκ : (8, q, 0) ∈ K) {index : Nat} (hf : (Cond.fieldLink own index "NightRiders$Request" "to" "I").before args s = true) (hdg : decode cc pc = .ok (.getfield index, 3)) (kk : W p l e R s m args below meth c H locs cells slots Q (F0 m (pc + 3) ls (.int (iN (σ.1 (8, q, 0) 2)) :: rest))) : W p l e R s m args below meth c H locs cells slots Q (F0 m pc ls (.ref (ad (8, q, 0)) :: rest)) := z_get (ci := 2) (C := RX2) (T := TX2) (N := 9) (fs := fX2 ad q (σ.1 (8, q, 0))) M hin hW hκ rfl rfl 2 (by decide) hf (fun _ h => h) rfl hdg kk
theorem zg_X2_3 (M : MF p s m args c cc nL own D ca) (hin : ∀ w ∈ u_ws RX2 TX2 9, w ∈ UW) (hW : XW D A K ad (cR ca ad σ) H) {q : Nat} (hκ : (8, q, 0) ∈ K) {index : Nat} (hf : (Cond.fieldLink own index "NightRiders$Request" "ready" "I").before args s = true) (hdg : decode cc pc = .ok (.getfield index, 3)) (kk : W p l e R s m args below meth c H locs cells slots Q (F0 m (pc + 3) ls (.int (iN (σ.1 (8, q, 0) 3)) :: rest))) : W p l e R s m args below meth c H locs cells slots Q (F0 m pc ls (.ref (ad (8, q, 0)) :: rest)) := z_get (ci := 2) (C := RX2) (T := TX2) (N := 9) (fs := fX2 ad q (σ.1 (8, q, 0))) M hin hW hκ rfl rfl 3 (by decide) hf (fun _ h => h) rfl hdg kk
theorem zg_X2_4 (M : MF p s m args c cc nL own D ca) (hin : ∀ w ∈ u_ws RX2 TX2 9, w ∈ UW) (hW : XW D A K ad (cR ca ad σ) H) {q : Nat} (hκ : (8, q, 0) ∈ K) {index : Nat} (hf : (Cond.fieldLink own index "NightRiders$Request" "cold" "I").before args s = true) (hdg : decode cc pc = .ok (.getfield index, 3)) (kk : W p l e R s m args below meth c H locs cells slots Q (F0 m (pc + 3) ls (.int (iN (σ.1 (8, q, 0) 4)) :: rest))) : W p l e R s m args below meth c H locs cells slots Q (F0 m pc ls (.ref (ad (8, q, 0)) :: rest)) := z_get (ci := 2) (C := RX2) (T := TX2) (N := 9) (fs := fX2 ad q (σ.1 (8, q, 0))) M hin hW hκ rfl rfl 4 (by decide) hf (fun _ h => h) rfl hdg kk
theorem zg_X2_5 (M : MF p s m args c cc nL own D ca) (hin : ∀ w ∈ u_ws RX2 TX2 9, w ∈ UW) (hW : XW D A K ad (cR ca ad σ) H) {q : Nat} (hκ : (8, q, 0) ∈ K) {index : Nat} (hf : (Cond.fieldLink own index "NightRiders$Request" "legs" "[LNightRiders$Leg;").before args s = true) (hdg : decode cc pc = .ok (.getfield index, 3)) (kk : W p l e R s m args below meth c H locs cells slots Q (F0 m (pc + 3) ls (.ref (ad (9, q, 0)) :: rest))) : W p l e R s m args below meth c H locs cells slots Q (F0 m pc ls (.ref (ad (8, q, 0)) :: rest)) := z_get (ci := 2) (C := RX2) (T := TX2) (N := 9) (fs := fX2 ad q (σ.1 (8, q, 0))) M hin hW hκ rfl rfl 5 (by decide) hf (fun _ h => h) rfl hdg kk
theorem zg_X2_6 (M : MF p s m args c cc nL own D ca) (hin : ∀ w ∈ u_ws RX2 TX2 9, w ∈ UW) (hW : XW D A K ad (cR ca ad σ) H) {q : Nat} (hκ : (8, q, 0) ∈ K) {index : Nat} (hf : (Cond.fieldLink own index "NightRiders$Request" "legCount" "I").before args s = true) (hdg : decode cc pc = .ok (.getfield index, 3)) (kk : W p l e R s m args below meth c H locs cells slots Q (F0 m (pc + 3) ls (.int (iN (σ.1 (8, q, 0) 6)) :: rest))) : W p l e R s m args below meth c H locs cells slots Q (F0 m pc ls (.ref (ad (8, q, 0)) :: rest)) := z_get (ci := 2) (C := RX2) (T := TX2) (N := 9) (fs := fX2 ad q (σ.1 (8, q, 0))) M hin hW hκ rfl rfl 6 (by decide) hf (fun _ h => h) rfl hdg kk
theorem zp_X2_6 (M : MF p s m args c cc nL own D ca) (hin : ∀ w ∈ u_ws RX2 TX2 9, w ∈ UW) (hW : XW D A K ad (cR ca ad σ) H) (hS : va_S A H0 H locs) {q : Nat} (hκ : (8, q, 0) ∈ K) {index : Nat} (hf : (Cond.fieldLink own index "NightRiders$Request" "legCount" "I").before args s = true) {v : Int} (hdg : decode cc pc = .ok (.putfield index, 3)) (kk : ∀ (H1 : Heap) (locs1 : List Loc), XW D A K ad (cR ca ad (s1 σ (8, q, 0) 6 v)) H1 → va_S A H0 H1 locs1 → W p l e R s m args below meth c H1 locs1 cells slots Q (F0 m (pc + 3) ls rest)) : W p l e R s m args below meth c H locs cells slots Q (F0 m pc ls (.int (iN v) :: .ref (ad (8, q, 0)) :: rest)) := z_put (ci := 2) (C := RX2) (T := TX2) (N := 9) (fs := fX2 ad q (σ.1 (8, q, 0))) (ty := .int) M hin hW hκ rfl rfl 6 (by decide) hf (fun _ h => h) tyX2 tyX2_ok nmX2 hS rfl (by decide +kernel) rfl rfl (Nat.le_of_ble_eq_true rfl) hdg (fun H1 locs1 hW1 hS1 => kk H1 locs1 (hW1.to (cR_1 ca ad σ (8, q, 0) 6 v)) hS1)
theorem zg_X2_7 (M : MF p s m args c cc nL own D ca) (hin : ∀ w ∈ u_ws RX2 TX2 9, w ∈ UW) (hW : XW D A K ad (cR ca ad σ) H) {q : Nat} (hκ : (8, q, 0) ∈ K) {index : Nat} (hf : (Cond.fieldLink own index "NightRiders$Request" "sent" "Z").before args s = true) (hdg : decode cc pc = .ok (.getfield index, 3)) (kk : W p l e R s m args below meth c H locs cells slots Q (F0 m (pc + 3) ls (.int (iN (σ.1 (8, q, 0) 7)) :: rest))) : W p l e R s m args below meth c H locs cells slots Q (F0 m pc ls (.ref (ad (8, q, 0)) :: rest)) := z_get (ci := 2) (C := RX2) (T := TX2) (N := 9) (fs := fX2 ad q (σ.1 (8, q, 0))) M hin hW hκ rfl rfl 7 (by decide) hf (fun _ h => h) rfl hdg kk
theorem zp_X2_7 (M : MF p s m args c cc nL own D ca) (hin : ∀ w ∈ u_ws RX2 TX2 9, w ∈ UW) (hW : XW D A K ad (cR ca ad σ) H) (hS : va_S A H0 H locs) {q : Nat} (hκ : (8, q, 0) ∈ K) {index : Nat} (hf : (Cond.fieldLink own index "NightRiders$Request" "sent" "Z").before args s = true) {v : Int} (hv : v = 0 ∨ v = 1) (hdg : decode cc pc = .ok (.putfield index, 3)) (kk : ∀ (H1 : Heap) (locs1 : List Loc), XW D A K ad (cR ca ad (s1 σ (8, q, 0) 7 v)) H1 → va_S A H0 H1 locs1 → W p l e R s m args below meth c H1 locs1 cells slots Q (F0 m (pc + 3) ls rest)) : W p l e R s m args below meth c H locs cells slots Q (F0 m pc ls (.int (iN v) :: .ref (ad (8, q, 0)) :: rest)) := z_put (ci := 2) (C := RX2) (T := TX2) (N := 9) (fs := fX2 ad q (σ.1 (8, q, 0))) (ty := .boolean) M hin hW hκ rfl rfl 7 (by decide) hf (fun _ h => h) tyX2 tyX2_ok nmX2 hS rfl (by decide +kernel) (by rcases hv with rfl | rfl <;> rfl) (by rcases hv with rfl | rfl <;> rfl) (Nat.le_of_ble_eq_true rfl) hdg (fun H1 locs1 hW1 hS1 => kk H1 locs1 (hW1.to (cR_1 ca ad σ (8, q, 0) 7 v)) hS1)
theorem zg_X2_8 (M : MF p s m args c cc nL own D ca) (hin : ∀ w ∈ u_ws RX2 TX2 9, w ∈ UW) (hW : XW D A K ad (cR ca ad σ) H) {q : Nat} (hκ : (8, q, 0) ∈ K) {index : Nat} (hf : (Cond.fieldLink own index "NightRiders$Request" "lost" "Z").before args s = true) (hdg : decode cc pc = .ok (.getfield index, 3)) (kk : W p l e R s m args below meth c H locs cells slots Q (F0 m (pc + 3) ls (.int (iN (σ.1 (8, q, 0) 8)) :: rest))) : W p l e R s m args below meth c H locs cells slots Q (F0 m pc ls (.ref (ad (8, q, 0)) :: rest)) := z_get (ci := 2) (C := RX2) (T := TX2) (N := 9) (fs := fX2 ad q (σ.1 (8, q, 0))) M hin hW hκ rfl rfl 8 (by decide) hf (fun _ h => h) rfl hdg kk
theorem zp_X2_8 (M : MF p s m args c cc nL own D ca) (hin : ∀ w ∈ u_ws RX2 TX2 9, w ∈ UW) (hW : XW D A K ad (cR ca ad σ) H) (hS : va_S A H0 H locs) {q : Nat} (hκ : (8, q, 0) ∈ K) {index : Nat} (hf : (Cond.fieldLink own index "NightRiders$Request" "lost" "Z").before args s = true) {v : Int} (hv : v = 0 ∨ v = 1) (hdg : decode cc pc = .ok (.putfield index, 3)) (kk : ∀ (H1 : Heap) (locs1 : List Loc), XW D A K ad (cR ca ad (s1 σ (8, q, 0) 8 v)) H1 → va_S A H0 H1 locs1 → W p l e R s m args below meth c H1 locs1 cells slots Q (F0 m (pc + 3) ls rest)) : W p l e R s m args below meth c H locs cells slots Q (F0 m pc ls (.int (iN v) :: .ref (ad (8, q, 0)) :: rest)) := z_put (ci := 2) (C := RX2) (T := TX2) (N := 9) (fs := fX2 ad q (σ.1 (8, q, 0))) (ty := .boolean) M hin hW hκ rfl rfl 8 (by decide) hf (fun _ h => h) tyX2 tyX2_ok nmX2 hS rfl (by decide +kernel) (by rcases hv with rfl | rfl <;> rfl) (by rcases hv with rfl | rfl <;> rfl) (Nat.le_of_ble_eq_true rfl) hdg (fun H1 locs1 hW1 hS1 => kk H1 locs1 (hW1.to (cR_1 ca ad σ (8, q, 0) 8 v)) hS1)
theorem zg_X3_0 (M : MF p s m args c cc nL own D ca) (hin : ∀ w ∈ u_ws RX3 TX3 11, w ∈ UW) (hW : XW D A K ad (cR ca ad σ) H) {q : Nat} (hκ : (6, q, 0) ∈ K) {index : Nat} (hf : (Cond.fieldLink own index "NightRiders$Rider" "home" "I").before args s = true) (hdg : decode cc pc = .ok (.getfield index, 3)) (kk : W p l e R s m args below meth c H locs cells slots Q (F0 m (pc + 3) ls (.int (iN (σ.1 (6, q, 0) 0)) :: rest))) : W p l e R s m args below meth c H locs cells slots Q (F0 m pc ls (.ref (ad (6, q, 0)) :: rest)) := z_get (ci := 3) (C := RX3) (T := TX3) (N := 11) (fs := fX3 ad q (σ.1 (6, q, 0))) M hin hW hκ rfl rfl 0 (by decide) hf (fun _ h => h) rfl hdg kk
theorem zg_X3_1 (M : MF p s m args c cc nL own D ca) (hin : ∀ w ∈ u_ws RX3 TX3 11, w ∈ UW) (hW : XW D A K ad (cR ca ad σ) H) {q : Nat} (hκ : (6, q, 0) ∈ K) {index : Nat} (hf : (Cond.fieldLink own index "NightRiders$Rider" "area" "I").before args s = true) (hdg : decode cc pc = .ok (.getfield index, 3)) (kk : W p l e R s m args below meth c H locs cells slots Q (F0 m (pc + 3) ls (.int (iN (σ.1 (6, q, 0) 1)) :: rest))) : W p l e R s m args below meth c H locs cells slots Q (F0 m pc ls (.ref (ad (6, q, 0)) :: rest)) := z_get (ci := 3) (C := RX3) (T := TX3) (N := 11) (fs := fX3 ad q (σ.1 (6, q, 0))) M hin hW hκ rfl rfl 1 (by decide) hf (fun _ h => h) rfl hdg kk
theorem zg_X3_2 (M : MF p s m args c cc nL own D ca) (hin : ∀ w ∈ u_ws RX3 TX3 11, w ∈ UW) (hW : XW D A K ad (cR ca ad σ) H) {q : Nat} (hκ : (6, q, 0) ∈ K) {index : Nat} (hf : (Cond.fieldLink own index "NightRiders$Rider" "dutyFrom" "I").before args s = true) (hdg : decode cc pc = .ok (.getfield index, 3)) (kk : W p l e R s m args below meth c H locs cells slots Q (F0 m (pc + 3) ls (.int (iN (σ.1 (6, q, 0) 2)) :: rest))) : W p l e R s m args below meth c H locs cells slots Q (F0 m pc ls (.ref (ad (6, q, 0)) :: rest)) := z_get (ci := 3) (C := RX3) (T := TX3) (N := 11) (fs := fX3 ad q (σ.1 (6, q, 0))) M hin hW hκ rfl rfl 2 (by decide) hf (fun _ h => h) rfl hdg kk
theorem zg_X3_3 (M : MF p s m args c cc nL own D ca) (hin : ∀ w ∈ u_ws RX3 TX3 11, w ∈ UW) (hW : XW D A K ad (cR ca ad σ) H) {q : Nat} (hκ : (6, q, 0) ∈ K) {index : Nat} (hf : (Cond.fieldLink own index "NightRiders$Rider" "dutyTo" "I").before args s = true) (hdg : decode cc pc = .ok (.getfield index, 3)) (kk : W p l e R s m args below meth c H locs cells slots Q (F0 m (pc + 3) ls (.int (iN (σ.1 (6, q, 0) 3)) :: rest))) : W p l e R s m args below meth c H locs cells slots Q (F0 m pc ls (.ref (ad (6, q, 0)) :: rest)) := z_get (ci := 3) (C := RX3) (T := TX3) (N := 11) (fs := fX3 ad q (σ.1 (6, q, 0))) M hin hW hκ rfl rfl 3 (by decide) hf (fun _ h => h) rfl hdg kk
theorem zg_X3_4 (M : MF p s m args c cc nL own D ca) (hin : ∀ w ∈ u_ws RX3 TX3 11, w ∈ UW) (hW : XW D A K ad (cR ca ad σ) H) {q : Nat} (hκ : (6, q, 0) ∈ K) {index : Nat} (hf : (Cond.fieldLink own index "NightRiders$Rider" "kinds" "I").before args s = true) (hdg : decode cc pc = .ok (.getfield index, 3)) (kk : W p l e R s m args below meth c H locs cells slots Q (F0 m (pc + 3) ls (.int (iN (σ.1 (6, q, 0) 4)) :: rest))) : W p l e R s m args below meth c H locs cells slots Q (F0 m pc ls (.ref (ad (6, q, 0)) :: rest)) := z_get (ci := 3) (C := RX3) (T := TX3) (N := 11) (fs := fX3 ad q (σ.1 (6, q, 0))) M hin hW hκ rfl rfl 4 (by decide) hf (fun _ h => h) rfl hdg kk
theorem zg_X3_5 (M : MF p s m args c cc nL own D ca) (hin : ∀ w ∈ u_ws RX3 TX3 11, w ∈ UW) (hW : XW D A K ad (cR ca ad σ) H) {q : Nat} (hκ : (6, q, 0) ∈ K) {index : Nat} (hf : (Cond.fieldLink own index "NightRiders$Rider" "ways" "[I").before args s = true) (hdg : decode cc pc = .ok (.getfield index, 3)) (kk : W p l e R s m args below meth c H locs cells slots Q (F0 m (pc + 3) ls (.ref (ad (7, q, 0)) :: rest))) : W p l e R s m args below meth c H locs cells slots Q (F0 m pc ls (.ref (ad (6, q, 0)) :: rest)) := z_get (ci := 3) (C := RX3) (T := TX3) (N := 11) (fs := fX3 ad q (σ.1 (6, q, 0))) M hin hW hκ rfl rfl 5 (by decide) hf (fun _ h => h) rfl hdg kk
theorem zg_X3_6 (M : MF p s m args c cc nL own D ca) (hin : ∀ w ∈ u_ws RX3 TX3 11, w ∈ UW) (hW : XW D A K ad (cR ca ad σ) H) {q : Nat} (hκ : (6, q, 0) ∈ K) {index : Nat} (hf : (Cond.fieldLink own index "NightRiders$Rider" "at" "I").before args s = true) (hdg : decode cc pc = .ok (.getfield index, 3)) (kk : W p l e R s m args below meth c H locs cells slots Q (F0 m (pc + 3) ls (.int (iN (σ.1 (6, q, 0) 6)) :: rest))) : W p l e R s m args below meth c H locs cells slots Q (F0 m pc ls (.ref (ad (6, q, 0)) :: rest)) := z_get (ci := 3) (C := RX3) (T := TX3) (N := 11) (fs := fX3 ad q (σ.1 (6, q, 0))) M hin hW hκ rfl rfl 6 (by decide) hf (fun _ h => h) rfl hdg kk
theorem zp_X3_6 (M : MF p s m args c cc nL own D ca) (hin : ∀ w ∈ u_ws RX3 TX3 11, w ∈ UW) (hW : XW D A K ad (cR ca ad σ) H) (hS : va_S A H0 H locs) {q : Nat} (hκ : (6, q, 0) ∈ K) {index : Nat} (hf : (Cond.fieldLink own index "NightRiders$Rider" "at" "I").before args s = true) {v : Int} (hdg : decode cc pc = .ok (.putfield index, 3)) (kk : ∀ (H1 : Heap) (locs1 : List Loc), XW D A K ad (cR ca ad (s1 σ (6, q, 0) 6 v)) H1 → va_S A H0 H1 locs1 → W p l e R s m args below meth c H1 locs1 cells slots Q (F0 m (pc + 3) ls rest)) : W p l e R s m args below meth c H locs cells slots Q (F0 m pc ls (.int (iN v) :: .ref (ad (6, q, 0)) :: rest)) := z_put (ci := 3) (C := RX3) (T := TX3) (N := 11) (fs := fX3 ad q (σ.1 (6, q, 0))) (ty := .int) M hin hW hκ rfl rfl 6 (by decide) hf (fun _ h => h) tyX3 tyX3_ok nmX3 hS rfl (by decide +kernel) rfl rfl (Nat.le_of_ble_eq_true rfl) hdg (fun H1 locs1 hW1 hS1 => kk H1 locs1 (hW1.to (cR_1 ca ad σ (6, q, 0) 6 v)) hS1)
theorem zg_X3_7 (M : MF p s m args c cc nL own D ca) (hin : ∀ w ∈ u_ws RX3 TX3 11, w ∈ UW) (hW : XW D A K ad (cR ca ad σ) H) {q : Nat} (hκ : (6, q, 0) ∈ K) {index : Nat} (hf : (Cond.fieldLink own index "NightRiders$Rider" "free" "I").before args s = true) (hdg : decode cc pc = .ok (.getfield index, 3)) (kk : W p l e R s m args below meth c H locs cells slots Q (F0 m (pc + 3) ls (.int (iN (σ.1 (6, q, 0) 7)) :: rest))) : W p l e R s m args below meth c H locs cells slots Q (F0 m pc ls (.ref (ad (6, q, 0)) :: rest)) := z_get (ci := 3) (C := RX3) (T := TX3) (N := 11) (fs := fX3 ad q (σ.1 (6, q, 0))) M hin hW hκ rfl rfl 7 (by decide) hf (fun _ h => h) rfl hdg kk
theorem zp_X3_7 (M : MF p s m args c cc nL own D ca) (hin : ∀ w ∈ u_ws RX3 TX3 11, w ∈ UW) (hW : XW D A K ad (cR ca ad σ) H) (hS : va_S A H0 H locs) {q : Nat} (hκ : (6, q, 0) ∈ K) {index : Nat} (hf : (Cond.fieldLink own index "NightRiders$Rider" "free" "I").before args s = true) {v : Int} (hdg : decode cc pc = .ok (.putfield index, 3)) (kk : ∀ (H1 : Heap) (locs1 : List Loc), XW D A K ad (cR ca ad (s1 σ (6, q, 0) 7 v)) H1 → va_S A H0 H1 locs1 → W p l e R s m args below meth c H1 locs1 cells slots Q (F0 m (pc + 3) ls rest)) : W p l e R s m args below meth c H locs cells slots Q (F0 m pc ls (.int (iN v) :: .ref (ad (6, q, 0)) :: rest)) := z_put (ci := 3) (C := RX3) (T := TX3) (N := 11) (fs := fX3 ad q (σ.1 (6, q, 0))) (ty := .int) M hin hW hκ rfl rfl 7 (by decide) hf (fun _ h => h) tyX3 tyX3_ok nmX3 hS rfl (by decide +kernel) rfl rfl (Nat.le_of_ble_eq_true rfl) hdg (fun H1 locs1 hW1 hS1 => kk H1 locs1 (hW1.to (cR_1 ca ad σ (6, q, 0) 7 v)) hS1)
theorem zg_X3_8 (M : MF p s m args c cc nL own D ca) (hin : ∀ w ∈ u_ws RX3 TX3 11, w ∈ UW) (hW : XW D A K ad (cR ca ad σ) H) {q : Nat} (hκ : (6, q, 0) ∈ K) {index : Nat} (hf : (Cond.fieldLink own index "NightRiders$Rider" "legsRidden" "I").before args s = true) (hdg : decode cc pc = .ok (.getfield index, 3)) (kk : W p l e R s m args below meth c H locs cells slots Q (F0 m (pc + 3) ls (.int (iN (σ.1 (6, q, 0) 8)) :: rest))) : W p l e R s m args below meth c H locs cells slots Q (F0 m pc ls (.ref (ad (6, q, 0)) :: rest)) := z_get (ci := 3) (C := RX3) (T := TX3) (N := 11) (fs := fX3 ad q (σ.1 (6, q, 0))) M hin hW hκ rfl rfl 8 (by decide) hf (fun _ h => h) rfl hdg kk
theorem zp_X3_8 (M : MF p s m args c cc nL own D ca) (hin : ∀ w ∈ u_ws RX3 TX3 11, w ∈ UW) (hW : XW D A K ad (cR ca ad σ) H) (hS : va_S A H0 H locs) {q : Nat} (hκ : (6, q, 0) ∈ K) {index : Nat} (hf : (Cond.fieldLink own index "NightRiders$Rider" "legsRidden" "I").before args s = true) {v : Int} (hdg : decode cc pc = .ok (.putfield index, 3)) (kk : ∀ (H1 : Heap) (locs1 : List Loc), XW D A K ad (cR ca ad (s1 σ (6, q, 0) 8 v)) H1 → va_S A H0 H1 locs1 → W p l e R s m args below meth c H1 locs1 cells slots Q (F0 m (pc + 3) ls rest)) : W p l e R s m args below meth c H locs cells slots Q (F0 m pc ls (.int (iN v) :: .ref (ad (6, q, 0)) :: rest)) := z_put (ci := 3) (C := RX3) (T := TX3) (N := 11) (fs := fX3 ad q (σ.1 (6, q, 0))) (ty := .int) M hin hW hκ rfl rfl 8 (by decide) hf (fun _ h => h) tyX3 tyX3_ok nmX3 hS rfl (by decide +kernel) rfl rfl (Nat.le_of_ble_eq_true rfl) hdg (fun H1 locs1 hW1 hS1 => kk H1 locs1 (hW1.to (cR_1 ca ad σ (6, q, 0) 8 v)) hS1)
theorem zg_X3_9 (M : MF p s m args c cc nL own D ca) (hin : ∀ w ∈ u_ws RX3 TX3 11, w ∈ UW) (hW : XW D A K ad (cR ca ad σ) H) {q : Nat} (hκ : (6, q, 0) ∈ K) {index : Nat} (hf : (Cond.fieldLink own index "NightRiders$Rider" "boxMinutes" "I").before args s = true) (hdg : decode cc pc = .ok (.getfield index, 3)) (kk : W p l e R s m args below meth c H locs cells slots Q (F0 m (pc + 3) ls (.int (iN (σ.1 (6, q, 0) 9)) :: rest))) : W p l e R s m args below meth c H locs cells slots Q (F0 m pc ls (.ref (ad (6, q, 0)) :: rest)) := z_get (ci := 3) (C := RX3) (T := TX3) (N := 11) (fs := fX3 ad q (σ.1 (6, q, 0))) M hin hW hκ rfl rfl 9 (by decide) hf (fun _ h => h) rfl hdg kk
theorem zp_X3_9 (M : MF p s m args c cc nL own D ca) (hin : ∀ w ∈ u_ws RX3 TX3 11, w ∈ UW) (hW : XW D A K ad (cR ca ad σ) H) (hS : va_S A H0 H locs) {q : Nat} (hκ : (6, q, 0) ∈ K) {index : Nat} (hf : (Cond.fieldLink own index "NightRiders$Rider" "boxMinutes" "I").before args s = true) {v : Int} (hdg : decode cc pc = .ok (.putfield index, 3)) (kk : ∀ (H1 : Heap) (locs1 : List Loc), XW D A K ad (cR ca ad (s1 σ (6, q, 0) 9 v)) H1 → va_S A H0 H1 locs1 → W p l e R s m args below meth c H1 locs1 cells slots Q (F0 m (pc + 3) ls rest)) : W p l e R s m args below meth c H locs cells slots Q (F0 m pc ls (.int (iN v) :: .ref (ad (6, q, 0)) :: rest)) := z_put (ci := 3) (C := RX3) (T := TX3) (N := 11) (fs := fX3 ad q (σ.1 (6, q, 0))) (ty := .int) M hin hW hκ rfl rfl 9 (by decide) hf (fun _ h => h) tyX3 tyX3_ok nmX3 hS rfl (by decide +kernel) rfl rfl (Nat.le_of_ble_eq_true rfl) hdg (fun H1 locs1 hW1 hS1 => kk H1 locs1 (hW1.to (cR_1 ca ad σ (6, q, 0) 9 v)) hS1)
theorem zg_X3_10 (M : MF p s m args c cc nL own D ca) (hin : ∀ w ∈ u_ws RX3 TX3 11, w ∈ UW) (hW : XW D A K ad (cR ca ad σ) H) {q : Nat} (hκ : (6, q, 0) ∈ K) {index : Nat} (hf : (Cond.fieldLink own index "NightRiders$Rider" "failed" "Z").before args s = true) (hdg : decode cc pc = .ok (.getfield index, 3)) (kk : W p l e R s m args below meth c H locs cells slots Q (F0 m (pc + 3) ls (.int (iN (σ.1 (6, q, 0) 10)) :: rest))) : W p l e R s m args below meth c H locs cells slots Q (F0 m pc ls (.ref (ad (6, q, 0)) :: rest)) := z_get (ci := 3) (C := RX3) (T := TX3) (N := 11) (fs := fX3 ad q (σ.1 (6, q, 0))) M hin hW hκ rfl rfl 10 (by decide) hf (fun _ h => h) rfl hdg kk
theorem zp_X3_10 (M : MF p s m args c cc nL own D ca) (hin : ∀ w ∈ u_ws RX3 TX3 11, w ∈ UW) (hW : XW D A K ad (cR ca ad σ) H) (hS : va_S A H0 H locs) {q : Nat} (hκ : (6, q, 0) ∈ K) {index : Nat} (hf : (Cond.fieldLink own index "NightRiders$Rider" "failed" "Z").before args s = true) {v : Int} (hv : v = 0 ∨ v = 1) (hdg : decode cc pc = .ok (.putfield index, 3)) (kk : ∀ (H1 : Heap) (locs1 : List Loc), XW D A K ad (cR ca ad (s1 σ (6, q, 0) 10 v)) H1 → va_S A H0 H1 locs1 → W p l e R s m args below meth c H1 locs1 cells slots Q (F0 m (pc + 3) ls rest)) : W p l e R s m args below meth c H locs cells slots Q (F0 m pc ls (.int (iN v) :: .ref (ad (6, q, 0)) :: rest)) := z_put (ci := 3) (C := RX3) (T := TX3) (N := 11) (fs := fX3 ad q (σ.1 (6, q, 0))) (ty := .boolean) M hin hW hκ rfl rfl 10 (by decide) hf (fun _ h => h) tyX3 tyX3_ok nmX3 hS rfl (by decide +kernel) (by rcases hv with rfl | rfl <;> rfl) (by rcases hv with rfl | rfl <;> rfl) (Nat.le_of_ble_eq_true rfl) hdg (fun H1 locs1 hW1 hS1 => kk H1 locs1 (hW1.to (cR_1 ca ad σ (6, q, 0) 10 v)) hS1)
theorem zg_X4_0 (M : MF p s m args c cc nL own D ca) (hin : ∀ w ∈ u_ws RX4 TX4 10, w ∈ UW) (hW : XW D A K ad (cR ca ad σ) H) (hκ : (0, 0, 0) ∈ K) {index : Nat} (hf : (Cond.fieldLink own index "NightRiders" "roads" "[I").before args s = true) (hdg : decode cc pc = .ok (.getfield index, 3)) (kk : W p l e R s m args below meth c H locs cells slots Q (F0 m (pc + 3) ls (.ref (ad (1, 0, 0)) :: rest))) : W p l e R s m args below meth c H locs cells slots Q (F0 m pc ls (.ref (ad (0, 0, 0)) :: rest)) := z_get (ci := 4) (C := RX4) (T := TX4) (N := 10) (fs := fX4 ad 0 (σ.1 (0, 0, 0))) M hin hW hκ rfl rfl 0 (by decide) hf (fun _ h => h) rfl hdg kk
theorem zg_X4_1 (M : MF p s m args c cc nL own D ca) (hin : ∀ w ∈ u_ws RX4 TX4 10, w ∈ UW) (hW : XW D A K ad (cR ca ad σ) H) (hκ : (0, 0, 0) ∈ K) {index : Nat} (hf : (Cond.fieldLink own index "NightRiders" "riders" "[LNightRiders$Rider;").before args s = true) (hdg : decode cc pc = .ok (.getfield index, 3)) (kk : W p l e R s m args below meth c H locs cells slots Q (F0 m (pc + 3) ls (.ref (ad (2, 0, 0)) :: rest))) : W p l e R s m args below meth c H locs cells slots Q (F0 m pc ls (.ref (ad (0, 0, 0)) :: rest)) := z_get (ci := 4) (C := RX4) (T := TX4) (N := 10) (fs := fX4 ad 0 (σ.1 (0, 0, 0))) M hin hW hκ rfl rfl 1 (by decide) hf (fun _ h => h) rfl hdg kk
theorem zg_X4_2 (M : MF p s m args c cc nL own D ca) (hin : ∀ w ∈ u_ws RX4 TX4 10, w ∈ UW) (hW : XW D A K ad (cR ca ad σ) H) (hκ : (0, 0, 0) ∈ K) {index : Nat} (hf : (Cond.fieldLink own index "NightRiders" "requests" "[LNightRiders$Request;").before args s = true) (hdg : decode cc pc = .ok (.getfield index, 3)) (kk : W p l e R s m args below meth c H locs cells slots Q (F0 m (pc + 3) ls (.ref (ad (3, 0, 0)) :: rest))) : W p l e R s m args below meth c H locs cells slots Q (F0 m pc ls (.ref (ad (0, 0, 0)) :: rest)) := z_get (ci := 4) (C := RX4) (T := TX4) (N := 10) (fs := fX4 ad 0 (σ.1 (0, 0, 0))) M hin hW hκ rfl rfl 2 (by decide) hf (fun _ h => h) rfl hdg kk
theorem zg_X4_3 (M : MF p s m args c cc nL own D ca) (hin : ∀ w ∈ u_ws RX4 TX4 10, w ∈ UW) (hW : XW D A K ad (cR ca ad σ) H) (hκ : (0, 0, 0) ∈ K) {index : Nat} (hf : (Cond.fieldLink own index "NightRiders" "trial" "LNightRiders$Chain;").before args s = true) (hdg : decode cc pc = .ok (.getfield index, 3)) (kk : W p l e R s m args below meth c H locs cells slots Q (F0 m (pc + 3) ls (.ref (ad (4, 0, 0)) :: rest))) : W p l e R s m args below meth c H locs cells slots Q (F0 m pc ls (.ref (ad (0, 0, 0)) :: rest)) := z_get (ci := 4) (C := RX4) (T := TX4) (N := 10) (fs := fX4 ad 0 (σ.1 (0, 0, 0))) M hin hW hκ rfl rfl 3 (by decide) hf (fun _ h => h) rfl hdg kk
theorem zg_X4_4 (M : MF p s m args c cc nL own D ca) (hin : ∀ w ∈ u_ws RX4 TX4 10, w ∈ UW) (hW : XW D A K ad (cR ca ad σ) H) (hκ : (0, 0, 0) ∈ K) {index : Nat} (hf : (Cond.fieldLink own index "NightRiders" "chosen" "LNightRiders$Chain;").before args s = true) (hdg : decode cc pc = .ok (.getfield index, 3)) (kk : W p l e R s m args below meth c H locs cells slots Q (F0 m (pc + 3) ls (.ref (ad (4, 1, 0)) :: rest))) : W p l e R s m args below meth c H locs cells slots Q (F0 m pc ls (.ref (ad (0, 0, 0)) :: rest)) := z_get (ci := 4) (C := RX4) (T := TX4) (N := 10) (fs := fX4 ad 0 (σ.1 (0, 0, 0))) M hin hW hκ rfl rfl 4 (by decide) hf (fun _ h => h) rfl hdg kk
theorem zg_X4_5 (M : MF p s m args c cc nL own D ca) (hin : ∀ w ∈ u_ws RX4 TX4 10, w ∈ UW) (hW : XW D A K ad (cR ca ad σ) H) (hκ : (0, 0, 0) ∈ K) {index : Nat} (hf : (Cond.fieldLink own index "NightRiders" "placeCount" "I").before args s = true) (hdg : decode cc pc = .ok (.getfield index, 3)) (kk : W p l e R s m args below meth c H locs cells slots Q (F0 m (pc + 3) ls (.int (iN (σ.1 (0, 0, 0) 5)) :: rest))) : W p l e R s m args below meth c H locs cells slots Q (F0 m pc ls (.ref (ad (0, 0, 0)) :: rest)) := z_get (ci := 4) (C := RX4) (T := TX4) (N := 10) (fs := fX4 ad 0 (σ.1 (0, 0, 0))) M hin hW hκ rfl rfl 5 (by decide) hf (fun _ h => h) rfl hdg kk
theorem zp_X4_5 (M : MF p s m args c cc nL own D ca) (hin : ∀ w ∈ u_ws RX4 TX4 10, w ∈ UW) (hW : XW D A K ad (cR ca ad σ) H) (hS : va_S A H0 H locs) (hκ : (0, 0, 0) ∈ K) {index : Nat} (hf : (Cond.fieldLink own index "NightRiders" "placeCount" "I").before args s = true) {v : Int} (hdg : decode cc pc = .ok (.putfield index, 3)) (kk : ∀ (H1 : Heap) (locs1 : List Loc), XW D A K ad (cR ca ad (s1 σ (0, 0, 0) 5 v)) H1 → va_S A H0 H1 locs1 → W p l e R s m args below meth c H1 locs1 cells slots Q (F0 m (pc + 3) ls rest)) : W p l e R s m args below meth c H locs cells slots Q (F0 m pc ls (.int (iN v) :: .ref (ad (0, 0, 0)) :: rest)) := z_put (ci := 4) (C := RX4) (T := TX4) (N := 10) (fs := fX4 ad 0 (σ.1 (0, 0, 0))) (ty := .int) M hin hW hκ rfl rfl 5 (by decide) hf (fun _ h => h) tyX4 tyX4_ok nmX4 hS rfl (by decide +kernel) rfl rfl (Nat.le_of_ble_eq_true rfl) hdg (fun H1 locs1 hW1 hS1 => kk H1 locs1 (hW1.to (cR_1 ca ad σ (0, 0, 0) 5 v)) hS1)
theorem zg_X4_6 (M : MF p s m args c cc nL own D ca) (hin : ∀ w ∈ u_ws RX4 TX4 10, w ∈ UW) (hW : XW D A K ad (cR ca ad σ) H) (hκ : (0, 0, 0) ∈ K) {index : Nat} (hf : (Cond.fieldLink own index "NightRiders" "riderCount" "I").before args s = true) (hdg : decode cc pc = .ok (.getfield index, 3)) (kk : W p l e R s m args below meth c H locs cells slots Q (F0 m (pc + 3) ls (.int (iN (σ.1 (0, 0, 0) 6)) :: rest))) : W p l e R s m args below meth c H locs cells slots Q (F0 m pc ls (.ref (ad (0, 0, 0)) :: rest)) := z_get (ci := 4) (C := RX4) (T := TX4) (N := 10) (fs := fX4 ad 0 (σ.1 (0, 0, 0))) M hin hW hκ rfl rfl 6 (by decide) hf (fun _ h => h) rfl hdg kk
theorem zp_X4_6 (M : MF p s m args c cc nL own D ca) (hin : ∀ w ∈ u_ws RX4 TX4 10, w ∈ UW) (hW : XW D A K ad (cR ca ad σ) H) (hS : va_S A H0 H locs) (hκ : (0, 0, 0) ∈ K) {index : Nat} (hf : (Cond.fieldLink own index "NightRiders" "riderCount" "I").before args s = true) {v : Int} (hdg : decode cc pc = .ok (.putfield index, 3)) (kk : ∀ (H1 : Heap) (locs1 : List Loc), XW D A K ad (cR ca ad (s1 σ (0, 0, 0) 6 v)) H1 → va_S A H0 H1 locs1 → W p l e R s m args below meth c H1 locs1 cells slots Q (F0 m (pc + 3) ls rest)) : W p l e R s m args below meth c H locs cells slots Q (F0 m pc ls (.int (iN v) :: .ref (ad (0, 0, 0)) :: rest)) := z_put (ci := 4) (C := RX4) (T := TX4) (N := 10) (fs := fX4 ad 0 (σ.1 (0, 0, 0))) (ty := .int) M hin hW hκ rfl rfl 6 (by decide) hf (fun _ h => h) tyX4 tyX4_ok nmX4 hS rfl (by decide +kernel) rfl rfl (Nat.le_of_ble_eq_true rfl) hdg (fun H1 locs1 hW1 hS1 => kk H1 locs1 (hW1.to (cR_1 ca ad σ (0, 0, 0) 6 v)) hS1)
theorem zg_X4_7 (M : MF p s m args c cc nL own D ca) (hin : ∀ w ∈ u_ws RX4 TX4 10, w ∈ UW) (hW : XW D A K ad (cR ca ad σ) H) (hκ : (0, 0, 0) ∈ K) {index : Nat} (hf : (Cond.fieldLink own index "NightRiders" "requestCount" "I").before args s = true) (hdg : decode cc pc = .ok (.getfield index, 3)) (kk : W p l e R s m args below meth c H locs cells slots Q (F0 m (pc + 3) ls (.int (iN (σ.1 (0, 0, 0) 7)) :: rest))) : W p l e R s m args below meth c H locs cells slots Q (F0 m pc ls (.ref (ad (0, 0, 0)) :: rest)) := z_get (ci := 4) (C := RX4) (T := TX4) (N := 10) (fs := fX4 ad 0 (σ.1 (0, 0, 0))) M hin hW hκ rfl rfl 7 (by decide) hf (fun _ h => h) rfl hdg kk
theorem zp_X4_7 (M : MF p s m args c cc nL own D ca) (hin : ∀ w ∈ u_ws RX4 TX4 10, w ∈ UW) (hW : XW D A K ad (cR ca ad σ) H) (hS : va_S A H0 H locs) (hκ : (0, 0, 0) ∈ K) {index : Nat} (hf : (Cond.fieldLink own index "NightRiders" "requestCount" "I").before args s = true) {v : Int} (hdg : decode cc pc = .ok (.putfield index, 3)) (kk : ∀ (H1 : Heap) (locs1 : List Loc), XW D A K ad (cR ca ad (s1 σ (0, 0, 0) 7 v)) H1 → va_S A H0 H1 locs1 → W p l e R s m args below meth c H1 locs1 cells slots Q (F0 m (pc + 3) ls rest)) : W p l e R s m args below meth c H locs cells slots Q (F0 m pc ls (.int (iN v) :: .ref (ad (0, 0, 0)) :: rest)) := z_put (ci := 4) (C := RX4) (T := TX4) (N := 10) (fs := fX4 ad 0 (σ.1 (0, 0, 0))) (ty := .int) M hin hW hκ rfl rfl 7 (by decide) hf (fun _ h => h) tyX4 tyX4_ok nmX4 hS rfl (by decide +kernel) rfl rfl (Nat.le_of_ble_eq_true rfl) hdg (fun H1 locs1 hW1 hS1 => kk H1 locs1 (hW1.to (cR_1 ca ad σ (0, 0, 0) 7 v)) hS1)
theorem zg_X4_8 (M : MF p s m args c cc nL own D ca) (hin : ∀ w ∈ u_ws RX4 TX4 10, w ∈ UW) (hW : XW D A K ad (cR ca ad σ) H) (hκ : (0, 0, 0) ∈ K) {index : Nat} (hf : (Cond.fieldLink own index "NightRiders" "resting" "I").before args s = true) (hdg : decode cc pc = .ok (.getfield index, 3)) (kk : W p l e R s m args below meth c H locs cells slots Q (F0 m (pc + 3) ls (.int (iN (σ.1 (0, 0, 0) 8)) :: rest))) : W p l e R s m args below meth c H locs cells slots Q (F0 m pc ls (.ref (ad (0, 0, 0)) :: rest)) := z_get (ci := 4) (C := RX4) (T := TX4) (N := 10) (fs := fX4 ad 0 (σ.1 (0, 0, 0))) M hin hW hκ rfl rfl 8 (by decide) hf (fun _ h => h) rfl hdg kk
theorem zp_X4_8 (M : MF p s m args c cc nL own D ca) (hin : ∀ w ∈ u_ws RX4 TX4 10, w ∈ UW) (hW : XW D A K ad (cR ca ad σ) H) (hS : va_S A H0 H locs) (hκ : (0, 0, 0) ∈ K) {index : Nat} (hf : (Cond.fieldLink own index "NightRiders" "resting" "I").before args s = true) {v : Int} (hdg : decode cc pc = .ok (.putfield index, 3)) (kk : ∀ (H1 : Heap) (locs1 : List Loc), XW D A K ad (cR ca ad (s1 σ (0, 0, 0) 8 v)) H1 → va_S A H0 H1 locs1 → W p l e R s m args below meth c H1 locs1 cells slots Q (F0 m (pc + 3) ls rest)) : W p l e R s m args below meth c H locs cells slots Q (F0 m pc ls (.int (iN v) :: .ref (ad (0, 0, 0)) :: rest)) := z_put (ci := 4) (C := RX4) (T := TX4) (N := 10) (fs := fX4 ad 0 (σ.1 (0, 0, 0))) (ty := .int) M hin hW hκ rfl rfl 8 (by decide) hf (fun _ h => h) tyX4 tyX4_ok nmX4 hS rfl (by decide +kernel) rfl rfl (Nat.le_of_ble_eq_true rfl) hdg (fun H1 locs1 hW1 hS1 => kk H1 locs1 (hW1.to (cR_1 ca ad σ (0, 0, 0) 8 v)) hS1)
theorem zg_X4_9 (M : MF p s m args c cc nL own D ca) (hin : ∀ w ∈ u_ws RX4 TX4 10, w ∈ UW) (hW : XW D A K ad (cR ca ad σ) H) (hκ : (0, 0, 0) ∈ K) {index : Nat} (hf : (Cond.fieldLink own index "NightRiders" "lastSent" "I").before args s = true) (hdg : decode cc pc = .ok (.getfield index, 3)) (kk : W p l e R s m args below meth c H locs cells slots Q (F0 m (pc + 3) ls (.int (iN (σ.1 (0, 0, 0) 9)) :: rest))) : W p l e R s m args below meth c H locs cells slots Q (F0 m pc ls (.ref (ad (0, 0, 0)) :: rest)) := z_get (ci := 4) (C := RX4) (T := TX4) (N := 10) (fs := fX4 ad 0 (σ.1 (0, 0, 0))) M hin hW hκ rfl rfl 9 (by decide) hf (fun _ h => h) rfl hdg kk
theorem zp_X4_9 (M : MF p s m args c cc nL own D ca) (hin : ∀ w ∈ u_ws RX4 TX4 10, w ∈ UW) (hW : XW D A K ad (cR ca ad σ) H) (hS : va_S A H0 H locs) (hκ : (0, 0, 0) ∈ K) {index : Nat} (hf : (Cond.fieldLink own index "NightRiders" "lastSent" "I").before args s = true) {v : Int} (hdg : decode cc pc = .ok (.putfield index, 3)) (kk : ∀ (H1 : Heap) (locs1 : List Loc), XW D A K ad (cR ca ad (s1 σ (0, 0, 0) 9 v)) H1 → va_S A H0 H1 locs1 → W p l e R s m args below meth c H1 locs1 cells slots Q (F0 m (pc + 3) ls rest)) : W p l e R s m args below meth c H locs cells slots Q (F0 m pc ls (.int (iN v) :: .ref (ad (0, 0, 0)) :: rest)) := z_put (ci := 4) (C := RX4) (T := TX4) (N := 10) (fs := fX4 ad 0 (σ.1 (0, 0, 0))) (ty := .int) M hin hW hκ rfl rfl 9 (by decide) hf (fun _ h => h) tyX4 tyX4_ok nmX4 hS rfl (by decide +kernel) rfl rfl (Nat.le_of_ble_eq_true rfl) hdg (fun H1 locs1 hW1 hS1 => kk H1 locs1 (hW1.to (cR_1 ca ad σ (0, 0, 0) 9 v)) hS1)
theorem zg_X5_0 (M : MF p s m args c cc nL own D ca) (hin : ∀ w ∈ u_ws RX5 TX5 35, w ∈ UW) (hW : XW D A K ad (cR ca ad σ) H) (hκ : (11, 0, 0) ∈ K) {index : Nat} (hf : (Cond.fieldLink own index "NightRidersModel" "roads" "[I").before args s = true) (hdg : decode cc pc = .ok (.getfield index, 3)) (kk : W p l e R s m args below meth c H locs cells slots Q (F0 m (pc + 3) ls (.ref (ad (12, 0, 0)) :: rest))) : W p l e R s m args below meth c H locs cells slots Q (F0 m pc ls (.ref (ad (11, 0, 0)) :: rest)) := z_get (ci := 5) (C := RX5) (T := TX5) (N := 35) (fs := fX5 ad 0 (σ.1 (11, 0, 0))) M hin hW hκ rfl rfl 0 (by decide) hf (fun _ h => h) rfl hdg kk
theorem zg_X5_1 (M : MF p s m args c cc nL own D ca) (hin : ∀ w ∈ u_ws RX5 TX5 35, w ∈ UW) (hW : XW D A K ad (cR ca ad σ) H) (hκ : (11, 0, 0) ∈ K) {index : Nat} (hf : (Cond.fieldLink own index "NightRidersModel" "places" "I").before args s = true) (hdg : decode cc pc = .ok (.getfield index, 3)) (kk : W p l e R s m args below meth c H locs cells slots Q (F0 m (pc + 3) ls (.int (iN (σ.1 (11, 0, 0) 1)) :: rest))) : W p l e R s m args below meth c H locs cells slots Q (F0 m pc ls (.ref (ad (11, 0, 0)) :: rest)) := z_get (ci := 5) (C := RX5) (T := TX5) (N := 35) (fs := fX5 ad 0 (σ.1 (11, 0, 0))) M hin hW hκ rfl rfl 1 (by decide) hf (fun _ h => h) rfl hdg kk
theorem zp_X5_1 (M : MF p s m args c cc nL own D ca) (hin : ∀ w ∈ u_ws RX5 TX5 35, w ∈ UW) (hW : XW D A K ad (cR ca ad σ) H) (hS : va_S A H0 H locs) (hκ : (11, 0, 0) ∈ K) {index : Nat} (hf : (Cond.fieldLink own index "NightRidersModel" "places" "I").before args s = true) {v : Int} (hdg : decode cc pc = .ok (.putfield index, 3)) (kk : ∀ (H1 : Heap) (locs1 : List Loc), XW D A K ad (cR ca ad (s1 σ (11, 0, 0) 1 v)) H1 → va_S A H0 H1 locs1 → W p l e R s m args below meth c H1 locs1 cells slots Q (F0 m (pc + 3) ls rest)) : W p l e R s m args below meth c H locs cells slots Q (F0 m pc ls (.int (iN v) :: .ref (ad (11, 0, 0)) :: rest)) := z_put (ci := 5) (C := RX5) (T := TX5) (N := 35) (fs := fX5 ad 0 (σ.1 (11, 0, 0))) (ty := .int) M hin hW hκ rfl rfl 1 (by decide) hf (fun _ h => h) tyX5 tyX5_ok nmX5 hS rfl (by decide +kernel) rfl rfl (Nat.le_of_ble_eq_true rfl) hdg (fun H1 locs1 hW1 hS1 => kk H1 locs1 (hW1.to (cR_1 ca ad σ (11, 0, 0) 1 v)) hS1)
theorem zg_X5_2 (M : MF p s m args c cc nL own D ca) (hin : ∀ w ∈ u_ws RX5 TX5 35, w ∈ UW) (hW : XW D A K ad (cR ca ad σ) H) (hκ : (11, 0, 0) ∈ K) {index : Nat} (hf : (Cond.fieldLink own index "NightRidersModel" "home" "[I").before args s = true) (hdg : decode cc pc = .ok (.getfield index, 3)) (kk : W p l e R s m args below meth c H locs cells slots Q (F0 m (pc + 3) ls (.ref (ad (12, 1, 0)) :: rest))) : W p l e R s m args below meth c H locs cells slots Q (F0 m pc ls (.ref (ad (11, 0, 0)) :: rest)) := z_get (ci := 5) (C := RX5) (T := TX5) (N := 35) (fs := fX5 ad 0 (σ.1 (11, 0, 0))) M hin hW hκ rfl rfl 2 (by decide) hf (fun _ h => h) rfl hdg kk
theorem zg_X5_3 (M : MF p s m args c cc nL own D ca) (hin : ∀ w ∈ u_ws RX5 TX5 35, w ∈ UW) (hW : XW D A K ad (cR ca ad σ) H) (hκ : (11, 0, 0) ∈ K) {index : Nat} (hf : (Cond.fieldLink own index "NightRidersModel" "area" "[I").before args s = true) (hdg : decode cc pc = .ok (.getfield index, 3)) (kk : W p l e R s m args below meth c H locs cells slots Q (F0 m (pc + 3) ls (.ref (ad (12, 2, 0)) :: rest))) : W p l e R s m args below meth c H locs cells slots Q (F0 m pc ls (.ref (ad (11, 0, 0)) :: rest)) := z_get (ci := 5) (C := RX5) (T := TX5) (N := 35) (fs := fX5 ad 0 (σ.1 (11, 0, 0))) M hin hW hκ rfl rfl 3 (by decide) hf (fun _ h => h) rfl hdg kk
theorem zg_X5_4 (M : MF p s m args c cc nL own D ca) (hin : ∀ w ∈ u_ws RX5 TX5 35, w ∈ UW) (hW : XW D A K ad (cR ca ad σ) H) (hκ : (11, 0, 0) ∈ K) {index : Nat} (hf : (Cond.fieldLink own index "NightRidersModel" "dutyFrom" "[I").before args s = true) (hdg : decode cc pc = .ok (.getfield index, 3)) (kk : W p l e R s m args below meth c H locs cells slots Q (F0 m (pc + 3) ls (.ref (ad (12, 3, 0)) :: rest))) : W p l e R s m args below meth c H locs cells slots Q (F0 m pc ls (.ref (ad (11, 0, 0)) :: rest)) := z_get (ci := 5) (C := RX5) (T := TX5) (N := 35) (fs := fX5 ad 0 (σ.1 (11, 0, 0))) M hin hW hκ rfl rfl 4 (by decide) hf (fun _ h => h) rfl hdg kk
theorem zg_X5_5 (M : MF p s m args c cc nL own D ca) (hin : ∀ w ∈ u_ws RX5 TX5 35, w ∈ UW) (hW : XW D A K ad (cR ca ad σ) H) (hκ : (11, 0, 0) ∈ K) {index : Nat} (hf : (Cond.fieldLink own index "NightRidersModel" "dutyTo" "[I").before args s = true) (hdg : decode cc pc = .ok (.getfield index, 3)) (kk : W p l e R s m args below meth c H locs cells slots Q (F0 m (pc + 3) ls (.ref (ad (12, 4, 0)) :: rest))) : W p l e R s m args below meth c H locs cells slots Q (F0 m pc ls (.ref (ad (11, 0, 0)) :: rest)) := z_get (ci := 5) (C := RX5) (T := TX5) (N := 35) (fs := fX5 ad 0 (σ.1 (11, 0, 0))) M hin hW hκ rfl rfl 5 (by decide) hf (fun _ h => h) rfl hdg kk
theorem zg_X5_6 (M : MF p s m args c cc nL own D ca) (hin : ∀ w ∈ u_ws RX5 TX5 35, w ∈ UW) (hW : XW D A K ad (cR ca ad σ) H) (hκ : (11, 0, 0) ∈ K) {index : Nat} (hf : (Cond.fieldLink own index "NightRidersModel" "kinds" "[I").before args s = true) (hdg : decode cc pc = .ok (.getfield index, 3)) (kk : W p l e R s m args below meth c H locs cells slots Q (F0 m (pc + 3) ls (.ref (ad (12, 5, 0)) :: rest))) : W p l e R s m args below meth c H locs cells slots Q (F0 m pc ls (.ref (ad (11, 0, 0)) :: rest)) := z_get (ci := 5) (C := RX5) (T := TX5) (N := 35) (fs := fX5 ad 0 (σ.1 (11, 0, 0))) M hin hW hκ rfl rfl 6 (by decide) hf (fun _ h => h) rfl hdg kk
theorem zg_X5_7 (M : MF p s m args c cc nL own D ca) (hin : ∀ w ∈ u_ws RX5 TX5 35, w ∈ UW) (hW : XW D A K ad (cR ca ad σ) H) (hκ : (11, 0, 0) ∈ K) {index : Nat} (hf : (Cond.fieldLink own index "NightRidersModel" "at" "[I").before args s = true) (hdg : decode cc pc = .ok (.getfield index, 3)) (kk : W p l e R s m args below meth c H locs cells slots Q (F0 m (pc + 3) ls (.ref (ad (12, 6, 0)) :: rest))) : W p l e R s m args below meth c H locs cells slots Q (F0 m pc ls (.ref (ad (11, 0, 0)) :: rest)) := z_get (ci := 5) (C := RX5) (T := TX5) (N := 35) (fs := fX5 ad 0 (σ.1 (11, 0, 0))) M hin hW hκ rfl rfl 7 (by decide) hf (fun _ h => h) rfl hdg kk
theorem zg_X5_8 (M : MF p s m args c cc nL own D ca) (hin : ∀ w ∈ u_ws RX5 TX5 35, w ∈ UW) (hW : XW D A K ad (cR ca ad σ) H) (hκ : (11, 0, 0) ∈ K) {index : Nat} (hf : (Cond.fieldLink own index "NightRidersModel" "free" "[I").before args s = true) (hdg : decode cc pc = .ok (.getfield index, 3)) (kk : W p l e R s m args below meth c H locs cells slots Q (F0 m (pc + 3) ls (.ref (ad (12, 7, 0)) :: rest))) : W p l e R s m args below meth c H locs cells slots Q (F0 m pc ls (.ref (ad (11, 0, 0)) :: rest)) := z_get (ci := 5) (C := RX5) (T := TX5) (N := 35) (fs := fX5 ad 0 (σ.1 (11, 0, 0))) M hin hW hκ rfl rfl 8 (by decide) hf (fun _ h => h) rfl hdg kk
theorem zg_X5_9 (M : MF p s m args c cc nL own D ca) (hin : ∀ w ∈ u_ws RX5 TX5 35, w ∈ UW) (hW : XW D A K ad (cR ca ad σ) H) (hκ : (11, 0, 0) ∈ K) {index : Nat} (hf : (Cond.fieldLink own index "NightRidersModel" "failed" "[Z").before args s = true) (hdg : decode cc pc = .ok (.getfield index, 3)) (kk : W p l e R s m args below meth c H locs cells slots Q (F0 m (pc + 3) ls (.ref (ad (12, 8, 0)) :: rest))) : W p l e R s m args below meth c H locs cells slots Q (F0 m pc ls (.ref (ad (11, 0, 0)) :: rest)) := z_get (ci := 5) (C := RX5) (T := TX5) (N := 35) (fs := fX5 ad 0 (σ.1 (11, 0, 0))) M hin hW hκ rfl rfl 9 (by decide) hf (fun _ h => h) rfl hdg kk
theorem zg_X5_10 (M : MF p s m args c cc nL own D ca) (hin : ∀ w ∈ u_ws RX5 TX5 35, w ∈ UW) (hW : XW D A K ad (cR ca ad σ) H) (hκ : (11, 0, 0) ∈ K) {index : Nat} (hf : (Cond.fieldLink own index "NightRidersModel" "rode" "[I").before args s = true) (hdg : decode cc pc = .ok (.getfield index, 3)) (kk : W p l e R s m args below meth c H locs cells slots Q (F0 m (pc + 3) ls (.ref (ad (12, 9, 0)) :: rest))) : W p l e R s m args below meth c H locs cells slots Q (F0 m pc ls (.ref (ad (11, 0, 0)) :: rest)) := z_get (ci := 5) (C := RX5) (T := TX5) (N := 35) (fs := fX5 ad 0 (σ.1 (11, 0, 0))) M hin hW hκ rfl rfl 10 (by decide) hf (fun _ h => h) rfl hdg kk
theorem zg_X5_11 (M : MF p s m args c cc nL own D ca) (hin : ∀ w ∈ u_ws RX5 TX5 35, w ∈ UW) (hW : XW D A K ad (cR ca ad σ) H) (hκ : (11, 0, 0) ∈ K) {index : Nat} (hf : (Cond.fieldLink own index "NightRidersModel" "minutes" "[I").before args s = true) (hdg : decode cc pc = .ok (.getfield index, 3)) (kk : W p l e R s m args below meth c H locs cells slots Q (F0 m (pc + 3) ls (.ref (ad (12, 10, 0)) :: rest))) : W p l e R s m args below meth c H locs cells slots Q (F0 m pc ls (.ref (ad (11, 0, 0)) :: rest)) := z_get (ci := 5) (C := RX5) (T := TX5) (N := 35) (fs := fX5 ad 0 (σ.1 (11, 0, 0))) M hin hW hκ rfl rfl 11 (by decide) hf (fun _ h => h) rfl hdg kk
theorem zg_X5_12 (M : MF p s m args c cc nL own D ca) (hin : ∀ w ∈ u_ws RX5 TX5 35, w ∈ UW) (hW : XW D A K ad (cR ca ad σ) H) (hκ : (11, 0, 0) ∈ K) {index : Nat} (hf : (Cond.fieldLink own index "NightRidersModel" "riders" "I").before args s = true) (hdg : decode cc pc = .ok (.getfield index, 3)) (kk : W p l e R s m args below meth c H locs cells slots Q (F0 m (pc + 3) ls (.int (iN (σ.1 (11, 0, 0) 12)) :: rest))) : W p l e R s m args below meth c H locs cells slots Q (F0 m pc ls (.ref (ad (11, 0, 0)) :: rest)) := z_get (ci := 5) (C := RX5) (T := TX5) (N := 35) (fs := fX5 ad 0 (σ.1 (11, 0, 0))) M hin hW hκ rfl rfl 12 (by decide) hf (fun _ h => h) rfl hdg kk
theorem zp_X5_12 (M : MF p s m args c cc nL own D ca) (hin : ∀ w ∈ u_ws RX5 TX5 35, w ∈ UW) (hW : XW D A K ad (cR ca ad σ) H) (hS : va_S A H0 H locs) (hκ : (11, 0, 0) ∈ K) {index : Nat} (hf : (Cond.fieldLink own index "NightRidersModel" "riders" "I").before args s = true) {v : Int} (hdg : decode cc pc = .ok (.putfield index, 3)) (kk : ∀ (H1 : Heap) (locs1 : List Loc), XW D A K ad (cR ca ad (s1 σ (11, 0, 0) 12 v)) H1 → va_S A H0 H1 locs1 → W p l e R s m args below meth c H1 locs1 cells slots Q (F0 m (pc + 3) ls rest)) : W p l e R s m args below meth c H locs cells slots Q (F0 m pc ls (.int (iN v) :: .ref (ad (11, 0, 0)) :: rest)) := z_put (ci := 5) (C := RX5) (T := TX5) (N := 35) (fs := fX5 ad 0 (σ.1 (11, 0, 0))) (ty := .int) M hin hW hκ rfl rfl 12 (by decide) hf (fun _ h => h) tyX5 tyX5_ok nmX5 hS rfl (by decide +kernel) rfl rfl (Nat.le_of_ble_eq_true rfl) hdg (fun H1 locs1 hW1 hS1 => kk H1 locs1 (hW1.to (cR_1 ca ad σ (11, 0, 0) 12 v)) hS1)
theorem zg_X5_13 (M : MF p s m args c cc nL own D ca) (hin : ∀ w ∈ u_ws RX5 TX5 35, w ∈ UW) (hW : XW D A K ad (cR ca ad σ) H) (hκ : (11, 0, 0) ∈ K) {index : Nat} (hf : (Cond.fieldLink own index "NightRidersModel" "rest" "I").before args s = true) (hdg : decode cc pc = .ok (.getfield index, 3)) (kk : W p l e R s m args below meth c H locs cells slots Q (F0 m (pc + 3) ls (.int (iN (σ.1 (11, 0, 0) 13)) :: rest))) : W p l e R s m args below meth c H locs cells slots Q (F0 m pc ls (.ref (ad (11, 0, 0)) :: rest)) := z_get (ci := 5) (C := RX5) (T := TX5) (N := 35) (fs := fX5 ad 0 (σ.1 (11, 0, 0))) M hin hW hκ rfl rfl 13 (by decide) hf (fun _ h => h) rfl hdg kk
theorem zp_X5_13 (M : MF p s m args c cc nL own D ca) (hin : ∀ w ∈ u_ws RX5 TX5 35, w ∈ UW) (hW : XW D A K ad (cR ca ad σ) H) (hS : va_S A H0 H locs) (hκ : (11, 0, 0) ∈ K) {index : Nat} (hf : (Cond.fieldLink own index "NightRidersModel" "rest" "I").before args s = true) {v : Int} (hdg : decode cc pc = .ok (.putfield index, 3)) (kk : ∀ (H1 : Heap) (locs1 : List Loc), XW D A K ad (cR ca ad (s1 σ (11, 0, 0) 13 v)) H1 → va_S A H0 H1 locs1 → W p l e R s m args below meth c H1 locs1 cells slots Q (F0 m (pc + 3) ls rest)) : W p l e R s m args below meth c H locs cells slots Q (F0 m pc ls (.int (iN v) :: .ref (ad (11, 0, 0)) :: rest)) := z_put (ci := 5) (C := RX5) (T := TX5) (N := 35) (fs := fX5 ad 0 (σ.1 (11, 0, 0))) (ty := .int) M hin hW hκ rfl rfl 13 (by decide) hf (fun _ h => h) tyX5 tyX5_ok nmX5 hS rfl (by decide +kernel) rfl rfl (Nat.le_of_ble_eq_true rfl) hdg (fun H1 locs1 hW1 hS1 => kk H1 locs1 (hW1.to (cR_1 ca ad σ (11, 0, 0) 13 v)) hS1)
theorem zg_X5_14 (M : MF p s m args c cc nL own D ca) (hin : ∀ w ∈ u_ws RX5 TX5 35, w ∈ UW) (hW : XW D A K ad (cR ca ad σ) H) (hκ : (11, 0, 0) ∈ K) {index : Nat} (hf : (Cond.fieldLink own index "NightRidersModel" "kind" "[I").before args s = true) (hdg : decode cc pc = .ok (.getfield index, 3)) (kk : W p l e R s m args below meth c H locs cells slots Q (F0 m (pc + 3) ls (.ref (ad (12, 11, 0)) :: rest))) : W p l e R s m args below meth c H locs cells slots Q (F0 m pc ls (.ref (ad (11, 0, 0)) :: rest)) := z_get (ci := 5) (C := RX5) (T := TX5) (N := 35) (fs := fX5 ad 0 (σ.1 (11, 0, 0))) M hin hW hκ rfl rfl 14 (by decide) hf (fun _ h => h) rfl hdg kk
theorem zg_X5_15 (M : MF p s m args c cc nL own D ca) (hin : ∀ w ∈ u_ws RX5 TX5 35, w ∈ UW) (hW : XW D A K ad (cR ca ad σ) H) (hκ : (11, 0, 0) ∈ K) {index : Nat} (hf : (Cond.fieldLink own index "NightRidersModel" "from" "[I").before args s = true) (hdg : decode cc pc = .ok (.getfield index, 3)) (kk : W p l e R s m args below meth c H locs cells slots Q (F0 m (pc + 3) ls (.ref (ad (12, 12, 0)) :: rest))) : W p l e R s m args below meth c H locs cells slots Q (F0 m pc ls (.ref (ad (11, 0, 0)) :: rest)) := z_get (ci := 5) (C := RX5) (T := TX5) (N := 35) (fs := fX5 ad 0 (σ.1 (11, 0, 0))) M hin hW hκ rfl rfl 15 (by decide) hf (fun _ h => h) rfl hdg kk
theorem zg_X5_16 (M : MF p s m args c cc nL own D ca) (hin : ∀ w ∈ u_ws RX5 TX5 35, w ∈ UW) (hW : XW D A K ad (cR ca ad σ) H) (hκ : (11, 0, 0) ∈ K) {index : Nat} (hf : (Cond.fieldLink own index "NightRidersModel" "to" "[I").before args s = true) (hdg : decode cc pc = .ok (.getfield index, 3)) (kk : W p l e R s m args below meth c H locs cells slots Q (F0 m (pc + 3) ls (.ref (ad (12, 13, 0)) :: rest))) : W p l e R s m args below meth c H locs cells slots Q (F0 m pc ls (.ref (ad (11, 0, 0)) :: rest)) := z_get (ci := 5) (C := RX5) (T := TX5) (N := 35) (fs := fX5 ad 0 (σ.1 (11, 0, 0))) M hin hW hκ rfl rfl 16 (by decide) hf (fun _ h => h) rfl hdg kk
theorem zg_X5_17 (M : MF p s m args c cc nL own D ca) (hin : ∀ w ∈ u_ws RX5 TX5 35, w ∈ UW) (hW : XW D A K ad (cR ca ad σ) H) (hκ : (11, 0, 0) ∈ K) {index : Nat} (hf : (Cond.fieldLink own index "NightRidersModel" "ready" "[I").before args s = true) (hdg : decode cc pc = .ok (.getfield index, 3)) (kk : W p l e R s m args below meth c H locs cells slots Q (F0 m (pc + 3) ls (.ref (ad (12, 14, 0)) :: rest))) : W p l e R s m args below meth c H locs cells slots Q (F0 m pc ls (.ref (ad (11, 0, 0)) :: rest)) := z_get (ci := 5) (C := RX5) (T := TX5) (N := 35) (fs := fX5 ad 0 (σ.1 (11, 0, 0))) M hin hW hκ rfl rfl 17 (by decide) hf (fun _ h => h) rfl hdg kk
theorem zg_X5_18 (M : MF p s m args c cc nL own D ca) (hin : ∀ w ∈ u_ws RX5 TX5 35, w ∈ UW) (hW : XW D A K ad (cR ca ad σ) H) (hκ : (11, 0, 0) ∈ K) {index : Nat} (hf : (Cond.fieldLink own index "NightRidersModel" "cold" "[I").before args s = true) (hdg : decode cc pc = .ok (.getfield index, 3)) (kk : W p l e R s m args below meth c H locs cells slots Q (F0 m (pc + 3) ls (.ref (ad (12, 15, 0)) :: rest))) : W p l e R s m args below meth c H locs cells slots Q (F0 m pc ls (.ref (ad (11, 0, 0)) :: rest)) := z_get (ci := 5) (C := RX5) (T := TX5) (N := 35) (fs := fX5 ad 0 (σ.1 (11, 0, 0))) M hin hW hκ rfl rfl 18 (by decide) hf (fun _ h => h) rfl hdg kk
theorem zg_X5_19 (M : MF p s m args c cc nL own D ca) (hin : ∀ w ∈ u_ws RX5 TX5 35, w ∈ UW) (hW : XW D A K ad (cR ca ad σ) H) (hκ : (11, 0, 0) ∈ K) {index : Nat} (hf : (Cond.fieldLink own index "NightRidersModel" "state" "[I").before args s = true) (hdg : decode cc pc = .ok (.getfield index, 3)) (kk : W p l e R s m args below meth c H locs cells slots Q (F0 m (pc + 3) ls (.ref (ad (12, 16, 0)) :: rest))) : W p l e R s m args below meth c H locs cells slots Q (F0 m pc ls (.ref (ad (11, 0, 0)) :: rest)) := z_get (ci := 5) (C := RX5) (T := TX5) (N := 35) (fs := fX5 ad 0 (σ.1 (11, 0, 0))) M hin hW hκ rfl rfl 19 (by decide) hf (fun _ h => h) rfl hdg kk
theorem zg_X5_20 (M : MF p s m args c cc nL own D ca) (hin : ∀ w ∈ u_ws RX5 TX5 35, w ∈ UW) (hW : XW D A K ad (cR ca ad σ) H) (hκ : (11, 0, 0) ∈ K) {index : Nat} (hf : (Cond.fieldLink own index "NightRidersModel" "calls" "I").before args s = true) (hdg : decode cc pc = .ok (.getfield index, 3)) (kk : W p l e R s m args below meth c H locs cells slots Q (F0 m (pc + 3) ls (.int (iN (σ.1 (11, 0, 0) 20)) :: rest))) : W p l e R s m args below meth c H locs cells slots Q (F0 m pc ls (.ref (ad (11, 0, 0)) :: rest)) := z_get (ci := 5) (C := RX5) (T := TX5) (N := 35) (fs := fX5 ad 0 (σ.1 (11, 0, 0))) M hin hW hκ rfl rfl 20 (by decide) hf (fun _ h => h) rfl hdg kk
theorem zp_X5_20 (M : MF p s m args c cc nL own D ca) (hin : ∀ w ∈ u_ws RX5 TX5 35, w ∈ UW) (hW : XW D A K ad (cR ca ad σ) H) (hS : va_S A H0 H locs) (hκ : (11, 0, 0) ∈ K) {index : Nat} (hf : (Cond.fieldLink own index "NightRidersModel" "calls" "I").before args s = true) {v : Int} (hdg : decode cc pc = .ok (.putfield index, 3)) (kk : ∀ (H1 : Heap) (locs1 : List Loc), XW D A K ad (cR ca ad (s1 σ (11, 0, 0) 20 v)) H1 → va_S A H0 H1 locs1 → W p l e R s m args below meth c H1 locs1 cells slots Q (F0 m (pc + 3) ls rest)) : W p l e R s m args below meth c H locs cells slots Q (F0 m pc ls (.int (iN v) :: .ref (ad (11, 0, 0)) :: rest)) := z_put (ci := 5) (C := RX5) (T := TX5) (N := 35) (fs := fX5 ad 0 (σ.1 (11, 0, 0))) (ty := .int) M hin hW hκ rfl rfl 20 (by decide) hf (fun _ h => h) tyX5 tyX5_ok nmX5 hS rfl (by decide +kernel) rfl rfl (Nat.le_of_ble_eq_true rfl) hdg (fun H1 locs1 hW1 hS1 => kk H1 locs1 (hW1.to (cR_1 ca ad σ (11, 0, 0) 20 v)) hS1)
theorem zg_X5_21 (M : MF p s m args c cc nL own D ca) (hin : ∀ w ∈ u_ws RX5 TX5 35, w ∈ UW) (hW : XW D A K ad (cR ca ad σ) H) (hκ : (11, 0, 0) ∈ K) {index : Nat} (hf : (Cond.fieldLink own index "NightRidersModel" "latest" "I").before args s = true) (hdg : decode cc pc = .ok (.getfield index, 3)) (kk : W p l e R s m args below meth c H locs cells slots Q (F0 m (pc + 3) ls (.int (iN (σ.1 (11, 0, 0) 21)) :: rest))) : W p l e R s m args below meth c H locs cells slots Q (F0 m pc ls (.ref (ad (11, 0, 0)) :: rest)) := z_get (ci := 5) (C := RX5) (T := TX5) (N := 35) (fs := fX5 ad 0 (σ.1 (11, 0, 0))) M hin hW hκ rfl rfl 21 (by decide) hf (fun _ h => h) rfl hdg kk
theorem zp_X5_21 (M : MF p s m args c cc nL own D ca) (hin : ∀ w ∈ u_ws RX5 TX5 35, w ∈ UW) (hW : XW D A K ad (cR ca ad σ) H) (hS : va_S A H0 H locs) (hκ : (11, 0, 0) ∈ K) {index : Nat} (hf : (Cond.fieldLink own index "NightRidersModel" "latest" "I").before args s = true) {v : Int} (hdg : decode cc pc = .ok (.putfield index, 3)) (kk : ∀ (H1 : Heap) (locs1 : List Loc), XW D A K ad (cR ca ad (s1 σ (11, 0, 0) 21 v)) H1 → va_S A H0 H1 locs1 → W p l e R s m args below meth c H1 locs1 cells slots Q (F0 m (pc + 3) ls rest)) : W p l e R s m args below meth c H locs cells slots Q (F0 m pc ls (.int (iN v) :: .ref (ad (11, 0, 0)) :: rest)) := z_put (ci := 5) (C := RX5) (T := TX5) (N := 35) (fs := fX5 ad 0 (σ.1 (11, 0, 0))) (ty := .int) M hin hW hκ rfl rfl 21 (by decide) hf (fun _ h => h) tyX5 tyX5_ok nmX5 hS rfl (by decide +kernel) rfl rfl (Nat.le_of_ble_eq_true rfl) hdg (fun H1 locs1 hW1 hS1 => kk H1 locs1 (hW1.to (cR_1 ca ad σ (11, 0, 0) 21 v)) hS1)
theorem zg_X5_22 (M : MF p s m args c cc nL own D ca) (hin : ∀ w ∈ u_ws RX5 TX5 35, w ∈ UW) (hW : XW D A K ad (cR ca ad σ) H) (hκ : (11, 0, 0) ∈ K) {index : Nat} (hf : (Cond.fieldLink own index "NightRidersModel" "legs" "[I").before args s = true) (hdg : decode cc pc = .ok (.getfield index, 3)) (kk : W p l e R s m args below meth c H locs cells slots Q (F0 m (pc + 3) ls (.ref (ad (12, 17, 0)) :: rest))) : W p l e R s m args below meth c H locs cells slots Q (F0 m pc ls (.ref (ad (11, 0, 0)) :: rest)) := z_get (ci := 5) (C := RX5) (T := TX5) (N := 35) (fs := fX5 ad 0 (σ.1 (11, 0, 0))) M hin hW hκ rfl rfl 22 (by decide) hf (fun _ h => h) rfl hdg kk
theorem zg_X5_23 (M : MF p s m args c cc nL own D ca) (hin : ∀ w ∈ u_ws RX5 TX5 35, w ∈ UW) (hW : XW D A K ad (cR ca ad σ) H) (hκ : (11, 0, 0) ∈ K) {index : Nat} (hf : (Cond.fieldLink own index "NightRidersModel" "legMany" "[I").before args s = true) (hdg : decode cc pc = .ok (.getfield index, 3)) (kk : W p l e R s m args below meth c H locs cells slots Q (F0 m (pc + 3) ls (.ref (ad (12, 18, 0)) :: rest))) : W p l e R s m args below meth c H locs cells slots Q (F0 m pc ls (.ref (ad (11, 0, 0)) :: rest)) := z_get (ci := 5) (C := RX5) (T := TX5) (N := 35) (fs := fX5 ad 0 (σ.1 (11, 0, 0))) M hin hW hκ rfl rfl 23 (by decide) hf (fun _ h => h) rfl hdg kk
theorem zg_X5_24 (M : MF p s m args c cc nL own D ca) (hin : ∀ w ∈ u_ws RX5 TX5 35, w ∈ UW) (hW : XW D A K ad (cR ca ad σ) H) (hκ : (11, 0, 0) ∈ K) {index : Nat} (hf : (Cond.fieldLink own index "NightRidersModel" "thrown" "I").before args s = true) (hdg : decode cc pc = .ok (.getfield index, 3)) (kk : W p l e R s m args below meth c H locs cells slots Q (F0 m (pc + 3) ls (.int (iN (σ.1 (11, 0, 0) 24)) :: rest))) : W p l e R s m args below meth c H locs cells slots Q (F0 m pc ls (.ref (ad (11, 0, 0)) :: rest)) := z_get (ci := 5) (C := RX5) (T := TX5) (N := 35) (fs := fX5 ad 0 (σ.1 (11, 0, 0))) M hin hW hκ rfl rfl 24 (by decide) hf (fun _ h => h) rfl hdg kk
theorem zp_X5_24 (M : MF p s m args c cc nL own D ca) (hin : ∀ w ∈ u_ws RX5 TX5 35, w ∈ UW) (hW : XW D A K ad (cR ca ad σ) H) (hS : va_S A H0 H locs) (hκ : (11, 0, 0) ∈ K) {index : Nat} (hf : (Cond.fieldLink own index "NightRidersModel" "thrown" "I").before args s = true) {v : Int} (hdg : decode cc pc = .ok (.putfield index, 3)) (kk : ∀ (H1 : Heap) (locs1 : List Loc), XW D A K ad (cR ca ad (s1 σ (11, 0, 0) 24 v)) H1 → va_S A H0 H1 locs1 → W p l e R s m args below meth c H1 locs1 cells slots Q (F0 m (pc + 3) ls rest)) : W p l e R s m args below meth c H locs cells slots Q (F0 m pc ls (.int (iN v) :: .ref (ad (11, 0, 0)) :: rest)) := z_put (ci := 5) (C := RX5) (T := TX5) (N := 35) (fs := fX5 ad 0 (σ.1 (11, 0, 0))) (ty := .int) M hin hW hκ rfl rfl 24 (by decide) hf (fun _ h => h) tyX5 tyX5_ok nmX5 hS rfl (by decide +kernel) rfl rfl (Nat.le_of_ble_eq_true rfl) hdg (fun H1 locs1 hW1 hS1 => kk H1 locs1 (hW1.to (cR_1 ca ad σ (11, 0, 0) 24 v)) hS1)
theorem zg_X5_25 (M : MF p s m args c cc nL own D ca) (hin : ∀ w ∈ u_ws RX5 TX5 35, w ∈ UW) (hW : XW D A K ad (cR ca ad σ) H) (hκ : (11, 0, 0) ∈ K) {index : Nat} (hf : (Cond.fieldLink own index "NightRidersModel" "far" "[I").before args s = true) (hdg : decode cc pc = .ok (.getfield index, 3)) (kk : W p l e R s m args below meth c H locs cells slots Q (F0 m (pc + 3) ls (.ref (ad (12, 19, 0)) :: rest))) : W p l e R s m args below meth c H locs cells slots Q (F0 m pc ls (.ref (ad (11, 0, 0)) :: rest)) := z_get (ci := 5) (C := RX5) (T := TX5) (N := 35) (fs := fX5 ad 0 (σ.1 (11, 0, 0))) M hin hW hκ rfl rfl 25 (by decide) hf (fun _ h => h) rfl hdg kk
theorem zg_X5_26 (M : MF p s m args c cc nL own D ca) (hin : ∀ w ∈ u_ws RX5 TX5 35, w ∈ UW) (hW : XW D A K ad (cR ca ad σ) H) (hκ : (11, 0, 0) ∈ K) {index : Nat} (hf : (Cond.fieldLink own index "NightRidersModel" "tryRider" "[I").before args s = true) (hdg : decode cc pc = .ok (.getfield index, 3)) (kk : W p l e R s m args below meth c H locs cells slots Q (F0 m (pc + 3) ls (.ref (ad (12, 20, 0)) :: rest))) : W p l e R s m args below meth c H locs cells slots Q (F0 m pc ls (.ref (ad (11, 0, 0)) :: rest)) := z_get (ci := 5) (C := RX5) (T := TX5) (N := 35) (fs := fX5 ad 0 (σ.1 (11, 0, 0))) M hin hW hκ rfl rfl 26 (by decide) hf (fun _ h => h) rfl hdg kk
theorem zg_X5_27 (M : MF p s m args c cc nL own D ca) (hin : ∀ w ∈ u_ws RX5 TX5 35, w ∈ UW) (hW : XW D A K ad (cR ca ad σ) H) (hκ : (11, 0, 0) ∈ K) {index : Nat} (hf : (Cond.fieldLink own index "NightRidersModel" "tryPlace" "[I").before args s = true) (hdg : decode cc pc = .ok (.getfield index, 3)) (kk : W p l e R s m args below meth c H locs cells slots Q (F0 m (pc + 3) ls (.ref (ad (12, 21, 0)) :: rest))) : W p l e R s m args below meth c H locs cells slots Q (F0 m pc ls (.ref (ad (11, 0, 0)) :: rest)) := z_get (ci := 5) (C := RX5) (T := TX5) (N := 35) (fs := fX5 ad 0 (σ.1 (11, 0, 0))) M hin hW hκ rfl rfl 27 (by decide) hf (fun _ h => h) rfl hdg kk
theorem zg_X5_28 (M : MF p s m args c cc nL own D ca) (hin : ∀ w ∈ u_ws RX5 TX5 35, w ∈ UW) (hW : XW D A K ad (cR ca ad σ) H) (hκ : (11, 0, 0) ∈ K) {index : Nat} (hf : (Cond.fieldLink own index "NightRidersModel" "tryStart" "[I").before args s = true) (hdg : decode cc pc = .ok (.getfield index, 3)) (kk : W p l e R s m args below meth c H locs cells slots Q (F0 m (pc + 3) ls (.ref (ad (12, 22, 0)) :: rest))) : W p l e R s m args below meth c H locs cells slots Q (F0 m pc ls (.ref (ad (11, 0, 0)) :: rest)) := z_get (ci := 5) (C := RX5) (T := TX5) (N := 35) (fs := fX5 ad 0 (σ.1 (11, 0, 0))) M hin hW hκ rfl rfl 28 (by decide) hf (fun _ h => h) rfl hdg kk
theorem zg_X5_29 (M : MF p s m args c cc nL own D ca) (hin : ∀ w ∈ u_ws RX5 TX5 35, w ∈ UW) (hW : XW D A K ad (cR ca ad σ) H) (hκ : (11, 0, 0) ∈ K) {index : Nat} (hf : (Cond.fieldLink own index "NightRidersModel" "tryEnd" "[I").before args s = true) (hdg : decode cc pc = .ok (.getfield index, 3)) (kk : W p l e R s m args below meth c H locs cells slots Q (F0 m (pc + 3) ls (.ref (ad (12, 23, 0)) :: rest))) : W p l e R s m args below meth c H locs cells slots Q (F0 m pc ls (.ref (ad (11, 0, 0)) :: rest)) := z_get (ci := 5) (C := RX5) (T := TX5) (N := 35) (fs := fX5 ad 0 (σ.1 (11, 0, 0))) M hin hW hκ rfl rfl 29 (by decide) hf (fun _ h => h) rfl hdg kk
theorem zg_X5_30 (M : MF p s m args c cc nL own D ca) (hin : ∀ w ∈ u_ws RX5 TX5 35, w ∈ UW) (hW : XW D A K ad (cR ca ad σ) H) (hκ : (11, 0, 0) ∈ K) {index : Nat} (hf : (Cond.fieldLink own index "NightRidersModel" "bestRider" "[I").before args s = true) (hdg : decode cc pc = .ok (.getfield index, 3)) (kk : W p l e R s m args below meth c H locs cells slots Q (F0 m (pc + 3) ls (.ref (ad (12, 24, 0)) :: rest))) : W p l e R s m args below meth c H locs cells slots Q (F0 m pc ls (.ref (ad (11, 0, 0)) :: rest)) := z_get (ci := 5) (C := RX5) (T := TX5) (N := 35) (fs := fX5 ad 0 (σ.1 (11, 0, 0))) M hin hW hκ rfl rfl 30 (by decide) hf (fun _ h => h) rfl hdg kk
theorem zg_X5_31 (M : MF p s m args c cc nL own D ca) (hin : ∀ w ∈ u_ws RX5 TX5 35, w ∈ UW) (hW : XW D A K ad (cR ca ad σ) H) (hκ : (11, 0, 0) ∈ K) {index : Nat} (hf : (Cond.fieldLink own index "NightRidersModel" "bestPlace" "[I").before args s = true) (hdg : decode cc pc = .ok (.getfield index, 3)) (kk : W p l e R s m args below meth c H locs cells slots Q (F0 m (pc + 3) ls (.ref (ad (12, 25, 0)) :: rest))) : W p l e R s m args below meth c H locs cells slots Q (F0 m pc ls (.ref (ad (11, 0, 0)) :: rest)) := z_get (ci := 5) (C := RX5) (T := TX5) (N := 35) (fs := fX5 ad 0 (σ.1 (11, 0, 0))) M hin hW hκ rfl rfl 31 (by decide) hf (fun _ h => h) rfl hdg kk
theorem zg_X5_32 (M : MF p s m args c cc nL own D ca) (hin : ∀ w ∈ u_ws RX5 TX5 35, w ∈ UW) (hW : XW D A K ad (cR ca ad σ) H) (hκ : (11, 0, 0) ∈ K) {index : Nat} (hf : (Cond.fieldLink own index "NightRidersModel" "bestStart" "[I").before args s = true) (hdg : decode cc pc = .ok (.getfield index, 3)) (kk : W p l e R s m args below meth c H locs cells slots Q (F0 m (pc + 3) ls (.ref (ad (12, 26, 0)) :: rest))) : W p l e R s m args below meth c H locs cells slots Q (F0 m pc ls (.ref (ad (11, 0, 0)) :: rest)) := z_get (ci := 5) (C := RX5) (T := TX5) (N := 35) (fs := fX5 ad 0 (σ.1 (11, 0, 0))) M hin hW hκ rfl rfl 32 (by decide) hf (fun _ h => h) rfl hdg kk
theorem zg_X5_33 (M : MF p s m args c cc nL own D ca) (hin : ∀ w ∈ u_ws RX5 TX5 35, w ∈ UW) (hW : XW D A K ad (cR ca ad σ) H) (hκ : (11, 0, 0) ∈ K) {index : Nat} (hf : (Cond.fieldLink own index "NightRidersModel" "bestEnd" "[I").before args s = true) (hdg : decode cc pc = .ok (.getfield index, 3)) (kk : W p l e R s m args below meth c H locs cells slots Q (F0 m (pc + 3) ls (.ref (ad (12, 27, 0)) :: rest))) : W p l e R s m args below meth c H locs cells slots Q (F0 m pc ls (.ref (ad (11, 0, 0)) :: rest)) := z_get (ci := 5) (C := RX5) (T := TX5) (N := 35) (fs := fX5 ad 0 (σ.1 (11, 0, 0))) M hin hW hκ rfl rfl 33 (by decide) hf (fun _ h => h) rfl hdg kk
theorem zg_X5_34 (M : MF p s m args c cc nL own D ca) (hin : ∀ w ∈ u_ws RX5 TX5 35, w ∈ UW) (hW : XW D A K ad (cR ca ad σ) H) (hκ : (11, 0, 0) ∈ K) {index : Nat} (hf : (Cond.fieldLink own index "NightRidersModel" "bestMany" "I").before args s = true) (hdg : decode cc pc = .ok (.getfield index, 3)) (kk : W p l e R s m args below meth c H locs cells slots Q (F0 m (pc + 3) ls (.int (iN (σ.1 (11, 0, 0) 34)) :: rest))) : W p l e R s m args below meth c H locs cells slots Q (F0 m pc ls (.ref (ad (11, 0, 0)) :: rest)) := z_get (ci := 5) (C := RX5) (T := TX5) (N := 35) (fs := fX5 ad 0 (σ.1 (11, 0, 0))) M hin hW hκ rfl rfl 34 (by decide) hf (fun _ h => h) rfl hdg kk
theorem zp_X5_34 (M : MF p s m args c cc nL own D ca) (hin : ∀ w ∈ u_ws RX5 TX5 35, w ∈ UW) (hW : XW D A K ad (cR ca ad σ) H) (hS : va_S A H0 H locs) (hκ : (11, 0, 0) ∈ K) {index : Nat} (hf : (Cond.fieldLink own index "NightRidersModel" "bestMany" "I").before args s = true) {v : Int} (hdg : decode cc pc = .ok (.putfield index, 3)) (kk : ∀ (H1 : Heap) (locs1 : List Loc), XW D A K ad (cR ca ad (s1 σ (11, 0, 0) 34 v)) H1 → va_S A H0 H1 locs1 → W p l e R s m args below meth c H1 locs1 cells slots Q (F0 m (pc + 3) ls rest)) : W p l e R s m args below meth c H locs cells slots Q (F0 m pc ls (.int (iN v) :: .ref (ad (11, 0, 0)) :: rest)) := z_put (ci := 5) (C := RX5) (T := TX5) (N := 35) (fs := fX5 ad 0 (σ.1 (11, 0, 0))) (ty := .int) M hin hW hκ rfl rfl 34 (by decide) hf (fun _ h => h) tyX5 tyX5_ok nmX5 hS rfl (by decide +kernel) rfl rfl (Nat.le_of_ble_eq_true rfl) hdg (fun H1 locs1 hW1 hS1 => kk H1 locs1 (hW1.to (cR_1 ca ad σ (11, 0, 0) 34 v)) hS1)
theorem za_i (M : MF p s m args c cc nL own D ca) (hW : XW D A K ad (cR ca ad σ) H) (hκ : κ ∈ K) {n : Nat} (he : ∀ f r, cE ca ad κ f r = .inl (ca 0, n, .inl (fun j => iN (f j)))) {i : Int} (h0 : 0 ≤ i) (h1 : i < n) (hn : n < 2147483648) (hdg : decode cc pc = .ok (.iaload, 1)) (kk : W p l e R s m args below meth c H locs cells slots Q (F0 m (pc + 1) ls (.int (iN (σ.1 κ i.toNat)) :: rest))) : W p l e R s m args below meth c H locs cells slots Q (F0 m pc ls (.int (iN i) :: .ref (ad κ) :: rest)) := z_iald M hW hκ (he _ _) h0 h1 hn hdg kk
theorem za_z (M : MF p s m args c cc nL own D ca) (hW : XW D A K ad (cR ca ad σ) H) (hκ : κ ∈ K) {n : Nat} (he : ∀ f r, cE ca ad κ f r = .inl (ca 1, n, .inl (fun j => iN (f j)))) {i : Int} (h0 : 0 ≤ i) (h1 : i < n) (hn : n < 2147483648) (hdg : decode cc pc = .ok (.baload, 1)) (kk : W p l e R s m args below meth c H locs cells slots Q (F0 m (pc + 1) ls (.int (iN (σ.1 κ i.toNat)) :: rest))) : W p l e R s m args below meth c H locs cells slots Q (F0 m pc ls (.int (iN i) :: .ref (ad κ) :: rest)) := z_zald M hW hκ (he _ _) h0 h1 hn hdg kk
theorem zs_i (M : MF p s m args c cc nL own D ca) (hW : XW D A K ad (cR ca ad σ) H) (hS : va_S A H0 H locs) (hκ : κ ∈ K) {n : Nat} (he : ∀ f r, cE ca ad κ f r = .inl (ca 0, n, .inl (fun j => iN (f j)))) {i x : Int} (h0 : 0 ≤ i) (h1 : i < n) (hn : n < 2147483648) (hdg : decode cc pc = .ok (.iastore, 1)) (kk : ∀ (H1 : Heap) (locs1 : List Loc), XW D A K ad (cR ca ad (s1 σ κ i.toNat x)) H1 → va_S A H0 H1 locs1 → W p l e R s m args below meth c H1 locs1 cells slots Q (F0 m (pc + 1) ls rest)) : W p l e R s m args below meth c H locs cells slots Q (F0 m pc ls (.int (iN x) :: .int (iN i) :: .ref (ad κ) :: rest)) := z_iast M hW hS hκ (he _ _) h0 h1 hn hdg (fun H1 locs1 hW1 hS1 => kk H1 locs1 (hW1.to (by rw [← he _ (σ.2 κ)]; exact cR_1 ca ad σ κ _ _)) hS1)
theorem zs_z (M : MF p s m args c cc nL own D ca) (hW : XW D A K ad (cR ca ad σ) H) (hS : va_S A H0 H locs) (hκ : κ ∈ K) {n : Nat} (he : ∀ f r, cE ca ad κ f r = .inl (ca 1, n, .inl (fun j => iN (f j)))) {i x : Int} (h0 : 0 ≤ i) (h1 : i < n) (hn : n < 2147483648) (hx : x = 0 ∨ x = 1) (hdg : decode cc pc = .ok (.bastore, 1)) (kk : ∀ (H1 : Heap) (locs1 : List Loc), XW D A K ad (cR ca ad (s1 σ κ i.toNat x)) H1 → va_S A H0 H1 locs1 → W p l e R s m args below meth c H1 locs1 cells slots Q (F0 m (pc + 1) ls rest)) : W p l e R s m args below meth c H locs cells slots Q (F0 m pc ls (.int (iN x) :: .int (iN i) :: .ref (ad κ) :: rest)) := z_zast M hW hS hκ (he _ _) h0 h1 hn hx hdg (fun H1 locs1 hW1 hS1 => kk H1 locs1 (hW1.to (by rw [← he _ (σ.2 κ)]; exact cR_1 ca ad σ κ _ _)) hS1)
theorem za_q (M : MF p s m args c cc nL own D ca) (hW : XW D A K ad (cR ca ad σ) H) (hκ : κ ∈ K) {n t0 kd : Nat} {C : String} (he : ∀ f r, cE ca ad κ f r = .inl (ca t0, n, .inr (.inr (.inr (.inr (zRefs ad kd r)))))) (ht : (tysL ca)[t0]? = some (ca t0, .object C)) {i : Int} (h0 : 0 ≤ i) (h1 : i < n) (hn : n < 2147483648) (hdg : decode cc pc = .ok (.aaload, 1)) (kk : W p l e R s m args below meth c H locs cells slots Q (F0 m (pc + 1) ls (zrf ad kd (σ.2 κ i.toNat) :: rest))) : W p l e R s m args below meth c H locs cells slots Q (F0 m pc ls (.int (iN i) :: .ref (ad κ) :: rest)) := z_qald M hW hκ (he _ _) ht h0 h1 hn hdg (by rw [zRefs_rf]; exact kk)
theorem zs_q (M : MF p s m args c cc nL own D ca) (hW : XW D A K ad (cR ca ad σ) H) (hS : va_S A H0 H locs) (hκ : κ ∈ K) {n t0 kd ci : Nat} {r : vw_C} (he : ∀ f r, cE ca ad κ f r = .inl (ca t0, n, .inr (.inr (.inr (.inr (zRefs ad kd r)))))) (ht : (tysL ca)[t0]? = some (ca t0, .object r.1)) {q : Nat} (hκ2 : (kd, q, 0) ∈ K) {fs : List Value} (he2 : cR ca ad σ (kd, q, 0) = .inr (ci, fs)) (hc : vwCl[ci]? = some r) {i : Int} (h0 : 0 ≤ i) (h1 : i < n) (hn : n < 2147483648) (hdg : decode cc pc = .ok (.aastore, 1)) (kk : ∀ (H1 : Heap) (locs1 : List Loc), XW D A K ad (cR ca ad (s2 σ κ i.toNat (some q))) H1 → va_S A H0 H1 locs1 → W p l e R s m args below meth c H1 locs1 cells slots Q (F0 m (pc + 1) ls rest)) : W p l e R s m args below meth c H locs cells slots Q (F0 m pc ls (.ref (ad (kd, q, 0)) :: .int (iN i) :: .ref (ad κ) :: rest)) := z_qast M hW hS hκ (he _ _) ht hκ2 he2 hc h0 h1 hn hdg (fun H1 locs1 hW1 hS1 => kk H1 locs1 (hW1.to (by rw [zRefs_up, ← he (σ.1 κ)]; exact cR_2 ca ad σ κ _ _)) hS1)
theorem zr_i (M : MF p s m args c cc nL own D ca) {S : Type} {vf : S → Option Value} {Wf : S → Heap → Prop} (hr : meth.sig.returnType = some .int) (hlocks : meth.locks = false) (u : S) {x : Int32} (hv : vf u = some (.int x)) (hw : Wf u H) (hS : va_S A s.heap H locs) (hdg : decode cc pc = .ok (.ireturn, 1)) : W p l e R s m args below meth c H locs cells slots (MQ below (ZU vf Wf A) args s cells slots A) (F0 m pc ls [.int x]) := W.iret M.hx M.hb hr (fun t ht _ => ⟨⟨u, by rw [hv], by rw [ht]; exact hw⟩, hS.F ht⟩) hS.2.2 hdg hlocks
theorem zr_z (M : MF p s m args c cc nL own D ca) {S : Type} {vf : S → Option Value} {Wf : S → Heap → Prop} (hr : meth.sig.returnType = some .boolean) (hlocks : meth.locks = false) (u : S) {x : Int} (hx : x = 0 ∨ x = 1) (hv : vf u = some (.int (iN x))) (hw : Wf u H) (hS : va_S A s.heap H locs) (hdg : decode cc pc = .ok (.ireturn, 1)) : W p l e R s m args below meth c H locs cells slots (MQ below (ZU vf Wf A) args s cells slots A) (F0 m pc ls [.int (iN x)]) := W.zret M.hx M.hb hr (by rcases hx with rfl | rfl <;> rfl) (fun t ht _ => ⟨⟨u, by rw [hv], by rw [ht]; exact hw⟩, hS.F ht⟩) hS.2.2 hdg hlocks
theorem zr_v (M : MF p s m args c cc nL own D ca) {S : Type} {vf : S → Option Value} {Wf : S → Heap → Prop} (hr : meth.sig.returnType = none) (hlocks : meth.locks = false) (u : S) (hv : vf u = none) (hw : Wf u H) (hS : va_S A s.heap H locs) (hdg : decode cc pc = .ok (.return_, 1)) : W p l e R s m args below meth c H locs cells slots (MQ below (ZU vf Wf A) args s cells slots A) (F0 m pc ls []) := W.vret M.hx M.hb hr (fun t ht _ => ⟨⟨u, by rw [hv], by rw [ht]; exact hw⟩, hS.F ht⟩) hS.2.2 hdg hlocks
theorem zr_q (M : MF p s m args c cc nL own D ca) {S : Type} {vf : S → Option Value} {Wf : S → Heap → Prop} {C : String} (hr : meth.sig.returnType = some (.object C)) (hlocks : meth.locks = false) (u : S) {v : Value} (hn : v = .null ∨ ∃ a, v = .ref a) (hv : vf u = some v) (hw : Wf u H) (hS : va_S A s.heap H locs) (hdg : decode cc pc = .ok (.areturn, 1)) : W p l e R s m args below meth c H locs cells slots (MQ below (ZU vf Wf A) args s cells slots A) (F0 m pc ls [v]) := W.aret M.hx M.hb hr (Or.inl ⟨_, rfl⟩) hn (fun t ht _ => ⟨⟨u, by rw [hv], by rw [ht]; exact hw⟩, hS.F ht⟩) hS.2.2 hdg hlocks
theorem z_entry {av : List Value} {n : Nat} (ha : args = av.toArray) (hn : (lg_sl av).length ≤ n) (kk : ∀ ls, lv_has ls n (lv_args 0 av) → W p l e R s m args below meth c H locs cells slots Q (F0 m 0 ls [])) : W p l e R s m args below meth c H locs cells slots Q (entryFrame m args n) := by
  have hl := lv_entry av (n := n) hn
  rw [show entryFrame m args n = entryFrame m av.toArray n from by rw [ha], lg_entry_eq]
  exact kk _ hl
theorem z_start {y : MethodName} {rm : Room} {maxL : Nat} {ret : Option FieldType} {av : List Value} {sz mc ms : Nat} {Qc : Nat → Array Value → State → Outcome → State → Prop} (hy : plainName y.cls = true) (ho : y.cls = own) (hlen : (lg_sl av).length ≤ maxL) (body : ∀ (p : Program) (e : Env) (s : State) (m : MethodId) (args : Array Value) (below : List Frame) (meth : Method) (c : Code), MF p s m args c cc maxL own D ca → meth.sig.returnType = ret → meth.locks = false → XW D (FA K ad s.heap.size) K ad (cR ca ad σ) s.heap → ∀ ls, lv_has ls maxL (lv_args 0 av) → W p l e rm s m args below meth c s.heap [] 0 0 (MQ below (Qc s.heap.size) args s mc ms (FA K ad s.heap.size)) (F0 m 0 ls [])) : Met l y (Cond.code y cc maxL ret :: UW) rm (ZP D ca av (ZB D K ad ca σ sz)) (Qc sz) mc ms (FA K ad sz) := by
  refine Met.ofW (cc := cc) (maxL := maxL) (ret := ret) hy rfl ?_
  intro p e s m args below meth c s₁ B hml hv
  obtain ⟨hav, ⟨rfl, hW⟩, hZ⟩ := hv
  have hts := atoms_spec (ws := Cond.code y cc maxL ret :: UW) B.pre
  refine z_entry hav hlen (fun ls hl => ?_)
  exact body p e s m args below meth c ⟨⟨B.exec, B.bytes, hml, by rw [← ho]; exact findClass_of_methodNamed B.named, fun w hw => hts w (List.mem_cons_of_mem _ hw)⟩, hZ⟩ B.returns B.notSynchronized hW.self ls hl
end ZH
end
