abbrev nSE : String := "java/util/NoSuchElementException"
abbrev nSX : ByteArray := prog_14_method_4_code
theorem nSX_0 : decode nSX 0 = .ok (.aload_n 0, 1) := by decide +kernel
theorem nSX_1 : decode nSX 1 = .ok (.aload_n 1, 1) := by decide +kernel
theorem nSX_2 : decode nSX 2 = .ok (.invokespecial 13, 3) := by decide +kernel
theorem nSX_5 : decode nSX 5 = .ok (.return_, 1) := by decide +kernel
def oxT : List Cond := [.methodLink RX4 88 (Bundle.initS nSE), .instantiable nSE 6, .castable nSE nSE, .selects nSE Bundle.tFill0 Bundle.tFill0, .selects nSE Bundle.tFill Bundle.tFill, .lays nSE Bundle.tN "cause" "Ljava/lang/Throwable;", .lays nSE Bundle.tN "stackTrace" Bundle.steD, .lays nSE Bundle.tN "suppressedExceptions" Bundle.listD, .lays nSE Bundle.tN "detailMessage" "Ljava/lang/String;", .isRef (.static Bundle.tN "UNASSIGNED_STACK" Bundle.steD), .isRef (.static Bundle.tN "SUPPRESSED_SENTINEL" Bundle.listD), .fieldLink Bundle.tN 198 Bundle.tN "backtrace" "Ljava/lang/Object;", .lays Bundle.tN Bundle.tN "backtrace" "Ljava/lang/Object;", .lays nSE Bundle.tN "backtrace" "Ljava/lang/Object;"]
def oxL : List Cond := Bundle.throwableAtoms ++ Bundle.throwableSAtoms ++ (Bundle.passSAtoms nSE "java/lang/RuntimeException" 13 nSX ++ Bundle.chainSAtoms "java/lang/RuntimeException" ["java/lang/Exception"]) ++ oxT
def oxB : List Cond := [.castable nSE nSE, .declares (Bundle.initS "java/lang/RuntimeException"), .declares (Bundle.initS "java/lang/Exception"), .declares (Bundle.initS Bundle.tN)]
theorem u_x_0 : Cond.initialized Bundle.tN ∈ UW := UW_in (i := 36) (by decide +kernel) (by decide +kernel)
theorem u_x_1 : Cond.superclass Bundle.tN "java/lang/Object" ∈ UW := UW_in (i := 514) (by decide +kernel) (by decide +kernel)
theorem u_x_2 : Cond.instanceMethod Bundle.tFill ∈ UW := UW_in (i := 523) (by decide +kernel) (by decide +kernel)
theorem u_x_3 : Cond.codeSync Bundle.tFill LibCode.Throwable.Fill.code 1 (some (.object Bundle.tN)) ∈ UW := UW_in (i := 525) (by decide +kernel) (by decide +kernel)
theorem u_x_4 : Cond.instanceMethod Bundle.tFill0 ∈ UW := UW_in (i := 528) (by decide +kernel) (by decide +kernel)
theorem u_x_5 : Cond.native Bundle.tFill0 ∈ UW := UW_in (i := 530) (by decide +kernel) (by decide +kernel)
theorem u_x_6 : Cond.instanceMethod Bundle.tInit0 ∈ UW := UW_in (i := 515) (by decide +kernel) (by decide +kernel)
theorem u_x_7 : Cond.code Bundle.tInit0 LibCode.Throwable.Init0.code 1 none ∈ UW := UW_in (i := 516) (by decide +kernel) (by decide +kernel)
theorem u_x_8 : Cond.instanceMethod Bundle.oInit ∈ UW := UW_in (i := 49) (by decide +kernel) (by decide +kernel)
theorem u_x_9 : Cond.code Bundle.oInit ⟨#[0xb1]⟩ 1 none ∈ UW := UW_in (i := 50) (by decide +kernel) (by decide +kernel)
theorem u_x_10 : Cond.methodLink Bundle.tN 1 Bundle.oInit ∈ UW := UW_in (i := 517) (by decide +kernel) (by decide +kernel)
theorem u_x_11 : Cond.methodLink Bundle.tN 27 Bundle.tFill ∈ UW := UW_in (i := 522) (by decide +kernel) (by decide +kernel)
theorem u_x_12 : Cond.methodLink Bundle.tN 202 Bundle.tFill0 ∈ UW := UW_in (i := 526) (by decide +kernel) (by decide +kernel)
theorem u_x_13 : Cond.fieldLink Bundle.tN 7 Bundle.tN "cause" "Ljava/lang/Throwable;" ∈ UW := UW_in (i := 546) (by decide +kernel) (by decide +kernel)
theorem u_x_14 : Cond.lays Bundle.tN Bundle.tN "cause" "Ljava/lang/Throwable;" ∈ UW := UW_in (i := 504) (by decide +kernel) (by decide +kernel)
theorem u_x_15 : Cond.fieldLink Bundle.tN 17 Bundle.tN "stackTrace" Bundle.steD ∈ UW := UW_in (i := 547) (by decide +kernel) (by decide +kernel)
theorem u_x_16 : Cond.lays Bundle.tN Bundle.tN "stackTrace" Bundle.steD ∈ UW := UW_in (i := 506) (by decide +kernel) (by decide +kernel)
theorem u_x_17 : Cond.fieldLink Bundle.tN 24 Bundle.tN "suppressedExceptions" Bundle.listD ∈ UW := UW_in (i := 548) (by decide +kernel) (by decide +kernel)
theorem u_x_18 : Cond.lays Bundle.tN Bundle.tN "suppressedExceptions" Bundle.listD ∈ UW := UW_in (i := 508) (by decide +kernel) (by decide +kernel)
theorem u_x_19 : Cond.fieldLink Bundle.tN 13 Bundle.tN "UNASSIGNED_STACK" Bundle.steD ∈ UW := UW_in (i := 518) (by decide +kernel) (by decide +kernel)
theorem u_x_20 : Cond.fieldLink Bundle.tN 20 Bundle.tN "SUPPRESSED_SENTINEL" Bundle.listD ∈ UW := UW_in (i := 520) (by decide +kernel) (by decide +kernel)
theorem u_x_21 : Cond.lays Bundle.tN Bundle.tN "detailMessage" "Ljava/lang/String;" ∈ UW := UW_in (i := 510) (by decide +kernel) (by decide +kernel)
theorem u_x_22 : Cond.instanceMethod (Bundle.initS Bundle.tN) ∈ UW := UW_in (i := 542) (by decide +kernel) (by decide +kernel)
theorem u_x_23 : Cond.code (Bundle.initS Bundle.tN) LibCode.Throwable.InitS.code 2 none ∈ UW := UW_in (i := 543) (by decide +kernel) (by decide +kernel)
theorem u_x_24 : Cond.fieldLink Bundle.tN 31 Bundle.tN "detailMessage" "Ljava/lang/String;" ∈ UW := UW_in (i := 545) (by decide +kernel) (by decide +kernel)
theorem u_x_25 : Cond.instanceMethod (Bundle.initS nSE) ∈ UW := UW_in (i := 533) (by decide +kernel) (by decide +kernel)
theorem u_x_26 : Cond.code (Bundle.initS nSE) nSX 2 none ∈ UW := UW_in (i := 534) (by decide +kernel) (by decide +kernel)
theorem u_x_27 : Cond.methodLink nSE 13 (Bundle.initS "java/lang/RuntimeException") ∈ UW := UW_in (i := 535) (by decide +kernel) (by decide +kernel)
theorem u_x_28 : Cond.instanceMethod (Bundle.initS "java/lang/RuntimeException") ∈ UW := UW_in (i := 536) (by decide +kernel) (by decide +kernel)
theorem u_x_29 : Cond.code (Bundle.initS "java/lang/RuntimeException") Bundle.six 2 none ∈ UW := UW_in (i := 537) (by decide +kernel) (by decide +kernel)
theorem u_x_30 : Cond.methodLink "java/lang/RuntimeException" 7 (Bundle.initS "java/lang/Exception") ∈ UW := UW_in (i := 538) (by decide +kernel) (by decide +kernel)
theorem u_x_31 : Cond.instanceMethod (Bundle.initS "java/lang/Exception") ∈ UW := UW_in (i := 539) (by decide +kernel) (by decide +kernel)
theorem u_x_32 : Cond.code (Bundle.initS "java/lang/Exception") Bundle.six 2 none ∈ UW := UW_in (i := 540) (by decide +kernel) (by decide +kernel)
theorem u_x_33 : Cond.methodLink "java/lang/Exception" 7 (Bundle.initS Bundle.tN) ∈ UW := UW_in (i := 541) (by decide +kernel) (by decide +kernel)
theorem u_x_34 : Cond.methodLink RX4 88 (Bundle.initS nSE) ∈ UW := UW_in (i := 532) (by decide +kernel) (by decide +kernel)
theorem u_x_35 : Cond.instantiable nSE 6 ∈ UW := UW_in (i := 493) (by decide +kernel) (by decide +kernel)
theorem u_x_36 : Cond.selects nSE Bundle.tFill0 Bundle.tFill0 ∈ UW := UW_in (i := 501) (by decide +kernel) (by decide +kernel)
theorem u_x_37 : Cond.selects nSE Bundle.tFill Bundle.tFill ∈ UW := UW_in (i := 502) (by decide +kernel) (by decide +kernel)
theorem u_x_38 : Cond.lays nSE Bundle.tN "cause" "Ljava/lang/Throwable;" ∈ UW := UW_in (i := 503) (by decide +kernel) (by decide +kernel)
theorem u_x_39 : Cond.lays nSE Bundle.tN "stackTrace" Bundle.steD ∈ UW := UW_in (i := 505) (by decide +kernel) (by decide +kernel)
theorem u_x_40 : Cond.lays nSE Bundle.tN "suppressedExceptions" Bundle.listD ∈ UW := UW_in (i := 507) (by decide +kernel) (by decide +kernel)
theorem u_x_41 : Cond.lays nSE Bundle.tN "detailMessage" "Ljava/lang/String;" ∈ UW := UW_in (i := 509) (by decide +kernel) (by decide +kernel)
theorem u_x_42 : Cond.fieldLink Bundle.tN 198 Bundle.tN "backtrace" "Ljava/lang/Object;" ∈ UW := UW_in (i := 513) (by decide +kernel) (by decide +kernel)
theorem u_x_43 : Cond.lays Bundle.tN Bundle.tN "backtrace" "Ljava/lang/Object;" ∈ UW := UW_in (i := 512) (by decide +kernel) (by decide +kernel)
theorem u_x_44 : Cond.lays nSE Bundle.tN "backtrace" "Ljava/lang/Object;" ∈ UW := UW_in (i := 511) (by decide +kernel) (by decide +kernel)
theorem oxL_in : ∀ w ∈ oxL, vx_no w = true → w ∈ UW ∨ w ∈ oxB := by
  intro w hw hn
  simp only [oxL, oxT, Bundle.throwableAtoms, Bundle.throwableSAtoms, Bundle.chainSAtoms, Bundle.passSAtoms, List.mem_append, List.mem_cons, List.not_mem_nil, or_false] at hw
  rcases hw with (((rfl | rfl | rfl | rfl | rfl | rfl | rfl | rfl | rfl | rfl | rfl | rfl | rfl | rfl | rfl | rfl | rfl | rfl | rfl | rfl | rfl | rfl | rfl | rfl) | (rfl | rfl | rfl | rfl)) | ((rfl | rfl | rfl | rfl | rfl) | ((rfl | rfl | rfl | rfl | rfl) | (rfl | rfl | rfl | rfl | rfl)))) | (rfl | rfl | rfl | rfl | rfl | rfl | rfl | rfl | rfl | rfl | rfl | rfl | rfl | rfl)
  · exact Or.inl u_x_0
  · exact Or.inl u_x_1
  · exact Or.inl u_x_2
  · exact Or.inl u_x_3
  · exact Or.inl u_x_4
  · exact Or.inl u_x_5
  · exact Or.inl u_x_6
  · exact Or.inl u_x_7
  · exact Or.inl u_x_8
  · exact Or.inl u_x_9
  · exact Or.inl u_x_10
  · exact Or.inl u_x_11
  · exact Or.inl u_x_12
  · exact Or.inl u_x_13
  · exact Or.inl u_x_14
  · exact Or.inl u_x_15
  · exact Or.inl u_x_16
  · exact Or.inl u_x_17
  · exact Or.inl u_x_18
  · exact Or.inl u_x_19
  · exact absurd hn (by decide +kernel)
  · exact Or.inl u_x_20
  · exact absurd hn (by decide +kernel)
  · exact Or.inl u_x_21
  · exact Or.inl u_x_22
  · exact Or.inl u_x_23
  · exact Or.inl u_x_24
  · exact Or.inl u_x_21
  · exact Or.inl u_x_25
  · exact Or.inl u_x_26
  · exact Or.inl u_x_27
  · exact Or.inl u_x_28
  · exact Or.inr (by simp [oxB])
  · exact Or.inl u_x_28
  · exact Or.inl u_x_29
  · exact Or.inl u_x_30
  · exact Or.inl u_x_31
  · exact Or.inr (by simp [oxB])
  · exact Or.inl u_x_31
  · exact Or.inl u_x_32
  · exact Or.inl u_x_33
  · exact Or.inl u_x_22
  · exact Or.inr (by simp [oxB])
  · exact Or.inl u_x_34
  · exact Or.inl u_x_35
  · exact Or.inr (by simp [oxB])
  · exact Or.inl u_x_36
  · exact Or.inl u_x_37
  · exact Or.inl u_x_38
  · exact Or.inl u_x_39
  · exact Or.inl u_x_40
  · exact Or.inl u_x_41
  · exact absurd hn (by decide +kernel)
  · exact absurd hn (by decide +kernel)
  · exact Or.inl u_x_42
  · exact Or.inl u_x_43
  · exact Or.inl u_x_44
theorem oxB_good : ∀ w ∈ oxB, w.onTables = true := by
  intro w hw
  simp only [oxB, List.mem_cons, List.not_mem_nil, or_false] at hw
  rcases hw with rfl | rfl | rfl | rfl <;> rfl
/-- what stays known of the tables for a throw -/
def ZX (U : State) : Prop := (∀ w ∈ oxB, va_Nw w U) ∧ (∃ a, vk_R RX4 86 "no such rider" a U) ∧ (∃ a, vk_R RX4 116 "nothing such is told of a rider" a U)
theorem ZX.moved {u U : State} (hW : u.WarmedH U.vm) (h : ZX u) : ZX U := by
  obtain ⟨h1, ⟨a, ha⟩, ⟨b, hb⟩⟩ := h
  refine ⟨fun w hw => ?_, ⟨a, vk_R.warm hW ha⟩, ⟨b, vk_R.warm hW hb⟩⟩
  have h2 := h1 w hw
  simp only [oxB, List.mem_cons, List.not_mem_nil, or_false] at hw
  rcases hw with rfl | rfl | rfl | rfl
  · exact va_Nw.warmC hW h2
  · exact va_Nw.warmD hW h2
  · exact va_Nw.warmD hW h2
  · exact va_Nw.warmD hW h2
theorem ZX.same {u U : State} (hv : u.vm = U.vm) (h : ZX u) : ZX U := by
  obtain ⟨h1, ⟨a, ha⟩, ⟨b, hb⟩⟩ := h
  exact ⟨fun w hw => va_Nw.same (oxB_good w hw) hv (h1 w hw), ⟨a, vk_R.same hv.symm ha⟩, ⟨b, vk_R.same hv.symm hb⟩⟩
theorem ox_own {args : Array Value} {s : State} {A : Nat → Prop} (hts : ∀ w ∈ UW, w.before args s = true) (hZ : ZX s) (hU : vx_Zq Bundle.tN "UNASSIGNED_STACK" Bundle.steD A s s.heap) (hN : vx_Zq Bundle.tN "SUPPRESSED_SENTINEL" Bundle.listD A s s.heap) : ∀ w ∈ oxL, w.before args s = true := by
  refine vx_own (fun w hw => ?_) (vx_isRefq hU.1) (vx_isRefq hN.1) hU.2.word hN.2.word
  obtain ⟨h1, h2⟩ := List.mem_filter.mp hw
  rcases oxL_in w h1 h2 with h | h
  · exact hts w h
  · exact va_Nw.use (oxB_good w h) (hZ.1 w h)
section OX
variable {p : Program} {l : Launch} {e : Env} {R : Room} {s : State} {m₀ : MethodId} {args : Array Value} {below : List Frame} {meth : Method} {c : Code} {W : State} {locs : List Loc} {cells slots : Nat}
set_option maxHeartbeats 1000000 in
theorem ox_ctorMadeS (X : Stand p l e R s m₀ args below meth c W locs cells slots) (hexec : p.tables.exec = Jvm.exec) (htr : e.platform.stackTraces = false) 
    (hown : s.vm.findClass RX4 = some m₀.cls)
    (h : ∀ a ∈ oxL, a.before args s = true)
    (hlocs : ∀ x ∈ locs, ∀ cell, s.heap[x.base]? = some cell → cell.vm.isStatics = false)
    {a : Addr} {cX : ClassId} {kX : Class} (hfoundX : s.vm.findClass nSE = some cX) (hkX : s.vm.classes[cX]? = some kX) (hcell : W.heap[a]? = some (freshCell cX kX)) (hnew : s.heap.size ≤ a)
    {msg : Value} (hmsg : msg.isRef = true)
    {g : JFrame} (hg : g.method = m₀) (hsize : g.locals.size = c.maxLocals) {rest : List Value} (hstack : g.stack = msg :: .ref a :: .ref a :: rest)
    (hd6 : decode c.code g.pc = .ok (.invokespecial 88, 3))
    (hRframes : 5 < R.frames) (hRlocals : 2 * g.monitorRoom + ((Value.ref a :: rest).map fun v => v.category).sum + (81) ≤ R.locals) :
    ∃ (V : State) (ce : Cell) (L : List Loc), Stand p l e R s m₀ args below meth c (V.setCell a ce) (locs ++ L) cells slots ∧ (∀ y ∈ L, y.base = a) ∧ a < V.heap.size ∧ ce.cls = cX ∧ ce.vm = .none ∧
      ∀ target, Steps p.tables e below ((V.setCell a ce).setTop { g with stack := .ref a :: rest, pc := g.pc + 3 }) target → Steps p.tables e below (W.setTop g) target := by
  have howns : e.platform.frameOwnsMonitors = true := by rw [X.admits.platform]
  have hfin : e.platform.finalization = false := by rw [X.admits.platform]
  have hpl : e.platform.magicAccessors = ({} : Platform).magicAccessors := by rw [X.admits.platform]
  have a' : ∀ x, x ∈ oxL → x.holds args s none s [] = true := fun x hx => h x hx
  obtain ⟨T, Z0, L, -, Y⟩ := ThrowableC.of_atoms (args := args) howns hfin hpl (fun x hx => h x (by simp only [oxL, List.mem_append]; simp [hx]))
  obtain ⟨Z, M, LZ, LM, hnZ⟩ := Init0T.ofS_atoms (args := args) hpl L Y (fun x hx => h x (by simp only [oxL, List.mem_append]; simp [hx]))
  have hf1 : Bundle.fit nSE = true := by decide +kernel
  have hf2 : Bundle.fit "java/lang/RuntimeException" = true := by decide +kernel
  have hf3 : ∀ n ∈ ["java/lang/Exception"], Bundle.fit n = true := by decide +kernel
  obtain ⟨P1, L1, hP1m, hs1⟩ := PassC.ofS_atoms (args := args) (s := s) hpl (X := nSE) (Y := "java/lang/RuntimeException") (Bundle.fit_spec hf1).1 (Bundle.fit_spec hf2).2 nSX_0 nSX_1 nSX_2 nSX_5 (fun x hx => h x (by simp only [oxL, List.mem_append]; simp [hx]))
  obtain ⟨P2, Ps2, hlen2, L2, hL2, hm2, hsup2, hpass2⟩ := Bundle.chainS (args := args) hpl hnZ ["java/lang/Exception"] "java/lang/RuntimeException" hf2 hf3 (fun x hx => h x (by simp only [oxL, List.mem_append]; simp [hx]))
  obtain ⟨Ps, hPs⟩ : ∃ z, z = P2 :: Ps2 := ⟨_, rfl⟩
  have hlen : Ps.length = 2 := by rw [hPs, List.length_cons, hlen2]; rfl
  have hL : ∀ P, P ∈ Ps → P.LinksS e.platform s := by
    intro P hP
    rw [hPs] at hP
    rcases List.mem_cons.mp hP with rfl | hP
    · exact L2
    · exact hL2 P hP
  have hlink1 : P1.sup = firstOf (Z.m T.toThrowableT) (Ps.map (·.toPassT)) := by rw [hPs]; exact Option.some.inj (hs1.symm.trans hm2)
  have hlink : PassesOn (Z.m T.toThrowableT) (Ps.map (·.toPassT)) := by rw [hPs]; exact ⟨hsup2, hpass2⟩
  have hfound : s.vm.findClass nSE = some P1.m.cls := findClass_of_methodNamed hP1m
  cases Option.some.inj (hfoundX.symm.trans hfound)
  obtain ⟨c1, kX', hc1, hk, hord, -, -, hn6⟩ := Cond.instantiable_spec (a' (.instantiable nSE 6) (by simp [oxL, oxT]))
  cases Option.some.inj (hc1.symm.trans hfound)
  cases Option.some.inj (hkX.symm.trans hk)
  have hsel0 : selectMethod e.platform s.vm P1.m.cls T.fill0 = .method T.fill0 := by
    obtain ⟨c2, r2, m2, q1, q2, q3, q4, -⟩ := Cond.selects_spec (a' (.selects nSE Bundle.tFill0 Bundle.tFill0) (by simp [oxL, oxT]))
    cases Option.some.inj (q1.symm.trans hfound)
    cases Option.some.inj (q2.symm.trans (State.methodFound?_of_named Y.fill0 (by decide)))
    cases Option.some.inj (q3.symm.trans Y.fill0)
    rw [Launch.admits_selectMethod X.admits]; exact q4
  have hselF : selectMethod e.platform s.vm P1.m.cls T.fill = .method T.fill := by
    obtain ⟨c2, r2, m2, q1, q2, q3, q4, -⟩ := Cond.selects_spec (a' (.selects nSE Bundle.tFill Bundle.tFill) (by simp [oxL, oxT]))
    cases Option.some.inj (q1.symm.trans hfound)
    cases Option.some.inj (q2.symm.trans (State.methodFound?_of_named Y.fill (by decide)))
    cases Option.some.inj (q3.symm.trans Y.fill)
    rw [Launch.admits_selectMethod X.admits]; exact q4
  obtain ⟨cellS0, hcS0, hiss⟩ := Y.statics
  obtain ⟨u0, hu0⟩ := Cond.staticRefV Y.unassigned L.unassignedStatic L.statics hcS0 hiss (a' (.isRef (.static Bundle.tN "UNASSIGNED_STACK" Bundle.steD)) (by simp [oxL, oxT]))
  obtain ⟨sen, hsen⟩ := Cond.staticRefV Y.sentinel L.sentinelStatic L.statics hcS0 hiss (a' (.isRef (.static Bundle.tN "SUPPRESSED_SENTINEL" Bundle.listD)) (by simp [oxL, oxT]))
  obtain ⟨ci198, i198, fB, hk198, hg198, ha198, hsB, -, hnB, htB, hffB⟩ := Cond.ownField (t := .object "java/lang/Object") Y.found L.cls (by decide +kernel) (a' (.fieldLink Bundle.tN 198 Bundle.tN "backtrace" "Ljava/lang/Object;") (by simp [oxL, oxT])) (a' (.lays Bundle.tN Bundle.tN "backtrace" "Ljava/lang/Object;") (by simp [oxL, oxT])) e.platform hpl
  obtain ⟨cellS, hcS', heS, -, hkeep⟩ := X.same.2.2.2.2.2 T.aS cellS0 hcS0
  have hcellS : W.heap[T.aS]? = some cellS := hcS'
  have hout' : ∀ i, (⟨T.aS, i⟩ : Loc) ∉ locs := fun i hmem => by
    have := hlocs _ hmem cellS0 hcS0
    rw [hiss] at this; cases this
  have hknownS : cellS.vm ≠ .unknown := by
    rw [heS]; intro hu
    rw [show cellS0.vm = .unknown from hu] at hiss
    cases hiss
  have hneS : T.aS ≠ a := Nat.ne_of_lt (Nat.lt_of_lt_of_le (Array.getElem?_eq_some_iff.mp hcS0).1 hnew)
  obtain ⟨iM, hffM⟩ := Y.msg
  obtain ⟨tyC, dC, hdC, hdnC⟩ := Cond.laysAt hfound hk Y.cause (a' (.lays nSE Bundle.tN "cause" "Ljava/lang/Throwable;") (by simp [oxL, oxT]))
  obtain ⟨tyS, dS, hdS, hdnS⟩ := Cond.laysAt hfound hk Y.stack (a' (.lays nSE Bundle.tN "stackTrace" Bundle.steD) (by simp [oxL, oxT]))
  obtain ⟨tyP, dP, hdP, hdnP⟩ := Cond.laysAt hfound hk Y.supp (a' (.lays nSE Bundle.tN "suppressedExceptions" Bundle.listD) (by simp [oxL, oxT]))
  obtain ⟨tyM, dM, hdM, hdnM⟩ := Cond.laysAt hfound hk hffM (a' (.lays nSE Bundle.tN "detailMessage" "Ljava/lang/String;") (by simp [oxL, oxT]))
  obtain ⟨tyB, dB, hdB, hdnB⟩ := Cond.laysAt hfound hk hffB (a' (.lays nSE Bundle.tN "backtrace" "Ljava/lang/Object;") (by simp [oxL, oxT]))
  have bC := Cond.laysApart hdB hdC hdnB hdnC (by rw [hnB, Y.causeName]; decide)
  have bS := Cond.laysApart hdB hdS hdnB hdnS (by rw [hnB, Y.stackName]; decide)
  have bP := Cond.laysApart hdB hdP hdnB hdnP (by rw [hnB, Y.suppName]; decide)
  have hskip : SkipFacts T e.platform s (fun u => u) u0 ((preparedCellV T.toThrowableT (freshCell P1.m.cls kX) a u0 sen).withEntry W.cur) :=
    ⟨{ ci198 := ci198, i198 := i198, fBack := fB }, ⟨hk198, hg198, ha198, hsB⟩, by
      have := fresh_default (c := P1.m.cls) tyB
      rw [htB] at this
      simpa [preparedCellV, Cell.setSlot, Cell.withEntry, Array.getElem?_setIfInBounds, bC, bS, bP, bC.symm, bS.symm, bP.symm, defaultValue] using this, fun _ _ => rfl⟩
  obtain ⟨tm, methC, cdC, kC, vm₁, hnC, -, -, -, -, -, -, -, hW₁, st1⟩ := Steps.initColdS (tb := p.tables) (e := e) (below := below) (s := s) (U := W) X.here hexec X.warmed hpl hown (t := Bundle.initS nSE) rfl rfl (Bundle.fit_spec hf1).2
    (a' (.methodLink RX4 88 (Bundle.initS nSE)) (by simp [oxL, oxT])) (h (.instanceMethod (Bundle.initS nSE)) (by simp [oxL, Bundle.passSAtoms])) (bytes := nSX) (maxL := 2) (h (.code (Bundle.initS nSE) nSX 2 none) (by simp [oxL, Bundle.passSAtoms]))
    (f := g) hg (a := a) (msg := msg) (rest := .ref a :: rest) hstack hd6
  cases Option.some.inj (hnC.symm.trans hP1m)
  have X₁ := X.noted hW₁
  obtain ⟨vm₂, X₂, st2⟩ := X₁.ctorMessageOffV hexec (g := { g with stack := .ref a :: rest }) hg hsize T L Z LZ M LM (P1 :: Ps)
    (fun P hP => by rcases List.mem_cons.mp hP with rfl | hP; exact L1; exact hL P hP) ⟨hlink1, hlink⟩ (u0 := u0) (sen := sen) (self := a) hmsg (cell := freshCell P1.m.cls kX) (cellS := cellS)
    hcell (fun _ => by simp) (by simp) rfl rfl hsel0 hselF hcellS hneS hknownS (by rw [hkeep _ (hout' _)]; exact hu0) (by rw [hkeep _ (hout' _)]; exact hsen)
    (Takes.of_laid hk hord tyC (by rw [Y.causeType]; rfl)) (Takes.of_laid hk hord tyS (by rw [Y.stackType]; exact fits_refV_array _ u0)) (Takes.of_laid hk hord tyP (by rw [Y.suppType]; exact fits_refV_object _ sen))
    (Takes.of_laid hk hord tyM (by rw [Y.msgType]; exact fits_refV_object _ ⟨msg, hmsg⟩)) Y.objLocals hskip htr [] hd6
    (by simp only [List.length_cons, hlen]; omega) (by simp only [List.length_cons, hlen]; omega)
  have hlt : a < ((W.setVm vm₁).setVm vm₂).heap.size := (Array.getElem?_eq_some_iff.mp hcell).1
  refine ⟨(W.setVm vm₁).setVm vm₂, _, _, X₂, fun y hy => ?_, hlt, rfl, rfl, fun target hwalk => st1 _ (fun acts => ?_)⟩
  · simp only [List.mem_cons, List.not_mem_nil, or_false] at hy
    rcases hy with rfl | rfl | rfl | rfl | rfl <;> rfl
  · rw [doInvoke_state]
    exact st2 _ hwalk
end OX
section OY
variable {p : Program} {l : Launch} {e : Env} {R : Room} {s : State} {m : MethodId} {args : Array Value} {below : List Frame} {meth : Method} {c : Code} {H : Heap} {locs : List Loc} {cells slots : Nat} {Q : State → Prop} {pc : Nat} {ls : Array Slot} {rest : List Value}
theorem ox_back9 {T S : State} {R' : Room} {k n : Nat} (X : Stand p l e R s m args below meth c T locs cells slots) (Y : Stand p l e R' ((T.setVm s.vm).setFrames (.invoking m args :: below)) m args below meth c T [] 0 0) (Z : Stand p l e R' ((T.setVm s.vm).setFrames (.invoking m args :: below)) m args below meth c S [] k n) :
    Stand p l e R s m args below meth c S locs (cells + k) (slots + n) := by
  have hW0 : s.WarmedH ((T.setVm s.vm).setFrames (.invoking m args :: below)).vm := State.WarmedH.refl s
  refine { admits := X.admits, cas := X.cas, clock := X.clock, frames := X.frames, room := X.room, hears := X.hears, method := X.method, code := X.code, here := Z.here, tail := Z.tail, warmed := State.WarmedH.trans hW0 Z.warmed, limits := Z.limits.trans (Y.limits.symm.trans X.limits), bytes := Z.bytes.trans (Y.bytes.symm.trans X.bytes), same := ?_ }
  obtain ⟨e1, e2⟩ := Z.same
  rw [State.setFrames_setFrames] at e1
  have h2 : (T.setVm s.vm).sameButNew (S.setVm s.vm) [] k n := ⟨e1, e2⟩
  have h3 := X.same.trans h2
  rw [List.append_nil] at h3
  exact h3
theorem ox_athrow {cc : ByteArray} {pc : Nat} (hexec : p.tables.exec = Jvm.exec) (hb : c.code = cc) {q : Addr} (hdg : decode cc pc = .ok (.athrow, 1)) (k : vx_W p l e R s m args below meth c H locs cells slots Q (F0 m pc ls rest) q) : W p l e R s m args below meth c H locs cells slots Q (F0 m pc ls (.ref q :: rest)) := by
  intro T hT X
  obtain ⟨t, st, hq⟩ := k T hT X
  refine ⟨t, ?_, hq⟩
  have hdg' : decode c.code pc = .ok (.athrow, 1) := by rw [hb]; exact hdg
  jvm_step X.here [X.here.top, hexec, hdg', athrow.wp_sem]
  exact st
end OY
