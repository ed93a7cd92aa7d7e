/-! throws, and calls that may throw, in the judgement -/
theorem nse_0 : decode prog_42_method_4_code 0 = .ok (.aload_n 0, 1) := by decide +kernel
theorem nse_1 : decode prog_42_method_4_code 1 = .ok (.aload_n 1, 1) := by decide +kernel
theorem nse_2 : decode prog_42_method_4_code 2 = .ok (.invokespecial 13, 3) := by decide +kernel
theorem nse_5 : decode prog_42_method_4_code 5 = .ok (.return_, 1) := by decide +kernel
def xAt13 (own : String) (ic : Nat) (X : String) : List Cond :=
  Bundle.throwableAtoms ++ Bundle.throwableSAtoms ++ (Bundle.passSAtoms X "java/lang/RuntimeException" 13 prog_42_method_4_code ++ Bundle.chainSAtoms "java/lang/RuntimeException" ["java/lang/Exception"]) ++
  [.methodLink own ic (Bundle.initS X), .instantiable X 6, .castable X X, .selects X Bundle.tFill0 Bundle.tFill0, .selects X Bundle.tFill Bundle.tFill,
   .lays X Bundle.tN "cause" "Ljava/lang/Throwable;", .lays X Bundle.tN "stackTrace" Bundle.steD, .lays X Bundle.tN "suppressedExceptions" Bundle.listD, .lays X Bundle.tN "detailMessage" "Ljava/lang/String;",
   .isRef (.static Bundle.tN "UNASSIGNED_STACK" Bundle.steD), .isRef (.static Bundle.tN "SUPPRESSED_SENTINEL" Bundle.listD),
   .fieldLink Bundle.tN 198 Bundle.tN "backtrace" "Ljava/lang/Object;", .lays Bundle.tN Bundle.tN "backtrace" "Ljava/lang/Object;", .lays X Bundle.tN "backtrace" "Ljava/lang/Object;"]
def vx_at13 (own : String) (ic : Nat) (X : String) : List Cond := (xAt13 own ic X).filter vx_no
section XV13
variable {p : Program} {l : Launch} {e : Env} {R : Room} {s : State} {m₀ : MethodId} {args : Array Value} {below : List Frame} {meth : Method} {c : Code} {W : State} {locs : List Loc} {cells slots : Nat}
set_option maxHeartbeats 4000000 in
theorem xv_ctorN (X : Stand p l e R s m₀ args below meth c W locs cells slots) (hexec : p.tables.exec = Jvm.exec) (htr : e.platform.stackTraces = false) {own cls : String} {ic : Nat}
    (hown : s.vm.findClass own = some m₀.cls) (hcls : Bundle.fit cls = true) (h : ∀ a ∈ xAt13 own ic cls, a.before args s = true)
    (hlocs : ∀ x ∈ locs, ∀ cell, s.heap[x.base]? = some cell → cell.vm.isStatics = false)
    {a : Addr} {cX : ClassId} {kX : Class} (hfoundX : s.vm.findClass cls = some cX) (hkX : s.vm.classes[cX]? = some kX) (hcell : W.heap[a]? = some (freshCell cX kX)) (hnew : s.heap.size ≤ a)
    {msg : Value} (hmsg : msg.isRef = true)
    {g : JFrame} (hg : g.method = m₀) (hsize : g.locals.size = c.maxLocals) (hlocked : g.locked = none) (hentered : g.entered = []) {rest : List Value} (hstack : g.stack = msg :: .ref a :: .ref a :: rest)
    (hd6 : decode c.code g.pc = .ok (.invokespecial ic, 3)) (hd9 : decode c.code (g.pc + 3) = .ok (.athrow, 1)) (hout : ∀ x ∈ c.exceptionTable.toList, covers x (g.pc + 3) = false)
    (hRframes : 2 + 3 < R.frames) (hRlocals : 2 * g.monitorRoom + ((Value.ref a :: rest).map fun v => v.category).sum + (13 * (2 + 1) + 42) ≤ R.locals) (hlocks : meth.locks = false) :
    ∃ U : State, Steps p.tables e below (W.setTop g) U ∧ U.status = .running ∧ Ended U below (.threw a) ∧ s.WarmedH U.vm ∧ s.sameButNew ({ U with vm := s.vm } : State) locs cells slots ∧
      ∃ ce, U.heap[a]? = some ce ∧ s.vm.findClass cls = some ce.cls ∧ ce.vm = .none := by
  have howns : e.platform.frameOwnsMonitors = true := by rw [X.admits.platform]
  have hfin : e.platform.finalization = false := by rw [X.admits.platform]
  have hpl : e.platform.magicAccessors = ({} : Platform).magicAccessors := by rw [X.admits.platform]
  have a' : ∀ x, x ∈ xAt13 own ic cls → x.holds args s none s [] = true := fun x hx => h x hx
  obtain ⟨T, Z0, L, -, Y⟩ := ThrowableC.of_atoms (args := args) howns hfin hpl (fun x hx => h x (by simp [xAt13, hx]))
  obtain ⟨Z, M, LZ, LM, hnZ⟩ := Init0T.ofS_atoms (args := args) hpl L Y (fun x hx => h x (by simp [xAt13, hx]))
  obtain ⟨P1, L1, hP1m, hs1⟩ := PassC.ofS_atoms (args := args) (s := s) hpl (X := cls) (Y := "java/lang/RuntimeException") (Bundle.fit_spec hcls).1 (by decide) nse_0 nse_1 nse_2 nse_5 (fun x hx => h x (by simp [xAt13, hx]))
  obtain ⟨P2, Ps2, hlen2, L2, hL2, hP2m, hsup2, hpass2⟩ := Bundle.chainS (args := args) hpl hnZ ["java/lang/Exception"] "java/lang/RuntimeException" (by decide +kernel) (by decide +kernel) (fun x hx => h x (by simp [xAt13, hx]))
  obtain ⟨Ps, hPs⟩ : ∃ Ps, Ps = P2 :: Ps2 := ⟨_, rfl⟩
  have hlen : Ps.length = 2 := by rw [hPs, List.length_cons, hlen2]; rfl
  have hL : ∀ P, P ∈ Ps → P.LinksS e.platform s := by
    intro P hP
    rw [hPs] at hP
    rcases List.mem_cons.mp hP with rfl | hP
    · exact L2
    · exact hL2 P hP
  have hlink1 : P1.sup = firstOf (Z.m T.toThrowableT) (Ps.map (·.toPassT)) := by rw [hPs]; exact Option.some.inj (hs1.symm.trans hP2m)
  have hlink : PassesOn (Z.m T.toThrowableT) (Ps.map (·.toPassT)) := by rw [hPs]; exact ⟨hsup2, hpass2⟩
  have hfound : s.vm.findClass cls = some P1.m.cls := findClass_of_methodNamed hP1m
  cases Option.some.inj (hfoundX.symm.trans hfound)
  obtain ⟨c1, kX', hc1, hk, hord, -, -, hn6⟩ := Cond.instantiable_spec (a' (.instantiable cls 6) (by simp [xAt13]))
  cases Option.some.inj (hc1.symm.trans hfound)
  cases Option.some.inj (hkX.symm.trans hk)
  have hsel0 : selectMethod e.platform s.vm P1.m.cls T.fill0 = .method T.fill0 := by
    obtain ⟨c2, r2, m2, q1, q2, q3, q4, -⟩ := Cond.selects_spec (a' (.selects cls Bundle.tFill0 Bundle.tFill0) (by simp [xAt13]))
    cases Option.some.inj (q1.symm.trans hfound)
    cases Option.some.inj (q2.symm.trans (State.methodFound?_of_named Y.fill0 (by decide)))
    cases Option.some.inj (q3.symm.trans Y.fill0)
    rw [Launch.admits_selectMethod X.admits]; exact q4
  have hselF : selectMethod e.platform s.vm P1.m.cls T.fill = .method T.fill := by
    obtain ⟨c2, r2, m2, q1, q2, q3, q4, -⟩ := Cond.selects_spec (a' (.selects cls Bundle.tFill Bundle.tFill) (by simp [xAt13]))
    cases Option.some.inj (q1.symm.trans hfound)
    cases Option.some.inj (q2.symm.trans (State.methodFound?_of_named Y.fill (by decide)))
    cases Option.some.inj (q3.symm.trans Y.fill)
    rw [Launch.admits_selectMethod X.admits]; exact q4
  obtain ⟨cellS0, hcS0, hiss⟩ := Y.statics
  obtain ⟨u0, hu0⟩ := Cond.staticRefV Y.unassigned L.unassignedStatic L.statics hcS0 hiss (a' (.isRef (.static Bundle.tN "UNASSIGNED_STACK" Bundle.steD)) (by simp [xAt13]))
  obtain ⟨sen, hsen⟩ := Cond.staticRefV Y.sentinel L.sentinelStatic L.statics hcS0 hiss (a' (.isRef (.static Bundle.tN "SUPPRESSED_SENTINEL" Bundle.listD)) (by simp [xAt13]))
  obtain ⟨ci198, i198, fB, hk198, hg198, ha198, hsB, -, hnB, htB, hffB⟩ := Cond.ownField (t := .object "java/lang/Object") Y.found L.cls (by decide +kernel) (a' (.fieldLink Bundle.tN 198 Bundle.tN "backtrace" "Ljava/lang/Object;") (by simp [xAt13])) (a' (.lays Bundle.tN Bundle.tN "backtrace" "Ljava/lang/Object;") (by simp [xAt13])) e.platform hpl
  obtain ⟨cellS, hcS', heS, -, hkeep⟩ := X.same.2.2.2.2.2 T.aS cellS0 hcS0
  have hcellS : W.heap[T.aS]? = some cellS := hcS'
  have hout' : ∀ i, (⟨T.aS, i⟩ : Loc) ∉ locs := fun i hmem => by
    have := hlocs _ hmem cellS0 hcS0
    rw [hiss] at this; cases this
  have hknownS : cellS.vm ≠ .unknown := by
    rw [heS]; intro hu
    rw [show cellS0.vm = .unknown from hu] at hiss
    cases hiss
  have hneS : T.aS ≠ a := Nat.ne_of_lt (Nat.lt_of_lt_of_le (Array.getElem?_eq_some_iff.mp hcS0).1 hnew)
  obtain ⟨iM, hffM⟩ := Y.msg
  obtain ⟨tyC, dC, hdC, hdnC⟩ := Cond.laysAt hfound hk Y.cause (a' (.lays cls Bundle.tN "cause" "Ljava/lang/Throwable;") (by simp [xAt13]))
  obtain ⟨tyS, dS, hdS, hdnS⟩ := Cond.laysAt hfound hk Y.stack (a' (.lays cls Bundle.tN "stackTrace" Bundle.steD) (by simp [xAt13]))
  obtain ⟨tyP, dP, hdP, hdnP⟩ := Cond.laysAt hfound hk Y.supp (a' (.lays cls Bundle.tN "suppressedExceptions" Bundle.listD) (by simp [xAt13]))
  obtain ⟨tyM, dM, hdM, hdnM⟩ := Cond.laysAt hfound hk hffM (a' (.lays cls Bundle.tN "detailMessage" "Ljava/lang/String;") (by simp [xAt13]))
  obtain ⟨tyB, dB, hdB, hdnB⟩ := Cond.laysAt hfound hk hffB (a' (.lays cls Bundle.tN "backtrace" "Ljava/lang/Object;") (by simp [xAt13]))
  have bC := Cond.laysApart hdB hdC hdnB hdnC (by rw [hnB, Y.causeName]; decide)
  have bS := Cond.laysApart hdB hdS hdnB hdnS (by rw [hnB, Y.stackName]; decide)
  have bP := Cond.laysApart hdB hdP hdnB hdnP (by rw [hnB, Y.suppName]; decide)
  have hskip : SkipFacts T e.platform s (fun u => u) u0 ((preparedCellV T.toThrowableT (freshCell P1.m.cls kX) a u0 sen).withEntry W.cur) :=
    ⟨{ ci198 := ci198, i198 := i198, fBack := fB }, ⟨hk198, hg198, ha198, hsB⟩, by
      have := fresh_default (c := P1.m.cls) tyB
      rw [htB] at this
      simpa [preparedCellV, Cell.setSlot, Cell.withEntry, Array.getElem?_setIfInBounds, bC, bS, bP, bC.symm, bS.symm, bP.symm, defaultValue] using this, fun _ _ => rfl⟩
  obtain ⟨tm, methC, cdC, kC, vm₁, hnC, -, -, -, -, -, -, -, hW₁, st1⟩ := Steps.initColdS (tb := p.tables) (e := e) (below := below) (s := s) (U := W) X.here hexec X.warmed hpl hown (t := Bundle.initS cls) rfl rfl (Bundle.fit_spec hcls).2
    (a' (.methodLink own ic (Bundle.initS cls)) (by simp [xAt13])) (h (.instanceMethod (Bundle.initS cls)) (by simp [xAt13, Bundle.passSAtoms])) (bytes := prog_42_method_4_code) (maxL := 2) (h (.code (Bundle.initS cls) prog_42_method_4_code 2 none) (by simp [xAt13, Bundle.passSAtoms]))
    (f := g) hg (a := a) (msg := msg) (rest := .ref a :: rest) hstack hd6
  cases Option.some.inj (hnC.symm.trans hP1m)
  have X₁ := X.noted hW₁
  obtain ⟨vm₂, X₂, st2⟩ := X₁.ctorMessageOffV hexec (g := { g with stack := .ref a :: rest }) hg hsize T L Z LZ M LM (P1 :: Ps)
    (fun P hP => by rcases List.mem_cons.mp hP with rfl | hP; exact L1; exact hL P hP) ⟨hlink1, hlink⟩ (u0 := u0) (sen := sen) (self := a) hmsg (cell := freshCell P1.m.cls kX) (cellS := cellS)
    hcell (fun _ => by simp) (by simp) rfl rfl hsel0 hselF hcellS hneS hknownS (by rw [hkeep _ (hout' _)]; exact hu0) (by rw [hkeep _ (hout' _)]; exact hsen)
    (Takes.of_laid hk hord tyC (by rw [Y.causeType]; rfl)) (Takes.of_laid hk hord tyS (by rw [Y.stackType]; exact fits_refV_array _ u0)) (Takes.of_laid hk hord tyP (by rw [Y.suppType]; exact fits_refV_object _ sen))
    (Takes.of_laid hk hord tyM (by rw [Y.msgType]; exact fits_refV_object _ ⟨msg, hmsg⟩)) Y.objLocals hskip htr [] hd6
    (by simp only [List.length_cons, hlen]; omega) (by simp only [List.length_cons, hlen]; exact hRlocals)
  obtain ⟨hwalk, hrun, hended, hWU, hsame⟩ := X₂.athrowLeaves hexec (g := { g with stack := .ref a :: rest, pc := g.pc + 3 }) hg hlocked hentered hout (a := a) (rest := rest) rfl hd9
  obtain ⟨c3, c4, hc3, hc4, hasg⟩ := Cond.castable_spec (a' (.castable cls cls) (by simp [xAt13]))
  cases Option.some.inj (hc3.symm.trans hfound)
  cases Option.some.inj (hc4.symm.trans hfound)
  have hlt : a < ((W.setVm vm₁).setVm vm₂).heap.size := (Array.getElem?_eq_some_iff.mp hcell).1
  have hU := heapAt_setCell_self (s := (W.setVm vm₁).setVm vm₂) (plainBareV T.toThrowableT (freshCell P1.m.cls kX) a u0 sen msg) hlt
  have hnM : T.fMsg.name = "detailMessage" := (State.fieldFound?_type hffM (t := .object "java/lang/String") (by decide +kernel)).1
  have nCS := Cond.laysApart hdC hdS hdnC hdnS (by rw [Y.causeName, Y.stackName]; decide)
  have nCP := Cond.laysApart hdC hdP hdnC hdnP (by rw [Y.causeName, Y.suppName]; decide)
  have nCM := Cond.laysApart hdC hdM hdnC hdnM (by rw [Y.causeName, hnM]; decide)
  have nSP := Cond.laysApart hdS hdP hdnS hdnP (by rw [Y.stackName, Y.suppName]; decide)
  have nSM := Cond.laysApart hdS hdM hdnS hdnM (by rw [Y.stackName, hnM]; decide)
  have nPM := Cond.laysApart hdP hdM hdnP hdnM (by rw [Y.suppName, hnM]; decide)
  have lC : T.fCause.slot < kX.instanceTypes.size := (Array.getElem?_eq_some_iff.mp tyC).1
  have lS : T.fStack.slot < kX.instanceTypes.size := (Array.getElem?_eq_some_iff.mp tyS).1
  have lP : T.fSupp.slot < kX.instanceTypes.size := (Array.getElem?_eq_some_iff.mp tyP).1
  have lM : T.fMsg.slot < kX.instanceTypes.size := (Array.getElem?_eq_some_iff.mp tyM).1
  have evU : ∀ o, (Term.static Bundle.tN "UNASSIGNED_STACK" Bundle.steD).eval args s o [] s = some u0.v := by
    intro o
    simp [Term.eval, State.fieldNamed?, Y.unassigned, L.unassignedStatic, L.statics, hcS0, hiss, hu0]
  have evS : ∀ o, (Term.static Bundle.tN "SUPPRESSED_SENTINEL" Bundle.listD).eval args s o [] s = some sen.v := by
    intro o
    simp [Term.eval, State.fieldNamed?, Y.sentinel, L.sentinelStatic, L.statics, hcS0, hiss, hsen]
  refine ⟨_, st1 _ (fun acts => ?_), hrun, hended, hWU, hsame.weaken (fun y hy hlt' => ?_) (Nat.le_refl _) (Nat.le_refl _), _, hU, ?_⟩
  · rw [doInvoke_state]
    exact st2 _ hwalk
  · rcases List.mem_append.mp hy with h1 | h1
    · exact h1
    · exfalso
      have hb : y.base = a := by
        simp only [List.mem_cons, List.not_mem_nil, or_false] at h1
        rcases h1 with rfl | rfl | rfl | rfl | rfl <;> rfl
      rw [hb] at hlt'
      exact Nat.not_lt.mpr hnew hlt'
  · exact ⟨hfound, rfl⟩
end XV13
section XV0
variable {p : Program} {l : Launch} {e : Env} {R : Room} {s : State} {m : MethodId} {args : Array Value} {below : List Frame} {meth : Method} {c : Code} {H : Heap} {locs : List Loc} {cells slots : Nat} {Q : State → Prop}
variable {mc ms : Nat} {free : Addr → Prop} {A0 A1 : Nat → Prop} {H0 : Heap} {a : Array Value} {ls : Array Slot} {st0 rest : List Value}
variable {Qc : Array Value → State → Outcome → State → Prop} {XC : String → State → State → Prop}
theorem xv_throwS {cc : ByteArray} {pc : Nat} (hexec : p.tables.exec = Jvm.exec) (hb : c.code = cc) (hl : l.stackTraces = false) {own cls text : String} {names : List String} {ik is ic mc ms sa : Nat} {A : Nat → Prop}
    (hown : s.vm.findClass own = some m.cls) (hcls : Bundle.fit cls = true) (hnames : ∀ n ∈ names, Bundle.fit n = true)
    (hk : (Cond.classLink own ik cls).before args s = true) (hini : (Cond.initialized cls).before args s = true) (hstr : vk_R own is text sa s) (hat : ∀ w ∈ vx_atS own ic cls names, w.before args s = true)
    (hgood : ∀ w ∈ Cond.classLink own ik cls :: Cond.initialized cls :: vx_atS own ic cls names, vx_ot w = true)
    (hU : vx_Zq Bundle.tN "UNASSIGNED_STACK" Bundle.steD A s H) (hN : vx_Zq Bundle.tN "SUPPRESSED_SENTINEL" Bundle.listD A s H) (hsize : ls.size = c.maxLocals)
    (d0 : decode cc pc = .ok (.new ik, 3)) (d3 : decode cc (pc + 3) = .ok (.dup, 1)) (d4 : decode cc (pc + 4) = .ok (.ldc is, 2)) (d6 : decode cc (pc + 6) = .ok (.invokespecial ic, 3)) (d9 : decode cc (pc + 9) = .ok (.athrow, 1))
    (hout : ∀ x ∈ c.exceptionTable.toList, covers x (pc + 9) = false)
    (hRframes : names.length + 3 < R.frames) (hRlocals : (rest.map fun v => v.category).sum + (13 * (names.length + 1) + 43) ≤ R.locals) (hRcells : cells + 1 ≤ R.cells) (hRslots : slots + 6 ≤ R.slots) (hlocks : meth.locks = false)
    (hx : ∀ t : State, s.vm.Alike t.vm → H.size ≤ t.heap.size → (∀ q : Nat, q < H.size → t.heap[q]? = H[q]?) → XC cls s t)
    (hf : ∀ z ∈ locs, free z.base) (hc : cells + 1 ≤ mc) (hs : slots + 6 ≤ ms) :
    W p l e R s m args below meth c H locs cells slots (vx_MQ below Qc XC args s mc ms free) (F0 m pc ls rest) := by
  intro T hT X
  have htr : e.platform.stackTraces = false := (show e.platform.stackTraces = l.stackTraces by rw [X.admits.platform]).trans hl
  have Y := vx_rebase X (R' := { frames := R.frames, locals := R.locals, cells := 1, slots := 6 }) (Nat.le_refl _) (Nat.le_refl _) hRcells hRslots
  obtain ⟨s', hA⟩ : ∃ z, z = (T.setVm s.vm).setFrames (.invoking m args :: below) := ⟨_, rfl⟩
  rw [← hA] at Y
  have hvm : s'.vm = s.vm := by rw [hA]; rfl
  have hhp : s'.heap = H := by rw [hA]; exact hT
  have hW0 : s.WarmedH s'.vm := by rw [hvm]; exact State.WarmedH.refl s
  have hat' : ∀ w ∈ vx_atS own ic cls names, w.before args s' = true := fun w hw => vx_ot_at hW0 hvm.symm (hgood w (List.mem_cons_of_mem _ (List.mem_cons_of_mem _ hw))) (hat w hw)
  have hk' : (Cond.classLink own ik cls).before args s' = true := vx_ot_at hW0 hvm.symm (hgood _ List.mem_cons_self) hk
  have hini' : (Cond.initialized cls).before args s' = true := vx_ot_at hW0 hvm.symm (hgood _ (List.mem_cons_of_mem _ List.mem_cons_self)) hini
  have hU' : vx_Zq Bundle.tN "UNASSIGNED_STACK" Bundle.steD A s' s'.heap := by rw [hhp]; exact vx_Zq.moved hW0.alike hU
  have hN' : vx_Zq Bundle.tN "SUPPRESSED_SENTINEL" Bundle.listD A s' s'.heap := by rw [hhp]; exact vx_Zq.moved hW0.alike hN
  have h : ∀ w ∈ Bundle.ownAtoms own ic cls names, w.before args s' = true := vx_own hat' (vx_isRefq hU'.1) (vx_isRefq hN'.1) hU'.2.word hN'.2.word
  have hown' : s'.vm.findClass own = some m.cls := by rw [hvm]; exact hown
  have hins : (Cond.instantiable cls 6).before args s' = true := h _ (by simp [Bundle.ownAtoms])
  obtain ⟨vm₁, cX, kX, hfX, hkX, -, -, X₁, st1⟩ := Y.newCold hexec (own := own) (C := cls) (index := ik) (n := 6) hown' hk' hins hini'
    (g := F0 m pc ls rest) rfl (by rw [hb]; exact d0) (Nat.le_refl _) (Nat.le_refl _)
  generalize hT1 : (T.setVm vm₁).pushCell { cls := cX, slots := kX.instanceTypes.map defaultValue, vm := .none } = T1 at X₁ st1
  have hcat : (Value.ref T.heap.size).category = 1 := rfl
  have hcellA : T1.heap[T.heap.size]? = some (freshCell cX kX) := by rw [← hT1]; exact State.heap_pushCell_size _ _
  have d3' : decode c.code (pc + 3) = .ok (.dup, 1) := by rw [hb]; exact d3
  have d4' : decode c.code (pc + 4) = .ok (.ldc is, 2) := by rw [hb]; exact d4
  have hstr' : vk_R own is text sa s' := vk_R.warm hW0 hstr
  obtain ⟨U, hsteps, hrun, hend, hW, hsame, ce, hce, hO⟩ := X₁.ctorThrowS hexec htr (own := own) (cls := cls) (names := names) (ic := ic) hown' hcls hnames h (fun x hx => nomatch hx) hfX hkX hcellA (by rw [hhp, hT]; exact Nat.le_refl _) (msg := .ref sa) rfl
    (g := { method := m, pc := pc + 6, locals := ls, stack := .ref sa :: .ref T.heap.size :: .ref T.heap.size :: rest, locked := none }) rfl hsize rfl rfl (rest := rest) rfl
    (by rw [hb]; exact d6) (by rw [hb]; exact d9) hout hRframes (by simp only [List.map_cons, List.sum_cons, hcat]; omega) hlocks
  obtain ⟨f1, f2⟩ := vx_frame hsame
  rw [hhp] at f1 f2
  have hWs : s.WarmedH U.vm := State.WarmedH.trans hW0 hW
  have hcl : s.vm.findClass cls = some ce.cls := by
    have h9 := hO.cls
    rw [hvm] at h9
    exact h9
  have hall : s.sameButNew ({ U with vm := s.vm } : State) locs mc ms := by
    subst hA
    obtain ⟨e1, e2⟩ := hsame
    rw [State.setFrames_setFrames] at e1
    have h2 : (T.setVm s.vm).sameButNew ({ U with vm := s.vm } : State) [] (0 + 1) (0 + 6) := ⟨e1, e2⟩
    have h3 := X.same.trans h2
    rw [List.append_nil] at h3
    exact h3.mono hc hs
  refine ⟨U, ?_, .threw T.heap.size, hrun, hend, Or.inr ⟨T.heap.size, rfl, cls, ce, locs, hx U hWs.alike f1 (fun q hq => f2 q hq (fun z hz => nomatch hz)), hce, hO.vm, hcl, hWs, hall, hf⟩⟩
  refine st1 _ ?_
  show Steps p.tables e below (T1.setTop { method := m, pc := pc + 3, locals := ls, stack := .ref T.heap.size :: rest, locked := none }) _
  jvm_step X₁.here [X₁.here.top, hexec, d3', Value.category]
  exact X₁.ldcString hexec (own := own) (text := text) (index := is) (a := sa) hown' hstr'.1 hstr'.2
    (g := { method := m, pc := pc + 4, locals := ls, stack := .ref T.heap.size :: .ref T.heap.size :: rest, locked := none }) rfl d4' _ hsteps
theorem xv_throwSW {cc : ByteArray} {pc : Nat} (hexec : p.tables.exec = Jvm.exec) (hb : c.code = cc) (hl : l.stackTraces = false) {own cls text : String} {names : List String} {ik is ic mc ms sa : Nat} {A : Nat → Prop}
    (hown : s.vm.findClass own = some m.cls) (hcls : Bundle.fit cls = true) (hnames : ∀ n ∈ names, Bundle.fit n = true)
    (hk : (Cond.classLink own ik cls).before args s = true) (hini : (Cond.initialized cls).before args s = true) (hstr : vk_R own is text sa s) (hat : ∀ w ∈ vx_atS own ic cls names, w.before args s = true)
    (hgood : ∀ w ∈ Cond.classLink own ik cls :: Cond.initialized cls :: vx_atS own ic cls names, vx_ot w = true)
    (hU : vx_Zq Bundle.tN "UNASSIGNED_STACK" Bundle.steD A s H) (hN : vx_Zq Bundle.tN "SUPPRESSED_SENTINEL" Bundle.listD A s H) (hsize : ls.size = c.maxLocals)
    (d0 : decode cc pc = .ok (.new ik, 3)) (d3 : decode cc (pc + 3) = .ok (.dup, 1)) (d4 : decode cc (pc + 4) = .ok (.ldc_w is, 3)) (d7 : decode cc (pc + 7) = .ok (.invokespecial ic, 3)) (d10 : decode cc (pc + 10) = .ok (.athrow, 1))
    (hout : ∀ x ∈ c.exceptionTable.toList, covers x (pc + 10) = false)
    (hRframes : names.length + 3 < R.frames) (hRlocals : (rest.map fun v => v.category).sum + (13 * (names.length + 1) + 43) ≤ R.locals) (hRcells : cells + 1 ≤ R.cells) (hRslots : slots + 6 ≤ R.slots) (hlocks : meth.locks = false)
    (hx : ∀ t : State, s.vm.Alike t.vm → H.size ≤ t.heap.size → (∀ q : Nat, q < H.size → t.heap[q]? = H[q]?) → XC cls s t)
    (hf : ∀ z ∈ locs, free z.base) (hc : cells + 1 ≤ mc) (hs : slots + 6 ≤ ms) :
    W p l e R s m args below meth c H locs cells slots (vx_MQ below Qc XC args s mc ms free) (F0 m pc ls rest) := by
  intro T hT X
  have htr : e.platform.stackTraces = false := (show e.platform.stackTraces = l.stackTraces by rw [X.admits.platform]).trans hl
  have Y := vx_rebase X (R' := { frames := R.frames, locals := R.locals, cells := 1, slots := 6 }) (Nat.le_refl _) (Nat.le_refl _) hRcells hRslots
  obtain ⟨s', hA⟩ : ∃ z, z = (T.setVm s.vm).setFrames (.invoking m args :: below) := ⟨_, rfl⟩
  rw [← hA] at Y
  have hvm : s'.vm = s.vm := by rw [hA]; rfl
  have hhp : s'.heap = H := by rw [hA]; exact hT
  have hW0 : s.WarmedH s'.vm := by rw [hvm]; exact State.WarmedH.refl s
  have hat' : ∀ w ∈ vx_atS own ic cls names, w.before args s' = true := fun w hw => vx_ot_at hW0 hvm.symm (hgood w (List.mem_cons_of_mem _ (List.mem_cons_of_mem _ hw))) (hat w hw)
  have hk' : (Cond.classLink own ik cls).before args s' = true := vx_ot_at hW0 hvm.symm (hgood _ List.mem_cons_self) hk
  have hini' : (Cond.initialized cls).before args s' = true := vx_ot_at hW0 hvm.symm (hgood _ (List.mem_cons_of_mem _ List.mem_cons_self)) hini
  have hU' : vx_Zq Bundle.tN "UNASSIGNED_STACK" Bundle.steD A s' s'.heap := by rw [hhp]; exact vx_Zq.moved hW0.alike hU
  have hN' : vx_Zq Bundle.tN "SUPPRESSED_SENTINEL" Bundle.listD A s' s'.heap := by rw [hhp]; exact vx_Zq.moved hW0.alike hN
  have h : ∀ w ∈ Bundle.ownAtoms own ic cls names, w.before args s' = true := vx_own hat' (vx_isRefq hU'.1) (vx_isRefq hN'.1) hU'.2.word hN'.2.word
  have hown' : s'.vm.findClass own = some m.cls := by rw [hvm]; exact hown
  have hins : (Cond.instantiable cls 6).before args s' = true := h _ (by simp [Bundle.ownAtoms])
  obtain ⟨vm₁, cX, kX, hfX, hkX, -, -, X₁, st1⟩ := Y.newCold hexec (own := own) (C := cls) (index := ik) (n := 6) hown' hk' hins hini'
    (g := F0 m pc ls rest) rfl (by rw [hb]; exact d0) (Nat.le_refl _) (Nat.le_refl _)
  generalize hT1 : (T.setVm vm₁).pushCell { cls := cX, slots := kX.instanceTypes.map defaultValue, vm := .none } = T1 at X₁ st1
  have hcat : (Value.ref T.heap.size).category = 1 := rfl
  have hcellA : T1.heap[T.heap.size]? = some (freshCell cX kX) := by rw [← hT1]; exact State.heap_pushCell_size _ _
  have d3' : decode c.code (pc + 3) = .ok (.dup, 1) := by rw [hb]; exact d3
  have d4' : decode c.code (pc + 4) = .ok (.ldc_w is, 3) := by rw [hb]; exact d4
  have hstr' : vk_R own is text sa s' := vk_R.warm hW0 hstr
  obtain ⟨U, hsteps, hrun, hend, hW, hsame, ce, hce, hO⟩ := X₁.ctorThrowS hexec htr (own := own) (cls := cls) (names := names) (ic := ic) hown' hcls hnames h (fun x hx => nomatch hx) hfX hkX hcellA (by rw [hhp, hT]; exact Nat.le_refl _) (msg := .ref sa) rfl
    (g := { method := m, pc := pc + 7, locals := ls, stack := .ref sa :: .ref T.heap.size :: .ref T.heap.size :: rest, locked := none }) rfl hsize rfl rfl (rest := rest) rfl
    (by rw [hb]; exact d7) (by rw [hb]; exact d10) hout hRframes (by simp only [List.map_cons, List.sum_cons, hcat]; omega) hlocks
  obtain ⟨f1, f2⟩ := vx_frame hsame
  rw [hhp] at f1 f2
  have hWs : s.WarmedH U.vm := State.WarmedH.trans hW0 hW
  have hcl : s.vm.findClass cls = some ce.cls := by
    have h9 := hO.cls
    rw [hvm] at h9
    exact h9
  have hall : s.sameButNew ({ U with vm := s.vm } : State) locs mc ms := by
    subst hA
    obtain ⟨e1, e2⟩ := hsame
    rw [State.setFrames_setFrames] at e1
    have h2 : (T.setVm s.vm).sameButNew ({ U with vm := s.vm } : State) [] (0 + 1) (0 + 6) := ⟨e1, e2⟩
    have h3 := X.same.trans h2
    rw [List.append_nil] at h3
    exact h3.mono hc hs
  refine ⟨U, ?_, .threw T.heap.size, hrun, hend, Or.inr ⟨T.heap.size, rfl, cls, ce, locs, hx U hWs.alike f1 (fun q hq => f2 q hq (fun z hz => nomatch hz)), hce, hO.vm, hcl, hWs, hall, hf⟩⟩
  refine st1 _ ?_
  show Steps p.tables e below (T1.setTop { method := m, pc := pc + 3, locals := ls, stack := .ref T.heap.size :: rest, locked := none }) _
  jvm_step X₁.here [X₁.here.top, hexec, d3', Value.category]
  exact X₁.ldcStringW hexec (own := own) (text := text) (index := is) (a := sa) hown' hstr'.1 hstr'.2
    (g := { method := m, pc := pc + 4, locals := ls, stack := .ref T.heap.size :: .ref T.heap.size :: rest, locked := none }) rfl d4' _ hsteps
theorem xv_throwN {cc : ByteArray} {pc : Nat} (hexec : p.tables.exec = Jvm.exec) (hb : c.code = cc) (hl : l.stackTraces = false) {own cls text : String} {ik is ic mc ms sa : Nat} {A : Nat → Prop}
    (hown : s.vm.findClass own = some m.cls) (hcls : Bundle.fit cls = true)
    (hk : (Cond.classLink own ik cls).before args s = true) (hini : (Cond.initialized cls).before args s = true) (hstr : vk_R own is text sa s) (hat : ∀ w ∈ vx_at13 own ic cls, w.before args s = true)
    (hgood : ∀ w ∈ Cond.classLink own ik cls :: Cond.initialized cls :: vx_at13 own ic cls, vx_ot w = true)
    (hU : vx_Zq Bundle.tN "UNASSIGNED_STACK" Bundle.steD A s H) (hN : vx_Zq Bundle.tN "SUPPRESSED_SENTINEL" Bundle.listD A s H) (hsize : ls.size = c.maxLocals)
    (d0 : decode cc pc = .ok (.new ik, 3)) (d3 : decode cc (pc + 3) = .ok (.dup, 1)) (d4 : decode cc (pc + 4) = .ok (.ldc is, 2)) (d6 : decode cc (pc + 6) = .ok (.invokespecial ic, 3)) (d9 : decode cc (pc + 9) = .ok (.athrow, 1))
    (hout : ∀ x ∈ c.exceptionTable.toList, covers x (pc + 9) = false)
    (hRframes : 2 + 3 < R.frames) (hRlocals : (rest.map fun v => v.category).sum + (13 * (2 + 1) + 43) ≤ R.locals) (hRcells : cells + 1 ≤ R.cells) (hRslots : slots + 6 ≤ R.slots) (hlocks : meth.locks = false)
    (hx : ∀ t : State, s.vm.Alike t.vm → H.size ≤ t.heap.size → (∀ q : Nat, q < H.size → t.heap[q]? = H[q]?) → XC cls s t)
    (hf : ∀ z ∈ locs, free z.base) (hc : cells + 1 ≤ mc) (hs : slots + 6 ≤ ms) :
    W p l e R s m args below meth c H locs cells slots (vx_MQ below Qc XC args s mc ms free) (F0 m pc ls rest) := by
  intro T hT X
  have htr : e.platform.stackTraces = false := (show e.platform.stackTraces = l.stackTraces by rw [X.admits.platform]).trans hl
  have Y := vx_rebase X (R' := { frames := R.frames, locals := R.locals, cells := 1, slots := 6 }) (Nat.le_refl _) (Nat.le_refl _) hRcells hRslots
  obtain ⟨s', hA⟩ : ∃ z, z = (T.setVm s.vm).setFrames (.invoking m args :: below) := ⟨_, rfl⟩
  rw [← hA] at Y
  have hvm : s'.vm = s.vm := by rw [hA]; rfl
  have hhp : s'.heap = H := by rw [hA]; exact hT
  have hW0 : s.WarmedH s'.vm := by rw [hvm]; exact State.WarmedH.refl s
  have hat' : ∀ w ∈ vx_at13 own ic cls, w.before args s' = true := fun w hw => vx_ot_at hW0 hvm.symm (hgood w (List.mem_cons_of_mem _ (List.mem_cons_of_mem _ hw))) (hat w hw)
  have hk' : (Cond.classLink own ik cls).before args s' = true := vx_ot_at hW0 hvm.symm (hgood _ List.mem_cons_self) hk
  have hini' : (Cond.initialized cls).before args s' = true := vx_ot_at hW0 hvm.symm (hgood _ (List.mem_cons_of_mem _ List.mem_cons_self)) hini
  have hU' : vx_Zq Bundle.tN "UNASSIGNED_STACK" Bundle.steD A s' s'.heap := by rw [hhp]; exact vx_Zq.moved hW0.alike hU
  have hN' : vx_Zq Bundle.tN "SUPPRESSED_SENTINEL" Bundle.listD A s' s'.heap := by rw [hhp]; exact vx_Zq.moved hW0.alike hN
  have h : ∀ w ∈ xAt13 own ic cls, w.before args s' = true := vx_own hat' (vx_isRefq hU'.1) (vx_isRefq hN'.1) hU'.2.word hN'.2.word
  have hown' : s'.vm.findClass own = some m.cls := by rw [hvm]; exact hown
  have hins : (Cond.instantiable cls 6).before args s' = true := h _ (by simp [xAt13])
  obtain ⟨vm₁, cX, kX, hfX, hkX, -, -, X₁, st1⟩ := Y.newCold hexec (own := own) (C := cls) (index := ik) (n := 6) hown' hk' hins hini'
    (g := F0 m pc ls rest) rfl (by rw [hb]; exact d0) (Nat.le_refl _) (Nat.le_refl _)
  generalize hT1 : (T.setVm vm₁).pushCell { cls := cX, slots := kX.instanceTypes.map defaultValue, vm := .none } = T1 at X₁ st1
  have hcat : (Value.ref T.heap.size).category = 1 := rfl
  have hcellA : T1.heap[T.heap.size]? = some (freshCell cX kX) := by rw [← hT1]; exact State.heap_pushCell_size _ _
  have d3' : decode c.code (pc + 3) = .ok (.dup, 1) := by rw [hb]; exact d3
  have d4' : decode c.code (pc + 4) = .ok (.ldc is, 2) := by rw [hb]; exact d4
  have hstr' : vk_R own is text sa s' := vk_R.warm hW0 hstr
  obtain ⟨U, hsteps, hrun, hend, hW, hsame, ce, hce, hOc, hOv⟩ := xv_ctorN X₁ hexec htr (own := own) (cls := cls) (ic := ic) hown' hcls h (fun x hx => nomatch hx) hfX hkX hcellA (by rw [hhp, hT]; exact Nat.le_refl _) (msg := .ref sa) rfl
    (g := { method := m, pc := pc + 6, locals := ls, stack := .ref sa :: .ref T.heap.size :: .ref T.heap.size :: rest, locked := none }) rfl hsize rfl rfl (rest := rest) rfl
    (by rw [hb]; exact d6) (by rw [hb]; exact d9) hout hRframes (by simp only [List.map_cons, List.sum_cons, hcat]; omega) hlocks
  obtain ⟨f1, f2⟩ := vx_frame hsame
  rw [hhp] at f1 f2
  have hWs : s.WarmedH U.vm := State.WarmedH.trans hW0 hW
  have hcl : s.vm.findClass cls = some ce.cls := by
    have h9 := hOc
    rw [hvm] at h9
    exact h9
  have hall : s.sameButNew ({ U with vm := s.vm } : State) locs mc ms := by
    subst hA
    obtain ⟨e1, e2⟩ := hsame
    rw [State.setFrames_setFrames] at e1
    have h2 : (T.setVm s.vm).sameButNew ({ U with vm := s.vm } : State) [] (0 + 1) (0 + 6) := ⟨e1, e2⟩
    have h3 := X.same.trans h2
    rw [List.append_nil] at h3
    exact h3.mono hc hs
  refine ⟨U, ?_, .threw T.heap.size, hrun, hend, Or.inr ⟨T.heap.size, rfl, cls, ce, locs, hx U hWs.alike f1 (fun q hq => f2 q hq (fun z hz => nomatch hz)), hce, hOv, hcl, hWs, hall, hf⟩⟩
  refine st1 _ ?_
  show Steps p.tables e below (T1.setTop { method := m, pc := pc + 3, locals := ls, stack := .ref T.heap.size :: rest, locked := none }) _
  jvm_step X₁.here [X₁.here.top, hexec, d3', Value.category]
  exact X₁.ldcString hexec (own := own) (text := text) (index := is) (a := sa) hown' hstr'.1 hstr'.2
    (g := { method := m, pc := pc + 4, locals := ls, stack := .ref T.heap.size :: .ref T.heap.size :: rest, locked := none }) rfl d4' _ hsteps
theorem xv_throwNW {cc : ByteArray} {pc : Nat} (hexec : p.tables.exec = Jvm.exec) (hb : c.code = cc) (hl : l.stackTraces = false) {own cls text : String} {ik is ic mc ms sa : Nat} {A : Nat → Prop}
    (hown : s.vm.findClass own = some m.cls) (hcls : Bundle.fit cls = true)
    (hk : (Cond.classLink own ik cls).before args s = true) (hini : (Cond.initialized cls).before args s = true) (hstr : vk_R own is text sa s) (hat : ∀ w ∈ vx_at13 own ic cls, w.before args s = true)
    (hgood : ∀ w ∈ Cond.classLink own ik cls :: Cond.initialized cls :: vx_at13 own ic cls, vx_ot w = true)
    (hU : vx_Zq Bundle.tN "UNASSIGNED_STACK" Bundle.steD A s H) (hN : vx_Zq Bundle.tN "SUPPRESSED_SENTINEL" Bundle.listD A s H) (hsize : ls.size = c.maxLocals)
    (d0 : decode cc pc = .ok (.new ik, 3)) (d3 : decode cc (pc + 3) = .ok (.dup, 1)) (d4 : decode cc (pc + 4) = .ok (.ldc_w is, 3)) (d7 : decode cc (pc + 7) = .ok (.invokespecial ic, 3)) (d10 : decode cc (pc + 10) = .ok (.athrow, 1))
    (hout : ∀ x ∈ c.exceptionTable.toList, covers x (pc + 10) = false)
    (hRframes : 2 + 3 < R.frames) (hRlocals : (rest.map fun v => v.category).sum + (13 * (2 + 1) + 43) ≤ R.locals) (hRcells : cells + 1 ≤ R.cells) (hRslots : slots + 6 ≤ R.slots) (hlocks : meth.locks = false)
    (hx : ∀ t : State, s.vm.Alike t.vm → H.size ≤ t.heap.size → (∀ q : Nat, q < H.size → t.heap[q]? = H[q]?) → XC cls s t)
    (hf : ∀ z ∈ locs, free z.base) (hc : cells + 1 ≤ mc) (hs : slots + 6 ≤ ms) :
    W p l e R s m args below meth c H locs cells slots (vx_MQ below Qc XC args s mc ms free) (F0 m pc ls rest) := by
  intro T hT X
  have htr : e.platform.stackTraces = false := (show e.platform.stackTraces = l.stackTraces by rw [X.admits.platform]).trans hl
  have Y := vx_rebase X (R' := { frames := R.frames, locals := R.locals, cells := 1, slots := 6 }) (Nat.le_refl _) (Nat.le_refl _) hRcells hRslots
  obtain ⟨s', hA⟩ : ∃ z, z = (T.setVm s.vm).setFrames (.invoking m args :: below) := ⟨_, rfl⟩
  rw [← hA] at Y
  have hvm : s'.vm = s.vm := by rw [hA]; rfl
  have hhp : s'.heap = H := by rw [hA]; exact hT
  have hW0 : s.WarmedH s'.vm := by rw [hvm]; exact State.WarmedH.refl s
  have hat' : ∀ w ∈ vx_at13 own ic cls, w.before args s' = true := fun w hw => vx_ot_at hW0 hvm.symm (hgood w (List.mem_cons_of_mem _ (List.mem_cons_of_mem _ hw))) (hat w hw)
  have hk' : (Cond.classLink own ik cls).before args s' = true := vx_ot_at hW0 hvm.symm (hgood _ List.mem_cons_self) hk
  have hini' : (Cond.initialized cls).before args s' = true := vx_ot_at hW0 hvm.symm (hgood _ (List.mem_cons_of_mem _ List.mem_cons_self)) hini
  have hU' : vx_Zq Bundle.tN "UNASSIGNED_STACK" Bundle.steD A s' s'.heap := by rw [hhp]; exact vx_Zq.moved hW0.alike hU
  have hN' : vx_Zq Bundle.tN "SUPPRESSED_SENTINEL" Bundle.listD A s' s'.heap := by rw [hhp]; exact vx_Zq.moved hW0.alike hN
  have h : ∀ w ∈ xAt13 own ic cls, w.before args s' = true := vx_own hat' (vx_isRefq hU'.1) (vx_isRefq hN'.1) hU'.2.word hN'.2.word
  have hown' : s'.vm.findClass own = some m.cls := by rw [hvm]; exact hown
  have hins : (Cond.instantiable cls 6).before args s' = true := h _ (by simp [xAt13])
  obtain ⟨vm₁, cX, kX, hfX, hkX, -, -, X₁, st1⟩ := Y.newCold hexec (own := own) (C := cls) (index := ik) (n := 6) hown' hk' hins hini'
    (g := F0 m pc ls rest) rfl (by rw [hb]; exact d0) (Nat.le_refl _) (Nat.le_refl _)
  generalize hT1 : (T.setVm vm₁).pushCell { cls := cX, slots := kX.instanceTypes.map defaultValue, vm := .none } = T1 at X₁ st1
  have hcat : (Value.ref T.heap.size).category = 1 := rfl
  have hcellA : T1.heap[T.heap.size]? = some (freshCell cX kX) := by rw [← hT1]; exact State.heap_pushCell_size _ _
  have d3' : decode c.code (pc + 3) = .ok (.dup, 1) := by rw [hb]; exact d3
  have d4' : decode c.code (pc + 4) = .ok (.ldc_w is, 3) := by rw [hb]; exact d4
  have hstr' : vk_R own is text sa s' := vk_R.warm hW0 hstr
  obtain ⟨U, hsteps, hrun, hend, hW, hsame, ce, hce, hOc, hOv⟩ := xv_ctorN X₁ hexec htr (own := own) (cls := cls) (ic := ic) hown' hcls h (fun x hx => nomatch hx) hfX hkX hcellA (by rw [hhp, hT]; exact Nat.le_refl _) (msg := .ref sa) rfl
    (g := { method := m, pc := pc + 7, locals := ls, stack := .ref sa :: .ref T.heap.size :: .ref T.heap.size :: rest, locked := none }) rfl hsize rfl rfl (rest := rest) rfl
    (by rw [hb]; exact d7) (by rw [hb]; exact d10) hout hRframes (by simp only [List.map_cons, List.sum_cons, hcat]; omega) hlocks
  obtain ⟨f1, f2⟩ := vx_frame hsame
  rw [hhp] at f1 f2
  have hWs : s.WarmedH U.vm := State.WarmedH.trans hW0 hW
  have hcl : s.vm.findClass cls = some ce.cls := by
    have h9 := hOc
    rw [hvm] at h9
    exact h9
  have hall : s.sameButNew ({ U with vm := s.vm } : State) locs mc ms := by
    subst hA
    obtain ⟨e1, e2⟩ := hsame
    rw [State.setFrames_setFrames] at e1
    have h2 : (T.setVm s.vm).sameButNew ({ U with vm := s.vm } : State) [] (0 + 1) (0 + 6) := ⟨e1, e2⟩
    have h3 := X.same.trans h2
    rw [List.append_nil] at h3
    exact h3.mono hc hs
  refine ⟨U, ?_, .threw T.heap.size, hrun, hend, Or.inr ⟨T.heap.size, rfl, cls, ce, locs, hx U hWs.alike f1 (fun q hq => f2 q hq (fun z hz => nomatch hz)), hce, hOv, hcl, hWs, hall, hf⟩⟩
  refine st1 _ ?_
  show Steps p.tables e below (T1.setTop { method := m, pc := pc + 3, locals := ls, stack := .ref T.heap.size :: rest, locked := none }) _
  jvm_step X₁.here [X₁.here.top, hexec, d3', Value.category]
  exact X₁.ldcStringW hexec (own := own) (text := text) (index := is) (a := sa) hown' hstr'.1 hstr'.2
    (g := { method := m, pc := pc + 4, locals := ls, stack := .ref T.heap.size :: .ref T.heap.size :: rest, locked := none }) rfl d4' _ hsteps
end XV0
/-- what a throw asks of the start: two statics of Throwable; a launch without stack traces -/
def xZx (P : xP) : Prop := P.1.stackTraces = false ∧ (∀ U, P.2.2.2.2 U → vx_Zq Bundle.tN "UNASSIGNED_STACK" Bundle.steD (xA0 P) U P.2.2.1) ∧ ∀ U, P.2.2.2.2 U → vx_Zq Bundle.tN "SUPPRESSED_SENTINEL" Bundle.listD (xA0 P) U P.2.2.1
/-- a body's end where it may throw: postx says of what class, and with what heap -/
def xXC (P : xP) (postx : String → xF → Nat → Prop) : String → State → State → Prop := fun E _ t => ∃ (F1 : xF) (z1 : Nat), postx E F1 z1 ∧ xW P F1 z1 t.heap
def xQc (P : xP) (post : Option Value → xF → Nat → Prop) : Array Value → State → Outcome → State → Prop := fun _ _ oc t => ∃ (r : Option Value) (F1 : xF) (z1 : Nat), oc = .returned r ∧ post r F1 z1 ∧ xW P F1 z1 t.heap
def xRx (P : xP) (Θ : xT) (mc ms : Nat) (postx : String → xF → Nat → Prop) : Prop := (∃ Qc, Θ.2.2.2.2.2.2.2.2.2 = vx_MQ Θ.2.2.2.2.2.2.1 Qc (xXC P postx) Θ.2.2.2.2.2.1 Θ.2.2.2.1 mc ms (fun q => P.2.2.2.1 ≤ q)) ∧ ∀ x ∈ Θ.2.2.2.2.2.2.2.2.1.exceptionTable.toList, False
def xMx (P : xP) (Y : xY) (av : List Value) (F : xF) (z mc ms : Nat) (post : Option Value → xF → Nat → Prop) (postx : String → xF → Nat → Prop) : Prop :=
  vx_Met P.1 Y.1 (.code Y.1 Y.2.1 Y.2.2.1 Y.2.2.2.1 :: x_tbl) ({ frames := Y.2.2.2.2, cells := mc, slots := ms, locals := 60 * Y.2.2.2.2 } : Room)
    (va_Pc av (fun U => xW P F z U.heap ∧ xK P U)) (xQc P post) (xXC P postx) mc ms (fun q => P.2.2.2.1 ≤ q)
theorem xMx_body {P : xP} {Y : xY} {av : List Value} {F : xF} {z mc ms : Nat} {post : Option Value → xF → Nat → Prop} {postx : String → xF → Nat → Prop} (hy : plainName Y.1.cls = true) (hlen : (lg_sl av).length ≤ Y.2.2.1) {L0 : List (Option Value)} (hL : xL0 av Y.2.2.1 = L0)
    (body : ∀ Θ : xT, xC P Θ Y.2.1 Y.1.cls Y.2.2.1 Y.2.2.2.2 mc ms → (∀ x ∈ Θ.2.2.2.2.2.2.2.2.1.exceptionTable.toList, False) → Θ.2.2.2.2.2.2.2.1.sig.returnType = Y.2.2.2.1 →
      Θ.2.2.2.2.2.2.2.2.2 = vx_MQ Θ.2.2.2.2.2.2.1 (xQc P post) (xXC P postx) Θ.2.2.2.2.2.1 Θ.2.2.2.1 mc ms (fun q => P.2.2.2.1 ≤ q) → xX P Θ 0 L0 [] F z 0 0) : xMx P Y av F z mc ms post postx := by
  unfold xMx
  refine vx_ofW (cc := Y.2.1) (maxL := Y.2.2.1) (ret := Y.2.2.2.1) hy rfl ?_
  intro p e s m args below meth c s₁ B hml hno hv
  obtain ⟨rfl, hW, hK⟩ := hv
  have hts := atoms_spec (ws := .code Y.1 Y.2.1 Y.2.2.1 Y.2.2.2.1 :: x_tbl) B.pre
  have key := body (p, e, _, s, m, av.toArray, below, meth, c, vx_MQ below (xQc P post) (xXC P postx) av.toArray s mc ms (fun q => P.2.2.2.1 ≤ q)) ⟨B.exec, B.bytes, hml, findClass_of_methodNamed B.named, fun w hw => hts w (List.mem_cons_of_mem _ hw), hK, rfl, B.notSynchronized⟩ hno B.returns rfl
  rw [lg_entry_eq]
  have hx := xl_entry av hlen
  rw [hL] at hx
  exact key s.heap [] _ hW (fun q hq => by cases hq) hx
theorem xMx_i {P : xP} {Y : xY} {av : List Value} {F : xF} {z mc ms : Nat} {post : Option Value → xF → Nat → Prop} {postx : String → xF → Nat → Prop} (ty : FieldType) (hy : plainName Y.1.cls = true) (hlen : (lg_sl av).length ≤ Y.2.2.1) {L0 : List (Option Value)} (hL : xL0 av Y.2.2.1 = L0) (hr : Y.2.2.2.1 = some ty)
    (body : ∀ Θ : xT, xC P Θ Y.2.1 Y.1.cls Y.2.2.1 Y.2.2.2.2 mc ms → xRx P Θ mc ms postx → xRi P Θ Y.2.1 ty mc ms post → xX P Θ 0 L0 [] F z 0 0) : xMx P Y av F z mc ms post postx := by
  refine xMx_body hy hlen hL fun Θ hC hno hrt hQ => body Θ hC ⟨⟨_, hQ⟩, hno⟩ ?_
  obtain ⟨p, e, R, s, m, args, below, meth, c, Q⟩ := Θ
  intro pc L F1 z1 k n x hd hk hn hnar hp H locs ls hW hl hx
  dsimp only at hQ hrt ⊢
  subst hQ
  refine W.widen hk hn (vx_ret ?_)
  exact W.zret hC.1 hC.2.1 (hrt.trans hr) hnar (fun t ht hWm => ⟨some (.int x), F1, z1, rfl, hp, by rw [ht]; exact hW⟩) hl hd hC.2.2.2.2.2.2.2
theorem xMx_a {P : xP} {Y : xY} {av : List Value} {F : xF} {z mc ms : Nat} {post : Option Value → xF → Nat → Prop} {postx : String → xF → Nat → Prop} {rt : FieldType} (hy : plainName Y.1.cls = true) (hlen : (lg_sl av).length ≤ Y.2.2.1) {L0 : List (Option Value)} (hL : xL0 av Y.2.2.1 = L0) (hr : Y.2.2.2.1 = some rt) (hra : (∃ n, rt = .object n) ∨ ∃ t, rt = .array t)
    (body : ∀ Θ : xT, xC P Θ Y.2.1 Y.1.cls Y.2.2.1 Y.2.2.2.2 mc ms → xRx P Θ mc ms postx → xRa P Θ Y.2.1 mc ms post → xX P Θ 0 L0 [] F z 0 0) : xMx P Y av F z mc ms post postx := by
  refine xMx_body hy hlen hL fun Θ hC hno hrt hQ => body Θ hC ⟨⟨_, hQ⟩, hno⟩ ?_
  obtain ⟨p, e, R, s, m, args, below, meth, c, Q⟩ := Θ
  intro pc L F1 z1 k n v hd hk hn hv hp H locs ls hW hl hx
  dsimp only at hQ hrt ⊢
  subst hQ
  refine W.widen hk hn (vx_ret ?_)
  exact W.aret hC.1 hC.2.1 (hrt.trans hr) hra hv (fun t ht hWm => ⟨some v, F1, z1, rfl, hp, by rw [ht]; exact hW⟩) hl hd hC.2.2.2.2.2.2.2
/-- the words of one throw -/
def xTN (own cls text : String) (ik is ic : Nat) : Prop := Bundle.fit cls = true ∧ Cond.classLink own ik cls ∈ x_tbl ∧ Cond.initialized cls ∈ x_tbl ∧ Cond.stringRef own is text ∈ x_nst ∧ (∀ w ∈ vx_at13 own ic cls, w ∈ x_tbl ∨ (w ∈ x_nst ∧ w.onTables = true)) ∧ ∀ w ∈ vx_at13 own ic cls, vx_ot w = true
def xTW (own cls text : String) (ik is ic : Nat) : Prop := Bundle.fit cls = true ∧ Cond.classLink own ik cls ∈ x_tbl ∧ Cond.initialized cls ∈ x_tbl ∧ Cond.stringRef own is text ∈ x_nst ∧ (∀ w ∈ vx_atS own ic cls ["java/lang/RuntimeException", "java/lang/Exception"], w ∈ x_tbl ∨ (w ∈ x_nst ∧ w.onTables = true)) ∧ ∀ w ∈ vx_atS own ic cls ["java/lang/RuntimeException", "java/lang/Exception"], vx_ot w = true
theorem x_nms : ∀ n ∈ (["java/lang/RuntimeException", "java/lang/Exception"] : List String), Bundle.fit n = true := by decide +kernel
theorem vx_Zq_new {C n d : String} {A : Nat → Prop} {U : State} {H H1 : Heap} (h : vx_Zq C n d A U H) (hq : ∀ a : Nat, ¬ A a → H1[a]? = H[a]?) : vx_Zq C n d A U H1 := h.kept (fun a _ ha => hq a ha)
section XV1
variable {P : xP} {Θ : xT} {cc : ByteArray} {own : String} {nL d mc ms pc : Nat} {L : List (Option Value)} {st : List Value} {F : xF} {z k n : Nat}
theorem x_nw {w : Cond} (hC : xC P Θ cc own nL d mc ms) (h : w ∈ x_tbl ∨ (w ∈ x_nst ∧ w.onTables = true)) : w.before Θ.2.2.2.2.2.1 Θ.2.2.2.1 = true := h.elim (fun q => hC.2.2.2.2.1 _ q) (fun q => va_Nw.use q.2 (hC.2.2.2.2.2.1.2.2.1 _ q.1))

theorem x_thr (hC : xC P Θ cc own nL d mc ms) {postx : String → xF → Nat → Prop} (hR : xRx P Θ mc ms postx) (hz : xZx P) {cls text : String} {ik is ic : Nat} (hw : xTW own cls text ik is ic) (hL : L.length = nL) (hst : (st.map fun v => v.category).sum ≤ 8) (hd5 : 6 ≤ d) (hm : k + 1 ≤ mc ∧ n + 6 ≤ ms) (d0 : decode cc pc = .ok (.new ik, 3)) (d3 : decode cc (pc + 3) = .ok (.dup, 1)) (d4 : decode cc (pc + 4) = .ok (.ldc is, 2)) (d6 : decode cc (pc + 6) = .ok (.invokespecial ic, 3)) (d9 : decode cc (pc + 9) = .ok (.athrow, 1)) (hp : ∀ z1, z ≤ z1 → postx cls F z1) : xX P Θ pc L st F z k n := by
  intro H locs ls hW hl hx
  obtain ⟨⟨Qc, hQ⟩, hno⟩ := hR
  obtain ⟨U0, hal, hks⟩ := hC.2.2.2.2.2.1.2.2.2
  obtain ⟨w1, w2, w3, w4, w5, w6⟩ := hw
  have hRm := hC.2.2.2.2.2.2.1
  have hold : ∀ a : Nat, ¬ xA0 P a → H[a]? = P.2.2.1[a]? := fun a ha => x_old hW ha
  obtain ⟨k9, cf9, i9, sa, -, -, -, -, -, hev⟩ := Cond.stringRef_spec hC.2.2.2.1 (hC.2.2.2.2.2.1.2.2.1 _ w4)
  rw [hQ]
  refine xv_throwS (names := ["java/lang/RuntimeException", "java/lang/Exception"]) (own := own) (cls := cls) (text := text) (ik := ik) (is := is) (ic := ic) (sa := sa) (A := xA0 P) hC.1 hC.2.1 hz.1 hC.2.2.2.1 w1 x_nms (hC.2.2.2.2.1 _ w2) (hC.2.2.2.2.1 _ w3) ⟨hC.2.2.2.2.2.1.2.2.1 _ w4, hev⟩ (fun w hw => x_nw hC (w5 w hw)) ?_ (vx_Zq_new (vx_Zq.moved hal (hz.2.1 U0 hks)) hold) (vx_Zq_new (vx_Zq.moved hal (hz.2.2 U0 hks)) hold) (by rw [hC.2.2.1, ← hL]; exact hx.1) d0 d3 d4 d6 d9 (fun x hx => (hno x hx).elim) ?_ ?_ ?_ ?_ hC.2.2.2.2.2.2.2 ?_ hl hm.1 hm.2
  · intro w hw
    rcases List.mem_cons.mp hw with rfl | hw
    · rfl
    · rcases List.mem_cons.mp hw with rfl | hw
      · rfl
      · exact w6 w hw
  · rw [hRm]; show 2 + 3 < d; omega
  · rw [hRm]; show _ + (13 * (2 + 1) + 43) ≤ 60 * d; omega
  · rw [hRm]; exact hm.1
  · rw [hRm]; exact hm.2
  · intro t hal2 hsz hold2
    refine ⟨F, t.heap.size, hp _ (by rw [← hW.1]; exact hsz), rfl, hW.2.1, Nat.le_trans (by rw [hW.1]; exact hW.2.2.1) hsz, fun q hq => ?_, fun a e he => ?_⟩
    · rw [hold2 q (by have := hW.2.2.1; rw [hW.1]; omega)]
      exact hW.2.2.2.1 q hq
    · obtain ⟨q1, q2⟩ := hW.2.2.2.2 a e he
      exact ⟨q1, xat_kept q2 (hold2 _ (xat_lt q2))⟩
theorem x_thrN (hC : xC P Θ cc own nL d mc ms) {postx : String → xF → Nat → Prop} (hR : xRx P Θ mc ms postx) (hz : xZx P) {cls text : String} {ik is ic : Nat} (hw : xTN own cls text ik is ic) (hL : L.length = nL) (hst : (st.map fun v => v.category).sum ≤ 8) (hd5 : 6 ≤ d) (hm : k + 1 ≤ mc ∧ n + 6 ≤ ms) (d0 : decode cc pc = .ok (.new ik, 3)) (d3 : decode cc (pc + 3) = .ok (.dup, 1)) (d4 : decode cc (pc + 4) = .ok (.ldc is, 2)) (d6 : decode cc (pc + 6) = .ok (.invokespecial ic, 3)) (d9 : decode cc (pc + 9) = .ok (.athrow, 1)) (hp : ∀ z1, z ≤ z1 → postx cls F z1) : xX P Θ pc L st F z k n := by
  intro H locs ls hW hl hx
  obtain ⟨⟨Qc, hQ⟩, hno⟩ := hR
  obtain ⟨U0, hal, hks⟩ := hC.2.2.2.2.2.1.2.2.2
  obtain ⟨w1, w2, w3, w4, w5, w6⟩ := hw
  have hRm := hC.2.2.2.2.2.2.1
  have hold : ∀ a : Nat, ¬ xA0 P a → H[a]? = P.2.2.1[a]? := fun a ha => x_old hW ha
  obtain ⟨k9, cf9, i9, sa, -, -, -, -, -, hev⟩ := Cond.stringRef_spec hC.2.2.2.1 (hC.2.2.2.2.2.1.2.2.1 _ w4)
  rw [hQ]
  refine xv_throwN (own := own) (cls := cls) (text := text) (ik := ik) (is := is) (ic := ic) (sa := sa) (A := xA0 P) hC.1 hC.2.1 hz.1 hC.2.2.2.1 w1 (hC.2.2.2.2.1 _ w2) (hC.2.2.2.2.1 _ w3) ⟨hC.2.2.2.2.2.1.2.2.1 _ w4, hev⟩ (fun w hw => x_nw hC (w5 w hw)) ?_ (vx_Zq_new (vx_Zq.moved hal (hz.2.1 U0 hks)) hold) (vx_Zq_new (vx_Zq.moved hal (hz.2.2 U0 hks)) hold) (by rw [hC.2.2.1, ← hL]; exact hx.1) d0 d3 d4 d6 d9 (fun x hx => (hno x hx).elim) ?_ ?_ ?_ ?_ hC.2.2.2.2.2.2.2 ?_ hl hm.1 hm.2
  · intro w hw
    rcases List.mem_cons.mp hw with rfl | hw
    · rfl
    · rcases List.mem_cons.mp hw with rfl | hw
      · rfl
      · exact w6 w hw
  · rw [hRm]; show 2 + 3 < d; omega
  · rw [hRm]; show _ + (13 * (2 + 1) + 43) ≤ 60 * d; omega
  · rw [hRm]; exact hm.1
  · rw [hRm]; exact hm.2
  · intro t hal2 hsz hold2
    refine ⟨F, t.heap.size, hp _ (by rw [← hW.1]; exact hsz), rfl, hW.2.1, Nat.le_trans (by rw [hW.1]; exact hW.2.2.1) hsz, fun q hq => ?_, fun a e he => ?_⟩
    · rw [hold2 q (by have := hW.2.2.1; rw [hW.1]; omega)]
      exact hW.2.2.2.1 q hq
    · obtain ⟨q1, q2⟩ := hW.2.2.2.2 a e he
      exact ⟨q1, xat_kept q2 (hold2 _ (xat_lt q2))⟩
theorem x_thrW (hC : xC P Θ cc own nL d mc ms) {postx : String → xF → Nat → Prop} (hR : xRx P Θ mc ms postx) (hz : xZx P) {cls text : String} {ik is ic : Nat} (hw : xTW own cls text ik is ic) (hL : L.length = nL) (hst : (st.map fun v => v.category).sum ≤ 8) (hd5 : 6 ≤ d) (hm : k + 1 ≤ mc ∧ n + 6 ≤ ms) (d0 : decode cc pc = .ok (.new ik, 3)) (d3 : decode cc (pc + 3) = .ok (.dup, 1)) (d4 : decode cc (pc + 4) = .ok (.ldc_w is, 3)) (d6 : decode cc (pc + 7) = .ok (.invokespecial ic, 3)) (d9 : decode cc (pc + 10) = .ok (.athrow, 1)) (hp : ∀ z1, z ≤ z1 → postx cls F z1) : xX P Θ pc L st F z k n := by
  intro H locs ls hW hl hx
  obtain ⟨⟨Qc, hQ⟩, hno⟩ := hR
  obtain ⟨U0, hal, hks⟩ := hC.2.2.2.2.2.1.2.2.2
  obtain ⟨w1, w2, w3, w4, w5, w6⟩ := hw
  have hRm := hC.2.2.2.2.2.2.1
  have hold : ∀ a : Nat, ¬ xA0 P a → H[a]? = P.2.2.1[a]? := fun a ha => x_old hW ha
  obtain ⟨k9, cf9, i9, sa, -, -, -, -, -, hev⟩ := Cond.stringRef_spec hC.2.2.2.1 (hC.2.2.2.2.2.1.2.2.1 _ w4)
  rw [hQ]
  refine xv_throwSW (names := ["java/lang/RuntimeException", "java/lang/Exception"]) (own := own) (cls := cls) (text := text) (ik := ik) (is := is) (ic := ic) (sa := sa) (A := xA0 P) hC.1 hC.2.1 hz.1 hC.2.2.2.1 w1 x_nms (hC.2.2.2.2.1 _ w2) (hC.2.2.2.2.1 _ w3) ⟨hC.2.2.2.2.2.1.2.2.1 _ w4, hev⟩ (fun w hw => x_nw hC (w5 w hw)) ?_ (vx_Zq_new (vx_Zq.moved hal (hz.2.1 U0 hks)) hold) (vx_Zq_new (vx_Zq.moved hal (hz.2.2 U0 hks)) hold) (by rw [hC.2.2.1, ← hL]; exact hx.1) d0 d3 d4 d6 d9 (fun x hx => (hno x hx).elim) ?_ ?_ ?_ ?_ hC.2.2.2.2.2.2.2 ?_ hl hm.1 hm.2
  · intro w hw
    rcases List.mem_cons.mp hw with rfl | hw
    · rfl
    · rcases List.mem_cons.mp hw with rfl | hw
      · rfl
      · exact w6 w hw
  · rw [hRm]; show 2 + 3 < d; omega
  · rw [hRm]; show _ + (13 * (2 + 1) + 43) ≤ 60 * d; omega
  · rw [hRm]; exact hm.1
  · rw [hRm]; exact hm.2
  · intro t hal2 hsz hold2
    refine ⟨F, t.heap.size, hp _ (by rw [← hW.1]; exact hsz), rfl, hW.2.1, Nat.le_trans (by rw [hW.1]; exact hW.2.2.1) hsz, fun q hq => ?_, fun a e he => ?_⟩
    · rw [hold2 q (by have := hW.2.2.1; rw [hW.1]; omega)]
      exact hW.2.2.2.1 q hq
    · obtain ⟨q1, q2⟩ := hW.2.2.2.2 a e he
      exact ⟨q1, xat_kept q2 (hold2 _ (xat_lt q2))⟩
theorem x_thrWN (hC : xC P Θ cc own nL d mc ms) {postx : String → xF → Nat → Prop} (hR : xRx P Θ mc ms postx) (hz : xZx P) {cls text : String} {ik is ic : Nat} (hw : xTN own cls text ik is ic) (hL : L.length = nL) (hst : (st.map fun v => v.category).sum ≤ 8) (hd5 : 6 ≤ d) (hm : k + 1 ≤ mc ∧ n + 6 ≤ ms) (d0 : decode cc pc = .ok (.new ik, 3)) (d3 : decode cc (pc + 3) = .ok (.dup, 1)) (d4 : decode cc (pc + 4) = .ok (.ldc_w is, 3)) (d6 : decode cc (pc + 7) = .ok (.invokespecial ic, 3)) (d9 : decode cc (pc + 10) = .ok (.athrow, 1)) (hp : ∀ z1, z ≤ z1 → postx cls F z1) : xX P Θ pc L st F z k n := by
  intro H locs ls hW hl hx
  obtain ⟨⟨Qc, hQ⟩, hno⟩ := hR
  obtain ⟨U0, hal, hks⟩ := hC.2.2.2.2.2.1.2.2.2
  obtain ⟨w1, w2, w3, w4, w5, w6⟩ := hw
  have hRm := hC.2.2.2.2.2.2.1
  have hold : ∀ a : Nat, ¬ xA0 P a → H[a]? = P.2.2.1[a]? := fun a ha => x_old hW ha
  obtain ⟨k9, cf9, i9, sa, -, -, -, -, -, hev⟩ := Cond.stringRef_spec hC.2.2.2.1 (hC.2.2.2.2.2.1.2.2.1 _ w4)
  rw [hQ]
  refine xv_throwNW (own := own) (cls := cls) (text := text) (ik := ik) (is := is) (ic := ic) (sa := sa) (A := xA0 P) hC.1 hC.2.1 hz.1 hC.2.2.2.1 w1 (hC.2.2.2.2.1 _ w2) (hC.2.2.2.2.1 _ w3) ⟨hC.2.2.2.2.2.1.2.2.1 _ w4, hev⟩ (fun w hw => x_nw hC (w5 w hw)) ?_ (vx_Zq_new (vx_Zq.moved hal (hz.2.1 U0 hks)) hold) (vx_Zq_new (vx_Zq.moved hal (hz.2.2 U0 hks)) hold) (by rw [hC.2.2.1, ← hL]; exact hx.1) d0 d3 d4 d6 d9 (fun x hx => (hno x hx).elim) ?_ ?_ ?_ ?_ hC.2.2.2.2.2.2.2 ?_ hl hm.1 hm.2
  · intro w hw
    rcases List.mem_cons.mp hw with rfl | hw
    · rfl
    · rcases List.mem_cons.mp hw with rfl | hw
      · rfl
      · exact w6 w hw
  · rw [hRm]; show 2 + 3 < d; omega
  · rw [hRm]; show _ + (13 * (2 + 1) + 43) ≤ 60 * d; omega
  · rw [hRm]; exact hm.1
  · rw [hRm]; exact hm.2
  · intro t hal2 hsz hold2
    refine ⟨F, t.heap.size, hp _ (by rw [← hW.1]; exact hsz), rfl, hW.2.1, Nat.le_trans (by rw [hW.1]; exact hW.2.2.1) hsz, fun q hq => ?_, fun a e he => ?_⟩
    · rw [hold2 q (by have := hW.2.2.1; rw [hW.1]; omega)]
      exact hW.2.2.2.1 q hq
    · obtain ⟨q1, q2⟩ := hW.2.2.2.2 a e he
      exact ⟨q1, xat_kept q2 (hold2 _ (xat_lt q2))⟩
/-- what comes behind a call that may throw -/
theorem x_afterX {H : Heap} {locs : List Loc} {ls : Array Slot} {st0 rest : List Value} {mc1 ms1 : Nat} {post : Option Value → xF → Nat → Prop} {postx1 postx : String → xF → Nat → Prop} {free : Addr → Prop} (hlk : Θ.2.2.2.2.2.2.2.1.locks = false) (hR : xRx P Θ mc ms postx) (hm : k + mc1 ≤ mc ∧ n + ms1 ≤ ms)
    (hr : vx_Run Θ.1 P.1 Θ.2.1 Θ.2.2.1 Θ.2.2.2.1 Θ.2.2.2.2.1 Θ.2.2.2.2.2.1 Θ.2.2.2.2.2.2.1 Θ.2.2.2.2.2.2.2.1 Θ.2.2.2.2.2.2.2.2.1 H locs k n mc1 ms1 (F0 Θ.2.2.2.2.1 pc ls st0) rest (fun _ oc t => ∃ (r : Option Value) (F1 : xF) (z1 : Nat), oc = .returned r ∧ post r F1 z1 ∧ xW P F1 z1 t.heap) (xXC P postx1) free)
    (hl : ∀ q ∈ locs, P.2.2.2.1 ≤ q.base) (hx : xl ls L) (hf : ∀ q, free q → P.2.2.2.1 ≤ q) (kx : ∀ E F1 z1, postx1 E F1 z1 → postx E F1 z1) (kk : ∀ (r : Option Value) (F1 : xF) (z1 : Nat), post r F1 z1 → xX P Θ (pc + 3) L (r.toList ++ rest) F1 z1 (k + mc1) (n + ms1)) :
    W Θ.1 P.1 Θ.2.1 Θ.2.2.1 Θ.2.2.2.1 Θ.2.2.2.2.1 Θ.2.2.2.2.2.1 Θ.2.2.2.2.2.2.1 Θ.2.2.2.2.2.2.2.1 Θ.2.2.2.2.2.2.2.2.1 H locs k n Θ.2.2.2.2.2.2.2.2.2 (F0 Θ.2.2.2.2.1 pc ls st0) := by
  intro T hT X
  rcases hr T hT X with ⟨v, st₀, t, T', L', h0, X', hL', e1, e2, ⟨r, F1, z1, hv, hp, hW⟩, stp⟩ | ⟨q, st₀, t, T', L', E, ce, h0, X', hL', e1, e2, ⟨F1, z1, hp, hW⟩, hce, hcv, hcl, stp⟩
  · cases hv
    obtain ⟨t2, a1, b1⟩ := kk v F1 z1 hp T'.heap (locs ++ L') ls (by rw [e1]; exact hW) (fun q hq => by
      rcases List.mem_append.mp hq with h | h
      · exact hl q h
      · exact hf _ (hL' q h)) hx T' rfl X'
    exact ⟨t2, stp t2 a1, b1⟩
  · obtain ⟨⟨Qc, hQ⟩, hno⟩ := hR
    rw [hQ]
    obtain ⟨t2, a1, b1⟩ := vx_out (XC := xXC P postx) (Qc := Qc) (args := Θ.2.2.2.2.2.1) (rest := rest) (pc := pc) (ls := ls) (H := T'.heap) (mc := mc) (ms := ms) (E := E) (ce := ce) (q := q) (fun x hx => (hno x hx).elim) hlk (by rw [e1]; exact hce) hcv hcl
      (fun t9 h9 _ => ⟨F1, z1, kx _ _ _ hp, by rw [h9, e1]; exact hW⟩) (fun q hq => by
      rcases List.mem_append.mp hq with h | h
      · exact hl q h
      · exact hf _ (hL' q h)) hm.1 hm.2 T' rfl X'
    exact ⟨t2, stp.trans a1, b1⟩
theorem x_callXV (hC : xC P Θ cc own nL d mc ms) {postx postx1 : String → xF → Nat → Prop} (hRx : xRx P Θ mc ms postx) {index nP b ci nC mc1 ms1 : Nat} {Y : xY} {C : String} {T : u_T} {As rest : List Value} {fs : List Value} {post : Option Value → xF → Nat → Prop} (hk : xLV own index Y nP) (hM : xMx P Y (.ref b :: As) F z mc1 ms1 post postx1) (kx : ∀ E F1 z1, postx1 E F1 z1 → postx E F1 z1) (hb : F b = some (.inl (ci, fs))) (hc : xcl[ci]? = some (C, T, nC)) (hcn : Y.1.cls = C) (hdp : Y.2.2.2.2 + 1 ≤ d) (hn : As.length = nP) (hst : st = As.reverse ++ .ref b :: rest) (hL : L.length = nL) (hrm : (rest.map fun v => v.category).sum ≤ 8) (hm : k + mc1 ≤ mc ∧ n + ms1 ≤ ms) (hd : decode cc pc = .ok (.invokevirtual index, 3)) (kk : ∀ (r : Option Value) (F1 : xF) (z1 : Nat), post r F1 z1 → xX P Θ (pc + 3) L (r.toList ++ rest) F1 z1 (k + mc1) (n + ms1)) : xX P Θ pc L st F z k n := by
  subst hst
  obtain ⟨hY, h1, h2, h3⟩ := hk
  intro H locs ls hW hl hx
  have ht := hC.2.2.2.2.1
  have hR := hC.2.2.2.2.2.2.1
  obtain ⟨r, g1, cell, q1, q2, q3, q4⟩ := x_one (hW.2.2.2.2 b _ hb).2 0 _ rfl
  have hr : r = (C, T, nC) := Option.some.inj (g1.symm.trans hc)
  subst hr
  obtain ⟨hS, hfc, kC, hkC, hkind⟩ := hC.2.2.2.2.2.1.1 ci _ hc
  refine x_afterX hC.2.2.2.2.2.2.2 hRx hm (vx_runV (C := Y.1.cls) (As := As) (rest := rest) (n := nP) (bytes := Y.2.1) (maxL := Y.2.2.1) (ret := Y.2.2.2.1) ⟨hC.1, hC.2.1, hC.2.2.1, hC.2.2.2.1, ht⟩ hM ⟨⟨rfl, rfl, ?_, ?_, x_paid ht (x_code hY), List.mem_cons_self, ht _ hY.1, ht _ hY.2.1, ⟨hY.2.2.1.1, hY.2.2.1.2.1⟩, x_len hY, ht _ h1⟩, ht _ h2, ht _ h3⟩ ⟨x_blind, ⟨cell, q1, by rw [q3]; rfl, by rw [hcn, q2]; exact hfc⟩, fun U hU hWm => ⟨rfl, by rw [hU]; exact hW, xK_moved hWm hC.2.2.2.2.2.1⟩⟩ rfl hn (by rw [← hL]; exact hx.1) rfl (lv_room hrm) hd (by rw [hR]; exact hm)) hl hx (fun q h => h) kx kk
  · rw [hR]; exact hdp
  · rw [hR]
    have := hY.2.2.2
    show 8 + (Y.2.2.1 + 11) + 60 * Y.2.2.2.2 ≤ 60 * d
    omega
end XV1

theorem xtw_IllegalArgumentException : ∀ w ∈ vx_atS "MessageCoder" 81 "java/lang/IllegalArgumentException" ["java/lang/RuntimeException", "java/lang/Exception"], w ∈ x_tbl ∨ (w ∈ x_nst ∧ w.onTables = true) := by
  have e : vx_atS "MessageCoder" 81 "java/lang/IllegalArgumentException" ["java/lang/RuntimeException", "java/lang/Exception"] = ([15, 384, 393, 400, 403, 405, 385, 386, 44, 45, 387, 392, 401, 421, 374, 422, 376, 423, 378, 388, 390, 380, 417, 418, 420, 380, 408, 409, 410, 411, 366, 411, 412, 413, 414, 368, 414, 415, 416, 417, 370, 407, 363, 364, 371, 372, 373, 375, 377, 379, 383, 382, 381] : List Nat).filterMap (fun i => tables_1[i]?) := by decide +kernel
  have a : (([15, 384, 393, 400, 403, 405, 385, 386, 44, 45, 387, 392, 401, 421, 374, 422, 376, 423, 378, 388, 390, 380, 417, 418, 420, 380, 408, 409, 410, 411, 366, 411, 412, 413, 414, 368, 414, 415, 416, 417, 370, 407, 363, 364, 371, 372, 373, 375, 377, 379, 383, 382, 381] : List Nat).filterMap (fun i => tables_1[i]?)).all (fun w => goodWord w || (xnst w && w.onTables)) = true := by decide +kernel
  intro w hw
  rw [e] at hw
  have h1 := List.all_eq_true.mp a w hw
  obtain ⟨i, -, hi⟩ := List.mem_filterMap.mp hw
  have hm : w ∈ tables_1 := List.mem_of_getElem? hi
  rcases Bool.or_eq_true_iff.mp h1 with g | g
  · exact Or.inl (x_in (x_of hm) g)
  · exact Or.inr ⟨x_inN hm (Bool.and_eq_true_iff.mp g).1, (Bool.and_eq_true_iff.mp g).2⟩
theorem xtw2_IllegalArgumentException (text : String) (is : Nat) (h : Cond.stringRef "MessageCoder" is text ∈ x_nst) : xTW "MessageCoder" "java/lang/IllegalArgumentException" text 77 is 81 := ⟨by decide +kernel, x_in (x_of (xtb_2 (List.mem_of_getElem? (i := 122) (by decide +kernel)))) (by decide +kernel), x_in (x_of (xtb_1 (List.mem_of_getElem? (i := 18) (by decide +kernel)))) (by decide +kernel), h, xtw_IllegalArgumentException, fun w hw => List.all_eq_true.mp (show (vx_atS "MessageCoder" 81 "java/lang/IllegalArgumentException" ["java/lang/RuntimeException", "java/lang/Exception"]).all vx_ot = true by decide +kernel) w hw⟩
theorem xtw_IllegalStateException : ∀ w ∈ vx_atS "MessageCoder" 93 "java/lang/IllegalStateException" ["java/lang/RuntimeException", "java/lang/Exception"], w ∈ x_tbl ∨ (w ∈ x_nst ∧ w.onTables = true) := by
  have e : vx_atS "MessageCoder" 93 "java/lang/IllegalStateException" ["java/lang/RuntimeException", "java/lang/Exception"] = ([15, 384, 393, 400, 403, 405, 385, 386, 44, 45, 387, 392, 401, 421, 374, 422, 376, 423, 378, 388, 390, 380, 417, 418, 420, 380, 1086, 1087, 1088, 411, 366, 411, 412, 413, 414, 368, 414, 415, 416, 417, 370, 1085, 1076, 1077, 1078, 397, 1079, 1080, 1081, 1082, 383, 382, 1083] : List Nat).filterMap (fun i => tables_1[i]?) := by decide +kernel
  have a : (([15, 384, 393, 400, 403, 405, 385, 386, 44, 45, 387, 392, 401, 421, 374, 422, 376, 423, 378, 388, 390, 380, 417, 418, 420, 380, 1086, 1087, 1088, 411, 366, 411, 412, 413, 414, 368, 414, 415, 416, 417, 370, 1085, 1076, 1077, 1078, 397, 1079, 1080, 1081, 1082, 383, 382, 1083] : List Nat).filterMap (fun i => tables_1[i]?)).all (fun w => goodWord w || (xnst w && w.onTables)) = true := by decide +kernel
  intro w hw
  rw [e] at hw
  have h1 := List.all_eq_true.mp a w hw
  obtain ⟨i, -, hi⟩ := List.mem_filterMap.mp hw
  have hm : w ∈ tables_1 := List.mem_of_getElem? hi
  rcases Bool.or_eq_true_iff.mp h1 with g | g
  · exact Or.inl (x_in (x_of hm) g)
  · exact Or.inr ⟨x_inN hm (Bool.and_eq_true_iff.mp g).1, (Bool.and_eq_true_iff.mp g).2⟩
theorem xtw2_IllegalStateException (text : String) (is : Nat) (h : Cond.stringRef "MessageCoder" is text ∈ x_nst) : xTW "MessageCoder" "java/lang/IllegalStateException" text 89 is 93 := ⟨by decide +kernel, x_in (x_of (xtb_5 (List.mem_of_getElem? (i := 115) (by decide +kernel)))) (by decide +kernel), x_in (x_of (xtb_1 (List.mem_of_getElem? (i := 19) (by decide +kernel)))) (by decide +kernel), h, xtw_IllegalStateException, fun w hw => List.all_eq_true.mp (show (vx_atS "MessageCoder" 93 "java/lang/IllegalStateException" ["java/lang/RuntimeException", "java/lang/Exception"]).all vx_ot = true by decide +kernel) w hw⟩
theorem xtw_NoSuchElementException : ∀ w ∈ vx_at13 "MessageCoder" 111 "java/util/NoSuchElementException", w ∈ x_tbl ∨ (w ∈ x_nst ∧ w.onTables = true) := by
  have e : vx_at13 "MessageCoder" 111 "java/util/NoSuchElementException" = ([15, 384, 393, 400, 403, 405, 385, 386, 44, 45, 387, 392, 401, 421, 374, 422, 376, 423, 378, 388, 390, 380, 417, 418, 420, 380, 464, 465, 466, 411, 366, 411, 412, 413, 414, 368, 414, 415, 416, 417, 370, 463, 454, 455, 456, 399, 457, 458, 459, 460, 383, 382, 461] : List Nat).filterMap (fun i => tables_1[i]?) := by decide +kernel
  have a : (([15, 384, 393, 400, 403, 405, 385, 386, 44, 45, 387, 392, 401, 421, 374, 422, 376, 423, 378, 388, 390, 380, 417, 418, 420, 380, 464, 465, 466, 411, 366, 411, 412, 413, 414, 368, 414, 415, 416, 417, 370, 463, 454, 455, 456, 399, 457, 458, 459, 460, 383, 382, 461] : List Nat).filterMap (fun i => tables_1[i]?)).all (fun w => goodWord w || (xnst w && w.onTables)) = true := by decide +kernel
  intro w hw
  rw [e] at hw
  have h1 := List.all_eq_true.mp a w hw
  obtain ⟨i, -, hi⟩ := List.mem_filterMap.mp hw
  have hm : w ∈ tables_1 := List.mem_of_getElem? hi
  rcases Bool.or_eq_true_iff.mp h1 with g | g
  · exact Or.inl (x_in (x_of hm) g)
  · exact Or.inr ⟨x_inN hm (Bool.and_eq_true_iff.mp g).1, (Bool.and_eq_true_iff.mp g).2⟩
theorem xtw2_NoSuchElementException (text : String) (is : Nat) (h : Cond.stringRef "MessageCoder" is text ∈ x_nst) : xTN "MessageCoder" "java/util/NoSuchElementException" text 107 is 111 := ⟨by decide +kernel, x_in (x_of (xtb_2 (List.mem_of_getElem? (i := 213) (by decide +kernel)))) (by decide +kernel), x_in (x_of (xtb_1 (List.mem_of_getElem? (i := 20) (by decide +kernel)))) (by decide +kernel), h, xtw_NoSuchElementException, fun w hw => List.all_eq_true.mp (show (vx_at13 "MessageCoder" 111 "java/util/NoSuchElementException").all vx_ot = true by decide +kernel) w hw⟩
theorem xtw_IndexOutOfBoundsException : ∀ w ∈ vx_atS "MessageCoder" 130 "java/lang/IndexOutOfBoundsException" ["java/lang/RuntimeException", "java/lang/Exception"], w ∈ x_tbl ∨ (w ∈ x_nst ∧ w.onTables = true) := by
  have e : vx_atS "MessageCoder" 130 "java/lang/IndexOutOfBoundsException" ["java/lang/RuntimeException", "java/lang/Exception"] = ([15, 384, 393, 400, 403, 405, 385, 386, 44, 45, 387, 392, 401, 421, 374, 422, 376, 423, 378, 388, 390, 380, 417, 418, 420, 380, 535, 536, 537, 411, 366, 411, 412, 413, 414, 368, 414, 415, 416, 417, 370, 534, 525, 526, 527, 398, 528, 529, 530, 531, 383, 382, 532] : List Nat).filterMap (fun i => tables_1[i]?) := by decide +kernel
  have a : (([15, 384, 393, 400, 403, 405, 385, 386, 44, 45, 387, 392, 401, 421, 374, 422, 376, 423, 378, 388, 390, 380, 417, 418, 420, 380, 535, 536, 537, 411, 366, 411, 412, 413, 414, 368, 414, 415, 416, 417, 370, 534, 525, 526, 527, 398, 528, 529, 530, 531, 383, 382, 532] : List Nat).filterMap (fun i => tables_1[i]?)).all (fun w => goodWord w || (xnst w && w.onTables)) = true := by decide +kernel
  intro w hw
  rw [e] at hw
  have h1 := List.all_eq_true.mp a w hw
  obtain ⟨i, -, hi⟩ := List.mem_filterMap.mp hw
  have hm : w ∈ tables_1 := List.mem_of_getElem? hi
  rcases Bool.or_eq_true_iff.mp h1 with g | g
  · exact Or.inl (x_in (x_of hm) g)
  · exact Or.inr ⟨x_inN hm (Bool.and_eq_true_iff.mp g).1, (Bool.and_eq_true_iff.mp g).2⟩
theorem xtw2_IndexOutOfBoundsException (text : String) (is : Nat) (h : Cond.stringRef "MessageCoder" is text ∈ x_nst) : xTW "MessageCoder" "java/lang/IndexOutOfBoundsException" text 126 is 130 := ⟨by decide +kernel, x_in (x_of (xtb_3 (List.mem_of_getElem? (i := 44) (by decide +kernel)))) (by decide +kernel), x_in (x_of (xtb_1 (List.mem_of_getElem? (i := 21) (by decide +kernel)))) (by decide +kernel), h, xtw_IndexOutOfBoundsException, fun w hw => List.all_eq_true.mp (show (vx_atS "MessageCoder" 130 "java/lang/IndexOutOfBoundsException" ["java/lang/RuntimeException", "java/lang/Exception"]).all vx_ot = true by decide +kernel) w hw⟩
theorem xtw_ArithmeticException : ∀ w ∈ vx_atS "MessageCoder" 316 "java/lang/ArithmeticException" ["java/lang/RuntimeException", "java/lang/Exception"], w ∈ x_tbl ∨ (w ∈ x_nst ∧ w.onTables = true) := by
  have e : vx_atS "MessageCoder" 316 "java/lang/ArithmeticException" ["java/lang/RuntimeException", "java/lang/Exception"] = ([15, 384, 393, 400, 403, 405, 385, 386, 44, 45, 387, 392, 401, 421, 374, 422, 376, 423, 378, 388, 390, 380, 417, 418, 420, 380, 796, 797, 798, 411, 366, 411, 412, 413, 414, 368, 414, 415, 416, 417, 370, 795, 786, 787, 788, 395, 789, 790, 791, 792, 383, 382, 793] : List Nat).filterMap (fun i => tables_1[i]?) := by decide +kernel
  have a : (([15, 384, 393, 400, 403, 405, 385, 386, 44, 45, 387, 392, 401, 421, 374, 422, 376, 423, 378, 388, 390, 380, 417, 418, 420, 380, 796, 797, 798, 411, 366, 411, 412, 413, 414, 368, 414, 415, 416, 417, 370, 795, 786, 787, 788, 395, 789, 790, 791, 792, 383, 382, 793] : List Nat).filterMap (fun i => tables_1[i]?)).all (fun w => goodWord w || (xnst w && w.onTables)) = true := by decide +kernel
  intro w hw
  rw [e] at hw
  have h1 := List.all_eq_true.mp a w hw
  obtain ⟨i, -, hi⟩ := List.mem_filterMap.mp hw
  have hm : w ∈ tables_1 := List.mem_of_getElem? hi
  rcases Bool.or_eq_true_iff.mp h1 with g | g
  · exact Or.inl (x_in (x_of hm) g)
  · exact Or.inr ⟨x_inN hm (Bool.and_eq_true_iff.mp g).1, (Bool.and_eq_true_iff.mp g).2⟩
theorem xtw2_ArithmeticException (text : String) (is : Nat) (h : Cond.stringRef "MessageCoder" is text ∈ x_nst) : xTW "MessageCoder" "java/lang/ArithmeticException" text 312 is 316 := ⟨by decide +kernel, x_in (x_of (xtb_4 (List.mem_of_getElem? (i := 65) (by decide +kernel)))) (by decide +kernel), x_in (x_of (xtb_1 (List.mem_of_getElem? (i := 37) (by decide +kernel)))) (by decide +kernel), h, xtw_ArithmeticException, fun w hw => List.all_eq_true.mp (show (vx_atS "MessageCoder" 316 "java/lang/ArithmeticException" ["java/lang/RuntimeException", "java/lang/Exception"]).all vx_ot = true by decide +kernel) w hw⟩
theorem xsr_87 : Cond.stringRef "MessageCoder" 87 "no such symbol" ∈ x_nst := x_inN (xtb_2 (List.mem_of_getElem? (i := 166) (by decide +kernel))) (by decide +kernel)
theorem xsr_159 : Cond.stringRef "MessageCoder" 159 "no such rank" ∈ x_nst := x_inN (xtb_2 (List.mem_of_getElem? (i := 222) (by decide +kernel))) (by decide +kernel)
theorem xsr_188 : Cond.stringRef "MessageCoder" 188 "no such index" ∈ x_nst := x_inN (xtb_3 (List.mem_of_getElem? (i := 53) (by decide +kernel))) (by decide +kernel)
theorem xsr_109 : Cond.stringRef "MessageCoder" 109 "no such message" ∈ x_nst := x_inN (xtb_3 (List.mem_of_getElem? (i := 111) (by decide +kernel))) (by decide +kernel)
theorem xsr_269 : Cond.stringRef "MessageCoder" 269 "no frame, or no such index" ∈ x_nst := x_inN (xtb_3 (List.mem_of_getElem? (i := 222) (by decide +kernel))) (by decide +kernel)
theorem xsr_395 : Cond.stringRef "MessageCoder" 395 "no frame, or no such block" ∈ x_nst := x_inN (xtb_4 (List.mem_of_getElem? (i := 3) (by decide +kernel))) (by decide +kernel)
theorem xsr_314 : Cond.stringRef "MessageCoder" 314 "no frame has been received" ∈ x_nst := x_inN (xtb_4 (List.mem_of_getElem? (i := 74) (by decide +kernel))) (by decide +kernel)
theorem xsr_79 : Cond.stringRef "MessageCoder" 79 "no such symbol, or the weight is out of range" ∈ x_nst := x_inN (xtb_5 (List.mem_of_getElem? (i := 104) (by decide +kernel))) (by decide +kernel)
theorem xsr_91 : Cond.stringRef "MessageCoder" 91 "the draft is full" ∈ x_nst := x_inN (xtb_5 (List.mem_of_getElem? (i := 124) (by decide +kernel))) (by decide +kernel)
theorem xsr_100 : Cond.stringRef "MessageCoder" 100 "the priority is out of range" ∈ x_nst := x_inN (xtb_5 (List.mem_of_getElem? (i := 140) (by decide +kernel))) (by decide +kernel)
theorem xsr_102 : Cond.stringRef "MessageCoder" 102 "the draft is empty, or the queue is full" ∈ x_nst := x_inN (xtb_5 (List.mem_of_getElem? (i := 141) (by decide +kernel))) (by decide +kernel)
theorem xsr_121 : Cond.stringRef "MessageCoder" 121 "the queue is empty" ∈ x_nst := x_inN (xtb_5 (List.mem_of_getElem? (i := 181) (by decide +kernel))) (by decide +kernel)
theorem xsr_128 : Cond.stringRef "MessageCoder" 128 "no frame, or no such bit" ∈ x_nst := x_inN (xtb_5 (List.mem_of_getElem? (i := 191) (by decide +kernel))) (by decide +kernel)
theorem xsr_134 : Cond.stringRef "MessageCoder" 134 "no frame" ∈ x_nst := x_inN (xtb_5 (List.mem_of_getElem? (i := 201) (by decide +kernel))) (by decide +kernel)
