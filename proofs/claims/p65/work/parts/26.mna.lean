/-! a row of eight rows of eight ints, made by one instruction -/
def mnO (c z i : Nat) : Cell := arrV c 8 (fun j => if j < i then .ref (z + 1 + j) else .null)
def mnI (c : Nat) : Cell := arrV c 8 (fun _ => .int 0)
theorem mnO_put (c z i : Nat) : (mnO c z i).setSlot i (.ref (z + 1 + i)) = mnO c z (i + 1) := by
  unfold mnO
  rw [arrV_store]
  congr 1
  funext j
  unfold updV
  by_cases h : j = i
  · rw [if_pos h, if_pos (by omega), h]
  · rw [if_neg h]
    show (if j < i then _ else _) = (if j < i + 1 then _ else _)
    by_cases h2 : j < i
    · rw [if_pos h2, if_pos (by omega)]
    · rw [if_neg h2, if_neg (by omega)]
def mnS (c ci : Nat) (T : State) : Nat → State
  | 0 => T.pushCell (mnO c T.heap.size 0)
  | i + 1 => ((mnS c ci T i).pushCell (mnI ci)).setCell T.heap.size (mnO c T.heap.size (i + 1))
theorem mnS_at (c ci : Nat) (T : State) : ∀ i, (mnS c ci T i).heap.size = T.heap.size + 1 + i ∧ (mnS c ci T i).heap[T.heap.size]? = some (mnO c T.heap.size i) ∧ (mnS c ci T i).vm = T.vm ∧ (mnS c ci T i).slotsUsed = T.slotsUsed + 8 + i * 8 ∧
    (∀ q : Nat, q < T.heap.size → (mnS c ci T i).heap[q]? = T.heap[q]?) ∧ ∀ j, j < i → (mnS c ci T i).heap[T.heap.size + 1 + j]? = some (mnI ci)
  | 0 => ⟨by simp [mnS], by simp [mnS], rfl, by simp [mnS, mnO, arrV_size], fun q hq => State.heap_pushCell_of_lt _ _ hq, fun j hj => absurd hj (by omega)⟩
  | i + 1 => by
    obtain ⟨a1, a2, a3, a4, a5, a6⟩ := mnS_at c ci T i
    have hz : T.heap.size < (mnS c ci T i).heap.size := by omega
    have hb : ((mnS c ci T i).pushCell (mnI ci)).heap[T.heap.size]? = some (mnO c T.heap.size i) := by rw [State.heap_pushCell_of_lt (h := hz)]; exact a2
    refine ⟨?_, State.heap_setCell_self hb, by simp [mnS, a3], ?_, fun q hq => ?_, fun j hj => ?_⟩
    · simp [mnS, State.setCell, a1]; omega
    · simp [mnS, a4, mnI, arrV_size, Nat.succ_mul]; omega
    · show (((mnS c ci T i).pushCell (mnI ci)).setCell T.heap.size _).heap[q]? = _
      have hq2 : q < (mnS c ci T i).heap.size := by omega
      rw [State.heap_setCell_other (Nat.ne_of_gt hq), State.heap_pushCell_of_lt (h := hq2)]
      exact a5 q hq
    · show (((mnS c ci T i).pushCell (mnI ci)).setCell T.heap.size _).heap[T.heap.size + 1 + j]? = _
      rw [State.heap_setCell_other (show T.heap.size ≠ T.heap.size + 1 + j by omega)]
      by_cases hji : j < i
      · have hq2 : T.heap.size + 1 + j < (mnS c ci T i).heap.size := by omega
        rw [State.heap_pushCell_of_lt (h := hq2)]
        exact a6 j hji
      · rw [show T.heap.size + 1 + j = (mnS c ci T i).heap.size by omega]
        exact State.heap_pushCell_size _ _
theorem mnS_top (c ci : Nat) (T : State) (f : JFrame) : ∀ i, mnS c ci (T.setTop f) i = (mnS c ci T i).setTop f
  | 0 => rfl
  | i + 1 => by simp only [mnS, mnS_top c ci T f i, State.heap_setTop, State.pushCell_setTop, State.setCell_setTop]
section MN
variable {E : CtlPost} {e : Env} {d : Bool} {acts : List Action} {s : State}
theorem mn_new {c comp : ClassId} {k : Class} {ty : FieldType} {init : Value} (hk : s.vm.classes[c]? = some k) (hkind : k.kind = .array comp ty) (h1 : 8 ≤ e.platform.arrayLengthLimit) (h2 : 8 * componentBytes ty ≤ e.platform.maxHeapBytes) (hf : fits ty init = true) (hd : init.isDefault = true)
    (h3 : s.heap.size < e.platform.maxCells) (h4 : s.slotsUsed + 8 ≤ e.platform.maxSlots) {Q : Addr → Pre} (hq : Q s.heap.size d acts (s.pushCell (arrV c 8 (fun _ => init)))) : wp (Jvm.newArray c 8 init) Q E e d acts s := by
  have hall : ((Array.replicate 8 init).all (·.isDefault)) = true := by
    rw [Array.all_replicate]
    split <;> simp [hd]
  have ha : allocActs (Array.replicate 8 init) s.heap.size acts = acts := by unfold allocActs; rw [if_pos hall]
  have hsl : ∀ i v, (Array.replicate 8 init)[i]? = some v → s.fitsSlot c .none i v = true := fun i v hv => by
    simp only [Array.getElem?_replicate] at hv
    split at hv
    · cases hv
      simp [State.fitsSlot, State.slotType?, hk, hkind, hf]
    · cases hv
  have g1 : ¬ 8 > e.platform.arrayLengthLimit := Nat.not_lt.mpr h1
  have g2 : ¬ 8 * componentBytes ty > e.platform.maxHeapBytes := Nat.not_lt.mpr h2
  rw [← arrV_new] at hq
  simp only [Jvm.newArray, Jvm.arrayFits, wp_bind', W.ask, W.ite, g1, if_false, wp_pure', W.theClass, hk, hkind, g2, W.alloc, W.stop, Option.some.injEq, exists_eq_left', Array.size_replicate, ha]
  rw [if_neg (by omega)]
  exact ⟨h3, h4, hsl, hq⟩
theorem mn_row {ci cc : ClassId} {kc : Class} (hk : s.vm.classes[ci]? = some kc) (hkind : kc.kind = .array cc .int) (h1 : 8 ≤ e.platform.arrayLengthLimit) (h2 : 32 ≤ e.platform.maxHeapBytes)
    (h3 : s.heap.size < e.platform.maxCells) (h4 : s.slotsUsed + 8 ≤ e.platform.maxSlots) {Q : Addr → Pre} (hq : Q s.heap.size d acts (s.pushCell (mnI ci))) : wp (Op.multianewarray.make ci [nI 8]) Q E e d acts s := by
  have hm : ¬ nI 8 < 0 := by decide
  rw [Op.multianewarray.make]
  simp only [wp_bind', W.ite, hm, if_false, wp_pure', W.theClass, hk, hkind, Option.some.injEq, exists_eq_left']
  exact mn_new hk hkind h1 h2 rfl rfl h3 h4 hq
theorem mn_make {c ci cc : ClassId} {k kc : Class} (hk : s.vm.classes[c]? = some k) (hkind : k.kind = .array ci (.array .int)) (hkc : s.vm.classes[ci]? = some kc) (hkindc : kc.kind = .array cc .int) (h1 : 8 ≤ e.platform.arrayLengthLimit) (h2 : 32 ≤ e.platform.maxHeapBytes)
    (h3 : s.heap.size + 9 ≤ e.platform.maxCells) (h4 : s.slotsUsed + 72 ≤ e.platform.maxSlots) {Q : Addr → Pre} (hq : ∀ d' acts', Q s.heap.size d' acts' (mnS c ci s 8)) : wp (Op.multianewarray.make c [nI 8, nI 8]) Q E e d acts s := by
  have hm : ¬ nI 8 < 0 := by decide
  have hf : ([nI 8].find? (· < 0)) = none := by decide
  have hn : (nI 8).toNatClampNeg = 8 := by decide
  rw [Op.multianewarray.make]
  simp only [wp_bind', W.ite, hm, if_false, wp_pure', W.theClass, hk, hkind, Option.some.injEq, exists_eq_left', hn]
  refine mn_new hk hkind h1 h2 rfl rfl (by omega) (by omega) ?_
  simp only [hf]
  rw [ite_self, wp_bind', Std.Legacy.Range.forIn_eq_forIn_range']
  have hsz : ([:8] : Std.Legacy.Range).size = 8 := by simp [Std.Legacy.Range.size]
  rw [hsz]
  show wp (forIn (List.range' 0 8 1) PUnit.unit _) _ E e d acts _
  refine wp_forIn_inv (fun rest u => ∃ i, i ≤ 8 ∧ rest = List.range' i (8 - i) ∧ u = mnS c ci s i) _ _ ⟨0, by omega, rfl, ?_⟩ ?_ ?_
  · show s.pushCell (arrV c 8 (fun _ => .null)) = s.pushCell (mnO c s.heap.size 0)
    congr 1
  · rintro x rest u d' acts' Q' ⟨i, hi, hl, rfl⟩ hnext
    have hlt : i < 8 := by
      rcases Nat.lt_or_ge i 8 with h | h
      · exact h
      · rw [show 8 - i = 0 by omega] at hl
        simp at hl
    rw [show 8 - i = (8 - (i + 1)) + 1 by omega, List.range'_succ] at hl
    obtain ⟨rfl, hrest⟩ := List.cons.inj hl
    obtain ⟨a1, a2, a3, a4, a5, a6⟩ := mnS_at c ci s x
    have hz : s.heap.size < (mnS c ci s x).heap.size := by omega
    simp only [wp_bind']
    refine mn_row (by rw [a3]; exact hkc) hkindc h1 h2 (by omega) (by omega) ?_
    simp only [wp_bind', W.writeLoc, wp_pure']
    refine ⟨mnO c s.heap.size x, by rw [State.heap_pushCell_of_lt (h := hz)]; exact a2, by simp [mnO, arrV], by unfold mnO; rw [arrV_size]; exact hlt, ?_, hnext _ _ _ ⟨x + 1, hlt, hrest, ?_⟩⟩
    · simp [State.fitsSlot, State.slotType?, mnO, arrV, a3, hk, hkind, fits]
    · rw [a1, mnO_put]
      rfl
  · rintro u d' acts' ⟨i, hi, hl, rfl⟩
    have hi8 : i = 8 := by
      rcases Nat.lt_or_ge i 8 with h | h
      · rw [show 8 - i = (8 - (i + 1)) + 1 by omega, List.range'_succ] at hl
        cases hl
      · omega
    subst hi8
    simp only [wp_pure']
    exact hq _ _
end MN
section MN2
variable {p : Program} {l : Launch} {e : Env} {R : Room} {s : State} {m : MethodId} {args : Array Value} {below : List Frame} {meth : Method} {c : Code} {T : State} {locs : List Loc} {cells slots : Nat}
theorem mn_stand (X : Stand p l e R s m args below meth c T locs cells slots) (cA ci : Nat) : ∀ i, ∃ L : List Loc, (∀ q ∈ L, q.base = T.heap.size) ∧ Stand p l e R s m args below meth c (mnS cA ci T i) (locs ++ L) (cells + 1 + i) (slots + 8 + i * 8)
  | 0 => by
    have h := X.pushed (mnO cA T.heap.size 0)
    rw [show (mnO cA T.heap.size 0).slots.size = 8 from arrV_size _ _ _] at h
    exact ⟨[], fun q hq => absurd hq List.not_mem_nil, by simpa [mnS] using h⟩
  | i + 1 => by
    obtain ⟨L, hL, Xi⟩ := mn_stand X cA ci i
    obtain ⟨a1, a2, a3, a4, a5, a6⟩ := mnS_at cA ci T i
    have hz : T.heap.size < (mnS cA ci T i).heap.size := by omega
    have hc : ((mnS cA ci T i).pushCell (mnI ci)).heap[T.heap.size]? = some (mnO cA T.heap.size i) := by rw [State.heap_pushCell_of_lt (h := hz)]; exact a2
    have h := (Xi.pushed (mnI ci)).stored hc i (.ref (T.heap.size + 1 + i))
    rw [show (mnI ci).slots.size = 8 from arrV_size _ _ _, mnO_put] at h
    refine ⟨L ++ [⟨T.heap.size, i⟩], fun q hq => (List.mem_append.mp hq).elim (hL q) (fun h2 => by rw [List.mem_singleton.mp h2]), ?_⟩
    rw [show slots + 8 + (i + 1) * 8 = slots + 8 + i * 8 + 8 by omega, ← List.append_assoc]
    exact h
theorem mn_step (X : Stand p l e R s m args below meth c T locs cells slots) (hexec : p.tables.exec = Jvm.exec) {own : String} {index : Nat} (hown : s.vm.findClass own = some m.cls) (hcl : (Cond.classLink own index "[[I").before args s = true) (hov : (Cond.arrayOver (.array .int)).before args s = true) (har : (Cond.arrayClass .int).before args s = true)
    {g : JFrame} (hg : g.method = m) (hd : decode c.code g.pc = .ok (.multianewarray index 2, 4)) {rest : List Value} (hst : g.stack = .int (nI 8) :: .int (nI 8) :: rest) (hc : cells + 9 ≤ R.cells) (hs : slots + 72 ≤ R.slots) :
    ∃ (vm1 : Vm) (cA ci : ClassId) (L : List Loc), s.WarmedH vm1 ∧ s.vm.findClass "[[I" = some cA ∧ s.vm.findClass "[I" = some ci ∧ (∀ q ∈ L, q.base = T.heap.size) ∧ Stand p l e R s m args below meth c (mnS cA ci (T.setVm vm1) 8) (locs ++ L) (cells + 9) (slots + 72) ∧
      ∀ target, Steps p.tables e below ((mnS cA ci (T.setVm vm1) 8).setTop { g with pc := g.pc + 4, stack := .ref T.heap.size :: rest }) target → Steps p.tables e below (T.setTop g) target := by
  subst hg
  have hpl : e.platform.magicAccessors = ({} : Platform).magicAccessors := by rw [X.admits.platform]
  obtain ⟨ci, cA, kA, hci, -, hkA, hkindA, hnA⟩ := arrayOverA_spec hov
  obtain ⟨ci2, kC, cc, hci2, hkC, hkindC⟩ := Cond.arrayClass_spec har
  obtain rfl : ci2 = ci := Option.some.inj (hci2.symm.trans hci)
  obtain ⟨c0, hf0, hln⟩ := Cond.classLink_spec hown hcl e.platform hpl
  cases hnA.symm.trans hf0
  obtain ⟨hg1, hw1, -⟩ := State.classEntry (e := e) X.warmed hln
  generalize T.vm.noted g.method.cls index (.cls cA) = vm1 at hg1 hw1
  obtain ⟨kA1, hkA1, eA⟩ := hw1.alike.2.2 _ _ hkA
  obtain ⟨kC1, hkC1, eC⟩ := hw1.alike.2.2 _ _ hkC
  have kiA : kA1.kind = .array ci2 (.array .int) := by rw [eA]; exact hkindA
  have kiC : kC1.kind = .array cc .int := by rw [eC]; exact hkindC
  obtain ⟨hr1, hr2⟩ := X.roomAbove hc hs
  obtain ⟨L, hL, XF⟩ := mn_stand (X.noted hw1) cA ci2 8
  refine ⟨vm1, cA, ci2, L, hw1, hnA, hci2, hL, XF, fun target hrest => ?_⟩
  have h1 : 8 ≤ e.platform.arrayLengthLimit := by rw [Launch.admits_arrayLengthLimit X.admits]; decide
  have h2 : 32 ≤ e.platform.maxHeapBytes := by rw [Launch.admits_maxHeapBytes X.admits]; decide
  jvm_step X.here [hexec, hd]
  simp only [Op.multianewarray.sem, wp_bind', W.resolveClassAt_links (State.method?_setTop g X.here.top) hg1]
  rw [W.popN, if_neg (by decide)]
  refine ⟨g, State.topJava?_setTop' (s := T.setVm vm1) g X.here.top, [.int (nI 8), .int (nI 8)], rest, rfl, hst, ?_⟩
  simp only [List.mapM_cons, List.mapM_nil, wp_bind', wp_pure']
  refine mn_make (k := kA1) (kc := kC1) (ci := ci2) (cc := cc) hkA1 kiA hkC1 kiC h1 h2 (by show T.heap.size + 9 ≤ _; omega) (by show T.slotsUsed + 72 ≤ _; omega) (fun d' acts' => ?_)
  have eS : ((T.setTop g).setVm vm1).setTop { g with stack := rest } = (T.setVm vm1).setTop { g with stack := rest } := by
    show ((T.setVm vm1).setTop g).setTop _ = _
    rw [State.setTop_setTop]
  rw [eS, mnS_top]
  simp only [wp_bind', W.mark, W.pushRef, State.topJava?_setTop' _ XF.here.top, Option.some.injEq, exists_eq_left', State.setTop_setTop, State.heap_setTop]
  intro acts
  simp [jvm, XF.here.top]
  exact hrest
end MN2
section MN3
variable {P : xP} {Θ : xT} {cc : ByteArray} {own : String} {nL d mc ms pc : Nat} {L : List (Option Value)} {st : List Value} {F : xF} {z k n : Nat}
def mnF (F : xF) (z : Nat) : xF := fun a => if a = z then some (.inr (7, 8, fun j => if j < 8 then .ref (z + 1 + j) else .null)) else if z < a ∧ a ≤ z + 8 then some (.inr (0, 8, fun _ => .int (nI 0))) else F a
theorem x_mna (hC : xC P Θ cc own nL d mc ms) {index : Nat} (hcl : Cond.classLink own index "[[I" ∈ x_tbl) (hov : Cond.arrayOver (.array .int) ∈ x_nst) (har : Cond.arrayClass .int ∈ x_tbl) (hm : k + 9 ≤ mc ∧ n + 72 ≤ ms) (hd : decode cc pc = .ok (.multianewarray index 2, 4)) (kk : xX P Θ (pc + 4) L (.ref z :: st) (mnF F z) (z + 9) (k + 9) (n + 72)) : xX P Θ pc L (.int (nI 8) :: .int (nI 8) :: st) F z k n := by
  intro H locs ls hW hl hx
  have t7 := (hC.2.2.2.2.2.1.2.1 7 (by omega)).2
  have t0 := (hC.2.2.2.2.2.1.2.1 0 (by omega)).2
  have e7 : Θ.2.2.2.1.vm.findClass "[[I" = some (P.2.1.2.2 7) := t7
  have e0 : Θ.2.2.2.1.vm.findClass "[I" = some (P.2.1.2.2 0) := t0
  intro T hT X
  obtain ⟨vm1, cA, ci, L1, hw, f7, f0, hL1, X1, stp⟩ := mn_step X hC.1 hC.2.2.2.1 (hC.2.2.2.2.1 _ hcl) (over_moved (Vm.Alike.refl _) (hC.2.2.2.2.2.1.2.2.1 _ hov)) (hC.2.2.2.2.1 _ har) (g := F0 Θ.2.2.2.2.1 pc ls (.int (nI 8) :: .int (nI 8) :: st)) rfl (by rw [hC.2.1]; exact hd) rfl (by rw [hC.2.2.2.2.2.2.1]; exact hm.1) (by rw [hC.2.2.2.2.2.2.1]; exact hm.2)
  rw [e7] at f7
  rw [e0] at f0
  cases f7
  cases f0
  obtain ⟨a1, a2, a3, a4, a5, a6⟩ := mnS_at (P.2.1.2.2 7) (P.2.1.2.2 0) (T.setVm vm1) 8
  have hz : (T.setVm vm1).heap.size = z := by rw [← hW.1, ← hT]; rfl
  have hold : ∀ q : Nat, q < z → (mnS (P.2.1.2.2 7) (P.2.1.2.2 0) (T.setVm vm1) 8).heap[q]? = H[q]? := fun q hq => by
    rw [a5 q (by omega), ← hT]
    rfl
  have hz2 : T.heap.size = z := hz
  rw [hz] at a1 a2 a6
  rw [hz2] at stp hL1
  obtain ⟨t, b1, b2⟩ := kk (mnS (P.2.1.2.2 7) (P.2.1.2.2 0) (T.setVm vm1) 8).heap (locs ++ L1) ls ⟨a1, hW.2.1, by have := hW.2.2.1; omega, fun q hq => by
      rw [hold q (by have := hW.2.2.1; omega)]
      exact hW.2.2.2.1 q hq, fun a e1 he => by
      unfold mnF at he
      by_cases c1 : a = z
      · rw [if_pos c1] at he
        cases he
        rw [c1]
        exact ⟨hW.2.2.1, a2⟩
      · rw [if_neg c1] at he
        by_cases c2 : z < a ∧ a ≤ z + 8
        · rw [if_pos c2] at he
          cases he
          refine ⟨by have := hW.2.2.1; omega, ?_⟩
          have h6 := a6 (a - (z + 1)) (by omega)
          rw [show z + 1 + (a - (z + 1)) = a by omega] at h6
          exact h6
        · rw [if_neg c2] at he
          obtain ⟨q1, q2⟩ := hW.2.2.2.2 a e1 he
          have hlt := xat_lt q2
          rw [hW.1] at hlt
          exact ⟨q1, xat_kept q2 (hold a hlt)⟩⟩ (fun q hq => (List.mem_append.mp hq).elim (hl q) (fun h => by rw [hL1 q h]; exact hW.2.2.1)) hx (mnS (P.2.1.2.2 7) (P.2.1.2.2 0) (T.setVm vm1) 8) rfl X1
  refine ⟨t, stp t ?_, b2⟩
  exact b1
end MN3
