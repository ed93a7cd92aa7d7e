/-! rows for texts: inherited and private methods of a superclass, byte copies, clones, constants -/
theorem xt_selP {s : State} {args : Array Value} {C : String} {y x0 y0 : MethodName} {m9 : Nat} (hy : y.cls ≠ "java/lang/invoke/MethodHandle" ∧ y.cls ≠ "java/lang/invoke/VarHandle")
    (hins : (Cond.instantiable C m9).before args s = true) (hpriv : (Cond.privateMethod y).before args s = true) (hinst : (Cond.instanceMethod y).before args s = true) (hsel : (Cond.selects C x0 y0).before args s = true) (hcls : y0.cls = y.cls) :
    (Cond.selects C y y).before args s = true := by
  obtain ⟨c, k, hc, hk, -, hniab, -, -⟩ := Cond.instantiable_spec hins
  obtain ⟨mk, methM, hnamed, hmethM, -, -⟩ := Cond.instanceMethod_spec hinst
  have hfound : s.methodFound? y.cls y.name y.desc = some mk := State.methodFound?_of_named hnamed hy
  have hsl : selectMethod {} s.vm c mk = .method mk := selectMethod_private hmethM (Cond.privateMethod_at hpriv mk methM hnamed hmethM)
  obtain ⟨c2, r2, m2, -, -, q3, -, kP, hkP, hkPi⟩ := Cond.selects_spec hsel
  have e2 := findClass_of_methodNamed q3
  have e1 := findClass_of_methodNamed hnamed
  rw [hcls] at e2
  have e3 : mk.cls = m2.cls := Option.some.inj (e1.symm.trans e2)
  simp only [Cond.before, Cond.holds, Cond.value, hc, hfound, hnamed, hsl, e3, hkP]
  simp; exact hkPi
def xLU (own : String) (index : Nat) (C : String) (X : MethodName) (Y : xY) (nP : Nat) : Prop := xLY Y nP ∧ Cond.methodLink own index X ∈ x_tbl ∧ Cond.sameMethod X.cls X.cls X.name X.desc ∈ x_tbl ∧ Cond.instanceMethod X ∈ x_tbl ∧ Cond.instanceMethod Y.1 ∈ x_tbl ∧ (∃ (b0 : ByteArray) (m0 : Nat) (r0 : Option FieldType), Cond.code X b0 m0 r0 ∈ x_tbl) ∧ (X.cls ≠ "java/lang/invoke/MethodHandle" ∧ X.cls ≠ "java/lang/invoke/VarHandle" ∧ (parseMethodDescriptor X.desc).map (fun d => d.parameters.length) = some nP) ∧ Cond.selects C X Y.1 ∈ x_tbl
def xLQ (own : String) (index : Nat) (Y : xY) (nP : Nat) : Prop := xLY Y nP ∧ Cond.methodLink own index Y.1 ∈ x_tbl ∧ Cond.sameMethod Y.1.cls Y.1.cls Y.1.name Y.1.desc ∈ x_tbl ∧ Cond.superclass own Y.1.cls ∈ x_tbl ∧ Cond.instanceMethod Y.1 ∈ x_tbl ∧ Y.1.name ≠ "<init>"
theorem xt_fitb {a : Nat} (h : a < 128) : fits .byte (.int (nI a)) = true := by
  have h9 : ∀ a, a < 128 → fits .byte (.int (nI a)) = true := by decide +kernel
  exact h9 a h
theorem xt_narb {a : Nat} (h : a < 128) : narrow .byte (.int (nI a)) = .int (nI a) := by
  have h9 : ∀ a, a < 128 → narrow .byte (.int (nI a)) = .int (nI a) := by decide +kernel
  exact h9 a h
theorem xt_i2b {a : Nat} (h : a < 128) : (nI a).toInt8.toInt32 = nI a := by
  have h9 : ∀ a, a < 128 → (nI a).toInt8.toInt32 = nI a := by decide +kernel
  exact h9 a h
section XS0
variable {P : xP} {Θ : xT} {cc : ByteArray} {own : String} {nL d mc ms pc : Nat} {L : List (Option Value)} {st : List Value} {F : xF} {z k n : Nat}
theorem x_i2b (hC : xC P Θ cc own nL d mc ms) {x v : Int32} (hd : decode cc pc = .ok (.i2b, 1)) (hv : x.toInt8.toInt32 = v) (kk : xX P Θ (pc + 1) L (.int v :: st) F z k n) : xX P Θ pc L (.int x :: st) F z k n := fun H locs ls hW hl hx => lv_i2b hC.1 hC.2.1 hd hv (kk H locs ls hW hl hx)
theorem x_dup_x1 (hC : xC P Θ cc own nL d mc ms) {va vb : Value} (hd : decode cc pc = .ok (.dup_x1, 1)) (hva : va.category = 1) (hvb : vb.category = 1) (kk : xX P Θ (pc + 1) L (va :: vb :: va :: st) F z k n) : xX P Θ pc L (va :: vb :: st) F z k n := fun H locs ls hW hl hx => lv_dup_x1 hC.1 hC.2.1 hd hva hvb (kk H locs ls hW hl hx)
theorem x_widen {k1 n1 : Nat} (h1 : k ≤ k1) (h2 : n ≤ n1) (kk : xX P Θ pc L st F z k1 n1) : xX P Θ pc L st F z k n := fun H locs ls hW hl hx => W.widen h1 h2 (kk H locs ls hW hl hx)
theorem x_lowz (kk : P.2.2.2.1 ≤ z → xX P Θ pc L st F z k n) : xX P Θ pc L st F z k n := fun H locs ls hW hl hx => kk hW.2.2.1 H locs ls hW hl hx
theorem x_lta {a : Nat} {e : xE} (ha : F a = some e) (kk : a < z → xX P Θ pc L st F z k n) : xX P Θ pc L st F z k n := fun H locs ls hW hl hx => kk (xW_lt hW ha) H locs ls hW hl hx
theorem x_ldcS (hC : xC P Θ cc own nL d mc ms) {tx : String} {index q : Nat} (hZ : vk_R own index tx q Θ.2.2.2.1) (hd : decode cc pc = .ok (.ldc index, 2)) (kk : xX P Θ (pc + 2) L (.ref q :: st) F z k n) : xX P Θ pc L st F z k n := fun H locs ls hW hl hx => va_ldcS hC.1 hC.2.1 hC.2.2.2.1 hZ hd (kk H locs ls hW hl hx)
theorem x_callU (hC : xC P Θ cc own nL d mc ms) {index nP b ci nC mc1 ms1 : Nat} {X : MethodName} {Y : xY} {C : String} {T : u_T} {As rest : List Value} {fs : List Value} {post : Option Value → xF → Nat → Prop} (hk : xLU own index C X Y nP) (hM : xM P Y (.ref b :: As) F z mc1 ms1 post) (hb : F b = some (.inl (ci, fs))) (hc : xcl[ci]? = some (C, T, nC)) (hdp : Y.2.2.2.2 + 1 ≤ d) (hn : As.length = nP) (hst : st = As.reverse ++ .ref b :: rest) (hL : L.length = nL) (hrm : (rest.map fun v => v.category).sum ≤ 8) (hm : k + mc1 ≤ mc ∧ n + ms1 ≤ ms) (hd : decode cc pc = .ok (.invokevirtual index, 3)) (kk : ∀ (r : Option Value) (F1 : xF) (z1 : Nat), post r F1 z1 → xX P Θ (pc + 3) L (r.toList ++ rest) F1 z1 (k + mc1) (n + ms1)) : xX P Θ pc L st F z k n := by
  subst hst
  obtain ⟨hY, h1, h2, h3, h4, ⟨b0, m0, r0, h5⟩, h6, h7⟩ := hk
  intro H locs ls hW hl hx
  have ht := hC.2.2.2.2.1
  have hR := hC.2.2.2.2.2.2.1
  obtain ⟨r, g1, cell, q1, q2, q3, q4⟩ := x_one (hW.2.2.2.2 b _ hb).2 0 _ rfl
  have hr : r = (C, T, nC) := Option.some.inj (g1.symm.trans hc)
  subst hr
  obtain ⟨hS, hfc, kC, hkC, hkind⟩ := hC.2.2.2.2.2.1.1 ci _ hc
  have hsel := ht _ h7
  have hlen : ∀ sig, parseMethodDescriptor X.desc = some sig → nP = sig.parameters.length := fun sig hs => by
    have h9 := h6.2.2
    rw [hs] at h9
    exact (Option.some.inj h9).symm
  refine x_after (va_runU (C := C) (owner := X.cls) (x := X) (y := Y.1) (As := As) (rest := rest) (n := nP) (bytes := Y.2.1) (maxL := Y.2.2.1) (ret := Y.2.2.2.1) ⟨hC.1, hC.2.1, hC.2.2.1, hC.2.2.2.1, ht⟩ hM ⟨⟨rfl, rfl, ?_, ?_, x_paid ht (x_code hY), List.mem_cons_self⟩, ht _ hY.1, ht _ hY.2.1, ⟨h6.1, h6.2.1⟩, hlen, ht _ h1, ht _ h2, va_Decl.of (ht _ h3) (ht _ h5), hsel, ht _ h4⟩ ⟨x_blind, ⟨cell, q1, by rw [q3]; rfl, by rw [q2]; exact hfc⟩, fun U hU hWm => ⟨rfl, by rw [hU]; exact hW, xK_moved hWm hC.2.2.2.2.2.1⟩⟩ rfl hn (by rw [← hL]; exact hx.1) rfl (lv_room hrm) hd (by rw [hR]; exact hm)) hl hx (fun q h => h) kk
  · rw [hR]; exact hdp
  · rw [hR]
    have := hY.2.2.2
    show 8 + (Y.2.2.1 + 11) + 60 * Y.2.2.2.2 ≤ 60 * d
    omega
theorem x_callQ (hC : xC P Θ cc own nL d mc ms) {index nP b ci nC mc1 ms1 : Nat} {Y : xY} {C : String} {T : u_T} {As rest : List Value} {fs : List Value} {post : Option Value → xF → Nat → Prop} (hk : xLQ own index Y nP) (hM : xM P Y (.ref b :: As) F z mc1 ms1 post) (hb : F b = some (.inl (ci, fs))) (hc : xcl[ci]? = some (C, T, nC)) (hdp : Y.2.2.2.2 + 1 ≤ d) (hn : As.length = nP) (hst : st = As.reverse ++ .ref b :: rest) (hL : L.length = nL) (hrm : (rest.map fun v => v.category).sum ≤ 8) (hm : k + mc1 ≤ mc ∧ n + ms1 ≤ ms) (hd : decode cc pc = .ok (.invokespecial index, 3)) (kk : ∀ (r : Option Value) (F1 : xF) (z1 : Nat), post r F1 z1 → xX P Θ (pc + 3) L (r.toList ++ rest) F1 z1 (k + mc1) (n + ms1)) : xX P Θ pc L st F z k n := by
  subst hst
  obtain ⟨hY, h1, h2, h3, h4, h5⟩ := hk
  intro H locs ls hW hl hx
  have ht := hC.2.2.2.2.1
  have hR := hC.2.2.2.2.2.2.1
  obtain ⟨r, g1, cell, q1, q2, q3, q4⟩ := x_one (hW.2.2.2.2 b _ hb).2 0 _ rfl
  have hr : r = (C, T, nC) := Option.some.inj (g1.symm.trans hc)
  subst hr
  obtain ⟨hS, hfc, kC, hkC, hkind⟩ := hC.2.2.2.2.2.1.1 ci _ hc
  refine x_after (va_runSU (C := C) (cC := P.2.1.1 ci) ⟨hfc, kC, hkC, hkind⟩ (As := As) (rest := rest) (n := nP) (bytes := Y.2.1) (maxL := Y.2.2.1) (ret := Y.2.2.2.1) ⟨hC.1, hC.2.1, hC.2.2.1, hC.2.2.2.1, ht⟩ hM ⟨⟨rfl, rfl, ?_, ?_, x_paid ht (x_code hY), List.mem_cons_self⟩, ht _ h1, ht _ h2, ht _ h3, ht _ h4, ht _ hY.2.1, ht _ hY.1, h5, x_len hY⟩ ⟨x_blind, ⟨cell, q1, by rw [q3]; rfl, by rw [q2]; exact hfc⟩, fun U hU hWm => ⟨rfl, by rw [hU]; exact hW, xK_moved hWm hC.2.2.2.2.2.1⟩⟩ rfl hn (by rw [← hL]; exact hx.1) rfl (lv_room hrm) hd (by rw [hR]; exact hm)) hl hx (fun q h => h) kk
  · rw [hR]; exact hdp
  · rw [hR]
    have := hY.2.2.2
    show 8 + (Y.2.2.1 + 11) + 60 * Y.2.2.2.2 ≤ 60 * d
    omega
/-- what the tables say of arraycopy, of clone, of a cast to byte[] -/
def xLA (own : String) (index : Nat) : Prop := Cond.methodLink own index arraycopyName ∈ x_tbl ∧ Cond.native arraycopyName ∈ x_tbl ∧ Cond.static arraycopyName ∈ x_tbl ∧ Cond.initialized "java/lang/System" ∈ x_tbl
theorem xt_pos {a : Nat} (h : a < 2 ^ 31) : ¬ nI a < 0 := nI_pos h
theorem xt_int {a : Nat} (h : a < 2 ^ 31) : (nI a).toInt = (a : Int) := nI_toInt h
theorem x_copyK (hC : xC P Θ cc own nL d mc ms) {index a0 a1 N1 sp dp m : Nat} {g0 g1 : Nat → Nat} (hk : xLA own index)
    (hs : ∀ H, xW P F z H → ∃ cs : Cell, H[a0]? = some cs ∧ Θ.2.2.2.1.isArrayOf cs .byte ∧ cs.vm ≠ .unknown ∧ sp + m ≤ cs.slots.size ∧ ∀ i, i < m → cs.slots[sp + i]? = some (.int (nI (g0 (sp + i)))))
    (hb : F a1 = some (.inr (2, N1, fun b9 => .int (nI (g1 b9))))) (h5 : dp + m ≤ N1) (s1 : sp < 2 ^ 31) (s2 : dp < 2 ^ 31) (s3 : m < 2 ^ 31) (hfit : ∀ i, i < m → g0 (sp + i) < 128) (hL : L.length = nL) (hdp : 12 ≤ d) (hrm : (st.map fun v => v.category).sum ≤ 8)
    (hd : decode cc pc = .ok (.invokestatic index, 3)) (kk : xX P Θ (pc + 3) L st (xup F a1 (.inr (2, N1, fun b9 => .int (nI (va_cpy g0 g1 sp dp m b9))))) z k n) : xX P Θ pc L (.int (nI m) :: .int (nI dp) :: .ref a1 :: .int (nI sp) :: .ref a0 :: st) F z k n := by
  intro H locs ls hW hl hx
  have ht := hC.2.2.2.2.1
  have hR := hC.2.2.2.2.2.2.1
  obtain ⟨hlow, hat⟩ := hW.2.2.2.2 a1 _ hb
  obtain ⟨cs, c1, ⟨c2, ks, hks, comp, hkk⟩, c3, c4, c5⟩ := hs H hW
  obtain ⟨d2, kd, hkd, comd, hkd2⟩ := (hC.2.2.2.2.2.1.2.1 2 (by decide)).1 N1 (fun b9 => .int (nI (g1 b9)))
  have e1 : cs.stretch sp m = (List.range m).map (fun i => Value.int (nI (g0 (sp + i)))) := by
    unfold Cell.stretch
    apply List.map_congr_left
    intro i hi
    have hi' := List.mem_range.mp hi
    rw [Array.getD_eq_getD_getElem?, c5 i hi']
    rfl
  have e2 : (arrV (P.2.1.2.2 2) N1 (fun b9 => .int (nI (g1 b9)))).storeRun dp (cs.stretch sp m) = arrV (P.2.1.2.2 2) N1 (fun b9 => .int (nI (va_cpy g0 g1 sp dp m b9))) := by
    rw [e1, Cell.storeRun, va_pairs]
    congr 1
    funext q
    simp only [va_cpy, List.length_map, List.length_range, Nat.add_zero]
    by_cases h : dp ≤ q ∧ q < dp + m
    · rw [if_pos h, if_pos h, List.getD_eq_getElem?_getD, List.getElem?_map, List.getElem?_range (by omega)]
      rfl
    · rw [if_neg h, if_neg h]
  have cl1 : (nI sp).toNatClampNeg = sp := nI_clamp s1
  have cl2 : (nI dp).toNatClampNeg = dp := nI_clamp s2
  have cl3 : (nI m).toNatClampNeg = m := nI_clamp s3
  intro T hT X
  obtain ⟨vm', X', step⟩ := X.arraycopy hC.1 hC.2.2.2.1 (ht _ hk.1) (ht _ hk.2.1) (ht _ hk.2.2.1) (ht _ hk.2.2.2) (src := a0) (dst := a1) (cs := cs) (cd := arrV (P.2.1.2.2 2) N1 (fun b9 => .int (nI (g1 b9)))) (srcPos := nI sp) (destPos := nI dp) (n := nI m) (by rw [hT]; exact c1) (by rw [hT]; exact hat)
    c2 d2 c3 (fun h => by cases h) hks hkd hkk hkd2 (by decide) (xt_pos s1) (xt_pos s2) (xt_pos s3)
    (by rw [xt_int s1, xt_int s3]; omega)
    (by rw [xt_int s2, xt_int s3, arrV_size]; omega)
    (fun vm1 _ i hi => by
      rw [cl3] at hi
      rw [cl1, Array.getD_eq_getD_getElem?, c5 i hi]
      refine ⟨?_, trivial⟩
      exact xt_fitb (hfit i hi))
    (g := F0 Θ.2.2.2.2.1 pc ls (.int (nI m) :: .int (nI dp) :: .ref a1 :: .int (nI sp) :: .ref a0 :: st)) rfl (by rw [hC.2.2.1, ← hL]; exact hx.1) (rest := st) rfl (by rw [hC.2.1]; exact hd) (by rw [hR]; show 1 ≤ d; omega) (by rw [hR]; show 2 * 0 + _ + (nativeFrameWords "java/lang/System" "arraycopy" 5 + 11) ≤ 60 * d; have h99 : nativeFrameWords "java/lang/System" "arraycopy" 5 ≤ 100 := (by decide); omega)
  have e3 : copied cs (arrV (P.2.1.2.2 2) N1 (fun b9 => .int (nI (g1 b9)))) (nI sp) (nI dp) (nI m) = arrV (P.2.1.2.2 2) N1 (fun b9 => .int (nI (va_cpy g0 g1 sp dp m b9))) := by
    unfold copied
    rw [cl1, cl2, cl3]
    exact e2
  rw [e3] at X' step
  have hla : a1 < H.size := (Array.getElem?_eq_some_iff.mp hat).1
  have hheap : ((T.setVm vm').setCell a1 (arrV (P.2.1.2.2 2) N1 (fun b9 => .int (nI (va_cpy g0 g1 sp dp m b9))))).heap = H.setIfInBounds a1 (arrV (P.2.1.2.2 2) N1 (fun b9 => .int (nI (va_cpy g0 g1 sp dp m b9)))) := by rw [← hT]; rfl
  obtain ⟨t, a2, b2⟩ := kk _ _ ls (xW_up (H1 := H.setIfInBounds a1 (arrV (P.2.1.2.2 2) N1 (fun b9 => .int (nI (va_cpy g0 g1 sp dp m b9))))) hW hb (by simp) (fun q hq => by simp [Array.getElem?_setIfInBounds, Ne.symm hq]) (show (H.setIfInBounds a1 _)[a1]? = some _ by simp [Array.getElem?_setIfInBounds, hla])) (fun q hq => by
    rcases List.mem_append.mp hq with h | h
    · exact hl q h
    · obtain ⟨w, -, hw⟩ := List.mem_map.mp h
      rw [← hw]
      exact hlow) hx _ hheap X'
  exact ⟨t, step t a2, b2⟩
/-- from a row of bytes made in the run -/
theorem x_copyN (hC : xC P Θ cc own nL d mc ms) {index a0 a1 N0 N1 sp dp m : Nat} {g0 g1 : Nat → Nat} (hk : xLA own index) (ha : F a0 = some (.inr (2, N0, fun b9 => .int (nI (g0 b9)))))
    (hb : F a1 = some (.inr (2, N1, fun b9 => .int (nI (g1 b9))))) (h4 : sp + m ≤ N0) (h5 : dp + m ≤ N1) (s1 : sp < 2 ^ 31) (s2 : dp < 2 ^ 31) (s3 : m < 2 ^ 31) (hfit : ∀ i, i < m → g0 (sp + i) < 128) (hL : L.length = nL) (hdp : 12 ≤ d) (hrm : (st.map fun v => v.category).sum ≤ 8)
    (hd : decode cc pc = .ok (.invokestatic index, 3)) (kk : xX P Θ (pc + 3) L st (xup F a1 (.inr (2, N1, fun b9 => .int (nI (va_cpy g0 g1 sp dp m b9))))) z k n) : xX P Θ pc L (.int (nI m) :: .int (nI dp) :: .ref a1 :: .int (nI sp) :: .ref a0 :: st) F z k n :=
  x_copyK hC hk (fun H hW => ⟨_, (hW.2.2.2.2 a0 _ ha).2, (hC.2.2.2.2.2.1.2.1 2 (by decide)).1 N0 (fun b9 => .int (nI (g0 b9))), (fun h => by cases h), by rw [arrV_size]; exact h4, fun i hi => arrV_read _ _ (by show sp + i < N0; omega)⟩) hb h5 s1 s2 s3 hfit hL hdp hrm hd kk
/-- from a row of bytes that stands from the start -/
theorem x_copyO (hC : xC P Θ cc own nL d mc ms) {index a0 a1 N0 N1 sp dp m : Nat} {g0 g1 : Nat → Nat} (hk : xLA own index) (ht0 : ∀ U, P.2.2.2.2 U → va_T .byte a0 N0 (fun j => .int (nI (g0 j))) (xA0 P) U P.2.2.1)
    (hb : F a1 = some (.inr (2, N1, fun b9 => .int (nI (g1 b9))))) (h4 : sp + m ≤ N0) (h5 : dp + m ≤ N1) (s1 : sp < 2 ^ 31) (s2 : dp < 2 ^ 31) (s3 : m < 2 ^ 31) (hfit : ∀ i, i < m → g0 (sp + i) < 128) (hL : L.length = nL) (hdp : 12 ≤ d) (hrm : (st.map fun v => v.category).sum ≤ 8)
    (hd : decode cc pc = .ok (.invokestatic index, 3)) (kk : xX P Θ (pc + 3) L st (xup F a1 (.inr (2, N1, fun b9 => .int (nI (va_cpy g0 g1 sp dp m b9))))) z k n) : xX P Θ pc L (.int (nI m) :: .int (nI dp) :: .ref a1 :: .int (nI sp) :: .ref a0 :: st) F z k n := by
  obtain ⟨U0, hal, hks⟩ := hC.2.2.2.2.2.1.2.2.2
  obtain ⟨cell, q1, q2, q3, q4, q5, q6, q7⟩ := va_T.moved hal (ht0 U0 hks)
  exact x_copyK hC hk (fun H hW => ⟨cell, by rw [x_old hW q7]; exact q1, q2, q3, by omega, fun i hi => q6 _ (by omega)⟩) hb h5 s1 s2 s3 hfit hL hdp hrm hd kk
def xLB (own : String) (index : Nat) : Prop := Cond.methodLink own index ⟨"[B", "clone", "()Ljava/lang/Object;"⟩ ∈ x_tbl ∧ Cond.sameMethod "[B" "java/lang/Object" "clone" "()Ljava/lang/Object;" ∈ x_tbl ∧ Cond.native ⟨"java/lang/Object", "clone", "()Ljava/lang/Object;"⟩ ∈ x_tbl ∧ Cond.instanceMethod ⟨"java/lang/Object", "clone", "()Ljava/lang/Object;"⟩ ∈ x_tbl ∧ Cond.selects "[B" ⟨"[B", "clone", "()Ljava/lang/Object;"⟩ ⟨"java/lang/Object", "clone", "()Ljava/lang/Object;"⟩ ∈ x_tbl ∧ Cond.castable "[B" "java/lang/Cloneable" ∈ x_nst
theorem x_cloneB (hC : xC P Θ cc own nL d mc ms) {index a0 N0 : Nat} {g0 : Nat → Nat} (hk : xLB own index) (ha : F a0 = some (.inr (2, N0, fun b9 => .int (nI (g0 b9))))) (hfit : ∀ i, i < N0 → g0 i < 128) (hL : L.length = nL) (hdp : 12 ≤ d) (hrm : (st.map fun v => v.category).sum ≤ 8) (hm : k + 1 ≤ mc ∧ n + N0 ≤ ms)
    (hd : decode cc pc = .ok (.invokevirtual index, 3)) (kk : xX P Θ (pc + 3) L (.ref z :: st) (xup F z (.inr (2, N0, fun b9 => .int (nI (g0 b9))))) (z + 1) (k + 1) (n + N0)) : xX P Θ pc L (.ref a0 :: st) F z k n := by
  intro H locs ls hW hl hx
  have ht := hC.2.2.2.2.1
  have hR := hC.2.2.2.2.2.2.1
  obtain ⟨hlow, hat⟩ := hW.2.2.2.2 a0 _ ha
  have hra : Θ.2.2.2.1.vm.findClass "[B" = some (P.2.1.2.2 2) := (hC.2.2.2.2.2.1.2.1 2 (by decide)).2
  obtain ⟨c0, t0', f1, f2, f3⟩ := Cond.castable_spec (va_Nw.use (A := Θ.2.2.2.2.2.1) rfl (hC.2.2.2.2.2.1.2.2.1 _ hk.2.2.2.2.2))
  cases hra.symm.trans f1
  obtain ⟨-, kS, hkS, compS, hkindS⟩ := (hC.2.2.2.2.2.1.2.1 2 (by decide)).1 0 (fun _ => .null)
  intro T hT X
  have hcellT : T.heap[a0]? = some (arrV (P.2.1.2.2 2) N0 (fun b9 => .int (nI (g0 b9)))) := by rw [hT]; exact hat
  obtain ⟨-, kA, hkA, comp, hkind⟩ := State.isArrayOf_alike X.warmed.alike ((hC.2.2.2.2.2.1.2.1 2 (by decide)).1 0 (fun _ => .null))
  obtain ⟨vm', X', step⟩ := X.cloneArray hC.1 hC.2.2.2.1 (ht _ hk.1) (ht _ hk.2.1) (ht _ hk.2.2.1) (ht _ hk.2.2.2.1) (ht _ hk.2.2.2.2.1) (a := a0) (cell := arrV (P.2.1.2.2 2) N0 (fun b9 => .int (nI (g0 b9)))) hcellT (fun k9 h => by cases h) (fun h => by cases h) hra f2 f3
    (fun i v hv => by
      have hk' : T.vm.classes[P.2.1.2.2 2]? = some kA := hkA
      have h9 : fits .byte v = true := va_fit (fun i hi => xt_fitb (hfit i hi)) i v hv
      have hcl : (arrV (P.2.1.2.2 2) N0 (fun b9 => Value.int (nI (g0 b9)))).cls = P.2.1.2.2 2 := rfl
      rw [hcl]
      have h8 : fits (xty 2) v = true := h9
      simpa [State.fitsSlot, State.slotType?, hk', hkind] using h8)
    (g := F0 Θ.2.2.2.2.1 pc ls (.ref a0 :: st)) rfl (by rw [hC.2.2.1, ← hL]; exact hx.1) rfl (by rw [hC.2.1]; exact hd) (by rw [hR]; show 1 ≤ d; omega) (by rw [hR]; show 2 * 0 + _ + 14 ≤ 60 * d; omega) (by rw [hR]; exact hm.1) (by rw [hR, arrV_size]; exact hm.2) (hloader := Vm.clonesLoader_of_array hkS hkindS)
  rw [arrV_size] at X'
  have hz : T.heap.size = z := by rw [hT]; exact hW.1
  obtain ⟨t, a2, b2⟩ := kk _ locs ls (xW_new (H1 := H.push (arrV (P.2.1.2.2 2) N0 (fun b9 => .int (nI (g0 b9))))) hW (by simp [hW.1]) (fun q hq => by rw [Array.getElem?_push, if_neg (by rw [hW.1]; omega)]) (by
    show _ = some (arrV (P.2.1.2.2 2) N0 _)
    rw [← hW.1]
    simp)) hl hx _ (by rw [← hT]; rfl) X'
  rw [hz] at step
  exact ⟨t, step t a2, b2⟩
theorem x_castB (hC : xC P Θ cc own nL d mc ms) {index a0 N0 : Nat} {f : Nat → Value} (hk : Cond.classLink own index "[B" ∈ x_tbl) (ha : F a0 = some (.inr (2, N0, f))) (hd : decode cc pc = .ok (.checkcast index, 3)) (kk : xX P Θ (pc + 3) L (.ref a0 :: st) F z k n) : xX P Θ pc L (.ref a0 :: st) F z k n := by
  intro H locs ls hW hl hx
  have ht := hC.2.2.2.2.1
  have hra : Θ.2.2.2.1.vm.findClass "[B" = some (P.2.1.2.2 2) := (hC.2.2.2.2.2.1.2.1 2 (by decide)).2
  intro T hT X
  obtain ⟨vm', X', step⟩ := X.checkcastYes hC.1 hC.2.2.2.1 (ht _ hk) (by rw [hT]; exact (hW.2.2.2.2 a0 _ ha).2) (by rfl) hra (va_asg _ _) (g := F0 Θ.2.2.2.2.1 pc ls (.ref a0 :: st)) rfl rfl (by rw [hC.2.1]; exact hd)
  obtain ⟨t, a2, b2⟩ := kk H locs ls hW hl hx (T.setVm vm') hT X'
  exact ⟨t, step t a2, b2⟩
end XS0

theorem ku_AbstractStringBuilder_104 : xLU "java/lang/AbstractStringBuilder" 104 "java/lang/StringBuilder" (⟨"java/lang/AbstractStringBuilder", "newCapacity", "(I)I"⟩ : MethodName) xy_AbstractStringBuilder_newCapacity 1 := ⟨kY_AbstractStringBuilder_newCapacity, x_in (x_of (xtb_6 (List.mem_of_getElem? (i := 178) (by decide +kernel)))) (by decide +kernel), x_in (x_of (xtb_7 (List.mem_of_getElem? (i := 128) (by decide +kernel)))) (by decide +kernel), x_in (x_of (xtb_6 (List.mem_of_getElem? (i := 180) (by decide +kernel)))) (by decide +kernel), x_in (x_of (xtb_6 (List.mem_of_getElem? (i := 180) (by decide +kernel)))) (by decide +kernel), ⟨prog_16_method_10_code, 6, (Option.some FieldType.int), x_in (x_of (xtb_6 (List.mem_of_getElem? (i := 181) (by decide +kernel)))) (by decide +kernel)⟩, ⟨by decide, by decide, by decide +kernel⟩, x_inS (List.mem_of_getElem? (i := 2) (by decide +kernel)) (by decide +kernel)⟩
theorem ku_AbstractStringBuilder_83 : xLU "java/lang/AbstractStringBuilder" 83 "java/lang/StringBuilder" (⟨"java/lang/AbstractStringBuilder", "isLatin1", "()Z"⟩ : MethodName) xy_AbstractStringBuilder_isLatin1 0 := ⟨kY_AbstractStringBuilder_isLatin1, x_in (x_of (xtb_6 (List.mem_of_getElem? (i := 205) (by decide +kernel)))) (by decide +kernel), x_in (x_of (xtb_6 (List.mem_of_getElem? (i := 207) (by decide +kernel)))) (by decide +kernel), x_in (x_of (xtb_6 (List.mem_of_getElem? (i := 206) (by decide +kernel)))) (by decide +kernel), x_in (x_of (xtb_6 (List.mem_of_getElem? (i := 206) (by decide +kernel)))) (by decide +kernel), ⟨prog_16_method_68_code, 1, (Option.some FieldType.boolean), x_in (x_of (xtb_6 (List.mem_of_getElem? (i := 209) (by decide +kernel)))) (by decide +kernel)⟩, ⟨by decide, by decide, by decide +kernel⟩, x_in (x_of (xtb_6 (List.mem_of_getElem? (i := 208) (by decide +kernel)))) (by decide +kernel)⟩
theorem ku_AbstractStringBuilder_204 : xLU "java/lang/AbstractStringBuilder" 204 "java/lang/StringBuilder" (⟨"java/lang/AbstractStringBuilder", "appendNull", "()Ljava/lang/AbstractStringBuilder;"⟩ : MethodName) xy_AbstractStringBuilder_appendNull 0 := ⟨kY_AbstractStringBuilder_appendNull, x_in (x_of (xtb_6 (List.mem_of_getElem? (i := 170) (by decide +kernel)))) (by decide +kernel), x_in (x_of (xtb_7 (List.mem_of_getElem? (i := 126) (by decide +kernel)))) (by decide +kernel), x_in (x_of (xtb_6 (List.mem_of_getElem? (i := 172) (by decide +kernel)))) (by decide +kernel), x_in (x_of (xtb_6 (List.mem_of_getElem? (i := 172) (by decide +kernel)))) (by decide +kernel), ⟨prog_16_method_26_code, 3, (Option.some (FieldType.object "java/lang/AbstractStringBuilder")), x_in (x_of (xtb_6 (List.mem_of_getElem? (i := 173) (by decide +kernel)))) (by decide +kernel)⟩, ⟨by decide, by decide, by decide +kernel⟩, x_inS (List.mem_of_getElem? (i := 0) (by decide +kernel)) (by decide +kernel)⟩
theorem ku_AbstractStringBuilder_100 : xLU "java/lang/AbstractStringBuilder" 100 "java/lang/StringBuilder" (⟨"java/lang/AbstractStringBuilder", "ensureCapacityInternal", "(I)V"⟩ : MethodName) xy_AbstractStringBuilder_ensureCapacityInternal 1 := ⟨kY_AbstractStringBuilder_ensureCapacityInternal, x_in (x_of (xtb_6 (List.mem_of_getElem? (i := 174) (by decide +kernel)))) (by decide +kernel), x_in (x_of (xtb_7 (List.mem_of_getElem? (i := 127) (by decide +kernel)))) (by decide +kernel), x_in (x_of (xtb_6 (List.mem_of_getElem? (i := 176) (by decide +kernel)))) (by decide +kernel), x_in (x_of (xtb_6 (List.mem_of_getElem? (i := 176) (by decide +kernel)))) (by decide +kernel), ⟨prog_16_method_9_code, 3, (Option.none : Option FieldType), x_in (x_of (xtb_6 (List.mem_of_getElem? (i := 177) (by decide +kernel)))) (by decide +kernel)⟩, ⟨by decide, by decide, by decide +kernel⟩, x_inS (List.mem_of_getElem? (i := 1) (by decide +kernel)) (by decide +kernel)⟩
theorem ku_AbstractStringBuilder_208 : xLU "java/lang/AbstractStringBuilder" 208 "java/lang/StringBuilder" (⟨"java/lang/AbstractStringBuilder", "putStringAt", "(ILjava/lang/String;)V"⟩ : MethodName) xy_AbstractStringBuilder_putStringAt 2 := ⟨kY_AbstractStringBuilder_putStringAt, x_in (x_of (xtb_6 (List.mem_of_getElem? (i := 226) (by decide +kernel)))) (by decide +kernel), x_in (x_of (xtb_7 (List.mem_of_getElem? (i := 129) (by decide +kernel)))) (by decide +kernel), x_in (x_of (xtb_6 (List.mem_of_getElem? (i := 228) (by decide +kernel)))) (by decide +kernel), x_in (x_of (xtb_6 (List.mem_of_getElem? (i := 228) (by decide +kernel)))) (by decide +kernel), ⟨prog_16_method_73_code, 3, (Option.none : Option FieldType), x_in (x_of (xtb_6 (List.mem_of_getElem? (i := 229) (by decide +kernel)))) (by decide +kernel)⟩, ⟨by decide, by decide, by decide +kernel⟩, x_inS (List.mem_of_getElem? (i := 3) (by decide +kernel)) (by decide +kernel)⟩
theorem ku_AbstractStringBuilder_195 : xLU "java/lang/AbstractStringBuilder" 195 "java/lang/StringBuilder" (⟨"java/lang/AbstractStringBuilder", "inflate", "()V"⟩ : MethodName) xy_AbstractStringBuilder_inflate 0 := ⟨kY_AbstractStringBuilder_inflate, x_in (x_of (xtb_6 (List.mem_of_getElem? (i := 235) (by decide +kernel)))) (by decide +kernel), x_in (x_of (xtb_7 (List.mem_of_getElem? (i := 131) (by decide +kernel)))) (by decide +kernel), x_in (x_of (xtb_6 (List.mem_of_getElem? (i := 237) (by decide +kernel)))) (by decide +kernel), x_in (x_of (xtb_6 (List.mem_of_getElem? (i := 237) (by decide +kernel)))) (by decide +kernel), ⟨prog_16_method_11_code, 2, (Option.none : Option FieldType), x_in (x_of (xtb_6 (List.mem_of_getElem? (i := 238) (by decide +kernel)))) (by decide +kernel)⟩, ⟨by decide, by decide, by decide +kernel⟩, x_inS (List.mem_of_getElem? (i := 5) (by decide +kernel)) (by decide +kernel)⟩
theorem ku_AbstractStringBuilder_397 : xLU "java/lang/AbstractStringBuilder" 397 "java/lang/StringBuilder" (⟨"java/lang/AbstractStringBuilder", "inflateIfNeededFor", "(Ljava/lang/String;)V"⟩ : MethodName) xy_AbstractStringBuilder_inflateIfNeededFor 1 := ⟨kY_AbstractStringBuilder_inflateIfNeededFor, x_in (x_of (xtb_6 (List.mem_of_getElem? (i := 230) (by decide +kernel)))) (by decide +kernel), x_in (x_of (xtb_7 (List.mem_of_getElem? (i := 130) (by decide +kernel)))) (by decide +kernel), x_in (x_of (xtb_6 (List.mem_of_getElem? (i := 232) (by decide +kernel)))) (by decide +kernel), x_in (x_of (xtb_6 (List.mem_of_getElem? (i := 232) (by decide +kernel)))) (by decide +kernel), ⟨prog_16_method_71_code, 2, (Option.none : Option FieldType), x_in (x_of (xtb_6 (List.mem_of_getElem? (i := 233) (by decide +kernel)))) (by decide +kernel)⟩, ⟨by decide, by decide, by decide +kernel⟩, x_inS (List.mem_of_getElem? (i := 4) (by decide +kernel)) (by decide +kernel)⟩
theorem kac_String_212 : xLA "java/lang/String" 212 := ⟨x_in (x_of (xtb_7 (List.mem_of_getElem? (i := 18) (by decide +kernel)))) (by decide +kernel), x_in (x_of (xtb_6 (List.mem_of_getElem? (i := 204) (by decide +kernel)))) (by decide +kernel), x_in (x_of (xtb_6 (List.mem_of_getElem? (i := 203) (by decide +kernel)))) (by decide +kernel), x_in (x_of (xtb_1 (List.mem_of_getElem? (i := 29) (by decide +kernel)))) (by decide +kernel)⟩
theorem ku_String_552 : xLU "java/lang/String" 552 "java/lang/StringBuilder" (⟨"java/lang/AbstractStringBuilder", "getValue", "()[B"⟩ : MethodName) xy_AbstractStringBuilder_getValue 0 := ⟨kY_AbstractStringBuilder_getValue, x_in (x_of (xtb_7 (List.mem_of_getElem? (i := 70) (by decide +kernel)))) (by decide +kernel), x_in (x_of (xtb_7 (List.mem_of_getElem? (i := 72) (by decide +kernel)))) (by decide +kernel), x_in (x_of (xtb_7 (List.mem_of_getElem? (i := 71) (by decide +kernel)))) (by decide +kernel), x_in (x_of (xtb_7 (List.mem_of_getElem? (i := 71) (by decide +kernel)))) (by decide +kernel), ⟨prog_16_method_64_code, 1, (Option.some (FieldType.array FieldType.byte)), x_in (x_of (xtb_7 (List.mem_of_getElem? (i := 74) (by decide +kernel)))) (by decide +kernel)⟩, ⟨by decide, by decide, by decide +kernel⟩, x_in (x_of (xtb_7 (List.mem_of_getElem? (i := 73) (by decide +kernel)))) (by decide +kernel)⟩
theorem ku_String_549 : xLU "java/lang/String" 549 "java/lang/StringBuilder" (⟨"java/lang/AbstractStringBuilder", "length", "()I"⟩ : MethodName) xy_StringBuilder_length 0 := ⟨kY_StringBuilder_length, x_in (x_of (xtb_7 (List.mem_of_getElem? (i := 75) (by decide +kernel)))) (by decide +kernel), x_in (x_of (xtb_7 (List.mem_of_getElem? (i := 77) (by decide +kernel)))) (by decide +kernel), x_in (x_of (xtb_7 (List.mem_of_getElem? (i := 76) (by decide +kernel)))) (by decide +kernel), x_in (x_of (xtb_7 (List.mem_of_getElem? (i := 79) (by decide +kernel)))) (by decide +kernel), ⟨prog_16_method_6_code, 1, (Option.some FieldType.int), x_in (x_of (xtb_7 (List.mem_of_getElem? (i := 82) (by decide +kernel)))) (by decide +kernel)⟩, ⟨by decide, by decide, by decide +kernel⟩, x_in (x_of (xtb_7 (List.mem_of_getElem? (i := 78) (by decide +kernel)))) (by decide +kernel)⟩
theorem ku_String_1047 : xLU "java/lang/String" 1047 "java/lang/StringBuilder" (⟨"java/lang/AbstractStringBuilder", "isLatin1", "()Z"⟩ : MethodName) xy_AbstractStringBuilder_isLatin1 0 := ⟨kY_AbstractStringBuilder_isLatin1, x_in (x_of (xtb_7 (List.mem_of_getElem? (i := 83) (by decide +kernel)))) (by decide +kernel), x_in (x_of (xtb_6 (List.mem_of_getElem? (i := 207) (by decide +kernel)))) (by decide +kernel), x_in (x_of (xtb_6 (List.mem_of_getElem? (i := 206) (by decide +kernel)))) (by decide +kernel), x_in (x_of (xtb_6 (List.mem_of_getElem? (i := 206) (by decide +kernel)))) (by decide +kernel), ⟨prog_16_method_68_code, 1, (Option.some FieldType.boolean), x_in (x_of (xtb_6 (List.mem_of_getElem? (i := 209) (by decide +kernel)))) (by decide +kernel)⟩, ⟨by decide, by decide, by decide +kernel⟩, x_in (x_of (xtb_6 (List.mem_of_getElem? (i := 208) (by decide +kernel)))) (by decide +kernel)⟩
theorem kq_StringBuilder_29 : xLQ "java/lang/StringBuilder" 29 xy_AbstractStringBuilder_append_String 1 := ⟨kY_AbstractStringBuilder_append_String, x_in (x_of (xtb_6 (List.mem_of_getElem? (i := 167) (by decide +kernel)))) (by decide +kernel), x_in (x_of (xtb_7 (List.mem_of_getElem? (i := 125) (by decide +kernel)))) (by decide +kernel), x_in (x_of (xtb_6 (List.mem_of_getElem? (i := 162) (by decide +kernel)))) (by decide +kernel), x_in (x_of (xtb_6 (List.mem_of_getElem? (i := 168) (by decide +kernel)))) (by decide +kernel), by decide⟩
theorem kq_StringBuilder_50 : xLQ "java/lang/StringBuilder" 50 xy_AbstractStringBuilder_append_C 1 := ⟨kY_AbstractStringBuilder_append_C, x_in (x_of (xtb_7 (List.mem_of_getElem? (i := 24) (by decide +kernel)))) (by decide +kernel), x_in (x_of (xtb_7 (List.mem_of_getElem? (i := 132) (by decide +kernel)))) (by decide +kernel), x_in (x_of (xtb_6 (List.mem_of_getElem? (i := 162) (by decide +kernel)))) (by decide +kernel), x_in (x_of (xtb_7 (List.mem_of_getElem? (i := 25) (by decide +kernel)))) (by decide +kernel), by decide⟩
theorem kq_StringBuilder_53 : xLQ "java/lang/StringBuilder" 53 xy_AbstractStringBuilder_append_I 1 := ⟨kY_AbstractStringBuilder_append_I, x_in (x_of (xtb_7 (List.mem_of_getElem? (i := 37) (by decide +kernel)))) (by decide +kernel), x_in (x_of (xtb_7 (List.mem_of_getElem? (i := 133) (by decide +kernel)))) (by decide +kernel), x_in (x_of (xtb_6 (List.mem_of_getElem? (i := 162) (by decide +kernel)))) (by decide +kernel), x_in (x_of (xtb_7 (List.mem_of_getElem? (i := 38) (by decide +kernel)))) (by decide +kernel), by decide⟩
theorem kq_StringBuilder_343 : xLQ "java/lang/StringBuilder" 343 xy_AbstractStringBuilder_length 0 := ⟨kY_AbstractStringBuilder_length, x_in (x_of (xtb_7 (List.mem_of_getElem? (i := 81) (by decide +kernel)))) (by decide +kernel), x_in (x_of (xtb_7 (List.mem_of_getElem? (i := 77) (by decide +kernel)))) (by decide +kernel), x_in (x_of (xtb_6 (List.mem_of_getElem? (i := 162) (by decide +kernel)))) (by decide +kernel), x_in (x_of (xtb_7 (List.mem_of_getElem? (i := 76) (by decide +kernel)))) (by decide +kernel), by decide⟩
theorem kcl_Arrays_310 : xLB "java/util/Arrays" 310 := ⟨x_in (x_of (xtb_6 (List.mem_of_getElem? (i := 194) (by decide +kernel)))) (by decide +kernel), x_in (x_of (xtb_6 (List.mem_of_getElem? (i := 195) (by decide +kernel)))) (by decide +kernel), x_in (x_of (xtb_6 (List.mem_of_getElem? (i := 196) (by decide +kernel)))) (by decide +kernel), x_in (x_of (xtb_6 (List.mem_of_getElem? (i := 197) (by decide +kernel)))) (by decide +kernel), x_in (x_of (xtb_6 (List.mem_of_getElem? (i := 198) (by decide +kernel)))) (by decide +kernel), x_inN (xtb_6 (List.mem_of_getElem? (i := 199) (by decide +kernel))) (by decide +kernel)⟩
theorem kac_Arrays_150 : xLA "java/util/Arrays" 150 := ⟨x_in (x_of (xtb_6 (List.mem_of_getElem? (i := 202) (by decide +kernel)))) (by decide +kernel), x_in (x_of (xtb_6 (List.mem_of_getElem? (i := 204) (by decide +kernel)))) (by decide +kernel), x_in (x_of (xtb_6 (List.mem_of_getElem? (i := 203) (by decide +kernel)))) (by decide +kernel), x_in (x_of (xtb_1 (List.mem_of_getElem? (i := 29) (by decide +kernel)))) (by decide +kernel)⟩
theorem kcb_Arrays_311 : Cond.classLink "java/util/Arrays" 311 "[B" ∈ x_tbl := x_in (x_of (xtb_6 (List.mem_of_getElem? (i := 200) (by decide +kernel)))) (by decide +kernel)
