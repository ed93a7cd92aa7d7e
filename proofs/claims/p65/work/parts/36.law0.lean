/-! the law: calls that are caught, methods with a table of their own, the script -/
section LW0
variable {P : xP} {Θ : xT} {cc : ByteArray} {own : String} {nL d mc ms pc : Nat} {L : List (Option Value)} {st : List Value} {F : xF} {z k n : Nat}
/-- thrown here: E, over this frame -/
def xH (P : xP) (Θ : xT) (E : String) (pc : Nat) (L : List (Option Value)) (rest : List Value) (F : xF) (z k n : Nat) : Prop :=
  ∀ (H : Heap) (locs : List Loc) (ls : Array Slot) (q : Addr) (ce : Cell), xW P F z H → (∀ q ∈ locs, P.2.2.2.1 ≤ q.base) → xl ls L → H[q]? = some ce → ce.vm = .none → Θ.2.2.2.1.vm.findClass E = some ce.cls →
    vx_W Θ.1 P.1 Θ.2.1 Θ.2.2.1 Θ.2.2.2.1 Θ.2.2.2.2.1 Θ.2.2.2.2.2.1 Θ.2.2.2.2.2.2.1 Θ.2.2.2.2.2.2.2.1 Θ.2.2.2.2.2.2.2.2.1 H locs k n Θ.2.2.2.2.2.2.2.2.2 (F0 Θ.2.2.2.2.1 pc ls rest) q
theorem x_afterC {H : Heap} {locs : List Loc} {ls : Array Slot} {st0 rest : List Value} {mc1 ms1 : Nat} {post : Option Value → xF → Nat → Prop} {postx1 : String → xF → Nat → Prop} {free : Addr → Prop}
    (hr : vx_Run Θ.1 P.1 Θ.2.1 Θ.2.2.1 Θ.2.2.2.1 Θ.2.2.2.2.1 Θ.2.2.2.2.2.1 Θ.2.2.2.2.2.2.1 Θ.2.2.2.2.2.2.2.1 Θ.2.2.2.2.2.2.2.2.1 H locs k n mc1 ms1 (F0 Θ.2.2.2.2.1 pc ls st0) rest (fun _ oc t => ∃ (r : Option Value) (F1 : xF) (z1 : Nat), oc = .returned r ∧ post r F1 z1 ∧ xW P F1 z1 t.heap) (xXC P postx1) free)
    (hl : ∀ q ∈ locs, P.2.2.2.1 ≤ q.base) (hx : xl ls L) (hf : ∀ q, free q → P.2.2.2.1 ≤ q) (kx : ∀ E F1 z1, postx1 E F1 z1 → xH P Θ E pc L rest F1 z1 (k + mc1) (n + ms1)) (kk : ∀ (r : Option Value) (F1 : xF) (z1 : Nat), post r F1 z1 → xX P Θ (pc + 3) L (r.toList ++ rest) F1 z1 (k + mc1) (n + ms1)) :
    W Θ.1 P.1 Θ.2.1 Θ.2.2.1 Θ.2.2.2.1 Θ.2.2.2.2.1 Θ.2.2.2.2.2.1 Θ.2.2.2.2.2.2.1 Θ.2.2.2.2.2.2.2.1 Θ.2.2.2.2.2.2.2.2.1 H locs k n Θ.2.2.2.2.2.2.2.2.2 (F0 Θ.2.2.2.2.1 pc ls st0) := by
  intro T hT X
  rcases hr T hT X with ⟨v, st₀, t, T', L', h0, X', hL', e1, e2, ⟨r, F1, z1, hv, hp, hW⟩, stp⟩ | ⟨q, st₀, t, T', L', E, ce, h0, X', hL', e1, e2, ⟨F1, z1, hp, hW⟩, hce, hcv, hcl, stp⟩
  · cases hv
    obtain ⟨t2, a1, b1⟩ := kk v F1 z1 hp T'.heap (locs ++ L') ls (by rw [e1]; exact hW) (fun q hq => by
      rcases List.mem_append.mp hq with h | h
      · exact hl q h
      · exact hf _ (hL' q h)) hx T' rfl X'
    exact ⟨t2, stp t2 a1, b1⟩
  · obtain ⟨t2, a1, b1⟩ := kx E F1 z1 hp T'.heap (locs ++ L') ls q ce (by rw [e1]; exact hW) (fun q hq => by
      rcases List.mem_append.mp hq with h | h
      · exact hl q h
      · exact hf _ (hL' q h)) hx (by rw [e1]; exact hce) hcv hcl T' rfl X'
    exact ⟨t2, stp.trans a1, b1⟩
theorem x_callCV (hC : xC P Θ cc own nL d mc ms) {postx1 : String → xF → Nat → Prop} {index nP b ci nC mc1 ms1 : Nat} {Y : xY} {C : String} {T : u_T} {As rest : List Value} {fs : List Value} {post : Option Value → xF → Nat → Prop} (hk : xLV own index Y nP) (hM : xMx P Y (.ref b :: As) F z mc1 ms1 post postx1) (hb : F b = some (.inl (ci, fs))) (hc : xcl[ci]? = some (C, T, nC)) (hcn : Y.1.cls = C) (hdp : Y.2.2.2.2 + 1 ≤ d) (hn : As.length = nP) (hst : st = As.reverse ++ .ref b :: rest) (hL : L.length = nL) (hrm : (rest.map fun v => v.category).sum ≤ 8) (hm : k + mc1 ≤ mc ∧ n + ms1 ≤ ms) (hd : decode cc pc = .ok (.invokevirtual index, 3)) (kx : ∀ E F1 z1, postx1 E F1 z1 → xH P Θ E pc L rest F1 z1 (k + mc1) (n + ms1)) (kk : ∀ (r : Option Value) (F1 : xF) (z1 : Nat), post r F1 z1 → xX P Θ (pc + 3) L (r.toList ++ rest) F1 z1 (k + mc1) (n + ms1)) : xX P Θ pc L st F z k n := by
  subst hst
  obtain ⟨hY, h1, h2, h3⟩ := hk
  intro H locs ls hW hl hx
  have ht := hC.2.2.2.2.1
  have hR := hC.2.2.2.2.2.2.1
  obtain ⟨r, g1, cell, q1, q2, q3, q4⟩ := x_one (hW.2.2.2.2 b _ hb).2 0 _ rfl
  have hr : r = (C, T, nC) := Option.some.inj (g1.symm.trans hc)
  subst hr
  obtain ⟨hS, hfc, kC, hkC, hkind⟩ := hC.2.2.2.2.2.1.1 ci _ hc
  refine x_afterC (vx_runV (C := Y.1.cls) (As := As) (rest := rest) (n := nP) (bytes := Y.2.1) (maxL := Y.2.2.1) (ret := Y.2.2.2.1) ⟨hC.1, hC.2.1, hC.2.2.1, hC.2.2.2.1, ht⟩ hM ⟨⟨rfl, rfl, ?_, ?_, x_paid ht (x_code hY), List.mem_cons_self, ht _ hY.1, ht _ hY.2.1, ⟨hY.2.2.1.1, hY.2.2.1.2.1⟩, x_len hY, ht _ h1⟩, ht _ h2, ht _ h3⟩ ⟨x_blind, ⟨cell, q1, by rw [q3]; rfl, by rw [hcn, q2]; exact hfc⟩, fun U hU hWm => ⟨rfl, by rw [hU]; exact hW, xK_moved hWm hC.2.2.2.2.2.1⟩⟩ rfl hn (by rw [← hL]; exact hx.1) rfl (lv_room hrm) hd (by rw [hR]; exact hm)) hl hx (fun q h => h) kx kk
  · rw [hR]; exact hdp
  · rw [hR]
    have := hY.2.2.2
    show 8 + (Y.2.2.1 + 11) + 60 * Y.2.2.2.2 ≤ 60 * d
    omega
/-- caught by this row of the table -/
theorem xH_at (hC : xC P Θ cc own nL d mc ms) {E name : String} {rest : List Value} (pre : List ExceptionTableEntry) (x : ExceptionTableEntry) (suf : List ExceptionTableEntry) (hT : Θ.2.2.2.2.2.2.2.2.1.exceptionTable.toList = pre ++ x :: suf) (hp : ∀ z ∈ pre, z.catchType ≠ 0 ∧ ∃ nm : String, Cond.classLink own z.catchType nm ∈ x_tbl ∧ va_Nc E nm Θ.2.2.2.1) (hx : covers x pc = true) (h0 : x.catchType ≠ 0) (hlk : Cond.classLink own x.catchType name ∈ x_tbl) (hcs : Cond.castable E name ∈ x_nst) (kk : ∀ q, xX P Θ x.handlerPc L [.ref q] F z k n) : xH P Θ E pc L rest F z k n := by
  intro H locs ls q ce hW hl hxl hce hcv hcl
  exact vx_catch hC.2.2.2.1 pre x suf hT (fun y hy => by
    obtain ⟨h1, nm, h2, h3⟩ := hp y hy
    exact Or.inr ⟨h1, nm, hC.2.2.2.2.1 _ h2, h3⟩) hx h0 (hC.2.2.2.2.1 _ hlk) (va_Nw.use rfl (hC.2.2.2.2.2.1.2.2.1 _ hcs)) hce hcv hcl (kk q H locs ls hW hl hxl)
/-- classes that don't take each other -/
def xNx (P : xP) : Prop := ∀ U, P.2.2.2.2 U → va_Nc "java/lang/IllegalStateException" "java/lang/IllegalArgumentException" U ∧ va_Nc "java/lang/IllegalArgumentException" "java/util/NoSuchElementException" U ∧ va_Nc "java/lang/IndexOutOfBoundsException" "java/util/NoSuchElementException" U
theorem xNx_1 (hC : xC P Θ cc own nL d mc ms) (h : xNx P) : va_Nc "java/lang/IllegalStateException" "java/lang/IllegalArgumentException" Θ.2.2.2.1 ∧ va_Nc "java/lang/IllegalArgumentException" "java/util/NoSuchElementException" Θ.2.2.2.1 ∧ va_Nc "java/lang/IndexOutOfBoundsException" "java/util/NoSuchElementException" Θ.2.2.2.1 := by
  obtain ⟨U0, h1, h2⟩ := hC.2.2.2.2.2.1.2.2.2
  obtain ⟨g1, g2, g3⟩ := h U0 h2
  exact ⟨g1.moved h1, g2.moved h1, g3.moved h1⟩
/-- a method with a table of its own -/
def xMw (P : xP) (Y : xY) (hh : List (Nat × Nat × Nat × Nat)) (av : List Value) (F : xF) (z mc ms : Nat) (post : Option Value → xF → Nat → Prop) : Prop :=
  Met P.1 Y.1 (.codeWith Y.1 Y.2.1 Y.2.2.1 Y.2.2.2.1 hh :: x_tbl) ({ frames := Y.2.2.2.2, cells := mc, slots := ms, locals := 60 * Y.2.2.2.2 } : Room)
    (va_Pc av (fun U => xW P F z U.heap ∧ xK P U)) (fun _ _ oc t => ∃ (r : Option Value) (F1 : xF) (z1 : Nat), oc = .returned r ∧ post r F1 z1 ∧ xW P F1 z1 t.heap) mc ms (fun q => P.2.2.2.1 ≤ q)
theorem xMw_i {Y : xY} {hh : List (Nat × Nat × Nat × Nat)} {av : List Value} {post : Option Value → xF → Nat → Prop} (ty : FieldType) (hy : plainName Y.1.cls = true) (hlen : (lg_sl av).length ≤ Y.2.2.1) {L0 : List (Option Value)} (hL : xL0 av Y.2.2.1 = L0) (hr : Y.2.2.2.1 = some ty)
    (body : ∀ Θ : xT, xC P Θ Y.2.1 Y.1.cls Y.2.2.1 Y.2.2.2.2 mc ms → Θ.2.2.2.2.2.2.2.2.1.exceptionTable.toList = tableOf hh → xRi P Θ Y.2.1 ty mc ms post → xX P Θ 0 L0 [] F z 0 0) : xMw P Y hh av F z mc ms post := by
  unfold xMw
  refine va_MetW (cc := Y.2.1) (maxL := Y.2.2.1) (ret := Y.2.2.2.1) (hh := hh) hy rfl ?_
  intro p e s m args below meth c s₁ B hml hv
  obtain ⟨rfl, hW, hK⟩ := hv
  have hts := atoms_spec (ws := .codeWith Y.1 Y.2.1 Y.2.2.1 Y.2.2.2.1 hh :: x_tbl) B.pre
  have htb := vx_table (x := Y.1) B (hts _ List.mem_cons_self)
  have key := body (p, e, _, s, m, av.toArray, below, meth, c, MQ below (fun _ _ oc t => ∃ (r : Option Value) (F1 : xF) (z1 : Nat), oc = .returned r ∧ post r F1 z1 ∧ xW P F1 z1 t.heap) av.toArray s mc ms (fun q => P.2.2.2.1 ≤ q)) ⟨B.exec, B.bytes, hml, findClass_of_methodNamed B.named, fun w hw => hts w (List.mem_cons_of_mem _ hw), hK, rfl, B.notSynchronized⟩ htb
    (by
      intro pc L F1 z1 k n x hd hk hn hnar hp H locs ls hW hl hx
      dsimp only
      refine W.widen hk hn ?_
      exact W.zret B.exec B.bytes (B.returns.trans hr) hnar (fun t ht hWm => ⟨some (.int x), F1, z1, rfl, hp, by rw [ht]; exact hW⟩) hl hd B.notSynchronized)
  rw [lg_entry_eq]
  have hx := xl_entry av hlen
  rw [hL] at hx
  exact key s.heap [] _ hW (fun q hq => by cases hq) hx
def xLW (own : String) (index : Nat) (Y : xY) (hh : List (Nat × Nat × Nat × Nat)) (nP : Nat) : Prop := (Cond.codeWith Y.1 Y.2.1 Y.2.2.1 Y.2.2.2.1 hh ∈ x_tbl ∧ Cond.initialized Y.1.cls ∈ x_tbl ∧ (Y.1.cls ≠ "java/lang/invoke/MethodHandle" ∧ Y.1.cls ≠ "java/lang/invoke/VarHandle" ∧ (parseMethodDescriptor Y.1.desc).map (fun d => d.parameters.length) = some nP) ∧ Y.2.2.1 ≤ 41) ∧ Cond.methodLink own index Y.1 ∈ x_tbl ∧ Cond.static Y.1 ∈ x_tbl
theorem x_callW (hC : xC P Θ cc own nL d mc ms) {index nP mc1 ms1 : Nat} {Y : xY} {hh : List (Nat × Nat × Nat × Nat)} {As rest : List Value} {post : Option Value → xF → Nat → Prop} (hk : xLW own index Y hh nP) (hM : xMw P Y hh As F z mc1 ms1 post) (hdp : Y.2.2.2.2 + 1 ≤ d) (hn : As.length = nP) (hst : st = As.reverse ++ rest) (hL : L.length = nL) (hrm : (rest.map fun v => v.category).sum ≤ 8) (hm : k + mc1 ≤ mc ∧ n + ms1 ≤ ms) (hd : decode cc pc = .ok (.invokestatic index, 3)) (kk : ∀ (r : Option Value) (F1 : xF) (z1 : Nat), post r F1 z1 → xX P Θ (pc + 3) L (r.toList ++ rest) F1 z1 (k + mc1) (n + ms1)) : xX P Θ pc L st F z k n := by
  subst hst
  obtain ⟨hY, h1, h2⟩ := hk
  intro H locs ls hW hl hx
  have ht := hC.2.2.2.2.1
  have hR := hC.2.2.2.2.2.2.1
  have hf1 : Y.2.2.2.2 + 1 ≤ Θ.2.2.1.frames := by rw [hR]; exact hdp
  have hf2 : 8 + (Y.2.2.1 + 11) + 60 * Y.2.2.2.2 ≤ Θ.2.2.1.locals := by
    rw [hR]
    have := hY.2.2.2
    show 8 + (Y.2.2.1 + 11) + 60 * Y.2.2.2.2 ≤ 60 * d
    omega
  have hws : ∀ w ∈ (.codeWith Y.1 Y.2.1 Y.2.2.1 Y.2.2.2.1 hh :: x_tbl : List Cond), w ∈ x_tbl := fun w hw => (List.mem_cons.mp hw).elim (fun e => by rw [e]; exact hY.1) id
  have hlen : ∀ sig, parseMethodDescriptor Y.1.desc = some sig → nP = sig.parameters.length := fun sig h => by
    have h3 := hY.2.2.1.2.2
    rw [h] at h3
    exact (Option.some.inj h3).symm
  exact x_after (vx_runSW (hh := hh) (As := As) (rest := rest) (n := nP) (bytes := Y.2.1) (maxL := Y.2.2.1) (ret := Y.2.2.2.1) ⟨hC.1, hC.2.1, hC.2.2.1, hC.2.2.2.1, ht⟩ hM ⟨⟨rfl, rfl, hf1, hf2, x_paid ht hws, List.mem_cons_self⟩, ht _ hY.1, ht _ hY.2.1, ⟨hY.2.2.1.1, hY.2.2.1.2.1⟩, hlen, ht _ h1, ht _ h2⟩ ⟨x_blind, fun U hU hWm => ⟨rfl, by rw [hU]; exact hW, xK_moved hWm hC.2.2.2.2.2.1⟩⟩ rfl hn (by rw [← hL]; exact hx.1) rfl (lv_room hrm) hd (by rw [hR]; exact hm)) hl hx (fun q h => h) kk
/-- the script: it lies below all that is ours -/
theorem x_sld (hC : xC P Θ cc own nL d mc ms) {a N j : Nat} {xs : Nat → Int32} (hX : va_X a N xs Θ.2.2.2.1 P.2.2.1) (ha : a < P.2.2.2.1) {i : Int32} (hi : xix i N j) (hd : decode cc pc = .ok (.iaload, 1)) (kk : xX P Θ (pc + 1) L (.int (xs j) :: st) F z k n) : xX P Θ pc L (.int i :: .ref a :: st) F z k n := by
  intro H locs ls hW hl hx
  obtain ⟨scr, h1, h2, h3, h4, h5⟩ := hX
  exact W.iald (v := .int (xs j)) hC.1 hC.2.1 (by rw [hW.2.2.2.1 a ha]; exact h1) h2 h3 (by rw [h4]; exact xix_in hi) (by rw [xix_cl hi]; exact h5 _ hi.2.1) rfl rfl hd (kk H locs ls hW hl hx)
theorem x_slen (hC : xC P Θ cc own nL d mc ms) {a N : Nat} {xs : Nat → Int32} (hX : va_X a N xs Θ.2.2.2.1 P.2.2.1) (ha : a < P.2.2.2.1) (hd : decode cc pc = .ok (.arraylength, 1)) (kk : xX P Θ (pc + 1) L (.int (nI N) :: st) F z k n) : xX P Θ pc L (.ref a :: st) F z k n := by
  intro H locs ls hW hl hx
  obtain ⟨scr, h1, h2, h3, h4, h5⟩ := hX
  exact W.alen (n := nI N) hC.1 hC.2.1 (by rw [hW.2.2.2.1 a ha]; exact h1) h2 (by rw [h4]; rfl) rfl rfl hd (kk H locs ls hW hl hx)
end LW0

def chN (v : Int32) : Nat := v.toBitVec.toNat % 65536
theorem chN_lt (v : Int32) : chN v < 65536 := Nat.mod_lt _ (by decide)
theorem chN_I (v : Int32) : (v.toUInt32 % 65536).toInt32 = nI (chN v) := pk_char v
/-- the heap never shrinks -/
theorem xM_z {P : xP} {Y : xY} {av : List Value} {F : xF} {z mc ms : Nat} {post : Option Value → xF → Nat → Prop} (h : xM P Y av F z mc ms post) : xM P Y av F z mc ms (fun r F1 z1 => post r F1 z1 ∧ z ≤ z1) := by
  intro p e ha hc hk s m args below hf happ hP hT
  obtain ⟨k, o, g1, g2, g3, ⟨r, F1, z1, q1, q2, q3⟩, g5⟩ := h p e ha hc hk s m args below hf happ hP hT
  refine ⟨k, o, g1, g2, g3, ⟨r, F1, z1, q1, ⟨q2, ?_⟩, q3⟩, g5⟩
  obtain ⟨L, ⟨hr, hW, hs⟩, hfree⟩ := g5
  have e0 : s.heap.size = z := hP.2.1.1
  have e1 := q3.1
  have e2 := hs.2.1
  rw [e0] at e2
  rw [← e1]
  exact e2
theorem xMw_z {P : xP} {Y : xY} {hh : List (Nat × Nat × Nat × Nat)} {av : List Value} {F : xF} {z mc ms : Nat} {post : Option Value → xF → Nat → Prop} (h : xMw P Y hh av F z mc ms post) : xMw P Y hh av F z mc ms (fun r F1 z1 => post r F1 z1 ∧ z ≤ z1) := by
  intro p e ha hc hk s m args below hf happ hP hT
  obtain ⟨k, o, g1, g2, g3, ⟨r, F1, z1, q1, q2, q3⟩, g5⟩ := h p e ha hc hk s m args below hf happ hP hT
  refine ⟨k, o, g1, g2, g3, ⟨r, F1, z1, q1, ⟨q2, ?_⟩, q3⟩, g5⟩
  obtain ⟨L, ⟨hr, hW, hs⟩, hfree⟩ := g5
  have e0 : s.heap.size = z := hP.2.1.1
  have e1 := q3.1
  have e2 := hs.2.1
  rw [e0] at e2
  rw [← e1]
  exact e2
theorem xMw_post {P : xP} {Y : xY} {hh : List (Nat × Nat × Nat × Nat)} {av : List Value} {F : xF} {z mc ms : Nat} {post post' : Option Value → xF → Nat → Prop} (h : xMw P Y hh av F z mc ms post) (hp : ∀ r F1 z1, post r F1 z1 → post' r F1 z1) : xMw P Y hh av F z mc ms post' := by
  intro p e ha hc hk s m args below hf happ hP hT
  obtain ⟨k, o, g1, g2, g3, ⟨r, F1, z1, q1, q2, q3⟩, g5⟩ := h p e ha hc hk s m args below hf happ hP hT
  exact ⟨k, o, g1, g2, g3, ⟨r, F1, z1, q1, hp r F1 z1 q2, q3⟩, g5⟩
/-- a method that throws nothing here -/
theorem xMx_M {P : xP} {Y : xY} {av : List Value} {F : xF} {z mc ms : Nat} {post : Option Value → xF → Nat → Prop} {postx : String → xF → Nat → Prop} (h : xMx P Y av F z mc ms post postx) (hno : ∀ E F1 z1, ¬ postx E F1 z1) : xM P Y av F z mc ms post := by
  intro p e ha hc hk s m args below hf happ hP hT
  obtain ⟨k, o, g1, g2, g3, g4⟩ := h p e ha hc hk s m args below hf happ hP hT
  rcases g4 with ⟨q, g5⟩ | ⟨q, ho, E, ce, L, ⟨F1, z1, hp, hW⟩, -⟩
  · exact ⟨k, o, g1, g2, g3, q, g5⟩
  · exact absurd hp (hno E F1 z1)
/-- the script, as it lay at the start -/
def xScr (P : xP) (a N : Nat) (xs : Nat → Int32) : Prop := (∀ U, P.2.2.2.2 U → va_X a N xs U P.2.2.1) ∧ a < P.2.2.2.1 ∧ N ≤ 260
section LW1
variable {P : xP} {Θ : xT} {cc : ByteArray} {own : String} {nL d mc ms pc : Nat} {L : List (Option Value)} {st : List Value} {F : xF} {z k n : Nat}
theorem xScr_at (hC : xC P Θ cc own nL d mc ms) {a N : Nat} {xs : Nat → Int32} (h : xScr P a N xs) : va_X a N xs Θ.2.2.2.1 P.2.2.1 := by
  obtain ⟨U0, hal, hks⟩ := hC.2.2.2.2.2.1.2.2.2
  exact va_X.moved hal (h.1 U0 hks)
end LW1
theorem xt_in {i n : Nat} (h : i < n) (hn : n < 2 ^ 31) : 0 ≤ nI i ∧ nI i < nI n := by
  refine ⟨?_, (nI_ltI (by omega) hn).mpr h⟩
  rw [show (0 : Int32) = nI 0 from rfl]
  exact (nI_leI (by decide) (by omega)).mpr (Nat.zero_le i)
theorem xt_out {i n : Nat} (h : n ≤ i) (hi : i < 2 ^ 31) : ¬ (0 ≤ nI i ∧ nI i < nI n) := fun q => by
  have := (nI_ltI hi (by omega)).mp q.2
  omega
theorem xMC_z {F : xF} {cm : cmT} {b : Nat} {M : mcS} (h : xMC F cm b M) : ∃ fs, F b = some (.inl (9, fs)) := ⟨_, h.1⟩
