/-! THE CLAIM OUT OF ONE WALK OF THE LAW'S BODY. Your part is whole_start (and what it stands on); all else here is the same for every law, but numbers. -/
def R_law : String := "MessageCoderLaw"
def lw_P (b : Addr) (xs : List Int32) (args : Array Value) (s : State) : Prop := args = #[.ref b] ∧ s.IntsAt b xs ∧ xs.length ≤ 260 ∧ (Jvm.Cond.and given_1 narrow_1).before args s = true
/-- what a walk over the start with the record d0 says of its end, said of the start itself -/
theorem lw_closed {s t : State} {o : Outcome} {d0 : Drawn} {L : List Loc} {k n : Nat} (hd0 : s.drawn.sameBut d0 lw_cs) (hv : ∃ v, o = .returned v) (hW : (s.setDrawn d0).WarmedH t.vm) (hs : (s.setDrawn d0).sameButNew ({ t with vm := s.vm } : State) L k n) : State.butDraws s t lw_cs (fun t1 => Framed s o t1 L k n) := by
  have h2 : t.drawn = d0 := congrArg State.drawn hs.1
  refine ⟨⟨hv, hW, State.sameButNew.setDrawn hs s.drawn⟩, ?_, by decide⟩
  rw [h2]
  exact hd0
def lw_Q (_ : Array Value) (s : State) (o : Outcome) (t : State) : Prop := o = .returned (some (.int 1)) ∧ State.butDraws s t lw_cs (fun t1 => Framed s o t1 [] 644766 7153085)
def lw_Z (below : List Frame) (a : Array Value) (s : State) : State → Prop := fun t => ∃ o, t.status = .running ∧ Ended t below o ∧ lw_Q a s o t
/-- the law's own end, with 1 on the stack, nothing written that was there before, its room as the claim has it; d0: the record of draws at this point (at the entry s.drawn: begin with 'refine W.base ?_' and 'have hd0 := Drawn.sameBut.refl s.drawn lw_cs') -/
theorem lw_ret {p : Program} {l : Launch} {e : Env} {s : State} {m : MethodId} {below : List Frame} {meth : Method} {c : Code} {b : Nat} {d0 : Drawn} (hd0 : s.drawn.sameBut d0 lw_cs) (hx : p.tables.exec = Jvm.exec) (hb : c.code = code) (hr : meth.sig.returnType = ret) (hlocks : meth.locks = false) {pc : Nat} {H : Heap} {ls : Array Slot} (hdg : decode code pc = .ok (.ireturn, 1)) : W p l e room_1 (s.setDrawn d0) m #[Value.ref b] below meth c H [] 644766 7153085 (lw_Z below #[Value.ref b] s) (F0 m pc ls [.int 1]) := by
  intro T hT X
  obtain ⟨fs, hret, hrun, hended, hW, hframe⟩ := X.leave (v := some (.int 1)) (hlocks := hlocks) (fun h => by rw [hr] at h; cases h)
  have hmeth' : T.vm.method? m = some meth := X.method'
  refine ⟨T.setFrames fs, ?_, .returned (some (.int 1)), hrun, hended, rfl, lw_closed hd0 ⟨_, rfl⟩ hW hframe⟩
  jvm_step X.here [X.here.top, hx, hb, hdg, hmeth', hr, ret, narrow_b1]
  (try refine ⟨rfl, ?_⟩); (try refine ⟨rfl, ?_⟩)
  first | (intro acts; rw [hret _ acts rfl rfl rfl]) | rw [hret _ _ rfl rfl rfl]
  exact Steps.refl _
/-- what holds at the law's entry: the machine, the code, the tables' words (any of lw_tbl by 'hts w (by decide +kernel)'), the script of L ints xs at the cell b, what the Statement gives of the start (any of its parts by flat_of_before) -/
def lw_At (p : Program) (s : State) (m : MethodId) (meth : Method) (c : Code) (b L : Nat) (xs : Nat → Int32) : Prop :=
  p.tables.exec = Jvm.exec ∧ c.code = code ∧ meth.sig.returnType = ret ∧ c.maxLocals = 22 ∧ s.vm.findClass R_law = some m.cls ∧ (∀ w ∈ lw_tbl, w.before #[Value.ref b] s = true) ∧ va_X b L xs s s.heap ∧ b < s.heap.size ∧ meth.locks = false ∧ (Jvm.Cond.and given_1 narrow_1).before #[Value.ref b] s = true

/-- the law's own end, at any room -/
theorem lw_retR {p : Program} {l : Launch} {e : Env} {R : Room} {s : State} {m : MethodId} {below : List Frame} {meth : Method} {c : Code} {b : Nat} {d0 : Drawn} (hd0 : s.drawn.sameBut d0 lw_cs) (hx : p.tables.exec = Jvm.exec) (hb : c.code = code) (hr : meth.sig.returnType = ret) (hlocks : meth.locks = false) {pc : Nat} {H : Heap} {ls : Array Slot} (hdg : decode code pc = .ok (.ireturn, 1)) : W p l e R (s.setDrawn d0) m #[Value.ref b] below meth c H [] 644766 7153085 (lw_Z below #[Value.ref b] s) (F0 m pc ls [.int 1]) := by
  intro T hT X
  obtain ⟨fs, hret, hrun, hended, hW, hframe⟩ := X.leave (v := some (.int 1)) (hlocks := hlocks) (fun h => by rw [hr] at h; cases h)
  have hmeth' : T.vm.method? m = some meth := X.method'
  refine ⟨T.setFrames fs, ?_, .returned (some (.int 1)), hrun, hended, rfl, lw_closed hd0 ⟨_, rfl⟩ hW hframe⟩
  jvm_step X.here [X.here.top, hx, hb, hdg, hmeth', hr, ret, narrow_b1]
  (try refine ⟨rfl, ?_⟩); (try refine ⟨rfl, ?_⟩)
  first | (intro acts; rw [hret _ acts rfl rfl rfl]) | rw [hret _ _ rfl rfl rfl]
  exact Steps.refl _
abbrev lwR : Room := { frames := 1573, cells := 644766, slots := 7153085, locals := 60 * 1573 }
theorem lw_end {p : Program} {l : Launch} {e : Env} {G : xG} {s : State} {m : MethodId} {below : List Frame} {meth : Method} {c : Code} {b : Nat} (hx : p.tables.exec = Jvm.exec) (hb : c.code = code) (hr : meth.sig.returnType = ret) (hlocks : meth.locks = false) (L : List (Option Value)) (F : xF) (z k n : Nat) (hk : k ≤ 644766) (hn : n ≤ 7153085) (hC : xC (sP l G s) (p, e, lwR, s, m, #[Value.ref b], below, meth, c, lw_Z below #[Value.ref b] s) code "MessageCoderLaw" 22 1573 644766 7153085) : xX (sP l G s) (p, e, lwR, s, m, #[Value.ref b], below, meth, c, lw_Z below #[Value.ref b] s) 1607 L [] F z k n := by
  refine x_iconst hC d_Law_law_1607 (v := 1) (by decide) ?_
  intro H locs ls hW hl hxl
  show W p l e lwR s m #[Value.ref b] below meth c H locs k n (lw_Z below #[Value.ref b] s) (F0 m 1608 ls [.int 1])
  refine va_forget (fun q hq => hl q hq) ?_
  refine W.widen hk hn ?_
  refine W.base ?_
  exact lw_retR (Drawn.sameBut.refl s.drawn lw_cs) hx hb hr hlocks d_Law_law_1608
set_option maxHeartbeats 4000000 in
set_option maxRecDepth 20000 in
theorem lw_start {P : xP} {Θ : xT} {fo : Nat} {o1 : Nat} {o2 : Nat} {rt : Nat} {cm : cmT} {sm : Nat} {a : Nat} {N : Nat} {xs : Nat → Int32} {qe : Nat} {qq : Nat} {qx : Nat} {qc : Nat} (hG : xGl P Θ fo o1 o2 rt cm sm a N xs qe qq qx qc) (hend : ∀ (L : List (Option Value)) (F : xF) (z k n : Nat), k ≤ 644766 → n ≤ 7153085 → xX P Θ 1607 L [] F z k n) (F : xF) (b : Nat) : xX P Θ 0 [some (.ref a), none, none, none, none, none, none, none, none, none, none, none, none, none, none, none, none, none, none, none, none, none] [] F b 0 0 := by
  obtain ⟨hC, hZx, hNx, hJ, hD, hSR, hCM, hSM, hS, -⟩ := id hG
  refine x_new hC (fs := [.null, .null, .null, .null, .null, .null, .null, .null, .null, .int (nI 0), .int (nI 0), .int (nI 0), .int (nI 0), .int (nI 0)]) kn_Law_14 (by decide) d_Law_law_0 ?_
  generalize e1 : xup F b (.inl (9, [.null, .null, .null, .null, .null, .null, .null, .null, .null, .int (nI 0), .int (nI 0), .int (nI 0), .int (nI 0), .int (nI 0)])) = F1
  have h0 : F1 b = some (.inl (9, [.null, .null, .null, .null, .null, .null, .null, .null, .null, .int (nI 0), .int (nI 0), .int (nI 0), .int (nI 0), .int (nI 0)])) := by rw [← e1]; exact xup_eq
  refine x_dup hC d_Law_law_3 rfl ?_
  refine x_callI hC ki_Law_130 rfl (c_MessageCoder_init (cm := cm) h0) (Nat.le_of_ble_eq_true rfl) rfl rfl rfl (Nat.le_of_ble_eq_true rfl) (by decide) d_Law_law_4 (fun r9 F2 z9 hp9 => ?_)
  obtain ⟨rfl, rfl, hM, hag⟩ := hp9
  show xX P Θ 7 _ [.ref b] F2 (b + 566) 566 4825
  refine x_astore_n hC d_Law_law_7 rfl (Nat.le_of_ble_eq_true rfl) (L1 := [some (.ref a), some (.ref b), none, none, none, none, none, none, none, none, none, none, none, none, none, none, none, none, none, none, none, none]) rfl ?_
  refine x_aload_n hC d_Law_law_8 rfl rfl ?_
  refine x_aload_n hC d_Law_law_9 rfl rfl ?_
  refine x_callS hC ks_Law_131 (c_Law_build (hM := hM) (hCM := hCM) (hSM := hSM) (hZx := hZx) (hNx := hNx) (hS := hS) (hB := pBd_0) (hq := by omega)) (Nat.le_of_ble_eq_true rfl) rfl rfl rfl (Nat.le_of_ble_eq_true rfl) (by decide) d_Law_law_10 (fun r9 F3 z9 hp9 => ?_)
  obtain ⟨M1, zz, rfl, rfl, hM, hB, hz, hag2⟩ := hp9
  refine x_widen (k1 := 1000) (n1 := 10000) (by omega) (by omega) ?_
  exact l_all hG hM hB (by omega) (by omega) (by omega) (by omega) (fun F4 z4 => hend _ _ _ _ _ (by omega) (by omega))

set_option maxHeartbeats 4000000 in
theorem whole_start {p : Program} {e : Env} {s : State} {m : MethodId} {below : List Frame} {meth : Method} {c : Code} (l : Launch) (hflags : l.flags = flags0) {b L : Nat} {xs : Nat → Int32} (hL : L ≤ 260) (C0 : lw_At p s m meth c b L xs) : W p l e room_1 s m #[Value.ref b] below meth c s.heap [] 0 0 (lw_Z below #[Value.ref b] s) (entryFrame m ([Value.ref b] : List Value).toArray 22) := by
  obtain ⟨hx, hb, hr, hml, hown, hts, hX, hbl, hlocks, hgv⟩ := id C0
  obtain ⟨G, hK⟩ := st_K (l := l) hts
  obtain ⟨cm, hCM⟩ := st_CM (l := l) (G := G) hts hgv
  obtain ⟨sm, hSM⟩ := st_SM (l := l) (G := G) hts hgv
  obtain ⟨rt, hSR⟩ := st_SR (l := l) (G := G) hts hgv
  obtain ⟨o1, o2, hD⟩ := st_Dg (l := l) (G := G) hts hgv
  obtain ⟨fo, hJ⟩ := st_Jd (l := l) (G := G) hts hgv
  obtain ⟨qe, ve, he⟩ := st_So (l := l) (G := G) hgv hJ (j := 0) (by decide)
  obtain ⟨qq, vq, hq⟩ := st_So (l := l) (G := G) hgv hJ (j := 1) (by decide)
  obtain ⟨qx, vx, hqx⟩ := st_So (l := l) (G := G) hgv hJ (j := 2) (by decide)
  obtain ⟨qc, vc, hqc⟩ := st_So (l := l) (G := G) hgv hJ (j := 3) (by decide)
  have hZx := st_Zx hflags (G := G) hts hgv
  have hNx := st_Nx (l := l) (G := G) hgv
  refine W_room (R9 := lwR) (Nat.le_of_ble_eq_true rfl) (Nat.le_of_ble_eq_true rfl) (Nat.le_of_ble_eq_true rfl) (Nat.le_of_ble_eq_true rfl) ?_
  have hC : xC (sP l G s) (p, e, lwR, s, m, #[Value.ref b], below, meth, c, lw_Z below #[Value.ref b] s) code "MessageCoderLaw" 22 1573 644766 7153085 := ⟨hx, hb, hml, hown, fun w hw => st_sels hts w (List.mem_filter.mp hw).1, hK, rfl, hlocks⟩
  have hG : xGl (sP l G s) (p, e, lwR, s, m, #[Value.ref b], below, meth, c, lw_Z below #[Value.ref b] s) fo o1 o2 rt cm sm b L xs qe qq qx qc := ⟨hC, hZx, hNx, hJ, hD, hSR, hCM, hSM, ⟨sP_all hX, hbl, hL⟩, vk_R.of (hts _ lr_141) ve, he, vk_R.of (hts _ lr_163) vq, hq, vk_R.of (hts _ lr_228) vx, hqx, vk_R.of (hts _ lr_233) vc, hqc⟩
  have key := lw_start hG (fun L9 F9 z9 k9 n9 hk9 hn9 => lw_end hx hb hr hlocks L9 F9 z9 k9 n9 hk9 hn9 hC) (fun _ => none) s.heap.size
  rw [lg_entry_eq]
  exact key s.heap [] _ ⟨rfl, rfl, Nat.le_refl _, fun _ _ => rfl, fun a9 e9 h9 => by cases h9⟩ (fun q hq => by cases hq) (xl_entry [.ref b] (n := 22) (Nat.le_of_ble_eq_true rfl))

