/-! THE CLAIM OUT OF ONE WALK OF THE LAW'S BODY. Your part is whole_start (and what it stands on); all else here is the same for every law, but numbers. -/
def R_law : String := "MessageCoderLaw"
def lw_P (b : Addr) (xs : List Int32) (args : Array Value) (s : State) : Prop := args = #[.ref b] ∧ s.IntsAt b xs ∧ xs.length ≤ 1536 ∧ (Jvm.Cond.and given_1 narrow_1).before args s = true
/-- what a walk over the start with the record d0 says of its end, said of the start itself -/
theorem lw_closed {s t : State} {o : Outcome} {d0 : Drawn} {L : List Loc} {k n : Nat} (hd0 : s.drawn.sameBut d0 lw_cs) (hv : ∃ v, o = .returned v) (hW : (s.setDrawn d0).WarmedH t.vm) (hs : (s.setDrawn d0).sameButNew ({ t with vm := s.vm } : State) L k n) : State.butDraws s t lw_cs (fun t1 => Framed s o t1 L k n) := by
  have h2 : t.drawn = d0 := congrArg State.drawn hs.1
  refine ⟨⟨hv, hW, State.sameButNew.setDrawn hs s.drawn⟩, ?_, by decide⟩
  rw [h2]
  exact hd0
def lw_Q (_ : Array Value) (s : State) (o : Outcome) (t : State) : Prop := o = .returned (some (.int 1)) ∧ State.butDraws s t lw_cs (fun t1 => Framed s o t1 [] 603072 7207018)
def lw_Z (below : List Frame) (a : Array Value) (s : State) : State → Prop := fun t => ∃ o, t.status = .running ∧ Ended t below o ∧ lw_Q a s o t
/-- the law's own end, with 1 on the stack, nothing written that was there before, its room as the claim has it; d0: the record of draws at this point (at the entry s.drawn: begin with 'refine W.base ?_' and 'have hd0 := Drawn.sameBut.refl s.drawn lw_cs') -/
theorem lw_ret {p : Program} {l : Launch} {e : Env} {s : State} {m : MethodId} {below : List Frame} {meth : Method} {c : Code} {b : Nat} {d0 : Drawn} (hd0 : s.drawn.sameBut d0 lw_cs) (hx : p.tables.exec = Jvm.exec) (hb : c.code = code) (hr : meth.sig.returnType = ret) (hlocks : meth.locks = false) {pc : Nat} {H : Heap} {ls : Array Slot} (hdg : decode code pc = .ok (.ireturn, 1)) : W p l e room_1 (s.setDrawn d0) m #[Value.ref b] below meth c H [] 603072 7207018 (lw_Z below #[Value.ref b] s) (F0 m pc ls [.int 1]) := by
  intro T hT X
  obtain ⟨fs, hret, hrun, hended, hW, hframe⟩ := X.leave (v := some (.int 1)) (hlocks := hlocks) (fun h => by rw [hr] at h; cases h)
  have hmeth' : T.vm.method? m = some meth := X.method'
  refine ⟨T.setFrames fs, ?_, .returned (some (.int 1)), hrun, hended, rfl, lw_closed hd0 ⟨_, rfl⟩ hW hframe⟩
  jvm_step X.here [X.here.top, hx, hb, hdg, hmeth', hr, ret, narrow_b1]
  (try refine ⟨rfl, ?_⟩); (try refine ⟨rfl, ?_⟩)
  first | (intro acts; rw [hret _ acts rfl rfl rfl]) | rw [hret _ _ rfl rfl rfl]
  exact Steps.refl _
/-- what holds at the law's entry: the machine, the code, the tables' words (any of lw_tbl by 'hts w (by decide +kernel)'), the script of L ints xs at the cell b, what the Statement gives of the start (any of its parts by flat_of_before) -/
def lw_At (p : Program) (s : State) (m : MethodId) (meth : Method) (c : Code) (b L : Nat) (xs : Nat → Int32) : Prop :=
  p.tables.exec = Jvm.exec ∧ c.code = code ∧ meth.sig.returnType = ret ∧ c.maxLocals = 10 ∧ s.vm.findClass R_law = some m.cls ∧ (∀ w ∈ lw_tbl, w.before #[Value.ref b] s = true) ∧ va_X b L xs s s.heap ∧ b < s.heap.size ∧ meth.locks = false ∧ (Jvm.Cond.and given_1 narrow_1).before #[Value.ref b] s = true

/-- the law's own end, at any room -/
theorem lw_retR {p : Program} {l : Launch} {e : Env} {R : Room} {s : State} {m : MethodId} {below : List Frame} {meth : Method} {c : Code} {b : Nat} {d0 : Drawn} (hd0 : s.drawn.sameBut d0 lw_cs) (hx : p.tables.exec = Jvm.exec) (hb : c.code = code) (hr : meth.sig.returnType = ret) (hlocks : meth.locks = false) {pc : Nat} {H : Heap} {ls : Array Slot} (hdg : decode code pc = .ok (.ireturn, 1)) : W p l e R (s.setDrawn d0) m #[Value.ref b] below meth c H [] 603072 7207018 (lw_Z below #[Value.ref b] s) (F0 m pc ls [.int 1]) := by
  intro T hT X
  obtain ⟨fs, hret, hrun, hended, hW, hframe⟩ := X.leave (v := some (.int 1)) (hlocks := hlocks) (fun h => by rw [hr] at h; cases h)
  have hmeth' : T.vm.method? m = some meth := X.method'
  refine ⟨T.setFrames fs, ?_, .returned (some (.int 1)), hrun, hended, rfl, lw_closed hd0 ⟨_, rfl⟩ hW hframe⟩
  jvm_step X.here [X.here.top, hx, hb, hdg, hmeth', hr, ret, narrow_b1]
  (try refine ⟨rfl, ?_⟩); (try refine ⟨rfl, ?_⟩)
  first | (intro acts; rw [hret _ acts rfl rfl rfl]) | rw [hret _ _ rfl rfl rfl]
  exact Steps.refl _
abbrev lwR : Room := { frames := 1573, cells := 603072, slots := 7207018, locals := 60 * 1573 }
theorem lw_end {p : Program} {l : Launch} {e : Env} {G : xG} {s : State} {m : MethodId} {below : List Frame} {meth : Method} {c : Code} {b : Nat} (hx : p.tables.exec = Jvm.exec) (hb : c.code = code) (hr : meth.sig.returnType = ret) (hlocks : meth.locks = false) (L : List (Option Value)) (F : xF) (z k n : Nat) (hk : k ≤ 603072) (hn : n ≤ 7207018) (hC : xC (sP l G s) (p, e, lwR, s, m, #[Value.ref b], below, meth, c, lw_Z below #[Value.ref b] s) code "MessageCoderLaw" 10 1573 603072 7207018) : xX (sP l G s) (p, e, lwR, s, m, #[Value.ref b], below, meth, c, lw_Z below #[Value.ref b] s) 2939 L [] F z k n := by
  refine x_iconst hC d_Law_law_2939 (v := 1) (by decide) ?_
  intro H locs ls hW hl hxl
  show W p l e lwR s m #[Value.ref b] below meth c H locs k n (lw_Z below #[Value.ref b] s) (F0 m 2940 ls [.int 1])
  refine va_forget (fun q hq => hl q hq) ?_
  refine W.widen hk hn ?_
  refine W.base ?_
  exact lw_retR (Drawn.sameBut.refl s.drawn lw_cs) hx hb hr hlocks d_Law_law_2940
set_option maxHeartbeats 4000000 in
set_option maxRecDepth 20000 in
theorem lw_start {P : xP} {Θ : xT} {cm : cmT} {a N b sm rt : Nat} {xs : Nat → Int32} (E : lwE P Θ cm a N b sm rt xs) (hend : ∀ (L : List (Option Value)) (F : xF) (z k n : Nat), k ≤ 603072 → n ≤ 7207018 → xX P Θ 2939 L [] F z k n) (F : xF) : xX P Θ 0 [some (.ref a), none, none, none, none, none, none, none, none, none] [] F b 0 0 := by
  have hC := E.1
  refine x_new hC (fs := [.null, .null, .null, .null, .null, .null, .null, .null, .null, .int (nI 0), .int (nI 0), .int (nI 0), .int (nI 0), .int (nI 0)]) kn_Law_8 (by decide) d_Law_law_0 ?_
  generalize e1 : xup F b (.inl (9, [.null, .null, .null, .null, .null, .null, .null, .null, .null, .int (nI 0), .int (nI 0), .int (nI 0), .int (nI 0), .int (nI 0)])) = F1
  have h0 : F1 b = some (.inl (9, [.null, .null, .null, .null, .null, .null, .null, .null, .null, .int (nI 0), .int (nI 0), .int (nI 0), .int (nI 0), .int (nI 0)])) := by rw [← e1]; exact xup_eq
  refine x_dup hC d_Law_law_3 rfl ?_
  refine x_callI hC ki_Law_153 rfl (c_MessageCoder_init (cm := cm) h0) (Nat.le_of_ble_eq_true rfl) rfl rfl rfl (Nat.le_of_ble_eq_true rfl) (by decide) d_Law_law_4 (fun r9 F2 z9 hp9 => ?_)
  obtain ⟨rfl, rfl, hM, hag⟩ := hp9
  show xX P Θ 7 _ [.ref b] F2 (b + 566) 566 4825
  refine x_astore_n hC d_Law_law_7 rfl (Nat.le_of_ble_eq_true rfl) (L1 := [some (.ref a), some (.ref b), none, none, none, none, none, none, none, none]) rfl ?_
  refine x_new hC (fs := [.int (nI 0), .null, .int (nI 0), .int (nI 0), .int (nI 0), .null, .null, .null, .null, .null, .int (nI 0), .null, .int (nI 0), .null, .null, .int (nI 0), .null, .int (nI 0), .int (nI 0), .int (nI 0), .int (nI 0), .int (nI 0), .null, .int (nI 0)]) kn_Law_154 (by decide) d_Law_law_8 ?_
  generalize e2 : xup F2 (b + 566) (.inl (10, [.int (nI 0), .null, .int (nI 0), .int (nI 0), .int (nI 0), .null, .null, .null, .null, .null, .int (nI 0), .null, .int (nI 0), .null, .null, .int (nI 0), .null, .int (nI 0), .int (nI 0), .int (nI 0), .int (nI 0), .int (nI 0), .null, .int (nI 0)])) = F3
  have h1 : F3 (b + 566) = some (.inl (10, [.int (nI 0), .null, .int (nI 0), .int (nI 0), .int (nI 0), .null, .null, .null, .null, .null, .int (nI 0), .null, .int (nI 0), .null, .null, .int (nI 0), .null, .int (nI 0), .int (nI 0), .int (nI 0), .int (nI 0), .int (nI 0), .null, .int (nI 0)])) := by rw [← e2]; exact xup_eq
  have hM : xMC F3 cm b mc0 := xMC_fr hM (fun a9 q1 q2 => by rw [← e2]; exact xup_ne (by omega))
  refine x_dup hC d_Law_law_11 rfl ?_
  refine x_callI hC ki_Law_156 rfl (c_MessageCoderModel_init h1) (Nat.le_of_ble_eq_true rfl) rfl rfl rfl (Nat.le_of_ble_eq_true rfl) (by decide) d_Law_law_12 (fun r9 F4 z9 hp9 => ?_)
  obtain ⟨rfl, rfl, hD, hag2⟩ := hp9
  have hM : xMC F4 cm b mc0 := xMC_fr hM (fun a9 q1 q2 => hag2 a9 (by omega))
  show xX P Θ 15 _ [.ref (b + 566)] F4 (b + 578) 578 10039
  refine x_astore_n hC d_Law_law_15 rfl (Nat.le_of_ble_eq_true rfl) (L1 := [some (.ref a), some (.ref b), some (.ref (b + 566)), none, none, none, none, none, none, none]) rfl ?_
  refine x_iconst hC d_Law_law_16 (v := nI 1) (by decide) ?_
  refine x_newa hC (t := 2) rfl (by decide) (by decide) (x_in (x_of (xtb_9 (List.mem_of_getElem? (i := 64) (by decide +kernel)))) (by decide +kernel)) rfl (by decide) (by decide) (by decide) (f1 := fun b9 => .long ((fun _ => 0) b9)) rfl d_Law_law_17 ?_
  generalize e3 : xup F4 (b + 578) (.inr (2, 1, fun b9 => .long ((fun _ => 0) b9))) = F5
  have ho : F5 (b + 578) = some (.inr (2, 1, fun b9 => .long ((fun _ => 0) b9))) := by rw [← e3]; exact xup_eq
  have hM : xMC F5 cm b mc0 := xMC_fr hM (fun a9 q1 q2 => by rw [← e3]; exact xup_ne (by omega))
  have hD : xMD F5 (b + 566) 0 mc0 := xMD_fr hD (fun a9 q1 q2 => by rw [← e3]; exact xup_ne (by omega))
  show xX P Θ 19 _ [.ref (b + 578)] F5 (b + 579) 579 10040
  refine x_astore_n hC d_Law_law_19 rfl (Nat.le_of_ble_eq_true rfl) (L1 := [some (.ref a), some (.ref b), some (.ref (b + 566)), some (.ref (b + 578)), none, none, none, none, none, none]) rfl ?_
  refine x_iconst hC d_Law_law_20 (v := nI 1) (by decide) ?_
  refine x_newa hC (t := 3) rfl (by decide) (by decide) (x_in (x_of (xtb_9 (List.mem_of_getElem? (i := 65) (by decide +kernel)))) (by decide +kernel)) rfl (by decide) (by decide) (by decide) (f1 := fun b9 => .double ((fun _ => 0) b9)) rfl d_Law_law_21 ?_
  generalize e4 : xup F5 (b + 579) (.inr (3, 1, fun b9 => .double ((fun _ => 0) b9))) = F6
  have hod : F6 (b + 579) = some (.inr (3, 1, fun b9 => .double ((fun _ => 0) b9))) := by rw [← e4]; exact xup_eq
  have ho : F6 (b + 578) = some (.inr (2, 1, fun b9 => .long ((fun _ => 0) b9))) := by rw [← e4]; exact (xup_ne (by omega)).trans ho
  have hM : xMC F6 cm b mc0 := xMC_fr hM (fun a9 q1 q2 => by rw [← e4]; exact xup_ne (by omega))
  have hD : xMD F6 (b + 566) 0 mc0 := xMD_fr hD (fun a9 q1 q2 => by rw [← e4]; exact xup_ne (by omega))
  show xX P Θ 23 _ [.ref (b + 579)] F6 (b + 580) 580 10041
  refine x_astore hC d_Law_law_23 (Nat.le_of_ble_eq_true rfl) (L1 := [some (.ref a), some (.ref b), some (.ref (b + 566)), some (.ref (b + 578)), some (.ref (b + 579)), none, none, none, none, none]) rfl ?_
  refine x_iconst hC d_Law_law_25 (v := nI (3 * 0)) (by decide) ?_
  refine x_istore hC d_Law_law_26 (Nat.le_of_ble_eq_true rfl) (L1 := [some (.ref a), some (.ref b), some (.ref (b + 566)), some (.ref (b + 578)), some (.ref (b + 579)), some (.int (nI (3 * 0))), none, none, none, none]) rfl ?_
  exact lw_loop E hend (N + 4) 0 F6 _ _ _ 0 mc0 _ _ hM hD ho hod lwJ_0 (by omega) (by omega) (by omega) (by omega)

set_option maxHeartbeats 4000000 in
theorem whole_start {p : Program} {e : Env} {s : State} {m : MethodId} {below : List Frame} {meth : Method} {c : Code} (l : Launch) (hflags : l.flags = flags0) {b L : Nat} {xs : Nat → Int32} (hL : L ≤ 1536) (C0 : lw_At p s m meth c b L xs) : W p l e room_1 s m #[Value.ref b] below meth c s.heap [] 0 0 (lw_Z below #[Value.ref b] s) (entryFrame m ([Value.ref b] : List Value).toArray 10) := by
  obtain ⟨hx, hb, hr, hml, hown, hts, hX, hbl, hlocks, hgv⟩ := id C0
  obtain ⟨G, hK⟩ := st_K (l := l) hts
  obtain ⟨cm, hCM⟩ := st_CM (l := l) (G := G) hts hgv
  obtain ⟨sm, hSM⟩ := st_SM (l := l) (G := G) hts hgv
  obtain ⟨rt, hSR⟩ := st_SR (l := l) (G := G) hts hgv
  have hZx := st_Zx hflags (G := G) hts hgv
  have hNx := st_Nx (l := l) (G := G) hgv
  refine W_room (R9 := lwR) (Nat.le_of_ble_eq_true rfl) (Nat.le_of_ble_eq_true rfl) (Nat.le_of_ble_eq_true rfl) (Nat.le_of_ble_eq_true rfl) ?_
  have hC : xC (sP l G s) (p, e, lwR, s, m, #[Value.ref b], below, meth, c, lw_Z below #[Value.ref b] s) code "MessageCoderLaw" 10 1573 603072 7207018 := ⟨hx, hb, hml, hown, fun w hw => hts w (List.mem_filter.mp hw).1, hK, rfl, hlocks⟩
  have hE : lwE (sP l G s) (p, e, lwR, s, m, #[Value.ref b], below, meth, c, lw_Z below #[Value.ref b] s) cm b L s.heap.size sm rt xs := ⟨hC, hX, hbl, hL, hCM, hSM, hSR, hZx, hNx⟩
  have key := lw_start hE (fun L9 F9 z9 k9 n9 hk9 hn9 => lw_end hx hb hr hlocks L9 F9 z9 k9 n9 hk9 hn9 hC) (fun _ => none)
  rw [lg_entry_eq]
  exact key s.heap [] _ ⟨rfl, rfl, Nat.le_refl _, fun _ _ => rfl, fun a9 e9 h9 => by cases h9⟩ (fun q hq => by cases hq) (xl_entry [.ref b] (n := 10) (Nat.le_of_ble_eq_true rfl))

