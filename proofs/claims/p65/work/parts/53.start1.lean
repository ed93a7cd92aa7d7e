/-! the start: the worlds before the law -/
abbrev sP (l : Launch) (G : xG) (s : State) : xP := (l, G, s.heap, s.heap.size, fun U => U = s)
theorem sP_A {l : Launch} {G : xG} {s : State} : ∀ a : Nat, a < s.heap.size → ¬ xA0 (sP l G s) a := fun a ha h => Nat.not_le.mpr ha h
theorem sP_all {l : Launch} {G : xG} {s : State} {Q : State → Prop} (h : Q s) : ∀ U, (sP l G s).2.2.2.2 U → Q U := fun U hU => by
  have e : U = s := hU
  rw [e]
  exact h
theorem xv_eqR {args : Array Value} {s : State} {t u : Term} {a : Nat} (h : (Cond.eq t u).before args s = true) (hu : u.eval args s none [] s = some (.ref a)) : t.eval args s none [] s = some (.ref a) := by
  cases hv : t.eval args s none [] s with
  | none => simp [Cond.before, Cond.holds, Cond.value, hv] at h
  | some w =>
    simp only [Cond.before, Cond.holds, Cond.value, hv, hu] at h
    cases w <;> simp_all
theorem xnst_of {w : Cond} (hw : xnst w = true) {args : Array Value} {s : State} (h : w.before args s = true) : va_Nw w s := by
  unfold xnst at hw
  split at hw
  all_goals first
    | exact va_Nw.of rfl h
    | exact va_AO.of h
    | exact over_moved (Vm.Alike.refl _) h
    | (unfold va_Nw; simp only [Cond.before, Cond.holds, Cond.value, State.names, State.poolOf?, State.resolvedAt?] at h ⊢; exact h)
    | cases hw
/-- an array of arrays' class, told by the tables (as the library tells it, with less of it) -/
theorem xv_overA {args : Array Value} {s : State} {t : FieldType} (h : (Cond.arrayOver (.array t)).before args s = true) : ∃ comp c k, s.vm.classes[c]? = some k ∧ k.kind = .array comp (.array t) ∧ s.vm.findClass ("[" ++ (FieldType.array t).toString) = some c := by
  simp only [Cond.before, Cond.holds, Cond.value, beq_iff_eq, Option.bind_eq_some_iff, Option.map_eq_some_iff] at h
  obtain ⟨comp, hc, c, hf, k, hk, hb⟩ := h
  cases hkind : k.kind with
  | array component ty =>
    rw [hkind] at hb
    simp only [Bool.and_eq_true, decide_eq_true_eq] at hb
    exact ⟨component, c, k, hk, by rw [hkind, hb.1], hb.2⟩
  | _ => rw [hkind] at hb; cases hb
theorem W_room {p : Program} {l : Launch} {e : Env} {R R9 : Room} {s : State} {m : MethodId} {args : Array Value} {below : List Frame} {meth : Method} {c : Code} {H : Heap} {locs : List Loc} {cells slots : Nat} {Q : State → Prop} {g : JFrame} (h1 : R9.frames ≤ R.frames) (h2 : R9.cells ≤ R.cells) (h3 : R9.slots ≤ R.slots) (h4 : R9.locals ≤ R.locals) (k : W p l e R9 s m args below meth c H locs cells slots Q g) : W p l e R s m args below meth c H locs cells slots Q g := fun T hT X => k T hT ⟨X.admits, X.cas, X.clock, X.frames, by
  have h := X.room
  unfold State.hasRoom at h ⊢
  simp only [Bool.and_eq_true, decide_eq_true_eq] at h ⊢
  obtain ⟨⟨⟨⟨a1, a2, a3, a4, a5, a6⟩, a7⟩, a8⟩, a9⟩ := h
  exact ⟨⟨⟨⟨by omega, by omega, by omega, by omega, by omega, a6⟩, by omega⟩, by omega⟩, a9⟩, X.hears, X.method, X.code, X.here, X.tail, X.warmed, X.limits, X.bytes, X.same⟩
theorem st_K {l : Launch} {s : State} {b : Nat} (hts : ∀ w ∈ lw_tbl, w.before #[Value.ref b] s = true) : ∃ G : xG, xK (sP l G s) s := by
  have hts2 := st_sels hts
  obtain ⟨c0, i0, h0⟩ := u_known (C := xr_Bits) (T := xt_Bits) (N := 2) (n := 2) hts2 (fun w hw => (List.mem_filter.mp (kc_Bits.2.1 w hw)).1) (hts (.instantiable xr_Bits 2) (x_of (xtb_2 (List.mem_of_getElem? (i := 41) (by decide +kernel)))))
  obtain ⟨c1, i1, h1⟩ := u_known (C := xr_Code) (T := xt_Code) (N := 7) (n := 7) hts2 (fun w hw => (List.mem_filter.mp (kc_Code.2.1 w hw)).1) (hts (.instantiable xr_Code 7) (x_of (xtb_1 (List.mem_of_getElem? (i := 53) (by decide +kernel)))))
  obtain ⟨c2, i2, h2⟩ := u_known (C := xr_Frame) (T := xt_Frame) (N := 4) (n := 4) hts2 (fun w hw => (List.mem_filter.mp (kc_Frame.2.1 w hw)).1) (hts (.instantiable xr_Frame 4) (x_of (xtb_1 (List.mem_of_getElem? (i := 179) (by decide +kernel)))))
  obtain ⟨c3, i3, h3⟩ := u_known (C := xr_Message) (T := xt_Message) (N := 3) (n := 3) hts2 (fun w hw => (List.mem_filter.mp (kc_Message.2.1 w hw)).1) (hts (.instantiable xr_Message 3) (x_of (xtb_1 (List.mem_of_getElem? (i := 140) (by decide +kernel)))))
  obtain ⟨c4, i4, h4⟩ := u_known (C := xr_Program) (T := xt_Program) (N := 11) (n := 11) hts2 (fun w hw => (List.mem_filter.mp (kc_Program.2.1 w hw)).1) (hts (.instantiable xr_Program 11) (x_of (xtb_2 (List.mem_of_getElem? (i := 1) (by decide +kernel)))))
  obtain ⟨c5, i5, h5⟩ := u_known (C := xr_Queue) (T := xt_Queue) (N := 3) (n := 3) hts2 (fun w hw => (List.mem_filter.mp (kc_Queue.2.1 w hw)).1) (hts (.instantiable xr_Queue 3) (x_of (xtb_1 (List.mem_of_getElem? (i := 133) (by decide +kernel)))))
  obtain ⟨c6, i6, h6⟩ := u_known (C := xr_Ranges) (T := xt_Ranges) (N := 2) (n := 2) hts2 (fun w hw => (List.mem_filter.mp (kc_Ranges.2.1 w hw)).1) (hts (.instantiable xr_Ranges 2) (x_of (xtb_2 (List.mem_of_getElem? (i := 56) (by decide +kernel)))))
  obtain ⟨c7, i7, h7⟩ := u_known (C := xr_State) (T := xt_State) (N := 9) (n := 9) hts2 (fun w hw => (List.mem_filter.mp (kc_State.2.1 w hw)).1) (hts (.instantiable xr_State 9) (x_of (xtb_1 (List.mem_of_getElem? (i := 47) (by decide +kernel)))))
  obtain ⟨c8, i8, h8⟩ := u_known (C := xr_Text) (T := xt_Text) (N := 2) (n := 2) hts2 (fun w hw => (List.mem_filter.mp (kc_Text.2.1 w hw)).1) (hts (.instantiable xr_Text 2) (x_of (xtb_1 (List.mem_of_getElem? (i := 111) (by decide +kernel)))))
  obtain ⟨c9, i9, h9⟩ := u_known (C := xr_MessageCoder) (T := xt_MessageCoder) (N := 14) (n := 14) hts2 (fun w hw => (List.mem_filter.mp (kc_MessageCoder.2.1 w hw)).1) (hts (.instantiable xr_MessageCoder 14) (x_of (xtb_1 (List.mem_of_getElem? (i := 39) (by decide +kernel)))))
  obtain ⟨c10, i10, h10⟩ := u_known (C := xr_StringBuilder) (T := xt_StringBuilder) (N := 4) (n := 4) hts2 (fun w hw => (List.mem_filter.mp (kc_StringBuilder.2.1 w hw)).1) (hts (.instantiable xr_StringBuilder 4) (x_of (xtb_6 (List.mem_of_getElem? (i := 134) (by decide +kernel)))))
  obtain ⟨c11, i11, h11⟩ := u_known (C := xr_String) (T := xt_String) (N := 4) (n := 4) hts2 (fun w hw => (List.mem_filter.mp (kc_String.2.1 w hw)).1) (hts (.instantiable xr_String 4) (x_of (xtb_4 (List.mem_of_getElem? (i := 147) (by decide +kernel)))))
  obtain ⟨a0, k0, m0, p0, q0, r0⟩ := Cond.arrayClass_spec (hts (.arrayClass .int) (x_of (xtb_1 (List.mem_of_getElem? (i := 109) (by decide +kernel)))))
  obtain ⟨a1, k1, m1, p1, q1, r1⟩ := Cond.arrayClass_spec (hts (.arrayClass .char) (x_of (xtb_1 (List.mem_of_getElem? (i := 131) (by decide +kernel)))))
  obtain ⟨a2, k2, m2, p2, q2, r2⟩ := Cond.arrayClass_spec (hts (.arrayClass .byte) (x_of (xtb_2 (List.mem_of_getElem? (i := 192) (by decide +kernel)))))
  obtain ⟨m3, a3, k3, f3, -, q3, r3, p3⟩ := Cond.arrayOver_spec (hts (.arrayOver (.object "java/lang/String")) (x_of (xtb_7 (List.mem_of_getElem? (i := 119) (by decide +kernel)))))
  obtain ⟨m4, a4, k4, f4, -, q4, r4, p4⟩ := Cond.arrayOver_spec (hts (.arrayOver (.object "MessageCoder$State")) (x_of (xtb_1 (List.mem_of_getElem? (i := 239) (by decide +kernel)))))
  obtain ⟨m5, a5, k5, f5, -, q5, r5, p5⟩ := Cond.arrayOver_spec (hts (.arrayOver (.object "MessageCoder$Message")) (x_of (xtb_1 (List.mem_of_getElem? (i := 139) (by decide +kernel)))))
  obtain ⟨m6, a6, k6, f6, -, q6, r6, p6⟩ := Cond.arrayOver_spec (hts (.arrayOver (.object "MessageCoder$Command")) (x_of (xtb_2 (List.mem_of_getElem? (i := 9) (by decide +kernel)))))
  obtain ⟨m7, a7, k7, q7, r7, p7⟩ := xv_overA (hts (.arrayOver (.array .int)) (x_of (xtb_2 (List.mem_of_getElem? (i := 62) (by decide +kernel)))))
  refine ⟨(fun t9 => match t9 with | 0 => c0 | 1 => c1 | 2 => c2 | 3 => c3 | 4 => c4 | 5 => c5 | 6 => c6 | 7 => c7 | 8 => c8 | 9 => c9 | 10 => c10 | _ => c11, fun t9 => match t9 with | 0 => i0 | 1 => i1 | 2 => i2 | 3 => i3 | 4 => i4 | 5 => i5 | 6 => i6 | 7 => i7 | 8 => i8 | 9 => i9 | 10 => i10 | _ => i11, fun t9 => match t9 with | 0 => a0 | 1 => a1 | 2 => a2 | 3 => a3 | 4 => a4 | 5 => a5 | 6 => a6 | _ => a7), ?_, ?_, fun w hw => xnst_of (List.mem_filter.mp hw).2 (hts w (x_of (List.mem_filter.mp hw).1)), ⟨s, Vm.Alike.refl _, rfl⟩⟩
  · intro c q hq
    match c, hq with
    | 0, hq => cases hq; exact h0
    | 1, hq => cases hq; exact h1
    | 2, hq => cases hq; exact h2
    | 3, hq => cases hq; exact h3
    | 4, hq => cases hq; exact h4
    | 5, hq => cases hq; exact h5
    | 6, hq => cases hq; exact h6
    | 7, hq => cases hq; exact h7
    | 8, hq => cases hq; exact h8
    | 9, hq => cases hq; exact h9
    | 10, hq => cases hq; exact h10
    | 11, hq => cases hq; exact h11
    | c + 12, hq => simp [xcl] at hq
  · intro t ht
    match t, ht with
    | 0, _ => exact ⟨fun n z => ⟨fun y hy => (by cases hy), k0, q0, m0, r0⟩, p0⟩
    | 1, _ => exact ⟨fun n z => ⟨fun y hy => (by cases hy), k1, q1, m1, r1⟩, p1⟩
    | 2, _ => exact ⟨fun n z => ⟨fun y hy => (by cases hy), k2, q2, m2, r2⟩, p2⟩
    | 3, _ => exact ⟨fun n z => ⟨fun y hy => (by cases hy), k3, q3, m3, r3⟩, ⟨k3, m3, q3, r3, f3, p3⟩⟩
    | 4, _ => exact ⟨fun n z => ⟨fun y hy => (by cases hy), k4, q4, m4, r4⟩, ⟨k4, m4, q4, r4, f4, p4⟩⟩
    | 5, _ => exact ⟨fun n z => ⟨fun y hy => (by cases hy), k5, q5, m5, r5⟩, ⟨k5, m5, q5, r5, f5, p5⟩⟩
    | 6, _ => exact ⟨fun n z => ⟨fun y hy => (by cases hy), k6, q6, m6, r6⟩, ⟨k6, m6, q6, r6, f6, p6⟩⟩
    | 7, _ => exact ⟨fun n z => ⟨fun y hy => (by cases hy), k7, q7, m7, r7⟩, p7⟩
    | t + 8, h => exact absurd h (by omega)
theorem st_CM {l : Launch} {G : xG} {s : State} {b : Nat} (hts : ∀ w ∈ lw_tbl, w.before #[Value.ref b] s = true) (hgv : (Jvm.Cond.and given_1 narrow_1).before #[Value.ref b] s = true) : ∃ cm : cmT, xCM (sP l G s) cm := by
  have hA := sP_A (l := l) (G := G) (s := s)
  have h0 : ∀ j : Nat, ∃ q : Nat, j < 10 ∧ ¬ j = 2 → va_O "MessageCoder$Command" q (xA0 (sP l G s)) s s.heap ∧ va_OF "java/lang/Enum" "ordinal" "I" (.int (nI j)) q (xA0 (sP l G s)) s s.heap ∧ va_Z "MessageCoder$Command" (nmC j) "LMessageCoder$Command;" (.ref q) (xA0 (sP l G s)) s s.heap := by
    intro j
    by_cases hj : j < 10 ∧ ¬ j = 2
    · obtain ⟨a, c1, e1, k1, q1, -⟩ := Cond.exactly_spec (nr_at hgv (nr_c0 j hj.1 hj.2))
      exact ⟨a, fun _ => ⟨va_Oof (nr_at hgv (nr_c0 j hj.1 hj.2)) q1 hA, vk_OFof q1 (va_eqt (nr_at hgv (nr_c1 j hj.1 hj.2))) hA, va_Zof (hts _ (ls_C j hj.1 hj.2)) (hts _ li_MessageCoder_Command) q1 hA⟩⟩
    · exact ⟨0, fun h => absurd h hj⟩
  obtain ⟨ad, had⟩ := Classical.axiomOfChoice h0
  exact ⟨(0, ad, fun _ => 0, fun _ => 0, 0), trivial, trivial, fun j hj => sP_all (had j hj).1, trivial, trivial, fun j hj => sP_all (had j hj).2.1, trivial, fun j hj => sP_all (had j hj).2.2⟩
theorem st_SM {l : Launch} {G : xG} {s : State} {b : Nat} (hts : ∀ w ∈ lw_tbl, w.before #[Value.ref b] s = true) (hgv : (Jvm.Cond.and given_1 narrow_1).before #[Value.ref b] s = true) : ∃ sm : Nat, xSM (sP l G s) sm := by
  have hA := sP_A (l := l) (G := G) (s := s)
  obtain ⟨t, ht, hT⟩ := va_Tof (N := 10) (f := fun j => .int (nI (j + 1))) (A := xA0 (sP l G s)) (by decide) (nr_at hgv nr_w0) (va_eqt (nr_at hgv nr_w1)) (fun j hj => va_eqt (nr_at hgv (nr_w2 j hj))) hA
  exact ⟨t, sP_all (va_Zof (hts _ ls_w) (hts _ li_MessageCoder_1) ht hA), sP_all hT⟩
theorem st_SR {l : Launch} {G : xG} {s : State} {b : Nat} (hts : ∀ w ∈ lw_tbl, w.before #[Value.ref b] s = true) (hgv : (Jvm.Cond.and given_1 narrow_1).before #[Value.ref b] s = true) : ∃ rt : Nat, xSR (sP l G s) rt := by
  have hA := sP_A (l := l) (G := G) (s := s)
  obtain ⟨t, ht, hT⟩ := va_Tof (N := 16) (f := fun j => .int (nI (remT j))) (A := xA0 (sP l G s)) (by decide) (nr_at hgv nr_r0) (va_eqt (nr_at hgv nr_r1)) (fun j hj => va_eqt (nr_at hgv (nr_r2 j hj))) hA
  exact ⟨t, sP_all (va_Zof (hts _ ls_rm) (hts _ li_MessageCoder) ht hA), sP_all hT⟩
theorem st_Dg {l : Launch} {G : xG} {s : State} {b : Nat} (hts : ∀ w ∈ lw_tbl, w.before #[Value.ref b] s = true) (hgv : (Jvm.Cond.and given_1 narrow_1).before #[Value.ref b] s = true) : ∃ o1 o2 : Nat, xDg (sP l G s) o1 o2 := by
  have hA := sP_A (l := l) (G := G) (s := s)
  obtain ⟨t, ht, hT⟩ := va_Tof (N := 100) (f := fun j => .int (nI (48 + j % 10))) (A := xA0 (sP l G s)) (by decide) (nr_at hgv nr_g0) (va_eqt (nr_at hgv nr_g1)) (fun j hj => va_eqt (nr_at hgv (nr_g2 j hj))) hA
  obtain ⟨t2, ht2, hT2⟩ := va_Tof (N := 100) (f := fun j => .int (nI (48 + j / 10))) (A := xA0 (sP l G s)) (by decide) (nr_at hgv nr_h0) (va_eqt (nr_at hgv nr_h1)) (fun j hj => va_eqt (nr_at hgv (nr_h2 j hj))) hA
  exact ⟨t, t2, sP_all (va_Zof (hts _ ls_g) (hts _ li_java_lang_Integer) ht hA), sP_all (va_Zof (hts _ ls_h) (hts _ li_java_lang_Integer) ht2 hA), sP_all hT, sP_all hT2⟩
theorem st_Jd {l : Launch} {G : xG} {s : State} {b : Nat} (hts : ∀ w ∈ lw_tbl, w.before #[Value.ref b] s = true) (hgv : (Jvm.Cond.and given_1 narrow_1).before #[Value.ref b] s = true) : ∃ fo : Nat, xJd (sP l G s) fo := by
  have hA := sP_A (l := l) (G := G) (s := s)
  have hcs := va_Zof (A := xA0 (sP l G s)) (hts _ ls_cs) (hts _ li_java_lang_String) (va_eqi (nr_at hgv nr_cs)) hA
  rcases va_Zqof (hts _ ls_io) (hts _ li_jdk_internal_util_Preconditions) (nr_at hgv nr_io) hA with h | ⟨t, h⟩
  · exact ⟨0, sP_all hcs, sP_all h⟩
  · refine ⟨t + 1, sP_all hcs, sP_all ?_⟩
    rw [show fvS (t + 1) = .ref t from if_neg (Nat.succ_ne_zero t)]
    exact h
theorem st_So {l : Launch} {G : xG} {s : State} {b fo : Nat} (hgv : (Jvm.Cond.and given_1 narrow_1).before #[Value.ref b] s = true) (hJ : xJd (sP l G s) fo) {j : Nat} (hj : j < 4) : ∃ q : Nat, (Term.string "MessageCoderLaw" (qix.getD j 0)).eval #[Value.ref b] s none [] s = some (.ref q) ∧ xSo (sP l G s) q (qls.getD j []) := by
  have hA := sP_A (l := l) (G := G) (s := s)
  obtain ⟨h5, h6⟩ := nr_s5 j hj
  obtain ⟨a2, c2, e2, k2, q2, -⟩ := Cond.exactly_spec (nr_at hgv (nr_s0 j hj))
  obtain ⟨t, ht, hT⟩ := va_Tof (N := (qls.getD j []).length) (f := fun k => .int (nI ((qls.getD j []).getD k 0))) (A := xA0 (sP l G s)) (by omega) (nr_at hgv (nr_s2 j hj)) (va_eqt (nr_at hgv (nr_s3 j hj))) (fun k hk => va_eqt (nr_at hgv (nr_s4 j hj k hk))) hA
  exact ⟨a2, q2, t, fo, fun k => (qls.getD j []).getD k 0, ⟨sP_all (va_Oof (nr_at hgv (nr_s0 j hj)) q2 hA), sP_all (vk_OFof q2 ht hA), sP_all (vk_OFof q2 (va_eqt (nr_at hgv (nr_s1 j hj))) hA), hJ.1, sP_all hT, hJ.2, h5, h6⟩, fun _ _ => rfl⟩
theorem st_Zx {l : Launch} (hflags : l.flags = flags0) {G : xG} {s : State} {b : Nat} (hts : ∀ w ∈ lw_tbl, w.before #[Value.ref b] s = true) (hgv : (Jvm.Cond.and given_1 narrow_1).before #[Value.ref b] s = true) : xZx (sP l G s) := by
  have hA := sP_A (l := l) (G := G) (s := s)
  refine ⟨?_, sP_all (vx_Zqof (hts _ ls_t0) (hts _ li_java_lang_Throwable) (nr_at hgv nr_t0) hA), sP_all (vx_Zqof (hts _ ls_t1) (hts _ li_java_lang_Throwable) (nr_at hgv nr_t1) hA)⟩
  show l.stackTraces = false
  unfold Launch.stackTraces
  rw [hflags]
  decide +kernel
theorem st_Nx {l : Launch} {G : xG} {s : State} {b : Nat} (hgv : (Jvm.Cond.and given_1 narrow_1).before #[Value.ref b] s = true) : xNx (sP l G s) := fun U hU => by
  have e : U = s := hU
  rw [e]
  exact ⟨va_Nc.of (nr_at hgv nr_n0), va_Nc.of (nr_at hgv nr_n1), va_Nc.of (nr_at hgv nr_n2)⟩
