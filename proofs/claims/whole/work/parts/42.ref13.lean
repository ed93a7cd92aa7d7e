/-! the reference: its reading of signs -/
def eI (e : Nat) : Int32 := if e = 0 then -1 else nI (e - 1)
def sgI (n : Nat) (s : Nat → Nat) (a : Nat) : Int32 := if a < n then nI (s a) else -1
theorem eI_0 : eI 0 = -1 := rfl
theorem eI_s (h : Nat) : eI (h + 1) = nI h := rfl
theorem eI_lt {e : Nat} (h : e < 1000) : eI e < 0 ↔ e = 0 := by
  unfold eI
  by_cases c : e = 0
  · rw [if_pos c]
    exact ⟨fun _ => c, fun _ => by decide⟩
  · rw [if_neg c]
    exact ⟨fun q => absurd q (nI_pos (by omega)), fun q => absurd q c⟩
theorem sgI_of {n : Nat} {s : Nat → Nat} {a : Nat} (h : a < n) : sgI n s a = nI (s a) := if_pos h
/-- one sign that must come: place, and the place of the first error behind one -/
def nd (n : Nat) (s : Nat → Nat) (c : Nat) (q : Nat × Nat) : Nat × Nat := if q.2 = 0 then if q.1 < n ∧ s q.1 = c then (q.1 + 1, 0) else (q.1, q.1 + 1) else q
def bh (n : Nat) (s : Nat → Nat) (c m : Nat) (q : Nat × Nat) : (Nat × Nat) × Nat := if (nd n s c q).2 = 0 then if 0 < (pDg n s (nd n s c q).1 m).1 then (((nd n s c q).1 + (pDg n s (nd n s c q).1 m).1, 0), (pDg n s (nd n s c q).1 m).2) else (((nd n s c q).1, (nd n s c q).1 + 1), 0) else (nd n s c q, 0)
def syQ (n : Nat) (s : Nat → Nat) (q : Nat × Nat) : (Nat × Nat) × Nat := if q.2 = 0 then if q.1 < n ∧ isSy (s q.1) then ((q.1 + 1, 0), s q.1) else ((q.1, q.1 + 1), 0) else (q, 0)
def qB (n : Nat) (q : Nat × Nat) : Prop := q.1 ≤ n ∧ q.2 ≤ n + 1
theorem nd_B {n : Nat} {s : Nat → Nat} {c : Nat} {q : Nat × Nat} (h : qB n q) : qB n (nd n s c q) := by
  obtain ⟨h1, h2⟩ := h
  unfold nd
  split
  · split
    · rename_i h3
      exact ⟨h3.1, Nat.zero_le _⟩
    · exact ⟨h1, by show q.1 + 1 ≤ n + 1; omega⟩
  · exact ⟨h1, h2⟩
theorem bh_B {n : Nat} {s : Nat → Nat} {c m : Nat} {q : Nat × Nat} (h : qB n q) (hm : m ≤ 3) : qB n (bh n s c m q).1 ∧ (bh n s c m q).2 < 1000 := by
  have h1 := nd_B (s := s) (c := c) h
  have h2 := pDg_le (s := s) h1.1 m
  have h3 : 10 ^ m ≤ 10 ^ 3 := Nat.pow_le_pow_right (by decide) hm
  unfold bh
  split
  · split
    · exact ⟨⟨h2.2.1, Nat.zero_le _⟩, by show (pDg _ _ _ _).2 < 1000; omega⟩
    · exact ⟨⟨h1.1, by have := h1.1; show _ + 1 ≤ n + 1; omega⟩, by show 0 < 1000; omega⟩
  · exact ⟨h1, by show 0 < 1000; omega⟩
theorem syQ_B {n : Nat} {s : Nat → Nat} {q : Nat × Nat} (h : qB n q) : qB n (syQ n s q).1 ∧ (syQ n s q).2 < 105 := by
  unfold syQ
  split
  · split
    · rename_i h3
      exact ⟨⟨h3.1, Nat.zero_le _⟩, h3.2.2⟩
    · exact ⟨⟨h.1, by have := h.1; show q.1 + 1 ≤ n + 1; omega⟩, by show 0 < 105; omega⟩
  · exact ⟨h, by show 0 < 105; omega⟩
theorem sg_in {n : Nat} {s : Nat → Nat} {a x y : Nat} (hs : ∀ j, j < n → s j < 65536) (hx : x < 65536) (hy : y < 65536) : (nI x ≤ sgI n s a ∧ sgI n s a ≤ nI y) ↔ (a < n ∧ x ≤ s a ∧ s a ≤ y) := by
  unfold sgI
  by_cases c : a < n
  · rw [if_pos c]
    have := hs a c
    rw [nI_leI (by omega) (by omega), nI_leI (by omega) (by omega)]
    exact ⟨fun h => ⟨c, h⟩, fun h => h.2⟩
  · rw [if_neg c]
    refine ⟨fun h => absurd h.1 ?_, fun h => absurd h.1 c⟩
    rw [Int32.not_le]
    exact Int32.lt_of_lt_of_le (show (-1 : Int32) < 0 by decide) (Int32.not_lt.mp (nI_pos (by omega)))
theorem sg_eq {n : Nat} {s : Nat → Nat} {a c : Nat} (hs : ∀ j, j < n → s j < 65536) (hc : c < 65536) : sgI n s a = nI c ↔ (a < n ∧ s a = c) := by
  unfold sgI
  by_cases h : a < n
  · rw [if_pos h]
    have := hs a h
    exact ⟨fun e => ⟨h, nI_inj (by omega) (by omega) e⟩, fun e => congrArg nI e.2⟩
  · rw [if_neg h]
    refine ⟨fun e => ?_, fun e => absurd e.1 h⟩
    have h1 : ¬ nI c < 0 := nI_pos (by omega)
    rw [← e] at h1
    exact absurd (by decide) h1
theorem dg_N {n : Nat} {s : Nat → Nat} {a : Nat} : isDg (sgN n s a) ↔ (a < n ∧ 48 ≤ s a ∧ s a ≤ 57) := by
  unfold sgN isDg
  by_cases c : a < n
  · rw [if_pos c]
    exact ⟨fun h => ⟨c, h⟩, fun h => h.2⟩
  · rw [if_neg c]
    exact ⟨fun h => by omega, fun h => absurd h.1 c⟩
theorem sy_N {n : Nat} {s : Nat → Nat} {a : Nat} : isSy (sgN n s a) ↔ (a < n ∧ isSy (s a)) := by
  unfold sgN
  by_cases c : a < n
  · rw [if_pos c]
    exact ⟨fun h => ⟨c, h⟩, fun h => h.2⟩
  · rw [if_neg c]
    exact ⟨fun h => by have : 97 ≤ 0 := h.1; omega, fun h => absurd h.1 c⟩
theorem pDg_hit {n : Nat} {s : Nat → Nat} {a i v : Nat} (h : pDg n s a i = (i, v)) (hd : a + i < n ∧ 48 ≤ s (a + i) ∧ s (a + i) ≤ 57) : pDg n s a (i + 1) = (i + 1, 10 * v + s (a + i) - 48) := by
  have h1 : sgN n s (a + i) = s (a + i) := if_pos hd.1
  show (if (pDg n s a i).1 = i ∧ isDg (sgN n s (a + i)) then ((i + 1, (pDg n s a i).2 * 10 + (sgN n s (a + i) - 48)) : Nat × Nat) else pDg n s a i) = _
  rw [h, if_pos ⟨rfl, dg_N.mpr hd⟩, h1]
  show (i + 1, v * 10 + (s (a + i) - 48)) = (i + 1, 10 * v + s (a + i) - 48)
  rw [show v * 10 + (s (a + i) - 48) = 10 * v + s (a + i) - 48 by omega]
theorem pDg_no {n : Nat} {s : Nat → Nat} {a i v : Nat} (h : pDg n s a i = (i, v)) (hd : ¬ (a + i < n ∧ 48 ≤ s (a + i) ∧ s (a + i) ≤ 57)) {m : Nat} (hm : i ≤ m) : pDg n s a m = (i, v) := by
  have h1 := pDg_stop (n := n) (s := s) (a := a) (k := i) (fun q => hd (dg_N.mp q)) (by rw [h]) (m - i)
  rw [show i + (m - i) = m by omega, h] at h1
  exact h1

theorem d_MessageCoderModel_sign_0 : decode prog_14_method_106_code 0 = .ok (.aload_n 0, 1) := by decide +kernel
theorem d_MessageCoderModel_sign_1 : decode prog_14_method_106_code 1 = .ok (.getfield 239, 3) := by decide +kernel
theorem d_MessageCoderModel_sign_4 : decode prog_14_method_106_code 4 = .ok (.aload_n 0, 1) := by decide +kernel
theorem d_MessageCoderModel_sign_5 : decode prog_14_method_106_code 5 = .ok (.getfield 236, 3) := by decide +kernel
theorem d_MessageCoderModel_sign_8 : decode prog_14_method_106_code 8 = .ok (.if_icmp .ge 15, 3) := by decide +kernel
theorem d_MessageCoderModel_sign_11 : decode prog_14_method_106_code 11 = .ok (.aload_n 0, 1) := by decide +kernel
theorem d_MessageCoderModel_sign_12 : decode prog_14_method_106_code 12 = .ok (.getfield 38, 3) := by decide +kernel
theorem d_MessageCoderModel_sign_15 : decode prog_14_method_106_code 15 = .ok (.aload_n 0, 1) := by decide +kernel
theorem d_MessageCoderModel_sign_16 : decode prog_14_method_106_code 16 = .ok (.getfield 239, 3) := by decide +kernel
theorem d_MessageCoderModel_sign_19 : decode prog_14_method_106_code 19 = .ok (.caload, 1) := by decide +kernel
theorem d_MessageCoderModel_sign_20 : decode prog_14_method_106_code 20 = .ok (.goto 4, 3) := by decide +kernel
theorem d_MessageCoderModel_sign_23 : decode prog_14_method_106_code 23 = .ok (.iconst (-1), 1) := by decide +kernel
theorem d_MessageCoderModel_sign_24 : decode prog_14_method_106_code 24 = .ok (.ireturn, 1) := by decide +kernel
set_option maxHeartbeats 4000000 in
set_option maxRecDepth 20000 in
theorem c_MessageCoderModel_sign {P : xP} {F : xF} {z : Nat} {m : Nat} {th : Nat} {ch : Nat} {sv : Nat} {rs : Int32} {bm : Nat} {dm : Nat} {lz : Nat} {ty : Nat} {ea : Int32} {fa : Int32} {cn : Nat} {ip : Nat → Nat} {h : Nat} {e : Nat} (o0 : F (m) = some (.inl (10, [.int (nI (th)), .ref (m + 1), .int (nI (ch)), .int (nI (sv)), .int rs, .ref (m + 2), .ref (m + 3), .ref (m + 4), .ref (m + 5), .ref (m + 6), .int (nI (bm)), .ref (m + 7), .int (nI (dm)), .ref (m + 8), .ref (m + 9), .int (nI (lz)), .ref (m + 10), .int (nI (ty)), .int (nI (h)), .int (eI (e)), .int ea, .int fa, .ref (m + 11), .int (nI (cn))]))) (hi : F (m + 10) = some (.inr (1, 60, fun b9 => .int (nI (ip b9))))) (hs : ∀ j, j < ty → ip j < 65536) (hty : ty ≤ 60) (hq : qB ty (h, e)) : xM P xy_MessageCoderModel_sign [.ref m] F (z) 0 0 (fun r9 F9 z9 => r9 = some (.int (sgI ty ip h)) ∧ F9 = F ∧ z9 = z) := by
  refine xM_i .int rfl (Nat.le_of_ble_eq_true rfl) (L0 := [some (.ref m)]) rfl rfl fun Θ hC hret => ?_
  have hq1 : h ≤ ty := hq.1
  have hq2 : e ≤ ty + 1 := hq.2
  refine x_aload_n hC d_MessageCoderModel_sign_0 rfl rfl ?_
  refine x_getf hC kf_MessageCoderModel_239 o0 rfl d_MessageCoderModel_sign_1 ?_
  refine x_aload_n hC d_MessageCoderModel_sign_4 rfl rfl ?_
  refine x_getf hC kf_MessageCoderModel_236 o0 rfl d_MessageCoderModel_sign_5 ?_
  refine x_icmpN_ge hC d_MessageCoderModel_sign_8 (tgt := 23) (by decide) (by omega) (by omega) (fun c_8 => ?_) (fun c_8 => ?_)
  · skip
    refine x_iconst hC d_MessageCoderModel_sign_23 (v := -1) (by decide) ?_
    exact hret _ _ _ _ _ _ _ d_MessageCoderModel_sign_24 (by decide) (by decide) rfl (⟨congrArg (fun q => some (Value.int q)) ((if_neg (by omega)).symm), rfl, rfl⟩)
  · skip
    refine x_aload_n hC d_MessageCoderModel_sign_11 rfl rfl ?_
    refine x_getf hC kf_MessageCoderModel_38 o0 rfl d_MessageCoderModel_sign_12 ?_
    refine x_aload_n hC d_MessageCoderModel_sign_15 rfl rfl ?_
    refine x_getf hC kf_MessageCoderModel_239 o0 rfl d_MessageCoderModel_sign_16 ?_
    refine x_cald hC hi (j := h) ⟨rfl, by omega, by omega⟩ (x := nI (ip (h))) rfl d_MessageCoderModel_sign_19 ?_
    refine x_goto hC d_MessageCoderModel_sign_20 (tgt := 24) (by decide) ?_
    exact hret _ _ _ _ _ _ _ d_MessageCoderModel_sign_24 (by decide) (by decide) rfl (⟨congrArg (fun q => some (Value.int q)) ((if_pos (by omega)).symm), rfl, rfl⟩)

theorem d_MessageCoderModel_needs_0 : decode prog_14_method_107_code 0 = .ok (.aload_n 0, 1) := by decide +kernel
theorem d_MessageCoderModel_needs_1 : decode prog_14_method_107_code 1 = .ok (.getfield 242, 3) := by decide +kernel
theorem d_MessageCoderModel_needs_4 : decode prog_14_method_107_code 4 = .ok (.ifCond .lt 4, 3) := by decide +kernel
theorem d_MessageCoderModel_needs_7 : decode prog_14_method_107_code 7 = .ok (.return_, 1) := by decide +kernel
theorem d_MessageCoderModel_needs_8 : decode prog_14_method_107_code 8 = .ok (.aload_n 0, 1) := by decide +kernel
theorem d_MessageCoderModel_needs_9 : decode prog_14_method_107_code 9 = .ok (.invokevirtual 245, 3) := by decide +kernel
theorem d_MessageCoderModel_needs_12 : decode prog_14_method_107_code 12 = .ok (.iload_n 1, 1) := by decide +kernel
theorem d_MessageCoderModel_needs_13 : decode prog_14_method_107_code 13 = .ok (.if_icmp .eq 12, 3) := by decide +kernel
theorem d_MessageCoderModel_needs_16 : decode prog_14_method_107_code 16 = .ok (.aload_n 0, 1) := by decide +kernel
theorem d_MessageCoderModel_needs_17 : decode prog_14_method_107_code 17 = .ok (.aload_n 0, 1) := by decide +kernel
theorem d_MessageCoderModel_needs_18 : decode prog_14_method_107_code 18 = .ok (.getfield 239, 3) := by decide +kernel
theorem d_MessageCoderModel_needs_21 : decode prog_14_method_107_code 21 = .ok (.putfield 242, 3) := by decide +kernel
theorem d_MessageCoderModel_needs_24 : decode prog_14_method_107_code 24 = .ok (.return_, 1) := by decide +kernel
theorem d_MessageCoderModel_needs_25 : decode prog_14_method_107_code 25 = .ok (.aload_n 0, 1) := by decide +kernel
theorem d_MessageCoderModel_needs_26 : decode prog_14_method_107_code 26 = .ok (.dup, 1) := by decide +kernel
theorem d_MessageCoderModel_needs_27 : decode prog_14_method_107_code 27 = .ok (.getfield 239, 3) := by decide +kernel
theorem d_MessageCoderModel_needs_30 : decode prog_14_method_107_code 30 = .ok (.iconst 1, 1) := by decide +kernel
theorem d_MessageCoderModel_needs_31 : decode prog_14_method_107_code 31 = .ok (.iadd, 1) := by decide +kernel
theorem d_MessageCoderModel_needs_32 : decode prog_14_method_107_code 32 = .ok (.putfield 239, 3) := by decide +kernel
theorem d_MessageCoderModel_needs_35 : decode prog_14_method_107_code 35 = .ok (.return_, 1) := by decide +kernel
set_option maxHeartbeats 4000000 in
set_option maxRecDepth 20000 in
theorem c_MessageCoderModel_needs {P : xP} {F : xF} {z : Nat} {m : Nat} {th : Nat} {ch : Nat} {sv : Nat} {rs : Int32} {bm : Nat} {dm : Nat} {lz : Nat} {ty : Nat} {ea : Int32} {fa : Int32} {cn : Nat} {ip : Nat → Nat} {h : Nat} {e : Nat} {c : Nat} (o0 : F (m) = some (.inl (10, [.int (nI (th)), .ref (m + 1), .int (nI (ch)), .int (nI (sv)), .int rs, .ref (m + 2), .ref (m + 3), .ref (m + 4), .ref (m + 5), .ref (m + 6), .int (nI (bm)), .ref (m + 7), .int (nI (dm)), .ref (m + 8), .ref (m + 9), .int (nI (lz)), .ref (m + 10), .int (nI (ty)), .int (nI (h)), .int (eI (e)), .int ea, .int fa, .ref (m + 11), .int (nI (cn))]))) (hi : F (m + 10) = some (.inr (1, 60, fun b9 => .int (nI (ip b9))))) (hs : ∀ j, j < ty → ip j < 65536) (hty : ty ≤ 60) (hq : qB ty (h, e)) (hc : c < 65536) : xM P xy_MessageCoderModel_needs [.ref m, .int (nI (c))] F (z) 0 0 (fun r9 F9 z9 => ∃ h1 : Nat, ∃ e1 : Nat, r9 = none ∧ z9 = z ∧ F9 (m) = some (.inl (10, [.int (nI (th)), .ref (m + 1), .int (nI (ch)), .int (nI (sv)), .int rs, .ref (m + 2), .ref (m + 3), .ref (m + 4), .ref (m + 5), .ref (m + 6), .int (nI (bm)), .ref (m + 7), .int (nI (dm)), .ref (m + 8), .ref (m + 9), .int (nI (lz)), .ref (m + 10), .int (nI (ty)), .int (nI (h1)), .int (eI (e1)), .int ea, .int fa, .ref (m + 11), .int (nI (cn))])) ∧ F9 (m + 10) = some (.inr (1, 60, fun b9 => .int (nI (ip b9)))) ∧ (nd ty ip c (h, e) = (h1, e1)) ∧ (∀ a9 : Nat, (a9 < m ∨ m + 1 ≤ a9) → F9 a9 = F a9)) := by
  refine xM_v rfl (Nat.le_of_ble_eq_true rfl) (L0 := [some (.ref m), some (.int (nI (c)))]) rfl rfl fun Θ hC hin hret => ?_
  have hag : ∀ a9 : Nat, (a9 < m ∨ m + 1 ≤ a9) → F a9 = F a9 := fun a9 _ => rfl
  have hq1 : h ≤ ty := hq.1
  have hq2 : e ≤ ty + 1 := hq.2
  refine x_aload_n hC d_MessageCoderModel_needs_0 rfl rfl ?_
  refine x_getf hC kf_MessageCoderModel_242 o0 rfl d_MessageCoderModel_needs_1 ?_
  refine x_if_lt hC d_MessageCoderModel_needs_4 (tgt := 8) (by decide) (fun c_4 => ?_) (fun c_4 => ?_)
  · skip
    have he0 : e = 0 := (eI_lt (by omega)).mp c_4
    refine x_aload_n hC d_MessageCoderModel_needs_8 rfl rfl ?_
    refine x_callV hC kv_MessageCoderModel_245 (c_MessageCoderModel_sign (o0 := o0) (hi := hi) (hs := hs) (hty := hty) (hq := hq)) o0 rfl rfl (by decide) rfl rfl rfl (Nat.le_of_ble_eq_true rfl) (by decide) d_MessageCoderModel_needs_9 (fun r9 F9 z9 hp9 => ?_)
    obtain ⟨rfl, h9b, h9c⟩ := hp9
    rw [h9b, h9c]
    clear h9b h9c F9 z9
    refine x_iload_n hC d_MessageCoderModel_needs_12 rfl rfl ?_
    refine x_icmp_eq hC d_MessageCoderModel_needs_13 (tgt := 25) (by decide) (fun c_13 => ?_) (fun c_13 => ?_)
    · skip
      refine x_aload_n hC d_MessageCoderModel_needs_25 rfl rfl ?_
      refine x_dup hC d_MessageCoderModel_needs_26 rfl ?_
      refine x_getf hC kf_MessageCoderModel_239 o0 rfl d_MessageCoderModel_needs_27 ?_
      refine x_iconst hC d_MessageCoderModel_needs_30 (v := nI 1) (by decide) ?_
      refine x_iadd hC d_MessageCoderModel_needs_31 (v := (nI (h + 1))) (x_addN (by omega)) ?_
      refine x_putf hC kf_MessageCoderModel_239 o0 (Nat.le_of_ble_eq_true rfl) rfl rfl d_MessageCoderModel_needs_32 (fs1 := [.int (nI (th)), .ref (m + 1), .int (nI (ch)), .int (nI (sv)), .int rs, .ref (m + 2), .ref (m + 3), .ref (m + 4), .ref (m + 5), .ref (m + 6), .int (nI (bm)), .ref (m + 7), .int (nI (dm)), .ref (m + 8), .ref (m + 9), .int (nI (lz)), .ref (m + 10), .int (nI (ty)), .int (nI (h + 1)), .int (eI (e)), .int ea, .int fa, .ref (m + 11), .int (nI (cn))]) rfl ?_
      generalize e1 : xup F (m) (.inl (10, [.int (nI (th)), .ref (m + 1), .int (nI (ch)), .int (nI (sv)), .int rs, .ref (m + 2), .ref (m + 3), .ref (m + 4), .ref (m + 5), .ref (m + 6), .int (nI (bm)), .ref (m + 7), .int (nI (dm)), .ref (m + 8), .ref (m + 9), .int (nI (lz)), .ref (m + 10), .int (nI (ty)), .int (nI (h + 1)), .int (eI (e)), .int ea, .int fa, .ref (m + 11), .int (nI (cn))])) = F1
      have o0 : F1 (m) = some (.inl (10, [.int (nI (th)), .ref (m + 1), .int (nI (ch)), .int (nI (sv)), .int rs, .ref (m + 2), .ref (m + 3), .ref (m + 4), .ref (m + 5), .ref (m + 6), .int (nI (bm)), .ref (m + 7), .int (nI (dm)), .ref (m + 8), .ref (m + 9), .int (nI (lz)), .ref (m + 10), .int (nI (ty)), .int (nI (h + 1)), .int (eI (e)), .int ea, .int fa, .ref (m + 11), .int (nI (cn))])) := by rw [← e1]; exact xup_eq
      have hi : F1 (m + 10) = some (.inr (1, 60, fun b9 => .int (nI (ip b9)))) := by rw [← e1]; exact (xup_ne (by omega)).trans hi
      have hag : ∀ a9 : Nat, (a9 < m ∨ m + 1 ≤ a9) → F1 a9 = F a9 := fun a9 q0 => by rw [← e1]; exact (xup_ne (by omega)).trans (hag a9 q0)
      exact hret _ _ _ _ _ _ d_MessageCoderModel_needs_35 (by decide) (by decide) (⟨h + 1, 0, rfl, rfl, by rw [he0] at o0; exact o0, hi, (if_pos he0).trans (if_pos ((sg_eq hs (by omega)).mp c_13)), hag⟩)
    · skip
      refine x_aload_n hC d_MessageCoderModel_needs_16 rfl rfl ?_
      refine x_aload_n hC d_MessageCoderModel_needs_17 rfl rfl ?_
      refine x_getf hC kf_MessageCoderModel_239 o0 rfl d_MessageCoderModel_needs_18 ?_
      refine x_putf hC kf_MessageCoderModel_242 o0 (Nat.le_of_ble_eq_true rfl) rfl rfl d_MessageCoderModel_needs_21 (fs1 := [.int (nI (th)), .ref (m + 1), .int (nI (ch)), .int (nI (sv)), .int rs, .ref (m + 2), .ref (m + 3), .ref (m + 4), .ref (m + 5), .ref (m + 6), .int (nI (bm)), .ref (m + 7), .int (nI (dm)), .ref (m + 8), .ref (m + 9), .int (nI (lz)), .ref (m + 10), .int (nI (ty)), .int (nI (h)), .int (nI (h)), .int ea, .int fa, .ref (m + 11), .int (nI (cn))]) rfl ?_
      generalize e2 : xup F (m) (.inl (10, [.int (nI (th)), .ref (m + 1), .int (nI (ch)), .int (nI (sv)), .int rs, .ref (m + 2), .ref (m + 3), .ref (m + 4), .ref (m + 5), .ref (m + 6), .int (nI (bm)), .ref (m + 7), .int (nI (dm)), .ref (m + 8), .ref (m + 9), .int (nI (lz)), .ref (m + 10), .int (nI (ty)), .int (nI (h)), .int (nI (h)), .int ea, .int fa, .ref (m + 11), .int (nI (cn))])) = F2
      have o0 : F2 (m) = some (.inl (10, [.int (nI (th)), .ref (m + 1), .int (nI (ch)), .int (nI (sv)), .int rs, .ref (m + 2), .ref (m + 3), .ref (m + 4), .ref (m + 5), .ref (m + 6), .int (nI (bm)), .ref (m + 7), .int (nI (dm)), .ref (m + 8), .ref (m + 9), .int (nI (lz)), .ref (m + 10), .int (nI (ty)), .int (nI (h)), .int (nI (h)), .int ea, .int fa, .ref (m + 11), .int (nI (cn))])) := by rw [← e2]; exact xup_eq
      have hi : F2 (m + 10) = some (.inr (1, 60, fun b9 => .int (nI (ip b9)))) := by rw [← e2]; exact (xup_ne (by omega)).trans hi
      have hag : ∀ a9 : Nat, (a9 < m ∨ m + 1 ≤ a9) → F2 a9 = F a9 := fun a9 q0 => by rw [← e2]; exact (xup_ne (by omega)).trans (hag a9 q0)
      exact hret _ _ _ _ _ _ d_MessageCoderModel_needs_24 (by decide) (by decide) (⟨h, h + 1, rfl, rfl, o0, hi, (if_pos he0).trans (if_neg (fun h9 => c_13 ((sg_eq hs (by omega)).mpr h9))), hag⟩)
  · skip
    exact hret _ _ _ _ _ _ d_MessageCoderModel_needs_7 (by decide) (by decide) (⟨h, e, rfl, rfl, o0, hi, if_neg (show ¬ e = 0 from fun h9 => c_4 ((eI_lt (by omega)).mpr h9)), hag⟩)

theorem d_MessageCoderModel_letters_0 : decode prog_14_method_108_code 0 = .ok (.aload_n 0, 1) := by decide +kernel
theorem d_MessageCoderModel_letters_1 : decode prog_14_method_108_code 1 = .ok (.iload_n 1, 1) := by decide +kernel
theorem d_MessageCoderModel_letters_2 : decode prog_14_method_108_code 2 = .ok (.invokevirtual 248, 3) := by decide +kernel
theorem d_MessageCoderModel_letters_5 : decode prog_14_method_108_code 5 = .ok (.aload_n 0, 1) := by decide +kernel
theorem d_MessageCoderModel_letters_6 : decode prog_14_method_108_code 6 = .ok (.iload_n 2, 1) := by decide +kernel
theorem d_MessageCoderModel_letters_7 : decode prog_14_method_108_code 7 = .ok (.invokevirtual 248, 3) := by decide +kernel
theorem d_MessageCoderModel_letters_10 : decode prog_14_method_108_code 10 = .ok (.aload_n 0, 1) := by decide +kernel
theorem d_MessageCoderModel_letters_11 : decode prog_14_method_108_code 11 = .ok (.iload_n 3, 1) := by decide +kernel
theorem d_MessageCoderModel_letters_12 : decode prog_14_method_108_code 12 = .ok (.invokevirtual 248, 3) := by decide +kernel
theorem d_MessageCoderModel_letters_15 : decode prog_14_method_108_code 15 = .ok (.return_, 1) := by decide +kernel
set_option maxHeartbeats 4000000 in
set_option maxRecDepth 20000 in
theorem c_MessageCoderModel_letters {P : xP} {F : xF} {z : Nat} {m : Nat} {th : Nat} {ch : Nat} {sv : Nat} {rs : Int32} {bm : Nat} {dm : Nat} {lz : Nat} {ty : Nat} {ea : Int32} {fa : Int32} {cn : Nat} {ip : Nat → Nat} {h : Nat} {e : Nat} {c1 : Nat} {c2 : Nat} {c3 : Nat} (o0 : F (m) = some (.inl (10, [.int (nI (th)), .ref (m + 1), .int (nI (ch)), .int (nI (sv)), .int rs, .ref (m + 2), .ref (m + 3), .ref (m + 4), .ref (m + 5), .ref (m + 6), .int (nI (bm)), .ref (m + 7), .int (nI (dm)), .ref (m + 8), .ref (m + 9), .int (nI (lz)), .ref (m + 10), .int (nI (ty)), .int (nI (h)), .int (eI (e)), .int ea, .int fa, .ref (m + 11), .int (nI (cn))]))) (hi : F (m + 10) = some (.inr (1, 60, fun b9 => .int (nI (ip b9))))) (hs : ∀ j, j < ty → ip j < 65536) (hty : ty ≤ 60) (hq : qB ty (h, e)) (h1c : c1 < 65536) (h2c : c2 < 65536) (h3c : c3 < 65536) : xM P xy_MessageCoderModel_letters [.ref m, .int (nI (c1)), .int (nI (c2)), .int (nI (c3))] F (z) 0 0 (fun r9 F9 z9 => ∃ h1 : Nat, ∃ e1 : Nat, r9 = none ∧ z9 = z ∧ F9 (m) = some (.inl (10, [.int (nI (th)), .ref (m + 1), .int (nI (ch)), .int (nI (sv)), .int rs, .ref (m + 2), .ref (m + 3), .ref (m + 4), .ref (m + 5), .ref (m + 6), .int (nI (bm)), .ref (m + 7), .int (nI (dm)), .ref (m + 8), .ref (m + 9), .int (nI (lz)), .ref (m + 10), .int (nI (ty)), .int (nI (h1)), .int (eI (e1)), .int ea, .int fa, .ref (m + 11), .int (nI (cn))])) ∧ F9 (m + 10) = some (.inr (1, 60, fun b9 => .int (nI (ip b9)))) ∧ (nd ty ip c3 (nd ty ip c2 (nd ty ip c1 (h, e))) = (h1, e1)) ∧ (∀ a9 : Nat, (a9 < m ∨ m + 1 ≤ a9) → F9 a9 = F a9)) := by
  refine xM_v rfl (Nat.le_of_ble_eq_true rfl) (L0 := [some (.ref m), some (.int (nI (c1))), some (.int (nI (c2))), some (.int (nI (c3)))]) rfl rfl fun Θ hC hin hret => ?_
  have hag : ∀ a9 : Nat, (a9 < m ∨ m + 1 ≤ a9) → F a9 = F a9 := fun a9 _ => rfl
  refine x_aload_n hC d_MessageCoderModel_letters_0 rfl rfl ?_
  refine x_iload_n hC d_MessageCoderModel_letters_1 rfl rfl ?_
  refine x_callV hC kv_MessageCoderModel_248 (c_MessageCoderModel_needs (o0 := o0) (hi := hi) (hs := hs) (hty := hty) (hq := hq) (hc := by omega)) o0 rfl rfl (by decide) rfl rfl rfl (Nat.le_of_ble_eq_true rfl) (by decide) d_MessageCoderModel_letters_2 (fun r9 F9 z9 hp9 => ?_)
  obtain ⟨h1_2, e1_2, rfl, h9c, j0, j1, pk_2, hag9⟩ := hp9
  rw [h9c]
  clear h9c z9
  generalize F9 = F1 at *
  have o0 : F1 (m) = some (.inl (10, [.int (nI (th)), .ref (m + 1), .int (nI (ch)), .int (nI (sv)), .int rs, .ref (m + 2), .ref (m + 3), .ref (m + 4), .ref (m + 5), .ref (m + 6), .int (nI (bm)), .ref (m + 7), .int (nI (dm)), .ref (m + 8), .ref (m + 9), .int (nI (lz)), .ref (m + 10), .int (nI (ty)), .int (nI (h1_2)), .int (eI (e1_2)), .int ea, .int fa, .ref (m + 11), .int (nI (cn))])) := j0
  have hi : F1 (m + 10) = some (.inr (1, 60, fun b9 => .int (nI (ip b9)))) := j1
  have hag : ∀ a9 : Nat, (a9 < m ∨ m + 1 ≤ a9) → F1 a9 = F a9 := fun a9 q0 => (hag9 a9 (by omega)).trans (hag a9 q0)
  have hg_2 := hag9
  clear hag9
  have hq_2 : qB ty (h1_2, e1_2) := by rw [← pk_2]; exact nd_B hq
  refine x_aload_n hC d_MessageCoderModel_letters_5 rfl rfl ?_
  refine x_iload_n hC d_MessageCoderModel_letters_6 rfl rfl ?_
  refine x_callV hC kv_MessageCoderModel_248 (c_MessageCoderModel_needs (o0 := o0) (hi := hi) (hs := hs) (hty := hty) (hq := hq_2) (hc := by omega)) o0 rfl rfl (by decide) rfl rfl rfl (Nat.le_of_ble_eq_true rfl) (by decide) d_MessageCoderModel_letters_7 (fun r9 F9 z9 hp9 => ?_)
  obtain ⟨h1_7, e1_7, rfl, h9c, j0, j1, pk_7, hag9⟩ := hp9
  rw [h9c]
  clear h9c z9
  generalize F9 = F2 at *
  have o0 : F2 (m) = some (.inl (10, [.int (nI (th)), .ref (m + 1), .int (nI (ch)), .int (nI (sv)), .int rs, .ref (m + 2), .ref (m + 3), .ref (m + 4), .ref (m + 5), .ref (m + 6), .int (nI (bm)), .ref (m + 7), .int (nI (dm)), .ref (m + 8), .ref (m + 9), .int (nI (lz)), .ref (m + 10), .int (nI (ty)), .int (nI (h1_7)), .int (eI (e1_7)), .int ea, .int fa, .ref (m + 11), .int (nI (cn))])) := j0
  have hi : F2 (m + 10) = some (.inr (1, 60, fun b9 => .int (nI (ip b9)))) := j1
  have hag : ∀ a9 : Nat, (a9 < m ∨ m + 1 ≤ a9) → F2 a9 = F a9 := fun a9 q0 => (hag9 a9 (by omega)).trans (hag a9 q0)
  have hg_7 := hag9
  clear hag9
  have hq_7 : qB ty (h1_7, e1_7) := by rw [← pk_7]; exact nd_B hq_2
  refine x_aload_n hC d_MessageCoderModel_letters_10 rfl rfl ?_
  refine x_iload_n hC d_MessageCoderModel_letters_11 rfl rfl ?_
  refine x_callV hC kv_MessageCoderModel_248 (c_MessageCoderModel_needs (o0 := o0) (hi := hi) (hs := hs) (hty := hty) (hq := hq_7) (hc := by omega)) o0 rfl rfl (by decide) rfl rfl rfl (Nat.le_of_ble_eq_true rfl) (by decide) d_MessageCoderModel_letters_12 (fun r9 F9 z9 hp9 => ?_)
  obtain ⟨h1_12, e1_12, rfl, h9c, j0, j1, pk_12, hag9⟩ := hp9
  rw [h9c]
  clear h9c z9
  generalize F9 = F3 at *
  have o0 : F3 (m) = some (.inl (10, [.int (nI (th)), .ref (m + 1), .int (nI (ch)), .int (nI (sv)), .int rs, .ref (m + 2), .ref (m + 3), .ref (m + 4), .ref (m + 5), .ref (m + 6), .int (nI (bm)), .ref (m + 7), .int (nI (dm)), .ref (m + 8), .ref (m + 9), .int (nI (lz)), .ref (m + 10), .int (nI (ty)), .int (nI (h1_12)), .int (eI (e1_12)), .int ea, .int fa, .ref (m + 11), .int (nI (cn))])) := j0
  have hi : F3 (m + 10) = some (.inr (1, 60, fun b9 => .int (nI (ip b9)))) := j1
  have hag : ∀ a9 : Nat, (a9 < m ∨ m + 1 ≤ a9) → F3 a9 = F a9 := fun a9 q0 => (hag9 a9 (by omega)).trans (hag a9 q0)
  have hg_12 := hag9
  clear hag9
  exact hret _ _ _ _ _ _ d_MessageCoderModel_letters_15 (by decide) (by decide) (⟨h1_12, e1_12, rfl, rfl, o0, hi, by rw [pk_2, pk_7]; exact pk_12, hag⟩)

theorem d_MessageCoderModel_needsSymbol_0 : decode prog_14_method_110_code 0 = .ok (.aload_n 0, 1) := by decide +kernel
theorem d_MessageCoderModel_needsSymbol_1 : decode prog_14_method_110_code 1 = .ok (.invokevirtual 245, 3) := by decide +kernel
theorem d_MessageCoderModel_needsSymbol_4 : decode prog_14_method_110_code 4 = .ok (.istore_n 1, 1) := by decide +kernel
theorem d_MessageCoderModel_needsSymbol_5 : decode prog_14_method_110_code 5 = .ok (.aload_n 0, 1) := by decide +kernel
theorem d_MessageCoderModel_needsSymbol_6 : decode prog_14_method_110_code 6 = .ok (.getfield 242, 3) := by decide +kernel
theorem d_MessageCoderModel_needsSymbol_9 : decode prog_14_method_110_code 9 = .ok (.ifCond .lt 5, 3) := by decide +kernel
theorem d_MessageCoderModel_needsSymbol_12 : decode prog_14_method_110_code 12 = .ok (.iconst 0, 1) := by decide +kernel
theorem d_MessageCoderModel_needsSymbol_13 : decode prog_14_method_110_code 13 = .ok (.ireturn, 1) := by decide +kernel
theorem d_MessageCoderModel_needsSymbol_14 : decode prog_14_method_110_code 14 = .ok (.iload_n 1, 1) := by decide +kernel
theorem d_MessageCoderModel_needsSymbol_15 : decode prog_14_method_110_code 15 = .ok (.invokestatic 118, 3) := by decide +kernel
theorem d_MessageCoderModel_needsSymbol_18 : decode prog_14_method_110_code 18 = .ok (.ifCond .ne 13, 3) := by decide +kernel
theorem d_MessageCoderModel_needsSymbol_21 : decode prog_14_method_110_code 21 = .ok (.aload_n 0, 1) := by decide +kernel
theorem d_MessageCoderModel_needsSymbol_22 : decode prog_14_method_110_code 22 = .ok (.aload_n 0, 1) := by decide +kernel
theorem d_MessageCoderModel_needsSymbol_23 : decode prog_14_method_110_code 23 = .ok (.getfield 239, 3) := by decide +kernel
theorem d_MessageCoderModel_needsSymbol_26 : decode prog_14_method_110_code 26 = .ok (.putfield 242, 3) := by decide +kernel
theorem d_MessageCoderModel_needsSymbol_29 : decode prog_14_method_110_code 29 = .ok (.iconst 0, 1) := by decide +kernel
theorem d_MessageCoderModel_needsSymbol_30 : decode prog_14_method_110_code 30 = .ok (.ireturn, 1) := by decide +kernel
theorem d_MessageCoderModel_needsSymbol_31 : decode prog_14_method_110_code 31 = .ok (.aload_n 0, 1) := by decide +kernel
theorem d_MessageCoderModel_needsSymbol_32 : decode prog_14_method_110_code 32 = .ok (.dup, 1) := by decide +kernel
theorem d_MessageCoderModel_needsSymbol_33 : decode prog_14_method_110_code 33 = .ok (.getfield 239, 3) := by decide +kernel
theorem d_MessageCoderModel_needsSymbol_36 : decode prog_14_method_110_code 36 = .ok (.iconst 1, 1) := by decide +kernel
theorem d_MessageCoderModel_needsSymbol_37 : decode prog_14_method_110_code 37 = .ok (.iadd, 1) := by decide +kernel
theorem d_MessageCoderModel_needsSymbol_38 : decode prog_14_method_110_code 38 = .ok (.putfield 239, 3) := by decide +kernel
theorem d_MessageCoderModel_needsSymbol_41 : decode prog_14_method_110_code 41 = .ok (.iload_n 1, 1) := by decide +kernel
theorem d_MessageCoderModel_needsSymbol_42 : decode prog_14_method_110_code 42 = .ok (.ireturn, 1) := by decide +kernel
set_option maxHeartbeats 4000000 in
set_option maxRecDepth 20000 in
theorem c_MessageCoderModel_needsSymbol {P : xP} {F : xF} {z : Nat} {m : Nat} {th : Nat} {ch : Nat} {sv : Nat} {rs : Int32} {bm : Nat} {dm : Nat} {lz : Nat} {ty : Nat} {ea : Int32} {fa : Int32} {cn : Nat} {ip : Nat → Nat} {h : Nat} {e : Nat} (o0 : F (m) = some (.inl (10, [.int (nI (th)), .ref (m + 1), .int (nI (ch)), .int (nI (sv)), .int rs, .ref (m + 2), .ref (m + 3), .ref (m + 4), .ref (m + 5), .ref (m + 6), .int (nI (bm)), .ref (m + 7), .int (nI (dm)), .ref (m + 8), .ref (m + 9), .int (nI (lz)), .ref (m + 10), .int (nI (ty)), .int (nI (h)), .int (eI (e)), .int ea, .int fa, .ref (m + 11), .int (nI (cn))]))) (hi : F (m + 10) = some (.inr (1, 60, fun b9 => .int (nI (ip b9))))) (hs : ∀ j, j < ty → ip j < 65536) (hty : ty ≤ 60) (hq : qB ty (h, e)) : xM P xy_MessageCoderModel_needsSymbol [.ref m] F (z) 0 0 (fun r9 F9 z9 => ∃ h1 : Nat, ∃ e1 : Nat, ∃ v1 : Nat, r9 = some (.int (nI (v1))) ∧ z9 = z ∧ F9 (m) = some (.inl (10, [.int (nI (th)), .ref (m + 1), .int (nI (ch)), .int (nI (sv)), .int rs, .ref (m + 2), .ref (m + 3), .ref (m + 4), .ref (m + 5), .ref (m + 6), .int (nI (bm)), .ref (m + 7), .int (nI (dm)), .ref (m + 8), .ref (m + 9), .int (nI (lz)), .ref (m + 10), .int (nI (ty)), .int (nI (h1)), .int (eI (e1)), .int ea, .int fa, .ref (m + 11), .int (nI (cn))])) ∧ F9 (m + 10) = some (.inr (1, 60, fun b9 => .int (nI (ip b9)))) ∧ (syQ ty ip (h, e) = ((h1, e1), v1)) ∧ (∀ a9 : Nat, (a9 < m ∨ m + 1 ≤ a9) → F9 a9 = F a9)) := by
  refine xM_i .int rfl (Nat.le_of_ble_eq_true rfl) (L0 := [some (.ref m), none]) rfl rfl fun Θ hC hret => ?_
  have hag : ∀ a9 : Nat, (a9 < m ∨ m + 1 ≤ a9) → F a9 = F a9 := fun a9 _ => rfl
  have hq1 : h ≤ ty := hq.1
  have hq2 : e ≤ ty + 1 := hq.2
  refine x_aload_n hC d_MessageCoderModel_needsSymbol_0 rfl rfl ?_
  refine x_callV hC kv_MessageCoderModel_245 (c_MessageCoderModel_sign (o0 := o0) (hi := hi) (hs := hs) (hty := hty) (hq := hq)) o0 rfl rfl (by decide) rfl rfl rfl (Nat.le_of_ble_eq_true rfl) (by decide) d_MessageCoderModel_needsSymbol_1 (fun r9 F9 z9 hp9 => ?_)
  obtain ⟨rfl, h9b, h9c⟩ := hp9
  rw [h9b, h9c]
  clear h9b h9c F9 z9
  refine x_istore_n hC d_MessageCoderModel_needsSymbol_4 rfl (Nat.le_of_ble_eq_true rfl) (L1 := [some (.ref m), some (.int (sgI ty ip h))]) rfl ?_
  refine x_aload_n hC d_MessageCoderModel_needsSymbol_5 rfl rfl ?_
  refine x_getf hC kf_MessageCoderModel_242 o0 rfl d_MessageCoderModel_needsSymbol_6 ?_
  refine x_if_lt hC d_MessageCoderModel_needsSymbol_9 (tgt := 14) (by decide) (fun c_9 => ?_) (fun c_9 => ?_)
  · skip
    have he0 : e = 0 := (eI_lt (by omega)).mp c_9
    refine x_iload_n hC d_MessageCoderModel_needsSymbol_14 rfl rfl ?_
    refine x_callS hC ks_MessageCoderModel_118 (c_MessageCoderModel_isSymbol ) (by decide) rfl rfl rfl (Nat.le_of_ble_eq_true rfl) (by decide) d_MessageCoderModel_needsSymbol_15 (fun r9 F9 z9 hp9 => ?_)
    obtain ⟨rfl, h9b, h9c⟩ := hp9
    rw [h9b, h9c]
    clear h9b h9c F9 z9
    refine x_ifB_ne hC d_MessageCoderModel_needsSymbol_18 (tgt := 31) (by decide) (fun c_18 => ?_) (fun c_18 => ?_)
    · skip
      have hsz := (sg_in hs (by decide) (by decide)).mp c_18
      have hsy : h < ty ∧ isSy (ip h) := ⟨hsz.1, hsz.2.1, by omega⟩
      refine x_aload_n hC d_MessageCoderModel_needsSymbol_31 rfl rfl ?_
      refine x_dup hC d_MessageCoderModel_needsSymbol_32 rfl ?_
      refine x_getf hC kf_MessageCoderModel_239 o0 rfl d_MessageCoderModel_needsSymbol_33 ?_
      refine x_iconst hC d_MessageCoderModel_needsSymbol_36 (v := nI 1) (by decide) ?_
      refine x_iadd hC d_MessageCoderModel_needsSymbol_37 (v := (nI (h + 1))) (x_addN (by omega)) ?_
      refine x_putf hC kf_MessageCoderModel_239 o0 (Nat.le_of_ble_eq_true rfl) rfl rfl d_MessageCoderModel_needsSymbol_38 (fs1 := [.int (nI (th)), .ref (m + 1), .int (nI (ch)), .int (nI (sv)), .int rs, .ref (m + 2), .ref (m + 3), .ref (m + 4), .ref (m + 5), .ref (m + 6), .int (nI (bm)), .ref (m + 7), .int (nI (dm)), .ref (m + 8), .ref (m + 9), .int (nI (lz)), .ref (m + 10), .int (nI (ty)), .int (nI (h + 1)), .int (eI (e)), .int ea, .int fa, .ref (m + 11), .int (nI (cn))]) rfl ?_
      generalize e1 : xup F (m) (.inl (10, [.int (nI (th)), .ref (m + 1), .int (nI (ch)), .int (nI (sv)), .int rs, .ref (m + 2), .ref (m + 3), .ref (m + 4), .ref (m + 5), .ref (m + 6), .int (nI (bm)), .ref (m + 7), .int (nI (dm)), .ref (m + 8), .ref (m + 9), .int (nI (lz)), .ref (m + 10), .int (nI (ty)), .int (nI (h + 1)), .int (eI (e)), .int ea, .int fa, .ref (m + 11), .int (nI (cn))])) = F1
      have o0 : F1 (m) = some (.inl (10, [.int (nI (th)), .ref (m + 1), .int (nI (ch)), .int (nI (sv)), .int rs, .ref (m + 2), .ref (m + 3), .ref (m + 4), .ref (m + 5), .ref (m + 6), .int (nI (bm)), .ref (m + 7), .int (nI (dm)), .ref (m + 8), .ref (m + 9), .int (nI (lz)), .ref (m + 10), .int (nI (ty)), .int (nI (h + 1)), .int (eI (e)), .int ea, .int fa, .ref (m + 11), .int (nI (cn))])) := by rw [← e1]; exact xup_eq
      have hi : F1 (m + 10) = some (.inr (1, 60, fun b9 => .int (nI (ip b9)))) := by rw [← e1]; exact (xup_ne (by omega)).trans hi
      have hag : ∀ a9 : Nat, (a9 < m ∨ m + 1 ≤ a9) → F1 a9 = F a9 := fun a9 q0 => by rw [← e1]; exact (xup_ne (by omega)).trans (hag a9 q0)
      refine x_iload_n hC d_MessageCoderModel_needsSymbol_41 rfl rfl ?_
      exact hret _ _ _ _ _ _ _ d_MessageCoderModel_needsSymbol_42 (by decide) (by decide) rfl (⟨h + 1, 0, ip h, congrArg (fun q => some (Value.int q)) (sgI_of hsy.1), rfl, by rw [he0] at o0; exact o0, hi, (if_pos he0).trans (if_pos hsy), hag⟩)
    · skip
      refine x_aload_n hC d_MessageCoderModel_needsSymbol_21 rfl rfl ?_
      refine x_aload_n hC d_MessageCoderModel_needsSymbol_22 rfl rfl ?_
      refine x_getf hC kf_MessageCoderModel_239 o0 rfl d_MessageCoderModel_needsSymbol_23 ?_
      refine x_putf hC kf_MessageCoderModel_242 o0 (Nat.le_of_ble_eq_true rfl) rfl rfl d_MessageCoderModel_needsSymbol_26 (fs1 := [.int (nI (th)), .ref (m + 1), .int (nI (ch)), .int (nI (sv)), .int rs, .ref (m + 2), .ref (m + 3), .ref (m + 4), .ref (m + 5), .ref (m + 6), .int (nI (bm)), .ref (m + 7), .int (nI (dm)), .ref (m + 8), .ref (m + 9), .int (nI (lz)), .ref (m + 10), .int (nI (ty)), .int (nI (h)), .int (nI (h)), .int ea, .int fa, .ref (m + 11), .int (nI (cn))]) rfl ?_
      generalize e2 : xup F (m) (.inl (10, [.int (nI (th)), .ref (m + 1), .int (nI (ch)), .int (nI (sv)), .int rs, .ref (m + 2), .ref (m + 3), .ref (m + 4), .ref (m + 5), .ref (m + 6), .int (nI (bm)), .ref (m + 7), .int (nI (dm)), .ref (m + 8), .ref (m + 9), .int (nI (lz)), .ref (m + 10), .int (nI (ty)), .int (nI (h)), .int (nI (h)), .int ea, .int fa, .ref (m + 11), .int (nI (cn))])) = F2
      have o0 : F2 (m) = some (.inl (10, [.int (nI (th)), .ref (m + 1), .int (nI (ch)), .int (nI (sv)), .int rs, .ref (m + 2), .ref (m + 3), .ref (m + 4), .ref (m + 5), .ref (m + 6), .int (nI (bm)), .ref (m + 7), .int (nI (dm)), .ref (m + 8), .ref (m + 9), .int (nI (lz)), .ref (m + 10), .int (nI (ty)), .int (nI (h)), .int (nI (h)), .int ea, .int fa, .ref (m + 11), .int (nI (cn))])) := by rw [← e2]; exact xup_eq
      have hi : F2 (m + 10) = some (.inr (1, 60, fun b9 => .int (nI (ip b9)))) := by rw [← e2]; exact (xup_ne (by omega)).trans hi
      have hag : ∀ a9 : Nat, (a9 < m ∨ m + 1 ≤ a9) → F2 a9 = F a9 := fun a9 q0 => by rw [← e2]; exact (xup_ne (by omega)).trans (hag a9 q0)
      refine x_iconst hC d_MessageCoderModel_needsSymbol_29 (v := nI 0) (by decide) ?_
      exact hret _ _ _ _ _ _ _ d_MessageCoderModel_needsSymbol_30 (by decide) (by decide) rfl (⟨h, h + 1, 0, rfl, rfl, o0, hi, (if_pos he0).trans (if_neg (fun h9 => c_18 ((sg_in hs (by decide) (by decide)).mpr ⟨h9.1, h9.2.1, Nat.le_of_lt_succ h9.2.2⟩))), hag⟩)
  · skip
    refine x_iconst hC d_MessageCoderModel_needsSymbol_12 (v := nI 0) (by decide) ?_
    exact hret _ _ _ _ _ _ _ d_MessageCoderModel_needsSymbol_13 (by decide) (by decide) rfl (⟨h, e, 0, rfl, rfl, o0, hi, if_neg (show ¬ e = 0 from fun h9 => c_9 ((eI_lt (by omega)).mpr h9)), hag⟩)

theorem d_MessageCoderModel_behind_0 : decode prog_14_method_109_code 0 = .ok (.aload_n 0, 1) := by decide +kernel
theorem d_MessageCoderModel_behind_1 : decode prog_14_method_109_code 1 = .ok (.iload_n 1, 1) := by decide +kernel
theorem d_MessageCoderModel_behind_2 : decode prog_14_method_109_code 2 = .ok (.invokevirtual 248, 3) := by decide +kernel
theorem d_MessageCoderModel_behind_5 : decode prog_14_method_109_code 5 = .ok (.aload_n 0, 1) := by decide +kernel
theorem d_MessageCoderModel_behind_6 : decode prog_14_method_109_code 6 = .ok (.getfield 242, 3) := by decide +kernel
theorem d_MessageCoderModel_behind_9 : decode prog_14_method_109_code 9 = .ok (.ifCond .lt 5, 3) := by decide +kernel
theorem d_MessageCoderModel_behind_12 : decode prog_14_method_109_code 12 = .ok (.iconst 0, 1) := by decide +kernel
theorem d_MessageCoderModel_behind_13 : decode prog_14_method_109_code 13 = .ok (.ireturn, 1) := by decide +kernel
theorem d_MessageCoderModel_behind_14 : decode prog_14_method_109_code 14 = .ok (.aload_n 0, 1) := by decide +kernel
theorem d_MessageCoderModel_behind_15 : decode prog_14_method_109_code 15 = .ok (.invokevirtual 245, 3) := by decide +kernel
theorem d_MessageCoderModel_behind_18 : decode prog_14_method_109_code 18 = .ok (.bipush 48, 2) := by decide +kernel
theorem d_MessageCoderModel_behind_20 : decode prog_14_method_109_code 20 = .ok (.bipush 57, 2) := by decide +kernel
theorem d_MessageCoderModel_behind_22 : decode prog_14_method_109_code 22 = .ok (.invokestatic 64, 3) := by decide +kernel
theorem d_MessageCoderModel_behind_25 : decode prog_14_method_109_code 25 = .ok (.ifCond .ne 13, 3) := by decide +kernel
theorem d_MessageCoderModel_behind_28 : decode prog_14_method_109_code 28 = .ok (.aload_n 0, 1) := by decide +kernel
theorem d_MessageCoderModel_behind_29 : decode prog_14_method_109_code 29 = .ok (.aload_n 0, 1) := by decide +kernel
theorem d_MessageCoderModel_behind_30 : decode prog_14_method_109_code 30 = .ok (.getfield 239, 3) := by decide +kernel
theorem d_MessageCoderModel_behind_33 : decode prog_14_method_109_code 33 = .ok (.putfield 242, 3) := by decide +kernel
theorem d_MessageCoderModel_behind_36 : decode prog_14_method_109_code 36 = .ok (.iconst 0, 1) := by decide +kernel
theorem d_MessageCoderModel_behind_37 : decode prog_14_method_109_code 37 = .ok (.ireturn, 1) := by decide +kernel
theorem d_MessageCoderModel_behind_38 : decode prog_14_method_109_code 38 = .ok (.iconst 0, 1) := by decide +kernel
theorem d_MessageCoderModel_behind_39 : decode prog_14_method_109_code 39 = .ok (.istore_n 3, 1) := by decide +kernel
theorem d_MessageCoderModel_behind_40 : decode prog_14_method_109_code 40 = .ok (.iconst 0, 1) := by decide +kernel
theorem d_MessageCoderModel_behind_41 : decode prog_14_method_109_code 41 = .ok (.istore 4, 2) := by decide +kernel
theorem d_MessageCoderModel_behind_43 : decode prog_14_method_109_code 43 = .ok (.iload 4, 2) := by decide +kernel
theorem d_MessageCoderModel_behind_45 : decode prog_14_method_109_code 45 = .ok (.iload_n 2, 1) := by decide +kernel
theorem d_MessageCoderModel_behind_46 : decode prog_14_method_109_code 46 = .ok (.if_icmp .ge 46, 3) := by decide +kernel
theorem d_MessageCoderModel_behind_49 : decode prog_14_method_109_code 49 = .ok (.aload_n 0, 1) := by decide +kernel
theorem d_MessageCoderModel_behind_50 : decode prog_14_method_109_code 50 = .ok (.invokevirtual 245, 3) := by decide +kernel
theorem d_MessageCoderModel_behind_53 : decode prog_14_method_109_code 53 = .ok (.bipush 48, 2) := by decide +kernel
theorem d_MessageCoderModel_behind_55 : decode prog_14_method_109_code 55 = .ok (.bipush 57, 2) := by decide +kernel
theorem d_MessageCoderModel_behind_57 : decode prog_14_method_109_code 57 = .ok (.invokestatic 64, 3) := by decide +kernel
theorem d_MessageCoderModel_behind_60 : decode prog_14_method_109_code 60 = .ok (.ifCond .eq 32, 3) := by decide +kernel
theorem d_MessageCoderModel_behind_63 : decode prog_14_method_109_code 63 = .ok (.bipush 10, 2) := by decide +kernel
theorem d_MessageCoderModel_behind_65 : decode prog_14_method_109_code 65 = .ok (.iload_n 3, 1) := by decide +kernel
theorem d_MessageCoderModel_behind_66 : decode prog_14_method_109_code 66 = .ok (.imul, 1) := by decide +kernel
theorem d_MessageCoderModel_behind_67 : decode prog_14_method_109_code 67 = .ok (.aload_n 0, 1) := by decide +kernel
theorem d_MessageCoderModel_behind_68 : decode prog_14_method_109_code 68 = .ok (.invokevirtual 245, 3) := by decide +kernel
theorem d_MessageCoderModel_behind_71 : decode prog_14_method_109_code 71 = .ok (.iadd, 1) := by decide +kernel
theorem d_MessageCoderModel_behind_72 : decode prog_14_method_109_code 72 = .ok (.bipush 48, 2) := by decide +kernel
theorem d_MessageCoderModel_behind_74 : decode prog_14_method_109_code 74 = .ok (.isub, 1) := by decide +kernel
theorem d_MessageCoderModel_behind_75 : decode prog_14_method_109_code 75 = .ok (.istore_n 3, 1) := by decide +kernel
theorem d_MessageCoderModel_behind_76 : decode prog_14_method_109_code 76 = .ok (.aload_n 0, 1) := by decide +kernel
theorem d_MessageCoderModel_behind_77 : decode prog_14_method_109_code 77 = .ok (.dup, 1) := by decide +kernel
theorem d_MessageCoderModel_behind_78 : decode prog_14_method_109_code 78 = .ok (.getfield 239, 3) := by decide +kernel
theorem d_MessageCoderModel_behind_81 : decode prog_14_method_109_code 81 = .ok (.iconst 1, 1) := by decide +kernel
theorem d_MessageCoderModel_behind_82 : decode prog_14_method_109_code 82 = .ok (.iadd, 1) := by decide +kernel
theorem d_MessageCoderModel_behind_83 : decode prog_14_method_109_code 83 = .ok (.putfield 239, 3) := by decide +kernel
theorem d_MessageCoderModel_behind_86 : decode prog_14_method_109_code 86 = .ok (.iinc 4 1, 3) := by decide +kernel
theorem d_MessageCoderModel_behind_89 : decode prog_14_method_109_code 89 = .ok (.goto (-46), 3) := by decide +kernel
theorem d_MessageCoderModel_behind_92 : decode prog_14_method_109_code 92 = .ok (.iload_n 3, 1) := by decide +kernel
theorem d_MessageCoderModel_behind_93 : decode prog_14_method_109_code 93 = .ok (.ireturn, 1) := by decide +kernel
set_option maxHeartbeats 4000000 in
set_option maxRecDepth 20000 in
theorem c_MessageCoderModel_behind {P : xP} {F : xF} {z : Nat} {m : Nat} {th : Nat} {ch : Nat} {sv : Nat} {rs : Int32} {bm : Nat} {dm : Nat} {lz : Nat} {ty : Nat} {ea : Int32} {fa : Int32} {cn : Nat} {ip : Nat → Nat} {h : Nat} {e : Nat} {c : Nat} {mm : Nat} (o0 : F (m) = some (.inl (10, [.int (nI (th)), .ref (m + 1), .int (nI (ch)), .int (nI (sv)), .int rs, .ref (m + 2), .ref (m + 3), .ref (m + 4), .ref (m + 5), .ref (m + 6), .int (nI (bm)), .ref (m + 7), .int (nI (dm)), .ref (m + 8), .ref (m + 9), .int (nI (lz)), .ref (m + 10), .int (nI (ty)), .int (nI (h)), .int (eI (e)), .int ea, .int fa, .ref (m + 11), .int (nI (cn))]))) (hi : F (m + 10) = some (.inr (1, 60, fun b9 => .int (nI (ip b9))))) (hs : ∀ j, j < ty → ip j < 65536) (hty : ty ≤ 60) (hq : qB ty (h, e)) (hc : c < 65536) (hmm : 1 ≤ mm ∧ mm ≤ 3) : xM P xy_MessageCoderModel_behind [.ref m, .int (nI (c)), .int (nI (mm))] F (z) 0 0 (fun r9 F9 z9 => ∃ h1 : Nat, ∃ e1 : Nat, ∃ v1 : Nat, r9 = some (.int (nI (v1))) ∧ z9 = z ∧ F9 (m) = some (.inl (10, [.int (nI (th)), .ref (m + 1), .int (nI (ch)), .int (nI (sv)), .int rs, .ref (m + 2), .ref (m + 3), .ref (m + 4), .ref (m + 5), .ref (m + 6), .int (nI (bm)), .ref (m + 7), .int (nI (dm)), .ref (m + 8), .ref (m + 9), .int (nI (lz)), .ref (m + 10), .int (nI (ty)), .int (nI (h1)), .int (eI (e1)), .int ea, .int fa, .ref (m + 11), .int (nI (cn))])) ∧ F9 (m + 10) = some (.inr (1, 60, fun b9 => .int (nI (ip b9)))) ∧ (bh ty ip c mm (h, e) = ((h1, e1), v1)) ∧ (∀ a9 : Nat, (a9 < m ∨ m + 1 ≤ a9) → F9 a9 = F a9)) := by
  refine xM_i .int rfl (Nat.le_of_ble_eq_true rfl) (L0 := [some (.ref m), some (.int (nI (c))), some (.int (nI (mm))), none, none]) rfl rfl fun Θ hC hret => ?_
  have hag : ∀ a9 : Nat, (a9 < m ∨ m + 1 ≤ a9) → F a9 = F a9 := fun a9 _ => rfl
  have hq1 : h ≤ ty := hq.1
  have hq2 : e ≤ ty + 1 := hq.2
  refine x_aload_n hC d_MessageCoderModel_behind_0 rfl rfl ?_
  refine x_iload_n hC d_MessageCoderModel_behind_1 rfl rfl ?_
  refine x_callV hC kv_MessageCoderModel_248 (c_MessageCoderModel_needs (o0 := o0) (hi := hi) (hs := hs) (hty := hty) (hq := hq) (hc := by omega)) o0 rfl rfl (by decide) rfl rfl rfl (Nat.le_of_ble_eq_true rfl) (by decide) d_MessageCoderModel_behind_2 (fun r9 F9 z9 hp9 => ?_)
  obtain ⟨h1_2, e1_2, rfl, h9c, j0, j1, pk_2, hag9⟩ := hp9
  rw [h9c]
  clear h9c z9
  generalize F9 = F1 at *
  have o0 : F1 (m) = some (.inl (10, [.int (nI (th)), .ref (m + 1), .int (nI (ch)), .int (nI (sv)), .int rs, .ref (m + 2), .ref (m + 3), .ref (m + 4), .ref (m + 5), .ref (m + 6), .int (nI (bm)), .ref (m + 7), .int (nI (dm)), .ref (m + 8), .ref (m + 9), .int (nI (lz)), .ref (m + 10), .int (nI (ty)), .int (nI (h1_2)), .int (eI (e1_2)), .int ea, .int fa, .ref (m + 11), .int (nI (cn))])) := j0
  have hi : F1 (m + 10) = some (.inr (1, 60, fun b9 => .int (nI (ip b9)))) := j1
  have hag : ∀ a9 : Nat, (a9 < m ∨ m + 1 ≤ a9) → F1 a9 = F a9 := fun a9 q0 => (hag9 a9 (by omega)).trans (hag a9 q0)
  have hg_2 := hag9
  clear hag9
  have hq_2 : qB ty (h1_2, e1_2) := by rw [← pk_2]; exact nd_B hq
  have hq3 : h1_2 ≤ ty := hq_2.1
  have hq4 : e1_2 ≤ ty + 1 := hq_2.2
  refine x_aload_n hC d_MessageCoderModel_behind_5 rfl rfl ?_
  refine x_getf hC kf_MessageCoderModel_242 o0 rfl d_MessageCoderModel_behind_6 ?_
  refine x_if_lt hC d_MessageCoderModel_behind_9 (tgt := 14) (by decide) (fun c_9 => ?_) (fun c_9 => ?_)
  · skip
    have he0 : e1_2 = 0 := (eI_lt (by omega)).mp c_9
    refine x_aload_n hC d_MessageCoderModel_behind_14 rfl rfl ?_
    refine x_callV hC kv_MessageCoderModel_245 (c_MessageCoderModel_sign (o0 := o0) (hi := hi) (hs := hs) (hty := hty) (hq := hq_2)) o0 rfl rfl (by decide) rfl rfl rfl (Nat.le_of_ble_eq_true rfl) (by decide) d_MessageCoderModel_behind_15 (fun r9 F9 z9 hp9 => ?_)
    obtain ⟨rfl, h9b, h9c⟩ := hp9
    rw [h9b, h9c]
    clear h9b h9c F9 z9
    refine x_bipush hC d_MessageCoderModel_behind_18 (v := nI 48) (by decide) ?_
    refine x_bipush hC d_MessageCoderModel_behind_20 (v := nI 57) (by decide) ?_
    refine x_callS hC ks_MessageCoderModel_64 (c_MessageCoderModel_in ) (by decide) rfl rfl rfl (Nat.le_of_ble_eq_true rfl) (by decide) d_MessageCoderModel_behind_22 (fun r9 F9 z9 hp9 => ?_)
    obtain ⟨rfl, h9b, h9c⟩ := hp9
    rw [h9b, h9c]
    clear h9b h9c F9 z9
    refine x_ifB_ne hC d_MessageCoderModel_behind_25 (tgt := 38) (by decide) (fun c_25 => ?_) (fun c_25 => ?_)
    · skip
      refine x_iconst hC d_MessageCoderModel_behind_38 (v := nI 0) (by decide) ?_
      refine x_istore_n hC d_MessageCoderModel_behind_39 rfl (Nat.le_of_ble_eq_true rfl) (L1 := [some (.ref m), some (.int (nI (c))), some (.int (nI (mm))), some (.int (nI 0)), none]) rfl ?_
      refine x_iconst hC d_MessageCoderModel_behind_40 (v := nI 0) (by decide) ?_
      refine x_istore hC d_MessageCoderModel_behind_41 (Nat.le_of_ble_eq_true rfl) (L1 := [some (.ref m), some (.int (nI (c))), some (.int (nI (mm))), some (.int (nI 0)), some (.int (nI 0))]) rfl ?_
      have loop_43 : ∀ (m9 : Nat) (Fh43 : xF) (i : Nat) (v : Nat), (Fh43 (m) = some (.inl (10, [.int (nI (th)), .ref (m + 1), .int (nI (ch)), .int (nI (sv)), .int rs, .ref (m + 2), .ref (m + 3), .ref (m + 4), .ref (m + 5), .ref (m + 6), .int (nI (bm)), .ref (m + 7), .int (nI (dm)), .ref (m + 8), .ref (m + 9), .int (nI (lz)), .ref (m + 10), .int (nI (ty)), .int (nI (h1_2 + i)), .int (eI (e1_2)), .int ea, .int fa, .ref (m + 11), .int (nI (cn))]))) → (Fh43 (m + 10) = some (.inr (1, 60, fun b9 => .int (nI (ip b9))))) → (∀ a9 : Nat, (a9 < m ∨ m + 1 ≤ a9) → Fh43 a9 = F a9) → (i ≤ mm) → (pDg ty ip h1_2 i = (i, v)) → (h1_2 + i ≤ ty) → (mm - i < m9) → xX P Θ 43 [some (.ref m), some (.int (nI (c))), some (.int (nI (mm))), some (.int (nI (v))), some (.int (nI (i)))] [] Fh43 (z) 0 0 := by
        intro m9
        induction m9 with
        | zero => intros; omega
        | succ m9 ih_43 =>
          intro Fh43 i v o0 hi hag hi9 kd khn hm_43
          have hvb : v < 10 ^ i := by have h9 := (pDg_le (s := ip) hq3 i).2.2; rw [kd] at h9; exact h9
          have hv3 : 10 ^ i ≤ 10 ^ 3 := Nat.pow_le_pow_right (by decide) (by omega)
          have hq_i : qB ty (h1_2 + i, e1_2) := ⟨khn, hq4⟩
          refine x_iload hC d_MessageCoderModel_behind_43 rfl ?_
          refine x_iload_n hC d_MessageCoderModel_behind_45 rfl rfl ?_
          refine x_icmpN_ge hC d_MessageCoderModel_behind_46 (tgt := 92) (by decide) (by omega) (by omega) (fun c_46 => ?_) (fun c_46 => ?_)
          · skip
            refine x_iload_n hC d_MessageCoderModel_behind_92 rfl rfl ?_
            refine hret _ _ _ _ _ _ _ d_MessageCoderModel_behind_93 (by decide) (by decide) rfl ?_
            have hpf : pDg ty ip h1_2 mm = (i, v) := by rw [← show i = mm by omega]; exact kd
            have hi1 : 0 < i := by omega
            have hb9 : bh ty ip c mm (h, e) = ((h1_2 + i, 0), v) := by unfold bh; rw [pk_2]; exact (if_pos he0).trans ((if_pos (by show 0 < (pDg ty ip h1_2 mm).1; rw [hpf]; exact hi1)).trans (by rw [hpf]))
            exact ⟨h1_2 + i, 0, v, rfl, rfl, by rw [he0] at o0; exact o0, hi, hb9, hag⟩
          · skip
            refine x_aload_n hC d_MessageCoderModel_behind_49 rfl rfl ?_
            refine x_callV hC kv_MessageCoderModel_245 (c_MessageCoderModel_sign (o0 := o0) (hi := hi) (hs := hs) (hty := hty) (hq := hq_i)) o0 rfl rfl (by decide) rfl rfl rfl (Nat.le_of_ble_eq_true rfl) (by decide) d_MessageCoderModel_behind_50 (fun r9 F9 z9 hp9 => ?_)
            obtain ⟨rfl, h9b, h9c⟩ := hp9
            rw [h9b, h9c]
            clear h9b h9c F9 z9
            refine x_bipush hC d_MessageCoderModel_behind_53 (v := nI 48) (by decide) ?_
            refine x_bipush hC d_MessageCoderModel_behind_55 (v := nI 57) (by decide) ?_
            refine x_callS hC ks_MessageCoderModel_64 (c_MessageCoderModel_in ) (by decide) rfl rfl rfl (Nat.le_of_ble_eq_true rfl) (by decide) d_MessageCoderModel_behind_57 (fun r9 F9 z9 hp9 => ?_)
            obtain ⟨rfl, h9b, h9c⟩ := hp9
            rw [h9b, h9c]
            clear h9b h9c F9 z9
            refine x_ifB_eq hC d_MessageCoderModel_behind_60 (tgt := 92) (by decide) (fun c_60 => ?_) (fun c_60 => ?_)
            · skip
              refine x_iload_n hC d_MessageCoderModel_behind_92 rfl rfl ?_
              refine hret _ _ _ _ _ _ _ d_MessageCoderModel_behind_93 (by decide) (by decide) rfl ?_
              have hpf : pDg ty ip h1_2 mm = (i, v) := pDg_no kd (fun h9 => c_60 ((sg_in hs (by decide) (by decide)).mpr h9)) (by omega)
              have hi1 : 0 < i := by rcases (show i = 0 ∨ 0 < i by omega) with h9 | h9; (exfalso; rw [h9] at c_60; exact c_60 c_25); exact h9
              have hb9 : bh ty ip c mm (h, e) = ((h1_2 + i, 0), v) := by unfold bh; rw [pk_2]; exact (if_pos he0).trans ((if_pos (by show 0 < (pDg ty ip h1_2 mm).1; rw [hpf]; exact hi1)).trans (by rw [hpf]))
              exact ⟨h1_2 + i, 0, v, rfl, rfl, by rw [he0] at o0; exact o0, hi, hb9, hag⟩
            · skip
              have hdg := (sg_in hs (by decide) (by decide)).mp c_60
              refine x_bipush hC d_MessageCoderModel_behind_63 (v := nI 10) (by decide) ?_
              refine x_iload_n hC d_MessageCoderModel_behind_65 rfl rfl ?_
              refine x_imul hC d_MessageCoderModel_behind_66 (v := (nI ((10) * (v)))) (pk_mul _ _) ?_
              refine x_aload_n hC d_MessageCoderModel_behind_67 rfl rfl ?_
              refine x_callV hC kv_MessageCoderModel_245 (c_MessageCoderModel_sign (o0 := o0) (hi := hi) (hs := hs) (hty := hty) (hq := hq_i)) o0 rfl rfl (by decide) rfl rfl rfl (Nat.le_of_ble_eq_true rfl) (by decide) d_MessageCoderModel_behind_68 (fun r9 F9 z9 hp9 => ?_)
              obtain ⟨rfl, h9b, h9c⟩ := hp9
              rw [h9b, h9c]
              clear h9b h9c F9 z9
              refine x_top (v := (nI (ip (h1_2 + i)))) (sgI_of hdg.1) ?_
              refine x_iadd hC d_MessageCoderModel_behind_71 (v := (nI (((10) * (v)) + (ip (h1_2 + i))))) (x_addN (by omega)) ?_
              refine x_bipush hC d_MessageCoderModel_behind_72 (v := nI 48) (by decide) ?_
              refine x_isub hC d_MessageCoderModel_behind_74 (v := (nI ((((10) * (v)) + (ip (h1_2 + i))) - 48))) (pk_sub (by omega)) ?_
              refine x_istore_n hC d_MessageCoderModel_behind_75 rfl (Nat.le_of_ble_eq_true rfl) (L1 := [some (.ref m), some (.int (nI (c))), some (.int (nI (mm))), some (.int (nI ((((10) * (v)) + (ip (h1_2 + i))) - 48))), some (.int (nI (i)))]) rfl ?_
              refine x_aload_n hC d_MessageCoderModel_behind_76 rfl rfl ?_
              refine x_dup hC d_MessageCoderModel_behind_77 rfl ?_
              refine x_getf hC kf_MessageCoderModel_239 o0 rfl d_MessageCoderModel_behind_78 ?_
              refine x_iconst hC d_MessageCoderModel_behind_81 (v := nI 1) (by decide) ?_
              refine x_iadd hC d_MessageCoderModel_behind_82 (v := (nI (h1_2 + i + 1))) (x_addN (by omega)) ?_
              refine x_putf hC kf_MessageCoderModel_239 o0 (Nat.le_of_ble_eq_true rfl) rfl rfl d_MessageCoderModel_behind_83 (fs1 := [.int (nI (th)), .ref (m + 1), .int (nI (ch)), .int (nI (sv)), .int rs, .ref (m + 2), .ref (m + 3), .ref (m + 4), .ref (m + 5), .ref (m + 6), .int (nI (bm)), .ref (m + 7), .int (nI (dm)), .ref (m + 8), .ref (m + 9), .int (nI (lz)), .ref (m + 10), .int (nI (ty)), .int (nI (h1_2 + i + 1)), .int (eI (e1_2)), .int ea, .int fa, .ref (m + 11), .int (nI (cn))]) rfl ?_
              generalize e2 : xup Fh43 (m) (.inl (10, [.int (nI (th)), .ref (m + 1), .int (nI (ch)), .int (nI (sv)), .int rs, .ref (m + 2), .ref (m + 3), .ref (m + 4), .ref (m + 5), .ref (m + 6), .int (nI (bm)), .ref (m + 7), .int (nI (dm)), .ref (m + 8), .ref (m + 9), .int (nI (lz)), .ref (m + 10), .int (nI (ty)), .int (nI (h1_2 + i + 1)), .int (eI (e1_2)), .int ea, .int fa, .ref (m + 11), .int (nI (cn))])) = F2
              have o0 : F2 (m) = some (.inl (10, [.int (nI (th)), .ref (m + 1), .int (nI (ch)), .int (nI (sv)), .int rs, .ref (m + 2), .ref (m + 3), .ref (m + 4), .ref (m + 5), .ref (m + 6), .int (nI (bm)), .ref (m + 7), .int (nI (dm)), .ref (m + 8), .ref (m + 9), .int (nI (lz)), .ref (m + 10), .int (nI (ty)), .int (nI (h1_2 + i + 1)), .int (eI (e1_2)), .int ea, .int fa, .ref (m + 11), .int (nI (cn))])) := by rw [← e2]; exact xup_eq
              have hi : F2 (m + 10) = some (.inr (1, 60, fun b9 => .int (nI (ip b9)))) := by rw [← e2]; exact (xup_ne (by omega)).trans hi
              have hag : ∀ a9 : Nat, (a9 < m ∨ m + 1 ≤ a9) → F2 a9 = F a9 := fun a9 q0 => by rw [← e2]; exact (xup_ne (by omega)).trans (hag a9 q0)
              refine x_iinc hC d_MessageCoderModel_behind_86 rfl (v := (nI (i + 1))) (x_incN 1) (Nat.le_of_ble_eq_true rfl) (L1 := [some (.ref m), some (.int (nI (c))), some (.int (nI (mm))), some (.int (nI ((((10) * (v)) + (ip (h1_2 + i))) - 48))), some (.int (nI (i + 1)))]) rfl ?_
              refine x_goto hC d_MessageCoderModel_behind_89 (tgt := 43) (by decide) ?_
              exact ih_43 F2 (i + 1) (10 * v + ip (h1_2 + i) - 48) o0 hi hag (by omega) (pDg_hit kd hdg) (by omega) (by omega)
      exact loop_43 (mm - 0 + 1) F1 (0) (0) o0 hi hag (by omega) (rfl) (by omega) (by omega)
    · skip
      have hpn : pDg ty ip h1_2 mm = (0, 0) := pDg_no (i := 0) rfl (fun h9 => c_25 ((sg_in hs (by decide) (by decide)).mpr h9)) (Nat.zero_le _)
      refine x_aload_n hC d_MessageCoderModel_behind_28 rfl rfl ?_
      refine x_aload_n hC d_MessageCoderModel_behind_29 rfl rfl ?_
      refine x_getf hC kf_MessageCoderModel_239 o0 rfl d_MessageCoderModel_behind_30 ?_
      refine x_putf hC kf_MessageCoderModel_242 o0 (Nat.le_of_ble_eq_true rfl) rfl rfl d_MessageCoderModel_behind_33 (fs1 := [.int (nI (th)), .ref (m + 1), .int (nI (ch)), .int (nI (sv)), .int rs, .ref (m + 2), .ref (m + 3), .ref (m + 4), .ref (m + 5), .ref (m + 6), .int (nI (bm)), .ref (m + 7), .int (nI (dm)), .ref (m + 8), .ref (m + 9), .int (nI (lz)), .ref (m + 10), .int (nI (ty)), .int (nI (h1_2)), .int (nI (h1_2)), .int ea, .int fa, .ref (m + 11), .int (nI (cn))]) rfl ?_
      generalize e3 : xup F1 (m) (.inl (10, [.int (nI (th)), .ref (m + 1), .int (nI (ch)), .int (nI (sv)), .int rs, .ref (m + 2), .ref (m + 3), .ref (m + 4), .ref (m + 5), .ref (m + 6), .int (nI (bm)), .ref (m + 7), .int (nI (dm)), .ref (m + 8), .ref (m + 9), .int (nI (lz)), .ref (m + 10), .int (nI (ty)), .int (nI (h1_2)), .int (nI (h1_2)), .int ea, .int fa, .ref (m + 11), .int (nI (cn))])) = F3
      have o0 : F3 (m) = some (.inl (10, [.int (nI (th)), .ref (m + 1), .int (nI (ch)), .int (nI (sv)), .int rs, .ref (m + 2), .ref (m + 3), .ref (m + 4), .ref (m + 5), .ref (m + 6), .int (nI (bm)), .ref (m + 7), .int (nI (dm)), .ref (m + 8), .ref (m + 9), .int (nI (lz)), .ref (m + 10), .int (nI (ty)), .int (nI (h1_2)), .int (nI (h1_2)), .int ea, .int fa, .ref (m + 11), .int (nI (cn))])) := by rw [← e3]; exact xup_eq
      have hi : F3 (m + 10) = some (.inr (1, 60, fun b9 => .int (nI (ip b9)))) := by rw [← e3]; exact (xup_ne (by omega)).trans hi
      have hag : ∀ a9 : Nat, (a9 < m ∨ m + 1 ≤ a9) → F3 a9 = F a9 := fun a9 q0 => by rw [← e3]; exact (xup_ne (by omega)).trans (hag a9 q0)
      refine x_iconst hC d_MessageCoderModel_behind_36 (v := nI 0) (by decide) ?_
      refine hret _ _ _ _ _ _ _ d_MessageCoderModel_behind_37 (by decide) (by decide) rfl ?_
      have hb9 : bh ty ip c mm (h, e) = ((h1_2, h1_2 + 1), 0) := by unfold bh; rw [pk_2]; exact (if_pos he0).trans (if_neg (by show ¬ 0 < (pDg ty ip h1_2 mm).1; rw [hpn]; exact Nat.lt_irrefl 0))
      exact ⟨h1_2, h1_2 + 1, 0, rfl, rfl, o0, hi, hb9, hag⟩
  · skip
    have he1 : ¬ e1_2 = 0 := fun h9 => c_9 ((eI_lt (by omega)).mpr h9)
    refine x_iconst hC d_MessageCoderModel_behind_12 (v := nI 0) (by decide) ?_
    refine hret _ _ _ _ _ _ _ d_MessageCoderModel_behind_13 (by decide) (by decide) rfl ?_
    have hb9 : bh ty ip c mm (h, e) = ((h1_2, e1_2), 0) := by unfold bh; rw [pk_2]; exact if_neg he1
    exact ⟨h1_2, e1_2, 0, rfl, rfl, o0, hi, hb9, hag⟩

