/-! the reference: its reading of commands' tails -/
def wgQ (n : Nat) (s : Nat → Nat) (q : Nat × Nat) : (Nat × Nat) × Nat × Nat := ((bh n s 61 3 (syQ n s (nd n s 32 (nd n s 116 (nd n s 104 (nd n s 103 (nd n s 105 (nd n s 101 q))))))).1).1, (syQ n s (nd n s 32 (nd n s 116 (nd n s 104 (nd n s 103 (nd n s 105 (nd n s 101 q))))))).2, (bh n s 61 3 (syQ n s (nd n s 32 (nd n s 116 (nd n s 104 (nd n s 103 (nd n s 105 (nd n s 101 q))))))).1).2)
def huQ (n : Nat) (s : Nat → Nat) (q : Nat × Nat) : (Nat × Nat) × Nat × Nat := ((bh n s 32 1 (bh n s 32 3 (nd n s 121 (nd n s 114 (nd n s 114 (nd n s 117 q))))).1).1, (bh n s 32 3 (nd n s 121 (nd n s 114 (nd n s 114 (nd n s 117 q))))).2, (bh n s 32 1 (bh n s 32 3 (nd n s 121 (nd n s 114 (nd n s 114 (nd n s 117 q))))).1).2)
def reQ (n : Nat) (s : Nat → Nat) (q : Nat × Nat) : Nat × Nat := nd n s 101 (nd n s 118 (nd n s 105 (nd n s 101 (nd n s 99 (nd n s 101 q)))))

theorem d_MessageCoderModel_receiving_0 : decode prog_14_method_115_code 0 = .ok (.aload_n 0, 1) := by decide +kernel
theorem d_MessageCoderModel_receiving_1 : decode prog_14_method_115_code 1 = .ok (.bipush 101, 2) := by decide +kernel
theorem d_MessageCoderModel_receiving_3 : decode prog_14_method_115_code 3 = .ok (.bipush 99, 2) := by decide +kernel
theorem d_MessageCoderModel_receiving_5 : decode prog_14_method_115_code 5 = .ok (.bipush 101, 2) := by decide +kernel
theorem d_MessageCoderModel_receiving_7 : decode prog_14_method_115_code 7 = .ok (.invokevirtual 251, 3) := by decide +kernel
theorem d_MessageCoderModel_receiving_10 : decode prog_14_method_115_code 10 = .ok (.aload_n 0, 1) := by decide +kernel
theorem d_MessageCoderModel_receiving_11 : decode prog_14_method_115_code 11 = .ok (.bipush 105, 2) := by decide +kernel
theorem d_MessageCoderModel_receiving_13 : decode prog_14_method_115_code 13 = .ok (.bipush 118, 2) := by decide +kernel
theorem d_MessageCoderModel_receiving_15 : decode prog_14_method_115_code 15 = .ok (.bipush 101, 2) := by decide +kernel
theorem d_MessageCoderModel_receiving_17 : decode prog_14_method_115_code 17 = .ok (.invokevirtual 251, 3) := by decide +kernel
theorem d_MessageCoderModel_receiving_20 : decode prog_14_method_115_code 20 = .ok (.return_, 1) := by decide +kernel
set_option maxHeartbeats 4000000 in
set_option maxRecDepth 20000 in
theorem c_MessageCoderModel_receiving {P : xP} {F : xF} {z : Nat} {m : Nat} {th : Nat} {ch : Nat} {sv : Nat} {rs : Int32} {bm : Nat} {dm : Nat} {lz : Nat} {ty : Nat} {ea : Int32} {fa : Int32} {cn : Nat} {ip : Nat → Nat} {h : Nat} {e : Nat} (o0 : F (m) = some (.inl (10, [.int (nI (th)), .ref (m + 1), .int (nI (ch)), .int (nI (sv)), .int rs, .ref (m + 2), .ref (m + 3), .ref (m + 4), .ref (m + 5), .ref (m + 6), .int (nI (bm)), .ref (m + 7), .int (nI (dm)), .ref (m + 8), .ref (m + 9), .int (nI (lz)), .ref (m + 10), .int (nI (ty)), .int (nI (h)), .int (eI (e)), .int ea, .int fa, .ref (m + 11), .int (nI (cn))]))) (hi : F (m + 10) = some (.inr (1, 60, fun b9 => .int (nI (ip b9))))) (hs : ∀ j, j < ty → ip j < 65536) (hty : ty ≤ 60) (hq : qB ty (h, e)) : xM P xy_MessageCoderModel_receiving [.ref m] F (z) 0 0 (fun r9 F9 z9 => ∃ h1 : Nat, ∃ e1 : Nat, r9 = none ∧ z9 = z ∧ F9 (m) = some (.inl (10, [.int (nI (th)), .ref (m + 1), .int (nI (ch)), .int (nI (sv)), .int rs, .ref (m + 2), .ref (m + 3), .ref (m + 4), .ref (m + 5), .ref (m + 6), .int (nI (bm)), .ref (m + 7), .int (nI (dm)), .ref (m + 8), .ref (m + 9), .int (nI (lz)), .ref (m + 10), .int (nI (ty)), .int (nI (h1)), .int (eI (e1)), .int ea, .int fa, .ref (m + 11), .int (nI (cn))])) ∧ F9 (m + 10) = some (.inr (1, 60, fun b9 => .int (nI (ip b9)))) ∧ (reQ ty ip (h, e) = (h1, e1)) ∧ (∀ a9 : Nat, (a9 < m ∨ m + 1 ≤ a9) → F9 a9 = F a9)) := by
  refine xM_v rfl (Nat.le_of_ble_eq_true rfl) (L0 := [some (.ref m)]) rfl rfl fun Θ hC hin hret => ?_
  have hag : ∀ a9 : Nat, (a9 < m ∨ m + 1 ≤ a9) → F a9 = F a9 := fun a9 _ => rfl
  refine x_aload_n hC d_MessageCoderModel_receiving_0 rfl rfl ?_
  refine x_bipush hC d_MessageCoderModel_receiving_1 (v := nI 101) (by decide) ?_
  refine x_bipush hC d_MessageCoderModel_receiving_3 (v := nI 99) (by decide) ?_
  refine x_bipush hC d_MessageCoderModel_receiving_5 (v := nI 101) (by decide) ?_
  refine x_callV hC kv_MessageCoderModel_251 (c_MessageCoderModel_letters (o0 := o0) (hi := hi) (hs := hs) (hty := hty) (hq := hq) (h1c := by omega) (h2c := by omega) (h3c := by omega)) o0 rfl rfl (by decide) rfl rfl rfl (Nat.le_of_ble_eq_true rfl) (by decide) d_MessageCoderModel_receiving_7 (fun r9 F9 z9 hp9 => ?_)
  obtain ⟨h1_7, e1_7, rfl, h9c, j0, j1, pk_7, hag9⟩ := hp9
  rw [h9c]
  clear h9c z9
  generalize F9 = F1 at *
  have o0 : F1 (m) = some (.inl (10, [.int (nI (th)), .ref (m + 1), .int (nI (ch)), .int (nI (sv)), .int rs, .ref (m + 2), .ref (m + 3), .ref (m + 4), .ref (m + 5), .ref (m + 6), .int (nI (bm)), .ref (m + 7), .int (nI (dm)), .ref (m + 8), .ref (m + 9), .int (nI (lz)), .ref (m + 10), .int (nI (ty)), .int (nI (h1_7)), .int (eI (e1_7)), .int ea, .int fa, .ref (m + 11), .int (nI (cn))])) := j0
  have hi : F1 (m + 10) = some (.inr (1, 60, fun b9 => .int (nI (ip b9)))) := j1
  have hag : ∀ a9 : Nat, (a9 < m ∨ m + 1 ≤ a9) → F1 a9 = F a9 := fun a9 q0 => (hag9 a9 (by omega)).trans (hag a9 q0)
  have hg_7 := hag9
  clear hag9
  have hq_7 : qB ty (h1_7, e1_7) := by rw [← pk_7]; exact nd_B (nd_B (nd_B hq))
  refine x_aload_n hC d_MessageCoderModel_receiving_10 rfl rfl ?_
  refine x_bipush hC d_MessageCoderModel_receiving_11 (v := nI 105) (by decide) ?_
  refine x_bipush hC d_MessageCoderModel_receiving_13 (v := nI 118) (by decide) ?_
  refine x_bipush hC d_MessageCoderModel_receiving_15 (v := nI 101) (by decide) ?_
  refine x_callV hC kv_MessageCoderModel_251 (c_MessageCoderModel_letters (o0 := o0) (hi := hi) (hs := hs) (hty := hty) (hq := hq_7) (h1c := by omega) (h2c := by omega) (h3c := by omega)) o0 rfl rfl (by decide) rfl rfl rfl (Nat.le_of_ble_eq_true rfl) (by decide) d_MessageCoderModel_receiving_17 (fun r9 F9 z9 hp9 => ?_)
  obtain ⟨h1_17, e1_17, rfl, h9c, j0, j1, pk_17, hag9⟩ := hp9
  rw [h9c]
  clear h9c z9
  generalize F9 = F2 at *
  have o0 : F2 (m) = some (.inl (10, [.int (nI (th)), .ref (m + 1), .int (nI (ch)), .int (nI (sv)), .int rs, .ref (m + 2), .ref (m + 3), .ref (m + 4), .ref (m + 5), .ref (m + 6), .int (nI (bm)), .ref (m + 7), .int (nI (dm)), .ref (m + 8), .ref (m + 9), .int (nI (lz)), .ref (m + 10), .int (nI (ty)), .int (nI (h1_17)), .int (eI (e1_17)), .int ea, .int fa, .ref (m + 11), .int (nI (cn))])) := j0
  have hi : F2 (m + 10) = some (.inr (1, 60, fun b9 => .int (nI (ip b9)))) := j1
  have hag : ∀ a9 : Nat, (a9 < m ∨ m + 1 ≤ a9) → F2 a9 = F a9 := fun a9 q0 => (hag9 a9 (by omega)).trans (hag a9 q0)
  have hg_17 := hag9
  clear hag9
  exact hret _ _ _ _ _ _ d_MessageCoderModel_receiving_20 (by decide) (by decide) (⟨h1_17, e1_17, rfl, rfl, o0, hi, by unfold reQ; rw [pk_7]; exact pk_17, hag⟩)

theorem d_MessageCoderModel_weighing_0 : decode prog_14_method_113_code 0 = .ok (.aload_n 0, 1) := by decide +kernel
theorem d_MessageCoderModel_weighing_1 : decode prog_14_method_113_code 1 = .ok (.bipush 101, 2) := by decide +kernel
theorem d_MessageCoderModel_weighing_3 : decode prog_14_method_113_code 3 = .ok (.bipush 105, 2) := by decide +kernel
theorem d_MessageCoderModel_weighing_5 : decode prog_14_method_113_code 5 = .ok (.bipush 103, 2) := by decide +kernel
theorem d_MessageCoderModel_weighing_7 : decode prog_14_method_113_code 7 = .ok (.invokevirtual 251, 3) := by decide +kernel
theorem d_MessageCoderModel_weighing_10 : decode prog_14_method_113_code 10 = .ok (.aload_n 0, 1) := by decide +kernel
theorem d_MessageCoderModel_weighing_11 : decode prog_14_method_113_code 11 = .ok (.bipush 104, 2) := by decide +kernel
theorem d_MessageCoderModel_weighing_13 : decode prog_14_method_113_code 13 = .ok (.bipush 116, 2) := by decide +kernel
theorem d_MessageCoderModel_weighing_15 : decode prog_14_method_113_code 15 = .ok (.bipush 32, 2) := by decide +kernel
theorem d_MessageCoderModel_weighing_17 : decode prog_14_method_113_code 17 = .ok (.invokevirtual 251, 3) := by decide +kernel
theorem d_MessageCoderModel_weighing_20 : decode prog_14_method_113_code 20 = .ok (.aload_n 0, 1) := by decide +kernel
theorem d_MessageCoderModel_weighing_21 : decode prog_14_method_113_code 21 = .ok (.getfield 48, 3) := by decide +kernel
theorem d_MessageCoderModel_weighing_24 : decode prog_14_method_113_code 24 = .ok (.iload_n 1, 1) := by decide +kernel
theorem d_MessageCoderModel_weighing_25 : decode prog_14_method_113_code 25 = .ok (.iconst 1, 1) := by decide +kernel
theorem d_MessageCoderModel_weighing_26 : decode prog_14_method_113_code 26 = .ok (.iadd, 1) := by decide +kernel
theorem d_MessageCoderModel_weighing_27 : decode prog_14_method_113_code 27 = .ok (.aload_n 0, 1) := by decide +kernel
theorem d_MessageCoderModel_weighing_28 : decode prog_14_method_113_code 28 = .ok (.invokevirtual 255, 3) := by decide +kernel
theorem d_MessageCoderModel_weighing_31 : decode prog_14_method_113_code 31 = .ok (.iastore, 1) := by decide +kernel
theorem d_MessageCoderModel_weighing_32 : decode prog_14_method_113_code 32 = .ok (.aload_n 0, 1) := by decide +kernel
theorem d_MessageCoderModel_weighing_33 : decode prog_14_method_113_code 33 = .ok (.getfield 48, 3) := by decide +kernel
theorem d_MessageCoderModel_weighing_36 : decode prog_14_method_113_code 36 = .ok (.iload_n 1, 1) := by decide +kernel
theorem d_MessageCoderModel_weighing_37 : decode prog_14_method_113_code 37 = .ok (.iconst 2, 1) := by decide +kernel
theorem d_MessageCoderModel_weighing_38 : decode prog_14_method_113_code 38 = .ok (.iadd, 1) := by decide +kernel
theorem d_MessageCoderModel_weighing_39 : decode prog_14_method_113_code 39 = .ok (.aload_n 0, 1) := by decide +kernel
theorem d_MessageCoderModel_weighing_40 : decode prog_14_method_113_code 40 = .ok (.bipush 61, 2) := by decide +kernel
theorem d_MessageCoderModel_weighing_42 : decode prog_14_method_113_code 42 = .ok (.iconst 3, 1) := by decide +kernel
theorem d_MessageCoderModel_weighing_43 : decode prog_14_method_113_code 43 = .ok (.invokevirtual 261, 3) := by decide +kernel
theorem d_MessageCoderModel_weighing_46 : decode prog_14_method_113_code 46 = .ok (.iastore, 1) := by decide +kernel
theorem d_MessageCoderModel_weighing_47 : decode prog_14_method_113_code 47 = .ok (.return_, 1) := by decide +kernel
set_option maxHeartbeats 4000000 in
set_option maxRecDepth 20000 in
theorem c_MessageCoderModel_weighing {P : xP} {F : xF} {z : Nat} {m : Nat} {th : Nat} {ch : Nat} {sv : Nat} {rs : Int32} {bm : Nat} {dm : Nat} {lz : Nat} {ty : Nat} {ea : Int32} {fa : Int32} {cn : Nat} {ip : Nat → Nat} {h : Nat} {e : Nat} {r : Nat} {cs : Nat → Nat} (o0 : F (m) = some (.inl (10, [.int (nI (th)), .ref (m + 1), .int (nI (ch)), .int (nI (sv)), .int rs, .ref (m + 2), .ref (m + 3), .ref (m + 4), .ref (m + 5), .ref (m + 6), .int (nI (bm)), .ref (m + 7), .int (nI (dm)), .ref (m + 8), .ref (m + 9), .int (nI (lz)), .ref (m + 10), .int (nI (ty)), .int (nI (h)), .int (eI (e)), .int ea, .int fa, .ref (m + 11), .int (nI (cn))]))) (hi : F (m + 10) = some (.inr (1, 60, fun b9 => .int (nI (ip b9))))) (hcm : F (m + 11) = some (.inr (0, 183, fun b9 => .int (nI (cs b9))))) (hs : ∀ j, j < ty → ip j < 65536) (hty : ty ≤ 60) (hq : qB ty (h, e)) (hr : r + 2 < 183) : xM P xy_MessageCoderModel_weighing [.ref m, .int (nI (r))] F (z) 0 0 (fun r9 F9 z9 => ∃ h1 : Nat, ∃ e1 : Nat, ∃ y1 : Nat, ∃ v1 : Nat, r9 = none ∧ z9 = z ∧ F9 (m) = some (.inl (10, [.int (nI (th)), .ref (m + 1), .int (nI (ch)), .int (nI (sv)), .int rs, .ref (m + 2), .ref (m + 3), .ref (m + 4), .ref (m + 5), .ref (m + 6), .int (nI (bm)), .ref (m + 7), .int (nI (dm)), .ref (m + 8), .ref (m + 9), .int (nI (lz)), .ref (m + 10), .int (nI (ty)), .int (nI (h1)), .int (eI (e1)), .int ea, .int fa, .ref (m + 11), .int (nI (cn))])) ∧ F9 (m + 10) = some (.inr (1, 60, fun b9 => .int (nI (ip b9)))) ∧ F9 (m + 11) = some (.inr (0, 183, fun b9 => .int (nI ((updN (updN cs (r + 1) y1) (r + 2) v1) b9)))) ∧ (wgQ ty ip (h, e) = ((h1, e1), y1, v1)) ∧ (y1 < 105 ∧ v1 < 1000 ∧ qB ty (h1, e1)) ∧ (∀ a9 : Nat, (a9 < m ∨ m + 1 ≤ a9) → (a9 < m + 11 ∨ m + 11 + 1 ≤ a9) → F9 a9 = F a9)) := by
  refine xM_v rfl (Nat.le_of_ble_eq_true rfl) (L0 := [some (.ref m), some (.int (nI (r)))]) rfl rfl fun Θ hC hin hret => ?_
  have hag : ∀ a9 : Nat, (a9 < m ∨ m + 1 ≤ a9) → (a9 < m + 11 ∨ m + 11 + 1 ≤ a9) → F a9 = F a9 := fun a9 _ _ => rfl
  refine x_aload_n hC d_MessageCoderModel_weighing_0 rfl rfl ?_
  refine x_bipush hC d_MessageCoderModel_weighing_1 (v := nI 101) (by decide) ?_
  refine x_bipush hC d_MessageCoderModel_weighing_3 (v := nI 105) (by decide) ?_
  refine x_bipush hC d_MessageCoderModel_weighing_5 (v := nI 103) (by decide) ?_
  refine x_callV hC kv_MessageCoderModel_251 (c_MessageCoderModel_letters (o0 := o0) (hi := hi) (hs := hs) (hty := hty) (hq := hq) (h1c := by omega) (h2c := by omega) (h3c := by omega)) o0 rfl rfl (by decide) rfl rfl rfl (Nat.le_of_ble_eq_true rfl) (by decide) d_MessageCoderModel_weighing_7 (fun r9 F9 z9 hp9 => ?_)
  obtain ⟨h1_7, e1_7, rfl, h9c, j0, j1, pk_7, hag9⟩ := hp9
  rw [h9c]
  clear h9c z9
  generalize F9 = F1 at *
  have hcm : F1 (m + 11) = some (.inr (0, 183, fun b9 => .int (nI (cs b9)))) := (hag9 _ (by omega)).trans hcm
  have o0 : F1 (m) = some (.inl (10, [.int (nI (th)), .ref (m + 1), .int (nI (ch)), .int (nI (sv)), .int rs, .ref (m + 2), .ref (m + 3), .ref (m + 4), .ref (m + 5), .ref (m + 6), .int (nI (bm)), .ref (m + 7), .int (nI (dm)), .ref (m + 8), .ref (m + 9), .int (nI (lz)), .ref (m + 10), .int (nI (ty)), .int (nI (h1_7)), .int (eI (e1_7)), .int ea, .int fa, .ref (m + 11), .int (nI (cn))])) := j0
  have hi : F1 (m + 10) = some (.inr (1, 60, fun b9 => .int (nI (ip b9)))) := j1
  have hag : ∀ a9 : Nat, (a9 < m ∨ m + 1 ≤ a9) → (a9 < m + 11 ∨ m + 11 + 1 ≤ a9) → F1 a9 = F a9 := fun a9 q0 q1 => (hag9 a9 (by omega)).trans (hag a9 q0 q1)
  have hg_7 := hag9
  clear hag9
  have hq_7 : qB ty (h1_7, e1_7) := by rw [← pk_7]; exact nd_B (nd_B (nd_B hq))
  refine x_aload_n hC d_MessageCoderModel_weighing_10 rfl rfl ?_
  refine x_bipush hC d_MessageCoderModel_weighing_11 (v := nI 104) (by decide) ?_
  refine x_bipush hC d_MessageCoderModel_weighing_13 (v := nI 116) (by decide) ?_
  refine x_bipush hC d_MessageCoderModel_weighing_15 (v := nI 32) (by decide) ?_
  refine x_callV hC kv_MessageCoderModel_251 (c_MessageCoderModel_letters (o0 := o0) (hi := hi) (hs := hs) (hty := hty) (hq := hq_7) (h1c := by omega) (h2c := by omega) (h3c := by omega)) o0 rfl rfl (by decide) rfl rfl rfl (Nat.le_of_ble_eq_true rfl) (by decide) d_MessageCoderModel_weighing_17 (fun r9 F9 z9 hp9 => ?_)
  obtain ⟨h1_17, e1_17, rfl, h9c, j0, j1, pk_17, hag9⟩ := hp9
  rw [h9c]
  clear h9c z9
  generalize F9 = F2 at *
  have hcm : F2 (m + 11) = some (.inr (0, 183, fun b9 => .int (nI (cs b9)))) := (hag9 _ (by omega)).trans hcm
  have o0 : F2 (m) = some (.inl (10, [.int (nI (th)), .ref (m + 1), .int (nI (ch)), .int (nI (sv)), .int rs, .ref (m + 2), .ref (m + 3), .ref (m + 4), .ref (m + 5), .ref (m + 6), .int (nI (bm)), .ref (m + 7), .int (nI (dm)), .ref (m + 8), .ref (m + 9), .int (nI (lz)), .ref (m + 10), .int (nI (ty)), .int (nI (h1_17)), .int (eI (e1_17)), .int ea, .int fa, .ref (m + 11), .int (nI (cn))])) := j0
  have hi : F2 (m + 10) = some (.inr (1, 60, fun b9 => .int (nI (ip b9)))) := j1
  have hag : ∀ a9 : Nat, (a9 < m ∨ m + 1 ≤ a9) → (a9 < m + 11 ∨ m + 11 + 1 ≤ a9) → F2 a9 = F a9 := fun a9 q0 q1 => (hag9 a9 (by omega)).trans (hag a9 q0 q1)
  have hg_17 := hag9
  clear hag9
  have hq_17 : qB ty (h1_17, e1_17) := by rw [← pk_17]; exact nd_B (nd_B (nd_B hq_7))
  refine x_aload_n hC d_MessageCoderModel_weighing_20 rfl rfl ?_
  refine x_getf hC kf_MessageCoderModel_48 o0 rfl d_MessageCoderModel_weighing_21 ?_
  refine x_iload_n hC d_MessageCoderModel_weighing_24 rfl rfl ?_
  refine x_iconst hC d_MessageCoderModel_weighing_25 (v := nI 1) (by decide) ?_
  refine x_iadd hC d_MessageCoderModel_weighing_26 (v := (nI (r + 1))) (x_addN (by omega)) ?_
  refine x_aload_n hC d_MessageCoderModel_weighing_27 rfl rfl ?_
  refine x_callV hC kv_MessageCoderModel_255 (c_MessageCoderModel_needsSymbol (o0 := o0) (hi := hi) (hs := hs) (hty := hty) (hq := hq_17)) o0 rfl rfl (by decide) rfl rfl rfl (Nat.le_of_ble_eq_true rfl) (by decide) d_MessageCoderModel_weighing_28 (fun r9 F9 z9 hp9 => ?_)
  obtain ⟨h1_28, e1_28, v1_28, rfl, h9c, j0, j1, pk_28, hag9⟩ := hp9
  rw [h9c]
  clear h9c z9
  generalize F9 = F3 at *
  have hcm : F3 (m + 11) = some (.inr (0, 183, fun b9 => .int (nI (cs b9)))) := (hag9 _ (by omega)).trans hcm
  have o0 : F3 (m) = some (.inl (10, [.int (nI (th)), .ref (m + 1), .int (nI (ch)), .int (nI (sv)), .int rs, .ref (m + 2), .ref (m + 3), .ref (m + 4), .ref (m + 5), .ref (m + 6), .int (nI (bm)), .ref (m + 7), .int (nI (dm)), .ref (m + 8), .ref (m + 9), .int (nI (lz)), .ref (m + 10), .int (nI (ty)), .int (nI (h1_28)), .int (eI (e1_28)), .int ea, .int fa, .ref (m + 11), .int (nI (cn))])) := j0
  have hi : F3 (m + 10) = some (.inr (1, 60, fun b9 => .int (nI (ip b9)))) := j1
  have hag : ∀ a9 : Nat, (a9 < m ∨ m + 1 ≤ a9) → (a9 < m + 11 ∨ m + 11 + 1 ≤ a9) → F3 a9 = F a9 := fun a9 q0 q1 => (hag9 a9 (by omega)).trans (hag a9 q0 q1)
  have hg_28 := hag9
  clear hag9
  have hq_28 : qB ty (h1_28, e1_28) ∧ v1_28 < 105 := by have h9 := syQ_B (s := ip) hq_17; rw [pk_28] at h9; exact h9
  refine x_iast hC hcm (j := r + 1) ⟨rfl, by omega, by omega⟩ d_MessageCoderModel_weighing_31 (g1 := fun b9 => nI (updN cs (r + 1) (v1_28) b9)) (x_updN _ _ _) ?_
  generalize eg1 : updN cs (r + 1) (v1_28) = g1
  generalize e5 : xup F3 (m + 11) (.inr (0, 183, fun b9 => .int (nI (g1 b9)))) = F5
  have hcm : F5 (m + 11) = some (.inr (0, 183, fun b9 => .int (nI (g1 b9)))) := by rw [← e5]; exact xup_eq
  have o0 : F5 (m) = some (.inl (10, [.int (nI (th)), .ref (m + 1), .int (nI (ch)), .int (nI (sv)), .int rs, .ref (m + 2), .ref (m + 3), .ref (m + 4), .ref (m + 5), .ref (m + 6), .int (nI (bm)), .ref (m + 7), .int (nI (dm)), .ref (m + 8), .ref (m + 9), .int (nI (lz)), .ref (m + 10), .int (nI (ty)), .int (nI (h1_28)), .int (eI (e1_28)), .int ea, .int fa, .ref (m + 11), .int (nI (cn))])) := by rw [← e5]; exact (xup_ne (by omega)).trans o0
  have hi : F5 (m + 10) = some (.inr (1, 60, fun b9 => .int (nI (ip b9)))) := by rw [← e5]; exact (xup_ne (by omega)).trans hi
  have hag : ∀ a9 : Nat, (a9 < m ∨ m + 1 ≤ a9) → (a9 < m + 11 ∨ m + 11 + 1 ≤ a9) → F5 a9 = F a9 := fun a9 q0 q1 => by rw [← e5]; exact (xup_ne (by omega)).trans (hag a9 q0 q1)
  refine x_aload_n hC d_MessageCoderModel_weighing_32 rfl rfl ?_
  refine x_getf hC kf_MessageCoderModel_48 o0 rfl d_MessageCoderModel_weighing_33 ?_
  refine x_iload_n hC d_MessageCoderModel_weighing_36 rfl rfl ?_
  refine x_iconst hC d_MessageCoderModel_weighing_37 (v := nI 2) (by decide) ?_
  refine x_iadd hC d_MessageCoderModel_weighing_38 (v := (nI (r + 2))) (x_addN (by omega)) ?_
  refine x_aload_n hC d_MessageCoderModel_weighing_39 rfl rfl ?_
  refine x_bipush hC d_MessageCoderModel_weighing_40 (v := nI 61) (by decide) ?_
  refine x_iconst hC d_MessageCoderModel_weighing_42 (v := nI 3) (by decide) ?_
  refine x_callV hC kv_MessageCoderModel_261 (c_MessageCoderModel_behind (o0 := o0) (hi := hi) (hs := hs) (hty := hty) (hq := hq_28.1) (hc := by omega) (hmm := by omega)) o0 rfl rfl (by decide) rfl rfl rfl (Nat.le_of_ble_eq_true rfl) (by decide) d_MessageCoderModel_weighing_43 (fun r9 F9 z9 hp9 => ?_)
  obtain ⟨h1_43, e1_43, v1_43, rfl, h9c, j0, j1, pk_43, hag9⟩ := hp9
  rw [h9c]
  clear h9c z9
  generalize F9 = F6 at *
  have hcm : F6 (m + 11) = some (.inr (0, 183, fun b9 => .int (nI (g1 b9)))) := (hag9 _ (by omega)).trans hcm
  have o0 : F6 (m) = some (.inl (10, [.int (nI (th)), .ref (m + 1), .int (nI (ch)), .int (nI (sv)), .int rs, .ref (m + 2), .ref (m + 3), .ref (m + 4), .ref (m + 5), .ref (m + 6), .int (nI (bm)), .ref (m + 7), .int (nI (dm)), .ref (m + 8), .ref (m + 9), .int (nI (lz)), .ref (m + 10), .int (nI (ty)), .int (nI (h1_43)), .int (eI (e1_43)), .int ea, .int fa, .ref (m + 11), .int (nI (cn))])) := j0
  have hi : F6 (m + 10) = some (.inr (1, 60, fun b9 => .int (nI (ip b9)))) := j1
  have hag : ∀ a9 : Nat, (a9 < m ∨ m + 1 ≤ a9) → (a9 < m + 11 ∨ m + 11 + 1 ≤ a9) → F6 a9 = F a9 := fun a9 q0 q1 => (hag9 a9 (by omega)).trans (hag a9 q0 q1)
  have hg_43 := hag9
  clear hag9
  have hq_43 : qB ty (h1_43, e1_43) ∧ v1_43 < 1000 := by have h9 := bh_B (s := ip) (c := 61) (m := 3) hq_28.1 (by omega); rw [pk_43] at h9; exact h9
  refine x_iast hC hcm (j := r + 2) ⟨rfl, by omega, by omega⟩ d_MessageCoderModel_weighing_46 (g1 := fun b9 => nI (updN g1 (r + 2) (v1_43) b9)) (x_updN _ _ _) ?_
  generalize eg2 : updN g1 (r + 2) (v1_43) = g2
  generalize e8 : xup F6 (m + 11) (.inr (0, 183, fun b9 => .int (nI (g2 b9)))) = F8
  have hcm : F8 (m + 11) = some (.inr (0, 183, fun b9 => .int (nI (g2 b9)))) := by rw [← e8]; exact xup_eq
  have o0 : F8 (m) = some (.inl (10, [.int (nI (th)), .ref (m + 1), .int (nI (ch)), .int (nI (sv)), .int rs, .ref (m + 2), .ref (m + 3), .ref (m + 4), .ref (m + 5), .ref (m + 6), .int (nI (bm)), .ref (m + 7), .int (nI (dm)), .ref (m + 8), .ref (m + 9), .int (nI (lz)), .ref (m + 10), .int (nI (ty)), .int (nI (h1_43)), .int (eI (e1_43)), .int ea, .int fa, .ref (m + 11), .int (nI (cn))])) := by rw [← e8]; exact (xup_ne (by omega)).trans o0
  have hi : F8 (m + 10) = some (.inr (1, 60, fun b9 => .int (nI (ip b9)))) := by rw [← e8]; exact (xup_ne (by omega)).trans hi
  have hag : ∀ a9 : Nat, (a9 < m ∨ m + 1 ≤ a9) → (a9 < m + 11 ∨ m + 11 + 1 ≤ a9) → F8 a9 = F a9 := fun a9 q0 q1 => by rw [← e8]; exact (xup_ne (by omega)).trans (hag a9 q0 q1)
  exact hret _ _ _ _ _ _ d_MessageCoderModel_weighing_47 (by decide) (by decide) (⟨h1_43, e1_43, v1_28, v1_43, rfl, rfl, o0, hi, by rw [eg1, eg2]; exact hcm, by unfold wgQ; rw [pk_7, pk_17, pk_28, pk_43], ⟨hq_28.2, hq_43.2, hq_43.1⟩, hag⟩)

theorem d_MessageCoderModel_hurrying_0 : decode prog_14_method_114_code 0 = .ok (.aload_n 0, 1) := by decide +kernel
theorem d_MessageCoderModel_hurrying_1 : decode prog_14_method_114_code 1 = .ok (.bipush 117, 2) := by decide +kernel
theorem d_MessageCoderModel_hurrying_3 : decode prog_14_method_114_code 3 = .ok (.bipush 114, 2) := by decide +kernel
theorem d_MessageCoderModel_hurrying_5 : decode prog_14_method_114_code 5 = .ok (.bipush 114, 2) := by decide +kernel
theorem d_MessageCoderModel_hurrying_7 : decode prog_14_method_114_code 7 = .ok (.invokevirtual 251, 3) := by decide +kernel
theorem d_MessageCoderModel_hurrying_10 : decode prog_14_method_114_code 10 = .ok (.aload_n 0, 1) := by decide +kernel
theorem d_MessageCoderModel_hurrying_11 : decode prog_14_method_114_code 11 = .ok (.bipush 121, 2) := by decide +kernel
theorem d_MessageCoderModel_hurrying_13 : decode prog_14_method_114_code 13 = .ok (.invokevirtual 248, 3) := by decide +kernel
theorem d_MessageCoderModel_hurrying_16 : decode prog_14_method_114_code 16 = .ok (.aload_n 0, 1) := by decide +kernel
theorem d_MessageCoderModel_hurrying_17 : decode prog_14_method_114_code 17 = .ok (.getfield 48, 3) := by decide +kernel
theorem d_MessageCoderModel_hurrying_20 : decode prog_14_method_114_code 20 = .ok (.iload_n 1, 1) := by decide +kernel
theorem d_MessageCoderModel_hurrying_21 : decode prog_14_method_114_code 21 = .ok (.iconst 1, 1) := by decide +kernel
theorem d_MessageCoderModel_hurrying_22 : decode prog_14_method_114_code 22 = .ok (.iadd, 1) := by decide +kernel
theorem d_MessageCoderModel_hurrying_23 : decode prog_14_method_114_code 23 = .ok (.aload_n 0, 1) := by decide +kernel
theorem d_MessageCoderModel_hurrying_24 : decode prog_14_method_114_code 24 = .ok (.bipush 32, 2) := by decide +kernel
theorem d_MessageCoderModel_hurrying_26 : decode prog_14_method_114_code 26 = .ok (.iconst 3, 1) := by decide +kernel
theorem d_MessageCoderModel_hurrying_27 : decode prog_14_method_114_code 27 = .ok (.invokevirtual 261, 3) := by decide +kernel
theorem d_MessageCoderModel_hurrying_30 : decode prog_14_method_114_code 30 = .ok (.iastore, 1) := by decide +kernel
theorem d_MessageCoderModel_hurrying_31 : decode prog_14_method_114_code 31 = .ok (.aload_n 0, 1) := by decide +kernel
theorem d_MessageCoderModel_hurrying_32 : decode prog_14_method_114_code 32 = .ok (.getfield 48, 3) := by decide +kernel
theorem d_MessageCoderModel_hurrying_35 : decode prog_14_method_114_code 35 = .ok (.iload_n 1, 1) := by decide +kernel
theorem d_MessageCoderModel_hurrying_36 : decode prog_14_method_114_code 36 = .ok (.iconst 2, 1) := by decide +kernel
theorem d_MessageCoderModel_hurrying_37 : decode prog_14_method_114_code 37 = .ok (.iadd, 1) := by decide +kernel
theorem d_MessageCoderModel_hurrying_38 : decode prog_14_method_114_code 38 = .ok (.aload_n 0, 1) := by decide +kernel
theorem d_MessageCoderModel_hurrying_39 : decode prog_14_method_114_code 39 = .ok (.bipush 32, 2) := by decide +kernel
theorem d_MessageCoderModel_hurrying_41 : decode prog_14_method_114_code 41 = .ok (.iconst 1, 1) := by decide +kernel
theorem d_MessageCoderModel_hurrying_42 : decode prog_14_method_114_code 42 = .ok (.invokevirtual 261, 3) := by decide +kernel
theorem d_MessageCoderModel_hurrying_45 : decode prog_14_method_114_code 45 = .ok (.iastore, 1) := by decide +kernel
theorem d_MessageCoderModel_hurrying_46 : decode prog_14_method_114_code 46 = .ok (.return_, 1) := by decide +kernel
set_option maxHeartbeats 4000000 in
set_option maxRecDepth 20000 in
theorem c_MessageCoderModel_hurrying {P : xP} {F : xF} {z : Nat} {m : Nat} {th : Nat} {ch : Nat} {sv : Nat} {rs : Int32} {bm : Nat} {dm : Nat} {lz : Nat} {ty : Nat} {ea : Int32} {fa : Int32} {cn : Nat} {ip : Nat → Nat} {h : Nat} {e : Nat} {r : Nat} {cs : Nat → Nat} (o0 : F (m) = some (.inl (10, [.int (nI (th)), .ref (m + 1), .int (nI (ch)), .int (nI (sv)), .int rs, .ref (m + 2), .ref (m + 3), .ref (m + 4), .ref (m + 5), .ref (m + 6), .int (nI (bm)), .ref (m + 7), .int (nI (dm)), .ref (m + 8), .ref (m + 9), .int (nI (lz)), .ref (m + 10), .int (nI (ty)), .int (nI (h)), .int (eI (e)), .int ea, .int fa, .ref (m + 11), .int (nI (cn))]))) (hi : F (m + 10) = some (.inr (1, 60, fun b9 => .int (nI (ip b9))))) (hcm : F (m + 11) = some (.inr (0, 183, fun b9 => .int (nI (cs b9))))) (hs : ∀ j, j < ty → ip j < 65536) (hty : ty ≤ 60) (hq : qB ty (h, e)) (hr : r + 2 < 183) : xM P xy_MessageCoderModel_hurrying [.ref m, .int (nI (r))] F (z) 0 0 (fun r9 F9 z9 => ∃ h1 : Nat, ∃ e1 : Nat, ∃ y1 : Nat, ∃ v1 : Nat, r9 = none ∧ z9 = z ∧ F9 (m) = some (.inl (10, [.int (nI (th)), .ref (m + 1), .int (nI (ch)), .int (nI (sv)), .int rs, .ref (m + 2), .ref (m + 3), .ref (m + 4), .ref (m + 5), .ref (m + 6), .int (nI (bm)), .ref (m + 7), .int (nI (dm)), .ref (m + 8), .ref (m + 9), .int (nI (lz)), .ref (m + 10), .int (nI (ty)), .int (nI (h1)), .int (eI (e1)), .int ea, .int fa, .ref (m + 11), .int (nI (cn))])) ∧ F9 (m + 10) = some (.inr (1, 60, fun b9 => .int (nI (ip b9)))) ∧ F9 (m + 11) = some (.inr (0, 183, fun b9 => .int (nI ((updN (updN cs (r + 1) y1) (r + 2) v1) b9)))) ∧ (huQ ty ip (h, e) = ((h1, e1), y1, v1)) ∧ (y1 < 1000 ∧ v1 < 1000 ∧ qB ty (h1, e1)) ∧ (∀ a9 : Nat, (a9 < m ∨ m + 1 ≤ a9) → (a9 < m + 11 ∨ m + 11 + 1 ≤ a9) → F9 a9 = F a9)) := by
  refine xM_v rfl (Nat.le_of_ble_eq_true rfl) (L0 := [some (.ref m), some (.int (nI (r)))]) rfl rfl fun Θ hC hin hret => ?_
  have hag : ∀ a9 : Nat, (a9 < m ∨ m + 1 ≤ a9) → (a9 < m + 11 ∨ m + 11 + 1 ≤ a9) → F a9 = F a9 := fun a9 _ _ => rfl
  refine x_aload_n hC d_MessageCoderModel_hurrying_0 rfl rfl ?_
  refine x_bipush hC d_MessageCoderModel_hurrying_1 (v := nI 117) (by decide) ?_
  refine x_bipush hC d_MessageCoderModel_hurrying_3 (v := nI 114) (by decide) ?_
  refine x_bipush hC d_MessageCoderModel_hurrying_5 (v := nI 114) (by decide) ?_
  refine x_callV hC kv_MessageCoderModel_251 (c_MessageCoderModel_letters (o0 := o0) (hi := hi) (hs := hs) (hty := hty) (hq := hq) (h1c := by omega) (h2c := by omega) (h3c := by omega)) o0 rfl rfl (by decide) rfl rfl rfl (Nat.le_of_ble_eq_true rfl) (by decide) d_MessageCoderModel_hurrying_7 (fun r9 F9 z9 hp9 => ?_)
  obtain ⟨h1_7, e1_7, rfl, h9c, j0, j1, pk_7, hag9⟩ := hp9
  rw [h9c]
  clear h9c z9
  generalize F9 = F1 at *
  have hcm : F1 (m + 11) = some (.inr (0, 183, fun b9 => .int (nI (cs b9)))) := (hag9 _ (by omega)).trans hcm
  have o0 : F1 (m) = some (.inl (10, [.int (nI (th)), .ref (m + 1), .int (nI (ch)), .int (nI (sv)), .int rs, .ref (m + 2), .ref (m + 3), .ref (m + 4), .ref (m + 5), .ref (m + 6), .int (nI (bm)), .ref (m + 7), .int (nI (dm)), .ref (m + 8), .ref (m + 9), .int (nI (lz)), .ref (m + 10), .int (nI (ty)), .int (nI (h1_7)), .int (eI (e1_7)), .int ea, .int fa, .ref (m + 11), .int (nI (cn))])) := j0
  have hi : F1 (m + 10) = some (.inr (1, 60, fun b9 => .int (nI (ip b9)))) := j1
  have hag : ∀ a9 : Nat, (a9 < m ∨ m + 1 ≤ a9) → (a9 < m + 11 ∨ m + 11 + 1 ≤ a9) → F1 a9 = F a9 := fun a9 q0 q1 => (hag9 a9 (by omega)).trans (hag a9 q0 q1)
  have hg_7 := hag9
  clear hag9
  have hq_7 : qB ty (h1_7, e1_7) := by rw [← pk_7]; exact nd_B (nd_B (nd_B hq))
  refine x_aload_n hC d_MessageCoderModel_hurrying_10 rfl rfl ?_
  refine x_bipush hC d_MessageCoderModel_hurrying_11 (v := nI 121) (by decide) ?_
  refine x_callV hC kv_MessageCoderModel_248 (c_MessageCoderModel_needs (o0 := o0) (hi := hi) (hs := hs) (hty := hty) (hq := hq_7) (hc := by omega)) o0 rfl rfl (by decide) rfl rfl rfl (Nat.le_of_ble_eq_true rfl) (by decide) d_MessageCoderModel_hurrying_13 (fun r9 F9 z9 hp9 => ?_)
  obtain ⟨h1_13, e1_13, rfl, h9c, j0, j1, pk_13, hag9⟩ := hp9
  rw [h9c]
  clear h9c z9
  generalize F9 = F2 at *
  have hcm : F2 (m + 11) = some (.inr (0, 183, fun b9 => .int (nI (cs b9)))) := (hag9 _ (by omega)).trans hcm
  have o0 : F2 (m) = some (.inl (10, [.int (nI (th)), .ref (m + 1), .int (nI (ch)), .int (nI (sv)), .int rs, .ref (m + 2), .ref (m + 3), .ref (m + 4), .ref (m + 5), .ref (m + 6), .int (nI (bm)), .ref (m + 7), .int (nI (dm)), .ref (m + 8), .ref (m + 9), .int (nI (lz)), .ref (m + 10), .int (nI (ty)), .int (nI (h1_13)), .int (eI (e1_13)), .int ea, .int fa, .ref (m + 11), .int (nI (cn))])) := j0
  have hi : F2 (m + 10) = some (.inr (1, 60, fun b9 => .int (nI (ip b9)))) := j1
  have hag : ∀ a9 : Nat, (a9 < m ∨ m + 1 ≤ a9) → (a9 < m + 11 ∨ m + 11 + 1 ≤ a9) → F2 a9 = F a9 := fun a9 q0 q1 => (hag9 a9 (by omega)).trans (hag a9 q0 q1)
  have hg_13 := hag9
  clear hag9
  have hq_13 : qB ty (h1_13, e1_13) := by rw [← pk_13]; exact nd_B hq_7
  refine x_aload_n hC d_MessageCoderModel_hurrying_16 rfl rfl ?_
  refine x_getf hC kf_MessageCoderModel_48 o0 rfl d_MessageCoderModel_hurrying_17 ?_
  refine x_iload_n hC d_MessageCoderModel_hurrying_20 rfl rfl ?_
  refine x_iconst hC d_MessageCoderModel_hurrying_21 (v := nI 1) (by decide) ?_
  refine x_iadd hC d_MessageCoderModel_hurrying_22 (v := (nI (r + 1))) (x_addN (by omega)) ?_
  refine x_aload_n hC d_MessageCoderModel_hurrying_23 rfl rfl ?_
  refine x_bipush hC d_MessageCoderModel_hurrying_24 (v := nI 32) (by decide) ?_
  refine x_iconst hC d_MessageCoderModel_hurrying_26 (v := nI 3) (by decide) ?_
  refine x_callV hC kv_MessageCoderModel_261 (c_MessageCoderModel_behind (o0 := o0) (hi := hi) (hs := hs) (hty := hty) (hq := hq_13) (hc := by omega) (hmm := by omega)) o0 rfl rfl (by decide) rfl rfl rfl (Nat.le_of_ble_eq_true rfl) (by decide) d_MessageCoderModel_hurrying_27 (fun r9 F9 z9 hp9 => ?_)
  obtain ⟨h1_27, e1_27, v1_27, rfl, h9c, j0, j1, pk_27, hag9⟩ := hp9
  rw [h9c]
  clear h9c z9
  generalize F9 = F3 at *
  have hcm : F3 (m + 11) = some (.inr (0, 183, fun b9 => .int (nI (cs b9)))) := (hag9 _ (by omega)).trans hcm
  have o0 : F3 (m) = some (.inl (10, [.int (nI (th)), .ref (m + 1), .int (nI (ch)), .int (nI (sv)), .int rs, .ref (m + 2), .ref (m + 3), .ref (m + 4), .ref (m + 5), .ref (m + 6), .int (nI (bm)), .ref (m + 7), .int (nI (dm)), .ref (m + 8), .ref (m + 9), .int (nI (lz)), .ref (m + 10), .int (nI (ty)), .int (nI (h1_27)), .int (eI (e1_27)), .int ea, .int fa, .ref (m + 11), .int (nI (cn))])) := j0
  have hi : F3 (m + 10) = some (.inr (1, 60, fun b9 => .int (nI (ip b9)))) := j1
  have hag : ∀ a9 : Nat, (a9 < m ∨ m + 1 ≤ a9) → (a9 < m + 11 ∨ m + 11 + 1 ≤ a9) → F3 a9 = F a9 := fun a9 q0 q1 => (hag9 a9 (by omega)).trans (hag a9 q0 q1)
  have hg_27 := hag9
  clear hag9
  have hq_27 : qB ty (h1_27, e1_27) ∧ v1_27 < 1000 := by have h9 := bh_B (s := ip) (c := 32) (m := 3) hq_13 (by omega); rw [pk_27] at h9; exact h9
  refine x_iast hC hcm (j := r + 1) ⟨rfl, by omega, by omega⟩ d_MessageCoderModel_hurrying_30 (g1 := fun b9 => nI (updN cs (r + 1) (v1_27) b9)) (x_updN _ _ _) ?_
  generalize eg1 : updN cs (r + 1) (v1_27) = g1
  generalize e5 : xup F3 (m + 11) (.inr (0, 183, fun b9 => .int (nI (g1 b9)))) = F5
  have hcm : F5 (m + 11) = some (.inr (0, 183, fun b9 => .int (nI (g1 b9)))) := by rw [← e5]; exact xup_eq
  have o0 : F5 (m) = some (.inl (10, [.int (nI (th)), .ref (m + 1), .int (nI (ch)), .int (nI (sv)), .int rs, .ref (m + 2), .ref (m + 3), .ref (m + 4), .ref (m + 5), .ref (m + 6), .int (nI (bm)), .ref (m + 7), .int (nI (dm)), .ref (m + 8), .ref (m + 9), .int (nI (lz)), .ref (m + 10), .int (nI (ty)), .int (nI (h1_27)), .int (eI (e1_27)), .int ea, .int fa, .ref (m + 11), .int (nI (cn))])) := by rw [← e5]; exact (xup_ne (by omega)).trans o0
  have hi : F5 (m + 10) = some (.inr (1, 60, fun b9 => .int (nI (ip b9)))) := by rw [← e5]; exact (xup_ne (by omega)).trans hi
  have hag : ∀ a9 : Nat, (a9 < m ∨ m + 1 ≤ a9) → (a9 < m + 11 ∨ m + 11 + 1 ≤ a9) → F5 a9 = F a9 := fun a9 q0 q1 => by rw [← e5]; exact (xup_ne (by omega)).trans (hag a9 q0 q1)
  refine x_aload_n hC d_MessageCoderModel_hurrying_31 rfl rfl ?_
  refine x_getf hC kf_MessageCoderModel_48 o0 rfl d_MessageCoderModel_hurrying_32 ?_
  refine x_iload_n hC d_MessageCoderModel_hurrying_35 rfl rfl ?_
  refine x_iconst hC d_MessageCoderModel_hurrying_36 (v := nI 2) (by decide) ?_
  refine x_iadd hC d_MessageCoderModel_hurrying_37 (v := (nI (r + 2))) (x_addN (by omega)) ?_
  refine x_aload_n hC d_MessageCoderModel_hurrying_38 rfl rfl ?_
  refine x_bipush hC d_MessageCoderModel_hurrying_39 (v := nI 32) (by decide) ?_
  refine x_iconst hC d_MessageCoderModel_hurrying_41 (v := nI 1) (by decide) ?_
  refine x_callV hC kv_MessageCoderModel_261 (c_MessageCoderModel_behind (o0 := o0) (hi := hi) (hs := hs) (hty := hty) (hq := hq_27.1) (hc := by omega) (hmm := by omega)) o0 rfl rfl (by decide) rfl rfl rfl (Nat.le_of_ble_eq_true rfl) (by decide) d_MessageCoderModel_hurrying_42 (fun r9 F9 z9 hp9 => ?_)
  obtain ⟨h1_42, e1_42, v1_42, rfl, h9c, j0, j1, pk_42, hag9⟩ := hp9
  rw [h9c]
  clear h9c z9
  generalize F9 = F6 at *
  have hcm : F6 (m + 11) = some (.inr (0, 183, fun b9 => .int (nI (g1 b9)))) := (hag9 _ (by omega)).trans hcm
  have o0 : F6 (m) = some (.inl (10, [.int (nI (th)), .ref (m + 1), .int (nI (ch)), .int (nI (sv)), .int rs, .ref (m + 2), .ref (m + 3), .ref (m + 4), .ref (m + 5), .ref (m + 6), .int (nI (bm)), .ref (m + 7), .int (nI (dm)), .ref (m + 8), .ref (m + 9), .int (nI (lz)), .ref (m + 10), .int (nI (ty)), .int (nI (h1_42)), .int (eI (e1_42)), .int ea, .int fa, .ref (m + 11), .int (nI (cn))])) := j0
  have hi : F6 (m + 10) = some (.inr (1, 60, fun b9 => .int (nI (ip b9)))) := j1
  have hag : ∀ a9 : Nat, (a9 < m ∨ m + 1 ≤ a9) → (a9 < m + 11 ∨ m + 11 + 1 ≤ a9) → F6 a9 = F a9 := fun a9 q0 q1 => (hag9 a9 (by omega)).trans (hag a9 q0 q1)
  have hg_42 := hag9
  clear hag9
  have hq_42 : qB ty (h1_42, e1_42) ∧ v1_42 < 1000 := by have h9 := bh_B (s := ip) (c := 32) (m := 1) hq_27.1 (by omega); rw [pk_42] at h9; exact h9
  refine x_iast hC hcm (j := r + 2) ⟨rfl, by omega, by omega⟩ d_MessageCoderModel_hurrying_45 (g1 := fun b9 => nI (updN g1 (r + 2) (v1_42) b9)) (x_updN _ _ _) ?_
  generalize eg2 : updN g1 (r + 2) (v1_42) = g2
  generalize e8 : xup F6 (m + 11) (.inr (0, 183, fun b9 => .int (nI (g2 b9)))) = F8
  have hcm : F8 (m + 11) = some (.inr (0, 183, fun b9 => .int (nI (g2 b9)))) := by rw [← e8]; exact xup_eq
  have o0 : F8 (m) = some (.inl (10, [.int (nI (th)), .ref (m + 1), .int (nI (ch)), .int (nI (sv)), .int rs, .ref (m + 2), .ref (m + 3), .ref (m + 4), .ref (m + 5), .ref (m + 6), .int (nI (bm)), .ref (m + 7), .int (nI (dm)), .ref (m + 8), .ref (m + 9), .int (nI (lz)), .ref (m + 10), .int (nI (ty)), .int (nI (h1_42)), .int (eI (e1_42)), .int ea, .int fa, .ref (m + 11), .int (nI (cn))])) := by rw [← e8]; exact (xup_ne (by omega)).trans o0
  have hi : F8 (m + 10) = some (.inr (1, 60, fun b9 => .int (nI (ip b9)))) := by rw [← e8]; exact (xup_ne (by omega)).trans hi
  have hag : ∀ a9 : Nat, (a9 < m ∨ m + 1 ≤ a9) → (a9 < m + 11 ∨ m + 11 + 1 ≤ a9) → F8 a9 = F a9 := fun a9 q0 q1 => by rw [← e8]; exact (xup_ne (by omega)).trans (hag a9 q0 q1)
  exact hret _ _ _ _ _ _ d_MessageCoderModel_hurrying_46 (by decide) (by decide) (⟨h1_42, e1_42, v1_27, v1_42, rfl, rfl, o0, hi, by rw [eg1, eg2]; exact hcm, by unfold huQ; rw [pk_7, pk_13, pk_27, pk_42], ⟨hq_27.2, hq_42.2, hq_42.1⟩, hag⟩)

