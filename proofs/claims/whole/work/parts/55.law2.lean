/-! the law: its calls that are caught -/
theorem fl_f2dJ {r : UInt32} (h : r.toNat % 2 ^ 31 ≤ 2139095040) : (FP.f2d r).toNat % 2 ^ 63 ≤ 9218868437227405312 := by
  have h1 : FP.Core.fIsNaN r = false := by
    show decide (FP.Core.decode FP.Core.b32 r.toNat = .nan) = false
    exact decide_eq_false (fl_d32 h)
  have h3 : FP.f2d r = FP.Core.f2d r := if_neg (by rw [h1]; decide)
  rw [h3]
  exact fl_f2d h

theorem d_MessageCoder_receivedAt_0 : decode prog_1_method_46_code 0 = .ok (.aload_n 0, 1) := by decide +kernel
theorem d_MessageCoder_receivedAt_1 : decode prog_1_method_46_code 1 = .ok (.getfield 12, 3) := by decide +kernel
theorem d_MessageCoder_receivedAt_4 : decode prog_1_method_46_code 4 = .ok (.getfield 297, 3) := by decide +kernel
theorem d_MessageCoder_receivedAt_7 : decode prog_1_method_46_code 7 = .ok (.iload_n 1, 1) := by decide +kernel
theorem d_MessageCoder_receivedAt_8 : decode prog_1_method_46_code 8 = .ok (.invokevirtual 184, 3) := by decide +kernel
theorem d_MessageCoder_receivedAt_11 : decode prog_1_method_46_code 11 = .ok (.ifCond .ne 13, 3) := by decide +kernel
theorem d_MessageCoder_receivedAt_14 : decode prog_1_method_46_code 14 = .ok (.new 126, 3) := by decide +kernel
theorem d_MessageCoder_receivedAt_17 : decode prog_1_method_46_code 17 = .ok (.dup, 1) := by decide +kernel
theorem d_MessageCoder_receivedAt_18 : decode prog_1_method_46_code 18 = .ok (.ldc 188, 2) := by decide +kernel
theorem d_MessageCoder_receivedAt_20 : decode prog_1_method_46_code 20 = .ok (.invokespecial 130, 3) := by decide +kernel
theorem d_MessageCoder_receivedAt_23 : decode prog_1_method_46_code 23 = .ok (.athrow, 1) := by decide +kernel
theorem d_MessageCoder_receivedAt_24 : decode prog_1_method_46_code 24 = .ok (.aload_n 0, 1) := by decide +kernel
theorem d_MessageCoder_receivedAt_25 : decode prog_1_method_46_code 25 = .ok (.getfield 12, 3) := by decide +kernel
theorem d_MessageCoder_receivedAt_28 : decode prog_1_method_46_code 28 = .ok (.getfield 297, 3) := by decide +kernel
theorem d_MessageCoder_receivedAt_31 : decode prog_1_method_46_code 31 = .ok (.iload_n 1, 1) := by decide +kernel
theorem d_MessageCoder_receivedAt_32 : decode prog_1_method_46_code 32 = .ok (.invokevirtual 190, 3) := by decide +kernel
theorem d_MessageCoder_receivedAt_35 : decode prog_1_method_46_code 35 = .ok (.ireturn, 1) := by decide +kernel
set_option maxHeartbeats 4000000 in
set_option maxRecDepth 20000 in
theorem c_MessageCoder_receivedAt {P : xP} {F : xF} {z : Nat} {b : Nat} {cm : cmT} {M : mcS} {i : Int32} (hM : xMC F (cm) (b) (M)) (hZx : xZx P) : xMx P xy_MessageCoder_receivedAt [.ref b, .int i] F (z) 1 6 (fun r9 F9 z9 => r9 = some (.int (nI (M.1.2.2.2.2.1.2 i.toNatClampNeg))) ∧ F9 = F ∧ z9 = z ∧ (0 ≤ i ∧ i < nI M.1.2.2.2.2.1.1)) (fun E9 F9 z9 => (E9 = "java/lang/IndexOutOfBoundsException" ∧ F9 = F ∧ (¬ (0 ≤ i ∧ i < nI M.1.2.2.2.2.1.1)))) := by
  refine xMx_i .char rfl (Nat.le_of_ble_eq_true rfl) (L0 := [some (.ref b), some (.int i)]) rfl rfl fun Θ hC hR hret => ?_
  obtain ⟨A, S, past, ⟨pn, psg⟩, ⟨lnn, lsg⟩, sv, pp, un, ep, fc⟩ := M
  obtain ⟨b0, hs, hv, ⟨pf, hpa, hpf⟩, ⟨cc, pa, f1, f2, hf, K, p0, hK⟩, hin, hli, ⟨nb, fb9, hbt⟩, hrg, ⟨tn, tsg, htr⟩, ⟨cr, hcr⟩, hps⟩ := id hM
  obtain ⟨w, ⟨dn, ds⟩, ⟨k, nx, ms⟩, ⟨fk, fb, ftn, fts, fw⟩, ⟨rn, rs⟩, c1, c2, c3, c4⟩ := A
  obtain ⟨s0, h1, h2, ⟨p, m, h3, hms⟩, h4, h5⟩ := id hs
  have hms : ∀ i, i < k → m i = ms i := hms
  have b0 : F (b) = some (.inl (9, [.ref (b + 1), .ref (b + 50), .ref (b + 99), .ref (b + 100), .ref (b + 107), .ref (b + 109), .ref (b + 111), .ref (b + 122), .ref (b + 124), .int (nI (sv)), .int (nI (pp)), .int (nI (un)), .int ep, .int fc])) := b0
  have hv : xSt F (b + 50) (S) := hv
  have hpa : F (b + 99) = some (.inr (4, 9, pf)) := hpa
  have p0 : F (b + 100) = some (.inl (4, [.ref (b + 101), .ref (b + 103), .ref (b + 104), .ref (b + 105), .ref (b + 106), .int (nI (K.1)), .int (nI (cc)), .int (nI (pa)), .int (nI (f1)), .int (nI (f2)), .int (nI (hf))])) := p0
  have hK : xPk F (b + 100) (cm.2.1) (K) := hK
  have hin : xTx F (b + 101) (60) (pn) (psg) := hin
  have hli : xTx F (b + 107) (32) (lnn) (lsg) := hli
  have hbt : xBt F (b + 109) (nb) (fb9) := hbt
  have hrg : xRg F (b + 111) := hrg
  have htr : xTx F (b + 122) (16) (tn) (tsg) := htr
  have hcr : F (b + 124) = some (.inr (0, 17, fun b9 => .int (nI (cr b9)))) := hcr
  have hps : xPs F (b) (past) := hps
  have s0 : F (b + 1) = some (.inl (7, [.ref (b + 2), .ref (b + 9), .ref (b + 11), .ref (b + 37), .ref (b + 48), .int (nI (c1)), .int (nI (c2)), .int (nI (c3)), .int (nI (c4))])) := s0
  have h1 : xCd F (b + 2) (w) ((hLen w)) ((hVal (hLen w))) ((hOrd (hLen w))) ((hSum w)) := h1
  have h2 : xTx F (b + 9) (16) (dn) (ds) := h2
  have h3 : xQp F (b + 11) (k) (nx) (p) (m) := h3
  have h4 : xFr F (b + 37) (fk) (fb) (ftn) (fts) (fw) := h4
  have h5 : xTx F (b + 48) (16) (rn) (rs) := h5
  have hk8 : k ≤ 8 := h3.2.1.1
  have hl9 := h5.2.1
  refine x_aload_n hC d_MessageCoder_receivedAt_0 rfl rfl ?_
  refine x_getf hC kf_MessageCoder_12 b0 rfl d_MessageCoder_receivedAt_1 ?_
  refine x_getf hC kf_MessageCoder_297 s0 rfl d_MessageCoder_receivedAt_4 ?_
  refine x_iload_n hC d_MessageCoder_receivedAt_7 rfl rfl ?_
  refine x_callV hC kv_MessageCoder_184 (c_Text_has (ht := h5)) h5.1 rfl rfl (by decide) rfl rfl rfl (Nat.le_of_ble_eq_true rfl) (by decide) d_MessageCoder_receivedAt_8 (fun r9 F9 z9 hp9 => ?_)
  obtain ⟨rfl, h9b, h9c⟩ := hp9
  rw [h9b, h9c]
  clear h9b h9c F9 z9
  refine x_ifB_ne hC d_MessageCoder_receivedAt_11 (tgt := 24) (by decide) (fun c_11 => ?_) (fun c_11 => ?_)
  · skip
    have hi0 := i2n_of c_11.1
    have hi1 := i2n_lt c_11.1 c_11.2 (by omega)
    refine x_aload_n hC d_MessageCoder_receivedAt_24 rfl rfl ?_
    refine x_getf hC kf_MessageCoder_12 b0 rfl d_MessageCoder_receivedAt_25 ?_
    refine x_getf hC kf_MessageCoder_297 s0 rfl d_MessageCoder_receivedAt_28 ?_
    refine x_iload_n hC d_MessageCoder_receivedAt_31 rfl rfl ?_
    refine x_top (v := (nI (i.toNatClampNeg))) hi0 ?_
    refine x_callV hC kv_MessageCoder_190 (c_Text_at (ht := h5) (hi := by omega)) h5.1 rfl rfl (by decide) rfl rfl rfl (Nat.le_of_ble_eq_true rfl) (by decide) d_MessageCoder_receivedAt_32 (fun r9 F9 z9 hp9 => ?_)
    obtain ⟨rfl, h9b, h9c⟩ := hp9
    rw [h9b, h9c]
    clear h9b h9c F9 z9
    exact hret _ _ _ _ _ _ _ d_MessageCoder_receivedAt_35 (by decide) (by decide) (x_char _ (by rw [if_pos hi1]; exact h5.2.2.1 _ hi1)) (⟨congrArg (fun q => some (Value.int (nI q))) (if_pos hi1), rfl, rfl, c_11⟩)
  · skip
    refine x_thr hC hR hZx (xtw2_IndexOutOfBoundsException _ _ xsr_188) rfl (Nat.le_of_ble_eq_true rfl) (by decide) (by decide) d_MessageCoder_receivedAt_14 d_MessageCoder_receivedAt_17 d_MessageCoder_receivedAt_18 d_MessageCoder_receivedAt_20 d_MessageCoder_receivedAt_23 (fun z9 hz9 => ?_)
    exact ⟨rfl, rfl, c_11⟩

theorem d_MessageCoder_lineChar_0 : decode prog_1_method_55_code 0 = .ok (.aload_n 0, 1) := by decide +kernel
theorem d_MessageCoder_lineChar_1 : decode prog_1_method_55_code 1 = .ok (.getfield 35, 3) := by decide +kernel
theorem d_MessageCoder_lineChar_4 : decode prog_1_method_55_code 4 = .ok (.iload_n 1, 1) := by decide +kernel
theorem d_MessageCoder_lineChar_5 : decode prog_1_method_55_code 5 = .ok (.invokevirtual 184, 3) := by decide +kernel
theorem d_MessageCoder_lineChar_8 : decode prog_1_method_55_code 8 = .ok (.ifCond .ne 13, 3) := by decide +kernel
theorem d_MessageCoder_lineChar_11 : decode prog_1_method_55_code 11 = .ok (.new 126, 3) := by decide +kernel
theorem d_MessageCoder_lineChar_14 : decode prog_1_method_55_code 14 = .ok (.dup, 1) := by decide +kernel
theorem d_MessageCoder_lineChar_15 : decode prog_1_method_55_code 15 = .ok (.ldc 188, 2) := by decide +kernel
theorem d_MessageCoder_lineChar_17 : decode prog_1_method_55_code 17 = .ok (.invokespecial 130, 3) := by decide +kernel
theorem d_MessageCoder_lineChar_20 : decode prog_1_method_55_code 20 = .ok (.athrow, 1) := by decide +kernel
theorem d_MessageCoder_lineChar_21 : decode prog_1_method_55_code 21 = .ok (.aload_n 0, 1) := by decide +kernel
theorem d_MessageCoder_lineChar_22 : decode prog_1_method_55_code 22 = .ok (.getfield 35, 3) := by decide +kernel
theorem d_MessageCoder_lineChar_25 : decode prog_1_method_55_code 25 = .ok (.iload_n 1, 1) := by decide +kernel
theorem d_MessageCoder_lineChar_26 : decode prog_1_method_55_code 26 = .ok (.invokevirtual 190, 3) := by decide +kernel
theorem d_MessageCoder_lineChar_29 : decode prog_1_method_55_code 29 = .ok (.ireturn, 1) := by decide +kernel
set_option maxHeartbeats 4000000 in
set_option maxRecDepth 20000 in
theorem c_MessageCoder_lineChar {P : xP} {F : xF} {z : Nat} {b : Nat} {cm : cmT} {M : mcS} {i : Int32} (hM : xMC F (cm) (b) (M)) (hZx : xZx P) : xMx P xy_MessageCoder_lineChar [.ref b, .int i] F (z) 1 6 (fun r9 F9 z9 => r9 = some (.int (nI (M.2.2.2.2.1.2 i.toNatClampNeg))) ∧ F9 = F ∧ z9 = z ∧ (0 ≤ i ∧ i < nI M.2.2.2.2.1.1)) (fun E9 F9 z9 => (E9 = "java/lang/IndexOutOfBoundsException" ∧ F9 = F ∧ (¬ (0 ≤ i ∧ i < nI M.2.2.2.2.1.1)))) := by
  refine xMx_i .char rfl (Nat.le_of_ble_eq_true rfl) (L0 := [some (.ref b), some (.int i)]) rfl rfl fun Θ hC hR hret => ?_
  obtain ⟨A, S, past, ⟨pn, psg⟩, ⟨lnn, lsg⟩, sv, pp, un, ep, fc⟩ := M
  obtain ⟨b0, hs, hv, ⟨pf, hpa, hpf⟩, ⟨cc, pa, f1, f2, hf, K, p0, hK⟩, hin, hli, ⟨nb, fb9, hbt⟩, hrg, ⟨tn, tsg, htr⟩, ⟨cr, hcr⟩, hps⟩ := id hM
  obtain ⟨w, ⟨dn, ds⟩, ⟨k, nx, ms⟩, ⟨fk, fb, ftn, fts, fw⟩, ⟨rn, rs⟩, c1, c2, c3, c4⟩ := A
  obtain ⟨s0, h1, h2, ⟨p, m, h3, hms⟩, h4, h5⟩ := id hs
  have hms : ∀ i, i < k → m i = ms i := hms
  have b0 : F (b) = some (.inl (9, [.ref (b + 1), .ref (b + 50), .ref (b + 99), .ref (b + 100), .ref (b + 107), .ref (b + 109), .ref (b + 111), .ref (b + 122), .ref (b + 124), .int (nI (sv)), .int (nI (pp)), .int (nI (un)), .int ep, .int fc])) := b0
  have hv : xSt F (b + 50) (S) := hv
  have hpa : F (b + 99) = some (.inr (4, 9, pf)) := hpa
  have p0 : F (b + 100) = some (.inl (4, [.ref (b + 101), .ref (b + 103), .ref (b + 104), .ref (b + 105), .ref (b + 106), .int (nI (K.1)), .int (nI (cc)), .int (nI (pa)), .int (nI (f1)), .int (nI (f2)), .int (nI (hf))])) := p0
  have hK : xPk F (b + 100) (cm.2.1) (K) := hK
  have hin : xTx F (b + 101) (60) (pn) (psg) := hin
  have hli : xTx F (b + 107) (32) (lnn) (lsg) := hli
  have hbt : xBt F (b + 109) (nb) (fb9) := hbt
  have hrg : xRg F (b + 111) := hrg
  have htr : xTx F (b + 122) (16) (tn) (tsg) := htr
  have hcr : F (b + 124) = some (.inr (0, 17, fun b9 => .int (nI (cr b9)))) := hcr
  have hps : xPs F (b) (past) := hps
  have s0 : F (b + 1) = some (.inl (7, [.ref (b + 2), .ref (b + 9), .ref (b + 11), .ref (b + 37), .ref (b + 48), .int (nI (c1)), .int (nI (c2)), .int (nI (c3)), .int (nI (c4))])) := s0
  have h1 : xCd F (b + 2) (w) ((hLen w)) ((hVal (hLen w))) ((hOrd (hLen w))) ((hSum w)) := h1
  have h2 : xTx F (b + 9) (16) (dn) (ds) := h2
  have h3 : xQp F (b + 11) (k) (nx) (p) (m) := h3
  have h4 : xFr F (b + 37) (fk) (fb) (ftn) (fts) (fw) := h4
  have h5 : xTx F (b + 48) (16) (rn) (rs) := h5
  have hk8 : k ≤ 8 := h3.2.1.1
  have hl9 := hli.2.1
  refine x_aload_n hC d_MessageCoder_lineChar_0 rfl rfl ?_
  refine x_getf hC kf_MessageCoder_35 b0 rfl d_MessageCoder_lineChar_1 ?_
  refine x_iload_n hC d_MessageCoder_lineChar_4 rfl rfl ?_
  refine x_callV hC kv_MessageCoder_184 (c_Text_has (ht := hli)) hli.1 rfl rfl (by decide) rfl rfl rfl (Nat.le_of_ble_eq_true rfl) (by decide) d_MessageCoder_lineChar_5 (fun r9 F9 z9 hp9 => ?_)
  obtain ⟨rfl, h9b, h9c⟩ := hp9
  rw [h9b, h9c]
  clear h9b h9c F9 z9
  refine x_ifB_ne hC d_MessageCoder_lineChar_8 (tgt := 21) (by decide) (fun c_8 => ?_) (fun c_8 => ?_)
  · skip
    have hi0 := i2n_of c_8.1
    have hi1 := i2n_lt c_8.1 c_8.2 (by omega)
    refine x_aload_n hC d_MessageCoder_lineChar_21 rfl rfl ?_
    refine x_getf hC kf_MessageCoder_35 b0 rfl d_MessageCoder_lineChar_22 ?_
    refine x_iload_n hC d_MessageCoder_lineChar_25 rfl rfl ?_
    refine x_top (v := (nI (i.toNatClampNeg))) hi0 ?_
    refine x_callV hC kv_MessageCoder_190 (c_Text_at (ht := hli) (hi := by omega)) hli.1 rfl rfl (by decide) rfl rfl rfl (Nat.le_of_ble_eq_true rfl) (by decide) d_MessageCoder_lineChar_26 (fun r9 F9 z9 hp9 => ?_)
    obtain ⟨rfl, h9b, h9c⟩ := hp9
    rw [h9b, h9c]
    clear h9b h9c F9 z9
    exact hret _ _ _ _ _ _ _ d_MessageCoder_lineChar_29 (by decide) (by decide) (x_char _ (by rw [if_pos hi1]; exact hli.2.2.1 _ hi1)) (⟨congrArg (fun q => some (Value.int (nI q))) (if_pos hi1), rfl, rfl, c_8⟩)
  · skip
    refine x_thr hC hR hZx (xtw2_IndexOutOfBoundsException _ _ xsr_188) rfl (Nat.le_of_ble_eq_true rfl) (by decide) (by decide) d_MessageCoder_lineChar_11 d_MessageCoder_lineChar_14 d_MessageCoder_lineChar_15 d_MessageCoder_lineChar_17 d_MessageCoder_lineChar_20 (fun z9 hz9 => ?_)
    exact ⟨rfl, rfl, c_8⟩

theorem d_Law_setWeight_0 : decode method_3_code 0 = .ok (.aload_n 3, 1) := by decide +kernel
theorem d_Law_setWeight_1 : decode method_3_code 1 = .ok (.iconst 0, 1) := by decide +kernel
theorem d_Law_setWeight_2 : decode method_3_code 2 = .ok (.aload_n 0, 1) := by decide +kernel
theorem d_Law_setWeight_3 : decode method_3_code 3 = .ok (.iload_n 1, 1) := by decide +kernel
theorem d_Law_setWeight_4 : decode method_3_code 4 = .ok (.iload_n 2, 1) := by decide +kernel
theorem d_Law_setWeight_5 : decode method_3_code 5 = .ok (.invokevirtual 7, 3) := by decide +kernel
theorem d_Law_setWeight_8 : decode method_3_code 8 = .ok (.i2l, 1) := by decide +kernel
theorem d_Law_setWeight_9 : decode method_3_code 9 = .ok (.lastore, 1) := by decide +kernel
theorem d_Law_setWeight_10 : decode method_3_code 10 = .ok (.goto 7, 3) := by decide +kernel
theorem d_Law_setWeight_13 : decode method_3_code 13 = .ok (.astore 4, 2) := by decide +kernel
theorem d_Law_setWeight_15 : decode method_3_code 15 = .ok (.iconst 1, 1) := by decide +kernel
theorem d_Law_setWeight_16 : decode method_3_code 16 = .ok (.ireturn, 1) := by decide +kernel
theorem d_Law_setWeight_17 : decode method_3_code 17 = .ok (.iconst 0, 1) := by decide +kernel
theorem d_Law_setWeight_18 : decode method_3_code 18 = .ok (.ireturn, 1) := by decide +kernel
set_option maxHeartbeats 4000000 in
set_option maxRecDepth 20000 in
theorem c_Law_setWeight {P : xP} {F : xF} {z : Nat} {b : Nat} {cm : cmT} {M : mcS} {sm : Nat} {c : Nat} {x : Int32} {o : Nat} {g0 : Nat → Int64} (hM : xMC F (cm) (b) (M)) (ho : F (o) = some (.inr (2, 1, fun b9 => .long (g0 b9)))) (hCM : xCM P cm) (hSM : xSM P sm) (hZx : xZx P) (hpp0 : M.2.2.2.2.2.2.1 < 100000) (hun0 : M.2.2.2.2.2.2.2.1 < 100000) (hc0 : c < 65536) (hNx : xNx P) (hbo : o < b ∨ b + 566 ≤ o) : xMw P xy_Law_setWeight [(0, 10, 13, 13)] [.ref b, .int (nI (c)), .int x, .ref o] F (z) 1 6 (fun r9 F9 z9 => (r9 = some (.int (nI 0)) ∧ xMC F9 (cm) (b) ((chgM M (aWt M.1 c x))) ∧ F9 (o) = some (.inr (2, 1, fun b9 => .long (vp_updL g0 0 ((((aWt M.1 c x).1)).toInt64) b9))) ∧ (¬ (aWt M.1 c x).1 = -1) ∧ (∀ a9 : Nat, (a9 < b ∨ b + 566 ≤ a9) → a9 ≠ o → F9 a9 = F a9)) ∨ (r9 = some (.int (nI 1)) ∧ xMC F9 (cm) (b) ((chgM M (aWt M.1 c x))) ∧ F9 (o) = some (.inr (2, 1, fun b9 => .long (g0 b9))) ∧ ((aWt M.1 c x).1 = -1) ∧ (∀ a9 : Nat, (a9 < b ∨ b + 566 ≤ a9) → a9 ≠ o → F9 a9 = F a9))) := by
  refine xMw_i .int rfl (Nat.le_of_ble_eq_true rfl) (L0 := [some (.ref b), some (.int (nI (c))), some (.int x), some (.ref o), none]) rfl rfl fun Θ hC hT hret => ?_
  refine x_aload_n hC d_Law_setWeight_0 rfl rfl ?_
  refine x_iconst hC d_Law_setWeight_1 (v := nI 0) (by decide) ?_
  refine x_aload_n hC d_Law_setWeight_2 rfl rfl ?_
  refine x_iload_n hC d_Law_setWeight_3 rfl rfl ?_
  refine x_iload_n hC d_Law_setWeight_4 rfl rfl ?_
  obtain ⟨b00, -⟩ := id hM
  refine x_callCV hC kv_Law_7 (c_MessageCoder_setWeight (hM := hM) (hCM := hCM) (hSM := hSM) (hZx := hZx) (hpp0 := hpp0) (hun0 := hun0) (hc0 := hc0)) b00 rfl rfl (Nat.le_of_ble_eq_true rfl) rfl rfl rfl (Nat.le_of_ble_eq_true rfl) (by decide) d_Law_setWeight_5 (fun E9 F9 z9 hp9 => ?_) (fun r9 F9 z9 hp9 => ?_)
  · skip
    rcases hp9 with ⟨rfl, hM9, hcond, hag9⟩
    · skip
      refine xH_at hC (name := "java/lang/IllegalArgumentException") [] ⟨0, 10, 13, 13⟩ [] (hT.trans rfl) (fun y hy => nomatch hy) rfl (by decide) (x_in (x_of (xtb_4 (List.mem_of_getElem? (i := 47) (by decide +kernel)))) (by decide +kernel)) (x_inN (xtb_4 (List.mem_of_getElem? (i := 56) (by decide +kernel))) (by decide +kernel)) (fun q9 => ?_)
      show xX P Θ 13 _ _ _ _ _ _
      refine x_astore hC d_Law_setWeight_13 (Nat.le_of_ble_eq_true rfl) (L1 := [some (.ref b), some (.int (nI (c))), some (.int x), some (.ref o), some (.ref q9)]) rfl ?_
      refine x_iconst hC d_Law_setWeight_15 (v := nI 1) (by decide) ?_
      exact hret _ _ _ _ _ _ _ d_Law_setWeight_16 (by decide) (by decide) rfl (Or.inr (⟨rfl, hM9, (hag9 _ hbo).trans ho, hcond, fun a9 q1 _ => hag9 a9 q1⟩))
  · skip
    obtain ⟨rfl, rfl, hM9, pn0, hag9⟩ := hp9
    have ho9 := (hag9 _ hbo).trans ho
    refine x_i2l hC d_Law_setWeight_8 rfl ?_
    refine x_last hC ho9 (j := 0) ⟨rfl, by decide, by decide⟩ d_Law_setWeight_9 (g1 := vp_updL g0 0 ((((aWt M.1 c x).1)).toInt64)) rfl ?_
    refine x_goto hC d_Law_setWeight_10 (tgt := 17) (by decide) ?_
    refine x_iconst hC d_Law_setWeight_17 (v := nI 0) (by decide) ?_
    exact hret _ _ _ _ _ _ _ d_Law_setWeight_18 (by decide) (by decide) rfl (Or.inl ⟨rfl, xMC_fr hM9 (fun a9 q1 q2 => xup_ne (by omega)), xup_eq, pn0, fun a9 q1 q2 => (xup_ne q2).trans (hag9 a9 q1)⟩)

theorem d_Law_addSymbol_0 : decode method_4_code 0 = .ok (.aload_n 2, 1) := by decide +kernel
theorem d_Law_addSymbol_1 : decode method_4_code 1 = .ok (.iconst 0, 1) := by decide +kernel
theorem d_Law_addSymbol_2 : decode method_4_code 2 = .ok (.aload_n 0, 1) := by decide +kernel
theorem d_Law_addSymbol_3 : decode method_4_code 3 = .ok (.iload_n 1, 1) := by decide +kernel
theorem d_Law_addSymbol_4 : decode method_4_code 4 = .ok (.invokevirtual 15, 3) := by decide +kernel
theorem d_Law_addSymbol_7 : decode method_4_code 7 = .ok (.i2l, 1) := by decide +kernel
theorem d_Law_addSymbol_8 : decode method_4_code 8 = .ok (.lastore, 1) := by decide +kernel
theorem d_Law_addSymbol_9 : decode method_4_code 9 = .ok (.goto 9, 3) := by decide +kernel
theorem d_Law_addSymbol_12 : decode method_4_code 12 = .ok (.astore_n 3, 1) := by decide +kernel
theorem d_Law_addSymbol_13 : decode method_4_code 13 = .ok (.iconst 1, 1) := by decide +kernel
theorem d_Law_addSymbol_14 : decode method_4_code 14 = .ok (.ireturn, 1) := by decide +kernel
theorem d_Law_addSymbol_15 : decode method_4_code 15 = .ok (.astore_n 3, 1) := by decide +kernel
theorem d_Law_addSymbol_16 : decode method_4_code 16 = .ok (.iconst 2, 1) := by decide +kernel
theorem d_Law_addSymbol_17 : decode method_4_code 17 = .ok (.ireturn, 1) := by decide +kernel
theorem d_Law_addSymbol_18 : decode method_4_code 18 = .ok (.iconst 0, 1) := by decide +kernel
theorem d_Law_addSymbol_19 : decode method_4_code 19 = .ok (.ireturn, 1) := by decide +kernel
set_option maxHeartbeats 4000000 in
set_option maxRecDepth 20000 in
theorem c_Law_addSymbol {P : xP} {F : xF} {z : Nat} {b : Nat} {cm : cmT} {M : mcS} {sm : Nat} {c : Nat} {o : Nat} {g0 : Nat → Int64} (hM : xMC F (cm) (b) (M)) (ho : F (o) = some (.inr (2, 1, fun b9 => .long (g0 b9)))) (hCM : xCM P cm) (hSM : xSM P sm) (hZx : xZx P) (hpp0 : M.2.2.2.2.2.2.1 < 100000) (hun0 : M.2.2.2.2.2.2.2.1 < 100000) (hc0 : c < 65536) (hNx : xNx P) (hbo : o < b ∨ b + 566 ≤ o) : xMw P xy_Law_addSymbol [(0, 9, 12, 13), (0, 9, 15, 19)] [.ref b, .int (nI (c)), .ref o] F (z) 1 6 (fun r9 F9 z9 => (r9 = some (.int (nI 0)) ∧ xMC F9 (cm) (b) ((chgM M (aDr M.1 c))) ∧ F9 (o) = some (.inr (2, 1, fun b9 => .long (vp_updL g0 0 ((((aDr M.1 c).1)).toInt64) b9))) ∧ (¬ (aDr M.1 c).1 = -1) ∧ (¬ (aDr M.1 c).1 = -2) ∧ (∀ a9 : Nat, (a9 < b ∨ b + 566 ≤ a9) → a9 ≠ o → F9 a9 = F a9)) ∨ (r9 = some (.int (nI 1)) ∧ xMC F9 (cm) (b) ((chgM M (aDr M.1 c))) ∧ F9 (o) = some (.inr (2, 1, fun b9 => .long (g0 b9))) ∧ ((aDr M.1 c).1 = -1) ∧ (∀ a9 : Nat, (a9 < b ∨ b + 566 ≤ a9) → a9 ≠ o → F9 a9 = F a9)) ∨ (r9 = some (.int (nI 2)) ∧ xMC F9 (cm) (b) ((chgM M (aDr M.1 c))) ∧ F9 (o) = some (.inr (2, 1, fun b9 => .long (g0 b9))) ∧ ((aDr M.1 c).1 = -2) ∧ (∀ a9 : Nat, (a9 < b ∨ b + 566 ≤ a9) → a9 ≠ o → F9 a9 = F a9))) := by
  refine xMw_i .int rfl (Nat.le_of_ble_eq_true rfl) (L0 := [some (.ref b), some (.int (nI (c))), some (.ref o), none]) rfl rfl fun Θ hC hT hret => ?_
  refine x_aload_n hC d_Law_addSymbol_0 rfl rfl ?_
  refine x_iconst hC d_Law_addSymbol_1 (v := nI 0) (by decide) ?_
  refine x_aload_n hC d_Law_addSymbol_2 rfl rfl ?_
  refine x_iload_n hC d_Law_addSymbol_3 rfl rfl ?_
  obtain ⟨b00, -⟩ := id hM
  refine x_callCV hC kv_Law_15 (c_MessageCoder_addSymbol (hM := hM) (hCM := hCM) (hSM := hSM) (hZx := hZx) (hpp0 := hpp0) (hun0 := hun0) (hc0 := hc0)) b00 rfl rfl (Nat.le_of_ble_eq_true rfl) rfl rfl rfl (Nat.le_of_ble_eq_true rfl) (by decide) d_Law_addSymbol_4 (fun E9 F9 z9 hp9 => ?_) (fun r9 F9 z9 hp9 => ?_)
  · skip
    rcases hp9 with ⟨rfl, hM9, hcond, hag9⟩ | ⟨rfl, hM9, hcond, hag9⟩
    · skip
      refine xH_at hC (name := "java/lang/IllegalArgumentException") [] ⟨0, 9, 12, 13⟩ [⟨0, 9, 15, 19⟩] (hT.trans rfl) (fun y hy => nomatch hy) rfl (by decide) (x_in (x_of (xtb_4 (List.mem_of_getElem? (i := 47) (by decide +kernel)))) (by decide +kernel)) (x_inN (xtb_4 (List.mem_of_getElem? (i := 56) (by decide +kernel))) (by decide +kernel)) (fun q9 => ?_)
      show xX P Θ 12 _ _ _ _ _ _
      refine x_astore_n hC d_Law_addSymbol_12 rfl (Nat.le_of_ble_eq_true rfl) (L1 := [some (.ref b), some (.int (nI (c))), some (.ref o), some (.ref q9)]) rfl ?_
      refine x_iconst hC d_Law_addSymbol_13 (v := nI 1) (by decide) ?_
      exact hret _ _ _ _ _ _ _ d_Law_addSymbol_14 (by decide) (by decide) rfl (Or.inr (Or.inl ⟨rfl, hM9, (hag9 _ hbo).trans ho, hcond, fun a9 q1 _ => hag9 a9 q1⟩))
    · skip
      refine xH_at hC (name := "java/lang/IllegalStateException") [⟨0, 9, 12, 13⟩] ⟨0, 9, 15, 19⟩ [] (hT.trans rfl) (fun y hy => by rw [List.mem_singleton.mp hy]; exact ⟨by decide, "java/lang/IllegalArgumentException", x_in (x_of (xtb_4 (List.mem_of_getElem? (i := 47) (by decide +kernel)))) (by decide +kernel), (xNx_1 hC hNx).1⟩) rfl (by decide) (x_in (x_of (xtb_4 (List.mem_of_getElem? (i := 128) (by decide +kernel)))) (by decide +kernel)) (x_inN (xtb_4 (List.mem_of_getElem? (i := 138) (by decide +kernel))) (by decide +kernel)) (fun q9 => ?_)
      show xX P Θ 15 _ _ _ _ _ _
      refine x_astore_n hC d_Law_addSymbol_15 rfl (Nat.le_of_ble_eq_true rfl) (L1 := [some (.ref b), some (.int (nI (c))), some (.ref o), some (.ref q9)]) rfl ?_
      refine x_iconst hC d_Law_addSymbol_16 (v := nI 2) (by decide) ?_
      exact hret _ _ _ _ _ _ _ d_Law_addSymbol_17 (by decide) (by decide) rfl (Or.inr (Or.inr (⟨rfl, hM9, (hag9 _ hbo).trans ho, hcond, fun a9 q1 _ => hag9 a9 q1⟩)))
  · skip
    obtain ⟨rfl, rfl, hM9, pn0, pn1, hag9⟩ := hp9
    have ho9 := (hag9 _ hbo).trans ho
    refine x_i2l hC d_Law_addSymbol_7 rfl ?_
    refine x_last hC ho9 (j := 0) ⟨rfl, by decide, by decide⟩ d_Law_addSymbol_8 (g1 := vp_updL g0 0 ((((aDr M.1 c).1)).toInt64)) rfl ?_
    refine x_goto hC d_Law_addSymbol_9 (tgt := 18) (by decide) ?_
    refine x_iconst hC d_Law_addSymbol_18 (v := nI 0) (by decide) ?_
    exact hret _ _ _ _ _ _ _ d_Law_addSymbol_19 (by decide) (by decide) rfl (Or.inl ⟨rfl, xMC_fr hM9 (fun a9 q1 q2 => xup_ne (by omega)), xup_eq, pn0, pn1, fun a9 q1 q2 => (xup_ne q2).trans (hag9 a9 q1)⟩)

theorem d_Law_post_0 : decode method_5_code 0 = .ok (.aload_n 2, 1) := by decide +kernel
theorem d_Law_post_1 : decode method_5_code 1 = .ok (.iconst 0, 1) := by decide +kernel
theorem d_Law_post_2 : decode method_5_code 2 = .ok (.aload_n 0, 1) := by decide +kernel
theorem d_Law_post_3 : decode method_5_code 3 = .ok (.iload_n 1, 1) := by decide +kernel
theorem d_Law_post_4 : decode method_5_code 4 = .ok (.invokevirtual 21, 3) := by decide +kernel
theorem d_Law_post_7 : decode method_5_code 7 = .ok (.i2l, 1) := by decide +kernel
theorem d_Law_post_8 : decode method_5_code 8 = .ok (.lastore, 1) := by decide +kernel
theorem d_Law_post_9 : decode method_5_code 9 = .ok (.goto 9, 3) := by decide +kernel
theorem d_Law_post_12 : decode method_5_code 12 = .ok (.astore_n 3, 1) := by decide +kernel
theorem d_Law_post_13 : decode method_5_code 13 = .ok (.iconst 1, 1) := by decide +kernel
theorem d_Law_post_14 : decode method_5_code 14 = .ok (.ireturn, 1) := by decide +kernel
theorem d_Law_post_15 : decode method_5_code 15 = .ok (.astore_n 3, 1) := by decide +kernel
theorem d_Law_post_16 : decode method_5_code 16 = .ok (.iconst 2, 1) := by decide +kernel
theorem d_Law_post_17 : decode method_5_code 17 = .ok (.ireturn, 1) := by decide +kernel
theorem d_Law_post_18 : decode method_5_code 18 = .ok (.iconst 0, 1) := by decide +kernel
theorem d_Law_post_19 : decode method_5_code 19 = .ok (.ireturn, 1) := by decide +kernel
set_option maxHeartbeats 4000000 in
set_option maxRecDepth 20000 in
theorem c_Law_post {P : xP} {F : xF} {z : Nat} {b : Nat} {cm : cmT} {M : mcS} {sm : Nat} {a : Int32} {o : Nat} {g0 : Nat → Int64} (hM : xMC F (cm) (b) (M)) (ho : F (o) = some (.inr (2, 1, fun b9 => .long (g0 b9)))) (hCM : xCM P cm) (hSM : xSM P sm) (hZx : xZx P) (hpp0 : M.2.2.2.2.2.2.1 < 100000) (hun0 : M.2.2.2.2.2.2.2.1 < 100000) (hnx : M.1.2.2.1.2.1 < 999) (hNx : xNx P) (hbo : o < b ∨ b + 566 ≤ o) : xMw P xy_Law_post [(0, 9, 12, 13), (0, 9, 15, 19)] [.ref b, .int a, .ref o] F (z) 1 6 (fun r9 F9 z9 => (r9 = some (.int (nI 0)) ∧ xMC F9 (cm) (b) ((chgM M (aPo M.1 a))) ∧ F9 (o) = some (.inr (2, 1, fun b9 => .long (vp_updL g0 0 ((((aPo M.1 a).1)).toInt64) b9))) ∧ (¬ (aPo M.1 a).1 = -1) ∧ (¬ (aPo M.1 a).1 = -2) ∧ (∀ a9 : Nat, (a9 < b ∨ b + 566 ≤ a9) → a9 ≠ o → F9 a9 = F a9)) ∨ (r9 = some (.int (nI 1)) ∧ xMC F9 (cm) (b) ((chgM M (aPo M.1 a))) ∧ F9 (o) = some (.inr (2, 1, fun b9 => .long (g0 b9))) ∧ ((aPo M.1 a).1 = -1) ∧ (∀ a9 : Nat, (a9 < b ∨ b + 566 ≤ a9) → a9 ≠ o → F9 a9 = F a9)) ∨ (r9 = some (.int (nI 2)) ∧ xMC F9 (cm) (b) ((chgM M (aPo M.1 a))) ∧ F9 (o) = some (.inr (2, 1, fun b9 => .long (g0 b9))) ∧ ((aPo M.1 a).1 = -2) ∧ (∀ a9 : Nat, (a9 < b ∨ b + 566 ≤ a9) → a9 ≠ o → F9 a9 = F a9))) := by
  refine xMw_i .int rfl (Nat.le_of_ble_eq_true rfl) (L0 := [some (.ref b), some (.int a), some (.ref o), none]) rfl rfl fun Θ hC hT hret => ?_
  refine x_aload_n hC d_Law_post_0 rfl rfl ?_
  refine x_iconst hC d_Law_post_1 (v := nI 0) (by decide) ?_
  refine x_aload_n hC d_Law_post_2 rfl rfl ?_
  refine x_iload_n hC d_Law_post_3 rfl rfl ?_
  obtain ⟨b00, -⟩ := id hM
  refine x_callCV hC kv_Law_21 (c_MessageCoder_post (hM := hM) (hCM := hCM) (hSM := hSM) (hZx := hZx) (hpp0 := hpp0) (hun0 := hun0) (hnx := hnx)) b00 rfl rfl (Nat.le_of_ble_eq_true rfl) rfl rfl rfl (Nat.le_of_ble_eq_true rfl) (by decide) d_Law_post_4 (fun E9 F9 z9 hp9 => ?_) (fun r9 F9 z9 hp9 => ?_)
  · skip
    rcases hp9 with ⟨rfl, hM9, hcond, hag9⟩ | ⟨rfl, hM9, hcond, hag9⟩
    · skip
      refine xH_at hC (name := "java/lang/IllegalArgumentException") [] ⟨0, 9, 12, 13⟩ [⟨0, 9, 15, 19⟩] (hT.trans rfl) (fun y hy => nomatch hy) rfl (by decide) (x_in (x_of (xtb_4 (List.mem_of_getElem? (i := 47) (by decide +kernel)))) (by decide +kernel)) (x_inN (xtb_4 (List.mem_of_getElem? (i := 56) (by decide +kernel))) (by decide +kernel)) (fun q9 => ?_)
      show xX P Θ 12 _ _ _ _ _ _
      refine x_astore_n hC d_Law_post_12 rfl (Nat.le_of_ble_eq_true rfl) (L1 := [some (.ref b), some (.int a), some (.ref o), some (.ref q9)]) rfl ?_
      refine x_iconst hC d_Law_post_13 (v := nI 1) (by decide) ?_
      exact hret _ _ _ _ _ _ _ d_Law_post_14 (by decide) (by decide) rfl (Or.inr (Or.inl ⟨rfl, hM9, (hag9 _ hbo).trans ho, hcond, fun a9 q1 _ => hag9 a9 q1⟩))
    · skip
      refine xH_at hC (name := "java/lang/IllegalStateException") [⟨0, 9, 12, 13⟩] ⟨0, 9, 15, 19⟩ [] (hT.trans rfl) (fun y hy => by rw [List.mem_singleton.mp hy]; exact ⟨by decide, "java/lang/IllegalArgumentException", x_in (x_of (xtb_4 (List.mem_of_getElem? (i := 47) (by decide +kernel)))) (by decide +kernel), (xNx_1 hC hNx).1⟩) rfl (by decide) (x_in (x_of (xtb_4 (List.mem_of_getElem? (i := 128) (by decide +kernel)))) (by decide +kernel)) (x_inN (xtb_4 (List.mem_of_getElem? (i := 138) (by decide +kernel))) (by decide +kernel)) (fun q9 => ?_)
      show xX P Θ 15 _ _ _ _ _ _
      refine x_astore_n hC d_Law_post_15 rfl (Nat.le_of_ble_eq_true rfl) (L1 := [some (.ref b), some (.int a), some (.ref o), some (.ref q9)]) rfl ?_
      refine x_iconst hC d_Law_post_16 (v := nI 2) (by decide) ?_
      exact hret _ _ _ _ _ _ _ d_Law_post_17 (by decide) (by decide) rfl (Or.inr (Or.inr (⟨rfl, hM9, (hag9 _ hbo).trans ho, hcond, fun a9 q1 _ => hag9 a9 q1⟩)))
  · skip
    obtain ⟨rfl, rfl, hM9, pn0, pn1, hag9⟩ := hp9
    have ho9 := (hag9 _ hbo).trans ho
    refine x_i2l hC d_Law_post_7 rfl ?_
    refine x_last hC ho9 (j := 0) ⟨rfl, by decide, by decide⟩ d_Law_post_8 (g1 := vp_updL g0 0 ((((aPo M.1 a).1)).toInt64)) rfl ?_
    refine x_goto hC d_Law_post_9 (tgt := 18) (by decide) ?_
    refine x_iconst hC d_Law_post_18 (v := nI 0) (by decide) ?_
    exact hret _ _ _ _ _ _ _ d_Law_post_19 (by decide) (by decide) rfl (Or.inl ⟨rfl, xMC_fr hM9 (fun a9 q1 q2 => xup_ne (by omega)), xup_eq, pn0, pn1, fun a9 q1 q2 => (xup_ne q2).trans (hag9 a9 q1)⟩)

theorem d_Law_drop_0 : decode method_6_code 0 = .ok (.aload_n 2, 1) := by decide +kernel
theorem d_Law_drop_1 : decode method_6_code 1 = .ok (.iconst 0, 1) := by decide +kernel
theorem d_Law_drop_2 : decode method_6_code 2 = .ok (.aload_n 0, 1) := by decide +kernel
theorem d_Law_drop_3 : decode method_6_code 3 = .ok (.iload_n 1, 1) := by decide +kernel
theorem d_Law_drop_4 : decode method_6_code 4 = .ok (.invokevirtual 25, 3) := by decide +kernel
theorem d_Law_drop_7 : decode method_6_code 7 = .ok (.i2l, 1) := by decide +kernel
theorem d_Law_drop_8 : decode method_6_code 8 = .ok (.lastore, 1) := by decide +kernel
theorem d_Law_drop_9 : decode method_6_code 9 = .ok (.goto 6, 3) := by decide +kernel
theorem d_Law_drop_12 : decode method_6_code 12 = .ok (.astore_n 3, 1) := by decide +kernel
theorem d_Law_drop_13 : decode method_6_code 13 = .ok (.iconst 1, 1) := by decide +kernel
theorem d_Law_drop_14 : decode method_6_code 14 = .ok (.ireturn, 1) := by decide +kernel
theorem d_Law_drop_15 : decode method_6_code 15 = .ok (.iconst 0, 1) := by decide +kernel
theorem d_Law_drop_16 : decode method_6_code 16 = .ok (.ireturn, 1) := by decide +kernel
set_option maxHeartbeats 4000000 in
set_option maxRecDepth 20000 in
theorem c_Law_drop {P : xP} {F : xF} {z : Nat} {b : Nat} {cm : cmT} {M : mcS} {sm : Nat} {a : Int32} {o : Nat} {g0 : Nat → Int64} (hM : xMC F (cm) (b) (M)) (ho : F (o) = some (.inr (2, 1, fun b9 => .long (g0 b9)))) (hCM : xCM P cm) (hSM : xSM P sm) (hZx : xZx P) (hpp0 : M.2.2.2.2.2.2.1 < 100000) (hun0 : M.2.2.2.2.2.2.2.1 < 100000) (hNx : xNx P) (hbo : o < b ∨ b + 566 ≤ o) : xMw P xy_Law_drop [(0, 9, 12, 28)] [.ref b, .int a, .ref o] F (z) 1 6 (fun r9 F9 z9 => (r9 = some (.int (nI 0)) ∧ xMC F9 (cm) (b) ((chgM M (aDi M.1 a))) ∧ F9 (o) = some (.inr (2, 1, fun b9 => .long (vp_updL g0 0 ((((aDi M.1 a).1)).toInt64) b9))) ∧ (¬ (aDi M.1 a).1 = -3) ∧ (∀ a9 : Nat, (a9 < b ∨ b + 566 ≤ a9) → a9 ≠ o → F9 a9 = F a9)) ∨ (r9 = some (.int (nI 1)) ∧ xMC F9 (cm) (b) ((chgM M (aDi M.1 a))) ∧ F9 (o) = some (.inr (2, 1, fun b9 => .long (g0 b9))) ∧ ((aDi M.1 a).1 = -3) ∧ (∀ a9 : Nat, (a9 < b ∨ b + 566 ≤ a9) → a9 ≠ o → F9 a9 = F a9))) := by
  refine xMw_i .int rfl (Nat.le_of_ble_eq_true rfl) (L0 := [some (.ref b), some (.int a), some (.ref o), none]) rfl rfl fun Θ hC hT hret => ?_
  refine x_aload_n hC d_Law_drop_0 rfl rfl ?_
  refine x_iconst hC d_Law_drop_1 (v := nI 0) (by decide) ?_
  refine x_aload_n hC d_Law_drop_2 rfl rfl ?_
  refine x_iload_n hC d_Law_drop_3 rfl rfl ?_
  obtain ⟨b00, -⟩ := id hM
  refine x_callCV hC kv_Law_25 (c_MessageCoder_drop (hM := hM) (hCM := hCM) (hSM := hSM) (hZx := hZx) (hpp0 := hpp0) (hun0 := hun0)) b00 rfl rfl (Nat.le_of_ble_eq_true rfl) rfl rfl rfl (Nat.le_of_ble_eq_true rfl) (by decide) d_Law_drop_4 (fun E9 F9 z9 hp9 => ?_) (fun r9 F9 z9 hp9 => ?_)
  · skip
    rcases hp9 with ⟨rfl, hM9, hcond, hag9⟩
    · skip
      refine xH_at hC (name := "java/util/NoSuchElementException") [] ⟨0, 9, 12, 28⟩ [] (hT.trans rfl) (fun y hy => nomatch hy) rfl (by decide) (x_in (x_of (xtb_4 (List.mem_of_getElem? (i := 166) (by decide +kernel)))) (by decide +kernel)) (x_inN (xtb_4 (List.mem_of_getElem? (i := 175) (by decide +kernel))) (by decide +kernel)) (fun q9 => ?_)
      show xX P Θ 12 _ _ _ _ _ _
      refine x_astore_n hC d_Law_drop_12 rfl (Nat.le_of_ble_eq_true rfl) (L1 := [some (.ref b), some (.int a), some (.ref o), some (.ref q9)]) rfl ?_
      refine x_iconst hC d_Law_drop_13 (v := nI 1) (by decide) ?_
      exact hret _ _ _ _ _ _ _ d_Law_drop_14 (by decide) (by decide) rfl (Or.inr (⟨rfl, hM9, (hag9 _ hbo).trans ho, hcond, fun a9 q1 _ => hag9 a9 q1⟩))
  · skip
    obtain ⟨rfl, rfl, hM9, pn0, hag9⟩ := hp9
    have ho9 := (hag9 _ hbo).trans ho
    refine x_i2l hC d_Law_drop_7 rfl ?_
    refine x_last hC ho9 (j := 0) ⟨rfl, by decide, by decide⟩ d_Law_drop_8 (g1 := vp_updL g0 0 ((((aDi M.1 a).1)).toInt64)) rfl ?_
    refine x_goto hC d_Law_drop_9 (tgt := 15) (by decide) ?_
    refine x_iconst hC d_Law_drop_15 (v := nI 0) (by decide) ?_
    exact hret _ _ _ _ _ _ _ d_Law_drop_16 (by decide) (by decide) rfl (Or.inl ⟨rfl, xMC_fr hM9 (fun a9 q1 q2 => xup_ne (by omega)), xup_eq, pn0, fun a9 q1 q2 => (xup_ne q2).trans (hag9 a9 q1)⟩)

theorem d_Law_setPriority_0 : decode method_7_code 0 = .ok (.aload_n 3, 1) := by decide +kernel
theorem d_Law_setPriority_1 : decode method_7_code 1 = .ok (.iconst 0, 1) := by decide +kernel
theorem d_Law_setPriority_2 : decode method_7_code 2 = .ok (.aload_n 0, 1) := by decide +kernel
theorem d_Law_setPriority_3 : decode method_7_code 3 = .ok (.iload_n 1, 1) := by decide +kernel
theorem d_Law_setPriority_4 : decode method_7_code 4 = .ok (.iload_n 2, 1) := by decide +kernel
theorem d_Law_setPriority_5 : decode method_7_code 5 = .ok (.invokevirtual 30, 3) := by decide +kernel
theorem d_Law_setPriority_8 : decode method_7_code 8 = .ok (.i2l, 1) := by decide +kernel
theorem d_Law_setPriority_9 : decode method_7_code 9 = .ok (.lastore, 1) := by decide +kernel
theorem d_Law_setPriority_10 : decode method_7_code 10 = .ok (.goto 11, 3) := by decide +kernel
theorem d_Law_setPriority_13 : decode method_7_code 13 = .ok (.astore 4, 2) := by decide +kernel
theorem d_Law_setPriority_15 : decode method_7_code 15 = .ok (.iconst 1, 1) := by decide +kernel
theorem d_Law_setPriority_16 : decode method_7_code 16 = .ok (.ireturn, 1) := by decide +kernel
theorem d_Law_setPriority_17 : decode method_7_code 17 = .ok (.astore 4, 2) := by decide +kernel
theorem d_Law_setPriority_19 : decode method_7_code 19 = .ok (.iconst 2, 1) := by decide +kernel
theorem d_Law_setPriority_20 : decode method_7_code 20 = .ok (.ireturn, 1) := by decide +kernel
theorem d_Law_setPriority_21 : decode method_7_code 21 = .ok (.iconst 0, 1) := by decide +kernel
theorem d_Law_setPriority_22 : decode method_7_code 22 = .ok (.ireturn, 1) := by decide +kernel
set_option maxHeartbeats 4000000 in
set_option maxRecDepth 20000 in
theorem c_Law_setPriority {P : xP} {F : xF} {z : Nat} {b : Nat} {cm : cmT} {M : mcS} {sm : Nat} {a : Int32} {x : Int32} {o : Nat} {g0 : Nat → Int64} (hM : xMC F (cm) (b) (M)) (ho : F (o) = some (.inr (2, 1, fun b9 => .long (g0 b9)))) (hCM : xCM P cm) (hSM : xSM P sm) (hZx : xZx P) (hpp0 : M.2.2.2.2.2.2.1 < 100000) (hun0 : M.2.2.2.2.2.2.2.1 < 100000) (hNx : xNx P) (hbo : o < b ∨ b + 566 ≤ o) : xMw P xy_Law_setPriority [(0, 10, 13, 28), (0, 10, 17, 13)] [.ref b, .int a, .int x, .ref o] F (z) 1 6 (fun r9 F9 z9 => (r9 = some (.int (nI 0)) ∧ xMC F9 (cm) (b) ((chgM M (aHu M.1 a x))) ∧ F9 (o) = some (.inr (2, 1, fun b9 => .long (vp_updL g0 0 ((((aHu M.1 a x).1)).toInt64) b9))) ∧ (¬ (aHu M.1 a x).1 = -3) ∧ (¬ (aHu M.1 a x).1 = -1) ∧ (∀ a9 : Nat, (a9 < b ∨ b + 566 ≤ a9) → a9 ≠ o → F9 a9 = F a9)) ∨ (r9 = some (.int (nI 1)) ∧ xMC F9 (cm) (b) ((chgM M (aHu M.1 a x))) ∧ F9 (o) = some (.inr (2, 1, fun b9 => .long (g0 b9))) ∧ ((aHu M.1 a x).1 = -3) ∧ (∀ a9 : Nat, (a9 < b ∨ b + 566 ≤ a9) → a9 ≠ o → F9 a9 = F a9)) ∨ (r9 = some (.int (nI 2)) ∧ xMC F9 (cm) (b) ((chgM M (aHu M.1 a x))) ∧ F9 (o) = some (.inr (2, 1, fun b9 => .long (g0 b9))) ∧ ((aHu M.1 a x).1 = -1) ∧ (∀ a9 : Nat, (a9 < b ∨ b + 566 ≤ a9) → a9 ≠ o → F9 a9 = F a9))) := by
  refine xMw_i .int rfl (Nat.le_of_ble_eq_true rfl) (L0 := [some (.ref b), some (.int a), some (.int x), some (.ref o), none]) rfl rfl fun Θ hC hT hret => ?_
  refine x_aload_n hC d_Law_setPriority_0 rfl rfl ?_
  refine x_iconst hC d_Law_setPriority_1 (v := nI 0) (by decide) ?_
  refine x_aload_n hC d_Law_setPriority_2 rfl rfl ?_
  refine x_iload_n hC d_Law_setPriority_3 rfl rfl ?_
  refine x_iload_n hC d_Law_setPriority_4 rfl rfl ?_
  obtain ⟨b00, -⟩ := id hM
  refine x_callCV hC kv_Law_30 (c_MessageCoder_setPriority (hM := hM) (hCM := hCM) (hSM := hSM) (hZx := hZx) (hpp0 := hpp0) (hun0 := hun0)) b00 rfl rfl (Nat.le_of_ble_eq_true rfl) rfl rfl rfl (Nat.le_of_ble_eq_true rfl) (by decide) d_Law_setPriority_5 (fun E9 F9 z9 hp9 => ?_) (fun r9 F9 z9 hp9 => ?_)
  · skip
    rcases hp9 with ⟨rfl, hM9, hcond, hag9⟩ | ⟨rfl, hM9, hcond, hag9⟩
    · skip
      refine xH_at hC (name := "java/util/NoSuchElementException") [] ⟨0, 10, 13, 28⟩ [⟨0, 10, 17, 13⟩] (hT.trans rfl) (fun y hy => nomatch hy) rfl (by decide) (x_in (x_of (xtb_4 (List.mem_of_getElem? (i := 166) (by decide +kernel)))) (by decide +kernel)) (x_inN (xtb_4 (List.mem_of_getElem? (i := 175) (by decide +kernel))) (by decide +kernel)) (fun q9 => ?_)
      show xX P Θ 13 _ _ _ _ _ _
      refine x_astore hC d_Law_setPriority_13 (Nat.le_of_ble_eq_true rfl) (L1 := [some (.ref b), some (.int a), some (.int x), some (.ref o), some (.ref q9)]) rfl ?_
      refine x_iconst hC d_Law_setPriority_15 (v := nI 1) (by decide) ?_
      exact hret _ _ _ _ _ _ _ d_Law_setPriority_16 (by decide) (by decide) rfl (Or.inr (Or.inl ⟨rfl, hM9, (hag9 _ hbo).trans ho, hcond, fun a9 q1 _ => hag9 a9 q1⟩))
    · skip
      refine xH_at hC (name := "java/lang/IllegalArgumentException") [⟨0, 10, 13, 28⟩] ⟨0, 10, 17, 13⟩ [] (hT.trans rfl) (fun y hy => by rw [List.mem_singleton.mp hy]; exact ⟨by decide, "java/util/NoSuchElementException", x_in (x_of (xtb_4 (List.mem_of_getElem? (i := 166) (by decide +kernel)))) (by decide +kernel), (xNx_1 hC hNx).2.1⟩) rfl (by decide) (x_in (x_of (xtb_4 (List.mem_of_getElem? (i := 47) (by decide +kernel)))) (by decide +kernel)) (x_inN (xtb_4 (List.mem_of_getElem? (i := 56) (by decide +kernel))) (by decide +kernel)) (fun q9 => ?_)
      show xX P Θ 17 _ _ _ _ _ _
      refine x_astore hC d_Law_setPriority_17 (Nat.le_of_ble_eq_true rfl) (L1 := [some (.ref b), some (.int a), some (.int x), some (.ref o), some (.ref q9)]) rfl ?_
      refine x_iconst hC d_Law_setPriority_19 (v := nI 2) (by decide) ?_
      exact hret _ _ _ _ _ _ _ d_Law_setPriority_20 (by decide) (by decide) rfl (Or.inr (Or.inr (⟨rfl, hM9, (hag9 _ hbo).trans ho, hcond, fun a9 q1 _ => hag9 a9 q1⟩)))
  · skip
    obtain ⟨rfl, rfl, hM9, pn0, pn1, hag9⟩ := hp9
    have ho9 := (hag9 _ hbo).trans ho
    refine x_i2l hC d_Law_setPriority_8 rfl ?_
    refine x_last hC ho9 (j := 0) ⟨rfl, by decide, by decide⟩ d_Law_setPriority_9 (g1 := vp_updL g0 0 ((((aHu M.1 a x).1)).toInt64)) rfl ?_
    refine x_goto hC d_Law_setPriority_10 (tgt := 21) (by decide) ?_
    refine x_iconst hC d_Law_setPriority_21 (v := nI 0) (by decide) ?_
    exact hret _ _ _ _ _ _ _ d_Law_setPriority_22 (by decide) (by decide) rfl (Or.inl ⟨rfl, xMC_fr hM9 (fun a9 q1 q2 => xup_ne (by omega)), xup_eq, pn0, pn1, fun a9 q1 q2 => (xup_ne q2).trans (hag9 a9 q1)⟩)

theorem d_Law_learn_0 : decode method_8_code 0 = .ok (.aload_n 2, 1) := by decide +kernel
theorem d_Law_learn_1 : decode method_8_code 1 = .ok (.iconst 0, 1) := by decide +kernel
theorem d_Law_learn_2 : decode method_8_code 2 = .ok (.aload_n 0, 1) := by decide +kernel
theorem d_Law_learn_3 : decode method_8_code 3 = .ok (.iload_n 1, 1) := by decide +kernel
theorem d_Law_learn_4 : decode method_8_code 4 = .ok (.invokevirtual 34, 3) := by decide +kernel
theorem d_Law_learn_7 : decode method_8_code 7 = .ok (.i2l, 1) := by decide +kernel
theorem d_Law_learn_8 : decode method_8_code 8 = .ok (.lastore, 1) := by decide +kernel
theorem d_Law_learn_9 : decode method_8_code 9 = .ok (.goto 6, 3) := by decide +kernel
theorem d_Law_learn_12 : decode method_8_code 12 = .ok (.astore_n 3, 1) := by decide +kernel
theorem d_Law_learn_13 : decode method_8_code 13 = .ok (.iconst 1, 1) := by decide +kernel
theorem d_Law_learn_14 : decode method_8_code 14 = .ok (.ireturn, 1) := by decide +kernel
theorem d_Law_learn_15 : decode method_8_code 15 = .ok (.iconst 0, 1) := by decide +kernel
theorem d_Law_learn_16 : decode method_8_code 16 = .ok (.ireturn, 1) := by decide +kernel
set_option maxHeartbeats 4000000 in
set_option maxRecDepth 20000 in
theorem c_Law_learn {P : xP} {F : xF} {z : Nat} {b : Nat} {cm : cmT} {M : mcS} {sm : Nat} {a : Int32} {o : Nat} {g0 : Nat → Int64} (hM : xMC F (cm) (b) (M)) (ho : F (o) = some (.inr (2, 1, fun b9 => .long (g0 b9)))) (hCM : xCM P cm) (hSM : xSM P sm) (hZx : xZx P) (hpp0 : M.2.2.2.2.2.2.1 < 100000) (hun0 : M.2.2.2.2.2.2.2.1 < 100000) (hNx : xNx P) (hbo : o < b ∨ b + 566 ≤ o) : xMw P xy_Law_learn [(0, 9, 12, 28)] [.ref b, .int a, .ref o] F (z) 1 6 (fun r9 F9 z9 => (r9 = some (.int (nI 0)) ∧ xMC F9 (cm) (b) ((chgM M (aLe M.1 a))) ∧ F9 (o) = some (.inr (2, 1, fun b9 => .long (vp_updL g0 0 ((((aLe M.1 a).1)).toInt64) b9))) ∧ (¬ (aLe M.1 a).1 = -3) ∧ (∀ a9 : Nat, (a9 < b ∨ b + 566 ≤ a9) → a9 ≠ o → F9 a9 = F a9)) ∨ (r9 = some (.int (nI 1)) ∧ xMC F9 (cm) (b) ((chgM M (aLe M.1 a))) ∧ F9 (o) = some (.inr (2, 1, fun b9 => .long (g0 b9))) ∧ ((aLe M.1 a).1 = -3) ∧ (∀ a9 : Nat, (a9 < b ∨ b + 566 ≤ a9) → a9 ≠ o → F9 a9 = F a9))) := by
  refine xMw_i .int rfl (Nat.le_of_ble_eq_true rfl) (L0 := [some (.ref b), some (.int a), some (.ref o), none]) rfl rfl fun Θ hC hT hret => ?_
  refine x_aload_n hC d_Law_learn_0 rfl rfl ?_
  refine x_iconst hC d_Law_learn_1 (v := nI 0) (by decide) ?_
  refine x_aload_n hC d_Law_learn_2 rfl rfl ?_
  refine x_iload_n hC d_Law_learn_3 rfl rfl ?_
  obtain ⟨b00, -⟩ := id hM
  refine x_callCV hC kv_Law_34 (c_MessageCoder_learn (hM := hM) (hCM := hCM) (hSM := hSM) (hZx := hZx) (hpp0 := hpp0) (hun0 := hun0)) b00 rfl rfl (Nat.le_of_ble_eq_true rfl) rfl rfl rfl (Nat.le_of_ble_eq_true rfl) (by decide) d_Law_learn_4 (fun E9 F9 z9 hp9 => ?_) (fun r9 F9 z9 hp9 => ?_)
  · skip
    rcases hp9 with ⟨rfl, hM9, hcond, hag9⟩
    · skip
      refine xH_at hC (name := "java/util/NoSuchElementException") [] ⟨0, 9, 12, 28⟩ [] (hT.trans rfl) (fun y hy => nomatch hy) rfl (by decide) (x_in (x_of (xtb_4 (List.mem_of_getElem? (i := 166) (by decide +kernel)))) (by decide +kernel)) (x_inN (xtb_4 (List.mem_of_getElem? (i := 175) (by decide +kernel))) (by decide +kernel)) (fun q9 => ?_)
      show xX P Θ 12 _ _ _ _ _ _
      refine x_astore_n hC d_Law_learn_12 rfl (Nat.le_of_ble_eq_true rfl) (L1 := [some (.ref b), some (.int a), some (.ref o), some (.ref q9)]) rfl ?_
      refine x_iconst hC d_Law_learn_13 (v := nI 1) (by decide) ?_
      exact hret _ _ _ _ _ _ _ d_Law_learn_14 (by decide) (by decide) rfl (Or.inr (⟨rfl, hM9, (hag9 _ hbo).trans ho, hcond, fun a9 q1 _ => hag9 a9 q1⟩))
  · skip
    obtain ⟨rfl, rfl, hM9, pn0, hag9⟩ := hp9
    have ho9 := (hag9 _ hbo).trans ho
    refine x_i2l hC d_Law_learn_7 rfl ?_
    refine x_last hC ho9 (j := 0) ⟨rfl, by decide, by decide⟩ d_Law_learn_8 (g1 := vp_updL g0 0 ((((aLe M.1 a).1)).toInt64)) rfl ?_
    refine x_goto hC d_Law_learn_9 (tgt := 15) (by decide) ?_
    refine x_iconst hC d_Law_learn_15 (v := nI 0) (by decide) ?_
    exact hret _ _ _ _ _ _ _ d_Law_learn_16 (by decide) (by decide) rfl (Or.inl ⟨rfl, xMC_fr hM9 (fun a9 q1 q2 => xup_ne (by omega)), xup_eq, pn0, fun a9 q1 q2 => (xup_ne q2).trans (hag9 a9 q1)⟩)

theorem d_Law_send_0 : decode method_9_code 0 = .ok (.aload_n 1, 1) := by decide +kernel
theorem d_Law_send_1 : decode method_9_code 1 = .ok (.iconst 0, 1) := by decide +kernel
theorem d_Law_send_2 : decode method_9_code 2 = .ok (.aload_n 0, 1) := by decide +kernel
theorem d_Law_send_3 : decode method_9_code 3 = .ok (.invokevirtual 37, 3) := by decide +kernel
theorem d_Law_send_6 : decode method_9_code 6 = .ok (.i2l, 1) := by decide +kernel
theorem d_Law_send_7 : decode method_9_code 7 = .ok (.lastore, 1) := by decide +kernel
theorem d_Law_send_8 : decode method_9_code 8 = .ok (.goto 6, 3) := by decide +kernel
theorem d_Law_send_11 : decode method_9_code 11 = .ok (.astore_n 2, 1) := by decide +kernel
theorem d_Law_send_12 : decode method_9_code 12 = .ok (.iconst 1, 1) := by decide +kernel
theorem d_Law_send_13 : decode method_9_code 13 = .ok (.ireturn, 1) := by decide +kernel
theorem d_Law_send_14 : decode method_9_code 14 = .ok (.iconst 0, 1) := by decide +kernel
theorem d_Law_send_15 : decode method_9_code 15 = .ok (.ireturn, 1) := by decide +kernel
set_option maxHeartbeats 4000000 in
set_option maxRecDepth 20000 in
theorem c_Law_send {P : xP} {F : xF} {z : Nat} {b : Nat} {cm : cmT} {M : mcS} {sm : Nat} {o : Nat} {g0 : Nat → Int64} (hM : xMC F (cm) (b) (M)) (ho : F (o) = some (.inr (2, 1, fun b9 => .long (g0 b9)))) (hCM : xCM P cm) (hSM : xSM P sm) (hZx : xZx P) (hpp0 : M.2.2.2.2.2.2.1 < 100000) (hun0 : M.2.2.2.2.2.2.2.1 < 100000) (hNx : xNx P) (hbo : o < b ∨ b + 566 ≤ o) : xMw P xy_Law_send [(0, 8, 11, 28)] [.ref b, .ref o] F (z) 1 6 (fun r9 F9 z9 => (r9 = some (.int (nI 0)) ∧ xMC F9 (cm) (b) ((chgM M (aSe M.1))) ∧ F9 (o) = some (.inr (2, 1, fun b9 => .long (vp_updL g0 0 ((((aSe M.1).1)).toInt64) b9))) ∧ (¬ (aSe M.1).1 = -3) ∧ (∀ a9 : Nat, (a9 < b ∨ b + 566 ≤ a9) → a9 ≠ o → F9 a9 = F a9)) ∨ (r9 = some (.int (nI 1)) ∧ xMC F9 (cm) (b) ((chgM M (aSe M.1))) ∧ F9 (o) = some (.inr (2, 1, fun b9 => .long (g0 b9))) ∧ ((aSe M.1).1 = -3) ∧ (∀ a9 : Nat, (a9 < b ∨ b + 566 ≤ a9) → a9 ≠ o → F9 a9 = F a9))) := by
  refine xMw_i .int rfl (Nat.le_of_ble_eq_true rfl) (L0 := [some (.ref b), some (.ref o), none]) rfl rfl fun Θ hC hT hret => ?_
  refine x_aload_n hC d_Law_send_0 rfl rfl ?_
  refine x_iconst hC d_Law_send_1 (v := nI 0) (by decide) ?_
  refine x_aload_n hC d_Law_send_2 rfl rfl ?_
  obtain ⟨b00, -⟩ := id hM
  refine x_callCV hC kv_Law_37 (c_MessageCoder_send (hM := hM) (hCM := hCM) (hSM := hSM) (hZx := hZx) (hpp0 := hpp0) (hun0 := hun0)) b00 rfl rfl (Nat.le_of_ble_eq_true rfl) rfl rfl rfl (Nat.le_of_ble_eq_true rfl) (by decide) d_Law_send_3 (fun E9 F9 z9 hp9 => ?_) (fun r9 F9 z9 hp9 => ?_)
  · skip
    rcases hp9 with ⟨rfl, hM9, hcond, hag9⟩
    · skip
      refine xH_at hC (name := "java/util/NoSuchElementException") [] ⟨0, 8, 11, 28⟩ [] (hT.trans rfl) (fun y hy => nomatch hy) rfl (by decide) (x_in (x_of (xtb_4 (List.mem_of_getElem? (i := 166) (by decide +kernel)))) (by decide +kernel)) (x_inN (xtb_4 (List.mem_of_getElem? (i := 175) (by decide +kernel))) (by decide +kernel)) (fun q9 => ?_)
      show xX P Θ 11 _ _ _ _ _ _
      refine x_astore_n hC d_Law_send_11 rfl (Nat.le_of_ble_eq_true rfl) (L1 := [some (.ref b), some (.ref o), some (.ref q9)]) rfl ?_
      refine x_iconst hC d_Law_send_12 (v := nI 1) (by decide) ?_
      exact hret _ _ _ _ _ _ _ d_Law_send_13 (by decide) (by decide) rfl (Or.inr (⟨rfl, hM9, (hag9 _ hbo).trans ho, hcond, fun a9 q1 _ => hag9 a9 q1⟩))
  · skip
    obtain ⟨rfl, rfl, hM9, pn0, hag9⟩ := hp9
    have ho9 := (hag9 _ hbo).trans ho
    refine x_i2l hC d_Law_send_6 rfl ?_
    refine x_last hC ho9 (j := 0) ⟨rfl, by decide, by decide⟩ d_Law_send_7 (g1 := vp_updL g0 0 ((((aSe M.1).1)).toInt64)) rfl ?_
    refine x_goto hC d_Law_send_8 (tgt := 14) (by decide) ?_
    refine x_iconst hC d_Law_send_14 (v := nI 0) (by decide) ?_
    exact hret _ _ _ _ _ _ _ d_Law_send_15 (by decide) (by decide) rfl (Or.inl ⟨rfl, xMC_fr hM9 (fun a9 q1 q2 => xup_ne (by omega)), xup_eq, pn0, fun a9 q1 q2 => (xup_ne q2).trans (hag9 a9 q1)⟩)

theorem d_Law_flip_0 : decode method_10_code 0 = .ok (.aload_n 2, 1) := by decide +kernel
theorem d_Law_flip_1 : decode method_10_code 1 = .ok (.iconst 0, 1) := by decide +kernel
theorem d_Law_flip_2 : decode method_10_code 2 = .ok (.aload_n 0, 1) := by decide +kernel
theorem d_Law_flip_3 : decode method_10_code 3 = .ok (.iload_n 1, 1) := by decide +kernel
theorem d_Law_flip_4 : decode method_10_code 4 = .ok (.invokevirtual 41, 3) := by decide +kernel
theorem d_Law_flip_7 : decode method_10_code 7 = .ok (.i2l, 1) := by decide +kernel
theorem d_Law_flip_8 : decode method_10_code 8 = .ok (.lastore, 1) := by decide +kernel
theorem d_Law_flip_9 : decode method_10_code 9 = .ok (.goto 6, 3) := by decide +kernel
theorem d_Law_flip_12 : decode method_10_code 12 = .ok (.astore_n 3, 1) := by decide +kernel
theorem d_Law_flip_13 : decode method_10_code 13 = .ok (.iconst 1, 1) := by decide +kernel
theorem d_Law_flip_14 : decode method_10_code 14 = .ok (.ireturn, 1) := by decide +kernel
theorem d_Law_flip_15 : decode method_10_code 15 = .ok (.iconst 0, 1) := by decide +kernel
theorem d_Law_flip_16 : decode method_10_code 16 = .ok (.ireturn, 1) := by decide +kernel
set_option maxHeartbeats 4000000 in
set_option maxRecDepth 20000 in
theorem c_Law_flip {P : xP} {F : xF} {z : Nat} {b : Nat} {cm : cmT} {M : mcS} {sm : Nat} {a : Int32} {o : Nat} {g0 : Nat → Int64} (hM : xMC F (cm) (b) (M)) (ho : F (o) = some (.inr (2, 1, fun b9 => .long (g0 b9)))) (hCM : xCM P cm) (hSM : xSM P sm) (hZx : xZx P) (hpp0 : M.2.2.2.2.2.2.1 < 100000) (hun0 : M.2.2.2.2.2.2.2.1 < 100000) (hNx : xNx P) (hbo : o < b ∨ b + 566 ≤ o) : xMw P xy_Law_flip [(0, 9, 12, 44)] [.ref b, .int a, .ref o] F (z) 1 6 (fun r9 F9 z9 => (r9 = some (.int (nI 0)) ∧ xMC F9 (cm) (b) ((chgM M (aFl M.1 a))) ∧ F9 (o) = some (.inr (2, 1, fun b9 => .long (vp_updL g0 0 ((((aFl M.1 a).1)).toInt64) b9))) ∧ (¬ (aFl M.1 a).1 = -4) ∧ (∀ a9 : Nat, (a9 < b ∨ b + 566 ≤ a9) → a9 ≠ o → F9 a9 = F a9)) ∨ (r9 = some (.int (nI 1)) ∧ xMC F9 (cm) (b) ((chgM M (aFl M.1 a))) ∧ F9 (o) = some (.inr (2, 1, fun b9 => .long (g0 b9))) ∧ ((aFl M.1 a).1 = -4) ∧ (∀ a9 : Nat, (a9 < b ∨ b + 566 ≤ a9) → a9 ≠ o → F9 a9 = F a9))) := by
  refine xMw_i .int rfl (Nat.le_of_ble_eq_true rfl) (L0 := [some (.ref b), some (.int a), some (.ref o), none]) rfl rfl fun Θ hC hT hret => ?_
  refine x_aload_n hC d_Law_flip_0 rfl rfl ?_
  refine x_iconst hC d_Law_flip_1 (v := nI 0) (by decide) ?_
  refine x_aload_n hC d_Law_flip_2 rfl rfl ?_
  refine x_iload_n hC d_Law_flip_3 rfl rfl ?_
  obtain ⟨b00, -⟩ := id hM
  refine x_callCV hC kv_Law_41 (c_MessageCoder_flip (hM := hM) (hCM := hCM) (hSM := hSM) (hZx := hZx) (hpp0 := hpp0) (hun0 := hun0)) b00 rfl rfl (Nat.le_of_ble_eq_true rfl) rfl rfl rfl (Nat.le_of_ble_eq_true rfl) (by decide) d_Law_flip_4 (fun E9 F9 z9 hp9 => ?_) (fun r9 F9 z9 hp9 => ?_)
  · skip
    rcases hp9 with ⟨rfl, hM9, hcond, hag9⟩
    · skip
      refine xH_at hC (name := "java/lang/IndexOutOfBoundsException") [] ⟨0, 9, 12, 44⟩ [] (hT.trans rfl) (fun y hy => nomatch hy) rfl (by decide) (x_in (x_of (xtb_4 (List.mem_of_getElem? (i := 220) (by decide +kernel)))) (by decide +kernel)) (x_inN (xtb_5 (List.mem_of_getElem? (i := 12) (by decide +kernel))) (by decide +kernel)) (fun q9 => ?_)
      show xX P Θ 12 _ _ _ _ _ _
      refine x_astore_n hC d_Law_flip_12 rfl (Nat.le_of_ble_eq_true rfl) (L1 := [some (.ref b), some (.int a), some (.ref o), some (.ref q9)]) rfl ?_
      refine x_iconst hC d_Law_flip_13 (v := nI 1) (by decide) ?_
      exact hret _ _ _ _ _ _ _ d_Law_flip_14 (by decide) (by decide) rfl (Or.inr (⟨rfl, hM9, (hag9 _ hbo).trans ho, hcond, fun a9 q1 _ => hag9 a9 q1⟩))
  · skip
    obtain ⟨rfl, rfl, hM9, pn0, hag9⟩ := hp9
    have ho9 := (hag9 _ hbo).trans ho
    refine x_i2l hC d_Law_flip_7 rfl ?_
    refine x_last hC ho9 (j := 0) ⟨rfl, by decide, by decide⟩ d_Law_flip_8 (g1 := vp_updL g0 0 ((((aFl M.1 a).1)).toInt64)) rfl ?_
    refine x_goto hC d_Law_flip_9 (tgt := 15) (by decide) ?_
    refine x_iconst hC d_Law_flip_15 (v := nI 0) (by decide) ?_
    exact hret _ _ _ _ _ _ _ d_Law_flip_16 (by decide) (by decide) rfl (Or.inl ⟨rfl, xMC_fr hM9 (fun a9 q1 q2 => xup_ne (by omega)), xup_eq, pn0, fun a9 q1 q2 => (xup_ne q2).trans (hag9 a9 q1)⟩)

theorem d_Law_receive_0 : decode method_11_code 0 = .ok (.aload_n 1, 1) := by decide +kernel
theorem d_Law_receive_1 : decode method_11_code 1 = .ok (.iconst 0, 1) := by decide +kernel
theorem d_Law_receive_2 : decode method_11_code 2 = .ok (.aload_n 0, 1) := by decide +kernel
theorem d_Law_receive_3 : decode method_11_code 3 = .ok (.invokevirtual 46, 3) := by decide +kernel
theorem d_Law_receive_6 : decode method_11_code 6 = .ok (.i2l, 1) := by decide +kernel
theorem d_Law_receive_7 : decode method_11_code 7 = .ok (.lastore, 1) := by decide +kernel
theorem d_Law_receive_8 : decode method_11_code 8 = .ok (.goto 6, 3) := by decide +kernel
theorem d_Law_receive_11 : decode method_11_code 11 = .ok (.astore_n 2, 1) := by decide +kernel
theorem d_Law_receive_12 : decode method_11_code 12 = .ok (.iconst 1, 1) := by decide +kernel
theorem d_Law_receive_13 : decode method_11_code 13 = .ok (.ireturn, 1) := by decide +kernel
theorem d_Law_receive_14 : decode method_11_code 14 = .ok (.iconst 0, 1) := by decide +kernel
theorem d_Law_receive_15 : decode method_11_code 15 = .ok (.ireturn, 1) := by decide +kernel
set_option maxHeartbeats 4000000 in
set_option maxRecDepth 20000 in
theorem c_Law_receive {P : xP} {F : xF} {z : Nat} {b : Nat} {cm : cmT} {M : mcS} {sm : Nat} {o : Nat} {g0 : Nat → Int64} (hM : xMC F (cm) (b) (M)) (ho : F (o) = some (.inr (2, 1, fun b9 => .long (g0 b9)))) (hCM : xCM P cm) (hSM : xSM P sm) (hZx : xZx P) (hpp0 : M.2.2.2.2.2.2.1 < 100000) (hun0 : M.2.2.2.2.2.2.2.1 < 100000) (hNx : xNx P) (hbo : o < b ∨ b + 566 ≤ o) : xMw P xy_Law_receive [(0, 8, 11, 28)] [.ref b, .ref o] F (z) 1 6 (fun r9 F9 z9 => (r9 = some (.int (nI 0)) ∧ xMC F9 (cm) (b) ((chgM M (aRe M.1))) ∧ F9 (o) = some (.inr (2, 1, fun b9 => .long (vp_updL g0 0 ((((aRe M.1).1)).toInt64) b9))) ∧ (¬ (aRe M.1).1 = -3) ∧ (∀ a9 : Nat, (a9 < b ∨ b + 566 ≤ a9) → a9 ≠ o → F9 a9 = F a9)) ∨ (r9 = some (.int (nI 1)) ∧ xMC F9 (cm) (b) ((chgM M (aRe M.1))) ∧ F9 (o) = some (.inr (2, 1, fun b9 => .long (g0 b9))) ∧ ((aRe M.1).1 = -3) ∧ (∀ a9 : Nat, (a9 < b ∨ b + 566 ≤ a9) → a9 ≠ o → F9 a9 = F a9))) := by
  refine xMw_i .int rfl (Nat.le_of_ble_eq_true rfl) (L0 := [some (.ref b), some (.ref o), none]) rfl rfl fun Θ hC hT hret => ?_
  refine x_aload_n hC d_Law_receive_0 rfl rfl ?_
  refine x_iconst hC d_Law_receive_1 (v := nI 0) (by decide) ?_
  refine x_aload_n hC d_Law_receive_2 rfl rfl ?_
  obtain ⟨b00, -⟩ := id hM
  refine x_callCV hC kv_Law_46 (c_MessageCoder_receive (hM := hM) (hCM := hCM) (hSM := hSM) (hZx := hZx) (hpp0 := hpp0) (hun0 := hun0)) b00 rfl rfl (Nat.le_of_ble_eq_true rfl) rfl rfl rfl (Nat.le_of_ble_eq_true rfl) (by decide) d_Law_receive_3 (fun E9 F9 z9 hp9 => ?_) (fun r9 F9 z9 hp9 => ?_)
  · skip
    rcases hp9 with ⟨rfl, hM9, hcond, hag9⟩
    · skip
      refine xH_at hC (name := "java/util/NoSuchElementException") [] ⟨0, 8, 11, 28⟩ [] (hT.trans rfl) (fun y hy => nomatch hy) rfl (by decide) (x_in (x_of (xtb_4 (List.mem_of_getElem? (i := 166) (by decide +kernel)))) (by decide +kernel)) (x_inN (xtb_4 (List.mem_of_getElem? (i := 175) (by decide +kernel))) (by decide +kernel)) (fun q9 => ?_)
      show xX P Θ 11 _ _ _ _ _ _
      refine x_astore_n hC d_Law_receive_11 rfl (Nat.le_of_ble_eq_true rfl) (L1 := [some (.ref b), some (.ref o), some (.ref q9)]) rfl ?_
      refine x_iconst hC d_Law_receive_12 (v := nI 1) (by decide) ?_
      exact hret _ _ _ _ _ _ _ d_Law_receive_13 (by decide) (by decide) rfl (Or.inr (⟨rfl, hM9, (hag9 _ hbo).trans ho, hcond, fun a9 q1 _ => hag9 a9 q1⟩))
  · skip
    obtain ⟨rfl, rfl, hM9, pn0, hag9⟩ := hp9
    have ho9 := (hag9 _ hbo).trans ho
    refine x_i2l hC d_Law_receive_6 rfl ?_
    refine x_last hC ho9 (j := 0) ⟨rfl, by decide, by decide⟩ d_Law_receive_7 (g1 := vp_updL g0 0 ((((aRe M.1).1)).toInt64)) rfl ?_
    refine x_goto hC d_Law_receive_8 (tgt := 14) (by decide) ?_
    refine x_iconst hC d_Law_receive_14 (v := nI 0) (by decide) ?_
    exact hret _ _ _ _ _ _ _ d_Law_receive_15 (by decide) (by decide) rfl (Or.inl ⟨rfl, xMC_fr hM9 (fun a9 q1 q2 => xup_ne (by omega)), xup_eq, pn0, fun a9 q1 q2 => (xup_ne q2).trans (hag9 a9 q1)⟩)

theorem d_Law_weightOf_0 : decode method_12_code 0 = .ok (.aload_n 2, 1) := by decide +kernel
theorem d_Law_weightOf_1 : decode method_12_code 1 = .ok (.iconst 0, 1) := by decide +kernel
theorem d_Law_weightOf_2 : decode method_12_code 2 = .ok (.aload_n 0, 1) := by decide +kernel
theorem d_Law_weightOf_3 : decode method_12_code 3 = .ok (.iload_n 1, 1) := by decide +kernel
theorem d_Law_weightOf_4 : decode method_12_code 4 = .ok (.invokevirtual 49, 3) := by decide +kernel
theorem d_Law_weightOf_7 : decode method_12_code 7 = .ok (.i2l, 1) := by decide +kernel
theorem d_Law_weightOf_8 : decode method_12_code 8 = .ok (.lastore, 1) := by decide +kernel
theorem d_Law_weightOf_9 : decode method_12_code 9 = .ok (.goto 6, 3) := by decide +kernel
theorem d_Law_weightOf_12 : decode method_12_code 12 = .ok (.astore_n 3, 1) := by decide +kernel
theorem d_Law_weightOf_13 : decode method_12_code 13 = .ok (.iconst 1, 1) := by decide +kernel
theorem d_Law_weightOf_14 : decode method_12_code 14 = .ok (.ireturn, 1) := by decide +kernel
theorem d_Law_weightOf_15 : decode method_12_code 15 = .ok (.iconst 0, 1) := by decide +kernel
theorem d_Law_weightOf_16 : decode method_12_code 16 = .ok (.ireturn, 1) := by decide +kernel
set_option maxHeartbeats 4000000 in
set_option maxRecDepth 20000 in
theorem c_Law_weightOf {P : xP} {F : xF} {z : Nat} {b : Nat} {cm : cmT} {M : mcS} {c : Nat} {o : Nat} {g0 : Nat → Int64} (hM : xMC F (cm) (b) (M)) (ho : F (o) = some (.inr (2, 1, fun b9 => .long (g0 b9)))) (hZx : xZx P) (hcb : c < 65536) (hNx : xNx P) (hbo : o < b ∨ b + 566 ≤ o) : xMw P xy_Law_weightOf [(0, 9, 12, 13)] [.ref b, .int (nI (c)), .ref o] F (z) 1 6 (fun r9 F9 z9 => (r9 = some (.int (nI 0)) ∧ xMC F9 (cm) (b) (M) ∧ F9 (o) = some (.inr (2, 1, fun b9 => .long (vp_updL g0 0 (((nI (M.1.1 (c - 97)))).toInt64) b9))) ∧ (97 ≤ c ∧ c < 105) ∧ (∀ a9 : Nat, (a9 < b ∨ b + 566 ≤ a9) → a9 ≠ o → F9 a9 = F a9)) ∨ (r9 = some (.int (nI 1)) ∧ xMC F9 (cm) (b) (M) ∧ F9 (o) = some (.inr (2, 1, fun b9 => .long (g0 b9))) ∧ (¬ (97 ≤ c ∧ c < 105)) ∧ (∀ a9 : Nat, (a9 < b ∨ b + 566 ≤ a9) → a9 ≠ o → F9 a9 = F a9))) := by
  refine xMw_i .int rfl (Nat.le_of_ble_eq_true rfl) (L0 := [some (.ref b), some (.int (nI (c))), some (.ref o), none]) rfl rfl fun Θ hC hT hret => ?_
  refine x_aload_n hC d_Law_weightOf_0 rfl rfl ?_
  refine x_iconst hC d_Law_weightOf_1 (v := nI 0) (by decide) ?_
  refine x_aload_n hC d_Law_weightOf_2 rfl rfl ?_
  refine x_iload_n hC d_Law_weightOf_3 rfl rfl ?_
  obtain ⟨b00, -⟩ := id hM
  refine x_callCV hC kv_Law_49 (c_MessageCoder_weightOf (hM := hM) (hZx := hZx) (hcb := hcb)) b00 rfl rfl (Nat.le_of_ble_eq_true rfl) rfl rfl rfl (Nat.le_of_ble_eq_true rfl) (by decide) d_Law_weightOf_4 (fun E9 F9 z9 hp9 => ?_) (fun r9 F9 z9 hp9 => ?_)
  · skip
    rcases hp9 with ⟨rfl, rfl, hcond⟩
    · skip
      refine xH_at hC (name := "java/lang/IllegalArgumentException") [] ⟨0, 9, 12, 13⟩ [] (hT.trans rfl) (fun y hy => nomatch hy) rfl (by decide) (x_in (x_of (xtb_4 (List.mem_of_getElem? (i := 47) (by decide +kernel)))) (by decide +kernel)) (x_inN (xtb_4 (List.mem_of_getElem? (i := 56) (by decide +kernel))) (by decide +kernel)) (fun q9 => ?_)
      show xX P Θ 12 _ _ _ _ _ _
      refine x_astore_n hC d_Law_weightOf_12 rfl (Nat.le_of_ble_eq_true rfl) (L1 := [some (.ref b), some (.int (nI (c))), some (.ref o), some (.ref q9)]) rfl ?_
      refine x_iconst hC d_Law_weightOf_13 (v := nI 1) (by decide) ?_
      exact hret _ _ _ _ _ _ _ d_Law_weightOf_14 (by decide) (by decide) rfl (Or.inr (⟨rfl, hM, ho, hcond, fun a9 _ _ => rfl⟩))
  · skip
    obtain ⟨rfl, rfl, rfl, pn0⟩ := hp9
    refine x_i2l hC d_Law_weightOf_7 rfl ?_
    refine x_last hC ho (j := 0) ⟨rfl, by decide, by decide⟩ d_Law_weightOf_8 (g1 := vp_updL g0 0 (((nI (M.1.1 (c - 97)))).toInt64)) rfl ?_
    refine x_goto hC d_Law_weightOf_9 (tgt := 15) (by decide) ?_
    refine x_iconst hC d_Law_weightOf_15 (v := nI 0) (by decide) ?_
    exact hret _ _ _ _ _ _ _ d_Law_weightOf_16 (by decide) (by decide) rfl (Or.inl ⟨rfl, xMC_fr hM (fun a9 q1 q2 => xup_ne (by omega)), xup_eq, pn0, fun a9 q1 q2 => xup_ne q2⟩)

theorem d_Law_codeLength_0 : decode method_13_code 0 = .ok (.aload_n 2, 1) := by decide +kernel
theorem d_Law_codeLength_1 : decode method_13_code 1 = .ok (.iconst 0, 1) := by decide +kernel
theorem d_Law_codeLength_2 : decode method_13_code 2 = .ok (.aload_n 0, 1) := by decide +kernel
theorem d_Law_codeLength_3 : decode method_13_code 3 = .ok (.iload_n 1, 1) := by decide +kernel
theorem d_Law_codeLength_4 : decode method_13_code 4 = .ok (.invokevirtual 52, 3) := by decide +kernel
theorem d_Law_codeLength_7 : decode method_13_code 7 = .ok (.i2l, 1) := by decide +kernel
theorem d_Law_codeLength_8 : decode method_13_code 8 = .ok (.lastore, 1) := by decide +kernel
theorem d_Law_codeLength_9 : decode method_13_code 9 = .ok (.goto 6, 3) := by decide +kernel
theorem d_Law_codeLength_12 : decode method_13_code 12 = .ok (.astore_n 3, 1) := by decide +kernel
theorem d_Law_codeLength_13 : decode method_13_code 13 = .ok (.iconst 1, 1) := by decide +kernel
theorem d_Law_codeLength_14 : decode method_13_code 14 = .ok (.ireturn, 1) := by decide +kernel
theorem d_Law_codeLength_15 : decode method_13_code 15 = .ok (.iconst 0, 1) := by decide +kernel
theorem d_Law_codeLength_16 : decode method_13_code 16 = .ok (.ireturn, 1) := by decide +kernel
set_option maxHeartbeats 4000000 in
set_option maxRecDepth 20000 in
theorem c_Law_codeLength {P : xP} {F : xF} {z : Nat} {b : Nat} {cm : cmT} {M : mcS} {c : Nat} {o : Nat} {g0 : Nat → Int64} (hM : xMC F (cm) (b) (M)) (ho : F (o) = some (.inr (2, 1, fun b9 => .long (g0 b9)))) (hZx : xZx P) (hcb : c < 65536) (hNx : xNx P) (hbo : o < b ∨ b + 566 ≤ o) : xMw P xy_Law_codeLength [(0, 9, 12, 13)] [.ref b, .int (nI (c)), .ref o] F (z) 1 6 (fun r9 F9 z9 => (r9 = some (.int (nI 0)) ∧ xMC F9 (cm) (b) (M) ∧ F9 (o) = some (.inr (2, 1, fun b9 => .long (vp_updL g0 0 (((nI (hLen M.1.1 (c - 97)))).toInt64) b9))) ∧ (97 ≤ c ∧ c < 105) ∧ (∀ a9 : Nat, (a9 < b ∨ b + 566 ≤ a9) → a9 ≠ o → F9 a9 = F a9)) ∨ (r9 = some (.int (nI 1)) ∧ xMC F9 (cm) (b) (M) ∧ F9 (o) = some (.inr (2, 1, fun b9 => .long (g0 b9))) ∧ (¬ (97 ≤ c ∧ c < 105)) ∧ (∀ a9 : Nat, (a9 < b ∨ b + 566 ≤ a9) → a9 ≠ o → F9 a9 = F a9))) := by
  refine xMw_i .int rfl (Nat.le_of_ble_eq_true rfl) (L0 := [some (.ref b), some (.int (nI (c))), some (.ref o), none]) rfl rfl fun Θ hC hT hret => ?_
  refine x_aload_n hC d_Law_codeLength_0 rfl rfl ?_
  refine x_iconst hC d_Law_codeLength_1 (v := nI 0) (by decide) ?_
  refine x_aload_n hC d_Law_codeLength_2 rfl rfl ?_
  refine x_iload_n hC d_Law_codeLength_3 rfl rfl ?_
  obtain ⟨b00, -⟩ := id hM
  refine x_callCV hC kv_Law_52 (c_MessageCoder_codeLength (hM := hM) (hZx := hZx) (hcb := hcb)) b00 rfl rfl (Nat.le_of_ble_eq_true rfl) rfl rfl rfl (Nat.le_of_ble_eq_true rfl) (by decide) d_Law_codeLength_4 (fun E9 F9 z9 hp9 => ?_) (fun r9 F9 z9 hp9 => ?_)
  · skip
    rcases hp9 with ⟨rfl, rfl, hcond⟩
    · skip
      refine xH_at hC (name := "java/lang/IllegalArgumentException") [] ⟨0, 9, 12, 13⟩ [] (hT.trans rfl) (fun y hy => nomatch hy) rfl (by decide) (x_in (x_of (xtb_4 (List.mem_of_getElem? (i := 47) (by decide +kernel)))) (by decide +kernel)) (x_inN (xtb_4 (List.mem_of_getElem? (i := 56) (by decide +kernel))) (by decide +kernel)) (fun q9 => ?_)
      show xX P Θ 12 _ _ _ _ _ _
      refine x_astore_n hC d_Law_codeLength_12 rfl (Nat.le_of_ble_eq_true rfl) (L1 := [some (.ref b), some (.int (nI (c))), some (.ref o), some (.ref q9)]) rfl ?_
      refine x_iconst hC d_Law_codeLength_13 (v := nI 1) (by decide) ?_
      exact hret _ _ _ _ _ _ _ d_Law_codeLength_14 (by decide) (by decide) rfl (Or.inr (⟨rfl, hM, ho, hcond, fun a9 _ _ => rfl⟩))
  · skip
    obtain ⟨rfl, rfl, rfl, pn0⟩ := hp9
    refine x_i2l hC d_Law_codeLength_7 rfl ?_
    refine x_last hC ho (j := 0) ⟨rfl, by decide, by decide⟩ d_Law_codeLength_8 (g1 := vp_updL g0 0 (((nI (hLen M.1.1 (c - 97)))).toInt64)) rfl ?_
    refine x_goto hC d_Law_codeLength_9 (tgt := 15) (by decide) ?_
    refine x_iconst hC d_Law_codeLength_15 (v := nI 0) (by decide) ?_
    exact hret _ _ _ _ _ _ _ d_Law_codeLength_16 (by decide) (by decide) rfl (Or.inl ⟨rfl, xMC_fr hM (fun a9 q1 q2 => xup_ne (by omega)), xup_eq, pn0, fun a9 q1 q2 => xup_ne q2⟩)

theorem d_Law_codeValue_0 : decode method_14_code 0 = .ok (.aload_n 2, 1) := by decide +kernel
theorem d_Law_codeValue_1 : decode method_14_code 1 = .ok (.iconst 0, 1) := by decide +kernel
theorem d_Law_codeValue_2 : decode method_14_code 2 = .ok (.aload_n 0, 1) := by decide +kernel
theorem d_Law_codeValue_3 : decode method_14_code 3 = .ok (.iload_n 1, 1) := by decide +kernel
theorem d_Law_codeValue_4 : decode method_14_code 4 = .ok (.invokevirtual 55, 3) := by decide +kernel
theorem d_Law_codeValue_7 : decode method_14_code 7 = .ok (.i2l, 1) := by decide +kernel
theorem d_Law_codeValue_8 : decode method_14_code 8 = .ok (.lastore, 1) := by decide +kernel
theorem d_Law_codeValue_9 : decode method_14_code 9 = .ok (.goto 6, 3) := by decide +kernel
theorem d_Law_codeValue_12 : decode method_14_code 12 = .ok (.astore_n 3, 1) := by decide +kernel
theorem d_Law_codeValue_13 : decode method_14_code 13 = .ok (.iconst 1, 1) := by decide +kernel
theorem d_Law_codeValue_14 : decode method_14_code 14 = .ok (.ireturn, 1) := by decide +kernel
theorem d_Law_codeValue_15 : decode method_14_code 15 = .ok (.iconst 0, 1) := by decide +kernel
theorem d_Law_codeValue_16 : decode method_14_code 16 = .ok (.ireturn, 1) := by decide +kernel
set_option maxHeartbeats 4000000 in
set_option maxRecDepth 20000 in
theorem c_Law_codeValue {P : xP} {F : xF} {z : Nat} {b : Nat} {cm : cmT} {M : mcS} {c : Nat} {o : Nat} {g0 : Nat → Int64} (hM : xMC F (cm) (b) (M)) (ho : F (o) = some (.inr (2, 1, fun b9 => .long (g0 b9)))) (hZx : xZx P) (hcb : c < 65536) (hNx : xNx P) (hbo : o < b ∨ b + 566 ≤ o) : xMw P xy_Law_codeValue [(0, 9, 12, 13)] [.ref b, .int (nI (c)), .ref o] F (z) 1 6 (fun r9 F9 z9 => (r9 = some (.int (nI 0)) ∧ xMC F9 (cm) (b) (M) ∧ F9 (o) = some (.inr (2, 1, fun b9 => .long (vp_updL g0 0 (((nI (hVal (hLen M.1.1) (c - 97)))).toInt64) b9))) ∧ (97 ≤ c ∧ c < 105) ∧ (∀ a9 : Nat, (a9 < b ∨ b + 566 ≤ a9) → a9 ≠ o → F9 a9 = F a9)) ∨ (r9 = some (.int (nI 1)) ∧ xMC F9 (cm) (b) (M) ∧ F9 (o) = some (.inr (2, 1, fun b9 => .long (g0 b9))) ∧ (¬ (97 ≤ c ∧ c < 105)) ∧ (∀ a9 : Nat, (a9 < b ∨ b + 566 ≤ a9) → a9 ≠ o → F9 a9 = F a9))) := by
  refine xMw_i .int rfl (Nat.le_of_ble_eq_true rfl) (L0 := [some (.ref b), some (.int (nI (c))), some (.ref o), none]) rfl rfl fun Θ hC hT hret => ?_
  refine x_aload_n hC d_Law_codeValue_0 rfl rfl ?_
  refine x_iconst hC d_Law_codeValue_1 (v := nI 0) (by decide) ?_
  refine x_aload_n hC d_Law_codeValue_2 rfl rfl ?_
  refine x_iload_n hC d_Law_codeValue_3 rfl rfl ?_
  obtain ⟨b00, -⟩ := id hM
  refine x_callCV hC kv_Law_55 (c_MessageCoder_codeValue (hM := hM) (hZx := hZx) (hcb := hcb)) b00 rfl rfl (Nat.le_of_ble_eq_true rfl) rfl rfl rfl (Nat.le_of_ble_eq_true rfl) (by decide) d_Law_codeValue_4 (fun E9 F9 z9 hp9 => ?_) (fun r9 F9 z9 hp9 => ?_)
  · skip
    rcases hp9 with ⟨rfl, rfl, hcond⟩
    · skip
      refine xH_at hC (name := "java/lang/IllegalArgumentException") [] ⟨0, 9, 12, 13⟩ [] (hT.trans rfl) (fun y hy => nomatch hy) rfl (by decide) (x_in (x_of (xtb_4 (List.mem_of_getElem? (i := 47) (by decide +kernel)))) (by decide +kernel)) (x_inN (xtb_4 (List.mem_of_getElem? (i := 56) (by decide +kernel))) (by decide +kernel)) (fun q9 => ?_)
      show xX P Θ 12 _ _ _ _ _ _
      refine x_astore_n hC d_Law_codeValue_12 rfl (Nat.le_of_ble_eq_true rfl) (L1 := [some (.ref b), some (.int (nI (c))), some (.ref o), some (.ref q9)]) rfl ?_
      refine x_iconst hC d_Law_codeValue_13 (v := nI 1) (by decide) ?_
      exact hret _ _ _ _ _ _ _ d_Law_codeValue_14 (by decide) (by decide) rfl (Or.inr (⟨rfl, hM, ho, hcond, fun a9 _ _ => rfl⟩))
  · skip
    obtain ⟨rfl, rfl, rfl, pn0⟩ := hp9
    refine x_i2l hC d_Law_codeValue_7 rfl ?_
    refine x_last hC ho (j := 0) ⟨rfl, by decide, by decide⟩ d_Law_codeValue_8 (g1 := vp_updL g0 0 (((nI (hVal (hLen M.1.1) (c - 97)))).toInt64)) rfl ?_
    refine x_goto hC d_Law_codeValue_9 (tgt := 15) (by decide) ?_
    refine x_iconst hC d_Law_codeValue_15 (v := nI 0) (by decide) ?_
    exact hret _ _ _ _ _ _ _ d_Law_codeValue_16 (by decide) (by decide) rfl (Or.inl ⟨rfl, xMC_fr hM (fun a9 q1 q2 => xup_ne (by omega)), xup_eq, pn0, fun a9 q1 q2 => xup_ne q2⟩)

theorem d_Law_symbolByCode_0 : decode method_15_code 0 = .ok (.aload_n 2, 1) := by decide +kernel
theorem d_Law_symbolByCode_1 : decode method_15_code 1 = .ok (.iconst 0, 1) := by decide +kernel
theorem d_Law_symbolByCode_2 : decode method_15_code 2 = .ok (.aload_n 0, 1) := by decide +kernel
theorem d_Law_symbolByCode_3 : decode method_15_code 3 = .ok (.iload_n 1, 1) := by decide +kernel
theorem d_Law_symbolByCode_4 : decode method_15_code 4 = .ok (.invokevirtual 58, 3) := by decide +kernel
theorem d_Law_symbolByCode_7 : decode method_15_code 7 = .ok (.i2l, 1) := by decide +kernel
theorem d_Law_symbolByCode_8 : decode method_15_code 8 = .ok (.lastore, 1) := by decide +kernel
theorem d_Law_symbolByCode_9 : decode method_15_code 9 = .ok (.goto 6, 3) := by decide +kernel
theorem d_Law_symbolByCode_12 : decode method_15_code 12 = .ok (.astore_n 3, 1) := by decide +kernel
theorem d_Law_symbolByCode_13 : decode method_15_code 13 = .ok (.iconst 1, 1) := by decide +kernel
theorem d_Law_symbolByCode_14 : decode method_15_code 14 = .ok (.ireturn, 1) := by decide +kernel
theorem d_Law_symbolByCode_15 : decode method_15_code 15 = .ok (.iconst 0, 1) := by decide +kernel
theorem d_Law_symbolByCode_16 : decode method_15_code 16 = .ok (.ireturn, 1) := by decide +kernel
set_option maxHeartbeats 4000000 in
set_option maxRecDepth 20000 in
theorem c_Law_symbolByCode {P : xP} {F : xF} {z : Nat} {b : Nat} {cm : cmT} {M : mcS} {r : Int32} {o : Nat} {g0 : Nat → Int64} (hM : xMC F (cm) (b) (M)) (ho : F (o) = some (.inr (2, 1, fun b9 => .long (g0 b9)))) (hZx : xZx P) (hNx : xNx P) (hbo : o < b ∨ b + 566 ≤ o) : xMw P xy_Law_symbolByCode [(0, 9, 12, 28)] [.ref b, .int r, .ref o] F (z) 1 6 (fun r9 F9 z9 => (r9 = some (.int (nI 0)) ∧ xMC F9 (cm) (b) (M) ∧ F9 (o) = some (.inr (2, 1, fun b9 => .long (vp_updL g0 0 (((nI (97 + hOrd (hLen M.1.1) r.toNatClampNeg))).toInt64) b9))) ∧ (0 ≤ r ∧ r < nI 8) ∧ (∀ a9 : Nat, (a9 < b ∨ b + 566 ≤ a9) → a9 ≠ o → F9 a9 = F a9)) ∨ (r9 = some (.int (nI 1)) ∧ xMC F9 (cm) (b) (M) ∧ F9 (o) = some (.inr (2, 1, fun b9 => .long (g0 b9))) ∧ (¬ (0 ≤ r ∧ r < nI 8)) ∧ (∀ a9 : Nat, (a9 < b ∨ b + 566 ≤ a9) → a9 ≠ o → F9 a9 = F a9))) := by
  refine xMw_i .int rfl (Nat.le_of_ble_eq_true rfl) (L0 := [some (.ref b), some (.int r), some (.ref o), none]) rfl rfl fun Θ hC hT hret => ?_
  refine x_aload_n hC d_Law_symbolByCode_0 rfl rfl ?_
  refine x_iconst hC d_Law_symbolByCode_1 (v := nI 0) (by decide) ?_
  refine x_aload_n hC d_Law_symbolByCode_2 rfl rfl ?_
  refine x_iload_n hC d_Law_symbolByCode_3 rfl rfl ?_
  obtain ⟨b00, -⟩ := id hM
  refine x_callCV hC kv_Law_58 (c_MessageCoder_symbolByCode (hM := hM) (hZx := hZx)) b00 rfl rfl (Nat.le_of_ble_eq_true rfl) rfl rfl rfl (Nat.le_of_ble_eq_true rfl) (by decide) d_Law_symbolByCode_4 (fun E9 F9 z9 hp9 => ?_) (fun r9 F9 z9 hp9 => ?_)
  · skip
    rcases hp9 with ⟨rfl, rfl, hcond⟩
    · skip
      refine xH_at hC (name := "java/util/NoSuchElementException") [] ⟨0, 9, 12, 28⟩ [] (hT.trans rfl) (fun y hy => nomatch hy) rfl (by decide) (x_in (x_of (xtb_4 (List.mem_of_getElem? (i := 166) (by decide +kernel)))) (by decide +kernel)) (x_inN (xtb_4 (List.mem_of_getElem? (i := 175) (by decide +kernel))) (by decide +kernel)) (fun q9 => ?_)
      show xX P Θ 12 _ _ _ _ _ _
      refine x_astore_n hC d_Law_symbolByCode_12 rfl (Nat.le_of_ble_eq_true rfl) (L1 := [some (.ref b), some (.int r), some (.ref o), some (.ref q9)]) rfl ?_
      refine x_iconst hC d_Law_symbolByCode_13 (v := nI 1) (by decide) ?_
      exact hret _ _ _ _ _ _ _ d_Law_symbolByCode_14 (by decide) (by decide) rfl (Or.inr (⟨rfl, hM, ho, hcond, fun a9 _ _ => rfl⟩))
  · skip
    obtain ⟨rfl, rfl, rfl, pn0⟩ := hp9
    refine x_i2l hC d_Law_symbolByCode_7 rfl ?_
    refine x_last hC ho (j := 0) ⟨rfl, by decide, by decide⟩ d_Law_symbolByCode_8 (g1 := vp_updL g0 0 (((nI (97 + hOrd (hLen M.1.1) r.toNatClampNeg))).toInt64)) rfl ?_
    refine x_goto hC d_Law_symbolByCode_9 (tgt := 15) (by decide) ?_
    refine x_iconst hC d_Law_symbolByCode_15 (v := nI 0) (by decide) ?_
    exact hret _ _ _ _ _ _ _ d_Law_symbolByCode_16 (by decide) (by decide) rfl (Or.inl ⟨rfl, xMC_fr hM (fun a9 q1 q2 => xup_ne (by omega)), xup_eq, pn0, fun a9 q1 q2 => xup_ne q2⟩)

theorem d_Law_draftAt_0 : decode method_16_code 0 = .ok (.aload_n 2, 1) := by decide +kernel
theorem d_Law_draftAt_1 : decode method_16_code 1 = .ok (.iconst 0, 1) := by decide +kernel
theorem d_Law_draftAt_2 : decode method_16_code 2 = .ok (.aload_n 0, 1) := by decide +kernel
theorem d_Law_draftAt_3 : decode method_16_code 3 = .ok (.iload_n 1, 1) := by decide +kernel
theorem d_Law_draftAt_4 : decode method_16_code 4 = .ok (.invokevirtual 62, 3) := by decide +kernel
theorem d_Law_draftAt_7 : decode method_16_code 7 = .ok (.i2l, 1) := by decide +kernel
theorem d_Law_draftAt_8 : decode method_16_code 8 = .ok (.lastore, 1) := by decide +kernel
theorem d_Law_draftAt_9 : decode method_16_code 9 = .ok (.goto 6, 3) := by decide +kernel
theorem d_Law_draftAt_12 : decode method_16_code 12 = .ok (.astore_n 3, 1) := by decide +kernel
theorem d_Law_draftAt_13 : decode method_16_code 13 = .ok (.iconst 1, 1) := by decide +kernel
theorem d_Law_draftAt_14 : decode method_16_code 14 = .ok (.ireturn, 1) := by decide +kernel
theorem d_Law_draftAt_15 : decode method_16_code 15 = .ok (.iconst 0, 1) := by decide +kernel
theorem d_Law_draftAt_16 : decode method_16_code 16 = .ok (.ireturn, 1) := by decide +kernel
set_option maxHeartbeats 4000000 in
set_option maxRecDepth 20000 in
theorem c_Law_draftAt {P : xP} {F : xF} {z : Nat} {b : Nat} {cm : cmT} {M : mcS} {i : Int32} {o : Nat} {g0 : Nat → Int64} (hM : xMC F (cm) (b) (M)) (ho : F (o) = some (.inr (2, 1, fun b9 => .long (g0 b9)))) (hZx : xZx P) (hNx : xNx P) (hbo : o < b ∨ b + 566 ≤ o) : xMw P xy_Law_draftAt [(0, 9, 12, 44)] [.ref b, .int i, .ref o] F (z) 1 6 (fun r9 F9 z9 => (r9 = some (.int (nI 0)) ∧ xMC F9 (cm) (b) (M) ∧ F9 (o) = some (.inr (2, 1, fun b9 => .long (vp_updL g0 0 (((nI (M.1.2.1.2 i.toNatClampNeg))).toInt64) b9))) ∧ (0 ≤ i ∧ i < nI M.1.2.1.1) ∧ (∀ a9 : Nat, (a9 < b ∨ b + 566 ≤ a9) → a9 ≠ o → F9 a9 = F a9)) ∨ (r9 = some (.int (nI 1)) ∧ xMC F9 (cm) (b) (M) ∧ F9 (o) = some (.inr (2, 1, fun b9 => .long (g0 b9))) ∧ (¬ (0 ≤ i ∧ i < nI M.1.2.1.1)) ∧ (∀ a9 : Nat, (a9 < b ∨ b + 566 ≤ a9) → a9 ≠ o → F9 a9 = F a9))) := by
  refine xMw_i .int rfl (Nat.le_of_ble_eq_true rfl) (L0 := [some (.ref b), some (.int i), some (.ref o), none]) rfl rfl fun Θ hC hT hret => ?_
  refine x_aload_n hC d_Law_draftAt_0 rfl rfl ?_
  refine x_iconst hC d_Law_draftAt_1 (v := nI 0) (by decide) ?_
  refine x_aload_n hC d_Law_draftAt_2 rfl rfl ?_
  refine x_iload_n hC d_Law_draftAt_3 rfl rfl ?_
  obtain ⟨b00, -⟩ := id hM
  refine x_callCV hC kv_Law_62 (c_MessageCoder_draftAt (hM := hM) (hZx := hZx)) b00 rfl rfl (Nat.le_of_ble_eq_true rfl) rfl rfl rfl (Nat.le_of_ble_eq_true rfl) (by decide) d_Law_draftAt_4 (fun E9 F9 z9 hp9 => ?_) (fun r9 F9 z9 hp9 => ?_)
  · skip
    rcases hp9 with ⟨rfl, rfl, hcond⟩
    · skip
      refine xH_at hC (name := "java/lang/IndexOutOfBoundsException") [] ⟨0, 9, 12, 44⟩ [] (hT.trans rfl) (fun y hy => nomatch hy) rfl (by decide) (x_in (x_of (xtb_4 (List.mem_of_getElem? (i := 220) (by decide +kernel)))) (by decide +kernel)) (x_inN (xtb_5 (List.mem_of_getElem? (i := 12) (by decide +kernel))) (by decide +kernel)) (fun q9 => ?_)
      show xX P Θ 12 _ _ _ _ _ _
      refine x_astore_n hC d_Law_draftAt_12 rfl (Nat.le_of_ble_eq_true rfl) (L1 := [some (.ref b), some (.int i), some (.ref o), some (.ref q9)]) rfl ?_
      refine x_iconst hC d_Law_draftAt_13 (v := nI 1) (by decide) ?_
      exact hret _ _ _ _ _ _ _ d_Law_draftAt_14 (by decide) (by decide) rfl (Or.inr (⟨rfl, hM, ho, hcond, fun a9 _ _ => rfl⟩))
  · skip
    obtain ⟨rfl, rfl, rfl, pn0⟩ := hp9
    refine x_i2l hC d_Law_draftAt_7 rfl ?_
    refine x_last hC ho (j := 0) ⟨rfl, by decide, by decide⟩ d_Law_draftAt_8 (g1 := vp_updL g0 0 (((nI (M.1.2.1.2 i.toNatClampNeg))).toInt64)) rfl ?_
    refine x_goto hC d_Law_draftAt_9 (tgt := 15) (by decide) ?_
    refine x_iconst hC d_Law_draftAt_15 (v := nI 0) (by decide) ?_
    exact hret _ _ _ _ _ _ _ d_Law_draftAt_16 (by decide) (by decide) rfl (Or.inl ⟨rfl, xMC_fr hM (fun a9 q1 q2 => xup_ne (by omega)), xup_eq, pn0, fun a9 q1 q2 => xup_ne q2⟩)

theorem d_Law_messageAt_0 : decode method_17_code 0 = .ok (.aload_n 2, 1) := by decide +kernel
theorem d_Law_messageAt_1 : decode method_17_code 1 = .ok (.iconst 0, 1) := by decide +kernel
theorem d_Law_messageAt_2 : decode method_17_code 2 = .ok (.aload_n 0, 1) := by decide +kernel
theorem d_Law_messageAt_3 : decode method_17_code 3 = .ok (.iload_n 1, 1) := by decide +kernel
theorem d_Law_messageAt_4 : decode method_17_code 4 = .ok (.invokevirtual 65, 3) := by decide +kernel
theorem d_Law_messageAt_7 : decode method_17_code 7 = .ok (.i2l, 1) := by decide +kernel
theorem d_Law_messageAt_8 : decode method_17_code 8 = .ok (.lastore, 1) := by decide +kernel
theorem d_Law_messageAt_9 : decode method_17_code 9 = .ok (.goto 6, 3) := by decide +kernel
theorem d_Law_messageAt_12 : decode method_17_code 12 = .ok (.astore_n 3, 1) := by decide +kernel
theorem d_Law_messageAt_13 : decode method_17_code 13 = .ok (.iconst 1, 1) := by decide +kernel
theorem d_Law_messageAt_14 : decode method_17_code 14 = .ok (.ireturn, 1) := by decide +kernel
theorem d_Law_messageAt_15 : decode method_17_code 15 = .ok (.iconst 0, 1) := by decide +kernel
theorem d_Law_messageAt_16 : decode method_17_code 16 = .ok (.ireturn, 1) := by decide +kernel
set_option maxHeartbeats 4000000 in
set_option maxRecDepth 20000 in
theorem c_Law_messageAt {P : xP} {F : xF} {z : Nat} {b : Nat} {cm : cmT} {M : mcS} {a : Int32} {o : Nat} {g0 : Nat → Int64} (hM : xMC F (cm) (b) (M)) (ho : F (o) = some (.inr (2, 1, fun b9 => .long (g0 b9)))) (hZx : xZx P) (hNx : xNx P) (hbo : o < b ∨ b + 566 ≤ o) : xMw P xy_Law_messageAt [(0, 9, 12, 28)] [.ref b, .int a, .ref o] F (z) 1 6 (fun r9 F9 z9 => (r9 = some (.int (nI 0)) ∧ xMC F9 (cm) (b) (M) ∧ F9 (o) = some (.inr (2, 1, fun b9 => .long (vp_updL g0 0 (((nI ((M.1.2.2.1.2.2 (mRk M.1 a)).1))).toInt64) b9))) ∧ (mRk M.1 a < M.1.2.2.1.1) ∧ (∀ a9 : Nat, (a9 < b ∨ b + 566 ≤ a9) → a9 ≠ o → F9 a9 = F a9)) ∨ (r9 = some (.int (nI 1)) ∧ xMC F9 (cm) (b) (M) ∧ F9 (o) = some (.inr (2, 1, fun b9 => .long (g0 b9))) ∧ (¬ mRk M.1 a < M.1.2.2.1.1) ∧ (∀ a9 : Nat, (a9 < b ∨ b + 566 ≤ a9) → a9 ≠ o → F9 a9 = F a9))) := by
  refine xMw_i .int rfl (Nat.le_of_ble_eq_true rfl) (L0 := [some (.ref b), some (.int a), some (.ref o), none]) rfl rfl fun Θ hC hT hret => ?_
  refine x_aload_n hC d_Law_messageAt_0 rfl rfl ?_
  refine x_iconst hC d_Law_messageAt_1 (v := nI 0) (by decide) ?_
  refine x_aload_n hC d_Law_messageAt_2 rfl rfl ?_
  refine x_iload_n hC d_Law_messageAt_3 rfl rfl ?_
  obtain ⟨b00, -⟩ := id hM
  refine x_callCV hC kv_Law_65 (c_MessageCoder_messageAt (hM := hM) (hZx := hZx)) b00 rfl rfl (Nat.le_of_ble_eq_true rfl) rfl rfl rfl (Nat.le_of_ble_eq_true rfl) (by decide) d_Law_messageAt_4 (fun E9 F9 z9 hp9 => ?_) (fun r9 F9 z9 hp9 => ?_)
  · skip
    rcases hp9 with ⟨rfl, rfl, hcond⟩
    · skip
      refine xH_at hC (name := "java/util/NoSuchElementException") [] ⟨0, 9, 12, 28⟩ [] (hT.trans rfl) (fun y hy => nomatch hy) rfl (by decide) (x_in (x_of (xtb_4 (List.mem_of_getElem? (i := 166) (by decide +kernel)))) (by decide +kernel)) (x_inN (xtb_4 (List.mem_of_getElem? (i := 175) (by decide +kernel))) (by decide +kernel)) (fun q9 => ?_)
      show xX P Θ 12 _ _ _ _ _ _
      refine x_astore_n hC d_Law_messageAt_12 rfl (Nat.le_of_ble_eq_true rfl) (L1 := [some (.ref b), some (.int a), some (.ref o), some (.ref q9)]) rfl ?_
      refine x_iconst hC d_Law_messageAt_13 (v := nI 1) (by decide) ?_
      exact hret _ _ _ _ _ _ _ d_Law_messageAt_14 (by decide) (by decide) rfl (Or.inr (⟨rfl, hM, ho, hcond, fun a9 _ _ => rfl⟩))
  · skip
    obtain ⟨rfl, rfl, rfl, pn0⟩ := hp9
    refine x_i2l hC d_Law_messageAt_7 rfl ?_
    refine x_last hC ho (j := 0) ⟨rfl, by decide, by decide⟩ d_Law_messageAt_8 (g1 := vp_updL g0 0 (((nI ((M.1.2.2.1.2.2 (mRk M.1 a)).1))).toInt64)) rfl ?_
    refine x_goto hC d_Law_messageAt_9 (tgt := 15) (by decide) ?_
    refine x_iconst hC d_Law_messageAt_15 (v := nI 0) (by decide) ?_
    exact hret _ _ _ _ _ _ _ d_Law_messageAt_16 (by decide) (by decide) rfl (Or.inl ⟨rfl, xMC_fr hM (fun a9 q1 q2 => xup_ne (by omega)), xup_eq, pn0, fun a9 q1 q2 => xup_ne q2⟩)

theorem d_Law_priorityOf_0 : decode method_18_code 0 = .ok (.aload_n 2, 1) := by decide +kernel
theorem d_Law_priorityOf_1 : decode method_18_code 1 = .ok (.iconst 0, 1) := by decide +kernel
theorem d_Law_priorityOf_2 : decode method_18_code 2 = .ok (.aload_n 0, 1) := by decide +kernel
theorem d_Law_priorityOf_3 : decode method_18_code 3 = .ok (.iload_n 1, 1) := by decide +kernel
theorem d_Law_priorityOf_4 : decode method_18_code 4 = .ok (.invokevirtual 68, 3) := by decide +kernel
theorem d_Law_priorityOf_7 : decode method_18_code 7 = .ok (.i2l, 1) := by decide +kernel
theorem d_Law_priorityOf_8 : decode method_18_code 8 = .ok (.lastore, 1) := by decide +kernel
theorem d_Law_priorityOf_9 : decode method_18_code 9 = .ok (.goto 6, 3) := by decide +kernel
theorem d_Law_priorityOf_12 : decode method_18_code 12 = .ok (.astore_n 3, 1) := by decide +kernel
theorem d_Law_priorityOf_13 : decode method_18_code 13 = .ok (.iconst 1, 1) := by decide +kernel
theorem d_Law_priorityOf_14 : decode method_18_code 14 = .ok (.ireturn, 1) := by decide +kernel
theorem d_Law_priorityOf_15 : decode method_18_code 15 = .ok (.iconst 0, 1) := by decide +kernel
theorem d_Law_priorityOf_16 : decode method_18_code 16 = .ok (.ireturn, 1) := by decide +kernel
set_option maxHeartbeats 4000000 in
set_option maxRecDepth 20000 in
theorem c_Law_priorityOf {P : xP} {F : xF} {z : Nat} {b : Nat} {cm : cmT} {M : mcS} {a : Int32} {o : Nat} {g0 : Nat → Int64} (hM : xMC F (cm) (b) (M)) (ho : F (o) = some (.inr (2, 1, fun b9 => .long (g0 b9)))) (hZx : xZx P) (hNx : xNx P) (hbo : o < b ∨ b + 566 ≤ o) : xMw P xy_Law_priorityOf [(0, 9, 12, 28)] [.ref b, .int a, .ref o] F (z) 1 6 (fun r9 F9 z9 => (r9 = some (.int (nI 0)) ∧ xMC F9 (cm) (b) (M) ∧ F9 (o) = some (.inr (2, 1, fun b9 => .long (vp_updL g0 0 (((nI ((mAt M.1 a).2.1))).toInt64) b9))) ∧ (mOk M.1 a) ∧ (∀ a9 : Nat, (a9 < b ∨ b + 566 ≤ a9) → a9 ≠ o → F9 a9 = F a9)) ∨ (r9 = some (.int (nI 1)) ∧ xMC F9 (cm) (b) (M) ∧ F9 (o) = some (.inr (2, 1, fun b9 => .long (g0 b9))) ∧ (¬ mOk M.1 a) ∧ (∀ a9 : Nat, (a9 < b ∨ b + 566 ≤ a9) → a9 ≠ o → F9 a9 = F a9))) := by
  refine xMw_i .int rfl (Nat.le_of_ble_eq_true rfl) (L0 := [some (.ref b), some (.int a), some (.ref o), none]) rfl rfl fun Θ hC hT hret => ?_
  refine x_aload_n hC d_Law_priorityOf_0 rfl rfl ?_
  refine x_iconst hC d_Law_priorityOf_1 (v := nI 0) (by decide) ?_
  refine x_aload_n hC d_Law_priorityOf_2 rfl rfl ?_
  refine x_iload_n hC d_Law_priorityOf_3 rfl rfl ?_
  obtain ⟨b00, -⟩ := id hM
  refine x_callCV hC kv_Law_68 (c_MessageCoder_priorityOf (hM := hM) (hZx := hZx)) b00 rfl rfl (Nat.le_of_ble_eq_true rfl) rfl rfl rfl (Nat.le_of_ble_eq_true rfl) (by decide) d_Law_priorityOf_4 (fun E9 F9 z9 hp9 => ?_) (fun r9 F9 z9 hp9 => ?_)
  · skip
    rcases hp9 with ⟨rfl, rfl, hcond⟩
    · skip
      refine xH_at hC (name := "java/util/NoSuchElementException") [] ⟨0, 9, 12, 28⟩ [] (hT.trans rfl) (fun y hy => nomatch hy) rfl (by decide) (x_in (x_of (xtb_4 (List.mem_of_getElem? (i := 166) (by decide +kernel)))) (by decide +kernel)) (x_inN (xtb_4 (List.mem_of_getElem? (i := 175) (by decide +kernel))) (by decide +kernel)) (fun q9 => ?_)
      show xX P Θ 12 _ _ _ _ _ _
      refine x_astore_n hC d_Law_priorityOf_12 rfl (Nat.le_of_ble_eq_true rfl) (L1 := [some (.ref b), some (.int a), some (.ref o), some (.ref q9)]) rfl ?_
      refine x_iconst hC d_Law_priorityOf_13 (v := nI 1) (by decide) ?_
      exact hret _ _ _ _ _ _ _ d_Law_priorityOf_14 (by decide) (by decide) rfl (Or.inr (⟨rfl, hM, ho, hcond, fun a9 _ _ => rfl⟩))
  · skip
    obtain ⟨rfl, rfl, rfl, pn0⟩ := hp9
    refine x_i2l hC d_Law_priorityOf_7 rfl ?_
    refine x_last hC ho (j := 0) ⟨rfl, by decide, by decide⟩ d_Law_priorityOf_8 (g1 := vp_updL g0 0 (((nI ((mAt M.1 a).2.1))).toInt64)) rfl ?_
    refine x_goto hC d_Law_priorityOf_9 (tgt := 15) (by decide) ?_
    refine x_iconst hC d_Law_priorityOf_15 (v := nI 0) (by decide) ?_
    exact hret _ _ _ _ _ _ _ d_Law_priorityOf_16 (by decide) (by decide) rfl (Or.inl ⟨rfl, xMC_fr hM (fun a9 q1 q2 => xup_ne (by omega)), xup_eq, pn0, fun a9 q1 q2 => xup_ne q2⟩)

theorem d_Law_lengthOf_0 : decode method_19_code 0 = .ok (.aload_n 2, 1) := by decide +kernel
theorem d_Law_lengthOf_1 : decode method_19_code 1 = .ok (.iconst 0, 1) := by decide +kernel
theorem d_Law_lengthOf_2 : decode method_19_code 2 = .ok (.aload_n 0, 1) := by decide +kernel
theorem d_Law_lengthOf_3 : decode method_19_code 3 = .ok (.iload_n 1, 1) := by decide +kernel
theorem d_Law_lengthOf_4 : decode method_19_code 4 = .ok (.invokevirtual 71, 3) := by decide +kernel
theorem d_Law_lengthOf_7 : decode method_19_code 7 = .ok (.i2l, 1) := by decide +kernel
theorem d_Law_lengthOf_8 : decode method_19_code 8 = .ok (.lastore, 1) := by decide +kernel
theorem d_Law_lengthOf_9 : decode method_19_code 9 = .ok (.goto 6, 3) := by decide +kernel
theorem d_Law_lengthOf_12 : decode method_19_code 12 = .ok (.astore_n 3, 1) := by decide +kernel
theorem d_Law_lengthOf_13 : decode method_19_code 13 = .ok (.iconst 1, 1) := by decide +kernel
theorem d_Law_lengthOf_14 : decode method_19_code 14 = .ok (.ireturn, 1) := by decide +kernel
theorem d_Law_lengthOf_15 : decode method_19_code 15 = .ok (.iconst 0, 1) := by decide +kernel
theorem d_Law_lengthOf_16 : decode method_19_code 16 = .ok (.ireturn, 1) := by decide +kernel
set_option maxHeartbeats 4000000 in
set_option maxRecDepth 20000 in
theorem c_Law_lengthOf {P : xP} {F : xF} {z : Nat} {b : Nat} {cm : cmT} {M : mcS} {a : Int32} {o : Nat} {g0 : Nat → Int64} (hM : xMC F (cm) (b) (M)) (ho : F (o) = some (.inr (2, 1, fun b9 => .long (g0 b9)))) (hZx : xZx P) (hNx : xNx P) (hbo : o < b ∨ b + 566 ≤ o) : xMw P xy_Law_lengthOf [(0, 9, 12, 28)] [.ref b, .int a, .ref o] F (z) 1 6 (fun r9 F9 z9 => (r9 = some (.int (nI 0)) ∧ xMC F9 (cm) (b) (M) ∧ F9 (o) = some (.inr (2, 1, fun b9 => .long (vp_updL g0 0 (((nI ((mAt M.1 a).2.2.1))).toInt64) b9))) ∧ (mOk M.1 a) ∧ (∀ a9 : Nat, (a9 < b ∨ b + 566 ≤ a9) → a9 ≠ o → F9 a9 = F a9)) ∨ (r9 = some (.int (nI 1)) ∧ xMC F9 (cm) (b) (M) ∧ F9 (o) = some (.inr (2, 1, fun b9 => .long (g0 b9))) ∧ (¬ mOk M.1 a) ∧ (∀ a9 : Nat, (a9 < b ∨ b + 566 ≤ a9) → a9 ≠ o → F9 a9 = F a9))) := by
  refine xMw_i .int rfl (Nat.le_of_ble_eq_true rfl) (L0 := [some (.ref b), some (.int a), some (.ref o), none]) rfl rfl fun Θ hC hT hret => ?_
  refine x_aload_n hC d_Law_lengthOf_0 rfl rfl ?_
  refine x_iconst hC d_Law_lengthOf_1 (v := nI 0) (by decide) ?_
  refine x_aload_n hC d_Law_lengthOf_2 rfl rfl ?_
  refine x_iload_n hC d_Law_lengthOf_3 rfl rfl ?_
  obtain ⟨b00, -⟩ := id hM
  refine x_callCV hC kv_Law_71 (c_MessageCoder_lengthOf (hM := hM) (hZx := hZx)) b00 rfl rfl (Nat.le_of_ble_eq_true rfl) rfl rfl rfl (Nat.le_of_ble_eq_true rfl) (by decide) d_Law_lengthOf_4 (fun E9 F9 z9 hp9 => ?_) (fun r9 F9 z9 hp9 => ?_)
  · skip
    rcases hp9 with ⟨rfl, rfl, hcond⟩
    · skip
      refine xH_at hC (name := "java/util/NoSuchElementException") [] ⟨0, 9, 12, 28⟩ [] (hT.trans rfl) (fun y hy => nomatch hy) rfl (by decide) (x_in (x_of (xtb_4 (List.mem_of_getElem? (i := 166) (by decide +kernel)))) (by decide +kernel)) (x_inN (xtb_4 (List.mem_of_getElem? (i := 175) (by decide +kernel))) (by decide +kernel)) (fun q9 => ?_)
      show xX P Θ 12 _ _ _ _ _ _
      refine x_astore_n hC d_Law_lengthOf_12 rfl (Nat.le_of_ble_eq_true rfl) (L1 := [some (.ref b), some (.int a), some (.ref o), some (.ref q9)]) rfl ?_
      refine x_iconst hC d_Law_lengthOf_13 (v := nI 1) (by decide) ?_
      exact hret _ _ _ _ _ _ _ d_Law_lengthOf_14 (by decide) (by decide) rfl (Or.inr (⟨rfl, hM, ho, hcond, fun a9 _ _ => rfl⟩))
  · skip
    obtain ⟨rfl, rfl, rfl, pn0⟩ := hp9
    refine x_i2l hC d_Law_lengthOf_7 rfl ?_
    refine x_last hC ho (j := 0) ⟨rfl, by decide, by decide⟩ d_Law_lengthOf_8 (g1 := vp_updL g0 0 (((nI ((mAt M.1 a).2.2.1))).toInt64)) rfl ?_
    refine x_goto hC d_Law_lengthOf_9 (tgt := 15) (by decide) ?_
    refine x_iconst hC d_Law_lengthOf_15 (v := nI 0) (by decide) ?_
    exact hret _ _ _ _ _ _ _ d_Law_lengthOf_16 (by decide) (by decide) rfl (Or.inl ⟨rfl, xMC_fr hM (fun a9 q1 q2 => xup_ne (by omega)), xup_eq, pn0, fun a9 q1 q2 => xup_ne q2⟩)

theorem d_Law_symbolAt_0 : decode method_20_code 0 = .ok (.aload_n 3, 1) := by decide +kernel
theorem d_Law_symbolAt_1 : decode method_20_code 1 = .ok (.iconst 0, 1) := by decide +kernel
theorem d_Law_symbolAt_2 : decode method_20_code 2 = .ok (.aload_n 0, 1) := by decide +kernel
theorem d_Law_symbolAt_3 : decode method_20_code 3 = .ok (.iload_n 1, 1) := by decide +kernel
theorem d_Law_symbolAt_4 : decode method_20_code 4 = .ok (.iload_n 2, 1) := by decide +kernel
theorem d_Law_symbolAt_5 : decode method_20_code 5 = .ok (.invokevirtual 74, 3) := by decide +kernel
theorem d_Law_symbolAt_8 : decode method_20_code 8 = .ok (.i2l, 1) := by decide +kernel
theorem d_Law_symbolAt_9 : decode method_20_code 9 = .ok (.lastore, 1) := by decide +kernel
theorem d_Law_symbolAt_10 : decode method_20_code 10 = .ok (.goto 11, 3) := by decide +kernel
theorem d_Law_symbolAt_13 : decode method_20_code 13 = .ok (.astore 4, 2) := by decide +kernel
theorem d_Law_symbolAt_15 : decode method_20_code 15 = .ok (.iconst 1, 1) := by decide +kernel
theorem d_Law_symbolAt_16 : decode method_20_code 16 = .ok (.ireturn, 1) := by decide +kernel
theorem d_Law_symbolAt_17 : decode method_20_code 17 = .ok (.astore 4, 2) := by decide +kernel
theorem d_Law_symbolAt_19 : decode method_20_code 19 = .ok (.iconst 2, 1) := by decide +kernel
theorem d_Law_symbolAt_20 : decode method_20_code 20 = .ok (.ireturn, 1) := by decide +kernel
theorem d_Law_symbolAt_21 : decode method_20_code 21 = .ok (.iconst 0, 1) := by decide +kernel
theorem d_Law_symbolAt_22 : decode method_20_code 22 = .ok (.ireturn, 1) := by decide +kernel
set_option maxHeartbeats 4000000 in
set_option maxRecDepth 20000 in
theorem c_Law_symbolAt {P : xP} {F : xF} {z : Nat} {b : Nat} {cm : cmT} {M : mcS} {a : Int32} {i : Int32} {o : Nat} {g0 : Nat → Int64} (hM : xMC F (cm) (b) (M)) (ho : F (o) = some (.inr (2, 1, fun b9 => .long (g0 b9)))) (hZx : xZx P) (hNx : xNx P) (hbo : o < b ∨ b + 566 ≤ o) : xMw P xy_Law_symbolAt [(0, 10, 13, 28), (0, 10, 17, 44)] [.ref b, .int a, .int i, .ref o] F (z) 2 12 (fun r9 F9 z9 => (r9 = some (.int (nI 0)) ∧ xMC F9 (cm) (b) (M) ∧ F9 (o) = some (.inr (2, 1, fun b9 => .long (vp_updL g0 0 (((nI ((mAt M.1 a).2.2.2 i.toNatClampNeg))).toInt64) b9))) ∧ (mOk M.1 a) ∧ (0 ≤ i ∧ i < nI (mAt M.1 a).2.2.1) ∧ (∀ a9 : Nat, (a9 < b ∨ b + 566 ≤ a9) → a9 ≠ o → F9 a9 = F a9)) ∨ (r9 = some (.int (nI 1)) ∧ xMC F9 (cm) (b) (M) ∧ F9 (o) = some (.inr (2, 1, fun b9 => .long (g0 b9))) ∧ (¬ mOk M.1 a) ∧ (∀ a9 : Nat, (a9 < b ∨ b + 566 ≤ a9) → a9 ≠ o → F9 a9 = F a9)) ∨ (r9 = some (.int (nI 2)) ∧ xMC F9 (cm) (b) (M) ∧ F9 (o) = some (.inr (2, 1, fun b9 => .long (g0 b9))) ∧ (mOk M.1 a ∧ ¬ (0 ≤ i ∧ i < nI (mAt M.1 a).2.2.1)) ∧ (∀ a9 : Nat, (a9 < b ∨ b + 566 ≤ a9) → a9 ≠ o → F9 a9 = F a9))) := by
  refine xMw_i .int rfl (Nat.le_of_ble_eq_true rfl) (L0 := [some (.ref b), some (.int a), some (.int i), some (.ref o), none]) rfl rfl fun Θ hC hT hret => ?_
  refine x_aload_n hC d_Law_symbolAt_0 rfl rfl ?_
  refine x_iconst hC d_Law_symbolAt_1 (v := nI 0) (by decide) ?_
  refine x_aload_n hC d_Law_symbolAt_2 rfl rfl ?_
  refine x_iload_n hC d_Law_symbolAt_3 rfl rfl ?_
  refine x_iload_n hC d_Law_symbolAt_4 rfl rfl ?_
  obtain ⟨b00, -⟩ := id hM
  refine x_callCV hC kv_Law_74 (c_MessageCoder_symbolAt (hM := hM) (hZx := hZx)) b00 rfl rfl (Nat.le_of_ble_eq_true rfl) rfl rfl rfl (Nat.le_of_ble_eq_true rfl) (by decide) d_Law_symbolAt_5 (fun E9 F9 z9 hp9 => ?_) (fun r9 F9 z9 hp9 => ?_)
  · skip
    rcases hp9 with ⟨rfl, rfl, hcond⟩ | ⟨rfl, rfl, hcond⟩
    · skip
      refine xH_at hC (name := "java/util/NoSuchElementException") [] ⟨0, 10, 13, 28⟩ [⟨0, 10, 17, 44⟩] (hT.trans rfl) (fun y hy => nomatch hy) rfl (by decide) (x_in (x_of (xtb_4 (List.mem_of_getElem? (i := 166) (by decide +kernel)))) (by decide +kernel)) (x_inN (xtb_4 (List.mem_of_getElem? (i := 175) (by decide +kernel))) (by decide +kernel)) (fun q9 => ?_)
      show xX P Θ 13 _ _ _ _ _ _
      refine x_astore hC d_Law_symbolAt_13 (Nat.le_of_ble_eq_true rfl) (L1 := [some (.ref b), some (.int a), some (.int i), some (.ref o), some (.ref q9)]) rfl ?_
      refine x_iconst hC d_Law_symbolAt_15 (v := nI 1) (by decide) ?_
      exact hret _ _ _ _ _ _ _ d_Law_symbolAt_16 (by decide) (by decide) rfl (Or.inr (Or.inl ⟨rfl, hM, ho, hcond, fun a9 _ _ => rfl⟩))
    · skip
      refine xH_at hC (name := "java/lang/IndexOutOfBoundsException") [⟨0, 10, 13, 28⟩] ⟨0, 10, 17, 44⟩ [] (hT.trans rfl) (fun y hy => by rw [List.mem_singleton.mp hy]; exact ⟨by decide, "java/util/NoSuchElementException", x_in (x_of (xtb_4 (List.mem_of_getElem? (i := 166) (by decide +kernel)))) (by decide +kernel), (xNx_1 hC hNx).2.2⟩) rfl (by decide) (x_in (x_of (xtb_4 (List.mem_of_getElem? (i := 220) (by decide +kernel)))) (by decide +kernel)) (x_inN (xtb_5 (List.mem_of_getElem? (i := 12) (by decide +kernel))) (by decide +kernel)) (fun q9 => ?_)
      show xX P Θ 17 _ _ _ _ _ _
      refine x_astore hC d_Law_symbolAt_17 (Nat.le_of_ble_eq_true rfl) (L1 := [some (.ref b), some (.int a), some (.int i), some (.ref o), some (.ref q9)]) rfl ?_
      refine x_iconst hC d_Law_symbolAt_19 (v := nI 2) (by decide) ?_
      exact hret _ _ _ _ _ _ _ d_Law_symbolAt_20 (by decide) (by decide) rfl (Or.inr (Or.inr (⟨rfl, hM, ho, hcond, fun a9 _ _ => rfl⟩)))
  · skip
    obtain ⟨rfl, rfl, rfl, pn0, pn1⟩ := hp9
    refine x_i2l hC d_Law_symbolAt_8 rfl ?_
    refine x_last hC ho (j := 0) ⟨rfl, by decide, by decide⟩ d_Law_symbolAt_9 (g1 := vp_updL g0 0 (((nI ((mAt M.1 a).2.2.2 i.toNatClampNeg))).toInt64)) rfl ?_
    refine x_goto hC d_Law_symbolAt_10 (tgt := 21) (by decide) ?_
    refine x_iconst hC d_Law_symbolAt_21 (v := nI 0) (by decide) ?_
    exact hret _ _ _ _ _ _ _ d_Law_symbolAt_22 (by decide) (by decide) rfl (Or.inl ⟨rfl, xMC_fr hM (fun a9 q1 q2 => xup_ne (by omega)), xup_eq, pn0, pn1, fun a9 q1 q2 => xup_ne q2⟩)

theorem d_Law_countOf_0 : decode method_21_code 0 = .ok (.aload_n 3, 1) := by decide +kernel
theorem d_Law_countOf_1 : decode method_21_code 1 = .ok (.iconst 0, 1) := by decide +kernel
theorem d_Law_countOf_2 : decode method_21_code 2 = .ok (.aload_n 0, 1) := by decide +kernel
theorem d_Law_countOf_3 : decode method_21_code 3 = .ok (.iload_n 1, 1) := by decide +kernel
theorem d_Law_countOf_4 : decode method_21_code 4 = .ok (.iload_n 2, 1) := by decide +kernel
theorem d_Law_countOf_5 : decode method_21_code 5 = .ok (.invokevirtual 78, 3) := by decide +kernel
theorem d_Law_countOf_8 : decode method_21_code 8 = .ok (.i2l, 1) := by decide +kernel
theorem d_Law_countOf_9 : decode method_21_code 9 = .ok (.lastore, 1) := by decide +kernel
theorem d_Law_countOf_10 : decode method_21_code 10 = .ok (.goto 11, 3) := by decide +kernel
theorem d_Law_countOf_13 : decode method_21_code 13 = .ok (.astore 4, 2) := by decide +kernel
theorem d_Law_countOf_15 : decode method_21_code 15 = .ok (.iconst 1, 1) := by decide +kernel
theorem d_Law_countOf_16 : decode method_21_code 16 = .ok (.ireturn, 1) := by decide +kernel
theorem d_Law_countOf_17 : decode method_21_code 17 = .ok (.astore 4, 2) := by decide +kernel
theorem d_Law_countOf_19 : decode method_21_code 19 = .ok (.iconst 2, 1) := by decide +kernel
theorem d_Law_countOf_20 : decode method_21_code 20 = .ok (.ireturn, 1) := by decide +kernel
theorem d_Law_countOf_21 : decode method_21_code 21 = .ok (.iconst 0, 1) := by decide +kernel
theorem d_Law_countOf_22 : decode method_21_code 22 = .ok (.ireturn, 1) := by decide +kernel
set_option maxHeartbeats 4000000 in
set_option maxRecDepth 20000 in
theorem c_Law_countOf {P : xP} {F : xF} {z : Nat} {b : Nat} {cm : cmT} {M : mcS} {a : Int32} {c : Nat} {o : Nat} {g0 : Nat → Int64} (hM : xMC F (cm) (b) (M)) (ho : F (o) = some (.inr (2, 1, fun b9 => .long (g0 b9)))) (hZx : xZx P) (hcb : c < 65536) (hNx : xNx P) (hbo : o < b ∨ b + 566 ≤ o) : xMw P xy_Law_countOf [(0, 10, 13, 28), (0, 10, 17, 13)] [.ref b, .int a, .int (nI (c)), .ref o] F (z) 2 12 (fun r9 F9 z9 => (r9 = some (.int (nI 0)) ∧ xMC F9 (cm) (b) (M) ∧ F9 (o) = some (.inr (2, 1, fun b9 => .long (vp_updL g0 0 (((nI (tmOf (mAt M.1 a).2.2.2 c (mAt M.1 a).2.2.1))).toInt64) b9))) ∧ (mOk M.1 a) ∧ (97 ≤ c ∧ c < 105) ∧ (∀ a9 : Nat, (a9 < b ∨ b + 566 ≤ a9) → a9 ≠ o → F9 a9 = F a9)) ∨ (r9 = some (.int (nI 1)) ∧ xMC F9 (cm) (b) (M) ∧ F9 (o) = some (.inr (2, 1, fun b9 => .long (g0 b9))) ∧ (¬ mOk M.1 a) ∧ (∀ a9 : Nat, (a9 < b ∨ b + 566 ≤ a9) → a9 ≠ o → F9 a9 = F a9)) ∨ (r9 = some (.int (nI 2)) ∧ xMC F9 (cm) (b) (M) ∧ F9 (o) = some (.inr (2, 1, fun b9 => .long (g0 b9))) ∧ (mOk M.1 a ∧ ¬ (97 ≤ c ∧ c < 105)) ∧ (∀ a9 : Nat, (a9 < b ∨ b + 566 ≤ a9) → a9 ≠ o → F9 a9 = F a9))) := by
  refine xMw_i .int rfl (Nat.le_of_ble_eq_true rfl) (L0 := [some (.ref b), some (.int a), some (.int (nI (c))), some (.ref o), none]) rfl rfl fun Θ hC hT hret => ?_
  refine x_aload_n hC d_Law_countOf_0 rfl rfl ?_
  refine x_iconst hC d_Law_countOf_1 (v := nI 0) (by decide) ?_
  refine x_aload_n hC d_Law_countOf_2 rfl rfl ?_
  refine x_iload_n hC d_Law_countOf_3 rfl rfl ?_
  refine x_iload_n hC d_Law_countOf_4 rfl rfl ?_
  obtain ⟨b00, -⟩ := id hM
  refine x_callCV hC kv_Law_78 (c_MessageCoder_countOf (hM := hM) (hZx := hZx) (hcb := hcb)) b00 rfl rfl (Nat.le_of_ble_eq_true rfl) rfl rfl rfl (Nat.le_of_ble_eq_true rfl) (by decide) d_Law_countOf_5 (fun E9 F9 z9 hp9 => ?_) (fun r9 F9 z9 hp9 => ?_)
  · skip
    rcases hp9 with ⟨rfl, rfl, hcond⟩ | ⟨rfl, rfl, hcond⟩
    · skip
      refine xH_at hC (name := "java/util/NoSuchElementException") [] ⟨0, 10, 13, 28⟩ [⟨0, 10, 17, 13⟩] (hT.trans rfl) (fun y hy => nomatch hy) rfl (by decide) (x_in (x_of (xtb_4 (List.mem_of_getElem? (i := 166) (by decide +kernel)))) (by decide +kernel)) (x_inN (xtb_4 (List.mem_of_getElem? (i := 175) (by decide +kernel))) (by decide +kernel)) (fun q9 => ?_)
      show xX P Θ 13 _ _ _ _ _ _
      refine x_astore hC d_Law_countOf_13 (Nat.le_of_ble_eq_true rfl) (L1 := [some (.ref b), some (.int a), some (.int (nI (c))), some (.ref o), some (.ref q9)]) rfl ?_
      refine x_iconst hC d_Law_countOf_15 (v := nI 1) (by decide) ?_
      exact hret _ _ _ _ _ _ _ d_Law_countOf_16 (by decide) (by decide) rfl (Or.inr (Or.inl ⟨rfl, hM, ho, hcond, fun a9 _ _ => rfl⟩))
    · skip
      refine xH_at hC (name := "java/lang/IllegalArgumentException") [⟨0, 10, 13, 28⟩] ⟨0, 10, 17, 13⟩ [] (hT.trans rfl) (fun y hy => by rw [List.mem_singleton.mp hy]; exact ⟨by decide, "java/util/NoSuchElementException", x_in (x_of (xtb_4 (List.mem_of_getElem? (i := 166) (by decide +kernel)))) (by decide +kernel), (xNx_1 hC hNx).2.1⟩) rfl (by decide) (x_in (x_of (xtb_4 (List.mem_of_getElem? (i := 47) (by decide +kernel)))) (by decide +kernel)) (x_inN (xtb_4 (List.mem_of_getElem? (i := 56) (by decide +kernel))) (by decide +kernel)) (fun q9 => ?_)
      show xX P Θ 17 _ _ _ _ _ _
      refine x_astore hC d_Law_countOf_17 (Nat.le_of_ble_eq_true rfl) (L1 := [some (.ref b), some (.int a), some (.int (nI (c))), some (.ref o), some (.ref q9)]) rfl ?_
      refine x_iconst hC d_Law_countOf_19 (v := nI 2) (by decide) ?_
      exact hret _ _ _ _ _ _ _ d_Law_countOf_20 (by decide) (by decide) rfl (Or.inr (Or.inr (⟨rfl, hM, ho, hcond, fun a9 _ _ => rfl⟩)))
  · skip
    obtain ⟨rfl, rfl, rfl, pn0, pn1⟩ := hp9
    refine x_i2l hC d_Law_countOf_8 rfl ?_
    refine x_last hC ho (j := 0) ⟨rfl, by decide, by decide⟩ d_Law_countOf_9 (g1 := vp_updL g0 0 (((nI (tmOf (mAt M.1 a).2.2.2 c (mAt M.1 a).2.2.1))).toInt64)) rfl ?_
    refine x_goto hC d_Law_countOf_10 (tgt := 21) (by decide) ?_
    refine x_iconst hC d_Law_countOf_21 (v := nI 0) (by decide) ?_
    exact hret _ _ _ _ _ _ _ d_Law_countOf_22 (by decide) (by decide) rfl (Or.inl ⟨rfl, xMC_fr hM (fun a9 q1 q2 => xup_ne (by omega)), xup_eq, pn0, pn1, fun a9 q1 q2 => xup_ne q2⟩)

theorem d_Law_bitCount_0 : decode method_22_code 0 = .ok (.aload_n 2, 1) := by decide +kernel
theorem d_Law_bitCount_1 : decode method_22_code 1 = .ok (.iconst 0, 1) := by decide +kernel
theorem d_Law_bitCount_2 : decode method_22_code 2 = .ok (.aload_n 0, 1) := by decide +kernel
theorem d_Law_bitCount_3 : decode method_22_code 3 = .ok (.iload_n 1, 1) := by decide +kernel
theorem d_Law_bitCount_4 : decode method_22_code 4 = .ok (.invokevirtual 82, 3) := by decide +kernel
theorem d_Law_bitCount_7 : decode method_22_code 7 = .ok (.i2l, 1) := by decide +kernel
theorem d_Law_bitCount_8 : decode method_22_code 8 = .ok (.lastore, 1) := by decide +kernel
theorem d_Law_bitCount_9 : decode method_22_code 9 = .ok (.goto 6, 3) := by decide +kernel
theorem d_Law_bitCount_12 : decode method_22_code 12 = .ok (.astore_n 3, 1) := by decide +kernel
theorem d_Law_bitCount_13 : decode method_22_code 13 = .ok (.iconst 1, 1) := by decide +kernel
theorem d_Law_bitCount_14 : decode method_22_code 14 = .ok (.ireturn, 1) := by decide +kernel
theorem d_Law_bitCount_15 : decode method_22_code 15 = .ok (.iconst 0, 1) := by decide +kernel
theorem d_Law_bitCount_16 : decode method_22_code 16 = .ok (.ireturn, 1) := by decide +kernel
set_option maxHeartbeats 4000000 in
set_option maxRecDepth 20000 in
theorem c_Law_bitCount {P : xP} {F : xF} {z : Nat} {b : Nat} {cm : cmT} {M : mcS} {a : Int32} {o : Nat} {g0 : Nat → Int64} (hM : xMC F (cm) (b) (M)) (ho : F (o) = some (.inr (2, 1, fun b9 => .long (g0 b9)))) (hZx : xZx P) (hNx : xNx P) (hbo : o < b ∨ b + 566 ≤ o) : xMw P xy_Law_bitCount [(0, 9, 12, 28)] [.ref b, .int a, .ref o] F (z) 1 6 (fun r9 F9 z9 => (r9 = some (.int (nI 0)) ∧ xMC F9 (cm) (b) (M) ∧ F9 (o) = some (.inr (2, 1, fun b9 => .long (vp_updL g0 0 (((nI (bitsN (hLen M.1.1) (mAt M.1 a).2.2.2 (mAt M.1 a).2.2.1))).toInt64) b9))) ∧ (mOk M.1 a) ∧ (∀ a9 : Nat, (a9 < b ∨ b + 566 ≤ a9) → a9 ≠ o → F9 a9 = F a9)) ∨ (r9 = some (.int (nI 1)) ∧ xMC F9 (cm) (b) (M) ∧ F9 (o) = some (.inr (2, 1, fun b9 => .long (g0 b9))) ∧ (¬ mOk M.1 a) ∧ (∀ a9 : Nat, (a9 < b ∨ b + 566 ≤ a9) → a9 ≠ o → F9 a9 = F a9))) := by
  refine xMw_i .int rfl (Nat.le_of_ble_eq_true rfl) (L0 := [some (.ref b), some (.int a), some (.ref o), none]) rfl rfl fun Θ hC hT hret => ?_
  refine x_aload_n hC d_Law_bitCount_0 rfl rfl ?_
  refine x_iconst hC d_Law_bitCount_1 (v := nI 0) (by decide) ?_
  refine x_aload_n hC d_Law_bitCount_2 rfl rfl ?_
  refine x_iload_n hC d_Law_bitCount_3 rfl rfl ?_
  obtain ⟨b00, -⟩ := id hM
  refine x_callCV hC kv_Law_82 (c_MessageCoder_bitCount (hM := hM) (hZx := hZx)) b00 rfl rfl (Nat.le_of_ble_eq_true rfl) rfl rfl rfl (Nat.le_of_ble_eq_true rfl) (by decide) d_Law_bitCount_4 (fun E9 F9 z9 hp9 => ?_) (fun r9 F9 z9 hp9 => ?_)
  · skip
    rcases hp9 with ⟨rfl, rfl, hcond⟩
    · skip
      refine xH_at hC (name := "java/util/NoSuchElementException") [] ⟨0, 9, 12, 28⟩ [] (hT.trans rfl) (fun y hy => nomatch hy) rfl (by decide) (x_in (x_of (xtb_4 (List.mem_of_getElem? (i := 166) (by decide +kernel)))) (by decide +kernel)) (x_inN (xtb_4 (List.mem_of_getElem? (i := 175) (by decide +kernel))) (by decide +kernel)) (fun q9 => ?_)
      show xX P Θ 12 _ _ _ _ _ _
      refine x_astore_n hC d_Law_bitCount_12 rfl (Nat.le_of_ble_eq_true rfl) (L1 := [some (.ref b), some (.int a), some (.ref o), some (.ref q9)]) rfl ?_
      refine x_iconst hC d_Law_bitCount_13 (v := nI 1) (by decide) ?_
      exact hret _ _ _ _ _ _ _ d_Law_bitCount_14 (by decide) (by decide) rfl (Or.inr (⟨rfl, hM, ho, hcond, fun a9 _ _ => rfl⟩))
  · skip
    obtain ⟨rfl, rfl, rfl, pn0⟩ := hp9
    refine x_i2l hC d_Law_bitCount_7 rfl ?_
    refine x_last hC ho (j := 0) ⟨rfl, by decide, by decide⟩ d_Law_bitCount_8 (g1 := vp_updL g0 0 (((nI (bitsN (hLen M.1.1) (mAt M.1 a).2.2.2 (mAt M.1 a).2.2.1))).toInt64)) rfl ?_
    refine x_goto hC d_Law_bitCount_9 (tgt := 15) (by decide) ?_
    refine x_iconst hC d_Law_bitCount_15 (v := nI 0) (by decide) ?_
    exact hret _ _ _ _ _ _ _ d_Law_bitCount_16 (by decide) (by decide) rfl (Or.inl ⟨rfl, xMC_fr hM (fun a9 q1 q2 => xup_ne (by omega)), xup_eq, pn0, fun a9 q1 q2 => xup_ne q2⟩)

theorem d_Law_bitAt_0 : decode method_23_code 0 = .ok (.aload_n 3, 1) := by decide +kernel
theorem d_Law_bitAt_1 : decode method_23_code 1 = .ok (.iconst 0, 1) := by decide +kernel
theorem d_Law_bitAt_2 : decode method_23_code 2 = .ok (.aload_n 0, 1) := by decide +kernel
theorem d_Law_bitAt_3 : decode method_23_code 3 = .ok (.iload_n 1, 1) := by decide +kernel
theorem d_Law_bitAt_4 : decode method_23_code 4 = .ok (.iload_n 2, 1) := by decide +kernel
theorem d_Law_bitAt_5 : decode method_23_code 5 = .ok (.invokevirtual 85, 3) := by decide +kernel
theorem d_Law_bitAt_8 : decode method_23_code 8 = .ok (.i2l, 1) := by decide +kernel
theorem d_Law_bitAt_9 : decode method_23_code 9 = .ok (.lastore, 1) := by decide +kernel
theorem d_Law_bitAt_10 : decode method_23_code 10 = .ok (.goto 11, 3) := by decide +kernel
theorem d_Law_bitAt_13 : decode method_23_code 13 = .ok (.astore 4, 2) := by decide +kernel
theorem d_Law_bitAt_15 : decode method_23_code 15 = .ok (.iconst 1, 1) := by decide +kernel
theorem d_Law_bitAt_16 : decode method_23_code 16 = .ok (.ireturn, 1) := by decide +kernel
theorem d_Law_bitAt_17 : decode method_23_code 17 = .ok (.astore 4, 2) := by decide +kernel
theorem d_Law_bitAt_19 : decode method_23_code 19 = .ok (.iconst 2, 1) := by decide +kernel
theorem d_Law_bitAt_20 : decode method_23_code 20 = .ok (.ireturn, 1) := by decide +kernel
theorem d_Law_bitAt_21 : decode method_23_code 21 = .ok (.iconst 0, 1) := by decide +kernel
theorem d_Law_bitAt_22 : decode method_23_code 22 = .ok (.ireturn, 1) := by decide +kernel
set_option maxHeartbeats 4000000 in
set_option maxRecDepth 20000 in
theorem c_Law_bitAt {P : xP} {F : xF} {z : Nat} {b : Nat} {cm : cmT} {M : mcS} {a : Int32} {i : Int32} {o : Nat} {g0 : Nat → Int64} (hM : xMC F (cm) (b) (M)) (ho : F (o) = some (.inr (2, 1, fun b9 => .long (g0 b9)))) (hZx : xZx P) (hNx : xNx P) (hbo : o < b ∨ b + 566 ≤ o) : xMw P xy_Law_bitAt [(0, 10, 13, 28), (0, 10, 17, 44)] [.ref b, .int a, .int i, .ref o] F (z) 2 12 (fun r9 F9 z9 => (r9 = some (.int (nI 0)) ∧ xMC F9 (cm) (b) (M) ∧ F9 (o) = some (.inr (2, 1, fun b9 => .long (vp_updL g0 0 (((nI (splB (hLen M.1.1) (hVal (hLen M.1.1)) (mAt M.1 a).2.2.2 (mAt M.1 a).2.2.1 i.toNatClampNeg))).toInt64) b9))) ∧ (mOk M.1 a) ∧ (0 ≤ i ∧ i < nI (bitsN (hLen M.1.1) (mAt M.1 a).2.2.2 (mAt M.1 a).2.2.1)) ∧ (∀ a9 : Nat, (a9 < b ∨ b + 566 ≤ a9) → a9 ≠ o → F9 a9 = F a9)) ∨ (r9 = some (.int (nI 1)) ∧ xMC F9 (cm) (b) (M) ∧ F9 (o) = some (.inr (2, 1, fun b9 => .long (g0 b9))) ∧ (¬ mOk M.1 a) ∧ (∀ a9 : Nat, (a9 < b ∨ b + 566 ≤ a9) → a9 ≠ o → F9 a9 = F a9)) ∨ (r9 = some (.int (nI 2)) ∧ xMC F9 (cm) (b) (M) ∧ F9 (o) = some (.inr (2, 1, fun b9 => .long (g0 b9))) ∧ (mOk M.1 a ∧ ¬ (0 ≤ i ∧ i < nI (bitsN (hLen M.1.1) (mAt M.1 a).2.2.2 (mAt M.1 a).2.2.1))) ∧ (∀ a9 : Nat, (a9 < b ∨ b + 566 ≤ a9) → a9 ≠ o → F9 a9 = F a9))) := by
  refine xMw_i .int rfl (Nat.le_of_ble_eq_true rfl) (L0 := [some (.ref b), some (.int a), some (.int i), some (.ref o), none]) rfl rfl fun Θ hC hT hret => ?_
  refine x_aload_n hC d_Law_bitAt_0 rfl rfl ?_
  refine x_iconst hC d_Law_bitAt_1 (v := nI 0) (by decide) ?_
  refine x_aload_n hC d_Law_bitAt_2 rfl rfl ?_
  refine x_iload_n hC d_Law_bitAt_3 rfl rfl ?_
  refine x_iload_n hC d_Law_bitAt_4 rfl rfl ?_
  obtain ⟨b00, -⟩ := id hM
  refine x_callCV hC kv_Law_85 (c_MessageCoder_bitAt (hM := hM) (hZx := hZx)) b00 rfl rfl (Nat.le_of_ble_eq_true rfl) rfl rfl rfl (Nat.le_of_ble_eq_true rfl) (by decide) d_Law_bitAt_5 (fun E9 F9 z9 hp9 => ?_) (fun r9 F9 z9 hp9 => ?_)
  · skip
    rcases hp9 with ⟨rfl, hM9, hcond, hag9⟩ | ⟨rfl, hM9, hcond, hag9⟩
    · skip
      refine xH_at hC (name := "java/util/NoSuchElementException") [] ⟨0, 10, 13, 28⟩ [⟨0, 10, 17, 44⟩] (hT.trans rfl) (fun y hy => nomatch hy) rfl (by decide) (x_in (x_of (xtb_4 (List.mem_of_getElem? (i := 166) (by decide +kernel)))) (by decide +kernel)) (x_inN (xtb_4 (List.mem_of_getElem? (i := 175) (by decide +kernel))) (by decide +kernel)) (fun q9 => ?_)
      show xX P Θ 13 _ _ _ _ _ _
      refine x_astore hC d_Law_bitAt_13 (Nat.le_of_ble_eq_true rfl) (L1 := [some (.ref b), some (.int a), some (.int i), some (.ref o), some (.ref q9)]) rfl ?_
      refine x_iconst hC d_Law_bitAt_15 (v := nI 1) (by decide) ?_
      exact hret _ _ _ _ _ _ _ d_Law_bitAt_16 (by decide) (by decide) rfl (Or.inr (Or.inl ⟨rfl, hM9, (hag9 _ hbo).trans ho, hcond, fun a9 q1 _ => hag9 a9 q1⟩))
    · skip
      refine xH_at hC (name := "java/lang/IndexOutOfBoundsException") [⟨0, 10, 13, 28⟩] ⟨0, 10, 17, 44⟩ [] (hT.trans rfl) (fun y hy => by rw [List.mem_singleton.mp hy]; exact ⟨by decide, "java/util/NoSuchElementException", x_in (x_of (xtb_4 (List.mem_of_getElem? (i := 166) (by decide +kernel)))) (by decide +kernel), (xNx_1 hC hNx).2.2⟩) rfl (by decide) (x_in (x_of (xtb_4 (List.mem_of_getElem? (i := 220) (by decide +kernel)))) (by decide +kernel)) (x_inN (xtb_5 (List.mem_of_getElem? (i := 12) (by decide +kernel))) (by decide +kernel)) (fun q9 => ?_)
      show xX P Θ 17 _ _ _ _ _ _
      refine x_astore hC d_Law_bitAt_17 (Nat.le_of_ble_eq_true rfl) (L1 := [some (.ref b), some (.int a), some (.int i), some (.ref o), some (.ref q9)]) rfl ?_
      refine x_iconst hC d_Law_bitAt_19 (v := nI 2) (by decide) ?_
      exact hret _ _ _ _ _ _ _ d_Law_bitAt_20 (by decide) (by decide) rfl (Or.inr (Or.inr (⟨rfl, hM9, (hag9 _ hbo).trans ho, hcond, fun a9 q1 _ => hag9 a9 q1⟩)))
  · skip
    obtain ⟨rfl, rfl, hM9, pn0, pn1, hag9⟩ := hp9
    have ho9 := (hag9 _ hbo).trans ho
    refine x_i2l hC d_Law_bitAt_8 rfl ?_
    refine x_last hC ho9 (j := 0) ⟨rfl, by decide, by decide⟩ d_Law_bitAt_9 (g1 := vp_updL g0 0 (((nI (splB (hLen M.1.1) (hVal (hLen M.1.1)) (mAt M.1 a).2.2.2 (mAt M.1 a).2.2.1 i.toNatClampNeg))).toInt64)) rfl ?_
    refine x_goto hC d_Law_bitAt_10 (tgt := 21) (by decide) ?_
    refine x_iconst hC d_Law_bitAt_21 (v := nI 0) (by decide) ?_
    exact hret _ _ _ _ _ _ _ d_Law_bitAt_22 (by decide) (by decide) rfl (Or.inl ⟨rfl, xMC_fr hM9 (fun a9 q1 q2 => xup_ne (by omega)), xup_eq, pn0, pn1, fun a9 q1 q2 => (xup_ne q2).trans (hag9 a9 q1)⟩)

theorem d_Law_checksum_0 : decode method_24_code 0 = .ok (.aload_n 2, 1) := by decide +kernel
theorem d_Law_checksum_1 : decode method_24_code 1 = .ok (.iconst 0, 1) := by decide +kernel
theorem d_Law_checksum_2 : decode method_24_code 2 = .ok (.aload_n 0, 1) := by decide +kernel
theorem d_Law_checksum_3 : decode method_24_code 3 = .ok (.iload_n 1, 1) := by decide +kernel
theorem d_Law_checksum_4 : decode method_24_code 4 = .ok (.invokevirtual 88, 3) := by decide +kernel
theorem d_Law_checksum_7 : decode method_24_code 7 = .ok (.i2l, 1) := by decide +kernel
theorem d_Law_checksum_8 : decode method_24_code 8 = .ok (.lastore, 1) := by decide +kernel
theorem d_Law_checksum_9 : decode method_24_code 9 = .ok (.goto 6, 3) := by decide +kernel
theorem d_Law_checksum_12 : decode method_24_code 12 = .ok (.astore_n 3, 1) := by decide +kernel
theorem d_Law_checksum_13 : decode method_24_code 13 = .ok (.iconst 1, 1) := by decide +kernel
theorem d_Law_checksum_14 : decode method_24_code 14 = .ok (.ireturn, 1) := by decide +kernel
theorem d_Law_checksum_15 : decode method_24_code 15 = .ok (.iconst 0, 1) := by decide +kernel
theorem d_Law_checksum_16 : decode method_24_code 16 = .ok (.ireturn, 1) := by decide +kernel
set_option maxHeartbeats 4000000 in
set_option maxRecDepth 20000 in
theorem c_Law_checksum {P : xP} {F : xF} {z : Nat} {b : Nat} {cm : cmT} {M : mcS} {a : Int32} {o : Nat} {g0 : Nat → Int64} (hM : xMC F (cm) (b) (M)) (ho : F (o) = some (.inr (2, 1, fun b9 => .long (g0 b9)))) (hZx : xZx P) (hNx : xNx P) (hbo : o < b ∨ b + 566 ≤ o) : xMw P xy_Law_checksum [(0, 9, 12, 28)] [.ref b, .int a, .ref o] F (z) 1 6 (fun r9 F9 z9 => (r9 = some (.int (nI 0)) ∧ xMC F9 (cm) (b) (M) ∧ F9 (o) = some (.inr (2, 1, fun b9 => .long (vp_updL g0 0 (((nI (crcB (bitsN (hLen M.1.1) (mAt M.1 a).2.2.2 (mAt M.1 a).2.2.1) (splB (hLen M.1.1) (hVal (hLen M.1.1)) (mAt M.1 a).2.2.2 (mAt M.1 a).2.2.1) (bitsN (hLen M.1.1) (mAt M.1 a).2.2.2 (mAt M.1 a).2.2.1 + 4)))).toInt64) b9))) ∧ (mOk M.1 a) ∧ (∀ a9 : Nat, (a9 < b ∨ b + 566 ≤ a9) → a9 ≠ o → F9 a9 = F a9)) ∨ (r9 = some (.int (nI 1)) ∧ xMC F9 (cm) (b) (M) ∧ F9 (o) = some (.inr (2, 1, fun b9 => .long (g0 b9))) ∧ (¬ mOk M.1 a) ∧ (∀ a9 : Nat, (a9 < b ∨ b + 566 ≤ a9) → a9 ≠ o → F9 a9 = F a9))) := by
  refine xMw_i .int rfl (Nat.le_of_ble_eq_true rfl) (L0 := [some (.ref b), some (.int a), some (.ref o), none]) rfl rfl fun Θ hC hT hret => ?_
  refine x_aload_n hC d_Law_checksum_0 rfl rfl ?_
  refine x_iconst hC d_Law_checksum_1 (v := nI 0) (by decide) ?_
  refine x_aload_n hC d_Law_checksum_2 rfl rfl ?_
  refine x_iload_n hC d_Law_checksum_3 rfl rfl ?_
  obtain ⟨b00, -⟩ := id hM
  refine x_callCV hC kv_Law_88 (c_MessageCoder_checksum (hM := hM) (hZx := hZx)) b00 rfl rfl (Nat.le_of_ble_eq_true rfl) rfl rfl rfl (Nat.le_of_ble_eq_true rfl) (by decide) d_Law_checksum_4 (fun E9 F9 z9 hp9 => ?_) (fun r9 F9 z9 hp9 => ?_)
  · skip
    rcases hp9 with ⟨rfl, hM9, hcond, hag9⟩
    · skip
      refine xH_at hC (name := "java/util/NoSuchElementException") [] ⟨0, 9, 12, 28⟩ [] (hT.trans rfl) (fun y hy => nomatch hy) rfl (by decide) (x_in (x_of (xtb_4 (List.mem_of_getElem? (i := 166) (by decide +kernel)))) (by decide +kernel)) (x_inN (xtb_4 (List.mem_of_getElem? (i := 175) (by decide +kernel))) (by decide +kernel)) (fun q9 => ?_)
      show xX P Θ 12 _ _ _ _ _ _
      refine x_astore_n hC d_Law_checksum_12 rfl (Nat.le_of_ble_eq_true rfl) (L1 := [some (.ref b), some (.int a), some (.ref o), some (.ref q9)]) rfl ?_
      refine x_iconst hC d_Law_checksum_13 (v := nI 1) (by decide) ?_
      exact hret _ _ _ _ _ _ _ d_Law_checksum_14 (by decide) (by decide) rfl (Or.inr (⟨rfl, hM9, (hag9 _ hbo).trans ho, hcond, fun a9 q1 _ => hag9 a9 q1⟩))
  · skip
    obtain ⟨rfl, rfl, hM9, pn0, hag9⟩ := hp9
    have ho9 := (hag9 _ hbo).trans ho
    refine x_i2l hC d_Law_checksum_7 rfl ?_
    refine x_last hC ho9 (j := 0) ⟨rfl, by decide, by decide⟩ d_Law_checksum_8 (g1 := vp_updL g0 0 (((nI (crcB (bitsN (hLen M.1.1) (mAt M.1 a).2.2.2 (mAt M.1 a).2.2.1) (splB (hLen M.1.1) (hVal (hLen M.1.1)) (mAt M.1 a).2.2.2 (mAt M.1 a).2.2.1) (bitsN (hLen M.1.1) (mAt M.1 a).2.2.2 (mAt M.1 a).2.2.1 + 4)))).toInt64)) rfl ?_
    refine x_goto hC d_Law_checksum_9 (tgt := 15) (by decide) ?_
    refine x_iconst hC d_Law_checksum_15 (v := nI 0) (by decide) ?_
    exact hret _ _ _ _ _ _ _ d_Law_checksum_16 (by decide) (by decide) rfl (Or.inl ⟨rfl, xMC_fr hM9 (fun a9 q1 q2 => xup_ne (by omega)), xup_eq, pn0, fun a9 q1 q2 => (xup_ne q2).trans (hag9 a9 q1)⟩)

theorem d_Law_checksumByTable_0 : decode method_25_code 0 = .ok (.aload_n 2, 1) := by decide +kernel
theorem d_Law_checksumByTable_1 : decode method_25_code 1 = .ok (.iconst 0, 1) := by decide +kernel
theorem d_Law_checksumByTable_2 : decode method_25_code 2 = .ok (.aload_n 0, 1) := by decide +kernel
theorem d_Law_checksumByTable_3 : decode method_25_code 3 = .ok (.iload_n 1, 1) := by decide +kernel
theorem d_Law_checksumByTable_4 : decode method_25_code 4 = .ok (.invokevirtual 91, 3) := by decide +kernel
theorem d_Law_checksumByTable_7 : decode method_25_code 7 = .ok (.i2l, 1) := by decide +kernel
theorem d_Law_checksumByTable_8 : decode method_25_code 8 = .ok (.lastore, 1) := by decide +kernel
theorem d_Law_checksumByTable_9 : decode method_25_code 9 = .ok (.goto 6, 3) := by decide +kernel
theorem d_Law_checksumByTable_12 : decode method_25_code 12 = .ok (.astore_n 3, 1) := by decide +kernel
theorem d_Law_checksumByTable_13 : decode method_25_code 13 = .ok (.iconst 1, 1) := by decide +kernel
theorem d_Law_checksumByTable_14 : decode method_25_code 14 = .ok (.ireturn, 1) := by decide +kernel
theorem d_Law_checksumByTable_15 : decode method_25_code 15 = .ok (.iconst 0, 1) := by decide +kernel
theorem d_Law_checksumByTable_16 : decode method_25_code 16 = .ok (.ireturn, 1) := by decide +kernel
set_option maxHeartbeats 4000000 in
set_option maxRecDepth 20000 in
theorem c_Law_checksumByTable {P : xP} {F : xF} {z : Nat} {b : Nat} {cm : cmT} {M : mcS} {a : Int32} {rt : Nat} {o : Nat} {g0 : Nat → Int64} (hM : xMC F (cm) (b) (M)) (ho : F (o) = some (.inr (2, 1, fun b9 => .long (g0 b9)))) (hZx : xZx P) (hSR : xSR P rt) (hNx : xNx P) (hbo : o < b ∨ b + 566 ≤ o) : xMw P xy_Law_checksumByTable [(0, 9, 12, 28)] [.ref b, .int a, .ref o] F (z) 1 6 (fun r9 F9 z9 => (r9 = some (.int (nI 0)) ∧ xMC F9 (cm) (b) (M) ∧ F9 (o) = some (.inr (2, 1, fun b9 => .long (vp_updL g0 0 (((nI (crcB (bitsN (hLen M.1.1) (mAt M.1 a).2.2.2 (mAt M.1 a).2.2.1) (splB (hLen M.1.1) (hVal (hLen M.1.1)) (mAt M.1 a).2.2.2 (mAt M.1 a).2.2.1) (bitsN (hLen M.1.1) (mAt M.1 a).2.2.2 (mAt M.1 a).2.2.1 + 4)))).toInt64) b9))) ∧ (mOk M.1 a) ∧ (∀ a9 : Nat, (a9 < b ∨ b + 566 ≤ a9) → a9 ≠ o → F9 a9 = F a9)) ∨ (r9 = some (.int (nI 1)) ∧ xMC F9 (cm) (b) (M) ∧ F9 (o) = some (.inr (2, 1, fun b9 => .long (g0 b9))) ∧ (¬ mOk M.1 a) ∧ (∀ a9 : Nat, (a9 < b ∨ b + 566 ≤ a9) → a9 ≠ o → F9 a9 = F a9))) := by
  refine xMw_i .int rfl (Nat.le_of_ble_eq_true rfl) (L0 := [some (.ref b), some (.int a), some (.ref o), none]) rfl rfl fun Θ hC hT hret => ?_
  refine x_aload_n hC d_Law_checksumByTable_0 rfl rfl ?_
  refine x_iconst hC d_Law_checksumByTable_1 (v := nI 0) (by decide) ?_
  refine x_aload_n hC d_Law_checksumByTable_2 rfl rfl ?_
  refine x_iload_n hC d_Law_checksumByTable_3 rfl rfl ?_
  obtain ⟨b00, -⟩ := id hM
  refine x_callCV hC kv_Law_91 (c_MessageCoder_checksumByTable (hM := hM) (hZx := hZx) (hSR := hSR)) b00 rfl rfl (Nat.le_of_ble_eq_true rfl) rfl rfl rfl (Nat.le_of_ble_eq_true rfl) (by decide) d_Law_checksumByTable_4 (fun E9 F9 z9 hp9 => ?_) (fun r9 F9 z9 hp9 => ?_)
  · skip
    rcases hp9 with ⟨rfl, hM9, hcond, hag9⟩
    · skip
      refine xH_at hC (name := "java/util/NoSuchElementException") [] ⟨0, 9, 12, 28⟩ [] (hT.trans rfl) (fun y hy => nomatch hy) rfl (by decide) (x_in (x_of (xtb_4 (List.mem_of_getElem? (i := 166) (by decide +kernel)))) (by decide +kernel)) (x_inN (xtb_4 (List.mem_of_getElem? (i := 175) (by decide +kernel))) (by decide +kernel)) (fun q9 => ?_)
      show xX P Θ 12 _ _ _ _ _ _
      refine x_astore_n hC d_Law_checksumByTable_12 rfl (Nat.le_of_ble_eq_true rfl) (L1 := [some (.ref b), some (.int a), some (.ref o), some (.ref q9)]) rfl ?_
      refine x_iconst hC d_Law_checksumByTable_13 (v := nI 1) (by decide) ?_
      exact hret _ _ _ _ _ _ _ d_Law_checksumByTable_14 (by decide) (by decide) rfl (Or.inr (⟨rfl, hM9, (hag9 _ hbo).trans ho, hcond, fun a9 q1 _ => hag9 a9 q1⟩))
  · skip
    obtain ⟨rfl, rfl, hM9, pn0, hag9⟩ := hp9
    have ho9 := (hag9 _ hbo).trans ho
    refine x_i2l hC d_Law_checksumByTable_7 rfl ?_
    refine x_last hC ho9 (j := 0) ⟨rfl, by decide, by decide⟩ d_Law_checksumByTable_8 (g1 := vp_updL g0 0 (((nI (crcB (bitsN (hLen M.1.1) (mAt M.1 a).2.2.2 (mAt M.1 a).2.2.1) (splB (hLen M.1.1) (hVal (hLen M.1.1)) (mAt M.1 a).2.2.2 (mAt M.1 a).2.2.1) (bitsN (hLen M.1.1) (mAt M.1 a).2.2.2 (mAt M.1 a).2.2.1 + 4)))).toInt64)) rfl ?_
    refine x_goto hC d_Law_checksumByTable_9 (tgt := 15) (by decide) ?_
    refine x_iconst hC d_Law_checksumByTable_15 (v := nI 0) (by decide) ?_
    exact hret _ _ _ _ _ _ _ d_Law_checksumByTable_16 (by decide) (by decide) rfl (Or.inl ⟨rfl, xMC_fr hM9 (fun a9 q1 q2 => xup_ne (by omega)), xup_eq, pn0, fun a9 q1 q2 => (xup_ne q2).trans (hag9 a9 q1)⟩)

theorem d_Law_areEqual_0 : decode method_26_code 0 = .ok (.aload_n 3, 1) := by decide +kernel
theorem d_Law_areEqual_1 : decode method_26_code 1 = .ok (.iconst 0, 1) := by decide +kernel
theorem d_Law_areEqual_2 : decode method_26_code 2 = .ok (.aload_n 0, 1) := by decide +kernel
theorem d_Law_areEqual_3 : decode method_26_code 3 = .ok (.iload_n 1, 1) := by decide +kernel
theorem d_Law_areEqual_4 : decode method_26_code 4 = .ok (.iload_n 2, 1) := by decide +kernel
theorem d_Law_areEqual_5 : decode method_26_code 5 = .ok (.invokevirtual 94, 3) := by decide +kernel
theorem d_Law_areEqual_8 : decode method_26_code 8 = .ok (.ifCond .eq 7, 3) := by decide +kernel
theorem d_Law_areEqual_11 : decode method_26_code 11 = .ok (.lconst 1, 1) := by decide +kernel
theorem d_Law_areEqual_12 : decode method_26_code 12 = .ok (.goto 4, 3) := by decide +kernel
theorem d_Law_areEqual_15 : decode method_26_code 15 = .ok (.lconst 0, 1) := by decide +kernel
theorem d_Law_areEqual_16 : decode method_26_code 16 = .ok (.lastore, 1) := by decide +kernel
theorem d_Law_areEqual_17 : decode method_26_code 17 = .ok (.goto 7, 3) := by decide +kernel
theorem d_Law_areEqual_20 : decode method_26_code 20 = .ok (.astore 4, 2) := by decide +kernel
theorem d_Law_areEqual_22 : decode method_26_code 22 = .ok (.iconst 1, 1) := by decide +kernel
theorem d_Law_areEqual_23 : decode method_26_code 23 = .ok (.ireturn, 1) := by decide +kernel
theorem d_Law_areEqual_24 : decode method_26_code 24 = .ok (.iconst 0, 1) := by decide +kernel
theorem d_Law_areEqual_25 : decode method_26_code 25 = .ok (.ireturn, 1) := by decide +kernel
set_option maxHeartbeats 4000000 in
set_option maxRecDepth 20000 in
theorem c_Law_areEqual {P : xP} {F : xF} {z : Nat} {b : Nat} {cm : cmT} {M : mcS} {a : Int32} {c : Int32} {o : Nat} {g0 : Nat → Int64} (hM : xMC F (cm) (b) (M)) (ho : F (o) = some (.inr (2, 1, fun b9 => .long (g0 b9)))) (hZx : xZx P) (hNx : xNx P) (hbo : o < b ∨ b + 566 ≤ o) : xMw P xy_Law_areEqual [(0, 17, 20, 28)] [.ref b, .int a, .int c, .ref o] F (z) 2 12 (fun r9 F9 z9 => (r9 = some (.int (nI 0)) ∧ xMC F9 (cm) (b) (M) ∧ F9 (o) = some (.inr (2, 1, fun b9 => .long (vp_updL g0 0 (if (mAt M.1 a).2.2.1 = (mAt M.1 c).2.2.1 ∧ eqTo (mAt M.1 a).2.2.2 (mAt M.1 c).2.2.2 (mAt M.1 a).2.2.1 = true then 1 else 0) b9))) ∧ (mOk M.1 a) ∧ (mOk M.1 c) ∧ (∀ a9 : Nat, (a9 < b ∨ b + 566 ≤ a9) → a9 ≠ o → F9 a9 = F a9)) ∨ (r9 = some (.int (nI 1)) ∧ xMC F9 (cm) (b) (M) ∧ F9 (o) = some (.inr (2, 1, fun b9 => .long (g0 b9))) ∧ (¬ (mOk M.1 a ∧ mOk M.1 c)) ∧ (∀ a9 : Nat, (a9 < b ∨ b + 566 ≤ a9) → a9 ≠ o → F9 a9 = F a9))) := by
  refine xMw_i .int rfl (Nat.le_of_ble_eq_true rfl) (L0 := [some (.ref b), some (.int a), some (.int c), some (.ref o), none]) rfl rfl fun Θ hC hT hret => ?_
  refine x_aload_n hC d_Law_areEqual_0 rfl rfl ?_
  refine x_iconst hC d_Law_areEqual_1 (v := nI 0) (by decide) ?_
  refine x_aload_n hC d_Law_areEqual_2 rfl rfl ?_
  refine x_iload_n hC d_Law_areEqual_3 rfl rfl ?_
  refine x_iload_n hC d_Law_areEqual_4 rfl rfl ?_
  obtain ⟨b00, -⟩ := id hM
  refine x_callCV hC kv_Law_94 (c_MessageCoder_areEqual (hM := hM) (hZx := hZx)) b00 rfl rfl (Nat.le_of_ble_eq_true rfl) rfl rfl rfl (Nat.le_of_ble_eq_true rfl) (by decide) d_Law_areEqual_5 (fun E9 F9 z9 hp9 => ?_) (fun r9 F9 z9 hp9 => ?_)
  · skip
    rcases hp9 with ⟨rfl, rfl, hcond⟩
    · skip
      refine xH_at hC (name := "java/util/NoSuchElementException") [] ⟨0, 17, 20, 28⟩ [] (hT.trans rfl) (fun y hy => nomatch hy) rfl (by decide) (x_in (x_of (xtb_4 (List.mem_of_getElem? (i := 166) (by decide +kernel)))) (by decide +kernel)) (x_inN (xtb_4 (List.mem_of_getElem? (i := 175) (by decide +kernel))) (by decide +kernel)) (fun q9 => ?_)
      show xX P Θ 20 _ _ _ _ _ _
      refine x_astore hC d_Law_areEqual_20 (Nat.le_of_ble_eq_true rfl) (L1 := [some (.ref b), some (.int a), some (.int c), some (.ref o), some (.ref q9)]) rfl ?_
      refine x_iconst hC d_Law_areEqual_22 (v := nI 1) (by decide) ?_
      exact hret _ _ _ _ _ _ _ d_Law_areEqual_23 (by decide) (by decide) rfl (Or.inr (⟨rfl, hM, ho, hcond, fun a9 _ _ => rfl⟩))
  · skip
    obtain ⟨rfl, rfl, rfl, pn0, pn1⟩ := hp9
    refine x_ifB_eq hC d_Law_areEqual_8 (tgt := 15) (by decide) (fun c9 => ?_) (fun c9 => ?_)
    · skip
      refine x_lconst hC d_Law_areEqual_15 (v := 0) rfl ?_
      refine x_last hC ho (j := 0) ⟨rfl, by decide, by decide⟩ d_Law_areEqual_16 (g1 := vp_updL g0 0 (0)) rfl ?_
      refine x_goto hC d_Law_areEqual_17 (tgt := 24) (by decide) ?_
      refine x_iconst hC d_Law_areEqual_24 (v := nI 0) (by decide) ?_
      exact hret _ _ _ _ _ _ _ d_Law_areEqual_25 (by decide) (by decide) rfl (Or.inl ⟨rfl, xMC_fr hM (fun a9 q1 q2 => xup_ne (by omega)), by rw [if_neg c9]; exact xup_eq, pn0, pn1, fun a9 q1 q2 => xup_ne q2⟩)
    · skip
      refine x_lconst hC d_Law_areEqual_11 (v := 1) rfl ?_
      refine x_goto hC d_Law_areEqual_12 (tgt := 16) (by decide) ?_
      refine x_last hC ho (j := 0) ⟨rfl, by decide, by decide⟩ d_Law_areEqual_16 (g1 := vp_updL g0 0 (1)) rfl ?_
      refine x_goto hC d_Law_areEqual_17 (tgt := 24) (by decide) ?_
      refine x_iconst hC d_Law_areEqual_24 (v := nI 0) (by decide) ?_
      exact hret _ _ _ _ _ _ _ d_Law_areEqual_25 (by decide) (by decide) rfl (Or.inl ⟨rfl, xMC_fr hM (fun a9 q1 q2 => xup_ne (by omega)), by rw [if_pos c9]; exact xup_eq, pn0, pn1, fun a9 q1 q2 => xup_ne q2⟩)

theorem d_Law_commonLength_0 : decode method_27_code 0 = .ok (.aload_n 3, 1) := by decide +kernel
theorem d_Law_commonLength_1 : decode method_27_code 1 = .ok (.iconst 0, 1) := by decide +kernel
theorem d_Law_commonLength_2 : decode method_27_code 2 = .ok (.aload_n 0, 1) := by decide +kernel
theorem d_Law_commonLength_3 : decode method_27_code 3 = .ok (.iload_n 1, 1) := by decide +kernel
theorem d_Law_commonLength_4 : decode method_27_code 4 = .ok (.iload_n 2, 1) := by decide +kernel
theorem d_Law_commonLength_5 : decode method_27_code 5 = .ok (.invokevirtual 98, 3) := by decide +kernel
theorem d_Law_commonLength_8 : decode method_27_code 8 = .ok (.i2l, 1) := by decide +kernel
theorem d_Law_commonLength_9 : decode method_27_code 9 = .ok (.lastore, 1) := by decide +kernel
theorem d_Law_commonLength_10 : decode method_27_code 10 = .ok (.goto 7, 3) := by decide +kernel
theorem d_Law_commonLength_13 : decode method_27_code 13 = .ok (.astore 4, 2) := by decide +kernel
theorem d_Law_commonLength_15 : decode method_27_code 15 = .ok (.iconst 1, 1) := by decide +kernel
theorem d_Law_commonLength_16 : decode method_27_code 16 = .ok (.ireturn, 1) := by decide +kernel
theorem d_Law_commonLength_17 : decode method_27_code 17 = .ok (.iconst 0, 1) := by decide +kernel
theorem d_Law_commonLength_18 : decode method_27_code 18 = .ok (.ireturn, 1) := by decide +kernel
set_option maxHeartbeats 4000000 in
set_option maxRecDepth 20000 in
theorem c_Law_commonLength {P : xP} {F : xF} {z : Nat} {b : Nat} {cm : cmT} {M : mcS} {a : Int32} {c : Int32} {o : Nat} {g0 : Nat → Int64} (hM : xMC F (cm) (b) (M)) (ho : F (o) = some (.inr (2, 1, fun b9 => .long (g0 b9)))) (hZx : xZx P) (hNx : xNx P) (hbo : o < b ∨ b + 566 ≤ o) : xMw P xy_Law_commonLength [(0, 10, 13, 28)] [.ref b, .int a, .int c, .ref o] F (z) 2 12 (fun r9 F9 z9 => (r9 = some (.int (nI 0)) ∧ xMC F9 (cm) (b) (M) ∧ F9 (o) = some (.inr (2, 1, fun b9 => .long (vp_updL g0 0 (((nI (lcs (mAt M.1 a).2.2.2 (mAt M.1 c).2.2.2 (mAt M.1 a).2.2.1 (mAt M.1 c).2.2.1))).toInt64) b9))) ∧ (mOk M.1 a) ∧ (mOk M.1 c) ∧ (∀ a9 : Nat, (a9 < b ∨ b + 566 ≤ a9) → a9 ≠ o → F9 a9 = F a9)) ∨ (r9 = some (.int (nI 1)) ∧ xMC F9 (cm) (b) (M) ∧ F9 (o) = some (.inr (2, 1, fun b9 => .long (g0 b9))) ∧ (¬ (mOk M.1 a ∧ mOk M.1 c)) ∧ (∀ a9 : Nat, (a9 < b ∨ b + 566 ≤ a9) → a9 ≠ o → F9 a9 = F a9))) := by
  refine xMw_i .int rfl (Nat.le_of_ble_eq_true rfl) (L0 := [some (.ref b), some (.int a), some (.int c), some (.ref o), none]) rfl rfl fun Θ hC hT hret => ?_
  refine x_aload_n hC d_Law_commonLength_0 rfl rfl ?_
  refine x_iconst hC d_Law_commonLength_1 (v := nI 0) (by decide) ?_
  refine x_aload_n hC d_Law_commonLength_2 rfl rfl ?_
  refine x_iload_n hC d_Law_commonLength_3 rfl rfl ?_
  refine x_iload_n hC d_Law_commonLength_4 rfl rfl ?_
  obtain ⟨b00, -⟩ := id hM
  refine x_callCV hC kv_Law_98 (c_MessageCoder_commonLength (hM := hM) (hZx := hZx)) b00 rfl rfl (Nat.le_of_ble_eq_true rfl) rfl rfl rfl (Nat.le_of_ble_eq_true rfl) (by decide) d_Law_commonLength_5 (fun E9 F9 z9 hp9 => ?_) (fun r9 F9 z9 hp9 => ?_)
  · skip
    rcases hp9 with ⟨rfl, hM9, hcond, hag9⟩
    · skip
      refine xH_at hC (name := "java/util/NoSuchElementException") [] ⟨0, 10, 13, 28⟩ [] (hT.trans rfl) (fun y hy => nomatch hy) rfl (by decide) (x_in (x_of (xtb_4 (List.mem_of_getElem? (i := 166) (by decide +kernel)))) (by decide +kernel)) (x_inN (xtb_4 (List.mem_of_getElem? (i := 175) (by decide +kernel))) (by decide +kernel)) (fun q9 => ?_)
      show xX P Θ 13 _ _ _ _ _ _
      refine x_astore hC d_Law_commonLength_13 (Nat.le_of_ble_eq_true rfl) (L1 := [some (.ref b), some (.int a), some (.int c), some (.ref o), some (.ref q9)]) rfl ?_
      refine x_iconst hC d_Law_commonLength_15 (v := nI 1) (by decide) ?_
      exact hret _ _ _ _ _ _ _ d_Law_commonLength_16 (by decide) (by decide) rfl (Or.inr (⟨rfl, hM9, (hag9 _ hbo).trans ho, hcond, fun a9 q1 _ => hag9 a9 q1⟩))
  · skip
    obtain ⟨rfl, rfl, hM9, pn0, pn1, hag9⟩ := hp9
    have ho9 := (hag9 _ hbo).trans ho
    refine x_i2l hC d_Law_commonLength_8 rfl ?_
    refine x_last hC ho9 (j := 0) ⟨rfl, by decide, by decide⟩ d_Law_commonLength_9 (g1 := vp_updL g0 0 (((nI (lcs (mAt M.1 a).2.2.2 (mAt M.1 c).2.2.2 (mAt M.1 a).2.2.1 (mAt M.1 c).2.2.1))).toInt64)) rfl ?_
    refine x_goto hC d_Law_commonLength_10 (tgt := 17) (by decide) ?_
    refine x_iconst hC d_Law_commonLength_17 (v := nI 0) (by decide) ?_
    exact hret _ _ _ _ _ _ _ d_Law_commonLength_18 (by decide) (by decide) rfl (Or.inl ⟨rfl, xMC_fr hM9 (fun a9 q1 q2 => xup_ne (by omega)), xup_eq, pn0, pn1, fun a9 q1 q2 => (xup_ne q2).trans (hag9 a9 q1)⟩)

theorem d_Law_frameBit_0 : decode method_28_code 0 = .ok (.aload_n 2, 1) := by decide +kernel
theorem d_Law_frameBit_1 : decode method_28_code 1 = .ok (.iconst 0, 1) := by decide +kernel
theorem d_Law_frameBit_2 : decode method_28_code 2 = .ok (.aload_n 0, 1) := by decide +kernel
theorem d_Law_frameBit_3 : decode method_28_code 3 = .ok (.iload_n 1, 1) := by decide +kernel
theorem d_Law_frameBit_4 : decode method_28_code 4 = .ok (.invokevirtual 101, 3) := by decide +kernel
theorem d_Law_frameBit_7 : decode method_28_code 7 = .ok (.i2l, 1) := by decide +kernel
theorem d_Law_frameBit_8 : decode method_28_code 8 = .ok (.lastore, 1) := by decide +kernel
theorem d_Law_frameBit_9 : decode method_28_code 9 = .ok (.goto 6, 3) := by decide +kernel
theorem d_Law_frameBit_12 : decode method_28_code 12 = .ok (.astore_n 3, 1) := by decide +kernel
theorem d_Law_frameBit_13 : decode method_28_code 13 = .ok (.iconst 1, 1) := by decide +kernel
theorem d_Law_frameBit_14 : decode method_28_code 14 = .ok (.ireturn, 1) := by decide +kernel
theorem d_Law_frameBit_15 : decode method_28_code 15 = .ok (.iconst 0, 1) := by decide +kernel
theorem d_Law_frameBit_16 : decode method_28_code 16 = .ok (.ireturn, 1) := by decide +kernel
set_option maxHeartbeats 4000000 in
set_option maxRecDepth 20000 in
theorem c_Law_frameBit {P : xP} {F : xF} {z : Nat} {b : Nat} {cm : cmT} {M : mcS} {i : Int32} {o : Nat} {g0 : Nat → Int64} (hM : xMC F (cm) (b) (M)) (ho : F (o) = some (.inr (2, 1, fun b9 => .long (g0 b9)))) (hZx : xZx P) (hNx : xNx P) (hbo : o < b ∨ b + 566 ≤ o) : xMw P xy_Law_frameBit [(0, 9, 12, 44)] [.ref b, .int i, .ref o] F (z) 1 6 (fun r9 F9 z9 => (r9 = some (.int (nI 0)) ∧ xMC F9 (cm) (b) (M) ∧ F9 (o) = some (.inr (2, 1, fun b9 => .long (vp_updL g0 0 (((nI (bitP (M.1.2.2.2.1.2.1 (i.toNatClampNeg / 7)) (i.toNatClampNeg % 7 + 1)))).toInt64) b9))) ∧ (0 ≤ i ∧ i < nI (M.1.2.2.2.1.1 * 7)) ∧ (∀ a9 : Nat, (a9 < b ∨ b + 566 ≤ a9) → a9 ≠ o → F9 a9 = F a9)) ∨ (r9 = some (.int (nI 1)) ∧ xMC F9 (cm) (b) (M) ∧ F9 (o) = some (.inr (2, 1, fun b9 => .long (g0 b9))) ∧ (¬ (0 ≤ i ∧ i < nI (M.1.2.2.2.1.1 * 7))) ∧ (∀ a9 : Nat, (a9 < b ∨ b + 566 ≤ a9) → a9 ≠ o → F9 a9 = F a9))) := by
  refine xMw_i .int rfl (Nat.le_of_ble_eq_true rfl) (L0 := [some (.ref b), some (.int i), some (.ref o), none]) rfl rfl fun Θ hC hT hret => ?_
  refine x_aload_n hC d_Law_frameBit_0 rfl rfl ?_
  refine x_iconst hC d_Law_frameBit_1 (v := nI 0) (by decide) ?_
  refine x_aload_n hC d_Law_frameBit_2 rfl rfl ?_
  refine x_iload_n hC d_Law_frameBit_3 rfl rfl ?_
  obtain ⟨b00, -⟩ := id hM
  refine x_callCV hC kv_Law_101 (c_MessageCoder_frameBit (hM := hM) (hZx := hZx)) b00 rfl rfl (Nat.le_of_ble_eq_true rfl) rfl rfl rfl (Nat.le_of_ble_eq_true rfl) (by decide) d_Law_frameBit_4 (fun E9 F9 z9 hp9 => ?_) (fun r9 F9 z9 hp9 => ?_)
  · skip
    rcases hp9 with ⟨rfl, rfl, hcond⟩
    · skip
      refine xH_at hC (name := "java/lang/IndexOutOfBoundsException") [] ⟨0, 9, 12, 44⟩ [] (hT.trans rfl) (fun y hy => nomatch hy) rfl (by decide) (x_in (x_of (xtb_4 (List.mem_of_getElem? (i := 220) (by decide +kernel)))) (by decide +kernel)) (x_inN (xtb_5 (List.mem_of_getElem? (i := 12) (by decide +kernel))) (by decide +kernel)) (fun q9 => ?_)
      show xX P Θ 12 _ _ _ _ _ _
      refine x_astore_n hC d_Law_frameBit_12 rfl (Nat.le_of_ble_eq_true rfl) (L1 := [some (.ref b), some (.int i), some (.ref o), some (.ref q9)]) rfl ?_
      refine x_iconst hC d_Law_frameBit_13 (v := nI 1) (by decide) ?_
      exact hret _ _ _ _ _ _ _ d_Law_frameBit_14 (by decide) (by decide) rfl (Or.inr (⟨rfl, hM, ho, hcond, fun a9 _ _ => rfl⟩))
  · skip
    obtain ⟨rfl, rfl, rfl, pn0⟩ := hp9
    refine x_i2l hC d_Law_frameBit_7 rfl ?_
    refine x_last hC ho (j := 0) ⟨rfl, by decide, by decide⟩ d_Law_frameBit_8 (g1 := vp_updL g0 0 (((nI (bitP (M.1.2.2.2.1.2.1 (i.toNatClampNeg / 7)) (i.toNatClampNeg % 7 + 1)))).toInt64)) rfl ?_
    refine x_goto hC d_Law_frameBit_9 (tgt := 15) (by decide) ?_
    refine x_iconst hC d_Law_frameBit_15 (v := nI 0) (by decide) ?_
    exact hret _ _ _ _ _ _ _ d_Law_frameBit_16 (by decide) (by decide) rfl (Or.inl ⟨rfl, xMC_fr hM (fun a9 q1 q2 => xup_ne (by omega)), xup_eq, pn0, fun a9 q1 q2 => xup_ne q2⟩)

theorem d_Law_syndrome_0 : decode method_29_code 0 = .ok (.aload_n 2, 1) := by decide +kernel
theorem d_Law_syndrome_1 : decode method_29_code 1 = .ok (.iconst 0, 1) := by decide +kernel
theorem d_Law_syndrome_2 : decode method_29_code 2 = .ok (.aload_n 0, 1) := by decide +kernel
theorem d_Law_syndrome_3 : decode method_29_code 3 = .ok (.iload_n 1, 1) := by decide +kernel
theorem d_Law_syndrome_4 : decode method_29_code 4 = .ok (.invokevirtual 104, 3) := by decide +kernel
theorem d_Law_syndrome_7 : decode method_29_code 7 = .ok (.i2l, 1) := by decide +kernel
theorem d_Law_syndrome_8 : decode method_29_code 8 = .ok (.lastore, 1) := by decide +kernel
theorem d_Law_syndrome_9 : decode method_29_code 9 = .ok (.goto 6, 3) := by decide +kernel
theorem d_Law_syndrome_12 : decode method_29_code 12 = .ok (.astore_n 3, 1) := by decide +kernel
theorem d_Law_syndrome_13 : decode method_29_code 13 = .ok (.iconst 1, 1) := by decide +kernel
theorem d_Law_syndrome_14 : decode method_29_code 14 = .ok (.ireturn, 1) := by decide +kernel
theorem d_Law_syndrome_15 : decode method_29_code 15 = .ok (.iconst 0, 1) := by decide +kernel
theorem d_Law_syndrome_16 : decode method_29_code 16 = .ok (.ireturn, 1) := by decide +kernel
set_option maxHeartbeats 4000000 in
set_option maxRecDepth 20000 in
theorem c_Law_syndrome {P : xP} {F : xF} {z : Nat} {b : Nat} {cm : cmT} {M : mcS} {i : Int32} {o : Nat} {g0 : Nat → Int64} (hM : xMC F (cm) (b) (M)) (ho : F (o) = some (.inr (2, 1, fun b9 => .long (g0 b9)))) (hZx : xZx P) (hNx : xNx P) (hbo : o < b ∨ b + 566 ≤ o) : xMw P xy_Law_syndrome [(0, 9, 12, 44)] [.ref b, .int i, .ref o] F (z) 1 6 (fun r9 F9 z9 => (r9 = some (.int (nI 0)) ∧ xMC F9 (cm) (b) (M) ∧ F9 (o) = some (.inr (2, 1, fun b9 => .long (vp_updL g0 0 (((nI (syn (M.1.2.2.2.1.2.1 i.toNatClampNeg)))).toInt64) b9))) ∧ (0 ≤ i ∧ i < nI M.1.2.2.2.1.1) ∧ (∀ a9 : Nat, (a9 < b ∨ b + 566 ≤ a9) → a9 ≠ o → F9 a9 = F a9)) ∨ (r9 = some (.int (nI 1)) ∧ xMC F9 (cm) (b) (M) ∧ F9 (o) = some (.inr (2, 1, fun b9 => .long (g0 b9))) ∧ (¬ (0 ≤ i ∧ i < nI M.1.2.2.2.1.1)) ∧ (∀ a9 : Nat, (a9 < b ∨ b + 566 ≤ a9) → a9 ≠ o → F9 a9 = F a9))) := by
  refine xMw_i .int rfl (Nat.le_of_ble_eq_true rfl) (L0 := [some (.ref b), some (.int i), some (.ref o), none]) rfl rfl fun Θ hC hT hret => ?_
  refine x_aload_n hC d_Law_syndrome_0 rfl rfl ?_
  refine x_iconst hC d_Law_syndrome_1 (v := nI 0) (by decide) ?_
  refine x_aload_n hC d_Law_syndrome_2 rfl rfl ?_
  refine x_iload_n hC d_Law_syndrome_3 rfl rfl ?_
  obtain ⟨b00, -⟩ := id hM
  refine x_callCV hC kv_Law_104 (c_MessageCoder_syndrome (hM := hM) (hZx := hZx)) b00 rfl rfl (Nat.le_of_ble_eq_true rfl) rfl rfl rfl (Nat.le_of_ble_eq_true rfl) (by decide) d_Law_syndrome_4 (fun E9 F9 z9 hp9 => ?_) (fun r9 F9 z9 hp9 => ?_)
  · skip
    rcases hp9 with ⟨rfl, rfl, hcond⟩
    · skip
      refine xH_at hC (name := "java/lang/IndexOutOfBoundsException") [] ⟨0, 9, 12, 44⟩ [] (hT.trans rfl) (fun y hy => nomatch hy) rfl (by decide) (x_in (x_of (xtb_4 (List.mem_of_getElem? (i := 220) (by decide +kernel)))) (by decide +kernel)) (x_inN (xtb_5 (List.mem_of_getElem? (i := 12) (by decide +kernel))) (by decide +kernel)) (fun q9 => ?_)
      show xX P Θ 12 _ _ _ _ _ _
      refine x_astore_n hC d_Law_syndrome_12 rfl (Nat.le_of_ble_eq_true rfl) (L1 := [some (.ref b), some (.int i), some (.ref o), some (.ref q9)]) rfl ?_
      refine x_iconst hC d_Law_syndrome_13 (v := nI 1) (by decide) ?_
      exact hret _ _ _ _ _ _ _ d_Law_syndrome_14 (by decide) (by decide) rfl (Or.inr (⟨rfl, hM, ho, hcond, fun a9 _ _ => rfl⟩))
  · skip
    obtain ⟨rfl, rfl, rfl, pn0⟩ := hp9
    refine x_i2l hC d_Law_syndrome_7 rfl ?_
    refine x_last hC ho (j := 0) ⟨rfl, by decide, by decide⟩ d_Law_syndrome_8 (g1 := vp_updL g0 0 (((nI (syn (M.1.2.2.2.1.2.1 i.toNatClampNeg)))).toInt64)) rfl ?_
    refine x_goto hC d_Law_syndrome_9 (tgt := 15) (by decide) ?_
    refine x_iconst hC d_Law_syndrome_15 (v := nI 0) (by decide) ?_
    exact hret _ _ _ _ _ _ _ d_Law_syndrome_16 (by decide) (by decide) rfl (Or.inl ⟨rfl, xMC_fr hM (fun a9 q1 q2 => xup_ne (by omega)), xup_eq, pn0, fun a9 q1 q2 => xup_ne q2⟩)

theorem d_Law_correctedBits_0 : decode method_30_code 0 = .ok (.aload_n 2, 1) := by decide +kernel
theorem d_Law_correctedBits_1 : decode method_30_code 1 = .ok (.iconst 0, 1) := by decide +kernel
theorem d_Law_correctedBits_2 : decode method_30_code 2 = .ok (.aload_n 0, 1) := by decide +kernel
theorem d_Law_correctedBits_3 : decode method_30_code 3 = .ok (.iload_n 1, 1) := by decide +kernel
theorem d_Law_correctedBits_4 : decode method_30_code 4 = .ok (.invokevirtual 107, 3) := by decide +kernel
theorem d_Law_correctedBits_7 : decode method_30_code 7 = .ok (.i2l, 1) := by decide +kernel
theorem d_Law_correctedBits_8 : decode method_30_code 8 = .ok (.lastore, 1) := by decide +kernel
theorem d_Law_correctedBits_9 : decode method_30_code 9 = .ok (.goto 6, 3) := by decide +kernel
theorem d_Law_correctedBits_12 : decode method_30_code 12 = .ok (.astore_n 3, 1) := by decide +kernel
theorem d_Law_correctedBits_13 : decode method_30_code 13 = .ok (.iconst 1, 1) := by decide +kernel
theorem d_Law_correctedBits_14 : decode method_30_code 14 = .ok (.ireturn, 1) := by decide +kernel
theorem d_Law_correctedBits_15 : decode method_30_code 15 = .ok (.iconst 0, 1) := by decide +kernel
theorem d_Law_correctedBits_16 : decode method_30_code 16 = .ok (.ireturn, 1) := by decide +kernel
set_option maxHeartbeats 4000000 in
set_option maxRecDepth 20000 in
theorem c_Law_correctedBits {P : xP} {F : xF} {z : Nat} {b : Nat} {cm : cmT} {M : mcS} {i : Int32} {o : Nat} {g0 : Nat → Int64} (hM : xMC F (cm) (b) (M)) (ho : F (o) = some (.inr (2, 1, fun b9 => .long (g0 b9)))) (hZx : xZx P) (hNx : xNx P) (hbo : o < b ∨ b + 566 ≤ o) : xMw P xy_Law_correctedBits [(0, 9, 12, 44)] [.ref b, .int i, .ref o] F (z) 1 6 (fun r9 F9 z9 => (r9 = some (.int (nI 0)) ∧ xMC F9 (cm) (b) (M) ∧ F9 (o) = some (.inr (2, 1, fun b9 => .long (vp_updL g0 0 (((nI (datN (corN (M.1.2.2.2.1.2.1 i.toNatClampNeg))))).toInt64) b9))) ∧ (0 ≤ i ∧ i < nI M.1.2.2.2.1.1) ∧ (∀ a9 : Nat, (a9 < b ∨ b + 566 ≤ a9) → a9 ≠ o → F9 a9 = F a9)) ∨ (r9 = some (.int (nI 1)) ∧ xMC F9 (cm) (b) (M) ∧ F9 (o) = some (.inr (2, 1, fun b9 => .long (g0 b9))) ∧ (¬ (0 ≤ i ∧ i < nI M.1.2.2.2.1.1)) ∧ (∀ a9 : Nat, (a9 < b ∨ b + 566 ≤ a9) → a9 ≠ o → F9 a9 = F a9))) := by
  refine xMw_i .int rfl (Nat.le_of_ble_eq_true rfl) (L0 := [some (.ref b), some (.int i), some (.ref o), none]) rfl rfl fun Θ hC hT hret => ?_
  refine x_aload_n hC d_Law_correctedBits_0 rfl rfl ?_
  refine x_iconst hC d_Law_correctedBits_1 (v := nI 0) (by decide) ?_
  refine x_aload_n hC d_Law_correctedBits_2 rfl rfl ?_
  refine x_iload_n hC d_Law_correctedBits_3 rfl rfl ?_
  obtain ⟨b00, -⟩ := id hM
  refine x_callCV hC kv_Law_107 (c_MessageCoder_correctedBits (hM := hM) (hZx := hZx)) b00 rfl rfl (Nat.le_of_ble_eq_true rfl) rfl rfl rfl (Nat.le_of_ble_eq_true rfl) (by decide) d_Law_correctedBits_4 (fun E9 F9 z9 hp9 => ?_) (fun r9 F9 z9 hp9 => ?_)
  · skip
    rcases hp9 with ⟨rfl, rfl, hcond⟩
    · skip
      refine xH_at hC (name := "java/lang/IndexOutOfBoundsException") [] ⟨0, 9, 12, 44⟩ [] (hT.trans rfl) (fun y hy => nomatch hy) rfl (by decide) (x_in (x_of (xtb_4 (List.mem_of_getElem? (i := 220) (by decide +kernel)))) (by decide +kernel)) (x_inN (xtb_5 (List.mem_of_getElem? (i := 12) (by decide +kernel))) (by decide +kernel)) (fun q9 => ?_)
      show xX P Θ 12 _ _ _ _ _ _
      refine x_astore_n hC d_Law_correctedBits_12 rfl (Nat.le_of_ble_eq_true rfl) (L1 := [some (.ref b), some (.int i), some (.ref o), some (.ref q9)]) rfl ?_
      refine x_iconst hC d_Law_correctedBits_13 (v := nI 1) (by decide) ?_
      exact hret _ _ _ _ _ _ _ d_Law_correctedBits_14 (by decide) (by decide) rfl (Or.inr (⟨rfl, hM, ho, hcond, fun a9 _ _ => rfl⟩))
  · skip
    obtain ⟨rfl, rfl, rfl, pn0⟩ := hp9
    refine x_i2l hC d_Law_correctedBits_7 rfl ?_
    refine x_last hC ho (j := 0) ⟨rfl, by decide, by decide⟩ d_Law_correctedBits_8 (g1 := vp_updL g0 0 (((nI (datN (corN (M.1.2.2.2.1.2.1 i.toNatClampNeg))))).toInt64)) rfl ?_
    refine x_goto hC d_Law_correctedBits_9 (tgt := 15) (by decide) ?_
    refine x_iconst hC d_Law_correctedBits_15 (v := nI 0) (by decide) ?_
    exact hret _ _ _ _ _ _ _ d_Law_correctedBits_16 (by decide) (by decide) rfl (Or.inl ⟨rfl, xMC_fr hM (fun a9 q1 q2 => xup_ne (by omega)), xup_eq, pn0, fun a9 q1 q2 => xup_ne q2⟩)

theorem d_Law_correctedBitsByDistance_0 : decode method_31_code 0 = .ok (.aload_n 2, 1) := by decide +kernel
theorem d_Law_correctedBitsByDistance_1 : decode method_31_code 1 = .ok (.iconst 0, 1) := by decide +kernel
theorem d_Law_correctedBitsByDistance_2 : decode method_31_code 2 = .ok (.aload_n 0, 1) := by decide +kernel
theorem d_Law_correctedBitsByDistance_3 : decode method_31_code 3 = .ok (.iload_n 1, 1) := by decide +kernel
theorem d_Law_correctedBitsByDistance_4 : decode method_31_code 4 = .ok (.invokevirtual 110, 3) := by decide +kernel
theorem d_Law_correctedBitsByDistance_7 : decode method_31_code 7 = .ok (.i2l, 1) := by decide +kernel
theorem d_Law_correctedBitsByDistance_8 : decode method_31_code 8 = .ok (.lastore, 1) := by decide +kernel
theorem d_Law_correctedBitsByDistance_9 : decode method_31_code 9 = .ok (.goto 6, 3) := by decide +kernel
theorem d_Law_correctedBitsByDistance_12 : decode method_31_code 12 = .ok (.astore_n 3, 1) := by decide +kernel
theorem d_Law_correctedBitsByDistance_13 : decode method_31_code 13 = .ok (.iconst 1, 1) := by decide +kernel
theorem d_Law_correctedBitsByDistance_14 : decode method_31_code 14 = .ok (.ireturn, 1) := by decide +kernel
theorem d_Law_correctedBitsByDistance_15 : decode method_31_code 15 = .ok (.iconst 0, 1) := by decide +kernel
theorem d_Law_correctedBitsByDistance_16 : decode method_31_code 16 = .ok (.ireturn, 1) := by decide +kernel
set_option maxHeartbeats 4000000 in
set_option maxRecDepth 20000 in
theorem c_Law_correctedBitsByDistance {P : xP} {F : xF} {z : Nat} {b : Nat} {cm : cmT} {M : mcS} {i : Int32} {o : Nat} {g0 : Nat → Int64} (hM : xMC F (cm) (b) (M)) (ho : F (o) = some (.inr (2, 1, fun b9 => .long (g0 b9)))) (hZx : xZx P) (hNx : xNx P) (hbo : o < b ∨ b + 566 ≤ o) : xMw P xy_Law_correctedBitsByDistance [(0, 9, 12, 44)] [.ref b, .int i, .ref o] F (z) 1 6 (fun r9 F9 z9 => (r9 = some (.int (nI 0)) ∧ xMC F9 (cm) (b) (M) ∧ F9 (o) = some (.inr (2, 1, fun b9 => .long (vp_updL g0 0 (((nI (datN (corN (M.1.2.2.2.1.2.1 i.toNatClampNeg))))).toInt64) b9))) ∧ (0 ≤ i ∧ i < nI M.1.2.2.2.1.1) ∧ (∀ a9 : Nat, (a9 < b ∨ b + 566 ≤ a9) → a9 ≠ o → F9 a9 = F a9)) ∨ (r9 = some (.int (nI 1)) ∧ xMC F9 (cm) (b) (M) ∧ F9 (o) = some (.inr (2, 1, fun b9 => .long (g0 b9))) ∧ (¬ (0 ≤ i ∧ i < nI M.1.2.2.2.1.1)) ∧ (∀ a9 : Nat, (a9 < b ∨ b + 566 ≤ a9) → a9 ≠ o → F9 a9 = F a9))) := by
  refine xMw_i .int rfl (Nat.le_of_ble_eq_true rfl) (L0 := [some (.ref b), some (.int i), some (.ref o), none]) rfl rfl fun Θ hC hT hret => ?_
  refine x_aload_n hC d_Law_correctedBitsByDistance_0 rfl rfl ?_
  refine x_iconst hC d_Law_correctedBitsByDistance_1 (v := nI 0) (by decide) ?_
  refine x_aload_n hC d_Law_correctedBitsByDistance_2 rfl rfl ?_
  refine x_iload_n hC d_Law_correctedBitsByDistance_3 rfl rfl ?_
  obtain ⟨b00, -⟩ := id hM
  refine x_callCV hC kv_Law_110 (c_MessageCoder_correctedBitsByDistance (hM := hM) (hZx := hZx)) b00 rfl rfl (Nat.le_of_ble_eq_true rfl) rfl rfl rfl (Nat.le_of_ble_eq_true rfl) (by decide) d_Law_correctedBitsByDistance_4 (fun E9 F9 z9 hp9 => ?_) (fun r9 F9 z9 hp9 => ?_)
  · skip
    rcases hp9 with ⟨rfl, rfl, hcond⟩
    · skip
      refine xH_at hC (name := "java/lang/IndexOutOfBoundsException") [] ⟨0, 9, 12, 44⟩ [] (hT.trans rfl) (fun y hy => nomatch hy) rfl (by decide) (x_in (x_of (xtb_4 (List.mem_of_getElem? (i := 220) (by decide +kernel)))) (by decide +kernel)) (x_inN (xtb_5 (List.mem_of_getElem? (i := 12) (by decide +kernel))) (by decide +kernel)) (fun q9 => ?_)
      show xX P Θ 12 _ _ _ _ _ _
      refine x_astore_n hC d_Law_correctedBitsByDistance_12 rfl (Nat.le_of_ble_eq_true rfl) (L1 := [some (.ref b), some (.int i), some (.ref o), some (.ref q9)]) rfl ?_
      refine x_iconst hC d_Law_correctedBitsByDistance_13 (v := nI 1) (by decide) ?_
      exact hret _ _ _ _ _ _ _ d_Law_correctedBitsByDistance_14 (by decide) (by decide) rfl (Or.inr (⟨rfl, hM, ho, hcond, fun a9 _ _ => rfl⟩))
  · skip
    obtain ⟨rfl, rfl, rfl, pn0⟩ := hp9
    refine x_i2l hC d_Law_correctedBitsByDistance_7 rfl ?_
    refine x_last hC ho (j := 0) ⟨rfl, by decide, by decide⟩ d_Law_correctedBitsByDistance_8 (g1 := vp_updL g0 0 (((nI (datN (corN (M.1.2.2.2.1.2.1 i.toNatClampNeg))))).toInt64)) rfl ?_
    refine x_goto hC d_Law_correctedBitsByDistance_9 (tgt := 15) (by decide) ?_
    refine x_iconst hC d_Law_correctedBitsByDistance_15 (v := nI 0) (by decide) ?_
    exact hret _ _ _ _ _ _ _ d_Law_correctedBitsByDistance_16 (by decide) (by decide) rfl (Or.inl ⟨rfl, xMC_fr hM (fun a9 q1 q2 => xup_ne (by omega)), xup_eq, pn0, fun a9 q1 q2 => xup_ne q2⟩)

theorem d_Law_isIntact_0 : decode method_32_code 0 = .ok (.aload_n 1, 1) := by decide +kernel
theorem d_Law_isIntact_1 : decode method_32_code 1 = .ok (.iconst 0, 1) := by decide +kernel
theorem d_Law_isIntact_2 : decode method_32_code 2 = .ok (.aload_n 0, 1) := by decide +kernel
theorem d_Law_isIntact_3 : decode method_32_code 3 = .ok (.invokevirtual 113, 3) := by decide +kernel
theorem d_Law_isIntact_6 : decode method_32_code 6 = .ok (.ifCond .eq 7, 3) := by decide +kernel
theorem d_Law_isIntact_9 : decode method_32_code 9 = .ok (.lconst 1, 1) := by decide +kernel
theorem d_Law_isIntact_10 : decode method_32_code 10 = .ok (.goto 4, 3) := by decide +kernel
theorem d_Law_isIntact_13 : decode method_32_code 13 = .ok (.lconst 0, 1) := by decide +kernel
theorem d_Law_isIntact_14 : decode method_32_code 14 = .ok (.lastore, 1) := by decide +kernel
theorem d_Law_isIntact_15 : decode method_32_code 15 = .ok (.goto 6, 3) := by decide +kernel
theorem d_Law_isIntact_18 : decode method_32_code 18 = .ok (.astore_n 2, 1) := by decide +kernel
theorem d_Law_isIntact_19 : decode method_32_code 19 = .ok (.iconst 1, 1) := by decide +kernel
theorem d_Law_isIntact_20 : decode method_32_code 20 = .ok (.ireturn, 1) := by decide +kernel
theorem d_Law_isIntact_21 : decode method_32_code 21 = .ok (.iconst 0, 1) := by decide +kernel
theorem d_Law_isIntact_22 : decode method_32_code 22 = .ok (.ireturn, 1) := by decide +kernel
set_option maxHeartbeats 4000000 in
set_option maxRecDepth 20000 in
theorem c_Law_isIntact {P : xP} {F : xF} {z : Nat} {b : Nat} {cm : cmT} {M : mcS} {o : Nat} {g0 : Nat → Int64} (hM : xMC F (cm) (b) (M)) (ho : F (o) = some (.inr (2, 1, fun b9 => .long (g0 b9)))) (hZx : xZx P) (hNx : xNx P) (hbo : o < b ∨ b + 566 ≤ o) : xMw P xy_Law_isIntact [(0, 15, 18, 28)] [.ref b, .ref o] F (z) 1 6 (fun r9 F9 z9 => (r9 = some (.int (nI 0)) ∧ xMC F9 (cm) (b) (M) ∧ F9 (o) = some (.inr (2, 1, fun b9 => .long (vp_updL g0 0 (if sameA M.1 then 1 else 0) b9))) ∧ (0 < M.1.2.2.2.1.1) ∧ (∀ a9 : Nat, (a9 < b ∨ b + 566 ≤ a9) → a9 ≠ o → F9 a9 = F a9)) ∨ (r9 = some (.int (nI 1)) ∧ xMC F9 (cm) (b) (M) ∧ F9 (o) = some (.inr (2, 1, fun b9 => .long (g0 b9))) ∧ (¬ 0 < M.1.2.2.2.1.1) ∧ (∀ a9 : Nat, (a9 < b ∨ b + 566 ≤ a9) → a9 ≠ o → F9 a9 = F a9))) := by
  refine xMw_i .int rfl (Nat.le_of_ble_eq_true rfl) (L0 := [some (.ref b), some (.ref o), none]) rfl rfl fun Θ hC hT hret => ?_
  refine x_aload_n hC d_Law_isIntact_0 rfl rfl ?_
  refine x_iconst hC d_Law_isIntact_1 (v := nI 0) (by decide) ?_
  refine x_aload_n hC d_Law_isIntact_2 rfl rfl ?_
  obtain ⟨b00, -⟩ := id hM
  refine x_callCV hC kv_Law_113 (c_MessageCoder_isIntact (hM := hM) (hZx := hZx)) b00 rfl rfl (Nat.le_of_ble_eq_true rfl) rfl rfl rfl (Nat.le_of_ble_eq_true rfl) (by decide) d_Law_isIntact_3 (fun E9 F9 z9 hp9 => ?_) (fun r9 F9 z9 hp9 => ?_)
  · skip
    rcases hp9 with ⟨rfl, hM9, hcond, hag9⟩
    · skip
      refine xH_at hC (name := "java/util/NoSuchElementException") [] ⟨0, 15, 18, 28⟩ [] (hT.trans rfl) (fun y hy => nomatch hy) rfl (by decide) (x_in (x_of (xtb_4 (List.mem_of_getElem? (i := 166) (by decide +kernel)))) (by decide +kernel)) (x_inN (xtb_4 (List.mem_of_getElem? (i := 175) (by decide +kernel))) (by decide +kernel)) (fun q9 => ?_)
      show xX P Θ 18 _ _ _ _ _ _
      refine x_astore_n hC d_Law_isIntact_18 rfl (Nat.le_of_ble_eq_true rfl) (L1 := [some (.ref b), some (.ref o), some (.ref q9)]) rfl ?_
      refine x_iconst hC d_Law_isIntact_19 (v := nI 1) (by decide) ?_
      exact hret _ _ _ _ _ _ _ d_Law_isIntact_20 (by decide) (by decide) rfl (Or.inr (⟨rfl, hM9, (hag9 _ hbo).trans ho, hcond, fun a9 q1 _ => hag9 a9 q1⟩))
  · skip
    obtain ⟨rfl, rfl, hM9, pn0, hag9⟩ := hp9
    have ho9 := (hag9 _ hbo).trans ho
    refine x_ifB_eq hC d_Law_isIntact_6 (tgt := 13) (by decide) (fun c9 => ?_) (fun c9 => ?_)
    · skip
      refine x_lconst hC d_Law_isIntact_13 (v := 0) rfl ?_
      refine x_last hC ho9 (j := 0) ⟨rfl, by decide, by decide⟩ d_Law_isIntact_14 (g1 := vp_updL g0 0 (0)) rfl ?_
      refine x_goto hC d_Law_isIntact_15 (tgt := 21) (by decide) ?_
      refine x_iconst hC d_Law_isIntact_21 (v := nI 0) (by decide) ?_
      exact hret _ _ _ _ _ _ _ d_Law_isIntact_22 (by decide) (by decide) rfl (Or.inl ⟨rfl, xMC_fr hM9 (fun a9 q1 q2 => xup_ne (by omega)), by rw [if_neg c9]; exact xup_eq, pn0, fun a9 q1 q2 => (xup_ne q2).trans (hag9 a9 q1)⟩)
    · skip
      refine x_lconst hC d_Law_isIntact_9 (v := 1) rfl ?_
      refine x_goto hC d_Law_isIntact_10 (tgt := 14) (by decide) ?_
      refine x_last hC ho9 (j := 0) ⟨rfl, by decide, by decide⟩ d_Law_isIntact_14 (g1 := vp_updL g0 0 (1)) rfl ?_
      refine x_goto hC d_Law_isIntact_15 (tgt := 21) (by decide) ?_
      refine x_iconst hC d_Law_isIntact_21 (v := nI 0) (by decide) ?_
      exact hret _ _ _ _ _ _ _ d_Law_isIntact_22 (by decide) (by decide) rfl (Or.inl ⟨rfl, xMC_fr hM9 (fun a9 q1 q2 => xup_ne (by omega)), by rw [if_pos c9]; exact xup_eq, pn0, fun a9 q1 q2 => (xup_ne q2).trans (hag9 a9 q1)⟩)

theorem d_Law_receivedAt_0 : decode method_33_code 0 = .ok (.aload_n 2, 1) := by decide +kernel
theorem d_Law_receivedAt_1 : decode method_33_code 1 = .ok (.iconst 0, 1) := by decide +kernel
theorem d_Law_receivedAt_2 : decode method_33_code 2 = .ok (.aload_n 0, 1) := by decide +kernel
theorem d_Law_receivedAt_3 : decode method_33_code 3 = .ok (.iload_n 1, 1) := by decide +kernel
theorem d_Law_receivedAt_4 : decode method_33_code 4 = .ok (.invokevirtual 117, 3) := by decide +kernel
theorem d_Law_receivedAt_7 : decode method_33_code 7 = .ok (.i2l, 1) := by decide +kernel
theorem d_Law_receivedAt_8 : decode method_33_code 8 = .ok (.lastore, 1) := by decide +kernel
theorem d_Law_receivedAt_9 : decode method_33_code 9 = .ok (.goto 6, 3) := by decide +kernel
theorem d_Law_receivedAt_12 : decode method_33_code 12 = .ok (.astore_n 3, 1) := by decide +kernel
theorem d_Law_receivedAt_13 : decode method_33_code 13 = .ok (.iconst 1, 1) := by decide +kernel
theorem d_Law_receivedAt_14 : decode method_33_code 14 = .ok (.ireturn, 1) := by decide +kernel
theorem d_Law_receivedAt_15 : decode method_33_code 15 = .ok (.iconst 0, 1) := by decide +kernel
theorem d_Law_receivedAt_16 : decode method_33_code 16 = .ok (.ireturn, 1) := by decide +kernel
set_option maxHeartbeats 4000000 in
set_option maxRecDepth 20000 in
theorem c_Law_receivedAt {P : xP} {F : xF} {z : Nat} {b : Nat} {cm : cmT} {M : mcS} {i : Int32} {o : Nat} {g0 : Nat → Int64} (hM : xMC F (cm) (b) (M)) (ho : F (o) = some (.inr (2, 1, fun b9 => .long (g0 b9)))) (hZx : xZx P) (hNx : xNx P) (hbo : o < b ∨ b + 566 ≤ o) : xMw P xy_Law_receivedAt [(0, 9, 12, 44)] [.ref b, .int i, .ref o] F (z) 1 6 (fun r9 F9 z9 => (r9 = some (.int (nI 0)) ∧ xMC F9 (cm) (b) (M) ∧ F9 (o) = some (.inr (2, 1, fun b9 => .long (vp_updL g0 0 (((nI (M.1.2.2.2.2.1.2 i.toNatClampNeg))).toInt64) b9))) ∧ (0 ≤ i ∧ i < nI M.1.2.2.2.2.1.1) ∧ (∀ a9 : Nat, (a9 < b ∨ b + 566 ≤ a9) → a9 ≠ o → F9 a9 = F a9)) ∨ (r9 = some (.int (nI 1)) ∧ xMC F9 (cm) (b) (M) ∧ F9 (o) = some (.inr (2, 1, fun b9 => .long (g0 b9))) ∧ (¬ (0 ≤ i ∧ i < nI M.1.2.2.2.2.1.1)) ∧ (∀ a9 : Nat, (a9 < b ∨ b + 566 ≤ a9) → a9 ≠ o → F9 a9 = F a9))) := by
  refine xMw_i .int rfl (Nat.le_of_ble_eq_true rfl) (L0 := [some (.ref b), some (.int i), some (.ref o), none]) rfl rfl fun Θ hC hT hret => ?_
  refine x_aload_n hC d_Law_receivedAt_0 rfl rfl ?_
  refine x_iconst hC d_Law_receivedAt_1 (v := nI 0) (by decide) ?_
  refine x_aload_n hC d_Law_receivedAt_2 rfl rfl ?_
  refine x_iload_n hC d_Law_receivedAt_3 rfl rfl ?_
  obtain ⟨b00, -⟩ := id hM
  refine x_callCV hC kv_Law_117 (c_MessageCoder_receivedAt (hM := hM) (hZx := hZx)) b00 rfl rfl (Nat.le_of_ble_eq_true rfl) rfl rfl rfl (Nat.le_of_ble_eq_true rfl) (by decide) d_Law_receivedAt_4 (fun E9 F9 z9 hp9 => ?_) (fun r9 F9 z9 hp9 => ?_)
  · skip
    rcases hp9 with ⟨rfl, rfl, hcond⟩
    · skip
      refine xH_at hC (name := "java/lang/IndexOutOfBoundsException") [] ⟨0, 9, 12, 44⟩ [] (hT.trans rfl) (fun y hy => nomatch hy) rfl (by decide) (x_in (x_of (xtb_4 (List.mem_of_getElem? (i := 220) (by decide +kernel)))) (by decide +kernel)) (x_inN (xtb_5 (List.mem_of_getElem? (i := 12) (by decide +kernel))) (by decide +kernel)) (fun q9 => ?_)
      show xX P Θ 12 _ _ _ _ _ _
      refine x_astore_n hC d_Law_receivedAt_12 rfl (Nat.le_of_ble_eq_true rfl) (L1 := [some (.ref b), some (.int i), some (.ref o), some (.ref q9)]) rfl ?_
      refine x_iconst hC d_Law_receivedAt_13 (v := nI 1) (by decide) ?_
      exact hret _ _ _ _ _ _ _ d_Law_receivedAt_14 (by decide) (by decide) rfl (Or.inr (⟨rfl, hM, ho, hcond, fun a9 _ _ => rfl⟩))
  · skip
    obtain ⟨rfl, rfl, rfl, pn0⟩ := hp9
    refine x_i2l hC d_Law_receivedAt_7 rfl ?_
    refine x_last hC ho (j := 0) ⟨rfl, by decide, by decide⟩ d_Law_receivedAt_8 (g1 := vp_updL g0 0 (((nI (M.1.2.2.2.2.1.2 i.toNatClampNeg))).toInt64)) rfl ?_
    refine x_goto hC d_Law_receivedAt_9 (tgt := 15) (by decide) ?_
    refine x_iconst hC d_Law_receivedAt_15 (v := nI 0) (by decide) ?_
    exact hret _ _ _ _ _ _ _ d_Law_receivedAt_16 (by decide) (by decide) rfl (Or.inl ⟨rfl, xMC_fr hM (fun a9 q1 q2 => xup_ne (by omega)), xup_eq, pn0, fun a9 q1 q2 => xup_ne q2⟩)

theorem d_Law_failedShare_0 : decode method_34_code 0 = .ok (.aload_n 1, 1) := by decide +kernel
theorem d_Law_failedShare_1 : decode method_34_code 1 = .ok (.iconst 0, 1) := by decide +kernel
theorem d_Law_failedShare_2 : decode method_34_code 2 = .ok (.aload_n 0, 1) := by decide +kernel
theorem d_Law_failedShare_3 : decode method_34_code 3 = .ok (.invokevirtual 120, 3) := by decide +kernel
theorem d_Law_failedShare_6 : decode method_34_code 6 = .ok (.f2d, 1) := by decide +kernel
theorem d_Law_failedShare_7 : decode method_34_code 7 = .ok (.dastore, 1) := by decide +kernel
theorem d_Law_failedShare_8 : decode method_34_code 8 = .ok (.goto 6, 3) := by decide +kernel
theorem d_Law_failedShare_11 : decode method_34_code 11 = .ok (.astore_n 2, 1) := by decide +kernel
theorem d_Law_failedShare_12 : decode method_34_code 12 = .ok (.iconst 1, 1) := by decide +kernel
theorem d_Law_failedShare_13 : decode method_34_code 13 = .ok (.ireturn, 1) := by decide +kernel
theorem d_Law_failedShare_14 : decode method_34_code 14 = .ok (.iconst 0, 1) := by decide +kernel
theorem d_Law_failedShare_15 : decode method_34_code 15 = .ok (.ireturn, 1) := by decide +kernel
set_option maxHeartbeats 4000000 in
set_option maxRecDepth 20000 in
theorem c_Law_failedShare {P : xP} {F : xF} {z : Nat} {b : Nat} {cm : cmT} {M : mcS} {o : Nat} {g0 : Nat → UInt64} (hM : xMC F (cm) (b) (M)) (ho : F (o) = some (.inr (3, 1, fun b9 => .double (g0 b9)))) (hZx : xZx P) (hg0 : M.1.2.2.2.2.2.2.1 < 1000) (hf0 : M.1.2.2.2.2.2.2.2.2 < 1000) (hNx : xNx P) (hbo : o < b ∨ b + 566 ≤ o) : xMw P xy_Law_failedShare [(0, 8, 11, 124)] [.ref b, .ref o] F (z) 1 6 (fun r9 F9 z9 => (r9 = some (.int (nI 0)) ∧ xMC F9 (cm) (b) (M) ∧ F9 (o) = some (.inr (3, 1, fun b9 => .double (vf_upd g0 0 (FP.f2d (FP.fdiv (FP.i2f (nI (M.1.2.2.2.2.2.2.2.2))) (FP.i2f (nI (M.1.2.2.2.2.2.2.1))))) b9))) ∧ (0 < M.1.2.2.2.2.2.2.1) ∧ (∀ a9 : Nat, (a9 < b ∨ b + 566 ≤ a9) → a9 ≠ o → F9 a9 = F a9)) ∨ (r9 = some (.int (nI 1)) ∧ xMC F9 (cm) (b) (M) ∧ F9 (o) = some (.inr (3, 1, fun b9 => .double (g0 b9))) ∧ (M.1.2.2.2.2.2.2.1 = 0) ∧ (∀ a9 : Nat, (a9 < b ∨ b + 566 ≤ a9) → a9 ≠ o → F9 a9 = F a9))) := by
  refine xMw_i .int rfl (Nat.le_of_ble_eq_true rfl) (L0 := [some (.ref b), some (.ref o), none]) rfl rfl fun Θ hC hT hret => ?_
  refine x_aload_n hC d_Law_failedShare_0 rfl rfl ?_
  refine x_iconst hC d_Law_failedShare_1 (v := nI 0) (by decide) ?_
  refine x_aload_n hC d_Law_failedShare_2 rfl rfl ?_
  obtain ⟨b00, -⟩ := id hM
  refine x_callCV hC kv_Law_120 (c_MessageCoder_failedShare (hM := hM) (hZx := hZx) (hg0 := hg0) (hf0 := hf0)) b00 rfl rfl (Nat.le_of_ble_eq_true rfl) rfl rfl rfl (Nat.le_of_ble_eq_true rfl) (by decide) d_Law_failedShare_3 (fun E9 F9 z9 hp9 => ?_) (fun r9 F9 z9 hp9 => ?_)
  · skip
    rcases hp9 with ⟨rfl, rfl, hcond⟩
    · skip
      refine xH_at hC (name := "java/lang/ArithmeticException") [] ⟨0, 8, 11, 124⟩ [] (hT.trans rfl) (fun y hy => nomatch hy) rfl (by decide) (x_in (x_of (xtb_5 (List.mem_of_getElem? (i := 231) (by decide +kernel)))) (by decide +kernel)) (x_inN (xtb_6 (List.mem_of_getElem? (i := 3) (by decide +kernel))) (by decide +kernel)) (fun q9 => ?_)
      show xX P Θ 11 _ _ _ _ _ _
      refine x_astore_n hC d_Law_failedShare_11 rfl (Nat.le_of_ble_eq_true rfl) (L1 := [some (.ref b), some (.ref o), some (.ref q9)]) rfl ?_
      refine x_iconst hC d_Law_failedShare_12 (v := nI 1) (by decide) ?_
      exact hret _ _ _ _ _ _ _ d_Law_failedShare_13 (by decide) (by decide) rfl (Or.inr (⟨rfl, hM, ho, hcond, fun a9 _ _ => rfl⟩))
  · skip
    obtain ⟨rfl, rfl, rfl, pn0⟩ := hp9
    refine x_f2d hC d_Law_failedShare_6 (fl_n64 (fl_f2dJ (fl_fdiv hf0 hg0 pn0))) ?_
    refine x_dast hC ho (j := 0) ⟨rfl, by decide, by decide⟩ d_Law_failedShare_7 (g1 := vf_upd g0 0 (FP.f2d (FP.fdiv (FP.i2f (nI (M.1.2.2.2.2.2.2.2.2))) (FP.i2f (nI (M.1.2.2.2.2.2.2.1)))))) rfl ?_
    refine x_goto hC d_Law_failedShare_8 (tgt := 14) (by decide) ?_
    refine x_iconst hC d_Law_failedShare_14 (v := nI 0) (by decide) ?_
    exact hret _ _ _ _ _ _ _ d_Law_failedShare_15 (by decide) (by decide) rfl (Or.inl ⟨rfl, xMC_fr hM (fun a9 q1 q2 => xup_ne (by omega)), xup_eq, pn0, fun a9 q1 q2 => xup_ne q2⟩)

theorem d_Law_formatMessage_0 : decode method_35_code 0 = .ok (.aload_n 2, 1) := by decide +kernel
theorem d_Law_formatMessage_1 : decode method_35_code 1 = .ok (.iconst 0, 1) := by decide +kernel
theorem d_Law_formatMessage_2 : decode method_35_code 2 = .ok (.aload_n 0, 1) := by decide +kernel
theorem d_Law_formatMessage_3 : decode method_35_code 3 = .ok (.iload_n 1, 1) := by decide +kernel
theorem d_Law_formatMessage_4 : decode method_35_code 4 = .ok (.invokevirtual 126, 3) := by decide +kernel
theorem d_Law_formatMessage_7 : decode method_35_code 7 = .ok (.i2l, 1) := by decide +kernel
theorem d_Law_formatMessage_8 : decode method_35_code 8 = .ok (.lastore, 1) := by decide +kernel
theorem d_Law_formatMessage_9 : decode method_35_code 9 = .ok (.goto 6, 3) := by decide +kernel
theorem d_Law_formatMessage_12 : decode method_35_code 12 = .ok (.astore_n 3, 1) := by decide +kernel
theorem d_Law_formatMessage_13 : decode method_35_code 13 = .ok (.iconst 1, 1) := by decide +kernel
theorem d_Law_formatMessage_14 : decode method_35_code 14 = .ok (.ireturn, 1) := by decide +kernel
theorem d_Law_formatMessage_15 : decode method_35_code 15 = .ok (.iconst 0, 1) := by decide +kernel
theorem d_Law_formatMessage_16 : decode method_35_code 16 = .ok (.ireturn, 1) := by decide +kernel
set_option maxHeartbeats 4000000 in
set_option maxRecDepth 20000 in
theorem c_Law_formatMessage {P : xP} {F : xF} {z : Nat} {b : Nat} {cm : cmT} {M : mcS} {a : Int32} {o : Nat} {g0 : Nat → Int64} (hM : xMC F (cm) (b) (M)) (ho : F (o) = some (.inr (2, 1, fun b9 => .long (g0 b9)))) (hZx : xZx P) (hNx : xNx P) (hbo : o < b ∨ b + 566 ≤ o) : xMw P xy_Law_formatMessage [(0, 9, 12, 28)] [.ref b, .int a, .ref o] F (z) 1 6 (fun r9 F9 z9 => (r9 = some (.int (nI 0)) ∧ xMC F9 (cm) (b) ((setL M (dgs (mAt M.1 a).1 + 1 + dgs (mAt M.1 a).2.1 + 1 + (mAt M.1 a).2.2.1) (fmS (mAt M.1 a)))) ∧ F9 (o) = some (.inr (2, 1, fun b9 => .long (vp_updL g0 0 (((nI (dgs (mAt M.1 a).1 + 1 + dgs (mAt M.1 a).2.1 + 1 + (mAt M.1 a).2.2.1))).toInt64) b9))) ∧ (mOk M.1 a) ∧ (∀ a9 : Nat, (a9 < b ∨ b + 566 ≤ a9) → a9 ≠ o → F9 a9 = F a9)) ∨ (r9 = some (.int (nI 1)) ∧ xMC F9 (cm) (b) (M) ∧ F9 (o) = some (.inr (2, 1, fun b9 => .long (g0 b9))) ∧ (¬ mOk M.1 a) ∧ (∀ a9 : Nat, (a9 < b ∨ b + 566 ≤ a9) → a9 ≠ o → F9 a9 = F a9))) := by
  refine xMw_i .int rfl (Nat.le_of_ble_eq_true rfl) (L0 := [some (.ref b), some (.int a), some (.ref o), none]) rfl rfl fun Θ hC hT hret => ?_
  refine x_aload_n hC d_Law_formatMessage_0 rfl rfl ?_
  refine x_iconst hC d_Law_formatMessage_1 (v := nI 0) (by decide) ?_
  refine x_aload_n hC d_Law_formatMessage_2 rfl rfl ?_
  refine x_iload_n hC d_Law_formatMessage_3 rfl rfl ?_
  obtain ⟨b00, -⟩ := id hM
  refine x_callCV hC kv_Law_126 (c_MessageCoder_formatMessage (hM := hM) (hZx := hZx)) b00 rfl rfl (Nat.le_of_ble_eq_true rfl) rfl rfl rfl (Nat.le_of_ble_eq_true rfl) (by decide) d_Law_formatMessage_4 (fun E9 F9 z9 hp9 => ?_) (fun r9 F9 z9 hp9 => ?_)
  · skip
    rcases hp9 with ⟨rfl, hM9, hcond, hag9⟩
    · skip
      refine xH_at hC (name := "java/util/NoSuchElementException") [] ⟨0, 9, 12, 28⟩ [] (hT.trans rfl) (fun y hy => nomatch hy) rfl (by decide) (x_in (x_of (xtb_4 (List.mem_of_getElem? (i := 166) (by decide +kernel)))) (by decide +kernel)) (x_inN (xtb_4 (List.mem_of_getElem? (i := 175) (by decide +kernel))) (by decide +kernel)) (fun q9 => ?_)
      show xX P Θ 12 _ _ _ _ _ _
      refine x_astore_n hC d_Law_formatMessage_12 rfl (Nat.le_of_ble_eq_true rfl) (L1 := [some (.ref b), some (.int a), some (.ref o), some (.ref q9)]) rfl ?_
      refine x_iconst hC d_Law_formatMessage_13 (v := nI 1) (by decide) ?_
      exact hret _ _ _ _ _ _ _ d_Law_formatMessage_14 (by decide) (by decide) rfl (Or.inr (⟨rfl, hM9, (hag9 _ hbo).trans ho, hcond, fun a9 q1 _ => hag9 a9 q1⟩))
  · skip
    obtain ⟨rfl, rfl, hM9, pn0, hag9⟩ := hp9
    have ho9 := (hag9 _ hbo).trans ho
    refine x_i2l hC d_Law_formatMessage_7 rfl ?_
    refine x_last hC ho9 (j := 0) ⟨rfl, by decide, by decide⟩ d_Law_formatMessage_8 (g1 := vp_updL g0 0 (((nI (dgs (mAt M.1 a).1 + 1 + dgs (mAt M.1 a).2.1 + 1 + (mAt M.1 a).2.2.1))).toInt64)) rfl ?_
    refine x_goto hC d_Law_formatMessage_9 (tgt := 15) (by decide) ?_
    refine x_iconst hC d_Law_formatMessage_15 (v := nI 0) (by decide) ?_
    exact hret _ _ _ _ _ _ _ d_Law_formatMessage_16 (by decide) (by decide) rfl (Or.inl ⟨rfl, xMC_fr hM9 (fun a9 q1 q2 => xup_ne (by omega)), xup_eq, pn0, fun a9 q1 q2 => (xup_ne q2).trans (hag9 a9 q1)⟩)

theorem d_Law_formatCode_0 : decode method_36_code 0 = .ok (.aload_n 2, 1) := by decide +kernel
theorem d_Law_formatCode_1 : decode method_36_code 1 = .ok (.iconst 0, 1) := by decide +kernel
theorem d_Law_formatCode_2 : decode method_36_code 2 = .ok (.aload_n 0, 1) := by decide +kernel
theorem d_Law_formatCode_3 : decode method_36_code 3 = .ok (.iload_n 1, 1) := by decide +kernel
theorem d_Law_formatCode_4 : decode method_36_code 4 = .ok (.invokevirtual 129, 3) := by decide +kernel
theorem d_Law_formatCode_7 : decode method_36_code 7 = .ok (.i2l, 1) := by decide +kernel
theorem d_Law_formatCode_8 : decode method_36_code 8 = .ok (.lastore, 1) := by decide +kernel
theorem d_Law_formatCode_9 : decode method_36_code 9 = .ok (.goto 6, 3) := by decide +kernel
theorem d_Law_formatCode_12 : decode method_36_code 12 = .ok (.astore_n 3, 1) := by decide +kernel
theorem d_Law_formatCode_13 : decode method_36_code 13 = .ok (.iconst 1, 1) := by decide +kernel
theorem d_Law_formatCode_14 : decode method_36_code 14 = .ok (.ireturn, 1) := by decide +kernel
theorem d_Law_formatCode_15 : decode method_36_code 15 = .ok (.iconst 0, 1) := by decide +kernel
theorem d_Law_formatCode_16 : decode method_36_code 16 = .ok (.ireturn, 1) := by decide +kernel
set_option maxHeartbeats 4000000 in
set_option maxRecDepth 20000 in
theorem c_Law_formatCode {P : xP} {F : xF} {z : Nat} {b : Nat} {cm : cmT} {M : mcS} {c : Nat} {o : Nat} {g0 : Nat → Int64} (hM : xMC F (cm) (b) (M)) (ho : F (o) = some (.inr (2, 1, fun b9 => .long (g0 b9)))) (hZx : xZx P) (hcb : c < 65536) (hNx : xNx P) (hbo : o < b ∨ b + 566 ≤ o) : xMw P xy_Law_formatCode [(0, 9, 12, 13)] [.ref b, .int (nI (c)), .ref o] F (z) 1 6 (fun r9 F9 z9 => (r9 = some (.int (nI 0)) ∧ xMC F9 (cm) (b) ((setL M (2 + hLen M.1.1 (c - 97)) (fmC c (hLen M.1.1 (c - 97)) (hVal (hLen M.1.1) (c - 97))))) ∧ F9 (o) = some (.inr (2, 1, fun b9 => .long (vp_updL g0 0 (((nI (2 + hLen M.1.1 (c - 97)))).toInt64) b9))) ∧ (97 ≤ c ∧ c < 105) ∧ (∀ a9 : Nat, (a9 < b ∨ b + 566 ≤ a9) → a9 ≠ o → F9 a9 = F a9)) ∨ (r9 = some (.int (nI 1)) ∧ xMC F9 (cm) (b) (M) ∧ F9 (o) = some (.inr (2, 1, fun b9 => .long (g0 b9))) ∧ (¬ (97 ≤ c ∧ c < 105)) ∧ (∀ a9 : Nat, (a9 < b ∨ b + 566 ≤ a9) → a9 ≠ o → F9 a9 = F a9))) := by
  refine xMw_i .int rfl (Nat.le_of_ble_eq_true rfl) (L0 := [some (.ref b), some (.int (nI (c))), some (.ref o), none]) rfl rfl fun Θ hC hT hret => ?_
  refine x_aload_n hC d_Law_formatCode_0 rfl rfl ?_
  refine x_iconst hC d_Law_formatCode_1 (v := nI 0) (by decide) ?_
  refine x_aload_n hC d_Law_formatCode_2 rfl rfl ?_
  refine x_iload_n hC d_Law_formatCode_3 rfl rfl ?_
  obtain ⟨b00, -⟩ := id hM
  refine x_callCV hC kv_Law_129 (c_MessageCoder_formatCode (hM := hM) (hZx := hZx) (hcb := hcb)) b00 rfl rfl (Nat.le_of_ble_eq_true rfl) rfl rfl rfl (Nat.le_of_ble_eq_true rfl) (by decide) d_Law_formatCode_4 (fun E9 F9 z9 hp9 => ?_) (fun r9 F9 z9 hp9 => ?_)
  · skip
    rcases hp9 with ⟨rfl, hM9, hcond, hag9⟩
    · skip
      refine xH_at hC (name := "java/lang/IllegalArgumentException") [] ⟨0, 9, 12, 13⟩ [] (hT.trans rfl) (fun y hy => nomatch hy) rfl (by decide) (x_in (x_of (xtb_4 (List.mem_of_getElem? (i := 47) (by decide +kernel)))) (by decide +kernel)) (x_inN (xtb_4 (List.mem_of_getElem? (i := 56) (by decide +kernel))) (by decide +kernel)) (fun q9 => ?_)
      show xX P Θ 12 _ _ _ _ _ _
      refine x_astore_n hC d_Law_formatCode_12 rfl (Nat.le_of_ble_eq_true rfl) (L1 := [some (.ref b), some (.int (nI (c))), some (.ref o), some (.ref q9)]) rfl ?_
      refine x_iconst hC d_Law_formatCode_13 (v := nI 1) (by decide) ?_
      exact hret _ _ _ _ _ _ _ d_Law_formatCode_14 (by decide) (by decide) rfl (Or.inr (⟨rfl, hM9, (hag9 _ hbo).trans ho, hcond, fun a9 q1 _ => hag9 a9 q1⟩))
  · skip
    obtain ⟨rfl, rfl, hM9, pn0, hag9⟩ := hp9
    have ho9 := (hag9 _ hbo).trans ho
    refine x_i2l hC d_Law_formatCode_7 rfl ?_
    refine x_last hC ho9 (j := 0) ⟨rfl, by decide, by decide⟩ d_Law_formatCode_8 (g1 := vp_updL g0 0 (((nI (2 + hLen M.1.1 (c - 97)))).toInt64)) rfl ?_
    refine x_goto hC d_Law_formatCode_9 (tgt := 15) (by decide) ?_
    refine x_iconst hC d_Law_formatCode_15 (v := nI 0) (by decide) ?_
    exact hret _ _ _ _ _ _ _ d_Law_formatCode_16 (by decide) (by decide) rfl (Or.inl ⟨rfl, xMC_fr hM9 (fun a9 q1 q2 => xup_ne (by omega)), xup_eq, pn0, fun a9 q1 q2 => (xup_ne q2).trans (hag9 a9 q1)⟩)

theorem d_Law_lineChar_0 : decode method_37_code 0 = .ok (.aload_n 2, 1) := by decide +kernel
theorem d_Law_lineChar_1 : decode method_37_code 1 = .ok (.iconst 0, 1) := by decide +kernel
theorem d_Law_lineChar_2 : decode method_37_code 2 = .ok (.aload_n 0, 1) := by decide +kernel
theorem d_Law_lineChar_3 : decode method_37_code 3 = .ok (.iload_n 1, 1) := by decide +kernel
theorem d_Law_lineChar_4 : decode method_37_code 4 = .ok (.invokevirtual 132, 3) := by decide +kernel
theorem d_Law_lineChar_7 : decode method_37_code 7 = .ok (.i2l, 1) := by decide +kernel
theorem d_Law_lineChar_8 : decode method_37_code 8 = .ok (.lastore, 1) := by decide +kernel
theorem d_Law_lineChar_9 : decode method_37_code 9 = .ok (.goto 6, 3) := by decide +kernel
theorem d_Law_lineChar_12 : decode method_37_code 12 = .ok (.astore_n 3, 1) := by decide +kernel
theorem d_Law_lineChar_13 : decode method_37_code 13 = .ok (.iconst 1, 1) := by decide +kernel
theorem d_Law_lineChar_14 : decode method_37_code 14 = .ok (.ireturn, 1) := by decide +kernel
theorem d_Law_lineChar_15 : decode method_37_code 15 = .ok (.iconst 0, 1) := by decide +kernel
theorem d_Law_lineChar_16 : decode method_37_code 16 = .ok (.ireturn, 1) := by decide +kernel
set_option maxHeartbeats 4000000 in
set_option maxRecDepth 20000 in
theorem c_Law_lineChar {P : xP} {F : xF} {z : Nat} {b : Nat} {cm : cmT} {M : mcS} {i : Int32} {o : Nat} {g0 : Nat → Int64} (hM : xMC F (cm) (b) (M)) (ho : F (o) = some (.inr (2, 1, fun b9 => .long (g0 b9)))) (hZx : xZx P) (hNx : xNx P) (hbo : o < b ∨ b + 566 ≤ o) : xMw P xy_Law_lineChar [(0, 9, 12, 44)] [.ref b, .int i, .ref o] F (z) 1 6 (fun r9 F9 z9 => (r9 = some (.int (nI 0)) ∧ xMC F9 (cm) (b) (M) ∧ F9 (o) = some (.inr (2, 1, fun b9 => .long (vp_updL g0 0 (((nI (M.2.2.2.2.1.2 i.toNatClampNeg))).toInt64) b9))) ∧ (0 ≤ i ∧ i < nI M.2.2.2.2.1.1) ∧ (∀ a9 : Nat, (a9 < b ∨ b + 566 ≤ a9) → a9 ≠ o → F9 a9 = F a9)) ∨ (r9 = some (.int (nI 1)) ∧ xMC F9 (cm) (b) (M) ∧ F9 (o) = some (.inr (2, 1, fun b9 => .long (g0 b9))) ∧ (¬ (0 ≤ i ∧ i < nI M.2.2.2.2.1.1)) ∧ (∀ a9 : Nat, (a9 < b ∨ b + 566 ≤ a9) → a9 ≠ o → F9 a9 = F a9))) := by
  refine xMw_i .int rfl (Nat.le_of_ble_eq_true rfl) (L0 := [some (.ref b), some (.int i), some (.ref o), none]) rfl rfl fun Θ hC hT hret => ?_
  refine x_aload_n hC d_Law_lineChar_0 rfl rfl ?_
  refine x_iconst hC d_Law_lineChar_1 (v := nI 0) (by decide) ?_
  refine x_aload_n hC d_Law_lineChar_2 rfl rfl ?_
  refine x_iload_n hC d_Law_lineChar_3 rfl rfl ?_
  obtain ⟨b00, -⟩ := id hM
  refine x_callCV hC kv_Law_132 (c_MessageCoder_lineChar (hM := hM) (hZx := hZx)) b00 rfl rfl (Nat.le_of_ble_eq_true rfl) rfl rfl rfl (Nat.le_of_ble_eq_true rfl) (by decide) d_Law_lineChar_4 (fun E9 F9 z9 hp9 => ?_) (fun r9 F9 z9 hp9 => ?_)
  · skip
    rcases hp9 with ⟨rfl, rfl, hcond⟩
    · skip
      refine xH_at hC (name := "java/lang/IndexOutOfBoundsException") [] ⟨0, 9, 12, 44⟩ [] (hT.trans rfl) (fun y hy => nomatch hy) rfl (by decide) (x_in (x_of (xtb_4 (List.mem_of_getElem? (i := 220) (by decide +kernel)))) (by decide +kernel)) (x_inN (xtb_5 (List.mem_of_getElem? (i := 12) (by decide +kernel))) (by decide +kernel)) (fun q9 => ?_)
      show xX P Θ 12 _ _ _ _ _ _
      refine x_astore_n hC d_Law_lineChar_12 rfl (Nat.le_of_ble_eq_true rfl) (L1 := [some (.ref b), some (.int i), some (.ref o), some (.ref q9)]) rfl ?_
      refine x_iconst hC d_Law_lineChar_13 (v := nI 1) (by decide) ?_
      exact hret _ _ _ _ _ _ _ d_Law_lineChar_14 (by decide) (by decide) rfl (Or.inr (⟨rfl, hM, ho, hcond, fun a9 _ _ => rfl⟩))
  · skip
    obtain ⟨rfl, rfl, rfl, pn0⟩ := hp9
    refine x_i2l hC d_Law_lineChar_7 rfl ?_
    refine x_last hC ho (j := 0) ⟨rfl, by decide, by decide⟩ d_Law_lineChar_8 (g1 := vp_updL g0 0 (((nI (M.2.2.2.2.1.2 i.toNatClampNeg))).toInt64)) rfl ?_
    refine x_goto hC d_Law_lineChar_9 (tgt := 15) (by decide) ?_
    refine x_iconst hC d_Law_lineChar_15 (v := nI 0) (by decide) ?_
    exact hret _ _ _ _ _ _ _ d_Law_lineChar_16 (by decide) (by decide) rfl (Or.inl ⟨rfl, xMC_fr hM (fun a9 q1 q2 => xup_ne (by omega)), xup_eq, pn0, fun a9 q1 q2 => xup_ne q2⟩)

theorem d_Law_append_0 : decode method_38_code 0 = .ok (.aload_n 2, 1) := by decide +kernel
theorem d_Law_append_1 : decode method_38_code 1 = .ok (.iconst 0, 1) := by decide +kernel
theorem d_Law_append_2 : decode method_38_code 2 = .ok (.aload_n 0, 1) := by decide +kernel
theorem d_Law_append_3 : decode method_38_code 3 = .ok (.iload_n 1, 1) := by decide +kernel
theorem d_Law_append_4 : decode method_38_code 4 = .ok (.invokevirtual 135, 3) := by decide +kernel
theorem d_Law_append_7 : decode method_38_code 7 = .ok (.i2l, 1) := by decide +kernel
theorem d_Law_append_8 : decode method_38_code 8 = .ok (.lastore, 1) := by decide +kernel
theorem d_Law_append_9 : decode method_38_code 9 = .ok (.goto 9, 3) := by decide +kernel
theorem d_Law_append_12 : decode method_38_code 12 = .ok (.astore_n 3, 1) := by decide +kernel
theorem d_Law_append_13 : decode method_38_code 13 = .ok (.iconst 1, 1) := by decide +kernel
theorem d_Law_append_14 : decode method_38_code 14 = .ok (.ireturn, 1) := by decide +kernel
theorem d_Law_append_15 : decode method_38_code 15 = .ok (.astore_n 3, 1) := by decide +kernel
theorem d_Law_append_16 : decode method_38_code 16 = .ok (.iconst 2, 1) := by decide +kernel
theorem d_Law_append_17 : decode method_38_code 17 = .ok (.ireturn, 1) := by decide +kernel
theorem d_Law_append_18 : decode method_38_code 18 = .ok (.iconst 0, 1) := by decide +kernel
theorem d_Law_append_19 : decode method_38_code 19 = .ok (.ireturn, 1) := by decide +kernel
set_option maxHeartbeats 4000000 in
set_option maxRecDepth 20000 in
theorem c_Law_append {P : xP} {F : xF} {z : Nat} {b : Nat} {cm : cmT} {M : mcS} {c : Nat} {o : Nat} {g0 : Nat → Int64} (hM : xMC F (cm) (b) (M)) (ho : F (o) = some (.inr (2, 1, fun b9 => .long (g0 b9)))) (hZx : xZx P) (hcb : c < 65536) (hNx : xNx P) (hbo : o < b ∨ b + 566 ≤ o) : xMw P xy_Law_append [(0, 9, 12, 13), (0, 9, 15, 19)] [.ref b, .int (nI (c)), .ref o] F (z) 1 6 (fun r9 F9 z9 => (r9 = some (.int (nI 0)) ∧ xMC F9 (cm) (b) ((setI M (M.2.2.2.1.1 + 1) (updN M.2.2.2.1.2 M.2.2.2.1.1 c))) ∧ F9 (o) = some (.inr (2, 1, fun b9 => .long (vp_updL g0 0 (((nI (M.2.2.2.1.1 + 1))).toInt64) b9))) ∧ (32 ≤ c ∧ c ≤ 126) ∧ (M.2.2.2.1.1 < 60) ∧ (∀ a9 : Nat, (a9 < b ∨ b + 566 ≤ a9) → a9 ≠ o → F9 a9 = F a9)) ∨ (r9 = some (.int (nI 1)) ∧ xMC F9 (cm) (b) (M) ∧ F9 (o) = some (.inr (2, 1, fun b9 => .long (g0 b9))) ∧ (¬ (32 ≤ c ∧ c ≤ 126)) ∧ (∀ a9 : Nat, (a9 < b ∨ b + 566 ≤ a9) → a9 ≠ o → F9 a9 = F a9)) ∨ (r9 = some (.int (nI 2)) ∧ xMC F9 (cm) (b) (M) ∧ F9 (o) = some (.inr (2, 1, fun b9 => .long (g0 b9))) ∧ ((32 ≤ c ∧ c ≤ 126) ∧ ¬ M.2.2.2.1.1 < 60) ∧ (∀ a9 : Nat, (a9 < b ∨ b + 566 ≤ a9) → a9 ≠ o → F9 a9 = F a9))) := by
  refine xMw_i .int rfl (Nat.le_of_ble_eq_true rfl) (L0 := [some (.ref b), some (.int (nI (c))), some (.ref o), none]) rfl rfl fun Θ hC hT hret => ?_
  refine x_aload_n hC d_Law_append_0 rfl rfl ?_
  refine x_iconst hC d_Law_append_1 (v := nI 0) (by decide) ?_
  refine x_aload_n hC d_Law_append_2 rfl rfl ?_
  refine x_iload_n hC d_Law_append_3 rfl rfl ?_
  obtain ⟨b00, -⟩ := id hM
  refine x_callCV hC kv_Law_135 (c_MessageCoder_append (hM := hM) (hZx := hZx) (hcb := hcb)) b00 rfl rfl (Nat.le_of_ble_eq_true rfl) rfl rfl rfl (Nat.le_of_ble_eq_true rfl) (by decide) d_Law_append_4 (fun E9 F9 z9 hp9 => ?_) (fun r9 F9 z9 hp9 => ?_)
  · skip
    rcases hp9 with ⟨rfl, hM9, hcond, hag9⟩ | ⟨rfl, hM9, hcond, hag9⟩
    · skip
      refine xH_at hC (name := "java/lang/IllegalArgumentException") [] ⟨0, 9, 12, 13⟩ [⟨0, 9, 15, 19⟩] (hT.trans rfl) (fun y hy => nomatch hy) rfl (by decide) (x_in (x_of (xtb_4 (List.mem_of_getElem? (i := 47) (by decide +kernel)))) (by decide +kernel)) (x_inN (xtb_4 (List.mem_of_getElem? (i := 56) (by decide +kernel))) (by decide +kernel)) (fun q9 => ?_)
      show xX P Θ 12 _ _ _ _ _ _
      refine x_astore_n hC d_Law_append_12 rfl (Nat.le_of_ble_eq_true rfl) (L1 := [some (.ref b), some (.int (nI (c))), some (.ref o), some (.ref q9)]) rfl ?_
      refine x_iconst hC d_Law_append_13 (v := nI 1) (by decide) ?_
      exact hret _ _ _ _ _ _ _ d_Law_append_14 (by decide) (by decide) rfl (Or.inr (Or.inl ⟨rfl, hM9, (hag9 _ hbo).trans ho, hcond, fun a9 q1 _ => hag9 a9 q1⟩))
    · skip
      refine xH_at hC (name := "java/lang/IllegalStateException") [⟨0, 9, 12, 13⟩] ⟨0, 9, 15, 19⟩ [] (hT.trans rfl) (fun y hy => by rw [List.mem_singleton.mp hy]; exact ⟨by decide, "java/lang/IllegalArgumentException", x_in (x_of (xtb_4 (List.mem_of_getElem? (i := 47) (by decide +kernel)))) (by decide +kernel), (xNx_1 hC hNx).1⟩) rfl (by decide) (x_in (x_of (xtb_4 (List.mem_of_getElem? (i := 128) (by decide +kernel)))) (by decide +kernel)) (x_inN (xtb_4 (List.mem_of_getElem? (i := 138) (by decide +kernel))) (by decide +kernel)) (fun q9 => ?_)
      show xX P Θ 15 _ _ _ _ _ _
      refine x_astore_n hC d_Law_append_15 rfl (Nat.le_of_ble_eq_true rfl) (L1 := [some (.ref b), some (.int (nI (c))), some (.ref o), some (.ref q9)]) rfl ?_
      refine x_iconst hC d_Law_append_16 (v := nI 2) (by decide) ?_
      exact hret _ _ _ _ _ _ _ d_Law_append_17 (by decide) (by decide) rfl (Or.inr (Or.inr (⟨rfl, hM9, (hag9 _ hbo).trans ho, hcond, fun a9 q1 _ => hag9 a9 q1⟩)))
  · skip
    obtain ⟨rfl, rfl, hM9, pn0, pn1, hag9⟩ := hp9
    have ho9 := (hag9 _ hbo).trans ho
    refine x_i2l hC d_Law_append_7 rfl ?_
    refine x_last hC ho9 (j := 0) ⟨rfl, by decide, by decide⟩ d_Law_append_8 (g1 := vp_updL g0 0 (((nI (M.2.2.2.1.1 + 1))).toInt64)) rfl ?_
    refine x_goto hC d_Law_append_9 (tgt := 18) (by decide) ?_
    refine x_iconst hC d_Law_append_18 (v := nI 0) (by decide) ?_
    exact hret _ _ _ _ _ _ _ d_Law_append_19 (by decide) (by decide) rfl (Or.inl ⟨rfl, xMC_fr hM9 (fun a9 q1 q2 => xup_ne (by omega)), xup_eq, pn0, pn1, fun a9 q1 q2 => (xup_ne q2).trans (hag9 a9 q1)⟩)

theorem d_Law_run_0 : decode method_39_code 0 = .ok (.aload_n 1, 1) := by decide +kernel
theorem d_Law_run_1 : decode method_39_code 1 = .ok (.iconst 0, 1) := by decide +kernel
theorem d_Law_run_2 : decode method_39_code 2 = .ok (.aload_n 0, 1) := by decide +kernel
theorem d_Law_run_3 : decode method_39_code 3 = .ok (.invokevirtual 138, 3) := by decide +kernel
theorem d_Law_run_6 : decode method_39_code 6 = .ok (.i2l, 1) := by decide +kernel
theorem d_Law_run_7 : decode method_39_code 7 = .ok (.lastore, 1) := by decide +kernel
theorem d_Law_run_8 : decode method_39_code 8 = .ok (.goto 9, 3) := by decide +kernel
theorem d_Law_run_11 : decode method_39_code 11 = .ok (.astore_n 2, 1) := by decide +kernel
theorem d_Law_run_12 : decode method_39_code 12 = .ok (.iconst 1, 1) := by decide +kernel
theorem d_Law_run_13 : decode method_39_code 13 = .ok (.ireturn, 1) := by decide +kernel
theorem d_Law_run_14 : decode method_39_code 14 = .ok (.astore_n 2, 1) := by decide +kernel
theorem d_Law_run_15 : decode method_39_code 15 = .ok (.iconst 2, 1) := by decide +kernel
theorem d_Law_run_16 : decode method_39_code 16 = .ok (.ireturn, 1) := by decide +kernel
theorem d_Law_run_17 : decode method_39_code 17 = .ok (.iconst 0, 1) := by decide +kernel
theorem d_Law_run_18 : decode method_39_code 18 = .ok (.ireturn, 1) := by decide +kernel
set_option maxHeartbeats 4000000 in
set_option maxRecDepth 20000 in
theorem c_Law_run {P : xP} {F : xF} {z : Nat} {b : Nat} {cm : cmT} {M : mcS} {sm : Nat} {R : rS} {o : Nat} {g0 : Nat → Int64} (hM : xMC F (cm) (b) (M)) (ho : F (o) = some (.inr (2, 1, fun b9 => .long (g0 b9)))) (hZx : xZx P) (hCM : xCM P cm) (hSM : xSM P sm) (hpp0 : M.2.2.2.2.2.2.1 < 100000) (hun0 : M.2.2.2.2.2.2.2.1 < 100000) (hR0 : rdS M.2.2.2.1.1 M.2.2.2.1.2 60 = R) (hRd : rdOk R) (hKn0 : M.1.2.2.1.2.1 + R.2.2.1.1 ≤ 999) (hNx : xNx P) (hbo : o < b ∨ b + 566 ≤ o) : xMw P xy_Law_run [(0, 8, 11, 13), (0, 8, 14, 19)] [.ref b, .ref o] F (z) 1 6 (fun r9 F9 z9 => (r9 = some (.int (nI 0)) ∧ xMC F9 (cm) (b) ((runO M R)) ∧ F9 (o) = some (.inr (2, 1, fun b9 => .long (vp_updL g0 0 (((nI (R.2.2.2))).toInt64) b9))) ∧ (R.1 = 1) ∧ ((prgS R.2.2.1 M.1 R.2.2.1.1).1 = true) ∧ (∀ a9 : Nat, (a9 < b ∨ b + 566 ≤ a9) → a9 ≠ o → F9 a9 = F a9)) ∨ (r9 = some (.int (nI 1)) ∧ xMC F9 (cm) (b) ((runE M R)) ∧ F9 (o) = some (.inr (2, 1, fun b9 => .long (g0 b9))) ∧ (¬ R.1 = 1) ∧ (∀ a9 : Nat, (a9 < b ∨ b + 566 ≤ a9) → a9 ≠ o → F9 a9 = F a9)) ∨ (r9 = some (.int (nI 2)) ∧ xMC F9 (cm) (b) ((runO M R)) ∧ F9 (o) = some (.inr (2, 1, fun b9 => .long (g0 b9))) ∧ (R.1 = 1 ∧ ¬ (prgS R.2.2.1 M.1 R.2.2.1.1).1 = true) ∧ (∀ a9 : Nat, (a9 < b ∨ b + 566 ≤ a9) → a9 ≠ o → F9 a9 = F a9))) := by
  refine xMw_i .int rfl (Nat.le_of_ble_eq_true rfl) (L0 := [some (.ref b), some (.ref o), none]) rfl rfl fun Θ hC hT hret => ?_
  refine x_aload_n hC d_Law_run_0 rfl rfl ?_
  refine x_iconst hC d_Law_run_1 (v := nI 0) (by decide) ?_
  refine x_aload_n hC d_Law_run_2 rfl rfl ?_
  obtain ⟨b00, -⟩ := id hM
  refine x_callCV hC kv_Law_138 (c_MessageCoder_run (hM := hM) (hZx := hZx) (hCM := hCM) (hSM := hSM) (hpp0 := hpp0) (hun0 := hun0) (hR0 := hR0) (hRd := hRd) (hKn0 := hKn0)) b00 rfl rfl (Nat.le_of_ble_eq_true rfl) rfl rfl rfl (Nat.le_of_ble_eq_true rfl) (by decide) d_Law_run_3 (fun E9 F9 z9 hp9 => ?_) (fun r9 F9 z9 hp9 => ?_)
  · skip
    rcases hp9 with ⟨rfl, hM9, hcond, hag9⟩ | ⟨rfl, hM9, hcond, hag9⟩
    · skip
      refine xH_at hC (name := "java/lang/IllegalArgumentException") [] ⟨0, 8, 11, 13⟩ [⟨0, 8, 14, 19⟩] (hT.trans rfl) (fun y hy => nomatch hy) rfl (by decide) (x_in (x_of (xtb_4 (List.mem_of_getElem? (i := 47) (by decide +kernel)))) (by decide +kernel)) (x_inN (xtb_4 (List.mem_of_getElem? (i := 56) (by decide +kernel))) (by decide +kernel)) (fun q9 => ?_)
      show xX P Θ 11 _ _ _ _ _ _
      refine x_astore_n hC d_Law_run_11 rfl (Nat.le_of_ble_eq_true rfl) (L1 := [some (.ref b), some (.ref o), some (.ref q9)]) rfl ?_
      refine x_iconst hC d_Law_run_12 (v := nI 1) (by decide) ?_
      exact hret _ _ _ _ _ _ _ d_Law_run_13 (by decide) (by decide) rfl (Or.inr (Or.inl ⟨rfl, hM9, (hag9 _ hbo).trans ho, hcond, fun a9 q1 _ => hag9 a9 q1⟩))
    · skip
      refine xH_at hC (name := "java/lang/IllegalStateException") [⟨0, 8, 11, 13⟩] ⟨0, 8, 14, 19⟩ [] (hT.trans rfl) (fun y hy => by rw [List.mem_singleton.mp hy]; exact ⟨by decide, "java/lang/IllegalArgumentException", x_in (x_of (xtb_4 (List.mem_of_getElem? (i := 47) (by decide +kernel)))) (by decide +kernel), (xNx_1 hC hNx).1⟩) rfl (by decide) (x_in (x_of (xtb_4 (List.mem_of_getElem? (i := 128) (by decide +kernel)))) (by decide +kernel)) (x_inN (xtb_4 (List.mem_of_getElem? (i := 138) (by decide +kernel))) (by decide +kernel)) (fun q9 => ?_)
      show xX P Θ 14 _ _ _ _ _ _
      refine x_astore_n hC d_Law_run_14 rfl (Nat.le_of_ble_eq_true rfl) (L1 := [some (.ref b), some (.ref o), some (.ref q9)]) rfl ?_
      refine x_iconst hC d_Law_run_15 (v := nI 2) (by decide) ?_
      exact hret _ _ _ _ _ _ _ d_Law_run_16 (by decide) (by decide) rfl (Or.inr (Or.inr (⟨rfl, hM9, (hag9 _ hbo).trans ho, hcond, fun a9 q1 _ => hag9 a9 q1⟩)))
  · skip
    obtain ⟨rfl, rfl, hM9, pn0, pn1, hag9⟩ := hp9
    have ho9 := (hag9 _ hbo).trans ho
    refine x_i2l hC d_Law_run_6 rfl ?_
    refine x_last hC ho9 (j := 0) ⟨rfl, by decide, by decide⟩ d_Law_run_7 (g1 := vp_updL g0 0 (((nI (R.2.2.2))).toInt64)) rfl ?_
    refine x_goto hC d_Law_run_8 (tgt := 17) (by decide) ?_
    refine x_iconst hC d_Law_run_17 (v := nI 0) (by decide) ?_
    exact hret _ _ _ _ _ _ _ d_Law_run_18 (by decide) (by decide) rfl (Or.inl ⟨rfl, xMC_fr hM9 (fun a9 q1 q2 => xup_ne (by omega)), xup_eq, pn0, pn1, fun a9 q1 q2 => (xup_ne q2).trans (hag9 a9 q1)⟩)

theorem d_Law_errorPosition_0 : decode method_40_code 0 = .ok (.aload_n 1, 1) := by decide +kernel
theorem d_Law_errorPosition_1 : decode method_40_code 1 = .ok (.iconst 0, 1) := by decide +kernel
theorem d_Law_errorPosition_2 : decode method_40_code 2 = .ok (.aload_n 0, 1) := by decide +kernel
theorem d_Law_errorPosition_3 : decode method_40_code 3 = .ok (.invokevirtual 141, 3) := by decide +kernel
theorem d_Law_errorPosition_6 : decode method_40_code 6 = .ok (.i2l, 1) := by decide +kernel
theorem d_Law_errorPosition_7 : decode method_40_code 7 = .ok (.lastore, 1) := by decide +kernel
theorem d_Law_errorPosition_8 : decode method_40_code 8 = .ok (.goto 6, 3) := by decide +kernel
theorem d_Law_errorPosition_11 : decode method_40_code 11 = .ok (.astore_n 2, 1) := by decide +kernel
theorem d_Law_errorPosition_12 : decode method_40_code 12 = .ok (.iconst 1, 1) := by decide +kernel
theorem d_Law_errorPosition_13 : decode method_40_code 13 = .ok (.ireturn, 1) := by decide +kernel
theorem d_Law_errorPosition_14 : decode method_40_code 14 = .ok (.iconst 0, 1) := by decide +kernel
theorem d_Law_errorPosition_15 : decode method_40_code 15 = .ok (.ireturn, 1) := by decide +kernel
set_option maxHeartbeats 4000000 in
set_option maxRecDepth 20000 in
theorem c_Law_errorPosition {P : xP} {F : xF} {z : Nat} {b : Nat} {cm : cmT} {M : mcS} {o : Nat} {g0 : Nat → Int64} (hM : xMC F (cm) (b) (M)) (ho : F (o) = some (.inr (2, 1, fun b9 => .long (g0 b9)))) (hZx : xZx P) (hNx : xNx P) (hbo : o < b ∨ b + 566 ≤ o) : xMw P xy_Law_errorPosition [(0, 8, 11, 28)] [.ref b, .ref o] F (z) 1 6 (fun r9 F9 z9 => (r9 = some (.int (nI 0)) ∧ xMC F9 (cm) (b) (M) ∧ F9 (o) = some (.inr (2, 1, fun b9 => .long (vp_updL g0 0 (((M.2.2.2.2.2.2.2.2.1)).toInt64) b9))) ∧ (¬ M.2.2.2.2.2.2.2.2.1 = -1) ∧ (∀ a9 : Nat, (a9 < b ∨ b + 566 ≤ a9) → a9 ≠ o → F9 a9 = F a9)) ∨ (r9 = some (.int (nI 1)) ∧ xMC F9 (cm) (b) (M) ∧ F9 (o) = some (.inr (2, 1, fun b9 => .long (g0 b9))) ∧ (M.2.2.2.2.2.2.2.2.1 = -1) ∧ (∀ a9 : Nat, (a9 < b ∨ b + 566 ≤ a9) → a9 ≠ o → F9 a9 = F a9))) := by
  refine xMw_i .int rfl (Nat.le_of_ble_eq_true rfl) (L0 := [some (.ref b), some (.ref o), none]) rfl rfl fun Θ hC hT hret => ?_
  refine x_aload_n hC d_Law_errorPosition_0 rfl rfl ?_
  refine x_iconst hC d_Law_errorPosition_1 (v := nI 0) (by decide) ?_
  refine x_aload_n hC d_Law_errorPosition_2 rfl rfl ?_
  obtain ⟨b00, -⟩ := id hM
  refine x_callCV hC kv_Law_141 (c_MessageCoder_errorPosition (hM := hM) (hZx := hZx)) b00 rfl rfl (Nat.le_of_ble_eq_true rfl) rfl rfl rfl (Nat.le_of_ble_eq_true rfl) (by decide) d_Law_errorPosition_3 (fun E9 F9 z9 hp9 => ?_) (fun r9 F9 z9 hp9 => ?_)
  · skip
    rcases hp9 with ⟨rfl, rfl, hcond⟩
    · skip
      refine xH_at hC (name := "java/util/NoSuchElementException") [] ⟨0, 8, 11, 28⟩ [] (hT.trans rfl) (fun y hy => nomatch hy) rfl (by decide) (x_in (x_of (xtb_4 (List.mem_of_getElem? (i := 166) (by decide +kernel)))) (by decide +kernel)) (x_inN (xtb_4 (List.mem_of_getElem? (i := 175) (by decide +kernel))) (by decide +kernel)) (fun q9 => ?_)
      show xX P Θ 11 _ _ _ _ _ _
      refine x_astore_n hC d_Law_errorPosition_11 rfl (Nat.le_of_ble_eq_true rfl) (L1 := [some (.ref b), some (.ref o), some (.ref q9)]) rfl ?_
      refine x_iconst hC d_Law_errorPosition_12 (v := nI 1) (by decide) ?_
      exact hret _ _ _ _ _ _ _ d_Law_errorPosition_13 (by decide) (by decide) rfl (Or.inr (⟨rfl, hM, ho, hcond, fun a9 _ _ => rfl⟩))
  · skip
    obtain ⟨rfl, rfl, rfl, pn0⟩ := hp9
    refine x_i2l hC d_Law_errorPosition_6 rfl ?_
    refine x_last hC ho (j := 0) ⟨rfl, by decide, by decide⟩ d_Law_errorPosition_7 (g1 := vp_updL g0 0 (((M.2.2.2.2.2.2.2.2.1)).toInt64)) rfl ?_
    refine x_goto hC d_Law_errorPosition_8 (tgt := 14) (by decide) ?_
    refine x_iconst hC d_Law_errorPosition_14 (v := nI 0) (by decide) ?_
    exact hret _ _ _ _ _ _ _ d_Law_errorPosition_15 (by decide) (by decide) rfl (Or.inl ⟨rfl, xMC_fr hM (fun a9 q1 q2 => xup_ne (by omega)), xup_eq, pn0, fun a9 q1 q2 => xup_ne q2⟩)

theorem d_Law_failedCommand_0 : decode method_41_code 0 = .ok (.aload_n 1, 1) := by decide +kernel
theorem d_Law_failedCommand_1 : decode method_41_code 1 = .ok (.iconst 0, 1) := by decide +kernel
theorem d_Law_failedCommand_2 : decode method_41_code 2 = .ok (.aload_n 0, 1) := by decide +kernel
theorem d_Law_failedCommand_3 : decode method_41_code 3 = .ok (.invokevirtual 144, 3) := by decide +kernel
theorem d_Law_failedCommand_6 : decode method_41_code 6 = .ok (.i2l, 1) := by decide +kernel
theorem d_Law_failedCommand_7 : decode method_41_code 7 = .ok (.lastore, 1) := by decide +kernel
theorem d_Law_failedCommand_8 : decode method_41_code 8 = .ok (.goto 6, 3) := by decide +kernel
theorem d_Law_failedCommand_11 : decode method_41_code 11 = .ok (.astore_n 2, 1) := by decide +kernel
theorem d_Law_failedCommand_12 : decode method_41_code 12 = .ok (.iconst 1, 1) := by decide +kernel
theorem d_Law_failedCommand_13 : decode method_41_code 13 = .ok (.ireturn, 1) := by decide +kernel
theorem d_Law_failedCommand_14 : decode method_41_code 14 = .ok (.iconst 0, 1) := by decide +kernel
theorem d_Law_failedCommand_15 : decode method_41_code 15 = .ok (.ireturn, 1) := by decide +kernel
set_option maxHeartbeats 4000000 in
set_option maxRecDepth 20000 in
theorem c_Law_failedCommand {P : xP} {F : xF} {z : Nat} {b : Nat} {cm : cmT} {M : mcS} {o : Nat} {g0 : Nat → Int64} (hM : xMC F (cm) (b) (M)) (ho : F (o) = some (.inr (2, 1, fun b9 => .long (g0 b9)))) (hZx : xZx P) (hNx : xNx P) (hbo : o < b ∨ b + 566 ≤ o) : xMw P xy_Law_failedCommand [(0, 8, 11, 28)] [.ref b, .ref o] F (z) 1 6 (fun r9 F9 z9 => (r9 = some (.int (nI 0)) ∧ xMC F9 (cm) (b) (M) ∧ F9 (o) = some (.inr (2, 1, fun b9 => .long (vp_updL g0 0 (((M.2.2.2.2.2.2.2.2.2)).toInt64) b9))) ∧ (¬ M.2.2.2.2.2.2.2.2.2 = -1) ∧ (∀ a9 : Nat, (a9 < b ∨ b + 566 ≤ a9) → a9 ≠ o → F9 a9 = F a9)) ∨ (r9 = some (.int (nI 1)) ∧ xMC F9 (cm) (b) (M) ∧ F9 (o) = some (.inr (2, 1, fun b9 => .long (g0 b9))) ∧ (M.2.2.2.2.2.2.2.2.2 = -1) ∧ (∀ a9 : Nat, (a9 < b ∨ b + 566 ≤ a9) → a9 ≠ o → F9 a9 = F a9))) := by
  refine xMw_i .int rfl (Nat.le_of_ble_eq_true rfl) (L0 := [some (.ref b), some (.ref o), none]) rfl rfl fun Θ hC hT hret => ?_
  refine x_aload_n hC d_Law_failedCommand_0 rfl rfl ?_
  refine x_iconst hC d_Law_failedCommand_1 (v := nI 0) (by decide) ?_
  refine x_aload_n hC d_Law_failedCommand_2 rfl rfl ?_
  obtain ⟨b00, -⟩ := id hM
  refine x_callCV hC kv_Law_144 (c_MessageCoder_failedCommand (hM := hM) (hZx := hZx)) b00 rfl rfl (Nat.le_of_ble_eq_true rfl) rfl rfl rfl (Nat.le_of_ble_eq_true rfl) (by decide) d_Law_failedCommand_3 (fun E9 F9 z9 hp9 => ?_) (fun r9 F9 z9 hp9 => ?_)
  · skip
    rcases hp9 with ⟨rfl, rfl, hcond⟩
    · skip
      refine xH_at hC (name := "java/util/NoSuchElementException") [] ⟨0, 8, 11, 28⟩ [] (hT.trans rfl) (fun y hy => nomatch hy) rfl (by decide) (x_in (x_of (xtb_4 (List.mem_of_getElem? (i := 166) (by decide +kernel)))) (by decide +kernel)) (x_inN (xtb_4 (List.mem_of_getElem? (i := 175) (by decide +kernel))) (by decide +kernel)) (fun q9 => ?_)
      show xX P Θ 11 _ _ _ _ _ _
      refine x_astore_n hC d_Law_failedCommand_11 rfl (Nat.le_of_ble_eq_true rfl) (L1 := [some (.ref b), some (.ref o), some (.ref q9)]) rfl ?_
      refine x_iconst hC d_Law_failedCommand_12 (v := nI 1) (by decide) ?_
      exact hret _ _ _ _ _ _ _ d_Law_failedCommand_13 (by decide) (by decide) rfl (Or.inr (⟨rfl, hM, ho, hcond, fun a9 _ _ => rfl⟩))
  · skip
    obtain ⟨rfl, rfl, rfl, pn0⟩ := hp9
    refine x_i2l hC d_Law_failedCommand_6 rfl ?_
    refine x_last hC ho (j := 0) ⟨rfl, by decide, by decide⟩ d_Law_failedCommand_7 (g1 := vp_updL g0 0 (((M.2.2.2.2.2.2.2.2.2)).toInt64)) rfl ?_
    refine x_goto hC d_Law_failedCommand_8 (tgt := 14) (by decide) ?_
    refine x_iconst hC d_Law_failedCommand_14 (v := nI 0) (by decide) ?_
    exact hret _ _ _ _ _ _ _ d_Law_failedCommand_15 (by decide) (by decide) rfl (Or.inl ⟨rfl, xMC_fr hM (fun a9 q1 q2 => xup_ne (by omega)), xup_eq, pn0, fun a9 q1 q2 => xup_ne q2⟩)

theorem d_Law_undo_0 : decode method_42_code 0 = .ok (.aload_n 1, 1) := by decide +kernel
theorem d_Law_undo_1 : decode method_42_code 1 = .ok (.iconst 0, 1) := by decide +kernel
theorem d_Law_undo_2 : decode method_42_code 2 = .ok (.aload_n 0, 1) := by decide +kernel
theorem d_Law_undo_3 : decode method_42_code 3 = .ok (.invokevirtual 147, 3) := by decide +kernel
theorem d_Law_undo_6 : decode method_42_code 6 = .ok (.i2l, 1) := by decide +kernel
theorem d_Law_undo_7 : decode method_42_code 7 = .ok (.lastore, 1) := by decide +kernel
theorem d_Law_undo_8 : decode method_42_code 8 = .ok (.goto 6, 3) := by decide +kernel
theorem d_Law_undo_11 : decode method_42_code 11 = .ok (.astore_n 2, 1) := by decide +kernel
theorem d_Law_undo_12 : decode method_42_code 12 = .ok (.iconst 1, 1) := by decide +kernel
theorem d_Law_undo_13 : decode method_42_code 13 = .ok (.ireturn, 1) := by decide +kernel
theorem d_Law_undo_14 : decode method_42_code 14 = .ok (.iconst 0, 1) := by decide +kernel
theorem d_Law_undo_15 : decode method_42_code 15 = .ok (.ireturn, 1) := by decide +kernel
set_option maxHeartbeats 4000000 in
set_option maxRecDepth 20000 in
theorem c_Law_undo {P : xP} {F : xF} {z : Nat} {b : Nat} {cm : cmT} {M : mcS} {o : Nat} {g0 : Nat → Int64} (hM : xMC F (cm) (b) (M)) (ho : F (o) = some (.inr (2, 1, fun b9 => .long (g0 b9)))) (hZx : xZx P) (hpp0 : M.2.2.2.2.2.2.1 < 100000) (hun0 : M.2.2.2.2.2.2.2.1 < 100000) (hup0 : M.2.2.2.2.2.2.2.1 ≤ M.2.2.2.2.2.2.1) (hNx : xNx P) (hbo : o < b ∨ b + 566 ≤ o) : xMw P xy_Law_undo [(0, 8, 11, 19)] [.ref b, .ref o] F (z) 1 6 (fun r9 F9 z9 => (r9 = some (.int (nI 0)) ∧ xMC F9 (cm) (b) ((undM M)) ∧ F9 (o) = some (.inr (2, 1, fun b9 => .long (vp_updL g0 0 (((nI (M.2.2.2.2.2.2.2.1 - 1))).toInt64) b9))) ∧ (0 < M.2.2.2.2.2.2.2.1) ∧ (∀ a9 : Nat, (a9 < b ∨ b + 566 ≤ a9) → a9 ≠ o → F9 a9 = F a9)) ∨ (r9 = some (.int (nI 1)) ∧ xMC F9 (cm) (b) (M) ∧ F9 (o) = some (.inr (2, 1, fun b9 => .long (g0 b9))) ∧ (M.2.2.2.2.2.2.2.1 = 0) ∧ (∀ a9 : Nat, (a9 < b ∨ b + 566 ≤ a9) → a9 ≠ o → F9 a9 = F a9))) := by
  refine xMw_i .int rfl (Nat.le_of_ble_eq_true rfl) (L0 := [some (.ref b), some (.ref o), none]) rfl rfl fun Θ hC hT hret => ?_
  refine x_aload_n hC d_Law_undo_0 rfl rfl ?_
  refine x_iconst hC d_Law_undo_1 (v := nI 0) (by decide) ?_
  refine x_aload_n hC d_Law_undo_2 rfl rfl ?_
  obtain ⟨b00, -⟩ := id hM
  refine x_callCV hC kv_Law_147 (c_MessageCoder_undo (hM := hM) (hZx := hZx) (hpp0 := hpp0) (hun0 := hun0) (hup0 := hup0)) b00 rfl rfl (Nat.le_of_ble_eq_true rfl) rfl rfl rfl (Nat.le_of_ble_eq_true rfl) (by decide) d_Law_undo_3 (fun E9 F9 z9 hp9 => ?_) (fun r9 F9 z9 hp9 => ?_)
  · skip
    rcases hp9 with ⟨rfl, hM9, hcond, hag9⟩
    · skip
      refine xH_at hC (name := "java/lang/IllegalStateException") [] ⟨0, 8, 11, 19⟩ [] (hT.trans rfl) (fun y hy => nomatch hy) rfl (by decide) (x_in (x_of (xtb_4 (List.mem_of_getElem? (i := 128) (by decide +kernel)))) (by decide +kernel)) (x_inN (xtb_4 (List.mem_of_getElem? (i := 138) (by decide +kernel))) (by decide +kernel)) (fun q9 => ?_)
      show xX P Θ 11 _ _ _ _ _ _
      refine x_astore_n hC d_Law_undo_11 rfl (Nat.le_of_ble_eq_true rfl) (L1 := [some (.ref b), some (.ref o), some (.ref q9)]) rfl ?_
      refine x_iconst hC d_Law_undo_12 (v := nI 1) (by decide) ?_
      exact hret _ _ _ _ _ _ _ d_Law_undo_13 (by decide) (by decide) rfl (Or.inr (⟨rfl, hM9, (hag9 _ hbo).trans ho, hcond, fun a9 q1 _ => hag9 a9 q1⟩))
  · skip
    obtain ⟨rfl, rfl, hM9, pn0, hag9⟩ := hp9
    have ho9 := (hag9 _ hbo).trans ho
    refine x_i2l hC d_Law_undo_6 rfl ?_
    refine x_last hC ho9 (j := 0) ⟨rfl, by decide, by decide⟩ d_Law_undo_7 (g1 := vp_updL g0 0 (((nI (M.2.2.2.2.2.2.2.1 - 1))).toInt64)) rfl ?_
    refine x_goto hC d_Law_undo_8 (tgt := 14) (by decide) ?_
    refine x_iconst hC d_Law_undo_14 (v := nI 0) (by decide) ?_
    exact hret _ _ _ _ _ _ _ d_Law_undo_15 (by decide) (by decide) rfl (Or.inl ⟨rfl, xMC_fr hM9 (fun a9 q1 q2 => xup_ne (by omega)), xup_eq, pn0, fun a9 q1 q2 => (xup_ne q2).trans (hag9 a9 q1)⟩)

theorem d_Law_restore_0 : decode method_43_code 0 = .ok (.aload_n 1, 1) := by decide +kernel
theorem d_Law_restore_1 : decode method_43_code 1 = .ok (.iconst 0, 1) := by decide +kernel
theorem d_Law_restore_2 : decode method_43_code 2 = .ok (.aload_n 0, 1) := by decide +kernel
theorem d_Law_restore_3 : decode method_43_code 3 = .ok (.invokevirtual 150, 3) := by decide +kernel
theorem d_Law_restore_6 : decode method_43_code 6 = .ok (.i2l, 1) := by decide +kernel
theorem d_Law_restore_7 : decode method_43_code 7 = .ok (.lastore, 1) := by decide +kernel
theorem d_Law_restore_8 : decode method_43_code 8 = .ok (.goto 6, 3) := by decide +kernel
theorem d_Law_restore_11 : decode method_43_code 11 = .ok (.astore_n 2, 1) := by decide +kernel
theorem d_Law_restore_12 : decode method_43_code 12 = .ok (.iconst 1, 1) := by decide +kernel
theorem d_Law_restore_13 : decode method_43_code 13 = .ok (.ireturn, 1) := by decide +kernel
theorem d_Law_restore_14 : decode method_43_code 14 = .ok (.iconst 0, 1) := by decide +kernel
theorem d_Law_restore_15 : decode method_43_code 15 = .ok (.ireturn, 1) := by decide +kernel
set_option maxHeartbeats 4000000 in
set_option maxRecDepth 20000 in
theorem c_Law_restore {P : xP} {F : xF} {z : Nat} {b : Nat} {cm : cmT} {M : mcS} {o : Nat} {g0 : Nat → Int64} (hM : xMC F (cm) (b) (M)) (ho : F (o) = some (.inr (2, 1, fun b9 => .long (g0 b9)))) (hZx : xZx P) (hsv0 : M.2.2.2.2.2.1 ≤ 1) (hNx : xNx P) (hbo : o < b ∨ b + 566 ≤ o) : xMw P xy_Law_restore [(0, 8, 11, 19)] [.ref b, .ref o] F (z) 1 6 (fun r9 F9 z9 => (r9 = some (.int (nI 0)) ∧ xMC F9 (cm) (b) ((resM M)) ∧ F9 (o) = some (.inr (2, 1, fun b9 => .long (vp_updL g0 0 (((nI (M.2.1.2.2.1.1))).toInt64) b9))) ∧ (0 < M.2.2.2.2.2.1) ∧ (∀ a9 : Nat, (a9 < b ∨ b + 566 ≤ a9) → a9 ≠ o → F9 a9 = F a9)) ∨ (r9 = some (.int (nI 1)) ∧ xMC F9 (cm) (b) (M) ∧ F9 (o) = some (.inr (2, 1, fun b9 => .long (g0 b9))) ∧ (M.2.2.2.2.2.1 = 0) ∧ (∀ a9 : Nat, (a9 < b ∨ b + 566 ≤ a9) → a9 ≠ o → F9 a9 = F a9))) := by
  refine xMw_i .int rfl (Nat.le_of_ble_eq_true rfl) (L0 := [some (.ref b), some (.ref o), none]) rfl rfl fun Θ hC hT hret => ?_
  refine x_aload_n hC d_Law_restore_0 rfl rfl ?_
  refine x_iconst hC d_Law_restore_1 (v := nI 0) (by decide) ?_
  refine x_aload_n hC d_Law_restore_2 rfl rfl ?_
  obtain ⟨b00, -⟩ := id hM
  refine x_callCV hC kv_Law_150 (c_MessageCoder_restore (hM := hM) (hZx := hZx) (hsv0 := hsv0)) b00 rfl rfl (Nat.le_of_ble_eq_true rfl) rfl rfl rfl (Nat.le_of_ble_eq_true rfl) (by decide) d_Law_restore_3 (fun E9 F9 z9 hp9 => ?_) (fun r9 F9 z9 hp9 => ?_)
  · skip
    rcases hp9 with ⟨rfl, hM9, hcond, hag9⟩
    · skip
      refine xH_at hC (name := "java/lang/IllegalStateException") [] ⟨0, 8, 11, 19⟩ [] (hT.trans rfl) (fun y hy => nomatch hy) rfl (by decide) (x_in (x_of (xtb_4 (List.mem_of_getElem? (i := 128) (by decide +kernel)))) (by decide +kernel)) (x_inN (xtb_4 (List.mem_of_getElem? (i := 138) (by decide +kernel))) (by decide +kernel)) (fun q9 => ?_)
      show xX P Θ 11 _ _ _ _ _ _
      refine x_astore_n hC d_Law_restore_11 rfl (Nat.le_of_ble_eq_true rfl) (L1 := [some (.ref b), some (.ref o), some (.ref q9)]) rfl ?_
      refine x_iconst hC d_Law_restore_12 (v := nI 1) (by decide) ?_
      exact hret _ _ _ _ _ _ _ d_Law_restore_13 (by decide) (by decide) rfl (Or.inr (⟨rfl, hM9, (hag9 _ hbo).trans ho, hcond, fun a9 q1 _ => hag9 a9 q1⟩))
  · skip
    obtain ⟨rfl, rfl, hM9, pn0, hag9⟩ := hp9
    have ho9 := (hag9 _ hbo).trans ho
    refine x_i2l hC d_Law_restore_6 rfl ?_
    refine x_last hC ho9 (j := 0) ⟨rfl, by decide, by decide⟩ d_Law_restore_7 (g1 := vp_updL g0 0 (((nI (M.2.1.2.2.1.1))).toInt64)) rfl ?_
    refine x_goto hC d_Law_restore_8 (tgt := 14) (by decide) ?_
    refine x_iconst hC d_Law_restore_14 (v := nI 0) (by decide) ?_
    exact hret _ _ _ _ _ _ _ d_Law_restore_15 (by decide) (by decide) rfl (Or.inl ⟨rfl, xMC_fr hM9 (fun a9 q1 q2 => xup_ne (by omega)), xup_eq, pn0, fun a9 q1 q2 => (xup_ne q2).trans (hag9 a9 q1)⟩)

theorem kw_Law_157 : xLW "MessageCoderLaw" 157 xy_Law_setWeight [(0, 10, 13, 13)] 4 := ⟨⟨x_in (x_of (xtb_4 (List.mem_of_getElem? (i := 46) (by decide +kernel)))) (by decide +kernel), x_in (x_of (xtb_1 (List.mem_of_getElem? (i := 0) (by decide +kernel)))) (by decide +kernel), ⟨by decide, by decide, by decide +kernel⟩, by decide⟩, x_in (x_of (xtb_4 (List.mem_of_getElem? (i := 44) (by decide +kernel)))) (by decide +kernel), x_in (x_of (xtb_4 (List.mem_of_getElem? (i := 45) (by decide +kernel)))) (by decide +kernel)⟩
theorem kw_Law_166 : xLW "MessageCoderLaw" 166 xy_Law_addSymbol [(0, 9, 12, 13), (0, 9, 15, 19)] 3 := ⟨⟨x_in (x_of (xtb_4 (List.mem_of_getElem? (i := 127) (by decide +kernel)))) (by decide +kernel), x_in (x_of (xtb_1 (List.mem_of_getElem? (i := 0) (by decide +kernel)))) (by decide +kernel), ⟨by decide, by decide, by decide +kernel⟩, by decide⟩, x_in (x_of (xtb_4 (List.mem_of_getElem? (i := 125) (by decide +kernel)))) (by decide +kernel), x_in (x_of (xtb_4 (List.mem_of_getElem? (i := 126) (by decide +kernel)))) (by decide +kernel)⟩
theorem kw_Law_174 : xLW "MessageCoderLaw" 174 xy_Law_post [(0, 9, 12, 13), (0, 9, 15, 19)] 3 := ⟨⟨x_in (x_of (xtb_4 (List.mem_of_getElem? (i := 154) (by decide +kernel)))) (by decide +kernel), x_in (x_of (xtb_1 (List.mem_of_getElem? (i := 0) (by decide +kernel)))) (by decide +kernel), ⟨by decide, by decide, by decide +kernel⟩, by decide⟩, x_in (x_of (xtb_4 (List.mem_of_getElem? (i := 152) (by decide +kernel)))) (by decide +kernel), x_in (x_of (xtb_4 (List.mem_of_getElem? (i := 153) (by decide +kernel)))) (by decide +kernel)⟩
theorem kw_Law_178 : xLW "MessageCoderLaw" 178 xy_Law_drop [(0, 9, 12, 28)] 3 := ⟨⟨x_in (x_of (xtb_4 (List.mem_of_getElem? (i := 165) (by decide +kernel)))) (by decide +kernel), x_in (x_of (xtb_1 (List.mem_of_getElem? (i := 0) (by decide +kernel)))) (by decide +kernel), ⟨by decide, by decide, by decide +kernel⟩, by decide⟩, x_in (x_of (xtb_4 (List.mem_of_getElem? (i := 163) (by decide +kernel)))) (by decide +kernel), x_in (x_of (xtb_4 (List.mem_of_getElem? (i := 164) (by decide +kernel)))) (by decide +kernel)⟩
theorem kw_Law_181 : xLW "MessageCoderLaw" 181 xy_Law_setPriority [(0, 10, 13, 28), (0, 10, 17, 13)] 4 := ⟨⟨x_in (x_of (xtb_4 (List.mem_of_getElem? (i := 191) (by decide +kernel)))) (by decide +kernel), x_in (x_of (xtb_1 (List.mem_of_getElem? (i := 0) (by decide +kernel)))) (by decide +kernel), ⟨by decide, by decide, by decide +kernel⟩, by decide⟩, x_in (x_of (xtb_4 (List.mem_of_getElem? (i := 189) (by decide +kernel)))) (by decide +kernel), x_in (x_of (xtb_4 (List.mem_of_getElem? (i := 190) (by decide +kernel)))) (by decide +kernel)⟩
theorem kw_Law_185 : xLW "MessageCoderLaw" 185 xy_Law_learn [(0, 9, 12, 28)] 3 := ⟨⟨x_in (x_of (xtb_4 (List.mem_of_getElem? (i := 200) (by decide +kernel)))) (by decide +kernel), x_in (x_of (xtb_1 (List.mem_of_getElem? (i := 0) (by decide +kernel)))) (by decide +kernel), ⟨by decide, by decide, by decide +kernel⟩, by decide⟩, x_in (x_of (xtb_4 (List.mem_of_getElem? (i := 198) (by decide +kernel)))) (by decide +kernel), x_in (x_of (xtb_4 (List.mem_of_getElem? (i := 199) (by decide +kernel)))) (by decide +kernel)⟩
theorem kw_Law_188 : xLW "MessageCoderLaw" 188 xy_Law_send [(0, 8, 11, 28)] 2 := ⟨⟨x_in (x_of (xtb_4 (List.mem_of_getElem? (i := 209) (by decide +kernel)))) (by decide +kernel), x_in (x_of (xtb_1 (List.mem_of_getElem? (i := 0) (by decide +kernel)))) (by decide +kernel), ⟨by decide, by decide, by decide +kernel⟩, by decide⟩, x_in (x_of (xtb_4 (List.mem_of_getElem? (i := 207) (by decide +kernel)))) (by decide +kernel), x_in (x_of (xtb_4 (List.mem_of_getElem? (i := 208) (by decide +kernel)))) (by decide +kernel)⟩
theorem kw_Law_192 : xLW "MessageCoderLaw" 192 xy_Law_flip [(0, 9, 12, 44)] 3 := ⟨⟨x_in (x_of (xtb_4 (List.mem_of_getElem? (i := 219) (by decide +kernel)))) (by decide +kernel), x_in (x_of (xtb_1 (List.mem_of_getElem? (i := 0) (by decide +kernel)))) (by decide +kernel), ⟨by decide, by decide, by decide +kernel⟩, by decide⟩, x_in (x_of (xtb_4 (List.mem_of_getElem? (i := 217) (by decide +kernel)))) (by decide +kernel), x_in (x_of (xtb_4 (List.mem_of_getElem? (i := 218) (by decide +kernel)))) (by decide +kernel)⟩
theorem kw_Law_195 : xLW "MessageCoderLaw" 195 xy_Law_receive [(0, 8, 11, 28)] 2 := ⟨⟨x_in (x_of (xtb_5 (List.mem_of_getElem? (i := 25) (by decide +kernel)))) (by decide +kernel), x_in (x_of (xtb_1 (List.mem_of_getElem? (i := 0) (by decide +kernel)))) (by decide +kernel), ⟨by decide, by decide, by decide +kernel⟩, by decide⟩, x_in (x_of (xtb_5 (List.mem_of_getElem? (i := 23) (by decide +kernel)))) (by decide +kernel), x_in (x_of (xtb_5 (List.mem_of_getElem? (i := 24) (by decide +kernel)))) (by decide +kernel)⟩
theorem kw_Law_198 : xLW "MessageCoderLaw" 198 xy_Law_weightOf [(0, 9, 12, 13)] 3 := ⟨⟨x_in (x_of (xtb_5 (List.mem_of_getElem? (i := 35) (by decide +kernel)))) (by decide +kernel), x_in (x_of (xtb_1 (List.mem_of_getElem? (i := 0) (by decide +kernel)))) (by decide +kernel), ⟨by decide, by decide, by decide +kernel⟩, by decide⟩, x_in (x_of (xtb_5 (List.mem_of_getElem? (i := 33) (by decide +kernel)))) (by decide +kernel), x_in (x_of (xtb_5 (List.mem_of_getElem? (i := 34) (by decide +kernel)))) (by decide +kernel)⟩
theorem kw_Law_205 : xLW "MessageCoderLaw" 205 xy_Law_codeLength [(0, 9, 12, 13)] 3 := ⟨⟨x_in (x_of (xtb_5 (List.mem_of_getElem? (i := 46) (by decide +kernel)))) (by decide +kernel), x_in (x_of (xtb_1 (List.mem_of_getElem? (i := 0) (by decide +kernel)))) (by decide +kernel), ⟨by decide, by decide, by decide +kernel⟩, by decide⟩, x_in (x_of (xtb_5 (List.mem_of_getElem? (i := 44) (by decide +kernel)))) (by decide +kernel), x_in (x_of (xtb_5 (List.mem_of_getElem? (i := 45) (by decide +kernel)))) (by decide +kernel)⟩
theorem kw_Law_208 : xLW "MessageCoderLaw" 208 xy_Law_codeValue [(0, 9, 12, 13)] 3 := ⟨⟨x_in (x_of (xtb_5 (List.mem_of_getElem? (i := 53) (by decide +kernel)))) (by decide +kernel), x_in (x_of (xtb_1 (List.mem_of_getElem? (i := 0) (by decide +kernel)))) (by decide +kernel), ⟨by decide, by decide, by decide +kernel⟩, by decide⟩, x_in (x_of (xtb_5 (List.mem_of_getElem? (i := 51) (by decide +kernel)))) (by decide +kernel), x_in (x_of (xtb_5 (List.mem_of_getElem? (i := 52) (by decide +kernel)))) (by decide +kernel)⟩
theorem kw_Law_211 : xLW "MessageCoderLaw" 211 xy_Law_symbolByCode [(0, 9, 12, 28)] 3 := ⟨⟨x_in (x_of (xtb_5 (List.mem_of_getElem? (i := 60) (by decide +kernel)))) (by decide +kernel), x_in (x_of (xtb_1 (List.mem_of_getElem? (i := 0) (by decide +kernel)))) (by decide +kernel), ⟨by decide, by decide, by decide +kernel⟩, by decide⟩, x_in (x_of (xtb_5 (List.mem_of_getElem? (i := 58) (by decide +kernel)))) (by decide +kernel), x_in (x_of (xtb_5 (List.mem_of_getElem? (i := 59) (by decide +kernel)))) (by decide +kernel)⟩
theorem kw_Law_239 : xLW "MessageCoderLaw" 239 xy_Law_draftAt [(0, 9, 12, 44)] 3 := ⟨⟨x_in (x_of (xtb_5 (List.mem_of_getElem? (i := 68) (by decide +kernel)))) (by decide +kernel), x_in (x_of (xtb_1 (List.mem_of_getElem? (i := 0) (by decide +kernel)))) (by decide +kernel), ⟨by decide, by decide, by decide +kernel⟩, by decide⟩, x_in (x_of (xtb_5 (List.mem_of_getElem? (i := 66) (by decide +kernel)))) (by decide +kernel), x_in (x_of (xtb_5 (List.mem_of_getElem? (i := 67) (by decide +kernel)))) (by decide +kernel)⟩
theorem kw_Law_250 : xLW "MessageCoderLaw" 250 xy_Law_messageAt [(0, 9, 12, 28)] 3 := ⟨⟨x_in (x_of (xtb_5 (List.mem_of_getElem? (i := 78) (by decide +kernel)))) (by decide +kernel), x_in (x_of (xtb_1 (List.mem_of_getElem? (i := 0) (by decide +kernel)))) (by decide +kernel), ⟨by decide, by decide, by decide +kernel⟩, by decide⟩, x_in (x_of (xtb_5 (List.mem_of_getElem? (i := 76) (by decide +kernel)))) (by decide +kernel), x_in (x_of (xtb_5 (List.mem_of_getElem? (i := 77) (by decide +kernel)))) (by decide +kernel)⟩
theorem kw_Law_253 : xLW "MessageCoderLaw" 253 xy_Law_priorityOf [(0, 9, 12, 28)] 3 := ⟨⟨x_in (x_of (xtb_5 (List.mem_of_getElem? (i := 86) (by decide +kernel)))) (by decide +kernel), x_in (x_of (xtb_1 (List.mem_of_getElem? (i := 0) (by decide +kernel)))) (by decide +kernel), ⟨by decide, by decide, by decide +kernel⟩, by decide⟩, x_in (x_of (xtb_5 (List.mem_of_getElem? (i := 84) (by decide +kernel)))) (by decide +kernel), x_in (x_of (xtb_5 (List.mem_of_getElem? (i := 85) (by decide +kernel)))) (by decide +kernel)⟩
theorem kw_Law_256 : xLW "MessageCoderLaw" 256 xy_Law_lengthOf [(0, 9, 12, 28)] 3 := ⟨⟨x_in (x_of (xtb_5 (List.mem_of_getElem? (i := 98) (by decide +kernel)))) (by decide +kernel), x_in (x_of (xtb_1 (List.mem_of_getElem? (i := 0) (by decide +kernel)))) (by decide +kernel), ⟨by decide, by decide, by decide +kernel⟩, by decide⟩, x_in (x_of (xtb_5 (List.mem_of_getElem? (i := 96) (by decide +kernel)))) (by decide +kernel), x_in (x_of (xtb_5 (List.mem_of_getElem? (i := 97) (by decide +kernel)))) (by decide +kernel)⟩
theorem kw_Law_259 : xLW "MessageCoderLaw" 259 xy_Law_symbolAt [(0, 10, 13, 28), (0, 10, 17, 44)] 4 := ⟨⟨x_in (x_of (xtb_5 (List.mem_of_getElem? (i := 105) (by decide +kernel)))) (by decide +kernel), x_in (x_of (xtb_1 (List.mem_of_getElem? (i := 0) (by decide +kernel)))) (by decide +kernel), ⟨by decide, by decide, by decide +kernel⟩, by decide⟩, x_in (x_of (xtb_5 (List.mem_of_getElem? (i := 103) (by decide +kernel)))) (by decide +kernel), x_in (x_of (xtb_5 (List.mem_of_getElem? (i := 104) (by decide +kernel)))) (by decide +kernel)⟩
theorem kw_Law_262 : xLW "MessageCoderLaw" 262 xy_Law_countOf [(0, 10, 13, 28), (0, 10, 17, 13)] 4 := ⟨⟨x_in (x_of (xtb_5 (List.mem_of_getElem? (i := 112) (by decide +kernel)))) (by decide +kernel), x_in (x_of (xtb_1 (List.mem_of_getElem? (i := 0) (by decide +kernel)))) (by decide +kernel), ⟨by decide, by decide, by decide +kernel⟩, by decide⟩, x_in (x_of (xtb_5 (List.mem_of_getElem? (i := 110) (by decide +kernel)))) (by decide +kernel), x_in (x_of (xtb_5 (List.mem_of_getElem? (i := 111) (by decide +kernel)))) (by decide +kernel)⟩
theorem kw_Law_266 : xLW "MessageCoderLaw" 266 xy_Law_bitCount [(0, 9, 12, 28)] 3 := ⟨⟨x_in (x_of (xtb_5 (List.mem_of_getElem? (i := 120) (by decide +kernel)))) (by decide +kernel), x_in (x_of (xtb_1 (List.mem_of_getElem? (i := 0) (by decide +kernel)))) (by decide +kernel), ⟨by decide, by decide, by decide +kernel⟩, by decide⟩, x_in (x_of (xtb_5 (List.mem_of_getElem? (i := 118) (by decide +kernel)))) (by decide +kernel), x_in (x_of (xtb_5 (List.mem_of_getElem? (i := 119) (by decide +kernel)))) (by decide +kernel)⟩
theorem kw_Law_269 : xLW "MessageCoderLaw" 269 xy_Law_bitAt [(0, 10, 13, 28), (0, 10, 17, 44)] 4 := ⟨⟨x_in (x_of (xtb_5 (List.mem_of_getElem? (i := 127) (by decide +kernel)))) (by decide +kernel), x_in (x_of (xtb_1 (List.mem_of_getElem? (i := 0) (by decide +kernel)))) (by decide +kernel), ⟨by decide, by decide, by decide +kernel⟩, by decide⟩, x_in (x_of (xtb_5 (List.mem_of_getElem? (i := 125) (by decide +kernel)))) (by decide +kernel), x_in (x_of (xtb_5 (List.mem_of_getElem? (i := 126) (by decide +kernel)))) (by decide +kernel)⟩
theorem kw_Law_272 : xLW "MessageCoderLaw" 272 xy_Law_checksum [(0, 9, 12, 28)] 3 := ⟨⟨x_in (x_of (xtb_5 (List.mem_of_getElem? (i := 135) (by decide +kernel)))) (by decide +kernel), x_in (x_of (xtb_1 (List.mem_of_getElem? (i := 0) (by decide +kernel)))) (by decide +kernel), ⟨by decide, by decide, by decide +kernel⟩, by decide⟩, x_in (x_of (xtb_5 (List.mem_of_getElem? (i := 133) (by decide +kernel)))) (by decide +kernel), x_in (x_of (xtb_5 (List.mem_of_getElem? (i := 134) (by decide +kernel)))) (by decide +kernel)⟩
theorem kw_Law_275 : xLW "MessageCoderLaw" 275 xy_Law_checksumByTable [(0, 9, 12, 28)] 3 := ⟨⟨x_in (x_of (xtb_5 (List.mem_of_getElem? (i := 142) (by decide +kernel)))) (by decide +kernel), x_in (x_of (xtb_1 (List.mem_of_getElem? (i := 0) (by decide +kernel)))) (by decide +kernel), ⟨by decide, by decide, by decide +kernel⟩, by decide⟩, x_in (x_of (xtb_5 (List.mem_of_getElem? (i := 140) (by decide +kernel)))) (by decide +kernel), x_in (x_of (xtb_5 (List.mem_of_getElem? (i := 141) (by decide +kernel)))) (by decide +kernel)⟩
theorem kw_Law_278 : xLW "MessageCoderLaw" 278 xy_Law_areEqual [(0, 17, 20, 28)] 4 := ⟨⟨x_in (x_of (xtb_5 (List.mem_of_getElem? (i := 149) (by decide +kernel)))) (by decide +kernel), x_in (x_of (xtb_1 (List.mem_of_getElem? (i := 0) (by decide +kernel)))) (by decide +kernel), ⟨by decide, by decide, by decide +kernel⟩, by decide⟩, x_in (x_of (xtb_5 (List.mem_of_getElem? (i := 147) (by decide +kernel)))) (by decide +kernel), x_in (x_of (xtb_5 (List.mem_of_getElem? (i := 148) (by decide +kernel)))) (by decide +kernel)⟩
theorem kw_Law_281 : xLW "MessageCoderLaw" 281 xy_Law_commonLength [(0, 10, 13, 28)] 4 := ⟨⟨x_in (x_of (xtb_5 (List.mem_of_getElem? (i := 157) (by decide +kernel)))) (by decide +kernel), x_in (x_of (xtb_1 (List.mem_of_getElem? (i := 0) (by decide +kernel)))) (by decide +kernel), ⟨by decide, by decide, by decide +kernel⟩, by decide⟩, x_in (x_of (xtb_5 (List.mem_of_getElem? (i := 155) (by decide +kernel)))) (by decide +kernel), x_in (x_of (xtb_5 (List.mem_of_getElem? (i := 156) (by decide +kernel)))) (by decide +kernel)⟩
theorem kw_Law_292 : xLW "MessageCoderLaw" 292 xy_Law_frameBit [(0, 9, 12, 44)] 3 := ⟨⟨x_in (x_of (xtb_5 (List.mem_of_getElem? (i := 168) (by decide +kernel)))) (by decide +kernel), x_in (x_of (xtb_1 (List.mem_of_getElem? (i := 0) (by decide +kernel)))) (by decide +kernel), ⟨by decide, by decide, by decide +kernel⟩, by decide⟩, x_in (x_of (xtb_5 (List.mem_of_getElem? (i := 166) (by decide +kernel)))) (by decide +kernel), x_in (x_of (xtb_5 (List.mem_of_getElem? (i := 167) (by decide +kernel)))) (by decide +kernel)⟩
theorem kw_Law_295 : xLW "MessageCoderLaw" 295 xy_Law_syndrome [(0, 9, 12, 44)] 3 := ⟨⟨x_in (x_of (xtb_5 (List.mem_of_getElem? (i := 181) (by decide +kernel)))) (by decide +kernel), x_in (x_of (xtb_1 (List.mem_of_getElem? (i := 0) (by decide +kernel)))) (by decide +kernel), ⟨by decide, by decide, by decide +kernel⟩, by decide⟩, x_in (x_of (xtb_5 (List.mem_of_getElem? (i := 179) (by decide +kernel)))) (by decide +kernel), x_in (x_of (xtb_5 (List.mem_of_getElem? (i := 180) (by decide +kernel)))) (by decide +kernel)⟩
theorem kw_Law_298 : xLW "MessageCoderLaw" 298 xy_Law_correctedBits [(0, 9, 12, 44)] 3 := ⟨⟨x_in (x_of (xtb_5 (List.mem_of_getElem? (i := 198) (by decide +kernel)))) (by decide +kernel), x_in (x_of (xtb_1 (List.mem_of_getElem? (i := 0) (by decide +kernel)))) (by decide +kernel), ⟨by decide, by decide, by decide +kernel⟩, by decide⟩, x_in (x_of (xtb_5 (List.mem_of_getElem? (i := 196) (by decide +kernel)))) (by decide +kernel), x_in (x_of (xtb_5 (List.mem_of_getElem? (i := 197) (by decide +kernel)))) (by decide +kernel)⟩
theorem kw_Law_301 : xLW "MessageCoderLaw" 301 xy_Law_correctedBitsByDistance [(0, 9, 12, 44)] 3 := ⟨⟨x_in (x_of (xtb_5 (List.mem_of_getElem? (i := 207) (by decide +kernel)))) (by decide +kernel), x_in (x_of (xtb_1 (List.mem_of_getElem? (i := 0) (by decide +kernel)))) (by decide +kernel), ⟨by decide, by decide, by decide +kernel⟩, by decide⟩, x_in (x_of (xtb_5 (List.mem_of_getElem? (i := 205) (by decide +kernel)))) (by decide +kernel), x_in (x_of (xtb_5 (List.mem_of_getElem? (i := 206) (by decide +kernel)))) (by decide +kernel)⟩
theorem kw_Law_308 : xLW "MessageCoderLaw" 308 xy_Law_isIntact [(0, 15, 18, 28)] 2 := ⟨⟨x_in (x_of (xtb_5 (List.mem_of_getElem? (i := 215) (by decide +kernel)))) (by decide +kernel), x_in (x_of (xtb_1 (List.mem_of_getElem? (i := 0) (by decide +kernel)))) (by decide +kernel), ⟨by decide, by decide, by decide +kernel⟩, by decide⟩, x_in (x_of (xtb_5 (List.mem_of_getElem? (i := 213) (by decide +kernel)))) (by decide +kernel), x_in (x_of (xtb_5 (List.mem_of_getElem? (i := 214) (by decide +kernel)))) (by decide +kernel)⟩
theorem kw_Law_315 : xLW "MessageCoderLaw" 315 xy_Law_receivedAt [(0, 9, 12, 44)] 3 := ⟨⟨x_in (x_of (xtb_5 (List.mem_of_getElem? (i := 223) (by decide +kernel)))) (by decide +kernel), x_in (x_of (xtb_1 (List.mem_of_getElem? (i := 0) (by decide +kernel)))) (by decide +kernel), ⟨by decide, by decide, by decide +kernel⟩, by decide⟩, x_in (x_of (xtb_5 (List.mem_of_getElem? (i := 221) (by decide +kernel)))) (by decide +kernel), x_in (x_of (xtb_5 (List.mem_of_getElem? (i := 222) (by decide +kernel)))) (by decide +kernel)⟩
theorem kw_Law_334 : xLW "MessageCoderLaw" 334 xy_Law_failedShare [(0, 8, 11, 124)] 2 := ⟨⟨x_in (x_of (xtb_5 (List.mem_of_getElem? (i := 230) (by decide +kernel)))) (by decide +kernel), x_in (x_of (xtb_1 (List.mem_of_getElem? (i := 0) (by decide +kernel)))) (by decide +kernel), ⟨by decide, by decide, by decide +kernel⟩, by decide⟩, x_in (x_of (xtb_5 (List.mem_of_getElem? (i := 228) (by decide +kernel)))) (by decide +kernel), x_in (x_of (xtb_5 (List.mem_of_getElem? (i := 229) (by decide +kernel)))) (by decide +kernel)⟩
theorem kw_Law_342 : xLW "MessageCoderLaw" 342 xy_Law_formatMessage [(0, 9, 12, 28)] 3 := ⟨⟨x_in (x_of (xtb_6 (List.mem_of_getElem? (i := 14) (by decide +kernel)))) (by decide +kernel), x_in (x_of (xtb_1 (List.mem_of_getElem? (i := 0) (by decide +kernel)))) (by decide +kernel), ⟨by decide, by decide, by decide +kernel⟩, by decide⟩, x_in (x_of (xtb_6 (List.mem_of_getElem? (i := 12) (by decide +kernel)))) (by decide +kernel), x_in (x_of (xtb_6 (List.mem_of_getElem? (i := 13) (by decide +kernel)))) (by decide +kernel)⟩
theorem kw_Law_345 : xLW "MessageCoderLaw" 345 xy_Law_formatCode [(0, 9, 12, 13)] 3 := ⟨⟨x_in (x_of (xtb_6 (List.mem_of_getElem? (i := 32) (by decide +kernel)))) (by decide +kernel), x_in (x_of (xtb_1 (List.mem_of_getElem? (i := 0) (by decide +kernel)))) (by decide +kernel), ⟨by decide, by decide, by decide +kernel⟩, by decide⟩, x_in (x_of (xtb_6 (List.mem_of_getElem? (i := 30) (by decide +kernel)))) (by decide +kernel), x_in (x_of (xtb_6 (List.mem_of_getElem? (i := 31) (by decide +kernel)))) (by decide +kernel)⟩
theorem kw_Law_348 : xLW "MessageCoderLaw" 348 xy_Law_lineChar [(0, 9, 12, 44)] 3 := ⟨⟨x_in (x_of (xtb_6 (List.mem_of_getElem? (i := 39) (by decide +kernel)))) (by decide +kernel), x_in (x_of (xtb_1 (List.mem_of_getElem? (i := 0) (by decide +kernel)))) (by decide +kernel), ⟨by decide, by decide, by decide +kernel⟩, by decide⟩, x_in (x_of (xtb_6 (List.mem_of_getElem? (i := 37) (by decide +kernel)))) (by decide +kernel), x_in (x_of (xtb_6 (List.mem_of_getElem? (i := 38) (by decide +kernel)))) (by decide +kernel)⟩
theorem kw_Law_351 : xLW "MessageCoderLaw" 351 xy_Law_append [(0, 9, 12, 13), (0, 9, 15, 19)] 3 := ⟨⟨x_in (x_of (xtb_6 (List.mem_of_getElem? (i := 46) (by decide +kernel)))) (by decide +kernel), x_in (x_of (xtb_1 (List.mem_of_getElem? (i := 0) (by decide +kernel)))) (by decide +kernel), ⟨by decide, by decide, by decide +kernel⟩, by decide⟩, x_in (x_of (xtb_6 (List.mem_of_getElem? (i := 44) (by decide +kernel)))) (by decide +kernel), x_in (x_of (xtb_6 (List.mem_of_getElem? (i := 45) (by decide +kernel)))) (by decide +kernel)⟩
theorem kw_Law_354 : xLW "MessageCoderLaw" 354 xy_Law_run [(0, 8, 11, 13), (0, 8, 14, 19)] 2 := ⟨⟨x_in (x_of (xtb_6 (List.mem_of_getElem? (i := 55) (by decide +kernel)))) (by decide +kernel), x_in (x_of (xtb_1 (List.mem_of_getElem? (i := 0) (by decide +kernel)))) (by decide +kernel), ⟨by decide, by decide, by decide +kernel⟩, by decide⟩, x_in (x_of (xtb_6 (List.mem_of_getElem? (i := 53) (by decide +kernel)))) (by decide +kernel), x_in (x_of (xtb_6 (List.mem_of_getElem? (i := 54) (by decide +kernel)))) (by decide +kernel)⟩
theorem kw_Law_357 : xLW "MessageCoderLaw" 357 xy_Law_errorPosition [(0, 8, 11, 28)] 2 := ⟨⟨x_in (x_of (xtb_6 (List.mem_of_getElem? (i := 173) (by decide +kernel)))) (by decide +kernel), x_in (x_of (xtb_1 (List.mem_of_getElem? (i := 0) (by decide +kernel)))) (by decide +kernel), ⟨by decide, by decide, by decide +kernel⟩, by decide⟩, x_in (x_of (xtb_6 (List.mem_of_getElem? (i := 171) (by decide +kernel)))) (by decide +kernel), x_in (x_of (xtb_6 (List.mem_of_getElem? (i := 172) (by decide +kernel)))) (by decide +kernel)⟩
theorem kw_Law_360 : xLW "MessageCoderLaw" 360 xy_Law_failedCommand [(0, 8, 11, 28)] 2 := ⟨⟨x_in (x_of (xtb_6 (List.mem_of_getElem? (i := 181) (by decide +kernel)))) (by decide +kernel), x_in (x_of (xtb_1 (List.mem_of_getElem? (i := 0) (by decide +kernel)))) (by decide +kernel), ⟨by decide, by decide, by decide +kernel⟩, by decide⟩, x_in (x_of (xtb_6 (List.mem_of_getElem? (i := 179) (by decide +kernel)))) (by decide +kernel), x_in (x_of (xtb_6 (List.mem_of_getElem? (i := 180) (by decide +kernel)))) (by decide +kernel)⟩
theorem kw_Law_367 : xLW "MessageCoderLaw" 367 xy_Law_undo [(0, 8, 11, 19)] 2 := ⟨⟨x_in (x_of (xtb_6 (List.mem_of_getElem? (i := 189) (by decide +kernel)))) (by decide +kernel), x_in (x_of (xtb_1 (List.mem_of_getElem? (i := 0) (by decide +kernel)))) (by decide +kernel), ⟨by decide, by decide, by decide +kernel⟩, by decide⟩, x_in (x_of (xtb_6 (List.mem_of_getElem? (i := 187) (by decide +kernel)))) (by decide +kernel), x_in (x_of (xtb_6 (List.mem_of_getElem? (i := 188) (by decide +kernel)))) (by decide +kernel)⟩
theorem kw_Law_374 : xLW "MessageCoderLaw" 374 xy_Law_restore [(0, 8, 11, 19)] 2 := ⟨⟨x_in (x_of (xtb_6 (List.mem_of_getElem? (i := 197) (by decide +kernel)))) (by decide +kernel), x_in (x_of (xtb_1 (List.mem_of_getElem? (i := 0) (by decide +kernel)))) (by decide +kernel), ⟨by decide, by decide, by decide +kernel⟩, by decide⟩, x_in (x_of (xtb_6 (List.mem_of_getElem? (i := 195) (by decide +kernel)))) (by decide +kernel), x_in (x_of (xtb_6 (List.mem_of_getElem? (i := 196) (by decide +kernel)))) (by decide +kernel)⟩
