theorem d_MessageCoder_meanLength_0 : decode prog_1_method_21_code 0 = .ok (.aload_n 0, 1) := by decide +kernel
theorem d_MessageCoder_meanLength_1 : decode prog_1_method_21_code 1 = .ok (.getfield 12, 3) := by decide +kernel
theorem d_MessageCoder_meanLength_4 : decode prog_1_method_21_code 4 = .ok (.getfield 136, 3) := by decide +kernel
theorem d_MessageCoder_meanLength_7 : decode prog_1_method_21_code 7 = .ok (.getfield 167, 3) := by decide +kernel
theorem d_MessageCoder_meanLength_10 : decode prog_1_method_21_code 10 = .ok (.i2d, 1) := by decide +kernel
theorem d_MessageCoder_meanLength_11 : decode prog_1_method_21_code 11 = .ok (.aload_n 0, 1) := by decide +kernel
theorem d_MessageCoder_meanLength_12 : decode prog_1_method_21_code 12 = .ok (.getfield 12, 3) := by decide +kernel
theorem d_MessageCoder_meanLength_15 : decode prog_1_method_21_code 15 = .ok (.getfield 136, 3) := by decide +kernel
theorem d_MessageCoder_meanLength_18 : decode prog_1_method_21_code 18 = .ok (.invokevirtual 149, 3) := by decide +kernel
theorem d_MessageCoder_meanLength_21 : decode prog_1_method_21_code 21 = .ok (.i2d, 1) := by decide +kernel
theorem d_MessageCoder_meanLength_22 : decode prog_1_method_21_code 22 = .ok (.ddiv, 1) := by decide +kernel
theorem d_MessageCoder_meanLength_23 : decode prog_1_method_21_code 23 = .ok (.dreturn, 1) := by decide +kernel
set_option maxHeartbeats 4000000 in
set_option maxRecDepth 20000 in
theorem c_MessageCoder_meanLength {P : xP} {F : xF} {z : Nat} {b : Nat} {cm : cmT} {M : mcS} (hM : xMC F (cm) (b) (M)) (hs1 : 0 < sumN M.1.1 8) : xM P xy_MessageCoder_meanLength [.ref b] F (z) 0 0 (fun r9 F9 z9 => r9 = some (.double (FP.ddiv (FP.i2d (nI (hSum M.1.1))) (FP.i2d (nI (sumN M.1.1 8))))) ∧ F9 = F ∧ z9 = z) := by
  refine xM_d rfl (Nat.le_of_ble_eq_true rfl) (L0 := [some (.ref b)]) rfl rfl fun Θ hC hret => ?_
  obtain ⟨A, S, past, ⟨pn, psg⟩, ⟨lnn, lsg⟩, sv, pp, un, ep, fc⟩ := M
  obtain ⟨b0, hs, hv, ⟨pf, hpa, hpf⟩, ⟨cc, pa, f1, f2, hf, K, p0, hK⟩, hin, hli, ⟨nb, fb9, hbt⟩, hrg, ⟨tn, tsg, htr⟩, ⟨cr, hcr⟩, hps⟩ := id hM
  obtain ⟨w, ⟨dn, ds⟩, ⟨k, nx, ms⟩, ⟨fk, fb, ftn, fts, fw⟩, ⟨rn, rs⟩, c1, c2, c3, c4⟩ := A
  obtain ⟨s0, h1, h2, ⟨p, m, h3, hms⟩, h4, h5⟩ := id hs
  have hms : ∀ i, i < k → m i = ms i := hms
  have b0 : F (b) = some (.inl (9, [.ref (b + 1), .ref (b + 50), .ref (b + 99), .ref (b + 100), .ref (b + 107), .ref (b + 109), .ref (b + 111), .ref (b + 122), .ref (b + 124), .int (nI (sv)), .int (nI (pp)), .int (nI (un)), .int ep, .int fc])) := b0
  have hv : xSt F (b + 50) (S) := hv
  have hpa : F (b + 99) = some (.inr (4, 9, pf)) := hpa
  have p0 : F (b + 100) = some (.inl (4, [.ref (b + 101), .ref (b + 103), .ref (b + 104), .ref (b + 105), .ref (b + 106), .int (nI (K.1)), .int (nI (cc)), .int (nI (pa)), .int (nI (f1)), .int (nI (f2)), .int (nI (hf))])) := p0
  have hK : xPk F (b + 100) (cm.2.1) (K) := hK
  have hin : xTx F (b + 101) (60) (pn) (psg) := hin
  have hli : xTx F (b + 107) (32) (lnn) (lsg) := hli
  have hbt : xBt F (b + 109) (nb) (fb9) := hbt
  have hrg : xRg F (b + 111) := hrg
  have htr : xTx F (b + 122) (16) (tn) (tsg) := htr
  have hcr : F (b + 124) = some (.inr (0, 17, fun b9 => .int (nI (cr b9)))) := hcr
  have hps : xPs F (b) (past) := hps
  have s0 : F (b + 1) = some (.inl (7, [.ref (b + 2), .ref (b + 9), .ref (b + 11), .ref (b + 37), .ref (b + 48), .int (nI (c1)), .int (nI (c2)), .int (nI (c3)), .int (nI (c4))])) := s0
  have h1 : xCd F (b + 2) (w) ((hLen w)) ((hVal (hLen w))) ((hOrd (hLen w))) ((hSum w)) := h1
  have h2 : xTx F (b + 9) (16) (dn) (ds) := h2
  have h3 : xQp F (b + 11) (k) (nx) (p) (m) := h3
  have h4 : xFr F (b + 37) (fk) (fb) (ftn) (fts) (fw) := h4
  have h5 : xTx F (b + 48) (16) (rn) (rs) := h5
  have hk8 : k ≤ 8 := h3.2.1.1
  have hs9 : hSum w ≤ 5544 := hJ_sb (fun j9 hj9 => (h1.2.2.2.2.2.2.2.1 j9 hj9).1) (Nat.le_refl 7)
  have hs8 : sumN w 8 ≤ 99 * 8 := sumN_bd 99 8 (fun j9 hj9 => (h1.2.2.2.2.2.2.2.1 j9 hj9).1)
  have hs7 : 0 < sumN w 8 := hs1
  refine x_aload_n hC d_MessageCoder_meanLength_0 rfl rfl ?_
  refine x_getf hC kf_MessageCoder_12 b0 rfl d_MessageCoder_meanLength_1 ?_
  refine x_getf hC kf_MessageCoder_136 s0 rfl d_MessageCoder_meanLength_4 ?_
  refine x_getf hC kf_MessageCoder_167 h1.1 rfl d_MessageCoder_meanLength_7 ?_
  refine x_i2d hC d_MessageCoder_meanLength_10 ?_
  refine x_aload_n hC d_MessageCoder_meanLength_11 rfl rfl ?_
  refine x_getf hC kf_MessageCoder_12 b0 rfl d_MessageCoder_meanLength_12 ?_
  refine x_getf hC kf_MessageCoder_136 s0 rfl d_MessageCoder_meanLength_15 ?_
  refine x_callV hC kv_MessageCoder_149 (c_Code_weightSum (hc := h1)) h1.1 rfl rfl (by decide) rfl rfl rfl (Nat.le_of_ble_eq_true rfl) (by decide) d_MessageCoder_meanLength_18 (fun r9 F9 z9 hp9 => ?_)
  obtain ⟨rfl, h9b, h9c⟩ := hp9
  rw [h9b, h9c]
  clear h9b h9c F9 z9
  refine x_i2d hC d_MessageCoder_meanLength_21 ?_
  refine x_ddiv hC d_MessageCoder_meanLength_22 (fl_n64 (fl_ddiv (by omega) (by omega) hs7)) ?_
  exact hret _ _ _ _ _ _ _ d_MessageCoder_meanLength_23 (by decide) (by decide) (⟨rfl, rfl, rfl⟩)

theorem d_MessageCoder_failedShare_0 : decode prog_1_method_51_code 0 = .ok (.aload_n 0, 1) := by decide +kernel
theorem d_MessageCoder_failedShare_1 : decode prog_1_method_51_code 1 = .ok (.getfield 12, 3) := by decide +kernel
theorem d_MessageCoder_failedShare_4 : decode prog_1_method_51_code 4 = .ok (.getfield 303, 3) := by decide +kernel
theorem d_MessageCoder_failedShare_7 : decode prog_1_method_51_code 7 = .ok (.ifCond .ne 14, 3) := by decide +kernel
theorem d_MessageCoder_failedShare_10 : decode prog_1_method_51_code 10 = .ok (.new 312, 3) := by decide +kernel
theorem d_MessageCoder_failedShare_13 : decode prog_1_method_51_code 13 = .ok (.dup, 1) := by decide +kernel
theorem d_MessageCoder_failedShare_14 : decode prog_1_method_51_code 14 = .ok (.ldc_w 314, 3) := by decide +kernel
theorem d_MessageCoder_failedShare_17 : decode prog_1_method_51_code 17 = .ok (.invokespecial 316, 3) := by decide +kernel
theorem d_MessageCoder_failedShare_20 : decode prog_1_method_51_code 20 = .ok (.athrow, 1) := by decide +kernel
theorem d_MessageCoder_failedShare_21 : decode prog_1_method_51_code 21 = .ok (.aload_n 0, 1) := by decide +kernel
theorem d_MessageCoder_failedShare_22 : decode prog_1_method_51_code 22 = .ok (.getfield 12, 3) := by decide +kernel
theorem d_MessageCoder_failedShare_25 : decode prog_1_method_51_code 25 = .ok (.getfield 309, 3) := by decide +kernel
theorem d_MessageCoder_failedShare_28 : decode prog_1_method_51_code 28 = .ok (.i2f, 1) := by decide +kernel
theorem d_MessageCoder_failedShare_29 : decode prog_1_method_51_code 29 = .ok (.aload_n 0, 1) := by decide +kernel
theorem d_MessageCoder_failedShare_30 : decode prog_1_method_51_code 30 = .ok (.getfield 12, 3) := by decide +kernel
theorem d_MessageCoder_failedShare_33 : decode prog_1_method_51_code 33 = .ok (.getfield 303, 3) := by decide +kernel
theorem d_MessageCoder_failedShare_36 : decode prog_1_method_51_code 36 = .ok (.i2f, 1) := by decide +kernel
theorem d_MessageCoder_failedShare_37 : decode prog_1_method_51_code 37 = .ok (.fdiv, 1) := by decide +kernel
theorem d_MessageCoder_failedShare_38 : decode prog_1_method_51_code 38 = .ok (.freturn, 1) := by decide +kernel
set_option maxHeartbeats 4000000 in
set_option maxRecDepth 20000 in
theorem c_MessageCoder_failedShare {P : xP} {F : xF} {z : Nat} {b : Nat} {cm : cmT} {M : mcS} (hM : xMC F (cm) (b) (M)) (hZx : xZx P) (hg0 : M.1.2.2.2.2.2.2.1 < 1000) (hf0 : M.1.2.2.2.2.2.2.2.2 < 1000) : xMx P xy_MessageCoder_failedShare [.ref b] F (z) 1 6 (fun r9 F9 z9 => r9 = some (.float (FP.fdiv (FP.i2f (nI (M.1.2.2.2.2.2.2.2.2))) (FP.i2f (nI (M.1.2.2.2.2.2.2.1))))) ∧ F9 = F ∧ z9 = z ∧ (0 < M.1.2.2.2.2.2.2.1)) (fun E9 F9 z9 => (E9 = "java/lang/ArithmeticException" ∧ F9 = F ∧ (M.1.2.2.2.2.2.2.1 = 0))) := by
  refine xMx_f rfl (Nat.le_of_ble_eq_true rfl) (L0 := [some (.ref b)]) rfl rfl fun Θ hC hR hret => ?_
  obtain ⟨A, S, past, ⟨pn, psg⟩, ⟨lnn, lsg⟩, sv, pp, un, ep, fc⟩ := M
  obtain ⟨b0, hs, hv, ⟨pf, hpa, hpf⟩, ⟨cc, pa, f1, f2, hf, K, p0, hK⟩, hin, hli, ⟨nb, fb9, hbt⟩, hrg, ⟨tn, tsg, htr⟩, ⟨cr, hcr⟩, hps⟩ := id hM
  obtain ⟨w, ⟨dn, ds⟩, ⟨k, nx, ms⟩, ⟨fk, fb, ftn, fts, fw⟩, ⟨rn, rs⟩, c1, c2, c3, c4⟩ := A
  obtain ⟨s0, h1, h2, ⟨p, m, h3, hms⟩, h4, h5⟩ := id hs
  have hms : ∀ i, i < k → m i = ms i := hms
  have b0 : F (b) = some (.inl (9, [.ref (b + 1), .ref (b + 50), .ref (b + 99), .ref (b + 100), .ref (b + 107), .ref (b + 109), .ref (b + 111), .ref (b + 122), .ref (b + 124), .int (nI (sv)), .int (nI (pp)), .int (nI (un)), .int ep, .int fc])) := b0
  have hv : xSt F (b + 50) (S) := hv
  have hpa : F (b + 99) = some (.inr (4, 9, pf)) := hpa
  have p0 : F (b + 100) = some (.inl (4, [.ref (b + 101), .ref (b + 103), .ref (b + 104), .ref (b + 105), .ref (b + 106), .int (nI (K.1)), .int (nI (cc)), .int (nI (pa)), .int (nI (f1)), .int (nI (f2)), .int (nI (hf))])) := p0
  have hK : xPk F (b + 100) (cm.2.1) (K) := hK
  have hin : xTx F (b + 101) (60) (pn) (psg) := hin
  have hli : xTx F (b + 107) (32) (lnn) (lsg) := hli
  have hbt : xBt F (b + 109) (nb) (fb9) := hbt
  have hrg : xRg F (b + 111) := hrg
  have htr : xTx F (b + 122) (16) (tn) (tsg) := htr
  have hcr : F (b + 124) = some (.inr (0, 17, fun b9 => .int (nI (cr b9)))) := hcr
  have hps : xPs F (b) (past) := hps
  have s0 : F (b + 1) = some (.inl (7, [.ref (b + 2), .ref (b + 9), .ref (b + 11), .ref (b + 37), .ref (b + 48), .int (nI (c1)), .int (nI (c2)), .int (nI (c3)), .int (nI (c4))])) := s0
  have h1 : xCd F (b + 2) (w) ((hLen w)) ((hVal (hLen w))) ((hOrd (hLen w))) ((hSum w)) := h1
  have h2 : xTx F (b + 9) (16) (dn) (ds) := h2
  have h3 : xQp F (b + 11) (k) (nx) (p) (m) := h3
  have h4 : xFr F (b + 37) (fk) (fb) (ftn) (fts) (fw) := h4
  have h5 : xTx F (b + 48) (16) (rn) (rs) := h5
  have hk8 : k ≤ 8 := h3.2.1.1
  have hg9 : c2 < 1000 := hg0
  have hf9 : c4 < 1000 := hf0
  refine x_aload_n hC d_MessageCoder_failedShare_0 rfl rfl ?_
  refine x_getf hC kf_MessageCoder_12 b0 rfl d_MessageCoder_failedShare_1 ?_
  refine x_getf hC kf_MessageCoder_303 s0 rfl d_MessageCoder_failedShare_4 ?_
  refine x_ifN_ne hC d_MessageCoder_failedShare_7 (tgt := 21) (by decide) (by omega) (fun c_7 => ?_) (fun c_7 => ?_)
  · skip
    refine x_aload_n hC d_MessageCoder_failedShare_21 rfl rfl ?_
    refine x_getf hC kf_MessageCoder_12 b0 rfl d_MessageCoder_failedShare_22 ?_
    refine x_getf hC kf_MessageCoder_309 s0 rfl d_MessageCoder_failedShare_25 ?_
    refine x_i2f hC d_MessageCoder_failedShare_28 ?_
    refine x_aload_n hC d_MessageCoder_failedShare_29 rfl rfl ?_
    refine x_getf hC kf_MessageCoder_12 b0 rfl d_MessageCoder_failedShare_30 ?_
    refine x_getf hC kf_MessageCoder_303 s0 rfl d_MessageCoder_failedShare_33 ?_
    refine x_i2f hC d_MessageCoder_failedShare_36 ?_
    refine x_fdiv hC d_MessageCoder_failedShare_37 (fl_n32 (fl_fdiv hf9 hg9 c_7)) ?_
    exact hret _ _ _ _ _ _ _ d_MessageCoder_failedShare_38 (by decide) (by decide) (⟨rfl, rfl, rfl, c_7⟩)
  · skip
    refine x_thrW hC hR hZx (xtw2_ArithmeticException _ _ xsr_314) rfl (Nat.le_of_ble_eq_true rfl) (by decide) (by decide) d_MessageCoder_failedShare_10 d_MessageCoder_failedShare_13 d_MessageCoder_failedShare_14 d_MessageCoder_failedShare_17 d_MessageCoder_failedShare_20 (fun z9 hz9 => ?_)
    exact ⟨rfl, rfl, c_7⟩

