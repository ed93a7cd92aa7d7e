theorem d_MessageCoder_hasFrame_0 : decode prog_1_method_37_code 0 = .ok (.aload_n 0, 1) := by decide +kernel
theorem d_MessageCoder_hasFrame_1 : decode prog_1_method_37_code 1 = .ok (.getfield 12, 3) := by decide +kernel
theorem d_MessageCoder_hasFrame_4 : decode prog_1_method_37_code 4 = .ok (.getfield 254, 3) := by decide +kernel
theorem d_MessageCoder_hasFrame_7 : decode prog_1_method_37_code 7 = .ok (.invokevirtual 258, 3) := by decide +kernel
theorem d_MessageCoder_hasFrame_10 : decode prog_1_method_37_code 10 = .ok (.ireturn, 1) := by decide +kernel
set_option maxHeartbeats 4000000 in
set_option maxRecDepth 20000 in
theorem c_MessageCoder_hasFrame {P : xP} {F : xF} {z : Nat} {b : Nat} {cm : cmT} {M : mcS} (hM : xMC F (cm) (b) (M))  : xM P xy_MessageCoder_hasFrame [.ref b] F (z) 0 0 (fun r9 F9 z9 => r9 = some (.int (xb (0 < M.1.2.2.2.1.1))) ∧ F9 = F ∧ z9 = z) := by
  refine xM_i .boolean rfl (Nat.le_of_ble_eq_true rfl) (L0 := [some (.ref b)]) rfl rfl fun Θ hC hret => ?_
  obtain ⟨A, S, past, ⟨pn, psg⟩, ⟨lnn, lsg⟩, sv, pp, un, ep, fc⟩ := M
  obtain ⟨b0, hs, hv, ⟨pf, hpa, hpf⟩, ⟨cc, pa, f1, f2, hf, K, p0, hK⟩, hin, hli, ⟨nb, fb9, hbt⟩, hrg, ⟨tn, tsg, htr⟩, ⟨cr, hcr⟩, hps⟩ := id hM
  obtain ⟨w, ⟨dn, ds⟩, ⟨k, nx, ms⟩, ⟨fk, fb, ftn, fts, fw⟩, ⟨rn, rs⟩, c1, c2, c3, c4⟩ := A
  obtain ⟨s0, h1, h2, ⟨p, m, h3, hms⟩, h4, h5⟩ := id hs
  have hms : ∀ i, i < k → m i = ms i := hms
  have b0 : F (b) = some (.inl (9, [.ref (b + 1), .ref (b + 50), .ref (b + 99), .ref (b + 100), .ref (b + 107), .ref (b + 109), .ref (b + 111), .ref (b + 122), .ref (b + 124), .int (nI (sv)), .int (nI (pp)), .int (nI (un)), .int ep, .int fc])) := b0
  have hv : xSt F (b + 50) (S) := hv
  have hpa : F (b + 99) = some (.inr (4, 9, pf)) := hpa
  have p0 : F (b + 100) = some (.inl (4, [.ref (b + 101), .ref (b + 103), .ref (b + 104), .ref (b + 105), .ref (b + 106), .int (nI (K.1)), .int (nI (cc)), .int (nI (pa)), .int (nI (f1)), .int (nI (f2)), .int (nI (hf))])) := p0
  have hK : xPk F (b + 100) (cm.2.1) (K) := hK
  have hin : xTx F (b + 101) (60) (pn) (psg) := hin
  have hli : xTx F (b + 107) (32) (lnn) (lsg) := hli
  have hbt : xBt F (b + 109) (nb) (fb9) := hbt
  have hrg : xRg F (b + 111) := hrg
  have htr : xTx F (b + 122) (16) (tn) (tsg) := htr
  have hcr : F (b + 124) = some (.inr (0, 17, fun b9 => .int (nI (cr b9)))) := hcr
  have hps : xPs F (b) (past) := hps
  have s0 : F (b + 1) = some (.inl (7, [.ref (b + 2), .ref (b + 9), .ref (b + 11), .ref (b + 37), .ref (b + 48), .int (nI (c1)), .int (nI (c2)), .int (nI (c3)), .int (nI (c4))])) := s0
  have h1 : xCd F (b + 2) (w) ((hLen w)) ((hVal (hLen w))) ((hOrd (hLen w))) ((hSum w)) := h1
  have h2 : xTx F (b + 9) (16) (dn) (ds) := h2
  have h3 : xQp F (b + 11) (k) (nx) (p) (m) := h3
  have h4 : xFr F (b + 37) (fk) (fb) (ftn) (fts) (fw) := h4
  have h5 : xTx F (b + 48) (16) (rn) (rs) := h5
  have hk8 : k ≤ 8 := h3.2.1.1
  refine x_aload_n hC d_MessageCoder_hasFrame_0 rfl rfl ?_
  refine x_getf hC kf_MessageCoder_12 b0 rfl d_MessageCoder_hasFrame_1 ?_
  refine x_getf hC kf_MessageCoder_254 s0 rfl d_MessageCoder_hasFrame_4 ?_
  refine x_callV hC kv_MessageCoder_258 (c_Frame_exists (hr := h4)) h4.1 rfl rfl (by decide) rfl rfl rfl (Nat.le_of_ble_eq_true rfl) (by decide) d_MessageCoder_hasFrame_7 (fun r9 F9 z9 hp9 => ?_)
  obtain ⟨rfl, h9b, h9c⟩ := hp9
  rw [h9b, h9c]
  clear h9b h9c F9 z9
  exact hret _ _ _ _ _ _ _ d_MessageCoder_hasFrame_10 (by decide) (by decide) xb_nar (⟨rfl, rfl, rfl⟩)

theorem d_MessageCoder_frameLength_0 : decode prog_1_method_38_code 0 = .ok (.aload_n 0, 1) := by decide +kernel
theorem d_MessageCoder_frameLength_1 : decode prog_1_method_38_code 1 = .ok (.getfield 12, 3) := by decide +kernel
theorem d_MessageCoder_frameLength_4 : decode prog_1_method_38_code 4 = .ok (.getfield 254, 3) := by decide +kernel
theorem d_MessageCoder_frameLength_7 : decode prog_1_method_38_code 7 = .ok (.invokevirtual 263, 3) := by decide +kernel
theorem d_MessageCoder_frameLength_10 : decode prog_1_method_38_code 10 = .ok (.ireturn, 1) := by decide +kernel
set_option maxHeartbeats 4000000 in
set_option maxRecDepth 20000 in
theorem c_MessageCoder_frameLength {P : xP} {F : xF} {z : Nat} {b : Nat} {cm : cmT} {M : mcS} (hM : xMC F (cm) (b) (M))  : xM P xy_MessageCoder_frameLength [.ref b] F (z) 0 0 (fun r9 F9 z9 => r9 = some (.int (nI (M.1.2.2.2.1.1 * 7))) ∧ F9 = F ∧ z9 = z) := by
  refine xM_i .int rfl (Nat.le_of_ble_eq_true rfl) (L0 := [some (.ref b)]) rfl rfl fun Θ hC hret => ?_
  obtain ⟨A, S, past, ⟨pn, psg⟩, ⟨lnn, lsg⟩, sv, pp, un, ep, fc⟩ := M
  obtain ⟨b0, hs, hv, ⟨pf, hpa, hpf⟩, ⟨cc, pa, f1, f2, hf, K, p0, hK⟩, hin, hli, ⟨nb, fb9, hbt⟩, hrg, ⟨tn, tsg, htr⟩, ⟨cr, hcr⟩, hps⟩ := id hM
  obtain ⟨w, ⟨dn, ds⟩, ⟨k, nx, ms⟩, ⟨fk, fb, ftn, fts, fw⟩, ⟨rn, rs⟩, c1, c2, c3, c4⟩ := A
  obtain ⟨s0, h1, h2, ⟨p, m, h3, hms⟩, h4, h5⟩ := id hs
  have hms : ∀ i, i < k → m i = ms i := hms
  have b0 : F (b) = some (.inl (9, [.ref (b + 1), .ref (b + 50), .ref (b + 99), .ref (b + 100), .ref (b + 107), .ref (b + 109), .ref (b + 111), .ref (b + 122), .ref (b + 124), .int (nI (sv)), .int (nI (pp)), .int (nI (un)), .int ep, .int fc])) := b0
  have hv : xSt F (b + 50) (S) := hv
  have hpa : F (b + 99) = some (.inr (4, 9, pf)) := hpa
  have p0 : F (b + 100) = some (.inl (4, [.ref (b + 101), .ref (b + 103), .ref (b + 104), .ref (b + 105), .ref (b + 106), .int (nI (K.1)), .int (nI (cc)), .int (nI (pa)), .int (nI (f1)), .int (nI (f2)), .int (nI (hf))])) := p0
  have hK : xPk F (b + 100) (cm.2.1) (K) := hK
  have hin : xTx F (b + 101) (60) (pn) (psg) := hin
  have hli : xTx F (b + 107) (32) (lnn) (lsg) := hli
  have hbt : xBt F (b + 109) (nb) (fb9) := hbt
  have hrg : xRg F (b + 111) := hrg
  have htr : xTx F (b + 122) (16) (tn) (tsg) := htr
  have hcr : F (b + 124) = some (.inr (0, 17, fun b9 => .int (nI (cr b9)))) := hcr
  have hps : xPs F (b) (past) := hps
  have s0 : F (b + 1) = some (.inl (7, [.ref (b + 2), .ref (b + 9), .ref (b + 11), .ref (b + 37), .ref (b + 48), .int (nI (c1)), .int (nI (c2)), .int (nI (c3)), .int (nI (c4))])) := s0
  have h1 : xCd F (b + 2) (w) ((hLen w)) ((hVal (hLen w))) ((hOrd (hLen w))) ((hSum w)) := h1
  have h2 : xTx F (b + 9) (16) (dn) (ds) := h2
  have h3 : xQp F (b + 11) (k) (nx) (p) (m) := h3
  have h4 : xFr F (b + 37) (fk) (fb) (ftn) (fts) (fw) := h4
  have h5 : xTx F (b + 48) (16) (rn) (rs) := h5
  have hk8 : k ≤ 8 := h3.2.1.1
  refine x_aload_n hC d_MessageCoder_frameLength_0 rfl rfl ?_
  refine x_getf hC kf_MessageCoder_12 b0 rfl d_MessageCoder_frameLength_1 ?_
  refine x_getf hC kf_MessageCoder_254 s0 rfl d_MessageCoder_frameLength_4 ?_
  refine x_callV hC kv_MessageCoder_263 (c_Frame_bitTotal (hr := h4)) h4.1 rfl rfl (by decide) rfl rfl rfl (Nat.le_of_ble_eq_true rfl) (by decide) d_MessageCoder_frameLength_7 (fun r9 F9 z9 hp9 => ?_)
  obtain ⟨rfl, h9b, h9c⟩ := hp9
  rw [h9b, h9c]
  clear h9b h9c F9 z9
  exact hret _ _ _ _ _ _ _ d_MessageCoder_frameLength_10 (by decide) (by decide) rfl (⟨rfl, rfl, rfl⟩)

theorem d_MessageCoder_frameBit_0 : decode prog_1_method_39_code 0 = .ok (.aload_n 0, 1) := by decide +kernel
theorem d_MessageCoder_frameBit_1 : decode prog_1_method_39_code 1 = .ok (.getfield 12, 3) := by decide +kernel
theorem d_MessageCoder_frameBit_4 : decode prog_1_method_39_code 4 = .ok (.getfield 254, 3) := by decide +kernel
theorem d_MessageCoder_frameBit_7 : decode prog_1_method_39_code 7 = .ok (.iload_n 1, 1) := by decide +kernel
theorem d_MessageCoder_frameBit_8 : decode prog_1_method_39_code 8 = .ok (.invokevirtual 266, 3) := by decide +kernel
theorem d_MessageCoder_frameBit_11 : decode prog_1_method_39_code 11 = .ok (.ifCond .ne 14, 3) := by decide +kernel
theorem d_MessageCoder_frameBit_14 : decode prog_1_method_39_code 14 = .ok (.new 126, 3) := by decide +kernel
theorem d_MessageCoder_frameBit_17 : decode prog_1_method_39_code 17 = .ok (.dup, 1) := by decide +kernel
theorem d_MessageCoder_frameBit_18 : decode prog_1_method_39_code 18 = .ok (.ldc_w 269, 3) := by decide +kernel
theorem d_MessageCoder_frameBit_21 : decode prog_1_method_39_code 21 = .ok (.invokespecial 130, 3) := by decide +kernel
theorem d_MessageCoder_frameBit_24 : decode prog_1_method_39_code 24 = .ok (.athrow, 1) := by decide +kernel
theorem d_MessageCoder_frameBit_25 : decode prog_1_method_39_code 25 = .ok (.aload_n 0, 1) := by decide +kernel
theorem d_MessageCoder_frameBit_26 : decode prog_1_method_39_code 26 = .ok (.getfield 12, 3) := by decide +kernel
theorem d_MessageCoder_frameBit_29 : decode prog_1_method_39_code 29 = .ok (.getfield 254, 3) := by decide +kernel
theorem d_MessageCoder_frameBit_32 : decode prog_1_method_39_code 32 = .ok (.iload_n 1, 1) := by decide +kernel
theorem d_MessageCoder_frameBit_33 : decode prog_1_method_39_code 33 = .ok (.invokevirtual 271, 3) := by decide +kernel
theorem d_MessageCoder_frameBit_36 : decode prog_1_method_39_code 36 = .ok (.ireturn, 1) := by decide +kernel
set_option maxHeartbeats 4000000 in
set_option maxRecDepth 20000 in
theorem c_MessageCoder_frameBit {P : xP} {F : xF} {z : Nat} {b : Nat} {cm : cmT} {M : mcS} {i : Int32} (hM : xMC F (cm) (b) (M)) (hZx : xZx P) : xMx P xy_MessageCoder_frameBit [.ref b, .int i] F (z) 1 6 (fun r9 F9 z9 => r9 = some (.int (nI (bitP (M.1.2.2.2.1.2.1 (i.toNatClampNeg / 7)) (i.toNatClampNeg % 7 + 1)))) ∧ F9 = F ∧ z9 = z ∧ (0 ≤ i ∧ i < nI (M.1.2.2.2.1.1 * 7))) (fun E9 F9 z9 => (E9 = "java/lang/IndexOutOfBoundsException" ∧ F9 = F ∧ (¬ (0 ≤ i ∧ i < nI (M.1.2.2.2.1.1 * 7))))) := by
  refine xMx_i .int rfl (Nat.le_of_ble_eq_true rfl) (L0 := [some (.ref b), some (.int i)]) rfl rfl fun Θ hC hR hret => ?_
  obtain ⟨A, S, past, ⟨pn, psg⟩, ⟨lnn, lsg⟩, sv, pp, un, ep, fc⟩ := M
  obtain ⟨b0, hs, hv, ⟨pf, hpa, hpf⟩, ⟨cc, pa, f1, f2, hf, K, p0, hK⟩, hin, hli, ⟨nb, fb9, hbt⟩, hrg, ⟨tn, tsg, htr⟩, ⟨cr, hcr⟩, hps⟩ := id hM
  obtain ⟨w, ⟨dn, ds⟩, ⟨k, nx, ms⟩, ⟨fk, fb, ftn, fts, fw⟩, ⟨rn, rs⟩, c1, c2, c3, c4⟩ := A
  obtain ⟨s0, h1, h2, ⟨p, m, h3, hms⟩, h4, h5⟩ := id hs
  have hms : ∀ i, i < k → m i = ms i := hms
  have b0 : F (b) = some (.inl (9, [.ref (b + 1), .ref (b + 50), .ref (b + 99), .ref (b + 100), .ref (b + 107), .ref (b + 109), .ref (b + 111), .ref (b + 122), .ref (b + 124), .int (nI (sv)), .int (nI (pp)), .int (nI (un)), .int ep, .int fc])) := b0
  have hv : xSt F (b + 50) (S) := hv
  have hpa : F (b + 99) = some (.inr (4, 9, pf)) := hpa
  have p0 : F (b + 100) = some (.inl (4, [.ref (b + 101), .ref (b + 103), .ref (b + 104), .ref (b + 105), .ref (b + 106), .int (nI (K.1)), .int (nI (cc)), .int (nI (pa)), .int (nI (f1)), .int (nI (f2)), .int (nI (hf))])) := p0
  have hK : xPk F (b + 100) (cm.2.1) (K) := hK
  have hin : xTx F (b + 101) (60) (pn) (psg) := hin
  have hli : xTx F (b + 107) (32) (lnn) (lsg) := hli
  have hbt : xBt F (b + 109) (nb) (fb9) := hbt
  have hrg : xRg F (b + 111) := hrg
  have htr : xTx F (b + 122) (16) (tn) (tsg) := htr
  have hcr : F (b + 124) = some (.inr (0, 17, fun b9 => .int (nI (cr b9)))) := hcr
  have hps : xPs F (b) (past) := hps
  have s0 : F (b + 1) = some (.inl (7, [.ref (b + 2), .ref (b + 9), .ref (b + 11), .ref (b + 37), .ref (b + 48), .int (nI (c1)), .int (nI (c2)), .int (nI (c3)), .int (nI (c4))])) := s0
  have h1 : xCd F (b + 2) (w) ((hLen w)) ((hVal (hLen w))) ((hOrd (hLen w))) ((hSum w)) := h1
  have h2 : xTx F (b + 9) (16) (dn) (ds) := h2
  have h3 : xQp F (b + 11) (k) (nx) (p) (m) := h3
  have h4 : xFr F (b + 37) (fk) (fb) (ftn) (fts) (fw) := h4
  have h5 : xTx F (b + 48) (16) (rn) (rs) := h5
  have hk8 : k ≤ 8 := h3.2.1.1
  have hfk := h4.2.1.1
  refine x_aload_n hC d_MessageCoder_frameBit_0 rfl rfl ?_
  refine x_getf hC kf_MessageCoder_12 b0 rfl d_MessageCoder_frameBit_1 ?_
  refine x_getf hC kf_MessageCoder_254 s0 rfl d_MessageCoder_frameBit_4 ?_
  refine x_iload_n hC d_MessageCoder_frameBit_7 rfl rfl ?_
  refine x_callV hC kv_MessageCoder_266 (c_Frame_hasBit (hr := h4)) h4.1 rfl rfl (by decide) rfl rfl rfl (Nat.le_of_ble_eq_true rfl) (by decide) d_MessageCoder_frameBit_8 (fun r9 F9 z9 hp9 => ?_)
  obtain ⟨rfl, h9b, h9c⟩ := hp9
  rw [h9b, h9c]
  clear h9b h9c F9 z9
  refine x_ifB_ne hC d_MessageCoder_frameBit_11 (tgt := 25) (by decide) (fun c_11 => ?_) (fun c_11 => ?_)
  · skip
    have hi0 := i2n_of c_11.1
    have hi1 := i2n_lt c_11.1 c_11.2 (by omega)
    refine x_aload_n hC d_MessageCoder_frameBit_25 rfl rfl ?_
    refine x_getf hC kf_MessageCoder_12 b0 rfl d_MessageCoder_frameBit_26 ?_
    refine x_getf hC kf_MessageCoder_254 s0 rfl d_MessageCoder_frameBit_29 ?_
    refine x_iload_n hC d_MessageCoder_frameBit_32 rfl rfl ?_
    refine x_top (v := (nI (i.toNatClampNeg))) hi0 ?_
    refine x_callV hC kv_MessageCoder_271 (c_Frame_bit (hr := h4) (hi := by omega)) h4.1 rfl rfl (by decide) rfl rfl rfl (Nat.le_of_ble_eq_true rfl) (by decide) d_MessageCoder_frameBit_33 (fun r9 F9 z9 hp9 => ?_)
    obtain ⟨rfl, h9b, h9c⟩ := hp9
    rw [h9b, h9c]
    clear h9b h9c F9 z9
    exact hret _ _ _ _ _ _ _ d_MessageCoder_frameBit_36 (by decide) (by decide) rfl (⟨rfl, rfl, rfl, c_11⟩)
  · skip
    refine x_thrW hC hR hZx (xtw2_IndexOutOfBoundsException _ _ xsr_269) rfl (Nat.le_of_ble_eq_true rfl) (by decide) (by decide) d_MessageCoder_frameBit_14 d_MessageCoder_frameBit_17 d_MessageCoder_frameBit_18 d_MessageCoder_frameBit_21 d_MessageCoder_frameBit_24 (fun z9 hz9 => ?_)
    exact ⟨rfl, rfl, c_11⟩

theorem d_MessageCoder_blockOf_0 : decode prog_1_method_68_code 0 = .ok (.aload_n 0, 1) := by decide +kernel
theorem d_MessageCoder_blockOf_1 : decode prog_1_method_68_code 1 = .ok (.getfield 12, 3) := by decide +kernel
theorem d_MessageCoder_blockOf_4 : decode prog_1_method_68_code 4 = .ok (.getfield 254, 3) := by decide +kernel
theorem d_MessageCoder_blockOf_7 : decode prog_1_method_68_code 7 = .ok (.iload_n 1, 1) := by decide +kernel
theorem d_MessageCoder_blockOf_8 : decode prog_1_method_68_code 8 = .ok (.invokevirtual 392, 3) := by decide +kernel
theorem d_MessageCoder_blockOf_11 : decode prog_1_method_68_code 11 = .ok (.ifCond .ne 14, 3) := by decide +kernel
theorem d_MessageCoder_blockOf_14 : decode prog_1_method_68_code 14 = .ok (.new 126, 3) := by decide +kernel
theorem d_MessageCoder_blockOf_17 : decode prog_1_method_68_code 17 = .ok (.dup, 1) := by decide +kernel
theorem d_MessageCoder_blockOf_18 : decode prog_1_method_68_code 18 = .ok (.ldc_w 395, 3) := by decide +kernel
theorem d_MessageCoder_blockOf_21 : decode prog_1_method_68_code 21 = .ok (.invokespecial 130, 3) := by decide +kernel
theorem d_MessageCoder_blockOf_24 : decode prog_1_method_68_code 24 = .ok (.athrow, 1) := by decide +kernel
theorem d_MessageCoder_blockOf_25 : decode prog_1_method_68_code 25 = .ok (.aload_n 0, 1) := by decide +kernel
theorem d_MessageCoder_blockOf_26 : decode prog_1_method_68_code 26 = .ok (.getfield 12, 3) := by decide +kernel
theorem d_MessageCoder_blockOf_29 : decode prog_1_method_68_code 29 = .ok (.getfield 254, 3) := by decide +kernel
theorem d_MessageCoder_blockOf_32 : decode prog_1_method_68_code 32 = .ok (.getfield 397, 3) := by decide +kernel
theorem d_MessageCoder_blockOf_35 : decode prog_1_method_68_code 35 = .ok (.iload_n 1, 1) := by decide +kernel
theorem d_MessageCoder_blockOf_36 : decode prog_1_method_68_code 36 = .ok (.iaload, 1) := by decide +kernel
theorem d_MessageCoder_blockOf_37 : decode prog_1_method_68_code 37 = .ok (.ireturn, 1) := by decide +kernel
set_option maxHeartbeats 4000000 in
set_option maxRecDepth 20000 in
theorem c_MessageCoder_blockOf {P : xP} {F : xF} {z : Nat} {b : Nat} {sv : Nat} {pp : Nat} {un : Nat} {ep : Int32} {fc : Int32} {c1 : Nat} {c2 : Nat} {c3 : Nat} {c4 : Nat} {fk : Nat} {fb : Nat → Nat} {ftn : Nat} {fts : Nat → Nat} {fw : Nat → Nat} {i : Int32} (b0 : F (b) = some (.inl (9, [.ref (b + 1), .ref (b + 50), .ref (b + 99), .ref (b + 100), .ref (b + 107), .ref (b + 109), .ref (b + 111), .ref (b + 122), .ref (b + 124), .int (nI (sv)), .int (nI (pp)), .int (nI (un)), .int ep, .int fc]))) (s0 : F (b + 1) = some (.inl (7, [.ref (b + 2), .ref (b + 9), .ref (b + 11), .ref (b + 37), .ref (b + 48), .int (nI (c1)), .int (nI (c2)), .int (nI (c3)), .int (nI (c4))]))) (h4 : xFr F (b + 37) (fk) (fb) (ftn) (fts) (fw)) (hZx : xZx P) : xMx P xy_MessageCoder_blockOf [.ref b, .int i] F (z) 1 6 (fun r9 F9 z9 => r9 = some (.int (nI (fb i.toNatClampNeg))) ∧ F9 = F ∧ z9 = z ∧ (0 ≤ i ∧ i < nI fk)) (fun E9 F9 z9 => (E9 = "java/lang/IndexOutOfBoundsException" ∧ F9 = F ∧ (¬ (0 ≤ i ∧ i < nI fk)))) := by
  refine xMx_i .int rfl (Nat.le_of_ble_eq_true rfl) (L0 := [some (.ref b), some (.int i)]) rfl rfl fun Θ hC hR hret => ?_
  obtain ⟨g0, ⟨hfk, hfl⟩, ⟨gf, g1, gh⟩, gr⟩ := id h4
  have g0 : F (b + 37) = some (.inl (2, [.ref (b + 38), .ref (b + 39), .ref (b + 41), .int (nI (fk))])) := g0
  have g1 : F (b + 38) = some (.inr (0, 28, fun b9 => .int (nI (gf b9)))) := g1
  refine x_aload_n hC d_MessageCoder_blockOf_0 rfl rfl ?_
  refine x_getf hC kf_MessageCoder_12 b0 rfl d_MessageCoder_blockOf_1 ?_
  refine x_getf hC kf_MessageCoder_254 s0 rfl d_MessageCoder_blockOf_4 ?_
  refine x_iload_n hC d_MessageCoder_blockOf_7 rfl rfl ?_
  refine x_callV hC kv_MessageCoder_392 (c_Frame_hasBlock (hr := h4)) h4.1 rfl rfl (by decide) rfl rfl rfl (Nat.le_of_ble_eq_true rfl) (by decide) d_MessageCoder_blockOf_8 (fun r9 F9 z9 hp9 => ?_)
  obtain ⟨rfl, h9b, h9c⟩ := hp9
  rw [h9b, h9c]
  clear h9b h9c F9 z9
  refine x_ifB_ne hC d_MessageCoder_blockOf_11 (tgt := 25) (by decide) (fun c_11 => ?_) (fun c_11 => ?_)
  · skip
    have hi0 := i2n_of c_11.1
    have hi1 := i2n_lt c_11.1 c_11.2 (by omega)
    refine x_aload_n hC d_MessageCoder_blockOf_25 rfl rfl ?_
    refine x_getf hC kf_MessageCoder_12 b0 rfl d_MessageCoder_blockOf_26 ?_
    refine x_getf hC kf_MessageCoder_254 s0 rfl d_MessageCoder_blockOf_29 ?_
    refine x_getf hC kf_MessageCoder_397 h4.1 rfl d_MessageCoder_blockOf_32 ?_
    refine x_iload_n hC d_MessageCoder_blockOf_35 rfl rfl ?_
    refine x_iald hC g1 (j := i.toNatClampNeg) ⟨hi0, by omega, by decide⟩ (x := nI (gf (i.toNatClampNeg))) rfl d_MessageCoder_blockOf_36 ?_
    exact hret _ _ _ _ _ _ _ d_MessageCoder_blockOf_37 (by decide) (by decide) rfl (⟨congrArg (fun q => some (Value.int (nI q))) (gh _ hi1), rfl, rfl, c_11⟩)
  · skip
    refine x_thrW hC hR hZx (xtw2_IndexOutOfBoundsException _ _ xsr_395) rfl (Nat.le_of_ble_eq_true rfl) (by decide) (by decide) d_MessageCoder_blockOf_14 d_MessageCoder_blockOf_17 d_MessageCoder_blockOf_18 d_MessageCoder_blockOf_21 d_MessageCoder_blockOf_24 (fun z9 hz9 => ?_)
    exact ⟨rfl, rfl, c_11⟩

theorem d_MessageCoder_syndrome_0 : decode prog_1_method_40_code 0 = .ok (.aload_n 0, 1) := by decide +kernel
theorem d_MessageCoder_syndrome_1 : decode prog_1_method_40_code 1 = .ok (.iload_n 1, 1) := by decide +kernel
theorem d_MessageCoder_syndrome_2 : decode prog_1_method_40_code 2 = .ok (.invokevirtual 274, 3) := by decide +kernel
theorem d_MessageCoder_syndrome_5 : decode prog_1_method_40_code 5 = .ok (.invokestatic 277, 3) := by decide +kernel
theorem d_MessageCoder_syndrome_8 : decode prog_1_method_40_code 8 = .ok (.ireturn, 1) := by decide +kernel
set_option maxHeartbeats 4000000 in
set_option maxRecDepth 20000 in
theorem c_MessageCoder_syndrome {P : xP} {F : xF} {z : Nat} {b : Nat} {cm : cmT} {M : mcS} {i : Int32} (hM : xMC F (cm) (b) (M)) (hZx : xZx P) : xMx P xy_MessageCoder_syndrome [.ref b, .int i] F (z) 1 6 (fun r9 F9 z9 => r9 = some (.int (nI (syn (M.1.2.2.2.1.2.1 i.toNatClampNeg)))) ∧ F9 = F ∧ z9 = z ∧ (0 ≤ i ∧ i < nI M.1.2.2.2.1.1)) (fun E9 F9 z9 => (E9 = "java/lang/IndexOutOfBoundsException" ∧ F9 = F ∧ (¬ (0 ≤ i ∧ i < nI M.1.2.2.2.1.1)))) := by
  refine xMx_i .int rfl (Nat.le_of_ble_eq_true rfl) (L0 := [some (.ref b), some (.int i)]) rfl rfl fun Θ hC hR hret => ?_
  obtain ⟨A, S, past, ⟨pn, psg⟩, ⟨lnn, lsg⟩, sv, pp, un, ep, fc⟩ := M
  obtain ⟨b0, hs, hv, ⟨pf, hpa, hpf⟩, ⟨cc, pa, f1, f2, hf, K, p0, hK⟩, hin, hli, ⟨nb, fb9, hbt⟩, hrg, ⟨tn, tsg, htr⟩, ⟨cr, hcr⟩, hps⟩ := id hM
  obtain ⟨w, ⟨dn, ds⟩, ⟨k, nx, ms⟩, ⟨fk, fb, ftn, fts, fw⟩, ⟨rn, rs⟩, c1, c2, c3, c4⟩ := A
  obtain ⟨s0, h1, h2, ⟨p, m, h3, hms⟩, h4, h5⟩ := id hs
  have hms : ∀ i, i < k → m i = ms i := hms
  have b0 : F (b) = some (.inl (9, [.ref (b + 1), .ref (b + 50), .ref (b + 99), .ref (b + 100), .ref (b + 107), .ref (b + 109), .ref (b + 111), .ref (b + 122), .ref (b + 124), .int (nI (sv)), .int (nI (pp)), .int (nI (un)), .int ep, .int fc])) := b0
  have hv : xSt F (b + 50) (S) := hv
  have hpa : F (b + 99) = some (.inr (4, 9, pf)) := hpa
  have p0 : F (b + 100) = some (.inl (4, [.ref (b + 101), .ref (b + 103), .ref (b + 104), .ref (b + 105), .ref (b + 106), .int (nI (K.1)), .int (nI (cc)), .int (nI (pa)), .int (nI (f1)), .int (nI (f2)), .int (nI (hf))])) := p0
  have hK : xPk F (b + 100) (cm.2.1) (K) := hK
  have hin : xTx F (b + 101) (60) (pn) (psg) := hin
  have hli : xTx F (b + 107) (32) (lnn) (lsg) := hli
  have hbt : xBt F (b + 109) (nb) (fb9) := hbt
  have hrg : xRg F (b + 111) := hrg
  have htr : xTx F (b + 122) (16) (tn) (tsg) := htr
  have hcr : F (b + 124) = some (.inr (0, 17, fun b9 => .int (nI (cr b9)))) := hcr
  have hps : xPs F (b) (past) := hps
  have s0 : F (b + 1) = some (.inl (7, [.ref (b + 2), .ref (b + 9), .ref (b + 11), .ref (b + 37), .ref (b + 48), .int (nI (c1)), .int (nI (c2)), .int (nI (c3)), .int (nI (c4))])) := s0
  have h1 : xCd F (b + 2) (w) ((hLen w)) ((hVal (hLen w))) ((hOrd (hLen w))) ((hSum w)) := h1
  have h2 : xTx F (b + 9) (16) (dn) (ds) := h2
  have h3 : xQp F (b + 11) (k) (nx) (p) (m) := h3
  have h4 : xFr F (b + 37) (fk) (fb) (ftn) (fts) (fw) := h4
  have h5 : xTx F (b + 48) (16) (rn) (rs) := h5
  have hk8 : k ≤ 8 := h3.2.1.1
  refine x_aload_n hC d_MessageCoder_syndrome_0 rfl rfl ?_
  refine x_iload_n hC d_MessageCoder_syndrome_1 rfl rfl ?_
  refine x_callXV hC hR kv_MessageCoder_274 (c_MessageCoder_blockOf (b0 := b0) (s0 := s0) (h4 := h4) (hZx := hZx)) (fun E9 F9 z9 hp9 => hp9) b0 rfl rfl (by decide) rfl rfl rfl (Nat.le_of_ble_eq_true rfl) (by decide) d_MessageCoder_syndrome_2 (fun r9 F9 z9 hp9 => ?_)
  obtain ⟨rfl, h9b, h9c, pn0_2⟩ := hp9
  rw [h9b, h9c]
  clear h9b h9c F9 z9
  have hx9 : fb i.toNatClampNeg < 128 := h4.2.1.2 _ (i2n_lt pn0_2.1 pn0_2.2 (by have := h4.2.1.1; omega))
  refine x_callS hC ks_MessageCoder_277 (c_Frame_syndromeFor (hx := hx9)) (by decide) rfl rfl rfl (Nat.le_of_ble_eq_true rfl) (by decide) d_MessageCoder_syndrome_5 (fun r9 F9 z9 hp9 => ?_)
  obtain ⟨rfl, h9b, h9c⟩ := hp9
  rw [h9b, h9c]
  clear h9b h9c F9 z9
  exact hret _ _ _ _ _ _ _ d_MessageCoder_syndrome_8 (by decide) (by decide) rfl (⟨rfl, rfl, rfl, pn0_2⟩)

theorem d_MessageCoder_correctedBits_0 : decode prog_1_method_41_code 0 = .ok (.aload_n 0, 1) := by decide +kernel
theorem d_MessageCoder_correctedBits_1 : decode prog_1_method_41_code 1 = .ok (.iload_n 1, 1) := by decide +kernel
theorem d_MessageCoder_correctedBits_2 : decode prog_1_method_41_code 2 = .ok (.invokevirtual 274, 3) := by decide +kernel
theorem d_MessageCoder_correctedBits_5 : decode prog_1_method_41_code 5 = .ok (.invokestatic 280, 3) := by decide +kernel
theorem d_MessageCoder_correctedBits_8 : decode prog_1_method_41_code 8 = .ok (.invokestatic 283, 3) := by decide +kernel
theorem d_MessageCoder_correctedBits_11 : decode prog_1_method_41_code 11 = .ok (.ireturn, 1) := by decide +kernel
set_option maxHeartbeats 4000000 in
set_option maxRecDepth 20000 in
theorem c_MessageCoder_correctedBits {P : xP} {F : xF} {z : Nat} {b : Nat} {cm : cmT} {M : mcS} {i : Int32} (hM : xMC F (cm) (b) (M)) (hZx : xZx P) : xMx P xy_MessageCoder_correctedBits [.ref b, .int i] F (z) 1 6 (fun r9 F9 z9 => r9 = some (.int (nI (datN (corN (M.1.2.2.2.1.2.1 i.toNatClampNeg))))) ∧ F9 = F ∧ z9 = z ∧ (0 ≤ i ∧ i < nI M.1.2.2.2.1.1)) (fun E9 F9 z9 => (E9 = "java/lang/IndexOutOfBoundsException" ∧ F9 = F ∧ (¬ (0 ≤ i ∧ i < nI M.1.2.2.2.1.1)))) := by
  refine xMx_i .int rfl (Nat.le_of_ble_eq_true rfl) (L0 := [some (.ref b), some (.int i)]) rfl rfl fun Θ hC hR hret => ?_
  obtain ⟨A, S, past, ⟨pn, psg⟩, ⟨lnn, lsg⟩, sv, pp, un, ep, fc⟩ := M
  obtain ⟨b0, hs, hv, ⟨pf, hpa, hpf⟩, ⟨cc, pa, f1, f2, hf, K, p0, hK⟩, hin, hli, ⟨nb, fb9, hbt⟩, hrg, ⟨tn, tsg, htr⟩, ⟨cr, hcr⟩, hps⟩ := id hM
  obtain ⟨w, ⟨dn, ds⟩, ⟨k, nx, ms⟩, ⟨fk, fb, ftn, fts, fw⟩, ⟨rn, rs⟩, c1, c2, c3, c4⟩ := A
  obtain ⟨s0, h1, h2, ⟨p, m, h3, hms⟩, h4, h5⟩ := id hs
  have hms : ∀ i, i < k → m i = ms i := hms
  have b0 : F (b) = some (.inl (9, [.ref (b + 1), .ref (b + 50), .ref (b + 99), .ref (b + 100), .ref (b + 107), .ref (b + 109), .ref (b + 111), .ref (b + 122), .ref (b + 124), .int (nI (sv)), .int (nI (pp)), .int (nI (un)), .int ep, .int fc])) := b0
  have hv : xSt F (b + 50) (S) := hv
  have hpa : F (b + 99) = some (.inr (4, 9, pf)) := hpa
  have p0 : F (b + 100) = some (.inl (4, [.ref (b + 101), .ref (b + 103), .ref (b + 104), .ref (b + 105), .ref (b + 106), .int (nI (K.1)), .int (nI (cc)), .int (nI (pa)), .int (nI (f1)), .int (nI (f2)), .int (nI (hf))])) := p0
  have hK : xPk F (b + 100) (cm.2.1) (K) := hK
  have hin : xTx F (b + 101) (60) (pn) (psg) := hin
  have hli : xTx F (b + 107) (32) (lnn) (lsg) := hli
  have hbt : xBt F (b + 109) (nb) (fb9) := hbt
  have hrg : xRg F (b + 111) := hrg
  have htr : xTx F (b + 122) (16) (tn) (tsg) := htr
  have hcr : F (b + 124) = some (.inr (0, 17, fun b9 => .int (nI (cr b9)))) := hcr
  have hps : xPs F (b) (past) := hps
  have s0 : F (b + 1) = some (.inl (7, [.ref (b + 2), .ref (b + 9), .ref (b + 11), .ref (b + 37), .ref (b + 48), .int (nI (c1)), .int (nI (c2)), .int (nI (c3)), .int (nI (c4))])) := s0
  have h1 : xCd F (b + 2) (w) ((hLen w)) ((hVal (hLen w))) ((hOrd (hLen w))) ((hSum w)) := h1
  have h2 : xTx F (b + 9) (16) (dn) (ds) := h2
  have h3 : xQp F (b + 11) (k) (nx) (p) (m) := h3
  have h4 : xFr F (b + 37) (fk) (fb) (ftn) (fts) (fw) := h4
  have h5 : xTx F (b + 48) (16) (rn) (rs) := h5
  have hk8 : k ≤ 8 := h3.2.1.1
  refine x_aload_n hC d_MessageCoder_correctedBits_0 rfl rfl ?_
  refine x_iload_n hC d_MessageCoder_correctedBits_1 rfl rfl ?_
  refine x_callXV hC hR kv_MessageCoder_274 (c_MessageCoder_blockOf (b0 := b0) (s0 := s0) (h4 := h4) (hZx := hZx)) (fun E9 F9 z9 hp9 => hp9) b0 rfl rfl (by decide) rfl rfl rfl (Nat.le_of_ble_eq_true rfl) (by decide) d_MessageCoder_correctedBits_2 (fun r9 F9 z9 hp9 => ?_)
  obtain ⟨rfl, h9b, h9c, pn0_2⟩ := hp9
  rw [h9b, h9c]
  clear h9b h9c F9 z9
  have hx9 : fb i.toNatClampNeg < 128 := h4.2.1.2 _ (i2n_lt pn0_2.1 pn0_2.2 (by have := h4.2.1.1; omega))
  refine x_callS hC ks_MessageCoder_280 (c_Frame_corrected (hx := hx9)) (by decide) rfl rfl rfl (Nat.le_of_ble_eq_true rfl) (by decide) d_MessageCoder_correctedBits_5 (fun r9 F9 z9 hp9 => ?_)
  obtain ⟨rfl, h9b, h9c⟩ := hp9
  rw [h9b, h9c]
  clear h9b h9c F9 z9
  refine x_callS hC ks_MessageCoder_283 (c_Frame_dataOf (hx := cor_lt _ hx9)) (by decide) rfl rfl rfl (Nat.le_of_ble_eq_true rfl) (by decide) d_MessageCoder_correctedBits_8 (fun r9 F9 z9 hp9 => ?_)
  obtain ⟨rfl, h9b, h9c⟩ := hp9
  rw [h9b, h9c]
  clear h9b h9c F9 z9
  exact hret _ _ _ _ _ _ _ d_MessageCoder_correctedBits_11 (by decide) (by decide) rfl (⟨rfl, rfl, rfl, pn0_2⟩)

theorem d_MessageCoder_correctedBitsByDistance_0 : decode prog_1_method_42_code 0 = .ok (.aload_n 0, 1) := by decide +kernel
theorem d_MessageCoder_correctedBitsByDistance_1 : decode prog_1_method_42_code 1 = .ok (.iload_n 1, 1) := by decide +kernel
theorem d_MessageCoder_correctedBitsByDistance_2 : decode prog_1_method_42_code 2 = .ok (.invokevirtual 274, 3) := by decide +kernel
theorem d_MessageCoder_correctedBitsByDistance_5 : decode prog_1_method_42_code 5 = .ok (.invokestatic 286, 3) := by decide +kernel
theorem d_MessageCoder_correctedBitsByDistance_8 : decode prog_1_method_42_code 8 = .ok (.ireturn, 1) := by decide +kernel
set_option maxHeartbeats 4000000 in
set_option maxRecDepth 20000 in
theorem c_MessageCoder_correctedBitsByDistance {P : xP} {F : xF} {z : Nat} {b : Nat} {cm : cmT} {M : mcS} {i : Int32} (hM : xMC F (cm) (b) (M)) (hZx : xZx P) : xMx P xy_MessageCoder_correctedBitsByDistance [.ref b, .int i] F (z) 1 6 (fun r9 F9 z9 => r9 = some (.int (nI (datN (corN (M.1.2.2.2.1.2.1 i.toNatClampNeg))))) ∧ F9 = F ∧ z9 = z ∧ (0 ≤ i ∧ i < nI M.1.2.2.2.1.1)) (fun E9 F9 z9 => (E9 = "java/lang/IndexOutOfBoundsException" ∧ F9 = F ∧ (¬ (0 ≤ i ∧ i < nI M.1.2.2.2.1.1)))) := by
  refine xMx_i .int rfl (Nat.le_of_ble_eq_true rfl) (L0 := [some (.ref b), some (.int i)]) rfl rfl fun Θ hC hR hret => ?_
  obtain ⟨A, S, past, ⟨pn, psg⟩, ⟨lnn, lsg⟩, sv, pp, un, ep, fc⟩ := M
  obtain ⟨b0, hs, hv, ⟨pf, hpa, hpf⟩, ⟨cc, pa, f1, f2, hf, K, p0, hK⟩, hin, hli, ⟨nb, fb9, hbt⟩, hrg, ⟨tn, tsg, htr⟩, ⟨cr, hcr⟩, hps⟩ := id hM
  obtain ⟨w, ⟨dn, ds⟩, ⟨k, nx, ms⟩, ⟨fk, fb, ftn, fts, fw⟩, ⟨rn, rs⟩, c1, c2, c3, c4⟩ := A
  obtain ⟨s0, h1, h2, ⟨p, m, h3, hms⟩, h4, h5⟩ := id hs
  have hms : ∀ i, i < k → m i = ms i := hms
  have b0 : F (b) = some (.inl (9, [.ref (b + 1), .ref (b + 50), .ref (b + 99), .ref (b + 100), .ref (b + 107), .ref (b + 109), .ref (b + 111), .ref (b + 122), .ref (b + 124), .int (nI (sv)), .int (nI (pp)), .int (nI (un)), .int ep, .int fc])) := b0
  have hv : xSt F (b + 50) (S) := hv
  have hpa : F (b + 99) = some (.inr (4, 9, pf)) := hpa
  have p0 : F (b + 100) = some (.inl (4, [.ref (b + 101), .ref (b + 103), .ref (b + 104), .ref (b + 105), .ref (b + 106), .int (nI (K.1)), .int (nI (cc)), .int (nI (pa)), .int (nI (f1)), .int (nI (f2)), .int (nI (hf))])) := p0
  have hK : xPk F (b + 100) (cm.2.1) (K) := hK
  have hin : xTx F (b + 101) (60) (pn) (psg) := hin
  have hli : xTx F (b + 107) (32) (lnn) (lsg) := hli
  have hbt : xBt F (b + 109) (nb) (fb9) := hbt
  have hrg : xRg F (b + 111) := hrg
  have htr : xTx F (b + 122) (16) (tn) (tsg) := htr
  have hcr : F (b + 124) = some (.inr (0, 17, fun b9 => .int (nI (cr b9)))) := hcr
  have hps : xPs F (b) (past) := hps
  have s0 : F (b + 1) = some (.inl (7, [.ref (b + 2), .ref (b + 9), .ref (b + 11), .ref (b + 37), .ref (b + 48), .int (nI (c1)), .int (nI (c2)), .int (nI (c3)), .int (nI (c4))])) := s0
  have h1 : xCd F (b + 2) (w) ((hLen w)) ((hVal (hLen w))) ((hOrd (hLen w))) ((hSum w)) := h1
  have h2 : xTx F (b + 9) (16) (dn) (ds) := h2
  have h3 : xQp F (b + 11) (k) (nx) (p) (m) := h3
  have h4 : xFr F (b + 37) (fk) (fb) (ftn) (fts) (fw) := h4
  have h5 : xTx F (b + 48) (16) (rn) (rs) := h5
  have hk8 : k ≤ 8 := h3.2.1.1
  refine x_aload_n hC d_MessageCoder_correctedBitsByDistance_0 rfl rfl ?_
  refine x_iload_n hC d_MessageCoder_correctedBitsByDistance_1 rfl rfl ?_
  refine x_callXV hC hR kv_MessageCoder_274 (c_MessageCoder_blockOf (b0 := b0) (s0 := s0) (h4 := h4) (hZx := hZx)) (fun E9 F9 z9 hp9 => hp9) b0 rfl rfl (by decide) rfl rfl rfl (Nat.le_of_ble_eq_true rfl) (by decide) d_MessageCoder_correctedBitsByDistance_2 (fun r9 F9 z9 hp9 => ?_)
  obtain ⟨rfl, h9b, h9c, pn0_2⟩ := hp9
  rw [h9b, h9c]
  clear h9b h9c F9 z9
  have hx9 : fb i.toNatClampNeg < 128 := h4.2.1.2 _ (i2n_lt pn0_2.1 pn0_2.2 (by have := h4.2.1.1; omega))
  refine x_callS hC ks_MessageCoder_286 (c_Frame_nearestData (hx := hx9)) (by decide) rfl rfl rfl (Nat.le_of_ble_eq_true rfl) (by decide) d_MessageCoder_correctedBitsByDistance_5 (fun r9 F9 z9 hp9 => ?_)
  obtain ⟨rfl, h9b, h9c⟩ := hp9
  rw [h9b, h9c]
  clear h9b h9c F9 z9
  exact hret _ _ _ _ _ _ _ d_MessageCoder_correctedBitsByDistance_8 (by decide) (by decide) rfl (⟨congrArg (fun q => some (Value.int (nI q))) ((nea_eq _ hx9).symm), rfl, rfl, pn0_2⟩)

theorem d_MessageCoder_damagedBlocks_0 : decode prog_1_method_43_code 0 = .ok (.aload_n 0, 1) := by decide +kernel
theorem d_MessageCoder_damagedBlocks_1 : decode prog_1_method_43_code 1 = .ok (.getfield 12, 3) := by decide +kernel
theorem d_MessageCoder_damagedBlocks_4 : decode prog_1_method_43_code 4 = .ok (.getfield 254, 3) := by decide +kernel
theorem d_MessageCoder_damagedBlocks_7 : decode prog_1_method_43_code 7 = .ok (.invokevirtual 289, 3) := by decide +kernel
theorem d_MessageCoder_damagedBlocks_10 : decode prog_1_method_43_code 10 = .ok (.ireturn, 1) := by decide +kernel
set_option maxHeartbeats 4000000 in
set_option maxRecDepth 20000 in
theorem c_MessageCoder_damagedBlocks {P : xP} {F : xF} {z : Nat} {b : Nat} {cm : cmT} {M : mcS} (hM : xMC F (cm) (b) (M))  : xM P xy_MessageCoder_damagedBlocks [.ref b] F (z) 0 0 (fun r9 F9 z9 => r9 = some (.int (nI (dmgN M.1.2.2.2.1.2.1 M.1.2.2.2.1.1))) ∧ F9 = F ∧ z9 = z) := by
  refine xM_i .int rfl (Nat.le_of_ble_eq_true rfl) (L0 := [some (.ref b)]) rfl rfl fun Θ hC hret => ?_
  obtain ⟨A, S, past, ⟨pn, psg⟩, ⟨lnn, lsg⟩, sv, pp, un, ep, fc⟩ := M
  obtain ⟨b0, hs, hv, ⟨pf, hpa, hpf⟩, ⟨cc, pa, f1, f2, hf, K, p0, hK⟩, hin, hli, ⟨nb, fb9, hbt⟩, hrg, ⟨tn, tsg, htr⟩, ⟨cr, hcr⟩, hps⟩ := id hM
  obtain ⟨w, ⟨dn, ds⟩, ⟨k, nx, ms⟩, ⟨fk, fb, ftn, fts, fw⟩, ⟨rn, rs⟩, c1, c2, c3, c4⟩ := A
  obtain ⟨s0, h1, h2, ⟨p, m, h3, hms⟩, h4, h5⟩ := id hs
  have hms : ∀ i, i < k → m i = ms i := hms
  have b0 : F (b) = some (.inl (9, [.ref (b + 1), .ref (b + 50), .ref (b + 99), .ref (b + 100), .ref (b + 107), .ref (b + 109), .ref (b + 111), .ref (b + 122), .ref (b + 124), .int (nI (sv)), .int (nI (pp)), .int (nI (un)), .int ep, .int fc])) := b0
  have hv : xSt F (b + 50) (S) := hv
  have hpa : F (b + 99) = some (.inr (4, 9, pf)) := hpa
  have p0 : F (b + 100) = some (.inl (4, [.ref (b + 101), .ref (b + 103), .ref (b + 104), .ref (b + 105), .ref (b + 106), .int (nI (K.1)), .int (nI (cc)), .int (nI (pa)), .int (nI (f1)), .int (nI (f2)), .int (nI (hf))])) := p0
  have hK : xPk F (b + 100) (cm.2.1) (K) := hK
  have hin : xTx F (b + 101) (60) (pn) (psg) := hin
  have hli : xTx F (b + 107) (32) (lnn) (lsg) := hli
  have hbt : xBt F (b + 109) (nb) (fb9) := hbt
  have hrg : xRg F (b + 111) := hrg
  have htr : xTx F (b + 122) (16) (tn) (tsg) := htr
  have hcr : F (b + 124) = some (.inr (0, 17, fun b9 => .int (nI (cr b9)))) := hcr
  have hps : xPs F (b) (past) := hps
  have s0 : F (b + 1) = some (.inl (7, [.ref (b + 2), .ref (b + 9), .ref (b + 11), .ref (b + 37), .ref (b + 48), .int (nI (c1)), .int (nI (c2)), .int (nI (c3)), .int (nI (c4))])) := s0
  have h1 : xCd F (b + 2) (w) ((hLen w)) ((hVal (hLen w))) ((hOrd (hLen w))) ((hSum w)) := h1
  have h2 : xTx F (b + 9) (16) (dn) (ds) := h2
  have h3 : xQp F (b + 11) (k) (nx) (p) (m) := h3
  have h4 : xFr F (b + 37) (fk) (fb) (ftn) (fts) (fw) := h4
  have h5 : xTx F (b + 48) (16) (rn) (rs) := h5
  have hk8 : k ≤ 8 := h3.2.1.1
  refine x_aload_n hC d_MessageCoder_damagedBlocks_0 rfl rfl ?_
  refine x_getf hC kf_MessageCoder_12 b0 rfl d_MessageCoder_damagedBlocks_1 ?_
  refine x_getf hC kf_MessageCoder_254 s0 rfl d_MessageCoder_damagedBlocks_4 ?_
  refine x_callV hC kv_MessageCoder_289 (c_Frame_damaged (hr := h4)) h4.1 rfl rfl (by decide) rfl rfl rfl (Nat.le_of_ble_eq_true rfl) (by decide) d_MessageCoder_damagedBlocks_7 (fun r9 F9 z9 hp9 => ?_)
  obtain ⟨rfl, h9b, h9c⟩ := hp9
  rw [h9b, h9c]
  clear h9b h9c F9 z9
  exact hret _ _ _ _ _ _ _ d_MessageCoder_damagedBlocks_10 (by decide) (by decide) rfl (⟨rfl, rfl, rfl⟩)


theorem d_MessageCoder_receivedLength_0 : decode prog_1_method_45_code 0 = .ok (.aload_n 0, 1) := by decide +kernel
theorem d_MessageCoder_receivedLength_1 : decode prog_1_method_45_code 1 = .ok (.getfield 12, 3) := by decide +kernel
theorem d_MessageCoder_receivedLength_4 : decode prog_1_method_45_code 4 = .ok (.getfield 297, 3) := by decide +kernel
theorem d_MessageCoder_receivedLength_7 : decode prog_1_method_45_code 7 = .ok (.getfield 181, 3) := by decide +kernel
theorem d_MessageCoder_receivedLength_10 : decode prog_1_method_45_code 10 = .ok (.ireturn, 1) := by decide +kernel
set_option maxHeartbeats 4000000 in
set_option maxRecDepth 20000 in
theorem c_MessageCoder_receivedLength {P : xP} {F : xF} {z : Nat} {b : Nat} {cm : cmT} {M : mcS} (hM : xMC F (cm) (b) (M))  : xM P xy_MessageCoder_receivedLength [.ref b] F (z) 0 0 (fun r9 F9 z9 => r9 = some (.int (nI (M.1.2.2.2.2.1.1))) ∧ F9 = F ∧ z9 = z) := by
  refine xM_i .int rfl (Nat.le_of_ble_eq_true rfl) (L0 := [some (.ref b)]) rfl rfl fun Θ hC hret => ?_
  obtain ⟨A, S, past, ⟨pn, psg⟩, ⟨lnn, lsg⟩, sv, pp, un, ep, fc⟩ := M
  obtain ⟨b0, hs, hv, ⟨pf, hpa, hpf⟩, ⟨cc, pa, f1, f2, hf, K, p0, hK⟩, hin, hli, ⟨nb, fb9, hbt⟩, hrg, ⟨tn, tsg, htr⟩, ⟨cr, hcr⟩, hps⟩ := id hM
  obtain ⟨w, ⟨dn, ds⟩, ⟨k, nx, ms⟩, ⟨fk, fb, ftn, fts, fw⟩, ⟨rn, rs⟩, c1, c2, c3, c4⟩ := A
  obtain ⟨s0, h1, h2, ⟨p, m, h3, hms⟩, h4, h5⟩ := id hs
  have hms : ∀ i, i < k → m i = ms i := hms
  have b0 : F (b) = some (.inl (9, [.ref (b + 1), .ref (b + 50), .ref (b + 99), .ref (b + 100), .ref (b + 107), .ref (b + 109), .ref (b + 111), .ref (b + 122), .ref (b + 124), .int (nI (sv)), .int (nI (pp)), .int (nI (un)), .int ep, .int fc])) := b0
  have hv : xSt F (b + 50) (S) := hv
  have hpa : F (b + 99) = some (.inr (4, 9, pf)) := hpa
  have p0 : F (b + 100) = some (.inl (4, [.ref (b + 101), .ref (b + 103), .ref (b + 104), .ref (b + 105), .ref (b + 106), .int (nI (K.1)), .int (nI (cc)), .int (nI (pa)), .int (nI (f1)), .int (nI (f2)), .int (nI (hf))])) := p0
  have hK : xPk F (b + 100) (cm.2.1) (K) := hK
  have hin : xTx F (b + 101) (60) (pn) (psg) := hin
  have hli : xTx F (b + 107) (32) (lnn) (lsg) := hli
  have hbt : xBt F (b + 109) (nb) (fb9) := hbt
  have hrg : xRg F (b + 111) := hrg
  have htr : xTx F (b + 122) (16) (tn) (tsg) := htr
  have hcr : F (b + 124) = some (.inr (0, 17, fun b9 => .int (nI (cr b9)))) := hcr
  have hps : xPs F (b) (past) := hps
  have s0 : F (b + 1) = some (.inl (7, [.ref (b + 2), .ref (b + 9), .ref (b + 11), .ref (b + 37), .ref (b + 48), .int (nI (c1)), .int (nI (c2)), .int (nI (c3)), .int (nI (c4))])) := s0
  have h1 : xCd F (b + 2) (w) ((hLen w)) ((hVal (hLen w))) ((hOrd (hLen w))) ((hSum w)) := h1
  have h2 : xTx F (b + 9) (16) (dn) (ds) := h2
  have h3 : xQp F (b + 11) (k) (nx) (p) (m) := h3
  have h4 : xFr F (b + 37) (fk) (fb) (ftn) (fts) (fw) := h4
  have h5 : xTx F (b + 48) (16) (rn) (rs) := h5
  have hk8 : k ≤ 8 := h3.2.1.1
  refine x_aload_n hC d_MessageCoder_receivedLength_0 rfl rfl ?_
  refine x_getf hC kf_MessageCoder_12 b0 rfl d_MessageCoder_receivedLength_1 ?_
  refine x_getf hC kf_MessageCoder_297 s0 rfl d_MessageCoder_receivedLength_4 ?_
  refine x_getf hC kf_MessageCoder_181 h5.1 rfl d_MessageCoder_receivedLength_7 ?_
  exact hret _ _ _ _ _ _ _ d_MessageCoder_receivedLength_10 (by decide) (by decide) rfl (⟨rfl, rfl, rfl⟩)

theorem d_MessageCoder_sentTotal_0 : decode prog_1_method_47_code 0 = .ok (.aload_n 0, 1) := by decide +kernel
theorem d_MessageCoder_sentTotal_1 : decode prog_1_method_47_code 1 = .ok (.getfield 12, 3) := by decide +kernel
theorem d_MessageCoder_sentTotal_4 : decode prog_1_method_47_code 4 = .ok (.getfield 300, 3) := by decide +kernel
theorem d_MessageCoder_sentTotal_7 : decode prog_1_method_47_code 7 = .ok (.ireturn, 1) := by decide +kernel
set_option maxHeartbeats 4000000 in
set_option maxRecDepth 20000 in
theorem c_MessageCoder_sentTotal {P : xP} {F : xF} {z : Nat} {b : Nat} {cm : cmT} {M : mcS} (hM : xMC F (cm) (b) (M))  : xM P xy_MessageCoder_sentTotal [.ref b] F (z) 0 0 (fun r9 F9 z9 => r9 = some (.int (nI (M.1.2.2.2.2.2.1))) ∧ F9 = F ∧ z9 = z) := by
  refine xM_i .int rfl (Nat.le_of_ble_eq_true rfl) (L0 := [some (.ref b)]) rfl rfl fun Θ hC hret => ?_
  obtain ⟨A, S, past, ⟨pn, psg⟩, ⟨lnn, lsg⟩, sv, pp, un, ep, fc⟩ := M
  obtain ⟨b0, hs, hv, ⟨pf, hpa, hpf⟩, ⟨cc, pa, f1, f2, hf, K, p0, hK⟩, hin, hli, ⟨nb, fb9, hbt⟩, hrg, ⟨tn, tsg, htr⟩, ⟨cr, hcr⟩, hps⟩ := id hM
  obtain ⟨w, ⟨dn, ds⟩, ⟨k, nx, ms⟩, ⟨fk, fb, ftn, fts, fw⟩, ⟨rn, rs⟩, c1, c2, c3, c4⟩ := A
  obtain ⟨s0, h1, h2, ⟨p, m, h3, hms⟩, h4, h5⟩ := id hs
  have hms : ∀ i, i < k → m i = ms i := hms
  have b0 : F (b) = some (.inl (9, [.ref (b + 1), .ref (b + 50), .ref (b + 99), .ref (b + 100), .ref (b + 107), .ref (b + 109), .ref (b + 111), .ref (b + 122), .ref (b + 124), .int (nI (sv)), .int (nI (pp)), .int (nI (un)), .int ep, .int fc])) := b0
  have hv : xSt F (b + 50) (S) := hv
  have hpa : F (b + 99) = some (.inr (4, 9, pf)) := hpa
  have p0 : F (b + 100) = some (.inl (4, [.ref (b + 101), .ref (b + 103), .ref (b + 104), .ref (b + 105), .ref (b + 106), .int (nI (K.1)), .int (nI (cc)), .int (nI (pa)), .int (nI (f1)), .int (nI (f2)), .int (nI (hf))])) := p0
  have hK : xPk F (b + 100) (cm.2.1) (K) := hK
  have hin : xTx F (b + 101) (60) (pn) (psg) := hin
  have hli : xTx F (b + 107) (32) (lnn) (lsg) := hli
  have hbt : xBt F (b + 109) (nb) (fb9) := hbt
  have hrg : xRg F (b + 111) := hrg
  have htr : xTx F (b + 122) (16) (tn) (tsg) := htr
  have hcr : F (b + 124) = some (.inr (0, 17, fun b9 => .int (nI (cr b9)))) := hcr
  have hps : xPs F (b) (past) := hps
  have s0 : F (b + 1) = some (.inl (7, [.ref (b + 2), .ref (b + 9), .ref (b + 11), .ref (b + 37), .ref (b + 48), .int (nI (c1)), .int (nI (c2)), .int (nI (c3)), .int (nI (c4))])) := s0
  have h1 : xCd F (b + 2) (w) ((hLen w)) ((hVal (hLen w))) ((hOrd (hLen w))) ((hSum w)) := h1
  have h2 : xTx F (b + 9) (16) (dn) (ds) := h2
  have h3 : xQp F (b + 11) (k) (nx) (p) (m) := h3
  have h4 : xFr F (b + 37) (fk) (fb) (ftn) (fts) (fw) := h4
  have h5 : xTx F (b + 48) (16) (rn) (rs) := h5
  have hk8 : k ≤ 8 := h3.2.1.1
  refine x_aload_n hC d_MessageCoder_sentTotal_0 rfl rfl ?_
  refine x_getf hC kf_MessageCoder_12 b0 rfl d_MessageCoder_sentTotal_1 ?_
  refine x_getf hC kf_MessageCoder_300 s0 rfl d_MessageCoder_sentTotal_4 ?_
  exact hret _ _ _ _ _ _ _ d_MessageCoder_sentTotal_7 (by decide) (by decide) rfl (⟨rfl, rfl, rfl⟩)

theorem d_MessageCoder_receivedTotal_0 : decode prog_1_method_48_code 0 = .ok (.aload_n 0, 1) := by decide +kernel
theorem d_MessageCoder_receivedTotal_1 : decode prog_1_method_48_code 1 = .ok (.getfield 12, 3) := by decide +kernel
theorem d_MessageCoder_receivedTotal_4 : decode prog_1_method_48_code 4 = .ok (.getfield 303, 3) := by decide +kernel
theorem d_MessageCoder_receivedTotal_7 : decode prog_1_method_48_code 7 = .ok (.ireturn, 1) := by decide +kernel
set_option maxHeartbeats 4000000 in
set_option maxRecDepth 20000 in
theorem c_MessageCoder_receivedTotal {P : xP} {F : xF} {z : Nat} {b : Nat} {cm : cmT} {M : mcS} (hM : xMC F (cm) (b) (M))  : xM P xy_MessageCoder_receivedTotal [.ref b] F (z) 0 0 (fun r9 F9 z9 => r9 = some (.int (nI (M.1.2.2.2.2.2.2.1))) ∧ F9 = F ∧ z9 = z) := by
  refine xM_i .int rfl (Nat.le_of_ble_eq_true rfl) (L0 := [some (.ref b)]) rfl rfl fun Θ hC hret => ?_
  obtain ⟨A, S, past, ⟨pn, psg⟩, ⟨lnn, lsg⟩, sv, pp, un, ep, fc⟩ := M
  obtain ⟨b0, hs, hv, ⟨pf, hpa, hpf⟩, ⟨cc, pa, f1, f2, hf, K, p0, hK⟩, hin, hli, ⟨nb, fb9, hbt⟩, hrg, ⟨tn, tsg, htr⟩, ⟨cr, hcr⟩, hps⟩ := id hM
  obtain ⟨w, ⟨dn, ds⟩, ⟨k, nx, ms⟩, ⟨fk, fb, ftn, fts, fw⟩, ⟨rn, rs⟩, c1, c2, c3, c4⟩ := A
  obtain ⟨s0, h1, h2, ⟨p, m, h3, hms⟩, h4, h5⟩ := id hs
  have hms : ∀ i, i < k → m i = ms i := hms
  have b0 : F (b) = some (.inl (9, [.ref (b + 1), .ref (b + 50), .ref (b + 99), .ref (b + 100), .ref (b + 107), .ref (b + 109), .ref (b + 111), .ref (b + 122), .ref (b + 124), .int (nI (sv)), .int (nI (pp)), .int (nI (un)), .int ep, .int fc])) := b0
  have hv : xSt F (b + 50) (S) := hv
  have hpa : F (b + 99) = some (.inr (4, 9, pf)) := hpa
  have p0 : F (b + 100) = some (.inl (4, [.ref (b + 101), .ref (b + 103), .ref (b + 104), .ref (b + 105), .ref (b + 106), .int (nI (K.1)), .int (nI (cc)), .int (nI (pa)), .int (nI (f1)), .int (nI (f2)), .int (nI (hf))])) := p0
  have hK : xPk F (b + 100) (cm.2.1) (K) := hK
  have hin : xTx F (b + 101) (60) (pn) (psg) := hin
  have hli : xTx F (b + 107) (32) (lnn) (lsg) := hli
  have hbt : xBt F (b + 109) (nb) (fb9) := hbt
  have hrg : xRg F (b + 111) := hrg
  have htr : xTx F (b + 122) (16) (tn) (tsg) := htr
  have hcr : F (b + 124) = some (.inr (0, 17, fun b9 => .int (nI (cr b9)))) := hcr
  have hps : xPs F (b) (past) := hps
  have s0 : F (b + 1) = some (.inl (7, [.ref (b + 2), .ref (b + 9), .ref (b + 11), .ref (b + 37), .ref (b + 48), .int (nI (c1)), .int (nI (c2)), .int (nI (c3)), .int (nI (c4))])) := s0
  have h1 : xCd F (b + 2) (w) ((hLen w)) ((hVal (hLen w))) ((hOrd (hLen w))) ((hSum w)) := h1
  have h2 : xTx F (b + 9) (16) (dn) (ds) := h2
  have h3 : xQp F (b + 11) (k) (nx) (p) (m) := h3
  have h4 : xFr F (b + 37) (fk) (fb) (ftn) (fts) (fw) := h4
  have h5 : xTx F (b + 48) (16) (rn) (rs) := h5
  have hk8 : k ≤ 8 := h3.2.1.1
  refine x_aload_n hC d_MessageCoder_receivedTotal_0 rfl rfl ?_
  refine x_getf hC kf_MessageCoder_12 b0 rfl d_MessageCoder_receivedTotal_1 ?_
  refine x_getf hC kf_MessageCoder_303 s0 rfl d_MessageCoder_receivedTotal_4 ?_
  exact hret _ _ _ _ _ _ _ d_MessageCoder_receivedTotal_7 (by decide) (by decide) rfl (⟨rfl, rfl, rfl⟩)


theorem d_MessageCoder_failedTotal_0 : decode prog_1_method_50_code 0 = .ok (.aload_n 0, 1) := by decide +kernel
theorem d_MessageCoder_failedTotal_1 : decode prog_1_method_50_code 1 = .ok (.getfield 12, 3) := by decide +kernel
theorem d_MessageCoder_failedTotal_4 : decode prog_1_method_50_code 4 = .ok (.getfield 309, 3) := by decide +kernel
theorem d_MessageCoder_failedTotal_7 : decode prog_1_method_50_code 7 = .ok (.ireturn, 1) := by decide +kernel
set_option maxHeartbeats 4000000 in
set_option maxRecDepth 20000 in
theorem c_MessageCoder_failedTotal {P : xP} {F : xF} {z : Nat} {b : Nat} {cm : cmT} {M : mcS} (hM : xMC F (cm) (b) (M))  : xM P xy_MessageCoder_failedTotal [.ref b] F (z) 0 0 (fun r9 F9 z9 => r9 = some (.int (nI (M.1.2.2.2.2.2.2.2.2))) ∧ F9 = F ∧ z9 = z) := by
  refine xM_i .int rfl (Nat.le_of_ble_eq_true rfl) (L0 := [some (.ref b)]) rfl rfl fun Θ hC hret => ?_
  obtain ⟨A, S, past, ⟨pn, psg⟩, ⟨lnn, lsg⟩, sv, pp, un, ep, fc⟩ := M
  obtain ⟨b0, hs, hv, ⟨pf, hpa, hpf⟩, ⟨cc, pa, f1, f2, hf, K, p0, hK⟩, hin, hli, ⟨nb, fb9, hbt⟩, hrg, ⟨tn, tsg, htr⟩, ⟨cr, hcr⟩, hps⟩ := id hM
  obtain ⟨w, ⟨dn, ds⟩, ⟨k, nx, ms⟩, ⟨fk, fb, ftn, fts, fw⟩, ⟨rn, rs⟩, c1, c2, c3, c4⟩ := A
  obtain ⟨s0, h1, h2, ⟨p, m, h3, hms⟩, h4, h5⟩ := id hs
  have hms : ∀ i, i < k → m i = ms i := hms
  have b0 : F (b) = some (.inl (9, [.ref (b + 1), .ref (b + 50), .ref (b + 99), .ref (b + 100), .ref (b + 107), .ref (b + 109), .ref (b + 111), .ref (b + 122), .ref (b + 124), .int (nI (sv)), .int (nI (pp)), .int (nI (un)), .int ep, .int fc])) := b0
  have hv : xSt F (b + 50) (S) := hv
  have hpa : F (b + 99) = some (.inr (4, 9, pf)) := hpa
  have p0 : F (b + 100) = some (.inl (4, [.ref (b + 101), .ref (b + 103), .ref (b + 104), .ref (b + 105), .ref (b + 106), .int (nI (K.1)), .int (nI (cc)), .int (nI (pa)), .int (nI (f1)), .int (nI (f2)), .int (nI (hf))])) := p0
  have hK : xPk F (b + 100) (cm.2.1) (K) := hK
  have hin : xTx F (b + 101) (60) (pn) (psg) := hin
  have hli : xTx F (b + 107) (32) (lnn) (lsg) := hli
  have hbt : xBt F (b + 109) (nb) (fb9) := hbt
  have hrg : xRg F (b + 111) := hrg
  have htr : xTx F (b + 122) (16) (tn) (tsg) := htr
  have hcr : F (b + 124) = some (.inr (0, 17, fun b9 => .int (nI (cr b9)))) := hcr
  have hps : xPs F (b) (past) := hps
  have s0 : F (b + 1) = some (.inl (7, [.ref (b + 2), .ref (b + 9), .ref (b + 11), .ref (b + 37), .ref (b + 48), .int (nI (c1)), .int (nI (c2)), .int (nI (c3)), .int (nI (c4))])) := s0
  have h1 : xCd F (b + 2) (w) ((hLen w)) ((hVal (hLen w))) ((hOrd (hLen w))) ((hSum w)) := h1
  have h2 : xTx F (b + 9) (16) (dn) (ds) := h2
  have h3 : xQp F (b + 11) (k) (nx) (p) (m) := h3
  have h4 : xFr F (b + 37) (fk) (fb) (ftn) (fts) (fw) := h4
  have h5 : xTx F (b + 48) (16) (rn) (rs) := h5
  have hk8 : k ≤ 8 := h3.2.1.1
  refine x_aload_n hC d_MessageCoder_failedTotal_0 rfl rfl ?_
  refine x_getf hC kf_MessageCoder_12 b0 rfl d_MessageCoder_failedTotal_1 ?_
  refine x_getf hC kf_MessageCoder_309 s0 rfl d_MessageCoder_failedTotal_4 ?_
  exact hret _ _ _ _ _ _ _ d_MessageCoder_failedTotal_7 (by decide) (by decide) rfl (⟨rfl, rfl, rfl⟩)




/-- a message as a line -/
def fmS (e : mS) : Nat → Nat := xcat (updN (xcat (updN (dgc e.1) (dgs e.1) 33) (dgs e.1 + 1) (dgc e.2.1)) (dgs e.1 + 1 + dgs e.2.1) 58) (dgs e.1 + 1 + dgs e.2.1 + 1) e.2.2.2
theorem dgs_3 (v : Nat) : dgs v ≤ 3 := by
  unfold dgs
  split
  · omega
  · split <;> omega
theorem xcat_0 (s u : Nat → Nat) : xcat s 0 u = u := funext (fun j => (if_neg (Nat.not_lt_zero j)).trans (congrArg u (Nat.sub_zero j)))
def setL (M : mcS) (n : Nat) (s : Nat → Nat) : mcS := (M.1, M.2.1, M.2.2.1, M.2.2.2.1, (n, s), M.2.2.2.2.2)

theorem d_MessageCoder_formatMessage_0 : decode prog_1_method_53_code 0 = .ok (.aload_n 0, 1) := by decide +kernel
theorem d_MessageCoder_formatMessage_1 : decode prog_1_method_53_code 1 = .ok (.iload_n 1, 1) := by decide +kernel
theorem d_MessageCoder_formatMessage_2 : decode prog_1_method_53_code 2 = .ok (.invokevirtual 216, 3) := by decide +kernel
theorem d_MessageCoder_formatMessage_5 : decode prog_1_method_53_code 5 = .ok (.astore_n 2, 1) := by decide +kernel
theorem d_MessageCoder_formatMessage_6 : decode prog_1_method_53_code 6 = .ok (.aload_n 0, 1) := by decide +kernel
theorem d_MessageCoder_formatMessage_7 : decode prog_1_method_53_code 7 = .ok (.getfield 35, 3) := by decide +kernel
theorem d_MessageCoder_formatMessage_10 : decode prog_1_method_53_code 10 = .ok (.invokevirtual 332, 3) := by decide +kernel
theorem d_MessageCoder_formatMessage_13 : decode prog_1_method_53_code 13 = .ok (.aload_n 0, 1) := by decide +kernel
theorem d_MessageCoder_formatMessage_14 : decode prog_1_method_53_code 14 = .ok (.getfield 35, 3) := by decide +kernel
theorem d_MessageCoder_formatMessage_17 : decode prog_1_method_53_code 17 = .ok (.aload_n 2, 1) := by decide +kernel
theorem d_MessageCoder_formatMessage_18 : decode prog_1_method_53_code 18 = .ok (.getfield 211, 3) := by decide +kernel
theorem d_MessageCoder_formatMessage_21 : decode prog_1_method_53_code 21 = .ok (.invokevirtual 335, 3) := by decide +kernel
theorem d_MessageCoder_formatMessage_24 : decode prog_1_method_53_code 24 = .ok (.aload_n 0, 1) := by decide +kernel
theorem d_MessageCoder_formatMessage_25 : decode prog_1_method_53_code 25 = .ok (.getfield 35, 3) := by decide +kernel
theorem d_MessageCoder_formatMessage_28 : decode prog_1_method_53_code 28 = .ok (.bipush 33, 2) := by decide +kernel
theorem d_MessageCoder_formatMessage_30 : decode prog_1_method_53_code 30 = .ok (.invokevirtual 338, 3) := by decide +kernel
theorem d_MessageCoder_formatMessage_33 : decode prog_1_method_53_code 33 = .ok (.pop, 1) := by decide +kernel
theorem d_MessageCoder_formatMessage_34 : decode prog_1_method_53_code 34 = .ok (.aload_n 0, 1) := by decide +kernel
theorem d_MessageCoder_formatMessage_35 : decode prog_1_method_53_code 35 = .ok (.getfield 35, 3) := by decide +kernel
theorem d_MessageCoder_formatMessage_38 : decode prog_1_method_53_code 38 = .ok (.aload_n 2, 1) := by decide +kernel
theorem d_MessageCoder_formatMessage_39 : decode prog_1_method_53_code 39 = .ok (.getfield 219, 3) := by decide +kernel
theorem d_MessageCoder_formatMessage_42 : decode prog_1_method_53_code 42 = .ok (.invokevirtual 335, 3) := by decide +kernel
theorem d_MessageCoder_formatMessage_45 : decode prog_1_method_53_code 45 = .ok (.aload_n 0, 1) := by decide +kernel
theorem d_MessageCoder_formatMessage_46 : decode prog_1_method_53_code 46 = .ok (.getfield 35, 3) := by decide +kernel
theorem d_MessageCoder_formatMessage_49 : decode prog_1_method_53_code 49 = .ok (.bipush 58, 2) := by decide +kernel
theorem d_MessageCoder_formatMessage_51 : decode prog_1_method_53_code 51 = .ok (.invokevirtual 338, 3) := by decide +kernel
theorem d_MessageCoder_formatMessage_54 : decode prog_1_method_53_code 54 = .ok (.pop, 1) := by decide +kernel
theorem d_MessageCoder_formatMessage_55 : decode prog_1_method_53_code 55 = .ok (.aload_n 0, 1) := by decide +kernel
theorem d_MessageCoder_formatMessage_56 : decode prog_1_method_53_code 56 = .ok (.getfield 35, 3) := by decide +kernel
theorem d_MessageCoder_formatMessage_59 : decode prog_1_method_53_code 59 = .ok (.aload_n 2, 1) := by decide +kernel
theorem d_MessageCoder_formatMessage_60 : decode prog_1_method_53_code 60 = .ok (.getfield 222, 3) := by decide +kernel
theorem d_MessageCoder_formatMessage_63 : decode prog_1_method_53_code 63 = .ok (.invokevirtual 341, 3) := by decide +kernel
theorem d_MessageCoder_formatMessage_66 : decode prog_1_method_53_code 66 = .ok (.aload_n 0, 1) := by decide +kernel
theorem d_MessageCoder_formatMessage_67 : decode prog_1_method_53_code 67 = .ok (.getfield 35, 3) := by decide +kernel
theorem d_MessageCoder_formatMessage_70 : decode prog_1_method_53_code 70 = .ok (.getfield 181, 3) := by decide +kernel
theorem d_MessageCoder_formatMessage_73 : decode prog_1_method_53_code 73 = .ok (.ireturn, 1) := by decide +kernel
set_option maxHeartbeats 4000000 in
set_option maxRecDepth 20000 in
theorem c_MessageCoder_formatMessage {P : xP} {F : xF} {z : Nat} {b : Nat} {cm : cmT} {M : mcS} {a : Int32} (hM : xMC F (cm) (b) (M)) (hZx : xZx P) : xMx P xy_MessageCoder_formatMessage [.ref b, .int a] F (z) 1 6 (fun r9 F9 z9 => r9 = some (.int (nI (dgs (mAt M.1 a).1 + 1 + dgs (mAt M.1 a).2.1 + 1 + (mAt M.1 a).2.2.1))) ∧ z9 = z ∧ xMC F9 (cm) (b) ((setL M (dgs (mAt M.1 a).1 + 1 + dgs (mAt M.1 a).2.1 + 1 + (mAt M.1 a).2.2.1) (fmS (mAt M.1 a)))) ∧ (mOk M.1 a) ∧ (∀ a9 : Nat, (a9 < b ∨ b + 566 ≤ a9) → F9 a9 = F a9)) (fun E9 F9 z9 => (E9 = "java/util/NoSuchElementException" ∧ xMC F9 (cm) (b) (M) ∧ (¬ mOk M.1 a) ∧ (∀ a9 : Nat, (a9 < b ∨ b + 566 ≤ a9) → F9 a9 = F a9))) := by
  refine xMx_i .int rfl (Nat.le_of_ble_eq_true rfl) (L0 := [some (.ref b), some (.int a), none]) rfl rfl fun Θ hC hR hret => ?_
  have hag : ∀ a9 : Nat, (a9 < b ∨ b + 566 ≤ a9) → F a9 = F a9 := fun a9 _ => rfl
  obtain ⟨A, S, past, ⟨pn, psg⟩, ⟨lnn, lsg⟩, sv, pp, un, ep, fc⟩ := M
  obtain ⟨b0, hs, hv, ⟨pf, hpa, hpf⟩, ⟨cc, pa, f1, f2, hf, K, p0, hK⟩, hin, hli, ⟨nb, fb9, hbt⟩, hrg, ⟨tn, tsg, htr⟩, ⟨cr, hcr⟩, hps⟩ := id hM
  obtain ⟨w, ⟨dn, ds⟩, ⟨k, nx, ms⟩, ⟨fk, fb, ftn, fts, fw⟩, ⟨rn, rs⟩, c1, c2, c3, c4⟩ := A
  obtain ⟨s0, h1, h2, ⟨p, m, h3, hms⟩, h4, h5⟩ := id hs
  have hms : ∀ i, i < k → m i = ms i := hms
  have b0 : F (b) = some (.inl (9, [.ref (b + 1), .ref (b + 50), .ref (b + 99), .ref (b + 100), .ref (b + 107), .ref (b + 109), .ref (b + 111), .ref (b + 122), .ref (b + 124), .int (nI (sv)), .int (nI (pp)), .int (nI (un)), .int ep, .int fc])) := b0
  have hv : xSt F (b + 50) (S) := hv
  have hpa : F (b + 99) = some (.inr (4, 9, pf)) := hpa
  have p0 : F (b + 100) = some (.inl (4, [.ref (b + 101), .ref (b + 103), .ref (b + 104), .ref (b + 105), .ref (b + 106), .int (nI (K.1)), .int (nI (cc)), .int (nI (pa)), .int (nI (f1)), .int (nI (f2)), .int (nI (hf))])) := p0
  have hK : xPk F (b + 100) (cm.2.1) (K) := hK
  have hin : xTx F (b + 101) (60) (pn) (psg) := hin
  have hli : xTx F (b + 107) (32) (lnn) (lsg) := hli
  have hbt : xBt F (b + 109) (nb) (fb9) := hbt
  have hrg : xRg F (b + 111) := hrg
  have htr : xTx F (b + 122) (16) (tn) (tsg) := htr
  have hcr : F (b + 124) = some (.inr (0, 17, fun b9 => .int (nI (cr b9)))) := hcr
  have hps : xPs F (b) (past) := hps
  have s0 : F (b + 1) = some (.inl (7, [.ref (b + 2), .ref (b + 9), .ref (b + 11), .ref (b + 37), .ref (b + 48), .int (nI (c1)), .int (nI (c2)), .int (nI (c3)), .int (nI (c4))])) := s0
  have h1 : xCd F (b + 2) (w) ((hLen w)) ((hVal (hLen w))) ((hOrd (hLen w))) ((hSum w)) := h1
  have h2 : xTx F (b + 9) (16) (dn) (ds) := h2
  have h3 : xQp F (b + 11) (k) (nx) (p) (m) := h3
  have h4 : xFr F (b + 37) (fk) (fb) (ftn) (fts) (fw) := h4
  have h5 : xTx F (b + 48) (16) (rn) (rs) := h5
  have hk8 : k ≤ 8 := h3.2.1.1
  refine x_aload_n hC d_MessageCoder_formatMessage_0 rfl rfl ?_
  refine x_iload_n hC d_MessageCoder_formatMessage_1 rfl rfl ?_
  refine x_callXV hC hR kv_MessageCoder_216 (c_MessageCoder_messageOf (b0 := b0) (s0 := s0) (h3 := h3) (hZx := hZx)) (fun E9 F9 z9 hp9 => ⟨hp9.1, by rw [hp9.2.1]; exact ⟨b0, ⟨s0, h1, h2, ⟨p, m, h3, hms⟩, h4, h5⟩, hv, ⟨pf, hpa, hpf⟩, ⟨_, _, _, _, _, _, p0, hK⟩, hin, hli, ⟨_, _, hbt⟩, hrg, ⟨_, _, htr⟩, ⟨_, hcr⟩, hps⟩, fun h9 => hp9.2.2 (by rw [idAt_ext hms]; exact h9), by rw [hp9.2.1]; exact hag⟩) b0 rfl rfl (by decide) rfl rfl rfl (Nat.le_of_ble_eq_true rfl) (by decide) d_MessageCoder_formatMessage_2 (fun r9 F9 z9 hp9 => ?_)
  obtain ⟨rfl, h9b, h9c, pn0_2⟩ := hp9
  rw [h9b, h9c]
  clear h9b h9c F9 z9
  have hk_r := pn0_2
  rw [idAt_ext hms] at hk_r
  obtain ⟨r, hr_r⟩ : ∃ q9, q9 = idAt ms a k := ⟨_, rfl⟩
  have he_r : idAt m a k = r := (idAt_ext hms).trans hr_r.symm
  rw [he_r]
  rw [← hr_r] at hk_r
  have hp_r : p r < 8 := h3.2.2.2.1 r (by omega)
  have hm_r : xMs F (b + 13 + 3 * p r) ((ms r).1) ((ms r).2.1) ((ms r).2.2.1) ((ms r).2.2.2) := by rw [← hms r hk_r]; exact h3.2.2.2.2.2 r (by omega)
  have hl_r : (ms r).2.2.1 ≤ 16 := hm_r.2.1.2.1.1
  have hd1 := dgs_3 (ms r).1
  have hd2 := dgs_3 (ms r).2.1
  have hi_r := hm_r.2.2.1
  have hj_r := hm_r.2.2.2
  refine x_astore_n hC d_MessageCoder_formatMessage_5 rfl (Nat.le_of_ble_eq_true rfl) (L1 := [some (.ref b), some (.int a), some (.ref (b + 13 + 3 * p r))]) rfl ?_
  refine x_aload_n hC d_MessageCoder_formatMessage_6 rfl rfl ?_
  refine x_getf hC kf_MessageCoder_35 b0 rfl d_MessageCoder_formatMessage_7 ?_
  refine x_callV hC kv_MessageCoder_332 (c_Text_clear (ht := hli)) hli.1 rfl rfl (by decide) rfl rfl rfl (Nat.le_of_ble_eq_true rfl) (by decide) d_MessageCoder_formatMessage_10 (fun r9 F9 z9 hp9 => ?_)
  obtain ⟨rfl, h9c, j0, hag9⟩ := hp9
  rw [h9c]
  clear h9c z9
  generalize F9 = F1 at *
  have b0 : F1 (b) = some (.inl (9, [.ref (b + 1), .ref (b + 50), .ref (b + 99), .ref (b + 100), .ref (b + 107), .ref (b + 109), .ref (b + 111), .ref (b + 122), .ref (b + 124), .int (nI (sv)), .int (nI (pp)), .int (nI (un)), .int ep, .int fc])) := (hag9 _ (by omega)).trans b0
  have hv : xSt F1 (b + 50) (S) := xSt_fr hv (fun a9 q1 q2 => hag9 a9 (by omega))
  have hpa : F1 (b + 99) = some (.inr (4, 9, pf)) := (hag9 _ (by omega)).trans hpa
  have p0 : F1 (b + 100) = some (.inl (4, [.ref (b + 101), .ref (b + 103), .ref (b + 104), .ref (b + 105), .ref (b + 106), .int (nI (K.1)), .int (nI (cc)), .int (nI (pa)), .int (nI (f1)), .int (nI (f2)), .int (nI (hf))])) := (hag9 _ (by omega)).trans p0
  have hK : xPk F1 (b + 100) (cm.2.1) (K) := xPk_fr hK (fun a9 q1 q2 => hag9 a9 (by omega))
  have hin : xTx F1 (b + 101) (60) (pn) (psg) := xTx_fr hin (fun a9 q1 q2 => hag9 a9 (by omega))
  have hbt : xBt F1 (b + 109) (nb) (fb9) := xBt_fr hbt (fun a9 q1 q2 => hag9 a9 (by omega))
  have hrg : xRg F1 (b + 111) := xRg_fr hrg (fun a9 q1 q2 => hag9 a9 (by omega))
  have htr : xTx F1 (b + 122) (16) (tn) (tsg) := xTx_fr htr (fun a9 q1 q2 => hag9 a9 (by omega))
  have hcr : F1 (b + 124) = some (.inr (0, 17, fun b9 => .int (nI (cr b9)))) := (hag9 _ (by omega)).trans hcr
  have hps : xPs F1 (b) (past) := xPs_fr hps (fun a9 q1 q2 => hag9 a9 (by omega))
  have s0 : F1 (b + 1) = some (.inl (7, [.ref (b + 2), .ref (b + 9), .ref (b + 11), .ref (b + 37), .ref (b + 48), .int (nI (c1)), .int (nI (c2)), .int (nI (c3)), .int (nI (c4))])) := (hag9 _ (by omega)).trans s0
  have h1 : xCd F1 (b + 2) (w) ((hLen w)) ((hVal (hLen w))) ((hOrd (hLen w))) ((hSum w)) := xCd_fr h1 (fun a9 q1 q2 => hag9 a9 (by omega))
  have h2 : xTx F1 (b + 9) (16) (dn) (ds) := xTx_fr h2 (fun a9 q1 q2 => hag9 a9 (by omega))
  have h3 : xQp F1 (b + 11) (k) (nx) (p) (m) := xQp_fr h3 (fun a9 q1 q2 => hag9 a9 (by omega))
  have h4 : xFr F1 (b + 37) (fk) (fb) (ftn) (fts) (fw) := xFr_fr h4 (fun a9 q1 q2 => hag9 a9 (by omega))
  have h5 : xTx F1 (b + 48) (16) (rn) (rs) := xTx_fr h5 (fun a9 q1 q2 => hag9 a9 (by omega))
  have hm_r : xMs F1 (b + 13 + 3 * p r) ((ms r).1) ((ms r).2.1) ((ms r).2.2.1) ((ms r).2.2.2) := xMs_fr hm_r (fun a9 q1 q2 => hag9 a9 (by omega))
  have hli : xTx F1 ((b + 107)) (32) (0) (lsg) := j0
  have hag : ∀ a9 : Nat, (a9 < b ∨ b + 566 ≤ a9) → F1 a9 = F a9 := fun a9 q0 => (hag9 a9 (by omega)).trans (hag a9 q0)
  have hg_10 := hag9
  clear hag9
  refine x_aload_n hC d_MessageCoder_formatMessage_13 rfl rfl ?_
  refine x_getf hC kf_MessageCoder_35 b0 rfl d_MessageCoder_formatMessage_14 ?_
  refine x_aload_n hC d_MessageCoder_formatMessage_17 rfl rfl ?_
  refine x_getf hC kf_MessageCoder_211 hm_r.1 rfl d_MessageCoder_formatMessage_18 ?_
  refine x_callV hC kv_MessageCoder_335 (c_Text_addNumber (ht := hli) (hv := hi_r) (hsz := by omega)) hli.1 rfl rfl (by decide) rfl rfl rfl (Nat.le_of_ble_eq_true rfl) (by decide) d_MessageCoder_formatMessage_21 (fun r9 F9 z9 hp9 => ?_)
  obtain ⟨rfl, h9c, j0, hag9⟩ := hp9
  rw [h9c]
  clear h9c z9
  generalize F9 = F2 at *
  have b0 : F2 (b) = some (.inl (9, [.ref (b + 1), .ref (b + 50), .ref (b + 99), .ref (b + 100), .ref (b + 107), .ref (b + 109), .ref (b + 111), .ref (b + 122), .ref (b + 124), .int (nI (sv)), .int (nI (pp)), .int (nI (un)), .int ep, .int fc])) := (hag9 _ (by omega)).trans b0
  have hv : xSt F2 (b + 50) (S) := xSt_fr hv (fun a9 q1 q2 => hag9 a9 (by omega))
  have hpa : F2 (b + 99) = some (.inr (4, 9, pf)) := (hag9 _ (by omega)).trans hpa
  have p0 : F2 (b + 100) = some (.inl (4, [.ref (b + 101), .ref (b + 103), .ref (b + 104), .ref (b + 105), .ref (b + 106), .int (nI (K.1)), .int (nI (cc)), .int (nI (pa)), .int (nI (f1)), .int (nI (f2)), .int (nI (hf))])) := (hag9 _ (by omega)).trans p0
  have hK : xPk F2 (b + 100) (cm.2.1) (K) := xPk_fr hK (fun a9 q1 q2 => hag9 a9 (by omega))
  have hin : xTx F2 (b + 101) (60) (pn) (psg) := xTx_fr hin (fun a9 q1 q2 => hag9 a9 (by omega))
  have hbt : xBt F2 (b + 109) (nb) (fb9) := xBt_fr hbt (fun a9 q1 q2 => hag9 a9 (by omega))
  have hrg : xRg F2 (b + 111) := xRg_fr hrg (fun a9 q1 q2 => hag9 a9 (by omega))
  have htr : xTx F2 (b + 122) (16) (tn) (tsg) := xTx_fr htr (fun a9 q1 q2 => hag9 a9 (by omega))
  have hcr : F2 (b + 124) = some (.inr (0, 17, fun b9 => .int (nI (cr b9)))) := (hag9 _ (by omega)).trans hcr
  have hps : xPs F2 (b) (past) := xPs_fr hps (fun a9 q1 q2 => hag9 a9 (by omega))
  have s0 : F2 (b + 1) = some (.inl (7, [.ref (b + 2), .ref (b + 9), .ref (b + 11), .ref (b + 37), .ref (b + 48), .int (nI (c1)), .int (nI (c2)), .int (nI (c3)), .int (nI (c4))])) := (hag9 _ (by omega)).trans s0
  have h1 : xCd F2 (b + 2) (w) ((hLen w)) ((hVal (hLen w))) ((hOrd (hLen w))) ((hSum w)) := xCd_fr h1 (fun a9 q1 q2 => hag9 a9 (by omega))
  have h2 : xTx F2 (b + 9) (16) (dn) (ds) := xTx_fr h2 (fun a9 q1 q2 => hag9 a9 (by omega))
  have h3 : xQp F2 (b + 11) (k) (nx) (p) (m) := xQp_fr h3 (fun a9 q1 q2 => hag9 a9 (by omega))
  have h4 : xFr F2 (b + 37) (fk) (fb) (ftn) (fts) (fw) := xFr_fr h4 (fun a9 q1 q2 => hag9 a9 (by omega))
  have h5 : xTx F2 (b + 48) (16) (rn) (rs) := xTx_fr h5 (fun a9 q1 q2 => hag9 a9 (by omega))
  have hm_r : xMs F2 (b + 13 + 3 * p r) ((ms r).1) ((ms r).2.1) ((ms r).2.2.1) ((ms r).2.2.2) := xMs_fr hm_r (fun a9 q1 q2 => hag9 a9 (by omega))
  have hli : xTx F2 ((b + 107)) (32) (0 + dgs ((ms r).1)) (xcat lsg 0 (dgc ((ms r).1))) := j0
  have hag : ∀ a9 : Nat, (a9 < b ∨ b + 566 ≤ a9) → F2 a9 = F a9 := fun a9 q0 => (hag9 a9 (by omega)).trans (hag a9 q0)
  have hg_21 := hag9
  clear hag9
  rw [xcat_0] at hli
  refine x_aload_n hC d_MessageCoder_formatMessage_24 rfl rfl ?_
  refine x_getf hC kf_MessageCoder_35 b0 rfl d_MessageCoder_formatMessage_25 ?_
  refine x_bipush hC d_MessageCoder_formatMessage_28 (v := nI 33) (by decide) ?_
  refine x_callV hC kv_MessageCoder_338 (c_Text_add1 (ht := hli) (hlt := by omega) (hc0 := by omega)) hli.1 rfl rfl (by decide) rfl rfl rfl (Nat.le_of_ble_eq_true rfl) (by decide) d_MessageCoder_formatMessage_30 (fun r9 F9 z9 hp9 => ?_)
  obtain ⟨rfl, h9c, j0, hag9⟩ := hp9
  rw [h9c]
  clear h9c z9
  generalize F9 = F3 at *
  have b0 : F3 (b) = some (.inl (9, [.ref (b + 1), .ref (b + 50), .ref (b + 99), .ref (b + 100), .ref (b + 107), .ref (b + 109), .ref (b + 111), .ref (b + 122), .ref (b + 124), .int (nI (sv)), .int (nI (pp)), .int (nI (un)), .int ep, .int fc])) := (hag9 _ (by omega)).trans b0
  have hv : xSt F3 (b + 50) (S) := xSt_fr hv (fun a9 q1 q2 => hag9 a9 (by omega))
  have hpa : F3 (b + 99) = some (.inr (4, 9, pf)) := (hag9 _ (by omega)).trans hpa
  have p0 : F3 (b + 100) = some (.inl (4, [.ref (b + 101), .ref (b + 103), .ref (b + 104), .ref (b + 105), .ref (b + 106), .int (nI (K.1)), .int (nI (cc)), .int (nI (pa)), .int (nI (f1)), .int (nI (f2)), .int (nI (hf))])) := (hag9 _ (by omega)).trans p0
  have hK : xPk F3 (b + 100) (cm.2.1) (K) := xPk_fr hK (fun a9 q1 q2 => hag9 a9 (by omega))
  have hin : xTx F3 (b + 101) (60) (pn) (psg) := xTx_fr hin (fun a9 q1 q2 => hag9 a9 (by omega))
  have hbt : xBt F3 (b + 109) (nb) (fb9) := xBt_fr hbt (fun a9 q1 q2 => hag9 a9 (by omega))
  have hrg : xRg F3 (b + 111) := xRg_fr hrg (fun a9 q1 q2 => hag9 a9 (by omega))
  have htr : xTx F3 (b + 122) (16) (tn) (tsg) := xTx_fr htr (fun a9 q1 q2 => hag9 a9 (by omega))
  have hcr : F3 (b + 124) = some (.inr (0, 17, fun b9 => .int (nI (cr b9)))) := (hag9 _ (by omega)).trans hcr
  have hps : xPs F3 (b) (past) := xPs_fr hps (fun a9 q1 q2 => hag9 a9 (by omega))
  have s0 : F3 (b + 1) = some (.inl (7, [.ref (b + 2), .ref (b + 9), .ref (b + 11), .ref (b + 37), .ref (b + 48), .int (nI (c1)), .int (nI (c2)), .int (nI (c3)), .int (nI (c4))])) := (hag9 _ (by omega)).trans s0
  have h1 : xCd F3 (b + 2) (w) ((hLen w)) ((hVal (hLen w))) ((hOrd (hLen w))) ((hSum w)) := xCd_fr h1 (fun a9 q1 q2 => hag9 a9 (by omega))
  have h2 : xTx F3 (b + 9) (16) (dn) (ds) := xTx_fr h2 (fun a9 q1 q2 => hag9 a9 (by omega))
  have h3 : xQp F3 (b + 11) (k) (nx) (p) (m) := xQp_fr h3 (fun a9 q1 q2 => hag9 a9 (by omega))
  have h4 : xFr F3 (b + 37) (fk) (fb) (ftn) (fts) (fw) := xFr_fr h4 (fun a9 q1 q2 => hag9 a9 (by omega))
  have h5 : xTx F3 (b + 48) (16) (rn) (rs) := xTx_fr h5 (fun a9 q1 q2 => hag9 a9 (by omega))
  have hm_r : xMs F3 (b + 13 + 3 * p r) ((ms r).1) ((ms r).2.1) ((ms r).2.2.1) ((ms r).2.2.2) := xMs_fr hm_r (fun a9 q1 q2 => hag9 a9 (by omega))
  have hli : xTx F3 ((b + 107)) (32) ((0 + dgs (ms r).1) + 1) (updN (dgc (ms r).1) (0 + dgs (ms r).1) 33) := j0
  have hag : ∀ a9 : Nat, (a9 < b ∨ b + 566 ≤ a9) → F3 a9 = F a9 := fun a9 q0 => (hag9 a9 (by omega)).trans (hag a9 q0)
  have hg_30 := hag9
  clear hag9
  refine x_pop hC d_MessageCoder_formatMessage_33 rfl ?_
  refine x_aload_n hC d_MessageCoder_formatMessage_34 rfl rfl ?_
  refine x_getf hC kf_MessageCoder_35 b0 rfl d_MessageCoder_formatMessage_35 ?_
  refine x_aload_n hC d_MessageCoder_formatMessage_38 rfl rfl ?_
  refine x_getf hC kf_MessageCoder_219 hm_r.1 rfl d_MessageCoder_formatMessage_39 ?_
  refine x_callV hC kv_MessageCoder_335 (c_Text_addNumber (ht := hli) (hv := hj_r) (hsz := by omega)) hli.1 rfl rfl (by decide) rfl rfl rfl (Nat.le_of_ble_eq_true rfl) (by decide) d_MessageCoder_formatMessage_42 (fun r9 F9 z9 hp9 => ?_)
  obtain ⟨rfl, h9c, j0, hag9⟩ := hp9
  rw [h9c]
  clear h9c z9
  generalize F9 = F4 at *
  have b0 : F4 (b) = some (.inl (9, [.ref (b + 1), .ref (b + 50), .ref (b + 99), .ref (b + 100), .ref (b + 107), .ref (b + 109), .ref (b + 111), .ref (b + 122), .ref (b + 124), .int (nI (sv)), .int (nI (pp)), .int (nI (un)), .int ep, .int fc])) := (hag9 _ (by omega)).trans b0
  have hv : xSt F4 (b + 50) (S) := xSt_fr hv (fun a9 q1 q2 => hag9 a9 (by omega))
  have hpa : F4 (b + 99) = some (.inr (4, 9, pf)) := (hag9 _ (by omega)).trans hpa
  have p0 : F4 (b + 100) = some (.inl (4, [.ref (b + 101), .ref (b + 103), .ref (b + 104), .ref (b + 105), .ref (b + 106), .int (nI (K.1)), .int (nI (cc)), .int (nI (pa)), .int (nI (f1)), .int (nI (f2)), .int (nI (hf))])) := (hag9 _ (by omega)).trans p0
  have hK : xPk F4 (b + 100) (cm.2.1) (K) := xPk_fr hK (fun a9 q1 q2 => hag9 a9 (by omega))
  have hin : xTx F4 (b + 101) (60) (pn) (psg) := xTx_fr hin (fun a9 q1 q2 => hag9 a9 (by omega))
  have hbt : xBt F4 (b + 109) (nb) (fb9) := xBt_fr hbt (fun a9 q1 q2 => hag9 a9 (by omega))
  have hrg : xRg F4 (b + 111) := xRg_fr hrg (fun a9 q1 q2 => hag9 a9 (by omega))
  have htr : xTx F4 (b + 122) (16) (tn) (tsg) := xTx_fr htr (fun a9 q1 q2 => hag9 a9 (by omega))
  have hcr : F4 (b + 124) = some (.inr (0, 17, fun b9 => .int (nI (cr b9)))) := (hag9 _ (by omega)).trans hcr
  have hps : xPs F4 (b) (past) := xPs_fr hps (fun a9 q1 q2 => hag9 a9 (by omega))
  have s0 : F4 (b + 1) = some (.inl (7, [.ref (b + 2), .ref (b + 9), .ref (b + 11), .ref (b + 37), .ref (b + 48), .int (nI (c1)), .int (nI (c2)), .int (nI (c3)), .int (nI (c4))])) := (hag9 _ (by omega)).trans s0
  have h1 : xCd F4 (b + 2) (w) ((hLen w)) ((hVal (hLen w))) ((hOrd (hLen w))) ((hSum w)) := xCd_fr h1 (fun a9 q1 q2 => hag9 a9 (by omega))
  have h2 : xTx F4 (b + 9) (16) (dn) (ds) := xTx_fr h2 (fun a9 q1 q2 => hag9 a9 (by omega))
  have h3 : xQp F4 (b + 11) (k) (nx) (p) (m) := xQp_fr h3 (fun a9 q1 q2 => hag9 a9 (by omega))
  have h4 : xFr F4 (b + 37) (fk) (fb) (ftn) (fts) (fw) := xFr_fr h4 (fun a9 q1 q2 => hag9 a9 (by omega))
  have h5 : xTx F4 (b + 48) (16) (rn) (rs) := xTx_fr h5 (fun a9 q1 q2 => hag9 a9 (by omega))
  have hm_r : xMs F4 (b + 13 + 3 * p r) ((ms r).1) ((ms r).2.1) ((ms r).2.2.1) ((ms r).2.2.2) := xMs_fr hm_r (fun a9 q1 q2 => hag9 a9 (by omega))
  have hli : xTx F4 ((b + 107)) (32) ((0 + dgs (ms r).1 + 1) + dgs ((ms r).2.1)) (xcat (updN (dgc (ms r).1) (0 + dgs (ms r).1) 33) (0 + dgs (ms r).1 + 1) (dgc ((ms r).2.1))) := j0
  have hag : ∀ a9 : Nat, (a9 < b ∨ b + 566 ≤ a9) → F4 a9 = F a9 := fun a9 q0 => (hag9 a9 (by omega)).trans (hag a9 q0)
  have hg_42 := hag9
  clear hag9
  refine x_aload_n hC d_MessageCoder_formatMessage_45 rfl rfl ?_
  refine x_getf hC kf_MessageCoder_35 b0 rfl d_MessageCoder_formatMessage_46 ?_
  refine x_bipush hC d_MessageCoder_formatMessage_49 (v := nI 58) (by decide) ?_
  refine x_callV hC kv_MessageCoder_338 (c_Text_add1 (ht := hli) (hlt := by omega) (hc0 := by omega)) hli.1 rfl rfl (by decide) rfl rfl rfl (Nat.le_of_ble_eq_true rfl) (by decide) d_MessageCoder_formatMessage_51 (fun r9 F9 z9 hp9 => ?_)
  obtain ⟨rfl, h9c, j0, hag9⟩ := hp9
  rw [h9c]
  clear h9c z9
  generalize F9 = F5 at *
  have b0 : F5 (b) = some (.inl (9, [.ref (b + 1), .ref (b + 50), .ref (b + 99), .ref (b + 100), .ref (b + 107), .ref (b + 109), .ref (b + 111), .ref (b + 122), .ref (b + 124), .int (nI (sv)), .int (nI (pp)), .int (nI (un)), .int ep, .int fc])) := (hag9 _ (by omega)).trans b0
  have hv : xSt F5 (b + 50) (S) := xSt_fr hv (fun a9 q1 q2 => hag9 a9 (by omega))
  have hpa : F5 (b + 99) = some (.inr (4, 9, pf)) := (hag9 _ (by omega)).trans hpa
  have p0 : F5 (b + 100) = some (.inl (4, [.ref (b + 101), .ref (b + 103), .ref (b + 104), .ref (b + 105), .ref (b + 106), .int (nI (K.1)), .int (nI (cc)), .int (nI (pa)), .int (nI (f1)), .int (nI (f2)), .int (nI (hf))])) := (hag9 _ (by omega)).trans p0
  have hK : xPk F5 (b + 100) (cm.2.1) (K) := xPk_fr hK (fun a9 q1 q2 => hag9 a9 (by omega))
  have hin : xTx F5 (b + 101) (60) (pn) (psg) := xTx_fr hin (fun a9 q1 q2 => hag9 a9 (by omega))
  have hbt : xBt F5 (b + 109) (nb) (fb9) := xBt_fr hbt (fun a9 q1 q2 => hag9 a9 (by omega))
  have hrg : xRg F5 (b + 111) := xRg_fr hrg (fun a9 q1 q2 => hag9 a9 (by omega))
  have htr : xTx F5 (b + 122) (16) (tn) (tsg) := xTx_fr htr (fun a9 q1 q2 => hag9 a9 (by omega))
  have hcr : F5 (b + 124) = some (.inr (0, 17, fun b9 => .int (nI (cr b9)))) := (hag9 _ (by omega)).trans hcr
  have hps : xPs F5 (b) (past) := xPs_fr hps (fun a9 q1 q2 => hag9 a9 (by omega))
  have s0 : F5 (b + 1) = some (.inl (7, [.ref (b + 2), .ref (b + 9), .ref (b + 11), .ref (b + 37), .ref (b + 48), .int (nI (c1)), .int (nI (c2)), .int (nI (c3)), .int (nI (c4))])) := (hag9 _ (by omega)).trans s0
  have h1 : xCd F5 (b + 2) (w) ((hLen w)) ((hVal (hLen w))) ((hOrd (hLen w))) ((hSum w)) := xCd_fr h1 (fun a9 q1 q2 => hag9 a9 (by omega))
  have h2 : xTx F5 (b + 9) (16) (dn) (ds) := xTx_fr h2 (fun a9 q1 q2 => hag9 a9 (by omega))
  have h3 : xQp F5 (b + 11) (k) (nx) (p) (m) := xQp_fr h3 (fun a9 q1 q2 => hag9 a9 (by omega))
  have h4 : xFr F5 (b + 37) (fk) (fb) (ftn) (fts) (fw) := xFr_fr h4 (fun a9 q1 q2 => hag9 a9 (by omega))
  have h5 : xTx F5 (b + 48) (16) (rn) (rs) := xTx_fr h5 (fun a9 q1 q2 => hag9 a9 (by omega))
  have hm_r : xMs F5 (b + 13 + 3 * p r) ((ms r).1) ((ms r).2.1) ((ms r).2.2.1) ((ms r).2.2.2) := xMs_fr hm_r (fun a9 q1 q2 => hag9 a9 (by omega))
  have hli : xTx F5 ((b + 107)) (32) (((0 + dgs (ms r).1 + 1) + dgs ((ms r).2.1)) + 1) (updN (xcat (updN (dgc (ms r).1) (0 + dgs (ms r).1) 33) (0 + dgs (ms r).1 + 1) (dgc ((ms r).2.1))) ((0 + dgs (ms r).1 + 1) + dgs ((ms r).2.1)) 58) := j0
  have hag : ∀ a9 : Nat, (a9 < b ∨ b + 566 ≤ a9) → F5 a9 = F a9 := fun a9 q0 => (hag9 a9 (by omega)).trans (hag a9 q0)
  have hg_51 := hag9
  clear hag9
  refine x_pop hC d_MessageCoder_formatMessage_54 rfl ?_
  refine x_aload_n hC d_MessageCoder_formatMessage_55 rfl rfl ?_
  refine x_getf hC kf_MessageCoder_35 b0 rfl d_MessageCoder_formatMessage_56 ?_
  refine x_aload_n hC d_MessageCoder_formatMessage_59 rfl rfl ?_
  refine x_getf hC kf_MessageCoder_222 hm_r.1 rfl d_MessageCoder_formatMessage_60 ?_
  refine x_callV hC kv_MessageCoder_341 (c_Text_addAll (ht := hli) (ho := hm_r.2.1) (hsz := by omega) (hd := by omega)) hli.1 rfl rfl (by decide) rfl rfl rfl (Nat.le_of_ble_eq_true rfl) (by decide) d_MessageCoder_formatMessage_63 (fun r9 F9 z9 hp9 => ?_)
  obtain ⟨rfl, h9c, j0, hag9⟩ := hp9
  rw [h9c]
  clear h9c z9
  generalize F9 = F6 at *
  have b0 : F6 (b) = some (.inl (9, [.ref (b + 1), .ref (b + 50), .ref (b + 99), .ref (b + 100), .ref (b + 107), .ref (b + 109), .ref (b + 111), .ref (b + 122), .ref (b + 124), .int (nI (sv)), .int (nI (pp)), .int (nI (un)), .int ep, .int fc])) := (hag9 _ (by omega)).trans b0
  have hv : xSt F6 (b + 50) (S) := xSt_fr hv (fun a9 q1 q2 => hag9 a9 (by omega))
  have hpa : F6 (b + 99) = some (.inr (4, 9, pf)) := (hag9 _ (by omega)).trans hpa
  have p0 : F6 (b + 100) = some (.inl (4, [.ref (b + 101), .ref (b + 103), .ref (b + 104), .ref (b + 105), .ref (b + 106), .int (nI (K.1)), .int (nI (cc)), .int (nI (pa)), .int (nI (f1)), .int (nI (f2)), .int (nI (hf))])) := (hag9 _ (by omega)).trans p0
  have hK : xPk F6 (b + 100) (cm.2.1) (K) := xPk_fr hK (fun a9 q1 q2 => hag9 a9 (by omega))
  have hin : xTx F6 (b + 101) (60) (pn) (psg) := xTx_fr hin (fun a9 q1 q2 => hag9 a9 (by omega))
  have hbt : xBt F6 (b + 109) (nb) (fb9) := xBt_fr hbt (fun a9 q1 q2 => hag9 a9 (by omega))
  have hrg : xRg F6 (b + 111) := xRg_fr hrg (fun a9 q1 q2 => hag9 a9 (by omega))
  have htr : xTx F6 (b + 122) (16) (tn) (tsg) := xTx_fr htr (fun a9 q1 q2 => hag9 a9 (by omega))
  have hcr : F6 (b + 124) = some (.inr (0, 17, fun b9 => .int (nI (cr b9)))) := (hag9 _ (by omega)).trans hcr
  have hps : xPs F6 (b) (past) := xPs_fr hps (fun a9 q1 q2 => hag9 a9 (by omega))
  have s0 : F6 (b + 1) = some (.inl (7, [.ref (b + 2), .ref (b + 9), .ref (b + 11), .ref (b + 37), .ref (b + 48), .int (nI (c1)), .int (nI (c2)), .int (nI (c3)), .int (nI (c4))])) := (hag9 _ (by omega)).trans s0
  have h1 : xCd F6 (b + 2) (w) ((hLen w)) ((hVal (hLen w))) ((hOrd (hLen w))) ((hSum w)) := xCd_fr h1 (fun a9 q1 q2 => hag9 a9 (by omega))
  have h2 : xTx F6 (b + 9) (16) (dn) (ds) := xTx_fr h2 (fun a9 q1 q2 => hag9 a9 (by omega))
  have h3 : xQp F6 (b + 11) (k) (nx) (p) (m) := xQp_fr h3 (fun a9 q1 q2 => hag9 a9 (by omega))
  have h4 : xFr F6 (b + 37) (fk) (fb) (ftn) (fts) (fw) := xFr_fr h4 (fun a9 q1 q2 => hag9 a9 (by omega))
  have h5 : xTx F6 (b + 48) (16) (rn) (rs) := xTx_fr h5 (fun a9 q1 q2 => hag9 a9 (by omega))
  have hm_r : xMs F6 (b + 13 + 3 * p r) ((ms r).1) ((ms r).2.1) ((ms r).2.2.1) ((ms r).2.2.2) := xMs_fr hm_r (fun a9 q1 q2 => hag9 a9 (by omega))
  have hli : xTx F6 ((b + 107)) (32) (((0 + dgs (ms r).1 + 1) + dgs ((ms r).2.1) + 1) + ((ms r).2.2.1)) (xcat (updN (xcat (updN (dgc (ms r).1) (0 + dgs (ms r).1) 33) (0 + dgs (ms r).1 + 1) (dgc ((ms r).2.1))) ((0 + dgs (ms r).1 + 1) + dgs ((ms r).2.1)) 58) ((0 + dgs (ms r).1 + 1) + dgs ((ms r).2.1) + 1) ((ms r).2.2.2)) := j0
  have hag : ∀ a9 : Nat, (a9 < b ∨ b + 566 ≤ a9) → F6 a9 = F a9 := fun a9 q0 => (hag9 a9 (by omega)).trans (hag a9 q0)
  have hg_63 := hag9
  clear hag9
  refine x_aload_n hC d_MessageCoder_formatMessage_66 rfl rfl ?_
  refine x_getf hC kf_MessageCoder_35 b0 rfl d_MessageCoder_formatMessage_67 ?_
  refine x_getf hC kf_MessageCoder_181 hli.1 rfl d_MessageCoder_formatMessage_70 ?_
  refine hret _ _ _ _ _ _ _ d_MessageCoder_formatMessage_73 (by decide) (by decide) rfl ?_
  have hM2 : xMC F6 cm b (setL ((w, (dn, ds), (k, nx, ms), (fk, fb, ftn, fts, fw), (rn, rs), c1, c2, c3, c4), S, past, (pn, psg), (lnn, lsg), sv, pp, un, ep, fc) (dgs (ms r).1 + 1 + dgs (ms r).2.1 + 1 + (ms r).2.2.1) (fmS (ms r))) := by
    rw [Nat.zero_add] at hli
    exact ⟨b0, ⟨s0, h1, h2, ⟨p, m, h3, hms⟩, h4, h5⟩, hv, ⟨pf, hpa, hpf⟩, ⟨_, _, _, _, _, _, p0, hK⟩, hin, hli, ⟨_, _, hbt⟩, hrg, ⟨_, _, htr⟩, ⟨_, hcr⟩, hps⟩
  exact ⟨congrArg (fun q => some (Value.int (nI q))) (by rw [hr_r, Nat.zero_add]), rfl, by rw [hr_r] at hM2; exact hM2, (show idAt ms a k < k from (by rw [← hr_r]; exact hk_r)), hag⟩

