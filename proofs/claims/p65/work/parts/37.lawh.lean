theorem d_MessageCoder_receivedAt_0 : decode prog_1_method_46_code 0 = .ok (.aload_n 0, 1) := by decide +kernel
theorem d_MessageCoder_receivedAt_1 : decode prog_1_method_46_code 1 = .ok (.getfield 12, 3) := by decide +kernel
theorem d_MessageCoder_receivedAt_4 : decode prog_1_method_46_code 4 = .ok (.getfield 297, 3) := by decide +kernel
theorem d_MessageCoder_receivedAt_7 : decode prog_1_method_46_code 7 = .ok (.iload_n 1, 1) := by decide +kernel
theorem d_MessageCoder_receivedAt_8 : decode prog_1_method_46_code 8 = .ok (.invokevirtual 184, 3) := by decide +kernel
theorem d_MessageCoder_receivedAt_11 : decode prog_1_method_46_code 11 = .ok (.ifCond .ne 13, 3) := by decide +kernel
theorem d_MessageCoder_receivedAt_14 : decode prog_1_method_46_code 14 = .ok (.new 126, 3) := by decide +kernel
theorem d_MessageCoder_receivedAt_17 : decode prog_1_method_46_code 17 = .ok (.dup, 1) := by decide +kernel
theorem d_MessageCoder_receivedAt_18 : decode prog_1_method_46_code 18 = .ok (.ldc 188, 2) := by decide +kernel
theorem d_MessageCoder_receivedAt_20 : decode prog_1_method_46_code 20 = .ok (.invokespecial 130, 3) := by decide +kernel
theorem d_MessageCoder_receivedAt_23 : decode prog_1_method_46_code 23 = .ok (.athrow, 1) := by decide +kernel
theorem d_MessageCoder_receivedAt_24 : decode prog_1_method_46_code 24 = .ok (.aload_n 0, 1) := by decide +kernel
theorem d_MessageCoder_receivedAt_25 : decode prog_1_method_46_code 25 = .ok (.getfield 12, 3) := by decide +kernel
theorem d_MessageCoder_receivedAt_28 : decode prog_1_method_46_code 28 = .ok (.getfield 297, 3) := by decide +kernel
theorem d_MessageCoder_receivedAt_31 : decode prog_1_method_46_code 31 = .ok (.iload_n 1, 1) := by decide +kernel
theorem d_MessageCoder_receivedAt_32 : decode prog_1_method_46_code 32 = .ok (.invokevirtual 190, 3) := by decide +kernel
theorem d_MessageCoder_receivedAt_35 : decode prog_1_method_46_code 35 = .ok (.ireturn, 1) := by decide +kernel
set_option maxHeartbeats 4000000 in
set_option maxRecDepth 20000 in
theorem c_MessageCoder_receivedAt {P : xP} {F : xF} {z : Nat} {b : Nat} {cm : cmT} {M : mcS} {i : Int32} (hM : xMC F (cm) (b) (M)) (hZx : xZx P) : xMx P xy_MessageCoder_receivedAt [.ref b, .int i] F (z) 1 6 (fun r9 F9 z9 => r9 = some (.int (nI (M.1.2.2.2.2.1.2 i.toNatClampNeg))) ∧ F9 = F ∧ z9 = z ∧ (0 ≤ i ∧ i < nI M.1.2.2.2.2.1.1)) (fun E9 F9 z9 => (E9 = "java/lang/IndexOutOfBoundsException" ∧ F9 = F ∧ (¬ (0 ≤ i ∧ i < nI M.1.2.2.2.2.1.1)))) := by
  refine xMx_i .char rfl (Nat.le_of_ble_eq_true rfl) (L0 := [some (.ref b), some (.int i)]) rfl rfl fun Θ hC hR hret => ?_
  obtain ⟨A, S, past, ⟨pn, psg⟩, ⟨lnn, lsg⟩, sv, pp, un, ep, fc⟩ := M
  obtain ⟨b0, hs, hv, ⟨pf, hpa, hpf⟩, ⟨cc, pa, f1, f2, hf, K, p0, hK⟩, hin, hli, ⟨nb, fb9, hbt⟩, hrg, ⟨tn, tsg, htr⟩, ⟨cr, hcr⟩, hps⟩ := id hM
  obtain ⟨w, ⟨dn, ds⟩, ⟨k, nx, ms⟩, ⟨fk, fb, ftn, fts, fw⟩, ⟨rn, rs⟩, c1, c2, c3, c4⟩ := A
  obtain ⟨s0, h1, h2, ⟨p, m, h3, hms⟩, h4, h5⟩ := id hs
  have hms : ∀ i, i < k → m i = ms i := hms
  have b0 : F (b) = some (.inl (9, [.ref (b + 1), .ref (b + 50), .ref (b + 99), .ref (b + 100), .ref (b + 107), .ref (b + 109), .ref (b + 111), .ref (b + 122), .ref (b + 124), .int (nI (sv)), .int (nI (pp)), .int (nI (un)), .int ep, .int fc])) := b0
  have hv : xSt F (b + 50) (S) := hv
  have hpa : F (b + 99) = some (.inr (4, 9, pf)) := hpa
  have p0 : F (b + 100) = some (.inl (4, [.ref (b + 101), .ref (b + 103), .ref (b + 104), .ref (b + 105), .ref (b + 106), .int (nI (K.1)), .int (nI (cc)), .int (nI (pa)), .int (nI (f1)), .int (nI (f2)), .int (nI (hf))])) := p0
  have hK : xPk F (b + 100) (cm.2.1) (K) := hK
  have hin : xTx F (b + 101) (60) (pn) (psg) := hin
  have hli : xTx F (b + 107) (32) (lnn) (lsg) := hli
  have hbt : xBt F (b + 109) (nb) (fb9) := hbt
  have hrg : xRg F (b + 111) := hrg
  have htr : xTx F (b + 122) (16) (tn) (tsg) := htr
  have hcr : F (b + 124) = some (.inr (0, 17, fun b9 => .int (nI (cr b9)))) := hcr
  have hps : xPs F (b) (past) := hps
  have s0 : F (b + 1) = some (.inl (7, [.ref (b + 2), .ref (b + 9), .ref (b + 11), .ref (b + 37), .ref (b + 48), .int (nI (c1)), .int (nI (c2)), .int (nI (c3)), .int (nI (c4))])) := s0
  have h1 : xCd F (b + 2) (w) ((hLen w)) ((hVal (hLen w))) ((hOrd (hLen w))) ((hSum w)) := h1
  have h2 : xTx F (b + 9) (16) (dn) (ds) := h2
  have h3 : xQp F (b + 11) (k) (nx) (p) (m) := h3
  have h4 : xFr F (b + 37) (fk) (fb) (ftn) (fts) (fw) := h4
  have h5 : xTx F (b + 48) (16) (rn) (rs) := h5
  have hk8 : k ≤ 8 := h3.2.1.1
  have hl9 := h5.2.1
  refine x_aload_n hC d_MessageCoder_receivedAt_0 rfl rfl ?_
  refine x_getf hC kf_MessageCoder_12 b0 rfl d_MessageCoder_receivedAt_1 ?_
  refine x_getf hC kf_MessageCoder_297 s0 rfl d_MessageCoder_receivedAt_4 ?_
  refine x_iload_n hC d_MessageCoder_receivedAt_7 rfl rfl ?_
  refine x_callV hC kv_MessageCoder_184 (c_Text_has (ht := h5)) h5.1 rfl rfl (by decide) rfl rfl rfl (Nat.le_of_ble_eq_true rfl) (by decide) d_MessageCoder_receivedAt_8 (fun r9 F9 z9 hp9 => ?_)
  obtain ⟨rfl, h9b, h9c⟩ := hp9
  rw [h9b, h9c]
  clear h9b h9c F9 z9
  refine x_ifB_ne hC d_MessageCoder_receivedAt_11 (tgt := 24) (by decide) (fun c_11 => ?_) (fun c_11 => ?_)
  · skip
    have hi0 := i2n_of c_11.1
    have hi1 := i2n_lt c_11.1 c_11.2 (by omega)
    refine x_aload_n hC d_MessageCoder_receivedAt_24 rfl rfl ?_
    refine x_getf hC kf_MessageCoder_12 b0 rfl d_MessageCoder_receivedAt_25 ?_
    refine x_getf hC kf_MessageCoder_297 s0 rfl d_MessageCoder_receivedAt_28 ?_
    refine x_iload_n hC d_MessageCoder_receivedAt_31 rfl rfl ?_
    refine x_top (v := (nI (i.toNatClampNeg))) hi0 ?_
    refine x_callV hC kv_MessageCoder_190 (c_Text_at (ht := h5) (hi := by omega)) h5.1 rfl rfl (by decide) rfl rfl rfl (Nat.le_of_ble_eq_true rfl) (by decide) d_MessageCoder_receivedAt_32 (fun r9 F9 z9 hp9 => ?_)
    obtain ⟨rfl, h9b, h9c⟩ := hp9
    rw [h9b, h9c]
    clear h9b h9c F9 z9
    exact hret _ _ _ _ _ _ _ d_MessageCoder_receivedAt_35 (by decide) (by decide) (x_char _ (by rw [if_pos hi1]; exact h5.2.2.1 _ hi1)) (⟨congrArg (fun q => some (Value.int (nI q))) (if_pos hi1), rfl, rfl, c_11⟩)
  · skip
    refine x_thr hC hR hZx (xtw2_IndexOutOfBoundsException _ _ xsr_188) rfl (Nat.le_of_ble_eq_true rfl) (by decide) (by decide) d_MessageCoder_receivedAt_14 d_MessageCoder_receivedAt_17 d_MessageCoder_receivedAt_18 d_MessageCoder_receivedAt_20 d_MessageCoder_receivedAt_23 (fun z9 hz9 => ?_)
    exact ⟨rfl, rfl, c_11⟩

theorem d_MessageCoder_lineChar_0 : decode prog_1_method_55_code 0 = .ok (.aload_n 0, 1) := by decide +kernel
theorem d_MessageCoder_lineChar_1 : decode prog_1_method_55_code 1 = .ok (.getfield 35, 3) := by decide +kernel
theorem d_MessageCoder_lineChar_4 : decode prog_1_method_55_code 4 = .ok (.iload_n 1, 1) := by decide +kernel
theorem d_MessageCoder_lineChar_5 : decode prog_1_method_55_code 5 = .ok (.invokevirtual 184, 3) := by decide +kernel
theorem d_MessageCoder_lineChar_8 : decode prog_1_method_55_code 8 = .ok (.ifCond .ne 13, 3) := by decide +kernel
theorem d_MessageCoder_lineChar_11 : decode prog_1_method_55_code 11 = .ok (.new 126, 3) := by decide +kernel
theorem d_MessageCoder_lineChar_14 : decode prog_1_method_55_code 14 = .ok (.dup, 1) := by decide +kernel
theorem d_MessageCoder_lineChar_15 : decode prog_1_method_55_code 15 = .ok (.ldc 188, 2) := by decide +kernel
theorem d_MessageCoder_lineChar_17 : decode prog_1_method_55_code 17 = .ok (.invokespecial 130, 3) := by decide +kernel
theorem d_MessageCoder_lineChar_20 : decode prog_1_method_55_code 20 = .ok (.athrow, 1) := by decide +kernel
theorem d_MessageCoder_lineChar_21 : decode prog_1_method_55_code 21 = .ok (.aload_n 0, 1) := by decide +kernel
theorem d_MessageCoder_lineChar_22 : decode prog_1_method_55_code 22 = .ok (.getfield 35, 3) := by decide +kernel
theorem d_MessageCoder_lineChar_25 : decode prog_1_method_55_code 25 = .ok (.iload_n 1, 1) := by decide +kernel
theorem d_MessageCoder_lineChar_26 : decode prog_1_method_55_code 26 = .ok (.invokevirtual 190, 3) := by decide +kernel
theorem d_MessageCoder_lineChar_29 : decode prog_1_method_55_code 29 = .ok (.ireturn, 1) := by decide +kernel
set_option maxHeartbeats 4000000 in
set_option maxRecDepth 20000 in
theorem c_MessageCoder_lineChar {P : xP} {F : xF} {z : Nat} {b : Nat} {cm : cmT} {M : mcS} {i : Int32} (hM : xMC F (cm) (b) (M)) (hZx : xZx P) : xMx P xy_MessageCoder_lineChar [.ref b, .int i] F (z) 1 6 (fun r9 F9 z9 => r9 = some (.int (nI (M.2.2.2.2.1.2 i.toNatClampNeg))) ∧ F9 = F ∧ z9 = z ∧ (0 ≤ i ∧ i < nI M.2.2.2.2.1.1)) (fun E9 F9 z9 => (E9 = "java/lang/IndexOutOfBoundsException" ∧ F9 = F ∧ (¬ (0 ≤ i ∧ i < nI M.2.2.2.2.1.1)))) := by
  refine xMx_i .char rfl (Nat.le_of_ble_eq_true rfl) (L0 := [some (.ref b), some (.int i)]) rfl rfl fun Θ hC hR hret => ?_
  obtain ⟨A, S, past, ⟨pn, psg⟩, ⟨lnn, lsg⟩, sv, pp, un, ep, fc⟩ := M
  obtain ⟨b0, hs, hv, ⟨pf, hpa, hpf⟩, ⟨cc, pa, f1, f2, hf, K, p0, hK⟩, hin, hli, ⟨nb, fb9, hbt⟩, hrg, ⟨tn, tsg, htr⟩, ⟨cr, hcr⟩, hps⟩ := id hM
  obtain ⟨w, ⟨dn, ds⟩, ⟨k, nx, ms⟩, ⟨fk, fb, ftn, fts, fw⟩, ⟨rn, rs⟩, c1, c2, c3, c4⟩ := A
  obtain ⟨s0, h1, h2, ⟨p, m, h3, hms⟩, h4, h5⟩ := id hs
  have hms : ∀ i, i < k → m i = ms i := hms
  have b0 : F (b) = some (.inl (9, [.ref (b + 1), .ref (b + 50), .ref (b + 99), .ref (b + 100), .ref (b + 107), .ref (b + 109), .ref (b + 111), .ref (b + 122), .ref (b + 124), .int (nI (sv)), .int (nI (pp)), .int (nI (un)), .int ep, .int fc])) := b0
  have hv : xSt F (b + 50) (S) := hv
  have hpa : F (b + 99) = some (.inr (4, 9, pf)) := hpa
  have p0 : F (b + 100) = some (.inl (4, [.ref (b + 101), .ref (b + 103), .ref (b + 104), .ref (b + 105), .ref (b + 106), .int (nI (K.1)), .int (nI (cc)), .int (nI (pa)), .int (nI (f1)), .int (nI (f2)), .int (nI (hf))])) := p0
  have hK : xPk F (b + 100) (cm.2.1) (K) := hK
  have hin : xTx F (b + 101) (60) (pn) (psg) := hin
  have hli : xTx F (b + 107) (32) (lnn) (lsg) := hli
  have hbt : xBt F (b + 109) (nb) (fb9) := hbt
  have hrg : xRg F (b + 111) := hrg
  have htr : xTx F (b + 122) (16) (tn) (tsg) := htr
  have hcr : F (b + 124) = some (.inr (0, 17, fun b9 => .int (nI (cr b9)))) := hcr
  have hps : xPs F (b) (past) := hps
  have s0 : F (b + 1) = some (.inl (7, [.ref (b + 2), .ref (b + 9), .ref (b + 11), .ref (b + 37), .ref (b + 48), .int (nI (c1)), .int (nI (c2)), .int (nI (c3)), .int (nI (c4))])) := s0
  have h1 : xCd F (b + 2) (w) ((hLen w)) ((hVal (hLen w))) ((hOrd (hLen w))) ((hSum w)) := h1
  have h2 : xTx F (b + 9) (16) (dn) (ds) := h2
  have h3 : xQp F (b + 11) (k) (nx) (p) (m) := h3
  have h4 : xFr F (b + 37) (fk) (fb) (ftn) (fts) (fw) := h4
  have h5 : xTx F (b + 48) (16) (rn) (rs) := h5
  have hk8 : k ≤ 8 := h3.2.1.1
  have hl9 := hli.2.1
  refine x_aload_n hC d_MessageCoder_lineChar_0 rfl rfl ?_
  refine x_getf hC kf_MessageCoder_35 b0 rfl d_MessageCoder_lineChar_1 ?_
  refine x_iload_n hC d_MessageCoder_lineChar_4 rfl rfl ?_
  refine x_callV hC kv_MessageCoder_184 (c_Text_has (ht := hli)) hli.1 rfl rfl (by decide) rfl rfl rfl (Nat.le_of_ble_eq_true rfl) (by decide) d_MessageCoder_lineChar_5 (fun r9 F9 z9 hp9 => ?_)
  obtain ⟨rfl, h9b, h9c⟩ := hp9
  rw [h9b, h9c]
  clear h9b h9c F9 z9
  refine x_ifB_ne hC d_MessageCoder_lineChar_8 (tgt := 21) (by decide) (fun c_8 => ?_) (fun c_8 => ?_)
  · skip
    have hi0 := i2n_of c_8.1
    have hi1 := i2n_lt c_8.1 c_8.2 (by omega)
    refine x_aload_n hC d_MessageCoder_lineChar_21 rfl rfl ?_
    refine x_getf hC kf_MessageCoder_35 b0 rfl d_MessageCoder_lineChar_22 ?_
    refine x_iload_n hC d_MessageCoder_lineChar_25 rfl rfl ?_
    refine x_top (v := (nI (i.toNatClampNeg))) hi0 ?_
    refine x_callV hC kv_MessageCoder_190 (c_Text_at (ht := hli) (hi := by omega)) hli.1 rfl rfl (by decide) rfl rfl rfl (Nat.le_of_ble_eq_true rfl) (by decide) d_MessageCoder_lineChar_26 (fun r9 F9 z9 hp9 => ?_)
    obtain ⟨rfl, h9b, h9c⟩ := hp9
    rw [h9b, h9c]
    clear h9b h9c F9 z9
    exact hret _ _ _ _ _ _ _ d_MessageCoder_lineChar_29 (by decide) (by decide) (x_char _ (by rw [if_pos hi1]; exact hli.2.2.1 _ hi1)) (⟨congrArg (fun q => some (Value.int (nI q))) (if_pos hi1), rfl, rfl, c_8⟩)
  · skip
    refine x_thr hC hR hZx (xtw2_IndexOutOfBoundsException _ _ xsr_188) rfl (Nat.le_of_ble_eq_true rfl) (by decide) (by decide) d_MessageCoder_lineChar_11 d_MessageCoder_lineChar_14 d_MessageCoder_lineChar_15 d_MessageCoder_lineChar_17 d_MessageCoder_lineChar_20 (fun z9 hz9 => ?_)
    exact ⟨rfl, rfl, c_8⟩

theorem d_Law_messageAt_0 : decode method_13_code 0 = .ok (.aload_n 0, 1) := by decide +kernel
theorem d_Law_messageAt_1 : decode method_13_code 1 = .ok (.iload_n 1, 1) := by decide +kernel
theorem d_Law_messageAt_2 : decode method_13_code 2 = .ok (.invokevirtual 55, 3) := by decide +kernel
theorem d_Law_messageAt_5 : decode method_13_code 5 = .ok (.ireturn, 1) := by decide +kernel
theorem d_Law_messageAt_6 : decode method_13_code 6 = .ok (.astore_n 2, 1) := by decide +kernel
theorem d_Law_messageAt_7 : decode method_13_code 7 = .ok (.sipush (-30000), 3) := by decide +kernel
theorem d_Law_messageAt_10 : decode method_13_code 10 = .ok (.ireturn, 1) := by decide +kernel
set_option maxHeartbeats 4000000 in
set_option maxRecDepth 20000 in
theorem c_Law_messageAt {P : xP} {F : xF} {z : Nat} {b : Nat} {cm : cmT} {M : mcS} {a : Int32} (hM : xMC F (cm) (b) (M)) (hZx : xZx P) (hNx : xNx P) (hxx : ¬ mRk M.1 a < M.1.2.2.1.1) : xMw P xy_Law_messageAt [(0, 5, 6, 34)] [.ref b, .int a] F (z) 1 6 (fun r9 F9 z9 => ∃ zz : Nat, r9 = some (.int (-30000)) ∧ z9 = zz ∧ (z ≤ zz) ∧ (∀ a9 : Nat, F9 a9 = F a9)) := by
  refine xMw_post (xMw_z (post := fun r9 F9 _ => r9 = some (.int (-30000)) ∧ ∀ a9 : Nat, F9 a9 = F a9) ?_) (fun r F1 z1 hp => ⟨z1, hp.1.1, rfl, hp.2, hp.1.2⟩)
  refine xMw_i .int rfl (Nat.le_of_ble_eq_true rfl) (L0 := [some (.ref b), some (.int a), none]) rfl rfl fun Θ hC hT hret => ?_
  refine x_aload_n hC d_Law_messageAt_0 rfl rfl ?_
  refine x_iload_n hC d_Law_messageAt_1 rfl rfl ?_
  obtain ⟨b00, -⟩ := id hM
  refine x_callCV hC kv_Law_55 (c_MessageCoder_messageAt (hM := hM) (hZx := hZx)) b00 rfl rfl (Nat.le_of_ble_eq_true rfl) rfl rfl rfl (Nat.le_of_ble_eq_true rfl) (by decide) d_Law_messageAt_2 (fun E9 F9 z9 hp9 => ?_) (fun r9 F9 z9 hp9 => ?_)
  · skip
    rcases hp9 with ⟨rfl, rfl, hcond⟩
    · skip
      refine xH_at hC (name := "java/util/NoSuchElementException") [] ⟨0, 5, 6, 34⟩ [] (hT.trans rfl) (fun y hy => nomatch hy) rfl (by decide) (x_in (x_of (xtb_4 (List.mem_of_getElem? (i := 127) (by decide +kernel)))) (by decide +kernel)) (x_inN (xtb_2 (List.mem_of_getElem? (i := 215) (by decide +kernel))) (by decide +kernel)) (fun q9 => ?_)
      show xX P Θ 6 _ _ _ _ _ _
      refine x_astore_n hC d_Law_messageAt_6 rfl (Nat.le_of_ble_eq_true rfl) (L1 := [some (.ref b), some (.int a), some (.ref q9)]) rfl ?_
      refine x_sipush hC d_Law_messageAt_7 (v := -30000) (by decide) ?_
      exact hret _ _ _ _ _ _ _ d_Law_messageAt_10 (by decide) (by decide) rfl (⟨rfl, fun _ => rfl⟩)
  · skip
    obtain ⟨rfl, rfl, rfl, pn0⟩ := hp9
    exact absurd pn0 hxx

theorem d_Law_symbolAt_0 : decode method_14_code 0 = .ok (.aload_n 0, 1) := by decide +kernel
theorem d_Law_symbolAt_1 : decode method_14_code 1 = .ok (.iload_n 1, 1) := by decide +kernel
theorem d_Law_symbolAt_2 : decode method_14_code 2 = .ok (.iload_n 2, 1) := by decide +kernel
theorem d_Law_symbolAt_3 : decode method_14_code 3 = .ok (.invokevirtual 58, 3) := by decide +kernel
theorem d_Law_symbolAt_6 : decode method_14_code 6 = .ok (.ireturn, 1) := by decide +kernel
theorem d_Law_symbolAt_7 : decode method_14_code 7 = .ok (.astore_n 3, 1) := by decide +kernel
theorem d_Law_symbolAt_8 : decode method_14_code 8 = .ok (.sipush (-30000), 3) := by decide +kernel
theorem d_Law_symbolAt_11 : decode method_14_code 11 = .ok (.ireturn, 1) := by decide +kernel
theorem d_Law_symbolAt_12 : decode method_14_code 12 = .ok (.astore_n 3, 1) := by decide +kernel
theorem d_Law_symbolAt_13 : decode method_14_code 13 = .ok (.sipush (-25000), 3) := by decide +kernel
theorem d_Law_symbolAt_16 : decode method_14_code 16 = .ok (.ireturn, 1) := by decide +kernel
set_option maxHeartbeats 4000000 in
set_option maxRecDepth 20000 in
theorem c_Law_symbolAt {P : xP} {F : xF} {z : Nat} {b : Nat} {cm : cmT} {M : mcS} {a : Int32} {i : Int32} (hM : xMC F (cm) (b) (M)) (hZx : xZx P) (hNx : xNx P) (hxx : mOk M.1 a ∧ ¬ (0 ≤ i ∧ i < nI (mAt M.1 a).2.2.1)) : xMw P xy_Law_symbolAt [(0, 6, 7, 34), (0, 6, 12, 50)] [.ref b, .int a, .int i] F (z) 2 12 (fun r9 F9 z9 => ∃ zz : Nat, r9 = some (.int (-25000)) ∧ z9 = zz ∧ (z ≤ zz) ∧ (∀ a9 : Nat, F9 a9 = F a9)) := by
  refine xMw_post (xMw_z (post := fun r9 F9 _ => r9 = some (.int (-25000)) ∧ ∀ a9 : Nat, F9 a9 = F a9) ?_) (fun r F1 z1 hp => ⟨z1, hp.1.1, rfl, hp.2, hp.1.2⟩)
  refine xMw_i .int rfl (Nat.le_of_ble_eq_true rfl) (L0 := [some (.ref b), some (.int a), some (.int i), none]) rfl rfl fun Θ hC hT hret => ?_
  refine x_aload_n hC d_Law_symbolAt_0 rfl rfl ?_
  refine x_iload_n hC d_Law_symbolAt_1 rfl rfl ?_
  refine x_iload_n hC d_Law_symbolAt_2 rfl rfl ?_
  obtain ⟨b00, -⟩ := id hM
  refine x_callCV hC kv_Law_58 (c_MessageCoder_symbolAt (hM := hM) (hZx := hZx)) b00 rfl rfl (Nat.le_of_ble_eq_true rfl) rfl rfl rfl (Nat.le_of_ble_eq_true rfl) (by decide) d_Law_symbolAt_3 (fun E9 F9 z9 hp9 => ?_) (fun r9 F9 z9 hp9 => ?_)
  · skip
    rcases hp9 with ⟨rfl, rfl, hcond⟩ | ⟨rfl, rfl, hcond⟩
    · skip
      exact absurd hxx.1 hcond
    · skip
      refine xH_at hC (name := "java/lang/IndexOutOfBoundsException") [⟨0, 6, 7, 34⟩] ⟨0, 6, 12, 50⟩ [] (hT.trans rfl) (fun y hy => by rw [List.mem_singleton.mp hy]; exact ⟨by decide, "java/util/NoSuchElementException", x_in (x_of (xtb_4 (List.mem_of_getElem? (i := 127) (by decide +kernel)))) (by decide +kernel), (xNx_1 hC hNx).2.2⟩) rfl (by decide) (x_in (x_of (xtb_4 (List.mem_of_getElem? (i := 131) (by decide +kernel)))) (by decide +kernel)) (x_inN (xtb_3 (List.mem_of_getElem? (i := 46) (by decide +kernel))) (by decide +kernel)) (fun q9 => ?_)
      show xX P Θ 12 _ _ _ _ _ _
      refine x_astore_n hC d_Law_symbolAt_12 rfl (Nat.le_of_ble_eq_true rfl) (L1 := [some (.ref b), some (.int a), some (.int i), some (.ref q9)]) rfl ?_
      refine x_sipush hC d_Law_symbolAt_13 (v := -25000) (by decide) ?_
      exact hret _ _ _ _ _ _ _ d_Law_symbolAt_16 (by decide) (by decide) rfl (⟨rfl, fun _ => rfl⟩)
  · skip
    obtain ⟨rfl, rfl, rfl, pn0, pn1⟩ := hp9
    exact absurd pn1 hxx.2

theorem d_Law_bitAt_0 : decode method_15_code 0 = .ok (.aload_n 0, 1) := by decide +kernel
theorem d_Law_bitAt_1 : decode method_15_code 1 = .ok (.iload_n 1, 1) := by decide +kernel
theorem d_Law_bitAt_2 : decode method_15_code 2 = .ok (.iload_n 2, 1) := by decide +kernel
theorem d_Law_bitAt_3 : decode method_15_code 3 = .ok (.invokevirtual 62, 3) := by decide +kernel
theorem d_Law_bitAt_6 : decode method_15_code 6 = .ok (.ireturn, 1) := by decide +kernel
theorem d_Law_bitAt_7 : decode method_15_code 7 = .ok (.astore_n 3, 1) := by decide +kernel
theorem d_Law_bitAt_8 : decode method_15_code 8 = .ok (.sipush (-30000), 3) := by decide +kernel
theorem d_Law_bitAt_11 : decode method_15_code 11 = .ok (.ireturn, 1) := by decide +kernel
theorem d_Law_bitAt_12 : decode method_15_code 12 = .ok (.astore_n 3, 1) := by decide +kernel
theorem d_Law_bitAt_13 : decode method_15_code 13 = .ok (.sipush (-25000), 3) := by decide +kernel
theorem d_Law_bitAt_16 : decode method_15_code 16 = .ok (.ireturn, 1) := by decide +kernel
set_option maxHeartbeats 4000000 in
set_option maxRecDepth 20000 in
theorem c_Law_bitAt {P : xP} {F : xF} {z : Nat} {b : Nat} {cm : cmT} {M : mcS} {a : Int32} {i : Int32} (hM : xMC F (cm) (b) (M)) (hZx : xZx P) (hNx : xNx P) (hxx : mOk M.1 a ∧ ¬ (0 ≤ i ∧ i < nI (bitsN (hLen M.1.1) (mAt M.1 a).2.2.2 (mAt M.1 a).2.2.1))) : xMw P xy_Law_bitAt [(0, 6, 7, 34), (0, 6, 12, 50)] [.ref b, .int a, .int i] F (z) 2 12 (fun r9 F9 z9 => ∃ zz : Nat, r9 = some (.int (-25000)) ∧ z9 = zz ∧ xMC F9 (cm) (b) (M) ∧ (z ≤ zz) ∧ (∀ a9 : Nat, (a9 < b ∨ b + 566 ≤ a9) → F9 a9 = F a9)) := by
  refine xMw_post (xMw_z (post := fun r9 F9 _ => r9 = some (.int (-25000)) ∧ xMC F9 (cm) (b) (M) ∧ ∀ a9 : Nat, (a9 < b ∨ b + 566 ≤ a9) → F9 a9 = F a9) ?_) (fun r F1 z1 hp => ⟨z1, hp.1.1, rfl, hp.1.2.1, hp.2, hp.1.2.2⟩)
  refine xMw_i .int rfl (Nat.le_of_ble_eq_true rfl) (L0 := [some (.ref b), some (.int a), some (.int i), none]) rfl rfl fun Θ hC hT hret => ?_
  refine x_aload_n hC d_Law_bitAt_0 rfl rfl ?_
  refine x_iload_n hC d_Law_bitAt_1 rfl rfl ?_
  refine x_iload_n hC d_Law_bitAt_2 rfl rfl ?_
  obtain ⟨b00, -⟩ := id hM
  refine x_callCV hC kv_Law_62 (c_MessageCoder_bitAt (hM := hM) (hZx := hZx)) b00 rfl rfl (Nat.le_of_ble_eq_true rfl) rfl rfl rfl (Nat.le_of_ble_eq_true rfl) (by decide) d_Law_bitAt_3 (fun E9 F9 z9 hp9 => ?_) (fun r9 F9 z9 hp9 => ?_)
  · skip
    rcases hp9 with ⟨rfl, hM9, hcond, hag9⟩ | ⟨rfl, hM9, hcond, hag9⟩
    · skip
      exact absurd hxx.1 hcond
    · skip
      refine xH_at hC (name := "java/lang/IndexOutOfBoundsException") [⟨0, 6, 7, 34⟩] ⟨0, 6, 12, 50⟩ [] (hT.trans rfl) (fun y hy => by rw [List.mem_singleton.mp hy]; exact ⟨by decide, "java/util/NoSuchElementException", x_in (x_of (xtb_4 (List.mem_of_getElem? (i := 127) (by decide +kernel)))) (by decide +kernel), (xNx_1 hC hNx).2.2⟩) rfl (by decide) (x_in (x_of (xtb_4 (List.mem_of_getElem? (i := 131) (by decide +kernel)))) (by decide +kernel)) (x_inN (xtb_3 (List.mem_of_getElem? (i := 46) (by decide +kernel))) (by decide +kernel)) (fun q9 => ?_)
      show xX P Θ 12 _ _ _ _ _ _
      refine x_astore_n hC d_Law_bitAt_12 rfl (Nat.le_of_ble_eq_true rfl) (L1 := [some (.ref b), some (.int a), some (.int i), some (.ref q9)]) rfl ?_
      refine x_sipush hC d_Law_bitAt_13 (v := -25000) (by decide) ?_
      exact hret _ _ _ _ _ _ _ d_Law_bitAt_16 (by decide) (by decide) rfl (⟨rfl, hM9, hag9⟩)
  · skip
    obtain ⟨rfl, rfl, hM9, pn0, pn1, hag9⟩ := hp9
    exact absurd pn1 hxx.2

theorem d_Law_frameBit_0 : decode method_16_code 0 = .ok (.aload_n 0, 1) := by decide +kernel
theorem d_Law_frameBit_1 : decode method_16_code 1 = .ok (.iload_n 1, 1) := by decide +kernel
theorem d_Law_frameBit_2 : decode method_16_code 2 = .ok (.invokevirtual 65, 3) := by decide +kernel
theorem d_Law_frameBit_5 : decode method_16_code 5 = .ok (.ireturn, 1) := by decide +kernel
theorem d_Law_frameBit_6 : decode method_16_code 6 = .ok (.astore_n 2, 1) := by decide +kernel
theorem d_Law_frameBit_7 : decode method_16_code 7 = .ok (.sipush (-25000), 3) := by decide +kernel
theorem d_Law_frameBit_10 : decode method_16_code 10 = .ok (.ireturn, 1) := by decide +kernel
set_option maxHeartbeats 4000000 in
set_option maxRecDepth 20000 in
theorem c_Law_frameBit {P : xP} {F : xF} {z : Nat} {b : Nat} {cm : cmT} {M : mcS} {i : Int32} (hM : xMC F (cm) (b) (M)) (hZx : xZx P) (hNx : xNx P) (hxx : ¬ (0 ≤ i ∧ i < nI (M.1.2.2.2.1.1 * 7))) : xMw P xy_Law_frameBit [(0, 5, 6, 50)] [.ref b, .int i] F (z) 1 6 (fun r9 F9 z9 => ∃ zz : Nat, r9 = some (.int (-25000)) ∧ z9 = zz ∧ (z ≤ zz) ∧ (∀ a9 : Nat, F9 a9 = F a9)) := by
  refine xMw_post (xMw_z (post := fun r9 F9 _ => r9 = some (.int (-25000)) ∧ ∀ a9 : Nat, F9 a9 = F a9) ?_) (fun r F1 z1 hp => ⟨z1, hp.1.1, rfl, hp.2, hp.1.2⟩)
  refine xMw_i .int rfl (Nat.le_of_ble_eq_true rfl) (L0 := [some (.ref b), some (.int i), none]) rfl rfl fun Θ hC hT hret => ?_
  refine x_aload_n hC d_Law_frameBit_0 rfl rfl ?_
  refine x_iload_n hC d_Law_frameBit_1 rfl rfl ?_
  obtain ⟨b00, -⟩ := id hM
  refine x_callCV hC kv_Law_65 (c_MessageCoder_frameBit (hM := hM) (hZx := hZx)) b00 rfl rfl (Nat.le_of_ble_eq_true rfl) rfl rfl rfl (Nat.le_of_ble_eq_true rfl) (by decide) d_Law_frameBit_2 (fun E9 F9 z9 hp9 => ?_) (fun r9 F9 z9 hp9 => ?_)
  · skip
    rcases hp9 with ⟨rfl, rfl, hcond⟩
    · skip
      refine xH_at hC (name := "java/lang/IndexOutOfBoundsException") [] ⟨0, 5, 6, 50⟩ [] (hT.trans rfl) (fun y hy => nomatch hy) rfl (by decide) (x_in (x_of (xtb_4 (List.mem_of_getElem? (i := 131) (by decide +kernel)))) (by decide +kernel)) (x_inN (xtb_3 (List.mem_of_getElem? (i := 46) (by decide +kernel))) (by decide +kernel)) (fun q9 => ?_)
      show xX P Θ 6 _ _ _ _ _ _
      refine x_astore_n hC d_Law_frameBit_6 rfl (Nat.le_of_ble_eq_true rfl) (L1 := [some (.ref b), some (.int i), some (.ref q9)]) rfl ?_
      refine x_sipush hC d_Law_frameBit_7 (v := -25000) (by decide) ?_
      exact hret _ _ _ _ _ _ _ d_Law_frameBit_10 (by decide) (by decide) rfl (⟨rfl, fun _ => rfl⟩)
  · skip
    obtain ⟨rfl, rfl, rfl, pn0⟩ := hp9
    exact absurd pn0 hxx

theorem d_Law_syndrome_0 : decode method_17_code 0 = .ok (.aload_n 0, 1) := by decide +kernel
theorem d_Law_syndrome_1 : decode method_17_code 1 = .ok (.iload_n 1, 1) := by decide +kernel
theorem d_Law_syndrome_2 : decode method_17_code 2 = .ok (.invokevirtual 68, 3) := by decide +kernel
theorem d_Law_syndrome_5 : decode method_17_code 5 = .ok (.ireturn, 1) := by decide +kernel
theorem d_Law_syndrome_6 : decode method_17_code 6 = .ok (.astore_n 2, 1) := by decide +kernel
theorem d_Law_syndrome_7 : decode method_17_code 7 = .ok (.sipush (-25000), 3) := by decide +kernel
theorem d_Law_syndrome_10 : decode method_17_code 10 = .ok (.ireturn, 1) := by decide +kernel
set_option maxHeartbeats 4000000 in
set_option maxRecDepth 20000 in
theorem c_Law_syndrome {P : xP} {F : xF} {z : Nat} {b : Nat} {cm : cmT} {M : mcS} {i : Int32} (hM : xMC F (cm) (b) (M)) (hZx : xZx P) (hNx : xNx P) (hxx : ¬ (0 ≤ i ∧ i < nI M.1.2.2.2.1.1)) : xMw P xy_Law_syndrome [(0, 5, 6, 50)] [.ref b, .int i] F (z) 1 6 (fun r9 F9 z9 => ∃ zz : Nat, r9 = some (.int (-25000)) ∧ z9 = zz ∧ (z ≤ zz) ∧ (∀ a9 : Nat, F9 a9 = F a9)) := by
  refine xMw_post (xMw_z (post := fun r9 F9 _ => r9 = some (.int (-25000)) ∧ ∀ a9 : Nat, F9 a9 = F a9) ?_) (fun r F1 z1 hp => ⟨z1, hp.1.1, rfl, hp.2, hp.1.2⟩)
  refine xMw_i .int rfl (Nat.le_of_ble_eq_true rfl) (L0 := [some (.ref b), some (.int i), none]) rfl rfl fun Θ hC hT hret => ?_
  refine x_aload_n hC d_Law_syndrome_0 rfl rfl ?_
  refine x_iload_n hC d_Law_syndrome_1 rfl rfl ?_
  obtain ⟨b00, -⟩ := id hM
  refine x_callCV hC kv_Law_68 (c_MessageCoder_syndrome (hM := hM) (hZx := hZx)) b00 rfl rfl (Nat.le_of_ble_eq_true rfl) rfl rfl rfl (Nat.le_of_ble_eq_true rfl) (by decide) d_Law_syndrome_2 (fun E9 F9 z9 hp9 => ?_) (fun r9 F9 z9 hp9 => ?_)
  · skip
    rcases hp9 with ⟨rfl, rfl, hcond⟩
    · skip
      refine xH_at hC (name := "java/lang/IndexOutOfBoundsException") [] ⟨0, 5, 6, 50⟩ [] (hT.trans rfl) (fun y hy => nomatch hy) rfl (by decide) (x_in (x_of (xtb_4 (List.mem_of_getElem? (i := 131) (by decide +kernel)))) (by decide +kernel)) (x_inN (xtb_3 (List.mem_of_getElem? (i := 46) (by decide +kernel))) (by decide +kernel)) (fun q9 => ?_)
      show xX P Θ 6 _ _ _ _ _ _
      refine x_astore_n hC d_Law_syndrome_6 rfl (Nat.le_of_ble_eq_true rfl) (L1 := [some (.ref b), some (.int i), some (.ref q9)]) rfl ?_
      refine x_sipush hC d_Law_syndrome_7 (v := -25000) (by decide) ?_
      exact hret _ _ _ _ _ _ _ d_Law_syndrome_10 (by decide) (by decide) rfl (⟨rfl, fun _ => rfl⟩)
  · skip
    obtain ⟨rfl, rfl, rfl, pn0⟩ := hp9
    exact absurd pn0 hxx

theorem d_Law_receivedAt_0 : decode method_18_code 0 = .ok (.aload_n 0, 1) := by decide +kernel
theorem d_Law_receivedAt_1 : decode method_18_code 1 = .ok (.iload_n 1, 1) := by decide +kernel
theorem d_Law_receivedAt_2 : decode method_18_code 2 = .ok (.invokevirtual 71, 3) := by decide +kernel
theorem d_Law_receivedAt_5 : decode method_18_code 5 = .ok (.ireturn, 1) := by decide +kernel
theorem d_Law_receivedAt_6 : decode method_18_code 6 = .ok (.astore_n 2, 1) := by decide +kernel
theorem d_Law_receivedAt_7 : decode method_18_code 7 = .ok (.sipush (-25000), 3) := by decide +kernel
theorem d_Law_receivedAt_10 : decode method_18_code 10 = .ok (.ireturn, 1) := by decide +kernel
set_option maxHeartbeats 4000000 in
set_option maxRecDepth 20000 in
theorem c_Law_receivedAt {P : xP} {F : xF} {z : Nat} {b : Nat} {cm : cmT} {M : mcS} {i : Int32} (hM : xMC F (cm) (b) (M)) (hZx : xZx P) (hNx : xNx P) (hxx : ¬ (0 ≤ i ∧ i < nI M.1.2.2.2.2.1.1)) : xMw P xy_Law_receivedAt [(0, 5, 6, 50)] [.ref b, .int i] F (z) 1 6 (fun r9 F9 z9 => ∃ zz : Nat, r9 = some (.int (-25000)) ∧ z9 = zz ∧ (z ≤ zz) ∧ (∀ a9 : Nat, F9 a9 = F a9)) := by
  refine xMw_post (xMw_z (post := fun r9 F9 _ => r9 = some (.int (-25000)) ∧ ∀ a9 : Nat, F9 a9 = F a9) ?_) (fun r F1 z1 hp => ⟨z1, hp.1.1, rfl, hp.2, hp.1.2⟩)
  refine xMw_i .int rfl (Nat.le_of_ble_eq_true rfl) (L0 := [some (.ref b), some (.int i), none]) rfl rfl fun Θ hC hT hret => ?_
  refine x_aload_n hC d_Law_receivedAt_0 rfl rfl ?_
  refine x_iload_n hC d_Law_receivedAt_1 rfl rfl ?_
  obtain ⟨b00, -⟩ := id hM
  refine x_callCV hC kv_Law_71 (c_MessageCoder_receivedAt (hM := hM) (hZx := hZx)) b00 rfl rfl (Nat.le_of_ble_eq_true rfl) rfl rfl rfl (Nat.le_of_ble_eq_true rfl) (by decide) d_Law_receivedAt_2 (fun E9 F9 z9 hp9 => ?_) (fun r9 F9 z9 hp9 => ?_)
  · skip
    rcases hp9 with ⟨rfl, rfl, hcond⟩
    · skip
      refine xH_at hC (name := "java/lang/IndexOutOfBoundsException") [] ⟨0, 5, 6, 50⟩ [] (hT.trans rfl) (fun y hy => nomatch hy) rfl (by decide) (x_in (x_of (xtb_4 (List.mem_of_getElem? (i := 131) (by decide +kernel)))) (by decide +kernel)) (x_inN (xtb_3 (List.mem_of_getElem? (i := 46) (by decide +kernel))) (by decide +kernel)) (fun q9 => ?_)
      show xX P Θ 6 _ _ _ _ _ _
      refine x_astore_n hC d_Law_receivedAt_6 rfl (Nat.le_of_ble_eq_true rfl) (L1 := [some (.ref b), some (.int i), some (.ref q9)]) rfl ?_
      refine x_sipush hC d_Law_receivedAt_7 (v := -25000) (by decide) ?_
      exact hret _ _ _ _ _ _ _ d_Law_receivedAt_10 (by decide) (by decide) rfl (⟨rfl, fun _ => rfl⟩)
  · skip
    obtain ⟨rfl, rfl, rfl, pn0⟩ := hp9
    exact absurd pn0 hxx

theorem d_Law_setWeight_0 : decode method_4_code 0 = .ok (.aload_n 0, 1) := by decide +kernel
theorem d_Law_setWeight_1 : decode method_4_code 1 = .ok (.iload_n 1, 1) := by decide +kernel
theorem d_Law_setWeight_2 : decode method_4_code 2 = .ok (.iload_n 2, 1) := by decide +kernel
theorem d_Law_setWeight_3 : decode method_4_code 3 = .ok (.invokevirtual 13, 3) := by decide +kernel
theorem d_Law_setWeight_6 : decode method_4_code 6 = .ok (.ireturn, 1) := by decide +kernel
theorem d_Law_setWeight_7 : decode method_4_code 7 = .ok (.astore_n 3, 1) := by decide +kernel
theorem d_Law_setWeight_8 : decode method_4_code 8 = .ok (.sipush (-20000), 3) := by decide +kernel
theorem d_Law_setWeight_11 : decode method_4_code 11 = .ok (.ireturn, 1) := by decide +kernel
set_option maxHeartbeats 4000000 in
set_option maxRecDepth 20000 in
theorem c_Law_setWeight {P : xP} {F : xF} {z : Nat} {b : Nat} {cm : cmT} {M : mcS} {sm : Nat} {c : Nat} {x : Int32} (hM : xMC F (cm) (b) (M)) (hCM : xCM P cm) (hSM : xSM P sm) (hZx : xZx P) (hpp0 : M.2.2.2.2.2.2.1 < 100000) (hun0 : M.2.2.2.2.2.2.2.1 < 100000) (hc0 : c < 65536) (hNx : xNx P) : xMw P xy_Law_setWeight [(0, 6, 7, 19)] [.ref b, .int (nI (c)), .int x] F (z) 1 6 (fun r9 F9 z9 => ∃ v9 : Int32, ∃ zz : Nat, r9 = some (.int v9) ∧ z9 = zz ∧ xMC F9 (cm) (b) ((chgM M (aWt M.1 c x))) ∧ (z ≤ zz) ∧ (∀ a9 : Nat, (a9 < b ∨ b + 566 ≤ a9) → F9 a9 = F a9)) := by
  refine xMw_post (xMw_z (post := fun r9 F9 _ => ∃ v9 : Int32, r9 = some (.int v9) ∧ xMC F9 (cm) (b) ((chgM M (aWt M.1 c x))) ∧ ∀ a9 : Nat, (a9 < b ∨ b + 566 ≤ a9) → F9 a9 = F a9) ?_) (fun r F1 z1 hp => ⟨hp.1.choose, z1, hp.1.choose_spec.1, rfl, hp.1.choose_spec.2.1, hp.2, hp.1.choose_spec.2.2⟩)
  refine xMw_i .int rfl (Nat.le_of_ble_eq_true rfl) (L0 := [some (.ref b), some (.int (nI (c))), some (.int x), none]) rfl rfl fun Θ hC hT hret => ?_
  refine x_aload_n hC d_Law_setWeight_0 rfl rfl ?_
  refine x_iload_n hC d_Law_setWeight_1 rfl rfl ?_
  refine x_iload_n hC d_Law_setWeight_2 rfl rfl ?_
  obtain ⟨b00, -⟩ := id hM
  refine x_callCV hC kv_Law_13 (c_MessageCoder_setWeight (hM := hM) (hCM := hCM) (hSM := hSM) (hZx := hZx) (hpp0 := hpp0) (hun0 := hun0) (hc0 := hc0)) b00 rfl rfl (Nat.le_of_ble_eq_true rfl) rfl rfl rfl (Nat.le_of_ble_eq_true rfl) (by decide) d_Law_setWeight_3 (fun E9 F9 z9 hp9 => ?_) (fun r9 F9 z9 hp9 => ?_)
  · skip
    rcases hp9 with ⟨rfl, hM9, hcond, hag9⟩
    · skip
      refine xH_at hC (name := "java/lang/IllegalArgumentException") [] ⟨0, 6, 7, 19⟩ [] (hT.trans rfl) (fun y hy => nomatch hy) rfl (by decide) (x_in (x_of (xtb_4 (List.mem_of_getElem? (i := 183) (by decide +kernel)))) (by decide +kernel)) (x_inN (xtb_2 (List.mem_of_getElem? (i := 124) (by decide +kernel))) (by decide +kernel)) (fun q9 => ?_)
      show xX P Θ 7 _ _ _ _ _ _
      refine x_astore_n hC d_Law_setWeight_7 rfl (Nat.le_of_ble_eq_true rfl) (L1 := [some (.ref b), some (.int (nI (c))), some (.int x), some (.ref q9)]) rfl ?_
      refine x_sipush hC d_Law_setWeight_8 (v := -20000) (by decide) ?_
      exact hret _ _ _ _ _ _ _ d_Law_setWeight_11 (by decide) (by decide) rfl (⟨_, rfl, hM9, hag9⟩)
  · skip
    obtain ⟨rfl, rfl, hM9, pn0, hag9⟩ := hp9
    exact hret _ _ _ _ _ _ _ d_Law_setWeight_6 (by decide) (by decide) rfl (⟨_, rfl, hM9, hag9⟩)

theorem d_Law_addSymbol_0 : decode method_5_code 0 = .ok (.aload_n 0, 1) := by decide +kernel
theorem d_Law_addSymbol_1 : decode method_5_code 1 = .ok (.iload_n 1, 1) := by decide +kernel
theorem d_Law_addSymbol_2 : decode method_5_code 2 = .ok (.invokevirtual 21, 3) := by decide +kernel
theorem d_Law_addSymbol_5 : decode method_5_code 5 = .ok (.ireturn, 1) := by decide +kernel
theorem d_Law_addSymbol_6 : decode method_5_code 6 = .ok (.astore_n 2, 1) := by decide +kernel
theorem d_Law_addSymbol_7 : decode method_5_code 7 = .ok (.sipush (-20000), 3) := by decide +kernel
theorem d_Law_addSymbol_10 : decode method_5_code 10 = .ok (.ireturn, 1) := by decide +kernel
theorem d_Law_addSymbol_11 : decode method_5_code 11 = .ok (.astore_n 2, 1) := by decide +kernel
theorem d_Law_addSymbol_12 : decode method_5_code 12 = .ok (.sipush (-10000), 3) := by decide +kernel
theorem d_Law_addSymbol_15 : decode method_5_code 15 = .ok (.ireturn, 1) := by decide +kernel
set_option maxHeartbeats 4000000 in
set_option maxRecDepth 20000 in
theorem c_Law_addSymbol {P : xP} {F : xF} {z : Nat} {b : Nat} {cm : cmT} {M : mcS} {sm : Nat} {c : Nat} (hM : xMC F (cm) (b) (M)) (hCM : xCM P cm) (hSM : xSM P sm) (hZx : xZx P) (hpp0 : M.2.2.2.2.2.2.1 < 100000) (hun0 : M.2.2.2.2.2.2.2.1 < 100000) (hc0 : c < 65536) (hNx : xNx P) : xMw P xy_Law_addSymbol [(0, 5, 6, 19), (0, 5, 11, 25)] [.ref b, .int (nI (c))] F (z) 1 6 (fun r9 F9 z9 => ∃ v9 : Int32, ∃ zz : Nat, r9 = some (.int v9) ∧ z9 = zz ∧ xMC F9 (cm) (b) ((chgM M (aDr M.1 c))) ∧ (z ≤ zz) ∧ (∀ a9 : Nat, (a9 < b ∨ b + 566 ≤ a9) → F9 a9 = F a9)) := by
  refine xMw_post (xMw_z (post := fun r9 F9 _ => ∃ v9 : Int32, r9 = some (.int v9) ∧ xMC F9 (cm) (b) ((chgM M (aDr M.1 c))) ∧ ∀ a9 : Nat, (a9 < b ∨ b + 566 ≤ a9) → F9 a9 = F a9) ?_) (fun r F1 z1 hp => ⟨hp.1.choose, z1, hp.1.choose_spec.1, rfl, hp.1.choose_spec.2.1, hp.2, hp.1.choose_spec.2.2⟩)
  refine xMw_i .int rfl (Nat.le_of_ble_eq_true rfl) (L0 := [some (.ref b), some (.int (nI (c))), none]) rfl rfl fun Θ hC hT hret => ?_
  refine x_aload_n hC d_Law_addSymbol_0 rfl rfl ?_
  refine x_iload_n hC d_Law_addSymbol_1 rfl rfl ?_
  obtain ⟨b00, -⟩ := id hM
  refine x_callCV hC kv_Law_21 (c_MessageCoder_addSymbol (hM := hM) (hCM := hCM) (hSM := hSM) (hZx := hZx) (hpp0 := hpp0) (hun0 := hun0) (hc0 := hc0)) b00 rfl rfl (Nat.le_of_ble_eq_true rfl) rfl rfl rfl (Nat.le_of_ble_eq_true rfl) (by decide) d_Law_addSymbol_2 (fun E9 F9 z9 hp9 => ?_) (fun r9 F9 z9 hp9 => ?_)
  · skip
    rcases hp9 with ⟨rfl, hM9, hcond, hag9⟩ | ⟨rfl, hM9, hcond, hag9⟩
    · skip
      refine xH_at hC (name := "java/lang/IllegalArgumentException") [] ⟨0, 5, 6, 19⟩ [⟨0, 5, 11, 25⟩] (hT.trans rfl) (fun y hy => nomatch hy) rfl (by decide) (x_in (x_of (xtb_4 (List.mem_of_getElem? (i := 183) (by decide +kernel)))) (by decide +kernel)) (x_inN (xtb_2 (List.mem_of_getElem? (i := 124) (by decide +kernel))) (by decide +kernel)) (fun q9 => ?_)
      show xX P Θ 6 _ _ _ _ _ _
      refine x_astore_n hC d_Law_addSymbol_6 rfl (Nat.le_of_ble_eq_true rfl) (L1 := [some (.ref b), some (.int (nI (c))), some (.ref q9)]) rfl ?_
      refine x_sipush hC d_Law_addSymbol_7 (v := -20000) (by decide) ?_
      exact hret _ _ _ _ _ _ _ d_Law_addSymbol_10 (by decide) (by decide) rfl (⟨_, rfl, hM9, hag9⟩)
    · skip
      refine xH_at hC (name := "java/lang/IllegalStateException") [⟨0, 5, 6, 19⟩] ⟨0, 5, 11, 25⟩ [] (hT.trans rfl) (fun y hy => by rw [List.mem_singleton.mp hy]; exact ⟨by decide, "java/lang/IllegalArgumentException", x_in (x_of (xtb_4 (List.mem_of_getElem? (i := 183) (by decide +kernel)))) (by decide +kernel), (xNx_1 hC hNx).1⟩) rfl (by decide) (x_in (x_of (xtb_5 (List.mem_of_getElem? (i := 108) (by decide +kernel)))) (by decide +kernel)) (x_inN (xtb_5 (List.mem_of_getElem? (i := 117) (by decide +kernel))) (by decide +kernel)) (fun q9 => ?_)
      show xX P Θ 11 _ _ _ _ _ _
      refine x_astore_n hC d_Law_addSymbol_11 rfl (Nat.le_of_ble_eq_true rfl) (L1 := [some (.ref b), some (.int (nI (c))), some (.ref q9)]) rfl ?_
      refine x_sipush hC d_Law_addSymbol_12 (v := -10000) (by decide) ?_
      exact hret _ _ _ _ _ _ _ d_Law_addSymbol_15 (by decide) (by decide) rfl (⟨_, rfl, hM9, hag9⟩)
  · skip
    obtain ⟨rfl, rfl, hM9, pn0, pn1, hag9⟩ := hp9
    exact hret _ _ _ _ _ _ _ d_Law_addSymbol_5 (by decide) (by decide) rfl (⟨_, rfl, hM9, hag9⟩)

theorem d_Law_post_0 : decode method_6_code 0 = .ok (.aload_n 0, 1) := by decide +kernel
theorem d_Law_post_1 : decode method_6_code 1 = .ok (.iload_n 1, 1) := by decide +kernel
theorem d_Law_post_2 : decode method_6_code 2 = .ok (.invokevirtual 27, 3) := by decide +kernel
theorem d_Law_post_5 : decode method_6_code 5 = .ok (.ireturn, 1) := by decide +kernel
theorem d_Law_post_6 : decode method_6_code 6 = .ok (.astore_n 2, 1) := by decide +kernel
theorem d_Law_post_7 : decode method_6_code 7 = .ok (.sipush (-20000), 3) := by decide +kernel
theorem d_Law_post_10 : decode method_6_code 10 = .ok (.ireturn, 1) := by decide +kernel
theorem d_Law_post_11 : decode method_6_code 11 = .ok (.astore_n 2, 1) := by decide +kernel
theorem d_Law_post_12 : decode method_6_code 12 = .ok (.sipush (-10000), 3) := by decide +kernel
theorem d_Law_post_15 : decode method_6_code 15 = .ok (.ireturn, 1) := by decide +kernel
set_option maxHeartbeats 4000000 in
set_option maxRecDepth 20000 in
theorem c_Law_post {P : xP} {F : xF} {z : Nat} {b : Nat} {cm : cmT} {M : mcS} {sm : Nat} {a : Int32} (hM : xMC F (cm) (b) (M)) (hCM : xCM P cm) (hSM : xSM P sm) (hZx : xZx P) (hpp0 : M.2.2.2.2.2.2.1 < 100000) (hun0 : M.2.2.2.2.2.2.2.1 < 100000) (hnx : M.1.2.2.1.2.1 < 999) (hNx : xNx P) : xMw P xy_Law_post [(0, 5, 6, 19), (0, 5, 11, 25)] [.ref b, .int a] F (z) 1 6 (fun r9 F9 z9 => ∃ v9 : Int32, ∃ zz : Nat, r9 = some (.int v9) ∧ z9 = zz ∧ xMC F9 (cm) (b) ((chgM M (aPo M.1 a))) ∧ (z ≤ zz) ∧ (∀ a9 : Nat, (a9 < b ∨ b + 566 ≤ a9) → F9 a9 = F a9)) := by
  refine xMw_post (xMw_z (post := fun r9 F9 _ => ∃ v9 : Int32, r9 = some (.int v9) ∧ xMC F9 (cm) (b) ((chgM M (aPo M.1 a))) ∧ ∀ a9 : Nat, (a9 < b ∨ b + 566 ≤ a9) → F9 a9 = F a9) ?_) (fun r F1 z1 hp => ⟨hp.1.choose, z1, hp.1.choose_spec.1, rfl, hp.1.choose_spec.2.1, hp.2, hp.1.choose_spec.2.2⟩)
  refine xMw_i .int rfl (Nat.le_of_ble_eq_true rfl) (L0 := [some (.ref b), some (.int a), none]) rfl rfl fun Θ hC hT hret => ?_
  refine x_aload_n hC d_Law_post_0 rfl rfl ?_
  refine x_iload_n hC d_Law_post_1 rfl rfl ?_
  obtain ⟨b00, -⟩ := id hM
  refine x_callCV hC kv_Law_27 (c_MessageCoder_post (hM := hM) (hCM := hCM) (hSM := hSM) (hZx := hZx) (hpp0 := hpp0) (hun0 := hun0) (hnx := hnx)) b00 rfl rfl (Nat.le_of_ble_eq_true rfl) rfl rfl rfl (Nat.le_of_ble_eq_true rfl) (by decide) d_Law_post_2 (fun E9 F9 z9 hp9 => ?_) (fun r9 F9 z9 hp9 => ?_)
  · skip
    rcases hp9 with ⟨rfl, hM9, hcond, hag9⟩ | ⟨rfl, hM9, hcond, hag9⟩
    · skip
      refine xH_at hC (name := "java/lang/IllegalArgumentException") [] ⟨0, 5, 6, 19⟩ [⟨0, 5, 11, 25⟩] (hT.trans rfl) (fun y hy => nomatch hy) rfl (by decide) (x_in (x_of (xtb_4 (List.mem_of_getElem? (i := 183) (by decide +kernel)))) (by decide +kernel)) (x_inN (xtb_2 (List.mem_of_getElem? (i := 124) (by decide +kernel))) (by decide +kernel)) (fun q9 => ?_)
      show xX P Θ 6 _ _ _ _ _ _
      refine x_astore_n hC d_Law_post_6 rfl (Nat.le_of_ble_eq_true rfl) (L1 := [some (.ref b), some (.int a), some (.ref q9)]) rfl ?_
      refine x_sipush hC d_Law_post_7 (v := -20000) (by decide) ?_
      exact hret _ _ _ _ _ _ _ d_Law_post_10 (by decide) (by decide) rfl (⟨_, rfl, hM9, hag9⟩)
    · skip
      refine xH_at hC (name := "java/lang/IllegalStateException") [⟨0, 5, 6, 19⟩] ⟨0, 5, 11, 25⟩ [] (hT.trans rfl) (fun y hy => by rw [List.mem_singleton.mp hy]; exact ⟨by decide, "java/lang/IllegalArgumentException", x_in (x_of (xtb_4 (List.mem_of_getElem? (i := 183) (by decide +kernel)))) (by decide +kernel), (xNx_1 hC hNx).1⟩) rfl (by decide) (x_in (x_of (xtb_5 (List.mem_of_getElem? (i := 108) (by decide +kernel)))) (by decide +kernel)) (x_inN (xtb_5 (List.mem_of_getElem? (i := 117) (by decide +kernel))) (by decide +kernel)) (fun q9 => ?_)
      show xX P Θ 11 _ _ _ _ _ _
      refine x_astore_n hC d_Law_post_11 rfl (Nat.le_of_ble_eq_true rfl) (L1 := [some (.ref b), some (.int a), some (.ref q9)]) rfl ?_
      refine x_sipush hC d_Law_post_12 (v := -10000) (by decide) ?_
      exact hret _ _ _ _ _ _ _ d_Law_post_15 (by decide) (by decide) rfl (⟨_, rfl, hM9, hag9⟩)
  · skip
    obtain ⟨rfl, rfl, hM9, pn0, pn1, hag9⟩ := hp9
    exact hret _ _ _ _ _ _ _ d_Law_post_5 (by decide) (by decide) rfl (⟨_, rfl, hM9, hag9⟩)

theorem d_Law_drop_0 : decode method_7_code 0 = .ok (.aload_n 0, 1) := by decide +kernel
theorem d_Law_drop_1 : decode method_7_code 1 = .ok (.iload_n 1, 1) := by decide +kernel
theorem d_Law_drop_2 : decode method_7_code 2 = .ok (.invokevirtual 31, 3) := by decide +kernel
theorem d_Law_drop_5 : decode method_7_code 5 = .ok (.ireturn, 1) := by decide +kernel
theorem d_Law_drop_6 : decode method_7_code 6 = .ok (.astore_n 2, 1) := by decide +kernel
theorem d_Law_drop_7 : decode method_7_code 7 = .ok (.sipush (-30000), 3) := by decide +kernel
theorem d_Law_drop_10 : decode method_7_code 10 = .ok (.ireturn, 1) := by decide +kernel
set_option maxHeartbeats 4000000 in
set_option maxRecDepth 20000 in
theorem c_Law_drop {P : xP} {F : xF} {z : Nat} {b : Nat} {cm : cmT} {M : mcS} {sm : Nat} {a : Int32} (hM : xMC F (cm) (b) (M)) (hCM : xCM P cm) (hSM : xSM P sm) (hZx : xZx P) (hpp0 : M.2.2.2.2.2.2.1 < 100000) (hun0 : M.2.2.2.2.2.2.2.1 < 100000) (hNx : xNx P) : xMw P xy_Law_drop [(0, 5, 6, 34)] [.ref b, .int a] F (z) 1 6 (fun r9 F9 z9 => ∃ v9 : Int32, ∃ zz : Nat, r9 = some (.int v9) ∧ z9 = zz ∧ xMC F9 (cm) (b) ((chgM M (aDi M.1 a))) ∧ (z ≤ zz) ∧ (∀ a9 : Nat, (a9 < b ∨ b + 566 ≤ a9) → F9 a9 = F a9)) := by
  refine xMw_post (xMw_z (post := fun r9 F9 _ => ∃ v9 : Int32, r9 = some (.int v9) ∧ xMC F9 (cm) (b) ((chgM M (aDi M.1 a))) ∧ ∀ a9 : Nat, (a9 < b ∨ b + 566 ≤ a9) → F9 a9 = F a9) ?_) (fun r F1 z1 hp => ⟨hp.1.choose, z1, hp.1.choose_spec.1, rfl, hp.1.choose_spec.2.1, hp.2, hp.1.choose_spec.2.2⟩)
  refine xMw_i .int rfl (Nat.le_of_ble_eq_true rfl) (L0 := [some (.ref b), some (.int a), none]) rfl rfl fun Θ hC hT hret => ?_
  refine x_aload_n hC d_Law_drop_0 rfl rfl ?_
  refine x_iload_n hC d_Law_drop_1 rfl rfl ?_
  obtain ⟨b00, -⟩ := id hM
  refine x_callCV hC kv_Law_31 (c_MessageCoder_drop (hM := hM) (hCM := hCM) (hSM := hSM) (hZx := hZx) (hpp0 := hpp0) (hun0 := hun0)) b00 rfl rfl (Nat.le_of_ble_eq_true rfl) rfl rfl rfl (Nat.le_of_ble_eq_true rfl) (by decide) d_Law_drop_2 (fun E9 F9 z9 hp9 => ?_) (fun r9 F9 z9 hp9 => ?_)
  · skip
    rcases hp9 with ⟨rfl, hM9, hcond, hag9⟩
    · skip
      refine xH_at hC (name := "java/util/NoSuchElementException") [] ⟨0, 5, 6, 34⟩ [] (hT.trans rfl) (fun y hy => nomatch hy) rfl (by decide) (x_in (x_of (xtb_4 (List.mem_of_getElem? (i := 127) (by decide +kernel)))) (by decide +kernel)) (x_inN (xtb_2 (List.mem_of_getElem? (i := 215) (by decide +kernel))) (by decide +kernel)) (fun q9 => ?_)
      show xX P Θ 6 _ _ _ _ _ _
      refine x_astore_n hC d_Law_drop_6 rfl (Nat.le_of_ble_eq_true rfl) (L1 := [some (.ref b), some (.int a), some (.ref q9)]) rfl ?_
      refine x_sipush hC d_Law_drop_7 (v := -30000) (by decide) ?_
      exact hret _ _ _ _ _ _ _ d_Law_drop_10 (by decide) (by decide) rfl (⟨_, rfl, hM9, hag9⟩)
  · skip
    obtain ⟨rfl, rfl, hM9, pn0, hag9⟩ := hp9
    exact hret _ _ _ _ _ _ _ d_Law_drop_5 (by decide) (by decide) rfl (⟨_, rfl, hM9, hag9⟩)

theorem d_Law_setPriority_0 : decode method_8_code 0 = .ok (.aload_n 0, 1) := by decide +kernel
theorem d_Law_setPriority_1 : decode method_8_code 1 = .ok (.iload_n 1, 1) := by decide +kernel
theorem d_Law_setPriority_2 : decode method_8_code 2 = .ok (.iload_n 2, 1) := by decide +kernel
theorem d_Law_setPriority_3 : decode method_8_code 3 = .ok (.invokevirtual 36, 3) := by decide +kernel
theorem d_Law_setPriority_6 : decode method_8_code 6 = .ok (.ireturn, 1) := by decide +kernel
theorem d_Law_setPriority_7 : decode method_8_code 7 = .ok (.astore_n 3, 1) := by decide +kernel
theorem d_Law_setPriority_8 : decode method_8_code 8 = .ok (.sipush (-30000), 3) := by decide +kernel
theorem d_Law_setPriority_11 : decode method_8_code 11 = .ok (.ireturn, 1) := by decide +kernel
theorem d_Law_setPriority_12 : decode method_8_code 12 = .ok (.astore_n 3, 1) := by decide +kernel
theorem d_Law_setPriority_13 : decode method_8_code 13 = .ok (.sipush (-20000), 3) := by decide +kernel
theorem d_Law_setPriority_16 : decode method_8_code 16 = .ok (.ireturn, 1) := by decide +kernel
set_option maxHeartbeats 4000000 in
set_option maxRecDepth 20000 in
theorem c_Law_setPriority {P : xP} {F : xF} {z : Nat} {b : Nat} {cm : cmT} {M : mcS} {sm : Nat} {a : Int32} {x : Int32} (hM : xMC F (cm) (b) (M)) (hCM : xCM P cm) (hSM : xSM P sm) (hZx : xZx P) (hpp0 : M.2.2.2.2.2.2.1 < 100000) (hun0 : M.2.2.2.2.2.2.2.1 < 100000) (hNx : xNx P) : xMw P xy_Law_setPriority [(0, 6, 7, 34), (0, 6, 12, 19)] [.ref b, .int a, .int x] F (z) 1 6 (fun r9 F9 z9 => ∃ v9 : Int32, ∃ zz : Nat, r9 = some (.int v9) ∧ z9 = zz ∧ xMC F9 (cm) (b) ((chgM M (aHu M.1 a x))) ∧ (z ≤ zz) ∧ (∀ a9 : Nat, (a9 < b ∨ b + 566 ≤ a9) → F9 a9 = F a9)) := by
  refine xMw_post (xMw_z (post := fun r9 F9 _ => ∃ v9 : Int32, r9 = some (.int v9) ∧ xMC F9 (cm) (b) ((chgM M (aHu M.1 a x))) ∧ ∀ a9 : Nat, (a9 < b ∨ b + 566 ≤ a9) → F9 a9 = F a9) ?_) (fun r F1 z1 hp => ⟨hp.1.choose, z1, hp.1.choose_spec.1, rfl, hp.1.choose_spec.2.1, hp.2, hp.1.choose_spec.2.2⟩)
  refine xMw_i .int rfl (Nat.le_of_ble_eq_true rfl) (L0 := [some (.ref b), some (.int a), some (.int x), none]) rfl rfl fun Θ hC hT hret => ?_
  refine x_aload_n hC d_Law_setPriority_0 rfl rfl ?_
  refine x_iload_n hC d_Law_setPriority_1 rfl rfl ?_
  refine x_iload_n hC d_Law_setPriority_2 rfl rfl ?_
  obtain ⟨b00, -⟩ := id hM
  refine x_callCV hC kv_Law_36 (c_MessageCoder_setPriority (hM := hM) (hCM := hCM) (hSM := hSM) (hZx := hZx) (hpp0 := hpp0) (hun0 := hun0)) b00 rfl rfl (Nat.le_of_ble_eq_true rfl) rfl rfl rfl (Nat.le_of_ble_eq_true rfl) (by decide) d_Law_setPriority_3 (fun E9 F9 z9 hp9 => ?_) (fun r9 F9 z9 hp9 => ?_)
  · skip
    rcases hp9 with ⟨rfl, hM9, hcond, hag9⟩ | ⟨rfl, hM9, hcond, hag9⟩
    · skip
      refine xH_at hC (name := "java/util/NoSuchElementException") [] ⟨0, 6, 7, 34⟩ [⟨0, 6, 12, 19⟩] (hT.trans rfl) (fun y hy => nomatch hy) rfl (by decide) (x_in (x_of (xtb_4 (List.mem_of_getElem? (i := 127) (by decide +kernel)))) (by decide +kernel)) (x_inN (xtb_2 (List.mem_of_getElem? (i := 215) (by decide +kernel))) (by decide +kernel)) (fun q9 => ?_)
      show xX P Θ 7 _ _ _ _ _ _
      refine x_astore_n hC d_Law_setPriority_7 rfl (Nat.le_of_ble_eq_true rfl) (L1 := [some (.ref b), some (.int a), some (.int x), some (.ref q9)]) rfl ?_
      refine x_sipush hC d_Law_setPriority_8 (v := -30000) (by decide) ?_
      exact hret _ _ _ _ _ _ _ d_Law_setPriority_11 (by decide) (by decide) rfl (⟨_, rfl, hM9, hag9⟩)
    · skip
      refine xH_at hC (name := "java/lang/IllegalArgumentException") [⟨0, 6, 7, 34⟩] ⟨0, 6, 12, 19⟩ [] (hT.trans rfl) (fun y hy => by rw [List.mem_singleton.mp hy]; exact ⟨by decide, "java/util/NoSuchElementException", x_in (x_of (xtb_4 (List.mem_of_getElem? (i := 127) (by decide +kernel)))) (by decide +kernel), (xNx_1 hC hNx).2.1⟩) rfl (by decide) (x_in (x_of (xtb_4 (List.mem_of_getElem? (i := 183) (by decide +kernel)))) (by decide +kernel)) (x_inN (xtb_2 (List.mem_of_getElem? (i := 124) (by decide +kernel))) (by decide +kernel)) (fun q9 => ?_)
      show xX P Θ 12 _ _ _ _ _ _
      refine x_astore_n hC d_Law_setPriority_12 rfl (Nat.le_of_ble_eq_true rfl) (L1 := [some (.ref b), some (.int a), some (.int x), some (.ref q9)]) rfl ?_
      refine x_sipush hC d_Law_setPriority_13 (v := -20000) (by decide) ?_
      exact hret _ _ _ _ _ _ _ d_Law_setPriority_16 (by decide) (by decide) rfl (⟨_, rfl, hM9, hag9⟩)
  · skip
    obtain ⟨rfl, rfl, hM9, pn0, pn1, hag9⟩ := hp9
    exact hret _ _ _ _ _ _ _ d_Law_setPriority_6 (by decide) (by decide) rfl (⟨_, rfl, hM9, hag9⟩)

theorem d_Law_learn_0 : decode method_9_code 0 = .ok (.aload_n 0, 1) := by decide +kernel
theorem d_Law_learn_1 : decode method_9_code 1 = .ok (.iload_n 1, 1) := by decide +kernel
theorem d_Law_learn_2 : decode method_9_code 2 = .ok (.invokevirtual 40, 3) := by decide +kernel
theorem d_Law_learn_5 : decode method_9_code 5 = .ok (.ireturn, 1) := by decide +kernel
theorem d_Law_learn_6 : decode method_9_code 6 = .ok (.astore_n 2, 1) := by decide +kernel
theorem d_Law_learn_7 : decode method_9_code 7 = .ok (.sipush (-30000), 3) := by decide +kernel
theorem d_Law_learn_10 : decode method_9_code 10 = .ok (.ireturn, 1) := by decide +kernel
set_option maxHeartbeats 4000000 in
set_option maxRecDepth 20000 in
theorem c_Law_learn {P : xP} {F : xF} {z : Nat} {b : Nat} {cm : cmT} {M : mcS} {sm : Nat} {a : Int32} (hM : xMC F (cm) (b) (M)) (hCM : xCM P cm) (hSM : xSM P sm) (hZx : xZx P) (hpp0 : M.2.2.2.2.2.2.1 < 100000) (hun0 : M.2.2.2.2.2.2.2.1 < 100000) (hNx : xNx P) : xMw P xy_Law_learn [(0, 5, 6, 34)] [.ref b, .int a] F (z) 1 6 (fun r9 F9 z9 => ∃ v9 : Int32, ∃ zz : Nat, r9 = some (.int v9) ∧ z9 = zz ∧ xMC F9 (cm) (b) ((chgM M (aLe M.1 a))) ∧ (z ≤ zz) ∧ (∀ a9 : Nat, (a9 < b ∨ b + 566 ≤ a9) → F9 a9 = F a9)) := by
  refine xMw_post (xMw_z (post := fun r9 F9 _ => ∃ v9 : Int32, r9 = some (.int v9) ∧ xMC F9 (cm) (b) ((chgM M (aLe M.1 a))) ∧ ∀ a9 : Nat, (a9 < b ∨ b + 566 ≤ a9) → F9 a9 = F a9) ?_) (fun r F1 z1 hp => ⟨hp.1.choose, z1, hp.1.choose_spec.1, rfl, hp.1.choose_spec.2.1, hp.2, hp.1.choose_spec.2.2⟩)
  refine xMw_i .int rfl (Nat.le_of_ble_eq_true rfl) (L0 := [some (.ref b), some (.int a), none]) rfl rfl fun Θ hC hT hret => ?_
  refine x_aload_n hC d_Law_learn_0 rfl rfl ?_
  refine x_iload_n hC d_Law_learn_1 rfl rfl ?_
  obtain ⟨b00, -⟩ := id hM
  refine x_callCV hC kv_Law_40 (c_MessageCoder_learn (hM := hM) (hCM := hCM) (hSM := hSM) (hZx := hZx) (hpp0 := hpp0) (hun0 := hun0)) b00 rfl rfl (Nat.le_of_ble_eq_true rfl) rfl rfl rfl (Nat.le_of_ble_eq_true rfl) (by decide) d_Law_learn_2 (fun E9 F9 z9 hp9 => ?_) (fun r9 F9 z9 hp9 => ?_)
  · skip
    rcases hp9 with ⟨rfl, hM9, hcond, hag9⟩
    · skip
      refine xH_at hC (name := "java/util/NoSuchElementException") [] ⟨0, 5, 6, 34⟩ [] (hT.trans rfl) (fun y hy => nomatch hy) rfl (by decide) (x_in (x_of (xtb_4 (List.mem_of_getElem? (i := 127) (by decide +kernel)))) (by decide +kernel)) (x_inN (xtb_2 (List.mem_of_getElem? (i := 215) (by decide +kernel))) (by decide +kernel)) (fun q9 => ?_)
      show xX P Θ 6 _ _ _ _ _ _
      refine x_astore_n hC d_Law_learn_6 rfl (Nat.le_of_ble_eq_true rfl) (L1 := [some (.ref b), some (.int a), some (.ref q9)]) rfl ?_
      refine x_sipush hC d_Law_learn_7 (v := -30000) (by decide) ?_
      exact hret _ _ _ _ _ _ _ d_Law_learn_10 (by decide) (by decide) rfl (⟨_, rfl, hM9, hag9⟩)
  · skip
    obtain ⟨rfl, rfl, hM9, pn0, hag9⟩ := hp9
    exact hret _ _ _ _ _ _ _ d_Law_learn_5 (by decide) (by decide) rfl (⟨_, rfl, hM9, hag9⟩)

theorem d_Law_send_0 : decode method_10_code 0 = .ok (.aload_n 0, 1) := by decide +kernel
theorem d_Law_send_1 : decode method_10_code 1 = .ok (.invokevirtual 43, 3) := by decide +kernel
theorem d_Law_send_4 : decode method_10_code 4 = .ok (.ireturn, 1) := by decide +kernel
theorem d_Law_send_5 : decode method_10_code 5 = .ok (.astore_n 1, 1) := by decide +kernel
theorem d_Law_send_6 : decode method_10_code 6 = .ok (.sipush (-30000), 3) := by decide +kernel
theorem d_Law_send_9 : decode method_10_code 9 = .ok (.ireturn, 1) := by decide +kernel
set_option maxHeartbeats 4000000 in
set_option maxRecDepth 20000 in
theorem c_Law_send {P : xP} {F : xF} {z : Nat} {b : Nat} {cm : cmT} {M : mcS} {sm : Nat} (hM : xMC F (cm) (b) (M)) (hCM : xCM P cm) (hSM : xSM P sm) (hZx : xZx P) (hpp0 : M.2.2.2.2.2.2.1 < 100000) (hun0 : M.2.2.2.2.2.2.2.1 < 100000) (hNx : xNx P) : xMw P xy_Law_send [(0, 4, 5, 34)] [.ref b] F (z) 1 6 (fun r9 F9 z9 => ∃ v9 : Int32, ∃ zz : Nat, r9 = some (.int v9) ∧ z9 = zz ∧ xMC F9 (cm) (b) ((chgM M (aSe M.1))) ∧ (z ≤ zz) ∧ (∀ a9 : Nat, (a9 < b ∨ b + 566 ≤ a9) → F9 a9 = F a9)) := by
  refine xMw_post (xMw_z (post := fun r9 F9 _ => ∃ v9 : Int32, r9 = some (.int v9) ∧ xMC F9 (cm) (b) ((chgM M (aSe M.1))) ∧ ∀ a9 : Nat, (a9 < b ∨ b + 566 ≤ a9) → F9 a9 = F a9) ?_) (fun r F1 z1 hp => ⟨hp.1.choose, z1, hp.1.choose_spec.1, rfl, hp.1.choose_spec.2.1, hp.2, hp.1.choose_spec.2.2⟩)
  refine xMw_i .int rfl (Nat.le_of_ble_eq_true rfl) (L0 := [some (.ref b), none]) rfl rfl fun Θ hC hT hret => ?_
  refine x_aload_n hC d_Law_send_0 rfl rfl ?_
  obtain ⟨b00, -⟩ := id hM
  refine x_callCV hC kv_Law_43 (c_MessageCoder_send (hM := hM) (hCM := hCM) (hSM := hSM) (hZx := hZx) (hpp0 := hpp0) (hun0 := hun0)) b00 rfl rfl (Nat.le_of_ble_eq_true rfl) rfl rfl rfl (Nat.le_of_ble_eq_true rfl) (by decide) d_Law_send_1 (fun E9 F9 z9 hp9 => ?_) (fun r9 F9 z9 hp9 => ?_)
  · skip
    rcases hp9 with ⟨rfl, hM9, hcond, hag9⟩
    · skip
      refine xH_at hC (name := "java/util/NoSuchElementException") [] ⟨0, 4, 5, 34⟩ [] (hT.trans rfl) (fun y hy => nomatch hy) rfl (by decide) (x_in (x_of (xtb_4 (List.mem_of_getElem? (i := 127) (by decide +kernel)))) (by decide +kernel)) (x_inN (xtb_2 (List.mem_of_getElem? (i := 215) (by decide +kernel))) (by decide +kernel)) (fun q9 => ?_)
      show xX P Θ 5 _ _ _ _ _ _
      refine x_astore_n hC d_Law_send_5 rfl (Nat.le_of_ble_eq_true rfl) (L1 := [some (.ref b), some (.ref q9)]) rfl ?_
      refine x_sipush hC d_Law_send_6 (v := -30000) (by decide) ?_
      exact hret _ _ _ _ _ _ _ d_Law_send_9 (by decide) (by decide) rfl (⟨_, rfl, hM9, hag9⟩)
  · skip
    obtain ⟨rfl, rfl, hM9, pn0, hag9⟩ := hp9
    exact hret _ _ _ _ _ _ _ d_Law_send_4 (by decide) (by decide) rfl (⟨_, rfl, hM9, hag9⟩)

theorem d_Law_flip_0 : decode method_11_code 0 = .ok (.aload_n 0, 1) := by decide +kernel
theorem d_Law_flip_1 : decode method_11_code 1 = .ok (.iload_n 1, 1) := by decide +kernel
theorem d_Law_flip_2 : decode method_11_code 2 = .ok (.invokevirtual 47, 3) := by decide +kernel
theorem d_Law_flip_5 : decode method_11_code 5 = .ok (.ireturn, 1) := by decide +kernel
theorem d_Law_flip_6 : decode method_11_code 6 = .ok (.astore_n 2, 1) := by decide +kernel
theorem d_Law_flip_7 : decode method_11_code 7 = .ok (.sipush (-25000), 3) := by decide +kernel
theorem d_Law_flip_10 : decode method_11_code 10 = .ok (.ireturn, 1) := by decide +kernel
set_option maxHeartbeats 4000000 in
set_option maxRecDepth 20000 in
theorem c_Law_flip {P : xP} {F : xF} {z : Nat} {b : Nat} {cm : cmT} {M : mcS} {sm : Nat} {a : Int32} (hM : xMC F (cm) (b) (M)) (hCM : xCM P cm) (hSM : xSM P sm) (hZx : xZx P) (hpp0 : M.2.2.2.2.2.2.1 < 100000) (hun0 : M.2.2.2.2.2.2.2.1 < 100000) (hNx : xNx P) : xMw P xy_Law_flip [(0, 5, 6, 50)] [.ref b, .int a] F (z) 1 6 (fun r9 F9 z9 => ∃ v9 : Int32, ∃ zz : Nat, r9 = some (.int v9) ∧ z9 = zz ∧ xMC F9 (cm) (b) ((chgM M (aFl M.1 a))) ∧ (z ≤ zz) ∧ (∀ a9 : Nat, (a9 < b ∨ b + 566 ≤ a9) → F9 a9 = F a9)) := by
  refine xMw_post (xMw_z (post := fun r9 F9 _ => ∃ v9 : Int32, r9 = some (.int v9) ∧ xMC F9 (cm) (b) ((chgM M (aFl M.1 a))) ∧ ∀ a9 : Nat, (a9 < b ∨ b + 566 ≤ a9) → F9 a9 = F a9) ?_) (fun r F1 z1 hp => ⟨hp.1.choose, z1, hp.1.choose_spec.1, rfl, hp.1.choose_spec.2.1, hp.2, hp.1.choose_spec.2.2⟩)
  refine xMw_i .int rfl (Nat.le_of_ble_eq_true rfl) (L0 := [some (.ref b), some (.int a), none]) rfl rfl fun Θ hC hT hret => ?_
  refine x_aload_n hC d_Law_flip_0 rfl rfl ?_
  refine x_iload_n hC d_Law_flip_1 rfl rfl ?_
  obtain ⟨b00, -⟩ := id hM
  refine x_callCV hC kv_Law_47 (c_MessageCoder_flip (hM := hM) (hCM := hCM) (hSM := hSM) (hZx := hZx) (hpp0 := hpp0) (hun0 := hun0)) b00 rfl rfl (Nat.le_of_ble_eq_true rfl) rfl rfl rfl (Nat.le_of_ble_eq_true rfl) (by decide) d_Law_flip_2 (fun E9 F9 z9 hp9 => ?_) (fun r9 F9 z9 hp9 => ?_)
  · skip
    rcases hp9 with ⟨rfl, hM9, hcond, hag9⟩
    · skip
      refine xH_at hC (name := "java/lang/IndexOutOfBoundsException") [] ⟨0, 5, 6, 50⟩ [] (hT.trans rfl) (fun y hy => nomatch hy) rfl (by decide) (x_in (x_of (xtb_4 (List.mem_of_getElem? (i := 131) (by decide +kernel)))) (by decide +kernel)) (x_inN (xtb_3 (List.mem_of_getElem? (i := 46) (by decide +kernel))) (by decide +kernel)) (fun q9 => ?_)
      show xX P Θ 6 _ _ _ _ _ _
      refine x_astore_n hC d_Law_flip_6 rfl (Nat.le_of_ble_eq_true rfl) (L1 := [some (.ref b), some (.int a), some (.ref q9)]) rfl ?_
      refine x_sipush hC d_Law_flip_7 (v := -25000) (by decide) ?_
      exact hret _ _ _ _ _ _ _ d_Law_flip_10 (by decide) (by decide) rfl (⟨_, rfl, hM9, hag9⟩)
  · skip
    obtain ⟨rfl, rfl, hM9, pn0, hag9⟩ := hp9
    exact hret _ _ _ _ _ _ _ d_Law_flip_5 (by decide) (by decide) rfl (⟨_, rfl, hM9, hag9⟩)

theorem d_Law_receive_0 : decode method_12_code 0 = .ok (.aload_n 0, 1) := by decide +kernel
theorem d_Law_receive_1 : decode method_12_code 1 = .ok (.invokevirtual 52, 3) := by decide +kernel
theorem d_Law_receive_4 : decode method_12_code 4 = .ok (.ireturn, 1) := by decide +kernel
theorem d_Law_receive_5 : decode method_12_code 5 = .ok (.astore_n 1, 1) := by decide +kernel
theorem d_Law_receive_6 : decode method_12_code 6 = .ok (.sipush (-30000), 3) := by decide +kernel
theorem d_Law_receive_9 : decode method_12_code 9 = .ok (.ireturn, 1) := by decide +kernel
set_option maxHeartbeats 4000000 in
set_option maxRecDepth 20000 in
theorem c_Law_receive {P : xP} {F : xF} {z : Nat} {b : Nat} {cm : cmT} {M : mcS} {sm : Nat} (hM : xMC F (cm) (b) (M)) (hCM : xCM P cm) (hSM : xSM P sm) (hZx : xZx P) (hpp0 : M.2.2.2.2.2.2.1 < 100000) (hun0 : M.2.2.2.2.2.2.2.1 < 100000) (hNx : xNx P) : xMw P xy_Law_receive [(0, 4, 5, 34)] [.ref b] F (z) 1 6 (fun r9 F9 z9 => ∃ v9 : Int32, ∃ zz : Nat, r9 = some (.int v9) ∧ z9 = zz ∧ xMC F9 (cm) (b) ((chgM M (aRe M.1))) ∧ (z ≤ zz) ∧ (∀ a9 : Nat, (a9 < b ∨ b + 566 ≤ a9) → F9 a9 = F a9)) := by
  refine xMw_post (xMw_z (post := fun r9 F9 _ => ∃ v9 : Int32, r9 = some (.int v9) ∧ xMC F9 (cm) (b) ((chgM M (aRe M.1))) ∧ ∀ a9 : Nat, (a9 < b ∨ b + 566 ≤ a9) → F9 a9 = F a9) ?_) (fun r F1 z1 hp => ⟨hp.1.choose, z1, hp.1.choose_spec.1, rfl, hp.1.choose_spec.2.1, hp.2, hp.1.choose_spec.2.2⟩)
  refine xMw_i .int rfl (Nat.le_of_ble_eq_true rfl) (L0 := [some (.ref b), none]) rfl rfl fun Θ hC hT hret => ?_
  refine x_aload_n hC d_Law_receive_0 rfl rfl ?_
  obtain ⟨b00, -⟩ := id hM
  refine x_callCV hC kv_Law_52 (c_MessageCoder_receive (hM := hM) (hCM := hCM) (hSM := hSM) (hZx := hZx) (hpp0 := hpp0) (hun0 := hun0)) b00 rfl rfl (Nat.le_of_ble_eq_true rfl) rfl rfl rfl (Nat.le_of_ble_eq_true rfl) (by decide) d_Law_receive_1 (fun E9 F9 z9 hp9 => ?_) (fun r9 F9 z9 hp9 => ?_)
  · skip
    rcases hp9 with ⟨rfl, hM9, hcond, hag9⟩
    · skip
      refine xH_at hC (name := "java/util/NoSuchElementException") [] ⟨0, 4, 5, 34⟩ [] (hT.trans rfl) (fun y hy => nomatch hy) rfl (by decide) (x_in (x_of (xtb_4 (List.mem_of_getElem? (i := 127) (by decide +kernel)))) (by decide +kernel)) (x_inN (xtb_2 (List.mem_of_getElem? (i := 215) (by decide +kernel))) (by decide +kernel)) (fun q9 => ?_)
      show xX P Θ 5 _ _ _ _ _ _
      refine x_astore_n hC d_Law_receive_5 rfl (Nat.le_of_ble_eq_true rfl) (L1 := [some (.ref b), some (.ref q9)]) rfl ?_
      refine x_sipush hC d_Law_receive_6 (v := -30000) (by decide) ?_
      exact hret _ _ _ _ _ _ _ d_Law_receive_9 (by decide) (by decide) rfl (⟨_, rfl, hM9, hag9⟩)
  · skip
    obtain ⟨rfl, rfl, hM9, pn0, hag9⟩ := hp9
    exact hret _ _ _ _ _ _ _ d_Law_receive_4 (by decide) (by decide) rfl (⟨_, rfl, hM9, hag9⟩)

theorem kw_Law_283 : xLW "MessageCoderLaw" 283 xy_Law_messageAt [(0, 5, 6, 34)] 2 := ⟨⟨x_in (x_of (xtb_4 (List.mem_of_getElem? (i := 126) (by decide +kernel)))) (by decide +kernel), x_in (x_of (xtb_1 (List.mem_of_getElem? (i := 0) (by decide +kernel)))) (by decide +kernel), ⟨by decide, by decide, by decide +kernel⟩, by decide⟩, x_in (x_of (xtb_4 (List.mem_of_getElem? (i := 124) (by decide +kernel)))) (by decide +kernel), x_in (x_of (xtb_4 (List.mem_of_getElem? (i := 125) (by decide +kernel)))) (by decide +kernel)⟩
theorem kw_Law_223 : xLW "MessageCoderLaw" 223 xy_Law_symbolAt [(0, 6, 7, 34), (0, 6, 12, 50)] 3 := ⟨⟨x_in (x_of (xtb_4 (List.mem_of_getElem? (i := 130) (by decide +kernel)))) (by decide +kernel), x_in (x_of (xtb_1 (List.mem_of_getElem? (i := 0) (by decide +kernel)))) (by decide +kernel), ⟨by decide, by decide, by decide +kernel⟩, by decide⟩, x_in (x_of (xtb_4 (List.mem_of_getElem? (i := 128) (by decide +kernel)))) (by decide +kernel), x_in (x_of (xtb_4 (List.mem_of_getElem? (i := 129) (by decide +kernel)))) (by decide +kernel)⟩
theorem kw_Law_221 : xLW "MessageCoderLaw" 221 xy_Law_bitAt [(0, 6, 7, 34), (0, 6, 12, 50)] 3 := ⟨⟨x_in (x_of (xtb_4 (List.mem_of_getElem? (i := 154) (by decide +kernel)))) (by decide +kernel), x_in (x_of (xtb_1 (List.mem_of_getElem? (i := 0) (by decide +kernel)))) (by decide +kernel), ⟨by decide, by decide, by decide +kernel⟩, by decide⟩, x_in (x_of (xtb_4 (List.mem_of_getElem? (i := 152) (by decide +kernel)))) (by decide +kernel), x_in (x_of (xtb_4 (List.mem_of_getElem? (i := 153) (by decide +kernel)))) (by decide +kernel)⟩
theorem kw_Law_263 : xLW "MessageCoderLaw" 263 xy_Law_frameBit [(0, 5, 6, 50)] 2 := ⟨⟨x_in (x_of (xtb_4 (List.mem_of_getElem? (i := 157) (by decide +kernel)))) (by decide +kernel), x_in (x_of (xtb_1 (List.mem_of_getElem? (i := 0) (by decide +kernel)))) (by decide +kernel), ⟨by decide, by decide, by decide +kernel⟩, by decide⟩, x_in (x_of (xtb_4 (List.mem_of_getElem? (i := 155) (by decide +kernel)))) (by decide +kernel), x_in (x_of (xtb_4 (List.mem_of_getElem? (i := 156) (by decide +kernel)))) (by decide +kernel)⟩
theorem kw_Law_261 : xLW "MessageCoderLaw" 261 xy_Law_syndrome [(0, 5, 6, 50)] 2 := ⟨⟨x_in (x_of (xtb_4 (List.mem_of_getElem? (i := 160) (by decide +kernel)))) (by decide +kernel), x_in (x_of (xtb_1 (List.mem_of_getElem? (i := 0) (by decide +kernel)))) (by decide +kernel), ⟨by decide, by decide, by decide +kernel⟩, by decide⟩, x_in (x_of (xtb_4 (List.mem_of_getElem? (i := 158) (by decide +kernel)))) (by decide +kernel), x_in (x_of (xtb_4 (List.mem_of_getElem? (i := 159) (by decide +kernel)))) (by decide +kernel)⟩
theorem kw_Law_268 : xLW "MessageCoderLaw" 268 xy_Law_receivedAt [(0, 5, 6, 50)] 2 := ⟨⟨x_in (x_of (xtb_4 (List.mem_of_getElem? (i := 163) (by decide +kernel)))) (by decide +kernel), x_in (x_of (xtb_1 (List.mem_of_getElem? (i := 0) (by decide +kernel)))) (by decide +kernel), ⟨by decide, by decide, by decide +kernel⟩, by decide⟩, x_in (x_of (xtb_4 (List.mem_of_getElem? (i := 161) (by decide +kernel)))) (by decide +kernel), x_in (x_of (xtb_4 (List.mem_of_getElem? (i := 162) (by decide +kernel)))) (by decide +kernel)⟩
theorem kw_Law_82 : xLW "MessageCoderLaw" 82 xy_Law_setWeight [(0, 6, 7, 19)] 3 := ⟨⟨x_in (x_of (xtb_4 (List.mem_of_getElem? (i := 182) (by decide +kernel)))) (by decide +kernel), x_in (x_of (xtb_1 (List.mem_of_getElem? (i := 0) (by decide +kernel)))) (by decide +kernel), ⟨by decide, by decide, by decide +kernel⟩, by decide⟩, x_in (x_of (xtb_4 (List.mem_of_getElem? (i := 180) (by decide +kernel)))) (by decide +kernel), x_in (x_of (xtb_4 (List.mem_of_getElem? (i := 181) (by decide +kernel)))) (by decide +kernel)⟩
theorem kw_Law_85 : xLW "MessageCoderLaw" 85 xy_Law_addSymbol [(0, 5, 6, 19), (0, 5, 11, 25)] 2 := ⟨⟨x_in (x_of (xtb_5 (List.mem_of_getElem? (i := 107) (by decide +kernel)))) (by decide +kernel), x_in (x_of (xtb_1 (List.mem_of_getElem? (i := 0) (by decide +kernel)))) (by decide +kernel), ⟨by decide, by decide, by decide +kernel⟩, by decide⟩, x_in (x_of (xtb_5 (List.mem_of_getElem? (i := 105) (by decide +kernel)))) (by decide +kernel), x_in (x_of (xtb_5 (List.mem_of_getElem? (i := 106) (by decide +kernel)))) (by decide +kernel)⟩
theorem kw_Law_88 : xLW "MessageCoderLaw" 88 xy_Law_post [(0, 5, 6, 19), (0, 5, 11, 25)] 2 := ⟨⟨x_in (x_of (xtb_5 (List.mem_of_getElem? (i := 133) (by decide +kernel)))) (by decide +kernel), x_in (x_of (xtb_1 (List.mem_of_getElem? (i := 0) (by decide +kernel)))) (by decide +kernel), ⟨by decide, by decide, by decide +kernel⟩, by decide⟩, x_in (x_of (xtb_5 (List.mem_of_getElem? (i := 131) (by decide +kernel)))) (by decide +kernel), x_in (x_of (xtb_5 (List.mem_of_getElem? (i := 132) (by decide +kernel)))) (by decide +kernel)⟩
theorem kw_Law_98 : xLW "MessageCoderLaw" 98 xy_Law_drop [(0, 5, 6, 34)] 2 := ⟨⟨x_in (x_of (xtb_5 (List.mem_of_getElem? (i := 147) (by decide +kernel)))) (by decide +kernel), x_in (x_of (xtb_1 (List.mem_of_getElem? (i := 0) (by decide +kernel)))) (by decide +kernel), ⟨by decide, by decide, by decide +kernel⟩, by decide⟩, x_in (x_of (xtb_5 (List.mem_of_getElem? (i := 145) (by decide +kernel)))) (by decide +kernel), x_in (x_of (xtb_5 (List.mem_of_getElem? (i := 146) (by decide +kernel)))) (by decide +kernel)⟩
theorem kw_Law_100 : xLW "MessageCoderLaw" 100 xy_Law_setPriority [(0, 6, 7, 34), (0, 6, 12, 19)] 3 := ⟨⟨x_in (x_of (xtb_5 (List.mem_of_getElem? (i := 156) (by decide +kernel)))) (by decide +kernel), x_in (x_of (xtb_1 (List.mem_of_getElem? (i := 0) (by decide +kernel)))) (by decide +kernel), ⟨by decide, by decide, by decide +kernel⟩, by decide⟩, x_in (x_of (xtb_5 (List.mem_of_getElem? (i := 154) (by decide +kernel)))) (by decide +kernel), x_in (x_of (xtb_5 (List.mem_of_getElem? (i := 155) (by decide +kernel)))) (by decide +kernel)⟩
theorem kw_Law_103 : xLW "MessageCoderLaw" 103 xy_Law_learn [(0, 5, 6, 34)] 2 := ⟨⟨x_in (x_of (xtb_5 (List.mem_of_getElem? (i := 165) (by decide +kernel)))) (by decide +kernel), x_in (x_of (xtb_1 (List.mem_of_getElem? (i := 0) (by decide +kernel)))) (by decide +kernel), ⟨by decide, by decide, by decide +kernel⟩, by decide⟩, x_in (x_of (xtb_5 (List.mem_of_getElem? (i := 163) (by decide +kernel)))) (by decide +kernel), x_in (x_of (xtb_5 (List.mem_of_getElem? (i := 164) (by decide +kernel)))) (by decide +kernel)⟩
theorem kw_Law_105 : xLW "MessageCoderLaw" 105 xy_Law_send [(0, 4, 5, 34)] 1 := ⟨⟨x_in (x_of (xtb_5 (List.mem_of_getElem? (i := 174) (by decide +kernel)))) (by decide +kernel), x_in (x_of (xtb_1 (List.mem_of_getElem? (i := 0) (by decide +kernel)))) (by decide +kernel), ⟨by decide, by decide, by decide +kernel⟩, by decide⟩, x_in (x_of (xtb_5 (List.mem_of_getElem? (i := 172) (by decide +kernel)))) (by decide +kernel), x_in (x_of (xtb_5 (List.mem_of_getElem? (i := 173) (by decide +kernel)))) (by decide +kernel)⟩
theorem kw_Law_115 : xLW "MessageCoderLaw" 115 xy_Law_flip [(0, 5, 6, 50)] 2 := ⟨⟨x_in (x_of (xtb_5 (List.mem_of_getElem? (i := 184) (by decide +kernel)))) (by decide +kernel), x_in (x_of (xtb_1 (List.mem_of_getElem? (i := 0) (by decide +kernel)))) (by decide +kernel), ⟨by decide, by decide, by decide +kernel⟩, by decide⟩, x_in (x_of (xtb_5 (List.mem_of_getElem? (i := 182) (by decide +kernel)))) (by decide +kernel), x_in (x_of (xtb_5 (List.mem_of_getElem? (i := 183) (by decide +kernel)))) (by decide +kernel)⟩
theorem kw_Law_117 : xLW "MessageCoderLaw" 117 xy_Law_receive [(0, 4, 5, 34)] 1 := ⟨⟨x_in (x_of (xtb_5 (List.mem_of_getElem? (i := 194) (by decide +kernel)))) (by decide +kernel), x_in (x_of (xtb_1 (List.mem_of_getElem? (i := 0) (by decide +kernel)))) (by decide +kernel), ⟨by decide, by decide, by decide +kernel⟩, by decide⟩, x_in (x_of (xtb_5 (List.mem_of_getElem? (i := 192) (by decide +kernel)))) (by decide +kernel), x_in (x_of (xtb_5 (List.mem_of_getElem? (i := 193) (by decide +kernel)))) (by decide +kernel)⟩
