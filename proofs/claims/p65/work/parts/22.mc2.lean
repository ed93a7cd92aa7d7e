/-! the coder's questions: what each answers -/
abbrev mIx (A : aS) (a : Int32) : Nat := idAt A.2.2.1.2.2 a A.2.2.1.1
abbrev mOk (A : aS) (a : Int32) : Prop := mIx A a < A.2.2.1.1
abbrev mAt (A : aS) (a : Int32) : mS := A.2.2.1.2.2 (mIx A a)
abbrev mRk (A : aS) (a : Int32) : Nat := rankAt A.2.2.1.2.2 a A.2.2.1.1
theorem nle0 {r : Int32} (h : ¬ r < 0) : 0 ≤ r := k2_le h

theorem d_MessageCoder_placeOf_0 : decode prog_1_method_66_code 0 = .ok (.iload_n 0, 1) := by decide +kernel
theorem d_MessageCoder_placeOf_1 : decode prog_1_method_66_code 1 = .ok (.invokestatic 225, 3) := by decide +kernel
theorem d_MessageCoder_placeOf_4 : decode prog_1_method_66_code 4 = .ok (.ifCond .ne 13, 3) := by decide +kernel
theorem d_MessageCoder_placeOf_7 : decode prog_1_method_66_code 7 = .ok (.new 77, 3) := by decide +kernel
theorem d_MessageCoder_placeOf_10 : decode prog_1_method_66_code 10 = .ok (.dup, 1) := by decide +kernel
theorem d_MessageCoder_placeOf_11 : decode prog_1_method_66_code 11 = .ok (.ldc 87, 2) := by decide +kernel
theorem d_MessageCoder_placeOf_13 : decode prog_1_method_66_code 13 = .ok (.invokespecial 81, 3) := by decide +kernel
theorem d_MessageCoder_placeOf_16 : decode prog_1_method_66_code 16 = .ok (.athrow, 1) := by decide +kernel
theorem d_MessageCoder_placeOf_17 : decode prog_1_method_66_code 17 = .ok (.iload_n 0, 1) := by decide +kernel
theorem d_MessageCoder_placeOf_18 : decode prog_1_method_66_code 18 = .ok (.bipush 97, 2) := by decide +kernel
theorem d_MessageCoder_placeOf_20 : decode prog_1_method_66_code 20 = .ok (.isub, 1) := by decide +kernel
theorem d_MessageCoder_placeOf_21 : decode prog_1_method_66_code 21 = .ok (.ireturn, 1) := by decide +kernel
set_option maxHeartbeats 4000000 in
set_option maxRecDepth 20000 in
theorem c_MessageCoder_placeOf {P : xP} {F : xF} {z : Nat} {c : Nat}  (hZx : xZx P) (hcb : c < 65536) : xMx P xy_MessageCoder_placeOf [.int (nI (c))] F (z) 1 6 (fun r9 F9 z9 => r9 = some (.int (nI (c - 97))) ∧ F9 = F ∧ z9 = z ∧ (97 ≤ c ∧ c < 105)) (fun E9 F9 z9 => (E9 = "java/lang/IllegalArgumentException" ∧ F9 = F ∧ (¬ (97 ≤ c ∧ c < 105)))) := by
  refine xMx_i .int rfl (Nat.le_of_ble_eq_true rfl) (L0 := [some (.int (nI (c)))]) rfl rfl fun Θ hC hR hret => ?_
  refine x_iload_n hC d_MessageCoder_placeOf_0 rfl rfl ?_
  refine x_callS hC ks_MessageCoder_225 (c_MessageCoder_isSymbol (hcb := by omega)) (by decide) rfl rfl rfl (Nat.le_of_ble_eq_true rfl) (by decide) d_MessageCoder_placeOf_1 (fun r9 F9 z9 hp9 => ?_)
  obtain ⟨rfl, h9b, h9c⟩ := hp9
  rw [h9b, h9c]
  clear h9b h9c F9 z9
  refine x_ifB_ne hC d_MessageCoder_placeOf_4 (tgt := 17) (by decide) (fun c_4 => ?_) (fun c_4 => ?_)
  · skip
    refine x_iload_n hC d_MessageCoder_placeOf_17 rfl rfl ?_
    refine x_bipush hC d_MessageCoder_placeOf_18 (v := nI 97) (by decide) ?_
    refine x_isub hC d_MessageCoder_placeOf_20 (v := (nI (c - 97))) (pk_sub (by omega)) ?_
    exact hret _ _ _ _ _ _ _ d_MessageCoder_placeOf_21 (by decide) (by decide) rfl (⟨rfl, rfl, rfl, c_4⟩)
  · skip
    refine x_thr hC hR hZx (xtw2_IllegalArgumentException _ _ xsr_87) rfl (Nat.le_of_ble_eq_true rfl) (by decide) (by decide) d_MessageCoder_placeOf_7 d_MessageCoder_placeOf_10 d_MessageCoder_placeOf_11 d_MessageCoder_placeOf_13 d_MessageCoder_placeOf_16 (fun z9 hz9 => ?_)
    exact ⟨rfl, rfl, c_4⟩

theorem d_MessageCoder_weightOf_0 : decode prog_1_method_12_code 0 = .ok (.aload_n 0, 1) := by decide +kernel
theorem d_MessageCoder_weightOf_1 : decode prog_1_method_12_code 1 = .ok (.getfield 12, 3) := by decide +kernel
theorem d_MessageCoder_weightOf_4 : decode prog_1_method_12_code 4 = .ok (.getfield 136, 3) := by decide +kernel
theorem d_MessageCoder_weightOf_7 : decode prog_1_method_12_code 7 = .ok (.getfield 140, 3) := by decide +kernel
theorem d_MessageCoder_weightOf_10 : decode prog_1_method_12_code 10 = .ok (.iload_n 1, 1) := by decide +kernel
theorem d_MessageCoder_weightOf_11 : decode prog_1_method_12_code 11 = .ok (.invokestatic 145, 3) := by decide +kernel
theorem d_MessageCoder_weightOf_14 : decode prog_1_method_12_code 14 = .ok (.iaload, 1) := by decide +kernel
theorem d_MessageCoder_weightOf_15 : decode prog_1_method_12_code 15 = .ok (.ireturn, 1) := by decide +kernel
set_option maxHeartbeats 4000000 in
set_option maxRecDepth 20000 in
theorem c_MessageCoder_weightOf {P : xP} {F : xF} {z : Nat} {b : Nat} {cm : cmT} {M : mcS} {c : Nat} (hM : xMC F (cm) (b) (M)) (hZx : xZx P) (hcb : c < 65536) : xMx P xy_MessageCoder_weightOf [.ref b, .int (nI (c))] F (z) 1 6 (fun r9 F9 z9 => r9 = some (.int (nI (M.1.1 (c - 97)))) ∧ F9 = F ∧ z9 = z ∧ (97 ≤ c ∧ c < 105)) (fun E9 F9 z9 => (E9 = "java/lang/IllegalArgumentException" ∧ F9 = F ∧ (¬ (97 ≤ c ∧ c < 105)))) := by
  refine xMx_i .int rfl (Nat.le_of_ble_eq_true rfl) (L0 := [some (.ref b), some (.int (nI (c)))]) rfl rfl fun Θ hC hR hret => ?_
  obtain ⟨A, S, past, ⟨pn, psg⟩, ⟨lnn, lsg⟩, sv, pp, un, ep, fc⟩ := M
  obtain ⟨b0, hs, hv, ⟨pf, hpa, hpf⟩, ⟨cc, pa, f1, f2, hf, K, p0, hK⟩, hin, hli, ⟨nb, fb9, hbt⟩, hrg, ⟨tn, tsg, htr⟩, ⟨cr, hcr⟩, hps⟩ := id hM
  obtain ⟨w, ⟨dn, ds⟩, ⟨k, nx, ms⟩, ⟨fk, fb, ftn, fts, fw⟩, ⟨rn, rs⟩, c1, c2, c3, c4⟩ := A
  obtain ⟨s0, h1, h2, ⟨p, m, h3, hms⟩, h4, h5⟩ := id hs
  have hms : ∀ i, i < k → m i = ms i := hms
  have b0 : F (b) = some (.inl (9, [.ref (b + 1), .ref (b + 50), .ref (b + 99), .ref (b + 100), .ref (b + 107), .ref (b + 109), .ref (b + 111), .ref (b + 122), .ref (b + 124), .int (nI (sv)), .int (nI (pp)), .int (nI (un)), .int ep, .int fc])) := b0
  have hv : xSt F (b + 50) (S) := hv
  have hpa : F (b + 99) = some (.inr (4, 9, pf)) := hpa
  have p0 : F (b + 100) = some (.inl (4, [.ref (b + 101), .ref (b + 103), .ref (b + 104), .ref (b + 105), .ref (b + 106), .int (nI (K.1)), .int (nI (cc)), .int (nI (pa)), .int (nI (f1)), .int (nI (f2)), .int (nI (hf))])) := p0
  have hK : xPk F (b + 100) (cm.2.1) (K) := hK
  have hin : xTx F (b + 101) (60) (pn) (psg) := hin
  have hli : xTx F (b + 107) (32) (lnn) (lsg) := hli
  have hbt : xBt F (b + 109) (nb) (fb9) := hbt
  have hrg : xRg F (b + 111) := hrg
  have htr : xTx F (b + 122) (16) (tn) (tsg) := htr
  have hcr : F (b + 124) = some (.inr (0, 17, fun b9 => .int (nI (cr b9)))) := hcr
  have hps : xPs F (b) (past) := hps
  have s0 : F (b + 1) = some (.inl (7, [.ref (b + 2), .ref (b + 9), .ref (b + 11), .ref (b + 37), .ref (b + 48), .int (nI (c1)), .int (nI (c2)), .int (nI (c3)), .int (nI (c4))])) := s0
  have h1 : xCd F (b + 2) (w) ((hLen w)) ((hVal (hLen w))) ((hOrd (hLen w))) ((hSum w)) := h1
  have h2 : xTx F (b + 9) (16) (dn) (ds) := h2
  have h3 : xQp F (b + 11) (k) (nx) (p) (m) := h3
  have h4 : xFr F (b + 37) (fk) (fb) (ftn) (fts) (fw) := h4
  have h5 : xTx F (b + 48) (16) (rn) (rs) := h5
  have hk8 : k ≤ 8 := h3.2.1.1
  obtain ⟨g0, ⟨ga, g1, gk1⟩, ⟨gb, g2, gk2⟩, ⟨gc, g3, gk3⟩, ⟨gd, g4, gk4⟩, ⟨g5x, ge, g5, gk5⟩, ⟨g6x, gf, g6, gk6⟩, gbd, gjs⟩ := id h1
  refine x_aload_n hC d_MessageCoder_weightOf_0 rfl rfl ?_
  refine x_getf hC kf_MessageCoder_12 b0 rfl d_MessageCoder_weightOf_1 ?_
  refine x_getf hC kf_MessageCoder_136 s0 rfl d_MessageCoder_weightOf_4 ?_
  refine x_getf hC kf_MessageCoder_140 g0 rfl d_MessageCoder_weightOf_7 ?_
  refine x_iload_n hC d_MessageCoder_weightOf_10 rfl rfl ?_
  refine x_callXS hC hR kY_MessageCoder_placeOf (x_in (x_of (xtb_2 (List.mem_of_getElem? (i := 116) (by decide +kernel)))) (by decide +kernel)) (x_in (x_of (xtb_2 (List.mem_of_getElem? (i := 117) (by decide +kernel)))) (by decide +kernel)) (c_MessageCoder_placeOf (hZx := hZx) (hcb := hcb)) (fun E9 F9 z9 hp9 => hp9) (by decide) rfl rfl rfl (Nat.le_of_ble_eq_true rfl) (by decide) d_MessageCoder_weightOf_11 (fun r9 F9 z9 hp9 => ?_)
  obtain ⟨rfl, h9b, h9c, pn0_11⟩ := hp9
  rw [h9b, h9c]
  clear h9b h9c F9 z9
  refine x_iald hC g1 (j := c - 97) ⟨rfl, by omega, by omega⟩ (x := nI (ga (c - 97))) rfl d_MessageCoder_weightOf_14 ?_
  exact hret _ _ _ _ _ _ _ d_MessageCoder_weightOf_15 (by decide) (by decide) rfl (⟨congrArg (fun q => some (Value.int (nI q))) (gk1 _ (by omega)), rfl, rfl, pn0_11⟩)

theorem d_MessageCoder_codeLength_0 : decode prog_1_method_14_code 0 = .ok (.aload_n 0, 1) := by decide +kernel
theorem d_MessageCoder_codeLength_1 : decode prog_1_method_14_code 1 = .ok (.getfield 12, 3) := by decide +kernel
theorem d_MessageCoder_codeLength_4 : decode prog_1_method_14_code 4 = .ok (.getfield 136, 3) := by decide +kernel
theorem d_MessageCoder_codeLength_7 : decode prog_1_method_14_code 7 = .ok (.getfield 153, 3) := by decide +kernel
theorem d_MessageCoder_codeLength_10 : decode prog_1_method_14_code 10 = .ok (.iload_n 1, 1) := by decide +kernel
theorem d_MessageCoder_codeLength_11 : decode prog_1_method_14_code 11 = .ok (.invokestatic 145, 3) := by decide +kernel
theorem d_MessageCoder_codeLength_14 : decode prog_1_method_14_code 14 = .ok (.iaload, 1) := by decide +kernel
theorem d_MessageCoder_codeLength_15 : decode prog_1_method_14_code 15 = .ok (.ireturn, 1) := by decide +kernel
set_option maxHeartbeats 4000000 in
set_option maxRecDepth 20000 in
theorem c_MessageCoder_codeLength {P : xP} {F : xF} {z : Nat} {b : Nat} {cm : cmT} {M : mcS} {c : Nat} (hM : xMC F (cm) (b) (M)) (hZx : xZx P) (hcb : c < 65536) : xMx P xy_MessageCoder_codeLength [.ref b, .int (nI (c))] F (z) 1 6 (fun r9 F9 z9 => r9 = some (.int (nI (hLen M.1.1 (c - 97)))) ∧ F9 = F ∧ z9 = z ∧ (97 ≤ c ∧ c < 105)) (fun E9 F9 z9 => (E9 = "java/lang/IllegalArgumentException" ∧ F9 = F ∧ (¬ (97 ≤ c ∧ c < 105)))) := by
  refine xMx_i .int rfl (Nat.le_of_ble_eq_true rfl) (L0 := [some (.ref b), some (.int (nI (c)))]) rfl rfl fun Θ hC hR hret => ?_
  obtain ⟨A, S, past, ⟨pn, psg⟩, ⟨lnn, lsg⟩, sv, pp, un, ep, fc⟩ := M
  obtain ⟨b0, hs, hv, ⟨pf, hpa, hpf⟩, ⟨cc, pa, f1, f2, hf, K, p0, hK⟩, hin, hli, ⟨nb, fb9, hbt⟩, hrg, ⟨tn, tsg, htr⟩, ⟨cr, hcr⟩, hps⟩ := id hM
  obtain ⟨w, ⟨dn, ds⟩, ⟨k, nx, ms⟩, ⟨fk, fb, ftn, fts, fw⟩, ⟨rn, rs⟩, c1, c2, c3, c4⟩ := A
  obtain ⟨s0, h1, h2, ⟨p, m, h3, hms⟩, h4, h5⟩ := id hs
  have hms : ∀ i, i < k → m i = ms i := hms
  have b0 : F (b) = some (.inl (9, [.ref (b + 1), .ref (b + 50), .ref (b + 99), .ref (b + 100), .ref (b + 107), .ref (b + 109), .ref (b + 111), .ref (b + 122), .ref (b + 124), .int (nI (sv)), .int (nI (pp)), .int (nI (un)), .int ep, .int fc])) := b0
  have hv : xSt F (b + 50) (S) := hv
  have hpa : F (b + 99) = some (.inr (4, 9, pf)) := hpa
  have p0 : F (b + 100) = some (.inl (4, [.ref (b + 101), .ref (b + 103), .ref (b + 104), .ref (b + 105), .ref (b + 106), .int (nI (K.1)), .int (nI (cc)), .int (nI (pa)), .int (nI (f1)), .int (nI (f2)), .int (nI (hf))])) := p0
  have hK : xPk F (b + 100) (cm.2.1) (K) := hK
  have hin : xTx F (b + 101) (60) (pn) (psg) := hin
  have hli : xTx F (b + 107) (32) (lnn) (lsg) := hli
  have hbt : xBt F (b + 109) (nb) (fb9) := hbt
  have hrg : xRg F (b + 111) := hrg
  have htr : xTx F (b + 122) (16) (tn) (tsg) := htr
  have hcr : F (b + 124) = some (.inr (0, 17, fun b9 => .int (nI (cr b9)))) := hcr
  have hps : xPs F (b) (past) := hps
  have s0 : F (b + 1) = some (.inl (7, [.ref (b + 2), .ref (b + 9), .ref (b + 11), .ref (b + 37), .ref (b + 48), .int (nI (c1)), .int (nI (c2)), .int (nI (c3)), .int (nI (c4))])) := s0
  have h1 : xCd F (b + 2) (w) ((hLen w)) ((hVal (hLen w))) ((hOrd (hLen w))) ((hSum w)) := h1
  have h2 : xTx F (b + 9) (16) (dn) (ds) := h2
  have h3 : xQp F (b + 11) (k) (nx) (p) (m) := h3
  have h4 : xFr F (b + 37) (fk) (fb) (ftn) (fts) (fw) := h4
  have h5 : xTx F (b + 48) (16) (rn) (rs) := h5
  have hk8 : k ≤ 8 := h3.2.1.1
  obtain ⟨g0, ⟨ga, g1, gk1⟩, ⟨gb, g2, gk2⟩, ⟨gc, g3, gk3⟩, ⟨gd, g4, gk4⟩, ⟨g5x, ge, g5, gk5⟩, ⟨g6x, gf, g6, gk6⟩, gbd, gjs⟩ := id h1
  refine x_aload_n hC d_MessageCoder_codeLength_0 rfl rfl ?_
  refine x_getf hC kf_MessageCoder_12 b0 rfl d_MessageCoder_codeLength_1 ?_
  refine x_getf hC kf_MessageCoder_136 s0 rfl d_MessageCoder_codeLength_4 ?_
  refine x_getf hC kf_MessageCoder_153 g0 rfl d_MessageCoder_codeLength_7 ?_
  refine x_iload_n hC d_MessageCoder_codeLength_10 rfl rfl ?_
  refine x_callXS hC hR kY_MessageCoder_placeOf (x_in (x_of (xtb_2 (List.mem_of_getElem? (i := 116) (by decide +kernel)))) (by decide +kernel)) (x_in (x_of (xtb_2 (List.mem_of_getElem? (i := 117) (by decide +kernel)))) (by decide +kernel)) (c_MessageCoder_placeOf (hZx := hZx) (hcb := hcb)) (fun E9 F9 z9 hp9 => hp9) (by decide) rfl rfl rfl (Nat.le_of_ble_eq_true rfl) (by decide) d_MessageCoder_codeLength_11 (fun r9 F9 z9 hp9 => ?_)
  obtain ⟨rfl, h9b, h9c, pn0_11⟩ := hp9
  rw [h9b, h9c]
  clear h9b h9c F9 z9
  refine x_iald hC g2 (j := c - 97) ⟨rfl, by omega, by omega⟩ (x := nI (gb (c - 97))) rfl d_MessageCoder_codeLength_14 ?_
  exact hret _ _ _ _ _ _ _ d_MessageCoder_codeLength_15 (by decide) (by decide) rfl (⟨congrArg (fun q => some (Value.int (nI q))) (gk2 _ (by omega)), rfl, rfl, pn0_11⟩)

theorem d_MessageCoder_codeValue_0 : decode prog_1_method_15_code 0 = .ok (.aload_n 0, 1) := by decide +kernel
theorem d_MessageCoder_codeValue_1 : decode prog_1_method_15_code 1 = .ok (.getfield 12, 3) := by decide +kernel
theorem d_MessageCoder_codeValue_4 : decode prog_1_method_15_code 4 = .ok (.getfield 136, 3) := by decide +kernel
theorem d_MessageCoder_codeValue_7 : decode prog_1_method_15_code 7 = .ok (.getfield 156, 3) := by decide +kernel
theorem d_MessageCoder_codeValue_10 : decode prog_1_method_15_code 10 = .ok (.iload_n 1, 1) := by decide +kernel
theorem d_MessageCoder_codeValue_11 : decode prog_1_method_15_code 11 = .ok (.invokestatic 145, 3) := by decide +kernel
theorem d_MessageCoder_codeValue_14 : decode prog_1_method_15_code 14 = .ok (.iaload, 1) := by decide +kernel
theorem d_MessageCoder_codeValue_15 : decode prog_1_method_15_code 15 = .ok (.ireturn, 1) := by decide +kernel
set_option maxHeartbeats 4000000 in
set_option maxRecDepth 20000 in
theorem c_MessageCoder_codeValue {P : xP} {F : xF} {z : Nat} {b : Nat} {cm : cmT} {M : mcS} {c : Nat} (hM : xMC F (cm) (b) (M)) (hZx : xZx P) (hcb : c < 65536) : xMx P xy_MessageCoder_codeValue [.ref b, .int (nI (c))] F (z) 1 6 (fun r9 F9 z9 => r9 = some (.int (nI (hVal (hLen M.1.1) (c - 97)))) ∧ F9 = F ∧ z9 = z ∧ (97 ≤ c ∧ c < 105)) (fun E9 F9 z9 => (E9 = "java/lang/IllegalArgumentException" ∧ F9 = F ∧ (¬ (97 ≤ c ∧ c < 105)))) := by
  refine xMx_i .int rfl (Nat.le_of_ble_eq_true rfl) (L0 := [some (.ref b), some (.int (nI (c)))]) rfl rfl fun Θ hC hR hret => ?_
  obtain ⟨A, S, past, ⟨pn, psg⟩, ⟨lnn, lsg⟩, sv, pp, un, ep, fc⟩ := M
  obtain ⟨b0, hs, hv, ⟨pf, hpa, hpf⟩, ⟨cc, pa, f1, f2, hf, K, p0, hK⟩, hin, hli, ⟨nb, fb9, hbt⟩, hrg, ⟨tn, tsg, htr⟩, ⟨cr, hcr⟩, hps⟩ := id hM
  obtain ⟨w, ⟨dn, ds⟩, ⟨k, nx, ms⟩, ⟨fk, fb, ftn, fts, fw⟩, ⟨rn, rs⟩, c1, c2, c3, c4⟩ := A
  obtain ⟨s0, h1, h2, ⟨p, m, h3, hms⟩, h4, h5⟩ := id hs
  have hms : ∀ i, i < k → m i = ms i := hms
  have b0 : F (b) = some (.inl (9, [.ref (b + 1), .ref (b + 50), .ref (b + 99), .ref (b + 100), .ref (b + 107), .ref (b + 109), .ref (b + 111), .ref (b + 122), .ref (b + 124), .int (nI (sv)), .int (nI (pp)), .int (nI (un)), .int ep, .int fc])) := b0
  have hv : xSt F (b + 50) (S) := hv
  have hpa : F (b + 99) = some (.inr (4, 9, pf)) := hpa
  have p0 : F (b + 100) = some (.inl (4, [.ref (b + 101), .ref (b + 103), .ref (b + 104), .ref (b + 105), .ref (b + 106), .int (nI (K.1)), .int (nI (cc)), .int (nI (pa)), .int (nI (f1)), .int (nI (f2)), .int (nI (hf))])) := p0
  have hK : xPk F (b + 100) (cm.2.1) (K) := hK
  have hin : xTx F (b + 101) (60) (pn) (psg) := hin
  have hli : xTx F (b + 107) (32) (lnn) (lsg) := hli
  have hbt : xBt F (b + 109) (nb) (fb9) := hbt
  have hrg : xRg F (b + 111) := hrg
  have htr : xTx F (b + 122) (16) (tn) (tsg) := htr
  have hcr : F (b + 124) = some (.inr (0, 17, fun b9 => .int (nI (cr b9)))) := hcr
  have hps : xPs F (b) (past) := hps
  have s0 : F (b + 1) = some (.inl (7, [.ref (b + 2), .ref (b + 9), .ref (b + 11), .ref (b + 37), .ref (b + 48), .int (nI (c1)), .int (nI (c2)), .int (nI (c3)), .int (nI (c4))])) := s0
  have h1 : xCd F (b + 2) (w) ((hLen w)) ((hVal (hLen w))) ((hOrd (hLen w))) ((hSum w)) := h1
  have h2 : xTx F (b + 9) (16) (dn) (ds) := h2
  have h3 : xQp F (b + 11) (k) (nx) (p) (m) := h3
  have h4 : xFr F (b + 37) (fk) (fb) (ftn) (fts) (fw) := h4
  have h5 : xTx F (b + 48) (16) (rn) (rs) := h5
  have hk8 : k ≤ 8 := h3.2.1.1
  obtain ⟨g0, ⟨ga, g1, gk1⟩, ⟨gb, g2, gk2⟩, ⟨gc, g3, gk3⟩, ⟨gd, g4, gk4⟩, ⟨g5x, ge, g5, gk5⟩, ⟨g6x, gf, g6, gk6⟩, gbd, gjs⟩ := id h1
  refine x_aload_n hC d_MessageCoder_codeValue_0 rfl rfl ?_
  refine x_getf hC kf_MessageCoder_12 b0 rfl d_MessageCoder_codeValue_1 ?_
  refine x_getf hC kf_MessageCoder_136 s0 rfl d_MessageCoder_codeValue_4 ?_
  refine x_getf hC kf_MessageCoder_156 g0 rfl d_MessageCoder_codeValue_7 ?_
  refine x_iload_n hC d_MessageCoder_codeValue_10 rfl rfl ?_
  refine x_callXS hC hR kY_MessageCoder_placeOf (x_in (x_of (xtb_2 (List.mem_of_getElem? (i := 116) (by decide +kernel)))) (by decide +kernel)) (x_in (x_of (xtb_2 (List.mem_of_getElem? (i := 117) (by decide +kernel)))) (by decide +kernel)) (c_MessageCoder_placeOf (hZx := hZx) (hcb := hcb)) (fun E9 F9 z9 hp9 => hp9) (by decide) rfl rfl rfl (Nat.le_of_ble_eq_true rfl) (by decide) d_MessageCoder_codeValue_11 (fun r9 F9 z9 hp9 => ?_)
  obtain ⟨rfl, h9b, h9c, pn0_11⟩ := hp9
  rw [h9b, h9c]
  clear h9b h9c F9 z9
  refine x_iald hC g3 (j := c - 97) ⟨rfl, by omega, by omega⟩ (x := nI (gc (c - 97))) rfl d_MessageCoder_codeValue_14 ?_
  exact hret _ _ _ _ _ _ _ d_MessageCoder_codeValue_15 (by decide) (by decide) rfl (⟨congrArg (fun q => some (Value.int (nI q))) (gk3 _ (by omega)), rfl, rfl, pn0_11⟩)

theorem d_MessageCoder_totalWeight_0 : decode prog_1_method_13_code 0 = .ok (.aload_n 0, 1) := by decide +kernel
theorem d_MessageCoder_totalWeight_1 : decode prog_1_method_13_code 1 = .ok (.getfield 12, 3) := by decide +kernel
theorem d_MessageCoder_totalWeight_4 : decode prog_1_method_13_code 4 = .ok (.getfield 136, 3) := by decide +kernel
theorem d_MessageCoder_totalWeight_7 : decode prog_1_method_13_code 7 = .ok (.invokevirtual 149, 3) := by decide +kernel
theorem d_MessageCoder_totalWeight_10 : decode prog_1_method_13_code 10 = .ok (.ireturn, 1) := by decide +kernel
set_option maxHeartbeats 4000000 in
set_option maxRecDepth 20000 in
theorem c_MessageCoder_totalWeight {P : xP} {F : xF} {z : Nat} {b : Nat} {cm : cmT} {M : mcS} (hM : xMC F (cm) (b) (M))  : xM P xy_MessageCoder_totalWeight [.ref b] F (z) 0 0 (fun r9 F9 z9 => r9 = some (.int (nI (sumN M.1.1 8))) ∧ F9 = F ∧ z9 = z) := by
  refine xM_i .int rfl (Nat.le_of_ble_eq_true rfl) (L0 := [some (.ref b)]) rfl rfl fun Θ hC hret => ?_
  obtain ⟨A, S, past, ⟨pn, psg⟩, ⟨lnn, lsg⟩, sv, pp, un, ep, fc⟩ := M
  obtain ⟨b0, hs, hv, ⟨pf, hpa, hpf⟩, ⟨cc, pa, f1, f2, hf, K, p0, hK⟩, hin, hli, ⟨nb, fb9, hbt⟩, hrg, ⟨tn, tsg, htr⟩, ⟨cr, hcr⟩, hps⟩ := id hM
  obtain ⟨w, ⟨dn, ds⟩, ⟨k, nx, ms⟩, ⟨fk, fb, ftn, fts, fw⟩, ⟨rn, rs⟩, c1, c2, c3, c4⟩ := A
  obtain ⟨s0, h1, h2, ⟨p, m, h3, hms⟩, h4, h5⟩ := id hs
  have hms : ∀ i, i < k → m i = ms i := hms
  have b0 : F (b) = some (.inl (9, [.ref (b + 1), .ref (b + 50), .ref (b + 99), .ref (b + 100), .ref (b + 107), .ref (b + 109), .ref (b + 111), .ref (b + 122), .ref (b + 124), .int (nI (sv)), .int (nI (pp)), .int (nI (un)), .int ep, .int fc])) := b0
  have hv : xSt F (b + 50) (S) := hv
  have hpa : F (b + 99) = some (.inr (4, 9, pf)) := hpa
  have p0 : F (b + 100) = some (.inl (4, [.ref (b + 101), .ref (b + 103), .ref (b + 104), .ref (b + 105), .ref (b + 106), .int (nI (K.1)), .int (nI (cc)), .int (nI (pa)), .int (nI (f1)), .int (nI (f2)), .int (nI (hf))])) := p0
  have hK : xPk F (b + 100) (cm.2.1) (K) := hK
  have hin : xTx F (b + 101) (60) (pn) (psg) := hin
  have hli : xTx F (b + 107) (32) (lnn) (lsg) := hli
  have hbt : xBt F (b + 109) (nb) (fb9) := hbt
  have hrg : xRg F (b + 111) := hrg
  have htr : xTx F (b + 122) (16) (tn) (tsg) := htr
  have hcr : F (b + 124) = some (.inr (0, 17, fun b9 => .int (nI (cr b9)))) := hcr
  have hps : xPs F (b) (past) := hps
  have s0 : F (b + 1) = some (.inl (7, [.ref (b + 2), .ref (b + 9), .ref (b + 11), .ref (b + 37), .ref (b + 48), .int (nI (c1)), .int (nI (c2)), .int (nI (c3)), .int (nI (c4))])) := s0
  have h1 : xCd F (b + 2) (w) ((hLen w)) ((hVal (hLen w))) ((hOrd (hLen w))) ((hSum w)) := h1
  have h2 : xTx F (b + 9) (16) (dn) (ds) := h2
  have h3 : xQp F (b + 11) (k) (nx) (p) (m) := h3
  have h4 : xFr F (b + 37) (fk) (fb) (ftn) (fts) (fw) := h4
  have h5 : xTx F (b + 48) (16) (rn) (rs) := h5
  have hk8 : k ≤ 8 := h3.2.1.1
  refine x_aload_n hC d_MessageCoder_totalWeight_0 rfl rfl ?_
  refine x_getf hC kf_MessageCoder_12 b0 rfl d_MessageCoder_totalWeight_1 ?_
  refine x_getf hC kf_MessageCoder_136 s0 rfl d_MessageCoder_totalWeight_4 ?_
  refine x_callV hC kv_MessageCoder_149 (c_Code_weightSum (hc := h1)) h1.1 rfl rfl (by decide) rfl rfl rfl (Nat.le_of_ble_eq_true rfl) (by decide) d_MessageCoder_totalWeight_7 (fun r9 F9 z9 hp9 => ?_)
  obtain ⟨rfl, h9b, h9c⟩ := hp9
  rw [h9b, h9c]
  clear h9b h9c F9 z9
  exact hret _ _ _ _ _ _ _ d_MessageCoder_totalWeight_10 (by decide) (by decide) rfl (⟨rfl, rfl, rfl⟩)

theorem d_MessageCoder_longestCode_0 : decode prog_1_method_17_code 0 = .ok (.aload_n 0, 1) := by decide +kernel
theorem d_MessageCoder_longestCode_1 : decode prog_1_method_17_code 1 = .ok (.getfield 12, 3) := by decide +kernel
theorem d_MessageCoder_longestCode_4 : decode prog_1_method_17_code 4 = .ok (.getfield 136, 3) := by decide +kernel
theorem d_MessageCoder_longestCode_7 : decode prog_1_method_17_code 7 = .ok (.invokevirtual 164, 3) := by decide +kernel
theorem d_MessageCoder_longestCode_10 : decode prog_1_method_17_code 10 = .ok (.ireturn, 1) := by decide +kernel
set_option maxHeartbeats 4000000 in
set_option maxRecDepth 20000 in
theorem c_MessageCoder_longestCode {P : xP} {F : xF} {z : Nat} {b : Nat} {cm : cmT} {M : mcS} (hM : xMC F (cm) (b) (M))  : xM P xy_MessageCoder_longestCode [.ref b] F (z) 0 0 (fun r9 F9 z9 => r9 = some (.int (nI (maxN (hLen M.1.1) 8))) ∧ F9 = F ∧ z9 = z) := by
  refine xM_i .int rfl (Nat.le_of_ble_eq_true rfl) (L0 := [some (.ref b)]) rfl rfl fun Θ hC hret => ?_
  obtain ⟨A, S, past, ⟨pn, psg⟩, ⟨lnn, lsg⟩, sv, pp, un, ep, fc⟩ := M
  obtain ⟨b0, hs, hv, ⟨pf, hpa, hpf⟩, ⟨cc, pa, f1, f2, hf, K, p0, hK⟩, hin, hli, ⟨nb, fb9, hbt⟩, hrg, ⟨tn, tsg, htr⟩, ⟨cr, hcr⟩, hps⟩ := id hM
  obtain ⟨w, ⟨dn, ds⟩, ⟨k, nx, ms⟩, ⟨fk, fb, ftn, fts, fw⟩, ⟨rn, rs⟩, c1, c2, c3, c4⟩ := A
  obtain ⟨s0, h1, h2, ⟨p, m, h3, hms⟩, h4, h5⟩ := id hs
  have hms : ∀ i, i < k → m i = ms i := hms
  have b0 : F (b) = some (.inl (9, [.ref (b + 1), .ref (b + 50), .ref (b + 99), .ref (b + 100), .ref (b + 107), .ref (b + 109), .ref (b + 111), .ref (b + 122), .ref (b + 124), .int (nI (sv)), .int (nI (pp)), .int (nI (un)), .int ep, .int fc])) := b0
  have hv : xSt F (b + 50) (S) := hv
  have hpa : F (b + 99) = some (.inr (4, 9, pf)) := hpa
  have p0 : F (b + 100) = some (.inl (4, [.ref (b + 101), .ref (b + 103), .ref (b + 104), .ref (b + 105), .ref (b + 106), .int (nI (K.1)), .int (nI (cc)), .int (nI (pa)), .int (nI (f1)), .int (nI (f2)), .int (nI (hf))])) := p0
  have hK : xPk F (b + 100) (cm.2.1) (K) := hK
  have hin : xTx F (b + 101) (60) (pn) (psg) := hin
  have hli : xTx F (b + 107) (32) (lnn) (lsg) := hli
  have hbt : xBt F (b + 109) (nb) (fb9) := hbt
  have hrg : xRg F (b + 111) := hrg
  have htr : xTx F (b + 122) (16) (tn) (tsg) := htr
  have hcr : F (b + 124) = some (.inr (0, 17, fun b9 => .int (nI (cr b9)))) := hcr
  have hps : xPs F (b) (past) := hps
  have s0 : F (b + 1) = some (.inl (7, [.ref (b + 2), .ref (b + 9), .ref (b + 11), .ref (b + 37), .ref (b + 48), .int (nI (c1)), .int (nI (c2)), .int (nI (c3)), .int (nI (c4))])) := s0
  have h1 : xCd F (b + 2) (w) ((hLen w)) ((hVal (hLen w))) ((hOrd (hLen w))) ((hSum w)) := h1
  have h2 : xTx F (b + 9) (16) (dn) (ds) := h2
  have h3 : xQp F (b + 11) (k) (nx) (p) (m) := h3
  have h4 : xFr F (b + 37) (fk) (fb) (ftn) (fts) (fw) := h4
  have h5 : xTx F (b + 48) (16) (rn) (rs) := h5
  have hk8 : k ≤ 8 := h3.2.1.1
  refine x_aload_n hC d_MessageCoder_longestCode_0 rfl rfl ?_
  refine x_getf hC kf_MessageCoder_12 b0 rfl d_MessageCoder_longestCode_1 ?_
  refine x_getf hC kf_MessageCoder_136 s0 rfl d_MessageCoder_longestCode_4 ?_
  refine x_callV hC kv_MessageCoder_164 (c_Code_longest (hc := h1)) h1.1 rfl rfl (by decide) rfl rfl rfl (Nat.le_of_ble_eq_true rfl) (by decide) d_MessageCoder_longestCode_7 (fun r9 F9 z9 hp9 => ?_)
  obtain ⟨rfl, h9b, h9c⟩ := hp9
  rw [h9b, h9c]
  clear h9b h9c F9 z9
  exact hret _ _ _ _ _ _ _ d_MessageCoder_longestCode_10 (by decide) (by decide) rfl (⟨rfl, rfl, rfl⟩)

theorem d_MessageCoder_cost_0 : decode prog_1_method_18_code 0 = .ok (.aload_n 0, 1) := by decide +kernel
theorem d_MessageCoder_cost_1 : decode prog_1_method_18_code 1 = .ok (.getfield 12, 3) := by decide +kernel
theorem d_MessageCoder_cost_4 : decode prog_1_method_18_code 4 = .ok (.getfield 136, 3) := by decide +kernel
theorem d_MessageCoder_cost_7 : decode prog_1_method_18_code 7 = .ok (.getfield 167, 3) := by decide +kernel
theorem d_MessageCoder_cost_10 : decode prog_1_method_18_code 10 = .ok (.ireturn, 1) := by decide +kernel
set_option maxHeartbeats 4000000 in
set_option maxRecDepth 20000 in
theorem c_MessageCoder_cost {P : xP} {F : xF} {z : Nat} {b : Nat} {cm : cmT} {M : mcS} (hM : xMC F (cm) (b) (M))  : xM P xy_MessageCoder_cost [.ref b] F (z) 0 0 (fun r9 F9 z9 => r9 = some (.int (nI (hSum M.1.1))) ∧ F9 = F ∧ z9 = z) := by
  refine xM_i .int rfl (Nat.le_of_ble_eq_true rfl) (L0 := [some (.ref b)]) rfl rfl fun Θ hC hret => ?_
  obtain ⟨A, S, past, ⟨pn, psg⟩, ⟨lnn, lsg⟩, sv, pp, un, ep, fc⟩ := M
  obtain ⟨b0, hs, hv, ⟨pf, hpa, hpf⟩, ⟨cc, pa, f1, f2, hf, K, p0, hK⟩, hin, hli, ⟨nb, fb9, hbt⟩, hrg, ⟨tn, tsg, htr⟩, ⟨cr, hcr⟩, hps⟩ := id hM
  obtain ⟨w, ⟨dn, ds⟩, ⟨k, nx, ms⟩, ⟨fk, fb, ftn, fts, fw⟩, ⟨rn, rs⟩, c1, c2, c3, c4⟩ := A
  obtain ⟨s0, h1, h2, ⟨p, m, h3, hms⟩, h4, h5⟩ := id hs
  have hms : ∀ i, i < k → m i = ms i := hms
  have b0 : F (b) = some (.inl (9, [.ref (b + 1), .ref (b + 50), .ref (b + 99), .ref (b + 100), .ref (b + 107), .ref (b + 109), .ref (b + 111), .ref (b + 122), .ref (b + 124), .int (nI (sv)), .int (nI (pp)), .int (nI (un)), .int ep, .int fc])) := b0
  have hv : xSt F (b + 50) (S) := hv
  have hpa : F (b + 99) = some (.inr (4, 9, pf)) := hpa
  have p0 : F (b + 100) = some (.inl (4, [.ref (b + 101), .ref (b + 103), .ref (b + 104), .ref (b + 105), .ref (b + 106), .int (nI (K.1)), .int (nI (cc)), .int (nI (pa)), .int (nI (f1)), .int (nI (f2)), .int (nI (hf))])) := p0
  have hK : xPk F (b + 100) (cm.2.1) (K) := hK
  have hin : xTx F (b + 101) (60) (pn) (psg) := hin
  have hli : xTx F (b + 107) (32) (lnn) (lsg) := hli
  have hbt : xBt F (b + 109) (nb) (fb9) := hbt
  have hrg : xRg F (b + 111) := hrg
  have htr : xTx F (b + 122) (16) (tn) (tsg) := htr
  have hcr : F (b + 124) = some (.inr (0, 17, fun b9 => .int (nI (cr b9)))) := hcr
  have hps : xPs F (b) (past) := hps
  have s0 : F (b + 1) = some (.inl (7, [.ref (b + 2), .ref (b + 9), .ref (b + 11), .ref (b + 37), .ref (b + 48), .int (nI (c1)), .int (nI (c2)), .int (nI (c3)), .int (nI (c4))])) := s0
  have h1 : xCd F (b + 2) (w) ((hLen w)) ((hVal (hLen w))) ((hOrd (hLen w))) ((hSum w)) := h1
  have h2 : xTx F (b + 9) (16) (dn) (ds) := h2
  have h3 : xQp F (b + 11) (k) (nx) (p) (m) := h3
  have h4 : xFr F (b + 37) (fk) (fb) (ftn) (fts) (fw) := h4
  have h5 : xTx F (b + 48) (16) (rn) (rs) := h5
  have hk8 : k ≤ 8 := h3.2.1.1
  obtain ⟨g0, ⟨ga, g1, gk1⟩, ⟨gb, g2, gk2⟩, ⟨gc, g3, gk3⟩, ⟨gd, g4, gk4⟩, ⟨g5x, ge, g5, gk5⟩, ⟨g6x, gf, g6, gk6⟩, gbd, gjs⟩ := id h1
  refine x_aload_n hC d_MessageCoder_cost_0 rfl rfl ?_
  refine x_getf hC kf_MessageCoder_12 b0 rfl d_MessageCoder_cost_1 ?_
  refine x_getf hC kf_MessageCoder_136 s0 rfl d_MessageCoder_cost_4 ?_
  refine x_getf hC kf_MessageCoder_167 g0 rfl d_MessageCoder_cost_7 ?_
  exact hret _ _ _ _ _ _ _ d_MessageCoder_cost_10 (by decide) (by decide) rfl (⟨rfl, rfl, rfl⟩)

theorem d_MessageCoder_isComplete_0 : decode prog_1_method_20_code 0 = .ok (.aload_n 0, 1) := by decide +kernel
theorem d_MessageCoder_isComplete_1 : decode prog_1_method_20_code 1 = .ok (.getfield 12, 3) := by decide +kernel
theorem d_MessageCoder_isComplete_4 : decode prog_1_method_20_code 4 = .ok (.getfield 136, 3) := by decide +kernel
theorem d_MessageCoder_isComplete_7 : decode prog_1_method_20_code 7 = .ok (.invokevirtual 174, 3) := by decide +kernel
theorem d_MessageCoder_isComplete_10 : decode prog_1_method_20_code 10 = .ok (.ireturn, 1) := by decide +kernel
set_option maxHeartbeats 4000000 in
set_option maxRecDepth 20000 in
theorem c_MessageCoder_isComplete {P : xP} {F : xF} {z : Nat} {b : Nat} {cm : cmT} {M : mcS} (hM : xMC F (cm) (b) (M))  : xM P xy_MessageCoder_isComplete [.ref b] F (z) 0 0 (fun r9 F9 z9 => r9 = some (.int (nI 1)) ∧ F9 = F ∧ z9 = z) := by
  refine xM_i .boolean rfl (Nat.le_of_ble_eq_true rfl) (L0 := [some (.ref b)]) rfl rfl fun Θ hC hret => ?_
  obtain ⟨A, S, past, ⟨pn, psg⟩, ⟨lnn, lsg⟩, sv, pp, un, ep, fc⟩ := M
  obtain ⟨b0, hs, hv, ⟨pf, hpa, hpf⟩, ⟨cc, pa, f1, f2, hf, K, p0, hK⟩, hin, hli, ⟨nb, fb9, hbt⟩, hrg, ⟨tn, tsg, htr⟩, ⟨cr, hcr⟩, hps⟩ := id hM
  obtain ⟨w, ⟨dn, ds⟩, ⟨k, nx, ms⟩, ⟨fk, fb, ftn, fts, fw⟩, ⟨rn, rs⟩, c1, c2, c3, c4⟩ := A
  obtain ⟨s0, h1, h2, ⟨p, m, h3, hms⟩, h4, h5⟩ := id hs
  have hms : ∀ i, i < k → m i = ms i := hms
  have b0 : F (b) = some (.inl (9, [.ref (b + 1), .ref (b + 50), .ref (b + 99), .ref (b + 100), .ref (b + 107), .ref (b + 109), .ref (b + 111), .ref (b + 122), .ref (b + 124), .int (nI (sv)), .int (nI (pp)), .int (nI (un)), .int ep, .int fc])) := b0
  have hv : xSt F (b + 50) (S) := hv
  have hpa : F (b + 99) = some (.inr (4, 9, pf)) := hpa
  have p0 : F (b + 100) = some (.inl (4, [.ref (b + 101), .ref (b + 103), .ref (b + 104), .ref (b + 105), .ref (b + 106), .int (nI (K.1)), .int (nI (cc)), .int (nI (pa)), .int (nI (f1)), .int (nI (f2)), .int (nI (hf))])) := p0
  have hK : xPk F (b + 100) (cm.2.1) (K) := hK
  have hin : xTx F (b + 101) (60) (pn) (psg) := hin
  have hli : xTx F (b + 107) (32) (lnn) (lsg) := hli
  have hbt : xBt F (b + 109) (nb) (fb9) := hbt
  have hrg : xRg F (b + 111) := hrg
  have htr : xTx F (b + 122) (16) (tn) (tsg) := htr
  have hcr : F (b + 124) = some (.inr (0, 17, fun b9 => .int (nI (cr b9)))) := hcr
  have hps : xPs F (b) (past) := hps
  have s0 : F (b + 1) = some (.inl (7, [.ref (b + 2), .ref (b + 9), .ref (b + 11), .ref (b + 37), .ref (b + 48), .int (nI (c1)), .int (nI (c2)), .int (nI (c3)), .int (nI (c4))])) := s0
  have h1 : xCd F (b + 2) (w) ((hLen w)) ((hVal (hLen w))) ((hOrd (hLen w))) ((hSum w)) := h1
  have h2 : xTx F (b + 9) (16) (dn) (ds) := h2
  have h3 : xQp F (b + 11) (k) (nx) (p) (m) := h3
  have h4 : xFr F (b + 37) (fk) (fb) (ftn) (fts) (fw) := h4
  have h5 : xTx F (b + 48) (16) (rn) (rs) := h5
  have hk8 : k ≤ 8 := h3.2.1.1
  refine x_aload_n hC d_MessageCoder_isComplete_0 rfl rfl ?_
  refine x_getf hC kf_MessageCoder_12 b0 rfl d_MessageCoder_isComplete_1 ?_
  refine x_getf hC kf_MessageCoder_136 s0 rfl d_MessageCoder_isComplete_4 ?_
  refine x_callV hC kv_MessageCoder_174 (c_Code_fillsAll (hc := h1)) h1.1 rfl rfl (by decide) rfl rfl rfl (Nat.le_of_ble_eq_true rfl) (by decide) d_MessageCoder_isComplete_7 (fun r9 F9 z9 hp9 => ?_)
  obtain ⟨rfl, h9b, h9c⟩ := hp9
  rw [h9b, h9c]
  clear h9b h9c F9 z9
  refine x_top (v := (nI (1))) (xb_t1 (hKraft _)).symm ?_
  exact hret _ _ _ _ _ _ _ d_MessageCoder_isComplete_10 (by decide) (by decide) rfl (⟨rfl, rfl, rfl⟩)

theorem d_MessageCoder_symbolByCode_0 : decode prog_1_method_16_code 0 = .ok (.iload_n 1, 1) := by decide +kernel
theorem d_MessageCoder_symbolByCode_1 : decode prog_1_method_16_code 1 = .ok (.ifCond .lt 9, 3) := by decide +kernel
theorem d_MessageCoder_symbolByCode_4 : decode prog_1_method_16_code 4 = .ok (.iload_n 1, 1) := by decide +kernel
theorem d_MessageCoder_symbolByCode_5 : decode prog_1_method_16_code 5 = .ok (.bipush 8, 2) := by decide +kernel
theorem d_MessageCoder_symbolByCode_7 : decode prog_1_method_16_code 7 = .ok (.if_icmp .lt 13, 3) := by decide +kernel
theorem d_MessageCoder_symbolByCode_10 : decode prog_1_method_16_code 10 = .ok (.new 107, 3) := by decide +kernel
theorem d_MessageCoder_symbolByCode_13 : decode prog_1_method_16_code 13 = .ok (.dup, 1) := by decide +kernel
theorem d_MessageCoder_symbolByCode_14 : decode prog_1_method_16_code 14 = .ok (.ldc 159, 2) := by decide +kernel
theorem d_MessageCoder_symbolByCode_16 : decode prog_1_method_16_code 16 = .ok (.invokespecial 111, 3) := by decide +kernel
theorem d_MessageCoder_symbolByCode_19 : decode prog_1_method_16_code 19 = .ok (.athrow, 1) := by decide +kernel
theorem d_MessageCoder_symbolByCode_20 : decode prog_1_method_16_code 20 = .ok (.bipush 97, 2) := by decide +kernel
theorem d_MessageCoder_symbolByCode_22 : decode prog_1_method_16_code 22 = .ok (.aload_n 0, 1) := by decide +kernel
theorem d_MessageCoder_symbolByCode_23 : decode prog_1_method_16_code 23 = .ok (.getfield 12, 3) := by decide +kernel
theorem d_MessageCoder_symbolByCode_26 : decode prog_1_method_16_code 26 = .ok (.getfield 136, 3) := by decide +kernel
theorem d_MessageCoder_symbolByCode_29 : decode prog_1_method_16_code 29 = .ok (.getfield 161, 3) := by decide +kernel
theorem d_MessageCoder_symbolByCode_32 : decode prog_1_method_16_code 32 = .ok (.iload_n 1, 1) := by decide +kernel
theorem d_MessageCoder_symbolByCode_33 : decode prog_1_method_16_code 33 = .ok (.iaload, 1) := by decide +kernel
theorem d_MessageCoder_symbolByCode_34 : decode prog_1_method_16_code 34 = .ok (.iadd, 1) := by decide +kernel
theorem d_MessageCoder_symbolByCode_35 : decode prog_1_method_16_code 35 = .ok (.i2c, 1) := by decide +kernel
theorem d_MessageCoder_symbolByCode_36 : decode prog_1_method_16_code 36 = .ok (.ireturn, 1) := by decide +kernel
set_option maxHeartbeats 4000000 in
set_option maxRecDepth 20000 in
theorem c_MessageCoder_symbolByCode {P : xP} {F : xF} {z : Nat} {b : Nat} {cm : cmT} {M : mcS} {r : Int32} (hM : xMC F (cm) (b) (M)) (hZx : xZx P) : xMx P xy_MessageCoder_symbolByCode [.ref b, .int r] F (z) 1 6 (fun r9 F9 z9 => r9 = some (.int (nI (97 + hOrd (hLen M.1.1) r.toNatClampNeg))) ∧ F9 = F ∧ z9 = z ∧ (0 ≤ r ∧ r < nI 8)) (fun E9 F9 z9 => (E9 = "java/util/NoSuchElementException" ∧ F9 = F ∧ (¬ (0 ≤ r ∧ r < nI 8)))) := by
  refine xMx_i .char rfl (Nat.le_of_ble_eq_true rfl) (L0 := [some (.ref b), some (.int r)]) rfl rfl fun Θ hC hR hret => ?_
  obtain ⟨A, S, past, ⟨pn, psg⟩, ⟨lnn, lsg⟩, sv, pp, un, ep, fc⟩ := M
  obtain ⟨b0, hs, hv, ⟨pf, hpa, hpf⟩, ⟨cc, pa, f1, f2, hf, K, p0, hK⟩, hin, hli, ⟨nb, fb9, hbt⟩, hrg, ⟨tn, tsg, htr⟩, ⟨cr, hcr⟩, hps⟩ := id hM
  obtain ⟨w, ⟨dn, ds⟩, ⟨k, nx, ms⟩, ⟨fk, fb, ftn, fts, fw⟩, ⟨rn, rs⟩, c1, c2, c3, c4⟩ := A
  obtain ⟨s0, h1, h2, ⟨p, m, h3, hms⟩, h4, h5⟩ := id hs
  have hms : ∀ i, i < k → m i = ms i := hms
  have b0 : F (b) = some (.inl (9, [.ref (b + 1), .ref (b + 50), .ref (b + 99), .ref (b + 100), .ref (b + 107), .ref (b + 109), .ref (b + 111), .ref (b + 122), .ref (b + 124), .int (nI (sv)), .int (nI (pp)), .int (nI (un)), .int ep, .int fc])) := b0
  have hv : xSt F (b + 50) (S) := hv
  have hpa : F (b + 99) = some (.inr (4, 9, pf)) := hpa
  have p0 : F (b + 100) = some (.inl (4, [.ref (b + 101), .ref (b + 103), .ref (b + 104), .ref (b + 105), .ref (b + 106), .int (nI (K.1)), .int (nI (cc)), .int (nI (pa)), .int (nI (f1)), .int (nI (f2)), .int (nI (hf))])) := p0
  have hK : xPk F (b + 100) (cm.2.1) (K) := hK
  have hin : xTx F (b + 101) (60) (pn) (psg) := hin
  have hli : xTx F (b + 107) (32) (lnn) (lsg) := hli
  have hbt : xBt F (b + 109) (nb) (fb9) := hbt
  have hrg : xRg F (b + 111) := hrg
  have htr : xTx F (b + 122) (16) (tn) (tsg) := htr
  have hcr : F (b + 124) = some (.inr (0, 17, fun b9 => .int (nI (cr b9)))) := hcr
  have hps : xPs F (b) (past) := hps
  have s0 : F (b + 1) = some (.inl (7, [.ref (b + 2), .ref (b + 9), .ref (b + 11), .ref (b + 37), .ref (b + 48), .int (nI (c1)), .int (nI (c2)), .int (nI (c3)), .int (nI (c4))])) := s0
  have h1 : xCd F (b + 2) (w) ((hLen w)) ((hVal (hLen w))) ((hOrd (hLen w))) ((hSum w)) := h1
  have h2 : xTx F (b + 9) (16) (dn) (ds) := h2
  have h3 : xQp F (b + 11) (k) (nx) (p) (m) := h3
  have h4 : xFr F (b + 37) (fk) (fb) (ftn) (fts) (fw) := h4
  have h5 : xTx F (b + 48) (16) (rn) (rs) := h5
  have hk8 : k ≤ 8 := h3.2.1.1
  obtain ⟨g0, ⟨ga, g1, gk1⟩, ⟨gb, g2, gk2⟩, ⟨gc, g3, gk3⟩, ⟨gd, g4, gk4⟩, ⟨g5x, ge, g5, gk5⟩, ⟨g6x, gf, g6, gk6⟩, gbd, gjs⟩ := id h1
  refine x_iload_n hC d_MessageCoder_symbolByCode_0 rfl rfl ?_
  refine x_if_lt hC d_MessageCoder_symbolByCode_1 (tgt := 10) (by decide) (fun c_1 => ?_) (fun c_1 => ?_)
  · skip
    refine x_thrN hC hR hZx (xtw2_NoSuchElementException _ _ xsr_159) rfl (Nat.le_of_ble_eq_true rfl) (by decide) (by decide) d_MessageCoder_symbolByCode_10 d_MessageCoder_symbolByCode_13 d_MessageCoder_symbolByCode_14 d_MessageCoder_symbolByCode_16 d_MessageCoder_symbolByCode_19 (fun z9 hz9 => ?_)
    exact ⟨rfl, rfl, fun h9 => k2_nlt h9.1 c_1⟩
  · skip
    have hr0 : 0 ≤ r := k2_le c_1
    refine x_iload_n hC d_MessageCoder_symbolByCode_4 rfl rfl ?_
    refine x_bipush hC d_MessageCoder_symbolByCode_5 (v := nI 8) (by decide) ?_
    refine x_icmp_lt hC d_MessageCoder_symbolByCode_7 (tgt := 20) (by decide) (fun c_7 => ?_) (fun c_7 => ?_)
    · skip
      have hr1 := i2n_of hr0
      have hr8 : r.toNatClampNeg < 8 := i2n_lt hr0 c_7 (by decide)
      have hd9 := gk4 _ hr8
      have ho9 := (gbd _ hr8).2.2.2
      refine x_bipush hC d_MessageCoder_symbolByCode_20 (v := nI 97) (by decide) ?_
      refine x_aload_n hC d_MessageCoder_symbolByCode_22 rfl rfl ?_
      refine x_getf hC kf_MessageCoder_12 b0 rfl d_MessageCoder_symbolByCode_23 ?_
      refine x_getf hC kf_MessageCoder_136 s0 rfl d_MessageCoder_symbolByCode_26 ?_
      refine x_getf hC kf_MessageCoder_161 g0 rfl d_MessageCoder_symbolByCode_29 ?_
      refine x_iload_n hC d_MessageCoder_symbolByCode_32 rfl rfl ?_
      refine x_iald hC g4 (j := r.toNatClampNeg) ⟨hr1, hr8, by decide⟩ (x := nI (gd (r.toNatClampNeg))) rfl d_MessageCoder_symbolByCode_33 ?_
      refine x_iadd hC d_MessageCoder_symbolByCode_34 (v := (nI ((97) + (gd (r.toNatClampNeg))))) (x_addN (by omega)) ?_
      refine x_i2c hC d_MessageCoder_symbolByCode_35 (v := (nI ((97) + (gd (r.toNatClampNeg))))) (x_i2cN (by omega)) ?_
      exact hret _ _ _ _ _ _ _ d_MessageCoder_symbolByCode_36 (by decide) (by decide) (x_char _ (by omega)) (⟨congrArg (fun q => some (Value.int (nI q))) (by rw [hd9]), rfl, rfl, ⟨hr0, c_7⟩⟩)
    · skip
      refine x_thrN hC hR hZx (xtw2_NoSuchElementException _ _ xsr_159) rfl (Nat.le_of_ble_eq_true rfl) (by decide) (by decide) d_MessageCoder_symbolByCode_10 d_MessageCoder_symbolByCode_13 d_MessageCoder_symbolByCode_14 d_MessageCoder_symbolByCode_16 d_MessageCoder_symbolByCode_19 (fun z9 hz9 => ?_)
      exact ⟨rfl, rfl, fun h9 => c_7 h9.2⟩

theorem d_MessageCoder_draftLength_0 : decode prog_1_method_22_code 0 = .ok (.aload_n 0, 1) := by decide +kernel
theorem d_MessageCoder_draftLength_1 : decode prog_1_method_22_code 1 = .ok (.getfield 12, 3) := by decide +kernel
theorem d_MessageCoder_draftLength_4 : decode prog_1_method_22_code 4 = .ok (.getfield 178, 3) := by decide +kernel
theorem d_MessageCoder_draftLength_7 : decode prog_1_method_22_code 7 = .ok (.getfield 181, 3) := by decide +kernel
theorem d_MessageCoder_draftLength_10 : decode prog_1_method_22_code 10 = .ok (.ireturn, 1) := by decide +kernel
set_option maxHeartbeats 4000000 in
set_option maxRecDepth 20000 in
theorem c_MessageCoder_draftLength {P : xP} {F : xF} {z : Nat} {b : Nat} {cm : cmT} {M : mcS} (hM : xMC F (cm) (b) (M))  : xM P xy_MessageCoder_draftLength [.ref b] F (z) 0 0 (fun r9 F9 z9 => r9 = some (.int (nI (M.1.2.1.1))) ∧ F9 = F ∧ z9 = z) := by
  refine xM_i .int rfl (Nat.le_of_ble_eq_true rfl) (L0 := [some (.ref b)]) rfl rfl fun Θ hC hret => ?_
  obtain ⟨A, S, past, ⟨pn, psg⟩, ⟨lnn, lsg⟩, sv, pp, un, ep, fc⟩ := M
  obtain ⟨b0, hs, hv, ⟨pf, hpa, hpf⟩, ⟨cc, pa, f1, f2, hf, K, p0, hK⟩, hin, hli, ⟨nb, fb9, hbt⟩, hrg, ⟨tn, tsg, htr⟩, ⟨cr, hcr⟩, hps⟩ := id hM
  obtain ⟨w, ⟨dn, ds⟩, ⟨k, nx, ms⟩, ⟨fk, fb, ftn, fts, fw⟩, ⟨rn, rs⟩, c1, c2, c3, c4⟩ := A
  obtain ⟨s0, h1, h2, ⟨p, m, h3, hms⟩, h4, h5⟩ := id hs
  have hms : ∀ i, i < k → m i = ms i := hms
  have b0 : F (b) = some (.inl (9, [.ref (b + 1), .ref (b + 50), .ref (b + 99), .ref (b + 100), .ref (b + 107), .ref (b + 109), .ref (b + 111), .ref (b + 122), .ref (b + 124), .int (nI (sv)), .int (nI (pp)), .int (nI (un)), .int ep, .int fc])) := b0
  have hv : xSt F (b + 50) (S) := hv
  have hpa : F (b + 99) = some (.inr (4, 9, pf)) := hpa
  have p0 : F (b + 100) = some (.inl (4, [.ref (b + 101), .ref (b + 103), .ref (b + 104), .ref (b + 105), .ref (b + 106), .int (nI (K.1)), .int (nI (cc)), .int (nI (pa)), .int (nI (f1)), .int (nI (f2)), .int (nI (hf))])) := p0
  have hK : xPk F (b + 100) (cm.2.1) (K) := hK
  have hin : xTx F (b + 101) (60) (pn) (psg) := hin
  have hli : xTx F (b + 107) (32) (lnn) (lsg) := hli
  have hbt : xBt F (b + 109) (nb) (fb9) := hbt
  have hrg : xRg F (b + 111) := hrg
  have htr : xTx F (b + 122) (16) (tn) (tsg) := htr
  have hcr : F (b + 124) = some (.inr (0, 17, fun b9 => .int (nI (cr b9)))) := hcr
  have hps : xPs F (b) (past) := hps
  have s0 : F (b + 1) = some (.inl (7, [.ref (b + 2), .ref (b + 9), .ref (b + 11), .ref (b + 37), .ref (b + 48), .int (nI (c1)), .int (nI (c2)), .int (nI (c3)), .int (nI (c4))])) := s0
  have h1 : xCd F (b + 2) (w) ((hLen w)) ((hVal (hLen w))) ((hOrd (hLen w))) ((hSum w)) := h1
  have h2 : xTx F (b + 9) (16) (dn) (ds) := h2
  have h3 : xQp F (b + 11) (k) (nx) (p) (m) := h3
  have h4 : xFr F (b + 37) (fk) (fb) (ftn) (fts) (fw) := h4
  have h5 : xTx F (b + 48) (16) (rn) (rs) := h5
  have hk8 : k ≤ 8 := h3.2.1.1
  refine x_aload_n hC d_MessageCoder_draftLength_0 rfl rfl ?_
  refine x_getf hC kf_MessageCoder_12 b0 rfl d_MessageCoder_draftLength_1 ?_
  refine x_getf hC kf_MessageCoder_178 s0 rfl d_MessageCoder_draftLength_4 ?_
  refine x_getf hC kf_MessageCoder_181 h2.1 rfl d_MessageCoder_draftLength_7 ?_
  exact hret _ _ _ _ _ _ _ d_MessageCoder_draftLength_10 (by decide) (by decide) rfl (⟨rfl, rfl, rfl⟩)

theorem d_MessageCoder_draftAt_0 : decode prog_1_method_23_code 0 = .ok (.aload_n 0, 1) := by decide +kernel
theorem d_MessageCoder_draftAt_1 : decode prog_1_method_23_code 1 = .ok (.getfield 12, 3) := by decide +kernel
theorem d_MessageCoder_draftAt_4 : decode prog_1_method_23_code 4 = .ok (.getfield 178, 3) := by decide +kernel
theorem d_MessageCoder_draftAt_7 : decode prog_1_method_23_code 7 = .ok (.iload_n 1, 1) := by decide +kernel
theorem d_MessageCoder_draftAt_8 : decode prog_1_method_23_code 8 = .ok (.invokevirtual 184, 3) := by decide +kernel
theorem d_MessageCoder_draftAt_11 : decode prog_1_method_23_code 11 = .ok (.ifCond .ne 13, 3) := by decide +kernel
theorem d_MessageCoder_draftAt_14 : decode prog_1_method_23_code 14 = .ok (.new 126, 3) := by decide +kernel
theorem d_MessageCoder_draftAt_17 : decode prog_1_method_23_code 17 = .ok (.dup, 1) := by decide +kernel
theorem d_MessageCoder_draftAt_18 : decode prog_1_method_23_code 18 = .ok (.ldc 188, 2) := by decide +kernel
theorem d_MessageCoder_draftAt_20 : decode prog_1_method_23_code 20 = .ok (.invokespecial 130, 3) := by decide +kernel
theorem d_MessageCoder_draftAt_23 : decode prog_1_method_23_code 23 = .ok (.athrow, 1) := by decide +kernel
theorem d_MessageCoder_draftAt_24 : decode prog_1_method_23_code 24 = .ok (.aload_n 0, 1) := by decide +kernel
theorem d_MessageCoder_draftAt_25 : decode prog_1_method_23_code 25 = .ok (.getfield 12, 3) := by decide +kernel
theorem d_MessageCoder_draftAt_28 : decode prog_1_method_23_code 28 = .ok (.getfield 178, 3) := by decide +kernel
theorem d_MessageCoder_draftAt_31 : decode prog_1_method_23_code 31 = .ok (.iload_n 1, 1) := by decide +kernel
theorem d_MessageCoder_draftAt_32 : decode prog_1_method_23_code 32 = .ok (.invokevirtual 190, 3) := by decide +kernel
theorem d_MessageCoder_draftAt_35 : decode prog_1_method_23_code 35 = .ok (.ireturn, 1) := by decide +kernel
set_option maxHeartbeats 4000000 in
set_option maxRecDepth 20000 in
theorem c_MessageCoder_draftAt {P : xP} {F : xF} {z : Nat} {b : Nat} {cm : cmT} {M : mcS} {i : Int32} (hM : xMC F (cm) (b) (M)) (hZx : xZx P) : xMx P xy_MessageCoder_draftAt [.ref b, .int i] F (z) 1 6 (fun r9 F9 z9 => r9 = some (.int (nI (M.1.2.1.2 i.toNatClampNeg))) ∧ F9 = F ∧ z9 = z ∧ (0 ≤ i ∧ i < nI M.1.2.1.1)) (fun E9 F9 z9 => (E9 = "java/lang/IndexOutOfBoundsException" ∧ F9 = F ∧ (¬ (0 ≤ i ∧ i < nI M.1.2.1.1)))) := by
  refine xMx_i .char rfl (Nat.le_of_ble_eq_true rfl) (L0 := [some (.ref b), some (.int i)]) rfl rfl fun Θ hC hR hret => ?_
  obtain ⟨A, S, past, ⟨pn, psg⟩, ⟨lnn, lsg⟩, sv, pp, un, ep, fc⟩ := M
  obtain ⟨b0, hs, hv, ⟨pf, hpa, hpf⟩, ⟨cc, pa, f1, f2, hf, K, p0, hK⟩, hin, hli, ⟨nb, fb9, hbt⟩, hrg, ⟨tn, tsg, htr⟩, ⟨cr, hcr⟩, hps⟩ := id hM
  obtain ⟨w, ⟨dn, ds⟩, ⟨k, nx, ms⟩, ⟨fk, fb, ftn, fts, fw⟩, ⟨rn, rs⟩, c1, c2, c3, c4⟩ := A
  obtain ⟨s0, h1, h2, ⟨p, m, h3, hms⟩, h4, h5⟩ := id hs
  have hms : ∀ i, i < k → m i = ms i := hms
  have b0 : F (b) = some (.inl (9, [.ref (b + 1), .ref (b + 50), .ref (b + 99), .ref (b + 100), .ref (b + 107), .ref (b + 109), .ref (b + 111), .ref (b + 122), .ref (b + 124), .int (nI (sv)), .int (nI (pp)), .int (nI (un)), .int ep, .int fc])) := b0
  have hv : xSt F (b + 50) (S) := hv
  have hpa : F (b + 99) = some (.inr (4, 9, pf)) := hpa
  have p0 : F (b + 100) = some (.inl (4, [.ref (b + 101), .ref (b + 103), .ref (b + 104), .ref (b + 105), .ref (b + 106), .int (nI (K.1)), .int (nI (cc)), .int (nI (pa)), .int (nI (f1)), .int (nI (f2)), .int (nI (hf))])) := p0
  have hK : xPk F (b + 100) (cm.2.1) (K) := hK
  have hin : xTx F (b + 101) (60) (pn) (psg) := hin
  have hli : xTx F (b + 107) (32) (lnn) (lsg) := hli
  have hbt : xBt F (b + 109) (nb) (fb9) := hbt
  have hrg : xRg F (b + 111) := hrg
  have htr : xTx F (b + 122) (16) (tn) (tsg) := htr
  have hcr : F (b + 124) = some (.inr (0, 17, fun b9 => .int (nI (cr b9)))) := hcr
  have hps : xPs F (b) (past) := hps
  have s0 : F (b + 1) = some (.inl (7, [.ref (b + 2), .ref (b + 9), .ref (b + 11), .ref (b + 37), .ref (b + 48), .int (nI (c1)), .int (nI (c2)), .int (nI (c3)), .int (nI (c4))])) := s0
  have h1 : xCd F (b + 2) (w) ((hLen w)) ((hVal (hLen w))) ((hOrd (hLen w))) ((hSum w)) := h1
  have h2 : xTx F (b + 9) (16) (dn) (ds) := h2
  have h3 : xQp F (b + 11) (k) (nx) (p) (m) := h3
  have h4 : xFr F (b + 37) (fk) (fb) (ftn) (fts) (fw) := h4
  have h5 : xTx F (b + 48) (16) (rn) (rs) := h5
  have hk8 : k ≤ 8 := h3.2.1.1
  have hl9 := h2.2.1
  refine x_aload_n hC d_MessageCoder_draftAt_0 rfl rfl ?_
  refine x_getf hC kf_MessageCoder_12 b0 rfl d_MessageCoder_draftAt_1 ?_
  refine x_getf hC kf_MessageCoder_178 s0 rfl d_MessageCoder_draftAt_4 ?_
  refine x_iload_n hC d_MessageCoder_draftAt_7 rfl rfl ?_
  refine x_callV hC kv_MessageCoder_184 (c_Text_has (ht := h2)) h2.1 rfl rfl (by decide) rfl rfl rfl (Nat.le_of_ble_eq_true rfl) (by decide) d_MessageCoder_draftAt_8 (fun r9 F9 z9 hp9 => ?_)
  obtain ⟨rfl, h9b, h9c⟩ := hp9
  rw [h9b, h9c]
  clear h9b h9c F9 z9
  refine x_ifB_ne hC d_MessageCoder_draftAt_11 (tgt := 24) (by decide) (fun c_11 => ?_) (fun c_11 => ?_)
  · skip
    have hi0 := i2n_of c_11.1
    have hi1 := i2n_lt c_11.1 c_11.2 (by omega)
    refine x_aload_n hC d_MessageCoder_draftAt_24 rfl rfl ?_
    refine x_getf hC kf_MessageCoder_12 b0 rfl d_MessageCoder_draftAt_25 ?_
    refine x_getf hC kf_MessageCoder_178 s0 rfl d_MessageCoder_draftAt_28 ?_
    refine x_iload_n hC d_MessageCoder_draftAt_31 rfl rfl ?_
    refine x_top (v := (nI (i.toNatClampNeg))) hi0 ?_
    refine x_callV hC kv_MessageCoder_190 (c_Text_at (ht := h2) (hi := by omega)) h2.1 rfl rfl (by decide) rfl rfl rfl (Nat.le_of_ble_eq_true rfl) (by decide) d_MessageCoder_draftAt_32 (fun r9 F9 z9 hp9 => ?_)
    obtain ⟨rfl, h9b, h9c⟩ := hp9
    rw [h9b, h9c]
    clear h9b h9c F9 z9
    exact hret _ _ _ _ _ _ _ d_MessageCoder_draftAt_35 (by decide) (by decide) (x_char _ (by rw [if_pos hi1]; exact h2.2.2.1 _ hi1)) (⟨congrArg (fun q => some (Value.int (nI q))) (if_pos hi1), rfl, rfl, c_11⟩)
  · skip
    refine x_thr hC hR hZx (xtw2_IndexOutOfBoundsException _ _ xsr_188) rfl (Nat.le_of_ble_eq_true rfl) (by decide) (by decide) d_MessageCoder_draftAt_14 d_MessageCoder_draftAt_17 d_MessageCoder_draftAt_18 d_MessageCoder_draftAt_20 d_MessageCoder_draftAt_23 (fun z9 hz9 => ?_)
    exact ⟨rfl, rfl, c_11⟩

theorem d_MessageCoder_draftBits_0 : decode prog_1_method_24_code 0 = .ok (.aload_n 0, 1) := by decide +kernel
theorem d_MessageCoder_draftBits_1 : decode prog_1_method_24_code 1 = .ok (.getfield 12, 3) := by decide +kernel
theorem d_MessageCoder_draftBits_4 : decode prog_1_method_24_code 4 = .ok (.getfield 136, 3) := by decide +kernel
theorem d_MessageCoder_draftBits_7 : decode prog_1_method_24_code 7 = .ok (.aload_n 0, 1) := by decide +kernel
theorem d_MessageCoder_draftBits_8 : decode prog_1_method_24_code 8 = .ok (.getfield 12, 3) := by decide +kernel
theorem d_MessageCoder_draftBits_11 : decode prog_1_method_24_code 11 = .ok (.getfield 178, 3) := by decide +kernel
theorem d_MessageCoder_draftBits_14 : decode prog_1_method_24_code 14 = .ok (.invokevirtual 194, 3) := by decide +kernel
theorem d_MessageCoder_draftBits_17 : decode prog_1_method_24_code 17 = .ok (.ireturn, 1) := by decide +kernel
set_option maxHeartbeats 4000000 in
set_option maxRecDepth 20000 in
theorem c_MessageCoder_draftBits {P : xP} {F : xF} {z : Nat} {b : Nat} {cm : cmT} {M : mcS} (hM : xMC F (cm) (b) (M))  : xM P xy_MessageCoder_draftBits [.ref b] F (z) 0 0 (fun r9 F9 z9 => r9 = some (.int (nI (bitsN (hLen M.1.1) M.1.2.1.2 M.1.2.1.1))) ∧ F9 = F ∧ z9 = z) := by
  refine xM_i .int rfl (Nat.le_of_ble_eq_true rfl) (L0 := [some (.ref b)]) rfl rfl fun Θ hC hret => ?_
  obtain ⟨A, S, past, ⟨pn, psg⟩, ⟨lnn, lsg⟩, sv, pp, un, ep, fc⟩ := M
  obtain ⟨b0, hs, hv, ⟨pf, hpa, hpf⟩, ⟨cc, pa, f1, f2, hf, K, p0, hK⟩, hin, hli, ⟨nb, fb9, hbt⟩, hrg, ⟨tn, tsg, htr⟩, ⟨cr, hcr⟩, hps⟩ := id hM
  obtain ⟨w, ⟨dn, ds⟩, ⟨k, nx, ms⟩, ⟨fk, fb, ftn, fts, fw⟩, ⟨rn, rs⟩, c1, c2, c3, c4⟩ := A
  obtain ⟨s0, h1, h2, ⟨p, m, h3, hms⟩, h4, h5⟩ := id hs
  have hms : ∀ i, i < k → m i = ms i := hms
  have b0 : F (b) = some (.inl (9, [.ref (b + 1), .ref (b + 50), .ref (b + 99), .ref (b + 100), .ref (b + 107), .ref (b + 109), .ref (b + 111), .ref (b + 122), .ref (b + 124), .int (nI (sv)), .int (nI (pp)), .int (nI (un)), .int ep, .int fc])) := b0
  have hv : xSt F (b + 50) (S) := hv
  have hpa : F (b + 99) = some (.inr (4, 9, pf)) := hpa
  have p0 : F (b + 100) = some (.inl (4, [.ref (b + 101), .ref (b + 103), .ref (b + 104), .ref (b + 105), .ref (b + 106), .int (nI (K.1)), .int (nI (cc)), .int (nI (pa)), .int (nI (f1)), .int (nI (f2)), .int (nI (hf))])) := p0
  have hK : xPk F (b + 100) (cm.2.1) (K) := hK
  have hin : xTx F (b + 101) (60) (pn) (psg) := hin
  have hli : xTx F (b + 107) (32) (lnn) (lsg) := hli
  have hbt : xBt F (b + 109) (nb) (fb9) := hbt
  have hrg : xRg F (b + 111) := hrg
  have htr : xTx F (b + 122) (16) (tn) (tsg) := htr
  have hcr : F (b + 124) = some (.inr (0, 17, fun b9 => .int (nI (cr b9)))) := hcr
  have hps : xPs F (b) (past) := hps
  have s0 : F (b + 1) = some (.inl (7, [.ref (b + 2), .ref (b + 9), .ref (b + 11), .ref (b + 37), .ref (b + 48), .int (nI (c1)), .int (nI (c2)), .int (nI (c3)), .int (nI (c4))])) := s0
  have h1 : xCd F (b + 2) (w) ((hLen w)) ((hVal (hLen w))) ((hOrd (hLen w))) ((hSum w)) := h1
  have h2 : xTx F (b + 9) (16) (dn) (ds) := h2
  have h3 : xQp F (b + 11) (k) (nx) (p) (m) := h3
  have h4 : xFr F (b + 37) (fk) (fb) (ftn) (fts) (fw) := h4
  have h5 : xTx F (b + 48) (16) (rn) (rs) := h5
  have hk8 : k ≤ 8 := h3.2.1.1
  refine x_aload_n hC d_MessageCoder_draftBits_0 rfl rfl ?_
  refine x_getf hC kf_MessageCoder_12 b0 rfl d_MessageCoder_draftBits_1 ?_
  refine x_getf hC kf_MessageCoder_136 s0 rfl d_MessageCoder_draftBits_4 ?_
  refine x_aload_n hC d_MessageCoder_draftBits_7 rfl rfl ?_
  refine x_getf hC kf_MessageCoder_12 b0 rfl d_MessageCoder_draftBits_8 ?_
  refine x_getf hC kf_MessageCoder_178 s0 rfl d_MessageCoder_draftBits_11 ?_
  refine x_callV hC kv_MessageCoder_194 (c_Code_bitsFor (hc := h1) (ht := h2)) h1.1 rfl rfl (by decide) rfl rfl rfl (Nat.le_of_ble_eq_true rfl) (by decide) d_MessageCoder_draftBits_14 (fun r9 F9 z9 hp9 => ?_)
  obtain ⟨rfl, h9b, h9c⟩ := hp9
  rw [h9b, h9c]
  clear h9b h9c F9 z9
  exact hret _ _ _ _ _ _ _ d_MessageCoder_draftBits_17 (by decide) (by decide) rfl (⟨rfl, rfl, rfl⟩)

theorem d_MessageCoder_messageCount_0 : decode prog_1_method_25_code 0 = .ok (.aload_n 0, 1) := by decide +kernel
theorem d_MessageCoder_messageCount_1 : decode prog_1_method_25_code 1 = .ok (.getfield 12, 3) := by decide +kernel
theorem d_MessageCoder_messageCount_4 : decode prog_1_method_25_code 4 = .ok (.getfield 198, 3) := by decide +kernel
theorem d_MessageCoder_messageCount_7 : decode prog_1_method_25_code 7 = .ok (.getfield 202, 3) := by decide +kernel
theorem d_MessageCoder_messageCount_10 : decode prog_1_method_25_code 10 = .ok (.ireturn, 1) := by decide +kernel
set_option maxHeartbeats 4000000 in
set_option maxRecDepth 20000 in
theorem c_MessageCoder_messageCount {P : xP} {F : xF} {z : Nat} {b : Nat} {cm : cmT} {M : mcS} (hM : xMC F (cm) (b) (M))  : xM P xy_MessageCoder_messageCount [.ref b] F (z) 0 0 (fun r9 F9 z9 => r9 = some (.int (nI (M.1.2.2.1.1))) ∧ F9 = F ∧ z9 = z) := by
  refine xM_i .int rfl (Nat.le_of_ble_eq_true rfl) (L0 := [some (.ref b)]) rfl rfl fun Θ hC hret => ?_
  obtain ⟨A, S, past, ⟨pn, psg⟩, ⟨lnn, lsg⟩, sv, pp, un, ep, fc⟩ := M
  obtain ⟨b0, hs, hv, ⟨pf, hpa, hpf⟩, ⟨cc, pa, f1, f2, hf, K, p0, hK⟩, hin, hli, ⟨nb, fb9, hbt⟩, hrg, ⟨tn, tsg, htr⟩, ⟨cr, hcr⟩, hps⟩ := id hM
  obtain ⟨w, ⟨dn, ds⟩, ⟨k, nx, ms⟩, ⟨fk, fb, ftn, fts, fw⟩, ⟨rn, rs⟩, c1, c2, c3, c4⟩ := A
  obtain ⟨s0, h1, h2, ⟨p, m, h3, hms⟩, h4, h5⟩ := id hs
  have hms : ∀ i, i < k → m i = ms i := hms
  have b0 : F (b) = some (.inl (9, [.ref (b + 1), .ref (b + 50), .ref (b + 99), .ref (b + 100), .ref (b + 107), .ref (b + 109), .ref (b + 111), .ref (b + 122), .ref (b + 124), .int (nI (sv)), .int (nI (pp)), .int (nI (un)), .int ep, .int fc])) := b0
  have hv : xSt F (b + 50) (S) := hv
  have hpa : F (b + 99) = some (.inr (4, 9, pf)) := hpa
  have p0 : F (b + 100) = some (.inl (4, [.ref (b + 101), .ref (b + 103), .ref (b + 104), .ref (b + 105), .ref (b + 106), .int (nI (K.1)), .int (nI (cc)), .int (nI (pa)), .int (nI (f1)), .int (nI (f2)), .int (nI (hf))])) := p0
  have hK : xPk F (b + 100) (cm.2.1) (K) := hK
  have hin : xTx F (b + 101) (60) (pn) (psg) := hin
  have hli : xTx F (b + 107) (32) (lnn) (lsg) := hli
  have hbt : xBt F (b + 109) (nb) (fb9) := hbt
  have hrg : xRg F (b + 111) := hrg
  have htr : xTx F (b + 122) (16) (tn) (tsg) := htr
  have hcr : F (b + 124) = some (.inr (0, 17, fun b9 => .int (nI (cr b9)))) := hcr
  have hps : xPs F (b) (past) := hps
  have s0 : F (b + 1) = some (.inl (7, [.ref (b + 2), .ref (b + 9), .ref (b + 11), .ref (b + 37), .ref (b + 48), .int (nI (c1)), .int (nI (c2)), .int (nI (c3)), .int (nI (c4))])) := s0
  have h1 : xCd F (b + 2) (w) ((hLen w)) ((hVal (hLen w))) ((hOrd (hLen w))) ((hSum w)) := h1
  have h2 : xTx F (b + 9) (16) (dn) (ds) := h2
  have h3 : xQp F (b + 11) (k) (nx) (p) (m) := h3
  have h4 : xFr F (b + 37) (fk) (fb) (ftn) (fts) (fw) := h4
  have h5 : xTx F (b + 48) (16) (rn) (rs) := h5
  have hk8 : k ≤ 8 := h3.2.1.1
  refine x_aload_n hC d_MessageCoder_messageCount_0 rfl rfl ?_
  refine x_getf hC kf_MessageCoder_12 b0 rfl d_MessageCoder_messageCount_1 ?_
  refine x_getf hC kf_MessageCoder_198 s0 rfl d_MessageCoder_messageCount_4 ?_
  refine x_getf hC kf_MessageCoder_202 h3.1 rfl d_MessageCoder_messageCount_7 ?_
  exact hret _ _ _ _ _ _ _ d_MessageCoder_messageCount_10 (by decide) (by decide) rfl (⟨rfl, rfl, rfl⟩)

theorem d_MessageCoder_messageOf_0 : decode prog_1_method_67_code 0 = .ok (.aload_n 0, 1) := by decide +kernel
theorem d_MessageCoder_messageOf_1 : decode prog_1_method_67_code 1 = .ok (.getfield 12, 3) := by decide +kernel
theorem d_MessageCoder_messageOf_4 : decode prog_1_method_67_code 4 = .ok (.getfield 198, 3) := by decide +kernel
theorem d_MessageCoder_messageOf_7 : decode prog_1_method_67_code 7 = .ok (.iload_n 1, 1) := by decide +kernel
theorem d_MessageCoder_messageOf_8 : decode prog_1_method_67_code 8 = .ok (.invokevirtual 389, 3) := by decide +kernel
theorem d_MessageCoder_messageOf_11 : decode prog_1_method_67_code 11 = .ok (.astore_n 2, 1) := by decide +kernel
theorem d_MessageCoder_messageOf_12 : decode prog_1_method_67_code 12 = .ok (.aload_n 2, 1) := by decide +kernel
theorem d_MessageCoder_messageOf_13 : decode prog_1_method_67_code 13 = .ok (.ifnonnull 13, 3) := by decide +kernel
theorem d_MessageCoder_messageOf_16 : decode prog_1_method_67_code 16 = .ok (.new 107, 3) := by decide +kernel
theorem d_MessageCoder_messageOf_19 : decode prog_1_method_67_code 19 = .ok (.dup, 1) := by decide +kernel
theorem d_MessageCoder_messageOf_20 : decode prog_1_method_67_code 20 = .ok (.ldc 109, 2) := by decide +kernel
theorem d_MessageCoder_messageOf_22 : decode prog_1_method_67_code 22 = .ok (.invokespecial 111, 3) := by decide +kernel
theorem d_MessageCoder_messageOf_25 : decode prog_1_method_67_code 25 = .ok (.athrow, 1) := by decide +kernel
theorem d_MessageCoder_messageOf_26 : decode prog_1_method_67_code 26 = .ok (.aload_n 2, 1) := by decide +kernel
theorem d_MessageCoder_messageOf_27 : decode prog_1_method_67_code 27 = .ok (.areturn, 1) := by decide +kernel
set_option maxHeartbeats 4000000 in
set_option maxRecDepth 20000 in
theorem c_MessageCoder_messageOf {P : xP} {F : xF} {z : Nat} {b : Nat} {sv : Nat} {pp : Nat} {un : Nat} {ep : Int32} {fc : Int32} {c1 : Nat} {c2 : Nat} {c3 : Nat} {c4 : Nat} {k : Nat} {nx : Nat} {p : Nat → Nat} {m : Nat → mS} {a : Int32} (b0 : F (b) = some (.inl (9, [.ref (b + 1), .ref (b + 50), .ref (b + 99), .ref (b + 100), .ref (b + 107), .ref (b + 109), .ref (b + 111), .ref (b + 122), .ref (b + 124), .int (nI (sv)), .int (nI (pp)), .int (nI (un)), .int ep, .int fc]))) (s0 : F (b + 1) = some (.inl (7, [.ref (b + 2), .ref (b + 9), .ref (b + 11), .ref (b + 37), .ref (b + 48), .int (nI (c1)), .int (nI (c2)), .int (nI (c3)), .int (nI (c4))]))) (h3 : xQp F (b + 11) (k) (nx) (p) (m)) (hZx : xZx P) : xMx P xy_MessageCoder_messageOf [.ref b, .int a] F (z) 1 6 (fun r9 F9 z9 => r9 = some (.ref (b + 13 + 3 * p (idAt m a k))) ∧ F9 = F ∧ z9 = z ∧ (idAt m a k < k)) (fun E9 F9 z9 => (E9 = "java/util/NoSuchElementException" ∧ F9 = F ∧ (¬ idAt m a k < k))) := by
  refine xMx_a rfl (Nat.le_of_ble_eq_true rfl) (L0 := [some (.ref b), some (.int a), none]) rfl rfl (by simp) fun Θ hC hR hret => ?_
  refine x_aload_n hC d_MessageCoder_messageOf_0 rfl rfl ?_
  refine x_getf hC kf_MessageCoder_12 b0 rfl d_MessageCoder_messageOf_1 ?_
  refine x_getf hC kf_MessageCoder_198 s0 rfl d_MessageCoder_messageOf_4 ?_
  refine x_iload_n hC d_MessageCoder_messageOf_7 rfl rfl ?_
  refine x_callV hC kv_MessageCoder_389 (c_Queue_byId (hq := h3)) h3.1 rfl rfl (by decide) rfl rfl rfl (Nat.le_of_ble_eq_true rfl) (by decide) d_MessageCoder_messageOf_8 (fun r9 F9 z9 hp9 => ?_)
  obtain ⟨rfl, h9b, h9c⟩ := hp9
  rw [h9b, h9c]
  clear h9b h9c F9 z9
  by_cases hO_8 : idAt m a k < k
  · skip
    rw [if_pos hO_8]
    refine x_astore_n hC d_MessageCoder_messageOf_11 rfl (Nat.le_of_ble_eq_true rfl) (L1 := [some (.ref b), some (.int a), some (.ref ((b + 11) + 2 + 3 * p (idAt m a k)))]) rfl ?_
    refine x_aload_n hC d_MessageCoder_messageOf_12 rfl rfl ?_
    refine x_ifnonnull hC d_MessageCoder_messageOf_13 (tgt := 26) (by decide) ?_
    refine x_aload_n hC d_MessageCoder_messageOf_26 rfl rfl ?_
    exact hret _ _ _ _ _ _ _ d_MessageCoder_messageOf_27 (by decide) (by decide) (Or.inr ⟨_, rfl⟩) (⟨rfl, rfl, rfl, hO_8⟩)
  · skip
    rw [if_neg hO_8]
    refine x_astore_nN hC d_MessageCoder_messageOf_11 rfl (Nat.le_of_ble_eq_true rfl) (L1 := [some (.ref b), some (.int a), some (.null)]) rfl ?_
    refine x_aload_nN hC d_MessageCoder_messageOf_12 rfl rfl ?_
    refine x_ifnonnullN hC d_MessageCoder_messageOf_13 ?_
    refine x_thrN hC hR hZx (xtw2_NoSuchElementException _ _ xsr_109) rfl (Nat.le_of_ble_eq_true rfl) (by decide) (by decide) d_MessageCoder_messageOf_16 d_MessageCoder_messageOf_19 d_MessageCoder_messageOf_20 d_MessageCoder_messageOf_22 d_MessageCoder_messageOf_25 (fun z9 hz9 => ?_)
    exact ⟨rfl, rfl, hO_8⟩

theorem d_MessageCoder_priorityOf_0 : decode prog_1_method_27_code 0 = .ok (.aload_n 0, 1) := by decide +kernel
theorem d_MessageCoder_priorityOf_1 : decode prog_1_method_27_code 1 = .ok (.iload_n 1, 1) := by decide +kernel
theorem d_MessageCoder_priorityOf_2 : decode prog_1_method_27_code 2 = .ok (.invokevirtual 216, 3) := by decide +kernel
theorem d_MessageCoder_priorityOf_5 : decode prog_1_method_27_code 5 = .ok (.getfield 219, 3) := by decide +kernel
theorem d_MessageCoder_priorityOf_8 : decode prog_1_method_27_code 8 = .ok (.ireturn, 1) := by decide +kernel
set_option maxHeartbeats 4000000 in
set_option maxRecDepth 20000 in
theorem c_MessageCoder_priorityOf {P : xP} {F : xF} {z : Nat} {b : Nat} {cm : cmT} {M : mcS} {a : Int32} (hM : xMC F (cm) (b) (M)) (hZx : xZx P) : xMx P xy_MessageCoder_priorityOf [.ref b, .int a] F (z) 1 6 (fun r9 F9 z9 => r9 = some (.int (nI ((mAt M.1 a).2.1))) ∧ F9 = F ∧ z9 = z ∧ (mOk M.1 a)) (fun E9 F9 z9 => (E9 = "java/util/NoSuchElementException" ∧ F9 = F ∧ (¬ mOk M.1 a))) := by
  refine xMx_i .int rfl (Nat.le_of_ble_eq_true rfl) (L0 := [some (.ref b), some (.int a)]) rfl rfl fun Θ hC hR hret => ?_
  obtain ⟨A, S, past, ⟨pn, psg⟩, ⟨lnn, lsg⟩, sv, pp, un, ep, fc⟩ := M
  obtain ⟨b0, hs, hv, ⟨pf, hpa, hpf⟩, ⟨cc, pa, f1, f2, hf, K, p0, hK⟩, hin, hli, ⟨nb, fb9, hbt⟩, hrg, ⟨tn, tsg, htr⟩, ⟨cr, hcr⟩, hps⟩ := id hM
  obtain ⟨w, ⟨dn, ds⟩, ⟨k, nx, ms⟩, ⟨fk, fb, ftn, fts, fw⟩, ⟨rn, rs⟩, c1, c2, c3, c4⟩ := A
  obtain ⟨s0, h1, h2, ⟨p, m, h3, hms⟩, h4, h5⟩ := id hs
  have hms : ∀ i, i < k → m i = ms i := hms
  have b0 : F (b) = some (.inl (9, [.ref (b + 1), .ref (b + 50), .ref (b + 99), .ref (b + 100), .ref (b + 107), .ref (b + 109), .ref (b + 111), .ref (b + 122), .ref (b + 124), .int (nI (sv)), .int (nI (pp)), .int (nI (un)), .int ep, .int fc])) := b0
  have hv : xSt F (b + 50) (S) := hv
  have hpa : F (b + 99) = some (.inr (4, 9, pf)) := hpa
  have p0 : F (b + 100) = some (.inl (4, [.ref (b + 101), .ref (b + 103), .ref (b + 104), .ref (b + 105), .ref (b + 106), .int (nI (K.1)), .int (nI (cc)), .int (nI (pa)), .int (nI (f1)), .int (nI (f2)), .int (nI (hf))])) := p0
  have hK : xPk F (b + 100) (cm.2.1) (K) := hK
  have hin : xTx F (b + 101) (60) (pn) (psg) := hin
  have hli : xTx F (b + 107) (32) (lnn) (lsg) := hli
  have hbt : xBt F (b + 109) (nb) (fb9) := hbt
  have hrg : xRg F (b + 111) := hrg
  have htr : xTx F (b + 122) (16) (tn) (tsg) := htr
  have hcr : F (b + 124) = some (.inr (0, 17, fun b9 => .int (nI (cr b9)))) := hcr
  have hps : xPs F (b) (past) := hps
  have s0 : F (b + 1) = some (.inl (7, [.ref (b + 2), .ref (b + 9), .ref (b + 11), .ref (b + 37), .ref (b + 48), .int (nI (c1)), .int (nI (c2)), .int (nI (c3)), .int (nI (c4))])) := s0
  have h1 : xCd F (b + 2) (w) ((hLen w)) ((hVal (hLen w))) ((hOrd (hLen w))) ((hSum w)) := h1
  have h2 : xTx F (b + 9) (16) (dn) (ds) := h2
  have h3 : xQp F (b + 11) (k) (nx) (p) (m) := h3
  have h4 : xFr F (b + 37) (fk) (fb) (ftn) (fts) (fw) := h4
  have h5 : xTx F (b + 48) (16) (rn) (rs) := h5
  have hk8 : k ≤ 8 := h3.2.1.1
  refine x_aload_n hC d_MessageCoder_priorityOf_0 rfl rfl ?_
  refine x_iload_n hC d_MessageCoder_priorityOf_1 rfl rfl ?_
  refine x_callXV hC hR kv_MessageCoder_216 (c_MessageCoder_messageOf (b0 := b0) (s0 := s0) (h3 := h3) (hZx := hZx)) (fun E9 F9 z9 hp9 => ⟨hp9.1, hp9.2.1, fun h9 => hp9.2.2 (by rw [idAt_ext hms]; exact h9)⟩) b0 rfl rfl (by decide) rfl rfl rfl (Nat.le_of_ble_eq_true rfl) (by decide) d_MessageCoder_priorityOf_2 (fun r9 F9 z9 hp9 => ?_)
  obtain ⟨rfl, h9b, h9c, pn0_2⟩ := hp9
  rw [h9b, h9c]
  clear h9b h9c F9 z9
  have hk_r := pn0_2
  rw [idAt_ext hms] at hk_r
  obtain ⟨r, hr_r⟩ : ∃ q9, q9 = idAt ms a k := ⟨_, rfl⟩
  have he_r : idAt m a k = r := (idAt_ext hms).trans hr_r.symm
  rw [he_r]
  rw [← hr_r] at hk_r
  have hp_r : p r < 8 := h3.2.2.2.1 r (by omega)
  have hm_r : xMs F (b + 13 + 3 * p r) ((ms r).1) ((ms r).2.1) ((ms r).2.2.1) ((ms r).2.2.2) := by rw [← hms r hk_r]; exact h3.2.2.2.2.2 r (by omega)
  have hl_r : (ms r).2.2.1 ≤ 16 := hm_r.2.1.2.1.1
  refine x_getf hC kf_MessageCoder_219 hm_r.1 rfl d_MessageCoder_priorityOf_5 ?_
  exact hret _ _ _ _ _ _ _ d_MessageCoder_priorityOf_8 (by decide) (by decide) rfl (⟨congrArg (fun q => some (Value.int (nI q))) (by rw [hr_r]), rfl, rfl, (show idAt ms a k < k from (by rw [← hr_r]; exact hk_r))⟩)

theorem d_MessageCoder_lengthOf_0 : decode prog_1_method_28_code 0 = .ok (.aload_n 0, 1) := by decide +kernel
theorem d_MessageCoder_lengthOf_1 : decode prog_1_method_28_code 1 = .ok (.iload_n 1, 1) := by decide +kernel
theorem d_MessageCoder_lengthOf_2 : decode prog_1_method_28_code 2 = .ok (.invokevirtual 216, 3) := by decide +kernel
theorem d_MessageCoder_lengthOf_5 : decode prog_1_method_28_code 5 = .ok (.getfield 222, 3) := by decide +kernel
theorem d_MessageCoder_lengthOf_8 : decode prog_1_method_28_code 8 = .ok (.getfield 181, 3) := by decide +kernel
theorem d_MessageCoder_lengthOf_11 : decode prog_1_method_28_code 11 = .ok (.ireturn, 1) := by decide +kernel
set_option maxHeartbeats 4000000 in
set_option maxRecDepth 20000 in
theorem c_MessageCoder_lengthOf {P : xP} {F : xF} {z : Nat} {b : Nat} {cm : cmT} {M : mcS} {a : Int32} (hM : xMC F (cm) (b) (M)) (hZx : xZx P) : xMx P xy_MessageCoder_lengthOf [.ref b, .int a] F (z) 1 6 (fun r9 F9 z9 => r9 = some (.int (nI ((mAt M.1 a).2.2.1))) ∧ F9 = F ∧ z9 = z ∧ (mOk M.1 a)) (fun E9 F9 z9 => (E9 = "java/util/NoSuchElementException" ∧ F9 = F ∧ (¬ mOk M.1 a))) := by
  refine xMx_i .int rfl (Nat.le_of_ble_eq_true rfl) (L0 := [some (.ref b), some (.int a)]) rfl rfl fun Θ hC hR hret => ?_
  obtain ⟨A, S, past, ⟨pn, psg⟩, ⟨lnn, lsg⟩, sv, pp, un, ep, fc⟩ := M
  obtain ⟨b0, hs, hv, ⟨pf, hpa, hpf⟩, ⟨cc, pa, f1, f2, hf, K, p0, hK⟩, hin, hli, ⟨nb, fb9, hbt⟩, hrg, ⟨tn, tsg, htr⟩, ⟨cr, hcr⟩, hps⟩ := id hM
  obtain ⟨w, ⟨dn, ds⟩, ⟨k, nx, ms⟩, ⟨fk, fb, ftn, fts, fw⟩, ⟨rn, rs⟩, c1, c2, c3, c4⟩ := A
  obtain ⟨s0, h1, h2, ⟨p, m, h3, hms⟩, h4, h5⟩ := id hs
  have hms : ∀ i, i < k → m i = ms i := hms
  have b0 : F (b) = some (.inl (9, [.ref (b + 1), .ref (b + 50), .ref (b + 99), .ref (b + 100), .ref (b + 107), .ref (b + 109), .ref (b + 111), .ref (b + 122), .ref (b + 124), .int (nI (sv)), .int (nI (pp)), .int (nI (un)), .int ep, .int fc])) := b0
  have hv : xSt F (b + 50) (S) := hv
  have hpa : F (b + 99) = some (.inr (4, 9, pf)) := hpa
  have p0 : F (b + 100) = some (.inl (4, [.ref (b + 101), .ref (b + 103), .ref (b + 104), .ref (b + 105), .ref (b + 106), .int (nI (K.1)), .int (nI (cc)), .int (nI (pa)), .int (nI (f1)), .int (nI (f2)), .int (nI (hf))])) := p0
  have hK : xPk F (b + 100) (cm.2.1) (K) := hK
  have hin : xTx F (b + 101) (60) (pn) (psg) := hin
  have hli : xTx F (b + 107) (32) (lnn) (lsg) := hli
  have hbt : xBt F (b + 109) (nb) (fb9) := hbt
  have hrg : xRg F (b + 111) := hrg
  have htr : xTx F (b + 122) (16) (tn) (tsg) := htr
  have hcr : F (b + 124) = some (.inr (0, 17, fun b9 => .int (nI (cr b9)))) := hcr
  have hps : xPs F (b) (past) := hps
  have s0 : F (b + 1) = some (.inl (7, [.ref (b + 2), .ref (b + 9), .ref (b + 11), .ref (b + 37), .ref (b + 48), .int (nI (c1)), .int (nI (c2)), .int (nI (c3)), .int (nI (c4))])) := s0
  have h1 : xCd F (b + 2) (w) ((hLen w)) ((hVal (hLen w))) ((hOrd (hLen w))) ((hSum w)) := h1
  have h2 : xTx F (b + 9) (16) (dn) (ds) := h2
  have h3 : xQp F (b + 11) (k) (nx) (p) (m) := h3
  have h4 : xFr F (b + 37) (fk) (fb) (ftn) (fts) (fw) := h4
  have h5 : xTx F (b + 48) (16) (rn) (rs) := h5
  have hk8 : k ≤ 8 := h3.2.1.1
  refine x_aload_n hC d_MessageCoder_lengthOf_0 rfl rfl ?_
  refine x_iload_n hC d_MessageCoder_lengthOf_1 rfl rfl ?_
  refine x_callXV hC hR kv_MessageCoder_216 (c_MessageCoder_messageOf (b0 := b0) (s0 := s0) (h3 := h3) (hZx := hZx)) (fun E9 F9 z9 hp9 => ⟨hp9.1, hp9.2.1, fun h9 => hp9.2.2 (by rw [idAt_ext hms]; exact h9)⟩) b0 rfl rfl (by decide) rfl rfl rfl (Nat.le_of_ble_eq_true rfl) (by decide) d_MessageCoder_lengthOf_2 (fun r9 F9 z9 hp9 => ?_)
  obtain ⟨rfl, h9b, h9c, pn0_2⟩ := hp9
  rw [h9b, h9c]
  clear h9b h9c F9 z9
  have hk_r := pn0_2
  rw [idAt_ext hms] at hk_r
  obtain ⟨r, hr_r⟩ : ∃ q9, q9 = idAt ms a k := ⟨_, rfl⟩
  have he_r : idAt m a k = r := (idAt_ext hms).trans hr_r.symm
  rw [he_r]
  rw [← hr_r] at hk_r
  have hp_r : p r < 8 := h3.2.2.2.1 r (by omega)
  have hm_r : xMs F (b + 13 + 3 * p r) ((ms r).1) ((ms r).2.1) ((ms r).2.2.1) ((ms r).2.2.2) := by rw [← hms r hk_r]; exact h3.2.2.2.2.2 r (by omega)
  have hl_r : (ms r).2.2.1 ≤ 16 := hm_r.2.1.2.1.1
  refine x_getf hC kf_MessageCoder_222 hm_r.1 rfl d_MessageCoder_lengthOf_5 ?_
  refine x_getf hC kf_MessageCoder_181 hm_r.2.1.1 rfl d_MessageCoder_lengthOf_8 ?_
  exact hret _ _ _ _ _ _ _ d_MessageCoder_lengthOf_11 (by decide) (by decide) rfl (⟨congrArg (fun q => some (Value.int (nI q))) (by rw [hr_r]), rfl, rfl, (show idAt ms a k < k from (by rw [← hr_r]; exact hk_r))⟩)

theorem d_MessageCoder_messageAt_0 : decode prog_1_method_26_code 0 = .ok (.aload_n 0, 1) := by decide +kernel
theorem d_MessageCoder_messageAt_1 : decode prog_1_method_26_code 1 = .ok (.getfield 12, 3) := by decide +kernel
theorem d_MessageCoder_messageAt_4 : decode prog_1_method_26_code 4 = .ok (.getfield 198, 3) := by decide +kernel
theorem d_MessageCoder_messageAt_7 : decode prog_1_method_26_code 7 = .ok (.iload_n 1, 1) := by decide +kernel
theorem d_MessageCoder_messageAt_8 : decode prog_1_method_26_code 8 = .ok (.invokevirtual 207, 3) := by decide +kernel
theorem d_MessageCoder_messageAt_11 : decode prog_1_method_26_code 11 = .ok (.astore_n 2, 1) := by decide +kernel
theorem d_MessageCoder_messageAt_12 : decode prog_1_method_26_code 12 = .ok (.aload_n 2, 1) := by decide +kernel
theorem d_MessageCoder_messageAt_13 : decode prog_1_method_26_code 13 = .ok (.ifnonnull 13, 3) := by decide +kernel
theorem d_MessageCoder_messageAt_16 : decode prog_1_method_26_code 16 = .ok (.new 107, 3) := by decide +kernel
theorem d_MessageCoder_messageAt_19 : decode prog_1_method_26_code 19 = .ok (.dup, 1) := by decide +kernel
theorem d_MessageCoder_messageAt_20 : decode prog_1_method_26_code 20 = .ok (.ldc 159, 2) := by decide +kernel
theorem d_MessageCoder_messageAt_22 : decode prog_1_method_26_code 22 = .ok (.invokespecial 111, 3) := by decide +kernel
theorem d_MessageCoder_messageAt_25 : decode prog_1_method_26_code 25 = .ok (.athrow, 1) := by decide +kernel
theorem d_MessageCoder_messageAt_26 : decode prog_1_method_26_code 26 = .ok (.aload_n 2, 1) := by decide +kernel
theorem d_MessageCoder_messageAt_27 : decode prog_1_method_26_code 27 = .ok (.getfield 211, 3) := by decide +kernel
theorem d_MessageCoder_messageAt_30 : decode prog_1_method_26_code 30 = .ok (.ireturn, 1) := by decide +kernel
set_option maxHeartbeats 4000000 in
set_option maxRecDepth 20000 in
theorem c_MessageCoder_messageAt {P : xP} {F : xF} {z : Nat} {b : Nat} {cm : cmT} {M : mcS} {a : Int32} (hM : xMC F (cm) (b) (M)) (hZx : xZx P) : xMx P xy_MessageCoder_messageAt [.ref b, .int a] F (z) 1 6 (fun r9 F9 z9 => r9 = some (.int (nI ((M.1.2.2.1.2.2 (mRk M.1 a)).1))) ∧ F9 = F ∧ z9 = z ∧ (mRk M.1 a < M.1.2.2.1.1)) (fun E9 F9 z9 => (E9 = "java/util/NoSuchElementException" ∧ F9 = F ∧ (¬ mRk M.1 a < M.1.2.2.1.1))) := by
  refine xMx_i .int rfl (Nat.le_of_ble_eq_true rfl) (L0 := [some (.ref b), some (.int a), none]) rfl rfl fun Θ hC hR hret => ?_
  obtain ⟨A, S, past, ⟨pn, psg⟩, ⟨lnn, lsg⟩, sv, pp, un, ep, fc⟩ := M
  obtain ⟨b0, hs, hv, ⟨pf, hpa, hpf⟩, ⟨cc, pa, f1, f2, hf, K, p0, hK⟩, hin, hli, ⟨nb, fb9, hbt⟩, hrg, ⟨tn, tsg, htr⟩, ⟨cr, hcr⟩, hps⟩ := id hM
  obtain ⟨w, ⟨dn, ds⟩, ⟨k, nx, ms⟩, ⟨fk, fb, ftn, fts, fw⟩, ⟨rn, rs⟩, c1, c2, c3, c4⟩ := A
  obtain ⟨s0, h1, h2, ⟨p, m, h3, hms⟩, h4, h5⟩ := id hs
  have hms : ∀ i, i < k → m i = ms i := hms
  have b0 : F (b) = some (.inl (9, [.ref (b + 1), .ref (b + 50), .ref (b + 99), .ref (b + 100), .ref (b + 107), .ref (b + 109), .ref (b + 111), .ref (b + 122), .ref (b + 124), .int (nI (sv)), .int (nI (pp)), .int (nI (un)), .int ep, .int fc])) := b0
  have hv : xSt F (b + 50) (S) := hv
  have hpa : F (b + 99) = some (.inr (4, 9, pf)) := hpa
  have p0 : F (b + 100) = some (.inl (4, [.ref (b + 101), .ref (b + 103), .ref (b + 104), .ref (b + 105), .ref (b + 106), .int (nI (K.1)), .int (nI (cc)), .int (nI (pa)), .int (nI (f1)), .int (nI (f2)), .int (nI (hf))])) := p0
  have hK : xPk F (b + 100) (cm.2.1) (K) := hK
  have hin : xTx F (b + 101) (60) (pn) (psg) := hin
  have hli : xTx F (b + 107) (32) (lnn) (lsg) := hli
  have hbt : xBt F (b + 109) (nb) (fb9) := hbt
  have hrg : xRg F (b + 111) := hrg
  have htr : xTx F (b + 122) (16) (tn) (tsg) := htr
  have hcr : F (b + 124) = some (.inr (0, 17, fun b9 => .int (nI (cr b9)))) := hcr
  have hps : xPs F (b) (past) := hps
  have s0 : F (b + 1) = some (.inl (7, [.ref (b + 2), .ref (b + 9), .ref (b + 11), .ref (b + 37), .ref (b + 48), .int (nI (c1)), .int (nI (c2)), .int (nI (c3)), .int (nI (c4))])) := s0
  have h1 : xCd F (b + 2) (w) ((hLen w)) ((hVal (hLen w))) ((hOrd (hLen w))) ((hSum w)) := h1
  have h2 : xTx F (b + 9) (16) (dn) (ds) := h2
  have h3 : xQp F (b + 11) (k) (nx) (p) (m) := h3
  have h4 : xFr F (b + 37) (fk) (fb) (ftn) (fts) (fw) := h4
  have h5 : xTx F (b + 48) (16) (rn) (rs) := h5
  have hk8 : k ≤ 8 := h3.2.1.1
  refine x_aload_n hC d_MessageCoder_messageAt_0 rfl rfl ?_
  refine x_getf hC kf_MessageCoder_12 b0 rfl d_MessageCoder_messageAt_1 ?_
  refine x_getf hC kf_MessageCoder_198 s0 rfl d_MessageCoder_messageAt_4 ?_
  refine x_iload_n hC d_MessageCoder_messageAt_7 rfl rfl ?_
  refine x_callV hC kv_MessageCoder_207 (c_Queue_byRank (hq := h3)) h3.1 rfl rfl (by decide) rfl rfl rfl (Nat.le_of_ble_eq_true rfl) (by decide) d_MessageCoder_messageAt_8 (fun r9 F9 z9 hp9 => ?_)
  obtain ⟨rfl, h9b, h9c⟩ := hp9
  rw [h9b, h9c]
  clear h9b h9c F9 z9
  by_cases hO_8 : rankAt m a k < k
  · skip
    rw [if_pos hO_8]
    rw [rankAt_ext hms] at hO_8
    obtain ⟨r, hr_r⟩ : ∃ q9, q9 = rankAt ms a k := ⟨_, rfl⟩
    rw [(rankAt_ext hms).trans hr_r.symm]
    rw [← hr_r] at hO_8
    have hp_r : p r < 8 := h3.2.2.2.1 r (by omega)
    have hm_r : xMs F (b + 13 + 3 * p r) ((ms r).1) ((ms r).2.1) ((ms r).2.2.1) ((ms r).2.2.2) := by rw [← hms r hO_8]; exact h3.2.2.2.2.2 r (by omega)
    refine x_astore_n hC d_MessageCoder_messageAt_11 rfl (Nat.le_of_ble_eq_true rfl) (L1 := [some (.ref b), some (.int a), some (.ref (b + 13 + 3 * p r))]) rfl ?_
    refine x_aload_n hC d_MessageCoder_messageAt_12 rfl rfl ?_
    refine x_ifnonnull hC d_MessageCoder_messageAt_13 (tgt := 26) (by decide) ?_
    refine x_aload_n hC d_MessageCoder_messageAt_26 rfl rfl ?_
    refine x_getf hC kf_MessageCoder_211 hm_r.1 rfl d_MessageCoder_messageAt_27 ?_
    exact hret _ _ _ _ _ _ _ d_MessageCoder_messageAt_30 (by decide) (by decide) rfl (⟨congrArg (fun q => some (Value.int (nI q))) (by rw [hr_r]), rfl, rfl, (show rankAt ms a k < k from (by rw [← hr_r]; exact hO_8))⟩)
  · skip
    rw [if_neg hO_8]
    rw [rankAt_ext hms] at hO_8
    refine x_astore_nN hC d_MessageCoder_messageAt_11 rfl (Nat.le_of_ble_eq_true rfl) (L1 := [some (.ref b), some (.int a), some (.null)]) rfl ?_
    refine x_aload_nN hC d_MessageCoder_messageAt_12 rfl rfl ?_
    refine x_ifnonnullN hC d_MessageCoder_messageAt_13 ?_
    refine x_thrN hC hR hZx (xtw2_NoSuchElementException _ _ xsr_159) rfl (Nat.le_of_ble_eq_true rfl) (by decide) (by decide) d_MessageCoder_messageAt_16 d_MessageCoder_messageAt_19 d_MessageCoder_messageAt_20 d_MessageCoder_messageAt_22 d_MessageCoder_messageAt_25 (fun z9 hz9 => ?_)
    exact ⟨rfl, rfl, hO_8⟩

theorem d_MessageCoder_symbolAt_0 : decode prog_1_method_29_code 0 = .ok (.aload_n 0, 1) := by decide +kernel
theorem d_MessageCoder_symbolAt_1 : decode prog_1_method_29_code 1 = .ok (.iload_n 1, 1) := by decide +kernel
theorem d_MessageCoder_symbolAt_2 : decode prog_1_method_29_code 2 = .ok (.invokevirtual 216, 3) := by decide +kernel
theorem d_MessageCoder_symbolAt_5 : decode prog_1_method_29_code 5 = .ok (.getfield 222, 3) := by decide +kernel
theorem d_MessageCoder_symbolAt_8 : decode prog_1_method_29_code 8 = .ok (.astore_n 3, 1) := by decide +kernel
theorem d_MessageCoder_symbolAt_9 : decode prog_1_method_29_code 9 = .ok (.aload_n 3, 1) := by decide +kernel
theorem d_MessageCoder_symbolAt_10 : decode prog_1_method_29_code 10 = .ok (.iload_n 2, 1) := by decide +kernel
theorem d_MessageCoder_symbolAt_11 : decode prog_1_method_29_code 11 = .ok (.invokevirtual 184, 3) := by decide +kernel
theorem d_MessageCoder_symbolAt_14 : decode prog_1_method_29_code 14 = .ok (.ifCond .ne 13, 3) := by decide +kernel
theorem d_MessageCoder_symbolAt_17 : decode prog_1_method_29_code 17 = .ok (.new 126, 3) := by decide +kernel
theorem d_MessageCoder_symbolAt_20 : decode prog_1_method_29_code 20 = .ok (.dup, 1) := by decide +kernel
theorem d_MessageCoder_symbolAt_21 : decode prog_1_method_29_code 21 = .ok (.ldc 188, 2) := by decide +kernel
theorem d_MessageCoder_symbolAt_23 : decode prog_1_method_29_code 23 = .ok (.invokespecial 130, 3) := by decide +kernel
theorem d_MessageCoder_symbolAt_26 : decode prog_1_method_29_code 26 = .ok (.athrow, 1) := by decide +kernel
theorem d_MessageCoder_symbolAt_27 : decode prog_1_method_29_code 27 = .ok (.aload_n 3, 1) := by decide +kernel
theorem d_MessageCoder_symbolAt_28 : decode prog_1_method_29_code 28 = .ok (.iload_n 2, 1) := by decide +kernel
theorem d_MessageCoder_symbolAt_29 : decode prog_1_method_29_code 29 = .ok (.invokevirtual 190, 3) := by decide +kernel
theorem d_MessageCoder_symbolAt_32 : decode prog_1_method_29_code 32 = .ok (.ireturn, 1) := by decide +kernel
set_option maxHeartbeats 4000000 in
set_option maxRecDepth 20000 in
theorem c_MessageCoder_symbolAt {P : xP} {F : xF} {z : Nat} {b : Nat} {cm : cmT} {M : mcS} {a : Int32} {i : Int32} (hM : xMC F (cm) (b) (M)) (hZx : xZx P) : xMx P xy_MessageCoder_symbolAt [.ref b, .int a, .int i] F (z) 2 12 (fun r9 F9 z9 => r9 = some (.int (nI ((mAt M.1 a).2.2.2 i.toNatClampNeg))) ∧ F9 = F ∧ z9 = z ∧ (mOk M.1 a) ∧ (0 ≤ i ∧ i < nI (mAt M.1 a).2.2.1)) (fun E9 F9 z9 => (E9 = "java/util/NoSuchElementException" ∧ F9 = F ∧ (¬ mOk M.1 a)) ∨ (E9 = "java/lang/IndexOutOfBoundsException" ∧ F9 = F ∧ (mOk M.1 a ∧ ¬ (0 ≤ i ∧ i < nI (mAt M.1 a).2.2.1)))) := by
  refine xMx_i .char rfl (Nat.le_of_ble_eq_true rfl) (L0 := [some (.ref b), some (.int a), some (.int i), none]) rfl rfl fun Θ hC hR hret => ?_
  obtain ⟨A, S, past, ⟨pn, psg⟩, ⟨lnn, lsg⟩, sv, pp, un, ep, fc⟩ := M
  obtain ⟨b0, hs, hv, ⟨pf, hpa, hpf⟩, ⟨cc, pa, f1, f2, hf, K, p0, hK⟩, hin, hli, ⟨nb, fb9, hbt⟩, hrg, ⟨tn, tsg, htr⟩, ⟨cr, hcr⟩, hps⟩ := id hM
  obtain ⟨w, ⟨dn, ds⟩, ⟨k, nx, ms⟩, ⟨fk, fb, ftn, fts, fw⟩, ⟨rn, rs⟩, c1, c2, c3, c4⟩ := A
  obtain ⟨s0, h1, h2, ⟨p, m, h3, hms⟩, h4, h5⟩ := id hs
  have hms : ∀ i, i < k → m i = ms i := hms
  have b0 : F (b) = some (.inl (9, [.ref (b + 1), .ref (b + 50), .ref (b + 99), .ref (b + 100), .ref (b + 107), .ref (b + 109), .ref (b + 111), .ref (b + 122), .ref (b + 124), .int (nI (sv)), .int (nI (pp)), .int (nI (un)), .int ep, .int fc])) := b0
  have hv : xSt F (b + 50) (S) := hv
  have hpa : F (b + 99) = some (.inr (4, 9, pf)) := hpa
  have p0 : F (b + 100) = some (.inl (4, [.ref (b + 101), .ref (b + 103), .ref (b + 104), .ref (b + 105), .ref (b + 106), .int (nI (K.1)), .int (nI (cc)), .int (nI (pa)), .int (nI (f1)), .int (nI (f2)), .int (nI (hf))])) := p0
  have hK : xPk F (b + 100) (cm.2.1) (K) := hK
  have hin : xTx F (b + 101) (60) (pn) (psg) := hin
  have hli : xTx F (b + 107) (32) (lnn) (lsg) := hli
  have hbt : xBt F (b + 109) (nb) (fb9) := hbt
  have hrg : xRg F (b + 111) := hrg
  have htr : xTx F (b + 122) (16) (tn) (tsg) := htr
  have hcr : F (b + 124) = some (.inr (0, 17, fun b9 => .int (nI (cr b9)))) := hcr
  have hps : xPs F (b) (past) := hps
  have s0 : F (b + 1) = some (.inl (7, [.ref (b + 2), .ref (b + 9), .ref (b + 11), .ref (b + 37), .ref (b + 48), .int (nI (c1)), .int (nI (c2)), .int (nI (c3)), .int (nI (c4))])) := s0
  have h1 : xCd F (b + 2) (w) ((hLen w)) ((hVal (hLen w))) ((hOrd (hLen w))) ((hSum w)) := h1
  have h2 : xTx F (b + 9) (16) (dn) (ds) := h2
  have h3 : xQp F (b + 11) (k) (nx) (p) (m) := h3
  have h4 : xFr F (b + 37) (fk) (fb) (ftn) (fts) (fw) := h4
  have h5 : xTx F (b + 48) (16) (rn) (rs) := h5
  have hk8 : k ≤ 8 := h3.2.1.1
  refine x_aload_n hC d_MessageCoder_symbolAt_0 rfl rfl ?_
  refine x_iload_n hC d_MessageCoder_symbolAt_1 rfl rfl ?_
  refine x_callXV hC hR kv_MessageCoder_216 (c_MessageCoder_messageOf (b0 := b0) (s0 := s0) (h3 := h3) (hZx := hZx)) (fun E9 F9 z9 hp9 => Or.inl (⟨hp9.1, hp9.2.1, fun h9 => hp9.2.2 (by rw [idAt_ext hms]; exact h9)⟩)) b0 rfl rfl (by decide) rfl rfl rfl (Nat.le_of_ble_eq_true rfl) (by decide) d_MessageCoder_symbolAt_2 (fun r9 F9 z9 hp9 => ?_)
  obtain ⟨rfl, h9b, h9c, pn0_2⟩ := hp9
  rw [h9b, h9c]
  clear h9b h9c F9 z9
  have hk_r := pn0_2
  rw [idAt_ext hms] at hk_r
  obtain ⟨r, hr_r⟩ : ∃ q9, q9 = idAt ms a k := ⟨_, rfl⟩
  have he_r : idAt m a k = r := (idAt_ext hms).trans hr_r.symm
  rw [he_r]
  rw [← hr_r] at hk_r
  have hp_r : p r < 8 := h3.2.2.2.1 r (by omega)
  have hm_r : xMs F (b + 13 + 3 * p r) ((ms r).1) ((ms r).2.1) ((ms r).2.2.1) ((ms r).2.2.2) := by rw [← hms r hk_r]; exact h3.2.2.2.2.2 r (by omega)
  have hl_r : (ms r).2.2.1 ≤ 16 := hm_r.2.1.2.1.1
  refine x_getf hC kf_MessageCoder_222 hm_r.1 rfl d_MessageCoder_symbolAt_5 ?_
  refine x_astore_n hC d_MessageCoder_symbolAt_8 rfl (Nat.le_of_ble_eq_true rfl) (L1 := [some (.ref b), some (.int a), some (.int i), some (.ref (b + 13 + 3 * p r + 1))]) rfl ?_
  refine x_aload_n hC d_MessageCoder_symbolAt_9 rfl rfl ?_
  refine x_iload_n hC d_MessageCoder_symbolAt_10 rfl rfl ?_
  refine x_callV hC kv_MessageCoder_184 (c_Text_has (ht := hm_r.2.1)) hm_r.2.1.1 rfl rfl (by decide) rfl rfl rfl (Nat.le_of_ble_eq_true rfl) (by decide) d_MessageCoder_symbolAt_11 (fun r9 F9 z9 hp9 => ?_)
  obtain ⟨rfl, h9b, h9c⟩ := hp9
  rw [h9b, h9c]
  clear h9b h9c F9 z9
  refine x_ifB_ne hC d_MessageCoder_symbolAt_14 (tgt := 27) (by decide) (fun c_14 => ?_) (fun c_14 => ?_)
  · skip
    have hi0 := i2n_of c_14.1
    have hi1 := i2n_lt c_14.1 c_14.2 (by omega)
    refine x_aload_n hC d_MessageCoder_symbolAt_27 rfl rfl ?_
    refine x_iload_n hC d_MessageCoder_symbolAt_28 rfl rfl ?_
    refine x_top (v := (nI (i.toNatClampNeg))) hi0 ?_
    refine x_callV hC kv_MessageCoder_190 (c_Text_at (ht := hm_r.2.1) (hi := by omega)) hm_r.2.1.1 rfl rfl (by decide) rfl rfl rfl (Nat.le_of_ble_eq_true rfl) (by decide) d_MessageCoder_symbolAt_29 (fun r9 F9 z9 hp9 => ?_)
    obtain ⟨rfl, h9b, h9c⟩ := hp9
    rw [h9b, h9c]
    clear h9b h9c F9 z9
    exact hret _ _ _ _ _ _ _ d_MessageCoder_symbolAt_32 (by decide) (by decide) (x_char _ (by rw [if_pos hi1]; exact hm_r.2.1.2.2.1 _ hi1)) (⟨congrArg (fun q => some (Value.int (nI q))) (by rw [if_pos hi1, hr_r]), rfl, rfl, (show idAt ms a k < k from (by rw [← hr_r]; exact hk_r)), (show 0 ≤ i ∧ i < nI (ms (idAt ms a k)).2.2.1 from (by rw [← hr_r]; exact c_14))⟩)
  · skip
    refine x_thr hC hR hZx (xtw2_IndexOutOfBoundsException _ _ xsr_188) rfl (Nat.le_of_ble_eq_true rfl) (by decide) (by decide) d_MessageCoder_symbolAt_17 d_MessageCoder_symbolAt_20 d_MessageCoder_symbolAt_21 d_MessageCoder_symbolAt_23 d_MessageCoder_symbolAt_26 (fun z9 hz9 => ?_)
    exact Or.inr ⟨rfl, rfl, (show idAt ms a k < k from (by rw [← hr_r]; exact hk_r)), (show ¬ (0 ≤ i ∧ i < nI (ms (idAt ms a k)).2.2.1) from (by rw [← hr_r]; exact c_14))⟩

theorem d_MessageCoder_countOf_0 : decode prog_1_method_30_code 0 = .ok (.aload_n 0, 1) := by decide +kernel
theorem d_MessageCoder_countOf_1 : decode prog_1_method_30_code 1 = .ok (.iload_n 1, 1) := by decide +kernel
theorem d_MessageCoder_countOf_2 : decode prog_1_method_30_code 2 = .ok (.invokevirtual 216, 3) := by decide +kernel
theorem d_MessageCoder_countOf_5 : decode prog_1_method_30_code 5 = .ok (.getfield 222, 3) := by decide +kernel
theorem d_MessageCoder_countOf_8 : decode prog_1_method_30_code 8 = .ok (.astore_n 3, 1) := by decide +kernel
theorem d_MessageCoder_countOf_9 : decode prog_1_method_30_code 9 = .ok (.iload_n 2, 1) := by decide +kernel
theorem d_MessageCoder_countOf_10 : decode prog_1_method_30_code 10 = .ok (.invokestatic 225, 3) := by decide +kernel
theorem d_MessageCoder_countOf_13 : decode prog_1_method_30_code 13 = .ok (.ifCond .ne 13, 3) := by decide +kernel
theorem d_MessageCoder_countOf_16 : decode prog_1_method_30_code 16 = .ok (.new 77, 3) := by decide +kernel
theorem d_MessageCoder_countOf_19 : decode prog_1_method_30_code 19 = .ok (.dup, 1) := by decide +kernel
theorem d_MessageCoder_countOf_20 : decode prog_1_method_30_code 20 = .ok (.ldc 87, 2) := by decide +kernel
theorem d_MessageCoder_countOf_22 : decode prog_1_method_30_code 22 = .ok (.invokespecial 81, 3) := by decide +kernel
theorem d_MessageCoder_countOf_25 : decode prog_1_method_30_code 25 = .ok (.athrow, 1) := by decide +kernel
theorem d_MessageCoder_countOf_26 : decode prog_1_method_30_code 26 = .ok (.aload_n 3, 1) := by decide +kernel
theorem d_MessageCoder_countOf_27 : decode prog_1_method_30_code 27 = .ok (.iload_n 2, 1) := by decide +kernel
theorem d_MessageCoder_countOf_28 : decode prog_1_method_30_code 28 = .ok (.invokevirtual 229, 3) := by decide +kernel
theorem d_MessageCoder_countOf_31 : decode prog_1_method_30_code 31 = .ok (.ireturn, 1) := by decide +kernel
set_option maxHeartbeats 4000000 in
set_option maxRecDepth 20000 in
theorem c_MessageCoder_countOf {P : xP} {F : xF} {z : Nat} {b : Nat} {cm : cmT} {M : mcS} {a : Int32} {c : Nat} (hM : xMC F (cm) (b) (M)) (hZx : xZx P) (hcb : c < 65536) : xMx P xy_MessageCoder_countOf [.ref b, .int a, .int (nI (c))] F (z) 2 12 (fun r9 F9 z9 => r9 = some (.int (nI (tmOf (mAt M.1 a).2.2.2 c (mAt M.1 a).2.2.1))) ∧ F9 = F ∧ z9 = z ∧ (mOk M.1 a) ∧ (97 ≤ c ∧ c < 105)) (fun E9 F9 z9 => (E9 = "java/util/NoSuchElementException" ∧ F9 = F ∧ (¬ mOk M.1 a)) ∨ (E9 = "java/lang/IllegalArgumentException" ∧ F9 = F ∧ (mOk M.1 a ∧ ¬ (97 ≤ c ∧ c < 105)))) := by
  refine xMx_i .int rfl (Nat.le_of_ble_eq_true rfl) (L0 := [some (.ref b), some (.int a), some (.int (nI (c))), none]) rfl rfl fun Θ hC hR hret => ?_
  obtain ⟨A, S, past, ⟨pn, psg⟩, ⟨lnn, lsg⟩, sv, pp, un, ep, fc⟩ := M
  obtain ⟨b0, hs, hv, ⟨pf, hpa, hpf⟩, ⟨cc, pa, f1, f2, hf, K, p0, hK⟩, hin, hli, ⟨nb, fb9, hbt⟩, hrg, ⟨tn, tsg, htr⟩, ⟨cr, hcr⟩, hps⟩ := id hM
  obtain ⟨w, ⟨dn, ds⟩, ⟨k, nx, ms⟩, ⟨fk, fb, ftn, fts, fw⟩, ⟨rn, rs⟩, c1, c2, c3, c4⟩ := A
  obtain ⟨s0, h1, h2, ⟨p, m, h3, hms⟩, h4, h5⟩ := id hs
  have hms : ∀ i, i < k → m i = ms i := hms
  have b0 : F (b) = some (.inl (9, [.ref (b + 1), .ref (b + 50), .ref (b + 99), .ref (b + 100), .ref (b + 107), .ref (b + 109), .ref (b + 111), .ref (b + 122), .ref (b + 124), .int (nI (sv)), .int (nI (pp)), .int (nI (un)), .int ep, .int fc])) := b0
  have hv : xSt F (b + 50) (S) := hv
  have hpa : F (b + 99) = some (.inr (4, 9, pf)) := hpa
  have p0 : F (b + 100) = some (.inl (4, [.ref (b + 101), .ref (b + 103), .ref (b + 104), .ref (b + 105), .ref (b + 106), .int (nI (K.1)), .int (nI (cc)), .int (nI (pa)), .int (nI (f1)), .int (nI (f2)), .int (nI (hf))])) := p0
  have hK : xPk F (b + 100) (cm.2.1) (K) := hK
  have hin : xTx F (b + 101) (60) (pn) (psg) := hin
  have hli : xTx F (b + 107) (32) (lnn) (lsg) := hli
  have hbt : xBt F (b + 109) (nb) (fb9) := hbt
  have hrg : xRg F (b + 111) := hrg
  have htr : xTx F (b + 122) (16) (tn) (tsg) := htr
  have hcr : F (b + 124) = some (.inr (0, 17, fun b9 => .int (nI (cr b9)))) := hcr
  have hps : xPs F (b) (past) := hps
  have s0 : F (b + 1) = some (.inl (7, [.ref (b + 2), .ref (b + 9), .ref (b + 11), .ref (b + 37), .ref (b + 48), .int (nI (c1)), .int (nI (c2)), .int (nI (c3)), .int (nI (c4))])) := s0
  have h1 : xCd F (b + 2) (w) ((hLen w)) ((hVal (hLen w))) ((hOrd (hLen w))) ((hSum w)) := h1
  have h2 : xTx F (b + 9) (16) (dn) (ds) := h2
  have h3 : xQp F (b + 11) (k) (nx) (p) (m) := h3
  have h4 : xFr F (b + 37) (fk) (fb) (ftn) (fts) (fw) := h4
  have h5 : xTx F (b + 48) (16) (rn) (rs) := h5
  have hk8 : k ≤ 8 := h3.2.1.1
  refine x_aload_n hC d_MessageCoder_countOf_0 rfl rfl ?_
  refine x_iload_n hC d_MessageCoder_countOf_1 rfl rfl ?_
  refine x_callXV hC hR kv_MessageCoder_216 (c_MessageCoder_messageOf (b0 := b0) (s0 := s0) (h3 := h3) (hZx := hZx)) (fun E9 F9 z9 hp9 => Or.inl (⟨hp9.1, hp9.2.1, fun h9 => hp9.2.2 (by rw [idAt_ext hms]; exact h9)⟩)) b0 rfl rfl (by decide) rfl rfl rfl (Nat.le_of_ble_eq_true rfl) (by decide) d_MessageCoder_countOf_2 (fun r9 F9 z9 hp9 => ?_)
  obtain ⟨rfl, h9b, h9c, pn0_2⟩ := hp9
  rw [h9b, h9c]
  clear h9b h9c F9 z9
  have hk_r := pn0_2
  rw [idAt_ext hms] at hk_r
  obtain ⟨r, hr_r⟩ : ∃ q9, q9 = idAt ms a k := ⟨_, rfl⟩
  have he_r : idAt m a k = r := (idAt_ext hms).trans hr_r.symm
  rw [he_r]
  rw [← hr_r] at hk_r
  have hp_r : p r < 8 := h3.2.2.2.1 r (by omega)
  have hm_r : xMs F (b + 13 + 3 * p r) ((ms r).1) ((ms r).2.1) ((ms r).2.2.1) ((ms r).2.2.2) := by rw [← hms r hk_r]; exact h3.2.2.2.2.2 r (by omega)
  have hl_r : (ms r).2.2.1 ≤ 16 := hm_r.2.1.2.1.1
  refine x_getf hC kf_MessageCoder_222 hm_r.1 rfl d_MessageCoder_countOf_5 ?_
  refine x_astore_n hC d_MessageCoder_countOf_8 rfl (Nat.le_of_ble_eq_true rfl) (L1 := [some (.ref b), some (.int a), some (.int (nI (c))), some (.ref (b + 13 + 3 * p r + 1))]) rfl ?_
  refine x_iload_n hC d_MessageCoder_countOf_9 rfl rfl ?_
  refine x_callS hC ks_MessageCoder_225 (c_MessageCoder_isSymbol (hcb := by omega)) (by decide) rfl rfl rfl (Nat.le_of_ble_eq_true rfl) (by decide) d_MessageCoder_countOf_10 (fun r9 F9 z9 hp9 => ?_)
  obtain ⟨rfl, h9b, h9c⟩ := hp9
  rw [h9b, h9c]
  clear h9b h9c F9 z9
  refine x_ifB_ne hC d_MessageCoder_countOf_13 (tgt := 26) (by decide) (fun c_13 => ?_) (fun c_13 => ?_)
  · skip
    refine x_aload_n hC d_MessageCoder_countOf_26 rfl rfl ?_
    refine x_iload_n hC d_MessageCoder_countOf_27 rfl rfl ?_
    refine x_callV hC kv_MessageCoder_229 (c_Text_timesOf (ht := hm_r.2.1) (hc0 := by omega)) hm_r.2.1.1 rfl rfl (by decide) rfl rfl rfl (Nat.le_of_ble_eq_true rfl) (by decide) d_MessageCoder_countOf_28 (fun r9 F9 z9 hp9 => ?_)
    obtain ⟨rfl, h9b, h9c⟩ := hp9
    rw [h9b, h9c]
    clear h9b h9c F9 z9
    exact hret _ _ _ _ _ _ _ d_MessageCoder_countOf_31 (by decide) (by decide) rfl (⟨congrArg (fun q => some (Value.int (nI q))) (by rw [hr_r]), rfl, rfl, (show idAt ms a k < k from (by rw [← hr_r]; exact hk_r)), c_13⟩)
  · skip
    refine x_thr hC hR hZx (xtw2_IllegalArgumentException _ _ xsr_87) rfl (Nat.le_of_ble_eq_true rfl) (by decide) (by decide) d_MessageCoder_countOf_16 d_MessageCoder_countOf_19 d_MessageCoder_countOf_20 d_MessageCoder_countOf_22 d_MessageCoder_countOf_25 (fun z9 hz9 => ?_)
    exact Or.inr ⟨rfl, rfl, (show idAt ms a k < k from (by rw [← hr_r]; exact hk_r)), c_13⟩

theorem d_MessageCoder_bitCount_0 : decode prog_1_method_31_code 0 = .ok (.aload_n 0, 1) := by decide +kernel
theorem d_MessageCoder_bitCount_1 : decode prog_1_method_31_code 1 = .ok (.getfield 12, 3) := by decide +kernel
theorem d_MessageCoder_bitCount_4 : decode prog_1_method_31_code 4 = .ok (.getfield 136, 3) := by decide +kernel
theorem d_MessageCoder_bitCount_7 : decode prog_1_method_31_code 7 = .ok (.aload_n 0, 1) := by decide +kernel
theorem d_MessageCoder_bitCount_8 : decode prog_1_method_31_code 8 = .ok (.iload_n 1, 1) := by decide +kernel
theorem d_MessageCoder_bitCount_9 : decode prog_1_method_31_code 9 = .ok (.invokevirtual 216, 3) := by decide +kernel
theorem d_MessageCoder_bitCount_12 : decode prog_1_method_31_code 12 = .ok (.getfield 222, 3) := by decide +kernel
theorem d_MessageCoder_bitCount_15 : decode prog_1_method_31_code 15 = .ok (.invokevirtual 194, 3) := by decide +kernel
theorem d_MessageCoder_bitCount_18 : decode prog_1_method_31_code 18 = .ok (.ireturn, 1) := by decide +kernel
set_option maxHeartbeats 4000000 in
set_option maxRecDepth 20000 in
theorem c_MessageCoder_bitCount {P : xP} {F : xF} {z : Nat} {b : Nat} {cm : cmT} {M : mcS} {a : Int32} (hM : xMC F (cm) (b) (M)) (hZx : xZx P) : xMx P xy_MessageCoder_bitCount [.ref b, .int a] F (z) 1 6 (fun r9 F9 z9 => r9 = some (.int (nI (bitsN (hLen M.1.1) (mAt M.1 a).2.2.2 (mAt M.1 a).2.2.1))) ∧ F9 = F ∧ z9 = z ∧ (mOk M.1 a)) (fun E9 F9 z9 => (E9 = "java/util/NoSuchElementException" ∧ F9 = F ∧ (¬ mOk M.1 a))) := by
  refine xMx_i .int rfl (Nat.le_of_ble_eq_true rfl) (L0 := [some (.ref b), some (.int a)]) rfl rfl fun Θ hC hR hret => ?_
  obtain ⟨A, S, past, ⟨pn, psg⟩, ⟨lnn, lsg⟩, sv, pp, un, ep, fc⟩ := M
  obtain ⟨b0, hs, hv, ⟨pf, hpa, hpf⟩, ⟨cc, pa, f1, f2, hf, K, p0, hK⟩, hin, hli, ⟨nb, fb9, hbt⟩, hrg, ⟨tn, tsg, htr⟩, ⟨cr, hcr⟩, hps⟩ := id hM
  obtain ⟨w, ⟨dn, ds⟩, ⟨k, nx, ms⟩, ⟨fk, fb, ftn, fts, fw⟩, ⟨rn, rs⟩, c1, c2, c3, c4⟩ := A
  obtain ⟨s0, h1, h2, ⟨p, m, h3, hms⟩, h4, h5⟩ := id hs
  have hms : ∀ i, i < k → m i = ms i := hms
  have b0 : F (b) = some (.inl (9, [.ref (b + 1), .ref (b + 50), .ref (b + 99), .ref (b + 100), .ref (b + 107), .ref (b + 109), .ref (b + 111), .ref (b + 122), .ref (b + 124), .int (nI (sv)), .int (nI (pp)), .int (nI (un)), .int ep, .int fc])) := b0
  have hv : xSt F (b + 50) (S) := hv
  have hpa : F (b + 99) = some (.inr (4, 9, pf)) := hpa
  have p0 : F (b + 100) = some (.inl (4, [.ref (b + 101), .ref (b + 103), .ref (b + 104), .ref (b + 105), .ref (b + 106), .int (nI (K.1)), .int (nI (cc)), .int (nI (pa)), .int (nI (f1)), .int (nI (f2)), .int (nI (hf))])) := p0
  have hK : xPk F (b + 100) (cm.2.1) (K) := hK
  have hin : xTx F (b + 101) (60) (pn) (psg) := hin
  have hli : xTx F (b + 107) (32) (lnn) (lsg) := hli
  have hbt : xBt F (b + 109) (nb) (fb9) := hbt
  have hrg : xRg F (b + 111) := hrg
  have htr : xTx F (b + 122) (16) (tn) (tsg) := htr
  have hcr : F (b + 124) = some (.inr (0, 17, fun b9 => .int (nI (cr b9)))) := hcr
  have hps : xPs F (b) (past) := hps
  have s0 : F (b + 1) = some (.inl (7, [.ref (b + 2), .ref (b + 9), .ref (b + 11), .ref (b + 37), .ref (b + 48), .int (nI (c1)), .int (nI (c2)), .int (nI (c3)), .int (nI (c4))])) := s0
  have h1 : xCd F (b + 2) (w) ((hLen w)) ((hVal (hLen w))) ((hOrd (hLen w))) ((hSum w)) := h1
  have h2 : xTx F (b + 9) (16) (dn) (ds) := h2
  have h3 : xQp F (b + 11) (k) (nx) (p) (m) := h3
  have h4 : xFr F (b + 37) (fk) (fb) (ftn) (fts) (fw) := h4
  have h5 : xTx F (b + 48) (16) (rn) (rs) := h5
  have hk8 : k ≤ 8 := h3.2.1.1
  refine x_aload_n hC d_MessageCoder_bitCount_0 rfl rfl ?_
  refine x_getf hC kf_MessageCoder_12 b0 rfl d_MessageCoder_bitCount_1 ?_
  refine x_getf hC kf_MessageCoder_136 s0 rfl d_MessageCoder_bitCount_4 ?_
  refine x_aload_n hC d_MessageCoder_bitCount_7 rfl rfl ?_
  refine x_iload_n hC d_MessageCoder_bitCount_8 rfl rfl ?_
  refine x_callXV hC hR kv_MessageCoder_216 (c_MessageCoder_messageOf (b0 := b0) (s0 := s0) (h3 := h3) (hZx := hZx)) (fun E9 F9 z9 hp9 => ⟨hp9.1, hp9.2.1, fun h9 => hp9.2.2 (by rw [idAt_ext hms]; exact h9)⟩) b0 rfl rfl (by decide) rfl rfl rfl (Nat.le_of_ble_eq_true rfl) (by decide) d_MessageCoder_bitCount_9 (fun r9 F9 z9 hp9 => ?_)
  obtain ⟨rfl, h9b, h9c, pn0_9⟩ := hp9
  rw [h9b, h9c]
  clear h9b h9c F9 z9
  have hk_r := pn0_9
  rw [idAt_ext hms] at hk_r
  obtain ⟨r, hr_r⟩ : ∃ q9, q9 = idAt ms a k := ⟨_, rfl⟩
  have he_r : idAt m a k = r := (idAt_ext hms).trans hr_r.symm
  rw [he_r]
  rw [← hr_r] at hk_r
  have hp_r : p r < 8 := h3.2.2.2.1 r (by omega)
  have hm_r : xMs F (b + 13 + 3 * p r) ((ms r).1) ((ms r).2.1) ((ms r).2.2.1) ((ms r).2.2.2) := by rw [← hms r hk_r]; exact h3.2.2.2.2.2 r (by omega)
  have hl_r : (ms r).2.2.1 ≤ 16 := hm_r.2.1.2.1.1
  refine x_getf hC kf_MessageCoder_222 hm_r.1 rfl d_MessageCoder_bitCount_12 ?_
  refine x_callV hC kv_MessageCoder_194 (c_Code_bitsFor (hc := h1) (ht := hm_r.2.1)) h1.1 rfl rfl (by decide) rfl rfl rfl (Nat.le_of_ble_eq_true rfl) (by decide) d_MessageCoder_bitCount_15 (fun r9 F9 z9 hp9 => ?_)
  obtain ⟨rfl, h9b, h9c⟩ := hp9
  rw [h9b, h9c]
  clear h9b h9c F9 z9
  exact hret _ _ _ _ _ _ _ d_MessageCoder_bitCount_18 (by decide) (by decide) rfl (⟨congrArg (fun q => some (Value.int (nI q))) (by rw [hr_r]), rfl, rfl, (show idAt ms a k < k from (by rw [← hr_r]; exact hk_r))⟩)

theorem d_MessageCoder_bitAt_0 : decode prog_1_method_32_code 0 = .ok (.aload_n 0, 1) := by decide +kernel
theorem d_MessageCoder_bitAt_1 : decode prog_1_method_32_code 1 = .ok (.getfield 42, 3) := by decide +kernel
theorem d_MessageCoder_bitAt_4 : decode prog_1_method_32_code 4 = .ok (.aload_n 0, 1) := by decide +kernel
theorem d_MessageCoder_bitAt_5 : decode prog_1_method_32_code 5 = .ok (.iload_n 1, 1) := by decide +kernel
theorem d_MessageCoder_bitAt_6 : decode prog_1_method_32_code 6 = .ok (.invokevirtual 216, 3) := by decide +kernel
theorem d_MessageCoder_bitAt_9 : decode prog_1_method_32_code 9 = .ok (.getfield 222, 3) := by decide +kernel
theorem d_MessageCoder_bitAt_12 : decode prog_1_method_32_code 12 = .ok (.aload_n 0, 1) := by decide +kernel
theorem d_MessageCoder_bitAt_13 : decode prog_1_method_32_code 13 = .ok (.getfield 12, 3) := by decide +kernel
theorem d_MessageCoder_bitAt_16 : decode prog_1_method_32_code 16 = .ok (.getfield 136, 3) := by decide +kernel
theorem d_MessageCoder_bitAt_19 : decode prog_1_method_32_code 19 = .ok (.invokevirtual 232, 3) := by decide +kernel
theorem d_MessageCoder_bitAt_22 : decode prog_1_method_32_code 22 = .ok (.iload_n 2, 1) := by decide +kernel
theorem d_MessageCoder_bitAt_23 : decode prog_1_method_32_code 23 = .ok (.ifCond .lt 14, 3) := by decide +kernel
theorem d_MessageCoder_bitAt_26 : decode prog_1_method_32_code 26 = .ok (.iload_n 2, 1) := by decide +kernel
theorem d_MessageCoder_bitAt_27 : decode prog_1_method_32_code 27 = .ok (.aload_n 0, 1) := by decide +kernel
theorem d_MessageCoder_bitAt_28 : decode prog_1_method_32_code 28 = .ok (.getfield 42, 3) := by decide +kernel
theorem d_MessageCoder_bitAt_31 : decode prog_1_method_32_code 31 = .ok (.getfield 236, 3) := by decide +kernel
theorem d_MessageCoder_bitAt_34 : decode prog_1_method_32_code 34 = .ok (.if_icmp .lt 13, 3) := by decide +kernel
theorem d_MessageCoder_bitAt_37 : decode prog_1_method_32_code 37 = .ok (.new 126, 3) := by decide +kernel
theorem d_MessageCoder_bitAt_40 : decode prog_1_method_32_code 40 = .ok (.dup, 1) := by decide +kernel
theorem d_MessageCoder_bitAt_41 : decode prog_1_method_32_code 41 = .ok (.ldc 188, 2) := by decide +kernel
theorem d_MessageCoder_bitAt_43 : decode prog_1_method_32_code 43 = .ok (.invokespecial 130, 3) := by decide +kernel
theorem d_MessageCoder_bitAt_46 : decode prog_1_method_32_code 46 = .ok (.athrow, 1) := by decide +kernel
theorem d_MessageCoder_bitAt_47 : decode prog_1_method_32_code 47 = .ok (.aload_n 0, 1) := by decide +kernel
theorem d_MessageCoder_bitAt_48 : decode prog_1_method_32_code 48 = .ok (.getfield 42, 3) := by decide +kernel
theorem d_MessageCoder_bitAt_51 : decode prog_1_method_32_code 51 = .ok (.iload_n 2, 1) := by decide +kernel
theorem d_MessageCoder_bitAt_52 : decode prog_1_method_32_code 52 = .ok (.invokevirtual 237, 3) := by decide +kernel
theorem d_MessageCoder_bitAt_55 : decode prog_1_method_32_code 55 = .ok (.ireturn, 1) := by decide +kernel
set_option maxHeartbeats 4000000 in
set_option maxRecDepth 20000 in
theorem c_MessageCoder_bitAt {P : xP} {F : xF} {z : Nat} {b : Nat} {cm : cmT} {M : mcS} {a : Int32} {i : Int32} (hM : xMC F (cm) (b) (M)) (hZx : xZx P) : xMx P xy_MessageCoder_bitAt [.ref b, .int a, .int i] F (z) 2 12 (fun r9 F9 z9 => r9 = some (.int (nI (splB (hLen M.1.1) (hVal (hLen M.1.1)) (mAt M.1 a).2.2.2 (mAt M.1 a).2.2.1 i.toNatClampNeg))) ∧ z9 = z ∧ xMC F9 (cm) (b) (M) ∧ (mOk M.1 a) ∧ (0 ≤ i ∧ i < nI (bitsN (hLen M.1.1) (mAt M.1 a).2.2.2 (mAt M.1 a).2.2.1)) ∧ (∀ a9 : Nat, (a9 < b ∨ b + 566 ≤ a9) → F9 a9 = F a9)) (fun E9 F9 z9 => (E9 = "java/util/NoSuchElementException" ∧ xMC F9 (cm) (b) (M) ∧ (¬ mOk M.1 a) ∧ (∀ a9 : Nat, (a9 < b ∨ b + 566 ≤ a9) → F9 a9 = F a9)) ∨ (E9 = "java/lang/IndexOutOfBoundsException" ∧ xMC F9 (cm) (b) (M) ∧ (mOk M.1 a ∧ ¬ (0 ≤ i ∧ i < nI (bitsN (hLen M.1.1) (mAt M.1 a).2.2.2 (mAt M.1 a).2.2.1))) ∧ (∀ a9 : Nat, (a9 < b ∨ b + 566 ≤ a9) → F9 a9 = F a9))) := by
  refine xMx_i .int rfl (Nat.le_of_ble_eq_true rfl) (L0 := [some (.ref b), some (.int a), some (.int i)]) rfl rfl fun Θ hC hR hret => ?_
  have hag : ∀ a9 : Nat, (a9 < b ∨ b + 566 ≤ a9) → F a9 = F a9 := fun a9 _ => rfl
  obtain ⟨A, S, past, ⟨pn, psg⟩, ⟨lnn, lsg⟩, sv, pp, un, ep, fc⟩ := M
  obtain ⟨b0, hs, hv, ⟨pf, hpa, hpf⟩, ⟨cc, pa, f1, f2, hf, K, p0, hK⟩, hin, hli, ⟨nb, fb9, hbt⟩, hrg, ⟨tn, tsg, htr⟩, ⟨cr, hcr⟩, hps⟩ := id hM
  obtain ⟨w, ⟨dn, ds⟩, ⟨k, nx, ms⟩, ⟨fk, fb, ftn, fts, fw⟩, ⟨rn, rs⟩, c1, c2, c3, c4⟩ := A
  obtain ⟨s0, h1, h2, ⟨p, m, h3, hms⟩, h4, h5⟩ := id hs
  have hms : ∀ i, i < k → m i = ms i := hms
  have b0 : F (b) = some (.inl (9, [.ref (b + 1), .ref (b + 50), .ref (b + 99), .ref (b + 100), .ref (b + 107), .ref (b + 109), .ref (b + 111), .ref (b + 122), .ref (b + 124), .int (nI (sv)), .int (nI (pp)), .int (nI (un)), .int ep, .int fc])) := b0
  have hv : xSt F (b + 50) (S) := hv
  have hpa : F (b + 99) = some (.inr (4, 9, pf)) := hpa
  have p0 : F (b + 100) = some (.inl (4, [.ref (b + 101), .ref (b + 103), .ref (b + 104), .ref (b + 105), .ref (b + 106), .int (nI (K.1)), .int (nI (cc)), .int (nI (pa)), .int (nI (f1)), .int (nI (f2)), .int (nI (hf))])) := p0
  have hK : xPk F (b + 100) (cm.2.1) (K) := hK
  have hin : xTx F (b + 101) (60) (pn) (psg) := hin
  have hli : xTx F (b + 107) (32) (lnn) (lsg) := hli
  have hbt : xBt F (b + 109) (nb) (fb9) := hbt
  have hrg : xRg F (b + 111) := hrg
  have htr : xTx F (b + 122) (16) (tn) (tsg) := htr
  have hcr : F (b + 124) = some (.inr (0, 17, fun b9 => .int (nI (cr b9)))) := hcr
  have hps : xPs F (b) (past) := hps
  have s0 : F (b + 1) = some (.inl (7, [.ref (b + 2), .ref (b + 9), .ref (b + 11), .ref (b + 37), .ref (b + 48), .int (nI (c1)), .int (nI (c2)), .int (nI (c3)), .int (nI (c4))])) := s0
  have h1 : xCd F (b + 2) (w) ((hLen w)) ((hVal (hLen w))) ((hOrd (hLen w))) ((hSum w)) := h1
  have h2 : xTx F (b + 9) (16) (dn) (ds) := h2
  have h3 : xQp F (b + 11) (k) (nx) (p) (m) := h3
  have h4 : xFr F (b + 37) (fk) (fb) (ftn) (fts) (fw) := h4
  have h5 : xTx F (b + 48) (16) (rn) (rs) := h5
  have hk8 : k ≤ 8 := h3.2.1.1
  refine x_aload_n hC d_MessageCoder_bitAt_0 rfl rfl ?_
  refine x_getf hC kf_MessageCoder_42 b0 rfl d_MessageCoder_bitAt_1 ?_
  refine x_aload_n hC d_MessageCoder_bitAt_4 rfl rfl ?_
  refine x_iload_n hC d_MessageCoder_bitAt_5 rfl rfl ?_
  refine x_callXV hC hR kv_MessageCoder_216 (c_MessageCoder_messageOf (b0 := b0) (s0 := s0) (h3 := h3) (hZx := hZx)) (fun E9 F9 z9 hp9 => Or.inl (⟨hp9.1, by rw [hp9.2.1]; exact ⟨b0, ⟨s0, h1, h2, ⟨p, m, h3, hms⟩, h4, h5⟩, hv, ⟨pf, hpa, hpf⟩, ⟨_, _, _, _, _, _, p0, hK⟩, hin, hli, ⟨_, _, hbt⟩, hrg, ⟨_, _, htr⟩, ⟨_, hcr⟩, hps⟩, fun h9 => hp9.2.2 (by rw [idAt_ext hms]; exact h9), by rw [hp9.2.1]; exact hag⟩)) b0 rfl rfl (by decide) rfl rfl rfl (Nat.le_of_ble_eq_true rfl) (by decide) d_MessageCoder_bitAt_6 (fun r9 F9 z9 hp9 => ?_)
  obtain ⟨rfl, h9b, h9c, pn0_6⟩ := hp9
  rw [h9b, h9c]
  clear h9b h9c F9 z9
  have hk_r := pn0_6
  rw [idAt_ext hms] at hk_r
  obtain ⟨r, hr_r⟩ : ∃ q9, q9 = idAt ms a k := ⟨_, rfl⟩
  have he_r : idAt m a k = r := (idAt_ext hms).trans hr_r.symm
  rw [he_r]
  rw [← hr_r] at hk_r
  have hp_r : p r < 8 := h3.2.2.2.1 r (by omega)
  have hm_r : xMs F (b + 13 + 3 * p r) ((ms r).1) ((ms r).2.1) ((ms r).2.2.1) ((ms r).2.2.2) := by rw [← hms r hk_r]; exact h3.2.2.2.2.2 r (by omega)
  have hl_r : (ms r).2.2.1 ≤ 16 := hm_r.2.1.2.1.1
  refine x_getf hC kf_MessageCoder_222 hm_r.1 rfl d_MessageCoder_bitAt_9 ?_
  refine x_aload_n hC d_MessageCoder_bitAt_12 rfl rfl ?_
  refine x_getf hC kf_MessageCoder_12 b0 rfl d_MessageCoder_bitAt_13 ?_
  refine x_getf hC kf_MessageCoder_136 s0 rfl d_MessageCoder_bitAt_16 ?_
  refine x_callV hC kv_MessageCoder_232 (c_Bits_spell (hb := hbt) (ht := hm_r.2.1) (hc := h1) (hn16 := by omega) (hd1 := by omega) (hd2 := by omega)) hbt.1 rfl rfl (by decide) rfl rfl rfl (Nat.le_of_ble_eq_true rfl) (by decide) d_MessageCoder_bitAt_19 (fun r9 F9 z9 hp9 => ?_)
  obtain ⟨rfl, h9c, j0, j1, j2, hag9⟩ := hp9
  rw [h9c]
  clear h9c z9
  generalize F9 = F1 at *
  have b0 : F1 (b) = some (.inl (9, [.ref (b + 1), .ref (b + 50), .ref (b + 99), .ref (b + 100), .ref (b + 107), .ref (b + 109), .ref (b + 111), .ref (b + 122), .ref (b + 124), .int (nI (sv)), .int (nI (pp)), .int (nI (un)), .int ep, .int fc])) := (hag9 _ (by omega)).trans b0
  have hv : xSt F1 (b + 50) (S) := xSt_fr hv (fun a9 q1 q2 => hag9 a9 (by omega))
  have hpa : F1 (b + 99) = some (.inr (4, 9, pf)) := (hag9 _ (by omega)).trans hpa
  have p0 : F1 (b + 100) = some (.inl (4, [.ref (b + 101), .ref (b + 103), .ref (b + 104), .ref (b + 105), .ref (b + 106), .int (nI (K.1)), .int (nI (cc)), .int (nI (pa)), .int (nI (f1)), .int (nI (f2)), .int (nI (hf))])) := (hag9 _ (by omega)).trans p0
  have hK : xPk F1 (b + 100) (cm.2.1) (K) := xPk_fr hK (fun a9 q1 q2 => hag9 a9 (by omega))
  have hin : xTx F1 (b + 101) (60) (pn) (psg) := xTx_fr hin (fun a9 q1 q2 => hag9 a9 (by omega))
  have hli : xTx F1 (b + 107) (32) (lnn) (lsg) := xTx_fr hli (fun a9 q1 q2 => hag9 a9 (by omega))
  have hrg : xRg F1 (b + 111) := xRg_fr hrg (fun a9 q1 q2 => hag9 a9 (by omega))
  have htr : xTx F1 (b + 122) (16) (tn) (tsg) := xTx_fr htr (fun a9 q1 q2 => hag9 a9 (by omega))
  have hcr : F1 (b + 124) = some (.inr (0, 17, fun b9 => .int (nI (cr b9)))) := (hag9 _ (by omega)).trans hcr
  have hps : xPs F1 (b) (past) := xPs_fr hps (fun a9 q1 q2 => hag9 a9 (by omega))
  have s0 : F1 (b + 1) = some (.inl (7, [.ref (b + 2), .ref (b + 9), .ref (b + 11), .ref (b + 37), .ref (b + 48), .int (nI (c1)), .int (nI (c2)), .int (nI (c3)), .int (nI (c4))])) := (hag9 _ (by omega)).trans s0
  have h2 : xTx F1 (b + 9) (16) (dn) (ds) := xTx_fr h2 (fun a9 q1 q2 => hag9 a9 (by omega))
  have h3 : xQp F1 (b + 11) (k) (nx) (p) (m) := xQp_fr h3 (fun a9 q1 q2 => hag9 a9 (by omega))
  have h4 : xFr F1 (b + 37) (fk) (fb) (ftn) (fts) (fw) := xFr_fr h4 (fun a9 q1 q2 => hag9 a9 (by omega))
  have h5 : xTx F1 (b + 48) (16) (rn) (rs) := xTx_fr h5 (fun a9 q1 q2 => hag9 a9 (by omega))
  have hm_r : xMs F1 (b + 13 + 3 * p r) ((ms r).1) ((ms r).2.1) ((ms r).2.2.1) ((ms r).2.2.2) := xMs_fr hm_r (fun a9 q1 q2 => hag9 a9 (by omega))
  have hbt : xBt F1 ((b + 109)) ((bitsN (hLen w) ((ms r).2.2.2) ((ms r).2.2.1))) ((splB (hLen w) (hVal (hLen w)) ((ms r).2.2.2) ((ms r).2.2.1))) := j0
  have hnht_19 : xTx F1 ((b + 13 + 3 * p r + 1)) (16) (((ms r).2.2.1)) (((ms r).2.2.2)) := j1
  have h1 : xCd F1 ((b + 2)) (w) ((hLen w)) ((hVal (hLen w))) ((hOrd (hLen w))) ((hSum w)) := j2
  have hag : ∀ a9 : Nat, (a9 < b ∨ b + 566 ≤ a9) → F1 a9 = F a9 := fun a9 q0 => (hag9 a9 (by omega)).trans (hag a9 q0)
  have hg_19 := hag9
  clear hag9
  have hbn9 := hbt.2.1
  refine x_iload_n hC d_MessageCoder_bitAt_22 rfl rfl ?_
  refine x_if_lt hC d_MessageCoder_bitAt_23 (tgt := 37) (by decide) (fun c_23 => ?_) (fun c_23 => ?_)
  · skip
    refine x_thr hC hR hZx (xtw2_IndexOutOfBoundsException _ _ xsr_188) rfl (Nat.le_of_ble_eq_true rfl) (by decide) (by decide) d_MessageCoder_bitAt_37 d_MessageCoder_bitAt_40 d_MessageCoder_bitAt_41 d_MessageCoder_bitAt_43 d_MessageCoder_bitAt_46 (fun z9 hz9 => ?_)
    exact Or.inr ⟨rfl, ⟨b0, ⟨s0, h1, h2, ⟨p, m, h3, hms⟩, h4, h5⟩, hv, ⟨pf, hpa, hpf⟩, ⟨_, _, _, _, _, _, p0, hK⟩, hin, hli, ⟨_, _, hbt⟩, hrg, ⟨_, _, htr⟩, ⟨_, hcr⟩, hps⟩, ⟨(show idAt ms a k < k from (by rw [← hr_r]; exact hk_r)), (show ¬ (0 ≤ i ∧ i < nI (bitsN (hLen w) (ms (idAt ms a k)).2.2.2 (ms (idAt ms a k)).2.2.1)) from (by rw [← hr_r]; exact fun h9 => k2_nlt h9.1 c_23))⟩, hag⟩
  · skip
    refine x_iload_n hC d_MessageCoder_bitAt_26 rfl rfl ?_
    refine x_aload_n hC d_MessageCoder_bitAt_27 rfl rfl ?_
    refine x_getf hC kf_MessageCoder_42 b0 rfl d_MessageCoder_bitAt_28 ?_
    refine x_getf hC kf_MessageCoder_236 hbt.1 rfl d_MessageCoder_bitAt_31 ?_
    refine x_icmp_lt hC d_MessageCoder_bitAt_34 (tgt := 47) (by decide) (fun c_34 => ?_) (fun c_34 => ?_)
    · skip
      have hi2 : 0 ≤ i := k2_le c_23
      have hi0 := i2n_of hi2
      have hi1 := i2n_lt hi2 c_34 (by omega)
      refine x_aload_n hC d_MessageCoder_bitAt_47 rfl rfl ?_
      refine x_getf hC kf_MessageCoder_42 b0 rfl d_MessageCoder_bitAt_48 ?_
      refine x_iload_n hC d_MessageCoder_bitAt_51 rfl rfl ?_
      refine x_top (v := (nI i.toNatClampNeg - nI 0)) (hi0.trans (x_sub0 _)) ?_
      refine x_callV hC kv_MessageCoder_237 (c_Bits_at (hb := hbt) (hq := by omega) (hlz := by decide) (q := i.toNatClampNeg) (lz := 0)) hbt.1 rfl rfl (by decide) rfl rfl rfl (Nat.le_of_ble_eq_true rfl) (by decide) d_MessageCoder_bitAt_52 (fun r9 F9 z9 hp9 => ?_)
      obtain ⟨rfl, h9b, h9c⟩ := hp9
      rw [h9b, h9c]
      clear h9b h9c F9 z9
      exact hret _ _ _ _ _ _ _ d_MessageCoder_bitAt_55 (by decide) (by decide) rfl (⟨congrArg (fun q => some (Value.int (nI q))) (by rw [zbt, if_pos ⟨Nat.zero_le _, by rw [Nat.sub_zero]; exact hi1⟩, Nat.sub_zero, hr_r]), rfl, ⟨b0, ⟨s0, h1, h2, ⟨p, m, h3, hms⟩, h4, h5⟩, hv, ⟨pf, hpa, hpf⟩, ⟨_, _, _, _, _, _, p0, hK⟩, hin, hli, ⟨_, _, hbt⟩, hrg, ⟨_, _, htr⟩, ⟨_, hcr⟩, hps⟩, (show idAt ms a k < k from (by rw [← hr_r]; exact hk_r)), (show 0 ≤ i ∧ i < nI (bitsN (hLen w) (ms (idAt ms a k)).2.2.2 (ms (idAt ms a k)).2.2.1) from (by rw [← hr_r]; exact ⟨hi2, c_34⟩)), hag⟩)
    · skip
      refine x_thr hC hR hZx (xtw2_IndexOutOfBoundsException _ _ xsr_188) rfl (Nat.le_of_ble_eq_true rfl) (by decide) (by decide) d_MessageCoder_bitAt_37 d_MessageCoder_bitAt_40 d_MessageCoder_bitAt_41 d_MessageCoder_bitAt_43 d_MessageCoder_bitAt_46 (fun z9 hz9 => ?_)
      exact Or.inr ⟨rfl, ⟨b0, ⟨s0, h1, h2, ⟨p, m, h3, hms⟩, h4, h5⟩, hv, ⟨pf, hpa, hpf⟩, ⟨_, _, _, _, _, _, p0, hK⟩, hin, hli, ⟨_, _, hbt⟩, hrg, ⟨_, _, htr⟩, ⟨_, hcr⟩, hps⟩, ⟨(show idAt ms a k < k from (by rw [← hr_r]; exact hk_r)), (show ¬ (0 ≤ i ∧ i < nI (bitsN (hLen w) (ms (idAt ms a k)).2.2.2 (ms (idAt ms a k)).2.2.1)) from (by rw [← hr_r]; exact fun h9 => c_34 h9.2))⟩, hag⟩

theorem d_MessageCoder_checksum_0 : decode prog_1_method_33_code 0 = .ok (.aload_n 0, 1) := by decide +kernel
theorem d_MessageCoder_checksum_1 : decode prog_1_method_33_code 1 = .ok (.getfield 42, 3) := by decide +kernel
theorem d_MessageCoder_checksum_4 : decode prog_1_method_33_code 4 = .ok (.aload_n 0, 1) := by decide +kernel
theorem d_MessageCoder_checksum_5 : decode prog_1_method_33_code 5 = .ok (.iload_n 1, 1) := by decide +kernel
theorem d_MessageCoder_checksum_6 : decode prog_1_method_33_code 6 = .ok (.invokevirtual 216, 3) := by decide +kernel
theorem d_MessageCoder_checksum_9 : decode prog_1_method_33_code 9 = .ok (.getfield 222, 3) := by decide +kernel
theorem d_MessageCoder_checksum_12 : decode prog_1_method_33_code 12 = .ok (.aload_n 0, 1) := by decide +kernel
theorem d_MessageCoder_checksum_13 : decode prog_1_method_33_code 13 = .ok (.getfield 12, 3) := by decide +kernel
theorem d_MessageCoder_checksum_16 : decode prog_1_method_33_code 16 = .ok (.getfield 136, 3) := by decide +kernel
theorem d_MessageCoder_checksum_19 : decode prog_1_method_33_code 19 = .ok (.invokevirtual 232, 3) := by decide +kernel
theorem d_MessageCoder_checksum_22 : decode prog_1_method_33_code 22 = .ok (.aload_n 0, 1) := by decide +kernel
theorem d_MessageCoder_checksum_23 : decode prog_1_method_33_code 23 = .ok (.getfield 42, 3) := by decide +kernel
theorem d_MessageCoder_checksum_26 : decode prog_1_method_33_code 26 = .ok (.invokevirtual 240, 3) := by decide +kernel
theorem d_MessageCoder_checksum_29 : decode prog_1_method_33_code 29 = .ok (.ireturn, 1) := by decide +kernel
set_option maxHeartbeats 4000000 in
set_option maxRecDepth 20000 in
theorem c_MessageCoder_checksum {P : xP} {F : xF} {z : Nat} {b : Nat} {cm : cmT} {M : mcS} {a : Int32} (hM : xMC F (cm) (b) (M)) (hZx : xZx P) : xMx P xy_MessageCoder_checksum [.ref b, .int a] F (z) 1 6 (fun r9 F9 z9 => r9 = some (.int (nI (crcB (bitsN (hLen M.1.1) (mAt M.1 a).2.2.2 (mAt M.1 a).2.2.1) (splB (hLen M.1.1) (hVal (hLen M.1.1)) (mAt M.1 a).2.2.2 (mAt M.1 a).2.2.1) (bitsN (hLen M.1.1) (mAt M.1 a).2.2.2 (mAt M.1 a).2.2.1 + 4)))) ∧ z9 = z ∧ xMC F9 (cm) (b) (M) ∧ (mOk M.1 a) ∧ (∀ a9 : Nat, (a9 < b ∨ b + 566 ≤ a9) → F9 a9 = F a9)) (fun E9 F9 z9 => (E9 = "java/util/NoSuchElementException" ∧ xMC F9 (cm) (b) (M) ∧ (¬ mOk M.1 a) ∧ (∀ a9 : Nat, (a9 < b ∨ b + 566 ≤ a9) → F9 a9 = F a9))) := by
  refine xMx_i .int rfl (Nat.le_of_ble_eq_true rfl) (L0 := [some (.ref b), some (.int a)]) rfl rfl fun Θ hC hR hret => ?_
  have hag : ∀ a9 : Nat, (a9 < b ∨ b + 566 ≤ a9) → F a9 = F a9 := fun a9 _ => rfl
  obtain ⟨A, S, past, ⟨pn, psg⟩, ⟨lnn, lsg⟩, sv, pp, un, ep, fc⟩ := M
  obtain ⟨b0, hs, hv, ⟨pf, hpa, hpf⟩, ⟨cc, pa, f1, f2, hf, K, p0, hK⟩, hin, hli, ⟨nb, fb9, hbt⟩, hrg, ⟨tn, tsg, htr⟩, ⟨cr, hcr⟩, hps⟩ := id hM
  obtain ⟨w, ⟨dn, ds⟩, ⟨k, nx, ms⟩, ⟨fk, fb, ftn, fts, fw⟩, ⟨rn, rs⟩, c1, c2, c3, c4⟩ := A
  obtain ⟨s0, h1, h2, ⟨p, m, h3, hms⟩, h4, h5⟩ := id hs
  have hms : ∀ i, i < k → m i = ms i := hms
  have b0 : F (b) = some (.inl (9, [.ref (b + 1), .ref (b + 50), .ref (b + 99), .ref (b + 100), .ref (b + 107), .ref (b + 109), .ref (b + 111), .ref (b + 122), .ref (b + 124), .int (nI (sv)), .int (nI (pp)), .int (nI (un)), .int ep, .int fc])) := b0
  have hv : xSt F (b + 50) (S) := hv
  have hpa : F (b + 99) = some (.inr (4, 9, pf)) := hpa
  have p0 : F (b + 100) = some (.inl (4, [.ref (b + 101), .ref (b + 103), .ref (b + 104), .ref (b + 105), .ref (b + 106), .int (nI (K.1)), .int (nI (cc)), .int (nI (pa)), .int (nI (f1)), .int (nI (f2)), .int (nI (hf))])) := p0
  have hK : xPk F (b + 100) (cm.2.1) (K) := hK
  have hin : xTx F (b + 101) (60) (pn) (psg) := hin
  have hli : xTx F (b + 107) (32) (lnn) (lsg) := hli
  have hbt : xBt F (b + 109) (nb) (fb9) := hbt
  have hrg : xRg F (b + 111) := hrg
  have htr : xTx F (b + 122) (16) (tn) (tsg) := htr
  have hcr : F (b + 124) = some (.inr (0, 17, fun b9 => .int (nI (cr b9)))) := hcr
  have hps : xPs F (b) (past) := hps
  have s0 : F (b + 1) = some (.inl (7, [.ref (b + 2), .ref (b + 9), .ref (b + 11), .ref (b + 37), .ref (b + 48), .int (nI (c1)), .int (nI (c2)), .int (nI (c3)), .int (nI (c4))])) := s0
  have h1 : xCd F (b + 2) (w) ((hLen w)) ((hVal (hLen w))) ((hOrd (hLen w))) ((hSum w)) := h1
  have h2 : xTx F (b + 9) (16) (dn) (ds) := h2
  have h3 : xQp F (b + 11) (k) (nx) (p) (m) := h3
  have h4 : xFr F (b + 37) (fk) (fb) (ftn) (fts) (fw) := h4
  have h5 : xTx F (b + 48) (16) (rn) (rs) := h5
  have hk8 : k ≤ 8 := h3.2.1.1
  refine x_aload_n hC d_MessageCoder_checksum_0 rfl rfl ?_
  refine x_getf hC kf_MessageCoder_42 b0 rfl d_MessageCoder_checksum_1 ?_
  refine x_aload_n hC d_MessageCoder_checksum_4 rfl rfl ?_
  refine x_iload_n hC d_MessageCoder_checksum_5 rfl rfl ?_
  refine x_callXV hC hR kv_MessageCoder_216 (c_MessageCoder_messageOf (b0 := b0) (s0 := s0) (h3 := h3) (hZx := hZx)) (fun E9 F9 z9 hp9 => ⟨hp9.1, by rw [hp9.2.1]; exact ⟨b0, ⟨s0, h1, h2, ⟨p, m, h3, hms⟩, h4, h5⟩, hv, ⟨pf, hpa, hpf⟩, ⟨_, _, _, _, _, _, p0, hK⟩, hin, hli, ⟨_, _, hbt⟩, hrg, ⟨_, _, htr⟩, ⟨_, hcr⟩, hps⟩, fun h9 => hp9.2.2 (by rw [idAt_ext hms]; exact h9), by rw [hp9.2.1]; exact hag⟩) b0 rfl rfl (by decide) rfl rfl rfl (Nat.le_of_ble_eq_true rfl) (by decide) d_MessageCoder_checksum_6 (fun r9 F9 z9 hp9 => ?_)
  obtain ⟨rfl, h9b, h9c, pn0_6⟩ := hp9
  rw [h9b, h9c]
  clear h9b h9c F9 z9
  have hk_r := pn0_6
  rw [idAt_ext hms] at hk_r
  obtain ⟨r, hr_r⟩ : ∃ q9, q9 = idAt ms a k := ⟨_, rfl⟩
  have he_r : idAt m a k = r := (idAt_ext hms).trans hr_r.symm
  rw [he_r]
  rw [← hr_r] at hk_r
  have hp_r : p r < 8 := h3.2.2.2.1 r (by omega)
  have hm_r : xMs F (b + 13 + 3 * p r) ((ms r).1) ((ms r).2.1) ((ms r).2.2.1) ((ms r).2.2.2) := by rw [← hms r hk_r]; exact h3.2.2.2.2.2 r (by omega)
  have hl_r : (ms r).2.2.1 ≤ 16 := hm_r.2.1.2.1.1
  refine x_getf hC kf_MessageCoder_222 hm_r.1 rfl d_MessageCoder_checksum_9 ?_
  refine x_aload_n hC d_MessageCoder_checksum_12 rfl rfl ?_
  refine x_getf hC kf_MessageCoder_12 b0 rfl d_MessageCoder_checksum_13 ?_
  refine x_getf hC kf_MessageCoder_136 s0 rfl d_MessageCoder_checksum_16 ?_
  refine x_callV hC kv_MessageCoder_232 (c_Bits_spell (hb := hbt) (ht := hm_r.2.1) (hc := h1) (hn16 := by omega) (hd1 := by omega) (hd2 := by omega)) hbt.1 rfl rfl (by decide) rfl rfl rfl (Nat.le_of_ble_eq_true rfl) (by decide) d_MessageCoder_checksum_19 (fun r9 F9 z9 hp9 => ?_)
  obtain ⟨rfl, h9c, j0, j1, j2, hag9⟩ := hp9
  rw [h9c]
  clear h9c z9
  generalize F9 = F1 at *
  have b0 : F1 (b) = some (.inl (9, [.ref (b + 1), .ref (b + 50), .ref (b + 99), .ref (b + 100), .ref (b + 107), .ref (b + 109), .ref (b + 111), .ref (b + 122), .ref (b + 124), .int (nI (sv)), .int (nI (pp)), .int (nI (un)), .int ep, .int fc])) := (hag9 _ (by omega)).trans b0
  have hv : xSt F1 (b + 50) (S) := xSt_fr hv (fun a9 q1 q2 => hag9 a9 (by omega))
  have hpa : F1 (b + 99) = some (.inr (4, 9, pf)) := (hag9 _ (by omega)).trans hpa
  have p0 : F1 (b + 100) = some (.inl (4, [.ref (b + 101), .ref (b + 103), .ref (b + 104), .ref (b + 105), .ref (b + 106), .int (nI (K.1)), .int (nI (cc)), .int (nI (pa)), .int (nI (f1)), .int (nI (f2)), .int (nI (hf))])) := (hag9 _ (by omega)).trans p0
  have hK : xPk F1 (b + 100) (cm.2.1) (K) := xPk_fr hK (fun a9 q1 q2 => hag9 a9 (by omega))
  have hin : xTx F1 (b + 101) (60) (pn) (psg) := xTx_fr hin (fun a9 q1 q2 => hag9 a9 (by omega))
  have hli : xTx F1 (b + 107) (32) (lnn) (lsg) := xTx_fr hli (fun a9 q1 q2 => hag9 a9 (by omega))
  have hrg : xRg F1 (b + 111) := xRg_fr hrg (fun a9 q1 q2 => hag9 a9 (by omega))
  have htr : xTx F1 (b + 122) (16) (tn) (tsg) := xTx_fr htr (fun a9 q1 q2 => hag9 a9 (by omega))
  have hcr : F1 (b + 124) = some (.inr (0, 17, fun b9 => .int (nI (cr b9)))) := (hag9 _ (by omega)).trans hcr
  have hps : xPs F1 (b) (past) := xPs_fr hps (fun a9 q1 q2 => hag9 a9 (by omega))
  have s0 : F1 (b + 1) = some (.inl (7, [.ref (b + 2), .ref (b + 9), .ref (b + 11), .ref (b + 37), .ref (b + 48), .int (nI (c1)), .int (nI (c2)), .int (nI (c3)), .int (nI (c4))])) := (hag9 _ (by omega)).trans s0
  have h2 : xTx F1 (b + 9) (16) (dn) (ds) := xTx_fr h2 (fun a9 q1 q2 => hag9 a9 (by omega))
  have h3 : xQp F1 (b + 11) (k) (nx) (p) (m) := xQp_fr h3 (fun a9 q1 q2 => hag9 a9 (by omega))
  have h4 : xFr F1 (b + 37) (fk) (fb) (ftn) (fts) (fw) := xFr_fr h4 (fun a9 q1 q2 => hag9 a9 (by omega))
  have h5 : xTx F1 (b + 48) (16) (rn) (rs) := xTx_fr h5 (fun a9 q1 q2 => hag9 a9 (by omega))
  have hm_r : xMs F1 (b + 13 + 3 * p r) ((ms r).1) ((ms r).2.1) ((ms r).2.2.1) ((ms r).2.2.2) := xMs_fr hm_r (fun a9 q1 q2 => hag9 a9 (by omega))
  have hbt : xBt F1 ((b + 109)) ((bitsN (hLen w) ((ms r).2.2.2) ((ms r).2.2.1))) ((splB (hLen w) (hVal (hLen w)) ((ms r).2.2.2) ((ms r).2.2.1))) := j0
  have hnht_19 : xTx F1 ((b + 13 + 3 * p r + 1)) (16) (((ms r).2.2.1)) (((ms r).2.2.2)) := j1
  have h1 : xCd F1 ((b + 2)) (w) ((hLen w)) ((hVal (hLen w))) ((hOrd (hLen w))) ((hSum w)) := j2
  have hag : ∀ a9 : Nat, (a9 < b ∨ b + 566 ≤ a9) → F1 a9 = F a9 := fun a9 q0 => (hag9 a9 (by omega)).trans (hag a9 q0)
  have hg_19 := hag9
  clear hag9
  refine x_aload_n hC d_MessageCoder_checksum_22 rfl rfl ?_
  refine x_getf hC kf_MessageCoder_42 b0 rfl d_MessageCoder_checksum_23 ?_
  refine x_callV hC kv_MessageCoder_240 (c_Bits_remainder (hb := hbt)) hbt.1 rfl rfl (by decide) rfl rfl rfl (Nat.le_of_ble_eq_true rfl) (by decide) d_MessageCoder_checksum_26 (fun r9 F9 z9 hp9 => ?_)
  obtain ⟨rfl, h9b, h9c⟩ := hp9
  rw [h9b, h9c]
  clear h9b h9c F9 z9
  exact hret _ _ _ _ _ _ _ d_MessageCoder_checksum_29 (by decide) (by decide) rfl (⟨congrArg (fun q => some (Value.int (nI q))) (by rw [hr_r]), rfl, ⟨b0, ⟨s0, h1, h2, ⟨p, m, h3, hms⟩, h4, h5⟩, hv, ⟨pf, hpa, hpf⟩, ⟨_, _, _, _, _, _, p0, hK⟩, hin, hli, ⟨_, _, hbt⟩, hrg, ⟨_, _, htr⟩, ⟨_, hcr⟩, hps⟩, (show idAt ms a k < k from (by rw [← hr_r]; exact hk_r)), hag⟩)

theorem d_MessageCoder_checksumByTable_0 : decode prog_1_method_34_code 0 = .ok (.aload_n 0, 1) := by decide +kernel
theorem d_MessageCoder_checksumByTable_1 : decode prog_1_method_34_code 1 = .ok (.getfield 42, 3) := by decide +kernel
theorem d_MessageCoder_checksumByTable_4 : decode prog_1_method_34_code 4 = .ok (.aload_n 0, 1) := by decide +kernel
theorem d_MessageCoder_checksumByTable_5 : decode prog_1_method_34_code 5 = .ok (.iload_n 1, 1) := by decide +kernel
theorem d_MessageCoder_checksumByTable_6 : decode prog_1_method_34_code 6 = .ok (.invokevirtual 216, 3) := by decide +kernel
theorem d_MessageCoder_checksumByTable_9 : decode prog_1_method_34_code 9 = .ok (.getfield 222, 3) := by decide +kernel
theorem d_MessageCoder_checksumByTable_12 : decode prog_1_method_34_code 12 = .ok (.aload_n 0, 1) := by decide +kernel
theorem d_MessageCoder_checksumByTable_13 : decode prog_1_method_34_code 13 = .ok (.getfield 12, 3) := by decide +kernel
theorem d_MessageCoder_checksumByTable_16 : decode prog_1_method_34_code 16 = .ok (.getfield 136, 3) := by decide +kernel
theorem d_MessageCoder_checksumByTable_19 : decode prog_1_method_34_code 19 = .ok (.invokevirtual 232, 3) := by decide +kernel
theorem d_MessageCoder_checksumByTable_22 : decode prog_1_method_34_code 22 = .ok (.aload_n 0, 1) := by decide +kernel
theorem d_MessageCoder_checksumByTable_23 : decode prog_1_method_34_code 23 = .ok (.getfield 42, 3) := by decide +kernel
theorem d_MessageCoder_checksumByTable_26 : decode prog_1_method_34_code 26 = .ok (.invokevirtual 243, 3) := by decide +kernel
theorem d_MessageCoder_checksumByTable_29 : decode prog_1_method_34_code 29 = .ok (.ireturn, 1) := by decide +kernel
set_option maxHeartbeats 4000000 in
set_option maxRecDepth 20000 in
theorem c_MessageCoder_checksumByTable {P : xP} {F : xF} {z : Nat} {b : Nat} {cm : cmT} {M : mcS} {a : Int32} {rt : Nat} (hM : xMC F (cm) (b) (M)) (hZx : xZx P) (hSR : xSR P rt) : xMx P xy_MessageCoder_checksumByTable [.ref b, .int a] F (z) 1 6 (fun r9 F9 z9 => r9 = some (.int (nI (crcB (bitsN (hLen M.1.1) (mAt M.1 a).2.2.2 (mAt M.1 a).2.2.1) (splB (hLen M.1.1) (hVal (hLen M.1.1)) (mAt M.1 a).2.2.2 (mAt M.1 a).2.2.1) (bitsN (hLen M.1.1) (mAt M.1 a).2.2.2 (mAt M.1 a).2.2.1 + 4)))) ∧ z9 = z ∧ xMC F9 (cm) (b) (M) ∧ (mOk M.1 a) ∧ (∀ a9 : Nat, (a9 < b ∨ b + 566 ≤ a9) → F9 a9 = F a9)) (fun E9 F9 z9 => (E9 = "java/util/NoSuchElementException" ∧ xMC F9 (cm) (b) (M) ∧ (¬ mOk M.1 a) ∧ (∀ a9 : Nat, (a9 < b ∨ b + 566 ≤ a9) → F9 a9 = F a9))) := by
  refine xMx_i .int rfl (Nat.le_of_ble_eq_true rfl) (L0 := [some (.ref b), some (.int a)]) rfl rfl fun Θ hC hR hret => ?_
  have hag : ∀ a9 : Nat, (a9 < b ∨ b + 566 ≤ a9) → F a9 = F a9 := fun a9 _ => rfl
  obtain ⟨A, S, past, ⟨pn, psg⟩, ⟨lnn, lsg⟩, sv, pp, un, ep, fc⟩ := M
  obtain ⟨b0, hs, hv, ⟨pf, hpa, hpf⟩, ⟨cc, pa, f1, f2, hf, K, p0, hK⟩, hin, hli, ⟨nb, fb9, hbt⟩, hrg, ⟨tn, tsg, htr⟩, ⟨cr, hcr⟩, hps⟩ := id hM
  obtain ⟨w, ⟨dn, ds⟩, ⟨k, nx, ms⟩, ⟨fk, fb, ftn, fts, fw⟩, ⟨rn, rs⟩, c1, c2, c3, c4⟩ := A
  obtain ⟨s0, h1, h2, ⟨p, m, h3, hms⟩, h4, h5⟩ := id hs
  have hms : ∀ i, i < k → m i = ms i := hms
  have b0 : F (b) = some (.inl (9, [.ref (b + 1), .ref (b + 50), .ref (b + 99), .ref (b + 100), .ref (b + 107), .ref (b + 109), .ref (b + 111), .ref (b + 122), .ref (b + 124), .int (nI (sv)), .int (nI (pp)), .int (nI (un)), .int ep, .int fc])) := b0
  have hv : xSt F (b + 50) (S) := hv
  have hpa : F (b + 99) = some (.inr (4, 9, pf)) := hpa
  have p0 : F (b + 100) = some (.inl (4, [.ref (b + 101), .ref (b + 103), .ref (b + 104), .ref (b + 105), .ref (b + 106), .int (nI (K.1)), .int (nI (cc)), .int (nI (pa)), .int (nI (f1)), .int (nI (f2)), .int (nI (hf))])) := p0
  have hK : xPk F (b + 100) (cm.2.1) (K) := hK
  have hin : xTx F (b + 101) (60) (pn) (psg) := hin
  have hli : xTx F (b + 107) (32) (lnn) (lsg) := hli
  have hbt : xBt F (b + 109) (nb) (fb9) := hbt
  have hrg : xRg F (b + 111) := hrg
  have htr : xTx F (b + 122) (16) (tn) (tsg) := htr
  have hcr : F (b + 124) = some (.inr (0, 17, fun b9 => .int (nI (cr b9)))) := hcr
  have hps : xPs F (b) (past) := hps
  have s0 : F (b + 1) = some (.inl (7, [.ref (b + 2), .ref (b + 9), .ref (b + 11), .ref (b + 37), .ref (b + 48), .int (nI (c1)), .int (nI (c2)), .int (nI (c3)), .int (nI (c4))])) := s0
  have h1 : xCd F (b + 2) (w) ((hLen w)) ((hVal (hLen w))) ((hOrd (hLen w))) ((hSum w)) := h1
  have h2 : xTx F (b + 9) (16) (dn) (ds) := h2
  have h3 : xQp F (b + 11) (k) (nx) (p) (m) := h3
  have h4 : xFr F (b + 37) (fk) (fb) (ftn) (fts) (fw) := h4
  have h5 : xTx F (b + 48) (16) (rn) (rs) := h5
  have hk8 : k ≤ 8 := h3.2.1.1
  refine x_aload_n hC d_MessageCoder_checksumByTable_0 rfl rfl ?_
  refine x_getf hC kf_MessageCoder_42 b0 rfl d_MessageCoder_checksumByTable_1 ?_
  refine x_aload_n hC d_MessageCoder_checksumByTable_4 rfl rfl ?_
  refine x_iload_n hC d_MessageCoder_checksumByTable_5 rfl rfl ?_
  refine x_callXV hC hR kv_MessageCoder_216 (c_MessageCoder_messageOf (b0 := b0) (s0 := s0) (h3 := h3) (hZx := hZx)) (fun E9 F9 z9 hp9 => ⟨hp9.1, by rw [hp9.2.1]; exact ⟨b0, ⟨s0, h1, h2, ⟨p, m, h3, hms⟩, h4, h5⟩, hv, ⟨pf, hpa, hpf⟩, ⟨_, _, _, _, _, _, p0, hK⟩, hin, hli, ⟨_, _, hbt⟩, hrg, ⟨_, _, htr⟩, ⟨_, hcr⟩, hps⟩, fun h9 => hp9.2.2 (by rw [idAt_ext hms]; exact h9), by rw [hp9.2.1]; exact hag⟩) b0 rfl rfl (by decide) rfl rfl rfl (Nat.le_of_ble_eq_true rfl) (by decide) d_MessageCoder_checksumByTable_6 (fun r9 F9 z9 hp9 => ?_)
  obtain ⟨rfl, h9b, h9c, pn0_6⟩ := hp9
  rw [h9b, h9c]
  clear h9b h9c F9 z9
  have hk_r := pn0_6
  rw [idAt_ext hms] at hk_r
  obtain ⟨r, hr_r⟩ : ∃ q9, q9 = idAt ms a k := ⟨_, rfl⟩
  have he_r : idAt m a k = r := (idAt_ext hms).trans hr_r.symm
  rw [he_r]
  rw [← hr_r] at hk_r
  have hp_r : p r < 8 := h3.2.2.2.1 r (by omega)
  have hm_r : xMs F (b + 13 + 3 * p r) ((ms r).1) ((ms r).2.1) ((ms r).2.2.1) ((ms r).2.2.2) := by rw [← hms r hk_r]; exact h3.2.2.2.2.2 r (by omega)
  have hl_r : (ms r).2.2.1 ≤ 16 := hm_r.2.1.2.1.1
  refine x_getf hC kf_MessageCoder_222 hm_r.1 rfl d_MessageCoder_checksumByTable_9 ?_
  refine x_aload_n hC d_MessageCoder_checksumByTable_12 rfl rfl ?_
  refine x_getf hC kf_MessageCoder_12 b0 rfl d_MessageCoder_checksumByTable_13 ?_
  refine x_getf hC kf_MessageCoder_136 s0 rfl d_MessageCoder_checksumByTable_16 ?_
  refine x_callV hC kv_MessageCoder_232 (c_Bits_spell (hb := hbt) (ht := hm_r.2.1) (hc := h1) (hn16 := by omega) (hd1 := by omega) (hd2 := by omega)) hbt.1 rfl rfl (by decide) rfl rfl rfl (Nat.le_of_ble_eq_true rfl) (by decide) d_MessageCoder_checksumByTable_19 (fun r9 F9 z9 hp9 => ?_)
  obtain ⟨rfl, h9c, j0, j1, j2, hag9⟩ := hp9
  rw [h9c]
  clear h9c z9
  generalize F9 = F1 at *
  have b0 : F1 (b) = some (.inl (9, [.ref (b + 1), .ref (b + 50), .ref (b + 99), .ref (b + 100), .ref (b + 107), .ref (b + 109), .ref (b + 111), .ref (b + 122), .ref (b + 124), .int (nI (sv)), .int (nI (pp)), .int (nI (un)), .int ep, .int fc])) := (hag9 _ (by omega)).trans b0
  have hv : xSt F1 (b + 50) (S) := xSt_fr hv (fun a9 q1 q2 => hag9 a9 (by omega))
  have hpa : F1 (b + 99) = some (.inr (4, 9, pf)) := (hag9 _ (by omega)).trans hpa
  have p0 : F1 (b + 100) = some (.inl (4, [.ref (b + 101), .ref (b + 103), .ref (b + 104), .ref (b + 105), .ref (b + 106), .int (nI (K.1)), .int (nI (cc)), .int (nI (pa)), .int (nI (f1)), .int (nI (f2)), .int (nI (hf))])) := (hag9 _ (by omega)).trans p0
  have hK : xPk F1 (b + 100) (cm.2.1) (K) := xPk_fr hK (fun a9 q1 q2 => hag9 a9 (by omega))
  have hin : xTx F1 (b + 101) (60) (pn) (psg) := xTx_fr hin (fun a9 q1 q2 => hag9 a9 (by omega))
  have hli : xTx F1 (b + 107) (32) (lnn) (lsg) := xTx_fr hli (fun a9 q1 q2 => hag9 a9 (by omega))
  have hrg : xRg F1 (b + 111) := xRg_fr hrg (fun a9 q1 q2 => hag9 a9 (by omega))
  have htr : xTx F1 (b + 122) (16) (tn) (tsg) := xTx_fr htr (fun a9 q1 q2 => hag9 a9 (by omega))
  have hcr : F1 (b + 124) = some (.inr (0, 17, fun b9 => .int (nI (cr b9)))) := (hag9 _ (by omega)).trans hcr
  have hps : xPs F1 (b) (past) := xPs_fr hps (fun a9 q1 q2 => hag9 a9 (by omega))
  have s0 : F1 (b + 1) = some (.inl (7, [.ref (b + 2), .ref (b + 9), .ref (b + 11), .ref (b + 37), .ref (b + 48), .int (nI (c1)), .int (nI (c2)), .int (nI (c3)), .int (nI (c4))])) := (hag9 _ (by omega)).trans s0
  have h2 : xTx F1 (b + 9) (16) (dn) (ds) := xTx_fr h2 (fun a9 q1 q2 => hag9 a9 (by omega))
  have h3 : xQp F1 (b + 11) (k) (nx) (p) (m) := xQp_fr h3 (fun a9 q1 q2 => hag9 a9 (by omega))
  have h4 : xFr F1 (b + 37) (fk) (fb) (ftn) (fts) (fw) := xFr_fr h4 (fun a9 q1 q2 => hag9 a9 (by omega))
  have h5 : xTx F1 (b + 48) (16) (rn) (rs) := xTx_fr h5 (fun a9 q1 q2 => hag9 a9 (by omega))
  have hm_r : xMs F1 (b + 13 + 3 * p r) ((ms r).1) ((ms r).2.1) ((ms r).2.2.1) ((ms r).2.2.2) := xMs_fr hm_r (fun a9 q1 q2 => hag9 a9 (by omega))
  have hbt : xBt F1 ((b + 109)) ((bitsN (hLen w) ((ms r).2.2.2) ((ms r).2.2.1))) ((splB (hLen w) (hVal (hLen w)) ((ms r).2.2.2) ((ms r).2.2.1))) := j0
  have hnht_19 : xTx F1 ((b + 13 + 3 * p r + 1)) (16) (((ms r).2.2.1)) (((ms r).2.2.2)) := j1
  have h1 : xCd F1 ((b + 2)) (w) ((hLen w)) ((hVal (hLen w))) ((hOrd (hLen w))) ((hSum w)) := j2
  have hag : ∀ a9 : Nat, (a9 < b ∨ b + 566 ≤ a9) → F1 a9 = F a9 := fun a9 q0 => (hag9 a9 (by omega)).trans (hag a9 q0)
  have hg_19 := hag9
  clear hag9
  refine x_aload_n hC d_MessageCoder_checksumByTable_22 rfl rfl ?_
  refine x_getf hC kf_MessageCoder_42 b0 rfl d_MessageCoder_checksumByTable_23 ?_
  refine x_callV hC kv_MessageCoder_243 (c_Bits_remainderByTable (hb := hbt) (hSR := hSR)) hbt.1 rfl rfl (by decide) rfl rfl rfl (Nat.le_of_ble_eq_true rfl) (by decide) d_MessageCoder_checksumByTable_26 (fun r9 F9 z9 hp9 => ?_)
  obtain ⟨rfl, h9b, h9c⟩ := hp9
  rw [h9b, h9c]
  clear h9b h9c F9 z9
  exact hret _ _ _ _ _ _ _ d_MessageCoder_checksumByTable_29 (by decide) (by decide) rfl (⟨congrArg (fun q => some (Value.int (nI q))) (by rw [hr_r]), rfl, ⟨b0, ⟨s0, h1, h2, ⟨p, m, h3, hms⟩, h4, h5⟩, hv, ⟨pf, hpa, hpf⟩, ⟨_, _, _, _, _, _, p0, hK⟩, hin, hli, ⟨_, _, hbt⟩, hrg, ⟨_, _, htr⟩, ⟨_, hcr⟩, hps⟩, (show idAt ms a k < k from (by rw [← hr_r]; exact hk_r)), hag⟩)

theorem d_MessageCoder_areEqual_0 : decode prog_1_method_35_code 0 = .ok (.aload_n 0, 1) := by decide +kernel
theorem d_MessageCoder_areEqual_1 : decode prog_1_method_35_code 1 = .ok (.iload_n 1, 1) := by decide +kernel
theorem d_MessageCoder_areEqual_2 : decode prog_1_method_35_code 2 = .ok (.invokevirtual 216, 3) := by decide +kernel
theorem d_MessageCoder_areEqual_5 : decode prog_1_method_35_code 5 = .ok (.getfield 222, 3) := by decide +kernel
theorem d_MessageCoder_areEqual_8 : decode prog_1_method_35_code 8 = .ok (.aload_n 0, 1) := by decide +kernel
theorem d_MessageCoder_areEqual_9 : decode prog_1_method_35_code 9 = .ok (.iload_n 2, 1) := by decide +kernel
theorem d_MessageCoder_areEqual_10 : decode prog_1_method_35_code 10 = .ok (.invokevirtual 216, 3) := by decide +kernel
theorem d_MessageCoder_areEqual_13 : decode prog_1_method_35_code 13 = .ok (.getfield 222, 3) := by decide +kernel
theorem d_MessageCoder_areEqual_16 : decode prog_1_method_35_code 16 = .ok (.invokevirtual 246, 3) := by decide +kernel
theorem d_MessageCoder_areEqual_19 : decode prog_1_method_35_code 19 = .ok (.ireturn, 1) := by decide +kernel
set_option maxHeartbeats 4000000 in
set_option maxRecDepth 20000 in
theorem c_MessageCoder_areEqual {P : xP} {F : xF} {z : Nat} {b : Nat} {cm : cmT} {M : mcS} {a : Int32} {c : Int32} (hM : xMC F (cm) (b) (M)) (hZx : xZx P) : xMx P xy_MessageCoder_areEqual [.ref b, .int a, .int c] F (z) 2 12 (fun r9 F9 z9 => r9 = some (.int (xb ((mAt M.1 a).2.2.1 = (mAt M.1 c).2.2.1 ∧ eqTo (mAt M.1 a).2.2.2 (mAt M.1 c).2.2.2 (mAt M.1 a).2.2.1 = true))) ∧ F9 = F ∧ z9 = z ∧ (mOk M.1 a) ∧ (mOk M.1 c)) (fun E9 F9 z9 => (E9 = "java/util/NoSuchElementException" ∧ F9 = F ∧ (¬ (mOk M.1 a ∧ mOk M.1 c)))) := by
  refine xMx_i .boolean rfl (Nat.le_of_ble_eq_true rfl) (L0 := [some (.ref b), some (.int a), some (.int c)]) rfl rfl fun Θ hC hR hret => ?_
  obtain ⟨A, S, past, ⟨pn, psg⟩, ⟨lnn, lsg⟩, sv, pp, un, ep, fc⟩ := M
  obtain ⟨b0, hs, hv, ⟨pf, hpa, hpf⟩, ⟨cc, pa, f1, f2, hf, K, p0, hK⟩, hin, hli, ⟨nb, fb9, hbt⟩, hrg, ⟨tn, tsg, htr⟩, ⟨cr, hcr⟩, hps⟩ := id hM
  obtain ⟨w, ⟨dn, ds⟩, ⟨k, nx, ms⟩, ⟨fk, fb, ftn, fts, fw⟩, ⟨rn, rs⟩, c1, c2, c3, c4⟩ := A
  obtain ⟨s0, h1, h2, ⟨p, m, h3, hms⟩, h4, h5⟩ := id hs
  have hms : ∀ i, i < k → m i = ms i := hms
  have b0 : F (b) = some (.inl (9, [.ref (b + 1), .ref (b + 50), .ref (b + 99), .ref (b + 100), .ref (b + 107), .ref (b + 109), .ref (b + 111), .ref (b + 122), .ref (b + 124), .int (nI (sv)), .int (nI (pp)), .int (nI (un)), .int ep, .int fc])) := b0
  have hv : xSt F (b + 50) (S) := hv
  have hpa : F (b + 99) = some (.inr (4, 9, pf)) := hpa
  have p0 : F (b + 100) = some (.inl (4, [.ref (b + 101), .ref (b + 103), .ref (b + 104), .ref (b + 105), .ref (b + 106), .int (nI (K.1)), .int (nI (cc)), .int (nI (pa)), .int (nI (f1)), .int (nI (f2)), .int (nI (hf))])) := p0
  have hK : xPk F (b + 100) (cm.2.1) (K) := hK
  have hin : xTx F (b + 101) (60) (pn) (psg) := hin
  have hli : xTx F (b + 107) (32) (lnn) (lsg) := hli
  have hbt : xBt F (b + 109) (nb) (fb9) := hbt
  have hrg : xRg F (b + 111) := hrg
  have htr : xTx F (b + 122) (16) (tn) (tsg) := htr
  have hcr : F (b + 124) = some (.inr (0, 17, fun b9 => .int (nI (cr b9)))) := hcr
  have hps : xPs F (b) (past) := hps
  have s0 : F (b + 1) = some (.inl (7, [.ref (b + 2), .ref (b + 9), .ref (b + 11), .ref (b + 37), .ref (b + 48), .int (nI (c1)), .int (nI (c2)), .int (nI (c3)), .int (nI (c4))])) := s0
  have h1 : xCd F (b + 2) (w) ((hLen w)) ((hVal (hLen w))) ((hOrd (hLen w))) ((hSum w)) := h1
  have h2 : xTx F (b + 9) (16) (dn) (ds) := h2
  have h3 : xQp F (b + 11) (k) (nx) (p) (m) := h3
  have h4 : xFr F (b + 37) (fk) (fb) (ftn) (fts) (fw) := h4
  have h5 : xTx F (b + 48) (16) (rn) (rs) := h5
  have hk8 : k ≤ 8 := h3.2.1.1
  refine x_aload_n hC d_MessageCoder_areEqual_0 rfl rfl ?_
  refine x_iload_n hC d_MessageCoder_areEqual_1 rfl rfl ?_
  refine x_callXV hC hR kv_MessageCoder_216 (c_MessageCoder_messageOf (b0 := b0) (s0 := s0) (h3 := h3) (hZx := hZx)) (fun E9 F9 z9 hp9 => ⟨hp9.1, hp9.2.1, fun h9 => hp9.2.2 (by rw [idAt_ext hms]; exact h9.1)⟩) b0 rfl rfl (by decide) rfl rfl rfl (Nat.le_of_ble_eq_true rfl) (by decide) d_MessageCoder_areEqual_2 (fun r9 F9 z9 hp9 => ?_)
  obtain ⟨rfl, h9b, h9c, pn0_2⟩ := hp9
  rw [h9b, h9c]
  clear h9b h9c F9 z9
  have hk_r := pn0_2
  rw [idAt_ext hms] at hk_r
  obtain ⟨r, hr_r⟩ : ∃ q9, q9 = idAt ms a k := ⟨_, rfl⟩
  have he_r : idAt m a k = r := (idAt_ext hms).trans hr_r.symm
  rw [he_r]
  rw [← hr_r] at hk_r
  have hp_r : p r < 8 := h3.2.2.2.1 r (by omega)
  have hm_r : xMs F (b + 13 + 3 * p r) ((ms r).1) ((ms r).2.1) ((ms r).2.2.1) ((ms r).2.2.2) := by rw [← hms r hk_r]; exact h3.2.2.2.2.2 r (by omega)
  have hl_r : (ms r).2.2.1 ≤ 16 := hm_r.2.1.2.1.1
  refine x_getf hC kf_MessageCoder_222 hm_r.1 rfl d_MessageCoder_areEqual_5 ?_
  refine x_aload_n hC d_MessageCoder_areEqual_8 rfl rfl ?_
  refine x_iload_n hC d_MessageCoder_areEqual_9 rfl rfl ?_
  refine x_callXV hC hR kv_MessageCoder_216 (c_MessageCoder_messageOf (b0 := b0) (s0 := s0) (h3 := h3) (hZx := hZx)) (fun E9 F9 z9 hp9 => ⟨hp9.1, hp9.2.1, fun h9 => hp9.2.2 (by rw [idAt_ext hms]; exact h9.2)⟩) b0 rfl rfl (by decide) rfl rfl rfl (Nat.le_of_ble_eq_true rfl) (by decide) d_MessageCoder_areEqual_10 (fun r9 F9 z9 hp9 => ?_)
  obtain ⟨rfl, h9b, h9c, pn0_10⟩ := hp9
  rw [h9b, h9c]
  clear h9b h9c F9 z9
  have hk_v := pn0_10
  rw [idAt_ext hms] at hk_v
  obtain ⟨v, hr_v⟩ : ∃ q9, q9 = idAt ms c k := ⟨_, rfl⟩
  have he_v : idAt m c k = v := (idAt_ext hms).trans hr_v.symm
  rw [he_v]
  rw [← hr_v] at hk_v
  have hp_v : p v < 8 := h3.2.2.2.1 v (by omega)
  have hm_v : xMs F (b + 13 + 3 * p v) ((ms v).1) ((ms v).2.1) ((ms v).2.2.1) ((ms v).2.2.2) := by rw [← hms v hk_v]; exact h3.2.2.2.2.2 v (by omega)
  have hl_v : (ms v).2.2.1 ≤ 16 := hm_v.2.1.2.1.1
  refine x_getf hC kf_MessageCoder_222 hm_v.1 rfl d_MessageCoder_areEqual_13 ?_
  refine x_callV hC kv_MessageCoder_246 (c_Text_sameAs (ht := hm_r.2.1) (ho := hm_v.2.1)) hm_r.2.1.1 rfl rfl (by decide) rfl rfl rfl (Nat.le_of_ble_eq_true rfl) (by decide) d_MessageCoder_areEqual_16 (fun r9 F9 z9 hp9 => ?_)
  obtain ⟨rfl, h9b, h9c⟩ := hp9
  rw [h9b, h9c]
  clear h9b h9c F9 z9
  exact hret _ _ _ _ _ _ _ d_MessageCoder_areEqual_19 (by decide) (by decide) xb_nar (⟨congrArg (fun q => some (Value.int q)) (by rw [hr_r, hr_v]), rfl, rfl, (show idAt ms a k < k from (by rw [← hr_r]; exact hk_r)), (show idAt ms c k < k from (by rw [← hr_v]; exact hk_v))⟩)

theorem d_MessageCoder_commonLength_0 : decode prog_1_method_36_code 0 = .ok (.aload_n 0, 1) := by decide +kernel
theorem d_MessageCoder_commonLength_1 : decode prog_1_method_36_code 1 = .ok (.iload_n 1, 1) := by decide +kernel
theorem d_MessageCoder_commonLength_2 : decode prog_1_method_36_code 2 = .ok (.invokevirtual 216, 3) := by decide +kernel
theorem d_MessageCoder_commonLength_5 : decode prog_1_method_36_code 5 = .ok (.getfield 222, 3) := by decide +kernel
theorem d_MessageCoder_commonLength_8 : decode prog_1_method_36_code 8 = .ok (.aload_n 0, 1) := by decide +kernel
theorem d_MessageCoder_commonLength_9 : decode prog_1_method_36_code 9 = .ok (.iload_n 2, 1) := by decide +kernel
theorem d_MessageCoder_commonLength_10 : decode prog_1_method_36_code 10 = .ok (.invokevirtual 216, 3) := by decide +kernel
theorem d_MessageCoder_commonLength_13 : decode prog_1_method_36_code 13 = .ok (.getfield 222, 3) := by decide +kernel
theorem d_MessageCoder_commonLength_16 : decode prog_1_method_36_code 16 = .ok (.aload_n 0, 1) := by decide +kernel
theorem d_MessageCoder_commonLength_17 : decode prog_1_method_36_code 17 = .ok (.getfield 56, 3) := by decide +kernel
theorem d_MessageCoder_commonLength_20 : decode prog_1_method_36_code 20 = .ok (.invokevirtual 250, 3) := by decide +kernel
theorem d_MessageCoder_commonLength_23 : decode prog_1_method_36_code 23 = .ok (.ireturn, 1) := by decide +kernel
set_option maxHeartbeats 4000000 in
set_option maxRecDepth 20000 in
theorem c_MessageCoder_commonLength {P : xP} {F : xF} {z : Nat} {b : Nat} {cm : cmT} {M : mcS} {a : Int32} {c : Int32} (hM : xMC F (cm) (b) (M)) (hZx : xZx P) : xMx P xy_MessageCoder_commonLength [.ref b, .int a, .int c] F (z) 2 12 (fun r9 F9 z9 => r9 = some (.int (nI (lcs (mAt M.1 a).2.2.2 (mAt M.1 c).2.2.2 (mAt M.1 a).2.2.1 (mAt M.1 c).2.2.1))) ∧ z9 = z ∧ xMC F9 (cm) (b) (M) ∧ (mOk M.1 a) ∧ (mOk M.1 c) ∧ (∀ a9 : Nat, (a9 < b ∨ b + 566 ≤ a9) → F9 a9 = F a9)) (fun E9 F9 z9 => (E9 = "java/util/NoSuchElementException" ∧ xMC F9 (cm) (b) (M) ∧ (¬ (mOk M.1 a ∧ mOk M.1 c)) ∧ (∀ a9 : Nat, (a9 < b ∨ b + 566 ≤ a9) → F9 a9 = F a9))) := by
  refine xMx_i .int rfl (Nat.le_of_ble_eq_true rfl) (L0 := [some (.ref b), some (.int a), some (.int c)]) rfl rfl fun Θ hC hR hret => ?_
  have hag : ∀ a9 : Nat, (a9 < b ∨ b + 566 ≤ a9) → F a9 = F a9 := fun a9 _ => rfl
  obtain ⟨A, S, past, ⟨pn, psg⟩, ⟨lnn, lsg⟩, sv, pp, un, ep, fc⟩ := M
  obtain ⟨b0, hs, hv, ⟨pf, hpa, hpf⟩, ⟨cc, pa, f1, f2, hf, K, p0, hK⟩, hin, hli, ⟨nb, fb9, hbt⟩, hrg, ⟨tn, tsg, htr⟩, ⟨cr, hcr⟩, hps⟩ := id hM
  obtain ⟨w, ⟨dn, ds⟩, ⟨k, nx, ms⟩, ⟨fk, fb, ftn, fts, fw⟩, ⟨rn, rs⟩, c1, c2, c3, c4⟩ := A
  obtain ⟨s0, h1, h2, ⟨p, m, h3, hms⟩, h4, h5⟩ := id hs
  have hms : ∀ i, i < k → m i = ms i := hms
  have b0 : F (b) = some (.inl (9, [.ref (b + 1), .ref (b + 50), .ref (b + 99), .ref (b + 100), .ref (b + 107), .ref (b + 109), .ref (b + 111), .ref (b + 122), .ref (b + 124), .int (nI (sv)), .int (nI (pp)), .int (nI (un)), .int ep, .int fc])) := b0
  have hv : xSt F (b + 50) (S) := hv
  have hpa : F (b + 99) = some (.inr (4, 9, pf)) := hpa
  have p0 : F (b + 100) = some (.inl (4, [.ref (b + 101), .ref (b + 103), .ref (b + 104), .ref (b + 105), .ref (b + 106), .int (nI (K.1)), .int (nI (cc)), .int (nI (pa)), .int (nI (f1)), .int (nI (f2)), .int (nI (hf))])) := p0
  have hK : xPk F (b + 100) (cm.2.1) (K) := hK
  have hin : xTx F (b + 101) (60) (pn) (psg) := hin
  have hli : xTx F (b + 107) (32) (lnn) (lsg) := hli
  have hbt : xBt F (b + 109) (nb) (fb9) := hbt
  have hrg : xRg F (b + 111) := hrg
  have htr : xTx F (b + 122) (16) (tn) (tsg) := htr
  have hcr : F (b + 124) = some (.inr (0, 17, fun b9 => .int (nI (cr b9)))) := hcr
  have hps : xPs F (b) (past) := hps
  have s0 : F (b + 1) = some (.inl (7, [.ref (b + 2), .ref (b + 9), .ref (b + 11), .ref (b + 37), .ref (b + 48), .int (nI (c1)), .int (nI (c2)), .int (nI (c3)), .int (nI (c4))])) := s0
  have h1 : xCd F (b + 2) (w) ((hLen w)) ((hVal (hLen w))) ((hOrd (hLen w))) ((hSum w)) := h1
  have h2 : xTx F (b + 9) (16) (dn) (ds) := h2
  have h3 : xQp F (b + 11) (k) (nx) (p) (m) := h3
  have h4 : xFr F (b + 37) (fk) (fb) (ftn) (fts) (fw) := h4
  have h5 : xTx F (b + 48) (16) (rn) (rs) := h5
  have hk8 : k ≤ 8 := h3.2.1.1
  refine x_aload_n hC d_MessageCoder_commonLength_0 rfl rfl ?_
  refine x_iload_n hC d_MessageCoder_commonLength_1 rfl rfl ?_
  refine x_callXV hC hR kv_MessageCoder_216 (c_MessageCoder_messageOf (b0 := b0) (s0 := s0) (h3 := h3) (hZx := hZx)) (fun E9 F9 z9 hp9 => ⟨hp9.1, by rw [hp9.2.1]; exact ⟨b0, ⟨s0, h1, h2, ⟨p, m, h3, hms⟩, h4, h5⟩, hv, ⟨pf, hpa, hpf⟩, ⟨_, _, _, _, _, _, p0, hK⟩, hin, hli, ⟨_, _, hbt⟩, hrg, ⟨_, _, htr⟩, ⟨_, hcr⟩, hps⟩, fun h9 => hp9.2.2 (by rw [idAt_ext hms]; exact h9.1), by rw [hp9.2.1]; exact hag⟩) b0 rfl rfl (by decide) rfl rfl rfl (Nat.le_of_ble_eq_true rfl) (by decide) d_MessageCoder_commonLength_2 (fun r9 F9 z9 hp9 => ?_)
  obtain ⟨rfl, h9b, h9c, pn0_2⟩ := hp9
  rw [h9b, h9c]
  clear h9b h9c F9 z9
  have hk_r := pn0_2
  rw [idAt_ext hms] at hk_r
  obtain ⟨r, hr_r⟩ : ∃ q9, q9 = idAt ms a k := ⟨_, rfl⟩
  have he_r : idAt m a k = r := (idAt_ext hms).trans hr_r.symm
  rw [he_r]
  rw [← hr_r] at hk_r
  have hp_r : p r < 8 := h3.2.2.2.1 r (by omega)
  have hm_r : xMs F (b + 13 + 3 * p r) ((ms r).1) ((ms r).2.1) ((ms r).2.2.1) ((ms r).2.2.2) := by rw [← hms r hk_r]; exact h3.2.2.2.2.2 r (by omega)
  have hl_r : (ms r).2.2.1 ≤ 16 := hm_r.2.1.2.1.1
  refine x_getf hC kf_MessageCoder_222 hm_r.1 rfl d_MessageCoder_commonLength_5 ?_
  refine x_aload_n hC d_MessageCoder_commonLength_8 rfl rfl ?_
  refine x_iload_n hC d_MessageCoder_commonLength_9 rfl rfl ?_
  refine x_callXV hC hR kv_MessageCoder_216 (c_MessageCoder_messageOf (b0 := b0) (s0 := s0) (h3 := h3) (hZx := hZx)) (fun E9 F9 z9 hp9 => ⟨hp9.1, by rw [hp9.2.1]; exact ⟨b0, ⟨s0, h1, h2, ⟨p, m, h3, hms⟩, h4, h5⟩, hv, ⟨pf, hpa, hpf⟩, ⟨_, _, _, _, _, _, p0, hK⟩, hin, hli, ⟨_, _, hbt⟩, hrg, ⟨_, _, htr⟩, ⟨_, hcr⟩, hps⟩, fun h9 => hp9.2.2 (by rw [idAt_ext hms]; exact h9.2), by rw [hp9.2.1]; exact hag⟩) b0 rfl rfl (by decide) rfl rfl rfl (Nat.le_of_ble_eq_true rfl) (by decide) d_MessageCoder_commonLength_10 (fun r9 F9 z9 hp9 => ?_)
  obtain ⟨rfl, h9b, h9c, pn0_10⟩ := hp9
  rw [h9b, h9c]
  clear h9b h9c F9 z9
  have hk_v := pn0_10
  rw [idAt_ext hms] at hk_v
  obtain ⟨v, hr_v⟩ : ∃ q9, q9 = idAt ms c k := ⟨_, rfl⟩
  have he_v : idAt m c k = v := (idAt_ext hms).trans hr_v.symm
  rw [he_v]
  rw [← hr_v] at hk_v
  have hp_v : p v < 8 := h3.2.2.2.1 v (by omega)
  have hm_v : xMs F (b + 13 + 3 * p v) ((ms v).1) ((ms v).2.1) ((ms v).2.2.1) ((ms v).2.2.2) := by rw [← hms v hk_v]; exact h3.2.2.2.2.2 v (by omega)
  have hl_v : (ms v).2.2.1 ≤ 16 := hm_v.2.1.2.1.1
  refine x_getf hC kf_MessageCoder_222 hm_v.1 rfl d_MessageCoder_commonLength_13 ?_
  refine x_aload_n hC d_MessageCoder_commonLength_16 rfl rfl ?_
  refine x_getf hC kf_MessageCoder_56 b0 rfl d_MessageCoder_commonLength_17 ?_
  refine x_callV hC kv_MessageCoder_250 (c_Text_commonWith (ht := hm_r.2.1) (ho := hm_v.2.1) (hr := hcr) (hn := by omega) (hm := by omega) (hd1 := by omega) (hd2 := by omega)) hm_r.2.1.1 rfl rfl (by decide) rfl rfl rfl (Nat.le_of_ble_eq_true rfl) (by decide) d_MessageCoder_commonLength_20 (fun r9 F9 z9 hp9 => ?_)
  obtain ⟨g1_20, rfl, h9c, j0, hag9⟩ := hp9
  rw [h9c]
  clear h9c z9
  generalize F9 = F1 at *
  have b0 : F1 (b) = some (.inl (9, [.ref (b + 1), .ref (b + 50), .ref (b + 99), .ref (b + 100), .ref (b + 107), .ref (b + 109), .ref (b + 111), .ref (b + 122), .ref (b + 124), .int (nI (sv)), .int (nI (pp)), .int (nI (un)), .int ep, .int fc])) := (hag9 _ (by omega)).trans b0
  have hv : xSt F1 (b + 50) (S) := xSt_fr hv (fun a9 q1 q2 => hag9 a9 (by omega))
  have hpa : F1 (b + 99) = some (.inr (4, 9, pf)) := (hag9 _ (by omega)).trans hpa
  have p0 : F1 (b + 100) = some (.inl (4, [.ref (b + 101), .ref (b + 103), .ref (b + 104), .ref (b + 105), .ref (b + 106), .int (nI (K.1)), .int (nI (cc)), .int (nI (pa)), .int (nI (f1)), .int (nI (f2)), .int (nI (hf))])) := (hag9 _ (by omega)).trans p0
  have hK : xPk F1 (b + 100) (cm.2.1) (K) := xPk_fr hK (fun a9 q1 q2 => hag9 a9 (by omega))
  have hin : xTx F1 (b + 101) (60) (pn) (psg) := xTx_fr hin (fun a9 q1 q2 => hag9 a9 (by omega))
  have hli : xTx F1 (b + 107) (32) (lnn) (lsg) := xTx_fr hli (fun a9 q1 q2 => hag9 a9 (by omega))
  have hbt : xBt F1 (b + 109) (nb) (fb9) := xBt_fr hbt (fun a9 q1 q2 => hag9 a9 (by omega))
  have hrg : xRg F1 (b + 111) := xRg_fr hrg (fun a9 q1 q2 => hag9 a9 (by omega))
  have htr : xTx F1 (b + 122) (16) (tn) (tsg) := xTx_fr htr (fun a9 q1 q2 => hag9 a9 (by omega))
  have hps : xPs F1 (b) (past) := xPs_fr hps (fun a9 q1 q2 => hag9 a9 (by omega))
  have s0 : F1 (b + 1) = some (.inl (7, [.ref (b + 2), .ref (b + 9), .ref (b + 11), .ref (b + 37), .ref (b + 48), .int (nI (c1)), .int (nI (c2)), .int (nI (c3)), .int (nI (c4))])) := (hag9 _ (by omega)).trans s0
  have h1 : xCd F1 (b + 2) (w) ((hLen w)) ((hVal (hLen w))) ((hOrd (hLen w))) ((hSum w)) := xCd_fr h1 (fun a9 q1 q2 => hag9 a9 (by omega))
  have h2 : xTx F1 (b + 9) (16) (dn) (ds) := xTx_fr h2 (fun a9 q1 q2 => hag9 a9 (by omega))
  have h3 : xQp F1 (b + 11) (k) (nx) (p) (m) := xQp_fr h3 (fun a9 q1 q2 => hag9 a9 (by omega))
  have h4 : xFr F1 (b + 37) (fk) (fb) (ftn) (fts) (fw) := xFr_fr h4 (fun a9 q1 q2 => hag9 a9 (by omega))
  have h5 : xTx F1 (b + 48) (16) (rn) (rs) := xTx_fr h5 (fun a9 q1 q2 => hag9 a9 (by omega))
  have hm_r : xMs F1 (b + 13 + 3 * p r) ((ms r).1) ((ms r).2.1) ((ms r).2.2.1) ((ms r).2.2.2) := xMs_fr hm_r (fun a9 q1 q2 => hag9 a9 (by omega))
  have hm_v : xMs F1 (b + 13 + 3 * p v) ((ms v).1) ((ms v).2.1) ((ms v).2.2.1) ((ms v).2.2.2) := xMs_fr hm_v (fun a9 q1 q2 => hag9 a9 (by omega))
  have hcr : F1 (b + 124) = some (.inr (0, 17, fun b9 => .int (nI (g1_20 b9)))) := j0
  have hag : ∀ a9 : Nat, (a9 < b ∨ b + 566 ≤ a9) → F1 a9 = F a9 := fun a9 q0 => (hag9 a9 (by omega)).trans (hag a9 q0)
  have hg_20 := hag9
  clear hag9
  exact hret _ _ _ _ _ _ _ d_MessageCoder_commonLength_23 (by decide) (by decide) rfl (⟨congrArg (fun q => some (Value.int (nI q))) (by rw [hr_r, hr_v]), rfl, ⟨b0, ⟨s0, h1, h2, ⟨p, m, h3, hms⟩, h4, h5⟩, hv, ⟨pf, hpa, hpf⟩, ⟨_, _, _, _, _, _, p0, hK⟩, hin, hli, ⟨_, _, hbt⟩, hrg, ⟨_, _, htr⟩, ⟨_, hcr⟩, hps⟩, (show idAt ms a k < k from (by rw [← hr_r]; exact hk_r)), (show idAt ms c k < k from (by rw [← hr_v]; exact hk_v)), hag⟩)

