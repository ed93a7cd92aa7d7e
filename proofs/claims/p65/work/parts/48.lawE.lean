set_option maxHeartbeats 4000000 in
set_option maxRecDepth 20000 in
theorem l_m1 {P : xP} {Θ : xT} {fo : Nat} {o1 : Nat} {o2 : Nat} {rt : Nat} {cm : cmT} {sm : Nat} {a : Nat} {N : Nat} {xs : Nat → Int32} {qe : Nat} {qq : Nat} {qx : Nat} {qc : Nat} (hG : xGl P Θ fo o1 o2 rt cm sm a N xs qe qq qx qc) {b : Nat} {M : mcS} {A : aS} {q : Nat} {T : Nat} {ca : Nat} {ce : Nat} {i : Nat} {e : mS} {F : xF} {z k n : Nat} (hM : xMC F (cm) (b) (M)) (hcs : xCs F (ca) (ce) (A.1) (8)) (hA : M.1 = A) (hB : pBd M q) (hq : q ≤ 900) (hz : b + 566 ≤ ca) (hce : ce ≤ z) (hi : i < A.2.2.1.1) (he : A.2.2.1.2.2 (mRk A (nI i)) = e) (hk : k + 5000 ≤ 644766) (hn : n + 500000 ≤ 7153085) (kk : ∀ (s14 s15 : Nat) (F1 : xF) (z1 : Nat), xMC F1 cm b M → xCs F1 ca ce A.1 8 → xTs F1 s14 (txl e.2.2.2 e.2.2.1) → xTs F1 s15 (btl (hLen A.1) (hVal (hLen A.1)) e.2.2.2 e.2.2.1) → z ≤ s14 ∧ z ≤ s15 → s14 + 2 ≤ z1 → s15 + 2 ≤ z1 → xX P Θ 656 [some (.ref a), some (.ref b), some (.int (nI (T))), some (.int (nI (sumN (fun j => A.1 j * hLen A.1 j) 8))), some (.int (nI (sumN A.1 8))), some (.int (nI (maxN (hLen A.1) 8))), some (.int (nI (A.2.2.1.1))), some (.ref ca), none, some (.int (nI (i))), some (.int (nI (e.1))), some (.int (nI 0)), some (.int (nI 0)), some (.int (nI (crcB (bitsN (hLen A.1) e.2.2.2 e.2.2.1) (splB (hLen A.1) (hVal (hLen A.1)) e.2.2.2 e.2.2.1) (bitsN (hLen A.1) e.2.2.2 e.2.2.1 + 4)))), some (.ref s14), some (.ref s15), none, none, none, none, none, none] [] F1 z1 (k + 400) (n + 100000)) : xX P Θ 544 [some (.ref a), some (.ref b), some (.int (nI (T))), some (.int (nI (sumN (fun j => A.1 j * hLen A.1 j) 8))), some (.int (nI (sumN A.1 8))), some (.int (nI (maxN (hLen A.1) 8))), some (.int (nI (A.2.2.1.1))), some (.ref ca), none, some (.int (nI (i))), none, none, none, none, none, none, none, none, none, none, none, none] [] F (z) k n := by
  obtain ⟨hC, hZx, hNx, hJ, hD, hSR, hCM, hSM, hS, hE, hEo, hQ, hQo, hX, hXo, hK, hKo⟩ := hG
  have hI : pInv A := hA ▸ hB.1
  obtain ⟨⟨i1_, i2_, i3_, i4_, i5_⟩, iw, idr, im, io, ib, it⟩ := id hI
  have hcc := hcs.1
  obtain ⟨m1_, m2_, m3_, m4_⟩ := msg_at hI (by have := hB.2.2.2.1; rw [hA] at this; omega) hi
  rw [he] at m2_ m3_ m4_
  obtain ⟨e1_, e2_, e3_, e4_⟩ := id m4_
  have hnx : A.2.2.1.2.1 ≤ 900 := by have := hB.2.2.2.1; rw [hA] at this; omega
  have hb112 : bitsN (hLen A.1) e.2.2.2 e.2.2.1 ≤ 112 := Nat.le_trans (bitsN_le (fun j hj => hLen_7 A.1 hj) _ _) (by omega)
  refine x_aload_n hC d_Law_law_544 rfl rfl ?_
  refine x_iload hC d_Law_law_545 rfl ?_
  obtain ⟨b0, -⟩ := id hM
  refine x_callV hC kv_Law_55 (c_MessageCoder_messageAtK (hM := hM) (hA := hA) (hZx := hZx) (n0 := m1_) (A := A)) b0 rfl rfl (by decide) rfl rfl rfl (Nat.le_of_ble_eq_true rfl) ⟨by omega, by omega⟩ d_Law_law_547 (fun r9 F9 z9 hp9 => ?_)
  obtain ⟨rfl, h9b, h9c⟩ := hp9
  rw [h9b, h9c]
  clear h9b h9c F9 z9
  refine x_top (v := (nI (e.1))) (by rw [he]) ?_
  refine x_istore hC d_Law_law_550 (Nat.le_of_ble_eq_true rfl) (L1 := [some (.ref a), some (.ref b), some (.int (nI (T))), some (.int (nI (sumN (fun j => A.1 j * hLen A.1 j) 8))), some (.int (nI (sumN A.1 8))), some (.int (nI (maxN (hLen A.1) 8))), some (.int (nI (A.2.2.1.1))), some (.ref ca), none, some (.int (nI (i))), some (.int (nI (e.1))), none, none, none, none, none, none, none, none, none, none, none]) rfl ?_
  refine x_iconst hC d_Law_law_552 (v := nI 0) (by decide) ?_
  refine x_istore hC d_Law_law_553 (Nat.le_of_ble_eq_true rfl) (L1 := [some (.ref a), some (.ref b), some (.int (nI (T))), some (.int (nI (sumN (fun j => A.1 j * hLen A.1 j) 8))), some (.int (nI (sumN A.1 8))), some (.int (nI (maxN (hLen A.1) 8))), some (.int (nI (A.2.2.1.1))), some (.ref ca), none, some (.int (nI (i))), some (.int (nI (e.1))), some (.int (nI 0)), none, none, none, none, none, none, none, none, none, none]) rfl ?_
  refine x_iconst hC d_Law_law_555 (v := nI 0) (by decide) ?_
  refine x_istore hC d_Law_law_556 (Nat.le_of_ble_eq_true rfl) (L1 := [some (.ref a), some (.ref b), some (.int (nI (T))), some (.int (nI (sumN (fun j => A.1 j * hLen A.1 j) 8))), some (.int (nI (sumN A.1 8))), some (.int (nI (maxN (hLen A.1) 8))), some (.int (nI (A.2.2.1.1))), some (.ref ca), none, some (.int (nI (i))), some (.int (nI (e.1))), some (.int (nI 0)), some (.int (nI 0)), none, none, none, none, none, none, none, none, none]) rfl ?_
  refine x_aload_n hC d_Law_law_558 rfl rfl ?_
  refine x_iload hC d_Law_law_559 rfl ?_
  obtain ⟨b0, -⟩ := id hM
  refine x_callV hC kv_Law_212 (c_MessageCoder_checksumK (hM := hM) (hA := hA) (hZx := hZx) (n0 := m2_) (he := m3_) (A := A) (e := e)) b0 rfl rfl (by decide) rfl rfl rfl (Nat.le_of_ble_eq_true rfl) ⟨by omega, by omega⟩ d_Law_law_561 (fun r9 F9 z9 hp9 => ?_)
  obtain ⟨rfl, h9c, j0, hag9⟩ := hp9
  rw [h9c]
  clear h9c z9
  generalize F9 = F1 at *
  have hcs : xCs F1 (ca) (ce) (A.1) (8) := xCs_fr hcs (fun a9 q1 q2 => hag9 a9 (by omega))
  have hM : xMC F1 (cm) (b) (M) := j0
  have hg_561 := hag9
  clear hag9
  refine x_istore hC d_Law_law_564 (Nat.le_of_ble_eq_true rfl) (L1 := [some (.ref a), some (.ref b), some (.int (nI (T))), some (.int (nI (sumN (fun j => A.1 j * hLen A.1 j) 8))), some (.int (nI (sumN A.1 8))), some (.int (nI (maxN (hLen A.1) 8))), some (.int (nI (A.2.2.1.1))), some (.ref ca), none, some (.int (nI (i))), some (.int (nI (e.1))), some (.int (nI 0)), some (.int (nI 0)), some (.int (nI (crcB (bitsN (hLen A.1) e.2.2.2 e.2.2.1) (splB (hLen A.1) (hVal (hLen A.1)) e.2.2.2 e.2.2.1) (bitsN (hLen A.1) e.2.2.2 e.2.2.1 + 4)))), none, none, none, none, none, none, none, none]) rfl ?_
  refine x_ldcS hC hE d_Law_law_566 ?_
  refine x_astore hC d_Law_law_568 (Nat.le_of_ble_eq_true rfl) (L1 := [some (.ref a), some (.ref b), some (.int (nI (T))), some (.int (nI (sumN (fun j => A.1 j * hLen A.1 j) 8))), some (.int (nI (sumN A.1 8))), some (.int (nI (maxN (hLen A.1) 8))), some (.int (nI (A.2.2.1.1))), some (.ref ca), none, some (.int (nI (i))), some (.int (nI (e.1))), some (.int (nI 0)), some (.int (nI 0)), some (.int (nI (crcB (bitsN (hLen A.1) e.2.2.2 e.2.2.1) (splB (hLen A.1) (hVal (hLen A.1)) e.2.2.2 e.2.2.1) (bitsN (hLen A.1) e.2.2.2 e.2.2.1 + 4)))), some (.ref qe), none, none, none, none, none, none, none]) rfl ?_
  refine x_ldcS hC hE d_Law_law_570 ?_
  refine x_astore hC d_Law_law_572 (Nat.le_of_ble_eq_true rfl) (L1 := [some (.ref a), some (.ref b), some (.int (nI (T))), some (.int (nI (sumN (fun j => A.1 j * hLen A.1 j) 8))), some (.int (nI (sumN A.1 8))), some (.int (nI (maxN (hLen A.1) 8))), some (.int (nI (A.2.2.1.1))), some (.ref ca), none, some (.int (nI (i))), some (.int (nI (e.1))), some (.int (nI 0)), some (.int (nI 0)), some (.int (nI (crcB (bitsN (hLen A.1) e.2.2.2 e.2.2.1) (splB (hLen A.1) (hVal (hLen A.1)) e.2.2.2 e.2.2.1) (bitsN (hLen A.1) e.2.2.2 e.2.2.1 + 4)))), some (.ref qe), some (.ref qe), none, none, none, none, none, none]) rfl ?_
  have ht : xTv P F1 z (z) qe (txl e.2.2.2 0) := Or.inr ⟨hEo, rfl⟩
  have hbt : xTv P F1 z (z) qe (btl (hLen A.1) (hVal (hLen A.1)) e.2.2.2 0) := Or.inr ⟨hEo, rfl⟩
  refine x_iconst hC d_Law_law_574 (v := nI 0) (by decide) ?_
  refine x_istore hC d_Law_law_575 (Nat.le_of_ble_eq_true rfl) (L1 := [some (.ref a), some (.ref b), some (.int (nI (T))), some (.int (nI (sumN (fun j => A.1 j * hLen A.1 j) 8))), some (.int (nI (sumN A.1 8))), some (.int (nI (maxN (hLen A.1) 8))), some (.int (nI (A.2.2.1.1))), some (.ref ca), none, some (.int (nI (i))), some (.int (nI (e.1))), some (.int (nI 0)), some (.int (nI 0)), some (.int (nI (crcB (bitsN (hLen A.1) e.2.2.2 e.2.2.1) (splB (hLen A.1) (hVal (hLen A.1)) e.2.2.2 e.2.2.1) (bitsN (hLen A.1) e.2.2.2 e.2.2.1 + 4)))), some (.ref qe), some (.ref qe), some (.int (nI 0)), none, none, none, none, none]) rfl ?_
  have loop_577 : ∀ (m9 : Nat) (Fh577 : xF) (j : Nat) (s14 : Nat) (s15 : Nat) (z1 : Nat), (xMC Fh577 (cm) (b) (M)) → (xCs Fh577 (ca) (ce) (A.1) (8)) → (xTv P Fh577 (z) (z1) (s14) (txl e.2.2.2 j)) → (xTv P Fh577 (z) (z1) (s15) (btl (hLen A.1) (hVal (hLen A.1)) e.2.2.2 j)) → (j ≤ e.2.2.1) → (z ≤ z1) → (e.2.2.1 - j < m9) → xX P Θ 577 [some (.ref a), some (.ref b), some (.int (nI (T))), some (.int (nI (sumN (fun j => A.1 j * hLen A.1 j) 8))), some (.int (nI (sumN A.1 8))), some (.int (nI (maxN (hLen A.1) 8))), some (.int (nI (A.2.2.1.1))), some (.ref ca), none, some (.int (nI (i))), some (.int (nI (e.1))), some (.int (nI 0)), some (.int (nI 0)), some (.int (nI (crcB (bitsN (hLen A.1) e.2.2.2 e.2.2.1) (splB (hLen A.1) (hVal (hLen A.1)) e.2.2.2 e.2.2.1) (bitsN (hLen A.1) e.2.2.2 e.2.2.1 + 4)))), some (.ref s14), some (.ref s15), some (.int (nI (j))), none, none, none, none, none] [] Fh577 (z1) (k + 10 + 20 * j) (n + 100 + 6000 * j) := by
    intro m9
    induction m9 with
    | zero => intros; omega
    | succ m9 ih_577 =>
      intro Fh577 j s14 s15 z1 hM hcs ht hbt hj hz1 hm_577
      refine x_iload hC d_Law_law_577 rfl ?_
      refine x_aload_n hC d_Law_law_579 rfl rfl ?_
      refine x_iload hC d_Law_law_580 rfl ?_
      obtain ⟨b0, -⟩ := id hM
      refine x_callV hC kv_Law_215 (c_MessageCoder_lengthOfK (hM := hM) (hA := hA) (hZx := hZx) (n0 := m2_) (he := m3_) (A := A) (e := e)) b0 rfl rfl (by decide) rfl rfl rfl (Nat.le_of_ble_eq_true rfl) ⟨by omega, by omega⟩ d_Law_law_582 (fun r9 F9 z9 hp9 => ?_)
      obtain ⟨rfl, h9b, h9c⟩ := hp9
      rw [h9b, h9c]
      clear h9b h9c F9 z9
      refine x_icmpN_ge hC d_Law_law_585 (tgt := 656) (by decide) (by omega) (by omega) (fun c_585 => ?_) (fun c_585 => ?_)
      · skip
        refine x_widen (k1 := k + 400) (n1 := n + 100000) (by omega) (by omega) ?_
        refine x_forget (L1 := [some (.ref a), some (.ref b), some (.int (nI (T))), some (.int (nI (sumN (fun j => A.1 j * hLen A.1 j) 8))), some (.int (nI (sumN A.1 8))), some (.int (nI (maxN (hLen A.1) 8))), some (.int (nI (A.2.2.1.1))), some (.ref ca), none, some (.int (nI (i))), some (.int (nI (e.1))), some (.int (nI 0)), some (.int (nI 0)), some (.int (nI (crcB (bitsN (hLen A.1) e.2.2.2 e.2.2.1) (splB (hLen A.1) (hVal (hLen A.1)) e.2.2.2 e.2.2.1) (bitsN (hLen A.1) e.2.2.2 e.2.2.1 + 4)))), some (.ref s14), some (.ref s15), none, none, none, none, none, none]) ⟨Or.inr rfl, ⟨Or.inr rfl, ⟨Or.inr rfl, ⟨Or.inr rfl, ⟨Or.inr rfl, ⟨Or.inr rfl, ⟨Or.inr rfl, ⟨Or.inr rfl, ⟨Or.inl rfl, ⟨Or.inr rfl, ⟨Or.inr rfl, ⟨Or.inr rfl, ⟨Or.inr rfl, ⟨Or.inr rfl, ⟨Or.inr rfl, ⟨Or.inr rfl, ⟨Or.inl rfl, ⟨Or.inl rfl, ⟨Or.inl rfl, ⟨Or.inl rfl, ⟨Or.inl rfl, ⟨Or.inl rfl, trivial⟩⟩⟩⟩⟩⟩⟩⟩⟩⟩⟩⟩⟩⟩⟩⟩⟩⟩⟩⟩⟩⟩ ?_
        obtain ⟨t1_, t2_, t3_⟩ := xTv_new ht (by rw [txl_len]; omega)
        have hj9 : j = e.2.2.1 := by omega
        rw [hj9] at t1_ hbt
        have hbpos : 0 < bitsN (hLen A.1) e.2.2.2 e.2.2.1 := by
          obtain ⟨r, hr⟩ : ∃ r, e.2.2.1 = r + 1 := ⟨e.2.2.1 - 1, by omega⟩
          have hsy := e4_ r (by omega)
          rw [hr, bitsN, lenF, if_pos hsy]
          have := hLen_1 A.1 (j := e.2.2.2 r - 97) (by unfold isSy at hsy; omega)
          omega
        obtain ⟨v1_, v2_, v3_⟩ := xTv_new hbt (by rw [btl_len]; exact hbpos)
        exact kk s14 s15 Fh577 z1 hM hcs t1_ v1_ (by omega) (by omega) (by omega)
      · skip
        have hsy := e4_ j (by omega)
        have hbj := bitsN_le (ln := hLen A.1) (fun j hj => hLen_7 A.1 hj) e.2.2.2 j
        have hl7 := hLen_7 A.1 (j := e.2.2.2 j - 97) (by omega)
        refine x_new hC (fs := [.null, .int (nI 0), .int (nI 0), .int (nI 0)]) kn_Law_143 ⟨by omega, by omega⟩ d_Law_law_588 ?_
        generalize e2 : xup Fh577 (z1) (.inl (10, [.null, .int (nI 0), .int (nI 0), .int (nI 0)])) = F2
        have hM : xMC F2 (cm) (b) (M) := xMC_fr hM (fun a9 q1 q2 => by rw [← e2]; exact xup_ne (by omega))
        have hcs : xCs F2 (ca) (ce) (A.1) (8) := xCs_fr hcs (fun a9 q1 q2 => by rw [← e2]; exact xup_ne (by omega))
        have ht : xTv P F2 (z) (z1) (s14) (txl e.2.2.2 j) := xTv_fr ht (fun a9 q1 q2 => by rw [← e2]; exact xup_ne (by omega))
        have hbt : xTv P F2 (z) (z1) (s15) (btl (hLen A.1) (hVal (hLen A.1)) e.2.2.2 j) := xTv_fr hbt (fun a9 q1 q2 => by rw [← e2]; exact xup_ne (by omega))
        have hb : F2 (z1) = some (.inl (10, [.null, .int (nI 0), .int (nI 0), .int (nI 0)])) := by rw [← e2]; exact xup_eq
        refine x_dup hC d_Law_law_591 rfl ?_
        refine x_callI hC ki_Law_145 rfl (c_StringBuilder_initL (hb := hb) (hJ := hJ) (hbz := by omega) (fo := fo)) (by decide) rfl rfl rfl (Nat.le_of_ble_eq_true rfl) ⟨by omega, by omega⟩ d_Law_law_592 (fun r9 F9 z9 hp9 => ?_)
        obtain ⟨rfl, h9c, j0, hag9⟩ := hp9
        rw [h9c]
        clear h9c z9
        generalize F9 = F3 at *
        have hM : xMC F3 (cm) (b) (M) := xMC_fr hM (fun a9 q1 q2 => hag9 a9 (by omega))
        have hcs : xCs F3 (ca) (ce) (A.1) (8) := xCs_fr hcs (fun a9 q1 q2 => hag9 a9 (by omega))
        have ht : xTv P F3 (z) (z1) (s14) (txl e.2.2.2 j) := xTv_fr ht (fun a9 q1 q2 => hag9 a9 (by omega))
        have hbt : xTv P F3 (z) (z1) (s15) (btl (hLen A.1) (hVal (hLen A.1)) e.2.2.2 j) := xTv_fr hbt (fun a9 q1 q2 => hag9 a9 (by omega))
        have hb : xSB F3 (z1) ((z1 + 1) + 1) (z1) ([]) := j0
        have hg_592 := hag9
        clear hag9
        refine x_aload hC d_Law_law_595 rfl ?_
        obtain ⟨rv, rK, rg, rr, rb, -⟩ := id hb
        refine x_callV hC kv_Law_146 (c_StringBuilder_append_StringLT (hb := hb) (hJ := hJ) (hT := xTv_T ht (by omega)) (hl := by simp only [List.length_append, List.length_nil, List.length_cons, cdp_len, cdl_len, txl_len, btl_len, dgl_len]; omega) (fo := fo) (m := txl e.2.2.2 j)) rb rfl rfl (by decide) rfl rfl rfl (Nat.le_of_ble_eq_true rfl) ⟨by omega, by omega⟩ d_Law_law_597 (fun r9 F9 z9 hp9 => ?_)
        obtain ⟨zz_597, rfl, h9c, j0, pw_597, hag9⟩ := hp9
        rw [h9c]
        clear h9c z9
        generalize F9 = F4 at *
        have hM : xMC F4 (cm) (b) (M) := xMC_fr hM (fun a9 q1 q2 => hag9 a9 (by omega))
        have hcs : xCs F4 (ca) (ce) (A.1) (8) := xCs_fr hcs (fun a9 q1 q2 => hag9 a9 (by omega))
        have ht : xTv P F4 (z) (z1) (s14) (txl e.2.2.2 j) := xTv_fr ht (fun a9 q1 q2 => hag9 a9 (by omega))
        have hbt : xTv P F4 (z) (z1) (s15) (btl (hLen A.1) (hVal (hLen A.1)) e.2.2.2 j) := xTv_fr hbt (fun a9 q1 q2 => hag9 a9 (by omega))
        have hb : xSB F4 (z1) (zz_597) (z1) (([]) ++ (txl e.2.2.2 j)) := j0
        have hg_597 := hag9
        clear hag9
        refine x_aload_n hC d_Law_law_600 rfl rfl ?_
        refine x_iload hC d_Law_law_601 rfl ?_
        refine x_iload hC d_Law_law_603 rfl ?_
        obtain ⟨b0, -⟩ := id hM
        refine x_callV hC kv_Law_58 (c_MessageCoder_symbolAtK (hM := hM) (hA := hA) (hZx := hZx) (n0 := m2_) (he := m3_) (n1 := by omega) (A := A) (e := e)) b0 rfl rfl (by decide) rfl rfl rfl (Nat.le_of_ble_eq_true rfl) ⟨by omega, by omega⟩ d_Law_law_605 (fun r9 F9 z9 hp9 => ?_)
        obtain ⟨rfl, h9b, h9c⟩ := hp9
        rw [h9b, h9c]
        clear h9b h9c F9 z9
        obtain ⟨rv, rK, rg, rr, rb, -⟩ := id hb
        refine x_callV hC kv_Law_160 (c_StringBuilder_append_CL (hb := hb) (hJ := hJ) (hx := by omega) (hl := by simp only [List.length_append, List.length_nil, List.length_cons, cdp_len, cdl_len, txl_len, btl_len, dgl_len]; omega) (fo := fo)) rb rfl rfl (by decide) rfl rfl rfl (Nat.le_of_ble_eq_true rfl) ⟨by omega, by omega⟩ d_Law_law_608 (fun r9 F9 z9 hp9 => ?_)
        obtain ⟨zz_608, rfl, h9c, j0, pw_608, hag9⟩ := hp9
        rw [h9c]
        clear h9c z9
        generalize F9 = F5 at *
        have hM : xMC F5 (cm) (b) (M) := xMC_fr hM (fun a9 q1 q2 => hag9 a9 (by omega))
        have hcs : xCs F5 (ca) (ce) (A.1) (8) := xCs_fr hcs (fun a9 q1 q2 => hag9 a9 (by omega))
        have ht : xTv P F5 (z) (z1) (s14) (txl e.2.2.2 j) := xTv_fr ht (fun a9 q1 q2 => hag9 a9 (by omega))
        have hbt : xTv P F5 (z) (z1) (s15) (btl (hLen A.1) (hVal (hLen A.1)) e.2.2.2 j) := xTv_fr hbt (fun a9 q1 q2 => hag9 a9 (by omega))
        have hb : xSB F5 (z1) (zz_608) (z1) ((([]) ++ (txl e.2.2.2 j)) ++ [(e.2.2.2 j)]) := j0
        have hg_608 := hag9
        clear hag9
        obtain ⟨rv, rK, rg, rr, rb, -⟩ := id hb
        refine x_callV hC kv_Law_153 (c_StringBuilder_toStringL (hb := hb) (hJ := hJ) (fo := fo)) rb rfl rfl (by decide) rfl rfl rfl (Nat.le_of_ble_eq_true rfl) ⟨by omega, by omega⟩ d_Law_law_611 (fun r9 F9 z9 hp9 => ?_)
        obtain ⟨rfl, h9c, j0, hag9⟩ := hp9
        rw [h9c]
        clear h9c z9
        generalize F9 = F6 at *
        have hM : xMC F6 (cm) (b) (M) := xMC_fr hM (fun a9 q1 q2 => hag9 a9 (by omega))
        have hcs : xCs F6 (ca) (ce) (A.1) (8) := xCs_fr hcs (fun a9 q1 q2 => hag9 a9 (by omega))
        have ht : xTv P F6 (z) (z1) (s14) (txl e.2.2.2 j) := xTv_fr ht (fun a9 q1 q2 => hag9 a9 (by omega))
        have hbt : xTv P F6 (z) (z1) (s15) (btl (hLen A.1) (hVal (hLen A.1)) e.2.2.2 j) := xTv_fr hbt (fun a9 q1 q2 => hag9 a9 (by omega))
        have hs1 : xTs F6 (zz_608) (((([]) ++ (txl e.2.2.2 j)) ++ [(e.2.2.2 j)])) := j0
        have hg_611 := hag9
        clear hag9
        refine x_astore hC d_Law_law_614 (Nat.le_of_ble_eq_true rfl) (L1 := [some (.ref a), some (.ref b), some (.int (nI (T))), some (.int (nI (sumN (fun j => A.1 j * hLen A.1 j) 8))), some (.int (nI (sumN A.1 8))), some (.int (nI (maxN (hLen A.1) 8))), some (.int (nI (A.2.2.1.1))), some (.ref ca), none, some (.int (nI (i))), some (.int (nI (e.1))), some (.int (nI 0)), some (.int (nI 0)), some (.int (nI (crcB (bitsN (hLen A.1) e.2.2.2 e.2.2.1) (splB (hLen A.1) (hVal (hLen A.1)) e.2.2.2 e.2.2.1) (bitsN (hLen A.1) e.2.2.2 e.2.2.1 + 4)))), some (.ref zz_608), some (.ref s15), some (.int (nI (j))), none, none, none, none, none]) rfl ?_
        refine x_new hC (fs := [.null, .int (nI 0), .int (nI 0), .int (nI 0)]) kn_Law_143 ⟨by omega, by omega⟩ d_Law_law_616 ?_
        generalize e7 : xup F6 (zz_608 + 2) (.inl (10, [.null, .int (nI 0), .int (nI 0), .int (nI 0)])) = F7
        have hM : xMC F7 (cm) (b) (M) := xMC_fr hM (fun a9 q1 q2 => by rw [← e7]; exact xup_ne (by omega))
        have hcs : xCs F7 (ca) (ce) (A.1) (8) := xCs_fr hcs (fun a9 q1 q2 => by rw [← e7]; exact xup_ne (by omega))
        have ht : xTv P F7 (z) (z1) (s14) (txl e.2.2.2 j) := xTv_fr ht (fun a9 q1 q2 => by rw [← e7]; exact xup_ne (by omega))
        have hbt : xTv P F7 (z) (z1) (s15) (btl (hLen A.1) (hVal (hLen A.1)) e.2.2.2 j) := xTv_fr hbt (fun a9 q1 q2 => by rw [← e7]; exact xup_ne (by omega))
        have hs1 : xTs F7 (zz_608) (((([]) ++ (txl e.2.2.2 j)) ++ [(e.2.2.2 j)])) := xTs_fr hs1 (fun a9 q1 q2 => by rw [← e7]; exact xup_ne (by omega))
        have hb : F7 (zz_608 + 2) = some (.inl (10, [.null, .int (nI 0), .int (nI 0), .int (nI 0)])) := by rw [← e7]; exact xup_eq
        refine x_dup hC d_Law_law_619 rfl ?_
        refine x_callI hC ki_Law_145 rfl (c_StringBuilder_initL (hb := hb) (hJ := hJ) (hbz := by omega) (fo := fo)) (by decide) rfl rfl rfl (Nat.le_of_ble_eq_true rfl) ⟨by omega, by omega⟩ d_Law_law_620 (fun r9 F9 z9 hp9 => ?_)
        obtain ⟨rfl, h9c, j0, hag9⟩ := hp9
        rw [h9c]
        clear h9c z9
        generalize F9 = F8 at *
        have hM : xMC F8 (cm) (b) (M) := xMC_fr hM (fun a9 q1 q2 => hag9 a9 (by omega))
        have hcs : xCs F8 (ca) (ce) (A.1) (8) := xCs_fr hcs (fun a9 q1 q2 => hag9 a9 (by omega))
        have ht : xTv P F8 (z) (z1) (s14) (txl e.2.2.2 j) := xTv_fr ht (fun a9 q1 q2 => hag9 a9 (by omega))
        have hbt : xTv P F8 (z) (z1) (s15) (btl (hLen A.1) (hVal (hLen A.1)) e.2.2.2 j) := xTv_fr hbt (fun a9 q1 q2 => hag9 a9 (by omega))
        have hs1 : xTs F8 (zz_608) (((([]) ++ (txl e.2.2.2 j)) ++ [(e.2.2.2 j)])) := xTs_fr hs1 (fun a9 q1 q2 => hag9 a9 (by omega))
        have hb : xSB F8 ((zz_608 + 2)) ((zz_608 + 3) + 1) ((zz_608 + 2)) ([]) := j0
        have hg_620 := hag9
        clear hag9
        refine x_aload hC d_Law_law_623 rfl ?_
        obtain ⟨rv, rK, rg, rr, rb, -⟩ := id hb
        refine x_callV hC kv_Law_146 (c_StringBuilder_append_StringLT (hb := hb) (hJ := hJ) (hT := xTv_T hbt (by omega)) (hl := by simp only [List.length_append, List.length_nil, List.length_cons, cdp_len, cdl_len, txl_len, btl_len, dgl_len]; omega) (fo := fo) (m := btl (hLen A.1) (hVal (hLen A.1)) e.2.2.2 j)) rb rfl rfl (by decide) rfl rfl rfl (Nat.le_of_ble_eq_true rfl) ⟨by omega, by omega⟩ d_Law_law_625 (fun r9 F9 z9 hp9 => ?_)
        obtain ⟨zz_625, rfl, h9c, j0, pw_625, hag9⟩ := hp9
        rw [h9c]
        clear h9c z9
        generalize F9 = F9 at *
        have hM : xMC F9 (cm) (b) (M) := xMC_fr hM (fun a9 q1 q2 => hag9 a9 (by omega))
        have hcs : xCs F9 (ca) (ce) (A.1) (8) := xCs_fr hcs (fun a9 q1 q2 => hag9 a9 (by omega))
        have ht : xTv P F9 (z) (z1) (s14) (txl e.2.2.2 j) := xTv_fr ht (fun a9 q1 q2 => hag9 a9 (by omega))
        have hbt : xTv P F9 (z) (z1) (s15) (btl (hLen A.1) (hVal (hLen A.1)) e.2.2.2 j) := xTv_fr hbt (fun a9 q1 q2 => hag9 a9 (by omega))
        have hs1 : xTs F9 (zz_608) (((([]) ++ (txl e.2.2.2 j)) ++ [(e.2.2.2 j)])) := xTs_fr hs1 (fun a9 q1 q2 => hag9 a9 (by omega))
        have hb : xSB F9 ((zz_608 + 2)) (zz_625) ((zz_608 + 2)) (([]) ++ (btl (hLen A.1) (hVal (hLen A.1)) e.2.2.2 j)) := j0
        have hg_625 := hag9
        clear hag9
        refine x_aload hC d_Law_law_628 rfl ?_
        refine x_aload_n hC d_Law_law_630 rfl rfl ?_
        refine x_iload hC d_Law_law_631 rfl ?_
        refine x_iload hC d_Law_law_633 rfl ?_
        obtain ⟨b0, -⟩ := id hM
        refine x_callV hC kv_Law_58 (c_MessageCoder_symbolAtK (hM := hM) (hA := hA) (hZx := hZx) (n0 := m2_) (he := m3_) (n1 := by omega) (A := A) (e := e)) b0 rfl rfl (by decide) rfl rfl rfl (Nat.le_of_ble_eq_true rfl) ⟨by omega, by omega⟩ d_Law_law_635 (fun r9 F9 z9 hp9 => ?_)
        obtain ⟨rfl, h9b, h9c⟩ := hp9
        rw [h9b, h9c]
        clear h9b h9c F9 z9
        refine x_bipush hC d_Law_law_638 (v := nI 97) (by decide) ?_
        refine x_isub hC d_Law_law_640 (v := (nI (e.2.2.2 j - 97))) (pk_sub (by omega)) ?_
        refine x_codeGet hC hcs (by omega) d_Law_law_641 (fun sd q1sd q2sd hsd => ?_)
        obtain ⟨rv, rK, rg, rr, rb, -⟩ := id hb
        refine x_callV hC kv_Law_146 (c_StringBuilder_append_StringL (hb := hb) (hs := hsd) (hJ := hJ) (hl := by simp only [List.length_append, List.length_nil, List.length_cons, cdp_len, cdl_len, txl_len, btl_len, dgl_len]; omega) (hsl := by omega) (fo := fo)) rb rfl rfl (by decide) rfl rfl rfl (Nat.le_of_ble_eq_true rfl) ⟨by omega, by omega⟩ d_Law_law_642 (fun r9 F9 z9 hp9 => ?_)
        obtain ⟨zz_642, rfl, h9c, j0, pw_642, hag9⟩ := hp9
        rw [h9c]
        clear h9c z9
        generalize F9 = F10 at *
        have hM : xMC F10 (cm) (b) (M) := xMC_fr hM (fun a9 q1 q2 => hag9 a9 (by omega))
        have hcs : xCs F10 (ca) (ce) (A.1) (8) := xCs_fr hcs (fun a9 q1 q2 => hag9 a9 (by omega))
        have ht : xTv P F10 (z) (z1) (s14) (txl e.2.2.2 j) := xTv_fr ht (fun a9 q1 q2 => hag9 a9 (by omega))
        have hbt : xTv P F10 (z) (z1) (s15) (btl (hLen A.1) (hVal (hLen A.1)) e.2.2.2 j) := xTv_fr hbt (fun a9 q1 q2 => hag9 a9 (by omega))
        have hs1 : xTs F10 (zz_608) (((([]) ++ (txl e.2.2.2 j)) ++ [(e.2.2.2 j)])) := xTs_fr hs1 (fun a9 q1 q2 => hag9 a9 (by omega))
        have hsd : xTs F10 (sd) (cdl (hLen A.1 (e.2.2.2 j - 97)) (hVal (hLen A.1) (e.2.2.2 j - 97))) := xTs_fr hsd (fun a9 q1 q2 => hag9 a9 (by omega))
        have hb : xSB F10 ((zz_608 + 2)) (zz_642) ((zz_608 + 2)) ((([]) ++ (btl (hLen A.1) (hVal (hLen A.1)) e.2.2.2 j)) ++ (cdl (hLen A.1 (e.2.2.2 j - 97)) (hVal (hLen A.1) (e.2.2.2 j - 97)))) := j0
        have hg_642 := hag9
        clear hag9
        obtain ⟨rv, rK, rg, rr, rb, -⟩ := id hb
        refine x_callV hC kv_Law_153 (c_StringBuilder_toStringL (hb := hb) (hJ := hJ) (fo := fo)) rb rfl rfl (by decide) rfl rfl rfl (Nat.le_of_ble_eq_true rfl) ⟨by omega, by omega⟩ d_Law_law_645 (fun r9 F9 z9 hp9 => ?_)
        obtain ⟨rfl, h9c, j0, hag9⟩ := hp9
        rw [h9c]
        clear h9c z9
        generalize F9 = F11 at *
        have hM : xMC F11 (cm) (b) (M) := xMC_fr hM (fun a9 q1 q2 => hag9 a9 (by omega))
        have hcs : xCs F11 (ca) (ce) (A.1) (8) := xCs_fr hcs (fun a9 q1 q2 => hag9 a9 (by omega))
        have ht : xTv P F11 (z) (z1) (s14) (txl e.2.2.2 j) := xTv_fr ht (fun a9 q1 q2 => hag9 a9 (by omega))
        have hbt : xTv P F11 (z) (z1) (s15) (btl (hLen A.1) (hVal (hLen A.1)) e.2.2.2 j) := xTv_fr hbt (fun a9 q1 q2 => hag9 a9 (by omega))
        have hs1 : xTs F11 (zz_608) (((([]) ++ (txl e.2.2.2 j)) ++ [(e.2.2.2 j)])) := xTs_fr hs1 (fun a9 q1 q2 => hag9 a9 (by omega))
        have hsd : xTs F11 (sd) (cdl (hLen A.1 (e.2.2.2 j - 97)) (hVal (hLen A.1) (e.2.2.2 j - 97))) := xTs_fr hsd (fun a9 q1 q2 => hag9 a9 (by omega))
        have hs2 : xTs F11 (zz_642) (((([]) ++ (btl (hLen A.1) (hVal (hLen A.1)) e.2.2.2 j)) ++ (cdl (hLen A.1 (e.2.2.2 j - 97)) (hVal (hLen A.1) (e.2.2.2 j - 97))))) := j0
        have hg_645 := hag9
        clear hag9
        refine x_astore hC d_Law_law_648 (Nat.le_of_ble_eq_true rfl) (L1 := [some (.ref a), some (.ref b), some (.int (nI (T))), some (.int (nI (sumN (fun j => A.1 j * hLen A.1 j) 8))), some (.int (nI (sumN A.1 8))), some (.int (nI (maxN (hLen A.1) 8))), some (.int (nI (A.2.2.1.1))), some (.ref ca), none, some (.int (nI (i))), some (.int (nI (e.1))), some (.int (nI 0)), some (.int (nI 0)), some (.int (nI (crcB (bitsN (hLen A.1) e.2.2.2 e.2.2.1) (splB (hLen A.1) (hVal (hLen A.1)) e.2.2.2 e.2.2.1) (bitsN (hLen A.1) e.2.2.2 e.2.2.1 + 4)))), some (.ref zz_608), some (.ref zz_642), some (.int (nI (j))), none, none, none, none, none]) rfl ?_
        have ht : xTv P F11 z (zz_642 + 2) (zz_608) (txl e.2.2.2 (j + 1)) := Or.inl ⟨by rw [txl_s]; exact hs1, by omega, by omega⟩
        have hbt : xTv P F11 z (zz_642 + 2) (zz_642) (btl (hLen A.1) (hVal (hLen A.1)) e.2.2.2 (j + 1)) := Or.inl ⟨by rw [btl_s hsy]; exact hs2, by omega, by omega⟩
        refine x_iinc hC d_Law_law_650 rfl (v := (nI (j + 1))) (x_incN 1) (Nat.le_of_ble_eq_true rfl) (L1 := [some (.ref a), some (.ref b), some (.int (nI (T))), some (.int (nI (sumN (fun j => A.1 j * hLen A.1 j) 8))), some (.int (nI (sumN A.1 8))), some (.int (nI (maxN (hLen A.1) 8))), some (.int (nI (A.2.2.1.1))), some (.ref ca), none, some (.int (nI (i))), some (.int (nI (e.1))), some (.int (nI 0)), some (.int (nI 0)), some (.int (nI (crcB (bitsN (hLen A.1) e.2.2.2 e.2.2.1) (splB (hLen A.1) (hVal (hLen A.1)) e.2.2.2 e.2.2.1) (bitsN (hLen A.1) e.2.2.2 e.2.2.1 + 4)))), some (.ref zz_608), some (.ref zz_642), some (.int (nI (j + 1))), none, none, none, none, none]) rfl ?_
        refine x_goto hC d_Law_law_653 (tgt := 577) (by decide) ?_
        refine x_widen (k1 := k + 10 + 20 * (j + 1)) (n1 := n + 100 + 6000 * (j + 1)) (by omega) (by omega) ?_
        exact ih_577 F11 (j + 1) (zz_608) (zz_642) (zz_642 + 2) hM hcs ht hbt (by omega) (by omega) (by omega)
  refine x_widen (k1 := k + 10 + 20 * 0) (n1 := n + 100 + 6000 * 0) (by omega) (by omega) ?_
  exact loop_577 (e.2.2.1 - 0 + 1) F1 (0) (qe) (qe) (z) hM hcs ht hbt (by omega) (by omega) (by omega)

set_option maxHeartbeats 4000000 in
set_option maxRecDepth 20000 in
theorem l_m2 {P : xP} {Θ : xT} {fo : Nat} {o1 : Nat} {o2 : Nat} {rt : Nat} {cm : cmT} {sm : Nat} {a : Nat} {N : Nat} {xs : Nat → Int32} {qe : Nat} {qq : Nat} {qx : Nat} {qc : Nat} (hG : xGl P Θ fo o1 o2 rt cm sm a N xs qe qq qx qc) {b : Nat} {M : mcS} {A : aS} {q : Nat} {T : Nat} {ca : Nat} {ce : Nat} {i : Nat} {e : mS} {s14 : Nat} {s15 : Nat} {su : Nat} {F : xF} {z k n : Nat} (hM : xMC F (cm) (b) (M)) (hcs : xCs F (ca) (ce) (A.1) (8)) (ht : xTs F (s14) (txl e.2.2.2 e.2.2.1)) (hbt : xTs F (s15) (btl (hLen A.1) (hVal (hLen A.1)) e.2.2.2 e.2.2.1)) (hA : M.1 = A) (hB : pBd M q) (hq : q ≤ 900) (hz : b + 566 ≤ ca) (hce : ce ≤ z) (hi : i < A.2.2.1.1) (he : A.2.2.1.2.2 (mRk A (nI i)) = e) (hs14 : ce ≤ s14 ∧ s14 + 2 ≤ z) (hs15 : ce ≤ s15 ∧ s15 + 2 ≤ z) (hk : k + 5000 ≤ 644766) (hn : n + 500000 ≤ 7153085) (kk : ∀ (M1 : mcS) (F1 : xF) (z1 : Nat), xMC F1 cm b M1 → xCs F1 ca ce A.1 8 → xTs F1 s14 (txl e.2.2.2 e.2.2.1) → xTs F1 s15 (btl (hLen A.1) (hVal (hLen A.1)) e.2.2.2 e.2.2.1) → M1.1 = A → pBd M1 q → z ≤ z1 → xX P Θ 758 [some (.ref a), some (.ref b), some (.int (nI (T))), some (.int (nI (sumN (fun j => A.1 j * hLen A.1 j) 8))), some (.int (nI (sumN A.1 8))), some (.int (nI (maxN (hLen A.1) 8))), some (.int (nI (A.2.2.1.1))), some (.ref ca), none, some (.int (nI (i))), some (.int (nI (e.1))), some (.int (nI 0)), some (.int (nI 0)), some (.int (nI (su))), some (.ref s14), some (.ref s15), none, none, none, none, none, none] [] F1 z1 (k + 100) (n + 7000)) : xX P Θ 656 [some (.ref a), some (.ref b), some (.int (nI (T))), some (.int (nI (sumN (fun j => A.1 j * hLen A.1 j) 8))), some (.int (nI (sumN A.1 8))), some (.int (nI (maxN (hLen A.1) 8))), some (.int (nI (A.2.2.1.1))), some (.ref ca), none, some (.int (nI (i))), some (.int (nI (e.1))), some (.int (nI 0)), some (.int (nI 0)), some (.int (nI (su))), some (.ref s14), some (.ref s15), none, none, none, none, none, none] [] F (z) k n := by
  obtain ⟨hC, hZx, hNx, hJ, hD, hSR, hCM, hSM, hS, hE, hEo, hQ, hQo, hX, hXo, hK, hKo⟩ := hG
  have hI : pInv A := hA ▸ hB.1
  obtain ⟨⟨i1_, i2_, i3_, i4_, i5_⟩, iw, idr, im, io, ib, it⟩ := id hI
  have hcc := hcs.1
  obtain ⟨m1_, m2_, m3_, m4_⟩ := msg_at hI (by have := hB.2.2.2.1; rw [hA] at this; omega) hi
  rw [he] at m2_ m3_ m4_
  obtain ⟨e1_, e2_, e3_, e4_⟩ := id m4_
  have hnx : A.2.2.1.2.1 ≤ 900 := by have := hB.2.2.2.1; rw [hA] at this; omega
  have hb112 : bitsN (hLen A.1) e.2.2.2 e.2.2.1 ≤ 112 := Nat.le_trans (bitsN_le (fun j hj => hLen_7 A.1 hj) _ _) (by omega)
  refine x_aload_n hC d_Law_law_656 rfl rfl ?_
  refine x_iload hC d_Law_law_657 rfl ?_
  obtain ⟨b0, -⟩ := id hM
  refine x_callV hC kv_Law_218 (c_MessageCoder_bitCountK (hM := hM) (hA := hA) (hZx := hZx) (n0 := m2_) (he := m3_) (A := A) (e := e)) b0 rfl rfl (by decide) rfl rfl rfl (Nat.le_of_ble_eq_true rfl) ⟨by omega, by omega⟩ d_Law_law_659 (fun r9 F9 z9 hp9 => ?_)
  obtain ⟨rfl, h9b, h9c⟩ := hp9
  rw [h9b, h9c]
  clear h9b h9c F9 z9
  refine x_aload hC d_Law_law_662 rfl ?_
  obtain ⟨u0, s0, -⟩ := id hbt
  refine x_callV hC kv_Law_119 (c_String_lengthL (hs := hbt) (hJ := hJ) (fo := fo)) s0 rfl rfl (by decide) rfl rfl rfl (Nat.le_of_ble_eq_true rfl) ⟨by omega, by omega⟩ d_Law_law_664 (fun r9 F9 z9 hp9 => ?_)
  obtain ⟨rfl, h9b, h9c⟩ := hp9
  rw [h9b, h9c]
  clear h9b h9c F9 z9
  refine x_top (v := (nI (bitsN (hLen A.1) e.2.2.2 e.2.2.1))) (by rw [btl_len]) ?_
  refine x_icmpN_ne hC d_Law_law_667 (tgt := 756) (by decide) (by omega) (by omega) (fun c_667 => ?_) (fun c_667 => ?_)
  · skip
    exact absurd c_667 (by omega)
  · skip
    refine x_aload_n hC d_Law_law_670 rfl rfl ?_
    refine x_iload hC d_Law_law_671 rfl ?_
    refine x_aload hC d_Law_law_673 rfl ?_
    obtain ⟨u0, s0, -⟩ := id hbt
    refine x_callV hC kv_Law_119 (c_String_lengthL (hs := hbt) (hJ := hJ) (fo := fo)) s0 rfl rfl (by decide) rfl rfl rfl (Nat.le_of_ble_eq_true rfl) ⟨by omega, by omega⟩ d_Law_law_675 (fun r9 F9 z9 hp9 => ?_)
    obtain ⟨rfl, h9b, h9c⟩ := hp9
    rw [h9b, h9c]
    clear h9b h9c F9 z9
    refine x_top (v := (nI (bitsN (hLen A.1) e.2.2.2 e.2.2.1))) (by rw [btl_len]) ?_
    refine x_callW hC kw_Law_221 (c_Law_bitAt (hM := hM) (hZx := hZx) (hNx := hNx) (hxx := by rw [hA, m3_]; exact ⟨m2_, xt_out (Nat.le_refl _) (by omega)⟩)) (by decide) rfl rfl rfl (Nat.le_of_ble_eq_true rfl) ⟨by omega, by omega⟩ d_Law_law_678 (fun r9 F9 z9 hp9 => ?_)
    obtain ⟨zz_678, rfl, h9c, j0, pw_678, hag9⟩ := hp9
    rw [h9c]
    clear h9c z9
    generalize F9 = F1 at *
    have hcs : xCs F1 (ca) (ce) (A.1) (8) := xCs_fr hcs (fun a9 q1 q2 => hag9 a9 (by omega))
    have ht : xTs F1 (s14) (txl e.2.2.2 e.2.2.1) := xTs_fr ht (fun a9 q1 q2 => hag9 a9 (by omega))
    have hbt : xTs F1 (s15) (btl (hLen A.1) (hVal (hLen A.1)) e.2.2.2 e.2.2.1) := xTs_fr hbt (fun a9 q1 q2 => hag9 a9 (by omega))
    have hM : xMC F1 (cm) (b) (M) := j0
    have hg_678 := hag9
    clear hag9
    refine x_sipush hC d_Law_law_681 (v := -25000) (by decide) ?_
    refine x_icmp_ne hC d_Law_law_684 (tgt := 756) (by decide) (fun c_684 => ?_) (fun c_684 => ?_)
    · skip
      exact absurd rfl c_684
    · skip
      refine x_aload_n hC d_Law_law_687 rfl rfl ?_
      refine x_iload hC d_Law_law_688 rfl ?_
      refine x_aload hC d_Law_law_690 rfl ?_
      obtain ⟨u0, s0, -⟩ := id ht
      refine x_callV hC kv_Law_119 (c_String_lengthL (hs := ht) (hJ := hJ) (fo := fo)) s0 rfl rfl (by decide) rfl rfl rfl (Nat.le_of_ble_eq_true rfl) ⟨by omega, by omega⟩ d_Law_law_692 (fun r9 F9 z9 hp9 => ?_)
      obtain ⟨rfl, h9b, h9c⟩ := hp9
      rw [h9b, h9c]
      clear h9b h9c F9 z9
      refine x_top (v := (nI (e.2.2.1))) (by rw [txl_len]) ?_
      refine x_callW hC kw_Law_223 (c_Law_symbolAt (hM := hM) (hZx := hZx) (hNx := hNx) (hxx := by rw [hA, m3_]; exact ⟨m2_, xt_out (Nat.le_refl _) (by omega)⟩)) (by decide) rfl rfl rfl (Nat.le_of_ble_eq_true rfl) ⟨by omega, by omega⟩ d_Law_law_695 (fun r9 F9 z9 hp9 => ?_)
      obtain ⟨zz_695, rfl, h9c, pw_695, hag9⟩ := hp9
      rw [h9c]
      clear h9c z9
      generalize F9 = F2 at *
      have hcs : xCs F2 (ca) (ce) (A.1) (8) := xCs_fr hcs (fun a9 q1 q2 => hag9 a9)
      have ht : xTs F2 (s14) (txl e.2.2.2 e.2.2.1) := xTs_fr ht (fun a9 q1 q2 => hag9 a9)
      have hbt : xTs F2 (s15) (btl (hLen A.1) (hVal (hLen A.1)) e.2.2.2 e.2.2.1) := xTs_fr hbt (fun a9 q1 q2 => hag9 a9)
      have hM : xMC F2 (cm) (b) (M) := xMC_fr hM (fun a9 q1 q2 => hag9 a9)
      have hg_695 := hag9
      clear hag9
      refine x_sipush hC d_Law_law_698 (v := -25000) (by decide) ?_
      refine x_icmp_ne hC d_Law_law_701 (tgt := 756) (by decide) (fun c_701 => ?_) (fun c_701 => ?_)
      · skip
        exact absurd rfl c_701
      · skip
        refine x_aload_n hC d_Law_law_704 rfl rfl ?_
        refine x_aload_n hC d_Law_law_705 rfl rfl ?_
        refine x_iload hC d_Law_law_706 rfl ?_
        obtain ⟨b0, -⟩ := id hM
        refine x_callV hC kv_Law_225 (c_MessageCoder_formatMessageK (hM := hM) (hA := hA) (hZx := hZx) (n0 := m2_) (he := m3_) (A := A) (e := e)) b0 rfl rfl (by decide) rfl rfl rfl (Nat.le_of_ble_eq_true rfl) ⟨by omega, by omega⟩ d_Law_law_708 (fun r9 F9 z9 hp9 => ?_)
        obtain ⟨rfl, h9c, j0, hag9⟩ := hp9
        rw [h9c]
        clear h9c z9
        generalize F9 = F3 at *
        have hcs : xCs F3 (ca) (ce) (A.1) (8) := xCs_fr hcs (fun a9 q1 q2 => hag9 a9 (by omega))
        have ht : xTs F3 (s14) (txl e.2.2.2 e.2.2.1) := xTs_fr ht (fun a9 q1 q2 => hag9 a9 (by omega))
        have hbt : xTs F3 (s15) (btl (hLen A.1) (hVal (hLen A.1)) e.2.2.2 e.2.2.1) := xTs_fr hbt (fun a9 q1 q2 => hag9 a9 (by omega))
        have hM : xMC F3 (cm) (b) (setL M (dgs e.1 + 1 + dgs e.2.1 + 1 + e.2.2.1) (fmS e)) := j0
        have hg_708 := hag9
        clear hag9
        refine x_new hC (fs := [.null, .int (nI 0), .int (nI 0), .int (nI 0)]) kn_Law_143 ⟨by omega, by omega⟩ d_Law_law_711 ?_
        generalize e4 : xup F3 (zz_695) (.inl (10, [.null, .int (nI 0), .int (nI 0), .int (nI 0)])) = F4
        have hcs : xCs F4 (ca) (ce) (A.1) (8) := xCs_fr hcs (fun a9 q1 q2 => by rw [← e4]; exact xup_ne (by omega))
        have ht : xTs F4 (s14) (txl e.2.2.2 e.2.2.1) := xTs_fr ht (fun a9 q1 q2 => by rw [← e4]; exact xup_ne (by omega))
        have hbt : xTs F4 (s15) (btl (hLen A.1) (hVal (hLen A.1)) e.2.2.2 e.2.2.1) := xTs_fr hbt (fun a9 q1 q2 => by rw [← e4]; exact xup_ne (by omega))
        have hM : xMC F4 (cm) (b) (setL M (dgs e.1 + 1 + dgs e.2.1 + 1 + e.2.2.1) (fmS e)) := xMC_fr hM (fun a9 q1 q2 => by rw [← e4]; exact xup_ne (by omega))
        have hb : F4 (zz_695) = some (.inl (10, [.null, .int (nI 0), .int (nI 0), .int (nI 0)])) := by rw [← e4]; exact xup_eq
        refine x_dup hC d_Law_law_714 rfl ?_
        refine x_callI hC ki_Law_145 rfl (c_StringBuilder_initL (hb := hb) (hJ := hJ) (hbz := by omega) (fo := fo)) (by decide) rfl rfl rfl (Nat.le_of_ble_eq_true rfl) ⟨by omega, by omega⟩ d_Law_law_715 (fun r9 F9 z9 hp9 => ?_)
        obtain ⟨rfl, h9c, j0, hag9⟩ := hp9
        rw [h9c]
        clear h9c z9
        generalize F9 = F5 at *
        have hcs : xCs F5 (ca) (ce) (A.1) (8) := xCs_fr hcs (fun a9 q1 q2 => hag9 a9 (by omega))
        have ht : xTs F5 (s14) (txl e.2.2.2 e.2.2.1) := xTs_fr ht (fun a9 q1 q2 => hag9 a9 (by omega))
        have hbt : xTs F5 (s15) (btl (hLen A.1) (hVal (hLen A.1)) e.2.2.2 e.2.2.1) := xTs_fr hbt (fun a9 q1 q2 => hag9 a9 (by omega))
        have hM : xMC F5 (cm) (b) (setL M (dgs e.1 + 1 + dgs e.2.1 + 1 + e.2.2.1) (fmS e)) := xMC_fr hM (fun a9 q1 q2 => hag9 a9 (by omega))
        have hb : xSB F5 (zz_695) ((zz_695 + 1) + 1) (zz_695) ([]) := j0
        have hg_715 := hag9
        clear hag9
        refine x_iload hC d_Law_law_718 rfl ?_
        obtain ⟨rv, rK, rg, rr, rb, -⟩ := id hb
        refine x_callV hC kv_Law_150 (c_StringBuilder_append_IL (hb := hb) (hJ := hJ) (hD := hD) (hx := by omega) (hl := by simp only [List.length_append, List.length_nil, List.length_cons, cdp_len, cdl_len, txl_len, btl_len, dgl_len]; omega) (fo := fo) (o1 := o1) (o2 := o2)) rb rfl rfl (by decide) rfl rfl rfl (Nat.le_of_ble_eq_true rfl) ⟨by omega, by omega⟩ d_Law_law_720 (fun r9 F9 z9 hp9 => ?_)
        obtain ⟨zz_720, rfl, h9c, j0, pw_720, hag9⟩ := hp9
        rw [h9c]
        clear h9c z9
        generalize F9 = F6 at *
        have hcs : xCs F6 (ca) (ce) (A.1) (8) := xCs_fr hcs (fun a9 q1 q2 => hag9 a9 (by omega))
        have ht : xTs F6 (s14) (txl e.2.2.2 e.2.2.1) := xTs_fr ht (fun a9 q1 q2 => hag9 a9 (by omega))
        have hbt : xTs F6 (s15) (btl (hLen A.1) (hVal (hLen A.1)) e.2.2.2 e.2.2.1) := xTs_fr hbt (fun a9 q1 q2 => hag9 a9 (by omega))
        have hM : xMC F6 (cm) (b) (setL M (dgs e.1 + 1 + dgs e.2.1 + 1 + e.2.2.1) (fmS e)) := xMC_fr hM (fun a9 q1 q2 => hag9 a9 (by omega))
        have hb : xSB F6 (zz_695) (zz_720) (zz_695) (([]) ++ dgl (e.1)) := j0
        have hg_720 := hag9
        clear hag9
        refine x_ldcS hC hX d_Law_law_723 ?_
        obtain ⟨rv, rK, rg, rr, rb, -⟩ := id hb
        refine x_callV hC kv_Law_146 (c_StringBuilder_append_StringLO (hb := hb) (hJ := hJ) (hO := hXo) (hl := by have d1 := dgs_b e.1; have d2 := dgs_b e.2.1; simp only [List.length_append, List.length_nil, List.length_cons, cdp_len, cdl_len, txl_len, btl_len, dgl_len]; omega) (fo := fo) (m := [33])) rb rfl rfl (by decide) rfl rfl rfl (Nat.le_of_ble_eq_true rfl) ⟨by omega, by omega⟩ d_Law_law_725 (fun r9 F9 z9 hp9 => ?_)
        obtain ⟨zz_725, rfl, h9c, j0, pw_725, hag9⟩ := hp9
        rw [h9c]
        clear h9c z9
        generalize F9 = F7 at *
        have hcs : xCs F7 (ca) (ce) (A.1) (8) := xCs_fr hcs (fun a9 q1 q2 => hag9 a9 (by omega))
        have ht : xTs F7 (s14) (txl e.2.2.2 e.2.2.1) := xTs_fr ht (fun a9 q1 q2 => hag9 a9 (by omega))
        have hbt : xTs F7 (s15) (btl (hLen A.1) (hVal (hLen A.1)) e.2.2.2 e.2.2.1) := xTs_fr hbt (fun a9 q1 q2 => hag9 a9 (by omega))
        have hM : xMC F7 (cm) (b) (setL M (dgs e.1 + 1 + dgs e.2.1 + 1 + e.2.2.1) (fmS e)) := xMC_fr hM (fun a9 q1 q2 => hag9 a9 (by omega))
        have hb : xSB F7 (zz_695) (zz_725) (zz_695) ((([]) ++ dgl (e.1)) ++ ([33])) := j0
        have hg_725 := hag9
        clear hag9
        refine x_aload_n hC d_Law_law_728 rfl rfl ?_
        refine x_iload hC d_Law_law_729 rfl ?_
        obtain ⟨b0, -⟩ := id hM
        refine x_callV hC kv_Law_230 (c_MessageCoder_priorityOfK (hM := hM) (hA := hA) (hZx := hZx) (n0 := m2_) (he := m3_) (A := A) (e := e)) b0 rfl rfl (by decide) rfl rfl rfl (Nat.le_of_ble_eq_true rfl) ⟨by omega, by omega⟩ d_Law_law_731 (fun r9 F9 z9 hp9 => ?_)
        obtain ⟨rfl, h9b, h9c⟩ := hp9
        rw [h9b, h9c]
        clear h9b h9c F9 z9
        obtain ⟨rv, rK, rg, rr, rb, -⟩ := id hb
        refine x_callV hC kv_Law_150 (c_StringBuilder_append_IL (hb := hb) (hJ := hJ) (hD := hD) (hx := by omega) (hl := by have d1 := dgs_b e.1; have d2 := dgs_b e.2.1; simp only [List.length_append, List.length_nil, List.length_cons, cdp_len, cdl_len, txl_len, btl_len, dgl_len]; omega) (fo := fo) (o1 := o1) (o2 := o2)) rb rfl rfl (by decide) rfl rfl rfl (Nat.le_of_ble_eq_true rfl) ⟨by omega, by omega⟩ d_Law_law_734 (fun r9 F9 z9 hp9 => ?_)
        obtain ⟨zz_734, rfl, h9c, j0, pw_734, hag9⟩ := hp9
        rw [h9c]
        clear h9c z9
        generalize F9 = F8 at *
        have hcs : xCs F8 (ca) (ce) (A.1) (8) := xCs_fr hcs (fun a9 q1 q2 => hag9 a9 (by omega))
        have ht : xTs F8 (s14) (txl e.2.2.2 e.2.2.1) := xTs_fr ht (fun a9 q1 q2 => hag9 a9 (by omega))
        have hbt : xTs F8 (s15) (btl (hLen A.1) (hVal (hLen A.1)) e.2.2.2 e.2.2.1) := xTs_fr hbt (fun a9 q1 q2 => hag9 a9 (by omega))
        have hM : xMC F8 (cm) (b) (setL M (dgs e.1 + 1 + dgs e.2.1 + 1 + e.2.2.1) (fmS e)) := xMC_fr hM (fun a9 q1 q2 => hag9 a9 (by omega))
        have hb : xSB F8 (zz_695) (zz_734) (zz_695) (((([]) ++ dgl (e.1)) ++ ([33])) ++ dgl (e.2.1)) := j0
        have hg_734 := hag9
        clear hag9
        refine x_ldcS hC hK d_Law_law_737 ?_
        obtain ⟨rv, rK, rg, rr, rb, -⟩ := id hb
        refine x_callV hC kv_Law_146 (c_StringBuilder_append_StringLO (hb := hb) (hJ := hJ) (hO := hKo) (hl := by have d1 := dgs_b e.1; have d2 := dgs_b e.2.1; simp only [List.length_append, List.length_nil, List.length_cons, cdp_len, cdl_len, txl_len, btl_len, dgl_len]; omega) (fo := fo) (m := [58])) rb rfl rfl (by decide) rfl rfl rfl (Nat.le_of_ble_eq_true rfl) ⟨by omega, by omega⟩ d_Law_law_739 (fun r9 F9 z9 hp9 => ?_)
        obtain ⟨zz_739, rfl, h9c, j0, pw_739, hag9⟩ := hp9
        rw [h9c]
        clear h9c z9
        generalize F9 = F9 at *
        have hcs : xCs F9 (ca) (ce) (A.1) (8) := xCs_fr hcs (fun a9 q1 q2 => hag9 a9 (by omega))
        have ht : xTs F9 (s14) (txl e.2.2.2 e.2.2.1) := xTs_fr ht (fun a9 q1 q2 => hag9 a9 (by omega))
        have hbt : xTs F9 (s15) (btl (hLen A.1) (hVal (hLen A.1)) e.2.2.2 e.2.2.1) := xTs_fr hbt (fun a9 q1 q2 => hag9 a9 (by omega))
        have hM : xMC F9 (cm) (b) (setL M (dgs e.1 + 1 + dgs e.2.1 + 1 + e.2.2.1) (fmS e)) := xMC_fr hM (fun a9 q1 q2 => hag9 a9 (by omega))
        have hb : xSB F9 (zz_695) (zz_739) (zz_695) ((((([]) ++ dgl (e.1)) ++ ([33])) ++ dgl (e.2.1)) ++ ([58])) := j0
        have hg_739 := hag9
        clear hag9
        refine x_aload hC d_Law_law_742 rfl ?_
        obtain ⟨rv, rK, rg, rr, rb, -⟩ := id hb
        refine x_callV hC kv_Law_146 (c_StringBuilder_append_StringL (hb := hb) (hs := ht) (hJ := hJ) (hl := by have d1 := dgs_b e.1; have d2 := dgs_b e.2.1; simp only [List.length_append, List.length_nil, List.length_cons, cdp_len, cdl_len, txl_len, btl_len, dgl_len]; omega) (hsl := by omega) (fo := fo)) rb rfl rfl (by decide) rfl rfl rfl (Nat.le_of_ble_eq_true rfl) ⟨by omega, by omega⟩ d_Law_law_744 (fun r9 F9 z9 hp9 => ?_)
        obtain ⟨zz_744, rfl, h9c, j0, pw_744, hag9⟩ := hp9
        rw [h9c]
        clear h9c z9
        generalize F9 = F10 at *
        have hcs : xCs F10 (ca) (ce) (A.1) (8) := xCs_fr hcs (fun a9 q1 q2 => hag9 a9 (by omega))
        have ht : xTs F10 (s14) (txl e.2.2.2 e.2.2.1) := xTs_fr ht (fun a9 q1 q2 => hag9 a9 (by omega))
        have hbt : xTs F10 (s15) (btl (hLen A.1) (hVal (hLen A.1)) e.2.2.2 e.2.2.1) := xTs_fr hbt (fun a9 q1 q2 => hag9 a9 (by omega))
        have hM : xMC F10 (cm) (b) (setL M (dgs e.1 + 1 + dgs e.2.1 + 1 + e.2.2.1) (fmS e)) := xMC_fr hM (fun a9 q1 q2 => hag9 a9 (by omega))
        have hb : xSB F10 (zz_695) (zz_744) (zz_695) (((((([]) ++ dgl (e.1)) ++ ([33])) ++ dgl (e.2.1)) ++ ([58])) ++ (txl e.2.2.2 e.2.2.1)) := j0
        have hg_744 := hag9
        clear hag9
        obtain ⟨rv, rK, rg, rr, rb, -⟩ := id hb
        refine x_callV hC kv_Law_153 (c_StringBuilder_toStringL (hb := hb) (hJ := hJ) (fo := fo)) rb rfl rfl (by decide) rfl rfl rfl (Nat.le_of_ble_eq_true rfl) ⟨by omega, by omega⟩ d_Law_law_747 (fun r9 F9 z9 hp9 => ?_)
        obtain ⟨rfl, h9c, j0, hag9⟩ := hp9
        rw [h9c]
        clear h9c z9
        generalize F9 = F11 at *
        have hcs : xCs F11 (ca) (ce) (A.1) (8) := xCs_fr hcs (fun a9 q1 q2 => hag9 a9 (by omega))
        have ht : xTs F11 (s14) (txl e.2.2.2 e.2.2.1) := xTs_fr ht (fun a9 q1 q2 => hag9 a9 (by omega))
        have hbt : xTs F11 (s15) (btl (hLen A.1) (hVal (hLen A.1)) e.2.2.2 e.2.2.1) := xTs_fr hbt (fun a9 q1 q2 => hag9 a9 (by omega))
        have hM : xMC F11 (cm) (b) (setL M (dgs e.1 + 1 + dgs e.2.1 + 1 + e.2.2.1) (fmS e)) := xMC_fr hM (fun a9 q1 q2 => hag9 a9 (by omega))
        have hs1 : xTs F11 (zz_744) ((((((([]) ++ dgl (e.1)) ++ ([33])) ++ dgl (e.2.1)) ++ ([58])) ++ (txl e.2.2.2 e.2.2.1))) := j0
        have hg_747 := hag9
        clear hag9
        refine x_callS hC ks_Law_165 (c_Law_isLine (hM := hM) (hs := hs1) (hZx := hZx) (hJ := hJ) (h1 := ⟨rfl, by simp only [List.length_append, List.length_nil, List.length_cons, txl_len, dgl_len]; try omega, by have d1 := dgs_b e.1; have d2 := dgs_b e.2.1; omega⟩) (h2 := fun i9 hi9 => fmS_l e hi9) (fo := fo) (sz := dgs e.1 + 1 + dgs e.2.1 + 1 + e.2.2.1)) (by decide) rfl rfl rfl (Nat.le_of_ble_eq_true rfl) ⟨by omega, by omega⟩ d_Law_law_750 (fun r9 F9 z9 hp9 => ?_)
        obtain ⟨rfl, h9b, h9c⟩ := hp9
        rw [h9b, h9c]
        clear h9b h9c F9 z9
        refine x_ifN_ne hC d_Law_law_753 (tgt := 758) (by decide) (by omega) (fun c_753 => ?_) (fun c_753 => ?_)
        · skip
          refine x_widen (k1 := k + 100) (n1 := n + 7000) (by omega) (by omega) ?_
          exact kk (setL M (dgs e.1 + 1 + dgs e.2.1 + 1 + e.2.2.1) (fmS e)) F11 (zz_744 + 2) hM hcs ht hbt hA hB (by omega)
        · skip
          exact absurd c_753 (by omega)

