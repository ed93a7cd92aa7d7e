/-! a turn's end: totals, and the next steps -/
theorem rkM_lt {m : Nat → mS} {i : Nat} : ∀ q, rkM m i q ≤ q ∧ (i < q → rkM m i q < q)
  | 0 => ⟨Nat.le_refl _, fun h => absurd h (Nat.not_lt_zero i)⟩
  | q + 1 => by
    have ih := rkM_lt (m := m) (i := i) q
    rw [rkM]
    by_cases e : q = i
    · subst e
      rw [if_neg befM_ir]
      exact ⟨by omega, fun _ => by omega⟩
    · split
      · exact ⟨by omega, fun h => by have := ih.2 (by omega); omega⟩
      · exact ⟨by omega, fun h => by have := ih.1; omega⟩
theorem rank_out {m : Nat → mS} {k : Nat} (hk : k ≤ 8) : ¬ rankAt m (nI k) k < k := fun h => by
  have h3 := (fsN_sp (P := fun i => decide (nI (rkM m i k) = nI k)) k h).1
  have h4 := of_decide_eq_true h3
  have h5 := (rkM_lt (m := m) (i := rankAt m (nI k) k) k).2 h
  have h6 := nI_inj (a := rkM m (rankAt m (nI k) k) k) (by omega) (by omega) h4
  omega
set_option maxHeartbeats 4000000 in
set_option maxRecDepth 20000 in
theorem l_tail {P : xP} {Θ : xT} {fo : Nat} {o1 : Nat} {o2 : Nat} {rt : Nat} {cm : cmT} {sm : Nat} {a : Nat} {N : Nat} {xs : Nat → Int32} {qe : Nat} {qq : Nat} {qx : Nat} {qc : Nat} (hG : xGl P Θ fo o1 o2 rt cm sm a N xs qe qq qx qc) {b : Nat} {M : mcS} {A : aS} {q : Nat} {T : Nat} {F : xF} {z k n : Nat} (hM : xMC F (cm) (b) (M)) (hA : M.1 = A) (hB : pBd M q) (hq : q ≤ 900) (hT : T ≤ 2) (hz : b + 566 ≤ z) (hk : k + 5000 ≤ 644766) (hn : n + 50000 ≤ 7153085) (kk : ∀ (M1 : mcS) (F1 : xF) (z1 : Nat), xMC F1 cm b M1 → pBd M1 (q + 4) → z ≤ z1 → xX P Θ 15 [some (.ref a), some (.ref b), some (.int (nI (T + 1))), none, none, none, none, none, none, none, none, none, none, none, none, none, none, none, none, none, none, none] [] F1 z1 (k + 100) (n + 1000)) : xX P Θ 1444 [some (.ref a), some (.ref b), some (.int (nI (T))), none, none, none, some (.int (nI (A.2.2.1.1))), none, none, some (.int (nI (dmgN A.2.2.2.1.2.1 A.2.2.2.1.1))), some (.int (nI (A.2.2.2.1.1))), none, none, none, none, none, none, none, none, none, none, none] [] F (z) k n := by
  obtain ⟨hC, hZx, hNx, hJ, hD, hSR, hCM, hSM, hS, hE, hEo, hQ, hQo, hX, hXo, hK, hKo⟩ := hG
  have hI : pInv A := hA ▸ hB.1
  obtain ⟨⟨i1_, i2_, i3_, i4_, i5_⟩, iw, idr, im, io, ib, it⟩ := id hI
  have hdm := dmgN_le A.2.2.2.1.2.1 A.2.2.2.1.1
  have hse9 : A.2.2.2.2.2.1 ≤ 900 := by have := hB.2.2.2.2; rw [hA] at this; omega
  obtain ⟨tt1, tt2, tt3⟩ := id it
  refine x_aload_n hC d_Law_law_1444 rfl rfl ?_
  obtain ⟨b0, -⟩ := id hM
  refine x_callV hC kv_Law_112 (c_MessageCoder_frameLengthK (hM := hM) (hA := hA) (A := A)) b0 rfl rfl (by decide) rfl rfl rfl (Nat.le_of_ble_eq_true rfl) ⟨by omega, by omega⟩ d_Law_law_1445 (fun r9 F9 z9 hp9 => ?_)
  obtain ⟨rfl, h9b, h9c⟩ := hp9
  rw [h9b, h9c]
  clear h9b h9c F9 z9
  refine x_bipush hC d_Law_law_1448 (v := nI 7) (by decide) ?_
  refine x_irem hC d_Law_law_1450 (x_ne0 (by omega) (by omega)) (v := (nI (0))) (by rw [pk_rem (by omega) (by omega) (by omega), Nat.mul_mod_left]) ?_
  refine x_ifN_ne hC d_Law_law_1451 (tgt := 1588) (by decide) (by omega) (fun c_1451 => ?_) (fun c_1451 => ?_)
  · skip
    exact absurd c_1451 (by omega)
  · skip
    refine x_aload_n hC d_Law_law_1454 rfl rfl ?_
    obtain ⟨b0, -⟩ := id hM
    refine x_callV hC kv_Law_108 (c_MessageCoder_hasFrameK (hM := hM) (hA := hA) (A := A)) b0 rfl rfl (by decide) rfl rfl rfl (Nat.le_of_ble_eq_true rfl) ⟨by omega, by omega⟩ d_Law_law_1455 (fun r9 F9 z9 hp9 => ?_)
    obtain ⟨rfl, h9b, h9c⟩ := hp9
    rw [h9b, h9c]
    clear h9b h9c F9 z9
    refine x_iload hC d_Law_law_1458 rfl ?_
    refine x_ifN_le hC d_Law_law_1460 (tgt := 1467) (by decide) (by omega) (fun c_1460 => ?_) (fun c_1460 => ?_)
    · skip
      refine x_iconst hC d_Law_law_1467 (v := nI 0) (by decide) ?_
      refine x_top1 (v := (nI (0))) (xb_f (by omega)) ?_
      refine x_icmpN_ne hC d_Law_law_1468 (tgt := 1588) (by decide) (by omega) (by omega) (fun c_1468 => ?_) (fun c_1468 => ?_)
      · skip
        exact absurd c_1468 (by omega)
      · skip
        refine x_aload_n hC d_Law_law_1471 rfl rfl ?_
        obtain ⟨b0, -⟩ := id hM
        refine x_callV hC kv_Law_258 (c_MessageCoder_damagedBlocksK (hM := hM) (hA := hA) (A := A)) b0 rfl rfl (by decide) rfl rfl rfl (Nat.le_of_ble_eq_true rfl) ⟨by omega, by omega⟩ d_Law_law_1472 (fun r9 F9 z9 hp9 => ?_)
        obtain ⟨rfl, h9b, h9c⟩ := hp9
        rw [h9b, h9c]
        clear h9b h9c F9 z9
        refine x_iload hC d_Law_law_1475 rfl ?_
        refine x_icmpN_ne hC d_Law_law_1477 (tgt := 1588) (by decide) (by omega) (by omega) (fun c_1477 => ?_) (fun c_1477 => ?_)
        · skip
          exact absurd c_1477 (by omega)
        · skip
          refine x_aload_n hC d_Law_law_1480 rfl rfl ?_
          refine x_iload hC d_Law_law_1481 rfl ?_
          refine x_callW hC kw_Law_261 (c_Law_syndrome (hM := hM) (hZx := hZx) (hNx := hNx) (hxx := by rw [hA]; exact xt_out (Nat.le_refl _) (by omega))) (by decide) rfl rfl rfl (Nat.le_of_ble_eq_true rfl) ⟨by omega, by omega⟩ d_Law_law_1483 (fun r9 F9 z9 hp9 => ?_)
          obtain ⟨zz_1483, rfl, h9c, pw_1483, hag9⟩ := hp9
          rw [h9c]
          clear h9c z9
          generalize F9 = F1 at *
          have hM : xMC F1 (cm) (b) (M) := xMC_fr hM (fun a9 q1 q2 => hag9 a9)
          have hg_1483 := hag9
          clear hag9
          refine x_sipush hC d_Law_law_1486 (v := -25000) (by decide) ?_
          refine x_icmp_ne hC d_Law_law_1489 (tgt := 1588) (by decide) (fun c_1489 => ?_) (fun c_1489 => ?_)
          · skip
            exact absurd rfl c_1489
          · skip
            refine x_aload_n hC d_Law_law_1492 rfl rfl ?_
            refine x_bipush hC d_Law_law_1493 (v := nI 7) (by decide) ?_
            refine x_iload hC d_Law_law_1495 rfl ?_
            refine x_imul hC d_Law_law_1497 (v := (nI ((7) * (A.2.2.2.1.1)))) (pk_mul _ _) ?_
            refine x_callW hC kw_Law_263 (c_Law_frameBit (hM := hM) (hZx := hZx) (hNx := hNx) (hxx := by rw [hA]; exact xt_out (by omega) (by omega))) (by decide) rfl rfl rfl (Nat.le_of_ble_eq_true rfl) ⟨by omega, by omega⟩ d_Law_law_1498 (fun r9 F9 z9 hp9 => ?_)
            obtain ⟨zz_1498, rfl, h9c, pw_1498, hag9⟩ := hp9
            rw [h9c]
            clear h9c z9
            generalize F9 = F2 at *
            have hM : xMC F2 (cm) (b) (M) := xMC_fr hM (fun a9 q1 q2 => hag9 a9)
            have hg_1498 := hag9
            clear hag9
            refine x_sipush hC d_Law_law_1501 (v := -25000) (by decide) ?_
            refine x_icmp_ne hC d_Law_law_1504 (tgt := 1588) (by decide) (fun c_1504 => ?_) (fun c_1504 => ?_)
            · skip
              exact absurd rfl c_1504
            · skip
              refine x_aload_n hC d_Law_law_1507 rfl rfl ?_
              refine x_aload_n hC d_Law_law_1508 rfl rfl ?_
              obtain ⟨b0, -⟩ := id hM
              refine x_callV hC kv_Law_265 (c_MessageCoder_receivedLengthK (hM := hM) (hA := hA) (A := A)) b0 rfl rfl (by decide) rfl rfl rfl (Nat.le_of_ble_eq_true rfl) ⟨by omega, by omega⟩ d_Law_law_1509 (fun r9 F9 z9 hp9 => ?_)
              obtain ⟨rfl, h9b, h9c⟩ := hp9
              rw [h9b, h9c]
              clear h9b h9c F9 z9
              refine x_callW hC kw_Law_268 (c_Law_receivedAt (hM := hM) (hZx := hZx) (hNx := hNx) (hxx := by rw [hA]; exact xt_out (Nat.le_refl _) (by omega))) (by decide) rfl rfl rfl (Nat.le_of_ble_eq_true rfl) ⟨by omega, by omega⟩ d_Law_law_1512 (fun r9 F9 z9 hp9 => ?_)
              obtain ⟨zz_1512, rfl, h9c, pw_1512, hag9⟩ := hp9
              rw [h9c]
              clear h9c z9
              generalize F9 = F3 at *
              have hM : xMC F3 (cm) (b) (M) := xMC_fr hM (fun a9 q1 q2 => hag9 a9)
              have hg_1512 := hag9
              clear hag9
              refine x_sipush hC d_Law_law_1515 (v := -25000) (by decide) ?_
              refine x_icmp_ne hC d_Law_law_1518 (tgt := 1588) (by decide) (fun c_1518 => ?_) (fun c_1518 => ?_)
              · skip
                exact absurd rfl c_1518
              · skip
                refine x_aload_n hC d_Law_law_1521 rfl rfl ?_
                obtain ⟨b0, -⟩ := id hM
                refine x_callV hC kv_Law_270 (c_MessageCoder_failedTotalK (hM := hM) (hA := hA) (A := A)) b0 rfl rfl (by decide) rfl rfl rfl (Nat.le_of_ble_eq_true rfl) ⟨by omega, by omega⟩ d_Law_law_1522 (fun r9 F9 z9 hp9 => ?_)
                obtain ⟨rfl, h9b, h9c⟩ := hp9
                rw [h9b, h9c]
                clear h9b h9c F9 z9
                refine x_aload_n hC d_Law_law_1525 rfl rfl ?_
                obtain ⟨b0, -⟩ := id hM
                refine x_callV hC kv_Law_273 (c_MessageCoder_receivedTotalK (hM := hM) (hA := hA) (A := A)) b0 rfl rfl (by decide) rfl rfl rfl (Nat.le_of_ble_eq_true rfl) ⟨by omega, by omega⟩ d_Law_law_1526 (fun r9 F9 z9 hp9 => ?_)
                obtain ⟨rfl, h9b, h9c⟩ := hp9
                rw [h9b, h9c]
                clear h9b h9c F9 z9
                refine x_icmpN_gt hC d_Law_law_1529 (tgt := 1588) (by decide) (by omega) (by omega) (fun c_1529 => ?_) (fun c_1529 => ?_)
                · skip
                  exact absurd c_1529 (by omega)
                · skip
                  refine x_aload_n hC d_Law_law_1532 rfl rfl ?_
                  obtain ⟨b0, -⟩ := id hM
                  refine x_callV hC kv_Law_273 (c_MessageCoder_receivedTotalK (hM := hM) (hA := hA) (A := A)) b0 rfl rfl (by decide) rfl rfl rfl (Nat.le_of_ble_eq_true rfl) ⟨by omega, by omega⟩ d_Law_law_1533 (fun r9 F9 z9 hp9 => ?_)
                  obtain ⟨rfl, h9b, h9c⟩ := hp9
                  rw [h9b, h9c]
                  clear h9b h9c F9 z9
                  refine x_aload_n hC d_Law_law_1536 rfl rfl ?_
                  obtain ⟨b0, -⟩ := id hM
                  refine x_callV hC kv_Law_276 (c_MessageCoder_sentTotalK (hM := hM) (hA := hA) (A := A)) b0 rfl rfl (by decide) rfl rfl rfl (Nat.le_of_ble_eq_true rfl) ⟨by omega, by omega⟩ d_Law_law_1537 (fun r9 F9 z9 hp9 => ?_)
                  obtain ⟨rfl, h9b, h9c⟩ := hp9
                  rw [h9b, h9c]
                  clear h9b h9c F9 z9
                  refine x_icmpN_gt hC d_Law_law_1540 (tgt := 1588) (by decide) (by omega) (by omega) (fun c_1540 => ?_) (fun c_1540 => ?_)
                  · skip
                    exact absurd c_1540 (by omega)
                  · skip
                    refine x_aload_n hC d_Law_law_1543 rfl rfl ?_
                    obtain ⟨b0, -⟩ := id hM
                    refine x_callV hC kv_Law_273 (c_MessageCoder_receivedTotalK (hM := hM) (hA := hA) (A := A)) b0 rfl rfl (by decide) rfl rfl rfl (Nat.le_of_ble_eq_true rfl) ⟨by omega, by omega⟩ d_Law_law_1544 (fun r9 F9 z9 hp9 => ?_)
                    obtain ⟨rfl, h9b, h9c⟩ := hp9
                    rw [h9b, h9c]
                    clear h9b h9c F9 z9
                    refine x_ifN_le hC d_Law_law_1547 (tgt := 1569) (by decide) (by omega) (fun c_1547 => ?_) (fun c_1547 => ?_)
                    · skip
                      refine x_aload_n hC d_Law_law_1569 rfl rfl ?_
                      refine x_iload hC d_Law_law_1570 rfl ?_
                      refine x_callW hC kw_Law_283 (c_Law_messageAt (hM := hM) (hZx := hZx) (hNx := hNx) (hxx := by rw [hA]; exact rank_out i2_)) (by decide) rfl rfl rfl (Nat.le_of_ble_eq_true rfl) ⟨by omega, by omega⟩ d_Law_law_1572 (fun r9 F9 z9 hp9 => ?_)
                      obtain ⟨zz_1572, rfl, h9c, pw_1572, hag9⟩ := hp9
                      rw [h9c]
                      clear h9c z9
                      generalize F9 = F4 at *
                      have hM : xMC F4 (cm) (b) (M) := xMC_fr hM (fun a9 q1 q2 => hag9 a9)
                      have hg_1572 := hag9
                      clear hag9
                      refine x_sipush hC d_Law_law_1575 (v := -30000) (by decide) ?_
                      refine x_icmp_ne hC d_Law_law_1578 (tgt := 1588) (by decide) (fun c_1578 => ?_) (fun c_1578 => ?_)
                      · skip
                        exact absurd rfl c_1578
                      · skip
                        refine x_aload_n hC d_Law_law_1581 rfl rfl ?_
                        obtain ⟨b0, -⟩ := id hM
                        refine x_callV hC kv_Law_285 (c_MessageCoder_isConsistentK (hM := hM) (hA := hA) (hSR := hSR) (A := A) (rt := rt)) b0 rfl rfl (by decide) rfl rfl rfl (Nat.le_of_ble_eq_true rfl) ⟨by omega, by omega⟩ d_Law_law_1582 (fun r9 F9 z9 hp9 => ?_)
                        obtain ⟨rfl, h9c, j0, hag9⟩ := hp9
                        rw [h9c]
                        clear h9c z9
                        generalize F9 = F5 at *
                        have hM : xMC F5 (cm) (b) (M) := j0
                        have hg_1582 := hag9
                        clear hag9
                        refine x_ifN_ne hC d_Law_law_1585 (tgt := 1590) (by decide) (by omega) (fun c_1585 => ?_) (fun c_1585 => ?_)
                        · skip
                          refine x_aload_n hC d_Law_law_1590 rfl rfl ?_
                          refine x_aload_n hC d_Law_law_1591 rfl rfl ?_
                          refine x_bipush hC d_Law_law_1592 (v := nI 110) (by decide) ?_
                          refine x_iconst hC d_Law_law_1594 (v := nI 3) (by decide) ?_
                          refine x_iload_n hC d_Law_law_1595 rfl rfl ?_
                          refine x_imul hC d_Law_law_1596 (v := (nI ((3) * (T)))) (pk_mul _ _) ?_
                          refine x_iadd hC d_Law_law_1597 (v := (nI ((110) + ((3) * (T))))) (x_addN (by omega)) ?_
                          refine x_callS hC ks_Law_91 (c_Law_acts (hM := hM) (hCM := hCM) (hSM := hSM) (hZx := hZx) (hNx := hNx) (hS := hS) (hB := hB) (hq := hq) (hk := by omega) (sm := sm) (N := N) (xs := xs) (q := q)) (by decide) rfl rfl rfl (Nat.le_of_ble_eq_true rfl) ⟨by omega, by omega⟩ d_Law_law_1598 (fun r9 F9 z9 hp9 => ?_)
                          obtain ⟨M9, z9_, rfl, h9c, j0, pk_1598, pw_1598, hag9⟩ := hp9
                          rw [h9c]
                          clear h9c z9
                          generalize F9 = F6 at *
                          have hM : xMC F6 (cm) (b) (M9) := j0
                          have hg_1598 := hag9
                          clear hag9
                          refine x_iinc hC d_Law_law_1601 rfl (v := (nI (T + 1))) (x_incN 1) (Nat.le_of_ble_eq_true rfl) (L1 := [some (.ref a), some (.ref b), some (.int (nI (T + 1))), none, none, none, some (.int (nI (A.2.2.1.1))), none, none, some (.int (nI (dmgN A.2.2.2.1.2.1 A.2.2.2.1.1))), some (.int (nI (A.2.2.2.1.1))), none, none, none, none, none, none, none, none, none, none, none]) rfl ?_
                          refine x_goto hC d_Law_law_1604 (tgt := 15) (by decide) ?_
                          refine x_widen (k1 := k + 100) (n1 := n + 1000) (by omega) (by omega) ?_
                          refine x_forget (L1 := [some (.ref a), some (.ref b), some (.int (nI (T + 1))), none, none, none, none, none, none, none, none, none, none, none, none, none, none, none, none, none, none, none]) ⟨Or.inr rfl, ⟨Or.inr rfl, ⟨Or.inr rfl, ⟨Or.inl rfl, ⟨Or.inl rfl, ⟨Or.inl rfl, ⟨Or.inl rfl, ⟨Or.inl rfl, ⟨Or.inl rfl, ⟨Or.inl rfl, ⟨Or.inl rfl, ⟨Or.inl rfl, ⟨Or.inl rfl, ⟨Or.inl rfl, ⟨Or.inl rfl, ⟨Or.inl rfl, ⟨Or.inl rfl, ⟨Or.inl rfl, ⟨Or.inl rfl, ⟨Or.inl rfl, ⟨Or.inl rfl, ⟨Or.inl rfl, trivial⟩⟩⟩⟩⟩⟩⟩⟩⟩⟩⟩⟩⟩⟩⟩⟩⟩⟩⟩⟩⟩⟩ ?_
                          exact kk M9 F6 z9_ hM pk_1598 (by omega)
                        · skip
                          exact absurd c_1585 (by omega)
                    · skip
                      refine x_aload_n hC d_Law_law_1550 rfl rfl ?_
                      obtain ⟨b0, -⟩ := id hM
                      refine x_callV hC kv_Law_279 (c_MessageCoder_failedShareK (hM := hM) (hA := hA) (hZx := hZx) (hg0 := by omega) (hf0 := by omega) (n0 := by omega) (A := A)) b0 rfl rfl (by decide) rfl rfl rfl (Nat.le_of_ble_eq_true rfl) ⟨by omega, by omega⟩ d_Law_law_1551 (fun r9 F9 z9 hp9 => ?_)
                      obtain ⟨rfl, h9b, h9c⟩ := hp9
                      rw [h9b, h9c]
                      clear h9b h9c F9 z9
                      refine x_aload_n hC d_Law_law_1554 rfl rfl ?_
                      obtain ⟨b0, -⟩ := id hM
                      refine x_callV hC kv_Law_270 (c_MessageCoder_failedTotalK (hM := hM) (hA := hA) (A := A)) b0 rfl rfl (by decide) rfl rfl rfl (Nat.le_of_ble_eq_true rfl) ⟨by omega, by omega⟩ d_Law_law_1555 (fun r9 F9 z9 hp9 => ?_)
                      obtain ⟨rfl, h9b, h9c⟩ := hp9
                      rw [h9b, h9c]
                      clear h9b h9c F9 z9
                      refine x_i2f hC d_Law_law_1558 ?_
                      refine x_aload_n hC d_Law_law_1559 rfl rfl ?_
                      obtain ⟨b0, -⟩ := id hM
                      refine x_callV hC kv_Law_273 (c_MessageCoder_receivedTotalK (hM := hM) (hA := hA) (A := A)) b0 rfl rfl (by decide) rfl rfl rfl (Nat.le_of_ble_eq_true rfl) ⟨by omega, by omega⟩ d_Law_law_1560 (fun r9 F9 z9 hp9 => ?_)
                      obtain ⟨rfl, h9b, h9c⟩ := hp9
                      rw [h9b, h9c]
                      clear h9b h9c F9 z9
                      refine x_i2f hC d_Law_law_1563 ?_
                      refine x_fdiv hC d_Law_law_1564 (fl_n32 (fl_fdiv (by omega) (by omega) (by omega))) ?_
                      refine x_fcmp hC d_Law_law_1565 ?_
                      refine x_top (v := (nI (0))) (by rw [fl_fcmp (fl_fdiv (by omega) (by omega) (by omega))]; rfl) ?_
                      refine x_ifN_ne hC d_Law_law_1566 (tgt := 1588) (by decide) (by omega) (fun c_1566 => ?_) (fun c_1566 => ?_)
                      · skip
                        exact absurd c_1566 (by omega)
                      · skip
                        refine x_aload_n hC d_Law_law_1569 rfl rfl ?_
                        refine x_iload hC d_Law_law_1570 rfl ?_
                        refine x_callW hC kw_Law_283 (c_Law_messageAt (hM := hM) (hZx := hZx) (hNx := hNx) (hxx := by rw [hA]; exact rank_out i2_)) (by decide) rfl rfl rfl (Nat.le_of_ble_eq_true rfl) ⟨by omega, by omega⟩ d_Law_law_1572 (fun r9 F9 z9 hp9 => ?_)
                        obtain ⟨zz_1572, rfl, h9c, pw_1572, hag9⟩ := hp9
                        rw [h9c]
                        clear h9c z9
                        generalize F9 = F7 at *
                        have hM : xMC F7 (cm) (b) (M) := xMC_fr hM (fun a9 q1 q2 => hag9 a9)
                        have hg_1572 := hag9
                        clear hag9
                        refine x_sipush hC d_Law_law_1575 (v := -30000) (by decide) ?_
                        refine x_icmp_ne hC d_Law_law_1578 (tgt := 1588) (by decide) (fun c_1578 => ?_) (fun c_1578 => ?_)
                        · skip
                          exact absurd rfl c_1578
                        · skip
                          refine x_aload_n hC d_Law_law_1581 rfl rfl ?_
                          obtain ⟨b0, -⟩ := id hM
                          refine x_callV hC kv_Law_285 (c_MessageCoder_isConsistentK (hM := hM) (hA := hA) (hSR := hSR) (A := A) (rt := rt)) b0 rfl rfl (by decide) rfl rfl rfl (Nat.le_of_ble_eq_true rfl) ⟨by omega, by omega⟩ d_Law_law_1582 (fun r9 F9 z9 hp9 => ?_)
                          obtain ⟨rfl, h9c, j0, hag9⟩ := hp9
                          rw [h9c]
                          clear h9c z9
                          generalize F9 = F8 at *
                          have hM : xMC F8 (cm) (b) (M) := j0
                          have hg_1582 := hag9
                          clear hag9
                          refine x_ifN_ne hC d_Law_law_1585 (tgt := 1590) (by decide) (by omega) (fun c_1585 => ?_) (fun c_1585 => ?_)
                          · skip
                            refine x_aload_n hC d_Law_law_1590 rfl rfl ?_
                            refine x_aload_n hC d_Law_law_1591 rfl rfl ?_
                            refine x_bipush hC d_Law_law_1592 (v := nI 110) (by decide) ?_
                            refine x_iconst hC d_Law_law_1594 (v := nI 3) (by decide) ?_
                            refine x_iload_n hC d_Law_law_1595 rfl rfl ?_
                            refine x_imul hC d_Law_law_1596 (v := (nI ((3) * (T)))) (pk_mul _ _) ?_
                            refine x_iadd hC d_Law_law_1597 (v := (nI ((110) + ((3) * (T))))) (x_addN (by omega)) ?_
                            refine x_callS hC ks_Law_91 (c_Law_acts (hM := hM) (hCM := hCM) (hSM := hSM) (hZx := hZx) (hNx := hNx) (hS := hS) (hB := hB) (hq := hq) (hk := by omega) (sm := sm) (N := N) (xs := xs) (q := q)) (by decide) rfl rfl rfl (Nat.le_of_ble_eq_true rfl) ⟨by omega, by omega⟩ d_Law_law_1598 (fun r9 F9 z9 hp9 => ?_)
                            obtain ⟨M9, z9_, rfl, h9c, j0, pk_1598, pw_1598, hag9⟩ := hp9
                            rw [h9c]
                            clear h9c z9
                            generalize F9 = F9 at *
                            have hM : xMC F9 (cm) (b) (M9) := j0
                            have hg_1598 := hag9
                            clear hag9
                            refine x_iinc hC d_Law_law_1601 rfl (v := (nI (T + 1))) (x_incN 1) (Nat.le_of_ble_eq_true rfl) (L1 := [some (.ref a), some (.ref b), some (.int (nI (T + 1))), none, none, none, some (.int (nI (A.2.2.1.1))), none, none, some (.int (nI (dmgN A.2.2.2.1.2.1 A.2.2.2.1.1))), some (.int (nI (A.2.2.2.1.1))), none, none, none, none, none, none, none, none, none, none, none]) rfl ?_
                            refine x_goto hC d_Law_law_1604 (tgt := 15) (by decide) ?_
                            refine x_widen (k1 := k + 100) (n1 := n + 1000) (by omega) (by omega) ?_
                            refine x_forget (L1 := [some (.ref a), some (.ref b), some (.int (nI (T + 1))), none, none, none, none, none, none, none, none, none, none, none, none, none, none, none, none, none, none, none]) ⟨Or.inr rfl, ⟨Or.inr rfl, ⟨Or.inr rfl, ⟨Or.inl rfl, ⟨Or.inl rfl, ⟨Or.inl rfl, ⟨Or.inl rfl, ⟨Or.inl rfl, ⟨Or.inl rfl, ⟨Or.inl rfl, ⟨Or.inl rfl, ⟨Or.inl rfl, ⟨Or.inl rfl, ⟨Or.inl rfl, ⟨Or.inl rfl, ⟨Or.inl rfl, ⟨Or.inl rfl, ⟨Or.inl rfl, ⟨Or.inl rfl, ⟨Or.inl rfl, ⟨Or.inl rfl, ⟨Or.inl rfl, trivial⟩⟩⟩⟩⟩⟩⟩⟩⟩⟩⟩⟩⟩⟩⟩⟩⟩⟩⟩⟩⟩⟩ ?_
                            exact kk M9 F9 z9_ hM pk_1598 (by omega)
                          · skip
                            exact absurd c_1585 (by omega)
    · skip
      refine x_iconst hC d_Law_law_1463 (v := nI 1) (by decide) ?_
      refine x_goto hC d_Law_law_1464 (tgt := 1468) (by decide) ?_
      refine x_top1 (v := (nI (1))) (xb_t (by omega)) ?_
      refine x_icmpN_ne hC d_Law_law_1468 (tgt := 1588) (by decide) (by omega) (by omega) (fun c_1468 => ?_) (fun c_1468 => ?_)
      · skip
        exact absurd c_1468 (by omega)
      · skip
        refine x_aload_n hC d_Law_law_1471 rfl rfl ?_
        obtain ⟨b0, -⟩ := id hM
        refine x_callV hC kv_Law_258 (c_MessageCoder_damagedBlocksK (hM := hM) (hA := hA) (A := A)) b0 rfl rfl (by decide) rfl rfl rfl (Nat.le_of_ble_eq_true rfl) ⟨by omega, by omega⟩ d_Law_law_1472 (fun r9 F9 z9 hp9 => ?_)
        obtain ⟨rfl, h9b, h9c⟩ := hp9
        rw [h9b, h9c]
        clear h9b h9c F9 z9
        refine x_iload hC d_Law_law_1475 rfl ?_
        refine x_icmpN_ne hC d_Law_law_1477 (tgt := 1588) (by decide) (by omega) (by omega) (fun c_1477 => ?_) (fun c_1477 => ?_)
        · skip
          exact absurd c_1477 (by omega)
        · skip
          refine x_aload_n hC d_Law_law_1480 rfl rfl ?_
          refine x_iload hC d_Law_law_1481 rfl ?_
          refine x_callW hC kw_Law_261 (c_Law_syndrome (hM := hM) (hZx := hZx) (hNx := hNx) (hxx := by rw [hA]; exact xt_out (Nat.le_refl _) (by omega))) (by decide) rfl rfl rfl (Nat.le_of_ble_eq_true rfl) ⟨by omega, by omega⟩ d_Law_law_1483 (fun r9 F9 z9 hp9 => ?_)
          obtain ⟨zz_1483, rfl, h9c, pw_1483, hag9⟩ := hp9
          rw [h9c]
          clear h9c z9
          generalize F9 = F10 at *
          have hM : xMC F10 (cm) (b) (M) := xMC_fr hM (fun a9 q1 q2 => hag9 a9)
          have hg_1483 := hag9
          clear hag9
          refine x_sipush hC d_Law_law_1486 (v := -25000) (by decide) ?_
          refine x_icmp_ne hC d_Law_law_1489 (tgt := 1588) (by decide) (fun c_1489 => ?_) (fun c_1489 => ?_)
          · skip
            exact absurd rfl c_1489
          · skip
            refine x_aload_n hC d_Law_law_1492 rfl rfl ?_
            refine x_bipush hC d_Law_law_1493 (v := nI 7) (by decide) ?_
            refine x_iload hC d_Law_law_1495 rfl ?_
            refine x_imul hC d_Law_law_1497 (v := (nI ((7) * (A.2.2.2.1.1)))) (pk_mul _ _) ?_
            refine x_callW hC kw_Law_263 (c_Law_frameBit (hM := hM) (hZx := hZx) (hNx := hNx) (hxx := by rw [hA]; exact xt_out (by omega) (by omega))) (by decide) rfl rfl rfl (Nat.le_of_ble_eq_true rfl) ⟨by omega, by omega⟩ d_Law_law_1498 (fun r9 F9 z9 hp9 => ?_)
            obtain ⟨zz_1498, rfl, h9c, pw_1498, hag9⟩ := hp9
            rw [h9c]
            clear h9c z9
            generalize F9 = F11 at *
            have hM : xMC F11 (cm) (b) (M) := xMC_fr hM (fun a9 q1 q2 => hag9 a9)
            have hg_1498 := hag9
            clear hag9
            refine x_sipush hC d_Law_law_1501 (v := -25000) (by decide) ?_
            refine x_icmp_ne hC d_Law_law_1504 (tgt := 1588) (by decide) (fun c_1504 => ?_) (fun c_1504 => ?_)
            · skip
              exact absurd rfl c_1504
            · skip
              refine x_aload_n hC d_Law_law_1507 rfl rfl ?_
              refine x_aload_n hC d_Law_law_1508 rfl rfl ?_
              obtain ⟨b0, -⟩ := id hM
              refine x_callV hC kv_Law_265 (c_MessageCoder_receivedLengthK (hM := hM) (hA := hA) (A := A)) b0 rfl rfl (by decide) rfl rfl rfl (Nat.le_of_ble_eq_true rfl) ⟨by omega, by omega⟩ d_Law_law_1509 (fun r9 F9 z9 hp9 => ?_)
              obtain ⟨rfl, h9b, h9c⟩ := hp9
              rw [h9b, h9c]
              clear h9b h9c F9 z9
              refine x_callW hC kw_Law_268 (c_Law_receivedAt (hM := hM) (hZx := hZx) (hNx := hNx) (hxx := by rw [hA]; exact xt_out (Nat.le_refl _) (by omega))) (by decide) rfl rfl rfl (Nat.le_of_ble_eq_true rfl) ⟨by omega, by omega⟩ d_Law_law_1512 (fun r9 F9 z9 hp9 => ?_)
              obtain ⟨zz_1512, rfl, h9c, pw_1512, hag9⟩ := hp9
              rw [h9c]
              clear h9c z9
              generalize F9 = F12 at *
              have hM : xMC F12 (cm) (b) (M) := xMC_fr hM (fun a9 q1 q2 => hag9 a9)
              have hg_1512 := hag9
              clear hag9
              refine x_sipush hC d_Law_law_1515 (v := -25000) (by decide) ?_
              refine x_icmp_ne hC d_Law_law_1518 (tgt := 1588) (by decide) (fun c_1518 => ?_) (fun c_1518 => ?_)
              · skip
                exact absurd rfl c_1518
              · skip
                refine x_aload_n hC d_Law_law_1521 rfl rfl ?_
                obtain ⟨b0, -⟩ := id hM
                refine x_callV hC kv_Law_270 (c_MessageCoder_failedTotalK (hM := hM) (hA := hA) (A := A)) b0 rfl rfl (by decide) rfl rfl rfl (Nat.le_of_ble_eq_true rfl) ⟨by omega, by omega⟩ d_Law_law_1522 (fun r9 F9 z9 hp9 => ?_)
                obtain ⟨rfl, h9b, h9c⟩ := hp9
                rw [h9b, h9c]
                clear h9b h9c F9 z9
                refine x_aload_n hC d_Law_law_1525 rfl rfl ?_
                obtain ⟨b0, -⟩ := id hM
                refine x_callV hC kv_Law_273 (c_MessageCoder_receivedTotalK (hM := hM) (hA := hA) (A := A)) b0 rfl rfl (by decide) rfl rfl rfl (Nat.le_of_ble_eq_true rfl) ⟨by omega, by omega⟩ d_Law_law_1526 (fun r9 F9 z9 hp9 => ?_)
                obtain ⟨rfl, h9b, h9c⟩ := hp9
                rw [h9b, h9c]
                clear h9b h9c F9 z9
                refine x_icmpN_gt hC d_Law_law_1529 (tgt := 1588) (by decide) (by omega) (by omega) (fun c_1529 => ?_) (fun c_1529 => ?_)
                · skip
                  exact absurd c_1529 (by omega)
                · skip
                  refine x_aload_n hC d_Law_law_1532 rfl rfl ?_
                  obtain ⟨b0, -⟩ := id hM
                  refine x_callV hC kv_Law_273 (c_MessageCoder_receivedTotalK (hM := hM) (hA := hA) (A := A)) b0 rfl rfl (by decide) rfl rfl rfl (Nat.le_of_ble_eq_true rfl) ⟨by omega, by omega⟩ d_Law_law_1533 (fun r9 F9 z9 hp9 => ?_)
                  obtain ⟨rfl, h9b, h9c⟩ := hp9
                  rw [h9b, h9c]
                  clear h9b h9c F9 z9
                  refine x_aload_n hC d_Law_law_1536 rfl rfl ?_
                  obtain ⟨b0, -⟩ := id hM
                  refine x_callV hC kv_Law_276 (c_MessageCoder_sentTotalK (hM := hM) (hA := hA) (A := A)) b0 rfl rfl (by decide) rfl rfl rfl (Nat.le_of_ble_eq_true rfl) ⟨by omega, by omega⟩ d_Law_law_1537 (fun r9 F9 z9 hp9 => ?_)
                  obtain ⟨rfl, h9b, h9c⟩ := hp9
                  rw [h9b, h9c]
                  clear h9b h9c F9 z9
                  refine x_icmpN_gt hC d_Law_law_1540 (tgt := 1588) (by decide) (by omega) (by omega) (fun c_1540 => ?_) (fun c_1540 => ?_)
                  · skip
                    exact absurd c_1540 (by omega)
                  · skip
                    refine x_aload_n hC d_Law_law_1543 rfl rfl ?_
                    obtain ⟨b0, -⟩ := id hM
                    refine x_callV hC kv_Law_273 (c_MessageCoder_receivedTotalK (hM := hM) (hA := hA) (A := A)) b0 rfl rfl (by decide) rfl rfl rfl (Nat.le_of_ble_eq_true rfl) ⟨by omega, by omega⟩ d_Law_law_1544 (fun r9 F9 z9 hp9 => ?_)
                    obtain ⟨rfl, h9b, h9c⟩ := hp9
                    rw [h9b, h9c]
                    clear h9b h9c F9 z9
                    refine x_ifN_le hC d_Law_law_1547 (tgt := 1569) (by decide) (by omega) (fun c_1547 => ?_) (fun c_1547 => ?_)
                    · skip
                      refine x_aload_n hC d_Law_law_1569 rfl rfl ?_
                      refine x_iload hC d_Law_law_1570 rfl ?_
                      refine x_callW hC kw_Law_283 (c_Law_messageAt (hM := hM) (hZx := hZx) (hNx := hNx) (hxx := by rw [hA]; exact rank_out i2_)) (by decide) rfl rfl rfl (Nat.le_of_ble_eq_true rfl) ⟨by omega, by omega⟩ d_Law_law_1572 (fun r9 F9 z9 hp9 => ?_)
                      obtain ⟨zz_1572, rfl, h9c, pw_1572, hag9⟩ := hp9
                      rw [h9c]
                      clear h9c z9
                      generalize F9 = F13 at *
                      have hM : xMC F13 (cm) (b) (M) := xMC_fr hM (fun a9 q1 q2 => hag9 a9)
                      have hg_1572 := hag9
                      clear hag9
                      refine x_sipush hC d_Law_law_1575 (v := -30000) (by decide) ?_
                      refine x_icmp_ne hC d_Law_law_1578 (tgt := 1588) (by decide) (fun c_1578 => ?_) (fun c_1578 => ?_)
                      · skip
                        exact absurd rfl c_1578
                      · skip
                        refine x_aload_n hC d_Law_law_1581 rfl rfl ?_
                        obtain ⟨b0, -⟩ := id hM
                        refine x_callV hC kv_Law_285 (c_MessageCoder_isConsistentK (hM := hM) (hA := hA) (hSR := hSR) (A := A) (rt := rt)) b0 rfl rfl (by decide) rfl rfl rfl (Nat.le_of_ble_eq_true rfl) ⟨by omega, by omega⟩ d_Law_law_1582 (fun r9 F9 z9 hp9 => ?_)
                        obtain ⟨rfl, h9c, j0, hag9⟩ := hp9
                        rw [h9c]
                        clear h9c z9
                        generalize F9 = F14 at *
                        have hM : xMC F14 (cm) (b) (M) := j0
                        have hg_1582 := hag9
                        clear hag9
                        refine x_ifN_ne hC d_Law_law_1585 (tgt := 1590) (by decide) (by omega) (fun c_1585 => ?_) (fun c_1585 => ?_)
                        · skip
                          refine x_aload_n hC d_Law_law_1590 rfl rfl ?_
                          refine x_aload_n hC d_Law_law_1591 rfl rfl ?_
                          refine x_bipush hC d_Law_law_1592 (v := nI 110) (by decide) ?_
                          refine x_iconst hC d_Law_law_1594 (v := nI 3) (by decide) ?_
                          refine x_iload_n hC d_Law_law_1595 rfl rfl ?_
                          refine x_imul hC d_Law_law_1596 (v := (nI ((3) * (T)))) (pk_mul _ _) ?_
                          refine x_iadd hC d_Law_law_1597 (v := (nI ((110) + ((3) * (T))))) (x_addN (by omega)) ?_
                          refine x_callS hC ks_Law_91 (c_Law_acts (hM := hM) (hCM := hCM) (hSM := hSM) (hZx := hZx) (hNx := hNx) (hS := hS) (hB := hB) (hq := hq) (hk := by omega) (sm := sm) (N := N) (xs := xs) (q := q)) (by decide) rfl rfl rfl (Nat.le_of_ble_eq_true rfl) ⟨by omega, by omega⟩ d_Law_law_1598 (fun r9 F9 z9 hp9 => ?_)
                          obtain ⟨M9, z9_, rfl, h9c, j0, pk_1598, pw_1598, hag9⟩ := hp9
                          rw [h9c]
                          clear h9c z9
                          generalize F9 = F15 at *
                          have hM : xMC F15 (cm) (b) (M9) := j0
                          have hg_1598 := hag9
                          clear hag9
                          refine x_iinc hC d_Law_law_1601 rfl (v := (nI (T + 1))) (x_incN 1) (Nat.le_of_ble_eq_true rfl) (L1 := [some (.ref a), some (.ref b), some (.int (nI (T + 1))), none, none, none, some (.int (nI (A.2.2.1.1))), none, none, some (.int (nI (dmgN A.2.2.2.1.2.1 A.2.2.2.1.1))), some (.int (nI (A.2.2.2.1.1))), none, none, none, none, none, none, none, none, none, none, none]) rfl ?_
                          refine x_goto hC d_Law_law_1604 (tgt := 15) (by decide) ?_
                          refine x_widen (k1 := k + 100) (n1 := n + 1000) (by omega) (by omega) ?_
                          refine x_forget (L1 := [some (.ref a), some (.ref b), some (.int (nI (T + 1))), none, none, none, none, none, none, none, none, none, none, none, none, none, none, none, none, none, none, none]) ⟨Or.inr rfl, ⟨Or.inr rfl, ⟨Or.inr rfl, ⟨Or.inl rfl, ⟨Or.inl rfl, ⟨Or.inl rfl, ⟨Or.inl rfl, ⟨Or.inl rfl, ⟨Or.inl rfl, ⟨Or.inl rfl, ⟨Or.inl rfl, ⟨Or.inl rfl, ⟨Or.inl rfl, ⟨Or.inl rfl, ⟨Or.inl rfl, ⟨Or.inl rfl, ⟨Or.inl rfl, ⟨Or.inl rfl, ⟨Or.inl rfl, ⟨Or.inl rfl, ⟨Or.inl rfl, ⟨Or.inl rfl, trivial⟩⟩⟩⟩⟩⟩⟩⟩⟩⟩⟩⟩⟩⟩⟩⟩⟩⟩⟩⟩⟩⟩ ?_
                          exact kk M9 F15 z9_ hM pk_1598 (by omega)
                        · skip
                          exact absurd c_1585 (by omega)
                    · skip
                      refine x_aload_n hC d_Law_law_1550 rfl rfl ?_
                      obtain ⟨b0, -⟩ := id hM
                      refine x_callV hC kv_Law_279 (c_MessageCoder_failedShareK (hM := hM) (hA := hA) (hZx := hZx) (hg0 := by omega) (hf0 := by omega) (n0 := by omega) (A := A)) b0 rfl rfl (by decide) rfl rfl rfl (Nat.le_of_ble_eq_true rfl) ⟨by omega, by omega⟩ d_Law_law_1551 (fun r9 F9 z9 hp9 => ?_)
                      obtain ⟨rfl, h9b, h9c⟩ := hp9
                      rw [h9b, h9c]
                      clear h9b h9c F9 z9
                      refine x_aload_n hC d_Law_law_1554 rfl rfl ?_
                      obtain ⟨b0, -⟩ := id hM
                      refine x_callV hC kv_Law_270 (c_MessageCoder_failedTotalK (hM := hM) (hA := hA) (A := A)) b0 rfl rfl (by decide) rfl rfl rfl (Nat.le_of_ble_eq_true rfl) ⟨by omega, by omega⟩ d_Law_law_1555 (fun r9 F9 z9 hp9 => ?_)
                      obtain ⟨rfl, h9b, h9c⟩ := hp9
                      rw [h9b, h9c]
                      clear h9b h9c F9 z9
                      refine x_i2f hC d_Law_law_1558 ?_
                      refine x_aload_n hC d_Law_law_1559 rfl rfl ?_
                      obtain ⟨b0, -⟩ := id hM
                      refine x_callV hC kv_Law_273 (c_MessageCoder_receivedTotalK (hM := hM) (hA := hA) (A := A)) b0 rfl rfl (by decide) rfl rfl rfl (Nat.le_of_ble_eq_true rfl) ⟨by omega, by omega⟩ d_Law_law_1560 (fun r9 F9 z9 hp9 => ?_)
                      obtain ⟨rfl, h9b, h9c⟩ := hp9
                      rw [h9b, h9c]
                      clear h9b h9c F9 z9
                      refine x_i2f hC d_Law_law_1563 ?_
                      refine x_fdiv hC d_Law_law_1564 (fl_n32 (fl_fdiv (by omega) (by omega) (by omega))) ?_
                      refine x_fcmp hC d_Law_law_1565 ?_
                      refine x_top (v := (nI (0))) (by rw [fl_fcmp (fl_fdiv (by omega) (by omega) (by omega))]; rfl) ?_
                      refine x_ifN_ne hC d_Law_law_1566 (tgt := 1588) (by decide) (by omega) (fun c_1566 => ?_) (fun c_1566 => ?_)
                      · skip
                        exact absurd c_1566 (by omega)
                      · skip
                        refine x_aload_n hC d_Law_law_1569 rfl rfl ?_
                        refine x_iload hC d_Law_law_1570 rfl ?_
                        refine x_callW hC kw_Law_283 (c_Law_messageAt (hM := hM) (hZx := hZx) (hNx := hNx) (hxx := by rw [hA]; exact rank_out i2_)) (by decide) rfl rfl rfl (Nat.le_of_ble_eq_true rfl) ⟨by omega, by omega⟩ d_Law_law_1572 (fun r9 F9 z9 hp9 => ?_)
                        obtain ⟨zz_1572, rfl, h9c, pw_1572, hag9⟩ := hp9
                        rw [h9c]
                        clear h9c z9
                        generalize F9 = F16 at *
                        have hM : xMC F16 (cm) (b) (M) := xMC_fr hM (fun a9 q1 q2 => hag9 a9)
                        have hg_1572 := hag9
                        clear hag9
                        refine x_sipush hC d_Law_law_1575 (v := -30000) (by decide) ?_
                        refine x_icmp_ne hC d_Law_law_1578 (tgt := 1588) (by decide) (fun c_1578 => ?_) (fun c_1578 => ?_)
                        · skip
                          exact absurd rfl c_1578
                        · skip
                          refine x_aload_n hC d_Law_law_1581 rfl rfl ?_
                          obtain ⟨b0, -⟩ := id hM
                          refine x_callV hC kv_Law_285 (c_MessageCoder_isConsistentK (hM := hM) (hA := hA) (hSR := hSR) (A := A) (rt := rt)) b0 rfl rfl (by decide) rfl rfl rfl (Nat.le_of_ble_eq_true rfl) ⟨by omega, by omega⟩ d_Law_law_1582 (fun r9 F9 z9 hp9 => ?_)
                          obtain ⟨rfl, h9c, j0, hag9⟩ := hp9
                          rw [h9c]
                          clear h9c z9
                          generalize F9 = F17 at *
                          have hM : xMC F17 (cm) (b) (M) := j0
                          have hg_1582 := hag9
                          clear hag9
                          refine x_ifN_ne hC d_Law_law_1585 (tgt := 1590) (by decide) (by omega) (fun c_1585 => ?_) (fun c_1585 => ?_)
                          · skip
                            refine x_aload_n hC d_Law_law_1590 rfl rfl ?_
                            refine x_aload_n hC d_Law_law_1591 rfl rfl ?_
                            refine x_bipush hC d_Law_law_1592 (v := nI 110) (by decide) ?_
                            refine x_iconst hC d_Law_law_1594 (v := nI 3) (by decide) ?_
                            refine x_iload_n hC d_Law_law_1595 rfl rfl ?_
                            refine x_imul hC d_Law_law_1596 (v := (nI ((3) * (T)))) (pk_mul _ _) ?_
                            refine x_iadd hC d_Law_law_1597 (v := (nI ((110) + ((3) * (T))))) (x_addN (by omega)) ?_
                            refine x_callS hC ks_Law_91 (c_Law_acts (hM := hM) (hCM := hCM) (hSM := hSM) (hZx := hZx) (hNx := hNx) (hS := hS) (hB := hB) (hq := hq) (hk := by omega) (sm := sm) (N := N) (xs := xs) (q := q)) (by decide) rfl rfl rfl (Nat.le_of_ble_eq_true rfl) ⟨by omega, by omega⟩ d_Law_law_1598 (fun r9 F9 z9 hp9 => ?_)
                            obtain ⟨M9, z9_, rfl, h9c, j0, pk_1598, pw_1598, hag9⟩ := hp9
                            rw [h9c]
                            clear h9c z9
                            generalize F9 = F18 at *
                            have hM : xMC F18 (cm) (b) (M9) := j0
                            have hg_1598 := hag9
                            clear hag9
                            refine x_iinc hC d_Law_law_1601 rfl (v := (nI (T + 1))) (x_incN 1) (Nat.le_of_ble_eq_true rfl) (L1 := [some (.ref a), some (.ref b), some (.int (nI (T + 1))), none, none, none, some (.int (nI (A.2.2.1.1))), none, none, some (.int (nI (dmgN A.2.2.2.1.2.1 A.2.2.2.1.1))), some (.int (nI (A.2.2.2.1.1))), none, none, none, none, none, none, none, none, none, none, none]) rfl ?_
                            refine x_goto hC d_Law_law_1604 (tgt := 15) (by decide) ?_
                            refine x_widen (k1 := k + 100) (n1 := n + 1000) (by omega) (by omega) ?_
                            refine x_forget (L1 := [some (.ref a), some (.ref b), some (.int (nI (T + 1))), none, none, none, none, none, none, none, none, none, none, none, none, none, none, none, none, none, none, none]) ⟨Or.inr rfl, ⟨Or.inr rfl, ⟨Or.inr rfl, ⟨Or.inl rfl, ⟨Or.inl rfl, ⟨Or.inl rfl, ⟨Or.inl rfl, ⟨Or.inl rfl, ⟨Or.inl rfl, ⟨Or.inl rfl, ⟨Or.inl rfl, ⟨Or.inl rfl, ⟨Or.inl rfl, ⟨Or.inl rfl, ⟨Or.inl rfl, ⟨Or.inl rfl, ⟨Or.inl rfl, ⟨Or.inl rfl, ⟨Or.inl rfl, ⟨Or.inl rfl, ⟨Or.inl rfl, ⟨Or.inl rfl, trivial⟩⟩⟩⟩⟩⟩⟩⟩⟩⟩⟩⟩⟩⟩⟩⟩⟩⟩⟩⟩⟩⟩ ?_
                            exact kk M9 F18 z9_ hM pk_1598 (by omega)
                          · skip
                            exact absurd c_1585 (by omega)

set_option maxHeartbeats 2000000 in
theorem l_turn {P : xP} {Θ : xT} {fo : Nat} {o1 : Nat} {o2 : Nat} {rt : Nat} {cm : cmT} {sm : Nat} {a : Nat} {N : Nat} {xs : Nat → Int32} {qe : Nat} {qq : Nat} {qx : Nat} {qc : Nat} (hG : xGl P Θ fo o1 o2 rt cm sm a N xs qe qq qx qc) {b : Nat} {M : mcS} {q T : Nat} {F : xF} {z k n : Nat} (hM : xMC F cm b M) (hB : pBd M q) (hq : q ≤ 900) (hT : T ≤ 2) (hz : b + 566 ≤ z) (hk : k + 50000 ≤ 644766) (hn : n + 2300000 ≤ 7153085)
    (kk : ∀ (M1 : mcS) (F1 : xF) (z1 : Nat), xMC F1 cm b M1 → pBd M1 (q + 4) → z ≤ z1 → xX P Θ 15 [some (.ref a), some (.ref b), some (.int (nI (T + 1))), none, none, none, none, none, none, none, none, none, none, none, none, none, none, none, none, none, none, none] [] F1 z1 (k + 30000) (n + 1600000)) : xX P Θ 20 [some (.ref a), some (.ref b), some (.int (nI (T))), none, none, none, none, none, none, none, none, none, none, none, none, none, none, none, none, none, none, none] [] F z k n := by
  refine l_codes hG hM rfl hB hz (by omega) (by omega) (fun M1 F1 z1 hM hcs hA hB hz1 => ?_)
  refine l_order hG hM hcs hA hB hz (Nat.le_refl _) (by omega) (by omega) (fun F2 hM hcs => ?_)
  refine l_costs hG hM hcs hA hB hz (Nat.le_refl _) (by omega) (by omega) (fun F3 hM hcs => ?_)
  refine l_draft hG hM hcs hA hB hz (Nat.le_refl _) (by omega) (by omega) (fun F4 hM hcs => ?_)
  refine l_msgs hG hM hcs hA hB hq hz (Nat.le_refl _) (by omega) (by omega) (fun M2 F5 z2 hM hA hB hz2 => ?_)
  refine l_blocks hG hM hA hB hq (by omega) (by omega) (by omega) (fun F6 z3 hM hz3 => ?_)
  refine l_tail hG hM hA hB hq hT (by omega) (by omega) (by omega) (fun M3 F7 z4 hM hB hz4 => ?_)
  exact x_widen (by omega) (by omega) (kk M3 F7 z4 hM hB (by omega))
set_option maxHeartbeats 4000000 in
set_option maxRecDepth 20000 in
theorem l_all {P : xP} {Θ : xT} {fo : Nat} {o1 : Nat} {o2 : Nat} {rt : Nat} {cm : cmT} {sm : Nat} {a : Nat} {N : Nat} {xs : Nat → Int32} {qe : Nat} {qq : Nat} {qx : Nat} {qc : Nat} (hG : xGl P Θ fo o1 o2 rt cm sm a N xs qe qq qx qc) {b : Nat} {M : mcS} {q : Nat} {F : xF} {z k n : Nat} (hM : xMC F (cm) (b) (M)) (hB : pBd M q) (hq : q ≤ 200) (hz : b + 566 ≤ z) (hk : k + 150000 ≤ 644766) (hn : n + 6900000 ≤ 7153085) (kk : ∀ (F1 : xF) (z1 : Nat), xX P Θ 1607 [some (.ref a), some (.ref b), none, none, none, none, none, none, none, none, none, none, none, none, none, none, none, none, none, none, none, none] [] F1 z1 (k + 100000) (n + 5000000)) : xX P Θ 13 [some (.ref a), some (.ref b), none, none, none, none, none, none, none, none, none, none, none, none, none, none, none, none, none, none, none, none] [] F (z) k n := by
  obtain ⟨hC, hZx, hNx, hJ, hD, hSR, hCM, hSM, hS, hE, hEo, hQ, hQo, hX, hXo, hK, hKo⟩ := id hG
  refine x_iconst hC d_Law_law_13 (v := nI 0) (by decide) ?_
  refine x_istore_n hC d_Law_law_14 rfl (Nat.le_of_ble_eq_true rfl) (L1 := [some (.ref a), some (.ref b), some (.int (nI 0)), none, none, none, none, none, none, none, none, none, none, none, none, none, none, none, none, none, none, none]) rfl ?_
  have loop_15 : ∀ (m9 : Nat) (Fh15 : xF) (T : Nat) (M1 : mcS) (z1 : Nat), (xMC Fh15 (cm) (b) (M1)) → (T ≤ 3) → (pBd M1 (q + 4 * T)) → (z ≤ z1) → (3 - T < m9) → xX P Θ 15 [some (.ref a), some (.ref b), some (.int (nI (T))), none, none, none, none, none, none, none, none, none, none, none, none, none, none, none, none, none, none, none] [] Fh15 (z1) (k + 30000 * T) (n + 1600000 * T) := by
    intro m9
    induction m9 with
    | zero => intros; omega
    | succ m9 ih_15 =>
      intro Fh15 T M1 z1 hM hT hB hz1 hm_15
      refine x_iload_n hC d_Law_law_15 rfl rfl ?_
      refine x_iconst hC d_Law_law_16 (v := nI 3) (by decide) ?_
      refine x_icmpN_ge hC d_Law_law_17 (tgt := 1607) (by decide) (by omega) (by omega) (fun c_17 => ?_) (fun c_17 => ?_)
      · skip
        refine x_widen (k1 := k + 100000) (n1 := n + 5000000) (by omega) (by omega) ?_
        refine x_forget (L1 := [some (.ref a), some (.ref b), none, none, none, none, none, none, none, none, none, none, none, none, none, none, none, none, none, none, none, none]) ⟨Or.inr rfl, ⟨Or.inr rfl, ⟨Or.inl rfl, ⟨Or.inl rfl, ⟨Or.inl rfl, ⟨Or.inl rfl, ⟨Or.inl rfl, ⟨Or.inl rfl, ⟨Or.inl rfl, ⟨Or.inl rfl, ⟨Or.inl rfl, ⟨Or.inl rfl, ⟨Or.inl rfl, ⟨Or.inl rfl, ⟨Or.inl rfl, ⟨Or.inl rfl, ⟨Or.inl rfl, ⟨Or.inl rfl, ⟨Or.inl rfl, ⟨Or.inl rfl, ⟨Or.inl rfl, ⟨Or.inl rfl, trivial⟩⟩⟩⟩⟩⟩⟩⟩⟩⟩⟩⟩⟩⟩⟩⟩⟩⟩⟩⟩⟩⟩ ?_
        exact kk Fh15 z1
      · skip
        refine l_turn hG hM hB (by omega) (by omega) (by omega) (by omega) (by omega) (fun M8 F8 z8 hM hB hz8 => ?_)
        refine x_widen (k1 := k + 30000 * (T + 1)) (n1 := n + 1600000 * (T + 1)) (by omega) (by omega) ?_
        exact ih_15 F8 (T + 1) (M8) (z8) hM (by omega) (hB) (by omega) (by omega)
  refine x_widen (k1 := k + 30000 * 0) (n1 := n + 1600000 * 0) (by omega) (by omega) ?_
  exact loop_15 (3 - 0 + 1) F (0) (M) (z) hM (by omega) (hB) (Nat.le_refl z) (by omega)

