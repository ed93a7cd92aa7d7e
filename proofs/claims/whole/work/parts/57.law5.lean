set_option maxHeartbeats 4000000 in
set_option maxRecDepth 20000 in
theorem lc_32 {P : xP} {Θ : xT} {cm : cmT} {a N b sm rt q : Nat} {xs : Nat → Int32} (E : lwE P Θ cm a N b sm rt xs) {F : xF} {z k n th : Nat} {M : mcS} {g : Nat → Int64} {gd : Nat → UInt64} (hM : xMC F (cm) (b) (M)) (hD : xMD F (b + 566) (th) (M)) (ho : F (b + 578) = some (.inr (2, 1, fun b9 => .long (g b9)))) (hod : F (b + 579) = some (.inr (3, 1, fun b9 => .double (gd b9)))) (hJ : lwJ q M) (hq : 3 * q + 3 ≤ N) (hkn : k + 2 ≤ 603072 ∧ n + 12 ≤ 7207018) (kk : lwK P Θ cm a b q k n) : xX P Θ 1746 [some (.ref (a)), some (.ref (b)), some (.ref (b + 566)), some (.ref (b + 578)), some (.ref (b + 579)), some (.int (nI (3 * q))), none, none, none, none] [] F z k n := by
  obtain ⟨hC, hX, ha, hN, hCM, hSM, hSR, hZx, hNx⟩ := E
  obtain ⟨hI, hS, hpp⟩ := id hJ
  obtain ⟨hk9, hn9⟩ := hkn
  have hu8 : M.2.2.2.2.2.2.2.1 ≤ 8 := hI.2.2.2.1
  have hup0 : M.2.2.2.2.2.2.2.1 ≤ M.2.2.2.2.2.2.1 := hI.2.2.2.2.1
  have hsv0 : M.2.2.2.2.2.1 ≤ 1 := hI.2.2.2.2.2.1
  have hpp0 : M.2.2.2.2.2.2.1 < 100000 := by omega
  have hun0 : M.2.2.2.2.2.2.2.1 < 100000 := by omega
  obtain ⟨hb1, hb2, hb3⟩ := hS.1
  have hnx : M.1.2.2.1.2.1 < 999 := by omega
  have hn0 : M.1.2.2.1.2.1 + 1 < 1000 := by omega
  have hg0 : M.1.2.2.2.2.2.2.1 < 1000 := by omega
  have hf0 : M.1.2.2.2.2.2.2.2.2 < 1000 := by omega
  refine x_aload_n hC d_Law_law_1746 rfl rfl ?_
  refine x_aload_n hC d_Law_law_1747 rfl rfl ?_
  refine x_iload hC d_Law_law_1748 rfl ?_
  refine x_iconst hC d_Law_law_1750 (v := nI 1) (by decide) ?_
  refine x_iadd hC d_Law_law_1751 (v := (nI (3 * q + 1))) (x_addN (by omega)) ?_
  refine x_sld hC hX ha (j := 3 * q + 1) ⟨rfl, by omega, by omega⟩ d_Law_law_1752 ?_
  refine x_aload_n hC d_Law_law_1753 rfl rfl ?_
  refine x_callW hC kw_Law_275 (c_Law_checksumByTable (hM := hM) (ho := ho) (hZx := hZx) (hSR := hSR) (hNx := hNx) (hbo := Or.inr (by omega))) (Nat.le_of_ble_eq_true rfl) rfl rfl rfl (Nat.le_of_ble_eq_true rfl) ⟨by omega, by omega⟩ d_Law_law_1754 (fun r9 Fw zw hp9 => ?_)
  rcases hp9 with ⟨rfl, hM9, ho9, p_0, hag9⟩ | ⟨rfl, hM9, ho9, hcond, hag9⟩
  · skip
    have hM : xMC Fw (cm) (b) (M) := hM9
    have hD : xMD Fw (b + 566) (th) (M) := xMD_fr hD (fun a9 q1 q2 => hag9 a9 (by omega) (by omega))
    have ho : Fw (b + 578) = some (.inr (2, 1, fun b9 => .long ((vp_updL g 0 (((nI (crcB (bitsN (hLen M.1.1) (mAt M.1 (xs (3 * q + 1))).2.2.2 (mAt M.1 (xs (3 * q + 1))).2.2.1) (splB (hLen M.1.1) (hVal (hLen M.1.1)) (mAt M.1 (xs (3 * q + 1))).2.2.2 (mAt M.1 (xs (3 * q + 1))).2.2.1) (bitsN (hLen M.1.1) (mAt M.1 (xs (3 * q + 1))).2.2.2 (mAt M.1 (xs (3 * q + 1))).2.2.1 + 4)))).toInt64)) b9))) := ho9
    have hod : Fw (b + 579) = some (.inr (3, 1, fun b9 => .double (gd b9))) := (hag9 _ (by omega) (by omega)).trans hod
    clear hM9 ho9 hag9
    refine x_istore hC d_Law_law_1757 (Nat.le_of_ble_eq_true rfl) (L1 := [some (.ref a), some (.ref b), some (.ref (b + 566)), some (.ref (b + 578)), some (.ref (b + 579)), some (.int (nI (3 * q))), some (.int (nI 0)), none, none, none]) rfl ?_
    refine x_aload_n hC d_Law_law_1759 rfl rfl ?_
    refine x_aload_n hC d_Law_law_1760 rfl rfl ?_
    refine x_iload hC d_Law_law_1761 rfl ?_
    refine x_iconst hC d_Law_law_1763 (v := nI 1) (by decide) ?_
    refine x_iadd hC d_Law_law_1764 (v := (nI (3 * q + 1))) (x_addN (by omega)) ?_
    refine x_sld hC hX ha (j := 3 * q + 1) ⟨rfl, by omega, by omega⟩ d_Law_law_1765 ?_
    obtain ⟨fsD, hDo⟩ := xMD_at hD
    refine x_callV hC kv_Law_277 (c_MessageCoderModel_checksumByTable (hD := hD) (hI := hI)) hDo rfl rfl (Nat.le_of_ble_eq_true rfl) rfl rfl rfl (Nat.le_of_ble_eq_true rfl) ⟨by omega, by omega⟩ d_Law_law_1766 (fun r9 Fm z9 hp9 => ?_)
    obtain ⟨rfl, h9c, j0, hag9⟩ := hp9
    rw [h9c]
    clear h9c z9
    have hM : xMC Fm (cm) (b) (M) := xMC_fr hM (fun a9 q1 q2 => hag9 a9 (by omega))
    have hD : xMD Fm (((b + 566))) ((if mOk M.1 (xs (3 * q + 1)) then 0 else 1)) (M) := j0
    have ho : Fm (b + 578) = some (.inr (2, 1, fun b9 => .long ((vp_updL g 0 (((nI (crcB (bitsN (hLen M.1.1) (mAt M.1 (xs (3 * q + 1))).2.2.2 (mAt M.1 (xs (3 * q + 1))).2.2.1) (splB (hLen M.1.1) (hVal (hLen M.1.1)) (mAt M.1 (xs (3 * q + 1))).2.2.2 (mAt M.1 (xs (3 * q + 1))).2.2.1) (bitsN (hLen M.1.1) (mAt M.1 (xs (3 * q + 1))).2.2.2 (mAt M.1 (xs (3 * q + 1))).2.2.1 + 4)))).toInt64)) b9))) := (hag9 _ (by omega)).trans ho
    have hod : Fm (b + 579) = some (.inr (3, 1, fun b9 => .double (gd b9))) := (hag9 _ (by omega)).trans hod
    clear j0 hag9
    have hT : ((if mOk M.1 (xs (3 * q + 1)) then 0 else 1)) = 0 := if_pos p_0
    rw [hT] at hD
    refine x_top (v := (nI (crcB (bitsN (hLen M.1.1) (mAt M.1 (xs (3 * q + 1))).2.2.2 (mAt M.1 (xs (3 * q + 1))).2.2.1) (splB (hLen M.1.1) (hVal (hLen M.1.1)) (mAt M.1 (xs (3 * q + 1))).2.2.2 (mAt M.1 (xs (3 * q + 1))).2.2.1) (bitsN (hLen M.1.1) (mAt M.1 (xs (3 * q + 1))).2.2.2 (mAt M.1 (xs (3 * q + 1))).2.2.1 + 4)))) (congrArg nI (if_pos p_0)) ?_
    refine x_istore hC d_Law_law_1769 (Nat.le_of_ble_eq_true rfl) (L1 := [some (.ref a), some (.ref b), some (.ref (b + 566)), some (.ref (b + 578)), some (.ref (b + 579)), some (.int (nI (3 * q))), some (.int (nI 0)), some (.int (nI (crcB (bitsN (hLen M.1.1) (mAt M.1 (xs (3 * q + 1))).2.2.2 (mAt M.1 (xs (3 * q + 1))).2.2.1) (splB (hLen M.1.1) (hVal (hLen M.1.1)) (mAt M.1 (xs (3 * q + 1))).2.2.2 (mAt M.1 (xs (3 * q + 1))).2.2.1) (bitsN (hLen M.1.1) (mAt M.1 (xs (3 * q + 1))).2.2.2 (mAt M.1 (xs (3 * q + 1))).2.2.1 + 4)))), none, none]) rfl ?_
    refine x_aload_n hC d_Law_law_1771 rfl rfl ?_
    obtain ⟨fsD, hDo⟩ := xMD_at hD
    refine x_callV hC kv_Law_163 (c_thrownD hD) hDo rfl rfl (Nat.le_of_ble_eq_true rfl) rfl rfl rfl (Nat.le_of_ble_eq_true rfl) ⟨by omega, by omega⟩ d_Law_law_1772 (fun r9 F9 z9 hp9 => ?_)
    obtain ⟨rfl, h9b, h9c⟩ := hp9
    rw [h9b, h9c]
    clear h9b h9c F9 z9
    refine x_iload hC d_Law_law_1775 rfl ?_
    refine x_icmpN_eq hC d_Law_law_1777 (tgt := 1782) (by decide) (by omega) (by omega) (fun c_1777 => ?_) (fun c_1777 => ?_)
    · skip
      refine x_iload hC d_Law_law_1782 rfl ?_
      refine x_ifN_ne hC d_Law_law_1784 (tgt := 1799) (by decide) (by omega) (fun c_1784 => ?_) (fun c_1784 => ?_)
      · skip
        exact absurd c_1784 (by omega)
      · skip
        refine x_aload_n hC d_Law_law_1787 rfl rfl ?_
        refine x_iconst hC d_Law_law_1788 (v := nI 0) (by decide) ?_
        refine x_lald hC ho (j := 0) ⟨rfl, by decide, by decide⟩ (x := ((nI (crcB (bitsN (hLen M.1.1) (mAt M.1 (xs (3 * q + 1))).2.2.2 (mAt M.1 (xs (3 * q + 1))).2.2.1) (splB (hLen M.1.1) (hVal (hLen M.1.1)) (mAt M.1 (xs (3 * q + 1))).2.2.2 (mAt M.1 (xs (3 * q + 1))).2.2.1) (bitsN (hLen M.1.1) (mAt M.1 (xs (3 * q + 1))).2.2.2 (mAt M.1 (xs (3 * q + 1))).2.2.1 + 4)))).toInt64) rfl d_Law_law_1789 ?_
        refine x_iload hC d_Law_law_1790 rfl ?_
        refine x_i2l hC d_Law_law_1792 rfl ?_
        refine x_lcmp hC d_Law_law_1793 ?_
        refine x_top (v := nI 0) (lg_self _) ?_
        refine x_ifN_eq hC d_Law_law_1794 (tgt := 1799) (by decide) (by omega) (fun c_1794 => ?_) (fun c_1794 => ?_)
        · skip
          refine x_goto hC d_Law_law_1799 (tgt := 2933) (by decide) ?_
          refine x_forget (L1 := [some (.ref a), some (.ref b), some (.ref (b + 566)), some (.ref (b + 578)), some (.ref (b + 579)), some (.int (nI (3 * q))), none, none, none, none]) ⟨Or.inr rfl, ⟨Or.inr rfl, ⟨Or.inr rfl, ⟨Or.inr rfl, ⟨Or.inr rfl, ⟨Or.inr rfl, ⟨Or.inl rfl, ⟨Or.inl rfl, ⟨Or.inl rfl, ⟨Or.inl rfl, trivial⟩⟩⟩⟩⟩⟩⟩⟩⟩⟩ ?_
          exact kk _ _ _ _ _ _ _ _ hM hD ho hod (lwJ_s hJ) (by omega) (by omega)
        · skip
          exact absurd c_1794 (by omega)
    · skip
      exact absurd c_1777 (by omega)
  · skip
    have hM : xMC Fw (cm) (b) (M) := hM9
    have hD : xMD Fw (b + 566) (th) (M) := xMD_fr hD (fun a9 q1 q2 => hag9 a9 (by omega) (by omega))
    have ho : Fw (b + 578) = some (.inr (2, 1, fun b9 => .long (g b9))) := ho9
    have hod : Fw (b + 579) = some (.inr (3, 1, fun b9 => .double (gd b9))) := (hag9 _ (by omega) (by omega)).trans hod
    clear hM9 ho9 hag9
    refine x_istore hC d_Law_law_1757 (Nat.le_of_ble_eq_true rfl) (L1 := [some (.ref a), some (.ref b), some (.ref (b + 566)), some (.ref (b + 578)), some (.ref (b + 579)), some (.int (nI (3 * q))), some (.int (nI 1)), none, none, none]) rfl ?_
    refine x_aload_n hC d_Law_law_1759 rfl rfl ?_
    refine x_aload_n hC d_Law_law_1760 rfl rfl ?_
    refine x_iload hC d_Law_law_1761 rfl ?_
    refine x_iconst hC d_Law_law_1763 (v := nI 1) (by decide) ?_
    refine x_iadd hC d_Law_law_1764 (v := (nI (3 * q + 1))) (x_addN (by omega)) ?_
    refine x_sld hC hX ha (j := 3 * q + 1) ⟨rfl, by omega, by omega⟩ d_Law_law_1765 ?_
    obtain ⟨fsD, hDo⟩ := xMD_at hD
    refine x_callV hC kv_Law_277 (c_MessageCoderModel_checksumByTable (hD := hD) (hI := hI)) hDo rfl rfl (Nat.le_of_ble_eq_true rfl) rfl rfl rfl (Nat.le_of_ble_eq_true rfl) ⟨by omega, by omega⟩ d_Law_law_1766 (fun r9 Fm z9 hp9 => ?_)
    obtain ⟨rfl, h9c, j0, hag9⟩ := hp9
    rw [h9c]
    clear h9c z9
    have hM : xMC Fm (cm) (b) (M) := xMC_fr hM (fun a9 q1 q2 => hag9 a9 (by omega))
    have hD : xMD Fm (((b + 566))) ((if mOk M.1 (xs (3 * q + 1)) then 0 else 1)) (M) := j0
    have ho : Fm (b + 578) = some (.inr (2, 1, fun b9 => .long (g b9))) := (hag9 _ (by omega)).trans ho
    have hod : Fm (b + 579) = some (.inr (3, 1, fun b9 => .double (gd b9))) := (hag9 _ (by omega)).trans hod
    clear j0 hag9
    have hT : ((if mOk M.1 (xs (3 * q + 1)) then 0 else 1)) = 1 := if_neg hcond
    rw [hT] at hD
    refine x_istore hC d_Law_law_1769 (Nat.le_of_ble_eq_true rfl) (L1 := [some (.ref a), some (.ref b), some (.ref (b + 566)), some (.ref (b + 578)), some (.ref (b + 579)), some (.int (nI (3 * q))), some (.int (nI 1)), some (.int (nI (if mOk M.1 (xs (3 * q + 1)) then crcB (bitsN (hLen M.1.1) (mAt M.1 (xs (3 * q + 1))).2.2.2 (mAt M.1 (xs (3 * q + 1))).2.2.1) (splB (hLen M.1.1) (hVal (hLen M.1.1)) (mAt M.1 (xs (3 * q + 1))).2.2.2 (mAt M.1 (xs (3 * q + 1))).2.2.1) (bitsN (hLen M.1.1) (mAt M.1 (xs (3 * q + 1))).2.2.2 (mAt M.1 (xs (3 * q + 1))).2.2.1 + 4) else 0))), none, none]) rfl ?_
    refine x_aload_n hC d_Law_law_1771 rfl rfl ?_
    obtain ⟨fsD, hDo⟩ := xMD_at hD
    refine x_callV hC kv_Law_163 (c_thrownD hD) hDo rfl rfl (Nat.le_of_ble_eq_true rfl) rfl rfl rfl (Nat.le_of_ble_eq_true rfl) ⟨by omega, by omega⟩ d_Law_law_1772 (fun r9 F9 z9 hp9 => ?_)
    obtain ⟨rfl, h9b, h9c⟩ := hp9
    rw [h9b, h9c]
    clear h9b h9c F9 z9
    refine x_iload hC d_Law_law_1775 rfl ?_
    refine x_icmpN_eq hC d_Law_law_1777 (tgt := 1782) (by decide) (by omega) (by omega) (fun c_1777 => ?_) (fun c_1777 => ?_)
    · skip
      refine x_iload hC d_Law_law_1782 rfl ?_
      refine x_ifN_ne hC d_Law_law_1784 (tgt := 1799) (by decide) (by omega) (fun c_1784 => ?_) (fun c_1784 => ?_)
      · skip
        refine x_goto hC d_Law_law_1799 (tgt := 2933) (by decide) ?_
        refine x_forget (L1 := [some (.ref a), some (.ref b), some (.ref (b + 566)), some (.ref (b + 578)), some (.ref (b + 579)), some (.int (nI (3 * q))), none, none, none, none]) ⟨Or.inr rfl, ⟨Or.inr rfl, ⟨Or.inr rfl, ⟨Or.inr rfl, ⟨Or.inr rfl, ⟨Or.inr rfl, ⟨Or.inl rfl, ⟨Or.inl rfl, ⟨Or.inl rfl, ⟨Or.inl rfl, trivial⟩⟩⟩⟩⟩⟩⟩⟩⟩⟩ ?_
        exact kk _ _ _ _ _ _ _ _ hM hD ho hod (lwJ_s hJ) (by omega) (by omega)
      · skip
        exact absurd c_1784 (by omega)
    · skip
      exact absurd c_1777 (by omega)

set_option maxHeartbeats 4000000 in
set_option maxRecDepth 20000 in
theorem lc_33 {P : xP} {Θ : xT} {cm : cmT} {a N b sm rt q : Nat} {xs : Nat → Int32} (E : lwE P Θ cm a N b sm rt xs) {F : xF} {z k n th : Nat} {M : mcS} {g : Nat → Int64} {gd : Nat → UInt64} (hM : xMC F (cm) (b) (M)) (hD : xMD F (b + 566) (th) (M)) (ho : F (b + 578) = some (.inr (2, 1, fun b9 => .long (g b9)))) (hod : F (b + 579) = some (.inr (3, 1, fun b9 => .double (gd b9)))) (hJ : lwJ q M) (hq : 3 * q + 3 ≤ N) (hkn : k + 2 ≤ 603072 ∧ n + 12 ≤ 7207018) (kk : lwK P Θ cm a b q k n) : xX P Θ 1802 [some (.ref (a)), some (.ref (b)), some (.ref (b + 566)), some (.ref (b + 578)), some (.ref (b + 579)), some (.int (nI (3 * q))), none, none, none, none] [] F z k n := by
  obtain ⟨hC, hX, ha, hN, hCM, hSM, hSR, hZx, hNx⟩ := E
  obtain ⟨hI, hS, hpp⟩ := id hJ
  obtain ⟨hk9, hn9⟩ := hkn
  have hu8 : M.2.2.2.2.2.2.2.1 ≤ 8 := hI.2.2.2.1
  have hup0 : M.2.2.2.2.2.2.2.1 ≤ M.2.2.2.2.2.2.1 := hI.2.2.2.2.1
  have hsv0 : M.2.2.2.2.2.1 ≤ 1 := hI.2.2.2.2.2.1
  have hpp0 : M.2.2.2.2.2.2.1 < 100000 := by omega
  have hun0 : M.2.2.2.2.2.2.2.1 < 100000 := by omega
  obtain ⟨hb1, hb2, hb3⟩ := hS.1
  have hnx : M.1.2.2.1.2.1 < 999 := by omega
  have hn0 : M.1.2.2.1.2.1 + 1 < 1000 := by omega
  have hg0 : M.1.2.2.2.2.2.2.1 < 1000 := by omega
  have hf0 : M.1.2.2.2.2.2.2.2.2 < 1000 := by omega
  refine x_aload_n hC d_Law_law_1802 rfl rfl ?_
  refine x_aload_n hC d_Law_law_1803 rfl rfl ?_
  refine x_iload hC d_Law_law_1804 rfl ?_
  refine x_iconst hC d_Law_law_1806 (v := nI 1) (by decide) ?_
  refine x_iadd hC d_Law_law_1807 (v := (nI (3 * q + 1))) (x_addN (by omega)) ?_
  refine x_sld hC hX ha (j := 3 * q + 1) ⟨rfl, by omega, by omega⟩ d_Law_law_1808 ?_
  refine x_aload_n hC d_Law_law_1809 rfl rfl ?_
  refine x_iload hC d_Law_law_1810 rfl ?_
  refine x_iconst hC d_Law_law_1812 (v := nI 2) (by decide) ?_
  refine x_iadd hC d_Law_law_1813 (v := (nI (3 * q + 2))) (x_addN (by omega)) ?_
  refine x_sld hC hX ha (j := 3 * q + 2) ⟨rfl, by omega, by omega⟩ d_Law_law_1814 ?_
  refine x_aload_n hC d_Law_law_1815 rfl rfl ?_
  refine x_callW hC kw_Law_278 (c_Law_areEqual (hM := hM) (ho := ho) (hZx := hZx) (hNx := hNx) (hbo := Or.inr (by omega))) (Nat.le_of_ble_eq_true rfl) rfl rfl rfl (Nat.le_of_ble_eq_true rfl) ⟨by omega, by omega⟩ d_Law_law_1816 (fun r9 Fw zw hp9 => ?_)
  rcases hp9 with ⟨rfl, hM9, ho9, p_0, p_1, hag9⟩ | ⟨rfl, hM9, ho9, hcond, hag9⟩
  · skip
    have hM : xMC Fw (cm) (b) (M) := hM9
    have hD : xMD Fw (b + 566) (th) (M) := xMD_fr hD (fun a9 q1 q2 => hag9 a9 (by omega) (by omega))
    have ho : Fw (b + 578) = some (.inr (2, 1, fun b9 => .long ((vp_updL g 0 (if (mAt M.1 (xs (3 * q + 1))).2.2.1 = (mAt M.1 (xs (3 * q + 2))).2.2.1 ∧ eqTo (mAt M.1 (xs (3 * q + 1))).2.2.2 (mAt M.1 (xs (3 * q + 2))).2.2.2 (mAt M.1 (xs (3 * q + 1))).2.2.1 = true then 1 else 0)) b9))) := ho9
    have hod : Fw (b + 579) = some (.inr (3, 1, fun b9 => .double (gd b9))) := (hag9 _ (by omega) (by omega)).trans hod
    clear hM9 ho9 hag9
    refine x_istore hC d_Law_law_1819 (Nat.le_of_ble_eq_true rfl) (L1 := [some (.ref a), some (.ref b), some (.ref (b + 566)), some (.ref (b + 578)), some (.ref (b + 579)), some (.int (nI (3 * q))), some (.int (nI 0)), none, none, none]) rfl ?_
    refine x_aload_n hC d_Law_law_1821 rfl rfl ?_
    refine x_aload_n hC d_Law_law_1822 rfl rfl ?_
    refine x_iload hC d_Law_law_1823 rfl ?_
    refine x_iconst hC d_Law_law_1825 (v := nI 1) (by decide) ?_
    refine x_iadd hC d_Law_law_1826 (v := (nI (3 * q + 1))) (x_addN (by omega)) ?_
    refine x_sld hC hX ha (j := 3 * q + 1) ⟨rfl, by omega, by omega⟩ d_Law_law_1827 ?_
    refine x_aload_n hC d_Law_law_1828 rfl rfl ?_
    refine x_iload hC d_Law_law_1829 rfl ?_
    refine x_iconst hC d_Law_law_1831 (v := nI 2) (by decide) ?_
    refine x_iadd hC d_Law_law_1832 (v := (nI (3 * q + 2))) (x_addN (by omega)) ?_
    refine x_sld hC hX ha (j := 3 * q + 2) ⟨rfl, by omega, by omega⟩ d_Law_law_1833 ?_
    obtain ⟨fsD, hDo⟩ := xMD_at hD
    refine x_callV hC kv_Law_280 (c_MessageCoderModel_areEqual (hD := hD) (hI := hI)) hDo rfl rfl (Nat.le_of_ble_eq_true rfl) rfl rfl rfl (Nat.le_of_ble_eq_true rfl) ⟨by omega, by omega⟩ d_Law_law_1834 (fun r9 Fm z9 hp9 => ?_)
    obtain ⟨rfl, h9c, j0, hag9⟩ := hp9
    rw [h9c]
    clear h9c z9
    have hM : xMC Fm (cm) (b) (M) := xMC_fr hM (fun a9 q1 q2 => hag9 a9 (by omega))
    have hD : xMD Fm (((b + 566))) ((if mOk M.1 (xs (3 * q + 1)) ∧ mOk M.1 (xs (3 * q + 2)) then 0 else 1)) (M) := j0
    have ho : Fm (b + 578) = some (.inr (2, 1, fun b9 => .long ((vp_updL g 0 (if (mAt M.1 (xs (3 * q + 1))).2.2.1 = (mAt M.1 (xs (3 * q + 2))).2.2.1 ∧ eqTo (mAt M.1 (xs (3 * q + 1))).2.2.2 (mAt M.1 (xs (3 * q + 2))).2.2.2 (mAt M.1 (xs (3 * q + 1))).2.2.1 = true then 1 else 0)) b9))) := (hag9 _ (by omega)).trans ho
    have hod : Fm (b + 579) = some (.inr (3, 1, fun b9 => .double (gd b9))) := (hag9 _ (by omega)).trans hod
    clear j0 hag9
    have hT : ((if mOk M.1 (xs (3 * q + 1)) ∧ mOk M.1 (xs (3 * q + 2)) then 0 else 1)) = 0 := if_pos ⟨p_0, p_1⟩
    rw [hT] at hD
    refine x_top (v := (xb ((mAt M.1 (xs (3 * q + 1))).2.2.1 = (mAt M.1 (xs (3 * q + 2))).2.2.1 ∧ eqTo (mAt M.1 (xs (3 * q + 1))).2.2.2 (mAt M.1 (xs (3 * q + 2))).2.2.2 (mAt M.1 (xs (3 * q + 1))).2.2.1 = true))) (xb_c (Iff.intro (fun h9 => h9.2) (fun h9 => ⟨⟨p_0, p_1⟩, h9⟩))) ?_
    refine x_istore hC d_Law_law_1837 (Nat.le_of_ble_eq_true rfl) (L1 := [some (.ref a), some (.ref b), some (.ref (b + 566)), some (.ref (b + 578)), some (.ref (b + 579)), some (.int (nI (3 * q))), some (.int (nI 0)), some (.int (xb ((mAt M.1 (xs (3 * q + 1))).2.2.1 = (mAt M.1 (xs (3 * q + 2))).2.2.1 ∧ eqTo (mAt M.1 (xs (3 * q + 1))).2.2.2 (mAt M.1 (xs (3 * q + 2))).2.2.2 (mAt M.1 (xs (3 * q + 1))).2.2.1 = true))), none, none]) rfl ?_
    refine x_aload_n hC d_Law_law_1839 rfl rfl ?_
    obtain ⟨fsD, hDo⟩ := xMD_at hD
    refine x_callV hC kv_Law_163 (c_thrownD hD) hDo rfl rfl (Nat.le_of_ble_eq_true rfl) rfl rfl rfl (Nat.le_of_ble_eq_true rfl) ⟨by omega, by omega⟩ d_Law_law_1840 (fun r9 F9 z9 hp9 => ?_)
    obtain ⟨rfl, h9b, h9c⟩ := hp9
    rw [h9b, h9c]
    clear h9b h9c F9 z9
    refine x_iload hC d_Law_law_1843 rfl ?_
    refine x_icmpN_eq hC d_Law_law_1845 (tgt := 1850) (by decide) (by omega) (by omega) (fun c_1845 => ?_) (fun c_1845 => ?_)
    · skip
      refine x_iload hC d_Law_law_1850 rfl ?_
      refine x_ifN_ne hC d_Law_law_1852 (tgt := 1874) (by decide) (by omega) (fun c_1852 => ?_) (fun c_1852 => ?_)
      · skip
        exact absurd c_1852 (by omega)
      · skip
        refine x_aload_n hC d_Law_law_1855 rfl rfl ?_
        refine x_iconst hC d_Law_law_1856 (v := nI 0) (by decide) ?_
        refine x_lald hC ho (j := 0) ⟨rfl, by decide, by decide⟩ (x := if (mAt M.1 (xs (3 * q + 1))).2.2.1 = (mAt M.1 (xs (3 * q + 2))).2.2.1 ∧ eqTo (mAt M.1 (xs (3 * q + 1))).2.2.2 (mAt M.1 (xs (3 * q + 2))).2.2.2 (mAt M.1 (xs (3 * q + 1))).2.2.1 = true then 1 else 0) rfl d_Law_law_1857 ?_
        refine x_iload hC d_Law_law_1858 rfl ?_
        refine x_ifB_eq hC d_Law_law_1860 (tgt := 1867) (by decide) (fun c_1860 => ?_) (fun c_1860 => ?_)
        · skip
          refine x_lconst hC d_Law_law_1867 (v := 0) rfl ?_
          refine x_lcmp hC d_Law_law_1868 ?_
          refine x_top (v := nI 0) ((by rw [if_neg c_1860]; exact lg_self _)) ?_
          refine x_ifN_eq hC d_Law_law_1869 (tgt := 1874) (by decide) (by omega) (fun c_1869 => ?_) (fun c_1869 => ?_)
          · skip
            refine x_goto hC d_Law_law_1874 (tgt := 2933) (by decide) ?_
            refine x_forget (L1 := [some (.ref a), some (.ref b), some (.ref (b + 566)), some (.ref (b + 578)), some (.ref (b + 579)), some (.int (nI (3 * q))), none, none, none, none]) ⟨Or.inr rfl, ⟨Or.inr rfl, ⟨Or.inr rfl, ⟨Or.inr rfl, ⟨Or.inr rfl, ⟨Or.inr rfl, ⟨Or.inl rfl, ⟨Or.inl rfl, ⟨Or.inl rfl, ⟨Or.inl rfl, trivial⟩⟩⟩⟩⟩⟩⟩⟩⟩⟩ ?_
            exact kk _ _ _ _ _ _ _ _ hM hD ho hod (lwJ_s hJ) (by omega) (by omega)
          · skip
            exact absurd c_1869 (by omega)
        · skip
          refine x_lconst hC d_Law_law_1863 (v := 1) rfl ?_
          refine x_goto hC d_Law_law_1864 (tgt := 1868) (by decide) ?_
          refine x_lcmp hC d_Law_law_1868 ?_
          refine x_top (v := nI 0) ((by rw [if_pos c_1860]; exact lg_self _)) ?_
          refine x_ifN_eq hC d_Law_law_1869 (tgt := 1874) (by decide) (by omega) (fun c_1869 => ?_) (fun c_1869 => ?_)
          · skip
            refine x_goto hC d_Law_law_1874 (tgt := 2933) (by decide) ?_
            refine x_forget (L1 := [some (.ref a), some (.ref b), some (.ref (b + 566)), some (.ref (b + 578)), some (.ref (b + 579)), some (.int (nI (3 * q))), none, none, none, none]) ⟨Or.inr rfl, ⟨Or.inr rfl, ⟨Or.inr rfl, ⟨Or.inr rfl, ⟨Or.inr rfl, ⟨Or.inr rfl, ⟨Or.inl rfl, ⟨Or.inl rfl, ⟨Or.inl rfl, ⟨Or.inl rfl, trivial⟩⟩⟩⟩⟩⟩⟩⟩⟩⟩ ?_
            exact kk _ _ _ _ _ _ _ _ hM hD ho hod (lwJ_s hJ) (by omega) (by omega)
          · skip
            exact absurd c_1869 (by omega)
    · skip
      exact absurd c_1845 (by omega)
  · skip
    have hM : xMC Fw (cm) (b) (M) := hM9
    have hD : xMD Fw (b + 566) (th) (M) := xMD_fr hD (fun a9 q1 q2 => hag9 a9 (by omega) (by omega))
    have ho : Fw (b + 578) = some (.inr (2, 1, fun b9 => .long (g b9))) := ho9
    have hod : Fw (b + 579) = some (.inr (3, 1, fun b9 => .double (gd b9))) := (hag9 _ (by omega) (by omega)).trans hod
    clear hM9 ho9 hag9
    refine x_istore hC d_Law_law_1819 (Nat.le_of_ble_eq_true rfl) (L1 := [some (.ref a), some (.ref b), some (.ref (b + 566)), some (.ref (b + 578)), some (.ref (b + 579)), some (.int (nI (3 * q))), some (.int (nI 1)), none, none, none]) rfl ?_
    refine x_aload_n hC d_Law_law_1821 rfl rfl ?_
    refine x_aload_n hC d_Law_law_1822 rfl rfl ?_
    refine x_iload hC d_Law_law_1823 rfl ?_
    refine x_iconst hC d_Law_law_1825 (v := nI 1) (by decide) ?_
    refine x_iadd hC d_Law_law_1826 (v := (nI (3 * q + 1))) (x_addN (by omega)) ?_
    refine x_sld hC hX ha (j := 3 * q + 1) ⟨rfl, by omega, by omega⟩ d_Law_law_1827 ?_
    refine x_aload_n hC d_Law_law_1828 rfl rfl ?_
    refine x_iload hC d_Law_law_1829 rfl ?_
    refine x_iconst hC d_Law_law_1831 (v := nI 2) (by decide) ?_
    refine x_iadd hC d_Law_law_1832 (v := (nI (3 * q + 2))) (x_addN (by omega)) ?_
    refine x_sld hC hX ha (j := 3 * q + 2) ⟨rfl, by omega, by omega⟩ d_Law_law_1833 ?_
    obtain ⟨fsD, hDo⟩ := xMD_at hD
    refine x_callV hC kv_Law_280 (c_MessageCoderModel_areEqual (hD := hD) (hI := hI)) hDo rfl rfl (Nat.le_of_ble_eq_true rfl) rfl rfl rfl (Nat.le_of_ble_eq_true rfl) ⟨by omega, by omega⟩ d_Law_law_1834 (fun r9 Fm z9 hp9 => ?_)
    obtain ⟨rfl, h9c, j0, hag9⟩ := hp9
    rw [h9c]
    clear h9c z9
    have hM : xMC Fm (cm) (b) (M) := xMC_fr hM (fun a9 q1 q2 => hag9 a9 (by omega))
    have hD : xMD Fm (((b + 566))) ((if mOk M.1 (xs (3 * q + 1)) ∧ mOk M.1 (xs (3 * q + 2)) then 0 else 1)) (M) := j0
    have ho : Fm (b + 578) = some (.inr (2, 1, fun b9 => .long (g b9))) := (hag9 _ (by omega)).trans ho
    have hod : Fm (b + 579) = some (.inr (3, 1, fun b9 => .double (gd b9))) := (hag9 _ (by omega)).trans hod
    clear j0 hag9
    have hT : ((if mOk M.1 (xs (3 * q + 1)) ∧ mOk M.1 (xs (3 * q + 2)) then 0 else 1)) = 1 := if_neg hcond
    rw [hT] at hD
    refine x_istore hC d_Law_law_1837 (Nat.le_of_ble_eq_true rfl) (L1 := [some (.ref a), some (.ref b), some (.ref (b + 566)), some (.ref (b + 578)), some (.ref (b + 579)), some (.int (nI (3 * q))), some (.int (nI 1)), some (.int (xb ((mOk M.1 (xs (3 * q + 1)) ∧ mOk M.1 (xs (3 * q + 2))) ∧ (mAt M.1 (xs (3 * q + 1))).2.2.1 = (mAt M.1 (xs (3 * q + 2))).2.2.1 ∧ eqTo (mAt M.1 (xs (3 * q + 1))).2.2.2 (mAt M.1 (xs (3 * q + 2))).2.2.2 (mAt M.1 (xs (3 * q + 1))).2.2.1 = true))), none, none]) rfl ?_
    refine x_aload_n hC d_Law_law_1839 rfl rfl ?_
    obtain ⟨fsD, hDo⟩ := xMD_at hD
    refine x_callV hC kv_Law_163 (c_thrownD hD) hDo rfl rfl (Nat.le_of_ble_eq_true rfl) rfl rfl rfl (Nat.le_of_ble_eq_true rfl) ⟨by omega, by omega⟩ d_Law_law_1840 (fun r9 F9 z9 hp9 => ?_)
    obtain ⟨rfl, h9b, h9c⟩ := hp9
    rw [h9b, h9c]
    clear h9b h9c F9 z9
    refine x_iload hC d_Law_law_1843 rfl ?_
    refine x_icmpN_eq hC d_Law_law_1845 (tgt := 1850) (by decide) (by omega) (by omega) (fun c_1845 => ?_) (fun c_1845 => ?_)
    · skip
      refine x_iload hC d_Law_law_1850 rfl ?_
      refine x_ifN_ne hC d_Law_law_1852 (tgt := 1874) (by decide) (by omega) (fun c_1852 => ?_) (fun c_1852 => ?_)
      · skip
        refine x_goto hC d_Law_law_1874 (tgt := 2933) (by decide) ?_
        refine x_forget (L1 := [some (.ref a), some (.ref b), some (.ref (b + 566)), some (.ref (b + 578)), some (.ref (b + 579)), some (.int (nI (3 * q))), none, none, none, none]) ⟨Or.inr rfl, ⟨Or.inr rfl, ⟨Or.inr rfl, ⟨Or.inr rfl, ⟨Or.inr rfl, ⟨Or.inr rfl, ⟨Or.inl rfl, ⟨Or.inl rfl, ⟨Or.inl rfl, ⟨Or.inl rfl, trivial⟩⟩⟩⟩⟩⟩⟩⟩⟩⟩ ?_
        exact kk _ _ _ _ _ _ _ _ hM hD ho hod (lwJ_s hJ) (by omega) (by omega)
      · skip
        exact absurd c_1852 (by omega)
    · skip
      exact absurd c_1845 (by omega)

set_option maxHeartbeats 4000000 in
set_option maxRecDepth 20000 in
theorem lc_34 {P : xP} {Θ : xT} {cm : cmT} {a N b sm rt q : Nat} {xs : Nat → Int32} (E : lwE P Θ cm a N b sm rt xs) {F : xF} {z k n th : Nat} {M : mcS} {g : Nat → Int64} {gd : Nat → UInt64} (hM : xMC F (cm) (b) (M)) (hD : xMD F (b + 566) (th) (M)) (ho : F (b + 578) = some (.inr (2, 1, fun b9 => .long (g b9)))) (hod : F (b + 579) = some (.inr (3, 1, fun b9 => .double (gd b9)))) (hJ : lwJ q M) (hq : 3 * q + 3 ≤ N) (hkn : k + 2 ≤ 603072 ∧ n + 12 ≤ 7207018) (kk : lwK P Θ cm a b q k n) : xX P Θ 1877 [some (.ref (a)), some (.ref (b)), some (.ref (b + 566)), some (.ref (b + 578)), some (.ref (b + 579)), some (.int (nI (3 * q))), none, none, none, none] [] F z k n := by
  obtain ⟨hC, hX, ha, hN, hCM, hSM, hSR, hZx, hNx⟩ := E
  obtain ⟨hI, hS, hpp⟩ := id hJ
  obtain ⟨hk9, hn9⟩ := hkn
  have hu8 : M.2.2.2.2.2.2.2.1 ≤ 8 := hI.2.2.2.1
  have hup0 : M.2.2.2.2.2.2.2.1 ≤ M.2.2.2.2.2.2.1 := hI.2.2.2.2.1
  have hsv0 : M.2.2.2.2.2.1 ≤ 1 := hI.2.2.2.2.2.1
  have hpp0 : M.2.2.2.2.2.2.1 < 100000 := by omega
  have hun0 : M.2.2.2.2.2.2.2.1 < 100000 := by omega
  obtain ⟨hb1, hb2, hb3⟩ := hS.1
  have hnx : M.1.2.2.1.2.1 < 999 := by omega
  have hn0 : M.1.2.2.1.2.1 + 1 < 1000 := by omega
  have hg0 : M.1.2.2.2.2.2.2.1 < 1000 := by omega
  have hf0 : M.1.2.2.2.2.2.2.2.2 < 1000 := by omega
  refine x_aload_n hC d_Law_law_1877 rfl rfl ?_
  refine x_aload_n hC d_Law_law_1878 rfl rfl ?_
  refine x_iload hC d_Law_law_1879 rfl ?_
  refine x_iconst hC d_Law_law_1881 (v := nI 1) (by decide) ?_
  refine x_iadd hC d_Law_law_1882 (v := (nI (3 * q + 1))) (x_addN (by omega)) ?_
  refine x_sld hC hX ha (j := 3 * q + 1) ⟨rfl, by omega, by omega⟩ d_Law_law_1883 ?_
  refine x_aload_n hC d_Law_law_1884 rfl rfl ?_
  refine x_iload hC d_Law_law_1885 rfl ?_
  refine x_iconst hC d_Law_law_1887 (v := nI 2) (by decide) ?_
  refine x_iadd hC d_Law_law_1888 (v := (nI (3 * q + 2))) (x_addN (by omega)) ?_
  refine x_sld hC hX ha (j := 3 * q + 2) ⟨rfl, by omega, by omega⟩ d_Law_law_1889 ?_
  refine x_aload_n hC d_Law_law_1890 rfl rfl ?_
  refine x_callW hC kw_Law_281 (c_Law_commonLength (hM := hM) (ho := ho) (hZx := hZx) (hNx := hNx) (hbo := Or.inr (by omega))) (Nat.le_of_ble_eq_true rfl) rfl rfl rfl (Nat.le_of_ble_eq_true rfl) ⟨by omega, by omega⟩ d_Law_law_1891 (fun r9 Fw zw hp9 => ?_)
  rcases hp9 with ⟨rfl, hM9, ho9, p_0, p_1, hag9⟩ | ⟨rfl, hM9, ho9, hcond, hag9⟩
  · skip
    have hM : xMC Fw (cm) (b) (M) := hM9
    have hD : xMD Fw (b + 566) (th) (M) := xMD_fr hD (fun a9 q1 q2 => hag9 a9 (by omega) (by omega))
    have ho : Fw (b + 578) = some (.inr (2, 1, fun b9 => .long ((vp_updL g 0 (((nI (lcs (mAt M.1 (xs (3 * q + 1))).2.2.2 (mAt M.1 (xs (3 * q + 2))).2.2.2 (mAt M.1 (xs (3 * q + 1))).2.2.1 (mAt M.1 (xs (3 * q + 2))).2.2.1))).toInt64)) b9))) := ho9
    have hod : Fw (b + 579) = some (.inr (3, 1, fun b9 => .double (gd b9))) := (hag9 _ (by omega) (by omega)).trans hod
    clear hM9 ho9 hag9
    refine x_istore hC d_Law_law_1894 (Nat.le_of_ble_eq_true rfl) (L1 := [some (.ref a), some (.ref b), some (.ref (b + 566)), some (.ref (b + 578)), some (.ref (b + 579)), some (.int (nI (3 * q))), some (.int (nI 0)), none, none, none]) rfl ?_
    refine x_aload_n hC d_Law_law_1896 rfl rfl ?_
    refine x_aload_n hC d_Law_law_1897 rfl rfl ?_
    refine x_iload hC d_Law_law_1898 rfl ?_
    refine x_iconst hC d_Law_law_1900 (v := nI 1) (by decide) ?_
    refine x_iadd hC d_Law_law_1901 (v := (nI (3 * q + 1))) (x_addN (by omega)) ?_
    refine x_sld hC hX ha (j := 3 * q + 1) ⟨rfl, by omega, by omega⟩ d_Law_law_1902 ?_
    refine x_aload_n hC d_Law_law_1903 rfl rfl ?_
    refine x_iload hC d_Law_law_1904 rfl ?_
    refine x_iconst hC d_Law_law_1906 (v := nI 2) (by decide) ?_
    refine x_iadd hC d_Law_law_1907 (v := (nI (3 * q + 2))) (x_addN (by omega)) ?_
    refine x_sld hC hX ha (j := 3 * q + 2) ⟨rfl, by omega, by omega⟩ d_Law_law_1908 ?_
    obtain ⟨fsD, hDo⟩ := xMD_at hD
    refine x_callV hC kv_Law_283 (c_MessageCoderModel_commonLength (hD := hD) (hI := hI)) hDo rfl rfl (Nat.le_of_ble_eq_true rfl) rfl rfl rfl (Nat.le_of_ble_eq_true rfl) ⟨by omega, by omega⟩ d_Law_law_1909 (fun r9 Fm z9 hp9 => ?_)
    obtain ⟨rfl, h9c, j0, hag9⟩ := hp9
    rw [h9c]
    clear h9c z9
    have hM : xMC Fm (cm) (b) (M) := xMC_fr hM (fun a9 q1 q2 => hag9 a9 (by omega))
    have hD : xMD Fm (((b + 566))) ((if mOk M.1 (xs (3 * q + 1)) ∧ mOk M.1 (xs (3 * q + 2)) then 0 else 1)) (M) := j0
    have ho : Fm (b + 578) = some (.inr (2, 1, fun b9 => .long ((vp_updL g 0 (((nI (lcs (mAt M.1 (xs (3 * q + 1))).2.2.2 (mAt M.1 (xs (3 * q + 2))).2.2.2 (mAt M.1 (xs (3 * q + 1))).2.2.1 (mAt M.1 (xs (3 * q + 2))).2.2.1))).toInt64)) b9))) := (hag9 _ (by omega)).trans ho
    have hod : Fm (b + 579) = some (.inr (3, 1, fun b9 => .double (gd b9))) := (hag9 _ (by omega)).trans hod
    clear j0 hag9
    have hT : ((if mOk M.1 (xs (3 * q + 1)) ∧ mOk M.1 (xs (3 * q + 2)) then 0 else 1)) = 0 := if_pos ⟨p_0, p_1⟩
    rw [hT] at hD
    refine x_top (v := (nI (lcs (mAt M.1 (xs (3 * q + 1))).2.2.2 (mAt M.1 (xs (3 * q + 2))).2.2.2 (mAt M.1 (xs (3 * q + 1))).2.2.1 (mAt M.1 (xs (3 * q + 2))).2.2.1))) (congrArg nI (if_pos ⟨p_0, p_1⟩)) ?_
    refine x_istore hC d_Law_law_1912 (Nat.le_of_ble_eq_true rfl) (L1 := [some (.ref a), some (.ref b), some (.ref (b + 566)), some (.ref (b + 578)), some (.ref (b + 579)), some (.int (nI (3 * q))), some (.int (nI 0)), some (.int (nI (lcs (mAt M.1 (xs (3 * q + 1))).2.2.2 (mAt M.1 (xs (3 * q + 2))).2.2.2 (mAt M.1 (xs (3 * q + 1))).2.2.1 (mAt M.1 (xs (3 * q + 2))).2.2.1))), none, none]) rfl ?_
    refine x_aload_n hC d_Law_law_1914 rfl rfl ?_
    obtain ⟨fsD, hDo⟩ := xMD_at hD
    refine x_callV hC kv_Law_163 (c_thrownD hD) hDo rfl rfl (Nat.le_of_ble_eq_true rfl) rfl rfl rfl (Nat.le_of_ble_eq_true rfl) ⟨by omega, by omega⟩ d_Law_law_1915 (fun r9 F9 z9 hp9 => ?_)
    obtain ⟨rfl, h9b, h9c⟩ := hp9
    rw [h9b, h9c]
    clear h9b h9c F9 z9
    refine x_iload hC d_Law_law_1918 rfl ?_
    refine x_icmpN_eq hC d_Law_law_1920 (tgt := 1925) (by decide) (by omega) (by omega) (fun c_1920 => ?_) (fun c_1920 => ?_)
    · skip
      refine x_iload hC d_Law_law_1925 rfl ?_
      refine x_ifN_ne hC d_Law_law_1927 (tgt := 1942) (by decide) (by omega) (fun c_1927 => ?_) (fun c_1927 => ?_)
      · skip
        exact absurd c_1927 (by omega)
      · skip
        refine x_aload_n hC d_Law_law_1930 rfl rfl ?_
        refine x_iconst hC d_Law_law_1931 (v := nI 0) (by decide) ?_
        refine x_lald hC ho (j := 0) ⟨rfl, by decide, by decide⟩ (x := ((nI (lcs (mAt M.1 (xs (3 * q + 1))).2.2.2 (mAt M.1 (xs (3 * q + 2))).2.2.2 (mAt M.1 (xs (3 * q + 1))).2.2.1 (mAt M.1 (xs (3 * q + 2))).2.2.1))).toInt64) rfl d_Law_law_1932 ?_
        refine x_iload hC d_Law_law_1933 rfl ?_
        refine x_i2l hC d_Law_law_1935 rfl ?_
        refine x_lcmp hC d_Law_law_1936 ?_
        refine x_top (v := nI 0) (lg_self _) ?_
        refine x_ifN_eq hC d_Law_law_1937 (tgt := 1942) (by decide) (by omega) (fun c_1937 => ?_) (fun c_1937 => ?_)
        · skip
          refine x_goto hC d_Law_law_1942 (tgt := 2933) (by decide) ?_
          refine x_forget (L1 := [some (.ref a), some (.ref b), some (.ref (b + 566)), some (.ref (b + 578)), some (.ref (b + 579)), some (.int (nI (3 * q))), none, none, none, none]) ⟨Or.inr rfl, ⟨Or.inr rfl, ⟨Or.inr rfl, ⟨Or.inr rfl, ⟨Or.inr rfl, ⟨Or.inr rfl, ⟨Or.inl rfl, ⟨Or.inl rfl, ⟨Or.inl rfl, ⟨Or.inl rfl, trivial⟩⟩⟩⟩⟩⟩⟩⟩⟩⟩ ?_
          exact kk _ _ _ _ _ _ _ _ hM hD ho hod (lwJ_s hJ) (by omega) (by omega)
        · skip
          exact absurd c_1937 (by omega)
    · skip
      exact absurd c_1920 (by omega)
  · skip
    have hM : xMC Fw (cm) (b) (M) := hM9
    have hD : xMD Fw (b + 566) (th) (M) := xMD_fr hD (fun a9 q1 q2 => hag9 a9 (by omega) (by omega))
    have ho : Fw (b + 578) = some (.inr (2, 1, fun b9 => .long (g b9))) := ho9
    have hod : Fw (b + 579) = some (.inr (3, 1, fun b9 => .double (gd b9))) := (hag9 _ (by omega) (by omega)).trans hod
    clear hM9 ho9 hag9
    refine x_istore hC d_Law_law_1894 (Nat.le_of_ble_eq_true rfl) (L1 := [some (.ref a), some (.ref b), some (.ref (b + 566)), some (.ref (b + 578)), some (.ref (b + 579)), some (.int (nI (3 * q))), some (.int (nI 1)), none, none, none]) rfl ?_
    refine x_aload_n hC d_Law_law_1896 rfl rfl ?_
    refine x_aload_n hC d_Law_law_1897 rfl rfl ?_
    refine x_iload hC d_Law_law_1898 rfl ?_
    refine x_iconst hC d_Law_law_1900 (v := nI 1) (by decide) ?_
    refine x_iadd hC d_Law_law_1901 (v := (nI (3 * q + 1))) (x_addN (by omega)) ?_
    refine x_sld hC hX ha (j := 3 * q + 1) ⟨rfl, by omega, by omega⟩ d_Law_law_1902 ?_
    refine x_aload_n hC d_Law_law_1903 rfl rfl ?_
    refine x_iload hC d_Law_law_1904 rfl ?_
    refine x_iconst hC d_Law_law_1906 (v := nI 2) (by decide) ?_
    refine x_iadd hC d_Law_law_1907 (v := (nI (3 * q + 2))) (x_addN (by omega)) ?_
    refine x_sld hC hX ha (j := 3 * q + 2) ⟨rfl, by omega, by omega⟩ d_Law_law_1908 ?_
    obtain ⟨fsD, hDo⟩ := xMD_at hD
    refine x_callV hC kv_Law_283 (c_MessageCoderModel_commonLength (hD := hD) (hI := hI)) hDo rfl rfl (Nat.le_of_ble_eq_true rfl) rfl rfl rfl (Nat.le_of_ble_eq_true rfl) ⟨by omega, by omega⟩ d_Law_law_1909 (fun r9 Fm z9 hp9 => ?_)
    obtain ⟨rfl, h9c, j0, hag9⟩ := hp9
    rw [h9c]
    clear h9c z9
    have hM : xMC Fm (cm) (b) (M) := xMC_fr hM (fun a9 q1 q2 => hag9 a9 (by omega))
    have hD : xMD Fm (((b + 566))) ((if mOk M.1 (xs (3 * q + 1)) ∧ mOk M.1 (xs (3 * q + 2)) then 0 else 1)) (M) := j0
    have ho : Fm (b + 578) = some (.inr (2, 1, fun b9 => .long (g b9))) := (hag9 _ (by omega)).trans ho
    have hod : Fm (b + 579) = some (.inr (3, 1, fun b9 => .double (gd b9))) := (hag9 _ (by omega)).trans hod
    clear j0 hag9
    have hT : ((if mOk M.1 (xs (3 * q + 1)) ∧ mOk M.1 (xs (3 * q + 2)) then 0 else 1)) = 1 := if_neg hcond
    rw [hT] at hD
    refine x_istore hC d_Law_law_1912 (Nat.le_of_ble_eq_true rfl) (L1 := [some (.ref a), some (.ref b), some (.ref (b + 566)), some (.ref (b + 578)), some (.ref (b + 579)), some (.int (nI (3 * q))), some (.int (nI 1)), some (.int (nI (if mOk M.1 (xs (3 * q + 1)) ∧ mOk M.1 (xs (3 * q + 2)) then lcs (mAt M.1 (xs (3 * q + 1))).2.2.2 (mAt M.1 (xs (3 * q + 2))).2.2.2 (mAt M.1 (xs (3 * q + 1))).2.2.1 (mAt M.1 (xs (3 * q + 2))).2.2.1 else 0))), none, none]) rfl ?_
    refine x_aload_n hC d_Law_law_1914 rfl rfl ?_
    obtain ⟨fsD, hDo⟩ := xMD_at hD
    refine x_callV hC kv_Law_163 (c_thrownD hD) hDo rfl rfl (Nat.le_of_ble_eq_true rfl) rfl rfl rfl (Nat.le_of_ble_eq_true rfl) ⟨by omega, by omega⟩ d_Law_law_1915 (fun r9 F9 z9 hp9 => ?_)
    obtain ⟨rfl, h9b, h9c⟩ := hp9
    rw [h9b, h9c]
    clear h9b h9c F9 z9
    refine x_iload hC d_Law_law_1918 rfl ?_
    refine x_icmpN_eq hC d_Law_law_1920 (tgt := 1925) (by decide) (by omega) (by omega) (fun c_1920 => ?_) (fun c_1920 => ?_)
    · skip
      refine x_iload hC d_Law_law_1925 rfl ?_
      refine x_ifN_ne hC d_Law_law_1927 (tgt := 1942) (by decide) (by omega) (fun c_1927 => ?_) (fun c_1927 => ?_)
      · skip
        refine x_goto hC d_Law_law_1942 (tgt := 2933) (by decide) ?_
        refine x_forget (L1 := [some (.ref a), some (.ref b), some (.ref (b + 566)), some (.ref (b + 578)), some (.ref (b + 579)), some (.int (nI (3 * q))), none, none, none, none]) ⟨Or.inr rfl, ⟨Or.inr rfl, ⟨Or.inr rfl, ⟨Or.inr rfl, ⟨Or.inr rfl, ⟨Or.inr rfl, ⟨Or.inl rfl, ⟨Or.inl rfl, ⟨Or.inl rfl, ⟨Or.inl rfl, trivial⟩⟩⟩⟩⟩⟩⟩⟩⟩⟩ ?_
        exact kk _ _ _ _ _ _ _ _ hM hD ho hod (lwJ_s hJ) (by omega) (by omega)
      · skip
        exact absurd c_1927 (by omega)
    · skip
      exact absurd c_1920 (by omega)

set_option maxHeartbeats 4000000 in
set_option maxRecDepth 20000 in
theorem lc_35 {P : xP} {Θ : xT} {cm : cmT} {a N b sm rt q : Nat} {xs : Nat → Int32} (E : lwE P Θ cm a N b sm rt xs) {F : xF} {z k n th : Nat} {M : mcS} {g : Nat → Int64} {gd : Nat → UInt64} (hM : xMC F (cm) (b) (M)) (hD : xMD F (b + 566) (th) (M)) (ho : F (b + 578) = some (.inr (2, 1, fun b9 => .long (g b9)))) (hod : F (b + 579) = some (.inr (3, 1, fun b9 => .double (gd b9)))) (hJ : lwJ q M) (hq : 3 * q + 3 ≤ N) (hkn : k + 2 ≤ 603072 ∧ n + 12 ≤ 7207018) (kk : lwK P Θ cm a b q k n) : xX P Θ 1945 [some (.ref (a)), some (.ref (b)), some (.ref (b + 566)), some (.ref (b + 578)), some (.ref (b + 579)), some (.int (nI (3 * q))), none, none, none, none] [] F z k n := by
  obtain ⟨hC, hX, ha, hN, hCM, hSM, hSR, hZx, hNx⟩ := E
  obtain ⟨hI, hS, hpp⟩ := id hJ
  obtain ⟨hk9, hn9⟩ := hkn
  have hu8 : M.2.2.2.2.2.2.2.1 ≤ 8 := hI.2.2.2.1
  have hup0 : M.2.2.2.2.2.2.2.1 ≤ M.2.2.2.2.2.2.1 := hI.2.2.2.2.1
  have hsv0 : M.2.2.2.2.2.1 ≤ 1 := hI.2.2.2.2.2.1
  have hpp0 : M.2.2.2.2.2.2.1 < 100000 := by omega
  have hun0 : M.2.2.2.2.2.2.2.1 < 100000 := by omega
  obtain ⟨hb1, hb2, hb3⟩ := hS.1
  have hnx : M.1.2.2.1.2.1 < 999 := by omega
  have hn0 : M.1.2.2.1.2.1 + 1 < 1000 := by omega
  have hg0 : M.1.2.2.2.2.2.2.1 < 1000 := by omega
  have hf0 : M.1.2.2.2.2.2.2.2.2 < 1000 := by omega
  refine x_aload_n hC d_Law_law_1945 rfl rfl ?_
  obtain ⟨hMo, -⟩ := id hM
  refine x_callV hC kv_Law_284 (c_MessageCoder_hasFrame (hM := hM) ) hMo rfl rfl (Nat.le_of_ble_eq_true rfl) rfl rfl rfl (Nat.le_of_ble_eq_true rfl) ⟨by omega, by omega⟩ d_Law_law_1946 (fun r9 Fc z9 hp9 => ?_)
  obtain ⟨rfl, h9b, h9c⟩ := hp9
  rw [h9b, h9c]
  clear h9b h9c Fc z9
  refine x_aload_n hC d_Law_law_1949 rfl rfl ?_
  obtain ⟨fsD, hDo⟩ := xMD_at hD
  refine x_callV hC kv_Law_287 (c_MessageCoderModel_hasFrame (hD := hD) (hI := hI)) hDo rfl rfl (Nat.le_of_ble_eq_true rfl) rfl rfl rfl (Nat.le_of_ble_eq_true rfl) ⟨by omega, by omega⟩ d_Law_law_1950 (fun r9 Fm z9 hp9 => ?_)
  obtain ⟨rfl, h9c, j0, hag9⟩ := hp9
  rw [h9c]
  clear h9c z9
  have hM : xMC Fm (cm) (b) (M) := xMC_fr hM (fun a9 q1 q2 => hag9 a9 (by omega))
  have hD : xMD Fm (((b + 566))) (0) (M) := j0
  have ho : Fm (b + 578) = some (.inr (2, 1, fun b9 => .long (g b9))) := (hag9 _ (by omega)).trans ho
  have hod : Fm (b + 579) = some (.inr (3, 1, fun b9 => .double (gd b9))) := (hag9 _ (by omega)).trans hod
  clear j0 hag9
  refine x_icmp_eq hC d_Law_law_1953 (tgt := 2933) (by decide) (fun c_1953 => ?_) (fun c_1953 => ?_)
  · skip
    exact kk _ _ _ _ _ _ _ _ hM hD ho hod (lwJ_s hJ) (by omega) (by omega)
  · exact absurd rfl c_1953

set_option maxHeartbeats 4000000 in
set_option maxRecDepth 20000 in
theorem lc_36 {P : xP} {Θ : xT} {cm : cmT} {a N b sm rt q : Nat} {xs : Nat → Int32} (E : lwE P Θ cm a N b sm rt xs) {F : xF} {z k n th : Nat} {M : mcS} {g : Nat → Int64} {gd : Nat → UInt64} (hM : xMC F (cm) (b) (M)) (hD : xMD F (b + 566) (th) (M)) (ho : F (b + 578) = some (.inr (2, 1, fun b9 => .long (g b9)))) (hod : F (b + 579) = some (.inr (3, 1, fun b9 => .double (gd b9)))) (hJ : lwJ q M) (hq : 3 * q + 3 ≤ N) (hkn : k + 2 ≤ 603072 ∧ n + 12 ≤ 7207018) (kk : lwK P Θ cm a b q k n) : xX P Θ 1958 [some (.ref (a)), some (.ref (b)), some (.ref (b + 566)), some (.ref (b + 578)), some (.ref (b + 579)), some (.int (nI (3 * q))), none, none, none, none] [] F z k n := by
  obtain ⟨hC, hX, ha, hN, hCM, hSM, hSR, hZx, hNx⟩ := E
  obtain ⟨hI, hS, hpp⟩ := id hJ
  obtain ⟨hk9, hn9⟩ := hkn
  have hu8 : M.2.2.2.2.2.2.2.1 ≤ 8 := hI.2.2.2.1
  have hup0 : M.2.2.2.2.2.2.2.1 ≤ M.2.2.2.2.2.2.1 := hI.2.2.2.2.1
  have hsv0 : M.2.2.2.2.2.1 ≤ 1 := hI.2.2.2.2.2.1
  have hpp0 : M.2.2.2.2.2.2.1 < 100000 := by omega
  have hun0 : M.2.2.2.2.2.2.2.1 < 100000 := by omega
  obtain ⟨hb1, hb2, hb3⟩ := hS.1
  have hnx : M.1.2.2.1.2.1 < 999 := by omega
  have hn0 : M.1.2.2.1.2.1 + 1 < 1000 := by omega
  have hg0 : M.1.2.2.2.2.2.2.1 < 1000 := by omega
  have hf0 : M.1.2.2.2.2.2.2.2.2 < 1000 := by omega
  refine x_aload_n hC d_Law_law_1958 rfl rfl ?_
  obtain ⟨hMo, -⟩ := id hM
  refine x_callV hC kv_Law_288 (c_MessageCoder_frameLength (hM := hM) ) hMo rfl rfl (Nat.le_of_ble_eq_true rfl) rfl rfl rfl (Nat.le_of_ble_eq_true rfl) ⟨by omega, by omega⟩ d_Law_law_1959 (fun r9 Fc z9 hp9 => ?_)
  obtain ⟨rfl, h9b, h9c⟩ := hp9
  rw [h9b, h9c]
  clear h9b h9c Fc z9
  refine x_aload_n hC d_Law_law_1962 rfl rfl ?_
  obtain ⟨fsD, hDo⟩ := xMD_at hD
  refine x_callV hC kv_Law_291 (c_MessageCoderModel_frameLength (hD := hD) (hI := hI)) hDo rfl rfl (Nat.le_of_ble_eq_true rfl) rfl rfl rfl (Nat.le_of_ble_eq_true rfl) ⟨by omega, by omega⟩ d_Law_law_1963 (fun r9 Fm z9 hp9 => ?_)
  obtain ⟨rfl, h9c, j0, hag9⟩ := hp9
  rw [h9c]
  clear h9c z9
  have hM : xMC Fm (cm) (b) (M) := xMC_fr hM (fun a9 q1 q2 => hag9 a9 (by omega))
  have hD : xMD Fm (((b + 566))) (0) (M) := j0
  have ho : Fm (b + 578) = some (.inr (2, 1, fun b9 => .long (g b9))) := (hag9 _ (by omega)).trans ho
  have hod : Fm (b + 579) = some (.inr (3, 1, fun b9 => .double (gd b9))) := (hag9 _ (by omega)).trans hod
  clear j0 hag9
  refine x_icmp_eq hC d_Law_law_1966 (tgt := 2933) (by decide) (fun c_1966 => ?_) (fun c_1966 => ?_)
  · skip
    exact kk _ _ _ _ _ _ _ _ hM hD ho hod (lwJ_s hJ) (by omega) (by omega)
  · exact absurd rfl c_1966

set_option maxHeartbeats 4000000 in
set_option maxRecDepth 20000 in
theorem lc_37 {P : xP} {Θ : xT} {cm : cmT} {a N b sm rt q : Nat} {xs : Nat → Int32} (E : lwE P Θ cm a N b sm rt xs) {F : xF} {z k n th : Nat} {M : mcS} {g : Nat → Int64} {gd : Nat → UInt64} (hM : xMC F (cm) (b) (M)) (hD : xMD F (b + 566) (th) (M)) (ho : F (b + 578) = some (.inr (2, 1, fun b9 => .long (g b9)))) (hod : F (b + 579) = some (.inr (3, 1, fun b9 => .double (gd b9)))) (hJ : lwJ q M) (hq : 3 * q + 3 ≤ N) (hkn : k + 2 ≤ 603072 ∧ n + 12 ≤ 7207018) (kk : lwK P Θ cm a b q k n) : xX P Θ 1971 [some (.ref (a)), some (.ref (b)), some (.ref (b + 566)), some (.ref (b + 578)), some (.ref (b + 579)), some (.int (nI (3 * q))), none, none, none, none] [] F z k n := by
  obtain ⟨hC, hX, ha, hN, hCM, hSM, hSR, hZx, hNx⟩ := E
  obtain ⟨hI, hS, hpp⟩ := id hJ
  obtain ⟨hk9, hn9⟩ := hkn
  have hu8 : M.2.2.2.2.2.2.2.1 ≤ 8 := hI.2.2.2.1
  have hup0 : M.2.2.2.2.2.2.2.1 ≤ M.2.2.2.2.2.2.1 := hI.2.2.2.2.1
  have hsv0 : M.2.2.2.2.2.1 ≤ 1 := hI.2.2.2.2.2.1
  have hpp0 : M.2.2.2.2.2.2.1 < 100000 := by omega
  have hun0 : M.2.2.2.2.2.2.2.1 < 100000 := by omega
  obtain ⟨hb1, hb2, hb3⟩ := hS.1
  have hnx : M.1.2.2.1.2.1 < 999 := by omega
  have hn0 : M.1.2.2.1.2.1 + 1 < 1000 := by omega
  have hg0 : M.1.2.2.2.2.2.2.1 < 1000 := by omega
  have hf0 : M.1.2.2.2.2.2.2.2.2 < 1000 := by omega
  refine x_aload_n hC d_Law_law_1971 rfl rfl ?_
  refine x_aload_n hC d_Law_law_1972 rfl rfl ?_
  refine x_iload hC d_Law_law_1973 rfl ?_
  refine x_iconst hC d_Law_law_1975 (v := nI 1) (by decide) ?_
  refine x_iadd hC d_Law_law_1976 (v := (nI (3 * q + 1))) (x_addN (by omega)) ?_
  refine x_sld hC hX ha (j := 3 * q + 1) ⟨rfl, by omega, by omega⟩ d_Law_law_1977 ?_
  refine x_aload_n hC d_Law_law_1978 rfl rfl ?_
  refine x_callW hC kw_Law_292 (c_Law_frameBit (hM := hM) (ho := ho) (hZx := hZx) (hNx := hNx) (hbo := Or.inr (by omega))) (Nat.le_of_ble_eq_true rfl) rfl rfl rfl (Nat.le_of_ble_eq_true rfl) ⟨by omega, by omega⟩ d_Law_law_1979 (fun r9 Fw zw hp9 => ?_)
  rcases hp9 with ⟨rfl, hM9, ho9, p_0, hag9⟩ | ⟨rfl, hM9, ho9, hcond, hag9⟩
  · skip
    have hM : xMC Fw (cm) (b) (M) := hM9
    have hD : xMD Fw (b + 566) (th) (M) := xMD_fr hD (fun a9 q1 q2 => hag9 a9 (by omega) (by omega))
    have ho : Fw (b + 578) = some (.inr (2, 1, fun b9 => .long ((vp_updL g 0 (((nI (bitP (M.1.2.2.2.1.2.1 ((xs (3 * q + 1)).toNatClampNeg / 7)) ((xs (3 * q + 1)).toNatClampNeg % 7 + 1)))).toInt64)) b9))) := ho9
    have hod : Fw (b + 579) = some (.inr (3, 1, fun b9 => .double (gd b9))) := (hag9 _ (by omega) (by omega)).trans hod
    clear hM9 ho9 hag9
    refine x_istore hC d_Law_law_1982 (Nat.le_of_ble_eq_true rfl) (L1 := [some (.ref a), some (.ref b), some (.ref (b + 566)), some (.ref (b + 578)), some (.ref (b + 579)), some (.int (nI (3 * q))), some (.int (nI 0)), none, none, none]) rfl ?_
    refine x_aload_n hC d_Law_law_1984 rfl rfl ?_
    refine x_aload_n hC d_Law_law_1985 rfl rfl ?_
    refine x_iload hC d_Law_law_1986 rfl ?_
    refine x_iconst hC d_Law_law_1988 (v := nI 1) (by decide) ?_
    refine x_iadd hC d_Law_law_1989 (v := (nI (3 * q + 1))) (x_addN (by omega)) ?_
    refine x_sld hC hX ha (j := 3 * q + 1) ⟨rfl, by omega, by omega⟩ d_Law_law_1990 ?_
    obtain ⟨fsD, hDo⟩ := xMD_at hD
    refine x_callV hC kv_Law_294 (c_MessageCoderModel_frameBit (hD := hD) (hI := hI)) hDo rfl rfl (Nat.le_of_ble_eq_true rfl) rfl rfl rfl (Nat.le_of_ble_eq_true rfl) ⟨by omega, by omega⟩ d_Law_law_1991 (fun r9 Fm z9 hp9 => ?_)
    obtain ⟨rfl, h9c, j0, hag9⟩ := hp9
    rw [h9c]
    clear h9c z9
    have hM : xMC Fm (cm) (b) (M) := xMC_fr hM (fun a9 q1 q2 => hag9 a9 (by omega))
    have hD : xMD Fm (((b + 566))) ((if 0 ≤ (xs (3 * q + 1)) ∧ (xs (3 * q + 1)) < nI (M.1.2.2.2.1.1 * 7) then 0 else 1)) (M) := j0
    have ho : Fm (b + 578) = some (.inr (2, 1, fun b9 => .long ((vp_updL g 0 (((nI (bitP (M.1.2.2.2.1.2.1 ((xs (3 * q + 1)).toNatClampNeg / 7)) ((xs (3 * q + 1)).toNatClampNeg % 7 + 1)))).toInt64)) b9))) := (hag9 _ (by omega)).trans ho
    have hod : Fm (b + 579) = some (.inr (3, 1, fun b9 => .double (gd b9))) := (hag9 _ (by omega)).trans hod
    clear j0 hag9
    have hT : ((if 0 ≤ (xs (3 * q + 1)) ∧ (xs (3 * q + 1)) < nI (M.1.2.2.2.1.1 * 7) then 0 else 1)) = 0 := if_pos p_0
    rw [hT] at hD
    refine x_top (v := (nI (bitP (M.1.2.2.2.1.2.1 ((xs (3 * q + 1)).toNatClampNeg / 7)) ((xs (3 * q + 1)).toNatClampNeg % 7 + 1)))) (congrArg nI (if_pos p_0)) ?_
    refine x_istore hC d_Law_law_1994 (Nat.le_of_ble_eq_true rfl) (L1 := [some (.ref a), some (.ref b), some (.ref (b + 566)), some (.ref (b + 578)), some (.ref (b + 579)), some (.int (nI (3 * q))), some (.int (nI 0)), some (.int (nI (bitP (M.1.2.2.2.1.2.1 ((xs (3 * q + 1)).toNatClampNeg / 7)) ((xs (3 * q + 1)).toNatClampNeg % 7 + 1)))), none, none]) rfl ?_
    refine x_aload_n hC d_Law_law_1996 rfl rfl ?_
    obtain ⟨fsD, hDo⟩ := xMD_at hD
    refine x_callV hC kv_Law_163 (c_thrownD hD) hDo rfl rfl (Nat.le_of_ble_eq_true rfl) rfl rfl rfl (Nat.le_of_ble_eq_true rfl) ⟨by omega, by omega⟩ d_Law_law_1997 (fun r9 F9 z9 hp9 => ?_)
    obtain ⟨rfl, h9b, h9c⟩ := hp9
    rw [h9b, h9c]
    clear h9b h9c F9 z9
    refine x_iload hC d_Law_law_2000 rfl ?_
    refine x_icmpN_eq hC d_Law_law_2002 (tgt := 2007) (by decide) (by omega) (by omega) (fun c_2002 => ?_) (fun c_2002 => ?_)
    · skip
      refine x_iload hC d_Law_law_2007 rfl ?_
      refine x_ifN_ne hC d_Law_law_2009 (tgt := 2024) (by decide) (by omega) (fun c_2009 => ?_) (fun c_2009 => ?_)
      · skip
        exact absurd c_2009 (by omega)
      · skip
        refine x_aload_n hC d_Law_law_2012 rfl rfl ?_
        refine x_iconst hC d_Law_law_2013 (v := nI 0) (by decide) ?_
        refine x_lald hC ho (j := 0) ⟨rfl, by decide, by decide⟩ (x := ((nI (bitP (M.1.2.2.2.1.2.1 ((xs (3 * q + 1)).toNatClampNeg / 7)) ((xs (3 * q + 1)).toNatClampNeg % 7 + 1)))).toInt64) rfl d_Law_law_2014 ?_
        refine x_iload hC d_Law_law_2015 rfl ?_
        refine x_i2l hC d_Law_law_2017 rfl ?_
        refine x_lcmp hC d_Law_law_2018 ?_
        refine x_top (v := nI 0) (lg_self _) ?_
        refine x_ifN_eq hC d_Law_law_2019 (tgt := 2024) (by decide) (by omega) (fun c_2019 => ?_) (fun c_2019 => ?_)
        · skip
          refine x_goto hC d_Law_law_2024 (tgt := 2933) (by decide) ?_
          refine x_forget (L1 := [some (.ref a), some (.ref b), some (.ref (b + 566)), some (.ref (b + 578)), some (.ref (b + 579)), some (.int (nI (3 * q))), none, none, none, none]) ⟨Or.inr rfl, ⟨Or.inr rfl, ⟨Or.inr rfl, ⟨Or.inr rfl, ⟨Or.inr rfl, ⟨Or.inr rfl, ⟨Or.inl rfl, ⟨Or.inl rfl, ⟨Or.inl rfl, ⟨Or.inl rfl, trivial⟩⟩⟩⟩⟩⟩⟩⟩⟩⟩ ?_
          exact kk _ _ _ _ _ _ _ _ hM hD ho hod (lwJ_s hJ) (by omega) (by omega)
        · skip
          exact absurd c_2019 (by omega)
    · skip
      exact absurd c_2002 (by omega)
  · skip
    have hM : xMC Fw (cm) (b) (M) := hM9
    have hD : xMD Fw (b + 566) (th) (M) := xMD_fr hD (fun a9 q1 q2 => hag9 a9 (by omega) (by omega))
    have ho : Fw (b + 578) = some (.inr (2, 1, fun b9 => .long (g b9))) := ho9
    have hod : Fw (b + 579) = some (.inr (3, 1, fun b9 => .double (gd b9))) := (hag9 _ (by omega) (by omega)).trans hod
    clear hM9 ho9 hag9
    refine x_istore hC d_Law_law_1982 (Nat.le_of_ble_eq_true rfl) (L1 := [some (.ref a), some (.ref b), some (.ref (b + 566)), some (.ref (b + 578)), some (.ref (b + 579)), some (.int (nI (3 * q))), some (.int (nI 1)), none, none, none]) rfl ?_
    refine x_aload_n hC d_Law_law_1984 rfl rfl ?_
    refine x_aload_n hC d_Law_law_1985 rfl rfl ?_
    refine x_iload hC d_Law_law_1986 rfl ?_
    refine x_iconst hC d_Law_law_1988 (v := nI 1) (by decide) ?_
    refine x_iadd hC d_Law_law_1989 (v := (nI (3 * q + 1))) (x_addN (by omega)) ?_
    refine x_sld hC hX ha (j := 3 * q + 1) ⟨rfl, by omega, by omega⟩ d_Law_law_1990 ?_
    obtain ⟨fsD, hDo⟩ := xMD_at hD
    refine x_callV hC kv_Law_294 (c_MessageCoderModel_frameBit (hD := hD) (hI := hI)) hDo rfl rfl (Nat.le_of_ble_eq_true rfl) rfl rfl rfl (Nat.le_of_ble_eq_true rfl) ⟨by omega, by omega⟩ d_Law_law_1991 (fun r9 Fm z9 hp9 => ?_)
    obtain ⟨rfl, h9c, j0, hag9⟩ := hp9
    rw [h9c]
    clear h9c z9
    have hM : xMC Fm (cm) (b) (M) := xMC_fr hM (fun a9 q1 q2 => hag9 a9 (by omega))
    have hD : xMD Fm (((b + 566))) ((if 0 ≤ (xs (3 * q + 1)) ∧ (xs (3 * q + 1)) < nI (M.1.2.2.2.1.1 * 7) then 0 else 1)) (M) := j0
    have ho : Fm (b + 578) = some (.inr (2, 1, fun b9 => .long (g b9))) := (hag9 _ (by omega)).trans ho
    have hod : Fm (b + 579) = some (.inr (3, 1, fun b9 => .double (gd b9))) := (hag9 _ (by omega)).trans hod
    clear j0 hag9
    have hT : ((if 0 ≤ (xs (3 * q + 1)) ∧ (xs (3 * q + 1)) < nI (M.1.2.2.2.1.1 * 7) then 0 else 1)) = 1 := if_neg hcond
    rw [hT] at hD
    refine x_istore hC d_Law_law_1994 (Nat.le_of_ble_eq_true rfl) (L1 := [some (.ref a), some (.ref b), some (.ref (b + 566)), some (.ref (b + 578)), some (.ref (b + 579)), some (.int (nI (3 * q))), some (.int (nI 1)), some (.int (nI (if 0 ≤ (xs (3 * q + 1)) ∧ (xs (3 * q + 1)) < nI (M.1.2.2.2.1.1 * 7) then bitP (M.1.2.2.2.1.2.1 ((xs (3 * q + 1)).toNatClampNeg / 7)) ((xs (3 * q + 1)).toNatClampNeg % 7 + 1) else 0))), none, none]) rfl ?_
    refine x_aload_n hC d_Law_law_1996 rfl rfl ?_
    obtain ⟨fsD, hDo⟩ := xMD_at hD
    refine x_callV hC kv_Law_163 (c_thrownD hD) hDo rfl rfl (Nat.le_of_ble_eq_true rfl) rfl rfl rfl (Nat.le_of_ble_eq_true rfl) ⟨by omega, by omega⟩ d_Law_law_1997 (fun r9 F9 z9 hp9 => ?_)
    obtain ⟨rfl, h9b, h9c⟩ := hp9
    rw [h9b, h9c]
    clear h9b h9c F9 z9
    refine x_iload hC d_Law_law_2000 rfl ?_
    refine x_icmpN_eq hC d_Law_law_2002 (tgt := 2007) (by decide) (by omega) (by omega) (fun c_2002 => ?_) (fun c_2002 => ?_)
    · skip
      refine x_iload hC d_Law_law_2007 rfl ?_
      refine x_ifN_ne hC d_Law_law_2009 (tgt := 2024) (by decide) (by omega) (fun c_2009 => ?_) (fun c_2009 => ?_)
      · skip
        refine x_goto hC d_Law_law_2024 (tgt := 2933) (by decide) ?_
        refine x_forget (L1 := [some (.ref a), some (.ref b), some (.ref (b + 566)), some (.ref (b + 578)), some (.ref (b + 579)), some (.int (nI (3 * q))), none, none, none, none]) ⟨Or.inr rfl, ⟨Or.inr rfl, ⟨Or.inr rfl, ⟨Or.inr rfl, ⟨Or.inr rfl, ⟨Or.inr rfl, ⟨Or.inl rfl, ⟨Or.inl rfl, ⟨Or.inl rfl, ⟨Or.inl rfl, trivial⟩⟩⟩⟩⟩⟩⟩⟩⟩⟩ ?_
        exact kk _ _ _ _ _ _ _ _ hM hD ho hod (lwJ_s hJ) (by omega) (by omega)
      · skip
        exact absurd c_2009 (by omega)
    · skip
      exact absurd c_2002 (by omega)

set_option maxHeartbeats 4000000 in
set_option maxRecDepth 20000 in
theorem lc_38 {P : xP} {Θ : xT} {cm : cmT} {a N b sm rt q : Nat} {xs : Nat → Int32} (E : lwE P Θ cm a N b sm rt xs) {F : xF} {z k n th : Nat} {M : mcS} {g : Nat → Int64} {gd : Nat → UInt64} (hM : xMC F (cm) (b) (M)) (hD : xMD F (b + 566) (th) (M)) (ho : F (b + 578) = some (.inr (2, 1, fun b9 => .long (g b9)))) (hod : F (b + 579) = some (.inr (3, 1, fun b9 => .double (gd b9)))) (hJ : lwJ q M) (hq : 3 * q + 3 ≤ N) (hkn : k + 2 ≤ 603072 ∧ n + 12 ≤ 7207018) (kk : lwK P Θ cm a b q k n) : xX P Θ 2027 [some (.ref (a)), some (.ref (b)), some (.ref (b + 566)), some (.ref (b + 578)), some (.ref (b + 579)), some (.int (nI (3 * q))), none, none, none, none] [] F z k n := by
  obtain ⟨hC, hX, ha, hN, hCM, hSM, hSR, hZx, hNx⟩ := E
  obtain ⟨hI, hS, hpp⟩ := id hJ
  obtain ⟨hk9, hn9⟩ := hkn
  have hu8 : M.2.2.2.2.2.2.2.1 ≤ 8 := hI.2.2.2.1
  have hup0 : M.2.2.2.2.2.2.2.1 ≤ M.2.2.2.2.2.2.1 := hI.2.2.2.2.1
  have hsv0 : M.2.2.2.2.2.1 ≤ 1 := hI.2.2.2.2.2.1
  have hpp0 : M.2.2.2.2.2.2.1 < 100000 := by omega
  have hun0 : M.2.2.2.2.2.2.2.1 < 100000 := by omega
  obtain ⟨hb1, hb2, hb3⟩ := hS.1
  have hnx : M.1.2.2.1.2.1 < 999 := by omega
  have hn0 : M.1.2.2.1.2.1 + 1 < 1000 := by omega
  have hg0 : M.1.2.2.2.2.2.2.1 < 1000 := by omega
  have hf0 : M.1.2.2.2.2.2.2.2.2 < 1000 := by omega
  refine x_aload_n hC d_Law_law_2027 rfl rfl ?_
  refine x_aload_n hC d_Law_law_2028 rfl rfl ?_
  refine x_iload hC d_Law_law_2029 rfl ?_
  refine x_iconst hC d_Law_law_2031 (v := nI 1) (by decide) ?_
  refine x_iadd hC d_Law_law_2032 (v := (nI (3 * q + 1))) (x_addN (by omega)) ?_
  refine x_sld hC hX ha (j := 3 * q + 1) ⟨rfl, by omega, by omega⟩ d_Law_law_2033 ?_
  refine x_aload_n hC d_Law_law_2034 rfl rfl ?_
  refine x_callW hC kw_Law_295 (c_Law_syndrome (hM := hM) (ho := ho) (hZx := hZx) (hNx := hNx) (hbo := Or.inr (by omega))) (Nat.le_of_ble_eq_true rfl) rfl rfl rfl (Nat.le_of_ble_eq_true rfl) ⟨by omega, by omega⟩ d_Law_law_2035 (fun r9 Fw zw hp9 => ?_)
  rcases hp9 with ⟨rfl, hM9, ho9, p_0, hag9⟩ | ⟨rfl, hM9, ho9, hcond, hag9⟩
  · skip
    have hM : xMC Fw (cm) (b) (M) := hM9
    have hD : xMD Fw (b + 566) (th) (M) := xMD_fr hD (fun a9 q1 q2 => hag9 a9 (by omega) (by omega))
    have ho : Fw (b + 578) = some (.inr (2, 1, fun b9 => .long ((vp_updL g 0 (((nI (syn (M.1.2.2.2.1.2.1 (xs (3 * q + 1)).toNatClampNeg)))).toInt64)) b9))) := ho9
    have hod : Fw (b + 579) = some (.inr (3, 1, fun b9 => .double (gd b9))) := (hag9 _ (by omega) (by omega)).trans hod
    clear hM9 ho9 hag9
    refine x_istore hC d_Law_law_2038 (Nat.le_of_ble_eq_true rfl) (L1 := [some (.ref a), some (.ref b), some (.ref (b + 566)), some (.ref (b + 578)), some (.ref (b + 579)), some (.int (nI (3 * q))), some (.int (nI 0)), none, none, none]) rfl ?_
    refine x_aload_n hC d_Law_law_2040 rfl rfl ?_
    refine x_aload_n hC d_Law_law_2041 rfl rfl ?_
    refine x_iload hC d_Law_law_2042 rfl ?_
    refine x_iconst hC d_Law_law_2044 (v := nI 1) (by decide) ?_
    refine x_iadd hC d_Law_law_2045 (v := (nI (3 * q + 1))) (x_addN (by omega)) ?_
    refine x_sld hC hX ha (j := 3 * q + 1) ⟨rfl, by omega, by omega⟩ d_Law_law_2046 ?_
    obtain ⟨fsD, hDo⟩ := xMD_at hD
    refine x_callV hC kv_Law_297 (c_MessageCoderModel_syndrome (hD := hD) (hI := hI)) hDo rfl rfl (Nat.le_of_ble_eq_true rfl) rfl rfl rfl (Nat.le_of_ble_eq_true rfl) ⟨by omega, by omega⟩ d_Law_law_2047 (fun r9 Fm z9 hp9 => ?_)
    obtain ⟨rfl, h9c, j0, hag9⟩ := hp9
    rw [h9c]
    clear h9c z9
    have hM : xMC Fm (cm) (b) (M) := xMC_fr hM (fun a9 q1 q2 => hag9 a9 (by omega))
    have hD : xMD Fm (((b + 566))) ((if 0 ≤ (xs (3 * q + 1)) ∧ (xs (3 * q + 1)) < nI M.1.2.2.2.1.1 then 0 else 1)) (M) := j0
    have ho : Fm (b + 578) = some (.inr (2, 1, fun b9 => .long ((vp_updL g 0 (((nI (syn (M.1.2.2.2.1.2.1 (xs (3 * q + 1)).toNatClampNeg)))).toInt64)) b9))) := (hag9 _ (by omega)).trans ho
    have hod : Fm (b + 579) = some (.inr (3, 1, fun b9 => .double (gd b9))) := (hag9 _ (by omega)).trans hod
    clear j0 hag9
    have hT : ((if 0 ≤ (xs (3 * q + 1)) ∧ (xs (3 * q + 1)) < nI M.1.2.2.2.1.1 then 0 else 1)) = 0 := if_pos p_0
    rw [hT] at hD
    refine x_top (v := (nI (syn (M.1.2.2.2.1.2.1 (xs (3 * q + 1)).toNatClampNeg)))) (congrArg nI (if_pos p_0)) ?_
    refine x_istore hC d_Law_law_2050 (Nat.le_of_ble_eq_true rfl) (L1 := [some (.ref a), some (.ref b), some (.ref (b + 566)), some (.ref (b + 578)), some (.ref (b + 579)), some (.int (nI (3 * q))), some (.int (nI 0)), some (.int (nI (syn (M.1.2.2.2.1.2.1 (xs (3 * q + 1)).toNatClampNeg)))), none, none]) rfl ?_
    refine x_aload_n hC d_Law_law_2052 rfl rfl ?_
    obtain ⟨fsD, hDo⟩ := xMD_at hD
    refine x_callV hC kv_Law_163 (c_thrownD hD) hDo rfl rfl (Nat.le_of_ble_eq_true rfl) rfl rfl rfl (Nat.le_of_ble_eq_true rfl) ⟨by omega, by omega⟩ d_Law_law_2053 (fun r9 F9 z9 hp9 => ?_)
    obtain ⟨rfl, h9b, h9c⟩ := hp9
    rw [h9b, h9c]
    clear h9b h9c F9 z9
    refine x_iload hC d_Law_law_2056 rfl ?_
    refine x_icmpN_eq hC d_Law_law_2058 (tgt := 2063) (by decide) (by omega) (by omega) (fun c_2058 => ?_) (fun c_2058 => ?_)
    · skip
      refine x_iload hC d_Law_law_2063 rfl ?_
      refine x_ifN_ne hC d_Law_law_2065 (tgt := 2080) (by decide) (by omega) (fun c_2065 => ?_) (fun c_2065 => ?_)
      · skip
        exact absurd c_2065 (by omega)
      · skip
        refine x_aload_n hC d_Law_law_2068 rfl rfl ?_
        refine x_iconst hC d_Law_law_2069 (v := nI 0) (by decide) ?_
        refine x_lald hC ho (j := 0) ⟨rfl, by decide, by decide⟩ (x := ((nI (syn (M.1.2.2.2.1.2.1 (xs (3 * q + 1)).toNatClampNeg)))).toInt64) rfl d_Law_law_2070 ?_
        refine x_iload hC d_Law_law_2071 rfl ?_
        refine x_i2l hC d_Law_law_2073 rfl ?_
        refine x_lcmp hC d_Law_law_2074 ?_
        refine x_top (v := nI 0) (lg_self _) ?_
        refine x_ifN_eq hC d_Law_law_2075 (tgt := 2080) (by decide) (by omega) (fun c_2075 => ?_) (fun c_2075 => ?_)
        · skip
          refine x_goto hC d_Law_law_2080 (tgt := 2933) (by decide) ?_
          refine x_forget (L1 := [some (.ref a), some (.ref b), some (.ref (b + 566)), some (.ref (b + 578)), some (.ref (b + 579)), some (.int (nI (3 * q))), none, none, none, none]) ⟨Or.inr rfl, ⟨Or.inr rfl, ⟨Or.inr rfl, ⟨Or.inr rfl, ⟨Or.inr rfl, ⟨Or.inr rfl, ⟨Or.inl rfl, ⟨Or.inl rfl, ⟨Or.inl rfl, ⟨Or.inl rfl, trivial⟩⟩⟩⟩⟩⟩⟩⟩⟩⟩ ?_
          exact kk _ _ _ _ _ _ _ _ hM hD ho hod (lwJ_s hJ) (by omega) (by omega)
        · skip
          exact absurd c_2075 (by omega)
    · skip
      exact absurd c_2058 (by omega)
  · skip
    have hM : xMC Fw (cm) (b) (M) := hM9
    have hD : xMD Fw (b + 566) (th) (M) := xMD_fr hD (fun a9 q1 q2 => hag9 a9 (by omega) (by omega))
    have ho : Fw (b + 578) = some (.inr (2, 1, fun b9 => .long (g b9))) := ho9
    have hod : Fw (b + 579) = some (.inr (3, 1, fun b9 => .double (gd b9))) := (hag9 _ (by omega) (by omega)).trans hod
    clear hM9 ho9 hag9
    refine x_istore hC d_Law_law_2038 (Nat.le_of_ble_eq_true rfl) (L1 := [some (.ref a), some (.ref b), some (.ref (b + 566)), some (.ref (b + 578)), some (.ref (b + 579)), some (.int (nI (3 * q))), some (.int (nI 1)), none, none, none]) rfl ?_
    refine x_aload_n hC d_Law_law_2040 rfl rfl ?_
    refine x_aload_n hC d_Law_law_2041 rfl rfl ?_
    refine x_iload hC d_Law_law_2042 rfl ?_
    refine x_iconst hC d_Law_law_2044 (v := nI 1) (by decide) ?_
    refine x_iadd hC d_Law_law_2045 (v := (nI (3 * q + 1))) (x_addN (by omega)) ?_
    refine x_sld hC hX ha (j := 3 * q + 1) ⟨rfl, by omega, by omega⟩ d_Law_law_2046 ?_
    obtain ⟨fsD, hDo⟩ := xMD_at hD
    refine x_callV hC kv_Law_297 (c_MessageCoderModel_syndrome (hD := hD) (hI := hI)) hDo rfl rfl (Nat.le_of_ble_eq_true rfl) rfl rfl rfl (Nat.le_of_ble_eq_true rfl) ⟨by omega, by omega⟩ d_Law_law_2047 (fun r9 Fm z9 hp9 => ?_)
    obtain ⟨rfl, h9c, j0, hag9⟩ := hp9
    rw [h9c]
    clear h9c z9
    have hM : xMC Fm (cm) (b) (M) := xMC_fr hM (fun a9 q1 q2 => hag9 a9 (by omega))
    have hD : xMD Fm (((b + 566))) ((if 0 ≤ (xs (3 * q + 1)) ∧ (xs (3 * q + 1)) < nI M.1.2.2.2.1.1 then 0 else 1)) (M) := j0
    have ho : Fm (b + 578) = some (.inr (2, 1, fun b9 => .long (g b9))) := (hag9 _ (by omega)).trans ho
    have hod : Fm (b + 579) = some (.inr (3, 1, fun b9 => .double (gd b9))) := (hag9 _ (by omega)).trans hod
    clear j0 hag9
    have hT : ((if 0 ≤ (xs (3 * q + 1)) ∧ (xs (3 * q + 1)) < nI M.1.2.2.2.1.1 then 0 else 1)) = 1 := if_neg hcond
    rw [hT] at hD
    refine x_istore hC d_Law_law_2050 (Nat.le_of_ble_eq_true rfl) (L1 := [some (.ref a), some (.ref b), some (.ref (b + 566)), some (.ref (b + 578)), some (.ref (b + 579)), some (.int (nI (3 * q))), some (.int (nI 1)), some (.int (nI (if 0 ≤ (xs (3 * q + 1)) ∧ (xs (3 * q + 1)) < nI M.1.2.2.2.1.1 then syn (M.1.2.2.2.1.2.1 (xs (3 * q + 1)).toNatClampNeg) else 0))), none, none]) rfl ?_
    refine x_aload_n hC d_Law_law_2052 rfl rfl ?_
    obtain ⟨fsD, hDo⟩ := xMD_at hD
    refine x_callV hC kv_Law_163 (c_thrownD hD) hDo rfl rfl (Nat.le_of_ble_eq_true rfl) rfl rfl rfl (Nat.le_of_ble_eq_true rfl) ⟨by omega, by omega⟩ d_Law_law_2053 (fun r9 F9 z9 hp9 => ?_)
    obtain ⟨rfl, h9b, h9c⟩ := hp9
    rw [h9b, h9c]
    clear h9b h9c F9 z9
    refine x_iload hC d_Law_law_2056 rfl ?_
    refine x_icmpN_eq hC d_Law_law_2058 (tgt := 2063) (by decide) (by omega) (by omega) (fun c_2058 => ?_) (fun c_2058 => ?_)
    · skip
      refine x_iload hC d_Law_law_2063 rfl ?_
      refine x_ifN_ne hC d_Law_law_2065 (tgt := 2080) (by decide) (by omega) (fun c_2065 => ?_) (fun c_2065 => ?_)
      · skip
        refine x_goto hC d_Law_law_2080 (tgt := 2933) (by decide) ?_
        refine x_forget (L1 := [some (.ref a), some (.ref b), some (.ref (b + 566)), some (.ref (b + 578)), some (.ref (b + 579)), some (.int (nI (3 * q))), none, none, none, none]) ⟨Or.inr rfl, ⟨Or.inr rfl, ⟨Or.inr rfl, ⟨Or.inr rfl, ⟨Or.inr rfl, ⟨Or.inr rfl, ⟨Or.inl rfl, ⟨Or.inl rfl, ⟨Or.inl rfl, ⟨Or.inl rfl, trivial⟩⟩⟩⟩⟩⟩⟩⟩⟩⟩ ?_
        exact kk _ _ _ _ _ _ _ _ hM hD ho hod (lwJ_s hJ) (by omega) (by omega)
      · skip
        exact absurd c_2065 (by omega)
    · skip
      exact absurd c_2058 (by omega)

set_option maxHeartbeats 4000000 in
set_option maxRecDepth 20000 in
theorem lc_39 {P : xP} {Θ : xT} {cm : cmT} {a N b sm rt q : Nat} {xs : Nat → Int32} (E : lwE P Θ cm a N b sm rt xs) {F : xF} {z k n th : Nat} {M : mcS} {g : Nat → Int64} {gd : Nat → UInt64} (hM : xMC F (cm) (b) (M)) (hD : xMD F (b + 566) (th) (M)) (ho : F (b + 578) = some (.inr (2, 1, fun b9 => .long (g b9)))) (hod : F (b + 579) = some (.inr (3, 1, fun b9 => .double (gd b9)))) (hJ : lwJ q M) (hq : 3 * q + 3 ≤ N) (hkn : k + 2 ≤ 603072 ∧ n + 12 ≤ 7207018) (kk : lwK P Θ cm a b q k n) : xX P Θ 2083 [some (.ref (a)), some (.ref (b)), some (.ref (b + 566)), some (.ref (b + 578)), some (.ref (b + 579)), some (.int (nI (3 * q))), none, none, none, none] [] F z k n := by
  obtain ⟨hC, hX, ha, hN, hCM, hSM, hSR, hZx, hNx⟩ := E
  obtain ⟨hI, hS, hpp⟩ := id hJ
  obtain ⟨hk9, hn9⟩ := hkn
  have hu8 : M.2.2.2.2.2.2.2.1 ≤ 8 := hI.2.2.2.1
  have hup0 : M.2.2.2.2.2.2.2.1 ≤ M.2.2.2.2.2.2.1 := hI.2.2.2.2.1
  have hsv0 : M.2.2.2.2.2.1 ≤ 1 := hI.2.2.2.2.2.1
  have hpp0 : M.2.2.2.2.2.2.1 < 100000 := by omega
  have hun0 : M.2.2.2.2.2.2.2.1 < 100000 := by omega
  obtain ⟨hb1, hb2, hb3⟩ := hS.1
  have hnx : M.1.2.2.1.2.1 < 999 := by omega
  have hn0 : M.1.2.2.1.2.1 + 1 < 1000 := by omega
  have hg0 : M.1.2.2.2.2.2.2.1 < 1000 := by omega
  have hf0 : M.1.2.2.2.2.2.2.2.2 < 1000 := by omega
  refine x_aload_n hC d_Law_law_2083 rfl rfl ?_
  refine x_aload_n hC d_Law_law_2084 rfl rfl ?_
  refine x_iload hC d_Law_law_2085 rfl ?_
  refine x_iconst hC d_Law_law_2087 (v := nI 1) (by decide) ?_
  refine x_iadd hC d_Law_law_2088 (v := (nI (3 * q + 1))) (x_addN (by omega)) ?_
  refine x_sld hC hX ha (j := 3 * q + 1) ⟨rfl, by omega, by omega⟩ d_Law_law_2089 ?_
  refine x_aload_n hC d_Law_law_2090 rfl rfl ?_
  refine x_callW hC kw_Law_298 (c_Law_correctedBits (hM := hM) (ho := ho) (hZx := hZx) (hNx := hNx) (hbo := Or.inr (by omega))) (Nat.le_of_ble_eq_true rfl) rfl rfl rfl (Nat.le_of_ble_eq_true rfl) ⟨by omega, by omega⟩ d_Law_law_2091 (fun r9 Fw zw hp9 => ?_)
  rcases hp9 with ⟨rfl, hM9, ho9, p_0, hag9⟩ | ⟨rfl, hM9, ho9, hcond, hag9⟩
  · skip
    have hM : xMC Fw (cm) (b) (M) := hM9
    have hD : xMD Fw (b + 566) (th) (M) := xMD_fr hD (fun a9 q1 q2 => hag9 a9 (by omega) (by omega))
    have ho : Fw (b + 578) = some (.inr (2, 1, fun b9 => .long ((vp_updL g 0 (((nI (datN (corN (M.1.2.2.2.1.2.1 (xs (3 * q + 1)).toNatClampNeg))))).toInt64)) b9))) := ho9
    have hod : Fw (b + 579) = some (.inr (3, 1, fun b9 => .double (gd b9))) := (hag9 _ (by omega) (by omega)).trans hod
    clear hM9 ho9 hag9
    refine x_istore hC d_Law_law_2094 (Nat.le_of_ble_eq_true rfl) (L1 := [some (.ref a), some (.ref b), some (.ref (b + 566)), some (.ref (b + 578)), some (.ref (b + 579)), some (.int (nI (3 * q))), some (.int (nI 0)), none, none, none]) rfl ?_
    refine x_aload_n hC d_Law_law_2096 rfl rfl ?_
    refine x_aload_n hC d_Law_law_2097 rfl rfl ?_
    refine x_iload hC d_Law_law_2098 rfl ?_
    refine x_iconst hC d_Law_law_2100 (v := nI 1) (by decide) ?_
    refine x_iadd hC d_Law_law_2101 (v := (nI (3 * q + 1))) (x_addN (by omega)) ?_
    refine x_sld hC hX ha (j := 3 * q + 1) ⟨rfl, by omega, by omega⟩ d_Law_law_2102 ?_
    obtain ⟨fsD, hDo⟩ := xMD_at hD
    refine x_callV hC kv_Law_300 (c_MessageCoderModel_correctedBits (hD := hD) (hI := hI)) hDo rfl rfl (Nat.le_of_ble_eq_true rfl) rfl rfl rfl (Nat.le_of_ble_eq_true rfl) ⟨by omega, by omega⟩ d_Law_law_2103 (fun r9 Fm z9 hp9 => ?_)
    obtain ⟨rfl, h9c, j0, hag9⟩ := hp9
    rw [h9c]
    clear h9c z9
    have hM : xMC Fm (cm) (b) (M) := xMC_fr hM (fun a9 q1 q2 => hag9 a9 (by omega))
    have hD : xMD Fm (((b + 566))) ((if 0 ≤ (xs (3 * q + 1)) ∧ (xs (3 * q + 1)) < nI M.1.2.2.2.1.1 then 0 else 1)) (M) := j0
    have ho : Fm (b + 578) = some (.inr (2, 1, fun b9 => .long ((vp_updL g 0 (((nI (datN (corN (M.1.2.2.2.1.2.1 (xs (3 * q + 1)).toNatClampNeg))))).toInt64)) b9))) := (hag9 _ (by omega)).trans ho
    have hod : Fm (b + 579) = some (.inr (3, 1, fun b9 => .double (gd b9))) := (hag9 _ (by omega)).trans hod
    clear j0 hag9
    have hT : ((if 0 ≤ (xs (3 * q + 1)) ∧ (xs (3 * q + 1)) < nI M.1.2.2.2.1.1 then 0 else 1)) = 0 := if_pos p_0
    rw [hT] at hD
    refine x_top (v := (nI (datN (corN (M.1.2.2.2.1.2.1 (xs (3 * q + 1)).toNatClampNeg))))) (congrArg nI (if_pos p_0)) ?_
    refine x_istore hC d_Law_law_2106 (Nat.le_of_ble_eq_true rfl) (L1 := [some (.ref a), some (.ref b), some (.ref (b + 566)), some (.ref (b + 578)), some (.ref (b + 579)), some (.int (nI (3 * q))), some (.int (nI 0)), some (.int (nI (datN (corN (M.1.2.2.2.1.2.1 (xs (3 * q + 1)).toNatClampNeg))))), none, none]) rfl ?_
    refine x_aload_n hC d_Law_law_2108 rfl rfl ?_
    obtain ⟨fsD, hDo⟩ := xMD_at hD
    refine x_callV hC kv_Law_163 (c_thrownD hD) hDo rfl rfl (Nat.le_of_ble_eq_true rfl) rfl rfl rfl (Nat.le_of_ble_eq_true rfl) ⟨by omega, by omega⟩ d_Law_law_2109 (fun r9 F9 z9 hp9 => ?_)
    obtain ⟨rfl, h9b, h9c⟩ := hp9
    rw [h9b, h9c]
    clear h9b h9c F9 z9
    refine x_iload hC d_Law_law_2112 rfl ?_
    refine x_icmpN_eq hC d_Law_law_2114 (tgt := 2119) (by decide) (by omega) (by omega) (fun c_2114 => ?_) (fun c_2114 => ?_)
    · skip
      refine x_iload hC d_Law_law_2119 rfl ?_
      refine x_ifN_ne hC d_Law_law_2121 (tgt := 2136) (by decide) (by omega) (fun c_2121 => ?_) (fun c_2121 => ?_)
      · skip
        exact absurd c_2121 (by omega)
      · skip
        refine x_aload_n hC d_Law_law_2124 rfl rfl ?_
        refine x_iconst hC d_Law_law_2125 (v := nI 0) (by decide) ?_
        refine x_lald hC ho (j := 0) ⟨rfl, by decide, by decide⟩ (x := ((nI (datN (corN (M.1.2.2.2.1.2.1 (xs (3 * q + 1)).toNatClampNeg))))).toInt64) rfl d_Law_law_2126 ?_
        refine x_iload hC d_Law_law_2127 rfl ?_
        refine x_i2l hC d_Law_law_2129 rfl ?_
        refine x_lcmp hC d_Law_law_2130 ?_
        refine x_top (v := nI 0) (lg_self _) ?_
        refine x_ifN_eq hC d_Law_law_2131 (tgt := 2136) (by decide) (by omega) (fun c_2131 => ?_) (fun c_2131 => ?_)
        · skip
          refine x_goto hC d_Law_law_2136 (tgt := 2933) (by decide) ?_
          refine x_forget (L1 := [some (.ref a), some (.ref b), some (.ref (b + 566)), some (.ref (b + 578)), some (.ref (b + 579)), some (.int (nI (3 * q))), none, none, none, none]) ⟨Or.inr rfl, ⟨Or.inr rfl, ⟨Or.inr rfl, ⟨Or.inr rfl, ⟨Or.inr rfl, ⟨Or.inr rfl, ⟨Or.inl rfl, ⟨Or.inl rfl, ⟨Or.inl rfl, ⟨Or.inl rfl, trivial⟩⟩⟩⟩⟩⟩⟩⟩⟩⟩ ?_
          exact kk _ _ _ _ _ _ _ _ hM hD ho hod (lwJ_s hJ) (by omega) (by omega)
        · skip
          exact absurd c_2131 (by omega)
    · skip
      exact absurd c_2114 (by omega)
  · skip
    have hM : xMC Fw (cm) (b) (M) := hM9
    have hD : xMD Fw (b + 566) (th) (M) := xMD_fr hD (fun a9 q1 q2 => hag9 a9 (by omega) (by omega))
    have ho : Fw (b + 578) = some (.inr (2, 1, fun b9 => .long (g b9))) := ho9
    have hod : Fw (b + 579) = some (.inr (3, 1, fun b9 => .double (gd b9))) := (hag9 _ (by omega) (by omega)).trans hod
    clear hM9 ho9 hag9
    refine x_istore hC d_Law_law_2094 (Nat.le_of_ble_eq_true rfl) (L1 := [some (.ref a), some (.ref b), some (.ref (b + 566)), some (.ref (b + 578)), some (.ref (b + 579)), some (.int (nI (3 * q))), some (.int (nI 1)), none, none, none]) rfl ?_
    refine x_aload_n hC d_Law_law_2096 rfl rfl ?_
    refine x_aload_n hC d_Law_law_2097 rfl rfl ?_
    refine x_iload hC d_Law_law_2098 rfl ?_
    refine x_iconst hC d_Law_law_2100 (v := nI 1) (by decide) ?_
    refine x_iadd hC d_Law_law_2101 (v := (nI (3 * q + 1))) (x_addN (by omega)) ?_
    refine x_sld hC hX ha (j := 3 * q + 1) ⟨rfl, by omega, by omega⟩ d_Law_law_2102 ?_
    obtain ⟨fsD, hDo⟩ := xMD_at hD
    refine x_callV hC kv_Law_300 (c_MessageCoderModel_correctedBits (hD := hD) (hI := hI)) hDo rfl rfl (Nat.le_of_ble_eq_true rfl) rfl rfl rfl (Nat.le_of_ble_eq_true rfl) ⟨by omega, by omega⟩ d_Law_law_2103 (fun r9 Fm z9 hp9 => ?_)
    obtain ⟨rfl, h9c, j0, hag9⟩ := hp9
    rw [h9c]
    clear h9c z9
    have hM : xMC Fm (cm) (b) (M) := xMC_fr hM (fun a9 q1 q2 => hag9 a9 (by omega))
    have hD : xMD Fm (((b + 566))) ((if 0 ≤ (xs (3 * q + 1)) ∧ (xs (3 * q + 1)) < nI M.1.2.2.2.1.1 then 0 else 1)) (M) := j0
    have ho : Fm (b + 578) = some (.inr (2, 1, fun b9 => .long (g b9))) := (hag9 _ (by omega)).trans ho
    have hod : Fm (b + 579) = some (.inr (3, 1, fun b9 => .double (gd b9))) := (hag9 _ (by omega)).trans hod
    clear j0 hag9
    have hT : ((if 0 ≤ (xs (3 * q + 1)) ∧ (xs (3 * q + 1)) < nI M.1.2.2.2.1.1 then 0 else 1)) = 1 := if_neg hcond
    rw [hT] at hD
    refine x_istore hC d_Law_law_2106 (Nat.le_of_ble_eq_true rfl) (L1 := [some (.ref a), some (.ref b), some (.ref (b + 566)), some (.ref (b + 578)), some (.ref (b + 579)), some (.int (nI (3 * q))), some (.int (nI 1)), some (.int (nI (if 0 ≤ (xs (3 * q + 1)) ∧ (xs (3 * q + 1)) < nI M.1.2.2.2.1.1 then datN (corN (M.1.2.2.2.1.2.1 (xs (3 * q + 1)).toNatClampNeg)) else 0))), none, none]) rfl ?_
    refine x_aload_n hC d_Law_law_2108 rfl rfl ?_
    obtain ⟨fsD, hDo⟩ := xMD_at hD
    refine x_callV hC kv_Law_163 (c_thrownD hD) hDo rfl rfl (Nat.le_of_ble_eq_true rfl) rfl rfl rfl (Nat.le_of_ble_eq_true rfl) ⟨by omega, by omega⟩ d_Law_law_2109 (fun r9 F9 z9 hp9 => ?_)
    obtain ⟨rfl, h9b, h9c⟩ := hp9
    rw [h9b, h9c]
    clear h9b h9c F9 z9
    refine x_iload hC d_Law_law_2112 rfl ?_
    refine x_icmpN_eq hC d_Law_law_2114 (tgt := 2119) (by decide) (by omega) (by omega) (fun c_2114 => ?_) (fun c_2114 => ?_)
    · skip
      refine x_iload hC d_Law_law_2119 rfl ?_
      refine x_ifN_ne hC d_Law_law_2121 (tgt := 2136) (by decide) (by omega) (fun c_2121 => ?_) (fun c_2121 => ?_)
      · skip
        refine x_goto hC d_Law_law_2136 (tgt := 2933) (by decide) ?_
        refine x_forget (L1 := [some (.ref a), some (.ref b), some (.ref (b + 566)), some (.ref (b + 578)), some (.ref (b + 579)), some (.int (nI (3 * q))), none, none, none, none]) ⟨Or.inr rfl, ⟨Or.inr rfl, ⟨Or.inr rfl, ⟨Or.inr rfl, ⟨Or.inr rfl, ⟨Or.inr rfl, ⟨Or.inl rfl, ⟨Or.inl rfl, ⟨Or.inl rfl, ⟨Or.inl rfl, trivial⟩⟩⟩⟩⟩⟩⟩⟩⟩⟩ ?_
        exact kk _ _ _ _ _ _ _ _ hM hD ho hod (lwJ_s hJ) (by omega) (by omega)
      · skip
        exact absurd c_2121 (by omega)
    · skip
      exact absurd c_2114 (by omega)

set_option maxHeartbeats 4000000 in
set_option maxRecDepth 20000 in
theorem lc_40 {P : xP} {Θ : xT} {cm : cmT} {a N b sm rt q : Nat} {xs : Nat → Int32} (E : lwE P Θ cm a N b sm rt xs) {F : xF} {z k n th : Nat} {M : mcS} {g : Nat → Int64} {gd : Nat → UInt64} (hM : xMC F (cm) (b) (M)) (hD : xMD F (b + 566) (th) (M)) (ho : F (b + 578) = some (.inr (2, 1, fun b9 => .long (g b9)))) (hod : F (b + 579) = some (.inr (3, 1, fun b9 => .double (gd b9)))) (hJ : lwJ q M) (hq : 3 * q + 3 ≤ N) (hkn : k + 2 ≤ 603072 ∧ n + 12 ≤ 7207018) (kk : lwK P Θ cm a b q k n) : xX P Θ 2139 [some (.ref (a)), some (.ref (b)), some (.ref (b + 566)), some (.ref (b + 578)), some (.ref (b + 579)), some (.int (nI (3 * q))), none, none, none, none] [] F z k n := by
  obtain ⟨hC, hX, ha, hN, hCM, hSM, hSR, hZx, hNx⟩ := E
  obtain ⟨hI, hS, hpp⟩ := id hJ
  obtain ⟨hk9, hn9⟩ := hkn
  have hu8 : M.2.2.2.2.2.2.2.1 ≤ 8 := hI.2.2.2.1
  have hup0 : M.2.2.2.2.2.2.2.1 ≤ M.2.2.2.2.2.2.1 := hI.2.2.2.2.1
  have hsv0 : M.2.2.2.2.2.1 ≤ 1 := hI.2.2.2.2.2.1
  have hpp0 : M.2.2.2.2.2.2.1 < 100000 := by omega
  have hun0 : M.2.2.2.2.2.2.2.1 < 100000 := by omega
  obtain ⟨hb1, hb2, hb3⟩ := hS.1
  have hnx : M.1.2.2.1.2.1 < 999 := by omega
  have hn0 : M.1.2.2.1.2.1 + 1 < 1000 := by omega
  have hg0 : M.1.2.2.2.2.2.2.1 < 1000 := by omega
  have hf0 : M.1.2.2.2.2.2.2.2.2 < 1000 := by omega
  refine x_aload_n hC d_Law_law_2139 rfl rfl ?_
  refine x_aload_n hC d_Law_law_2140 rfl rfl ?_
  refine x_iload hC d_Law_law_2141 rfl ?_
  refine x_iconst hC d_Law_law_2143 (v := nI 1) (by decide) ?_
  refine x_iadd hC d_Law_law_2144 (v := (nI (3 * q + 1))) (x_addN (by omega)) ?_
  refine x_sld hC hX ha (j := 3 * q + 1) ⟨rfl, by omega, by omega⟩ d_Law_law_2145 ?_
  refine x_aload_n hC d_Law_law_2146 rfl rfl ?_
  refine x_callW hC kw_Law_301 (c_Law_correctedBitsByDistance (hM := hM) (ho := ho) (hZx := hZx) (hNx := hNx) (hbo := Or.inr (by omega))) (Nat.le_of_ble_eq_true rfl) rfl rfl rfl (Nat.le_of_ble_eq_true rfl) ⟨by omega, by omega⟩ d_Law_law_2147 (fun r9 Fw zw hp9 => ?_)
  rcases hp9 with ⟨rfl, hM9, ho9, p_0, hag9⟩ | ⟨rfl, hM9, ho9, hcond, hag9⟩
  · skip
    have hM : xMC Fw (cm) (b) (M) := hM9
    have hD : xMD Fw (b + 566) (th) (M) := xMD_fr hD (fun a9 q1 q2 => hag9 a9 (by omega) (by omega))
    have ho : Fw (b + 578) = some (.inr (2, 1, fun b9 => .long ((vp_updL g 0 (((nI (datN (corN (M.1.2.2.2.1.2.1 (xs (3 * q + 1)).toNatClampNeg))))).toInt64)) b9))) := ho9
    have hod : Fw (b + 579) = some (.inr (3, 1, fun b9 => .double (gd b9))) := (hag9 _ (by omega) (by omega)).trans hod
    clear hM9 ho9 hag9
    refine x_istore hC d_Law_law_2150 (Nat.le_of_ble_eq_true rfl) (L1 := [some (.ref a), some (.ref b), some (.ref (b + 566)), some (.ref (b + 578)), some (.ref (b + 579)), some (.int (nI (3 * q))), some (.int (nI 0)), none, none, none]) rfl ?_
    refine x_aload_n hC d_Law_law_2152 rfl rfl ?_
    refine x_aload_n hC d_Law_law_2153 rfl rfl ?_
    refine x_iload hC d_Law_law_2154 rfl ?_
    refine x_iconst hC d_Law_law_2156 (v := nI 1) (by decide) ?_
    refine x_iadd hC d_Law_law_2157 (v := (nI (3 * q + 1))) (x_addN (by omega)) ?_
    refine x_sld hC hX ha (j := 3 * q + 1) ⟨rfl, by omega, by omega⟩ d_Law_law_2158 ?_
    obtain ⟨fsD, hDo⟩ := xMD_at hD
    refine x_callV hC kv_Law_303 (c_MessageCoderModel_correctedBitsByDistance (hD := hD) (hI := hI)) hDo rfl rfl (Nat.le_of_ble_eq_true rfl) rfl rfl rfl (Nat.le_of_ble_eq_true rfl) ⟨by omega, by omega⟩ d_Law_law_2159 (fun r9 Fm z9 hp9 => ?_)
    obtain ⟨rfl, h9c, j0, hag9⟩ := hp9
    rw [h9c]
    clear h9c z9
    have hM : xMC Fm (cm) (b) (M) := xMC_fr hM (fun a9 q1 q2 => hag9 a9 (by omega))
    have hD : xMD Fm (((b + 566))) ((if 0 ≤ (xs (3 * q + 1)) ∧ (xs (3 * q + 1)) < nI M.1.2.2.2.1.1 then 0 else 1)) (M) := j0
    have ho : Fm (b + 578) = some (.inr (2, 1, fun b9 => .long ((vp_updL g 0 (((nI (datN (corN (M.1.2.2.2.1.2.1 (xs (3 * q + 1)).toNatClampNeg))))).toInt64)) b9))) := (hag9 _ (by omega)).trans ho
    have hod : Fm (b + 579) = some (.inr (3, 1, fun b9 => .double (gd b9))) := (hag9 _ (by omega)).trans hod
    clear j0 hag9
    have hT : ((if 0 ≤ (xs (3 * q + 1)) ∧ (xs (3 * q + 1)) < nI M.1.2.2.2.1.1 then 0 else 1)) = 0 := if_pos p_0
    rw [hT] at hD
    refine x_top (v := (nI (datN (corN (M.1.2.2.2.1.2.1 (xs (3 * q + 1)).toNatClampNeg))))) (congrArg nI (if_pos p_0)) ?_
    refine x_istore hC d_Law_law_2162 (Nat.le_of_ble_eq_true rfl) (L1 := [some (.ref a), some (.ref b), some (.ref (b + 566)), some (.ref (b + 578)), some (.ref (b + 579)), some (.int (nI (3 * q))), some (.int (nI 0)), some (.int (nI (datN (corN (M.1.2.2.2.1.2.1 (xs (3 * q + 1)).toNatClampNeg))))), none, none]) rfl ?_
    refine x_aload_n hC d_Law_law_2164 rfl rfl ?_
    obtain ⟨fsD, hDo⟩ := xMD_at hD
    refine x_callV hC kv_Law_163 (c_thrownD hD) hDo rfl rfl (Nat.le_of_ble_eq_true rfl) rfl rfl rfl (Nat.le_of_ble_eq_true rfl) ⟨by omega, by omega⟩ d_Law_law_2165 (fun r9 F9 z9 hp9 => ?_)
    obtain ⟨rfl, h9b, h9c⟩ := hp9
    rw [h9b, h9c]
    clear h9b h9c F9 z9
    refine x_iload hC d_Law_law_2168 rfl ?_
    refine x_icmpN_eq hC d_Law_law_2170 (tgt := 2175) (by decide) (by omega) (by omega) (fun c_2170 => ?_) (fun c_2170 => ?_)
    · skip
      refine x_iload hC d_Law_law_2175 rfl ?_
      refine x_ifN_ne hC d_Law_law_2177 (tgt := 2192) (by decide) (by omega) (fun c_2177 => ?_) (fun c_2177 => ?_)
      · skip
        exact absurd c_2177 (by omega)
      · skip
        refine x_aload_n hC d_Law_law_2180 rfl rfl ?_
        refine x_iconst hC d_Law_law_2181 (v := nI 0) (by decide) ?_
        refine x_lald hC ho (j := 0) ⟨rfl, by decide, by decide⟩ (x := ((nI (datN (corN (M.1.2.2.2.1.2.1 (xs (3 * q + 1)).toNatClampNeg))))).toInt64) rfl d_Law_law_2182 ?_
        refine x_iload hC d_Law_law_2183 rfl ?_
        refine x_i2l hC d_Law_law_2185 rfl ?_
        refine x_lcmp hC d_Law_law_2186 ?_
        refine x_top (v := nI 0) (lg_self _) ?_
        refine x_ifN_eq hC d_Law_law_2187 (tgt := 2192) (by decide) (by omega) (fun c_2187 => ?_) (fun c_2187 => ?_)
        · skip
          refine x_goto hC d_Law_law_2192 (tgt := 2933) (by decide) ?_
          refine x_forget (L1 := [some (.ref a), some (.ref b), some (.ref (b + 566)), some (.ref (b + 578)), some (.ref (b + 579)), some (.int (nI (3 * q))), none, none, none, none]) ⟨Or.inr rfl, ⟨Or.inr rfl, ⟨Or.inr rfl, ⟨Or.inr rfl, ⟨Or.inr rfl, ⟨Or.inr rfl, ⟨Or.inl rfl, ⟨Or.inl rfl, ⟨Or.inl rfl, ⟨Or.inl rfl, trivial⟩⟩⟩⟩⟩⟩⟩⟩⟩⟩ ?_
          exact kk _ _ _ _ _ _ _ _ hM hD ho hod (lwJ_s hJ) (by omega) (by omega)
        · skip
          exact absurd c_2187 (by omega)
    · skip
      exact absurd c_2170 (by omega)
  · skip
    have hM : xMC Fw (cm) (b) (M) := hM9
    have hD : xMD Fw (b + 566) (th) (M) := xMD_fr hD (fun a9 q1 q2 => hag9 a9 (by omega) (by omega))
    have ho : Fw (b + 578) = some (.inr (2, 1, fun b9 => .long (g b9))) := ho9
    have hod : Fw (b + 579) = some (.inr (3, 1, fun b9 => .double (gd b9))) := (hag9 _ (by omega) (by omega)).trans hod
    clear hM9 ho9 hag9
    refine x_istore hC d_Law_law_2150 (Nat.le_of_ble_eq_true rfl) (L1 := [some (.ref a), some (.ref b), some (.ref (b + 566)), some (.ref (b + 578)), some (.ref (b + 579)), some (.int (nI (3 * q))), some (.int (nI 1)), none, none, none]) rfl ?_
    refine x_aload_n hC d_Law_law_2152 rfl rfl ?_
    refine x_aload_n hC d_Law_law_2153 rfl rfl ?_
    refine x_iload hC d_Law_law_2154 rfl ?_
    refine x_iconst hC d_Law_law_2156 (v := nI 1) (by decide) ?_
    refine x_iadd hC d_Law_law_2157 (v := (nI (3 * q + 1))) (x_addN (by omega)) ?_
    refine x_sld hC hX ha (j := 3 * q + 1) ⟨rfl, by omega, by omega⟩ d_Law_law_2158 ?_
    obtain ⟨fsD, hDo⟩ := xMD_at hD
    refine x_callV hC kv_Law_303 (c_MessageCoderModel_correctedBitsByDistance (hD := hD) (hI := hI)) hDo rfl rfl (Nat.le_of_ble_eq_true rfl) rfl rfl rfl (Nat.le_of_ble_eq_true rfl) ⟨by omega, by omega⟩ d_Law_law_2159 (fun r9 Fm z9 hp9 => ?_)
    obtain ⟨rfl, h9c, j0, hag9⟩ := hp9
    rw [h9c]
    clear h9c z9
    have hM : xMC Fm (cm) (b) (M) := xMC_fr hM (fun a9 q1 q2 => hag9 a9 (by omega))
    have hD : xMD Fm (((b + 566))) ((if 0 ≤ (xs (3 * q + 1)) ∧ (xs (3 * q + 1)) < nI M.1.2.2.2.1.1 then 0 else 1)) (M) := j0
    have ho : Fm (b + 578) = some (.inr (2, 1, fun b9 => .long (g b9))) := (hag9 _ (by omega)).trans ho
    have hod : Fm (b + 579) = some (.inr (3, 1, fun b9 => .double (gd b9))) := (hag9 _ (by omega)).trans hod
    clear j0 hag9
    have hT : ((if 0 ≤ (xs (3 * q + 1)) ∧ (xs (3 * q + 1)) < nI M.1.2.2.2.1.1 then 0 else 1)) = 1 := if_neg hcond
    rw [hT] at hD
    refine x_istore hC d_Law_law_2162 (Nat.le_of_ble_eq_true rfl) (L1 := [some (.ref a), some (.ref b), some (.ref (b + 566)), some (.ref (b + 578)), some (.ref (b + 579)), some (.int (nI (3 * q))), some (.int (nI 1)), some (.int (nI (if 0 ≤ (xs (3 * q + 1)) ∧ (xs (3 * q + 1)) < nI M.1.2.2.2.1.1 then datN (corN (M.1.2.2.2.1.2.1 (xs (3 * q + 1)).toNatClampNeg)) else 0))), none, none]) rfl ?_
    refine x_aload_n hC d_Law_law_2164 rfl rfl ?_
    obtain ⟨fsD, hDo⟩ := xMD_at hD
    refine x_callV hC kv_Law_163 (c_thrownD hD) hDo rfl rfl (Nat.le_of_ble_eq_true rfl) rfl rfl rfl (Nat.le_of_ble_eq_true rfl) ⟨by omega, by omega⟩ d_Law_law_2165 (fun r9 F9 z9 hp9 => ?_)
    obtain ⟨rfl, h9b, h9c⟩ := hp9
    rw [h9b, h9c]
    clear h9b h9c F9 z9
    refine x_iload hC d_Law_law_2168 rfl ?_
    refine x_icmpN_eq hC d_Law_law_2170 (tgt := 2175) (by decide) (by omega) (by omega) (fun c_2170 => ?_) (fun c_2170 => ?_)
    · skip
      refine x_iload hC d_Law_law_2175 rfl ?_
      refine x_ifN_ne hC d_Law_law_2177 (tgt := 2192) (by decide) (by omega) (fun c_2177 => ?_) (fun c_2177 => ?_)
      · skip
        refine x_goto hC d_Law_law_2192 (tgt := 2933) (by decide) ?_
        refine x_forget (L1 := [some (.ref a), some (.ref b), some (.ref (b + 566)), some (.ref (b + 578)), some (.ref (b + 579)), some (.int (nI (3 * q))), none, none, none, none]) ⟨Or.inr rfl, ⟨Or.inr rfl, ⟨Or.inr rfl, ⟨Or.inr rfl, ⟨Or.inr rfl, ⟨Or.inr rfl, ⟨Or.inl rfl, ⟨Or.inl rfl, ⟨Or.inl rfl, ⟨Or.inl rfl, trivial⟩⟩⟩⟩⟩⟩⟩⟩⟩⟩ ?_
        exact kk _ _ _ _ _ _ _ _ hM hD ho hod (lwJ_s hJ) (by omega) (by omega)
      · skip
        exact absurd c_2177 (by omega)
    · skip
      exact absurd c_2170 (by omega)

set_option maxHeartbeats 4000000 in
set_option maxRecDepth 20000 in
theorem lc_41 {P : xP} {Θ : xT} {cm : cmT} {a N b sm rt q : Nat} {xs : Nat → Int32} (E : lwE P Θ cm a N b sm rt xs) {F : xF} {z k n th : Nat} {M : mcS} {g : Nat → Int64} {gd : Nat → UInt64} (hM : xMC F (cm) (b) (M)) (hD : xMD F (b + 566) (th) (M)) (ho : F (b + 578) = some (.inr (2, 1, fun b9 => .long (g b9)))) (hod : F (b + 579) = some (.inr (3, 1, fun b9 => .double (gd b9)))) (hJ : lwJ q M) (hq : 3 * q + 3 ≤ N) (hkn : k + 2 ≤ 603072 ∧ n + 12 ≤ 7207018) (kk : lwK P Θ cm a b q k n) : xX P Θ 2195 [some (.ref (a)), some (.ref (b)), some (.ref (b + 566)), some (.ref (b + 578)), some (.ref (b + 579)), some (.int (nI (3 * q))), none, none, none, none] [] F z k n := by
  obtain ⟨hC, hX, ha, hN, hCM, hSM, hSR, hZx, hNx⟩ := E
  obtain ⟨hI, hS, hpp⟩ := id hJ
  obtain ⟨hk9, hn9⟩ := hkn
  have hu8 : M.2.2.2.2.2.2.2.1 ≤ 8 := hI.2.2.2.1
  have hup0 : M.2.2.2.2.2.2.2.1 ≤ M.2.2.2.2.2.2.1 := hI.2.2.2.2.1
  have hsv0 : M.2.2.2.2.2.1 ≤ 1 := hI.2.2.2.2.2.1
  have hpp0 : M.2.2.2.2.2.2.1 < 100000 := by omega
  have hun0 : M.2.2.2.2.2.2.2.1 < 100000 := by omega
  obtain ⟨hb1, hb2, hb3⟩ := hS.1
  have hnx : M.1.2.2.1.2.1 < 999 := by omega
  have hn0 : M.1.2.2.1.2.1 + 1 < 1000 := by omega
  have hg0 : M.1.2.2.2.2.2.2.1 < 1000 := by omega
  have hf0 : M.1.2.2.2.2.2.2.2.2 < 1000 := by omega
  refine x_aload_n hC d_Law_law_2195 rfl rfl ?_
  obtain ⟨hMo, -⟩ := id hM
  refine x_callV hC kv_Law_304 (c_MessageCoder_damagedBlocks (hM := hM) ) hMo rfl rfl (Nat.le_of_ble_eq_true rfl) rfl rfl rfl (Nat.le_of_ble_eq_true rfl) ⟨by omega, by omega⟩ d_Law_law_2196 (fun r9 Fc z9 hp9 => ?_)
  obtain ⟨rfl, h9b, h9c⟩ := hp9
  rw [h9b, h9c]
  clear h9b h9c Fc z9
  refine x_aload_n hC d_Law_law_2199 rfl rfl ?_
  obtain ⟨fsD, hDo⟩ := xMD_at hD
  refine x_callV hC kv_Law_307 (c_MessageCoderModel_damagedBlocks (hD := hD) (hI := hI)) hDo rfl rfl (Nat.le_of_ble_eq_true rfl) rfl rfl rfl (Nat.le_of_ble_eq_true rfl) ⟨by omega, by omega⟩ d_Law_law_2200 (fun r9 Fm z9 hp9 => ?_)
  obtain ⟨rfl, h9c, j0, hag9⟩ := hp9
  rw [h9c]
  clear h9c z9
  have hM : xMC Fm (cm) (b) (M) := xMC_fr hM (fun a9 q1 q2 => hag9 a9 (by omega))
  have hD : xMD Fm (((b + 566))) (0) (M) := j0
  have ho : Fm (b + 578) = some (.inr (2, 1, fun b9 => .long (g b9))) := (hag9 _ (by omega)).trans ho
  have hod : Fm (b + 579) = some (.inr (3, 1, fun b9 => .double (gd b9))) := (hag9 _ (by omega)).trans hod
  clear j0 hag9
  refine x_icmp_eq hC d_Law_law_2203 (tgt := 2933) (by decide) (fun c_2203 => ?_) (fun c_2203 => ?_)
  · skip
    exact kk _ _ _ _ _ _ _ _ hM hD ho hod (lwJ_s hJ) (by omega) (by omega)
  · exact absurd rfl c_2203

set_option maxHeartbeats 4000000 in
set_option maxRecDepth 20000 in
theorem lc_42 {P : xP} {Θ : xT} {cm : cmT} {a N b sm rt q : Nat} {xs : Nat → Int32} (E : lwE P Θ cm a N b sm rt xs) {F : xF} {z k n th : Nat} {M : mcS} {g : Nat → Int64} {gd : Nat → UInt64} (hM : xMC F (cm) (b) (M)) (hD : xMD F (b + 566) (th) (M)) (ho : F (b + 578) = some (.inr (2, 1, fun b9 => .long (g b9)))) (hod : F (b + 579) = some (.inr (3, 1, fun b9 => .double (gd b9)))) (hJ : lwJ q M) (hq : 3 * q + 3 ≤ N) (hkn : k + 2 ≤ 603072 ∧ n + 12 ≤ 7207018) (kk : lwK P Θ cm a b q k n) : xX P Θ 2208 [some (.ref (a)), some (.ref (b)), some (.ref (b + 566)), some (.ref (b + 578)), some (.ref (b + 579)), some (.int (nI (3 * q))), none, none, none, none] [] F z k n := by
  obtain ⟨hC, hX, ha, hN, hCM, hSM, hSR, hZx, hNx⟩ := E
  obtain ⟨hI, hS, hpp⟩ := id hJ
  obtain ⟨hk9, hn9⟩ := hkn
  have hu8 : M.2.2.2.2.2.2.2.1 ≤ 8 := hI.2.2.2.1
  have hup0 : M.2.2.2.2.2.2.2.1 ≤ M.2.2.2.2.2.2.1 := hI.2.2.2.2.1
  have hsv0 : M.2.2.2.2.2.1 ≤ 1 := hI.2.2.2.2.2.1
  have hpp0 : M.2.2.2.2.2.2.1 < 100000 := by omega
  have hun0 : M.2.2.2.2.2.2.2.1 < 100000 := by omega
  obtain ⟨hb1, hb2, hb3⟩ := hS.1
  have hnx : M.1.2.2.1.2.1 < 999 := by omega
  have hn0 : M.1.2.2.1.2.1 + 1 < 1000 := by omega
  have hg0 : M.1.2.2.2.2.2.2.1 < 1000 := by omega
  have hf0 : M.1.2.2.2.2.2.2.2.2 < 1000 := by omega
  refine x_aload_n hC d_Law_law_2208 rfl rfl ?_
  refine x_aload_n hC d_Law_law_2209 rfl rfl ?_
  refine x_callW hC kw_Law_308 (c_Law_isIntact (hM := hM) (ho := ho) (hZx := hZx) (hNx := hNx) (hbo := Or.inr (by omega))) (Nat.le_of_ble_eq_true rfl) rfl rfl rfl (Nat.le_of_ble_eq_true rfl) ⟨by omega, by omega⟩ d_Law_law_2210 (fun r9 Fw zw hp9 => ?_)
  rcases hp9 with ⟨rfl, hM9, ho9, p_0, hag9⟩ | ⟨rfl, hM9, ho9, hcond, hag9⟩
  · skip
    have hM : xMC Fw (cm) (b) (M) := hM9
    have hD : xMD Fw (b + 566) (th) (M) := xMD_fr hD (fun a9 q1 q2 => hag9 a9 (by omega) (by omega))
    have ho : Fw (b + 578) = some (.inr (2, 1, fun b9 => .long ((vp_updL g 0 (if sameA M.1 then 1 else 0)) b9))) := ho9
    have hod : Fw (b + 579) = some (.inr (3, 1, fun b9 => .double (gd b9))) := (hag9 _ (by omega) (by omega)).trans hod
    clear hM9 ho9 hag9
    refine x_istore hC d_Law_law_2213 (Nat.le_of_ble_eq_true rfl) (L1 := [some (.ref a), some (.ref b), some (.ref (b + 566)), some (.ref (b + 578)), some (.ref (b + 579)), some (.int (nI (3 * q))), some (.int (nI 0)), none, none, none]) rfl ?_
    refine x_aload_n hC d_Law_law_2215 rfl rfl ?_
    obtain ⟨fsD, hDo⟩ := xMD_at hD
    refine x_callV hC kv_Law_310 (c_MessageCoderModel_isIntact (hD := hD) (hI := hI)) hDo rfl rfl (Nat.le_of_ble_eq_true rfl) rfl rfl rfl (Nat.le_of_ble_eq_true rfl) ⟨by omega, by omega⟩ d_Law_law_2216 (fun r9 Fm z9 hp9 => ?_)
    obtain ⟨rfl, h9c, j0, hag9⟩ := hp9
    rw [h9c]
    clear h9c z9
    have hM : xMC Fm (cm) (b) (M) := xMC_fr hM (fun a9 q1 q2 => hag9 a9 (by omega))
    have hD : xMD Fm (((b + 566))) ((if 0 < M.1.2.2.2.1.1 then 0 else 1)) (M) := j0
    have ho : Fm (b + 578) = some (.inr (2, 1, fun b9 => .long ((vp_updL g 0 (if sameA M.1 then 1 else 0)) b9))) := (hag9 _ (by omega)).trans ho
    have hod : Fm (b + 579) = some (.inr (3, 1, fun b9 => .double (gd b9))) := (hag9 _ (by omega)).trans hod
    clear j0 hag9
    have hT : ((if 0 < M.1.2.2.2.1.1 then 0 else 1)) = 0 := if_pos p_0
    rw [hT] at hD
    refine x_top (v := (xb (sameA M.1))) (xb_c (Iff.intro (fun h9 => h9.2) (fun h9 => ⟨p_0, h9⟩))) ?_
    refine x_istore hC d_Law_law_2219 (Nat.le_of_ble_eq_true rfl) (L1 := [some (.ref a), some (.ref b), some (.ref (b + 566)), some (.ref (b + 578)), some (.ref (b + 579)), some (.int (nI (3 * q))), some (.int (nI 0)), some (.int (xb (sameA M.1))), none, none]) rfl ?_
    refine x_aload_n hC d_Law_law_2221 rfl rfl ?_
    obtain ⟨fsD, hDo⟩ := xMD_at hD
    refine x_callV hC kv_Law_163 (c_thrownD hD) hDo rfl rfl (Nat.le_of_ble_eq_true rfl) rfl rfl rfl (Nat.le_of_ble_eq_true rfl) ⟨by omega, by omega⟩ d_Law_law_2222 (fun r9 F9 z9 hp9 => ?_)
    obtain ⟨rfl, h9b, h9c⟩ := hp9
    rw [h9b, h9c]
    clear h9b h9c F9 z9
    refine x_iload hC d_Law_law_2225 rfl ?_
    refine x_icmpN_eq hC d_Law_law_2227 (tgt := 2232) (by decide) (by omega) (by omega) (fun c_2227 => ?_) (fun c_2227 => ?_)
    · skip
      refine x_iload hC d_Law_law_2232 rfl ?_
      refine x_ifN_ne hC d_Law_law_2234 (tgt := 2256) (by decide) (by omega) (fun c_2234 => ?_) (fun c_2234 => ?_)
      · skip
        exact absurd c_2234 (by omega)
      · skip
        refine x_aload_n hC d_Law_law_2237 rfl rfl ?_
        refine x_iconst hC d_Law_law_2238 (v := nI 0) (by decide) ?_
        refine x_lald hC ho (j := 0) ⟨rfl, by decide, by decide⟩ (x := if sameA M.1 then 1 else 0) rfl d_Law_law_2239 ?_
        refine x_iload hC d_Law_law_2240 rfl ?_
        refine x_ifB_eq hC d_Law_law_2242 (tgt := 2249) (by decide) (fun c_2242 => ?_) (fun c_2242 => ?_)
        · skip
          refine x_lconst hC d_Law_law_2249 (v := 0) rfl ?_
          refine x_lcmp hC d_Law_law_2250 ?_
          refine x_top (v := nI 0) ((by rw [if_neg c_2242]; exact lg_self _)) ?_
          refine x_ifN_eq hC d_Law_law_2251 (tgt := 2256) (by decide) (by omega) (fun c_2251 => ?_) (fun c_2251 => ?_)
          · skip
            refine x_goto hC d_Law_law_2256 (tgt := 2933) (by decide) ?_
            refine x_forget (L1 := [some (.ref a), some (.ref b), some (.ref (b + 566)), some (.ref (b + 578)), some (.ref (b + 579)), some (.int (nI (3 * q))), none, none, none, none]) ⟨Or.inr rfl, ⟨Or.inr rfl, ⟨Or.inr rfl, ⟨Or.inr rfl, ⟨Or.inr rfl, ⟨Or.inr rfl, ⟨Or.inl rfl, ⟨Or.inl rfl, ⟨Or.inl rfl, ⟨Or.inl rfl, trivial⟩⟩⟩⟩⟩⟩⟩⟩⟩⟩ ?_
            exact kk _ _ _ _ _ _ _ _ hM hD ho hod (lwJ_s hJ) (by omega) (by omega)
          · skip
            exact absurd c_2251 (by omega)
        · skip
          refine x_lconst hC d_Law_law_2245 (v := 1) rfl ?_
          refine x_goto hC d_Law_law_2246 (tgt := 2250) (by decide) ?_
          refine x_lcmp hC d_Law_law_2250 ?_
          refine x_top (v := nI 0) ((by rw [if_pos c_2242]; exact lg_self _)) ?_
          refine x_ifN_eq hC d_Law_law_2251 (tgt := 2256) (by decide) (by omega) (fun c_2251 => ?_) (fun c_2251 => ?_)
          · skip
            refine x_goto hC d_Law_law_2256 (tgt := 2933) (by decide) ?_
            refine x_forget (L1 := [some (.ref a), some (.ref b), some (.ref (b + 566)), some (.ref (b + 578)), some (.ref (b + 579)), some (.int (nI (3 * q))), none, none, none, none]) ⟨Or.inr rfl, ⟨Or.inr rfl, ⟨Or.inr rfl, ⟨Or.inr rfl, ⟨Or.inr rfl, ⟨Or.inr rfl, ⟨Or.inl rfl, ⟨Or.inl rfl, ⟨Or.inl rfl, ⟨Or.inl rfl, trivial⟩⟩⟩⟩⟩⟩⟩⟩⟩⟩ ?_
            exact kk _ _ _ _ _ _ _ _ hM hD ho hod (lwJ_s hJ) (by omega) (by omega)
          · skip
            exact absurd c_2251 (by omega)
    · skip
      exact absurd c_2227 (by omega)
  · skip
    have hM : xMC Fw (cm) (b) (M) := hM9
    have hD : xMD Fw (b + 566) (th) (M) := xMD_fr hD (fun a9 q1 q2 => hag9 a9 (by omega) (by omega))
    have ho : Fw (b + 578) = some (.inr (2, 1, fun b9 => .long (g b9))) := ho9
    have hod : Fw (b + 579) = some (.inr (3, 1, fun b9 => .double (gd b9))) := (hag9 _ (by omega) (by omega)).trans hod
    clear hM9 ho9 hag9
    refine x_istore hC d_Law_law_2213 (Nat.le_of_ble_eq_true rfl) (L1 := [some (.ref a), some (.ref b), some (.ref (b + 566)), some (.ref (b + 578)), some (.ref (b + 579)), some (.int (nI (3 * q))), some (.int (nI 1)), none, none, none]) rfl ?_
    refine x_aload_n hC d_Law_law_2215 rfl rfl ?_
    obtain ⟨fsD, hDo⟩ := xMD_at hD
    refine x_callV hC kv_Law_310 (c_MessageCoderModel_isIntact (hD := hD) (hI := hI)) hDo rfl rfl (Nat.le_of_ble_eq_true rfl) rfl rfl rfl (Nat.le_of_ble_eq_true rfl) ⟨by omega, by omega⟩ d_Law_law_2216 (fun r9 Fm z9 hp9 => ?_)
    obtain ⟨rfl, h9c, j0, hag9⟩ := hp9
    rw [h9c]
    clear h9c z9
    have hM : xMC Fm (cm) (b) (M) := xMC_fr hM (fun a9 q1 q2 => hag9 a9 (by omega))
    have hD : xMD Fm (((b + 566))) ((if 0 < M.1.2.2.2.1.1 then 0 else 1)) (M) := j0
    have ho : Fm (b + 578) = some (.inr (2, 1, fun b9 => .long (g b9))) := (hag9 _ (by omega)).trans ho
    have hod : Fm (b + 579) = some (.inr (3, 1, fun b9 => .double (gd b9))) := (hag9 _ (by omega)).trans hod
    clear j0 hag9
    have hT : ((if 0 < M.1.2.2.2.1.1 then 0 else 1)) = 1 := if_neg hcond
    rw [hT] at hD
    refine x_istore hC d_Law_law_2219 (Nat.le_of_ble_eq_true rfl) (L1 := [some (.ref a), some (.ref b), some (.ref (b + 566)), some (.ref (b + 578)), some (.ref (b + 579)), some (.int (nI (3 * q))), some (.int (nI 1)), some (.int (xb (0 < M.1.2.2.2.1.1 ∧ sameA M.1))), none, none]) rfl ?_
    refine x_aload_n hC d_Law_law_2221 rfl rfl ?_
    obtain ⟨fsD, hDo⟩ := xMD_at hD
    refine x_callV hC kv_Law_163 (c_thrownD hD) hDo rfl rfl (Nat.le_of_ble_eq_true rfl) rfl rfl rfl (Nat.le_of_ble_eq_true rfl) ⟨by omega, by omega⟩ d_Law_law_2222 (fun r9 F9 z9 hp9 => ?_)
    obtain ⟨rfl, h9b, h9c⟩ := hp9
    rw [h9b, h9c]
    clear h9b h9c F9 z9
    refine x_iload hC d_Law_law_2225 rfl ?_
    refine x_icmpN_eq hC d_Law_law_2227 (tgt := 2232) (by decide) (by omega) (by omega) (fun c_2227 => ?_) (fun c_2227 => ?_)
    · skip
      refine x_iload hC d_Law_law_2232 rfl ?_
      refine x_ifN_ne hC d_Law_law_2234 (tgt := 2256) (by decide) (by omega) (fun c_2234 => ?_) (fun c_2234 => ?_)
      · skip
        refine x_goto hC d_Law_law_2256 (tgt := 2933) (by decide) ?_
        refine x_forget (L1 := [some (.ref a), some (.ref b), some (.ref (b + 566)), some (.ref (b + 578)), some (.ref (b + 579)), some (.int (nI (3 * q))), none, none, none, none]) ⟨Or.inr rfl, ⟨Or.inr rfl, ⟨Or.inr rfl, ⟨Or.inr rfl, ⟨Or.inr rfl, ⟨Or.inr rfl, ⟨Or.inl rfl, ⟨Or.inl rfl, ⟨Or.inl rfl, ⟨Or.inl rfl, trivial⟩⟩⟩⟩⟩⟩⟩⟩⟩⟩ ?_
        exact kk _ _ _ _ _ _ _ _ hM hD ho hod (lwJ_s hJ) (by omega) (by omega)
      · skip
        exact absurd c_2234 (by omega)
    · skip
      exact absurd c_2227 (by omega)

set_option maxHeartbeats 4000000 in
set_option maxRecDepth 20000 in
theorem lc_43 {P : xP} {Θ : xT} {cm : cmT} {a N b sm rt q : Nat} {xs : Nat → Int32} (E : lwE P Θ cm a N b sm rt xs) {F : xF} {z k n th : Nat} {M : mcS} {g : Nat → Int64} {gd : Nat → UInt64} (hM : xMC F (cm) (b) (M)) (hD : xMD F (b + 566) (th) (M)) (ho : F (b + 578) = some (.inr (2, 1, fun b9 => .long (g b9)))) (hod : F (b + 579) = some (.inr (3, 1, fun b9 => .double (gd b9)))) (hJ : lwJ q M) (hq : 3 * q + 3 ≤ N) (hkn : k + 2 ≤ 603072 ∧ n + 12 ≤ 7207018) (kk : lwK P Θ cm a b q k n) : xX P Θ 2259 [some (.ref (a)), some (.ref (b)), some (.ref (b + 566)), some (.ref (b + 578)), some (.ref (b + 579)), some (.int (nI (3 * q))), none, none, none, none] [] F z k n := by
  obtain ⟨hC, hX, ha, hN, hCM, hSM, hSR, hZx, hNx⟩ := E
  obtain ⟨hI, hS, hpp⟩ := id hJ
  obtain ⟨hk9, hn9⟩ := hkn
  have hu8 : M.2.2.2.2.2.2.2.1 ≤ 8 := hI.2.2.2.1
  have hup0 : M.2.2.2.2.2.2.2.1 ≤ M.2.2.2.2.2.2.1 := hI.2.2.2.2.1
  have hsv0 : M.2.2.2.2.2.1 ≤ 1 := hI.2.2.2.2.2.1
  have hpp0 : M.2.2.2.2.2.2.1 < 100000 := by omega
  have hun0 : M.2.2.2.2.2.2.2.1 < 100000 := by omega
  obtain ⟨hb1, hb2, hb3⟩ := hS.1
  have hnx : M.1.2.2.1.2.1 < 999 := by omega
  have hn0 : M.1.2.2.1.2.1 + 1 < 1000 := by omega
  have hg0 : M.1.2.2.2.2.2.2.1 < 1000 := by omega
  have hf0 : M.1.2.2.2.2.2.2.2.2 < 1000 := by omega
  refine x_aload_n hC d_Law_law_2259 rfl rfl ?_
  obtain ⟨hMo, -⟩ := id hM
  refine x_callV hC kv_Law_311 (c_MessageCoder_receivedLength (hM := hM) ) hMo rfl rfl (Nat.le_of_ble_eq_true rfl) rfl rfl rfl (Nat.le_of_ble_eq_true rfl) ⟨by omega, by omega⟩ d_Law_law_2260 (fun r9 Fc z9 hp9 => ?_)
  obtain ⟨rfl, h9b, h9c⟩ := hp9
  rw [h9b, h9c]
  clear h9b h9c Fc z9
  refine x_aload_n hC d_Law_law_2263 rfl rfl ?_
  obtain ⟨fsD, hDo⟩ := xMD_at hD
  refine x_callV hC kv_Law_314 (c_MessageCoderModel_receivedLength (hD := hD) (hI := hI)) hDo rfl rfl (Nat.le_of_ble_eq_true rfl) rfl rfl rfl (Nat.le_of_ble_eq_true rfl) ⟨by omega, by omega⟩ d_Law_law_2264 (fun r9 Fm z9 hp9 => ?_)
  obtain ⟨rfl, h9c, j0, hag9⟩ := hp9
  rw [h9c]
  clear h9c z9
  have hM : xMC Fm (cm) (b) (M) := xMC_fr hM (fun a9 q1 q2 => hag9 a9 (by omega))
  have hD : xMD Fm (((b + 566))) (0) (M) := j0
  have ho : Fm (b + 578) = some (.inr (2, 1, fun b9 => .long (g b9))) := (hag9 _ (by omega)).trans ho
  have hod : Fm (b + 579) = some (.inr (3, 1, fun b9 => .double (gd b9))) := (hag9 _ (by omega)).trans hod
  clear j0 hag9
  refine x_icmp_eq hC d_Law_law_2267 (tgt := 2933) (by decide) (fun c_2267 => ?_) (fun c_2267 => ?_)
  · skip
    exact kk _ _ _ _ _ _ _ _ hM hD ho hod (lwJ_s hJ) (by omega) (by omega)
  · exact absurd rfl c_2267

set_option maxHeartbeats 4000000 in
set_option maxRecDepth 20000 in
theorem lc_44 {P : xP} {Θ : xT} {cm : cmT} {a N b sm rt q : Nat} {xs : Nat → Int32} (E : lwE P Θ cm a N b sm rt xs) {F : xF} {z k n th : Nat} {M : mcS} {g : Nat → Int64} {gd : Nat → UInt64} (hM : xMC F (cm) (b) (M)) (hD : xMD F (b + 566) (th) (M)) (ho : F (b + 578) = some (.inr (2, 1, fun b9 => .long (g b9)))) (hod : F (b + 579) = some (.inr (3, 1, fun b9 => .double (gd b9)))) (hJ : lwJ q M) (hq : 3 * q + 3 ≤ N) (hkn : k + 2 ≤ 603072 ∧ n + 12 ≤ 7207018) (kk : lwK P Θ cm a b q k n) : xX P Θ 2272 [some (.ref (a)), some (.ref (b)), some (.ref (b + 566)), some (.ref (b + 578)), some (.ref (b + 579)), some (.int (nI (3 * q))), none, none, none, none] [] F z k n := by
  obtain ⟨hC, hX, ha, hN, hCM, hSM, hSR, hZx, hNx⟩ := E
  obtain ⟨hI, hS, hpp⟩ := id hJ
  obtain ⟨hk9, hn9⟩ := hkn
  have hu8 : M.2.2.2.2.2.2.2.1 ≤ 8 := hI.2.2.2.1
  have hup0 : M.2.2.2.2.2.2.2.1 ≤ M.2.2.2.2.2.2.1 := hI.2.2.2.2.1
  have hsv0 : M.2.2.2.2.2.1 ≤ 1 := hI.2.2.2.2.2.1
  have hpp0 : M.2.2.2.2.2.2.1 < 100000 := by omega
  have hun0 : M.2.2.2.2.2.2.2.1 < 100000 := by omega
  obtain ⟨hb1, hb2, hb3⟩ := hS.1
  have hnx : M.1.2.2.1.2.1 < 999 := by omega
  have hn0 : M.1.2.2.1.2.1 + 1 < 1000 := by omega
  have hg0 : M.1.2.2.2.2.2.2.1 < 1000 := by omega
  have hf0 : M.1.2.2.2.2.2.2.2.2 < 1000 := by omega
  refine x_aload_n hC d_Law_law_2272 rfl rfl ?_
  refine x_aload_n hC d_Law_law_2273 rfl rfl ?_
  refine x_iload hC d_Law_law_2274 rfl ?_
  refine x_iconst hC d_Law_law_2276 (v := nI 1) (by decide) ?_
  refine x_iadd hC d_Law_law_2277 (v := (nI (3 * q + 1))) (x_addN (by omega)) ?_
  refine x_sld hC hX ha (j := 3 * q + 1) ⟨rfl, by omega, by omega⟩ d_Law_law_2278 ?_
  refine x_aload_n hC d_Law_law_2279 rfl rfl ?_
  refine x_callW hC kw_Law_315 (c_Law_receivedAt (hM := hM) (ho := ho) (hZx := hZx) (hNx := hNx) (hbo := Or.inr (by omega))) (Nat.le_of_ble_eq_true rfl) rfl rfl rfl (Nat.le_of_ble_eq_true rfl) ⟨by omega, by omega⟩ d_Law_law_2280 (fun r9 Fw zw hp9 => ?_)
  rcases hp9 with ⟨rfl, hM9, ho9, p_0, hag9⟩ | ⟨rfl, hM9, ho9, hcond, hag9⟩
  · skip
    have hM : xMC Fw (cm) (b) (M) := hM9
    have hD : xMD Fw (b + 566) (th) (M) := xMD_fr hD (fun a9 q1 q2 => hag9 a9 (by omega) (by omega))
    have ho : Fw (b + 578) = some (.inr (2, 1, fun b9 => .long ((vp_updL g 0 (((nI (M.1.2.2.2.2.1.2 (xs (3 * q + 1)).toNatClampNeg))).toInt64)) b9))) := ho9
    have hod : Fw (b + 579) = some (.inr (3, 1, fun b9 => .double (gd b9))) := (hag9 _ (by omega) (by omega)).trans hod
    clear hM9 ho9 hag9
    refine x_istore hC d_Law_law_2283 (Nat.le_of_ble_eq_true rfl) (L1 := [some (.ref a), some (.ref b), some (.ref (b + 566)), some (.ref (b + 578)), some (.ref (b + 579)), some (.int (nI (3 * q))), some (.int (nI 0)), none, none, none]) rfl ?_
    refine x_aload_n hC d_Law_law_2285 rfl rfl ?_
    refine x_aload_n hC d_Law_law_2286 rfl rfl ?_
    refine x_iload hC d_Law_law_2287 rfl ?_
    refine x_iconst hC d_Law_law_2289 (v := nI 1) (by decide) ?_
    refine x_iadd hC d_Law_law_2290 (v := (nI (3 * q + 1))) (x_addN (by omega)) ?_
    refine x_sld hC hX ha (j := 3 * q + 1) ⟨rfl, by omega, by omega⟩ d_Law_law_2291 ?_
    obtain ⟨fsD, hDo⟩ := xMD_at hD
    refine x_callV hC kv_Law_317 (c_MessageCoderModel_receivedAt (hD := hD) (hI := hI)) hDo rfl rfl (Nat.le_of_ble_eq_true rfl) rfl rfl rfl (Nat.le_of_ble_eq_true rfl) ⟨by omega, by omega⟩ d_Law_law_2292 (fun r9 Fm z9 hp9 => ?_)
    obtain ⟨rfl, h9c, j0, hag9⟩ := hp9
    rw [h9c]
    clear h9c z9
    have hM : xMC Fm (cm) (b) (M) := xMC_fr hM (fun a9 q1 q2 => hag9 a9 (by omega))
    have hD : xMD Fm (((b + 566))) ((if 0 ≤ (xs (3 * q + 1)) ∧ (xs (3 * q + 1)) < nI M.1.2.2.2.2.1.1 then 0 else 1)) (M) := j0
    have ho : Fm (b + 578) = some (.inr (2, 1, fun b9 => .long ((vp_updL g 0 (((nI (M.1.2.2.2.2.1.2 (xs (3 * q + 1)).toNatClampNeg))).toInt64)) b9))) := (hag9 _ (by omega)).trans ho
    have hod : Fm (b + 579) = some (.inr (3, 1, fun b9 => .double (gd b9))) := (hag9 _ (by omega)).trans hod
    clear j0 hag9
    have hT : ((if 0 ≤ (xs (3 * q + 1)) ∧ (xs (3 * q + 1)) < nI M.1.2.2.2.2.1.1 then 0 else 1)) = 0 := if_pos p_0
    rw [hT] at hD
    refine x_top (v := (nI (M.1.2.2.2.2.1.2 (xs (3 * q + 1)).toNatClampNeg))) (congrArg nI (if_pos p_0)) ?_
    refine x_istore hC d_Law_law_2295 (Nat.le_of_ble_eq_true rfl) (L1 := [some (.ref a), some (.ref b), some (.ref (b + 566)), some (.ref (b + 578)), some (.ref (b + 579)), some (.int (nI (3 * q))), some (.int (nI 0)), some (.int (nI (M.1.2.2.2.2.1.2 (xs (3 * q + 1)).toNatClampNeg))), none, none]) rfl ?_
    refine x_aload_n hC d_Law_law_2297 rfl rfl ?_
    obtain ⟨fsD, hDo⟩ := xMD_at hD
    refine x_callV hC kv_Law_163 (c_thrownD hD) hDo rfl rfl (Nat.le_of_ble_eq_true rfl) rfl rfl rfl (Nat.le_of_ble_eq_true rfl) ⟨by omega, by omega⟩ d_Law_law_2298 (fun r9 F9 z9 hp9 => ?_)
    obtain ⟨rfl, h9b, h9c⟩ := hp9
    rw [h9b, h9c]
    clear h9b h9c F9 z9
    refine x_iload hC d_Law_law_2301 rfl ?_
    refine x_icmpN_eq hC d_Law_law_2303 (tgt := 2308) (by decide) (by omega) (by omega) (fun c_2303 => ?_) (fun c_2303 => ?_)
    · skip
      refine x_iload hC d_Law_law_2308 rfl ?_
      refine x_ifN_ne hC d_Law_law_2310 (tgt := 2325) (by decide) (by omega) (fun c_2310 => ?_) (fun c_2310 => ?_)
      · skip
        exact absurd c_2310 (by omega)
      · skip
        refine x_aload_n hC d_Law_law_2313 rfl rfl ?_
        refine x_iconst hC d_Law_law_2314 (v := nI 0) (by decide) ?_
        refine x_lald hC ho (j := 0) ⟨rfl, by decide, by decide⟩ (x := ((nI (M.1.2.2.2.2.1.2 (xs (3 * q + 1)).toNatClampNeg))).toInt64) rfl d_Law_law_2315 ?_
        refine x_iload hC d_Law_law_2316 rfl ?_
        refine x_i2l hC d_Law_law_2318 rfl ?_
        refine x_lcmp hC d_Law_law_2319 ?_
        refine x_top (v := nI 0) (lg_self _) ?_
        refine x_ifN_eq hC d_Law_law_2320 (tgt := 2325) (by decide) (by omega) (fun c_2320 => ?_) (fun c_2320 => ?_)
        · skip
          refine x_goto hC d_Law_law_2325 (tgt := 2933) (by decide) ?_
          refine x_forget (L1 := [some (.ref a), some (.ref b), some (.ref (b + 566)), some (.ref (b + 578)), some (.ref (b + 579)), some (.int (nI (3 * q))), none, none, none, none]) ⟨Or.inr rfl, ⟨Or.inr rfl, ⟨Or.inr rfl, ⟨Or.inr rfl, ⟨Or.inr rfl, ⟨Or.inr rfl, ⟨Or.inl rfl, ⟨Or.inl rfl, ⟨Or.inl rfl, ⟨Or.inl rfl, trivial⟩⟩⟩⟩⟩⟩⟩⟩⟩⟩ ?_
          exact kk _ _ _ _ _ _ _ _ hM hD ho hod (lwJ_s hJ) (by omega) (by omega)
        · skip
          exact absurd c_2320 (by omega)
    · skip
      exact absurd c_2303 (by omega)
  · skip
    have hM : xMC Fw (cm) (b) (M) := hM9
    have hD : xMD Fw (b + 566) (th) (M) := xMD_fr hD (fun a9 q1 q2 => hag9 a9 (by omega) (by omega))
    have ho : Fw (b + 578) = some (.inr (2, 1, fun b9 => .long (g b9))) := ho9
    have hod : Fw (b + 579) = some (.inr (3, 1, fun b9 => .double (gd b9))) := (hag9 _ (by omega) (by omega)).trans hod
    clear hM9 ho9 hag9
    refine x_istore hC d_Law_law_2283 (Nat.le_of_ble_eq_true rfl) (L1 := [some (.ref a), some (.ref b), some (.ref (b + 566)), some (.ref (b + 578)), some (.ref (b + 579)), some (.int (nI (3 * q))), some (.int (nI 1)), none, none, none]) rfl ?_
    refine x_aload_n hC d_Law_law_2285 rfl rfl ?_
    refine x_aload_n hC d_Law_law_2286 rfl rfl ?_
    refine x_iload hC d_Law_law_2287 rfl ?_
    refine x_iconst hC d_Law_law_2289 (v := nI 1) (by decide) ?_
    refine x_iadd hC d_Law_law_2290 (v := (nI (3 * q + 1))) (x_addN (by omega)) ?_
    refine x_sld hC hX ha (j := 3 * q + 1) ⟨rfl, by omega, by omega⟩ d_Law_law_2291 ?_
    obtain ⟨fsD, hDo⟩ := xMD_at hD
    refine x_callV hC kv_Law_317 (c_MessageCoderModel_receivedAt (hD := hD) (hI := hI)) hDo rfl rfl (Nat.le_of_ble_eq_true rfl) rfl rfl rfl (Nat.le_of_ble_eq_true rfl) ⟨by omega, by omega⟩ d_Law_law_2292 (fun r9 Fm z9 hp9 => ?_)
    obtain ⟨rfl, h9c, j0, hag9⟩ := hp9
    rw [h9c]
    clear h9c z9
    have hM : xMC Fm (cm) (b) (M) := xMC_fr hM (fun a9 q1 q2 => hag9 a9 (by omega))
    have hD : xMD Fm (((b + 566))) ((if 0 ≤ (xs (3 * q + 1)) ∧ (xs (3 * q + 1)) < nI M.1.2.2.2.2.1.1 then 0 else 1)) (M) := j0
    have ho : Fm (b + 578) = some (.inr (2, 1, fun b9 => .long (g b9))) := (hag9 _ (by omega)).trans ho
    have hod : Fm (b + 579) = some (.inr (3, 1, fun b9 => .double (gd b9))) := (hag9 _ (by omega)).trans hod
    clear j0 hag9
    have hT : ((if 0 ≤ (xs (3 * q + 1)) ∧ (xs (3 * q + 1)) < nI M.1.2.2.2.2.1.1 then 0 else 1)) = 1 := if_neg hcond
    rw [hT] at hD
    refine x_istore hC d_Law_law_2295 (Nat.le_of_ble_eq_true rfl) (L1 := [some (.ref a), some (.ref b), some (.ref (b + 566)), some (.ref (b + 578)), some (.ref (b + 579)), some (.int (nI (3 * q))), some (.int (nI 1)), some (.int (nI (if 0 ≤ (xs (3 * q + 1)) ∧ (xs (3 * q + 1)) < nI M.1.2.2.2.2.1.1 then M.1.2.2.2.2.1.2 (xs (3 * q + 1)).toNatClampNeg else 0))), none, none]) rfl ?_
    refine x_aload_n hC d_Law_law_2297 rfl rfl ?_
    obtain ⟨fsD, hDo⟩ := xMD_at hD
    refine x_callV hC kv_Law_163 (c_thrownD hD) hDo rfl rfl (Nat.le_of_ble_eq_true rfl) rfl rfl rfl (Nat.le_of_ble_eq_true rfl) ⟨by omega, by omega⟩ d_Law_law_2298 (fun r9 F9 z9 hp9 => ?_)
    obtain ⟨rfl, h9b, h9c⟩ := hp9
    rw [h9b, h9c]
    clear h9b h9c F9 z9
    refine x_iload hC d_Law_law_2301 rfl ?_
    refine x_icmpN_eq hC d_Law_law_2303 (tgt := 2308) (by decide) (by omega) (by omega) (fun c_2303 => ?_) (fun c_2303 => ?_)
    · skip
      refine x_iload hC d_Law_law_2308 rfl ?_
      refine x_ifN_ne hC d_Law_law_2310 (tgt := 2325) (by decide) (by omega) (fun c_2310 => ?_) (fun c_2310 => ?_)
      · skip
        refine x_goto hC d_Law_law_2325 (tgt := 2933) (by decide) ?_
        refine x_forget (L1 := [some (.ref a), some (.ref b), some (.ref (b + 566)), some (.ref (b + 578)), some (.ref (b + 579)), some (.int (nI (3 * q))), none, none, none, none]) ⟨Or.inr rfl, ⟨Or.inr rfl, ⟨Or.inr rfl, ⟨Or.inr rfl, ⟨Or.inr rfl, ⟨Or.inr rfl, ⟨Or.inl rfl, ⟨Or.inl rfl, ⟨Or.inl rfl, ⟨Or.inl rfl, trivial⟩⟩⟩⟩⟩⟩⟩⟩⟩⟩ ?_
        exact kk _ _ _ _ _ _ _ _ hM hD ho hod (lwJ_s hJ) (by omega) (by omega)
      · skip
        exact absurd c_2310 (by omega)
    · skip
      exact absurd c_2303 (by omega)

set_option maxHeartbeats 4000000 in
set_option maxRecDepth 20000 in
theorem lc_45 {P : xP} {Θ : xT} {cm : cmT} {a N b sm rt q : Nat} {xs : Nat → Int32} (E : lwE P Θ cm a N b sm rt xs) {F : xF} {z k n th : Nat} {M : mcS} {g : Nat → Int64} {gd : Nat → UInt64} (hM : xMC F (cm) (b) (M)) (hD : xMD F (b + 566) (th) (M)) (ho : F (b + 578) = some (.inr (2, 1, fun b9 => .long (g b9)))) (hod : F (b + 579) = some (.inr (3, 1, fun b9 => .double (gd b9)))) (hJ : lwJ q M) (hq : 3 * q + 3 ≤ N) (hkn : k + 2 ≤ 603072 ∧ n + 12 ≤ 7207018) (kk : lwK P Θ cm a b q k n) : xX P Θ 2328 [some (.ref (a)), some (.ref (b)), some (.ref (b + 566)), some (.ref (b + 578)), some (.ref (b + 579)), some (.int (nI (3 * q))), none, none, none, none] [] F z k n := by
  obtain ⟨hC, hX, ha, hN, hCM, hSM, hSR, hZx, hNx⟩ := E
  obtain ⟨hI, hS, hpp⟩ := id hJ
  obtain ⟨hk9, hn9⟩ := hkn
  have hu8 : M.2.2.2.2.2.2.2.1 ≤ 8 := hI.2.2.2.1
  have hup0 : M.2.2.2.2.2.2.2.1 ≤ M.2.2.2.2.2.2.1 := hI.2.2.2.2.1
  have hsv0 : M.2.2.2.2.2.1 ≤ 1 := hI.2.2.2.2.2.1
  have hpp0 : M.2.2.2.2.2.2.1 < 100000 := by omega
  have hun0 : M.2.2.2.2.2.2.2.1 < 100000 := by omega
  obtain ⟨hb1, hb2, hb3⟩ := hS.1
  have hnx : M.1.2.2.1.2.1 < 999 := by omega
  have hn0 : M.1.2.2.1.2.1 + 1 < 1000 := by omega
  have hg0 : M.1.2.2.2.2.2.2.1 < 1000 := by omega
  have hf0 : M.1.2.2.2.2.2.2.2.2 < 1000 := by omega
  refine x_aload_n hC d_Law_law_2328 rfl rfl ?_
  obtain ⟨hMo, -⟩ := id hM
  refine x_callV hC kv_Law_318 (c_MessageCoder_sentTotal (hM := hM) ) hMo rfl rfl (Nat.le_of_ble_eq_true rfl) rfl rfl rfl (Nat.le_of_ble_eq_true rfl) ⟨by omega, by omega⟩ d_Law_law_2329 (fun r9 Fc z9 hp9 => ?_)
  obtain ⟨rfl, h9b, h9c⟩ := hp9
  rw [h9b, h9c]
  clear h9b h9c Fc z9
  refine x_aload_n hC d_Law_law_2332 rfl rfl ?_
  obtain ⟨fsD, hDo⟩ := xMD_at hD
  refine x_callV hC kv_Law_321 (c_MessageCoderModel_sentTotal (hD := hD) (hI := hI)) hDo rfl rfl (Nat.le_of_ble_eq_true rfl) rfl rfl rfl (Nat.le_of_ble_eq_true rfl) ⟨by omega, by omega⟩ d_Law_law_2333 (fun r9 Fm z9 hp9 => ?_)
  obtain ⟨rfl, h9c, j0, hag9⟩ := hp9
  rw [h9c]
  clear h9c z9
  have hM : xMC Fm (cm) (b) (M) := xMC_fr hM (fun a9 q1 q2 => hag9 a9 (by omega))
  have hD : xMD Fm (((b + 566))) (0) (M) := j0
  have ho : Fm (b + 578) = some (.inr (2, 1, fun b9 => .long (g b9))) := (hag9 _ (by omega)).trans ho
  have hod : Fm (b + 579) = some (.inr (3, 1, fun b9 => .double (gd b9))) := (hag9 _ (by omega)).trans hod
  clear j0 hag9
  refine x_icmp_eq hC d_Law_law_2336 (tgt := 2933) (by decide) (fun c_2336 => ?_) (fun c_2336 => ?_)
  · skip
    exact kk _ _ _ _ _ _ _ _ hM hD ho hod (lwJ_s hJ) (by omega) (by omega)
  · exact absurd rfl c_2336

set_option maxHeartbeats 4000000 in
set_option maxRecDepth 20000 in
theorem lc_46 {P : xP} {Θ : xT} {cm : cmT} {a N b sm rt q : Nat} {xs : Nat → Int32} (E : lwE P Θ cm a N b sm rt xs) {F : xF} {z k n th : Nat} {M : mcS} {g : Nat → Int64} {gd : Nat → UInt64} (hM : xMC F (cm) (b) (M)) (hD : xMD F (b + 566) (th) (M)) (ho : F (b + 578) = some (.inr (2, 1, fun b9 => .long (g b9)))) (hod : F (b + 579) = some (.inr (3, 1, fun b9 => .double (gd b9)))) (hJ : lwJ q M) (hq : 3 * q + 3 ≤ N) (hkn : k + 2 ≤ 603072 ∧ n + 12 ≤ 7207018) (kk : lwK P Θ cm a b q k n) : xX P Θ 2341 [some (.ref (a)), some (.ref (b)), some (.ref (b + 566)), some (.ref (b + 578)), some (.ref (b + 579)), some (.int (nI (3 * q))), none, none, none, none] [] F z k n := by
  obtain ⟨hC, hX, ha, hN, hCM, hSM, hSR, hZx, hNx⟩ := E
  obtain ⟨hI, hS, hpp⟩ := id hJ
  obtain ⟨hk9, hn9⟩ := hkn
  have hu8 : M.2.2.2.2.2.2.2.1 ≤ 8 := hI.2.2.2.1
  have hup0 : M.2.2.2.2.2.2.2.1 ≤ M.2.2.2.2.2.2.1 := hI.2.2.2.2.1
  have hsv0 : M.2.2.2.2.2.1 ≤ 1 := hI.2.2.2.2.2.1
  have hpp0 : M.2.2.2.2.2.2.1 < 100000 := by omega
  have hun0 : M.2.2.2.2.2.2.2.1 < 100000 := by omega
  obtain ⟨hb1, hb2, hb3⟩ := hS.1
  have hnx : M.1.2.2.1.2.1 < 999 := by omega
  have hn0 : M.1.2.2.1.2.1 + 1 < 1000 := by omega
  have hg0 : M.1.2.2.2.2.2.2.1 < 1000 := by omega
  have hf0 : M.1.2.2.2.2.2.2.2.2 < 1000 := by omega
  refine x_aload_n hC d_Law_law_2341 rfl rfl ?_
  obtain ⟨hMo, -⟩ := id hM
  refine x_callV hC kv_Law_322 (c_MessageCoder_receivedTotal (hM := hM) ) hMo rfl rfl (Nat.le_of_ble_eq_true rfl) rfl rfl rfl (Nat.le_of_ble_eq_true rfl) ⟨by omega, by omega⟩ d_Law_law_2342 (fun r9 Fc z9 hp9 => ?_)
  obtain ⟨rfl, h9b, h9c⟩ := hp9
  rw [h9b, h9c]
  clear h9b h9c Fc z9
  refine x_aload_n hC d_Law_law_2345 rfl rfl ?_
  obtain ⟨fsD, hDo⟩ := xMD_at hD
  refine x_callV hC kv_Law_325 (c_MessageCoderModel_receivedTotal (hD := hD) (hI := hI)) hDo rfl rfl (Nat.le_of_ble_eq_true rfl) rfl rfl rfl (Nat.le_of_ble_eq_true rfl) ⟨by omega, by omega⟩ d_Law_law_2346 (fun r9 Fm z9 hp9 => ?_)
  obtain ⟨rfl, h9c, j0, hag9⟩ := hp9
  rw [h9c]
  clear h9c z9
  have hM : xMC Fm (cm) (b) (M) := xMC_fr hM (fun a9 q1 q2 => hag9 a9 (by omega))
  have hD : xMD Fm (((b + 566))) (0) (M) := j0
  have ho : Fm (b + 578) = some (.inr (2, 1, fun b9 => .long (g b9))) := (hag9 _ (by omega)).trans ho
  have hod : Fm (b + 579) = some (.inr (3, 1, fun b9 => .double (gd b9))) := (hag9 _ (by omega)).trans hod
  clear j0 hag9
  refine x_icmp_eq hC d_Law_law_2349 (tgt := 2933) (by decide) (fun c_2349 => ?_) (fun c_2349 => ?_)
  · skip
    exact kk _ _ _ _ _ _ _ _ hM hD ho hod (lwJ_s hJ) (by omega) (by omega)
  · exact absurd rfl c_2349

set_option maxHeartbeats 4000000 in
set_option maxRecDepth 20000 in
theorem lc_47 {P : xP} {Θ : xT} {cm : cmT} {a N b sm rt q : Nat} {xs : Nat → Int32} (E : lwE P Θ cm a N b sm rt xs) {F : xF} {z k n th : Nat} {M : mcS} {g : Nat → Int64} {gd : Nat → UInt64} (hM : xMC F (cm) (b) (M)) (hD : xMD F (b + 566) (th) (M)) (ho : F (b + 578) = some (.inr (2, 1, fun b9 => .long (g b9)))) (hod : F (b + 579) = some (.inr (3, 1, fun b9 => .double (gd b9)))) (hJ : lwJ q M) (hq : 3 * q + 3 ≤ N) (hkn : k + 2 ≤ 603072 ∧ n + 12 ≤ 7207018) (kk : lwK P Θ cm a b q k n) : xX P Θ 2354 [some (.ref (a)), some (.ref (b)), some (.ref (b + 566)), some (.ref (b + 578)), some (.ref (b + 579)), some (.int (nI (3 * q))), none, none, none, none] [] F z k n := by
  obtain ⟨hC, hX, ha, hN, hCM, hSM, hSR, hZx, hNx⟩ := E
  obtain ⟨hI, hS, hpp⟩ := id hJ
  obtain ⟨hk9, hn9⟩ := hkn
  have hu8 : M.2.2.2.2.2.2.2.1 ≤ 8 := hI.2.2.2.1
  have hup0 : M.2.2.2.2.2.2.2.1 ≤ M.2.2.2.2.2.2.1 := hI.2.2.2.2.1
  have hsv0 : M.2.2.2.2.2.1 ≤ 1 := hI.2.2.2.2.2.1
  have hpp0 : M.2.2.2.2.2.2.1 < 100000 := by omega
  have hun0 : M.2.2.2.2.2.2.2.1 < 100000 := by omega
  obtain ⟨hb1, hb2, hb3⟩ := hS.1
  have hnx : M.1.2.2.1.2.1 < 999 := by omega
  have hn0 : M.1.2.2.1.2.1 + 1 < 1000 := by omega
  have hg0 : M.1.2.2.2.2.2.2.1 < 1000 := by omega
  have hf0 : M.1.2.2.2.2.2.2.2.2 < 1000 := by omega
  refine x_aload_n hC d_Law_law_2354 rfl rfl ?_
  obtain ⟨hMo, -⟩ := id hM
  refine x_callV hC kv_Law_326 (c_MessageCoder_correctedTotal (hM := hM) ) hMo rfl rfl (Nat.le_of_ble_eq_true rfl) rfl rfl rfl (Nat.le_of_ble_eq_true rfl) ⟨by omega, by omega⟩ d_Law_law_2355 (fun r9 Fc z9 hp9 => ?_)
  obtain ⟨rfl, h9b, h9c⟩ := hp9
  rw [h9b, h9c]
  clear h9b h9c Fc z9
  refine x_aload_n hC d_Law_law_2358 rfl rfl ?_
  obtain ⟨fsD, hDo⟩ := xMD_at hD
  refine x_callV hC kv_Law_329 (c_MessageCoderModel_correctedTotal (hD := hD) (hI := hI)) hDo rfl rfl (Nat.le_of_ble_eq_true rfl) rfl rfl rfl (Nat.le_of_ble_eq_true rfl) ⟨by omega, by omega⟩ d_Law_law_2359 (fun r9 Fm z9 hp9 => ?_)
  obtain ⟨rfl, h9c, j0, hag9⟩ := hp9
  rw [h9c]
  clear h9c z9
  have hM : xMC Fm (cm) (b) (M) := xMC_fr hM (fun a9 q1 q2 => hag9 a9 (by omega))
  have hD : xMD Fm (((b + 566))) (0) (M) := j0
  have ho : Fm (b + 578) = some (.inr (2, 1, fun b9 => .long (g b9))) := (hag9 _ (by omega)).trans ho
  have hod : Fm (b + 579) = some (.inr (3, 1, fun b9 => .double (gd b9))) := (hag9 _ (by omega)).trans hod
  clear j0 hag9
  refine x_icmp_eq hC d_Law_law_2362 (tgt := 2933) (by decide) (fun c_2362 => ?_) (fun c_2362 => ?_)
  · skip
    exact kk _ _ _ _ _ _ _ _ hM hD ho hod (lwJ_s hJ) (by omega) (by omega)
  · exact absurd rfl c_2362

