/-! the law: its cases -/
def lwE (P : xP) (Θ : xT) (cm : cmT) (a N b sm rt : Nat) (xs : Nat → Int32) : Prop := xC P Θ code "MessageCoderLaw" 10 1573 603072 7207018 ∧ va_X a N xs Θ.2.2.2.1 P.2.2.1 ∧ a < P.2.2.2.1 ∧ N ≤ 1536 ∧ xCM P cm ∧ xSM P sm ∧ xSR P rt ∧ xZx P ∧ xNx P
def lwK (P : xP) (Θ : xT) (cm : cmT) (a b q k n : Nat) : Prop := ∀ (F1 : xF) (z1 k1 n1 th1 : Nat) (M1 : mcS) (g1 : Nat → Int64) (gd1 : Nat → UInt64), xMC F1 cm b M1 → xMD F1 (b + 566) th1 M1 → F1 (b + 578) = some (.inr (2, 1, fun b9 => .long (g1 b9))) → F1 (b + 579) = some (.inr (3, 1, fun b9 => .double (gd1 b9))) → lwJ (q + 1) M1 → k1 ≤ k + 2 → n1 ≤ n + 12 → xX P Θ 2933 [some (.ref (a)), some (.ref (b)), some (.ref (b + 566)), some (.ref (b + 578)), some (.ref (b + 579)), some (.int (nI (3 * q))), none, none, none, none] [] F1 z1 k1 n1
theorem ok_of {v : Int32} (h : ¬ v < 0 ∨ v = -1 ∨ v = -2 ∨ v = -3 ∨ v = -4) (h1 : ¬ v = -1) (h2 : ¬ v = -2) (h3 : ¬ v = -3) (h4 : ¬ v = -4) : ¬ v < 0 := by
  rcases h with h | h | h | h | h
  · exact h
  · exact absurd h h1
  · exact absurd h h2
  · exact absurd h h3
  · exact absurd h h4
theorem dc_0 {x : UInt64} (h : x.toNat % 2 ^ 63 ≤ 9218868437227405312) {op : CmpOp} : Op.cmpValue (FP.dcmp x x) op = nI 0 := by
  rw [fl_dcmp h]
  rfl
theorem sumN_p8 {w : Nat → Nat} (h : ∀ j, j < 8 → 1 ≤ w j) : 0 < sumN w 8 := Nat.lt_of_lt_of_le (show 0 < w 7 from h 7 (by decide)) (Nat.le_add_left (w 7) (sumN w 7))

set_option maxHeartbeats 4000000 in
set_option maxRecDepth 20000 in
theorem lc_0 {P : xP} {Θ : xT} {cm : cmT} {a N b sm rt q : Nat} {xs : Nat → Int32} (E : lwE P Θ cm a N b sm rt xs) {F : xF} {z k n th : Nat} {M : mcS} {g : Nat → Int64} {gd : Nat → UInt64} (hM : xMC F (cm) (b) (M)) (hD : xMD F (b + 566) (th) (M)) (ho : F (b + 578) = some (.inr (2, 1, fun b9 => .long (g b9)))) (hod : F (b + 579) = some (.inr (3, 1, fun b9 => .double (gd b9)))) (hJ : lwJ q M) (hq : 3 * q + 3 ≤ N) (hkn : k + 2 ≤ 603072 ∧ n + 12 ≤ 7207018) (kk : lwK P Θ cm a b q k n) : xX P Θ 308 [some (.ref (a)), some (.ref (b)), some (.ref (b + 566)), some (.ref (b + 578)), some (.ref (b + 579)), some (.int (nI (3 * q))), none, none, none, none] [] F z k n := by
  obtain ⟨hC, hX, ha, hN, hCM, hSM, hSR, hZx, hNx⟩ := E
  obtain ⟨hI, hS, hpp⟩ := id hJ
  obtain ⟨hk9, hn9⟩ := hkn
  have hu8 : M.2.2.2.2.2.2.2.1 ≤ 8 := hI.2.2.2.1
  have hup0 : M.2.2.2.2.2.2.2.1 ≤ M.2.2.2.2.2.2.1 := hI.2.2.2.2.1
  have hsv0 : M.2.2.2.2.2.1 ≤ 1 := hI.2.2.2.2.2.1
  have hpp0 : M.2.2.2.2.2.2.1 < 100000 := by omega
  have hun0 : M.2.2.2.2.2.2.2.1 < 100000 := by omega
  obtain ⟨hb1, hb2, hb3⟩ := hS.1
  have hnx : M.1.2.2.1.2.1 < 999 := by omega
  have hn0 : M.1.2.2.1.2.1 + 1 < 1000 := by omega
  have hg0 : M.1.2.2.2.2.2.2.1 < 1000 := by omega
  have hf0 : M.1.2.2.2.2.2.2.2.2 < 1000 := by omega
  refine x_aload_n hC d_Law_law_308 rfl rfl ?_
  refine x_aload_n hC d_Law_law_309 rfl rfl ?_
  refine x_iload hC d_Law_law_310 rfl ?_
  refine x_iconst hC d_Law_law_312 (v := nI 1) (by decide) ?_
  refine x_iadd hC d_Law_law_313 (v := (nI (3 * q + 1))) (x_addN (by omega)) ?_
  refine x_sld hC hX ha (j := 3 * q + 1) ⟨rfl, by omega, by omega⟩ d_Law_law_314 ?_
  refine x_i2c hC d_Law_law_315 (v := nI (chN (xs (3 * q + 1)))) (chN_I _) ?_
  refine x_aload_n hC d_Law_law_316 rfl rfl ?_
  refine x_iload hC d_Law_law_317 rfl ?_
  refine x_iconst hC d_Law_law_319 (v := nI 2) (by decide) ?_
  refine x_iadd hC d_Law_law_320 (v := (nI (3 * q + 2))) (x_addN (by omega)) ?_
  refine x_sld hC hX ha (j := 3 * q + 2) ⟨rfl, by omega, by omega⟩ d_Law_law_321 ?_
  refine x_aload_n hC d_Law_law_322 rfl rfl ?_
  refine x_callW hC kw_Law_157 (c_Law_setWeight (hM := hM) (ho := ho) (hCM := hCM) (hSM := hSM) (hZx := hZx) (hpp0 := hpp0) (hun0 := hun0) (hc0 := chN_lt _) (hNx := hNx) (hbo := Or.inr (by omega))) (Nat.le_of_ble_eq_true rfl) rfl rfl rfl (Nat.le_of_ble_eq_true rfl) ⟨by omega, by omega⟩ d_Law_law_323 (fun r9 Fw zw hp9 => ?_)
  rcases hp9 with ⟨rfl, hM9, ho9, p_0, hag9⟩ | ⟨rfl, hM9, ho9, hcond, hag9⟩
  · skip
    have hM : xMC Fw (cm) (b) ((chgM M (aWt M.1 (chN (xs (3 * q + 1))) (xs (3 * q + 2))))) := hM9
    have hD : xMD Fw (b + 566) (th) (M) := xMD_fr hD (fun a9 q1 q2 => hag9 a9 (by omega) (by omega))
    have ho : Fw (b + 578) = some (.inr (2, 1, fun b9 => .long ((vp_updL g 0 ((((aWt M.1 (chN (xs (3 * q + 1))) (xs (3 * q + 2))).1)).toInt64)) b9))) := ho9
    have hod : Fw (b + 579) = some (.inr (3, 1, fun b9 => .double (gd b9))) := (hag9 _ (by omega) (by omega)).trans hod
    clear hM9 ho9 hag9
    refine x_istore hC d_Law_law_326 (Nat.le_of_ble_eq_true rfl) (L1 := [some (.ref a), some (.ref b), some (.ref (b + 566)), some (.ref (b + 578)), some (.ref (b + 579)), some (.int (nI (3 * q))), some (.int (nI 0)), none, none, none]) rfl ?_
    refine x_aload_n hC d_Law_law_328 rfl rfl ?_
    refine x_aload_n hC d_Law_law_329 rfl rfl ?_
    refine x_iload hC d_Law_law_330 rfl ?_
    refine x_iconst hC d_Law_law_332 (v := nI 1) (by decide) ?_
    refine x_iadd hC d_Law_law_333 (v := (nI (3 * q + 1))) (x_addN (by omega)) ?_
    refine x_sld hC hX ha (j := 3 * q + 1) ⟨rfl, by omega, by omega⟩ d_Law_law_334 ?_
    refine x_i2c hC d_Law_law_335 (v := nI (chN (xs (3 * q + 1)))) (chN_I _) ?_
    refine x_aload_n hC d_Law_law_336 rfl rfl ?_
    refine x_iload hC d_Law_law_337 rfl ?_
    refine x_iconst hC d_Law_law_339 (v := nI 2) (by decide) ?_
    refine x_iadd hC d_Law_law_340 (v := (nI (3 * q + 2))) (x_addN (by omega)) ?_
    refine x_sld hC hX ha (j := 3 * q + 2) ⟨rfl, by omega, by omega⟩ d_Law_law_341 ?_
    obtain ⟨fsD, hDo⟩ := xMD_at hD
    refine x_callV hC kv_Law_162 (c_MessageCoderModel_setWeight (hD := hD) (hI := hI) (hc := chN_lt _)) hDo rfl rfl (Nat.le_of_ble_eq_true rfl) rfl rfl rfl (Nat.le_of_ble_eq_true rfl) ⟨by omega, by omega⟩ d_Law_law_342 (fun r9 Fm z9 hp9 => ?_)
    obtain ⟨rfl, h9c, j0, hag9⟩ := hp9
    rw [h9c]
    clear h9c z9
    have hM : xMC Fm (cm) (b) ((chgM M (aWt M.1 (chN (xs (3 * q + 1))) (xs (3 * q + 2))))) := xMC_fr hM (fun a9 q1 q2 => hag9 a9 (by omega))
    have hD : xMD Fm (((b + 566))) (thC (codN (aWt M.1 (chN (xs (3 * q + 1))) (xs (3 * q + 2))).1) 1 0 0 0) ((chgM M (aWt M.1 (chN (xs (3 * q + 1))) (xs (3 * q + 2))))) := j0
    have ho : Fm (b + 578) = some (.inr (2, 1, fun b9 => .long ((vp_updL g 0 ((((aWt M.1 (chN (xs (3 * q + 1))) (xs (3 * q + 2))).1)).toInt64)) b9))) := (hag9 _ (by omega)).trans ho
    have hod : Fm (b + 579) = some (.inr (3, 1, fun b9 => .double (gd b9))) := (hag9 _ (by omega)).trans hod
    clear j0 hag9
    have hok : ¬ (aWt M.1 (chN (xs (3 * q + 1))) (xs (3 * q + 2))).1 < 0 := by
      rcases res_Wt M.1 _ _ hI.1 with e9 | e9
      · exact e9
      · exact absurd (by rw [e9]) p_0
    have hT : (thC (codN (aWt M.1 (chN (xs (3 * q + 1))) (xs (3 * q + 2))).1) 1 0 0 0) = 0 := by rw [codN_pos hok]; decide
    rw [hT] at hD
    refine x_top (v := ((aWt M.1 (chN (xs (3 * q + 1))) (xs (3 * q + 2))).1)) (if_pos (codN_pos hok)) ?_
    refine x_istore hC d_Law_law_345 (Nat.le_of_ble_eq_true rfl) (L1 := [some (.ref a), some (.ref b), some (.ref (b + 566)), some (.ref (b + 578)), some (.ref (b + 579)), some (.int (nI (3 * q))), some (.int (nI 0)), some (.int ((aWt M.1 (chN (xs (3 * q + 1))) (xs (3 * q + 2))).1)), none, none]) rfl ?_
    refine x_aload_n hC d_Law_law_347 rfl rfl ?_
    obtain ⟨fsD, hDo⟩ := xMD_at hD
    refine x_callV hC kv_Law_163 (c_thrownD hD) hDo rfl rfl (Nat.le_of_ble_eq_true rfl) rfl rfl rfl (Nat.le_of_ble_eq_true rfl) ⟨by omega, by omega⟩ d_Law_law_348 (fun r9 F9 z9 hp9 => ?_)
    obtain ⟨rfl, h9b, h9c⟩ := hp9
    rw [h9b, h9c]
    clear h9b h9c F9 z9
    refine x_iload hC d_Law_law_351 rfl ?_
    refine x_icmpN_eq hC d_Law_law_353 (tgt := 358) (by decide) (by omega) (by omega) (fun c_353 => ?_) (fun c_353 => ?_)
    · skip
      refine x_iload hC d_Law_law_358 rfl ?_
      refine x_ifN_ne hC d_Law_law_360 (tgt := 375) (by decide) (by omega) (fun c_360 => ?_) (fun c_360 => ?_)
      · skip
        exact absurd c_360 (by omega)
      · skip
        refine x_aload_n hC d_Law_law_363 rfl rfl ?_
        refine x_iconst hC d_Law_law_364 (v := nI 0) (by decide) ?_
        refine x_lald hC ho (j := 0) ⟨rfl, by decide, by decide⟩ (x := (((aWt M.1 (chN (xs (3 * q + 1))) (xs (3 * q + 2))).1)).toInt64) rfl d_Law_law_365 ?_
        refine x_iload hC d_Law_law_366 rfl ?_
        refine x_i2l hC d_Law_law_368 rfl ?_
        refine x_lcmp hC d_Law_law_369 ?_
        refine x_top (v := nI 0) (lg_self _) ?_
        refine x_ifN_eq hC d_Law_law_370 (tgt := 375) (by decide) (by omega) (fun c_370 => ?_) (fun c_370 => ?_)
        · skip
          refine x_goto hC d_Law_law_375 (tgt := 2933) (by decide) ?_
          refine x_forget (L1 := [some (.ref a), some (.ref b), some (.ref (b + 566)), some (.ref (b + 578)), some (.ref (b + 579)), some (.int (nI (3 * q))), none, none, none, none]) ⟨Or.inr rfl, ⟨Or.inr rfl, ⟨Or.inr rfl, ⟨Or.inr rfl, ⟨Or.inr rfl, ⟨Or.inr rfl, ⟨Or.inl rfl, ⟨Or.inl rfl, ⟨Or.inl rfl, ⟨Or.inl rfl, trivial⟩⟩⟩⟩⟩⟩⟩⟩⟩⟩ ?_
          exact kk _ _ _ _ _ _ _ _ hM hD ho hod (lwJ_chg hJ (inv_Wt hI.1 _ _) (sC_Wt _ _ _)) (by omega) (by omega)
        · skip
          exact absurd c_370 (by omega)
    · skip
      exact absurd c_353 (by omega)
  · skip
    have hM : xMC Fw (cm) (b) ((chgM M (aWt M.1 (chN (xs (3 * q + 1))) (xs (3 * q + 2))))) := hM9
    have hD : xMD Fw (b + 566) (th) (M) := xMD_fr hD (fun a9 q1 q2 => hag9 a9 (by omega) (by omega))
    have ho : Fw (b + 578) = some (.inr (2, 1, fun b9 => .long (g b9))) := ho9
    have hod : Fw (b + 579) = some (.inr (3, 1, fun b9 => .double (gd b9))) := (hag9 _ (by omega) (by omega)).trans hod
    clear hM9 ho9 hag9
    refine x_istore hC d_Law_law_326 (Nat.le_of_ble_eq_true rfl) (L1 := [some (.ref a), some (.ref b), some (.ref (b + 566)), some (.ref (b + 578)), some (.ref (b + 579)), some (.int (nI (3 * q))), some (.int (nI 1)), none, none, none]) rfl ?_
    refine x_aload_n hC d_Law_law_328 rfl rfl ?_
    refine x_aload_n hC d_Law_law_329 rfl rfl ?_
    refine x_iload hC d_Law_law_330 rfl ?_
    refine x_iconst hC d_Law_law_332 (v := nI 1) (by decide) ?_
    refine x_iadd hC d_Law_law_333 (v := (nI (3 * q + 1))) (x_addN (by omega)) ?_
    refine x_sld hC hX ha (j := 3 * q + 1) ⟨rfl, by omega, by omega⟩ d_Law_law_334 ?_
    refine x_i2c hC d_Law_law_335 (v := nI (chN (xs (3 * q + 1)))) (chN_I _) ?_
    refine x_aload_n hC d_Law_law_336 rfl rfl ?_
    refine x_iload hC d_Law_law_337 rfl ?_
    refine x_iconst hC d_Law_law_339 (v := nI 2) (by decide) ?_
    refine x_iadd hC d_Law_law_340 (v := (nI (3 * q + 2))) (x_addN (by omega)) ?_
    refine x_sld hC hX ha (j := 3 * q + 2) ⟨rfl, by omega, by omega⟩ d_Law_law_341 ?_
    obtain ⟨fsD, hDo⟩ := xMD_at hD
    refine x_callV hC kv_Law_162 (c_MessageCoderModel_setWeight (hD := hD) (hI := hI) (hc := chN_lt _)) hDo rfl rfl (Nat.le_of_ble_eq_true rfl) rfl rfl rfl (Nat.le_of_ble_eq_true rfl) ⟨by omega, by omega⟩ d_Law_law_342 (fun r9 Fm z9 hp9 => ?_)
    obtain ⟨rfl, h9c, j0, hag9⟩ := hp9
    rw [h9c]
    clear h9c z9
    have hM : xMC Fm (cm) (b) ((chgM M (aWt M.1 (chN (xs (3 * q + 1))) (xs (3 * q + 2))))) := xMC_fr hM (fun a9 q1 q2 => hag9 a9 (by omega))
    have hD : xMD Fm (((b + 566))) (thC (codN (aWt M.1 (chN (xs (3 * q + 1))) (xs (3 * q + 2))).1) 1 0 0 0) ((chgM M (aWt M.1 (chN (xs (3 * q + 1))) (xs (3 * q + 2))))) := j0
    have ho : Fm (b + 578) = some (.inr (2, 1, fun b9 => .long (g b9))) := (hag9 _ (by omega)).trans ho
    have hod : Fm (b + 579) = some (.inr (3, 1, fun b9 => .double (gd b9))) := (hag9 _ (by omega)).trans hod
    clear j0 hag9
    have hT : (thC (codN (aWt M.1 (chN (xs (3 * q + 1))) (xs (3 * q + 2))).1) 1 0 0 0) = 1 := by rw [hcond]; decide
    rw [hT] at hD
    refine x_istore hC d_Law_law_345 (Nat.le_of_ble_eq_true rfl) (L1 := [some (.ref a), some (.ref b), some (.ref (b + 566)), some (.ref (b + 578)), some (.ref (b + 579)), some (.int (nI (3 * q))), some (.int (nI 1)), some (.int (if codN (aWt M.1 (chN (xs (3 * q + 1))) (xs (3 * q + 2))).1 = 0 then (aWt M.1 (chN (xs (3 * q + 1))) (xs (3 * q + 2))).1 else nI 0)), none, none]) rfl ?_
    refine x_aload_n hC d_Law_law_347 rfl rfl ?_
    obtain ⟨fsD, hDo⟩ := xMD_at hD
    refine x_callV hC kv_Law_163 (c_thrownD hD) hDo rfl rfl (Nat.le_of_ble_eq_true rfl) rfl rfl rfl (Nat.le_of_ble_eq_true rfl) ⟨by omega, by omega⟩ d_Law_law_348 (fun r9 F9 z9 hp9 => ?_)
    obtain ⟨rfl, h9b, h9c⟩ := hp9
    rw [h9b, h9c]
    clear h9b h9c F9 z9
    refine x_iload hC d_Law_law_351 rfl ?_
    refine x_icmpN_eq hC d_Law_law_353 (tgt := 358) (by decide) (by omega) (by omega) (fun c_353 => ?_) (fun c_353 => ?_)
    · skip
      refine x_iload hC d_Law_law_358 rfl ?_
      refine x_ifN_ne hC d_Law_law_360 (tgt := 375) (by decide) (by omega) (fun c_360 => ?_) (fun c_360 => ?_)
      · skip
        refine x_goto hC d_Law_law_375 (tgt := 2933) (by decide) ?_
        refine x_forget (L1 := [some (.ref a), some (.ref b), some (.ref (b + 566)), some (.ref (b + 578)), some (.ref (b + 579)), some (.int (nI (3 * q))), none, none, none, none]) ⟨Or.inr rfl, ⟨Or.inr rfl, ⟨Or.inr rfl, ⟨Or.inr rfl, ⟨Or.inr rfl, ⟨Or.inr rfl, ⟨Or.inl rfl, ⟨Or.inl rfl, ⟨Or.inl rfl, ⟨Or.inl rfl, trivial⟩⟩⟩⟩⟩⟩⟩⟩⟩⟩ ?_
        exact kk _ _ _ _ _ _ _ _ hM hD ho hod (lwJ_chg hJ (inv_Wt hI.1 _ _) (sC_Wt _ _ _)) (by omega) (by omega)
      · skip
        exact absurd c_360 (by omega)
    · skip
      exact absurd c_353 (by omega)

set_option maxHeartbeats 4000000 in
set_option maxRecDepth 20000 in
theorem lc_1 {P : xP} {Θ : xT} {cm : cmT} {a N b sm rt q : Nat} {xs : Nat → Int32} (E : lwE P Θ cm a N b sm rt xs) {F : xF} {z k n th : Nat} {M : mcS} {g : Nat → Int64} {gd : Nat → UInt64} (hM : xMC F (cm) (b) (M)) (hD : xMD F (b + 566) (th) (M)) (ho : F (b + 578) = some (.inr (2, 1, fun b9 => .long (g b9)))) (hod : F (b + 579) = some (.inr (3, 1, fun b9 => .double (gd b9)))) (hJ : lwJ q M) (hq : 3 * q + 3 ≤ N) (hkn : k + 2 ≤ 603072 ∧ n + 12 ≤ 7207018) (kk : lwK P Θ cm a b q k n) : xX P Θ 378 [some (.ref (a)), some (.ref (b)), some (.ref (b + 566)), some (.ref (b + 578)), some (.ref (b + 579)), some (.int (nI (3 * q))), none, none, none, none] [] F z k n := by
  obtain ⟨hC, hX, ha, hN, hCM, hSM, hSR, hZx, hNx⟩ := E
  obtain ⟨hI, hS, hpp⟩ := id hJ
  obtain ⟨hk9, hn9⟩ := hkn
  have hu8 : M.2.2.2.2.2.2.2.1 ≤ 8 := hI.2.2.2.1
  have hup0 : M.2.2.2.2.2.2.2.1 ≤ M.2.2.2.2.2.2.1 := hI.2.2.2.2.1
  have hsv0 : M.2.2.2.2.2.1 ≤ 1 := hI.2.2.2.2.2.1
  have hpp0 : M.2.2.2.2.2.2.1 < 100000 := by omega
  have hun0 : M.2.2.2.2.2.2.2.1 < 100000 := by omega
  obtain ⟨hb1, hb2, hb3⟩ := hS.1
  have hnx : M.1.2.2.1.2.1 < 999 := by omega
  have hn0 : M.1.2.2.1.2.1 + 1 < 1000 := by omega
  have hg0 : M.1.2.2.2.2.2.2.1 < 1000 := by omega
  have hf0 : M.1.2.2.2.2.2.2.2.2 < 1000 := by omega
  refine x_aload_n hC d_Law_law_378 rfl rfl ?_
  refine x_aload_n hC d_Law_law_379 rfl rfl ?_
  refine x_iload hC d_Law_law_380 rfl ?_
  refine x_iconst hC d_Law_law_382 (v := nI 1) (by decide) ?_
  refine x_iadd hC d_Law_law_383 (v := (nI (3 * q + 1))) (x_addN (by omega)) ?_
  refine x_sld hC hX ha (j := 3 * q + 1) ⟨rfl, by omega, by omega⟩ d_Law_law_384 ?_
  refine x_i2c hC d_Law_law_385 (v := nI (chN (xs (3 * q + 1)))) (chN_I _) ?_
  refine x_aload_n hC d_Law_law_386 rfl rfl ?_
  refine x_callW hC kw_Law_166 (c_Law_addSymbol (hM := hM) (ho := ho) (hCM := hCM) (hSM := hSM) (hZx := hZx) (hpp0 := hpp0) (hun0 := hun0) (hc0 := chN_lt _) (hNx := hNx) (hbo := Or.inr (by omega))) (Nat.le_of_ble_eq_true rfl) rfl rfl rfl (Nat.le_of_ble_eq_true rfl) ⟨by omega, by omega⟩ d_Law_law_387 (fun r9 Fw zw hp9 => ?_)
  rcases hp9 with ⟨rfl, hM9, ho9, p_0, p_1, hag9⟩ | ⟨rfl, hM9, ho9, hcond, hag9⟩ | ⟨rfl, hM9, ho9, hcond, hag9⟩
  · skip
    have hM : xMC Fw (cm) (b) ((chgM M (aDr M.1 (chN (xs (3 * q + 1)))))) := hM9
    have hD : xMD Fw (b + 566) (th) (M) := xMD_fr hD (fun a9 q1 q2 => hag9 a9 (by omega) (by omega))
    have ho : Fw (b + 578) = some (.inr (2, 1, fun b9 => .long ((vp_updL g 0 ((((aDr M.1 (chN (xs (3 * q + 1)))).1)).toInt64)) b9))) := ho9
    have hod : Fw (b + 579) = some (.inr (3, 1, fun b9 => .double (gd b9))) := (hag9 _ (by omega) (by omega)).trans hod
    clear hM9 ho9 hag9
    refine x_istore hC d_Law_law_390 (Nat.le_of_ble_eq_true rfl) (L1 := [some (.ref a), some (.ref b), some (.ref (b + 566)), some (.ref (b + 578)), some (.ref (b + 579)), some (.int (nI (3 * q))), some (.int (nI 0)), none, none, none]) rfl ?_
    refine x_aload_n hC d_Law_law_392 rfl rfl ?_
    refine x_aload_n hC d_Law_law_393 rfl rfl ?_
    refine x_iload hC d_Law_law_394 rfl ?_
    refine x_iconst hC d_Law_law_396 (v := nI 1) (by decide) ?_
    refine x_iadd hC d_Law_law_397 (v := (nI (3 * q + 1))) (x_addN (by omega)) ?_
    refine x_sld hC hX ha (j := 3 * q + 1) ⟨rfl, by omega, by omega⟩ d_Law_law_398 ?_
    refine x_i2c hC d_Law_law_399 (v := nI (chN (xs (3 * q + 1)))) (chN_I _) ?_
    obtain ⟨fsD, hDo⟩ := xMD_at hD
    refine x_callV hC kv_Law_169 (c_MessageCoderModel_addSymbol (hD := hD) (hI := hI) (hc := chN_lt _)) hDo rfl rfl (Nat.le_of_ble_eq_true rfl) rfl rfl rfl (Nat.le_of_ble_eq_true rfl) ⟨by omega, by omega⟩ d_Law_law_400 (fun r9 Fm z9 hp9 => ?_)
    obtain ⟨rfl, h9c, j0, hag9⟩ := hp9
    rw [h9c]
    clear h9c z9
    have hM : xMC Fm (cm) (b) ((chgM M (aDr M.1 (chN (xs (3 * q + 1)))))) := xMC_fr hM (fun a9 q1 q2 => hag9 a9 (by omega))
    have hD : xMD Fm (((b + 566))) (thC (codN (aDr M.1 (chN (xs (3 * q + 1)))).1) 1 2 0 0) ((chgM M (aDr M.1 (chN (xs (3 * q + 1)))))) := j0
    have ho : Fm (b + 578) = some (.inr (2, 1, fun b9 => .long ((vp_updL g 0 ((((aDr M.1 (chN (xs (3 * q + 1)))).1)).toInt64)) b9))) := (hag9 _ (by omega)).trans ho
    have hod : Fm (b + 579) = some (.inr (3, 1, fun b9 => .double (gd b9))) := (hag9 _ (by omega)).trans hod
    clear j0 hag9
    have hok : ¬ (aDr M.1 (chN (xs (3 * q + 1)))).1 < 0 := by
      rcases res_Dr M.1 _ with e9 | e9 | e9
      · exact e9
      · exact absurd (by rw [e9]) p_0
      · exact absurd (by rw [e9]) p_1
    have hT : (thC (codN (aDr M.1 (chN (xs (3 * q + 1)))).1) 1 2 0 0) = 0 := by rw [codN_pos hok]; decide
    rw [hT] at hD
    refine x_top (v := ((aDr M.1 (chN (xs (3 * q + 1)))).1)) (if_pos (codN_pos hok)) ?_
    refine x_istore hC d_Law_law_403 (Nat.le_of_ble_eq_true rfl) (L1 := [some (.ref a), some (.ref b), some (.ref (b + 566)), some (.ref (b + 578)), some (.ref (b + 579)), some (.int (nI (3 * q))), some (.int (nI 0)), some (.int ((aDr M.1 (chN (xs (3 * q + 1)))).1)), none, none]) rfl ?_
    refine x_aload_n hC d_Law_law_405 rfl rfl ?_
    obtain ⟨fsD, hDo⟩ := xMD_at hD
    refine x_callV hC kv_Law_163 (c_thrownD hD) hDo rfl rfl (Nat.le_of_ble_eq_true rfl) rfl rfl rfl (Nat.le_of_ble_eq_true rfl) ⟨by omega, by omega⟩ d_Law_law_406 (fun r9 F9 z9 hp9 => ?_)
    obtain ⟨rfl, h9b, h9c⟩ := hp9
    rw [h9b, h9c]
    clear h9b h9c F9 z9
    refine x_iload hC d_Law_law_409 rfl ?_
    refine x_icmpN_eq hC d_Law_law_411 (tgt := 416) (by decide) (by omega) (by omega) (fun c_411 => ?_) (fun c_411 => ?_)
    · skip
      refine x_iload hC d_Law_law_416 rfl ?_
      refine x_ifN_ne hC d_Law_law_418 (tgt := 433) (by decide) (by omega) (fun c_418 => ?_) (fun c_418 => ?_)
      · skip
        exact absurd c_418 (by omega)
      · skip
        refine x_aload_n hC d_Law_law_421 rfl rfl ?_
        refine x_iconst hC d_Law_law_422 (v := nI 0) (by decide) ?_
        refine x_lald hC ho (j := 0) ⟨rfl, by decide, by decide⟩ (x := (((aDr M.1 (chN (xs (3 * q + 1)))).1)).toInt64) rfl d_Law_law_423 ?_
        refine x_iload hC d_Law_law_424 rfl ?_
        refine x_i2l hC d_Law_law_426 rfl ?_
        refine x_lcmp hC d_Law_law_427 ?_
        refine x_top (v := nI 0) (lg_self _) ?_
        refine x_ifN_eq hC d_Law_law_428 (tgt := 433) (by decide) (by omega) (fun c_428 => ?_) (fun c_428 => ?_)
        · skip
          refine x_goto hC d_Law_law_433 (tgt := 2933) (by decide) ?_
          refine x_forget (L1 := [some (.ref a), some (.ref b), some (.ref (b + 566)), some (.ref (b + 578)), some (.ref (b + 579)), some (.int (nI (3 * q))), none, none, none, none]) ⟨Or.inr rfl, ⟨Or.inr rfl, ⟨Or.inr rfl, ⟨Or.inr rfl, ⟨Or.inr rfl, ⟨Or.inr rfl, ⟨Or.inl rfl, ⟨Or.inl rfl, ⟨Or.inl rfl, ⟨Or.inl rfl, trivial⟩⟩⟩⟩⟩⟩⟩⟩⟩⟩ ?_
          exact kk _ _ _ _ _ _ _ _ hM hD ho hod (lwJ_chg hJ (inv_Dr hI.1 _) (sC_Dr _ _)) (by omega) (by omega)
        · skip
          exact absurd c_428 (by omega)
    · skip
      exact absurd c_411 (by omega)
  · skip
    have hM : xMC Fw (cm) (b) ((chgM M (aDr M.1 (chN (xs (3 * q + 1)))))) := hM9
    have hD : xMD Fw (b + 566) (th) (M) := xMD_fr hD (fun a9 q1 q2 => hag9 a9 (by omega) (by omega))
    have ho : Fw (b + 578) = some (.inr (2, 1, fun b9 => .long (g b9))) := ho9
    have hod : Fw (b + 579) = some (.inr (3, 1, fun b9 => .double (gd b9))) := (hag9 _ (by omega) (by omega)).trans hod
    clear hM9 ho9 hag9
    refine x_istore hC d_Law_law_390 (Nat.le_of_ble_eq_true rfl) (L1 := [some (.ref a), some (.ref b), some (.ref (b + 566)), some (.ref (b + 578)), some (.ref (b + 579)), some (.int (nI (3 * q))), some (.int (nI 1)), none, none, none]) rfl ?_
    refine x_aload_n hC d_Law_law_392 rfl rfl ?_
    refine x_aload_n hC d_Law_law_393 rfl rfl ?_
    refine x_iload hC d_Law_law_394 rfl ?_
    refine x_iconst hC d_Law_law_396 (v := nI 1) (by decide) ?_
    refine x_iadd hC d_Law_law_397 (v := (nI (3 * q + 1))) (x_addN (by omega)) ?_
    refine x_sld hC hX ha (j := 3 * q + 1) ⟨rfl, by omega, by omega⟩ d_Law_law_398 ?_
    refine x_i2c hC d_Law_law_399 (v := nI (chN (xs (3 * q + 1)))) (chN_I _) ?_
    obtain ⟨fsD, hDo⟩ := xMD_at hD
    refine x_callV hC kv_Law_169 (c_MessageCoderModel_addSymbol (hD := hD) (hI := hI) (hc := chN_lt _)) hDo rfl rfl (Nat.le_of_ble_eq_true rfl) rfl rfl rfl (Nat.le_of_ble_eq_true rfl) ⟨by omega, by omega⟩ d_Law_law_400 (fun r9 Fm z9 hp9 => ?_)
    obtain ⟨rfl, h9c, j0, hag9⟩ := hp9
    rw [h9c]
    clear h9c z9
    have hM : xMC Fm (cm) (b) ((chgM M (aDr M.1 (chN (xs (3 * q + 1)))))) := xMC_fr hM (fun a9 q1 q2 => hag9 a9 (by omega))
    have hD : xMD Fm (((b + 566))) (thC (codN (aDr M.1 (chN (xs (3 * q + 1)))).1) 1 2 0 0) ((chgM M (aDr M.1 (chN (xs (3 * q + 1)))))) := j0
    have ho : Fm (b + 578) = some (.inr (2, 1, fun b9 => .long (g b9))) := (hag9 _ (by omega)).trans ho
    have hod : Fm (b + 579) = some (.inr (3, 1, fun b9 => .double (gd b9))) := (hag9 _ (by omega)).trans hod
    clear j0 hag9
    have hT : (thC (codN (aDr M.1 (chN (xs (3 * q + 1)))).1) 1 2 0 0) = 1 := by rw [hcond]; decide
    rw [hT] at hD
    refine x_istore hC d_Law_law_403 (Nat.le_of_ble_eq_true rfl) (L1 := [some (.ref a), some (.ref b), some (.ref (b + 566)), some (.ref (b + 578)), some (.ref (b + 579)), some (.int (nI (3 * q))), some (.int (nI 1)), some (.int (if codN (aDr M.1 (chN (xs (3 * q + 1)))).1 = 0 then (aDr M.1 (chN (xs (3 * q + 1)))).1 else nI 0)), none, none]) rfl ?_
    refine x_aload_n hC d_Law_law_405 rfl rfl ?_
    obtain ⟨fsD, hDo⟩ := xMD_at hD
    refine x_callV hC kv_Law_163 (c_thrownD hD) hDo rfl rfl (Nat.le_of_ble_eq_true rfl) rfl rfl rfl (Nat.le_of_ble_eq_true rfl) ⟨by omega, by omega⟩ d_Law_law_406 (fun r9 F9 z9 hp9 => ?_)
    obtain ⟨rfl, h9b, h9c⟩ := hp9
    rw [h9b, h9c]
    clear h9b h9c F9 z9
    refine x_iload hC d_Law_law_409 rfl ?_
    refine x_icmpN_eq hC d_Law_law_411 (tgt := 416) (by decide) (by omega) (by omega) (fun c_411 => ?_) (fun c_411 => ?_)
    · skip
      refine x_iload hC d_Law_law_416 rfl ?_
      refine x_ifN_ne hC d_Law_law_418 (tgt := 433) (by decide) (by omega) (fun c_418 => ?_) (fun c_418 => ?_)
      · skip
        refine x_goto hC d_Law_law_433 (tgt := 2933) (by decide) ?_
        refine x_forget (L1 := [some (.ref a), some (.ref b), some (.ref (b + 566)), some (.ref (b + 578)), some (.ref (b + 579)), some (.int (nI (3 * q))), none, none, none, none]) ⟨Or.inr rfl, ⟨Or.inr rfl, ⟨Or.inr rfl, ⟨Or.inr rfl, ⟨Or.inr rfl, ⟨Or.inr rfl, ⟨Or.inl rfl, ⟨Or.inl rfl, ⟨Or.inl rfl, ⟨Or.inl rfl, trivial⟩⟩⟩⟩⟩⟩⟩⟩⟩⟩ ?_
        exact kk _ _ _ _ _ _ _ _ hM hD ho hod (lwJ_chg hJ (inv_Dr hI.1 _) (sC_Dr _ _)) (by omega) (by omega)
      · skip
        exact absurd c_418 (by omega)
    · skip
      exact absurd c_411 (by omega)
  · skip
    have hM : xMC Fw (cm) (b) ((chgM M (aDr M.1 (chN (xs (3 * q + 1)))))) := hM9
    have hD : xMD Fw (b + 566) (th) (M) := xMD_fr hD (fun a9 q1 q2 => hag9 a9 (by omega) (by omega))
    have ho : Fw (b + 578) = some (.inr (2, 1, fun b9 => .long (g b9))) := ho9
    have hod : Fw (b + 579) = some (.inr (3, 1, fun b9 => .double (gd b9))) := (hag9 _ (by omega) (by omega)).trans hod
    clear hM9 ho9 hag9
    refine x_istore hC d_Law_law_390 (Nat.le_of_ble_eq_true rfl) (L1 := [some (.ref a), some (.ref b), some (.ref (b + 566)), some (.ref (b + 578)), some (.ref (b + 579)), some (.int (nI (3 * q))), some (.int (nI 2)), none, none, none]) rfl ?_
    refine x_aload_n hC d_Law_law_392 rfl rfl ?_
    refine x_aload_n hC d_Law_law_393 rfl rfl ?_
    refine x_iload hC d_Law_law_394 rfl ?_
    refine x_iconst hC d_Law_law_396 (v := nI 1) (by decide) ?_
    refine x_iadd hC d_Law_law_397 (v := (nI (3 * q + 1))) (x_addN (by omega)) ?_
    refine x_sld hC hX ha (j := 3 * q + 1) ⟨rfl, by omega, by omega⟩ d_Law_law_398 ?_
    refine x_i2c hC d_Law_law_399 (v := nI (chN (xs (3 * q + 1)))) (chN_I _) ?_
    obtain ⟨fsD, hDo⟩ := xMD_at hD
    refine x_callV hC kv_Law_169 (c_MessageCoderModel_addSymbol (hD := hD) (hI := hI) (hc := chN_lt _)) hDo rfl rfl (Nat.le_of_ble_eq_true rfl) rfl rfl rfl (Nat.le_of_ble_eq_true rfl) ⟨by omega, by omega⟩ d_Law_law_400 (fun r9 Fm z9 hp9 => ?_)
    obtain ⟨rfl, h9c, j0, hag9⟩ := hp9
    rw [h9c]
    clear h9c z9
    have hM : xMC Fm (cm) (b) ((chgM M (aDr M.1 (chN (xs (3 * q + 1)))))) := xMC_fr hM (fun a9 q1 q2 => hag9 a9 (by omega))
    have hD : xMD Fm (((b + 566))) (thC (codN (aDr M.1 (chN (xs (3 * q + 1)))).1) 1 2 0 0) ((chgM M (aDr M.1 (chN (xs (3 * q + 1)))))) := j0
    have ho : Fm (b + 578) = some (.inr (2, 1, fun b9 => .long (g b9))) := (hag9 _ (by omega)).trans ho
    have hod : Fm (b + 579) = some (.inr (3, 1, fun b9 => .double (gd b9))) := (hag9 _ (by omega)).trans hod
    clear j0 hag9
    have hT : (thC (codN (aDr M.1 (chN (xs (3 * q + 1)))).1) 1 2 0 0) = 2 := by rw [hcond]; decide
    rw [hT] at hD
    refine x_istore hC d_Law_law_403 (Nat.le_of_ble_eq_true rfl) (L1 := [some (.ref a), some (.ref b), some (.ref (b + 566)), some (.ref (b + 578)), some (.ref (b + 579)), some (.int (nI (3 * q))), some (.int (nI 2)), some (.int (if codN (aDr M.1 (chN (xs (3 * q + 1)))).1 = 0 then (aDr M.1 (chN (xs (3 * q + 1)))).1 else nI 0)), none, none]) rfl ?_
    refine x_aload_n hC d_Law_law_405 rfl rfl ?_
    obtain ⟨fsD, hDo⟩ := xMD_at hD
    refine x_callV hC kv_Law_163 (c_thrownD hD) hDo rfl rfl (Nat.le_of_ble_eq_true rfl) rfl rfl rfl (Nat.le_of_ble_eq_true rfl) ⟨by omega, by omega⟩ d_Law_law_406 (fun r9 F9 z9 hp9 => ?_)
    obtain ⟨rfl, h9b, h9c⟩ := hp9
    rw [h9b, h9c]
    clear h9b h9c F9 z9
    refine x_iload hC d_Law_law_409 rfl ?_
    refine x_icmpN_eq hC d_Law_law_411 (tgt := 416) (by decide) (by omega) (by omega) (fun c_411 => ?_) (fun c_411 => ?_)
    · skip
      refine x_iload hC d_Law_law_416 rfl ?_
      refine x_ifN_ne hC d_Law_law_418 (tgt := 433) (by decide) (by omega) (fun c_418 => ?_) (fun c_418 => ?_)
      · skip
        refine x_goto hC d_Law_law_433 (tgt := 2933) (by decide) ?_
        refine x_forget (L1 := [some (.ref a), some (.ref b), some (.ref (b + 566)), some (.ref (b + 578)), some (.ref (b + 579)), some (.int (nI (3 * q))), none, none, none, none]) ⟨Or.inr rfl, ⟨Or.inr rfl, ⟨Or.inr rfl, ⟨Or.inr rfl, ⟨Or.inr rfl, ⟨Or.inr rfl, ⟨Or.inl rfl, ⟨Or.inl rfl, ⟨Or.inl rfl, ⟨Or.inl rfl, trivial⟩⟩⟩⟩⟩⟩⟩⟩⟩⟩ ?_
        exact kk _ _ _ _ _ _ _ _ hM hD ho hod (lwJ_chg hJ (inv_Dr hI.1 _) (sC_Dr _ _)) (by omega) (by omega)
      · skip
        exact absurd c_418 (by omega)
    · skip
      exact absurd c_411 (by omega)

set_option maxHeartbeats 4000000 in
set_option maxRecDepth 20000 in
theorem lc_2 {P : xP} {Θ : xT} {cm : cmT} {a N b sm rt q : Nat} {xs : Nat → Int32} (E : lwE P Θ cm a N b sm rt xs) {F : xF} {z k n th : Nat} {M : mcS} {g : Nat → Int64} {gd : Nat → UInt64} (hM : xMC F (cm) (b) (M)) (hD : xMD F (b + 566) (th) (M)) (ho : F (b + 578) = some (.inr (2, 1, fun b9 => .long (g b9)))) (hod : F (b + 579) = some (.inr (3, 1, fun b9 => .double (gd b9)))) (hJ : lwJ q M) (hq : 3 * q + 3 ≤ N) (hkn : k + 2 ≤ 603072 ∧ n + 12 ≤ 7207018) (kk : lwK P Θ cm a b q k n) : xX P Θ 436 [some (.ref (a)), some (.ref (b)), some (.ref (b + 566)), some (.ref (b + 578)), some (.ref (b + 579)), some (.int (nI (3 * q))), none, none, none, none] [] F z k n := by
  obtain ⟨hC, hX, ha, hN, hCM, hSM, hSR, hZx, hNx⟩ := E
  obtain ⟨hI, hS, hpp⟩ := id hJ
  obtain ⟨hk9, hn9⟩ := hkn
  have hu8 : M.2.2.2.2.2.2.2.1 ≤ 8 := hI.2.2.2.1
  have hup0 : M.2.2.2.2.2.2.2.1 ≤ M.2.2.2.2.2.2.1 := hI.2.2.2.2.1
  have hsv0 : M.2.2.2.2.2.1 ≤ 1 := hI.2.2.2.2.2.1
  have hpp0 : M.2.2.2.2.2.2.1 < 100000 := by omega
  have hun0 : M.2.2.2.2.2.2.2.1 < 100000 := by omega
  obtain ⟨hb1, hb2, hb3⟩ := hS.1
  have hnx : M.1.2.2.1.2.1 < 999 := by omega
  have hn0 : M.1.2.2.1.2.1 + 1 < 1000 := by omega
  have hg0 : M.1.2.2.2.2.2.2.1 < 1000 := by omega
  have hf0 : M.1.2.2.2.2.2.2.2.2 < 1000 := by omega
  refine x_aload_n hC d_Law_law_436 rfl rfl ?_
  obtain ⟨hMo, -⟩ := id hM
  refine x_callV hC kv_Law_170 (c_MessageCoder_clearDraft (hM := hM) (hCM := hCM) (hSM := hSM) (hpp0 := hpp0) (hun0 := hun0)) hMo rfl rfl (Nat.le_of_ble_eq_true rfl) rfl rfl rfl (Nat.le_of_ble_eq_true rfl) ⟨by omega, by omega⟩ d_Law_law_437 (fun r9 Fc z9 hp9 => ?_)
  obtain ⟨rfl, h9c, j0, hag9⟩ := hp9
  rw [h9c]
  clear h9c z9
  have hM : xMC Fc (cm) (b) ((chgM M (aCl M.1))) := j0
  have hD : xMD Fc (b + 566) (th) (M) := xMD_fr hD (fun a9 q1 q2 => hag9 a9 (by omega))
  have ho : Fc (b + 578) = some (.inr (2, 1, fun b9 => .long (g b9))) := (hag9 _ (by omega)).trans ho
  have hod : Fc (b + 579) = some (.inr (3, 1, fun b9 => .double (gd b9))) := (hag9 _ (by omega)).trans hod
  clear j0 hag9
  refine x_aload_n hC d_Law_law_440 rfl rfl ?_
  obtain ⟨fsD, hDo⟩ := xMD_at hD
  refine x_callV hC kv_Law_173 (c_MessageCoderModel_clearDraft (hD := hD) (hI := hI)) hDo rfl rfl (Nat.le_of_ble_eq_true rfl) rfl rfl rfl (Nat.le_of_ble_eq_true rfl) ⟨by omega, by omega⟩ d_Law_law_441 (fun r9 Fm z9 hp9 => ?_)
  obtain ⟨rfl, h9c, j0, hag9⟩ := hp9
  rw [h9c]
  clear h9c z9
  have hM : xMC Fm (cm) (b) ((chgM M (aCl M.1))) := xMC_fr hM (fun a9 q1 q2 => hag9 a9 (by omega))
  have hD : xMD Fm (((b + 566))) (0) ((chgM M (aCl M.1))) := j0
  have ho : Fm (b + 578) = some (.inr (2, 1, fun b9 => .long (g b9))) := (hag9 _ (by omega)).trans ho
  have hod : Fm (b + 579) = some (.inr (3, 1, fun b9 => .double (gd b9))) := (hag9 _ (by omega)).trans hod
  clear j0 hag9
  refine x_icmp_eq hC d_Law_law_444 (tgt := 2933) (by decide) (fun c_444 => ?_) (fun c_444 => ?_)
  · skip
    exact kk _ _ _ _ _ _ _ _ hM hD ho hod (lwJ_chg hJ (inv_Cl hI.1) (sC_Cl _)) (by omega) (by omega)
  · exact absurd rfl c_444

set_option maxHeartbeats 4000000 in
set_option maxRecDepth 20000 in
theorem lc_3 {P : xP} {Θ : xT} {cm : cmT} {a N b sm rt q : Nat} {xs : Nat → Int32} (E : lwE P Θ cm a N b sm rt xs) {F : xF} {z k n th : Nat} {M : mcS} {g : Nat → Int64} {gd : Nat → UInt64} (hM : xMC F (cm) (b) (M)) (hD : xMD F (b + 566) (th) (M)) (ho : F (b + 578) = some (.inr (2, 1, fun b9 => .long (g b9)))) (hod : F (b + 579) = some (.inr (3, 1, fun b9 => .double (gd b9)))) (hJ : lwJ q M) (hq : 3 * q + 3 ≤ N) (hkn : k + 2 ≤ 603072 ∧ n + 12 ≤ 7207018) (kk : lwK P Θ cm a b q k n) : xX P Θ 449 [some (.ref (a)), some (.ref (b)), some (.ref (b + 566)), some (.ref (b + 578)), some (.ref (b + 579)), some (.int (nI (3 * q))), none, none, none, none] [] F z k n := by
  obtain ⟨hC, hX, ha, hN, hCM, hSM, hSR, hZx, hNx⟩ := E
  obtain ⟨hI, hS, hpp⟩ := id hJ
  obtain ⟨hk9, hn9⟩ := hkn
  have hu8 : M.2.2.2.2.2.2.2.1 ≤ 8 := hI.2.2.2.1
  have hup0 : M.2.2.2.2.2.2.2.1 ≤ M.2.2.2.2.2.2.1 := hI.2.2.2.2.1
  have hsv0 : M.2.2.2.2.2.1 ≤ 1 := hI.2.2.2.2.2.1
  have hpp0 : M.2.2.2.2.2.2.1 < 100000 := by omega
  have hun0 : M.2.2.2.2.2.2.2.1 < 100000 := by omega
  obtain ⟨hb1, hb2, hb3⟩ := hS.1
  have hnx : M.1.2.2.1.2.1 < 999 := by omega
  have hn0 : M.1.2.2.1.2.1 + 1 < 1000 := by omega
  have hg0 : M.1.2.2.2.2.2.2.1 < 1000 := by omega
  have hf0 : M.1.2.2.2.2.2.2.2.2 < 1000 := by omega
  refine x_aload_n hC d_Law_law_449 rfl rfl ?_
  refine x_aload_n hC d_Law_law_450 rfl rfl ?_
  refine x_iload hC d_Law_law_451 rfl ?_
  refine x_iconst hC d_Law_law_453 (v := nI 1) (by decide) ?_
  refine x_iadd hC d_Law_law_454 (v := (nI (3 * q + 1))) (x_addN (by omega)) ?_
  refine x_sld hC hX ha (j := 3 * q + 1) ⟨rfl, by omega, by omega⟩ d_Law_law_455 ?_
  refine x_aload_n hC d_Law_law_456 rfl rfl ?_
  refine x_callW hC kw_Law_174 (c_Law_post (hM := hM) (ho := ho) (hCM := hCM) (hSM := hSM) (hZx := hZx) (hpp0 := hpp0) (hun0 := hun0) (hnx := hnx) (hNx := hNx) (hbo := Or.inr (by omega))) (Nat.le_of_ble_eq_true rfl) rfl rfl rfl (Nat.le_of_ble_eq_true rfl) ⟨by omega, by omega⟩ d_Law_law_457 (fun r9 Fw zw hp9 => ?_)
  rcases hp9 with ⟨rfl, hM9, ho9, p_0, p_1, hag9⟩ | ⟨rfl, hM9, ho9, hcond, hag9⟩ | ⟨rfl, hM9, ho9, hcond, hag9⟩
  · skip
    have hM : xMC Fw (cm) (b) ((chgM M (aPo M.1 (xs (3 * q + 1))))) := hM9
    have hD : xMD Fw (b + 566) (th) (M) := xMD_fr hD (fun a9 q1 q2 => hag9 a9 (by omega) (by omega))
    have ho : Fw (b + 578) = some (.inr (2, 1, fun b9 => .long ((vp_updL g 0 ((((aPo M.1 (xs (3 * q + 1))).1)).toInt64)) b9))) := ho9
    have hod : Fw (b + 579) = some (.inr (3, 1, fun b9 => .double (gd b9))) := (hag9 _ (by omega) (by omega)).trans hod
    clear hM9 ho9 hag9
    refine x_istore hC d_Law_law_460 (Nat.le_of_ble_eq_true rfl) (L1 := [some (.ref a), some (.ref b), some (.ref (b + 566)), some (.ref (b + 578)), some (.ref (b + 579)), some (.int (nI (3 * q))), some (.int (nI 0)), none, none, none]) rfl ?_
    refine x_aload_n hC d_Law_law_462 rfl rfl ?_
    refine x_aload_n hC d_Law_law_463 rfl rfl ?_
    refine x_iload hC d_Law_law_464 rfl ?_
    refine x_iconst hC d_Law_law_466 (v := nI 1) (by decide) ?_
    refine x_iadd hC d_Law_law_467 (v := (nI (3 * q + 1))) (x_addN (by omega)) ?_
    refine x_sld hC hX ha (j := 3 * q + 1) ⟨rfl, by omega, by omega⟩ d_Law_law_468 ?_
    obtain ⟨fsD, hDo⟩ := xMD_at hD
    refine x_callV hC kv_Law_177 (c_MessageCoderModel_post (hD := hD) (hI := hI) (hn0 := hn0)) hDo rfl rfl (Nat.le_of_ble_eq_true rfl) rfl rfl rfl (Nat.le_of_ble_eq_true rfl) ⟨by omega, by omega⟩ d_Law_law_469 (fun r9 Fm z9 hp9 => ?_)
    obtain ⟨rfl, h9c, j0, hag9⟩ := hp9
    rw [h9c]
    clear h9c z9
    have hM : xMC Fm (cm) (b) ((chgM M (aPo M.1 (xs (3 * q + 1))))) := xMC_fr hM (fun a9 q1 q2 => hag9 a9 (by omega))
    have hD : xMD Fm (((b + 566))) (thC (codN (aPo M.1 (xs (3 * q + 1))).1) 1 2 0 0) ((chgM M (aPo M.1 (xs (3 * q + 1))))) := j0
    have ho : Fm (b + 578) = some (.inr (2, 1, fun b9 => .long ((vp_updL g 0 ((((aPo M.1 (xs (3 * q + 1))).1)).toInt64)) b9))) := (hag9 _ (by omega)).trans ho
    have hod : Fm (b + 579) = some (.inr (3, 1, fun b9 => .double (gd b9))) := (hag9 _ (by omega)).trans hod
    clear j0 hag9
    have hok : ¬ (aPo M.1 (xs (3 * q + 1))).1 < 0 := by
      rcases res_Po M.1 _ hI.1 with e9 | e9 | e9
      · exact e9
      · exact absurd (by rw [e9]) p_0
      · exact absurd (by rw [e9]) p_1
    have hT : (thC (codN (aPo M.1 (xs (3 * q + 1))).1) 1 2 0 0) = 0 := by rw [codN_pos hok]; decide
    rw [hT] at hD
    refine x_top (v := ((aPo M.1 (xs (3 * q + 1))).1)) (if_pos (codN_pos hok)) ?_
    refine x_istore hC d_Law_law_472 (Nat.le_of_ble_eq_true rfl) (L1 := [some (.ref a), some (.ref b), some (.ref (b + 566)), some (.ref (b + 578)), some (.ref (b + 579)), some (.int (nI (3 * q))), some (.int (nI 0)), some (.int ((aPo M.1 (xs (3 * q + 1))).1)), none, none]) rfl ?_
    refine x_aload_n hC d_Law_law_474 rfl rfl ?_
    obtain ⟨fsD, hDo⟩ := xMD_at hD
    refine x_callV hC kv_Law_163 (c_thrownD hD) hDo rfl rfl (Nat.le_of_ble_eq_true rfl) rfl rfl rfl (Nat.le_of_ble_eq_true rfl) ⟨by omega, by omega⟩ d_Law_law_475 (fun r9 F9 z9 hp9 => ?_)
    obtain ⟨rfl, h9b, h9c⟩ := hp9
    rw [h9b, h9c]
    clear h9b h9c F9 z9
    refine x_iload hC d_Law_law_478 rfl ?_
    refine x_icmpN_eq hC d_Law_law_480 (tgt := 485) (by decide) (by omega) (by omega) (fun c_480 => ?_) (fun c_480 => ?_)
    · skip
      refine x_iload hC d_Law_law_485 rfl ?_
      refine x_ifN_ne hC d_Law_law_487 (tgt := 502) (by decide) (by omega) (fun c_487 => ?_) (fun c_487 => ?_)
      · skip
        exact absurd c_487 (by omega)
      · skip
        refine x_aload_n hC d_Law_law_490 rfl rfl ?_
        refine x_iconst hC d_Law_law_491 (v := nI 0) (by decide) ?_
        refine x_lald hC ho (j := 0) ⟨rfl, by decide, by decide⟩ (x := (((aPo M.1 (xs (3 * q + 1))).1)).toInt64) rfl d_Law_law_492 ?_
        refine x_iload hC d_Law_law_493 rfl ?_
        refine x_i2l hC d_Law_law_495 rfl ?_
        refine x_lcmp hC d_Law_law_496 ?_
        refine x_top (v := nI 0) (lg_self _) ?_
        refine x_ifN_eq hC d_Law_law_497 (tgt := 502) (by decide) (by omega) (fun c_497 => ?_) (fun c_497 => ?_)
        · skip
          refine x_goto hC d_Law_law_502 (tgt := 2933) (by decide) ?_
          refine x_forget (L1 := [some (.ref a), some (.ref b), some (.ref (b + 566)), some (.ref (b + 578)), some (.ref (b + 579)), some (.int (nI (3 * q))), none, none, none, none]) ⟨Or.inr rfl, ⟨Or.inr rfl, ⟨Or.inr rfl, ⟨Or.inr rfl, ⟨Or.inr rfl, ⟨Or.inr rfl, ⟨Or.inl rfl, ⟨Or.inl rfl, ⟨Or.inl rfl, ⟨Or.inl rfl, trivial⟩⟩⟩⟩⟩⟩⟩⟩⟩⟩ ?_
          exact kk _ _ _ _ _ _ _ _ hM hD ho hod (lwJ_chg hJ (inv_Po hI.1 _ hn0) (sC_Po _ _)) (by omega) (by omega)
        · skip
          exact absurd c_497 (by omega)
    · skip
      exact absurd c_480 (by omega)
  · skip
    have hM : xMC Fw (cm) (b) ((chgM M (aPo M.1 (xs (3 * q + 1))))) := hM9
    have hD : xMD Fw (b + 566) (th) (M) := xMD_fr hD (fun a9 q1 q2 => hag9 a9 (by omega) (by omega))
    have ho : Fw (b + 578) = some (.inr (2, 1, fun b9 => .long (g b9))) := ho9
    have hod : Fw (b + 579) = some (.inr (3, 1, fun b9 => .double (gd b9))) := (hag9 _ (by omega) (by omega)).trans hod
    clear hM9 ho9 hag9
    refine x_istore hC d_Law_law_460 (Nat.le_of_ble_eq_true rfl) (L1 := [some (.ref a), some (.ref b), some (.ref (b + 566)), some (.ref (b + 578)), some (.ref (b + 579)), some (.int (nI (3 * q))), some (.int (nI 1)), none, none, none]) rfl ?_
    refine x_aload_n hC d_Law_law_462 rfl rfl ?_
    refine x_aload_n hC d_Law_law_463 rfl rfl ?_
    refine x_iload hC d_Law_law_464 rfl ?_
    refine x_iconst hC d_Law_law_466 (v := nI 1) (by decide) ?_
    refine x_iadd hC d_Law_law_467 (v := (nI (3 * q + 1))) (x_addN (by omega)) ?_
    refine x_sld hC hX ha (j := 3 * q + 1) ⟨rfl, by omega, by omega⟩ d_Law_law_468 ?_
    obtain ⟨fsD, hDo⟩ := xMD_at hD
    refine x_callV hC kv_Law_177 (c_MessageCoderModel_post (hD := hD) (hI := hI) (hn0 := hn0)) hDo rfl rfl (Nat.le_of_ble_eq_true rfl) rfl rfl rfl (Nat.le_of_ble_eq_true rfl) ⟨by omega, by omega⟩ d_Law_law_469 (fun r9 Fm z9 hp9 => ?_)
    obtain ⟨rfl, h9c, j0, hag9⟩ := hp9
    rw [h9c]
    clear h9c z9
    have hM : xMC Fm (cm) (b) ((chgM M (aPo M.1 (xs (3 * q + 1))))) := xMC_fr hM (fun a9 q1 q2 => hag9 a9 (by omega))
    have hD : xMD Fm (((b + 566))) (thC (codN (aPo M.1 (xs (3 * q + 1))).1) 1 2 0 0) ((chgM M (aPo M.1 (xs (3 * q + 1))))) := j0
    have ho : Fm (b + 578) = some (.inr (2, 1, fun b9 => .long (g b9))) := (hag9 _ (by omega)).trans ho
    have hod : Fm (b + 579) = some (.inr (3, 1, fun b9 => .double (gd b9))) := (hag9 _ (by omega)).trans hod
    clear j0 hag9
    have hT : (thC (codN (aPo M.1 (xs (3 * q + 1))).1) 1 2 0 0) = 1 := by rw [hcond]; decide
    rw [hT] at hD
    refine x_istore hC d_Law_law_472 (Nat.le_of_ble_eq_true rfl) (L1 := [some (.ref a), some (.ref b), some (.ref (b + 566)), some (.ref (b + 578)), some (.ref (b + 579)), some (.int (nI (3 * q))), some (.int (nI 1)), some (.int (if codN (aPo M.1 (xs (3 * q + 1))).1 = 0 then (aPo M.1 (xs (3 * q + 1))).1 else nI 0)), none, none]) rfl ?_
    refine x_aload_n hC d_Law_law_474 rfl rfl ?_
    obtain ⟨fsD, hDo⟩ := xMD_at hD
    refine x_callV hC kv_Law_163 (c_thrownD hD) hDo rfl rfl (Nat.le_of_ble_eq_true rfl) rfl rfl rfl (Nat.le_of_ble_eq_true rfl) ⟨by omega, by omega⟩ d_Law_law_475 (fun r9 F9 z9 hp9 => ?_)
    obtain ⟨rfl, h9b, h9c⟩ := hp9
    rw [h9b, h9c]
    clear h9b h9c F9 z9
    refine x_iload hC d_Law_law_478 rfl ?_
    refine x_icmpN_eq hC d_Law_law_480 (tgt := 485) (by decide) (by omega) (by omega) (fun c_480 => ?_) (fun c_480 => ?_)
    · skip
      refine x_iload hC d_Law_law_485 rfl ?_
      refine x_ifN_ne hC d_Law_law_487 (tgt := 502) (by decide) (by omega) (fun c_487 => ?_) (fun c_487 => ?_)
      · skip
        refine x_goto hC d_Law_law_502 (tgt := 2933) (by decide) ?_
        refine x_forget (L1 := [some (.ref a), some (.ref b), some (.ref (b + 566)), some (.ref (b + 578)), some (.ref (b + 579)), some (.int (nI (3 * q))), none, none, none, none]) ⟨Or.inr rfl, ⟨Or.inr rfl, ⟨Or.inr rfl, ⟨Or.inr rfl, ⟨Or.inr rfl, ⟨Or.inr rfl, ⟨Or.inl rfl, ⟨Or.inl rfl, ⟨Or.inl rfl, ⟨Or.inl rfl, trivial⟩⟩⟩⟩⟩⟩⟩⟩⟩⟩ ?_
        exact kk _ _ _ _ _ _ _ _ hM hD ho hod (lwJ_chg hJ (inv_Po hI.1 _ hn0) (sC_Po _ _)) (by omega) (by omega)
      · skip
        exact absurd c_487 (by omega)
    · skip
      exact absurd c_480 (by omega)
  · skip
    have hM : xMC Fw (cm) (b) ((chgM M (aPo M.1 (xs (3 * q + 1))))) := hM9
    have hD : xMD Fw (b + 566) (th) (M) := xMD_fr hD (fun a9 q1 q2 => hag9 a9 (by omega) (by omega))
    have ho : Fw (b + 578) = some (.inr (2, 1, fun b9 => .long (g b9))) := ho9
    have hod : Fw (b + 579) = some (.inr (3, 1, fun b9 => .double (gd b9))) := (hag9 _ (by omega) (by omega)).trans hod
    clear hM9 ho9 hag9
    refine x_istore hC d_Law_law_460 (Nat.le_of_ble_eq_true rfl) (L1 := [some (.ref a), some (.ref b), some (.ref (b + 566)), some (.ref (b + 578)), some (.ref (b + 579)), some (.int (nI (3 * q))), some (.int (nI 2)), none, none, none]) rfl ?_
    refine x_aload_n hC d_Law_law_462 rfl rfl ?_
    refine x_aload_n hC d_Law_law_463 rfl rfl ?_
    refine x_iload hC d_Law_law_464 rfl ?_
    refine x_iconst hC d_Law_law_466 (v := nI 1) (by decide) ?_
    refine x_iadd hC d_Law_law_467 (v := (nI (3 * q + 1))) (x_addN (by omega)) ?_
    refine x_sld hC hX ha (j := 3 * q + 1) ⟨rfl, by omega, by omega⟩ d_Law_law_468 ?_
    obtain ⟨fsD, hDo⟩ := xMD_at hD
    refine x_callV hC kv_Law_177 (c_MessageCoderModel_post (hD := hD) (hI := hI) (hn0 := hn0)) hDo rfl rfl (Nat.le_of_ble_eq_true rfl) rfl rfl rfl (Nat.le_of_ble_eq_true rfl) ⟨by omega, by omega⟩ d_Law_law_469 (fun r9 Fm z9 hp9 => ?_)
    obtain ⟨rfl, h9c, j0, hag9⟩ := hp9
    rw [h9c]
    clear h9c z9
    have hM : xMC Fm (cm) (b) ((chgM M (aPo M.1 (xs (3 * q + 1))))) := xMC_fr hM (fun a9 q1 q2 => hag9 a9 (by omega))
    have hD : xMD Fm (((b + 566))) (thC (codN (aPo M.1 (xs (3 * q + 1))).1) 1 2 0 0) ((chgM M (aPo M.1 (xs (3 * q + 1))))) := j0
    have ho : Fm (b + 578) = some (.inr (2, 1, fun b9 => .long (g b9))) := (hag9 _ (by omega)).trans ho
    have hod : Fm (b + 579) = some (.inr (3, 1, fun b9 => .double (gd b9))) := (hag9 _ (by omega)).trans hod
    clear j0 hag9
    have hT : (thC (codN (aPo M.1 (xs (3 * q + 1))).1) 1 2 0 0) = 2 := by rw [hcond]; decide
    rw [hT] at hD
    refine x_istore hC d_Law_law_472 (Nat.le_of_ble_eq_true rfl) (L1 := [some (.ref a), some (.ref b), some (.ref (b + 566)), some (.ref (b + 578)), some (.ref (b + 579)), some (.int (nI (3 * q))), some (.int (nI 2)), some (.int (if codN (aPo M.1 (xs (3 * q + 1))).1 = 0 then (aPo M.1 (xs (3 * q + 1))).1 else nI 0)), none, none]) rfl ?_
    refine x_aload_n hC d_Law_law_474 rfl rfl ?_
    obtain ⟨fsD, hDo⟩ := xMD_at hD
    refine x_callV hC kv_Law_163 (c_thrownD hD) hDo rfl rfl (Nat.le_of_ble_eq_true rfl) rfl rfl rfl (Nat.le_of_ble_eq_true rfl) ⟨by omega, by omega⟩ d_Law_law_475 (fun r9 F9 z9 hp9 => ?_)
    obtain ⟨rfl, h9b, h9c⟩ := hp9
    rw [h9b, h9c]
    clear h9b h9c F9 z9
    refine x_iload hC d_Law_law_478 rfl ?_
    refine x_icmpN_eq hC d_Law_law_480 (tgt := 485) (by decide) (by omega) (by omega) (fun c_480 => ?_) (fun c_480 => ?_)
    · skip
      refine x_iload hC d_Law_law_485 rfl ?_
      refine x_ifN_ne hC d_Law_law_487 (tgt := 502) (by decide) (by omega) (fun c_487 => ?_) (fun c_487 => ?_)
      · skip
        refine x_goto hC d_Law_law_502 (tgt := 2933) (by decide) ?_
        refine x_forget (L1 := [some (.ref a), some (.ref b), some (.ref (b + 566)), some (.ref (b + 578)), some (.ref (b + 579)), some (.int (nI (3 * q))), none, none, none, none]) ⟨Or.inr rfl, ⟨Or.inr rfl, ⟨Or.inr rfl, ⟨Or.inr rfl, ⟨Or.inr rfl, ⟨Or.inr rfl, ⟨Or.inl rfl, ⟨Or.inl rfl, ⟨Or.inl rfl, ⟨Or.inl rfl, trivial⟩⟩⟩⟩⟩⟩⟩⟩⟩⟩ ?_
        exact kk _ _ _ _ _ _ _ _ hM hD ho hod (lwJ_chg hJ (inv_Po hI.1 _ hn0) (sC_Po _ _)) (by omega) (by omega)
      · skip
        exact absurd c_487 (by omega)
    · skip
      exact absurd c_480 (by omega)

set_option maxHeartbeats 4000000 in
set_option maxRecDepth 20000 in
theorem lc_4 {P : xP} {Θ : xT} {cm : cmT} {a N b sm rt q : Nat} {xs : Nat → Int32} (E : lwE P Θ cm a N b sm rt xs) {F : xF} {z k n th : Nat} {M : mcS} {g : Nat → Int64} {gd : Nat → UInt64} (hM : xMC F (cm) (b) (M)) (hD : xMD F (b + 566) (th) (M)) (ho : F (b + 578) = some (.inr (2, 1, fun b9 => .long (g b9)))) (hod : F (b + 579) = some (.inr (3, 1, fun b9 => .double (gd b9)))) (hJ : lwJ q M) (hq : 3 * q + 3 ≤ N) (hkn : k + 2 ≤ 603072 ∧ n + 12 ≤ 7207018) (kk : lwK P Θ cm a b q k n) : xX P Θ 505 [some (.ref (a)), some (.ref (b)), some (.ref (b + 566)), some (.ref (b + 578)), some (.ref (b + 579)), some (.int (nI (3 * q))), none, none, none, none] [] F z k n := by
  obtain ⟨hC, hX, ha, hN, hCM, hSM, hSR, hZx, hNx⟩ := E
  obtain ⟨hI, hS, hpp⟩ := id hJ
  obtain ⟨hk9, hn9⟩ := hkn
  have hu8 : M.2.2.2.2.2.2.2.1 ≤ 8 := hI.2.2.2.1
  have hup0 : M.2.2.2.2.2.2.2.1 ≤ M.2.2.2.2.2.2.1 := hI.2.2.2.2.1
  have hsv0 : M.2.2.2.2.2.1 ≤ 1 := hI.2.2.2.2.2.1
  have hpp0 : M.2.2.2.2.2.2.1 < 100000 := by omega
  have hun0 : M.2.2.2.2.2.2.2.1 < 100000 := by omega
  obtain ⟨hb1, hb2, hb3⟩ := hS.1
  have hnx : M.1.2.2.1.2.1 < 999 := by omega
  have hn0 : M.1.2.2.1.2.1 + 1 < 1000 := by omega
  have hg0 : M.1.2.2.2.2.2.2.1 < 1000 := by omega
  have hf0 : M.1.2.2.2.2.2.2.2.2 < 1000 := by omega
  refine x_aload_n hC d_Law_law_505 rfl rfl ?_
  refine x_aload_n hC d_Law_law_506 rfl rfl ?_
  refine x_iload hC d_Law_law_507 rfl ?_
  refine x_iconst hC d_Law_law_509 (v := nI 1) (by decide) ?_
  refine x_iadd hC d_Law_law_510 (v := (nI (3 * q + 1))) (x_addN (by omega)) ?_
  refine x_sld hC hX ha (j := 3 * q + 1) ⟨rfl, by omega, by omega⟩ d_Law_law_511 ?_
  refine x_aload_n hC d_Law_law_512 rfl rfl ?_
  refine x_callW hC kw_Law_178 (c_Law_drop (hM := hM) (ho := ho) (hCM := hCM) (hSM := hSM) (hZx := hZx) (hpp0 := hpp0) (hun0 := hun0) (hNx := hNx) (hbo := Or.inr (by omega))) (Nat.le_of_ble_eq_true rfl) rfl rfl rfl (Nat.le_of_ble_eq_true rfl) ⟨by omega, by omega⟩ d_Law_law_513 (fun r9 Fw zw hp9 => ?_)
  rcases hp9 with ⟨rfl, hM9, ho9, p_0, hag9⟩ | ⟨rfl, hM9, ho9, hcond, hag9⟩
  · skip
    have hM : xMC Fw (cm) (b) ((chgM M (aDi M.1 (xs (3 * q + 1))))) := hM9
    have hD : xMD Fw (b + 566) (th) (M) := xMD_fr hD (fun a9 q1 q2 => hag9 a9 (by omega) (by omega))
    have ho : Fw (b + 578) = some (.inr (2, 1, fun b9 => .long ((vp_updL g 0 ((((aDi M.1 (xs (3 * q + 1))).1)).toInt64)) b9))) := ho9
    have hod : Fw (b + 579) = some (.inr (3, 1, fun b9 => .double (gd b9))) := (hag9 _ (by omega) (by omega)).trans hod
    clear hM9 ho9 hag9
    refine x_istore hC d_Law_law_516 (Nat.le_of_ble_eq_true rfl) (L1 := [some (.ref a), some (.ref b), some (.ref (b + 566)), some (.ref (b + 578)), some (.ref (b + 579)), some (.int (nI (3 * q))), some (.int (nI 0)), none, none, none]) rfl ?_
    refine x_aload_n hC d_Law_law_518 rfl rfl ?_
    refine x_aload_n hC d_Law_law_519 rfl rfl ?_
    refine x_iload hC d_Law_law_520 rfl ?_
    refine x_iconst hC d_Law_law_522 (v := nI 1) (by decide) ?_
    refine x_iadd hC d_Law_law_523 (v := (nI (3 * q + 1))) (x_addN (by omega)) ?_
    refine x_sld hC hX ha (j := 3 * q + 1) ⟨rfl, by omega, by omega⟩ d_Law_law_524 ?_
    obtain ⟨fsD, hDo⟩ := xMD_at hD
    refine x_callV hC kv_Law_180 (c_MessageCoderModel_drop (hD := hD) (hI := hI)) hDo rfl rfl (Nat.le_of_ble_eq_true rfl) rfl rfl rfl (Nat.le_of_ble_eq_true rfl) ⟨by omega, by omega⟩ d_Law_law_525 (fun r9 Fm z9 hp9 => ?_)
    obtain ⟨rfl, h9c, j0, hag9⟩ := hp9
    rw [h9c]
    clear h9c z9
    have hM : xMC Fm (cm) (b) ((chgM M (aDi M.1 (xs (3 * q + 1))))) := xMC_fr hM (fun a9 q1 q2 => hag9 a9 (by omega))
    have hD : xMD Fm (((b + 566))) (thC (codN (aDi M.1 (xs (3 * q + 1))).1) 0 0 1 0) ((chgM M (aDi M.1 (xs (3 * q + 1))))) := j0
    have ho : Fm (b + 578) = some (.inr (2, 1, fun b9 => .long ((vp_updL g 0 ((((aDi M.1 (xs (3 * q + 1))).1)).toInt64)) b9))) := (hag9 _ (by omega)).trans ho
    have hod : Fm (b + 579) = some (.inr (3, 1, fun b9 => .double (gd b9))) := (hag9 _ (by omega)).trans hod
    clear j0 hag9
    have hok : ¬ (aDi M.1 (xs (3 * q + 1))).1 < 0 := by
      rcases res_Di M.1 _ hI.1 with e9 | e9
      · exact e9
      · exact absurd (by rw [e9]) p_0
    have hT : (thC (codN (aDi M.1 (xs (3 * q + 1))).1) 0 0 1 0) = 0 := by rw [codN_pos hok]; decide
    rw [hT] at hD
    refine x_top (v := ((aDi M.1 (xs (3 * q + 1))).1)) (if_pos (codN_pos hok)) ?_
    refine x_istore hC d_Law_law_528 (Nat.le_of_ble_eq_true rfl) (L1 := [some (.ref a), some (.ref b), some (.ref (b + 566)), some (.ref (b + 578)), some (.ref (b + 579)), some (.int (nI (3 * q))), some (.int (nI 0)), some (.int ((aDi M.1 (xs (3 * q + 1))).1)), none, none]) rfl ?_
    refine x_aload_n hC d_Law_law_530 rfl rfl ?_
    obtain ⟨fsD, hDo⟩ := xMD_at hD
    refine x_callV hC kv_Law_163 (c_thrownD hD) hDo rfl rfl (Nat.le_of_ble_eq_true rfl) rfl rfl rfl (Nat.le_of_ble_eq_true rfl) ⟨by omega, by omega⟩ d_Law_law_531 (fun r9 F9 z9 hp9 => ?_)
    obtain ⟨rfl, h9b, h9c⟩ := hp9
    rw [h9b, h9c]
    clear h9b h9c F9 z9
    refine x_iload hC d_Law_law_534 rfl ?_
    refine x_icmpN_eq hC d_Law_law_536 (tgt := 541) (by decide) (by omega) (by omega) (fun c_536 => ?_) (fun c_536 => ?_)
    · skip
      refine x_iload hC d_Law_law_541 rfl ?_
      refine x_ifN_ne hC d_Law_law_543 (tgt := 558) (by decide) (by omega) (fun c_543 => ?_) (fun c_543 => ?_)
      · skip
        exact absurd c_543 (by omega)
      · skip
        refine x_aload_n hC d_Law_law_546 rfl rfl ?_
        refine x_iconst hC d_Law_law_547 (v := nI 0) (by decide) ?_
        refine x_lald hC ho (j := 0) ⟨rfl, by decide, by decide⟩ (x := (((aDi M.1 (xs (3 * q + 1))).1)).toInt64) rfl d_Law_law_548 ?_
        refine x_iload hC d_Law_law_549 rfl ?_
        refine x_i2l hC d_Law_law_551 rfl ?_
        refine x_lcmp hC d_Law_law_552 ?_
        refine x_top (v := nI 0) (lg_self _) ?_
        refine x_ifN_eq hC d_Law_law_553 (tgt := 558) (by decide) (by omega) (fun c_553 => ?_) (fun c_553 => ?_)
        · skip
          refine x_goto hC d_Law_law_558 (tgt := 2933) (by decide) ?_
          refine x_forget (L1 := [some (.ref a), some (.ref b), some (.ref (b + 566)), some (.ref (b + 578)), some (.ref (b + 579)), some (.int (nI (3 * q))), none, none, none, none]) ⟨Or.inr rfl, ⟨Or.inr rfl, ⟨Or.inr rfl, ⟨Or.inr rfl, ⟨Or.inr rfl, ⟨Or.inr rfl, ⟨Or.inl rfl, ⟨Or.inl rfl, ⟨Or.inl rfl, ⟨Or.inl rfl, trivial⟩⟩⟩⟩⟩⟩⟩⟩⟩⟩ ?_
          exact kk _ _ _ _ _ _ _ _ hM hD ho hod (lwJ_chg hJ (inv_Di hI.1 _) (sC_Di _ _)) (by omega) (by omega)
        · skip
          exact absurd c_553 (by omega)
    · skip
      exact absurd c_536 (by omega)
  · skip
    have hM : xMC Fw (cm) (b) ((chgM M (aDi M.1 (xs (3 * q + 1))))) := hM9
    have hD : xMD Fw (b + 566) (th) (M) := xMD_fr hD (fun a9 q1 q2 => hag9 a9 (by omega) (by omega))
    have ho : Fw (b + 578) = some (.inr (2, 1, fun b9 => .long (g b9))) := ho9
    have hod : Fw (b + 579) = some (.inr (3, 1, fun b9 => .double (gd b9))) := (hag9 _ (by omega) (by omega)).trans hod
    clear hM9 ho9 hag9
    refine x_istore hC d_Law_law_516 (Nat.le_of_ble_eq_true rfl) (L1 := [some (.ref a), some (.ref b), some (.ref (b + 566)), some (.ref (b + 578)), some (.ref (b + 579)), some (.int (nI (3 * q))), some (.int (nI 1)), none, none, none]) rfl ?_
    refine x_aload_n hC d_Law_law_518 rfl rfl ?_
    refine x_aload_n hC d_Law_law_519 rfl rfl ?_
    refine x_iload hC d_Law_law_520 rfl ?_
    refine x_iconst hC d_Law_law_522 (v := nI 1) (by decide) ?_
    refine x_iadd hC d_Law_law_523 (v := (nI (3 * q + 1))) (x_addN (by omega)) ?_
    refine x_sld hC hX ha (j := 3 * q + 1) ⟨rfl, by omega, by omega⟩ d_Law_law_524 ?_
    obtain ⟨fsD, hDo⟩ := xMD_at hD
    refine x_callV hC kv_Law_180 (c_MessageCoderModel_drop (hD := hD) (hI := hI)) hDo rfl rfl (Nat.le_of_ble_eq_true rfl) rfl rfl rfl (Nat.le_of_ble_eq_true rfl) ⟨by omega, by omega⟩ d_Law_law_525 (fun r9 Fm z9 hp9 => ?_)
    obtain ⟨rfl, h9c, j0, hag9⟩ := hp9
    rw [h9c]
    clear h9c z9
    have hM : xMC Fm (cm) (b) ((chgM M (aDi M.1 (xs (3 * q + 1))))) := xMC_fr hM (fun a9 q1 q2 => hag9 a9 (by omega))
    have hD : xMD Fm (((b + 566))) (thC (codN (aDi M.1 (xs (3 * q + 1))).1) 0 0 1 0) ((chgM M (aDi M.1 (xs (3 * q + 1))))) := j0
    have ho : Fm (b + 578) = some (.inr (2, 1, fun b9 => .long (g b9))) := (hag9 _ (by omega)).trans ho
    have hod : Fm (b + 579) = some (.inr (3, 1, fun b9 => .double (gd b9))) := (hag9 _ (by omega)).trans hod
    clear j0 hag9
    have hT : (thC (codN (aDi M.1 (xs (3 * q + 1))).1) 0 0 1 0) = 1 := by rw [hcond]; decide
    rw [hT] at hD
    refine x_istore hC d_Law_law_528 (Nat.le_of_ble_eq_true rfl) (L1 := [some (.ref a), some (.ref b), some (.ref (b + 566)), some (.ref (b + 578)), some (.ref (b + 579)), some (.int (nI (3 * q))), some (.int (nI 1)), some (.int (if codN (aDi M.1 (xs (3 * q + 1))).1 = 0 then (aDi M.1 (xs (3 * q + 1))).1 else nI 0)), none, none]) rfl ?_
    refine x_aload_n hC d_Law_law_530 rfl rfl ?_
    obtain ⟨fsD, hDo⟩ := xMD_at hD
    refine x_callV hC kv_Law_163 (c_thrownD hD) hDo rfl rfl (Nat.le_of_ble_eq_true rfl) rfl rfl rfl (Nat.le_of_ble_eq_true rfl) ⟨by omega, by omega⟩ d_Law_law_531 (fun r9 F9 z9 hp9 => ?_)
    obtain ⟨rfl, h9b, h9c⟩ := hp9
    rw [h9b, h9c]
    clear h9b h9c F9 z9
    refine x_iload hC d_Law_law_534 rfl ?_
    refine x_icmpN_eq hC d_Law_law_536 (tgt := 541) (by decide) (by omega) (by omega) (fun c_536 => ?_) (fun c_536 => ?_)
    · skip
      refine x_iload hC d_Law_law_541 rfl ?_
      refine x_ifN_ne hC d_Law_law_543 (tgt := 558) (by decide) (by omega) (fun c_543 => ?_) (fun c_543 => ?_)
      · skip
        refine x_goto hC d_Law_law_558 (tgt := 2933) (by decide) ?_
        refine x_forget (L1 := [some (.ref a), some (.ref b), some (.ref (b + 566)), some (.ref (b + 578)), some (.ref (b + 579)), some (.int (nI (3 * q))), none, none, none, none]) ⟨Or.inr rfl, ⟨Or.inr rfl, ⟨Or.inr rfl, ⟨Or.inr rfl, ⟨Or.inr rfl, ⟨Or.inr rfl, ⟨Or.inl rfl, ⟨Or.inl rfl, ⟨Or.inl rfl, ⟨Or.inl rfl, trivial⟩⟩⟩⟩⟩⟩⟩⟩⟩⟩ ?_
        exact kk _ _ _ _ _ _ _ _ hM hD ho hod (lwJ_chg hJ (inv_Di hI.1 _) (sC_Di _ _)) (by omega) (by omega)
      · skip
        exact absurd c_543 (by omega)
    · skip
      exact absurd c_536 (by omega)

set_option maxHeartbeats 4000000 in
set_option maxRecDepth 20000 in
theorem lc_5 {P : xP} {Θ : xT} {cm : cmT} {a N b sm rt q : Nat} {xs : Nat → Int32} (E : lwE P Θ cm a N b sm rt xs) {F : xF} {z k n th : Nat} {M : mcS} {g : Nat → Int64} {gd : Nat → UInt64} (hM : xMC F (cm) (b) (M)) (hD : xMD F (b + 566) (th) (M)) (ho : F (b + 578) = some (.inr (2, 1, fun b9 => .long (g b9)))) (hod : F (b + 579) = some (.inr (3, 1, fun b9 => .double (gd b9)))) (hJ : lwJ q M) (hq : 3 * q + 3 ≤ N) (hkn : k + 2 ≤ 603072 ∧ n + 12 ≤ 7207018) (kk : lwK P Θ cm a b q k n) : xX P Θ 561 [some (.ref (a)), some (.ref (b)), some (.ref (b + 566)), some (.ref (b + 578)), some (.ref (b + 579)), some (.int (nI (3 * q))), none, none, none, none] [] F z k n := by
  obtain ⟨hC, hX, ha, hN, hCM, hSM, hSR, hZx, hNx⟩ := E
  obtain ⟨hI, hS, hpp⟩ := id hJ
  obtain ⟨hk9, hn9⟩ := hkn
  have hu8 : M.2.2.2.2.2.2.2.1 ≤ 8 := hI.2.2.2.1
  have hup0 : M.2.2.2.2.2.2.2.1 ≤ M.2.2.2.2.2.2.1 := hI.2.2.2.2.1
  have hsv0 : M.2.2.2.2.2.1 ≤ 1 := hI.2.2.2.2.2.1
  have hpp0 : M.2.2.2.2.2.2.1 < 100000 := by omega
  have hun0 : M.2.2.2.2.2.2.2.1 < 100000 := by omega
  obtain ⟨hb1, hb2, hb3⟩ := hS.1
  have hnx : M.1.2.2.1.2.1 < 999 := by omega
  have hn0 : M.1.2.2.1.2.1 + 1 < 1000 := by omega
  have hg0 : M.1.2.2.2.2.2.2.1 < 1000 := by omega
  have hf0 : M.1.2.2.2.2.2.2.2.2 < 1000 := by omega
  refine x_aload_n hC d_Law_law_561 rfl rfl ?_
  refine x_aload_n hC d_Law_law_562 rfl rfl ?_
  refine x_iload hC d_Law_law_563 rfl ?_
  refine x_iconst hC d_Law_law_565 (v := nI 1) (by decide) ?_
  refine x_iadd hC d_Law_law_566 (v := (nI (3 * q + 1))) (x_addN (by omega)) ?_
  refine x_sld hC hX ha (j := 3 * q + 1) ⟨rfl, by omega, by omega⟩ d_Law_law_567 ?_
  refine x_aload_n hC d_Law_law_568 rfl rfl ?_
  refine x_iload hC d_Law_law_569 rfl ?_
  refine x_iconst hC d_Law_law_571 (v := nI 2) (by decide) ?_
  refine x_iadd hC d_Law_law_572 (v := (nI (3 * q + 2))) (x_addN (by omega)) ?_
  refine x_sld hC hX ha (j := 3 * q + 2) ⟨rfl, by omega, by omega⟩ d_Law_law_573 ?_
  refine x_aload_n hC d_Law_law_574 rfl rfl ?_
  refine x_callW hC kw_Law_181 (c_Law_setPriority (hM := hM) (ho := ho) (hCM := hCM) (hSM := hSM) (hZx := hZx) (hpp0 := hpp0) (hun0 := hun0) (hNx := hNx) (hbo := Or.inr (by omega))) (Nat.le_of_ble_eq_true rfl) rfl rfl rfl (Nat.le_of_ble_eq_true rfl) ⟨by omega, by omega⟩ d_Law_law_575 (fun r9 Fw zw hp9 => ?_)
  rcases hp9 with ⟨rfl, hM9, ho9, p_0, p_1, hag9⟩ | ⟨rfl, hM9, ho9, hcond, hag9⟩ | ⟨rfl, hM9, ho9, hcond, hag9⟩
  · skip
    have hM : xMC Fw (cm) (b) ((chgM M (aHu M.1 (xs (3 * q + 1)) (xs (3 * q + 2))))) := hM9
    have hD : xMD Fw (b + 566) (th) (M) := xMD_fr hD (fun a9 q1 q2 => hag9 a9 (by omega) (by omega))
    have ho : Fw (b + 578) = some (.inr (2, 1, fun b9 => .long ((vp_updL g 0 ((((aHu M.1 (xs (3 * q + 1)) (xs (3 * q + 2))).1)).toInt64)) b9))) := ho9
    have hod : Fw (b + 579) = some (.inr (3, 1, fun b9 => .double (gd b9))) := (hag9 _ (by omega) (by omega)).trans hod
    clear hM9 ho9 hag9
    refine x_istore hC d_Law_law_578 (Nat.le_of_ble_eq_true rfl) (L1 := [some (.ref a), some (.ref b), some (.ref (b + 566)), some (.ref (b + 578)), some (.ref (b + 579)), some (.int (nI (3 * q))), some (.int (nI 0)), none, none, none]) rfl ?_
    refine x_aload_n hC d_Law_law_580 rfl rfl ?_
    refine x_aload_n hC d_Law_law_581 rfl rfl ?_
    refine x_iload hC d_Law_law_582 rfl ?_
    refine x_iconst hC d_Law_law_584 (v := nI 1) (by decide) ?_
    refine x_iadd hC d_Law_law_585 (v := (nI (3 * q + 1))) (x_addN (by omega)) ?_
    refine x_sld hC hX ha (j := 3 * q + 1) ⟨rfl, by omega, by omega⟩ d_Law_law_586 ?_
    refine x_aload_n hC d_Law_law_587 rfl rfl ?_
    refine x_iload hC d_Law_law_588 rfl ?_
    refine x_iconst hC d_Law_law_590 (v := nI 2) (by decide) ?_
    refine x_iadd hC d_Law_law_591 (v := (nI (3 * q + 2))) (x_addN (by omega)) ?_
    refine x_sld hC hX ha (j := 3 * q + 2) ⟨rfl, by omega, by omega⟩ d_Law_law_592 ?_
    obtain ⟨fsD, hDo⟩ := xMD_at hD
    refine x_callV hC kv_Law_184 (c_MessageCoderModel_setPriority (hD := hD) (hI := hI)) hDo rfl rfl (Nat.le_of_ble_eq_true rfl) rfl rfl rfl (Nat.le_of_ble_eq_true rfl) ⟨by omega, by omega⟩ d_Law_law_593 (fun r9 Fm z9 hp9 => ?_)
    obtain ⟨rfl, h9c, j0, hag9⟩ := hp9
    rw [h9c]
    clear h9c z9
    have hM : xMC Fm (cm) (b) ((chgM M (aHu M.1 (xs (3 * q + 1)) (xs (3 * q + 2))))) := xMC_fr hM (fun a9 q1 q2 => hag9 a9 (by omega))
    have hD : xMD Fm (((b + 566))) (thC (codN (aHu M.1 (xs (3 * q + 1)) (xs (3 * q + 2))).1) 2 0 1 0) ((chgM M (aHu M.1 (xs (3 * q + 1)) (xs (3 * q + 2))))) := j0
    have ho : Fm (b + 578) = some (.inr (2, 1, fun b9 => .long ((vp_updL g 0 ((((aHu M.1 (xs (3 * q + 1)) (xs (3 * q + 2))).1)).toInt64)) b9))) := (hag9 _ (by omega)).trans ho
    have hod : Fm (b + 579) = some (.inr (3, 1, fun b9 => .double (gd b9))) := (hag9 _ (by omega)).trans hod
    clear j0 hag9
    have hok : ¬ (aHu M.1 (xs (3 * q + 1)) (xs (3 * q + 2))).1 < 0 := by
      rcases res_Hu M.1 _ _ hI.1 with e9 | e9 | e9
      · exact e9
      · exact absurd (by rw [e9]) p_1
      · exact absurd (by rw [e9]) p_0
    have hT : (thC (codN (aHu M.1 (xs (3 * q + 1)) (xs (3 * q + 2))).1) 2 0 1 0) = 0 := by rw [codN_pos hok]; decide
    rw [hT] at hD
    refine x_top (v := ((aHu M.1 (xs (3 * q + 1)) (xs (3 * q + 2))).1)) (if_pos (codN_pos hok)) ?_
    refine x_istore hC d_Law_law_596 (Nat.le_of_ble_eq_true rfl) (L1 := [some (.ref a), some (.ref b), some (.ref (b + 566)), some (.ref (b + 578)), some (.ref (b + 579)), some (.int (nI (3 * q))), some (.int (nI 0)), some (.int ((aHu M.1 (xs (3 * q + 1)) (xs (3 * q + 2))).1)), none, none]) rfl ?_
    refine x_aload_n hC d_Law_law_598 rfl rfl ?_
    obtain ⟨fsD, hDo⟩ := xMD_at hD
    refine x_callV hC kv_Law_163 (c_thrownD hD) hDo rfl rfl (Nat.le_of_ble_eq_true rfl) rfl rfl rfl (Nat.le_of_ble_eq_true rfl) ⟨by omega, by omega⟩ d_Law_law_599 (fun r9 F9 z9 hp9 => ?_)
    obtain ⟨rfl, h9b, h9c⟩ := hp9
    rw [h9b, h9c]
    clear h9b h9c F9 z9
    refine x_iload hC d_Law_law_602 rfl ?_
    refine x_icmpN_eq hC d_Law_law_604 (tgt := 609) (by decide) (by omega) (by omega) (fun c_604 => ?_) (fun c_604 => ?_)
    · skip
      refine x_iload hC d_Law_law_609 rfl ?_
      refine x_ifN_ne hC d_Law_law_611 (tgt := 626) (by decide) (by omega) (fun c_611 => ?_) (fun c_611 => ?_)
      · skip
        exact absurd c_611 (by omega)
      · skip
        refine x_aload_n hC d_Law_law_614 rfl rfl ?_
        refine x_iconst hC d_Law_law_615 (v := nI 0) (by decide) ?_
        refine x_lald hC ho (j := 0) ⟨rfl, by decide, by decide⟩ (x := (((aHu M.1 (xs (3 * q + 1)) (xs (3 * q + 2))).1)).toInt64) rfl d_Law_law_616 ?_
        refine x_iload hC d_Law_law_617 rfl ?_
        refine x_i2l hC d_Law_law_619 rfl ?_
        refine x_lcmp hC d_Law_law_620 ?_
        refine x_top (v := nI 0) (lg_self _) ?_
        refine x_ifN_eq hC d_Law_law_621 (tgt := 626) (by decide) (by omega) (fun c_621 => ?_) (fun c_621 => ?_)
        · skip
          refine x_goto hC d_Law_law_626 (tgt := 2933) (by decide) ?_
          refine x_forget (L1 := [some (.ref a), some (.ref b), some (.ref (b + 566)), some (.ref (b + 578)), some (.ref (b + 579)), some (.int (nI (3 * q))), none, none, none, none]) ⟨Or.inr rfl, ⟨Or.inr rfl, ⟨Or.inr rfl, ⟨Or.inr rfl, ⟨Or.inr rfl, ⟨Or.inr rfl, ⟨Or.inl rfl, ⟨Or.inl rfl, ⟨Or.inl rfl, ⟨Or.inl rfl, trivial⟩⟩⟩⟩⟩⟩⟩⟩⟩⟩ ?_
          exact kk _ _ _ _ _ _ _ _ hM hD ho hod (lwJ_chg hJ (inv_Hu hI.1 _ _) (sC_Hu _ _ _)) (by omega) (by omega)
        · skip
          exact absurd c_621 (by omega)
    · skip
      exact absurd c_604 (by omega)
  · skip
    have hM : xMC Fw (cm) (b) ((chgM M (aHu M.1 (xs (3 * q + 1)) (xs (3 * q + 2))))) := hM9
    have hD : xMD Fw (b + 566) (th) (M) := xMD_fr hD (fun a9 q1 q2 => hag9 a9 (by omega) (by omega))
    have ho : Fw (b + 578) = some (.inr (2, 1, fun b9 => .long (g b9))) := ho9
    have hod : Fw (b + 579) = some (.inr (3, 1, fun b9 => .double (gd b9))) := (hag9 _ (by omega) (by omega)).trans hod
    clear hM9 ho9 hag9
    refine x_istore hC d_Law_law_578 (Nat.le_of_ble_eq_true rfl) (L1 := [some (.ref a), some (.ref b), some (.ref (b + 566)), some (.ref (b + 578)), some (.ref (b + 579)), some (.int (nI (3 * q))), some (.int (nI 1)), none, none, none]) rfl ?_
    refine x_aload_n hC d_Law_law_580 rfl rfl ?_
    refine x_aload_n hC d_Law_law_581 rfl rfl ?_
    refine x_iload hC d_Law_law_582 rfl ?_
    refine x_iconst hC d_Law_law_584 (v := nI 1) (by decide) ?_
    refine x_iadd hC d_Law_law_585 (v := (nI (3 * q + 1))) (x_addN (by omega)) ?_
    refine x_sld hC hX ha (j := 3 * q + 1) ⟨rfl, by omega, by omega⟩ d_Law_law_586 ?_
    refine x_aload_n hC d_Law_law_587 rfl rfl ?_
    refine x_iload hC d_Law_law_588 rfl ?_
    refine x_iconst hC d_Law_law_590 (v := nI 2) (by decide) ?_
    refine x_iadd hC d_Law_law_591 (v := (nI (3 * q + 2))) (x_addN (by omega)) ?_
    refine x_sld hC hX ha (j := 3 * q + 2) ⟨rfl, by omega, by omega⟩ d_Law_law_592 ?_
    obtain ⟨fsD, hDo⟩ := xMD_at hD
    refine x_callV hC kv_Law_184 (c_MessageCoderModel_setPriority (hD := hD) (hI := hI)) hDo rfl rfl (Nat.le_of_ble_eq_true rfl) rfl rfl rfl (Nat.le_of_ble_eq_true rfl) ⟨by omega, by omega⟩ d_Law_law_593 (fun r9 Fm z9 hp9 => ?_)
    obtain ⟨rfl, h9c, j0, hag9⟩ := hp9
    rw [h9c]
    clear h9c z9
    have hM : xMC Fm (cm) (b) ((chgM M (aHu M.1 (xs (3 * q + 1)) (xs (3 * q + 2))))) := xMC_fr hM (fun a9 q1 q2 => hag9 a9 (by omega))
    have hD : xMD Fm (((b + 566))) (thC (codN (aHu M.1 (xs (3 * q + 1)) (xs (3 * q + 2))).1) 2 0 1 0) ((chgM M (aHu M.1 (xs (3 * q + 1)) (xs (3 * q + 2))))) := j0
    have ho : Fm (b + 578) = some (.inr (2, 1, fun b9 => .long (g b9))) := (hag9 _ (by omega)).trans ho
    have hod : Fm (b + 579) = some (.inr (3, 1, fun b9 => .double (gd b9))) := (hag9 _ (by omega)).trans hod
    clear j0 hag9
    have hT : (thC (codN (aHu M.1 (xs (3 * q + 1)) (xs (3 * q + 2))).1) 2 0 1 0) = 1 := by rw [hcond]; decide
    rw [hT] at hD
    refine x_istore hC d_Law_law_596 (Nat.le_of_ble_eq_true rfl) (L1 := [some (.ref a), some (.ref b), some (.ref (b + 566)), some (.ref (b + 578)), some (.ref (b + 579)), some (.int (nI (3 * q))), some (.int (nI 1)), some (.int (if codN (aHu M.1 (xs (3 * q + 1)) (xs (3 * q + 2))).1 = 0 then (aHu M.1 (xs (3 * q + 1)) (xs (3 * q + 2))).1 else nI 0)), none, none]) rfl ?_
    refine x_aload_n hC d_Law_law_598 rfl rfl ?_
    obtain ⟨fsD, hDo⟩ := xMD_at hD
    refine x_callV hC kv_Law_163 (c_thrownD hD) hDo rfl rfl (Nat.le_of_ble_eq_true rfl) rfl rfl rfl (Nat.le_of_ble_eq_true rfl) ⟨by omega, by omega⟩ d_Law_law_599 (fun r9 F9 z9 hp9 => ?_)
    obtain ⟨rfl, h9b, h9c⟩ := hp9
    rw [h9b, h9c]
    clear h9b h9c F9 z9
    refine x_iload hC d_Law_law_602 rfl ?_
    refine x_icmpN_eq hC d_Law_law_604 (tgt := 609) (by decide) (by omega) (by omega) (fun c_604 => ?_) (fun c_604 => ?_)
    · skip
      refine x_iload hC d_Law_law_609 rfl ?_
      refine x_ifN_ne hC d_Law_law_611 (tgt := 626) (by decide) (by omega) (fun c_611 => ?_) (fun c_611 => ?_)
      · skip
        refine x_goto hC d_Law_law_626 (tgt := 2933) (by decide) ?_
        refine x_forget (L1 := [some (.ref a), some (.ref b), some (.ref (b + 566)), some (.ref (b + 578)), some (.ref (b + 579)), some (.int (nI (3 * q))), none, none, none, none]) ⟨Or.inr rfl, ⟨Or.inr rfl, ⟨Or.inr rfl, ⟨Or.inr rfl, ⟨Or.inr rfl, ⟨Or.inr rfl, ⟨Or.inl rfl, ⟨Or.inl rfl, ⟨Or.inl rfl, ⟨Or.inl rfl, trivial⟩⟩⟩⟩⟩⟩⟩⟩⟩⟩ ?_
        exact kk _ _ _ _ _ _ _ _ hM hD ho hod (lwJ_chg hJ (inv_Hu hI.1 _ _) (sC_Hu _ _ _)) (by omega) (by omega)
      · skip
        exact absurd c_611 (by omega)
    · skip
      exact absurd c_604 (by omega)
  · skip
    have hM : xMC Fw (cm) (b) ((chgM M (aHu M.1 (xs (3 * q + 1)) (xs (3 * q + 2))))) := hM9
    have hD : xMD Fw (b + 566) (th) (M) := xMD_fr hD (fun a9 q1 q2 => hag9 a9 (by omega) (by omega))
    have ho : Fw (b + 578) = some (.inr (2, 1, fun b9 => .long (g b9))) := ho9
    have hod : Fw (b + 579) = some (.inr (3, 1, fun b9 => .double (gd b9))) := (hag9 _ (by omega) (by omega)).trans hod
    clear hM9 ho9 hag9
    refine x_istore hC d_Law_law_578 (Nat.le_of_ble_eq_true rfl) (L1 := [some (.ref a), some (.ref b), some (.ref (b + 566)), some (.ref (b + 578)), some (.ref (b + 579)), some (.int (nI (3 * q))), some (.int (nI 2)), none, none, none]) rfl ?_
    refine x_aload_n hC d_Law_law_580 rfl rfl ?_
    refine x_aload_n hC d_Law_law_581 rfl rfl ?_
    refine x_iload hC d_Law_law_582 rfl ?_
    refine x_iconst hC d_Law_law_584 (v := nI 1) (by decide) ?_
    refine x_iadd hC d_Law_law_585 (v := (nI (3 * q + 1))) (x_addN (by omega)) ?_
    refine x_sld hC hX ha (j := 3 * q + 1) ⟨rfl, by omega, by omega⟩ d_Law_law_586 ?_
    refine x_aload_n hC d_Law_law_587 rfl rfl ?_
    refine x_iload hC d_Law_law_588 rfl ?_
    refine x_iconst hC d_Law_law_590 (v := nI 2) (by decide) ?_
    refine x_iadd hC d_Law_law_591 (v := (nI (3 * q + 2))) (x_addN (by omega)) ?_
    refine x_sld hC hX ha (j := 3 * q + 2) ⟨rfl, by omega, by omega⟩ d_Law_law_592 ?_
    obtain ⟨fsD, hDo⟩ := xMD_at hD
    refine x_callV hC kv_Law_184 (c_MessageCoderModel_setPriority (hD := hD) (hI := hI)) hDo rfl rfl (Nat.le_of_ble_eq_true rfl) rfl rfl rfl (Nat.le_of_ble_eq_true rfl) ⟨by omega, by omega⟩ d_Law_law_593 (fun r9 Fm z9 hp9 => ?_)
    obtain ⟨rfl, h9c, j0, hag9⟩ := hp9
    rw [h9c]
    clear h9c z9
    have hM : xMC Fm (cm) (b) ((chgM M (aHu M.1 (xs (3 * q + 1)) (xs (3 * q + 2))))) := xMC_fr hM (fun a9 q1 q2 => hag9 a9 (by omega))
    have hD : xMD Fm (((b + 566))) (thC (codN (aHu M.1 (xs (3 * q + 1)) (xs (3 * q + 2))).1) 2 0 1 0) ((chgM M (aHu M.1 (xs (3 * q + 1)) (xs (3 * q + 2))))) := j0
    have ho : Fm (b + 578) = some (.inr (2, 1, fun b9 => .long (g b9))) := (hag9 _ (by omega)).trans ho
    have hod : Fm (b + 579) = some (.inr (3, 1, fun b9 => .double (gd b9))) := (hag9 _ (by omega)).trans hod
    clear j0 hag9
    have hT : (thC (codN (aHu M.1 (xs (3 * q + 1)) (xs (3 * q + 2))).1) 2 0 1 0) = 2 := by rw [hcond]; decide
    rw [hT] at hD
    refine x_istore hC d_Law_law_596 (Nat.le_of_ble_eq_true rfl) (L1 := [some (.ref a), some (.ref b), some (.ref (b + 566)), some (.ref (b + 578)), some (.ref (b + 579)), some (.int (nI (3 * q))), some (.int (nI 2)), some (.int (if codN (aHu M.1 (xs (3 * q + 1)) (xs (3 * q + 2))).1 = 0 then (aHu M.1 (xs (3 * q + 1)) (xs (3 * q + 2))).1 else nI 0)), none, none]) rfl ?_
    refine x_aload_n hC d_Law_law_598 rfl rfl ?_
    obtain ⟨fsD, hDo⟩ := xMD_at hD
    refine x_callV hC kv_Law_163 (c_thrownD hD) hDo rfl rfl (Nat.le_of_ble_eq_true rfl) rfl rfl rfl (Nat.le_of_ble_eq_true rfl) ⟨by omega, by omega⟩ d_Law_law_599 (fun r9 F9 z9 hp9 => ?_)
    obtain ⟨rfl, h9b, h9c⟩ := hp9
    rw [h9b, h9c]
    clear h9b h9c F9 z9
    refine x_iload hC d_Law_law_602 rfl ?_
    refine x_icmpN_eq hC d_Law_law_604 (tgt := 609) (by decide) (by omega) (by omega) (fun c_604 => ?_) (fun c_604 => ?_)
    · skip
      refine x_iload hC d_Law_law_609 rfl ?_
      refine x_ifN_ne hC d_Law_law_611 (tgt := 626) (by decide) (by omega) (fun c_611 => ?_) (fun c_611 => ?_)
      · skip
        refine x_goto hC d_Law_law_626 (tgt := 2933) (by decide) ?_
        refine x_forget (L1 := [some (.ref a), some (.ref b), some (.ref (b + 566)), some (.ref (b + 578)), some (.ref (b + 579)), some (.int (nI (3 * q))), none, none, none, none]) ⟨Or.inr rfl, ⟨Or.inr rfl, ⟨Or.inr rfl, ⟨Or.inr rfl, ⟨Or.inr rfl, ⟨Or.inr rfl, ⟨Or.inl rfl, ⟨Or.inl rfl, ⟨Or.inl rfl, ⟨Or.inl rfl, trivial⟩⟩⟩⟩⟩⟩⟩⟩⟩⟩ ?_
        exact kk _ _ _ _ _ _ _ _ hM hD ho hod (lwJ_chg hJ (inv_Hu hI.1 _ _) (sC_Hu _ _ _)) (by omega) (by omega)
      · skip
        exact absurd c_611 (by omega)
    · skip
      exact absurd c_604 (by omega)

set_option maxHeartbeats 4000000 in
set_option maxRecDepth 20000 in
theorem lc_6 {P : xP} {Θ : xT} {cm : cmT} {a N b sm rt q : Nat} {xs : Nat → Int32} (E : lwE P Θ cm a N b sm rt xs) {F : xF} {z k n th : Nat} {M : mcS} {g : Nat → Int64} {gd : Nat → UInt64} (hM : xMC F (cm) (b) (M)) (hD : xMD F (b + 566) (th) (M)) (ho : F (b + 578) = some (.inr (2, 1, fun b9 => .long (g b9)))) (hod : F (b + 579) = some (.inr (3, 1, fun b9 => .double (gd b9)))) (hJ : lwJ q M) (hq : 3 * q + 3 ≤ N) (hkn : k + 2 ≤ 603072 ∧ n + 12 ≤ 7207018) (kk : lwK P Θ cm a b q k n) : xX P Θ 629 [some (.ref (a)), some (.ref (b)), some (.ref (b + 566)), some (.ref (b + 578)), some (.ref (b + 579)), some (.int (nI (3 * q))), none, none, none, none] [] F z k n := by
  obtain ⟨hC, hX, ha, hN, hCM, hSM, hSR, hZx, hNx⟩ := E
  obtain ⟨hI, hS, hpp⟩ := id hJ
  obtain ⟨hk9, hn9⟩ := hkn
  have hu8 : M.2.2.2.2.2.2.2.1 ≤ 8 := hI.2.2.2.1
  have hup0 : M.2.2.2.2.2.2.2.1 ≤ M.2.2.2.2.2.2.1 := hI.2.2.2.2.1
  have hsv0 : M.2.2.2.2.2.1 ≤ 1 := hI.2.2.2.2.2.1
  have hpp0 : M.2.2.2.2.2.2.1 < 100000 := by omega
  have hun0 : M.2.2.2.2.2.2.2.1 < 100000 := by omega
  obtain ⟨hb1, hb2, hb3⟩ := hS.1
  have hnx : M.1.2.2.1.2.1 < 999 := by omega
  have hn0 : M.1.2.2.1.2.1 + 1 < 1000 := by omega
  have hg0 : M.1.2.2.2.2.2.2.1 < 1000 := by omega
  have hf0 : M.1.2.2.2.2.2.2.2.2 < 1000 := by omega
  refine x_aload_n hC d_Law_law_629 rfl rfl ?_
  refine x_aload_n hC d_Law_law_630 rfl rfl ?_
  refine x_iload hC d_Law_law_631 rfl ?_
  refine x_iconst hC d_Law_law_633 (v := nI 1) (by decide) ?_
  refine x_iadd hC d_Law_law_634 (v := (nI (3 * q + 1))) (x_addN (by omega)) ?_
  refine x_sld hC hX ha (j := 3 * q + 1) ⟨rfl, by omega, by omega⟩ d_Law_law_635 ?_
  refine x_aload_n hC d_Law_law_636 rfl rfl ?_
  refine x_callW hC kw_Law_185 (c_Law_learn (hM := hM) (ho := ho) (hCM := hCM) (hSM := hSM) (hZx := hZx) (hpp0 := hpp0) (hun0 := hun0) (hNx := hNx) (hbo := Or.inr (by omega))) (Nat.le_of_ble_eq_true rfl) rfl rfl rfl (Nat.le_of_ble_eq_true rfl) ⟨by omega, by omega⟩ d_Law_law_637 (fun r9 Fw zw hp9 => ?_)
  rcases hp9 with ⟨rfl, hM9, ho9, p_0, hag9⟩ | ⟨rfl, hM9, ho9, hcond, hag9⟩
  · skip
    have hM : xMC Fw (cm) (b) ((chgM M (aLe M.1 (xs (3 * q + 1))))) := hM9
    have hD : xMD Fw (b + 566) (th) (M) := xMD_fr hD (fun a9 q1 q2 => hag9 a9 (by omega) (by omega))
    have ho : Fw (b + 578) = some (.inr (2, 1, fun b9 => .long ((vp_updL g 0 ((((aLe M.1 (xs (3 * q + 1))).1)).toInt64)) b9))) := ho9
    have hod : Fw (b + 579) = some (.inr (3, 1, fun b9 => .double (gd b9))) := (hag9 _ (by omega) (by omega)).trans hod
    clear hM9 ho9 hag9
    refine x_istore hC d_Law_law_640 (Nat.le_of_ble_eq_true rfl) (L1 := [some (.ref a), some (.ref b), some (.ref (b + 566)), some (.ref (b + 578)), some (.ref (b + 579)), some (.int (nI (3 * q))), some (.int (nI 0)), none, none, none]) rfl ?_
    refine x_aload_n hC d_Law_law_642 rfl rfl ?_
    refine x_aload_n hC d_Law_law_643 rfl rfl ?_
    refine x_iload hC d_Law_law_644 rfl ?_
    refine x_iconst hC d_Law_law_646 (v := nI 1) (by decide) ?_
    refine x_iadd hC d_Law_law_647 (v := (nI (3 * q + 1))) (x_addN (by omega)) ?_
    refine x_sld hC hX ha (j := 3 * q + 1) ⟨rfl, by omega, by omega⟩ d_Law_law_648 ?_
    obtain ⟨fsD, hDo⟩ := xMD_at hD
    refine x_callV hC kv_Law_187 (c_MessageCoderModel_learn (hD := hD) (hI := hI)) hDo rfl rfl (Nat.le_of_ble_eq_true rfl) rfl rfl rfl (Nat.le_of_ble_eq_true rfl) ⟨by omega, by omega⟩ d_Law_law_649 (fun r9 Fm z9 hp9 => ?_)
    obtain ⟨rfl, h9c, j0, hag9⟩ := hp9
    rw [h9c]
    clear h9c z9
    have hM : xMC Fm (cm) (b) ((chgM M (aLe M.1 (xs (3 * q + 1))))) := xMC_fr hM (fun a9 q1 q2 => hag9 a9 (by omega))
    have hD : xMD Fm (((b + 566))) (thC (codN (aLe M.1 (xs (3 * q + 1))).1) 0 0 1 0) ((chgM M (aLe M.1 (xs (3 * q + 1))))) := j0
    have ho : Fm (b + 578) = some (.inr (2, 1, fun b9 => .long ((vp_updL g 0 ((((aLe M.1 (xs (3 * q + 1))).1)).toInt64)) b9))) := (hag9 _ (by omega)).trans ho
    have hod : Fm (b + 579) = some (.inr (3, 1, fun b9 => .double (gd b9))) := (hag9 _ (by omega)).trans hod
    clear j0 hag9
    have hok : ¬ (aLe M.1 (xs (3 * q + 1))).1 < 0 := by
      rcases res_Le M.1 _ hI.1 with e9 | e9
      · exact e9
      · exact absurd (by rw [e9]) p_0
    have hT : (thC (codN (aLe M.1 (xs (3 * q + 1))).1) 0 0 1 0) = 0 := by rw [codN_pos hok]; decide
    rw [hT] at hD
    refine x_top (v := ((aLe M.1 (xs (3 * q + 1))).1)) (if_pos (codN_pos hok)) ?_
    refine x_istore hC d_Law_law_652 (Nat.le_of_ble_eq_true rfl) (L1 := [some (.ref a), some (.ref b), some (.ref (b + 566)), some (.ref (b + 578)), some (.ref (b + 579)), some (.int (nI (3 * q))), some (.int (nI 0)), some (.int ((aLe M.1 (xs (3 * q + 1))).1)), none, none]) rfl ?_
    refine x_aload_n hC d_Law_law_654 rfl rfl ?_
    obtain ⟨fsD, hDo⟩ := xMD_at hD
    refine x_callV hC kv_Law_163 (c_thrownD hD) hDo rfl rfl (Nat.le_of_ble_eq_true rfl) rfl rfl rfl (Nat.le_of_ble_eq_true rfl) ⟨by omega, by omega⟩ d_Law_law_655 (fun r9 F9 z9 hp9 => ?_)
    obtain ⟨rfl, h9b, h9c⟩ := hp9
    rw [h9b, h9c]
    clear h9b h9c F9 z9
    refine x_iload hC d_Law_law_658 rfl ?_
    refine x_icmpN_eq hC d_Law_law_660 (tgt := 665) (by decide) (by omega) (by omega) (fun c_660 => ?_) (fun c_660 => ?_)
    · skip
      refine x_iload hC d_Law_law_665 rfl ?_
      refine x_ifN_ne hC d_Law_law_667 (tgt := 682) (by decide) (by omega) (fun c_667 => ?_) (fun c_667 => ?_)
      · skip
        exact absurd c_667 (by omega)
      · skip
        refine x_aload_n hC d_Law_law_670 rfl rfl ?_
        refine x_iconst hC d_Law_law_671 (v := nI 0) (by decide) ?_
        refine x_lald hC ho (j := 0) ⟨rfl, by decide, by decide⟩ (x := (((aLe M.1 (xs (3 * q + 1))).1)).toInt64) rfl d_Law_law_672 ?_
        refine x_iload hC d_Law_law_673 rfl ?_
        refine x_i2l hC d_Law_law_675 rfl ?_
        refine x_lcmp hC d_Law_law_676 ?_
        refine x_top (v := nI 0) (lg_self _) ?_
        refine x_ifN_eq hC d_Law_law_677 (tgt := 682) (by decide) (by omega) (fun c_677 => ?_) (fun c_677 => ?_)
        · skip
          refine x_goto hC d_Law_law_682 (tgt := 2933) (by decide) ?_
          refine x_forget (L1 := [some (.ref a), some (.ref b), some (.ref (b + 566)), some (.ref (b + 578)), some (.ref (b + 579)), some (.int (nI (3 * q))), none, none, none, none]) ⟨Or.inr rfl, ⟨Or.inr rfl, ⟨Or.inr rfl, ⟨Or.inr rfl, ⟨Or.inr rfl, ⟨Or.inr rfl, ⟨Or.inl rfl, ⟨Or.inl rfl, ⟨Or.inl rfl, ⟨Or.inl rfl, trivial⟩⟩⟩⟩⟩⟩⟩⟩⟩⟩ ?_
          exact kk _ _ _ _ _ _ _ _ hM hD ho hod (lwJ_chg hJ (inv_Le hI.1 _) (sC_Le _ _)) (by omega) (by omega)
        · skip
          exact absurd c_677 (by omega)
    · skip
      exact absurd c_660 (by omega)
  · skip
    have hM : xMC Fw (cm) (b) ((chgM M (aLe M.1 (xs (3 * q + 1))))) := hM9
    have hD : xMD Fw (b + 566) (th) (M) := xMD_fr hD (fun a9 q1 q2 => hag9 a9 (by omega) (by omega))
    have ho : Fw (b + 578) = some (.inr (2, 1, fun b9 => .long (g b9))) := ho9
    have hod : Fw (b + 579) = some (.inr (3, 1, fun b9 => .double (gd b9))) := (hag9 _ (by omega) (by omega)).trans hod
    clear hM9 ho9 hag9
    refine x_istore hC d_Law_law_640 (Nat.le_of_ble_eq_true rfl) (L1 := [some (.ref a), some (.ref b), some (.ref (b + 566)), some (.ref (b + 578)), some (.ref (b + 579)), some (.int (nI (3 * q))), some (.int (nI 1)), none, none, none]) rfl ?_
    refine x_aload_n hC d_Law_law_642 rfl rfl ?_
    refine x_aload_n hC d_Law_law_643 rfl rfl ?_
    refine x_iload hC d_Law_law_644 rfl ?_
    refine x_iconst hC d_Law_law_646 (v := nI 1) (by decide) ?_
    refine x_iadd hC d_Law_law_647 (v := (nI (3 * q + 1))) (x_addN (by omega)) ?_
    refine x_sld hC hX ha (j := 3 * q + 1) ⟨rfl, by omega, by omega⟩ d_Law_law_648 ?_
    obtain ⟨fsD, hDo⟩ := xMD_at hD
    refine x_callV hC kv_Law_187 (c_MessageCoderModel_learn (hD := hD) (hI := hI)) hDo rfl rfl (Nat.le_of_ble_eq_true rfl) rfl rfl rfl (Nat.le_of_ble_eq_true rfl) ⟨by omega, by omega⟩ d_Law_law_649 (fun r9 Fm z9 hp9 => ?_)
    obtain ⟨rfl, h9c, j0, hag9⟩ := hp9
    rw [h9c]
    clear h9c z9
    have hM : xMC Fm (cm) (b) ((chgM M (aLe M.1 (xs (3 * q + 1))))) := xMC_fr hM (fun a9 q1 q2 => hag9 a9 (by omega))
    have hD : xMD Fm (((b + 566))) (thC (codN (aLe M.1 (xs (3 * q + 1))).1) 0 0 1 0) ((chgM M (aLe M.1 (xs (3 * q + 1))))) := j0
    have ho : Fm (b + 578) = some (.inr (2, 1, fun b9 => .long (g b9))) := (hag9 _ (by omega)).trans ho
    have hod : Fm (b + 579) = some (.inr (3, 1, fun b9 => .double (gd b9))) := (hag9 _ (by omega)).trans hod
    clear j0 hag9
    have hT : (thC (codN (aLe M.1 (xs (3 * q + 1))).1) 0 0 1 0) = 1 := by rw [hcond]; decide
    rw [hT] at hD
    refine x_istore hC d_Law_law_652 (Nat.le_of_ble_eq_true rfl) (L1 := [some (.ref a), some (.ref b), some (.ref (b + 566)), some (.ref (b + 578)), some (.ref (b + 579)), some (.int (nI (3 * q))), some (.int (nI 1)), some (.int (if codN (aLe M.1 (xs (3 * q + 1))).1 = 0 then (aLe M.1 (xs (3 * q + 1))).1 else nI 0)), none, none]) rfl ?_
    refine x_aload_n hC d_Law_law_654 rfl rfl ?_
    obtain ⟨fsD, hDo⟩ := xMD_at hD
    refine x_callV hC kv_Law_163 (c_thrownD hD) hDo rfl rfl (Nat.le_of_ble_eq_true rfl) rfl rfl rfl (Nat.le_of_ble_eq_true rfl) ⟨by omega, by omega⟩ d_Law_law_655 (fun r9 F9 z9 hp9 => ?_)
    obtain ⟨rfl, h9b, h9c⟩ := hp9
    rw [h9b, h9c]
    clear h9b h9c F9 z9
    refine x_iload hC d_Law_law_658 rfl ?_
    refine x_icmpN_eq hC d_Law_law_660 (tgt := 665) (by decide) (by omega) (by omega) (fun c_660 => ?_) (fun c_660 => ?_)
    · skip
      refine x_iload hC d_Law_law_665 rfl ?_
      refine x_ifN_ne hC d_Law_law_667 (tgt := 682) (by decide) (by omega) (fun c_667 => ?_) (fun c_667 => ?_)
      · skip
        refine x_goto hC d_Law_law_682 (tgt := 2933) (by decide) ?_
        refine x_forget (L1 := [some (.ref a), some (.ref b), some (.ref (b + 566)), some (.ref (b + 578)), some (.ref (b + 579)), some (.int (nI (3 * q))), none, none, none, none]) ⟨Or.inr rfl, ⟨Or.inr rfl, ⟨Or.inr rfl, ⟨Or.inr rfl, ⟨Or.inr rfl, ⟨Or.inr rfl, ⟨Or.inl rfl, ⟨Or.inl rfl, ⟨Or.inl rfl, ⟨Or.inl rfl, trivial⟩⟩⟩⟩⟩⟩⟩⟩⟩⟩ ?_
        exact kk _ _ _ _ _ _ _ _ hM hD ho hod (lwJ_chg hJ (inv_Le hI.1 _) (sC_Le _ _)) (by omega) (by omega)
      · skip
        exact absurd c_667 (by omega)
    · skip
      exact absurd c_660 (by omega)

set_option maxHeartbeats 4000000 in
set_option maxRecDepth 20000 in
theorem lc_7 {P : xP} {Θ : xT} {cm : cmT} {a N b sm rt q : Nat} {xs : Nat → Int32} (E : lwE P Θ cm a N b sm rt xs) {F : xF} {z k n th : Nat} {M : mcS} {g : Nat → Int64} {gd : Nat → UInt64} (hM : xMC F (cm) (b) (M)) (hD : xMD F (b + 566) (th) (M)) (ho : F (b + 578) = some (.inr (2, 1, fun b9 => .long (g b9)))) (hod : F (b + 579) = some (.inr (3, 1, fun b9 => .double (gd b9)))) (hJ : lwJ q M) (hq : 3 * q + 3 ≤ N) (hkn : k + 2 ≤ 603072 ∧ n + 12 ≤ 7207018) (kk : lwK P Θ cm a b q k n) : xX P Θ 685 [some (.ref (a)), some (.ref (b)), some (.ref (b + 566)), some (.ref (b + 578)), some (.ref (b + 579)), some (.int (nI (3 * q))), none, none, none, none] [] F z k n := by
  obtain ⟨hC, hX, ha, hN, hCM, hSM, hSR, hZx, hNx⟩ := E
  obtain ⟨hI, hS, hpp⟩ := id hJ
  obtain ⟨hk9, hn9⟩ := hkn
  have hu8 : M.2.2.2.2.2.2.2.1 ≤ 8 := hI.2.2.2.1
  have hup0 : M.2.2.2.2.2.2.2.1 ≤ M.2.2.2.2.2.2.1 := hI.2.2.2.2.1
  have hsv0 : M.2.2.2.2.2.1 ≤ 1 := hI.2.2.2.2.2.1
  have hpp0 : M.2.2.2.2.2.2.1 < 100000 := by omega
  have hun0 : M.2.2.2.2.2.2.2.1 < 100000 := by omega
  obtain ⟨hb1, hb2, hb3⟩ := hS.1
  have hnx : M.1.2.2.1.2.1 < 999 := by omega
  have hn0 : M.1.2.2.1.2.1 + 1 < 1000 := by omega
  have hg0 : M.1.2.2.2.2.2.2.1 < 1000 := by omega
  have hf0 : M.1.2.2.2.2.2.2.2.2 < 1000 := by omega
  refine x_aload_n hC d_Law_law_685 rfl rfl ?_
  refine x_aload_n hC d_Law_law_686 rfl rfl ?_
  refine x_callW hC kw_Law_188 (c_Law_send (hM := hM) (ho := ho) (hCM := hCM) (hSM := hSM) (hZx := hZx) (hpp0 := hpp0) (hun0 := hun0) (hNx := hNx) (hbo := Or.inr (by omega))) (Nat.le_of_ble_eq_true rfl) rfl rfl rfl (Nat.le_of_ble_eq_true rfl) ⟨by omega, by omega⟩ d_Law_law_687 (fun r9 Fw zw hp9 => ?_)
  rcases hp9 with ⟨rfl, hM9, ho9, p_0, hag9⟩ | ⟨rfl, hM9, ho9, hcond, hag9⟩
  · skip
    have hM : xMC Fw (cm) (b) ((chgM M (aSe M.1))) := hM9
    have hD : xMD Fw (b + 566) (th) (M) := xMD_fr hD (fun a9 q1 q2 => hag9 a9 (by omega) (by omega))
    have ho : Fw (b + 578) = some (.inr (2, 1, fun b9 => .long ((vp_updL g 0 ((((aSe M.1).1)).toInt64)) b9))) := ho9
    have hod : Fw (b + 579) = some (.inr (3, 1, fun b9 => .double (gd b9))) := (hag9 _ (by omega) (by omega)).trans hod
    clear hM9 ho9 hag9
    refine x_istore hC d_Law_law_690 (Nat.le_of_ble_eq_true rfl) (L1 := [some (.ref a), some (.ref b), some (.ref (b + 566)), some (.ref (b + 578)), some (.ref (b + 579)), some (.int (nI (3 * q))), some (.int (nI 0)), none, none, none]) rfl ?_
    refine x_aload_n hC d_Law_law_692 rfl rfl ?_
    obtain ⟨fsD, hDo⟩ := xMD_at hD
    refine x_callV hC kv_Law_191 (c_MessageCoderModel_send (hD := hD) (hI := hI)) hDo rfl rfl (Nat.le_of_ble_eq_true rfl) rfl rfl rfl (Nat.le_of_ble_eq_true rfl) ⟨by omega, by omega⟩ d_Law_law_693 (fun r9 Fm z9 hp9 => ?_)
    obtain ⟨rfl, h9c, j0, hag9⟩ := hp9
    rw [h9c]
    clear h9c z9
    have hM : xMC Fm (cm) (b) ((chgM M (aSe M.1))) := xMC_fr hM (fun a9 q1 q2 => hag9 a9 (by omega))
    have hD : xMD Fm (((b + 566))) (thC (codN (aSe M.1).1) 0 0 1 0) ((chgM M (aSe M.1))) := j0
    have ho : Fm (b + 578) = some (.inr (2, 1, fun b9 => .long ((vp_updL g 0 ((((aSe M.1).1)).toInt64)) b9))) := (hag9 _ (by omega)).trans ho
    have hod : Fm (b + 579) = some (.inr (3, 1, fun b9 => .double (gd b9))) := (hag9 _ (by omega)).trans hod
    clear j0 hag9
    have hok : ¬ (aSe M.1).1 < 0 := by
      rcases res_Se M.1 hI.1 with e9 | e9
      · exact e9
      · exact absurd (by rw [e9]) p_0
    have hT : (thC (codN (aSe M.1).1) 0 0 1 0) = 0 := by rw [codN_pos hok]; decide
    rw [hT] at hD
    refine x_top (v := ((aSe M.1).1)) (if_pos (codN_pos hok)) ?_
    refine x_istore hC d_Law_law_696 (Nat.le_of_ble_eq_true rfl) (L1 := [some (.ref a), some (.ref b), some (.ref (b + 566)), some (.ref (b + 578)), some (.ref (b + 579)), some (.int (nI (3 * q))), some (.int (nI 0)), some (.int ((aSe M.1).1)), none, none]) rfl ?_
    refine x_aload_n hC d_Law_law_698 rfl rfl ?_
    obtain ⟨fsD, hDo⟩ := xMD_at hD
    refine x_callV hC kv_Law_163 (c_thrownD hD) hDo rfl rfl (Nat.le_of_ble_eq_true rfl) rfl rfl rfl (Nat.le_of_ble_eq_true rfl) ⟨by omega, by omega⟩ d_Law_law_699 (fun r9 F9 z9 hp9 => ?_)
    obtain ⟨rfl, h9b, h9c⟩ := hp9
    rw [h9b, h9c]
    clear h9b h9c F9 z9
    refine x_iload hC d_Law_law_702 rfl ?_
    refine x_icmpN_eq hC d_Law_law_704 (tgt := 709) (by decide) (by omega) (by omega) (fun c_704 => ?_) (fun c_704 => ?_)
    · skip
      refine x_iload hC d_Law_law_709 rfl ?_
      refine x_ifN_ne hC d_Law_law_711 (tgt := 726) (by decide) (by omega) (fun c_711 => ?_) (fun c_711 => ?_)
      · skip
        exact absurd c_711 (by omega)
      · skip
        refine x_aload_n hC d_Law_law_714 rfl rfl ?_
        refine x_iconst hC d_Law_law_715 (v := nI 0) (by decide) ?_
        refine x_lald hC ho (j := 0) ⟨rfl, by decide, by decide⟩ (x := (((aSe M.1).1)).toInt64) rfl d_Law_law_716 ?_
        refine x_iload hC d_Law_law_717 rfl ?_
        refine x_i2l hC d_Law_law_719 rfl ?_
        refine x_lcmp hC d_Law_law_720 ?_
        refine x_top (v := nI 0) (lg_self _) ?_
        refine x_ifN_eq hC d_Law_law_721 (tgt := 726) (by decide) (by omega) (fun c_721 => ?_) (fun c_721 => ?_)
        · skip
          refine x_goto hC d_Law_law_726 (tgt := 2933) (by decide) ?_
          refine x_forget (L1 := [some (.ref a), some (.ref b), some (.ref (b + 566)), some (.ref (b + 578)), some (.ref (b + 579)), some (.int (nI (3 * q))), none, none, none, none]) ⟨Or.inr rfl, ⟨Or.inr rfl, ⟨Or.inr rfl, ⟨Or.inr rfl, ⟨Or.inr rfl, ⟨Or.inr rfl, ⟨Or.inl rfl, ⟨Or.inl rfl, ⟨Or.inl rfl, ⟨Or.inl rfl, trivial⟩⟩⟩⟩⟩⟩⟩⟩⟩⟩ ?_
          exact kk _ _ _ _ _ _ _ _ hM hD ho hod (lwJ_chg hJ (inv_Se hI.1) (sC_Se _)) (by omega) (by omega)
        · skip
          exact absurd c_721 (by omega)
    · skip
      exact absurd c_704 (by omega)
  · skip
    have hM : xMC Fw (cm) (b) ((chgM M (aSe M.1))) := hM9
    have hD : xMD Fw (b + 566) (th) (M) := xMD_fr hD (fun a9 q1 q2 => hag9 a9 (by omega) (by omega))
    have ho : Fw (b + 578) = some (.inr (2, 1, fun b9 => .long (g b9))) := ho9
    have hod : Fw (b + 579) = some (.inr (3, 1, fun b9 => .double (gd b9))) := (hag9 _ (by omega) (by omega)).trans hod
    clear hM9 ho9 hag9
    refine x_istore hC d_Law_law_690 (Nat.le_of_ble_eq_true rfl) (L1 := [some (.ref a), some (.ref b), some (.ref (b + 566)), some (.ref (b + 578)), some (.ref (b + 579)), some (.int (nI (3 * q))), some (.int (nI 1)), none, none, none]) rfl ?_
    refine x_aload_n hC d_Law_law_692 rfl rfl ?_
    obtain ⟨fsD, hDo⟩ := xMD_at hD
    refine x_callV hC kv_Law_191 (c_MessageCoderModel_send (hD := hD) (hI := hI)) hDo rfl rfl (Nat.le_of_ble_eq_true rfl) rfl rfl rfl (Nat.le_of_ble_eq_true rfl) ⟨by omega, by omega⟩ d_Law_law_693 (fun r9 Fm z9 hp9 => ?_)
    obtain ⟨rfl, h9c, j0, hag9⟩ := hp9
    rw [h9c]
    clear h9c z9
    have hM : xMC Fm (cm) (b) ((chgM M (aSe M.1))) := xMC_fr hM (fun a9 q1 q2 => hag9 a9 (by omega))
    have hD : xMD Fm (((b + 566))) (thC (codN (aSe M.1).1) 0 0 1 0) ((chgM M (aSe M.1))) := j0
    have ho : Fm (b + 578) = some (.inr (2, 1, fun b9 => .long (g b9))) := (hag9 _ (by omega)).trans ho
    have hod : Fm (b + 579) = some (.inr (3, 1, fun b9 => .double (gd b9))) := (hag9 _ (by omega)).trans hod
    clear j0 hag9
    have hT : (thC (codN (aSe M.1).1) 0 0 1 0) = 1 := by rw [hcond]; decide
    rw [hT] at hD
    refine x_istore hC d_Law_law_696 (Nat.le_of_ble_eq_true rfl) (L1 := [some (.ref a), some (.ref b), some (.ref (b + 566)), some (.ref (b + 578)), some (.ref (b + 579)), some (.int (nI (3 * q))), some (.int (nI 1)), some (.int (if codN (aSe M.1).1 = 0 then (aSe M.1).1 else nI 0)), none, none]) rfl ?_
    refine x_aload_n hC d_Law_law_698 rfl rfl ?_
    obtain ⟨fsD, hDo⟩ := xMD_at hD
    refine x_callV hC kv_Law_163 (c_thrownD hD) hDo rfl rfl (Nat.le_of_ble_eq_true rfl) rfl rfl rfl (Nat.le_of_ble_eq_true rfl) ⟨by omega, by omega⟩ d_Law_law_699 (fun r9 F9 z9 hp9 => ?_)
    obtain ⟨rfl, h9b, h9c⟩ := hp9
    rw [h9b, h9c]
    clear h9b h9c F9 z9
    refine x_iload hC d_Law_law_702 rfl ?_
    refine x_icmpN_eq hC d_Law_law_704 (tgt := 709) (by decide) (by omega) (by omega) (fun c_704 => ?_) (fun c_704 => ?_)
    · skip
      refine x_iload hC d_Law_law_709 rfl ?_
      refine x_ifN_ne hC d_Law_law_711 (tgt := 726) (by decide) (by omega) (fun c_711 => ?_) (fun c_711 => ?_)
      · skip
        refine x_goto hC d_Law_law_726 (tgt := 2933) (by decide) ?_
        refine x_forget (L1 := [some (.ref a), some (.ref b), some (.ref (b + 566)), some (.ref (b + 578)), some (.ref (b + 579)), some (.int (nI (3 * q))), none, none, none, none]) ⟨Or.inr rfl, ⟨Or.inr rfl, ⟨Or.inr rfl, ⟨Or.inr rfl, ⟨Or.inr rfl, ⟨Or.inr rfl, ⟨Or.inl rfl, ⟨Or.inl rfl, ⟨Or.inl rfl, ⟨Or.inl rfl, trivial⟩⟩⟩⟩⟩⟩⟩⟩⟩⟩ ?_
        exact kk _ _ _ _ _ _ _ _ hM hD ho hod (lwJ_chg hJ (inv_Se hI.1) (sC_Se _)) (by omega) (by omega)
      · skip
        exact absurd c_711 (by omega)
    · skip
      exact absurd c_704 (by omega)

set_option maxHeartbeats 4000000 in
set_option maxRecDepth 20000 in
theorem lc_8 {P : xP} {Θ : xT} {cm : cmT} {a N b sm rt q : Nat} {xs : Nat → Int32} (E : lwE P Θ cm a N b sm rt xs) {F : xF} {z k n th : Nat} {M : mcS} {g : Nat → Int64} {gd : Nat → UInt64} (hM : xMC F (cm) (b) (M)) (hD : xMD F (b + 566) (th) (M)) (ho : F (b + 578) = some (.inr (2, 1, fun b9 => .long (g b9)))) (hod : F (b + 579) = some (.inr (3, 1, fun b9 => .double (gd b9)))) (hJ : lwJ q M) (hq : 3 * q + 3 ≤ N) (hkn : k + 2 ≤ 603072 ∧ n + 12 ≤ 7207018) (kk : lwK P Θ cm a b q k n) : xX P Θ 729 [some (.ref (a)), some (.ref (b)), some (.ref (b + 566)), some (.ref (b + 578)), some (.ref (b + 579)), some (.int (nI (3 * q))), none, none, none, none] [] F z k n := by
  obtain ⟨hC, hX, ha, hN, hCM, hSM, hSR, hZx, hNx⟩ := E
  obtain ⟨hI, hS, hpp⟩ := id hJ
  obtain ⟨hk9, hn9⟩ := hkn
  have hu8 : M.2.2.2.2.2.2.2.1 ≤ 8 := hI.2.2.2.1
  have hup0 : M.2.2.2.2.2.2.2.1 ≤ M.2.2.2.2.2.2.1 := hI.2.2.2.2.1
  have hsv0 : M.2.2.2.2.2.1 ≤ 1 := hI.2.2.2.2.2.1
  have hpp0 : M.2.2.2.2.2.2.1 < 100000 := by omega
  have hun0 : M.2.2.2.2.2.2.2.1 < 100000 := by omega
  obtain ⟨hb1, hb2, hb3⟩ := hS.1
  have hnx : M.1.2.2.1.2.1 < 999 := by omega
  have hn0 : M.1.2.2.1.2.1 + 1 < 1000 := by omega
  have hg0 : M.1.2.2.2.2.2.2.1 < 1000 := by omega
  have hf0 : M.1.2.2.2.2.2.2.2.2 < 1000 := by omega
  refine x_aload_n hC d_Law_law_729 rfl rfl ?_
  refine x_aload_n hC d_Law_law_730 rfl rfl ?_
  refine x_iload hC d_Law_law_731 rfl ?_
  refine x_iconst hC d_Law_law_733 (v := nI 1) (by decide) ?_
  refine x_iadd hC d_Law_law_734 (v := (nI (3 * q + 1))) (x_addN (by omega)) ?_
  refine x_sld hC hX ha (j := 3 * q + 1) ⟨rfl, by omega, by omega⟩ d_Law_law_735 ?_
  refine x_aload_n hC d_Law_law_736 rfl rfl ?_
  refine x_callW hC kw_Law_192 (c_Law_flip (hM := hM) (ho := ho) (hCM := hCM) (hSM := hSM) (hZx := hZx) (hpp0 := hpp0) (hun0 := hun0) (hNx := hNx) (hbo := Or.inr (by omega))) (Nat.le_of_ble_eq_true rfl) rfl rfl rfl (Nat.le_of_ble_eq_true rfl) ⟨by omega, by omega⟩ d_Law_law_737 (fun r9 Fw zw hp9 => ?_)
  rcases hp9 with ⟨rfl, hM9, ho9, p_0, hag9⟩ | ⟨rfl, hM9, ho9, hcond, hag9⟩
  · skip
    have hM : xMC Fw (cm) (b) ((chgM M (aFl M.1 (xs (3 * q + 1))))) := hM9
    have hD : xMD Fw (b + 566) (th) (M) := xMD_fr hD (fun a9 q1 q2 => hag9 a9 (by omega) (by omega))
    have ho : Fw (b + 578) = some (.inr (2, 1, fun b9 => .long ((vp_updL g 0 ((((aFl M.1 (xs (3 * q + 1))).1)).toInt64)) b9))) := ho9
    have hod : Fw (b + 579) = some (.inr (3, 1, fun b9 => .double (gd b9))) := (hag9 _ (by omega) (by omega)).trans hod
    clear hM9 ho9 hag9
    refine x_istore hC d_Law_law_740 (Nat.le_of_ble_eq_true rfl) (L1 := [some (.ref a), some (.ref b), some (.ref (b + 566)), some (.ref (b + 578)), some (.ref (b + 579)), some (.int (nI (3 * q))), some (.int (nI 0)), none, none, none]) rfl ?_
    refine x_aload_n hC d_Law_law_742 rfl rfl ?_
    refine x_aload_n hC d_Law_law_743 rfl rfl ?_
    refine x_iload hC d_Law_law_744 rfl ?_
    refine x_iconst hC d_Law_law_746 (v := nI 1) (by decide) ?_
    refine x_iadd hC d_Law_law_747 (v := (nI (3 * q + 1))) (x_addN (by omega)) ?_
    refine x_sld hC hX ha (j := 3 * q + 1) ⟨rfl, by omega, by omega⟩ d_Law_law_748 ?_
    obtain ⟨fsD, hDo⟩ := xMD_at hD
    refine x_callV hC kv_Law_194 (c_MessageCoderModel_flip (hD := hD) (hI := hI)) hDo rfl rfl (Nat.le_of_ble_eq_true rfl) rfl rfl rfl (Nat.le_of_ble_eq_true rfl) ⟨by omega, by omega⟩ d_Law_law_749 (fun r9 Fm z9 hp9 => ?_)
    obtain ⟨rfl, h9c, j0, hag9⟩ := hp9
    rw [h9c]
    clear h9c z9
    have hM : xMC Fm (cm) (b) ((chgM M (aFl M.1 (xs (3 * q + 1))))) := xMC_fr hM (fun a9 q1 q2 => hag9 a9 (by omega))
    have hD : xMD Fm (((b + 566))) (thC (codN (aFl M.1 (xs (3 * q + 1))).1) 0 0 0 1) ((chgM M (aFl M.1 (xs (3 * q + 1))))) := j0
    have ho : Fm (b + 578) = some (.inr (2, 1, fun b9 => .long ((vp_updL g 0 ((((aFl M.1 (xs (3 * q + 1))).1)).toInt64)) b9))) := (hag9 _ (by omega)).trans ho
    have hod : Fm (b + 579) = some (.inr (3, 1, fun b9 => .double (gd b9))) := (hag9 _ (by omega)).trans hod
    clear j0 hag9
    have hok : ¬ (aFl M.1 (xs (3 * q + 1))).1 < 0 := by
      rcases res_Fl M.1 _ hI.1 with e9 | e9
      · exact e9
      · exact absurd (by rw [e9]) p_0
    have hT : (thC (codN (aFl M.1 (xs (3 * q + 1))).1) 0 0 0 1) = 0 := by rw [codN_pos hok]; decide
    rw [hT] at hD
    refine x_top (v := ((aFl M.1 (xs (3 * q + 1))).1)) (if_pos (codN_pos hok)) ?_
    refine x_istore hC d_Law_law_752 (Nat.le_of_ble_eq_true rfl) (L1 := [some (.ref a), some (.ref b), some (.ref (b + 566)), some (.ref (b + 578)), some (.ref (b + 579)), some (.int (nI (3 * q))), some (.int (nI 0)), some (.int ((aFl M.1 (xs (3 * q + 1))).1)), none, none]) rfl ?_
    refine x_aload_n hC d_Law_law_754 rfl rfl ?_
    obtain ⟨fsD, hDo⟩ := xMD_at hD
    refine x_callV hC kv_Law_163 (c_thrownD hD) hDo rfl rfl (Nat.le_of_ble_eq_true rfl) rfl rfl rfl (Nat.le_of_ble_eq_true rfl) ⟨by omega, by omega⟩ d_Law_law_755 (fun r9 F9 z9 hp9 => ?_)
    obtain ⟨rfl, h9b, h9c⟩ := hp9
    rw [h9b, h9c]
    clear h9b h9c F9 z9
    refine x_iload hC d_Law_law_758 rfl ?_
    refine x_icmpN_eq hC d_Law_law_760 (tgt := 765) (by decide) (by omega) (by omega) (fun c_760 => ?_) (fun c_760 => ?_)
    · skip
      refine x_iload hC d_Law_law_765 rfl ?_
      refine x_ifN_ne hC d_Law_law_767 (tgt := 782) (by decide) (by omega) (fun c_767 => ?_) (fun c_767 => ?_)
      · skip
        exact absurd c_767 (by omega)
      · skip
        refine x_aload_n hC d_Law_law_770 rfl rfl ?_
        refine x_iconst hC d_Law_law_771 (v := nI 0) (by decide) ?_
        refine x_lald hC ho (j := 0) ⟨rfl, by decide, by decide⟩ (x := (((aFl M.1 (xs (3 * q + 1))).1)).toInt64) rfl d_Law_law_772 ?_
        refine x_iload hC d_Law_law_773 rfl ?_
        refine x_i2l hC d_Law_law_775 rfl ?_
        refine x_lcmp hC d_Law_law_776 ?_
        refine x_top (v := nI 0) (lg_self _) ?_
        refine x_ifN_eq hC d_Law_law_777 (tgt := 782) (by decide) (by omega) (fun c_777 => ?_) (fun c_777 => ?_)
        · skip
          refine x_goto hC d_Law_law_782 (tgt := 2933) (by decide) ?_
          refine x_forget (L1 := [some (.ref a), some (.ref b), some (.ref (b + 566)), some (.ref (b + 578)), some (.ref (b + 579)), some (.int (nI (3 * q))), none, none, none, none]) ⟨Or.inr rfl, ⟨Or.inr rfl, ⟨Or.inr rfl, ⟨Or.inr rfl, ⟨Or.inr rfl, ⟨Or.inr rfl, ⟨Or.inl rfl, ⟨Or.inl rfl, ⟨Or.inl rfl, ⟨Or.inl rfl, trivial⟩⟩⟩⟩⟩⟩⟩⟩⟩⟩ ?_
          exact kk _ _ _ _ _ _ _ _ hM hD ho hod (lwJ_chg hJ (inv_Fl hI.1 _) (sC_Fl _ _)) (by omega) (by omega)
        · skip
          exact absurd c_777 (by omega)
    · skip
      exact absurd c_760 (by omega)
  · skip
    have hM : xMC Fw (cm) (b) ((chgM M (aFl M.1 (xs (3 * q + 1))))) := hM9
    have hD : xMD Fw (b + 566) (th) (M) := xMD_fr hD (fun a9 q1 q2 => hag9 a9 (by omega) (by omega))
    have ho : Fw (b + 578) = some (.inr (2, 1, fun b9 => .long (g b9))) := ho9
    have hod : Fw (b + 579) = some (.inr (3, 1, fun b9 => .double (gd b9))) := (hag9 _ (by omega) (by omega)).trans hod
    clear hM9 ho9 hag9
    refine x_istore hC d_Law_law_740 (Nat.le_of_ble_eq_true rfl) (L1 := [some (.ref a), some (.ref b), some (.ref (b + 566)), some (.ref (b + 578)), some (.ref (b + 579)), some (.int (nI (3 * q))), some (.int (nI 1)), none, none, none]) rfl ?_
    refine x_aload_n hC d_Law_law_742 rfl rfl ?_
    refine x_aload_n hC d_Law_law_743 rfl rfl ?_
    refine x_iload hC d_Law_law_744 rfl ?_
    refine x_iconst hC d_Law_law_746 (v := nI 1) (by decide) ?_
    refine x_iadd hC d_Law_law_747 (v := (nI (3 * q + 1))) (x_addN (by omega)) ?_
    refine x_sld hC hX ha (j := 3 * q + 1) ⟨rfl, by omega, by omega⟩ d_Law_law_748 ?_
    obtain ⟨fsD, hDo⟩ := xMD_at hD
    refine x_callV hC kv_Law_194 (c_MessageCoderModel_flip (hD := hD) (hI := hI)) hDo rfl rfl (Nat.le_of_ble_eq_true rfl) rfl rfl rfl (Nat.le_of_ble_eq_true rfl) ⟨by omega, by omega⟩ d_Law_law_749 (fun r9 Fm z9 hp9 => ?_)
    obtain ⟨rfl, h9c, j0, hag9⟩ := hp9
    rw [h9c]
    clear h9c z9
    have hM : xMC Fm (cm) (b) ((chgM M (aFl M.1 (xs (3 * q + 1))))) := xMC_fr hM (fun a9 q1 q2 => hag9 a9 (by omega))
    have hD : xMD Fm (((b + 566))) (thC (codN (aFl M.1 (xs (3 * q + 1))).1) 0 0 0 1) ((chgM M (aFl M.1 (xs (3 * q + 1))))) := j0
    have ho : Fm (b + 578) = some (.inr (2, 1, fun b9 => .long (g b9))) := (hag9 _ (by omega)).trans ho
    have hod : Fm (b + 579) = some (.inr (3, 1, fun b9 => .double (gd b9))) := (hag9 _ (by omega)).trans hod
    clear j0 hag9
    have hT : (thC (codN (aFl M.1 (xs (3 * q + 1))).1) 0 0 0 1) = 1 := by rw [hcond]; decide
    rw [hT] at hD
    refine x_istore hC d_Law_law_752 (Nat.le_of_ble_eq_true rfl) (L1 := [some (.ref a), some (.ref b), some (.ref (b + 566)), some (.ref (b + 578)), some (.ref (b + 579)), some (.int (nI (3 * q))), some (.int (nI 1)), some (.int (if codN (aFl M.1 (xs (3 * q + 1))).1 = 0 then (aFl M.1 (xs (3 * q + 1))).1 else nI 0)), none, none]) rfl ?_
    refine x_aload_n hC d_Law_law_754 rfl rfl ?_
    obtain ⟨fsD, hDo⟩ := xMD_at hD
    refine x_callV hC kv_Law_163 (c_thrownD hD) hDo rfl rfl (Nat.le_of_ble_eq_true rfl) rfl rfl rfl (Nat.le_of_ble_eq_true rfl) ⟨by omega, by omega⟩ d_Law_law_755 (fun r9 F9 z9 hp9 => ?_)
    obtain ⟨rfl, h9b, h9c⟩ := hp9
    rw [h9b, h9c]
    clear h9b h9c F9 z9
    refine x_iload hC d_Law_law_758 rfl ?_
    refine x_icmpN_eq hC d_Law_law_760 (tgt := 765) (by decide) (by omega) (by omega) (fun c_760 => ?_) (fun c_760 => ?_)
    · skip
      refine x_iload hC d_Law_law_765 rfl ?_
      refine x_ifN_ne hC d_Law_law_767 (tgt := 782) (by decide) (by omega) (fun c_767 => ?_) (fun c_767 => ?_)
      · skip
        refine x_goto hC d_Law_law_782 (tgt := 2933) (by decide) ?_
        refine x_forget (L1 := [some (.ref a), some (.ref b), some (.ref (b + 566)), some (.ref (b + 578)), some (.ref (b + 579)), some (.int (nI (3 * q))), none, none, none, none]) ⟨Or.inr rfl, ⟨Or.inr rfl, ⟨Or.inr rfl, ⟨Or.inr rfl, ⟨Or.inr rfl, ⟨Or.inr rfl, ⟨Or.inl rfl, ⟨Or.inl rfl, ⟨Or.inl rfl, ⟨Or.inl rfl, trivial⟩⟩⟩⟩⟩⟩⟩⟩⟩⟩ ?_
        exact kk _ _ _ _ _ _ _ _ hM hD ho hod (lwJ_chg hJ (inv_Fl hI.1 _) (sC_Fl _ _)) (by omega) (by omega)
      · skip
        exact absurd c_767 (by omega)
    · skip
      exact absurd c_760 (by omega)

set_option maxHeartbeats 4000000 in
set_option maxRecDepth 20000 in
theorem lc_9 {P : xP} {Θ : xT} {cm : cmT} {a N b sm rt q : Nat} {xs : Nat → Int32} (E : lwE P Θ cm a N b sm rt xs) {F : xF} {z k n th : Nat} {M : mcS} {g : Nat → Int64} {gd : Nat → UInt64} (hM : xMC F (cm) (b) (M)) (hD : xMD F (b + 566) (th) (M)) (ho : F (b + 578) = some (.inr (2, 1, fun b9 => .long (g b9)))) (hod : F (b + 579) = some (.inr (3, 1, fun b9 => .double (gd b9)))) (hJ : lwJ q M) (hq : 3 * q + 3 ≤ N) (hkn : k + 2 ≤ 603072 ∧ n + 12 ≤ 7207018) (kk : lwK P Θ cm a b q k n) : xX P Θ 785 [some (.ref (a)), some (.ref (b)), some (.ref (b + 566)), some (.ref (b + 578)), some (.ref (b + 579)), some (.int (nI (3 * q))), none, none, none, none] [] F z k n := by
  obtain ⟨hC, hX, ha, hN, hCM, hSM, hSR, hZx, hNx⟩ := E
  obtain ⟨hI, hS, hpp⟩ := id hJ
  obtain ⟨hk9, hn9⟩ := hkn
  have hu8 : M.2.2.2.2.2.2.2.1 ≤ 8 := hI.2.2.2.1
  have hup0 : M.2.2.2.2.2.2.2.1 ≤ M.2.2.2.2.2.2.1 := hI.2.2.2.2.1
  have hsv0 : M.2.2.2.2.2.1 ≤ 1 := hI.2.2.2.2.2.1
  have hpp0 : M.2.2.2.2.2.2.1 < 100000 := by omega
  have hun0 : M.2.2.2.2.2.2.2.1 < 100000 := by omega
  obtain ⟨hb1, hb2, hb3⟩ := hS.1
  have hnx : M.1.2.2.1.2.1 < 999 := by omega
  have hn0 : M.1.2.2.1.2.1 + 1 < 1000 := by omega
  have hg0 : M.1.2.2.2.2.2.2.1 < 1000 := by omega
  have hf0 : M.1.2.2.2.2.2.2.2.2 < 1000 := by omega
  refine x_aload_n hC d_Law_law_785 rfl rfl ?_
  refine x_aload_n hC d_Law_law_786 rfl rfl ?_
  refine x_callW hC kw_Law_195 (c_Law_receive (hM := hM) (ho := ho) (hCM := hCM) (hSM := hSM) (hZx := hZx) (hpp0 := hpp0) (hun0 := hun0) (hNx := hNx) (hbo := Or.inr (by omega))) (Nat.le_of_ble_eq_true rfl) rfl rfl rfl (Nat.le_of_ble_eq_true rfl) ⟨by omega, by omega⟩ d_Law_law_787 (fun r9 Fw zw hp9 => ?_)
  rcases hp9 with ⟨rfl, hM9, ho9, p_0, hag9⟩ | ⟨rfl, hM9, ho9, hcond, hag9⟩
  · skip
    have hM : xMC Fw (cm) (b) ((chgM M (aRe M.1))) := hM9
    have hD : xMD Fw (b + 566) (th) (M) := xMD_fr hD (fun a9 q1 q2 => hag9 a9 (by omega) (by omega))
    have ho : Fw (b + 578) = some (.inr (2, 1, fun b9 => .long ((vp_updL g 0 ((((aRe M.1).1)).toInt64)) b9))) := ho9
    have hod : Fw (b + 579) = some (.inr (3, 1, fun b9 => .double (gd b9))) := (hag9 _ (by omega) (by omega)).trans hod
    clear hM9 ho9 hag9
    refine x_istore hC d_Law_law_790 (Nat.le_of_ble_eq_true rfl) (L1 := [some (.ref a), some (.ref b), some (.ref (b + 566)), some (.ref (b + 578)), some (.ref (b + 579)), some (.int (nI (3 * q))), some (.int (nI 0)), none, none, none]) rfl ?_
    refine x_aload_n hC d_Law_law_792 rfl rfl ?_
    obtain ⟨fsD, hDo⟩ := xMD_at hD
    refine x_callV hC kv_Law_197 (c_MessageCoderModel_receive (hD := hD) (hI := hI)) hDo rfl rfl (Nat.le_of_ble_eq_true rfl) rfl rfl rfl (Nat.le_of_ble_eq_true rfl) ⟨by omega, by omega⟩ d_Law_law_793 (fun r9 Fm z9 hp9 => ?_)
    obtain ⟨rfl, h9c, j0, hag9⟩ := hp9
    rw [h9c]
    clear h9c z9
    have hM : xMC Fm (cm) (b) ((chgM M (aRe M.1))) := xMC_fr hM (fun a9 q1 q2 => hag9 a9 (by omega))
    have hD : xMD Fm (((b + 566))) (thC (codN (aRe M.1).1) 0 0 1 0) ((chgM M (aRe M.1))) := j0
    have ho : Fm (b + 578) = some (.inr (2, 1, fun b9 => .long ((vp_updL g 0 ((((aRe M.1).1)).toInt64)) b9))) := (hag9 _ (by omega)).trans ho
    have hod : Fm (b + 579) = some (.inr (3, 1, fun b9 => .double (gd b9))) := (hag9 _ (by omega)).trans hod
    clear j0 hag9
    have hok : ¬ (aRe M.1).1 < 0 := by
      rcases res_Re M.1 hI.1 with e9 | e9
      · exact e9
      · exact absurd (by rw [e9]) p_0
    have hT : (thC (codN (aRe M.1).1) 0 0 1 0) = 0 := by rw [codN_pos hok]; decide
    rw [hT] at hD
    refine x_top (v := ((aRe M.1).1)) (if_pos (codN_pos hok)) ?_
    refine x_istore hC d_Law_law_796 (Nat.le_of_ble_eq_true rfl) (L1 := [some (.ref a), some (.ref b), some (.ref (b + 566)), some (.ref (b + 578)), some (.ref (b + 579)), some (.int (nI (3 * q))), some (.int (nI 0)), some (.int ((aRe M.1).1)), none, none]) rfl ?_
    refine x_aload_n hC d_Law_law_798 rfl rfl ?_
    obtain ⟨fsD, hDo⟩ := xMD_at hD
    refine x_callV hC kv_Law_163 (c_thrownD hD) hDo rfl rfl (Nat.le_of_ble_eq_true rfl) rfl rfl rfl (Nat.le_of_ble_eq_true rfl) ⟨by omega, by omega⟩ d_Law_law_799 (fun r9 F9 z9 hp9 => ?_)
    obtain ⟨rfl, h9b, h9c⟩ := hp9
    rw [h9b, h9c]
    clear h9b h9c F9 z9
    refine x_iload hC d_Law_law_802 rfl ?_
    refine x_icmpN_eq hC d_Law_law_804 (tgt := 809) (by decide) (by omega) (by omega) (fun c_804 => ?_) (fun c_804 => ?_)
    · skip
      refine x_iload hC d_Law_law_809 rfl ?_
      refine x_ifN_ne hC d_Law_law_811 (tgt := 826) (by decide) (by omega) (fun c_811 => ?_) (fun c_811 => ?_)
      · skip
        exact absurd c_811 (by omega)
      · skip
        refine x_aload_n hC d_Law_law_814 rfl rfl ?_
        refine x_iconst hC d_Law_law_815 (v := nI 0) (by decide) ?_
        refine x_lald hC ho (j := 0) ⟨rfl, by decide, by decide⟩ (x := (((aRe M.1).1)).toInt64) rfl d_Law_law_816 ?_
        refine x_iload hC d_Law_law_817 rfl ?_
        refine x_i2l hC d_Law_law_819 rfl ?_
        refine x_lcmp hC d_Law_law_820 ?_
        refine x_top (v := nI 0) (lg_self _) ?_
        refine x_ifN_eq hC d_Law_law_821 (tgt := 826) (by decide) (by omega) (fun c_821 => ?_) (fun c_821 => ?_)
        · skip
          refine x_goto hC d_Law_law_826 (tgt := 2933) (by decide) ?_
          refine x_forget (L1 := [some (.ref a), some (.ref b), some (.ref (b + 566)), some (.ref (b + 578)), some (.ref (b + 579)), some (.int (nI (3 * q))), none, none, none, none]) ⟨Or.inr rfl, ⟨Or.inr rfl, ⟨Or.inr rfl, ⟨Or.inr rfl, ⟨Or.inr rfl, ⟨Or.inr rfl, ⟨Or.inl rfl, ⟨Or.inl rfl, ⟨Or.inl rfl, ⟨Or.inl rfl, trivial⟩⟩⟩⟩⟩⟩⟩⟩⟩⟩ ?_
          exact kk _ _ _ _ _ _ _ _ hM hD ho hod (lwJ_chg hJ (inv_Re hI.1) (sC_Re _)) (by omega) (by omega)
        · skip
          exact absurd c_821 (by omega)
    · skip
      exact absurd c_804 (by omega)
  · skip
    have hM : xMC Fw (cm) (b) ((chgM M (aRe M.1))) := hM9
    have hD : xMD Fw (b + 566) (th) (M) := xMD_fr hD (fun a9 q1 q2 => hag9 a9 (by omega) (by omega))
    have ho : Fw (b + 578) = some (.inr (2, 1, fun b9 => .long (g b9))) := ho9
    have hod : Fw (b + 579) = some (.inr (3, 1, fun b9 => .double (gd b9))) := (hag9 _ (by omega) (by omega)).trans hod
    clear hM9 ho9 hag9
    refine x_istore hC d_Law_law_790 (Nat.le_of_ble_eq_true rfl) (L1 := [some (.ref a), some (.ref b), some (.ref (b + 566)), some (.ref (b + 578)), some (.ref (b + 579)), some (.int (nI (3 * q))), some (.int (nI 1)), none, none, none]) rfl ?_
    refine x_aload_n hC d_Law_law_792 rfl rfl ?_
    obtain ⟨fsD, hDo⟩ := xMD_at hD
    refine x_callV hC kv_Law_197 (c_MessageCoderModel_receive (hD := hD) (hI := hI)) hDo rfl rfl (Nat.le_of_ble_eq_true rfl) rfl rfl rfl (Nat.le_of_ble_eq_true rfl) ⟨by omega, by omega⟩ d_Law_law_793 (fun r9 Fm z9 hp9 => ?_)
    obtain ⟨rfl, h9c, j0, hag9⟩ := hp9
    rw [h9c]
    clear h9c z9
    have hM : xMC Fm (cm) (b) ((chgM M (aRe M.1))) := xMC_fr hM (fun a9 q1 q2 => hag9 a9 (by omega))
    have hD : xMD Fm (((b + 566))) (thC (codN (aRe M.1).1) 0 0 1 0) ((chgM M (aRe M.1))) := j0
    have ho : Fm (b + 578) = some (.inr (2, 1, fun b9 => .long (g b9))) := (hag9 _ (by omega)).trans ho
    have hod : Fm (b + 579) = some (.inr (3, 1, fun b9 => .double (gd b9))) := (hag9 _ (by omega)).trans hod
    clear j0 hag9
    have hT : (thC (codN (aRe M.1).1) 0 0 1 0) = 1 := by rw [hcond]; decide
    rw [hT] at hD
    refine x_istore hC d_Law_law_796 (Nat.le_of_ble_eq_true rfl) (L1 := [some (.ref a), some (.ref b), some (.ref (b + 566)), some (.ref (b + 578)), some (.ref (b + 579)), some (.int (nI (3 * q))), some (.int (nI 1)), some (.int (if codN (aRe M.1).1 = 0 then (aRe M.1).1 else nI 0)), none, none]) rfl ?_
    refine x_aload_n hC d_Law_law_798 rfl rfl ?_
    obtain ⟨fsD, hDo⟩ := xMD_at hD
    refine x_callV hC kv_Law_163 (c_thrownD hD) hDo rfl rfl (Nat.le_of_ble_eq_true rfl) rfl rfl rfl (Nat.le_of_ble_eq_true rfl) ⟨by omega, by omega⟩ d_Law_law_799 (fun r9 F9 z9 hp9 => ?_)
    obtain ⟨rfl, h9b, h9c⟩ := hp9
    rw [h9b, h9c]
    clear h9b h9c F9 z9
    refine x_iload hC d_Law_law_802 rfl ?_
    refine x_icmpN_eq hC d_Law_law_804 (tgt := 809) (by decide) (by omega) (by omega) (fun c_804 => ?_) (fun c_804 => ?_)
    · skip
      refine x_iload hC d_Law_law_809 rfl ?_
      refine x_ifN_ne hC d_Law_law_811 (tgt := 826) (by decide) (by omega) (fun c_811 => ?_) (fun c_811 => ?_)
      · skip
        refine x_goto hC d_Law_law_826 (tgt := 2933) (by decide) ?_
        refine x_forget (L1 := [some (.ref a), some (.ref b), some (.ref (b + 566)), some (.ref (b + 578)), some (.ref (b + 579)), some (.int (nI (3 * q))), none, none, none, none]) ⟨Or.inr rfl, ⟨Or.inr rfl, ⟨Or.inr rfl, ⟨Or.inr rfl, ⟨Or.inr rfl, ⟨Or.inr rfl, ⟨Or.inl rfl, ⟨Or.inl rfl, ⟨Or.inl rfl, ⟨Or.inl rfl, trivial⟩⟩⟩⟩⟩⟩⟩⟩⟩⟩ ?_
        exact kk _ _ _ _ _ _ _ _ hM hD ho hod (lwJ_chg hJ (inv_Re hI.1) (sC_Re _)) (by omega) (by omega)
      · skip
        exact absurd c_811 (by omega)
    · skip
      exact absurd c_804 (by omega)

set_option maxHeartbeats 4000000 in
set_option maxRecDepth 20000 in
theorem lc_10 {P : xP} {Θ : xT} {cm : cmT} {a N b sm rt q : Nat} {xs : Nat → Int32} (E : lwE P Θ cm a N b sm rt xs) {F : xF} {z k n th : Nat} {M : mcS} {g : Nat → Int64} {gd : Nat → UInt64} (hM : xMC F (cm) (b) (M)) (hD : xMD F (b + 566) (th) (M)) (ho : F (b + 578) = some (.inr (2, 1, fun b9 => .long (g b9)))) (hod : F (b + 579) = some (.inr (3, 1, fun b9 => .double (gd b9)))) (hJ : lwJ q M) (hq : 3 * q + 3 ≤ N) (hkn : k + 2 ≤ 603072 ∧ n + 12 ≤ 7207018) (kk : lwK P Θ cm a b q k n) : xX P Θ 829 [some (.ref (a)), some (.ref (b)), some (.ref (b + 566)), some (.ref (b + 578)), some (.ref (b + 579)), some (.int (nI (3 * q))), none, none, none, none] [] F z k n := by
  obtain ⟨hC, hX, ha, hN, hCM, hSM, hSR, hZx, hNx⟩ := E
  obtain ⟨hI, hS, hpp⟩ := id hJ
  obtain ⟨hk9, hn9⟩ := hkn
  have hu8 : M.2.2.2.2.2.2.2.1 ≤ 8 := hI.2.2.2.1
  have hup0 : M.2.2.2.2.2.2.2.1 ≤ M.2.2.2.2.2.2.1 := hI.2.2.2.2.1
  have hsv0 : M.2.2.2.2.2.1 ≤ 1 := hI.2.2.2.2.2.1
  have hpp0 : M.2.2.2.2.2.2.1 < 100000 := by omega
  have hun0 : M.2.2.2.2.2.2.2.1 < 100000 := by omega
  obtain ⟨hb1, hb2, hb3⟩ := hS.1
  have hnx : M.1.2.2.1.2.1 < 999 := by omega
  have hn0 : M.1.2.2.1.2.1 + 1 < 1000 := by omega
  have hg0 : M.1.2.2.2.2.2.2.1 < 1000 := by omega
  have hf0 : M.1.2.2.2.2.2.2.2.2 < 1000 := by omega
  refine x_aload_n hC d_Law_law_829 rfl rfl ?_
  refine x_aload_n hC d_Law_law_830 rfl rfl ?_
  refine x_iload hC d_Law_law_831 rfl ?_
  refine x_iconst hC d_Law_law_833 (v := nI 1) (by decide) ?_
  refine x_iadd hC d_Law_law_834 (v := (nI (3 * q + 1))) (x_addN (by omega)) ?_
  refine x_sld hC hX ha (j := 3 * q + 1) ⟨rfl, by omega, by omega⟩ d_Law_law_835 ?_
  refine x_i2c hC d_Law_law_836 (v := nI (chN (xs (3 * q + 1)))) (chN_I _) ?_
  refine x_aload_n hC d_Law_law_837 rfl rfl ?_
  refine x_callW hC kw_Law_198 (c_Law_weightOf (hM := hM) (ho := ho) (hZx := hZx) (hcb := chN_lt _) (hNx := hNx) (hbo := Or.inr (by omega))) (Nat.le_of_ble_eq_true rfl) rfl rfl rfl (Nat.le_of_ble_eq_true rfl) ⟨by omega, by omega⟩ d_Law_law_838 (fun r9 Fw zw hp9 => ?_)
  rcases hp9 with ⟨rfl, hM9, ho9, p_0, hag9⟩ | ⟨rfl, hM9, ho9, hcond, hag9⟩
  · skip
    have hM : xMC Fw (cm) (b) (M) := hM9
    have hD : xMD Fw (b + 566) (th) (M) := xMD_fr hD (fun a9 q1 q2 => hag9 a9 (by omega) (by omega))
    have ho : Fw (b + 578) = some (.inr (2, 1, fun b9 => .long ((vp_updL g 0 (((nI (M.1.1 ((chN (xs (3 * q + 1))) - 97)))).toInt64)) b9))) := ho9
    have hod : Fw (b + 579) = some (.inr (3, 1, fun b9 => .double (gd b9))) := (hag9 _ (by omega) (by omega)).trans hod
    clear hM9 ho9 hag9
    refine x_istore hC d_Law_law_841 (Nat.le_of_ble_eq_true rfl) (L1 := [some (.ref a), some (.ref b), some (.ref (b + 566)), some (.ref (b + 578)), some (.ref (b + 579)), some (.int (nI (3 * q))), some (.int (nI 0)), none, none, none]) rfl ?_
    refine x_aload_n hC d_Law_law_843 rfl rfl ?_
    refine x_aload_n hC d_Law_law_844 rfl rfl ?_
    refine x_iload hC d_Law_law_845 rfl ?_
    refine x_iconst hC d_Law_law_847 (v := nI 1) (by decide) ?_
    refine x_iadd hC d_Law_law_848 (v := (nI (3 * q + 1))) (x_addN (by omega)) ?_
    refine x_sld hC hX ha (j := 3 * q + 1) ⟨rfl, by omega, by omega⟩ d_Law_law_849 ?_
    refine x_i2c hC d_Law_law_850 (v := nI (chN (xs (3 * q + 1)))) (chN_I _) ?_
    obtain ⟨fsD, hDo⟩ := xMD_at hD
    refine x_callV hC kv_Law_200 (c_MessageCoderModel_weightOf (hD := hD) (hI := hI) (hcb := chN_lt _)) hDo rfl rfl (Nat.le_of_ble_eq_true rfl) rfl rfl rfl (Nat.le_of_ble_eq_true rfl) ⟨by omega, by omega⟩ d_Law_law_851 (fun r9 Fm z9 hp9 => ?_)
    obtain ⟨rfl, h9c, j0, hag9⟩ := hp9
    rw [h9c]
    clear h9c z9
    have hM : xMC Fm (cm) (b) (M) := xMC_fr hM (fun a9 q1 q2 => hag9 a9 (by omega))
    have hD : xMD Fm (((b + 566))) ((if 97 ≤ (chN (xs (3 * q + 1))) ∧ (chN (xs (3 * q + 1))) < 105 then 0 else 1)) (M) := j0
    have ho : Fm (b + 578) = some (.inr (2, 1, fun b9 => .long ((vp_updL g 0 (((nI (M.1.1 ((chN (xs (3 * q + 1))) - 97)))).toInt64)) b9))) := (hag9 _ (by omega)).trans ho
    have hod : Fm (b + 579) = some (.inr (3, 1, fun b9 => .double (gd b9))) := (hag9 _ (by omega)).trans hod
    clear j0 hag9
    have hT : ((if 97 ≤ (chN (xs (3 * q + 1))) ∧ (chN (xs (3 * q + 1))) < 105 then 0 else 1)) = 0 := if_pos p_0
    rw [hT] at hD
    refine x_top (v := (nI (M.1.1 ((chN (xs (3 * q + 1))) - 97)))) (congrArg nI (if_pos p_0)) ?_
    refine x_istore hC d_Law_law_854 (Nat.le_of_ble_eq_true rfl) (L1 := [some (.ref a), some (.ref b), some (.ref (b + 566)), some (.ref (b + 578)), some (.ref (b + 579)), some (.int (nI (3 * q))), some (.int (nI 0)), some (.int (nI (M.1.1 ((chN (xs (3 * q + 1))) - 97)))), none, none]) rfl ?_
    refine x_aload_n hC d_Law_law_856 rfl rfl ?_
    obtain ⟨fsD, hDo⟩ := xMD_at hD
    refine x_callV hC kv_Law_163 (c_thrownD hD) hDo rfl rfl (Nat.le_of_ble_eq_true rfl) rfl rfl rfl (Nat.le_of_ble_eq_true rfl) ⟨by omega, by omega⟩ d_Law_law_857 (fun r9 F9 z9 hp9 => ?_)
    obtain ⟨rfl, h9b, h9c⟩ := hp9
    rw [h9b, h9c]
    clear h9b h9c F9 z9
    refine x_iload hC d_Law_law_860 rfl ?_
    refine x_icmpN_eq hC d_Law_law_862 (tgt := 867) (by decide) (by omega) (by omega) (fun c_862 => ?_) (fun c_862 => ?_)
    · skip
      refine x_iload hC d_Law_law_867 rfl ?_
      refine x_ifN_ne hC d_Law_law_869 (tgt := 884) (by decide) (by omega) (fun c_869 => ?_) (fun c_869 => ?_)
      · skip
        exact absurd c_869 (by omega)
      · skip
        refine x_aload_n hC d_Law_law_872 rfl rfl ?_
        refine x_iconst hC d_Law_law_873 (v := nI 0) (by decide) ?_
        refine x_lald hC ho (j := 0) ⟨rfl, by decide, by decide⟩ (x := ((nI (M.1.1 ((chN (xs (3 * q + 1))) - 97)))).toInt64) rfl d_Law_law_874 ?_
        refine x_iload hC d_Law_law_875 rfl ?_
        refine x_i2l hC d_Law_law_877 rfl ?_
        refine x_lcmp hC d_Law_law_878 ?_
        refine x_top (v := nI 0) (lg_self _) ?_
        refine x_ifN_eq hC d_Law_law_879 (tgt := 884) (by decide) (by omega) (fun c_879 => ?_) (fun c_879 => ?_)
        · skip
          refine x_goto hC d_Law_law_884 (tgt := 2933) (by decide) ?_
          refine x_forget (L1 := [some (.ref a), some (.ref b), some (.ref (b + 566)), some (.ref (b + 578)), some (.ref (b + 579)), some (.int (nI (3 * q))), none, none, none, none]) ⟨Or.inr rfl, ⟨Or.inr rfl, ⟨Or.inr rfl, ⟨Or.inr rfl, ⟨Or.inr rfl, ⟨Or.inr rfl, ⟨Or.inl rfl, ⟨Or.inl rfl, ⟨Or.inl rfl, ⟨Or.inl rfl, trivial⟩⟩⟩⟩⟩⟩⟩⟩⟩⟩ ?_
          exact kk _ _ _ _ _ _ _ _ hM hD ho hod (lwJ_s hJ) (by omega) (by omega)
        · skip
          exact absurd c_879 (by omega)
    · skip
      exact absurd c_862 (by omega)
  · skip
    have hM : xMC Fw (cm) (b) (M) := hM9
    have hD : xMD Fw (b + 566) (th) (M) := xMD_fr hD (fun a9 q1 q2 => hag9 a9 (by omega) (by omega))
    have ho : Fw (b + 578) = some (.inr (2, 1, fun b9 => .long (g b9))) := ho9
    have hod : Fw (b + 579) = some (.inr (3, 1, fun b9 => .double (gd b9))) := (hag9 _ (by omega) (by omega)).trans hod
    clear hM9 ho9 hag9
    refine x_istore hC d_Law_law_841 (Nat.le_of_ble_eq_true rfl) (L1 := [some (.ref a), some (.ref b), some (.ref (b + 566)), some (.ref (b + 578)), some (.ref (b + 579)), some (.int (nI (3 * q))), some (.int (nI 1)), none, none, none]) rfl ?_
    refine x_aload_n hC d_Law_law_843 rfl rfl ?_
    refine x_aload_n hC d_Law_law_844 rfl rfl ?_
    refine x_iload hC d_Law_law_845 rfl ?_
    refine x_iconst hC d_Law_law_847 (v := nI 1) (by decide) ?_
    refine x_iadd hC d_Law_law_848 (v := (nI (3 * q + 1))) (x_addN (by omega)) ?_
    refine x_sld hC hX ha (j := 3 * q + 1) ⟨rfl, by omega, by omega⟩ d_Law_law_849 ?_
    refine x_i2c hC d_Law_law_850 (v := nI (chN (xs (3 * q + 1)))) (chN_I _) ?_
    obtain ⟨fsD, hDo⟩ := xMD_at hD
    refine x_callV hC kv_Law_200 (c_MessageCoderModel_weightOf (hD := hD) (hI := hI) (hcb := chN_lt _)) hDo rfl rfl (Nat.le_of_ble_eq_true rfl) rfl rfl rfl (Nat.le_of_ble_eq_true rfl) ⟨by omega, by omega⟩ d_Law_law_851 (fun r9 Fm z9 hp9 => ?_)
    obtain ⟨rfl, h9c, j0, hag9⟩ := hp9
    rw [h9c]
    clear h9c z9
    have hM : xMC Fm (cm) (b) (M) := xMC_fr hM (fun a9 q1 q2 => hag9 a9 (by omega))
    have hD : xMD Fm (((b + 566))) ((if 97 ≤ (chN (xs (3 * q + 1))) ∧ (chN (xs (3 * q + 1))) < 105 then 0 else 1)) (M) := j0
    have ho : Fm (b + 578) = some (.inr (2, 1, fun b9 => .long (g b9))) := (hag9 _ (by omega)).trans ho
    have hod : Fm (b + 579) = some (.inr (3, 1, fun b9 => .double (gd b9))) := (hag9 _ (by omega)).trans hod
    clear j0 hag9
    have hT : ((if 97 ≤ (chN (xs (3 * q + 1))) ∧ (chN (xs (3 * q + 1))) < 105 then 0 else 1)) = 1 := if_neg hcond
    rw [hT] at hD
    refine x_istore hC d_Law_law_854 (Nat.le_of_ble_eq_true rfl) (L1 := [some (.ref a), some (.ref b), some (.ref (b + 566)), some (.ref (b + 578)), some (.ref (b + 579)), some (.int (nI (3 * q))), some (.int (nI 1)), some (.int (nI (if 97 ≤ (chN (xs (3 * q + 1))) ∧ (chN (xs (3 * q + 1))) < 105 then M.1.1 ((chN (xs (3 * q + 1))) - 97) else 0))), none, none]) rfl ?_
    refine x_aload_n hC d_Law_law_856 rfl rfl ?_
    obtain ⟨fsD, hDo⟩ := xMD_at hD
    refine x_callV hC kv_Law_163 (c_thrownD hD) hDo rfl rfl (Nat.le_of_ble_eq_true rfl) rfl rfl rfl (Nat.le_of_ble_eq_true rfl) ⟨by omega, by omega⟩ d_Law_law_857 (fun r9 F9 z9 hp9 => ?_)
    obtain ⟨rfl, h9b, h9c⟩ := hp9
    rw [h9b, h9c]
    clear h9b h9c F9 z9
    refine x_iload hC d_Law_law_860 rfl ?_
    refine x_icmpN_eq hC d_Law_law_862 (tgt := 867) (by decide) (by omega) (by omega) (fun c_862 => ?_) (fun c_862 => ?_)
    · skip
      refine x_iload hC d_Law_law_867 rfl ?_
      refine x_ifN_ne hC d_Law_law_869 (tgt := 884) (by decide) (by omega) (fun c_869 => ?_) (fun c_869 => ?_)
      · skip
        refine x_goto hC d_Law_law_884 (tgt := 2933) (by decide) ?_
        refine x_forget (L1 := [some (.ref a), some (.ref b), some (.ref (b + 566)), some (.ref (b + 578)), some (.ref (b + 579)), some (.int (nI (3 * q))), none, none, none, none]) ⟨Or.inr rfl, ⟨Or.inr rfl, ⟨Or.inr rfl, ⟨Or.inr rfl, ⟨Or.inr rfl, ⟨Or.inr rfl, ⟨Or.inl rfl, ⟨Or.inl rfl, ⟨Or.inl rfl, ⟨Or.inl rfl, trivial⟩⟩⟩⟩⟩⟩⟩⟩⟩⟩ ?_
        exact kk _ _ _ _ _ _ _ _ hM hD ho hod (lwJ_s hJ) (by omega) (by omega)
      · skip
        exact absurd c_869 (by omega)
    · skip
      exact absurd c_862 (by omega)

set_option maxHeartbeats 4000000 in
set_option maxRecDepth 20000 in
theorem lc_11 {P : xP} {Θ : xT} {cm : cmT} {a N b sm rt q : Nat} {xs : Nat → Int32} (E : lwE P Θ cm a N b sm rt xs) {F : xF} {z k n th : Nat} {M : mcS} {g : Nat → Int64} {gd : Nat → UInt64} (hM : xMC F (cm) (b) (M)) (hD : xMD F (b + 566) (th) (M)) (ho : F (b + 578) = some (.inr (2, 1, fun b9 => .long (g b9)))) (hod : F (b + 579) = some (.inr (3, 1, fun b9 => .double (gd b9)))) (hJ : lwJ q M) (hq : 3 * q + 3 ≤ N) (hkn : k + 2 ≤ 603072 ∧ n + 12 ≤ 7207018) (kk : lwK P Θ cm a b q k n) : xX P Θ 887 [some (.ref (a)), some (.ref (b)), some (.ref (b + 566)), some (.ref (b + 578)), some (.ref (b + 579)), some (.int (nI (3 * q))), none, none, none, none] [] F z k n := by
  obtain ⟨hC, hX, ha, hN, hCM, hSM, hSR, hZx, hNx⟩ := E
  obtain ⟨hI, hS, hpp⟩ := id hJ
  obtain ⟨hk9, hn9⟩ := hkn
  have hu8 : M.2.2.2.2.2.2.2.1 ≤ 8 := hI.2.2.2.1
  have hup0 : M.2.2.2.2.2.2.2.1 ≤ M.2.2.2.2.2.2.1 := hI.2.2.2.2.1
  have hsv0 : M.2.2.2.2.2.1 ≤ 1 := hI.2.2.2.2.2.1
  have hpp0 : M.2.2.2.2.2.2.1 < 100000 := by omega
  have hun0 : M.2.2.2.2.2.2.2.1 < 100000 := by omega
  obtain ⟨hb1, hb2, hb3⟩ := hS.1
  have hnx : M.1.2.2.1.2.1 < 999 := by omega
  have hn0 : M.1.2.2.1.2.1 + 1 < 1000 := by omega
  have hg0 : M.1.2.2.2.2.2.2.1 < 1000 := by omega
  have hf0 : M.1.2.2.2.2.2.2.2.2 < 1000 := by omega
  refine x_aload_n hC d_Law_law_887 rfl rfl ?_
  obtain ⟨hMo, -⟩ := id hM
  refine x_callV hC kv_Law_201 (c_MessageCoder_totalWeight (hM := hM) ) hMo rfl rfl (Nat.le_of_ble_eq_true rfl) rfl rfl rfl (Nat.le_of_ble_eq_true rfl) ⟨by omega, by omega⟩ d_Law_law_888 (fun r9 Fc z9 hp9 => ?_)
  obtain ⟨rfl, h9b, h9c⟩ := hp9
  rw [h9b, h9c]
  clear h9b h9c Fc z9
  refine x_aload_n hC d_Law_law_891 rfl rfl ?_
  obtain ⟨fsD, hDo⟩ := xMD_at hD
  refine x_callV hC kv_Law_204 (c_MessageCoderModel_totalWeight (hD := hD) (hI := hI)) hDo rfl rfl (Nat.le_of_ble_eq_true rfl) rfl rfl rfl (Nat.le_of_ble_eq_true rfl) ⟨by omega, by omega⟩ d_Law_law_892 (fun r9 Fm z9 hp9 => ?_)
  obtain ⟨rfl, h9c, j0, hag9⟩ := hp9
  rw [h9c]
  clear h9c z9
  have hM : xMC Fm (cm) (b) (M) := xMC_fr hM (fun a9 q1 q2 => hag9 a9 (by omega))
  have hD : xMD Fm (((b + 566))) (0) (M) := j0
  have ho : Fm (b + 578) = some (.inr (2, 1, fun b9 => .long (g b9))) := (hag9 _ (by omega)).trans ho
  have hod : Fm (b + 579) = some (.inr (3, 1, fun b9 => .double (gd b9))) := (hag9 _ (by omega)).trans hod
  clear j0 hag9
  refine x_icmp_eq hC d_Law_law_895 (tgt := 2933) (by decide) (fun c_895 => ?_) (fun c_895 => ?_)
  · skip
    exact kk _ _ _ _ _ _ _ _ hM hD ho hod (lwJ_s hJ) (by omega) (by omega)
  · exact absurd rfl c_895

set_option maxHeartbeats 4000000 in
set_option maxRecDepth 20000 in
theorem lc_12 {P : xP} {Θ : xT} {cm : cmT} {a N b sm rt q : Nat} {xs : Nat → Int32} (E : lwE P Θ cm a N b sm rt xs) {F : xF} {z k n th : Nat} {M : mcS} {g : Nat → Int64} {gd : Nat → UInt64} (hM : xMC F (cm) (b) (M)) (hD : xMD F (b + 566) (th) (M)) (ho : F (b + 578) = some (.inr (2, 1, fun b9 => .long (g b9)))) (hod : F (b + 579) = some (.inr (3, 1, fun b9 => .double (gd b9)))) (hJ : lwJ q M) (hq : 3 * q + 3 ≤ N) (hkn : k + 2 ≤ 603072 ∧ n + 12 ≤ 7207018) (kk : lwK P Θ cm a b q k n) : xX P Θ 900 [some (.ref (a)), some (.ref (b)), some (.ref (b + 566)), some (.ref (b + 578)), some (.ref (b + 579)), some (.int (nI (3 * q))), none, none, none, none] [] F z k n := by
  obtain ⟨hC, hX, ha, hN, hCM, hSM, hSR, hZx, hNx⟩ := E
  obtain ⟨hI, hS, hpp⟩ := id hJ
  obtain ⟨hk9, hn9⟩ := hkn
  have hu8 : M.2.2.2.2.2.2.2.1 ≤ 8 := hI.2.2.2.1
  have hup0 : M.2.2.2.2.2.2.2.1 ≤ M.2.2.2.2.2.2.1 := hI.2.2.2.2.1
  have hsv0 : M.2.2.2.2.2.1 ≤ 1 := hI.2.2.2.2.2.1
  have hpp0 : M.2.2.2.2.2.2.1 < 100000 := by omega
  have hun0 : M.2.2.2.2.2.2.2.1 < 100000 := by omega
  obtain ⟨hb1, hb2, hb3⟩ := hS.1
  have hnx : M.1.2.2.1.2.1 < 999 := by omega
  have hn0 : M.1.2.2.1.2.1 + 1 < 1000 := by omega
  have hg0 : M.1.2.2.2.2.2.2.1 < 1000 := by omega
  have hf0 : M.1.2.2.2.2.2.2.2.2 < 1000 := by omega
  refine x_aload_n hC d_Law_law_900 rfl rfl ?_
  refine x_aload_n hC d_Law_law_901 rfl rfl ?_
  refine x_iload hC d_Law_law_902 rfl ?_
  refine x_iconst hC d_Law_law_904 (v := nI 1) (by decide) ?_
  refine x_iadd hC d_Law_law_905 (v := (nI (3 * q + 1))) (x_addN (by omega)) ?_
  refine x_sld hC hX ha (j := 3 * q + 1) ⟨rfl, by omega, by omega⟩ d_Law_law_906 ?_
  refine x_i2c hC d_Law_law_907 (v := nI (chN (xs (3 * q + 1)))) (chN_I _) ?_
  refine x_aload_n hC d_Law_law_908 rfl rfl ?_
  refine x_callW hC kw_Law_205 (c_Law_codeLength (hM := hM) (ho := ho) (hZx := hZx) (hcb := chN_lt _) (hNx := hNx) (hbo := Or.inr (by omega))) (Nat.le_of_ble_eq_true rfl) rfl rfl rfl (Nat.le_of_ble_eq_true rfl) ⟨by omega, by omega⟩ d_Law_law_909 (fun r9 Fw zw hp9 => ?_)
  rcases hp9 with ⟨rfl, hM9, ho9, p_0, hag9⟩ | ⟨rfl, hM9, ho9, hcond, hag9⟩
  · skip
    have hM : xMC Fw (cm) (b) (M) := hM9
    have hD : xMD Fw (b + 566) (th) (M) := xMD_fr hD (fun a9 q1 q2 => hag9 a9 (by omega) (by omega))
    have ho : Fw (b + 578) = some (.inr (2, 1, fun b9 => .long ((vp_updL g 0 (((nI (hLen M.1.1 ((chN (xs (3 * q + 1))) - 97)))).toInt64)) b9))) := ho9
    have hod : Fw (b + 579) = some (.inr (3, 1, fun b9 => .double (gd b9))) := (hag9 _ (by omega) (by omega)).trans hod
    clear hM9 ho9 hag9
    refine x_istore hC d_Law_law_912 (Nat.le_of_ble_eq_true rfl) (L1 := [some (.ref a), some (.ref b), some (.ref (b + 566)), some (.ref (b + 578)), some (.ref (b + 579)), some (.int (nI (3 * q))), some (.int (nI 0)), none, none, none]) rfl ?_
    refine x_aload_n hC d_Law_law_914 rfl rfl ?_
    refine x_aload_n hC d_Law_law_915 rfl rfl ?_
    refine x_iload hC d_Law_law_916 rfl ?_
    refine x_iconst hC d_Law_law_918 (v := nI 1) (by decide) ?_
    refine x_iadd hC d_Law_law_919 (v := (nI (3 * q + 1))) (x_addN (by omega)) ?_
    refine x_sld hC hX ha (j := 3 * q + 1) ⟨rfl, by omega, by omega⟩ d_Law_law_920 ?_
    refine x_i2c hC d_Law_law_921 (v := nI (chN (xs (3 * q + 1)))) (chN_I _) ?_
    obtain ⟨fsD, hDo⟩ := xMD_at hD
    refine x_callV hC kv_Law_207 (c_MessageCoderModel_codeLength (hD := hD) (hI := hI) (hcb := chN_lt _)) hDo rfl rfl (Nat.le_of_ble_eq_true rfl) rfl rfl rfl (Nat.le_of_ble_eq_true rfl) ⟨by omega, by omega⟩ d_Law_law_922 (fun r9 Fm z9 hp9 => ?_)
    obtain ⟨rfl, h9c, j0, hag9⟩ := hp9
    rw [h9c]
    clear h9c z9
    have hM : xMC Fm (cm) (b) (M) := xMC_fr hM (fun a9 q1 q2 => hag9 a9 (by omega))
    have hD : xMD Fm (((b + 566))) ((if 97 ≤ (chN (xs (3 * q + 1))) ∧ (chN (xs (3 * q + 1))) < 105 then 0 else 1)) (M) := j0
    have ho : Fm (b + 578) = some (.inr (2, 1, fun b9 => .long ((vp_updL g 0 (((nI (hLen M.1.1 ((chN (xs (3 * q + 1))) - 97)))).toInt64)) b9))) := (hag9 _ (by omega)).trans ho
    have hod : Fm (b + 579) = some (.inr (3, 1, fun b9 => .double (gd b9))) := (hag9 _ (by omega)).trans hod
    clear j0 hag9
    have hT : ((if 97 ≤ (chN (xs (3 * q + 1))) ∧ (chN (xs (3 * q + 1))) < 105 then 0 else 1)) = 0 := if_pos p_0
    rw [hT] at hD
    refine x_top (v := (nI (hLen M.1.1 ((chN (xs (3 * q + 1))) - 97)))) (congrArg nI (if_pos p_0)) ?_
    refine x_istore hC d_Law_law_925 (Nat.le_of_ble_eq_true rfl) (L1 := [some (.ref a), some (.ref b), some (.ref (b + 566)), some (.ref (b + 578)), some (.ref (b + 579)), some (.int (nI (3 * q))), some (.int (nI 0)), some (.int (nI (hLen M.1.1 ((chN (xs (3 * q + 1))) - 97)))), none, none]) rfl ?_
    refine x_aload_n hC d_Law_law_927 rfl rfl ?_
    obtain ⟨fsD, hDo⟩ := xMD_at hD
    refine x_callV hC kv_Law_163 (c_thrownD hD) hDo rfl rfl (Nat.le_of_ble_eq_true rfl) rfl rfl rfl (Nat.le_of_ble_eq_true rfl) ⟨by omega, by omega⟩ d_Law_law_928 (fun r9 F9 z9 hp9 => ?_)
    obtain ⟨rfl, h9b, h9c⟩ := hp9
    rw [h9b, h9c]
    clear h9b h9c F9 z9
    refine x_iload hC d_Law_law_931 rfl ?_
    refine x_icmpN_eq hC d_Law_law_933 (tgt := 938) (by decide) (by omega) (by omega) (fun c_933 => ?_) (fun c_933 => ?_)
    · skip
      refine x_iload hC d_Law_law_938 rfl ?_
      refine x_ifN_ne hC d_Law_law_940 (tgt := 955) (by decide) (by omega) (fun c_940 => ?_) (fun c_940 => ?_)
      · skip
        exact absurd c_940 (by omega)
      · skip
        refine x_aload_n hC d_Law_law_943 rfl rfl ?_
        refine x_iconst hC d_Law_law_944 (v := nI 0) (by decide) ?_
        refine x_lald hC ho (j := 0) ⟨rfl, by decide, by decide⟩ (x := ((nI (hLen M.1.1 ((chN (xs (3 * q + 1))) - 97)))).toInt64) rfl d_Law_law_945 ?_
        refine x_iload hC d_Law_law_946 rfl ?_
        refine x_i2l hC d_Law_law_948 rfl ?_
        refine x_lcmp hC d_Law_law_949 ?_
        refine x_top (v := nI 0) (lg_self _) ?_
        refine x_ifN_eq hC d_Law_law_950 (tgt := 955) (by decide) (by omega) (fun c_950 => ?_) (fun c_950 => ?_)
        · skip
          refine x_goto hC d_Law_law_955 (tgt := 2933) (by decide) ?_
          refine x_forget (L1 := [some (.ref a), some (.ref b), some (.ref (b + 566)), some (.ref (b + 578)), some (.ref (b + 579)), some (.int (nI (3 * q))), none, none, none, none]) ⟨Or.inr rfl, ⟨Or.inr rfl, ⟨Or.inr rfl, ⟨Or.inr rfl, ⟨Or.inr rfl, ⟨Or.inr rfl, ⟨Or.inl rfl, ⟨Or.inl rfl, ⟨Or.inl rfl, ⟨Or.inl rfl, trivial⟩⟩⟩⟩⟩⟩⟩⟩⟩⟩ ?_
          exact kk _ _ _ _ _ _ _ _ hM hD ho hod (lwJ_s hJ) (by omega) (by omega)
        · skip
          exact absurd c_950 (by omega)
    · skip
      exact absurd c_933 (by omega)
  · skip
    have hM : xMC Fw (cm) (b) (M) := hM9
    have hD : xMD Fw (b + 566) (th) (M) := xMD_fr hD (fun a9 q1 q2 => hag9 a9 (by omega) (by omega))
    have ho : Fw (b + 578) = some (.inr (2, 1, fun b9 => .long (g b9))) := ho9
    have hod : Fw (b + 579) = some (.inr (3, 1, fun b9 => .double (gd b9))) := (hag9 _ (by omega) (by omega)).trans hod
    clear hM9 ho9 hag9
    refine x_istore hC d_Law_law_912 (Nat.le_of_ble_eq_true rfl) (L1 := [some (.ref a), some (.ref b), some (.ref (b + 566)), some (.ref (b + 578)), some (.ref (b + 579)), some (.int (nI (3 * q))), some (.int (nI 1)), none, none, none]) rfl ?_
    refine x_aload_n hC d_Law_law_914 rfl rfl ?_
    refine x_aload_n hC d_Law_law_915 rfl rfl ?_
    refine x_iload hC d_Law_law_916 rfl ?_
    refine x_iconst hC d_Law_law_918 (v := nI 1) (by decide) ?_
    refine x_iadd hC d_Law_law_919 (v := (nI (3 * q + 1))) (x_addN (by omega)) ?_
    refine x_sld hC hX ha (j := 3 * q + 1) ⟨rfl, by omega, by omega⟩ d_Law_law_920 ?_
    refine x_i2c hC d_Law_law_921 (v := nI (chN (xs (3 * q + 1)))) (chN_I _) ?_
    obtain ⟨fsD, hDo⟩ := xMD_at hD
    refine x_callV hC kv_Law_207 (c_MessageCoderModel_codeLength (hD := hD) (hI := hI) (hcb := chN_lt _)) hDo rfl rfl (Nat.le_of_ble_eq_true rfl) rfl rfl rfl (Nat.le_of_ble_eq_true rfl) ⟨by omega, by omega⟩ d_Law_law_922 (fun r9 Fm z9 hp9 => ?_)
    obtain ⟨rfl, h9c, j0, hag9⟩ := hp9
    rw [h9c]
    clear h9c z9
    have hM : xMC Fm (cm) (b) (M) := xMC_fr hM (fun a9 q1 q2 => hag9 a9 (by omega))
    have hD : xMD Fm (((b + 566))) ((if 97 ≤ (chN (xs (3 * q + 1))) ∧ (chN (xs (3 * q + 1))) < 105 then 0 else 1)) (M) := j0
    have ho : Fm (b + 578) = some (.inr (2, 1, fun b9 => .long (g b9))) := (hag9 _ (by omega)).trans ho
    have hod : Fm (b + 579) = some (.inr (3, 1, fun b9 => .double (gd b9))) := (hag9 _ (by omega)).trans hod
    clear j0 hag9
    have hT : ((if 97 ≤ (chN (xs (3 * q + 1))) ∧ (chN (xs (3 * q + 1))) < 105 then 0 else 1)) = 1 := if_neg hcond
    rw [hT] at hD
    refine x_istore hC d_Law_law_925 (Nat.le_of_ble_eq_true rfl) (L1 := [some (.ref a), some (.ref b), some (.ref (b + 566)), some (.ref (b + 578)), some (.ref (b + 579)), some (.int (nI (3 * q))), some (.int (nI 1)), some (.int (nI (if 97 ≤ (chN (xs (3 * q + 1))) ∧ (chN (xs (3 * q + 1))) < 105 then hLen M.1.1 ((chN (xs (3 * q + 1))) - 97) else 0))), none, none]) rfl ?_
    refine x_aload_n hC d_Law_law_927 rfl rfl ?_
    obtain ⟨fsD, hDo⟩ := xMD_at hD
    refine x_callV hC kv_Law_163 (c_thrownD hD) hDo rfl rfl (Nat.le_of_ble_eq_true rfl) rfl rfl rfl (Nat.le_of_ble_eq_true rfl) ⟨by omega, by omega⟩ d_Law_law_928 (fun r9 F9 z9 hp9 => ?_)
    obtain ⟨rfl, h9b, h9c⟩ := hp9
    rw [h9b, h9c]
    clear h9b h9c F9 z9
    refine x_iload hC d_Law_law_931 rfl ?_
    refine x_icmpN_eq hC d_Law_law_933 (tgt := 938) (by decide) (by omega) (by omega) (fun c_933 => ?_) (fun c_933 => ?_)
    · skip
      refine x_iload hC d_Law_law_938 rfl ?_
      refine x_ifN_ne hC d_Law_law_940 (tgt := 955) (by decide) (by omega) (fun c_940 => ?_) (fun c_940 => ?_)
      · skip
        refine x_goto hC d_Law_law_955 (tgt := 2933) (by decide) ?_
        refine x_forget (L1 := [some (.ref a), some (.ref b), some (.ref (b + 566)), some (.ref (b + 578)), some (.ref (b + 579)), some (.int (nI (3 * q))), none, none, none, none]) ⟨Or.inr rfl, ⟨Or.inr rfl, ⟨Or.inr rfl, ⟨Or.inr rfl, ⟨Or.inr rfl, ⟨Or.inr rfl, ⟨Or.inl rfl, ⟨Or.inl rfl, ⟨Or.inl rfl, ⟨Or.inl rfl, trivial⟩⟩⟩⟩⟩⟩⟩⟩⟩⟩ ?_
        exact kk _ _ _ _ _ _ _ _ hM hD ho hod (lwJ_s hJ) (by omega) (by omega)
      · skip
        exact absurd c_940 (by omega)
    · skip
      exact absurd c_933 (by omega)

set_option maxHeartbeats 4000000 in
set_option maxRecDepth 20000 in
theorem lc_13 {P : xP} {Θ : xT} {cm : cmT} {a N b sm rt q : Nat} {xs : Nat → Int32} (E : lwE P Θ cm a N b sm rt xs) {F : xF} {z k n th : Nat} {M : mcS} {g : Nat → Int64} {gd : Nat → UInt64} (hM : xMC F (cm) (b) (M)) (hD : xMD F (b + 566) (th) (M)) (ho : F (b + 578) = some (.inr (2, 1, fun b9 => .long (g b9)))) (hod : F (b + 579) = some (.inr (3, 1, fun b9 => .double (gd b9)))) (hJ : lwJ q M) (hq : 3 * q + 3 ≤ N) (hkn : k + 2 ≤ 603072 ∧ n + 12 ≤ 7207018) (kk : lwK P Θ cm a b q k n) : xX P Θ 958 [some (.ref (a)), some (.ref (b)), some (.ref (b + 566)), some (.ref (b + 578)), some (.ref (b + 579)), some (.int (nI (3 * q))), none, none, none, none] [] F z k n := by
  obtain ⟨hC, hX, ha, hN, hCM, hSM, hSR, hZx, hNx⟩ := E
  obtain ⟨hI, hS, hpp⟩ := id hJ
  obtain ⟨hk9, hn9⟩ := hkn
  have hu8 : M.2.2.2.2.2.2.2.1 ≤ 8 := hI.2.2.2.1
  have hup0 : M.2.2.2.2.2.2.2.1 ≤ M.2.2.2.2.2.2.1 := hI.2.2.2.2.1
  have hsv0 : M.2.2.2.2.2.1 ≤ 1 := hI.2.2.2.2.2.1
  have hpp0 : M.2.2.2.2.2.2.1 < 100000 := by omega
  have hun0 : M.2.2.2.2.2.2.2.1 < 100000 := by omega
  obtain ⟨hb1, hb2, hb3⟩ := hS.1
  have hnx : M.1.2.2.1.2.1 < 999 := by omega
  have hn0 : M.1.2.2.1.2.1 + 1 < 1000 := by omega
  have hg0 : M.1.2.2.2.2.2.2.1 < 1000 := by omega
  have hf0 : M.1.2.2.2.2.2.2.2.2 < 1000 := by omega
  refine x_aload_n hC d_Law_law_958 rfl rfl ?_
  refine x_aload_n hC d_Law_law_959 rfl rfl ?_
  refine x_iload hC d_Law_law_960 rfl ?_
  refine x_iconst hC d_Law_law_962 (v := nI 1) (by decide) ?_
  refine x_iadd hC d_Law_law_963 (v := (nI (3 * q + 1))) (x_addN (by omega)) ?_
  refine x_sld hC hX ha (j := 3 * q + 1) ⟨rfl, by omega, by omega⟩ d_Law_law_964 ?_
  refine x_i2c hC d_Law_law_965 (v := nI (chN (xs (3 * q + 1)))) (chN_I _) ?_
  refine x_aload_n hC d_Law_law_966 rfl rfl ?_
  refine x_callW hC kw_Law_208 (c_Law_codeValue (hM := hM) (ho := ho) (hZx := hZx) (hcb := chN_lt _) (hNx := hNx) (hbo := Or.inr (by omega))) (Nat.le_of_ble_eq_true rfl) rfl rfl rfl (Nat.le_of_ble_eq_true rfl) ⟨by omega, by omega⟩ d_Law_law_967 (fun r9 Fw zw hp9 => ?_)
  rcases hp9 with ⟨rfl, hM9, ho9, p_0, hag9⟩ | ⟨rfl, hM9, ho9, hcond, hag9⟩
  · skip
    have hM : xMC Fw (cm) (b) (M) := hM9
    have hD : xMD Fw (b + 566) (th) (M) := xMD_fr hD (fun a9 q1 q2 => hag9 a9 (by omega) (by omega))
    have ho : Fw (b + 578) = some (.inr (2, 1, fun b9 => .long ((vp_updL g 0 (((nI (hVal (hLen M.1.1) ((chN (xs (3 * q + 1))) - 97)))).toInt64)) b9))) := ho9
    have hod : Fw (b + 579) = some (.inr (3, 1, fun b9 => .double (gd b9))) := (hag9 _ (by omega) (by omega)).trans hod
    clear hM9 ho9 hag9
    refine x_istore hC d_Law_law_970 (Nat.le_of_ble_eq_true rfl) (L1 := [some (.ref a), some (.ref b), some (.ref (b + 566)), some (.ref (b + 578)), some (.ref (b + 579)), some (.int (nI (3 * q))), some (.int (nI 0)), none, none, none]) rfl ?_
    refine x_aload_n hC d_Law_law_972 rfl rfl ?_
    refine x_aload_n hC d_Law_law_973 rfl rfl ?_
    refine x_iload hC d_Law_law_974 rfl ?_
    refine x_iconst hC d_Law_law_976 (v := nI 1) (by decide) ?_
    refine x_iadd hC d_Law_law_977 (v := (nI (3 * q + 1))) (x_addN (by omega)) ?_
    refine x_sld hC hX ha (j := 3 * q + 1) ⟨rfl, by omega, by omega⟩ d_Law_law_978 ?_
    refine x_i2c hC d_Law_law_979 (v := nI (chN (xs (3 * q + 1)))) (chN_I _) ?_
    obtain ⟨fsD, hDo⟩ := xMD_at hD
    refine x_callV hC kv_Law_210 (c_MessageCoderModel_codeValue (hD := hD) (hI := hI) (hcb := chN_lt _)) hDo rfl rfl (Nat.le_of_ble_eq_true rfl) rfl rfl rfl (Nat.le_of_ble_eq_true rfl) ⟨by omega, by omega⟩ d_Law_law_980 (fun r9 Fm z9 hp9 => ?_)
    obtain ⟨rfl, h9c, j0, hag9⟩ := hp9
    rw [h9c]
    clear h9c z9
    have hM : xMC Fm (cm) (b) (M) := xMC_fr hM (fun a9 q1 q2 => hag9 a9 (by omega))
    have hD : xMD Fm (((b + 566))) ((if 97 ≤ (chN (xs (3 * q + 1))) ∧ (chN (xs (3 * q + 1))) < 105 then 0 else 1)) (M) := j0
    have ho : Fm (b + 578) = some (.inr (2, 1, fun b9 => .long ((vp_updL g 0 (((nI (hVal (hLen M.1.1) ((chN (xs (3 * q + 1))) - 97)))).toInt64)) b9))) := (hag9 _ (by omega)).trans ho
    have hod : Fm (b + 579) = some (.inr (3, 1, fun b9 => .double (gd b9))) := (hag9 _ (by omega)).trans hod
    clear j0 hag9
    have hT : ((if 97 ≤ (chN (xs (3 * q + 1))) ∧ (chN (xs (3 * q + 1))) < 105 then 0 else 1)) = 0 := if_pos p_0
    rw [hT] at hD
    refine x_top (v := (nI (hVal (hLen M.1.1) ((chN (xs (3 * q + 1))) - 97)))) (congrArg nI (if_pos p_0)) ?_
    refine x_istore hC d_Law_law_983 (Nat.le_of_ble_eq_true rfl) (L1 := [some (.ref a), some (.ref b), some (.ref (b + 566)), some (.ref (b + 578)), some (.ref (b + 579)), some (.int (nI (3 * q))), some (.int (nI 0)), some (.int (nI (hVal (hLen M.1.1) ((chN (xs (3 * q + 1))) - 97)))), none, none]) rfl ?_
    refine x_aload_n hC d_Law_law_985 rfl rfl ?_
    obtain ⟨fsD, hDo⟩ := xMD_at hD
    refine x_callV hC kv_Law_163 (c_thrownD hD) hDo rfl rfl (Nat.le_of_ble_eq_true rfl) rfl rfl rfl (Nat.le_of_ble_eq_true rfl) ⟨by omega, by omega⟩ d_Law_law_986 (fun r9 F9 z9 hp9 => ?_)
    obtain ⟨rfl, h9b, h9c⟩ := hp9
    rw [h9b, h9c]
    clear h9b h9c F9 z9
    refine x_iload hC d_Law_law_989 rfl ?_
    refine x_icmpN_eq hC d_Law_law_991 (tgt := 996) (by decide) (by omega) (by omega) (fun c_991 => ?_) (fun c_991 => ?_)
    · skip
      refine x_iload hC d_Law_law_996 rfl ?_
      refine x_ifN_ne hC d_Law_law_998 (tgt := 1013) (by decide) (by omega) (fun c_998 => ?_) (fun c_998 => ?_)
      · skip
        exact absurd c_998 (by omega)
      · skip
        refine x_aload_n hC d_Law_law_1001 rfl rfl ?_
        refine x_iconst hC d_Law_law_1002 (v := nI 0) (by decide) ?_
        refine x_lald hC ho (j := 0) ⟨rfl, by decide, by decide⟩ (x := ((nI (hVal (hLen M.1.1) ((chN (xs (3 * q + 1))) - 97)))).toInt64) rfl d_Law_law_1003 ?_
        refine x_iload hC d_Law_law_1004 rfl ?_
        refine x_i2l hC d_Law_law_1006 rfl ?_
        refine x_lcmp hC d_Law_law_1007 ?_
        refine x_top (v := nI 0) (lg_self _) ?_
        refine x_ifN_eq hC d_Law_law_1008 (tgt := 1013) (by decide) (by omega) (fun c_1008 => ?_) (fun c_1008 => ?_)
        · skip
          refine x_goto hC d_Law_law_1013 (tgt := 2933) (by decide) ?_
          refine x_forget (L1 := [some (.ref a), some (.ref b), some (.ref (b + 566)), some (.ref (b + 578)), some (.ref (b + 579)), some (.int (nI (3 * q))), none, none, none, none]) ⟨Or.inr rfl, ⟨Or.inr rfl, ⟨Or.inr rfl, ⟨Or.inr rfl, ⟨Or.inr rfl, ⟨Or.inr rfl, ⟨Or.inl rfl, ⟨Or.inl rfl, ⟨Or.inl rfl, ⟨Or.inl rfl, trivial⟩⟩⟩⟩⟩⟩⟩⟩⟩⟩ ?_
          exact kk _ _ _ _ _ _ _ _ hM hD ho hod (lwJ_s hJ) (by omega) (by omega)
        · skip
          exact absurd c_1008 (by omega)
    · skip
      exact absurd c_991 (by omega)
  · skip
    have hM : xMC Fw (cm) (b) (M) := hM9
    have hD : xMD Fw (b + 566) (th) (M) := xMD_fr hD (fun a9 q1 q2 => hag9 a9 (by omega) (by omega))
    have ho : Fw (b + 578) = some (.inr (2, 1, fun b9 => .long (g b9))) := ho9
    have hod : Fw (b + 579) = some (.inr (3, 1, fun b9 => .double (gd b9))) := (hag9 _ (by omega) (by omega)).trans hod
    clear hM9 ho9 hag9
    refine x_istore hC d_Law_law_970 (Nat.le_of_ble_eq_true rfl) (L1 := [some (.ref a), some (.ref b), some (.ref (b + 566)), some (.ref (b + 578)), some (.ref (b + 579)), some (.int (nI (3 * q))), some (.int (nI 1)), none, none, none]) rfl ?_
    refine x_aload_n hC d_Law_law_972 rfl rfl ?_
    refine x_aload_n hC d_Law_law_973 rfl rfl ?_
    refine x_iload hC d_Law_law_974 rfl ?_
    refine x_iconst hC d_Law_law_976 (v := nI 1) (by decide) ?_
    refine x_iadd hC d_Law_law_977 (v := (nI (3 * q + 1))) (x_addN (by omega)) ?_
    refine x_sld hC hX ha (j := 3 * q + 1) ⟨rfl, by omega, by omega⟩ d_Law_law_978 ?_
    refine x_i2c hC d_Law_law_979 (v := nI (chN (xs (3 * q + 1)))) (chN_I _) ?_
    obtain ⟨fsD, hDo⟩ := xMD_at hD
    refine x_callV hC kv_Law_210 (c_MessageCoderModel_codeValue (hD := hD) (hI := hI) (hcb := chN_lt _)) hDo rfl rfl (Nat.le_of_ble_eq_true rfl) rfl rfl rfl (Nat.le_of_ble_eq_true rfl) ⟨by omega, by omega⟩ d_Law_law_980 (fun r9 Fm z9 hp9 => ?_)
    obtain ⟨rfl, h9c, j0, hag9⟩ := hp9
    rw [h9c]
    clear h9c z9
    have hM : xMC Fm (cm) (b) (M) := xMC_fr hM (fun a9 q1 q2 => hag9 a9 (by omega))
    have hD : xMD Fm (((b + 566))) ((if 97 ≤ (chN (xs (3 * q + 1))) ∧ (chN (xs (3 * q + 1))) < 105 then 0 else 1)) (M) := j0
    have ho : Fm (b + 578) = some (.inr (2, 1, fun b9 => .long (g b9))) := (hag9 _ (by omega)).trans ho
    have hod : Fm (b + 579) = some (.inr (3, 1, fun b9 => .double (gd b9))) := (hag9 _ (by omega)).trans hod
    clear j0 hag9
    have hT : ((if 97 ≤ (chN (xs (3 * q + 1))) ∧ (chN (xs (3 * q + 1))) < 105 then 0 else 1)) = 1 := if_neg hcond
    rw [hT] at hD
    refine x_istore hC d_Law_law_983 (Nat.le_of_ble_eq_true rfl) (L1 := [some (.ref a), some (.ref b), some (.ref (b + 566)), some (.ref (b + 578)), some (.ref (b + 579)), some (.int (nI (3 * q))), some (.int (nI 1)), some (.int (nI (if 97 ≤ (chN (xs (3 * q + 1))) ∧ (chN (xs (3 * q + 1))) < 105 then hVal (hLen M.1.1) ((chN (xs (3 * q + 1))) - 97) else 0))), none, none]) rfl ?_
    refine x_aload_n hC d_Law_law_985 rfl rfl ?_
    obtain ⟨fsD, hDo⟩ := xMD_at hD
    refine x_callV hC kv_Law_163 (c_thrownD hD) hDo rfl rfl (Nat.le_of_ble_eq_true rfl) rfl rfl rfl (Nat.le_of_ble_eq_true rfl) ⟨by omega, by omega⟩ d_Law_law_986 (fun r9 F9 z9 hp9 => ?_)
    obtain ⟨rfl, h9b, h9c⟩ := hp9
    rw [h9b, h9c]
    clear h9b h9c F9 z9
    refine x_iload hC d_Law_law_989 rfl ?_
    refine x_icmpN_eq hC d_Law_law_991 (tgt := 996) (by decide) (by omega) (by omega) (fun c_991 => ?_) (fun c_991 => ?_)
    · skip
      refine x_iload hC d_Law_law_996 rfl ?_
      refine x_ifN_ne hC d_Law_law_998 (tgt := 1013) (by decide) (by omega) (fun c_998 => ?_) (fun c_998 => ?_)
      · skip
        refine x_goto hC d_Law_law_1013 (tgt := 2933) (by decide) ?_
        refine x_forget (L1 := [some (.ref a), some (.ref b), some (.ref (b + 566)), some (.ref (b + 578)), some (.ref (b + 579)), some (.int (nI (3 * q))), none, none, none, none]) ⟨Or.inr rfl, ⟨Or.inr rfl, ⟨Or.inr rfl, ⟨Or.inr rfl, ⟨Or.inr rfl, ⟨Or.inr rfl, ⟨Or.inl rfl, ⟨Or.inl rfl, ⟨Or.inl rfl, ⟨Or.inl rfl, trivial⟩⟩⟩⟩⟩⟩⟩⟩⟩⟩ ?_
        exact kk _ _ _ _ _ _ _ _ hM hD ho hod (lwJ_s hJ) (by omega) (by omega)
      · skip
        exact absurd c_998 (by omega)
    · skip
      exact absurd c_991 (by omega)

set_option maxHeartbeats 4000000 in
set_option maxRecDepth 20000 in
theorem lc_14 {P : xP} {Θ : xT} {cm : cmT} {a N b sm rt q : Nat} {xs : Nat → Int32} (E : lwE P Θ cm a N b sm rt xs) {F : xF} {z k n th : Nat} {M : mcS} {g : Nat → Int64} {gd : Nat → UInt64} (hM : xMC F (cm) (b) (M)) (hD : xMD F (b + 566) (th) (M)) (ho : F (b + 578) = some (.inr (2, 1, fun b9 => .long (g b9)))) (hod : F (b + 579) = some (.inr (3, 1, fun b9 => .double (gd b9)))) (hJ : lwJ q M) (hq : 3 * q + 3 ≤ N) (hkn : k + 2 ≤ 603072 ∧ n + 12 ≤ 7207018) (kk : lwK P Θ cm a b q k n) : xX P Θ 1016 [some (.ref (a)), some (.ref (b)), some (.ref (b + 566)), some (.ref (b + 578)), some (.ref (b + 579)), some (.int (nI (3 * q))), none, none, none, none] [] F z k n := by
  obtain ⟨hC, hX, ha, hN, hCM, hSM, hSR, hZx, hNx⟩ := E
  obtain ⟨hI, hS, hpp⟩ := id hJ
  obtain ⟨hk9, hn9⟩ := hkn
  have hu8 : M.2.2.2.2.2.2.2.1 ≤ 8 := hI.2.2.2.1
  have hup0 : M.2.2.2.2.2.2.2.1 ≤ M.2.2.2.2.2.2.1 := hI.2.2.2.2.1
  have hsv0 : M.2.2.2.2.2.1 ≤ 1 := hI.2.2.2.2.2.1
  have hpp0 : M.2.2.2.2.2.2.1 < 100000 := by omega
  have hun0 : M.2.2.2.2.2.2.2.1 < 100000 := by omega
  obtain ⟨hb1, hb2, hb3⟩ := hS.1
  have hnx : M.1.2.2.1.2.1 < 999 := by omega
  have hn0 : M.1.2.2.1.2.1 + 1 < 1000 := by omega
  have hg0 : M.1.2.2.2.2.2.2.1 < 1000 := by omega
  have hf0 : M.1.2.2.2.2.2.2.2.2 < 1000 := by omega
  refine x_aload_n hC d_Law_law_1016 rfl rfl ?_
  refine x_aload_n hC d_Law_law_1017 rfl rfl ?_
  refine x_iload hC d_Law_law_1018 rfl ?_
  refine x_iconst hC d_Law_law_1020 (v := nI 1) (by decide) ?_
  refine x_iadd hC d_Law_law_1021 (v := (nI (3 * q + 1))) (x_addN (by omega)) ?_
  refine x_sld hC hX ha (j := 3 * q + 1) ⟨rfl, by omega, by omega⟩ d_Law_law_1022 ?_
  refine x_aload_n hC d_Law_law_1023 rfl rfl ?_
  refine x_callW hC kw_Law_211 (c_Law_symbolByCode (hM := hM) (ho := ho) (hZx := hZx) (hNx := hNx) (hbo := Or.inr (by omega))) (Nat.le_of_ble_eq_true rfl) rfl rfl rfl (Nat.le_of_ble_eq_true rfl) ⟨by omega, by omega⟩ d_Law_law_1024 (fun r9 Fw zw hp9 => ?_)
  rcases hp9 with ⟨rfl, hM9, ho9, p_0, hag9⟩ | ⟨rfl, hM9, ho9, hcond, hag9⟩
  · skip
    have hM : xMC Fw (cm) (b) (M) := hM9
    have hD : xMD Fw (b + 566) (th) (M) := xMD_fr hD (fun a9 q1 q2 => hag9 a9 (by omega) (by omega))
    have ho : Fw (b + 578) = some (.inr (2, 1, fun b9 => .long ((vp_updL g 0 (((nI (97 + hOrd (hLen M.1.1) (xs (3 * q + 1)).toNatClampNeg))).toInt64)) b9))) := ho9
    have hod : Fw (b + 579) = some (.inr (3, 1, fun b9 => .double (gd b9))) := (hag9 _ (by omega) (by omega)).trans hod
    clear hM9 ho9 hag9
    refine x_istore hC d_Law_law_1027 (Nat.le_of_ble_eq_true rfl) (L1 := [some (.ref a), some (.ref b), some (.ref (b + 566)), some (.ref (b + 578)), some (.ref (b + 579)), some (.int (nI (3 * q))), some (.int (nI 0)), none, none, none]) rfl ?_
    refine x_aload_n hC d_Law_law_1029 rfl rfl ?_
    refine x_aload_n hC d_Law_law_1030 rfl rfl ?_
    refine x_iload hC d_Law_law_1031 rfl ?_
    refine x_iconst hC d_Law_law_1033 (v := nI 1) (by decide) ?_
    refine x_iadd hC d_Law_law_1034 (v := (nI (3 * q + 1))) (x_addN (by omega)) ?_
    refine x_sld hC hX ha (j := 3 * q + 1) ⟨rfl, by omega, by omega⟩ d_Law_law_1035 ?_
    obtain ⟨fsD, hDo⟩ := xMD_at hD
    refine x_callV hC kv_Law_213 (c_MessageCoderModel_symbolByCode (hD := hD) (hI := hI)) hDo rfl rfl (Nat.le_of_ble_eq_true rfl) rfl rfl rfl (Nat.le_of_ble_eq_true rfl) ⟨by omega, by omega⟩ d_Law_law_1036 (fun r9 Fm z9 hp9 => ?_)
    obtain ⟨rfl, h9c, j0, hag9⟩ := hp9
    rw [h9c]
    clear h9c z9
    have hM : xMC Fm (cm) (b) (M) := xMC_fr hM (fun a9 q1 q2 => hag9 a9 (by omega))
    have hD : xMD Fm (((b + 566))) ((if 0 ≤ (xs (3 * q + 1)) ∧ (xs (3 * q + 1)) < nI 8 then 0 else 1)) (M) := j0
    have ho : Fm (b + 578) = some (.inr (2, 1, fun b9 => .long ((vp_updL g 0 (((nI (97 + hOrd (hLen M.1.1) (xs (3 * q + 1)).toNatClampNeg))).toInt64)) b9))) := (hag9 _ (by omega)).trans ho
    have hod : Fm (b + 579) = some (.inr (3, 1, fun b9 => .double (gd b9))) := (hag9 _ (by omega)).trans hod
    clear j0 hag9
    have hT : ((if 0 ≤ (xs (3 * q + 1)) ∧ (xs (3 * q + 1)) < nI 8 then 0 else 1)) = 0 := if_pos p_0
    rw [hT] at hD
    refine x_top (v := (nI (97 + hOrd (hLen M.1.1) (xs (3 * q + 1)).toNatClampNeg))) (congrArg nI (if_pos p_0)) ?_
    refine x_istore hC d_Law_law_1039 (Nat.le_of_ble_eq_true rfl) (L1 := [some (.ref a), some (.ref b), some (.ref (b + 566)), some (.ref (b + 578)), some (.ref (b + 579)), some (.int (nI (3 * q))), some (.int (nI 0)), some (.int (nI (97 + hOrd (hLen M.1.1) (xs (3 * q + 1)).toNatClampNeg))), none, none]) rfl ?_
    refine x_aload_n hC d_Law_law_1041 rfl rfl ?_
    obtain ⟨fsD, hDo⟩ := xMD_at hD
    refine x_callV hC kv_Law_163 (c_thrownD hD) hDo rfl rfl (Nat.le_of_ble_eq_true rfl) rfl rfl rfl (Nat.le_of_ble_eq_true rfl) ⟨by omega, by omega⟩ d_Law_law_1042 (fun r9 F9 z9 hp9 => ?_)
    obtain ⟨rfl, h9b, h9c⟩ := hp9
    rw [h9b, h9c]
    clear h9b h9c F9 z9
    refine x_iload hC d_Law_law_1045 rfl ?_
    refine x_icmpN_eq hC d_Law_law_1047 (tgt := 1052) (by decide) (by omega) (by omega) (fun c_1047 => ?_) (fun c_1047 => ?_)
    · skip
      refine x_iload hC d_Law_law_1052 rfl ?_
      refine x_ifN_ne hC d_Law_law_1054 (tgt := 1069) (by decide) (by omega) (fun c_1054 => ?_) (fun c_1054 => ?_)
      · skip
        exact absurd c_1054 (by omega)
      · skip
        refine x_aload_n hC d_Law_law_1057 rfl rfl ?_
        refine x_iconst hC d_Law_law_1058 (v := nI 0) (by decide) ?_
        refine x_lald hC ho (j := 0) ⟨rfl, by decide, by decide⟩ (x := ((nI (97 + hOrd (hLen M.1.1) (xs (3 * q + 1)).toNatClampNeg))).toInt64) rfl d_Law_law_1059 ?_
        refine x_iload hC d_Law_law_1060 rfl ?_
        refine x_i2l hC d_Law_law_1062 rfl ?_
        refine x_lcmp hC d_Law_law_1063 ?_
        refine x_top (v := nI 0) (lg_self _) ?_
        refine x_ifN_eq hC d_Law_law_1064 (tgt := 1069) (by decide) (by omega) (fun c_1064 => ?_) (fun c_1064 => ?_)
        · skip
          refine x_goto hC d_Law_law_1069 (tgt := 2933) (by decide) ?_
          refine x_forget (L1 := [some (.ref a), some (.ref b), some (.ref (b + 566)), some (.ref (b + 578)), some (.ref (b + 579)), some (.int (nI (3 * q))), none, none, none, none]) ⟨Or.inr rfl, ⟨Or.inr rfl, ⟨Or.inr rfl, ⟨Or.inr rfl, ⟨Or.inr rfl, ⟨Or.inr rfl, ⟨Or.inl rfl, ⟨Or.inl rfl, ⟨Or.inl rfl, ⟨Or.inl rfl, trivial⟩⟩⟩⟩⟩⟩⟩⟩⟩⟩ ?_
          exact kk _ _ _ _ _ _ _ _ hM hD ho hod (lwJ_s hJ) (by omega) (by omega)
        · skip
          exact absurd c_1064 (by omega)
    · skip
      exact absurd c_1047 (by omega)
  · skip
    have hM : xMC Fw (cm) (b) (M) := hM9
    have hD : xMD Fw (b + 566) (th) (M) := xMD_fr hD (fun a9 q1 q2 => hag9 a9 (by omega) (by omega))
    have ho : Fw (b + 578) = some (.inr (2, 1, fun b9 => .long (g b9))) := ho9
    have hod : Fw (b + 579) = some (.inr (3, 1, fun b9 => .double (gd b9))) := (hag9 _ (by omega) (by omega)).trans hod
    clear hM9 ho9 hag9
    refine x_istore hC d_Law_law_1027 (Nat.le_of_ble_eq_true rfl) (L1 := [some (.ref a), some (.ref b), some (.ref (b + 566)), some (.ref (b + 578)), some (.ref (b + 579)), some (.int (nI (3 * q))), some (.int (nI 1)), none, none, none]) rfl ?_
    refine x_aload_n hC d_Law_law_1029 rfl rfl ?_
    refine x_aload_n hC d_Law_law_1030 rfl rfl ?_
    refine x_iload hC d_Law_law_1031 rfl ?_
    refine x_iconst hC d_Law_law_1033 (v := nI 1) (by decide) ?_
    refine x_iadd hC d_Law_law_1034 (v := (nI (3 * q + 1))) (x_addN (by omega)) ?_
    refine x_sld hC hX ha (j := 3 * q + 1) ⟨rfl, by omega, by omega⟩ d_Law_law_1035 ?_
    obtain ⟨fsD, hDo⟩ := xMD_at hD
    refine x_callV hC kv_Law_213 (c_MessageCoderModel_symbolByCode (hD := hD) (hI := hI)) hDo rfl rfl (Nat.le_of_ble_eq_true rfl) rfl rfl rfl (Nat.le_of_ble_eq_true rfl) ⟨by omega, by omega⟩ d_Law_law_1036 (fun r9 Fm z9 hp9 => ?_)
    obtain ⟨rfl, h9c, j0, hag9⟩ := hp9
    rw [h9c]
    clear h9c z9
    have hM : xMC Fm (cm) (b) (M) := xMC_fr hM (fun a9 q1 q2 => hag9 a9 (by omega))
    have hD : xMD Fm (((b + 566))) ((if 0 ≤ (xs (3 * q + 1)) ∧ (xs (3 * q + 1)) < nI 8 then 0 else 1)) (M) := j0
    have ho : Fm (b + 578) = some (.inr (2, 1, fun b9 => .long (g b9))) := (hag9 _ (by omega)).trans ho
    have hod : Fm (b + 579) = some (.inr (3, 1, fun b9 => .double (gd b9))) := (hag9 _ (by omega)).trans hod
    clear j0 hag9
    have hT : ((if 0 ≤ (xs (3 * q + 1)) ∧ (xs (3 * q + 1)) < nI 8 then 0 else 1)) = 1 := if_neg hcond
    rw [hT] at hD
    refine x_istore hC d_Law_law_1039 (Nat.le_of_ble_eq_true rfl) (L1 := [some (.ref a), some (.ref b), some (.ref (b + 566)), some (.ref (b + 578)), some (.ref (b + 579)), some (.int (nI (3 * q))), some (.int (nI 1)), some (.int (nI (if 0 ≤ (xs (3 * q + 1)) ∧ (xs (3 * q + 1)) < nI 8 then 97 + hOrd (hLen M.1.1) (xs (3 * q + 1)).toNatClampNeg else 0))), none, none]) rfl ?_
    refine x_aload_n hC d_Law_law_1041 rfl rfl ?_
    obtain ⟨fsD, hDo⟩ := xMD_at hD
    refine x_callV hC kv_Law_163 (c_thrownD hD) hDo rfl rfl (Nat.le_of_ble_eq_true rfl) rfl rfl rfl (Nat.le_of_ble_eq_true rfl) ⟨by omega, by omega⟩ d_Law_law_1042 (fun r9 F9 z9 hp9 => ?_)
    obtain ⟨rfl, h9b, h9c⟩ := hp9
    rw [h9b, h9c]
    clear h9b h9c F9 z9
    refine x_iload hC d_Law_law_1045 rfl ?_
    refine x_icmpN_eq hC d_Law_law_1047 (tgt := 1052) (by decide) (by omega) (by omega) (fun c_1047 => ?_) (fun c_1047 => ?_)
    · skip
      refine x_iload hC d_Law_law_1052 rfl ?_
      refine x_ifN_ne hC d_Law_law_1054 (tgt := 1069) (by decide) (by omega) (fun c_1054 => ?_) (fun c_1054 => ?_)
      · skip
        refine x_goto hC d_Law_law_1069 (tgt := 2933) (by decide) ?_
        refine x_forget (L1 := [some (.ref a), some (.ref b), some (.ref (b + 566)), some (.ref (b + 578)), some (.ref (b + 579)), some (.int (nI (3 * q))), none, none, none, none]) ⟨Or.inr rfl, ⟨Or.inr rfl, ⟨Or.inr rfl, ⟨Or.inr rfl, ⟨Or.inr rfl, ⟨Or.inr rfl, ⟨Or.inl rfl, ⟨Or.inl rfl, ⟨Or.inl rfl, ⟨Or.inl rfl, trivial⟩⟩⟩⟩⟩⟩⟩⟩⟩⟩ ?_
        exact kk _ _ _ _ _ _ _ _ hM hD ho hod (lwJ_s hJ) (by omega) (by omega)
      · skip
        exact absurd c_1054 (by omega)
    · skip
      exact absurd c_1047 (by omega)

set_option maxHeartbeats 4000000 in
set_option maxRecDepth 20000 in
theorem lc_15 {P : xP} {Θ : xT} {cm : cmT} {a N b sm rt q : Nat} {xs : Nat → Int32} (E : lwE P Θ cm a N b sm rt xs) {F : xF} {z k n th : Nat} {M : mcS} {g : Nat → Int64} {gd : Nat → UInt64} (hM : xMC F (cm) (b) (M)) (hD : xMD F (b + 566) (th) (M)) (ho : F (b + 578) = some (.inr (2, 1, fun b9 => .long (g b9)))) (hod : F (b + 579) = some (.inr (3, 1, fun b9 => .double (gd b9)))) (hJ : lwJ q M) (hq : 3 * q + 3 ≤ N) (hkn : k + 2 ≤ 603072 ∧ n + 12 ≤ 7207018) (kk : lwK P Θ cm a b q k n) : xX P Θ 1072 [some (.ref (a)), some (.ref (b)), some (.ref (b + 566)), some (.ref (b + 578)), some (.ref (b + 579)), some (.int (nI (3 * q))), none, none, none, none] [] F z k n := by
  obtain ⟨hC, hX, ha, hN, hCM, hSM, hSR, hZx, hNx⟩ := E
  obtain ⟨hI, hS, hpp⟩ := id hJ
  obtain ⟨hk9, hn9⟩ := hkn
  have hu8 : M.2.2.2.2.2.2.2.1 ≤ 8 := hI.2.2.2.1
  have hup0 : M.2.2.2.2.2.2.2.1 ≤ M.2.2.2.2.2.2.1 := hI.2.2.2.2.1
  have hsv0 : M.2.2.2.2.2.1 ≤ 1 := hI.2.2.2.2.2.1
  have hpp0 : M.2.2.2.2.2.2.1 < 100000 := by omega
  have hun0 : M.2.2.2.2.2.2.2.1 < 100000 := by omega
  obtain ⟨hb1, hb2, hb3⟩ := hS.1
  have hnx : M.1.2.2.1.2.1 < 999 := by omega
  have hn0 : M.1.2.2.1.2.1 + 1 < 1000 := by omega
  have hg0 : M.1.2.2.2.2.2.2.1 < 1000 := by omega
  have hf0 : M.1.2.2.2.2.2.2.2.2 < 1000 := by omega
  refine x_aload_n hC d_Law_law_1072 rfl rfl ?_
  obtain ⟨hMo, -⟩ := id hM
  refine x_callV hC kv_Law_214 (c_MessageCoder_longestCode (hM := hM) ) hMo rfl rfl (Nat.le_of_ble_eq_true rfl) rfl rfl rfl (Nat.le_of_ble_eq_true rfl) ⟨by omega, by omega⟩ d_Law_law_1073 (fun r9 Fc z9 hp9 => ?_)
  obtain ⟨rfl, h9b, h9c⟩ := hp9
  rw [h9b, h9c]
  clear h9b h9c Fc z9
  refine x_aload_n hC d_Law_law_1076 rfl rfl ?_
  obtain ⟨fsD, hDo⟩ := xMD_at hD
  refine x_callV hC kv_Law_217 (c_MessageCoderModel_longestCode (hD := hD) (hI := hI)) hDo rfl rfl (Nat.le_of_ble_eq_true rfl) rfl rfl rfl (Nat.le_of_ble_eq_true rfl) ⟨by omega, by omega⟩ d_Law_law_1077 (fun r9 Fm z9 hp9 => ?_)
  obtain ⟨rfl, h9c, j0, hag9⟩ := hp9
  rw [h9c]
  clear h9c z9
  have hM : xMC Fm (cm) (b) (M) := xMC_fr hM (fun a9 q1 q2 => hag9 a9 (by omega))
  have hD : xMD Fm (((b + 566))) (0) (M) := j0
  have ho : Fm (b + 578) = some (.inr (2, 1, fun b9 => .long (g b9))) := (hag9 _ (by omega)).trans ho
  have hod : Fm (b + 579) = some (.inr (3, 1, fun b9 => .double (gd b9))) := (hag9 _ (by omega)).trans hod
  clear j0 hag9
  refine x_icmp_eq hC d_Law_law_1080 (tgt := 2933) (by decide) (fun c_1080 => ?_) (fun c_1080 => ?_)
  · skip
    exact kk _ _ _ _ _ _ _ _ hM hD ho hod (lwJ_s hJ) (by omega) (by omega)
  · exact absurd rfl c_1080

