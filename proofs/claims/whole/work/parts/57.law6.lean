set_option maxHeartbeats 4000000 in
set_option maxRecDepth 20000 in
theorem lc_48 {P : xP} {Θ : xT} {cm : cmT} {a N b sm rt q : Nat} {xs : Nat → Int32} (E : lwE P Θ cm a N b sm rt xs) {F : xF} {z k n th : Nat} {M : mcS} {g : Nat → Int64} {gd : Nat → UInt64} (hM : xMC F (cm) (b) (M)) (hD : xMD F (b + 566) (th) (M)) (ho : F (b + 578) = some (.inr (2, 1, fun b9 => .long (g b9)))) (hod : F (b + 579) = some (.inr (3, 1, fun b9 => .double (gd b9)))) (hJ : lwJ q M) (hq : 3 * q + 3 ≤ N) (hkn : k + 2 ≤ 603072 ∧ n + 12 ≤ 7207018) (kk : lwK P Θ cm a b q k n) : xX P Θ 2367 [some (.ref (a)), some (.ref (b)), some (.ref (b + 566)), some (.ref (b + 578)), some (.ref (b + 579)), some (.int (nI (3 * q))), none, none, none, none] [] F z k n := by
  obtain ⟨hC, hX, ha, hN, hCM, hSM, hSR, hZx, hNx⟩ := E
  obtain ⟨hI, hS, hpp⟩ := id hJ
  obtain ⟨hk9, hn9⟩ := hkn
  have hu8 : M.2.2.2.2.2.2.2.1 ≤ 8 := hI.2.2.2.1
  have hup0 : M.2.2.2.2.2.2.2.1 ≤ M.2.2.2.2.2.2.1 := hI.2.2.2.2.1
  have hsv0 : M.2.2.2.2.2.1 ≤ 1 := hI.2.2.2.2.2.1
  have hpp0 : M.2.2.2.2.2.2.1 < 100000 := by omega
  have hun0 : M.2.2.2.2.2.2.2.1 < 100000 := by omega
  obtain ⟨hb1, hb2, hb3⟩ := hS.1
  have hnx : M.1.2.2.1.2.1 < 999 := by omega
  have hn0 : M.1.2.2.1.2.1 + 1 < 1000 := by omega
  have hg0 : M.1.2.2.2.2.2.2.1 < 1000 := by omega
  have hf0 : M.1.2.2.2.2.2.2.2.2 < 1000 := by omega
  refine x_aload_n hC d_Law_law_2367 rfl rfl ?_
  obtain ⟨hMo, -⟩ := id hM
  refine x_callV hC kv_Law_330 (c_MessageCoder_failedTotal (hM := hM) ) hMo rfl rfl (Nat.le_of_ble_eq_true rfl) rfl rfl rfl (Nat.le_of_ble_eq_true rfl) ⟨by omega, by omega⟩ d_Law_law_2368 (fun r9 Fc z9 hp9 => ?_)
  obtain ⟨rfl, h9b, h9c⟩ := hp9
  rw [h9b, h9c]
  clear h9b h9c Fc z9
  refine x_aload_n hC d_Law_law_2371 rfl rfl ?_
  obtain ⟨fsD, hDo⟩ := xMD_at hD
  refine x_callV hC kv_Law_333 (c_MessageCoderModel_failedTotal (hD := hD) (hI := hI)) hDo rfl rfl (Nat.le_of_ble_eq_true rfl) rfl rfl rfl (Nat.le_of_ble_eq_true rfl) ⟨by omega, by omega⟩ d_Law_law_2372 (fun r9 Fm z9 hp9 => ?_)
  obtain ⟨rfl, h9c, j0, hag9⟩ := hp9
  rw [h9c]
  clear h9c z9
  have hM : xMC Fm (cm) (b) (M) := xMC_fr hM (fun a9 q1 q2 => hag9 a9 (by omega))
  have hD : xMD Fm (((b + 566))) (0) (M) := j0
  have ho : Fm (b + 578) = some (.inr (2, 1, fun b9 => .long (g b9))) := (hag9 _ (by omega)).trans ho
  have hod : Fm (b + 579) = some (.inr (3, 1, fun b9 => .double (gd b9))) := (hag9 _ (by omega)).trans hod
  clear j0 hag9
  refine x_icmp_eq hC d_Law_law_2375 (tgt := 2933) (by decide) (fun c_2375 => ?_) (fun c_2375 => ?_)
  · skip
    exact kk _ _ _ _ _ _ _ _ hM hD ho hod (lwJ_s hJ) (by omega) (by omega)
  · exact absurd rfl c_2375

set_option maxHeartbeats 4000000 in
set_option maxRecDepth 20000 in
theorem lc_49 {P : xP} {Θ : xT} {cm : cmT} {a N b sm rt q : Nat} {xs : Nat → Int32} (E : lwE P Θ cm a N b sm rt xs) {F : xF} {z k n th : Nat} {M : mcS} {g : Nat → Int64} {gd : Nat → UInt64} (hM : xMC F (cm) (b) (M)) (hD : xMD F (b + 566) (th) (M)) (ho : F (b + 578) = some (.inr (2, 1, fun b9 => .long (g b9)))) (hod : F (b + 579) = some (.inr (3, 1, fun b9 => .double (gd b9)))) (hJ : lwJ q M) (hq : 3 * q + 3 ≤ N) (hkn : k + 2 ≤ 603072 ∧ n + 12 ≤ 7207018) (kk : lwK P Θ cm a b q k n) : xX P Θ 2380 [some (.ref (a)), some (.ref (b)), some (.ref (b + 566)), some (.ref (b + 578)), some (.ref (b + 579)), some (.int (nI (3 * q))), none, none, none, none] [] F z k n := by
  obtain ⟨hC, hX, ha, hN, hCM, hSM, hSR, hZx, hNx⟩ := E
  obtain ⟨hI, hS, hpp⟩ := id hJ
  obtain ⟨hk9, hn9⟩ := hkn
  have hu8 : M.2.2.2.2.2.2.2.1 ≤ 8 := hI.2.2.2.1
  have hup0 : M.2.2.2.2.2.2.2.1 ≤ M.2.2.2.2.2.2.1 := hI.2.2.2.2.1
  have hsv0 : M.2.2.2.2.2.1 ≤ 1 := hI.2.2.2.2.2.1
  have hpp0 : M.2.2.2.2.2.2.1 < 100000 := by omega
  have hun0 : M.2.2.2.2.2.2.2.1 < 100000 := by omega
  obtain ⟨hb1, hb2, hb3⟩ := hS.1
  have hnx : M.1.2.2.1.2.1 < 999 := by omega
  have hn0 : M.1.2.2.1.2.1 + 1 < 1000 := by omega
  have hg0 : M.1.2.2.2.2.2.2.1 < 1000 := by omega
  have hf0 : M.1.2.2.2.2.2.2.2.2 < 1000 := by omega
  refine x_aload_n hC d_Law_law_2380 rfl rfl ?_
  refine x_aload hC d_Law_law_2381 rfl ?_
  refine x_callW hC kw_Law_334 (c_Law_failedShare (hM := hM) (ho := hod) (hZx := hZx) (hg0 := hg0) (hf0 := hf0) (hNx := hNx) (hbo := Or.inr (by omega))) (Nat.le_of_ble_eq_true rfl) rfl rfl rfl (Nat.le_of_ble_eq_true rfl) ⟨by omega, by omega⟩ d_Law_law_2383 (fun r9 Fw zw hp9 => ?_)
  rcases hp9 with ⟨rfl, hM9, ho9, p_0, hag9⟩ | ⟨rfl, hM9, ho9, hcond, hag9⟩
  · skip
    have hM : xMC Fw (cm) (b) (M) := hM9
    have hD : xMD Fw (b + 566) (th) (M) := xMD_fr hD (fun a9 q1 q2 => hag9 a9 (by omega) (by omega))
    have ho : Fw (b + 578) = some (.inr (2, 1, fun b9 => .long (g b9))) := (hag9 _ (by omega) (by omega)).trans ho
    have hod : Fw (b + 579) = some (.inr (3, 1, fun b9 => .double ((vf_upd gd 0 (FP.f2d (FP.fdiv (FP.i2f (nI (M.1.2.2.2.2.2.2.2.2))) (FP.i2f (nI (M.1.2.2.2.2.2.2.1)))))) b9))) := ho9
    clear hM9 ho9 hag9
    refine x_istore hC d_Law_law_2386 (Nat.le_of_ble_eq_true rfl) (L1 := [some (.ref a), some (.ref b), some (.ref (b + 566)), some (.ref (b + 578)), some (.ref (b + 579)), some (.int (nI (3 * q))), some (.int (nI 0)), none, none, none]) rfl ?_
    refine x_aload_n hC d_Law_law_2388 rfl rfl ?_
    obtain ⟨fsD, hDo⟩ := xMD_at hD
    refine x_callV hC kv_Law_337 (c_MessageCoderModel_failedShare (hD := hD) (hI := hI) (hg0 := hg0) (hf0 := hf0)) hDo rfl rfl (Nat.le_of_ble_eq_true rfl) rfl rfl rfl (Nat.le_of_ble_eq_true rfl) ⟨by omega, by omega⟩ d_Law_law_2389 (fun r9 Fm z9 hp9 => ?_)
    obtain ⟨rfl, h9c, j0, hag9⟩ := hp9
    rw [h9c]
    clear h9c z9
    have hM : xMC Fm (cm) (b) (M) := xMC_fr hM (fun a9 q1 q2 => hag9 a9 (by omega))
    have hD : xMD Fm (((b + 566))) ((if 0 < M.1.2.2.2.2.2.2.1 then 0 else 1)) (M) := j0
    have ho : Fm (b + 578) = some (.inr (2, 1, fun b9 => .long (g b9))) := (hag9 _ (by omega)).trans ho
    have hod : Fm (b + 579) = some (.inr (3, 1, fun b9 => .double ((vf_upd gd 0 (FP.f2d (FP.fdiv (FP.i2f (nI (M.1.2.2.2.2.2.2.2.2))) (FP.i2f (nI (M.1.2.2.2.2.2.2.1)))))) b9))) := (hag9 _ (by omega)).trans hod
    clear j0 hag9
    have hT : ((if 0 < M.1.2.2.2.2.2.2.1 then 0 else 1)) = 0 := if_pos p_0
    rw [hT] at hD
    rw [if_pos p_0]
    refine x_fstore hC d_Law_law_2392 (Nat.le_of_ble_eq_true rfl) (L1 := [some (.ref a), some (.ref b), some (.ref (b + 566)), some (.ref (b + 578)), some (.ref (b + 579)), some (.int (nI (3 * q))), some (.int (nI 0)), some (.float (FP.fdiv (FP.i2f (nI (M.1.2.2.2.2.2.2.2.2))) (FP.i2f (nI (M.1.2.2.2.2.2.2.1))))), none, none]) rfl ?_
    refine x_aload_n hC d_Law_law_2394 rfl rfl ?_
    obtain ⟨fsD, hDo⟩ := xMD_at hD
    refine x_callV hC kv_Law_163 (c_thrownD hD) hDo rfl rfl (Nat.le_of_ble_eq_true rfl) rfl rfl rfl (Nat.le_of_ble_eq_true rfl) ⟨by omega, by omega⟩ d_Law_law_2395 (fun r9 F9 z9 hp9 => ?_)
    obtain ⟨rfl, h9b, h9c⟩ := hp9
    rw [h9b, h9c]
    clear h9b h9c F9 z9
    refine x_iload hC d_Law_law_2398 rfl ?_
    refine x_icmpN_eq hC d_Law_law_2400 (tgt := 2405) (by decide) (by omega) (by omega) (fun c_2400 => ?_) (fun c_2400 => ?_)
    · skip
      refine x_iload hC d_Law_law_2405 rfl ?_
      refine x_ifN_ne hC d_Law_law_2407 (tgt := 2443) (by decide) (by omega) (fun c_2407 => ?_) (fun c_2407 => ?_)
      · skip
        exact absurd c_2407 (by omega)
      · skip
        refine x_aload hC d_Law_law_2410 rfl ?_
        refine x_iconst hC d_Law_law_2412 (v := nI 0) (by decide) ?_
        refine x_dald hC hod (j := 0) ⟨rfl, by decide, by decide⟩ (x := FP.f2d (FP.fdiv (FP.i2f (nI (M.1.2.2.2.2.2.2.2.2))) (FP.i2f (nI (M.1.2.2.2.2.2.2.1))))) rfl d_Law_law_2413 ?_
        refine x_fload hC d_Law_law_2414 rfl ?_
        refine x_f2d hC d_Law_law_2416 (fl_n64 (fl_f2dJ (fl_fdiv hf0 hg0 p_0))) ?_
        refine x_dcmp hC d_Law_law_2417 ?_
        refine x_top (v := nI 0) (dc_0 (fl_f2dJ (fl_fdiv hf0 hg0 p_0))) ?_
        refine x_ifN_eq hC d_Law_law_2418 (tgt := 2443) (by decide) (by omega) (fun c_2418 => ?_) (fun c_2418 => ?_)
        · skip
          refine x_goto hC d_Law_law_2443 (tgt := 2933) (by decide) ?_
          refine x_forget (L1 := [some (.ref a), some (.ref b), some (.ref (b + 566)), some (.ref (b + 578)), some (.ref (b + 579)), some (.int (nI (3 * q))), none, none, none, none]) ⟨Or.inr rfl, ⟨Or.inr rfl, ⟨Or.inr rfl, ⟨Or.inr rfl, ⟨Or.inr rfl, ⟨Or.inr rfl, ⟨Or.inl rfl, ⟨Or.inl rfl, ⟨Or.inl rfl, ⟨Or.inl rfl, trivial⟩⟩⟩⟩⟩⟩⟩⟩⟩⟩ ?_
          exact kk _ _ _ _ _ _ _ _ hM hD ho hod (lwJ_s hJ) (by omega) (by omega)
        · skip
          exact absurd c_2418 (by omega)
    · skip
      exact absurd c_2400 (by omega)
  · skip
    have hM : xMC Fw (cm) (b) (M) := hM9
    have hD : xMD Fw (b + 566) (th) (M) := xMD_fr hD (fun a9 q1 q2 => hag9 a9 (by omega) (by omega))
    have ho : Fw (b + 578) = some (.inr (2, 1, fun b9 => .long (g b9))) := (hag9 _ (by omega) (by omega)).trans ho
    have hod : Fw (b + 579) = some (.inr (3, 1, fun b9 => .double (gd b9))) := ho9
    clear hM9 ho9 hag9
    refine x_istore hC d_Law_law_2386 (Nat.le_of_ble_eq_true rfl) (L1 := [some (.ref a), some (.ref b), some (.ref (b + 566)), some (.ref (b + 578)), some (.ref (b + 579)), some (.int (nI (3 * q))), some (.int (nI 1)), none, none, none]) rfl ?_
    refine x_aload_n hC d_Law_law_2388 rfl rfl ?_
    obtain ⟨fsD, hDo⟩ := xMD_at hD
    refine x_callV hC kv_Law_337 (c_MessageCoderModel_failedShare (hD := hD) (hI := hI) (hg0 := hg0) (hf0 := hf0)) hDo rfl rfl (Nat.le_of_ble_eq_true rfl) rfl rfl rfl (Nat.le_of_ble_eq_true rfl) ⟨by omega, by omega⟩ d_Law_law_2389 (fun r9 Fm z9 hp9 => ?_)
    obtain ⟨rfl, h9c, j0, hag9⟩ := hp9
    rw [h9c]
    clear h9c z9
    have hM : xMC Fm (cm) (b) (M) := xMC_fr hM (fun a9 q1 q2 => hag9 a9 (by omega))
    have hD : xMD Fm (((b + 566))) ((if 0 < M.1.2.2.2.2.2.2.1 then 0 else 1)) (M) := j0
    have ho : Fm (b + 578) = some (.inr (2, 1, fun b9 => .long (g b9))) := (hag9 _ (by omega)).trans ho
    have hod : Fm (b + 579) = some (.inr (3, 1, fun b9 => .double (gd b9))) := (hag9 _ (by omega)).trans hod
    clear j0 hag9
    have hT : ((if 0 < M.1.2.2.2.2.2.2.1 then 0 else 1)) = 1 := if_neg (by omega)
    rw [hT] at hD
    refine x_fstore hC d_Law_law_2392 (Nat.le_of_ble_eq_true rfl) (L1 := [some (.ref a), some (.ref b), some (.ref (b + 566)), some (.ref (b + 578)), some (.ref (b + 579)), some (.int (nI (3 * q))), some (.int (nI 1)), some (.float (if 0 < M.1.2.2.2.2.2.2.1 then FP.fdiv (FP.i2f (nI (M.1.2.2.2.2.2.2.2.2))) (FP.i2f (nI (M.1.2.2.2.2.2.2.1))) else FP.fconst0)), none, none]) rfl ?_
    refine x_aload_n hC d_Law_law_2394 rfl rfl ?_
    obtain ⟨fsD, hDo⟩ := xMD_at hD
    refine x_callV hC kv_Law_163 (c_thrownD hD) hDo rfl rfl (Nat.le_of_ble_eq_true rfl) rfl rfl rfl (Nat.le_of_ble_eq_true rfl) ⟨by omega, by omega⟩ d_Law_law_2395 (fun r9 F9 z9 hp9 => ?_)
    obtain ⟨rfl, h9b, h9c⟩ := hp9
    rw [h9b, h9c]
    clear h9b h9c F9 z9
    refine x_iload hC d_Law_law_2398 rfl ?_
    refine x_icmpN_eq hC d_Law_law_2400 (tgt := 2405) (by decide) (by omega) (by omega) (fun c_2400 => ?_) (fun c_2400 => ?_)
    · skip
      refine x_iload hC d_Law_law_2405 rfl ?_
      refine x_ifN_ne hC d_Law_law_2407 (tgt := 2443) (by decide) (by omega) (fun c_2407 => ?_) (fun c_2407 => ?_)
      · skip
        refine x_goto hC d_Law_law_2443 (tgt := 2933) (by decide) ?_
        refine x_forget (L1 := [some (.ref a), some (.ref b), some (.ref (b + 566)), some (.ref (b + 578)), some (.ref (b + 579)), some (.int (nI (3 * q))), none, none, none, none]) ⟨Or.inr rfl, ⟨Or.inr rfl, ⟨Or.inr rfl, ⟨Or.inr rfl, ⟨Or.inr rfl, ⟨Or.inr rfl, ⟨Or.inl rfl, ⟨Or.inl rfl, ⟨Or.inl rfl, ⟨Or.inl rfl, trivial⟩⟩⟩⟩⟩⟩⟩⟩⟩⟩ ?_
        exact kk _ _ _ _ _ _ _ _ hM hD ho hod (lwJ_s hJ) (by omega) (by omega)
      · skip
        exact absurd c_2407 (by omega)
    · skip
      exact absurd c_2400 (by omega)

set_option maxHeartbeats 4000000 in
set_option maxRecDepth 20000 in
theorem lc_50 {P : xP} {Θ : xT} {cm : cmT} {a N b sm rt q : Nat} {xs : Nat → Int32} (E : lwE P Θ cm a N b sm rt xs) {F : xF} {z k n th : Nat} {M : mcS} {g : Nat → Int64} {gd : Nat → UInt64} (hM : xMC F (cm) (b) (M)) (hD : xMD F (b + 566) (th) (M)) (ho : F (b + 578) = some (.inr (2, 1, fun b9 => .long (g b9)))) (hod : F (b + 579) = some (.inr (3, 1, fun b9 => .double (gd b9)))) (hJ : lwJ q M) (hq : 3 * q + 3 ≤ N) (hkn : k + 2 ≤ 603072 ∧ n + 12 ≤ 7207018) (kk : lwK P Θ cm a b q k n) : xX P Θ 2446 [some (.ref (a)), some (.ref (b)), some (.ref (b + 566)), some (.ref (b + 578)), some (.ref (b + 579)), some (.int (nI (3 * q))), none, none, none, none] [] F z k n := by
  obtain ⟨hC, hX, ha, hN, hCM, hSM, hSR, hZx, hNx⟩ := E
  obtain ⟨hI, hS, hpp⟩ := id hJ
  obtain ⟨hk9, hn9⟩ := hkn
  have hu8 : M.2.2.2.2.2.2.2.1 ≤ 8 := hI.2.2.2.1
  have hup0 : M.2.2.2.2.2.2.2.1 ≤ M.2.2.2.2.2.2.1 := hI.2.2.2.2.1
  have hsv0 : M.2.2.2.2.2.1 ≤ 1 := hI.2.2.2.2.2.1
  have hpp0 : M.2.2.2.2.2.2.1 < 100000 := by omega
  have hun0 : M.2.2.2.2.2.2.2.1 < 100000 := by omega
  obtain ⟨hb1, hb2, hb3⟩ := hS.1
  have hnx : M.1.2.2.1.2.1 < 999 := by omega
  have hn0 : M.1.2.2.1.2.1 + 1 < 1000 := by omega
  have hg0 : M.1.2.2.2.2.2.2.1 < 1000 := by omega
  have hf0 : M.1.2.2.2.2.2.2.2.2 < 1000 := by omega
  refine x_aload_n hC d_Law_law_2446 rfl rfl ?_
  obtain ⟨hMo, -⟩ := id hM
  refine x_callV hC kv_Law_338 (c_MessageCoder_isConsistent (hM := hM) (hSR := hSR)) hMo rfl rfl (Nat.le_of_ble_eq_true rfl) rfl rfl rfl (Nat.le_of_ble_eq_true rfl) ⟨by omega, by omega⟩ d_Law_law_2447 (fun r9 Fc z9 hp9 => ?_)
  obtain ⟨rfl, h9c, j0, hag9⟩ := hp9
  rw [h9c]
  clear h9c z9
  have hM : xMC Fc (cm) (b) (M) := j0
  have hD : xMD Fc (b + 566) (th) (M) := xMD_fr hD (fun a9 q1 q2 => hag9 a9 (by omega))
  have ho : Fc (b + 578) = some (.inr (2, 1, fun b9 => .long (g b9))) := (hag9 _ (by omega)).trans ho
  have hod : Fc (b + 579) = some (.inr (3, 1, fun b9 => .double (gd b9))) := (hag9 _ (by omega)).trans hod
  clear j0 hag9
  refine x_aload_n hC d_Law_law_2450 rfl rfl ?_
  obtain ⟨fsD, hDo⟩ := xMD_at hD
  refine x_callV hC kv_Law_341 (c_MessageCoderModel_isConsistent (hD := hD) (hI := hI)) hDo rfl rfl (Nat.le_of_ble_eq_true rfl) rfl rfl rfl (Nat.le_of_ble_eq_true rfl) ⟨by omega, by omega⟩ d_Law_law_2451 (fun r9 Fm z9 hp9 => ?_)
  obtain ⟨rfl, h9c, j0, hag9⟩ := hp9
  rw [h9c]
  clear h9c z9
  have hM : xMC Fm (cm) (b) (M) := xMC_fr hM (fun a9 q1 q2 => hag9 a9 (by omega))
  have hD : xMD Fm (((b + 566))) (0) (M) := j0
  have ho : Fm (b + 578) = some (.inr (2, 1, fun b9 => .long (g b9))) := (hag9 _ (by omega)).trans ho
  have hod : Fm (b + 579) = some (.inr (3, 1, fun b9 => .double (gd b9))) := (hag9 _ (by omega)).trans hod
  clear j0 hag9
  refine x_icmpN_eq hC d_Law_law_2454 (tgt := 2933) (by decide) (by omega) (by omega) (fun c_2454 => ?_) (fun c_2454 => ?_)
  · skip
    exact kk _ _ _ _ _ _ _ _ hM hD ho hod (lwJ_s hJ) (by omega) (by omega)
  · skip
    exact absurd c_2454 (by omega)

set_option maxHeartbeats 4000000 in
set_option maxRecDepth 20000 in
theorem lc_51 {P : xP} {Θ : xT} {cm : cmT} {a N b sm rt q : Nat} {xs : Nat → Int32} (E : lwE P Θ cm a N b sm rt xs) {F : xF} {z k n th : Nat} {M : mcS} {g : Nat → Int64} {gd : Nat → UInt64} (hM : xMC F (cm) (b) (M)) (hD : xMD F (b + 566) (th) (M)) (ho : F (b + 578) = some (.inr (2, 1, fun b9 => .long (g b9)))) (hod : F (b + 579) = some (.inr (3, 1, fun b9 => .double (gd b9)))) (hJ : lwJ q M) (hq : 3 * q + 3 ≤ N) (hkn : k + 2 ≤ 603072 ∧ n + 12 ≤ 7207018) (kk : lwK P Θ cm a b q k n) : xX P Θ 2459 [some (.ref (a)), some (.ref (b)), some (.ref (b + 566)), some (.ref (b + 578)), some (.ref (b + 579)), some (.int (nI (3 * q))), none, none, none, none] [] F z k n := by
  obtain ⟨hC, hX, ha, hN, hCM, hSM, hSR, hZx, hNx⟩ := E
  obtain ⟨hI, hS, hpp⟩ := id hJ
  obtain ⟨hk9, hn9⟩ := hkn
  have hu8 : M.2.2.2.2.2.2.2.1 ≤ 8 := hI.2.2.2.1
  have hup0 : M.2.2.2.2.2.2.2.1 ≤ M.2.2.2.2.2.2.1 := hI.2.2.2.2.1
  have hsv0 : M.2.2.2.2.2.1 ≤ 1 := hI.2.2.2.2.2.1
  have hpp0 : M.2.2.2.2.2.2.1 < 100000 := by omega
  have hun0 : M.2.2.2.2.2.2.2.1 < 100000 := by omega
  obtain ⟨hb1, hb2, hb3⟩ := hS.1
  have hnx : M.1.2.2.1.2.1 < 999 := by omega
  have hn0 : M.1.2.2.1.2.1 + 1 < 1000 := by omega
  have hg0 : M.1.2.2.2.2.2.2.1 < 1000 := by omega
  have hf0 : M.1.2.2.2.2.2.2.2.2 < 1000 := by omega
  refine x_aload_n hC d_Law_law_2459 rfl rfl ?_
  refine x_aload_n hC d_Law_law_2460 rfl rfl ?_
  refine x_iload hC d_Law_law_2461 rfl ?_
  refine x_iconst hC d_Law_law_2463 (v := nI 1) (by decide) ?_
  refine x_iadd hC d_Law_law_2464 (v := (nI (3 * q + 1))) (x_addN (by omega)) ?_
  refine x_sld hC hX ha (j := 3 * q + 1) ⟨rfl, by omega, by omega⟩ d_Law_law_2465 ?_
  refine x_aload_n hC d_Law_law_2466 rfl rfl ?_
  refine x_callW hC kw_Law_342 (c_Law_formatMessage (hM := hM) (ho := ho) (hZx := hZx) (hNx := hNx) (hbo := Or.inr (by omega))) (Nat.le_of_ble_eq_true rfl) rfl rfl rfl (Nat.le_of_ble_eq_true rfl) ⟨by omega, by omega⟩ d_Law_law_2467 (fun r9 Fw zw hp9 => ?_)
  rcases hp9 with ⟨rfl, hM9, ho9, p_0, hag9⟩ | ⟨rfl, hM9, ho9, hcond, hag9⟩
  · skip
    have hM : xMC Fw (cm) (b) ((setL M (dgs (mAt M.1 (xs (3 * q + 1))).1 + 1 + dgs (mAt M.1 (xs (3 * q + 1))).2.1 + 1 + (mAt M.1 (xs (3 * q + 1))).2.2.1) (fmS (mAt M.1 (xs (3 * q + 1)))))) := hM9
    have hD : xMD Fw (b + 566) (th) (M) := xMD_fr hD (fun a9 q1 q2 => hag9 a9 (by omega) (by omega))
    have ho : Fw (b + 578) = some (.inr (2, 1, fun b9 => .long ((vp_updL g 0 (((nI (dgs (mAt M.1 (xs (3 * q + 1))).1 + 1 + dgs (mAt M.1 (xs (3 * q + 1))).2.1 + 1 + (mAt M.1 (xs (3 * q + 1))).2.2.1))).toInt64)) b9))) := ho9
    have hod : Fw (b + 579) = some (.inr (3, 1, fun b9 => .double (gd b9))) := (hag9 _ (by omega) (by omega)).trans hod
    clear hM9 ho9 hag9
    refine x_istore hC d_Law_law_2470 (Nat.le_of_ble_eq_true rfl) (L1 := [some (.ref a), some (.ref b), some (.ref (b + 566)), some (.ref (b + 578)), some (.ref (b + 579)), some (.int (nI (3 * q))), some (.int (nI 0)), none, none, none]) rfl ?_
    refine x_aload_n hC d_Law_law_2472 rfl rfl ?_
    refine x_aload_n hC d_Law_law_2473 rfl rfl ?_
    refine x_iload hC d_Law_law_2474 rfl ?_
    refine x_iconst hC d_Law_law_2476 (v := nI 1) (by decide) ?_
    refine x_iadd hC d_Law_law_2477 (v := (nI (3 * q + 1))) (x_addN (by omega)) ?_
    refine x_sld hC hX ha (j := 3 * q + 1) ⟨rfl, by omega, by omega⟩ d_Law_law_2478 ?_
    obtain ⟨fsD, hDo⟩ := xMD_at hD
    refine x_callV hC kv_Law_344 (c_MessageCoderModel_formatMessage (hD := hD) (hI := hI)) hDo rfl rfl (Nat.le_of_ble_eq_true rfl) rfl rfl rfl (Nat.le_of_ble_eq_true rfl) ⟨by omega, by omega⟩ d_Law_law_2479 (fun r9 Fm z9 hp9 => ?_)
    obtain ⟨rfl, h9c, j0, hag9⟩ := hp9
    rw [h9c]
    clear h9c z9
    have hM : xMC Fm (cm) (b) ((setL M (dgs (mAt M.1 (xs (3 * q + 1))).1 + 1 + dgs (mAt M.1 (xs (3 * q + 1))).2.1 + 1 + (mAt M.1 (xs (3 * q + 1))).2.2.1) (fmS (mAt M.1 (xs (3 * q + 1)))))) := xMC_fr hM (fun a9 q1 q2 => hag9 a9 (by omega))
    have hD : xMD Fm (((b + 566))) ((if mOk M.1 (xs (3 * q + 1)) then 0 else 1)) ((if mOk M.1 (xs (3 * q + 1)) then setL M (dgs (mAt M.1 (xs (3 * q + 1))).1 + 1 + dgs (mAt M.1 (xs (3 * q + 1))).2.1 + 1 + (mAt M.1 (xs (3 * q + 1))).2.2.1) (fmS (mAt M.1 (xs (3 * q + 1)))) else M)) := j0
    have ho : Fm (b + 578) = some (.inr (2, 1, fun b9 => .long ((vp_updL g 0 (((nI (dgs (mAt M.1 (xs (3 * q + 1))).1 + 1 + dgs (mAt M.1 (xs (3 * q + 1))).2.1 + 1 + (mAt M.1 (xs (3 * q + 1))).2.2.1))).toInt64)) b9))) := (hag9 _ (by omega)).trans ho
    have hod : Fm (b + 579) = some (.inr (3, 1, fun b9 => .double (gd b9))) := (hag9 _ (by omega)).trans hod
    clear j0 hag9
    have hT : ((if mOk M.1 (xs (3 * q + 1)) then 0 else 1)) = 0 := if_pos p_0
    rw [hT] at hD
    have hE : ((if mOk M.1 (xs (3 * q + 1)) then setL M (dgs (mAt M.1 (xs (3 * q + 1))).1 + 1 + dgs (mAt M.1 (xs (3 * q + 1))).2.1 + 1 + (mAt M.1 (xs (3 * q + 1))).2.2.1) (fmS (mAt M.1 (xs (3 * q + 1)))) else M)) = (setL M (dgs (mAt M.1 (xs (3 * q + 1))).1 + 1 + dgs (mAt M.1 (xs (3 * q + 1))).2.1 + 1 + (mAt M.1 (xs (3 * q + 1))).2.2.1) (fmS (mAt M.1 (xs (3 * q + 1))))) := if_pos p_0
    rw [hE] at hD
    refine x_top (v := (nI (dgs (mAt M.1 (xs (3 * q + 1))).1 + 1 + dgs (mAt M.1 (xs (3 * q + 1))).2.1 + 1 + (mAt M.1 (xs (3 * q + 1))).2.2.1))) (congrArg nI (if_pos p_0)) ?_
    refine x_istore hC d_Law_law_2482 (Nat.le_of_ble_eq_true rfl) (L1 := [some (.ref a), some (.ref b), some (.ref (b + 566)), some (.ref (b + 578)), some (.ref (b + 579)), some (.int (nI (3 * q))), some (.int (nI 0)), some (.int (nI (dgs (mAt M.1 (xs (3 * q + 1))).1 + 1 + dgs (mAt M.1 (xs (3 * q + 1))).2.1 + 1 + (mAt M.1 (xs (3 * q + 1))).2.2.1))), none, none]) rfl ?_
    refine x_aload_n hC d_Law_law_2484 rfl rfl ?_
    obtain ⟨fsD, hDo⟩ := xMD_at hD
    refine x_callV hC kv_Law_163 (c_thrownD hD) hDo rfl rfl (Nat.le_of_ble_eq_true rfl) rfl rfl rfl (Nat.le_of_ble_eq_true rfl) ⟨by omega, by omega⟩ d_Law_law_2485 (fun r9 F9 z9 hp9 => ?_)
    obtain ⟨rfl, h9b, h9c⟩ := hp9
    rw [h9b, h9c]
    clear h9b h9c F9 z9
    refine x_iload hC d_Law_law_2488 rfl ?_
    refine x_icmpN_eq hC d_Law_law_2490 (tgt := 2495) (by decide) (by omega) (by omega) (fun c_2490 => ?_) (fun c_2490 => ?_)
    · skip
      refine x_iload hC d_Law_law_2495 rfl ?_
      refine x_ifN_ne hC d_Law_law_2497 (tgt := 2512) (by decide) (by omega) (fun c_2497 => ?_) (fun c_2497 => ?_)
      · skip
        exact absurd c_2497 (by omega)
      · skip
        refine x_aload_n hC d_Law_law_2500 rfl rfl ?_
        refine x_iconst hC d_Law_law_2501 (v := nI 0) (by decide) ?_
        refine x_lald hC ho (j := 0) ⟨rfl, by decide, by decide⟩ (x := ((nI (dgs (mAt M.1 (xs (3 * q + 1))).1 + 1 + dgs (mAt M.1 (xs (3 * q + 1))).2.1 + 1 + (mAt M.1 (xs (3 * q + 1))).2.2.1))).toInt64) rfl d_Law_law_2502 ?_
        refine x_iload hC d_Law_law_2503 rfl ?_
        refine x_i2l hC d_Law_law_2505 rfl ?_
        refine x_lcmp hC d_Law_law_2506 ?_
        refine x_top (v := nI 0) (lg_self _) ?_
        refine x_ifN_eq hC d_Law_law_2507 (tgt := 2512) (by decide) (by omega) (fun c_2507 => ?_) (fun c_2507 => ?_)
        · skip
          refine x_goto hC d_Law_law_2512 (tgt := 2933) (by decide) ?_
          refine x_forget (L1 := [some (.ref a), some (.ref b), some (.ref (b + 566)), some (.ref (b + 578)), some (.ref (b + 579)), some (.int (nI (3 * q))), none, none, none, none]) ⟨Or.inr rfl, ⟨Or.inr rfl, ⟨Or.inr rfl, ⟨Or.inr rfl, ⟨Or.inr rfl, ⟨Or.inr rfl, ⟨Or.inl rfl, ⟨Or.inl rfl, ⟨Or.inl rfl, ⟨Or.inl rfl, trivial⟩⟩⟩⟩⟩⟩⟩⟩⟩⟩ ?_
          exact kk _ _ _ _ _ _ _ _ hM hD ho hod (lwJ_lin hJ hM) (by omega) (by omega)
        · skip
          exact absurd c_2507 (by omega)
    · skip
      exact absurd c_2490 (by omega)
  · skip
    have hM : xMC Fw (cm) (b) (M) := hM9
    have hD : xMD Fw (b + 566) (th) (M) := xMD_fr hD (fun a9 q1 q2 => hag9 a9 (by omega) (by omega))
    have ho : Fw (b + 578) = some (.inr (2, 1, fun b9 => .long (g b9))) := ho9
    have hod : Fw (b + 579) = some (.inr (3, 1, fun b9 => .double (gd b9))) := (hag9 _ (by omega) (by omega)).trans hod
    clear hM9 ho9 hag9
    refine x_istore hC d_Law_law_2470 (Nat.le_of_ble_eq_true rfl) (L1 := [some (.ref a), some (.ref b), some (.ref (b + 566)), some (.ref (b + 578)), some (.ref (b + 579)), some (.int (nI (3 * q))), some (.int (nI 1)), none, none, none]) rfl ?_
    refine x_aload_n hC d_Law_law_2472 rfl rfl ?_
    refine x_aload_n hC d_Law_law_2473 rfl rfl ?_
    refine x_iload hC d_Law_law_2474 rfl ?_
    refine x_iconst hC d_Law_law_2476 (v := nI 1) (by decide) ?_
    refine x_iadd hC d_Law_law_2477 (v := (nI (3 * q + 1))) (x_addN (by omega)) ?_
    refine x_sld hC hX ha (j := 3 * q + 1) ⟨rfl, by omega, by omega⟩ d_Law_law_2478 ?_
    obtain ⟨fsD, hDo⟩ := xMD_at hD
    refine x_callV hC kv_Law_344 (c_MessageCoderModel_formatMessage (hD := hD) (hI := hI)) hDo rfl rfl (Nat.le_of_ble_eq_true rfl) rfl rfl rfl (Nat.le_of_ble_eq_true rfl) ⟨by omega, by omega⟩ d_Law_law_2479 (fun r9 Fm z9 hp9 => ?_)
    obtain ⟨rfl, h9c, j0, hag9⟩ := hp9
    rw [h9c]
    clear h9c z9
    have hM : xMC Fm (cm) (b) (M) := xMC_fr hM (fun a9 q1 q2 => hag9 a9 (by omega))
    have hD : xMD Fm (((b + 566))) ((if mOk M.1 (xs (3 * q + 1)) then 0 else 1)) ((if mOk M.1 (xs (3 * q + 1)) then setL M (dgs (mAt M.1 (xs (3 * q + 1))).1 + 1 + dgs (mAt M.1 (xs (3 * q + 1))).2.1 + 1 + (mAt M.1 (xs (3 * q + 1))).2.2.1) (fmS (mAt M.1 (xs (3 * q + 1)))) else M)) := j0
    have ho : Fm (b + 578) = some (.inr (2, 1, fun b9 => .long (g b9))) := (hag9 _ (by omega)).trans ho
    have hod : Fm (b + 579) = some (.inr (3, 1, fun b9 => .double (gd b9))) := (hag9 _ (by omega)).trans hod
    clear j0 hag9
    have hT : ((if mOk M.1 (xs (3 * q + 1)) then 0 else 1)) = 1 := if_neg hcond
    rw [hT] at hD
    have hE : ((if mOk M.1 (xs (3 * q + 1)) then setL M (dgs (mAt M.1 (xs (3 * q + 1))).1 + 1 + dgs (mAt M.1 (xs (3 * q + 1))).2.1 + 1 + (mAt M.1 (xs (3 * q + 1))).2.2.1) (fmS (mAt M.1 (xs (3 * q + 1)))) else M)) = M := if_neg hcond
    rw [hE] at hD
    refine x_istore hC d_Law_law_2482 (Nat.le_of_ble_eq_true rfl) (L1 := [some (.ref a), some (.ref b), some (.ref (b + 566)), some (.ref (b + 578)), some (.ref (b + 579)), some (.int (nI (3 * q))), some (.int (nI 1)), some (.int (nI (if mOk M.1 (xs (3 * q + 1)) then dgs (mAt M.1 (xs (3 * q + 1))).1 + 1 + dgs (mAt M.1 (xs (3 * q + 1))).2.1 + 1 + (mAt M.1 (xs (3 * q + 1))).2.2.1 else 0))), none, none]) rfl ?_
    refine x_aload_n hC d_Law_law_2484 rfl rfl ?_
    obtain ⟨fsD, hDo⟩ := xMD_at hD
    refine x_callV hC kv_Law_163 (c_thrownD hD) hDo rfl rfl (Nat.le_of_ble_eq_true rfl) rfl rfl rfl (Nat.le_of_ble_eq_true rfl) ⟨by omega, by omega⟩ d_Law_law_2485 (fun r9 F9 z9 hp9 => ?_)
    obtain ⟨rfl, h9b, h9c⟩ := hp9
    rw [h9b, h9c]
    clear h9b h9c F9 z9
    refine x_iload hC d_Law_law_2488 rfl ?_
    refine x_icmpN_eq hC d_Law_law_2490 (tgt := 2495) (by decide) (by omega) (by omega) (fun c_2490 => ?_) (fun c_2490 => ?_)
    · skip
      refine x_iload hC d_Law_law_2495 rfl ?_
      refine x_ifN_ne hC d_Law_law_2497 (tgt := 2512) (by decide) (by omega) (fun c_2497 => ?_) (fun c_2497 => ?_)
      · skip
        refine x_goto hC d_Law_law_2512 (tgt := 2933) (by decide) ?_
        refine x_forget (L1 := [some (.ref a), some (.ref b), some (.ref (b + 566)), some (.ref (b + 578)), some (.ref (b + 579)), some (.int (nI (3 * q))), none, none, none, none]) ⟨Or.inr rfl, ⟨Or.inr rfl, ⟨Or.inr rfl, ⟨Or.inr rfl, ⟨Or.inr rfl, ⟨Or.inr rfl, ⟨Or.inl rfl, ⟨Or.inl rfl, ⟨Or.inl rfl, ⟨Or.inl rfl, trivial⟩⟩⟩⟩⟩⟩⟩⟩⟩⟩ ?_
        exact kk _ _ _ _ _ _ _ _ hM hD ho hod (lwJ_s hJ) (by omega) (by omega)
      · skip
        exact absurd c_2497 (by omega)
    · skip
      exact absurd c_2490 (by omega)

set_option maxHeartbeats 4000000 in
set_option maxRecDepth 20000 in
theorem lc_52 {P : xP} {Θ : xT} {cm : cmT} {a N b sm rt q : Nat} {xs : Nat → Int32} (E : lwE P Θ cm a N b sm rt xs) {F : xF} {z k n th : Nat} {M : mcS} {g : Nat → Int64} {gd : Nat → UInt64} (hM : xMC F (cm) (b) (M)) (hD : xMD F (b + 566) (th) (M)) (ho : F (b + 578) = some (.inr (2, 1, fun b9 => .long (g b9)))) (hod : F (b + 579) = some (.inr (3, 1, fun b9 => .double (gd b9)))) (hJ : lwJ q M) (hq : 3 * q + 3 ≤ N) (hkn : k + 2 ≤ 603072 ∧ n + 12 ≤ 7207018) (kk : lwK P Θ cm a b q k n) : xX P Θ 2515 [some (.ref (a)), some (.ref (b)), some (.ref (b + 566)), some (.ref (b + 578)), some (.ref (b + 579)), some (.int (nI (3 * q))), none, none, none, none] [] F z k n := by
  obtain ⟨hC, hX, ha, hN, hCM, hSM, hSR, hZx, hNx⟩ := E
  obtain ⟨hI, hS, hpp⟩ := id hJ
  obtain ⟨hk9, hn9⟩ := hkn
  have hu8 : M.2.2.2.2.2.2.2.1 ≤ 8 := hI.2.2.2.1
  have hup0 : M.2.2.2.2.2.2.2.1 ≤ M.2.2.2.2.2.2.1 := hI.2.2.2.2.1
  have hsv0 : M.2.2.2.2.2.1 ≤ 1 := hI.2.2.2.2.2.1
  have hpp0 : M.2.2.2.2.2.2.1 < 100000 := by omega
  have hun0 : M.2.2.2.2.2.2.2.1 < 100000 := by omega
  obtain ⟨hb1, hb2, hb3⟩ := hS.1
  have hnx : M.1.2.2.1.2.1 < 999 := by omega
  have hn0 : M.1.2.2.1.2.1 + 1 < 1000 := by omega
  have hg0 : M.1.2.2.2.2.2.2.1 < 1000 := by omega
  have hf0 : M.1.2.2.2.2.2.2.2.2 < 1000 := by omega
  refine x_aload_n hC d_Law_law_2515 rfl rfl ?_
  refine x_aload_n hC d_Law_law_2516 rfl rfl ?_
  refine x_iload hC d_Law_law_2517 rfl ?_
  refine x_iconst hC d_Law_law_2519 (v := nI 1) (by decide) ?_
  refine x_iadd hC d_Law_law_2520 (v := (nI (3 * q + 1))) (x_addN (by omega)) ?_
  refine x_sld hC hX ha (j := 3 * q + 1) ⟨rfl, by omega, by omega⟩ d_Law_law_2521 ?_
  refine x_i2c hC d_Law_law_2522 (v := nI (chN (xs (3 * q + 1)))) (chN_I _) ?_
  refine x_aload_n hC d_Law_law_2523 rfl rfl ?_
  refine x_callW hC kw_Law_345 (c_Law_formatCode (hM := hM) (ho := ho) (hZx := hZx) (hcb := chN_lt _) (hNx := hNx) (hbo := Or.inr (by omega))) (Nat.le_of_ble_eq_true rfl) rfl rfl rfl (Nat.le_of_ble_eq_true rfl) ⟨by omega, by omega⟩ d_Law_law_2524 (fun r9 Fw zw hp9 => ?_)
  rcases hp9 with ⟨rfl, hM9, ho9, p_0, hag9⟩ | ⟨rfl, hM9, ho9, hcond, hag9⟩
  · skip
    have hM : xMC Fw (cm) (b) ((setL M (2 + hLen M.1.1 ((chN (xs (3 * q + 1))) - 97)) (fmC (chN (xs (3 * q + 1))) (hLen M.1.1 ((chN (xs (3 * q + 1))) - 97)) (hVal (hLen M.1.1) ((chN (xs (3 * q + 1))) - 97))))) := hM9
    have hD : xMD Fw (b + 566) (th) (M) := xMD_fr hD (fun a9 q1 q2 => hag9 a9 (by omega) (by omega))
    have ho : Fw (b + 578) = some (.inr (2, 1, fun b9 => .long ((vp_updL g 0 (((nI (2 + hLen M.1.1 ((chN (xs (3 * q + 1))) - 97)))).toInt64)) b9))) := ho9
    have hod : Fw (b + 579) = some (.inr (3, 1, fun b9 => .double (gd b9))) := (hag9 _ (by omega) (by omega)).trans hod
    clear hM9 ho9 hag9
    refine x_istore hC d_Law_law_2527 (Nat.le_of_ble_eq_true rfl) (L1 := [some (.ref a), some (.ref b), some (.ref (b + 566)), some (.ref (b + 578)), some (.ref (b + 579)), some (.int (nI (3 * q))), some (.int (nI 0)), none, none, none]) rfl ?_
    refine x_aload_n hC d_Law_law_2529 rfl rfl ?_
    refine x_aload_n hC d_Law_law_2530 rfl rfl ?_
    refine x_iload hC d_Law_law_2531 rfl ?_
    refine x_iconst hC d_Law_law_2533 (v := nI 1) (by decide) ?_
    refine x_iadd hC d_Law_law_2534 (v := (nI (3 * q + 1))) (x_addN (by omega)) ?_
    refine x_sld hC hX ha (j := 3 * q + 1) ⟨rfl, by omega, by omega⟩ d_Law_law_2535 ?_
    refine x_i2c hC d_Law_law_2536 (v := nI (chN (xs (3 * q + 1)))) (chN_I _) ?_
    obtain ⟨fsD, hDo⟩ := xMD_at hD
    refine x_callV hC kv_Law_347 (c_MessageCoderModel_formatCode (hD := hD) (hI := hI) (hcb := chN_lt _)) hDo rfl rfl (Nat.le_of_ble_eq_true rfl) rfl rfl rfl (Nat.le_of_ble_eq_true rfl) ⟨by omega, by omega⟩ d_Law_law_2537 (fun r9 Fm z9 hp9 => ?_)
    obtain ⟨rfl, h9c, j0, hag9⟩ := hp9
    rw [h9c]
    clear h9c z9
    have hM : xMC Fm (cm) (b) ((setL M (2 + hLen M.1.1 ((chN (xs (3 * q + 1))) - 97)) (fmC (chN (xs (3 * q + 1))) (hLen M.1.1 ((chN (xs (3 * q + 1))) - 97)) (hVal (hLen M.1.1) ((chN (xs (3 * q + 1))) - 97))))) := xMC_fr hM (fun a9 q1 q2 => hag9 a9 (by omega))
    have hD : xMD Fm (((b + 566))) ((if 97 ≤ (chN (xs (3 * q + 1))) ∧ (chN (xs (3 * q + 1))) < 105 then 0 else 1)) ((if 97 ≤ (chN (xs (3 * q + 1))) ∧ (chN (xs (3 * q + 1))) < 105 then setL M (2 + hLen M.1.1 ((chN (xs (3 * q + 1))) - 97)) (fmC (chN (xs (3 * q + 1))) (hLen M.1.1 ((chN (xs (3 * q + 1))) - 97)) (hVal (hLen M.1.1) ((chN (xs (3 * q + 1))) - 97))) else M)) := j0
    have ho : Fm (b + 578) = some (.inr (2, 1, fun b9 => .long ((vp_updL g 0 (((nI (2 + hLen M.1.1 ((chN (xs (3 * q + 1))) - 97)))).toInt64)) b9))) := (hag9 _ (by omega)).trans ho
    have hod : Fm (b + 579) = some (.inr (3, 1, fun b9 => .double (gd b9))) := (hag9 _ (by omega)).trans hod
    clear j0 hag9
    have hT : ((if 97 ≤ (chN (xs (3 * q + 1))) ∧ (chN (xs (3 * q + 1))) < 105 then 0 else 1)) = 0 := if_pos p_0
    rw [hT] at hD
    have hE : ((if 97 ≤ (chN (xs (3 * q + 1))) ∧ (chN (xs (3 * q + 1))) < 105 then setL M (2 + hLen M.1.1 ((chN (xs (3 * q + 1))) - 97)) (fmC (chN (xs (3 * q + 1))) (hLen M.1.1 ((chN (xs (3 * q + 1))) - 97)) (hVal (hLen M.1.1) ((chN (xs (3 * q + 1))) - 97))) else M)) = (setL M (2 + hLen M.1.1 ((chN (xs (3 * q + 1))) - 97)) (fmC (chN (xs (3 * q + 1))) (hLen M.1.1 ((chN (xs (3 * q + 1))) - 97)) (hVal (hLen M.1.1) ((chN (xs (3 * q + 1))) - 97)))) := if_pos p_0
    rw [hE] at hD
    refine x_top (v := (nI (2 + hLen M.1.1 ((chN (xs (3 * q + 1))) - 97)))) (congrArg nI (if_pos p_0)) ?_
    refine x_istore hC d_Law_law_2540 (Nat.le_of_ble_eq_true rfl) (L1 := [some (.ref a), some (.ref b), some (.ref (b + 566)), some (.ref (b + 578)), some (.ref (b + 579)), some (.int (nI (3 * q))), some (.int (nI 0)), some (.int (nI (2 + hLen M.1.1 ((chN (xs (3 * q + 1))) - 97)))), none, none]) rfl ?_
    refine x_aload_n hC d_Law_law_2542 rfl rfl ?_
    obtain ⟨fsD, hDo⟩ := xMD_at hD
    refine x_callV hC kv_Law_163 (c_thrownD hD) hDo rfl rfl (Nat.le_of_ble_eq_true rfl) rfl rfl rfl (Nat.le_of_ble_eq_true rfl) ⟨by omega, by omega⟩ d_Law_law_2543 (fun r9 F9 z9 hp9 => ?_)
    obtain ⟨rfl, h9b, h9c⟩ := hp9
    rw [h9b, h9c]
    clear h9b h9c F9 z9
    refine x_iload hC d_Law_law_2546 rfl ?_
    refine x_icmpN_eq hC d_Law_law_2548 (tgt := 2553) (by decide) (by omega) (by omega) (fun c_2548 => ?_) (fun c_2548 => ?_)
    · skip
      refine x_iload hC d_Law_law_2553 rfl ?_
      refine x_ifN_ne hC d_Law_law_2555 (tgt := 2570) (by decide) (by omega) (fun c_2555 => ?_) (fun c_2555 => ?_)
      · skip
        exact absurd c_2555 (by omega)
      · skip
        refine x_aload_n hC d_Law_law_2558 rfl rfl ?_
        refine x_iconst hC d_Law_law_2559 (v := nI 0) (by decide) ?_
        refine x_lald hC ho (j := 0) ⟨rfl, by decide, by decide⟩ (x := ((nI (2 + hLen M.1.1 ((chN (xs (3 * q + 1))) - 97)))).toInt64) rfl d_Law_law_2560 ?_
        refine x_iload hC d_Law_law_2561 rfl ?_
        refine x_i2l hC d_Law_law_2563 rfl ?_
        refine x_lcmp hC d_Law_law_2564 ?_
        refine x_top (v := nI 0) (lg_self _) ?_
        refine x_ifN_eq hC d_Law_law_2565 (tgt := 2570) (by decide) (by omega) (fun c_2565 => ?_) (fun c_2565 => ?_)
        · skip
          refine x_goto hC d_Law_law_2570 (tgt := 2933) (by decide) ?_
          refine x_forget (L1 := [some (.ref a), some (.ref b), some (.ref (b + 566)), some (.ref (b + 578)), some (.ref (b + 579)), some (.int (nI (3 * q))), none, none, none, none]) ⟨Or.inr rfl, ⟨Or.inr rfl, ⟨Or.inr rfl, ⟨Or.inr rfl, ⟨Or.inr rfl, ⟨Or.inr rfl, ⟨Or.inl rfl, ⟨Or.inl rfl, ⟨Or.inl rfl, ⟨Or.inl rfl, trivial⟩⟩⟩⟩⟩⟩⟩⟩⟩⟩ ?_
          exact kk _ _ _ _ _ _ _ _ hM hD ho hod (lwJ_lin hJ hM) (by omega) (by omega)
        · skip
          exact absurd c_2565 (by omega)
    · skip
      exact absurd c_2548 (by omega)
  · skip
    have hM : xMC Fw (cm) (b) (M) := hM9
    have hD : xMD Fw (b + 566) (th) (M) := xMD_fr hD (fun a9 q1 q2 => hag9 a9 (by omega) (by omega))
    have ho : Fw (b + 578) = some (.inr (2, 1, fun b9 => .long (g b9))) := ho9
    have hod : Fw (b + 579) = some (.inr (3, 1, fun b9 => .double (gd b9))) := (hag9 _ (by omega) (by omega)).trans hod
    clear hM9 ho9 hag9
    refine x_istore hC d_Law_law_2527 (Nat.le_of_ble_eq_true rfl) (L1 := [some (.ref a), some (.ref b), some (.ref (b + 566)), some (.ref (b + 578)), some (.ref (b + 579)), some (.int (nI (3 * q))), some (.int (nI 1)), none, none, none]) rfl ?_
    refine x_aload_n hC d_Law_law_2529 rfl rfl ?_
    refine x_aload_n hC d_Law_law_2530 rfl rfl ?_
    refine x_iload hC d_Law_law_2531 rfl ?_
    refine x_iconst hC d_Law_law_2533 (v := nI 1) (by decide) ?_
    refine x_iadd hC d_Law_law_2534 (v := (nI (3 * q + 1))) (x_addN (by omega)) ?_
    refine x_sld hC hX ha (j := 3 * q + 1) ⟨rfl, by omega, by omega⟩ d_Law_law_2535 ?_
    refine x_i2c hC d_Law_law_2536 (v := nI (chN (xs (3 * q + 1)))) (chN_I _) ?_
    obtain ⟨fsD, hDo⟩ := xMD_at hD
    refine x_callV hC kv_Law_347 (c_MessageCoderModel_formatCode (hD := hD) (hI := hI) (hcb := chN_lt _)) hDo rfl rfl (Nat.le_of_ble_eq_true rfl) rfl rfl rfl (Nat.le_of_ble_eq_true rfl) ⟨by omega, by omega⟩ d_Law_law_2537 (fun r9 Fm z9 hp9 => ?_)
    obtain ⟨rfl, h9c, j0, hag9⟩ := hp9
    rw [h9c]
    clear h9c z9
    have hM : xMC Fm (cm) (b) (M) := xMC_fr hM (fun a9 q1 q2 => hag9 a9 (by omega))
    have hD : xMD Fm (((b + 566))) ((if 97 ≤ (chN (xs (3 * q + 1))) ∧ (chN (xs (3 * q + 1))) < 105 then 0 else 1)) ((if 97 ≤ (chN (xs (3 * q + 1))) ∧ (chN (xs (3 * q + 1))) < 105 then setL M (2 + hLen M.1.1 ((chN (xs (3 * q + 1))) - 97)) (fmC (chN (xs (3 * q + 1))) (hLen M.1.1 ((chN (xs (3 * q + 1))) - 97)) (hVal (hLen M.1.1) ((chN (xs (3 * q + 1))) - 97))) else M)) := j0
    have ho : Fm (b + 578) = some (.inr (2, 1, fun b9 => .long (g b9))) := (hag9 _ (by omega)).trans ho
    have hod : Fm (b + 579) = some (.inr (3, 1, fun b9 => .double (gd b9))) := (hag9 _ (by omega)).trans hod
    clear j0 hag9
    have hT : ((if 97 ≤ (chN (xs (3 * q + 1))) ∧ (chN (xs (3 * q + 1))) < 105 then 0 else 1)) = 1 := if_neg hcond
    rw [hT] at hD
    have hE : ((if 97 ≤ (chN (xs (3 * q + 1))) ∧ (chN (xs (3 * q + 1))) < 105 then setL M (2 + hLen M.1.1 ((chN (xs (3 * q + 1))) - 97)) (fmC (chN (xs (3 * q + 1))) (hLen M.1.1 ((chN (xs (3 * q + 1))) - 97)) (hVal (hLen M.1.1) ((chN (xs (3 * q + 1))) - 97))) else M)) = M := if_neg hcond
    rw [hE] at hD
    refine x_istore hC d_Law_law_2540 (Nat.le_of_ble_eq_true rfl) (L1 := [some (.ref a), some (.ref b), some (.ref (b + 566)), some (.ref (b + 578)), some (.ref (b + 579)), some (.int (nI (3 * q))), some (.int (nI 1)), some (.int (nI (if 97 ≤ (chN (xs (3 * q + 1))) ∧ (chN (xs (3 * q + 1))) < 105 then 2 + hLen M.1.1 ((chN (xs (3 * q + 1))) - 97) else 0))), none, none]) rfl ?_
    refine x_aload_n hC d_Law_law_2542 rfl rfl ?_
    obtain ⟨fsD, hDo⟩ := xMD_at hD
    refine x_callV hC kv_Law_163 (c_thrownD hD) hDo rfl rfl (Nat.le_of_ble_eq_true rfl) rfl rfl rfl (Nat.le_of_ble_eq_true rfl) ⟨by omega, by omega⟩ d_Law_law_2543 (fun r9 F9 z9 hp9 => ?_)
    obtain ⟨rfl, h9b, h9c⟩ := hp9
    rw [h9b, h9c]
    clear h9b h9c F9 z9
    refine x_iload hC d_Law_law_2546 rfl ?_
    refine x_icmpN_eq hC d_Law_law_2548 (tgt := 2553) (by decide) (by omega) (by omega) (fun c_2548 => ?_) (fun c_2548 => ?_)
    · skip
      refine x_iload hC d_Law_law_2553 rfl ?_
      refine x_ifN_ne hC d_Law_law_2555 (tgt := 2570) (by decide) (by omega) (fun c_2555 => ?_) (fun c_2555 => ?_)
      · skip
        refine x_goto hC d_Law_law_2570 (tgt := 2933) (by decide) ?_
        refine x_forget (L1 := [some (.ref a), some (.ref b), some (.ref (b + 566)), some (.ref (b + 578)), some (.ref (b + 579)), some (.int (nI (3 * q))), none, none, none, none]) ⟨Or.inr rfl, ⟨Or.inr rfl, ⟨Or.inr rfl, ⟨Or.inr rfl, ⟨Or.inr rfl, ⟨Or.inr rfl, ⟨Or.inl rfl, ⟨Or.inl rfl, ⟨Or.inl rfl, ⟨Or.inl rfl, trivial⟩⟩⟩⟩⟩⟩⟩⟩⟩⟩ ?_
        exact kk _ _ _ _ _ _ _ _ hM hD ho hod (lwJ_s hJ) (by omega) (by omega)
      · skip
        exact absurd c_2555 (by omega)
    · skip
      exact absurd c_2548 (by omega)

set_option maxHeartbeats 4000000 in
set_option maxRecDepth 20000 in
theorem lc_53 {P : xP} {Θ : xT} {cm : cmT} {a N b sm rt q : Nat} {xs : Nat → Int32} (E : lwE P Θ cm a N b sm rt xs) {F : xF} {z k n th : Nat} {M : mcS} {g : Nat → Int64} {gd : Nat → UInt64} (hM : xMC F (cm) (b) (M)) (hD : xMD F (b + 566) (th) (M)) (ho : F (b + 578) = some (.inr (2, 1, fun b9 => .long (g b9)))) (hod : F (b + 579) = some (.inr (3, 1, fun b9 => .double (gd b9)))) (hJ : lwJ q M) (hq : 3 * q + 3 ≤ N) (hkn : k + 2 ≤ 603072 ∧ n + 12 ≤ 7207018) (kk : lwK P Θ cm a b q k n) : xX P Θ 2573 [some (.ref (a)), some (.ref (b)), some (.ref (b + 566)), some (.ref (b + 578)), some (.ref (b + 579)), some (.int (nI (3 * q))), none, none, none, none] [] F z k n := by
  obtain ⟨hC, hX, ha, hN, hCM, hSM, hSR, hZx, hNx⟩ := E
  obtain ⟨hI, hS, hpp⟩ := id hJ
  obtain ⟨hk9, hn9⟩ := hkn
  have hu8 : M.2.2.2.2.2.2.2.1 ≤ 8 := hI.2.2.2.1
  have hup0 : M.2.2.2.2.2.2.2.1 ≤ M.2.2.2.2.2.2.1 := hI.2.2.2.2.1
  have hsv0 : M.2.2.2.2.2.1 ≤ 1 := hI.2.2.2.2.2.1
  have hpp0 : M.2.2.2.2.2.2.1 < 100000 := by omega
  have hun0 : M.2.2.2.2.2.2.2.1 < 100000 := by omega
  obtain ⟨hb1, hb2, hb3⟩ := hS.1
  have hnx : M.1.2.2.1.2.1 < 999 := by omega
  have hn0 : M.1.2.2.1.2.1 + 1 < 1000 := by omega
  have hg0 : M.1.2.2.2.2.2.2.1 < 1000 := by omega
  have hf0 : M.1.2.2.2.2.2.2.2.2 < 1000 := by omega
  refine x_aload_n hC d_Law_law_2573 rfl rfl ?_
  refine x_aload_n hC d_Law_law_2574 rfl rfl ?_
  refine x_iload hC d_Law_law_2575 rfl ?_
  refine x_iconst hC d_Law_law_2577 (v := nI 1) (by decide) ?_
  refine x_iadd hC d_Law_law_2578 (v := (nI (3 * q + 1))) (x_addN (by omega)) ?_
  refine x_sld hC hX ha (j := 3 * q + 1) ⟨rfl, by omega, by omega⟩ d_Law_law_2579 ?_
  refine x_aload_n hC d_Law_law_2580 rfl rfl ?_
  refine x_callW hC kw_Law_348 (c_Law_lineChar (hM := hM) (ho := ho) (hZx := hZx) (hNx := hNx) (hbo := Or.inr (by omega))) (Nat.le_of_ble_eq_true rfl) rfl rfl rfl (Nat.le_of_ble_eq_true rfl) ⟨by omega, by omega⟩ d_Law_law_2581 (fun r9 Fw zw hp9 => ?_)
  rcases hp9 with ⟨rfl, hM9, ho9, p_0, hag9⟩ | ⟨rfl, hM9, ho9, hcond, hag9⟩
  · skip
    have hM : xMC Fw (cm) (b) (M) := hM9
    have hD : xMD Fw (b + 566) (th) (M) := xMD_fr hD (fun a9 q1 q2 => hag9 a9 (by omega) (by omega))
    have ho : Fw (b + 578) = some (.inr (2, 1, fun b9 => .long ((vp_updL g 0 (((nI (M.2.2.2.2.1.2 (xs (3 * q + 1)).toNatClampNeg))).toInt64)) b9))) := ho9
    have hod : Fw (b + 579) = some (.inr (3, 1, fun b9 => .double (gd b9))) := (hag9 _ (by omega) (by omega)).trans hod
    clear hM9 ho9 hag9
    refine x_istore hC d_Law_law_2584 (Nat.le_of_ble_eq_true rfl) (L1 := [some (.ref a), some (.ref b), some (.ref (b + 566)), some (.ref (b + 578)), some (.ref (b + 579)), some (.int (nI (3 * q))), some (.int (nI 0)), none, none, none]) rfl ?_
    refine x_aload_n hC d_Law_law_2586 rfl rfl ?_
    refine x_aload_n hC d_Law_law_2587 rfl rfl ?_
    refine x_iload hC d_Law_law_2588 rfl ?_
    refine x_iconst hC d_Law_law_2590 (v := nI 1) (by decide) ?_
    refine x_iadd hC d_Law_law_2591 (v := (nI (3 * q + 1))) (x_addN (by omega)) ?_
    refine x_sld hC hX ha (j := 3 * q + 1) ⟨rfl, by omega, by omega⟩ d_Law_law_2592 ?_
    obtain ⟨fsD, hDo⟩ := xMD_at hD
    refine x_callV hC kv_Law_350 (c_MessageCoderModel_lineChar (hD := hD) (hI := hI)) hDo rfl rfl (Nat.le_of_ble_eq_true rfl) rfl rfl rfl (Nat.le_of_ble_eq_true rfl) ⟨by omega, by omega⟩ d_Law_law_2593 (fun r9 Fm z9 hp9 => ?_)
    obtain ⟨rfl, h9c, j0, hag9⟩ := hp9
    rw [h9c]
    clear h9c z9
    have hM : xMC Fm (cm) (b) (M) := xMC_fr hM (fun a9 q1 q2 => hag9 a9 (by omega))
    have hD : xMD Fm (((b + 566))) ((if 0 ≤ (xs (3 * q + 1)) ∧ (xs (3 * q + 1)) < nI M.2.2.2.2.1.1 then 0 else 1)) (M) := j0
    have ho : Fm (b + 578) = some (.inr (2, 1, fun b9 => .long ((vp_updL g 0 (((nI (M.2.2.2.2.1.2 (xs (3 * q + 1)).toNatClampNeg))).toInt64)) b9))) := (hag9 _ (by omega)).trans ho
    have hod : Fm (b + 579) = some (.inr (3, 1, fun b9 => .double (gd b9))) := (hag9 _ (by omega)).trans hod
    clear j0 hag9
    have hT : ((if 0 ≤ (xs (3 * q + 1)) ∧ (xs (3 * q + 1)) < nI M.2.2.2.2.1.1 then 0 else 1)) = 0 := if_pos p_0
    rw [hT] at hD
    refine x_top (v := (nI (M.2.2.2.2.1.2 (xs (3 * q + 1)).toNatClampNeg))) (congrArg nI (if_pos p_0)) ?_
    refine x_istore hC d_Law_law_2596 (Nat.le_of_ble_eq_true rfl) (L1 := [some (.ref a), some (.ref b), some (.ref (b + 566)), some (.ref (b + 578)), some (.ref (b + 579)), some (.int (nI (3 * q))), some (.int (nI 0)), some (.int (nI (M.2.2.2.2.1.2 (xs (3 * q + 1)).toNatClampNeg))), none, none]) rfl ?_
    refine x_aload_n hC d_Law_law_2598 rfl rfl ?_
    obtain ⟨fsD, hDo⟩ := xMD_at hD
    refine x_callV hC kv_Law_163 (c_thrownD hD) hDo rfl rfl (Nat.le_of_ble_eq_true rfl) rfl rfl rfl (Nat.le_of_ble_eq_true rfl) ⟨by omega, by omega⟩ d_Law_law_2599 (fun r9 F9 z9 hp9 => ?_)
    obtain ⟨rfl, h9b, h9c⟩ := hp9
    rw [h9b, h9c]
    clear h9b h9c F9 z9
    refine x_iload hC d_Law_law_2602 rfl ?_
    refine x_icmpN_eq hC d_Law_law_2604 (tgt := 2609) (by decide) (by omega) (by omega) (fun c_2604 => ?_) (fun c_2604 => ?_)
    · skip
      refine x_iload hC d_Law_law_2609 rfl ?_
      refine x_ifN_ne hC d_Law_law_2611 (tgt := 2626) (by decide) (by omega) (fun c_2611 => ?_) (fun c_2611 => ?_)
      · skip
        exact absurd c_2611 (by omega)
      · skip
        refine x_aload_n hC d_Law_law_2614 rfl rfl ?_
        refine x_iconst hC d_Law_law_2615 (v := nI 0) (by decide) ?_
        refine x_lald hC ho (j := 0) ⟨rfl, by decide, by decide⟩ (x := ((nI (M.2.2.2.2.1.2 (xs (3 * q + 1)).toNatClampNeg))).toInt64) rfl d_Law_law_2616 ?_
        refine x_iload hC d_Law_law_2617 rfl ?_
        refine x_i2l hC d_Law_law_2619 rfl ?_
        refine x_lcmp hC d_Law_law_2620 ?_
        refine x_top (v := nI 0) (lg_self _) ?_
        refine x_ifN_eq hC d_Law_law_2621 (tgt := 2626) (by decide) (by omega) (fun c_2621 => ?_) (fun c_2621 => ?_)
        · skip
          refine x_goto hC d_Law_law_2626 (tgt := 2933) (by decide) ?_
          refine x_forget (L1 := [some (.ref a), some (.ref b), some (.ref (b + 566)), some (.ref (b + 578)), some (.ref (b + 579)), some (.int (nI (3 * q))), none, none, none, none]) ⟨Or.inr rfl, ⟨Or.inr rfl, ⟨Or.inr rfl, ⟨Or.inr rfl, ⟨Or.inr rfl, ⟨Or.inr rfl, ⟨Or.inl rfl, ⟨Or.inl rfl, ⟨Or.inl rfl, ⟨Or.inl rfl, trivial⟩⟩⟩⟩⟩⟩⟩⟩⟩⟩ ?_
          exact kk _ _ _ _ _ _ _ _ hM hD ho hod (lwJ_s hJ) (by omega) (by omega)
        · skip
          exact absurd c_2621 (by omega)
    · skip
      exact absurd c_2604 (by omega)
  · skip
    have hM : xMC Fw (cm) (b) (M) := hM9
    have hD : xMD Fw (b + 566) (th) (M) := xMD_fr hD (fun a9 q1 q2 => hag9 a9 (by omega) (by omega))
    have ho : Fw (b + 578) = some (.inr (2, 1, fun b9 => .long (g b9))) := ho9
    have hod : Fw (b + 579) = some (.inr (3, 1, fun b9 => .double (gd b9))) := (hag9 _ (by omega) (by omega)).trans hod
    clear hM9 ho9 hag9
    refine x_istore hC d_Law_law_2584 (Nat.le_of_ble_eq_true rfl) (L1 := [some (.ref a), some (.ref b), some (.ref (b + 566)), some (.ref (b + 578)), some (.ref (b + 579)), some (.int (nI (3 * q))), some (.int (nI 1)), none, none, none]) rfl ?_
    refine x_aload_n hC d_Law_law_2586 rfl rfl ?_
    refine x_aload_n hC d_Law_law_2587 rfl rfl ?_
    refine x_iload hC d_Law_law_2588 rfl ?_
    refine x_iconst hC d_Law_law_2590 (v := nI 1) (by decide) ?_
    refine x_iadd hC d_Law_law_2591 (v := (nI (3 * q + 1))) (x_addN (by omega)) ?_
    refine x_sld hC hX ha (j := 3 * q + 1) ⟨rfl, by omega, by omega⟩ d_Law_law_2592 ?_
    obtain ⟨fsD, hDo⟩ := xMD_at hD
    refine x_callV hC kv_Law_350 (c_MessageCoderModel_lineChar (hD := hD) (hI := hI)) hDo rfl rfl (Nat.le_of_ble_eq_true rfl) rfl rfl rfl (Nat.le_of_ble_eq_true rfl) ⟨by omega, by omega⟩ d_Law_law_2593 (fun r9 Fm z9 hp9 => ?_)
    obtain ⟨rfl, h9c, j0, hag9⟩ := hp9
    rw [h9c]
    clear h9c z9
    have hM : xMC Fm (cm) (b) (M) := xMC_fr hM (fun a9 q1 q2 => hag9 a9 (by omega))
    have hD : xMD Fm (((b + 566))) ((if 0 ≤ (xs (3 * q + 1)) ∧ (xs (3 * q + 1)) < nI M.2.2.2.2.1.1 then 0 else 1)) (M) := j0
    have ho : Fm (b + 578) = some (.inr (2, 1, fun b9 => .long (g b9))) := (hag9 _ (by omega)).trans ho
    have hod : Fm (b + 579) = some (.inr (3, 1, fun b9 => .double (gd b9))) := (hag9 _ (by omega)).trans hod
    clear j0 hag9
    have hT : ((if 0 ≤ (xs (3 * q + 1)) ∧ (xs (3 * q + 1)) < nI M.2.2.2.2.1.1 then 0 else 1)) = 1 := if_neg hcond
    rw [hT] at hD
    refine x_istore hC d_Law_law_2596 (Nat.le_of_ble_eq_true rfl) (L1 := [some (.ref a), some (.ref b), some (.ref (b + 566)), some (.ref (b + 578)), some (.ref (b + 579)), some (.int (nI (3 * q))), some (.int (nI 1)), some (.int (nI (if 0 ≤ (xs (3 * q + 1)) ∧ (xs (3 * q + 1)) < nI M.2.2.2.2.1.1 then M.2.2.2.2.1.2 (xs (3 * q + 1)).toNatClampNeg else 0))), none, none]) rfl ?_
    refine x_aload_n hC d_Law_law_2598 rfl rfl ?_
    obtain ⟨fsD, hDo⟩ := xMD_at hD
    refine x_callV hC kv_Law_163 (c_thrownD hD) hDo rfl rfl (Nat.le_of_ble_eq_true rfl) rfl rfl rfl (Nat.le_of_ble_eq_true rfl) ⟨by omega, by omega⟩ d_Law_law_2599 (fun r9 F9 z9 hp9 => ?_)
    obtain ⟨rfl, h9b, h9c⟩ := hp9
    rw [h9b, h9c]
    clear h9b h9c F9 z9
    refine x_iload hC d_Law_law_2602 rfl ?_
    refine x_icmpN_eq hC d_Law_law_2604 (tgt := 2609) (by decide) (by omega) (by omega) (fun c_2604 => ?_) (fun c_2604 => ?_)
    · skip
      refine x_iload hC d_Law_law_2609 rfl ?_
      refine x_ifN_ne hC d_Law_law_2611 (tgt := 2626) (by decide) (by omega) (fun c_2611 => ?_) (fun c_2611 => ?_)
      · skip
        refine x_goto hC d_Law_law_2626 (tgt := 2933) (by decide) ?_
        refine x_forget (L1 := [some (.ref a), some (.ref b), some (.ref (b + 566)), some (.ref (b + 578)), some (.ref (b + 579)), some (.int (nI (3 * q))), none, none, none, none]) ⟨Or.inr rfl, ⟨Or.inr rfl, ⟨Or.inr rfl, ⟨Or.inr rfl, ⟨Or.inr rfl, ⟨Or.inr rfl, ⟨Or.inl rfl, ⟨Or.inl rfl, ⟨Or.inl rfl, ⟨Or.inl rfl, trivial⟩⟩⟩⟩⟩⟩⟩⟩⟩⟩ ?_
        exact kk _ _ _ _ _ _ _ _ hM hD ho hod (lwJ_s hJ) (by omega) (by omega)
      · skip
        exact absurd c_2611 (by omega)
    · skip
      exact absurd c_2604 (by omega)

set_option maxHeartbeats 4000000 in
set_option maxRecDepth 20000 in
theorem lc_54 {P : xP} {Θ : xT} {cm : cmT} {a N b sm rt q : Nat} {xs : Nat → Int32} (E : lwE P Θ cm a N b sm rt xs) {F : xF} {z k n th : Nat} {M : mcS} {g : Nat → Int64} {gd : Nat → UInt64} (hM : xMC F (cm) (b) (M)) (hD : xMD F (b + 566) (th) (M)) (ho : F (b + 578) = some (.inr (2, 1, fun b9 => .long (g b9)))) (hod : F (b + 579) = some (.inr (3, 1, fun b9 => .double (gd b9)))) (hJ : lwJ q M) (hq : 3 * q + 3 ≤ N) (hkn : k + 2 ≤ 603072 ∧ n + 12 ≤ 7207018) (kk : lwK P Θ cm a b q k n) : xX P Θ 2629 [some (.ref (a)), some (.ref (b)), some (.ref (b + 566)), some (.ref (b + 578)), some (.ref (b + 579)), some (.int (nI (3 * q))), none, none, none, none] [] F z k n := by
  obtain ⟨hC, hX, ha, hN, hCM, hSM, hSR, hZx, hNx⟩ := E
  obtain ⟨hI, hS, hpp⟩ := id hJ
  obtain ⟨hk9, hn9⟩ := hkn
  have hu8 : M.2.2.2.2.2.2.2.1 ≤ 8 := hI.2.2.2.1
  have hup0 : M.2.2.2.2.2.2.2.1 ≤ M.2.2.2.2.2.2.1 := hI.2.2.2.2.1
  have hsv0 : M.2.2.2.2.2.1 ≤ 1 := hI.2.2.2.2.2.1
  have hpp0 : M.2.2.2.2.2.2.1 < 100000 := by omega
  have hun0 : M.2.2.2.2.2.2.2.1 < 100000 := by omega
  obtain ⟨hb1, hb2, hb3⟩ := hS.1
  have hnx : M.1.2.2.1.2.1 < 999 := by omega
  have hn0 : M.1.2.2.1.2.1 + 1 < 1000 := by omega
  have hg0 : M.1.2.2.2.2.2.2.1 < 1000 := by omega
  have hf0 : M.1.2.2.2.2.2.2.2.2 < 1000 := by omega
  refine x_aload_n hC d_Law_law_2629 rfl rfl ?_
  refine x_aload_n hC d_Law_law_2630 rfl rfl ?_
  refine x_iload hC d_Law_law_2631 rfl ?_
  refine x_iconst hC d_Law_law_2633 (v := nI 1) (by decide) ?_
  refine x_iadd hC d_Law_law_2634 (v := (nI (3 * q + 1))) (x_addN (by omega)) ?_
  refine x_sld hC hX ha (j := 3 * q + 1) ⟨rfl, by omega, by omega⟩ d_Law_law_2635 ?_
  refine x_i2c hC d_Law_law_2636 (v := nI (chN (xs (3 * q + 1)))) (chN_I _) ?_
  refine x_aload_n hC d_Law_law_2637 rfl rfl ?_
  refine x_callW hC kw_Law_351 (c_Law_append (hM := hM) (ho := ho) (hZx := hZx) (hcb := chN_lt _) (hNx := hNx) (hbo := Or.inr (by omega))) (Nat.le_of_ble_eq_true rfl) rfl rfl rfl (Nat.le_of_ble_eq_true rfl) ⟨by omega, by omega⟩ d_Law_law_2638 (fun r9 Fw zw hp9 => ?_)
  rcases hp9 with ⟨rfl, hM9, ho9, p_0, p_1, hag9⟩ | ⟨rfl, hM9, ho9, hcond, hag9⟩ | ⟨rfl, hM9, ho9, hcond, hag9⟩
  · skip
    have hM : xMC Fw (cm) (b) ((setI M (M.2.2.2.1.1 + 1) (updN M.2.2.2.1.2 M.2.2.2.1.1 (chN (xs (3 * q + 1)))))) := hM9
    have hD : xMD Fw (b + 566) (th) (M) := xMD_fr hD (fun a9 q1 q2 => hag9 a9 (by omega) (by omega))
    have ho : Fw (b + 578) = some (.inr (2, 1, fun b9 => .long ((vp_updL g 0 (((nI (M.2.2.2.1.1 + 1))).toInt64)) b9))) := ho9
    have hod : Fw (b + 579) = some (.inr (3, 1, fun b9 => .double (gd b9))) := (hag9 _ (by omega) (by omega)).trans hod
    clear hM9 ho9 hag9
    refine x_istore hC d_Law_law_2641 (Nat.le_of_ble_eq_true rfl) (L1 := [some (.ref a), some (.ref b), some (.ref (b + 566)), some (.ref (b + 578)), some (.ref (b + 579)), some (.int (nI (3 * q))), some (.int (nI 0)), none, none, none]) rfl ?_
    refine x_aload_n hC d_Law_law_2643 rfl rfl ?_
    refine x_aload_n hC d_Law_law_2644 rfl rfl ?_
    refine x_iload hC d_Law_law_2645 rfl ?_
    refine x_iconst hC d_Law_law_2647 (v := nI 1) (by decide) ?_
    refine x_iadd hC d_Law_law_2648 (v := (nI (3 * q + 1))) (x_addN (by omega)) ?_
    refine x_sld hC hX ha (j := 3 * q + 1) ⟨rfl, by omega, by omega⟩ d_Law_law_2649 ?_
    refine x_i2c hC d_Law_law_2650 (v := nI (chN (xs (3 * q + 1)))) (chN_I _) ?_
    obtain ⟨fsD, hDo⟩ := xMD_at hD
    refine x_callV hC kv_Law_353 (c_MessageCoderModel_append (hD := hD) (hI := hI) (hcb := chN_lt _)) hDo rfl rfl (Nat.le_of_ble_eq_true rfl) rfl rfl rfl (Nat.le_of_ble_eq_true rfl) ⟨by omega, by omega⟩ d_Law_law_2651 (fun r9 Fm z9 hp9 => ?_)
    obtain ⟨rfl, h9c, j0, hag9⟩ := hp9
    rw [h9c]
    clear h9c z9
    have hM : xMC Fm (cm) (b) ((setI M (M.2.2.2.1.1 + 1) (updN M.2.2.2.1.2 M.2.2.2.1.1 (chN (xs (3 * q + 1)))))) := xMC_fr hM (fun a9 q1 q2 => hag9 a9 (by omega))
    have hD : xMD Fm (((b + 566))) ((if 32 ≤ (chN (xs (3 * q + 1))) ∧ (chN (xs (3 * q + 1))) ≤ 126 then if M.2.2.2.1.1 < 60 then 0 else 2 else 1)) ((if (32 ≤ (chN (xs (3 * q + 1))) ∧ (chN (xs (3 * q + 1))) ≤ 126) ∧ M.2.2.2.1.1 < 60 then setI M (M.2.2.2.1.1 + 1) (updN M.2.2.2.1.2 M.2.2.2.1.1 (chN (xs (3 * q + 1)))) else M)) := j0
    have ho : Fm (b + 578) = some (.inr (2, 1, fun b9 => .long ((vp_updL g 0 (((nI (M.2.2.2.1.1 + 1))).toInt64)) b9))) := (hag9 _ (by omega)).trans ho
    have hod : Fm (b + 579) = some (.inr (3, 1, fun b9 => .double (gd b9))) := (hag9 _ (by omega)).trans hod
    clear j0 hag9
    have hT : ((if 32 ≤ (chN (xs (3 * q + 1))) ∧ (chN (xs (3 * q + 1))) ≤ 126 then if M.2.2.2.1.1 < 60 then 0 else 2 else 1)) = 0 := (if_pos p_0).trans (if_pos p_1)
    rw [hT] at hD
    have hE : ((if (32 ≤ (chN (xs (3 * q + 1))) ∧ (chN (xs (3 * q + 1))) ≤ 126) ∧ M.2.2.2.1.1 < 60 then setI M (M.2.2.2.1.1 + 1) (updN M.2.2.2.1.2 M.2.2.2.1.1 (chN (xs (3 * q + 1)))) else M)) = (setI M (M.2.2.2.1.1 + 1) (updN M.2.2.2.1.2 M.2.2.2.1.1 (chN (xs (3 * q + 1))))) := if_pos ⟨p_0, p_1⟩
    rw [hE] at hD
    refine x_top (v := (nI (M.2.2.2.1.1 + 1))) (congrArg nI (if_pos ⟨p_0, p_1⟩)) ?_
    refine x_istore hC d_Law_law_2654 (Nat.le_of_ble_eq_true rfl) (L1 := [some (.ref a), some (.ref b), some (.ref (b + 566)), some (.ref (b + 578)), some (.ref (b + 579)), some (.int (nI (3 * q))), some (.int (nI 0)), some (.int (nI (M.2.2.2.1.1 + 1))), none, none]) rfl ?_
    refine x_aload_n hC d_Law_law_2656 rfl rfl ?_
    obtain ⟨fsD, hDo⟩ := xMD_at hD
    refine x_callV hC kv_Law_163 (c_thrownD hD) hDo rfl rfl (Nat.le_of_ble_eq_true rfl) rfl rfl rfl (Nat.le_of_ble_eq_true rfl) ⟨by omega, by omega⟩ d_Law_law_2657 (fun r9 F9 z9 hp9 => ?_)
    obtain ⟨rfl, h9b, h9c⟩ := hp9
    rw [h9b, h9c]
    clear h9b h9c F9 z9
    refine x_iload hC d_Law_law_2660 rfl ?_
    refine x_icmpN_eq hC d_Law_law_2662 (tgt := 2667) (by decide) (by omega) (by omega) (fun c_2662 => ?_) (fun c_2662 => ?_)
    · skip
      refine x_iload hC d_Law_law_2667 rfl ?_
      refine x_ifN_ne hC d_Law_law_2669 (tgt := 2684) (by decide) (by omega) (fun c_2669 => ?_) (fun c_2669 => ?_)
      · skip
        exact absurd c_2669 (by omega)
      · skip
        refine x_aload_n hC d_Law_law_2672 rfl rfl ?_
        refine x_iconst hC d_Law_law_2673 (v := nI 0) (by decide) ?_
        refine x_lald hC ho (j := 0) ⟨rfl, by decide, by decide⟩ (x := ((nI (M.2.2.2.1.1 + 1))).toInt64) rfl d_Law_law_2674 ?_
        refine x_iload hC d_Law_law_2675 rfl ?_
        refine x_i2l hC d_Law_law_2677 rfl ?_
        refine x_lcmp hC d_Law_law_2678 ?_
        refine x_top (v := nI 0) (lg_self _) ?_
        refine x_ifN_eq hC d_Law_law_2679 (tgt := 2684) (by decide) (by omega) (fun c_2679 => ?_) (fun c_2679 => ?_)
        · skip
          refine x_goto hC d_Law_law_2684 (tgt := 2933) (by decide) ?_
          refine x_forget (L1 := [some (.ref a), some (.ref b), some (.ref (b + 566)), some (.ref (b + 578)), some (.ref (b + 579)), some (.int (nI (3 * q))), none, none, none, none]) ⟨Or.inr rfl, ⟨Or.inr rfl, ⟨Or.inr rfl, ⟨Or.inr rfl, ⟨Or.inr rfl, ⟨Or.inr rfl, ⟨Or.inl rfl, ⟨Or.inl rfl, ⟨Or.inl rfl, ⟨Or.inl rfl, trivial⟩⟩⟩⟩⟩⟩⟩⟩⟩⟩ ?_
          exact kk _ _ _ _ _ _ _ _ hM hD ho hod (lwJ_app hJ (chN_lt _) p_1) (by omega) (by omega)
        · skip
          exact absurd c_2679 (by omega)
    · skip
      exact absurd c_2662 (by omega)
  · skip
    have hM : xMC Fw (cm) (b) (M) := hM9
    have hD : xMD Fw (b + 566) (th) (M) := xMD_fr hD (fun a9 q1 q2 => hag9 a9 (by omega) (by omega))
    have ho : Fw (b + 578) = some (.inr (2, 1, fun b9 => .long (g b9))) := ho9
    have hod : Fw (b + 579) = some (.inr (3, 1, fun b9 => .double (gd b9))) := (hag9 _ (by omega) (by omega)).trans hod
    clear hM9 ho9 hag9
    refine x_istore hC d_Law_law_2641 (Nat.le_of_ble_eq_true rfl) (L1 := [some (.ref a), some (.ref b), some (.ref (b + 566)), some (.ref (b + 578)), some (.ref (b + 579)), some (.int (nI (3 * q))), some (.int (nI 1)), none, none, none]) rfl ?_
    refine x_aload_n hC d_Law_law_2643 rfl rfl ?_
    refine x_aload_n hC d_Law_law_2644 rfl rfl ?_
    refine x_iload hC d_Law_law_2645 rfl ?_
    refine x_iconst hC d_Law_law_2647 (v := nI 1) (by decide) ?_
    refine x_iadd hC d_Law_law_2648 (v := (nI (3 * q + 1))) (x_addN (by omega)) ?_
    refine x_sld hC hX ha (j := 3 * q + 1) ⟨rfl, by omega, by omega⟩ d_Law_law_2649 ?_
    refine x_i2c hC d_Law_law_2650 (v := nI (chN (xs (3 * q + 1)))) (chN_I _) ?_
    obtain ⟨fsD, hDo⟩ := xMD_at hD
    refine x_callV hC kv_Law_353 (c_MessageCoderModel_append (hD := hD) (hI := hI) (hcb := chN_lt _)) hDo rfl rfl (Nat.le_of_ble_eq_true rfl) rfl rfl rfl (Nat.le_of_ble_eq_true rfl) ⟨by omega, by omega⟩ d_Law_law_2651 (fun r9 Fm z9 hp9 => ?_)
    obtain ⟨rfl, h9c, j0, hag9⟩ := hp9
    rw [h9c]
    clear h9c z9
    have hM : xMC Fm (cm) (b) (M) := xMC_fr hM (fun a9 q1 q2 => hag9 a9 (by omega))
    have hD : xMD Fm (((b + 566))) ((if 32 ≤ (chN (xs (3 * q + 1))) ∧ (chN (xs (3 * q + 1))) ≤ 126 then if M.2.2.2.1.1 < 60 then 0 else 2 else 1)) ((if (32 ≤ (chN (xs (3 * q + 1))) ∧ (chN (xs (3 * q + 1))) ≤ 126) ∧ M.2.2.2.1.1 < 60 then setI M (M.2.2.2.1.1 + 1) (updN M.2.2.2.1.2 M.2.2.2.1.1 (chN (xs (3 * q + 1)))) else M)) := j0
    have ho : Fm (b + 578) = some (.inr (2, 1, fun b9 => .long (g b9))) := (hag9 _ (by omega)).trans ho
    have hod : Fm (b + 579) = some (.inr (3, 1, fun b9 => .double (gd b9))) := (hag9 _ (by omega)).trans hod
    clear j0 hag9
    have hT : ((if 32 ≤ (chN (xs (3 * q + 1))) ∧ (chN (xs (3 * q + 1))) ≤ 126 then if M.2.2.2.1.1 < 60 then 0 else 2 else 1)) = 1 := if_neg hcond
    rw [hT] at hD
    have hE : ((if (32 ≤ (chN (xs (3 * q + 1))) ∧ (chN (xs (3 * q + 1))) ≤ 126) ∧ M.2.2.2.1.1 < 60 then setI M (M.2.2.2.1.1 + 1) (updN M.2.2.2.1.2 M.2.2.2.1.1 (chN (xs (3 * q + 1)))) else M)) = M := if_neg (fun h9 => hcond h9.1)
    rw [hE] at hD
    refine x_istore hC d_Law_law_2654 (Nat.le_of_ble_eq_true rfl) (L1 := [some (.ref a), some (.ref b), some (.ref (b + 566)), some (.ref (b + 578)), some (.ref (b + 579)), some (.int (nI (3 * q))), some (.int (nI 1)), some (.int (nI (if (32 ≤ (chN (xs (3 * q + 1))) ∧ (chN (xs (3 * q + 1))) ≤ 126) ∧ M.2.2.2.1.1 < 60 then M.2.2.2.1.1 + 1 else 0))), none, none]) rfl ?_
    refine x_aload_n hC d_Law_law_2656 rfl rfl ?_
    obtain ⟨fsD, hDo⟩ := xMD_at hD
    refine x_callV hC kv_Law_163 (c_thrownD hD) hDo rfl rfl (Nat.le_of_ble_eq_true rfl) rfl rfl rfl (Nat.le_of_ble_eq_true rfl) ⟨by omega, by omega⟩ d_Law_law_2657 (fun r9 F9 z9 hp9 => ?_)
    obtain ⟨rfl, h9b, h9c⟩ := hp9
    rw [h9b, h9c]
    clear h9b h9c F9 z9
    refine x_iload hC d_Law_law_2660 rfl ?_
    refine x_icmpN_eq hC d_Law_law_2662 (tgt := 2667) (by decide) (by omega) (by omega) (fun c_2662 => ?_) (fun c_2662 => ?_)
    · skip
      refine x_iload hC d_Law_law_2667 rfl ?_
      refine x_ifN_ne hC d_Law_law_2669 (tgt := 2684) (by decide) (by omega) (fun c_2669 => ?_) (fun c_2669 => ?_)
      · skip
        refine x_goto hC d_Law_law_2684 (tgt := 2933) (by decide) ?_
        refine x_forget (L1 := [some (.ref a), some (.ref b), some (.ref (b + 566)), some (.ref (b + 578)), some (.ref (b + 579)), some (.int (nI (3 * q))), none, none, none, none]) ⟨Or.inr rfl, ⟨Or.inr rfl, ⟨Or.inr rfl, ⟨Or.inr rfl, ⟨Or.inr rfl, ⟨Or.inr rfl, ⟨Or.inl rfl, ⟨Or.inl rfl, ⟨Or.inl rfl, ⟨Or.inl rfl, trivial⟩⟩⟩⟩⟩⟩⟩⟩⟩⟩ ?_
        exact kk _ _ _ _ _ _ _ _ hM hD ho hod (lwJ_s hJ) (by omega) (by omega)
      · skip
        exact absurd c_2669 (by omega)
    · skip
      exact absurd c_2662 (by omega)
  · skip
    have hM : xMC Fw (cm) (b) (M) := hM9
    have hD : xMD Fw (b + 566) (th) (M) := xMD_fr hD (fun a9 q1 q2 => hag9 a9 (by omega) (by omega))
    have ho : Fw (b + 578) = some (.inr (2, 1, fun b9 => .long (g b9))) := ho9
    have hod : Fw (b + 579) = some (.inr (3, 1, fun b9 => .double (gd b9))) := (hag9 _ (by omega) (by omega)).trans hod
    clear hM9 ho9 hag9
    refine x_istore hC d_Law_law_2641 (Nat.le_of_ble_eq_true rfl) (L1 := [some (.ref a), some (.ref b), some (.ref (b + 566)), some (.ref (b + 578)), some (.ref (b + 579)), some (.int (nI (3 * q))), some (.int (nI 2)), none, none, none]) rfl ?_
    refine x_aload_n hC d_Law_law_2643 rfl rfl ?_
    refine x_aload_n hC d_Law_law_2644 rfl rfl ?_
    refine x_iload hC d_Law_law_2645 rfl ?_
    refine x_iconst hC d_Law_law_2647 (v := nI 1) (by decide) ?_
    refine x_iadd hC d_Law_law_2648 (v := (nI (3 * q + 1))) (x_addN (by omega)) ?_
    refine x_sld hC hX ha (j := 3 * q + 1) ⟨rfl, by omega, by omega⟩ d_Law_law_2649 ?_
    refine x_i2c hC d_Law_law_2650 (v := nI (chN (xs (3 * q + 1)))) (chN_I _) ?_
    obtain ⟨fsD, hDo⟩ := xMD_at hD
    refine x_callV hC kv_Law_353 (c_MessageCoderModel_append (hD := hD) (hI := hI) (hcb := chN_lt _)) hDo rfl rfl (Nat.le_of_ble_eq_true rfl) rfl rfl rfl (Nat.le_of_ble_eq_true rfl) ⟨by omega, by omega⟩ d_Law_law_2651 (fun r9 Fm z9 hp9 => ?_)
    obtain ⟨rfl, h9c, j0, hag9⟩ := hp9
    rw [h9c]
    clear h9c z9
    have hM : xMC Fm (cm) (b) (M) := xMC_fr hM (fun a9 q1 q2 => hag9 a9 (by omega))
    have hD : xMD Fm (((b + 566))) ((if 32 ≤ (chN (xs (3 * q + 1))) ∧ (chN (xs (3 * q + 1))) ≤ 126 then if M.2.2.2.1.1 < 60 then 0 else 2 else 1)) ((if (32 ≤ (chN (xs (3 * q + 1))) ∧ (chN (xs (3 * q + 1))) ≤ 126) ∧ M.2.2.2.1.1 < 60 then setI M (M.2.2.2.1.1 + 1) (updN M.2.2.2.1.2 M.2.2.2.1.1 (chN (xs (3 * q + 1)))) else M)) := j0
    have ho : Fm (b + 578) = some (.inr (2, 1, fun b9 => .long (g b9))) := (hag9 _ (by omega)).trans ho
    have hod : Fm (b + 579) = some (.inr (3, 1, fun b9 => .double (gd b9))) := (hag9 _ (by omega)).trans hod
    clear j0 hag9
    have hT : ((if 32 ≤ (chN (xs (3 * q + 1))) ∧ (chN (xs (3 * q + 1))) ≤ 126 then if M.2.2.2.1.1 < 60 then 0 else 2 else 1)) = 2 := (if_pos hcond.1).trans (if_neg hcond.2)
    rw [hT] at hD
    have hE : ((if (32 ≤ (chN (xs (3 * q + 1))) ∧ (chN (xs (3 * q + 1))) ≤ 126) ∧ M.2.2.2.1.1 < 60 then setI M (M.2.2.2.1.1 + 1) (updN M.2.2.2.1.2 M.2.2.2.1.1 (chN (xs (3 * q + 1)))) else M)) = M := if_neg (fun h9 => hcond.2 h9.2)
    rw [hE] at hD
    refine x_istore hC d_Law_law_2654 (Nat.le_of_ble_eq_true rfl) (L1 := [some (.ref a), some (.ref b), some (.ref (b + 566)), some (.ref (b + 578)), some (.ref (b + 579)), some (.int (nI (3 * q))), some (.int (nI 2)), some (.int (nI (if (32 ≤ (chN (xs (3 * q + 1))) ∧ (chN (xs (3 * q + 1))) ≤ 126) ∧ M.2.2.2.1.1 < 60 then M.2.2.2.1.1 + 1 else 0))), none, none]) rfl ?_
    refine x_aload_n hC d_Law_law_2656 rfl rfl ?_
    obtain ⟨fsD, hDo⟩ := xMD_at hD
    refine x_callV hC kv_Law_163 (c_thrownD hD) hDo rfl rfl (Nat.le_of_ble_eq_true rfl) rfl rfl rfl (Nat.le_of_ble_eq_true rfl) ⟨by omega, by omega⟩ d_Law_law_2657 (fun r9 F9 z9 hp9 => ?_)
    obtain ⟨rfl, h9b, h9c⟩ := hp9
    rw [h9b, h9c]
    clear h9b h9c F9 z9
    refine x_iload hC d_Law_law_2660 rfl ?_
    refine x_icmpN_eq hC d_Law_law_2662 (tgt := 2667) (by decide) (by omega) (by omega) (fun c_2662 => ?_) (fun c_2662 => ?_)
    · skip
      refine x_iload hC d_Law_law_2667 rfl ?_
      refine x_ifN_ne hC d_Law_law_2669 (tgt := 2684) (by decide) (by omega) (fun c_2669 => ?_) (fun c_2669 => ?_)
      · skip
        refine x_goto hC d_Law_law_2684 (tgt := 2933) (by decide) ?_
        refine x_forget (L1 := [some (.ref a), some (.ref b), some (.ref (b + 566)), some (.ref (b + 578)), some (.ref (b + 579)), some (.int (nI (3 * q))), none, none, none, none]) ⟨Or.inr rfl, ⟨Or.inr rfl, ⟨Or.inr rfl, ⟨Or.inr rfl, ⟨Or.inr rfl, ⟨Or.inr rfl, ⟨Or.inl rfl, ⟨Or.inl rfl, ⟨Or.inl rfl, ⟨Or.inl rfl, trivial⟩⟩⟩⟩⟩⟩⟩⟩⟩⟩ ?_
        exact kk _ _ _ _ _ _ _ _ hM hD ho hod (lwJ_s hJ) (by omega) (by omega)
      · skip
        exact absurd c_2669 (by omega)
    · skip
      exact absurd c_2662 (by omega)

set_option maxHeartbeats 4000000 in
set_option maxRecDepth 20000 in
theorem lc_55 {P : xP} {Θ : xT} {cm : cmT} {a N b sm rt q : Nat} {xs : Nat → Int32} (E : lwE P Θ cm a N b sm rt xs) {F : xF} {z k n th : Nat} {M : mcS} {g : Nat → Int64} {gd : Nat → UInt64} (hM : xMC F (cm) (b) (M)) (hD : xMD F (b + 566) (th) (M)) (ho : F (b + 578) = some (.inr (2, 1, fun b9 => .long (g b9)))) (hod : F (b + 579) = some (.inr (3, 1, fun b9 => .double (gd b9)))) (hJ : lwJ q M) (hq : 3 * q + 3 ≤ N) (hkn : k + 2 ≤ 603072 ∧ n + 12 ≤ 7207018) (kk : lwK P Θ cm a b q k n) : xX P Θ 2687 [some (.ref (a)), some (.ref (b)), some (.ref (b + 566)), some (.ref (b + 578)), some (.ref (b + 579)), some (.int (nI (3 * q))), none, none, none, none] [] F z k n := by
  obtain ⟨hC, hX, ha, hN, hCM, hSM, hSR, hZx, hNx⟩ := E
  obtain ⟨hI, hS, hpp⟩ := id hJ
  obtain ⟨hk9, hn9⟩ := hkn
  have hu8 : M.2.2.2.2.2.2.2.1 ≤ 8 := hI.2.2.2.1
  have hup0 : M.2.2.2.2.2.2.2.1 ≤ M.2.2.2.2.2.2.1 := hI.2.2.2.2.1
  have hsv0 : M.2.2.2.2.2.1 ≤ 1 := hI.2.2.2.2.2.1
  have hpp0 : M.2.2.2.2.2.2.1 < 100000 := by omega
  have hun0 : M.2.2.2.2.2.2.2.1 < 100000 := by omega
  obtain ⟨hb1, hb2, hb3⟩ := hS.1
  have hnx : M.1.2.2.1.2.1 < 999 := by omega
  have hn0 : M.1.2.2.1.2.1 + 1 < 1000 := by omega
  have hg0 : M.1.2.2.2.2.2.2.1 < 1000 := by omega
  have hf0 : M.1.2.2.2.2.2.2.2.2 < 1000 := by omega
  obtain ⟨R, hR⟩ : ∃ R, rdS M.2.2.2.1.1 M.2.2.2.1.2 60 = R := ⟨_, rfl⟩
  obtain ⟨hRd, hKn0, hKt⟩ := lw_run hJ (by omega) hR
  refine x_aload_n hC d_Law_law_2687 rfl rfl ?_
  refine x_aload_n hC d_Law_law_2688 rfl rfl ?_
  refine x_callW hC kw_Law_354 (c_Law_run (hM := hM) (ho := ho) (hZx := hZx) (hCM := hCM) (hSM := hSM) (hpp0 := hpp0) (hun0 := hun0) (hR0 := hR) (hRd := hRd) (hKn0 := hKn0) (hNx := hNx) (hbo := Or.inr (by omega)) (R := R)) (Nat.le_of_ble_eq_true rfl) rfl rfl rfl (Nat.le_of_ble_eq_true rfl) ⟨by omega, by omega⟩ d_Law_law_2689 (fun r9 Fw zw hp9 => ?_)
  rcases hp9 with ⟨rfl, hM9, ho9, p_0, p_1, hag9⟩ | ⟨rfl, hM9, ho9, hcond, hag9⟩ | ⟨rfl, hM9, ho9, hcond, hag9⟩
  · skip
    have hM : xMC Fw (cm) (b) ((runO M R)) := hM9
    have hD : xMD Fw (b + 566) (th) (M) := xMD_fr hD (fun a9 q1 q2 => hag9 a9 (by omega) (by omega))
    have ho : Fw (b + 578) = some (.inr (2, 1, fun b9 => .long ((vp_updL g 0 (((nI (R.2.2.2))).toInt64)) b9))) := ho9
    have hod : Fw (b + 579) = some (.inr (3, 1, fun b9 => .double (gd b9))) := (hag9 _ (by omega) (by omega)).trans hod
    clear hM9 ho9 hag9
    refine x_istore hC d_Law_law_2692 (Nat.le_of_ble_eq_true rfl) (L1 := [some (.ref a), some (.ref b), some (.ref (b + 566)), some (.ref (b + 578)), some (.ref (b + 579)), some (.int (nI (3 * q))), some (.int (nI 0)), none, none, none]) rfl ?_
    refine x_aload_n hC d_Law_law_2694 rfl rfl ?_
    obtain ⟨fsD, hDo⟩ := xMD_at hD
    refine x_callV hC kv_Law_356 (c_MessageCoderModel_run (hD := hD) (hI := hI) (hR0 := hR) (hKn0 := hKn0) (R := R)) hDo rfl rfl (Nat.le_of_ble_eq_true rfl) rfl rfl rfl (Nat.le_of_ble_eq_true rfl) ⟨by omega, by omega⟩ d_Law_law_2695 (fun r9 Fm z9 hp9 => ?_)
    obtain ⟨rfl, h9c, j0, hag9⟩ := hp9
    rw [h9c]
    clear h9c z9
    have hM : xMC Fm (cm) (b) ((runO M R)) := xMC_fr hM (fun a9 q1 q2 => hag9 a9 (by omega))
    have hD : xMD Fm (((b + 566))) ((if R.1 = 1 then if (prgS R.2.2.1 M.1 R.2.2.1.1).1 = true then 0 else 2 else 1)) ((if R.1 = 1 then runO M R else runE M R)) := j0
    have ho : Fm (b + 578) = some (.inr (2, 1, fun b9 => .long ((vp_updL g 0 (((nI (R.2.2.2))).toInt64)) b9))) := (hag9 _ (by omega)).trans ho
    have hod : Fm (b + 579) = some (.inr (3, 1, fun b9 => .double (gd b9))) := (hag9 _ (by omega)).trans hod
    clear j0 hag9
    have hT : ((if R.1 = 1 then if (prgS R.2.2.1 M.1 R.2.2.1.1).1 = true then 0 else 2 else 1)) = 0 := (if_pos p_0).trans (if_pos p_1)
    rw [hT] at hD
    have hE : ((if R.1 = 1 then runO M R else runE M R)) = runO M R := if_pos p_0
    rw [hE] at hD
    refine x_top (v := (nI (R.2.2.2))) (congrArg nI ((if_pos p_0).trans (if_pos p_1))) ?_
    refine x_istore hC d_Law_law_2698 (Nat.le_of_ble_eq_true rfl) (L1 := [some (.ref a), some (.ref b), some (.ref (b + 566)), some (.ref (b + 578)), some (.ref (b + 579)), some (.int (nI (3 * q))), some (.int (nI 0)), some (.int (nI (R.2.2.2))), none, none]) rfl ?_
    refine x_aload_n hC d_Law_law_2700 rfl rfl ?_
    obtain ⟨fsD, hDo⟩ := xMD_at hD
    refine x_callV hC kv_Law_163 (c_thrownD hD) hDo rfl rfl (Nat.le_of_ble_eq_true rfl) rfl rfl rfl (Nat.le_of_ble_eq_true rfl) ⟨by omega, by omega⟩ d_Law_law_2701 (fun r9 F9 z9 hp9 => ?_)
    obtain ⟨rfl, h9b, h9c⟩ := hp9
    rw [h9b, h9c]
    clear h9b h9c F9 z9
    refine x_iload hC d_Law_law_2704 rfl ?_
    refine x_icmpN_eq hC d_Law_law_2706 (tgt := 2711) (by decide) (by omega) (by omega) (fun c_2706 => ?_) (fun c_2706 => ?_)
    · skip
      refine x_iload hC d_Law_law_2711 rfl ?_
      refine x_ifN_ne hC d_Law_law_2713 (tgt := 2728) (by decide) (by omega) (fun c_2713 => ?_) (fun c_2713 => ?_)
      · skip
        exact absurd c_2713 (by omega)
      · skip
        refine x_aload_n hC d_Law_law_2716 rfl rfl ?_
        refine x_iconst hC d_Law_law_2717 (v := nI 0) (by decide) ?_
        refine x_lald hC ho (j := 0) ⟨rfl, by decide, by decide⟩ (x := ((nI (R.2.2.2))).toInt64) rfl d_Law_law_2718 ?_
        refine x_iload hC d_Law_law_2719 rfl ?_
        refine x_i2l hC d_Law_law_2721 rfl ?_
        refine x_lcmp hC d_Law_law_2722 ?_
        refine x_top (v := nI 0) (lg_self _) ?_
        refine x_ifN_eq hC d_Law_law_2723 (tgt := 2728) (by decide) (by omega) (fun c_2723 => ?_) (fun c_2723 => ?_)
        · skip
          refine x_goto hC d_Law_law_2728 (tgt := 2933) (by decide) ?_
          refine x_forget (L1 := [some (.ref a), some (.ref b), some (.ref (b + 566)), some (.ref (b + 578)), some (.ref (b + 579)), some (.int (nI (3 * q))), none, none, none, none]) ⟨Or.inr rfl, ⟨Or.inr rfl, ⟨Or.inr rfl, ⟨Or.inr rfl, ⟨Or.inr rfl, ⟨Or.inr rfl, ⟨Or.inl rfl, ⟨Or.inl rfl, ⟨Or.inl rfl, ⟨Or.inl rfl, trivial⟩⟩⟩⟩⟩⟩⟩⟩⟩⟩ ?_
          exact kk _ _ _ _ _ _ _ _ hM hD ho hod (lwJ_runO hJ hKt (by omega)) (by omega) (by omega)
        · skip
          exact absurd c_2723 (by omega)
    · skip
      exact absurd c_2706 (by omega)
  · skip
    have hM : xMC Fw (cm) (b) ((runE M R)) := hM9
    have hD : xMD Fw (b + 566) (th) (M) := xMD_fr hD (fun a9 q1 q2 => hag9 a9 (by omega) (by omega))
    have ho : Fw (b + 578) = some (.inr (2, 1, fun b9 => .long (g b9))) := ho9
    have hod : Fw (b + 579) = some (.inr (3, 1, fun b9 => .double (gd b9))) := (hag9 _ (by omega) (by omega)).trans hod
    clear hM9 ho9 hag9
    refine x_istore hC d_Law_law_2692 (Nat.le_of_ble_eq_true rfl) (L1 := [some (.ref a), some (.ref b), some (.ref (b + 566)), some (.ref (b + 578)), some (.ref (b + 579)), some (.int (nI (3 * q))), some (.int (nI 1)), none, none, none]) rfl ?_
    refine x_aload_n hC d_Law_law_2694 rfl rfl ?_
    obtain ⟨fsD, hDo⟩ := xMD_at hD
    refine x_callV hC kv_Law_356 (c_MessageCoderModel_run (hD := hD) (hI := hI) (hR0 := hR) (hKn0 := hKn0) (R := R)) hDo rfl rfl (Nat.le_of_ble_eq_true rfl) rfl rfl rfl (Nat.le_of_ble_eq_true rfl) ⟨by omega, by omega⟩ d_Law_law_2695 (fun r9 Fm z9 hp9 => ?_)
    obtain ⟨rfl, h9c, j0, hag9⟩ := hp9
    rw [h9c]
    clear h9c z9
    have hM : xMC Fm (cm) (b) ((runE M R)) := xMC_fr hM (fun a9 q1 q2 => hag9 a9 (by omega))
    have hD : xMD Fm (((b + 566))) ((if R.1 = 1 then if (prgS R.2.2.1 M.1 R.2.2.1.1).1 = true then 0 else 2 else 1)) ((if R.1 = 1 then runO M R else runE M R)) := j0
    have ho : Fm (b + 578) = some (.inr (2, 1, fun b9 => .long (g b9))) := (hag9 _ (by omega)).trans ho
    have hod : Fm (b + 579) = some (.inr (3, 1, fun b9 => .double (gd b9))) := (hag9 _ (by omega)).trans hod
    clear j0 hag9
    have hT : ((if R.1 = 1 then if (prgS R.2.2.1 M.1 R.2.2.1.1).1 = true then 0 else 2 else 1)) = 1 := if_neg hcond
    rw [hT] at hD
    have hE : ((if R.1 = 1 then runO M R else runE M R)) = runE M R := if_neg hcond
    rw [hE] at hD
    refine x_istore hC d_Law_law_2698 (Nat.le_of_ble_eq_true rfl) (L1 := [some (.ref a), some (.ref b), some (.ref (b + 566)), some (.ref (b + 578)), some (.ref (b + 579)), some (.int (nI (3 * q))), some (.int (nI 1)), some (.int (nI (if R.1 = 1 then if (prgS R.2.2.1 M.1 R.2.2.1.1).1 = true then R.2.2.2 else 0 else 0))), none, none]) rfl ?_
    refine x_aload_n hC d_Law_law_2700 rfl rfl ?_
    obtain ⟨fsD, hDo⟩ := xMD_at hD
    refine x_callV hC kv_Law_163 (c_thrownD hD) hDo rfl rfl (Nat.le_of_ble_eq_true rfl) rfl rfl rfl (Nat.le_of_ble_eq_true rfl) ⟨by omega, by omega⟩ d_Law_law_2701 (fun r9 F9 z9 hp9 => ?_)
    obtain ⟨rfl, h9b, h9c⟩ := hp9
    rw [h9b, h9c]
    clear h9b h9c F9 z9
    refine x_iload hC d_Law_law_2704 rfl ?_
    refine x_icmpN_eq hC d_Law_law_2706 (tgt := 2711) (by decide) (by omega) (by omega) (fun c_2706 => ?_) (fun c_2706 => ?_)
    · skip
      refine x_iload hC d_Law_law_2711 rfl ?_
      refine x_ifN_ne hC d_Law_law_2713 (tgt := 2728) (by decide) (by omega) (fun c_2713 => ?_) (fun c_2713 => ?_)
      · skip
        refine x_goto hC d_Law_law_2728 (tgt := 2933) (by decide) ?_
        refine x_forget (L1 := [some (.ref a), some (.ref b), some (.ref (b + 566)), some (.ref (b + 578)), some (.ref (b + 579)), some (.int (nI (3 * q))), none, none, none, none]) ⟨Or.inr rfl, ⟨Or.inr rfl, ⟨Or.inr rfl, ⟨Or.inr rfl, ⟨Or.inr rfl, ⟨Or.inr rfl, ⟨Or.inl rfl, ⟨Or.inl rfl, ⟨Or.inl rfl, ⟨Or.inl rfl, trivial⟩⟩⟩⟩⟩⟩⟩⟩⟩⟩ ?_
        exact kk _ _ _ _ _ _ _ _ hM hD ho hod (lwJ_runE hJ R) (by omega) (by omega)
      · skip
        exact absurd c_2713 (by omega)
    · skip
      exact absurd c_2706 (by omega)
  · skip
    have hM : xMC Fw (cm) (b) ((runO M R)) := hM9
    have hD : xMD Fw (b + 566) (th) (M) := xMD_fr hD (fun a9 q1 q2 => hag9 a9 (by omega) (by omega))
    have ho : Fw (b + 578) = some (.inr (2, 1, fun b9 => .long (g b9))) := ho9
    have hod : Fw (b + 579) = some (.inr (3, 1, fun b9 => .double (gd b9))) := (hag9 _ (by omega) (by omega)).trans hod
    clear hM9 ho9 hag9
    refine x_istore hC d_Law_law_2692 (Nat.le_of_ble_eq_true rfl) (L1 := [some (.ref a), some (.ref b), some (.ref (b + 566)), some (.ref (b + 578)), some (.ref (b + 579)), some (.int (nI (3 * q))), some (.int (nI 2)), none, none, none]) rfl ?_
    refine x_aload_n hC d_Law_law_2694 rfl rfl ?_
    obtain ⟨fsD, hDo⟩ := xMD_at hD
    refine x_callV hC kv_Law_356 (c_MessageCoderModel_run (hD := hD) (hI := hI) (hR0 := hR) (hKn0 := hKn0) (R := R)) hDo rfl rfl (Nat.le_of_ble_eq_true rfl) rfl rfl rfl (Nat.le_of_ble_eq_true rfl) ⟨by omega, by omega⟩ d_Law_law_2695 (fun r9 Fm z9 hp9 => ?_)
    obtain ⟨rfl, h9c, j0, hag9⟩ := hp9
    rw [h9c]
    clear h9c z9
    have hM : xMC Fm (cm) (b) ((runO M R)) := xMC_fr hM (fun a9 q1 q2 => hag9 a9 (by omega))
    have hD : xMD Fm (((b + 566))) ((if R.1 = 1 then if (prgS R.2.2.1 M.1 R.2.2.1.1).1 = true then 0 else 2 else 1)) ((if R.1 = 1 then runO M R else runE M R)) := j0
    have ho : Fm (b + 578) = some (.inr (2, 1, fun b9 => .long (g b9))) := (hag9 _ (by omega)).trans ho
    have hod : Fm (b + 579) = some (.inr (3, 1, fun b9 => .double (gd b9))) := (hag9 _ (by omega)).trans hod
    clear j0 hag9
    have hT : ((if R.1 = 1 then if (prgS R.2.2.1 M.1 R.2.2.1.1).1 = true then 0 else 2 else 1)) = 2 := (if_pos hcond.1).trans (if_neg hcond.2)
    rw [hT] at hD
    have hE : ((if R.1 = 1 then runO M R else runE M R)) = runO M R := if_pos hcond.1
    rw [hE] at hD
    refine x_istore hC d_Law_law_2698 (Nat.le_of_ble_eq_true rfl) (L1 := [some (.ref a), some (.ref b), some (.ref (b + 566)), some (.ref (b + 578)), some (.ref (b + 579)), some (.int (nI (3 * q))), some (.int (nI 2)), some (.int (nI (if R.1 = 1 then if (prgS R.2.2.1 M.1 R.2.2.1.1).1 = true then R.2.2.2 else 0 else 0))), none, none]) rfl ?_
    refine x_aload_n hC d_Law_law_2700 rfl rfl ?_
    obtain ⟨fsD, hDo⟩ := xMD_at hD
    refine x_callV hC kv_Law_163 (c_thrownD hD) hDo rfl rfl (Nat.le_of_ble_eq_true rfl) rfl rfl rfl (Nat.le_of_ble_eq_true rfl) ⟨by omega, by omega⟩ d_Law_law_2701 (fun r9 F9 z9 hp9 => ?_)
    obtain ⟨rfl, h9b, h9c⟩ := hp9
    rw [h9b, h9c]
    clear h9b h9c F9 z9
    refine x_iload hC d_Law_law_2704 rfl ?_
    refine x_icmpN_eq hC d_Law_law_2706 (tgt := 2711) (by decide) (by omega) (by omega) (fun c_2706 => ?_) (fun c_2706 => ?_)
    · skip
      refine x_iload hC d_Law_law_2711 rfl ?_
      refine x_ifN_ne hC d_Law_law_2713 (tgt := 2728) (by decide) (by omega) (fun c_2713 => ?_) (fun c_2713 => ?_)
      · skip
        refine x_goto hC d_Law_law_2728 (tgt := 2933) (by decide) ?_
        refine x_forget (L1 := [some (.ref a), some (.ref b), some (.ref (b + 566)), some (.ref (b + 578)), some (.ref (b + 579)), some (.int (nI (3 * q))), none, none, none, none]) ⟨Or.inr rfl, ⟨Or.inr rfl, ⟨Or.inr rfl, ⟨Or.inr rfl, ⟨Or.inr rfl, ⟨Or.inr rfl, ⟨Or.inl rfl, ⟨Or.inl rfl, ⟨Or.inl rfl, ⟨Or.inl rfl, trivial⟩⟩⟩⟩⟩⟩⟩⟩⟩⟩ ?_
        exact kk _ _ _ _ _ _ _ _ hM hD ho hod (lwJ_runO hJ hKt (by omega)) (by omega) (by omega)
      · skip
        exact absurd c_2713 (by omega)
    · skip
      exact absurd c_2706 (by omega)

set_option maxHeartbeats 4000000 in
set_option maxRecDepth 20000 in
theorem lc_56 {P : xP} {Θ : xT} {cm : cmT} {a N b sm rt q : Nat} {xs : Nat → Int32} (E : lwE P Θ cm a N b sm rt xs) {F : xF} {z k n th : Nat} {M : mcS} {g : Nat → Int64} {gd : Nat → UInt64} (hM : xMC F (cm) (b) (M)) (hD : xMD F (b + 566) (th) (M)) (ho : F (b + 578) = some (.inr (2, 1, fun b9 => .long (g b9)))) (hod : F (b + 579) = some (.inr (3, 1, fun b9 => .double (gd b9)))) (hJ : lwJ q M) (hq : 3 * q + 3 ≤ N) (hkn : k + 2 ≤ 603072 ∧ n + 12 ≤ 7207018) (kk : lwK P Θ cm a b q k n) : xX P Θ 2731 [some (.ref (a)), some (.ref (b)), some (.ref (b + 566)), some (.ref (b + 578)), some (.ref (b + 579)), some (.int (nI (3 * q))), none, none, none, none] [] F z k n := by
  obtain ⟨hC, hX, ha, hN, hCM, hSM, hSR, hZx, hNx⟩ := E
  obtain ⟨hI, hS, hpp⟩ := id hJ
  obtain ⟨hk9, hn9⟩ := hkn
  have hu8 : M.2.2.2.2.2.2.2.1 ≤ 8 := hI.2.2.2.1
  have hup0 : M.2.2.2.2.2.2.2.1 ≤ M.2.2.2.2.2.2.1 := hI.2.2.2.2.1
  have hsv0 : M.2.2.2.2.2.1 ≤ 1 := hI.2.2.2.2.2.1
  have hpp0 : M.2.2.2.2.2.2.1 < 100000 := by omega
  have hun0 : M.2.2.2.2.2.2.2.1 < 100000 := by omega
  obtain ⟨hb1, hb2, hb3⟩ := hS.1
  have hnx : M.1.2.2.1.2.1 < 999 := by omega
  have hn0 : M.1.2.2.1.2.1 + 1 < 1000 := by omega
  have hg0 : M.1.2.2.2.2.2.2.1 < 1000 := by omega
  have hf0 : M.1.2.2.2.2.2.2.2.2 < 1000 := by omega
  refine x_aload_n hC d_Law_law_2731 rfl rfl ?_
  refine x_aload_n hC d_Law_law_2732 rfl rfl ?_
  refine x_callW hC kw_Law_357 (c_Law_errorPosition (hM := hM) (ho := ho) (hZx := hZx) (hNx := hNx) (hbo := Or.inr (by omega))) (Nat.le_of_ble_eq_true rfl) rfl rfl rfl (Nat.le_of_ble_eq_true rfl) ⟨by omega, by omega⟩ d_Law_law_2733 (fun r9 Fw zw hp9 => ?_)
  rcases hp9 with ⟨rfl, hM9, ho9, p_0, hag9⟩ | ⟨rfl, hM9, ho9, hcond, hag9⟩
  · skip
    have hM : xMC Fw (cm) (b) (M) := hM9
    have hD : xMD Fw (b + 566) (th) (M) := xMD_fr hD (fun a9 q1 q2 => hag9 a9 (by omega) (by omega))
    have ho : Fw (b + 578) = some (.inr (2, 1, fun b9 => .long ((vp_updL g 0 (((M.2.2.2.2.2.2.2.2.1)).toInt64)) b9))) := ho9
    have hod : Fw (b + 579) = some (.inr (3, 1, fun b9 => .double (gd b9))) := (hag9 _ (by omega) (by omega)).trans hod
    clear hM9 ho9 hag9
    refine x_istore hC d_Law_law_2736 (Nat.le_of_ble_eq_true rfl) (L1 := [some (.ref a), some (.ref b), some (.ref (b + 566)), some (.ref (b + 578)), some (.ref (b + 579)), some (.int (nI (3 * q))), some (.int (nI 0)), none, none, none]) rfl ?_
    refine x_aload_n hC d_Law_law_2738 rfl rfl ?_
    obtain ⟨fsD, hDo⟩ := xMD_at hD
    refine x_callV hC kv_Law_359 (c_MessageCoderModel_errorPosition (hD := hD) (hI := hI)) hDo rfl rfl (Nat.le_of_ble_eq_true rfl) rfl rfl rfl (Nat.le_of_ble_eq_true rfl) ⟨by omega, by omega⟩ d_Law_law_2739 (fun r9 Fm z9 hp9 => ?_)
    obtain ⟨rfl, h9c, j0, hag9⟩ := hp9
    rw [h9c]
    clear h9c z9
    have hM : xMC Fm (cm) (b) (M) := xMC_fr hM (fun a9 q1 q2 => hag9 a9 (by omega))
    have hD : xMD Fm (((b + 566))) ((if ¬ M.2.2.2.2.2.2.2.2.1 = -1 then 0 else 1)) (M) := j0
    have ho : Fm (b + 578) = some (.inr (2, 1, fun b9 => .long ((vp_updL g 0 (((M.2.2.2.2.2.2.2.2.1)).toInt64)) b9))) := (hag9 _ (by omega)).trans ho
    have hod : Fm (b + 579) = some (.inr (3, 1, fun b9 => .double (gd b9))) := (hag9 _ (by omega)).trans hod
    clear j0 hag9
    have hT : ((if ¬ M.2.2.2.2.2.2.2.2.1 = -1 then 0 else 1)) = 0 := if_pos p_0
    rw [hT] at hD
    refine x_top (v := (M.2.2.2.2.2.2.2.2.1)) (if_pos p_0) ?_
    refine x_istore hC d_Law_law_2742 (Nat.le_of_ble_eq_true rfl) (L1 := [some (.ref a), some (.ref b), some (.ref (b + 566)), some (.ref (b + 578)), some (.ref (b + 579)), some (.int (nI (3 * q))), some (.int (nI 0)), some (.int (M.2.2.2.2.2.2.2.2.1)), none, none]) rfl ?_
    refine x_aload_n hC d_Law_law_2744 rfl rfl ?_
    obtain ⟨fsD, hDo⟩ := xMD_at hD
    refine x_callV hC kv_Law_163 (c_thrownD hD) hDo rfl rfl (Nat.le_of_ble_eq_true rfl) rfl rfl rfl (Nat.le_of_ble_eq_true rfl) ⟨by omega, by omega⟩ d_Law_law_2745 (fun r9 F9 z9 hp9 => ?_)
    obtain ⟨rfl, h9b, h9c⟩ := hp9
    rw [h9b, h9c]
    clear h9b h9c F9 z9
    refine x_iload hC d_Law_law_2748 rfl ?_
    refine x_icmpN_eq hC d_Law_law_2750 (tgt := 2755) (by decide) (by omega) (by omega) (fun c_2750 => ?_) (fun c_2750 => ?_)
    · skip
      refine x_iload hC d_Law_law_2755 rfl ?_
      refine x_ifN_ne hC d_Law_law_2757 (tgt := 2772) (by decide) (by omega) (fun c_2757 => ?_) (fun c_2757 => ?_)
      · skip
        exact absurd c_2757 (by omega)
      · skip
        refine x_aload_n hC d_Law_law_2760 rfl rfl ?_
        refine x_iconst hC d_Law_law_2761 (v := nI 0) (by decide) ?_
        refine x_lald hC ho (j := 0) ⟨rfl, by decide, by decide⟩ (x := ((M.2.2.2.2.2.2.2.2.1)).toInt64) rfl d_Law_law_2762 ?_
        refine x_iload hC d_Law_law_2763 rfl ?_
        refine x_i2l hC d_Law_law_2765 rfl ?_
        refine x_lcmp hC d_Law_law_2766 ?_
        refine x_top (v := nI 0) (lg_self _) ?_
        refine x_ifN_eq hC d_Law_law_2767 (tgt := 2772) (by decide) (by omega) (fun c_2767 => ?_) (fun c_2767 => ?_)
        · skip
          refine x_goto hC d_Law_law_2772 (tgt := 2933) (by decide) ?_
          refine x_forget (L1 := [some (.ref a), some (.ref b), some (.ref (b + 566)), some (.ref (b + 578)), some (.ref (b + 579)), some (.int (nI (3 * q))), none, none, none, none]) ⟨Or.inr rfl, ⟨Or.inr rfl, ⟨Or.inr rfl, ⟨Or.inr rfl, ⟨Or.inr rfl, ⟨Or.inr rfl, ⟨Or.inl rfl, ⟨Or.inl rfl, ⟨Or.inl rfl, ⟨Or.inl rfl, trivial⟩⟩⟩⟩⟩⟩⟩⟩⟩⟩ ?_
          exact kk _ _ _ _ _ _ _ _ hM hD ho hod (lwJ_s hJ) (by omega) (by omega)
        · skip
          exact absurd c_2767 (by omega)
    · skip
      exact absurd c_2750 (by omega)
  · skip
    have hM : xMC Fw (cm) (b) (M) := hM9
    have hD : xMD Fw (b + 566) (th) (M) := xMD_fr hD (fun a9 q1 q2 => hag9 a9 (by omega) (by omega))
    have ho : Fw (b + 578) = some (.inr (2, 1, fun b9 => .long (g b9))) := ho9
    have hod : Fw (b + 579) = some (.inr (3, 1, fun b9 => .double (gd b9))) := (hag9 _ (by omega) (by omega)).trans hod
    clear hM9 ho9 hag9
    refine x_istore hC d_Law_law_2736 (Nat.le_of_ble_eq_true rfl) (L1 := [some (.ref a), some (.ref b), some (.ref (b + 566)), some (.ref (b + 578)), some (.ref (b + 579)), some (.int (nI (3 * q))), some (.int (nI 1)), none, none, none]) rfl ?_
    refine x_aload_n hC d_Law_law_2738 rfl rfl ?_
    obtain ⟨fsD, hDo⟩ := xMD_at hD
    refine x_callV hC kv_Law_359 (c_MessageCoderModel_errorPosition (hD := hD) (hI := hI)) hDo rfl rfl (Nat.le_of_ble_eq_true rfl) rfl rfl rfl (Nat.le_of_ble_eq_true rfl) ⟨by omega, by omega⟩ d_Law_law_2739 (fun r9 Fm z9 hp9 => ?_)
    obtain ⟨rfl, h9c, j0, hag9⟩ := hp9
    rw [h9c]
    clear h9c z9
    have hM : xMC Fm (cm) (b) (M) := xMC_fr hM (fun a9 q1 q2 => hag9 a9 (by omega))
    have hD : xMD Fm (((b + 566))) ((if ¬ M.2.2.2.2.2.2.2.2.1 = -1 then 0 else 1)) (M) := j0
    have ho : Fm (b + 578) = some (.inr (2, 1, fun b9 => .long (g b9))) := (hag9 _ (by omega)).trans ho
    have hod : Fm (b + 579) = some (.inr (3, 1, fun b9 => .double (gd b9))) := (hag9 _ (by omega)).trans hod
    clear j0 hag9
    have hT : ((if ¬ M.2.2.2.2.2.2.2.2.1 = -1 then 0 else 1)) = 1 := if_neg (fun h9 => h9 hcond)
    rw [hT] at hD
    refine x_istore hC d_Law_law_2742 (Nat.le_of_ble_eq_true rfl) (L1 := [some (.ref a), some (.ref b), some (.ref (b + 566)), some (.ref (b + 578)), some (.ref (b + 579)), some (.int (nI (3 * q))), some (.int (nI 1)), some (.int (if ¬ M.2.2.2.2.2.2.2.2.1 = -1 then M.2.2.2.2.2.2.2.2.1 else nI 0)), none, none]) rfl ?_
    refine x_aload_n hC d_Law_law_2744 rfl rfl ?_
    obtain ⟨fsD, hDo⟩ := xMD_at hD
    refine x_callV hC kv_Law_163 (c_thrownD hD) hDo rfl rfl (Nat.le_of_ble_eq_true rfl) rfl rfl rfl (Nat.le_of_ble_eq_true rfl) ⟨by omega, by omega⟩ d_Law_law_2745 (fun r9 F9 z9 hp9 => ?_)
    obtain ⟨rfl, h9b, h9c⟩ := hp9
    rw [h9b, h9c]
    clear h9b h9c F9 z9
    refine x_iload hC d_Law_law_2748 rfl ?_
    refine x_icmpN_eq hC d_Law_law_2750 (tgt := 2755) (by decide) (by omega) (by omega) (fun c_2750 => ?_) (fun c_2750 => ?_)
    · skip
      refine x_iload hC d_Law_law_2755 rfl ?_
      refine x_ifN_ne hC d_Law_law_2757 (tgt := 2772) (by decide) (by omega) (fun c_2757 => ?_) (fun c_2757 => ?_)
      · skip
        refine x_goto hC d_Law_law_2772 (tgt := 2933) (by decide) ?_
        refine x_forget (L1 := [some (.ref a), some (.ref b), some (.ref (b + 566)), some (.ref (b + 578)), some (.ref (b + 579)), some (.int (nI (3 * q))), none, none, none, none]) ⟨Or.inr rfl, ⟨Or.inr rfl, ⟨Or.inr rfl, ⟨Or.inr rfl, ⟨Or.inr rfl, ⟨Or.inr rfl, ⟨Or.inl rfl, ⟨Or.inl rfl, ⟨Or.inl rfl, ⟨Or.inl rfl, trivial⟩⟩⟩⟩⟩⟩⟩⟩⟩⟩ ?_
        exact kk _ _ _ _ _ _ _ _ hM hD ho hod (lwJ_s hJ) (by omega) (by omega)
      · skip
        exact absurd c_2757 (by omega)
    · skip
      exact absurd c_2750 (by omega)

set_option maxHeartbeats 4000000 in
set_option maxRecDepth 20000 in
theorem lc_57 {P : xP} {Θ : xT} {cm : cmT} {a N b sm rt q : Nat} {xs : Nat → Int32} (E : lwE P Θ cm a N b sm rt xs) {F : xF} {z k n th : Nat} {M : mcS} {g : Nat → Int64} {gd : Nat → UInt64} (hM : xMC F (cm) (b) (M)) (hD : xMD F (b + 566) (th) (M)) (ho : F (b + 578) = some (.inr (2, 1, fun b9 => .long (g b9)))) (hod : F (b + 579) = some (.inr (3, 1, fun b9 => .double (gd b9)))) (hJ : lwJ q M) (hq : 3 * q + 3 ≤ N) (hkn : k + 2 ≤ 603072 ∧ n + 12 ≤ 7207018) (kk : lwK P Θ cm a b q k n) : xX P Θ 2775 [some (.ref (a)), some (.ref (b)), some (.ref (b + 566)), some (.ref (b + 578)), some (.ref (b + 579)), some (.int (nI (3 * q))), none, none, none, none] [] F z k n := by
  obtain ⟨hC, hX, ha, hN, hCM, hSM, hSR, hZx, hNx⟩ := E
  obtain ⟨hI, hS, hpp⟩ := id hJ
  obtain ⟨hk9, hn9⟩ := hkn
  have hu8 : M.2.2.2.2.2.2.2.1 ≤ 8 := hI.2.2.2.1
  have hup0 : M.2.2.2.2.2.2.2.1 ≤ M.2.2.2.2.2.2.1 := hI.2.2.2.2.1
  have hsv0 : M.2.2.2.2.2.1 ≤ 1 := hI.2.2.2.2.2.1
  have hpp0 : M.2.2.2.2.2.2.1 < 100000 := by omega
  have hun0 : M.2.2.2.2.2.2.2.1 < 100000 := by omega
  obtain ⟨hb1, hb2, hb3⟩ := hS.1
  have hnx : M.1.2.2.1.2.1 < 999 := by omega
  have hn0 : M.1.2.2.1.2.1 + 1 < 1000 := by omega
  have hg0 : M.1.2.2.2.2.2.2.1 < 1000 := by omega
  have hf0 : M.1.2.2.2.2.2.2.2.2 < 1000 := by omega
  refine x_aload_n hC d_Law_law_2775 rfl rfl ?_
  refine x_aload_n hC d_Law_law_2776 rfl rfl ?_
  refine x_callW hC kw_Law_360 (c_Law_failedCommand (hM := hM) (ho := ho) (hZx := hZx) (hNx := hNx) (hbo := Or.inr (by omega))) (Nat.le_of_ble_eq_true rfl) rfl rfl rfl (Nat.le_of_ble_eq_true rfl) ⟨by omega, by omega⟩ d_Law_law_2777 (fun r9 Fw zw hp9 => ?_)
  rcases hp9 with ⟨rfl, hM9, ho9, p_0, hag9⟩ | ⟨rfl, hM9, ho9, hcond, hag9⟩
  · skip
    have hM : xMC Fw (cm) (b) (M) := hM9
    have hD : xMD Fw (b + 566) (th) (M) := xMD_fr hD (fun a9 q1 q2 => hag9 a9 (by omega) (by omega))
    have ho : Fw (b + 578) = some (.inr (2, 1, fun b9 => .long ((vp_updL g 0 (((M.2.2.2.2.2.2.2.2.2)).toInt64)) b9))) := ho9
    have hod : Fw (b + 579) = some (.inr (3, 1, fun b9 => .double (gd b9))) := (hag9 _ (by omega) (by omega)).trans hod
    clear hM9 ho9 hag9
    refine x_istore hC d_Law_law_2780 (Nat.le_of_ble_eq_true rfl) (L1 := [some (.ref a), some (.ref b), some (.ref (b + 566)), some (.ref (b + 578)), some (.ref (b + 579)), some (.int (nI (3 * q))), some (.int (nI 0)), none, none, none]) rfl ?_
    refine x_aload_n hC d_Law_law_2782 rfl rfl ?_
    obtain ⟨fsD, hDo⟩ := xMD_at hD
    refine x_callV hC kv_Law_362 (c_MessageCoderModel_failedCommand (hD := hD) (hI := hI)) hDo rfl rfl (Nat.le_of_ble_eq_true rfl) rfl rfl rfl (Nat.le_of_ble_eq_true rfl) ⟨by omega, by omega⟩ d_Law_law_2783 (fun r9 Fm z9 hp9 => ?_)
    obtain ⟨rfl, h9c, j0, hag9⟩ := hp9
    rw [h9c]
    clear h9c z9
    have hM : xMC Fm (cm) (b) (M) := xMC_fr hM (fun a9 q1 q2 => hag9 a9 (by omega))
    have hD : xMD Fm (((b + 566))) ((if ¬ M.2.2.2.2.2.2.2.2.2 = -1 then 0 else 1)) (M) := j0
    have ho : Fm (b + 578) = some (.inr (2, 1, fun b9 => .long ((vp_updL g 0 (((M.2.2.2.2.2.2.2.2.2)).toInt64)) b9))) := (hag9 _ (by omega)).trans ho
    have hod : Fm (b + 579) = some (.inr (3, 1, fun b9 => .double (gd b9))) := (hag9 _ (by omega)).trans hod
    clear j0 hag9
    have hT : ((if ¬ M.2.2.2.2.2.2.2.2.2 = -1 then 0 else 1)) = 0 := if_pos p_0
    rw [hT] at hD
    refine x_top (v := (M.2.2.2.2.2.2.2.2.2)) (if_pos p_0) ?_
    refine x_istore hC d_Law_law_2786 (Nat.le_of_ble_eq_true rfl) (L1 := [some (.ref a), some (.ref b), some (.ref (b + 566)), some (.ref (b + 578)), some (.ref (b + 579)), some (.int (nI (3 * q))), some (.int (nI 0)), some (.int (M.2.2.2.2.2.2.2.2.2)), none, none]) rfl ?_
    refine x_aload_n hC d_Law_law_2788 rfl rfl ?_
    obtain ⟨fsD, hDo⟩ := xMD_at hD
    refine x_callV hC kv_Law_163 (c_thrownD hD) hDo rfl rfl (Nat.le_of_ble_eq_true rfl) rfl rfl rfl (Nat.le_of_ble_eq_true rfl) ⟨by omega, by omega⟩ d_Law_law_2789 (fun r9 F9 z9 hp9 => ?_)
    obtain ⟨rfl, h9b, h9c⟩ := hp9
    rw [h9b, h9c]
    clear h9b h9c F9 z9
    refine x_iload hC d_Law_law_2792 rfl ?_
    refine x_icmpN_eq hC d_Law_law_2794 (tgt := 2799) (by decide) (by omega) (by omega) (fun c_2794 => ?_) (fun c_2794 => ?_)
    · skip
      refine x_iload hC d_Law_law_2799 rfl ?_
      refine x_ifN_ne hC d_Law_law_2801 (tgt := 2816) (by decide) (by omega) (fun c_2801 => ?_) (fun c_2801 => ?_)
      · skip
        exact absurd c_2801 (by omega)
      · skip
        refine x_aload_n hC d_Law_law_2804 rfl rfl ?_
        refine x_iconst hC d_Law_law_2805 (v := nI 0) (by decide) ?_
        refine x_lald hC ho (j := 0) ⟨rfl, by decide, by decide⟩ (x := ((M.2.2.2.2.2.2.2.2.2)).toInt64) rfl d_Law_law_2806 ?_
        refine x_iload hC d_Law_law_2807 rfl ?_
        refine x_i2l hC d_Law_law_2809 rfl ?_
        refine x_lcmp hC d_Law_law_2810 ?_
        refine x_top (v := nI 0) (lg_self _) ?_
        refine x_ifN_eq hC d_Law_law_2811 (tgt := 2816) (by decide) (by omega) (fun c_2811 => ?_) (fun c_2811 => ?_)
        · skip
          refine x_goto hC d_Law_law_2816 (tgt := 2933) (by decide) ?_
          refine x_forget (L1 := [some (.ref a), some (.ref b), some (.ref (b + 566)), some (.ref (b + 578)), some (.ref (b + 579)), some (.int (nI (3 * q))), none, none, none, none]) ⟨Or.inr rfl, ⟨Or.inr rfl, ⟨Or.inr rfl, ⟨Or.inr rfl, ⟨Or.inr rfl, ⟨Or.inr rfl, ⟨Or.inl rfl, ⟨Or.inl rfl, ⟨Or.inl rfl, ⟨Or.inl rfl, trivial⟩⟩⟩⟩⟩⟩⟩⟩⟩⟩ ?_
          exact kk _ _ _ _ _ _ _ _ hM hD ho hod (lwJ_s hJ) (by omega) (by omega)
        · skip
          exact absurd c_2811 (by omega)
    · skip
      exact absurd c_2794 (by omega)
  · skip
    have hM : xMC Fw (cm) (b) (M) := hM9
    have hD : xMD Fw (b + 566) (th) (M) := xMD_fr hD (fun a9 q1 q2 => hag9 a9 (by omega) (by omega))
    have ho : Fw (b + 578) = some (.inr (2, 1, fun b9 => .long (g b9))) := ho9
    have hod : Fw (b + 579) = some (.inr (3, 1, fun b9 => .double (gd b9))) := (hag9 _ (by omega) (by omega)).trans hod
    clear hM9 ho9 hag9
    refine x_istore hC d_Law_law_2780 (Nat.le_of_ble_eq_true rfl) (L1 := [some (.ref a), some (.ref b), some (.ref (b + 566)), some (.ref (b + 578)), some (.ref (b + 579)), some (.int (nI (3 * q))), some (.int (nI 1)), none, none, none]) rfl ?_
    refine x_aload_n hC d_Law_law_2782 rfl rfl ?_
    obtain ⟨fsD, hDo⟩ := xMD_at hD
    refine x_callV hC kv_Law_362 (c_MessageCoderModel_failedCommand (hD := hD) (hI := hI)) hDo rfl rfl (Nat.le_of_ble_eq_true rfl) rfl rfl rfl (Nat.le_of_ble_eq_true rfl) ⟨by omega, by omega⟩ d_Law_law_2783 (fun r9 Fm z9 hp9 => ?_)
    obtain ⟨rfl, h9c, j0, hag9⟩ := hp9
    rw [h9c]
    clear h9c z9
    have hM : xMC Fm (cm) (b) (M) := xMC_fr hM (fun a9 q1 q2 => hag9 a9 (by omega))
    have hD : xMD Fm (((b + 566))) ((if ¬ M.2.2.2.2.2.2.2.2.2 = -1 then 0 else 1)) (M) := j0
    have ho : Fm (b + 578) = some (.inr (2, 1, fun b9 => .long (g b9))) := (hag9 _ (by omega)).trans ho
    have hod : Fm (b + 579) = some (.inr (3, 1, fun b9 => .double (gd b9))) := (hag9 _ (by omega)).trans hod
    clear j0 hag9
    have hT : ((if ¬ M.2.2.2.2.2.2.2.2.2 = -1 then 0 else 1)) = 1 := if_neg (fun h9 => h9 hcond)
    rw [hT] at hD
    refine x_istore hC d_Law_law_2786 (Nat.le_of_ble_eq_true rfl) (L1 := [some (.ref a), some (.ref b), some (.ref (b + 566)), some (.ref (b + 578)), some (.ref (b + 579)), some (.int (nI (3 * q))), some (.int (nI 1)), some (.int (if ¬ M.2.2.2.2.2.2.2.2.2 = -1 then M.2.2.2.2.2.2.2.2.2 else nI 0)), none, none]) rfl ?_
    refine x_aload_n hC d_Law_law_2788 rfl rfl ?_
    obtain ⟨fsD, hDo⟩ := xMD_at hD
    refine x_callV hC kv_Law_163 (c_thrownD hD) hDo rfl rfl (Nat.le_of_ble_eq_true rfl) rfl rfl rfl (Nat.le_of_ble_eq_true rfl) ⟨by omega, by omega⟩ d_Law_law_2789 (fun r9 F9 z9 hp9 => ?_)
    obtain ⟨rfl, h9b, h9c⟩ := hp9
    rw [h9b, h9c]
    clear h9b h9c F9 z9
    refine x_iload hC d_Law_law_2792 rfl ?_
    refine x_icmpN_eq hC d_Law_law_2794 (tgt := 2799) (by decide) (by omega) (by omega) (fun c_2794 => ?_) (fun c_2794 => ?_)
    · skip
      refine x_iload hC d_Law_law_2799 rfl ?_
      refine x_ifN_ne hC d_Law_law_2801 (tgt := 2816) (by decide) (by omega) (fun c_2801 => ?_) (fun c_2801 => ?_)
      · skip
        refine x_goto hC d_Law_law_2816 (tgt := 2933) (by decide) ?_
        refine x_forget (L1 := [some (.ref a), some (.ref b), some (.ref (b + 566)), some (.ref (b + 578)), some (.ref (b + 579)), some (.int (nI (3 * q))), none, none, none, none]) ⟨Or.inr rfl, ⟨Or.inr rfl, ⟨Or.inr rfl, ⟨Or.inr rfl, ⟨Or.inr rfl, ⟨Or.inr rfl, ⟨Or.inl rfl, ⟨Or.inl rfl, ⟨Or.inl rfl, ⟨Or.inl rfl, trivial⟩⟩⟩⟩⟩⟩⟩⟩⟩⟩ ?_
        exact kk _ _ _ _ _ _ _ _ hM hD ho hod (lwJ_s hJ) (by omega) (by omega)
      · skip
        exact absurd c_2801 (by omega)
    · skip
      exact absurd c_2794 (by omega)

set_option maxHeartbeats 4000000 in
set_option maxRecDepth 20000 in
theorem lc_58 {P : xP} {Θ : xT} {cm : cmT} {a N b sm rt q : Nat} {xs : Nat → Int32} (E : lwE P Θ cm a N b sm rt xs) {F : xF} {z k n th : Nat} {M : mcS} {g : Nat → Int64} {gd : Nat → UInt64} (hM : xMC F (cm) (b) (M)) (hD : xMD F (b + 566) (th) (M)) (ho : F (b + 578) = some (.inr (2, 1, fun b9 => .long (g b9)))) (hod : F (b + 579) = some (.inr (3, 1, fun b9 => .double (gd b9)))) (hJ : lwJ q M) (hq : 3 * q + 3 ≤ N) (hkn : k + 2 ≤ 603072 ∧ n + 12 ≤ 7207018) (kk : lwK P Θ cm a b q k n) : xX P Θ 2819 [some (.ref (a)), some (.ref (b)), some (.ref (b + 566)), some (.ref (b + 578)), some (.ref (b + 579)), some (.int (nI (3 * q))), none, none, none, none] [] F z k n := by
  obtain ⟨hC, hX, ha, hN, hCM, hSM, hSR, hZx, hNx⟩ := E
  obtain ⟨hI, hS, hpp⟩ := id hJ
  obtain ⟨hk9, hn9⟩ := hkn
  have hu8 : M.2.2.2.2.2.2.2.1 ≤ 8 := hI.2.2.2.1
  have hup0 : M.2.2.2.2.2.2.2.1 ≤ M.2.2.2.2.2.2.1 := hI.2.2.2.2.1
  have hsv0 : M.2.2.2.2.2.1 ≤ 1 := hI.2.2.2.2.2.1
  have hpp0 : M.2.2.2.2.2.2.1 < 100000 := by omega
  have hun0 : M.2.2.2.2.2.2.2.1 < 100000 := by omega
  obtain ⟨hb1, hb2, hb3⟩ := hS.1
  have hnx : M.1.2.2.1.2.1 < 999 := by omega
  have hn0 : M.1.2.2.1.2.1 + 1 < 1000 := by omega
  have hg0 : M.1.2.2.2.2.2.2.1 < 1000 := by omega
  have hf0 : M.1.2.2.2.2.2.2.2.2 < 1000 := by omega
  refine x_aload_n hC d_Law_law_2819 rfl rfl ?_
  obtain ⟨hMo, -⟩ := id hM
  refine x_callV hC kv_Law_363 (c_MessageCoder_undoableCount (hM := hM) ) hMo rfl rfl (Nat.le_of_ble_eq_true rfl) rfl rfl rfl (Nat.le_of_ble_eq_true rfl) ⟨by omega, by omega⟩ d_Law_law_2820 (fun r9 Fc z9 hp9 => ?_)
  obtain ⟨rfl, h9b, h9c⟩ := hp9
  rw [h9b, h9c]
  clear h9b h9c Fc z9
  refine x_aload_n hC d_Law_law_2823 rfl rfl ?_
  obtain ⟨fsD, hDo⟩ := xMD_at hD
  refine x_callV hC kv_Law_366 (c_MessageCoderModel_undoableCount (hD := hD) (hI := hI)) hDo rfl rfl (Nat.le_of_ble_eq_true rfl) rfl rfl rfl (Nat.le_of_ble_eq_true rfl) ⟨by omega, by omega⟩ d_Law_law_2824 (fun r9 Fm z9 hp9 => ?_)
  obtain ⟨rfl, h9c, j0, hag9⟩ := hp9
  rw [h9c]
  clear h9c z9
  have hM : xMC Fm (cm) (b) (M) := xMC_fr hM (fun a9 q1 q2 => hag9 a9 (by omega))
  have hD : xMD Fm (((b + 566))) (0) (M) := j0
  have ho : Fm (b + 578) = some (.inr (2, 1, fun b9 => .long (g b9))) := (hag9 _ (by omega)).trans ho
  have hod : Fm (b + 579) = some (.inr (3, 1, fun b9 => .double (gd b9))) := (hag9 _ (by omega)).trans hod
  clear j0 hag9
  refine x_icmp_eq hC d_Law_law_2827 (tgt := 2933) (by decide) (fun c_2827 => ?_) (fun c_2827 => ?_)
  · skip
    exact kk _ _ _ _ _ _ _ _ hM hD ho hod (lwJ_s hJ) (by omega) (by omega)
  · exact absurd rfl c_2827

set_option maxHeartbeats 4000000 in
set_option maxRecDepth 20000 in
theorem lc_59 {P : xP} {Θ : xT} {cm : cmT} {a N b sm rt q : Nat} {xs : Nat → Int32} (E : lwE P Θ cm a N b sm rt xs) {F : xF} {z k n th : Nat} {M : mcS} {g : Nat → Int64} {gd : Nat → UInt64} (hM : xMC F (cm) (b) (M)) (hD : xMD F (b + 566) (th) (M)) (ho : F (b + 578) = some (.inr (2, 1, fun b9 => .long (g b9)))) (hod : F (b + 579) = some (.inr (3, 1, fun b9 => .double (gd b9)))) (hJ : lwJ q M) (hq : 3 * q + 3 ≤ N) (hkn : k + 2 ≤ 603072 ∧ n + 12 ≤ 7207018) (kk : lwK P Θ cm a b q k n) : xX P Θ 2832 [some (.ref (a)), some (.ref (b)), some (.ref (b + 566)), some (.ref (b + 578)), some (.ref (b + 579)), some (.int (nI (3 * q))), none, none, none, none] [] F z k n := by
  obtain ⟨hC, hX, ha, hN, hCM, hSM, hSR, hZx, hNx⟩ := E
  obtain ⟨hI, hS, hpp⟩ := id hJ
  obtain ⟨hk9, hn9⟩ := hkn
  have hu8 : M.2.2.2.2.2.2.2.1 ≤ 8 := hI.2.2.2.1
  have hup0 : M.2.2.2.2.2.2.2.1 ≤ M.2.2.2.2.2.2.1 := hI.2.2.2.2.1
  have hsv0 : M.2.2.2.2.2.1 ≤ 1 := hI.2.2.2.2.2.1
  have hpp0 : M.2.2.2.2.2.2.1 < 100000 := by omega
  have hun0 : M.2.2.2.2.2.2.2.1 < 100000 := by omega
  obtain ⟨hb1, hb2, hb3⟩ := hS.1
  have hnx : M.1.2.2.1.2.1 < 999 := by omega
  have hn0 : M.1.2.2.1.2.1 + 1 < 1000 := by omega
  have hg0 : M.1.2.2.2.2.2.2.1 < 1000 := by omega
  have hf0 : M.1.2.2.2.2.2.2.2.2 < 1000 := by omega
  refine x_aload_n hC d_Law_law_2832 rfl rfl ?_
  refine x_aload_n hC d_Law_law_2833 rfl rfl ?_
  refine x_callW hC kw_Law_367 (c_Law_undo (hM := hM) (ho := ho) (hZx := hZx) (hpp0 := hpp0) (hun0 := hun0) (hup0 := hup0) (hNx := hNx) (hbo := Or.inr (by omega))) (Nat.le_of_ble_eq_true rfl) rfl rfl rfl (Nat.le_of_ble_eq_true rfl) ⟨by omega, by omega⟩ d_Law_law_2834 (fun r9 Fw zw hp9 => ?_)
  rcases hp9 with ⟨rfl, hM9, ho9, p_0, hag9⟩ | ⟨rfl, hM9, ho9, hcond, hag9⟩
  · skip
    have hM : xMC Fw (cm) (b) ((undM M)) := hM9
    have hD : xMD Fw (b + 566) (th) (M) := xMD_fr hD (fun a9 q1 q2 => hag9 a9 (by omega) (by omega))
    have ho : Fw (b + 578) = some (.inr (2, 1, fun b9 => .long ((vp_updL g 0 (((nI (M.2.2.2.2.2.2.2.1 - 1))).toInt64)) b9))) := ho9
    have hod : Fw (b + 579) = some (.inr (3, 1, fun b9 => .double (gd b9))) := (hag9 _ (by omega) (by omega)).trans hod
    clear hM9 ho9 hag9
    refine x_istore hC d_Law_law_2837 (Nat.le_of_ble_eq_true rfl) (L1 := [some (.ref a), some (.ref b), some (.ref (b + 566)), some (.ref (b + 578)), some (.ref (b + 579)), some (.int (nI (3 * q))), some (.int (nI 0)), none, none, none]) rfl ?_
    refine x_aload_n hC d_Law_law_2839 rfl rfl ?_
    obtain ⟨fsD, hDo⟩ := xMD_at hD
    refine x_callV hC kv_Law_369 (c_MessageCoderModel_undo (hD := hD) (hI := hI)) hDo rfl rfl (Nat.le_of_ble_eq_true rfl) rfl rfl rfl (Nat.le_of_ble_eq_true rfl) ⟨by omega, by omega⟩ d_Law_law_2840 (fun r9 Fm z9 hp9 => ?_)
    obtain ⟨rfl, h9c, j0, hag9⟩ := hp9
    rw [h9c]
    clear h9c z9
    have hM : xMC Fm (cm) (b) ((undM M)) := xMC_fr hM (fun a9 q1 q2 => hag9 a9 (by omega))
    have hD : xMD Fm (((b + 566))) ((if 0 < M.2.2.2.2.2.2.2.1 then 0 else 1)) ((if 0 < M.2.2.2.2.2.2.2.1 then undM M else M)) := j0
    have ho : Fm (b + 578) = some (.inr (2, 1, fun b9 => .long ((vp_updL g 0 (((nI (M.2.2.2.2.2.2.2.1 - 1))).toInt64)) b9))) := (hag9 _ (by omega)).trans ho
    have hod : Fm (b + 579) = some (.inr (3, 1, fun b9 => .double (gd b9))) := (hag9 _ (by omega)).trans hod
    clear j0 hag9
    have hT : ((if 0 < M.2.2.2.2.2.2.2.1 then 0 else 1)) = 0 := if_pos p_0
    rw [hT] at hD
    have hE : ((if 0 < M.2.2.2.2.2.2.2.1 then undM M else M)) = (undM M) := if_pos p_0
    rw [hE] at hD
    refine x_istore hC d_Law_law_2843 (Nat.le_of_ble_eq_true rfl) (L1 := [some (.ref a), some (.ref b), some (.ref (b + 566)), some (.ref (b + 578)), some (.ref (b + 579)), some (.int (nI (3 * q))), some (.int (nI 0)), some (.int (nI (M.2.2.2.2.2.2.2.1 - 1))), none, none]) rfl ?_
    refine x_aload_n hC d_Law_law_2845 rfl rfl ?_
    obtain ⟨fsD, hDo⟩ := xMD_at hD
    refine x_callV hC kv_Law_163 (c_thrownD hD) hDo rfl rfl (Nat.le_of_ble_eq_true rfl) rfl rfl rfl (Nat.le_of_ble_eq_true rfl) ⟨by omega, by omega⟩ d_Law_law_2846 (fun r9 F9 z9 hp9 => ?_)
    obtain ⟨rfl, h9b, h9c⟩ := hp9
    rw [h9b, h9c]
    clear h9b h9c F9 z9
    refine x_iload hC d_Law_law_2849 rfl ?_
    refine x_icmpN_eq hC d_Law_law_2851 (tgt := 2856) (by decide) (by omega) (by omega) (fun c_2851 => ?_) (fun c_2851 => ?_)
    · skip
      refine x_iload hC d_Law_law_2856 rfl ?_
      refine x_ifN_ne hC d_Law_law_2858 (tgt := 2873) (by decide) (by omega) (fun c_2858 => ?_) (fun c_2858 => ?_)
      · skip
        exact absurd c_2858 (by omega)
      · skip
        refine x_aload_n hC d_Law_law_2861 rfl rfl ?_
        refine x_iconst hC d_Law_law_2862 (v := nI 0) (by decide) ?_
        refine x_lald hC ho (j := 0) ⟨rfl, by decide, by decide⟩ (x := ((nI (M.2.2.2.2.2.2.2.1 - 1))).toInt64) rfl d_Law_law_2863 ?_
        refine x_iload hC d_Law_law_2864 rfl ?_
        refine x_i2l hC d_Law_law_2866 rfl ?_
        refine x_lcmp hC d_Law_law_2867 ?_
        refine x_top (v := nI 0) (lg_self _) ?_
        refine x_ifN_eq hC d_Law_law_2868 (tgt := 2873) (by decide) (by omega) (fun c_2868 => ?_) (fun c_2868 => ?_)
        · skip
          refine x_goto hC d_Law_law_2873 (tgt := 2933) (by decide) ?_
          refine x_forget (L1 := [some (.ref a), some (.ref b), some (.ref (b + 566)), some (.ref (b + 578)), some (.ref (b + 579)), some (.int (nI (3 * q))), none, none, none, none]) ⟨Or.inr rfl, ⟨Or.inr rfl, ⟨Or.inr rfl, ⟨Or.inr rfl, ⟨Or.inr rfl, ⟨Or.inr rfl, ⟨Or.inl rfl, ⟨Or.inl rfl, ⟨Or.inl rfl, ⟨Or.inl rfl, trivial⟩⟩⟩⟩⟩⟩⟩⟩⟩⟩ ?_
          exact kk _ _ _ _ _ _ _ _ hM hD ho hod (lwJ_und hJ p_0) (by omega) (by omega)
        · skip
          exact absurd c_2868 (by omega)
    · skip
      exact absurd c_2851 (by omega)
  · skip
    have hM : xMC Fw (cm) (b) (M) := hM9
    have hD : xMD Fw (b + 566) (th) (M) := xMD_fr hD (fun a9 q1 q2 => hag9 a9 (by omega) (by omega))
    have ho : Fw (b + 578) = some (.inr (2, 1, fun b9 => .long (g b9))) := ho9
    have hod : Fw (b + 579) = some (.inr (3, 1, fun b9 => .double (gd b9))) := (hag9 _ (by omega) (by omega)).trans hod
    clear hM9 ho9 hag9
    refine x_istore hC d_Law_law_2837 (Nat.le_of_ble_eq_true rfl) (L1 := [some (.ref a), some (.ref b), some (.ref (b + 566)), some (.ref (b + 578)), some (.ref (b + 579)), some (.int (nI (3 * q))), some (.int (nI 1)), none, none, none]) rfl ?_
    refine x_aload_n hC d_Law_law_2839 rfl rfl ?_
    obtain ⟨fsD, hDo⟩ := xMD_at hD
    refine x_callV hC kv_Law_369 (c_MessageCoderModel_undo (hD := hD) (hI := hI)) hDo rfl rfl (Nat.le_of_ble_eq_true rfl) rfl rfl rfl (Nat.le_of_ble_eq_true rfl) ⟨by omega, by omega⟩ d_Law_law_2840 (fun r9 Fm z9 hp9 => ?_)
    obtain ⟨rfl, h9c, j0, hag9⟩ := hp9
    rw [h9c]
    clear h9c z9
    have hM : xMC Fm (cm) (b) (M) := xMC_fr hM (fun a9 q1 q2 => hag9 a9 (by omega))
    have hD : xMD Fm (((b + 566))) ((if 0 < M.2.2.2.2.2.2.2.1 then 0 else 1)) ((if 0 < M.2.2.2.2.2.2.2.1 then undM M else M)) := j0
    have ho : Fm (b + 578) = some (.inr (2, 1, fun b9 => .long (g b9))) := (hag9 _ (by omega)).trans ho
    have hod : Fm (b + 579) = some (.inr (3, 1, fun b9 => .double (gd b9))) := (hag9 _ (by omega)).trans hod
    clear j0 hag9
    have hT : ((if 0 < M.2.2.2.2.2.2.2.1 then 0 else 1)) = 1 := if_neg (by omega)
    rw [hT] at hD
    have hE : ((if 0 < M.2.2.2.2.2.2.2.1 then undM M else M)) = M := if_neg (by omega)
    rw [hE] at hD
    refine x_istore hC d_Law_law_2843 (Nat.le_of_ble_eq_true rfl) (L1 := [some (.ref a), some (.ref b), some (.ref (b + 566)), some (.ref (b + 578)), some (.ref (b + 579)), some (.int (nI (3 * q))), some (.int (nI 1)), some (.int (nI (M.2.2.2.2.2.2.2.1 - 1))), none, none]) rfl ?_
    refine x_aload_n hC d_Law_law_2845 rfl rfl ?_
    obtain ⟨fsD, hDo⟩ := xMD_at hD
    refine x_callV hC kv_Law_163 (c_thrownD hD) hDo rfl rfl (Nat.le_of_ble_eq_true rfl) rfl rfl rfl (Nat.le_of_ble_eq_true rfl) ⟨by omega, by omega⟩ d_Law_law_2846 (fun r9 F9 z9 hp9 => ?_)
    obtain ⟨rfl, h9b, h9c⟩ := hp9
    rw [h9b, h9c]
    clear h9b h9c F9 z9
    refine x_iload hC d_Law_law_2849 rfl ?_
    refine x_icmpN_eq hC d_Law_law_2851 (tgt := 2856) (by decide) (by omega) (by omega) (fun c_2851 => ?_) (fun c_2851 => ?_)
    · skip
      refine x_iload hC d_Law_law_2856 rfl ?_
      refine x_ifN_ne hC d_Law_law_2858 (tgt := 2873) (by decide) (by omega) (fun c_2858 => ?_) (fun c_2858 => ?_)
      · skip
        refine x_goto hC d_Law_law_2873 (tgt := 2933) (by decide) ?_
        refine x_forget (L1 := [some (.ref a), some (.ref b), some (.ref (b + 566)), some (.ref (b + 578)), some (.ref (b + 579)), some (.int (nI (3 * q))), none, none, none, none]) ⟨Or.inr rfl, ⟨Or.inr rfl, ⟨Or.inr rfl, ⟨Or.inr rfl, ⟨Or.inr rfl, ⟨Or.inr rfl, ⟨Or.inl rfl, ⟨Or.inl rfl, ⟨Or.inl rfl, ⟨Or.inl rfl, trivial⟩⟩⟩⟩⟩⟩⟩⟩⟩⟩ ?_
        exact kk _ _ _ _ _ _ _ _ hM hD ho hod (lwJ_s hJ) (by omega) (by omega)
      · skip
        exact absurd c_2858 (by omega)
    · skip
      exact absurd c_2851 (by omega)

set_option maxHeartbeats 4000000 in
set_option maxRecDepth 20000 in
theorem lc_60 {P : xP} {Θ : xT} {cm : cmT} {a N b sm rt q : Nat} {xs : Nat → Int32} (E : lwE P Θ cm a N b sm rt xs) {F : xF} {z k n th : Nat} {M : mcS} {g : Nat → Int64} {gd : Nat → UInt64} (hM : xMC F (cm) (b) (M)) (hD : xMD F (b + 566) (th) (M)) (ho : F (b + 578) = some (.inr (2, 1, fun b9 => .long (g b9)))) (hod : F (b + 579) = some (.inr (3, 1, fun b9 => .double (gd b9)))) (hJ : lwJ q M) (hq : 3 * q + 3 ≤ N) (hkn : k + 2 ≤ 603072 ∧ n + 12 ≤ 7207018) (kk : lwK P Θ cm a b q k n) : xX P Θ 2876 [some (.ref (a)), some (.ref (b)), some (.ref (b + 566)), some (.ref (b + 578)), some (.ref (b + 579)), some (.int (nI (3 * q))), none, none, none, none] [] F z k n := by
  obtain ⟨hC, hX, ha, hN, hCM, hSM, hSR, hZx, hNx⟩ := E
  obtain ⟨hI, hS, hpp⟩ := id hJ
  obtain ⟨hk9, hn9⟩ := hkn
  have hu8 : M.2.2.2.2.2.2.2.1 ≤ 8 := hI.2.2.2.1
  have hup0 : M.2.2.2.2.2.2.2.1 ≤ M.2.2.2.2.2.2.1 := hI.2.2.2.2.1
  have hsv0 : M.2.2.2.2.2.1 ≤ 1 := hI.2.2.2.2.2.1
  have hpp0 : M.2.2.2.2.2.2.1 < 100000 := by omega
  have hun0 : M.2.2.2.2.2.2.2.1 < 100000 := by omega
  obtain ⟨hb1, hb2, hb3⟩ := hS.1
  have hnx : M.1.2.2.1.2.1 < 999 := by omega
  have hn0 : M.1.2.2.1.2.1 + 1 < 1000 := by omega
  have hg0 : M.1.2.2.2.2.2.2.1 < 1000 := by omega
  have hf0 : M.1.2.2.2.2.2.2.2.2 < 1000 := by omega
  refine x_aload_n hC d_Law_law_2876 rfl rfl ?_
  obtain ⟨hMo, -⟩ := id hM
  refine x_callV hC kv_Law_370 (c_MessageCoder_save (hM := hM) ) hMo rfl rfl (Nat.le_of_ble_eq_true rfl) rfl rfl rfl (Nat.le_of_ble_eq_true rfl) ⟨by omega, by omega⟩ d_Law_law_2877 (fun r9 Fc z9 hp9 => ?_)
  obtain ⟨rfl, h9c, j0, hag9⟩ := hp9
  rw [h9c]
  clear h9c z9
  have hM : xMC Fc (cm) (b) ((savM M)) := j0
  have hD : xMD Fc (b + 566) (th) (M) := xMD_fr hD (fun a9 q1 q2 => hag9 a9 (by omega))
  have ho : Fc (b + 578) = some (.inr (2, 1, fun b9 => .long (g b9))) := (hag9 _ (by omega)).trans ho
  have hod : Fc (b + 579) = some (.inr (3, 1, fun b9 => .double (gd b9))) := (hag9 _ (by omega)).trans hod
  clear j0 hag9
  refine x_aload_n hC d_Law_law_2880 rfl rfl ?_
  obtain ⟨fsD, hDo⟩ := xMD_at hD
  refine x_callV hC kv_Law_373 (c_MessageCoderModel_save (hD := hD) (hI := hI)) hDo rfl rfl (Nat.le_of_ble_eq_true rfl) rfl rfl rfl (Nat.le_of_ble_eq_true rfl) ⟨by omega, by omega⟩ d_Law_law_2881 (fun r9 Fm z9 hp9 => ?_)
  obtain ⟨rfl, h9c, j0, hag9⟩ := hp9
  rw [h9c]
  clear h9c z9
  have hM : xMC Fm (cm) (b) ((savM M)) := xMC_fr hM (fun a9 q1 q2 => hag9 a9 (by omega))
  have hD : xMD Fm (((b + 566))) (0) ((savM M)) := j0
  have ho : Fm (b + 578) = some (.inr (2, 1, fun b9 => .long (g b9))) := (hag9 _ (by omega)).trans ho
  have hod : Fm (b + 579) = some (.inr (3, 1, fun b9 => .double (gd b9))) := (hag9 _ (by omega)).trans hod
  clear j0 hag9
  refine x_icmp_eq hC d_Law_law_2884 (tgt := 2933) (by decide) (fun c_2884 => ?_) (fun c_2884 => ?_)
  · skip
    exact kk _ _ _ _ _ _ _ _ hM hD ho hod (lwJ_sav hJ) (by omega) (by omega)
  · exact absurd rfl c_2884

set_option maxHeartbeats 4000000 in
set_option maxRecDepth 20000 in
theorem lc_61 {P : xP} {Θ : xT} {cm : cmT} {a N b sm rt q : Nat} {xs : Nat → Int32} (E : lwE P Θ cm a N b sm rt xs) {F : xF} {z k n th : Nat} {M : mcS} {g : Nat → Int64} {gd : Nat → UInt64} (hM : xMC F (cm) (b) (M)) (hD : xMD F (b + 566) (th) (M)) (ho : F (b + 578) = some (.inr (2, 1, fun b9 => .long (g b9)))) (hod : F (b + 579) = some (.inr (3, 1, fun b9 => .double (gd b9)))) (hJ : lwJ q M) (hq : 3 * q + 3 ≤ N) (hkn : k + 2 ≤ 603072 ∧ n + 12 ≤ 7207018) (kk : lwK P Θ cm a b q k n) : xX P Θ 2889 [some (.ref (a)), some (.ref (b)), some (.ref (b + 566)), some (.ref (b + 578)), some (.ref (b + 579)), some (.int (nI (3 * q))), none, none, none, none] [] F z k n := by
  obtain ⟨hC, hX, ha, hN, hCM, hSM, hSR, hZx, hNx⟩ := E
  obtain ⟨hI, hS, hpp⟩ := id hJ
  obtain ⟨hk9, hn9⟩ := hkn
  have hu8 : M.2.2.2.2.2.2.2.1 ≤ 8 := hI.2.2.2.1
  have hup0 : M.2.2.2.2.2.2.2.1 ≤ M.2.2.2.2.2.2.1 := hI.2.2.2.2.1
  have hsv0 : M.2.2.2.2.2.1 ≤ 1 := hI.2.2.2.2.2.1
  have hpp0 : M.2.2.2.2.2.2.1 < 100000 := by omega
  have hun0 : M.2.2.2.2.2.2.2.1 < 100000 := by omega
  obtain ⟨hb1, hb2, hb3⟩ := hS.1
  have hnx : M.1.2.2.1.2.1 < 999 := by omega
  have hn0 : M.1.2.2.1.2.1 + 1 < 1000 := by omega
  have hg0 : M.1.2.2.2.2.2.2.1 < 1000 := by omega
  have hf0 : M.1.2.2.2.2.2.2.2.2 < 1000 := by omega
  refine x_aload_n hC d_Law_law_2889 rfl rfl ?_
  refine x_aload_n hC d_Law_law_2890 rfl rfl ?_
  refine x_callW hC kw_Law_374 (c_Law_restore (hM := hM) (ho := ho) (hZx := hZx) (hsv0 := hsv0) (hNx := hNx) (hbo := Or.inr (by omega))) (Nat.le_of_ble_eq_true rfl) rfl rfl rfl (Nat.le_of_ble_eq_true rfl) ⟨by omega, by omega⟩ d_Law_law_2891 (fun r9 Fw zw hp9 => ?_)
  rcases hp9 with ⟨rfl, hM9, ho9, p_0, hag9⟩ | ⟨rfl, hM9, ho9, hcond, hag9⟩
  · skip
    have hM : xMC Fw (cm) (b) ((resM M)) := hM9
    have hD : xMD Fw (b + 566) (th) (M) := xMD_fr hD (fun a9 q1 q2 => hag9 a9 (by omega) (by omega))
    have ho : Fw (b + 578) = some (.inr (2, 1, fun b9 => .long ((vp_updL g 0 (((nI (M.2.1.2.2.1.1))).toInt64)) b9))) := ho9
    have hod : Fw (b + 579) = some (.inr (3, 1, fun b9 => .double (gd b9))) := (hag9 _ (by omega) (by omega)).trans hod
    clear hM9 ho9 hag9
    refine x_istore hC d_Law_law_2894 (Nat.le_of_ble_eq_true rfl) (L1 := [some (.ref a), some (.ref b), some (.ref (b + 566)), some (.ref (b + 578)), some (.ref (b + 579)), some (.int (nI (3 * q))), some (.int (nI 0)), none, none, none]) rfl ?_
    refine x_aload_n hC d_Law_law_2896 rfl rfl ?_
    obtain ⟨fsD, hDo⟩ := xMD_at hD
    refine x_callV hC kv_Law_376 (c_MessageCoderModel_restore (hD := hD) (hI := hI)) hDo rfl rfl (Nat.le_of_ble_eq_true rfl) rfl rfl rfl (Nat.le_of_ble_eq_true rfl) ⟨by omega, by omega⟩ d_Law_law_2897 (fun r9 Fm z9 hp9 => ?_)
    obtain ⟨rfl, h9c, j0, hag9⟩ := hp9
    rw [h9c]
    clear h9c z9
    have hM : xMC Fm (cm) (b) ((resM M)) := xMC_fr hM (fun a9 q1 q2 => hag9 a9 (by omega))
    have hD : xMD Fm (((b + 566))) ((if 0 < M.2.2.2.2.2.1 then 0 else 1)) ((if 0 < M.2.2.2.2.2.1 then resM M else M)) := j0
    have ho : Fm (b + 578) = some (.inr (2, 1, fun b9 => .long ((vp_updL g 0 (((nI (M.2.1.2.2.1.1))).toInt64)) b9))) := (hag9 _ (by omega)).trans ho
    have hod : Fm (b + 579) = some (.inr (3, 1, fun b9 => .double (gd b9))) := (hag9 _ (by omega)).trans hod
    clear j0 hag9
    have hT : ((if 0 < M.2.2.2.2.2.1 then 0 else 1)) = 0 := if_pos p_0
    rw [hT] at hD
    have hE : ((if 0 < M.2.2.2.2.2.1 then resM M else M)) = (resM M) := if_pos p_0
    rw [hE] at hD
    refine x_top (v := (nI (M.2.1.2.2.1.1))) (congrArg nI (if_pos p_0)) ?_
    refine x_istore hC d_Law_law_2900 (Nat.le_of_ble_eq_true rfl) (L1 := [some (.ref a), some (.ref b), some (.ref (b + 566)), some (.ref (b + 578)), some (.ref (b + 579)), some (.int (nI (3 * q))), some (.int (nI 0)), some (.int (nI (M.2.1.2.2.1.1))), none, none]) rfl ?_
    refine x_aload_n hC d_Law_law_2902 rfl rfl ?_
    obtain ⟨fsD, hDo⟩ := xMD_at hD
    refine x_callV hC kv_Law_163 (c_thrownD hD) hDo rfl rfl (Nat.le_of_ble_eq_true rfl) rfl rfl rfl (Nat.le_of_ble_eq_true rfl) ⟨by omega, by omega⟩ d_Law_law_2903 (fun r9 F9 z9 hp9 => ?_)
    obtain ⟨rfl, h9b, h9c⟩ := hp9
    rw [h9b, h9c]
    clear h9b h9c F9 z9
    refine x_iload hC d_Law_law_2906 rfl ?_
    refine x_icmpN_eq hC d_Law_law_2908 (tgt := 2913) (by decide) (by omega) (by omega) (fun c_2908 => ?_) (fun c_2908 => ?_)
    · skip
      refine x_iload hC d_Law_law_2913 rfl ?_
      refine x_ifN_ne hC d_Law_law_2915 (tgt := 2930) (by decide) (by omega) (fun c_2915 => ?_) (fun c_2915 => ?_)
      · skip
        exact absurd c_2915 (by omega)
      · skip
        refine x_aload_n hC d_Law_law_2918 rfl rfl ?_
        refine x_iconst hC d_Law_law_2919 (v := nI 0) (by decide) ?_
        refine x_lald hC ho (j := 0) ⟨rfl, by decide, by decide⟩ (x := ((nI (M.2.1.2.2.1.1))).toInt64) rfl d_Law_law_2920 ?_
        refine x_iload hC d_Law_law_2921 rfl ?_
        refine x_i2l hC d_Law_law_2923 rfl ?_
        refine x_lcmp hC d_Law_law_2924 ?_
        refine x_top (v := nI 0) (lg_self _) ?_
        refine x_ifN_eq hC d_Law_law_2925 (tgt := 2930) (by decide) (by omega) (fun c_2925 => ?_) (fun c_2925 => ?_)
        · skip
          refine x_goto hC d_Law_law_2930 (tgt := 2933) (by decide) ?_
          refine x_forget (L1 := [some (.ref a), some (.ref b), some (.ref (b + 566)), some (.ref (b + 578)), some (.ref (b + 579)), some (.int (nI (3 * q))), none, none, none, none]) ⟨Or.inr rfl, ⟨Or.inr rfl, ⟨Or.inr rfl, ⟨Or.inr rfl, ⟨Or.inr rfl, ⟨Or.inr rfl, ⟨Or.inl rfl, ⟨Or.inl rfl, ⟨Or.inl rfl, ⟨Or.inl rfl, trivial⟩⟩⟩⟩⟩⟩⟩⟩⟩⟩ ?_
          exact kk _ _ _ _ _ _ _ _ hM hD ho hod (lwJ_res hJ p_0) (by omega) (by omega)
        · skip
          exact absurd c_2925 (by omega)
    · skip
      exact absurd c_2908 (by omega)
  · skip
    have hM : xMC Fw (cm) (b) (M) := hM9
    have hD : xMD Fw (b + 566) (th) (M) := xMD_fr hD (fun a9 q1 q2 => hag9 a9 (by omega) (by omega))
    have ho : Fw (b + 578) = some (.inr (2, 1, fun b9 => .long (g b9))) := ho9
    have hod : Fw (b + 579) = some (.inr (3, 1, fun b9 => .double (gd b9))) := (hag9 _ (by omega) (by omega)).trans hod
    clear hM9 ho9 hag9
    refine x_istore hC d_Law_law_2894 (Nat.le_of_ble_eq_true rfl) (L1 := [some (.ref a), some (.ref b), some (.ref (b + 566)), some (.ref (b + 578)), some (.ref (b + 579)), some (.int (nI (3 * q))), some (.int (nI 1)), none, none, none]) rfl ?_
    refine x_aload_n hC d_Law_law_2896 rfl rfl ?_
    obtain ⟨fsD, hDo⟩ := xMD_at hD
    refine x_callV hC kv_Law_376 (c_MessageCoderModel_restore (hD := hD) (hI := hI)) hDo rfl rfl (Nat.le_of_ble_eq_true rfl) rfl rfl rfl (Nat.le_of_ble_eq_true rfl) ⟨by omega, by omega⟩ d_Law_law_2897 (fun r9 Fm z9 hp9 => ?_)
    obtain ⟨rfl, h9c, j0, hag9⟩ := hp9
    rw [h9c]
    clear h9c z9
    have hM : xMC Fm (cm) (b) (M) := xMC_fr hM (fun a9 q1 q2 => hag9 a9 (by omega))
    have hD : xMD Fm (((b + 566))) ((if 0 < M.2.2.2.2.2.1 then 0 else 1)) ((if 0 < M.2.2.2.2.2.1 then resM M else M)) := j0
    have ho : Fm (b + 578) = some (.inr (2, 1, fun b9 => .long (g b9))) := (hag9 _ (by omega)).trans ho
    have hod : Fm (b + 579) = some (.inr (3, 1, fun b9 => .double (gd b9))) := (hag9 _ (by omega)).trans hod
    clear j0 hag9
    have hT : ((if 0 < M.2.2.2.2.2.1 then 0 else 1)) = 1 := if_neg (by omega)
    rw [hT] at hD
    have hE : ((if 0 < M.2.2.2.2.2.1 then resM M else M)) = M := if_neg (by omega)
    rw [hE] at hD
    refine x_istore hC d_Law_law_2900 (Nat.le_of_ble_eq_true rfl) (L1 := [some (.ref a), some (.ref b), some (.ref (b + 566)), some (.ref (b + 578)), some (.ref (b + 579)), some (.int (nI (3 * q))), some (.int (nI 1)), some (.int (nI (if 0 < M.2.2.2.2.2.1 then M.2.1.2.2.1.1 else 0))), none, none]) rfl ?_
    refine x_aload_n hC d_Law_law_2902 rfl rfl ?_
    obtain ⟨fsD, hDo⟩ := xMD_at hD
    refine x_callV hC kv_Law_163 (c_thrownD hD) hDo rfl rfl (Nat.le_of_ble_eq_true rfl) rfl rfl rfl (Nat.le_of_ble_eq_true rfl) ⟨by omega, by omega⟩ d_Law_law_2903 (fun r9 F9 z9 hp9 => ?_)
    obtain ⟨rfl, h9b, h9c⟩ := hp9
    rw [h9b, h9c]
    clear h9b h9c F9 z9
    refine x_iload hC d_Law_law_2906 rfl ?_
    refine x_icmpN_eq hC d_Law_law_2908 (tgt := 2913) (by decide) (by omega) (by omega) (fun c_2908 => ?_) (fun c_2908 => ?_)
    · skip
      refine x_iload hC d_Law_law_2913 rfl ?_
      refine x_ifN_ne hC d_Law_law_2915 (tgt := 2930) (by decide) (by omega) (fun c_2915 => ?_) (fun c_2915 => ?_)
      · skip
        refine x_goto hC d_Law_law_2930 (tgt := 2933) (by decide) ?_
        refine x_forget (L1 := [some (.ref a), some (.ref b), some (.ref (b + 566)), some (.ref (b + 578)), some (.ref (b + 579)), some (.int (nI (3 * q))), none, none, none, none]) ⟨Or.inr rfl, ⟨Or.inr rfl, ⟨Or.inr rfl, ⟨Or.inr rfl, ⟨Or.inr rfl, ⟨Or.inr rfl, ⟨Or.inl rfl, ⟨Or.inl rfl, ⟨Or.inl rfl, ⟨Or.inl rfl, trivial⟩⟩⟩⟩⟩⟩⟩⟩⟩⟩ ?_
        exact kk _ _ _ _ _ _ _ _ hM hD ho hod (lwJ_s hJ) (by omega) (by omega)
      · skip
        exact absurd c_2915 (by omega)
    · skip
      exact absurd c_2908 (by omega)

