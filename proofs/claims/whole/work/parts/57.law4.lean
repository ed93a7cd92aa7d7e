set_option maxHeartbeats 4000000 in
set_option maxRecDepth 20000 in
theorem lc_16 {P : xP} {Θ : xT} {cm : cmT} {a N b sm rt q : Nat} {xs : Nat → Int32} (E : lwE P Θ cm a N b sm rt xs) {F : xF} {z k n th : Nat} {M : mcS} {g : Nat → Int64} {gd : Nat → UInt64} (hM : xMC F (cm) (b) (M)) (hD : xMD F (b + 566) (th) (M)) (ho : F (b + 578) = some (.inr (2, 1, fun b9 => .long (g b9)))) (hod : F (b + 579) = some (.inr (3, 1, fun b9 => .double (gd b9)))) (hJ : lwJ q M) (hq : 3 * q + 3 ≤ N) (hkn : k + 2 ≤ 603072 ∧ n + 12 ≤ 7207018) (kk : lwK P Θ cm a b q k n) : xX P Θ 1085 [some (.ref (a)), some (.ref (b)), some (.ref (b + 566)), some (.ref (b + 578)), some (.ref (b + 579)), some (.int (nI (3 * q))), none, none, none, none] [] F z k n := by
  obtain ⟨hC, hX, ha, hN, hCM, hSM, hSR, hZx, hNx⟩ := E
  obtain ⟨hI, hS, hpp⟩ := id hJ
  obtain ⟨hk9, hn9⟩ := hkn
  have hu8 : M.2.2.2.2.2.2.2.1 ≤ 8 := hI.2.2.2.1
  have hup0 : M.2.2.2.2.2.2.2.1 ≤ M.2.2.2.2.2.2.1 := hI.2.2.2.2.1
  have hsv0 : M.2.2.2.2.2.1 ≤ 1 := hI.2.2.2.2.2.1
  have hpp0 : M.2.2.2.2.2.2.1 < 100000 := by omega
  have hun0 : M.2.2.2.2.2.2.2.1 < 100000 := by omega
  obtain ⟨hb1, hb2, hb3⟩ := hS.1
  have hnx : M.1.2.2.1.2.1 < 999 := by omega
  have hn0 : M.1.2.2.1.2.1 + 1 < 1000 := by omega
  have hg0 : M.1.2.2.2.2.2.2.1 < 1000 := by omega
  have hf0 : M.1.2.2.2.2.2.2.2.2 < 1000 := by omega
  refine x_aload_n hC d_Law_law_1085 rfl rfl ?_
  obtain ⟨hMo, -⟩ := id hM
  refine x_callV hC kv_Law_218 (c_MessageCoder_cost (hM := hM) ) hMo rfl rfl (Nat.le_of_ble_eq_true rfl) rfl rfl rfl (Nat.le_of_ble_eq_true rfl) ⟨by omega, by omega⟩ d_Law_law_1086 (fun r9 Fc z9 hp9 => ?_)
  obtain ⟨rfl, h9b, h9c⟩ := hp9
  rw [h9b, h9c]
  clear h9b h9c Fc z9
  refine x_aload_n hC d_Law_law_1089 rfl rfl ?_
  obtain ⟨fsD, hDo⟩ := xMD_at hD
  refine x_callV hC kv_Law_221 (c_MessageCoderModel_cost (hD := hD) (hI := hI)) hDo rfl rfl (Nat.le_of_ble_eq_true rfl) rfl rfl rfl (Nat.le_of_ble_eq_true rfl) ⟨by omega, by omega⟩ d_Law_law_1090 (fun r9 Fm z9 hp9 => ?_)
  obtain ⟨rfl, h9c, j0, hag9⟩ := hp9
  rw [h9c]
  clear h9c z9
  have hM : xMC Fm (cm) (b) (M) := xMC_fr hM (fun a9 q1 q2 => hag9 a9 (by omega))
  have hD : xMD Fm (((b + 566))) (0) (M) := j0
  have ho : Fm (b + 578) = some (.inr (2, 1, fun b9 => .long (g b9))) := (hag9 _ (by omega)).trans ho
  have hod : Fm (b + 579) = some (.inr (3, 1, fun b9 => .double (gd b9))) := (hag9 _ (by omega)).trans hod
  clear j0 hag9
  refine x_icmp_eq hC d_Law_law_1093 (tgt := 2933) (by decide) (fun c_1093 => ?_) (fun c_1093 => ?_)
  · skip
    exact kk _ _ _ _ _ _ _ _ hM hD ho hod (lwJ_s hJ) (by omega) (by omega)
  · exact absurd rfl c_1093

set_option maxHeartbeats 4000000 in
set_option maxRecDepth 20000 in
theorem lc_17 {P : xP} {Θ : xT} {cm : cmT} {a N b sm rt q : Nat} {xs : Nat → Int32} (E : lwE P Θ cm a N b sm rt xs) {F : xF} {z k n th : Nat} {M : mcS} {g : Nat → Int64} {gd : Nat → UInt64} (hM : xMC F (cm) (b) (M)) (hD : xMD F (b + 566) (th) (M)) (ho : F (b + 578) = some (.inr (2, 1, fun b9 => .long (g b9)))) (hod : F (b + 579) = some (.inr (3, 1, fun b9 => .double (gd b9)))) (hJ : lwJ q M) (hq : 3 * q + 3 ≤ N) (hkn : k + 2 ≤ 603072 ∧ n + 12 ≤ 7207018) (kk : lwK P Θ cm a b q k n) : xX P Θ 1098 [some (.ref (a)), some (.ref (b)), some (.ref (b + 566)), some (.ref (b + 578)), some (.ref (b + 579)), some (.int (nI (3 * q))), none, none, none, none] [] F z k n := by
  obtain ⟨hC, hX, ha, hN, hCM, hSM, hSR, hZx, hNx⟩ := E
  obtain ⟨hI, hS, hpp⟩ := id hJ
  obtain ⟨hk9, hn9⟩ := hkn
  have hu8 : M.2.2.2.2.2.2.2.1 ≤ 8 := hI.2.2.2.1
  have hup0 : M.2.2.2.2.2.2.2.1 ≤ M.2.2.2.2.2.2.1 := hI.2.2.2.2.1
  have hsv0 : M.2.2.2.2.2.1 ≤ 1 := hI.2.2.2.2.2.1
  have hpp0 : M.2.2.2.2.2.2.1 < 100000 := by omega
  have hun0 : M.2.2.2.2.2.2.2.1 < 100000 := by omega
  obtain ⟨hb1, hb2, hb3⟩ := hS.1
  have hnx : M.1.2.2.1.2.1 < 999 := by omega
  have hn0 : M.1.2.2.1.2.1 + 1 < 1000 := by omega
  have hg0 : M.1.2.2.2.2.2.2.1 < 1000 := by omega
  have hf0 : M.1.2.2.2.2.2.2.2.2 < 1000 := by omega
  refine x_aload_n hC d_Law_law_1098 rfl rfl ?_
  obtain ⟨hMo, -⟩ := id hM
  refine x_callV hC kv_Law_222 (c_MessageCoder_costByRanges (hM := hM) ) hMo rfl rfl (Nat.le_of_ble_eq_true rfl) rfl rfl rfl (Nat.le_of_ble_eq_true rfl) ⟨by omega, by omega⟩ d_Law_law_1099 (fun r9 Fc z9 hp9 => ?_)
  obtain ⟨rfl, h9c, j0, hag9⟩ := hp9
  rw [h9c]
  clear h9c z9
  have hM : xMC Fc (cm) (b) (M) := j0
  have hD : xMD Fc (b + 566) (th) (M) := xMD_fr hD (fun a9 q1 q2 => hag9 a9 (by omega))
  have ho : Fc (b + 578) = some (.inr (2, 1, fun b9 => .long (g b9))) := (hag9 _ (by omega)).trans ho
  have hod : Fc (b + 579) = some (.inr (3, 1, fun b9 => .double (gd b9))) := (hag9 _ (by omega)).trans hod
  clear j0 hag9
  refine x_aload_n hC d_Law_law_1102 rfl rfl ?_
  obtain ⟨fsD, hDo⟩ := xMD_at hD
  refine x_callV hC kv_Law_225 (c_MessageCoderModel_costByRanges (hD := hD) (hI := hI)) hDo rfl rfl (Nat.le_of_ble_eq_true rfl) rfl rfl rfl (Nat.le_of_ble_eq_true rfl) ⟨by omega, by omega⟩ d_Law_law_1103 (fun r9 Fm z9 hp9 => ?_)
  obtain ⟨rfl, h9c, j0, hag9⟩ := hp9
  rw [h9c]
  clear h9c z9
  have hM : xMC Fm (cm) (b) (M) := xMC_fr hM (fun a9 q1 q2 => hag9 a9 (by omega))
  have hD : xMD Fm (((b + 566))) (0) (M) := j0
  have ho : Fm (b + 578) = some (.inr (2, 1, fun b9 => .long (g b9))) := (hag9 _ (by omega)).trans ho
  have hod : Fm (b + 579) = some (.inr (3, 1, fun b9 => .double (gd b9))) := (hag9 _ (by omega)).trans hod
  clear j0 hag9
  refine x_icmp_eq hC d_Law_law_1106 (tgt := 2933) (by decide) (fun c_1106 => ?_) (fun c_1106 => ?_)
  · skip
    exact kk _ _ _ _ _ _ _ _ hM hD ho hod (lwJ_s hJ) (by omega) (by omega)
  · exact absurd rfl c_1106

set_option maxHeartbeats 4000000 in
set_option maxRecDepth 20000 in
theorem lc_18 {P : xP} {Θ : xT} {cm : cmT} {a N b sm rt q : Nat} {xs : Nat → Int32} (E : lwE P Θ cm a N b sm rt xs) {F : xF} {z k n th : Nat} {M : mcS} {g : Nat → Int64} {gd : Nat → UInt64} (hM : xMC F (cm) (b) (M)) (hD : xMD F (b + 566) (th) (M)) (ho : F (b + 578) = some (.inr (2, 1, fun b9 => .long (g b9)))) (hod : F (b + 579) = some (.inr (3, 1, fun b9 => .double (gd b9)))) (hJ : lwJ q M) (hq : 3 * q + 3 ≤ N) (hkn : k + 2 ≤ 603072 ∧ n + 12 ≤ 7207018) (kk : lwK P Θ cm a b q k n) : xX P Θ 1111 [some (.ref (a)), some (.ref (b)), some (.ref (b + 566)), some (.ref (b + 578)), some (.ref (b + 579)), some (.int (nI (3 * q))), none, none, none, none] [] F z k n := by
  obtain ⟨hC, hX, ha, hN, hCM, hSM, hSR, hZx, hNx⟩ := E
  obtain ⟨hI, hS, hpp⟩ := id hJ
  obtain ⟨hk9, hn9⟩ := hkn
  have hu8 : M.2.2.2.2.2.2.2.1 ≤ 8 := hI.2.2.2.1
  have hup0 : M.2.2.2.2.2.2.2.1 ≤ M.2.2.2.2.2.2.1 := hI.2.2.2.2.1
  have hsv0 : M.2.2.2.2.2.1 ≤ 1 := hI.2.2.2.2.2.1
  have hpp0 : M.2.2.2.2.2.2.1 < 100000 := by omega
  have hun0 : M.2.2.2.2.2.2.2.1 < 100000 := by omega
  obtain ⟨hb1, hb2, hb3⟩ := hS.1
  have hnx : M.1.2.2.1.2.1 < 999 := by omega
  have hn0 : M.1.2.2.1.2.1 + 1 < 1000 := by omega
  have hg0 : M.1.2.2.2.2.2.2.1 < 1000 := by omega
  have hf0 : M.1.2.2.2.2.2.2.2.2 < 1000 := by omega
  refine x_aload_n hC d_Law_law_1111 rfl rfl ?_
  obtain ⟨hMo, -⟩ := id hM
  refine x_callV hC kv_Law_226 (c_MessageCoder_isComplete (hM := hM) ) hMo rfl rfl (Nat.le_of_ble_eq_true rfl) rfl rfl rfl (Nat.le_of_ble_eq_true rfl) ⟨by omega, by omega⟩ d_Law_law_1112 (fun r9 Fc z9 hp9 => ?_)
  obtain ⟨rfl, h9b, h9c⟩ := hp9
  rw [h9b, h9c]
  clear h9b h9c Fc z9
  refine x_aload_n hC d_Law_law_1115 rfl rfl ?_
  obtain ⟨fsD, hDo⟩ := xMD_at hD
  refine x_callV hC kv_Law_229 (c_MessageCoderModel_isComplete (hD := hD) (hI := hI)) hDo rfl rfl (Nat.le_of_ble_eq_true rfl) rfl rfl rfl (Nat.le_of_ble_eq_true rfl) ⟨by omega, by omega⟩ d_Law_law_1116 (fun r9 Fm z9 hp9 => ?_)
  obtain ⟨rfl, h9c, j0, hag9⟩ := hp9
  rw [h9c]
  clear h9c z9
  have hM : xMC Fm (cm) (b) (M) := xMC_fr hM (fun a9 q1 q2 => hag9 a9 (by omega))
  have hD : xMD Fm (((b + 566))) (0) (M) := j0
  have ho : Fm (b + 578) = some (.inr (2, 1, fun b9 => .long (g b9))) := (hag9 _ (by omega)).trans ho
  have hod : Fm (b + 579) = some (.inr (3, 1, fun b9 => .double (gd b9))) := (hag9 _ (by omega)).trans hod
  clear j0 hag9
  refine x_icmpN_eq hC d_Law_law_1119 (tgt := 2933) (by decide) (by omega) (by omega) (fun c_1119 => ?_) (fun c_1119 => ?_)
  · skip
    exact kk _ _ _ _ _ _ _ _ hM hD ho hod (lwJ_s hJ) (by omega) (by omega)
  · skip
    exact absurd c_1119 (by omega)

set_option maxHeartbeats 4000000 in
set_option maxRecDepth 20000 in
theorem lc_19 {P : xP} {Θ : xT} {cm : cmT} {a N b sm rt q : Nat} {xs : Nat → Int32} (E : lwE P Θ cm a N b sm rt xs) {F : xF} {z k n th : Nat} {M : mcS} {g : Nat → Int64} {gd : Nat → UInt64} (hM : xMC F (cm) (b) (M)) (hD : xMD F (b + 566) (th) (M)) (ho : F (b + 578) = some (.inr (2, 1, fun b9 => .long (g b9)))) (hod : F (b + 579) = some (.inr (3, 1, fun b9 => .double (gd b9)))) (hJ : lwJ q M) (hq : 3 * q + 3 ≤ N) (hkn : k + 2 ≤ 603072 ∧ n + 12 ≤ 7207018) (kk : lwK P Θ cm a b q k n) : xX P Θ 1124 [some (.ref (a)), some (.ref (b)), some (.ref (b + 566)), some (.ref (b + 578)), some (.ref (b + 579)), some (.int (nI (3 * q))), none, none, none, none] [] F z k n := by
  obtain ⟨hC, hX, ha, hN, hCM, hSM, hSR, hZx, hNx⟩ := E
  obtain ⟨hI, hS, hpp⟩ := id hJ
  obtain ⟨hk9, hn9⟩ := hkn
  have hu8 : M.2.2.2.2.2.2.2.1 ≤ 8 := hI.2.2.2.1
  have hup0 : M.2.2.2.2.2.2.2.1 ≤ M.2.2.2.2.2.2.1 := hI.2.2.2.2.1
  have hsv0 : M.2.2.2.2.2.1 ≤ 1 := hI.2.2.2.2.2.1
  have hpp0 : M.2.2.2.2.2.2.1 < 100000 := by omega
  have hun0 : M.2.2.2.2.2.2.2.1 < 100000 := by omega
  obtain ⟨hb1, hb2, hb3⟩ := hS.1
  have hnx : M.1.2.2.1.2.1 < 999 := by omega
  have hn0 : M.1.2.2.1.2.1 + 1 < 1000 := by omega
  have hg0 : M.1.2.2.2.2.2.2.1 < 1000 := by omega
  have hf0 : M.1.2.2.2.2.2.2.2.2 < 1000 := by omega
  have hs1 : 0 < sumN M.1.1 8 := sumN_p8 (fun j hj => (hI.1.2.1 j hj).1)
  refine x_aload_n hC d_Law_law_1124 rfl rfl ?_
  obtain ⟨hMo, -⟩ := id hM
  refine x_callV hC kv_Law_230 (c_MessageCoder_meanLength (hM := hM) (hs1 := hs1)) hMo rfl rfl (Nat.le_of_ble_eq_true rfl) rfl rfl rfl (Nat.le_of_ble_eq_true rfl) ⟨by omega, by omega⟩ d_Law_law_1125 (fun r9 Fc z9 hp9 => ?_)
  obtain ⟨rfl, h9b, h9c⟩ := hp9
  rw [h9b, h9c]
  clear h9b h9c Fc z9
  refine x_dstore hC d_Law_law_1128 (Nat.le_of_ble_eq_true rfl) (L1 := [some (.ref a), some (.ref b), some (.ref (b + 566)), some (.ref (b + 578)), some (.ref (b + 579)), some (.int (nI (3 * q))), some (.double (FP.ddiv (FP.i2d (nI (hSum M.1.1))) (FP.i2d (nI (sumN M.1.1 8))))), none, none, none]) rfl ?_
  refine x_aload_n hC d_Law_law_1130 rfl rfl ?_
  obtain ⟨fsD, hDo⟩ := xMD_at hD
  refine x_callV hC kv_Law_234 (c_MessageCoderModel_meanLength (hD := hD) (hI := hI)) hDo rfl rfl (Nat.le_of_ble_eq_true rfl) rfl rfl rfl (Nat.le_of_ble_eq_true rfl) ⟨by omega, by omega⟩ d_Law_law_1131 (fun r9 Fm z9 hp9 => ?_)
  obtain ⟨rfl, h9c, j0, hag9⟩ := hp9
  rw [h9c]
  clear h9c z9
  have hM : xMC Fm (cm) (b) (M) := xMC_fr hM (fun a9 q1 q2 => hag9 a9 (by omega))
  have hD : xMD Fm (((b + 566))) (0) (M) := j0
  have ho : Fm (b + 578) = some (.inr (2, 1, fun b9 => .long (g b9))) := (hag9 _ (by omega)).trans ho
  have hod : Fm (b + 579) = some (.inr (3, 1, fun b9 => .double (gd b9))) := (hag9 _ (by omega)).trans hod
  clear j0 hag9
  refine x_dstore hC d_Law_law_1134 (Nat.le_of_ble_eq_true rfl) (L1 := [some (.ref a), some (.ref b), some (.ref (b + 566)), some (.ref (b + 578)), some (.ref (b + 579)), some (.int (nI (3 * q))), some (.double (FP.ddiv (FP.i2d (nI (hSum M.1.1))) (FP.i2d (nI (sumN M.1.1 8))))), none, some (.double (FP.ddiv (FP.i2d (nI (hSum M.1.1))) (FP.i2d (nI (sumN M.1.1 8))))), none]) rfl ?_
  refine x_dload hC d_Law_law_1136 rfl ?_
  refine x_dload hC d_Law_law_1138 rfl ?_
  refine x_dcmp hC d_Law_law_1140 ?_
  refine x_top (v := nI 0) (dc_0 (fl_ddiv (Nat.lt_of_le_of_lt (hJ_sb (fun j9 hj9 => (hI.1.2.1 j9 hj9).2) (Nat.le_refl 7)) (by decide)) (Nat.lt_of_le_of_lt (sumN_bd 99 8 (fun j9 hj9 => (hI.1.2.1 j9 hj9).2)) (by decide)) hs1)) ?_
  refine x_ifN_eq hC d_Law_law_1141 (tgt := 1162) (by decide) (by omega) (fun c_1141 => ?_) (fun c_1141 => ?_)
  · skip
    refine x_goto hC d_Law_law_1162 (tgt := 2933) (by decide) ?_
    refine x_forget (L1 := [some (.ref a), some (.ref b), some (.ref (b + 566)), some (.ref (b + 578)), some (.ref (b + 579)), some (.int (nI (3 * q))), none, none, none, none]) ⟨Or.inr rfl, ⟨Or.inr rfl, ⟨Or.inr rfl, ⟨Or.inr rfl, ⟨Or.inr rfl, ⟨Or.inr rfl, ⟨Or.inl rfl, ⟨Or.inl rfl, ⟨Or.inl rfl, ⟨Or.inl rfl, trivial⟩⟩⟩⟩⟩⟩⟩⟩⟩⟩ ?_
    exact kk _ _ _ _ _ _ _ _ hM hD ho hod (lwJ_s hJ) (by omega) (by omega)
  · skip
    exact absurd c_1141 (by omega)

set_option maxHeartbeats 4000000 in
set_option maxRecDepth 20000 in
theorem lc_20 {P : xP} {Θ : xT} {cm : cmT} {a N b sm rt q : Nat} {xs : Nat → Int32} (E : lwE P Θ cm a N b sm rt xs) {F : xF} {z k n th : Nat} {M : mcS} {g : Nat → Int64} {gd : Nat → UInt64} (hM : xMC F (cm) (b) (M)) (hD : xMD F (b + 566) (th) (M)) (ho : F (b + 578) = some (.inr (2, 1, fun b9 => .long (g b9)))) (hod : F (b + 579) = some (.inr (3, 1, fun b9 => .double (gd b9)))) (hJ : lwJ q M) (hq : 3 * q + 3 ≤ N) (hkn : k + 2 ≤ 603072 ∧ n + 12 ≤ 7207018) (kk : lwK P Θ cm a b q k n) : xX P Θ 1165 [some (.ref (a)), some (.ref (b)), some (.ref (b + 566)), some (.ref (b + 578)), some (.ref (b + 579)), some (.int (nI (3 * q))), none, none, none, none] [] F z k n := by
  obtain ⟨hC, hX, ha, hN, hCM, hSM, hSR, hZx, hNx⟩ := E
  obtain ⟨hI, hS, hpp⟩ := id hJ
  obtain ⟨hk9, hn9⟩ := hkn
  have hu8 : M.2.2.2.2.2.2.2.1 ≤ 8 := hI.2.2.2.1
  have hup0 : M.2.2.2.2.2.2.2.1 ≤ M.2.2.2.2.2.2.1 := hI.2.2.2.2.1
  have hsv0 : M.2.2.2.2.2.1 ≤ 1 := hI.2.2.2.2.2.1
  have hpp0 : M.2.2.2.2.2.2.1 < 100000 := by omega
  have hun0 : M.2.2.2.2.2.2.2.1 < 100000 := by omega
  obtain ⟨hb1, hb2, hb3⟩ := hS.1
  have hnx : M.1.2.2.1.2.1 < 999 := by omega
  have hn0 : M.1.2.2.1.2.1 + 1 < 1000 := by omega
  have hg0 : M.1.2.2.2.2.2.2.1 < 1000 := by omega
  have hf0 : M.1.2.2.2.2.2.2.2.2 < 1000 := by omega
  refine x_aload_n hC d_Law_law_1165 rfl rfl ?_
  obtain ⟨hMo, -⟩ := id hM
  refine x_callV hC kv_Law_235 (c_MessageCoder_draftLength (hM := hM) ) hMo rfl rfl (Nat.le_of_ble_eq_true rfl) rfl rfl rfl (Nat.le_of_ble_eq_true rfl) ⟨by omega, by omega⟩ d_Law_law_1166 (fun r9 Fc z9 hp9 => ?_)
  obtain ⟨rfl, h9b, h9c⟩ := hp9
  rw [h9b, h9c]
  clear h9b h9c Fc z9
  refine x_aload_n hC d_Law_law_1169 rfl rfl ?_
  obtain ⟨fsD, hDo⟩ := xMD_at hD
  refine x_callV hC kv_Law_238 (c_MessageCoderModel_draftLength (hD := hD) (hI := hI)) hDo rfl rfl (Nat.le_of_ble_eq_true rfl) rfl rfl rfl (Nat.le_of_ble_eq_true rfl) ⟨by omega, by omega⟩ d_Law_law_1170 (fun r9 Fm z9 hp9 => ?_)
  obtain ⟨rfl, h9c, j0, hag9⟩ := hp9
  rw [h9c]
  clear h9c z9
  have hM : xMC Fm (cm) (b) (M) := xMC_fr hM (fun a9 q1 q2 => hag9 a9 (by omega))
  have hD : xMD Fm (((b + 566))) (0) (M) := j0
  have ho : Fm (b + 578) = some (.inr (2, 1, fun b9 => .long (g b9))) := (hag9 _ (by omega)).trans ho
  have hod : Fm (b + 579) = some (.inr (3, 1, fun b9 => .double (gd b9))) := (hag9 _ (by omega)).trans hod
  clear j0 hag9
  refine x_icmp_eq hC d_Law_law_1173 (tgt := 2933) (by decide) (fun c_1173 => ?_) (fun c_1173 => ?_)
  · skip
    exact kk _ _ _ _ _ _ _ _ hM hD ho hod (lwJ_s hJ) (by omega) (by omega)
  · exact absurd rfl c_1173

set_option maxHeartbeats 4000000 in
set_option maxRecDepth 20000 in
theorem lc_21 {P : xP} {Θ : xT} {cm : cmT} {a N b sm rt q : Nat} {xs : Nat → Int32} (E : lwE P Θ cm a N b sm rt xs) {F : xF} {z k n th : Nat} {M : mcS} {g : Nat → Int64} {gd : Nat → UInt64} (hM : xMC F (cm) (b) (M)) (hD : xMD F (b + 566) (th) (M)) (ho : F (b + 578) = some (.inr (2, 1, fun b9 => .long (g b9)))) (hod : F (b + 579) = some (.inr (3, 1, fun b9 => .double (gd b9)))) (hJ : lwJ q M) (hq : 3 * q + 3 ≤ N) (hkn : k + 2 ≤ 603072 ∧ n + 12 ≤ 7207018) (kk : lwK P Θ cm a b q k n) : xX P Θ 1178 [some (.ref (a)), some (.ref (b)), some (.ref (b + 566)), some (.ref (b + 578)), some (.ref (b + 579)), some (.int (nI (3 * q))), none, none, none, none] [] F z k n := by
  obtain ⟨hC, hX, ha, hN, hCM, hSM, hSR, hZx, hNx⟩ := E
  obtain ⟨hI, hS, hpp⟩ := id hJ
  obtain ⟨hk9, hn9⟩ := hkn
  have hu8 : M.2.2.2.2.2.2.2.1 ≤ 8 := hI.2.2.2.1
  have hup0 : M.2.2.2.2.2.2.2.1 ≤ M.2.2.2.2.2.2.1 := hI.2.2.2.2.1
  have hsv0 : M.2.2.2.2.2.1 ≤ 1 := hI.2.2.2.2.2.1
  have hpp0 : M.2.2.2.2.2.2.1 < 100000 := by omega
  have hun0 : M.2.2.2.2.2.2.2.1 < 100000 := by omega
  obtain ⟨hb1, hb2, hb3⟩ := hS.1
  have hnx : M.1.2.2.1.2.1 < 999 := by omega
  have hn0 : M.1.2.2.1.2.1 + 1 < 1000 := by omega
  have hg0 : M.1.2.2.2.2.2.2.1 < 1000 := by omega
  have hf0 : M.1.2.2.2.2.2.2.2.2 < 1000 := by omega
  refine x_aload_n hC d_Law_law_1178 rfl rfl ?_
  refine x_aload_n hC d_Law_law_1179 rfl rfl ?_
  refine x_iload hC d_Law_law_1180 rfl ?_
  refine x_iconst hC d_Law_law_1182 (v := nI 1) (by decide) ?_
  refine x_iadd hC d_Law_law_1183 (v := (nI (3 * q + 1))) (x_addN (by omega)) ?_
  refine x_sld hC hX ha (j := 3 * q + 1) ⟨rfl, by omega, by omega⟩ d_Law_law_1184 ?_
  refine x_aload_n hC d_Law_law_1185 rfl rfl ?_
  refine x_callW hC kw_Law_239 (c_Law_draftAt (hM := hM) (ho := ho) (hZx := hZx) (hNx := hNx) (hbo := Or.inr (by omega))) (Nat.le_of_ble_eq_true rfl) rfl rfl rfl (Nat.le_of_ble_eq_true rfl) ⟨by omega, by omega⟩ d_Law_law_1186 (fun r9 Fw zw hp9 => ?_)
  rcases hp9 with ⟨rfl, hM9, ho9, p_0, hag9⟩ | ⟨rfl, hM9, ho9, hcond, hag9⟩
  · skip
    have hM : xMC Fw (cm) (b) (M) := hM9
    have hD : xMD Fw (b + 566) (th) (M) := xMD_fr hD (fun a9 q1 q2 => hag9 a9 (by omega) (by omega))
    have ho : Fw (b + 578) = some (.inr (2, 1, fun b9 => .long ((vp_updL g 0 (((nI (M.1.2.1.2 (xs (3 * q + 1)).toNatClampNeg))).toInt64)) b9))) := ho9
    have hod : Fw (b + 579) = some (.inr (3, 1, fun b9 => .double (gd b9))) := (hag9 _ (by omega) (by omega)).trans hod
    clear hM9 ho9 hag9
    refine x_istore hC d_Law_law_1189 (Nat.le_of_ble_eq_true rfl) (L1 := [some (.ref a), some (.ref b), some (.ref (b + 566)), some (.ref (b + 578)), some (.ref (b + 579)), some (.int (nI (3 * q))), some (.int (nI 0)), none, none, none]) rfl ?_
    refine x_aload_n hC d_Law_law_1191 rfl rfl ?_
    refine x_aload_n hC d_Law_law_1192 rfl rfl ?_
    refine x_iload hC d_Law_law_1193 rfl ?_
    refine x_iconst hC d_Law_law_1195 (v := nI 1) (by decide) ?_
    refine x_iadd hC d_Law_law_1196 (v := (nI (3 * q + 1))) (x_addN (by omega)) ?_
    refine x_sld hC hX ha (j := 3 * q + 1) ⟨rfl, by omega, by omega⟩ d_Law_law_1197 ?_
    obtain ⟨fsD, hDo⟩ := xMD_at hD
    refine x_callV hC kv_Law_241 (c_MessageCoderModel_draftAt (hD := hD) (hI := hI)) hDo rfl rfl (Nat.le_of_ble_eq_true rfl) rfl rfl rfl (Nat.le_of_ble_eq_true rfl) ⟨by omega, by omega⟩ d_Law_law_1198 (fun r9 Fm z9 hp9 => ?_)
    obtain ⟨rfl, h9c, j0, hag9⟩ := hp9
    rw [h9c]
    clear h9c z9
    have hM : xMC Fm (cm) (b) (M) := xMC_fr hM (fun a9 q1 q2 => hag9 a9 (by omega))
    have hD : xMD Fm (((b + 566))) ((if 0 ≤ (xs (3 * q + 1)) ∧ (xs (3 * q + 1)) < nI M.1.2.1.1 then 0 else 1)) (M) := j0
    have ho : Fm (b + 578) = some (.inr (2, 1, fun b9 => .long ((vp_updL g 0 (((nI (M.1.2.1.2 (xs (3 * q + 1)).toNatClampNeg))).toInt64)) b9))) := (hag9 _ (by omega)).trans ho
    have hod : Fm (b + 579) = some (.inr (3, 1, fun b9 => .double (gd b9))) := (hag9 _ (by omega)).trans hod
    clear j0 hag9
    have hT : ((if 0 ≤ (xs (3 * q + 1)) ∧ (xs (3 * q + 1)) < nI M.1.2.1.1 then 0 else 1)) = 0 := if_pos p_0
    rw [hT] at hD
    refine x_top (v := (nI (M.1.2.1.2 (xs (3 * q + 1)).toNatClampNeg))) (congrArg nI (if_pos p_0)) ?_
    refine x_istore hC d_Law_law_1201 (Nat.le_of_ble_eq_true rfl) (L1 := [some (.ref a), some (.ref b), some (.ref (b + 566)), some (.ref (b + 578)), some (.ref (b + 579)), some (.int (nI (3 * q))), some (.int (nI 0)), some (.int (nI (M.1.2.1.2 (xs (3 * q + 1)).toNatClampNeg))), none, none]) rfl ?_
    refine x_aload_n hC d_Law_law_1203 rfl rfl ?_
    obtain ⟨fsD, hDo⟩ := xMD_at hD
    refine x_callV hC kv_Law_163 (c_thrownD hD) hDo rfl rfl (Nat.le_of_ble_eq_true rfl) rfl rfl rfl (Nat.le_of_ble_eq_true rfl) ⟨by omega, by omega⟩ d_Law_law_1204 (fun r9 F9 z9 hp9 => ?_)
    obtain ⟨rfl, h9b, h9c⟩ := hp9
    rw [h9b, h9c]
    clear h9b h9c F9 z9
    refine x_iload hC d_Law_law_1207 rfl ?_
    refine x_icmpN_eq hC d_Law_law_1209 (tgt := 1214) (by decide) (by omega) (by omega) (fun c_1209 => ?_) (fun c_1209 => ?_)
    · skip
      refine x_iload hC d_Law_law_1214 rfl ?_
      refine x_ifN_ne hC d_Law_law_1216 (tgt := 1231) (by decide) (by omega) (fun c_1216 => ?_) (fun c_1216 => ?_)
      · skip
        exact absurd c_1216 (by omega)
      · skip
        refine x_aload_n hC d_Law_law_1219 rfl rfl ?_
        refine x_iconst hC d_Law_law_1220 (v := nI 0) (by decide) ?_
        refine x_lald hC ho (j := 0) ⟨rfl, by decide, by decide⟩ (x := ((nI (M.1.2.1.2 (xs (3 * q + 1)).toNatClampNeg))).toInt64) rfl d_Law_law_1221 ?_
        refine x_iload hC d_Law_law_1222 rfl ?_
        refine x_i2l hC d_Law_law_1224 rfl ?_
        refine x_lcmp hC d_Law_law_1225 ?_
        refine x_top (v := nI 0) (lg_self _) ?_
        refine x_ifN_eq hC d_Law_law_1226 (tgt := 1231) (by decide) (by omega) (fun c_1226 => ?_) (fun c_1226 => ?_)
        · skip
          refine x_goto hC d_Law_law_1231 (tgt := 2933) (by decide) ?_
          refine x_forget (L1 := [some (.ref a), some (.ref b), some (.ref (b + 566)), some (.ref (b + 578)), some (.ref (b + 579)), some (.int (nI (3 * q))), none, none, none, none]) ⟨Or.inr rfl, ⟨Or.inr rfl, ⟨Or.inr rfl, ⟨Or.inr rfl, ⟨Or.inr rfl, ⟨Or.inr rfl, ⟨Or.inl rfl, ⟨Or.inl rfl, ⟨Or.inl rfl, ⟨Or.inl rfl, trivial⟩⟩⟩⟩⟩⟩⟩⟩⟩⟩ ?_
          exact kk _ _ _ _ _ _ _ _ hM hD ho hod (lwJ_s hJ) (by omega) (by omega)
        · skip
          exact absurd c_1226 (by omega)
    · skip
      exact absurd c_1209 (by omega)
  · skip
    have hM : xMC Fw (cm) (b) (M) := hM9
    have hD : xMD Fw (b + 566) (th) (M) := xMD_fr hD (fun a9 q1 q2 => hag9 a9 (by omega) (by omega))
    have ho : Fw (b + 578) = some (.inr (2, 1, fun b9 => .long (g b9))) := ho9
    have hod : Fw (b + 579) = some (.inr (3, 1, fun b9 => .double (gd b9))) := (hag9 _ (by omega) (by omega)).trans hod
    clear hM9 ho9 hag9
    refine x_istore hC d_Law_law_1189 (Nat.le_of_ble_eq_true rfl) (L1 := [some (.ref a), some (.ref b), some (.ref (b + 566)), some (.ref (b + 578)), some (.ref (b + 579)), some (.int (nI (3 * q))), some (.int (nI 1)), none, none, none]) rfl ?_
    refine x_aload_n hC d_Law_law_1191 rfl rfl ?_
    refine x_aload_n hC d_Law_law_1192 rfl rfl ?_
    refine x_iload hC d_Law_law_1193 rfl ?_
    refine x_iconst hC d_Law_law_1195 (v := nI 1) (by decide) ?_
    refine x_iadd hC d_Law_law_1196 (v := (nI (3 * q + 1))) (x_addN (by omega)) ?_
    refine x_sld hC hX ha (j := 3 * q + 1) ⟨rfl, by omega, by omega⟩ d_Law_law_1197 ?_
    obtain ⟨fsD, hDo⟩ := xMD_at hD
    refine x_callV hC kv_Law_241 (c_MessageCoderModel_draftAt (hD := hD) (hI := hI)) hDo rfl rfl (Nat.le_of_ble_eq_true rfl) rfl rfl rfl (Nat.le_of_ble_eq_true rfl) ⟨by omega, by omega⟩ d_Law_law_1198 (fun r9 Fm z9 hp9 => ?_)
    obtain ⟨rfl, h9c, j0, hag9⟩ := hp9
    rw [h9c]
    clear h9c z9
    have hM : xMC Fm (cm) (b) (M) := xMC_fr hM (fun a9 q1 q2 => hag9 a9 (by omega))
    have hD : xMD Fm (((b + 566))) ((if 0 ≤ (xs (3 * q + 1)) ∧ (xs (3 * q + 1)) < nI M.1.2.1.1 then 0 else 1)) (M) := j0
    have ho : Fm (b + 578) = some (.inr (2, 1, fun b9 => .long (g b9))) := (hag9 _ (by omega)).trans ho
    have hod : Fm (b + 579) = some (.inr (3, 1, fun b9 => .double (gd b9))) := (hag9 _ (by omega)).trans hod
    clear j0 hag9
    have hT : ((if 0 ≤ (xs (3 * q + 1)) ∧ (xs (3 * q + 1)) < nI M.1.2.1.1 then 0 else 1)) = 1 := if_neg hcond
    rw [hT] at hD
    refine x_istore hC d_Law_law_1201 (Nat.le_of_ble_eq_true rfl) (L1 := [some (.ref a), some (.ref b), some (.ref (b + 566)), some (.ref (b + 578)), some (.ref (b + 579)), some (.int (nI (3 * q))), some (.int (nI 1)), some (.int (nI (if 0 ≤ (xs (3 * q + 1)) ∧ (xs (3 * q + 1)) < nI M.1.2.1.1 then M.1.2.1.2 (xs (3 * q + 1)).toNatClampNeg else 0))), none, none]) rfl ?_
    refine x_aload_n hC d_Law_law_1203 rfl rfl ?_
    obtain ⟨fsD, hDo⟩ := xMD_at hD
    refine x_callV hC kv_Law_163 (c_thrownD hD) hDo rfl rfl (Nat.le_of_ble_eq_true rfl) rfl rfl rfl (Nat.le_of_ble_eq_true rfl) ⟨by omega, by omega⟩ d_Law_law_1204 (fun r9 F9 z9 hp9 => ?_)
    obtain ⟨rfl, h9b, h9c⟩ := hp9
    rw [h9b, h9c]
    clear h9b h9c F9 z9
    refine x_iload hC d_Law_law_1207 rfl ?_
    refine x_icmpN_eq hC d_Law_law_1209 (tgt := 1214) (by decide) (by omega) (by omega) (fun c_1209 => ?_) (fun c_1209 => ?_)
    · skip
      refine x_iload hC d_Law_law_1214 rfl ?_
      refine x_ifN_ne hC d_Law_law_1216 (tgt := 1231) (by decide) (by omega) (fun c_1216 => ?_) (fun c_1216 => ?_)
      · skip
        refine x_goto hC d_Law_law_1231 (tgt := 2933) (by decide) ?_
        refine x_forget (L1 := [some (.ref a), some (.ref b), some (.ref (b + 566)), some (.ref (b + 578)), some (.ref (b + 579)), some (.int (nI (3 * q))), none, none, none, none]) ⟨Or.inr rfl, ⟨Or.inr rfl, ⟨Or.inr rfl, ⟨Or.inr rfl, ⟨Or.inr rfl, ⟨Or.inr rfl, ⟨Or.inl rfl, ⟨Or.inl rfl, ⟨Or.inl rfl, ⟨Or.inl rfl, trivial⟩⟩⟩⟩⟩⟩⟩⟩⟩⟩ ?_
        exact kk _ _ _ _ _ _ _ _ hM hD ho hod (lwJ_s hJ) (by omega) (by omega)
      · skip
        exact absurd c_1216 (by omega)
    · skip
      exact absurd c_1209 (by omega)

set_option maxHeartbeats 4000000 in
set_option maxRecDepth 20000 in
theorem lc_22 {P : xP} {Θ : xT} {cm : cmT} {a N b sm rt q : Nat} {xs : Nat → Int32} (E : lwE P Θ cm a N b sm rt xs) {F : xF} {z k n th : Nat} {M : mcS} {g : Nat → Int64} {gd : Nat → UInt64} (hM : xMC F (cm) (b) (M)) (hD : xMD F (b + 566) (th) (M)) (ho : F (b + 578) = some (.inr (2, 1, fun b9 => .long (g b9)))) (hod : F (b + 579) = some (.inr (3, 1, fun b9 => .double (gd b9)))) (hJ : lwJ q M) (hq : 3 * q + 3 ≤ N) (hkn : k + 2 ≤ 603072 ∧ n + 12 ≤ 7207018) (kk : lwK P Θ cm a b q k n) : xX P Θ 1234 [some (.ref (a)), some (.ref (b)), some (.ref (b + 566)), some (.ref (b + 578)), some (.ref (b + 579)), some (.int (nI (3 * q))), none, none, none, none] [] F z k n := by
  obtain ⟨hC, hX, ha, hN, hCM, hSM, hSR, hZx, hNx⟩ := E
  obtain ⟨hI, hS, hpp⟩ := id hJ
  obtain ⟨hk9, hn9⟩ := hkn
  have hu8 : M.2.2.2.2.2.2.2.1 ≤ 8 := hI.2.2.2.1
  have hup0 : M.2.2.2.2.2.2.2.1 ≤ M.2.2.2.2.2.2.1 := hI.2.2.2.2.1
  have hsv0 : M.2.2.2.2.2.1 ≤ 1 := hI.2.2.2.2.2.1
  have hpp0 : M.2.2.2.2.2.2.1 < 100000 := by omega
  have hun0 : M.2.2.2.2.2.2.2.1 < 100000 := by omega
  obtain ⟨hb1, hb2, hb3⟩ := hS.1
  have hnx : M.1.2.2.1.2.1 < 999 := by omega
  have hn0 : M.1.2.2.1.2.1 + 1 < 1000 := by omega
  have hg0 : M.1.2.2.2.2.2.2.1 < 1000 := by omega
  have hf0 : M.1.2.2.2.2.2.2.2.2 < 1000 := by omega
  refine x_aload_n hC d_Law_law_1234 rfl rfl ?_
  obtain ⟨hMo, -⟩ := id hM
  refine x_callV hC kv_Law_242 (c_MessageCoder_draftBits (hM := hM) ) hMo rfl rfl (Nat.le_of_ble_eq_true rfl) rfl rfl rfl (Nat.le_of_ble_eq_true rfl) ⟨by omega, by omega⟩ d_Law_law_1235 (fun r9 Fc z9 hp9 => ?_)
  obtain ⟨rfl, h9b, h9c⟩ := hp9
  rw [h9b, h9c]
  clear h9b h9c Fc z9
  refine x_aload_n hC d_Law_law_1238 rfl rfl ?_
  obtain ⟨fsD, hDo⟩ := xMD_at hD
  refine x_callV hC kv_Law_245 (c_MessageCoderModel_draftBits (hD := hD) (hI := hI)) hDo rfl rfl (Nat.le_of_ble_eq_true rfl) rfl rfl rfl (Nat.le_of_ble_eq_true rfl) ⟨by omega, by omega⟩ d_Law_law_1239 (fun r9 Fm z9 hp9 => ?_)
  obtain ⟨rfl, h9c, j0, hag9⟩ := hp9
  rw [h9c]
  clear h9c z9
  have hM : xMC Fm (cm) (b) (M) := xMC_fr hM (fun a9 q1 q2 => hag9 a9 (by omega))
  have hD : xMD Fm (((b + 566))) (0) (M) := j0
  have ho : Fm (b + 578) = some (.inr (2, 1, fun b9 => .long (g b9))) := (hag9 _ (by omega)).trans ho
  have hod : Fm (b + 579) = some (.inr (3, 1, fun b9 => .double (gd b9))) := (hag9 _ (by omega)).trans hod
  clear j0 hag9
  refine x_icmp_eq hC d_Law_law_1242 (tgt := 2933) (by decide) (fun c_1242 => ?_) (fun c_1242 => ?_)
  · skip
    exact kk _ _ _ _ _ _ _ _ hM hD ho hod (lwJ_s hJ) (by omega) (by omega)
  · exact absurd rfl c_1242

set_option maxHeartbeats 4000000 in
set_option maxRecDepth 20000 in
theorem lc_23 {P : xP} {Θ : xT} {cm : cmT} {a N b sm rt q : Nat} {xs : Nat → Int32} (E : lwE P Θ cm a N b sm rt xs) {F : xF} {z k n th : Nat} {M : mcS} {g : Nat → Int64} {gd : Nat → UInt64} (hM : xMC F (cm) (b) (M)) (hD : xMD F (b + 566) (th) (M)) (ho : F (b + 578) = some (.inr (2, 1, fun b9 => .long (g b9)))) (hod : F (b + 579) = some (.inr (3, 1, fun b9 => .double (gd b9)))) (hJ : lwJ q M) (hq : 3 * q + 3 ≤ N) (hkn : k + 2 ≤ 603072 ∧ n + 12 ≤ 7207018) (kk : lwK P Θ cm a b q k n) : xX P Θ 1247 [some (.ref (a)), some (.ref (b)), some (.ref (b + 566)), some (.ref (b + 578)), some (.ref (b + 579)), some (.int (nI (3 * q))), none, none, none, none] [] F z k n := by
  obtain ⟨hC, hX, ha, hN, hCM, hSM, hSR, hZx, hNx⟩ := E
  obtain ⟨hI, hS, hpp⟩ := id hJ
  obtain ⟨hk9, hn9⟩ := hkn
  have hu8 : M.2.2.2.2.2.2.2.1 ≤ 8 := hI.2.2.2.1
  have hup0 : M.2.2.2.2.2.2.2.1 ≤ M.2.2.2.2.2.2.1 := hI.2.2.2.2.1
  have hsv0 : M.2.2.2.2.2.1 ≤ 1 := hI.2.2.2.2.2.1
  have hpp0 : M.2.2.2.2.2.2.1 < 100000 := by omega
  have hun0 : M.2.2.2.2.2.2.2.1 < 100000 := by omega
  obtain ⟨hb1, hb2, hb3⟩ := hS.1
  have hnx : M.1.2.2.1.2.1 < 999 := by omega
  have hn0 : M.1.2.2.1.2.1 + 1 < 1000 := by omega
  have hg0 : M.1.2.2.2.2.2.2.1 < 1000 := by omega
  have hf0 : M.1.2.2.2.2.2.2.2.2 < 1000 := by omega
  refine x_aload_n hC d_Law_law_1247 rfl rfl ?_
  obtain ⟨hMo, -⟩ := id hM
  refine x_callV hC kv_Law_246 (c_MessageCoder_messageCount (hM := hM) ) hMo rfl rfl (Nat.le_of_ble_eq_true rfl) rfl rfl rfl (Nat.le_of_ble_eq_true rfl) ⟨by omega, by omega⟩ d_Law_law_1248 (fun r9 Fc z9 hp9 => ?_)
  obtain ⟨rfl, h9b, h9c⟩ := hp9
  rw [h9b, h9c]
  clear h9b h9c Fc z9
  refine x_aload_n hC d_Law_law_1251 rfl rfl ?_
  obtain ⟨fsD, hDo⟩ := xMD_at hD
  refine x_callV hC kv_Law_249 (c_MessageCoderModel_messageCount (hD := hD) (hI := hI)) hDo rfl rfl (Nat.le_of_ble_eq_true rfl) rfl rfl rfl (Nat.le_of_ble_eq_true rfl) ⟨by omega, by omega⟩ d_Law_law_1252 (fun r9 Fm z9 hp9 => ?_)
  obtain ⟨rfl, h9c, j0, hag9⟩ := hp9
  rw [h9c]
  clear h9c z9
  have hM : xMC Fm (cm) (b) (M) := xMC_fr hM (fun a9 q1 q2 => hag9 a9 (by omega))
  have hD : xMD Fm (((b + 566))) (0) (M) := j0
  have ho : Fm (b + 578) = some (.inr (2, 1, fun b9 => .long (g b9))) := (hag9 _ (by omega)).trans ho
  have hod : Fm (b + 579) = some (.inr (3, 1, fun b9 => .double (gd b9))) := (hag9 _ (by omega)).trans hod
  clear j0 hag9
  refine x_icmp_eq hC d_Law_law_1255 (tgt := 2933) (by decide) (fun c_1255 => ?_) (fun c_1255 => ?_)
  · skip
    exact kk _ _ _ _ _ _ _ _ hM hD ho hod (lwJ_s hJ) (by omega) (by omega)
  · exact absurd rfl c_1255

set_option maxHeartbeats 4000000 in
set_option maxRecDepth 20000 in
theorem lc_24 {P : xP} {Θ : xT} {cm : cmT} {a N b sm rt q : Nat} {xs : Nat → Int32} (E : lwE P Θ cm a N b sm rt xs) {F : xF} {z k n th : Nat} {M : mcS} {g : Nat → Int64} {gd : Nat → UInt64} (hM : xMC F (cm) (b) (M)) (hD : xMD F (b + 566) (th) (M)) (ho : F (b + 578) = some (.inr (2, 1, fun b9 => .long (g b9)))) (hod : F (b + 579) = some (.inr (3, 1, fun b9 => .double (gd b9)))) (hJ : lwJ q M) (hq : 3 * q + 3 ≤ N) (hkn : k + 2 ≤ 603072 ∧ n + 12 ≤ 7207018) (kk : lwK P Θ cm a b q k n) : xX P Θ 1260 [some (.ref (a)), some (.ref (b)), some (.ref (b + 566)), some (.ref (b + 578)), some (.ref (b + 579)), some (.int (nI (3 * q))), none, none, none, none] [] F z k n := by
  obtain ⟨hC, hX, ha, hN, hCM, hSM, hSR, hZx, hNx⟩ := E
  obtain ⟨hI, hS, hpp⟩ := id hJ
  obtain ⟨hk9, hn9⟩ := hkn
  have hu8 : M.2.2.2.2.2.2.2.1 ≤ 8 := hI.2.2.2.1
  have hup0 : M.2.2.2.2.2.2.2.1 ≤ M.2.2.2.2.2.2.1 := hI.2.2.2.2.1
  have hsv0 : M.2.2.2.2.2.1 ≤ 1 := hI.2.2.2.2.2.1
  have hpp0 : M.2.2.2.2.2.2.1 < 100000 := by omega
  have hun0 : M.2.2.2.2.2.2.2.1 < 100000 := by omega
  obtain ⟨hb1, hb2, hb3⟩ := hS.1
  have hnx : M.1.2.2.1.2.1 < 999 := by omega
  have hn0 : M.1.2.2.1.2.1 + 1 < 1000 := by omega
  have hg0 : M.1.2.2.2.2.2.2.1 < 1000 := by omega
  have hf0 : M.1.2.2.2.2.2.2.2.2 < 1000 := by omega
  refine x_aload_n hC d_Law_law_1260 rfl rfl ?_
  refine x_aload_n hC d_Law_law_1261 rfl rfl ?_
  refine x_iload hC d_Law_law_1262 rfl ?_
  refine x_iconst hC d_Law_law_1264 (v := nI 1) (by decide) ?_
  refine x_iadd hC d_Law_law_1265 (v := (nI (3 * q + 1))) (x_addN (by omega)) ?_
  refine x_sld hC hX ha (j := 3 * q + 1) ⟨rfl, by omega, by omega⟩ d_Law_law_1266 ?_
  refine x_aload_n hC d_Law_law_1267 rfl rfl ?_
  refine x_callW hC kw_Law_250 (c_Law_messageAt (hM := hM) (ho := ho) (hZx := hZx) (hNx := hNx) (hbo := Or.inr (by omega))) (Nat.le_of_ble_eq_true rfl) rfl rfl rfl (Nat.le_of_ble_eq_true rfl) ⟨by omega, by omega⟩ d_Law_law_1268 (fun r9 Fw zw hp9 => ?_)
  rcases hp9 with ⟨rfl, hM9, ho9, p_0, hag9⟩ | ⟨rfl, hM9, ho9, hcond, hag9⟩
  · skip
    have hM : xMC Fw (cm) (b) (M) := hM9
    have hD : xMD Fw (b + 566) (th) (M) := xMD_fr hD (fun a9 q1 q2 => hag9 a9 (by omega) (by omega))
    have ho : Fw (b + 578) = some (.inr (2, 1, fun b9 => .long ((vp_updL g 0 (((nI ((M.1.2.2.1.2.2 (mRk M.1 (xs (3 * q + 1)))).1))).toInt64)) b9))) := ho9
    have hod : Fw (b + 579) = some (.inr (3, 1, fun b9 => .double (gd b9))) := (hag9 _ (by omega) (by omega)).trans hod
    clear hM9 ho9 hag9
    refine x_istore hC d_Law_law_1271 (Nat.le_of_ble_eq_true rfl) (L1 := [some (.ref a), some (.ref b), some (.ref (b + 566)), some (.ref (b + 578)), some (.ref (b + 579)), some (.int (nI (3 * q))), some (.int (nI 0)), none, none, none]) rfl ?_
    refine x_aload_n hC d_Law_law_1273 rfl rfl ?_
    refine x_aload_n hC d_Law_law_1274 rfl rfl ?_
    refine x_iload hC d_Law_law_1275 rfl ?_
    refine x_iconst hC d_Law_law_1277 (v := nI 1) (by decide) ?_
    refine x_iadd hC d_Law_law_1278 (v := (nI (3 * q + 1))) (x_addN (by omega)) ?_
    refine x_sld hC hX ha (j := 3 * q + 1) ⟨rfl, by omega, by omega⟩ d_Law_law_1279 ?_
    obtain ⟨fsD, hDo⟩ := xMD_at hD
    refine x_callV hC kv_Law_252 (c_MessageCoderModel_messageAt (hD := hD) (hI := hI)) hDo rfl rfl (Nat.le_of_ble_eq_true rfl) rfl rfl rfl (Nat.le_of_ble_eq_true rfl) ⟨by omega, by omega⟩ d_Law_law_1280 (fun r9 Fm z9 hp9 => ?_)
    obtain ⟨rfl, h9c, j0, hag9⟩ := hp9
    rw [h9c]
    clear h9c z9
    have hM : xMC Fm (cm) (b) (M) := xMC_fr hM (fun a9 q1 q2 => hag9 a9 (by omega))
    have hD : xMD Fm (((b + 566))) ((if mRk M.1 (xs (3 * q + 1)) < M.1.2.2.1.1 then 0 else 1)) (M) := j0
    have ho : Fm (b + 578) = some (.inr (2, 1, fun b9 => .long ((vp_updL g 0 (((nI ((M.1.2.2.1.2.2 (mRk M.1 (xs (3 * q + 1)))).1))).toInt64)) b9))) := (hag9 _ (by omega)).trans ho
    have hod : Fm (b + 579) = some (.inr (3, 1, fun b9 => .double (gd b9))) := (hag9 _ (by omega)).trans hod
    clear j0 hag9
    have hT : ((if mRk M.1 (xs (3 * q + 1)) < M.1.2.2.1.1 then 0 else 1)) = 0 := if_pos p_0
    rw [hT] at hD
    refine x_top (v := (nI ((M.1.2.2.1.2.2 (mRk M.1 (xs (3 * q + 1)))).1))) (congrArg nI (if_pos p_0)) ?_
    refine x_istore hC d_Law_law_1283 (Nat.le_of_ble_eq_true rfl) (L1 := [some (.ref a), some (.ref b), some (.ref (b + 566)), some (.ref (b + 578)), some (.ref (b + 579)), some (.int (nI (3 * q))), some (.int (nI 0)), some (.int (nI ((M.1.2.2.1.2.2 (mRk M.1 (xs (3 * q + 1)))).1))), none, none]) rfl ?_
    refine x_aload_n hC d_Law_law_1285 rfl rfl ?_
    obtain ⟨fsD, hDo⟩ := xMD_at hD
    refine x_callV hC kv_Law_163 (c_thrownD hD) hDo rfl rfl (Nat.le_of_ble_eq_true rfl) rfl rfl rfl (Nat.le_of_ble_eq_true rfl) ⟨by omega, by omega⟩ d_Law_law_1286 (fun r9 F9 z9 hp9 => ?_)
    obtain ⟨rfl, h9b, h9c⟩ := hp9
    rw [h9b, h9c]
    clear h9b h9c F9 z9
    refine x_iload hC d_Law_law_1289 rfl ?_
    refine x_icmpN_eq hC d_Law_law_1291 (tgt := 1296) (by decide) (by omega) (by omega) (fun c_1291 => ?_) (fun c_1291 => ?_)
    · skip
      refine x_iload hC d_Law_law_1296 rfl ?_
      refine x_ifN_ne hC d_Law_law_1298 (tgt := 1313) (by decide) (by omega) (fun c_1298 => ?_) (fun c_1298 => ?_)
      · skip
        exact absurd c_1298 (by omega)
      · skip
        refine x_aload_n hC d_Law_law_1301 rfl rfl ?_
        refine x_iconst hC d_Law_law_1302 (v := nI 0) (by decide) ?_
        refine x_lald hC ho (j := 0) ⟨rfl, by decide, by decide⟩ (x := ((nI ((M.1.2.2.1.2.2 (mRk M.1 (xs (3 * q + 1)))).1))).toInt64) rfl d_Law_law_1303 ?_
        refine x_iload hC d_Law_law_1304 rfl ?_
        refine x_i2l hC d_Law_law_1306 rfl ?_
        refine x_lcmp hC d_Law_law_1307 ?_
        refine x_top (v := nI 0) (lg_self _) ?_
        refine x_ifN_eq hC d_Law_law_1308 (tgt := 1313) (by decide) (by omega) (fun c_1308 => ?_) (fun c_1308 => ?_)
        · skip
          refine x_goto hC d_Law_law_1313 (tgt := 2933) (by decide) ?_
          refine x_forget (L1 := [some (.ref a), some (.ref b), some (.ref (b + 566)), some (.ref (b + 578)), some (.ref (b + 579)), some (.int (nI (3 * q))), none, none, none, none]) ⟨Or.inr rfl, ⟨Or.inr rfl, ⟨Or.inr rfl, ⟨Or.inr rfl, ⟨Or.inr rfl, ⟨Or.inr rfl, ⟨Or.inl rfl, ⟨Or.inl rfl, ⟨Or.inl rfl, ⟨Or.inl rfl, trivial⟩⟩⟩⟩⟩⟩⟩⟩⟩⟩ ?_
          exact kk _ _ _ _ _ _ _ _ hM hD ho hod (lwJ_s hJ) (by omega) (by omega)
        · skip
          exact absurd c_1308 (by omega)
    · skip
      exact absurd c_1291 (by omega)
  · skip
    have hM : xMC Fw (cm) (b) (M) := hM9
    have hD : xMD Fw (b + 566) (th) (M) := xMD_fr hD (fun a9 q1 q2 => hag9 a9 (by omega) (by omega))
    have ho : Fw (b + 578) = some (.inr (2, 1, fun b9 => .long (g b9))) := ho9
    have hod : Fw (b + 579) = some (.inr (3, 1, fun b9 => .double (gd b9))) := (hag9 _ (by omega) (by omega)).trans hod
    clear hM9 ho9 hag9
    refine x_istore hC d_Law_law_1271 (Nat.le_of_ble_eq_true rfl) (L1 := [some (.ref a), some (.ref b), some (.ref (b + 566)), some (.ref (b + 578)), some (.ref (b + 579)), some (.int (nI (3 * q))), some (.int (nI 1)), none, none, none]) rfl ?_
    refine x_aload_n hC d_Law_law_1273 rfl rfl ?_
    refine x_aload_n hC d_Law_law_1274 rfl rfl ?_
    refine x_iload hC d_Law_law_1275 rfl ?_
    refine x_iconst hC d_Law_law_1277 (v := nI 1) (by decide) ?_
    refine x_iadd hC d_Law_law_1278 (v := (nI (3 * q + 1))) (x_addN (by omega)) ?_
    refine x_sld hC hX ha (j := 3 * q + 1) ⟨rfl, by omega, by omega⟩ d_Law_law_1279 ?_
    obtain ⟨fsD, hDo⟩ := xMD_at hD
    refine x_callV hC kv_Law_252 (c_MessageCoderModel_messageAt (hD := hD) (hI := hI)) hDo rfl rfl (Nat.le_of_ble_eq_true rfl) rfl rfl rfl (Nat.le_of_ble_eq_true rfl) ⟨by omega, by omega⟩ d_Law_law_1280 (fun r9 Fm z9 hp9 => ?_)
    obtain ⟨rfl, h9c, j0, hag9⟩ := hp9
    rw [h9c]
    clear h9c z9
    have hM : xMC Fm (cm) (b) (M) := xMC_fr hM (fun a9 q1 q2 => hag9 a9 (by omega))
    have hD : xMD Fm (((b + 566))) ((if mRk M.1 (xs (3 * q + 1)) < M.1.2.2.1.1 then 0 else 1)) (M) := j0
    have ho : Fm (b + 578) = some (.inr (2, 1, fun b9 => .long (g b9))) := (hag9 _ (by omega)).trans ho
    have hod : Fm (b + 579) = some (.inr (3, 1, fun b9 => .double (gd b9))) := (hag9 _ (by omega)).trans hod
    clear j0 hag9
    have hT : ((if mRk M.1 (xs (3 * q + 1)) < M.1.2.2.1.1 then 0 else 1)) = 1 := if_neg hcond
    rw [hT] at hD
    refine x_istore hC d_Law_law_1283 (Nat.le_of_ble_eq_true rfl) (L1 := [some (.ref a), some (.ref b), some (.ref (b + 566)), some (.ref (b + 578)), some (.ref (b + 579)), some (.int (nI (3 * q))), some (.int (nI 1)), some (.int (nI (if mRk M.1 (xs (3 * q + 1)) < M.1.2.2.1.1 then (M.1.2.2.1.2.2 (mRk M.1 (xs (3 * q + 1)))).1 else 0))), none, none]) rfl ?_
    refine x_aload_n hC d_Law_law_1285 rfl rfl ?_
    obtain ⟨fsD, hDo⟩ := xMD_at hD
    refine x_callV hC kv_Law_163 (c_thrownD hD) hDo rfl rfl (Nat.le_of_ble_eq_true rfl) rfl rfl rfl (Nat.le_of_ble_eq_true rfl) ⟨by omega, by omega⟩ d_Law_law_1286 (fun r9 F9 z9 hp9 => ?_)
    obtain ⟨rfl, h9b, h9c⟩ := hp9
    rw [h9b, h9c]
    clear h9b h9c F9 z9
    refine x_iload hC d_Law_law_1289 rfl ?_
    refine x_icmpN_eq hC d_Law_law_1291 (tgt := 1296) (by decide) (by omega) (by omega) (fun c_1291 => ?_) (fun c_1291 => ?_)
    · skip
      refine x_iload hC d_Law_law_1296 rfl ?_
      refine x_ifN_ne hC d_Law_law_1298 (tgt := 1313) (by decide) (by omega) (fun c_1298 => ?_) (fun c_1298 => ?_)
      · skip
        refine x_goto hC d_Law_law_1313 (tgt := 2933) (by decide) ?_
        refine x_forget (L1 := [some (.ref a), some (.ref b), some (.ref (b + 566)), some (.ref (b + 578)), some (.ref (b + 579)), some (.int (nI (3 * q))), none, none, none, none]) ⟨Or.inr rfl, ⟨Or.inr rfl, ⟨Or.inr rfl, ⟨Or.inr rfl, ⟨Or.inr rfl, ⟨Or.inr rfl, ⟨Or.inl rfl, ⟨Or.inl rfl, ⟨Or.inl rfl, ⟨Or.inl rfl, trivial⟩⟩⟩⟩⟩⟩⟩⟩⟩⟩ ?_
        exact kk _ _ _ _ _ _ _ _ hM hD ho hod (lwJ_s hJ) (by omega) (by omega)
      · skip
        exact absurd c_1298 (by omega)
    · skip
      exact absurd c_1291 (by omega)

set_option maxHeartbeats 4000000 in
set_option maxRecDepth 20000 in
theorem lc_25 {P : xP} {Θ : xT} {cm : cmT} {a N b sm rt q : Nat} {xs : Nat → Int32} (E : lwE P Θ cm a N b sm rt xs) {F : xF} {z k n th : Nat} {M : mcS} {g : Nat → Int64} {gd : Nat → UInt64} (hM : xMC F (cm) (b) (M)) (hD : xMD F (b + 566) (th) (M)) (ho : F (b + 578) = some (.inr (2, 1, fun b9 => .long (g b9)))) (hod : F (b + 579) = some (.inr (3, 1, fun b9 => .double (gd b9)))) (hJ : lwJ q M) (hq : 3 * q + 3 ≤ N) (hkn : k + 2 ≤ 603072 ∧ n + 12 ≤ 7207018) (kk : lwK P Θ cm a b q k n) : xX P Θ 1316 [some (.ref (a)), some (.ref (b)), some (.ref (b + 566)), some (.ref (b + 578)), some (.ref (b + 579)), some (.int (nI (3 * q))), none, none, none, none] [] F z k n := by
  obtain ⟨hC, hX, ha, hN, hCM, hSM, hSR, hZx, hNx⟩ := E
  obtain ⟨hI, hS, hpp⟩ := id hJ
  obtain ⟨hk9, hn9⟩ := hkn
  have hu8 : M.2.2.2.2.2.2.2.1 ≤ 8 := hI.2.2.2.1
  have hup0 : M.2.2.2.2.2.2.2.1 ≤ M.2.2.2.2.2.2.1 := hI.2.2.2.2.1
  have hsv0 : M.2.2.2.2.2.1 ≤ 1 := hI.2.2.2.2.2.1
  have hpp0 : M.2.2.2.2.2.2.1 < 100000 := by omega
  have hun0 : M.2.2.2.2.2.2.2.1 < 100000 := by omega
  obtain ⟨hb1, hb2, hb3⟩ := hS.1
  have hnx : M.1.2.2.1.2.1 < 999 := by omega
  have hn0 : M.1.2.2.1.2.1 + 1 < 1000 := by omega
  have hg0 : M.1.2.2.2.2.2.2.1 < 1000 := by omega
  have hf0 : M.1.2.2.2.2.2.2.2.2 < 1000 := by omega
  refine x_aload_n hC d_Law_law_1316 rfl rfl ?_
  refine x_aload_n hC d_Law_law_1317 rfl rfl ?_
  refine x_iload hC d_Law_law_1318 rfl ?_
  refine x_iconst hC d_Law_law_1320 (v := nI 1) (by decide) ?_
  refine x_iadd hC d_Law_law_1321 (v := (nI (3 * q + 1))) (x_addN (by omega)) ?_
  refine x_sld hC hX ha (j := 3 * q + 1) ⟨rfl, by omega, by omega⟩ d_Law_law_1322 ?_
  refine x_aload_n hC d_Law_law_1323 rfl rfl ?_
  refine x_callW hC kw_Law_253 (c_Law_priorityOf (hM := hM) (ho := ho) (hZx := hZx) (hNx := hNx) (hbo := Or.inr (by omega))) (Nat.le_of_ble_eq_true rfl) rfl rfl rfl (Nat.le_of_ble_eq_true rfl) ⟨by omega, by omega⟩ d_Law_law_1324 (fun r9 Fw zw hp9 => ?_)
  rcases hp9 with ⟨rfl, hM9, ho9, p_0, hag9⟩ | ⟨rfl, hM9, ho9, hcond, hag9⟩
  · skip
    have hM : xMC Fw (cm) (b) (M) := hM9
    have hD : xMD Fw (b + 566) (th) (M) := xMD_fr hD (fun a9 q1 q2 => hag9 a9 (by omega) (by omega))
    have ho : Fw (b + 578) = some (.inr (2, 1, fun b9 => .long ((vp_updL g 0 (((nI ((mAt M.1 (xs (3 * q + 1))).2.1))).toInt64)) b9))) := ho9
    have hod : Fw (b + 579) = some (.inr (3, 1, fun b9 => .double (gd b9))) := (hag9 _ (by omega) (by omega)).trans hod
    clear hM9 ho9 hag9
    refine x_istore hC d_Law_law_1327 (Nat.le_of_ble_eq_true rfl) (L1 := [some (.ref a), some (.ref b), some (.ref (b + 566)), some (.ref (b + 578)), some (.ref (b + 579)), some (.int (nI (3 * q))), some (.int (nI 0)), none, none, none]) rfl ?_
    refine x_aload_n hC d_Law_law_1329 rfl rfl ?_
    refine x_aload_n hC d_Law_law_1330 rfl rfl ?_
    refine x_iload hC d_Law_law_1331 rfl ?_
    refine x_iconst hC d_Law_law_1333 (v := nI 1) (by decide) ?_
    refine x_iadd hC d_Law_law_1334 (v := (nI (3 * q + 1))) (x_addN (by omega)) ?_
    refine x_sld hC hX ha (j := 3 * q + 1) ⟨rfl, by omega, by omega⟩ d_Law_law_1335 ?_
    obtain ⟨fsD, hDo⟩ := xMD_at hD
    refine x_callV hC kv_Law_255 (c_MessageCoderModel_priorityOf (hD := hD) (hI := hI)) hDo rfl rfl (Nat.le_of_ble_eq_true rfl) rfl rfl rfl (Nat.le_of_ble_eq_true rfl) ⟨by omega, by omega⟩ d_Law_law_1336 (fun r9 Fm z9 hp9 => ?_)
    obtain ⟨rfl, h9c, j0, hag9⟩ := hp9
    rw [h9c]
    clear h9c z9
    have hM : xMC Fm (cm) (b) (M) := xMC_fr hM (fun a9 q1 q2 => hag9 a9 (by omega))
    have hD : xMD Fm (((b + 566))) ((if mOk M.1 (xs (3 * q + 1)) then 0 else 1)) (M) := j0
    have ho : Fm (b + 578) = some (.inr (2, 1, fun b9 => .long ((vp_updL g 0 (((nI ((mAt M.1 (xs (3 * q + 1))).2.1))).toInt64)) b9))) := (hag9 _ (by omega)).trans ho
    have hod : Fm (b + 579) = some (.inr (3, 1, fun b9 => .double (gd b9))) := (hag9 _ (by omega)).trans hod
    clear j0 hag9
    have hT : ((if mOk M.1 (xs (3 * q + 1)) then 0 else 1)) = 0 := if_pos p_0
    rw [hT] at hD
    refine x_top (v := (nI ((mAt M.1 (xs (3 * q + 1))).2.1))) (congrArg nI (if_pos p_0)) ?_
    refine x_istore hC d_Law_law_1339 (Nat.le_of_ble_eq_true rfl) (L1 := [some (.ref a), some (.ref b), some (.ref (b + 566)), some (.ref (b + 578)), some (.ref (b + 579)), some (.int (nI (3 * q))), some (.int (nI 0)), some (.int (nI ((mAt M.1 (xs (3 * q + 1))).2.1))), none, none]) rfl ?_
    refine x_aload_n hC d_Law_law_1341 rfl rfl ?_
    obtain ⟨fsD, hDo⟩ := xMD_at hD
    refine x_callV hC kv_Law_163 (c_thrownD hD) hDo rfl rfl (Nat.le_of_ble_eq_true rfl) rfl rfl rfl (Nat.le_of_ble_eq_true rfl) ⟨by omega, by omega⟩ d_Law_law_1342 (fun r9 F9 z9 hp9 => ?_)
    obtain ⟨rfl, h9b, h9c⟩ := hp9
    rw [h9b, h9c]
    clear h9b h9c F9 z9
    refine x_iload hC d_Law_law_1345 rfl ?_
    refine x_icmpN_eq hC d_Law_law_1347 (tgt := 1352) (by decide) (by omega) (by omega) (fun c_1347 => ?_) (fun c_1347 => ?_)
    · skip
      refine x_iload hC d_Law_law_1352 rfl ?_
      refine x_ifN_ne hC d_Law_law_1354 (tgt := 1369) (by decide) (by omega) (fun c_1354 => ?_) (fun c_1354 => ?_)
      · skip
        exact absurd c_1354 (by omega)
      · skip
        refine x_aload_n hC d_Law_law_1357 rfl rfl ?_
        refine x_iconst hC d_Law_law_1358 (v := nI 0) (by decide) ?_
        refine x_lald hC ho (j := 0) ⟨rfl, by decide, by decide⟩ (x := ((nI ((mAt M.1 (xs (3 * q + 1))).2.1))).toInt64) rfl d_Law_law_1359 ?_
        refine x_iload hC d_Law_law_1360 rfl ?_
        refine x_i2l hC d_Law_law_1362 rfl ?_
        refine x_lcmp hC d_Law_law_1363 ?_
        refine x_top (v := nI 0) (lg_self _) ?_
        refine x_ifN_eq hC d_Law_law_1364 (tgt := 1369) (by decide) (by omega) (fun c_1364 => ?_) (fun c_1364 => ?_)
        · skip
          refine x_goto hC d_Law_law_1369 (tgt := 2933) (by decide) ?_
          refine x_forget (L1 := [some (.ref a), some (.ref b), some (.ref (b + 566)), some (.ref (b + 578)), some (.ref (b + 579)), some (.int (nI (3 * q))), none, none, none, none]) ⟨Or.inr rfl, ⟨Or.inr rfl, ⟨Or.inr rfl, ⟨Or.inr rfl, ⟨Or.inr rfl, ⟨Or.inr rfl, ⟨Or.inl rfl, ⟨Or.inl rfl, ⟨Or.inl rfl, ⟨Or.inl rfl, trivial⟩⟩⟩⟩⟩⟩⟩⟩⟩⟩ ?_
          exact kk _ _ _ _ _ _ _ _ hM hD ho hod (lwJ_s hJ) (by omega) (by omega)
        · skip
          exact absurd c_1364 (by omega)
    · skip
      exact absurd c_1347 (by omega)
  · skip
    have hM : xMC Fw (cm) (b) (M) := hM9
    have hD : xMD Fw (b + 566) (th) (M) := xMD_fr hD (fun a9 q1 q2 => hag9 a9 (by omega) (by omega))
    have ho : Fw (b + 578) = some (.inr (2, 1, fun b9 => .long (g b9))) := ho9
    have hod : Fw (b + 579) = some (.inr (3, 1, fun b9 => .double (gd b9))) := (hag9 _ (by omega) (by omega)).trans hod
    clear hM9 ho9 hag9
    refine x_istore hC d_Law_law_1327 (Nat.le_of_ble_eq_true rfl) (L1 := [some (.ref a), some (.ref b), some (.ref (b + 566)), some (.ref (b + 578)), some (.ref (b + 579)), some (.int (nI (3 * q))), some (.int (nI 1)), none, none, none]) rfl ?_
    refine x_aload_n hC d_Law_law_1329 rfl rfl ?_
    refine x_aload_n hC d_Law_law_1330 rfl rfl ?_
    refine x_iload hC d_Law_law_1331 rfl ?_
    refine x_iconst hC d_Law_law_1333 (v := nI 1) (by decide) ?_
    refine x_iadd hC d_Law_law_1334 (v := (nI (3 * q + 1))) (x_addN (by omega)) ?_
    refine x_sld hC hX ha (j := 3 * q + 1) ⟨rfl, by omega, by omega⟩ d_Law_law_1335 ?_
    obtain ⟨fsD, hDo⟩ := xMD_at hD
    refine x_callV hC kv_Law_255 (c_MessageCoderModel_priorityOf (hD := hD) (hI := hI)) hDo rfl rfl (Nat.le_of_ble_eq_true rfl) rfl rfl rfl (Nat.le_of_ble_eq_true rfl) ⟨by omega, by omega⟩ d_Law_law_1336 (fun r9 Fm z9 hp9 => ?_)
    obtain ⟨rfl, h9c, j0, hag9⟩ := hp9
    rw [h9c]
    clear h9c z9
    have hM : xMC Fm (cm) (b) (M) := xMC_fr hM (fun a9 q1 q2 => hag9 a9 (by omega))
    have hD : xMD Fm (((b + 566))) ((if mOk M.1 (xs (3 * q + 1)) then 0 else 1)) (M) := j0
    have ho : Fm (b + 578) = some (.inr (2, 1, fun b9 => .long (g b9))) := (hag9 _ (by omega)).trans ho
    have hod : Fm (b + 579) = some (.inr (3, 1, fun b9 => .double (gd b9))) := (hag9 _ (by omega)).trans hod
    clear j0 hag9
    have hT : ((if mOk M.1 (xs (3 * q + 1)) then 0 else 1)) = 1 := if_neg hcond
    rw [hT] at hD
    refine x_istore hC d_Law_law_1339 (Nat.le_of_ble_eq_true rfl) (L1 := [some (.ref a), some (.ref b), some (.ref (b + 566)), some (.ref (b + 578)), some (.ref (b + 579)), some (.int (nI (3 * q))), some (.int (nI 1)), some (.int (nI (if mOk M.1 (xs (3 * q + 1)) then (mAt M.1 (xs (3 * q + 1))).2.1 else 0))), none, none]) rfl ?_
    refine x_aload_n hC d_Law_law_1341 rfl rfl ?_
    obtain ⟨fsD, hDo⟩ := xMD_at hD
    refine x_callV hC kv_Law_163 (c_thrownD hD) hDo rfl rfl (Nat.le_of_ble_eq_true rfl) rfl rfl rfl (Nat.le_of_ble_eq_true rfl) ⟨by omega, by omega⟩ d_Law_law_1342 (fun r9 F9 z9 hp9 => ?_)
    obtain ⟨rfl, h9b, h9c⟩ := hp9
    rw [h9b, h9c]
    clear h9b h9c F9 z9
    refine x_iload hC d_Law_law_1345 rfl ?_
    refine x_icmpN_eq hC d_Law_law_1347 (tgt := 1352) (by decide) (by omega) (by omega) (fun c_1347 => ?_) (fun c_1347 => ?_)
    · skip
      refine x_iload hC d_Law_law_1352 rfl ?_
      refine x_ifN_ne hC d_Law_law_1354 (tgt := 1369) (by decide) (by omega) (fun c_1354 => ?_) (fun c_1354 => ?_)
      · skip
        refine x_goto hC d_Law_law_1369 (tgt := 2933) (by decide) ?_
        refine x_forget (L1 := [some (.ref a), some (.ref b), some (.ref (b + 566)), some (.ref (b + 578)), some (.ref (b + 579)), some (.int (nI (3 * q))), none, none, none, none]) ⟨Or.inr rfl, ⟨Or.inr rfl, ⟨Or.inr rfl, ⟨Or.inr rfl, ⟨Or.inr rfl, ⟨Or.inr rfl, ⟨Or.inl rfl, ⟨Or.inl rfl, ⟨Or.inl rfl, ⟨Or.inl rfl, trivial⟩⟩⟩⟩⟩⟩⟩⟩⟩⟩ ?_
        exact kk _ _ _ _ _ _ _ _ hM hD ho hod (lwJ_s hJ) (by omega) (by omega)
      · skip
        exact absurd c_1354 (by omega)
    · skip
      exact absurd c_1347 (by omega)

set_option maxHeartbeats 4000000 in
set_option maxRecDepth 20000 in
theorem lc_26 {P : xP} {Θ : xT} {cm : cmT} {a N b sm rt q : Nat} {xs : Nat → Int32} (E : lwE P Θ cm a N b sm rt xs) {F : xF} {z k n th : Nat} {M : mcS} {g : Nat → Int64} {gd : Nat → UInt64} (hM : xMC F (cm) (b) (M)) (hD : xMD F (b + 566) (th) (M)) (ho : F (b + 578) = some (.inr (2, 1, fun b9 => .long (g b9)))) (hod : F (b + 579) = some (.inr (3, 1, fun b9 => .double (gd b9)))) (hJ : lwJ q M) (hq : 3 * q + 3 ≤ N) (hkn : k + 2 ≤ 603072 ∧ n + 12 ≤ 7207018) (kk : lwK P Θ cm a b q k n) : xX P Θ 1372 [some (.ref (a)), some (.ref (b)), some (.ref (b + 566)), some (.ref (b + 578)), some (.ref (b + 579)), some (.int (nI (3 * q))), none, none, none, none] [] F z k n := by
  obtain ⟨hC, hX, ha, hN, hCM, hSM, hSR, hZx, hNx⟩ := E
  obtain ⟨hI, hS, hpp⟩ := id hJ
  obtain ⟨hk9, hn9⟩ := hkn
  have hu8 : M.2.2.2.2.2.2.2.1 ≤ 8 := hI.2.2.2.1
  have hup0 : M.2.2.2.2.2.2.2.1 ≤ M.2.2.2.2.2.2.1 := hI.2.2.2.2.1
  have hsv0 : M.2.2.2.2.2.1 ≤ 1 := hI.2.2.2.2.2.1
  have hpp0 : M.2.2.2.2.2.2.1 < 100000 := by omega
  have hun0 : M.2.2.2.2.2.2.2.1 < 100000 := by omega
  obtain ⟨hb1, hb2, hb3⟩ := hS.1
  have hnx : M.1.2.2.1.2.1 < 999 := by omega
  have hn0 : M.1.2.2.1.2.1 + 1 < 1000 := by omega
  have hg0 : M.1.2.2.2.2.2.2.1 < 1000 := by omega
  have hf0 : M.1.2.2.2.2.2.2.2.2 < 1000 := by omega
  refine x_aload_n hC d_Law_law_1372 rfl rfl ?_
  refine x_aload_n hC d_Law_law_1373 rfl rfl ?_
  refine x_iload hC d_Law_law_1374 rfl ?_
  refine x_iconst hC d_Law_law_1376 (v := nI 1) (by decide) ?_
  refine x_iadd hC d_Law_law_1377 (v := (nI (3 * q + 1))) (x_addN (by omega)) ?_
  refine x_sld hC hX ha (j := 3 * q + 1) ⟨rfl, by omega, by omega⟩ d_Law_law_1378 ?_
  refine x_aload_n hC d_Law_law_1379 rfl rfl ?_
  refine x_callW hC kw_Law_256 (c_Law_lengthOf (hM := hM) (ho := ho) (hZx := hZx) (hNx := hNx) (hbo := Or.inr (by omega))) (Nat.le_of_ble_eq_true rfl) rfl rfl rfl (Nat.le_of_ble_eq_true rfl) ⟨by omega, by omega⟩ d_Law_law_1380 (fun r9 Fw zw hp9 => ?_)
  rcases hp9 with ⟨rfl, hM9, ho9, p_0, hag9⟩ | ⟨rfl, hM9, ho9, hcond, hag9⟩
  · skip
    have hM : xMC Fw (cm) (b) (M) := hM9
    have hD : xMD Fw (b + 566) (th) (M) := xMD_fr hD (fun a9 q1 q2 => hag9 a9 (by omega) (by omega))
    have ho : Fw (b + 578) = some (.inr (2, 1, fun b9 => .long ((vp_updL g 0 (((nI ((mAt M.1 (xs (3 * q + 1))).2.2.1))).toInt64)) b9))) := ho9
    have hod : Fw (b + 579) = some (.inr (3, 1, fun b9 => .double (gd b9))) := (hag9 _ (by omega) (by omega)).trans hod
    clear hM9 ho9 hag9
    refine x_istore hC d_Law_law_1383 (Nat.le_of_ble_eq_true rfl) (L1 := [some (.ref a), some (.ref b), some (.ref (b + 566)), some (.ref (b + 578)), some (.ref (b + 579)), some (.int (nI (3 * q))), some (.int (nI 0)), none, none, none]) rfl ?_
    refine x_aload_n hC d_Law_law_1385 rfl rfl ?_
    refine x_aload_n hC d_Law_law_1386 rfl rfl ?_
    refine x_iload hC d_Law_law_1387 rfl ?_
    refine x_iconst hC d_Law_law_1389 (v := nI 1) (by decide) ?_
    refine x_iadd hC d_Law_law_1390 (v := (nI (3 * q + 1))) (x_addN (by omega)) ?_
    refine x_sld hC hX ha (j := 3 * q + 1) ⟨rfl, by omega, by omega⟩ d_Law_law_1391 ?_
    obtain ⟨fsD, hDo⟩ := xMD_at hD
    refine x_callV hC kv_Law_258 (c_MessageCoderModel_lengthOf (hD := hD) (hI := hI)) hDo rfl rfl (Nat.le_of_ble_eq_true rfl) rfl rfl rfl (Nat.le_of_ble_eq_true rfl) ⟨by omega, by omega⟩ d_Law_law_1392 (fun r9 Fm z9 hp9 => ?_)
    obtain ⟨rfl, h9c, j0, hag9⟩ := hp9
    rw [h9c]
    clear h9c z9
    have hM : xMC Fm (cm) (b) (M) := xMC_fr hM (fun a9 q1 q2 => hag9 a9 (by omega))
    have hD : xMD Fm (((b + 566))) ((if mOk M.1 (xs (3 * q + 1)) then 0 else 1)) (M) := j0
    have ho : Fm (b + 578) = some (.inr (2, 1, fun b9 => .long ((vp_updL g 0 (((nI ((mAt M.1 (xs (3 * q + 1))).2.2.1))).toInt64)) b9))) := (hag9 _ (by omega)).trans ho
    have hod : Fm (b + 579) = some (.inr (3, 1, fun b9 => .double (gd b9))) := (hag9 _ (by omega)).trans hod
    clear j0 hag9
    have hT : ((if mOk M.1 (xs (3 * q + 1)) then 0 else 1)) = 0 := if_pos p_0
    rw [hT] at hD
    refine x_top (v := (nI ((mAt M.1 (xs (3 * q + 1))).2.2.1))) (congrArg nI (if_pos p_0)) ?_
    refine x_istore hC d_Law_law_1395 (Nat.le_of_ble_eq_true rfl) (L1 := [some (.ref a), some (.ref b), some (.ref (b + 566)), some (.ref (b + 578)), some (.ref (b + 579)), some (.int (nI (3 * q))), some (.int (nI 0)), some (.int (nI ((mAt M.1 (xs (3 * q + 1))).2.2.1))), none, none]) rfl ?_
    refine x_aload_n hC d_Law_law_1397 rfl rfl ?_
    obtain ⟨fsD, hDo⟩ := xMD_at hD
    refine x_callV hC kv_Law_163 (c_thrownD hD) hDo rfl rfl (Nat.le_of_ble_eq_true rfl) rfl rfl rfl (Nat.le_of_ble_eq_true rfl) ⟨by omega, by omega⟩ d_Law_law_1398 (fun r9 F9 z9 hp9 => ?_)
    obtain ⟨rfl, h9b, h9c⟩ := hp9
    rw [h9b, h9c]
    clear h9b h9c F9 z9
    refine x_iload hC d_Law_law_1401 rfl ?_
    refine x_icmpN_eq hC d_Law_law_1403 (tgt := 1408) (by decide) (by omega) (by omega) (fun c_1403 => ?_) (fun c_1403 => ?_)
    · skip
      refine x_iload hC d_Law_law_1408 rfl ?_
      refine x_ifN_ne hC d_Law_law_1410 (tgt := 1425) (by decide) (by omega) (fun c_1410 => ?_) (fun c_1410 => ?_)
      · skip
        exact absurd c_1410 (by omega)
      · skip
        refine x_aload_n hC d_Law_law_1413 rfl rfl ?_
        refine x_iconst hC d_Law_law_1414 (v := nI 0) (by decide) ?_
        refine x_lald hC ho (j := 0) ⟨rfl, by decide, by decide⟩ (x := ((nI ((mAt M.1 (xs (3 * q + 1))).2.2.1))).toInt64) rfl d_Law_law_1415 ?_
        refine x_iload hC d_Law_law_1416 rfl ?_
        refine x_i2l hC d_Law_law_1418 rfl ?_
        refine x_lcmp hC d_Law_law_1419 ?_
        refine x_top (v := nI 0) (lg_self _) ?_
        refine x_ifN_eq hC d_Law_law_1420 (tgt := 1425) (by decide) (by omega) (fun c_1420 => ?_) (fun c_1420 => ?_)
        · skip
          refine x_goto hC d_Law_law_1425 (tgt := 2933) (by decide) ?_
          refine x_forget (L1 := [some (.ref a), some (.ref b), some (.ref (b + 566)), some (.ref (b + 578)), some (.ref (b + 579)), some (.int (nI (3 * q))), none, none, none, none]) ⟨Or.inr rfl, ⟨Or.inr rfl, ⟨Or.inr rfl, ⟨Or.inr rfl, ⟨Or.inr rfl, ⟨Or.inr rfl, ⟨Or.inl rfl, ⟨Or.inl rfl, ⟨Or.inl rfl, ⟨Or.inl rfl, trivial⟩⟩⟩⟩⟩⟩⟩⟩⟩⟩ ?_
          exact kk _ _ _ _ _ _ _ _ hM hD ho hod (lwJ_s hJ) (by omega) (by omega)
        · skip
          exact absurd c_1420 (by omega)
    · skip
      exact absurd c_1403 (by omega)
  · skip
    have hM : xMC Fw (cm) (b) (M) := hM9
    have hD : xMD Fw (b + 566) (th) (M) := xMD_fr hD (fun a9 q1 q2 => hag9 a9 (by omega) (by omega))
    have ho : Fw (b + 578) = some (.inr (2, 1, fun b9 => .long (g b9))) := ho9
    have hod : Fw (b + 579) = some (.inr (3, 1, fun b9 => .double (gd b9))) := (hag9 _ (by omega) (by omega)).trans hod
    clear hM9 ho9 hag9
    refine x_istore hC d_Law_law_1383 (Nat.le_of_ble_eq_true rfl) (L1 := [some (.ref a), some (.ref b), some (.ref (b + 566)), some (.ref (b + 578)), some (.ref (b + 579)), some (.int (nI (3 * q))), some (.int (nI 1)), none, none, none]) rfl ?_
    refine x_aload_n hC d_Law_law_1385 rfl rfl ?_
    refine x_aload_n hC d_Law_law_1386 rfl rfl ?_
    refine x_iload hC d_Law_law_1387 rfl ?_
    refine x_iconst hC d_Law_law_1389 (v := nI 1) (by decide) ?_
    refine x_iadd hC d_Law_law_1390 (v := (nI (3 * q + 1))) (x_addN (by omega)) ?_
    refine x_sld hC hX ha (j := 3 * q + 1) ⟨rfl, by omega, by omega⟩ d_Law_law_1391 ?_
    obtain ⟨fsD, hDo⟩ := xMD_at hD
    refine x_callV hC kv_Law_258 (c_MessageCoderModel_lengthOf (hD := hD) (hI := hI)) hDo rfl rfl (Nat.le_of_ble_eq_true rfl) rfl rfl rfl (Nat.le_of_ble_eq_true rfl) ⟨by omega, by omega⟩ d_Law_law_1392 (fun r9 Fm z9 hp9 => ?_)
    obtain ⟨rfl, h9c, j0, hag9⟩ := hp9
    rw [h9c]
    clear h9c z9
    have hM : xMC Fm (cm) (b) (M) := xMC_fr hM (fun a9 q1 q2 => hag9 a9 (by omega))
    have hD : xMD Fm (((b + 566))) ((if mOk M.1 (xs (3 * q + 1)) then 0 else 1)) (M) := j0
    have ho : Fm (b + 578) = some (.inr (2, 1, fun b9 => .long (g b9))) := (hag9 _ (by omega)).trans ho
    have hod : Fm (b + 579) = some (.inr (3, 1, fun b9 => .double (gd b9))) := (hag9 _ (by omega)).trans hod
    clear j0 hag9
    have hT : ((if mOk M.1 (xs (3 * q + 1)) then 0 else 1)) = 1 := if_neg hcond
    rw [hT] at hD
    refine x_istore hC d_Law_law_1395 (Nat.le_of_ble_eq_true rfl) (L1 := [some (.ref a), some (.ref b), some (.ref (b + 566)), some (.ref (b + 578)), some (.ref (b + 579)), some (.int (nI (3 * q))), some (.int (nI 1)), some (.int (nI (if mOk M.1 (xs (3 * q + 1)) then (mAt M.1 (xs (3 * q + 1))).2.2.1 else 0))), none, none]) rfl ?_
    refine x_aload_n hC d_Law_law_1397 rfl rfl ?_
    obtain ⟨fsD, hDo⟩ := xMD_at hD
    refine x_callV hC kv_Law_163 (c_thrownD hD) hDo rfl rfl (Nat.le_of_ble_eq_true rfl) rfl rfl rfl (Nat.le_of_ble_eq_true rfl) ⟨by omega, by omega⟩ d_Law_law_1398 (fun r9 F9 z9 hp9 => ?_)
    obtain ⟨rfl, h9b, h9c⟩ := hp9
    rw [h9b, h9c]
    clear h9b h9c F9 z9
    refine x_iload hC d_Law_law_1401 rfl ?_
    refine x_icmpN_eq hC d_Law_law_1403 (tgt := 1408) (by decide) (by omega) (by omega) (fun c_1403 => ?_) (fun c_1403 => ?_)
    · skip
      refine x_iload hC d_Law_law_1408 rfl ?_
      refine x_ifN_ne hC d_Law_law_1410 (tgt := 1425) (by decide) (by omega) (fun c_1410 => ?_) (fun c_1410 => ?_)
      · skip
        refine x_goto hC d_Law_law_1425 (tgt := 2933) (by decide) ?_
        refine x_forget (L1 := [some (.ref a), some (.ref b), some (.ref (b + 566)), some (.ref (b + 578)), some (.ref (b + 579)), some (.int (nI (3 * q))), none, none, none, none]) ⟨Or.inr rfl, ⟨Or.inr rfl, ⟨Or.inr rfl, ⟨Or.inr rfl, ⟨Or.inr rfl, ⟨Or.inr rfl, ⟨Or.inl rfl, ⟨Or.inl rfl, ⟨Or.inl rfl, ⟨Or.inl rfl, trivial⟩⟩⟩⟩⟩⟩⟩⟩⟩⟩ ?_
        exact kk _ _ _ _ _ _ _ _ hM hD ho hod (lwJ_s hJ) (by omega) (by omega)
      · skip
        exact absurd c_1410 (by omega)
    · skip
      exact absurd c_1403 (by omega)

set_option maxHeartbeats 4000000 in
set_option maxRecDepth 20000 in
theorem lc_27 {P : xP} {Θ : xT} {cm : cmT} {a N b sm rt q : Nat} {xs : Nat → Int32} (E : lwE P Θ cm a N b sm rt xs) {F : xF} {z k n th : Nat} {M : mcS} {g : Nat → Int64} {gd : Nat → UInt64} (hM : xMC F (cm) (b) (M)) (hD : xMD F (b + 566) (th) (M)) (ho : F (b + 578) = some (.inr (2, 1, fun b9 => .long (g b9)))) (hod : F (b + 579) = some (.inr (3, 1, fun b9 => .double (gd b9)))) (hJ : lwJ q M) (hq : 3 * q + 3 ≤ N) (hkn : k + 2 ≤ 603072 ∧ n + 12 ≤ 7207018) (kk : lwK P Θ cm a b q k n) : xX P Θ 1428 [some (.ref (a)), some (.ref (b)), some (.ref (b + 566)), some (.ref (b + 578)), some (.ref (b + 579)), some (.int (nI (3 * q))), none, none, none, none] [] F z k n := by
  obtain ⟨hC, hX, ha, hN, hCM, hSM, hSR, hZx, hNx⟩ := E
  obtain ⟨hI, hS, hpp⟩ := id hJ
  obtain ⟨hk9, hn9⟩ := hkn
  have hu8 : M.2.2.2.2.2.2.2.1 ≤ 8 := hI.2.2.2.1
  have hup0 : M.2.2.2.2.2.2.2.1 ≤ M.2.2.2.2.2.2.1 := hI.2.2.2.2.1
  have hsv0 : M.2.2.2.2.2.1 ≤ 1 := hI.2.2.2.2.2.1
  have hpp0 : M.2.2.2.2.2.2.1 < 100000 := by omega
  have hun0 : M.2.2.2.2.2.2.2.1 < 100000 := by omega
  obtain ⟨hb1, hb2, hb3⟩ := hS.1
  have hnx : M.1.2.2.1.2.1 < 999 := by omega
  have hn0 : M.1.2.2.1.2.1 + 1 < 1000 := by omega
  have hg0 : M.1.2.2.2.2.2.2.1 < 1000 := by omega
  have hf0 : M.1.2.2.2.2.2.2.2.2 < 1000 := by omega
  refine x_aload_n hC d_Law_law_1428 rfl rfl ?_
  refine x_aload_n hC d_Law_law_1429 rfl rfl ?_
  refine x_iload hC d_Law_law_1430 rfl ?_
  refine x_iconst hC d_Law_law_1432 (v := nI 1) (by decide) ?_
  refine x_iadd hC d_Law_law_1433 (v := (nI (3 * q + 1))) (x_addN (by omega)) ?_
  refine x_sld hC hX ha (j := 3 * q + 1) ⟨rfl, by omega, by omega⟩ d_Law_law_1434 ?_
  refine x_aload_n hC d_Law_law_1435 rfl rfl ?_
  refine x_iload hC d_Law_law_1436 rfl ?_
  refine x_iconst hC d_Law_law_1438 (v := nI 2) (by decide) ?_
  refine x_iadd hC d_Law_law_1439 (v := (nI (3 * q + 2))) (x_addN (by omega)) ?_
  refine x_sld hC hX ha (j := 3 * q + 2) ⟨rfl, by omega, by omega⟩ d_Law_law_1440 ?_
  refine x_aload_n hC d_Law_law_1441 rfl rfl ?_
  refine x_callW hC kw_Law_259 (c_Law_symbolAt (hM := hM) (ho := ho) (hZx := hZx) (hNx := hNx) (hbo := Or.inr (by omega))) (Nat.le_of_ble_eq_true rfl) rfl rfl rfl (Nat.le_of_ble_eq_true rfl) ⟨by omega, by omega⟩ d_Law_law_1442 (fun r9 Fw zw hp9 => ?_)
  rcases hp9 with ⟨rfl, hM9, ho9, p_0, p_1, hag9⟩ | ⟨rfl, hM9, ho9, hcond, hag9⟩ | ⟨rfl, hM9, ho9, hcond, hag9⟩
  · skip
    have hM : xMC Fw (cm) (b) (M) := hM9
    have hD : xMD Fw (b + 566) (th) (M) := xMD_fr hD (fun a9 q1 q2 => hag9 a9 (by omega) (by omega))
    have ho : Fw (b + 578) = some (.inr (2, 1, fun b9 => .long ((vp_updL g 0 (((nI ((mAt M.1 (xs (3 * q + 1))).2.2.2 (xs (3 * q + 2)).toNatClampNeg))).toInt64)) b9))) := ho9
    have hod : Fw (b + 579) = some (.inr (3, 1, fun b9 => .double (gd b9))) := (hag9 _ (by omega) (by omega)).trans hod
    clear hM9 ho9 hag9
    refine x_istore hC d_Law_law_1445 (Nat.le_of_ble_eq_true rfl) (L1 := [some (.ref a), some (.ref b), some (.ref (b + 566)), some (.ref (b + 578)), some (.ref (b + 579)), some (.int (nI (3 * q))), some (.int (nI 0)), none, none, none]) rfl ?_
    refine x_aload_n hC d_Law_law_1447 rfl rfl ?_
    refine x_aload_n hC d_Law_law_1448 rfl rfl ?_
    refine x_iload hC d_Law_law_1449 rfl ?_
    refine x_iconst hC d_Law_law_1451 (v := nI 1) (by decide) ?_
    refine x_iadd hC d_Law_law_1452 (v := (nI (3 * q + 1))) (x_addN (by omega)) ?_
    refine x_sld hC hX ha (j := 3 * q + 1) ⟨rfl, by omega, by omega⟩ d_Law_law_1453 ?_
    refine x_aload_n hC d_Law_law_1454 rfl rfl ?_
    refine x_iload hC d_Law_law_1455 rfl ?_
    refine x_iconst hC d_Law_law_1457 (v := nI 2) (by decide) ?_
    refine x_iadd hC d_Law_law_1458 (v := (nI (3 * q + 2))) (x_addN (by omega)) ?_
    refine x_sld hC hX ha (j := 3 * q + 2) ⟨rfl, by omega, by omega⟩ d_Law_law_1459 ?_
    obtain ⟨fsD, hDo⟩ := xMD_at hD
    refine x_callV hC kv_Law_261 (c_MessageCoderModel_symbolAt (hD := hD) (hI := hI)) hDo rfl rfl (Nat.le_of_ble_eq_true rfl) rfl rfl rfl (Nat.le_of_ble_eq_true rfl) ⟨by omega, by omega⟩ d_Law_law_1460 (fun r9 Fm z9 hp9 => ?_)
    obtain ⟨rfl, h9c, j0, hag9⟩ := hp9
    rw [h9c]
    clear h9c z9
    have hM : xMC Fm (cm) (b) (M) := xMC_fr hM (fun a9 q1 q2 => hag9 a9 (by omega))
    have hD : xMD Fm (((b + 566))) ((if mOk M.1 (xs (3 * q + 1)) then if 0 ≤ (xs (3 * q + 2)) ∧ (xs (3 * q + 2)) < nI (mAt M.1 (xs (3 * q + 1))).2.2.1 then 0 else 2 else 1)) (M) := j0
    have ho : Fm (b + 578) = some (.inr (2, 1, fun b9 => .long ((vp_updL g 0 (((nI ((mAt M.1 (xs (3 * q + 1))).2.2.2 (xs (3 * q + 2)).toNatClampNeg))).toInt64)) b9))) := (hag9 _ (by omega)).trans ho
    have hod : Fm (b + 579) = some (.inr (3, 1, fun b9 => .double (gd b9))) := (hag9 _ (by omega)).trans hod
    clear j0 hag9
    have hT : ((if mOk M.1 (xs (3 * q + 1)) then if 0 ≤ (xs (3 * q + 2)) ∧ (xs (3 * q + 2)) < nI (mAt M.1 (xs (3 * q + 1))).2.2.1 then 0 else 2 else 1)) = 0 := (if_pos p_0).trans (if_pos p_1)
    rw [hT] at hD
    refine x_top (v := (nI ((mAt M.1 (xs (3 * q + 1))).2.2.2 (xs (3 * q + 2)).toNatClampNeg))) (congrArg nI (if_pos ⟨p_0, p_1⟩)) ?_
    refine x_istore hC d_Law_law_1463 (Nat.le_of_ble_eq_true rfl) (L1 := [some (.ref a), some (.ref b), some (.ref (b + 566)), some (.ref (b + 578)), some (.ref (b + 579)), some (.int (nI (3 * q))), some (.int (nI 0)), some (.int (nI ((mAt M.1 (xs (3 * q + 1))).2.2.2 (xs (3 * q + 2)).toNatClampNeg))), none, none]) rfl ?_
    refine x_aload_n hC d_Law_law_1465 rfl rfl ?_
    obtain ⟨fsD, hDo⟩ := xMD_at hD
    refine x_callV hC kv_Law_163 (c_thrownD hD) hDo rfl rfl (Nat.le_of_ble_eq_true rfl) rfl rfl rfl (Nat.le_of_ble_eq_true rfl) ⟨by omega, by omega⟩ d_Law_law_1466 (fun r9 F9 z9 hp9 => ?_)
    obtain ⟨rfl, h9b, h9c⟩ := hp9
    rw [h9b, h9c]
    clear h9b h9c F9 z9
    refine x_iload hC d_Law_law_1469 rfl ?_
    refine x_icmpN_eq hC d_Law_law_1471 (tgt := 1476) (by decide) (by omega) (by omega) (fun c_1471 => ?_) (fun c_1471 => ?_)
    · skip
      refine x_iload hC d_Law_law_1476 rfl ?_
      refine x_ifN_ne hC d_Law_law_1478 (tgt := 1493) (by decide) (by omega) (fun c_1478 => ?_) (fun c_1478 => ?_)
      · skip
        exact absurd c_1478 (by omega)
      · skip
        refine x_aload_n hC d_Law_law_1481 rfl rfl ?_
        refine x_iconst hC d_Law_law_1482 (v := nI 0) (by decide) ?_
        refine x_lald hC ho (j := 0) ⟨rfl, by decide, by decide⟩ (x := ((nI ((mAt M.1 (xs (3 * q + 1))).2.2.2 (xs (3 * q + 2)).toNatClampNeg))).toInt64) rfl d_Law_law_1483 ?_
        refine x_iload hC d_Law_law_1484 rfl ?_
        refine x_i2l hC d_Law_law_1486 rfl ?_
        refine x_lcmp hC d_Law_law_1487 ?_
        refine x_top (v := nI 0) (lg_self _) ?_
        refine x_ifN_eq hC d_Law_law_1488 (tgt := 1493) (by decide) (by omega) (fun c_1488 => ?_) (fun c_1488 => ?_)
        · skip
          refine x_goto hC d_Law_law_1493 (tgt := 2933) (by decide) ?_
          refine x_forget (L1 := [some (.ref a), some (.ref b), some (.ref (b + 566)), some (.ref (b + 578)), some (.ref (b + 579)), some (.int (nI (3 * q))), none, none, none, none]) ⟨Or.inr rfl, ⟨Or.inr rfl, ⟨Or.inr rfl, ⟨Or.inr rfl, ⟨Or.inr rfl, ⟨Or.inr rfl, ⟨Or.inl rfl, ⟨Or.inl rfl, ⟨Or.inl rfl, ⟨Or.inl rfl, trivial⟩⟩⟩⟩⟩⟩⟩⟩⟩⟩ ?_
          exact kk _ _ _ _ _ _ _ _ hM hD ho hod (lwJ_s hJ) (by omega) (by omega)
        · skip
          exact absurd c_1488 (by omega)
    · skip
      exact absurd c_1471 (by omega)
  · skip
    have hM : xMC Fw (cm) (b) (M) := hM9
    have hD : xMD Fw (b + 566) (th) (M) := xMD_fr hD (fun a9 q1 q2 => hag9 a9 (by omega) (by omega))
    have ho : Fw (b + 578) = some (.inr (2, 1, fun b9 => .long (g b9))) := ho9
    have hod : Fw (b + 579) = some (.inr (3, 1, fun b9 => .double (gd b9))) := (hag9 _ (by omega) (by omega)).trans hod
    clear hM9 ho9 hag9
    refine x_istore hC d_Law_law_1445 (Nat.le_of_ble_eq_true rfl) (L1 := [some (.ref a), some (.ref b), some (.ref (b + 566)), some (.ref (b + 578)), some (.ref (b + 579)), some (.int (nI (3 * q))), some (.int (nI 1)), none, none, none]) rfl ?_
    refine x_aload_n hC d_Law_law_1447 rfl rfl ?_
    refine x_aload_n hC d_Law_law_1448 rfl rfl ?_
    refine x_iload hC d_Law_law_1449 rfl ?_
    refine x_iconst hC d_Law_law_1451 (v := nI 1) (by decide) ?_
    refine x_iadd hC d_Law_law_1452 (v := (nI (3 * q + 1))) (x_addN (by omega)) ?_
    refine x_sld hC hX ha (j := 3 * q + 1) ⟨rfl, by omega, by omega⟩ d_Law_law_1453 ?_
    refine x_aload_n hC d_Law_law_1454 rfl rfl ?_
    refine x_iload hC d_Law_law_1455 rfl ?_
    refine x_iconst hC d_Law_law_1457 (v := nI 2) (by decide) ?_
    refine x_iadd hC d_Law_law_1458 (v := (nI (3 * q + 2))) (x_addN (by omega)) ?_
    refine x_sld hC hX ha (j := 3 * q + 2) ⟨rfl, by omega, by omega⟩ d_Law_law_1459 ?_
    obtain ⟨fsD, hDo⟩ := xMD_at hD
    refine x_callV hC kv_Law_261 (c_MessageCoderModel_symbolAt (hD := hD) (hI := hI)) hDo rfl rfl (Nat.le_of_ble_eq_true rfl) rfl rfl rfl (Nat.le_of_ble_eq_true rfl) ⟨by omega, by omega⟩ d_Law_law_1460 (fun r9 Fm z9 hp9 => ?_)
    obtain ⟨rfl, h9c, j0, hag9⟩ := hp9
    rw [h9c]
    clear h9c z9
    have hM : xMC Fm (cm) (b) (M) := xMC_fr hM (fun a9 q1 q2 => hag9 a9 (by omega))
    have hD : xMD Fm (((b + 566))) ((if mOk M.1 (xs (3 * q + 1)) then if 0 ≤ (xs (3 * q + 2)) ∧ (xs (3 * q + 2)) < nI (mAt M.1 (xs (3 * q + 1))).2.2.1 then 0 else 2 else 1)) (M) := j0
    have ho : Fm (b + 578) = some (.inr (2, 1, fun b9 => .long (g b9))) := (hag9 _ (by omega)).trans ho
    have hod : Fm (b + 579) = some (.inr (3, 1, fun b9 => .double (gd b9))) := (hag9 _ (by omega)).trans hod
    clear j0 hag9
    have hT : ((if mOk M.1 (xs (3 * q + 1)) then if 0 ≤ (xs (3 * q + 2)) ∧ (xs (3 * q + 2)) < nI (mAt M.1 (xs (3 * q + 1))).2.2.1 then 0 else 2 else 1)) = 1 := if_neg hcond
    rw [hT] at hD
    refine x_istore hC d_Law_law_1463 (Nat.le_of_ble_eq_true rfl) (L1 := [some (.ref a), some (.ref b), some (.ref (b + 566)), some (.ref (b + 578)), some (.ref (b + 579)), some (.int (nI (3 * q))), some (.int (nI 1)), some (.int (nI (if mOk M.1 (xs (3 * q + 1)) ∧ (0 ≤ (xs (3 * q + 2)) ∧ (xs (3 * q + 2)) < nI (mAt M.1 (xs (3 * q + 1))).2.2.1) then (mAt M.1 (xs (3 * q + 1))).2.2.2 (xs (3 * q + 2)).toNatClampNeg else 0))), none, none]) rfl ?_
    refine x_aload_n hC d_Law_law_1465 rfl rfl ?_
    obtain ⟨fsD, hDo⟩ := xMD_at hD
    refine x_callV hC kv_Law_163 (c_thrownD hD) hDo rfl rfl (Nat.le_of_ble_eq_true rfl) rfl rfl rfl (Nat.le_of_ble_eq_true rfl) ⟨by omega, by omega⟩ d_Law_law_1466 (fun r9 F9 z9 hp9 => ?_)
    obtain ⟨rfl, h9b, h9c⟩ := hp9
    rw [h9b, h9c]
    clear h9b h9c F9 z9
    refine x_iload hC d_Law_law_1469 rfl ?_
    refine x_icmpN_eq hC d_Law_law_1471 (tgt := 1476) (by decide) (by omega) (by omega) (fun c_1471 => ?_) (fun c_1471 => ?_)
    · skip
      refine x_iload hC d_Law_law_1476 rfl ?_
      refine x_ifN_ne hC d_Law_law_1478 (tgt := 1493) (by decide) (by omega) (fun c_1478 => ?_) (fun c_1478 => ?_)
      · skip
        refine x_goto hC d_Law_law_1493 (tgt := 2933) (by decide) ?_
        refine x_forget (L1 := [some (.ref a), some (.ref b), some (.ref (b + 566)), some (.ref (b + 578)), some (.ref (b + 579)), some (.int (nI (3 * q))), none, none, none, none]) ⟨Or.inr rfl, ⟨Or.inr rfl, ⟨Or.inr rfl, ⟨Or.inr rfl, ⟨Or.inr rfl, ⟨Or.inr rfl, ⟨Or.inl rfl, ⟨Or.inl rfl, ⟨Or.inl rfl, ⟨Or.inl rfl, trivial⟩⟩⟩⟩⟩⟩⟩⟩⟩⟩ ?_
        exact kk _ _ _ _ _ _ _ _ hM hD ho hod (lwJ_s hJ) (by omega) (by omega)
      · skip
        exact absurd c_1478 (by omega)
    · skip
      exact absurd c_1471 (by omega)
  · skip
    have hM : xMC Fw (cm) (b) (M) := hM9
    have hD : xMD Fw (b + 566) (th) (M) := xMD_fr hD (fun a9 q1 q2 => hag9 a9 (by omega) (by omega))
    have ho : Fw (b + 578) = some (.inr (2, 1, fun b9 => .long (g b9))) := ho9
    have hod : Fw (b + 579) = some (.inr (3, 1, fun b9 => .double (gd b9))) := (hag9 _ (by omega) (by omega)).trans hod
    clear hM9 ho9 hag9
    refine x_istore hC d_Law_law_1445 (Nat.le_of_ble_eq_true rfl) (L1 := [some (.ref a), some (.ref b), some (.ref (b + 566)), some (.ref (b + 578)), some (.ref (b + 579)), some (.int (nI (3 * q))), some (.int (nI 2)), none, none, none]) rfl ?_
    refine x_aload_n hC d_Law_law_1447 rfl rfl ?_
    refine x_aload_n hC d_Law_law_1448 rfl rfl ?_
    refine x_iload hC d_Law_law_1449 rfl ?_
    refine x_iconst hC d_Law_law_1451 (v := nI 1) (by decide) ?_
    refine x_iadd hC d_Law_law_1452 (v := (nI (3 * q + 1))) (x_addN (by omega)) ?_
    refine x_sld hC hX ha (j := 3 * q + 1) ⟨rfl, by omega, by omega⟩ d_Law_law_1453 ?_
    refine x_aload_n hC d_Law_law_1454 rfl rfl ?_
    refine x_iload hC d_Law_law_1455 rfl ?_
    refine x_iconst hC d_Law_law_1457 (v := nI 2) (by decide) ?_
    refine x_iadd hC d_Law_law_1458 (v := (nI (3 * q + 2))) (x_addN (by omega)) ?_
    refine x_sld hC hX ha (j := 3 * q + 2) ⟨rfl, by omega, by omega⟩ d_Law_law_1459 ?_
    obtain ⟨fsD, hDo⟩ := xMD_at hD
    refine x_callV hC kv_Law_261 (c_MessageCoderModel_symbolAt (hD := hD) (hI := hI)) hDo rfl rfl (Nat.le_of_ble_eq_true rfl) rfl rfl rfl (Nat.le_of_ble_eq_true rfl) ⟨by omega, by omega⟩ d_Law_law_1460 (fun r9 Fm z9 hp9 => ?_)
    obtain ⟨rfl, h9c, j0, hag9⟩ := hp9
    rw [h9c]
    clear h9c z9
    have hM : xMC Fm (cm) (b) (M) := xMC_fr hM (fun a9 q1 q2 => hag9 a9 (by omega))
    have hD : xMD Fm (((b + 566))) ((if mOk M.1 (xs (3 * q + 1)) then if 0 ≤ (xs (3 * q + 2)) ∧ (xs (3 * q + 2)) < nI (mAt M.1 (xs (3 * q + 1))).2.2.1 then 0 else 2 else 1)) (M) := j0
    have ho : Fm (b + 578) = some (.inr (2, 1, fun b9 => .long (g b9))) := (hag9 _ (by omega)).trans ho
    have hod : Fm (b + 579) = some (.inr (3, 1, fun b9 => .double (gd b9))) := (hag9 _ (by omega)).trans hod
    clear j0 hag9
    have hT : ((if mOk M.1 (xs (3 * q + 1)) then if 0 ≤ (xs (3 * q + 2)) ∧ (xs (3 * q + 2)) < nI (mAt M.1 (xs (3 * q + 1))).2.2.1 then 0 else 2 else 1)) = 2 := (if_pos hcond.1).trans (if_neg hcond.2)
    rw [hT] at hD
    refine x_istore hC d_Law_law_1463 (Nat.le_of_ble_eq_true rfl) (L1 := [some (.ref a), some (.ref b), some (.ref (b + 566)), some (.ref (b + 578)), some (.ref (b + 579)), some (.int (nI (3 * q))), some (.int (nI 2)), some (.int (nI (if mOk M.1 (xs (3 * q + 1)) ∧ (0 ≤ (xs (3 * q + 2)) ∧ (xs (3 * q + 2)) < nI (mAt M.1 (xs (3 * q + 1))).2.2.1) then (mAt M.1 (xs (3 * q + 1))).2.2.2 (xs (3 * q + 2)).toNatClampNeg else 0))), none, none]) rfl ?_
    refine x_aload_n hC d_Law_law_1465 rfl rfl ?_
    obtain ⟨fsD, hDo⟩ := xMD_at hD
    refine x_callV hC kv_Law_163 (c_thrownD hD) hDo rfl rfl (Nat.le_of_ble_eq_true rfl) rfl rfl rfl (Nat.le_of_ble_eq_true rfl) ⟨by omega, by omega⟩ d_Law_law_1466 (fun r9 F9 z9 hp9 => ?_)
    obtain ⟨rfl, h9b, h9c⟩ := hp9
    rw [h9b, h9c]
    clear h9b h9c F9 z9
    refine x_iload hC d_Law_law_1469 rfl ?_
    refine x_icmpN_eq hC d_Law_law_1471 (tgt := 1476) (by decide) (by omega) (by omega) (fun c_1471 => ?_) (fun c_1471 => ?_)
    · skip
      refine x_iload hC d_Law_law_1476 rfl ?_
      refine x_ifN_ne hC d_Law_law_1478 (tgt := 1493) (by decide) (by omega) (fun c_1478 => ?_) (fun c_1478 => ?_)
      · skip
        refine x_goto hC d_Law_law_1493 (tgt := 2933) (by decide) ?_
        refine x_forget (L1 := [some (.ref a), some (.ref b), some (.ref (b + 566)), some (.ref (b + 578)), some (.ref (b + 579)), some (.int (nI (3 * q))), none, none, none, none]) ⟨Or.inr rfl, ⟨Or.inr rfl, ⟨Or.inr rfl, ⟨Or.inr rfl, ⟨Or.inr rfl, ⟨Or.inr rfl, ⟨Or.inl rfl, ⟨Or.inl rfl, ⟨Or.inl rfl, ⟨Or.inl rfl, trivial⟩⟩⟩⟩⟩⟩⟩⟩⟩⟩ ?_
        exact kk _ _ _ _ _ _ _ _ hM hD ho hod (lwJ_s hJ) (by omega) (by omega)
      · skip
        exact absurd c_1478 (by omega)
    · skip
      exact absurd c_1471 (by omega)

set_option maxHeartbeats 4000000 in
set_option maxRecDepth 20000 in
theorem lc_28 {P : xP} {Θ : xT} {cm : cmT} {a N b sm rt q : Nat} {xs : Nat → Int32} (E : lwE P Θ cm a N b sm rt xs) {F : xF} {z k n th : Nat} {M : mcS} {g : Nat → Int64} {gd : Nat → UInt64} (hM : xMC F (cm) (b) (M)) (hD : xMD F (b + 566) (th) (M)) (ho : F (b + 578) = some (.inr (2, 1, fun b9 => .long (g b9)))) (hod : F (b + 579) = some (.inr (3, 1, fun b9 => .double (gd b9)))) (hJ : lwJ q M) (hq : 3 * q + 3 ≤ N) (hkn : k + 2 ≤ 603072 ∧ n + 12 ≤ 7207018) (kk : lwK P Θ cm a b q k n) : xX P Θ 1496 [some (.ref (a)), some (.ref (b)), some (.ref (b + 566)), some (.ref (b + 578)), some (.ref (b + 579)), some (.int (nI (3 * q))), none, none, none, none] [] F z k n := by
  obtain ⟨hC, hX, ha, hN, hCM, hSM, hSR, hZx, hNx⟩ := E
  obtain ⟨hI, hS, hpp⟩ := id hJ
  obtain ⟨hk9, hn9⟩ := hkn
  have hu8 : M.2.2.2.2.2.2.2.1 ≤ 8 := hI.2.2.2.1
  have hup0 : M.2.2.2.2.2.2.2.1 ≤ M.2.2.2.2.2.2.1 := hI.2.2.2.2.1
  have hsv0 : M.2.2.2.2.2.1 ≤ 1 := hI.2.2.2.2.2.1
  have hpp0 : M.2.2.2.2.2.2.1 < 100000 := by omega
  have hun0 : M.2.2.2.2.2.2.2.1 < 100000 := by omega
  obtain ⟨hb1, hb2, hb3⟩ := hS.1
  have hnx : M.1.2.2.1.2.1 < 999 := by omega
  have hn0 : M.1.2.2.1.2.1 + 1 < 1000 := by omega
  have hg0 : M.1.2.2.2.2.2.2.1 < 1000 := by omega
  have hf0 : M.1.2.2.2.2.2.2.2.2 < 1000 := by omega
  refine x_aload_n hC d_Law_law_1496 rfl rfl ?_
  refine x_aload_n hC d_Law_law_1497 rfl rfl ?_
  refine x_iload hC d_Law_law_1498 rfl ?_
  refine x_iconst hC d_Law_law_1500 (v := nI 1) (by decide) ?_
  refine x_iadd hC d_Law_law_1501 (v := (nI (3 * q + 1))) (x_addN (by omega)) ?_
  refine x_sld hC hX ha (j := 3 * q + 1) ⟨rfl, by omega, by omega⟩ d_Law_law_1502 ?_
  refine x_aload_n hC d_Law_law_1503 rfl rfl ?_
  refine x_iload hC d_Law_law_1504 rfl ?_
  refine x_iconst hC d_Law_law_1506 (v := nI 2) (by decide) ?_
  refine x_iadd hC d_Law_law_1507 (v := (nI (3 * q + 2))) (x_addN (by omega)) ?_
  refine x_sld hC hX ha (j := 3 * q + 2) ⟨rfl, by omega, by omega⟩ d_Law_law_1508 ?_
  refine x_i2c hC d_Law_law_1509 (v := nI (chN (xs (3 * q + 2)))) (chN_I _) ?_
  refine x_aload_n hC d_Law_law_1510 rfl rfl ?_
  refine x_callW hC kw_Law_262 (c_Law_countOf (hM := hM) (ho := ho) (hZx := hZx) (hcb := chN_lt _) (hNx := hNx) (hbo := Or.inr (by omega))) (Nat.le_of_ble_eq_true rfl) rfl rfl rfl (Nat.le_of_ble_eq_true rfl) ⟨by omega, by omega⟩ d_Law_law_1511 (fun r9 Fw zw hp9 => ?_)
  rcases hp9 with ⟨rfl, hM9, ho9, p_0, p_1, hag9⟩ | ⟨rfl, hM9, ho9, hcond, hag9⟩ | ⟨rfl, hM9, ho9, hcond, hag9⟩
  · skip
    have hM : xMC Fw (cm) (b) (M) := hM9
    have hD : xMD Fw (b + 566) (th) (M) := xMD_fr hD (fun a9 q1 q2 => hag9 a9 (by omega) (by omega))
    have ho : Fw (b + 578) = some (.inr (2, 1, fun b9 => .long ((vp_updL g 0 (((nI (tmOf (mAt M.1 (xs (3 * q + 1))).2.2.2 (chN (xs (3 * q + 2))) (mAt M.1 (xs (3 * q + 1))).2.2.1))).toInt64)) b9))) := ho9
    have hod : Fw (b + 579) = some (.inr (3, 1, fun b9 => .double (gd b9))) := (hag9 _ (by omega) (by omega)).trans hod
    clear hM9 ho9 hag9
    refine x_istore hC d_Law_law_1514 (Nat.le_of_ble_eq_true rfl) (L1 := [some (.ref a), some (.ref b), some (.ref (b + 566)), some (.ref (b + 578)), some (.ref (b + 579)), some (.int (nI (3 * q))), some (.int (nI 0)), none, none, none]) rfl ?_
    refine x_aload_n hC d_Law_law_1516 rfl rfl ?_
    refine x_aload_n hC d_Law_law_1517 rfl rfl ?_
    refine x_iload hC d_Law_law_1518 rfl ?_
    refine x_iconst hC d_Law_law_1520 (v := nI 1) (by decide) ?_
    refine x_iadd hC d_Law_law_1521 (v := (nI (3 * q + 1))) (x_addN (by omega)) ?_
    refine x_sld hC hX ha (j := 3 * q + 1) ⟨rfl, by omega, by omega⟩ d_Law_law_1522 ?_
    refine x_aload_n hC d_Law_law_1523 rfl rfl ?_
    refine x_iload hC d_Law_law_1524 rfl ?_
    refine x_iconst hC d_Law_law_1526 (v := nI 2) (by decide) ?_
    refine x_iadd hC d_Law_law_1527 (v := (nI (3 * q + 2))) (x_addN (by omega)) ?_
    refine x_sld hC hX ha (j := 3 * q + 2) ⟨rfl, by omega, by omega⟩ d_Law_law_1528 ?_
    refine x_i2c hC d_Law_law_1529 (v := nI (chN (xs (3 * q + 2)))) (chN_I _) ?_
    obtain ⟨fsD, hDo⟩ := xMD_at hD
    refine x_callV hC kv_Law_265 (c_MessageCoderModel_countOf (hD := hD) (hI := hI) (hcb := chN_lt _)) hDo rfl rfl (Nat.le_of_ble_eq_true rfl) rfl rfl rfl (Nat.le_of_ble_eq_true rfl) ⟨by omega, by omega⟩ d_Law_law_1530 (fun r9 Fm z9 hp9 => ?_)
    obtain ⟨rfl, h9c, j0, hag9⟩ := hp9
    rw [h9c]
    clear h9c z9
    have hM : xMC Fm (cm) (b) (M) := xMC_fr hM (fun a9 q1 q2 => hag9 a9 (by omega))
    have hD : xMD Fm (((b + 566))) ((if mOk M.1 (xs (3 * q + 1)) then if 97 ≤ (chN (xs (3 * q + 2))) ∧ (chN (xs (3 * q + 2))) < 105 then 0 else 2 else 1)) (M) := j0
    have ho : Fm (b + 578) = some (.inr (2, 1, fun b9 => .long ((vp_updL g 0 (((nI (tmOf (mAt M.1 (xs (3 * q + 1))).2.2.2 (chN (xs (3 * q + 2))) (mAt M.1 (xs (3 * q + 1))).2.2.1))).toInt64)) b9))) := (hag9 _ (by omega)).trans ho
    have hod : Fm (b + 579) = some (.inr (3, 1, fun b9 => .double (gd b9))) := (hag9 _ (by omega)).trans hod
    clear j0 hag9
    have hT : ((if mOk M.1 (xs (3 * q + 1)) then if 97 ≤ (chN (xs (3 * q + 2))) ∧ (chN (xs (3 * q + 2))) < 105 then 0 else 2 else 1)) = 0 := (if_pos p_0).trans (if_pos p_1)
    rw [hT] at hD
    refine x_top (v := (nI (tmOf (mAt M.1 (xs (3 * q + 1))).2.2.2 (chN (xs (3 * q + 2))) (mAt M.1 (xs (3 * q + 1))).2.2.1))) (congrArg nI (if_pos ⟨p_0, p_1⟩)) ?_
    refine x_istore hC d_Law_law_1533 (Nat.le_of_ble_eq_true rfl) (L1 := [some (.ref a), some (.ref b), some (.ref (b + 566)), some (.ref (b + 578)), some (.ref (b + 579)), some (.int (nI (3 * q))), some (.int (nI 0)), some (.int (nI (tmOf (mAt M.1 (xs (3 * q + 1))).2.2.2 (chN (xs (3 * q + 2))) (mAt M.1 (xs (3 * q + 1))).2.2.1))), none, none]) rfl ?_
    refine x_aload_n hC d_Law_law_1535 rfl rfl ?_
    obtain ⟨fsD, hDo⟩ := xMD_at hD
    refine x_callV hC kv_Law_163 (c_thrownD hD) hDo rfl rfl (Nat.le_of_ble_eq_true rfl) rfl rfl rfl (Nat.le_of_ble_eq_true rfl) ⟨by omega, by omega⟩ d_Law_law_1536 (fun r9 F9 z9 hp9 => ?_)
    obtain ⟨rfl, h9b, h9c⟩ := hp9
    rw [h9b, h9c]
    clear h9b h9c F9 z9
    refine x_iload hC d_Law_law_1539 rfl ?_
    refine x_icmpN_eq hC d_Law_law_1541 (tgt := 1546) (by decide) (by omega) (by omega) (fun c_1541 => ?_) (fun c_1541 => ?_)
    · skip
      refine x_iload hC d_Law_law_1546 rfl ?_
      refine x_ifN_ne hC d_Law_law_1548 (tgt := 1563) (by decide) (by omega) (fun c_1548 => ?_) (fun c_1548 => ?_)
      · skip
        exact absurd c_1548 (by omega)
      · skip
        refine x_aload_n hC d_Law_law_1551 rfl rfl ?_
        refine x_iconst hC d_Law_law_1552 (v := nI 0) (by decide) ?_
        refine x_lald hC ho (j := 0) ⟨rfl, by decide, by decide⟩ (x := ((nI (tmOf (mAt M.1 (xs (3 * q + 1))).2.2.2 (chN (xs (3 * q + 2))) (mAt M.1 (xs (3 * q + 1))).2.2.1))).toInt64) rfl d_Law_law_1553 ?_
        refine x_iload hC d_Law_law_1554 rfl ?_
        refine x_i2l hC d_Law_law_1556 rfl ?_
        refine x_lcmp hC d_Law_law_1557 ?_
        refine x_top (v := nI 0) (lg_self _) ?_
        refine x_ifN_eq hC d_Law_law_1558 (tgt := 1563) (by decide) (by omega) (fun c_1558 => ?_) (fun c_1558 => ?_)
        · skip
          refine x_goto hC d_Law_law_1563 (tgt := 2933) (by decide) ?_
          refine x_forget (L1 := [some (.ref a), some (.ref b), some (.ref (b + 566)), some (.ref (b + 578)), some (.ref (b + 579)), some (.int (nI (3 * q))), none, none, none, none]) ⟨Or.inr rfl, ⟨Or.inr rfl, ⟨Or.inr rfl, ⟨Or.inr rfl, ⟨Or.inr rfl, ⟨Or.inr rfl, ⟨Or.inl rfl, ⟨Or.inl rfl, ⟨Or.inl rfl, ⟨Or.inl rfl, trivial⟩⟩⟩⟩⟩⟩⟩⟩⟩⟩ ?_
          exact kk _ _ _ _ _ _ _ _ hM hD ho hod (lwJ_s hJ) (by omega) (by omega)
        · skip
          exact absurd c_1558 (by omega)
    · skip
      exact absurd c_1541 (by omega)
  · skip
    have hM : xMC Fw (cm) (b) (M) := hM9
    have hD : xMD Fw (b + 566) (th) (M) := xMD_fr hD (fun a9 q1 q2 => hag9 a9 (by omega) (by omega))
    have ho : Fw (b + 578) = some (.inr (2, 1, fun b9 => .long (g b9))) := ho9
    have hod : Fw (b + 579) = some (.inr (3, 1, fun b9 => .double (gd b9))) := (hag9 _ (by omega) (by omega)).trans hod
    clear hM9 ho9 hag9
    refine x_istore hC d_Law_law_1514 (Nat.le_of_ble_eq_true rfl) (L1 := [some (.ref a), some (.ref b), some (.ref (b + 566)), some (.ref (b + 578)), some (.ref (b + 579)), some (.int (nI (3 * q))), some (.int (nI 1)), none, none, none]) rfl ?_
    refine x_aload_n hC d_Law_law_1516 rfl rfl ?_
    refine x_aload_n hC d_Law_law_1517 rfl rfl ?_
    refine x_iload hC d_Law_law_1518 rfl ?_
    refine x_iconst hC d_Law_law_1520 (v := nI 1) (by decide) ?_
    refine x_iadd hC d_Law_law_1521 (v := (nI (3 * q + 1))) (x_addN (by omega)) ?_
    refine x_sld hC hX ha (j := 3 * q + 1) ⟨rfl, by omega, by omega⟩ d_Law_law_1522 ?_
    refine x_aload_n hC d_Law_law_1523 rfl rfl ?_
    refine x_iload hC d_Law_law_1524 rfl ?_
    refine x_iconst hC d_Law_law_1526 (v := nI 2) (by decide) ?_
    refine x_iadd hC d_Law_law_1527 (v := (nI (3 * q + 2))) (x_addN (by omega)) ?_
    refine x_sld hC hX ha (j := 3 * q + 2) ⟨rfl, by omega, by omega⟩ d_Law_law_1528 ?_
    refine x_i2c hC d_Law_law_1529 (v := nI (chN (xs (3 * q + 2)))) (chN_I _) ?_
    obtain ⟨fsD, hDo⟩ := xMD_at hD
    refine x_callV hC kv_Law_265 (c_MessageCoderModel_countOf (hD := hD) (hI := hI) (hcb := chN_lt _)) hDo rfl rfl (Nat.le_of_ble_eq_true rfl) rfl rfl rfl (Nat.le_of_ble_eq_true rfl) ⟨by omega, by omega⟩ d_Law_law_1530 (fun r9 Fm z9 hp9 => ?_)
    obtain ⟨rfl, h9c, j0, hag9⟩ := hp9
    rw [h9c]
    clear h9c z9
    have hM : xMC Fm (cm) (b) (M) := xMC_fr hM (fun a9 q1 q2 => hag9 a9 (by omega))
    have hD : xMD Fm (((b + 566))) ((if mOk M.1 (xs (3 * q + 1)) then if 97 ≤ (chN (xs (3 * q + 2))) ∧ (chN (xs (3 * q + 2))) < 105 then 0 else 2 else 1)) (M) := j0
    have ho : Fm (b + 578) = some (.inr (2, 1, fun b9 => .long (g b9))) := (hag9 _ (by omega)).trans ho
    have hod : Fm (b + 579) = some (.inr (3, 1, fun b9 => .double (gd b9))) := (hag9 _ (by omega)).trans hod
    clear j0 hag9
    have hT : ((if mOk M.1 (xs (3 * q + 1)) then if 97 ≤ (chN (xs (3 * q + 2))) ∧ (chN (xs (3 * q + 2))) < 105 then 0 else 2 else 1)) = 1 := if_neg hcond
    rw [hT] at hD
    refine x_istore hC d_Law_law_1533 (Nat.le_of_ble_eq_true rfl) (L1 := [some (.ref a), some (.ref b), some (.ref (b + 566)), some (.ref (b + 578)), some (.ref (b + 579)), some (.int (nI (3 * q))), some (.int (nI 1)), some (.int (nI (if mOk M.1 (xs (3 * q + 1)) ∧ (97 ≤ (chN (xs (3 * q + 2))) ∧ (chN (xs (3 * q + 2))) < 105) then tmOf (mAt M.1 (xs (3 * q + 1))).2.2.2 (chN (xs (3 * q + 2))) (mAt M.1 (xs (3 * q + 1))).2.2.1 else 0))), none, none]) rfl ?_
    refine x_aload_n hC d_Law_law_1535 rfl rfl ?_
    obtain ⟨fsD, hDo⟩ := xMD_at hD
    refine x_callV hC kv_Law_163 (c_thrownD hD) hDo rfl rfl (Nat.le_of_ble_eq_true rfl) rfl rfl rfl (Nat.le_of_ble_eq_true rfl) ⟨by omega, by omega⟩ d_Law_law_1536 (fun r9 F9 z9 hp9 => ?_)
    obtain ⟨rfl, h9b, h9c⟩ := hp9
    rw [h9b, h9c]
    clear h9b h9c F9 z9
    refine x_iload hC d_Law_law_1539 rfl ?_
    refine x_icmpN_eq hC d_Law_law_1541 (tgt := 1546) (by decide) (by omega) (by omega) (fun c_1541 => ?_) (fun c_1541 => ?_)
    · skip
      refine x_iload hC d_Law_law_1546 rfl ?_
      refine x_ifN_ne hC d_Law_law_1548 (tgt := 1563) (by decide) (by omega) (fun c_1548 => ?_) (fun c_1548 => ?_)
      · skip
        refine x_goto hC d_Law_law_1563 (tgt := 2933) (by decide) ?_
        refine x_forget (L1 := [some (.ref a), some (.ref b), some (.ref (b + 566)), some (.ref (b + 578)), some (.ref (b + 579)), some (.int (nI (3 * q))), none, none, none, none]) ⟨Or.inr rfl, ⟨Or.inr rfl, ⟨Or.inr rfl, ⟨Or.inr rfl, ⟨Or.inr rfl, ⟨Or.inr rfl, ⟨Or.inl rfl, ⟨Or.inl rfl, ⟨Or.inl rfl, ⟨Or.inl rfl, trivial⟩⟩⟩⟩⟩⟩⟩⟩⟩⟩ ?_
        exact kk _ _ _ _ _ _ _ _ hM hD ho hod (lwJ_s hJ) (by omega) (by omega)
      · skip
        exact absurd c_1548 (by omega)
    · skip
      exact absurd c_1541 (by omega)
  · skip
    have hM : xMC Fw (cm) (b) (M) := hM9
    have hD : xMD Fw (b + 566) (th) (M) := xMD_fr hD (fun a9 q1 q2 => hag9 a9 (by omega) (by omega))
    have ho : Fw (b + 578) = some (.inr (2, 1, fun b9 => .long (g b9))) := ho9
    have hod : Fw (b + 579) = some (.inr (3, 1, fun b9 => .double (gd b9))) := (hag9 _ (by omega) (by omega)).trans hod
    clear hM9 ho9 hag9
    refine x_istore hC d_Law_law_1514 (Nat.le_of_ble_eq_true rfl) (L1 := [some (.ref a), some (.ref b), some (.ref (b + 566)), some (.ref (b + 578)), some (.ref (b + 579)), some (.int (nI (3 * q))), some (.int (nI 2)), none, none, none]) rfl ?_
    refine x_aload_n hC d_Law_law_1516 rfl rfl ?_
    refine x_aload_n hC d_Law_law_1517 rfl rfl ?_
    refine x_iload hC d_Law_law_1518 rfl ?_
    refine x_iconst hC d_Law_law_1520 (v := nI 1) (by decide) ?_
    refine x_iadd hC d_Law_law_1521 (v := (nI (3 * q + 1))) (x_addN (by omega)) ?_
    refine x_sld hC hX ha (j := 3 * q + 1) ⟨rfl, by omega, by omega⟩ d_Law_law_1522 ?_
    refine x_aload_n hC d_Law_law_1523 rfl rfl ?_
    refine x_iload hC d_Law_law_1524 rfl ?_
    refine x_iconst hC d_Law_law_1526 (v := nI 2) (by decide) ?_
    refine x_iadd hC d_Law_law_1527 (v := (nI (3 * q + 2))) (x_addN (by omega)) ?_
    refine x_sld hC hX ha (j := 3 * q + 2) ⟨rfl, by omega, by omega⟩ d_Law_law_1528 ?_
    refine x_i2c hC d_Law_law_1529 (v := nI (chN (xs (3 * q + 2)))) (chN_I _) ?_
    obtain ⟨fsD, hDo⟩ := xMD_at hD
    refine x_callV hC kv_Law_265 (c_MessageCoderModel_countOf (hD := hD) (hI := hI) (hcb := chN_lt _)) hDo rfl rfl (Nat.le_of_ble_eq_true rfl) rfl rfl rfl (Nat.le_of_ble_eq_true rfl) ⟨by omega, by omega⟩ d_Law_law_1530 (fun r9 Fm z9 hp9 => ?_)
    obtain ⟨rfl, h9c, j0, hag9⟩ := hp9
    rw [h9c]
    clear h9c z9
    have hM : xMC Fm (cm) (b) (M) := xMC_fr hM (fun a9 q1 q2 => hag9 a9 (by omega))
    have hD : xMD Fm (((b + 566))) ((if mOk M.1 (xs (3 * q + 1)) then if 97 ≤ (chN (xs (3 * q + 2))) ∧ (chN (xs (3 * q + 2))) < 105 then 0 else 2 else 1)) (M) := j0
    have ho : Fm (b + 578) = some (.inr (2, 1, fun b9 => .long (g b9))) := (hag9 _ (by omega)).trans ho
    have hod : Fm (b + 579) = some (.inr (3, 1, fun b9 => .double (gd b9))) := (hag9 _ (by omega)).trans hod
    clear j0 hag9
    have hT : ((if mOk M.1 (xs (3 * q + 1)) then if 97 ≤ (chN (xs (3 * q + 2))) ∧ (chN (xs (3 * q + 2))) < 105 then 0 else 2 else 1)) = 2 := (if_pos hcond.1).trans (if_neg hcond.2)
    rw [hT] at hD
    refine x_istore hC d_Law_law_1533 (Nat.le_of_ble_eq_true rfl) (L1 := [some (.ref a), some (.ref b), some (.ref (b + 566)), some (.ref (b + 578)), some (.ref (b + 579)), some (.int (nI (3 * q))), some (.int (nI 2)), some (.int (nI (if mOk M.1 (xs (3 * q + 1)) ∧ (97 ≤ (chN (xs (3 * q + 2))) ∧ (chN (xs (3 * q + 2))) < 105) then tmOf (mAt M.1 (xs (3 * q + 1))).2.2.2 (chN (xs (3 * q + 2))) (mAt M.1 (xs (3 * q + 1))).2.2.1 else 0))), none, none]) rfl ?_
    refine x_aload_n hC d_Law_law_1535 rfl rfl ?_
    obtain ⟨fsD, hDo⟩ := xMD_at hD
    refine x_callV hC kv_Law_163 (c_thrownD hD) hDo rfl rfl (Nat.le_of_ble_eq_true rfl) rfl rfl rfl (Nat.le_of_ble_eq_true rfl) ⟨by omega, by omega⟩ d_Law_law_1536 (fun r9 F9 z9 hp9 => ?_)
    obtain ⟨rfl, h9b, h9c⟩ := hp9
    rw [h9b, h9c]
    clear h9b h9c F9 z9
    refine x_iload hC d_Law_law_1539 rfl ?_
    refine x_icmpN_eq hC d_Law_law_1541 (tgt := 1546) (by decide) (by omega) (by omega) (fun c_1541 => ?_) (fun c_1541 => ?_)
    · skip
      refine x_iload hC d_Law_law_1546 rfl ?_
      refine x_ifN_ne hC d_Law_law_1548 (tgt := 1563) (by decide) (by omega) (fun c_1548 => ?_) (fun c_1548 => ?_)
      · skip
        refine x_goto hC d_Law_law_1563 (tgt := 2933) (by decide) ?_
        refine x_forget (L1 := [some (.ref a), some (.ref b), some (.ref (b + 566)), some (.ref (b + 578)), some (.ref (b + 579)), some (.int (nI (3 * q))), none, none, none, none]) ⟨Or.inr rfl, ⟨Or.inr rfl, ⟨Or.inr rfl, ⟨Or.inr rfl, ⟨Or.inr rfl, ⟨Or.inr rfl, ⟨Or.inl rfl, ⟨Or.inl rfl, ⟨Or.inl rfl, ⟨Or.inl rfl, trivial⟩⟩⟩⟩⟩⟩⟩⟩⟩⟩ ?_
        exact kk _ _ _ _ _ _ _ _ hM hD ho hod (lwJ_s hJ) (by omega) (by omega)
      · skip
        exact absurd c_1548 (by omega)
    · skip
      exact absurd c_1541 (by omega)

set_option maxHeartbeats 4000000 in
set_option maxRecDepth 20000 in
theorem lc_29 {P : xP} {Θ : xT} {cm : cmT} {a N b sm rt q : Nat} {xs : Nat → Int32} (E : lwE P Θ cm a N b sm rt xs) {F : xF} {z k n th : Nat} {M : mcS} {g : Nat → Int64} {gd : Nat → UInt64} (hM : xMC F (cm) (b) (M)) (hD : xMD F (b + 566) (th) (M)) (ho : F (b + 578) = some (.inr (2, 1, fun b9 => .long (g b9)))) (hod : F (b + 579) = some (.inr (3, 1, fun b9 => .double (gd b9)))) (hJ : lwJ q M) (hq : 3 * q + 3 ≤ N) (hkn : k + 2 ≤ 603072 ∧ n + 12 ≤ 7207018) (kk : lwK P Θ cm a b q k n) : xX P Θ 1566 [some (.ref (a)), some (.ref (b)), some (.ref (b + 566)), some (.ref (b + 578)), some (.ref (b + 579)), some (.int (nI (3 * q))), none, none, none, none] [] F z k n := by
  obtain ⟨hC, hX, ha, hN, hCM, hSM, hSR, hZx, hNx⟩ := E
  obtain ⟨hI, hS, hpp⟩ := id hJ
  obtain ⟨hk9, hn9⟩ := hkn
  have hu8 : M.2.2.2.2.2.2.2.1 ≤ 8 := hI.2.2.2.1
  have hup0 : M.2.2.2.2.2.2.2.1 ≤ M.2.2.2.2.2.2.1 := hI.2.2.2.2.1
  have hsv0 : M.2.2.2.2.2.1 ≤ 1 := hI.2.2.2.2.2.1
  have hpp0 : M.2.2.2.2.2.2.1 < 100000 := by omega
  have hun0 : M.2.2.2.2.2.2.2.1 < 100000 := by omega
  obtain ⟨hb1, hb2, hb3⟩ := hS.1
  have hnx : M.1.2.2.1.2.1 < 999 := by omega
  have hn0 : M.1.2.2.1.2.1 + 1 < 1000 := by omega
  have hg0 : M.1.2.2.2.2.2.2.1 < 1000 := by omega
  have hf0 : M.1.2.2.2.2.2.2.2.2 < 1000 := by omega
  refine x_aload_n hC d_Law_law_1566 rfl rfl ?_
  refine x_aload_n hC d_Law_law_1567 rfl rfl ?_
  refine x_iload hC d_Law_law_1568 rfl ?_
  refine x_iconst hC d_Law_law_1570 (v := nI 1) (by decide) ?_
  refine x_iadd hC d_Law_law_1571 (v := (nI (3 * q + 1))) (x_addN (by omega)) ?_
  refine x_sld hC hX ha (j := 3 * q + 1) ⟨rfl, by omega, by omega⟩ d_Law_law_1572 ?_
  refine x_aload_n hC d_Law_law_1573 rfl rfl ?_
  refine x_callW hC kw_Law_266 (c_Law_bitCount (hM := hM) (ho := ho) (hZx := hZx) (hNx := hNx) (hbo := Or.inr (by omega))) (Nat.le_of_ble_eq_true rfl) rfl rfl rfl (Nat.le_of_ble_eq_true rfl) ⟨by omega, by omega⟩ d_Law_law_1574 (fun r9 Fw zw hp9 => ?_)
  rcases hp9 with ⟨rfl, hM9, ho9, p_0, hag9⟩ | ⟨rfl, hM9, ho9, hcond, hag9⟩
  · skip
    have hM : xMC Fw (cm) (b) (M) := hM9
    have hD : xMD Fw (b + 566) (th) (M) := xMD_fr hD (fun a9 q1 q2 => hag9 a9 (by omega) (by omega))
    have ho : Fw (b + 578) = some (.inr (2, 1, fun b9 => .long ((vp_updL g 0 (((nI (bitsN (hLen M.1.1) (mAt M.1 (xs (3 * q + 1))).2.2.2 (mAt M.1 (xs (3 * q + 1))).2.2.1))).toInt64)) b9))) := ho9
    have hod : Fw (b + 579) = some (.inr (3, 1, fun b9 => .double (gd b9))) := (hag9 _ (by omega) (by omega)).trans hod
    clear hM9 ho9 hag9
    refine x_istore hC d_Law_law_1577 (Nat.le_of_ble_eq_true rfl) (L1 := [some (.ref a), some (.ref b), some (.ref (b + 566)), some (.ref (b + 578)), some (.ref (b + 579)), some (.int (nI (3 * q))), some (.int (nI 0)), none, none, none]) rfl ?_
    refine x_aload_n hC d_Law_law_1579 rfl rfl ?_
    refine x_aload_n hC d_Law_law_1580 rfl rfl ?_
    refine x_iload hC d_Law_law_1581 rfl ?_
    refine x_iconst hC d_Law_law_1583 (v := nI 1) (by decide) ?_
    refine x_iadd hC d_Law_law_1584 (v := (nI (3 * q + 1))) (x_addN (by omega)) ?_
    refine x_sld hC hX ha (j := 3 * q + 1) ⟨rfl, by omega, by omega⟩ d_Law_law_1585 ?_
    obtain ⟨fsD, hDo⟩ := xMD_at hD
    refine x_callV hC kv_Law_268 (c_MessageCoderModel_bitCount (hD := hD) (hI := hI)) hDo rfl rfl (Nat.le_of_ble_eq_true rfl) rfl rfl rfl (Nat.le_of_ble_eq_true rfl) ⟨by omega, by omega⟩ d_Law_law_1586 (fun r9 Fm z9 hp9 => ?_)
    obtain ⟨rfl, h9c, j0, hag9⟩ := hp9
    rw [h9c]
    clear h9c z9
    have hM : xMC Fm (cm) (b) (M) := xMC_fr hM (fun a9 q1 q2 => hag9 a9 (by omega))
    have hD : xMD Fm (((b + 566))) ((if mOk M.1 (xs (3 * q + 1)) then 0 else 1)) (M) := j0
    have ho : Fm (b + 578) = some (.inr (2, 1, fun b9 => .long ((vp_updL g 0 (((nI (bitsN (hLen M.1.1) (mAt M.1 (xs (3 * q + 1))).2.2.2 (mAt M.1 (xs (3 * q + 1))).2.2.1))).toInt64)) b9))) := (hag9 _ (by omega)).trans ho
    have hod : Fm (b + 579) = some (.inr (3, 1, fun b9 => .double (gd b9))) := (hag9 _ (by omega)).trans hod
    clear j0 hag9
    have hT : ((if mOk M.1 (xs (3 * q + 1)) then 0 else 1)) = 0 := if_pos p_0
    rw [hT] at hD
    refine x_top (v := (nI (bitsN (hLen M.1.1) (mAt M.1 (xs (3 * q + 1))).2.2.2 (mAt M.1 (xs (3 * q + 1))).2.2.1))) (congrArg nI (if_pos p_0)) ?_
    refine x_istore hC d_Law_law_1589 (Nat.le_of_ble_eq_true rfl) (L1 := [some (.ref a), some (.ref b), some (.ref (b + 566)), some (.ref (b + 578)), some (.ref (b + 579)), some (.int (nI (3 * q))), some (.int (nI 0)), some (.int (nI (bitsN (hLen M.1.1) (mAt M.1 (xs (3 * q + 1))).2.2.2 (mAt M.1 (xs (3 * q + 1))).2.2.1))), none, none]) rfl ?_
    refine x_aload_n hC d_Law_law_1591 rfl rfl ?_
    obtain ⟨fsD, hDo⟩ := xMD_at hD
    refine x_callV hC kv_Law_163 (c_thrownD hD) hDo rfl rfl (Nat.le_of_ble_eq_true rfl) rfl rfl rfl (Nat.le_of_ble_eq_true rfl) ⟨by omega, by omega⟩ d_Law_law_1592 (fun r9 F9 z9 hp9 => ?_)
    obtain ⟨rfl, h9b, h9c⟩ := hp9
    rw [h9b, h9c]
    clear h9b h9c F9 z9
    refine x_iload hC d_Law_law_1595 rfl ?_
    refine x_icmpN_eq hC d_Law_law_1597 (tgt := 1602) (by decide) (by omega) (by omega) (fun c_1597 => ?_) (fun c_1597 => ?_)
    · skip
      refine x_iload hC d_Law_law_1602 rfl ?_
      refine x_ifN_ne hC d_Law_law_1604 (tgt := 1619) (by decide) (by omega) (fun c_1604 => ?_) (fun c_1604 => ?_)
      · skip
        exact absurd c_1604 (by omega)
      · skip
        refine x_aload_n hC d_Law_law_1607 rfl rfl ?_
        refine x_iconst hC d_Law_law_1608 (v := nI 0) (by decide) ?_
        refine x_lald hC ho (j := 0) ⟨rfl, by decide, by decide⟩ (x := ((nI (bitsN (hLen M.1.1) (mAt M.1 (xs (3 * q + 1))).2.2.2 (mAt M.1 (xs (3 * q + 1))).2.2.1))).toInt64) rfl d_Law_law_1609 ?_
        refine x_iload hC d_Law_law_1610 rfl ?_
        refine x_i2l hC d_Law_law_1612 rfl ?_
        refine x_lcmp hC d_Law_law_1613 ?_
        refine x_top (v := nI 0) (lg_self _) ?_
        refine x_ifN_eq hC d_Law_law_1614 (tgt := 1619) (by decide) (by omega) (fun c_1614 => ?_) (fun c_1614 => ?_)
        · skip
          refine x_goto hC d_Law_law_1619 (tgt := 2933) (by decide) ?_
          refine x_forget (L1 := [some (.ref a), some (.ref b), some (.ref (b + 566)), some (.ref (b + 578)), some (.ref (b + 579)), some (.int (nI (3 * q))), none, none, none, none]) ⟨Or.inr rfl, ⟨Or.inr rfl, ⟨Or.inr rfl, ⟨Or.inr rfl, ⟨Or.inr rfl, ⟨Or.inr rfl, ⟨Or.inl rfl, ⟨Or.inl rfl, ⟨Or.inl rfl, ⟨Or.inl rfl, trivial⟩⟩⟩⟩⟩⟩⟩⟩⟩⟩ ?_
          exact kk _ _ _ _ _ _ _ _ hM hD ho hod (lwJ_s hJ) (by omega) (by omega)
        · skip
          exact absurd c_1614 (by omega)
    · skip
      exact absurd c_1597 (by omega)
  · skip
    have hM : xMC Fw (cm) (b) (M) := hM9
    have hD : xMD Fw (b + 566) (th) (M) := xMD_fr hD (fun a9 q1 q2 => hag9 a9 (by omega) (by omega))
    have ho : Fw (b + 578) = some (.inr (2, 1, fun b9 => .long (g b9))) := ho9
    have hod : Fw (b + 579) = some (.inr (3, 1, fun b9 => .double (gd b9))) := (hag9 _ (by omega) (by omega)).trans hod
    clear hM9 ho9 hag9
    refine x_istore hC d_Law_law_1577 (Nat.le_of_ble_eq_true rfl) (L1 := [some (.ref a), some (.ref b), some (.ref (b + 566)), some (.ref (b + 578)), some (.ref (b + 579)), some (.int (nI (3 * q))), some (.int (nI 1)), none, none, none]) rfl ?_
    refine x_aload_n hC d_Law_law_1579 rfl rfl ?_
    refine x_aload_n hC d_Law_law_1580 rfl rfl ?_
    refine x_iload hC d_Law_law_1581 rfl ?_
    refine x_iconst hC d_Law_law_1583 (v := nI 1) (by decide) ?_
    refine x_iadd hC d_Law_law_1584 (v := (nI (3 * q + 1))) (x_addN (by omega)) ?_
    refine x_sld hC hX ha (j := 3 * q + 1) ⟨rfl, by omega, by omega⟩ d_Law_law_1585 ?_
    obtain ⟨fsD, hDo⟩ := xMD_at hD
    refine x_callV hC kv_Law_268 (c_MessageCoderModel_bitCount (hD := hD) (hI := hI)) hDo rfl rfl (Nat.le_of_ble_eq_true rfl) rfl rfl rfl (Nat.le_of_ble_eq_true rfl) ⟨by omega, by omega⟩ d_Law_law_1586 (fun r9 Fm z9 hp9 => ?_)
    obtain ⟨rfl, h9c, j0, hag9⟩ := hp9
    rw [h9c]
    clear h9c z9
    have hM : xMC Fm (cm) (b) (M) := xMC_fr hM (fun a9 q1 q2 => hag9 a9 (by omega))
    have hD : xMD Fm (((b + 566))) ((if mOk M.1 (xs (3 * q + 1)) then 0 else 1)) (M) := j0
    have ho : Fm (b + 578) = some (.inr (2, 1, fun b9 => .long (g b9))) := (hag9 _ (by omega)).trans ho
    have hod : Fm (b + 579) = some (.inr (3, 1, fun b9 => .double (gd b9))) := (hag9 _ (by omega)).trans hod
    clear j0 hag9
    have hT : ((if mOk M.1 (xs (3 * q + 1)) then 0 else 1)) = 1 := if_neg hcond
    rw [hT] at hD
    refine x_istore hC d_Law_law_1589 (Nat.le_of_ble_eq_true rfl) (L1 := [some (.ref a), some (.ref b), some (.ref (b + 566)), some (.ref (b + 578)), some (.ref (b + 579)), some (.int (nI (3 * q))), some (.int (nI 1)), some (.int (nI (if mOk M.1 (xs (3 * q + 1)) then bitsN (hLen M.1.1) (mAt M.1 (xs (3 * q + 1))).2.2.2 (mAt M.1 (xs (3 * q + 1))).2.2.1 else 0))), none, none]) rfl ?_
    refine x_aload_n hC d_Law_law_1591 rfl rfl ?_
    obtain ⟨fsD, hDo⟩ := xMD_at hD
    refine x_callV hC kv_Law_163 (c_thrownD hD) hDo rfl rfl (Nat.le_of_ble_eq_true rfl) rfl rfl rfl (Nat.le_of_ble_eq_true rfl) ⟨by omega, by omega⟩ d_Law_law_1592 (fun r9 F9 z9 hp9 => ?_)
    obtain ⟨rfl, h9b, h9c⟩ := hp9
    rw [h9b, h9c]
    clear h9b h9c F9 z9
    refine x_iload hC d_Law_law_1595 rfl ?_
    refine x_icmpN_eq hC d_Law_law_1597 (tgt := 1602) (by decide) (by omega) (by omega) (fun c_1597 => ?_) (fun c_1597 => ?_)
    · skip
      refine x_iload hC d_Law_law_1602 rfl ?_
      refine x_ifN_ne hC d_Law_law_1604 (tgt := 1619) (by decide) (by omega) (fun c_1604 => ?_) (fun c_1604 => ?_)
      · skip
        refine x_goto hC d_Law_law_1619 (tgt := 2933) (by decide) ?_
        refine x_forget (L1 := [some (.ref a), some (.ref b), some (.ref (b + 566)), some (.ref (b + 578)), some (.ref (b + 579)), some (.int (nI (3 * q))), none, none, none, none]) ⟨Or.inr rfl, ⟨Or.inr rfl, ⟨Or.inr rfl, ⟨Or.inr rfl, ⟨Or.inr rfl, ⟨Or.inr rfl, ⟨Or.inl rfl, ⟨Or.inl rfl, ⟨Or.inl rfl, ⟨Or.inl rfl, trivial⟩⟩⟩⟩⟩⟩⟩⟩⟩⟩ ?_
        exact kk _ _ _ _ _ _ _ _ hM hD ho hod (lwJ_s hJ) (by omega) (by omega)
      · skip
        exact absurd c_1604 (by omega)
    · skip
      exact absurd c_1597 (by omega)

set_option maxHeartbeats 4000000 in
set_option maxRecDepth 20000 in
theorem lc_30 {P : xP} {Θ : xT} {cm : cmT} {a N b sm rt q : Nat} {xs : Nat → Int32} (E : lwE P Θ cm a N b sm rt xs) {F : xF} {z k n th : Nat} {M : mcS} {g : Nat → Int64} {gd : Nat → UInt64} (hM : xMC F (cm) (b) (M)) (hD : xMD F (b + 566) (th) (M)) (ho : F (b + 578) = some (.inr (2, 1, fun b9 => .long (g b9)))) (hod : F (b + 579) = some (.inr (3, 1, fun b9 => .double (gd b9)))) (hJ : lwJ q M) (hq : 3 * q + 3 ≤ N) (hkn : k + 2 ≤ 603072 ∧ n + 12 ≤ 7207018) (kk : lwK P Θ cm a b q k n) : xX P Θ 1622 [some (.ref (a)), some (.ref (b)), some (.ref (b + 566)), some (.ref (b + 578)), some (.ref (b + 579)), some (.int (nI (3 * q))), none, none, none, none] [] F z k n := by
  obtain ⟨hC, hX, ha, hN, hCM, hSM, hSR, hZx, hNx⟩ := E
  obtain ⟨hI, hS, hpp⟩ := id hJ
  obtain ⟨hk9, hn9⟩ := hkn
  have hu8 : M.2.2.2.2.2.2.2.1 ≤ 8 := hI.2.2.2.1
  have hup0 : M.2.2.2.2.2.2.2.1 ≤ M.2.2.2.2.2.2.1 := hI.2.2.2.2.1
  have hsv0 : M.2.2.2.2.2.1 ≤ 1 := hI.2.2.2.2.2.1
  have hpp0 : M.2.2.2.2.2.2.1 < 100000 := by omega
  have hun0 : M.2.2.2.2.2.2.2.1 < 100000 := by omega
  obtain ⟨hb1, hb2, hb3⟩ := hS.1
  have hnx : M.1.2.2.1.2.1 < 999 := by omega
  have hn0 : M.1.2.2.1.2.1 + 1 < 1000 := by omega
  have hg0 : M.1.2.2.2.2.2.2.1 < 1000 := by omega
  have hf0 : M.1.2.2.2.2.2.2.2.2 < 1000 := by omega
  refine x_aload_n hC d_Law_law_1622 rfl rfl ?_
  refine x_aload_n hC d_Law_law_1623 rfl rfl ?_
  refine x_iload hC d_Law_law_1624 rfl ?_
  refine x_iconst hC d_Law_law_1626 (v := nI 1) (by decide) ?_
  refine x_iadd hC d_Law_law_1627 (v := (nI (3 * q + 1))) (x_addN (by omega)) ?_
  refine x_sld hC hX ha (j := 3 * q + 1) ⟨rfl, by omega, by omega⟩ d_Law_law_1628 ?_
  refine x_aload_n hC d_Law_law_1629 rfl rfl ?_
  refine x_iload hC d_Law_law_1630 rfl ?_
  refine x_iconst hC d_Law_law_1632 (v := nI 2) (by decide) ?_
  refine x_iadd hC d_Law_law_1633 (v := (nI (3 * q + 2))) (x_addN (by omega)) ?_
  refine x_sld hC hX ha (j := 3 * q + 2) ⟨rfl, by omega, by omega⟩ d_Law_law_1634 ?_
  refine x_aload_n hC d_Law_law_1635 rfl rfl ?_
  refine x_callW hC kw_Law_269 (c_Law_bitAt (hM := hM) (ho := ho) (hZx := hZx) (hNx := hNx) (hbo := Or.inr (by omega))) (Nat.le_of_ble_eq_true rfl) rfl rfl rfl (Nat.le_of_ble_eq_true rfl) ⟨by omega, by omega⟩ d_Law_law_1636 (fun r9 Fw zw hp9 => ?_)
  rcases hp9 with ⟨rfl, hM9, ho9, p_0, p_1, hag9⟩ | ⟨rfl, hM9, ho9, hcond, hag9⟩ | ⟨rfl, hM9, ho9, hcond, hag9⟩
  · skip
    have hM : xMC Fw (cm) (b) (M) := hM9
    have hD : xMD Fw (b + 566) (th) (M) := xMD_fr hD (fun a9 q1 q2 => hag9 a9 (by omega) (by omega))
    have ho : Fw (b + 578) = some (.inr (2, 1, fun b9 => .long ((vp_updL g 0 (((nI (splB (hLen M.1.1) (hVal (hLen M.1.1)) (mAt M.1 (xs (3 * q + 1))).2.2.2 (mAt M.1 (xs (3 * q + 1))).2.2.1 (xs (3 * q + 2)).toNatClampNeg))).toInt64)) b9))) := ho9
    have hod : Fw (b + 579) = some (.inr (3, 1, fun b9 => .double (gd b9))) := (hag9 _ (by omega) (by omega)).trans hod
    clear hM9 ho9 hag9
    refine x_istore hC d_Law_law_1639 (Nat.le_of_ble_eq_true rfl) (L1 := [some (.ref a), some (.ref b), some (.ref (b + 566)), some (.ref (b + 578)), some (.ref (b + 579)), some (.int (nI (3 * q))), some (.int (nI 0)), none, none, none]) rfl ?_
    refine x_aload_n hC d_Law_law_1641 rfl rfl ?_
    refine x_aload_n hC d_Law_law_1642 rfl rfl ?_
    refine x_iload hC d_Law_law_1643 rfl ?_
    refine x_iconst hC d_Law_law_1645 (v := nI 1) (by decide) ?_
    refine x_iadd hC d_Law_law_1646 (v := (nI (3 * q + 1))) (x_addN (by omega)) ?_
    refine x_sld hC hX ha (j := 3 * q + 1) ⟨rfl, by omega, by omega⟩ d_Law_law_1647 ?_
    refine x_aload_n hC d_Law_law_1648 rfl rfl ?_
    refine x_iload hC d_Law_law_1649 rfl ?_
    refine x_iconst hC d_Law_law_1651 (v := nI 2) (by decide) ?_
    refine x_iadd hC d_Law_law_1652 (v := (nI (3 * q + 2))) (x_addN (by omega)) ?_
    refine x_sld hC hX ha (j := 3 * q + 2) ⟨rfl, by omega, by omega⟩ d_Law_law_1653 ?_
    obtain ⟨fsD, hDo⟩ := xMD_at hD
    refine x_callV hC kv_Law_271 (c_MessageCoderModel_bitAt (hD := hD) (hI := hI)) hDo rfl rfl (Nat.le_of_ble_eq_true rfl) rfl rfl rfl (Nat.le_of_ble_eq_true rfl) ⟨by omega, by omega⟩ d_Law_law_1654 (fun r9 Fm z9 hp9 => ?_)
    obtain ⟨rfl, h9c, j0, hag9⟩ := hp9
    rw [h9c]
    clear h9c z9
    have hM : xMC Fm (cm) (b) (M) := xMC_fr hM (fun a9 q1 q2 => hag9 a9 (by omega))
    have hD : xMD Fm (((b + 566))) ((if mOk M.1 (xs (3 * q + 1)) then if 0 ≤ (xs (3 * q + 2)) ∧ (xs (3 * q + 2)) < nI (bitsN (hLen M.1.1) (mAt M.1 (xs (3 * q + 1))).2.2.2 (mAt M.1 (xs (3 * q + 1))).2.2.1) then 0 else 2 else 1)) (M) := j0
    have ho : Fm (b + 578) = some (.inr (2, 1, fun b9 => .long ((vp_updL g 0 (((nI (splB (hLen M.1.1) (hVal (hLen M.1.1)) (mAt M.1 (xs (3 * q + 1))).2.2.2 (mAt M.1 (xs (3 * q + 1))).2.2.1 (xs (3 * q + 2)).toNatClampNeg))).toInt64)) b9))) := (hag9 _ (by omega)).trans ho
    have hod : Fm (b + 579) = some (.inr (3, 1, fun b9 => .double (gd b9))) := (hag9 _ (by omega)).trans hod
    clear j0 hag9
    have hT : ((if mOk M.1 (xs (3 * q + 1)) then if 0 ≤ (xs (3 * q + 2)) ∧ (xs (3 * q + 2)) < nI (bitsN (hLen M.1.1) (mAt M.1 (xs (3 * q + 1))).2.2.2 (mAt M.1 (xs (3 * q + 1))).2.2.1) then 0 else 2 else 1)) = 0 := (if_pos p_0).trans (if_pos p_1)
    rw [hT] at hD
    refine x_top (v := (nI (splB (hLen M.1.1) (hVal (hLen M.1.1)) (mAt M.1 (xs (3 * q + 1))).2.2.2 (mAt M.1 (xs (3 * q + 1))).2.2.1 (xs (3 * q + 2)).toNatClampNeg))) (congrArg nI (if_pos ⟨p_0, p_1⟩)) ?_
    refine x_istore hC d_Law_law_1657 (Nat.le_of_ble_eq_true rfl) (L1 := [some (.ref a), some (.ref b), some (.ref (b + 566)), some (.ref (b + 578)), some (.ref (b + 579)), some (.int (nI (3 * q))), some (.int (nI 0)), some (.int (nI (splB (hLen M.1.1) (hVal (hLen M.1.1)) (mAt M.1 (xs (3 * q + 1))).2.2.2 (mAt M.1 (xs (3 * q + 1))).2.2.1 (xs (3 * q + 2)).toNatClampNeg))), none, none]) rfl ?_
    refine x_aload_n hC d_Law_law_1659 rfl rfl ?_
    obtain ⟨fsD, hDo⟩ := xMD_at hD
    refine x_callV hC kv_Law_163 (c_thrownD hD) hDo rfl rfl (Nat.le_of_ble_eq_true rfl) rfl rfl rfl (Nat.le_of_ble_eq_true rfl) ⟨by omega, by omega⟩ d_Law_law_1660 (fun r9 F9 z9 hp9 => ?_)
    obtain ⟨rfl, h9b, h9c⟩ := hp9
    rw [h9b, h9c]
    clear h9b h9c F9 z9
    refine x_iload hC d_Law_law_1663 rfl ?_
    refine x_icmpN_eq hC d_Law_law_1665 (tgt := 1670) (by decide) (by omega) (by omega) (fun c_1665 => ?_) (fun c_1665 => ?_)
    · skip
      refine x_iload hC d_Law_law_1670 rfl ?_
      refine x_ifN_ne hC d_Law_law_1672 (tgt := 1687) (by decide) (by omega) (fun c_1672 => ?_) (fun c_1672 => ?_)
      · skip
        exact absurd c_1672 (by omega)
      · skip
        refine x_aload_n hC d_Law_law_1675 rfl rfl ?_
        refine x_iconst hC d_Law_law_1676 (v := nI 0) (by decide) ?_
        refine x_lald hC ho (j := 0) ⟨rfl, by decide, by decide⟩ (x := ((nI (splB (hLen M.1.1) (hVal (hLen M.1.1)) (mAt M.1 (xs (3 * q + 1))).2.2.2 (mAt M.1 (xs (3 * q + 1))).2.2.1 (xs (3 * q + 2)).toNatClampNeg))).toInt64) rfl d_Law_law_1677 ?_
        refine x_iload hC d_Law_law_1678 rfl ?_
        refine x_i2l hC d_Law_law_1680 rfl ?_
        refine x_lcmp hC d_Law_law_1681 ?_
        refine x_top (v := nI 0) (lg_self _) ?_
        refine x_ifN_eq hC d_Law_law_1682 (tgt := 1687) (by decide) (by omega) (fun c_1682 => ?_) (fun c_1682 => ?_)
        · skip
          refine x_goto hC d_Law_law_1687 (tgt := 2933) (by decide) ?_
          refine x_forget (L1 := [some (.ref a), some (.ref b), some (.ref (b + 566)), some (.ref (b + 578)), some (.ref (b + 579)), some (.int (nI (3 * q))), none, none, none, none]) ⟨Or.inr rfl, ⟨Or.inr rfl, ⟨Or.inr rfl, ⟨Or.inr rfl, ⟨Or.inr rfl, ⟨Or.inr rfl, ⟨Or.inl rfl, ⟨Or.inl rfl, ⟨Or.inl rfl, ⟨Or.inl rfl, trivial⟩⟩⟩⟩⟩⟩⟩⟩⟩⟩ ?_
          exact kk _ _ _ _ _ _ _ _ hM hD ho hod (lwJ_s hJ) (by omega) (by omega)
        · skip
          exact absurd c_1682 (by omega)
    · skip
      exact absurd c_1665 (by omega)
  · skip
    have hM : xMC Fw (cm) (b) (M) := hM9
    have hD : xMD Fw (b + 566) (th) (M) := xMD_fr hD (fun a9 q1 q2 => hag9 a9 (by omega) (by omega))
    have ho : Fw (b + 578) = some (.inr (2, 1, fun b9 => .long (g b9))) := ho9
    have hod : Fw (b + 579) = some (.inr (3, 1, fun b9 => .double (gd b9))) := (hag9 _ (by omega) (by omega)).trans hod
    clear hM9 ho9 hag9
    refine x_istore hC d_Law_law_1639 (Nat.le_of_ble_eq_true rfl) (L1 := [some (.ref a), some (.ref b), some (.ref (b + 566)), some (.ref (b + 578)), some (.ref (b + 579)), some (.int (nI (3 * q))), some (.int (nI 1)), none, none, none]) rfl ?_
    refine x_aload_n hC d_Law_law_1641 rfl rfl ?_
    refine x_aload_n hC d_Law_law_1642 rfl rfl ?_
    refine x_iload hC d_Law_law_1643 rfl ?_
    refine x_iconst hC d_Law_law_1645 (v := nI 1) (by decide) ?_
    refine x_iadd hC d_Law_law_1646 (v := (nI (3 * q + 1))) (x_addN (by omega)) ?_
    refine x_sld hC hX ha (j := 3 * q + 1) ⟨rfl, by omega, by omega⟩ d_Law_law_1647 ?_
    refine x_aload_n hC d_Law_law_1648 rfl rfl ?_
    refine x_iload hC d_Law_law_1649 rfl ?_
    refine x_iconst hC d_Law_law_1651 (v := nI 2) (by decide) ?_
    refine x_iadd hC d_Law_law_1652 (v := (nI (3 * q + 2))) (x_addN (by omega)) ?_
    refine x_sld hC hX ha (j := 3 * q + 2) ⟨rfl, by omega, by omega⟩ d_Law_law_1653 ?_
    obtain ⟨fsD, hDo⟩ := xMD_at hD
    refine x_callV hC kv_Law_271 (c_MessageCoderModel_bitAt (hD := hD) (hI := hI)) hDo rfl rfl (Nat.le_of_ble_eq_true rfl) rfl rfl rfl (Nat.le_of_ble_eq_true rfl) ⟨by omega, by omega⟩ d_Law_law_1654 (fun r9 Fm z9 hp9 => ?_)
    obtain ⟨rfl, h9c, j0, hag9⟩ := hp9
    rw [h9c]
    clear h9c z9
    have hM : xMC Fm (cm) (b) (M) := xMC_fr hM (fun a9 q1 q2 => hag9 a9 (by omega))
    have hD : xMD Fm (((b + 566))) ((if mOk M.1 (xs (3 * q + 1)) then if 0 ≤ (xs (3 * q + 2)) ∧ (xs (3 * q + 2)) < nI (bitsN (hLen M.1.1) (mAt M.1 (xs (3 * q + 1))).2.2.2 (mAt M.1 (xs (3 * q + 1))).2.2.1) then 0 else 2 else 1)) (M) := j0
    have ho : Fm (b + 578) = some (.inr (2, 1, fun b9 => .long (g b9))) := (hag9 _ (by omega)).trans ho
    have hod : Fm (b + 579) = some (.inr (3, 1, fun b9 => .double (gd b9))) := (hag9 _ (by omega)).trans hod
    clear j0 hag9
    have hT : ((if mOk M.1 (xs (3 * q + 1)) then if 0 ≤ (xs (3 * q + 2)) ∧ (xs (3 * q + 2)) < nI (bitsN (hLen M.1.1) (mAt M.1 (xs (3 * q + 1))).2.2.2 (mAt M.1 (xs (3 * q + 1))).2.2.1) then 0 else 2 else 1)) = 1 := if_neg hcond
    rw [hT] at hD
    refine x_istore hC d_Law_law_1657 (Nat.le_of_ble_eq_true rfl) (L1 := [some (.ref a), some (.ref b), some (.ref (b + 566)), some (.ref (b + 578)), some (.ref (b + 579)), some (.int (nI (3 * q))), some (.int (nI 1)), some (.int (nI (if mOk M.1 (xs (3 * q + 1)) ∧ (0 ≤ (xs (3 * q + 2)) ∧ (xs (3 * q + 2)) < nI (bitsN (hLen M.1.1) (mAt M.1 (xs (3 * q + 1))).2.2.2 (mAt M.1 (xs (3 * q + 1))).2.2.1)) then splB (hLen M.1.1) (hVal (hLen M.1.1)) (mAt M.1 (xs (3 * q + 1))).2.2.2 (mAt M.1 (xs (3 * q + 1))).2.2.1 (xs (3 * q + 2)).toNatClampNeg else 0))), none, none]) rfl ?_
    refine x_aload_n hC d_Law_law_1659 rfl rfl ?_
    obtain ⟨fsD, hDo⟩ := xMD_at hD
    refine x_callV hC kv_Law_163 (c_thrownD hD) hDo rfl rfl (Nat.le_of_ble_eq_true rfl) rfl rfl rfl (Nat.le_of_ble_eq_true rfl) ⟨by omega, by omega⟩ d_Law_law_1660 (fun r9 F9 z9 hp9 => ?_)
    obtain ⟨rfl, h9b, h9c⟩ := hp9
    rw [h9b, h9c]
    clear h9b h9c F9 z9
    refine x_iload hC d_Law_law_1663 rfl ?_
    refine x_icmpN_eq hC d_Law_law_1665 (tgt := 1670) (by decide) (by omega) (by omega) (fun c_1665 => ?_) (fun c_1665 => ?_)
    · skip
      refine x_iload hC d_Law_law_1670 rfl ?_
      refine x_ifN_ne hC d_Law_law_1672 (tgt := 1687) (by decide) (by omega) (fun c_1672 => ?_) (fun c_1672 => ?_)
      · skip
        refine x_goto hC d_Law_law_1687 (tgt := 2933) (by decide) ?_
        refine x_forget (L1 := [some (.ref a), some (.ref b), some (.ref (b + 566)), some (.ref (b + 578)), some (.ref (b + 579)), some (.int (nI (3 * q))), none, none, none, none]) ⟨Or.inr rfl, ⟨Or.inr rfl, ⟨Or.inr rfl, ⟨Or.inr rfl, ⟨Or.inr rfl, ⟨Or.inr rfl, ⟨Or.inl rfl, ⟨Or.inl rfl, ⟨Or.inl rfl, ⟨Or.inl rfl, trivial⟩⟩⟩⟩⟩⟩⟩⟩⟩⟩ ?_
        exact kk _ _ _ _ _ _ _ _ hM hD ho hod (lwJ_s hJ) (by omega) (by omega)
      · skip
        exact absurd c_1672 (by omega)
    · skip
      exact absurd c_1665 (by omega)
  · skip
    have hM : xMC Fw (cm) (b) (M) := hM9
    have hD : xMD Fw (b + 566) (th) (M) := xMD_fr hD (fun a9 q1 q2 => hag9 a9 (by omega) (by omega))
    have ho : Fw (b + 578) = some (.inr (2, 1, fun b9 => .long (g b9))) := ho9
    have hod : Fw (b + 579) = some (.inr (3, 1, fun b9 => .double (gd b9))) := (hag9 _ (by omega) (by omega)).trans hod
    clear hM9 ho9 hag9
    refine x_istore hC d_Law_law_1639 (Nat.le_of_ble_eq_true rfl) (L1 := [some (.ref a), some (.ref b), some (.ref (b + 566)), some (.ref (b + 578)), some (.ref (b + 579)), some (.int (nI (3 * q))), some (.int (nI 2)), none, none, none]) rfl ?_
    refine x_aload_n hC d_Law_law_1641 rfl rfl ?_
    refine x_aload_n hC d_Law_law_1642 rfl rfl ?_
    refine x_iload hC d_Law_law_1643 rfl ?_
    refine x_iconst hC d_Law_law_1645 (v := nI 1) (by decide) ?_
    refine x_iadd hC d_Law_law_1646 (v := (nI (3 * q + 1))) (x_addN (by omega)) ?_
    refine x_sld hC hX ha (j := 3 * q + 1) ⟨rfl, by omega, by omega⟩ d_Law_law_1647 ?_
    refine x_aload_n hC d_Law_law_1648 rfl rfl ?_
    refine x_iload hC d_Law_law_1649 rfl ?_
    refine x_iconst hC d_Law_law_1651 (v := nI 2) (by decide) ?_
    refine x_iadd hC d_Law_law_1652 (v := (nI (3 * q + 2))) (x_addN (by omega)) ?_
    refine x_sld hC hX ha (j := 3 * q + 2) ⟨rfl, by omega, by omega⟩ d_Law_law_1653 ?_
    obtain ⟨fsD, hDo⟩ := xMD_at hD
    refine x_callV hC kv_Law_271 (c_MessageCoderModel_bitAt (hD := hD) (hI := hI)) hDo rfl rfl (Nat.le_of_ble_eq_true rfl) rfl rfl rfl (Nat.le_of_ble_eq_true rfl) ⟨by omega, by omega⟩ d_Law_law_1654 (fun r9 Fm z9 hp9 => ?_)
    obtain ⟨rfl, h9c, j0, hag9⟩ := hp9
    rw [h9c]
    clear h9c z9
    have hM : xMC Fm (cm) (b) (M) := xMC_fr hM (fun a9 q1 q2 => hag9 a9 (by omega))
    have hD : xMD Fm (((b + 566))) ((if mOk M.1 (xs (3 * q + 1)) then if 0 ≤ (xs (3 * q + 2)) ∧ (xs (3 * q + 2)) < nI (bitsN (hLen M.1.1) (mAt M.1 (xs (3 * q + 1))).2.2.2 (mAt M.1 (xs (3 * q + 1))).2.2.1) then 0 else 2 else 1)) (M) := j0
    have ho : Fm (b + 578) = some (.inr (2, 1, fun b9 => .long (g b9))) := (hag9 _ (by omega)).trans ho
    have hod : Fm (b + 579) = some (.inr (3, 1, fun b9 => .double (gd b9))) := (hag9 _ (by omega)).trans hod
    clear j0 hag9
    have hT : ((if mOk M.1 (xs (3 * q + 1)) then if 0 ≤ (xs (3 * q + 2)) ∧ (xs (3 * q + 2)) < nI (bitsN (hLen M.1.1) (mAt M.1 (xs (3 * q + 1))).2.2.2 (mAt M.1 (xs (3 * q + 1))).2.2.1) then 0 else 2 else 1)) = 2 := (if_pos hcond.1).trans (if_neg hcond.2)
    rw [hT] at hD
    refine x_istore hC d_Law_law_1657 (Nat.le_of_ble_eq_true rfl) (L1 := [some (.ref a), some (.ref b), some (.ref (b + 566)), some (.ref (b + 578)), some (.ref (b + 579)), some (.int (nI (3 * q))), some (.int (nI 2)), some (.int (nI (if mOk M.1 (xs (3 * q + 1)) ∧ (0 ≤ (xs (3 * q + 2)) ∧ (xs (3 * q + 2)) < nI (bitsN (hLen M.1.1) (mAt M.1 (xs (3 * q + 1))).2.2.2 (mAt M.1 (xs (3 * q + 1))).2.2.1)) then splB (hLen M.1.1) (hVal (hLen M.1.1)) (mAt M.1 (xs (3 * q + 1))).2.2.2 (mAt M.1 (xs (3 * q + 1))).2.2.1 (xs (3 * q + 2)).toNatClampNeg else 0))), none, none]) rfl ?_
    refine x_aload_n hC d_Law_law_1659 rfl rfl ?_
    obtain ⟨fsD, hDo⟩ := xMD_at hD
    refine x_callV hC kv_Law_163 (c_thrownD hD) hDo rfl rfl (Nat.le_of_ble_eq_true rfl) rfl rfl rfl (Nat.le_of_ble_eq_true rfl) ⟨by omega, by omega⟩ d_Law_law_1660 (fun r9 F9 z9 hp9 => ?_)
    obtain ⟨rfl, h9b, h9c⟩ := hp9
    rw [h9b, h9c]
    clear h9b h9c F9 z9
    refine x_iload hC d_Law_law_1663 rfl ?_
    refine x_icmpN_eq hC d_Law_law_1665 (tgt := 1670) (by decide) (by omega) (by omega) (fun c_1665 => ?_) (fun c_1665 => ?_)
    · skip
      refine x_iload hC d_Law_law_1670 rfl ?_
      refine x_ifN_ne hC d_Law_law_1672 (tgt := 1687) (by decide) (by omega) (fun c_1672 => ?_) (fun c_1672 => ?_)
      · skip
        refine x_goto hC d_Law_law_1687 (tgt := 2933) (by decide) ?_
        refine x_forget (L1 := [some (.ref a), some (.ref b), some (.ref (b + 566)), some (.ref (b + 578)), some (.ref (b + 579)), some (.int (nI (3 * q))), none, none, none, none]) ⟨Or.inr rfl, ⟨Or.inr rfl, ⟨Or.inr rfl, ⟨Or.inr rfl, ⟨Or.inr rfl, ⟨Or.inr rfl, ⟨Or.inl rfl, ⟨Or.inl rfl, ⟨Or.inl rfl, ⟨Or.inl rfl, trivial⟩⟩⟩⟩⟩⟩⟩⟩⟩⟩ ?_
        exact kk _ _ _ _ _ _ _ _ hM hD ho hod (lwJ_s hJ) (by omega) (by omega)
      · skip
        exact absurd c_1672 (by omega)
    · skip
      exact absurd c_1665 (by omega)

set_option maxHeartbeats 4000000 in
set_option maxRecDepth 20000 in
theorem lc_31 {P : xP} {Θ : xT} {cm : cmT} {a N b sm rt q : Nat} {xs : Nat → Int32} (E : lwE P Θ cm a N b sm rt xs) {F : xF} {z k n th : Nat} {M : mcS} {g : Nat → Int64} {gd : Nat → UInt64} (hM : xMC F (cm) (b) (M)) (hD : xMD F (b + 566) (th) (M)) (ho : F (b + 578) = some (.inr (2, 1, fun b9 => .long (g b9)))) (hod : F (b + 579) = some (.inr (3, 1, fun b9 => .double (gd b9)))) (hJ : lwJ q M) (hq : 3 * q + 3 ≤ N) (hkn : k + 2 ≤ 603072 ∧ n + 12 ≤ 7207018) (kk : lwK P Θ cm a b q k n) : xX P Θ 1690 [some (.ref (a)), some (.ref (b)), some (.ref (b + 566)), some (.ref (b + 578)), some (.ref (b + 579)), some (.int (nI (3 * q))), none, none, none, none] [] F z k n := by
  obtain ⟨hC, hX, ha, hN, hCM, hSM, hSR, hZx, hNx⟩ := E
  obtain ⟨hI, hS, hpp⟩ := id hJ
  obtain ⟨hk9, hn9⟩ := hkn
  have hu8 : M.2.2.2.2.2.2.2.1 ≤ 8 := hI.2.2.2.1
  have hup0 : M.2.2.2.2.2.2.2.1 ≤ M.2.2.2.2.2.2.1 := hI.2.2.2.2.1
  have hsv0 : M.2.2.2.2.2.1 ≤ 1 := hI.2.2.2.2.2.1
  have hpp0 : M.2.2.2.2.2.2.1 < 100000 := by omega
  have hun0 : M.2.2.2.2.2.2.2.1 < 100000 := by omega
  obtain ⟨hb1, hb2, hb3⟩ := hS.1
  have hnx : M.1.2.2.1.2.1 < 999 := by omega
  have hn0 : M.1.2.2.1.2.1 + 1 < 1000 := by omega
  have hg0 : M.1.2.2.2.2.2.2.1 < 1000 := by omega
  have hf0 : M.1.2.2.2.2.2.2.2.2 < 1000 := by omega
  refine x_aload_n hC d_Law_law_1690 rfl rfl ?_
  refine x_aload_n hC d_Law_law_1691 rfl rfl ?_
  refine x_iload hC d_Law_law_1692 rfl ?_
  refine x_iconst hC d_Law_law_1694 (v := nI 1) (by decide) ?_
  refine x_iadd hC d_Law_law_1695 (v := (nI (3 * q + 1))) (x_addN (by omega)) ?_
  refine x_sld hC hX ha (j := 3 * q + 1) ⟨rfl, by omega, by omega⟩ d_Law_law_1696 ?_
  refine x_aload_n hC d_Law_law_1697 rfl rfl ?_
  refine x_callW hC kw_Law_272 (c_Law_checksum (hM := hM) (ho := ho) (hZx := hZx) (hNx := hNx) (hbo := Or.inr (by omega))) (Nat.le_of_ble_eq_true rfl) rfl rfl rfl (Nat.le_of_ble_eq_true rfl) ⟨by omega, by omega⟩ d_Law_law_1698 (fun r9 Fw zw hp9 => ?_)
  rcases hp9 with ⟨rfl, hM9, ho9, p_0, hag9⟩ | ⟨rfl, hM9, ho9, hcond, hag9⟩
  · skip
    have hM : xMC Fw (cm) (b) (M) := hM9
    have hD : xMD Fw (b + 566) (th) (M) := xMD_fr hD (fun a9 q1 q2 => hag9 a9 (by omega) (by omega))
    have ho : Fw (b + 578) = some (.inr (2, 1, fun b9 => .long ((vp_updL g 0 (((nI (crcB (bitsN (hLen M.1.1) (mAt M.1 (xs (3 * q + 1))).2.2.2 (mAt M.1 (xs (3 * q + 1))).2.2.1) (splB (hLen M.1.1) (hVal (hLen M.1.1)) (mAt M.1 (xs (3 * q + 1))).2.2.2 (mAt M.1 (xs (3 * q + 1))).2.2.1) (bitsN (hLen M.1.1) (mAt M.1 (xs (3 * q + 1))).2.2.2 (mAt M.1 (xs (3 * q + 1))).2.2.1 + 4)))).toInt64)) b9))) := ho9
    have hod : Fw (b + 579) = some (.inr (3, 1, fun b9 => .double (gd b9))) := (hag9 _ (by omega) (by omega)).trans hod
    clear hM9 ho9 hag9
    refine x_istore hC d_Law_law_1701 (Nat.le_of_ble_eq_true rfl) (L1 := [some (.ref a), some (.ref b), some (.ref (b + 566)), some (.ref (b + 578)), some (.ref (b + 579)), some (.int (nI (3 * q))), some (.int (nI 0)), none, none, none]) rfl ?_
    refine x_aload_n hC d_Law_law_1703 rfl rfl ?_
    refine x_aload_n hC d_Law_law_1704 rfl rfl ?_
    refine x_iload hC d_Law_law_1705 rfl ?_
    refine x_iconst hC d_Law_law_1707 (v := nI 1) (by decide) ?_
    refine x_iadd hC d_Law_law_1708 (v := (nI (3 * q + 1))) (x_addN (by omega)) ?_
    refine x_sld hC hX ha (j := 3 * q + 1) ⟨rfl, by omega, by omega⟩ d_Law_law_1709 ?_
    obtain ⟨fsD, hDo⟩ := xMD_at hD
    refine x_callV hC kv_Law_274 (c_MessageCoderModel_checksum (hD := hD) (hI := hI)) hDo rfl rfl (Nat.le_of_ble_eq_true rfl) rfl rfl rfl (Nat.le_of_ble_eq_true rfl) ⟨by omega, by omega⟩ d_Law_law_1710 (fun r9 Fm z9 hp9 => ?_)
    obtain ⟨rfl, h9c, j0, hag9⟩ := hp9
    rw [h9c]
    clear h9c z9
    have hM : xMC Fm (cm) (b) (M) := xMC_fr hM (fun a9 q1 q2 => hag9 a9 (by omega))
    have hD : xMD Fm (((b + 566))) ((if mOk M.1 (xs (3 * q + 1)) then 0 else 1)) (M) := j0
    have ho : Fm (b + 578) = some (.inr (2, 1, fun b9 => .long ((vp_updL g 0 (((nI (crcB (bitsN (hLen M.1.1) (mAt M.1 (xs (3 * q + 1))).2.2.2 (mAt M.1 (xs (3 * q + 1))).2.2.1) (splB (hLen M.1.1) (hVal (hLen M.1.1)) (mAt M.1 (xs (3 * q + 1))).2.2.2 (mAt M.1 (xs (3 * q + 1))).2.2.1) (bitsN (hLen M.1.1) (mAt M.1 (xs (3 * q + 1))).2.2.2 (mAt M.1 (xs (3 * q + 1))).2.2.1 + 4)))).toInt64)) b9))) := (hag9 _ (by omega)).trans ho
    have hod : Fm (b + 579) = some (.inr (3, 1, fun b9 => .double (gd b9))) := (hag9 _ (by omega)).trans hod
    clear j0 hag9
    have hT : ((if mOk M.1 (xs (3 * q + 1)) then 0 else 1)) = 0 := if_pos p_0
    rw [hT] at hD
    refine x_top (v := (nI (crcB (bitsN (hLen M.1.1) (mAt M.1 (xs (3 * q + 1))).2.2.2 (mAt M.1 (xs (3 * q + 1))).2.2.1) (splB (hLen M.1.1) (hVal (hLen M.1.1)) (mAt M.1 (xs (3 * q + 1))).2.2.2 (mAt M.1 (xs (3 * q + 1))).2.2.1) (bitsN (hLen M.1.1) (mAt M.1 (xs (3 * q + 1))).2.2.2 (mAt M.1 (xs (3 * q + 1))).2.2.1 + 4)))) (congrArg nI (if_pos p_0)) ?_
    refine x_istore hC d_Law_law_1713 (Nat.le_of_ble_eq_true rfl) (L1 := [some (.ref a), some (.ref b), some (.ref (b + 566)), some (.ref (b + 578)), some (.ref (b + 579)), some (.int (nI (3 * q))), some (.int (nI 0)), some (.int (nI (crcB (bitsN (hLen M.1.1) (mAt M.1 (xs (3 * q + 1))).2.2.2 (mAt M.1 (xs (3 * q + 1))).2.2.1) (splB (hLen M.1.1) (hVal (hLen M.1.1)) (mAt M.1 (xs (3 * q + 1))).2.2.2 (mAt M.1 (xs (3 * q + 1))).2.2.1) (bitsN (hLen M.1.1) (mAt M.1 (xs (3 * q + 1))).2.2.2 (mAt M.1 (xs (3 * q + 1))).2.2.1 + 4)))), none, none]) rfl ?_
    refine x_aload_n hC d_Law_law_1715 rfl rfl ?_
    obtain ⟨fsD, hDo⟩ := xMD_at hD
    refine x_callV hC kv_Law_163 (c_thrownD hD) hDo rfl rfl (Nat.le_of_ble_eq_true rfl) rfl rfl rfl (Nat.le_of_ble_eq_true rfl) ⟨by omega, by omega⟩ d_Law_law_1716 (fun r9 F9 z9 hp9 => ?_)
    obtain ⟨rfl, h9b, h9c⟩ := hp9
    rw [h9b, h9c]
    clear h9b h9c F9 z9
    refine x_iload hC d_Law_law_1719 rfl ?_
    refine x_icmpN_eq hC d_Law_law_1721 (tgt := 1726) (by decide) (by omega) (by omega) (fun c_1721 => ?_) (fun c_1721 => ?_)
    · skip
      refine x_iload hC d_Law_law_1726 rfl ?_
      refine x_ifN_ne hC d_Law_law_1728 (tgt := 1743) (by decide) (by omega) (fun c_1728 => ?_) (fun c_1728 => ?_)
      · skip
        exact absurd c_1728 (by omega)
      · skip
        refine x_aload_n hC d_Law_law_1731 rfl rfl ?_
        refine x_iconst hC d_Law_law_1732 (v := nI 0) (by decide) ?_
        refine x_lald hC ho (j := 0) ⟨rfl, by decide, by decide⟩ (x := ((nI (crcB (bitsN (hLen M.1.1) (mAt M.1 (xs (3 * q + 1))).2.2.2 (mAt M.1 (xs (3 * q + 1))).2.2.1) (splB (hLen M.1.1) (hVal (hLen M.1.1)) (mAt M.1 (xs (3 * q + 1))).2.2.2 (mAt M.1 (xs (3 * q + 1))).2.2.1) (bitsN (hLen M.1.1) (mAt M.1 (xs (3 * q + 1))).2.2.2 (mAt M.1 (xs (3 * q + 1))).2.2.1 + 4)))).toInt64) rfl d_Law_law_1733 ?_
        refine x_iload hC d_Law_law_1734 rfl ?_
        refine x_i2l hC d_Law_law_1736 rfl ?_
        refine x_lcmp hC d_Law_law_1737 ?_
        refine x_top (v := nI 0) (lg_self _) ?_
        refine x_ifN_eq hC d_Law_law_1738 (tgt := 1743) (by decide) (by omega) (fun c_1738 => ?_) (fun c_1738 => ?_)
        · skip
          refine x_goto hC d_Law_law_1743 (tgt := 2933) (by decide) ?_
          refine x_forget (L1 := [some (.ref a), some (.ref b), some (.ref (b + 566)), some (.ref (b + 578)), some (.ref (b + 579)), some (.int (nI (3 * q))), none, none, none, none]) ⟨Or.inr rfl, ⟨Or.inr rfl, ⟨Or.inr rfl, ⟨Or.inr rfl, ⟨Or.inr rfl, ⟨Or.inr rfl, ⟨Or.inl rfl, ⟨Or.inl rfl, ⟨Or.inl rfl, ⟨Or.inl rfl, trivial⟩⟩⟩⟩⟩⟩⟩⟩⟩⟩ ?_
          exact kk _ _ _ _ _ _ _ _ hM hD ho hod (lwJ_s hJ) (by omega) (by omega)
        · skip
          exact absurd c_1738 (by omega)
    · skip
      exact absurd c_1721 (by omega)
  · skip
    have hM : xMC Fw (cm) (b) (M) := hM9
    have hD : xMD Fw (b + 566) (th) (M) := xMD_fr hD (fun a9 q1 q2 => hag9 a9 (by omega) (by omega))
    have ho : Fw (b + 578) = some (.inr (2, 1, fun b9 => .long (g b9))) := ho9
    have hod : Fw (b + 579) = some (.inr (3, 1, fun b9 => .double (gd b9))) := (hag9 _ (by omega) (by omega)).trans hod
    clear hM9 ho9 hag9
    refine x_istore hC d_Law_law_1701 (Nat.le_of_ble_eq_true rfl) (L1 := [some (.ref a), some (.ref b), some (.ref (b + 566)), some (.ref (b + 578)), some (.ref (b + 579)), some (.int (nI (3 * q))), some (.int (nI 1)), none, none, none]) rfl ?_
    refine x_aload_n hC d_Law_law_1703 rfl rfl ?_
    refine x_aload_n hC d_Law_law_1704 rfl rfl ?_
    refine x_iload hC d_Law_law_1705 rfl ?_
    refine x_iconst hC d_Law_law_1707 (v := nI 1) (by decide) ?_
    refine x_iadd hC d_Law_law_1708 (v := (nI (3 * q + 1))) (x_addN (by omega)) ?_
    refine x_sld hC hX ha (j := 3 * q + 1) ⟨rfl, by omega, by omega⟩ d_Law_law_1709 ?_
    obtain ⟨fsD, hDo⟩ := xMD_at hD
    refine x_callV hC kv_Law_274 (c_MessageCoderModel_checksum (hD := hD) (hI := hI)) hDo rfl rfl (Nat.le_of_ble_eq_true rfl) rfl rfl rfl (Nat.le_of_ble_eq_true rfl) ⟨by omega, by omega⟩ d_Law_law_1710 (fun r9 Fm z9 hp9 => ?_)
    obtain ⟨rfl, h9c, j0, hag9⟩ := hp9
    rw [h9c]
    clear h9c z9
    have hM : xMC Fm (cm) (b) (M) := xMC_fr hM (fun a9 q1 q2 => hag9 a9 (by omega))
    have hD : xMD Fm (((b + 566))) ((if mOk M.1 (xs (3 * q + 1)) then 0 else 1)) (M) := j0
    have ho : Fm (b + 578) = some (.inr (2, 1, fun b9 => .long (g b9))) := (hag9 _ (by omega)).trans ho
    have hod : Fm (b + 579) = some (.inr (3, 1, fun b9 => .double (gd b9))) := (hag9 _ (by omega)).trans hod
    clear j0 hag9
    have hT : ((if mOk M.1 (xs (3 * q + 1)) then 0 else 1)) = 1 := if_neg hcond
    rw [hT] at hD
    refine x_istore hC d_Law_law_1713 (Nat.le_of_ble_eq_true rfl) (L1 := [some (.ref a), some (.ref b), some (.ref (b + 566)), some (.ref (b + 578)), some (.ref (b + 579)), some (.int (nI (3 * q))), some (.int (nI 1)), some (.int (nI (if mOk M.1 (xs (3 * q + 1)) then crcB (bitsN (hLen M.1.1) (mAt M.1 (xs (3 * q + 1))).2.2.2 (mAt M.1 (xs (3 * q + 1))).2.2.1) (splB (hLen M.1.1) (hVal (hLen M.1.1)) (mAt M.1 (xs (3 * q + 1))).2.2.2 (mAt M.1 (xs (3 * q + 1))).2.2.1) (bitsN (hLen M.1.1) (mAt M.1 (xs (3 * q + 1))).2.2.2 (mAt M.1 (xs (3 * q + 1))).2.2.1 + 4) else 0))), none, none]) rfl ?_
    refine x_aload_n hC d_Law_law_1715 rfl rfl ?_
    obtain ⟨fsD, hDo⟩ := xMD_at hD
    refine x_callV hC kv_Law_163 (c_thrownD hD) hDo rfl rfl (Nat.le_of_ble_eq_true rfl) rfl rfl rfl (Nat.le_of_ble_eq_true rfl) ⟨by omega, by omega⟩ d_Law_law_1716 (fun r9 F9 z9 hp9 => ?_)
    obtain ⟨rfl, h9b, h9c⟩ := hp9
    rw [h9b, h9c]
    clear h9b h9c F9 z9
    refine x_iload hC d_Law_law_1719 rfl ?_
    refine x_icmpN_eq hC d_Law_law_1721 (tgt := 1726) (by decide) (by omega) (by omega) (fun c_1721 => ?_) (fun c_1721 => ?_)
    · skip
      refine x_iload hC d_Law_law_1726 rfl ?_
      refine x_ifN_ne hC d_Law_law_1728 (tgt := 1743) (by decide) (by omega) (fun c_1728 => ?_) (fun c_1728 => ?_)
      · skip
        refine x_goto hC d_Law_law_1743 (tgt := 2933) (by decide) ?_
        refine x_forget (L1 := [some (.ref a), some (.ref b), some (.ref (b + 566)), some (.ref (b + 578)), some (.ref (b + 579)), some (.int (nI (3 * q))), none, none, none, none]) ⟨Or.inr rfl, ⟨Or.inr rfl, ⟨Or.inr rfl, ⟨Or.inr rfl, ⟨Or.inr rfl, ⟨Or.inr rfl, ⟨Or.inl rfl, ⟨Or.inl rfl, ⟨Or.inl rfl, ⟨Or.inl rfl, trivial⟩⟩⟩⟩⟩⟩⟩⟩⟩⟩ ?_
        exact kk _ _ _ _ _ _ _ _ hM hD ho hod (lwJ_s hJ) (by omega) (by omega)
      · skip
        exact absurd c_1728 (by omega)
    · skip
      exact absurd c_1721 (by omega)

