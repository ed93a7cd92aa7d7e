/-! the reference: undo, save, restore, append; questions of weights and codes -/
theorem und_R {g : Nat → Nat} {M : mcS} (hI : mInv M) (hg : rMD g M) (hu : 0 < M.2.2.2.2.2.2.2.1) : rMD (cpyR g M.2.2.2.2.2.2.2.1 0) (undM M) := by
  obtain ⟨A, S, past, inp, lin, sv, pp, un, ep, fc⟩ := M
  obtain ⟨iA, iP, iS, hu8, hup, -⟩ := hI
  obtain ⟨hg0, hgp, hgs⟩ := hg
  change ∀ i, i < un → aInv (past ((pp - 1 - i) % 9)) at iP
  change 0 < sv → aInv S at iS
  change un ≤ 8 at hu8
  change un ≤ pp at hup
  change ∀ i, i < un → rRow (fun q => g (430 * (un - i) + q)) (past ((pp - 1 - i) % 9)) at hgp
  change 0 < sv → rRow (fun q => g (3870 + q)) S at hgs
  change 0 < un at hu
  refine ⟨?_, ?_, fun hs => rRow_ext (iS hs) (fun q hq => ?_) (hgs hs)⟩
  · show rRow (cpyR g un 0) (past ((pp - 1) % 9))
    exact rRow_ext (iP 0 hu) (fun q hq => by
      show cpyR g un 0 q = g (430 * (un - 0) + q)
      have h1 := cpyR_in (g := g) (f := un) (t := 0) hq
      rw [show 430 * 0 + q = q by omega] at h1
      exact h1) (hgp 0 hu)
  · show ∀ i, i < un - 1 → rRow (fun q => cpyR g un 0 (430 * (un - 1 - i) + q)) (past ((pp - 1 - 1 - i) % 9))
    intro i hi
    rw [show pp - 1 - 1 - i = pp - 1 - (i + 1) by omega]
    exact rRow_ext (iP (i + 1) (by omega)) (fun q hq => by
      show cpyR g un 0 (430 * (un - 1 - i) + q) = g (430 * (un - (i + 1)) + q)
      rw [cpyR_out (by omega)]
      exact congrArg g (by omega)) (hgp (i + 1) (by omega))
  · show cpyR g un 0 (3870 + q) = g (3870 + q)
    exact cpyR_out (by omega)
theorem sav_R {g : Nat → Nat} {M : mcS} (hI : mInv M) (hg : rMD g M) : rMD (cpyR g 0 9) (savM M) := by
  obtain ⟨A, S, past, inp, lin, sv, pp, un, ep, fc⟩ := M
  obtain ⟨iA, iP, iS, hu8, hup, -⟩ := hI
  obtain ⟨hg0, hgp, hgs⟩ := hg
  change aInv A at iA
  change ∀ i, i < un → aInv (past ((pp - 1 - i) % 9)) at iP
  change un ≤ 8 at hu8
  change rRow g A at hg0
  change ∀ i, i < un → rRow (fun q => g (430 * (un - i) + q)) (past ((pp - 1 - i) % 9)) at hgp
  refine ⟨rRow_ext iA (fun q hq => cpyR_out (by omega)) hg0, ?_, fun _ => rRow_ext iA (fun q hq => ?_) hg0⟩
  · show ∀ i, i < un → rRow (fun q => cpyR g 0 9 (430 * (un - i) + q)) (past ((pp - 1 - i) % 9))
    intro i hi
    exact rRow_ext (iP i hi) (fun q hq => cpyR_out (by omega)) (hgp i hi)
  · show cpyR g 0 9 (3870 + q) = g q
    have h1 := cpyR_in (g := g) (f := 0) (t := 9) hq
    rw [show 430 * 9 + q = 3870 + q by omega, show 430 * 0 + q = q by omega] at h1
    exact h1
theorem res_R {g : Nat → Nat} {M : mcS} (hI : mInv M) (hg : rMD g M) (hs : 0 < M.2.2.2.2.2.1) : rMD (cpyR g 9 0) (resM M) := by
  obtain ⟨A, S, past, inp, lin, sv, pp, un, ep, fc⟩ := M
  have iS : aInv S := hI.2.2.1 hs
  have hgs : rRow (fun q => g (3870 + q)) S := hg.2.2 hs
  refine ⟨rRow_ext iS (fun q hq => ?_) hgs, fun i hi => absurd hi (Nat.not_lt_zero i), fun _ => rRow_ext iS (fun q hq => ?_) hgs⟩
  · show cpyR g 9 0 q = g (3870 + q)
    have h1 := cpyR_in (g := g) (f := 9) (t := 0) hq
    rw [show 430 * 0 + q = q by omega, show 430 * 9 + q = 3870 + q by omega] at h1
    exact h1
  · show cpyR g 9 0 (3870 + q) = g (3870 + q)
    exact cpyR_out (by omega)
theorem inv_und {M : mcS} (hI : mInv M) (hu : 0 < M.2.2.2.2.2.2.2.1) : mInv (undM M) := by
  obtain ⟨A, S, past, inp, lin, sv, pp, un, ep, fc⟩ := M
  obtain ⟨iA, iP, iS, hu8, hup, rest⟩ := hI
  change ∀ i, i < un → aInv (past ((pp - 1 - i) % 9)) at iP
  change un ≤ 8 at hu8
  change un ≤ pp at hup
  refine ⟨iP 0 hu, ?_, iS, ?_, ?_, rest⟩
  · show ∀ i, i < un - 1 → aInv (past ((pp - 1 - 1 - i) % 9))
    intro i hi
    rw [show pp - 1 - 1 - i = pp - 1 - (i + 1) by omega]
    exact iP (i + 1) (by omega)
  · show un - 1 ≤ 8
    omega
  · show un - 1 ≤ pp - 1
    omega
theorem inv_sav {M : mcS} (hI : mInv M) : mInv (savM M) := ⟨hI.1, hI.2.1, fun _ => hI.1, hI.2.2.2.1, hI.2.2.2.2.1, Nat.le_refl 1, hI.2.2.2.2.2.2⟩
theorem inv_res {M : mcS} (hI : mInv M) (hs : 0 < M.2.2.2.2.2.1) : mInv (resM M) := ⟨hI.2.2.1 hs, fun i hi => absurd hi (Nat.not_lt_zero i), hI.2.2.1, Nat.zero_le _, Nat.zero_le _, hI.2.2.2.2.2⟩
theorem inv_app {M : mcS} (hI : mInv M) {c : Nat} (hc : c < 65536) (h60 : M.2.2.2.1.1 < 60) : mInv (setI M (M.2.2.2.1.1 + 1) (updN M.2.2.2.1.2 M.2.2.2.1.1 c)) := ⟨hI.1, hI.2.1, hI.2.2.1, hI.2.2.2.1, hI.2.2.2.2.1, hI.2.2.2.2.2.1, by show _ + 1 ≤ 60; omega, hI.2.2.2.2.2.2.2.1, fun j hj => by
    by_cases e : j = M.2.2.2.1.1
    · show updN _ _ _ j < 65536
      rw [e, updN_eq]
      exact hc
    · show updN _ _ _ j < 65536
      rw [updN_ne e]
      exact hI.2.2.2.2.2.2.2.2.1 j (by
        have h1 : j < M.2.2.2.1.1 + 1 := hj
        omega), hI.2.2.2.2.2.2.2.2.2⟩
theorem inv_mc0 : mInv mc0 := ⟨inv_S0, fun i hi => absurd hi (Nat.not_lt_zero i), fun h => absurd h (Nat.lt_irrefl 0), Nat.zero_le _, Nat.zero_le _, Nat.zero_le _, Nat.zero_le _, Nat.zero_le _, fun j hj => absurd hj (Nat.not_lt_zero j), fun j hj => absurd hj (Nat.not_lt_zero j)⟩
theorem maxN_hOrd (ln : Nat → Nat) : maxN ln 8 = ln (hOrd ln 7) := by
  obtain ⟨h8, hr⟩ := hOrd_8 ln (r := 7) (by omega)
  refine Nat.le_antisymm (maxN_le 8 (fun j hj => ?_)) ?_
  · by_cases e : j = hOrd ln 7
    · rw [e]; exact Nat.le_refl _
    · have h1 := rk_8 (ln := ln) hj
      have h2 : rkN ln j ≠ 7 := fun q => e (rk_inj hj h8 (q.trans hr.symm))
      have h3 := bef_iff.mp ((rk_bef hj h8).mpr (show rkN ln j < rkN ln (hOrd ln 7) by omega))
      omega
  · have hm : ∀ k, ∀ j, j < k → ln j ≤ maxN ln k := by
      intro k
      induction k with
      | zero => intro j hj; exact absurd hj (Nat.not_lt_zero j)
      | succ k ih =>
        intro j hj
        unfold maxN
        by_cases e : j = k
        · subst e; split <;> omega
        · have := ih j (by omega)
          split <;> omega
    exact hm 8 _ h8
theorem hKraft8 (w : Nat → Nat) : sumN (fun j => 2 ^ (8 - hLen w j)) 8 = 256 := by
  have h1 : sumN (fun j => 2 ^ (8 - hLen w j)) 8 = sumN (fun j => 2 * 2 ^ (7 - hLen w j)) 8 := sumN_ext 8 (fun j hj => by
    have := hLen_7 w hj
    rw [show 8 - hLen w j = 7 - hLen w j + 1 by omega, Nat.pow_succ, Nat.mul_comm])
  rw [h1, sumN_mul, hKraft]
theorem ap_iff {c : Nat} (hc : c < 65536) : (nI 32 ≤ nI c ∧ nI c ≤ nI 126) ↔ (32 ≤ c ∧ c ≤ 126) := by rw [nI_leI (by omega) (by omega), nI_leI (by omega) (by omega)]

theorem d_MessageCoderModel_undo_0 : decode prog_14_method_124_code 0 = .ok (.aload_n 0, 1) := by decide +kernel
theorem d_MessageCoderModel_undo_1 : decode prog_14_method_124_code 1 = .ok (.aload_n 0, 1) := by decide +kernel
theorem d_MessageCoderModel_undo_2 : decode prog_14_method_124_code 2 = .ok (.getfield 58, 3) := by decide +kernel
theorem d_MessageCoderModel_undo_5 : decode prog_14_method_124_code 5 = .ok (.ifCond .le 7, 3) := by decide +kernel
theorem d_MessageCoderModel_undo_8 : decode prog_14_method_124_code 8 = .ok (.iconst 1, 1) := by decide +kernel
theorem d_MessageCoderModel_undo_9 : decode prog_14_method_124_code 9 = .ok (.goto 4, 3) := by decide +kernel
theorem d_MessageCoderModel_undo_12 : decode prog_14_method_124_code 12 = .ok (.iconst 0, 1) := by decide +kernel
theorem d_MessageCoderModel_undo_13 : decode prog_14_method_124_code 13 = .ok (.invokevirtual 195, 3) := by decide +kernel
theorem d_MessageCoderModel_undo_16 : decode prog_14_method_124_code 16 = .ok (.ifCond .ne 5, 3) := by decide +kernel
theorem d_MessageCoderModel_undo_19 : decode prog_14_method_124_code 19 = .ok (.iconst 0, 1) := by decide +kernel
theorem d_MessageCoderModel_undo_20 : decode prog_14_method_124_code 20 = .ok (.ireturn, 1) := by decide +kernel
theorem d_MessageCoderModel_undo_21 : decode prog_14_method_124_code 21 = .ok (.aload_n 0, 1) := by decide +kernel
theorem d_MessageCoderModel_undo_22 : decode prog_14_method_124_code 22 = .ok (.aload_n 0, 1) := by decide +kernel
theorem d_MessageCoderModel_undo_23 : decode prog_14_method_124_code 23 = .ok (.getfield 58, 3) := by decide +kernel
theorem d_MessageCoderModel_undo_26 : decode prog_14_method_124_code 26 = .ok (.iconst 0, 1) := by decide +kernel
theorem d_MessageCoderModel_undo_27 : decode prog_14_method_124_code 27 = .ok (.invokevirtual 54, 3) := by decide +kernel
theorem d_MessageCoderModel_undo_30 : decode prog_14_method_124_code 30 = .ok (.aload_n 0, 1) := by decide +kernel
theorem d_MessageCoderModel_undo_31 : decode prog_14_method_124_code 31 = .ok (.dup, 1) := by decide +kernel
theorem d_MessageCoderModel_undo_32 : decode prog_14_method_124_code 32 = .ok (.getfield 58, 3) := by decide +kernel
theorem d_MessageCoderModel_undo_35 : decode prog_14_method_124_code 35 = .ok (.iconst 1, 1) := by decide +kernel
theorem d_MessageCoderModel_undo_36 : decode prog_14_method_124_code 36 = .ok (.isub, 1) := by decide +kernel
theorem d_MessageCoderModel_undo_37 : decode prog_14_method_124_code 37 = .ok (.putfield 58, 3) := by decide +kernel
theorem d_MessageCoderModel_undo_40 : decode prog_14_method_124_code 40 = .ok (.aload_n 0, 1) := by decide +kernel
theorem d_MessageCoderModel_undo_41 : decode prog_14_method_124_code 41 = .ok (.getfield 58, 3) := by decide +kernel
theorem d_MessageCoderModel_undo_44 : decode prog_14_method_124_code 44 = .ok (.ireturn, 1) := by decide +kernel
set_option maxHeartbeats 4000000 in
set_option maxRecDepth 20000 in
theorem c_MessageCoderModel_undo {P : xP} {F : xF} {z : Nat} {m : Nat} {th0 : Nat} {M : mcS} (hD : xMD F (m) (th0) (M)) (hI : mInv M) : xM P xy_MessageCoderModel_undo [.ref m] F (z) 0 0 (fun r9 F9 z9 => r9 = some (.int (nI (M.2.2.2.2.2.2.2.1 - 1))) ∧ z9 = z ∧ xMD F9 (m) ((if 0 < M.2.2.2.2.2.2.2.1 then 0 else 1)) ((if 0 < M.2.2.2.2.2.2.2.1 then undM M else M)) ∧ (∀ a9 : Nat, (a9 < m ∨ m + 12 ≤ a9) → F9 a9 = F a9)) := by
  refine xM_i .int rfl (Nat.le_of_ble_eq_true rfl) (L0 := [some (.ref m)]) rfl rfl fun Θ hC hret => ?_
  have hag : ∀ a9 : Nat, (a9 < m ∨ m + 12 ≤ a9) → F a9 = F a9 := fun a9 _ => rfl
  obtain ⟨A, S, past, ⟨pn, psg⟩, ⟨lnn, lsg⟩, sv, pp, un, ep, fc⟩ := M
  obtain ⟨rs, er, bm, dm, he, cn, g, l2, v3, r4, w5, b6, d7, b8, ln, ip, cs, o0, ga, h2, h3, h4, h5, h6, h7, h8, h9, hi, hcm, hg, hln, hip⟩ := id hD
  obtain ⟨iA, iP, iS, hu8, hup, hs1, hty, hlz, hic, hlc⟩ := id hI
  have o0 : F (m) = some (.inl (10, [.int (nI (th0)), .ref (m + 1), .int (nI (un)), .int (nI (sv)), .int rs, .ref (m + 2), .ref (m + 3), .ref (m + 4), .ref (m + 5), .ref (m + 6), .int (nI (bm)), .ref (m + 7), .int (nI (dm)), .ref (m + 8), .ref (m + 9), .int (nI (lnn)), .ref (m + 10), .int (nI (pn)), .int (nI (he)), .int er, .int ep, .int fc, .ref (m + 11), .int (nI (cn))])) := o0
  have ga : F (m + 1) = some (.inr (0, 4730, fun b9 => .int (nI (g b9)))) := ga
  have h2 : F (m + 2) = some (.inr (0, 8, fun b9 => .int (nI (l2 b9)))) := h2
  have h3 : F (m + 3) = some (.inr (0, 8, fun b9 => .int (nI (v3 b9)))) := h3
  have h4 : F (m + 4) = some (.inr (0, 8, fun b9 => .int (nI (r4 b9)))) := h4
  have h5 : F (m + 5) = some (.inr (0, 8, fun b9 => .int (nI (w5 b9)))) := h5
  have h6 : F (m + 6) = some (.inr (0, 112, fun b9 => .int (nI (b6 b9)))) := h6
  have h7 : F (m + 7) = some (.inr (0, 16, fun b9 => .int (nI (d7 b9)))) := h7
  have h8 : F (m + 8) = some (.inr (0, 17, fun b9 => .int (nI (b8 b9)))) := h8
  have h9 : F (m + 9) = some (.inr (1, 40, fun b9 => .int (nI (ln b9)))) := h9
  have hi : F (m + 10) = some (.inr (1, 60, fun b9 => .int (nI (ip b9)))) := hi
  have hcm : F (m + 11) = some (.inr (0, 183, fun b9 => .int (nI (cs b9)))) := hcm
  have hln : ∀ j, j < lnn → ln j = lsg j := hln
  have hip : ∀ j, j < pn → ip j = psg j := hip
  have iA : aInv A := iA
  have hu8 : un ≤ 8 := hu8
  have hup : un ≤ pp := hup
  have hs1 : sv ≤ 1 := hs1
  have hty : pn ≤ 60 := hty
  have hlz : lnn ≤ 32 := hlz
  have hr : rRow g A := hg.1
  refine x_aload_n hC d_MessageCoderModel_undo_0 rfl rfl ?_
  refine x_aload_n hC d_MessageCoderModel_undo_1 rfl rfl ?_
  refine x_getf hC kf_MessageCoderModel_58 o0 rfl d_MessageCoderModel_undo_2 ?_
  refine x_ifN_le hC d_MessageCoderModel_undo_5 (tgt := 12) (by decide) (by omega) (fun c_5 => ?_) (fun c_5 => ?_)
  · skip
    refine x_iconst hC d_MessageCoderModel_undo_12 (v := nI 0) (by decide) ?_
    refine x_top (v := (xb (0 < un))) (xb_f0 (by omega)) ?_
    refine x_callV hC kv_MessageCoderModel_195 (c_MessageCoderModel_isFine (o0 := o0)) o0 rfl rfl (by decide) rfl rfl rfl (Nat.le_of_ble_eq_true rfl) (by decide) d_MessageCoderModel_undo_13 (fun r9 F9 z9 hp9 => ?_)
    obtain ⟨rfl, h9c, j0, hag9⟩ := hp9
    rw [h9c]
    clear h9c z9
    generalize F9 = F1 at *
    have ga : F1 (m + 1) = some (.inr (0, 4730, fun b9 => .int (nI (g b9)))) := (hag9 _ (by omega)).trans ga
    have h2 : F1 (m + 2) = some (.inr (0, 8, fun b9 => .int (nI (l2 b9)))) := (hag9 _ (by omega)).trans h2
    have h3 : F1 (m + 3) = some (.inr (0, 8, fun b9 => .int (nI (v3 b9)))) := (hag9 _ (by omega)).trans h3
    have h4 : F1 (m + 4) = some (.inr (0, 8, fun b9 => .int (nI (r4 b9)))) := (hag9 _ (by omega)).trans h4
    have h5 : F1 (m + 5) = some (.inr (0, 8, fun b9 => .int (nI (w5 b9)))) := (hag9 _ (by omega)).trans h5
    have h6 : F1 (m + 6) = some (.inr (0, 112, fun b9 => .int (nI (b6 b9)))) := (hag9 _ (by omega)).trans h6
    have h7 : F1 (m + 7) = some (.inr (0, 16, fun b9 => .int (nI (d7 b9)))) := (hag9 _ (by omega)).trans h7
    have h8 : F1 (m + 8) = some (.inr (0, 17, fun b9 => .int (nI (b8 b9)))) := (hag9 _ (by omega)).trans h8
    have h9 : F1 (m + 9) = some (.inr (1, 40, fun b9 => .int (nI (ln b9)))) := (hag9 _ (by omega)).trans h9
    have hi : F1 (m + 10) = some (.inr (1, 60, fun b9 => .int (nI (ip b9)))) := (hag9 _ (by omega)).trans hi
    have hcm : F1 (m + 11) = some (.inr (0, 183, fun b9 => .int (nI (cs b9)))) := (hag9 _ (by omega)).trans hcm
    have o0 : F1 (m) = some (.inl (10, [.int (nI ((if (0 < un) then 0 else 1))), .ref (m + 1), .int (nI (un)), .int (nI (sv)), .int rs, .ref (m + 2), .ref (m + 3), .ref (m + 4), .ref (m + 5), .ref (m + 6), .int (nI (bm)), .ref (m + 7), .int (nI (dm)), .ref (m + 8), .ref (m + 9), .int (nI (lnn)), .ref (m + 10), .int (nI (pn)), .int (nI (he)), .int er, .int ep, .int fc, .ref (m + 11), .int (nI (cn))])) := j0
    have hag : ∀ a9 : Nat, (a9 < m ∨ m + 12 ≤ a9) → F1 a9 = F a9 := fun a9 q0 => (hag9 a9 (by omega)).trans (hag a9 q0)
    have hg_13 := hag9
    clear hag9
    refine x_ifB_ne hC d_MessageCoderModel_undo_16 (tgt := 21) (by decide) (fun c_16 => ?_) (fun c_16 => ?_)
    · skip
      refine x_aload_n hC d_MessageCoderModel_undo_21 rfl rfl ?_
      refine x_aload_n hC d_MessageCoderModel_undo_22 rfl rfl ?_
      refine x_getf hC kf_MessageCoderModel_58 o0 rfl d_MessageCoderModel_undo_23 ?_
      refine x_iconst hC d_MessageCoderModel_undo_26 (v := nI 0) (by decide) ?_
      refine x_callV hC kv_MessageCoderModel_54 (c_MessageCoderModel_copies (o0 := o0) (ga := ga) (hf := by omega) (ht := by omega) (hft := by omega)) o0 rfl rfl (by decide) rfl rfl rfl (Nat.le_of_ble_eq_true rfl) (by decide) d_MessageCoderModel_undo_27 (fun r9 F9 z9 hp9 => ?_)
      obtain ⟨rfl, h9c, j0, j1, hag9⟩ := hp9
      rw [h9c]
      clear h9c z9
      generalize F9 = F2 at *
      have h2 : F2 (m + 2) = some (.inr (0, 8, fun b9 => .int (nI (l2 b9)))) := (hag9 _ (by omega)).trans h2
      have h3 : F2 (m + 3) = some (.inr (0, 8, fun b9 => .int (nI (v3 b9)))) := (hag9 _ (by omega)).trans h3
      have h4 : F2 (m + 4) = some (.inr (0, 8, fun b9 => .int (nI (r4 b9)))) := (hag9 _ (by omega)).trans h4
      have h5 : F2 (m + 5) = some (.inr (0, 8, fun b9 => .int (nI (w5 b9)))) := (hag9 _ (by omega)).trans h5
      have h6 : F2 (m + 6) = some (.inr (0, 112, fun b9 => .int (nI (b6 b9)))) := (hag9 _ (by omega)).trans h6
      have h7 : F2 (m + 7) = some (.inr (0, 16, fun b9 => .int (nI (d7 b9)))) := (hag9 _ (by omega)).trans h7
      have h8 : F2 (m + 8) = some (.inr (0, 17, fun b9 => .int (nI (b8 b9)))) := (hag9 _ (by omega)).trans h8
      have h9 : F2 (m + 9) = some (.inr (1, 40, fun b9 => .int (nI (ln b9)))) := (hag9 _ (by omega)).trans h9
      have hi : F2 (m + 10) = some (.inr (1, 60, fun b9 => .int (nI (ip b9)))) := (hag9 _ (by omega)).trans hi
      have hcm : F2 (m + 11) = some (.inr (0, 183, fun b9 => .int (nI (cs b9)))) := (hag9 _ (by omega)).trans hcm
      have o0 : F2 (m) = some (.inl (10, [.int (nI ((if (0 < un) then 0 else 1))), .ref (m + 1), .int (nI (un)), .int (nI (sv)), .int rs, .ref (m + 2), .ref (m + 3), .ref (m + 4), .ref (m + 5), .ref (m + 6), .int (nI (bm)), .ref (m + 7), .int (nI (dm)), .ref (m + 8), .ref (m + 9), .int (nI (lnn)), .ref (m + 10), .int (nI (pn)), .int (nI (he)), .int er, .int ep, .int fc, .ref (m + 11), .int (nI (cn))])) := j0
      have ga : F2 (m + 1) = some (.inr (0, 4730, fun b9 => .int (nI ((cpyR g un 0) b9)))) := j1
      have hag : ∀ a9 : Nat, (a9 < m ∨ m + 12 ≤ a9) → F2 a9 = F a9 := fun a9 q0 => (hag9 a9 (by omega)).trans (hag a9 q0)
      have hg_27 := hag9
      clear hag9
      refine x_aload_n hC d_MessageCoderModel_undo_30 rfl rfl ?_
      refine x_dup hC d_MessageCoderModel_undo_31 rfl ?_
      refine x_getf hC kf_MessageCoderModel_58 o0 rfl d_MessageCoderModel_undo_32 ?_
      refine x_iconst hC d_MessageCoderModel_undo_35 (v := nI 1) (by decide) ?_
      refine x_isub hC d_MessageCoderModel_undo_36 (v := (nI ((un) - 1))) (pk_sub (by omega)) ?_
      refine x_putf hC kf_MessageCoderModel_58 o0 (Nat.le_of_ble_eq_true rfl) rfl rfl d_MessageCoderModel_undo_37 (fs1 := [.int (nI ((if (0 < un) then 0 else 1))), .ref (m + 1), .int (nI ((un) - 1)), .int (nI (sv)), .int rs, .ref (m + 2), .ref (m + 3), .ref (m + 4), .ref (m + 5), .ref (m + 6), .int (nI (bm)), .ref (m + 7), .int (nI (dm)), .ref (m + 8), .ref (m + 9), .int (nI (lnn)), .ref (m + 10), .int (nI (pn)), .int (nI (he)), .int er, .int ep, .int fc, .ref (m + 11), .int (nI (cn))]) rfl ?_
      generalize e3 : xup F2 (m) (.inl (10, [.int (nI ((if (0 < un) then 0 else 1))), .ref (m + 1), .int (nI ((un) - 1)), .int (nI (sv)), .int rs, .ref (m + 2), .ref (m + 3), .ref (m + 4), .ref (m + 5), .ref (m + 6), .int (nI (bm)), .ref (m + 7), .int (nI (dm)), .ref (m + 8), .ref (m + 9), .int (nI (lnn)), .ref (m + 10), .int (nI (pn)), .int (nI (he)), .int er, .int ep, .int fc, .ref (m + 11), .int (nI (cn))])) = F3
      have h2 : F3 (m + 2) = some (.inr (0, 8, fun b9 => .int (nI (l2 b9)))) := by rw [← e3]; exact (xup_ne (by omega)).trans h2
      have h3 : F3 (m + 3) = some (.inr (0, 8, fun b9 => .int (nI (v3 b9)))) := by rw [← e3]; exact (xup_ne (by omega)).trans h3
      have h4 : F3 (m + 4) = some (.inr (0, 8, fun b9 => .int (nI (r4 b9)))) := by rw [← e3]; exact (xup_ne (by omega)).trans h4
      have h5 : F3 (m + 5) = some (.inr (0, 8, fun b9 => .int (nI (w5 b9)))) := by rw [← e3]; exact (xup_ne (by omega)).trans h5
      have h6 : F3 (m + 6) = some (.inr (0, 112, fun b9 => .int (nI (b6 b9)))) := by rw [← e3]; exact (xup_ne (by omega)).trans h6
      have h7 : F3 (m + 7) = some (.inr (0, 16, fun b9 => .int (nI (d7 b9)))) := by rw [← e3]; exact (xup_ne (by omega)).trans h7
      have h8 : F3 (m + 8) = some (.inr (0, 17, fun b9 => .int (nI (b8 b9)))) := by rw [← e3]; exact (xup_ne (by omega)).trans h8
      have h9 : F3 (m + 9) = some (.inr (1, 40, fun b9 => .int (nI (ln b9)))) := by rw [← e3]; exact (xup_ne (by omega)).trans h9
      have hi : F3 (m + 10) = some (.inr (1, 60, fun b9 => .int (nI (ip b9)))) := by rw [← e3]; exact (xup_ne (by omega)).trans hi
      have hcm : F3 (m + 11) = some (.inr (0, 183, fun b9 => .int (nI (cs b9)))) := by rw [← e3]; exact (xup_ne (by omega)).trans hcm
      have o0 : F3 (m) = some (.inl (10, [.int (nI ((if (0 < un) then 0 else 1))), .ref (m + 1), .int (nI ((un) - 1)), .int (nI (sv)), .int rs, .ref (m + 2), .ref (m + 3), .ref (m + 4), .ref (m + 5), .ref (m + 6), .int (nI (bm)), .ref (m + 7), .int (nI (dm)), .ref (m + 8), .ref (m + 9), .int (nI (lnn)), .ref (m + 10), .int (nI (pn)), .int (nI (he)), .int er, .int ep, .int fc, .ref (m + 11), .int (nI (cn))])) := by rw [← e3]; exact xup_eq
      have ga : F3 (m + 1) = some (.inr (0, 4730, fun b9 => .int (nI ((cpyR g un 0) b9)))) := by rw [← e3]; exact (xup_ne (by omega)).trans ga
      have hag : ∀ a9 : Nat, (a9 < m ∨ m + 12 ≤ a9) → F3 a9 = F a9 := fun a9 q0 => by rw [← e3]; exact (xup_ne (by omega)).trans (hag a9 q0)
      refine x_aload_n hC d_MessageCoderModel_undo_40 rfl rfl ?_
      refine x_getf hC kf_MessageCoderModel_58 o0 rfl d_MessageCoderModel_undo_41 ?_
      refine hret _ _ _ _ _ _ _ d_MessageCoderModel_undo_44 (by decide) (by decide) rfl ?_
      have e1 : (if 0 < un then undM (A, S, past, (pn, psg), (lnn, lsg), sv, pp, un, ep, fc) else (A, S, past, (pn, psg), (lnn, lsg), sv, pp, un, ep, fc)) = undM (A, S, past, (pn, psg), (lnn, lsg), sv, pp, un, ep, fc) := if_pos c_16
      have hR : rMD (cpyR g un 0) (undM (A, S, past, (pn, psg), (lnn, lsg), sv, pp, un, ep, fc)) := und_R hI hg c_16
      exact ⟨rfl, rfl, (by show xMD _ m (if 0 < un then 0 else 1) (if 0 < un then undM (A, S, past, (pn, psg), (lnn, lsg), sv, pp, un, ep, fc) else (A, S, past, (pn, psg), (lnn, lsg), sv, pp, un, ep, fc)); rw [e1]; exact ⟨_, _, _, _, _, _, _, _, _, _, _, _, _, _, _, _, _, o0, ga, h2, h3, h4, h5, h6, h7, h8, h9, hi, hcm, hR, hln, hip⟩), hag⟩
    · skip
      refine x_iconst hC d_MessageCoderModel_undo_19 (v := nI 0) (by decide) ?_
      refine hret _ _ _ _ _ _ _ d_MessageCoderModel_undo_20 (by decide) (by decide) rfl ?_
      have e1 : (if 0 < un then undM (A, S, past, (pn, psg), (lnn, lsg), sv, pp, un, ep, fc) else (A, S, past, (pn, psg), (lnn, lsg), sv, pp, un, ep, fc)) = (A, S, past, (pn, psg), (lnn, lsg), sv, pp, un, ep, fc) := if_neg c_16
      have e0 : un = 0 := by omega
      exact ⟨congrArg (fun q => some (Value.int (nI q))) (show 0 = un - 1 by omega), rfl, (by show xMD _ m (if 0 < un then 0 else 1) (if 0 < un then undM (A, S, past, (pn, psg), (lnn, lsg), sv, pp, un, ep, fc) else (A, S, past, (pn, psg), (lnn, lsg), sv, pp, un, ep, fc)); rw [e1]; exact ⟨_, _, _, _, _, _, _, _, _, _, _, _, _, _, _, _, _, o0, ga, h2, h3, h4, h5, h6, h7, h8, h9, hi, hcm, hg, hln, hip⟩), hag⟩
  · skip
    refine x_iconst hC d_MessageCoderModel_undo_8 (v := nI 1) (by decide) ?_
    refine x_goto hC d_MessageCoderModel_undo_9 (tgt := 13) (by decide) ?_
    refine x_top (v := (xb (0 < un))) (xb_t1 (by omega)) ?_
    refine x_callV hC kv_MessageCoderModel_195 (c_MessageCoderModel_isFine (o0 := o0)) o0 rfl rfl (by decide) rfl rfl rfl (Nat.le_of_ble_eq_true rfl) (by decide) d_MessageCoderModel_undo_13 (fun r9 F9 z9 hp9 => ?_)
    obtain ⟨rfl, h9c, j0, hag9⟩ := hp9
    rw [h9c]
    clear h9c z9
    generalize F9 = F4 at *
    have ga : F4 (m + 1) = some (.inr (0, 4730, fun b9 => .int (nI (g b9)))) := (hag9 _ (by omega)).trans ga
    have h2 : F4 (m + 2) = some (.inr (0, 8, fun b9 => .int (nI (l2 b9)))) := (hag9 _ (by omega)).trans h2
    have h3 : F4 (m + 3) = some (.inr (0, 8, fun b9 => .int (nI (v3 b9)))) := (hag9 _ (by omega)).trans h3
    have h4 : F4 (m + 4) = some (.inr (0, 8, fun b9 => .int (nI (r4 b9)))) := (hag9 _ (by omega)).trans h4
    have h5 : F4 (m + 5) = some (.inr (0, 8, fun b9 => .int (nI (w5 b9)))) := (hag9 _ (by omega)).trans h5
    have h6 : F4 (m + 6) = some (.inr (0, 112, fun b9 => .int (nI (b6 b9)))) := (hag9 _ (by omega)).trans h6
    have h7 : F4 (m + 7) = some (.inr (0, 16, fun b9 => .int (nI (d7 b9)))) := (hag9 _ (by omega)).trans h7
    have h8 : F4 (m + 8) = some (.inr (0, 17, fun b9 => .int (nI (b8 b9)))) := (hag9 _ (by omega)).trans h8
    have h9 : F4 (m + 9) = some (.inr (1, 40, fun b9 => .int (nI (ln b9)))) := (hag9 _ (by omega)).trans h9
    have hi : F4 (m + 10) = some (.inr (1, 60, fun b9 => .int (nI (ip b9)))) := (hag9 _ (by omega)).trans hi
    have hcm : F4 (m + 11) = some (.inr (0, 183, fun b9 => .int (nI (cs b9)))) := (hag9 _ (by omega)).trans hcm
    have o0 : F4 (m) = some (.inl (10, [.int (nI ((if (0 < un) then 0 else 1))), .ref (m + 1), .int (nI (un)), .int (nI (sv)), .int rs, .ref (m + 2), .ref (m + 3), .ref (m + 4), .ref (m + 5), .ref (m + 6), .int (nI (bm)), .ref (m + 7), .int (nI (dm)), .ref (m + 8), .ref (m + 9), .int (nI (lnn)), .ref (m + 10), .int (nI (pn)), .int (nI (he)), .int er, .int ep, .int fc, .ref (m + 11), .int (nI (cn))])) := j0
    have hag : ∀ a9 : Nat, (a9 < m ∨ m + 12 ≤ a9) → F4 a9 = F a9 := fun a9 q0 => (hag9 a9 (by omega)).trans (hag a9 q0)
    have hg_13 := hag9
    clear hag9
    refine x_ifB_ne hC d_MessageCoderModel_undo_16 (tgt := 21) (by decide) (fun c_16 => ?_) (fun c_16 => ?_)
    · skip
      refine x_aload_n hC d_MessageCoderModel_undo_21 rfl rfl ?_
      refine x_aload_n hC d_MessageCoderModel_undo_22 rfl rfl ?_
      refine x_getf hC kf_MessageCoderModel_58 o0 rfl d_MessageCoderModel_undo_23 ?_
      refine x_iconst hC d_MessageCoderModel_undo_26 (v := nI 0) (by decide) ?_
      refine x_callV hC kv_MessageCoderModel_54 (c_MessageCoderModel_copies (o0 := o0) (ga := ga) (hf := by omega) (ht := by omega) (hft := by omega)) o0 rfl rfl (by decide) rfl rfl rfl (Nat.le_of_ble_eq_true rfl) (by decide) d_MessageCoderModel_undo_27 (fun r9 F9 z9 hp9 => ?_)
      obtain ⟨rfl, h9c, j0, j1, hag9⟩ := hp9
      rw [h9c]
      clear h9c z9
      generalize F9 = F5 at *
      have h2 : F5 (m + 2) = some (.inr (0, 8, fun b9 => .int (nI (l2 b9)))) := (hag9 _ (by omega)).trans h2
      have h3 : F5 (m + 3) = some (.inr (0, 8, fun b9 => .int (nI (v3 b9)))) := (hag9 _ (by omega)).trans h3
      have h4 : F5 (m + 4) = some (.inr (0, 8, fun b9 => .int (nI (r4 b9)))) := (hag9 _ (by omega)).trans h4
      have h5 : F5 (m + 5) = some (.inr (0, 8, fun b9 => .int (nI (w5 b9)))) := (hag9 _ (by omega)).trans h5
      have h6 : F5 (m + 6) = some (.inr (0, 112, fun b9 => .int (nI (b6 b9)))) := (hag9 _ (by omega)).trans h6
      have h7 : F5 (m + 7) = some (.inr (0, 16, fun b9 => .int (nI (d7 b9)))) := (hag9 _ (by omega)).trans h7
      have h8 : F5 (m + 8) = some (.inr (0, 17, fun b9 => .int (nI (b8 b9)))) := (hag9 _ (by omega)).trans h8
      have h9 : F5 (m + 9) = some (.inr (1, 40, fun b9 => .int (nI (ln b9)))) := (hag9 _ (by omega)).trans h9
      have hi : F5 (m + 10) = some (.inr (1, 60, fun b9 => .int (nI (ip b9)))) := (hag9 _ (by omega)).trans hi
      have hcm : F5 (m + 11) = some (.inr (0, 183, fun b9 => .int (nI (cs b9)))) := (hag9 _ (by omega)).trans hcm
      have o0 : F5 (m) = some (.inl (10, [.int (nI ((if (0 < un) then 0 else 1))), .ref (m + 1), .int (nI (un)), .int (nI (sv)), .int rs, .ref (m + 2), .ref (m + 3), .ref (m + 4), .ref (m + 5), .ref (m + 6), .int (nI (bm)), .ref (m + 7), .int (nI (dm)), .ref (m + 8), .ref (m + 9), .int (nI (lnn)), .ref (m + 10), .int (nI (pn)), .int (nI (he)), .int er, .int ep, .int fc, .ref (m + 11), .int (nI (cn))])) := j0
      have ga : F5 (m + 1) = some (.inr (0, 4730, fun b9 => .int (nI ((cpyR g un 0) b9)))) := j1
      have hag : ∀ a9 : Nat, (a9 < m ∨ m + 12 ≤ a9) → F5 a9 = F a9 := fun a9 q0 => (hag9 a9 (by omega)).trans (hag a9 q0)
      have hg_27 := hag9
      clear hag9
      refine x_aload_n hC d_MessageCoderModel_undo_30 rfl rfl ?_
      refine x_dup hC d_MessageCoderModel_undo_31 rfl ?_
      refine x_getf hC kf_MessageCoderModel_58 o0 rfl d_MessageCoderModel_undo_32 ?_
      refine x_iconst hC d_MessageCoderModel_undo_35 (v := nI 1) (by decide) ?_
      refine x_isub hC d_MessageCoderModel_undo_36 (v := (nI ((un) - 1))) (pk_sub (by omega)) ?_
      refine x_putf hC kf_MessageCoderModel_58 o0 (Nat.le_of_ble_eq_true rfl) rfl rfl d_MessageCoderModel_undo_37 (fs1 := [.int (nI ((if (0 < un) then 0 else 1))), .ref (m + 1), .int (nI ((un) - 1)), .int (nI (sv)), .int rs, .ref (m + 2), .ref (m + 3), .ref (m + 4), .ref (m + 5), .ref (m + 6), .int (nI (bm)), .ref (m + 7), .int (nI (dm)), .ref (m + 8), .ref (m + 9), .int (nI (lnn)), .ref (m + 10), .int (nI (pn)), .int (nI (he)), .int er, .int ep, .int fc, .ref (m + 11), .int (nI (cn))]) rfl ?_
      generalize e6 : xup F5 (m) (.inl (10, [.int (nI ((if (0 < un) then 0 else 1))), .ref (m + 1), .int (nI ((un) - 1)), .int (nI (sv)), .int rs, .ref (m + 2), .ref (m + 3), .ref (m + 4), .ref (m + 5), .ref (m + 6), .int (nI (bm)), .ref (m + 7), .int (nI (dm)), .ref (m + 8), .ref (m + 9), .int (nI (lnn)), .ref (m + 10), .int (nI (pn)), .int (nI (he)), .int er, .int ep, .int fc, .ref (m + 11), .int (nI (cn))])) = F6
      have h2 : F6 (m + 2) = some (.inr (0, 8, fun b9 => .int (nI (l2 b9)))) := by rw [← e6]; exact (xup_ne (by omega)).trans h2
      have h3 : F6 (m + 3) = some (.inr (0, 8, fun b9 => .int (nI (v3 b9)))) := by rw [← e6]; exact (xup_ne (by omega)).trans h3
      have h4 : F6 (m + 4) = some (.inr (0, 8, fun b9 => .int (nI (r4 b9)))) := by rw [← e6]; exact (xup_ne (by omega)).trans h4
      have h5 : F6 (m + 5) = some (.inr (0, 8, fun b9 => .int (nI (w5 b9)))) := by rw [← e6]; exact (xup_ne (by omega)).trans h5
      have h6 : F6 (m + 6) = some (.inr (0, 112, fun b9 => .int (nI (b6 b9)))) := by rw [← e6]; exact (xup_ne (by omega)).trans h6
      have h7 : F6 (m + 7) = some (.inr (0, 16, fun b9 => .int (nI (d7 b9)))) := by rw [← e6]; exact (xup_ne (by omega)).trans h7
      have h8 : F6 (m + 8) = some (.inr (0, 17, fun b9 => .int (nI (b8 b9)))) := by rw [← e6]; exact (xup_ne (by omega)).trans h8
      have h9 : F6 (m + 9) = some (.inr (1, 40, fun b9 => .int (nI (ln b9)))) := by rw [← e6]; exact (xup_ne (by omega)).trans h9
      have hi : F6 (m + 10) = some (.inr (1, 60, fun b9 => .int (nI (ip b9)))) := by rw [← e6]; exact (xup_ne (by omega)).trans hi
      have hcm : F6 (m + 11) = some (.inr (0, 183, fun b9 => .int (nI (cs b9)))) := by rw [← e6]; exact (xup_ne (by omega)).trans hcm
      have o0 : F6 (m) = some (.inl (10, [.int (nI ((if (0 < un) then 0 else 1))), .ref (m + 1), .int (nI ((un) - 1)), .int (nI (sv)), .int rs, .ref (m + 2), .ref (m + 3), .ref (m + 4), .ref (m + 5), .ref (m + 6), .int (nI (bm)), .ref (m + 7), .int (nI (dm)), .ref (m + 8), .ref (m + 9), .int (nI (lnn)), .ref (m + 10), .int (nI (pn)), .int (nI (he)), .int er, .int ep, .int fc, .ref (m + 11), .int (nI (cn))])) := by rw [← e6]; exact xup_eq
      have ga : F6 (m + 1) = some (.inr (0, 4730, fun b9 => .int (nI ((cpyR g un 0) b9)))) := by rw [← e6]; exact (xup_ne (by omega)).trans ga
      have hag : ∀ a9 : Nat, (a9 < m ∨ m + 12 ≤ a9) → F6 a9 = F a9 := fun a9 q0 => by rw [← e6]; exact (xup_ne (by omega)).trans (hag a9 q0)
      refine x_aload_n hC d_MessageCoderModel_undo_40 rfl rfl ?_
      refine x_getf hC kf_MessageCoderModel_58 o0 rfl d_MessageCoderModel_undo_41 ?_
      refine hret _ _ _ _ _ _ _ d_MessageCoderModel_undo_44 (by decide) (by decide) rfl ?_
      have e1 : (if 0 < un then undM (A, S, past, (pn, psg), (lnn, lsg), sv, pp, un, ep, fc) else (A, S, past, (pn, psg), (lnn, lsg), sv, pp, un, ep, fc)) = undM (A, S, past, (pn, psg), (lnn, lsg), sv, pp, un, ep, fc) := if_pos c_16
      have hR : rMD (cpyR g un 0) (undM (A, S, past, (pn, psg), (lnn, lsg), sv, pp, un, ep, fc)) := und_R hI hg c_16
      exact ⟨rfl, rfl, (by show xMD _ m (if 0 < un then 0 else 1) (if 0 < un then undM (A, S, past, (pn, psg), (lnn, lsg), sv, pp, un, ep, fc) else (A, S, past, (pn, psg), (lnn, lsg), sv, pp, un, ep, fc)); rw [e1]; exact ⟨_, _, _, _, _, _, _, _, _, _, _, _, _, _, _, _, _, o0, ga, h2, h3, h4, h5, h6, h7, h8, h9, hi, hcm, hR, hln, hip⟩), hag⟩
    · skip
      refine x_iconst hC d_MessageCoderModel_undo_19 (v := nI 0) (by decide) ?_
      refine hret _ _ _ _ _ _ _ d_MessageCoderModel_undo_20 (by decide) (by decide) rfl ?_
      have e1 : (if 0 < un then undM (A, S, past, (pn, psg), (lnn, lsg), sv, pp, un, ep, fc) else (A, S, past, (pn, psg), (lnn, lsg), sv, pp, un, ep, fc)) = (A, S, past, (pn, psg), (lnn, lsg), sv, pp, un, ep, fc) := if_neg c_16
      have e0 : un = 0 := by omega
      exact ⟨congrArg (fun q => some (Value.int (nI q))) (show 0 = un - 1 by omega), rfl, (by show xMD _ m (if 0 < un then 0 else 1) (if 0 < un then undM (A, S, past, (pn, psg), (lnn, lsg), sv, pp, un, ep, fc) else (A, S, past, (pn, psg), (lnn, lsg), sv, pp, un, ep, fc)); rw [e1]; exact ⟨_, _, _, _, _, _, _, _, _, _, _, _, _, _, _, _, _, o0, ga, h2, h3, h4, h5, h6, h7, h8, h9, hi, hcm, hg, hln, hip⟩), hag⟩

theorem d_MessageCoderModel_save_0 : decode prog_14_method_125_code 0 = .ok (.aload_n 0, 1) := by decide +kernel
theorem d_MessageCoderModel_save_1 : decode prog_14_method_125_code 1 = .ok (.iconst 0, 1) := by decide +kernel
theorem d_MessageCoderModel_save_2 : decode prog_14_method_125_code 2 = .ok (.putfield 51, 3) := by decide +kernel
theorem d_MessageCoderModel_save_5 : decode prog_14_method_125_code 5 = .ok (.aload_n 0, 1) := by decide +kernel
theorem d_MessageCoderModel_save_6 : decode prog_14_method_125_code 6 = .ok (.iconst 1, 1) := by decide +kernel
theorem d_MessageCoderModel_save_7 : decode prog_14_method_125_code 7 = .ok (.putfield 291, 3) := by decide +kernel
theorem d_MessageCoderModel_save_10 : decode prog_14_method_125_code 10 = .ok (.aload_n 0, 1) := by decide +kernel
theorem d_MessageCoderModel_save_11 : decode prog_14_method_125_code 11 = .ok (.iconst 0, 1) := by decide +kernel
theorem d_MessageCoderModel_save_12 : decode prog_14_method_125_code 12 = .ok (.bipush 9, 2) := by decide +kernel
theorem d_MessageCoderModel_save_14 : decode prog_14_method_125_code 14 = .ok (.invokevirtual 54, 3) := by decide +kernel
theorem d_MessageCoderModel_save_17 : decode prog_14_method_125_code 17 = .ok (.aload_n 0, 1) := by decide +kernel
theorem d_MessageCoderModel_save_18 : decode prog_14_method_125_code 18 = .ok (.getfield 9, 3) := by decide +kernel
theorem d_MessageCoderModel_save_21 : decode prog_14_method_125_code 21 = .ok (.iconst 1, 1) := by decide +kernel
theorem d_MessageCoderModel_save_22 : decode prog_14_method_125_code 22 = .ok (.iaload, 1) := by decide +kernel
theorem d_MessageCoderModel_save_23 : decode prog_14_method_125_code 23 = .ok (.ireturn, 1) := by decide +kernel
set_option maxHeartbeats 4000000 in
set_option maxRecDepth 20000 in
theorem c_MessageCoderModel_save {P : xP} {F : xF} {z : Nat} {m : Nat} {th0 : Nat} {M : mcS} (hD : xMD F (m) (th0) (M)) (hI : mInv M) : xM P xy_MessageCoderModel_save [.ref m] F (z) 0 0 (fun r9 F9 z9 => r9 = some (.int (nI (M.1.2.2.1.1))) ∧ z9 = z ∧ xMD F9 (m) (0) ((savM M)) ∧ (∀ a9 : Nat, (a9 < m ∨ m + 12 ≤ a9) → F9 a9 = F a9)) := by
  refine xM_i .int rfl (Nat.le_of_ble_eq_true rfl) (L0 := [some (.ref m)]) rfl rfl fun Θ hC hret => ?_
  have hag : ∀ a9 : Nat, (a9 < m ∨ m + 12 ≤ a9) → F a9 = F a9 := fun a9 _ => rfl
  obtain ⟨A, S, past, ⟨pn, psg⟩, ⟨lnn, lsg⟩, sv, pp, un, ep, fc⟩ := M
  obtain ⟨rs, er, bm, dm, he, cn, g, l2, v3, r4, w5, b6, d7, b8, ln, ip, cs, o0, ga, h2, h3, h4, h5, h6, h7, h8, h9, hi, hcm, hg, hln, hip⟩ := id hD
  obtain ⟨iA, iP, iS, hu8, hup, hs1, hty, hlz, hic, hlc⟩ := id hI
  have o0 : F (m) = some (.inl (10, [.int (nI (th0)), .ref (m + 1), .int (nI (un)), .int (nI (sv)), .int rs, .ref (m + 2), .ref (m + 3), .ref (m + 4), .ref (m + 5), .ref (m + 6), .int (nI (bm)), .ref (m + 7), .int (nI (dm)), .ref (m + 8), .ref (m + 9), .int (nI (lnn)), .ref (m + 10), .int (nI (pn)), .int (nI (he)), .int er, .int ep, .int fc, .ref (m + 11), .int (nI (cn))])) := o0
  have ga : F (m + 1) = some (.inr (0, 4730, fun b9 => .int (nI (g b9)))) := ga
  have h2 : F (m + 2) = some (.inr (0, 8, fun b9 => .int (nI (l2 b9)))) := h2
  have h3 : F (m + 3) = some (.inr (0, 8, fun b9 => .int (nI (v3 b9)))) := h3
  have h4 : F (m + 4) = some (.inr (0, 8, fun b9 => .int (nI (r4 b9)))) := h4
  have h5 : F (m + 5) = some (.inr (0, 8, fun b9 => .int (nI (w5 b9)))) := h5
  have h6 : F (m + 6) = some (.inr (0, 112, fun b9 => .int (nI (b6 b9)))) := h6
  have h7 : F (m + 7) = some (.inr (0, 16, fun b9 => .int (nI (d7 b9)))) := h7
  have h8 : F (m + 8) = some (.inr (0, 17, fun b9 => .int (nI (b8 b9)))) := h8
  have h9 : F (m + 9) = some (.inr (1, 40, fun b9 => .int (nI (ln b9)))) := h9
  have hi : F (m + 10) = some (.inr (1, 60, fun b9 => .int (nI (ip b9)))) := hi
  have hcm : F (m + 11) = some (.inr (0, 183, fun b9 => .int (nI (cs b9)))) := hcm
  have hln : ∀ j, j < lnn → ln j = lsg j := hln
  have hip : ∀ j, j < pn → ip j = psg j := hip
  have iA : aInv A := iA
  have hu8 : un ≤ 8 := hu8
  have hup : un ≤ pp := hup
  have hs1 : sv ≤ 1 := hs1
  have hty : pn ≤ 60 := hty
  have hlz : lnn ≤ 32 := hlz
  have hr : rRow g A := hg.1
  refine x_aload_n hC d_MessageCoderModel_save_0 rfl rfl ?_
  refine x_iconst hC d_MessageCoderModel_save_1 (v := nI 0) (by decide) ?_
  refine x_putf hC kf_MessageCoderModel_51 o0 (Nat.le_of_ble_eq_true rfl) rfl rfl d_MessageCoderModel_save_2 (fs1 := [.int (nI 0), .ref (m + 1), .int (nI (un)), .int (nI (sv)), .int rs, .ref (m + 2), .ref (m + 3), .ref (m + 4), .ref (m + 5), .ref (m + 6), .int (nI (bm)), .ref (m + 7), .int (nI (dm)), .ref (m + 8), .ref (m + 9), .int (nI (lnn)), .ref (m + 10), .int (nI (pn)), .int (nI (he)), .int er, .int ep, .int fc, .ref (m + 11), .int (nI (cn))]) rfl ?_
  generalize e1 : xup F (m) (.inl (10, [.int (nI 0), .ref (m + 1), .int (nI (un)), .int (nI (sv)), .int rs, .ref (m + 2), .ref (m + 3), .ref (m + 4), .ref (m + 5), .ref (m + 6), .int (nI (bm)), .ref (m + 7), .int (nI (dm)), .ref (m + 8), .ref (m + 9), .int (nI (lnn)), .ref (m + 10), .int (nI (pn)), .int (nI (he)), .int er, .int ep, .int fc, .ref (m + 11), .int (nI (cn))])) = F1
  have o0 : F1 (m) = some (.inl (10, [.int (nI 0), .ref (m + 1), .int (nI (un)), .int (nI (sv)), .int rs, .ref (m + 2), .ref (m + 3), .ref (m + 4), .ref (m + 5), .ref (m + 6), .int (nI (bm)), .ref (m + 7), .int (nI (dm)), .ref (m + 8), .ref (m + 9), .int (nI (lnn)), .ref (m + 10), .int (nI (pn)), .int (nI (he)), .int er, .int ep, .int fc, .ref (m + 11), .int (nI (cn))])) := by rw [← e1]; exact xup_eq
  have ga : F1 (m + 1) = some (.inr (0, 4730, fun b9 => .int (nI (g b9)))) := by rw [← e1]; exact (xup_ne (by omega)).trans ga
  have h2 : F1 (m + 2) = some (.inr (0, 8, fun b9 => .int (nI (l2 b9)))) := by rw [← e1]; exact (xup_ne (by omega)).trans h2
  have h3 : F1 (m + 3) = some (.inr (0, 8, fun b9 => .int (nI (v3 b9)))) := by rw [← e1]; exact (xup_ne (by omega)).trans h3
  have h4 : F1 (m + 4) = some (.inr (0, 8, fun b9 => .int (nI (r4 b9)))) := by rw [← e1]; exact (xup_ne (by omega)).trans h4
  have h5 : F1 (m + 5) = some (.inr (0, 8, fun b9 => .int (nI (w5 b9)))) := by rw [← e1]; exact (xup_ne (by omega)).trans h5
  have h6 : F1 (m + 6) = some (.inr (0, 112, fun b9 => .int (nI (b6 b9)))) := by rw [← e1]; exact (xup_ne (by omega)).trans h6
  have h7 : F1 (m + 7) = some (.inr (0, 16, fun b9 => .int (nI (d7 b9)))) := by rw [← e1]; exact (xup_ne (by omega)).trans h7
  have h8 : F1 (m + 8) = some (.inr (0, 17, fun b9 => .int (nI (b8 b9)))) := by rw [← e1]; exact (xup_ne (by omega)).trans h8
  have h9 : F1 (m + 9) = some (.inr (1, 40, fun b9 => .int (nI (ln b9)))) := by rw [← e1]; exact (xup_ne (by omega)).trans h9
  have hi : F1 (m + 10) = some (.inr (1, 60, fun b9 => .int (nI (ip b9)))) := by rw [← e1]; exact (xup_ne (by omega)).trans hi
  have hcm : F1 (m + 11) = some (.inr (0, 183, fun b9 => .int (nI (cs b9)))) := by rw [← e1]; exact (xup_ne (by omega)).trans hcm
  have hag : ∀ a9 : Nat, (a9 < m ∨ m + 12 ≤ a9) → F1 a9 = F a9 := fun a9 q0 => by rw [← e1]; exact (xup_ne (by omega)).trans (hag a9 q0)
  refine x_aload_n hC d_MessageCoderModel_save_5 rfl rfl ?_
  refine x_iconst hC d_MessageCoderModel_save_6 (v := nI 1) (by decide) ?_
  refine x_putf hC kf_MessageCoderModel_291 o0 (Nat.le_of_ble_eq_true rfl) rfl rfl d_MessageCoderModel_save_7 (fs1 := [.int (nI 0), .ref (m + 1), .int (nI (un)), .int (nI 1), .int rs, .ref (m + 2), .ref (m + 3), .ref (m + 4), .ref (m + 5), .ref (m + 6), .int (nI (bm)), .ref (m + 7), .int (nI (dm)), .ref (m + 8), .ref (m + 9), .int (nI (lnn)), .ref (m + 10), .int (nI (pn)), .int (nI (he)), .int er, .int ep, .int fc, .ref (m + 11), .int (nI (cn))]) rfl ?_
  generalize e2 : xup F1 (m) (.inl (10, [.int (nI 0), .ref (m + 1), .int (nI (un)), .int (nI 1), .int rs, .ref (m + 2), .ref (m + 3), .ref (m + 4), .ref (m + 5), .ref (m + 6), .int (nI (bm)), .ref (m + 7), .int (nI (dm)), .ref (m + 8), .ref (m + 9), .int (nI (lnn)), .ref (m + 10), .int (nI (pn)), .int (nI (he)), .int er, .int ep, .int fc, .ref (m + 11), .int (nI (cn))])) = F2
  have o0 : F2 (m) = some (.inl (10, [.int (nI 0), .ref (m + 1), .int (nI (un)), .int (nI 1), .int rs, .ref (m + 2), .ref (m + 3), .ref (m + 4), .ref (m + 5), .ref (m + 6), .int (nI (bm)), .ref (m + 7), .int (nI (dm)), .ref (m + 8), .ref (m + 9), .int (nI (lnn)), .ref (m + 10), .int (nI (pn)), .int (nI (he)), .int er, .int ep, .int fc, .ref (m + 11), .int (nI (cn))])) := by rw [← e2]; exact xup_eq
  have ga : F2 (m + 1) = some (.inr (0, 4730, fun b9 => .int (nI (g b9)))) := by rw [← e2]; exact (xup_ne (by omega)).trans ga
  have h2 : F2 (m + 2) = some (.inr (0, 8, fun b9 => .int (nI (l2 b9)))) := by rw [← e2]; exact (xup_ne (by omega)).trans h2
  have h3 : F2 (m + 3) = some (.inr (0, 8, fun b9 => .int (nI (v3 b9)))) := by rw [← e2]; exact (xup_ne (by omega)).trans h3
  have h4 : F2 (m + 4) = some (.inr (0, 8, fun b9 => .int (nI (r4 b9)))) := by rw [← e2]; exact (xup_ne (by omega)).trans h4
  have h5 : F2 (m + 5) = some (.inr (0, 8, fun b9 => .int (nI (w5 b9)))) := by rw [← e2]; exact (xup_ne (by omega)).trans h5
  have h6 : F2 (m + 6) = some (.inr (0, 112, fun b9 => .int (nI (b6 b9)))) := by rw [← e2]; exact (xup_ne (by omega)).trans h6
  have h7 : F2 (m + 7) = some (.inr (0, 16, fun b9 => .int (nI (d7 b9)))) := by rw [← e2]; exact (xup_ne (by omega)).trans h7
  have h8 : F2 (m + 8) = some (.inr (0, 17, fun b9 => .int (nI (b8 b9)))) := by rw [← e2]; exact (xup_ne (by omega)).trans h8
  have h9 : F2 (m + 9) = some (.inr (1, 40, fun b9 => .int (nI (ln b9)))) := by rw [← e2]; exact (xup_ne (by omega)).trans h9
  have hi : F2 (m + 10) = some (.inr (1, 60, fun b9 => .int (nI (ip b9)))) := by rw [← e2]; exact (xup_ne (by omega)).trans hi
  have hcm : F2 (m + 11) = some (.inr (0, 183, fun b9 => .int (nI (cs b9)))) := by rw [← e2]; exact (xup_ne (by omega)).trans hcm
  have hag : ∀ a9 : Nat, (a9 < m ∨ m + 12 ≤ a9) → F2 a9 = F a9 := fun a9 q0 => by rw [← e2]; exact (xup_ne (by omega)).trans (hag a9 q0)
  refine x_aload_n hC d_MessageCoderModel_save_10 rfl rfl ?_
  refine x_iconst hC d_MessageCoderModel_save_11 (v := nI 0) (by decide) ?_
  refine x_bipush hC d_MessageCoderModel_save_12 (v := nI 9) (by decide) ?_
  refine x_callV hC kv_MessageCoderModel_54 (c_MessageCoderModel_copies (o0 := o0) (ga := ga) (hf := by omega) (ht := by omega) (hft := by omega)) o0 rfl rfl (by decide) rfl rfl rfl (Nat.le_of_ble_eq_true rfl) (by decide) d_MessageCoderModel_save_14 (fun r9 F9 z9 hp9 => ?_)
  obtain ⟨rfl, h9c, j0, j1, hag9⟩ := hp9
  rw [h9c]
  clear h9c z9
  generalize F9 = F3 at *
  have h2 : F3 (m + 2) = some (.inr (0, 8, fun b9 => .int (nI (l2 b9)))) := (hag9 _ (by omega)).trans h2
  have h3 : F3 (m + 3) = some (.inr (0, 8, fun b9 => .int (nI (v3 b9)))) := (hag9 _ (by omega)).trans h3
  have h4 : F3 (m + 4) = some (.inr (0, 8, fun b9 => .int (nI (r4 b9)))) := (hag9 _ (by omega)).trans h4
  have h5 : F3 (m + 5) = some (.inr (0, 8, fun b9 => .int (nI (w5 b9)))) := (hag9 _ (by omega)).trans h5
  have h6 : F3 (m + 6) = some (.inr (0, 112, fun b9 => .int (nI (b6 b9)))) := (hag9 _ (by omega)).trans h6
  have h7 : F3 (m + 7) = some (.inr (0, 16, fun b9 => .int (nI (d7 b9)))) := (hag9 _ (by omega)).trans h7
  have h8 : F3 (m + 8) = some (.inr (0, 17, fun b9 => .int (nI (b8 b9)))) := (hag9 _ (by omega)).trans h8
  have h9 : F3 (m + 9) = some (.inr (1, 40, fun b9 => .int (nI (ln b9)))) := (hag9 _ (by omega)).trans h9
  have hi : F3 (m + 10) = some (.inr (1, 60, fun b9 => .int (nI (ip b9)))) := (hag9 _ (by omega)).trans hi
  have hcm : F3 (m + 11) = some (.inr (0, 183, fun b9 => .int (nI (cs b9)))) := (hag9 _ (by omega)).trans hcm
  have o0 : F3 (m) = some (.inl (10, [.int (nI 0), .ref (m + 1), .int (nI (un)), .int (nI 1), .int rs, .ref (m + 2), .ref (m + 3), .ref (m + 4), .ref (m + 5), .ref (m + 6), .int (nI (bm)), .ref (m + 7), .int (nI (dm)), .ref (m + 8), .ref (m + 9), .int (nI (lnn)), .ref (m + 10), .int (nI (pn)), .int (nI (he)), .int er, .int ep, .int fc, .ref (m + 11), .int (nI (cn))])) := j0
  have ga : F3 (m + 1) = some (.inr (0, 4730, fun b9 => .int (nI ((cpyR g 0 9) b9)))) := j1
  have hag : ∀ a9 : Nat, (a9 < m ∨ m + 12 ≤ a9) → F3 a9 = F a9 := fun a9 q0 => (hag9 a9 (by omega)).trans (hag a9 q0)
  have hg_14 := hag9
  clear hag9
  refine x_aload_n hC d_MessageCoderModel_save_17 rfl rfl ?_
  refine x_getf hC kf_MessageCoderModel_9 o0 rfl d_MessageCoderModel_save_18 ?_
  refine x_iconst hC d_MessageCoderModel_save_21 (v := nI 1) (by decide) ?_
  refine x_iald hC ga (j := 1) ⟨rfl, by omega, by omega⟩ (x := nI (A.2.2.1.1)) (congrArg nI ((cpyR_out (by omega)).trans hr.1.2.1)) d_MessageCoderModel_save_22 ?_
  refine hret _ _ _ _ _ _ _ d_MessageCoderModel_save_23 (by decide) (by decide) rfl ?_
  have hR : rMD (cpyR g 0 9) (savM (A, S, past, (pn, psg), (lnn, lsg), sv, pp, un, ep, fc)) := sav_R hI hg
  exact ⟨rfl, rfl, ⟨_, _, _, _, _, _, _, _, _, _, _, _, _, _, _, _, _, o0, ga, h2, h3, h4, h5, h6, h7, h8, h9, hi, hcm, hR, hln, hip⟩, hag⟩

theorem d_MessageCoderModel_restore_0 : decode prog_14_method_126_code 0 = .ok (.aload_n 0, 1) := by decide +kernel
theorem d_MessageCoderModel_restore_1 : decode prog_14_method_126_code 1 = .ok (.aload_n 0, 1) := by decide +kernel
theorem d_MessageCoderModel_restore_2 : decode prog_14_method_126_code 2 = .ok (.getfield 291, 3) := by decide +kernel
theorem d_MessageCoderModel_restore_5 : decode prog_14_method_126_code 5 = .ok (.invokevirtual 195, 3) := by decide +kernel
theorem d_MessageCoderModel_restore_8 : decode prog_14_method_126_code 8 = .ok (.ifCond .ne 5, 3) := by decide +kernel
theorem d_MessageCoderModel_restore_11 : decode prog_14_method_126_code 11 = .ok (.iconst 0, 1) := by decide +kernel
theorem d_MessageCoderModel_restore_12 : decode prog_14_method_126_code 12 = .ok (.ireturn, 1) := by decide +kernel
theorem d_MessageCoderModel_restore_13 : decode prog_14_method_126_code 13 = .ok (.aload_n 0, 1) := by decide +kernel
theorem d_MessageCoderModel_restore_14 : decode prog_14_method_126_code 14 = .ok (.bipush 9, 2) := by decide +kernel
theorem d_MessageCoderModel_restore_16 : decode prog_14_method_126_code 16 = .ok (.iconst 0, 1) := by decide +kernel
theorem d_MessageCoderModel_restore_17 : decode prog_14_method_126_code 17 = .ok (.invokevirtual 54, 3) := by decide +kernel
theorem d_MessageCoderModel_restore_20 : decode prog_14_method_126_code 20 = .ok (.aload_n 0, 1) := by decide +kernel
theorem d_MessageCoderModel_restore_21 : decode prog_14_method_126_code 21 = .ok (.iconst 0, 1) := by decide +kernel
theorem d_MessageCoderModel_restore_22 : decode prog_14_method_126_code 22 = .ok (.putfield 58, 3) := by decide +kernel
theorem d_MessageCoderModel_restore_25 : decode prog_14_method_126_code 25 = .ok (.aload_n 0, 1) := by decide +kernel
theorem d_MessageCoderModel_restore_26 : decode prog_14_method_126_code 26 = .ok (.getfield 9, 3) := by decide +kernel
theorem d_MessageCoderModel_restore_29 : decode prog_14_method_126_code 29 = .ok (.iconst 1, 1) := by decide +kernel
theorem d_MessageCoderModel_restore_30 : decode prog_14_method_126_code 30 = .ok (.iaload, 1) := by decide +kernel
theorem d_MessageCoderModel_restore_31 : decode prog_14_method_126_code 31 = .ok (.ireturn, 1) := by decide +kernel
set_option maxHeartbeats 4000000 in
set_option maxRecDepth 20000 in
theorem c_MessageCoderModel_restore {P : xP} {F : xF} {z : Nat} {m : Nat} {th0 : Nat} {M : mcS} (hD : xMD F (m) (th0) (M)) (hI : mInv M) : xM P xy_MessageCoderModel_restore [.ref m] F (z) 0 0 (fun r9 F9 z9 => r9 = some (.int (nI (if 0 < M.2.2.2.2.2.1 then M.2.1.2.2.1.1 else 0))) ∧ z9 = z ∧ xMD F9 (m) ((if 0 < M.2.2.2.2.2.1 then 0 else 1)) ((if 0 < M.2.2.2.2.2.1 then resM M else M)) ∧ (∀ a9 : Nat, (a9 < m ∨ m + 12 ≤ a9) → F9 a9 = F a9)) := by
  refine xM_i .int rfl (Nat.le_of_ble_eq_true rfl) (L0 := [some (.ref m)]) rfl rfl fun Θ hC hret => ?_
  have hag : ∀ a9 : Nat, (a9 < m ∨ m + 12 ≤ a9) → F a9 = F a9 := fun a9 _ => rfl
  obtain ⟨A, S, past, ⟨pn, psg⟩, ⟨lnn, lsg⟩, sv, pp, un, ep, fc⟩ := M
  obtain ⟨rs, er, bm, dm, he, cn, g, l2, v3, r4, w5, b6, d7, b8, ln, ip, cs, o0, ga, h2, h3, h4, h5, h6, h7, h8, h9, hi, hcm, hg, hln, hip⟩ := id hD
  obtain ⟨iA, iP, iS, hu8, hup, hs1, hty, hlz, hic, hlc⟩ := id hI
  have o0 : F (m) = some (.inl (10, [.int (nI (th0)), .ref (m + 1), .int (nI (un)), .int (nI (sv)), .int rs, .ref (m + 2), .ref (m + 3), .ref (m + 4), .ref (m + 5), .ref (m + 6), .int (nI (bm)), .ref (m + 7), .int (nI (dm)), .ref (m + 8), .ref (m + 9), .int (nI (lnn)), .ref (m + 10), .int (nI (pn)), .int (nI (he)), .int er, .int ep, .int fc, .ref (m + 11), .int (nI (cn))])) := o0
  have ga : F (m + 1) = some (.inr (0, 4730, fun b9 => .int (nI (g b9)))) := ga
  have h2 : F (m + 2) = some (.inr (0, 8, fun b9 => .int (nI (l2 b9)))) := h2
  have h3 : F (m + 3) = some (.inr (0, 8, fun b9 => .int (nI (v3 b9)))) := h3
  have h4 : F (m + 4) = some (.inr (0, 8, fun b9 => .int (nI (r4 b9)))) := h4
  have h5 : F (m + 5) = some (.inr (0, 8, fun b9 => .int (nI (w5 b9)))) := h5
  have h6 : F (m + 6) = some (.inr (0, 112, fun b9 => .int (nI (b6 b9)))) := h6
  have h7 : F (m + 7) = some (.inr (0, 16, fun b9 => .int (nI (d7 b9)))) := h7
  have h8 : F (m + 8) = some (.inr (0, 17, fun b9 => .int (nI (b8 b9)))) := h8
  have h9 : F (m + 9) = some (.inr (1, 40, fun b9 => .int (nI (ln b9)))) := h9
  have hi : F (m + 10) = some (.inr (1, 60, fun b9 => .int (nI (ip b9)))) := hi
  have hcm : F (m + 11) = some (.inr (0, 183, fun b9 => .int (nI (cs b9)))) := hcm
  have hln : ∀ j, j < lnn → ln j = lsg j := hln
  have hip : ∀ j, j < pn → ip j = psg j := hip
  have iA : aInv A := iA
  have hu8 : un ≤ 8 := hu8
  have hup : un ≤ pp := hup
  have hs1 : sv ≤ 1 := hs1
  have hty : pn ≤ 60 := hty
  have hlz : lnn ≤ 32 := hlz
  have hr : rRow g A := hg.1
  refine x_aload_n hC d_MessageCoderModel_restore_0 rfl rfl ?_
  refine x_aload_n hC d_MessageCoderModel_restore_1 rfl rfl ?_
  refine x_getf hC kf_MessageCoderModel_291 o0 rfl d_MessageCoderModel_restore_2 ?_
  refine x_top (v := (xb (0 < sv))) (by rcases (show sv = 0 ∨ sv = 1 by omega) with e | e; (rw [e]; exact xb_f0 (by omega)); (rw [e]; exact xb_t1 (by omega))) ?_
  refine x_callV hC kv_MessageCoderModel_195 (c_MessageCoderModel_isFine (o0 := o0)) o0 rfl rfl (by decide) rfl rfl rfl (Nat.le_of_ble_eq_true rfl) (by decide) d_MessageCoderModel_restore_5 (fun r9 F9 z9 hp9 => ?_)
  obtain ⟨rfl, h9c, j0, hag9⟩ := hp9
  rw [h9c]
  clear h9c z9
  generalize F9 = F1 at *
  have ga : F1 (m + 1) = some (.inr (0, 4730, fun b9 => .int (nI (g b9)))) := (hag9 _ (by omega)).trans ga
  have h2 : F1 (m + 2) = some (.inr (0, 8, fun b9 => .int (nI (l2 b9)))) := (hag9 _ (by omega)).trans h2
  have h3 : F1 (m + 3) = some (.inr (0, 8, fun b9 => .int (nI (v3 b9)))) := (hag9 _ (by omega)).trans h3
  have h4 : F1 (m + 4) = some (.inr (0, 8, fun b9 => .int (nI (r4 b9)))) := (hag9 _ (by omega)).trans h4
  have h5 : F1 (m + 5) = some (.inr (0, 8, fun b9 => .int (nI (w5 b9)))) := (hag9 _ (by omega)).trans h5
  have h6 : F1 (m + 6) = some (.inr (0, 112, fun b9 => .int (nI (b6 b9)))) := (hag9 _ (by omega)).trans h6
  have h7 : F1 (m + 7) = some (.inr (0, 16, fun b9 => .int (nI (d7 b9)))) := (hag9 _ (by omega)).trans h7
  have h8 : F1 (m + 8) = some (.inr (0, 17, fun b9 => .int (nI (b8 b9)))) := (hag9 _ (by omega)).trans h8
  have h9 : F1 (m + 9) = some (.inr (1, 40, fun b9 => .int (nI (ln b9)))) := (hag9 _ (by omega)).trans h9
  have hi : F1 (m + 10) = some (.inr (1, 60, fun b9 => .int (nI (ip b9)))) := (hag9 _ (by omega)).trans hi
  have hcm : F1 (m + 11) = some (.inr (0, 183, fun b9 => .int (nI (cs b9)))) := (hag9 _ (by omega)).trans hcm
  have o0 : F1 (m) = some (.inl (10, [.int (nI ((if (0 < sv) then 0 else 1))), .ref (m + 1), .int (nI (un)), .int (nI (sv)), .int rs, .ref (m + 2), .ref (m + 3), .ref (m + 4), .ref (m + 5), .ref (m + 6), .int (nI (bm)), .ref (m + 7), .int (nI (dm)), .ref (m + 8), .ref (m + 9), .int (nI (lnn)), .ref (m + 10), .int (nI (pn)), .int (nI (he)), .int er, .int ep, .int fc, .ref (m + 11), .int (nI (cn))])) := j0
  have hag : ∀ a9 : Nat, (a9 < m ∨ m + 12 ≤ a9) → F1 a9 = F a9 := fun a9 q0 => (hag9 a9 (by omega)).trans (hag a9 q0)
  have hg_5 := hag9
  clear hag9
  refine x_ifB_ne hC d_MessageCoderModel_restore_8 (tgt := 13) (by decide) (fun c_8 => ?_) (fun c_8 => ?_)
  · skip
    refine x_aload_n hC d_MessageCoderModel_restore_13 rfl rfl ?_
    refine x_bipush hC d_MessageCoderModel_restore_14 (v := nI 9) (by decide) ?_
    refine x_iconst hC d_MessageCoderModel_restore_16 (v := nI 0) (by decide) ?_
    refine x_callV hC kv_MessageCoderModel_54 (c_MessageCoderModel_copies (o0 := o0) (ga := ga) (hf := by omega) (ht := by omega) (hft := by omega)) o0 rfl rfl (by decide) rfl rfl rfl (Nat.le_of_ble_eq_true rfl) (by decide) d_MessageCoderModel_restore_17 (fun r9 F9 z9 hp9 => ?_)
    obtain ⟨rfl, h9c, j0, j1, hag9⟩ := hp9
    rw [h9c]
    clear h9c z9
    generalize F9 = F2 at *
    have h2 : F2 (m + 2) = some (.inr (0, 8, fun b9 => .int (nI (l2 b9)))) := (hag9 _ (by omega)).trans h2
    have h3 : F2 (m + 3) = some (.inr (0, 8, fun b9 => .int (nI (v3 b9)))) := (hag9 _ (by omega)).trans h3
    have h4 : F2 (m + 4) = some (.inr (0, 8, fun b9 => .int (nI (r4 b9)))) := (hag9 _ (by omega)).trans h4
    have h5 : F2 (m + 5) = some (.inr (0, 8, fun b9 => .int (nI (w5 b9)))) := (hag9 _ (by omega)).trans h5
    have h6 : F2 (m + 6) = some (.inr (0, 112, fun b9 => .int (nI (b6 b9)))) := (hag9 _ (by omega)).trans h6
    have h7 : F2 (m + 7) = some (.inr (0, 16, fun b9 => .int (nI (d7 b9)))) := (hag9 _ (by omega)).trans h7
    have h8 : F2 (m + 8) = some (.inr (0, 17, fun b9 => .int (nI (b8 b9)))) := (hag9 _ (by omega)).trans h8
    have h9 : F2 (m + 9) = some (.inr (1, 40, fun b9 => .int (nI (ln b9)))) := (hag9 _ (by omega)).trans h9
    have hi : F2 (m + 10) = some (.inr (1, 60, fun b9 => .int (nI (ip b9)))) := (hag9 _ (by omega)).trans hi
    have hcm : F2 (m + 11) = some (.inr (0, 183, fun b9 => .int (nI (cs b9)))) := (hag9 _ (by omega)).trans hcm
    have o0 : F2 (m) = some (.inl (10, [.int (nI ((if (0 < sv) then 0 else 1))), .ref (m + 1), .int (nI (un)), .int (nI (sv)), .int rs, .ref (m + 2), .ref (m + 3), .ref (m + 4), .ref (m + 5), .ref (m + 6), .int (nI (bm)), .ref (m + 7), .int (nI (dm)), .ref (m + 8), .ref (m + 9), .int (nI (lnn)), .ref (m + 10), .int (nI (pn)), .int (nI (he)), .int er, .int ep, .int fc, .ref (m + 11), .int (nI (cn))])) := j0
    have ga : F2 (m + 1) = some (.inr (0, 4730, fun b9 => .int (nI ((cpyR g 9 0) b9)))) := j1
    have hag : ∀ a9 : Nat, (a9 < m ∨ m + 12 ≤ a9) → F2 a9 = F a9 := fun a9 q0 => (hag9 a9 (by omega)).trans (hag a9 q0)
    have hg_17 := hag9
    clear hag9
    refine x_aload_n hC d_MessageCoderModel_restore_20 rfl rfl ?_
    refine x_iconst hC d_MessageCoderModel_restore_21 (v := nI 0) (by decide) ?_
    refine x_putf hC kf_MessageCoderModel_58 o0 (Nat.le_of_ble_eq_true rfl) rfl rfl d_MessageCoderModel_restore_22 (fs1 := [.int (nI ((if (0 < sv) then 0 else 1))), .ref (m + 1), .int (nI 0), .int (nI (sv)), .int rs, .ref (m + 2), .ref (m + 3), .ref (m + 4), .ref (m + 5), .ref (m + 6), .int (nI (bm)), .ref (m + 7), .int (nI (dm)), .ref (m + 8), .ref (m + 9), .int (nI (lnn)), .ref (m + 10), .int (nI (pn)), .int (nI (he)), .int er, .int ep, .int fc, .ref (m + 11), .int (nI (cn))]) rfl ?_
    generalize e3 : xup F2 (m) (.inl (10, [.int (nI ((if (0 < sv) then 0 else 1))), .ref (m + 1), .int (nI 0), .int (nI (sv)), .int rs, .ref (m + 2), .ref (m + 3), .ref (m + 4), .ref (m + 5), .ref (m + 6), .int (nI (bm)), .ref (m + 7), .int (nI (dm)), .ref (m + 8), .ref (m + 9), .int (nI (lnn)), .ref (m + 10), .int (nI (pn)), .int (nI (he)), .int er, .int ep, .int fc, .ref (m + 11), .int (nI (cn))])) = F3
    have h2 : F3 (m + 2) = some (.inr (0, 8, fun b9 => .int (nI (l2 b9)))) := by rw [← e3]; exact (xup_ne (by omega)).trans h2
    have h3 : F3 (m + 3) = some (.inr (0, 8, fun b9 => .int (nI (v3 b9)))) := by rw [← e3]; exact (xup_ne (by omega)).trans h3
    have h4 : F3 (m + 4) = some (.inr (0, 8, fun b9 => .int (nI (r4 b9)))) := by rw [← e3]; exact (xup_ne (by omega)).trans h4
    have h5 : F3 (m + 5) = some (.inr (0, 8, fun b9 => .int (nI (w5 b9)))) := by rw [← e3]; exact (xup_ne (by omega)).trans h5
    have h6 : F3 (m + 6) = some (.inr (0, 112, fun b9 => .int (nI (b6 b9)))) := by rw [← e3]; exact (xup_ne (by omega)).trans h6
    have h7 : F3 (m + 7) = some (.inr (0, 16, fun b9 => .int (nI (d7 b9)))) := by rw [← e3]; exact (xup_ne (by omega)).trans h7
    have h8 : F3 (m + 8) = some (.inr (0, 17, fun b9 => .int (nI (b8 b9)))) := by rw [← e3]; exact (xup_ne (by omega)).trans h8
    have h9 : F3 (m + 9) = some (.inr (1, 40, fun b9 => .int (nI (ln b9)))) := by rw [← e3]; exact (xup_ne (by omega)).trans h9
    have hi : F3 (m + 10) = some (.inr (1, 60, fun b9 => .int (nI (ip b9)))) := by rw [← e3]; exact (xup_ne (by omega)).trans hi
    have hcm : F3 (m + 11) = some (.inr (0, 183, fun b9 => .int (nI (cs b9)))) := by rw [← e3]; exact (xup_ne (by omega)).trans hcm
    have o0 : F3 (m) = some (.inl (10, [.int (nI ((if (0 < sv) then 0 else 1))), .ref (m + 1), .int (nI 0), .int (nI (sv)), .int rs, .ref (m + 2), .ref (m + 3), .ref (m + 4), .ref (m + 5), .ref (m + 6), .int (nI (bm)), .ref (m + 7), .int (nI (dm)), .ref (m + 8), .ref (m + 9), .int (nI (lnn)), .ref (m + 10), .int (nI (pn)), .int (nI (he)), .int er, .int ep, .int fc, .ref (m + 11), .int (nI (cn))])) := by rw [← e3]; exact xup_eq
    have ga : F3 (m + 1) = some (.inr (0, 4730, fun b9 => .int (nI ((cpyR g 9 0) b9)))) := by rw [← e3]; exact (xup_ne (by omega)).trans ga
    have hag : ∀ a9 : Nat, (a9 < m ∨ m + 12 ≤ a9) → F3 a9 = F a9 := fun a9 q0 => by rw [← e3]; exact (xup_ne (by omega)).trans (hag a9 q0)
    refine x_aload_n hC d_MessageCoderModel_restore_25 rfl rfl ?_
    refine x_getf hC kf_MessageCoderModel_9 o0 rfl d_MessageCoderModel_restore_26 ?_
    refine x_iconst hC d_MessageCoderModel_restore_29 (v := nI 1) (by decide) ?_
    refine x_iald hC ga (j := 1) ⟨rfl, by omega, by omega⟩ (x := nI (S.2.2.1.1)) (congrArg nI ((cpyR_in (f := 9) (t := 0) (q := 1) (by omega)).trans (hg.2.2 c_8).1.2.1)) d_MessageCoderModel_restore_30 ?_
    refine hret _ _ _ _ _ _ _ d_MessageCoderModel_restore_31 (by decide) (by decide) rfl ?_
    have e1 : (if 0 < sv then resM (A, S, past, (pn, psg), (lnn, lsg), sv, pp, un, ep, fc) else (A, S, past, (pn, psg), (lnn, lsg), sv, pp, un, ep, fc)) = resM (A, S, past, (pn, psg), (lnn, lsg), sv, pp, un, ep, fc) := if_pos c_8
    have hR : rMD (cpyR g 9 0) (resM (A, S, past, (pn, psg), (lnn, lsg), sv, pp, un, ep, fc)) := res_R hI hg c_8
    exact ⟨congrArg (fun q => some (Value.int (nI q))) ((if_pos c_8).symm), rfl, (by show xMD _ m (if 0 < sv then 0 else 1) (if 0 < sv then resM (A, S, past, (pn, psg), (lnn, lsg), sv, pp, un, ep, fc) else (A, S, past, (pn, psg), (lnn, lsg), sv, pp, un, ep, fc)); rw [e1]; exact ⟨_, _, _, _, _, _, _, _, _, _, _, _, _, _, _, _, _, o0, ga, h2, h3, h4, h5, h6, h7, h8, h9, hi, hcm, hR, hln, hip⟩), hag⟩
  · skip
    refine x_iconst hC d_MessageCoderModel_restore_11 (v := nI 0) (by decide) ?_
    refine hret _ _ _ _ _ _ _ d_MessageCoderModel_restore_12 (by decide) (by decide) rfl ?_
    have e1 : (if 0 < sv then resM (A, S, past, (pn, psg), (lnn, lsg), sv, pp, un, ep, fc) else (A, S, past, (pn, psg), (lnn, lsg), sv, pp, un, ep, fc)) = (A, S, past, (pn, psg), (lnn, lsg), sv, pp, un, ep, fc) := if_neg c_8
    exact ⟨congrArg (fun q => some (Value.int (nI q))) ((if_neg c_8).symm), rfl, (by show xMD _ m (if 0 < sv then 0 else 1) (if 0 < sv then resM (A, S, past, (pn, psg), (lnn, lsg), sv, pp, un, ep, fc) else (A, S, past, (pn, psg), (lnn, lsg), sv, pp, un, ep, fc)); rw [e1]; exact ⟨_, _, _, _, _, _, _, _, _, _, _, _, _, _, _, _, _, o0, ga, h2, h3, h4, h5, h6, h7, h8, h9, hi, hcm, hg, hln, hip⟩), hag⟩

theorem d_MessageCoderModel_append_0 : decode prog_14_method_105_code 0 = .ok (.aload_n 0, 1) := by decide +kernel
theorem d_MessageCoderModel_append_1 : decode prog_14_method_105_code 1 = .ok (.iload_n 1, 1) := by decide +kernel
theorem d_MessageCoderModel_append_2 : decode prog_14_method_105_code 2 = .ok (.bipush 32, 2) := by decide +kernel
theorem d_MessageCoderModel_append_4 : decode prog_14_method_105_code 4 = .ok (.bipush 126, 2) := by decide +kernel
theorem d_MessageCoderModel_append_6 : decode prog_14_method_105_code 6 = .ok (.invokestatic 64, 3) := by decide +kernel
theorem d_MessageCoderModel_append_9 : decode prog_14_method_105_code 9 = .ok (.ifCond .ne 7, 3) := by decide +kernel
theorem d_MessageCoderModel_append_12 : decode prog_14_method_105_code 12 = .ok (.iconst 1, 1) := by decide +kernel
theorem d_MessageCoderModel_append_13 : decode prog_14_method_105_code 13 = .ok (.goto 17, 3) := by decide +kernel
theorem d_MessageCoderModel_append_16 : decode prog_14_method_105_code 16 = .ok (.aload_n 0, 1) := by decide +kernel
theorem d_MessageCoderModel_append_17 : decode prog_14_method_105_code 17 = .ok (.getfield 236, 3) := by decide +kernel
theorem d_MessageCoderModel_append_20 : decode prog_14_method_105_code 20 = .ok (.bipush 60, 2) := by decide +kernel
theorem d_MessageCoderModel_append_22 : decode prog_14_method_105_code 22 = .ok (.if_icmp .ne 7, 3) := by decide +kernel
theorem d_MessageCoderModel_append_25 : decode prog_14_method_105_code 25 = .ok (.iconst 2, 1) := by decide +kernel
theorem d_MessageCoderModel_append_26 : decode prog_14_method_105_code 26 = .ok (.goto 4, 3) := by decide +kernel
theorem d_MessageCoderModel_append_29 : decode prog_14_method_105_code 29 = .ok (.iconst 0, 1) := by decide +kernel
theorem d_MessageCoderModel_append_30 : decode prog_14_method_105_code 30 = .ok (.putfield 51, 3) := by decide +kernel
theorem d_MessageCoderModel_append_33 : decode prog_14_method_105_code 33 = .ok (.aload_n 0, 1) := by decide +kernel
theorem d_MessageCoderModel_append_34 : decode prog_14_method_105_code 34 = .ok (.getfield 51, 3) := by decide +kernel
theorem d_MessageCoderModel_append_37 : decode prog_14_method_105_code 37 = .ok (.ifCond .eq 5, 3) := by decide +kernel
theorem d_MessageCoderModel_append_40 : decode prog_14_method_105_code 40 = .ok (.iconst 0, 1) := by decide +kernel
theorem d_MessageCoderModel_append_41 : decode prog_14_method_105_code 41 = .ok (.ireturn, 1) := by decide +kernel
theorem d_MessageCoderModel_append_42 : decode prog_14_method_105_code 42 = .ok (.aload_n 0, 1) := by decide +kernel
theorem d_MessageCoderModel_append_43 : decode prog_14_method_105_code 43 = .ok (.getfield 38, 3) := by decide +kernel
theorem d_MessageCoderModel_append_46 : decode prog_14_method_105_code 46 = .ok (.aload_n 0, 1) := by decide +kernel
theorem d_MessageCoderModel_append_47 : decode prog_14_method_105_code 47 = .ok (.getfield 236, 3) := by decide +kernel
theorem d_MessageCoderModel_append_50 : decode prog_14_method_105_code 50 = .ok (.iload_n 1, 1) := by decide +kernel
theorem d_MessageCoderModel_append_51 : decode prog_14_method_105_code 51 = .ok (.castore, 1) := by decide +kernel
theorem d_MessageCoderModel_append_52 : decode prog_14_method_105_code 52 = .ok (.aload_n 0, 1) := by decide +kernel
theorem d_MessageCoderModel_append_53 : decode prog_14_method_105_code 53 = .ok (.dup, 1) := by decide +kernel
theorem d_MessageCoderModel_append_54 : decode prog_14_method_105_code 54 = .ok (.getfield 236, 3) := by decide +kernel
theorem d_MessageCoderModel_append_57 : decode prog_14_method_105_code 57 = .ok (.iconst 1, 1) := by decide +kernel
theorem d_MessageCoderModel_append_58 : decode prog_14_method_105_code 58 = .ok (.iadd, 1) := by decide +kernel
theorem d_MessageCoderModel_append_59 : decode prog_14_method_105_code 59 = .ok (.putfield 236, 3) := by decide +kernel
theorem d_MessageCoderModel_append_62 : decode prog_14_method_105_code 62 = .ok (.aload_n 0, 1) := by decide +kernel
theorem d_MessageCoderModel_append_63 : decode prog_14_method_105_code 63 = .ok (.getfield 236, 3) := by decide +kernel
theorem d_MessageCoderModel_append_66 : decode prog_14_method_105_code 66 = .ok (.ireturn, 1) := by decide +kernel
set_option maxHeartbeats 4000000 in
set_option maxRecDepth 20000 in
theorem c_MessageCoderModel_append {P : xP} {F : xF} {z : Nat} {m : Nat} {th0 : Nat} {M : mcS} {c : Nat} (hD : xMD F (m) (th0) (M)) (hI : mInv M) (hcb : c < 65536) : xM P xy_MessageCoderModel_append [.ref m, .int (nI (c))] F (z) 0 0 (fun r9 F9 z9 => r9 = some (.int (nI (if (32 ≤ c ∧ c ≤ 126) ∧ M.2.2.2.1.1 < 60 then M.2.2.2.1.1 + 1 else 0))) ∧ z9 = z ∧ xMD F9 (m) ((if 32 ≤ c ∧ c ≤ 126 then if M.2.2.2.1.1 < 60 then 0 else 2 else 1)) ((if (32 ≤ c ∧ c ≤ 126) ∧ M.2.2.2.1.1 < 60 then setI M (M.2.2.2.1.1 + 1) (updN M.2.2.2.1.2 M.2.2.2.1.1 c) else M)) ∧ (∀ a9 : Nat, (a9 < m ∨ m + 12 ≤ a9) → F9 a9 = F a9)) := by
  refine xM_i .int rfl (Nat.le_of_ble_eq_true rfl) (L0 := [some (.ref m), some (.int (nI (c)))]) rfl rfl fun Θ hC hret => ?_
  have hag : ∀ a9 : Nat, (a9 < m ∨ m + 12 ≤ a9) → F a9 = F a9 := fun a9 _ => rfl
  obtain ⟨A, S, past, ⟨pn, psg⟩, ⟨lnn, lsg⟩, sv, pp, un, ep, fc⟩ := M
  obtain ⟨rs, er, bm, dm, he, cn, g, l2, v3, r4, w5, b6, d7, b8, ln, ip, cs, o0, ga, h2, h3, h4, h5, h6, h7, h8, h9, hi, hcm, hg, hln, hip⟩ := id hD
  obtain ⟨iA, iP, iS, hu8, hup, hs1, hty, hlz, hic, hlc⟩ := id hI
  have o0 : F (m) = some (.inl (10, [.int (nI (th0)), .ref (m + 1), .int (nI (un)), .int (nI (sv)), .int rs, .ref (m + 2), .ref (m + 3), .ref (m + 4), .ref (m + 5), .ref (m + 6), .int (nI (bm)), .ref (m + 7), .int (nI (dm)), .ref (m + 8), .ref (m + 9), .int (nI (lnn)), .ref (m + 10), .int (nI (pn)), .int (nI (he)), .int er, .int ep, .int fc, .ref (m + 11), .int (nI (cn))])) := o0
  have ga : F (m + 1) = some (.inr (0, 4730, fun b9 => .int (nI (g b9)))) := ga
  have h2 : F (m + 2) = some (.inr (0, 8, fun b9 => .int (nI (l2 b9)))) := h2
  have h3 : F (m + 3) = some (.inr (0, 8, fun b9 => .int (nI (v3 b9)))) := h3
  have h4 : F (m + 4) = some (.inr (0, 8, fun b9 => .int (nI (r4 b9)))) := h4
  have h5 : F (m + 5) = some (.inr (0, 8, fun b9 => .int (nI (w5 b9)))) := h5
  have h6 : F (m + 6) = some (.inr (0, 112, fun b9 => .int (nI (b6 b9)))) := h6
  have h7 : F (m + 7) = some (.inr (0, 16, fun b9 => .int (nI (d7 b9)))) := h7
  have h8 : F (m + 8) = some (.inr (0, 17, fun b9 => .int (nI (b8 b9)))) := h8
  have h9 : F (m + 9) = some (.inr (1, 40, fun b9 => .int (nI (ln b9)))) := h9
  have hi : F (m + 10) = some (.inr (1, 60, fun b9 => .int (nI (ip b9)))) := hi
  have hcm : F (m + 11) = some (.inr (0, 183, fun b9 => .int (nI (cs b9)))) := hcm
  have hln : ∀ j, j < lnn → ln j = lsg j := hln
  have hip : ∀ j, j < pn → ip j = psg j := hip
  have iA : aInv A := iA
  have hu8 : un ≤ 8 := hu8
  have hup : un ≤ pp := hup
  have hs1 : sv ≤ 1 := hs1
  have hty : pn ≤ 60 := hty
  have hlz : lnn ≤ 32 := hlz
  have hr : rRow g A := hg.1
  refine x_aload_n hC d_MessageCoderModel_append_0 rfl rfl ?_
  refine x_iload_n hC d_MessageCoderModel_append_1 rfl rfl ?_
  refine x_bipush hC d_MessageCoderModel_append_2 (v := nI 32) (by decide) ?_
  refine x_bipush hC d_MessageCoderModel_append_4 (v := nI 126) (by decide) ?_
  refine x_callS hC ks_MessageCoderModel_64 (c_MessageCoderModel_in ) (by decide) rfl rfl rfl (Nat.le_of_ble_eq_true rfl) (by decide) d_MessageCoderModel_append_6 (fun r9 F9 z9 hp9 => ?_)
  obtain ⟨rfl, h9b, h9c⟩ := hp9
  rw [h9b, h9c]
  clear h9b h9c F9 z9
  refine x_ifB_ne hC d_MessageCoderModel_append_9 (tgt := 16) (by decide) (fun c_9 => ?_) (fun c_9 => ?_)
  · skip
    refine x_aload_n hC d_MessageCoderModel_append_16 rfl rfl ?_
    refine x_getf hC kf_MessageCoderModel_236 o0 rfl d_MessageCoderModel_append_17 ?_
    refine x_bipush hC d_MessageCoderModel_append_20 (v := nI 60) (by decide) ?_
    refine x_icmpN_ne hC d_MessageCoderModel_append_22 (tgt := 29) (by decide) (by omega) (by omega) (fun c_22 => ?_) (fun c_22 => ?_)
    · skip
      refine x_iconst hC d_MessageCoderModel_append_29 (v := nI 0) (by decide) ?_
      refine x_putf hC kf_MessageCoderModel_51 o0 (Nat.le_of_ble_eq_true rfl) rfl rfl d_MessageCoderModel_append_30 (fs1 := [.int (nI 0), .ref (m + 1), .int (nI (un)), .int (nI (sv)), .int rs, .ref (m + 2), .ref (m + 3), .ref (m + 4), .ref (m + 5), .ref (m + 6), .int (nI (bm)), .ref (m + 7), .int (nI (dm)), .ref (m + 8), .ref (m + 9), .int (nI (lnn)), .ref (m + 10), .int (nI (pn)), .int (nI (he)), .int er, .int ep, .int fc, .ref (m + 11), .int (nI (cn))]) rfl ?_
      generalize e1 : xup F (m) (.inl (10, [.int (nI 0), .ref (m + 1), .int (nI (un)), .int (nI (sv)), .int rs, .ref (m + 2), .ref (m + 3), .ref (m + 4), .ref (m + 5), .ref (m + 6), .int (nI (bm)), .ref (m + 7), .int (nI (dm)), .ref (m + 8), .ref (m + 9), .int (nI (lnn)), .ref (m + 10), .int (nI (pn)), .int (nI (he)), .int er, .int ep, .int fc, .ref (m + 11), .int (nI (cn))])) = F1
      have o0 : F1 (m) = some (.inl (10, [.int (nI 0), .ref (m + 1), .int (nI (un)), .int (nI (sv)), .int rs, .ref (m + 2), .ref (m + 3), .ref (m + 4), .ref (m + 5), .ref (m + 6), .int (nI (bm)), .ref (m + 7), .int (nI (dm)), .ref (m + 8), .ref (m + 9), .int (nI (lnn)), .ref (m + 10), .int (nI (pn)), .int (nI (he)), .int er, .int ep, .int fc, .ref (m + 11), .int (nI (cn))])) := by rw [← e1]; exact xup_eq
      have ga : F1 (m + 1) = some (.inr (0, 4730, fun b9 => .int (nI (g b9)))) := by rw [← e1]; exact (xup_ne (by omega)).trans ga
      have h2 : F1 (m + 2) = some (.inr (0, 8, fun b9 => .int (nI (l2 b9)))) := by rw [← e1]; exact (xup_ne (by omega)).trans h2
      have h3 : F1 (m + 3) = some (.inr (0, 8, fun b9 => .int (nI (v3 b9)))) := by rw [← e1]; exact (xup_ne (by omega)).trans h3
      have h4 : F1 (m + 4) = some (.inr (0, 8, fun b9 => .int (nI (r4 b9)))) := by rw [← e1]; exact (xup_ne (by omega)).trans h4
      have h5 : F1 (m + 5) = some (.inr (0, 8, fun b9 => .int (nI (w5 b9)))) := by rw [← e1]; exact (xup_ne (by omega)).trans h5
      have h6 : F1 (m + 6) = some (.inr (0, 112, fun b9 => .int (nI (b6 b9)))) := by rw [← e1]; exact (xup_ne (by omega)).trans h6
      have h7 : F1 (m + 7) = some (.inr (0, 16, fun b9 => .int (nI (d7 b9)))) := by rw [← e1]; exact (xup_ne (by omega)).trans h7
      have h8 : F1 (m + 8) = some (.inr (0, 17, fun b9 => .int (nI (b8 b9)))) := by rw [← e1]; exact (xup_ne (by omega)).trans h8
      have h9 : F1 (m + 9) = some (.inr (1, 40, fun b9 => .int (nI (ln b9)))) := by rw [← e1]; exact (xup_ne (by omega)).trans h9
      have hi : F1 (m + 10) = some (.inr (1, 60, fun b9 => .int (nI (ip b9)))) := by rw [← e1]; exact (xup_ne (by omega)).trans hi
      have hcm : F1 (m + 11) = some (.inr (0, 183, fun b9 => .int (nI (cs b9)))) := by rw [← e1]; exact (xup_ne (by omega)).trans hcm
      have hag : ∀ a9 : Nat, (a9 < m ∨ m + 12 ≤ a9) → F1 a9 = F a9 := fun a9 q0 => by rw [← e1]; exact (xup_ne (by omega)).trans (hag a9 q0)
      refine x_aload_n hC d_MessageCoderModel_append_33 rfl rfl ?_
      refine x_getf hC kf_MessageCoderModel_51 o0 rfl d_MessageCoderModel_append_34 ?_
      refine x_ifN_eq hC d_MessageCoderModel_append_37 (tgt := 42) (by decide) (by omega) (fun c_37 => ?_) (fun c_37 => ?_)
      · skip
        refine x_aload_n hC d_MessageCoderModel_append_42 rfl rfl ?_
        refine x_getf hC kf_MessageCoderModel_38 o0 rfl d_MessageCoderModel_append_43 ?_
        refine x_aload_n hC d_MessageCoderModel_append_46 rfl rfl ?_
        refine x_getf hC kf_MessageCoderModel_236 o0 rfl d_MessageCoderModel_append_47 ?_
        refine x_iload_n hC d_MessageCoderModel_append_50 rfl rfl ?_
        refine x_cast hC hi (j := pn) ⟨rfl, by omega, by omega⟩ (x_char _ (by omega)) d_MessageCoderModel_append_51 (g1 := fun b9 => nI (updN ip (pn) (c) b9)) (x_updN _ _ _) ?_
        generalize egI : updN ip (pn) (c) = gI
        generalize e3 : xup F1 (m + 10) (.inr (1, 60, fun b9 => .int (nI (gI b9)))) = F3
        have o0 : F3 (m) = some (.inl (10, [.int (nI 0), .ref (m + 1), .int (nI (un)), .int (nI (sv)), .int rs, .ref (m + 2), .ref (m + 3), .ref (m + 4), .ref (m + 5), .ref (m + 6), .int (nI (bm)), .ref (m + 7), .int (nI (dm)), .ref (m + 8), .ref (m + 9), .int (nI (lnn)), .ref (m + 10), .int (nI (pn)), .int (nI (he)), .int er, .int ep, .int fc, .ref (m + 11), .int (nI (cn))])) := by rw [← e3]; exact (xup_ne (by omega)).trans o0
        have ga : F3 (m + 1) = some (.inr (0, 4730, fun b9 => .int (nI (g b9)))) := by rw [← e3]; exact (xup_ne (by omega)).trans ga
        have h2 : F3 (m + 2) = some (.inr (0, 8, fun b9 => .int (nI (l2 b9)))) := by rw [← e3]; exact (xup_ne (by omega)).trans h2
        have h3 : F3 (m + 3) = some (.inr (0, 8, fun b9 => .int (nI (v3 b9)))) := by rw [← e3]; exact (xup_ne (by omega)).trans h3
        have h4 : F3 (m + 4) = some (.inr (0, 8, fun b9 => .int (nI (r4 b9)))) := by rw [← e3]; exact (xup_ne (by omega)).trans h4
        have h5 : F3 (m + 5) = some (.inr (0, 8, fun b9 => .int (nI (w5 b9)))) := by rw [← e3]; exact (xup_ne (by omega)).trans h5
        have h6 : F3 (m + 6) = some (.inr (0, 112, fun b9 => .int (nI (b6 b9)))) := by rw [← e3]; exact (xup_ne (by omega)).trans h6
        have h7 : F3 (m + 7) = some (.inr (0, 16, fun b9 => .int (nI (d7 b9)))) := by rw [← e3]; exact (xup_ne (by omega)).trans h7
        have h8 : F3 (m + 8) = some (.inr (0, 17, fun b9 => .int (nI (b8 b9)))) := by rw [← e3]; exact (xup_ne (by omega)).trans h8
        have h9 : F3 (m + 9) = some (.inr (1, 40, fun b9 => .int (nI (ln b9)))) := by rw [← e3]; exact (xup_ne (by omega)).trans h9
        have hi : F3 (m + 10) = some (.inr (1, 60, fun b9 => .int (nI (gI b9)))) := by rw [← e3]; exact xup_eq
        have hcm : F3 (m + 11) = some (.inr (0, 183, fun b9 => .int (nI (cs b9)))) := by rw [← e3]; exact (xup_ne (by omega)).trans hcm
        have hag : ∀ a9 : Nat, (a9 < m ∨ m + 12 ≤ a9) → F3 a9 = F a9 := fun a9 q0 => by rw [← e3]; exact (xup_ne (by omega)).trans (hag a9 q0)
        refine x_aload_n hC d_MessageCoderModel_append_52 rfl rfl ?_
        refine x_dup hC d_MessageCoderModel_append_53 rfl ?_
        refine x_getf hC kf_MessageCoderModel_236 o0 rfl d_MessageCoderModel_append_54 ?_
        refine x_iconst hC d_MessageCoderModel_append_57 (v := nI 1) (by decide) ?_
        refine x_iadd hC d_MessageCoderModel_append_58 (v := (nI (pn + 1))) (x_addN (by omega)) ?_
        refine x_putf hC kf_MessageCoderModel_236 o0 (Nat.le_of_ble_eq_true rfl) rfl rfl d_MessageCoderModel_append_59 (fs1 := [.int (nI 0), .ref (m + 1), .int (nI (un)), .int (nI (sv)), .int rs, .ref (m + 2), .ref (m + 3), .ref (m + 4), .ref (m + 5), .ref (m + 6), .int (nI (bm)), .ref (m + 7), .int (nI (dm)), .ref (m + 8), .ref (m + 9), .int (nI (lnn)), .ref (m + 10), .int (nI (pn + 1)), .int (nI (he)), .int er, .int ep, .int fc, .ref (m + 11), .int (nI (cn))]) rfl ?_
        generalize e4 : xup F3 (m) (.inl (10, [.int (nI 0), .ref (m + 1), .int (nI (un)), .int (nI (sv)), .int rs, .ref (m + 2), .ref (m + 3), .ref (m + 4), .ref (m + 5), .ref (m + 6), .int (nI (bm)), .ref (m + 7), .int (nI (dm)), .ref (m + 8), .ref (m + 9), .int (nI (lnn)), .ref (m + 10), .int (nI (pn + 1)), .int (nI (he)), .int er, .int ep, .int fc, .ref (m + 11), .int (nI (cn))])) = F4
        have o0 : F4 (m) = some (.inl (10, [.int (nI 0), .ref (m + 1), .int (nI (un)), .int (nI (sv)), .int rs, .ref (m + 2), .ref (m + 3), .ref (m + 4), .ref (m + 5), .ref (m + 6), .int (nI (bm)), .ref (m + 7), .int (nI (dm)), .ref (m + 8), .ref (m + 9), .int (nI (lnn)), .ref (m + 10), .int (nI (pn + 1)), .int (nI (he)), .int er, .int ep, .int fc, .ref (m + 11), .int (nI (cn))])) := by rw [← e4]; exact xup_eq
        have ga : F4 (m + 1) = some (.inr (0, 4730, fun b9 => .int (nI (g b9)))) := by rw [← e4]; exact (xup_ne (by omega)).trans ga
        have h2 : F4 (m + 2) = some (.inr (0, 8, fun b9 => .int (nI (l2 b9)))) := by rw [← e4]; exact (xup_ne (by omega)).trans h2
        have h3 : F4 (m + 3) = some (.inr (0, 8, fun b9 => .int (nI (v3 b9)))) := by rw [← e4]; exact (xup_ne (by omega)).trans h3
        have h4 : F4 (m + 4) = some (.inr (0, 8, fun b9 => .int (nI (r4 b9)))) := by rw [← e4]; exact (xup_ne (by omega)).trans h4
        have h5 : F4 (m + 5) = some (.inr (0, 8, fun b9 => .int (nI (w5 b9)))) := by rw [← e4]; exact (xup_ne (by omega)).trans h5
        have h6 : F4 (m + 6) = some (.inr (0, 112, fun b9 => .int (nI (b6 b9)))) := by rw [← e4]; exact (xup_ne (by omega)).trans h6
        have h7 : F4 (m + 7) = some (.inr (0, 16, fun b9 => .int (nI (d7 b9)))) := by rw [← e4]; exact (xup_ne (by omega)).trans h7
        have h8 : F4 (m + 8) = some (.inr (0, 17, fun b9 => .int (nI (b8 b9)))) := by rw [← e4]; exact (xup_ne (by omega)).trans h8
        have h9 : F4 (m + 9) = some (.inr (1, 40, fun b9 => .int (nI (ln b9)))) := by rw [← e4]; exact (xup_ne (by omega)).trans h9
        have hi : F4 (m + 10) = some (.inr (1, 60, fun b9 => .int (nI (gI b9)))) := by rw [← e4]; exact (xup_ne (by omega)).trans hi
        have hcm : F4 (m + 11) = some (.inr (0, 183, fun b9 => .int (nI (cs b9)))) := by rw [← e4]; exact (xup_ne (by omega)).trans hcm
        have hag : ∀ a9 : Nat, (a9 < m ∨ m + 12 ≤ a9) → F4 a9 = F a9 := fun a9 q0 => by rw [← e4]; exact (xup_ne (by omega)).trans (hag a9 q0)
        refine x_aload_n hC d_MessageCoderModel_append_62 rfl rfl ?_
        refine x_getf hC kf_MessageCoderModel_236 o0 rfl d_MessageCoderModel_append_63 ?_
        refine hret _ _ _ _ _ _ _ d_MessageCoderModel_append_66 (by decide) (by decide) rfl ?_
        have c9 : 32 ≤ c ∧ c ≤ 126 := (ap_iff hcb).mp c_9
        have c8 : pn < 60 := by omega
        have e1 : (if (32 ≤ c ∧ c ≤ 126) ∧ pn < 60 then setI (A, S, past, (pn, psg), (lnn, lsg), sv, pp, un, ep, fc) (pn + 1) (updN psg pn c) else (A, S, past, (pn, psg), (lnn, lsg), sv, pp, un, ep, fc)) = setI (A, S, past, (pn, psg), (lnn, lsg), sv, pp, un, ep, fc) (pn + 1) (updN psg pn c) := if_pos ⟨c9, c8⟩
        have e2 : (if 32 ≤ c ∧ c ≤ 126 then if pn < 60 then 0 else 2 else 1) = 0 := (if_pos c9).trans (if_pos c8)
        exact ⟨congrArg (fun q => some (Value.int (nI q))) ((if_pos ⟨c9, c8⟩).symm), rfl, (by show xMD _ m (if 32 ≤ c ∧ c ≤ 126 then if pn < 60 then 0 else 2 else 1) (if (32 ≤ c ∧ c ≤ 126) ∧ pn < 60 then setI (A, S, past, (pn, psg), (lnn, lsg), sv, pp, un, ep, fc) (pn + 1) (updN psg pn c) else (A, S, past, (pn, psg), (lnn, lsg), sv, pp, un, ep, fc)); rw [e1, e2]; exact ⟨_, _, _, _, _, _, _, _, _, _, _, _, _, _, _, _, _, o0, ga, h2, h3, h4, h5, h6, h7, h8, h9, hi, hcm, hg, hln, (show ∀ j, j < pn + 1 → gI j = updN psg pn c j from fun j hj => by rw [← egI]; by_cases e : j = pn; (rw [e, updN_eq, updN_eq]); (rw [updN_ne e, updN_ne e]; exact hip j (by omega)))⟩), hag⟩
      · skip
        exact absurd c_37 (by omega)
    · skip
      refine x_iconst hC d_MessageCoderModel_append_25 (v := nI 2) (by decide) ?_
      refine x_goto hC d_MessageCoderModel_append_26 (tgt := 30) (by decide) ?_
      refine x_putf hC kf_MessageCoderModel_51 o0 (Nat.le_of_ble_eq_true rfl) rfl rfl d_MessageCoderModel_append_30 (fs1 := [.int (nI 2), .ref (m + 1), .int (nI (un)), .int (nI (sv)), .int rs, .ref (m + 2), .ref (m + 3), .ref (m + 4), .ref (m + 5), .ref (m + 6), .int (nI (bm)), .ref (m + 7), .int (nI (dm)), .ref (m + 8), .ref (m + 9), .int (nI (lnn)), .ref (m + 10), .int (nI (pn)), .int (nI (he)), .int er, .int ep, .int fc, .ref (m + 11), .int (nI (cn))]) rfl ?_
      generalize e5 : xup F (m) (.inl (10, [.int (nI 2), .ref (m + 1), .int (nI (un)), .int (nI (sv)), .int rs, .ref (m + 2), .ref (m + 3), .ref (m + 4), .ref (m + 5), .ref (m + 6), .int (nI (bm)), .ref (m + 7), .int (nI (dm)), .ref (m + 8), .ref (m + 9), .int (nI (lnn)), .ref (m + 10), .int (nI (pn)), .int (nI (he)), .int er, .int ep, .int fc, .ref (m + 11), .int (nI (cn))])) = F5
      have o0 : F5 (m) = some (.inl (10, [.int (nI 2), .ref (m + 1), .int (nI (un)), .int (nI (sv)), .int rs, .ref (m + 2), .ref (m + 3), .ref (m + 4), .ref (m + 5), .ref (m + 6), .int (nI (bm)), .ref (m + 7), .int (nI (dm)), .ref (m + 8), .ref (m + 9), .int (nI (lnn)), .ref (m + 10), .int (nI (pn)), .int (nI (he)), .int er, .int ep, .int fc, .ref (m + 11), .int (nI (cn))])) := by rw [← e5]; exact xup_eq
      have ga : F5 (m + 1) = some (.inr (0, 4730, fun b9 => .int (nI (g b9)))) := by rw [← e5]; exact (xup_ne (by omega)).trans ga
      have h2 : F5 (m + 2) = some (.inr (0, 8, fun b9 => .int (nI (l2 b9)))) := by rw [← e5]; exact (xup_ne (by omega)).trans h2
      have h3 : F5 (m + 3) = some (.inr (0, 8, fun b9 => .int (nI (v3 b9)))) := by rw [← e5]; exact (xup_ne (by omega)).trans h3
      have h4 : F5 (m + 4) = some (.inr (0, 8, fun b9 => .int (nI (r4 b9)))) := by rw [← e5]; exact (xup_ne (by omega)).trans h4
      have h5 : F5 (m + 5) = some (.inr (0, 8, fun b9 => .int (nI (w5 b9)))) := by rw [← e5]; exact (xup_ne (by omega)).trans h5
      have h6 : F5 (m + 6) = some (.inr (0, 112, fun b9 => .int (nI (b6 b9)))) := by rw [← e5]; exact (xup_ne (by omega)).trans h6
      have h7 : F5 (m + 7) = some (.inr (0, 16, fun b9 => .int (nI (d7 b9)))) := by rw [← e5]; exact (xup_ne (by omega)).trans h7
      have h8 : F5 (m + 8) = some (.inr (0, 17, fun b9 => .int (nI (b8 b9)))) := by rw [← e5]; exact (xup_ne (by omega)).trans h8
      have h9 : F5 (m + 9) = some (.inr (1, 40, fun b9 => .int (nI (ln b9)))) := by rw [← e5]; exact (xup_ne (by omega)).trans h9
      have hi : F5 (m + 10) = some (.inr (1, 60, fun b9 => .int (nI (ip b9)))) := by rw [← e5]; exact (xup_ne (by omega)).trans hi
      have hcm : F5 (m + 11) = some (.inr (0, 183, fun b9 => .int (nI (cs b9)))) := by rw [← e5]; exact (xup_ne (by omega)).trans hcm
      have hag : ∀ a9 : Nat, (a9 < m ∨ m + 12 ≤ a9) → F5 a9 = F a9 := fun a9 q0 => by rw [← e5]; exact (xup_ne (by omega)).trans (hag a9 q0)
      refine x_aload_n hC d_MessageCoderModel_append_33 rfl rfl ?_
      refine x_getf hC kf_MessageCoderModel_51 o0 rfl d_MessageCoderModel_append_34 ?_
      refine x_ifN_eq hC d_MessageCoderModel_append_37 (tgt := 42) (by decide) (by omega) (fun c_37 => ?_) (fun c_37 => ?_)
      · skip
        exact absurd c_37 (by omega)
      · skip
        refine x_iconst hC d_MessageCoderModel_append_40 (v := nI 0) (by decide) ?_
        refine hret _ _ _ _ _ _ _ d_MessageCoderModel_append_41 (by decide) (by decide) rfl ?_
        have c9 : 32 ≤ c ∧ c ≤ 126 := (ap_iff hcb).mp c_9
        have c8 : ¬ pn < 60 := by omega
        have e1 : (if (32 ≤ c ∧ c ≤ 126) ∧ pn < 60 then setI (A, S, past, (pn, psg), (lnn, lsg), sv, pp, un, ep, fc) (pn + 1) (updN psg pn c) else (A, S, past, (pn, psg), (lnn, lsg), sv, pp, un, ep, fc)) = (A, S, past, (pn, psg), (lnn, lsg), sv, pp, un, ep, fc) := if_neg (fun h9 => c8 h9.2)
        have e2 : (if 32 ≤ c ∧ c ≤ 126 then if pn < 60 then 0 else 2 else 1) = 2 := (if_pos c9).trans (if_neg c8)
        exact ⟨congrArg (fun q => some (Value.int (nI q))) ((if_neg (fun h9 => c8 h9.2)).symm), rfl, (by show xMD _ m (if 32 ≤ c ∧ c ≤ 126 then if pn < 60 then 0 else 2 else 1) (if (32 ≤ c ∧ c ≤ 126) ∧ pn < 60 then setI (A, S, past, (pn, psg), (lnn, lsg), sv, pp, un, ep, fc) (pn + 1) (updN psg pn c) else (A, S, past, (pn, psg), (lnn, lsg), sv, pp, un, ep, fc)); rw [e1, e2]; exact ⟨_, _, _, _, _, _, _, _, _, _, _, _, _, _, _, _, _, o0, ga, h2, h3, h4, h5, h6, h7, h8, h9, hi, hcm, hg, hln, hip⟩), hag⟩
  · skip
    refine x_iconst hC d_MessageCoderModel_append_12 (v := nI 1) (by decide) ?_
    refine x_goto hC d_MessageCoderModel_append_13 (tgt := 30) (by decide) ?_
    refine x_putf hC kf_MessageCoderModel_51 o0 (Nat.le_of_ble_eq_true rfl) rfl rfl d_MessageCoderModel_append_30 (fs1 := [.int (nI 1), .ref (m + 1), .int (nI (un)), .int (nI (sv)), .int rs, .ref (m + 2), .ref (m + 3), .ref (m + 4), .ref (m + 5), .ref (m + 6), .int (nI (bm)), .ref (m + 7), .int (nI (dm)), .ref (m + 8), .ref (m + 9), .int (nI (lnn)), .ref (m + 10), .int (nI (pn)), .int (nI (he)), .int er, .int ep, .int fc, .ref (m + 11), .int (nI (cn))]) rfl ?_
    generalize e6 : xup F (m) (.inl (10, [.int (nI 1), .ref (m + 1), .int (nI (un)), .int (nI (sv)), .int rs, .ref (m + 2), .ref (m + 3), .ref (m + 4), .ref (m + 5), .ref (m + 6), .int (nI (bm)), .ref (m + 7), .int (nI (dm)), .ref (m + 8), .ref (m + 9), .int (nI (lnn)), .ref (m + 10), .int (nI (pn)), .int (nI (he)), .int er, .int ep, .int fc, .ref (m + 11), .int (nI (cn))])) = F6
    have o0 : F6 (m) = some (.inl (10, [.int (nI 1), .ref (m + 1), .int (nI (un)), .int (nI (sv)), .int rs, .ref (m + 2), .ref (m + 3), .ref (m + 4), .ref (m + 5), .ref (m + 6), .int (nI (bm)), .ref (m + 7), .int (nI (dm)), .ref (m + 8), .ref (m + 9), .int (nI (lnn)), .ref (m + 10), .int (nI (pn)), .int (nI (he)), .int er, .int ep, .int fc, .ref (m + 11), .int (nI (cn))])) := by rw [← e6]; exact xup_eq
    have ga : F6 (m + 1) = some (.inr (0, 4730, fun b9 => .int (nI (g b9)))) := by rw [← e6]; exact (xup_ne (by omega)).trans ga
    have h2 : F6 (m + 2) = some (.inr (0, 8, fun b9 => .int (nI (l2 b9)))) := by rw [← e6]; exact (xup_ne (by omega)).trans h2
    have h3 : F6 (m + 3) = some (.inr (0, 8, fun b9 => .int (nI (v3 b9)))) := by rw [← e6]; exact (xup_ne (by omega)).trans h3
    have h4 : F6 (m + 4) = some (.inr (0, 8, fun b9 => .int (nI (r4 b9)))) := by rw [← e6]; exact (xup_ne (by omega)).trans h4
    have h5 : F6 (m + 5) = some (.inr (0, 8, fun b9 => .int (nI (w5 b9)))) := by rw [← e6]; exact (xup_ne (by omega)).trans h5
    have h6 : F6 (m + 6) = some (.inr (0, 112, fun b9 => .int (nI (b6 b9)))) := by rw [← e6]; exact (xup_ne (by omega)).trans h6
    have h7 : F6 (m + 7) = some (.inr (0, 16, fun b9 => .int (nI (d7 b9)))) := by rw [← e6]; exact (xup_ne (by omega)).trans h7
    have h8 : F6 (m + 8) = some (.inr (0, 17, fun b9 => .int (nI (b8 b9)))) := by rw [← e6]; exact (xup_ne (by omega)).trans h8
    have h9 : F6 (m + 9) = some (.inr (1, 40, fun b9 => .int (nI (ln b9)))) := by rw [← e6]; exact (xup_ne (by omega)).trans h9
    have hi : F6 (m + 10) = some (.inr (1, 60, fun b9 => .int (nI (ip b9)))) := by rw [← e6]; exact (xup_ne (by omega)).trans hi
    have hcm : F6 (m + 11) = some (.inr (0, 183, fun b9 => .int (nI (cs b9)))) := by rw [← e6]; exact (xup_ne (by omega)).trans hcm
    have hag : ∀ a9 : Nat, (a9 < m ∨ m + 12 ≤ a9) → F6 a9 = F a9 := fun a9 q0 => by rw [← e6]; exact (xup_ne (by omega)).trans (hag a9 q0)
    refine x_aload_n hC d_MessageCoderModel_append_33 rfl rfl ?_
    refine x_getf hC kf_MessageCoderModel_51 o0 rfl d_MessageCoderModel_append_34 ?_
    refine x_ifN_eq hC d_MessageCoderModel_append_37 (tgt := 42) (by decide) (by omega) (fun c_37 => ?_) (fun c_37 => ?_)
    · skip
      exact absurd c_37 (by omega)
    · skip
      refine x_iconst hC d_MessageCoderModel_append_40 (v := nI 0) (by decide) ?_
      refine hret _ _ _ _ _ _ _ d_MessageCoderModel_append_41 (by decide) (by decide) rfl ?_
      have c9 : ¬ (32 ≤ c ∧ c ≤ 126) := fun h => c_9 ((ap_iff hcb).mpr h)
      have e1 : (if (32 ≤ c ∧ c ≤ 126) ∧ pn < 60 then setI (A, S, past, (pn, psg), (lnn, lsg), sv, pp, un, ep, fc) (pn + 1) (updN psg pn c) else (A, S, past, (pn, psg), (lnn, lsg), sv, pp, un, ep, fc)) = (A, S, past, (pn, psg), (lnn, lsg), sv, pp, un, ep, fc) := if_neg (fun h9 => c9 h9.1)
      have e2 : (if 32 ≤ c ∧ c ≤ 126 then if pn < 60 then 0 else 2 else 1) = 1 := if_neg c9
      exact ⟨congrArg (fun q => some (Value.int (nI q))) ((if_neg (fun h9 => c9 h9.1)).symm), rfl, (by show xMD _ m (if 32 ≤ c ∧ c ≤ 126 then if pn < 60 then 0 else 2 else 1) (if (32 ≤ c ∧ c ≤ 126) ∧ pn < 60 then setI (A, S, past, (pn, psg), (lnn, lsg), sv, pp, un, ep, fc) (pn + 1) (updN psg pn c) else (A, S, past, (pn, psg), (lnn, lsg), sv, pp, un, ep, fc)); rw [e1, e2]; exact ⟨_, _, _, _, _, _, _, _, _, _, _, _, _, _, _, _, _, o0, ga, h2, h3, h4, h5, h6, h7, h8, h9, hi, hcm, hg, hln, hip⟩), hag⟩

theorem d_MessageCoderModel_lineChar_0 : decode prog_14_method_104_code 0 = .ok (.aload_n 0, 1) := by decide +kernel
theorem d_MessageCoderModel_lineChar_1 : decode prog_14_method_104_code 1 = .ok (.iload_n 1, 1) := by decide +kernel
theorem d_MessageCoderModel_lineChar_2 : decode prog_14_method_104_code 2 = .ok (.iconst 0, 1) := by decide +kernel
theorem d_MessageCoderModel_lineChar_3 : decode prog_14_method_104_code 3 = .ok (.aload_n 0, 1) := by decide +kernel
theorem d_MessageCoderModel_lineChar_4 : decode prog_14_method_104_code 4 = .ok (.getfield 227, 3) := by decide +kernel
theorem d_MessageCoderModel_lineChar_7 : decode prog_14_method_104_code 7 = .ok (.iconst 1, 1) := by decide +kernel
theorem d_MessageCoderModel_lineChar_8 : decode prog_14_method_104_code 8 = .ok (.isub, 1) := by decide +kernel
theorem d_MessageCoderModel_lineChar_9 : decode prog_14_method_104_code 9 = .ok (.invokestatic 64, 3) := by decide +kernel
theorem d_MessageCoderModel_lineChar_12 : decode prog_14_method_104_code 12 = .ok (.invokevirtual 195, 3) := by decide +kernel
theorem d_MessageCoderModel_lineChar_15 : decode prog_14_method_104_code 15 = .ok (.ifCond .eq 12, 3) := by decide +kernel
theorem d_MessageCoderModel_lineChar_18 : decode prog_14_method_104_code 18 = .ok (.aload_n 0, 1) := by decide +kernel
theorem d_MessageCoderModel_lineChar_19 : decode prog_14_method_104_code 19 = .ok (.getfield 34, 3) := by decide +kernel
theorem d_MessageCoderModel_lineChar_22 : decode prog_14_method_104_code 22 = .ok (.iload_n 1, 1) := by decide +kernel
theorem d_MessageCoderModel_lineChar_23 : decode prog_14_method_104_code 23 = .ok (.caload, 1) := by decide +kernel
theorem d_MessageCoderModel_lineChar_24 : decode prog_14_method_104_code 24 = .ok (.goto 4, 3) := by decide +kernel
theorem d_MessageCoderModel_lineChar_27 : decode prog_14_method_104_code 27 = .ok (.iconst 0, 1) := by decide +kernel
theorem d_MessageCoderModel_lineChar_28 : decode prog_14_method_104_code 28 = .ok (.ireturn, 1) := by decide +kernel
set_option maxHeartbeats 4000000 in
set_option maxRecDepth 20000 in
theorem c_MessageCoderModel_lineChar {P : xP} {F : xF} {z : Nat} {m : Nat} {th0 : Nat} {M : mcS} {i : Int32} (hD : xMD F (m) (th0) (M)) (hI : mInv M) : xM P xy_MessageCoderModel_lineChar [.ref m, .int i] F (z) 0 0 (fun r9 F9 z9 => r9 = some (.int (nI (if 0 ≤ i ∧ i < nI M.2.2.2.2.1.1 then M.2.2.2.2.1.2 i.toNatClampNeg else 0))) ∧ z9 = z ∧ xMD F9 (m) ((if 0 ≤ i ∧ i < nI M.2.2.2.2.1.1 then 0 else 1)) (M) ∧ (∀ a9 : Nat, (a9 < m ∨ m + 12 ≤ a9) → F9 a9 = F a9)) := by
  refine xM_i .char rfl (Nat.le_of_ble_eq_true rfl) (L0 := [some (.ref m), some (.int i)]) rfl rfl fun Θ hC hret => ?_
  have hag : ∀ a9 : Nat, (a9 < m ∨ m + 12 ≤ a9) → F a9 = F a9 := fun a9 _ => rfl
  obtain ⟨A, S, past, ⟨pn, psg⟩, ⟨lnn, lsg⟩, sv, pp, un, ep, fc⟩ := M
  obtain ⟨rs, er, bm, dm, he, cn, g, l2, v3, r4, w5, b6, d7, b8, ln, ip, cs, o0, ga, h2, h3, h4, h5, h6, h7, h8, h9, hi, hcm, hg, hln, hip⟩ := id hD
  obtain ⟨iA, iP, iS, hu8, hup, hs1, hty, hlz, hic, hlc⟩ := id hI
  have o0 : F (m) = some (.inl (10, [.int (nI (th0)), .ref (m + 1), .int (nI (un)), .int (nI (sv)), .int rs, .ref (m + 2), .ref (m + 3), .ref (m + 4), .ref (m + 5), .ref (m + 6), .int (nI (bm)), .ref (m + 7), .int (nI (dm)), .ref (m + 8), .ref (m + 9), .int (nI (lnn)), .ref (m + 10), .int (nI (pn)), .int (nI (he)), .int er, .int ep, .int fc, .ref (m + 11), .int (nI (cn))])) := o0
  have ga : F (m + 1) = some (.inr (0, 4730, fun b9 => .int (nI (g b9)))) := ga
  have h2 : F (m + 2) = some (.inr (0, 8, fun b9 => .int (nI (l2 b9)))) := h2
  have h3 : F (m + 3) = some (.inr (0, 8, fun b9 => .int (nI (v3 b9)))) := h3
  have h4 : F (m + 4) = some (.inr (0, 8, fun b9 => .int (nI (r4 b9)))) := h4
  have h5 : F (m + 5) = some (.inr (0, 8, fun b9 => .int (nI (w5 b9)))) := h5
  have h6 : F (m + 6) = some (.inr (0, 112, fun b9 => .int (nI (b6 b9)))) := h6
  have h7 : F (m + 7) = some (.inr (0, 16, fun b9 => .int (nI (d7 b9)))) := h7
  have h8 : F (m + 8) = some (.inr (0, 17, fun b9 => .int (nI (b8 b9)))) := h8
  have h9 : F (m + 9) = some (.inr (1, 40, fun b9 => .int (nI (ln b9)))) := h9
  have hi : F (m + 10) = some (.inr (1, 60, fun b9 => .int (nI (ip b9)))) := hi
  have hcm : F (m + 11) = some (.inr (0, 183, fun b9 => .int (nI (cs b9)))) := hcm
  have hln : ∀ j, j < lnn → ln j = lsg j := hln
  have hip : ∀ j, j < pn → ip j = psg j := hip
  have iA : aInv A := iA
  have hu8 : un ≤ 8 := hu8
  have hup : un ≤ pp := hup
  have hs1 : sv ≤ 1 := hs1
  have hty : pn ≤ 60 := hty
  have hlz : lnn ≤ 32 := hlz
  have hr : rRow g A := hg.1
  refine x_aload_n hC d_MessageCoderModel_lineChar_0 rfl rfl ?_
  refine x_iload_n hC d_MessageCoderModel_lineChar_1 rfl rfl ?_
  refine x_iconst hC d_MessageCoderModel_lineChar_2 (v := nI 0) (by decide) ?_
  refine x_aload_n hC d_MessageCoderModel_lineChar_3 rfl rfl ?_
  refine x_getf hC kf_MessageCoderModel_227 o0 rfl d_MessageCoderModel_lineChar_4 ?_
  refine x_iconst hC d_MessageCoderModel_lineChar_7 (v := nI 1) (by decide) ?_
  refine x_isub hC d_MessageCoderModel_lineChar_8 (v := (nI lnn - nI 1)) rfl ?_
  refine x_callS hC ks_MessageCoderModel_64 (c_MessageCoderModel_in ) (by decide) rfl rfl rfl (Nat.le_of_ble_eq_true rfl) (by decide) d_MessageCoderModel_lineChar_9 (fun r9 F9 z9 hp9 => ?_)
  obtain ⟨rfl, h9b, h9c⟩ := hp9
  rw [h9b, h9c]
  clear h9b h9c F9 z9
  refine x_top (v := (xb (0 ≤ i ∧ i < nI lnn))) (xb_c (fl_iff (by omega))) ?_
  refine x_callV hC kv_MessageCoderModel_195 (c_MessageCoderModel_isFine (o0 := o0)) o0 rfl rfl (by decide) rfl rfl rfl (Nat.le_of_ble_eq_true rfl) (by decide) d_MessageCoderModel_lineChar_12 (fun r9 F9 z9 hp9 => ?_)
  obtain ⟨rfl, h9c, j0, hag9⟩ := hp9
  rw [h9c]
  clear h9c z9
  generalize F9 = F1 at *
  have ga : F1 (m + 1) = some (.inr (0, 4730, fun b9 => .int (nI (g b9)))) := (hag9 _ (by omega)).trans ga
  have h2 : F1 (m + 2) = some (.inr (0, 8, fun b9 => .int (nI (l2 b9)))) := (hag9 _ (by omega)).trans h2
  have h3 : F1 (m + 3) = some (.inr (0, 8, fun b9 => .int (nI (v3 b9)))) := (hag9 _ (by omega)).trans h3
  have h4 : F1 (m + 4) = some (.inr (0, 8, fun b9 => .int (nI (r4 b9)))) := (hag9 _ (by omega)).trans h4
  have h5 : F1 (m + 5) = some (.inr (0, 8, fun b9 => .int (nI (w5 b9)))) := (hag9 _ (by omega)).trans h5
  have h6 : F1 (m + 6) = some (.inr (0, 112, fun b9 => .int (nI (b6 b9)))) := (hag9 _ (by omega)).trans h6
  have h7 : F1 (m + 7) = some (.inr (0, 16, fun b9 => .int (nI (d7 b9)))) := (hag9 _ (by omega)).trans h7
  have h8 : F1 (m + 8) = some (.inr (0, 17, fun b9 => .int (nI (b8 b9)))) := (hag9 _ (by omega)).trans h8
  have h9 : F1 (m + 9) = some (.inr (1, 40, fun b9 => .int (nI (ln b9)))) := (hag9 _ (by omega)).trans h9
  have hi : F1 (m + 10) = some (.inr (1, 60, fun b9 => .int (nI (ip b9)))) := (hag9 _ (by omega)).trans hi
  have hcm : F1 (m + 11) = some (.inr (0, 183, fun b9 => .int (nI (cs b9)))) := (hag9 _ (by omega)).trans hcm
  have o0 : F1 (m) = some (.inl (10, [.int (nI ((if (0 ≤ i ∧ i < nI lnn) then 0 else 1))), .ref (m + 1), .int (nI (un)), .int (nI (sv)), .int rs, .ref (m + 2), .ref (m + 3), .ref (m + 4), .ref (m + 5), .ref (m + 6), .int (nI (bm)), .ref (m + 7), .int (nI (dm)), .ref (m + 8), .ref (m + 9), .int (nI (lnn)), .ref (m + 10), .int (nI (pn)), .int (nI (he)), .int er, .int ep, .int fc, .ref (m + 11), .int (nI (cn))])) := j0
  have hag : ∀ a9 : Nat, (a9 < m ∨ m + 12 ≤ a9) → F1 a9 = F a9 := fun a9 q0 => (hag9 a9 (by omega)).trans (hag a9 q0)
  have hg_12 := hag9
  clear hag9
  refine x_ifB_eq hC d_MessageCoderModel_lineChar_15 (tgt := 27) (by decide) (fun c_15 => ?_) (fun c_15 => ?_)
  · skip
    refine x_iconst hC d_MessageCoderModel_lineChar_27 (v := nI 0) (by decide) ?_
    exact hret _ _ _ _ _ _ _ d_MessageCoderModel_lineChar_28 (by decide) (by decide) (x_char _ (by omega)) (⟨congrArg (fun q => some (Value.int (nI q))) ((if_neg c_15).symm), rfl, ⟨_, _, _, _, _, _, _, _, _, _, _, _, _, _, _, _, _, o0, ga, h2, h3, h4, h5, h6, h7, h8, h9, hi, hcm, hg, hln, hip⟩, hag⟩)
  · skip
    have hie := i2n_of c_15.1
    have hi9 : i.toNatClampNeg < lnn := i2n_lt c_15.1 c_15.2 (by omega)
    have hl9 := hlc i.toNatClampNeg hi9
    have hl9 : lsg i.toNatClampNeg < 65536 := hl9
    refine x_aload_n hC d_MessageCoderModel_lineChar_18 rfl rfl ?_
    refine x_getf hC kf_MessageCoderModel_34 o0 rfl d_MessageCoderModel_lineChar_19 ?_
    refine x_iload_n hC d_MessageCoderModel_lineChar_22 rfl rfl ?_
    refine x_cald hC h9 (j := i.toNatClampNeg) ⟨hie, by omega, by omega⟩ (x := nI (lsg i.toNatClampNeg)) (congrArg nI (hln _ hi9)) d_MessageCoderModel_lineChar_23 ?_
    refine x_goto hC d_MessageCoderModel_lineChar_24 (tgt := 28) (by decide) ?_
    exact hret _ _ _ _ _ _ _ d_MessageCoderModel_lineChar_28 (by decide) (by decide) (x_char _ (by omega)) (⟨congrArg (fun q => some (Value.int (nI q))) ((if_pos c_15).symm), rfl, ⟨_, _, _, _, _, _, _, _, _, _, _, _, _, _, _, _, _, o0, ga, h2, h3, h4, h5, h6, h7, h8, h9, hi, hcm, hg, hln, hip⟩, hag⟩)

theorem d_MessageCoderModel_errorPosition_0 : decode prog_14_method_121_code 0 = .ok (.aload_n 0, 1) := by decide +kernel
theorem d_MessageCoderModel_errorPosition_1 : decode prog_14_method_121_code 1 = .ok (.aload_n 0, 1) := by decide +kernel
theorem d_MessageCoderModel_errorPosition_2 : decode prog_14_method_121_code 2 = .ok (.getfield 41, 3) := by decide +kernel
theorem d_MessageCoderModel_errorPosition_5 : decode prog_14_method_121_code 5 = .ok (.iconst (-1), 1) := by decide +kernel
theorem d_MessageCoderModel_errorPosition_6 : decode prog_14_method_121_code 6 = .ok (.if_icmp .eq 7, 3) := by decide +kernel
theorem d_MessageCoderModel_errorPosition_9 : decode prog_14_method_121_code 9 = .ok (.iconst 1, 1) := by decide +kernel
theorem d_MessageCoderModel_errorPosition_10 : decode prog_14_method_121_code 10 = .ok (.goto 4, 3) := by decide +kernel
theorem d_MessageCoderModel_errorPosition_13 : decode prog_14_method_121_code 13 = .ok (.iconst 0, 1) := by decide +kernel
theorem d_MessageCoderModel_errorPosition_14 : decode prog_14_method_121_code 14 = .ok (.invokevirtual 195, 3) := by decide +kernel
theorem d_MessageCoderModel_errorPosition_17 : decode prog_14_method_121_code 17 = .ok (.ifCond .eq 10, 3) := by decide +kernel
theorem d_MessageCoderModel_errorPosition_20 : decode prog_14_method_121_code 20 = .ok (.aload_n 0, 1) := by decide +kernel
theorem d_MessageCoderModel_errorPosition_21 : decode prog_14_method_121_code 21 = .ok (.getfield 41, 3) := by decide +kernel
theorem d_MessageCoderModel_errorPosition_24 : decode prog_14_method_121_code 24 = .ok (.goto 4, 3) := by decide +kernel
theorem d_MessageCoderModel_errorPosition_27 : decode prog_14_method_121_code 27 = .ok (.iconst 0, 1) := by decide +kernel
theorem d_MessageCoderModel_errorPosition_28 : decode prog_14_method_121_code 28 = .ok (.ireturn, 1) := by decide +kernel
set_option maxHeartbeats 4000000 in
set_option maxRecDepth 20000 in
theorem c_MessageCoderModel_errorPosition {P : xP} {F : xF} {z : Nat} {m : Nat} {th0 : Nat} {M : mcS} (hD : xMD F (m) (th0) (M)) (hI : mInv M) : xM P xy_MessageCoderModel_errorPosition [.ref m] F (z) 0 0 (fun r9 F9 z9 => r9 = some (.int (if ¬ M.2.2.2.2.2.2.2.2.1 = -1 then M.2.2.2.2.2.2.2.2.1 else nI 0)) ∧ z9 = z ∧ xMD F9 (m) ((if ¬ M.2.2.2.2.2.2.2.2.1 = -1 then 0 else 1)) (M) ∧ (∀ a9 : Nat, (a9 < m ∨ m + 12 ≤ a9) → F9 a9 = F a9)) := by
  refine xM_i .int rfl (Nat.le_of_ble_eq_true rfl) (L0 := [some (.ref m)]) rfl rfl fun Θ hC hret => ?_
  have hag : ∀ a9 : Nat, (a9 < m ∨ m + 12 ≤ a9) → F a9 = F a9 := fun a9 _ => rfl
  obtain ⟨A, S, past, ⟨pn, psg⟩, ⟨lnn, lsg⟩, sv, pp, un, ep, fc⟩ := M
  obtain ⟨rs, er, bm, dm, he, cn, g, l2, v3, r4, w5, b6, d7, b8, ln, ip, cs, o0, ga, h2, h3, h4, h5, h6, h7, h8, h9, hi, hcm, hg, hln, hip⟩ := id hD
  obtain ⟨iA, iP, iS, hu8, hup, hs1, hty, hlz, hic, hlc⟩ := id hI
  have o0 : F (m) = some (.inl (10, [.int (nI (th0)), .ref (m + 1), .int (nI (un)), .int (nI (sv)), .int rs, .ref (m + 2), .ref (m + 3), .ref (m + 4), .ref (m + 5), .ref (m + 6), .int (nI (bm)), .ref (m + 7), .int (nI (dm)), .ref (m + 8), .ref (m + 9), .int (nI (lnn)), .ref (m + 10), .int (nI (pn)), .int (nI (he)), .int er, .int ep, .int fc, .ref (m + 11), .int (nI (cn))])) := o0
  have ga : F (m + 1) = some (.inr (0, 4730, fun b9 => .int (nI (g b9)))) := ga
  have h2 : F (m + 2) = some (.inr (0, 8, fun b9 => .int (nI (l2 b9)))) := h2
  have h3 : F (m + 3) = some (.inr (0, 8, fun b9 => .int (nI (v3 b9)))) := h3
  have h4 : F (m + 4) = some (.inr (0, 8, fun b9 => .int (nI (r4 b9)))) := h4
  have h5 : F (m + 5) = some (.inr (0, 8, fun b9 => .int (nI (w5 b9)))) := h5
  have h6 : F (m + 6) = some (.inr (0, 112, fun b9 => .int (nI (b6 b9)))) := h6
  have h7 : F (m + 7) = some (.inr (0, 16, fun b9 => .int (nI (d7 b9)))) := h7
  have h8 : F (m + 8) = some (.inr (0, 17, fun b9 => .int (nI (b8 b9)))) := h8
  have h9 : F (m + 9) = some (.inr (1, 40, fun b9 => .int (nI (ln b9)))) := h9
  have hi : F (m + 10) = some (.inr (1, 60, fun b9 => .int (nI (ip b9)))) := hi
  have hcm : F (m + 11) = some (.inr (0, 183, fun b9 => .int (nI (cs b9)))) := hcm
  have hln : ∀ j, j < lnn → ln j = lsg j := hln
  have hip : ∀ j, j < pn → ip j = psg j := hip
  have iA : aInv A := iA
  have hu8 : un ≤ 8 := hu8
  have hup : un ≤ pp := hup
  have hs1 : sv ≤ 1 := hs1
  have hty : pn ≤ 60 := hty
  have hlz : lnn ≤ 32 := hlz
  have hr : rRow g A := hg.1
  refine x_aload_n hC d_MessageCoderModel_errorPosition_0 rfl rfl ?_
  refine x_aload_n hC d_MessageCoderModel_errorPosition_1 rfl rfl ?_
  refine x_getf hC kf_MessageCoderModel_41 o0 rfl d_MessageCoderModel_errorPosition_2 ?_
  refine x_iconst hC d_MessageCoderModel_errorPosition_5 (v := -1) (by decide) ?_
  refine x_icmp_eq hC d_MessageCoderModel_errorPosition_6 (tgt := 13) (by decide) (fun c_6 => ?_) (fun c_6 => ?_)
  · skip
    refine x_iconst hC d_MessageCoderModel_errorPosition_13 (v := nI 0) (by decide) ?_
    refine x_top (v := (xb (¬ ep = -1))) (xb_f0 (fun h9 => h9 c_6)) ?_
    refine x_callV hC kv_MessageCoderModel_195 (c_MessageCoderModel_isFine (o0 := o0)) o0 rfl rfl (by decide) rfl rfl rfl (Nat.le_of_ble_eq_true rfl) (by decide) d_MessageCoderModel_errorPosition_14 (fun r9 F9 z9 hp9 => ?_)
    obtain ⟨rfl, h9c, j0, hag9⟩ := hp9
    rw [h9c]
    clear h9c z9
    generalize F9 = F1 at *
    have ga : F1 (m + 1) = some (.inr (0, 4730, fun b9 => .int (nI (g b9)))) := (hag9 _ (by omega)).trans ga
    have h2 : F1 (m + 2) = some (.inr (0, 8, fun b9 => .int (nI (l2 b9)))) := (hag9 _ (by omega)).trans h2
    have h3 : F1 (m + 3) = some (.inr (0, 8, fun b9 => .int (nI (v3 b9)))) := (hag9 _ (by omega)).trans h3
    have h4 : F1 (m + 4) = some (.inr (0, 8, fun b9 => .int (nI (r4 b9)))) := (hag9 _ (by omega)).trans h4
    have h5 : F1 (m + 5) = some (.inr (0, 8, fun b9 => .int (nI (w5 b9)))) := (hag9 _ (by omega)).trans h5
    have h6 : F1 (m + 6) = some (.inr (0, 112, fun b9 => .int (nI (b6 b9)))) := (hag9 _ (by omega)).trans h6
    have h7 : F1 (m + 7) = some (.inr (0, 16, fun b9 => .int (nI (d7 b9)))) := (hag9 _ (by omega)).trans h7
    have h8 : F1 (m + 8) = some (.inr (0, 17, fun b9 => .int (nI (b8 b9)))) := (hag9 _ (by omega)).trans h8
    have h9 : F1 (m + 9) = some (.inr (1, 40, fun b9 => .int (nI (ln b9)))) := (hag9 _ (by omega)).trans h9
    have hi : F1 (m + 10) = some (.inr (1, 60, fun b9 => .int (nI (ip b9)))) := (hag9 _ (by omega)).trans hi
    have hcm : F1 (m + 11) = some (.inr (0, 183, fun b9 => .int (nI (cs b9)))) := (hag9 _ (by omega)).trans hcm
    have o0 : F1 (m) = some (.inl (10, [.int (nI ((if (¬ ep = -1) then 0 else 1))), .ref (m + 1), .int (nI (un)), .int (nI (sv)), .int rs, .ref (m + 2), .ref (m + 3), .ref (m + 4), .ref (m + 5), .ref (m + 6), .int (nI (bm)), .ref (m + 7), .int (nI (dm)), .ref (m + 8), .ref (m + 9), .int (nI (lnn)), .ref (m + 10), .int (nI (pn)), .int (nI (he)), .int er, .int ep, .int fc, .ref (m + 11), .int (nI (cn))])) := j0
    have hag : ∀ a9 : Nat, (a9 < m ∨ m + 12 ≤ a9) → F1 a9 = F a9 := fun a9 q0 => (hag9 a9 (by omega)).trans (hag a9 q0)
    have hg_14 := hag9
    clear hag9
    refine x_ifB_eq hC d_MessageCoderModel_errorPosition_17 (tgt := 27) (by decide) (fun c_17 => ?_) (fun c_17 => ?_)
    · skip
      refine x_iconst hC d_MessageCoderModel_errorPosition_27 (v := nI 0) (by decide) ?_
      exact hret _ _ _ _ _ _ _ d_MessageCoderModel_errorPosition_28 (by decide) (by decide) rfl (⟨congrArg (fun q => some (Value.int q)) ((if_neg c_17).symm), rfl, ⟨_, _, _, _, _, _, _, _, _, _, _, _, _, _, _, _, _, o0, ga, h2, h3, h4, h5, h6, h7, h8, h9, hi, hcm, hg, hln, hip⟩, hag⟩)
    · skip
      refine x_aload_n hC d_MessageCoderModel_errorPosition_20 rfl rfl ?_
      refine x_getf hC kf_MessageCoderModel_41 o0 rfl d_MessageCoderModel_errorPosition_21 ?_
      refine x_goto hC d_MessageCoderModel_errorPosition_24 (tgt := 28) (by decide) ?_
      exact hret _ _ _ _ _ _ _ d_MessageCoderModel_errorPosition_28 (by decide) (by decide) rfl (⟨congrArg (fun q => some (Value.int q)) ((if_pos c_17).symm), rfl, ⟨_, _, _, _, _, _, _, _, _, _, _, _, _, _, _, _, _, o0, ga, h2, h3, h4, h5, h6, h7, h8, h9, hi, hcm, hg, hln, hip⟩, hag⟩)
  · skip
    refine x_iconst hC d_MessageCoderModel_errorPosition_9 (v := nI 1) (by decide) ?_
    refine x_goto hC d_MessageCoderModel_errorPosition_10 (tgt := 14) (by decide) ?_
    refine x_top (v := (xb (¬ ep = -1))) (xb_t1 c_6) ?_
    refine x_callV hC kv_MessageCoderModel_195 (c_MessageCoderModel_isFine (o0 := o0)) o0 rfl rfl (by decide) rfl rfl rfl (Nat.le_of_ble_eq_true rfl) (by decide) d_MessageCoderModel_errorPosition_14 (fun r9 F9 z9 hp9 => ?_)
    obtain ⟨rfl, h9c, j0, hag9⟩ := hp9
    rw [h9c]
    clear h9c z9
    generalize F9 = F2 at *
    have ga : F2 (m + 1) = some (.inr (0, 4730, fun b9 => .int (nI (g b9)))) := (hag9 _ (by omega)).trans ga
    have h2 : F2 (m + 2) = some (.inr (0, 8, fun b9 => .int (nI (l2 b9)))) := (hag9 _ (by omega)).trans h2
    have h3 : F2 (m + 3) = some (.inr (0, 8, fun b9 => .int (nI (v3 b9)))) := (hag9 _ (by omega)).trans h3
    have h4 : F2 (m + 4) = some (.inr (0, 8, fun b9 => .int (nI (r4 b9)))) := (hag9 _ (by omega)).trans h4
    have h5 : F2 (m + 5) = some (.inr (0, 8, fun b9 => .int (nI (w5 b9)))) := (hag9 _ (by omega)).trans h5
    have h6 : F2 (m + 6) = some (.inr (0, 112, fun b9 => .int (nI (b6 b9)))) := (hag9 _ (by omega)).trans h6
    have h7 : F2 (m + 7) = some (.inr (0, 16, fun b9 => .int (nI (d7 b9)))) := (hag9 _ (by omega)).trans h7
    have h8 : F2 (m + 8) = some (.inr (0, 17, fun b9 => .int (nI (b8 b9)))) := (hag9 _ (by omega)).trans h8
    have h9 : F2 (m + 9) = some (.inr (1, 40, fun b9 => .int (nI (ln b9)))) := (hag9 _ (by omega)).trans h9
    have hi : F2 (m + 10) = some (.inr (1, 60, fun b9 => .int (nI (ip b9)))) := (hag9 _ (by omega)).trans hi
    have hcm : F2 (m + 11) = some (.inr (0, 183, fun b9 => .int (nI (cs b9)))) := (hag9 _ (by omega)).trans hcm
    have o0 : F2 (m) = some (.inl (10, [.int (nI ((if (¬ ep = -1) then 0 else 1))), .ref (m + 1), .int (nI (un)), .int (nI (sv)), .int rs, .ref (m + 2), .ref (m + 3), .ref (m + 4), .ref (m + 5), .ref (m + 6), .int (nI (bm)), .ref (m + 7), .int (nI (dm)), .ref (m + 8), .ref (m + 9), .int (nI (lnn)), .ref (m + 10), .int (nI (pn)), .int (nI (he)), .int er, .int ep, .int fc, .ref (m + 11), .int (nI (cn))])) := j0
    have hag : ∀ a9 : Nat, (a9 < m ∨ m + 12 ≤ a9) → F2 a9 = F a9 := fun a9 q0 => (hag9 a9 (by omega)).trans (hag a9 q0)
    have hg_14 := hag9
    clear hag9
    refine x_ifB_eq hC d_MessageCoderModel_errorPosition_17 (tgt := 27) (by decide) (fun c_17 => ?_) (fun c_17 => ?_)
    · skip
      refine x_iconst hC d_MessageCoderModel_errorPosition_27 (v := nI 0) (by decide) ?_
      exact hret _ _ _ _ _ _ _ d_MessageCoderModel_errorPosition_28 (by decide) (by decide) rfl (⟨congrArg (fun q => some (Value.int q)) ((if_neg c_17).symm), rfl, ⟨_, _, _, _, _, _, _, _, _, _, _, _, _, _, _, _, _, o0, ga, h2, h3, h4, h5, h6, h7, h8, h9, hi, hcm, hg, hln, hip⟩, hag⟩)
    · skip
      refine x_aload_n hC d_MessageCoderModel_errorPosition_20 rfl rfl ?_
      refine x_getf hC kf_MessageCoderModel_41 o0 rfl d_MessageCoderModel_errorPosition_21 ?_
      refine x_goto hC d_MessageCoderModel_errorPosition_24 (tgt := 28) (by decide) ?_
      exact hret _ _ _ _ _ _ _ d_MessageCoderModel_errorPosition_28 (by decide) (by decide) rfl (⟨congrArg (fun q => some (Value.int q)) ((if_pos c_17).symm), rfl, ⟨_, _, _, _, _, _, _, _, _, _, _, _, _, _, _, _, _, o0, ga, h2, h3, h4, h5, h6, h7, h8, h9, hi, hcm, hg, hln, hip⟩, hag⟩)

theorem d_MessageCoderModel_failedCommand_0 : decode prog_14_method_122_code 0 = .ok (.aload_n 0, 1) := by decide +kernel
theorem d_MessageCoderModel_failedCommand_1 : decode prog_14_method_122_code 1 = .ok (.aload_n 0, 1) := by decide +kernel
theorem d_MessageCoderModel_failedCommand_2 : decode prog_14_method_122_code 2 = .ok (.getfield 45, 3) := by decide +kernel
theorem d_MessageCoderModel_failedCommand_5 : decode prog_14_method_122_code 5 = .ok (.iconst (-1), 1) := by decide +kernel
theorem d_MessageCoderModel_failedCommand_6 : decode prog_14_method_122_code 6 = .ok (.if_icmp .eq 7, 3) := by decide +kernel
theorem d_MessageCoderModel_failedCommand_9 : decode prog_14_method_122_code 9 = .ok (.iconst 1, 1) := by decide +kernel
theorem d_MessageCoderModel_failedCommand_10 : decode prog_14_method_122_code 10 = .ok (.goto 4, 3) := by decide +kernel
theorem d_MessageCoderModel_failedCommand_13 : decode prog_14_method_122_code 13 = .ok (.iconst 0, 1) := by decide +kernel
theorem d_MessageCoderModel_failedCommand_14 : decode prog_14_method_122_code 14 = .ok (.invokevirtual 195, 3) := by decide +kernel
theorem d_MessageCoderModel_failedCommand_17 : decode prog_14_method_122_code 17 = .ok (.ifCond .eq 10, 3) := by decide +kernel
theorem d_MessageCoderModel_failedCommand_20 : decode prog_14_method_122_code 20 = .ok (.aload_n 0, 1) := by decide +kernel
theorem d_MessageCoderModel_failedCommand_21 : decode prog_14_method_122_code 21 = .ok (.getfield 45, 3) := by decide +kernel
theorem d_MessageCoderModel_failedCommand_24 : decode prog_14_method_122_code 24 = .ok (.goto 4, 3) := by decide +kernel
theorem d_MessageCoderModel_failedCommand_27 : decode prog_14_method_122_code 27 = .ok (.iconst 0, 1) := by decide +kernel
theorem d_MessageCoderModel_failedCommand_28 : decode prog_14_method_122_code 28 = .ok (.ireturn, 1) := by decide +kernel
set_option maxHeartbeats 4000000 in
set_option maxRecDepth 20000 in
theorem c_MessageCoderModel_failedCommand {P : xP} {F : xF} {z : Nat} {m : Nat} {th0 : Nat} {M : mcS} (hD : xMD F (m) (th0) (M)) (hI : mInv M) : xM P xy_MessageCoderModel_failedCommand [.ref m] F (z) 0 0 (fun r9 F9 z9 => r9 = some (.int (if ¬ M.2.2.2.2.2.2.2.2.2 = -1 then M.2.2.2.2.2.2.2.2.2 else nI 0)) ∧ z9 = z ∧ xMD F9 (m) ((if ¬ M.2.2.2.2.2.2.2.2.2 = -1 then 0 else 1)) (M) ∧ (∀ a9 : Nat, (a9 < m ∨ m + 12 ≤ a9) → F9 a9 = F a9)) := by
  refine xM_i .int rfl (Nat.le_of_ble_eq_true rfl) (L0 := [some (.ref m)]) rfl rfl fun Θ hC hret => ?_
  have hag : ∀ a9 : Nat, (a9 < m ∨ m + 12 ≤ a9) → F a9 = F a9 := fun a9 _ => rfl
  obtain ⟨A, S, past, ⟨pn, psg⟩, ⟨lnn, lsg⟩, sv, pp, un, ep, fc⟩ := M
  obtain ⟨rs, er, bm, dm, he, cn, g, l2, v3, r4, w5, b6, d7, b8, ln, ip, cs, o0, ga, h2, h3, h4, h5, h6, h7, h8, h9, hi, hcm, hg, hln, hip⟩ := id hD
  obtain ⟨iA, iP, iS, hu8, hup, hs1, hty, hlz, hic, hlc⟩ := id hI
  have o0 : F (m) = some (.inl (10, [.int (nI (th0)), .ref (m + 1), .int (nI (un)), .int (nI (sv)), .int rs, .ref (m + 2), .ref (m + 3), .ref (m + 4), .ref (m + 5), .ref (m + 6), .int (nI (bm)), .ref (m + 7), .int (nI (dm)), .ref (m + 8), .ref (m + 9), .int (nI (lnn)), .ref (m + 10), .int (nI (pn)), .int (nI (he)), .int er, .int ep, .int fc, .ref (m + 11), .int (nI (cn))])) := o0
  have ga : F (m + 1) = some (.inr (0, 4730, fun b9 => .int (nI (g b9)))) := ga
  have h2 : F (m + 2) = some (.inr (0, 8, fun b9 => .int (nI (l2 b9)))) := h2
  have h3 : F (m + 3) = some (.inr (0, 8, fun b9 => .int (nI (v3 b9)))) := h3
  have h4 : F (m + 4) = some (.inr (0, 8, fun b9 => .int (nI (r4 b9)))) := h4
  have h5 : F (m + 5) = some (.inr (0, 8, fun b9 => .int (nI (w5 b9)))) := h5
  have h6 : F (m + 6) = some (.inr (0, 112, fun b9 => .int (nI (b6 b9)))) := h6
  have h7 : F (m + 7) = some (.inr (0, 16, fun b9 => .int (nI (d7 b9)))) := h7
  have h8 : F (m + 8) = some (.inr (0, 17, fun b9 => .int (nI (b8 b9)))) := h8
  have h9 : F (m + 9) = some (.inr (1, 40, fun b9 => .int (nI (ln b9)))) := h9
  have hi : F (m + 10) = some (.inr (1, 60, fun b9 => .int (nI (ip b9)))) := hi
  have hcm : F (m + 11) = some (.inr (0, 183, fun b9 => .int (nI (cs b9)))) := hcm
  have hln : ∀ j, j < lnn → ln j = lsg j := hln
  have hip : ∀ j, j < pn → ip j = psg j := hip
  have iA : aInv A := iA
  have hu8 : un ≤ 8 := hu8
  have hup : un ≤ pp := hup
  have hs1 : sv ≤ 1 := hs1
  have hty : pn ≤ 60 := hty
  have hlz : lnn ≤ 32 := hlz
  have hr : rRow g A := hg.1
  refine x_aload_n hC d_MessageCoderModel_failedCommand_0 rfl rfl ?_
  refine x_aload_n hC d_MessageCoderModel_failedCommand_1 rfl rfl ?_
  refine x_getf hC kf_MessageCoderModel_45 o0 rfl d_MessageCoderModel_failedCommand_2 ?_
  refine x_iconst hC d_MessageCoderModel_failedCommand_5 (v := -1) (by decide) ?_
  refine x_icmp_eq hC d_MessageCoderModel_failedCommand_6 (tgt := 13) (by decide) (fun c_6 => ?_) (fun c_6 => ?_)
  · skip
    refine x_iconst hC d_MessageCoderModel_failedCommand_13 (v := nI 0) (by decide) ?_
    refine x_top (v := (xb (¬ fc = -1))) (xb_f0 (fun h9 => h9 c_6)) ?_
    refine x_callV hC kv_MessageCoderModel_195 (c_MessageCoderModel_isFine (o0 := o0)) o0 rfl rfl (by decide) rfl rfl rfl (Nat.le_of_ble_eq_true rfl) (by decide) d_MessageCoderModel_failedCommand_14 (fun r9 F9 z9 hp9 => ?_)
    obtain ⟨rfl, h9c, j0, hag9⟩ := hp9
    rw [h9c]
    clear h9c z9
    generalize F9 = F1 at *
    have ga : F1 (m + 1) = some (.inr (0, 4730, fun b9 => .int (nI (g b9)))) := (hag9 _ (by omega)).trans ga
    have h2 : F1 (m + 2) = some (.inr (0, 8, fun b9 => .int (nI (l2 b9)))) := (hag9 _ (by omega)).trans h2
    have h3 : F1 (m + 3) = some (.inr (0, 8, fun b9 => .int (nI (v3 b9)))) := (hag9 _ (by omega)).trans h3
    have h4 : F1 (m + 4) = some (.inr (0, 8, fun b9 => .int (nI (r4 b9)))) := (hag9 _ (by omega)).trans h4
    have h5 : F1 (m + 5) = some (.inr (0, 8, fun b9 => .int (nI (w5 b9)))) := (hag9 _ (by omega)).trans h5
    have h6 : F1 (m + 6) = some (.inr (0, 112, fun b9 => .int (nI (b6 b9)))) := (hag9 _ (by omega)).trans h6
    have h7 : F1 (m + 7) = some (.inr (0, 16, fun b9 => .int (nI (d7 b9)))) := (hag9 _ (by omega)).trans h7
    have h8 : F1 (m + 8) = some (.inr (0, 17, fun b9 => .int (nI (b8 b9)))) := (hag9 _ (by omega)).trans h8
    have h9 : F1 (m + 9) = some (.inr (1, 40, fun b9 => .int (nI (ln b9)))) := (hag9 _ (by omega)).trans h9
    have hi : F1 (m + 10) = some (.inr (1, 60, fun b9 => .int (nI (ip b9)))) := (hag9 _ (by omega)).trans hi
    have hcm : F1 (m + 11) = some (.inr (0, 183, fun b9 => .int (nI (cs b9)))) := (hag9 _ (by omega)).trans hcm
    have o0 : F1 (m) = some (.inl (10, [.int (nI ((if (¬ fc = -1) then 0 else 1))), .ref (m + 1), .int (nI (un)), .int (nI (sv)), .int rs, .ref (m + 2), .ref (m + 3), .ref (m + 4), .ref (m + 5), .ref (m + 6), .int (nI (bm)), .ref (m + 7), .int (nI (dm)), .ref (m + 8), .ref (m + 9), .int (nI (lnn)), .ref (m + 10), .int (nI (pn)), .int (nI (he)), .int er, .int ep, .int fc, .ref (m + 11), .int (nI (cn))])) := j0
    have hag : ∀ a9 : Nat, (a9 < m ∨ m + 12 ≤ a9) → F1 a9 = F a9 := fun a9 q0 => (hag9 a9 (by omega)).trans (hag a9 q0)
    have hg_14 := hag9
    clear hag9
    refine x_ifB_eq hC d_MessageCoderModel_failedCommand_17 (tgt := 27) (by decide) (fun c_17 => ?_) (fun c_17 => ?_)
    · skip
      refine x_iconst hC d_MessageCoderModel_failedCommand_27 (v := nI 0) (by decide) ?_
      exact hret _ _ _ _ _ _ _ d_MessageCoderModel_failedCommand_28 (by decide) (by decide) rfl (⟨congrArg (fun q => some (Value.int q)) ((if_neg c_17).symm), rfl, ⟨_, _, _, _, _, _, _, _, _, _, _, _, _, _, _, _, _, o0, ga, h2, h3, h4, h5, h6, h7, h8, h9, hi, hcm, hg, hln, hip⟩, hag⟩)
    · skip
      refine x_aload_n hC d_MessageCoderModel_failedCommand_20 rfl rfl ?_
      refine x_getf hC kf_MessageCoderModel_45 o0 rfl d_MessageCoderModel_failedCommand_21 ?_
      refine x_goto hC d_MessageCoderModel_failedCommand_24 (tgt := 28) (by decide) ?_
      exact hret _ _ _ _ _ _ _ d_MessageCoderModel_failedCommand_28 (by decide) (by decide) rfl (⟨congrArg (fun q => some (Value.int q)) ((if_pos c_17).symm), rfl, ⟨_, _, _, _, _, _, _, _, _, _, _, _, _, _, _, _, _, o0, ga, h2, h3, h4, h5, h6, h7, h8, h9, hi, hcm, hg, hln, hip⟩, hag⟩)
  · skip
    refine x_iconst hC d_MessageCoderModel_failedCommand_9 (v := nI 1) (by decide) ?_
    refine x_goto hC d_MessageCoderModel_failedCommand_10 (tgt := 14) (by decide) ?_
    refine x_top (v := (xb (¬ fc = -1))) (xb_t1 c_6) ?_
    refine x_callV hC kv_MessageCoderModel_195 (c_MessageCoderModel_isFine (o0 := o0)) o0 rfl rfl (by decide) rfl rfl rfl (Nat.le_of_ble_eq_true rfl) (by decide) d_MessageCoderModel_failedCommand_14 (fun r9 F9 z9 hp9 => ?_)
    obtain ⟨rfl, h9c, j0, hag9⟩ := hp9
    rw [h9c]
    clear h9c z9
    generalize F9 = F2 at *
    have ga : F2 (m + 1) = some (.inr (0, 4730, fun b9 => .int (nI (g b9)))) := (hag9 _ (by omega)).trans ga
    have h2 : F2 (m + 2) = some (.inr (0, 8, fun b9 => .int (nI (l2 b9)))) := (hag9 _ (by omega)).trans h2
    have h3 : F2 (m + 3) = some (.inr (0, 8, fun b9 => .int (nI (v3 b9)))) := (hag9 _ (by omega)).trans h3
    have h4 : F2 (m + 4) = some (.inr (0, 8, fun b9 => .int (nI (r4 b9)))) := (hag9 _ (by omega)).trans h4
    have h5 : F2 (m + 5) = some (.inr (0, 8, fun b9 => .int (nI (w5 b9)))) := (hag9 _ (by omega)).trans h5
    have h6 : F2 (m + 6) = some (.inr (0, 112, fun b9 => .int (nI (b6 b9)))) := (hag9 _ (by omega)).trans h6
    have h7 : F2 (m + 7) = some (.inr (0, 16, fun b9 => .int (nI (d7 b9)))) := (hag9 _ (by omega)).trans h7
    have h8 : F2 (m + 8) = some (.inr (0, 17, fun b9 => .int (nI (b8 b9)))) := (hag9 _ (by omega)).trans h8
    have h9 : F2 (m + 9) = some (.inr (1, 40, fun b9 => .int (nI (ln b9)))) := (hag9 _ (by omega)).trans h9
    have hi : F2 (m + 10) = some (.inr (1, 60, fun b9 => .int (nI (ip b9)))) := (hag9 _ (by omega)).trans hi
    have hcm : F2 (m + 11) = some (.inr (0, 183, fun b9 => .int (nI (cs b9)))) := (hag9 _ (by omega)).trans hcm
    have o0 : F2 (m) = some (.inl (10, [.int (nI ((if (¬ fc = -1) then 0 else 1))), .ref (m + 1), .int (nI (un)), .int (nI (sv)), .int rs, .ref (m + 2), .ref (m + 3), .ref (m + 4), .ref (m + 5), .ref (m + 6), .int (nI (bm)), .ref (m + 7), .int (nI (dm)), .ref (m + 8), .ref (m + 9), .int (nI (lnn)), .ref (m + 10), .int (nI (pn)), .int (nI (he)), .int er, .int ep, .int fc, .ref (m + 11), .int (nI (cn))])) := j0
    have hag : ∀ a9 : Nat, (a9 < m ∨ m + 12 ≤ a9) → F2 a9 = F a9 := fun a9 q0 => (hag9 a9 (by omega)).trans (hag a9 q0)
    have hg_14 := hag9
    clear hag9
    refine x_ifB_eq hC d_MessageCoderModel_failedCommand_17 (tgt := 27) (by decide) (fun c_17 => ?_) (fun c_17 => ?_)
    · skip
      refine x_iconst hC d_MessageCoderModel_failedCommand_27 (v := nI 0) (by decide) ?_
      exact hret _ _ _ _ _ _ _ d_MessageCoderModel_failedCommand_28 (by decide) (by decide) rfl (⟨congrArg (fun q => some (Value.int q)) ((if_neg c_17).symm), rfl, ⟨_, _, _, _, _, _, _, _, _, _, _, _, _, _, _, _, _, o0, ga, h2, h3, h4, h5, h6, h7, h8, h9, hi, hcm, hg, hln, hip⟩, hag⟩)
    · skip
      refine x_aload_n hC d_MessageCoderModel_failedCommand_20 rfl rfl ?_
      refine x_getf hC kf_MessageCoderModel_45 o0 rfl d_MessageCoderModel_failedCommand_21 ?_
      refine x_goto hC d_MessageCoderModel_failedCommand_24 (tgt := 28) (by decide) ?_
      exact hret _ _ _ _ _ _ _ d_MessageCoderModel_failedCommand_28 (by decide) (by decide) rfl (⟨congrArg (fun q => some (Value.int q)) ((if_pos c_17).symm), rfl, ⟨_, _, _, _, _, _, _, _, _, _, _, _, _, _, _, _, _, o0, ga, h2, h3, h4, h5, h6, h7, h8, h9, hi, hcm, hg, hln, hip⟩, hag⟩)

theorem d_MessageCoderModel_undoableCount_0 : decode prog_14_method_123_code 0 = .ok (.aload_n 0, 1) := by decide +kernel
theorem d_MessageCoderModel_undoableCount_1 : decode prog_14_method_123_code 1 = .ok (.iconst 0, 1) := by decide +kernel
theorem d_MessageCoderModel_undoableCount_2 : decode prog_14_method_123_code 2 = .ok (.putfield 51, 3) := by decide +kernel
theorem d_MessageCoderModel_undoableCount_5 : decode prog_14_method_123_code 5 = .ok (.aload_n 0, 1) := by decide +kernel
theorem d_MessageCoderModel_undoableCount_6 : decode prog_14_method_123_code 6 = .ok (.getfield 58, 3) := by decide +kernel
theorem d_MessageCoderModel_undoableCount_9 : decode prog_14_method_123_code 9 = .ok (.ireturn, 1) := by decide +kernel
set_option maxHeartbeats 4000000 in
set_option maxRecDepth 20000 in
theorem c_MessageCoderModel_undoableCount {P : xP} {F : xF} {z : Nat} {m : Nat} {th0 : Nat} {M : mcS} (hD : xMD F (m) (th0) (M)) (hI : mInv M) : xM P xy_MessageCoderModel_undoableCount [.ref m] F (z) 0 0 (fun r9 F9 z9 => r9 = some (.int (nI (M.2.2.2.2.2.2.2.1))) ∧ z9 = z ∧ xMD F9 (m) (0) (M) ∧ (∀ a9 : Nat, (a9 < m ∨ m + 12 ≤ a9) → F9 a9 = F a9)) := by
  refine xM_i .int rfl (Nat.le_of_ble_eq_true rfl) (L0 := [some (.ref m)]) rfl rfl fun Θ hC hret => ?_
  have hag : ∀ a9 : Nat, (a9 < m ∨ m + 12 ≤ a9) → F a9 = F a9 := fun a9 _ => rfl
  obtain ⟨A, S, past, ⟨pn, psg⟩, ⟨lnn, lsg⟩, sv, pp, un, ep, fc⟩ := M
  obtain ⟨rs, er, bm, dm, he, cn, g, l2, v3, r4, w5, b6, d7, b8, ln, ip, cs, o0, ga, h2, h3, h4, h5, h6, h7, h8, h9, hi, hcm, hg, hln, hip⟩ := id hD
  obtain ⟨iA, iP, iS, hu8, hup, hs1, hty, hlz, hic, hlc⟩ := id hI
  have o0 : F (m) = some (.inl (10, [.int (nI (th0)), .ref (m + 1), .int (nI (un)), .int (nI (sv)), .int rs, .ref (m + 2), .ref (m + 3), .ref (m + 4), .ref (m + 5), .ref (m + 6), .int (nI (bm)), .ref (m + 7), .int (nI (dm)), .ref (m + 8), .ref (m + 9), .int (nI (lnn)), .ref (m + 10), .int (nI (pn)), .int (nI (he)), .int er, .int ep, .int fc, .ref (m + 11), .int (nI (cn))])) := o0
  have ga : F (m + 1) = some (.inr (0, 4730, fun b9 => .int (nI (g b9)))) := ga
  have h2 : F (m + 2) = some (.inr (0, 8, fun b9 => .int (nI (l2 b9)))) := h2
  have h3 : F (m + 3) = some (.inr (0, 8, fun b9 => .int (nI (v3 b9)))) := h3
  have h4 : F (m + 4) = some (.inr (0, 8, fun b9 => .int (nI (r4 b9)))) := h4
  have h5 : F (m + 5) = some (.inr (0, 8, fun b9 => .int (nI (w5 b9)))) := h5
  have h6 : F (m + 6) = some (.inr (0, 112, fun b9 => .int (nI (b6 b9)))) := h6
  have h7 : F (m + 7) = some (.inr (0, 16, fun b9 => .int (nI (d7 b9)))) := h7
  have h8 : F (m + 8) = some (.inr (0, 17, fun b9 => .int (nI (b8 b9)))) := h8
  have h9 : F (m + 9) = some (.inr (1, 40, fun b9 => .int (nI (ln b9)))) := h9
  have hi : F (m + 10) = some (.inr (1, 60, fun b9 => .int (nI (ip b9)))) := hi
  have hcm : F (m + 11) = some (.inr (0, 183, fun b9 => .int (nI (cs b9)))) := hcm
  have hln : ∀ j, j < lnn → ln j = lsg j := hln
  have hip : ∀ j, j < pn → ip j = psg j := hip
  have iA : aInv A := iA
  have hu8 : un ≤ 8 := hu8
  have hup : un ≤ pp := hup
  have hs1 : sv ≤ 1 := hs1
  have hty : pn ≤ 60 := hty
  have hlz : lnn ≤ 32 := hlz
  have hr : rRow g A := hg.1
  refine x_aload_n hC d_MessageCoderModel_undoableCount_0 rfl rfl ?_
  refine x_iconst hC d_MessageCoderModel_undoableCount_1 (v := nI 0) (by decide) ?_
  refine x_putf hC kf_MessageCoderModel_51 o0 (Nat.le_of_ble_eq_true rfl) rfl rfl d_MessageCoderModel_undoableCount_2 (fs1 := [.int (nI 0), .ref (m + 1), .int (nI (un)), .int (nI (sv)), .int rs, .ref (m + 2), .ref (m + 3), .ref (m + 4), .ref (m + 5), .ref (m + 6), .int (nI (bm)), .ref (m + 7), .int (nI (dm)), .ref (m + 8), .ref (m + 9), .int (nI (lnn)), .ref (m + 10), .int (nI (pn)), .int (nI (he)), .int er, .int ep, .int fc, .ref (m + 11), .int (nI (cn))]) rfl ?_
  generalize e1 : xup F (m) (.inl (10, [.int (nI 0), .ref (m + 1), .int (nI (un)), .int (nI (sv)), .int rs, .ref (m + 2), .ref (m + 3), .ref (m + 4), .ref (m + 5), .ref (m + 6), .int (nI (bm)), .ref (m + 7), .int (nI (dm)), .ref (m + 8), .ref (m + 9), .int (nI (lnn)), .ref (m + 10), .int (nI (pn)), .int (nI (he)), .int er, .int ep, .int fc, .ref (m + 11), .int (nI (cn))])) = F1
  have o0 : F1 (m) = some (.inl (10, [.int (nI 0), .ref (m + 1), .int (nI (un)), .int (nI (sv)), .int rs, .ref (m + 2), .ref (m + 3), .ref (m + 4), .ref (m + 5), .ref (m + 6), .int (nI (bm)), .ref (m + 7), .int (nI (dm)), .ref (m + 8), .ref (m + 9), .int (nI (lnn)), .ref (m + 10), .int (nI (pn)), .int (nI (he)), .int er, .int ep, .int fc, .ref (m + 11), .int (nI (cn))])) := by rw [← e1]; exact xup_eq
  have ga : F1 (m + 1) = some (.inr (0, 4730, fun b9 => .int (nI (g b9)))) := by rw [← e1]; exact (xup_ne (by omega)).trans ga
  have h2 : F1 (m + 2) = some (.inr (0, 8, fun b9 => .int (nI (l2 b9)))) := by rw [← e1]; exact (xup_ne (by omega)).trans h2
  have h3 : F1 (m + 3) = some (.inr (0, 8, fun b9 => .int (nI (v3 b9)))) := by rw [← e1]; exact (xup_ne (by omega)).trans h3
  have h4 : F1 (m + 4) = some (.inr (0, 8, fun b9 => .int (nI (r4 b9)))) := by rw [← e1]; exact (xup_ne (by omega)).trans h4
  have h5 : F1 (m + 5) = some (.inr (0, 8, fun b9 => .int (nI (w5 b9)))) := by rw [← e1]; exact (xup_ne (by omega)).trans h5
  have h6 : F1 (m + 6) = some (.inr (0, 112, fun b9 => .int (nI (b6 b9)))) := by rw [← e1]; exact (xup_ne (by omega)).trans h6
  have h7 : F1 (m + 7) = some (.inr (0, 16, fun b9 => .int (nI (d7 b9)))) := by rw [← e1]; exact (xup_ne (by omega)).trans h7
  have h8 : F1 (m + 8) = some (.inr (0, 17, fun b9 => .int (nI (b8 b9)))) := by rw [← e1]; exact (xup_ne (by omega)).trans h8
  have h9 : F1 (m + 9) = some (.inr (1, 40, fun b9 => .int (nI (ln b9)))) := by rw [← e1]; exact (xup_ne (by omega)).trans h9
  have hi : F1 (m + 10) = some (.inr (1, 60, fun b9 => .int (nI (ip b9)))) := by rw [← e1]; exact (xup_ne (by omega)).trans hi
  have hcm : F1 (m + 11) = some (.inr (0, 183, fun b9 => .int (nI (cs b9)))) := by rw [← e1]; exact (xup_ne (by omega)).trans hcm
  have hag : ∀ a9 : Nat, (a9 < m ∨ m + 12 ≤ a9) → F1 a9 = F a9 := fun a9 q0 => by rw [← e1]; exact (xup_ne (by omega)).trans (hag a9 q0)
  refine x_aload_n hC d_MessageCoderModel_undoableCount_5 rfl rfl ?_
  refine x_getf hC kf_MessageCoderModel_58 o0 rfl d_MessageCoderModel_undoableCount_6 ?_
  exact hret _ _ _ _ _ _ _ d_MessageCoderModel_undoableCount_9 (by decide) (by decide) rfl (⟨rfl, rfl, ⟨_, _, _, _, _, _, _, _, _, _, _, _, _, _, _, _, _, o0, ga, h2, h3, h4, h5, h6, h7, h8, h9, hi, hcm, hg, hln, hip⟩, hag⟩)

theorem d_MessageCoderModel_weightOf_0 : decode prog_14_method_54_code 0 = .ok (.aload_n 0, 1) := by decide +kernel
theorem d_MessageCoderModel_weightOf_1 : decode prog_14_method_54_code 1 = .ok (.iload_n 1, 1) := by decide +kernel
theorem d_MessageCoderModel_weightOf_2 : decode prog_14_method_54_code 2 = .ok (.invokestatic 118, 3) := by decide +kernel
theorem d_MessageCoderModel_weightOf_5 : decode prog_14_method_54_code 5 = .ok (.invokevirtual 195, 3) := by decide +kernel
theorem d_MessageCoderModel_weightOf_8 : decode prog_14_method_54_code 8 = .ok (.ifCond .eq 18, 3) := by decide +kernel
theorem d_MessageCoderModel_weightOf_11 : decode prog_14_method_54_code 11 = .ok (.aload_n 0, 1) := by decide +kernel
theorem d_MessageCoderModel_weightOf_12 : decode prog_14_method_54_code 12 = .ok (.getfield 9, 3) := by decide +kernel
theorem d_MessageCoderModel_weightOf_15 : decode prog_14_method_54_code 15 = .ok (.bipush 10, 2) := by decide +kernel
theorem d_MessageCoderModel_weightOf_17 : decode prog_14_method_54_code 17 = .ok (.iload_n 1, 1) := by decide +kernel
theorem d_MessageCoderModel_weightOf_18 : decode prog_14_method_54_code 18 = .ok (.iadd, 1) := by decide +kernel
theorem d_MessageCoderModel_weightOf_19 : decode prog_14_method_54_code 19 = .ok (.bipush 97, 2) := by decide +kernel
theorem d_MessageCoderModel_weightOf_21 : decode prog_14_method_54_code 21 = .ok (.isub, 1) := by decide +kernel
theorem d_MessageCoderModel_weightOf_22 : decode prog_14_method_54_code 22 = .ok (.iaload, 1) := by decide +kernel
theorem d_MessageCoderModel_weightOf_23 : decode prog_14_method_54_code 23 = .ok (.goto 4, 3) := by decide +kernel
theorem d_MessageCoderModel_weightOf_26 : decode prog_14_method_54_code 26 = .ok (.iconst 0, 1) := by decide +kernel
theorem d_MessageCoderModel_weightOf_27 : decode prog_14_method_54_code 27 = .ok (.ireturn, 1) := by decide +kernel
set_option maxHeartbeats 4000000 in
set_option maxRecDepth 20000 in
theorem c_MessageCoderModel_weightOf {P : xP} {F : xF} {z : Nat} {m : Nat} {th0 : Nat} {M : mcS} {c : Nat} (hD : xMD F (m) (th0) (M)) (hI : mInv M) (hcb : c < 65536) : xM P xy_MessageCoderModel_weightOf [.ref m, .int (nI (c))] F (z) 0 0 (fun r9 F9 z9 => r9 = some (.int (nI (if 97 ≤ c ∧ c < 105 then M.1.1 (c - 97) else 0))) ∧ z9 = z ∧ xMD F9 (m) ((if 97 ≤ c ∧ c < 105 then 0 else 1)) (M) ∧ (∀ a9 : Nat, (a9 < m ∨ m + 12 ≤ a9) → F9 a9 = F a9)) := by
  refine xM_i .int rfl (Nat.le_of_ble_eq_true rfl) (L0 := [some (.ref m), some (.int (nI (c)))]) rfl rfl fun Θ hC hret => ?_
  have hag : ∀ a9 : Nat, (a9 < m ∨ m + 12 ≤ a9) → F a9 = F a9 := fun a9 _ => rfl
  obtain ⟨A, S, past, ⟨pn, psg⟩, ⟨lnn, lsg⟩, sv, pp, un, ep, fc⟩ := M
  obtain ⟨rs, er, bm, dm, he, cn, g, l2, v3, r4, w5, b6, d7, b8, ln, ip, cs, o0, ga, h2, h3, h4, h5, h6, h7, h8, h9, hi, hcm, hg, hln, hip⟩ := id hD
  obtain ⟨iA, iP, iS, hu8, hup, hs1, hty, hlz, hic, hlc⟩ := id hI
  have o0 : F (m) = some (.inl (10, [.int (nI (th0)), .ref (m + 1), .int (nI (un)), .int (nI (sv)), .int rs, .ref (m + 2), .ref (m + 3), .ref (m + 4), .ref (m + 5), .ref (m + 6), .int (nI (bm)), .ref (m + 7), .int (nI (dm)), .ref (m + 8), .ref (m + 9), .int (nI (lnn)), .ref (m + 10), .int (nI (pn)), .int (nI (he)), .int er, .int ep, .int fc, .ref (m + 11), .int (nI (cn))])) := o0
  have ga : F (m + 1) = some (.inr (0, 4730, fun b9 => .int (nI (g b9)))) := ga
  have h2 : F (m + 2) = some (.inr (0, 8, fun b9 => .int (nI (l2 b9)))) := h2
  have h3 : F (m + 3) = some (.inr (0, 8, fun b9 => .int (nI (v3 b9)))) := h3
  have h4 : F (m + 4) = some (.inr (0, 8, fun b9 => .int (nI (r4 b9)))) := h4
  have h5 : F (m + 5) = some (.inr (0, 8, fun b9 => .int (nI (w5 b9)))) := h5
  have h6 : F (m + 6) = some (.inr (0, 112, fun b9 => .int (nI (b6 b9)))) := h6
  have h7 : F (m + 7) = some (.inr (0, 16, fun b9 => .int (nI (d7 b9)))) := h7
  have h8 : F (m + 8) = some (.inr (0, 17, fun b9 => .int (nI (b8 b9)))) := h8
  have h9 : F (m + 9) = some (.inr (1, 40, fun b9 => .int (nI (ln b9)))) := h9
  have hi : F (m + 10) = some (.inr (1, 60, fun b9 => .int (nI (ip b9)))) := hi
  have hcm : F (m + 11) = some (.inr (0, 183, fun b9 => .int (nI (cs b9)))) := hcm
  have hln : ∀ j, j < lnn → ln j = lsg j := hln
  have hip : ∀ j, j < pn → ip j = psg j := hip
  have iA : aInv A := iA
  have hu8 : un ≤ 8 := hu8
  have hup : un ≤ pp := hup
  have hs1 : sv ≤ 1 := hs1
  have hty : pn ≤ 60 := hty
  have hlz : lnn ≤ 32 := hlz
  have hr : rRow g A := hg.1
  refine x_aload_n hC d_MessageCoderModel_weightOf_0 rfl rfl ?_
  refine x_iload_n hC d_MessageCoderModel_weightOf_1 rfl rfl ?_
  refine x_callS hC ks_MessageCoderModel_118 (c_MessageCoderModel_isSymbolN (hcb := hcb)) (by decide) rfl rfl rfl (Nat.le_of_ble_eq_true rfl) (by decide) d_MessageCoderModel_weightOf_2 (fun r9 F9 z9 hp9 => ?_)
  obtain ⟨rfl, h9b, h9c⟩ := hp9
  rw [h9b, h9c]
  clear h9b h9c F9 z9
  refine x_callV hC kv_MessageCoderModel_195 (c_MessageCoderModel_isFine (o0 := o0)) o0 rfl rfl (by decide) rfl rfl rfl (Nat.le_of_ble_eq_true rfl) (by decide) d_MessageCoderModel_weightOf_5 (fun r9 F9 z9 hp9 => ?_)
  obtain ⟨rfl, h9c, j0, hag9⟩ := hp9
  rw [h9c]
  clear h9c z9
  generalize F9 = F1 at *
  have ga : F1 (m + 1) = some (.inr (0, 4730, fun b9 => .int (nI (g b9)))) := (hag9 _ (by omega)).trans ga
  have h2 : F1 (m + 2) = some (.inr (0, 8, fun b9 => .int (nI (l2 b9)))) := (hag9 _ (by omega)).trans h2
  have h3 : F1 (m + 3) = some (.inr (0, 8, fun b9 => .int (nI (v3 b9)))) := (hag9 _ (by omega)).trans h3
  have h4 : F1 (m + 4) = some (.inr (0, 8, fun b9 => .int (nI (r4 b9)))) := (hag9 _ (by omega)).trans h4
  have h5 : F1 (m + 5) = some (.inr (0, 8, fun b9 => .int (nI (w5 b9)))) := (hag9 _ (by omega)).trans h5
  have h6 : F1 (m + 6) = some (.inr (0, 112, fun b9 => .int (nI (b6 b9)))) := (hag9 _ (by omega)).trans h6
  have h7 : F1 (m + 7) = some (.inr (0, 16, fun b9 => .int (nI (d7 b9)))) := (hag9 _ (by omega)).trans h7
  have h8 : F1 (m + 8) = some (.inr (0, 17, fun b9 => .int (nI (b8 b9)))) := (hag9 _ (by omega)).trans h8
  have h9 : F1 (m + 9) = some (.inr (1, 40, fun b9 => .int (nI (ln b9)))) := (hag9 _ (by omega)).trans h9
  have hi : F1 (m + 10) = some (.inr (1, 60, fun b9 => .int (nI (ip b9)))) := (hag9 _ (by omega)).trans hi
  have hcm : F1 (m + 11) = some (.inr (0, 183, fun b9 => .int (nI (cs b9)))) := (hag9 _ (by omega)).trans hcm
  have o0 : F1 (m) = some (.inl (10, [.int (nI ((if (97 ≤ c ∧ c < 105) then 0 else 1))), .ref (m + 1), .int (nI (un)), .int (nI (sv)), .int rs, .ref (m + 2), .ref (m + 3), .ref (m + 4), .ref (m + 5), .ref (m + 6), .int (nI (bm)), .ref (m + 7), .int (nI (dm)), .ref (m + 8), .ref (m + 9), .int (nI (lnn)), .ref (m + 10), .int (nI (pn)), .int (nI (he)), .int er, .int ep, .int fc, .ref (m + 11), .int (nI (cn))])) := j0
  have hag : ∀ a9 : Nat, (a9 < m ∨ m + 12 ≤ a9) → F1 a9 = F a9 := fun a9 q0 => (hag9 a9 (by omega)).trans (hag a9 q0)
  have hg_5 := hag9
  clear hag9
  refine x_ifB_eq hC d_MessageCoderModel_weightOf_8 (tgt := 26) (by decide) (fun c_8 => ?_) (fun c_8 => ?_)
  · skip
    refine x_iconst hC d_MessageCoderModel_weightOf_26 (v := nI 0) (by decide) ?_
    exact hret _ _ _ _ _ _ _ d_MessageCoderModel_weightOf_27 (by decide) (by decide) rfl (⟨congrArg (fun q => some (Value.int (nI q))) ((if_neg c_8).symm), rfl, ⟨_, _, _, _, _, _, _, _, _, _, _, _, _, _, _, _, _, o0, ga, h2, h3, h4, h5, h6, h7, h8, h9, hi, hcm, hg, hln, hip⟩, hag⟩)
  · skip
    refine x_aload_n hC d_MessageCoderModel_weightOf_11 rfl rfl ?_
    refine x_getf hC kf_MessageCoderModel_9 o0 rfl d_MessageCoderModel_weightOf_12 ?_
    refine x_bipush hC d_MessageCoderModel_weightOf_15 (v := nI 10) (by decide) ?_
    refine x_iload_n hC d_MessageCoderModel_weightOf_17 rfl rfl ?_
    refine x_iadd hC d_MessageCoderModel_weightOf_18 (v := (nI (10 + c))) (x_addN (by omega)) ?_
    refine x_bipush hC d_MessageCoderModel_weightOf_19 (v := nI 97) (by decide) ?_
    refine x_isub hC d_MessageCoderModel_weightOf_21 (v := (nI ((10 + c) - 97))) (pk_sub (by omega)) ?_
    refine x_iald hC ga (j := (10 + c) - 97) ⟨rfl, by omega, by omega⟩ (x := nI (A.1 (c - 97))) (congrArg nI (by rw [show 10 + c - 97 = 10 + (c - 97) by omega]; exact hr.2.1 _ (by omega))) d_MessageCoderModel_weightOf_22 ?_
    refine x_goto hC d_MessageCoderModel_weightOf_23 (tgt := 27) (by decide) ?_
    exact hret _ _ _ _ _ _ _ d_MessageCoderModel_weightOf_27 (by decide) (by decide) rfl (⟨congrArg (fun q => some (Value.int (nI q))) ((if_pos c_8).symm), rfl, ⟨_, _, _, _, _, _, _, _, _, _, _, _, _, _, _, _, _, o0, ga, h2, h3, h4, h5, h6, h7, h8, h9, hi, hcm, hg, hln, hip⟩, hag⟩)

theorem d_MessageCoderModel_totalWeight_0 : decode prog_14_method_55_code 0 = .ok (.aload_n 0, 1) := by decide +kernel
theorem d_MessageCoderModel_totalWeight_1 : decode prog_14_method_55_code 1 = .ok (.iconst 0, 1) := by decide +kernel
theorem d_MessageCoderModel_totalWeight_2 : decode prog_14_method_55_code 2 = .ok (.putfield 51, 3) := by decide +kernel
theorem d_MessageCoderModel_totalWeight_5 : decode prog_14_method_55_code 5 = .ok (.aload_n 0, 1) := by decide +kernel
theorem d_MessageCoderModel_totalWeight_6 : decode prog_14_method_55_code 6 = .ok (.invokevirtual 158, 3) := by decide +kernel
theorem d_MessageCoderModel_totalWeight_9 : decode prog_14_method_55_code 9 = .ok (.ireturn, 1) := by decide +kernel
set_option maxHeartbeats 4000000 in
set_option maxRecDepth 20000 in
theorem c_MessageCoderModel_totalWeight {P : xP} {F : xF} {z : Nat} {m : Nat} {th0 : Nat} {M : mcS} (hD : xMD F (m) (th0) (M)) (hI : mInv M) : xM P xy_MessageCoderModel_totalWeight [.ref m] F (z) 0 0 (fun r9 F9 z9 => r9 = some (.int (nI (sumN M.1.1 8))) ∧ z9 = z ∧ xMD F9 (m) (0) (M) ∧ (∀ a9 : Nat, (a9 < m ∨ m + 12 ≤ a9) → F9 a9 = F a9)) := by
  refine xM_i .int rfl (Nat.le_of_ble_eq_true rfl) (L0 := [some (.ref m)]) rfl rfl fun Θ hC hret => ?_
  have hag : ∀ a9 : Nat, (a9 < m ∨ m + 12 ≤ a9) → F a9 = F a9 := fun a9 _ => rfl
  obtain ⟨A, S, past, ⟨pn, psg⟩, ⟨lnn, lsg⟩, sv, pp, un, ep, fc⟩ := M
  obtain ⟨rs, er, bm, dm, he, cn, g, l2, v3, r4, w5, b6, d7, b8, ln, ip, cs, o0, ga, h2, h3, h4, h5, h6, h7, h8, h9, hi, hcm, hg, hln, hip⟩ := id hD
  obtain ⟨iA, iP, iS, hu8, hup, hs1, hty, hlz, hic, hlc⟩ := id hI
  have o0 : F (m) = some (.inl (10, [.int (nI (th0)), .ref (m + 1), .int (nI (un)), .int (nI (sv)), .int rs, .ref (m + 2), .ref (m + 3), .ref (m + 4), .ref (m + 5), .ref (m + 6), .int (nI (bm)), .ref (m + 7), .int (nI (dm)), .ref (m + 8), .ref (m + 9), .int (nI (lnn)), .ref (m + 10), .int (nI (pn)), .int (nI (he)), .int er, .int ep, .int fc, .ref (m + 11), .int (nI (cn))])) := o0
  have ga : F (m + 1) = some (.inr (0, 4730, fun b9 => .int (nI (g b9)))) := ga
  have h2 : F (m + 2) = some (.inr (0, 8, fun b9 => .int (nI (l2 b9)))) := h2
  have h3 : F (m + 3) = some (.inr (0, 8, fun b9 => .int (nI (v3 b9)))) := h3
  have h4 : F (m + 4) = some (.inr (0, 8, fun b9 => .int (nI (r4 b9)))) := h4
  have h5 : F (m + 5) = some (.inr (0, 8, fun b9 => .int (nI (w5 b9)))) := h5
  have h6 : F (m + 6) = some (.inr (0, 112, fun b9 => .int (nI (b6 b9)))) := h6
  have h7 : F (m + 7) = some (.inr (0, 16, fun b9 => .int (nI (d7 b9)))) := h7
  have h8 : F (m + 8) = some (.inr (0, 17, fun b9 => .int (nI (b8 b9)))) := h8
  have h9 : F (m + 9) = some (.inr (1, 40, fun b9 => .int (nI (ln b9)))) := h9
  have hi : F (m + 10) = some (.inr (1, 60, fun b9 => .int (nI (ip b9)))) := hi
  have hcm : F (m + 11) = some (.inr (0, 183, fun b9 => .int (nI (cs b9)))) := hcm
  have hln : ∀ j, j < lnn → ln j = lsg j := hln
  have hip : ∀ j, j < pn → ip j = psg j := hip
  have iA : aInv A := iA
  have hu8 : un ≤ 8 := hu8
  have hup : un ≤ pp := hup
  have hs1 : sv ≤ 1 := hs1
  have hty : pn ≤ 60 := hty
  have hlz : lnn ≤ 32 := hlz
  have hr : rRow g A := hg.1
  refine x_aload_n hC d_MessageCoderModel_totalWeight_0 rfl rfl ?_
  refine x_iconst hC d_MessageCoderModel_totalWeight_1 (v := nI 0) (by decide) ?_
  refine x_putf hC kf_MessageCoderModel_51 o0 (Nat.le_of_ble_eq_true rfl) rfl rfl d_MessageCoderModel_totalWeight_2 (fs1 := [.int (nI 0), .ref (m + 1), .int (nI (un)), .int (nI (sv)), .int rs, .ref (m + 2), .ref (m + 3), .ref (m + 4), .ref (m + 5), .ref (m + 6), .int (nI (bm)), .ref (m + 7), .int (nI (dm)), .ref (m + 8), .ref (m + 9), .int (nI (lnn)), .ref (m + 10), .int (nI (pn)), .int (nI (he)), .int er, .int ep, .int fc, .ref (m + 11), .int (nI (cn))]) rfl ?_
  generalize e1 : xup F (m) (.inl (10, [.int (nI 0), .ref (m + 1), .int (nI (un)), .int (nI (sv)), .int rs, .ref (m + 2), .ref (m + 3), .ref (m + 4), .ref (m + 5), .ref (m + 6), .int (nI (bm)), .ref (m + 7), .int (nI (dm)), .ref (m + 8), .ref (m + 9), .int (nI (lnn)), .ref (m + 10), .int (nI (pn)), .int (nI (he)), .int er, .int ep, .int fc, .ref (m + 11), .int (nI (cn))])) = F1
  have o0 : F1 (m) = some (.inl (10, [.int (nI 0), .ref (m + 1), .int (nI (un)), .int (nI (sv)), .int rs, .ref (m + 2), .ref (m + 3), .ref (m + 4), .ref (m + 5), .ref (m + 6), .int (nI (bm)), .ref (m + 7), .int (nI (dm)), .ref (m + 8), .ref (m + 9), .int (nI (lnn)), .ref (m + 10), .int (nI (pn)), .int (nI (he)), .int er, .int ep, .int fc, .ref (m + 11), .int (nI (cn))])) := by rw [← e1]; exact xup_eq
  have ga : F1 (m + 1) = some (.inr (0, 4730, fun b9 => .int (nI (g b9)))) := by rw [← e1]; exact (xup_ne (by omega)).trans ga
  have h2 : F1 (m + 2) = some (.inr (0, 8, fun b9 => .int (nI (l2 b9)))) := by rw [← e1]; exact (xup_ne (by omega)).trans h2
  have h3 : F1 (m + 3) = some (.inr (0, 8, fun b9 => .int (nI (v3 b9)))) := by rw [← e1]; exact (xup_ne (by omega)).trans h3
  have h4 : F1 (m + 4) = some (.inr (0, 8, fun b9 => .int (nI (r4 b9)))) := by rw [← e1]; exact (xup_ne (by omega)).trans h4
  have h5 : F1 (m + 5) = some (.inr (0, 8, fun b9 => .int (nI (w5 b9)))) := by rw [← e1]; exact (xup_ne (by omega)).trans h5
  have h6 : F1 (m + 6) = some (.inr (0, 112, fun b9 => .int (nI (b6 b9)))) := by rw [← e1]; exact (xup_ne (by omega)).trans h6
  have h7 : F1 (m + 7) = some (.inr (0, 16, fun b9 => .int (nI (d7 b9)))) := by rw [← e1]; exact (xup_ne (by omega)).trans h7
  have h8 : F1 (m + 8) = some (.inr (0, 17, fun b9 => .int (nI (b8 b9)))) := by rw [← e1]; exact (xup_ne (by omega)).trans h8
  have h9 : F1 (m + 9) = some (.inr (1, 40, fun b9 => .int (nI (ln b9)))) := by rw [← e1]; exact (xup_ne (by omega)).trans h9
  have hi : F1 (m + 10) = some (.inr (1, 60, fun b9 => .int (nI (ip b9)))) := by rw [← e1]; exact (xup_ne (by omega)).trans hi
  have hcm : F1 (m + 11) = some (.inr (0, 183, fun b9 => .int (nI (cs b9)))) := by rw [← e1]; exact (xup_ne (by omega)).trans hcm
  have hag : ∀ a9 : Nat, (a9 < m ∨ m + 12 ≤ a9) → F1 a9 = F a9 := fun a9 q0 => by rw [← e1]; exact (xup_ne (by omega)).trans (hag a9 q0)
  refine x_aload_n hC d_MessageCoderModel_totalWeight_5 rfl rfl ?_
  refine x_callV hC kv_MessageCoderModel_158 (c_MessageCoderModel_total (o0 := o0) (ga := ga) (hw := hr.2.1) (hw9 := fun j hj => (iA.2.1 j hj).2) (w := A.1)) o0 rfl rfl (by decide) rfl rfl rfl (Nat.le_of_ble_eq_true rfl) (by decide) d_MessageCoderModel_totalWeight_6 (fun r9 F9 z9 hp9 => ?_)
  obtain ⟨rfl, h9b, h9c⟩ := hp9
  rw [h9b, h9c]
  clear h9b h9c F9 z9
  exact hret _ _ _ _ _ _ _ d_MessageCoderModel_totalWeight_9 (by decide) (by decide) rfl (⟨rfl, rfl, ⟨_, _, _, _, _, _, _, _, _, _, _, _, _, _, _, _, _, o0, ga, h2, h3, h4, h5, h6, h7, h8, h9, hi, hcm, hg, hln, hip⟩, hag⟩)

theorem d_MessageCoderModel_codeLength_0 : decode prog_14_method_56_code 0 = .ok (.aload_n 0, 1) := by decide +kernel
theorem d_MessageCoderModel_codeLength_1 : decode prog_14_method_56_code 1 = .ok (.invokevirtual 91, 3) := by decide +kernel
theorem d_MessageCoderModel_codeLength_4 : decode prog_14_method_56_code 4 = .ok (.aload_n 0, 1) := by decide +kernel
theorem d_MessageCoderModel_codeLength_5 : decode prog_14_method_56_code 5 = .ok (.iload_n 1, 1) := by decide +kernel
theorem d_MessageCoderModel_codeLength_6 : decode prog_14_method_56_code 6 = .ok (.invokestatic 118, 3) := by decide +kernel
theorem d_MessageCoderModel_codeLength_9 : decode prog_14_method_56_code 9 = .ok (.invokevirtual 195, 3) := by decide +kernel
theorem d_MessageCoderModel_codeLength_12 : decode prog_14_method_56_code 12 = .ok (.ifCond .eq 15, 3) := by decide +kernel
theorem d_MessageCoderModel_codeLength_15 : decode prog_14_method_56_code 15 = .ok (.aload_n 0, 1) := by decide +kernel
theorem d_MessageCoderModel_codeLength_16 : decode prog_14_method_56_code 16 = .ok (.getfield 13, 3) := by decide +kernel
theorem d_MessageCoderModel_codeLength_19 : decode prog_14_method_56_code 19 = .ok (.iload_n 1, 1) := by decide +kernel
theorem d_MessageCoderModel_codeLength_20 : decode prog_14_method_56_code 20 = .ok (.bipush 97, 2) := by decide +kernel
theorem d_MessageCoderModel_codeLength_22 : decode prog_14_method_56_code 22 = .ok (.isub, 1) := by decide +kernel
theorem d_MessageCoderModel_codeLength_23 : decode prog_14_method_56_code 23 = .ok (.iaload, 1) := by decide +kernel
theorem d_MessageCoderModel_codeLength_24 : decode prog_14_method_56_code 24 = .ok (.goto 4, 3) := by decide +kernel
theorem d_MessageCoderModel_codeLength_27 : decode prog_14_method_56_code 27 = .ok (.iconst 0, 1) := by decide +kernel
theorem d_MessageCoderModel_codeLength_28 : decode prog_14_method_56_code 28 = .ok (.ireturn, 1) := by decide +kernel
set_option maxHeartbeats 4000000 in
set_option maxRecDepth 20000 in
theorem c_MessageCoderModel_codeLength {P : xP} {F : xF} {z : Nat} {m : Nat} {th0 : Nat} {M : mcS} {c : Nat} (hD : xMD F (m) (th0) (M)) (hI : mInv M) (hcb : c < 65536) : xM P xy_MessageCoderModel_codeLength [.ref m, .int (nI (c))] F (z) 0 0 (fun r9 F9 z9 => r9 = some (.int (nI (if 97 ≤ c ∧ c < 105 then hLen M.1.1 (c - 97) else 0))) ∧ z9 = z ∧ xMD F9 (m) ((if 97 ≤ c ∧ c < 105 then 0 else 1)) (M) ∧ (∀ a9 : Nat, (a9 < m ∨ m + 12 ≤ a9) → F9 a9 = F a9)) := by
  refine xM_i .int rfl (Nat.le_of_ble_eq_true rfl) (L0 := [some (.ref m), some (.int (nI (c)))]) rfl rfl fun Θ hC hret => ?_
  have hag : ∀ a9 : Nat, (a9 < m ∨ m + 12 ≤ a9) → F a9 = F a9 := fun a9 _ => rfl
  obtain ⟨A, S, past, ⟨pn, psg⟩, ⟨lnn, lsg⟩, sv, pp, un, ep, fc⟩ := M
  obtain ⟨rs, er, bm, dm, he, cn, g, l2, v3, r4, w5, b6, d7, b8, ln, ip, cs, o0, ga, h2, h3, h4, h5, h6, h7, h8, h9, hi, hcm, hg, hln, hip⟩ := id hD
  obtain ⟨iA, iP, iS, hu8, hup, hs1, hty, hlz, hic, hlc⟩ := id hI
  have o0 : F (m) = some (.inl (10, [.int (nI (th0)), .ref (m + 1), .int (nI (un)), .int (nI (sv)), .int rs, .ref (m + 2), .ref (m + 3), .ref (m + 4), .ref (m + 5), .ref (m + 6), .int (nI (bm)), .ref (m + 7), .int (nI (dm)), .ref (m + 8), .ref (m + 9), .int (nI (lnn)), .ref (m + 10), .int (nI (pn)), .int (nI (he)), .int er, .int ep, .int fc, .ref (m + 11), .int (nI (cn))])) := o0
  have ga : F (m + 1) = some (.inr (0, 4730, fun b9 => .int (nI (g b9)))) := ga
  have h2 : F (m + 2) = some (.inr (0, 8, fun b9 => .int (nI (l2 b9)))) := h2
  have h3 : F (m + 3) = some (.inr (0, 8, fun b9 => .int (nI (v3 b9)))) := h3
  have h4 : F (m + 4) = some (.inr (0, 8, fun b9 => .int (nI (r4 b9)))) := h4
  have h5 : F (m + 5) = some (.inr (0, 8, fun b9 => .int (nI (w5 b9)))) := h5
  have h6 : F (m + 6) = some (.inr (0, 112, fun b9 => .int (nI (b6 b9)))) := h6
  have h7 : F (m + 7) = some (.inr (0, 16, fun b9 => .int (nI (d7 b9)))) := h7
  have h8 : F (m + 8) = some (.inr (0, 17, fun b9 => .int (nI (b8 b9)))) := h8
  have h9 : F (m + 9) = some (.inr (1, 40, fun b9 => .int (nI (ln b9)))) := h9
  have hi : F (m + 10) = some (.inr (1, 60, fun b9 => .int (nI (ip b9)))) := hi
  have hcm : F (m + 11) = some (.inr (0, 183, fun b9 => .int (nI (cs b9)))) := hcm
  have hln : ∀ j, j < lnn → ln j = lsg j := hln
  have hip : ∀ j, j < pn → ip j = psg j := hip
  have iA : aInv A := iA
  have hu8 : un ≤ 8 := hu8
  have hup : un ≤ pp := hup
  have hs1 : sv ≤ 1 := hs1
  have hty : pn ≤ 60 := hty
  have hlz : lnn ≤ 32 := hlz
  have hr : rRow g A := hg.1
  refine x_aload_n hC d_MessageCoderModel_codeLength_0 rfl rfl ?_
  refine x_callV hC kv_MessageCoderModel_91 (c_MessageCoderModel_codes (o0 := o0) (ga := ga) (h2 := h2) (h3 := h3) (h4 := h4) (h5 := h5) (hw := hr.2.1) (hw9 := fun j hj => (iA.2.1 j hj).2) (w := A.1)) o0 rfl rfl (by decide) rfl rfl rfl (Nat.le_of_ble_eq_true rfl) (by decide) d_MessageCoderModel_codeLength_1 (fun r9 F9 z9 hp9 => ?_)
  obtain ⟨ln1_1, vl1_1, gr1_1, gw1_1, rfl, h9c, j0, j1, j2, j3, j4, j5, pk_1, hag9⟩ := hp9
  rw [h9c]
  clear h9c z9
  generalize F9 = F1 at *
  have h6 : F1 (m + 6) = some (.inr (0, 112, fun b9 => .int (nI (b6 b9)))) := (hag9 _ (by omega)).trans h6
  have h7 : F1 (m + 7) = some (.inr (0, 16, fun b9 => .int (nI (d7 b9)))) := (hag9 _ (by omega)).trans h7
  have h8 : F1 (m + 8) = some (.inr (0, 17, fun b9 => .int (nI (b8 b9)))) := (hag9 _ (by omega)).trans h8
  have h9 : F1 (m + 9) = some (.inr (1, 40, fun b9 => .int (nI (ln b9)))) := (hag9 _ (by omega)).trans h9
  have hi : F1 (m + 10) = some (.inr (1, 60, fun b9 => .int (nI (ip b9)))) := (hag9 _ (by omega)).trans hi
  have hcm : F1 (m + 11) = some (.inr (0, 183, fun b9 => .int (nI (cs b9)))) := (hag9 _ (by omega)).trans hcm
  have o0 : F1 (m) = some (.inl (10, [.int (nI (th0)), .ref (m + 1), .int (nI (un)), .int (nI (sv)), .int rs, .ref (m + 2), .ref (m + 3), .ref (m + 4), .ref (m + 5), .ref (m + 6), .int (nI (bm)), .ref (m + 7), .int (nI (dm)), .ref (m + 8), .ref (m + 9), .int (nI (lnn)), .ref (m + 10), .int (nI (pn)), .int (nI (he)), .int er, .int ep, .int fc, .ref (m + 11), .int (nI (cn))])) := j0
  have ga : F1 (m + 1) = some (.inr (0, 4730, fun b9 => .int (nI (g b9)))) := j1
  have h2 : F1 (m + 2) = some (.inr (0, 8, fun b9 => .int (nI (ln1_1 b9)))) := j2
  have h3 : F1 (m + 3) = some (.inr (0, 8, fun b9 => .int (nI (vl1_1 b9)))) := j3
  have h4 : F1 (m + 4) = some (.inr (0, 8, fun b9 => .int (nI (gr1_1 b9)))) := j4
  have h5 : F1 (m + 5) = some (.inr (0, 8, fun b9 => .int (nI (gw1_1 b9)))) := j5
  have hag : ∀ a9 : Nat, (a9 < m ∨ m + 12 ≤ a9) → F1 a9 = F a9 := fun a9 q0 => (hag9 a9 (by omega)).trans (hag a9 q0)
  have hg_1 := hag9
  clear hag9
  refine x_aload_n hC d_MessageCoderModel_codeLength_4 rfl rfl ?_
  refine x_iload_n hC d_MessageCoderModel_codeLength_5 rfl rfl ?_
  refine x_callS hC ks_MessageCoderModel_118 (c_MessageCoderModel_isSymbolN (hcb := hcb)) (by decide) rfl rfl rfl (Nat.le_of_ble_eq_true rfl) (by decide) d_MessageCoderModel_codeLength_6 (fun r9 F9 z9 hp9 => ?_)
  obtain ⟨rfl, h9b, h9c⟩ := hp9
  rw [h9b, h9c]
  clear h9b h9c F9 z9
  refine x_callV hC kv_MessageCoderModel_195 (c_MessageCoderModel_isFine (o0 := o0)) o0 rfl rfl (by decide) rfl rfl rfl (Nat.le_of_ble_eq_true rfl) (by decide) d_MessageCoderModel_codeLength_9 (fun r9 F9 z9 hp9 => ?_)
  obtain ⟨rfl, h9c, j0, hag9⟩ := hp9
  rw [h9c]
  clear h9c z9
  generalize F9 = F2 at *
  have h6 : F2 (m + 6) = some (.inr (0, 112, fun b9 => .int (nI (b6 b9)))) := (hag9 _ (by omega)).trans h6
  have h7 : F2 (m + 7) = some (.inr (0, 16, fun b9 => .int (nI (d7 b9)))) := (hag9 _ (by omega)).trans h7
  have h8 : F2 (m + 8) = some (.inr (0, 17, fun b9 => .int (nI (b8 b9)))) := (hag9 _ (by omega)).trans h8
  have h9 : F2 (m + 9) = some (.inr (1, 40, fun b9 => .int (nI (ln b9)))) := (hag9 _ (by omega)).trans h9
  have hi : F2 (m + 10) = some (.inr (1, 60, fun b9 => .int (nI (ip b9)))) := (hag9 _ (by omega)).trans hi
  have hcm : F2 (m + 11) = some (.inr (0, 183, fun b9 => .int (nI (cs b9)))) := (hag9 _ (by omega)).trans hcm
  have ga : F2 (m + 1) = some (.inr (0, 4730, fun b9 => .int (nI (g b9)))) := (hag9 _ (by omega)).trans ga
  have h2 : F2 (m + 2) = some (.inr (0, 8, fun b9 => .int (nI (ln1_1 b9)))) := (hag9 _ (by omega)).trans h2
  have h3 : F2 (m + 3) = some (.inr (0, 8, fun b9 => .int (nI (vl1_1 b9)))) := (hag9 _ (by omega)).trans h3
  have h4 : F2 (m + 4) = some (.inr (0, 8, fun b9 => .int (nI (gr1_1 b9)))) := (hag9 _ (by omega)).trans h4
  have h5 : F2 (m + 5) = some (.inr (0, 8, fun b9 => .int (nI (gw1_1 b9)))) := (hag9 _ (by omega)).trans h5
  have o0 : F2 (m) = some (.inl (10, [.int (nI ((if (97 ≤ c ∧ c < 105) then 0 else 1))), .ref (m + 1), .int (nI (un)), .int (nI (sv)), .int rs, .ref (m + 2), .ref (m + 3), .ref (m + 4), .ref (m + 5), .ref (m + 6), .int (nI (bm)), .ref (m + 7), .int (nI (dm)), .ref (m + 8), .ref (m + 9), .int (nI (lnn)), .ref (m + 10), .int (nI (pn)), .int (nI (he)), .int er, .int ep, .int fc, .ref (m + 11), .int (nI (cn))])) := j0
  have hag : ∀ a9 : Nat, (a9 < m ∨ m + 12 ≤ a9) → F2 a9 = F a9 := fun a9 q0 => (hag9 a9 (by omega)).trans (hag a9 q0)
  have hg_9 := hag9
  clear hag9
  refine x_ifB_eq hC d_MessageCoderModel_codeLength_12 (tgt := 27) (by decide) (fun c_12 => ?_) (fun c_12 => ?_)
  · skip
    refine x_iconst hC d_MessageCoderModel_codeLength_27 (v := nI 0) (by decide) ?_
    exact hret _ _ _ _ _ _ _ d_MessageCoderModel_codeLength_28 (by decide) (by decide) rfl (⟨congrArg (fun q => some (Value.int (nI q))) ((if_neg c_12).symm), rfl, ⟨_, _, _, _, _, _, _, _, _, _, _, _, _, _, _, _, _, o0, ga, h2, h3, h4, h5, h6, h7, h8, h9, hi, hcm, hg, hln, hip⟩, hag⟩)
  · skip
    refine x_aload_n hC d_MessageCoderModel_codeLength_15 rfl rfl ?_
    refine x_getf hC kf_MessageCoderModel_13 o0 rfl d_MessageCoderModel_codeLength_16 ?_
    refine x_iload_n hC d_MessageCoderModel_codeLength_19 rfl rfl ?_
    refine x_bipush hC d_MessageCoderModel_codeLength_20 (v := nI 97) (by decide) ?_
    refine x_isub hC d_MessageCoderModel_codeLength_22 (v := (nI ((c) - 97))) (pk_sub (by omega)) ?_
    refine x_iald hC h2 (j := (c) - 97) ⟨rfl, by omega, by omega⟩ (x := nI (hLen A.1 (c - 97))) (congrArg nI (pk_1 _ (by omega)).1) d_MessageCoderModel_codeLength_23 ?_
    refine x_goto hC d_MessageCoderModel_codeLength_24 (tgt := 28) (by decide) ?_
    exact hret _ _ _ _ _ _ _ d_MessageCoderModel_codeLength_28 (by decide) (by decide) rfl (⟨congrArg (fun q => some (Value.int (nI q))) ((if_pos c_12).symm), rfl, ⟨_, _, _, _, _, _, _, _, _, _, _, _, _, _, _, _, _, o0, ga, h2, h3, h4, h5, h6, h7, h8, h9, hi, hcm, hg, hln, hip⟩, hag⟩)

theorem d_MessageCoderModel_codeValue_0 : decode prog_14_method_57_code 0 = .ok (.aload_n 0, 1) := by decide +kernel
theorem d_MessageCoderModel_codeValue_1 : decode prog_14_method_57_code 1 = .ok (.invokevirtual 91, 3) := by decide +kernel
theorem d_MessageCoderModel_codeValue_4 : decode prog_14_method_57_code 4 = .ok (.aload_n 0, 1) := by decide +kernel
theorem d_MessageCoderModel_codeValue_5 : decode prog_14_method_57_code 5 = .ok (.iload_n 1, 1) := by decide +kernel
theorem d_MessageCoderModel_codeValue_6 : decode prog_14_method_57_code 6 = .ok (.invokestatic 118, 3) := by decide +kernel
theorem d_MessageCoderModel_codeValue_9 : decode prog_14_method_57_code 9 = .ok (.invokevirtual 195, 3) := by decide +kernel
theorem d_MessageCoderModel_codeValue_12 : decode prog_14_method_57_code 12 = .ok (.ifCond .eq 15, 3) := by decide +kernel
theorem d_MessageCoderModel_codeValue_15 : decode prog_14_method_57_code 15 = .ok (.aload_n 0, 1) := by decide +kernel
theorem d_MessageCoderModel_codeValue_16 : decode prog_14_method_57_code 16 = .ok (.getfield 16, 3) := by decide +kernel
theorem d_MessageCoderModel_codeValue_19 : decode prog_14_method_57_code 19 = .ok (.iload_n 1, 1) := by decide +kernel
theorem d_MessageCoderModel_codeValue_20 : decode prog_14_method_57_code 20 = .ok (.bipush 97, 2) := by decide +kernel
theorem d_MessageCoderModel_codeValue_22 : decode prog_14_method_57_code 22 = .ok (.isub, 1) := by decide +kernel
theorem d_MessageCoderModel_codeValue_23 : decode prog_14_method_57_code 23 = .ok (.iaload, 1) := by decide +kernel
theorem d_MessageCoderModel_codeValue_24 : decode prog_14_method_57_code 24 = .ok (.goto 4, 3) := by decide +kernel
theorem d_MessageCoderModel_codeValue_27 : decode prog_14_method_57_code 27 = .ok (.iconst 0, 1) := by decide +kernel
theorem d_MessageCoderModel_codeValue_28 : decode prog_14_method_57_code 28 = .ok (.ireturn, 1) := by decide +kernel
set_option maxHeartbeats 4000000 in
set_option maxRecDepth 20000 in
theorem c_MessageCoderModel_codeValue {P : xP} {F : xF} {z : Nat} {m : Nat} {th0 : Nat} {M : mcS} {c : Nat} (hD : xMD F (m) (th0) (M)) (hI : mInv M) (hcb : c < 65536) : xM P xy_MessageCoderModel_codeValue [.ref m, .int (nI (c))] F (z) 0 0 (fun r9 F9 z9 => r9 = some (.int (nI (if 97 ≤ c ∧ c < 105 then hVal (hLen M.1.1) (c - 97) else 0))) ∧ z9 = z ∧ xMD F9 (m) ((if 97 ≤ c ∧ c < 105 then 0 else 1)) (M) ∧ (∀ a9 : Nat, (a9 < m ∨ m + 12 ≤ a9) → F9 a9 = F a9)) := by
  refine xM_i .int rfl (Nat.le_of_ble_eq_true rfl) (L0 := [some (.ref m), some (.int (nI (c)))]) rfl rfl fun Θ hC hret => ?_
  have hag : ∀ a9 : Nat, (a9 < m ∨ m + 12 ≤ a9) → F a9 = F a9 := fun a9 _ => rfl
  obtain ⟨A, S, past, ⟨pn, psg⟩, ⟨lnn, lsg⟩, sv, pp, un, ep, fc⟩ := M
  obtain ⟨rs, er, bm, dm, he, cn, g, l2, v3, r4, w5, b6, d7, b8, ln, ip, cs, o0, ga, h2, h3, h4, h5, h6, h7, h8, h9, hi, hcm, hg, hln, hip⟩ := id hD
  obtain ⟨iA, iP, iS, hu8, hup, hs1, hty, hlz, hic, hlc⟩ := id hI
  have o0 : F (m) = some (.inl (10, [.int (nI (th0)), .ref (m + 1), .int (nI (un)), .int (nI (sv)), .int rs, .ref (m + 2), .ref (m + 3), .ref (m + 4), .ref (m + 5), .ref (m + 6), .int (nI (bm)), .ref (m + 7), .int (nI (dm)), .ref (m + 8), .ref (m + 9), .int (nI (lnn)), .ref (m + 10), .int (nI (pn)), .int (nI (he)), .int er, .int ep, .int fc, .ref (m + 11), .int (nI (cn))])) := o0
  have ga : F (m + 1) = some (.inr (0, 4730, fun b9 => .int (nI (g b9)))) := ga
  have h2 : F (m + 2) = some (.inr (0, 8, fun b9 => .int (nI (l2 b9)))) := h2
  have h3 : F (m + 3) = some (.inr (0, 8, fun b9 => .int (nI (v3 b9)))) := h3
  have h4 : F (m + 4) = some (.inr (0, 8, fun b9 => .int (nI (r4 b9)))) := h4
  have h5 : F (m + 5) = some (.inr (0, 8, fun b9 => .int (nI (w5 b9)))) := h5
  have h6 : F (m + 6) = some (.inr (0, 112, fun b9 => .int (nI (b6 b9)))) := h6
  have h7 : F (m + 7) = some (.inr (0, 16, fun b9 => .int (nI (d7 b9)))) := h7
  have h8 : F (m + 8) = some (.inr (0, 17, fun b9 => .int (nI (b8 b9)))) := h8
  have h9 : F (m + 9) = some (.inr (1, 40, fun b9 => .int (nI (ln b9)))) := h9
  have hi : F (m + 10) = some (.inr (1, 60, fun b9 => .int (nI (ip b9)))) := hi
  have hcm : F (m + 11) = some (.inr (0, 183, fun b9 => .int (nI (cs b9)))) := hcm
  have hln : ∀ j, j < lnn → ln j = lsg j := hln
  have hip : ∀ j, j < pn → ip j = psg j := hip
  have iA : aInv A := iA
  have hu8 : un ≤ 8 := hu8
  have hup : un ≤ pp := hup
  have hs1 : sv ≤ 1 := hs1
  have hty : pn ≤ 60 := hty
  have hlz : lnn ≤ 32 := hlz
  have hr : rRow g A := hg.1
  refine x_aload_n hC d_MessageCoderModel_codeValue_0 rfl rfl ?_
  refine x_callV hC kv_MessageCoderModel_91 (c_MessageCoderModel_codes (o0 := o0) (ga := ga) (h2 := h2) (h3 := h3) (h4 := h4) (h5 := h5) (hw := hr.2.1) (hw9 := fun j hj => (iA.2.1 j hj).2) (w := A.1)) o0 rfl rfl (by decide) rfl rfl rfl (Nat.le_of_ble_eq_true rfl) (by decide) d_MessageCoderModel_codeValue_1 (fun r9 F9 z9 hp9 => ?_)
  obtain ⟨ln1_1, vl1_1, gr1_1, gw1_1, rfl, h9c, j0, j1, j2, j3, j4, j5, pk_1, hag9⟩ := hp9
  rw [h9c]
  clear h9c z9
  generalize F9 = F1 at *
  have h6 : F1 (m + 6) = some (.inr (0, 112, fun b9 => .int (nI (b6 b9)))) := (hag9 _ (by omega)).trans h6
  have h7 : F1 (m + 7) = some (.inr (0, 16, fun b9 => .int (nI (d7 b9)))) := (hag9 _ (by omega)).trans h7
  have h8 : F1 (m + 8) = some (.inr (0, 17, fun b9 => .int (nI (b8 b9)))) := (hag9 _ (by omega)).trans h8
  have h9 : F1 (m + 9) = some (.inr (1, 40, fun b9 => .int (nI (ln b9)))) := (hag9 _ (by omega)).trans h9
  have hi : F1 (m + 10) = some (.inr (1, 60, fun b9 => .int (nI (ip b9)))) := (hag9 _ (by omega)).trans hi
  have hcm : F1 (m + 11) = some (.inr (0, 183, fun b9 => .int (nI (cs b9)))) := (hag9 _ (by omega)).trans hcm
  have o0 : F1 (m) = some (.inl (10, [.int (nI (th0)), .ref (m + 1), .int (nI (un)), .int (nI (sv)), .int rs, .ref (m + 2), .ref (m + 3), .ref (m + 4), .ref (m + 5), .ref (m + 6), .int (nI (bm)), .ref (m + 7), .int (nI (dm)), .ref (m + 8), .ref (m + 9), .int (nI (lnn)), .ref (m + 10), .int (nI (pn)), .int (nI (he)), .int er, .int ep, .int fc, .ref (m + 11), .int (nI (cn))])) := j0
  have ga : F1 (m + 1) = some (.inr (0, 4730, fun b9 => .int (nI (g b9)))) := j1
  have h2 : F1 (m + 2) = some (.inr (0, 8, fun b9 => .int (nI (ln1_1 b9)))) := j2
  have h3 : F1 (m + 3) = some (.inr (0, 8, fun b9 => .int (nI (vl1_1 b9)))) := j3
  have h4 : F1 (m + 4) = some (.inr (0, 8, fun b9 => .int (nI (gr1_1 b9)))) := j4
  have h5 : F1 (m + 5) = some (.inr (0, 8, fun b9 => .int (nI (gw1_1 b9)))) := j5
  have hag : ∀ a9 : Nat, (a9 < m ∨ m + 12 ≤ a9) → F1 a9 = F a9 := fun a9 q0 => (hag9 a9 (by omega)).trans (hag a9 q0)
  have hg_1 := hag9
  clear hag9
  refine x_aload_n hC d_MessageCoderModel_codeValue_4 rfl rfl ?_
  refine x_iload_n hC d_MessageCoderModel_codeValue_5 rfl rfl ?_
  refine x_callS hC ks_MessageCoderModel_118 (c_MessageCoderModel_isSymbolN (hcb := hcb)) (by decide) rfl rfl rfl (Nat.le_of_ble_eq_true rfl) (by decide) d_MessageCoderModel_codeValue_6 (fun r9 F9 z9 hp9 => ?_)
  obtain ⟨rfl, h9b, h9c⟩ := hp9
  rw [h9b, h9c]
  clear h9b h9c F9 z9
  refine x_callV hC kv_MessageCoderModel_195 (c_MessageCoderModel_isFine (o0 := o0)) o0 rfl rfl (by decide) rfl rfl rfl (Nat.le_of_ble_eq_true rfl) (by decide) d_MessageCoderModel_codeValue_9 (fun r9 F9 z9 hp9 => ?_)
  obtain ⟨rfl, h9c, j0, hag9⟩ := hp9
  rw [h9c]
  clear h9c z9
  generalize F9 = F2 at *
  have h6 : F2 (m + 6) = some (.inr (0, 112, fun b9 => .int (nI (b6 b9)))) := (hag9 _ (by omega)).trans h6
  have h7 : F2 (m + 7) = some (.inr (0, 16, fun b9 => .int (nI (d7 b9)))) := (hag9 _ (by omega)).trans h7
  have h8 : F2 (m + 8) = some (.inr (0, 17, fun b9 => .int (nI (b8 b9)))) := (hag9 _ (by omega)).trans h8
  have h9 : F2 (m + 9) = some (.inr (1, 40, fun b9 => .int (nI (ln b9)))) := (hag9 _ (by omega)).trans h9
  have hi : F2 (m + 10) = some (.inr (1, 60, fun b9 => .int (nI (ip b9)))) := (hag9 _ (by omega)).trans hi
  have hcm : F2 (m + 11) = some (.inr (0, 183, fun b9 => .int (nI (cs b9)))) := (hag9 _ (by omega)).trans hcm
  have ga : F2 (m + 1) = some (.inr (0, 4730, fun b9 => .int (nI (g b9)))) := (hag9 _ (by omega)).trans ga
  have h2 : F2 (m + 2) = some (.inr (0, 8, fun b9 => .int (nI (ln1_1 b9)))) := (hag9 _ (by omega)).trans h2
  have h3 : F2 (m + 3) = some (.inr (0, 8, fun b9 => .int (nI (vl1_1 b9)))) := (hag9 _ (by omega)).trans h3
  have h4 : F2 (m + 4) = some (.inr (0, 8, fun b9 => .int (nI (gr1_1 b9)))) := (hag9 _ (by omega)).trans h4
  have h5 : F2 (m + 5) = some (.inr (0, 8, fun b9 => .int (nI (gw1_1 b9)))) := (hag9 _ (by omega)).trans h5
  have o0 : F2 (m) = some (.inl (10, [.int (nI ((if (97 ≤ c ∧ c < 105) then 0 else 1))), .ref (m + 1), .int (nI (un)), .int (nI (sv)), .int rs, .ref (m + 2), .ref (m + 3), .ref (m + 4), .ref (m + 5), .ref (m + 6), .int (nI (bm)), .ref (m + 7), .int (nI (dm)), .ref (m + 8), .ref (m + 9), .int (nI (lnn)), .ref (m + 10), .int (nI (pn)), .int (nI (he)), .int er, .int ep, .int fc, .ref (m + 11), .int (nI (cn))])) := j0
  have hag : ∀ a9 : Nat, (a9 < m ∨ m + 12 ≤ a9) → F2 a9 = F a9 := fun a9 q0 => (hag9 a9 (by omega)).trans (hag a9 q0)
  have hg_9 := hag9
  clear hag9
  refine x_ifB_eq hC d_MessageCoderModel_codeValue_12 (tgt := 27) (by decide) (fun c_12 => ?_) (fun c_12 => ?_)
  · skip
    refine x_iconst hC d_MessageCoderModel_codeValue_27 (v := nI 0) (by decide) ?_
    exact hret _ _ _ _ _ _ _ d_MessageCoderModel_codeValue_28 (by decide) (by decide) rfl (⟨congrArg (fun q => some (Value.int (nI q))) ((if_neg c_12).symm), rfl, ⟨_, _, _, _, _, _, _, _, _, _, _, _, _, _, _, _, _, o0, ga, h2, h3, h4, h5, h6, h7, h8, h9, hi, hcm, hg, hln, hip⟩, hag⟩)
  · skip
    refine x_aload_n hC d_MessageCoderModel_codeValue_15 rfl rfl ?_
    refine x_getf hC kf_MessageCoderModel_16 o0 rfl d_MessageCoderModel_codeValue_16 ?_
    refine x_iload_n hC d_MessageCoderModel_codeValue_19 rfl rfl ?_
    refine x_bipush hC d_MessageCoderModel_codeValue_20 (v := nI 97) (by decide) ?_
    refine x_isub hC d_MessageCoderModel_codeValue_22 (v := (nI ((c) - 97))) (pk_sub (by omega)) ?_
    refine x_iald hC h3 (j := (c) - 97) ⟨rfl, by omega, by omega⟩ (x := nI (hVal (hLen A.1) (c - 97))) (congrArg nI (pk_1 _ (by omega)).2) d_MessageCoderModel_codeValue_23 ?_
    refine x_goto hC d_MessageCoderModel_codeValue_24 (tgt := 28) (by decide) ?_
    exact hret _ _ _ _ _ _ _ d_MessageCoderModel_codeValue_28 (by decide) (by decide) rfl (⟨congrArg (fun q => some (Value.int (nI q))) ((if_pos c_12).symm), rfl, ⟨_, _, _, _, _, _, _, _, _, _, _, _, _, _, _, _, _, o0, ga, h2, h3, h4, h5, h6, h7, h8, h9, hi, hcm, hg, hln, hip⟩, hag⟩)

theorem d_MessageCoderModel_symbolByCode_0 : decode prog_14_method_58_code 0 = .ok (.aload_n 0, 1) := by decide +kernel
theorem d_MessageCoderModel_symbolByCode_1 : decode prog_14_method_58_code 1 = .ok (.invokevirtual 91, 3) := by decide +kernel
theorem d_MessageCoderModel_symbolByCode_4 : decode prog_14_method_58_code 4 = .ok (.aload_n 0, 1) := by decide +kernel
theorem d_MessageCoderModel_symbolByCode_5 : decode prog_14_method_58_code 5 = .ok (.iload_n 1, 1) := by decide +kernel
theorem d_MessageCoderModel_symbolByCode_6 : decode prog_14_method_58_code 6 = .ok (.iconst 0, 1) := by decide +kernel
theorem d_MessageCoderModel_symbolByCode_7 : decode prog_14_method_58_code 7 = .ok (.bipush 7, 2) := by decide +kernel
theorem d_MessageCoderModel_symbolByCode_9 : decode prog_14_method_58_code 9 = .ok (.invokestatic 64, 3) := by decide +kernel
theorem d_MessageCoderModel_symbolByCode_12 : decode prog_14_method_58_code 12 = .ok (.invokevirtual 195, 3) := by decide +kernel
theorem d_MessageCoderModel_symbolByCode_15 : decode prog_14_method_58_code 15 = .ok (.ifCond .eq 15, 3) := by decide +kernel
theorem d_MessageCoderModel_symbolByCode_18 : decode prog_14_method_58_code 18 = .ok (.bipush 97, 2) := by decide +kernel
theorem d_MessageCoderModel_symbolByCode_20 : decode prog_14_method_58_code 20 = .ok (.aload_n 0, 1) := by decide +kernel
theorem d_MessageCoderModel_symbolByCode_21 : decode prog_14_method_58_code 21 = .ok (.iload_n 1, 1) := by decide +kernel
theorem d_MessageCoderModel_symbolByCode_22 : decode prog_14_method_58_code 22 = .ok (.invokevirtual 78, 3) := by decide +kernel
theorem d_MessageCoderModel_symbolByCode_25 : decode prog_14_method_58_code 25 = .ok (.iadd, 1) := by decide +kernel
theorem d_MessageCoderModel_symbolByCode_26 : decode prog_14_method_58_code 26 = .ok (.i2c, 1) := by decide +kernel
theorem d_MessageCoderModel_symbolByCode_27 : decode prog_14_method_58_code 27 = .ok (.goto 4, 3) := by decide +kernel
theorem d_MessageCoderModel_symbolByCode_30 : decode prog_14_method_58_code 30 = .ok (.iconst 0, 1) := by decide +kernel
theorem d_MessageCoderModel_symbolByCode_31 : decode prog_14_method_58_code 31 = .ok (.ireturn, 1) := by decide +kernel
set_option maxHeartbeats 4000000 in
set_option maxRecDepth 20000 in
theorem c_MessageCoderModel_symbolByCode {P : xP} {F : xF} {z : Nat} {m : Nat} {th0 : Nat} {M : mcS} {r : Int32} (hD : xMD F (m) (th0) (M)) (hI : mInv M) : xM P xy_MessageCoderModel_symbolByCode [.ref m, .int r] F (z) 0 0 (fun r9 F9 z9 => r9 = some (.int (nI (if 0 ≤ r ∧ r < nI 8 then 97 + hOrd (hLen M.1.1) r.toNatClampNeg else 0))) ∧ z9 = z ∧ xMD F9 (m) ((if 0 ≤ r ∧ r < nI 8 then 0 else 1)) (M) ∧ (∀ a9 : Nat, (a9 < m ∨ m + 12 ≤ a9) → F9 a9 = F a9)) := by
  refine xM_i .char rfl (Nat.le_of_ble_eq_true rfl) (L0 := [some (.ref m), some (.int r)]) rfl rfl fun Θ hC hret => ?_
  have hag : ∀ a9 : Nat, (a9 < m ∨ m + 12 ≤ a9) → F a9 = F a9 := fun a9 _ => rfl
  obtain ⟨A, S, past, ⟨pn, psg⟩, ⟨lnn, lsg⟩, sv, pp, un, ep, fc⟩ := M
  obtain ⟨rs, er, bm, dm, he, cn, g, l2, v3, r4, w5, b6, d7, b8, ln, ip, cs, o0, ga, h2, h3, h4, h5, h6, h7, h8, h9, hi, hcm, hg, hln, hip⟩ := id hD
  obtain ⟨iA, iP, iS, hu8, hup, hs1, hty, hlz, hic, hlc⟩ := id hI
  have o0 : F (m) = some (.inl (10, [.int (nI (th0)), .ref (m + 1), .int (nI (un)), .int (nI (sv)), .int rs, .ref (m + 2), .ref (m + 3), .ref (m + 4), .ref (m + 5), .ref (m + 6), .int (nI (bm)), .ref (m + 7), .int (nI (dm)), .ref (m + 8), .ref (m + 9), .int (nI (lnn)), .ref (m + 10), .int (nI (pn)), .int (nI (he)), .int er, .int ep, .int fc, .ref (m + 11), .int (nI (cn))])) := o0
  have ga : F (m + 1) = some (.inr (0, 4730, fun b9 => .int (nI (g b9)))) := ga
  have h2 : F (m + 2) = some (.inr (0, 8, fun b9 => .int (nI (l2 b9)))) := h2
  have h3 : F (m + 3) = some (.inr (0, 8, fun b9 => .int (nI (v3 b9)))) := h3
  have h4 : F (m + 4) = some (.inr (0, 8, fun b9 => .int (nI (r4 b9)))) := h4
  have h5 : F (m + 5) = some (.inr (0, 8, fun b9 => .int (nI (w5 b9)))) := h5
  have h6 : F (m + 6) = some (.inr (0, 112, fun b9 => .int (nI (b6 b9)))) := h6
  have h7 : F (m + 7) = some (.inr (0, 16, fun b9 => .int (nI (d7 b9)))) := h7
  have h8 : F (m + 8) = some (.inr (0, 17, fun b9 => .int (nI (b8 b9)))) := h8
  have h9 : F (m + 9) = some (.inr (1, 40, fun b9 => .int (nI (ln b9)))) := h9
  have hi : F (m + 10) = some (.inr (1, 60, fun b9 => .int (nI (ip b9)))) := hi
  have hcm : F (m + 11) = some (.inr (0, 183, fun b9 => .int (nI (cs b9)))) := hcm
  have hln : ∀ j, j < lnn → ln j = lsg j := hln
  have hip : ∀ j, j < pn → ip j = psg j := hip
  have iA : aInv A := iA
  have hu8 : un ≤ 8 := hu8
  have hup : un ≤ pp := hup
  have hs1 : sv ≤ 1 := hs1
  have hty : pn ≤ 60 := hty
  have hlz : lnn ≤ 32 := hlz
  have hr : rRow g A := hg.1
  refine x_aload_n hC d_MessageCoderModel_symbolByCode_0 rfl rfl ?_
  refine x_callV hC kv_MessageCoderModel_91 (c_MessageCoderModel_codes (o0 := o0) (ga := ga) (h2 := h2) (h3 := h3) (h4 := h4) (h5 := h5) (hw := hr.2.1) (hw9 := fun j hj => (iA.2.1 j hj).2) (w := A.1)) o0 rfl rfl (by decide) rfl rfl rfl (Nat.le_of_ble_eq_true rfl) (by decide) d_MessageCoderModel_symbolByCode_1 (fun r9 F9 z9 hp9 => ?_)
  obtain ⟨ln1_1, vl1_1, gr1_1, gw1_1, rfl, h9c, j0, j1, j2, j3, j4, j5, pk_1, hag9⟩ := hp9
  rw [h9c]
  clear h9c z9
  generalize F9 = F1 at *
  have h6 : F1 (m + 6) = some (.inr (0, 112, fun b9 => .int (nI (b6 b9)))) := (hag9 _ (by omega)).trans h6
  have h7 : F1 (m + 7) = some (.inr (0, 16, fun b9 => .int (nI (d7 b9)))) := (hag9 _ (by omega)).trans h7
  have h8 : F1 (m + 8) = some (.inr (0, 17, fun b9 => .int (nI (b8 b9)))) := (hag9 _ (by omega)).trans h8
  have h9 : F1 (m + 9) = some (.inr (1, 40, fun b9 => .int (nI (ln b9)))) := (hag9 _ (by omega)).trans h9
  have hi : F1 (m + 10) = some (.inr (1, 60, fun b9 => .int (nI (ip b9)))) := (hag9 _ (by omega)).trans hi
  have hcm : F1 (m + 11) = some (.inr (0, 183, fun b9 => .int (nI (cs b9)))) := (hag9 _ (by omega)).trans hcm
  have o0 : F1 (m) = some (.inl (10, [.int (nI (th0)), .ref (m + 1), .int (nI (un)), .int (nI (sv)), .int rs, .ref (m + 2), .ref (m + 3), .ref (m + 4), .ref (m + 5), .ref (m + 6), .int (nI (bm)), .ref (m + 7), .int (nI (dm)), .ref (m + 8), .ref (m + 9), .int (nI (lnn)), .ref (m + 10), .int (nI (pn)), .int (nI (he)), .int er, .int ep, .int fc, .ref (m + 11), .int (nI (cn))])) := j0
  have ga : F1 (m + 1) = some (.inr (0, 4730, fun b9 => .int (nI (g b9)))) := j1
  have h2 : F1 (m + 2) = some (.inr (0, 8, fun b9 => .int (nI (ln1_1 b9)))) := j2
  have h3 : F1 (m + 3) = some (.inr (0, 8, fun b9 => .int (nI (vl1_1 b9)))) := j3
  have h4 : F1 (m + 4) = some (.inr (0, 8, fun b9 => .int (nI (gr1_1 b9)))) := j4
  have h5 : F1 (m + 5) = some (.inr (0, 8, fun b9 => .int (nI (gw1_1 b9)))) := j5
  have hag : ∀ a9 : Nat, (a9 < m ∨ m + 12 ≤ a9) → F1 a9 = F a9 := fun a9 q0 => (hag9 a9 (by omega)).trans (hag a9 q0)
  have hg_1 := hag9
  clear hag9
  refine x_aload_n hC d_MessageCoderModel_symbolByCode_4 rfl rfl ?_
  refine x_iload_n hC d_MessageCoderModel_symbolByCode_5 rfl rfl ?_
  refine x_iconst hC d_MessageCoderModel_symbolByCode_6 (v := nI 0) (by decide) ?_
  refine x_bipush hC d_MessageCoderModel_symbolByCode_7 (v := nI 7) (by decide) ?_
  refine x_callS hC ks_MessageCoderModel_64 (c_MessageCoderModel_in ) (by decide) rfl rfl rfl (Nat.le_of_ble_eq_true rfl) (by decide) d_MessageCoderModel_symbolByCode_9 (fun r9 F9 z9 hp9 => ?_)
  obtain ⟨rfl, h9b, h9c⟩ := hp9
  rw [h9b, h9c]
  clear h9b h9c F9 z9
  refine x_top (v := (xb (0 ≤ r ∧ r < nI 8))) (xb_c (by have h := fl_iff (i := r) (n := 8) (by decide); rw [show nI 8 - nI 1 = nI 7 by decide] at h; exact h)) ?_
  refine x_callV hC kv_MessageCoderModel_195 (c_MessageCoderModel_isFine (o0 := o0)) o0 rfl rfl (by decide) rfl rfl rfl (Nat.le_of_ble_eq_true rfl) (by decide) d_MessageCoderModel_symbolByCode_12 (fun r9 F9 z9 hp9 => ?_)
  obtain ⟨rfl, h9c, j0, hag9⟩ := hp9
  rw [h9c]
  clear h9c z9
  generalize F9 = F2 at *
  have h6 : F2 (m + 6) = some (.inr (0, 112, fun b9 => .int (nI (b6 b9)))) := (hag9 _ (by omega)).trans h6
  have h7 : F2 (m + 7) = some (.inr (0, 16, fun b9 => .int (nI (d7 b9)))) := (hag9 _ (by omega)).trans h7
  have h8 : F2 (m + 8) = some (.inr (0, 17, fun b9 => .int (nI (b8 b9)))) := (hag9 _ (by omega)).trans h8
  have h9 : F2 (m + 9) = some (.inr (1, 40, fun b9 => .int (nI (ln b9)))) := (hag9 _ (by omega)).trans h9
  have hi : F2 (m + 10) = some (.inr (1, 60, fun b9 => .int (nI (ip b9)))) := (hag9 _ (by omega)).trans hi
  have hcm : F2 (m + 11) = some (.inr (0, 183, fun b9 => .int (nI (cs b9)))) := (hag9 _ (by omega)).trans hcm
  have ga : F2 (m + 1) = some (.inr (0, 4730, fun b9 => .int (nI (g b9)))) := (hag9 _ (by omega)).trans ga
  have h2 : F2 (m + 2) = some (.inr (0, 8, fun b9 => .int (nI (ln1_1 b9)))) := (hag9 _ (by omega)).trans h2
  have h3 : F2 (m + 3) = some (.inr (0, 8, fun b9 => .int (nI (vl1_1 b9)))) := (hag9 _ (by omega)).trans h3
  have h4 : F2 (m + 4) = some (.inr (0, 8, fun b9 => .int (nI (gr1_1 b9)))) := (hag9 _ (by omega)).trans h4
  have h5 : F2 (m + 5) = some (.inr (0, 8, fun b9 => .int (nI (gw1_1 b9)))) := (hag9 _ (by omega)).trans h5
  have o0 : F2 (m) = some (.inl (10, [.int (nI ((if (0 ≤ r ∧ r < nI 8) then 0 else 1))), .ref (m + 1), .int (nI (un)), .int (nI (sv)), .int rs, .ref (m + 2), .ref (m + 3), .ref (m + 4), .ref (m + 5), .ref (m + 6), .int (nI (bm)), .ref (m + 7), .int (nI (dm)), .ref (m + 8), .ref (m + 9), .int (nI (lnn)), .ref (m + 10), .int (nI (pn)), .int (nI (he)), .int er, .int ep, .int fc, .ref (m + 11), .int (nI (cn))])) := j0
  have hag : ∀ a9 : Nat, (a9 < m ∨ m + 12 ≤ a9) → F2 a9 = F a9 := fun a9 q0 => (hag9 a9 (by omega)).trans (hag a9 q0)
  have hg_12 := hag9
  clear hag9
  refine x_ifB_eq hC d_MessageCoderModel_symbolByCode_15 (tgt := 30) (by decide) (fun c_15 => ?_) (fun c_15 => ?_)
  · skip
    refine x_iconst hC d_MessageCoderModel_symbolByCode_30 (v := nI 0) (by decide) ?_
    exact hret _ _ _ _ _ _ _ d_MessageCoderModel_symbolByCode_31 (by decide) (by decide) (x_char _ (by omega)) (⟨congrArg (fun q => some (Value.int (nI q))) ((if_neg c_15).symm), rfl, ⟨_, _, _, _, _, _, _, _, _, _, _, _, _, _, _, _, _, o0, ga, h2, h3, h4, h5, h6, h7, h8, h9, hi, hcm, hg, hln, hip⟩, hag⟩)
  · skip
    have hre := i2n_of c_15.1
    have hr8 : r.toNatClampNeg < 8 := i2n_lt c_15.1 c_15.2 (by decide)
    have ho8 := (hOrd_8 (hLen A.1) hr8).1
    refine x_bipush hC d_MessageCoderModel_symbolByCode_18 (v := nI 97) (by decide) ?_
    refine x_aload_n hC d_MessageCoderModel_symbolByCode_20 rfl rfl ?_
    refine x_iload_n hC d_MessageCoderModel_symbolByCode_21 rfl rfl ?_
    refine x_top (v := (nI (r.toNatClampNeg))) hre ?_
    refine x_callV hC kv_MessageCoderModel_78 (c_MessageCoderModel_symbolAtRank (o0 := o0) (h2 := h2) (hl := fun j hj => (pk_1 j hj).1) (hl7 := fun j hj => hLen_7 A.1 hj) (hr := by omega) (ln := hLen A.1)) o0 rfl rfl (by decide) rfl rfl rfl (Nat.le_of_ble_eq_true rfl) (by decide) d_MessageCoderModel_symbolByCode_22 (fun r9 F9 z9 hp9 => ?_)
    obtain ⟨rfl, h9b, h9c⟩ := hp9
    rw [h9b, h9c]
    clear h9b h9c F9 z9
    refine x_iadd hC d_MessageCoderModel_symbolByCode_25 (v := (nI ((97) + (hOrd (hLen A.1) (r.toNatClampNeg))))) (x_addN (by omega)) ?_
    refine x_i2c hC d_MessageCoderModel_symbolByCode_26 (v := (nI ((97) + (hOrd (hLen A.1) (r.toNatClampNeg))))) (x_i2cN (by omega)) ?_
    refine x_goto hC d_MessageCoderModel_symbolByCode_27 (tgt := 31) (by decide) ?_
    exact hret _ _ _ _ _ _ _ d_MessageCoderModel_symbolByCode_31 (by decide) (by decide) (x_char _ (by omega)) (⟨congrArg (fun q => some (Value.int (nI q))) ((if_pos c_15).symm), rfl, ⟨_, _, _, _, _, _, _, _, _, _, _, _, _, _, _, _, _, o0, ga, h2, h3, h4, h5, h6, h7, h8, h9, hi, hcm, hg, hln, hip⟩, hag⟩)

theorem d_MessageCoderModel_longestCode_0 : decode prog_14_method_59_code 0 = .ok (.aload_n 0, 1) := by decide +kernel
theorem d_MessageCoderModel_longestCode_1 : decode prog_14_method_59_code 1 = .ok (.iconst 0, 1) := by decide +kernel
theorem d_MessageCoderModel_longestCode_2 : decode prog_14_method_59_code 2 = .ok (.putfield 51, 3) := by decide +kernel
theorem d_MessageCoderModel_longestCode_5 : decode prog_14_method_59_code 5 = .ok (.aload_n 0, 1) := by decide +kernel
theorem d_MessageCoderModel_longestCode_6 : decode prog_14_method_59_code 6 = .ok (.invokevirtual 91, 3) := by decide +kernel
theorem d_MessageCoderModel_longestCode_9 : decode prog_14_method_59_code 9 = .ok (.aload_n 0, 1) := by decide +kernel
theorem d_MessageCoderModel_longestCode_10 : decode prog_14_method_59_code 10 = .ok (.getfield 13, 3) := by decide +kernel
theorem d_MessageCoderModel_longestCode_13 : decode prog_14_method_59_code 13 = .ok (.aload_n 0, 1) := by decide +kernel
theorem d_MessageCoderModel_longestCode_14 : decode prog_14_method_59_code 14 = .ok (.bipush 7, 2) := by decide +kernel
theorem d_MessageCoderModel_longestCode_16 : decode prog_14_method_59_code 16 = .ok (.invokevirtual 78, 3) := by decide +kernel
theorem d_MessageCoderModel_longestCode_19 : decode prog_14_method_59_code 19 = .ok (.iaload, 1) := by decide +kernel
theorem d_MessageCoderModel_longestCode_20 : decode prog_14_method_59_code 20 = .ok (.ireturn, 1) := by decide +kernel
set_option maxHeartbeats 4000000 in
set_option maxRecDepth 20000 in
theorem c_MessageCoderModel_longestCode {P : xP} {F : xF} {z : Nat} {m : Nat} {th0 : Nat} {M : mcS} (hD : xMD F (m) (th0) (M)) (hI : mInv M) : xM P xy_MessageCoderModel_longestCode [.ref m] F (z) 0 0 (fun r9 F9 z9 => r9 = some (.int (nI (maxN (hLen M.1.1) 8))) ∧ z9 = z ∧ xMD F9 (m) (0) (M) ∧ (∀ a9 : Nat, (a9 < m ∨ m + 12 ≤ a9) → F9 a9 = F a9)) := by
  refine xM_i .int rfl (Nat.le_of_ble_eq_true rfl) (L0 := [some (.ref m)]) rfl rfl fun Θ hC hret => ?_
  have hag : ∀ a9 : Nat, (a9 < m ∨ m + 12 ≤ a9) → F a9 = F a9 := fun a9 _ => rfl
  obtain ⟨A, S, past, ⟨pn, psg⟩, ⟨lnn, lsg⟩, sv, pp, un, ep, fc⟩ := M
  obtain ⟨rs, er, bm, dm, he, cn, g, l2, v3, r4, w5, b6, d7, b8, ln, ip, cs, o0, ga, h2, h3, h4, h5, h6, h7, h8, h9, hi, hcm, hg, hln, hip⟩ := id hD
  obtain ⟨iA, iP, iS, hu8, hup, hs1, hty, hlz, hic, hlc⟩ := id hI
  have o0 : F (m) = some (.inl (10, [.int (nI (th0)), .ref (m + 1), .int (nI (un)), .int (nI (sv)), .int rs, .ref (m + 2), .ref (m + 3), .ref (m + 4), .ref (m + 5), .ref (m + 6), .int (nI (bm)), .ref (m + 7), .int (nI (dm)), .ref (m + 8), .ref (m + 9), .int (nI (lnn)), .ref (m + 10), .int (nI (pn)), .int (nI (he)), .int er, .int ep, .int fc, .ref (m + 11), .int (nI (cn))])) := o0
  have ga : F (m + 1) = some (.inr (0, 4730, fun b9 => .int (nI (g b9)))) := ga
  have h2 : F (m + 2) = some (.inr (0, 8, fun b9 => .int (nI (l2 b9)))) := h2
  have h3 : F (m + 3) = some (.inr (0, 8, fun b9 => .int (nI (v3 b9)))) := h3
  have h4 : F (m + 4) = some (.inr (0, 8, fun b9 => .int (nI (r4 b9)))) := h4
  have h5 : F (m + 5) = some (.inr (0, 8, fun b9 => .int (nI (w5 b9)))) := h5
  have h6 : F (m + 6) = some (.inr (0, 112, fun b9 => .int (nI (b6 b9)))) := h6
  have h7 : F (m + 7) = some (.inr (0, 16, fun b9 => .int (nI (d7 b9)))) := h7
  have h8 : F (m + 8) = some (.inr (0, 17, fun b9 => .int (nI (b8 b9)))) := h8
  have h9 : F (m + 9) = some (.inr (1, 40, fun b9 => .int (nI (ln b9)))) := h9
  have hi : F (m + 10) = some (.inr (1, 60, fun b9 => .int (nI (ip b9)))) := hi
  have hcm : F (m + 11) = some (.inr (0, 183, fun b9 => .int (nI (cs b9)))) := hcm
  have hln : ∀ j, j < lnn → ln j = lsg j := hln
  have hip : ∀ j, j < pn → ip j = psg j := hip
  have iA : aInv A := iA
  have hu8 : un ≤ 8 := hu8
  have hup : un ≤ pp := hup
  have hs1 : sv ≤ 1 := hs1
  have hty : pn ≤ 60 := hty
  have hlz : lnn ≤ 32 := hlz
  have hr : rRow g A := hg.1
  refine x_aload_n hC d_MessageCoderModel_longestCode_0 rfl rfl ?_
  refine x_iconst hC d_MessageCoderModel_longestCode_1 (v := nI 0) (by decide) ?_
  refine x_putf hC kf_MessageCoderModel_51 o0 (Nat.le_of_ble_eq_true rfl) rfl rfl d_MessageCoderModel_longestCode_2 (fs1 := [.int (nI 0), .ref (m + 1), .int (nI (un)), .int (nI (sv)), .int rs, .ref (m + 2), .ref (m + 3), .ref (m + 4), .ref (m + 5), .ref (m + 6), .int (nI (bm)), .ref (m + 7), .int (nI (dm)), .ref (m + 8), .ref (m + 9), .int (nI (lnn)), .ref (m + 10), .int (nI (pn)), .int (nI (he)), .int er, .int ep, .int fc, .ref (m + 11), .int (nI (cn))]) rfl ?_
  generalize e1 : xup F (m) (.inl (10, [.int (nI 0), .ref (m + 1), .int (nI (un)), .int (nI (sv)), .int rs, .ref (m + 2), .ref (m + 3), .ref (m + 4), .ref (m + 5), .ref (m + 6), .int (nI (bm)), .ref (m + 7), .int (nI (dm)), .ref (m + 8), .ref (m + 9), .int (nI (lnn)), .ref (m + 10), .int (nI (pn)), .int (nI (he)), .int er, .int ep, .int fc, .ref (m + 11), .int (nI (cn))])) = F1
  have o0 : F1 (m) = some (.inl (10, [.int (nI 0), .ref (m + 1), .int (nI (un)), .int (nI (sv)), .int rs, .ref (m + 2), .ref (m + 3), .ref (m + 4), .ref (m + 5), .ref (m + 6), .int (nI (bm)), .ref (m + 7), .int (nI (dm)), .ref (m + 8), .ref (m + 9), .int (nI (lnn)), .ref (m + 10), .int (nI (pn)), .int (nI (he)), .int er, .int ep, .int fc, .ref (m + 11), .int (nI (cn))])) := by rw [← e1]; exact xup_eq
  have ga : F1 (m + 1) = some (.inr (0, 4730, fun b9 => .int (nI (g b9)))) := by rw [← e1]; exact (xup_ne (by omega)).trans ga
  have h2 : F1 (m + 2) = some (.inr (0, 8, fun b9 => .int (nI (l2 b9)))) := by rw [← e1]; exact (xup_ne (by omega)).trans h2
  have h3 : F1 (m + 3) = some (.inr (0, 8, fun b9 => .int (nI (v3 b9)))) := by rw [← e1]; exact (xup_ne (by omega)).trans h3
  have h4 : F1 (m + 4) = some (.inr (0, 8, fun b9 => .int (nI (r4 b9)))) := by rw [← e1]; exact (xup_ne (by omega)).trans h4
  have h5 : F1 (m + 5) = some (.inr (0, 8, fun b9 => .int (nI (w5 b9)))) := by rw [← e1]; exact (xup_ne (by omega)).trans h5
  have h6 : F1 (m + 6) = some (.inr (0, 112, fun b9 => .int (nI (b6 b9)))) := by rw [← e1]; exact (xup_ne (by omega)).trans h6
  have h7 : F1 (m + 7) = some (.inr (0, 16, fun b9 => .int (nI (d7 b9)))) := by rw [← e1]; exact (xup_ne (by omega)).trans h7
  have h8 : F1 (m + 8) = some (.inr (0, 17, fun b9 => .int (nI (b8 b9)))) := by rw [← e1]; exact (xup_ne (by omega)).trans h8
  have h9 : F1 (m + 9) = some (.inr (1, 40, fun b9 => .int (nI (ln b9)))) := by rw [← e1]; exact (xup_ne (by omega)).trans h9
  have hi : F1 (m + 10) = some (.inr (1, 60, fun b9 => .int (nI (ip b9)))) := by rw [← e1]; exact (xup_ne (by omega)).trans hi
  have hcm : F1 (m + 11) = some (.inr (0, 183, fun b9 => .int (nI (cs b9)))) := by rw [← e1]; exact (xup_ne (by omega)).trans hcm
  have hag : ∀ a9 : Nat, (a9 < m ∨ m + 12 ≤ a9) → F1 a9 = F a9 := fun a9 q0 => by rw [← e1]; exact (xup_ne (by omega)).trans (hag a9 q0)
  refine x_aload_n hC d_MessageCoderModel_longestCode_5 rfl rfl ?_
  refine x_callV hC kv_MessageCoderModel_91 (c_MessageCoderModel_codes (o0 := o0) (ga := ga) (h2 := h2) (h3 := h3) (h4 := h4) (h5 := h5) (hw := hr.2.1) (hw9 := fun j hj => (iA.2.1 j hj).2) (w := A.1)) o0 rfl rfl (by decide) rfl rfl rfl (Nat.le_of_ble_eq_true rfl) (by decide) d_MessageCoderModel_longestCode_6 (fun r9 F9 z9 hp9 => ?_)
  obtain ⟨ln1_6, vl1_6, gr1_6, gw1_6, rfl, h9c, j0, j1, j2, j3, j4, j5, pk_6, hag9⟩ := hp9
  rw [h9c]
  clear h9c z9
  generalize F9 = F2 at *
  have h6 : F2 (m + 6) = some (.inr (0, 112, fun b9 => .int (nI (b6 b9)))) := (hag9 _ (by omega)).trans h6
  have h7 : F2 (m + 7) = some (.inr (0, 16, fun b9 => .int (nI (d7 b9)))) := (hag9 _ (by omega)).trans h7
  have h8 : F2 (m + 8) = some (.inr (0, 17, fun b9 => .int (nI (b8 b9)))) := (hag9 _ (by omega)).trans h8
  have h9 : F2 (m + 9) = some (.inr (1, 40, fun b9 => .int (nI (ln b9)))) := (hag9 _ (by omega)).trans h9
  have hi : F2 (m + 10) = some (.inr (1, 60, fun b9 => .int (nI (ip b9)))) := (hag9 _ (by omega)).trans hi
  have hcm : F2 (m + 11) = some (.inr (0, 183, fun b9 => .int (nI (cs b9)))) := (hag9 _ (by omega)).trans hcm
  have o0 : F2 (m) = some (.inl (10, [.int (nI 0), .ref (m + 1), .int (nI (un)), .int (nI (sv)), .int rs, .ref (m + 2), .ref (m + 3), .ref (m + 4), .ref (m + 5), .ref (m + 6), .int (nI (bm)), .ref (m + 7), .int (nI (dm)), .ref (m + 8), .ref (m + 9), .int (nI (lnn)), .ref (m + 10), .int (nI (pn)), .int (nI (he)), .int er, .int ep, .int fc, .ref (m + 11), .int (nI (cn))])) := j0
  have ga : F2 (m + 1) = some (.inr (0, 4730, fun b9 => .int (nI (g b9)))) := j1
  have h2 : F2 (m + 2) = some (.inr (0, 8, fun b9 => .int (nI (ln1_6 b9)))) := j2
  have h3 : F2 (m + 3) = some (.inr (0, 8, fun b9 => .int (nI (vl1_6 b9)))) := j3
  have h4 : F2 (m + 4) = some (.inr (0, 8, fun b9 => .int (nI (gr1_6 b9)))) := j4
  have h5 : F2 (m + 5) = some (.inr (0, 8, fun b9 => .int (nI (gw1_6 b9)))) := j5
  have hag : ∀ a9 : Nat, (a9 < m ∨ m + 12 ≤ a9) → F2 a9 = F a9 := fun a9 q0 => (hag9 a9 (by omega)).trans (hag a9 q0)
  have hg_6 := hag9
  clear hag9
  refine x_aload_n hC d_MessageCoderModel_longestCode_9 rfl rfl ?_
  refine x_getf hC kf_MessageCoderModel_13 o0 rfl d_MessageCoderModel_longestCode_10 ?_
  refine x_aload_n hC d_MessageCoderModel_longestCode_13 rfl rfl ?_
  refine x_bipush hC d_MessageCoderModel_longestCode_14 (v := nI 7) (by decide) ?_
  have ho8 := (hOrd_8 (hLen A.1) (r := 7) (by omega)).1
  refine x_callV hC kv_MessageCoderModel_78 (c_MessageCoderModel_symbolAtRank (o0 := o0) (h2 := h2) (hl := fun j hj => (pk_6 j hj).1) (hl7 := fun j hj => hLen_7 A.1 hj) (hr := by omega) (ln := hLen A.1)) o0 rfl rfl (by decide) rfl rfl rfl (Nat.le_of_ble_eq_true rfl) (by decide) d_MessageCoderModel_longestCode_16 (fun r9 F9 z9 hp9 => ?_)
  obtain ⟨rfl, h9b, h9c⟩ := hp9
  rw [h9b, h9c]
  clear h9b h9c F9 z9
  refine x_iald hC h2 (j := hOrd (hLen A.1) 7) ⟨rfl, by omega, by omega⟩ (x := nI (maxN (hLen A.1) 8)) (congrArg nI ((pk_6 _ ho8).1.trans (maxN_hOrd _).symm)) d_MessageCoderModel_longestCode_19 ?_
  exact hret _ _ _ _ _ _ _ d_MessageCoderModel_longestCode_20 (by decide) (by decide) rfl (⟨rfl, rfl, ⟨_, _, _, _, _, _, _, _, _, _, _, _, _, _, _, _, _, o0, ga, h2, h3, h4, h5, h6, h7, h8, h9, hi, hcm, hg, hln, hip⟩, hag⟩)

theorem d_MessageCoderModel_cost_0 : decode prog_14_method_60_code 0 = .ok (.aload_n 0, 1) := by decide +kernel
theorem d_MessageCoderModel_cost_1 : decode prog_14_method_60_code 1 = .ok (.iconst 0, 1) := by decide +kernel
theorem d_MessageCoderModel_cost_2 : decode prog_14_method_60_code 2 = .ok (.putfield 51, 3) := by decide +kernel
theorem d_MessageCoderModel_cost_5 : decode prog_14_method_60_code 5 = .ok (.aload_n 0, 1) := by decide +kernel
theorem d_MessageCoderModel_cost_6 : decode prog_14_method_60_code 6 = .ok (.invokevirtual 91, 3) := by decide +kernel
theorem d_MessageCoderModel_cost_9 : decode prog_14_method_60_code 9 = .ok (.iconst 0, 1) := by decide +kernel
theorem d_MessageCoderModel_cost_10 : decode prog_14_method_60_code 10 = .ok (.istore_n 1, 1) := by decide +kernel
theorem d_MessageCoderModel_cost_11 : decode prog_14_method_60_code 11 = .ok (.iconst 0, 1) := by decide +kernel
theorem d_MessageCoderModel_cost_12 : decode prog_14_method_60_code 12 = .ok (.istore_n 2, 1) := by decide +kernel
theorem d_MessageCoderModel_cost_13 : decode prog_14_method_60_code 13 = .ok (.iload_n 2, 1) := by decide +kernel
theorem d_MessageCoderModel_cost_14 : decode prog_14_method_60_code 14 = .ok (.bipush 8, 2) := by decide +kernel
theorem d_MessageCoderModel_cost_16 : decode prog_14_method_60_code 16 = .ok (.if_icmp .ge 28, 3) := by decide +kernel
theorem d_MessageCoderModel_cost_19 : decode prog_14_method_60_code 19 = .ok (.iload_n 1, 1) := by decide +kernel
theorem d_MessageCoderModel_cost_20 : decode prog_14_method_60_code 20 = .ok (.aload_n 0, 1) := by decide +kernel
theorem d_MessageCoderModel_cost_21 : decode prog_14_method_60_code 21 = .ok (.getfield 9, 3) := by decide +kernel
theorem d_MessageCoderModel_cost_24 : decode prog_14_method_60_code 24 = .ok (.bipush 10, 2) := by decide +kernel
theorem d_MessageCoderModel_cost_26 : decode prog_14_method_60_code 26 = .ok (.iload_n 2, 1) := by decide +kernel
theorem d_MessageCoderModel_cost_27 : decode prog_14_method_60_code 27 = .ok (.iadd, 1) := by decide +kernel
theorem d_MessageCoderModel_cost_28 : decode prog_14_method_60_code 28 = .ok (.iaload, 1) := by decide +kernel
theorem d_MessageCoderModel_cost_29 : decode prog_14_method_60_code 29 = .ok (.aload_n 0, 1) := by decide +kernel
theorem d_MessageCoderModel_cost_30 : decode prog_14_method_60_code 30 = .ok (.getfield 13, 3) := by decide +kernel
theorem d_MessageCoderModel_cost_33 : decode prog_14_method_60_code 33 = .ok (.iload_n 2, 1) := by decide +kernel
theorem d_MessageCoderModel_cost_34 : decode prog_14_method_60_code 34 = .ok (.iaload, 1) := by decide +kernel
theorem d_MessageCoderModel_cost_35 : decode prog_14_method_60_code 35 = .ok (.imul, 1) := by decide +kernel
theorem d_MessageCoderModel_cost_36 : decode prog_14_method_60_code 36 = .ok (.iadd, 1) := by decide +kernel
theorem d_MessageCoderModel_cost_37 : decode prog_14_method_60_code 37 = .ok (.istore_n 1, 1) := by decide +kernel
theorem d_MessageCoderModel_cost_38 : decode prog_14_method_60_code 38 = .ok (.iinc 2 1, 3) := by decide +kernel
theorem d_MessageCoderModel_cost_41 : decode prog_14_method_60_code 41 = .ok (.goto (-28), 3) := by decide +kernel
theorem d_MessageCoderModel_cost_44 : decode prog_14_method_60_code 44 = .ok (.iload_n 1, 1) := by decide +kernel
theorem d_MessageCoderModel_cost_45 : decode prog_14_method_60_code 45 = .ok (.ireturn, 1) := by decide +kernel
set_option maxHeartbeats 4000000 in
set_option maxRecDepth 20000 in
theorem c_MessageCoderModel_cost {P : xP} {F : xF} {z : Nat} {m : Nat} {th0 : Nat} {M : mcS} (hD : xMD F (m) (th0) (M)) (hI : mInv M) : xM P xy_MessageCoderModel_cost [.ref m] F (z) 0 0 (fun r9 F9 z9 => r9 = some (.int (nI (hSum M.1.1))) ∧ z9 = z ∧ xMD F9 (m) (0) (M) ∧ (∀ a9 : Nat, (a9 < m ∨ m + 12 ≤ a9) → F9 a9 = F a9)) := by
  refine xM_i .int rfl (Nat.le_of_ble_eq_true rfl) (L0 := [some (.ref m), none, none]) rfl rfl fun Θ hC hret => ?_
  have hag : ∀ a9 : Nat, (a9 < m ∨ m + 12 ≤ a9) → F a9 = F a9 := fun a9 _ => rfl
  obtain ⟨A, S, past, ⟨pn, psg⟩, ⟨lnn, lsg⟩, sv, pp, un, ep, fc⟩ := M
  obtain ⟨rs, er, bm, dm, he, cn, g, l2, v3, r4, w5, b6, d7, b8, ln, ip, cs, o0, ga, h2, h3, h4, h5, h6, h7, h8, h9, hi, hcm, hg, hln, hip⟩ := id hD
  obtain ⟨iA, iP, iS, hu8, hup, hs1, hty, hlz, hic, hlc⟩ := id hI
  have o0 : F (m) = some (.inl (10, [.int (nI (th0)), .ref (m + 1), .int (nI (un)), .int (nI (sv)), .int rs, .ref (m + 2), .ref (m + 3), .ref (m + 4), .ref (m + 5), .ref (m + 6), .int (nI (bm)), .ref (m + 7), .int (nI (dm)), .ref (m + 8), .ref (m + 9), .int (nI (lnn)), .ref (m + 10), .int (nI (pn)), .int (nI (he)), .int er, .int ep, .int fc, .ref (m + 11), .int (nI (cn))])) := o0
  have ga : F (m + 1) = some (.inr (0, 4730, fun b9 => .int (nI (g b9)))) := ga
  have h2 : F (m + 2) = some (.inr (0, 8, fun b9 => .int (nI (l2 b9)))) := h2
  have h3 : F (m + 3) = some (.inr (0, 8, fun b9 => .int (nI (v3 b9)))) := h3
  have h4 : F (m + 4) = some (.inr (0, 8, fun b9 => .int (nI (r4 b9)))) := h4
  have h5 : F (m + 5) = some (.inr (0, 8, fun b9 => .int (nI (w5 b9)))) := h5
  have h6 : F (m + 6) = some (.inr (0, 112, fun b9 => .int (nI (b6 b9)))) := h6
  have h7 : F (m + 7) = some (.inr (0, 16, fun b9 => .int (nI (d7 b9)))) := h7
  have h8 : F (m + 8) = some (.inr (0, 17, fun b9 => .int (nI (b8 b9)))) := h8
  have h9 : F (m + 9) = some (.inr (1, 40, fun b9 => .int (nI (ln b9)))) := h9
  have hi : F (m + 10) = some (.inr (1, 60, fun b9 => .int (nI (ip b9)))) := hi
  have hcm : F (m + 11) = some (.inr (0, 183, fun b9 => .int (nI (cs b9)))) := hcm
  have hln : ∀ j, j < lnn → ln j = lsg j := hln
  have hip : ∀ j, j < pn → ip j = psg j := hip
  have iA : aInv A := iA
  have hu8 : un ≤ 8 := hu8
  have hup : un ≤ pp := hup
  have hs1 : sv ≤ 1 := hs1
  have hty : pn ≤ 60 := hty
  have hlz : lnn ≤ 32 := hlz
  have hr : rRow g A := hg.1
  refine x_aload_n hC d_MessageCoderModel_cost_0 rfl rfl ?_
  refine x_iconst hC d_MessageCoderModel_cost_1 (v := nI 0) (by decide) ?_
  refine x_putf hC kf_MessageCoderModel_51 o0 (Nat.le_of_ble_eq_true rfl) rfl rfl d_MessageCoderModel_cost_2 (fs1 := [.int (nI 0), .ref (m + 1), .int (nI (un)), .int (nI (sv)), .int rs, .ref (m + 2), .ref (m + 3), .ref (m + 4), .ref (m + 5), .ref (m + 6), .int (nI (bm)), .ref (m + 7), .int (nI (dm)), .ref (m + 8), .ref (m + 9), .int (nI (lnn)), .ref (m + 10), .int (nI (pn)), .int (nI (he)), .int er, .int ep, .int fc, .ref (m + 11), .int (nI (cn))]) rfl ?_
  generalize e1 : xup F (m) (.inl (10, [.int (nI 0), .ref (m + 1), .int (nI (un)), .int (nI (sv)), .int rs, .ref (m + 2), .ref (m + 3), .ref (m + 4), .ref (m + 5), .ref (m + 6), .int (nI (bm)), .ref (m + 7), .int (nI (dm)), .ref (m + 8), .ref (m + 9), .int (nI (lnn)), .ref (m + 10), .int (nI (pn)), .int (nI (he)), .int er, .int ep, .int fc, .ref (m + 11), .int (nI (cn))])) = F1
  have o0 : F1 (m) = some (.inl (10, [.int (nI 0), .ref (m + 1), .int (nI (un)), .int (nI (sv)), .int rs, .ref (m + 2), .ref (m + 3), .ref (m + 4), .ref (m + 5), .ref (m + 6), .int (nI (bm)), .ref (m + 7), .int (nI (dm)), .ref (m + 8), .ref (m + 9), .int (nI (lnn)), .ref (m + 10), .int (nI (pn)), .int (nI (he)), .int er, .int ep, .int fc, .ref (m + 11), .int (nI (cn))])) := by rw [← e1]; exact xup_eq
  have ga : F1 (m + 1) = some (.inr (0, 4730, fun b9 => .int (nI (g b9)))) := by rw [← e1]; exact (xup_ne (by omega)).trans ga
  have h2 : F1 (m + 2) = some (.inr (0, 8, fun b9 => .int (nI (l2 b9)))) := by rw [← e1]; exact (xup_ne (by omega)).trans h2
  have h3 : F1 (m + 3) = some (.inr (0, 8, fun b9 => .int (nI (v3 b9)))) := by rw [← e1]; exact (xup_ne (by omega)).trans h3
  have h4 : F1 (m + 4) = some (.inr (0, 8, fun b9 => .int (nI (r4 b9)))) := by rw [← e1]; exact (xup_ne (by omega)).trans h4
  have h5 : F1 (m + 5) = some (.inr (0, 8, fun b9 => .int (nI (w5 b9)))) := by rw [← e1]; exact (xup_ne (by omega)).trans h5
  have h6 : F1 (m + 6) = some (.inr (0, 112, fun b9 => .int (nI (b6 b9)))) := by rw [← e1]; exact (xup_ne (by omega)).trans h6
  have h7 : F1 (m + 7) = some (.inr (0, 16, fun b9 => .int (nI (d7 b9)))) := by rw [← e1]; exact (xup_ne (by omega)).trans h7
  have h8 : F1 (m + 8) = some (.inr (0, 17, fun b9 => .int (nI (b8 b9)))) := by rw [← e1]; exact (xup_ne (by omega)).trans h8
  have h9 : F1 (m + 9) = some (.inr (1, 40, fun b9 => .int (nI (ln b9)))) := by rw [← e1]; exact (xup_ne (by omega)).trans h9
  have hi : F1 (m + 10) = some (.inr (1, 60, fun b9 => .int (nI (ip b9)))) := by rw [← e1]; exact (xup_ne (by omega)).trans hi
  have hcm : F1 (m + 11) = some (.inr (0, 183, fun b9 => .int (nI (cs b9)))) := by rw [← e1]; exact (xup_ne (by omega)).trans hcm
  have hag : ∀ a9 : Nat, (a9 < m ∨ m + 12 ≤ a9) → F1 a9 = F a9 := fun a9 q0 => by rw [← e1]; exact (xup_ne (by omega)).trans (hag a9 q0)
  refine x_aload_n hC d_MessageCoderModel_cost_5 rfl rfl ?_
  refine x_callV hC kv_MessageCoderModel_91 (c_MessageCoderModel_codes (o0 := o0) (ga := ga) (h2 := h2) (h3 := h3) (h4 := h4) (h5 := h5) (hw := hr.2.1) (hw9 := fun j hj => (iA.2.1 j hj).2) (w := A.1)) o0 rfl rfl (by decide) rfl rfl rfl (Nat.le_of_ble_eq_true rfl) (by decide) d_MessageCoderModel_cost_6 (fun r9 F9 z9 hp9 => ?_)
  obtain ⟨ln1_6, vl1_6, gr1_6, gw1_6, rfl, h9c, j0, j1, j2, j3, j4, j5, pk_6, hag9⟩ := hp9
  rw [h9c]
  clear h9c z9
  generalize F9 = F2 at *
  have h6 : F2 (m + 6) = some (.inr (0, 112, fun b9 => .int (nI (b6 b9)))) := (hag9 _ (by omega)).trans h6
  have h7 : F2 (m + 7) = some (.inr (0, 16, fun b9 => .int (nI (d7 b9)))) := (hag9 _ (by omega)).trans h7
  have h8 : F2 (m + 8) = some (.inr (0, 17, fun b9 => .int (nI (b8 b9)))) := (hag9 _ (by omega)).trans h8
  have h9 : F2 (m + 9) = some (.inr (1, 40, fun b9 => .int (nI (ln b9)))) := (hag9 _ (by omega)).trans h9
  have hi : F2 (m + 10) = some (.inr (1, 60, fun b9 => .int (nI (ip b9)))) := (hag9 _ (by omega)).trans hi
  have hcm : F2 (m + 11) = some (.inr (0, 183, fun b9 => .int (nI (cs b9)))) := (hag9 _ (by omega)).trans hcm
  have o0 : F2 (m) = some (.inl (10, [.int (nI 0), .ref (m + 1), .int (nI (un)), .int (nI (sv)), .int rs, .ref (m + 2), .ref (m + 3), .ref (m + 4), .ref (m + 5), .ref (m + 6), .int (nI (bm)), .ref (m + 7), .int (nI (dm)), .ref (m + 8), .ref (m + 9), .int (nI (lnn)), .ref (m + 10), .int (nI (pn)), .int (nI (he)), .int er, .int ep, .int fc, .ref (m + 11), .int (nI (cn))])) := j0
  have ga : F2 (m + 1) = some (.inr (0, 4730, fun b9 => .int (nI (g b9)))) := j1
  have h2 : F2 (m + 2) = some (.inr (0, 8, fun b9 => .int (nI (ln1_6 b9)))) := j2
  have h3 : F2 (m + 3) = some (.inr (0, 8, fun b9 => .int (nI (vl1_6 b9)))) := j3
  have h4 : F2 (m + 4) = some (.inr (0, 8, fun b9 => .int (nI (gr1_6 b9)))) := j4
  have h5 : F2 (m + 5) = some (.inr (0, 8, fun b9 => .int (nI (gw1_6 b9)))) := j5
  have hag : ∀ a9 : Nat, (a9 < m ∨ m + 12 ≤ a9) → F2 a9 = F a9 := fun a9 q0 => (hag9 a9 (by omega)).trans (hag a9 q0)
  have hg_6 := hag9
  clear hag9
  refine x_iconst hC d_MessageCoderModel_cost_9 (v := nI 0) (by decide) ?_
  refine x_istore_n hC d_MessageCoderModel_cost_10 rfl (Nat.le_of_ble_eq_true rfl) (L1 := [some (.ref m), some (.int (nI 0)), none]) rfl ?_
  refine x_iconst hC d_MessageCoderModel_cost_11 (v := nI 0) (by decide) ?_
  refine x_istore_n hC d_MessageCoderModel_cost_12 rfl (Nat.le_of_ble_eq_true rfl) (L1 := [some (.ref m), some (.int (nI 0)), some (.int (nI 0))]) rfl ?_
  have loop_13 : ∀ (m9 : Nat) (Fh13 : xF) (i : Nat) (t : Nat), (Fh13 (m) = some (.inl (10, [.int (nI 0), .ref (m + 1), .int (nI (un)), .int (nI (sv)), .int rs, .ref (m + 2), .ref (m + 3), .ref (m + 4), .ref (m + 5), .ref (m + 6), .int (nI (bm)), .ref (m + 7), .int (nI (dm)), .ref (m + 8), .ref (m + 9), .int (nI (lnn)), .ref (m + 10), .int (nI (pn)), .int (nI (he)), .int er, .int ep, .int fc, .ref (m + 11), .int (nI (cn))]))) → (Fh13 (m + 1) = some (.inr (0, 4730, fun b9 => .int (nI (g b9))))) → (Fh13 (m + 2) = some (.inr (0, 8, fun b9 => .int (nI (ln1_6 b9))))) → (Fh13 (m + 3) = some (.inr (0, 8, fun b9 => .int (nI (vl1_6 b9))))) → (Fh13 (m + 4) = some (.inr (0, 8, fun b9 => .int (nI (gr1_6 b9))))) → (Fh13 (m + 5) = some (.inr (0, 8, fun b9 => .int (nI (gw1_6 b9))))) → (Fh13 (m + 6) = some (.inr (0, 112, fun b9 => .int (nI (b6 b9))))) → (Fh13 (m + 7) = some (.inr (0, 16, fun b9 => .int (nI (d7 b9))))) → (Fh13 (m + 8) = some (.inr (0, 17, fun b9 => .int (nI (b8 b9))))) → (Fh13 (m + 9) = some (.inr (1, 40, fun b9 => .int (nI (ln b9))))) → (Fh13 (m + 10) = some (.inr (1, 60, fun b9 => .int (nI (ip b9))))) → (Fh13 (m + 11) = some (.inr (0, 183, fun b9 => .int (nI (cs b9))))) → (∀ a9 : Nat, (a9 < m ∨ m + 12 ≤ a9) → Fh13 a9 = F a9) → (i ≤ 8) → (t = sumN (fun j => A.1 j * hLen A.1 j) i) → (t ≤ 693 * i) → (8 - i < m9) → xX P Θ 13 [some (.ref m), some (.int (nI (t))), some (.int (nI (i)))] [] Fh13 (z) 0 0 := by
    intro m9
    induction m9 with
    | zero => intros; omega
    | succ m9 ih_13 =>
      intro Fh13 i t o0 ga h2 h3 h4 h5 h6 h7 h8 h9 hi hcm hag hi8 kt kb hm_13
      refine x_iload_n hC d_MessageCoderModel_cost_13 rfl rfl ?_
      refine x_bipush hC d_MessageCoderModel_cost_14 (v := nI 8) (by decide) ?_
      refine x_icmpN_ge hC d_MessageCoderModel_cost_16 (tgt := 44) (by decide) (by omega) (by omega) (fun c_16 => ?_) (fun c_16 => ?_)
      · skip
        have e8 : i = 8 := by omega
        refine x_iload_n hC d_MessageCoderModel_cost_44 rfl rfl ?_
        exact hret _ _ _ _ _ _ _ d_MessageCoderModel_cost_45 (by decide) (by decide) rfl (⟨congrArg (fun q => some (Value.int (nI q))) ((by rw [kt, e8]; exact (hSum_eq _).symm)), rfl, ⟨_, _, _, _, _, _, _, _, _, _, _, _, _, _, _, _, _, o0, ga, h2, h3, h4, h5, h6, h7, h8, h9, hi, hcm, hg, hln, hip⟩, hag⟩)
      · skip
        have hwi := (iA.2.1 i (by omega)).2
        have hli := hLen_7 A.1 (show i < 8 by omega)
        have hml : A.1 i * hLen A.1 i ≤ 99 * 7 := Nat.mul_le_mul hwi hli
        refine x_iload_n hC d_MessageCoderModel_cost_19 rfl rfl ?_
        refine x_aload_n hC d_MessageCoderModel_cost_20 rfl rfl ?_
        refine x_getf hC kf_MessageCoderModel_9 o0 rfl d_MessageCoderModel_cost_21 ?_
        refine x_bipush hC d_MessageCoderModel_cost_24 (v := nI 10) (by decide) ?_
        refine x_iload_n hC d_MessageCoderModel_cost_26 rfl rfl ?_
        refine x_iadd hC d_MessageCoderModel_cost_27 (v := (nI (10 + i))) (x_addN (by omega)) ?_
        refine x_iald hC ga (j := 10 + i) ⟨rfl, by omega, by omega⟩ (x := nI (A.1 i)) (congrArg nI (hr.2.1 i (by omega))) d_MessageCoderModel_cost_28 ?_
        refine x_aload_n hC d_MessageCoderModel_cost_29 rfl rfl ?_
        refine x_getf hC kf_MessageCoderModel_13 o0 rfl d_MessageCoderModel_cost_30 ?_
        refine x_iload_n hC d_MessageCoderModel_cost_33 rfl rfl ?_
        refine x_iald hC h2 (j := i) ⟨rfl, by omega, by omega⟩ (x := nI (hLen A.1 i)) (congrArg nI (pk_6 i (by omega)).1) d_MessageCoderModel_cost_34 ?_
        refine x_imul hC d_MessageCoderModel_cost_35 (v := (nI ((A.1 i) * (hLen A.1 i)))) (pk_mul _ _) ?_
        refine x_iadd hC d_MessageCoderModel_cost_36 (v := (nI ((t) + ((A.1 i) * (hLen A.1 i))))) (x_addN (by omega)) ?_
        refine x_istore_n hC d_MessageCoderModel_cost_37 rfl (Nat.le_of_ble_eq_true rfl) (L1 := [some (.ref m), some (.int (nI ((t) + ((A.1 i) * (hLen A.1 i))))), some (.int (nI (i)))]) rfl ?_
        refine x_iinc hC d_MessageCoderModel_cost_38 rfl (v := (nI (i + 1))) (x_incN 1) (Nat.le_of_ble_eq_true rfl) (L1 := [some (.ref m), some (.int (nI ((t) + ((A.1 i) * (hLen A.1 i))))), some (.int (nI (i + 1)))]) rfl ?_
        refine x_goto hC d_MessageCoderModel_cost_41 (tgt := 13) (by decide) ?_
        exact ih_13 Fh13 (i + 1) (t + A.1 i * hLen A.1 i) o0 ga h2 h3 h4 h5 h6 h7 h8 h9 hi hcm hag (by omega) (by rw [kt]; rfl) (by omega) (by omega)
  exact loop_13 (8 - 0 + 1) F2 (0) (0) o0 ga h2 h3 h4 h5 h6 h7 h8 h9 hi hcm hag (by omega) (rfl) (by omega) (by omega)

theorem d_MessageCoderModel_isComplete_0 : decode prog_14_method_62_code 0 = .ok (.aload_n 0, 1) := by decide +kernel
theorem d_MessageCoderModel_isComplete_1 : decode prog_14_method_62_code 1 = .ok (.iconst 0, 1) := by decide +kernel
theorem d_MessageCoderModel_isComplete_2 : decode prog_14_method_62_code 2 = .ok (.putfield 51, 3) := by decide +kernel
theorem d_MessageCoderModel_isComplete_5 : decode prog_14_method_62_code 5 = .ok (.aload_n 0, 1) := by decide +kernel
theorem d_MessageCoderModel_isComplete_6 : decode prog_14_method_62_code 6 = .ok (.invokevirtual 91, 3) := by decide +kernel
theorem d_MessageCoderModel_isComplete_9 : decode prog_14_method_62_code 9 = .ok (.iconst 0, 1) := by decide +kernel
theorem d_MessageCoderModel_isComplete_10 : decode prog_14_method_62_code 10 = .ok (.istore_n 1, 1) := by decide +kernel
theorem d_MessageCoderModel_isComplete_11 : decode prog_14_method_62_code 11 = .ok (.iconst 0, 1) := by decide +kernel
theorem d_MessageCoderModel_isComplete_12 : decode prog_14_method_62_code 12 = .ok (.istore_n 2, 1) := by decide +kernel
theorem d_MessageCoderModel_isComplete_13 : decode prog_14_method_62_code 13 = .ok (.iload_n 2, 1) := by decide +kernel
theorem d_MessageCoderModel_isComplete_14 : decode prog_14_method_62_code 14 = .ok (.bipush 8, 2) := by decide +kernel
theorem d_MessageCoderModel_isComplete_16 : decode prog_14_method_62_code 16 = .ok (.if_icmp .ge 23, 3) := by decide +kernel
theorem d_MessageCoderModel_isComplete_19 : decode prog_14_method_62_code 19 = .ok (.iload_n 1, 1) := by decide +kernel
theorem d_MessageCoderModel_isComplete_20 : decode prog_14_method_62_code 20 = .ok (.iconst 1, 1) := by decide +kernel
theorem d_MessageCoderModel_isComplete_21 : decode prog_14_method_62_code 21 = .ok (.bipush 8, 2) := by decide +kernel
theorem d_MessageCoderModel_isComplete_23 : decode prog_14_method_62_code 23 = .ok (.aload_n 0, 1) := by decide +kernel
theorem d_MessageCoderModel_isComplete_24 : decode prog_14_method_62_code 24 = .ok (.getfield 13, 3) := by decide +kernel
theorem d_MessageCoderModel_isComplete_27 : decode prog_14_method_62_code 27 = .ok (.iload_n 2, 1) := by decide +kernel
theorem d_MessageCoderModel_isComplete_28 : decode prog_14_method_62_code 28 = .ok (.iaload, 1) := by decide +kernel
theorem d_MessageCoderModel_isComplete_29 : decode prog_14_method_62_code 29 = .ok (.isub, 1) := by decide +kernel
theorem d_MessageCoderModel_isComplete_30 : decode prog_14_method_62_code 30 = .ok (.ishl, 1) := by decide +kernel
theorem d_MessageCoderModel_isComplete_31 : decode prog_14_method_62_code 31 = .ok (.iadd, 1) := by decide +kernel
theorem d_MessageCoderModel_isComplete_32 : decode prog_14_method_62_code 32 = .ok (.istore_n 1, 1) := by decide +kernel
theorem d_MessageCoderModel_isComplete_33 : decode prog_14_method_62_code 33 = .ok (.iinc 2 1, 3) := by decide +kernel
theorem d_MessageCoderModel_isComplete_36 : decode prog_14_method_62_code 36 = .ok (.goto (-23), 3) := by decide +kernel
theorem d_MessageCoderModel_isComplete_39 : decode prog_14_method_62_code 39 = .ok (.iload_n 1, 1) := by decide +kernel
theorem d_MessageCoderModel_isComplete_40 : decode prog_14_method_62_code 40 = .ok (.sipush 256, 3) := by decide +kernel
theorem d_MessageCoderModel_isComplete_43 : decode prog_14_method_62_code 43 = .ok (.if_icmp .ne 7, 3) := by decide +kernel
theorem d_MessageCoderModel_isComplete_46 : decode prog_14_method_62_code 46 = .ok (.iconst 1, 1) := by decide +kernel
theorem d_MessageCoderModel_isComplete_47 : decode prog_14_method_62_code 47 = .ok (.goto 4, 3) := by decide +kernel
theorem d_MessageCoderModel_isComplete_50 : decode prog_14_method_62_code 50 = .ok (.iconst 0, 1) := by decide +kernel
theorem d_MessageCoderModel_isComplete_51 : decode prog_14_method_62_code 51 = .ok (.ireturn, 1) := by decide +kernel
set_option maxHeartbeats 4000000 in
set_option maxRecDepth 20000 in
theorem c_MessageCoderModel_isComplete {P : xP} {F : xF} {z : Nat} {m : Nat} {th0 : Nat} {M : mcS} (hD : xMD F (m) (th0) (M)) (hI : mInv M) : xM P xy_MessageCoderModel_isComplete [.ref m] F (z) 0 0 (fun r9 F9 z9 => r9 = some (.int (nI 1)) ∧ z9 = z ∧ xMD F9 (m) (0) (M) ∧ (∀ a9 : Nat, (a9 < m ∨ m + 12 ≤ a9) → F9 a9 = F a9)) := by
  refine xM_i .boolean rfl (Nat.le_of_ble_eq_true rfl) (L0 := [some (.ref m), none, none]) rfl rfl fun Θ hC hret => ?_
  have hag : ∀ a9 : Nat, (a9 < m ∨ m + 12 ≤ a9) → F a9 = F a9 := fun a9 _ => rfl
  obtain ⟨A, S, past, ⟨pn, psg⟩, ⟨lnn, lsg⟩, sv, pp, un, ep, fc⟩ := M
  obtain ⟨rs, er, bm, dm, he, cn, g, l2, v3, r4, w5, b6, d7, b8, ln, ip, cs, o0, ga, h2, h3, h4, h5, h6, h7, h8, h9, hi, hcm, hg, hln, hip⟩ := id hD
  obtain ⟨iA, iP, iS, hu8, hup, hs1, hty, hlz, hic, hlc⟩ := id hI
  have o0 : F (m) = some (.inl (10, [.int (nI (th0)), .ref (m + 1), .int (nI (un)), .int (nI (sv)), .int rs, .ref (m + 2), .ref (m + 3), .ref (m + 4), .ref (m + 5), .ref (m + 6), .int (nI (bm)), .ref (m + 7), .int (nI (dm)), .ref (m + 8), .ref (m + 9), .int (nI (lnn)), .ref (m + 10), .int (nI (pn)), .int (nI (he)), .int er, .int ep, .int fc, .ref (m + 11), .int (nI (cn))])) := o0
  have ga : F (m + 1) = some (.inr (0, 4730, fun b9 => .int (nI (g b9)))) := ga
  have h2 : F (m + 2) = some (.inr (0, 8, fun b9 => .int (nI (l2 b9)))) := h2
  have h3 : F (m + 3) = some (.inr (0, 8, fun b9 => .int (nI (v3 b9)))) := h3
  have h4 : F (m + 4) = some (.inr (0, 8, fun b9 => .int (nI (r4 b9)))) := h4
  have h5 : F (m + 5) = some (.inr (0, 8, fun b9 => .int (nI (w5 b9)))) := h5
  have h6 : F (m + 6) = some (.inr (0, 112, fun b9 => .int (nI (b6 b9)))) := h6
  have h7 : F (m + 7) = some (.inr (0, 16, fun b9 => .int (nI (d7 b9)))) := h7
  have h8 : F (m + 8) = some (.inr (0, 17, fun b9 => .int (nI (b8 b9)))) := h8
  have h9 : F (m + 9) = some (.inr (1, 40, fun b9 => .int (nI (ln b9)))) := h9
  have hi : F (m + 10) = some (.inr (1, 60, fun b9 => .int (nI (ip b9)))) := hi
  have hcm : F (m + 11) = some (.inr (0, 183, fun b9 => .int (nI (cs b9)))) := hcm
  have hln : ∀ j, j < lnn → ln j = lsg j := hln
  have hip : ∀ j, j < pn → ip j = psg j := hip
  have iA : aInv A := iA
  have hu8 : un ≤ 8 := hu8
  have hup : un ≤ pp := hup
  have hs1 : sv ≤ 1 := hs1
  have hty : pn ≤ 60 := hty
  have hlz : lnn ≤ 32 := hlz
  have hr : rRow g A := hg.1
  refine x_aload_n hC d_MessageCoderModel_isComplete_0 rfl rfl ?_
  refine x_iconst hC d_MessageCoderModel_isComplete_1 (v := nI 0) (by decide) ?_
  refine x_putf hC kf_MessageCoderModel_51 o0 (Nat.le_of_ble_eq_true rfl) rfl rfl d_MessageCoderModel_isComplete_2 (fs1 := [.int (nI 0), .ref (m + 1), .int (nI (un)), .int (nI (sv)), .int rs, .ref (m + 2), .ref (m + 3), .ref (m + 4), .ref (m + 5), .ref (m + 6), .int (nI (bm)), .ref (m + 7), .int (nI (dm)), .ref (m + 8), .ref (m + 9), .int (nI (lnn)), .ref (m + 10), .int (nI (pn)), .int (nI (he)), .int er, .int ep, .int fc, .ref (m + 11), .int (nI (cn))]) rfl ?_
  generalize e1 : xup F (m) (.inl (10, [.int (nI 0), .ref (m + 1), .int (nI (un)), .int (nI (sv)), .int rs, .ref (m + 2), .ref (m + 3), .ref (m + 4), .ref (m + 5), .ref (m + 6), .int (nI (bm)), .ref (m + 7), .int (nI (dm)), .ref (m + 8), .ref (m + 9), .int (nI (lnn)), .ref (m + 10), .int (nI (pn)), .int (nI (he)), .int er, .int ep, .int fc, .ref (m + 11), .int (nI (cn))])) = F1
  have o0 : F1 (m) = some (.inl (10, [.int (nI 0), .ref (m + 1), .int (nI (un)), .int (nI (sv)), .int rs, .ref (m + 2), .ref (m + 3), .ref (m + 4), .ref (m + 5), .ref (m + 6), .int (nI (bm)), .ref (m + 7), .int (nI (dm)), .ref (m + 8), .ref (m + 9), .int (nI (lnn)), .ref (m + 10), .int (nI (pn)), .int (nI (he)), .int er, .int ep, .int fc, .ref (m + 11), .int (nI (cn))])) := by rw [← e1]; exact xup_eq
  have ga : F1 (m + 1) = some (.inr (0, 4730, fun b9 => .int (nI (g b9)))) := by rw [← e1]; exact (xup_ne (by omega)).trans ga
  have h2 : F1 (m + 2) = some (.inr (0, 8, fun b9 => .int (nI (l2 b9)))) := by rw [← e1]; exact (xup_ne (by omega)).trans h2
  have h3 : F1 (m + 3) = some (.inr (0, 8, fun b9 => .int (nI (v3 b9)))) := by rw [← e1]; exact (xup_ne (by omega)).trans h3
  have h4 : F1 (m + 4) = some (.inr (0, 8, fun b9 => .int (nI (r4 b9)))) := by rw [← e1]; exact (xup_ne (by omega)).trans h4
  have h5 : F1 (m + 5) = some (.inr (0, 8, fun b9 => .int (nI (w5 b9)))) := by rw [← e1]; exact (xup_ne (by omega)).trans h5
  have h6 : F1 (m + 6) = some (.inr (0, 112, fun b9 => .int (nI (b6 b9)))) := by rw [← e1]; exact (xup_ne (by omega)).trans h6
  have h7 : F1 (m + 7) = some (.inr (0, 16, fun b9 => .int (nI (d7 b9)))) := by rw [← e1]; exact (xup_ne (by omega)).trans h7
  have h8 : F1 (m + 8) = some (.inr (0, 17, fun b9 => .int (nI (b8 b9)))) := by rw [← e1]; exact (xup_ne (by omega)).trans h8
  have h9 : F1 (m + 9) = some (.inr (1, 40, fun b9 => .int (nI (ln b9)))) := by rw [← e1]; exact (xup_ne (by omega)).trans h9
  have hi : F1 (m + 10) = some (.inr (1, 60, fun b9 => .int (nI (ip b9)))) := by rw [← e1]; exact (xup_ne (by omega)).trans hi
  have hcm : F1 (m + 11) = some (.inr (0, 183, fun b9 => .int (nI (cs b9)))) := by rw [← e1]; exact (xup_ne (by omega)).trans hcm
  have hag : ∀ a9 : Nat, (a9 < m ∨ m + 12 ≤ a9) → F1 a9 = F a9 := fun a9 q0 => by rw [← e1]; exact (xup_ne (by omega)).trans (hag a9 q0)
  refine x_aload_n hC d_MessageCoderModel_isComplete_5 rfl rfl ?_
  refine x_callV hC kv_MessageCoderModel_91 (c_MessageCoderModel_codes (o0 := o0) (ga := ga) (h2 := h2) (h3 := h3) (h4 := h4) (h5 := h5) (hw := hr.2.1) (hw9 := fun j hj => (iA.2.1 j hj).2) (w := A.1)) o0 rfl rfl (by decide) rfl rfl rfl (Nat.le_of_ble_eq_true rfl) (by decide) d_MessageCoderModel_isComplete_6 (fun r9 F9 z9 hp9 => ?_)
  obtain ⟨ln1_6, vl1_6, gr1_6, gw1_6, rfl, h9c, j0, j1, j2, j3, j4, j5, pk_6, hag9⟩ := hp9
  rw [h9c]
  clear h9c z9
  generalize F9 = F2 at *
  have h6 : F2 (m + 6) = some (.inr (0, 112, fun b9 => .int (nI (b6 b9)))) := (hag9 _ (by omega)).trans h6
  have h7 : F2 (m + 7) = some (.inr (0, 16, fun b9 => .int (nI (d7 b9)))) := (hag9 _ (by omega)).trans h7
  have h8 : F2 (m + 8) = some (.inr (0, 17, fun b9 => .int (nI (b8 b9)))) := (hag9 _ (by omega)).trans h8
  have h9 : F2 (m + 9) = some (.inr (1, 40, fun b9 => .int (nI (ln b9)))) := (hag9 _ (by omega)).trans h9
  have hi : F2 (m + 10) = some (.inr (1, 60, fun b9 => .int (nI (ip b9)))) := (hag9 _ (by omega)).trans hi
  have hcm : F2 (m + 11) = some (.inr (0, 183, fun b9 => .int (nI (cs b9)))) := (hag9 _ (by omega)).trans hcm
  have o0 : F2 (m) = some (.inl (10, [.int (nI 0), .ref (m + 1), .int (nI (un)), .int (nI (sv)), .int rs, .ref (m + 2), .ref (m + 3), .ref (m + 4), .ref (m + 5), .ref (m + 6), .int (nI (bm)), .ref (m + 7), .int (nI (dm)), .ref (m + 8), .ref (m + 9), .int (nI (lnn)), .ref (m + 10), .int (nI (pn)), .int (nI (he)), .int er, .int ep, .int fc, .ref (m + 11), .int (nI (cn))])) := j0
  have ga : F2 (m + 1) = some (.inr (0, 4730, fun b9 => .int (nI (g b9)))) := j1
  have h2 : F2 (m + 2) = some (.inr (0, 8, fun b9 => .int (nI (ln1_6 b9)))) := j2
  have h3 : F2 (m + 3) = some (.inr (0, 8, fun b9 => .int (nI (vl1_6 b9)))) := j3
  have h4 : F2 (m + 4) = some (.inr (0, 8, fun b9 => .int (nI (gr1_6 b9)))) := j4
  have h5 : F2 (m + 5) = some (.inr (0, 8, fun b9 => .int (nI (gw1_6 b9)))) := j5
  have hag : ∀ a9 : Nat, (a9 < m ∨ m + 12 ≤ a9) → F2 a9 = F a9 := fun a9 q0 => (hag9 a9 (by omega)).trans (hag a9 q0)
  have hg_6 := hag9
  clear hag9
  refine x_iconst hC d_MessageCoderModel_isComplete_9 (v := nI 0) (by decide) ?_
  refine x_istore_n hC d_MessageCoderModel_isComplete_10 rfl (Nat.le_of_ble_eq_true rfl) (L1 := [some (.ref m), some (.int (nI 0)), none]) rfl ?_
  refine x_iconst hC d_MessageCoderModel_isComplete_11 (v := nI 0) (by decide) ?_
  refine x_istore_n hC d_MessageCoderModel_isComplete_12 rfl (Nat.le_of_ble_eq_true rfl) (L1 := [some (.ref m), some (.int (nI 0)), some (.int (nI 0))]) rfl ?_
  have loop_13 : ∀ (m9 : Nat) (Fh13 : xF) (i : Nat) (t : Nat), (Fh13 (m) = some (.inl (10, [.int (nI 0), .ref (m + 1), .int (nI (un)), .int (nI (sv)), .int rs, .ref (m + 2), .ref (m + 3), .ref (m + 4), .ref (m + 5), .ref (m + 6), .int (nI (bm)), .ref (m + 7), .int (nI (dm)), .ref (m + 8), .ref (m + 9), .int (nI (lnn)), .ref (m + 10), .int (nI (pn)), .int (nI (he)), .int er, .int ep, .int fc, .ref (m + 11), .int (nI (cn))]))) → (Fh13 (m + 1) = some (.inr (0, 4730, fun b9 => .int (nI (g b9))))) → (Fh13 (m + 2) = some (.inr (0, 8, fun b9 => .int (nI (ln1_6 b9))))) → (Fh13 (m + 3) = some (.inr (0, 8, fun b9 => .int (nI (vl1_6 b9))))) → (Fh13 (m + 4) = some (.inr (0, 8, fun b9 => .int (nI (gr1_6 b9))))) → (Fh13 (m + 5) = some (.inr (0, 8, fun b9 => .int (nI (gw1_6 b9))))) → (Fh13 (m + 6) = some (.inr (0, 112, fun b9 => .int (nI (b6 b9))))) → (Fh13 (m + 7) = some (.inr (0, 16, fun b9 => .int (nI (d7 b9))))) → (Fh13 (m + 8) = some (.inr (0, 17, fun b9 => .int (nI (b8 b9))))) → (Fh13 (m + 9) = some (.inr (1, 40, fun b9 => .int (nI (ln b9))))) → (Fh13 (m + 10) = some (.inr (1, 60, fun b9 => .int (nI (ip b9))))) → (Fh13 (m + 11) = some (.inr (0, 183, fun b9 => .int (nI (cs b9))))) → (∀ a9 : Nat, (a9 < m ∨ m + 12 ≤ a9) → Fh13 a9 = F a9) → (i ≤ 8) → (t = sumN (fun j => 2 ^ (8 - hLen A.1 j)) i) → (t ≤ 256 * i) → (8 - i < m9) → xX P Θ 13 [some (.ref m), some (.int (nI (t))), some (.int (nI (i)))] [] Fh13 (z) 0 0 := by
    intro m9
    induction m9 with
    | zero => intros; omega
    | succ m9 ih_13 =>
      intro Fh13 i t o0 ga h2 h3 h4 h5 h6 h7 h8 h9 hi hcm hag hi8 kt kb hm_13
      refine x_iload_n hC d_MessageCoderModel_isComplete_13 rfl rfl ?_
      refine x_bipush hC d_MessageCoderModel_isComplete_14 (v := nI 8) (by decide) ?_
      refine x_icmpN_ge hC d_MessageCoderModel_isComplete_16 (tgt := 39) (by decide) (by omega) (by omega) (fun c_16 => ?_) (fun c_16 => ?_)
      · skip
        have e8 : i = 8 := by omega
        have ht : t = 256 := by rw [kt, e8]; exact hKraft8 _
        refine x_iload_n hC d_MessageCoderModel_isComplete_39 rfl rfl ?_
        refine x_sipush hC d_MessageCoderModel_isComplete_40 (v := nI 256) (by decide) ?_
        refine x_icmpN_ne hC d_MessageCoderModel_isComplete_43 (tgt := 50) (by decide) (by omega) (by omega) (fun c_43 => ?_) (fun c_43 => ?_)
        · skip
          exact absurd ht c_43
        · skip
          refine x_iconst hC d_MessageCoderModel_isComplete_46 (v := nI 1) (by decide) ?_
          refine x_goto hC d_MessageCoderModel_isComplete_47 (tgt := 51) (by decide) ?_
          exact hret _ _ _ _ _ _ _ d_MessageCoderModel_isComplete_51 (by decide) (by decide) rfl (⟨rfl, rfl, ⟨_, _, _, _, _, _, _, _, _, _, _, _, _, _, _, _, _, o0, ga, h2, h3, h4, h5, h6, h7, h8, h9, hi, hcm, hg, hln, hip⟩, hag⟩)
      · skip
        have hli := hLen_7 A.1 (show i < 8 by omega)
        have hpw : 2 ^ (8 - hLen A.1 i) ≤ 2 ^ 8 := Nat.pow_le_pow_right (by omega) (by omega)
        refine x_iload_n hC d_MessageCoderModel_isComplete_19 rfl rfl ?_
        refine x_iconst hC d_MessageCoderModel_isComplete_20 (v := nI 1) (by decide) ?_
        refine x_bipush hC d_MessageCoderModel_isComplete_21 (v := nI 8) (by decide) ?_
        refine x_aload_n hC d_MessageCoderModel_isComplete_23 rfl rfl ?_
        refine x_getf hC kf_MessageCoderModel_13 o0 rfl d_MessageCoderModel_isComplete_24 ?_
        refine x_iload_n hC d_MessageCoderModel_isComplete_27 rfl rfl ?_
        refine x_iald hC h2 (j := i) ⟨rfl, by omega, by omega⟩ (x := nI (hLen A.1 i)) (congrArg nI (pk_6 i (by omega)).1) d_MessageCoderModel_isComplete_28 ?_
        refine x_isub hC d_MessageCoderModel_isComplete_29 (v := (nI ((8) - (hLen A.1 i)))) (pk_sub (by omega)) ?_
        refine x_ishl hC d_MessageCoderModel_isComplete_30 (v := (nI (2 ^ (8 - hLen A.1 i)))) (x_shlN _ (by omega) (by omega) (Nat.one_mul _)) ?_
        refine x_iadd hC d_MessageCoderModel_isComplete_31 (v := (nI ((t) + (2 ^ (8 - hLen A.1 i))))) (x_addN (by omega)) ?_
        refine x_istore_n hC d_MessageCoderModel_isComplete_32 rfl (Nat.le_of_ble_eq_true rfl) (L1 := [some (.ref m), some (.int (nI ((t) + (2 ^ (8 - hLen A.1 i))))), some (.int (nI (i)))]) rfl ?_
        refine x_iinc hC d_MessageCoderModel_isComplete_33 rfl (v := (nI (i + 1))) (x_incN 1) (Nat.le_of_ble_eq_true rfl) (L1 := [some (.ref m), some (.int (nI ((t) + (2 ^ (8 - hLen A.1 i))))), some (.int (nI (i + 1)))]) rfl ?_
        refine x_goto hC d_MessageCoderModel_isComplete_36 (tgt := 13) (by decide) ?_
        exact ih_13 Fh13 (i + 1) (t + 2 ^ (8 - hLen A.1 i)) o0 ga h2 h3 h4 h5 h6 h7 h8 h9 hi hcm hag (by omega) (by rw [kt]; rfl) (by omega) (by omega)
  exact loop_13 (8 - 0 + 1) F2 (0) (0) o0 ga h2 h3 h4 h5 h6 h7 h8 h9 hi hcm hag (by omega) (rfl) (by omega) (by omega)

theorem d_MessageCoderModel_draftLength_0 : decode prog_14_method_65_code 0 = .ok (.aload_n 0, 1) := by decide +kernel
theorem d_MessageCoderModel_draftLength_1 : decode prog_14_method_65_code 1 = .ok (.iconst 0, 1) := by decide +kernel
theorem d_MessageCoderModel_draftLength_2 : decode prog_14_method_65_code 2 = .ok (.invokevirtual 202, 3) := by decide +kernel
theorem d_MessageCoderModel_draftLength_5 : decode prog_14_method_65_code 5 = .ok (.ireturn, 1) := by decide +kernel
set_option maxHeartbeats 4000000 in
set_option maxRecDepth 20000 in
theorem c_MessageCoderModel_draftLength {P : xP} {F : xF} {z : Nat} {m : Nat} {th0 : Nat} {M : mcS} (hD : xMD F (m) (th0) (M)) (hI : mInv M) : xM P xy_MessageCoderModel_draftLength [.ref m] F (z) 0 0 (fun r9 F9 z9 => r9 = some (.int (nI (M.1.2.1.1))) ∧ z9 = z ∧ xMD F9 (m) (0) (M) ∧ (∀ a9 : Nat, (a9 < m ∨ m + 12 ≤ a9) → F9 a9 = F a9)) := by
  refine xM_i .int rfl (Nat.le_of_ble_eq_true rfl) (L0 := [some (.ref m)]) rfl rfl fun Θ hC hret => ?_
  have hag : ∀ a9 : Nat, (a9 < m ∨ m + 12 ≤ a9) → F a9 = F a9 := fun a9 _ => rfl
  obtain ⟨A, S, past, ⟨pn, psg⟩, ⟨lnn, lsg⟩, sv, pp, un, ep, fc⟩ := M
  obtain ⟨rs, er, bm, dm, he, cn, g, l2, v3, r4, w5, b6, d7, b8, ln, ip, cs, o0, ga, h2, h3, h4, h5, h6, h7, h8, h9, hi, hcm, hg, hln, hip⟩ := id hD
  obtain ⟨iA, iP, iS, hu8, hup, hs1, hty, hlz, hic, hlc⟩ := id hI
  have o0 : F (m) = some (.inl (10, [.int (nI (th0)), .ref (m + 1), .int (nI (un)), .int (nI (sv)), .int rs, .ref (m + 2), .ref (m + 3), .ref (m + 4), .ref (m + 5), .ref (m + 6), .int (nI (bm)), .ref (m + 7), .int (nI (dm)), .ref (m + 8), .ref (m + 9), .int (nI (lnn)), .ref (m + 10), .int (nI (pn)), .int (nI (he)), .int er, .int ep, .int fc, .ref (m + 11), .int (nI (cn))])) := o0
  have ga : F (m + 1) = some (.inr (0, 4730, fun b9 => .int (nI (g b9)))) := ga
  have h2 : F (m + 2) = some (.inr (0, 8, fun b9 => .int (nI (l2 b9)))) := h2
  have h3 : F (m + 3) = some (.inr (0, 8, fun b9 => .int (nI (v3 b9)))) := h3
  have h4 : F (m + 4) = some (.inr (0, 8, fun b9 => .int (nI (r4 b9)))) := h4
  have h5 : F (m + 5) = some (.inr (0, 8, fun b9 => .int (nI (w5 b9)))) := h5
  have h6 : F (m + 6) = some (.inr (0, 112, fun b9 => .int (nI (b6 b9)))) := h6
  have h7 : F (m + 7) = some (.inr (0, 16, fun b9 => .int (nI (d7 b9)))) := h7
  have h8 : F (m + 8) = some (.inr (0, 17, fun b9 => .int (nI (b8 b9)))) := h8
  have h9 : F (m + 9) = some (.inr (1, 40, fun b9 => .int (nI (ln b9)))) := h9
  have hi : F (m + 10) = some (.inr (1, 60, fun b9 => .int (nI (ip b9)))) := hi
  have hcm : F (m + 11) = some (.inr (0, 183, fun b9 => .int (nI (cs b9)))) := hcm
  have hln : ∀ j, j < lnn → ln j = lsg j := hln
  have hip : ∀ j, j < pn → ip j = psg j := hip
  have iA : aInv A := iA
  have hu8 : un ≤ 8 := hu8
  have hup : un ≤ pp := hup
  have hs1 : sv ≤ 1 := hs1
  have hty : pn ≤ 60 := hty
  have hlz : lnn ≤ 32 := hlz
  have hr : rRow g A := hg.1
  refine x_aload_n hC d_MessageCoderModel_draftLength_0 rfl rfl ?_
  refine x_iconst hC d_MessageCoderModel_draftLength_1 (v := nI 0) (by decide) ?_
  refine x_callV hC kv_MessageCoderModel_202 (c_MessageCoderModel_told (o0 := o0) (ga := ga) (hi := by omega)) o0 rfl rfl (by decide) rfl rfl rfl (Nat.le_of_ble_eq_true rfl) (by decide) d_MessageCoderModel_draftLength_2 (fun r9 F9 z9 hp9 => ?_)
  obtain ⟨rfl, h9c, j0, hag9⟩ := hp9
  rw [h9c]
  clear h9c z9
  generalize F9 = F1 at *
  have ga : F1 (m + 1) = some (.inr (0, 4730, fun b9 => .int (nI (g b9)))) := (hag9 _ (by omega)).trans ga
  have h2 : F1 (m + 2) = some (.inr (0, 8, fun b9 => .int (nI (l2 b9)))) := (hag9 _ (by omega)).trans h2
  have h3 : F1 (m + 3) = some (.inr (0, 8, fun b9 => .int (nI (v3 b9)))) := (hag9 _ (by omega)).trans h3
  have h4 : F1 (m + 4) = some (.inr (0, 8, fun b9 => .int (nI (r4 b9)))) := (hag9 _ (by omega)).trans h4
  have h5 : F1 (m + 5) = some (.inr (0, 8, fun b9 => .int (nI (w5 b9)))) := (hag9 _ (by omega)).trans h5
  have h6 : F1 (m + 6) = some (.inr (0, 112, fun b9 => .int (nI (b6 b9)))) := (hag9 _ (by omega)).trans h6
  have h7 : F1 (m + 7) = some (.inr (0, 16, fun b9 => .int (nI (d7 b9)))) := (hag9 _ (by omega)).trans h7
  have h8 : F1 (m + 8) = some (.inr (0, 17, fun b9 => .int (nI (b8 b9)))) := (hag9 _ (by omega)).trans h8
  have h9 : F1 (m + 9) = some (.inr (1, 40, fun b9 => .int (nI (ln b9)))) := (hag9 _ (by omega)).trans h9
  have hi : F1 (m + 10) = some (.inr (1, 60, fun b9 => .int (nI (ip b9)))) := (hag9 _ (by omega)).trans hi
  have hcm : F1 (m + 11) = some (.inr (0, 183, fun b9 => .int (nI (cs b9)))) := (hag9 _ (by omega)).trans hcm
  have o0 : F1 (m) = some (.inl (10, [.int (nI 0), .ref (m + 1), .int (nI (un)), .int (nI (sv)), .int rs, .ref (m + 2), .ref (m + 3), .ref (m + 4), .ref (m + 5), .ref (m + 6), .int (nI (bm)), .ref (m + 7), .int (nI (dm)), .ref (m + 8), .ref (m + 9), .int (nI (lnn)), .ref (m + 10), .int (nI (pn)), .int (nI (he)), .int er, .int ep, .int fc, .ref (m + 11), .int (nI (cn))])) := j0
  have hag : ∀ a9 : Nat, (a9 < m ∨ m + 12 ≤ a9) → F1 a9 = F a9 := fun a9 q0 => (hag9 a9 (by omega)).trans (hag a9 q0)
  have hg_2 := hag9
  clear hag9
  exact hret _ _ _ _ _ _ _ d_MessageCoderModel_draftLength_5 (by decide) (by decide) rfl (⟨congrArg (fun q => some (Value.int (nI q))) (hr.1.1), rfl, ⟨_, _, _, _, _, _, _, _, _, _, _, _, _, _, _, _, _, o0, ga, h2, h3, h4, h5, h6, h7, h8, h9, hi, hcm, hg, hln, hip⟩, hag⟩)

theorem d_MessageCoderModel_draftAt_0 : decode prog_14_method_66_code 0 = .ok (.aload_n 0, 1) := by decide +kernel
theorem d_MessageCoderModel_draftAt_1 : decode prog_14_method_66_code 1 = .ok (.iload_n 1, 1) := by decide +kernel
theorem d_MessageCoderModel_draftAt_2 : decode prog_14_method_66_code 2 = .ok (.iconst 0, 1) := by decide +kernel
theorem d_MessageCoderModel_draftAt_3 : decode prog_14_method_66_code 3 = .ok (.aload_n 0, 1) := by decide +kernel
theorem d_MessageCoderModel_draftAt_4 : decode prog_14_method_66_code 4 = .ok (.getfield 9, 3) := by decide +kernel
theorem d_MessageCoderModel_draftAt_7 : decode prog_14_method_66_code 7 = .ok (.iconst 0, 1) := by decide +kernel
theorem d_MessageCoderModel_draftAt_8 : decode prog_14_method_66_code 8 = .ok (.iaload, 1) := by decide +kernel
theorem d_MessageCoderModel_draftAt_9 : decode prog_14_method_66_code 9 = .ok (.iconst 1, 1) := by decide +kernel
theorem d_MessageCoderModel_draftAt_10 : decode prog_14_method_66_code 10 = .ok (.isub, 1) := by decide +kernel
theorem d_MessageCoderModel_draftAt_11 : decode prog_14_method_66_code 11 = .ok (.invokestatic 64, 3) := by decide +kernel
theorem d_MessageCoderModel_draftAt_14 : decode prog_14_method_66_code 14 = .ok (.invokevirtual 195, 3) := by decide +kernel
theorem d_MessageCoderModel_draftAt_17 : decode prog_14_method_66_code 17 = .ok (.ifCond .eq 19, 3) := by decide +kernel
theorem d_MessageCoderModel_draftAt_20 : decode prog_14_method_66_code 20 = .ok (.bipush 97, 2) := by decide +kernel
theorem d_MessageCoderModel_draftAt_22 : decode prog_14_method_66_code 22 = .ok (.aload_n 0, 1) := by decide +kernel
theorem d_MessageCoderModel_draftAt_23 : decode prog_14_method_66_code 23 = .ok (.getfield 9, 3) := by decide +kernel
theorem d_MessageCoderModel_draftAt_26 : decode prog_14_method_66_code 26 = .ok (.bipush 18, 2) := by decide +kernel
theorem d_MessageCoderModel_draftAt_28 : decode prog_14_method_66_code 28 = .ok (.iload_n 1, 1) := by decide +kernel
theorem d_MessageCoderModel_draftAt_29 : decode prog_14_method_66_code 29 = .ok (.iadd, 1) := by decide +kernel
theorem d_MessageCoderModel_draftAt_30 : decode prog_14_method_66_code 30 = .ok (.iaload, 1) := by decide +kernel
theorem d_MessageCoderModel_draftAt_31 : decode prog_14_method_66_code 31 = .ok (.iadd, 1) := by decide +kernel
theorem d_MessageCoderModel_draftAt_32 : decode prog_14_method_66_code 32 = .ok (.i2c, 1) := by decide +kernel
theorem d_MessageCoderModel_draftAt_33 : decode prog_14_method_66_code 33 = .ok (.goto 4, 3) := by decide +kernel
theorem d_MessageCoderModel_draftAt_36 : decode prog_14_method_66_code 36 = .ok (.iconst 0, 1) := by decide +kernel
theorem d_MessageCoderModel_draftAt_37 : decode prog_14_method_66_code 37 = .ok (.ireturn, 1) := by decide +kernel
set_option maxHeartbeats 4000000 in
set_option maxRecDepth 20000 in
theorem c_MessageCoderModel_draftAt {P : xP} {F : xF} {z : Nat} {m : Nat} {th0 : Nat} {M : mcS} {i : Int32} (hD : xMD F (m) (th0) (M)) (hI : mInv M) : xM P xy_MessageCoderModel_draftAt [.ref m, .int i] F (z) 0 0 (fun r9 F9 z9 => r9 = some (.int (nI (if 0 ≤ i ∧ i < nI M.1.2.1.1 then M.1.2.1.2 i.toNatClampNeg else 0))) ∧ z9 = z ∧ xMD F9 (m) ((if 0 ≤ i ∧ i < nI M.1.2.1.1 then 0 else 1)) (M) ∧ (∀ a9 : Nat, (a9 < m ∨ m + 12 ≤ a9) → F9 a9 = F a9)) := by
  refine xM_i .char rfl (Nat.le_of_ble_eq_true rfl) (L0 := [some (.ref m), some (.int i)]) rfl rfl fun Θ hC hret => ?_
  have hag : ∀ a9 : Nat, (a9 < m ∨ m + 12 ≤ a9) → F a9 = F a9 := fun a9 _ => rfl
  obtain ⟨A, S, past, ⟨pn, psg⟩, ⟨lnn, lsg⟩, sv, pp, un, ep, fc⟩ := M
  obtain ⟨rs, er, bm, dm, he, cn, g, l2, v3, r4, w5, b6, d7, b8, ln, ip, cs, o0, ga, h2, h3, h4, h5, h6, h7, h8, h9, hi, hcm, hg, hln, hip⟩ := id hD
  obtain ⟨iA, iP, iS, hu8, hup, hs1, hty, hlz, hic, hlc⟩ := id hI
  have o0 : F (m) = some (.inl (10, [.int (nI (th0)), .ref (m + 1), .int (nI (un)), .int (nI (sv)), .int rs, .ref (m + 2), .ref (m + 3), .ref (m + 4), .ref (m + 5), .ref (m + 6), .int (nI (bm)), .ref (m + 7), .int (nI (dm)), .ref (m + 8), .ref (m + 9), .int (nI (lnn)), .ref (m + 10), .int (nI (pn)), .int (nI (he)), .int er, .int ep, .int fc, .ref (m + 11), .int (nI (cn))])) := o0
  have ga : F (m + 1) = some (.inr (0, 4730, fun b9 => .int (nI (g b9)))) := ga
  have h2 : F (m + 2) = some (.inr (0, 8, fun b9 => .int (nI (l2 b9)))) := h2
  have h3 : F (m + 3) = some (.inr (0, 8, fun b9 => .int (nI (v3 b9)))) := h3
  have h4 : F (m + 4) = some (.inr (0, 8, fun b9 => .int (nI (r4 b9)))) := h4
  have h5 : F (m + 5) = some (.inr (0, 8, fun b9 => .int (nI (w5 b9)))) := h5
  have h6 : F (m + 6) = some (.inr (0, 112, fun b9 => .int (nI (b6 b9)))) := h6
  have h7 : F (m + 7) = some (.inr (0, 16, fun b9 => .int (nI (d7 b9)))) := h7
  have h8 : F (m + 8) = some (.inr (0, 17, fun b9 => .int (nI (b8 b9)))) := h8
  have h9 : F (m + 9) = some (.inr (1, 40, fun b9 => .int (nI (ln b9)))) := h9
  have hi : F (m + 10) = some (.inr (1, 60, fun b9 => .int (nI (ip b9)))) := hi
  have hcm : F (m + 11) = some (.inr (0, 183, fun b9 => .int (nI (cs b9)))) := hcm
  have hln : ∀ j, j < lnn → ln j = lsg j := hln
  have hip : ∀ j, j < pn → ip j = psg j := hip
  have iA : aInv A := iA
  have hu8 : un ≤ 8 := hu8
  have hup : un ≤ pp := hup
  have hs1 : sv ≤ 1 := hs1
  have hty : pn ≤ 60 := hty
  have hlz : lnn ≤ 32 := hlz
  have hr : rRow g A := hg.1
  have u1 := iA.1.1
  refine x_aload_n hC d_MessageCoderModel_draftAt_0 rfl rfl ?_
  refine x_iload_n hC d_MessageCoderModel_draftAt_1 rfl rfl ?_
  refine x_iconst hC d_MessageCoderModel_draftAt_2 (v := nI 0) (by decide) ?_
  refine x_aload_n hC d_MessageCoderModel_draftAt_3 rfl rfl ?_
  refine x_getf hC kf_MessageCoderModel_9 o0 rfl d_MessageCoderModel_draftAt_4 ?_
  refine x_iconst hC d_MessageCoderModel_draftAt_7 (v := nI 0) (by decide) ?_
  refine x_iald hC ga (j := 0) ⟨rfl, by omega, by omega⟩ (x := nI (A.2.1.1)) (congrArg nI hr.1.1) d_MessageCoderModel_draftAt_8 ?_
  refine x_iconst hC d_MessageCoderModel_draftAt_9 (v := nI 1) (by decide) ?_
  refine x_isub hC d_MessageCoderModel_draftAt_10 (v := (nI A.2.1.1 - nI 1)) rfl ?_
  refine x_callS hC ks_MessageCoderModel_64 (c_MessageCoderModel_in ) (by decide) rfl rfl rfl (Nat.le_of_ble_eq_true rfl) (by decide) d_MessageCoderModel_draftAt_11 (fun r9 F9 z9 hp9 => ?_)
  obtain ⟨rfl, h9b, h9c⟩ := hp9
  rw [h9b, h9c]
  clear h9b h9c F9 z9
  refine x_top (v := (xb (0 ≤ i ∧ i < nI A.2.1.1))) (xb_c (fl_iff (by omega))) ?_
  refine x_callV hC kv_MessageCoderModel_195 (c_MessageCoderModel_isFine (o0 := o0)) o0 rfl rfl (by decide) rfl rfl rfl (Nat.le_of_ble_eq_true rfl) (by decide) d_MessageCoderModel_draftAt_14 (fun r9 F9 z9 hp9 => ?_)
  obtain ⟨rfl, h9c, j0, hag9⟩ := hp9
  rw [h9c]
  clear h9c z9
  generalize F9 = F1 at *
  have ga : F1 (m + 1) = some (.inr (0, 4730, fun b9 => .int (nI (g b9)))) := (hag9 _ (by omega)).trans ga
  have h2 : F1 (m + 2) = some (.inr (0, 8, fun b9 => .int (nI (l2 b9)))) := (hag9 _ (by omega)).trans h2
  have h3 : F1 (m + 3) = some (.inr (0, 8, fun b9 => .int (nI (v3 b9)))) := (hag9 _ (by omega)).trans h3
  have h4 : F1 (m + 4) = some (.inr (0, 8, fun b9 => .int (nI (r4 b9)))) := (hag9 _ (by omega)).trans h4
  have h5 : F1 (m + 5) = some (.inr (0, 8, fun b9 => .int (nI (w5 b9)))) := (hag9 _ (by omega)).trans h5
  have h6 : F1 (m + 6) = some (.inr (0, 112, fun b9 => .int (nI (b6 b9)))) := (hag9 _ (by omega)).trans h6
  have h7 : F1 (m + 7) = some (.inr (0, 16, fun b9 => .int (nI (d7 b9)))) := (hag9 _ (by omega)).trans h7
  have h8 : F1 (m + 8) = some (.inr (0, 17, fun b9 => .int (nI (b8 b9)))) := (hag9 _ (by omega)).trans h8
  have h9 : F1 (m + 9) = some (.inr (1, 40, fun b9 => .int (nI (ln b9)))) := (hag9 _ (by omega)).trans h9
  have hi : F1 (m + 10) = some (.inr (1, 60, fun b9 => .int (nI (ip b9)))) := (hag9 _ (by omega)).trans hi
  have hcm : F1 (m + 11) = some (.inr (0, 183, fun b9 => .int (nI (cs b9)))) := (hag9 _ (by omega)).trans hcm
  have o0 : F1 (m) = some (.inl (10, [.int (nI ((if (0 ≤ i ∧ i < nI A.2.1.1) then 0 else 1))), .ref (m + 1), .int (nI (un)), .int (nI (sv)), .int rs, .ref (m + 2), .ref (m + 3), .ref (m + 4), .ref (m + 5), .ref (m + 6), .int (nI (bm)), .ref (m + 7), .int (nI (dm)), .ref (m + 8), .ref (m + 9), .int (nI (lnn)), .ref (m + 10), .int (nI (pn)), .int (nI (he)), .int er, .int ep, .int fc, .ref (m + 11), .int (nI (cn))])) := j0
  have hag : ∀ a9 : Nat, (a9 < m ∨ m + 12 ≤ a9) → F1 a9 = F a9 := fun a9 q0 => (hag9 a9 (by omega)).trans (hag a9 q0)
  have hg_14 := hag9
  clear hag9
  refine x_ifB_eq hC d_MessageCoderModel_draftAt_17 (tgt := 36) (by decide) (fun c_17 => ?_) (fun c_17 => ?_)
  · skip
    refine x_iconst hC d_MessageCoderModel_draftAt_36 (v := nI 0) (by decide) ?_
    exact hret _ _ _ _ _ _ _ d_MessageCoderModel_draftAt_37 (by decide) (by decide) (x_char _ (by omega)) (⟨congrArg (fun q => some (Value.int (nI q))) ((if_neg c_17).symm), rfl, ⟨_, _, _, _, _, _, _, _, _, _, _, _, _, _, _, _, _, o0, ga, h2, h3, h4, h5, h6, h7, h8, h9, hi, hcm, hg, hln, hip⟩, hag⟩)
  · skip
    have hie := i2n_of c_17.1
    have hi9 : i.toNatClampNeg < A.2.1.1 := i2n_lt c_17.1 c_17.2 (by omega)
    obtain ⟨hs7, hs8⟩ := iA.2.2.1 _ hi9
    have hq9 := hr.2.2.1 _ hi9
    refine x_bipush hC d_MessageCoderModel_draftAt_20 (v := nI 97) (by decide) ?_
    refine x_aload_n hC d_MessageCoderModel_draftAt_22 rfl rfl ?_
    refine x_getf hC kf_MessageCoderModel_9 o0 rfl d_MessageCoderModel_draftAt_23 ?_
    refine x_bipush hC d_MessageCoderModel_draftAt_26 (v := nI 18) (by decide) ?_
    refine x_iload_n hC d_MessageCoderModel_draftAt_28 rfl rfl ?_
    refine x_top (v := (nI (i.toNatClampNeg))) hie ?_
    refine x_iadd hC d_MessageCoderModel_draftAt_29 (v := (nI ((18) + (i.toNatClampNeg)))) (x_addN (by omega)) ?_
    refine x_iald hC ga (j := (18) + (i.toNatClampNeg)) ⟨rfl, by omega, by omega⟩ (x := nI (g ((18) + (i.toNatClampNeg)))) rfl d_MessageCoderModel_draftAt_30 ?_
    refine x_iadd hC d_MessageCoderModel_draftAt_31 (v := (nI (A.2.1.2 i.toNatClampNeg))) (by rw [nI_add]; exact congrArg nI (by omega)) ?_
    refine x_i2c hC d_MessageCoderModel_draftAt_32 (v := (nI (A.2.1.2 i.toNatClampNeg))) (x_i2cN (by omega)) ?_
    refine x_goto hC d_MessageCoderModel_draftAt_33 (tgt := 37) (by decide) ?_
    exact hret _ _ _ _ _ _ _ d_MessageCoderModel_draftAt_37 (by decide) (by decide) (x_char _ (by omega)) (⟨congrArg (fun q => some (Value.int (nI q))) ((if_pos c_17).symm), rfl, ⟨_, _, _, _, _, _, _, _, _, _, _, _, _, _, _, _, _, o0, ga, h2, h3, h4, h5, h6, h7, h8, h9, hi, hcm, hg, hln, hip⟩, hag⟩)

theorem d_MessageCoderModel_draftBits_0 : decode prog_14_method_67_code 0 = .ok (.aload_n 0, 1) := by decide +kernel
theorem d_MessageCoderModel_draftBits_1 : decode prog_14_method_67_code 1 = .ok (.iconst 0, 1) := by decide +kernel
theorem d_MessageCoderModel_draftBits_2 : decode prog_14_method_67_code 2 = .ok (.putfield 51, 3) := by decide +kernel
theorem d_MessageCoderModel_draftBits_5 : decode prog_14_method_67_code 5 = .ok (.aload_n 0, 1) := by decide +kernel
theorem d_MessageCoderModel_draftBits_6 : decode prog_14_method_67_code 6 = .ok (.invokevirtual 91, 3) := by decide +kernel
theorem d_MessageCoderModel_draftBits_9 : decode prog_14_method_67_code 9 = .ok (.iconst 0, 1) := by decide +kernel
theorem d_MessageCoderModel_draftBits_10 : decode prog_14_method_67_code 10 = .ok (.istore_n 1, 1) := by decide +kernel
theorem d_MessageCoderModel_draftBits_11 : decode prog_14_method_67_code 11 = .ok (.iconst 0, 1) := by decide +kernel
theorem d_MessageCoderModel_draftBits_12 : decode prog_14_method_67_code 12 = .ok (.istore_n 2, 1) := by decide +kernel
theorem d_MessageCoderModel_draftBits_13 : decode prog_14_method_67_code 13 = .ok (.iload_n 2, 1) := by decide +kernel
theorem d_MessageCoderModel_draftBits_14 : decode prog_14_method_67_code 14 = .ok (.aload_n 0, 1) := by decide +kernel
theorem d_MessageCoderModel_draftBits_15 : decode prog_14_method_67_code 15 = .ok (.getfield 9, 3) := by decide +kernel
theorem d_MessageCoderModel_draftBits_18 : decode prog_14_method_67_code 18 = .ok (.iconst 0, 1) := by decide +kernel
theorem d_MessageCoderModel_draftBits_19 : decode prog_14_method_67_code 19 = .ok (.iaload, 1) := by decide +kernel
theorem d_MessageCoderModel_draftBits_20 : decode prog_14_method_67_code 20 = .ok (.if_icmp .ge 26, 3) := by decide +kernel
theorem d_MessageCoderModel_draftBits_23 : decode prog_14_method_67_code 23 = .ok (.iload_n 1, 1) := by decide +kernel
theorem d_MessageCoderModel_draftBits_24 : decode prog_14_method_67_code 24 = .ok (.aload_n 0, 1) := by decide +kernel
theorem d_MessageCoderModel_draftBits_25 : decode prog_14_method_67_code 25 = .ok (.getfield 13, 3) := by decide +kernel
theorem d_MessageCoderModel_draftBits_28 : decode prog_14_method_67_code 28 = .ok (.aload_n 0, 1) := by decide +kernel
theorem d_MessageCoderModel_draftBits_29 : decode prog_14_method_67_code 29 = .ok (.getfield 9, 3) := by decide +kernel
theorem d_MessageCoderModel_draftBits_32 : decode prog_14_method_67_code 32 = .ok (.bipush 18, 2) := by decide +kernel
theorem d_MessageCoderModel_draftBits_34 : decode prog_14_method_67_code 34 = .ok (.iload_n 2, 1) := by decide +kernel
theorem d_MessageCoderModel_draftBits_35 : decode prog_14_method_67_code 35 = .ok (.iadd, 1) := by decide +kernel
theorem d_MessageCoderModel_draftBits_36 : decode prog_14_method_67_code 36 = .ok (.iaload, 1) := by decide +kernel
theorem d_MessageCoderModel_draftBits_37 : decode prog_14_method_67_code 37 = .ok (.iaload, 1) := by decide +kernel
theorem d_MessageCoderModel_draftBits_38 : decode prog_14_method_67_code 38 = .ok (.iadd, 1) := by decide +kernel
theorem d_MessageCoderModel_draftBits_39 : decode prog_14_method_67_code 39 = .ok (.istore_n 1, 1) := by decide +kernel
theorem d_MessageCoderModel_draftBits_40 : decode prog_14_method_67_code 40 = .ok (.iinc 2 1, 3) := by decide +kernel
theorem d_MessageCoderModel_draftBits_43 : decode prog_14_method_67_code 43 = .ok (.goto (-30), 3) := by decide +kernel
theorem d_MessageCoderModel_draftBits_46 : decode prog_14_method_67_code 46 = .ok (.iload_n 1, 1) := by decide +kernel
theorem d_MessageCoderModel_draftBits_47 : decode prog_14_method_67_code 47 = .ok (.ireturn, 1) := by decide +kernel
set_option maxHeartbeats 4000000 in
set_option maxRecDepth 20000 in
theorem c_MessageCoderModel_draftBits {P : xP} {F : xF} {z : Nat} {m : Nat} {th0 : Nat} {M : mcS} (hD : xMD F (m) (th0) (M)) (hI : mInv M) : xM P xy_MessageCoderModel_draftBits [.ref m] F (z) 0 0 (fun r9 F9 z9 => r9 = some (.int (nI (bitsN (hLen M.1.1) M.1.2.1.2 M.1.2.1.1))) ∧ z9 = z ∧ xMD F9 (m) (0) (M) ∧ (∀ a9 : Nat, (a9 < m ∨ m + 12 ≤ a9) → F9 a9 = F a9)) := by
  refine xM_i .int rfl (Nat.le_of_ble_eq_true rfl) (L0 := [some (.ref m), none, none]) rfl rfl fun Θ hC hret => ?_
  have hag : ∀ a9 : Nat, (a9 < m ∨ m + 12 ≤ a9) → F a9 = F a9 := fun a9 _ => rfl
  obtain ⟨A, S, past, ⟨pn, psg⟩, ⟨lnn, lsg⟩, sv, pp, un, ep, fc⟩ := M
  obtain ⟨rs, er, bm, dm, he, cn, g, l2, v3, r4, w5, b6, d7, b8, ln, ip, cs, o0, ga, h2, h3, h4, h5, h6, h7, h8, h9, hi, hcm, hg, hln, hip⟩ := id hD
  obtain ⟨iA, iP, iS, hu8, hup, hs1, hty, hlz, hic, hlc⟩ := id hI
  have o0 : F (m) = some (.inl (10, [.int (nI (th0)), .ref (m + 1), .int (nI (un)), .int (nI (sv)), .int rs, .ref (m + 2), .ref (m + 3), .ref (m + 4), .ref (m + 5), .ref (m + 6), .int (nI (bm)), .ref (m + 7), .int (nI (dm)), .ref (m + 8), .ref (m + 9), .int (nI (lnn)), .ref (m + 10), .int (nI (pn)), .int (nI (he)), .int er, .int ep, .int fc, .ref (m + 11), .int (nI (cn))])) := o0
  have ga : F (m + 1) = some (.inr (0, 4730, fun b9 => .int (nI (g b9)))) := ga
  have h2 : F (m + 2) = some (.inr (0, 8, fun b9 => .int (nI (l2 b9)))) := h2
  have h3 : F (m + 3) = some (.inr (0, 8, fun b9 => .int (nI (v3 b9)))) := h3
  have h4 : F (m + 4) = some (.inr (0, 8, fun b9 => .int (nI (r4 b9)))) := h4
  have h5 : F (m + 5) = some (.inr (0, 8, fun b9 => .int (nI (w5 b9)))) := h5
  have h6 : F (m + 6) = some (.inr (0, 112, fun b9 => .int (nI (b6 b9)))) := h6
  have h7 : F (m + 7) = some (.inr (0, 16, fun b9 => .int (nI (d7 b9)))) := h7
  have h8 : F (m + 8) = some (.inr (0, 17, fun b9 => .int (nI (b8 b9)))) := h8
  have h9 : F (m + 9) = some (.inr (1, 40, fun b9 => .int (nI (ln b9)))) := h9
  have hi : F (m + 10) = some (.inr (1, 60, fun b9 => .int (nI (ip b9)))) := hi
  have hcm : F (m + 11) = some (.inr (0, 183, fun b9 => .int (nI (cs b9)))) := hcm
  have hln : ∀ j, j < lnn → ln j = lsg j := hln
  have hip : ∀ j, j < pn → ip j = psg j := hip
  have iA : aInv A := iA
  have hu8 : un ≤ 8 := hu8
  have hup : un ≤ pp := hup
  have hs1 : sv ≤ 1 := hs1
  have hty : pn ≤ 60 := hty
  have hlz : lnn ≤ 32 := hlz
  have hr : rRow g A := hg.1
  have u1 := iA.1.1
  refine x_aload_n hC d_MessageCoderModel_draftBits_0 rfl rfl ?_
  refine x_iconst hC d_MessageCoderModel_draftBits_1 (v := nI 0) (by decide) ?_
  refine x_putf hC kf_MessageCoderModel_51 o0 (Nat.le_of_ble_eq_true rfl) rfl rfl d_MessageCoderModel_draftBits_2 (fs1 := [.int (nI 0), .ref (m + 1), .int (nI (un)), .int (nI (sv)), .int rs, .ref (m + 2), .ref (m + 3), .ref (m + 4), .ref (m + 5), .ref (m + 6), .int (nI (bm)), .ref (m + 7), .int (nI (dm)), .ref (m + 8), .ref (m + 9), .int (nI (lnn)), .ref (m + 10), .int (nI (pn)), .int (nI (he)), .int er, .int ep, .int fc, .ref (m + 11), .int (nI (cn))]) rfl ?_
  generalize e1 : xup F (m) (.inl (10, [.int (nI 0), .ref (m + 1), .int (nI (un)), .int (nI (sv)), .int rs, .ref (m + 2), .ref (m + 3), .ref (m + 4), .ref (m + 5), .ref (m + 6), .int (nI (bm)), .ref (m + 7), .int (nI (dm)), .ref (m + 8), .ref (m + 9), .int (nI (lnn)), .ref (m + 10), .int (nI (pn)), .int (nI (he)), .int er, .int ep, .int fc, .ref (m + 11), .int (nI (cn))])) = F1
  have o0 : F1 (m) = some (.inl (10, [.int (nI 0), .ref (m + 1), .int (nI (un)), .int (nI (sv)), .int rs, .ref (m + 2), .ref (m + 3), .ref (m + 4), .ref (m + 5), .ref (m + 6), .int (nI (bm)), .ref (m + 7), .int (nI (dm)), .ref (m + 8), .ref (m + 9), .int (nI (lnn)), .ref (m + 10), .int (nI (pn)), .int (nI (he)), .int er, .int ep, .int fc, .ref (m + 11), .int (nI (cn))])) := by rw [← e1]; exact xup_eq
  have ga : F1 (m + 1) = some (.inr (0, 4730, fun b9 => .int (nI (g b9)))) := by rw [← e1]; exact (xup_ne (by omega)).trans ga
  have h2 : F1 (m + 2) = some (.inr (0, 8, fun b9 => .int (nI (l2 b9)))) := by rw [← e1]; exact (xup_ne (by omega)).trans h2
  have h3 : F1 (m + 3) = some (.inr (0, 8, fun b9 => .int (nI (v3 b9)))) := by rw [← e1]; exact (xup_ne (by omega)).trans h3
  have h4 : F1 (m + 4) = some (.inr (0, 8, fun b9 => .int (nI (r4 b9)))) := by rw [← e1]; exact (xup_ne (by omega)).trans h4
  have h5 : F1 (m + 5) = some (.inr (0, 8, fun b9 => .int (nI (w5 b9)))) := by rw [← e1]; exact (xup_ne (by omega)).trans h5
  have h6 : F1 (m + 6) = some (.inr (0, 112, fun b9 => .int (nI (b6 b9)))) := by rw [← e1]; exact (xup_ne (by omega)).trans h6
  have h7 : F1 (m + 7) = some (.inr (0, 16, fun b9 => .int (nI (d7 b9)))) := by rw [← e1]; exact (xup_ne (by omega)).trans h7
  have h8 : F1 (m + 8) = some (.inr (0, 17, fun b9 => .int (nI (b8 b9)))) := by rw [← e1]; exact (xup_ne (by omega)).trans h8
  have h9 : F1 (m + 9) = some (.inr (1, 40, fun b9 => .int (nI (ln b9)))) := by rw [← e1]; exact (xup_ne (by omega)).trans h9
  have hi : F1 (m + 10) = some (.inr (1, 60, fun b9 => .int (nI (ip b9)))) := by rw [← e1]; exact (xup_ne (by omega)).trans hi
  have hcm : F1 (m + 11) = some (.inr (0, 183, fun b9 => .int (nI (cs b9)))) := by rw [← e1]; exact (xup_ne (by omega)).trans hcm
  have hag : ∀ a9 : Nat, (a9 < m ∨ m + 12 ≤ a9) → F1 a9 = F a9 := fun a9 q0 => by rw [← e1]; exact (xup_ne (by omega)).trans (hag a9 q0)
  refine x_aload_n hC d_MessageCoderModel_draftBits_5 rfl rfl ?_
  refine x_callV hC kv_MessageCoderModel_91 (c_MessageCoderModel_codes (o0 := o0) (ga := ga) (h2 := h2) (h3 := h3) (h4 := h4) (h5 := h5) (hw := hr.2.1) (hw9 := fun j hj => (iA.2.1 j hj).2) (w := A.1)) o0 rfl rfl (by decide) rfl rfl rfl (Nat.le_of_ble_eq_true rfl) (by decide) d_MessageCoderModel_draftBits_6 (fun r9 F9 z9 hp9 => ?_)
  obtain ⟨ln1_6, vl1_6, gr1_6, gw1_6, rfl, h9c, j0, j1, j2, j3, j4, j5, pk_6, hag9⟩ := hp9
  rw [h9c]
  clear h9c z9
  generalize F9 = F2 at *
  have h6 : F2 (m + 6) = some (.inr (0, 112, fun b9 => .int (nI (b6 b9)))) := (hag9 _ (by omega)).trans h6
  have h7 : F2 (m + 7) = some (.inr (0, 16, fun b9 => .int (nI (d7 b9)))) := (hag9 _ (by omega)).trans h7
  have h8 : F2 (m + 8) = some (.inr (0, 17, fun b9 => .int (nI (b8 b9)))) := (hag9 _ (by omega)).trans h8
  have h9 : F2 (m + 9) = some (.inr (1, 40, fun b9 => .int (nI (ln b9)))) := (hag9 _ (by omega)).trans h9
  have hi : F2 (m + 10) = some (.inr (1, 60, fun b9 => .int (nI (ip b9)))) := (hag9 _ (by omega)).trans hi
  have hcm : F2 (m + 11) = some (.inr (0, 183, fun b9 => .int (nI (cs b9)))) := (hag9 _ (by omega)).trans hcm
  have o0 : F2 (m) = some (.inl (10, [.int (nI 0), .ref (m + 1), .int (nI (un)), .int (nI (sv)), .int rs, .ref (m + 2), .ref (m + 3), .ref (m + 4), .ref (m + 5), .ref (m + 6), .int (nI (bm)), .ref (m + 7), .int (nI (dm)), .ref (m + 8), .ref (m + 9), .int (nI (lnn)), .ref (m + 10), .int (nI (pn)), .int (nI (he)), .int er, .int ep, .int fc, .ref (m + 11), .int (nI (cn))])) := j0
  have ga : F2 (m + 1) = some (.inr (0, 4730, fun b9 => .int (nI (g b9)))) := j1
  have h2 : F2 (m + 2) = some (.inr (0, 8, fun b9 => .int (nI (ln1_6 b9)))) := j2
  have h3 : F2 (m + 3) = some (.inr (0, 8, fun b9 => .int (nI (vl1_6 b9)))) := j3
  have h4 : F2 (m + 4) = some (.inr (0, 8, fun b9 => .int (nI (gr1_6 b9)))) := j4
  have h5 : F2 (m + 5) = some (.inr (0, 8, fun b9 => .int (nI (gw1_6 b9)))) := j5
  have hag : ∀ a9 : Nat, (a9 < m ∨ m + 12 ≤ a9) → F2 a9 = F a9 := fun a9 q0 => (hag9 a9 (by omega)).trans (hag a9 q0)
  have hg_6 := hag9
  clear hag9
  refine x_iconst hC d_MessageCoderModel_draftBits_9 (v := nI 0) (by decide) ?_
  refine x_istore_n hC d_MessageCoderModel_draftBits_10 rfl (Nat.le_of_ble_eq_true rfl) (L1 := [some (.ref m), some (.int (nI 0)), none]) rfl ?_
  refine x_iconst hC d_MessageCoderModel_draftBits_11 (v := nI 0) (by decide) ?_
  refine x_istore_n hC d_MessageCoderModel_draftBits_12 rfl (Nat.le_of_ble_eq_true rfl) (L1 := [some (.ref m), some (.int (nI 0)), some (.int (nI 0))]) rfl ?_
  have loop_13 : ∀ (m9 : Nat) (Fh13 : xF) (i : Nat) (t : Nat), (Fh13 (m) = some (.inl (10, [.int (nI 0), .ref (m + 1), .int (nI (un)), .int (nI (sv)), .int rs, .ref (m + 2), .ref (m + 3), .ref (m + 4), .ref (m + 5), .ref (m + 6), .int (nI (bm)), .ref (m + 7), .int (nI (dm)), .ref (m + 8), .ref (m + 9), .int (nI (lnn)), .ref (m + 10), .int (nI (pn)), .int (nI (he)), .int er, .int ep, .int fc, .ref (m + 11), .int (nI (cn))]))) → (Fh13 (m + 1) = some (.inr (0, 4730, fun b9 => .int (nI (g b9))))) → (Fh13 (m + 2) = some (.inr (0, 8, fun b9 => .int (nI (ln1_6 b9))))) → (Fh13 (m + 3) = some (.inr (0, 8, fun b9 => .int (nI (vl1_6 b9))))) → (Fh13 (m + 4) = some (.inr (0, 8, fun b9 => .int (nI (gr1_6 b9))))) → (Fh13 (m + 5) = some (.inr (0, 8, fun b9 => .int (nI (gw1_6 b9))))) → (Fh13 (m + 6) = some (.inr (0, 112, fun b9 => .int (nI (b6 b9))))) → (Fh13 (m + 7) = some (.inr (0, 16, fun b9 => .int (nI (d7 b9))))) → (Fh13 (m + 8) = some (.inr (0, 17, fun b9 => .int (nI (b8 b9))))) → (Fh13 (m + 9) = some (.inr (1, 40, fun b9 => .int (nI (ln b9))))) → (Fh13 (m + 10) = some (.inr (1, 60, fun b9 => .int (nI (ip b9))))) → (Fh13 (m + 11) = some (.inr (0, 183, fun b9 => .int (nI (cs b9))))) → (∀ a9 : Nat, (a9 < m ∨ m + 12 ≤ a9) → Fh13 a9 = F a9) → (i ≤ A.2.1.1) → (t = bitsN (hLen A.1) A.2.1.2 i) → (t ≤ 7 * i) → (A.2.1.1 - i < m9) → xX P Θ 13 [some (.ref m), some (.int (nI (t))), some (.int (nI (i)))] [] Fh13 (z) 0 0 := by
    intro m9
    induction m9 with
    | zero => intros; omega
    | succ m9 ih_13 =>
      intro Fh13 i t o0 ga h2 h3 h4 h5 h6 h7 h8 h9 hi hcm hag hi8 kt kb hm_13
      refine x_iload_n hC d_MessageCoderModel_draftBits_13 rfl rfl ?_
      refine x_aload_n hC d_MessageCoderModel_draftBits_14 rfl rfl ?_
      refine x_getf hC kf_MessageCoderModel_9 o0 rfl d_MessageCoderModel_draftBits_15 ?_
      refine x_iconst hC d_MessageCoderModel_draftBits_18 (v := nI 0) (by decide) ?_
      refine x_iald hC ga (j := 0) ⟨rfl, by omega, by omega⟩ (x := nI (A.2.1.1)) (congrArg nI hr.1.1) d_MessageCoderModel_draftBits_19 ?_
      refine x_icmpN_ge hC d_MessageCoderModel_draftBits_20 (tgt := 46) (by decide) (by omega) (by omega) (fun c_20 => ?_) (fun c_20 => ?_)
      · skip
        have e8 : i = A.2.1.1 := by omega
        refine x_iload_n hC d_MessageCoderModel_draftBits_46 rfl rfl ?_
        exact hret _ _ _ _ _ _ _ d_MessageCoderModel_draftBits_47 (by decide) (by decide) rfl (⟨congrArg (fun q => some (Value.int (nI q))) ((by rw [kt, e8])), rfl, ⟨_, _, _, _, _, _, _, _, _, _, _, _, _, _, _, _, _, o0, ga, h2, h3, h4, h5, h6, h7, h8, h9, hi, hcm, hg, hln, hip⟩, hag⟩)
      · skip
        have hsy := iA.2.2.1 i (by omega)
        have hq9 := hr.2.2.1 i (by omega)
        have hli := hLen_7 A.1 (show A.2.1.2 i - 97 < 8 by unfold isSy at hsy; omega)
        obtain ⟨hs7, hs8⟩ := id hsy
        refine x_iload_n hC d_MessageCoderModel_draftBits_23 rfl rfl ?_
        refine x_aload_n hC d_MessageCoderModel_draftBits_24 rfl rfl ?_
        refine x_getf hC kf_MessageCoderModel_13 o0 rfl d_MessageCoderModel_draftBits_25 ?_
        refine x_aload_n hC d_MessageCoderModel_draftBits_28 rfl rfl ?_
        refine x_getf hC kf_MessageCoderModel_9 o0 rfl d_MessageCoderModel_draftBits_29 ?_
        refine x_bipush hC d_MessageCoderModel_draftBits_32 (v := nI 18) (by decide) ?_
        refine x_iload_n hC d_MessageCoderModel_draftBits_34 rfl rfl ?_
        refine x_iadd hC d_MessageCoderModel_draftBits_35 (v := (nI (18 + i))) (x_addN (by omega)) ?_
        refine x_iald hC ga (j := 18 + i) ⟨rfl, by omega, by omega⟩ (x := nI (A.2.1.2 i - 97)) (congrArg nI (by omega)) d_MessageCoderModel_draftBits_36 ?_
        refine x_iald hC h2 (j := A.2.1.2 i - 97) ⟨rfl, by omega, by omega⟩ (x := nI (hLen A.1 (A.2.1.2 i - 97))) (congrArg nI (pk_6 _ (by omega)).1) d_MessageCoderModel_draftBits_37 ?_
        refine x_iadd hC d_MessageCoderModel_draftBits_38 (v := (nI ((t) + (hLen A.1 (A.2.1.2 i - 97))))) (x_addN (by omega)) ?_
        refine x_istore_n hC d_MessageCoderModel_draftBits_39 rfl (Nat.le_of_ble_eq_true rfl) (L1 := [some (.ref m), some (.int (nI ((t) + (hLen A.1 (A.2.1.2 i - 97))))), some (.int (nI (i)))]) rfl ?_
        refine x_iinc hC d_MessageCoderModel_draftBits_40 rfl (v := (nI (i + 1))) (x_incN 1) (Nat.le_of_ble_eq_true rfl) (L1 := [some (.ref m), some (.int (nI ((t) + (hLen A.1 (A.2.1.2 i - 97))))), some (.int (nI (i + 1)))]) rfl ?_
        refine x_goto hC d_MessageCoderModel_draftBits_43 (tgt := 13) (by decide) ?_
        exact ih_13 Fh13 (i + 1) (t + hLen A.1 (A.2.1.2 i - 97)) o0 ga h2 h3 h4 h5 h6 h7 h8 h9 hi hcm hag (by omega) (by rw [kt]; exact congrArg (fun q => bitsN (hLen A.1) A.2.1.2 i + q) (lenF_sy hsy).symm) (by omega) (by omega)
  exact loop_13 (A.2.1.1 - 0 + 1) F2 (0) (0) o0 ga h2 h3 h4 h5 h6 h7 h8 h9 hi hcm hag (by omega) (rfl) (by omega) (by omega)

